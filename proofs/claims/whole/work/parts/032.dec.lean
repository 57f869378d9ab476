theorem dX11_init_0 : decode cX11_init 0 = .ok (.aload_n 0, 1) := by decide +kernel
theorem dX11_init_1 : decode cX11_init 1 = .ok (.invokespecial 1, 3) := by decide +kernel
theorem dX11_init_4 : decode cX11_init 4 = .ok (.aload_n 0, 1) := by decide +kernel
theorem dX11_init_5 : decode cX11_init 5 = .ok (.new 7, 3) := by decide +kernel
theorem dX11_init_8 : decode cX11_init 8 = .ok (.dup, 1) := by decide +kernel
theorem dX11_init_9 : decode cX11_init 9 = .ok (.invokespecial 9, 3) := by decide +kernel
theorem dX11_init_12 : decode cX11_init 12 = .ok (.putfield 10, 3) := by decide +kernel
theorem dX11_init_15 : decode cX11_init 15 = .ok (.aload_n 0, 1) := by decide +kernel
theorem dX11_init_16 : decode cX11_init 16 = .ok (.iconst 0, 1) := by decide +kernel
theorem dX11_init_17 : decode cX11_init 17 = .ok (.putfield 16, 3) := by decide +kernel
theorem dX11_init_20 : decode cX11_init 20 = .ok (.aload_n 0, 1) := by decide +kernel
theorem dX11_init_21 : decode cX11_init 21 = .ok (.new 20, 3) := by decide +kernel
theorem dX11_init_24 : decode cX11_init 24 = .ok (.dup, 1) := by decide +kernel
theorem dX11_init_25 : decode cX11_init 25 = .ok (.invokespecial 22, 3) := by decide +kernel
theorem dX11_init_28 : decode cX11_init 28 = .ok (.putfield 23, 3) := by decide +kernel
theorem dX11_init_31 : decode cX11_init 31 = .ok (.aload_n 0, 1) := by decide +kernel
theorem dX11_init_32 : decode cX11_init 32 = .ok (.new 27, 3) := by decide +kernel
theorem dX11_init_35 : decode cX11_init 35 = .ok (.dup, 1) := by decide +kernel
theorem dX11_init_36 : decode cX11_init 36 = .ok (.invokespecial 29, 3) := by decide +kernel
theorem dX11_init_39 : decode cX11_init 39 = .ok (.putfield 30, 3) := by decide +kernel
theorem dX11_init_42 : decode cX11_init 42 = .ok (.aload_n 0, 1) := by decide +kernel
theorem dX11_init_43 : decode cX11_init 43 = .ok (.new 27, 3) := by decide +kernel
theorem dX11_init_46 : decode cX11_init 46 = .ok (.dup, 1) := by decide +kernel
theorem dX11_init_47 : decode cX11_init 47 = .ok (.invokespecial 29, 3) := by decide +kernel
theorem dX11_init_50 : decode cX11_init 50 = .ok (.putfield 34, 3) := by decide +kernel
theorem dX11_init_53 : decode cX11_init 53 = .ok (.aload_n 0, 1) := by decide +kernel
theorem dX11_init_54 : decode cX11_init 54 = .ok (.new 37, 3) := by decide +kernel
theorem dX11_init_57 : decode cX11_init 57 = .ok (.dup, 1) := by decide +kernel
theorem dX11_init_58 : decode cX11_init 58 = .ok (.invokespecial 39, 3) := by decide +kernel
theorem dX11_init_61 : decode cX11_init 61 = .ok (.putfield 40, 3) := by decide +kernel
theorem dX11_init_64 : decode cX11_init 64 = .ok (.aload_n 0, 1) := by decide +kernel
theorem dX11_init_65 : decode cX11_init 65 = .ok (.new 44, 3) := by decide +kernel
theorem dX11_init_68 : decode cX11_init 68 = .ok (.dup, 1) := by decide +kernel
theorem dX11_init_69 : decode cX11_init 69 = .ok (.invokespecial 46, 3) := by decide +kernel
theorem dX11_init_72 : decode cX11_init 72 = .ok (.putfield 47, 3) := by decide +kernel
theorem dX11_init_75 : decode cX11_init 75 = .ok (.aload_n 0, 1) := by decide +kernel
theorem dX11_init_76 : decode cX11_init 76 = .ok (.iconst 0, 1) := by decide +kernel
theorem dX11_init_77 : decode cX11_init 77 = .ok (.putfield 51, 3) := by decide +kernel
theorem dX11_init_80 : decode cX11_init 80 = .ok (.aload_n 0, 1) := by decide +kernel
theorem dX11_init_81 : decode cX11_init 81 = .ok (.new 27, 3) := by decide +kernel
theorem dX11_init_84 : decode cX11_init 84 = .ok (.dup, 1) := by decide +kernel
theorem dX11_init_85 : decode cX11_init 85 = .ok (.invokespecial 29, 3) := by decide +kernel
theorem dX11_init_88 : decode cX11_init 88 = .ok (.putfield 55, 3) := by decide +kernel
theorem dX11_init_91 : decode cX11_init 91 = .ok (.aload_n 0, 1) := by decide +kernel
theorem dX11_init_92 : decode cX11_init 92 = .ok (.new 37, 3) := by decide +kernel
theorem dX11_init_95 : decode cX11_init 95 = .ok (.dup, 1) := by decide +kernel
theorem dX11_init_96 : decode cX11_init 96 = .ok (.invokespecial 39, 3) := by decide +kernel
theorem dX11_init_99 : decode cX11_init 99 = .ok (.putfield 58, 3) := by decide +kernel
theorem dX11_init_102 : decode cX11_init 102 = .ok (.aload_n 0, 1) := by decide +kernel
theorem dX11_init_103 : decode cX11_init 103 = .ok (.new 44, 3) := by decide +kernel
theorem dX11_init_106 : decode cX11_init 106 = .ok (.dup, 1) := by decide +kernel
theorem dX11_init_107 : decode cX11_init 107 = .ok (.invokespecial 46, 3) := by decide +kernel
theorem dX11_init_110 : decode cX11_init 110 = .ok (.putfield 61, 3) := by decide +kernel
theorem dX11_init_113 : decode cX11_init 113 = .ok (.aload_n 0, 1) := by decide +kernel
theorem dX11_init_114 : decode cX11_init 114 = .ok (.new 64, 3) := by decide +kernel
theorem dX11_init_117 : decode cX11_init 117 = .ok (.dup, 1) := by decide +kernel
theorem dX11_init_118 : decode cX11_init 118 = .ok (.invokespecial 66, 3) := by decide +kernel
theorem dX11_init_121 : decode cX11_init 121 = .ok (.putfield 67, 3) := by decide +kernel
theorem dX11_init_124 : decode cX11_init 124 = .ok (.aload_n 0, 1) := by decide +kernel
theorem dX11_init_125 : decode cX11_init 125 = .ok (.new 71, 3) := by decide +kernel
theorem dX11_init_128 : decode cX11_init 128 = .ok (.dup, 1) := by decide +kernel
theorem dX11_init_129 : decode cX11_init 129 = .ok (.invokespecial 73, 3) := by decide +kernel
theorem dX11_init_132 : decode cX11_init 132 = .ok (.putfield 74, 3) := by decide +kernel
theorem dX11_init_135 : decode cX11_init 135 = .ok (.aload_n 0, 1) := by decide +kernel
theorem dX11_init_136 : decode cX11_init 136 = .ok (.iconst 3, 1) := by decide +kernel
theorem dX11_init_137 : decode cX11_init 137 = .ok (.newarray .int, 2) := by decide +kernel
theorem dX11_init_139 : decode cX11_init 139 = .ok (.putfield 78, 3) := by decide +kernel
theorem dX11_init_142 : decode cX11_init 142 = .ok (.aload_n 0, 1) := by decide +kernel
theorem dX11_init_143 : decode cX11_init 143 = .ok (.iconst (-1), 1) := by decide +kernel
theorem dX11_init_144 : decode cX11_init 144 = .ok (.putfield 82, 3) := by decide +kernel
theorem dX11_init_147 : decode cX11_init 147 = .ok (.return_, 1) := by decide +kernel
theorem dX11_feed_0 : decode cX11_feed 0 = .ok (.aload_n 0, 1) := by decide +kernel
theorem dX11_feed_1 : decode cX11_feed 1 = .ok (.getfield 16, 3) := by decide +kernel
theorem dX11_feed_4 : decode cX11_feed 4 = .ok (.bipush 20, 2) := by decide +kernel
theorem dX11_feed_6 : decode cX11_feed 6 = .ok (.iadd, 1) := by decide +kernel
theorem dX11_feed_7 : decode cX11_feed 7 = .ok (.sipush 700, 3) := by decide +kernel
theorem dX11_feed_10 : decode cX11_feed 10 = .ok (.if_icmp .le 5, 3) := by decide +kernel
theorem dX11_feed_13 : decode cX11_feed 13 = .ok (.iconst (-1), 1) := by decide +kernel
theorem dX11_feed_14 : decode cX11_feed 14 = .ok (.ireturn, 1) := by decide +kernel
theorem dX11_feed_15 : decode cX11_feed 15 = .ok (.aload_n 0, 1) := by decide +kernel
theorem dX11_feed_16 : decode cX11_feed 16 = .ok (.iload_n 1, 1) := by decide +kernel
theorem dX11_feed_17 : decode cX11_feed 17 = .ok (.invokevirtual 85, 3) := by decide +kernel
theorem dX11_feed_20 : decode cX11_feed 20 = .ok (.aload_n 0, 1) := by decide +kernel
theorem dX11_feed_21 : decode cX11_feed 21 = .ok (.iload_n 2, 1) := by decide +kernel
theorem dX11_feed_22 : decode cX11_feed 22 = .ok (.invokevirtual 85, 3) := by decide +kernel
theorem dX11_feed_25 : decode cX11_feed 25 = .ok (.aload_n 0, 1) := by decide +kernel
theorem dX11_feed_26 : decode cX11_feed 26 = .ok (.iload_n 3, 1) := by decide +kernel
theorem dX11_feed_27 : decode cX11_feed 27 = .ok (.invokevirtual 85, 3) := by decide +kernel
theorem dX11_feed_30 : decode cX11_feed 30 = .ok (.aload_n 0, 1) := by decide +kernel
theorem dX11_feed_31 : decode cX11_feed 31 = .ok (.iload 4, 2) := by decide +kernel
theorem dX11_feed_33 : decode cX11_feed 33 = .ok (.invokevirtual 85, 3) := by decide +kernel
theorem dX11_feed_36 : decode cX11_feed 36 = .ok (.aload_n 0, 1) := by decide +kernel
theorem dX11_feed_37 : decode cX11_feed 37 = .ok (.iload 5, 2) := by decide +kernel
theorem dX11_feed_39 : decode cX11_feed 39 = .ok (.invokevirtual 85, 3) := by decide +kernel
theorem dX11_feed_42 : decode cX11_feed 42 = .ok (.aload_n 0, 1) := by decide +kernel
theorem dX11_feed_43 : decode cX11_feed 43 = .ok (.getfield 16, 3) := by decide +kernel
theorem dX11_feed_46 : decode cX11_feed 46 = .ok (.ireturn, 1) := by decide +kernel
theorem dX11_province_0 : decode cX11_province 0 = .ok (.iload_n 1, 1) := by decide +kernel
theorem dX11_province_1 : decode cX11_province 1 = .ok (.ifCond .lt 11, 3) := by decide +kernel
theorem dX11_province_4 : decode cX11_province 4 = .ok (.iload_n 1, 1) := by decide +kernel
theorem dX11_province_5 : decode cX11_province 5 = .ok (.aload_n 0, 1) := by decide +kernel
theorem dX11_province_6 : decode cX11_province 6 = .ok (.getfield 16, 3) := by decide +kernel
theorem dX11_province_9 : decode cX11_province 9 = .ok (.if_icmp .le 13, 3) := by decide +kernel
theorem dX11_province_12 : decode cX11_province 12 = .ok (.new 89, 3) := by decide +kernel
theorem dX11_province_15 : decode cX11_province 15 = .ok (.dup, 1) := by decide +kernel
theorem dX11_province_16 : decode cX11_province 16 = .ok (.ldc 91, 2) := by decide +kernel
theorem dX11_province_18 : decode cX11_province 18 = .ok (.invokespecial 93, 3) := by decide +kernel
theorem dX11_province_21 : decode cX11_province 21 = .ok (.athrow, 1) := by decide +kernel
theorem dX11_province_22 : decode cX11_province 22 = .ok (.aload_n 0, 1) := by decide +kernel
theorem dX11_province_23 : decode cX11_province 23 = .ok (.iconst 0, 1) := by decide +kernel
theorem dX11_province_24 : decode cX11_province 24 = .ok (.putfield 16, 3) := by decide +kernel
theorem dX11_province_27 : decode cX11_province 27 = .ok (.aload_n 0, 1) := by decide +kernel
theorem dX11_province_28 : decode cX11_province 28 = .ok (.getfield 10, 3) := by decide +kernel
theorem dX11_province_31 : decode cX11_province 31 = .ok (.iload_n 1, 1) := by decide +kernel
theorem dX11_province_32 : decode cX11_province 32 = .ok (.invokevirtual 96, 3) := by decide +kernel
theorem dX11_province_35 : decode cX11_province 35 = .ok (.aload_n 0, 1) := by decide +kernel
theorem dX11_province_36 : decode cX11_province 36 = .ok (.aload_n 0, 1) := by decide +kernel
theorem dX11_province_37 : decode cX11_province 37 = .ok (.getfield 10, 3) := by decide +kernel
theorem dX11_province_40 : decode cX11_province 40 = .ok (.getfield 99, 3) := by decide +kernel
theorem dX11_province_43 : decode cX11_province 43 = .ok (.putfield 82, 3) := by decide +kernel
theorem dX11_province_46 : decode cX11_province 46 = .ok (.aload_n 0, 1) := by decide +kernel
theorem dX11_province_47 : decode cX11_province 47 = .ok (.getfield 10, 3) := by decide +kernel
theorem dX11_province_50 : decode cX11_province 50 = .ok (.getfield 102, 3) := by decide +kernel
theorem dX11_province_53 : decode cX11_province 53 = .ok (.ifCond .eq 21, 3) := by decide +kernel
theorem dX11_province_56 : decode cX11_province 56 = .ok (.aload_n 0, 1) := by decide +kernel
theorem dX11_province_57 : decode cX11_province 57 = .ok (.getfield 78, 3) := by decide +kernel
theorem dX11_province_60 : decode cX11_province 60 = .ok (.iconst 0, 1) := by decide +kernel
theorem dX11_province_61 : decode cX11_province 61 = .ok (.dup2, 1) := by decide +kernel
theorem dX11_province_62 : decode cX11_province 62 = .ok (.iaload, 1) := by decide +kernel
theorem dX11_province_63 : decode cX11_province 63 = .ok (.iconst 1, 1) := by decide +kernel
theorem dX11_province_64 : decode cX11_province 64 = .ok (.iadd, 1) := by decide +kernel
theorem dX11_province_65 : decode cX11_province 65 = .ok (.iastore, 1) := by decide +kernel
theorem dX11_province_66 : decode cX11_province 66 = .ok (.aload_n 0, 1) := by decide +kernel
theorem dX11_province_67 : decode cX11_province 67 = .ok (.getfield 10, 3) := by decide +kernel
theorem dX11_province_70 : decode cX11_province 70 = .ok (.getfield 102, 3) := by decide +kernel
theorem dX11_province_73 : decode cX11_province 73 = .ok (.ireturn, 1) := by decide +kernel
theorem dX11_province_74 : decode cX11_province 74 = .ok (.aload_n 0, 1) := by decide +kernel
theorem dX11_province_75 : decode cX11_province 75 = .ok (.getfield 10, 3) := by decide +kernel
theorem dX11_province_78 : decode cX11_province 78 = .ok (.getfield 105, 3) := by decide +kernel
theorem dX11_province_81 : decode cX11_province 81 = .ok (.astore_n 2, 1) := by decide +kernel
theorem dX11_province_82 : decode cX11_province 82 = .ok (.aload_n 0, 1) := by decide +kernel
theorem dX11_province_83 : decode cX11_province 83 = .ok (.getfield 10, 3) := by decide +kernel
theorem dX11_province_86 : decode cX11_province 86 = .ok (.aload_n 0, 1) := by decide +kernel
theorem dX11_province_87 : decode cX11_province 87 = .ok (.getfield 23, 3) := by decide +kernel
theorem dX11_province_90 : decode cX11_province 90 = .ok (.putfield 105, 3) := by decide +kernel
theorem dX11_province_93 : decode cX11_province 93 = .ok (.aload_n 0, 1) := by decide +kernel
theorem dX11_province_94 : decode cX11_province 94 = .ok (.aload_n 2, 1) := by decide +kernel
theorem dX11_province_95 : decode cX11_province 95 = .ok (.putfield 23, 3) := by decide +kernel
theorem dX11_province_98 : decode cX11_province 98 = .ok (.aload_n 0, 1) := by decide +kernel
theorem dX11_province_99 : decode cX11_province 99 = .ok (.getfield 23, 3) := by decide +kernel
theorem dX11_province_102 : decode cX11_province 102 = .ok (.getfield 106, 3) := by decide +kernel
theorem dX11_province_105 : decode cX11_province 105 = .ok (.aload_n 0, 1) := by decide +kernel
theorem dX11_province_106 : decode cX11_province 106 = .ok (.getfield 23, 3) := by decide +kernel
theorem dX11_province_109 : decode cX11_province 109 = .ok (.getfield 110, 3) := by decide +kernel
theorem dX11_province_112 : decode cX11_province 112 = .ok (.invokevirtual 113, 3) := by decide +kernel
theorem dX11_province_115 : decode cX11_province 115 = .ok (.aload_n 0, 1) := by decide +kernel
theorem dX11_province_116 : decode cX11_province 116 = .ok (.getfield 30, 3) := by decide +kernel
theorem dX11_province_119 : decode cX11_province 119 = .ok (.aload_n 0, 1) := by decide +kernel
theorem dX11_province_120 : decode cX11_province 120 = .ok (.getfield 23, 3) := by decide +kernel
theorem dX11_province_123 : decode cX11_province 123 = .ok (.getfield 118, 3) := by decide +kernel
theorem dX11_province_126 : decode cX11_province 126 = .ok (.invokevirtual 121, 3) := by decide +kernel
theorem dX11_province_129 : decode cX11_province 129 = .ok (.aload_n 0, 1) := by decide +kernel
theorem dX11_province_130 : decode cX11_province 130 = .ok (.getfield 40, 3) := by decide +kernel
theorem dX11_province_133 : decode cX11_province 133 = .ok (.invokevirtual 125, 3) := by decide +kernel
theorem dX11_province_136 : decode cX11_province 136 = .ok (.aload_n 0, 1) := by decide +kernel
theorem dX11_province_137 : decode cX11_province 137 = .ok (.getfield 47, 3) := by decide +kernel
theorem dX11_province_140 : decode cX11_province 140 = .ok (.invokevirtual 128, 3) := by decide +kernel
theorem dX11_province_143 : decode cX11_province 143 = .ok (.aload_n 0, 1) := by decide +kernel
theorem dX11_province_144 : decode cX11_province 144 = .ok (.iconst 0, 1) := by decide +kernel
theorem dX11_province_145 : decode cX11_province 145 = .ok (.putfield 51, 3) := by decide +kernel
theorem dX11_province_148 : decode cX11_province 148 = .ok (.iconst 0, 1) := by decide +kernel
theorem dX11_province_149 : decode cX11_province 149 = .ok (.ireturn, 1) := by decide +kernel
theorem dX11_fault_0 : decode cX11_fault 0 = .ok (.aload_n 0, 1) := by decide +kernel
theorem dX11_fault_1 : decode cX11_fault 1 = .ok (.getfield 82, 3) := by decide +kernel
theorem dX11_fault_4 : decode cX11_fault 4 = .ok (.ireturn, 1) := by decide +kernel
theorem dX11_count_0 : decode cX11_count 0 = .ok (.iload_n 1, 1) := by decide +kernel
theorem dX11_count_1 : decode cX11_count 1 = .ok (.tableswitch 253 0 15 #[79, 87, 98, 106, 116, 132, 149, 166, 181, 196, 211, 219, 227, 232, 239, 246], 79) := by decide +kernel
theorem dX11_count_80 : decode cX11_count 80 = .ok (.aload_n 0, 1) := by decide +kernel
theorem dX11_count_81 : decode cX11_count 81 = .ok (.getfield 23, 3) := by decide +kernel
theorem dX11_count_84 : decode cX11_count 84 = .ok (.getfield 110, 3) := by decide +kernel
theorem dX11_count_87 : decode cX11_count 87 = .ok (.ireturn, 1) := by decide +kernel
theorem dX11_count_88 : decode cX11_count 88 = .ok (.aload_n 0, 1) := by decide +kernel
theorem dX11_count_89 : decode cX11_count 89 = .ok (.getfield 23, 3) := by decide +kernel
theorem dX11_count_92 : decode cX11_count 92 = .ok (.getfield 106, 3) := by decide +kernel
theorem dX11_count_95 : decode cX11_count 95 = .ok (.getfield 129, 3) := by decide +kernel
theorem dX11_count_98 : decode cX11_count 98 = .ok (.ireturn, 1) := by decide +kernel
theorem dX11_count_99 : decode cX11_count 99 = .ok (.aload_n 0, 1) := by decide +kernel
theorem dX11_count_100 : decode cX11_count 100 = .ok (.getfield 23, 3) := by decide +kernel
theorem dX11_count_103 : decode cX11_count 103 = .ok (.getfield 132, 3) := by decide +kernel
theorem dX11_count_106 : decode cX11_count 106 = .ok (.ireturn, 1) := by decide +kernel
theorem dX11_count_107 : decode cX11_count 107 = .ok (.aload_n 0, 1) := by decide +kernel
theorem dX11_count_108 : decode cX11_count 108 = .ok (.getfield 30, 3) := by decide +kernel
theorem dX11_count_111 : decode cX11_count 111 = .ok (.getfield 135, 3) := by decide +kernel
theorem dX11_count_114 : decode cX11_count 114 = .ok (.iconst 0, 1) := by decide +kernel
theorem dX11_count_115 : decode cX11_count 115 = .ok (.iaload, 1) := by decide +kernel
theorem dX11_count_116 : decode cX11_count 116 = .ok (.ireturn, 1) := by decide +kernel
theorem dX11_count_117 : decode cX11_count 117 = .ok (.aload_n 0, 1) := by decide +kernel
theorem dX11_count_118 : decode cX11_count 118 = .ok (.getfield 30, 3) := by decide +kernel
theorem dX11_count_121 : decode cX11_count 121 = .ok (.iconst 1, 1) := by decide +kernel
theorem dX11_count_122 : decode cX11_count 122 = .ok (.aload_n 0, 1) := by decide +kernel
theorem dX11_count_123 : decode cX11_count 123 = .ok (.getfield 23, 3) := by decide +kernel
theorem dX11_count_126 : decode cX11_count 126 = .ok (.getfield 110, 3) := by decide +kernel
theorem dX11_count_129 : decode cX11_count 129 = .ok (.invokevirtual 138, 3) := by decide +kernel
theorem dX11_count_132 : decode cX11_count 132 = .ok (.ireturn, 1) := by decide +kernel
theorem dX11_count_133 : decode cX11_count 133 = .ok (.aload_n 0, 1) := by decide +kernel
theorem dX11_count_134 : decode cX11_count 134 = .ok (.getfield 30, 3) := by decide +kernel
theorem dX11_count_137 : decode cX11_count 137 = .ok (.bipush 9, 2) := by decide +kernel
theorem dX11_count_139 : decode cX11_count 139 = .ok (.aload_n 0, 1) := by decide +kernel
theorem dX11_count_140 : decode cX11_count 140 = .ok (.getfield 23, 3) := by decide +kernel
theorem dX11_count_143 : decode cX11_count 143 = .ok (.getfield 110, 3) := by decide +kernel
theorem dX11_count_146 : decode cX11_count 146 = .ok (.invokevirtual 138, 3) := by decide +kernel
theorem dX11_count_149 : decode cX11_count 149 = .ok (.ireturn, 1) := by decide +kernel
theorem dX11_count_150 : decode cX11_count 150 = .ok (.aload_n 0, 1) := by decide +kernel
theorem dX11_count_151 : decode cX11_count 151 = .ok (.getfield 30, 3) := by decide +kernel
theorem dX11_count_154 : decode cX11_count 154 = .ok (.bipush 17, 2) := by decide +kernel
theorem dX11_count_156 : decode cX11_count 156 = .ok (.aload_n 0, 1) := by decide +kernel
theorem dX11_count_157 : decode cX11_count 157 = .ok (.getfield 23, 3) := by decide +kernel
theorem dX11_count_160 : decode cX11_count 160 = .ok (.getfield 110, 3) := by decide +kernel
theorem dX11_count_163 : decode cX11_count 163 = .ok (.invokevirtual 138, 3) := by decide +kernel
theorem dX11_count_166 : decode cX11_count 166 = .ok (.ireturn, 1) := by decide +kernel
theorem dX11_count_167 : decode cX11_count 167 = .ok (.aload_n 0, 1) := by decide +kernel
theorem dX11_count_168 : decode cX11_count 168 = .ok (.getfield 30, 3) := by decide +kernel
theorem dX11_count_171 : decode cX11_count 171 = .ok (.aload_n 0, 1) := by decide +kernel
theorem dX11_count_172 : decode cX11_count 172 = .ok (.getfield 23, 3) := by decide +kernel
theorem dX11_count_175 : decode cX11_count 175 = .ok (.getfield 132, 3) := by decide +kernel
theorem dX11_count_178 : decode cX11_count 178 = .ok (.invokevirtual 142, 3) := by decide +kernel
theorem dX11_count_181 : decode cX11_count 181 = .ok (.ireturn, 1) := by decide +kernel
theorem dX11_count_182 : decode cX11_count 182 = .ok (.aload_n 0, 1) := by decide +kernel
theorem dX11_count_183 : decode cX11_count 183 = .ok (.getfield 30, 3) := by decide +kernel
theorem dX11_count_186 : decode cX11_count 186 = .ok (.aload_n 0, 1) := by decide +kernel
theorem dX11_count_187 : decode cX11_count 187 = .ok (.getfield 23, 3) := by decide +kernel
theorem dX11_count_190 : decode cX11_count 190 = .ok (.getfield 132, 3) := by decide +kernel
theorem dX11_count_193 : decode cX11_count 193 = .ok (.invokevirtual 146, 3) := by decide +kernel
theorem dX11_count_196 : decode cX11_count 196 = .ok (.ireturn, 1) := by decide +kernel
theorem dX11_count_197 : decode cX11_count 197 = .ok (.aload_n 0, 1) := by decide +kernel
theorem dX11_count_198 : decode cX11_count 198 = .ok (.getfield 30, 3) := by decide +kernel
theorem dX11_count_201 : decode cX11_count 201 = .ok (.aload_n 0, 1) := by decide +kernel
theorem dX11_count_202 : decode cX11_count 202 = .ok (.getfield 23, 3) := by decide +kernel
theorem dX11_count_205 : decode cX11_count 205 = .ok (.getfield 132, 3) := by decide +kernel
theorem dX11_count_208 : decode cX11_count 208 = .ok (.invokevirtual 149, 3) := by decide +kernel
theorem dX11_count_211 : decode cX11_count 211 = .ok (.ireturn, 1) := by decide +kernel
theorem dX11_count_212 : decode cX11_count 212 = .ok (.aload_n 0, 1) := by decide +kernel
theorem dX11_count_213 : decode cX11_count 213 = .ok (.getfield 40, 3) := by decide +kernel
theorem dX11_count_216 : decode cX11_count 216 = .ok (.getfield 152, 3) := by decide +kernel
theorem dX11_count_219 : decode cX11_count 219 = .ok (.ireturn, 1) := by decide +kernel
theorem dX11_count_220 : decode cX11_count 220 = .ok (.aload_n 0, 1) := by decide +kernel
theorem dX11_count_221 : decode cX11_count 221 = .ok (.getfield 47, 3) := by decide +kernel
theorem dX11_count_224 : decode cX11_count 224 = .ok (.getfield 155, 3) := by decide +kernel
theorem dX11_count_227 : decode cX11_count 227 = .ok (.ireturn, 1) := by decide +kernel
theorem dX11_count_228 : decode cX11_count 228 = .ok (.aload_n 0, 1) := by decide +kernel
theorem dX11_count_229 : decode cX11_count 229 = .ok (.getfield 16, 3) := by decide +kernel
theorem dX11_count_232 : decode cX11_count 232 = .ok (.ireturn, 1) := by decide +kernel
theorem dX11_count_233 : decode cX11_count 233 = .ok (.aload_n 0, 1) := by decide +kernel
theorem dX11_count_234 : decode cX11_count 234 = .ok (.getfield 78, 3) := by decide +kernel
theorem dX11_count_237 : decode cX11_count 237 = .ok (.iconst 0, 1) := by decide +kernel
theorem dX11_count_238 : decode cX11_count 238 = .ok (.iaload, 1) := by decide +kernel
theorem dX11_count_239 : decode cX11_count 239 = .ok (.ireturn, 1) := by decide +kernel
theorem dX11_count_240 : decode cX11_count 240 = .ok (.aload_n 0, 1) := by decide +kernel
theorem dX11_count_241 : decode cX11_count 241 = .ok (.getfield 78, 3) := by decide +kernel
theorem dX11_count_244 : decode cX11_count 244 = .ok (.iconst 1, 1) := by decide +kernel
theorem dX11_count_245 : decode cX11_count 245 = .ok (.iaload, 1) := by decide +kernel
theorem dX11_count_246 : decode cX11_count 246 = .ok (.ireturn, 1) := by decide +kernel
theorem dX11_count_247 : decode cX11_count 247 = .ok (.aload_n 0, 1) := by decide +kernel
theorem dX11_count_248 : decode cX11_count 248 = .ok (.getfield 78, 3) := by decide +kernel
theorem dX11_count_251 : decode cX11_count 251 = .ok (.iconst 2, 1) := by decide +kernel
theorem dX11_count_252 : decode cX11_count 252 = .ok (.iaload, 1) := by decide +kernel
theorem dX11_count_253 : decode cX11_count 253 = .ok (.ireturn, 1) := by decide +kernel
theorem dX11_count_254 : decode cX11_count 254 = .ok (.new 156, 3) := by decide +kernel
theorem dX11_count_257 : decode cX11_count 257 = .ok (.dup, 1) := by decide +kernel
theorem dX11_count_258 : decode cX11_count 258 = .ok (.ldc 158, 2) := by decide +kernel
theorem dX11_count_260 : decode cX11_count 260 = .ok (.invokespecial 160, 3) := by decide +kernel
theorem dX11_count_263 : decode cX11_count 263 = .ok (.athrow, 1) := by decide +kernel
theorem dX11_town_0 : decode cX11_town 0 = .ok (.aload_n 0, 1) := by decide +kernel
theorem dX11_town_1 : decode cX11_town 1 = .ok (.iload_n 1, 1) := by decide +kernel
theorem dX11_town_2 : decode cX11_town 2 = .ok (.invokevirtual 161, 3) := by decide +kernel
theorem dX11_town_5 : decode cX11_town 5 = .ok (.iload_n 2, 1) := by decide +kernel
theorem dX11_town_6 : decode cX11_town 6 = .ok (.tableswitch 136 0 6 #[42, 54, 67, 77, 87, 100, 120], 42) := by decide +kernel
theorem dX11_town_48 : decode cX11_town 48 = .ok (.aload_n 0, 1) := by decide +kernel
theorem dX11_town_49 : decode cX11_town 49 = .ok (.getfield 30, 3) := by decide +kernel
theorem dX11_town_52 : decode cX11_town 52 = .ok (.getfield 135, 3) := by decide +kernel
theorem dX11_town_55 : decode cX11_town 55 = .ok (.iconst 1, 1) := by decide +kernel
theorem dX11_town_56 : decode cX11_town 56 = .ok (.iload_n 1, 1) := by decide +kernel
theorem dX11_town_57 : decode cX11_town 57 = .ok (.iadd, 1) := by decide +kernel
theorem dX11_town_58 : decode cX11_town 58 = .ok (.iaload, 1) := by decide +kernel
theorem dX11_town_59 : decode cX11_town 59 = .ok (.ireturn, 1) := by decide +kernel
theorem dX11_town_60 : decode cX11_town 60 = .ok (.aload_n 0, 1) := by decide +kernel
theorem dX11_town_61 : decode cX11_town 61 = .ok (.getfield 30, 3) := by decide +kernel
theorem dX11_town_64 : decode cX11_town 64 = .ok (.getfield 135, 3) := by decide +kernel
theorem dX11_town_67 : decode cX11_town 67 = .ok (.bipush 9, 2) := by decide +kernel
theorem dX11_town_69 : decode cX11_town 69 = .ok (.iload_n 1, 1) := by decide +kernel
theorem dX11_town_70 : decode cX11_town 70 = .ok (.iadd, 1) := by decide +kernel
theorem dX11_town_71 : decode cX11_town 71 = .ok (.iaload, 1) := by decide +kernel
theorem dX11_town_72 : decode cX11_town 72 = .ok (.ireturn, 1) := by decide +kernel
theorem dX11_town_73 : decode cX11_town 73 = .ok (.aload_n 0, 1) := by decide +kernel
theorem dX11_town_74 : decode cX11_town 74 = .ok (.getfield 23, 3) := by decide +kernel
theorem dX11_town_77 : decode cX11_town 77 = .ok (.getfield 164, 3) := by decide +kernel
theorem dX11_town_80 : decode cX11_town 80 = .ok (.iload_n 1, 1) := by decide +kernel
theorem dX11_town_81 : decode cX11_town 81 = .ok (.iaload, 1) := by decide +kernel
theorem dX11_town_82 : decode cX11_town 82 = .ok (.ireturn, 1) := by decide +kernel
theorem dX11_town_83 : decode cX11_town 83 = .ok (.aload_n 0, 1) := by decide +kernel
theorem dX11_town_84 : decode cX11_town 84 = .ok (.getfield 23, 3) := by decide +kernel
theorem dX11_town_87 : decode cX11_town 87 = .ok (.getfield 167, 3) := by decide +kernel
theorem dX11_town_90 : decode cX11_town 90 = .ok (.iload_n 1, 1) := by decide +kernel
theorem dX11_town_91 : decode cX11_town 91 = .ok (.iaload, 1) := by decide +kernel
theorem dX11_town_92 : decode cX11_town 92 = .ok (.ireturn, 1) := by decide +kernel
theorem dX11_town_93 : decode cX11_town 93 = .ok (.aload_n 0, 1) := by decide +kernel
theorem dX11_town_94 : decode cX11_town 94 = .ok (.getfield 30, 3) := by decide +kernel
theorem dX11_town_97 : decode cX11_town 97 = .ok (.getfield 135, 3) := by decide +kernel
theorem dX11_town_100 : decode cX11_town 100 = .ok (.bipush 17, 2) := by decide +kernel
theorem dX11_town_102 : decode cX11_town 102 = .ok (.iload_n 1, 1) := by decide +kernel
theorem dX11_town_103 : decode cX11_town 103 = .ok (.iadd, 1) := by decide +kernel
theorem dX11_town_104 : decode cX11_town 104 = .ok (.iaload, 1) := by decide +kernel
theorem dX11_town_105 : decode cX11_town 105 = .ok (.ireturn, 1) := by decide +kernel
theorem dX11_town_106 : decode cX11_town 106 = .ok (.aload_n 0, 1) := by decide +kernel
theorem dX11_town_107 : decode cX11_town 107 = .ok (.getfield 23, 3) := by decide +kernel
theorem dX11_town_110 : decode cX11_town 110 = .ok (.getfield 170, 3) := by decide +kernel
theorem dX11_town_113 : decode cX11_town 113 = .ok (.aload_n 0, 1) := by decide +kernel
theorem dX11_town_114 : decode cX11_town 114 = .ok (.getfield 23, 3) := by decide +kernel
theorem dX11_town_117 : decode cX11_town 117 = .ok (.aload_n 0, 1) := by decide +kernel
theorem dX11_town_118 : decode cX11_town 118 = .ok (.getfield 30, 3) := by decide +kernel
theorem dX11_town_121 : decode cX11_town 121 = .ok (.iload_n 1, 1) := by decide +kernel
theorem dX11_town_122 : decode cX11_town 122 = .ok (.invokevirtual 174, 3) := by decide +kernel
theorem dX11_town_125 : decode cX11_town 125 = .ok (.ireturn, 1) := by decide +kernel
theorem dX11_town_126 : decode cX11_town 126 = .ok (.aload_n 0, 1) := by decide +kernel
theorem dX11_town_127 : decode cX11_town 127 = .ok (.getfield 30, 3) := by decide +kernel
theorem dX11_town_130 : decode cX11_town 130 = .ok (.aload_n 0, 1) := by decide +kernel
theorem dX11_town_131 : decode cX11_town 131 = .ok (.getfield 23, 3) := by decide +kernel
theorem dX11_town_134 : decode cX11_town 134 = .ok (.getfield 132, 3) := by decide +kernel
theorem dX11_town_137 : decode cX11_town 137 = .ok (.iload_n 1, 1) := by decide +kernel
theorem dX11_town_138 : decode cX11_town 138 = .ok (.invokevirtual 180, 3) := by decide +kernel
theorem dX11_town_141 : decode cX11_town 141 = .ok (.ireturn, 1) := by decide +kernel
theorem dX11_town_142 : decode cX11_town 142 = .ok (.new 156, 3) := by decide +kernel
theorem dX11_town_145 : decode cX11_town 145 = .ok (.dup, 1) := by decide +kernel
theorem dX11_town_146 : decode cX11_town 146 = .ok (.ldc 183, 2) := by decide +kernel
theorem dX11_town_148 : decode cX11_town 148 = .ok (.invokespecial 160, 3) := by decide +kernel
theorem dX11_town_151 : decode cX11_town 151 = .ok (.athrow, 1) := by decide +kernel
theorem dX11_crate_0 : decode cX11_crate 0 = .ok (.aload_n 0, 1) := by decide +kernel
theorem dX11_crate_1 : decode cX11_crate 1 = .ok (.iload_n 1, 1) := by decide +kernel
theorem dX11_crate_2 : decode cX11_crate 2 = .ok (.invokevirtual 185, 3) := by decide +kernel
theorem dX11_crate_5 : decode cX11_crate 5 = .ok (.iload_n 2, 1) := by decide +kernel
theorem dX11_crate_6 : decode cX11_crate 6 = .ok (.tableswitch 99 0 4 #[34, 47, 60, 73, 86], 34) := by decide +kernel
theorem dX11_crate_40 : decode cX11_crate 40 = .ok (.aload_n 0, 1) := by decide +kernel
theorem dX11_crate_41 : decode cX11_crate 41 = .ok (.getfield 30, 3) := by decide +kernel
theorem dX11_crate_44 : decode cX11_crate 44 = .ok (.getfield 135, 3) := by decide +kernel
theorem dX11_crate_47 : decode cX11_crate 47 = .ok (.bipush 25, 2) := by decide +kernel
theorem dX11_crate_49 : decode cX11_crate 49 = .ok (.iload_n 1, 1) := by decide +kernel
theorem dX11_crate_50 : decode cX11_crate 50 = .ok (.iadd, 1) := by decide +kernel
theorem dX11_crate_51 : decode cX11_crate 51 = .ok (.iaload, 1) := by decide +kernel
theorem dX11_crate_52 : decode cX11_crate 52 = .ok (.ireturn, 1) := by decide +kernel
theorem dX11_crate_53 : decode cX11_crate 53 = .ok (.aload_n 0, 1) := by decide +kernel
theorem dX11_crate_54 : decode cX11_crate 54 = .ok (.getfield 30, 3) := by decide +kernel
theorem dX11_crate_57 : decode cX11_crate 57 = .ok (.getfield 135, 3) := by decide +kernel
theorem dX11_crate_60 : decode cX11_crate 60 = .ok (.bipush 35, 2) := by decide +kernel
theorem dX11_crate_62 : decode cX11_crate 62 = .ok (.iload_n 1, 1) := by decide +kernel
theorem dX11_crate_63 : decode cX11_crate 63 = .ok (.iadd, 1) := by decide +kernel
theorem dX11_crate_64 : decode cX11_crate 64 = .ok (.iaload, 1) := by decide +kernel
theorem dX11_crate_65 : decode cX11_crate 65 = .ok (.ireturn, 1) := by decide +kernel
theorem dX11_crate_66 : decode cX11_crate 66 = .ok (.aload_n 0, 1) := by decide +kernel
theorem dX11_crate_67 : decode cX11_crate 67 = .ok (.getfield 30, 3) := by decide +kernel
theorem dX11_crate_70 : decode cX11_crate 70 = .ok (.getfield 135, 3) := by decide +kernel
theorem dX11_crate_73 : decode cX11_crate 73 = .ok (.bipush 45, 2) := by decide +kernel
theorem dX11_crate_75 : decode cX11_crate 75 = .ok (.iload_n 1, 1) := by decide +kernel
theorem dX11_crate_76 : decode cX11_crate 76 = .ok (.iadd, 1) := by decide +kernel
theorem dX11_crate_77 : decode cX11_crate 77 = .ok (.iaload, 1) := by decide +kernel
theorem dX11_crate_78 : decode cX11_crate 78 = .ok (.ireturn, 1) := by decide +kernel
theorem dX11_crate_79 : decode cX11_crate 79 = .ok (.aload_n 0, 1) := by decide +kernel
theorem dX11_crate_80 : decode cX11_crate 80 = .ok (.getfield 30, 3) := by decide +kernel
theorem dX11_crate_83 : decode cX11_crate 83 = .ok (.getfield 135, 3) := by decide +kernel
theorem dX11_crate_86 : decode cX11_crate 86 = .ok (.bipush 55, 2) := by decide +kernel
theorem dX11_crate_88 : decode cX11_crate 88 = .ok (.iload_n 1, 1) := by decide +kernel
theorem dX11_crate_89 : decode cX11_crate 89 = .ok (.iadd, 1) := by decide +kernel
theorem dX11_crate_90 : decode cX11_crate 90 = .ok (.iaload, 1) := by decide +kernel
theorem dX11_crate_91 : decode cX11_crate 91 = .ok (.ireturn, 1) := by decide +kernel
theorem dX11_crate_92 : decode cX11_crate 92 = .ok (.aload_n 0, 1) := by decide +kernel
theorem dX11_crate_93 : decode cX11_crate 93 = .ok (.getfield 30, 3) := by decide +kernel
theorem dX11_crate_96 : decode cX11_crate 96 = .ok (.getfield 135, 3) := by decide +kernel
theorem dX11_crate_99 : decode cX11_crate 99 = .ok (.bipush 65, 2) := by decide +kernel
theorem dX11_crate_101 : decode cX11_crate 101 = .ok (.iload_n 1, 1) := by decide +kernel
theorem dX11_crate_102 : decode cX11_crate 102 = .ok (.iadd, 1) := by decide +kernel
theorem dX11_crate_103 : decode cX11_crate 103 = .ok (.iaload, 1) := by decide +kernel
theorem dX11_crate_104 : decode cX11_crate 104 = .ok (.ireturn, 1) := by decide +kernel
theorem dX11_crate_105 : decode cX11_crate 105 = .ok (.new 156, 3) := by decide +kernel
theorem dX11_crate_108 : decode cX11_crate 108 = .ok (.dup, 1) := by decide +kernel
theorem dX11_crate_109 : decode cX11_crate 109 = .ok (.ldc 188, 2) := by decide +kernel
theorem dX11_crate_111 : decode cX11_crate 111 = .ok (.invokespecial 160, 3) := by decide +kernel
theorem dX11_crate_114 : decode cX11_crate 114 = .ok (.athrow, 1) := by decide +kernel
theorem dX11_days_0 : decode cX11_days 0 = .ok (.iload_n 1, 1) := by decide +kernel
theorem dX11_days_1 : decode cX11_days 1 = .ok (.iconst 1, 1) := by decide +kernel
theorem dX11_days_2 : decode cX11_days 2 = .ok (.if_icmp .lt 26, 3) := by decide +kernel
theorem dX11_days_5 : decode cX11_days 5 = .ok (.iload_n 1, 1) := by decide +kernel
theorem dX11_days_6 : decode cX11_days 6 = .ok (.bipush 30, 2) := by decide +kernel
theorem dX11_days_8 : decode cX11_days 8 = .ok (.if_icmp .gt 20, 3) := by decide +kernel
theorem dX11_days_11 : decode cX11_days 11 = .ok (.aload_n 0, 1) := by decide +kernel
theorem dX11_days_12 : decode cX11_days 12 = .ok (.getfield 30, 3) := by decide +kernel
theorem dX11_days_15 : decode cX11_days 15 = .ok (.getfield 135, 3) := by decide +kernel
theorem dX11_days_18 : decode cX11_days 18 = .ok (.iconst 0, 1) := by decide +kernel
theorem dX11_days_19 : decode cX11_days 19 = .ok (.iaload, 1) := by decide +kernel
theorem dX11_days_20 : decode cX11_days 20 = .ok (.iload_n 1, 1) := by decide +kernel
theorem dX11_days_21 : decode cX11_days 21 = .ok (.iadd, 1) := by decide +kernel
theorem dX11_days_22 : decode cX11_days 22 = .ok (.sipush 999, 3) := by decide +kernel
theorem dX11_days_25 : decode cX11_days 25 = .ok (.if_icmp .le 8, 3) := by decide +kernel
theorem dX11_days_28 : decode cX11_days 28 = .ok (.aload_n 0, 1) := by decide +kernel
theorem dX11_days_29 : decode cX11_days 29 = .ok (.invokevirtual 190, 3) := by decide +kernel
theorem dX11_days_32 : decode cX11_days 32 = .ok (.ireturn, 1) := by decide +kernel
theorem dX11_days_33 : decode cX11_days 33 = .ok (.aload_n 0, 1) := by decide +kernel
theorem dX11_days_34 : decode cX11_days 34 = .ok (.getfield 40, 3) := by decide +kernel
theorem dX11_days_37 : decode cX11_days 37 = .ok (.aload_n 0, 1) := by decide +kernel
theorem dX11_days_38 : decode cX11_days 38 = .ok (.getfield 30, 3) := by decide +kernel
theorem dX11_days_41 : decode cX11_days 41 = .ok (.invokevirtual 194, 3) := by decide +kernel
theorem dX11_days_44 : decode cX11_days 44 = .ok (.aload_n 0, 1) := by decide +kernel
theorem dX11_days_45 : decode cX11_days 45 = .ok (.getfield 30, 3) := by decide +kernel
theorem dX11_days_48 : decode cX11_days 48 = .ok (.aload_n 0, 1) := by decide +kernel
theorem dX11_days_49 : decode cX11_days 49 = .ok (.getfield 23, 3) := by decide +kernel
theorem dX11_days_52 : decode cX11_days 52 = .ok (.iload_n 1, 1) := by decide +kernel
theorem dX11_days_53 : decode cX11_days 53 = .ok (.invokevirtual 197, 3) := by decide +kernel
theorem dX11_days_56 : decode cX11_days 56 = .ok (.aload_n 0, 1) := by decide +kernel
theorem dX11_days_57 : decode cX11_days 57 = .ok (.getfield 30, 3) := by decide +kernel
theorem dX11_days_60 : decode cX11_days 60 = .ok (.getfield 135, 3) := by decide +kernel
theorem dX11_days_63 : decode cX11_days 63 = .ok (.iconst 0, 1) := by decide +kernel
theorem dX11_days_64 : decode cX11_days 64 = .ok (.iaload, 1) := by decide +kernel
theorem dX11_days_65 : decode cX11_days 65 = .ok (.ireturn, 1) := by decide +kernel
theorem dX11_send_0 : decode cX11_send 0 = .ok (.aload_n 0, 1) := by decide +kernel
theorem dX11_send_1 : decode cX11_send 1 = .ok (.iload_n 1, 1) := by decide +kernel
theorem dX11_send_2 : decode cX11_send 2 = .ok (.invokevirtual 185, 3) := by decide +kernel
theorem dX11_send_5 : decode cX11_send 5 = .ok (.aload_n 0, 1) := by decide +kernel
theorem dX11_send_6 : decode cX11_send 6 = .ok (.iload_n 2, 1) := by decide +kernel
theorem dX11_send_7 : decode cX11_send 7 = .ok (.invokevirtual 201, 3) := by decide +kernel
theorem dX11_send_10 : decode cX11_send 10 = .ok (.aload_n 0, 1) := by decide +kernel
theorem dX11_send_11 : decode cX11_send 11 = .ok (.getfield 30, 3) := by decide +kernel
theorem dX11_send_14 : decode cX11_send 14 = .ok (.iload_n 1, 1) := by decide +kernel
theorem dX11_send_15 : decode cX11_send 15 = .ok (.invokevirtual 204, 3) := by decide +kernel
theorem dX11_send_18 : decode cX11_send 18 = .ok (.ifCond .ne 8, 3) := by decide +kernel
theorem dX11_send_21 : decode cX11_send 21 = .ok (.aload_n 0, 1) := by decide +kernel
theorem dX11_send_22 : decode cX11_send 22 = .ok (.invokevirtual 190, 3) := by decide +kernel
theorem dX11_send_25 : decode cX11_send 25 = .ok (.ireturn, 1) := by decide +kernel
theorem dX11_send_26 : decode cX11_send 26 = .ok (.aload_n 0, 1) := by decide +kernel
theorem dX11_send_27 : decode cX11_send 27 = .ok (.getfield 23, 3) := by decide +kernel
theorem dX11_send_30 : decode cX11_send 30 = .ok (.getfield 106, 3) := by decide +kernel
theorem dX11_send_33 : decode cX11_send 33 = .ok (.iload_n 2, 1) := by decide +kernel
theorem dX11_send_34 : decode cX11_send 34 = .ok (.aload_n 0, 1) := by decide +kernel
theorem dX11_send_35 : decode cX11_send 35 = .ok (.getfield 30, 3) := by decide +kernel
theorem dX11_send_38 : decode cX11_send 38 = .ok (.getfield 135, 3) := by decide +kernel
theorem dX11_send_41 : decode cX11_send 41 = .ok (.bipush 55, 2) := by decide +kernel
theorem dX11_send_43 : decode cX11_send 43 = .ok (.iload_n 1, 1) := by decide +kernel
theorem dX11_send_44 : decode cX11_send 44 = .ok (.iadd, 1) := by decide +kernel
theorem dX11_send_45 : decode cX11_send 45 = .ok (.iaload, 1) := by decide +kernel
theorem dX11_send_46 : decode cX11_send 46 = .ok (.invokevirtual 208, 3) := by decide +kernel
theorem dX11_send_49 : decode cX11_send 49 = .ok (.istore_n 3, 1) := by decide +kernel
theorem dX11_send_50 : decode cX11_send 50 = .ok (.iload_n 3, 1) := by decide +kernel
theorem dX11_send_51 : decode cX11_send 51 = .ok (.iconst (-1), 1) := by decide +kernel
theorem dX11_send_52 : decode cX11_send 52 = .ok (.if_icmp .ne 8, 3) := by decide +kernel
theorem dX11_send_55 : decode cX11_send 55 = .ok (.aload_n 0, 1) := by decide +kernel
theorem dX11_send_56 : decode cX11_send 56 = .ok (.invokevirtual 190, 3) := by decide +kernel
theorem dX11_send_59 : decode cX11_send 59 = .ok (.ireturn, 1) := by decide +kernel
theorem dX11_send_60 : decode cX11_send 60 = .ok (.aload_n 0, 1) := by decide +kernel
theorem dX11_send_61 : decode cX11_send 61 = .ok (.getfield 40, 3) := by decide +kernel
theorem dX11_send_64 : decode cX11_send 64 = .ok (.aload_n 0, 1) := by decide +kernel
theorem dX11_send_65 : decode cX11_send 65 = .ok (.getfield 30, 3) := by decide +kernel
theorem dX11_send_68 : decode cX11_send 68 = .ok (.invokevirtual 194, 3) := by decide +kernel
theorem dX11_send_71 : decode cX11_send 71 = .ok (.aload_n 0, 1) := by decide +kernel
theorem dX11_send_72 : decode cX11_send 72 = .ok (.getfield 30, 3) := by decide +kernel
theorem dX11_send_75 : decode cX11_send 75 = .ok (.getfield 135, 3) := by decide +kernel
theorem dX11_send_78 : decode cX11_send 78 = .ok (.bipush 55, 2) := by decide +kernel
theorem dX11_send_80 : decode cX11_send 80 = .ok (.iload_n 1, 1) := by decide +kernel
theorem dX11_send_81 : decode cX11_send 81 = .ok (.iadd, 1) := by decide +kernel
theorem dX11_send_82 : decode cX11_send 82 = .ok (.iload_n 3, 1) := by decide +kernel
theorem dX11_send_83 : decode cX11_send 83 = .ok (.iastore, 1) := by decide +kernel
theorem dX11_send_84 : decode cX11_send 84 = .ok (.aload_n 0, 1) := by decide +kernel
theorem dX11_send_85 : decode cX11_send 85 = .ok (.getfield 30, 3) := by decide +kernel
theorem dX11_send_88 : decode cX11_send 88 = .ok (.getfield 135, 3) := by decide +kernel
theorem dX11_send_91 : decode cX11_send 91 = .ok (.bipush 65, 2) := by decide +kernel
theorem dX11_send_93 : decode cX11_send 93 = .ok (.iload_n 1, 1) := by decide +kernel
theorem dX11_send_94 : decode cX11_send 94 = .ok (.iadd, 1) := by decide +kernel
theorem dX11_send_95 : decode cX11_send 95 = .ok (.aload_n 0, 1) := by decide +kernel
theorem dX11_send_96 : decode cX11_send 96 = .ok (.getfield 23, 3) := by decide +kernel
theorem dX11_send_99 : decode cX11_send 99 = .ok (.getfield 106, 3) := by decide +kernel
theorem dX11_send_102 : decode cX11_send 102 = .ok (.getfield 211, 3) := by decide +kernel
theorem dX11_send_105 : decode cX11_send 105 = .ok (.iload_n 2, 1) := by decide +kernel
theorem dX11_send_106 : decode cX11_send 106 = .ok (.iaload, 1) := by decide +kernel
theorem dX11_send_107 : decode cX11_send 107 = .ok (.iastore, 1) := by decide +kernel
theorem dX11_send_108 : decode cX11_send 108 = .ok (.aload_n 0, 1) := by decide +kernel
theorem dX11_send_109 : decode cX11_send 109 = .ok (.getfield 30, 3) := by decide +kernel
theorem dX11_send_112 : decode cX11_send 112 = .ok (.getfield 135, 3) := by decide +kernel
theorem dX11_send_115 : decode cX11_send 115 = .ok (.bipush 75, 2) := by decide +kernel
theorem dX11_send_117 : decode cX11_send 117 = .ok (.iload_n 1, 1) := by decide +kernel
theorem dX11_send_118 : decode cX11_send 118 = .ok (.iadd, 1) := by decide +kernel
theorem dX11_send_119 : decode cX11_send 119 = .ok (.aload_n 0, 1) := by decide +kernel
theorem dX11_send_120 : decode cX11_send 120 = .ok (.getfield 23, 3) := by decide +kernel
theorem dX11_send_123 : decode cX11_send 123 = .ok (.getfield 106, 3) := by decide +kernel
theorem dX11_send_126 : decode cX11_send 126 = .ok (.getfield 214, 3) := by decide +kernel
theorem dX11_send_129 : decode cX11_send 129 = .ok (.iload_n 2, 1) := by decide +kernel
theorem dX11_send_130 : decode cX11_send 130 = .ok (.iaload, 1) := by decide +kernel
theorem dX11_send_131 : decode cX11_send 131 = .ok (.iastore, 1) := by decide +kernel
theorem dX11_send_132 : decode cX11_send 132 = .ok (.iload_n 3, 1) := by decide +kernel
theorem dX11_send_133 : decode cX11_send 133 = .ok (.ireturn, 1) := by decide +kernel
theorem dX11_open_0 : decode cX11_open 0 = .ok (.aload_n 0, 1) := by decide +kernel
theorem dX11_open_1 : decode cX11_open 1 = .ok (.iload_n 1, 1) := by decide +kernel
theorem dX11_open_2 : decode cX11_open 2 = .ok (.invokevirtual 185, 3) := by decide +kernel
theorem dX11_open_5 : decode cX11_open 5 = .ok (.aload_n 0, 1) := by decide +kernel
theorem dX11_open_6 : decode cX11_open 6 = .ok (.getfield 30, 3) := by decide +kernel
theorem dX11_open_9 : decode cX11_open 9 = .ok (.iload_n 1, 1) := by decide +kernel
theorem dX11_open_10 : decode cX11_open 10 = .ok (.invokevirtual 204, 3) := by decide +kernel
theorem dX11_open_13 : decode cX11_open 13 = .ok (.ifCond .ne 8, 3) := by decide +kernel
theorem dX11_open_16 : decode cX11_open 16 = .ok (.aload_n 0, 1) := by decide +kernel
theorem dX11_open_17 : decode cX11_open 17 = .ok (.invokevirtual 190, 3) := by decide +kernel
theorem dX11_open_20 : decode cX11_open 20 = .ok (.ireturn, 1) := by decide +kernel
theorem dX11_open_21 : decode cX11_open 21 = .ok (.aload_n 0, 1) := by decide +kernel
theorem dX11_open_22 : decode cX11_open 22 = .ok (.getfield 40, 3) := by decide +kernel
theorem dX11_open_25 : decode cX11_open 25 = .ok (.aload_n 0, 1) := by decide +kernel
theorem dX11_open_26 : decode cX11_open 26 = .ok (.getfield 30, 3) := by decide +kernel
theorem dX11_open_29 : decode cX11_open 29 = .ok (.invokevirtual 194, 3) := by decide +kernel
theorem dX11_open_32 : decode cX11_open 32 = .ok (.aload_n 0, 1) := by decide +kernel
theorem dX11_open_33 : decode cX11_open 33 = .ok (.getfield 30, 3) := by decide +kernel
theorem dX11_open_36 : decode cX11_open 36 = .ok (.iload_n 1, 1) := by decide +kernel
theorem dX11_open_37 : decode cX11_open 37 = .ok (.invokevirtual 217, 3) := by decide +kernel
theorem dX11_open_40 : decode cX11_open 40 = .ok (.ireturn, 1) := by decide +kernel
theorem dX11_cat_0 : decode cX11_cat 0 = .ok (.aload_n 0, 1) := by decide +kernel
theorem dX11_cat_1 : decode cX11_cat 1 = .ok (.iload_n 1, 1) := by decide +kernel
theorem dX11_cat_2 : decode cX11_cat 2 = .ok (.invokevirtual 185, 3) := by decide +kernel
theorem dX11_cat_5 : decode cX11_cat 5 = .ok (.iload_n 2, 1) := by decide +kernel
theorem dX11_cat_6 : decode cX11_cat 6 = .ok (.ifCond .eq 7, 3) := by decide +kernel
theorem dX11_cat_9 : decode cX11_cat 9 = .ok (.iconst 1, 1) := by decide +kernel
theorem dX11_cat_10 : decode cX11_cat 10 = .ok (.goto 4, 3) := by decide +kernel
theorem dX11_cat_13 : decode cX11_cat 13 = .ok (.iconst 0, 1) := by decide +kernel
theorem dX11_cat_14 : decode cX11_cat 14 = .ok (.istore_n 3, 1) := by decide +kernel
theorem dX11_cat_15 : decode cX11_cat 15 = .ok (.aload_n 0, 1) := by decide +kernel
theorem dX11_cat_16 : decode cX11_cat 16 = .ok (.getfield 30, 3) := by decide +kernel
theorem dX11_cat_19 : decode cX11_cat 19 = .ok (.iload_n 1, 1) := by decide +kernel
theorem dX11_cat_20 : decode cX11_cat 20 = .ok (.invokevirtual 220, 3) := by decide +kernel
theorem dX11_cat_23 : decode cX11_cat 23 = .ok (.ifCond .ne 19, 3) := by decide +kernel
theorem dX11_cat_26 : decode cX11_cat 26 = .ok (.aload_n 0, 1) := by decide +kernel
theorem dX11_cat_27 : decode cX11_cat 27 = .ok (.getfield 30, 3) := by decide +kernel
theorem dX11_cat_30 : decode cX11_cat 30 = .ok (.getfield 135, 3) := by decide +kernel
theorem dX11_cat_33 : decode cX11_cat 33 = .ok (.bipush 45, 2) := by decide +kernel
theorem dX11_cat_35 : decode cX11_cat 35 = .ok (.iload_n 1, 1) := by decide +kernel
theorem dX11_cat_36 : decode cX11_cat 36 = .ok (.iadd, 1) := by decide +kernel
theorem dX11_cat_37 : decode cX11_cat 37 = .ok (.iaload, 1) := by decide +kernel
theorem dX11_cat_38 : decode cX11_cat 38 = .ok (.iload_n 3, 1) := by decide +kernel
theorem dX11_cat_39 : decode cX11_cat 39 = .ok (.if_icmp .ne 15, 3) := by decide +kernel
theorem dX11_cat_42 : decode cX11_cat 42 = .ok (.aload_n 0, 1) := by decide +kernel
theorem dX11_cat_43 : decode cX11_cat 43 = .ok (.getfield 78, 3) := by decide +kernel
theorem dX11_cat_46 : decode cX11_cat 46 = .ok (.iconst 1, 1) := by decide +kernel
theorem dX11_cat_47 : decode cX11_cat 47 = .ok (.dup2, 1) := by decide +kernel
theorem dX11_cat_48 : decode cX11_cat 48 = .ok (.iaload, 1) := by decide +kernel
theorem dX11_cat_49 : decode cX11_cat 49 = .ok (.iconst 1, 1) := by decide +kernel
theorem dX11_cat_50 : decode cX11_cat 50 = .ok (.iadd, 1) := by decide +kernel
theorem dX11_cat_51 : decode cX11_cat 51 = .ok (.iastore, 1) := by decide +kernel
theorem dX11_cat_52 : decode cX11_cat 52 = .ok (.iconst 0, 1) := by decide +kernel
theorem dX11_cat_53 : decode cX11_cat 53 = .ok (.ireturn, 1) := by decide +kernel
theorem dX11_cat_54 : decode cX11_cat 54 = .ok (.aload_n 0, 1) := by decide +kernel
theorem dX11_cat_55 : decode cX11_cat 55 = .ok (.getfield 40, 3) := by decide +kernel
theorem dX11_cat_58 : decode cX11_cat 58 = .ok (.aload_n 0, 1) := by decide +kernel
theorem dX11_cat_59 : decode cX11_cat 59 = .ok (.getfield 30, 3) := by decide +kernel
theorem dX11_cat_62 : decode cX11_cat 62 = .ok (.invokevirtual 194, 3) := by decide +kernel
theorem dX11_cat_65 : decode cX11_cat 65 = .ok (.aload_n 0, 1) := by decide +kernel
theorem dX11_cat_66 : decode cX11_cat 66 = .ok (.getfield 30, 3) := by decide +kernel
theorem dX11_cat_69 : decode cX11_cat 69 = .ok (.getfield 135, 3) := by decide +kernel
theorem dX11_cat_72 : decode cX11_cat 72 = .ok (.bipush 45, 2) := by decide +kernel
theorem dX11_cat_74 : decode cX11_cat 74 = .ok (.iload_n 1, 1) := by decide +kernel
theorem dX11_cat_75 : decode cX11_cat 75 = .ok (.iadd, 1) := by decide +kernel
theorem dX11_cat_76 : decode cX11_cat 76 = .ok (.iload_n 3, 1) := by decide +kernel
theorem dX11_cat_77 : decode cX11_cat 77 = .ok (.iastore, 1) := by decide +kernel
theorem dX11_cat_78 : decode cX11_cat 78 = .ok (.iconst 1, 1) := by decide +kernel
theorem dX11_cat_79 : decode cX11_cat 79 = .ok (.ireturn, 1) := by decide +kernel
theorem dX11_mix_0 : decode cX11_mix 0 = .ok (.aload_n 0, 1) := by decide +kernel
theorem dX11_mix_1 : decode cX11_mix 1 = .ok (.iload_n 1, 1) := by decide +kernel
theorem dX11_mix_2 : decode cX11_mix 2 = .ok (.invokevirtual 185, 3) := by decide +kernel
theorem dX11_mix_5 : decode cX11_mix 5 = .ok (.aload_n 0, 1) := by decide +kernel
theorem dX11_mix_6 : decode cX11_mix 6 = .ok (.iload_n 2, 1) := by decide +kernel
theorem dX11_mix_7 : decode cX11_mix 7 = .ok (.invokevirtual 185, 3) := by decide +kernel
theorem dX11_mix_10 : decode cX11_mix 10 = .ok (.iload_n 1, 1) := by decide +kernel
theorem dX11_mix_11 : decode cX11_mix 11 = .ok (.iload_n 2, 1) := by decide +kernel
theorem dX11_mix_12 : decode cX11_mix 12 = .ok (.if_icmp .eq 52, 3) := by decide +kernel
theorem dX11_mix_15 : decode cX11_mix 15 = .ok (.aload_n 0, 1) := by decide +kernel
theorem dX11_mix_16 : decode cX11_mix 16 = .ok (.getfield 30, 3) := by decide +kernel
theorem dX11_mix_19 : decode cX11_mix 19 = .ok (.iload_n 1, 1) := by decide +kernel
theorem dX11_mix_20 : decode cX11_mix 20 = .ok (.invokevirtual 204, 3) := by decide +kernel
theorem dX11_mix_23 : decode cX11_mix 23 = .ok (.ifCond .eq 41, 3) := by decide +kernel
theorem dX11_mix_26 : decode cX11_mix 26 = .ok (.aload_n 0, 1) := by decide +kernel
theorem dX11_mix_27 : decode cX11_mix 27 = .ok (.getfield 30, 3) := by decide +kernel
theorem dX11_mix_30 : decode cX11_mix 30 = .ok (.iload_n 2, 1) := by decide +kernel
theorem dX11_mix_31 : decode cX11_mix 31 = .ok (.invokevirtual 204, 3) := by decide +kernel
theorem dX11_mix_34 : decode cX11_mix 34 = .ok (.ifCond .eq 30, 3) := by decide +kernel
theorem dX11_mix_37 : decode cX11_mix 37 = .ok (.aload_n 0, 1) := by decide +kernel
theorem dX11_mix_38 : decode cX11_mix 38 = .ok (.getfield 30, 3) := by decide +kernel
theorem dX11_mix_41 : decode cX11_mix 41 = .ok (.getfield 135, 3) := by decide +kernel
theorem dX11_mix_44 : decode cX11_mix 44 = .ok (.bipush 55, 2) := by decide +kernel
theorem dX11_mix_46 : decode cX11_mix 46 = .ok (.iload_n 1, 1) := by decide +kernel
theorem dX11_mix_47 : decode cX11_mix 47 = .ok (.iadd, 1) := by decide +kernel
theorem dX11_mix_48 : decode cX11_mix 48 = .ok (.iaload, 1) := by decide +kernel
theorem dX11_mix_49 : decode cX11_mix 49 = .ok (.aload_n 0, 1) := by decide +kernel
theorem dX11_mix_50 : decode cX11_mix 50 = .ok (.getfield 30, 3) := by decide +kernel
theorem dX11_mix_53 : decode cX11_mix 53 = .ok (.getfield 135, 3) := by decide +kernel
theorem dX11_mix_56 : decode cX11_mix 56 = .ok (.bipush 55, 2) := by decide +kernel
theorem dX11_mix_58 : decode cX11_mix 58 = .ok (.iload_n 2, 1) := by decide +kernel
theorem dX11_mix_59 : decode cX11_mix 59 = .ok (.iadd, 1) := by decide +kernel
theorem dX11_mix_60 : decode cX11_mix 60 = .ok (.iaload, 1) := by decide +kernel
theorem dX11_mix_61 : decode cX11_mix 61 = .ok (.if_icmp .eq 8, 3) := by decide +kernel
theorem dX11_mix_64 : decode cX11_mix 64 = .ok (.aload_n 0, 1) := by decide +kernel
theorem dX11_mix_65 : decode cX11_mix 65 = .ok (.invokevirtual 190, 3) := by decide +kernel
theorem dX11_mix_68 : decode cX11_mix 68 = .ok (.ireturn, 1) := by decide +kernel
theorem dX11_mix_69 : decode cX11_mix 69 = .ok (.aload_n 0, 1) := by decide +kernel
theorem dX11_mix_70 : decode cX11_mix 70 = .ok (.getfield 40, 3) := by decide +kernel
theorem dX11_mix_73 : decode cX11_mix 73 = .ok (.aload_n 0, 1) := by decide +kernel
theorem dX11_mix_74 : decode cX11_mix 74 = .ok (.getfield 30, 3) := by decide +kernel
theorem dX11_mix_77 : decode cX11_mix 77 = .ok (.invokevirtual 194, 3) := by decide +kernel
theorem dX11_mix_80 : decode cX11_mix 80 = .ok (.aload_n 0, 1) := by decide +kernel
theorem dX11_mix_81 : decode cX11_mix 81 = .ok (.getfield 30, 3) := by decide +kernel
theorem dX11_mix_84 : decode cX11_mix 84 = .ok (.iload_n 1, 1) := by decide +kernel
theorem dX11_mix_85 : decode cX11_mix 85 = .ok (.iload_n 2, 1) := by decide +kernel
theorem dX11_mix_86 : decode cX11_mix 86 = .ok (.invokevirtual 223, 3) := by decide +kernel
theorem dX11_mix_89 : decode cX11_mix 89 = .ok (.aload_n 0, 1) := by decide +kernel
theorem dX11_mix_90 : decode cX11_mix 90 = .ok (.getfield 30, 3) := by decide +kernel
theorem dX11_mix_93 : decode cX11_mix 93 = .ok (.getfield 135, 3) := by decide +kernel
theorem dX11_mix_96 : decode cX11_mix 96 = .ok (.bipush 25, 2) := by decide +kernel
theorem dX11_mix_98 : decode cX11_mix 98 = .ok (.iload_n 1, 1) := by decide +kernel
theorem dX11_mix_99 : decode cX11_mix 99 = .ok (.iadd, 1) := by decide +kernel
theorem dX11_mix_100 : decode cX11_mix 100 = .ok (.iaload, 1) := by decide +kernel
theorem dX11_mix_101 : decode cX11_mix 101 = .ok (.ireturn, 1) := by decide +kernel
theorem dX11_undo_0 : decode cX11_undo 0 = .ok (.aload_n 0, 1) := by decide +kernel
theorem dX11_undo_1 : decode cX11_undo 1 = .ok (.getfield 40, 3) := by decide +kernel
theorem dX11_undo_4 : decode cX11_undo 4 = .ok (.getfield 152, 3) := by decide +kernel
theorem dX11_undo_7 : decode cX11_undo 7 = .ok (.ifCond .ne 5, 3) := by decide +kernel
theorem dX11_undo_10 : decode cX11_undo 10 = .ok (.iconst (-1), 1) := by decide +kernel
theorem dX11_undo_11 : decode cX11_undo 11 = .ok (.ireturn, 1) := by decide +kernel
theorem dX11_undo_12 : decode cX11_undo 12 = .ok (.aload_n 0, 1) := by decide +kernel
theorem dX11_undo_13 : decode cX11_undo 13 = .ok (.getfield 40, 3) := by decide +kernel
theorem dX11_undo_16 : decode cX11_undo 16 = .ok (.aload_n 0, 1) := by decide +kernel
theorem dX11_undo_17 : decode cX11_undo 17 = .ok (.getfield 30, 3) := by decide +kernel
theorem dX11_undo_20 : decode cX11_undo 20 = .ok (.invokevirtual 227, 3) := by decide +kernel
theorem dX11_undo_23 : decode cX11_undo 23 = .ok (.aload_n 0, 1) := by decide +kernel
theorem dX11_undo_24 : decode cX11_undo 24 = .ok (.getfield 40, 3) := by decide +kernel
theorem dX11_undo_27 : decode cX11_undo 27 = .ok (.getfield 152, 3) := by decide +kernel
theorem dX11_undo_30 : decode cX11_undo 30 = .ok (.ireturn, 1) := by decide +kernel
theorem dX11_then_0 : decode cX11_then 0 = .ok (.aload_n 0, 1) := by decide +kernel
theorem dX11_then_1 : decode cX11_then 1 = .ok (.iload_n 1, 1) := by decide +kernel
theorem dX11_then_2 : decode cX11_then 2 = .ok (.invokevirtual 161, 3) := by decide +kernel
theorem dX11_then_5 : decode cX11_then 5 = .ok (.iload_n 3, 1) := by decide +kernel
theorem dX11_then_6 : decode cX11_then 6 = .ok (.ifCond .lt 8, 3) := by decide +kernel
theorem dX11_then_9 : decode cX11_then 9 = .ok (.iload_n 3, 1) := by decide +kernel
theorem dX11_then_10 : decode cX11_then 10 = .ok (.iconst 3, 1) := by decide +kernel
theorem dX11_then_11 : decode cX11_then 11 = .ok (.if_icmp .le 13, 3) := by decide +kernel
theorem dX11_then_14 : decode cX11_then 14 = .ok (.new 156, 3) := by decide +kernel
theorem dX11_then_17 : decode cX11_then 17 = .ok (.dup, 1) := by decide +kernel
theorem dX11_then_18 : decode cX11_then 18 = .ok (.ldc 230, 2) := by decide +kernel
theorem dX11_then_20 : decode cX11_then 20 = .ok (.invokespecial 160, 3) := by decide +kernel
theorem dX11_then_23 : decode cX11_then 23 = .ok (.athrow, 1) := by decide +kernel
theorem dX11_then_24 : decode cX11_then 24 = .ok (.iload_n 2, 1) := by decide +kernel
theorem dX11_then_25 : decode cX11_then 25 = .ok (.iconst 0, 1) := by decide +kernel
theorem dX11_then_26 : decode cX11_then 26 = .ok (.bipush 60, 2) := by decide +kernel
theorem dX11_then_28 : decode cX11_then 28 = .ok (.invokestatic 232, 3) := by decide +kernel
theorem dX11_then_31 : decode cX11_then 31 = .ok (.aload_n 0, 1) := by decide +kernel
theorem dX11_then_32 : decode cX11_then 32 = .ok (.getfield 34, 3) := by decide +kernel
theorem dX11_then_35 : decode cX11_then 35 = .ok (.aload_n 0, 1) := by decide +kernel
theorem dX11_then_36 : decode cX11_then 36 = .ok (.getfield 30, 3) := by decide +kernel
theorem dX11_then_39 : decode cX11_then 39 = .ok (.invokevirtual 121, 3) := by decide +kernel
theorem dX11_then_42 : decode cX11_then 42 = .ok (.iconst 0, 1) := by decide +kernel
theorem dX11_then_43 : decode cX11_then 43 = .ok (.istore 4, 2) := by decide +kernel
theorem dX11_then_45 : decode cX11_then 45 = .ok (.iload 4, 2) := by decide +kernel
theorem dX11_then_47 : decode cX11_then 47 = .ok (.iload_n 2, 1) := by decide +kernel
theorem dX11_then_48 : decode cX11_then 48 = .ok (.if_icmp .ge 22, 3) := by decide +kernel
theorem dX11_then_51 : decode cX11_then 51 = .ok (.aload_n 0, 1) := by decide +kernel
theorem dX11_then_52 : decode cX11_then 52 = .ok (.getfield 34, 3) := by decide +kernel
theorem dX11_then_55 : decode cX11_then 55 = .ok (.aload_n 0, 1) := by decide +kernel
theorem dX11_then_56 : decode cX11_then 56 = .ok (.getfield 23, 3) := by decide +kernel
theorem dX11_then_59 : decode cX11_then 59 = .ok (.iload_n 1, 1) := by decide +kernel
theorem dX11_then_60 : decode cX11_then 60 = .ok (.invokevirtual 236, 3) := by decide +kernel
theorem dX11_then_63 : decode cX11_then 63 = .ok (.pop, 1) := by decide +kernel
theorem dX11_then_64 : decode cX11_then 64 = .ok (.iinc 4 1, 3) := by decide +kernel
theorem dX11_then_67 : decode cX11_then 67 = .ok (.goto (-22), 3) := by decide +kernel
theorem dX11_then_70 : decode cX11_then 70 = .ok (.iload_n 3, 1) := by decide +kernel
theorem dX11_then_71 : decode cX11_then 71 = .ok (.tableswitch 63 0 2 #[25, 37, 50], 25) := by decide +kernel
theorem dX11_then_96 : decode cX11_then 96 = .ok (.aload_n 0, 1) := by decide +kernel
theorem dX11_then_97 : decode cX11_then 97 = .ok (.getfield 34, 3) := by decide +kernel
theorem dX11_then_100 : decode cX11_then 100 = .ok (.getfield 135, 3) := by decide +kernel
theorem dX11_then_103 : decode cX11_then 103 = .ok (.iconst 1, 1) := by decide +kernel
theorem dX11_then_104 : decode cX11_then 104 = .ok (.iload_n 1, 1) := by decide +kernel
theorem dX11_then_105 : decode cX11_then 105 = .ok (.iadd, 1) := by decide +kernel
theorem dX11_then_106 : decode cX11_then 106 = .ok (.iaload, 1) := by decide +kernel
theorem dX11_then_107 : decode cX11_then 107 = .ok (.ireturn, 1) := by decide +kernel
theorem dX11_then_108 : decode cX11_then 108 = .ok (.aload_n 0, 1) := by decide +kernel
theorem dX11_then_109 : decode cX11_then 109 = .ok (.getfield 34, 3) := by decide +kernel
theorem dX11_then_112 : decode cX11_then 112 = .ok (.getfield 135, 3) := by decide +kernel
theorem dX11_then_115 : decode cX11_then 115 = .ok (.bipush 9, 2) := by decide +kernel
theorem dX11_then_117 : decode cX11_then 117 = .ok (.iload_n 1, 1) := by decide +kernel
theorem dX11_then_118 : decode cX11_then 118 = .ok (.iadd, 1) := by decide +kernel
theorem dX11_then_119 : decode cX11_then 119 = .ok (.iaload, 1) := by decide +kernel
theorem dX11_then_120 : decode cX11_then 120 = .ok (.ireturn, 1) := by decide +kernel
theorem dX11_then_121 : decode cX11_then 121 = .ok (.aload_n 0, 1) := by decide +kernel
theorem dX11_then_122 : decode cX11_then 122 = .ok (.getfield 34, 3) := by decide +kernel
theorem dX11_then_125 : decode cX11_then 125 = .ok (.getfield 135, 3) := by decide +kernel
theorem dX11_then_128 : decode cX11_then 128 = .ok (.bipush 17, 2) := by decide +kernel
theorem dX11_then_130 : decode cX11_then 130 = .ok (.iload_n 1, 1) := by decide +kernel
theorem dX11_then_131 : decode cX11_then 131 = .ok (.iadd, 1) := by decide +kernel
theorem dX11_then_132 : decode cX11_then 132 = .ok (.iaload, 1) := by decide +kernel
theorem dX11_then_133 : decode cX11_then 133 = .ok (.ireturn, 1) := by decide +kernel
theorem dX11_then_134 : decode cX11_then 134 = .ok (.aload_n 0, 1) := by decide +kernel
theorem dX11_then_135 : decode cX11_then 135 = .ok (.getfield 23, 3) := by decide +kernel
theorem dX11_then_138 : decode cX11_then 138 = .ok (.getfield 170, 3) := by decide +kernel
theorem dX11_then_141 : decode cX11_then 141 = .ok (.aload_n 0, 1) := by decide +kernel
theorem dX11_then_142 : decode cX11_then 142 = .ok (.getfield 23, 3) := by decide +kernel
theorem dX11_then_145 : decode cX11_then 145 = .ok (.aload_n 0, 1) := by decide +kernel
theorem dX11_then_146 : decode cX11_then 146 = .ok (.getfield 34, 3) := by decide +kernel
theorem dX11_then_149 : decode cX11_then 149 = .ok (.iload_n 1, 1) := by decide +kernel
theorem dX11_then_150 : decode cX11_then 150 = .ok (.invokevirtual 174, 3) := by decide +kernel
theorem dX11_then_153 : decode cX11_then 153 = .ok (.ireturn, 1) := by decide +kernel
theorem dX11_even_0 : decode cX11_even 0 = .ok (.aload_n 0, 1) := by decide +kernel
theorem dX11_even_1 : decode cX11_even 1 = .ok (.iload_n 1, 1) := by decide +kernel
theorem dX11_even_2 : decode cX11_even 2 = .ok (.invokevirtual 161, 3) := by decide +kernel
theorem dX11_even_5 : decode cX11_even 5 = .ok (.aload_n 0, 1) := by decide +kernel
theorem dX11_even_6 : decode cX11_even 6 = .ok (.getfield 34, 3) := by decide +kernel
theorem dX11_even_9 : decode cX11_even 9 = .ok (.aload_n 0, 1) := by decide +kernel
theorem dX11_even_10 : decode cX11_even 10 = .ok (.getfield 30, 3) := by decide +kernel
theorem dX11_even_13 : decode cX11_even 13 = .ok (.invokevirtual 121, 3) := by decide +kernel
theorem dX11_even_16 : decode cX11_even 16 = .ok (.iconst 0, 1) := by decide +kernel
theorem dX11_even_17 : decode cX11_even 17 = .ok (.istore_n 2, 1) := by decide +kernel
theorem dX11_even_18 : decode cX11_even 18 = .ok (.iload_n 2, 1) := by decide +kernel
theorem dX11_even_19 : decode cX11_even 19 = .ok (.bipush 60, 2) := by decide +kernel
theorem dX11_even_21 : decode cX11_even 21 = .ok (.if_icmp .gt 50, 3) := by decide +kernel
theorem dX11_even_24 : decode cX11_even 24 = .ok (.aload_n 0, 1) := by decide +kernel
theorem dX11_even_25 : decode cX11_even 25 = .ok (.getfield 34, 3) := by decide +kernel
theorem dX11_even_28 : decode cX11_even 28 = .ok (.getfield 135, 3) := by decide +kernel
theorem dX11_even_31 : decode cX11_even 31 = .ok (.iconst 1, 1) := by decide +kernel
theorem dX11_even_32 : decode cX11_even 32 = .ok (.iload_n 1, 1) := by decide +kernel
theorem dX11_even_33 : decode cX11_even 33 = .ok (.iadd, 1) := by decide +kernel
theorem dX11_even_34 : decode cX11_even 34 = .ok (.iaload, 1) := by decide +kernel
theorem dX11_even_35 : decode cX11_even 35 = .ok (.aload_n 0, 1) := by decide +kernel
theorem dX11_even_36 : decode cX11_even 36 = .ok (.getfield 34, 3) := by decide +kernel
theorem dX11_even_39 : decode cX11_even 39 = .ok (.getfield 135, 3) := by decide +kernel
theorem dX11_even_42 : decode cX11_even 42 = .ok (.bipush 9, 2) := by decide +kernel
theorem dX11_even_44 : decode cX11_even 44 = .ok (.iload_n 1, 1) := by decide +kernel
theorem dX11_even_45 : decode cX11_even 45 = .ok (.iadd, 1) := by decide +kernel
theorem dX11_even_46 : decode cX11_even 46 = .ok (.iaload, 1) := by decide +kernel
theorem dX11_even_47 : decode cX11_even 47 = .ok (.if_icmp .ne 5, 3) := by decide +kernel
theorem dX11_even_50 : decode cX11_even 50 = .ok (.iload_n 2, 1) := by decide +kernel
theorem dX11_even_51 : decode cX11_even 51 = .ok (.ireturn, 1) := by decide +kernel
theorem dX11_even_52 : decode cX11_even 52 = .ok (.aload_n 0, 1) := by decide +kernel
theorem dX11_even_53 : decode cX11_even 53 = .ok (.getfield 34, 3) := by decide +kernel
theorem dX11_even_56 : decode cX11_even 56 = .ok (.aload_n 0, 1) := by decide +kernel
theorem dX11_even_57 : decode cX11_even 57 = .ok (.getfield 23, 3) := by decide +kernel
theorem dX11_even_60 : decode cX11_even 60 = .ok (.iload_n 1, 1) := by decide +kernel
theorem dX11_even_61 : decode cX11_even 61 = .ok (.invokevirtual 236, 3) := by decide +kernel
theorem dX11_even_64 : decode cX11_even 64 = .ok (.pop, 1) := by decide +kernel
theorem dX11_even_65 : decode cX11_even 65 = .ok (.iinc 2 1, 3) := by decide +kernel
theorem dX11_even_68 : decode cX11_even 68 = .ok (.goto (-50), 3) := by decide +kernel
theorem dX11_even_71 : decode cX11_even 71 = .ok (.iconst (-1), 1) := by decide +kernel
theorem dX11_even_72 : decode cX11_even 72 = .ok (.ireturn, 1) := by decide +kernel
theorem dX11_out_0 : decode cX11_out 0 = .ok (.aload_n 0, 1) := by decide +kernel
theorem dX11_out_1 : decode cX11_out 1 = .ok (.iload_n 1, 1) := by decide +kernel
theorem dX11_out_2 : decode cX11_out 2 = .ok (.invokevirtual 161, 3) := by decide +kernel
theorem dX11_out_5 : decode cX11_out 5 = .ok (.aload_n 0, 1) := by decide +kernel
theorem dX11_out_6 : decode cX11_out 6 = .ok (.getfield 34, 3) := by decide +kernel
theorem dX11_out_9 : decode cX11_out 9 = .ok (.aload_n 0, 1) := by decide +kernel
theorem dX11_out_10 : decode cX11_out 10 = .ok (.getfield 30, 3) := by decide +kernel
theorem dX11_out_13 : decode cX11_out 13 = .ok (.invokevirtual 121, 3) := by decide +kernel
theorem dX11_out_16 : decode cX11_out 16 = .ok (.iconst 1, 1) := by decide +kernel
theorem dX11_out_17 : decode cX11_out 17 = .ok (.istore_n 2, 1) := by decide +kernel
theorem dX11_out_18 : decode cX11_out 18 = .ok (.iload_n 2, 1) := by decide +kernel
theorem dX11_out_19 : decode cX11_out 19 = .ok (.bipush 60, 2) := by decide +kernel
theorem dX11_out_21 : decode cX11_out 21 = .ok (.if_icmp .gt 26, 3) := by decide +kernel
theorem dX11_out_24 : decode cX11_out 24 = .ok (.aload_n 0, 1) := by decide +kernel
theorem dX11_out_25 : decode cX11_out 25 = .ok (.getfield 34, 3) := by decide +kernel
theorem dX11_out_28 : decode cX11_out 28 = .ok (.aload_n 0, 1) := by decide +kernel
theorem dX11_out_29 : decode cX11_out 29 = .ok (.getfield 23, 3) := by decide +kernel
theorem dX11_out_32 : decode cX11_out 32 = .ok (.iload_n 1, 1) := by decide +kernel
theorem dX11_out_33 : decode cX11_out 33 = .ok (.invokevirtual 236, 3) := by decide +kernel
theorem dX11_out_36 : decode cX11_out 36 = .ok (.ifCond .ne 5, 3) := by decide +kernel
theorem dX11_out_39 : decode cX11_out 39 = .ok (.iload_n 2, 1) := by decide +kernel
theorem dX11_out_40 : decode cX11_out 40 = .ok (.ireturn, 1) := by decide +kernel
theorem dX11_out_41 : decode cX11_out 41 = .ok (.iinc 2 1, 3) := by decide +kernel
theorem dX11_out_44 : decode cX11_out 44 = .ok (.goto (-26), 3) := by decide +kernel
theorem dX11_out_47 : decode cX11_out 47 = .ok (.iconst (-1), 1) := by decide +kernel
theorem dX11_out_48 : decode cX11_out 48 = .ok (.ireturn, 1) := by decide +kernel
theorem dX11_luckiest_0 : decode cX11_luckiest 0 = .ok (.iload_n 1, 1) := by decide +kernel
theorem dX11_luckiest_1 : decode cX11_luckiest 1 = .ok (.iconst 0, 1) := by decide +kernel
theorem dX11_luckiest_2 : decode cX11_luckiest 2 = .ok (.bipush 60, 2) := by decide +kernel
theorem dX11_luckiest_4 : decode cX11_luckiest 4 = .ok (.invokestatic 232, 3) := by decide +kernel
theorem dX11_luckiest_7 : decode cX11_luckiest 7 = .ok (.aload_n 0, 1) := by decide +kernel
theorem dX11_luckiest_8 : decode cX11_luckiest 8 = .ok (.getfield 34, 3) := by decide +kernel
theorem dX11_luckiest_11 : decode cX11_luckiest 11 = .ok (.aload_n 0, 1) := by decide +kernel
theorem dX11_luckiest_12 : decode cX11_luckiest 12 = .ok (.getfield 30, 3) := by decide +kernel
theorem dX11_luckiest_15 : decode cX11_luckiest 15 = .ok (.invokevirtual 121, 3) := by decide +kernel
theorem dX11_luckiest_18 : decode cX11_luckiest 18 = .ok (.aload_n 0, 1) := by decide +kernel
theorem dX11_luckiest_19 : decode cX11_luckiest 19 = .ok (.getfield 34, 3) := by decide +kernel
theorem dX11_luckiest_22 : decode cX11_luckiest 22 = .ok (.aload_n 0, 1) := by decide +kernel
theorem dX11_luckiest_23 : decode cX11_luckiest 23 = .ok (.getfield 23, 3) := by decide +kernel
theorem dX11_luckiest_26 : decode cX11_luckiest 26 = .ok (.iload_n 1, 1) := by decide +kernel
theorem dX11_luckiest_27 : decode cX11_luckiest 27 = .ok (.invokevirtual 197, 3) := by decide +kernel
theorem dX11_luckiest_30 : decode cX11_luckiest 30 = .ok (.iconst (-1), 1) := by decide +kernel
theorem dX11_luckiest_31 : decode cX11_luckiest 31 = .ok (.istore_n 2, 1) := by decide +kernel
theorem dX11_luckiest_32 : decode cX11_luckiest 32 = .ok (.iconst 0, 1) := by decide +kernel
theorem dX11_luckiest_33 : decode cX11_luckiest 33 = .ok (.istore_n 3, 1) := by decide +kernel
theorem dX11_luckiest_34 : decode cX11_luckiest 34 = .ok (.iconst 0, 1) := by decide +kernel
theorem dX11_luckiest_35 : decode cX11_luckiest 35 = .ok (.istore 4, 2) := by decide +kernel
theorem dX11_luckiest_37 : decode cX11_luckiest 37 = .ok (.iload 4, 2) := by decide +kernel
theorem dX11_luckiest_39 : decode cX11_luckiest 39 = .ok (.aload_n 0, 1) := by decide +kernel
theorem dX11_luckiest_40 : decode cX11_luckiest 40 = .ok (.getfield 23, 3) := by decide +kernel
theorem dX11_luckiest_43 : decode cX11_luckiest 43 = .ok (.getfield 110, 3) := by decide +kernel
theorem dX11_luckiest_46 : decode cX11_luckiest 46 = .ok (.if_icmp .ge 41, 3) := by decide +kernel
theorem dX11_luckiest_49 : decode cX11_luckiest 49 = .ok (.aload_n 0, 1) := by decide +kernel
theorem dX11_luckiest_50 : decode cX11_luckiest 50 = .ok (.getfield 34, 3) := by decide +kernel
theorem dX11_luckiest_53 : decode cX11_luckiest 53 = .ok (.getfield 135, 3) := by decide +kernel
theorem dX11_luckiest_56 : decode cX11_luckiest 56 = .ok (.bipush 17, 2) := by decide +kernel
theorem dX11_luckiest_58 : decode cX11_luckiest 58 = .ok (.iload 4, 2) := by decide +kernel
theorem dX11_luckiest_60 : decode cX11_luckiest 60 = .ok (.iadd, 1) := by decide +kernel
theorem dX11_luckiest_61 : decode cX11_luckiest 61 = .ok (.iaload, 1) := by decide +kernel
theorem dX11_luckiest_62 : decode cX11_luckiest 62 = .ok (.istore 5, 2) := by decide +kernel
theorem dX11_luckiest_64 : decode cX11_luckiest 64 = .ok (.iload_n 2, 1) := by decide +kernel
theorem dX11_luckiest_65 : decode cX11_luckiest 65 = .ok (.iconst (-1), 1) := by decide +kernel
theorem dX11_luckiest_66 : decode cX11_luckiest 66 = .ok (.if_icmp .eq 9, 3) := by decide +kernel
theorem dX11_luckiest_69 : decode cX11_luckiest 69 = .ok (.iload 5, 2) := by decide +kernel
theorem dX11_luckiest_71 : decode cX11_luckiest 71 = .ok (.iload_n 3, 1) := by decide +kernel
theorem dX11_luckiest_72 : decode cX11_luckiest 72 = .ok (.if_icmp .le 9, 3) := by decide +kernel
theorem dX11_luckiest_75 : decode cX11_luckiest 75 = .ok (.iload 4, 2) := by decide +kernel
theorem dX11_luckiest_77 : decode cX11_luckiest 77 = .ok (.istore_n 2, 1) := by decide +kernel
theorem dX11_luckiest_78 : decode cX11_luckiest 78 = .ok (.iload 5, 2) := by decide +kernel
theorem dX11_luckiest_80 : decode cX11_luckiest 80 = .ok (.istore_n 3, 1) := by decide +kernel
theorem dX11_luckiest_81 : decode cX11_luckiest 81 = .ok (.iinc 4 1, 3) := by decide +kernel
theorem dX11_luckiest_84 : decode cX11_luckiest 84 = .ok (.goto (-47), 3) := by decide +kernel
theorem dX11_luckiest_87 : decode cX11_luckiest 87 = .ok (.iload_n 2, 1) := by decide +kernel
theorem dX11_luckiest_88 : decode cX11_luckiest 88 = .ok (.ireturn, 1) := by decide +kernel
theorem dX11_streak_0 : decode cX11_streak 0 = .ok (.aload_n 0, 1) := by decide +kernel
theorem dX11_streak_1 : decode cX11_streak 1 = .ok (.iload_n 1, 1) := by decide +kernel
theorem dX11_streak_2 : decode cX11_streak 2 = .ok (.invokevirtual 161, 3) := by decide +kernel
theorem dX11_streak_5 : decode cX11_streak 5 = .ok (.iload_n 2, 1) := by decide +kernel
theorem dX11_streak_6 : decode cX11_streak 6 = .ok (.iconst 0, 1) := by decide +kernel
theorem dX11_streak_7 : decode cX11_streak 7 = .ok (.bipush 60, 2) := by decide +kernel
theorem dX11_streak_9 : decode cX11_streak 9 = .ok (.invokestatic 232, 3) := by decide +kernel
theorem dX11_streak_12 : decode cX11_streak 12 = .ok (.aload_n 0, 1) := by decide +kernel
theorem dX11_streak_13 : decode cX11_streak 13 = .ok (.getfield 34, 3) := by decide +kernel
theorem dX11_streak_16 : decode cX11_streak 16 = .ok (.aload_n 0, 1) := by decide +kernel
theorem dX11_streak_17 : decode cX11_streak 17 = .ok (.getfield 30, 3) := by decide +kernel
theorem dX11_streak_20 : decode cX11_streak 20 = .ok (.invokevirtual 121, 3) := by decide +kernel
theorem dX11_streak_23 : decode cX11_streak 23 = .ok (.iconst 0, 1) := by decide +kernel
theorem dX11_streak_24 : decode cX11_streak 24 = .ok (.istore_n 3, 1) := by decide +kernel
theorem dX11_streak_25 : decode cX11_streak 25 = .ok (.iconst 0, 1) := by decide +kernel
theorem dX11_streak_26 : decode cX11_streak 26 = .ok (.istore 4, 2) := by decide +kernel
theorem dX11_streak_28 : decode cX11_streak 28 = .ok (.iconst 0, 1) := by decide +kernel
theorem dX11_streak_29 : decode cX11_streak 29 = .ok (.istore 5, 2) := by decide +kernel
theorem dX11_streak_31 : decode cX11_streak 31 = .ok (.iload 5, 2) := by decide +kernel
theorem dX11_streak_33 : decode cX11_streak 33 = .ok (.iload_n 2, 1) := by decide +kernel
theorem dX11_streak_34 : decode cX11_streak 34 = .ok (.if_icmp .ge 41, 3) := by decide +kernel
theorem dX11_streak_37 : decode cX11_streak 37 = .ok (.aload_n 0, 1) := by decide +kernel
theorem dX11_streak_38 : decode cX11_streak 38 = .ok (.getfield 34, 3) := by decide +kernel
theorem dX11_streak_41 : decode cX11_streak 41 = .ok (.aload_n 0, 1) := by decide +kernel
theorem dX11_streak_42 : decode cX11_streak 42 = .ok (.getfield 23, 3) := by decide +kernel
theorem dX11_streak_45 : decode cX11_streak 45 = .ok (.iload_n 1, 1) := by decide +kernel
theorem dX11_streak_46 : decode cX11_streak 46 = .ok (.invokevirtual 236, 3) := by decide +kernel
theorem dX11_streak_49 : decode cX11_streak 49 = .ok (.ifCond .eq 10, 3) := by decide +kernel
theorem dX11_streak_52 : decode cX11_streak 52 = .ok (.iload 4, 2) := by decide +kernel
theorem dX11_streak_54 : decode cX11_streak 54 = .ok (.iconst 1, 1) := by decide +kernel
theorem dX11_streak_55 : decode cX11_streak 55 = .ok (.iadd, 1) := by decide +kernel
theorem dX11_streak_56 : decode cX11_streak 56 = .ok (.goto 4, 3) := by decide +kernel
theorem dX11_streak_59 : decode cX11_streak 59 = .ok (.iconst 0, 1) := by decide +kernel
theorem dX11_streak_60 : decode cX11_streak 60 = .ok (.istore 4, 2) := by decide +kernel
theorem dX11_streak_62 : decode cX11_streak 62 = .ok (.iload_n 3, 1) := by decide +kernel
theorem dX11_streak_63 : decode cX11_streak 63 = .ok (.iload 4, 2) := by decide +kernel
theorem dX11_streak_65 : decode cX11_streak 65 = .ok (.invokestatic 240, 3) := by decide +kernel
theorem dX11_streak_68 : decode cX11_streak 68 = .ok (.istore_n 3, 1) := by decide +kernel
theorem dX11_streak_69 : decode cX11_streak 69 = .ok (.iinc 5 1, 3) := by decide +kernel
theorem dX11_streak_72 : decode cX11_streak 72 = .ok (.goto (-41), 3) := by decide +kernel
theorem dX11_streak_75 : decode cX11_streak 75 = .ok (.iload_n 3, 1) := by decide +kernel
theorem dX11_streak_76 : decode cX11_streak 76 = .ok (.ireturn, 1) := by decide +kernel
theorem dX11_day_0 : decode cX11_day 0 = .ok (.iload_n 2, 1) := by decide +kernel
theorem dX11_day_1 : decode cX11_day 1 = .ok (.iconst 1, 1) := by decide +kernel
theorem dX11_day_2 : decode cX11_day 2 = .ok (.invokestatic 245, 3) := by decide +kernel
theorem dX11_day_5 : decode cX11_day 5 = .ok (.iload_n 1, 1) := by decide +kernel
theorem dX11_day_6 : decode cX11_day 6 = .ok (.iconst 1, 1) := by decide +kernel
theorem dX11_day_7 : decode cX11_day 7 = .ok (.bipush 60, 2) := by decide +kernel
theorem dX11_day_9 : decode cX11_day 9 = .ok (.invokestatic 232, 3) := by decide +kernel
theorem dX11_day_12 : decode cX11_day 12 = .ok (.aload_n 0, 1) := by decide +kernel
theorem dX11_day_13 : decode cX11_day 13 = .ok (.getfield 34, 3) := by decide +kernel
theorem dX11_day_16 : decode cX11_day 16 = .ok (.aload_n 0, 1) := by decide +kernel
theorem dX11_day_17 : decode cX11_day 17 = .ok (.getfield 30, 3) := by decide +kernel
theorem dX11_day_20 : decode cX11_day 20 = .ok (.invokevirtual 121, 3) := by decide +kernel
theorem dX11_day_23 : decode cX11_day 23 = .ok (.aload_n 0, 1) := by decide +kernel
theorem dX11_day_24 : decode cX11_day 24 = .ok (.getfield 34, 3) := by decide +kernel
theorem dX11_day_27 : decode cX11_day 27 = .ok (.bipush 17, 2) := by decide +kernel
theorem dX11_day_29 : decode cX11_day 29 = .ok (.aload_n 0, 1) := by decide +kernel
theorem dX11_day_30 : decode cX11_day 30 = .ok (.getfield 23, 3) := by decide +kernel
theorem dX11_day_33 : decode cX11_day 33 = .ok (.getfield 110, 3) := by decide +kernel
theorem dX11_day_36 : decode cX11_day 36 = .ok (.invokevirtual 138, 3) := by decide +kernel
theorem dX11_day_39 : decode cX11_day 39 = .ok (.istore_n 3, 1) := by decide +kernel
theorem dX11_day_40 : decode cX11_day 40 = .ok (.iconst 0, 1) := by decide +kernel
theorem dX11_day_41 : decode cX11_day 41 = .ok (.istore 4, 2) := by decide +kernel
theorem dX11_day_43 : decode cX11_day 43 = .ok (.iconst 0, 1) := by decide +kernel
theorem dX11_day_44 : decode cX11_day 44 = .ok (.istore 5, 2) := by decide +kernel
theorem dX11_day_46 : decode cX11_day 46 = .ok (.iconst 1, 1) := by decide +kernel
theorem dX11_day_47 : decode cX11_day 47 = .ok (.istore 6, 2) := by decide +kernel
theorem dX11_day_49 : decode cX11_day 49 = .ok (.iload 6, 2) := by decide +kernel
theorem dX11_day_51 : decode cX11_day 51 = .ok (.iload_n 1, 1) := by decide +kernel
theorem dX11_day_52 : decode cX11_day 52 = .ok (.if_icmp .gt 65, 3) := by decide +kernel
theorem dX11_day_55 : decode cX11_day 55 = .ok (.aload_n 0, 1) := by decide +kernel
theorem dX11_day_56 : decode cX11_day 56 = .ok (.getfield 34, 3) := by decide +kernel
theorem dX11_day_59 : decode cX11_day 59 = .ok (.aload_n 0, 1) := by decide +kernel
theorem dX11_day_60 : decode cX11_day 60 = .ok (.getfield 23, 3) := by decide +kernel
theorem dX11_day_63 : decode cX11_day 63 = .ok (.invokevirtual 248, 3) := by decide +kernel
theorem dX11_day_66 : decode cX11_day 66 = .ok (.aload_n 0, 1) := by decide +kernel
theorem dX11_day_67 : decode cX11_day 67 = .ok (.getfield 34, 3) := by decide +kernel
theorem dX11_day_70 : decode cX11_day 70 = .ok (.bipush 17, 2) := by decide +kernel
theorem dX11_day_72 : decode cX11_day 72 = .ok (.aload_n 0, 1) := by decide +kernel
theorem dX11_day_73 : decode cX11_day 73 = .ok (.getfield 23, 3) := by decide +kernel
theorem dX11_day_76 : decode cX11_day 76 = .ok (.getfield 110, 3) := by decide +kernel
theorem dX11_day_79 : decode cX11_day 79 = .ok (.invokevirtual 138, 3) := by decide +kernel
theorem dX11_day_82 : decode cX11_day 82 = .ok (.istore 7, 2) := by decide +kernel
theorem dX11_day_84 : decode cX11_day 84 = .ok (.iload 4, 2) := by decide +kernel
theorem dX11_day_86 : decode cX11_day 86 = .ok (.ifCond .eq 12, 3) := by decide +kernel
theorem dX11_day_89 : decode cX11_day 89 = .ok (.iload 7, 2) := by decide +kernel
theorem dX11_day_91 : decode cX11_day 91 = .ok (.iload_n 3, 1) := by decide +kernel
theorem dX11_day_92 : decode cX11_day 92 = .ok (.isub, 1) := by decide +kernel
theorem dX11_day_93 : decode cX11_day 93 = .ok (.iload 5, 2) := by decide +kernel
theorem dX11_day_95 : decode cX11_day 95 = .ok (.if_icmp .le 13, 3) := by decide +kernel
theorem dX11_day_98 : decode cX11_day 98 = .ok (.iload 6, 2) := by decide +kernel
theorem dX11_day_100 : decode cX11_day 100 = .ok (.istore 4, 2) := by decide +kernel
theorem dX11_day_102 : decode cX11_day 102 = .ok (.iload 7, 2) := by decide +kernel
theorem dX11_day_104 : decode cX11_day 104 = .ok (.iload_n 3, 1) := by decide +kernel
theorem dX11_day_105 : decode cX11_day 105 = .ok (.isub, 1) := by decide +kernel
theorem dX11_day_106 : decode cX11_day 106 = .ok (.istore 5, 2) := by decide +kernel
theorem dX11_day_108 : decode cX11_day 108 = .ok (.iload 7, 2) := by decide +kernel
theorem dX11_day_110 : decode cX11_day 110 = .ok (.istore_n 3, 1) := by decide +kernel
theorem dX11_day_111 : decode cX11_day 111 = .ok (.iinc 6 1, 3) := by decide +kernel
theorem dX11_day_114 : decode cX11_day 114 = .ok (.goto (-65), 3) := by decide +kernel
theorem dX11_day_117 : decode cX11_day 117 = .ok (.iload_n 2, 1) := by decide +kernel
theorem dX11_day_118 : decode cX11_day 118 = .ok (.ifCond .ne 8, 3) := by decide +kernel
theorem dX11_day_121 : decode cX11_day 121 = .ok (.iload 4, 2) := by decide +kernel
theorem dX11_day_123 : decode cX11_day 123 = .ok (.goto 5, 3) := by decide +kernel
theorem dX11_day_126 : decode cX11_day 126 = .ok (.iload 5, 2) := by decide +kernel
theorem dX11_day_128 : decode cX11_day 128 = .ok (.ireturn, 1) := by decide +kernel
theorem dX11_pooled_0 : decode cX11_pooled 0 = .ok (.iload_n 1, 1) := by decide +kernel
theorem dX11_pooled_1 : decode cX11_pooled 1 = .ok (.iconst 1, 1) := by decide +kernel
theorem dX11_pooled_2 : decode cX11_pooled 2 = .ok (.bipush 60, 2) := by decide +kernel
theorem dX11_pooled_4 : decode cX11_pooled 4 = .ok (.invokestatic 232, 3) := by decide +kernel
theorem dX11_pooled_7 : decode cX11_pooled 7 = .ok (.aload_n 0, 1) := by decide +kernel
theorem dX11_pooled_8 : decode cX11_pooled 8 = .ok (.getfield 34, 3) := by decide +kernel
theorem dX11_pooled_11 : decode cX11_pooled 11 = .ok (.aload_n 0, 1) := by decide +kernel
theorem dX11_pooled_12 : decode cX11_pooled 12 = .ok (.getfield 30, 3) := by decide +kernel
theorem dX11_pooled_15 : decode cX11_pooled 15 = .ok (.invokevirtual 121, 3) := by decide +kernel
theorem dX11_pooled_18 : decode cX11_pooled 18 = .ok (.aload_n 0, 1) := by decide +kernel
theorem dX11_pooled_19 : decode cX11_pooled 19 = .ok (.getfield 34, 3) := by decide +kernel
theorem dX11_pooled_22 : decode cX11_pooled 22 = .ok (.aload_n 0, 1) := by decide +kernel
theorem dX11_pooled_23 : decode cX11_pooled 23 = .ok (.getfield 23, 3) := by decide +kernel
theorem dX11_pooled_26 : decode cX11_pooled 26 = .ok (.iload_n 1, 1) := by decide +kernel
theorem dX11_pooled_27 : decode cX11_pooled 27 = .ok (.invokevirtual 252, 3) := by decide +kernel
theorem dX11_pooled_30 : decode cX11_pooled 30 = .ok (.istore_n 2, 1) := by decide +kernel
theorem dX11_pooled_31 : decode cX11_pooled 31 = .ok (.aload_n 0, 1) := by decide +kernel
theorem dX11_pooled_32 : decode cX11_pooled 32 = .ok (.getfield 34, 3) := by decide +kernel
theorem dX11_pooled_35 : decode cX11_pooled 35 = .ok (.aload_n 0, 1) := by decide +kernel
theorem dX11_pooled_36 : decode cX11_pooled 36 = .ok (.getfield 30, 3) := by decide +kernel
theorem dX11_pooled_39 : decode cX11_pooled 39 = .ok (.invokevirtual 121, 3) := by decide +kernel
theorem dX11_pooled_42 : decode cX11_pooled 42 = .ok (.aload_n 0, 1) := by decide +kernel
theorem dX11_pooled_43 : decode cX11_pooled 43 = .ok (.getfield 34, 3) := by decide +kernel
theorem dX11_pooled_46 : decode cX11_pooled 46 = .ok (.aload_n 0, 1) := by decide +kernel
theorem dX11_pooled_47 : decode cX11_pooled 47 = .ok (.getfield 23, 3) := by decide +kernel
theorem dX11_pooled_50 : decode cX11_pooled 50 = .ok (.getfield 110, 3) := by decide +kernel
theorem dX11_pooled_53 : decode cX11_pooled 53 = .ok (.invokevirtual 256, 3) := by decide +kernel
theorem dX11_pooled_56 : decode cX11_pooled 56 = .ok (.aload_n 0, 1) := by decide +kernel
theorem dX11_pooled_57 : decode cX11_pooled 57 = .ok (.getfield 34, 3) := by decide +kernel
theorem dX11_pooled_60 : decode cX11_pooled 60 = .ok (.aload_n 0, 1) := by decide +kernel
theorem dX11_pooled_61 : decode cX11_pooled 61 = .ok (.getfield 23, 3) := by decide +kernel
theorem dX11_pooled_64 : decode cX11_pooled 64 = .ok (.iload_n 1, 1) := by decide +kernel
theorem dX11_pooled_65 : decode cX11_pooled 65 = .ok (.invokevirtual 252, 3) := by decide +kernel
theorem dX11_pooled_68 : decode cX11_pooled 68 = .ok (.iload_n 2, 1) := by decide +kernel
theorem dX11_pooled_69 : decode cX11_pooled 69 = .ok (.isub, 1) := by decide +kernel
theorem dX11_pooled_70 : decode cX11_pooled 70 = .ok (.ireturn, 1) := by decide +kernel
theorem dX11_missed_0 : decode cX11_missed 0 = .ok (.iconst (-1), 1) := by decide +kernel
theorem dX11_missed_1 : decode cX11_missed 1 = .ok (.istore_n 1, 1) := by decide +kernel
theorem dX11_missed_2 : decode cX11_missed 2 = .ok (.iconst 0, 1) := by decide +kernel
theorem dX11_missed_3 : decode cX11_missed 3 = .ok (.istore_n 2, 1) := by decide +kernel
theorem dX11_missed_4 : decode cX11_missed 4 = .ok (.iconst 0, 1) := by decide +kernel
theorem dX11_missed_5 : decode cX11_missed 5 = .ok (.istore_n 3, 1) := by decide +kernel
theorem dX11_missed_6 : decode cX11_missed 6 = .ok (.iload_n 3, 1) := by decide +kernel
theorem dX11_missed_7 : decode cX11_missed 7 = .ok (.aload_n 0, 1) := by decide +kernel
theorem dX11_missed_8 : decode cX11_missed 8 = .ok (.getfield 23, 3) := by decide +kernel
theorem dX11_missed_11 : decode cX11_missed 11 = .ok (.getfield 132, 3) := by decide +kernel
theorem dX11_missed_14 : decode cX11_missed 14 = .ok (.if_icmp .ge 43, 3) := by decide +kernel
theorem dX11_missed_17 : decode cX11_missed 17 = .ok (.aload_n 0, 1) := by decide +kernel
theorem dX11_missed_18 : decode cX11_missed 18 = .ok (.getfield 30, 3) := by decide +kernel
theorem dX11_missed_21 : decode cX11_missed 21 = .ok (.iload_n 3, 1) := by decide +kernel
theorem dX11_missed_22 : decode cX11_missed 22 = .ok (.invokevirtual 204, 3) := by decide +kernel
theorem dX11_missed_25 : decode cX11_missed 25 = .ok (.ifCond .eq 26, 3) := by decide +kernel
theorem dX11_missed_28 : decode cX11_missed 28 = .ok (.aload_n 0, 1) := by decide +kernel
theorem dX11_missed_29 : decode cX11_missed 29 = .ok (.iload_n 3, 1) := by decide +kernel
theorem dX11_missed_30 : decode cX11_missed 30 = .ok (.invokevirtual 259, 3) := by decide +kernel
theorem dX11_missed_33 : decode cX11_missed 33 = .ok (.istore 4, 2) := by decide +kernel
theorem dX11_missed_35 : decode cX11_missed 35 = .ok (.iload_n 1, 1) := by decide +kernel
theorem dX11_missed_36 : decode cX11_missed 36 = .ok (.iconst (-1), 1) := by decide +kernel
theorem dX11_missed_37 : decode cX11_missed 37 = .ok (.if_icmp .eq 9, 3) := by decide +kernel
theorem dX11_missed_40 : decode cX11_missed 40 = .ok (.iload 4, 2) := by decide +kernel
theorem dX11_missed_42 : decode cX11_missed 42 = .ok (.iload_n 2, 1) := by decide +kernel
theorem dX11_missed_43 : decode cX11_missed 43 = .ok (.if_icmp .ge 8, 3) := by decide +kernel
theorem dX11_missed_46 : decode cX11_missed 46 = .ok (.iload_n 3, 1) := by decide +kernel
theorem dX11_missed_47 : decode cX11_missed 47 = .ok (.istore_n 1, 1) := by decide +kernel
theorem dX11_missed_48 : decode cX11_missed 48 = .ok (.iload 4, 2) := by decide +kernel
theorem dX11_missed_50 : decode cX11_missed 50 = .ok (.istore_n 2, 1) := by decide +kernel
theorem dX11_missed_51 : decode cX11_missed 51 = .ok (.iinc 3 1, 3) := by decide +kernel
theorem dX11_missed_54 : decode cX11_missed 54 = .ok (.goto (-48), 3) := by decide +kernel
theorem dX11_missed_57 : decode cX11_missed 57 = .ok (.iload_n 1, 1) := by decide +kernel
theorem dX11_missed_58 : decode cX11_missed 58 = .ok (.ireturn, 1) := by decide +kernel
theorem dX11_lend_0 : decode cX11_lend 0 = .ok (.aload_n 0, 1) := by decide +kernel
theorem dX11_lend_1 : decode cX11_lend 1 = .ok (.iload_n 1, 1) := by decide +kernel
theorem dX11_lend_2 : decode cX11_lend 2 = .ok (.invokevirtual 161, 3) := by decide +kernel
theorem dX11_lend_5 : decode cX11_lend 5 = .ok (.aload_n 0, 1) := by decide +kernel
theorem dX11_lend_6 : decode cX11_lend 6 = .ok (.getfield 23, 3) := by decide +kernel
theorem dX11_lend_9 : decode cX11_lend 9 = .ok (.getfield 170, 3) := by decide +kernel
theorem dX11_lend_12 : decode cX11_lend 12 = .ok (.aload_n 0, 1) := by decide +kernel
theorem dX11_lend_13 : decode cX11_lend 13 = .ok (.getfield 23, 3) := by decide +kernel
theorem dX11_lend_16 : decode cX11_lend 16 = .ok (.aload_n 0, 1) := by decide +kernel
theorem dX11_lend_17 : decode cX11_lend 17 = .ok (.getfield 30, 3) := by decide +kernel
theorem dX11_lend_20 : decode cX11_lend 20 = .ok (.iload_n 1, 1) := by decide +kernel
theorem dX11_lend_21 : decode cX11_lend 21 = .ok (.invokevirtual 174, 3) := by decide +kernel
theorem dX11_lend_24 : decode cX11_lend 24 = .ok (.bipush 7, 2) := by decide +kernel
theorem dX11_lend_26 : decode cX11_lend 26 = .ok (.if_icmp .ge 5, 3) := by decide +kernel
theorem dX11_lend_29 : decode cX11_lend 29 = .ok (.iconst (-1), 1) := by decide +kernel
theorem dX11_lend_30 : decode cX11_lend 30 = .ok (.ireturn, 1) := by decide +kernel
theorem dX11_lend_31 : decode cX11_lend 31 = .ok (.aload_n 0, 1) := by decide +kernel
theorem dX11_lend_32 : decode cX11_lend 32 = .ok (.getfield 34, 3) := by decide +kernel
theorem dX11_lend_35 : decode cX11_lend 35 = .ok (.aload_n 0, 1) := by decide +kernel
theorem dX11_lend_36 : decode cX11_lend 36 = .ok (.getfield 30, 3) := by decide +kernel
theorem dX11_lend_39 : decode cX11_lend 39 = .ok (.invokevirtual 121, 3) := by decide +kernel
theorem dX11_lend_42 : decode cX11_lend 42 = .ok (.aload_n 0, 1) := by decide +kernel
theorem dX11_lend_43 : decode cX11_lend 43 = .ok (.getfield 30, 3) := by decide +kernel
theorem dX11_lend_46 : decode cX11_lend 46 = .ok (.getfield 135, 3) := by decide +kernel
theorem dX11_lend_49 : decode cX11_lend 49 = .ok (.iconst 1, 1) := by decide +kernel
theorem dX11_lend_50 : decode cX11_lend 50 = .ok (.iload_n 1, 1) := by decide +kernel
theorem dX11_lend_51 : decode cX11_lend 51 = .ok (.iadd, 1) := by decide +kernel
theorem dX11_lend_52 : decode cX11_lend 52 = .ok (.iaload, 1) := by decide +kernel
theorem dX11_lend_53 : decode cX11_lend 53 = .ok (.istore_n 2, 1) := by decide +kernel
theorem dX11_lend_54 : decode cX11_lend 54 = .ok (.iconst 0, 1) := by decide +kernel
theorem dX11_lend_55 : decode cX11_lend 55 = .ok (.istore_n 3, 1) := by decide +kernel
theorem dX11_lend_56 : decode cX11_lend 56 = .ok (.iload_n 3, 1) := by decide +kernel
theorem dX11_lend_57 : decode cX11_lend 57 = .ok (.iload_n 2, 1) := by decide +kernel
theorem dX11_lend_58 : decode cX11_lend 58 = .ok (.if_icmp .ge 49, 3) := by decide +kernel
theorem dX11_lend_61 : decode cX11_lend 61 = .ok (.aload_n 0, 1) := by decide +kernel
theorem dX11_lend_62 : decode cX11_lend 62 = .ok (.getfield 34, 3) := by decide +kernel
theorem dX11_lend_65 : decode cX11_lend 65 = .ok (.getfield 135, 3) := by decide +kernel
theorem dX11_lend_68 : decode cX11_lend 68 = .ok (.iconst 1, 1) := by decide +kernel
theorem dX11_lend_69 : decode cX11_lend 69 = .ok (.iload_n 1, 1) := by decide +kernel
theorem dX11_lend_70 : decode cX11_lend 70 = .ok (.iadd, 1) := by decide +kernel
theorem dX11_lend_71 : decode cX11_lend 71 = .ok (.iload_n 3, 1) := by decide +kernel
theorem dX11_lend_72 : decode cX11_lend 72 = .ok (.iastore, 1) := by decide +kernel
theorem dX11_lend_73 : decode cX11_lend 73 = .ok (.aload_n 0, 1) := by decide +kernel
theorem dX11_lend_74 : decode cX11_lend 74 = .ok (.getfield 23, 3) := by decide +kernel
theorem dX11_lend_77 : decode cX11_lend 77 = .ok (.getfield 170, 3) := by decide +kernel
theorem dX11_lend_80 : decode cX11_lend 80 = .ok (.aload_n 0, 1) := by decide +kernel
theorem dX11_lend_81 : decode cX11_lend 81 = .ok (.getfield 23, 3) := by decide +kernel
theorem dX11_lend_84 : decode cX11_lend 84 = .ok (.aload_n 0, 1) := by decide +kernel
theorem dX11_lend_85 : decode cX11_lend 85 = .ok (.getfield 34, 3) := by decide +kernel
theorem dX11_lend_88 : decode cX11_lend 88 = .ok (.iload_n 1, 1) := by decide +kernel
theorem dX11_lend_89 : decode cX11_lend 89 = .ok (.invokevirtual 174, 3) := by decide +kernel
theorem dX11_lend_92 : decode cX11_lend 92 = .ok (.bipush 7, 2) := by decide +kernel
theorem dX11_lend_94 : decode cX11_lend 94 = .ok (.if_icmp .lt 7, 3) := by decide +kernel
theorem dX11_lend_97 : decode cX11_lend 97 = .ok (.iload_n 2, 1) := by decide +kernel
theorem dX11_lend_98 : decode cX11_lend 98 = .ok (.iload_n 3, 1) := by decide +kernel
theorem dX11_lend_99 : decode cX11_lend 99 = .ok (.isub, 1) := by decide +kernel
theorem dX11_lend_100 : decode cX11_lend 100 = .ok (.ireturn, 1) := by decide +kernel
theorem dX11_lend_101 : decode cX11_lend 101 = .ok (.iinc 3 1, 3) := by decide +kernel
theorem dX11_lend_104 : decode cX11_lend 104 = .ok (.goto (-48), 3) := by decide +kernel
theorem dX11_lend_107 : decode cX11_lend 107 = .ok (.iconst 0, 1) := by decide +kernel
theorem dX11_lend_108 : decode cX11_lend 108 = .ok (.ireturn, 1) := by decide +kernel
theorem dX11_spoilt_0 : decode cX11_spoilt 0 = .ok (.iconst 0, 1) := by decide +kernel
theorem dX11_spoilt_1 : decode cX11_spoilt 1 = .ok (.istore_n 1, 1) := by decide +kernel
theorem dX11_spoilt_2 : decode cX11_spoilt 2 = .ok (.iconst 0, 1) := by decide +kernel
theorem dX11_spoilt_3 : decode cX11_spoilt 3 = .ok (.istore_n 2, 1) := by decide +kernel
theorem dX11_spoilt_4 : decode cX11_spoilt 4 = .ok (.iload_n 2, 1) := by decide +kernel
theorem dX11_spoilt_5 : decode cX11_spoilt 5 = .ok (.aload_n 0, 1) := by decide +kernel
theorem dX11_spoilt_6 : decode cX11_spoilt 6 = .ok (.getfield 23, 3) := by decide +kernel
theorem dX11_spoilt_9 : decode cX11_spoilt 9 = .ok (.getfield 132, 3) := by decide +kernel
theorem dX11_spoilt_12 : decode cX11_spoilt 12 = .ok (.if_icmp .ge 37, 3) := by decide +kernel
theorem dX11_spoilt_15 : decode cX11_spoilt 15 = .ok (.aload_n 0, 1) := by decide +kernel
theorem dX11_spoilt_16 : decode cX11_spoilt 16 = .ok (.getfield 30, 3) := by decide +kernel
theorem dX11_spoilt_19 : decode cX11_spoilt 19 = .ok (.iload_n 2, 1) := by decide +kernel
theorem dX11_spoilt_20 : decode cX11_spoilt 20 = .ok (.invokevirtual 262, 3) := by decide +kernel
theorem dX11_spoilt_23 : decode cX11_spoilt 23 = .ok (.ifCond .eq 20, 3) := by decide +kernel
theorem dX11_spoilt_26 : decode cX11_spoilt 26 = .ok (.aload_n 0, 1) := by decide +kernel
theorem dX11_spoilt_27 : decode cX11_spoilt 27 = .ok (.getfield 30, 3) := by decide +kernel
theorem dX11_spoilt_30 : decode cX11_spoilt 30 = .ok (.iload_n 2, 1) := by decide +kernel
theorem dX11_spoilt_31 : decode cX11_spoilt 31 = .ok (.invokevirtual 265, 3) := by decide +kernel
theorem dX11_spoilt_34 : decode cX11_spoilt 34 = .ok (.ifCond .ne 9, 3) := by decide +kernel
theorem dX11_spoilt_37 : decode cX11_spoilt 37 = .ok (.iload_n 1, 1) := by decide +kernel
theorem dX11_spoilt_38 : decode cX11_spoilt 38 = .ok (.iconst 1, 1) := by decide +kernel
theorem dX11_spoilt_39 : decode cX11_spoilt 39 = .ok (.iload_n 2, 1) := by decide +kernel
theorem dX11_spoilt_40 : decode cX11_spoilt 40 = .ok (.ishl, 1) := by decide +kernel
theorem dX11_spoilt_41 : decode cX11_spoilt 41 = .ok (.ior, 1) := by decide +kernel
theorem dX11_spoilt_42 : decode cX11_spoilt 42 = .ok (.istore_n 1, 1) := by decide +kernel
theorem dX11_spoilt_43 : decode cX11_spoilt 43 = .ok (.iinc 2 1, 3) := by decide +kernel
theorem dX11_spoilt_46 : decode cX11_spoilt 46 = .ok (.goto (-42), 3) := by decide +kernel
theorem dX11_spoilt_49 : decode cX11_spoilt 49 = .ok (.iload_n 1, 1) := by decide +kernel
theorem dX11_spoilt_50 : decode cX11_spoilt 50 = .ok (.ireturn, 1) := by decide +kernel
theorem dX11_far_0 : decode cX11_far 0 = .ok (.aload_n 0, 1) := by decide +kernel
theorem dX11_far_1 : decode cX11_far 1 = .ok (.iload_n 1, 1) := by decide +kernel
theorem dX11_far_2 : decode cX11_far 2 = .ok (.invokevirtual 161, 3) := by decide +kernel
theorem dX11_far_5 : decode cX11_far 5 = .ok (.aload_n 0, 1) := by decide +kernel
theorem dX11_far_6 : decode cX11_far 6 = .ok (.iload_n 2, 1) := by decide +kernel
theorem dX11_far_7 : decode cX11_far 7 = .ok (.invokevirtual 161, 3) := by decide +kernel
theorem dX11_far_10 : decode cX11_far 10 = .ok (.aload_n 0, 1) := by decide +kernel
theorem dX11_far_11 : decode cX11_far 11 = .ok (.getfield 23, 3) := by decide +kernel
theorem dX11_far_14 : decode cX11_far 14 = .ok (.getfield 106, 3) := by decide +kernel
theorem dX11_far_17 : decode cX11_far 17 = .ok (.iload_n 1, 1) := by decide +kernel
theorem dX11_far_18 : decode cX11_far 18 = .ok (.iload_n 2, 1) := by decide +kernel
theorem dX11_far_19 : decode cX11_far 19 = .ok (.invokevirtual 268, 3) := by decide +kernel
theorem dX11_far_22 : decode cX11_far 22 = .ok (.ireturn, 1) := by decide +kernel
theorem dX11_leak_0 : decode cX11_leak 0 = .ok (.aload_n 0, 1) := by decide +kernel
theorem dX11_leak_1 : decode cX11_leak 1 = .ok (.iload_n 1, 1) := by decide +kernel
theorem dX11_leak_2 : decode cX11_leak 2 = .ok (.invokevirtual 161, 3) := by decide +kernel
theorem dX11_leak_5 : decode cX11_leak 5 = .ok (.aload_n 0, 1) := by decide +kernel
theorem dX11_leak_6 : decode cX11_leak 6 = .ok (.iload_n 2, 1) := by decide +kernel
theorem dX11_leak_7 : decode cX11_leak 7 = .ok (.invokevirtual 161, 3) := by decide +kernel
theorem dX11_leak_10 : decode cX11_leak 10 = .ok (.aload_n 0, 1) := by decide +kernel
theorem dX11_leak_11 : decode cX11_leak 11 = .ok (.getfield 23, 3) := by decide +kernel
theorem dX11_leak_14 : decode cX11_leak 14 = .ok (.getfield 106, 3) := by decide +kernel
theorem dX11_leak_17 : decode cX11_leak 17 = .ok (.iload_n 1, 1) := by decide +kernel
theorem dX11_leak_18 : decode cX11_leak 18 = .ok (.iload_n 2, 1) := by decide +kernel
theorem dX11_leak_19 : decode cX11_leak 19 = .ok (.invokevirtual 271, 3) := by decide +kernel
theorem dX11_leak_22 : decode cX11_leak 22 = .ok (.ireturn, 1) := by decide +kernel
theorem dX11_row_0 : decode cX11_row 0 = .ok (.aload_n 0, 1) := by decide +kernel
theorem dX11_row_1 : decode cX11_row 1 = .ok (.iload_n 1, 1) := by decide +kernel
theorem dX11_row_2 : decode cX11_row 2 = .ok (.invokevirtual 161, 3) := by decide +kernel
theorem dX11_row_5 : decode cX11_row 5 = .ok (.aload_n 0, 1) := by decide +kernel
theorem dX11_row_6 : decode cX11_row 6 = .ok (.iload_n 2, 1) := by decide +kernel
theorem dX11_row_7 : decode cX11_row 7 = .ok (.invokevirtual 161, 3) := by decide +kernel
theorem dX11_row_10 : decode cX11_row 10 = .ok (.aload_n 0, 1) := by decide +kernel
theorem dX11_row_11 : decode cX11_row 11 = .ok (.getfield 23, 3) := by decide +kernel
theorem dX11_row_14 : decode cX11_row 14 = .ok (.getfield 106, 3) := by decide +kernel
theorem dX11_row_17 : decode cX11_row 17 = .ok (.iload_n 1, 1) := by decide +kernel
theorem dX11_row_18 : decode cX11_row 18 = .ok (.iload_n 2, 1) := by decide +kernel
theorem dX11_row_19 : decode cX11_row 19 = .ok (.iload_n 3, 1) := by decide +kernel
theorem dX11_row_20 : decode cX11_row 20 = .ok (.invokevirtual 274, 3) := by decide +kernel
theorem dX11_row_23 : decode cX11_row 23 = .ok (.istore 4, 2) := by decide +kernel
theorem dX11_row_25 : decode cX11_row 25 = .ok (.iload 4, 2) := by decide +kernel
theorem dX11_row_27 : decode cX11_row 27 = .ok (.iconst (-1), 1) := by decide +kernel
theorem dX11_row_28 : decode cX11_row 28 = .ok (.if_icmp .ne 14, 3) := by decide +kernel
theorem dX11_row_31 : decode cX11_row 31 = .ok (.new 156, 3) := by decide +kernel
theorem dX11_row_34 : decode cX11_row 34 = .ok (.dup, 1) := by decide +kernel
theorem dX11_row_35 : decode cX11_row 35 = .ok (.ldc_w 278, 3) := by decide +kernel
theorem dX11_row_38 : decode cX11_row 38 = .ok (.invokespecial 160, 3) := by decide +kernel
theorem dX11_row_41 : decode cX11_row 41 = .ok (.athrow, 1) := by decide +kernel
theorem dX11_row_42 : decode cX11_row 42 = .ok (.iload 4, 2) := by decide +kernel
theorem dX11_row_44 : decode cX11_row 44 = .ok (.ireturn, 1) := by decide +kernel
theorem dX11_hub_0 : decode cX11_hub 0 = .ok (.aload_n 0, 1) := by decide +kernel
theorem dX11_hub_1 : decode cX11_hub 1 = .ok (.getfield 23, 3) := by decide +kernel
theorem dX11_hub_4 : decode cX11_hub 4 = .ok (.getfield 106, 3) := by decide +kernel
theorem dX11_hub_7 : decode cX11_hub 7 = .ok (.invokevirtual 280, 3) := by decide +kernel
theorem dX11_hub_10 : decode cX11_hub 10 = .ok (.ireturn, 1) := by decide +kernel
theorem dX11_bridge_0 : decode cX11_bridge 0 = .ok (.aload_n 0, 1) := by decide +kernel
theorem dX11_bridge_1 : decode cX11_bridge 1 = .ok (.iload_n 1, 1) := by decide +kernel
theorem dX11_bridge_2 : decode cX11_bridge 2 = .ok (.invokevirtual 201, 3) := by decide +kernel
theorem dX11_bridge_5 : decode cX11_bridge 5 = .ok (.aload_n 0, 1) := by decide +kernel
theorem dX11_bridge_6 : decode cX11_bridge 6 = .ok (.getfield 23, 3) := by decide +kernel
theorem dX11_bridge_9 : decode cX11_bridge 9 = .ok (.getfield 106, 3) := by decide +kernel
theorem dX11_bridge_12 : decode cX11_bridge 12 = .ok (.iload_n 1, 1) := by decide +kernel
theorem dX11_bridge_13 : decode cX11_bridge 13 = .ok (.invokevirtual 283, 3) := by decide +kernel
theorem dX11_bridge_16 : decode cX11_bridge 16 = .ok (.ireturn, 1) := by decide +kernel
theorem dX11_sending_0 : decode cX11_sending 0 = .ok (.aload_n 0, 1) := by decide +kernel
theorem dX11_sending_1 : decode cX11_sending 1 = .ok (.iload_n 1, 1) := by decide +kernel
theorem dX11_sending_2 : decode cX11_sending 2 = .ok (.invokevirtual 161, 3) := by decide +kernel
theorem dX11_sending_5 : decode cX11_sending 5 = .ok (.iload_n 2, 1) := by decide +kernel
theorem dX11_sending_6 : decode cX11_sending 6 = .ok (.iconst 1, 1) := by decide +kernel
theorem dX11_sending_7 : decode cX11_sending 7 = .ok (.sipush 999, 3) := by decide +kernel
theorem dX11_sending_10 : decode cX11_sending 10 = .ok (.invokestatic 232, 3) := by decide +kernel
theorem dX11_sending_13 : decode cX11_sending 13 = .ok (.aload_n 0, 1) := by decide +kernel
theorem dX11_sending_14 : decode cX11_sending 14 = .ok (.getfield 23, 3) := by decide +kernel
theorem dX11_sending_17 : decode cX11_sending 17 = .ok (.aload_n 0, 1) := by decide +kernel
theorem dX11_sending_18 : decode cX11_sending 18 = .ok (.getfield 30, 3) := by decide +kernel
theorem dX11_sending_21 : decode cX11_sending 21 = .ok (.iload_n 1, 1) := by decide +kernel
theorem dX11_sending_22 : decode cX11_sending 22 = .ok (.iload_n 2, 1) := by decide +kernel
theorem dX11_sending_23 : decode cX11_sending 23 = .ok (.invokestatic 286, 3) := by decide +kernel
theorem dX11_sending_26 : decode cX11_sending 26 = .ok (.ireturn, 1) := by decide +kernel
theorem dX11_thief_0 : decode cX11_thief 0 = .ok (.aload_n 0, 1) := by decide +kernel
theorem dX11_thief_1 : decode cX11_thief 1 = .ok (.iload_n 1, 1) := by decide +kernel
theorem dX11_thief_2 : decode cX11_thief 2 = .ok (.invokevirtual 161, 3) := by decide +kernel
theorem dX11_thief_5 : decode cX11_thief 5 = .ok (.iload_n 2, 1) := by decide +kernel
theorem dX11_thief_6 : decode cX11_thief 6 = .ok (.iconst 0, 1) := by decide +kernel
theorem dX11_thief_7 : decode cX11_thief 7 = .ok (.sipush 999, 3) := by decide +kernel
theorem dX11_thief_10 : decode cX11_thief 10 = .ok (.invokestatic 232, 3) := by decide +kernel
theorem dX11_thief_13 : decode cX11_thief 13 = .ok (.aload_n 0, 1) := by decide +kernel
theorem dX11_thief_14 : decode cX11_thief 14 = .ok (.getfield 23, 3) := by decide +kernel
theorem dX11_thief_17 : decode cX11_thief 17 = .ok (.aload_n 0, 1) := by decide +kernel
theorem dX11_thief_18 : decode cX11_thief 18 = .ok (.getfield 30, 3) := by decide +kernel
theorem dX11_thief_21 : decode cX11_thief 21 = .ok (.iload_n 1, 1) := by decide +kernel
theorem dX11_thief_22 : decode cX11_thief 22 = .ok (.iload_n 2, 1) := by decide +kernel
theorem dX11_thief_23 : decode cX11_thief 23 = .ok (.invokestatic 292, 3) := by decide +kernel
theorem dX11_thief_26 : decode cX11_thief 26 = .ok (.ireturn, 1) := by decide +kernel
theorem dX11_level_0 : decode cX11_level 0 = .ok (.aload_n 0, 1) := by decide +kernel
theorem dX11_level_1 : decode cX11_level 1 = .ok (.iload_n 1, 1) := by decide +kernel
theorem dX11_level_2 : decode cX11_level 2 = .ok (.invokevirtual 161, 3) := by decide +kernel
theorem dX11_level_5 : decode cX11_level 5 = .ok (.aload_n 0, 1) := by decide +kernel
theorem dX11_level_6 : decode cX11_level 6 = .ok (.getfield 23, 3) := by decide +kernel
theorem dX11_level_9 : decode cX11_level 9 = .ok (.aload_n 0, 1) := by decide +kernel
theorem dX11_level_10 : decode cX11_level 10 = .ok (.getfield 30, 3) := by decide +kernel
theorem dX11_level_13 : decode cX11_level 13 = .ok (.iload_n 1, 1) := by decide +kernel
theorem dX11_level_14 : decode cX11_level 14 = .ok (.invokestatic 295, 3) := by decide +kernel
theorem dX11_level_17 : decode cX11_level 17 = .ok (.ireturn, 1) := by decide +kernel
theorem dX11_hold_0 : decode cX11_hold 0 = .ok (.aload_n 0, 1) := by decide +kernel
theorem dX11_hold_1 : decode cX11_hold 1 = .ok (.iload_n 1, 1) := by decide +kernel
theorem dX11_hold_2 : decode cX11_hold 2 = .ok (.invokevirtual 161, 3) := by decide +kernel
theorem dX11_hold_5 : decode cX11_hold 5 = .ok (.aload_n 0, 1) := by decide +kernel
theorem dX11_hold_6 : decode cX11_hold 6 = .ok (.getfield 30, 3) := by decide +kernel
theorem dX11_hold_9 : decode cX11_hold 9 = .ok (.aload_n 0, 1) := by decide +kernel
theorem dX11_hold_10 : decode cX11_hold 10 = .ok (.getfield 23, 3) := by decide +kernel
theorem dX11_hold_13 : decode cX11_hold 13 = .ok (.getfield 132, 3) := by decide +kernel
theorem dX11_hold_16 : decode cX11_hold 16 = .ok (.iload_n 1, 1) := by decide +kernel
theorem dX11_hold_17 : decode cX11_hold 17 = .ok (.invokevirtual 180, 3) := by decide +kernel
theorem dX11_hold_20 : decode cX11_hold 20 = .ok (.istore_n 3, 1) := by decide +kernel
theorem dX11_hold_21 : decode cX11_hold 21 = .ok (.iload_n 2, 1) := by decide +kernel
theorem dX11_hold_22 : decode cX11_hold 22 = .ok (.iconst (-1), 1) := by decide +kernel
theorem dX11_hold_23 : decode cX11_hold 23 = .ok (.if_icmp .ne 12, 3) := by decide +kernel
theorem dX11_hold_26 : decode cX11_hold 26 = .ok (.aload_n 0, 1) := by decide +kernel
theorem dX11_hold_27 : decode cX11_hold 27 = .ok (.getfield 30, 3) := by decide +kernel
theorem dX11_hold_30 : decode cX11_hold 30 = .ok (.iload_n 3, 1) := by decide +kernel
theorem dX11_hold_31 : decode cX11_hold 31 = .ok (.invokestatic 298, 3) := by decide +kernel
theorem dX11_hold_34 : decode cX11_hold 34 = .ok (.ireturn, 1) := by decide +kernel
theorem dX11_hold_35 : decode cX11_hold 35 = .ok (.iload_n 2, 1) := by decide +kernel
theorem dX11_hold_36 : decode cX11_hold 36 = .ok (.ifCond .lt 11, 3) := by decide +kernel
theorem dX11_hold_39 : decode cX11_hold 39 = .ok (.iload_n 2, 1) := by decide +kernel
theorem dX11_hold_40 : decode cX11_hold 40 = .ok (.iload_n 3, 1) := by decide +kernel
theorem dX11_hold_41 : decode cX11_hold 41 = .ok (.invokestatic 302, 3) := by decide +kernel
theorem dX11_hold_44 : decode cX11_hold 44 = .ok (.if_icmp .lt 14, 3) := by decide +kernel
theorem dX11_hold_47 : decode cX11_hold 47 = .ok (.new 156, 3) := by decide +kernel
theorem dX11_hold_50 : decode cX11_hold 50 = .ok (.dup, 1) := by decide +kernel
theorem dX11_hold_51 : decode cX11_hold 51 = .ok (.ldc_w 307, 3) := by decide +kernel
theorem dX11_hold_54 : decode cX11_hold 54 = .ok (.invokespecial 160, 3) := by decide +kernel
theorem dX11_hold_57 : decode cX11_hold 57 = .ok (.athrow, 1) := by decide +kernel
theorem dX11_hold_58 : decode cX11_hold 58 = .ok (.aload_n 0, 1) := by decide +kernel
theorem dX11_hold_59 : decode cX11_hold 59 = .ok (.getfield 30, 3) := by decide +kernel
theorem dX11_hold_62 : decode cX11_hold 62 = .ok (.iload_n 3, 1) := by decide +kernel
theorem dX11_hold_63 : decode cX11_hold 63 = .ok (.iload_n 2, 1) := by decide +kernel
theorem dX11_hold_64 : decode cX11_hold 64 = .ok (.invokestatic 309, 3) := by decide +kernel
theorem dX11_hold_67 : decode cX11_hold 67 = .ok (.ireturn, 1) := by decide +kernel
theorem dX11_thrower_0 : decode cX11_thrower 0 = .ok (.iload_n 1, 1) := by decide +kernel
theorem dX11_thrower_1 : decode cX11_thrower 1 = .ok (.iconst 0, 1) := by decide +kernel
theorem dX11_thrower_2 : decode cX11_thrower 2 = .ok (.bipush 20, 2) := by decide +kernel
theorem dX11_thrower_4 : decode cX11_thrower 4 = .ok (.invokestatic 232, 3) := by decide +kernel
theorem dX11_thrower_7 : decode cX11_thrower 7 = .ok (.iload_n 2, 1) := by decide +kernel
theorem dX11_thrower_8 : decode cX11_thrower 8 = .ok (.iconst 0, 1) := by decide +kernel
theorem dX11_thrower_9 : decode cX11_thrower 9 = .ok (.bipush 12, 2) := by decide +kernel
theorem dX11_thrower_11 : decode cX11_thrower 11 = .ok (.invokestatic 232, 3) := by decide +kernel
theorem dX11_thrower_14 : decode cX11_thrower 14 = .ok (.iload_n 3, 1) := by decide +kernel
theorem dX11_thrower_15 : decode cX11_thrower 15 = .ok (.iconst 1, 1) := by decide +kernel
theorem dX11_thrower_16 : decode cX11_thrower 16 = .ok (.bipush 20, 2) := by decide +kernel
theorem dX11_thrower_18 : decode cX11_thrower 18 = .ok (.invokestatic 232, 3) := by decide +kernel
theorem dX11_thrower_21 : decode cX11_thrower 21 = .ok (.iload 4, 2) := by decide +kernel
theorem dX11_thrower_23 : decode cX11_thrower 23 = .ok (.iconst 0, 1) := by decide +kernel
theorem dX11_thrower_24 : decode cX11_thrower 24 = .ok (.bipush 7, 2) := by decide +kernel
theorem dX11_thrower_26 : decode cX11_thrower 26 = .ok (.invokestatic 232, 3) := by decide +kernel
theorem dX11_thrower_29 : decode cX11_thrower 29 = .ok (.iload_n 1, 1) := by decide +kernel
theorem dX11_thrower_30 : decode cX11_thrower 30 = .ok (.iload_n 2, 1) := by decide +kernel
theorem dX11_thrower_31 : decode cX11_thrower 31 = .ok (.iload_n 3, 1) := by decide +kernel
theorem dX11_thrower_32 : decode cX11_thrower 32 = .ok (.iload 4, 2) := by decide +kernel
theorem dX11_thrower_34 : decode cX11_thrower 34 = .ok (.invokestatic 313, 3) := by decide +kernel
theorem dX11_thrower_37 : decode cX11_thrower 37 = .ok (.ireturn, 1) := by decide +kernel
theorem dX11_stop_0 : decode cX11_stop 0 = .ok (.iload 4, 2) := by decide +kernel
theorem dX11_stop_2 : decode cX11_stop 2 = .ok (.iconst 1, 1) := by decide +kernel
theorem dX11_stop_3 : decode cX11_stop 3 = .ok (.invokestatic 245, 3) := by decide +kernel
theorem dX11_stop_6 : decode cX11_stop 6 = .ok (.iload_n 1, 1) := by decide +kernel
theorem dX11_stop_7 : decode cX11_stop 7 = .ok (.iconst 0, 1) := by decide +kernel
theorem dX11_stop_8 : decode cX11_stop 8 = .ok (.bipush 20, 2) := by decide +kernel
theorem dX11_stop_10 : decode cX11_stop 10 = .ok (.invokestatic 232, 3) := by decide +kernel
theorem dX11_stop_13 : decode cX11_stop 13 = .ok (.iload_n 2, 1) := by decide +kernel
theorem dX11_stop_14 : decode cX11_stop 14 = .ok (.iconst 0, 1) := by decide +kernel
theorem dX11_stop_15 : decode cX11_stop 15 = .ok (.bipush 12, 2) := by decide +kernel
theorem dX11_stop_17 : decode cX11_stop 17 = .ok (.invokestatic 232, 3) := by decide +kernel
theorem dX11_stop_20 : decode cX11_stop 20 = .ok (.iload_n 3, 1) := by decide +kernel
theorem dX11_stop_21 : decode cX11_stop 21 = .ok (.iconst 1, 1) := by decide +kernel
theorem dX11_stop_22 : decode cX11_stop 22 = .ok (.bipush 7, 2) := by decide +kernel
theorem dX11_stop_24 : decode cX11_stop 24 = .ok (.invokestatic 232, 3) := by decide +kernel
theorem dX11_stop_27 : decode cX11_stop 27 = .ok (.iload_n 1, 1) := by decide +kernel
theorem dX11_stop_28 : decode cX11_stop 28 = .ok (.iload_n 3, 1) := by decide +kernel
theorem dX11_stop_29 : decode cX11_stop 29 = .ok (.invokestatic 319, 3) := by decide +kernel
theorem dX11_stop_32 : decode cX11_stop 32 = .ok (.imul, 1) := by decide +kernel
theorem dX11_stop_33 : decode cX11_stop 33 = .ok (.istore 5, 2) := by decide +kernel
theorem dX11_stop_35 : decode cX11_stop 35 = .ok (.iload_n 1, 1) := by decide +kernel
theorem dX11_stop_36 : decode cX11_stop 36 = .ok (.iload_n 2, 1) := by decide +kernel
theorem dX11_stop_37 : decode cX11_stop 37 = .ok (.iload_n 3, 1) := by decide +kernel
theorem dX11_stop_38 : decode cX11_stop 38 = .ok (.invokestatic 322, 3) := by decide +kernel
theorem dX11_stop_41 : decode cX11_stop 41 = .ok (.istore 6, 2) := by decide +kernel
theorem dX11_stop_43 : decode cX11_stop 43 = .ok (.iload 4, 2) := by decide +kernel
theorem dX11_stop_45 : decode cX11_stop 45 = .ok (.ifCond .ne 6, 3) := by decide +kernel
theorem dX11_stop_48 : decode cX11_stop 48 = .ok (.iload 6, 2) := by decide +kernel
theorem dX11_stop_50 : decode cX11_stop 50 = .ok (.ireturn, 1) := by decide +kernel
theorem dX11_stop_51 : decode cX11_stop 51 = .ok (.iload 6, 2) := by decide +kernel
theorem dX11_stop_53 : decode cX11_stop 53 = .ok (.iload 5, 2) := by decide +kernel
theorem dX11_stop_55 : decode cX11_stop 55 = .ok (.if_icmp .le 7, 3) := by decide +kernel
theorem dX11_stop_58 : decode cX11_stop 58 = .ok (.iconst 1, 1) := by decide +kernel
theorem dX11_stop_59 : decode cX11_stop 59 = .ok (.goto 4, 3) := by decide +kernel
theorem dX11_stop_62 : decode cX11_stop 62 = .ok (.iconst 0, 1) := by decide +kernel
theorem dX11_stop_63 : decode cX11_stop 63 = .ok (.ireturn, 1) := by decide +kernel
theorem dX11_see_0 : decode cX11_see 0 = .ok (.aload_n 0, 1) := by decide +kernel
theorem dX11_see_1 : decode cX11_see 1 = .ok (.iload_n 1, 1) := by decide +kernel
theorem dX11_see_2 : decode cX11_see 2 = .ok (.invokevirtual 161, 3) := by decide +kernel
theorem dX11_see_5 : decode cX11_see 5 = .ok (.aload_n 0, 1) := by decide +kernel
theorem dX11_see_6 : decode cX11_see 6 = .ok (.getfield 47, 3) := by decide +kernel
theorem dX11_see_9 : decode cX11_see 9 = .ok (.getfield 155, 3) := by decide +kernel
theorem dX11_see_12 : decode cX11_see 12 = .ok (.bipush 8, 2) := by decide +kernel
theorem dX11_see_14 : decode cX11_see 14 = .ok (.if_icmp .ge 24, 3) := by decide +kernel
theorem dX11_see_17 : decode cX11_see 17 = .ok (.iload_n 2, 1) := by decide +kernel
theorem dX11_see_18 : decode cX11_see 18 = .ok (.ifCond .lt 20, 3) := by decide +kernel
theorem dX11_see_21 : decode cX11_see 21 = .ok (.iload_n 2, 1) := by decide +kernel
theorem dX11_see_22 : decode cX11_see 22 = .ok (.bipush 30, 2) := by decide +kernel
theorem dX11_see_24 : decode cX11_see 24 = .ok (.if_icmp .gt 14, 3) := by decide +kernel
theorem dX11_see_27 : decode cX11_see 27 = .ok (.iload_n 3, 1) := by decide +kernel
theorem dX11_see_28 : decode cX11_see 28 = .ok (.ifCond .lt 10, 3) := by decide +kernel
theorem dX11_see_31 : decode cX11_see 31 = .ok (.iload_n 3, 1) := by decide +kernel
theorem dX11_see_32 : decode cX11_see 32 = .ok (.sipush 9999, 3) := by decide +kernel
theorem dX11_see_35 : decode cX11_see 35 = .ok (.if_icmp .le 15, 3) := by decide +kernel
theorem dX11_see_38 : decode cX11_see 38 = .ok (.aload_n 0, 1) := by decide +kernel
theorem dX11_see_39 : decode cX11_see 39 = .ok (.getfield 78, 3) := by decide +kernel
theorem dX11_see_42 : decode cX11_see 42 = .ok (.iconst 2, 1) := by decide +kernel
theorem dX11_see_43 : decode cX11_see 43 = .ok (.dup2, 1) := by decide +kernel
theorem dX11_see_44 : decode cX11_see 44 = .ok (.iaload, 1) := by decide +kernel
theorem dX11_see_45 : decode cX11_see 45 = .ok (.iconst 1, 1) := by decide +kernel
theorem dX11_see_46 : decode cX11_see 46 = .ok (.iadd, 1) := by decide +kernel
theorem dX11_see_47 : decode cX11_see 47 = .ok (.iastore, 1) := by decide +kernel
theorem dX11_see_48 : decode cX11_see 48 = .ok (.iconst (-1), 1) := by decide +kernel
theorem dX11_see_49 : decode cX11_see 49 = .ok (.ireturn, 1) := by decide +kernel
theorem dX11_see_50 : decode cX11_see 50 = .ok (.aload_n 0, 1) := by decide +kernel
theorem dX11_see_51 : decode cX11_see 51 = .ok (.getfield 47, 3) := by decide +kernel
theorem dX11_see_54 : decode cX11_see 54 = .ok (.iload_n 1, 1) := by decide +kernel
theorem dX11_see_55 : decode cX11_see 55 = .ok (.iload_n 2, 1) := by decide +kernel
theorem dX11_see_56 : decode cX11_see 56 = .ok (.iload_n 3, 1) := by decide +kernel
theorem dX11_see_57 : decode cX11_see 57 = .ok (.invokevirtual 325, 3) := by decide +kernel
theorem dX11_see_60 : decode cX11_see 60 = .ok (.aload_n 0, 1) := by decide +kernel
theorem dX11_see_61 : decode cX11_see 61 = .ok (.getfield 47, 3) := by decide +kernel
theorem dX11_see_64 : decode cX11_see 64 = .ok (.getfield 155, 3) := by decide +kernel
theorem dX11_see_67 : decode cX11_see 67 = .ok (.ireturn, 1) := by decide +kernel
theorem dX11_forget_0 : decode cX11_forget 0 = .ok (.aload_n 0, 1) := by decide +kernel
theorem dX11_forget_1 : decode cX11_forget 1 = .ok (.getfield 47, 3) := by decide +kernel
theorem dX11_forget_4 : decode cX11_forget 4 = .ok (.invokevirtual 128, 3) := by decide +kernel
theorem dX11_forget_7 : decode cX11_forget 7 = .ok (.return_, 1) := by decide +kernel
theorem dX11_opened_0 : decode cX11_opened 0 = .ok (.iload_n 1, 1) := by decide +kernel
theorem dX11_opened_1 : decode cX11_opened 1 = .ok (.iconst 2, 1) := by decide +kernel
theorem dX11_opened_2 : decode cX11_opened 2 = .ok (.invokestatic 245, 3) := by decide +kernel
theorem dX11_opened_5 : decode cX11_opened 5 = .ok (.aload_n 0, 1) := by decide +kernel
theorem dX11_opened_6 : decode cX11_opened 6 = .ok (.getfield 47, 3) := by decide +kernel
theorem dX11_opened_9 : decode cX11_opened 9 = .ok (.invokevirtual 328, 3) := by decide +kernel
theorem dX11_opened_12 : decode cX11_opened 12 = .ok (.istore_n 2, 1) := by decide +kernel
theorem dX11_opened_13 : decode cX11_opened 13 = .ok (.aload_n 0, 1) := by decide +kernel
theorem dX11_opened_14 : decode cX11_opened 14 = .ok (.getfield 67, 3) := by decide +kernel
theorem dX11_opened_17 : decode cX11_opened 17 = .ok (.aload_n 0, 1) := by decide +kernel
theorem dX11_opened_18 : decode cX11_opened 18 = .ok (.getfield 23, 3) := by decide +kernel
theorem dX11_opened_21 : decode cX11_opened 21 = .ok (.aload_n 0, 1) := by decide +kernel
theorem dX11_opened_22 : decode cX11_opened 22 = .ok (.getfield 30, 3) := by decide +kernel
theorem dX11_opened_25 : decode cX11_opened 25 = .ok (.iload_n 2, 1) := by decide +kernel
theorem dX11_opened_26 : decode cX11_opened 26 = .ok (.invokevirtual 331, 3) := by decide +kernel
theorem dX11_opened_29 : decode cX11_opened 29 = .ok (.iload_n 1, 1) := by decide +kernel
theorem dX11_opened_30 : decode cX11_opened 30 = .ok (.iconst 2, 1) := by decide +kernel
theorem dX11_opened_31 : decode cX11_opened 31 = .ok (.if_icmp .ne 23, 3) := by decide +kernel
theorem dX11_opened_34 : decode cX11_opened 34 = .ok (.aload_n 0, 1) := by decide +kernel
theorem dX11_opened_35 : decode cX11_opened 35 = .ok (.getfield 67, 3) := by decide +kernel
theorem dX11_opened_38 : decode cX11_opened 38 = .ok (.aload_n 0, 1) := by decide +kernel
theorem dX11_opened_39 : decode cX11_opened 39 = .ok (.getfield 47, 3) := by decide +kernel
theorem dX11_opened_42 : decode cX11_opened 42 = .ok (.invokevirtual 335, 3) := by decide +kernel
theorem dX11_opened_45 : decode cX11_opened 45 = .ok (.ifCond .eq 7, 3) := by decide +kernel
theorem dX11_opened_48 : decode cX11_opened 48 = .ok (.iconst 1, 1) := by decide +kernel
theorem dX11_opened_49 : decode cX11_opened 49 = .ok (.goto 4, 3) := by decide +kernel
theorem dX11_opened_52 : decode cX11_opened 52 = .ok (.iconst 0, 1) := by decide +kernel
theorem dX11_opened_53 : decode cX11_opened 53 = .ok (.ireturn, 1) := by decide +kernel
theorem dX11_opened_54 : decode cX11_opened 54 = .ok (.aload_n 0, 1) := by decide +kernel
theorem dX11_opened_55 : decode cX11_opened 55 = .ok (.getfield 67, 3) := by decide +kernel
theorem dX11_opened_58 : decode cX11_opened 58 = .ok (.aload_n 0, 1) := by decide +kernel
theorem dX11_opened_59 : decode cX11_opened 59 = .ok (.getfield 23, 3) := by decide +kernel
theorem dX11_opened_62 : decode cX11_opened 62 = .ok (.aload_n 0, 1) := by decide +kernel
theorem dX11_opened_63 : decode cX11_opened 63 = .ok (.getfield 30, 3) := by decide +kernel
theorem dX11_opened_66 : decode cX11_opened 66 = .ok (.aload_n 0, 1) := by decide +kernel
theorem dX11_opened_67 : decode cX11_opened 67 = .ok (.getfield 47, 3) := by decide +kernel
theorem dX11_opened_70 : decode cX11_opened 70 = .ok (.iload_n 2, 1) := by decide +kernel
theorem dX11_opened_71 : decode cX11_opened 71 = .ok (.invokevirtual 339, 3) := by decide +kernel
theorem dX11_opened_74 : decode cX11_opened 74 = .ok (.iload_n 1, 1) := by decide +kernel
theorem dX11_opened_75 : decode cX11_opened 75 = .ok (.ifCond .ne 13, 3) := by decide +kernel
theorem dX11_opened_78 : decode cX11_opened 78 = .ok (.aload_n 0, 1) := by decide +kernel
theorem dX11_opened_79 : decode cX11_opened 79 = .ok (.getfield 67, 3) := by decide +kernel
theorem dX11_opened_82 : decode cX11_opened 82 = .ok (.invokevirtual 343, 3) := by decide +kernel
theorem dX11_opened_85 : decode cX11_opened 85 = .ok (.goto 10, 3) := by decide +kernel
theorem dX11_opened_88 : decode cX11_opened 88 = .ok (.aload_n 0, 1) := by decide +kernel
theorem dX11_opened_89 : decode cX11_opened 89 = .ok (.getfield 67, 3) := by decide +kernel
theorem dX11_opened_92 : decode cX11_opened 92 = .ok (.invokevirtual 345, 3) := by decide +kernel
theorem dX11_opened_95 : decode cX11_opened 95 = .ok (.ireturn, 1) := by decide +kernel
theorem dX11_next_0 : decode cX11_next 0 = .ok (.iload_n 1, 1) := by decide +kernel
theorem dX11_next_1 : decode cX11_next 1 = .ok (.iconst 1, 1) := by decide +kernel
theorem dX11_next_2 : decode cX11_next 2 = .ok (.invokestatic 245, 3) := by decide +kernel
theorem dX11_next_5 : decode cX11_next 5 = .ok (.aload_n 0, 1) := by decide +kernel
theorem dX11_next_6 : decode cX11_next 6 = .ok (.getfield 67, 3) := by decide +kernel
theorem dX11_next_9 : decode cX11_next 9 = .ok (.aload_n 0, 1) := by decide +kernel
theorem dX11_next_10 : decode cX11_next 10 = .ok (.getfield 23, 3) := by decide +kernel
theorem dX11_next_13 : decode cX11_next 13 = .ok (.aload_n 0, 1) := by decide +kernel
theorem dX11_next_14 : decode cX11_next 14 = .ok (.getfield 30, 3) := by decide +kernel
theorem dX11_next_17 : decode cX11_next 17 = .ok (.bipush 30, 2) := by decide +kernel
theorem dX11_next_19 : decode cX11_next 19 = .ok (.invokevirtual 331, 3) := by decide +kernel
theorem dX11_next_22 : decode cX11_next 22 = .ok (.aload_n 0, 1) := by decide +kernel
theorem dX11_next_23 : decode cX11_next 23 = .ok (.getfield 67, 3) := by decide +kernel
theorem dX11_next_26 : decode cX11_next 26 = .ok (.aload_n 0, 1) := by decide +kernel
theorem dX11_next_27 : decode cX11_next 27 = .ok (.getfield 23, 3) := by decide +kernel
theorem dX11_next_30 : decode cX11_next 30 = .ok (.aload_n 0, 1) := by decide +kernel
theorem dX11_next_31 : decode cX11_next 31 = .ok (.getfield 30, 3) := by decide +kernel
theorem dX11_next_34 : decode cX11_next 34 = .ok (.aload_n 0, 1) := by decide +kernel
theorem dX11_next_35 : decode cX11_next 35 = .ok (.getfield 47, 3) := by decide +kernel
theorem dX11_next_38 : decode cX11_next 38 = .ok (.bipush 30, 2) := by decide +kernel
theorem dX11_next_40 : decode cX11_next 40 = .ok (.invokevirtual 339, 3) := by decide +kernel
theorem dX11_next_43 : decode cX11_next 43 = .ok (.iconst (-1), 1) := by decide +kernel
theorem dX11_next_44 : decode cX11_next 44 = .ok (.istore_n 2, 1) := by decide +kernel
theorem dX11_next_45 : decode cX11_next 45 = .ok (.iconst 0, 1) := by decide +kernel
theorem dX11_next_46 : decode cX11_next 46 = .ok (.istore_n 3, 1) := by decide +kernel
theorem dX11_next_47 : decode cX11_next 47 = .ok (.iconst 0, 1) := by decide +kernel
theorem dX11_next_48 : decode cX11_next 48 = .ok (.istore 4, 2) := by decide +kernel
theorem dX11_next_50 : decode cX11_next 50 = .ok (.iload 4, 2) := by decide +kernel
theorem dX11_next_52 : decode cX11_next 52 = .ok (.bipush 30, 2) := by decide +kernel
theorem dX11_next_54 : decode cX11_next 54 = .ok (.if_icmp .gt 32, 3) := by decide +kernel
theorem dX11_next_57 : decode cX11_next 57 = .ok (.aload_n 0, 1) := by decide +kernel
theorem dX11_next_58 : decode cX11_next 58 = .ok (.getfield 67, 3) := by decide +kernel
theorem dX11_next_61 : decode cX11_next 61 = .ok (.iload 4, 2) := by decide +kernel
theorem dX11_next_63 : decode cX11_next 63 = .ok (.invokevirtual 348, 3) := by decide +kernel
theorem dX11_next_66 : decode cX11_next 66 = .ok (.istore 5, 2) := by decide +kernel
theorem dX11_next_68 : decode cX11_next 68 = .ok (.iload 5, 2) := by decide +kernel
theorem dX11_next_70 : decode cX11_next 70 = .ok (.iload_n 3, 1) := by decide +kernel
theorem dX11_next_71 : decode cX11_next 71 = .ok (.if_icmp .le 9, 3) := by decide +kernel
theorem dX11_next_74 : decode cX11_next 74 = .ok (.iload 4, 2) := by decide +kernel
theorem dX11_next_76 : decode cX11_next 76 = .ok (.istore_n 2, 1) := by decide +kernel
theorem dX11_next_77 : decode cX11_next 77 = .ok (.iload 5, 2) := by decide +kernel
theorem dX11_next_79 : decode cX11_next 79 = .ok (.istore_n 3, 1) := by decide +kernel
theorem dX11_next_80 : decode cX11_next 80 = .ok (.iinc 4 1, 3) := by decide +kernel
theorem dX11_next_83 : decode cX11_next 83 = .ok (.goto (-33), 3) := by decide +kernel
theorem dX11_next_86 : decode cX11_next 86 = .ok (.iload_n 1, 1) := by decide +kernel
theorem dX11_next_87 : decode cX11_next 87 = .ok (.ifCond .ne 7, 3) := by decide +kernel
theorem dX11_next_90 : decode cX11_next 90 = .ok (.iload_n 2, 1) := by decide +kernel
theorem dX11_next_91 : decode cX11_next 91 = .ok (.goto 4, 3) := by decide +kernel
theorem dX11_next_94 : decode cX11_next 94 = .ok (.iload_n 3, 1) := by decide +kernel
theorem dX11_next_95 : decode cX11_next 95 = .ok (.ireturn, 1) := by decide +kernel
theorem dX11_game_0 : decode cX11_game 0 = .ok (.aload_n 0, 1) := by decide +kernel
theorem dX11_game_1 : decode cX11_game 1 = .ok (.iload_n 1, 1) := by decide +kernel
theorem dX11_game_2 : decode cX11_game 2 = .ok (.invokevirtual 161, 3) := by decide +kernel
theorem dX11_game_5 : decode cX11_game 5 = .ok (.aload_n 0, 1) := by decide +kernel
theorem dX11_game_6 : decode cX11_game 6 = .ok (.iload_n 2, 1) := by decide +kernel
theorem dX11_game_7 : decode cX11_game 7 = .ok (.invokevirtual 161, 3) := by decide +kernel
theorem dX11_game_10 : decode cX11_game 10 = .ok (.iload_n 3, 1) := by decide +kernel
theorem dX11_game_11 : decode cX11_game 11 = .ok (.iconst 1, 1) := by decide +kernel
theorem dX11_game_12 : decode cX11_game 12 = .ok (.invokestatic 245, 3) := by decide +kernel
theorem dX11_game_15 : decode cX11_game 15 = .ok (.iload_n 1, 1) := by decide +kernel
theorem dX11_game_16 : decode cX11_game 16 = .ok (.iload_n 2, 1) := by decide +kernel
theorem dX11_game_17 : decode cX11_game 17 = .ok (.if_icmp .ne 14, 3) := by decide +kernel
theorem dX11_game_20 : decode cX11_game 20 = .ok (.new 89, 3) := by decide +kernel
theorem dX11_game_23 : decode cX11_game 23 = .ok (.dup, 1) := by decide +kernel
theorem dX11_game_24 : decode cX11_game 24 = .ok (.ldc_w 351, 3) := by decide +kernel
theorem dX11_game_27 : decode cX11_game 27 = .ok (.invokespecial 93, 3) := by decide +kernel
theorem dX11_game_30 : decode cX11_game 30 = .ok (.athrow, 1) := by decide +kernel
theorem dX11_game_31 : decode cX11_game 31 = .ok (.iconst 0, 1) := by decide +kernel
theorem dX11_game_32 : decode cX11_game 32 = .ok (.istore 4, 2) := by decide +kernel
theorem dX11_game_34 : decode cX11_game 34 = .ok (.iconst (-1), 1) := by decide +kernel
theorem dX11_game_35 : decode cX11_game 35 = .ok (.istore 5, 2) := by decide +kernel
theorem dX11_game_37 : decode cX11_game 37 = .ok (.iconst 0, 1) := by decide +kernel
theorem dX11_game_38 : decode cX11_game 38 = .ok (.istore 6, 2) := by decide +kernel
theorem dX11_game_40 : decode cX11_game 40 = .ok (.iload 6, 2) := by decide +kernel
theorem dX11_game_42 : decode cX11_game 42 = .ok (.iconst 1, 1) := by decide +kernel
theorem dX11_game_43 : decode cX11_game 43 = .ok (.if_icmp .gt 74, 3) := by decide +kernel
theorem dX11_game_46 : decode cX11_game 46 = .ok (.iconst 0, 1) := by decide +kernel
theorem dX11_game_47 : decode cX11_game 47 = .ok (.istore 7, 2) := by decide +kernel
theorem dX11_game_49 : decode cX11_game 49 = .ok (.iload 7, 2) := by decide +kernel
theorem dX11_game_51 : decode cX11_game 51 = .ok (.iconst 1, 1) := by decide +kernel
theorem dX11_game_52 : decode cX11_game 52 = .ok (.if_icmp .gt 59, 3) := by decide +kernel
theorem dX11_game_55 : decode cX11_game 55 = .ok (.aload_n 0, 1) := by decide +kernel
theorem dX11_game_56 : decode cX11_game 56 = .ok (.iload_n 1, 1) := by decide +kernel
theorem dX11_game_57 : decode cX11_game 57 = .ok (.iload_n 2, 1) := by decide +kernel
theorem dX11_game_58 : decode cX11_game 58 = .ok (.iload 6, 2) := by decide +kernel
theorem dX11_game_60 : decode cX11_game 60 = .ok (.iload 7, 2) := by decide +kernel
theorem dX11_game_62 : decode cX11_game 62 = .ok (.invokevirtual 353, 3) := by decide +kernel
theorem dX11_game_65 : decode cX11_game 65 = .ok (.ifCond .eq 40, 3) := by decide +kernel
theorem dX11_game_68 : decode cX11_game 68 = .ok (.aload_n 0, 1) := by decide +kernel
theorem dX11_game_69 : decode cX11_game 69 = .ok (.iload_n 2, 1) := by decide +kernel
theorem dX11_game_70 : decode cX11_game 70 = .ok (.iload_n 1, 1) := by decide +kernel
theorem dX11_game_71 : decode cX11_game 71 = .ok (.iload 7, 2) := by decide +kernel
theorem dX11_game_73 : decode cX11_game 73 = .ok (.iload 6, 2) := by decide +kernel
theorem dX11_game_75 : decode cX11_game 75 = .ok (.invokevirtual 353, 3) := by decide +kernel
theorem dX11_game_78 : decode cX11_game 78 = .ok (.ifCond .eq 27, 3) := by decide +kernel
theorem dX11_game_81 : decode cX11_game 81 = .ok (.iinc 4 1, 3) := by decide +kernel
theorem dX11_game_84 : decode cX11_game 84 = .ok (.iload 5, 2) := by decide +kernel
theorem dX11_game_86 : decode cX11_game 86 = .ok (.iconst (-1), 1) := by decide +kernel
theorem dX11_game_87 : decode cX11_game 87 = .ok (.if_icmp .ne 14, 3) := by decide +kernel
theorem dX11_game_90 : decode cX11_game 90 = .ok (.bipush 10, 2) := by decide +kernel
theorem dX11_game_92 : decode cX11_game 92 = .ok (.iload 6, 2) := by decide +kernel
theorem dX11_game_94 : decode cX11_game 94 = .ok (.imul, 1) := by decide +kernel
theorem dX11_game_95 : decode cX11_game 95 = .ok (.iload 7, 2) := by decide +kernel
theorem dX11_game_97 : decode cX11_game 97 = .ok (.iadd, 1) := by decide +kernel
theorem dX11_game_98 : decode cX11_game 98 = .ok (.goto 5, 3) := by decide +kernel
theorem dX11_game_101 : decode cX11_game 101 = .ok (.iload 5, 2) := by decide +kernel
theorem dX11_game_103 : decode cX11_game 103 = .ok (.istore 5, 2) := by decide +kernel
theorem dX11_game_105 : decode cX11_game 105 = .ok (.iinc 7 1, 3) := by decide +kernel
theorem dX11_game_108 : decode cX11_game 108 = .ok (.goto (-59), 3) := by decide +kernel
theorem dX11_game_111 : decode cX11_game 111 = .ok (.iinc 6 1, 3) := by decide +kernel
theorem dX11_game_114 : decode cX11_game 114 = .ok (.goto (-74), 3) := by decide +kernel
theorem dX11_game_117 : decode cX11_game 117 = .ok (.iload_n 3, 1) := by decide +kernel
theorem dX11_game_118 : decode cX11_game 118 = .ok (.ifCond .ne 8, 3) := by decide +kernel
theorem dX11_game_121 : decode cX11_game 121 = .ok (.iload 4, 2) := by decide +kernel
theorem dX11_game_123 : decode cX11_game 123 = .ok (.goto 5, 3) := by decide +kernel
theorem dX11_game_126 : decode cX11_game 126 = .ok (.iload 5, 2) := by decide +kernel
theorem dX11_game_128 : decode cX11_game 128 = .ok (.ireturn, 1) := by decide +kernel
theorem dX11_years_0 : decode cX11_years 0 = .ok (.iload_n 3, 1) := by decide +kernel
theorem dX11_years_1 : decode cX11_years 1 = .ok (.iconst 2, 1) := by decide +kernel
theorem dX11_years_2 : decode cX11_years 2 = .ok (.invokestatic 245, 3) := by decide +kernel
theorem dX11_years_5 : decode cX11_years 5 = .ok (.iload_n 2, 1) := by decide +kernel
theorem dX11_years_6 : decode cX11_years 6 = .ok (.iconst 0, 1) := by decide +kernel
theorem dX11_years_7 : decode cX11_years 7 = .ok (.bipush 60, 2) := by decide +kernel
theorem dX11_years_9 : decode cX11_years 9 = .ok (.invokestatic 232, 3) := by decide +kernel
theorem dX11_years_12 : decode cX11_years 12 = .ok (.aload_n 0, 1) := by decide +kernel
theorem dX11_years_13 : decode cX11_years 13 = .ok (.getfield 74, 3) := by decide +kernel
theorem dX11_years_16 : decode cX11_years 16 = .ok (.iload_n 1, 1) := by decide +kernel
theorem dX11_years_17 : decode cX11_years 17 = .ok (.putfield 357, 3) := by decide +kernel
theorem dX11_years_20 : decode cX11_years 20 = .ok (.aload_n 0, 1) := by decide +kernel
theorem dX11_years_21 : decode cX11_years 21 = .ok (.getfield 34, 3) := by decide +kernel
theorem dX11_years_24 : decode cX11_years 24 = .ok (.aload_n 0, 1) := by decide +kernel
theorem dX11_years_25 : decode cX11_years 25 = .ok (.getfield 30, 3) := by decide +kernel
theorem dX11_years_28 : decode cX11_years 28 = .ok (.invokevirtual 121, 3) := by decide +kernel
theorem dX11_years_31 : decode cX11_years 31 = .ok (.iconst 0, 1) := by decide +kernel
theorem dX11_years_32 : decode cX11_years 32 = .ok (.istore 4, 2) := by decide +kernel
theorem dX11_years_34 : decode cX11_years 34 = .ok (.iload 4, 2) := by decide +kernel
theorem dX11_years_36 : decode cX11_years 36 = .ok (.iload_n 2, 1) := by decide +kernel
theorem dX11_years_37 : decode cX11_years 37 = .ok (.if_icmp .ge 67, 3) := by decide +kernel
theorem dX11_years_40 : decode cX11_years 40 = .ok (.aload_n 0, 1) := by decide +kernel
theorem dX11_years_41 : decode cX11_years 41 = .ok (.getfield 74, 3) := by decide +kernel
theorem dX11_years_44 : decode cX11_years 44 = .ok (.bipush 9, 2) := by decide +kernel
theorem dX11_years_46 : decode cX11_years 46 = .ok (.invokevirtual 360, 3) := by decide +kernel
theorem dX11_years_49 : decode cX11_years 49 = .ok (.ifCond .ne 34, 3) := by decide +kernel
theorem dX11_years_52 : decode cX11_years 52 = .ok (.aload_n 0, 1) := by decide +kernel
theorem dX11_years_53 : decode cX11_years 53 = .ok (.getfield 23, 3) := by decide +kernel
theorem dX11_years_56 : decode cX11_years 56 = .ok (.getfield 132, 3) := by decide +kernel
theorem dX11_years_59 : decode cX11_years 59 = .ok (.ifCond .le 24, 3) := by decide +kernel
theorem dX11_years_62 : decode cX11_years 62 = .ok (.aload_n 0, 1) := by decide +kernel
theorem dX11_years_63 : decode cX11_years 63 = .ok (.getfield 34, 3) := by decide +kernel
theorem dX11_years_66 : decode cX11_years 66 = .ok (.aload_n 0, 1) := by decide +kernel
theorem dX11_years_67 : decode cX11_years 67 = .ok (.getfield 74, 3) := by decide +kernel
theorem dX11_years_70 : decode cX11_years 70 = .ok (.aload_n 0, 1) := by decide +kernel
theorem dX11_years_71 : decode cX11_years 71 = .ok (.getfield 23, 3) := by decide +kernel
theorem dX11_years_74 : decode cX11_years 74 = .ok (.getfield 132, 3) := by decide +kernel
theorem dX11_years_77 : decode cX11_years 77 = .ok (.invokevirtual 360, 3) := by decide +kernel
theorem dX11_years_80 : decode cX11_years 80 = .ok (.invokevirtual 363, 3) := by decide +kernel
theorem dX11_years_83 : decode cX11_years 83 = .ok (.aload_n 0, 1) := by decide +kernel
theorem dX11_years_84 : decode cX11_years 84 = .ok (.getfield 34, 3) := by decide +kernel
theorem dX11_years_87 : decode cX11_years 87 = .ok (.aload_n 0, 1) := by decide +kernel
theorem dX11_years_88 : decode cX11_years 88 = .ok (.getfield 23, 3) := by decide +kernel
theorem dX11_years_91 : decode cX11_years 91 = .ok (.aload_n 0, 1) := by decide +kernel
theorem dX11_years_92 : decode cX11_years 92 = .ok (.getfield 74, 3) := by decide +kernel
theorem dX11_years_95 : decode cX11_years 95 = .ok (.invokevirtual 366, 3) := by decide +kernel
theorem dX11_years_98 : decode cX11_years 98 = .ok (.iinc 4 1, 3) := by decide +kernel
theorem dX11_years_101 : decode cX11_years 101 = .ok (.goto (-67), 3) := by decide +kernel
theorem dX11_years_104 : decode cX11_years 104 = .ok (.iload_n 3, 1) := by decide +kernel
theorem dX11_years_105 : decode cX11_years 105 = .ok (.lookupswitch 60 #[(0, 27), (1, 44)], 27) := by decide +kernel
theorem dX11_years_132 : decode cX11_years 132 = .ok (.aload_n 0, 1) := by decide +kernel
theorem dX11_years_133 : decode cX11_years 133 = .ok (.getfield 34, 3) := by decide +kernel
theorem dX11_years_136 : decode cX11_years 136 = .ok (.bipush 17, 2) := by decide +kernel
theorem dX11_years_138 : decode cX11_years 138 = .ok (.aload_n 0, 1) := by decide +kernel
theorem dX11_years_139 : decode cX11_years 139 = .ok (.getfield 23, 3) := by decide +kernel
theorem dX11_years_142 : decode cX11_years 142 = .ok (.getfield 110, 3) := by decide +kernel
theorem dX11_years_145 : decode cX11_years 145 = .ok (.invokevirtual 138, 3) := by decide +kernel
theorem dX11_years_148 : decode cX11_years 148 = .ok (.ireturn, 1) := by decide +kernel
theorem dX11_years_149 : decode cX11_years 149 = .ok (.aload_n 0, 1) := by decide +kernel
theorem dX11_years_150 : decode cX11_years 150 = .ok (.getfield 34, 3) := by decide +kernel
theorem dX11_years_153 : decode cX11_years 153 = .ok (.iconst 1, 1) := by decide +kernel
theorem dX11_years_154 : decode cX11_years 154 = .ok (.aload_n 0, 1) := by decide +kernel
theorem dX11_years_155 : decode cX11_years 155 = .ok (.getfield 23, 3) := by decide +kernel
theorem dX11_years_158 : decode cX11_years 158 = .ok (.getfield 110, 3) := by decide +kernel
theorem dX11_years_161 : decode cX11_years 161 = .ok (.invokevirtual 138, 3) := by decide +kernel
theorem dX11_years_164 : decode cX11_years 164 = .ok (.ireturn, 1) := by decide +kernel
theorem dX11_years_165 : decode cX11_years 165 = .ok (.aload_n 0, 1) := by decide +kernel
theorem dX11_years_166 : decode cX11_years 166 = .ok (.getfield 34, 3) := by decide +kernel
theorem dX11_years_169 : decode cX11_years 169 = .ok (.aload_n 0, 1) := by decide +kernel
theorem dX11_years_170 : decode cX11_years 170 = .ok (.getfield 23, 3) := by decide +kernel
theorem dX11_years_173 : decode cX11_years 173 = .ok (.getfield 132, 3) := by decide +kernel
theorem dX11_years_176 : decode cX11_years 176 = .ok (.invokevirtual 149, 3) := by decide +kernel
theorem dX11_years_179 : decode cX11_years 179 = .ok (.invokestatic 302, 3) := by decide +kernel
theorem dX11_years_182 : decode cX11_years 182 = .ok (.ireturn, 1) := by decide +kernel
theorem dX11_image_0 : decode cX11_image 0 = .ok (.aload_n 0, 1) := by decide +kernel
theorem dX11_image_1 : decode cX11_image 1 = .ok (.getfield 55, 3) := by decide +kernel
theorem dX11_image_4 : decode cX11_image 4 = .ok (.aload_n 0, 1) := by decide +kernel
theorem dX11_image_5 : decode cX11_image 5 = .ok (.getfield 30, 3) := by decide +kernel
theorem dX11_image_8 : decode cX11_image 8 = .ok (.invokevirtual 121, 3) := by decide +kernel
theorem dX11_image_11 : decode cX11_image 11 = .ok (.aload_n 0, 1) := by decide +kernel
theorem dX11_image_12 : decode cX11_image 12 = .ok (.getfield 58, 3) := by decide +kernel
theorem dX11_image_15 : decode cX11_image 15 = .ok (.aload_n 0, 1) := by decide +kernel
theorem dX11_image_16 : decode cX11_image 16 = .ok (.getfield 40, 3) := by decide +kernel
theorem dX11_image_19 : decode cX11_image 19 = .ok (.invokevirtual 370, 3) := by decide +kernel
theorem dX11_image_22 : decode cX11_image 22 = .ok (.aload_n 0, 1) := by decide +kernel
theorem dX11_image_23 : decode cX11_image 23 = .ok (.getfield 61, 3) := by decide +kernel
theorem dX11_image_26 : decode cX11_image 26 = .ok (.aload_n 0, 1) := by decide +kernel
theorem dX11_image_27 : decode cX11_image 27 = .ok (.getfield 47, 3) := by decide +kernel
theorem dX11_image_30 : decode cX11_image 30 = .ok (.invokevirtual 373, 3) := by decide +kernel
theorem dX11_image_33 : decode cX11_image 33 = .ok (.aload_n 0, 1) := by decide +kernel
theorem dX11_image_34 : decode cX11_image 34 = .ok (.iconst 1, 1) := by decide +kernel
theorem dX11_image_35 : decode cX11_image 35 = .ok (.putfield 51, 3) := by decide +kernel
theorem dX11_image_38 : decode cX11_image 38 = .ok (.return_, 1) := by decide +kernel
theorem dX11_restore_0 : decode cX11_restore 0 = .ok (.aload_n 0, 1) := by decide +kernel
theorem dX11_restore_1 : decode cX11_restore 1 = .ok (.getfield 51, 3) := by decide +kernel
theorem dX11_restore_4 : decode cX11_restore 4 = .ok (.ifCond .ne 5, 3) := by decide +kernel
theorem dX11_restore_7 : decode cX11_restore 7 = .ok (.iconst 0, 1) := by decide +kernel
theorem dX11_restore_8 : decode cX11_restore 8 = .ok (.ireturn, 1) := by decide +kernel
theorem dX11_restore_9 : decode cX11_restore 9 = .ok (.aload_n 0, 1) := by decide +kernel
theorem dX11_restore_10 : decode cX11_restore 10 = .ok (.getfield 30, 3) := by decide +kernel
theorem dX11_restore_13 : decode cX11_restore 13 = .ok (.aload_n 0, 1) := by decide +kernel
theorem dX11_restore_14 : decode cX11_restore 14 = .ok (.getfield 55, 3) := by decide +kernel
theorem dX11_restore_17 : decode cX11_restore 17 = .ok (.invokevirtual 121, 3) := by decide +kernel
theorem dX11_restore_20 : decode cX11_restore 20 = .ok (.aload_n 0, 1) := by decide +kernel
theorem dX11_restore_21 : decode cX11_restore 21 = .ok (.getfield 40, 3) := by decide +kernel
theorem dX11_restore_24 : decode cX11_restore 24 = .ok (.aload_n 0, 1) := by decide +kernel
theorem dX11_restore_25 : decode cX11_restore 25 = .ok (.getfield 58, 3) := by decide +kernel
theorem dX11_restore_28 : decode cX11_restore 28 = .ok (.invokevirtual 370, 3) := by decide +kernel
theorem dX11_restore_31 : decode cX11_restore 31 = .ok (.aload_n 0, 1) := by decide +kernel
theorem dX11_restore_32 : decode cX11_restore 32 = .ok (.getfield 47, 3) := by decide +kernel
theorem dX11_restore_35 : decode cX11_restore 35 = .ok (.aload_n 0, 1) := by decide +kernel
theorem dX11_restore_36 : decode cX11_restore 36 = .ok (.getfield 61, 3) := by decide +kernel
theorem dX11_restore_39 : decode cX11_restore 39 = .ok (.invokevirtual 373, 3) := by decide +kernel
theorem dX11_restore_42 : decode cX11_restore 42 = .ok (.iconst 1, 1) := by decide +kernel
theorem dX11_restore_43 : decode cX11_restore 43 = .ok (.ireturn, 1) := by decide +kernel
theorem dX11_feedNumber_0 : decode cX11_feedNumber 0 = .ok (.bipush 24, 2) := by decide +kernel
theorem dX11_feedNumber_2 : decode cX11_feedNumber 2 = .ok (.istore_n 2, 1) := by decide +kernel
theorem dX11_feedNumber_3 : decode cX11_feedNumber 3 = .ok (.iload_n 2, 1) := by decide +kernel
theorem dX11_feedNumber_4 : decode cX11_feedNumber 4 = .ok (.ifCond .lt 45, 3) := by decide +kernel
theorem dX11_feedNumber_7 : decode cX11_feedNumber 7 = .ok (.aload_n 0, 1) := by decide +kernel
theorem dX11_feedNumber_8 : decode cX11_feedNumber 8 = .ok (.getfield 16, 3) := by decide +kernel
theorem dX11_feedNumber_11 : decode cX11_feedNumber 11 = .ok (.sipush 700, 3) := by decide +kernel
theorem dX11_feedNumber_14 : decode cX11_feedNumber 14 = .ok (.if_icmp .ge 29, 3) := by decide +kernel
theorem dX11_feedNumber_17 : decode cX11_feedNumber 17 = .ok (.aload_n 0, 1) := by decide +kernel
theorem dX11_feedNumber_18 : decode cX11_feedNumber 18 = .ok (.getfield 10, 3) := by decide +kernel
theorem dX11_feedNumber_21 : decode cX11_feedNumber 21 = .ok (.getfield 376, 3) := by decide +kernel
theorem dX11_feedNumber_24 : decode cX11_feedNumber 24 = .ok (.aload_n 0, 1) := by decide +kernel
theorem dX11_feedNumber_25 : decode cX11_feedNumber 25 = .ok (.getfield 16, 3) := by decide +kernel
theorem dX11_feedNumber_28 : decode cX11_feedNumber 28 = .ok (.iload_n 1, 1) := by decide +kernel
theorem dX11_feedNumber_29 : decode cX11_feedNumber 29 = .ok (.iload_n 2, 1) := by decide +kernel
theorem dX11_feedNumber_30 : decode cX11_feedNumber 30 = .ok (.ishr, 1) := by decide +kernel
theorem dX11_feedNumber_31 : decode cX11_feedNumber 31 = .ok (.i2b, 1) := by decide +kernel
theorem dX11_feedNumber_32 : decode cX11_feedNumber 32 = .ok (.bastore, 1) := by decide +kernel
theorem dX11_feedNumber_33 : decode cX11_feedNumber 33 = .ok (.aload_n 0, 1) := by decide +kernel
theorem dX11_feedNumber_34 : decode cX11_feedNumber 34 = .ok (.dup, 1) := by decide +kernel
theorem dX11_feedNumber_35 : decode cX11_feedNumber 35 = .ok (.getfield 16, 3) := by decide +kernel
theorem dX11_feedNumber_38 : decode cX11_feedNumber 38 = .ok (.iconst 1, 1) := by decide +kernel
theorem dX11_feedNumber_39 : decode cX11_feedNumber 39 = .ok (.iadd, 1) := by decide +kernel
theorem dX11_feedNumber_40 : decode cX11_feedNumber 40 = .ok (.putfield 16, 3) := by decide +kernel
theorem dX11_feedNumber_43 : decode cX11_feedNumber 43 = .ok (.iinc 2 (-8), 3) := by decide +kernel
theorem dX11_feedNumber_46 : decode cX11_feedNumber 46 = .ok (.goto (-43), 3) := by decide +kernel
theorem dX11_feedNumber_49 : decode cX11_feedNumber 49 = .ok (.return_, 1) := by decide +kernel
theorem dX11_refuseAct_0 : decode cX11_refuseAct 0 = .ok (.aload_n 0, 1) := by decide +kernel
theorem dX11_refuseAct_1 : decode cX11_refuseAct 1 = .ok (.getfield 78, 3) := by decide +kernel
theorem dX11_refuseAct_4 : decode cX11_refuseAct 4 = .ok (.iconst 1, 1) := by decide +kernel
theorem dX11_refuseAct_5 : decode cX11_refuseAct 5 = .ok (.dup2, 1) := by decide +kernel
theorem dX11_refuseAct_6 : decode cX11_refuseAct 6 = .ok (.iaload, 1) := by decide +kernel
theorem dX11_refuseAct_7 : decode cX11_refuseAct 7 = .ok (.iconst 1, 1) := by decide +kernel
theorem dX11_refuseAct_8 : decode cX11_refuseAct 8 = .ok (.iadd, 1) := by decide +kernel
theorem dX11_refuseAct_9 : decode cX11_refuseAct 9 = .ok (.iastore, 1) := by decide +kernel
theorem dX11_refuseAct_10 : decode cX11_refuseAct 10 = .ok (.iconst (-1), 1) := by decide +kernel
theorem dX11_refuseAct_11 : decode cX11_refuseAct 11 = .ok (.ireturn, 1) := by decide +kernel
theorem dX11_needTown_0 : decode cX11_needTown 0 = .ok (.iload_n 1, 1) := by decide +kernel
theorem dX11_needTown_1 : decode cX11_needTown 1 = .ok (.ifCond .lt 14, 3) := by decide +kernel
theorem dX11_needTown_4 : decode cX11_needTown 4 = .ok (.iload_n 1, 1) := by decide +kernel
theorem dX11_needTown_5 : decode cX11_needTown 5 = .ok (.aload_n 0, 1) := by decide +kernel
theorem dX11_needTown_6 : decode cX11_needTown 6 = .ok (.getfield 23, 3) := by decide +kernel
theorem dX11_needTown_9 : decode cX11_needTown 9 = .ok (.getfield 110, 3) := by decide +kernel
theorem dX11_needTown_12 : decode cX11_needTown 12 = .ok (.if_icmp .lt 14, 3) := by decide +kernel
theorem dX11_needTown_15 : decode cX11_needTown 15 = .ok (.new 156, 3) := by decide +kernel
theorem dX11_needTown_18 : decode cX11_needTown 18 = .ok (.dup, 1) := by decide +kernel
theorem dX11_needTown_19 : decode cX11_needTown 19 = .ok (.ldc_w 380, 3) := by decide +kernel
theorem dX11_needTown_22 : decode cX11_needTown 22 = .ok (.invokespecial 160, 3) := by decide +kernel
theorem dX11_needTown_25 : decode cX11_needTown 25 = .ok (.athrow, 1) := by decide +kernel
theorem dX11_needTown_26 : decode cX11_needTown 26 = .ok (.return_, 1) := by decide +kernel
theorem dX11_needWay_0 : decode cX11_needWay 0 = .ok (.iload_n 1, 1) := by decide +kernel
theorem dX11_needWay_1 : decode cX11_needWay 1 = .ok (.ifCond .lt 17, 3) := by decide +kernel
theorem dX11_needWay_4 : decode cX11_needWay 4 = .ok (.iload_n 1, 1) := by decide +kernel
theorem dX11_needWay_5 : decode cX11_needWay 5 = .ok (.aload_n 0, 1) := by decide +kernel
theorem dX11_needWay_6 : decode cX11_needWay 6 = .ok (.getfield 23, 3) := by decide +kernel
theorem dX11_needWay_9 : decode cX11_needWay 9 = .ok (.getfield 106, 3) := by decide +kernel
theorem dX11_needWay_12 : decode cX11_needWay 12 = .ok (.getfield 129, 3) := by decide +kernel
theorem dX11_needWay_15 : decode cX11_needWay 15 = .ok (.if_icmp .lt 14, 3) := by decide +kernel
theorem dX11_needWay_18 : decode cX11_needWay 18 = .ok (.new 156, 3) := by decide +kernel
theorem dX11_needWay_21 : decode cX11_needWay 21 = .ok (.dup, 1) := by decide +kernel
theorem dX11_needWay_22 : decode cX11_needWay 22 = .ok (.ldc_w 382, 3) := by decide +kernel
theorem dX11_needWay_25 : decode cX11_needWay 25 = .ok (.invokespecial 160, 3) := by decide +kernel
theorem dX11_needWay_28 : decode cX11_needWay 28 = .ok (.athrow, 1) := by decide +kernel
theorem dX11_needWay_29 : decode cX11_needWay 29 = .ok (.return_, 1) := by decide +kernel
theorem dX11_needCrate_0 : decode cX11_needCrate 0 = .ok (.iload_n 1, 1) := by decide +kernel
theorem dX11_needCrate_1 : decode cX11_needCrate 1 = .ok (.ifCond .lt 14, 3) := by decide +kernel
theorem dX11_needCrate_4 : decode cX11_needCrate 4 = .ok (.iload_n 1, 1) := by decide +kernel
theorem dX11_needCrate_5 : decode cX11_needCrate 5 = .ok (.aload_n 0, 1) := by decide +kernel
theorem dX11_needCrate_6 : decode cX11_needCrate 6 = .ok (.getfield 23, 3) := by decide +kernel
theorem dX11_needCrate_9 : decode cX11_needCrate 9 = .ok (.getfield 132, 3) := by decide +kernel
theorem dX11_needCrate_12 : decode cX11_needCrate 12 = .ok (.if_icmp .lt 14, 3) := by decide +kernel
theorem dX11_needCrate_15 : decode cX11_needCrate 15 = .ok (.new 156, 3) := by decide +kernel
theorem dX11_needCrate_18 : decode cX11_needCrate 18 = .ok (.dup, 1) := by decide +kernel
theorem dX11_needCrate_19 : decode cX11_needCrate 19 = .ok (.ldc_w 384, 3) := by decide +kernel
theorem dX11_needCrate_22 : decode cX11_needCrate 22 = .ok (.invokespecial 160, 3) := by decide +kernel
theorem dX11_needCrate_25 : decode cX11_needCrate 25 = .ok (.athrow, 1) := by decide +kernel
theorem dX11_needCrate_26 : decode cX11_needCrate 26 = .ok (.return_, 1) := by decide +kernel
theorem dX11_needWhat_0 : decode cX11_needWhat 0 = .ok (.iload_n 0, 1) := by decide +kernel
theorem dX11_needWhat_1 : decode cX11_needWhat 1 = .ok (.ifCond .lt 8, 3) := by decide +kernel
theorem dX11_needWhat_4 : decode cX11_needWhat 4 = .ok (.iload_n 0, 1) := by decide +kernel
theorem dX11_needWhat_5 : decode cX11_needWhat 5 = .ok (.iload_n 1, 1) := by decide +kernel
theorem dX11_needWhat_6 : decode cX11_needWhat 6 = .ok (.if_icmp .le 14, 3) := by decide +kernel
theorem dX11_needWhat_9 : decode cX11_needWhat 9 = .ok (.new 156, 3) := by decide +kernel
theorem dX11_needWhat_12 : decode cX11_needWhat 12 = .ok (.dup, 1) := by decide +kernel
theorem dX11_needWhat_13 : decode cX11_needWhat 13 = .ok (.ldc_w 386, 3) := by decide +kernel
theorem dX11_needWhat_16 : decode cX11_needWhat 16 = .ok (.invokespecial 160, 3) := by decide +kernel
theorem dX11_needWhat_19 : decode cX11_needWhat 19 = .ok (.athrow, 1) := by decide +kernel
theorem dX11_needWhat_20 : decode cX11_needWhat 20 = .ok (.return_, 1) := by decide +kernel
theorem dX11_needWithin_0 : decode cX11_needWithin 0 = .ok (.iload_n 0, 1) := by decide +kernel
theorem dX11_needWithin_1 : decode cX11_needWithin 1 = .ok (.iload_n 1, 1) := by decide +kernel
theorem dX11_needWithin_2 : decode cX11_needWithin 2 = .ok (.if_icmp .lt 8, 3) := by decide +kernel
theorem dX11_needWithin_5 : decode cX11_needWithin 5 = .ok (.iload_n 0, 1) := by decide +kernel
theorem dX11_needWithin_6 : decode cX11_needWithin 6 = .ok (.iload_n 2, 1) := by decide +kernel
theorem dX11_needWithin_7 : decode cX11_needWithin 7 = .ok (.if_icmp .le 14, 3) := by decide +kernel
theorem dX11_needWithin_10 : decode cX11_needWithin 10 = .ok (.new 89, 3) := by decide +kernel
theorem dX11_needWithin_13 : decode cX11_needWithin 13 = .ok (.dup, 1) := by decide +kernel
theorem dX11_needWithin_14 : decode cX11_needWithin 14 = .ok (.ldc_w 388, 3) := by decide +kernel
theorem dX11_needWithin_17 : decode cX11_needWithin 17 = .ok (.invokespecial 93, 3) := by decide +kernel
theorem dX11_needWithin_20 : decode cX11_needWithin 20 = .ok (.athrow, 1) := by decide +kernel
theorem dX11_needWithin_21 : decode cX11_needWithin 21 = .ok (.return_, 1) := by decide +kernel
theorem dX11_wonWithout_0 : decode cX11_wonWithout 0 = .ok (.aload_n 0, 1) := by decide +kernel
theorem dX11_wonWithout_1 : decode cX11_wonWithout 1 = .ok (.getfield 34, 3) := by decide +kernel
theorem dX11_wonWithout_4 : decode cX11_wonWithout 4 = .ok (.aload_n 0, 1) := by decide +kernel
theorem dX11_wonWithout_5 : decode cX11_wonWithout 5 = .ok (.getfield 30, 3) := by decide +kernel
theorem dX11_wonWithout_8 : decode cX11_wonWithout 8 = .ok (.invokevirtual 121, 3) := by decide +kernel
theorem dX11_wonWithout_11 : decode cX11_wonWithout 11 = .ok (.aload_n 0, 1) := by decide +kernel
theorem dX11_wonWithout_12 : decode cX11_wonWithout 12 = .ok (.getfield 34, 3) := by decide +kernel
theorem dX11_wonWithout_15 : decode cX11_wonWithout 15 = .ok (.iload_n 1, 1) := by decide +kernel
theorem dX11_wonWithout_16 : decode cX11_wonWithout 16 = .ok (.invokevirtual 390, 3) := by decide +kernel
theorem dX11_wonWithout_19 : decode cX11_wonWithout 19 = .ok (.iconst 0, 1) := by decide +kernel
theorem dX11_wonWithout_20 : decode cX11_wonWithout 20 = .ok (.istore_n 2, 1) := by decide +kernel
theorem dX11_wonWithout_21 : decode cX11_wonWithout 21 = .ok (.iload_n 2, 1) := by decide +kernel
theorem dX11_wonWithout_22 : decode cX11_wonWithout 22 = .ok (.aload_n 0, 1) := by decide +kernel
theorem dX11_wonWithout_23 : decode cX11_wonWithout 23 = .ok (.getfield 23, 3) := by decide +kernel
theorem dX11_wonWithout_26 : decode cX11_wonWithout 26 = .ok (.getfield 132, 3) := by decide +kernel
theorem dX11_wonWithout_29 : decode cX11_wonWithout 29 = .ok (.if_icmp .ge 29, 3) := by decide +kernel
theorem dX11_wonWithout_32 : decode cX11_wonWithout 32 = .ok (.aload_n 0, 1) := by decide +kernel
theorem dX11_wonWithout_33 : decode cX11_wonWithout 33 = .ok (.getfield 34, 3) := by decide +kernel
theorem dX11_wonWithout_36 : decode cX11_wonWithout 36 = .ok (.iload_n 2, 1) := by decide +kernel
theorem dX11_wonWithout_37 : decode cX11_wonWithout 37 = .ok (.invokevirtual 204, 3) := by decide +kernel
theorem dX11_wonWithout_40 : decode cX11_wonWithout 40 = .ok (.ifCond .eq 12, 3) := by decide +kernel
theorem dX11_wonWithout_43 : decode cX11_wonWithout 43 = .ok (.aload_n 0, 1) := by decide +kernel
theorem dX11_wonWithout_44 : decode cX11_wonWithout 44 = .ok (.getfield 34, 3) := by decide +kernel
theorem dX11_wonWithout_47 : decode cX11_wonWithout 47 = .ok (.iload_n 2, 1) := by decide +kernel
theorem dX11_wonWithout_48 : decode cX11_wonWithout 48 = .ok (.invokevirtual 217, 3) := by decide +kernel
theorem dX11_wonWithout_51 : decode cX11_wonWithout 51 = .ok (.pop, 1) := by decide +kernel
theorem dX11_wonWithout_52 : decode cX11_wonWithout 52 = .ok (.iinc 2 1, 3) := by decide +kernel
theorem dX11_wonWithout_55 : decode cX11_wonWithout 55 = .ok (.goto (-34), 3) := by decide +kernel
theorem dX11_wonWithout_58 : decode cX11_wonWithout 58 = .ok (.aload_n 0, 1) := by decide +kernel
theorem dX11_wonWithout_59 : decode cX11_wonWithout 59 = .ok (.getfield 34, 3) := by decide +kernel
theorem dX11_wonWithout_62 : decode cX11_wonWithout 62 = .ok (.aload_n 0, 1) := by decide +kernel
theorem dX11_wonWithout_63 : decode cX11_wonWithout 63 = .ok (.getfield 23, 3) := by decide +kernel
theorem dX11_wonWithout_66 : decode cX11_wonWithout 66 = .ok (.bipush 30, 2) := by decide +kernel
theorem dX11_wonWithout_68 : decode cX11_wonWithout 68 = .ok (.invokevirtual 252, 3) := by decide +kernel
theorem dX11_wonWithout_71 : decode cX11_wonWithout 71 = .ok (.ireturn, 1) := by decide +kernel
theorem dX11_rests_0 : decode cX11_rests 0 = .ok (.aload_n 0, 1) := by decide +kernel
theorem dX11_rests_1 : decode cX11_rests 1 = .ok (.iload_n 1, 1) := by decide +kernel
theorem dX11_rests_2 : decode cX11_rests 2 = .ok (.iload_n 2, 1) := by decide +kernel
theorem dX11_rests_3 : decode cX11_rests 3 = .ok (.iload_n 3, 1) := by decide +kernel
theorem dX11_rests_4 : decode cX11_rests 4 = .ok (.iload 4, 2) := by decide +kernel
theorem dX11_rests_6 : decode cX11_rests 6 = .ok (.invokevirtual 393, 3) := by decide +kernel
theorem dX11_rests_9 : decode cX11_rests 9 = .ok (.istore 5, 2) := by decide +kernel
theorem dX11_rests_11 : decode cX11_rests 11 = .ok (.iload 5, 2) := by decide +kernel
theorem dX11_rests_13 : decode cX11_rests 13 = .ok (.aload_n 0, 1) := by decide +kernel
theorem dX11_rests_14 : decode cX11_rests 14 = .ok (.iload_n 1, 1) := by decide +kernel
theorem dX11_rests_15 : decode cX11_rests 15 = .ok (.iload_n 2, 1) := by decide +kernel
theorem dX11_rests_16 : decode cX11_rests 16 = .ok (.iconst 1, 1) := by decide +kernel
theorem dX11_rests_17 : decode cX11_rests 17 = .ok (.iload_n 3, 1) := by decide +kernel
theorem dX11_rests_18 : decode cX11_rests 18 = .ok (.isub, 1) := by decide +kernel
theorem dX11_rests_19 : decode cX11_rests 19 = .ok (.iload 4, 2) := by decide +kernel
theorem dX11_rests_21 : decode cX11_rests 21 = .ok (.invokevirtual 393, 3) := by decide +kernel
theorem dX11_rests_24 : decode cX11_rests 24 = .ok (.if_icmp .lt 7, 3) := by decide +kernel
theorem dX11_rests_27 : decode cX11_rests 27 = .ok (.iconst 1, 1) := by decide +kernel
theorem dX11_rests_28 : decode cX11_rests 28 = .ok (.goto 4, 3) := by decide +kernel
theorem dX11_rests_31 : decode cX11_rests 31 = .ok (.iconst 0, 1) := by decide +kernel
theorem dX11_rests_32 : decode cX11_rests 32 = .ok (.ireturn, 1) := by decide +kernel
theorem dX11_wonInGame_0 : decode cX11_wonInGame 0 = .ok (.aload_n 0, 1) := by decide +kernel
theorem dX11_wonInGame_1 : decode cX11_wonInGame 1 = .ok (.getfield 30, 3) := by decide +kernel
theorem dX11_wonInGame_4 : decode cX11_wonInGame 4 = .ok (.getfield 135, 3) := by decide +kernel
theorem dX11_wonInGame_7 : decode cX11_wonInGame 7 = .ok (.iconst 1, 1) := by decide +kernel
theorem dX11_wonInGame_8 : decode cX11_wonInGame 8 = .ok (.iload_n 1, 1) := by decide +kernel
theorem dX11_wonInGame_9 : decode cX11_wonInGame 9 = .ok (.iadd, 1) := by decide +kernel
theorem dX11_wonInGame_10 : decode cX11_wonInGame 10 = .ok (.iaload, 1) := by decide +kernel
theorem dX11_wonInGame_11 : decode cX11_wonInGame 11 = .ok (.iload_n 3, 1) := by decide +kernel
theorem dX11_wonInGame_12 : decode cX11_wonInGame 12 = .ok (.aload_n 0, 1) := by decide +kernel
theorem dX11_wonInGame_13 : decode cX11_wonInGame 13 = .ok (.getfield 30, 3) := by decide +kernel
theorem dX11_wonInGame_16 : decode cX11_wonInGame 16 = .ok (.getfield 135, 3) := by decide +kernel
theorem dX11_wonInGame_19 : decode cX11_wonInGame 19 = .ok (.iconst 1, 1) := by decide +kernel
theorem dX11_wonInGame_20 : decode cX11_wonInGame 20 = .ok (.iload_n 1, 1) := by decide +kernel
theorem dX11_wonInGame_21 : decode cX11_wonInGame 21 = .ok (.iadd, 1) := by decide +kernel
theorem dX11_wonInGame_22 : decode cX11_wonInGame 22 = .ok (.iaload, 1) := by decide +kernel
theorem dX11_wonInGame_23 : decode cX11_wonInGame 23 = .ok (.bipush 10, 2) := by decide +kernel
theorem dX11_wonInGame_25 : decode cX11_wonInGame 25 = .ok (.idiv, 1) := by decide +kernel
theorem dX11_wonInGame_26 : decode cX11_wonInGame 26 = .ok (.imul, 1) := by decide +kernel
theorem dX11_wonInGame_27 : decode cX11_wonInGame 27 = .ok (.isub, 1) := by decide +kernel
theorem dX11_wonInGame_28 : decode cX11_wonInGame 28 = .ok (.istore 5, 2) := by decide +kernel
theorem dX11_wonInGame_30 : decode cX11_wonInGame 30 = .ok (.iload 4, 2) := by decide +kernel
theorem dX11_wonInGame_32 : decode cX11_wonInGame 32 = .ok (.aload_n 0, 1) := by decide +kernel
theorem dX11_wonInGame_33 : decode cX11_wonInGame 33 = .ok (.getfield 30, 3) := by decide +kernel
theorem dX11_wonInGame_36 : decode cX11_wonInGame 36 = .ok (.getfield 135, 3) := by decide +kernel
theorem dX11_wonInGame_39 : decode cX11_wonInGame 39 = .ok (.iconst 1, 1) := by decide +kernel
theorem dX11_wonInGame_40 : decode cX11_wonInGame 40 = .ok (.iload_n 2, 1) := by decide +kernel
theorem dX11_wonInGame_41 : decode cX11_wonInGame 41 = .ok (.iadd, 1) := by decide +kernel
theorem dX11_wonInGame_42 : decode cX11_wonInGame 42 = .ok (.iaload, 1) := by decide +kernel
theorem dX11_wonInGame_43 : decode cX11_wonInGame 43 = .ok (.bipush 10, 2) := by decide +kernel
theorem dX11_wonInGame_45 : decode cX11_wonInGame 45 = .ok (.idiv, 1) := by decide +kernel
theorem dX11_wonInGame_46 : decode cX11_wonInGame 46 = .ok (.imul, 1) := by decide +kernel
theorem dX11_wonInGame_47 : decode cX11_wonInGame 47 = .ok (.istore 6, 2) := by decide +kernel
theorem dX11_wonInGame_49 : decode cX11_wonInGame 49 = .ok (.aload_n 0, 1) := by decide +kernel
theorem dX11_wonInGame_50 : decode cX11_wonInGame 50 = .ok (.getfield 34, 3) := by decide +kernel
theorem dX11_wonInGame_53 : decode cX11_wonInGame 53 = .ok (.aload_n 0, 1) := by decide +kernel
theorem dX11_wonInGame_54 : decode cX11_wonInGame 54 = .ok (.getfield 30, 3) := by decide +kernel
theorem dX11_wonInGame_57 : decode cX11_wonInGame 57 = .ok (.invokevirtual 121, 3) := by decide +kernel
theorem dX11_wonInGame_60 : decode cX11_wonInGame 60 = .ok (.aload_n 0, 1) := by decide +kernel
theorem dX11_wonInGame_61 : decode cX11_wonInGame 61 = .ok (.getfield 34, 3) := by decide +kernel
theorem dX11_wonInGame_64 : decode cX11_wonInGame 64 = .ok (.getfield 135, 3) := by decide +kernel
theorem dX11_wonInGame_67 : decode cX11_wonInGame 67 = .ok (.iconst 1, 1) := by decide +kernel
theorem dX11_wonInGame_68 : decode cX11_wonInGame 68 = .ok (.iload_n 1, 1) := by decide +kernel
theorem dX11_wonInGame_69 : decode cX11_wonInGame 69 = .ok (.iadd, 1) := by decide +kernel
theorem dX11_wonInGame_70 : decode cX11_wonInGame 70 = .ok (.sipush 9999, 3) := by decide +kernel
theorem dX11_wonInGame_73 : decode cX11_wonInGame 73 = .ok (.iload 5, 2) := by decide +kernel
theorem dX11_wonInGame_75 : decode cX11_wonInGame 75 = .ok (.iload 6, 2) := by decide +kernel
theorem dX11_wonInGame_77 : decode cX11_wonInGame 77 = .ok (.iadd, 1) := by decide +kernel
theorem dX11_wonInGame_78 : decode cX11_wonInGame 78 = .ok (.invokestatic 396, 3) := by decide +kernel
theorem dX11_wonInGame_81 : decode cX11_wonInGame 81 = .ok (.iastore, 1) := by decide +kernel
theorem dX11_wonInGame_82 : decode cX11_wonInGame 82 = .ok (.iconst 0, 1) := by decide +kernel
theorem dX11_wonInGame_83 : decode cX11_wonInGame 83 = .ok (.istore 7, 2) := by decide +kernel
theorem dX11_wonInGame_85 : decode cX11_wonInGame 85 = .ok (.iload 7, 2) := by decide +kernel
theorem dX11_wonInGame_87 : decode cX11_wonInGame 87 = .ok (.bipush 10, 2) := by decide +kernel
theorem dX11_wonInGame_89 : decode cX11_wonInGame 89 = .ok (.if_icmp .ge 22, 3) := by decide +kernel
theorem dX11_wonInGame_92 : decode cX11_wonInGame 92 = .ok (.aload_n 0, 1) := by decide +kernel
theorem dX11_wonInGame_93 : decode cX11_wonInGame 93 = .ok (.getfield 34, 3) := by decide +kernel
theorem dX11_wonInGame_96 : decode cX11_wonInGame 96 = .ok (.aload_n 0, 1) := by decide +kernel
theorem dX11_wonInGame_97 : decode cX11_wonInGame 97 = .ok (.getfield 23, 3) := by decide +kernel
theorem dX11_wonInGame_100 : decode cX11_wonInGame 100 = .ok (.iload_n 1, 1) := by decide +kernel
theorem dX11_wonInGame_101 : decode cX11_wonInGame 101 = .ok (.invokevirtual 236, 3) := by decide +kernel
theorem dX11_wonInGame_104 : decode cX11_wonInGame 104 = .ok (.pop, 1) := by decide +kernel
theorem dX11_wonInGame_105 : decode cX11_wonInGame 105 = .ok (.iinc 7 1, 3) := by decide +kernel
theorem dX11_wonInGame_108 : decode cX11_wonInGame 108 = .ok (.goto (-23), 3) := by decide +kernel
theorem dX11_wonInGame_111 : decode cX11_wonInGame 111 = .ok (.aload_n 0, 1) := by decide +kernel
theorem dX11_wonInGame_112 : decode cX11_wonInGame 112 = .ok (.getfield 34, 3) := by decide +kernel
theorem dX11_wonInGame_115 : decode cX11_wonInGame 115 = .ok (.getfield 135, 3) := by decide +kernel
theorem dX11_wonInGame_118 : decode cX11_wonInGame 118 = .ok (.bipush 17, 2) := by decide +kernel
theorem dX11_wonInGame_120 : decode cX11_wonInGame 120 = .ok (.iload_n 1, 1) := by decide +kernel
theorem dX11_wonInGame_121 : decode cX11_wonInGame 121 = .ok (.iadd, 1) := by decide +kernel
theorem dX11_wonInGame_122 : decode cX11_wonInGame 122 = .ok (.iaload, 1) := by decide +kernel
theorem dX11_wonInGame_123 : decode cX11_wonInGame 123 = .ok (.ireturn, 1) := by decide +kernel
