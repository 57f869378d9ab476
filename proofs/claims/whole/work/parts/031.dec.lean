theorem dX0_init_0 : decode cX0_init 0 = .ok (.aload_n 0, 1) := by decide +kernel
theorem dX0_init_1 : decode cX0_init 1 = .ok (.invokespecial 3, 3) := by decide +kernel
theorem dX0_init_4 : decode cX0_init 4 = .ok (.aload_n 0, 1) := by decide +kernel
theorem dX0_init_5 : decode cX0_init 5 = .ok (.sipush 3400, 3) := by decide +kernel
theorem dX0_init_8 : decode cX0_init 8 = .ok (.newarray .int, 2) := by decide +kernel
theorem dX0_init_10 : decode cX0_init 10 = .ok (.putfield 11, 3) := by decide +kernel
theorem dX0_init_13 : decode cX0_init 13 = .ok (.aload_n 0, 1) := by decide +kernel
theorem dX0_init_14 : decode cX0_init 14 = .ok (.iconst 0, 1) := by decide +kernel
theorem dX0_init_15 : decode cX0_init 15 = .ok (.putfield 17, 3) := by decide +kernel
theorem dX0_init_18 : decode cX0_init 18 = .ok (.aload_n 0, 1) := by decide +kernel
theorem dX0_init_19 : decode cX0_init 19 = .ok (.iconst 0, 1) := by decide +kernel
theorem dX0_init_20 : decode cX0_init 20 = .ok (.putfield 21, 3) := by decide +kernel
theorem dX0_init_23 : decode cX0_init 23 = .ok (.return_, 1) := by decide +kernel
theorem dX0_clear_0 : decode cX0_clear 0 = .ok (.aload_n 0, 1) := by decide +kernel
theorem dX0_clear_1 : decode cX0_clear 1 = .ok (.iconst 0, 1) := by decide +kernel
theorem dX0_clear_2 : decode cX0_clear 2 = .ok (.putfield 17, 3) := by decide +kernel
theorem dX0_clear_5 : decode cX0_clear 5 = .ok (.aload_n 0, 1) := by decide +kernel
theorem dX0_clear_6 : decode cX0_clear 6 = .ok (.iconst 0, 1) := by decide +kernel
theorem dX0_clear_7 : decode cX0_clear 7 = .ok (.putfield 21, 3) := by decide +kernel
theorem dX0_clear_10 : decode cX0_clear 10 = .ok (.return_, 1) := by decide +kernel
theorem dX0_keep_0 : decode cX0_keep 0 = .ok (.aload_n 0, 1) := by decide +kernel
theorem dX0_keep_1 : decode cX0_keep 1 = .ok (.getfield 17, 3) := by decide +kernel
theorem dX0_keep_4 : decode cX0_keep 4 = .ok (.aload_n 0, 1) := by decide +kernel
theorem dX0_keep_5 : decode cX0_keep 5 = .ok (.getfield 21, 3) := by decide +kernel
theorem dX0_keep_8 : decode cX0_keep 8 = .ok (.iadd, 1) := by decide +kernel
theorem dX0_keep_9 : decode cX0_keep 9 = .ok (.bipush 40, 2) := by decide +kernel
theorem dX0_keep_11 : decode cX0_keep 11 = .ok (.irem, 1) := by decide +kernel
theorem dX0_keep_12 : decode cX0_keep 12 = .ok (.istore_n 2, 1) := by decide +kernel
theorem dX0_keep_13 : decode cX0_keep 13 = .ok (.aload_n 0, 1) := by decide +kernel
theorem dX0_keep_14 : decode cX0_keep 14 = .ok (.getfield 21, 3) := by decide +kernel
theorem dX0_keep_17 : decode cX0_keep 17 = .ok (.bipush 40, 2) := by decide +kernel
theorem dX0_keep_19 : decode cX0_keep 19 = .ok (.if_icmp .ne 19, 3) := by decide +kernel
theorem dX0_keep_22 : decode cX0_keep 22 = .ok (.aload_n 0, 1) := by decide +kernel
theorem dX0_keep_23 : decode cX0_keep 23 = .ok (.aload_n 0, 1) := by decide +kernel
theorem dX0_keep_24 : decode cX0_keep 24 = .ok (.getfield 17, 3) := by decide +kernel
theorem dX0_keep_27 : decode cX0_keep 27 = .ok (.iconst 1, 1) := by decide +kernel
theorem dX0_keep_28 : decode cX0_keep 28 = .ok (.iadd, 1) := by decide +kernel
theorem dX0_keep_29 : decode cX0_keep 29 = .ok (.bipush 40, 2) := by decide +kernel
theorem dX0_keep_31 : decode cX0_keep 31 = .ok (.irem, 1) := by decide +kernel
theorem dX0_keep_32 : decode cX0_keep 32 = .ok (.putfield 17, 3) := by decide +kernel
theorem dX0_keep_35 : decode cX0_keep 35 = .ok (.goto 13, 3) := by decide +kernel
theorem dX0_keep_38 : decode cX0_keep 38 = .ok (.aload_n 0, 1) := by decide +kernel
theorem dX0_keep_39 : decode cX0_keep 39 = .ok (.dup, 1) := by decide +kernel
theorem dX0_keep_40 : decode cX0_keep 40 = .ok (.getfield 21, 3) := by decide +kernel
theorem dX0_keep_43 : decode cX0_keep 43 = .ok (.iconst 1, 1) := by decide +kernel
theorem dX0_keep_44 : decode cX0_keep 44 = .ok (.iadd, 1) := by decide +kernel
theorem dX0_keep_45 : decode cX0_keep 45 = .ok (.putfield 21, 3) := by decide +kernel
theorem dX0_keep_48 : decode cX0_keep 48 = .ok (.aload_n 1, 1) := by decide +kernel
theorem dX0_keep_49 : decode cX0_keep 49 = .ok (.getfield 24, 3) := by decide +kernel
theorem dX0_keep_52 : decode cX0_keep 52 = .ok (.iconst 0, 1) := by decide +kernel
theorem dX0_keep_53 : decode cX0_keep 53 = .ok (.aload_n 0, 1) := by decide +kernel
theorem dX0_keep_54 : decode cX0_keep 54 = .ok (.getfield 11, 3) := by decide +kernel
theorem dX0_keep_57 : decode cX0_keep 57 = .ok (.iload_n 2, 1) := by decide +kernel
theorem dX0_keep_58 : decode cX0_keep 58 = .ok (.bipush 85, 2) := by decide +kernel
theorem dX0_keep_60 : decode cX0_keep 60 = .ok (.imul, 1) := by decide +kernel
theorem dX0_keep_61 : decode cX0_keep 61 = .ok (.bipush 85, 2) := by decide +kernel
theorem dX0_keep_63 : decode cX0_keep 63 = .ok (.invokestatic 27, 3) := by decide +kernel
theorem dX0_keep_66 : decode cX0_keep 66 = .ok (.return_, 1) := by decide +kernel
theorem dX0_takeBack_0 : decode cX0_takeBack 0 = .ok (.aload_n 0, 1) := by decide +kernel
theorem dX0_takeBack_1 : decode cX0_takeBack 1 = .ok (.getfield 21, 3) := by decide +kernel
theorem dX0_takeBack_4 : decode cX0_takeBack 4 = .ok (.ifCond .le 44, 3) := by decide +kernel
theorem dX0_takeBack_7 : decode cX0_takeBack 7 = .ok (.aload_n 0, 1) := by decide +kernel
theorem dX0_takeBack_8 : decode cX0_takeBack 8 = .ok (.dup, 1) := by decide +kernel
theorem dX0_takeBack_9 : decode cX0_takeBack 9 = .ok (.getfield 21, 3) := by decide +kernel
theorem dX0_takeBack_12 : decode cX0_takeBack 12 = .ok (.iconst 1, 1) := by decide +kernel
theorem dX0_takeBack_13 : decode cX0_takeBack 13 = .ok (.isub, 1) := by decide +kernel
theorem dX0_takeBack_14 : decode cX0_takeBack 14 = .ok (.putfield 21, 3) := by decide +kernel
theorem dX0_takeBack_17 : decode cX0_takeBack 17 = .ok (.aload_n 0, 1) := by decide +kernel
theorem dX0_takeBack_18 : decode cX0_takeBack 18 = .ok (.getfield 17, 3) := by decide +kernel
theorem dX0_takeBack_21 : decode cX0_takeBack 21 = .ok (.aload_n 0, 1) := by decide +kernel
theorem dX0_takeBack_22 : decode cX0_takeBack 22 = .ok (.getfield 21, 3) := by decide +kernel
theorem dX0_takeBack_25 : decode cX0_takeBack 25 = .ok (.iadd, 1) := by decide +kernel
theorem dX0_takeBack_26 : decode cX0_takeBack 26 = .ok (.bipush 40, 2) := by decide +kernel
theorem dX0_takeBack_28 : decode cX0_takeBack 28 = .ok (.irem, 1) := by decide +kernel
theorem dX0_takeBack_29 : decode cX0_takeBack 29 = .ok (.istore_n 2, 1) := by decide +kernel
theorem dX0_takeBack_30 : decode cX0_takeBack 30 = .ok (.aload_n 0, 1) := by decide +kernel
theorem dX0_takeBack_31 : decode cX0_takeBack 31 = .ok (.getfield 11, 3) := by decide +kernel
theorem dX0_takeBack_34 : decode cX0_takeBack 34 = .ok (.iload_n 2, 1) := by decide +kernel
theorem dX0_takeBack_35 : decode cX0_takeBack 35 = .ok (.bipush 85, 2) := by decide +kernel
theorem dX0_takeBack_37 : decode cX0_takeBack 37 = .ok (.imul, 1) := by decide +kernel
theorem dX0_takeBack_38 : decode cX0_takeBack 38 = .ok (.aload_n 1, 1) := by decide +kernel
theorem dX0_takeBack_39 : decode cX0_takeBack 39 = .ok (.getfield 24, 3) := by decide +kernel
theorem dX0_takeBack_42 : decode cX0_takeBack 42 = .ok (.iconst 0, 1) := by decide +kernel
theorem dX0_takeBack_43 : decode cX0_takeBack 43 = .ok (.bipush 85, 2) := by decide +kernel
theorem dX0_takeBack_45 : decode cX0_takeBack 45 = .ok (.invokestatic 27, 3) := by decide +kernel
theorem dX0_takeBack_48 : decode cX0_takeBack 48 = .ok (.return_, 1) := by decide +kernel
theorem dX0_take_0 : decode cX0_take 0 = .ok (.aload_n 0, 1) := by decide +kernel
theorem dX0_take_1 : decode cX0_take 1 = .ok (.aload_n 1, 1) := by decide +kernel
theorem dX0_take_2 : decode cX0_take 2 = .ok (.getfield 17, 3) := by decide +kernel
theorem dX0_take_5 : decode cX0_take 5 = .ok (.putfield 17, 3) := by decide +kernel
theorem dX0_take_8 : decode cX0_take 8 = .ok (.aload_n 0, 1) := by decide +kernel
theorem dX0_take_9 : decode cX0_take 9 = .ok (.aload_n 1, 1) := by decide +kernel
theorem dX0_take_10 : decode cX0_take 10 = .ok (.getfield 21, 3) := by decide +kernel
theorem dX0_take_13 : decode cX0_take 13 = .ok (.putfield 21, 3) := by decide +kernel
theorem dX0_take_16 : decode cX0_take 16 = .ok (.aload_n 1, 1) := by decide +kernel
theorem dX0_take_17 : decode cX0_take 17 = .ok (.getfield 11, 3) := by decide +kernel
theorem dX0_take_20 : decode cX0_take 20 = .ok (.iconst 0, 1) := by decide +kernel
theorem dX0_take_21 : decode cX0_take 21 = .ok (.aload_n 0, 1) := by decide +kernel
theorem dX0_take_22 : decode cX0_take 22 = .ok (.getfield 11, 3) := by decide +kernel
theorem dX0_take_25 : decode cX0_take 25 = .ok (.iconst 0, 1) := by decide +kernel
theorem dX0_take_26 : decode cX0_take 26 = .ok (.aload_n 0, 1) := by decide +kernel
theorem dX0_take_27 : decode cX0_take 27 = .ok (.getfield 11, 3) := by decide +kernel
theorem dX0_take_30 : decode cX0_take 30 = .ok (.arraylength, 1) := by decide +kernel
theorem dX0_take_31 : decode cX0_take 31 = .ok (.invokestatic 27, 3) := by decide +kernel
theorem dX0_take_34 : decode cX0_take 34 = .ok (.return_, 1) := by decide +kernel
theorem dX1_init_0 : decode cX1_init 0 = .ok (.aload_n 0, 1) := by decide +kernel
theorem dX1_init_1 : decode cX1_init 1 = .ok (.invokespecial 5, 3) := by decide +kernel
theorem dX1_init_4 : decode cX1_init 4 = .ok (.aload_n 0, 1) := by decide +kernel
theorem dX1_init_5 : decode cX1_init 5 = .ok (.sipush 248, 3) := by decide +kernel
theorem dX1_init_8 : decode cX1_init 8 = .ok (.newarray .int, 2) := by decide +kernel
theorem dX1_init_10 : decode cX1_init 10 = .ok (.putfield 11, 3) := by decide +kernel
theorem dX1_init_13 : decode cX1_init 13 = .ok (.aload_n 0, 1) := by decide +kernel
theorem dX1_init_14 : decode cX1_init 14 = .ok (.sipush 3100, 3) := by decide +kernel
theorem dX1_init_17 : decode cX1_init 17 = .ok (.newarray .int, 2) := by decide +kernel
theorem dX1_init_19 : decode cX1_init 19 = .ok (.putfield 15, 3) := by decide +kernel
theorem dX1_init_22 : decode cX1_init 22 = .ok (.aload_n 0, 1) := by decide +kernel
theorem dX1_init_23 : decode cX1_init 23 = .ok (.bipush 10, 2) := by decide +kernel
theorem dX1_init_25 : decode cX1_init 25 = .ok (.newarray .int, 2) := by decide +kernel
theorem dX1_init_27 : decode cX1_init 27 = .ok (.putfield 18, 3) := by decide +kernel
theorem dX1_init_30 : decode cX1_init 30 = .ok (.aload_n 0, 1) := by decide +kernel
theorem dX1_init_31 : decode cX1_init 31 = .ok (.bipush 100, 2) := by decide +kernel
theorem dX1_init_33 : decode cX1_init 33 = .ok (.newarray .boolean, 2) := by decide +kernel
theorem dX1_init_35 : decode cX1_init 35 = .ok (.putfield 21, 3) := by decide +kernel
theorem dX1_init_38 : decode cX1_init 38 = .ok (.aload_n 0, 1) := by decide +kernel
theorem dX1_init_39 : decode cX1_init 39 = .ok (.new 25, 3) := by decide +kernel
theorem dX1_init_42 : decode cX1_init 42 = .ok (.dup, 1) := by decide +kernel
theorem dX1_init_43 : decode cX1_init 43 = .ok (.invokespecial 27, 3) := by decide +kernel
theorem dX1_init_46 : decode cX1_init 46 = .ok (.putfield 28, 3) := by decide +kernel
theorem dX1_init_49 : decode cX1_init 49 = .ok (.aload_n 0, 1) := by decide +kernel
theorem dX1_init_50 : decode cX1_init 50 = .ok (.new 25, 3) := by decide +kernel
theorem dX1_init_53 : decode cX1_init 53 = .ok (.dup, 1) := by decide +kernel
theorem dX1_init_54 : decode cX1_init 54 = .ok (.invokespecial 27, 3) := by decide +kernel
theorem dX1_init_57 : decode cX1_init 57 = .ok (.putfield 32, 3) := by decide +kernel
theorem dX1_init_60 : decode cX1_init 60 = .ok (.return_, 1) := by decide +kernel
theorem dX1_layPlain_0 : decode cX1_layPlain 0 = .ok (.aload_n 0, 1) := by decide +kernel
theorem dX1_layPlain_1 : decode cX1_layPlain 1 = .ok (.getfield 28, 3) := by decide +kernel
theorem dX1_layPlain_4 : decode cX1_layPlain 4 = .ok (.aload_n 2, 1) := by decide +kernel
theorem dX1_layPlain_5 : decode cX1_layPlain 5 = .ok (.invokevirtual 35, 3) := by decide +kernel
theorem dX1_layPlain_8 : decode cX1_layPlain 8 = .ok (.iconst 0, 1) := by decide +kernel
theorem dX1_layPlain_9 : decode cX1_layPlain 9 = .ok (.istore 4, 2) := by decide +kernel
theorem dX1_layPlain_11 : decode cX1_layPlain 11 = .ok (.iload 4, 2) := by decide +kernel
theorem dX1_layPlain_13 : decode cX1_layPlain 13 = .ok (.iload_n 3, 1) := by decide +kernel
theorem dX1_layPlain_14 : decode cX1_layPlain 14 = .ok (.if_icmp .gt 60, 3) := by decide +kernel
theorem dX1_layPlain_17 : decode cX1_layPlain 17 = .ok (.iconst 0, 1) := by decide +kernel
theorem dX1_layPlain_18 : decode cX1_layPlain 18 = .ok (.istore 5, 2) := by decide +kernel
theorem dX1_layPlain_20 : decode cX1_layPlain 20 = .ok (.iload 5, 2) := by decide +kernel
theorem dX1_layPlain_22 : decode cX1_layPlain 22 = .ok (.aload_n 1, 1) := by decide +kernel
theorem dX1_layPlain_23 : decode cX1_layPlain 23 = .ok (.getfield 39, 3) := by decide +kernel
theorem dX1_layPlain_26 : decode cX1_layPlain 26 = .ok (.if_icmp .ge 34, 3) := by decide +kernel
theorem dX1_layPlain_29 : decode cX1_layPlain 29 = .ok (.aload_n 0, 1) := by decide +kernel
theorem dX1_layPlain_30 : decode cX1_layPlain 30 = .ok (.getfield 11, 3) := by decide +kernel
theorem dX1_layPlain_33 : decode cX1_layPlain 33 = .ok (.iload 5, 2) := by decide +kernel
theorem dX1_layPlain_35 : decode cX1_layPlain 35 = .ok (.bipush 31, 2) := by decide +kernel
theorem dX1_layPlain_37 : decode cX1_layPlain 37 = .ok (.imul, 1) := by decide +kernel
theorem dX1_layPlain_38 : decode cX1_layPlain 38 = .ok (.iload 4, 2) := by decide +kernel
theorem dX1_layPlain_40 : decode cX1_layPlain 40 = .ok (.iadd, 1) := by decide +kernel
theorem dX1_layPlain_41 : decode cX1_layPlain 41 = .ok (.aload_n 0, 1) := by decide +kernel
theorem dX1_layPlain_42 : decode cX1_layPlain 42 = .ok (.getfield 28, 3) := by decide +kernel
theorem dX1_layPlain_45 : decode cX1_layPlain 45 = .ok (.getfield 45, 3) := by decide +kernel
theorem dX1_layPlain_48 : decode cX1_layPlain 48 = .ok (.iconst 1, 1) := by decide +kernel
theorem dX1_layPlain_49 : decode cX1_layPlain 49 = .ok (.iload 5, 2) := by decide +kernel
theorem dX1_layPlain_51 : decode cX1_layPlain 51 = .ok (.iadd, 1) := by decide +kernel
theorem dX1_layPlain_52 : decode cX1_layPlain 52 = .ok (.iaload, 1) := by decide +kernel
theorem dX1_layPlain_53 : decode cX1_layPlain 53 = .ok (.iastore, 1) := by decide +kernel
theorem dX1_layPlain_54 : decode cX1_layPlain 54 = .ok (.iinc 5 1, 3) := by decide +kernel
theorem dX1_layPlain_57 : decode cX1_layPlain 57 = .ok (.goto (-37), 3) := by decide +kernel
theorem dX1_layPlain_60 : decode cX1_layPlain 60 = .ok (.aload_n 0, 1) := by decide +kernel
theorem dX1_layPlain_61 : decode cX1_layPlain 61 = .ok (.getfield 28, 3) := by decide +kernel
theorem dX1_layPlain_64 : decode cX1_layPlain 64 = .ok (.aload_n 1, 1) := by decide +kernel
theorem dX1_layPlain_65 : decode cX1_layPlain 65 = .ok (.invokevirtual 48, 3) := by decide +kernel
theorem dX1_layPlain_68 : decode cX1_layPlain 68 = .ok (.iinc 4 1, 3) := by decide +kernel
theorem dX1_layPlain_71 : decode cX1_layPlain 71 = .ok (.goto (-60), 3) := by decide +kernel
theorem dX1_layPlain_74 : decode cX1_layPlain 74 = .ok (.return_, 1) := by decide +kernel
theorem dX1_plainFits_0 : decode cX1_plainFits 0 = .ok (.iconst 0, 1) := by decide +kernel
theorem dX1_plainFits_1 : decode cX1_plainFits 1 = .ok (.istore_n 2, 1) := by decide +kernel
theorem dX1_plainFits_2 : decode cX1_plainFits 2 = .ok (.iload_n 2, 1) := by decide +kernel
theorem dX1_plainFits_3 : decode cX1_plainFits 3 = .ok (.aload_n 1, 1) := by decide +kernel
theorem dX1_plainFits_4 : decode cX1_plainFits 4 = .ok (.getfield 52, 3) := by decide +kernel
theorem dX1_plainFits_7 : decode cX1_plainFits 7 = .ok (.if_icmp .ge 41, 3) := by decide +kernel
theorem dX1_plainFits_10 : decode cX1_plainFits 10 = .ok (.aload_n 0, 1) := by decide +kernel
theorem dX1_plainFits_11 : decode cX1_plainFits 11 = .ok (.getfield 11, 3) := by decide +kernel
theorem dX1_plainFits_14 : decode cX1_plainFits 14 = .ok (.aload_n 1, 1) := by decide +kernel
theorem dX1_plainFits_15 : decode cX1_plainFits 15 = .ok (.getfield 57, 3) := by decide +kernel
theorem dX1_plainFits_18 : decode cX1_plainFits 18 = .ok (.iload_n 2, 1) := by decide +kernel
theorem dX1_plainFits_19 : decode cX1_plainFits 19 = .ok (.iaload, 1) := by decide +kernel
theorem dX1_plainFits_20 : decode cX1_plainFits 20 = .ok (.bipush 31, 2) := by decide +kernel
theorem dX1_plainFits_22 : decode cX1_plainFits 22 = .ok (.imul, 1) := by decide +kernel
theorem dX1_plainFits_23 : decode cX1_plainFits 23 = .ok (.aload_n 1, 1) := by decide +kernel
theorem dX1_plainFits_24 : decode cX1_plainFits 24 = .ok (.getfield 59, 3) := by decide +kernel
theorem dX1_plainFits_27 : decode cX1_plainFits 27 = .ok (.iload_n 2, 1) := by decide +kernel
theorem dX1_plainFits_28 : decode cX1_plainFits 28 = .ok (.iaload, 1) := by decide +kernel
theorem dX1_plainFits_29 : decode cX1_plainFits 29 = .ok (.iadd, 1) := by decide +kernel
theorem dX1_plainFits_30 : decode cX1_plainFits 30 = .ok (.iaload, 1) := by decide +kernel
theorem dX1_plainFits_31 : decode cX1_plainFits 31 = .ok (.aload_n 1, 1) := by decide +kernel
theorem dX1_plainFits_32 : decode cX1_plainFits 32 = .ok (.getfield 62, 3) := by decide +kernel
theorem dX1_plainFits_35 : decode cX1_plainFits 35 = .ok (.iload_n 2, 1) := by decide +kernel
theorem dX1_plainFits_36 : decode cX1_plainFits 36 = .ok (.iaload, 1) := by decide +kernel
theorem dX1_plainFits_37 : decode cX1_plainFits 37 = .ok (.if_icmp .eq 5, 3) := by decide +kernel
theorem dX1_plainFits_40 : decode cX1_plainFits 40 = .ok (.iconst 0, 1) := by decide +kernel
theorem dX1_plainFits_41 : decode cX1_plainFits 41 = .ok (.ireturn, 1) := by decide +kernel
theorem dX1_plainFits_42 : decode cX1_plainFits 42 = .ok (.iinc 2 1, 3) := by decide +kernel
theorem dX1_plainFits_45 : decode cX1_plainFits 45 = .ok (.goto (-43), 3) := by decide +kernel
theorem dX1_plainFits_48 : decode cX1_plainFits 48 = .ok (.iconst 1, 1) := by decide +kernel
theorem dX1_plainFits_49 : decode cX1_plainFits 49 = .ok (.ireturn, 1) := by decide +kernel
theorem dX1_layAll_0 : decode cX1_layAll 0 = .ok (.iconst 0, 1) := by decide +kernel
theorem dX1_layAll_1 : decode cX1_layAll 1 = .ok (.istore 5, 2) := by decide +kernel
theorem dX1_layAll_3 : decode cX1_layAll 3 = .ok (.iload 5, 2) := by decide +kernel
theorem dX1_layAll_5 : decode cX1_layAll 5 = .ok (.bipush 100, 2) := by decide +kernel
theorem dX1_layAll_7 : decode cX1_layAll 7 = .ok (.if_icmp .ge 17, 3) := by decide +kernel
theorem dX1_layAll_10 : decode cX1_layAll 10 = .ok (.aload_n 0, 1) := by decide +kernel
theorem dX1_layAll_11 : decode cX1_layAll 11 = .ok (.getfield 21, 3) := by decide +kernel
theorem dX1_layAll_14 : decode cX1_layAll 14 = .ok (.iload 5, 2) := by decide +kernel
theorem dX1_layAll_16 : decode cX1_layAll 16 = .ok (.iconst 0, 1) := by decide +kernel
theorem dX1_layAll_17 : decode cX1_layAll 17 = .ok (.bastore, 1) := by decide +kernel
theorem dX1_layAll_18 : decode cX1_layAll 18 = .ok (.iinc 5 1, 3) := by decide +kernel
theorem dX1_layAll_21 : decode cX1_layAll 21 = .ok (.goto (-18), 3) := by decide +kernel
theorem dX1_layAll_24 : decode cX1_layAll 24 = .ok (.iconst 0, 1) := by decide +kernel
theorem dX1_layAll_25 : decode cX1_layAll 25 = .ok (.istore 5, 2) := by decide +kernel
theorem dX1_layAll_27 : decode cX1_layAll 27 = .ok (.iload 5, 2) := by decide +kernel
theorem dX1_layAll_29 : decode cX1_layAll 29 = .ok (.aload_n 1, 1) := by decide +kernel
theorem dX1_layAll_30 : decode cX1_layAll 30 = .ok (.getfield 65, 3) := by decide +kernel
theorem dX1_layAll_33 : decode cX1_layAll 33 = .ok (.if_icmp .ge 84, 3) := by decide +kernel
theorem dX1_layAll_36 : decode cX1_layAll 36 = .ok (.aload_n 2, 1) := by decide +kernel
theorem dX1_layAll_37 : decode cX1_layAll 37 = .ok (.iload 5, 2) := by decide +kernel
theorem dX1_layAll_39 : decode cX1_layAll 39 = .ok (.invokevirtual 68, 3) := by decide +kernel
theorem dX1_layAll_42 : decode cX1_layAll 42 = .ok (.ifCond .eq 69, 3) := by decide +kernel
theorem dX1_layAll_45 : decode cX1_layAll 45 = .ok (.aload_n 0, 1) := by decide +kernel
theorem dX1_layAll_46 : decode cX1_layAll 46 = .ok (.getfield 18, 3) := by decide +kernel
theorem dX1_layAll_49 : decode cX1_layAll 49 = .ok (.iload 5, 2) := by decide +kernel
theorem dX1_layAll_51 : decode cX1_layAll 51 = .ok (.aload_n 2, 1) := by decide +kernel
theorem dX1_layAll_52 : decode cX1_layAll 52 = .ok (.getfield 45, 3) := by decide +kernel
theorem dX1_layAll_55 : decode cX1_layAll 55 = .ok (.bipush 55, 2) := by decide +kernel
theorem dX1_layAll_57 : decode cX1_layAll 57 = .ok (.iload 5, 2) := by decide +kernel
theorem dX1_layAll_59 : decode cX1_layAll 59 = .ok (.iadd, 1) := by decide +kernel
theorem dX1_layAll_60 : decode cX1_layAll 60 = .ok (.iaload, 1) := by decide +kernel
theorem dX1_layAll_61 : decode cX1_layAll 61 = .ok (.iastore, 1) := by decide +kernel
theorem dX1_layAll_62 : decode cX1_layAll 62 = .ok (.aload_n 0, 1) := by decide +kernel
theorem dX1_layAll_63 : decode cX1_layAll 63 = .ok (.aload_n 1, 1) := by decide +kernel
theorem dX1_layAll_64 : decode cX1_layAll 64 = .ok (.aload_n 2, 1) := by decide +kernel
theorem dX1_layAll_65 : decode cX1_layAll 65 = .ok (.iload 5, 2) := by decide +kernel
theorem dX1_layAll_67 : decode cX1_layAll 67 = .ok (.iload 4, 2) := by decide +kernel
theorem dX1_layAll_69 : decode cX1_layAll 69 = .ok (.invokevirtual 72, 3) := by decide +kernel
theorem dX1_layAll_72 : decode cX1_layAll 72 = .ok (.iload 5, 2) := by decide +kernel
theorem dX1_layAll_74 : decode cX1_layAll 74 = .ok (.bipush 10, 2) := by decide +kernel
theorem dX1_layAll_76 : decode cX1_layAll 76 = .ok (.imul, 1) := by decide +kernel
theorem dX1_layAll_77 : decode cX1_layAll 77 = .ok (.istore 6, 2) := by decide +kernel
theorem dX1_layAll_79 : decode cX1_layAll 79 = .ok (.iload 6, 2) := by decide +kernel
theorem dX1_layAll_81 : decode cX1_layAll 81 = .ok (.iload 5, 2) := by decide +kernel
theorem dX1_layAll_83 : decode cX1_layAll 83 = .ok (.iconst 1, 1) := by decide +kernel
theorem dX1_layAll_84 : decode cX1_layAll 84 = .ok (.iadd, 1) := by decide +kernel
theorem dX1_layAll_85 : decode cX1_layAll 85 = .ok (.bipush 10, 2) := by decide +kernel
theorem dX1_layAll_87 : decode cX1_layAll 87 = .ok (.imul, 1) := by decide +kernel
theorem dX1_layAll_88 : decode cX1_layAll 88 = .ok (.if_icmp .ge 23, 3) := by decide +kernel
theorem dX1_layAll_91 : decode cX1_layAll 91 = .ok (.aload_n 0, 1) := by decide +kernel
theorem dX1_layAll_92 : decode cX1_layAll 92 = .ok (.getfield 21, 3) := by decide +kernel
theorem dX1_layAll_95 : decode cX1_layAll 95 = .ok (.iload 6, 2) := by decide +kernel
theorem dX1_layAll_97 : decode cX1_layAll 97 = .ok (.aload_n 0, 1) := by decide +kernel
theorem dX1_layAll_98 : decode cX1_layAll 98 = .ok (.iload 6, 2) := by decide +kernel
theorem dX1_layAll_100 : decode cX1_layAll 100 = .ok (.aload_n 3, 1) := by decide +kernel
theorem dX1_layAll_101 : decode cX1_layAll 101 = .ok (.invokevirtual 76, 3) := by decide +kernel
theorem dX1_layAll_104 : decode cX1_layAll 104 = .ok (.bastore, 1) := by decide +kernel
theorem dX1_layAll_105 : decode cX1_layAll 105 = .ok (.iinc 6 1, 3) := by decide +kernel
theorem dX1_layAll_108 : decode cX1_layAll 108 = .ok (.goto (-29), 3) := by decide +kernel
theorem dX1_layAll_111 : decode cX1_layAll 111 = .ok (.iinc 5 1, 3) := by decide +kernel
theorem dX1_layAll_114 : decode cX1_layAll 114 = .ok (.goto (-87), 3) := by decide +kernel
theorem dX1_layAll_117 : decode cX1_layAll 117 = .ok (.return_, 1) := by decide +kernel
theorem dX1_layCrate_0 : decode cX1_layCrate 0 = .ok (.aload_n 0, 1) := by decide +kernel
theorem dX1_layCrate_1 : decode cX1_layCrate 1 = .ok (.getfield 18, 3) := by decide +kernel
theorem dX1_layCrate_4 : decode cX1_layCrate 4 = .ok (.iload_n 3, 1) := by decide +kernel
theorem dX1_layCrate_5 : decode cX1_layCrate 5 = .ok (.iaload, 1) := by decide +kernel
theorem dX1_layCrate_6 : decode cX1_layCrate 6 = .ok (.istore 5, 2) := by decide +kernel
theorem dX1_layCrate_8 : decode cX1_layCrate 8 = .ok (.aload_n 0, 1) := by decide +kernel
theorem dX1_layCrate_9 : decode cX1_layCrate 9 = .ok (.getfield 28, 3) := by decide +kernel
theorem dX1_layCrate_12 : decode cX1_layCrate 12 = .ok (.aload_n 2, 1) := by decide +kernel
theorem dX1_layCrate_13 : decode cX1_layCrate 13 = .ok (.invokevirtual 35, 3) := by decide +kernel
theorem dX1_layCrate_16 : decode cX1_layCrate 16 = .ok (.iconst 0, 1) := by decide +kernel
theorem dX1_layCrate_17 : decode cX1_layCrate 17 = .ok (.istore 6, 2) := by decide +kernel
theorem dX1_layCrate_19 : decode cX1_layCrate 19 = .ok (.iload 6, 2) := by decide +kernel
theorem dX1_layCrate_21 : decode cX1_layCrate 21 = .ok (.bipush 10, 2) := by decide +kernel
theorem dX1_layCrate_23 : decode cX1_layCrate 23 = .ok (.if_icmp .ge 148, 3) := by decide +kernel
theorem dX1_layCrate_26 : decode cX1_layCrate 26 = .ok (.iload_n 3, 1) := by decide +kernel
theorem dX1_layCrate_27 : decode cX1_layCrate 27 = .ok (.bipush 10, 2) := by decide +kernel
theorem dX1_layCrate_29 : decode cX1_layCrate 29 = .ok (.imul, 1) := by decide +kernel
theorem dX1_layCrate_30 : decode cX1_layCrate 30 = .ok (.iload 6, 2) := by decide +kernel
theorem dX1_layCrate_32 : decode cX1_layCrate 32 = .ok (.iadd, 1) := by decide +kernel
theorem dX1_layCrate_33 : decode cX1_layCrate 33 = .ok (.bipush 31, 2) := by decide +kernel
theorem dX1_layCrate_35 : decode cX1_layCrate 35 = .ok (.imul, 1) := by decide +kernel
theorem dX1_layCrate_36 : decode cX1_layCrate 36 = .ok (.istore 7, 2) := by decide +kernel
theorem dX1_layCrate_38 : decode cX1_layCrate 38 = .ok (.iconst 0, 1) := by decide +kernel
theorem dX1_layCrate_39 : decode cX1_layCrate 39 = .ok (.istore 8, 2) := by decide +kernel
theorem dX1_layCrate_41 : decode cX1_layCrate 41 = .ok (.iload 8, 2) := by decide +kernel
theorem dX1_layCrate_43 : decode cX1_layCrate 43 = .ok (.iload 6, 2) := by decide +kernel
theorem dX1_layCrate_45 : decode cX1_layCrate 45 = .ok (.if_icmp .ge 39, 3) := by decide +kernel
theorem dX1_layCrate_48 : decode cX1_layCrate 48 = .ok (.iload 8, 2) := by decide +kernel
theorem dX1_layCrate_50 : decode cX1_layCrate 50 = .ok (.iload 4, 2) := by decide +kernel
theorem dX1_layCrate_52 : decode cX1_layCrate 52 = .ok (.if_icmp .gt 32, 3) := by decide +kernel
theorem dX1_layCrate_55 : decode cX1_layCrate 55 = .ok (.aload_n 0, 1) := by decide +kernel
theorem dX1_layCrate_56 : decode cX1_layCrate 56 = .ok (.getfield 15, 3) := by decide +kernel
theorem dX1_layCrate_59 : decode cX1_layCrate 59 = .ok (.iload 7, 2) := by decide +kernel
theorem dX1_layCrate_61 : decode cX1_layCrate 61 = .ok (.iload 8, 2) := by decide +kernel
theorem dX1_layCrate_63 : decode cX1_layCrate 63 = .ok (.iadd, 1) := by decide +kernel
theorem dX1_layCrate_64 : decode cX1_layCrate 64 = .ok (.aload_n 0, 1) := by decide +kernel
theorem dX1_layCrate_65 : decode cX1_layCrate 65 = .ok (.getfield 11, 3) := by decide +kernel
theorem dX1_layCrate_68 : decode cX1_layCrate 68 = .ok (.iload 5, 2) := by decide +kernel
theorem dX1_layCrate_70 : decode cX1_layCrate 70 = .ok (.bipush 31, 2) := by decide +kernel
theorem dX1_layCrate_72 : decode cX1_layCrate 72 = .ok (.imul, 1) := by decide +kernel
theorem dX1_layCrate_73 : decode cX1_layCrate 73 = .ok (.iload 8, 2) := by decide +kernel
theorem dX1_layCrate_75 : decode cX1_layCrate 75 = .ok (.iadd, 1) := by decide +kernel
theorem dX1_layCrate_76 : decode cX1_layCrate 76 = .ok (.iaload, 1) := by decide +kernel
theorem dX1_layCrate_77 : decode cX1_layCrate 77 = .ok (.iastore, 1) := by decide +kernel
theorem dX1_layCrate_78 : decode cX1_layCrate 78 = .ok (.iinc 8 1, 3) := by decide +kernel
theorem dX1_layCrate_81 : decode cX1_layCrate 81 = .ok (.goto (-40), 3) := by decide +kernel
theorem dX1_layCrate_84 : decode cX1_layCrate 84 = .ok (.aload_n 0, 1) := by decide +kernel
theorem dX1_layCrate_85 : decode cX1_layCrate 85 = .ok (.getfield 32, 3) := by decide +kernel
theorem dX1_layCrate_88 : decode cX1_layCrate 88 = .ok (.aload_n 0, 1) := by decide +kernel
theorem dX1_layCrate_89 : decode cX1_layCrate 89 = .ok (.getfield 28, 3) := by decide +kernel
theorem dX1_layCrate_92 : decode cX1_layCrate 92 = .ok (.invokevirtual 35, 3) := by decide +kernel
theorem dX1_layCrate_95 : decode cX1_layCrate 95 = .ok (.aload_n 0, 1) := by decide +kernel
theorem dX1_layCrate_96 : decode cX1_layCrate 96 = .ok (.getfield 32, 3) := by decide +kernel
theorem dX1_layCrate_99 : decode cX1_layCrate 99 = .ok (.iload_n 3, 1) := by decide +kernel
theorem dX1_layCrate_100 : decode cX1_layCrate 100 = .ok (.invokevirtual 80, 3) := by decide +kernel
theorem dX1_layCrate_103 : decode cX1_layCrate 103 = .ok (.pop, 1) := by decide +kernel
theorem dX1_layCrate_104 : decode cX1_layCrate 104 = .ok (.iload 6, 2) := by decide +kernel
theorem dX1_layCrate_106 : decode cX1_layCrate 106 = .ok (.istore 8, 2) := by decide +kernel
theorem dX1_layCrate_108 : decode cX1_layCrate 108 = .ok (.iload 8, 2) := by decide +kernel
theorem dX1_layCrate_110 : decode cX1_layCrate 110 = .ok (.iload 4, 2) := by decide +kernel
theorem dX1_layCrate_112 : decode cX1_layCrate 112 = .ok (.if_icmp .gt 42, 3) := by decide +kernel
theorem dX1_layCrate_115 : decode cX1_layCrate 115 = .ok (.aload_n 0, 1) := by decide +kernel
theorem dX1_layCrate_116 : decode cX1_layCrate 116 = .ok (.getfield 15, 3) := by decide +kernel
theorem dX1_layCrate_119 : decode cX1_layCrate 119 = .ok (.iload 7, 2) := by decide +kernel
theorem dX1_layCrate_121 : decode cX1_layCrate 121 = .ok (.iload 8, 2) := by decide +kernel
theorem dX1_layCrate_123 : decode cX1_layCrate 123 = .ok (.iadd, 1) := by decide +kernel
theorem dX1_layCrate_124 : decode cX1_layCrate 124 = .ok (.aload_n 0, 1) := by decide +kernel
theorem dX1_layCrate_125 : decode cX1_layCrate 125 = .ok (.getfield 32, 3) := by decide +kernel
theorem dX1_layCrate_128 : decode cX1_layCrate 128 = .ok (.getfield 45, 3) := by decide +kernel
theorem dX1_layCrate_131 : decode cX1_layCrate 131 = .ok (.iconst 1, 1) := by decide +kernel
theorem dX1_layCrate_132 : decode cX1_layCrate 132 = .ok (.iload 5, 2) := by decide +kernel
theorem dX1_layCrate_134 : decode cX1_layCrate 134 = .ok (.iadd, 1) := by decide +kernel
theorem dX1_layCrate_135 : decode cX1_layCrate 135 = .ok (.iaload, 1) := by decide +kernel
theorem dX1_layCrate_136 : decode cX1_layCrate 136 = .ok (.iastore, 1) := by decide +kernel
theorem dX1_layCrate_137 : decode cX1_layCrate 137 = .ok (.aload_n 0, 1) := by decide +kernel
theorem dX1_layCrate_138 : decode cX1_layCrate 138 = .ok (.getfield 32, 3) := by decide +kernel
theorem dX1_layCrate_141 : decode cX1_layCrate 141 = .ok (.aload_n 1, 1) := by decide +kernel
theorem dX1_layCrate_142 : decode cX1_layCrate 142 = .ok (.iload 5, 2) := by decide +kernel
theorem dX1_layCrate_144 : decode cX1_layCrate 144 = .ok (.invokevirtual 84, 3) := by decide +kernel
theorem dX1_layCrate_147 : decode cX1_layCrate 147 = .ok (.pop, 1) := by decide +kernel
theorem dX1_layCrate_148 : decode cX1_layCrate 148 = .ok (.iinc 8 1, 3) := by decide +kernel
theorem dX1_layCrate_151 : decode cX1_layCrate 151 = .ok (.goto (-43), 3) := by decide +kernel
theorem dX1_layCrate_154 : decode cX1_layCrate 154 = .ok (.aload_n 0, 1) := by decide +kernel
theorem dX1_layCrate_155 : decode cX1_layCrate 155 = .ok (.getfield 28, 3) := by decide +kernel
theorem dX1_layCrate_158 : decode cX1_layCrate 158 = .ok (.aload_n 1, 1) := by decide +kernel
theorem dX1_layCrate_159 : decode cX1_layCrate 159 = .ok (.iload 5, 2) := by decide +kernel
theorem dX1_layCrate_161 : decode cX1_layCrate 161 = .ok (.invokevirtual 84, 3) := by decide +kernel
theorem dX1_layCrate_164 : decode cX1_layCrate 164 = .ok (.pop, 1) := by decide +kernel
theorem dX1_layCrate_165 : decode cX1_layCrate 165 = .ok (.iinc 6 1, 3) := by decide +kernel
theorem dX1_layCrate_168 : decode cX1_layCrate 168 = .ok (.goto (-149), 3) := by decide +kernel
theorem dX1_layCrate_171 : decode cX1_layCrate 171 = .ok (.return_, 1) := by decide +kernel
theorem dX1_courseFits_0 : decode cX1_courseFits 0 = .ok (.aload_n 0, 1) := by decide +kernel
theorem dX1_courseFits_1 : decode cX1_courseFits 1 = .ok (.getfield 18, 3) := by decide +kernel
theorem dX1_courseFits_4 : decode cX1_courseFits 4 = .ok (.iload_n 1, 1) := by decide +kernel
theorem dX1_courseFits_5 : decode cX1_courseFits 5 = .ok (.bipush 10, 2) := by decide +kernel
theorem dX1_courseFits_7 : decode cX1_courseFits 7 = .ok (.idiv, 1) := by decide +kernel
theorem dX1_courseFits_8 : decode cX1_courseFits 8 = .ok (.iaload, 1) := by decide +kernel
theorem dX1_courseFits_9 : decode cX1_courseFits 9 = .ok (.istore_n 3, 1) := by decide +kernel
theorem dX1_courseFits_10 : decode cX1_courseFits 10 = .ok (.iconst 0, 1) := by decide +kernel
theorem dX1_courseFits_11 : decode cX1_courseFits 11 = .ok (.istore 4, 2) := by decide +kernel
theorem dX1_courseFits_13 : decode cX1_courseFits 13 = .ok (.iload 4, 2) := by decide +kernel
theorem dX1_courseFits_15 : decode cX1_courseFits 15 = .ok (.aload_n 2, 1) := by decide +kernel
theorem dX1_courseFits_16 : decode cX1_courseFits 16 = .ok (.getfield 52, 3) := by decide +kernel
theorem dX1_courseFits_19 : decode cX1_courseFits 19 = .ok (.if_icmp .ge 79, 3) := by decide +kernel
theorem dX1_courseFits_22 : decode cX1_courseFits 22 = .ok (.aload_n 2, 1) := by decide +kernel
theorem dX1_courseFits_23 : decode cX1_courseFits 23 = .ok (.getfield 57, 3) := by decide +kernel
theorem dX1_courseFits_26 : decode cX1_courseFits 26 = .ok (.iload 4, 2) := by decide +kernel
theorem dX1_courseFits_28 : decode cX1_courseFits 28 = .ok (.iaload, 1) := by decide +kernel
theorem dX1_courseFits_29 : decode cX1_courseFits 29 = .ok (.iload_n 3, 1) := by decide +kernel
theorem dX1_courseFits_30 : decode cX1_courseFits 30 = .ok (.if_icmp .ne 23, 3) := by decide +kernel
theorem dX1_courseFits_33 : decode cX1_courseFits 33 = .ok (.aload_n 0, 1) := by decide +kernel
theorem dX1_courseFits_34 : decode cX1_courseFits 34 = .ok (.getfield 15, 3) := by decide +kernel
theorem dX1_courseFits_37 : decode cX1_courseFits 37 = .ok (.iload_n 1, 1) := by decide +kernel
theorem dX1_courseFits_38 : decode cX1_courseFits 38 = .ok (.bipush 31, 2) := by decide +kernel
theorem dX1_courseFits_40 : decode cX1_courseFits 40 = .ok (.imul, 1) := by decide +kernel
theorem dX1_courseFits_41 : decode cX1_courseFits 41 = .ok (.aload_n 2, 1) := by decide +kernel
theorem dX1_courseFits_42 : decode cX1_courseFits 42 = .ok (.getfield 59, 3) := by decide +kernel
theorem dX1_courseFits_45 : decode cX1_courseFits 45 = .ok (.iload 4, 2) := by decide +kernel
theorem dX1_courseFits_47 : decode cX1_courseFits 47 = .ok (.iaload, 1) := by decide +kernel
theorem dX1_courseFits_48 : decode cX1_courseFits 48 = .ok (.iadd, 1) := by decide +kernel
theorem dX1_courseFits_49 : decode cX1_courseFits 49 = .ok (.iaload, 1) := by decide +kernel
theorem dX1_courseFits_50 : decode cX1_courseFits 50 = .ok (.goto 26, 3) := by decide +kernel
theorem dX1_courseFits_53 : decode cX1_courseFits 53 = .ok (.aload_n 0, 1) := by decide +kernel
theorem dX1_courseFits_54 : decode cX1_courseFits 54 = .ok (.getfield 11, 3) := by decide +kernel
theorem dX1_courseFits_57 : decode cX1_courseFits 57 = .ok (.aload_n 2, 1) := by decide +kernel
theorem dX1_courseFits_58 : decode cX1_courseFits 58 = .ok (.getfield 57, 3) := by decide +kernel
theorem dX1_courseFits_61 : decode cX1_courseFits 61 = .ok (.iload 4, 2) := by decide +kernel
theorem dX1_courseFits_63 : decode cX1_courseFits 63 = .ok (.iaload, 1) := by decide +kernel
theorem dX1_courseFits_64 : decode cX1_courseFits 64 = .ok (.bipush 31, 2) := by decide +kernel
theorem dX1_courseFits_66 : decode cX1_courseFits 66 = .ok (.imul, 1) := by decide +kernel
theorem dX1_courseFits_67 : decode cX1_courseFits 67 = .ok (.aload_n 2, 1) := by decide +kernel
theorem dX1_courseFits_68 : decode cX1_courseFits 68 = .ok (.getfield 59, 3) := by decide +kernel
theorem dX1_courseFits_71 : decode cX1_courseFits 71 = .ok (.iload 4, 2) := by decide +kernel
theorem dX1_courseFits_73 : decode cX1_courseFits 73 = .ok (.iaload, 1) := by decide +kernel
theorem dX1_courseFits_74 : decode cX1_courseFits 74 = .ok (.iadd, 1) := by decide +kernel
theorem dX1_courseFits_75 : decode cX1_courseFits 75 = .ok (.iaload, 1) := by decide +kernel
theorem dX1_courseFits_76 : decode cX1_courseFits 76 = .ok (.istore 5, 2) := by decide +kernel
theorem dX1_courseFits_78 : decode cX1_courseFits 78 = .ok (.iload 5, 2) := by decide +kernel
theorem dX1_courseFits_80 : decode cX1_courseFits 80 = .ok (.aload_n 2, 1) := by decide +kernel
theorem dX1_courseFits_81 : decode cX1_courseFits 81 = .ok (.getfield 62, 3) := by decide +kernel
theorem dX1_courseFits_84 : decode cX1_courseFits 84 = .ok (.iload 4, 2) := by decide +kernel
theorem dX1_courseFits_86 : decode cX1_courseFits 86 = .ok (.iaload, 1) := by decide +kernel
theorem dX1_courseFits_87 : decode cX1_courseFits 87 = .ok (.if_icmp .eq 5, 3) := by decide +kernel
theorem dX1_courseFits_90 : decode cX1_courseFits 90 = .ok (.iconst 0, 1) := by decide +kernel
theorem dX1_courseFits_91 : decode cX1_courseFits 91 = .ok (.ireturn, 1) := by decide +kernel
theorem dX1_courseFits_92 : decode cX1_courseFits 92 = .ok (.iinc 4 1, 3) := by decide +kernel
theorem dX1_courseFits_95 : decode cX1_courseFits 95 = .ok (.goto (-82), 3) := by decide +kernel
theorem dX1_courseFits_98 : decode cX1_courseFits 98 = .ok (.iconst 1, 1) := by decide +kernel
theorem dX1_courseFits_99 : decode cX1_courseFits 99 = .ok (.ireturn, 1) := by decide +kernel
theorem dX1_held_0 : decode cX1_held 0 = .ok (.iconst 0, 1) := by decide +kernel
theorem dX1_held_1 : decode cX1_held 1 = .ok (.istore_n 1, 1) := by decide +kernel
theorem dX1_held_2 : decode cX1_held 2 = .ok (.iconst 0, 1) := by decide +kernel
theorem dX1_held_3 : decode cX1_held 3 = .ok (.istore_n 2, 1) := by decide +kernel
theorem dX1_held_4 : decode cX1_held 4 = .ok (.iload_n 2, 1) := by decide +kernel
theorem dX1_held_5 : decode cX1_held 5 = .ok (.bipush 100, 2) := by decide +kernel
theorem dX1_held_7 : decode cX1_held 7 = .ok (.if_icmp .ge 26, 3) := by decide +kernel
theorem dX1_held_10 : decode cX1_held 10 = .ok (.iload_n 1, 1) := by decide +kernel
theorem dX1_held_11 : decode cX1_held 11 = .ok (.aload_n 0, 1) := by decide +kernel
theorem dX1_held_12 : decode cX1_held 12 = .ok (.getfield 21, 3) := by decide +kernel
theorem dX1_held_15 : decode cX1_held 15 = .ok (.iload_n 2, 1) := by decide +kernel
theorem dX1_held_16 : decode cX1_held 16 = .ok (.baload, 1) := by decide +kernel
theorem dX1_held_17 : decode cX1_held 17 = .ok (.ifCond .eq 7, 3) := by decide +kernel
theorem dX1_held_20 : decode cX1_held 20 = .ok (.iconst 1, 1) := by decide +kernel
theorem dX1_held_21 : decode cX1_held 21 = .ok (.goto 4, 3) := by decide +kernel
theorem dX1_held_24 : decode cX1_held 24 = .ok (.iconst 0, 1) := by decide +kernel
theorem dX1_held_25 : decode cX1_held 25 = .ok (.iadd, 1) := by decide +kernel
theorem dX1_held_26 : decode cX1_held 26 = .ok (.istore_n 1, 1) := by decide +kernel
theorem dX1_held_27 : decode cX1_held 27 = .ok (.iinc 2 1, 3) := by decide +kernel
theorem dX1_held_30 : decode cX1_held 30 = .ok (.goto (-26), 3) := by decide +kernel
theorem dX1_held_33 : decode cX1_held 33 = .ok (.iload_n 1, 1) := by decide +kernel
theorem dX1_held_34 : decode cX1_held 34 = .ok (.ireturn, 1) := by decide +kernel
theorem dX1_first_0 : decode cX1_first 0 = .ok (.iconst 0, 1) := by decide +kernel
theorem dX1_first_1 : decode cX1_first 1 = .ok (.istore_n 1, 1) := by decide +kernel
theorem dX1_first_2 : decode cX1_first 2 = .ok (.iload_n 1, 1) := by decide +kernel
theorem dX1_first_3 : decode cX1_first 3 = .ok (.bipush 100, 2) := by decide +kernel
theorem dX1_first_5 : decode cX1_first 5 = .ok (.if_icmp .ge 20, 3) := by decide +kernel
theorem dX1_first_8 : decode cX1_first 8 = .ok (.aload_n 0, 1) := by decide +kernel
theorem dX1_first_9 : decode cX1_first 9 = .ok (.getfield 21, 3) := by decide +kernel
theorem dX1_first_12 : decode cX1_first 12 = .ok (.iload_n 1, 1) := by decide +kernel
theorem dX1_first_13 : decode cX1_first 13 = .ok (.baload, 1) := by decide +kernel
theorem dX1_first_14 : decode cX1_first 14 = .ok (.ifCond .eq 5, 3) := by decide +kernel
theorem dX1_first_17 : decode cX1_first 17 = .ok (.iload_n 1, 1) := by decide +kernel
theorem dX1_first_18 : decode cX1_first 18 = .ok (.ireturn, 1) := by decide +kernel
theorem dX1_first_19 : decode cX1_first 19 = .ok (.iinc 1 1, 3) := by decide +kernel
theorem dX1_first_22 : decode cX1_first 22 = .ok (.goto (-20), 3) := by decide +kernel
theorem dX1_first_25 : decode cX1_first 25 = .ok (.iconst (-1), 1) := by decide +kernel
theorem dX1_first_26 : decode cX1_first 26 = .ok (.ireturn, 1) := by decide +kernel
theorem dX1_unlikeOn_0 : decode cX1_unlikeOn 0 = .ok (.iconst 0, 1) := by decide +kernel
theorem dX1_unlikeOn_1 : decode cX1_unlikeOn 1 = .ok (.istore_n 2, 1) := by decide +kernel
theorem dX1_unlikeOn_2 : decode cX1_unlikeOn 2 = .ok (.iconst 0, 1) := by decide +kernel
theorem dX1_unlikeOn_3 : decode cX1_unlikeOn 3 = .ok (.istore_n 3, 1) := by decide +kernel
theorem dX1_unlikeOn_4 : decode cX1_unlikeOn 4 = .ok (.iconst 0, 1) := by decide +kernel
theorem dX1_unlikeOn_5 : decode cX1_unlikeOn 5 = .ok (.istore 4, 2) := by decide +kernel
theorem dX1_unlikeOn_7 : decode cX1_unlikeOn 7 = .ok (.iload 4, 2) := by decide +kernel
theorem dX1_unlikeOn_9 : decode cX1_unlikeOn 9 = .ok (.bipush 100, 2) := by decide +kernel
theorem dX1_unlikeOn_11 : decode cX1_unlikeOn 11 = .ok (.if_icmp .ge 72, 3) := by decide +kernel
theorem dX1_unlikeOn_14 : decode cX1_unlikeOn 14 = .ok (.aload_n 0, 1) := by decide +kernel
theorem dX1_unlikeOn_15 : decode cX1_unlikeOn 15 = .ok (.getfield 21, 3) := by decide +kernel
theorem dX1_unlikeOn_18 : decode cX1_unlikeOn 18 = .ok (.iload 4, 2) := by decide +kernel
theorem dX1_unlikeOn_20 : decode cX1_unlikeOn 20 = .ok (.baload, 1) := by decide +kernel
theorem dX1_unlikeOn_21 : decode cX1_unlikeOn 21 = .ok (.ifCond .eq 56, 3) := by decide +kernel
theorem dX1_unlikeOn_24 : decode cX1_unlikeOn 24 = .ok (.aload_n 0, 1) := by decide +kernel
theorem dX1_unlikeOn_25 : decode cX1_unlikeOn 25 = .ok (.getfield 15, 3) := by decide +kernel
theorem dX1_unlikeOn_28 : decode cX1_unlikeOn 28 = .ok (.iload 4, 2) := by decide +kernel
theorem dX1_unlikeOn_30 : decode cX1_unlikeOn 30 = .ok (.bipush 31, 2) := by decide +kernel
theorem dX1_unlikeOn_32 : decode cX1_unlikeOn 32 = .ok (.imul, 1) := by decide +kernel
theorem dX1_unlikeOn_33 : decode cX1_unlikeOn 33 = .ok (.iload_n 1, 1) := by decide +kernel
theorem dX1_unlikeOn_34 : decode cX1_unlikeOn 34 = .ok (.iadd, 1) := by decide +kernel
theorem dX1_unlikeOn_35 : decode cX1_unlikeOn 35 = .ok (.iaload, 1) := by decide +kernel
theorem dX1_unlikeOn_36 : decode cX1_unlikeOn 36 = .ok (.aload_n 0, 1) := by decide +kernel
theorem dX1_unlikeOn_37 : decode cX1_unlikeOn 37 = .ok (.getfield 11, 3) := by decide +kernel
theorem dX1_unlikeOn_40 : decode cX1_unlikeOn 40 = .ok (.aload_n 0, 1) := by decide +kernel
theorem dX1_unlikeOn_41 : decode cX1_unlikeOn 41 = .ok (.getfield 18, 3) := by decide +kernel
theorem dX1_unlikeOn_44 : decode cX1_unlikeOn 44 = .ok (.iload 4, 2) := by decide +kernel
theorem dX1_unlikeOn_46 : decode cX1_unlikeOn 46 = .ok (.bipush 10, 2) := by decide +kernel
theorem dX1_unlikeOn_48 : decode cX1_unlikeOn 48 = .ok (.idiv, 1) := by decide +kernel
theorem dX1_unlikeOn_49 : decode cX1_unlikeOn 49 = .ok (.iaload, 1) := by decide +kernel
theorem dX1_unlikeOn_50 : decode cX1_unlikeOn 50 = .ok (.bipush 31, 2) := by decide +kernel
theorem dX1_unlikeOn_52 : decode cX1_unlikeOn 52 = .ok (.imul, 1) := by decide +kernel
theorem dX1_unlikeOn_53 : decode cX1_unlikeOn 53 = .ok (.iload_n 1, 1) := by decide +kernel
theorem dX1_unlikeOn_54 : decode cX1_unlikeOn 54 = .ok (.iadd, 1) := by decide +kernel
theorem dX1_unlikeOn_55 : decode cX1_unlikeOn 55 = .ok (.iaload, 1) := by decide +kernel
theorem dX1_unlikeOn_56 : decode cX1_unlikeOn 56 = .ok (.if_icmp .ne 8, 3) := by decide +kernel
theorem dX1_unlikeOn_59 : decode cX1_unlikeOn 59 = .ok (.iconst 1, 1) := by decide +kernel
theorem dX1_unlikeOn_60 : decode cX1_unlikeOn 60 = .ok (.istore_n 2, 1) := by decide +kernel
theorem dX1_unlikeOn_61 : decode cX1_unlikeOn 61 = .ok (.goto 16, 3) := by decide +kernel
theorem dX1_unlikeOn_64 : decode cX1_unlikeOn 64 = .ok (.aload_n 0, 1) := by decide +kernel
theorem dX1_unlikeOn_65 : decode cX1_unlikeOn 65 = .ok (.iload 4, 2) := by decide +kernel
theorem dX1_unlikeOn_67 : decode cX1_unlikeOn 67 = .ok (.iload_n 1, 1) := by decide +kernel
theorem dX1_unlikeOn_68 : decode cX1_unlikeOn 68 = .ok (.invokevirtual 88, 3) := by decide +kernel
theorem dX1_unlikeOn_71 : decode cX1_unlikeOn 71 = .ok (.ifCond .eq 6, 3) := by decide +kernel
theorem dX1_unlikeOn_74 : decode cX1_unlikeOn 74 = .ok (.iinc 3 1, 3) := by decide +kernel
theorem dX1_unlikeOn_77 : decode cX1_unlikeOn 77 = .ok (.iinc 4 1, 3) := by decide +kernel
theorem dX1_unlikeOn_80 : decode cX1_unlikeOn 80 = .ok (.goto (-73), 3) := by decide +kernel
theorem dX1_unlikeOn_83 : decode cX1_unlikeOn 83 = .ok (.iload_n 2, 1) := by decide +kernel
theorem dX1_unlikeOn_84 : decode cX1_unlikeOn 84 = .ok (.iload_n 3, 1) := by decide +kernel
theorem dX1_unlikeOn_85 : decode cX1_unlikeOn 85 = .ok (.iadd, 1) := by decide +kernel
theorem dX1_unlikeOn_86 : decode cX1_unlikeOn 86 = .ok (.ireturn, 1) := by decide +kernel
theorem dX1_isFirstOfItsLike_0 : decode cX1_isFirstOfItsLike 0 = .ok (.iconst 0, 1) := by decide +kernel
theorem dX1_isFirstOfItsLike_1 : decode cX1_isFirstOfItsLike 1 = .ok (.istore_n 3, 1) := by decide +kernel
theorem dX1_isFirstOfItsLike_2 : decode cX1_isFirstOfItsLike 2 = .ok (.iload_n 3, 1) := by decide +kernel
theorem dX1_isFirstOfItsLike_3 : decode cX1_isFirstOfItsLike 3 = .ok (.iload_n 1, 1) := by decide +kernel
theorem dX1_isFirstOfItsLike_4 : decode cX1_isFirstOfItsLike 4 = .ok (.if_icmp .ge 66, 3) := by decide +kernel
theorem dX1_isFirstOfItsLike_7 : decode cX1_isFirstOfItsLike 7 = .ok (.aload_n 0, 1) := by decide +kernel
theorem dX1_isFirstOfItsLike_8 : decode cX1_isFirstOfItsLike 8 = .ok (.getfield 21, 3) := by decide +kernel
theorem dX1_isFirstOfItsLike_11 : decode cX1_isFirstOfItsLike 11 = .ok (.iload_n 3, 1) := by decide +kernel
theorem dX1_isFirstOfItsLike_12 : decode cX1_isFirstOfItsLike 12 = .ok (.baload, 1) := by decide +kernel
theorem dX1_isFirstOfItsLike_13 : decode cX1_isFirstOfItsLike 13 = .ok (.ifCond .eq 51, 3) := by decide +kernel
theorem dX1_isFirstOfItsLike_16 : decode cX1_isFirstOfItsLike 16 = .ok (.aload_n 0, 1) := by decide +kernel
theorem dX1_isFirstOfItsLike_17 : decode cX1_isFirstOfItsLike 17 = .ok (.getfield 18, 3) := by decide +kernel
theorem dX1_isFirstOfItsLike_20 : decode cX1_isFirstOfItsLike 20 = .ok (.iload_n 3, 1) := by decide +kernel
theorem dX1_isFirstOfItsLike_21 : decode cX1_isFirstOfItsLike 21 = .ok (.bipush 10, 2) := by decide +kernel
theorem dX1_isFirstOfItsLike_23 : decode cX1_isFirstOfItsLike 23 = .ok (.idiv, 1) := by decide +kernel
theorem dX1_isFirstOfItsLike_24 : decode cX1_isFirstOfItsLike 24 = .ok (.iaload, 1) := by decide +kernel
theorem dX1_isFirstOfItsLike_25 : decode cX1_isFirstOfItsLike 25 = .ok (.aload_n 0, 1) := by decide +kernel
theorem dX1_isFirstOfItsLike_26 : decode cX1_isFirstOfItsLike 26 = .ok (.getfield 18, 3) := by decide +kernel
theorem dX1_isFirstOfItsLike_29 : decode cX1_isFirstOfItsLike 29 = .ok (.iload_n 1, 1) := by decide +kernel
theorem dX1_isFirstOfItsLike_30 : decode cX1_isFirstOfItsLike 30 = .ok (.bipush 10, 2) := by decide +kernel
theorem dX1_isFirstOfItsLike_32 : decode cX1_isFirstOfItsLike 32 = .ok (.idiv, 1) := by decide +kernel
theorem dX1_isFirstOfItsLike_33 : decode cX1_isFirstOfItsLike 33 = .ok (.iaload, 1) := by decide +kernel
theorem dX1_isFirstOfItsLike_34 : decode cX1_isFirstOfItsLike 34 = .ok (.if_icmp .ne 30, 3) := by decide +kernel
theorem dX1_isFirstOfItsLike_37 : decode cX1_isFirstOfItsLike 37 = .ok (.aload_n 0, 1) := by decide +kernel
theorem dX1_isFirstOfItsLike_38 : decode cX1_isFirstOfItsLike 38 = .ok (.getfield 15, 3) := by decide +kernel
theorem dX1_isFirstOfItsLike_41 : decode cX1_isFirstOfItsLike 41 = .ok (.iload_n 3, 1) := by decide +kernel
theorem dX1_isFirstOfItsLike_42 : decode cX1_isFirstOfItsLike 42 = .ok (.bipush 31, 2) := by decide +kernel
theorem dX1_isFirstOfItsLike_44 : decode cX1_isFirstOfItsLike 44 = .ok (.imul, 1) := by decide +kernel
theorem dX1_isFirstOfItsLike_45 : decode cX1_isFirstOfItsLike 45 = .ok (.iload_n 2, 1) := by decide +kernel
theorem dX1_isFirstOfItsLike_46 : decode cX1_isFirstOfItsLike 46 = .ok (.iadd, 1) := by decide +kernel
theorem dX1_isFirstOfItsLike_47 : decode cX1_isFirstOfItsLike 47 = .ok (.iaload, 1) := by decide +kernel
theorem dX1_isFirstOfItsLike_48 : decode cX1_isFirstOfItsLike 48 = .ok (.aload_n 0, 1) := by decide +kernel
theorem dX1_isFirstOfItsLike_49 : decode cX1_isFirstOfItsLike 49 = .ok (.getfield 15, 3) := by decide +kernel
theorem dX1_isFirstOfItsLike_52 : decode cX1_isFirstOfItsLike 52 = .ok (.iload_n 1, 1) := by decide +kernel
theorem dX1_isFirstOfItsLike_53 : decode cX1_isFirstOfItsLike 53 = .ok (.bipush 31, 2) := by decide +kernel
theorem dX1_isFirstOfItsLike_55 : decode cX1_isFirstOfItsLike 55 = .ok (.imul, 1) := by decide +kernel
theorem dX1_isFirstOfItsLike_56 : decode cX1_isFirstOfItsLike 56 = .ok (.iload_n 2, 1) := by decide +kernel
theorem dX1_isFirstOfItsLike_57 : decode cX1_isFirstOfItsLike 57 = .ok (.iadd, 1) := by decide +kernel
theorem dX1_isFirstOfItsLike_58 : decode cX1_isFirstOfItsLike 58 = .ok (.iaload, 1) := by decide +kernel
theorem dX1_isFirstOfItsLike_59 : decode cX1_isFirstOfItsLike 59 = .ok (.if_icmp .ne 5, 3) := by decide +kernel
theorem dX1_isFirstOfItsLike_62 : decode cX1_isFirstOfItsLike 62 = .ok (.iconst 0, 1) := by decide +kernel
theorem dX1_isFirstOfItsLike_63 : decode cX1_isFirstOfItsLike 63 = .ok (.ireturn, 1) := by decide +kernel
theorem dX1_isFirstOfItsLike_64 : decode cX1_isFirstOfItsLike 64 = .ok (.iinc 3 1, 3) := by decide +kernel
theorem dX1_isFirstOfItsLike_67 : decode cX1_isFirstOfItsLike 67 = .ok (.goto (-65), 3) := by decide +kernel
theorem dX1_isFirstOfItsLike_70 : decode cX1_isFirstOfItsLike 70 = .ok (.iconst 1, 1) := by decide +kernel
theorem dX1_isFirstOfItsLike_71 : decode cX1_isFirstOfItsLike 71 = .ok (.ireturn, 1) := by decide +kernel
theorem dX2_init_0 : decode cX2_init 0 = .ok (.aload_n 0, 1) := by decide +kernel
theorem dX2_init_1 : decode cX2_init 1 = .ok (.invokespecial 1, 3) := by decide +kernel
theorem dX2_init_4 : decode cX2_init 4 = .ok (.aload_n 0, 1) := by decide +kernel
theorem dX2_init_5 : decode cX2_init 5 = .ok (.iconst 0, 1) := by decide +kernel
theorem dX2_init_6 : decode cX2_init 6 = .ok (.putfield 7, 3) := by decide +kernel
theorem dX2_init_9 : decode cX2_init 9 = .ok (.return_, 1) := by decide +kernel
theorem dX2_draw_0 : decode cX2_draw 0 = .ok (.aload_n 0, 1) := by decide +kernel
theorem dX2_draw_1 : decode cX2_draw 1 = .ok (.aload_n 0, 1) := by decide +kernel
theorem dX2_draw_2 : decode cX2_draw 2 = .ok (.getfield 7, 3) := by decide +kernel
theorem dX2_draw_5 : decode cX2_draw 5 = .ok (.ldc 13, 2) := by decide +kernel
theorem dX2_draw_7 : decode cX2_draw 7 = .ok (.imul, 1) := by decide +kernel
theorem dX2_draw_8 : decode cX2_draw 8 = .ok (.sipush 12345, 3) := by decide +kernel
theorem dX2_draw_11 : decode cX2_draw 11 = .ok (.iadd, 1) := by decide +kernel
theorem dX2_draw_12 : decode cX2_draw 12 = .ok (.putfield 7, 3) := by decide +kernel
theorem dX2_draw_15 : decode cX2_draw 15 = .ok (.iload_n 1, 1) := by decide +kernel
theorem dX2_draw_16 : decode cX2_draw 16 = .ok (.ifCond .gt 7, 3) := by decide +kernel
theorem dX2_draw_19 : decode cX2_draw 19 = .ok (.iconst 0, 1) := by decide +kernel
theorem dX2_draw_20 : decode cX2_draw 20 = .ok (.goto 16, 3) := by decide +kernel
theorem dX2_draw_23 : decode cX2_draw 23 = .ok (.aload_n 0, 1) := by decide +kernel
theorem dX2_draw_24 : decode cX2_draw 24 = .ok (.getfield 7, 3) := by decide +kernel
theorem dX2_draw_27 : decode cX2_draw 27 = .ok (.bipush 16, 2) := by decide +kernel
theorem dX2_draw_29 : decode cX2_draw 29 = .ok (.iushr, 1) := by decide +kernel
theorem dX2_draw_30 : decode cX2_draw 30 = .ok (.sipush 32767, 3) := by decide +kernel
theorem dX2_draw_33 : decode cX2_draw 33 = .ok (.iand, 1) := by decide +kernel
theorem dX2_draw_34 : decode cX2_draw 34 = .ok (.iload_n 1, 1) := by decide +kernel
theorem dX2_draw_35 : decode cX2_draw 35 = .ok (.irem, 1) := by decide +kernel
theorem dX2_draw_36 : decode cX2_draw 36 = .ok (.ireturn, 1) := by decide +kernel
theorem dX3_init_0 : decode cX3_init 0 = .ok (.aload_n 0, 1) := by decide +kernel
theorem dX3_init_1 : decode cX3_init 1 = .ok (.invokespecial 3, 3) := by decide +kernel
theorem dX3_init_4 : decode cX3_init 4 = .ok (.aload_n 0, 1) := by decide +kernel
theorem dX3_init_5 : decode cX3_init 5 = .ok (.iconst 0, 1) := by decide +kernel
theorem dX3_init_6 : decode cX3_init 6 = .ok (.putfield 9, 3) := by decide +kernel
theorem dX3_init_9 : decode cX3_init 9 = .ok (.aload_n 0, 1) := by decide +kernel
theorem dX3_init_10 : decode cX3_init 10 = .ok (.iconst 0, 1) := by decide +kernel
theorem dX3_init_11 : decode cX3_init 11 = .ok (.putfield 15, 3) := by decide +kernel
theorem dX3_init_14 : decode cX3_init 14 = .ok (.aload_n 0, 1) := by decide +kernel
theorem dX3_init_15 : decode cX3_init 15 = .ok (.bipush 8, 2) := by decide +kernel
theorem dX3_init_17 : decode cX3_init 17 = .ok (.newarray .int, 2) := by decide +kernel
theorem dX3_init_19 : decode cX3_init 19 = .ok (.putfield 18, 3) := by decide +kernel
theorem dX3_init_22 : decode cX3_init 22 = .ok (.aload_n 0, 1) := by decide +kernel
theorem dX3_init_23 : decode cX3_init 23 = .ok (.bipush 8, 2) := by decide +kernel
theorem dX3_init_25 : decode cX3_init 25 = .ok (.newarray .int, 2) := by decide +kernel
theorem dX3_init_27 : decode cX3_init 27 = .ok (.putfield 22, 3) := by decide +kernel
theorem dX3_init_30 : decode cX3_init 30 = .ok (.aload_n 0, 1) := by decide +kernel
theorem dX3_init_31 : decode cX3_init 31 = .ok (.new 25, 3) := by decide +kernel
theorem dX3_init_34 : decode cX3_init 34 = .ok (.dup, 1) := by decide +kernel
theorem dX3_init_35 : decode cX3_init 35 = .ok (.invokespecial 27, 3) := by decide +kernel
theorem dX3_init_38 : decode cX3_init 38 = .ok (.putfield 28, 3) := by decide +kernel
theorem dX3_init_41 : decode cX3_init 41 = .ok (.aload_n 0, 1) := by decide +kernel
theorem dX3_init_42 : decode cX3_init 42 = .ok (.new 32, 3) := by decide +kernel
theorem dX3_init_45 : decode cX3_init 45 = .ok (.dup, 1) := by decide +kernel
theorem dX3_init_46 : decode cX3_init 46 = .ok (.invokespecial 34, 3) := by decide +kernel
theorem dX3_init_49 : decode cX3_init 49 = .ok (.putfield 35, 3) := by decide +kernel
theorem dX3_init_52 : decode cX3_init 52 = .ok (.aload_n 0, 1) := by decide +kernel
theorem dX3_init_53 : decode cX3_init 53 = .ok (.new 39, 3) := by decide +kernel
theorem dX3_init_56 : decode cX3_init 56 = .ok (.dup, 1) := by decide +kernel
theorem dX3_init_57 : decode cX3_init 57 = .ok (.invokespecial 41, 3) := by decide +kernel
theorem dX3_init_60 : decode cX3_init 60 = .ok (.putfield 42, 3) := by decide +kernel
theorem dX3_init_63 : decode cX3_init 63 = .ok (.return_, 1) := by decide +kernel
theorem dX3_clear_0 : decode cX3_clear 0 = .ok (.aload_n 0, 1) := by decide +kernel
theorem dX3_clear_1 : decode cX3_clear 1 = .ok (.iconst 0, 1) := by decide +kernel
theorem dX3_clear_2 : decode cX3_clear 2 = .ok (.putfield 9, 3) := by decide +kernel
theorem dX3_clear_5 : decode cX3_clear 5 = .ok (.aload_n 0, 1) := by decide +kernel
theorem dX3_clear_6 : decode cX3_clear 6 = .ok (.iconst 0, 1) := by decide +kernel
theorem dX3_clear_7 : decode cX3_clear 7 = .ok (.putfield 15, 3) := by decide +kernel
theorem dX3_clear_10 : decode cX3_clear 10 = .ok (.aload_n 0, 1) := by decide +kernel
theorem dX3_clear_11 : decode cX3_clear 11 = .ok (.getfield 28, 3) := by decide +kernel
theorem dX3_clear_14 : decode cX3_clear 14 = .ok (.invokevirtual 46, 3) := by decide +kernel
theorem dX3_clear_17 : decode cX3_clear 17 = .ok (.aload_n 0, 1) := by decide +kernel
theorem dX3_clear_18 : decode cX3_clear 18 = .ok (.getfield 35, 3) := by decide +kernel
theorem dX3_clear_21 : decode cX3_clear 21 = .ok (.invokevirtual 49, 3) := by decide +kernel
theorem dX3_clear_24 : decode cX3_clear 24 = .ok (.aload_n 0, 1) := by decide +kernel
theorem dX3_clear_25 : decode cX3_clear 25 = .ok (.getfield 42, 3) := by decide +kernel
theorem dX3_clear_28 : decode cX3_clear 28 = .ok (.invokevirtual 50, 3) := by decide +kernel
theorem dX3_clear_31 : decode cX3_clear 31 = .ok (.return_, 1) := by decide +kernel
theorem dX3_addTown_0 : decode cX3_addTown 0 = .ok (.aload_n 0, 1) := by decide +kernel
theorem dX3_addTown_1 : decode cX3_addTown 1 = .ok (.getfield 9, 3) := by decide +kernel
theorem dX3_addTown_4 : decode cX3_addTown 4 = .ok (.bipush 8, 2) := by decide +kernel
theorem dX3_addTown_6 : decode cX3_addTown 6 = .ok (.if_icmp .ge 65, 3) := by decide +kernel
theorem dX3_addTown_9 : decode cX3_addTown 9 = .ok (.aload_n 0, 1) := by decide +kernel
theorem dX3_addTown_10 : decode cX3_addTown 10 = .ok (.getfield 42, 3) := by decide +kernel
theorem dX3_addTown_13 : decode cX3_addTown 13 = .ok (.getfield 51, 3) := by decide +kernel
theorem dX3_addTown_16 : decode cX3_addTown 16 = .ok (.iconst 1, 1) := by decide +kernel
theorem dX3_addTown_17 : decode cX3_addTown 17 = .ok (.aload_n 0, 1) := by decide +kernel
theorem dX3_addTown_18 : decode cX3_addTown 18 = .ok (.getfield 9, 3) := by decide +kernel
theorem dX3_addTown_21 : decode cX3_addTown 21 = .ok (.iadd, 1) := by decide +kernel
theorem dX3_addTown_22 : decode cX3_addTown 22 = .ok (.iload_n 1, 1) := by decide +kernel
theorem dX3_addTown_23 : decode cX3_addTown 23 = .ok (.iastore, 1) := by decide +kernel
theorem dX3_addTown_24 : decode cX3_addTown 24 = .ok (.aload_n 0, 1) := by decide +kernel
theorem dX3_addTown_25 : decode cX3_addTown 25 = .ok (.getfield 42, 3) := by decide +kernel
theorem dX3_addTown_28 : decode cX3_addTown 28 = .ok (.getfield 51, 3) := by decide +kernel
theorem dX3_addTown_31 : decode cX3_addTown 31 = .ok (.bipush 9, 2) := by decide +kernel
theorem dX3_addTown_33 : decode cX3_addTown 33 = .ok (.aload_n 0, 1) := by decide +kernel
theorem dX3_addTown_34 : decode cX3_addTown 34 = .ok (.getfield 9, 3) := by decide +kernel
theorem dX3_addTown_37 : decode cX3_addTown 37 = .ok (.iadd, 1) := by decide +kernel
theorem dX3_addTown_38 : decode cX3_addTown 38 = .ok (.iload_n 2, 1) := by decide +kernel
theorem dX3_addTown_39 : decode cX3_addTown 39 = .ok (.iastore, 1) := by decide +kernel
theorem dX3_addTown_40 : decode cX3_addTown 40 = .ok (.aload_n 0, 1) := by decide +kernel
theorem dX3_addTown_41 : decode cX3_addTown 41 = .ok (.getfield 18, 3) := by decide +kernel
theorem dX3_addTown_44 : decode cX3_addTown 44 = .ok (.aload_n 0, 1) := by decide +kernel
theorem dX3_addTown_45 : decode cX3_addTown 45 = .ok (.getfield 9, 3) := by decide +kernel
theorem dX3_addTown_48 : decode cX3_addTown 48 = .ok (.iload_n 3, 1) := by decide +kernel
theorem dX3_addTown_49 : decode cX3_addTown 49 = .ok (.iastore, 1) := by decide +kernel
theorem dX3_addTown_50 : decode cX3_addTown 50 = .ok (.aload_n 0, 1) := by decide +kernel
theorem dX3_addTown_51 : decode cX3_addTown 51 = .ok (.getfield 22, 3) := by decide +kernel
theorem dX3_addTown_54 : decode cX3_addTown 54 = .ok (.aload_n 0, 1) := by decide +kernel
theorem dX3_addTown_55 : decode cX3_addTown 55 = .ok (.getfield 9, 3) := by decide +kernel
theorem dX3_addTown_58 : decode cX3_addTown 58 = .ok (.iload 4, 2) := by decide +kernel
theorem dX3_addTown_60 : decode cX3_addTown 60 = .ok (.iastore, 1) := by decide +kernel
theorem dX3_addTown_61 : decode cX3_addTown 61 = .ok (.aload_n 0, 1) := by decide +kernel
theorem dX3_addTown_62 : decode cX3_addTown 62 = .ok (.dup, 1) := by decide +kernel
theorem dX3_addTown_63 : decode cX3_addTown 63 = .ok (.getfield 9, 3) := by decide +kernel
theorem dX3_addTown_66 : decode cX3_addTown 66 = .ok (.iconst 1, 1) := by decide +kernel
theorem dX3_addTown_67 : decode cX3_addTown 67 = .ok (.iadd, 1) := by decide +kernel
theorem dX3_addTown_68 : decode cX3_addTown 68 = .ok (.putfield 9, 3) := by decide +kernel
theorem dX3_addTown_71 : decode cX3_addTown 71 = .ok (.return_, 1) := by decide +kernel
theorem dX3_addCrate_0 : decode cX3_addCrate 0 = .ok (.aload_n 0, 1) := by decide +kernel
theorem dX3_addCrate_1 : decode cX3_addCrate 1 = .ok (.getfield 15, 3) := by decide +kernel
theorem dX3_addCrate_4 : decode cX3_addCrate 4 = .ok (.bipush 10, 2) := by decide +kernel
theorem dX3_addCrate_6 : decode cX3_addCrate 6 = .ok (.if_icmp .ge 94, 3) := by decide +kernel
theorem dX3_addCrate_9 : decode cX3_addCrate 9 = .ok (.aload_n 0, 1) := by decide +kernel
theorem dX3_addCrate_10 : decode cX3_addCrate 10 = .ok (.getfield 42, 3) := by decide +kernel
theorem dX3_addCrate_13 : decode cX3_addCrate 13 = .ok (.getfield 51, 3) := by decide +kernel
theorem dX3_addCrate_16 : decode cX3_addCrate 16 = .ok (.bipush 25, 2) := by decide +kernel
theorem dX3_addCrate_18 : decode cX3_addCrate 18 = .ok (.aload_n 0, 1) := by decide +kernel
theorem dX3_addCrate_19 : decode cX3_addCrate 19 = .ok (.getfield 15, 3) := by decide +kernel
theorem dX3_addCrate_22 : decode cX3_addCrate 22 = .ok (.iadd, 1) := by decide +kernel
theorem dX3_addCrate_23 : decode cX3_addCrate 23 = .ok (.iload_n 1, 1) := by decide +kernel
theorem dX3_addCrate_24 : decode cX3_addCrate 24 = .ok (.iastore, 1) := by decide +kernel
theorem dX3_addCrate_25 : decode cX3_addCrate 25 = .ok (.aload_n 0, 1) := by decide +kernel
theorem dX3_addCrate_26 : decode cX3_addCrate 26 = .ok (.getfield 42, 3) := by decide +kernel
theorem dX3_addCrate_29 : decode cX3_addCrate 29 = .ok (.getfield 51, 3) := by decide +kernel
theorem dX3_addCrate_32 : decode cX3_addCrate 32 = .ok (.bipush 35, 2) := by decide +kernel
theorem dX3_addCrate_34 : decode cX3_addCrate 34 = .ok (.aload_n 0, 1) := by decide +kernel
theorem dX3_addCrate_35 : decode cX3_addCrate 35 = .ok (.getfield 15, 3) := by decide +kernel
theorem dX3_addCrate_38 : decode cX3_addCrate 38 = .ok (.iadd, 1) := by decide +kernel
theorem dX3_addCrate_39 : decode cX3_addCrate 39 = .ok (.iload_n 2, 1) := by decide +kernel
theorem dX3_addCrate_40 : decode cX3_addCrate 40 = .ok (.ifCond .eq 7, 3) := by decide +kernel
theorem dX3_addCrate_43 : decode cX3_addCrate 43 = .ok (.iconst 1, 1) := by decide +kernel
theorem dX3_addCrate_44 : decode cX3_addCrate 44 = .ok (.goto 4, 3) := by decide +kernel
theorem dX3_addCrate_47 : decode cX3_addCrate 47 = .ok (.iconst 0, 1) := by decide +kernel
theorem dX3_addCrate_48 : decode cX3_addCrate 48 = .ok (.iastore, 1) := by decide +kernel
theorem dX3_addCrate_49 : decode cX3_addCrate 49 = .ok (.aload_n 0, 1) := by decide +kernel
theorem dX3_addCrate_50 : decode cX3_addCrate 50 = .ok (.getfield 42, 3) := by decide +kernel
theorem dX3_addCrate_53 : decode cX3_addCrate 53 = .ok (.getfield 51, 3) := by decide +kernel
theorem dX3_addCrate_56 : decode cX3_addCrate 56 = .ok (.bipush 55, 2) := by decide +kernel
theorem dX3_addCrate_58 : decode cX3_addCrate 58 = .ok (.aload_n 0, 1) := by decide +kernel
theorem dX3_addCrate_59 : decode cX3_addCrate 59 = .ok (.getfield 15, 3) := by decide +kernel
theorem dX3_addCrate_62 : decode cX3_addCrate 62 = .ok (.iadd, 1) := by decide +kernel
theorem dX3_addCrate_63 : decode cX3_addCrate 63 = .ok (.iload_n 3, 1) := by decide +kernel
theorem dX3_addCrate_64 : decode cX3_addCrate 64 = .ok (.iastore, 1) := by decide +kernel
theorem dX3_addCrate_65 : decode cX3_addCrate 65 = .ok (.aload_n 0, 1) := by decide +kernel
theorem dX3_addCrate_66 : decode cX3_addCrate 66 = .ok (.getfield 42, 3) := by decide +kernel
theorem dX3_addCrate_69 : decode cX3_addCrate 69 = .ok (.getfield 51, 3) := by decide +kernel
theorem dX3_addCrate_72 : decode cX3_addCrate 72 = .ok (.bipush 45, 2) := by decide +kernel
theorem dX3_addCrate_74 : decode cX3_addCrate 74 = .ok (.aload_n 0, 1) := by decide +kernel
theorem dX3_addCrate_75 : decode cX3_addCrate 75 = .ok (.getfield 15, 3) := by decide +kernel
theorem dX3_addCrate_78 : decode cX3_addCrate 78 = .ok (.iadd, 1) := by decide +kernel
theorem dX3_addCrate_79 : decode cX3_addCrate 79 = .ok (.iload 4, 2) := by decide +kernel
theorem dX3_addCrate_81 : decode cX3_addCrate 81 = .ok (.ifCond .eq 7, 3) := by decide +kernel
theorem dX3_addCrate_84 : decode cX3_addCrate 84 = .ok (.iconst 1, 1) := by decide +kernel
theorem dX3_addCrate_85 : decode cX3_addCrate 85 = .ok (.goto 4, 3) := by decide +kernel
theorem dX3_addCrate_88 : decode cX3_addCrate 88 = .ok (.iconst 0, 1) := by decide +kernel
theorem dX3_addCrate_89 : decode cX3_addCrate 89 = .ok (.iastore, 1) := by decide +kernel
theorem dX3_addCrate_90 : decode cX3_addCrate 90 = .ok (.aload_n 0, 1) := by decide +kernel
theorem dX3_addCrate_91 : decode cX3_addCrate 91 = .ok (.dup, 1) := by decide +kernel
theorem dX3_addCrate_92 : decode cX3_addCrate 92 = .ok (.getfield 15, 3) := by decide +kernel
theorem dX3_addCrate_95 : decode cX3_addCrate 95 = .ok (.iconst 1, 1) := by decide +kernel
theorem dX3_addCrate_96 : decode cX3_addCrate 96 = .ok (.iadd, 1) := by decide +kernel
theorem dX3_addCrate_97 : decode cX3_addCrate 97 = .ok (.putfield 15, 3) := by decide +kernel
theorem dX3_addCrate_100 : decode cX3_addCrate 100 = .ok (.return_, 1) := by decide +kernel
theorem dX4_toSend_0 : decode cX4_toSend 0 = .ok (.iconst (-1), 1) := by decide +kernel
theorem dX4_toSend_1 : decode cX4_toSend 1 = .ok (.istore 4, 2) := by decide +kernel
theorem dX4_toSend_3 : decode cX4_toSend 3 = .ok (.bipush 11, 2) := by decide +kernel
theorem dX4_toSend_5 : decode cX4_toSend 5 = .ok (.istore 5, 2) := by decide +kernel
theorem dX4_toSend_7 : decode cX4_toSend 7 = .ok (.aload_n 1, 1) := by decide +kernel
theorem dX4_toSend_8 : decode cX4_toSend 8 = .ok (.aload_n 1, 1) := by decide +kernel
theorem dX4_toSend_9 : decode cX4_toSend 9 = .ok (.aload_n 0, 1) := by decide +kernel
theorem dX4_toSend_10 : decode cX4_toSend 10 = .ok (.getfield 9, 3) := by decide +kernel
theorem dX4_toSend_13 : decode cX4_toSend 13 = .ok (.invokevirtual 15, 3) := by decide +kernel
theorem dX4_toSend_16 : decode cX4_toSend 16 = .ok (.invokestatic 21, 3) := by decide +kernel
theorem dX4_toSend_19 : decode cX4_toSend 19 = .ok (.istore 6, 2) := by decide +kernel
theorem dX4_toSend_21 : decode cX4_toSend 21 = .ok (.iconst 0, 1) := by decide +kernel
theorem dX4_toSend_22 : decode cX4_toSend 22 = .ok (.istore 7, 2) := by decide +kernel
theorem dX4_toSend_24 : decode cX4_toSend 24 = .ok (.iload 7, 2) := by decide +kernel
theorem dX4_toSend_26 : decode cX4_toSend 26 = .ok (.iconst 1, 1) := by decide +kernel
theorem dX4_toSend_27 : decode cX4_toSend 27 = .ok (.aload_n 0, 1) := by decide +kernel
theorem dX4_toSend_28 : decode cX4_toSend 28 = .ok (.getfield 9, 3) := by decide +kernel
theorem dX4_toSend_31 : decode cX4_toSend 31 = .ok (.ishl, 1) := by decide +kernel
theorem dX4_toSend_32 : decode cX4_toSend 32 = .ok (.if_icmp .ge 53, 3) := by decide +kernel
theorem dX4_toSend_35 : decode cX4_toSend 35 = .ok (.iload 7, 2) := by decide +kernel
theorem dX4_toSend_37 : decode cX4_toSend 37 = .ok (.invokestatic 27, 3) := by decide +kernel
theorem dX4_toSend_40 : decode cX4_toSend 40 = .ok (.istore 8, 2) := by decide +kernel
theorem dX4_toSend_42 : decode cX4_toSend 42 = .ok (.iload 7, 2) := by decide +kernel
theorem dX4_toSend_44 : decode cX4_toSend 44 = .ok (.iload 6, 2) := by decide +kernel
theorem dX4_toSend_46 : decode cX4_toSend 46 = .ok (.iconst (-1), 1) := by decide +kernel
theorem dX4_toSend_47 : decode cX4_toSend 47 = .ok (.ixor, 1) := by decide +kernel
theorem dX4_toSend_48 : decode cX4_toSend 48 = .ok (.iand, 1) := by decide +kernel
theorem dX4_toSend_49 : decode cX4_toSend 49 = .ok (.ifCond .ne 30, 3) := by decide +kernel
theorem dX4_toSend_52 : decode cX4_toSend 52 = .ok (.iload 8, 2) := by decide +kernel
theorem dX4_toSend_54 : decode cX4_toSend 54 = .ok (.iload 5, 2) := by decide +kernel
theorem dX4_toSend_56 : decode cX4_toSend 56 = .ok (.if_icmp .ge 23, 3) := by decide +kernel
theorem dX4_toSend_59 : decode cX4_toSend 59 = .ok (.aload_n 0, 1) := by decide +kernel
theorem dX4_toSend_60 : decode cX4_toSend 60 = .ok (.aload_n 1, 1) := by decide +kernel
theorem dX4_toSend_61 : decode cX4_toSend 61 = .ok (.iload_n 2, 1) := by decide +kernel
theorem dX4_toSend_62 : decode cX4_toSend 62 = .ok (.iload 7, 2) := by decide +kernel
theorem dX4_toSend_64 : decode cX4_toSend 64 = .ok (.invokestatic 32, 3) := by decide +kernel
theorem dX4_toSend_67 : decode cX4_toSend 67 = .ok (.iload_n 3, 1) := by decide +kernel
theorem dX4_toSend_68 : decode cX4_toSend 68 = .ok (.if_icmp .lt 11, 3) := by decide +kernel
theorem dX4_toSend_71 : decode cX4_toSend 71 = .ok (.iload 7, 2) := by decide +kernel
theorem dX4_toSend_73 : decode cX4_toSend 73 = .ok (.istore 4, 2) := by decide +kernel
theorem dX4_toSend_75 : decode cX4_toSend 75 = .ok (.iload 8, 2) := by decide +kernel
theorem dX4_toSend_77 : decode cX4_toSend 77 = .ok (.istore 5, 2) := by decide +kernel
theorem dX4_toSend_79 : decode cX4_toSend 79 = .ok (.iinc 7 1, 3) := by decide +kernel
theorem dX4_toSend_82 : decode cX4_toSend 82 = .ok (.goto (-58), 3) := by decide +kernel
theorem dX4_toSend_85 : decode cX4_toSend 85 = .ok (.iload 4, 2) := by decide +kernel
theorem dX4_toSend_87 : decode cX4_toSend 87 = .ok (.ireturn, 1) := by decide +kernel
theorem dX4_grainsAt_0 : decode cX4_grainsAt 0 = .ok (.iconst 0, 1) := by decide +kernel
theorem dX4_grainsAt_1 : decode cX4_grainsAt 1 = .ok (.istore 4, 2) := by decide +kernel
theorem dX4_grainsAt_3 : decode cX4_grainsAt 3 = .ok (.iconst 0, 1) := by decide +kernel
theorem dX4_grainsAt_4 : decode cX4_grainsAt 4 = .ok (.istore 5, 2) := by decide +kernel
theorem dX4_grainsAt_6 : decode cX4_grainsAt 6 = .ok (.iload 5, 2) := by decide +kernel
theorem dX4_grainsAt_8 : decode cX4_grainsAt 8 = .ok (.aload_n 0, 1) := by decide +kernel
theorem dX4_grainsAt_9 : decode cX4_grainsAt 9 = .ok (.getfield 9, 3) := by decide +kernel
theorem dX4_grainsAt_12 : decode cX4_grainsAt 12 = .ok (.if_icmp .ge 96, 3) := by decide +kernel
theorem dX4_grainsAt_15 : decode cX4_grainsAt 15 = .ok (.iload_n 3, 1) := by decide +kernel
theorem dX4_grainsAt_16 : decode cX4_grainsAt 16 = .ok (.iconst 1, 1) := by decide +kernel
theorem dX4_grainsAt_17 : decode cX4_grainsAt 17 = .ok (.iload 5, 2) := by decide +kernel
theorem dX4_grainsAt_19 : decode cX4_grainsAt 19 = .ok (.ishl, 1) := by decide +kernel
theorem dX4_grainsAt_20 : decode cX4_grainsAt 20 = .ok (.iand, 1) := by decide +kernel
theorem dX4_grainsAt_21 : decode cX4_grainsAt 21 = .ok (.ifCond .eq 81, 3) := by decide +kernel
theorem dX4_grainsAt_24 : decode cX4_grainsAt 24 = .ok (.aload_n 0, 1) := by decide +kernel
theorem dX4_grainsAt_25 : decode cX4_grainsAt 25 = .ok (.getfield 36, 3) := by decide +kernel
theorem dX4_grainsAt_28 : decode cX4_grainsAt 28 = .ok (.aload_n 1, 1) := by decide +kernel
theorem dX4_grainsAt_29 : decode cX4_grainsAt 29 = .ok (.getfield 40, 3) := by decide +kernel
theorem dX4_grainsAt_32 : decode cX4_grainsAt 32 = .ok (.bipush 55, 2) := by decide +kernel
theorem dX4_grainsAt_34 : decode cX4_grainsAt 34 = .ok (.iload 5, 2) := by decide +kernel
theorem dX4_grainsAt_36 : decode cX4_grainsAt 36 = .ok (.iadd, 1) := by decide +kernel
theorem dX4_grainsAt_37 : decode cX4_grainsAt 37 = .ok (.iaload, 1) := by decide +kernel
theorem dX4_grainsAt_38 : decode cX4_grainsAt 38 = .ok (.iload_n 2, 1) := by decide +kernel
theorem dX4_grainsAt_39 : decode cX4_grainsAt 39 = .ok (.invokevirtual 44, 3) := by decide +kernel
theorem dX4_grainsAt_42 : decode cX4_grainsAt 42 = .ok (.istore 6, 2) := by decide +kernel
theorem dX4_grainsAt_44 : decode cX4_grainsAt 44 = .ok (.iload 6, 2) := by decide +kernel
theorem dX4_grainsAt_46 : decode cX4_grainsAt 46 = .ok (.iconst (-1), 1) := by decide +kernel
theorem dX4_grainsAt_47 : decode cX4_grainsAt 47 = .ok (.if_icmp .eq 55, 3) := by decide +kernel
theorem dX4_grainsAt_50 : decode cX4_grainsAt 50 = .ok (.aload_n 1, 1) := by decide +kernel
theorem dX4_grainsAt_51 : decode cX4_grainsAt 51 = .ok (.getfield 40, 3) := by decide +kernel
theorem dX4_grainsAt_54 : decode cX4_grainsAt 54 = .ok (.bipush 45, 2) := by decide +kernel
theorem dX4_grainsAt_56 : decode cX4_grainsAt 56 = .ok (.iload 5, 2) := by decide +kernel
theorem dX4_grainsAt_58 : decode cX4_grainsAt 58 = .ok (.iadd, 1) := by decide +kernel
theorem dX4_grainsAt_59 : decode cX4_grainsAt 59 = .ok (.iaload, 1) := by decide +kernel
theorem dX4_grainsAt_60 : decode cX4_grainsAt 60 = .ok (.iconst 1, 1) := by decide +kernel
theorem dX4_grainsAt_61 : decode cX4_grainsAt 61 = .ok (.if_icmp .ne 7, 3) := by decide +kernel
theorem dX4_grainsAt_64 : decode cX4_grainsAt 64 = .ok (.iconst 1, 1) := by decide +kernel
theorem dX4_grainsAt_65 : decode cX4_grainsAt 65 = .ok (.goto 4, 3) := by decide +kernel
theorem dX4_grainsAt_68 : decode cX4_grainsAt 68 = .ok (.iconst 0, 1) := by decide +kernel
theorem dX4_grainsAt_69 : decode cX4_grainsAt 69 = .ok (.istore 7, 2) := by decide +kernel
theorem dX4_grainsAt_71 : decode cX4_grainsAt 71 = .ok (.iload 4, 2) := by decide +kernel
theorem dX4_grainsAt_73 : decode cX4_grainsAt 73 = .ok (.iconst 0, 1) := by decide +kernel
theorem dX4_grainsAt_74 : decode cX4_grainsAt 74 = .ok (.aload_n 1, 1) := by decide +kernel
theorem dX4_grainsAt_75 : decode cX4_grainsAt 75 = .ok (.getfield 40, 3) := by decide +kernel
theorem dX4_grainsAt_78 : decode cX4_grainsAt 78 = .ok (.bipush 25, 2) := by decide +kernel
theorem dX4_grainsAt_80 : decode cX4_grainsAt 80 = .ok (.iload 5, 2) := by decide +kernel
theorem dX4_grainsAt_82 : decode cX4_grainsAt 82 = .ok (.iadd, 1) := by decide +kernel
theorem dX4_grainsAt_83 : decode cX4_grainsAt 83 = .ok (.iaload, 1) := by decide +kernel
theorem dX4_grainsAt_84 : decode cX4_grainsAt 84 = .ok (.iload 7, 2) := by decide +kernel
theorem dX4_grainsAt_86 : decode cX4_grainsAt 86 = .ok (.ifCond .eq 7, 3) := by decide +kernel
theorem dX4_grainsAt_89 : decode cX4_grainsAt 89 = .ok (.iconst 0, 1) := by decide +kernel
theorem dX4_grainsAt_90 : decode cX4_grainsAt 90 = .ok (.goto 5, 3) := by decide +kernel
theorem dX4_grainsAt_93 : decode cX4_grainsAt 93 = .ok (.iload 6, 2) := by decide +kernel
theorem dX4_grainsAt_95 : decode cX4_grainsAt 95 = .ok (.isub, 1) := by decide +kernel
theorem dX4_grainsAt_96 : decode cX4_grainsAt 96 = .ok (.invokestatic 50, 3) := by decide +kernel
theorem dX4_grainsAt_99 : decode cX4_grainsAt 99 = .ok (.iadd, 1) := by decide +kernel
theorem dX4_grainsAt_100 : decode cX4_grainsAt 100 = .ok (.istore 4, 2) := by decide +kernel
theorem dX4_grainsAt_102 : decode cX4_grainsAt 102 = .ok (.iinc 5 1, 3) := by decide +kernel
theorem dX4_grainsAt_105 : decode cX4_grainsAt 105 = .ok (.goto (-99), 3) := by decide +kernel
theorem dX4_grainsAt_108 : decode cX4_grainsAt 108 = .ok (.iload 4, 2) := by decide +kernel
theorem dX4_grainsAt_110 : decode cX4_grainsAt 110 = .ok (.ireturn, 1) := by decide +kernel
theorem dX4_toSteal_0 : decode cX4_toSteal 0 = .ok (.iconst 0, 1) := by decide +kernel
theorem dX4_toSteal_1 : decode cX4_toSteal 1 = .ok (.istore 4, 2) := by decide +kernel
theorem dX4_toSteal_3 : decode cX4_toSteal 3 = .ok (.iconst 0, 1) := by decide +kernel
theorem dX4_toSteal_4 : decode cX4_toSteal 4 = .ok (.istore 5, 2) := by decide +kernel
theorem dX4_toSteal_6 : decode cX4_toSteal 6 = .ok (.aload_n 1, 1) := by decide +kernel
theorem dX4_toSteal_7 : decode cX4_toSteal 7 = .ok (.aload_n 1, 1) := by decide +kernel
theorem dX4_toSteal_8 : decode cX4_toSteal 8 = .ok (.aload_n 0, 1) := by decide +kernel
theorem dX4_toSteal_9 : decode cX4_toSteal 9 = .ok (.getfield 9, 3) := by decide +kernel
theorem dX4_toSteal_12 : decode cX4_toSteal 12 = .ok (.iload_n 2, 1) := by decide +kernel
theorem dX4_toSteal_13 : decode cX4_toSteal 13 = .ok (.invokevirtual 55, 3) := by decide +kernel
theorem dX4_toSteal_16 : decode cX4_toSteal 16 = .ok (.invokestatic 21, 3) := by decide +kernel
theorem dX4_toSteal_19 : decode cX4_toSteal 19 = .ok (.istore 6, 2) := by decide +kernel
theorem dX4_toSteal_21 : decode cX4_toSteal 21 = .ok (.iconst 0, 1) := by decide +kernel
theorem dX4_toSteal_22 : decode cX4_toSteal 22 = .ok (.istore 7, 2) := by decide +kernel
theorem dX4_toSteal_24 : decode cX4_toSteal 24 = .ok (.iload 7, 2) := by decide +kernel
theorem dX4_toSteal_26 : decode cX4_toSteal 26 = .ok (.iconst 1, 1) := by decide +kernel
theorem dX4_toSteal_27 : decode cX4_toSteal 27 = .ok (.aload_n 0, 1) := by decide +kernel
theorem dX4_toSteal_28 : decode cX4_toSteal 28 = .ok (.getfield 9, 3) := by decide +kernel
theorem dX4_toSteal_31 : decode cX4_toSteal 31 = .ok (.ishl, 1) := by decide +kernel
theorem dX4_toSteal_32 : decode cX4_toSteal 32 = .ok (.if_icmp .ge 80, 3) := by decide +kernel
theorem dX4_toSteal_35 : decode cX4_toSteal 35 = .ok (.iload 7, 2) := by decide +kernel
theorem dX4_toSteal_37 : decode cX4_toSteal 37 = .ok (.iload 6, 2) := by decide +kernel
theorem dX4_toSteal_39 : decode cX4_toSteal 39 = .ok (.iconst (-1), 1) := by decide +kernel
theorem dX4_toSteal_40 : decode cX4_toSteal 40 = .ok (.ixor, 1) := by decide +kernel
theorem dX4_toSteal_41 : decode cX4_toSteal 41 = .ok (.iand, 1) := by decide +kernel
theorem dX4_toSteal_42 : decode cX4_toSteal 42 = .ok (.ifCond .ne 64, 3) := by decide +kernel
theorem dX4_toSteal_45 : decode cX4_toSteal 45 = .ok (.aload_n 1, 1) := by decide +kernel
theorem dX4_toSteal_46 : decode cX4_toSteal 46 = .ok (.iload 7, 2) := by decide +kernel
theorem dX4_toSteal_48 : decode cX4_toSteal 48 = .ok (.invokestatic 58, 3) := by decide +kernel
theorem dX4_toSteal_51 : decode cX4_toSteal 51 = .ok (.istore 8, 2) := by decide +kernel
theorem dX4_toSteal_53 : decode cX4_toSteal 53 = .ok (.iload 7, 2) := by decide +kernel
theorem dX4_toSteal_55 : decode cX4_toSteal 55 = .ok (.invokestatic 27, 3) := by decide +kernel
theorem dX4_toSteal_58 : decode cX4_toSteal 58 = .ok (.iload 4, 2) := by decide +kernel
theorem dX4_toSteal_60 : decode cX4_toSteal 60 = .ok (.invokestatic 27, 3) := by decide +kernel
theorem dX4_toSteal_63 : decode cX4_toSteal 63 = .ok (.if_icmp .ge 7, 3) := by decide +kernel
theorem dX4_toSteal_66 : decode cX4_toSteal 66 = .ok (.iconst 1, 1) := by decide +kernel
theorem dX4_toSteal_67 : decode cX4_toSteal 67 = .ok (.goto 4, 3) := by decide +kernel
theorem dX4_toSteal_70 : decode cX4_toSteal 70 = .ok (.iconst 0, 1) := by decide +kernel
theorem dX4_toSteal_71 : decode cX4_toSteal 71 = .ok (.istore 9, 2) := by decide +kernel
theorem dX4_toSteal_73 : decode cX4_toSteal 73 = .ok (.iload 8, 2) := by decide +kernel
theorem dX4_toSteal_75 : decode cX4_toSteal 75 = .ok (.iload_n 3, 1) := by decide +kernel
theorem dX4_toSteal_76 : decode cX4_toSteal 76 = .ok (.if_icmp .gt 30, 3) := by decide +kernel
theorem dX4_toSteal_79 : decode cX4_toSteal 79 = .ok (.iload 8, 2) := by decide +kernel
theorem dX4_toSteal_81 : decode cX4_toSteal 81 = .ok (.iload 5, 2) := by decide +kernel
theorem dX4_toSteal_83 : decode cX4_toSteal 83 = .ok (.if_icmp .gt 15, 3) := by decide +kernel
theorem dX4_toSteal_86 : decode cX4_toSteal 86 = .ok (.iload 8, 2) := by decide +kernel
theorem dX4_toSteal_88 : decode cX4_toSteal 88 = .ok (.iload 5, 2) := by decide +kernel
theorem dX4_toSteal_90 : decode cX4_toSteal 90 = .ok (.if_icmp .ne 16, 3) := by decide +kernel
theorem dX4_toSteal_93 : decode cX4_toSteal 93 = .ok (.iload 9, 2) := by decide +kernel
theorem dX4_toSteal_95 : decode cX4_toSteal 95 = .ok (.ifCond .eq 11, 3) := by decide +kernel
theorem dX4_toSteal_98 : decode cX4_toSteal 98 = .ok (.iload 7, 2) := by decide +kernel
theorem dX4_toSteal_100 : decode cX4_toSteal 100 = .ok (.istore 4, 2) := by decide +kernel
theorem dX4_toSteal_102 : decode cX4_toSteal 102 = .ok (.iload 8, 2) := by decide +kernel
theorem dX4_toSteal_104 : decode cX4_toSteal 104 = .ok (.istore 5, 2) := by decide +kernel
theorem dX4_toSteal_106 : decode cX4_toSteal 106 = .ok (.iinc 7 1, 3) := by decide +kernel
theorem dX4_toSteal_109 : decode cX4_toSteal 109 = .ok (.goto (-85), 3) := by decide +kernel
theorem dX4_toSteal_112 : decode cX4_toSteal 112 = .ok (.iload 4, 2) := by decide +kernel
theorem dX4_toSteal_114 : decode cX4_toSteal 114 = .ok (.ireturn, 1) := by decide +kernel
theorem dX4_toLevel_0 : decode cX4_toLevel 0 = .ok (.iconst 0, 1) := by decide +kernel
theorem dX4_toLevel_1 : decode cX4_toLevel 1 = .ok (.istore_n 3, 1) := by decide +kernel
theorem dX4_toLevel_2 : decode cX4_toLevel 2 = .ok (.aload_n 1, 1) := by decide +kernel
theorem dX4_toLevel_3 : decode cX4_toLevel 3 = .ok (.iload_n 2, 1) := by decide +kernel
theorem dX4_toLevel_4 : decode cX4_toLevel 4 = .ok (.iconst 0, 1) := by decide +kernel
theorem dX4_toLevel_5 : decode cX4_toLevel 5 = .ok (.invokestatic 61, 3) := by decide +kernel
theorem dX4_toLevel_8 : decode cX4_toLevel 8 = .ok (.istore 4, 2) := by decide +kernel
theorem dX4_toLevel_10 : decode cX4_toLevel 10 = .ok (.aload_n 1, 1) := by decide +kernel
theorem dX4_toLevel_11 : decode cX4_toLevel 11 = .ok (.aload_n 0, 1) := by decide +kernel
theorem dX4_toLevel_12 : decode cX4_toLevel 12 = .ok (.getfield 9, 3) := by decide +kernel
theorem dX4_toLevel_15 : decode cX4_toLevel 15 = .ok (.iload_n 2, 1) := by decide +kernel
theorem dX4_toLevel_16 : decode cX4_toLevel 16 = .ok (.invokevirtual 55, 3) := by decide +kernel
theorem dX4_toLevel_19 : decode cX4_toLevel 19 = .ok (.istore 5, 2) := by decide +kernel
theorem dX4_toLevel_21 : decode cX4_toLevel 21 = .ok (.iconst 0, 1) := by decide +kernel
theorem dX4_toLevel_22 : decode cX4_toLevel 22 = .ok (.istore 6, 2) := by decide +kernel
theorem dX4_toLevel_24 : decode cX4_toLevel 24 = .ok (.iload 6, 2) := by decide +kernel
theorem dX4_toLevel_26 : decode cX4_toLevel 26 = .ok (.iconst 1, 1) := by decide +kernel
theorem dX4_toLevel_27 : decode cX4_toLevel 27 = .ok (.aload_n 0, 1) := by decide +kernel
theorem dX4_toLevel_28 : decode cX4_toLevel 28 = .ok (.getfield 9, 3) := by decide +kernel
theorem dX4_toLevel_31 : decode cX4_toLevel 31 = .ok (.ishl, 1) := by decide +kernel
theorem dX4_toLevel_32 : decode cX4_toLevel 32 = .ok (.if_icmp .ge 73, 3) := by decide +kernel
theorem dX4_toLevel_35 : decode cX4_toLevel 35 = .ok (.iload 6, 2) := by decide +kernel
theorem dX4_toLevel_37 : decode cX4_toLevel 37 = .ok (.iload 5, 2) := by decide +kernel
theorem dX4_toLevel_39 : decode cX4_toLevel 39 = .ok (.iconst (-1), 1) := by decide +kernel
theorem dX4_toLevel_40 : decode cX4_toLevel 40 = .ok (.ixor, 1) := by decide +kernel
theorem dX4_toLevel_41 : decode cX4_toLevel 41 = .ok (.iand, 1) := by decide +kernel
theorem dX4_toLevel_42 : decode cX4_toLevel 42 = .ok (.ifCond .ne 57, 3) := by decide +kernel
theorem dX4_toLevel_45 : decode cX4_toLevel 45 = .ok (.aload_n 1, 1) := by decide +kernel
theorem dX4_toLevel_46 : decode cX4_toLevel 46 = .ok (.iload_n 2, 1) := by decide +kernel
theorem dX4_toLevel_47 : decode cX4_toLevel 47 = .ok (.iload 6, 2) := by decide +kernel
theorem dX4_toLevel_49 : decode cX4_toLevel 49 = .ok (.invokestatic 61, 3) := by decide +kernel
theorem dX4_toLevel_52 : decode cX4_toLevel 52 = .ok (.istore 7, 2) := by decide +kernel
theorem dX4_toLevel_54 : decode cX4_toLevel 54 = .ok (.iload 6, 2) := by decide +kernel
theorem dX4_toLevel_56 : decode cX4_toLevel 56 = .ok (.invokestatic 27, 3) := by decide +kernel
theorem dX4_toLevel_59 : decode cX4_toLevel 59 = .ok (.iload_n 3, 1) := by decide +kernel
theorem dX4_toLevel_60 : decode cX4_toLevel 60 = .ok (.invokestatic 27, 3) := by decide +kernel
theorem dX4_toLevel_63 : decode cX4_toLevel 63 = .ok (.if_icmp .ge 7, 3) := by decide +kernel
theorem dX4_toLevel_66 : decode cX4_toLevel 66 = .ok (.iconst 1, 1) := by decide +kernel
theorem dX4_toLevel_67 : decode cX4_toLevel 67 = .ok (.goto 4, 3) := by decide +kernel
theorem dX4_toLevel_70 : decode cX4_toLevel 70 = .ok (.iconst 0, 1) := by decide +kernel
theorem dX4_toLevel_71 : decode cX4_toLevel 71 = .ok (.istore 8, 2) := by decide +kernel
theorem dX4_toLevel_73 : decode cX4_toLevel 73 = .ok (.iload 7, 2) := by decide +kernel
theorem dX4_toLevel_75 : decode cX4_toLevel 75 = .ok (.iload 4, 2) := by decide +kernel
theorem dX4_toLevel_77 : decode cX4_toLevel 77 = .ok (.if_icmp .lt 15, 3) := by decide +kernel
theorem dX4_toLevel_80 : decode cX4_toLevel 80 = .ok (.iload 7, 2) := by decide +kernel
theorem dX4_toLevel_82 : decode cX4_toLevel 82 = .ok (.iload 4, 2) := by decide +kernel
theorem dX4_toLevel_84 : decode cX4_toLevel 84 = .ok (.if_icmp .ne 15, 3) := by decide +kernel
theorem dX4_toLevel_87 : decode cX4_toLevel 87 = .ok (.iload 8, 2) := by decide +kernel
theorem dX4_toLevel_89 : decode cX4_toLevel 89 = .ok (.ifCond .eq 10, 3) := by decide +kernel
theorem dX4_toLevel_92 : decode cX4_toLevel 92 = .ok (.iload 6, 2) := by decide +kernel
theorem dX4_toLevel_94 : decode cX4_toLevel 94 = .ok (.istore_n 3, 1) := by decide +kernel
theorem dX4_toLevel_95 : decode cX4_toLevel 95 = .ok (.iload 7, 2) := by decide +kernel
theorem dX4_toLevel_97 : decode cX4_toLevel 97 = .ok (.istore 4, 2) := by decide +kernel
theorem dX4_toLevel_99 : decode cX4_toLevel 99 = .ok (.iinc 6 1, 3) := by decide +kernel
theorem dX4_toLevel_102 : decode cX4_toLevel 102 = .ok (.goto (-78), 3) := by decide +kernel
theorem dX4_toLevel_105 : decode cX4_toLevel 105 = .ok (.iload_n 3, 1) := by decide +kernel
theorem dX4_toLevel_106 : decode cX4_toLevel 106 = .ok (.ireturn, 1) := by decide +kernel
theorem dX4_differenceWith_0 : decode cX4_differenceWith 0 = .ok (.aload_n 0, 1) := by decide +kernel
theorem dX4_differenceWith_1 : decode cX4_differenceWith 1 = .ok (.iload_n 2, 1) := by decide +kernel
theorem dX4_differenceWith_2 : decode cX4_differenceWith 2 = .ok (.invokestatic 21, 3) := by decide +kernel
theorem dX4_differenceWith_5 : decode cX4_differenceWith 5 = .ok (.istore_n 3, 1) := by decide +kernel
theorem dX4_differenceWith_6 : decode cX4_differenceWith 6 = .ok (.sipush 9999, 3) := by decide +kernel
theorem dX4_differenceWith_9 : decode cX4_differenceWith 9 = .ok (.aload_n 0, 1) := by decide +kernel
theorem dX4_differenceWith_10 : decode cX4_differenceWith 10 = .ok (.getfield 40, 3) := by decide +kernel
theorem dX4_differenceWith_13 : decode cX4_differenceWith 13 = .ok (.iconst 1, 1) := by decide +kernel
theorem dX4_differenceWith_14 : decode cX4_differenceWith 14 = .ok (.iload_n 1, 1) := by decide +kernel
theorem dX4_differenceWith_15 : decode cX4_differenceWith 15 = .ok (.iadd, 1) := by decide +kernel
theorem dX4_differenceWith_16 : decode cX4_differenceWith 16 = .ok (.iaload, 1) := by decide +kernel
theorem dX4_differenceWith_17 : decode cX4_differenceWith 17 = .ok (.aload_n 0, 1) := by decide +kernel
theorem dX4_differenceWith_18 : decode cX4_differenceWith 18 = .ok (.iload_n 3, 1) := by decide +kernel
theorem dX4_differenceWith_19 : decode cX4_differenceWith 19 = .ok (.invokestatic 58, 3) := by decide +kernel
theorem dX4_differenceWith_22 : decode cX4_differenceWith 22 = .ok (.iadd, 1) := by decide +kernel
theorem dX4_differenceWith_23 : decode cX4_differenceWith 23 = .ok (.invokestatic 65, 3) := by decide +kernel
theorem dX4_differenceWith_26 : decode cX4_differenceWith 26 = .ok (.istore 4, 2) := by decide +kernel
theorem dX4_differenceWith_28 : decode cX4_differenceWith 28 = .ok (.sipush 9999, 3) := by decide +kernel
theorem dX4_differenceWith_31 : decode cX4_differenceWith 31 = .ok (.aload_n 0, 1) := by decide +kernel
theorem dX4_differenceWith_32 : decode cX4_differenceWith 32 = .ok (.getfield 40, 3) := by decide +kernel
theorem dX4_differenceWith_35 : decode cX4_differenceWith 35 = .ok (.bipush 9, 2) := by decide +kernel
theorem dX4_differenceWith_37 : decode cX4_differenceWith 37 = .ok (.iload_n 1, 1) := by decide +kernel
theorem dX4_differenceWith_38 : decode cX4_differenceWith 38 = .ok (.iadd, 1) := by decide +kernel
theorem dX4_differenceWith_39 : decode cX4_differenceWith 39 = .ok (.iaload, 1) := by decide +kernel
theorem dX4_differenceWith_40 : decode cX4_differenceWith 40 = .ok (.aload_n 0, 1) := by decide +kernel
theorem dX4_differenceWith_41 : decode cX4_differenceWith 41 = .ok (.iload_n 2, 1) := by decide +kernel
theorem dX4_differenceWith_42 : decode cX4_differenceWith 42 = .ok (.iload_n 3, 1) := by decide +kernel
theorem dX4_differenceWith_43 : decode cX4_differenceWith 43 = .ok (.iconst (-1), 1) := by decide +kernel
theorem dX4_differenceWith_44 : decode cX4_differenceWith 44 = .ok (.ixor, 1) := by decide +kernel
theorem dX4_differenceWith_45 : decode cX4_differenceWith 45 = .ok (.iand, 1) := by decide +kernel
theorem dX4_differenceWith_46 : decode cX4_differenceWith 46 = .ok (.invokestatic 58, 3) := by decide +kernel
theorem dX4_differenceWith_49 : decode cX4_differenceWith 49 = .ok (.iadd, 1) := by decide +kernel
theorem dX4_differenceWith_50 : decode cX4_differenceWith 50 = .ok (.invokestatic 65, 3) := by decide +kernel
theorem dX4_differenceWith_53 : decode cX4_differenceWith 53 = .ok (.istore 5, 2) := by decide +kernel
theorem dX4_differenceWith_55 : decode cX4_differenceWith 55 = .ok (.iload 4, 2) := by decide +kernel
theorem dX4_differenceWith_57 : decode cX4_differenceWith 57 = .ok (.iload 5, 2) := by decide +kernel
theorem dX4_differenceWith_59 : decode cX4_differenceWith 59 = .ok (.isub, 1) := by decide +kernel
theorem dX4_differenceWith_60 : decode cX4_differenceWith 60 = .ok (.invokestatic 68, 3) := by decide +kernel
theorem dX4_differenceWith_63 : decode cX4_differenceWith 63 = .ok (.ireturn, 1) := by decide +kernel
theorem dX4_luckBits_0 : decode cX4_luckBits 0 = .ok (.iconst 0, 1) := by decide +kernel
theorem dX4_luckBits_1 : decode cX4_luckBits 1 = .ok (.istore_n 2, 1) := by decide +kernel
theorem dX4_luckBits_2 : decode cX4_luckBits 2 = .ok (.iconst 0, 1) := by decide +kernel
theorem dX4_luckBits_3 : decode cX4_luckBits 3 = .ok (.istore_n 3, 1) := by decide +kernel
theorem dX4_luckBits_4 : decode cX4_luckBits 4 = .ok (.iload_n 3, 1) := by decide +kernel
theorem dX4_luckBits_5 : decode cX4_luckBits 5 = .ok (.bipush 10, 2) := by decide +kernel
theorem dX4_luckBits_7 : decode cX4_luckBits 7 = .ok (.if_icmp .ge 35, 3) := by decide +kernel
theorem dX4_luckBits_10 : decode cX4_luckBits 10 = .ok (.iload_n 1, 1) := by decide +kernel
theorem dX4_luckBits_11 : decode cX4_luckBits 11 = .ok (.iconst 1, 1) := by decide +kernel
theorem dX4_luckBits_12 : decode cX4_luckBits 12 = .ok (.iload_n 3, 1) := by decide +kernel
theorem dX4_luckBits_13 : decode cX4_luckBits 13 = .ok (.ishl, 1) := by decide +kernel
theorem dX4_luckBits_14 : decode cX4_luckBits 14 = .ok (.iand, 1) := by decide +kernel
theorem dX4_luckBits_15 : decode cX4_luckBits 15 = .ok (.ifCond .eq 21, 3) := by decide +kernel
theorem dX4_luckBits_18 : decode cX4_luckBits 18 = .ok (.aload_n 0, 1) := by decide +kernel
theorem dX4_luckBits_19 : decode cX4_luckBits 19 = .ok (.getfield 40, 3) := by decide +kernel
theorem dX4_luckBits_22 : decode cX4_luckBits 22 = .ok (.bipush 35, 2) := by decide +kernel
theorem dX4_luckBits_24 : decode cX4_luckBits 24 = .ok (.iload_n 3, 1) := by decide +kernel
theorem dX4_luckBits_25 : decode cX4_luckBits 25 = .ok (.iadd, 1) := by decide +kernel
theorem dX4_luckBits_26 : decode cX4_luckBits 26 = .ok (.iaload, 1) := by decide +kernel
theorem dX4_luckBits_27 : decode cX4_luckBits 27 = .ok (.ifCond .ne 9, 3) := by decide +kernel
theorem dX4_luckBits_30 : decode cX4_luckBits 30 = .ok (.iload_n 2, 1) := by decide +kernel
theorem dX4_luckBits_31 : decode cX4_luckBits 31 = .ok (.iconst 1, 1) := by decide +kernel
theorem dX4_luckBits_32 : decode cX4_luckBits 32 = .ok (.iload_n 3, 1) := by decide +kernel
theorem dX4_luckBits_33 : decode cX4_luckBits 33 = .ok (.ishl, 1) := by decide +kernel
theorem dX4_luckBits_34 : decode cX4_luckBits 34 = .ok (.ior, 1) := by decide +kernel
theorem dX4_luckBits_35 : decode cX4_luckBits 35 = .ok (.istore_n 2, 1) := by decide +kernel
theorem dX4_luckBits_36 : decode cX4_luckBits 36 = .ok (.iinc 3 1, 3) := by decide +kernel
theorem dX4_luckBits_39 : decode cX4_luckBits 39 = .ok (.goto (-35), 3) := by decide +kernel
theorem dX4_luckBits_42 : decode cX4_luckBits 42 = .ok (.iload_n 2, 1) := by decide +kernel
theorem dX4_luckBits_43 : decode cX4_luckBits 43 = .ok (.ireturn, 1) := by decide +kernel
theorem dX4_grainsOf_0 : decode cX4_grainsOf 0 = .ok (.iconst 0, 1) := by decide +kernel
theorem dX4_grainsOf_1 : decode cX4_grainsOf 1 = .ok (.istore_n 2, 1) := by decide +kernel
theorem dX4_grainsOf_2 : decode cX4_grainsOf 2 = .ok (.iconst 0, 1) := by decide +kernel
theorem dX4_grainsOf_3 : decode cX4_grainsOf 3 = .ok (.istore_n 3, 1) := by decide +kernel
theorem dX4_grainsOf_4 : decode cX4_grainsOf 4 = .ok (.iload_n 3, 1) := by decide +kernel
theorem dX4_grainsOf_5 : decode cX4_grainsOf 5 = .ok (.bipush 10, 2) := by decide +kernel
theorem dX4_grainsOf_7 : decode cX4_grainsOf 7 = .ok (.if_icmp .ge 33, 3) := by decide +kernel
theorem dX4_grainsOf_10 : decode cX4_grainsOf 10 = .ok (.iload_n 2, 1) := by decide +kernel
theorem dX4_grainsOf_11 : decode cX4_grainsOf 11 = .ok (.iload_n 1, 1) := by decide +kernel
theorem dX4_grainsOf_12 : decode cX4_grainsOf 12 = .ok (.iconst 1, 1) := by decide +kernel
theorem dX4_grainsOf_13 : decode cX4_grainsOf 13 = .ok (.iload_n 3, 1) := by decide +kernel
theorem dX4_grainsOf_14 : decode cX4_grainsOf 14 = .ok (.ishl, 1) := by decide +kernel
theorem dX4_grainsOf_15 : decode cX4_grainsOf 15 = .ok (.iand, 1) := by decide +kernel
theorem dX4_grainsOf_16 : decode cX4_grainsOf 16 = .ok (.ifCond .eq 15, 3) := by decide +kernel
theorem dX4_grainsOf_19 : decode cX4_grainsOf 19 = .ok (.aload_n 0, 1) := by decide +kernel
theorem dX4_grainsOf_20 : decode cX4_grainsOf 20 = .ok (.getfield 40, 3) := by decide +kernel
theorem dX4_grainsOf_23 : decode cX4_grainsOf 23 = .ok (.bipush 25, 2) := by decide +kernel
theorem dX4_grainsOf_25 : decode cX4_grainsOf 25 = .ok (.iload_n 3, 1) := by decide +kernel
theorem dX4_grainsOf_26 : decode cX4_grainsOf 26 = .ok (.iadd, 1) := by decide +kernel
theorem dX4_grainsOf_27 : decode cX4_grainsOf 27 = .ok (.iaload, 1) := by decide +kernel
theorem dX4_grainsOf_28 : decode cX4_grainsOf 28 = .ok (.goto 4, 3) := by decide +kernel
theorem dX4_grainsOf_31 : decode cX4_grainsOf 31 = .ok (.iconst 0, 1) := by decide +kernel
theorem dX4_grainsOf_32 : decode cX4_grainsOf 32 = .ok (.iadd, 1) := by decide +kernel
theorem dX4_grainsOf_33 : decode cX4_grainsOf 33 = .ok (.istore_n 2, 1) := by decide +kernel
theorem dX4_grainsOf_34 : decode cX4_grainsOf 34 = .ok (.iinc 3 1, 3) := by decide +kernel
theorem dX4_grainsOf_37 : decode cX4_grainsOf 37 = .ok (.goto (-33), 3) := by decide +kernel
theorem dX4_grainsOf_40 : decode cX4_grainsOf 40 = .ok (.iload_n 2, 1) := by decide +kernel
theorem dX4_grainsOf_41 : decode cX4_grainsOf 41 = .ok (.ireturn, 1) := by decide +kernel
theorem dX4_leastGrains_0 : decode cX4_leastGrains 0 = .ok (.bipush 99, 2) := by decide +kernel
theorem dX4_leastGrains_2 : decode cX4_leastGrains 2 = .ok (.istore_n 2, 1) := by decide +kernel
theorem dX4_leastGrains_3 : decode cX4_leastGrains 3 = .ok (.iconst 0, 1) := by decide +kernel
theorem dX4_leastGrains_4 : decode cX4_leastGrains 4 = .ok (.istore_n 3, 1) := by decide +kernel
theorem dX4_leastGrains_5 : decode cX4_leastGrains 5 = .ok (.iload_n 3, 1) := by decide +kernel
theorem dX4_leastGrains_6 : decode cX4_leastGrains 6 = .ok (.bipush 10, 2) := by decide +kernel
theorem dX4_leastGrains_8 : decode cX4_leastGrains 8 = .ok (.if_icmp .ge 35, 3) := by decide +kernel
theorem dX4_leastGrains_11 : decode cX4_leastGrains 11 = .ok (.iload_n 1, 1) := by decide +kernel
theorem dX4_leastGrains_12 : decode cX4_leastGrains 12 = .ok (.iconst 1, 1) := by decide +kernel
theorem dX4_leastGrains_13 : decode cX4_leastGrains 13 = .ok (.iload_n 3, 1) := by decide +kernel
theorem dX4_leastGrains_14 : decode cX4_leastGrains 14 = .ok (.ishl, 1) := by decide +kernel
theorem dX4_leastGrains_15 : decode cX4_leastGrains 15 = .ok (.iand, 1) := by decide +kernel
theorem dX4_leastGrains_16 : decode cX4_leastGrains 16 = .ok (.ifCond .eq 19, 3) := by decide +kernel
theorem dX4_leastGrains_19 : decode cX4_leastGrains 19 = .ok (.iload_n 2, 1) := by decide +kernel
theorem dX4_leastGrains_20 : decode cX4_leastGrains 20 = .ok (.aload_n 0, 1) := by decide +kernel
theorem dX4_leastGrains_21 : decode cX4_leastGrains 21 = .ok (.getfield 40, 3) := by decide +kernel
theorem dX4_leastGrains_24 : decode cX4_leastGrains 24 = .ok (.bipush 25, 2) := by decide +kernel
theorem dX4_leastGrains_26 : decode cX4_leastGrains 26 = .ok (.iload_n 3, 1) := by decide +kernel
theorem dX4_leastGrains_27 : decode cX4_leastGrains 27 = .ok (.iadd, 1) := by decide +kernel
theorem dX4_leastGrains_28 : decode cX4_leastGrains 28 = .ok (.iaload, 1) := by decide +kernel
theorem dX4_leastGrains_29 : decode cX4_leastGrains 29 = .ok (.invokestatic 65, 3) := by decide +kernel
theorem dX4_leastGrains_32 : decode cX4_leastGrains 32 = .ok (.goto 4, 3) := by decide +kernel
theorem dX4_leastGrains_35 : decode cX4_leastGrains 35 = .ok (.iload_n 2, 1) := by decide +kernel
theorem dX4_leastGrains_36 : decode cX4_leastGrains 36 = .ok (.istore_n 2, 1) := by decide +kernel
theorem dX4_leastGrains_37 : decode cX4_leastGrains 37 = .ok (.iinc 3 1, 3) := by decide +kernel
theorem dX4_leastGrains_40 : decode cX4_leastGrains 40 = .ok (.goto (-35), 3) := by decide +kernel
theorem dX4_leastGrains_43 : decode cX4_leastGrains 43 = .ok (.iload_n 2, 1) := by decide +kernel
theorem dX4_leastGrains_44 : decode cX4_leastGrains 44 = .ok (.ireturn, 1) := by decide +kernel
theorem dX4_isMixed_0 : decode cX4_isMixed 0 = .ok (.aload_n 0, 1) := by decide +kernel
theorem dX4_isMixed_1 : decode cX4_isMixed 1 = .ok (.iload_n 1, 1) := by decide +kernel
theorem dX4_isMixed_2 : decode cX4_isMixed 2 = .ok (.invokestatic 21, 3) := by decide +kernel
theorem dX4_isMixed_5 : decode cX4_isMixed 5 = .ok (.istore_n 2, 1) := by decide +kernel
theorem dX4_isMixed_6 : decode cX4_isMixed 6 = .ok (.iload_n 2, 1) := by decide +kernel
theorem dX4_isMixed_7 : decode cX4_isMixed 7 = .ok (.ifCond .eq 12, 3) := by decide +kernel
theorem dX4_isMixed_10 : decode cX4_isMixed 10 = .ok (.iload_n 2, 1) := by decide +kernel
theorem dX4_isMixed_11 : decode cX4_isMixed 11 = .ok (.iload_n 1, 1) := by decide +kernel
theorem dX4_isMixed_12 : decode cX4_isMixed 12 = .ok (.if_icmp .eq 7, 3) := by decide +kernel
theorem dX4_isMixed_15 : decode cX4_isMixed 15 = .ok (.iconst 1, 1) := by decide +kernel
theorem dX4_isMixed_16 : decode cX4_isMixed 16 = .ok (.goto 4, 3) := by decide +kernel
theorem dX4_isMixed_19 : decode cX4_isMixed 19 = .ok (.iconst 0, 1) := by decide +kernel
theorem dX4_isMixed_20 : decode cX4_isMixed 20 = .ok (.ireturn, 1) := by decide +kernel
theorem dX4_leastHarm_0 : decode cX4_leastHarm 0 = .ok (.aload_n 0, 1) := by decide +kernel
theorem dX4_leastHarm_1 : decode cX4_leastHarm 1 = .ok (.iload_n 1, 1) := by decide +kernel
theorem dX4_leastHarm_2 : decode cX4_leastHarm 2 = .ok (.invokestatic 71, 3) := by decide +kernel
theorem dX4_leastHarm_5 : decode cX4_leastHarm 5 = .ok (.ifCond .eq 11, 3) := by decide +kernel
theorem dX4_leastHarm_8 : decode cX4_leastHarm 8 = .ok (.aload_n 0, 1) := by decide +kernel
theorem dX4_leastHarm_9 : decode cX4_leastHarm 9 = .ok (.iload_n 1, 1) := by decide +kernel
theorem dX4_leastHarm_10 : decode cX4_leastHarm 10 = .ok (.invokestatic 75, 3) := by decide +kernel
theorem dX4_leastHarm_13 : decode cX4_leastHarm 13 = .ok (.goto 4, 3) := by decide +kernel
theorem dX4_leastHarm_16 : decode cX4_leastHarm 16 = .ok (.iconst 0, 1) := by decide +kernel
theorem dX4_leastHarm_17 : decode cX4_leastHarm 17 = .ok (.ireturn, 1) := by decide +kernel
theorem dX4_leastHarmBehind_0 : decode cX4_leastHarmBehind 0 = .ok (.iload_n 2, 1) := by decide +kernel
theorem dX4_leastHarmBehind_1 : decode cX4_leastHarmBehind 1 = .ok (.ifCond .eq 11, 3) := by decide +kernel
theorem dX4_leastHarmBehind_4 : decode cX4_leastHarmBehind 4 = .ok (.aload_n 0, 1) := by decide +kernel
theorem dX4_leastHarmBehind_5 : decode cX4_leastHarmBehind 5 = .ok (.iload_n 2, 1) := by decide +kernel
theorem dX4_leastHarmBehind_6 : decode cX4_leastHarmBehind 6 = .ok (.invokestatic 71, 3) := by decide +kernel
theorem dX4_leastHarmBehind_9 : decode cX4_leastHarmBehind 9 = .ok (.ifCond .eq 9, 3) := by decide +kernel
theorem dX4_leastHarmBehind_12 : decode cX4_leastHarmBehind 12 = .ok (.aload_n 0, 1) := by decide +kernel
theorem dX4_leastHarmBehind_13 : decode cX4_leastHarmBehind 13 = .ok (.iload_n 2, 1) := by decide +kernel
theorem dX4_leastHarmBehind_14 : decode cX4_leastHarmBehind 14 = .ok (.invokestatic 78, 3) := by decide +kernel
theorem dX4_leastHarmBehind_17 : decode cX4_leastHarmBehind 17 = .ok (.ireturn, 1) := by decide +kernel
theorem dX4_leastHarmBehind_18 : decode cX4_leastHarmBehind 18 = .ok (.aload_n 0, 1) := by decide +kernel
theorem dX4_leastHarmBehind_19 : decode cX4_leastHarmBehind 19 = .ok (.iload_n 2, 1) := by decide +kernel
theorem dX4_leastHarmBehind_20 : decode cX4_leastHarmBehind 20 = .ok (.invokestatic 21, 3) := by decide +kernel
theorem dX4_leastHarmBehind_23 : decode cX4_leastHarmBehind 23 = .ok (.ifCond .eq 7, 3) := by decide +kernel
theorem dX4_leastHarmBehind_26 : decode cX4_leastHarmBehind 26 = .ok (.iconst 1, 1) := by decide +kernel
theorem dX4_leastHarmBehind_27 : decode cX4_leastHarmBehind 27 = .ok (.goto 4, 3) := by decide +kernel
theorem dX4_leastHarmBehind_30 : decode cX4_leastHarmBehind 30 = .ok (.iconst 0, 1) := by decide +kernel
theorem dX4_leastHarmBehind_31 : decode cX4_leastHarmBehind 31 = .ok (.istore_n 3, 1) := by decide +kernel
theorem dX4_leastHarmBehind_32 : decode cX4_leastHarmBehind 32 = .ok (.iload_n 3, 1) := by decide +kernel
theorem dX4_leastHarmBehind_33 : decode cX4_leastHarmBehind 33 = .ok (.aload_n 0, 1) := by decide +kernel
theorem dX4_leastHarmBehind_34 : decode cX4_leastHarmBehind 34 = .ok (.getfield 40, 3) := by decide +kernel
theorem dX4_leastHarmBehind_37 : decode cX4_leastHarmBehind 37 = .ok (.bipush 35, 2) := by decide +kernel
theorem dX4_leastHarmBehind_39 : decode cX4_leastHarmBehind 39 = .ok (.iload_n 1, 1) := by decide +kernel
theorem dX4_leastHarmBehind_40 : decode cX4_leastHarmBehind 40 = .ok (.iadd, 1) := by decide +kernel
theorem dX4_leastHarmBehind_41 : decode cX4_leastHarmBehind 41 = .ok (.iaload, 1) := by decide +kernel
theorem dX4_leastHarmBehind_42 : decode cX4_leastHarmBehind 42 = .ok (.ifCond .ne 7, 3) := by decide +kernel
theorem dX4_leastHarmBehind_45 : decode cX4_leastHarmBehind 45 = .ok (.iconst 1, 1) := by decide +kernel
theorem dX4_leastHarmBehind_46 : decode cX4_leastHarmBehind 46 = .ok (.goto 4, 3) := by decide +kernel
theorem dX4_leastHarmBehind_49 : decode cX4_leastHarmBehind 49 = .ok (.iconst 0, 1) := by decide +kernel
theorem dX4_leastHarmBehind_50 : decode cX4_leastHarmBehind 50 = .ok (.if_icmp .ne 7, 3) := by decide +kernel
theorem dX4_leastHarmBehind_53 : decode cX4_leastHarmBehind 53 = .ok (.iconst 1, 1) := by decide +kernel
theorem dX4_leastHarmBehind_54 : decode cX4_leastHarmBehind 54 = .ok (.goto 4, 3) := by decide +kernel
theorem dX4_leastHarmBehind_57 : decode cX4_leastHarmBehind 57 = .ok (.iconst 0, 1) := by decide +kernel
theorem dX4_leastHarmBehind_58 : decode cX4_leastHarmBehind 58 = .ok (.istore 4, 2) := by decide +kernel
theorem dX4_leastHarmBehind_60 : decode cX4_leastHarmBehind 60 = .ok (.iload 4, 2) := by decide +kernel
theorem dX4_leastHarmBehind_62 : decode cX4_leastHarmBehind 62 = .ok (.ifCond .eq 7, 3) := by decide +kernel
theorem dX4_leastHarmBehind_65 : decode cX4_leastHarmBehind 65 = .ok (.iconst 0, 1) := by decide +kernel
theorem dX4_leastHarmBehind_66 : decode cX4_leastHarmBehind 66 = .ok (.goto 20, 3) := by decide +kernel
theorem dX4_leastHarmBehind_69 : decode cX4_leastHarmBehind 69 = .ok (.aload_n 0, 1) := by decide +kernel
theorem dX4_leastHarmBehind_70 : decode cX4_leastHarmBehind 70 = .ok (.getfield 40, 3) := by decide +kernel
theorem dX4_leastHarmBehind_73 : decode cX4_leastHarmBehind 73 = .ok (.bipush 25, 2) := by decide +kernel
theorem dX4_leastHarmBehind_75 : decode cX4_leastHarmBehind 75 = .ok (.iload_n 1, 1) := by decide +kernel
theorem dX4_leastHarmBehind_76 : decode cX4_leastHarmBehind 76 = .ok (.iadd, 1) := by decide +kernel
theorem dX4_leastHarmBehind_77 : decode cX4_leastHarmBehind 77 = .ok (.iaload, 1) := by decide +kernel
theorem dX4_leastHarmBehind_78 : decode cX4_leastHarmBehind 78 = .ok (.aload_n 0, 1) := by decide +kernel
theorem dX4_leastHarmBehind_79 : decode cX4_leastHarmBehind 79 = .ok (.iload_n 2, 1) := by decide +kernel
theorem dX4_leastHarmBehind_80 : decode cX4_leastHarmBehind 80 = .ok (.invokestatic 75, 3) := by decide +kernel
theorem dX4_leastHarmBehind_83 : decode cX4_leastHarmBehind 83 = .ok (.invokestatic 65, 3) := by decide +kernel
theorem dX4_leastHarmBehind_86 : decode cX4_leastHarmBehind 86 = .ok (.ireturn, 1) := by decide +kernel
theorem dX4_harmBetween_0 : decode cX4_harmBetween 0 = .ok (.aload_n 0, 1) := by decide +kernel
theorem dX4_harmBetween_1 : decode cX4_harmBetween 1 = .ok (.getfield 40, 3) := by decide +kernel
theorem dX4_harmBetween_4 : decode cX4_harmBetween 4 = .ok (.bipush 35, 2) := by decide +kernel
theorem dX4_harmBetween_6 : decode cX4_harmBetween 6 = .ok (.iload_n 1, 1) := by decide +kernel
theorem dX4_harmBetween_7 : decode cX4_harmBetween 7 = .ok (.iadd, 1) := by decide +kernel
theorem dX4_harmBetween_8 : decode cX4_harmBetween 8 = .ok (.iaload, 1) := by decide +kernel
theorem dX4_harmBetween_9 : decode cX4_harmBetween 9 = .ok (.aload_n 0, 1) := by decide +kernel
theorem dX4_harmBetween_10 : decode cX4_harmBetween 10 = .ok (.getfield 40, 3) := by decide +kernel
theorem dX4_harmBetween_13 : decode cX4_harmBetween 13 = .ok (.bipush 35, 2) := by decide +kernel
theorem dX4_harmBetween_15 : decode cX4_harmBetween 15 = .ok (.iload_n 2, 1) := by decide +kernel
theorem dX4_harmBetween_16 : decode cX4_harmBetween 16 = .ok (.iadd, 1) := by decide +kernel
theorem dX4_harmBetween_17 : decode cX4_harmBetween 17 = .ok (.iaload, 1) := by decide +kernel
theorem dX4_harmBetween_18 : decode cX4_harmBetween 18 = .ok (.if_icmp .ne 7, 3) := by decide +kernel
theorem dX4_harmBetween_21 : decode cX4_harmBetween 21 = .ok (.iconst 1, 1) := by decide +kernel
theorem dX4_harmBetween_22 : decode cX4_harmBetween 22 = .ok (.goto 4, 3) := by decide +kernel
theorem dX4_harmBetween_25 : decode cX4_harmBetween 25 = .ok (.iconst 0, 1) := by decide +kernel
theorem dX4_harmBetween_26 : decode cX4_harmBetween 26 = .ok (.istore_n 3, 1) := by decide +kernel
theorem dX4_harmBetween_27 : decode cX4_harmBetween 27 = .ok (.iload_n 3, 1) := by decide +kernel
theorem dX4_harmBetween_28 : decode cX4_harmBetween 28 = .ok (.ifCond .eq 7, 3) := by decide +kernel
theorem dX4_harmBetween_31 : decode cX4_harmBetween 31 = .ok (.iconst 0, 1) := by decide +kernel
theorem dX4_harmBetween_32 : decode cX4_harmBetween 32 = .ok (.goto 24, 3) := by decide +kernel
theorem dX4_harmBetween_35 : decode cX4_harmBetween 35 = .ok (.aload_n 0, 1) := by decide +kernel
theorem dX4_harmBetween_36 : decode cX4_harmBetween 36 = .ok (.getfield 40, 3) := by decide +kernel
theorem dX4_harmBetween_39 : decode cX4_harmBetween 39 = .ok (.bipush 25, 2) := by decide +kernel
theorem dX4_harmBetween_41 : decode cX4_harmBetween 41 = .ok (.iload_n 1, 1) := by decide +kernel
theorem dX4_harmBetween_42 : decode cX4_harmBetween 42 = .ok (.iadd, 1) := by decide +kernel
theorem dX4_harmBetween_43 : decode cX4_harmBetween 43 = .ok (.iaload, 1) := by decide +kernel
theorem dX4_harmBetween_44 : decode cX4_harmBetween 44 = .ok (.aload_n 0, 1) := by decide +kernel
theorem dX4_harmBetween_45 : decode cX4_harmBetween 45 = .ok (.getfield 40, 3) := by decide +kernel
theorem dX4_harmBetween_48 : decode cX4_harmBetween 48 = .ok (.bipush 25, 2) := by decide +kernel
theorem dX4_harmBetween_50 : decode cX4_harmBetween 50 = .ok (.iload_n 2, 1) := by decide +kernel
theorem dX4_harmBetween_51 : decode cX4_harmBetween 51 = .ok (.iadd, 1) := by decide +kernel
theorem dX4_harmBetween_52 : decode cX4_harmBetween 52 = .ok (.iaload, 1) := by decide +kernel
theorem dX4_harmBetween_53 : decode cX4_harmBetween 53 = .ok (.invokestatic 65, 3) := by decide +kernel
theorem dX4_harmBetween_56 : decode cX4_harmBetween 56 = .ok (.ireturn, 1) := by decide +kernel
theorem dX4_inHold_0 : decode cX4_inHold 0 = .ok (.iload_n 1, 1) := by decide +kernel
theorem dX4_inHold_1 : decode cX4_inHold 1 = .ok (.istore_n 3, 1) := by decide +kernel
theorem dX4_inHold_2 : decode cX4_inHold 2 = .ok (.aload_n 0, 1) := by decide +kernel
theorem dX4_inHold_3 : decode cX4_inHold 3 = .ok (.iload_n 1, 1) := by decide +kernel
theorem dX4_inHold_4 : decode cX4_inHold 4 = .ok (.invokestatic 78, 3) := by decide +kernel
theorem dX4_inHold_7 : decode cX4_inHold 7 = .ok (.istore 4, 2) := by decide +kernel
theorem dX4_inHold_9 : decode cX4_inHold 9 = .ok (.iconst (-1), 1) := by decide +kernel
theorem dX4_inHold_10 : decode cX4_inHold 10 = .ok (.istore 5, 2) := by decide +kernel
theorem dX4_inHold_12 : decode cX4_inHold 12 = .ok (.iconst 0, 1) := by decide +kernel
theorem dX4_inHold_13 : decode cX4_inHold 13 = .ok (.istore 6, 2) := by decide +kernel
theorem dX4_inHold_15 : decode cX4_inHold 15 = .ok (.iload 6, 2) := by decide +kernel
theorem dX4_inHold_17 : decode cX4_inHold 17 = .ok (.iload_n 2, 1) := by decide +kernel
theorem dX4_inHold_18 : decode cX4_inHold 18 = .ok (.if_icmp .gt 64, 3) := by decide +kernel
theorem dX4_inHold_21 : decode cX4_inHold 21 = .ok (.aload_n 0, 1) := by decide +kernel
theorem dX4_inHold_22 : decode cX4_inHold 22 = .ok (.iload_n 3, 1) := by decide +kernel
theorem dX4_inHold_23 : decode cX4_inHold 23 = .ok (.iload 5, 2) := by decide +kernel
theorem dX4_inHold_25 : decode cX4_inHold 25 = .ok (.iload 4, 2) := by decide +kernel
theorem dX4_inHold_27 : decode cX4_inHold 27 = .ok (.invokestatic 81, 3) := by decide +kernel
theorem dX4_inHold_30 : decode cX4_inHold 30 = .ok (.istore 7, 2) := by decide +kernel
theorem dX4_inHold_32 : decode cX4_inHold 32 = .ok (.iload 7, 2) := by decide +kernel
theorem dX4_inHold_34 : decode cX4_inHold 34 = .ok (.iconst (-1), 1) := by decide +kernel
theorem dX4_inHold_35 : decode cX4_inHold 35 = .ok (.if_icmp .ne 5, 3) := by decide +kernel
theorem dX4_inHold_38 : decode cX4_inHold 38 = .ok (.iconst (-1), 1) := by decide +kernel
theorem dX4_inHold_39 : decode cX4_inHold 39 = .ok (.ireturn, 1) := by decide +kernel
theorem dX4_inHold_40 : decode cX4_inHold 40 = .ok (.iload 4, 2) := by decide +kernel
theorem dX4_inHold_42 : decode cX4_inHold 42 = .ok (.iload 5, 2) := by decide +kernel
theorem dX4_inHold_44 : decode cX4_inHold 44 = .ok (.iconst (-1), 1) := by decide +kernel
theorem dX4_inHold_45 : decode cX4_inHold 45 = .ok (.if_icmp .ne 7, 3) := by decide +kernel
theorem dX4_inHold_48 : decode cX4_inHold 48 = .ok (.iconst 0, 1) := by decide +kernel
theorem dX4_inHold_49 : decode cX4_inHold 49 = .ok (.goto 11, 3) := by decide +kernel
theorem dX4_inHold_52 : decode cX4_inHold 52 = .ok (.aload_n 0, 1) := by decide +kernel
theorem dX4_inHold_53 : decode cX4_inHold 53 = .ok (.iload 5, 2) := by decide +kernel
theorem dX4_inHold_55 : decode cX4_inHold 55 = .ok (.iload 7, 2) := by decide +kernel
theorem dX4_inHold_57 : decode cX4_inHold 57 = .ok (.invokestatic 85, 3) := by decide +kernel
theorem dX4_inHold_60 : decode cX4_inHold 60 = .ok (.isub, 1) := by decide +kernel
theorem dX4_inHold_61 : decode cX4_inHold 61 = .ok (.istore 4, 2) := by decide +kernel
theorem dX4_inHold_63 : decode cX4_inHold 63 = .ok (.iload_n 3, 1) := by decide +kernel
theorem dX4_inHold_64 : decode cX4_inHold 64 = .ok (.iconst 1, 1) := by decide +kernel
theorem dX4_inHold_65 : decode cX4_inHold 65 = .ok (.iload 7, 2) := by decide +kernel
theorem dX4_inHold_67 : decode cX4_inHold 67 = .ok (.ishl, 1) := by decide +kernel
theorem dX4_inHold_68 : decode cX4_inHold 68 = .ok (.iconst (-1), 1) := by decide +kernel
theorem dX4_inHold_69 : decode cX4_inHold 69 = .ok (.ixor, 1) := by decide +kernel
theorem dX4_inHold_70 : decode cX4_inHold 70 = .ok (.iand, 1) := by decide +kernel
theorem dX4_inHold_71 : decode cX4_inHold 71 = .ok (.istore_n 3, 1) := by decide +kernel
theorem dX4_inHold_72 : decode cX4_inHold 72 = .ok (.iload 7, 2) := by decide +kernel
theorem dX4_inHold_74 : decode cX4_inHold 74 = .ok (.istore 5, 2) := by decide +kernel
theorem dX4_inHold_76 : decode cX4_inHold 76 = .ok (.iinc 6 1, 3) := by decide +kernel
theorem dX4_inHold_79 : decode cX4_inHold 79 = .ok (.goto (-64), 3) := by decide +kernel
theorem dX4_inHold_82 : decode cX4_inHold 82 = .ok (.iload 5, 2) := by decide +kernel
theorem dX4_inHold_84 : decode cX4_inHold 84 = .ok (.ireturn, 1) := by decide +kernel
theorem dX4_followingInHold_0 : decode cX4_followingInHold 0 = .ok (.iconst 0, 1) := by decide +kernel
theorem dX4_followingInHold_1 : decode cX4_followingInHold 1 = .ok (.istore 4, 2) := by decide +kernel
theorem dX4_followingInHold_3 : decode cX4_followingInHold 3 = .ok (.iload 4, 2) := by decide +kernel
theorem dX4_followingInHold_5 : decode cX4_followingInHold 5 = .ok (.bipush 10, 2) := by decide +kernel
theorem dX4_followingInHold_7 : decode cX4_followingInHold 7 = .ok (.if_icmp .ge 60, 3) := by decide +kernel
theorem dX4_followingInHold_10 : decode cX4_followingInHold 10 = .ok (.iload_n 1, 1) := by decide +kernel
theorem dX4_followingInHold_11 : decode cX4_followingInHold 11 = .ok (.iconst 1, 1) := by decide +kernel
theorem dX4_followingInHold_12 : decode cX4_followingInHold 12 = .ok (.iload 4, 2) := by decide +kernel
theorem dX4_followingInHold_14 : decode cX4_followingInHold 14 = .ok (.ishl, 1) := by decide +kernel
theorem dX4_followingInHold_15 : decode cX4_followingInHold 15 = .ok (.iand, 1) := by decide +kernel
theorem dX4_followingInHold_16 : decode cX4_followingInHold 16 = .ok (.ifCond .eq 45, 3) := by decide +kernel
theorem dX4_followingInHold_19 : decode cX4_followingInHold 19 = .ok (.iload_n 2, 1) := by decide +kernel
theorem dX4_followingInHold_20 : decode cX4_followingInHold 20 = .ok (.iconst (-1), 1) := by decide +kernel
theorem dX4_followingInHold_21 : decode cX4_followingInHold 21 = .ok (.if_icmp .ne 7, 3) := by decide +kernel
theorem dX4_followingInHold_24 : decode cX4_followingInHold 24 = .ok (.iconst 0, 1) := by decide +kernel
theorem dX4_followingInHold_25 : decode cX4_followingInHold 25 = .ok (.goto 10, 3) := by decide +kernel
theorem dX4_followingInHold_28 : decode cX4_followingInHold 28 = .ok (.aload_n 0, 1) := by decide +kernel
theorem dX4_followingInHold_29 : decode cX4_followingInHold 29 = .ok (.iload_n 2, 1) := by decide +kernel
theorem dX4_followingInHold_30 : decode cX4_followingInHold 30 = .ok (.iload 4, 2) := by decide +kernel
theorem dX4_followingInHold_32 : decode cX4_followingInHold 32 = .ok (.invokestatic 85, 3) := by decide +kernel
theorem dX4_followingInHold_35 : decode cX4_followingInHold 35 = .ok (.istore 5, 2) := by decide +kernel
theorem dX4_followingInHold_37 : decode cX4_followingInHold 37 = .ok (.iload 5, 2) := by decide +kernel
theorem dX4_followingInHold_39 : decode cX4_followingInHold 39 = .ok (.aload_n 0, 1) := by decide +kernel
theorem dX4_followingInHold_40 : decode cX4_followingInHold 40 = .ok (.iload 4, 2) := by decide +kernel
theorem dX4_followingInHold_42 : decode cX4_followingInHold 42 = .ok (.iload_n 1, 1) := by decide +kernel
theorem dX4_followingInHold_43 : decode cX4_followingInHold 43 = .ok (.iconst 1, 1) := by decide +kernel
theorem dX4_followingInHold_44 : decode cX4_followingInHold 44 = .ok (.iload 4, 2) := by decide +kernel
theorem dX4_followingInHold_46 : decode cX4_followingInHold 46 = .ok (.ishl, 1) := by decide +kernel
theorem dX4_followingInHold_47 : decode cX4_followingInHold 47 = .ok (.iconst (-1), 1) := by decide +kernel
theorem dX4_followingInHold_48 : decode cX4_followingInHold 48 = .ok (.ixor, 1) := by decide +kernel
theorem dX4_followingInHold_49 : decode cX4_followingInHold 49 = .ok (.iand, 1) := by decide +kernel
theorem dX4_followingInHold_50 : decode cX4_followingInHold 50 = .ok (.invokestatic 88, 3) := by decide +kernel
theorem dX4_followingInHold_53 : decode cX4_followingInHold 53 = .ok (.iadd, 1) := by decide +kernel
theorem dX4_followingInHold_54 : decode cX4_followingInHold 54 = .ok (.iload_n 3, 1) := by decide +kernel
theorem dX4_followingInHold_55 : decode cX4_followingInHold 55 = .ok (.if_icmp .gt 6, 3) := by decide +kernel
theorem dX4_followingInHold_58 : decode cX4_followingInHold 58 = .ok (.iload 4, 2) := by decide +kernel
theorem dX4_followingInHold_60 : decode cX4_followingInHold 60 = .ok (.ireturn, 1) := by decide +kernel
theorem dX4_followingInHold_61 : decode cX4_followingInHold 61 = .ok (.iinc 4 1, 3) := by decide +kernel
theorem dX4_followingInHold_64 : decode cX4_followingInHold 64 = .ok (.goto (-61), 3) := by decide +kernel
theorem dX4_followingInHold_67 : decode cX4_followingInHold 67 = .ok (.iconst (-1), 1) := by decide +kernel
theorem dX4_followingInHold_68 : decode cX4_followingInHold 68 = .ok (.ireturn, 1) := by decide +kernel
theorem dX5_init_0 : decode cX5_init 0 = .ok (.aload_n 0, 1) := by decide +kernel
theorem dX5_init_1 : decode cX5_init 1 = .ok (.invokespecial 3, 3) := by decide +kernel
theorem dX5_init_4 : decode cX5_init 4 = .ok (.aload_n 0, 1) := by decide +kernel
theorem dX5_init_5 : decode cX5_init 5 = .ok (.sipush 700, 3) := by decide +kernel
theorem dX5_init_8 : decode cX5_init 8 = .ok (.newarray .byte, 2) := by decide +kernel
theorem dX5_init_10 : decode cX5_init 10 = .ok (.putfield 9, 3) := by decide +kernel
theorem dX5_init_13 : decode cX5_init 13 = .ok (.aload_n 0, 1) := by decide +kernel
theorem dX5_init_14 : decode cX5_init 14 = .ok (.iconst 0, 1) := by decide +kernel
theorem dX5_init_15 : decode cX5_init 15 = .ok (.putfield 15, 3) := by decide +kernel
theorem dX5_init_18 : decode cX5_init 18 = .ok (.aload_n 0, 1) := by decide +kernel
theorem dX5_init_19 : decode cX5_init 19 = .ok (.iconst 0, 1) := by decide +kernel
theorem dX5_init_20 : decode cX5_init 20 = .ok (.putfield 19, 3) := by decide +kernel
theorem dX5_init_23 : decode cX5_init 23 = .ok (.aload_n 0, 1) := by decide +kernel
theorem dX5_init_24 : decode cX5_init 24 = .ok (.iconst 0, 1) := by decide +kernel
theorem dX5_init_25 : decode cX5_init 25 = .ok (.putfield 22, 3) := by decide +kernel
theorem dX5_init_28 : decode cX5_init 28 = .ok (.aload_n 0, 1) := by decide +kernel
theorem dX5_init_29 : decode cX5_init 29 = .ok (.iconst 0, 1) := by decide +kernel
theorem dX5_init_30 : decode cX5_init 30 = .ok (.putfield 25, 3) := by decide +kernel
theorem dX5_init_33 : decode cX5_init 33 = .ok (.aload_n 0, 1) := by decide +kernel
theorem dX5_init_34 : decode cX5_init 34 = .ok (.iconst 0, 1) := by decide +kernel
theorem dX5_init_35 : decode cX5_init 35 = .ok (.putfield 28, 3) := by decide +kernel
theorem dX5_init_38 : decode cX5_init 38 = .ok (.aload_n 0, 1) := by decide +kernel
theorem dX5_init_39 : decode cX5_init 39 = .ok (.iconst 0, 1) := by decide +kernel
theorem dX5_init_40 : decode cX5_init 40 = .ok (.putfield 31, 3) := by decide +kernel
theorem dX5_init_43 : decode cX5_init 43 = .ok (.aload_n 0, 1) := by decide +kernel
theorem dX5_init_44 : decode cX5_init 44 = .ok (.new 34, 3) := by decide +kernel
theorem dX5_init_47 : decode cX5_init 47 = .ok (.dup, 1) := by decide +kernel
theorem dX5_init_48 : decode cX5_init 48 = .ok (.invokespecial 36, 3) := by decide +kernel
theorem dX5_init_51 : decode cX5_init 51 = .ok (.putfield 37, 3) := by decide +kernel
theorem dX5_init_54 : decode cX5_init 54 = .ok (.aload_n 0, 1) := by decide +kernel
theorem dX5_init_55 : decode cX5_init 55 = .ok (.iconst 0, 1) := by decide +kernel
theorem dX5_init_56 : decode cX5_init 56 = .ok (.putfield 41, 3) := by decide +kernel
theorem dX5_init_59 : decode cX5_init 59 = .ok (.aload_n 0, 1) := by decide +kernel
theorem dX5_init_60 : decode cX5_init 60 = .ok (.iconst (-1), 1) := by decide +kernel
theorem dX5_init_61 : decode cX5_init 61 = .ok (.putfield 44, 3) := by decide +kernel
theorem dX5_init_64 : decode cX5_init 64 = .ok (.return_, 1) := by decide +kernel
theorem dX5_read_0 : decode cX5_read 0 = .ok (.aload_n 0, 1) := by decide +kernel
theorem dX5_read_1 : decode cX5_read 1 = .ok (.iload_n 1, 1) := by decide +kernel
theorem dX5_read_2 : decode cX5_read 2 = .ok (.sipush 700, 3) := by decide +kernel
theorem dX5_read_5 : decode cX5_read 5 = .ok (.invokestatic 47, 3) := by decide +kernel
theorem dX5_read_8 : decode cX5_read 8 = .ok (.putfield 15, 3) := by decide +kernel
theorem dX5_read_11 : decode cX5_read 11 = .ok (.aload_n 0, 1) := by decide +kernel
theorem dX5_read_12 : decode cX5_read 12 = .ok (.getfield 37, 3) := by decide +kernel
theorem dX5_read_15 : decode cX5_read 15 = .ok (.invokevirtual 53, 3) := by decide +kernel
theorem dX5_read_18 : decode cX5_read 18 = .ok (.aload_n 0, 1) := by decide +kernel
theorem dX5_read_19 : decode cX5_read 19 = .ok (.iconst 0, 1) := by decide +kernel
theorem dX5_read_20 : decode cX5_read 20 = .ok (.putfield 22, 3) := by decide +kernel
theorem dX5_read_23 : decode cX5_read 23 = .ok (.aload_n 0, 1) := by decide +kernel
theorem dX5_read_24 : decode cX5_read 24 = .ok (.iconst 0, 1) := by decide +kernel
theorem dX5_read_25 : decode cX5_read 25 = .ok (.putfield 41, 3) := by decide +kernel
theorem dX5_read_28 : decode cX5_read 28 = .ok (.aload_n 0, 1) := by decide +kernel
theorem dX5_read_29 : decode cX5_read 29 = .ok (.iconst (-1), 1) := by decide +kernel
theorem dX5_read_30 : decode cX5_read 30 = .ok (.putfield 44, 3) := by decide +kernel
theorem dX5_read_33 : decode cX5_read 33 = .ok (.aload_n 0, 1) := by decide +kernel
theorem dX5_read_34 : decode cX5_read 34 = .ok (.invokevirtual 56, 3) := by decide +kernel
theorem dX5_read_37 : decode cX5_read 37 = .ok (.iconst 1, 1) := by decide +kernel
theorem dX5_read_38 : decode cX5_read 38 = .ok (.istore_n 2, 1) := by decide +kernel
theorem dX5_read_39 : decode cX5_read 39 = .ok (.iconst 0, 1) := by decide +kernel
theorem dX5_read_40 : decode cX5_read 40 = .ok (.istore_n 3, 1) := by decide +kernel
theorem dX5_read_41 : decode cX5_read 41 = .ok (.iload_n 3, 1) := by decide +kernel
theorem dX5_read_42 : decode cX5_read 42 = .ok (.sipush 700, 3) := by decide +kernel
theorem dX5_read_45 : decode cX5_read 45 = .ok (.if_icmp .ge 25, 3) := by decide +kernel
theorem dX5_read_48 : decode cX5_read 48 = .ok (.iload_n 2, 1) := by decide +kernel
theorem dX5_read_49 : decode cX5_read 49 = .ok (.ifCond .eq 21, 3) := by decide +kernel
theorem dX5_read_52 : decode cX5_read 52 = .ok (.aload_n 0, 1) := by decide +kernel
theorem dX5_read_53 : decode cX5_read 53 = .ok (.getfield 25, 3) := by decide +kernel
theorem dX5_read_56 : decode cX5_read 56 = .ok (.ifCond .eq 14, 3) := by decide +kernel
theorem dX5_read_59 : decode cX5_read 59 = .ok (.aload_n 0, 1) := by decide +kernel
theorem dX5_read_60 : decode cX5_read 60 = .ok (.invokevirtual 59, 3) := by decide +kernel
theorem dX5_read_63 : decode cX5_read 63 = .ok (.istore_n 2, 1) := by decide +kernel
theorem dX5_read_64 : decode cX5_read 64 = .ok (.iinc 3 1, 3) := by decide +kernel
theorem dX5_read_67 : decode cX5_read 67 = .ok (.goto (-26), 3) := by decide +kernel
theorem dX5_read_70 : decode cX5_read 70 = .ok (.return_, 1) := by decide +kernel
theorem dX5_fail_0 : decode cX5_fail 0 = .ok (.aload_n 0, 1) := by decide +kernel
theorem dX5_fail_1 : decode cX5_fail 1 = .ok (.iload_n 1, 1) := by decide +kernel
theorem dX5_fail_2 : decode cX5_fail 2 = .ok (.putfield 41, 3) := by decide +kernel
theorem dX5_fail_5 : decode cX5_fail 5 = .ok (.aload_n 0, 1) := by decide +kernel
theorem dX5_fail_6 : decode cX5_fail 6 = .ok (.aload_n 0, 1) := by decide +kernel
theorem dX5_fail_7 : decode cX5_fail 7 = .ok (.getfield 19, 3) := by decide +kernel
theorem dX5_fail_10 : decode cX5_fail 10 = .ok (.putfield 44, 3) := by decide +kernel
theorem dX5_fail_13 : decode cX5_fail 13 = .ok (.iconst 0, 1) := by decide +kernel
theorem dX5_fail_14 : decode cX5_fail 14 = .ok (.ireturn, 1) := by decide +kernel
theorem dX5_advance_0 : decode cX5_advance 0 = .ok (.aload_n 0, 1) := by decide +kernel
theorem dX5_advance_1 : decode cX5_advance 1 = .ok (.aload_n 0, 1) := by decide +kernel
theorem dX5_advance_2 : decode cX5_advance 2 = .ok (.getfield 22, 3) := by decide +kernel
theorem dX5_advance_5 : decode cX5_advance 5 = .ok (.putfield 19, 3) := by decide +kernel
theorem dX5_advance_8 : decode cX5_advance 8 = .ok (.aload_n 0, 1) := by decide +kernel
theorem dX5_advance_9 : decode cX5_advance 9 = .ok (.getfield 19, 3) := by decide +kernel
theorem dX5_advance_12 : decode cX5_advance 12 = .ok (.aload_n 0, 1) := by decide +kernel
theorem dX5_advance_13 : decode cX5_advance 13 = .ok (.getfield 15, 3) := by decide +kernel
theorem dX5_advance_16 : decode cX5_advance 16 = .ok (.if_icmp .ge 44, 3) := by decide +kernel
theorem dX5_advance_19 : decode cX5_advance 19 = .ok (.aload_n 0, 1) := by decide +kernel
theorem dX5_advance_20 : decode cX5_advance 20 = .ok (.getfield 9, 3) := by decide +kernel
theorem dX5_advance_23 : decode cX5_advance 23 = .ok (.aload_n 0, 1) := by decide +kernel
theorem dX5_advance_24 : decode cX5_advance 24 = .ok (.getfield 19, 3) := by decide +kernel
theorem dX5_advance_27 : decode cX5_advance 27 = .ok (.baload, 1) := by decide +kernel
theorem dX5_advance_28 : decode cX5_advance 28 = .ok (.bipush 32, 2) := by decide +kernel
theorem dX5_advance_30 : decode cX5_advance 30 = .ok (.if_icmp .eq 17, 3) := by decide +kernel
theorem dX5_advance_33 : decode cX5_advance 33 = .ok (.aload_n 0, 1) := by decide +kernel
theorem dX5_advance_34 : decode cX5_advance 34 = .ok (.getfield 9, 3) := by decide +kernel
theorem dX5_advance_37 : decode cX5_advance 37 = .ok (.aload_n 0, 1) := by decide +kernel
theorem dX5_advance_38 : decode cX5_advance 38 = .ok (.getfield 19, 3) := by decide +kernel
theorem dX5_advance_41 : decode cX5_advance 41 = .ok (.baload, 1) := by decide +kernel
theorem dX5_advance_42 : decode cX5_advance 42 = .ok (.bipush 10, 2) := by decide +kernel
theorem dX5_advance_44 : decode cX5_advance 44 = .ok (.if_icmp .ne 16, 3) := by decide +kernel
theorem dX5_advance_47 : decode cX5_advance 47 = .ok (.aload_n 0, 1) := by decide +kernel
theorem dX5_advance_48 : decode cX5_advance 48 = .ok (.dup, 1) := by decide +kernel
theorem dX5_advance_49 : decode cX5_advance 49 = .ok (.getfield 19, 3) := by decide +kernel
theorem dX5_advance_52 : decode cX5_advance 52 = .ok (.iconst 1, 1) := by decide +kernel
theorem dX5_advance_53 : decode cX5_advance 53 = .ok (.iadd, 1) := by decide +kernel
theorem dX5_advance_54 : decode cX5_advance 54 = .ok (.putfield 19, 3) := by decide +kernel
theorem dX5_advance_57 : decode cX5_advance 57 = .ok (.goto (-49), 3) := by decide +kernel
theorem dX5_advance_60 : decode cX5_advance 60 = .ok (.aload_n 0, 1) := by decide +kernel
theorem dX5_advance_61 : decode cX5_advance 61 = .ok (.aload_n 0, 1) := by decide +kernel
theorem dX5_advance_62 : decode cX5_advance 62 = .ok (.getfield 19, 3) := by decide +kernel
theorem dX5_advance_65 : decode cX5_advance 65 = .ok (.putfield 22, 3) := by decide +kernel
theorem dX5_advance_68 : decode cX5_advance 68 = .ok (.aload_n 0, 1) := by decide +kernel
theorem dX5_advance_69 : decode cX5_advance 69 = .ok (.getfield 19, 3) := by decide +kernel
theorem dX5_advance_72 : decode cX5_advance 72 = .ok (.aload_n 0, 1) := by decide +kernel
theorem dX5_advance_73 : decode cX5_advance 73 = .ok (.getfield 15, 3) := by decide +kernel
theorem dX5_advance_76 : decode cX5_advance 76 = .ok (.if_icmp .lt 11, 3) := by decide +kernel
theorem dX5_advance_79 : decode cX5_advance 79 = .ok (.aload_n 0, 1) := by decide +kernel
theorem dX5_advance_80 : decode cX5_advance 80 = .ok (.iconst 0, 1) := by decide +kernel
theorem dX5_advance_81 : decode cX5_advance 81 = .ok (.putfield 25, 3) := by decide +kernel
theorem dX5_advance_84 : decode cX5_advance 84 = .ok (.goto 198, 3) := by decide +kernel
theorem dX5_advance_87 : decode cX5_advance 87 = .ok (.aload_n 0, 1) := by decide +kernel
theorem dX5_advance_88 : decode cX5_advance 88 = .ok (.getfield 9, 3) := by decide +kernel
theorem dX5_advance_91 : decode cX5_advance 91 = .ok (.aload_n 0, 1) := by decide +kernel
theorem dX5_advance_92 : decode cX5_advance 92 = .ok (.getfield 19, 3) := by decide +kernel
theorem dX5_advance_95 : decode cX5_advance 95 = .ok (.baload, 1) := by decide +kernel
theorem dX5_advance_96 : decode cX5_advance 96 = .ok (.invokestatic 63, 3) := by decide +kernel
theorem dX5_advance_99 : decode cX5_advance 99 = .ok (.ifCond .eq 47, 3) := by decide +kernel
theorem dX5_advance_102 : decode cX5_advance 102 = .ok (.aload_n 0, 1) := by decide +kernel
theorem dX5_advance_103 : decode cX5_advance 103 = .ok (.iconst 2, 1) := by decide +kernel
theorem dX5_advance_104 : decode cX5_advance 104 = .ok (.putfield 25, 3) := by decide +kernel
theorem dX5_advance_107 : decode cX5_advance 107 = .ok (.aload_n 0, 1) := by decide +kernel
theorem dX5_advance_108 : decode cX5_advance 108 = .ok (.getfield 22, 3) := by decide +kernel
theorem dX5_advance_111 : decode cX5_advance 111 = .ok (.aload_n 0, 1) := by decide +kernel
theorem dX5_advance_112 : decode cX5_advance 112 = .ok (.getfield 15, 3) := by decide +kernel
theorem dX5_advance_115 : decode cX5_advance 115 = .ok (.if_icmp .ge 167, 3) := by decide +kernel
theorem dX5_advance_118 : decode cX5_advance 118 = .ok (.aload_n 0, 1) := by decide +kernel
theorem dX5_advance_119 : decode cX5_advance 119 = .ok (.getfield 9, 3) := by decide +kernel
theorem dX5_advance_122 : decode cX5_advance 122 = .ok (.aload_n 0, 1) := by decide +kernel
theorem dX5_advance_123 : decode cX5_advance 123 = .ok (.getfield 22, 3) := by decide +kernel
theorem dX5_advance_126 : decode cX5_advance 126 = .ok (.baload, 1) := by decide +kernel
theorem dX5_advance_127 : decode cX5_advance 127 = .ok (.invokestatic 63, 3) := by decide +kernel
theorem dX5_advance_130 : decode cX5_advance 130 = .ok (.ifCond .eq 152, 3) := by decide +kernel
theorem dX5_advance_133 : decode cX5_advance 133 = .ok (.aload_n 0, 1) := by decide +kernel
theorem dX5_advance_134 : decode cX5_advance 134 = .ok (.dup, 1) := by decide +kernel
theorem dX5_advance_135 : decode cX5_advance 135 = .ok (.getfield 22, 3) := by decide +kernel
theorem dX5_advance_138 : decode cX5_advance 138 = .ok (.iconst 1, 1) := by decide +kernel
theorem dX5_advance_139 : decode cX5_advance 139 = .ok (.iadd, 1) := by decide +kernel
theorem dX5_advance_140 : decode cX5_advance 140 = .ok (.putfield 22, 3) := by decide +kernel
theorem dX5_advance_143 : decode cX5_advance 143 = .ok (.goto (-36), 3) := by decide +kernel
theorem dX5_advance_146 : decode cX5_advance 146 = .ok (.aload_n 0, 1) := by decide +kernel
theorem dX5_advance_147 : decode cX5_advance 147 = .ok (.getfield 9, 3) := by decide +kernel
theorem dX5_advance_150 : decode cX5_advance 150 = .ok (.aload_n 0, 1) := by decide +kernel
theorem dX5_advance_151 : decode cX5_advance 151 = .ok (.getfield 19, 3) := by decide +kernel
theorem dX5_advance_154 : decode cX5_advance 154 = .ok (.baload, 1) := by decide +kernel
theorem dX5_advance_155 : decode cX5_advance 155 = .ok (.invokestatic 67, 3) := by decide +kernel
theorem dX5_advance_158 : decode cX5_advance 158 = .ok (.ifCond .eq 90, 3) := by decide +kernel
theorem dX5_advance_161 : decode cX5_advance 161 = .ok (.aload_n 0, 1) := by decide +kernel
theorem dX5_advance_162 : decode cX5_advance 162 = .ok (.iconst 3, 1) := by decide +kernel
theorem dX5_advance_163 : decode cX5_advance 163 = .ok (.putfield 25, 3) := by decide +kernel
theorem dX5_advance_166 : decode cX5_advance 166 = .ok (.aload_n 0, 1) := by decide +kernel
theorem dX5_advance_167 : decode cX5_advance 167 = .ok (.iconst 0, 1) := by decide +kernel
theorem dX5_advance_168 : decode cX5_advance 168 = .ok (.putfield 28, 3) := by decide +kernel
theorem dX5_advance_171 : decode cX5_advance 171 = .ok (.aload_n 0, 1) := by decide +kernel
theorem dX5_advance_172 : decode cX5_advance 172 = .ok (.getfield 22, 3) := by decide +kernel
theorem dX5_advance_175 : decode cX5_advance 175 = .ok (.aload_n 0, 1) := by decide +kernel
theorem dX5_advance_176 : decode cX5_advance 176 = .ok (.getfield 15, 3) := by decide +kernel
theorem dX5_advance_179 : decode cX5_advance 179 = .ok (.if_icmp .ge 103, 3) := by decide +kernel
theorem dX5_advance_182 : decode cX5_advance 182 = .ok (.aload_n 0, 1) := by decide +kernel
theorem dX5_advance_183 : decode cX5_advance 183 = .ok (.getfield 9, 3) := by decide +kernel
theorem dX5_advance_186 : decode cX5_advance 186 = .ok (.aload_n 0, 1) := by decide +kernel
theorem dX5_advance_187 : decode cX5_advance 187 = .ok (.getfield 22, 3) := by decide +kernel
theorem dX5_advance_190 : decode cX5_advance 190 = .ok (.baload, 1) := by decide +kernel
theorem dX5_advance_191 : decode cX5_advance 191 = .ok (.invokestatic 67, 3) := by decide +kernel
theorem dX5_advance_194 : decode cX5_advance 194 = .ok (.ifCond .eq 88, 3) := by decide +kernel
theorem dX5_advance_197 : decode cX5_advance 197 = .ok (.aload_n 0, 1) := by decide +kernel
theorem dX5_advance_198 : decode cX5_advance 198 = .ok (.aload_n 0, 1) := by decide +kernel
theorem dX5_advance_199 : decode cX5_advance 199 = .ok (.invokevirtual 70, 3) := by decide +kernel
theorem dX5_advance_202 : decode cX5_advance 202 = .ok (.ifCond .eq 10, 3) := by decide +kernel
theorem dX5_advance_205 : decode cX5_advance 205 = .ok (.aload_n 0, 1) := by decide +kernel
theorem dX5_advance_206 : decode cX5_advance 206 = .ok (.getfield 28, 3) := by decide +kernel
theorem dX5_advance_209 : decode cX5_advance 209 = .ok (.goto 23, 3) := by decide +kernel
theorem dX5_advance_212 : decode cX5_advance 212 = .ok (.aload_n 0, 1) := by decide +kernel
theorem dX5_advance_213 : decode cX5_advance 213 = .ok (.getfield 28, 3) := by decide +kernel
theorem dX5_advance_216 : decode cX5_advance 216 = .ok (.bipush 10, 2) := by decide +kernel
theorem dX5_advance_218 : decode cX5_advance 218 = .ok (.imul, 1) := by decide +kernel
theorem dX5_advance_219 : decode cX5_advance 219 = .ok (.aload_n 0, 1) := by decide +kernel
theorem dX5_advance_220 : decode cX5_advance 220 = .ok (.getfield 9, 3) := by decide +kernel
theorem dX5_advance_223 : decode cX5_advance 223 = .ok (.aload_n 0, 1) := by decide +kernel
theorem dX5_advance_224 : decode cX5_advance 224 = .ok (.getfield 22, 3) := by decide +kernel
theorem dX5_advance_227 : decode cX5_advance 227 = .ok (.baload, 1) := by decide +kernel
theorem dX5_advance_228 : decode cX5_advance 228 = .ok (.bipush 48, 2) := by decide +kernel
theorem dX5_advance_230 : decode cX5_advance 230 = .ok (.isub, 1) := by decide +kernel
theorem dX5_advance_231 : decode cX5_advance 231 = .ok (.iadd, 1) := by decide +kernel
theorem dX5_advance_232 : decode cX5_advance 232 = .ok (.putfield 28, 3) := by decide +kernel
theorem dX5_advance_235 : decode cX5_advance 235 = .ok (.aload_n 0, 1) := by decide +kernel
theorem dX5_advance_236 : decode cX5_advance 236 = .ok (.dup, 1) := by decide +kernel
theorem dX5_advance_237 : decode cX5_advance 237 = .ok (.getfield 22, 3) := by decide +kernel
theorem dX5_advance_240 : decode cX5_advance 240 = .ok (.iconst 1, 1) := by decide +kernel
theorem dX5_advance_241 : decode cX5_advance 241 = .ok (.iadd, 1) := by decide +kernel
theorem dX5_advance_242 : decode cX5_advance 242 = .ok (.putfield 22, 3) := by decide +kernel
theorem dX5_advance_245 : decode cX5_advance 245 = .ok (.goto (-74), 3) := by decide +kernel
theorem dX5_advance_248 : decode cX5_advance 248 = .ok (.aload_n 0, 1) := by decide +kernel
theorem dX5_advance_249 : decode cX5_advance 249 = .ok (.aload_n 0, 1) := by decide +kernel
theorem dX5_advance_250 : decode cX5_advance 250 = .ok (.getfield 9, 3) := by decide +kernel
theorem dX5_advance_253 : decode cX5_advance 253 = .ok (.aload_n 0, 1) := by decide +kernel
theorem dX5_advance_254 : decode cX5_advance 254 = .ok (.getfield 19, 3) := by decide +kernel
theorem dX5_advance_257 : decode cX5_advance 257 = .ok (.baload, 1) := by decide +kernel
theorem dX5_advance_258 : decode cX5_advance 258 = .ok (.invokestatic 73, 3) := by decide +kernel
theorem dX5_advance_261 : decode cX5_advance 261 = .ok (.ifCond .eq 7, 3) := by decide +kernel
theorem dX5_advance_264 : decode cX5_advance 264 = .ok (.iconst 4, 1) := by decide +kernel
theorem dX5_advance_265 : decode cX5_advance 265 = .ok (.goto 4, 3) := by decide +kernel
theorem dX5_advance_268 : decode cX5_advance 268 = .ok (.iconst 1, 1) := by decide +kernel
theorem dX5_advance_269 : decode cX5_advance 269 = .ok (.putfield 25, 3) := by decide +kernel
theorem dX5_advance_272 : decode cX5_advance 272 = .ok (.aload_n 0, 1) := by decide +kernel
theorem dX5_advance_273 : decode cX5_advance 273 = .ok (.dup, 1) := by decide +kernel
theorem dX5_advance_274 : decode cX5_advance 274 = .ok (.getfield 22, 3) := by decide +kernel
theorem dX5_advance_277 : decode cX5_advance 277 = .ok (.iconst 1, 1) := by decide +kernel
theorem dX5_advance_278 : decode cX5_advance 278 = .ok (.iadd, 1) := by decide +kernel
theorem dX5_advance_279 : decode cX5_advance 279 = .ok (.putfield 22, 3) := by decide +kernel
theorem dX5_advance_282 : decode cX5_advance 282 = .ok (.return_, 1) := by decide +kernel
theorem dX5_isLetter_0 : decode cX5_isLetter 0 = .ok (.iload_n 0, 1) := by decide +kernel
theorem dX5_isLetter_1 : decode cX5_isLetter 1 = .ok (.bipush 97, 2) := by decide +kernel
theorem dX5_isLetter_3 : decode cX5_isLetter 3 = .ok (.if_icmp .lt 13, 3) := by decide +kernel
theorem dX5_isLetter_6 : decode cX5_isLetter 6 = .ok (.iload_n 0, 1) := by decide +kernel
theorem dX5_isLetter_7 : decode cX5_isLetter 7 = .ok (.bipush 122, 2) := by decide +kernel
theorem dX5_isLetter_9 : decode cX5_isLetter 9 = .ok (.if_icmp .gt 7, 3) := by decide +kernel
theorem dX5_isLetter_12 : decode cX5_isLetter 12 = .ok (.iconst 1, 1) := by decide +kernel
theorem dX5_isLetter_13 : decode cX5_isLetter 13 = .ok (.goto 4, 3) := by decide +kernel
theorem dX5_isLetter_16 : decode cX5_isLetter 16 = .ok (.iconst 0, 1) := by decide +kernel
theorem dX5_isLetter_17 : decode cX5_isLetter 17 = .ok (.ireturn, 1) := by decide +kernel
theorem dX5_isDigit_0 : decode cX5_isDigit 0 = .ok (.iload_n 0, 1) := by decide +kernel
theorem dX5_isDigit_1 : decode cX5_isDigit 1 = .ok (.bipush 48, 2) := by decide +kernel
theorem dX5_isDigit_3 : decode cX5_isDigit 3 = .ok (.if_icmp .lt 13, 3) := by decide +kernel
theorem dX5_isDigit_6 : decode cX5_isDigit 6 = .ok (.iload_n 0, 1) := by decide +kernel
theorem dX5_isDigit_7 : decode cX5_isDigit 7 = .ok (.bipush 57, 2) := by decide +kernel
theorem dX5_isDigit_9 : decode cX5_isDigit 9 = .ok (.if_icmp .gt 7, 3) := by decide +kernel
theorem dX5_isDigit_12 : decode cX5_isDigit 12 = .ok (.iconst 1, 1) := by decide +kernel
theorem dX5_isDigit_13 : decode cX5_isDigit 13 = .ok (.goto 4, 3) := by decide +kernel
theorem dX5_isDigit_16 : decode cX5_isDigit 16 = .ok (.iconst 0, 1) := by decide +kernel
theorem dX5_isDigit_17 : decode cX5_isDigit 17 = .ok (.ireturn, 1) := by decide +kernel
theorem dX5_isSign_0 : decode cX5_isSign 0 = .ok (.iload_n 0, 1) := by decide +kernel
theorem dX5_isSign_1 : decode cX5_isSign 1 = .ok (.bipush 59, 2) := by decide +kernel
theorem dX5_isSign_3 : decode cX5_isSign 3 = .ok (.if_icmp .eq 51, 3) := by decide +kernel
theorem dX5_isSign_6 : decode cX5_isSign 6 = .ok (.iload_n 0, 1) := by decide +kernel
theorem dX5_isSign_7 : decode cX5_isSign 7 = .ok (.bipush 40, 2) := by decide +kernel
theorem dX5_isSign_9 : decode cX5_isSign 9 = .ok (.if_icmp .eq 45, 3) := by decide +kernel
theorem dX5_isSign_12 : decode cX5_isSign 12 = .ok (.iload_n 0, 1) := by decide +kernel
theorem dX5_isSign_13 : decode cX5_isSign 13 = .ok (.bipush 41, 2) := by decide +kernel
theorem dX5_isSign_15 : decode cX5_isSign 15 = .ok (.if_icmp .eq 39, 3) := by decide +kernel
theorem dX5_isSign_18 : decode cX5_isSign 18 = .ok (.iload_n 0, 1) := by decide +kernel
theorem dX5_isSign_19 : decode cX5_isSign 19 = .ok (.bipush 43, 2) := by decide +kernel
theorem dX5_isSign_21 : decode cX5_isSign 21 = .ok (.if_icmp .eq 33, 3) := by decide +kernel
theorem dX5_isSign_24 : decode cX5_isSign 24 = .ok (.iload_n 0, 1) := by decide +kernel
theorem dX5_isSign_25 : decode cX5_isSign 25 = .ok (.bipush 45, 2) := by decide +kernel
theorem dX5_isSign_27 : decode cX5_isSign 27 = .ok (.if_icmp .eq 27, 3) := by decide +kernel
theorem dX5_isSign_30 : decode cX5_isSign 30 = .ok (.iload_n 0, 1) := by decide +kernel
theorem dX5_isSign_31 : decode cX5_isSign 31 = .ok (.bipush 42, 2) := by decide +kernel
theorem dX5_isSign_33 : decode cX5_isSign 33 = .ok (.if_icmp .eq 21, 3) := by decide +kernel
theorem dX5_isSign_36 : decode cX5_isSign 36 = .ok (.iload_n 0, 1) := by decide +kernel
theorem dX5_isSign_37 : decode cX5_isSign 37 = .ok (.bipush 47, 2) := by decide +kernel
theorem dX5_isSign_39 : decode cX5_isSign 39 = .ok (.if_icmp .eq 15, 3) := by decide +kernel
theorem dX5_isSign_42 : decode cX5_isSign 42 = .ok (.iload_n 0, 1) := by decide +kernel
theorem dX5_isSign_43 : decode cX5_isSign 43 = .ok (.bipush 60, 2) := by decide +kernel
theorem dX5_isSign_45 : decode cX5_isSign 45 = .ok (.if_icmp .eq 9, 3) := by decide +kernel
theorem dX5_isSign_48 : decode cX5_isSign 48 = .ok (.iload_n 0, 1) := by decide +kernel
theorem dX5_isSign_49 : decode cX5_isSign 49 = .ok (.bipush 61, 2) := by decide +kernel
theorem dX5_isSign_51 : decode cX5_isSign 51 = .ok (.if_icmp .ne 7, 3) := by decide +kernel
theorem dX5_isSign_54 : decode cX5_isSign 54 = .ok (.iconst 1, 1) := by decide +kernel
theorem dX5_isSign_55 : decode cX5_isSign 55 = .ok (.goto 4, 3) := by decide +kernel
theorem dX5_isSign_58 : decode cX5_isSign 58 = .ok (.iconst 0, 1) := by decide +kernel
theorem dX5_isSign_59 : decode cX5_isSign 59 = .ok (.ireturn, 1) := by decide +kernel
theorem dX5_isMark_0 : decode cX5_isMark 0 = .ok (.aload_n 0, 1) := by decide +kernel
theorem dX5_isMark_1 : decode cX5_isMark 1 = .ok (.getfield 25, 3) := by decide +kernel
theorem dX5_isMark_4 : decode cX5_isMark 4 = .ok (.iconst 4, 1) := by decide +kernel
theorem dX5_isMark_5 : decode cX5_isMark 5 = .ok (.if_icmp .ne 20, 3) := by decide +kernel
theorem dX5_isMark_8 : decode cX5_isMark 8 = .ok (.aload_n 0, 1) := by decide +kernel
theorem dX5_isMark_9 : decode cX5_isMark 9 = .ok (.getfield 9, 3) := by decide +kernel
theorem dX5_isMark_12 : decode cX5_isMark 12 = .ok (.aload_n 0, 1) := by decide +kernel
theorem dX5_isMark_13 : decode cX5_isMark 13 = .ok (.getfield 19, 3) := by decide +kernel
theorem dX5_isMark_16 : decode cX5_isMark 16 = .ok (.baload, 1) := by decide +kernel
theorem dX5_isMark_17 : decode cX5_isMark 17 = .ok (.iload_n 1, 1) := by decide +kernel
theorem dX5_isMark_18 : decode cX5_isMark 18 = .ok (.if_icmp .ne 7, 3) := by decide +kernel
theorem dX5_isMark_21 : decode cX5_isMark 21 = .ok (.iconst 1, 1) := by decide +kernel
theorem dX5_isMark_22 : decode cX5_isMark 22 = .ok (.goto 4, 3) := by decide +kernel
theorem dX5_isMark_25 : decode cX5_isMark 25 = .ok (.iconst 0, 1) := by decide +kernel
theorem dX5_isMark_26 : decode cX5_isMark 26 = .ok (.ireturn, 1) := by decide +kernel
theorem dX5_isWord_0 : decode cX5_isWord 0 = .ok (.aload_n 0, 1) := by decide +kernel
theorem dX5_isWord_1 : decode cX5_isWord 1 = .ok (.getfield 25, 3) := by decide +kernel
theorem dX5_isWord_4 : decode cX5_isWord 4 = .ok (.iconst 2, 1) := by decide +kernel
theorem dX5_isWord_5 : decode cX5_isWord 5 = .ok (.if_icmp .ne 19, 3) := by decide +kernel
theorem dX5_isWord_8 : decode cX5_isWord 8 = .ok (.aload_n 0, 1) := by decide +kernel
theorem dX5_isWord_9 : decode cX5_isWord 9 = .ok (.getfield 22, 3) := by decide +kernel
theorem dX5_isWord_12 : decode cX5_isWord 12 = .ok (.aload_n 0, 1) := by decide +kernel
theorem dX5_isWord_13 : decode cX5_isWord 13 = .ok (.getfield 19, 3) := by decide +kernel
theorem dX5_isWord_16 : decode cX5_isWord 16 = .ok (.isub, 1) := by decide +kernel
theorem dX5_isWord_17 : decode cX5_isWord 17 = .ok (.aload_n 1, 1) := by decide +kernel
theorem dX5_isWord_18 : decode cX5_isWord 18 = .ok (.invokevirtual 76, 3) := by decide +kernel
theorem dX5_isWord_21 : decode cX5_isWord 21 = .ok (.if_icmp .eq 5, 3) := by decide +kernel
theorem dX5_isWord_24 : decode cX5_isWord 24 = .ok (.iconst 0, 1) := by decide +kernel
theorem dX5_isWord_25 : decode cX5_isWord 25 = .ok (.ireturn, 1) := by decide +kernel
theorem dX5_isWord_26 : decode cX5_isWord 26 = .ok (.iconst 0, 1) := by decide +kernel
theorem dX5_isWord_27 : decode cX5_isWord 27 = .ok (.istore_n 2, 1) := by decide +kernel
theorem dX5_isWord_28 : decode cX5_isWord 28 = .ok (.iload_n 2, 1) := by decide +kernel
theorem dX5_isWord_29 : decode cX5_isWord 29 = .ok (.aload_n 1, 1) := by decide +kernel
theorem dX5_isWord_30 : decode cX5_isWord 30 = .ok (.invokevirtual 76, 3) := by decide +kernel
theorem dX5_isWord_33 : decode cX5_isWord 33 = .ok (.if_icmp .ge 30, 3) := by decide +kernel
theorem dX5_isWord_36 : decode cX5_isWord 36 = .ok (.aload_n 0, 1) := by decide +kernel
theorem dX5_isWord_37 : decode cX5_isWord 37 = .ok (.getfield 9, 3) := by decide +kernel
theorem dX5_isWord_40 : decode cX5_isWord 40 = .ok (.aload_n 0, 1) := by decide +kernel
theorem dX5_isWord_41 : decode cX5_isWord 41 = .ok (.getfield 19, 3) := by decide +kernel
theorem dX5_isWord_44 : decode cX5_isWord 44 = .ok (.iload_n 2, 1) := by decide +kernel
theorem dX5_isWord_45 : decode cX5_isWord 45 = .ok (.iadd, 1) := by decide +kernel
theorem dX5_isWord_46 : decode cX5_isWord 46 = .ok (.baload, 1) := by decide +kernel
theorem dX5_isWord_47 : decode cX5_isWord 47 = .ok (.aload_n 1, 1) := by decide +kernel
theorem dX5_isWord_48 : decode cX5_isWord 48 = .ok (.iload_n 2, 1) := by decide +kernel
theorem dX5_isWord_49 : decode cX5_isWord 49 = .ok (.invokevirtual 82, 3) := by decide +kernel
theorem dX5_isWord_52 : decode cX5_isWord 52 = .ok (.if_icmp .eq 5, 3) := by decide +kernel
theorem dX5_isWord_55 : decode cX5_isWord 55 = .ok (.iconst 0, 1) := by decide +kernel
theorem dX5_isWord_56 : decode cX5_isWord 56 = .ok (.ireturn, 1) := by decide +kernel
theorem dX5_isWord_57 : decode cX5_isWord 57 = .ok (.iinc 2 1, 3) := by decide +kernel
theorem dX5_isWord_60 : decode cX5_isWord 60 = .ok (.goto (-32), 3) := by decide +kernel
theorem dX5_isWord_63 : decode cX5_isWord 63 = .ok (.iconst 1, 1) := by decide +kernel
theorem dX5_isWord_64 : decode cX5_isWord 64 = .ok (.ireturn, 1) := by decide +kernel
theorem dX5_isTooLong_0 : decode cX5_isTooLong 0 = .ok (.aload_n 0, 1) := by decide +kernel
theorem dX5_isTooLong_1 : decode cX5_isTooLong 1 = .ok (.getfield 22, 3) := by decide +kernel
theorem dX5_isTooLong_4 : decode cX5_isTooLong 4 = .ok (.aload_n 0, 1) := by decide +kernel
theorem dX5_isTooLong_5 : decode cX5_isTooLong 5 = .ok (.getfield 19, 3) := by decide +kernel
theorem dX5_isTooLong_8 : decode cX5_isTooLong 8 = .ok (.isub, 1) := by decide +kernel
theorem dX5_isTooLong_9 : decode cX5_isTooLong 9 = .ok (.iconst 4, 1) := by decide +kernel
theorem dX5_isTooLong_10 : decode cX5_isTooLong 10 = .ok (.if_icmp .le 7, 3) := by decide +kernel
theorem dX5_isTooLong_13 : decode cX5_isTooLong 13 = .ok (.iconst 1, 1) := by decide +kernel
theorem dX5_isTooLong_14 : decode cX5_isTooLong 14 = .ok (.goto 4, 3) := by decide +kernel
theorem dX5_isTooLong_17 : decode cX5_isTooLong 17 = .ok (.iconst 0, 1) := by decide +kernel
theorem dX5_isTooLong_18 : decode cX5_isTooLong 18 = .ok (.ireturn, 1) := by decide +kernel
theorem dX5_readLine_0 : decode cX5_readLine 0 = .ok (.aload_n 0, 1) := by decide +kernel
theorem dX5_readLine_1 : decode cX5_readLine 1 = .ok (.ldc 86, 2) := by decide +kernel
theorem dX5_readLine_3 : decode cX5_readLine 3 = .ok (.invokevirtual 88, 3) := by decide +kernel
theorem dX5_readLine_6 : decode cX5_readLine 6 = .ok (.ifCond .eq 11, 3) := by decide +kernel
theorem dX5_readLine_9 : decode cX5_readLine 9 = .ok (.aload_n 0, 1) := by decide +kernel
theorem dX5_readLine_10 : decode cX5_readLine 10 = .ok (.invokevirtual 92, 3) := by decide +kernel
theorem dX5_readLine_13 : decode cX5_readLine 13 = .ok (.istore_n 1, 1) := by decide +kernel
theorem dX5_readLine_14 : decode cX5_readLine 14 = .ok (.goto 75, 3) := by decide +kernel
theorem dX5_readLine_17 : decode cX5_readLine 17 = .ok (.aload_n 0, 1) := by decide +kernel
theorem dX5_readLine_18 : decode cX5_readLine 18 = .ok (.ldc 95, 2) := by decide +kernel
theorem dX5_readLine_20 : decode cX5_readLine 20 = .ok (.invokevirtual 88, 3) := by decide +kernel
theorem dX5_readLine_23 : decode cX5_readLine 23 = .ok (.ifCond .eq 11, 3) := by decide +kernel
theorem dX5_readLine_26 : decode cX5_readLine 26 = .ok (.aload_n 0, 1) := by decide +kernel
theorem dX5_readLine_27 : decode cX5_readLine 27 = .ok (.invokevirtual 97, 3) := by decide +kernel
theorem dX5_readLine_30 : decode cX5_readLine 30 = .ok (.istore_n 1, 1) := by decide +kernel
theorem dX5_readLine_31 : decode cX5_readLine 31 = .ok (.goto 58, 3) := by decide +kernel
theorem dX5_readLine_34 : decode cX5_readLine 34 = .ok (.aload_n 0, 1) := by decide +kernel
theorem dX5_readLine_35 : decode cX5_readLine 35 = .ok (.ldc 100, 2) := by decide +kernel
theorem dX5_readLine_37 : decode cX5_readLine 37 = .ok (.invokevirtual 88, 3) := by decide +kernel
theorem dX5_readLine_40 : decode cX5_readLine 40 = .ok (.ifCond .ne 12, 3) := by decide +kernel
theorem dX5_readLine_43 : decode cX5_readLine 43 = .ok (.aload_n 0, 1) := by decide +kernel
theorem dX5_readLine_44 : decode cX5_readLine 44 = .ok (.ldc 102, 2) := by decide +kernel
theorem dX5_readLine_46 : decode cX5_readLine 46 = .ok (.invokevirtual 88, 3) := by decide +kernel
theorem dX5_readLine_49 : decode cX5_readLine 49 = .ok (.ifCond .eq 17, 3) := by decide +kernel
theorem dX5_readLine_52 : decode cX5_readLine 52 = .ok (.aload_n 0, 1) := by decide +kernel
theorem dX5_readLine_53 : decode cX5_readLine 53 = .ok (.aload_n 0, 1) := by decide +kernel
theorem dX5_readLine_54 : decode cX5_readLine 54 = .ok (.ldc 102, 2) := by decide +kernel
theorem dX5_readLine_56 : decode cX5_readLine 56 = .ok (.invokevirtual 88, 3) := by decide +kernel
theorem dX5_readLine_59 : decode cX5_readLine 59 = .ok (.invokevirtual 104, 3) := by decide +kernel
theorem dX5_readLine_62 : decode cX5_readLine 62 = .ok (.istore_n 1, 1) := by decide +kernel
theorem dX5_readLine_63 : decode cX5_readLine 63 = .ok (.goto 26, 3) := by decide +kernel
theorem dX5_readLine_66 : decode cX5_readLine 66 = .ok (.aload_n 0, 1) := by decide +kernel
theorem dX5_readLine_67 : decode cX5_readLine 67 = .ok (.ldc 108, 2) := by decide +kernel
theorem dX5_readLine_69 : decode cX5_readLine 69 = .ok (.invokevirtual 88, 3) := by decide +kernel
theorem dX5_readLine_72 : decode cX5_readLine 72 = .ok (.ifCond .eq 11, 3) := by decide +kernel
theorem dX5_readLine_75 : decode cX5_readLine 75 = .ok (.aload_n 0, 1) := by decide +kernel
theorem dX5_readLine_76 : decode cX5_readLine 76 = .ok (.invokevirtual 110, 3) := by decide +kernel
theorem dX5_readLine_79 : decode cX5_readLine 79 = .ok (.istore_n 1, 1) := by decide +kernel
theorem dX5_readLine_80 : decode cX5_readLine 80 = .ok (.goto 9, 3) := by decide +kernel
theorem dX5_readLine_83 : decode cX5_readLine 83 = .ok (.aload_n 0, 1) := by decide +kernel
theorem dX5_readLine_84 : decode cX5_readLine 84 = .ok (.iconst 1, 1) := by decide +kernel
theorem dX5_readLine_85 : decode cX5_readLine 85 = .ok (.invokevirtual 113, 3) := by decide +kernel
theorem dX5_readLine_88 : decode cX5_readLine 88 = .ok (.istore_n 1, 1) := by decide +kernel
theorem dX5_readLine_89 : decode cX5_readLine 89 = .ok (.iload_n 1, 1) := by decide +kernel
theorem dX5_readLine_90 : decode cX5_readLine 90 = .ok (.ifCond .eq 16, 3) := by decide +kernel
theorem dX5_readLine_93 : decode cX5_readLine 93 = .ok (.aload_n 0, 1) := by decide +kernel
theorem dX5_readLine_94 : decode cX5_readLine 94 = .ok (.bipush 59, 2) := by decide +kernel
theorem dX5_readLine_96 : decode cX5_readLine 96 = .ok (.invokevirtual 117, 3) := by decide +kernel
theorem dX5_readLine_99 : decode cX5_readLine 99 = .ok (.ifCond .eq 7, 3) := by decide +kernel
theorem dX5_readLine_102 : decode cX5_readLine 102 = .ok (.iconst 1, 1) := by decide +kernel
theorem dX5_readLine_103 : decode cX5_readLine 103 = .ok (.goto 4, 3) := by decide +kernel
theorem dX5_readLine_106 : decode cX5_readLine 106 = .ok (.iconst 0, 1) := by decide +kernel
theorem dX5_readLine_107 : decode cX5_readLine 107 = .ok (.ireturn, 1) := by decide +kernel
theorem dX5_readTown_0 : decode cX5_readTown 0 = .ok (.aload_n 0, 1) := by decide +kernel
theorem dX5_readTown_1 : decode cX5_readTown 1 = .ok (.getfield 37, 3) := by decide +kernel
theorem dX5_readTown_4 : decode cX5_readTown 4 = .ok (.getfield 121, 3) := by decide +kernel
theorem dX5_readTown_7 : decode cX5_readTown 7 = .ok (.bipush 8, 2) := by decide +kernel
theorem dX5_readTown_9 : decode cX5_readTown 9 = .ok (.if_icmp .lt 9, 3) := by decide +kernel
theorem dX5_readTown_12 : decode cX5_readTown 12 = .ok (.aload_n 0, 1) := by decide +kernel
theorem dX5_readTown_13 : decode cX5_readTown 13 = .ok (.iconst 2, 1) := by decide +kernel
theorem dX5_readTown_14 : decode cX5_readTown 14 = .ok (.invokevirtual 113, 3) := by decide +kernel
theorem dX5_readTown_17 : decode cX5_readTown 17 = .ok (.ireturn, 1) := by decide +kernel
theorem dX5_readTown_18 : decode cX5_readTown 18 = .ok (.aload_n 0, 1) := by decide +kernel
theorem dX5_readTown_19 : decode cX5_readTown 19 = .ok (.invokevirtual 56, 3) := by decide +kernel
theorem dX5_readTown_22 : decode cX5_readTown 22 = .ok (.aload_n 0, 1) := by decide +kernel
theorem dX5_readTown_23 : decode cX5_readTown 23 = .ok (.iconst 0, 1) := by decide +kernel
theorem dX5_readTown_24 : decode cX5_readTown 24 = .ok (.sipush 999, 3) := by decide +kernel
theorem dX5_readTown_27 : decode cX5_readTown 27 = .ok (.invokevirtual 124, 3) := by decide +kernel
theorem dX5_readTown_30 : decode cX5_readTown 30 = .ok (.ifCond .ne 5, 3) := by decide +kernel
theorem dX5_readTown_33 : decode cX5_readTown 33 = .ok (.iconst 0, 1) := by decide +kernel
theorem dX5_readTown_34 : decode cX5_readTown 34 = .ok (.ireturn, 1) := by decide +kernel
theorem dX5_readTown_35 : decode cX5_readTown 35 = .ok (.aload_n 0, 1) := by decide +kernel
theorem dX5_readTown_36 : decode cX5_readTown 36 = .ok (.getfield 31, 3) := by decide +kernel
theorem dX5_readTown_39 : decode cX5_readTown 39 = .ok (.istore_n 1, 1) := by decide +kernel
theorem dX5_readTown_40 : decode cX5_readTown 40 = .ok (.aload_n 0, 1) := by decide +kernel
theorem dX5_readTown_41 : decode cX5_readTown 41 = .ok (.iconst 0, 1) := by decide +kernel
theorem dX5_readTown_42 : decode cX5_readTown 42 = .ok (.sipush 999, 3) := by decide +kernel
theorem dX5_readTown_45 : decode cX5_readTown 45 = .ok (.invokevirtual 124, 3) := by decide +kernel
theorem dX5_readTown_48 : decode cX5_readTown 48 = .ok (.ifCond .ne 5, 3) := by decide +kernel
theorem dX5_readTown_51 : decode cX5_readTown 51 = .ok (.iconst 0, 1) := by decide +kernel
theorem dX5_readTown_52 : decode cX5_readTown 52 = .ok (.ireturn, 1) := by decide +kernel
theorem dX5_readTown_53 : decode cX5_readTown 53 = .ok (.aload_n 0, 1) := by decide +kernel
theorem dX5_readTown_54 : decode cX5_readTown 54 = .ok (.getfield 31, 3) := by decide +kernel
theorem dX5_readTown_57 : decode cX5_readTown 57 = .ok (.istore_n 2, 1) := by decide +kernel
theorem dX5_readTown_58 : decode cX5_readTown 58 = .ok (.aload_n 0, 1) := by decide +kernel
theorem dX5_readTown_59 : decode cX5_readTown 59 = .ok (.iconst 0, 1) := by decide +kernel
theorem dX5_readTown_60 : decode cX5_readTown 60 = .ok (.bipush 20, 2) := by decide +kernel
theorem dX5_readTown_62 : decode cX5_readTown 62 = .ok (.invokevirtual 124, 3) := by decide +kernel
theorem dX5_readTown_65 : decode cX5_readTown 65 = .ok (.ifCond .ne 5, 3) := by decide +kernel
theorem dX5_readTown_68 : decode cX5_readTown 68 = .ok (.iconst 0, 1) := by decide +kernel
theorem dX5_readTown_69 : decode cX5_readTown 69 = .ok (.ireturn, 1) := by decide +kernel
theorem dX5_readTown_70 : decode cX5_readTown 70 = .ok (.aload_n 0, 1) := by decide +kernel
theorem dX5_readTown_71 : decode cX5_readTown 71 = .ok (.getfield 31, 3) := by decide +kernel
theorem dX5_readTown_74 : decode cX5_readTown 74 = .ok (.istore_n 3, 1) := by decide +kernel
theorem dX5_readTown_75 : decode cX5_readTown 75 = .ok (.aload_n 0, 1) := by decide +kernel
theorem dX5_readTown_76 : decode cX5_readTown 76 = .ok (.iconst 0, 1) := by decide +kernel
theorem dX5_readTown_77 : decode cX5_readTown 77 = .ok (.bipush 20, 2) := by decide +kernel
theorem dX5_readTown_79 : decode cX5_readTown 79 = .ok (.invokevirtual 124, 3) := by decide +kernel
theorem dX5_readTown_82 : decode cX5_readTown 82 = .ok (.ifCond .ne 5, 3) := by decide +kernel
theorem dX5_readTown_85 : decode cX5_readTown 85 = .ok (.iconst 0, 1) := by decide +kernel
theorem dX5_readTown_86 : decode cX5_readTown 86 = .ok (.ireturn, 1) := by decide +kernel
theorem dX5_readTown_87 : decode cX5_readTown 87 = .ok (.aload_n 0, 1) := by decide +kernel
theorem dX5_readTown_88 : decode cX5_readTown 88 = .ok (.getfield 37, 3) := by decide +kernel
theorem dX5_readTown_91 : decode cX5_readTown 91 = .ok (.iload_n 1, 1) := by decide +kernel
theorem dX5_readTown_92 : decode cX5_readTown 92 = .ok (.iload_n 2, 1) := by decide +kernel
theorem dX5_readTown_93 : decode cX5_readTown 93 = .ok (.iload_n 3, 1) := by decide +kernel
theorem dX5_readTown_94 : decode cX5_readTown 94 = .ok (.aload_n 0, 1) := by decide +kernel
theorem dX5_readTown_95 : decode cX5_readTown 95 = .ok (.getfield 31, 3) := by decide +kernel
theorem dX5_readTown_98 : decode cX5_readTown 98 = .ok (.invokevirtual 128, 3) := by decide +kernel
theorem dX5_readTown_101 : decode cX5_readTown 101 = .ok (.iconst 1, 1) := by decide +kernel
theorem dX5_readTown_102 : decode cX5_readTown 102 = .ok (.ireturn, 1) := by decide +kernel
theorem dX5_readWay_0 : decode cX5_readWay 0 = .ok (.aload_n 0, 1) := by decide +kernel
theorem dX5_readWay_1 : decode cX5_readWay 1 = .ok (.getfield 37, 3) := by decide +kernel
theorem dX5_readWay_4 : decode cX5_readWay 4 = .ok (.getfield 132, 3) := by decide +kernel
theorem dX5_readWay_7 : decode cX5_readWay 7 = .ok (.getfield 136, 3) := by decide +kernel
theorem dX5_readWay_10 : decode cX5_readWay 10 = .ok (.bipush 12, 2) := by decide +kernel
theorem dX5_readWay_12 : decode cX5_readWay 12 = .ok (.if_icmp .lt 9, 3) := by decide +kernel
theorem dX5_readWay_15 : decode cX5_readWay 15 = .ok (.aload_n 0, 1) := by decide +kernel
theorem dX5_readWay_16 : decode cX5_readWay 16 = .ok (.iconst 2, 1) := by decide +kernel
theorem dX5_readWay_17 : decode cX5_readWay 17 = .ok (.invokevirtual 113, 3) := by decide +kernel
theorem dX5_readWay_20 : decode cX5_readWay 20 = .ok (.ireturn, 1) := by decide +kernel
theorem dX5_readWay_21 : decode cX5_readWay 21 = .ok (.aload_n 0, 1) := by decide +kernel
theorem dX5_readWay_22 : decode cX5_readWay 22 = .ok (.invokevirtual 56, 3) := by decide +kernel
theorem dX5_readWay_25 : decode cX5_readWay 25 = .ok (.aload_n 0, 1) := by decide +kernel
theorem dX5_readWay_26 : decode cX5_readWay 26 = .ok (.invokevirtual 141, 3) := by decide +kernel
theorem dX5_readWay_29 : decode cX5_readWay 29 = .ok (.ifCond .ne 5, 3) := by decide +kernel
theorem dX5_readWay_32 : decode cX5_readWay 32 = .ok (.iconst 0, 1) := by decide +kernel
theorem dX5_readWay_33 : decode cX5_readWay 33 = .ok (.ireturn, 1) := by decide +kernel
theorem dX5_readWay_34 : decode cX5_readWay 34 = .ok (.aload_n 0, 1) := by decide +kernel
theorem dX5_readWay_35 : decode cX5_readWay 35 = .ok (.getfield 31, 3) := by decide +kernel
theorem dX5_readWay_38 : decode cX5_readWay 38 = .ok (.istore_n 1, 1) := by decide +kernel
theorem dX5_readWay_39 : decode cX5_readWay 39 = .ok (.aload_n 0, 1) := by decide +kernel
theorem dX5_readWay_40 : decode cX5_readWay 40 = .ok (.invokevirtual 144, 3) := by decide +kernel
theorem dX5_readWay_43 : decode cX5_readWay 43 = .ok (.ifCond .eq 35, 3) := by decide +kernel
theorem dX5_readWay_46 : decode cX5_readWay 46 = .ok (.aload_n 0, 1) := by decide +kernel
theorem dX5_readWay_47 : decode cX5_readWay 47 = .ok (.getfield 28, 3) := by decide +kernel
theorem dX5_readWay_50 : decode cX5_readWay 50 = .ok (.iload_n 1, 1) := by decide +kernel
theorem dX5_readWay_51 : decode cX5_readWay 51 = .ok (.if_icmp .eq 21, 3) := by decide +kernel
theorem dX5_readWay_54 : decode cX5_readWay 54 = .ok (.aload_n 0, 1) := by decide +kernel
theorem dX5_readWay_55 : decode cX5_readWay 55 = .ok (.getfield 37, 3) := by decide +kernel
theorem dX5_readWay_58 : decode cX5_readWay 58 = .ok (.getfield 132, 3) := by decide +kernel
theorem dX5_readWay_61 : decode cX5_readWay 61 = .ok (.iload_n 1, 1) := by decide +kernel
theorem dX5_readWay_62 : decode cX5_readWay 62 = .ok (.aload_n 0, 1) := by decide +kernel
theorem dX5_readWay_63 : decode cX5_readWay 63 = .ok (.getfield 28, 3) := by decide +kernel
theorem dX5_readWay_66 : decode cX5_readWay 66 = .ok (.invokevirtual 147, 3) := by decide +kernel
theorem dX5_readWay_69 : decode cX5_readWay 69 = .ok (.ifCond .eq 9, 3) := by decide +kernel
theorem dX5_readWay_72 : decode cX5_readWay 72 = .ok (.aload_n 0, 1) := by decide +kernel
theorem dX5_readWay_73 : decode cX5_readWay 73 = .ok (.iconst 4, 1) := by decide +kernel
theorem dX5_readWay_74 : decode cX5_readWay 74 = .ok (.invokevirtual 113, 3) := by decide +kernel
theorem dX5_readWay_77 : decode cX5_readWay 77 = .ok (.ireturn, 1) := by decide +kernel
theorem dX5_readWay_78 : decode cX5_readWay 78 = .ok (.aload_n 0, 1) := by decide +kernel
theorem dX5_readWay_79 : decode cX5_readWay 79 = .ok (.invokevirtual 141, 3) := by decide +kernel
theorem dX5_readWay_82 : decode cX5_readWay 82 = .ok (.ifCond .ne 5, 3) := by decide +kernel
theorem dX5_readWay_85 : decode cX5_readWay 85 = .ok (.iconst 0, 1) := by decide +kernel
theorem dX5_readWay_86 : decode cX5_readWay 86 = .ok (.ireturn, 1) := by decide +kernel
theorem dX5_readWay_87 : decode cX5_readWay 87 = .ok (.aload_n 0, 1) := by decide +kernel
theorem dX5_readWay_88 : decode cX5_readWay 88 = .ok (.getfield 31, 3) := by decide +kernel
theorem dX5_readWay_91 : decode cX5_readWay 91 = .ok (.istore_n 2, 1) := by decide +kernel
theorem dX5_readWay_92 : decode cX5_readWay 92 = .ok (.aload_n 0, 1) := by decide +kernel
theorem dX5_readWay_93 : decode cX5_readWay 93 = .ok (.iconst 1, 1) := by decide +kernel
theorem dX5_readWay_94 : decode cX5_readWay 94 = .ok (.bipush 9, 2) := by decide +kernel
theorem dX5_readWay_96 : decode cX5_readWay 96 = .ok (.invokevirtual 124, 3) := by decide +kernel
theorem dX5_readWay_99 : decode cX5_readWay 99 = .ok (.ifCond .ne 5, 3) := by decide +kernel
theorem dX5_readWay_102 : decode cX5_readWay 102 = .ok (.iconst 0, 1) := by decide +kernel
theorem dX5_readWay_103 : decode cX5_readWay 103 = .ok (.ireturn, 1) := by decide +kernel
theorem dX5_readWay_104 : decode cX5_readWay 104 = .ok (.aload_n 0, 1) := by decide +kernel
theorem dX5_readWay_105 : decode cX5_readWay 105 = .ok (.getfield 31, 3) := by decide +kernel
theorem dX5_readWay_108 : decode cX5_readWay 108 = .ok (.istore_n 3, 1) := by decide +kernel
theorem dX5_readWay_109 : decode cX5_readWay 109 = .ok (.aload_n 0, 1) := by decide +kernel
theorem dX5_readWay_110 : decode cX5_readWay 110 = .ok (.iconst 0, 1) := by decide +kernel
theorem dX5_readWay_111 : decode cX5_readWay 111 = .ok (.bipush 9, 2) := by decide +kernel
theorem dX5_readWay_113 : decode cX5_readWay 113 = .ok (.invokevirtual 124, 3) := by decide +kernel
theorem dX5_readWay_116 : decode cX5_readWay 116 = .ok (.ifCond .ne 5, 3) := by decide +kernel
theorem dX5_readWay_119 : decode cX5_readWay 119 = .ok (.iconst 0, 1) := by decide +kernel
theorem dX5_readWay_120 : decode cX5_readWay 120 = .ok (.ireturn, 1) := by decide +kernel
theorem dX5_readWay_121 : decode cX5_readWay 121 = .ok (.aload_n 0, 1) := by decide +kernel
theorem dX5_readWay_122 : decode cX5_readWay 122 = .ok (.getfield 37, 3) := by decide +kernel
theorem dX5_readWay_125 : decode cX5_readWay 125 = .ok (.getfield 132, 3) := by decide +kernel
theorem dX5_readWay_128 : decode cX5_readWay 128 = .ok (.iload_n 1, 1) := by decide +kernel
theorem dX5_readWay_129 : decode cX5_readWay 129 = .ok (.iload_n 2, 1) := by decide +kernel
theorem dX5_readWay_130 : decode cX5_readWay 130 = .ok (.iload_n 3, 1) := by decide +kernel
theorem dX5_readWay_131 : decode cX5_readWay 131 = .ok (.aload_n 0, 1) := by decide +kernel
theorem dX5_readWay_132 : decode cX5_readWay 132 = .ok (.getfield 31, 3) := by decide +kernel
theorem dX5_readWay_135 : decode cX5_readWay 135 = .ok (.invokevirtual 150, 3) := by decide +kernel
theorem dX5_readWay_138 : decode cX5_readWay 138 = .ok (.iconst 1, 1) := by decide +kernel
theorem dX5_readWay_139 : decode cX5_readWay 139 = .ok (.ireturn, 1) := by decide +kernel
theorem dX5_readCrate_0 : decode cX5_readCrate 0 = .ok (.aload_n 0, 1) := by decide +kernel
theorem dX5_readCrate_1 : decode cX5_readCrate 1 = .ok (.getfield 37, 3) := by decide +kernel
theorem dX5_readCrate_4 : decode cX5_readCrate 4 = .ok (.getfield 153, 3) := by decide +kernel
theorem dX5_readCrate_7 : decode cX5_readCrate 7 = .ok (.bipush 10, 2) := by decide +kernel
theorem dX5_readCrate_9 : decode cX5_readCrate 9 = .ok (.if_icmp .lt 9, 3) := by decide +kernel
theorem dX5_readCrate_12 : decode cX5_readCrate 12 = .ok (.aload_n 0, 1) := by decide +kernel
theorem dX5_readCrate_13 : decode cX5_readCrate 13 = .ok (.iconst 2, 1) := by decide +kernel
theorem dX5_readCrate_14 : decode cX5_readCrate 14 = .ok (.invokevirtual 113, 3) := by decide +kernel
theorem dX5_readCrate_17 : decode cX5_readCrate 17 = .ok (.ireturn, 1) := by decide +kernel
theorem dX5_readCrate_18 : decode cX5_readCrate 18 = .ok (.aload_n 0, 1) := by decide +kernel
theorem dX5_readCrate_19 : decode cX5_readCrate 19 = .ok (.invokevirtual 56, 3) := by decide +kernel
theorem dX5_readCrate_22 : decode cX5_readCrate 22 = .ok (.aload_n 0, 1) := by decide +kernel
theorem dX5_readCrate_23 : decode cX5_readCrate 23 = .ok (.iconst 0, 1) := by decide +kernel
theorem dX5_readCrate_24 : decode cX5_readCrate 24 = .ok (.bipush 99, 2) := by decide +kernel
theorem dX5_readCrate_26 : decode cX5_readCrate 26 = .ok (.invokevirtual 124, 3) := by decide +kernel
theorem dX5_readCrate_29 : decode cX5_readCrate 29 = .ok (.ifCond .ne 5, 3) := by decide +kernel
theorem dX5_readCrate_32 : decode cX5_readCrate 32 = .ok (.iconst 0, 1) := by decide +kernel
theorem dX5_readCrate_33 : decode cX5_readCrate 33 = .ok (.ireturn, 1) := by decide +kernel
theorem dX5_readCrate_34 : decode cX5_readCrate 34 = .ok (.aload_n 0, 1) := by decide +kernel
theorem dX5_readCrate_35 : decode cX5_readCrate 35 = .ok (.getfield 31, 3) := by decide +kernel
theorem dX5_readCrate_38 : decode cX5_readCrate 38 = .ok (.istore_n 2, 1) := by decide +kernel
theorem dX5_readCrate_39 : decode cX5_readCrate 39 = .ok (.aload_n 0, 1) := by decide +kernel
theorem dX5_readCrate_40 : decode cX5_readCrate 40 = .ok (.invokevirtual 141, 3) := by decide +kernel
theorem dX5_readCrate_43 : decode cX5_readCrate 43 = .ok (.ifCond .ne 5, 3) := by decide +kernel
theorem dX5_readCrate_46 : decode cX5_readCrate 46 = .ok (.iconst 0, 1) := by decide +kernel
theorem dX5_readCrate_47 : decode cX5_readCrate 47 = .ok (.ireturn, 1) := by decide +kernel
theorem dX5_readCrate_48 : decode cX5_readCrate 48 = .ok (.aload_n 0, 1) := by decide +kernel
theorem dX5_readCrate_49 : decode cX5_readCrate 49 = .ok (.getfield 31, 3) := by decide +kernel
theorem dX5_readCrate_52 : decode cX5_readCrate 52 = .ok (.istore_n 3, 1) := by decide +kernel
theorem dX5_readCrate_53 : decode cX5_readCrate 53 = .ok (.aload_n 0, 1) := by decide +kernel
theorem dX5_readCrate_54 : decode cX5_readCrate 54 = .ok (.ldc 156, 2) := by decide +kernel
theorem dX5_readCrate_56 : decode cX5_readCrate 56 = .ok (.invokevirtual 88, 3) := by decide +kernel
theorem dX5_readCrate_59 : decode cX5_readCrate 59 = .ok (.istore 4, 2) := by decide +kernel
theorem dX5_readCrate_61 : decode cX5_readCrate 61 = .ok (.iload 4, 2) := by decide +kernel
theorem dX5_readCrate_63 : decode cX5_readCrate 63 = .ok (.ifCond .eq 7, 3) := by decide +kernel
theorem dX5_readCrate_66 : decode cX5_readCrate 66 = .ok (.aload_n 0, 1) := by decide +kernel
theorem dX5_readCrate_67 : decode cX5_readCrate 67 = .ok (.invokevirtual 56, 3) := by decide +kernel
theorem dX5_readCrate_70 : decode cX5_readCrate 70 = .ok (.aload_n 0, 1) := by decide +kernel
theorem dX5_readCrate_71 : decode cX5_readCrate 71 = .ok (.getfield 37, 3) := by decide +kernel
theorem dX5_readCrate_74 : decode cX5_readCrate 74 = .ok (.iload_n 2, 1) := by decide +kernel
theorem dX5_readCrate_75 : decode cX5_readCrate 75 = .ok (.iload_n 1, 1) := by decide +kernel
theorem dX5_readCrate_76 : decode cX5_readCrate 76 = .ok (.iload_n 3, 1) := by decide +kernel
theorem dX5_readCrate_77 : decode cX5_readCrate 77 = .ok (.iload 4, 2) := by decide +kernel
theorem dX5_readCrate_79 : decode cX5_readCrate 79 = .ok (.invokevirtual 158, 3) := by decide +kernel
theorem dX5_readCrate_82 : decode cX5_readCrate 82 = .ok (.iconst 1, 1) := by decide +kernel
theorem dX5_readCrate_83 : decode cX5_readCrate 83 = .ok (.ireturn, 1) := by decide +kernel
theorem dX5_readOdds_0 : decode cX5_readOdds 0 = .ok (.aload_n 0, 1) := by decide +kernel
theorem dX5_readOdds_1 : decode cX5_readOdds 1 = .ok (.getfield 37, 3) := by decide +kernel
theorem dX5_readOdds_4 : decode cX5_readOdds 4 = .ok (.getfield 162, 3) := by decide +kernel
theorem dX5_readOdds_7 : decode cX5_readOdds 7 = .ok (.getfield 166, 3) := by decide +kernel
theorem dX5_readOdds_10 : decode cX5_readOdds 10 = .ok (.ifCond .eq 9, 3) := by decide +kernel
theorem dX5_readOdds_13 : decode cX5_readOdds 13 = .ok (.aload_n 0, 1) := by decide +kernel
theorem dX5_readOdds_14 : decode cX5_readOdds 14 = .ok (.iconst 5, 1) := by decide +kernel
theorem dX5_readOdds_15 : decode cX5_readOdds 15 = .ok (.invokevirtual 113, 3) := by decide +kernel
theorem dX5_readOdds_18 : decode cX5_readOdds 18 = .ok (.ireturn, 1) := by decide +kernel
theorem dX5_readOdds_19 : decode cX5_readOdds 19 = .ok (.aload_n 0, 1) := by decide +kernel
theorem dX5_readOdds_20 : decode cX5_readOdds 20 = .ok (.getfield 37, 3) := by decide +kernel
theorem dX5_readOdds_23 : decode cX5_readOdds 23 = .ok (.getfield 162, 3) := by decide +kernel
theorem dX5_readOdds_26 : decode cX5_readOdds 26 = .ok (.iconst 1, 1) := by decide +kernel
theorem dX5_readOdds_27 : decode cX5_readOdds 27 = .ok (.putfield 166, 3) := by decide +kernel
theorem dX5_readOdds_30 : decode cX5_readOdds 30 = .ok (.aload_n 0, 1) := by decide +kernel
theorem dX5_readOdds_31 : decode cX5_readOdds 31 = .ok (.invokevirtual 56, 3) := by decide +kernel
theorem dX5_readOdds_34 : decode cX5_readOdds 34 = .ok (.aload_n 0, 1) := by decide +kernel
theorem dX5_readOdds_35 : decode cX5_readOdds 35 = .ok (.iconst 0, 1) := by decide +kernel
theorem dX5_readOdds_36 : decode cX5_readOdds 36 = .ok (.invokevirtual 172, 3) := by decide +kernel
theorem dX5_readOdds_39 : decode cX5_readOdds 39 = .ok (.ireturn, 1) := by decide +kernel
theorem dX5_readSign_0 : decode cX5_readSign 0 = .ok (.aload_n 0, 1) := by decide +kernel
theorem dX5_readSign_1 : decode cX5_readSign 1 = .ok (.iload_n 1, 1) := by decide +kernel
theorem dX5_readSign_2 : decode cX5_readSign 2 = .ok (.invokevirtual 175, 3) := by decide +kernel
theorem dX5_readSign_5 : decode cX5_readSign 5 = .ok (.ifCond .ne 9, 3) := by decide +kernel
theorem dX5_readSign_8 : decode cX5_readSign 8 = .ok (.aload_n 0, 1) := by decide +kernel
theorem dX5_readSign_9 : decode cX5_readSign 9 = .ok (.iconst 1, 1) := by decide +kernel
theorem dX5_readSign_10 : decode cX5_readSign 10 = .ok (.invokevirtual 113, 3) := by decide +kernel
theorem dX5_readSign_13 : decode cX5_readSign 13 = .ok (.ireturn, 1) := by decide +kernel
theorem dX5_readSign_14 : decode cX5_readSign 14 = .ok (.aload_n 0, 1) := by decide +kernel
theorem dX5_readSign_15 : decode cX5_readSign 15 = .ok (.invokevirtual 56, 3) := by decide +kernel
theorem dX5_readSign_18 : decode cX5_readSign 18 = .ok (.iconst 1, 1) := by decide +kernel
theorem dX5_readSign_19 : decode cX5_readSign 19 = .ok (.ireturn, 1) := by decide +kernel
theorem dX5_readNumber_0 : decode cX5_readNumber 0 = .ok (.aload_n 0, 1) := by decide +kernel
theorem dX5_readNumber_1 : decode cX5_readNumber 1 = .ok (.getfield 25, 3) := by decide +kernel
theorem dX5_readNumber_4 : decode cX5_readNumber 4 = .ok (.iconst 3, 1) := by decide +kernel
theorem dX5_readNumber_5 : decode cX5_readNumber 5 = .ok (.if_icmp .eq 9, 3) := by decide +kernel
theorem dX5_readNumber_8 : decode cX5_readNumber 8 = .ok (.aload_n 0, 1) := by decide +kernel
theorem dX5_readNumber_9 : decode cX5_readNumber 9 = .ok (.iconst 1, 1) := by decide +kernel
theorem dX5_readNumber_10 : decode cX5_readNumber 10 = .ok (.invokevirtual 113, 3) := by decide +kernel
theorem dX5_readNumber_13 : decode cX5_readNumber 13 = .ok (.ireturn, 1) := by decide +kernel
theorem dX5_readNumber_14 : decode cX5_readNumber 14 = .ok (.aload_n 0, 1) := by decide +kernel
theorem dX5_readNumber_15 : decode cX5_readNumber 15 = .ok (.invokevirtual 70, 3) := by decide +kernel
theorem dX5_readNumber_18 : decode cX5_readNumber 18 = .ok (.ifCond .ne 19, 3) := by decide +kernel
theorem dX5_readNumber_21 : decode cX5_readNumber 21 = .ok (.aload_n 0, 1) := by decide +kernel
theorem dX5_readNumber_22 : decode cX5_readNumber 22 = .ok (.getfield 28, 3) := by decide +kernel
theorem dX5_readNumber_25 : decode cX5_readNumber 25 = .ok (.iload_n 1, 1) := by decide +kernel
theorem dX5_readNumber_26 : decode cX5_readNumber 26 = .ok (.if_icmp .lt 11, 3) := by decide +kernel
theorem dX5_readNumber_29 : decode cX5_readNumber 29 = .ok (.aload_n 0, 1) := by decide +kernel
theorem dX5_readNumber_30 : decode cX5_readNumber 30 = .ok (.getfield 28, 3) := by decide +kernel
theorem dX5_readNumber_33 : decode cX5_readNumber 33 = .ok (.iload_n 2, 1) := by decide +kernel
theorem dX5_readNumber_34 : decode cX5_readNumber 34 = .ok (.if_icmp .le 9, 3) := by decide +kernel
theorem dX5_readNumber_37 : decode cX5_readNumber 37 = .ok (.aload_n 0, 1) := by decide +kernel
theorem dX5_readNumber_38 : decode cX5_readNumber 38 = .ok (.iconst 2, 1) := by decide +kernel
theorem dX5_readNumber_39 : decode cX5_readNumber 39 = .ok (.invokevirtual 113, 3) := by decide +kernel
theorem dX5_readNumber_42 : decode cX5_readNumber 42 = .ok (.ireturn, 1) := by decide +kernel
theorem dX5_readNumber_43 : decode cX5_readNumber 43 = .ok (.aload_n 0, 1) := by decide +kernel
theorem dX5_readNumber_44 : decode cX5_readNumber 44 = .ok (.aload_n 0, 1) := by decide +kernel
theorem dX5_readNumber_45 : decode cX5_readNumber 45 = .ok (.getfield 28, 3) := by decide +kernel
theorem dX5_readNumber_48 : decode cX5_readNumber 48 = .ok (.putfield 31, 3) := by decide +kernel
theorem dX5_readNumber_51 : decode cX5_readNumber 51 = .ok (.aload_n 0, 1) := by decide +kernel
theorem dX5_readNumber_52 : decode cX5_readNumber 52 = .ok (.invokevirtual 56, 3) := by decide +kernel
theorem dX5_readNumber_55 : decode cX5_readNumber 55 = .ok (.iconst 1, 1) := by decide +kernel
theorem dX5_readNumber_56 : decode cX5_readNumber 56 = .ok (.ireturn, 1) := by decide +kernel
theorem dX5_isKnownPlace_0 : decode cX5_isKnownPlace 0 = .ok (.aload_n 0, 1) := by decide +kernel
theorem dX5_isKnownPlace_1 : decode cX5_isKnownPlace 1 = .ok (.getfield 25, 3) := by decide +kernel
theorem dX5_isKnownPlace_4 : decode cX5_isKnownPlace 4 = .ok (.iconst 3, 1) := by decide +kernel
theorem dX5_isKnownPlace_5 : decode cX5_isKnownPlace 5 = .ok (.if_icmp .ne 28, 3) := by decide +kernel
theorem dX5_isKnownPlace_8 : decode cX5_isKnownPlace 8 = .ok (.aload_n 0, 1) := by decide +kernel
theorem dX5_isKnownPlace_9 : decode cX5_isKnownPlace 9 = .ok (.invokevirtual 70, 3) := by decide +kernel
theorem dX5_isKnownPlace_12 : decode cX5_isKnownPlace 12 = .ok (.ifCond .ne 21, 3) := by decide +kernel
theorem dX5_isKnownPlace_15 : decode cX5_isKnownPlace 15 = .ok (.aload_n 0, 1) := by decide +kernel
theorem dX5_isKnownPlace_16 : decode cX5_isKnownPlace 16 = .ok (.getfield 28, 3) := by decide +kernel
theorem dX5_isKnownPlace_19 : decode cX5_isKnownPlace 19 = .ok (.aload_n 0, 1) := by decide +kernel
theorem dX5_isKnownPlace_20 : decode cX5_isKnownPlace 20 = .ok (.getfield 37, 3) := by decide +kernel
theorem dX5_isKnownPlace_23 : decode cX5_isKnownPlace 23 = .ok (.getfield 121, 3) := by decide +kernel
theorem dX5_isKnownPlace_26 : decode cX5_isKnownPlace 26 = .ok (.if_icmp .ge 7, 3) := by decide +kernel
theorem dX5_isKnownPlace_29 : decode cX5_isKnownPlace 29 = .ok (.iconst 1, 1) := by decide +kernel
theorem dX5_isKnownPlace_30 : decode cX5_isKnownPlace 30 = .ok (.goto 4, 3) := by decide +kernel
theorem dX5_isKnownPlace_33 : decode cX5_isKnownPlace 33 = .ok (.iconst 0, 1) := by decide +kernel
theorem dX5_isKnownPlace_34 : decode cX5_isKnownPlace 34 = .ok (.ireturn, 1) := by decide +kernel
theorem dX5_readPlace_0 : decode cX5_readPlace 0 = .ok (.aload_n 0, 1) := by decide +kernel
theorem dX5_readPlace_1 : decode cX5_readPlace 1 = .ok (.invokevirtual 144, 3) := by decide +kernel
theorem dX5_readPlace_4 : decode cX5_readPlace 4 = .ok (.ifCond .eq 17, 3) := by decide +kernel
theorem dX5_readPlace_7 : decode cX5_readPlace 7 = .ok (.aload_n 0, 1) := by decide +kernel
theorem dX5_readPlace_8 : decode cX5_readPlace 8 = .ok (.aload_n 0, 1) := by decide +kernel
theorem dX5_readPlace_9 : decode cX5_readPlace 9 = .ok (.getfield 28, 3) := by decide +kernel
theorem dX5_readPlace_12 : decode cX5_readPlace 12 = .ok (.putfield 31, 3) := by decide +kernel
theorem dX5_readPlace_15 : decode cX5_readPlace 15 = .ok (.aload_n 0, 1) := by decide +kernel
theorem dX5_readPlace_16 : decode cX5_readPlace 16 = .ok (.invokevirtual 56, 3) := by decide +kernel
theorem dX5_readPlace_19 : decode cX5_readPlace 19 = .ok (.iconst 1, 1) := by decide +kernel
theorem dX5_readPlace_20 : decode cX5_readPlace 20 = .ok (.ireturn, 1) := by decide +kernel
theorem dX5_readPlace_21 : decode cX5_readPlace 21 = .ok (.aload_n 0, 1) := by decide +kernel
theorem dX5_readPlace_22 : decode cX5_readPlace 22 = .ok (.getfield 25, 3) := by decide +kernel
theorem dX5_readPlace_25 : decode cX5_readPlace 25 = .ok (.iconst 3, 1) := by decide +kernel
theorem dX5_readPlace_26 : decode cX5_readPlace 26 = .ok (.if_icmp .eq 9, 3) := by decide +kernel
theorem dX5_readPlace_29 : decode cX5_readPlace 29 = .ok (.aload_n 0, 1) := by decide +kernel
theorem dX5_readPlace_30 : decode cX5_readPlace 30 = .ok (.iconst 1, 1) := by decide +kernel
theorem dX5_readPlace_31 : decode cX5_readPlace 31 = .ok (.invokevirtual 113, 3) := by decide +kernel
theorem dX5_readPlace_34 : decode cX5_readPlace 34 = .ok (.ireturn, 1) := by decide +kernel
theorem dX5_readPlace_35 : decode cX5_readPlace 35 = .ok (.aload_n 0, 1) := by decide +kernel
theorem dX5_readPlace_36 : decode cX5_readPlace 36 = .ok (.aload_n 0, 1) := by decide +kernel
theorem dX5_readPlace_37 : decode cX5_readPlace 37 = .ok (.invokevirtual 70, 3) := by decide +kernel
theorem dX5_readPlace_40 : decode cX5_readPlace 40 = .ok (.ifCond .eq 7, 3) := by decide +kernel
theorem dX5_readPlace_43 : decode cX5_readPlace 43 = .ok (.iconst 2, 1) := by decide +kernel
theorem dX5_readPlace_44 : decode cX5_readPlace 44 = .ok (.goto 4, 3) := by decide +kernel
theorem dX5_readPlace_47 : decode cX5_readPlace 47 = .ok (.iconst 3, 1) := by decide +kernel
theorem dX5_readPlace_48 : decode cX5_readPlace 48 = .ok (.invokevirtual 113, 3) := by decide +kernel
theorem dX5_readPlace_51 : decode cX5_readPlace 51 = .ok (.ireturn, 1) := by decide +kernel
theorem dX5_readExpr_0 : decode cX5_readExpr 0 = .ok (.iload_n 1, 1) := by decide +kernel
theorem dX5_readExpr_1 : decode cX5_readExpr 1 = .ok (.bipush 6, 2) := by decide +kernel
theorem dX5_readExpr_3 : decode cX5_readExpr 3 = .ok (.if_icmp .lt 38, 3) := by decide +kernel
theorem dX5_readExpr_6 : decode cX5_readExpr 6 = .ok (.aload_n 0, 1) := by decide +kernel
theorem dX5_readExpr_7 : decode cX5_readExpr 7 = .ok (.aload_n 0, 1) := by decide +kernel
theorem dX5_readExpr_8 : decode cX5_readExpr 8 = .ok (.getfield 25, 3) := by decide +kernel
theorem dX5_readExpr_11 : decode cX5_readExpr 11 = .ok (.iconst 3, 1) := by decide +kernel
theorem dX5_readExpr_12 : decode cX5_readExpr 12 = .ok (.if_icmp .eq 20, 3) := by decide +kernel
theorem dX5_readExpr_15 : decode cX5_readExpr 15 = .ok (.aload_n 0, 1) := by decide +kernel
theorem dX5_readExpr_16 : decode cX5_readExpr 16 = .ok (.getfield 25, 3) := by decide +kernel
theorem dX5_readExpr_19 : decode cX5_readExpr 19 = .ok (.iconst 2, 1) := by decide +kernel
theorem dX5_readExpr_20 : decode cX5_readExpr 20 = .ok (.if_icmp .eq 12, 3) := by decide +kernel
theorem dX5_readExpr_23 : decode cX5_readExpr 23 = .ok (.aload_n 0, 1) := by decide +kernel
theorem dX5_readExpr_24 : decode cX5_readExpr 24 = .ok (.bipush 40, 2) := by decide +kernel
theorem dX5_readExpr_26 : decode cX5_readExpr 26 = .ok (.invokevirtual 175, 3) := by decide +kernel
theorem dX5_readExpr_29 : decode cX5_readExpr 29 = .ok (.ifCond .eq 7, 3) := by decide +kernel
theorem dX5_readExpr_32 : decode cX5_readExpr 32 = .ok (.iconst 2, 1) := by decide +kernel
theorem dX5_readExpr_33 : decode cX5_readExpr 33 = .ok (.goto 4, 3) := by decide +kernel
theorem dX5_readExpr_36 : decode cX5_readExpr 36 = .ok (.iconst 1, 1) := by decide +kernel
theorem dX5_readExpr_37 : decode cX5_readExpr 37 = .ok (.invokevirtual 113, 3) := by decide +kernel
theorem dX5_readExpr_40 : decode cX5_readExpr 40 = .ok (.ireturn, 1) := by decide +kernel
theorem dX5_readExpr_41 : decode cX5_readExpr 41 = .ok (.aload_n 0, 1) := by decide +kernel
theorem dX5_readExpr_42 : decode cX5_readExpr 42 = .ok (.iload_n 1, 1) := by decide +kernel
theorem dX5_readExpr_43 : decode cX5_readExpr 43 = .ok (.invokevirtual 178, 3) := by decide +kernel
theorem dX5_readExpr_46 : decode cX5_readExpr 46 = .ok (.ifCond .ne 5, 3) := by decide +kernel
theorem dX5_readExpr_49 : decode cX5_readExpr 49 = .ok (.iconst 0, 1) := by decide +kernel
theorem dX5_readExpr_50 : decode cX5_readExpr 50 = .ok (.ireturn, 1) := by decide +kernel
theorem dX5_readExpr_51 : decode cX5_readExpr 51 = .ok (.iconst 0, 1) := by decide +kernel
theorem dX5_readExpr_52 : decode cX5_readExpr 52 = .ok (.istore_n 2, 1) := by decide +kernel
theorem dX5_readExpr_53 : decode cX5_readExpr 53 = .ok (.iload_n 2, 1) := by decide +kernel
theorem dX5_readExpr_54 : decode cX5_readExpr 54 = .ok (.sipush 700, 3) := by decide +kernel
theorem dX5_readExpr_57 : decode cX5_readExpr 57 = .ok (.if_icmp .ge 44, 3) := by decide +kernel
theorem dX5_readExpr_60 : decode cX5_readExpr 60 = .ok (.aload_n 0, 1) := by decide +kernel
theorem dX5_readExpr_61 : decode cX5_readExpr 61 = .ok (.ldc 181, 2) := by decide +kernel
theorem dX5_readExpr_63 : decode cX5_readExpr 63 = .ok (.invokevirtual 88, 3) := by decide +kernel
theorem dX5_readExpr_66 : decode cX5_readExpr 66 = .ok (.ifCond .eq 35, 3) := by decide +kernel
theorem dX5_readExpr_69 : decode cX5_readExpr 69 = .ok (.aload_n 0, 1) := by decide +kernel
theorem dX5_readExpr_70 : decode cX5_readExpr 70 = .ok (.invokevirtual 56, 3) := by decide +kernel
theorem dX5_readExpr_73 : decode cX5_readExpr 73 = .ok (.aload_n 0, 1) := by decide +kernel
theorem dX5_readExpr_74 : decode cX5_readExpr 74 = .ok (.iload_n 1, 1) := by decide +kernel
theorem dX5_readExpr_75 : decode cX5_readExpr 75 = .ok (.invokevirtual 178, 3) := by decide +kernel
theorem dX5_readExpr_78 : decode cX5_readExpr 78 = .ok (.ifCond .ne 5, 3) := by decide +kernel
theorem dX5_readExpr_81 : decode cX5_readExpr 81 = .ok (.iconst 0, 1) := by decide +kernel
theorem dX5_readExpr_82 : decode cX5_readExpr 82 = .ok (.ireturn, 1) := by decide +kernel
theorem dX5_readExpr_83 : decode cX5_readExpr 83 = .ok (.aload_n 0, 1) := by decide +kernel
theorem dX5_readExpr_84 : decode cX5_readExpr 84 = .ok (.getfield 37, 3) := by decide +kernel
theorem dX5_readExpr_87 : decode cX5_readExpr 87 = .ok (.getfield 162, 3) := by decide +kernel
theorem dX5_readExpr_90 : decode cX5_readExpr 90 = .ok (.bipush (-7), 2) := by decide +kernel
theorem dX5_readExpr_92 : decode cX5_readExpr 92 = .ok (.invokevirtual 183, 3) := by decide +kernel
theorem dX5_readExpr_95 : decode cX5_readExpr 95 = .ok (.iinc 2 1, 3) := by decide +kernel
theorem dX5_readExpr_98 : decode cX5_readExpr 98 = .ok (.goto (-45), 3) := by decide +kernel
theorem dX5_readExpr_101 : decode cX5_readExpr 101 = .ok (.iconst 1, 1) := by decide +kernel
theorem dX5_readExpr_102 : decode cX5_readExpr 102 = .ok (.ireturn, 1) := by decide +kernel
theorem dX5_readAnd_0 : decode cX5_readAnd 0 = .ok (.aload_n 0, 1) := by decide +kernel
theorem dX5_readAnd_1 : decode cX5_readAnd 1 = .ok (.iload_n 1, 1) := by decide +kernel
theorem dX5_readAnd_2 : decode cX5_readAnd 2 = .ok (.invokevirtual 186, 3) := by decide +kernel
theorem dX5_readAnd_5 : decode cX5_readAnd 5 = .ok (.ifCond .ne 5, 3) := by decide +kernel
theorem dX5_readAnd_8 : decode cX5_readAnd 8 = .ok (.iconst 0, 1) := by decide +kernel
theorem dX5_readAnd_9 : decode cX5_readAnd 9 = .ok (.ireturn, 1) := by decide +kernel
theorem dX5_readAnd_10 : decode cX5_readAnd 10 = .ok (.iconst 0, 1) := by decide +kernel
theorem dX5_readAnd_11 : decode cX5_readAnd 11 = .ok (.istore_n 2, 1) := by decide +kernel
theorem dX5_readAnd_12 : decode cX5_readAnd 12 = .ok (.iload_n 2, 1) := by decide +kernel
theorem dX5_readAnd_13 : decode cX5_readAnd 13 = .ok (.sipush 700, 3) := by decide +kernel
theorem dX5_readAnd_16 : decode cX5_readAnd 16 = .ok (.if_icmp .ge 44, 3) := by decide +kernel
theorem dX5_readAnd_19 : decode cX5_readAnd 19 = .ok (.aload_n 0, 1) := by decide +kernel
theorem dX5_readAnd_20 : decode cX5_readAnd 20 = .ok (.ldc 189, 2) := by decide +kernel
theorem dX5_readAnd_22 : decode cX5_readAnd 22 = .ok (.invokevirtual 88, 3) := by decide +kernel
theorem dX5_readAnd_25 : decode cX5_readAnd 25 = .ok (.ifCond .eq 35, 3) := by decide +kernel
theorem dX5_readAnd_28 : decode cX5_readAnd 28 = .ok (.aload_n 0, 1) := by decide +kernel
theorem dX5_readAnd_29 : decode cX5_readAnd 29 = .ok (.invokevirtual 56, 3) := by decide +kernel
theorem dX5_readAnd_32 : decode cX5_readAnd 32 = .ok (.aload_n 0, 1) := by decide +kernel
theorem dX5_readAnd_33 : decode cX5_readAnd 33 = .ok (.iload_n 1, 1) := by decide +kernel
theorem dX5_readAnd_34 : decode cX5_readAnd 34 = .ok (.invokevirtual 186, 3) := by decide +kernel
theorem dX5_readAnd_37 : decode cX5_readAnd 37 = .ok (.ifCond .ne 5, 3) := by decide +kernel
theorem dX5_readAnd_40 : decode cX5_readAnd 40 = .ok (.iconst 0, 1) := by decide +kernel
theorem dX5_readAnd_41 : decode cX5_readAnd 41 = .ok (.ireturn, 1) := by decide +kernel
theorem dX5_readAnd_42 : decode cX5_readAnd 42 = .ok (.aload_n 0, 1) := by decide +kernel
theorem dX5_readAnd_43 : decode cX5_readAnd 43 = .ok (.getfield 37, 3) := by decide +kernel
theorem dX5_readAnd_46 : decode cX5_readAnd 46 = .ok (.getfield 162, 3) := by decide +kernel
theorem dX5_readAnd_49 : decode cX5_readAnd 49 = .ok (.bipush (-8), 2) := by decide +kernel
theorem dX5_readAnd_51 : decode cX5_readAnd 51 = .ok (.invokevirtual 183, 3) := by decide +kernel
theorem dX5_readAnd_54 : decode cX5_readAnd 54 = .ok (.iinc 2 1, 3) := by decide +kernel
theorem dX5_readAnd_57 : decode cX5_readAnd 57 = .ok (.goto (-45), 3) := by decide +kernel
theorem dX5_readAnd_60 : decode cX5_readAnd 60 = .ok (.iconst 1, 1) := by decide +kernel
theorem dX5_readAnd_61 : decode cX5_readAnd 61 = .ok (.ireturn, 1) := by decide +kernel
theorem dX5_readNot_0 : decode cX5_readNot 0 = .ok (.iconst 0, 1) := by decide +kernel
theorem dX5_readNot_1 : decode cX5_readNot 1 = .ok (.istore_n 2, 1) := by decide +kernel
theorem dX5_readNot_2 : decode cX5_readNot 2 = .ok (.iload_n 2, 1) := by decide +kernel
theorem dX5_readNot_3 : decode cX5_readNot 3 = .ok (.bipush 6, 2) := by decide +kernel
theorem dX5_readNot_5 : decode cX5_readNot 5 = .ok (.if_icmp .ge 22, 3) := by decide +kernel
theorem dX5_readNot_8 : decode cX5_readNot 8 = .ok (.aload_n 0, 1) := by decide +kernel
theorem dX5_readNot_9 : decode cX5_readNot 9 = .ok (.ldc 191, 2) := by decide +kernel
theorem dX5_readNot_11 : decode cX5_readNot 11 = .ok (.invokevirtual 88, 3) := by decide +kernel
theorem dX5_readNot_14 : decode cX5_readNot 14 = .ok (.ifCond .eq 13, 3) := by decide +kernel
theorem dX5_readNot_17 : decode cX5_readNot 17 = .ok (.aload_n 0, 1) := by decide +kernel
theorem dX5_readNot_18 : decode cX5_readNot 18 = .ok (.invokevirtual 56, 3) := by decide +kernel
theorem dX5_readNot_21 : decode cX5_readNot 21 = .ok (.iinc 2 1, 3) := by decide +kernel
theorem dX5_readNot_24 : decode cX5_readNot 24 = .ok (.goto (-22), 3) := by decide +kernel
theorem dX5_readNot_27 : decode cX5_readNot 27 = .ok (.iload_n 2, 1) := by decide +kernel
theorem dX5_readNot_28 : decode cX5_readNot 28 = .ok (.bipush 6, 2) := by decide +kernel
theorem dX5_readNot_30 : decode cX5_readNot 30 = .ok (.if_icmp .ne 18, 3) := by decide +kernel
theorem dX5_readNot_33 : decode cX5_readNot 33 = .ok (.aload_n 0, 1) := by decide +kernel
theorem dX5_readNot_34 : decode cX5_readNot 34 = .ok (.ldc 191, 2) := by decide +kernel
theorem dX5_readNot_36 : decode cX5_readNot 36 = .ok (.invokevirtual 88, 3) := by decide +kernel
theorem dX5_readNot_39 : decode cX5_readNot 39 = .ok (.ifCond .eq 9, 3) := by decide +kernel
theorem dX5_readNot_42 : decode cX5_readNot 42 = .ok (.aload_n 0, 1) := by decide +kernel
theorem dX5_readNot_43 : decode cX5_readNot 43 = .ok (.iconst 2, 1) := by decide +kernel
theorem dX5_readNot_44 : decode cX5_readNot 44 = .ok (.invokevirtual 113, 3) := by decide +kernel
theorem dX5_readNot_47 : decode cX5_readNot 47 = .ok (.ireturn, 1) := by decide +kernel
theorem dX5_readNot_48 : decode cX5_readNot 48 = .ok (.aload_n 0, 1) := by decide +kernel
theorem dX5_readNot_49 : decode cX5_readNot 49 = .ok (.iload_n 1, 1) := by decide +kernel
theorem dX5_readNot_50 : decode cX5_readNot 50 = .ok (.invokevirtual 193, 3) := by decide +kernel
theorem dX5_readNot_53 : decode cX5_readNot 53 = .ok (.ifCond .ne 5, 3) := by decide +kernel
theorem dX5_readNot_56 : decode cX5_readNot 56 = .ok (.iconst 0, 1) := by decide +kernel
theorem dX5_readNot_57 : decode cX5_readNot 57 = .ok (.ireturn, 1) := by decide +kernel
theorem dX5_readNot_58 : decode cX5_readNot 58 = .ok (.iconst 0, 1) := by decide +kernel
theorem dX5_readNot_59 : decode cX5_readNot 59 = .ok (.istore_n 3, 1) := by decide +kernel
theorem dX5_readNot_60 : decode cX5_readNot 60 = .ok (.iload_n 3, 1) := by decide +kernel
theorem dX5_readNot_61 : decode cX5_readNot 61 = .ok (.iload_n 2, 1) := by decide +kernel
theorem dX5_readNot_62 : decode cX5_readNot 62 = .ok (.if_icmp .ge 21, 3) := by decide +kernel
theorem dX5_readNot_65 : decode cX5_readNot 65 = .ok (.aload_n 0, 1) := by decide +kernel
theorem dX5_readNot_66 : decode cX5_readNot 66 = .ok (.getfield 37, 3) := by decide +kernel
theorem dX5_readNot_69 : decode cX5_readNot 69 = .ok (.getfield 162, 3) := by decide +kernel
theorem dX5_readNot_72 : decode cX5_readNot 72 = .ok (.bipush (-9), 2) := by decide +kernel
theorem dX5_readNot_74 : decode cX5_readNot 74 = .ok (.invokevirtual 183, 3) := by decide +kernel
theorem dX5_readNot_77 : decode cX5_readNot 77 = .ok (.iinc 3 1, 3) := by decide +kernel
theorem dX5_readNot_80 : decode cX5_readNot 80 = .ok (.goto (-20), 3) := by decide +kernel
theorem dX5_readNot_83 : decode cX5_readNot 83 = .ok (.iconst 1, 1) := by decide +kernel
theorem dX5_readNot_84 : decode cX5_readNot 84 = .ok (.ireturn, 1) := by decide +kernel
theorem dX5_readTest_0 : decode cX5_readTest 0 = .ok (.aload_n 0, 1) := by decide +kernel
theorem dX5_readTest_1 : decode cX5_readTest 1 = .ok (.iload_n 1, 1) := by decide +kernel
theorem dX5_readTest_2 : decode cX5_readTest 2 = .ok (.invokevirtual 196, 3) := by decide +kernel
theorem dX5_readTest_5 : decode cX5_readTest 5 = .ok (.ifCond .ne 5, 3) := by decide +kernel
theorem dX5_readTest_8 : decode cX5_readTest 8 = .ok (.iconst 0, 1) := by decide +kernel
theorem dX5_readTest_9 : decode cX5_readTest 9 = .ok (.ireturn, 1) := by decide +kernel
theorem dX5_readTest_10 : decode cX5_readTest 10 = .ok (.aload_n 0, 1) := by decide +kernel
theorem dX5_readTest_11 : decode cX5_readTest 11 = .ok (.bipush 60, 2) := by decide +kernel
theorem dX5_readTest_13 : decode cX5_readTest 13 = .ok (.invokevirtual 175, 3) := by decide +kernel
theorem dX5_readTest_16 : decode cX5_readTest 16 = .ok (.ifCond .ne 14, 3) := by decide +kernel
theorem dX5_readTest_19 : decode cX5_readTest 19 = .ok (.aload_n 0, 1) := by decide +kernel
theorem dX5_readTest_20 : decode cX5_readTest 20 = .ok (.bipush 61, 2) := by decide +kernel
theorem dX5_readTest_22 : decode cX5_readTest 22 = .ok (.invokevirtual 175, 3) := by decide +kernel
theorem dX5_readTest_25 : decode cX5_readTest 25 = .ok (.ifCond .ne 5, 3) := by decide +kernel
theorem dX5_readTest_28 : decode cX5_readTest 28 = .ok (.iconst 1, 1) := by decide +kernel
theorem dX5_readTest_29 : decode cX5_readTest 29 = .ok (.ireturn, 1) := by decide +kernel
theorem dX5_readTest_30 : decode cX5_readTest 30 = .ok (.aload_n 0, 1) := by decide +kernel
theorem dX5_readTest_31 : decode cX5_readTest 31 = .ok (.bipush 60, 2) := by decide +kernel
theorem dX5_readTest_33 : decode cX5_readTest 33 = .ok (.invokevirtual 175, 3) := by decide +kernel
theorem dX5_readTest_36 : decode cX5_readTest 36 = .ok (.ifCond .eq 8, 3) := by decide +kernel
theorem dX5_readTest_39 : decode cX5_readTest 39 = .ok (.bipush (-10), 2) := by decide +kernel
theorem dX5_readTest_41 : decode cX5_readTest 41 = .ok (.goto 5, 3) := by decide +kernel
theorem dX5_readTest_44 : decode cX5_readTest 44 = .ok (.bipush (-11), 2) := by decide +kernel
theorem dX5_readTest_46 : decode cX5_readTest 46 = .ok (.istore_n 2, 1) := by decide +kernel
theorem dX5_readTest_47 : decode cX5_readTest 47 = .ok (.aload_n 0, 1) := by decide +kernel
theorem dX5_readTest_48 : decode cX5_readTest 48 = .ok (.invokevirtual 56, 3) := by decide +kernel
theorem dX5_readTest_51 : decode cX5_readTest 51 = .ok (.aload_n 0, 1) := by decide +kernel
theorem dX5_readTest_52 : decode cX5_readTest 52 = .ok (.iload_n 1, 1) := by decide +kernel
theorem dX5_readTest_53 : decode cX5_readTest 53 = .ok (.invokevirtual 196, 3) := by decide +kernel
theorem dX5_readTest_56 : decode cX5_readTest 56 = .ok (.ifCond .ne 5, 3) := by decide +kernel
theorem dX5_readTest_59 : decode cX5_readTest 59 = .ok (.iconst 0, 1) := by decide +kernel
theorem dX5_readTest_60 : decode cX5_readTest 60 = .ok (.ireturn, 1) := by decide +kernel
theorem dX5_readTest_61 : decode cX5_readTest 61 = .ok (.aload_n 0, 1) := by decide +kernel
theorem dX5_readTest_62 : decode cX5_readTest 62 = .ok (.getfield 37, 3) := by decide +kernel
theorem dX5_readTest_65 : decode cX5_readTest 65 = .ok (.getfield 162, 3) := by decide +kernel
theorem dX5_readTest_68 : decode cX5_readTest 68 = .ok (.iload_n 2, 1) := by decide +kernel
theorem dX5_readTest_69 : decode cX5_readTest 69 = .ok (.invokevirtual 183, 3) := by decide +kernel
theorem dX5_readTest_72 : decode cX5_readTest 72 = .ok (.iconst 1, 1) := by decide +kernel
theorem dX5_readTest_73 : decode cX5_readTest 73 = .ok (.ireturn, 1) := by decide +kernel
theorem dX5_readSum_0 : decode cX5_readSum 0 = .ok (.aload_n 0, 1) := by decide +kernel
theorem dX5_readSum_1 : decode cX5_readSum 1 = .ok (.iload_n 1, 1) := by decide +kernel
theorem dX5_readSum_2 : decode cX5_readSum 2 = .ok (.invokevirtual 199, 3) := by decide +kernel
theorem dX5_readSum_5 : decode cX5_readSum 5 = .ok (.ifCond .ne 5, 3) := by decide +kernel
theorem dX5_readSum_8 : decode cX5_readSum 8 = .ok (.iconst 0, 1) := by decide +kernel
theorem dX5_readSum_9 : decode cX5_readSum 9 = .ok (.ireturn, 1) := by decide +kernel
theorem dX5_readSum_10 : decode cX5_readSum 10 = .ok (.iconst 0, 1) := by decide +kernel
theorem dX5_readSum_11 : decode cX5_readSum 11 = .ok (.istore_n 2, 1) := by decide +kernel
theorem dX5_readSum_12 : decode cX5_readSum 12 = .ok (.iload_n 2, 1) := by decide +kernel
theorem dX5_readSum_13 : decode cX5_readSum 13 = .ok (.sipush 700, 3) := by decide +kernel
theorem dX5_readSum_16 : decode cX5_readSum 16 = .ok (.if_icmp .ge 69, 3) := by decide +kernel
theorem dX5_readSum_19 : decode cX5_readSum 19 = .ok (.aload_n 0, 1) := by decide +kernel
theorem dX5_readSum_20 : decode cX5_readSum 20 = .ok (.bipush 43, 2) := by decide +kernel
theorem dX5_readSum_22 : decode cX5_readSum 22 = .ok (.invokevirtual 175, 3) := by decide +kernel
theorem dX5_readSum_25 : decode cX5_readSum 25 = .ok (.ifCond .ne 12, 3) := by decide +kernel
theorem dX5_readSum_28 : decode cX5_readSum 28 = .ok (.aload_n 0, 1) := by decide +kernel
theorem dX5_readSum_29 : decode cX5_readSum 29 = .ok (.bipush 45, 2) := by decide +kernel
theorem dX5_readSum_31 : decode cX5_readSum 31 = .ok (.invokevirtual 175, 3) := by decide +kernel
theorem dX5_readSum_34 : decode cX5_readSum 34 = .ok (.ifCond .eq 51, 3) := by decide +kernel
theorem dX5_readSum_37 : decode cX5_readSum 37 = .ok (.aload_n 0, 1) := by decide +kernel
theorem dX5_readSum_38 : decode cX5_readSum 38 = .ok (.bipush 43, 2) := by decide +kernel
theorem dX5_readSum_40 : decode cX5_readSum 40 = .ok (.invokevirtual 175, 3) := by decide +kernel
theorem dX5_readSum_43 : decode cX5_readSum 43 = .ok (.ifCond .eq 8, 3) := by decide +kernel
theorem dX5_readSum_46 : decode cX5_readSum 46 = .ok (.bipush (-12), 2) := by decide +kernel
theorem dX5_readSum_48 : decode cX5_readSum 48 = .ok (.goto 5, 3) := by decide +kernel
theorem dX5_readSum_51 : decode cX5_readSum 51 = .ok (.bipush (-13), 2) := by decide +kernel
theorem dX5_readSum_53 : decode cX5_readSum 53 = .ok (.istore_n 3, 1) := by decide +kernel
theorem dX5_readSum_54 : decode cX5_readSum 54 = .ok (.aload_n 0, 1) := by decide +kernel
theorem dX5_readSum_55 : decode cX5_readSum 55 = .ok (.invokevirtual 56, 3) := by decide +kernel
theorem dX5_readSum_58 : decode cX5_readSum 58 = .ok (.aload_n 0, 1) := by decide +kernel
theorem dX5_readSum_59 : decode cX5_readSum 59 = .ok (.iload_n 1, 1) := by decide +kernel
theorem dX5_readSum_60 : decode cX5_readSum 60 = .ok (.invokevirtual 199, 3) := by decide +kernel
theorem dX5_readSum_63 : decode cX5_readSum 63 = .ok (.ifCond .ne 5, 3) := by decide +kernel
theorem dX5_readSum_66 : decode cX5_readSum 66 = .ok (.iconst 0, 1) := by decide +kernel
theorem dX5_readSum_67 : decode cX5_readSum 67 = .ok (.ireturn, 1) := by decide +kernel
theorem dX5_readSum_68 : decode cX5_readSum 68 = .ok (.aload_n 0, 1) := by decide +kernel
theorem dX5_readSum_69 : decode cX5_readSum 69 = .ok (.getfield 37, 3) := by decide +kernel
theorem dX5_readSum_72 : decode cX5_readSum 72 = .ok (.getfield 162, 3) := by decide +kernel
theorem dX5_readSum_75 : decode cX5_readSum 75 = .ok (.iload_n 3, 1) := by decide +kernel
theorem dX5_readSum_76 : decode cX5_readSum 76 = .ok (.invokevirtual 183, 3) := by decide +kernel
theorem dX5_readSum_79 : decode cX5_readSum 79 = .ok (.iinc 2 1, 3) := by decide +kernel
theorem dX5_readSum_82 : decode cX5_readSum 82 = .ok (.goto (-70), 3) := by decide +kernel
theorem dX5_readSum_85 : decode cX5_readSum 85 = .ok (.iconst 1, 1) := by decide +kernel
theorem dX5_readSum_86 : decode cX5_readSum 86 = .ok (.ireturn, 1) := by decide +kernel
theorem dX5_readProduct_0 : decode cX5_readProduct 0 = .ok (.aload_n 0, 1) := by decide +kernel
theorem dX5_readProduct_1 : decode cX5_readProduct 1 = .ok (.iload_n 1, 1) := by decide +kernel
theorem dX5_readProduct_2 : decode cX5_readProduct 2 = .ok (.invokevirtual 202, 3) := by decide +kernel
theorem dX5_readProduct_5 : decode cX5_readProduct 5 = .ok (.ifCond .ne 5, 3) := by decide +kernel
theorem dX5_readProduct_8 : decode cX5_readProduct 8 = .ok (.iconst 0, 1) := by decide +kernel
theorem dX5_readProduct_9 : decode cX5_readProduct 9 = .ok (.ireturn, 1) := by decide +kernel
theorem dX5_readProduct_10 : decode cX5_readProduct 10 = .ok (.iconst 0, 1) := by decide +kernel
theorem dX5_readProduct_11 : decode cX5_readProduct 11 = .ok (.istore_n 2, 1) := by decide +kernel
theorem dX5_readProduct_12 : decode cX5_readProduct 12 = .ok (.iload_n 2, 1) := by decide +kernel
theorem dX5_readProduct_13 : decode cX5_readProduct 13 = .ok (.sipush 700, 3) := by decide +kernel
theorem dX5_readProduct_16 : decode cX5_readProduct 16 = .ok (.if_icmp .ge 69, 3) := by decide +kernel
theorem dX5_readProduct_19 : decode cX5_readProduct 19 = .ok (.aload_n 0, 1) := by decide +kernel
theorem dX5_readProduct_20 : decode cX5_readProduct 20 = .ok (.bipush 42, 2) := by decide +kernel
theorem dX5_readProduct_22 : decode cX5_readProduct 22 = .ok (.invokevirtual 175, 3) := by decide +kernel
theorem dX5_readProduct_25 : decode cX5_readProduct 25 = .ok (.ifCond .ne 12, 3) := by decide +kernel
theorem dX5_readProduct_28 : decode cX5_readProduct 28 = .ok (.aload_n 0, 1) := by decide +kernel
theorem dX5_readProduct_29 : decode cX5_readProduct 29 = .ok (.bipush 47, 2) := by decide +kernel
theorem dX5_readProduct_31 : decode cX5_readProduct 31 = .ok (.invokevirtual 175, 3) := by decide +kernel
theorem dX5_readProduct_34 : decode cX5_readProduct 34 = .ok (.ifCond .eq 51, 3) := by decide +kernel
theorem dX5_readProduct_37 : decode cX5_readProduct 37 = .ok (.aload_n 0, 1) := by decide +kernel
theorem dX5_readProduct_38 : decode cX5_readProduct 38 = .ok (.bipush 42, 2) := by decide +kernel
theorem dX5_readProduct_40 : decode cX5_readProduct 40 = .ok (.invokevirtual 175, 3) := by decide +kernel
theorem dX5_readProduct_43 : decode cX5_readProduct 43 = .ok (.ifCond .eq 8, 3) := by decide +kernel
theorem dX5_readProduct_46 : decode cX5_readProduct 46 = .ok (.bipush (-14), 2) := by decide +kernel
theorem dX5_readProduct_48 : decode cX5_readProduct 48 = .ok (.goto 5, 3) := by decide +kernel
theorem dX5_readProduct_51 : decode cX5_readProduct 51 = .ok (.bipush (-15), 2) := by decide +kernel
theorem dX5_readProduct_53 : decode cX5_readProduct 53 = .ok (.istore_n 3, 1) := by decide +kernel
theorem dX5_readProduct_54 : decode cX5_readProduct 54 = .ok (.aload_n 0, 1) := by decide +kernel
theorem dX5_readProduct_55 : decode cX5_readProduct 55 = .ok (.invokevirtual 56, 3) := by decide +kernel
theorem dX5_readProduct_58 : decode cX5_readProduct 58 = .ok (.aload_n 0, 1) := by decide +kernel
theorem dX5_readProduct_59 : decode cX5_readProduct 59 = .ok (.iload_n 1, 1) := by decide +kernel
theorem dX5_readProduct_60 : decode cX5_readProduct 60 = .ok (.invokevirtual 202, 3) := by decide +kernel
theorem dX5_readProduct_63 : decode cX5_readProduct 63 = .ok (.ifCond .ne 5, 3) := by decide +kernel
theorem dX5_readProduct_66 : decode cX5_readProduct 66 = .ok (.iconst 0, 1) := by decide +kernel
theorem dX5_readProduct_67 : decode cX5_readProduct 67 = .ok (.ireturn, 1) := by decide +kernel
theorem dX5_readProduct_68 : decode cX5_readProduct 68 = .ok (.aload_n 0, 1) := by decide +kernel
theorem dX5_readProduct_69 : decode cX5_readProduct 69 = .ok (.getfield 37, 3) := by decide +kernel
theorem dX5_readProduct_72 : decode cX5_readProduct 72 = .ok (.getfield 162, 3) := by decide +kernel
theorem dX5_readProduct_75 : decode cX5_readProduct 75 = .ok (.iload_n 3, 1) := by decide +kernel
theorem dX5_readProduct_76 : decode cX5_readProduct 76 = .ok (.invokevirtual 183, 3) := by decide +kernel
theorem dX5_readProduct_79 : decode cX5_readProduct 79 = .ok (.iinc 2 1, 3) := by decide +kernel
theorem dX5_readProduct_82 : decode cX5_readProduct 82 = .ok (.goto (-70), 3) := by decide +kernel
theorem dX5_readProduct_85 : decode cX5_readProduct 85 = .ok (.iconst 1, 1) := by decide +kernel
theorem dX5_readProduct_86 : decode cX5_readProduct 86 = .ok (.ireturn, 1) := by decide +kernel
theorem dX5_readPart_0 : decode cX5_readPart 0 = .ok (.aload_n 0, 1) := by decide +kernel
theorem dX5_readPart_1 : decode cX5_readPart 1 = .ok (.bipush 40, 2) := by decide +kernel
theorem dX5_readPart_3 : decode cX5_readPart 3 = .ok (.invokevirtual 175, 3) := by decide +kernel
theorem dX5_readPart_6 : decode cX5_readPart 6 = .ok (.ifCond .eq 32, 3) := by decide +kernel
theorem dX5_readPart_9 : decode cX5_readPart 9 = .ok (.aload_n 0, 1) := by decide +kernel
theorem dX5_readPart_10 : decode cX5_readPart 10 = .ok (.invokevirtual 56, 3) := by decide +kernel
theorem dX5_readPart_13 : decode cX5_readPart 13 = .ok (.aload_n 0, 1) := by decide +kernel
theorem dX5_readPart_14 : decode cX5_readPart 14 = .ok (.iload_n 1, 1) := by decide +kernel
theorem dX5_readPart_15 : decode cX5_readPart 15 = .ok (.iconst 1, 1) := by decide +kernel
theorem dX5_readPart_16 : decode cX5_readPart 16 = .ok (.iadd, 1) := by decide +kernel
theorem dX5_readPart_17 : decode cX5_readPart 17 = .ok (.invokevirtual 172, 3) := by decide +kernel
theorem dX5_readPart_20 : decode cX5_readPart 20 = .ok (.ifCond .eq 16, 3) := by decide +kernel
theorem dX5_readPart_23 : decode cX5_readPart 23 = .ok (.aload_n 0, 1) := by decide +kernel
theorem dX5_readPart_24 : decode cX5_readPart 24 = .ok (.bipush 41, 2) := by decide +kernel
theorem dX5_readPart_26 : decode cX5_readPart 26 = .ok (.invokevirtual 117, 3) := by decide +kernel
theorem dX5_readPart_29 : decode cX5_readPart 29 = .ok (.ifCond .eq 7, 3) := by decide +kernel
theorem dX5_readPart_32 : decode cX5_readPart 32 = .ok (.iconst 1, 1) := by decide +kernel
theorem dX5_readPart_33 : decode cX5_readPart 33 = .ok (.goto 4, 3) := by decide +kernel
theorem dX5_readPart_36 : decode cX5_readPart 36 = .ok (.iconst 0, 1) := by decide +kernel
theorem dX5_readPart_37 : decode cX5_readPart 37 = .ok (.ireturn, 1) := by decide +kernel
theorem dX5_readPart_38 : decode cX5_readPart 38 = .ok (.aload_n 0, 1) := by decide +kernel
theorem dX5_readPart_39 : decode cX5_readPart 39 = .ok (.getfield 25, 3) := by decide +kernel
theorem dX5_readPart_42 : decode cX5_readPart 42 = .ok (.iconst 3, 1) := by decide +kernel
theorem dX5_readPart_43 : decode cX5_readPart 43 = .ok (.if_icmp .eq 17, 3) := by decide +kernel
theorem dX5_readPart_46 : decode cX5_readPart 46 = .ok (.aload_n 0, 1) := by decide +kernel
theorem dX5_readPart_47 : decode cX5_readPart 47 = .ok (.getfield 25, 3) := by decide +kernel
theorem dX5_readPart_50 : decode cX5_readPart 50 = .ok (.iconst 2, 1) := by decide +kernel
theorem dX5_readPart_51 : decode cX5_readPart 51 = .ok (.if_icmp .eq 9, 3) := by decide +kernel
theorem dX5_readPart_54 : decode cX5_readPart 54 = .ok (.aload_n 0, 1) := by decide +kernel
theorem dX5_readPart_55 : decode cX5_readPart 55 = .ok (.iconst 1, 1) := by decide +kernel
theorem dX5_readPart_56 : decode cX5_readPart 56 = .ok (.invokevirtual 113, 3) := by decide +kernel
theorem dX5_readPart_59 : decode cX5_readPart 59 = .ok (.ireturn, 1) := by decide +kernel
theorem dX5_readPart_60 : decode cX5_readPart 60 = .ok (.aload_n 0, 1) := by decide +kernel
theorem dX5_readPart_61 : decode cX5_readPart 61 = .ok (.getfield 25, 3) := by decide +kernel
theorem dX5_readPart_64 : decode cX5_readPart 64 = .ok (.iconst 3, 1) := by decide +kernel
theorem dX5_readPart_65 : decode cX5_readPart 65 = .ok (.if_icmp .ne 16, 3) := by decide +kernel
theorem dX5_readPart_68 : decode cX5_readPart 68 = .ok (.aload_n 0, 1) := by decide +kernel
theorem dX5_readPart_69 : decode cX5_readPart 69 = .ok (.invokevirtual 70, 3) := by decide +kernel
theorem dX5_readPart_72 : decode cX5_readPart 72 = .ok (.ifCond .eq 9, 3) := by decide +kernel
theorem dX5_readPart_75 : decode cX5_readPart 75 = .ok (.aload_n 0, 1) := by decide +kernel
theorem dX5_readPart_76 : decode cX5_readPart 76 = .ok (.iconst 2, 1) := by decide +kernel
theorem dX5_readPart_77 : decode cX5_readPart 77 = .ok (.invokevirtual 113, 3) := by decide +kernel
theorem dX5_readPart_80 : decode cX5_readPart 80 = .ok (.ireturn, 1) := by decide +kernel
theorem dX5_readPart_81 : decode cX5_readPart 81 = .ok (.aload_n 0, 1) := by decide +kernel
theorem dX5_readPart_82 : decode cX5_readPart 82 = .ok (.getfield 25, 3) := by decide +kernel
theorem dX5_readPart_85 : decode cX5_readPart 85 = .ok (.iconst 3, 1) := by decide +kernel
theorem dX5_readPart_86 : decode cX5_readPart 86 = .ok (.if_icmp .ne 10, 3) := by decide +kernel
theorem dX5_readPart_89 : decode cX5_readPart 89 = .ok (.aload_n 0, 1) := by decide +kernel
theorem dX5_readPart_90 : decode cX5_readPart 90 = .ok (.getfield 28, 3) := by decide +kernel
theorem dX5_readPart_93 : decode cX5_readPart 93 = .ok (.goto 7, 3) := by decide +kernel
theorem dX5_readPart_96 : decode cX5_readPart 96 = .ok (.aload_n 0, 1) := by decide +kernel
theorem dX5_readPart_97 : decode cX5_readPart 97 = .ok (.invokevirtual 205, 3) := by decide +kernel
theorem dX5_readPart_100 : decode cX5_readPart 100 = .ok (.istore_n 2, 1) := by decide +kernel
theorem dX5_readPart_101 : decode cX5_readPart 101 = .ok (.iload_n 2, 1) := by decide +kernel
theorem dX5_readPart_102 : decode cX5_readPart 102 = .ok (.bipush (-16), 2) := by decide +kernel
theorem dX5_readPart_104 : decode cX5_readPart 104 = .ok (.if_icmp .ne 9, 3) := by decide +kernel
theorem dX5_readPart_107 : decode cX5_readPart 107 = .ok (.aload_n 0, 1) := by decide +kernel
theorem dX5_readPart_108 : decode cX5_readPart 108 = .ok (.iconst 3, 1) := by decide +kernel
theorem dX5_readPart_109 : decode cX5_readPart 109 = .ok (.invokevirtual 113, 3) := by decide +kernel
theorem dX5_readPart_112 : decode cX5_readPart 112 = .ok (.ireturn, 1) := by decide +kernel
theorem dX5_readPart_113 : decode cX5_readPart 113 = .ok (.aload_n 0, 1) := by decide +kernel
theorem dX5_readPart_114 : decode cX5_readPart 114 = .ok (.getfield 37, 3) := by decide +kernel
theorem dX5_readPart_117 : decode cX5_readPart 117 = .ok (.getfield 162, 3) := by decide +kernel
theorem dX5_readPart_120 : decode cX5_readPart 120 = .ok (.iload_n 2, 1) := by decide +kernel
theorem dX5_readPart_121 : decode cX5_readPart 121 = .ok (.invokevirtual 183, 3) := by decide +kernel
theorem dX5_readPart_124 : decode cX5_readPart 124 = .ok (.aload_n 0, 1) := by decide +kernel
theorem dX5_readPart_125 : decode cX5_readPart 125 = .ok (.invokevirtual 56, 3) := by decide +kernel
theorem dX5_readPart_128 : decode cX5_readPart 128 = .ok (.iconst 1, 1) := by decide +kernel
theorem dX5_readPart_129 : decode cX5_readPart 129 = .ok (.ireturn, 1) := by decide +kernel
theorem dX5_valueStep_0 : decode cX5_valueStep 0 = .ok (.aload_n 0, 1) := by decide +kernel
theorem dX5_valueStep_1 : decode cX5_valueStep 1 = .ok (.ldc 208, 2) := by decide +kernel
theorem dX5_valueStep_3 : decode cX5_valueStep 3 = .ok (.invokevirtual 88, 3) := by decide +kernel
theorem dX5_valueStep_6 : decode cX5_valueStep 6 = .ok (.ifCond .eq 5, 3) := by decide +kernel
theorem dX5_valueStep_9 : decode cX5_valueStep 9 = .ok (.iconst (-1), 1) := by decide +kernel
theorem dX5_valueStep_10 : decode cX5_valueStep 10 = .ok (.ireturn, 1) := by decide +kernel
theorem dX5_valueStep_11 : decode cX5_valueStep 11 = .ok (.aload_n 0, 1) := by decide +kernel
theorem dX5_valueStep_12 : decode cX5_valueStep 12 = .ok (.ldc 210, 2) := by decide +kernel
theorem dX5_valueStep_14 : decode cX5_valueStep 14 = .ok (.invokevirtual 88, 3) := by decide +kernel
theorem dX5_valueStep_17 : decode cX5_valueStep 17 = .ok (.ifCond .eq 6, 3) := by decide +kernel
theorem dX5_valueStep_20 : decode cX5_valueStep 20 = .ok (.bipush (-2), 2) := by decide +kernel
theorem dX5_valueStep_22 : decode cX5_valueStep 22 = .ok (.ireturn, 1) := by decide +kernel
theorem dX5_valueStep_23 : decode cX5_valueStep 23 = .ok (.aload_n 0, 1) := by decide +kernel
theorem dX5_valueStep_24 : decode cX5_valueStep 24 = .ok (.ldc 212, 2) := by decide +kernel
theorem dX5_valueStep_26 : decode cX5_valueStep 26 = .ok (.invokevirtual 88, 3) := by decide +kernel
theorem dX5_valueStep_29 : decode cX5_valueStep 29 = .ok (.ifCond .eq 6, 3) := by decide +kernel
theorem dX5_valueStep_32 : decode cX5_valueStep 32 = .ok (.bipush (-3), 2) := by decide +kernel
theorem dX5_valueStep_34 : decode cX5_valueStep 34 = .ok (.ireturn, 1) := by decide +kernel
theorem dX5_valueStep_35 : decode cX5_valueStep 35 = .ok (.aload_n 0, 1) := by decide +kernel
theorem dX5_valueStep_36 : decode cX5_valueStep 36 = .ok (.ldc 214, 2) := by decide +kernel
theorem dX5_valueStep_38 : decode cX5_valueStep 38 = .ok (.invokevirtual 88, 3) := by decide +kernel
theorem dX5_valueStep_41 : decode cX5_valueStep 41 = .ok (.ifCond .eq 6, 3) := by decide +kernel
theorem dX5_valueStep_44 : decode cX5_valueStep 44 = .ok (.bipush (-4), 2) := by decide +kernel
theorem dX5_valueStep_46 : decode cX5_valueStep 46 = .ok (.ireturn, 1) := by decide +kernel
theorem dX5_valueStep_47 : decode cX5_valueStep 47 = .ok (.aload_n 0, 1) := by decide +kernel
theorem dX5_valueStep_48 : decode cX5_valueStep 48 = .ok (.ldc 216, 2) := by decide +kernel
theorem dX5_valueStep_50 : decode cX5_valueStep 50 = .ok (.invokevirtual 88, 3) := by decide +kernel
theorem dX5_valueStep_53 : decode cX5_valueStep 53 = .ok (.ifCond .eq 6, 3) := by decide +kernel
theorem dX5_valueStep_56 : decode cX5_valueStep 56 = .ok (.bipush (-5), 2) := by decide +kernel
theorem dX5_valueStep_58 : decode cX5_valueStep 58 = .ok (.ireturn, 1) := by decide +kernel
theorem dX5_valueStep_59 : decode cX5_valueStep 59 = .ok (.aload_n 0, 1) := by decide +kernel
theorem dX5_valueStep_60 : decode cX5_valueStep 60 = .ok (.ldc 218, 2) := by decide +kernel
theorem dX5_valueStep_62 : decode cX5_valueStep 62 = .ok (.invokevirtual 88, 3) := by decide +kernel
theorem dX5_valueStep_65 : decode cX5_valueStep 65 = .ok (.ifCond .eq 8, 3) := by decide +kernel
theorem dX5_valueStep_68 : decode cX5_valueStep 68 = .ok (.bipush (-6), 2) := by decide +kernel
theorem dX5_valueStep_70 : decode cX5_valueStep 70 = .ok (.goto 5, 3) := by decide +kernel
theorem dX5_valueStep_73 : decode cX5_valueStep 73 = .ok (.bipush (-16), 2) := by decide +kernel
theorem dX5_valueStep_75 : decode cX5_valueStep 75 = .ok (.ireturn, 1) := by decide +kernel
theorem dX6_init_0 : decode cX6_init 0 = .ok (.aload_n 0, 1) := by decide +kernel
theorem dX6_init_1 : decode cX6_init 1 = .ok (.invokespecial 3, 3) := by decide +kernel
theorem dX6_init_4 : decode cX6_init 4 = .ok (.aload_n 0, 1) := by decide +kernel
theorem dX6_init_5 : decode cX6_init 5 = .ok (.iconst 0, 1) := by decide +kernel
theorem dX6_init_6 : decode cX6_init 6 = .ok (.putfield 9, 3) := by decide +kernel
theorem dX6_init_9 : decode cX6_init 9 = .ok (.aload_n 0, 1) := by decide +kernel
theorem dX6_init_10 : decode cX6_init 10 = .ok (.iconst 0, 1) := by decide +kernel
theorem dX6_init_11 : decode cX6_init 11 = .ok (.putfield 15, 3) := by decide +kernel
theorem dX6_init_14 : decode cX6_init 14 = .ok (.aload_n 0, 1) := by decide +kernel
theorem dX6_init_15 : decode cX6_init 15 = .ok (.bipush 12, 2) := by decide +kernel
theorem dX6_init_17 : decode cX6_init 17 = .ok (.newarray .int, 2) := by decide +kernel
theorem dX6_init_19 : decode cX6_init 19 = .ok (.putfield 18, 3) := by decide +kernel
theorem dX6_init_22 : decode cX6_init 22 = .ok (.aload_n 0, 1) := by decide +kernel
theorem dX6_init_23 : decode cX6_init 23 = .ok (.bipush 12, 2) := by decide +kernel
theorem dX6_init_25 : decode cX6_init 25 = .ok (.newarray .int, 2) := by decide +kernel
theorem dX6_init_27 : decode cX6_init 27 = .ok (.putfield 22, 3) := by decide +kernel
theorem dX6_init_30 : decode cX6_init 30 = .ok (.aload_n 0, 1) := by decide +kernel
theorem dX6_init_31 : decode cX6_init 31 = .ok (.bipush 12, 2) := by decide +kernel
theorem dX6_init_33 : decode cX6_init 33 = .ok (.newarray .int, 2) := by decide +kernel
theorem dX6_init_35 : decode cX6_init 35 = .ok (.putfield 25, 3) := by decide +kernel
theorem dX6_init_38 : decode cX6_init 38 = .ok (.aload_n 0, 1) := by decide +kernel
theorem dX6_init_39 : decode cX6_init 39 = .ok (.bipush 12, 2) := by decide +kernel
theorem dX6_init_41 : decode cX6_init 41 = .ok (.newarray .int, 2) := by decide +kernel
theorem dX6_init_43 : decode cX6_init 43 = .ok (.putfield 28, 3) := by decide +kernel
theorem dX6_init_46 : decode cX6_init 46 = .ok (.aload_n 0, 1) := by decide +kernel
theorem dX6_init_47 : decode cX6_init 47 = .ok (.bipush 64, 2) := by decide +kernel
theorem dX6_init_49 : decode cX6_init 49 = .ok (.newarray .int, 2) := by decide +kernel
theorem dX6_init_51 : decode cX6_init 51 = .ok (.putfield 31, 3) := by decide +kernel
theorem dX6_init_54 : decode cX6_init 54 = .ok (.aload_n 0, 1) := by decide +kernel
theorem dX6_init_55 : decode cX6_init 55 = .ok (.bipush 64, 2) := by decide +kernel
theorem dX6_init_57 : decode cX6_init 57 = .ok (.newarray .int, 2) := by decide +kernel
theorem dX6_init_59 : decode cX6_init 59 = .ok (.putfield 34, 3) := by decide +kernel
theorem dX6_init_62 : decode cX6_init 62 = .ok (.return_, 1) := by decide +kernel
theorem dX6_clear_0 : decode cX6_clear 0 = .ok (.aload_n 0, 1) := by decide +kernel
theorem dX6_clear_1 : decode cX6_clear 1 = .ok (.iconst 0, 1) := by decide +kernel
theorem dX6_clear_2 : decode cX6_clear 2 = .ok (.putfield 9, 3) := by decide +kernel
theorem dX6_clear_5 : decode cX6_clear 5 = .ok (.aload_n 0, 1) := by decide +kernel
theorem dX6_clear_6 : decode cX6_clear 6 = .ok (.iconst 0, 1) := by decide +kernel
theorem dX6_clear_7 : decode cX6_clear 7 = .ok (.putfield 15, 3) := by decide +kernel
theorem dX6_clear_10 : decode cX6_clear 10 = .ok (.return_, 1) := by decide +kernel
theorem dX6_add_0 : decode cX6_add 0 = .ok (.aload_n 0, 1) := by decide +kernel
theorem dX6_add_1 : decode cX6_add 1 = .ok (.getfield 9, 3) := by decide +kernel
theorem dX6_add_4 : decode cX6_add 4 = .ok (.bipush 12, 2) := by decide +kernel
theorem dX6_add_6 : decode cX6_add 6 = .ok (.if_icmp .ge 54, 3) := by decide +kernel
theorem dX6_add_9 : decode cX6_add 9 = .ok (.aload_n 0, 1) := by decide +kernel
theorem dX6_add_10 : decode cX6_add 10 = .ok (.getfield 18, 3) := by decide +kernel
theorem dX6_add_13 : decode cX6_add 13 = .ok (.aload_n 0, 1) := by decide +kernel
theorem dX6_add_14 : decode cX6_add 14 = .ok (.getfield 9, 3) := by decide +kernel
theorem dX6_add_17 : decode cX6_add 17 = .ok (.iload_n 1, 1) := by decide +kernel
theorem dX6_add_18 : decode cX6_add 18 = .ok (.iastore, 1) := by decide +kernel
theorem dX6_add_19 : decode cX6_add 19 = .ok (.aload_n 0, 1) := by decide +kernel
theorem dX6_add_20 : decode cX6_add 20 = .ok (.getfield 22, 3) := by decide +kernel
theorem dX6_add_23 : decode cX6_add 23 = .ok (.aload_n 0, 1) := by decide +kernel
theorem dX6_add_24 : decode cX6_add 24 = .ok (.getfield 9, 3) := by decide +kernel
theorem dX6_add_27 : decode cX6_add 27 = .ok (.iload_n 2, 1) := by decide +kernel
theorem dX6_add_28 : decode cX6_add 28 = .ok (.iastore, 1) := by decide +kernel
theorem dX6_add_29 : decode cX6_add 29 = .ok (.aload_n 0, 1) := by decide +kernel
theorem dX6_add_30 : decode cX6_add 30 = .ok (.getfield 25, 3) := by decide +kernel
theorem dX6_add_33 : decode cX6_add 33 = .ok (.aload_n 0, 1) := by decide +kernel
theorem dX6_add_34 : decode cX6_add 34 = .ok (.getfield 9, 3) := by decide +kernel
theorem dX6_add_37 : decode cX6_add 37 = .ok (.iload_n 3, 1) := by decide +kernel
theorem dX6_add_38 : decode cX6_add 38 = .ok (.iastore, 1) := by decide +kernel
theorem dX6_add_39 : decode cX6_add 39 = .ok (.aload_n 0, 1) := by decide +kernel
theorem dX6_add_40 : decode cX6_add 40 = .ok (.getfield 28, 3) := by decide +kernel
theorem dX6_add_43 : decode cX6_add 43 = .ok (.aload_n 0, 1) := by decide +kernel
theorem dX6_add_44 : decode cX6_add 44 = .ok (.getfield 9, 3) := by decide +kernel
theorem dX6_add_47 : decode cX6_add 47 = .ok (.iload 4, 2) := by decide +kernel
theorem dX6_add_49 : decode cX6_add 49 = .ok (.iastore, 1) := by decide +kernel
theorem dX6_add_50 : decode cX6_add 50 = .ok (.aload_n 0, 1) := by decide +kernel
theorem dX6_add_51 : decode cX6_add 51 = .ok (.dup, 1) := by decide +kernel
theorem dX6_add_52 : decode cX6_add 52 = .ok (.getfield 9, 3) := by decide +kernel
theorem dX6_add_55 : decode cX6_add 55 = .ok (.iconst 1, 1) := by decide +kernel
theorem dX6_add_56 : decode cX6_add 56 = .ok (.iadd, 1) := by decide +kernel
theorem dX6_add_57 : decode cX6_add 57 = .ok (.putfield 9, 3) := by decide +kernel
theorem dX6_add_60 : decode cX6_add 60 = .ok (.return_, 1) := by decide +kernel
theorem dX6_joins_0 : decode cX6_joins 0 = .ok (.aload_n 0, 1) := by decide +kernel
theorem dX6_joins_1 : decode cX6_joins 1 = .ok (.iload_n 1, 1) := by decide +kernel
theorem dX6_joins_2 : decode cX6_joins 2 = .ok (.iload_n 2, 1) := by decide +kernel
theorem dX6_joins_3 : decode cX6_joins 3 = .ok (.invokevirtual 37, 3) := by decide +kernel
theorem dX6_joins_6 : decode cX6_joins 6 = .ok (.iconst (-1), 1) := by decide +kernel
theorem dX6_joins_7 : decode cX6_joins 7 = .ok (.if_icmp .eq 7, 3) := by decide +kernel
theorem dX6_joins_10 : decode cX6_joins 10 = .ok (.iconst 1, 1) := by decide +kernel
theorem dX6_joins_11 : decode cX6_joins 11 = .ok (.goto 4, 3) := by decide +kernel
theorem dX6_joins_14 : decode cX6_joins 14 = .ok (.iconst 0, 1) := by decide +kernel
theorem dX6_joins_15 : decode cX6_joins 15 = .ok (.ireturn, 1) := by decide +kernel
theorem dX6_between_0 : decode cX6_between 0 = .ok (.iconst 0, 1) := by decide +kernel
theorem dX6_between_1 : decode cX6_between 1 = .ok (.istore_n 3, 1) := by decide +kernel
theorem dX6_between_2 : decode cX6_between 2 = .ok (.iload_n 3, 1) := by decide +kernel
theorem dX6_between_3 : decode cX6_between 3 = .ok (.aload_n 0, 1) := by decide +kernel
theorem dX6_between_4 : decode cX6_between 4 = .ok (.getfield 9, 3) := by decide +kernel
theorem dX6_between_7 : decode cX6_between 7 = .ok (.if_icmp .ge 21, 3) := by decide +kernel
theorem dX6_between_10 : decode cX6_between 10 = .ok (.aload_n 0, 1) := by decide +kernel
theorem dX6_between_11 : decode cX6_between 11 = .ok (.iload_n 3, 1) := by decide +kernel
theorem dX6_between_12 : decode cX6_between 12 = .ok (.iload_n 1, 1) := by decide +kernel
theorem dX6_between_13 : decode cX6_between 13 = .ok (.invokevirtual 41, 3) := by decide +kernel
theorem dX6_between_16 : decode cX6_between 16 = .ok (.iload_n 2, 1) := by decide +kernel
theorem dX6_between_17 : decode cX6_between 17 = .ok (.if_icmp .ne 5, 3) := by decide +kernel
theorem dX6_between_20 : decode cX6_between 20 = .ok (.iload_n 3, 1) := by decide +kernel
theorem dX6_between_21 : decode cX6_between 21 = .ok (.ireturn, 1) := by decide +kernel
theorem dX6_between_22 : decode cX6_between 22 = .ok (.iinc 3 1, 3) := by decide +kernel
theorem dX6_between_25 : decode cX6_between 25 = .ok (.goto (-23), 3) := by decide +kernel
theorem dX6_between_28 : decode cX6_between 28 = .ok (.iconst (-1), 1) := by decide +kernel
theorem dX6_between_29 : decode cX6_between 29 = .ok (.ireturn, 1) := by decide +kernel
theorem dX6_otherEnd_0 : decode cX6_otherEnd 0 = .ok (.aload_n 0, 1) := by decide +kernel
theorem dX6_otherEnd_1 : decode cX6_otherEnd 1 = .ok (.getfield 18, 3) := by decide +kernel
theorem dX6_otherEnd_4 : decode cX6_otherEnd 4 = .ok (.iload_n 1, 1) := by decide +kernel
theorem dX6_otherEnd_5 : decode cX6_otherEnd 5 = .ok (.iaload, 1) := by decide +kernel
theorem dX6_otherEnd_6 : decode cX6_otherEnd 6 = .ok (.iload_n 2, 1) := by decide +kernel
theorem dX6_otherEnd_7 : decode cX6_otherEnd 7 = .ok (.if_icmp .ne 10, 3) := by decide +kernel
theorem dX6_otherEnd_10 : decode cX6_otherEnd 10 = .ok (.aload_n 0, 1) := by decide +kernel
theorem dX6_otherEnd_11 : decode cX6_otherEnd 11 = .ok (.getfield 22, 3) := by decide +kernel
theorem dX6_otherEnd_14 : decode cX6_otherEnd 14 = .ok (.iload_n 1, 1) := by decide +kernel
theorem dX6_otherEnd_15 : decode cX6_otherEnd 15 = .ok (.iaload, 1) := by decide +kernel
theorem dX6_otherEnd_16 : decode cX6_otherEnd 16 = .ok (.ireturn, 1) := by decide +kernel
theorem dX6_otherEnd_17 : decode cX6_otherEnd 17 = .ok (.aload_n 0, 1) := by decide +kernel
theorem dX6_otherEnd_18 : decode cX6_otherEnd 18 = .ok (.getfield 22, 3) := by decide +kernel
theorem dX6_otherEnd_21 : decode cX6_otherEnd 21 = .ok (.iload_n 1, 1) := by decide +kernel
theorem dX6_otherEnd_22 : decode cX6_otherEnd 22 = .ok (.iaload, 1) := by decide +kernel
theorem dX6_otherEnd_23 : decode cX6_otherEnd 23 = .ok (.iload_n 2, 1) := by decide +kernel
theorem dX6_otherEnd_24 : decode cX6_otherEnd 24 = .ok (.if_icmp .ne 12, 3) := by decide +kernel
theorem dX6_otherEnd_27 : decode cX6_otherEnd 27 = .ok (.aload_n 0, 1) := by decide +kernel
theorem dX6_otherEnd_28 : decode cX6_otherEnd 28 = .ok (.getfield 18, 3) := by decide +kernel
theorem dX6_otherEnd_31 : decode cX6_otherEnd 31 = .ok (.iload_n 1, 1) := by decide +kernel
theorem dX6_otherEnd_32 : decode cX6_otherEnd 32 = .ok (.iaload, 1) := by decide +kernel
theorem dX6_otherEnd_33 : decode cX6_otherEnd 33 = .ok (.goto 4, 3) := by decide +kernel
theorem dX6_otherEnd_36 : decode cX6_otherEnd 36 = .ok (.iconst (-1), 1) := by decide +kernel
theorem dX6_otherEnd_37 : decode cX6_otherEnd 37 = .ok (.ireturn, 1) := by decide +kernel
theorem dX6_measure_0 : decode cX6_measure 0 = .ok (.aload_n 0, 1) := by decide +kernel
theorem dX6_measure_1 : decode cX6_measure 1 = .ok (.iload_n 1, 1) := by decide +kernel
theorem dX6_measure_2 : decode cX6_measure 2 = .ok (.putfield 15, 3) := by decide +kernel
theorem dX6_measure_5 : decode cX6_measure 5 = .ok (.iconst 0, 1) := by decide +kernel
theorem dX6_measure_6 : decode cX6_measure 6 = .ok (.istore_n 2, 1) := by decide +kernel
theorem dX6_measure_7 : decode cX6_measure 7 = .ok (.iload_n 2, 1) := by decide +kernel
theorem dX6_measure_8 : decode cX6_measure 8 = .ok (.bipush 64, 2) := by decide +kernel
theorem dX6_measure_10 : decode cX6_measure 10 = .ok (.if_icmp .ge 58, 3) := by decide +kernel
theorem dX6_measure_13 : decode cX6_measure 13 = .ok (.iload_n 2, 1) := by decide +kernel
theorem dX6_measure_14 : decode cX6_measure 14 = .ok (.bipush 8, 2) := by decide +kernel
theorem dX6_measure_16 : decode cX6_measure 16 = .ok (.idiv, 1) := by decide +kernel
theorem dX6_measure_17 : decode cX6_measure 17 = .ok (.iload_n 2, 1) := by decide +kernel
theorem dX6_measure_18 : decode cX6_measure 18 = .ok (.bipush 8, 2) := by decide +kernel
theorem dX6_measure_20 : decode cX6_measure 20 = .ok (.irem, 1) := by decide +kernel
theorem dX6_measure_21 : decode cX6_measure 21 = .ok (.if_icmp .ne 7, 3) := by decide +kernel
theorem dX6_measure_24 : decode cX6_measure 24 = .ok (.iconst 1, 1) := by decide +kernel
theorem dX6_measure_25 : decode cX6_measure 25 = .ok (.goto 4, 3) := by decide +kernel
theorem dX6_measure_28 : decode cX6_measure 28 = .ok (.iconst 0, 1) := by decide +kernel
theorem dX6_measure_29 : decode cX6_measure 29 = .ok (.istore_n 3, 1) := by decide +kernel
theorem dX6_measure_30 : decode cX6_measure 30 = .ok (.aload_n 0, 1) := by decide +kernel
theorem dX6_measure_31 : decode cX6_measure 31 = .ok (.getfield 31, 3) := by decide +kernel
theorem dX6_measure_34 : decode cX6_measure 34 = .ok (.iload_n 2, 1) := by decide +kernel
theorem dX6_measure_35 : decode cX6_measure 35 = .ok (.iload_n 3, 1) := by decide +kernel
theorem dX6_measure_36 : decode cX6_measure 36 = .ok (.ifCond .eq 7, 3) := by decide +kernel
theorem dX6_measure_39 : decode cX6_measure 39 = .ok (.iconst 0, 1) := by decide +kernel
theorem dX6_measure_40 : decode cX6_measure 40 = .ok (.goto 5, 3) := by decide +kernel
theorem dX6_measure_43 : decode cX6_measure 43 = .ok (.ldc 44, 2) := by decide +kernel
theorem dX6_measure_45 : decode cX6_measure 45 = .ok (.iastore, 1) := by decide +kernel
theorem dX6_measure_46 : decode cX6_measure 46 = .ok (.aload_n 0, 1) := by decide +kernel
theorem dX6_measure_47 : decode cX6_measure 47 = .ok (.getfield 34, 3) := by decide +kernel
theorem dX6_measure_50 : decode cX6_measure 50 = .ok (.iload_n 2, 1) := by decide +kernel
theorem dX6_measure_51 : decode cX6_measure 51 = .ok (.iload_n 3, 1) := by decide +kernel
theorem dX6_measure_52 : decode cX6_measure 52 = .ok (.ifCond .eq 7, 3) := by decide +kernel
theorem dX6_measure_55 : decode cX6_measure 55 = .ok (.iconst 0, 1) := by decide +kernel
theorem dX6_measure_56 : decode cX6_measure 56 = .ok (.goto 5, 3) := by decide +kernel
theorem dX6_measure_59 : decode cX6_measure 59 = .ok (.ldc 44, 2) := by decide +kernel
theorem dX6_measure_61 : decode cX6_measure 61 = .ok (.iastore, 1) := by decide +kernel
theorem dX6_measure_62 : decode cX6_measure 62 = .ok (.iinc 2 1, 3) := by decide +kernel
theorem dX6_measure_65 : decode cX6_measure 65 = .ok (.goto (-58), 3) := by decide +kernel
theorem dX6_measure_68 : decode cX6_measure 68 = .ok (.iconst 0, 1) := by decide +kernel
theorem dX6_measure_69 : decode cX6_measure 69 = .ok (.istore_n 2, 1) := by decide +kernel
theorem dX6_measure_70 : decode cX6_measure 70 = .ok (.iload_n 2, 1) := by decide +kernel
theorem dX6_measure_71 : decode cX6_measure 71 = .ok (.aload_n 0, 1) := by decide +kernel
theorem dX6_measure_72 : decode cX6_measure 72 = .ok (.getfield 9, 3) := by decide +kernel
theorem dX6_measure_75 : decode cX6_measure 75 = .ok (.if_icmp .ge 46, 3) := by decide +kernel
theorem dX6_measure_78 : decode cX6_measure 78 = .ok (.aload_n 0, 1) := by decide +kernel
theorem dX6_measure_79 : decode cX6_measure 79 = .ok (.aload_n 0, 1) := by decide +kernel
theorem dX6_measure_80 : decode cX6_measure 80 = .ok (.getfield 31, 3) := by decide +kernel
theorem dX6_measure_83 : decode cX6_measure 83 = .ok (.iload_n 2, 1) := by decide +kernel
theorem dX6_measure_84 : decode cX6_measure 84 = .ok (.aload_n 0, 1) := by decide +kernel
theorem dX6_measure_85 : decode cX6_measure 85 = .ok (.getfield 25, 3) := by decide +kernel
theorem dX6_measure_88 : decode cX6_measure 88 = .ok (.iload_n 2, 1) := by decide +kernel
theorem dX6_measure_89 : decode cX6_measure 89 = .ok (.iaload, 1) := by decide +kernel
theorem dX6_measure_90 : decode cX6_measure 90 = .ok (.invokevirtual 45, 3) := by decide +kernel
theorem dX6_measure_93 : decode cX6_measure 93 = .ok (.aload_n 0, 1) := by decide +kernel
theorem dX6_measure_94 : decode cX6_measure 94 = .ok (.aload_n 0, 1) := by decide +kernel
theorem dX6_measure_95 : decode cX6_measure 95 = .ok (.getfield 34, 3) := by decide +kernel
theorem dX6_measure_98 : decode cX6_measure 98 = .ok (.iload_n 2, 1) := by decide +kernel
theorem dX6_measure_99 : decode cX6_measure 99 = .ok (.aload_n 0, 1) := by decide +kernel
theorem dX6_measure_100 : decode cX6_measure 100 = .ok (.getfield 25, 3) := by decide +kernel
theorem dX6_measure_103 : decode cX6_measure 103 = .ok (.iload_n 2, 1) := by decide +kernel
theorem dX6_measure_104 : decode cX6_measure 104 = .ok (.iaload, 1) := by decide +kernel
theorem dX6_measure_105 : decode cX6_measure 105 = .ok (.aload_n 0, 1) := by decide +kernel
theorem dX6_measure_106 : decode cX6_measure 106 = .ok (.getfield 28, 3) := by decide +kernel
theorem dX6_measure_109 : decode cX6_measure 109 = .ok (.iload_n 2, 1) := by decide +kernel
theorem dX6_measure_110 : decode cX6_measure 110 = .ok (.iaload, 1) := by decide +kernel
theorem dX6_measure_111 : decode cX6_measure 111 = .ok (.imul, 1) := by decide +kernel
theorem dX6_measure_112 : decode cX6_measure 112 = .ok (.invokevirtual 45, 3) := by decide +kernel
theorem dX6_measure_115 : decode cX6_measure 115 = .ok (.iinc 2 1, 3) := by decide +kernel
theorem dX6_measure_118 : decode cX6_measure 118 = .ok (.goto (-48), 3) := by decide +kernel
theorem dX6_measure_121 : decode cX6_measure 121 = .ok (.aload_n 0, 1) := by decide +kernel
theorem dX6_measure_122 : decode cX6_measure 122 = .ok (.aload_n 0, 1) := by decide +kernel
theorem dX6_measure_123 : decode cX6_measure 123 = .ok (.getfield 31, 3) := by decide +kernel
theorem dX6_measure_126 : decode cX6_measure 126 = .ok (.invokevirtual 49, 3) := by decide +kernel
theorem dX6_measure_129 : decode cX6_measure 129 = .ok (.aload_n 0, 1) := by decide +kernel
theorem dX6_measure_130 : decode cX6_measure 130 = .ok (.aload_n 0, 1) := by decide +kernel
theorem dX6_measure_131 : decode cX6_measure 131 = .ok (.getfield 34, 3) := by decide +kernel
theorem dX6_measure_134 : decode cX6_measure 134 = .ok (.invokevirtual 49, 3) := by decide +kernel
theorem dX6_measure_137 : decode cX6_measure 137 = .ok (.return_, 1) := by decide +kernel
theorem dX6_setBothWays_0 : decode cX6_setBothWays 0 = .ok (.aload_n 1, 1) := by decide +kernel
theorem dX6_setBothWays_1 : decode cX6_setBothWays 1 = .ok (.aload_n 0, 1) := by decide +kernel
theorem dX6_setBothWays_2 : decode cX6_setBothWays 2 = .ok (.getfield 18, 3) := by decide +kernel
theorem dX6_setBothWays_5 : decode cX6_setBothWays 5 = .ok (.iload_n 2, 1) := by decide +kernel
theorem dX6_setBothWays_6 : decode cX6_setBothWays 6 = .ok (.iaload, 1) := by decide +kernel
theorem dX6_setBothWays_7 : decode cX6_setBothWays 7 = .ok (.bipush 8, 2) := by decide +kernel
theorem dX6_setBothWays_9 : decode cX6_setBothWays 9 = .ok (.imul, 1) := by decide +kernel
theorem dX6_setBothWays_10 : decode cX6_setBothWays 10 = .ok (.aload_n 0, 1) := by decide +kernel
theorem dX6_setBothWays_11 : decode cX6_setBothWays 11 = .ok (.getfield 22, 3) := by decide +kernel
theorem dX6_setBothWays_14 : decode cX6_setBothWays 14 = .ok (.iload_n 2, 1) := by decide +kernel
theorem dX6_setBothWays_15 : decode cX6_setBothWays 15 = .ok (.iaload, 1) := by decide +kernel
theorem dX6_setBothWays_16 : decode cX6_setBothWays 16 = .ok (.iadd, 1) := by decide +kernel
theorem dX6_setBothWays_17 : decode cX6_setBothWays 17 = .ok (.iload_n 3, 1) := by decide +kernel
theorem dX6_setBothWays_18 : decode cX6_setBothWays 18 = .ok (.iastore, 1) := by decide +kernel
theorem dX6_setBothWays_19 : decode cX6_setBothWays 19 = .ok (.aload_n 1, 1) := by decide +kernel
theorem dX6_setBothWays_20 : decode cX6_setBothWays 20 = .ok (.aload_n 0, 1) := by decide +kernel
theorem dX6_setBothWays_21 : decode cX6_setBothWays 21 = .ok (.getfield 22, 3) := by decide +kernel
theorem dX6_setBothWays_24 : decode cX6_setBothWays 24 = .ok (.iload_n 2, 1) := by decide +kernel
theorem dX6_setBothWays_25 : decode cX6_setBothWays 25 = .ok (.iaload, 1) := by decide +kernel
theorem dX6_setBothWays_26 : decode cX6_setBothWays 26 = .ok (.bipush 8, 2) := by decide +kernel
theorem dX6_setBothWays_28 : decode cX6_setBothWays 28 = .ok (.imul, 1) := by decide +kernel
theorem dX6_setBothWays_29 : decode cX6_setBothWays 29 = .ok (.aload_n 0, 1) := by decide +kernel
theorem dX6_setBothWays_30 : decode cX6_setBothWays 30 = .ok (.getfield 18, 3) := by decide +kernel
theorem dX6_setBothWays_33 : decode cX6_setBothWays 33 = .ok (.iload_n 2, 1) := by decide +kernel
theorem dX6_setBothWays_34 : decode cX6_setBothWays 34 = .ok (.iaload, 1) := by decide +kernel
theorem dX6_setBothWays_35 : decode cX6_setBothWays 35 = .ok (.iadd, 1) := by decide +kernel
theorem dX6_setBothWays_36 : decode cX6_setBothWays 36 = .ok (.iload_n 3, 1) := by decide +kernel
theorem dX6_setBothWays_37 : decode cX6_setBothWays 37 = .ok (.iastore, 1) := by decide +kernel
theorem dX6_setBothWays_38 : decode cX6_setBothWays 38 = .ok (.return_, 1) := by decide +kernel
theorem dX6_shorten_0 : decode cX6_shorten 0 = .ok (.iconst 0, 1) := by decide +kernel
theorem dX6_shorten_1 : decode cX6_shorten 1 = .ok (.istore_n 2, 1) := by decide +kernel
theorem dX6_shorten_2 : decode cX6_shorten 2 = .ok (.iload_n 2, 1) := by decide +kernel
theorem dX6_shorten_3 : decode cX6_shorten 3 = .ok (.aload_n 0, 1) := by decide +kernel
theorem dX6_shorten_4 : decode cX6_shorten 4 = .ok (.getfield 15, 3) := by decide +kernel
theorem dX6_shorten_7 : decode cX6_shorten 7 = .ok (.if_icmp .ge 85, 3) := by decide +kernel
theorem dX6_shorten_10 : decode cX6_shorten 10 = .ok (.iconst 0, 1) := by decide +kernel
theorem dX6_shorten_11 : decode cX6_shorten 11 = .ok (.istore_n 3, 1) := by decide +kernel
theorem dX6_shorten_12 : decode cX6_shorten 12 = .ok (.iload_n 3, 1) := by decide +kernel
theorem dX6_shorten_13 : decode cX6_shorten 13 = .ok (.aload_n 0, 1) := by decide +kernel
theorem dX6_shorten_14 : decode cX6_shorten 14 = .ok (.getfield 15, 3) := by decide +kernel
theorem dX6_shorten_17 : decode cX6_shorten 17 = .ok (.if_icmp .ge 69, 3) := by decide +kernel
theorem dX6_shorten_20 : decode cX6_shorten 20 = .ok (.iconst 0, 1) := by decide +kernel
theorem dX6_shorten_21 : decode cX6_shorten 21 = .ok (.istore 4, 2) := by decide +kernel
theorem dX6_shorten_23 : decode cX6_shorten 23 = .ok (.iload 4, 2) := by decide +kernel
theorem dX6_shorten_25 : decode cX6_shorten 25 = .ok (.aload_n 0, 1) := by decide +kernel
theorem dX6_shorten_26 : decode cX6_shorten 26 = .ok (.getfield 15, 3) := by decide +kernel
theorem dX6_shorten_29 : decode cX6_shorten 29 = .ok (.if_icmp .ge 51, 3) := by decide +kernel
theorem dX6_shorten_32 : decode cX6_shorten 32 = .ok (.aload_n 1, 1) := by decide +kernel
theorem dX6_shorten_33 : decode cX6_shorten 33 = .ok (.iload_n 3, 1) := by decide +kernel
theorem dX6_shorten_34 : decode cX6_shorten 34 = .ok (.bipush 8, 2) := by decide +kernel
theorem dX6_shorten_36 : decode cX6_shorten 36 = .ok (.imul, 1) := by decide +kernel
theorem dX6_shorten_37 : decode cX6_shorten 37 = .ok (.iload_n 2, 1) := by decide +kernel
theorem dX6_shorten_38 : decode cX6_shorten 38 = .ok (.iadd, 1) := by decide +kernel
theorem dX6_shorten_39 : decode cX6_shorten 39 = .ok (.iaload, 1) := by decide +kernel
theorem dX6_shorten_40 : decode cX6_shorten 40 = .ok (.aload_n 1, 1) := by decide +kernel
theorem dX6_shorten_41 : decode cX6_shorten 41 = .ok (.iload_n 2, 1) := by decide +kernel
theorem dX6_shorten_42 : decode cX6_shorten 42 = .ok (.bipush 8, 2) := by decide +kernel
theorem dX6_shorten_44 : decode cX6_shorten 44 = .ok (.imul, 1) := by decide +kernel
theorem dX6_shorten_45 : decode cX6_shorten 45 = .ok (.iload 4, 2) := by decide +kernel
theorem dX6_shorten_47 : decode cX6_shorten 47 = .ok (.iadd, 1) := by decide +kernel
theorem dX6_shorten_48 : decode cX6_shorten 48 = .ok (.iaload, 1) := by decide +kernel
theorem dX6_shorten_49 : decode cX6_shorten 49 = .ok (.iadd, 1) := by decide +kernel
theorem dX6_shorten_50 : decode cX6_shorten 50 = .ok (.istore 5, 2) := by decide +kernel
theorem dX6_shorten_52 : decode cX6_shorten 52 = .ok (.iload_n 3, 1) := by decide +kernel
theorem dX6_shorten_53 : decode cX6_shorten 53 = .ok (.bipush 8, 2) := by decide +kernel
theorem dX6_shorten_55 : decode cX6_shorten 55 = .ok (.imul, 1) := by decide +kernel
theorem dX6_shorten_56 : decode cX6_shorten 56 = .ok (.iload 4, 2) := by decide +kernel
theorem dX6_shorten_58 : decode cX6_shorten 58 = .ok (.iadd, 1) := by decide +kernel
theorem dX6_shorten_59 : decode cX6_shorten 59 = .ok (.istore 6, 2) := by decide +kernel
theorem dX6_shorten_61 : decode cX6_shorten 61 = .ok (.aload_n 1, 1) := by decide +kernel
theorem dX6_shorten_62 : decode cX6_shorten 62 = .ok (.iload 6, 2) := by decide +kernel
theorem dX6_shorten_64 : decode cX6_shorten 64 = .ok (.aload_n 1, 1) := by decide +kernel
theorem dX6_shorten_65 : decode cX6_shorten 65 = .ok (.iload 6, 2) := by decide +kernel
theorem dX6_shorten_67 : decode cX6_shorten 67 = .ok (.iaload, 1) := by decide +kernel
theorem dX6_shorten_68 : decode cX6_shorten 68 = .ok (.iload 5, 2) := by decide +kernel
theorem dX6_shorten_70 : decode cX6_shorten 70 = .ok (.invokestatic 53, 3) := by decide +kernel
theorem dX6_shorten_73 : decode cX6_shorten 73 = .ok (.iastore, 1) := by decide +kernel
theorem dX6_shorten_74 : decode cX6_shorten 74 = .ok (.iinc 4 1, 3) := by decide +kernel
theorem dX6_shorten_77 : decode cX6_shorten 77 = .ok (.goto (-54), 3) := by decide +kernel
theorem dX6_shorten_80 : decode cX6_shorten 80 = .ok (.iinc 3 1, 3) := by decide +kernel
theorem dX6_shorten_83 : decode cX6_shorten 83 = .ok (.goto (-71), 3) := by decide +kernel
theorem dX6_shorten_86 : decode cX6_shorten 86 = .ok (.iinc 2 1, 3) := by decide +kernel
theorem dX6_shorten_89 : decode cX6_shorten 89 = .ok (.goto (-87), 3) := by decide +kernel
theorem dX6_shorten_92 : decode cX6_shorten 92 = .ok (.return_, 1) := by decide +kernel
theorem dX6_shortest_0 : decode cX6_shortest 0 = .ok (.aload_n 0, 1) := by decide +kernel
theorem dX6_shortest_1 : decode cX6_shortest 1 = .ok (.getfield 31, 3) := by decide +kernel
theorem dX6_shortest_4 : decode cX6_shortest 4 = .ok (.iload_n 1, 1) := by decide +kernel
theorem dX6_shortest_5 : decode cX6_shortest 5 = .ok (.bipush 8, 2) := by decide +kernel
theorem dX6_shortest_7 : decode cX6_shortest 7 = .ok (.imul, 1) := by decide +kernel
theorem dX6_shortest_8 : decode cX6_shortest 8 = .ok (.iload_n 2, 1) := by decide +kernel
theorem dX6_shortest_9 : decode cX6_shortest 9 = .ok (.iadd, 1) := by decide +kernel
theorem dX6_shortest_10 : decode cX6_shortest 10 = .ok (.iaload, 1) := by decide +kernel
theorem dX6_shortest_11 : decode cX6_shortest 11 = .ok (.istore_n 3, 1) := by decide +kernel
theorem dX6_shortest_12 : decode cX6_shortest 12 = .ok (.iload_n 3, 1) := by decide +kernel
theorem dX6_shortest_13 : decode cX6_shortest 13 = .ok (.ldc 44, 2) := by decide +kernel
theorem dX6_shortest_15 : decode cX6_shortest 15 = .ok (.if_icmp .lt 7, 3) := by decide +kernel
theorem dX6_shortest_18 : decode cX6_shortest 18 = .ok (.iconst (-1), 1) := by decide +kernel
theorem dX6_shortest_19 : decode cX6_shortest 19 = .ok (.goto 4, 3) := by decide +kernel
theorem dX6_shortest_22 : decode cX6_shortest 22 = .ok (.iload_n 3, 1) := by decide +kernel
theorem dX6_shortest_23 : decode cX6_shortest 23 = .ok (.ireturn, 1) := by decide +kernel
theorem dX6_tightest_0 : decode cX6_tightest 0 = .ok (.aload_n 0, 1) := by decide +kernel
theorem dX6_tightest_1 : decode cX6_tightest 1 = .ok (.getfield 34, 3) := by decide +kernel
theorem dX6_tightest_4 : decode cX6_tightest 4 = .ok (.iload_n 1, 1) := by decide +kernel
theorem dX6_tightest_5 : decode cX6_tightest 5 = .ok (.bipush 8, 2) := by decide +kernel
theorem dX6_tightest_7 : decode cX6_tightest 7 = .ok (.imul, 1) := by decide +kernel
theorem dX6_tightest_8 : decode cX6_tightest 8 = .ok (.iload_n 2, 1) := by decide +kernel
theorem dX6_tightest_9 : decode cX6_tightest 9 = .ok (.iadd, 1) := by decide +kernel
theorem dX6_tightest_10 : decode cX6_tightest 10 = .ok (.iaload, 1) := by decide +kernel
theorem dX6_tightest_11 : decode cX6_tightest 11 = .ok (.istore_n 3, 1) := by decide +kernel
theorem dX6_tightest_12 : decode cX6_tightest 12 = .ok (.iload_n 3, 1) := by decide +kernel
theorem dX6_tightest_13 : decode cX6_tightest 13 = .ok (.ldc 44, 2) := by decide +kernel
theorem dX6_tightest_15 : decode cX6_tightest 15 = .ok (.if_icmp .lt 7, 3) := by decide +kernel
theorem dX6_tightest_18 : decode cX6_tightest 18 = .ok (.iconst (-1), 1) := by decide +kernel
theorem dX6_tightest_19 : decode cX6_tightest 19 = .ok (.goto 4, 3) := by decide +kernel
theorem dX6_tightest_22 : decode cX6_tightest 22 = .ok (.iload_n 3, 1) := by decide +kernel
theorem dX6_tightest_23 : decode cX6_tightest 23 = .ok (.ireturn, 1) := by decide +kernel
theorem dX6_along_0 : decode cX6_along 0 = .ok (.iload_n 3, 1) := by decide +kernel
theorem dX6_along_1 : decode cX6_along 1 = .ok (.ifCond .lt 19, 3) := by decide +kernel
theorem dX6_along_4 : decode cX6_along 4 = .ok (.iload_n 3, 1) := by decide +kernel
theorem dX6_along_5 : decode cX6_along 5 = .ok (.bipush 8, 2) := by decide +kernel
theorem dX6_along_7 : decode cX6_along 7 = .ok (.if_icmp .ge 13, 3) := by decide +kernel
theorem dX6_along_10 : decode cX6_along 10 = .ok (.aload_n 0, 1) := by decide +kernel
theorem dX6_along_11 : decode cX6_along 11 = .ok (.iload_n 1, 1) := by decide +kernel
theorem dX6_along_12 : decode cX6_along 12 = .ok (.iload_n 2, 1) := by decide +kernel
theorem dX6_along_13 : decode cX6_along 13 = .ok (.invokevirtual 58, 3) := by decide +kernel
theorem dX6_along_16 : decode cX6_along 16 = .ok (.iconst (-1), 1) := by decide +kernel
theorem dX6_along_17 : decode cX6_along 17 = .ok (.if_icmp .ne 5, 3) := by decide +kernel
theorem dX6_along_20 : decode cX6_along 20 = .ok (.iconst (-1), 1) := by decide +kernel
theorem dX6_along_21 : decode cX6_along 21 = .ok (.ireturn, 1) := by decide +kernel
theorem dX6_along_22 : decode cX6_along 22 = .ok (.iload_n 1, 1) := by decide +kernel
theorem dX6_along_23 : decode cX6_along 23 = .ok (.istore 4, 2) := by decide +kernel
theorem dX6_along_25 : decode cX6_along 25 = .ok (.iconst 0, 1) := by decide +kernel
theorem dX6_along_26 : decode cX6_along 26 = .ok (.istore 5, 2) := by decide +kernel
theorem dX6_along_28 : decode cX6_along 28 = .ok (.iload 5, 2) := by decide +kernel
theorem dX6_along_30 : decode cX6_along 30 = .ok (.iload_n 3, 1) := by decide +kernel
theorem dX6_along_31 : decode cX6_along 31 = .ok (.if_icmp .ge 26, 3) := by decide +kernel
theorem dX6_along_34 : decode cX6_along 34 = .ok (.aload_n 0, 1) := by decide +kernel
theorem dX6_along_35 : decode cX6_along 35 = .ok (.iload 4, 2) := by decide +kernel
theorem dX6_along_37 : decode cX6_along 37 = .ok (.iload_n 2, 1) := by decide +kernel
theorem dX6_along_38 : decode cX6_along 38 = .ok (.invokevirtual 61, 3) := by decide +kernel
theorem dX6_along_41 : decode cX6_along 41 = .ok (.istore 4, 2) := by decide +kernel
theorem dX6_along_43 : decode cX6_along 43 = .ok (.iload 4, 2) := by decide +kernel
theorem dX6_along_45 : decode cX6_along 45 = .ok (.iconst (-1), 1) := by decide +kernel
theorem dX6_along_46 : decode cX6_along 46 = .ok (.if_icmp .ne 5, 3) := by decide +kernel
theorem dX6_along_49 : decode cX6_along 49 = .ok (.iconst (-1), 1) := by decide +kernel
theorem dX6_along_50 : decode cX6_along 50 = .ok (.ireturn, 1) := by decide +kernel
theorem dX6_along_51 : decode cX6_along 51 = .ok (.iinc 5 1, 3) := by decide +kernel
theorem dX6_along_54 : decode cX6_along 54 = .ok (.goto (-26), 3) := by decide +kernel
theorem dX6_along_57 : decode cX6_along 57 = .ok (.iload 4, 2) := by decide +kernel
theorem dX6_along_59 : decode cX6_along 59 = .ok (.ireturn, 1) := by decide +kernel
theorem dX6_stepTowards_0 : decode cX6_stepTowards 0 = .ok (.iload_n 1, 1) := by decide +kernel
theorem dX6_stepTowards_1 : decode cX6_stepTowards 1 = .ok (.iload_n 2, 1) := by decide +kernel
theorem dX6_stepTowards_2 : decode cX6_stepTowards 2 = .ok (.if_icmp .ne 5, 3) := by decide +kernel
theorem dX6_stepTowards_5 : decode cX6_stepTowards 5 = .ok (.iconst (-1), 1) := by decide +kernel
theorem dX6_stepTowards_6 : decode cX6_stepTowards 6 = .ok (.ireturn, 1) := by decide +kernel
theorem dX6_stepTowards_7 : decode cX6_stepTowards 7 = .ok (.iconst 0, 1) := by decide +kernel
theorem dX6_stepTowards_8 : decode cX6_stepTowards 8 = .ok (.istore_n 3, 1) := by decide +kernel
theorem dX6_stepTowards_9 : decode cX6_stepTowards 9 = .ok (.iload_n 3, 1) := by decide +kernel
theorem dX6_stepTowards_10 : decode cX6_stepTowards 10 = .ok (.aload_n 0, 1) := by decide +kernel
theorem dX6_stepTowards_11 : decode cX6_stepTowards 11 = .ok (.getfield 15, 3) := by decide +kernel
theorem dX6_stepTowards_14 : decode cX6_stepTowards 14 = .ok (.if_icmp .ge 58, 3) := by decide +kernel
theorem dX6_stepTowards_17 : decode cX6_stepTowards 17 = .ok (.aload_n 0, 1) := by decide +kernel
theorem dX6_stepTowards_18 : decode cX6_stepTowards 18 = .ok (.iload_n 1, 1) := by decide +kernel
theorem dX6_stepTowards_19 : decode cX6_stepTowards 19 = .ok (.iload_n 3, 1) := by decide +kernel
theorem dX6_stepTowards_20 : decode cX6_stepTowards 20 = .ok (.invokevirtual 37, 3) := by decide +kernel
theorem dX6_stepTowards_23 : decode cX6_stepTowards 23 = .ok (.istore 4, 2) := by decide +kernel
theorem dX6_stepTowards_25 : decode cX6_stepTowards 25 = .ok (.iload 4, 2) := by decide +kernel
theorem dX6_stepTowards_27 : decode cX6_stepTowards 27 = .ok (.iconst (-1), 1) := by decide +kernel
theorem dX6_stepTowards_28 : decode cX6_stepTowards 28 = .ok (.if_icmp .eq 38, 3) := by decide +kernel
theorem dX6_stepTowards_31 : decode cX6_stepTowards 31 = .ok (.aload_n 0, 1) := by decide +kernel
theorem dX6_stepTowards_32 : decode cX6_stepTowards 32 = .ok (.getfield 25, 3) := by decide +kernel
theorem dX6_stepTowards_35 : decode cX6_stepTowards 35 = .ok (.iload 4, 2) := by decide +kernel
theorem dX6_stepTowards_37 : decode cX6_stepTowards 37 = .ok (.iaload, 1) := by decide +kernel
theorem dX6_stepTowards_38 : decode cX6_stepTowards 38 = .ok (.aload_n 0, 1) := by decide +kernel
theorem dX6_stepTowards_39 : decode cX6_stepTowards 39 = .ok (.getfield 31, 3) := by decide +kernel
theorem dX6_stepTowards_42 : decode cX6_stepTowards 42 = .ok (.iload_n 3, 1) := by decide +kernel
theorem dX6_stepTowards_43 : decode cX6_stepTowards 43 = .ok (.bipush 8, 2) := by decide +kernel
theorem dX6_stepTowards_45 : decode cX6_stepTowards 45 = .ok (.imul, 1) := by decide +kernel
theorem dX6_stepTowards_46 : decode cX6_stepTowards 46 = .ok (.iload_n 2, 1) := by decide +kernel
theorem dX6_stepTowards_47 : decode cX6_stepTowards 47 = .ok (.iadd, 1) := by decide +kernel
theorem dX6_stepTowards_48 : decode cX6_stepTowards 48 = .ok (.iaload, 1) := by decide +kernel
theorem dX6_stepTowards_49 : decode cX6_stepTowards 49 = .ok (.iadd, 1) := by decide +kernel
theorem dX6_stepTowards_50 : decode cX6_stepTowards 50 = .ok (.aload_n 0, 1) := by decide +kernel
theorem dX6_stepTowards_51 : decode cX6_stepTowards 51 = .ok (.getfield 31, 3) := by decide +kernel
theorem dX6_stepTowards_54 : decode cX6_stepTowards 54 = .ok (.iload_n 1, 1) := by decide +kernel
theorem dX6_stepTowards_55 : decode cX6_stepTowards 55 = .ok (.bipush 8, 2) := by decide +kernel
theorem dX6_stepTowards_57 : decode cX6_stepTowards 57 = .ok (.imul, 1) := by decide +kernel
theorem dX6_stepTowards_58 : decode cX6_stepTowards 58 = .ok (.iload_n 2, 1) := by decide +kernel
theorem dX6_stepTowards_59 : decode cX6_stepTowards 59 = .ok (.iadd, 1) := by decide +kernel
theorem dX6_stepTowards_60 : decode cX6_stepTowards 60 = .ok (.iaload, 1) := by decide +kernel
theorem dX6_stepTowards_61 : decode cX6_stepTowards 61 = .ok (.if_icmp .ne 5, 3) := by decide +kernel
theorem dX6_stepTowards_64 : decode cX6_stepTowards 64 = .ok (.iload_n 3, 1) := by decide +kernel
theorem dX6_stepTowards_65 : decode cX6_stepTowards 65 = .ok (.ireturn, 1) := by decide +kernel
theorem dX6_stepTowards_66 : decode cX6_stepTowards 66 = .ok (.iinc 3 1, 3) := by decide +kernel
theorem dX6_stepTowards_69 : decode cX6_stepTowards 69 = .ok (.goto (-60), 3) := by decide +kernel
theorem dX6_stepTowards_72 : decode cX6_stepTowards 72 = .ok (.iconst (-1), 1) := by decide +kernel
theorem dX6_stepTowards_73 : decode cX6_stepTowards 73 = .ok (.ireturn, 1) := by decide +kernel
theorem dX6_middle_0 : decode cX6_middle 0 = .ok (.iconst (-1), 1) := by decide +kernel
theorem dX6_middle_1 : decode cX6_middle 1 = .ok (.istore_n 1, 1) := by decide +kernel
theorem dX6_middle_2 : decode cX6_middle 2 = .ok (.ldc 44, 2) := by decide +kernel
theorem dX6_middle_4 : decode cX6_middle 4 = .ok (.istore_n 2, 1) := by decide +kernel
theorem dX6_middle_5 : decode cX6_middle 5 = .ok (.iconst 0, 1) := by decide +kernel
theorem dX6_middle_6 : decode cX6_middle 6 = .ok (.istore_n 3, 1) := by decide +kernel
theorem dX6_middle_7 : decode cX6_middle 7 = .ok (.iload_n 3, 1) := by decide +kernel
theorem dX6_middle_8 : decode cX6_middle 8 = .ok (.aload_n 0, 1) := by decide +kernel
theorem dX6_middle_9 : decode cX6_middle 9 = .ok (.getfield 15, 3) := by decide +kernel
theorem dX6_middle_12 : decode cX6_middle 12 = .ok (.if_icmp .ge 60, 3) := by decide +kernel
theorem dX6_middle_15 : decode cX6_middle 15 = .ok (.iconst 0, 1) := by decide +kernel
theorem dX6_middle_16 : decode cX6_middle 16 = .ok (.istore 4, 2) := by decide +kernel
theorem dX6_middle_18 : decode cX6_middle 18 = .ok (.iconst 0, 1) := by decide +kernel
theorem dX6_middle_19 : decode cX6_middle 19 = .ok (.istore 5, 2) := by decide +kernel
theorem dX6_middle_21 : decode cX6_middle 21 = .ok (.iload 5, 2) := by decide +kernel
theorem dX6_middle_23 : decode cX6_middle 23 = .ok (.aload_n 0, 1) := by decide +kernel
theorem dX6_middle_24 : decode cX6_middle 24 = .ok (.getfield 15, 3) := by decide +kernel
theorem dX6_middle_27 : decode cX6_middle 27 = .ok (.if_icmp .ge 28, 3) := by decide +kernel
theorem dX6_middle_30 : decode cX6_middle 30 = .ok (.iload 4, 2) := by decide +kernel
theorem dX6_middle_32 : decode cX6_middle 32 = .ok (.aload_n 0, 1) := by decide +kernel
theorem dX6_middle_33 : decode cX6_middle 33 = .ok (.getfield 31, 3) := by decide +kernel
theorem dX6_middle_36 : decode cX6_middle 36 = .ok (.iload_n 3, 1) := by decide +kernel
theorem dX6_middle_37 : decode cX6_middle 37 = .ok (.bipush 8, 2) := by decide +kernel
theorem dX6_middle_39 : decode cX6_middle 39 = .ok (.imul, 1) := by decide +kernel
theorem dX6_middle_40 : decode cX6_middle 40 = .ok (.iload 5, 2) := by decide +kernel
theorem dX6_middle_42 : decode cX6_middle 42 = .ok (.iadd, 1) := by decide +kernel
theorem dX6_middle_43 : decode cX6_middle 43 = .ok (.iaload, 1) := by decide +kernel
theorem dX6_middle_44 : decode cX6_middle 44 = .ok (.invokestatic 64, 3) := by decide +kernel
theorem dX6_middle_47 : decode cX6_middle 47 = .ok (.istore 4, 2) := by decide +kernel
theorem dX6_middle_49 : decode cX6_middle 49 = .ok (.iinc 5 1, 3) := by decide +kernel
theorem dX6_middle_52 : decode cX6_middle 52 = .ok (.goto (-31), 3) := by decide +kernel
theorem dX6_middle_55 : decode cX6_middle 55 = .ok (.iload 4, 2) := by decide +kernel
theorem dX6_middle_57 : decode cX6_middle 57 = .ok (.iload_n 2, 1) := by decide +kernel
theorem dX6_middle_58 : decode cX6_middle 58 = .ok (.if_icmp .ge 8, 3) := by decide +kernel
theorem dX6_middle_61 : decode cX6_middle 61 = .ok (.iload_n 3, 1) := by decide +kernel
theorem dX6_middle_62 : decode cX6_middle 62 = .ok (.istore_n 1, 1) := by decide +kernel
theorem dX6_middle_63 : decode cX6_middle 63 = .ok (.iload 4, 2) := by decide +kernel
theorem dX6_middle_65 : decode cX6_middle 65 = .ok (.istore_n 2, 1) := by decide +kernel
theorem dX6_middle_66 : decode cX6_middle 66 = .ok (.iinc 3 1, 3) := by decide +kernel
theorem dX6_middle_69 : decode cX6_middle 69 = .ok (.goto (-62), 3) := by decide +kernel
theorem dX6_middle_72 : decode cX6_middle 72 = .ok (.iload_n 1, 1) := by decide +kernel
theorem dX6_middle_73 : decode cX6_middle 73 = .ok (.ireturn, 1) := by decide +kernel
theorem dX6_parts_0 : decode cX6_parts 0 = .ok (.iconst 1, 1) := by decide +kernel
theorem dX6_parts_1 : decode cX6_parts 1 = .ok (.aload_n 0, 1) := by decide +kernel
theorem dX6_parts_2 : decode cX6_parts 2 = .ok (.getfield 18, 3) := by decide +kernel
theorem dX6_parts_5 : decode cX6_parts 5 = .ok (.iload_n 1, 1) := by decide +kernel
theorem dX6_parts_6 : decode cX6_parts 6 = .ok (.iaload, 1) := by decide +kernel
theorem dX6_parts_7 : decode cX6_parts 7 = .ok (.ishl, 1) := by decide +kernel
theorem dX6_parts_8 : decode cX6_parts 8 = .ok (.istore_n 2, 1) := by decide +kernel
theorem dX6_parts_9 : decode cX6_parts 9 = .ok (.iconst 0, 1) := by decide +kernel
theorem dX6_parts_10 : decode cX6_parts 10 = .ok (.istore_n 3, 1) := by decide +kernel
theorem dX6_parts_11 : decode cX6_parts 11 = .ok (.iload_n 3, 1) := by decide +kernel
theorem dX6_parts_12 : decode cX6_parts 12 = .ok (.aload_n 0, 1) := by decide +kernel
theorem dX6_parts_13 : decode cX6_parts 13 = .ok (.getfield 15, 3) := by decide +kernel
theorem dX6_parts_16 : decode cX6_parts 16 = .ok (.if_icmp .ge 66, 3) := by decide +kernel
theorem dX6_parts_19 : decode cX6_parts 19 = .ok (.iconst 0, 1) := by decide +kernel
theorem dX6_parts_20 : decode cX6_parts 20 = .ok (.istore 4, 2) := by decide +kernel
theorem dX6_parts_22 : decode cX6_parts 22 = .ok (.iload 4, 2) := by decide +kernel
theorem dX6_parts_24 : decode cX6_parts 24 = .ok (.aload_n 0, 1) := by decide +kernel
theorem dX6_parts_25 : decode cX6_parts 25 = .ok (.getfield 9, 3) := by decide +kernel
theorem dX6_parts_28 : decode cX6_parts 28 = .ok (.if_icmp .ge 48, 3) := by decide +kernel
theorem dX6_parts_31 : decode cX6_parts 31 = .ok (.iconst 1, 1) := by decide +kernel
theorem dX6_parts_32 : decode cX6_parts 32 = .ok (.aload_n 0, 1) := by decide +kernel
theorem dX6_parts_33 : decode cX6_parts 33 = .ok (.getfield 18, 3) := by decide +kernel
theorem dX6_parts_36 : decode cX6_parts 36 = .ok (.iload 4, 2) := by decide +kernel
theorem dX6_parts_38 : decode cX6_parts 38 = .ok (.iaload, 1) := by decide +kernel
theorem dX6_parts_39 : decode cX6_parts 39 = .ok (.ishl, 1) := by decide +kernel
theorem dX6_parts_40 : decode cX6_parts 40 = .ok (.iconst 1, 1) := by decide +kernel
theorem dX6_parts_41 : decode cX6_parts 41 = .ok (.aload_n 0, 1) := by decide +kernel
theorem dX6_parts_42 : decode cX6_parts 42 = .ok (.getfield 22, 3) := by decide +kernel
theorem dX6_parts_45 : decode cX6_parts 45 = .ok (.iload 4, 2) := by decide +kernel
theorem dX6_parts_47 : decode cX6_parts 47 = .ok (.iaload, 1) := by decide +kernel
theorem dX6_parts_48 : decode cX6_parts 48 = .ok (.ishl, 1) := by decide +kernel
theorem dX6_parts_49 : decode cX6_parts 49 = .ok (.ior, 1) := by decide +kernel
theorem dX6_parts_50 : decode cX6_parts 50 = .ok (.istore 5, 2) := by decide +kernel
theorem dX6_parts_52 : decode cX6_parts 52 = .ok (.iload 4, 2) := by decide +kernel
theorem dX6_parts_54 : decode cX6_parts 54 = .ok (.iload_n 1, 1) := by decide +kernel
theorem dX6_parts_55 : decode cX6_parts 55 = .ok (.if_icmp .eq 15, 3) := by decide +kernel
theorem dX6_parts_58 : decode cX6_parts 58 = .ok (.iload_n 2, 1) := by decide +kernel
theorem dX6_parts_59 : decode cX6_parts 59 = .ok (.iload 5, 2) := by decide +kernel
theorem dX6_parts_61 : decode cX6_parts 61 = .ok (.iand, 1) := by decide +kernel
theorem dX6_parts_62 : decode cX6_parts 62 = .ok (.ifCond .eq 8, 3) := by decide +kernel
theorem dX6_parts_65 : decode cX6_parts 65 = .ok (.iload_n 2, 1) := by decide +kernel
theorem dX6_parts_66 : decode cX6_parts 66 = .ok (.iload 5, 2) := by decide +kernel
theorem dX6_parts_68 : decode cX6_parts 68 = .ok (.ior, 1) := by decide +kernel
theorem dX6_parts_69 : decode cX6_parts 69 = .ok (.istore_n 2, 1) := by decide +kernel
theorem dX6_parts_70 : decode cX6_parts 70 = .ok (.iinc 4 1, 3) := by decide +kernel
theorem dX6_parts_73 : decode cX6_parts 73 = .ok (.goto (-51), 3) := by decide +kernel
theorem dX6_parts_76 : decode cX6_parts 76 = .ok (.iinc 3 1, 3) := by decide +kernel
theorem dX6_parts_79 : decode cX6_parts 79 = .ok (.goto (-68), 3) := by decide +kernel
theorem dX6_parts_82 : decode cX6_parts 82 = .ok (.iload_n 2, 1) := by decide +kernel
theorem dX6_parts_83 : decode cX6_parts 83 = .ok (.iconst 1, 1) := by decide +kernel
theorem dX6_parts_84 : decode cX6_parts 84 = .ok (.aload_n 0, 1) := by decide +kernel
theorem dX6_parts_85 : decode cX6_parts 85 = .ok (.getfield 22, 3) := by decide +kernel
theorem dX6_parts_88 : decode cX6_parts 88 = .ok (.iload_n 1, 1) := by decide +kernel
theorem dX6_parts_89 : decode cX6_parts 89 = .ok (.iaload, 1) := by decide +kernel
theorem dX6_parts_90 : decode cX6_parts 90 = .ok (.ishl, 1) := by decide +kernel
theorem dX6_parts_91 : decode cX6_parts 91 = .ok (.iand, 1) := by decide +kernel
theorem dX6_parts_92 : decode cX6_parts 92 = .ok (.ifCond .ne 7, 3) := by decide +kernel
theorem dX6_parts_95 : decode cX6_parts 95 = .ok (.iconst 1, 1) := by decide +kernel
theorem dX6_parts_96 : decode cX6_parts 96 = .ok (.goto 4, 3) := by decide +kernel
theorem dX6_parts_99 : decode cX6_parts 99 = .ok (.iconst 0, 1) := by decide +kernel
theorem dX6_parts_100 : decode cX6_parts 100 = .ok (.ireturn, 1) := by decide +kernel
theorem dX7_init_0 : decode cX7_init 0 = .ok (.aload_n 0, 1) := by decide +kernel
theorem dX7_init_1 : decode cX7_init 1 = .ok (.invokespecial 3, 3) := by decide +kernel
theorem dX7_init_4 : decode cX7_init 4 = .ok (.aload_n 0, 1) := by decide +kernel
theorem dX7_init_5 : decode cX7_init 5 = .ok (.sipush 700, 3) := by decide +kernel
theorem dX7_init_8 : decode cX7_init 8 = .ok (.newarray .int, 2) := by decide +kernel
theorem dX7_init_10 : decode cX7_init 10 = .ok (.putfield 9, 3) := by decide +kernel
theorem dX7_init_13 : decode cX7_init 13 = .ok (.aload_n 0, 1) := by decide +kernel
theorem dX7_init_14 : decode cX7_init 14 = .ok (.bipush 40, 2) := by decide +kernel
theorem dX7_init_16 : decode cX7_init 16 = .ok (.newarray .int, 2) := by decide +kernel
theorem dX7_init_18 : decode cX7_init 18 = .ok (.putfield 15, 3) := by decide +kernel
theorem dX7_init_21 : decode cX7_init 21 = .ok (.aload_n 0, 1) := by decide +kernel
theorem dX7_init_22 : decode cX7_init 22 = .ok (.iconst 0, 1) := by decide +kernel
theorem dX7_init_23 : decode cX7_init 23 = .ok (.putfield 18, 3) := by decide +kernel
theorem dX7_init_26 : decode cX7_init 26 = .ok (.aload_n 0, 1) := by decide +kernel
theorem dX7_init_27 : decode cX7_init 27 = .ok (.iconst 0, 1) := by decide +kernel
theorem dX7_init_28 : decode cX7_init 28 = .ok (.putfield 22, 3) := by decide +kernel
theorem dX7_init_31 : decode cX7_init 31 = .ok (.aload_n 0, 1) := by decide +kernel
theorem dX7_init_32 : decode cX7_init 32 = .ok (.iconst 0, 1) := by decide +kernel
theorem dX7_init_33 : decode cX7_init 33 = .ok (.putfield 26, 3) := by decide +kernel
theorem dX7_init_36 : decode cX7_init 36 = .ok (.return_, 1) := by decide +kernel
theorem dX7_clear_0 : decode cX7_clear 0 = .ok (.aload_n 0, 1) := by decide +kernel
theorem dX7_clear_1 : decode cX7_clear 1 = .ok (.iconst 0, 1) := by decide +kernel
theorem dX7_clear_2 : decode cX7_clear 2 = .ok (.putfield 18, 3) := by decide +kernel
theorem dX7_clear_5 : decode cX7_clear 5 = .ok (.aload_n 0, 1) := by decide +kernel
theorem dX7_clear_6 : decode cX7_clear 6 = .ok (.iconst 0, 1) := by decide +kernel
theorem dX7_clear_7 : decode cX7_clear 7 = .ok (.putfield 22, 3) := by decide +kernel
theorem dX7_clear_10 : decode cX7_clear 10 = .ok (.aload_n 0, 1) := by decide +kernel
theorem dX7_clear_11 : decode cX7_clear 11 = .ok (.iconst 0, 1) := by decide +kernel
theorem dX7_clear_12 : decode cX7_clear 12 = .ok (.putfield 26, 3) := by decide +kernel
theorem dX7_clear_15 : decode cX7_clear 15 = .ok (.return_, 1) := by decide +kernel
theorem dX7_add_0 : decode cX7_add 0 = .ok (.aload_n 0, 1) := by decide +kernel
theorem dX7_add_1 : decode cX7_add 1 = .ok (.getfield 18, 3) := by decide +kernel
theorem dX7_add_4 : decode cX7_add 4 = .ok (.sipush 700, 3) := by decide +kernel
theorem dX7_add_7 : decode cX7_add 7 = .ok (.if_icmp .ge 45, 3) := by decide +kernel
theorem dX7_add_10 : decode cX7_add 10 = .ok (.aload_n 0, 1) := by decide +kernel
theorem dX7_add_11 : decode cX7_add 11 = .ok (.getfield 9, 3) := by decide +kernel
theorem dX7_add_14 : decode cX7_add 14 = .ok (.aload_n 0, 1) := by decide +kernel
theorem dX7_add_15 : decode cX7_add 15 = .ok (.getfield 18, 3) := by decide +kernel
theorem dX7_add_18 : decode cX7_add 18 = .ok (.iload_n 1, 1) := by decide +kernel
theorem dX7_add_19 : decode cX7_add 19 = .ok (.iastore, 1) := by decide +kernel
theorem dX7_add_20 : decode cX7_add 20 = .ok (.aload_n 0, 1) := by decide +kernel
theorem dX7_add_21 : decode cX7_add 21 = .ok (.dup, 1) := by decide +kernel
theorem dX7_add_22 : decode cX7_add 22 = .ok (.getfield 18, 3) := by decide +kernel
theorem dX7_add_25 : decode cX7_add 25 = .ok (.iconst 1, 1) := by decide +kernel
theorem dX7_add_26 : decode cX7_add 26 = .ok (.iadd, 1) := by decide +kernel
theorem dX7_add_27 : decode cX7_add 27 = .ok (.putfield 18, 3) := by decide +kernel
theorem dX7_add_30 : decode cX7_add 30 = .ok (.aload_n 0, 1) := by decide +kernel
theorem dX7_add_31 : decode cX7_add 31 = .ok (.aload_n 0, 1) := by decide +kernel
theorem dX7_add_32 : decode cX7_add 32 = .ok (.getfield 26, 3) := by decide +kernel
theorem dX7_add_35 : decode cX7_add 35 = .ok (.ifCond .ne 9, 3) := by decide +kernel
theorem dX7_add_38 : decode cX7_add 38 = .ok (.iload_n 1, 1) := by decide +kernel
theorem dX7_add_39 : decode cX7_add 39 = .ok (.bipush (-6), 2) := by decide +kernel
theorem dX7_add_41 : decode cX7_add 41 = .ok (.if_icmp .ne 7, 3) := by decide +kernel
theorem dX7_add_44 : decode cX7_add 44 = .ok (.iconst 1, 1) := by decide +kernel
theorem dX7_add_45 : decode cX7_add 45 = .ok (.goto 4, 3) := by decide +kernel
theorem dX7_add_48 : decode cX7_add 48 = .ok (.iconst 0, 1) := by decide +kernel
theorem dX7_add_49 : decode cX7_add 49 = .ok (.putfield 26, 3) := by decide +kernel
theorem dX7_add_52 : decode cX7_add 52 = .ok (.return_, 1) := by decide +kernel
theorem dX7_odds_0 : decode cX7_odds 0 = .ok (.aload_n 0, 1) := by decide +kernel
theorem dX7_odds_1 : decode cX7_odds 1 = .ok (.getfield 22, 3) := by decide +kernel
theorem dX7_odds_4 : decode cX7_odds 4 = .ok (.ifCond .eq 42, 3) := by decide +kernel
theorem dX7_odds_7 : decode cX7_odds 7 = .ok (.aload_n 0, 1) := by decide +kernel
theorem dX7_odds_8 : decode cX7_odds 8 = .ok (.getfield 26, 3) := by decide +kernel
theorem dX7_odds_11 : decode cX7_odds 11 = .ok (.ifCond .eq 18, 3) := by decide +kernel
theorem dX7_odds_14 : decode cX7_odds 14 = .ok (.aload_n 2, 1) := by decide +kernel
theorem dX7_odds_15 : decode cX7_odds 15 = .ok (.aload_n 1, 1) := by decide +kernel
theorem dX7_odds_16 : decode cX7_odds 16 = .ok (.getfield 29, 3) := by decide +kernel
theorem dX7_odds_19 : decode cX7_odds 19 = .ok (.iload_n 3, 1) := by decide +kernel
theorem dX7_odds_20 : decode cX7_odds 20 = .ok (.invokevirtual 34, 3) := by decide +kernel
theorem dX7_odds_23 : decode cX7_odds 23 = .ok (.invokestatic 40, 3) := by decide +kernel
theorem dX7_odds_26 : decode cX7_odds 26 = .ok (.goto 4, 3) := by decide +kernel
theorem dX7_odds_29 : decode cX7_odds 29 = .ok (.iconst 0, 1) := by decide +kernel
theorem dX7_odds_30 : decode cX7_odds 30 = .ok (.istore 5, 2) := by decide +kernel
theorem dX7_odds_32 : decode cX7_odds 32 = .ok (.aload_n 0, 1) := by decide +kernel
theorem dX7_odds_33 : decode cX7_odds 33 = .ok (.aload_n 1, 1) := by decide +kernel
theorem dX7_odds_34 : decode cX7_odds 34 = .ok (.aload_n 2, 1) := by decide +kernel
theorem dX7_odds_35 : decode cX7_odds 35 = .ok (.iload_n 3, 1) := by decide +kernel
theorem dX7_odds_36 : decode cX7_odds 36 = .ok (.iload 5, 2) := by decide +kernel
theorem dX7_odds_38 : decode cX7_odds 38 = .ok (.invokevirtual 46, 3) := by decide +kernel
theorem dX7_odds_41 : decode cX7_odds 41 = .ok (.istore 4, 2) := by decide +kernel
theorem dX7_odds_43 : decode cX7_odds 43 = .ok (.goto 32, 3) := by decide +kernel
theorem dX7_odds_46 : decode cX7_odds 46 = .ok (.bipush 6, 2) := by decide +kernel
theorem dX7_odds_48 : decode cX7_odds 48 = .ok (.aload_n 2, 1) := by decide +kernel
theorem dX7_odds_49 : decode cX7_odds 49 = .ok (.getfield 50, 3) := by decide +kernel
theorem dX7_odds_52 : decode cX7_odds 52 = .ok (.iconst 1, 1) := by decide +kernel
theorem dX7_odds_53 : decode cX7_odds 53 = .ok (.iload_n 3, 1) := by decide +kernel
theorem dX7_odds_54 : decode cX7_odds 54 = .ok (.iadd, 1) := by decide +kernel
theorem dX7_odds_55 : decode cX7_odds 55 = .ok (.iaload, 1) := by decide +kernel
theorem dX7_odds_56 : decode cX7_odds 56 = .ok (.bipush 10, 2) := by decide +kernel
theorem dX7_odds_58 : decode cX7_odds 58 = .ok (.idiv, 1) := by decide +kernel
theorem dX7_odds_59 : decode cX7_odds 59 = .ok (.iadd, 1) := by decide +kernel
theorem dX7_odds_60 : decode cX7_odds 60 = .ok (.aload_n 2, 1) := by decide +kernel
theorem dX7_odds_61 : decode cX7_odds 61 = .ok (.getfield 50, 3) := by decide +kernel
theorem dX7_odds_64 : decode cX7_odds 64 = .ok (.bipush 9, 2) := by decide +kernel
theorem dX7_odds_66 : decode cX7_odds 66 = .ok (.iload_n 3, 1) := by decide +kernel
theorem dX7_odds_67 : decode cX7_odds 67 = .ok (.iadd, 1) := by decide +kernel
theorem dX7_odds_68 : decode cX7_odds 68 = .ok (.iaload, 1) := by decide +kernel
theorem dX7_odds_69 : decode cX7_odds 69 = .ok (.bipush 10, 2) := by decide +kernel
theorem dX7_odds_71 : decode cX7_odds 71 = .ok (.idiv, 1) := by decide +kernel
theorem dX7_odds_72 : decode cX7_odds 72 = .ok (.isub, 1) := by decide +kernel
theorem dX7_odds_73 : decode cX7_odds 73 = .ok (.istore 4, 2) := by decide +kernel
theorem dX7_odds_75 : decode cX7_odds 75 = .ok (.iconst 0, 1) := by decide +kernel
theorem dX7_odds_76 : decode cX7_odds 76 = .ok (.bipush 12, 2) := by decide +kernel
theorem dX7_odds_78 : decode cX7_odds 78 = .ok (.iload 4, 2) := by decide +kernel
theorem dX7_odds_80 : decode cX7_odds 80 = .ok (.invokestatic 53, 3) := by decide +kernel
theorem dX7_odds_83 : decode cX7_odds 83 = .ok (.invokestatic 58, 3) := by decide +kernel
theorem dX7_odds_86 : decode cX7_odds 86 = .ok (.ireturn, 1) := by decide +kernel
theorem dX7_work_0 : decode cX7_work 0 = .ok (.iconst 0, 1) := by decide +kernel
theorem dX7_work_1 : decode cX7_work 1 = .ok (.istore 5, 2) := by decide +kernel
theorem dX7_work_3 : decode cX7_work 3 = .ok (.iconst 0, 1) := by decide +kernel
theorem dX7_work_4 : decode cX7_work 4 = .ok (.istore 6, 2) := by decide +kernel
theorem dX7_work_6 : decode cX7_work 6 = .ok (.iload 6, 2) := by decide +kernel
theorem dX7_work_8 : decode cX7_work 8 = .ok (.aload_n 0, 1) := by decide +kernel
theorem dX7_work_9 : decode cX7_work 9 = .ok (.getfield 18, 3) := by decide +kernel
theorem dX7_work_12 : decode cX7_work 12 = .ok (.if_icmp .ge 156, 3) := by decide +kernel
theorem dX7_work_15 : decode cX7_work 15 = .ok (.aload_n 0, 1) := by decide +kernel
theorem dX7_work_16 : decode cX7_work 16 = .ok (.getfield 9, 3) := by decide +kernel
theorem dX7_work_19 : decode cX7_work 19 = .ok (.iload 6, 2) := by decide +kernel
theorem dX7_work_21 : decode cX7_work 21 = .ok (.iaload, 1) := by decide +kernel
theorem dX7_work_22 : decode cX7_work 22 = .ok (.istore 7, 2) := by decide +kernel
theorem dX7_work_24 : decode cX7_work 24 = .ok (.iload 7, 2) := by decide +kernel
theorem dX7_work_26 : decode cX7_work 26 = .ok (.bipush (-6), 2) := by decide +kernel
theorem dX7_work_28 : decode cX7_work 28 = .ok (.if_icmp .lt 53, 3) := by decide +kernel
theorem dX7_work_31 : decode cX7_work 31 = .ok (.iload 5, 2) := by decide +kernel
theorem dX7_work_33 : decode cX7_work 33 = .ok (.bipush 40, 2) := by decide +kernel
theorem dX7_work_35 : decode cX7_work 35 = .ok (.if_icmp .ge 127, 3) := by decide +kernel
theorem dX7_work_38 : decode cX7_work 38 = .ok (.aload_n 0, 1) := by decide +kernel
theorem dX7_work_39 : decode cX7_work 39 = .ok (.getfield 15, 3) := by decide +kernel
theorem dX7_work_42 : decode cX7_work 42 = .ok (.iload 5, 2) := by decide +kernel
theorem dX7_work_44 : decode cX7_work 44 = .ok (.iload 7, 2) := by decide +kernel
theorem dX7_work_46 : decode cX7_work 46 = .ok (.ifCond .lt 8, 3) := by decide +kernel
theorem dX7_work_49 : decode cX7_work 49 = .ok (.iload 7, 2) := by decide +kernel
theorem dX7_work_51 : decode cX7_work 51 = .ok (.goto 23, 3) := by decide +kernel
theorem dX7_work_54 : decode cX7_work 54 = .ok (.iload 7, 2) := by decide +kernel
theorem dX7_work_56 : decode cX7_work 56 = .ok (.bipush (-6), 2) := by decide +kernel
theorem dX7_work_58 : decode cX7_work 58 = .ok (.if_icmp .ne 8, 3) := by decide +kernel
theorem dX7_work_61 : decode cX7_work 61 = .ok (.iload 4, 2) := by decide +kernel
theorem dX7_work_63 : decode cX7_work 63 = .ok (.goto 11, 3) := by decide +kernel
theorem dX7_work_66 : decode cX7_work 66 = .ok (.iload 7, 2) := by decide +kernel
theorem dX7_work_68 : decode cX7_work 68 = .ok (.aload_n 1, 1) := by decide +kernel
theorem dX7_work_69 : decode cX7_work 69 = .ok (.aload_n 2, 1) := by decide +kernel
theorem dX7_work_70 : decode cX7_work 70 = .ok (.iload_n 3, 1) := by decide +kernel
theorem dX7_work_71 : decode cX7_work 71 = .ok (.invokestatic 61, 3) := by decide +kernel
theorem dX7_work_74 : decode cX7_work 74 = .ok (.iastore, 1) := by decide +kernel
theorem dX7_work_75 : decode cX7_work 75 = .ok (.iinc 5 1, 3) := by decide +kernel
theorem dX7_work_78 : decode cX7_work 78 = .ok (.goto 84, 3) := by decide +kernel
theorem dX7_work_81 : decode cX7_work 81 = .ok (.iload 7, 2) := by decide +kernel
theorem dX7_work_83 : decode cX7_work 83 = .ok (.bipush (-9), 2) := by decide +kernel
theorem dX7_work_85 : decode cX7_work 85 = .ok (.if_icmp .ne 38, 3) := by decide +kernel
theorem dX7_work_88 : decode cX7_work 88 = .ok (.iload 5, 2) := by decide +kernel
theorem dX7_work_90 : decode cX7_work 90 = .ok (.iconst 1, 1) := by decide +kernel
theorem dX7_work_91 : decode cX7_work 91 = .ok (.if_icmp .lt 71, 3) := by decide +kernel
theorem dX7_work_94 : decode cX7_work 94 = .ok (.aload_n 0, 1) := by decide +kernel
theorem dX7_work_95 : decode cX7_work 95 = .ok (.getfield 15, 3) := by decide +kernel
theorem dX7_work_98 : decode cX7_work 98 = .ok (.iload 5, 2) := by decide +kernel
theorem dX7_work_100 : decode cX7_work 100 = .ok (.iconst 1, 1) := by decide +kernel
theorem dX7_work_101 : decode cX7_work 101 = .ok (.isub, 1) := by decide +kernel
theorem dX7_work_102 : decode cX7_work 102 = .ok (.aload_n 0, 1) := by decide +kernel
theorem dX7_work_103 : decode cX7_work 103 = .ok (.getfield 15, 3) := by decide +kernel
theorem dX7_work_106 : decode cX7_work 106 = .ok (.iload 5, 2) := by decide +kernel
theorem dX7_work_108 : decode cX7_work 108 = .ok (.iconst 1, 1) := by decide +kernel
theorem dX7_work_109 : decode cX7_work 109 = .ok (.isub, 1) := by decide +kernel
theorem dX7_work_110 : decode cX7_work 110 = .ok (.iaload, 1) := by decide +kernel
theorem dX7_work_111 : decode cX7_work 111 = .ok (.ifCond .ne 7, 3) := by decide +kernel
theorem dX7_work_114 : decode cX7_work 114 = .ok (.iconst 1, 1) := by decide +kernel
theorem dX7_work_115 : decode cX7_work 115 = .ok (.goto 4, 3) := by decide +kernel
theorem dX7_work_118 : decode cX7_work 118 = .ok (.iconst 0, 1) := by decide +kernel
theorem dX7_work_119 : decode cX7_work 119 = .ok (.iastore, 1) := by decide +kernel
theorem dX7_work_120 : decode cX7_work 120 = .ok (.goto 42, 3) := by decide +kernel
theorem dX7_work_123 : decode cX7_work 123 = .ok (.iload 5, 2) := by decide +kernel
theorem dX7_work_125 : decode cX7_work 125 = .ok (.iconst 2, 1) := by decide +kernel
theorem dX7_work_126 : decode cX7_work 126 = .ok (.if_icmp .lt 36, 3) := by decide +kernel
theorem dX7_work_129 : decode cX7_work 129 = .ok (.iinc 5 (-1), 3) := by decide +kernel
theorem dX7_work_132 : decode cX7_work 132 = .ok (.aload_n 0, 1) := by decide +kernel
theorem dX7_work_133 : decode cX7_work 133 = .ok (.getfield 15, 3) := by decide +kernel
theorem dX7_work_136 : decode cX7_work 136 = .ok (.iload 5, 2) := by decide +kernel
theorem dX7_work_138 : decode cX7_work 138 = .ok (.iconst 1, 1) := by decide +kernel
theorem dX7_work_139 : decode cX7_work 139 = .ok (.isub, 1) := by decide +kernel
theorem dX7_work_140 : decode cX7_work 140 = .ok (.iload 7, 2) := by decide +kernel
theorem dX7_work_142 : decode cX7_work 142 = .ok (.aload_n 0, 1) := by decide +kernel
theorem dX7_work_143 : decode cX7_work 143 = .ok (.getfield 15, 3) := by decide +kernel
theorem dX7_work_146 : decode cX7_work 146 = .ok (.iload 5, 2) := by decide +kernel
theorem dX7_work_148 : decode cX7_work 148 = .ok (.iconst 1, 1) := by decide +kernel
theorem dX7_work_149 : decode cX7_work 149 = .ok (.isub, 1) := by decide +kernel
theorem dX7_work_150 : decode cX7_work 150 = .ok (.iaload, 1) := by decide +kernel
theorem dX7_work_151 : decode cX7_work 151 = .ok (.aload_n 0, 1) := by decide +kernel
theorem dX7_work_152 : decode cX7_work 152 = .ok (.getfield 15, 3) := by decide +kernel
theorem dX7_work_155 : decode cX7_work 155 = .ok (.iload 5, 2) := by decide +kernel
theorem dX7_work_157 : decode cX7_work 157 = .ok (.iaload, 1) := by decide +kernel
theorem dX7_work_158 : decode cX7_work 158 = .ok (.invokestatic 65, 3) := by decide +kernel
theorem dX7_work_161 : decode cX7_work 161 = .ok (.iastore, 1) := by decide +kernel
theorem dX7_work_162 : decode cX7_work 162 = .ok (.iinc 6 1, 3) := by decide +kernel
theorem dX7_work_165 : decode cX7_work 165 = .ok (.goto (-159), 3) := by decide +kernel
theorem dX7_work_168 : decode cX7_work 168 = .ok (.iload 5, 2) := by decide +kernel
theorem dX7_work_170 : decode cX7_work 170 = .ok (.iconst 1, 1) := by decide +kernel
theorem dX7_work_171 : decode cX7_work 171 = .ok (.if_icmp .lt 15, 3) := by decide +kernel
theorem dX7_work_174 : decode cX7_work 174 = .ok (.aload_n 0, 1) := by decide +kernel
theorem dX7_work_175 : decode cX7_work 175 = .ok (.getfield 15, 3) := by decide +kernel
theorem dX7_work_178 : decode cX7_work 178 = .ok (.iload 5, 2) := by decide +kernel
theorem dX7_work_180 : decode cX7_work 180 = .ok (.iconst 1, 1) := by decide +kernel
theorem dX7_work_181 : decode cX7_work 181 = .ok (.isub, 1) := by decide +kernel
theorem dX7_work_182 : decode cX7_work 182 = .ok (.iaload, 1) := by decide +kernel
theorem dX7_work_183 : decode cX7_work 183 = .ok (.goto 4, 3) := by decide +kernel
theorem dX7_work_186 : decode cX7_work 186 = .ok (.iconst 0, 1) := by decide +kernel
theorem dX7_work_187 : decode cX7_work 187 = .ok (.ireturn, 1) := by decide +kernel
theorem dX7_valueOf_0 : decode cX7_valueOf 0 = .ok (.iload_n 0, 1) := by decide +kernel
theorem dX7_valueOf_1 : decode cX7_valueOf 1 = .ok (.tableswitch 64 (-4) (-1) #[57, 50, 40, 31], 31) := by decide +kernel
theorem dX7_valueOf_32 : decode cX7_valueOf 32 = .ok (.aload_n 2, 1) := by decide +kernel
theorem dX7_valueOf_33 : decode cX7_valueOf 33 = .ok (.getfield 50, 3) := by decide +kernel
theorem dX7_valueOf_36 : decode cX7_valueOf 36 = .ok (.iconst 1, 1) := by decide +kernel
theorem dX7_valueOf_37 : decode cX7_valueOf 37 = .ok (.iload_n 3, 1) := by decide +kernel
theorem dX7_valueOf_38 : decode cX7_valueOf 38 = .ok (.iadd, 1) := by decide +kernel
theorem dX7_valueOf_39 : decode cX7_valueOf 39 = .ok (.iaload, 1) := by decide +kernel
theorem dX7_valueOf_40 : decode cX7_valueOf 40 = .ok (.ireturn, 1) := by decide +kernel
theorem dX7_valueOf_41 : decode cX7_valueOf 41 = .ok (.aload_n 2, 1) := by decide +kernel
theorem dX7_valueOf_42 : decode cX7_valueOf 42 = .ok (.getfield 50, 3) := by decide +kernel
theorem dX7_valueOf_45 : decode cX7_valueOf 45 = .ok (.bipush 9, 2) := by decide +kernel
theorem dX7_valueOf_47 : decode cX7_valueOf 47 = .ok (.iload_n 3, 1) := by decide +kernel
theorem dX7_valueOf_48 : decode cX7_valueOf 48 = .ok (.iadd, 1) := by decide +kernel
theorem dX7_valueOf_49 : decode cX7_valueOf 49 = .ok (.iaload, 1) := by decide +kernel
theorem dX7_valueOf_50 : decode cX7_valueOf 50 = .ok (.ireturn, 1) := by decide +kernel
theorem dX7_valueOf_51 : decode cX7_valueOf 51 = .ok (.aload_n 1, 1) := by decide +kernel
theorem dX7_valueOf_52 : decode cX7_valueOf 52 = .ok (.getfield 69, 3) := by decide +kernel
theorem dX7_valueOf_55 : decode cX7_valueOf 55 = .ok (.iload_n 3, 1) := by decide +kernel
theorem dX7_valueOf_56 : decode cX7_valueOf 56 = .ok (.iaload, 1) := by decide +kernel
theorem dX7_valueOf_57 : decode cX7_valueOf 57 = .ok (.ireturn, 1) := by decide +kernel
theorem dX7_valueOf_58 : decode cX7_valueOf 58 = .ok (.aload_n 1, 1) := by decide +kernel
theorem dX7_valueOf_59 : decode cX7_valueOf 59 = .ok (.getfield 72, 3) := by decide +kernel
theorem dX7_valueOf_62 : decode cX7_valueOf 62 = .ok (.iload_n 3, 1) := by decide +kernel
theorem dX7_valueOf_63 : decode cX7_valueOf 63 = .ok (.iaload, 1) := by decide +kernel
theorem dX7_valueOf_64 : decode cX7_valueOf 64 = .ok (.ireturn, 1) := by decide +kernel
theorem dX7_valueOf_65 : decode cX7_valueOf 65 = .ok (.aload_n 2, 1) := by decide +kernel
theorem dX7_valueOf_66 : decode cX7_valueOf 66 = .ok (.getfield 50, 3) := by decide +kernel
theorem dX7_valueOf_69 : decode cX7_valueOf 69 = .ok (.iconst 0, 1) := by decide +kernel
theorem dX7_valueOf_70 : decode cX7_valueOf 70 = .ok (.iaload, 1) := by decide +kernel
theorem dX7_valueOf_71 : decode cX7_valueOf 71 = .ok (.ireturn, 1) := by decide +kernel
theorem dX7_join_0 : decode cX7_join 0 = .ok (.iload_n 0, 1) := by decide +kernel
theorem dX7_join_1 : decode cX7_join 1 = .ok (.tableswitch 109 (-14) (-7) #[105, 101, 97, 86, 75, 109, 61, 47], 47) := by decide +kernel
theorem dX7_join_48 : decode cX7_join 48 = .ok (.iload_n 1, 1) := by decide +kernel
theorem dX7_join_49 : decode cX7_join 49 = .ok (.ifCond .ne 7, 3) := by decide +kernel
theorem dX7_join_52 : decode cX7_join 52 = .ok (.iload_n 2, 1) := by decide +kernel
theorem dX7_join_53 : decode cX7_join 53 = .ok (.ifCond .eq 7, 3) := by decide +kernel
theorem dX7_join_56 : decode cX7_join 56 = .ok (.iconst 1, 1) := by decide +kernel
theorem dX7_join_57 : decode cX7_join 57 = .ok (.goto 4, 3) := by decide +kernel
theorem dX7_join_60 : decode cX7_join 60 = .ok (.iconst 0, 1) := by decide +kernel
theorem dX7_join_61 : decode cX7_join 61 = .ok (.ireturn, 1) := by decide +kernel
theorem dX7_join_62 : decode cX7_join 62 = .ok (.iload_n 1, 1) := by decide +kernel
theorem dX7_join_63 : decode cX7_join 63 = .ok (.ifCond .eq 11, 3) := by decide +kernel
theorem dX7_join_66 : decode cX7_join 66 = .ok (.iload_n 2, 1) := by decide +kernel
theorem dX7_join_67 : decode cX7_join 67 = .ok (.ifCond .eq 7, 3) := by decide +kernel
theorem dX7_join_70 : decode cX7_join 70 = .ok (.iconst 1, 1) := by decide +kernel
theorem dX7_join_71 : decode cX7_join 71 = .ok (.goto 4, 3) := by decide +kernel
theorem dX7_join_74 : decode cX7_join 74 = .ok (.iconst 0, 1) := by decide +kernel
theorem dX7_join_75 : decode cX7_join 75 = .ok (.ireturn, 1) := by decide +kernel
theorem dX7_join_76 : decode cX7_join 76 = .ok (.iload_n 1, 1) := by decide +kernel
theorem dX7_join_77 : decode cX7_join 77 = .ok (.iload_n 2, 1) := by decide +kernel
theorem dX7_join_78 : decode cX7_join 78 = .ok (.if_icmp .ge 7, 3) := by decide +kernel
theorem dX7_join_81 : decode cX7_join 81 = .ok (.iconst 1, 1) := by decide +kernel
theorem dX7_join_82 : decode cX7_join 82 = .ok (.goto 4, 3) := by decide +kernel
theorem dX7_join_85 : decode cX7_join 85 = .ok (.iconst 0, 1) := by decide +kernel
theorem dX7_join_86 : decode cX7_join 86 = .ok (.ireturn, 1) := by decide +kernel
theorem dX7_join_87 : decode cX7_join 87 = .ok (.iload_n 1, 1) := by decide +kernel
theorem dX7_join_88 : decode cX7_join 88 = .ok (.iload_n 2, 1) := by decide +kernel
theorem dX7_join_89 : decode cX7_join 89 = .ok (.if_icmp .ne 7, 3) := by decide +kernel
theorem dX7_join_92 : decode cX7_join 92 = .ok (.iconst 1, 1) := by decide +kernel
theorem dX7_join_93 : decode cX7_join 93 = .ok (.goto 4, 3) := by decide +kernel
theorem dX7_join_96 : decode cX7_join 96 = .ok (.iconst 0, 1) := by decide +kernel
theorem dX7_join_97 : decode cX7_join 97 = .ok (.ireturn, 1) := by decide +kernel
theorem dX7_join_98 : decode cX7_join 98 = .ok (.iload_n 1, 1) := by decide +kernel
theorem dX7_join_99 : decode cX7_join 99 = .ok (.iload_n 2, 1) := by decide +kernel
theorem dX7_join_100 : decode cX7_join 100 = .ok (.iadd, 1) := by decide +kernel
theorem dX7_join_101 : decode cX7_join 101 = .ok (.ireturn, 1) := by decide +kernel
theorem dX7_join_102 : decode cX7_join 102 = .ok (.iload_n 1, 1) := by decide +kernel
theorem dX7_join_103 : decode cX7_join 103 = .ok (.iload_n 2, 1) := by decide +kernel
theorem dX7_join_104 : decode cX7_join 104 = .ok (.isub, 1) := by decide +kernel
theorem dX7_join_105 : decode cX7_join 105 = .ok (.ireturn, 1) := by decide +kernel
theorem dX7_join_106 : decode cX7_join 106 = .ok (.iload_n 1, 1) := by decide +kernel
theorem dX7_join_107 : decode cX7_join 107 = .ok (.iload_n 2, 1) := by decide +kernel
theorem dX7_join_108 : decode cX7_join 108 = .ok (.imul, 1) := by decide +kernel
theorem dX7_join_109 : decode cX7_join 109 = .ok (.ireturn, 1) := by decide +kernel
theorem dX7_join_110 : decode cX7_join 110 = .ok (.iload_n 2, 1) := by decide +kernel
theorem dX7_join_111 : decode cX7_join 111 = .ok (.ifCond .ne 7, 3) := by decide +kernel
theorem dX7_join_114 : decode cX7_join 114 = .ok (.iconst 0, 1) := by decide +kernel
theorem dX7_join_115 : decode cX7_join 115 = .ok (.goto 6, 3) := by decide +kernel
theorem dX7_join_118 : decode cX7_join 118 = .ok (.iload_n 1, 1) := by decide +kernel
theorem dX7_join_119 : decode cX7_join 119 = .ok (.iload_n 2, 1) := by decide +kernel
theorem dX7_join_120 : decode cX7_join 120 = .ok (.idiv, 1) := by decide +kernel
theorem dX7_join_121 : decode cX7_join 121 = .ok (.ireturn, 1) := by decide +kernel
theorem dX8_init_0 : decode cX8_init 0 = .ok (.aload_n 0, 1) := by decide +kernel
theorem dX8_init_1 : decode cX8_init 1 = .ok (.invokespecial 3, 3) := by decide +kernel
theorem dX8_init_4 : decode cX8_init 4 = .ok (.aload_n 0, 1) := by decide +kernel
theorem dX8_init_5 : decode cX8_init 5 = .ok (.bipush 8, 2) := by decide +kernel
theorem dX8_init_7 : decode cX8_init 7 = .ok (.newarray .int, 2) := by decide +kernel
theorem dX8_init_9 : decode cX8_init 9 = .ok (.putfield 9, 3) := by decide +kernel
theorem dX8_init_12 : decode cX8_init 12 = .ok (.aload_n 0, 1) := by decide +kernel
theorem dX8_init_13 : decode cX8_init 13 = .ok (.bipush 8, 2) := by decide +kernel
theorem dX8_init_15 : decode cX8_init 15 = .ok (.newarray .int, 2) := by decide +kernel
theorem dX8_init_17 : decode cX8_init 17 = .ok (.putfield 15, 3) := by decide +kernel
theorem dX8_init_20 : decode cX8_init 20 = .ok (.aload_n 0, 1) := by decide +kernel
theorem dX8_init_21 : decode cX8_init 21 = .ok (.bipush 8, 2) := by decide +kernel
theorem dX8_init_23 : decode cX8_init 23 = .ok (.newarray .int, 2) := by decide +kernel
theorem dX8_init_25 : decode cX8_init 25 = .ok (.putfield 18, 3) := by decide +kernel
theorem dX8_init_28 : decode cX8_init 28 = .ok (.aload_n 0, 1) := by decide +kernel
theorem dX8_init_29 : decode cX8_init 29 = .ok (.iconst 0, 1) := by decide +kernel
theorem dX8_init_30 : decode cX8_init 30 = .ok (.putfield 21, 3) := by decide +kernel
theorem dX8_init_33 : decode cX8_init 33 = .ok (.return_, 1) := by decide +kernel
theorem dX8_clear_0 : decode cX8_clear 0 = .ok (.aload_n 0, 1) := by decide +kernel
theorem dX8_clear_1 : decode cX8_clear 1 = .ok (.iconst 0, 1) := by decide +kernel
theorem dX8_clear_2 : decode cX8_clear 2 = .ok (.putfield 21, 3) := by decide +kernel
theorem dX8_clear_5 : decode cX8_clear 5 = .ok (.return_, 1) := by decide +kernel
theorem dX8_add_0 : decode cX8_add 0 = .ok (.aload_n 0, 1) := by decide +kernel
theorem dX8_add_1 : decode cX8_add 1 = .ok (.getfield 21, 3) := by decide +kernel
theorem dX8_add_4 : decode cX8_add 4 = .ok (.bipush 8, 2) := by decide +kernel
theorem dX8_add_6 : decode cX8_add 6 = .ok (.if_icmp .ge 43, 3) := by decide +kernel
theorem dX8_add_9 : decode cX8_add 9 = .ok (.aload_n 0, 1) := by decide +kernel
theorem dX8_add_10 : decode cX8_add 10 = .ok (.getfield 9, 3) := by decide +kernel
theorem dX8_add_13 : decode cX8_add 13 = .ok (.aload_n 0, 1) := by decide +kernel
theorem dX8_add_14 : decode cX8_add 14 = .ok (.getfield 21, 3) := by decide +kernel
theorem dX8_add_17 : decode cX8_add 17 = .ok (.iload_n 1, 1) := by decide +kernel
theorem dX8_add_18 : decode cX8_add 18 = .ok (.iastore, 1) := by decide +kernel
theorem dX8_add_19 : decode cX8_add 19 = .ok (.aload_n 0, 1) := by decide +kernel
theorem dX8_add_20 : decode cX8_add 20 = .ok (.getfield 15, 3) := by decide +kernel
theorem dX8_add_23 : decode cX8_add 23 = .ok (.aload_n 0, 1) := by decide +kernel
theorem dX8_add_24 : decode cX8_add 24 = .ok (.getfield 21, 3) := by decide +kernel
theorem dX8_add_27 : decode cX8_add 27 = .ok (.iload_n 2, 1) := by decide +kernel
theorem dX8_add_28 : decode cX8_add 28 = .ok (.iastore, 1) := by decide +kernel
theorem dX8_add_29 : decode cX8_add 29 = .ok (.aload_n 0, 1) := by decide +kernel
theorem dX8_add_30 : decode cX8_add 30 = .ok (.getfield 18, 3) := by decide +kernel
theorem dX8_add_33 : decode cX8_add 33 = .ok (.aload_n 0, 1) := by decide +kernel
theorem dX8_add_34 : decode cX8_add 34 = .ok (.getfield 21, 3) := by decide +kernel
theorem dX8_add_37 : decode cX8_add 37 = .ok (.iload_n 3, 1) := by decide +kernel
theorem dX8_add_38 : decode cX8_add 38 = .ok (.iastore, 1) := by decide +kernel
theorem dX8_add_39 : decode cX8_add 39 = .ok (.aload_n 0, 1) := by decide +kernel
theorem dX8_add_40 : decode cX8_add 40 = .ok (.dup, 1) := by decide +kernel
theorem dX8_add_41 : decode cX8_add 41 = .ok (.getfield 21, 3) := by decide +kernel
theorem dX8_add_44 : decode cX8_add 44 = .ok (.iconst 1, 1) := by decide +kernel
theorem dX8_add_45 : decode cX8_add 45 = .ok (.iadd, 1) := by decide +kernel
theorem dX8_add_46 : decode cX8_add 46 = .ok (.putfield 21, 3) := by decide +kernel
theorem dX8_add_49 : decode cX8_add 49 = .ok (.return_, 1) := by decide +kernel
theorem dX8_lastDay_0 : decode cX8_lastDay 0 = .ok (.iconst 0, 1) := by decide +kernel
theorem dX8_lastDay_1 : decode cX8_lastDay 1 = .ok (.istore_n 1, 1) := by decide +kernel
theorem dX8_lastDay_2 : decode cX8_lastDay 2 = .ok (.iconst 0, 1) := by decide +kernel
theorem dX8_lastDay_3 : decode cX8_lastDay 3 = .ok (.istore_n 2, 1) := by decide +kernel
theorem dX8_lastDay_4 : decode cX8_lastDay 4 = .ok (.iload_n 2, 1) := by decide +kernel
theorem dX8_lastDay_5 : decode cX8_lastDay 5 = .ok (.aload_n 0, 1) := by decide +kernel
theorem dX8_lastDay_6 : decode cX8_lastDay 6 = .ok (.getfield 21, 3) := by decide +kernel
theorem dX8_lastDay_9 : decode cX8_lastDay 9 = .ok (.if_icmp .ge 20, 3) := by decide +kernel
theorem dX8_lastDay_12 : decode cX8_lastDay 12 = .ok (.iload_n 1, 1) := by decide +kernel
theorem dX8_lastDay_13 : decode cX8_lastDay 13 = .ok (.aload_n 0, 1) := by decide +kernel
theorem dX8_lastDay_14 : decode cX8_lastDay 14 = .ok (.getfield 15, 3) := by decide +kernel
theorem dX8_lastDay_17 : decode cX8_lastDay 17 = .ok (.iload_n 2, 1) := by decide +kernel
theorem dX8_lastDay_18 : decode cX8_lastDay 18 = .ok (.iaload, 1) := by decide +kernel
theorem dX8_lastDay_19 : decode cX8_lastDay 19 = .ok (.invokestatic 25, 3) := by decide +kernel
theorem dX8_lastDay_22 : decode cX8_lastDay 22 = .ok (.istore_n 1, 1) := by decide +kernel
theorem dX8_lastDay_23 : decode cX8_lastDay 23 = .ok (.iinc 2 1, 3) := by decide +kernel
theorem dX8_lastDay_26 : decode cX8_lastDay 26 = .ok (.goto (-22), 3) := by decide +kernel
theorem dX8_lastDay_29 : decode cX8_lastDay 29 = .ok (.iload_n 1, 1) := by decide +kernel
theorem dX8_lastDay_30 : decode cX8_lastDay 30 = .ok (.ireturn, 1) := by decide +kernel
theorem dX8_take_0 : decode cX8_take 0 = .ok (.aload_n 0, 1) := by decide +kernel
theorem dX8_take_1 : decode cX8_take 1 = .ok (.aload_n 1, 1) := by decide +kernel
theorem dX8_take_2 : decode cX8_take 2 = .ok (.getfield 21, 3) := by decide +kernel
theorem dX8_take_5 : decode cX8_take 5 = .ok (.putfield 21, 3) := by decide +kernel
theorem dX8_take_8 : decode cX8_take 8 = .ok (.aload_n 1, 1) := by decide +kernel
theorem dX8_take_9 : decode cX8_take 9 = .ok (.getfield 9, 3) := by decide +kernel
theorem dX8_take_12 : decode cX8_take 12 = .ok (.iconst 0, 1) := by decide +kernel
theorem dX8_take_13 : decode cX8_take 13 = .ok (.aload_n 0, 1) := by decide +kernel
theorem dX8_take_14 : decode cX8_take 14 = .ok (.getfield 9, 3) := by decide +kernel
theorem dX8_take_17 : decode cX8_take 17 = .ok (.iconst 0, 1) := by decide +kernel
theorem dX8_take_18 : decode cX8_take 18 = .ok (.bipush 8, 2) := by decide +kernel
theorem dX8_take_20 : decode cX8_take 20 = .ok (.invokestatic 31, 3) := by decide +kernel
theorem dX8_take_23 : decode cX8_take 23 = .ok (.aload_n 1, 1) := by decide +kernel
theorem dX8_take_24 : decode cX8_take 24 = .ok (.getfield 15, 3) := by decide +kernel
theorem dX8_take_27 : decode cX8_take 27 = .ok (.iconst 0, 1) := by decide +kernel
theorem dX8_take_28 : decode cX8_take 28 = .ok (.aload_n 0, 1) := by decide +kernel
theorem dX8_take_29 : decode cX8_take 29 = .ok (.getfield 15, 3) := by decide +kernel
theorem dX8_take_32 : decode cX8_take 32 = .ok (.iconst 0, 1) := by decide +kernel
theorem dX8_take_33 : decode cX8_take 33 = .ok (.bipush 8, 2) := by decide +kernel
theorem dX8_take_35 : decode cX8_take 35 = .ok (.invokestatic 31, 3) := by decide +kernel
theorem dX8_take_38 : decode cX8_take 38 = .ok (.aload_n 1, 1) := by decide +kernel
theorem dX8_take_39 : decode cX8_take 39 = .ok (.getfield 18, 3) := by decide +kernel
theorem dX8_take_42 : decode cX8_take 42 = .ok (.iconst 0, 1) := by decide +kernel
theorem dX8_take_43 : decode cX8_take 43 = .ok (.aload_n 0, 1) := by decide +kernel
theorem dX8_take_44 : decode cX8_take 44 = .ok (.getfield 18, 3) := by decide +kernel
theorem dX8_take_47 : decode cX8_take 47 = .ok (.iconst 0, 1) := by decide +kernel
theorem dX8_take_48 : decode cX8_take 48 = .ok (.bipush 8, 2) := by decide +kernel
theorem dX8_take_50 : decode cX8_take 50 = .ok (.invokestatic 31, 3) := by decide +kernel
theorem dX8_take_53 : decode cX8_take 53 = .ok (.return_, 1) := by decide +kernel
theorem dX9_init_0 : decode cX9_init 0 = .ok (.aload_n 0, 1) := by decide +kernel
theorem dX9_init_1 : decode cX9_init 1 = .ok (.invokespecial 5, 3) := by decide +kernel
theorem dX9_init_4 : decode cX9_init 4 = .ok (.aload_n 0, 1) := by decide +kernel
theorem dX9_init_5 : decode cX9_init 5 = .ok (.bipush 85, 2) := by decide +kernel
theorem dX9_init_7 : decode cX9_init 7 = .ok (.newarray .int, 2) := by decide +kernel
theorem dX9_init_9 : decode cX9_init 9 = .ok (.putfield 11, 3) := by decide +kernel
theorem dX9_init_12 : decode cX9_init 12 = .ok (.return_, 1) := by decide +kernel
theorem dX9_clear_0 : decode cX9_clear 0 = .ok (.iconst 0, 1) := by decide +kernel
theorem dX9_clear_1 : decode cX9_clear 1 = .ok (.istore_n 1, 1) := by decide +kernel
theorem dX9_clear_2 : decode cX9_clear 2 = .ok (.iload_n 1, 1) := by decide +kernel
theorem dX9_clear_3 : decode cX9_clear 3 = .ok (.bipush 85, 2) := by decide +kernel
theorem dX9_clear_5 : decode cX9_clear 5 = .ok (.if_icmp .ge 16, 3) := by decide +kernel
theorem dX9_clear_8 : decode cX9_clear 8 = .ok (.aload_n 0, 1) := by decide +kernel
theorem dX9_clear_9 : decode cX9_clear 9 = .ok (.getfield 11, 3) := by decide +kernel
theorem dX9_clear_12 : decode cX9_clear 12 = .ok (.iload_n 1, 1) := by decide +kernel
theorem dX9_clear_13 : decode cX9_clear 13 = .ok (.iconst 0, 1) := by decide +kernel
theorem dX9_clear_14 : decode cX9_clear 14 = .ok (.iastore, 1) := by decide +kernel
theorem dX9_clear_15 : decode cX9_clear 15 = .ok (.iinc 1 1, 3) := by decide +kernel
theorem dX9_clear_18 : decode cX9_clear 18 = .ok (.goto (-16), 3) := by decide +kernel
theorem dX9_clear_21 : decode cX9_clear 21 = .ok (.return_, 1) := by decide +kernel
theorem dX9_take_0 : decode cX9_take 0 = .ok (.aload_n 1, 1) := by decide +kernel
theorem dX9_take_1 : decode cX9_take 1 = .ok (.getfield 11, 3) := by decide +kernel
theorem dX9_take_4 : decode cX9_take 4 = .ok (.iconst 0, 1) := by decide +kernel
theorem dX9_take_5 : decode cX9_take 5 = .ok (.aload_n 0, 1) := by decide +kernel
theorem dX9_take_6 : decode cX9_take 6 = .ok (.getfield 11, 3) := by decide +kernel
theorem dX9_take_9 : decode cX9_take 9 = .ok (.iconst 0, 1) := by decide +kernel
theorem dX9_take_10 : decode cX9_take 10 = .ok (.bipush 85, 2) := by decide +kernel
theorem dX9_take_12 : decode cX9_take 12 = .ok (.invokestatic 15, 3) := by decide +kernel
theorem dX9_take_15 : decode cX9_take 15 = .ok (.return_, 1) := by decide +kernel
theorem dX9_sum_0 : decode cX9_sum 0 = .ok (.iconst 0, 1) := by decide +kernel
theorem dX9_sum_1 : decode cX9_sum 1 = .ok (.istore_n 3, 1) := by decide +kernel
theorem dX9_sum_2 : decode cX9_sum 2 = .ok (.iconst 0, 1) := by decide +kernel
theorem dX9_sum_3 : decode cX9_sum 3 = .ok (.istore 4, 2) := by decide +kernel
theorem dX9_sum_5 : decode cX9_sum 5 = .ok (.iload 4, 2) := by decide +kernel
theorem dX9_sum_7 : decode cX9_sum 7 = .ok (.iload_n 2, 1) := by decide +kernel
theorem dX9_sum_8 : decode cX9_sum 8 = .ok (.if_icmp .ge 21, 3) := by decide +kernel
theorem dX9_sum_11 : decode cX9_sum 11 = .ok (.iload_n 3, 1) := by decide +kernel
theorem dX9_sum_12 : decode cX9_sum 12 = .ok (.aload_n 0, 1) := by decide +kernel
theorem dX9_sum_13 : decode cX9_sum 13 = .ok (.getfield 11, 3) := by decide +kernel
theorem dX9_sum_16 : decode cX9_sum 16 = .ok (.iload_n 1, 1) := by decide +kernel
theorem dX9_sum_17 : decode cX9_sum 17 = .ok (.iload 4, 2) := by decide +kernel
theorem dX9_sum_19 : decode cX9_sum 19 = .ok (.iadd, 1) := by decide +kernel
theorem dX9_sum_20 : decode cX9_sum 20 = .ok (.iaload, 1) := by decide +kernel
theorem dX9_sum_21 : decode cX9_sum 21 = .ok (.iadd, 1) := by decide +kernel
theorem dX9_sum_22 : decode cX9_sum 22 = .ok (.istore_n 3, 1) := by decide +kernel
theorem dX9_sum_23 : decode cX9_sum 23 = .ok (.iinc 4 1, 3) := by decide +kernel
theorem dX9_sum_26 : decode cX9_sum 26 = .ok (.goto (-21), 3) := by decide +kernel
theorem dX9_sum_29 : decode cX9_sum 29 = .ok (.iload_n 3, 1) := by decide +kernel
theorem dX9_sum_30 : decode cX9_sum 30 = .ok (.ireturn, 1) := by decide +kernel
theorem dX9_isGone_0 : decode cX9_isGone 0 = .ok (.aload_n 0, 1) := by decide +kernel
theorem dX9_isGone_1 : decode cX9_isGone 1 = .ok (.getfield 11, 3) := by decide +kernel
theorem dX9_isGone_4 : decode cX9_isGone 4 = .ok (.bipush 55, 2) := by decide +kernel
theorem dX9_isGone_6 : decode cX9_isGone 6 = .ok (.iload_n 1, 1) := by decide +kernel
theorem dX9_isGone_7 : decode cX9_isGone 7 = .ok (.iadd, 1) := by decide +kernel
theorem dX9_isGone_8 : decode cX9_isGone 8 = .ok (.iaload, 1) := by decide +kernel
theorem dX9_isGone_9 : decode cX9_isGone 9 = .ok (.iconst (-1), 1) := by decide +kernel
theorem dX9_isGone_10 : decode cX9_isGone 10 = .ok (.if_icmp .ne 7, 3) := by decide +kernel
theorem dX9_isGone_13 : decode cX9_isGone 13 = .ok (.iconst 1, 1) := by decide +kernel
theorem dX9_isGone_14 : decode cX9_isGone 14 = .ok (.goto 4, 3) := by decide +kernel
theorem dX9_isGone_17 : decode cX9_isGone 17 = .ok (.iconst 0, 1) := by decide +kernel
theorem dX9_isGone_18 : decode cX9_isGone 18 = .ok (.ireturn, 1) := by decide +kernel
theorem dX9_isMoving_0 : decode cX9_isMoving 0 = .ok (.aload_n 0, 1) := by decide +kernel
theorem dX9_isMoving_1 : decode cX9_isMoving 1 = .ok (.getfield 11, 3) := by decide +kernel
theorem dX9_isMoving_4 : decode cX9_isMoving 4 = .ok (.bipush 65, 2) := by decide +kernel
theorem dX9_isMoving_6 : decode cX9_isMoving 6 = .ok (.iload_n 1, 1) := by decide +kernel
theorem dX9_isMoving_7 : decode cX9_isMoving 7 = .ok (.iadd, 1) := by decide +kernel
theorem dX9_isMoving_8 : decode cX9_isMoving 8 = .ok (.iaload, 1) := by decide +kernel
theorem dX9_isMoving_9 : decode cX9_isMoving 9 = .ok (.ifCond .le 7, 3) := by decide +kernel
theorem dX9_isMoving_12 : decode cX9_isMoving 12 = .ok (.iconst 1, 1) := by decide +kernel
theorem dX9_isMoving_13 : decode cX9_isMoving 13 = .ok (.goto 4, 3) := by decide +kernel
theorem dX9_isMoving_16 : decode cX9_isMoving 16 = .ok (.iconst 0, 1) := by decide +kernel
theorem dX9_isMoving_17 : decode cX9_isMoving 17 = .ok (.ireturn, 1) := by decide +kernel
theorem dX9_lies_0 : decode cX9_lies 0 = .ok (.aload_n 0, 1) := by decide +kernel
theorem dX9_lies_1 : decode cX9_lies 1 = .ok (.iload_n 1, 1) := by decide +kernel
theorem dX9_lies_2 : decode cX9_lies 2 = .ok (.invokevirtual 21, 3) := by decide +kernel
theorem dX9_lies_5 : decode cX9_lies 5 = .ok (.ifCond .ne 15, 3) := by decide +kernel
theorem dX9_lies_8 : decode cX9_lies 8 = .ok (.aload_n 0, 1) := by decide +kernel
theorem dX9_lies_9 : decode cX9_lies 9 = .ok (.iload_n 1, 1) := by decide +kernel
theorem dX9_lies_10 : decode cX9_lies 10 = .ok (.invokevirtual 25, 3) := by decide +kernel
theorem dX9_lies_13 : decode cX9_lies 13 = .ok (.ifCond .ne 7, 3) := by decide +kernel
theorem dX9_lies_16 : decode cX9_lies 16 = .ok (.iconst 1, 1) := by decide +kernel
theorem dX9_lies_17 : decode cX9_lies 17 = .ok (.goto 4, 3) := by decide +kernel
theorem dX9_lies_20 : decode cX9_lies 20 = .ok (.iconst 0, 1) := by decide +kernel
theorem dX9_lies_21 : decode cX9_lies 21 = .ok (.ireturn, 1) := by decide +kernel
theorem dX9_closedBits_0 : decode cX9_closedBits 0 = .ok (.iconst 0, 1) := by decide +kernel
theorem dX9_closedBits_1 : decode cX9_closedBits 1 = .ok (.istore_n 2, 1) := by decide +kernel
theorem dX9_closedBits_2 : decode cX9_closedBits 2 = .ok (.iconst 0, 1) := by decide +kernel
theorem dX9_closedBits_3 : decode cX9_closedBits 3 = .ok (.istore_n 3, 1) := by decide +kernel
theorem dX9_closedBits_4 : decode cX9_closedBits 4 = .ok (.iload_n 3, 1) := by decide +kernel
theorem dX9_closedBits_5 : decode cX9_closedBits 5 = .ok (.iload_n 1, 1) := by decide +kernel
theorem dX9_closedBits_6 : decode cX9_closedBits 6 = .ok (.if_icmp .ge 27, 3) := by decide +kernel
theorem dX9_closedBits_9 : decode cX9_closedBits 9 = .ok (.iload_n 2, 1) := by decide +kernel
theorem dX9_closedBits_10 : decode cX9_closedBits 10 = .ok (.aload_n 0, 1) := by decide +kernel
theorem dX9_closedBits_11 : decode cX9_closedBits 11 = .ok (.iload_n 3, 1) := by decide +kernel
theorem dX9_closedBits_12 : decode cX9_closedBits 12 = .ok (.invokevirtual 28, 3) := by decide +kernel
theorem dX9_closedBits_15 : decode cX9_closedBits 15 = .ok (.ifCond .eq 9, 3) := by decide +kernel
theorem dX9_closedBits_18 : decode cX9_closedBits 18 = .ok (.iconst 1, 1) := by decide +kernel
theorem dX9_closedBits_19 : decode cX9_closedBits 19 = .ok (.iload_n 3, 1) := by decide +kernel
theorem dX9_closedBits_20 : decode cX9_closedBits 20 = .ok (.ishl, 1) := by decide +kernel
theorem dX9_closedBits_21 : decode cX9_closedBits 21 = .ok (.goto 4, 3) := by decide +kernel
theorem dX9_closedBits_24 : decode cX9_closedBits 24 = .ok (.iconst 0, 1) := by decide +kernel
theorem dX9_closedBits_25 : decode cX9_closedBits 25 = .ok (.ior, 1) := by decide +kernel
theorem dX9_closedBits_26 : decode cX9_closedBits 26 = .ok (.istore_n 2, 1) := by decide +kernel
theorem dX9_closedBits_27 : decode cX9_closedBits 27 = .ok (.iinc 3 1, 3) := by decide +kernel
theorem dX9_closedBits_30 : decode cX9_closedBits 30 = .ok (.goto (-26), 3) := by decide +kernel
theorem dX9_closedBits_33 : decode cX9_closedBits 33 = .ok (.iload_n 2, 1) := by decide +kernel
theorem dX9_closedBits_34 : decode cX9_closedBits 34 = .ok (.ireturn, 1) := by decide +kernel
theorem dX9_movingBits_0 : decode cX9_movingBits 0 = .ok (.iconst 0, 1) := by decide +kernel
theorem dX9_movingBits_1 : decode cX9_movingBits 1 = .ok (.istore_n 2, 1) := by decide +kernel
theorem dX9_movingBits_2 : decode cX9_movingBits 2 = .ok (.iconst 0, 1) := by decide +kernel
theorem dX9_movingBits_3 : decode cX9_movingBits 3 = .ok (.istore_n 3, 1) := by decide +kernel
theorem dX9_movingBits_4 : decode cX9_movingBits 4 = .ok (.iload_n 3, 1) := by decide +kernel
theorem dX9_movingBits_5 : decode cX9_movingBits 5 = .ok (.iload_n 1, 1) := by decide +kernel
theorem dX9_movingBits_6 : decode cX9_movingBits 6 = .ok (.if_icmp .ge 27, 3) := by decide +kernel
theorem dX9_movingBits_9 : decode cX9_movingBits 9 = .ok (.iload_n 2, 1) := by decide +kernel
theorem dX9_movingBits_10 : decode cX9_movingBits 10 = .ok (.aload_n 0, 1) := by decide +kernel
theorem dX9_movingBits_11 : decode cX9_movingBits 11 = .ok (.iload_n 3, 1) := by decide +kernel
theorem dX9_movingBits_12 : decode cX9_movingBits 12 = .ok (.invokevirtual 25, 3) := by decide +kernel
theorem dX9_movingBits_15 : decode cX9_movingBits 15 = .ok (.ifCond .eq 9, 3) := by decide +kernel
theorem dX9_movingBits_18 : decode cX9_movingBits 18 = .ok (.iconst 1, 1) := by decide +kernel
theorem dX9_movingBits_19 : decode cX9_movingBits 19 = .ok (.iload_n 3, 1) := by decide +kernel
theorem dX9_movingBits_20 : decode cX9_movingBits 20 = .ok (.ishl, 1) := by decide +kernel
theorem dX9_movingBits_21 : decode cX9_movingBits 21 = .ok (.goto 4, 3) := by decide +kernel
theorem dX9_movingBits_24 : decode cX9_movingBits 24 = .ok (.iconst 0, 1) := by decide +kernel
theorem dX9_movingBits_25 : decode cX9_movingBits 25 = .ok (.ior, 1) := by decide +kernel
theorem dX9_movingBits_26 : decode cX9_movingBits 26 = .ok (.istore_n 2, 1) := by decide +kernel
theorem dX9_movingBits_27 : decode cX9_movingBits 27 = .ok (.iinc 3 1, 3) := by decide +kernel
theorem dX9_movingBits_30 : decode cX9_movingBits 30 = .ok (.goto (-26), 3) := by decide +kernel
theorem dX9_movingBits_33 : decode cX9_movingBits 33 = .ok (.iload_n 2, 1) := by decide +kernel
theorem dX9_movingBits_34 : decode cX9_movingBits 34 = .ok (.ireturn, 1) := by decide +kernel
theorem dX9_goneBits_0 : decode cX9_goneBits 0 = .ok (.iconst 0, 1) := by decide +kernel
theorem dX9_goneBits_1 : decode cX9_goneBits 1 = .ok (.istore_n 2, 1) := by decide +kernel
theorem dX9_goneBits_2 : decode cX9_goneBits 2 = .ok (.iconst 0, 1) := by decide +kernel
theorem dX9_goneBits_3 : decode cX9_goneBits 3 = .ok (.istore_n 3, 1) := by decide +kernel
theorem dX9_goneBits_4 : decode cX9_goneBits 4 = .ok (.iload_n 3, 1) := by decide +kernel
theorem dX9_goneBits_5 : decode cX9_goneBits 5 = .ok (.iload_n 1, 1) := by decide +kernel
theorem dX9_goneBits_6 : decode cX9_goneBits 6 = .ok (.if_icmp .ge 27, 3) := by decide +kernel
theorem dX9_goneBits_9 : decode cX9_goneBits 9 = .ok (.iload_n 2, 1) := by decide +kernel
theorem dX9_goneBits_10 : decode cX9_goneBits 10 = .ok (.aload_n 0, 1) := by decide +kernel
theorem dX9_goneBits_11 : decode cX9_goneBits 11 = .ok (.iload_n 3, 1) := by decide +kernel
theorem dX9_goneBits_12 : decode cX9_goneBits 12 = .ok (.invokevirtual 21, 3) := by decide +kernel
theorem dX9_goneBits_15 : decode cX9_goneBits 15 = .ok (.ifCond .eq 9, 3) := by decide +kernel
theorem dX9_goneBits_18 : decode cX9_goneBits 18 = .ok (.iconst 1, 1) := by decide +kernel
theorem dX9_goneBits_19 : decode cX9_goneBits 19 = .ok (.iload_n 3, 1) := by decide +kernel
theorem dX9_goneBits_20 : decode cX9_goneBits 20 = .ok (.ishl, 1) := by decide +kernel
theorem dX9_goneBits_21 : decode cX9_goneBits 21 = .ok (.goto 4, 3) := by decide +kernel
theorem dX9_goneBits_24 : decode cX9_goneBits 24 = .ok (.iconst 0, 1) := by decide +kernel
theorem dX9_goneBits_25 : decode cX9_goneBits 25 = .ok (.ior, 1) := by decide +kernel
theorem dX9_goneBits_26 : decode cX9_goneBits 26 = .ok (.istore_n 2, 1) := by decide +kernel
theorem dX9_goneBits_27 : decode cX9_goneBits 27 = .ok (.iinc 3 1, 3) := by decide +kernel
theorem dX9_goneBits_30 : decode cX9_goneBits 30 = .ok (.goto (-26), 3) := by decide +kernel
theorem dX9_goneBits_33 : decode cX9_goneBits 33 = .ok (.iload_n 2, 1) := by decide +kernel
theorem dX9_goneBits_34 : decode cX9_goneBits 34 = .ok (.ireturn, 1) := by decide +kernel
theorem dX9_bitsIn_0 : decode cX9_bitsIn 0 = .ok (.iconst 0, 1) := by decide +kernel
theorem dX9_bitsIn_1 : decode cX9_bitsIn 1 = .ok (.istore_n 3, 1) := by decide +kernel
theorem dX9_bitsIn_2 : decode cX9_bitsIn 2 = .ok (.iconst 0, 1) := by decide +kernel
theorem dX9_bitsIn_3 : decode cX9_bitsIn 3 = .ok (.istore 4, 2) := by decide +kernel
theorem dX9_bitsIn_5 : decode cX9_bitsIn 5 = .ok (.iload 4, 2) := by decide +kernel
theorem dX9_bitsIn_7 : decode cX9_bitsIn 7 = .ok (.iload_n 1, 1) := by decide +kernel
theorem dX9_bitsIn_8 : decode cX9_bitsIn 8 = .ok (.if_icmp .ge 47, 3) := by decide +kernel
theorem dX9_bitsIn_11 : decode cX9_bitsIn 11 = .ok (.iload_n 3, 1) := by decide +kernel
theorem dX9_bitsIn_12 : decode cX9_bitsIn 12 = .ok (.aload_n 0, 1) := by decide +kernel
theorem dX9_bitsIn_13 : decode cX9_bitsIn 13 = .ok (.getfield 11, 3) := by decide +kernel
theorem dX9_bitsIn_16 : decode cX9_bitsIn 16 = .ok (.bipush 55, 2) := by decide +kernel
theorem dX9_bitsIn_18 : decode cX9_bitsIn 18 = .ok (.iload 4, 2) := by decide +kernel
theorem dX9_bitsIn_20 : decode cX9_bitsIn 20 = .ok (.iadd, 1) := by decide +kernel
theorem dX9_bitsIn_21 : decode cX9_bitsIn 21 = .ok (.iaload, 1) := by decide +kernel
theorem dX9_bitsIn_22 : decode cX9_bitsIn 22 = .ok (.iload_n 2, 1) := by decide +kernel
theorem dX9_bitsIn_23 : decode cX9_bitsIn 23 = .ok (.if_icmp .ne 23, 3) := by decide +kernel
theorem dX9_bitsIn_26 : decode cX9_bitsIn 26 = .ok (.aload_n 0, 1) := by decide +kernel
theorem dX9_bitsIn_27 : decode cX9_bitsIn 27 = .ok (.getfield 11, 3) := by decide +kernel
theorem dX9_bitsIn_30 : decode cX9_bitsIn 30 = .ok (.bipush 65, 2) := by decide +kernel
theorem dX9_bitsIn_32 : decode cX9_bitsIn 32 = .ok (.iload 4, 2) := by decide +kernel
theorem dX9_bitsIn_34 : decode cX9_bitsIn 34 = .ok (.iadd, 1) := by decide +kernel
theorem dX9_bitsIn_35 : decode cX9_bitsIn 35 = .ok (.iaload, 1) := by decide +kernel
theorem dX9_bitsIn_36 : decode cX9_bitsIn 36 = .ok (.ifCond .ne 10, 3) := by decide +kernel
theorem dX9_bitsIn_39 : decode cX9_bitsIn 39 = .ok (.iconst 1, 1) := by decide +kernel
theorem dX9_bitsIn_40 : decode cX9_bitsIn 40 = .ok (.iload 4, 2) := by decide +kernel
theorem dX9_bitsIn_42 : decode cX9_bitsIn 42 = .ok (.ishl, 1) := by decide +kernel
theorem dX9_bitsIn_43 : decode cX9_bitsIn 43 = .ok (.goto 4, 3) := by decide +kernel
theorem dX9_bitsIn_46 : decode cX9_bitsIn 46 = .ok (.iconst 0, 1) := by decide +kernel
theorem dX9_bitsIn_47 : decode cX9_bitsIn 47 = .ok (.ior, 1) := by decide +kernel
theorem dX9_bitsIn_48 : decode cX9_bitsIn 48 = .ok (.istore_n 3, 1) := by decide +kernel
theorem dX9_bitsIn_49 : decode cX9_bitsIn 49 = .ok (.iinc 4 1, 3) := by decide +kernel
theorem dX9_bitsIn_52 : decode cX9_bitsIn 52 = .ok (.goto (-47), 3) := by decide +kernel
theorem dX9_bitsIn_55 : decode cX9_bitsIn 55 = .ok (.iload_n 3, 1) := by decide +kernel
theorem dX9_bitsIn_56 : decode cX9_bitsIn 56 = .ok (.ireturn, 1) := by decide +kernel
theorem dX9_grainsThatCome_0 : decode cX9_grainsThatCome 0 = .ok (.aload_n 0, 1) := by decide +kernel
theorem dX9_grainsThatCome_1 : decode cX9_grainsThatCome 1 = .ok (.getfield 11, 3) := by decide +kernel
theorem dX9_grainsThatCome_4 : decode cX9_grainsThatCome 4 = .ok (.bipush 45, 2) := by decide +kernel
theorem dX9_grainsThatCome_6 : decode cX9_grainsThatCome 6 = .ok (.iload_n 1, 1) := by decide +kernel
theorem dX9_grainsThatCome_7 : decode cX9_grainsThatCome 7 = .ok (.iadd, 1) := by decide +kernel
theorem dX9_grainsThatCome_8 : decode cX9_grainsThatCome 8 = .ok (.iaload, 1) := by decide +kernel
theorem dX9_grainsThatCome_9 : decode cX9_grainsThatCome 9 = .ok (.iconst 1, 1) := by decide +kernel
theorem dX9_grainsThatCome_10 : decode cX9_grainsThatCome 10 = .ok (.if_icmp .ne 13, 3) := by decide +kernel
theorem dX9_grainsThatCome_13 : decode cX9_grainsThatCome 13 = .ok (.aload_n 0, 1) := by decide +kernel
theorem dX9_grainsThatCome_14 : decode cX9_grainsThatCome 14 = .ok (.getfield 11, 3) := by decide +kernel
theorem dX9_grainsThatCome_17 : decode cX9_grainsThatCome 17 = .ok (.bipush 25, 2) := by decide +kernel
theorem dX9_grainsThatCome_19 : decode cX9_grainsThatCome 19 = .ok (.iload_n 1, 1) := by decide +kernel
theorem dX9_grainsThatCome_20 : decode cX9_grainsThatCome 20 = .ok (.iadd, 1) := by decide +kernel
theorem dX9_grainsThatCome_21 : decode cX9_grainsThatCome 21 = .ok (.iaload, 1) := by decide +kernel
theorem dX9_grainsThatCome_22 : decode cX9_grainsThatCome 22 = .ok (.ireturn, 1) := by decide +kernel
theorem dX9_grainsThatCome_23 : decode cX9_grainsThatCome 23 = .ok (.iconst 0, 1) := by decide +kernel
theorem dX9_grainsThatCome_24 : decode cX9_grainsThatCome 24 = .ok (.aload_n 0, 1) := by decide +kernel
theorem dX9_grainsThatCome_25 : decode cX9_grainsThatCome 25 = .ok (.getfield 11, 3) := by decide +kernel
theorem dX9_grainsThatCome_28 : decode cX9_grainsThatCome 28 = .ok (.bipush 25, 2) := by decide +kernel
theorem dX9_grainsThatCome_30 : decode cX9_grainsThatCome 30 = .ok (.iload_n 1, 1) := by decide +kernel
theorem dX9_grainsThatCome_31 : decode cX9_grainsThatCome 31 = .ok (.iadd, 1) := by decide +kernel
theorem dX9_grainsThatCome_32 : decode cX9_grainsThatCome 32 = .ok (.iaload, 1) := by decide +kernel
theorem dX9_grainsThatCome_33 : decode cX9_grainsThatCome 33 = .ok (.aload_n 0, 1) := by decide +kernel
theorem dX9_grainsThatCome_34 : decode cX9_grainsThatCome 34 = .ok (.getfield 11, 3) := by decide +kernel
theorem dX9_grainsThatCome_37 : decode cX9_grainsThatCome 37 = .ok (.bipush 65, 2) := by decide +kernel
theorem dX9_grainsThatCome_39 : decode cX9_grainsThatCome 39 = .ok (.iload_n 1, 1) := by decide +kernel
theorem dX9_grainsThatCome_40 : decode cX9_grainsThatCome 40 = .ok (.iadd, 1) := by decide +kernel
theorem dX9_grainsThatCome_41 : decode cX9_grainsThatCome 41 = .ok (.iaload, 1) := by decide +kernel
theorem dX9_grainsThatCome_42 : decode cX9_grainsThatCome 42 = .ok (.aload_n 0, 1) := by decide +kernel
theorem dX9_grainsThatCome_43 : decode cX9_grainsThatCome 43 = .ok (.getfield 11, 3) := by decide +kernel
theorem dX9_grainsThatCome_46 : decode cX9_grainsThatCome 46 = .ok (.bipush 75, 2) := by decide +kernel
theorem dX9_grainsThatCome_48 : decode cX9_grainsThatCome 48 = .ok (.iload_n 1, 1) := by decide +kernel
theorem dX9_grainsThatCome_49 : decode cX9_grainsThatCome 49 = .ok (.iadd, 1) := by decide +kernel
theorem dX9_grainsThatCome_50 : decode cX9_grainsThatCome 50 = .ok (.iaload, 1) := by decide +kernel
theorem dX9_grainsThatCome_51 : decode cX9_grainsThatCome 51 = .ok (.imul, 1) := by decide +kernel
theorem dX9_grainsThatCome_52 : decode cX9_grainsThatCome 52 = .ok (.isub, 1) := by decide +kernel
theorem dX9_grainsThatCome_53 : decode cX9_grainsThatCome 53 = .ok (.invokestatic 31, 3) := by decide +kernel
theorem dX9_grainsThatCome_56 : decode cX9_grainsThatCome 56 = .ok (.ireturn, 1) := by decide +kernel
theorem dX9_addTo_0 : decode cX9_addTo 0 = .ok (.aload_n 0, 1) := by decide +kernel
theorem dX9_addTo_1 : decode cX9_addTo 1 = .ok (.getfield 11, 3) := by decide +kernel
theorem dX9_addTo_4 : decode cX9_addTo 4 = .ok (.iload_n 1, 1) := by decide +kernel
theorem dX9_addTo_5 : decode cX9_addTo 5 = .ok (.sipush 9999, 3) := by decide +kernel
theorem dX9_addTo_8 : decode cX9_addTo 8 = .ok (.aload_n 0, 1) := by decide +kernel
theorem dX9_addTo_9 : decode cX9_addTo 9 = .ok (.getfield 11, 3) := by decide +kernel
theorem dX9_addTo_12 : decode cX9_addTo 12 = .ok (.iload_n 1, 1) := by decide +kernel
theorem dX9_addTo_13 : decode cX9_addTo 13 = .ok (.iaload, 1) := by decide +kernel
theorem dX9_addTo_14 : decode cX9_addTo 14 = .ok (.iload_n 2, 1) := by decide +kernel
theorem dX9_addTo_15 : decode cX9_addTo 15 = .ok (.iadd, 1) := by decide +kernel
theorem dX9_addTo_16 : decode cX9_addTo 16 = .ok (.invokestatic 37, 3) := by decide +kernel
theorem dX9_addTo_19 : decode cX9_addTo 19 = .ok (.iastore, 1) := by decide +kernel
theorem dX9_addTo_20 : decode cX9_addTo 20 = .ok (.return_, 1) := by decide +kernel
theorem dX9_lose_0 : decode cX9_lose 0 = .ok (.aload_n 0, 1) := by decide +kernel
theorem dX9_lose_1 : decode cX9_lose 1 = .ok (.getfield 11, 3) := by decide +kernel
theorem dX9_lose_4 : decode cX9_lose 4 = .ok (.bipush 25, 2) := by decide +kernel
theorem dX9_lose_6 : decode cX9_lose 6 = .ok (.iload_n 1, 1) := by decide +kernel
theorem dX9_lose_7 : decode cX9_lose 7 = .ok (.iadd, 1) := by decide +kernel
theorem dX9_lose_8 : decode cX9_lose 8 = .ok (.iconst 0, 1) := by decide +kernel
theorem dX9_lose_9 : decode cX9_lose 9 = .ok (.iastore, 1) := by decide +kernel
theorem dX9_lose_10 : decode cX9_lose 10 = .ok (.aload_n 0, 1) := by decide +kernel
theorem dX9_lose_11 : decode cX9_lose 11 = .ok (.getfield 11, 3) := by decide +kernel
theorem dX9_lose_14 : decode cX9_lose 14 = .ok (.bipush 55, 2) := by decide +kernel
theorem dX9_lose_16 : decode cX9_lose 16 = .ok (.iload_n 1, 1) := by decide +kernel
theorem dX9_lose_17 : decode cX9_lose 17 = .ok (.iadd, 1) := by decide +kernel
theorem dX9_lose_18 : decode cX9_lose 18 = .ok (.iconst (-1), 1) := by decide +kernel
theorem dX9_lose_19 : decode cX9_lose 19 = .ok (.iastore, 1) := by decide +kernel
theorem dX9_lose_20 : decode cX9_lose 20 = .ok (.aload_n 0, 1) := by decide +kernel
theorem dX9_lose_21 : decode cX9_lose 21 = .ok (.getfield 11, 3) := by decide +kernel
theorem dX9_lose_24 : decode cX9_lose 24 = .ok (.bipush 65, 2) := by decide +kernel
theorem dX9_lose_26 : decode cX9_lose 26 = .ok (.iload_n 1, 1) := by decide +kernel
theorem dX9_lose_27 : decode cX9_lose 27 = .ok (.iadd, 1) := by decide +kernel
theorem dX9_lose_28 : decode cX9_lose 28 = .ok (.iconst 0, 1) := by decide +kernel
theorem dX9_lose_29 : decode cX9_lose 29 = .ok (.iastore, 1) := by decide +kernel
theorem dX9_lose_30 : decode cX9_lose 30 = .ok (.return_, 1) := by decide +kernel
theorem dX9_steal_0 : decode cX9_steal 0 = .ok (.aload_n 0, 1) := by decide +kernel
theorem dX9_steal_1 : decode cX9_steal 1 = .ok (.iload_n 1, 1) := by decide +kernel
theorem dX9_steal_2 : decode cX9_steal 2 = .ok (.invokevirtual 28, 3) := by decide +kernel
theorem dX9_steal_5 : decode cX9_steal 5 = .ok (.ifCond .eq 8, 3) := by decide +kernel
theorem dX9_steal_8 : decode cX9_steal 8 = .ok (.aload_n 0, 1) := by decide +kernel
theorem dX9_steal_9 : decode cX9_steal 9 = .ok (.iload_n 1, 1) := by decide +kernel
theorem dX9_steal_10 : decode cX9_steal 10 = .ok (.invokevirtual 40, 3) := by decide +kernel
theorem dX9_steal_13 : decode cX9_steal 13 = .ok (.return_, 1) := by decide +kernel
theorem dX9_unpack_0 : decode cX9_unpack 0 = .ok (.aload_n 0, 1) := by decide +kernel
theorem dX9_unpack_1 : decode cX9_unpack 1 = .ok (.getfield 11, 3) := by decide +kernel
theorem dX9_unpack_4 : decode cX9_unpack 4 = .ok (.bipush 25, 2) := by decide +kernel
theorem dX9_unpack_6 : decode cX9_unpack 6 = .ok (.iload_n 1, 1) := by decide +kernel
theorem dX9_unpack_7 : decode cX9_unpack 7 = .ok (.iadd, 1) := by decide +kernel
theorem dX9_unpack_8 : decode cX9_unpack 8 = .ok (.iaload, 1) := by decide +kernel
theorem dX9_unpack_9 : decode cX9_unpack 9 = .ok (.istore_n 2, 1) := by decide +kernel
theorem dX9_unpack_10 : decode cX9_unpack 10 = .ok (.aload_n 0, 1) := by decide +kernel
theorem dX9_unpack_11 : decode cX9_unpack 11 = .ok (.aload_n 0, 1) := by decide +kernel
theorem dX9_unpack_12 : decode cX9_unpack 12 = .ok (.getfield 11, 3) := by decide +kernel
theorem dX9_unpack_15 : decode cX9_unpack 15 = .ok (.bipush 35, 2) := by decide +kernel
theorem dX9_unpack_17 : decode cX9_unpack 17 = .ok (.iload_n 1, 1) := by decide +kernel
theorem dX9_unpack_18 : decode cX9_unpack 18 = .ok (.iadd, 1) := by decide +kernel
theorem dX9_unpack_19 : decode cX9_unpack 19 = .ok (.iaload, 1) := by decide +kernel
theorem dX9_unpack_20 : decode cX9_unpack 20 = .ok (.iconst 1, 1) := by decide +kernel
theorem dX9_unpack_21 : decode cX9_unpack 21 = .ok (.if_icmp .ne 8, 3) := by decide +kernel
theorem dX9_unpack_24 : decode cX9_unpack 24 = .ok (.bipush 9, 2) := by decide +kernel
theorem dX9_unpack_26 : decode cX9_unpack 26 = .ok (.goto 4, 3) := by decide +kernel
theorem dX9_unpack_29 : decode cX9_unpack 29 = .ok (.iconst 1, 1) := by decide +kernel
theorem dX9_unpack_30 : decode cX9_unpack 30 = .ok (.aload_n 0, 1) := by decide +kernel
theorem dX9_unpack_31 : decode cX9_unpack 31 = .ok (.getfield 11, 3) := by decide +kernel
theorem dX9_unpack_34 : decode cX9_unpack 34 = .ok (.bipush 55, 2) := by decide +kernel
theorem dX9_unpack_36 : decode cX9_unpack 36 = .ok (.iload_n 1, 1) := by decide +kernel
theorem dX9_unpack_37 : decode cX9_unpack 37 = .ok (.iadd, 1) := by decide +kernel
theorem dX9_unpack_38 : decode cX9_unpack 38 = .ok (.iaload, 1) := by decide +kernel
theorem dX9_unpack_39 : decode cX9_unpack 39 = .ok (.iadd, 1) := by decide +kernel
theorem dX9_unpack_40 : decode cX9_unpack 40 = .ok (.iload_n 2, 1) := by decide +kernel
theorem dX9_unpack_41 : decode cX9_unpack 41 = .ok (.invokevirtual 44, 3) := by decide +kernel
theorem dX9_unpack_44 : decode cX9_unpack 44 = .ok (.aload_n 0, 1) := by decide +kernel
theorem dX9_unpack_45 : decode cX9_unpack 45 = .ok (.iload_n 1, 1) := by decide +kernel
theorem dX9_unpack_46 : decode cX9_unpack 46 = .ok (.invokevirtual 40, 3) := by decide +kernel
theorem dX9_unpack_49 : decode cX9_unpack 49 = .ok (.iload_n 2, 1) := by decide +kernel
theorem dX9_unpack_50 : decode cX9_unpack 50 = .ok (.ireturn, 1) := by decide +kernel
theorem dX9_pour_0 : decode cX9_pour 0 = .ok (.aload_n 0, 1) := by decide +kernel
theorem dX9_pour_1 : decode cX9_pour 1 = .ok (.getfield 11, 3) := by decide +kernel
theorem dX9_pour_4 : decode cX9_pour 4 = .ok (.bipush 25, 2) := by decide +kernel
theorem dX9_pour_6 : decode cX9_pour 6 = .ok (.iload_n 1, 1) := by decide +kernel
theorem dX9_pour_7 : decode cX9_pour 7 = .ok (.iadd, 1) := by decide +kernel
theorem dX9_pour_8 : decode cX9_pour 8 = .ok (.iaload, 1) := by decide +kernel
theorem dX9_pour_9 : decode cX9_pour 9 = .ok (.istore_n 3, 1) := by decide +kernel
theorem dX9_pour_10 : decode cX9_pour 10 = .ok (.aload_n 0, 1) := by decide +kernel
theorem dX9_pour_11 : decode cX9_pour 11 = .ok (.getfield 11, 3) := by decide +kernel
theorem dX9_pour_14 : decode cX9_pour 14 = .ok (.bipush 25, 2) := by decide +kernel
theorem dX9_pour_16 : decode cX9_pour 16 = .ok (.iload_n 2, 1) := by decide +kernel
theorem dX9_pour_17 : decode cX9_pour 17 = .ok (.iadd, 1) := by decide +kernel
theorem dX9_pour_18 : decode cX9_pour 18 = .ok (.iaload, 1) := by decide +kernel
theorem dX9_pour_19 : decode cX9_pour 19 = .ok (.istore 4, 2) := by decide +kernel
theorem dX9_pour_21 : decode cX9_pour 21 = .ok (.aload_n 0, 1) := by decide +kernel
theorem dX9_pour_22 : decode cX9_pour 22 = .ok (.getfield 11, 3) := by decide +kernel
theorem dX9_pour_25 : decode cX9_pour 25 = .ok (.bipush 35, 2) := by decide +kernel
theorem dX9_pour_27 : decode cX9_pour 27 = .ok (.iload_n 1, 1) := by decide +kernel
theorem dX9_pour_28 : decode cX9_pour 28 = .ok (.iadd, 1) := by decide +kernel
theorem dX9_pour_29 : decode cX9_pour 29 = .ok (.iaload, 1) := by decide +kernel
theorem dX9_pour_30 : decode cX9_pour 30 = .ok (.aload_n 0, 1) := by decide +kernel
theorem dX9_pour_31 : decode cX9_pour 31 = .ok (.getfield 11, 3) := by decide +kernel
theorem dX9_pour_34 : decode cX9_pour 34 = .ok (.bipush 35, 2) := by decide +kernel
theorem dX9_pour_36 : decode cX9_pour 36 = .ok (.iload_n 2, 1) := by decide +kernel
theorem dX9_pour_37 : decode cX9_pour 37 = .ok (.iadd, 1) := by decide +kernel
theorem dX9_pour_38 : decode cX9_pour 38 = .ok (.iaload, 1) := by decide +kernel
theorem dX9_pour_39 : decode cX9_pour 39 = .ok (.if_icmp .ne 24, 3) := by decide +kernel
theorem dX9_pour_42 : decode cX9_pour 42 = .ok (.aload_n 0, 1) := by decide +kernel
theorem dX9_pour_43 : decode cX9_pour 43 = .ok (.getfield 11, 3) := by decide +kernel
theorem dX9_pour_46 : decode cX9_pour 46 = .ok (.bipush 25, 2) := by decide +kernel
theorem dX9_pour_48 : decode cX9_pour 48 = .ok (.iload_n 1, 1) := by decide +kernel
theorem dX9_pour_49 : decode cX9_pour 49 = .ok (.iadd, 1) := by decide +kernel
theorem dX9_pour_50 : decode cX9_pour 50 = .ok (.bipush 99, 2) := by decide +kernel
theorem dX9_pour_52 : decode cX9_pour 52 = .ok (.iload_n 3, 1) := by decide +kernel
theorem dX9_pour_53 : decode cX9_pour 53 = .ok (.iload 4, 2) := by decide +kernel
theorem dX9_pour_55 : decode cX9_pour 55 = .ok (.iadd, 1) := by decide +kernel
theorem dX9_pour_56 : decode cX9_pour 56 = .ok (.invokestatic 37, 3) := by decide +kernel
theorem dX9_pour_59 : decode cX9_pour 59 = .ok (.iastore, 1) := by decide +kernel
theorem dX9_pour_60 : decode cX9_pour 60 = .ok (.goto 50, 3) := by decide +kernel
theorem dX9_pour_63 : decode cX9_pour 63 = .ok (.aload_n 0, 1) := by decide +kernel
theorem dX9_pour_64 : decode cX9_pour 64 = .ok (.getfield 11, 3) := by decide +kernel
theorem dX9_pour_67 : decode cX9_pour 67 = .ok (.bipush 25, 2) := by decide +kernel
theorem dX9_pour_69 : decode cX9_pour 69 = .ok (.iload_n 1, 1) := by decide +kernel
theorem dX9_pour_70 : decode cX9_pour 70 = .ok (.iadd, 1) := by decide +kernel
theorem dX9_pour_71 : decode cX9_pour 71 = .ok (.iload_n 3, 1) := by decide +kernel
theorem dX9_pour_72 : decode cX9_pour 72 = .ok (.iload 4, 2) := by decide +kernel
theorem dX9_pour_74 : decode cX9_pour 74 = .ok (.isub, 1) := by decide +kernel
theorem dX9_pour_75 : decode cX9_pour 75 = .ok (.invokestatic 48, 3) := by decide +kernel
theorem dX9_pour_78 : decode cX9_pour 78 = .ok (.iastore, 1) := by decide +kernel
theorem dX9_pour_79 : decode cX9_pour 79 = .ok (.aload_n 0, 1) := by decide +kernel
theorem dX9_pour_80 : decode cX9_pour 80 = .ok (.getfield 11, 3) := by decide +kernel
theorem dX9_pour_83 : decode cX9_pour 83 = .ok (.bipush 35, 2) := by decide +kernel
theorem dX9_pour_85 : decode cX9_pour 85 = .ok (.iload_n 1, 1) := by decide +kernel
theorem dX9_pour_86 : decode cX9_pour 86 = .ok (.iadd, 1) := by decide +kernel
theorem dX9_pour_87 : decode cX9_pour 87 = .ok (.aload_n 0, 1) := by decide +kernel
theorem dX9_pour_88 : decode cX9_pour 88 = .ok (.getfield 11, 3) := by decide +kernel
theorem dX9_pour_91 : decode cX9_pour 91 = .ok (.iload 4, 2) := by decide +kernel
theorem dX9_pour_93 : decode cX9_pour 93 = .ok (.iload_n 3, 1) := by decide +kernel
theorem dX9_pour_94 : decode cX9_pour 94 = .ok (.if_icmp .le 10, 3) := by decide +kernel
theorem dX9_pour_97 : decode cX9_pour 97 = .ok (.bipush 35, 2) := by decide +kernel
theorem dX9_pour_99 : decode cX9_pour 99 = .ok (.iload_n 2, 1) := by decide +kernel
theorem dX9_pour_100 : decode cX9_pour 100 = .ok (.iadd, 1) := by decide +kernel
theorem dX9_pour_101 : decode cX9_pour 101 = .ok (.goto 7, 3) := by decide +kernel
theorem dX9_pour_104 : decode cX9_pour 104 = .ok (.bipush 35, 2) := by decide +kernel
theorem dX9_pour_106 : decode cX9_pour 106 = .ok (.iload_n 1, 1) := by decide +kernel
theorem dX9_pour_107 : decode cX9_pour 107 = .ok (.iadd, 1) := by decide +kernel
theorem dX9_pour_108 : decode cX9_pour 108 = .ok (.iaload, 1) := by decide +kernel
theorem dX9_pour_109 : decode cX9_pour 109 = .ok (.iastore, 1) := by decide +kernel
theorem dX9_pour_110 : decode cX9_pour 110 = .ok (.aload_n 0, 1) := by decide +kernel
theorem dX9_pour_111 : decode cX9_pour 111 = .ok (.iload_n 2, 1) := by decide +kernel
theorem dX9_pour_112 : decode cX9_pour 112 = .ok (.invokevirtual 40, 3) := by decide +kernel
theorem dX9_pour_115 : decode cX9_pour 115 = .ok (.return_, 1) := by decide +kernel
theorem dX9_share_0 : decode cX9_share 0 = .ok (.iload_n 1, 1) := by decide +kernel
theorem dX9_share_1 : decode cX9_share 1 = .ok (.ifCond .gt 4, 3) := by decide +kernel
theorem dX9_share_4 : decode cX9_share 4 = .ok (.return_, 1) := by decide +kernel
theorem dX9_share_5 : decode cX9_share 5 = .ok (.aload_n 0, 1) := by decide +kernel
theorem dX9_share_6 : decode cX9_share 6 = .ok (.iconst 1, 1) := by decide +kernel
theorem dX9_share_7 : decode cX9_share 7 = .ok (.iload_n 1, 1) := by decide +kernel
theorem dX9_share_8 : decode cX9_share 8 = .ok (.invokevirtual 52, 3) := by decide +kernel
theorem dX9_share_11 : decode cX9_share 11 = .ok (.iload_n 1, 1) := by decide +kernel
theorem dX9_share_12 : decode cX9_share 12 = .ok (.idiv, 1) := by decide +kernel
theorem dX9_share_13 : decode cX9_share 13 = .ok (.istore_n 2, 1) := by decide +kernel
theorem dX9_share_14 : decode cX9_share 14 = .ok (.aload_n 0, 1) := by decide +kernel
theorem dX9_share_15 : decode cX9_share 15 = .ok (.bipush 9, 2) := by decide +kernel
theorem dX9_share_17 : decode cX9_share 17 = .ok (.iload_n 1, 1) := by decide +kernel
theorem dX9_share_18 : decode cX9_share 18 = .ok (.invokevirtual 52, 3) := by decide +kernel
theorem dX9_share_21 : decode cX9_share 21 = .ok (.iload_n 1, 1) := by decide +kernel
theorem dX9_share_22 : decode cX9_share 22 = .ok (.idiv, 1) := by decide +kernel
theorem dX9_share_23 : decode cX9_share 23 = .ok (.istore_n 3, 1) := by decide +kernel
theorem dX9_share_24 : decode cX9_share 24 = .ok (.iconst 0, 1) := by decide +kernel
theorem dX9_share_25 : decode cX9_share 25 = .ok (.istore 4, 2) := by decide +kernel
theorem dX9_share_27 : decode cX9_share 27 = .ok (.iload 4, 2) := by decide +kernel
theorem dX9_share_29 : decode cX9_share 29 = .ok (.iload_n 1, 1) := by decide +kernel
theorem dX9_share_30 : decode cX9_share 30 = .ok (.if_icmp .ge 30, 3) := by decide +kernel
theorem dX9_share_33 : decode cX9_share 33 = .ok (.aload_n 0, 1) := by decide +kernel
theorem dX9_share_34 : decode cX9_share 34 = .ok (.getfield 11, 3) := by decide +kernel
theorem dX9_share_37 : decode cX9_share 37 = .ok (.iconst 1, 1) := by decide +kernel
theorem dX9_share_38 : decode cX9_share 38 = .ok (.iload 4, 2) := by decide +kernel
theorem dX9_share_40 : decode cX9_share 40 = .ok (.iadd, 1) := by decide +kernel
theorem dX9_share_41 : decode cX9_share 41 = .ok (.iload_n 2, 1) := by decide +kernel
theorem dX9_share_42 : decode cX9_share 42 = .ok (.iastore, 1) := by decide +kernel
theorem dX9_share_43 : decode cX9_share 43 = .ok (.aload_n 0, 1) := by decide +kernel
theorem dX9_share_44 : decode cX9_share 44 = .ok (.getfield 11, 3) := by decide +kernel
theorem dX9_share_47 : decode cX9_share 47 = .ok (.bipush 9, 2) := by decide +kernel
theorem dX9_share_49 : decode cX9_share 49 = .ok (.iload 4, 2) := by decide +kernel
theorem dX9_share_51 : decode cX9_share 51 = .ok (.iadd, 1) := by decide +kernel
theorem dX9_share_52 : decode cX9_share 52 = .ok (.iload_n 3, 1) := by decide +kernel
theorem dX9_share_53 : decode cX9_share 53 = .ok (.iastore, 1) := by decide +kernel
theorem dX9_share_54 : decode cX9_share 54 = .ok (.iinc 4 1, 3) := by decide +kernel
theorem dX9_share_57 : decode cX9_share 57 = .ok (.goto (-30), 3) := by decide +kernel
theorem dX9_share_60 : decode cX9_share 60 = .ok (.return_, 1) := by decide +kernel
theorem dX9_moveCrates_0 : decode cX9_moveCrates 0 = .ok (.iconst 0, 1) := by decide +kernel
theorem dX9_moveCrates_1 : decode cX9_moveCrates 1 = .ok (.istore_n 2, 1) := by decide +kernel
theorem dX9_moveCrates_2 : decode cX9_moveCrates 2 = .ok (.iload_n 2, 1) := by decide +kernel
theorem dX9_moveCrates_3 : decode cX9_moveCrates 3 = .ok (.iload_n 1, 1) := by decide +kernel
theorem dX9_moveCrates_4 : decode cX9_moveCrates 4 = .ok (.if_icmp .ge 78, 3) := by decide +kernel
theorem dX9_moveCrates_7 : decode cX9_moveCrates 7 = .ok (.aload_n 0, 1) := by decide +kernel
theorem dX9_moveCrates_8 : decode cX9_moveCrates 8 = .ok (.getfield 11, 3) := by decide +kernel
theorem dX9_moveCrates_11 : decode cX9_moveCrates 11 = .ok (.bipush 65, 2) := by decide +kernel
theorem dX9_moveCrates_13 : decode cX9_moveCrates 13 = .ok (.iload_n 2, 1) := by decide +kernel
theorem dX9_moveCrates_14 : decode cX9_moveCrates 14 = .ok (.iadd, 1) := by decide +kernel
theorem dX9_moveCrates_15 : decode cX9_moveCrates 15 = .ok (.iaload, 1) := by decide +kernel
theorem dX9_moveCrates_16 : decode cX9_moveCrates 16 = .ok (.ifCond .le 60, 3) := by decide +kernel
theorem dX9_moveCrates_19 : decode cX9_moveCrates 19 = .ok (.aload_n 0, 1) := by decide +kernel
theorem dX9_moveCrates_20 : decode cX9_moveCrates 20 = .ok (.getfield 11, 3) := by decide +kernel
theorem dX9_moveCrates_23 : decode cX9_moveCrates 23 = .ok (.bipush 45, 2) := by decide +kernel
theorem dX9_moveCrates_25 : decode cX9_moveCrates 25 = .ok (.iload_n 2, 1) := by decide +kernel
theorem dX9_moveCrates_26 : decode cX9_moveCrates 26 = .ok (.iadd, 1) := by decide +kernel
theorem dX9_moveCrates_27 : decode cX9_moveCrates 27 = .ok (.iaload, 1) := by decide +kernel
theorem dX9_moveCrates_28 : decode cX9_moveCrates 28 = .ok (.ifCond .ne 35, 3) := by decide +kernel
theorem dX9_moveCrates_31 : decode cX9_moveCrates 31 = .ok (.aload_n 0, 1) := by decide +kernel
theorem dX9_moveCrates_32 : decode cX9_moveCrates 32 = .ok (.getfield 11, 3) := by decide +kernel
theorem dX9_moveCrates_35 : decode cX9_moveCrates 35 = .ok (.bipush 25, 2) := by decide +kernel
theorem dX9_moveCrates_37 : decode cX9_moveCrates 37 = .ok (.iload_n 2, 1) := by decide +kernel
theorem dX9_moveCrates_38 : decode cX9_moveCrates 38 = .ok (.iadd, 1) := by decide +kernel
theorem dX9_moveCrates_39 : decode cX9_moveCrates 39 = .ok (.iconst 0, 1) := by decide +kernel
theorem dX9_moveCrates_40 : decode cX9_moveCrates 40 = .ok (.aload_n 0, 1) := by decide +kernel
theorem dX9_moveCrates_41 : decode cX9_moveCrates 41 = .ok (.getfield 11, 3) := by decide +kernel
theorem dX9_moveCrates_44 : decode cX9_moveCrates 44 = .ok (.bipush 25, 2) := by decide +kernel
theorem dX9_moveCrates_46 : decode cX9_moveCrates 46 = .ok (.iload_n 2, 1) := by decide +kernel
theorem dX9_moveCrates_47 : decode cX9_moveCrates 47 = .ok (.iadd, 1) := by decide +kernel
theorem dX9_moveCrates_48 : decode cX9_moveCrates 48 = .ok (.iaload, 1) := by decide +kernel
theorem dX9_moveCrates_49 : decode cX9_moveCrates 49 = .ok (.aload_n 0, 1) := by decide +kernel
theorem dX9_moveCrates_50 : decode cX9_moveCrates 50 = .ok (.getfield 11, 3) := by decide +kernel
theorem dX9_moveCrates_53 : decode cX9_moveCrates 53 = .ok (.bipush 75, 2) := by decide +kernel
theorem dX9_moveCrates_55 : decode cX9_moveCrates 55 = .ok (.iload_n 2, 1) := by decide +kernel
theorem dX9_moveCrates_56 : decode cX9_moveCrates 56 = .ok (.iadd, 1) := by decide +kernel
theorem dX9_moveCrates_57 : decode cX9_moveCrates 57 = .ok (.iaload, 1) := by decide +kernel
theorem dX9_moveCrates_58 : decode cX9_moveCrates 58 = .ok (.isub, 1) := by decide +kernel
theorem dX9_moveCrates_59 : decode cX9_moveCrates 59 = .ok (.invokestatic 31, 3) := by decide +kernel
theorem dX9_moveCrates_62 : decode cX9_moveCrates 62 = .ok (.iastore, 1) := by decide +kernel
theorem dX9_moveCrates_63 : decode cX9_moveCrates 63 = .ok (.aload_n 0, 1) := by decide +kernel
theorem dX9_moveCrates_64 : decode cX9_moveCrates 64 = .ok (.getfield 11, 3) := by decide +kernel
theorem dX9_moveCrates_67 : decode cX9_moveCrates 67 = .ok (.bipush 65, 2) := by decide +kernel
theorem dX9_moveCrates_69 : decode cX9_moveCrates 69 = .ok (.iload_n 2, 1) := by decide +kernel
theorem dX9_moveCrates_70 : decode cX9_moveCrates 70 = .ok (.iadd, 1) := by decide +kernel
theorem dX9_moveCrates_71 : decode cX9_moveCrates 71 = .ok (.dup2, 1) := by decide +kernel
theorem dX9_moveCrates_72 : decode cX9_moveCrates 72 = .ok (.iaload, 1) := by decide +kernel
theorem dX9_moveCrates_73 : decode cX9_moveCrates 73 = .ok (.iconst 1, 1) := by decide +kernel
theorem dX9_moveCrates_74 : decode cX9_moveCrates 74 = .ok (.isub, 1) := by decide +kernel
theorem dX9_moveCrates_75 : decode cX9_moveCrates 75 = .ok (.iastore, 1) := by decide +kernel
theorem dX9_moveCrates_76 : decode cX9_moveCrates 76 = .ok (.iinc 2 1, 3) := by decide +kernel
theorem dX9_moveCrates_79 : decode cX9_moveCrates 79 = .ok (.goto (-77), 3) := by decide +kernel
theorem dX9_moveCrates_82 : decode cX9_moveCrates 82 = .ok (.return_, 1) := by decide +kernel
theorem dX9_settle_0 : decode cX9_settle 0 = .ok (.iload_n 3, 1) := by decide +kernel
theorem dX9_settle_1 : decode cX9_settle 1 = .ok (.ifCond .eq 41, 3) := by decide +kernel
theorem dX9_settle_4 : decode cX9_settle 4 = .ok (.aload_n 0, 1) := by decide +kernel
theorem dX9_settle_5 : decode cX9_settle 5 = .ok (.getfield 11, 3) := by decide +kernel
theorem dX9_settle_8 : decode cX9_settle 8 = .ok (.bipush 17, 2) := by decide +kernel
theorem dX9_settle_10 : decode cX9_settle 10 = .ok (.iload_n 1, 1) := by decide +kernel
theorem dX9_settle_11 : decode cX9_settle 11 = .ok (.iadd, 1) := by decide +kernel
theorem dX9_settle_12 : decode cX9_settle 12 = .ok (.dup2, 1) := by decide +kernel
theorem dX9_settle_13 : decode cX9_settle 13 = .ok (.iaload, 1) := by decide +kernel
theorem dX9_settle_14 : decode cX9_settle 14 = .ok (.iload_n 2, 1) := by decide +kernel
theorem dX9_settle_15 : decode cX9_settle 15 = .ok (.iadd, 1) := by decide +kernel
theorem dX9_settle_16 : decode cX9_settle 16 = .ok (.iastore, 1) := by decide +kernel
theorem dX9_settle_17 : decode cX9_settle 17 = .ok (.aload_n 0, 1) := by decide +kernel
theorem dX9_settle_18 : decode cX9_settle 18 = .ok (.getfield 11, 3) := by decide +kernel
theorem dX9_settle_21 : decode cX9_settle 21 = .ok (.iconst 1, 1) := by decide +kernel
theorem dX9_settle_22 : decode cX9_settle 22 = .ok (.iload_n 1, 1) := by decide +kernel
theorem dX9_settle_23 : decode cX9_settle 23 = .ok (.iadd, 1) := by decide +kernel
theorem dX9_settle_24 : decode cX9_settle 24 = .ok (.iconst 0, 1) := by decide +kernel
theorem dX9_settle_25 : decode cX9_settle 25 = .ok (.aload_n 0, 1) := by decide +kernel
theorem dX9_settle_26 : decode cX9_settle 26 = .ok (.getfield 11, 3) := by decide +kernel
theorem dX9_settle_29 : decode cX9_settle 29 = .ok (.iconst 1, 1) := by decide +kernel
theorem dX9_settle_30 : decode cX9_settle 30 = .ok (.iload_n 1, 1) := by decide +kernel
theorem dX9_settle_31 : decode cX9_settle 31 = .ok (.iadd, 1) := by decide +kernel
theorem dX9_settle_32 : decode cX9_settle 32 = .ok (.iaload, 1) := by decide +kernel
theorem dX9_settle_33 : decode cX9_settle 33 = .ok (.iload_n 2, 1) := by decide +kernel
theorem dX9_settle_34 : decode cX9_settle 34 = .ok (.isub, 1) := by decide +kernel
theorem dX9_settle_35 : decode cX9_settle 35 = .ok (.invokestatic 31, 3) := by decide +kernel
theorem dX9_settle_38 : decode cX9_settle 38 = .ok (.iastore, 1) := by decide +kernel
theorem dX9_settle_39 : decode cX9_settle 39 = .ok (.goto 26, 3) := by decide +kernel
theorem dX9_settle_42 : decode cX9_settle 42 = .ok (.aload_n 0, 1) := by decide +kernel
theorem dX9_settle_43 : decode cX9_settle 43 = .ok (.getfield 11, 3) := by decide +kernel
theorem dX9_settle_46 : decode cX9_settle 46 = .ok (.bipush 17, 2) := by decide +kernel
theorem dX9_settle_48 : decode cX9_settle 48 = .ok (.iload_n 1, 1) := by decide +kernel
theorem dX9_settle_49 : decode cX9_settle 49 = .ok (.iadd, 1) := by decide +kernel
theorem dX9_settle_50 : decode cX9_settle 50 = .ok (.dup2, 1) := by decide +kernel
theorem dX9_settle_51 : decode cX9_settle 51 = .ok (.iaload, 1) := by decide +kernel
theorem dX9_settle_52 : decode cX9_settle 52 = .ok (.iload_n 2, 1) := by decide +kernel
theorem dX9_settle_53 : decode cX9_settle 53 = .ok (.isub, 1) := by decide +kernel
theorem dX9_settle_54 : decode cX9_settle 54 = .ok (.iastore, 1) := by decide +kernel
theorem dX9_settle_55 : decode cX9_settle 55 = .ok (.aload_n 0, 1) := by decide +kernel
theorem dX9_settle_56 : decode cX9_settle 56 = .ok (.iconst 1, 1) := by decide +kernel
theorem dX9_settle_57 : decode cX9_settle 57 = .ok (.iload_n 1, 1) := by decide +kernel
theorem dX9_settle_58 : decode cX9_settle 58 = .ok (.iadd, 1) := by decide +kernel
theorem dX9_settle_59 : decode cX9_settle 59 = .ok (.iload_n 2, 1) := by decide +kernel
theorem dX9_settle_60 : decode cX9_settle 60 = .ok (.iconst 2, 1) := by decide +kernel
theorem dX9_settle_61 : decode cX9_settle 61 = .ok (.idiv, 1) := by decide +kernel
theorem dX9_settle_62 : decode cX9_settle 62 = .ok (.invokevirtual 44, 3) := by decide +kernel
theorem dX9_settle_65 : decode cX9_settle 65 = .ok (.aload_n 0, 1) := by decide +kernel
theorem dX9_settle_66 : decode cX9_settle 66 = .ok (.getfield 11, 3) := by decide +kernel
theorem dX9_settle_69 : decode cX9_settle 69 = .ok (.iconst 1, 1) := by decide +kernel
theorem dX9_settle_70 : decode cX9_settle 70 = .ok (.iload_n 1, 1) := by decide +kernel
theorem dX9_settle_71 : decode cX9_settle 71 = .ok (.iadd, 1) := by decide +kernel
theorem dX9_settle_72 : decode cX9_settle 72 = .ok (.iaload, 1) := by decide +kernel
theorem dX9_settle_73 : decode cX9_settle 73 = .ok (.aload_n 0, 1) := by decide +kernel
theorem dX9_settle_74 : decode cX9_settle 74 = .ok (.getfield 11, 3) := by decide +kernel
theorem dX9_settle_77 : decode cX9_settle 77 = .ok (.bipush 9, 2) := by decide +kernel
theorem dX9_settle_79 : decode cX9_settle 79 = .ok (.iload_n 1, 1) := by decide +kernel
theorem dX9_settle_80 : decode cX9_settle 80 = .ok (.iadd, 1) := by decide +kernel
theorem dX9_settle_81 : decode cX9_settle 81 = .ok (.iaload, 1) := by decide +kernel
theorem dX9_settle_82 : decode cX9_settle 82 = .ok (.invokestatic 37, 3) := by decide +kernel
theorem dX9_settle_85 : decode cX9_settle 85 = .ok (.istore 4, 2) := by decide +kernel
theorem dX9_settle_87 : decode cX9_settle 87 = .ok (.aload_n 0, 1) := by decide +kernel
theorem dX9_settle_88 : decode cX9_settle 88 = .ok (.getfield 11, 3) := by decide +kernel
theorem dX9_settle_91 : decode cX9_settle 91 = .ok (.iconst 1, 1) := by decide +kernel
theorem dX9_settle_92 : decode cX9_settle 92 = .ok (.iload_n 1, 1) := by decide +kernel
theorem dX9_settle_93 : decode cX9_settle 93 = .ok (.iadd, 1) := by decide +kernel
theorem dX9_settle_94 : decode cX9_settle 94 = .ok (.dup2, 1) := by decide +kernel
theorem dX9_settle_95 : decode cX9_settle 95 = .ok (.iaload, 1) := by decide +kernel
theorem dX9_settle_96 : decode cX9_settle 96 = .ok (.iload 4, 2) := by decide +kernel
theorem dX9_settle_98 : decode cX9_settle 98 = .ok (.isub, 1) := by decide +kernel
theorem dX9_settle_99 : decode cX9_settle 99 = .ok (.iastore, 1) := by decide +kernel
theorem dX9_settle_100 : decode cX9_settle 100 = .ok (.aload_n 0, 1) := by decide +kernel
theorem dX9_settle_101 : decode cX9_settle 101 = .ok (.getfield 11, 3) := by decide +kernel
theorem dX9_settle_104 : decode cX9_settle 104 = .ok (.bipush 9, 2) := by decide +kernel
theorem dX9_settle_106 : decode cX9_settle 106 = .ok (.iload_n 1, 1) := by decide +kernel
theorem dX9_settle_107 : decode cX9_settle 107 = .ok (.iadd, 1) := by decide +kernel
theorem dX9_settle_108 : decode cX9_settle 108 = .ok (.dup2, 1) := by decide +kernel
theorem dX9_settle_109 : decode cX9_settle 109 = .ok (.iaload, 1) := by decide +kernel
theorem dX9_settle_110 : decode cX9_settle 110 = .ok (.iload 4, 2) := by decide +kernel
theorem dX9_settle_112 : decode cX9_settle 112 = .ok (.isub, 1) := by decide +kernel
theorem dX9_settle_113 : decode cX9_settle 113 = .ok (.iastore, 1) := by decide +kernel
theorem dX9_settle_114 : decode cX9_settle 114 = .ok (.return_, 1) := by decide +kernel
theorem dX9_play_0 : decode cX9_play 0 = .ok (.aload_n 0, 1) := by decide +kernel
theorem dX9_play_1 : decode cX9_play 1 = .ok (.iconst 1, 1) := by decide +kernel
theorem dX9_play_2 : decode cX9_play 2 = .ok (.iload_n 2, 1) := by decide +kernel
theorem dX9_play_3 : decode cX9_play 3 = .ok (.iadd, 1) := by decide +kernel
theorem dX9_play_4 : decode cX9_play 4 = .ok (.aload_n 1, 1) := by decide +kernel
theorem dX9_play_5 : decode cX9_play 5 = .ok (.getfield 55, 3) := by decide +kernel
theorem dX9_play_8 : decode cX9_play 8 = .ok (.iload_n 2, 1) := by decide +kernel
theorem dX9_play_9 : decode cX9_play 9 = .ok (.iaload, 1) := by decide +kernel
theorem dX9_play_10 : decode cX9_play 10 = .ok (.invokevirtual 44, 3) := by decide +kernel
theorem dX9_play_13 : decode cX9_play 13 = .ok (.aload_n 1, 1) := by decide +kernel
theorem dX9_play_14 : decode cX9_play 14 = .ok (.getfield 60, 3) := by decide +kernel
theorem dX9_play_17 : decode cX9_play 17 = .ok (.aload_n 1, 1) := by decide +kernel
theorem dX9_play_18 : decode cX9_play 18 = .ok (.aload_n 0, 1) := by decide +kernel
theorem dX9_play_19 : decode cX9_play 19 = .ok (.iload_n 2, 1) := by decide +kernel
theorem dX9_play_20 : decode cX9_play 20 = .ok (.invokevirtual 64, 3) := by decide +kernel
theorem dX9_play_23 : decode cX9_play 23 = .ok (.bipush 7, 2) := by decide +kernel
theorem dX9_play_25 : decode cX9_play 25 = .ok (.if_icmp .lt 7, 3) := by decide +kernel
theorem dX9_play_28 : decode cX9_play 28 = .ok (.iconst 1, 1) := by decide +kernel
theorem dX9_play_29 : decode cX9_play 29 = .ok (.goto 4, 3) := by decide +kernel
theorem dX9_play_32 : decode cX9_play 32 = .ok (.iconst 0, 1) := by decide +kernel
theorem dX9_play_33 : decode cX9_play 33 = .ok (.istore_n 3, 1) := by decide +kernel
theorem dX9_play_34 : decode cX9_play 34 = .ok (.aload_n 0, 1) := by decide +kernel
theorem dX9_play_35 : decode cX9_play 35 = .ok (.iload_n 2, 1) := by decide +kernel
theorem dX9_play_36 : decode cX9_play 36 = .ok (.aload_n 1, 1) := by decide +kernel
theorem dX9_play_37 : decode cX9_play 37 = .ok (.getfield 70, 3) := by decide +kernel
theorem dX9_play_40 : decode cX9_play 40 = .ok (.iload_n 2, 1) := by decide +kernel
theorem dX9_play_41 : decode cX9_play 41 = .ok (.iaload, 1) := by decide +kernel
theorem dX9_play_42 : decode cX9_play 42 = .ok (.iload_n 3, 1) := by decide +kernel
theorem dX9_play_43 : decode cX9_play 43 = .ok (.invokevirtual 73, 3) := by decide +kernel
theorem dX9_play_46 : decode cX9_play 46 = .ok (.iload_n 3, 1) := by decide +kernel
theorem dX9_play_47 : decode cX9_play 47 = .ok (.ireturn, 1) := by decide +kernel
theorem dX9_passDay_0 : decode cX9_passDay 0 = .ok (.aload_n 0, 1) := by decide +kernel
theorem dX9_passDay_1 : decode cX9_passDay 1 = .ok (.aload_n 1, 1) := by decide +kernel
theorem dX9_passDay_2 : decode cX9_passDay 2 = .ok (.getfield 77, 3) := by decide +kernel
theorem dX9_passDay_5 : decode cX9_passDay 5 = .ok (.invokevirtual 81, 3) := by decide +kernel
theorem dX9_passDay_8 : decode cX9_passDay 8 = .ok (.iconst 0, 1) := by decide +kernel
theorem dX9_passDay_9 : decode cX9_passDay 9 = .ok (.istore_n 2, 1) := by decide +kernel
theorem dX9_passDay_10 : decode cX9_passDay 10 = .ok (.iload_n 2, 1) := by decide +kernel
theorem dX9_passDay_11 : decode cX9_passDay 11 = .ok (.aload_n 1, 1) := by decide +kernel
theorem dX9_passDay_12 : decode cX9_passDay 12 = .ok (.getfield 84, 3) := by decide +kernel
theorem dX9_passDay_15 : decode cX9_passDay 15 = .ok (.if_icmp .ge 16, 3) := by decide +kernel
theorem dX9_passDay_18 : decode cX9_passDay 18 = .ok (.aload_n 0, 1) := by decide +kernel
theorem dX9_passDay_19 : decode cX9_passDay 19 = .ok (.aload_n 1, 1) := by decide +kernel
theorem dX9_passDay_20 : decode cX9_passDay 20 = .ok (.iload_n 2, 1) := by decide +kernel
theorem dX9_passDay_21 : decode cX9_passDay 21 = .ok (.invokevirtual 87, 3) := by decide +kernel
theorem dX9_passDay_24 : decode cX9_passDay 24 = .ok (.pop, 1) := by decide +kernel
theorem dX9_passDay_25 : decode cX9_passDay 25 = .ok (.iinc 2 1, 3) := by decide +kernel
theorem dX9_passDay_28 : decode cX9_passDay 28 = .ok (.goto (-18), 3) := by decide +kernel
theorem dX9_passDay_31 : decode cX9_passDay 31 = .ok (.aload_n 0, 1) := by decide +kernel
theorem dX9_passDay_32 : decode cX9_passDay 32 = .ok (.getfield 11, 3) := by decide +kernel
theorem dX9_passDay_35 : decode cX9_passDay 35 = .ok (.iconst 0, 1) := by decide +kernel
theorem dX9_passDay_36 : decode cX9_passDay 36 = .ok (.dup2, 1) := by decide +kernel
theorem dX9_passDay_37 : decode cX9_passDay 37 = .ok (.iaload, 1) := by decide +kernel
theorem dX9_passDay_38 : decode cX9_passDay 38 = .ok (.iconst 1, 1) := by decide +kernel
theorem dX9_passDay_39 : decode cX9_passDay 39 = .ok (.iadd, 1) := by decide +kernel
theorem dX9_passDay_40 : decode cX9_passDay 40 = .ok (.iastore, 1) := by decide +kernel
theorem dX9_passDay_41 : decode cX9_passDay 41 = .ok (.return_, 1) := by decide +kernel
theorem dX9_passDays_0 : decode cX9_passDays 0 = .ok (.iconst 0, 1) := by decide +kernel
theorem dX9_passDays_1 : decode cX9_passDays 1 = .ok (.istore_n 3, 1) := by decide +kernel
theorem dX9_passDays_2 : decode cX9_passDays 2 = .ok (.iload_n 3, 1) := by decide +kernel
theorem dX9_passDays_3 : decode cX9_passDays 3 = .ok (.iload_n 2, 1) := by decide +kernel
theorem dX9_passDays_4 : decode cX9_passDays 4 = .ok (.if_icmp .ge 14, 3) := by decide +kernel
theorem dX9_passDays_7 : decode cX9_passDays 7 = .ok (.aload_n 0, 1) := by decide +kernel
theorem dX9_passDays_8 : decode cX9_passDays 8 = .ok (.aload_n 1, 1) := by decide +kernel
theorem dX9_passDays_9 : decode cX9_passDays 9 = .ok (.invokevirtual 91, 3) := by decide +kernel
theorem dX9_passDays_12 : decode cX9_passDays 12 = .ok (.iinc 3 1, 3) := by decide +kernel
theorem dX9_passDays_15 : decode cX9_passDays 15 = .ok (.goto (-13), 3) := by decide +kernel
theorem dX9_passDays_18 : decode cX9_passDays 18 = .ok (.return_, 1) := by decide +kernel
theorem dX9_passTown_0 : decode cX9_passTown 0 = .ok (.aload_n 0, 1) := by decide +kernel
theorem dX9_passTown_1 : decode cX9_passTown 1 = .ok (.aload_n 1, 1) := by decide +kernel
theorem dX9_passTown_2 : decode cX9_passTown 2 = .ok (.getfield 77, 3) := by decide +kernel
theorem dX9_passTown_5 : decode cX9_passTown 5 = .ok (.invokevirtual 81, 3) := by decide +kernel
theorem dX9_passTown_8 : decode cX9_passTown 8 = .ok (.aload_n 0, 1) := by decide +kernel
theorem dX9_passTown_9 : decode cX9_passTown 9 = .ok (.aload_n 1, 1) := by decide +kernel
theorem dX9_passTown_10 : decode cX9_passTown 10 = .ok (.iload_n 2, 1) := by decide +kernel
theorem dX9_passTown_11 : decode cX9_passTown 11 = .ok (.invokevirtual 87, 3) := by decide +kernel
theorem dX9_passTown_14 : decode cX9_passTown 14 = .ok (.istore_n 3, 1) := by decide +kernel
theorem dX9_passTown_15 : decode cX9_passTown 15 = .ok (.aload_n 0, 1) := by decide +kernel
theorem dX9_passTown_16 : decode cX9_passTown 16 = .ok (.getfield 11, 3) := by decide +kernel
theorem dX9_passTown_19 : decode cX9_passTown 19 = .ok (.iconst 0, 1) := by decide +kernel
theorem dX9_passTown_20 : decode cX9_passTown 20 = .ok (.dup2, 1) := by decide +kernel
theorem dX9_passTown_21 : decode cX9_passTown 21 = .ok (.iaload, 1) := by decide +kernel
theorem dX9_passTown_22 : decode cX9_passTown 22 = .ok (.iconst 1, 1) := by decide +kernel
theorem dX9_passTown_23 : decode cX9_passTown 23 = .ok (.iadd, 1) := by decide +kernel
theorem dX9_passTown_24 : decode cX9_passTown 24 = .ok (.iastore, 1) := by decide +kernel
theorem dX9_passTown_25 : decode cX9_passTown 25 = .ok (.iload_n 3, 1) := by decide +kernel
theorem dX9_passTown_26 : decode cX9_passTown 26 = .ok (.ireturn, 1) := by decide +kernel
theorem dX9_passDayByDraws_0 : decode cX9_passDayByDraws 0 = .ok (.aload_n 0, 1) := by decide +kernel
theorem dX9_passDayByDraws_1 : decode cX9_passDayByDraws 1 = .ok (.aload_n 1, 1) := by decide +kernel
theorem dX9_passDayByDraws_2 : decode cX9_passDayByDraws 2 = .ok (.getfield 77, 3) := by decide +kernel
theorem dX9_passDayByDraws_5 : decode cX9_passDayByDraws 5 = .ok (.invokevirtual 81, 3) := by decide +kernel
theorem dX9_passDayByDraws_8 : decode cX9_passDayByDraws 8 = .ok (.iconst 0, 1) := by decide +kernel
theorem dX9_passDayByDraws_9 : decode cX9_passDayByDraws 9 = .ok (.istore_n 3, 1) := by decide +kernel
theorem dX9_passDayByDraws_10 : decode cX9_passDayByDraws 10 = .ok (.iload_n 3, 1) := by decide +kernel
theorem dX9_passDayByDraws_11 : decode cX9_passDayByDraws 11 = .ok (.aload_n 1, 1) := by decide +kernel
theorem dX9_passDayByDraws_12 : decode cX9_passDayByDraws 12 = .ok (.getfield 84, 3) := by decide +kernel
theorem dX9_passDayByDraws_15 : decode cX9_passDayByDraws 15 = .ok (.if_icmp .ge 61, 3) := by decide +kernel
theorem dX9_passDayByDraws_18 : decode cX9_passDayByDraws 18 = .ok (.aload_n 0, 1) := by decide +kernel
theorem dX9_passDayByDraws_19 : decode cX9_passDayByDraws 19 = .ok (.iconst 1, 1) := by decide +kernel
theorem dX9_passDayByDraws_20 : decode cX9_passDayByDraws 20 = .ok (.iload_n 3, 1) := by decide +kernel
theorem dX9_passDayByDraws_21 : decode cX9_passDayByDraws 21 = .ok (.iadd, 1) := by decide +kernel
theorem dX9_passDayByDraws_22 : decode cX9_passDayByDraws 22 = .ok (.aload_n 1, 1) := by decide +kernel
theorem dX9_passDayByDraws_23 : decode cX9_passDayByDraws 23 = .ok (.getfield 55, 3) := by decide +kernel
theorem dX9_passDayByDraws_26 : decode cX9_passDayByDraws 26 = .ok (.iload_n 3, 1) := by decide +kernel
theorem dX9_passDayByDraws_27 : decode cX9_passDayByDraws 27 = .ok (.iaload, 1) := by decide +kernel
theorem dX9_passDayByDraws_28 : decode cX9_passDayByDraws 28 = .ok (.invokevirtual 44, 3) := by decide +kernel
theorem dX9_passDayByDraws_31 : decode cX9_passDayByDraws 31 = .ok (.aload_n 2, 1) := by decide +kernel
theorem dX9_passDayByDraws_32 : decode cX9_passDayByDraws 32 = .ok (.bipush 12, 2) := by decide +kernel
theorem dX9_passDayByDraws_34 : decode cX9_passDayByDraws 34 = .ok (.invokevirtual 95, 3) := by decide +kernel
theorem dX9_passDayByDraws_37 : decode cX9_passDayByDraws 37 = .ok (.aload_n 1, 1) := by decide +kernel
theorem dX9_passDayByDraws_38 : decode cX9_passDayByDraws 38 = .ok (.getfield 60, 3) := by decide +kernel
theorem dX9_passDayByDraws_41 : decode cX9_passDayByDraws 41 = .ok (.aload_n 1, 1) := by decide +kernel
theorem dX9_passDayByDraws_42 : decode cX9_passDayByDraws 42 = .ok (.aload_n 0, 1) := by decide +kernel
theorem dX9_passDayByDraws_43 : decode cX9_passDayByDraws 43 = .ok (.iload_n 3, 1) := by decide +kernel
theorem dX9_passDayByDraws_44 : decode cX9_passDayByDraws 44 = .ok (.invokevirtual 64, 3) := by decide +kernel
theorem dX9_passDayByDraws_47 : decode cX9_passDayByDraws 47 = .ok (.if_icmp .ge 7, 3) := by decide +kernel
theorem dX9_passDayByDraws_50 : decode cX9_passDayByDraws 50 = .ok (.iconst 1, 1) := by decide +kernel
theorem dX9_passDayByDraws_51 : decode cX9_passDayByDraws 51 = .ok (.goto 4, 3) := by decide +kernel
theorem dX9_passDayByDraws_54 : decode cX9_passDayByDraws 54 = .ok (.iconst 0, 1) := by decide +kernel
theorem dX9_passDayByDraws_55 : decode cX9_passDayByDraws 55 = .ok (.istore 4, 2) := by decide +kernel
theorem dX9_passDayByDraws_57 : decode cX9_passDayByDraws 57 = .ok (.aload_n 0, 1) := by decide +kernel
theorem dX9_passDayByDraws_58 : decode cX9_passDayByDraws 58 = .ok (.iload_n 3, 1) := by decide +kernel
theorem dX9_passDayByDraws_59 : decode cX9_passDayByDraws 59 = .ok (.aload_n 1, 1) := by decide +kernel
theorem dX9_passDayByDraws_60 : decode cX9_passDayByDraws 60 = .ok (.getfield 70, 3) := by decide +kernel
theorem dX9_passDayByDraws_63 : decode cX9_passDayByDraws 63 = .ok (.iload_n 3, 1) := by decide +kernel
theorem dX9_passDayByDraws_64 : decode cX9_passDayByDraws 64 = .ok (.iaload, 1) := by decide +kernel
theorem dX9_passDayByDraws_65 : decode cX9_passDayByDraws 65 = .ok (.iload 4, 2) := by decide +kernel
theorem dX9_passDayByDraws_67 : decode cX9_passDayByDraws 67 = .ok (.invokevirtual 73, 3) := by decide +kernel
theorem dX9_passDayByDraws_70 : decode cX9_passDayByDraws 70 = .ok (.iinc 3 1, 3) := by decide +kernel
theorem dX9_passDayByDraws_73 : decode cX9_passDayByDraws 73 = .ok (.goto (-63), 3) := by decide +kernel
theorem dX9_passDayByDraws_76 : decode cX9_passDayByDraws 76 = .ok (.aload_n 0, 1) := by decide +kernel
theorem dX9_passDayByDraws_77 : decode cX9_passDayByDraws 77 = .ok (.getfield 11, 3) := by decide +kernel
theorem dX9_passDayByDraws_80 : decode cX9_passDayByDraws 80 = .ok (.iconst 0, 1) := by decide +kernel
theorem dX9_passDayByDraws_81 : decode cX9_passDayByDraws 81 = .ok (.dup2, 1) := by decide +kernel
theorem dX9_passDayByDraws_82 : decode cX9_passDayByDraws 82 = .ok (.iaload, 1) := by decide +kernel
theorem dX9_passDayByDraws_83 : decode cX9_passDayByDraws 83 = .ok (.iconst 1, 1) := by decide +kernel
theorem dX9_passDayByDraws_84 : decode cX9_passDayByDraws 84 = .ok (.iadd, 1) := by decide +kernel
theorem dX9_passDayByDraws_85 : decode cX9_passDayByDraws 85 = .ok (.iastore, 1) := by decide +kernel
theorem dX9_passDayByDraws_86 : decode cX9_passDayByDraws 86 = .ok (.return_, 1) := by decide +kernel
theorem dX9_wonIn_0 : decode cX9_wonIn 0 = .ok (.iconst 0, 1) := by decide +kernel
theorem dX9_wonIn_1 : decode cX9_wonIn 1 = .ok (.istore_n 3, 1) := by decide +kernel
theorem dX9_wonIn_2 : decode cX9_wonIn 2 = .ok (.iload_n 3, 1) := by decide +kernel
theorem dX9_wonIn_3 : decode cX9_wonIn 3 = .ok (.iload_n 2, 1) := by decide +kernel
theorem dX9_wonIn_4 : decode cX9_wonIn 4 = .ok (.if_icmp .ge 14, 3) := by decide +kernel
theorem dX9_wonIn_7 : decode cX9_wonIn 7 = .ok (.aload_n 0, 1) := by decide +kernel
theorem dX9_wonIn_8 : decode cX9_wonIn 8 = .ok (.aload_n 1, 1) := by decide +kernel
theorem dX9_wonIn_9 : decode cX9_wonIn 9 = .ok (.invokevirtual 91, 3) := by decide +kernel
theorem dX9_wonIn_12 : decode cX9_wonIn 12 = .ok (.iinc 3 1, 3) := by decide +kernel
theorem dX9_wonIn_15 : decode cX9_wonIn 15 = .ok (.goto (-13), 3) := by decide +kernel
theorem dX9_wonIn_18 : decode cX9_wonIn 18 = .ok (.aload_n 0, 1) := by decide +kernel
theorem dX9_wonIn_19 : decode cX9_wonIn 19 = .ok (.bipush 17, 2) := by decide +kernel
theorem dX9_wonIn_21 : decode cX9_wonIn 21 = .ok (.aload_n 1, 1) := by decide +kernel
theorem dX9_wonIn_22 : decode cX9_wonIn 22 = .ok (.getfield 84, 3) := by decide +kernel
theorem dX9_wonIn_25 : decode cX9_wonIn 25 = .ok (.invokevirtual 52, 3) := by decide +kernel
theorem dX9_wonIn_28 : decode cX9_wonIn 28 = .ok (.ireturn, 1) := by decide +kernel
theorem dX10_power_0 : decode cX10_power 0 = .ok (.iconst 1, 1) := by decide +kernel
theorem dX10_power_1 : decode cX10_power 1 = .ok (.istore_n 1, 1) := by decide +kernel
theorem dX10_power_2 : decode cX10_power 2 = .ok (.iconst 0, 1) := by decide +kernel
theorem dX10_power_3 : decode cX10_power 3 = .ok (.istore_n 2, 1) := by decide +kernel
theorem dX10_power_4 : decode cX10_power 4 = .ok (.iload_n 2, 1) := by decide +kernel
theorem dX10_power_5 : decode cX10_power 5 = .ok (.iload_n 0, 1) := by decide +kernel
theorem dX10_power_6 : decode cX10_power 6 = .ok (.if_icmp .ge 14, 3) := by decide +kernel
theorem dX10_power_9 : decode cX10_power 9 = .ok (.iload_n 1, 1) := by decide +kernel
theorem dX10_power_10 : decode cX10_power 10 = .ok (.bipush 12, 2) := by decide +kernel
theorem dX10_power_12 : decode cX10_power 12 = .ok (.imul, 1) := by decide +kernel
theorem dX10_power_13 : decode cX10_power 13 = .ok (.istore_n 1, 1) := by decide +kernel
theorem dX10_power_14 : decode cX10_power 14 = .ok (.iinc 2 1, 3) := by decide +kernel
theorem dX10_power_17 : decode cX10_power 17 = .ok (.goto (-13), 3) := by decide +kernel
theorem dX10_power_20 : decode cX10_power 20 = .ok (.iload_n 1, 1) := by decide +kernel
theorem dX10_power_21 : decode cX10_power 21 = .ok (.ireturn, 1) := by decide +kernel
theorem dX10_toGoal_0 : decode cX10_toGoal 0 = .ok (.iload_n 0, 1) := by decide +kernel
theorem dX10_toGoal_1 : decode cX10_toGoal 1 = .ok (.iload_n 2, 1) := by decide +kernel
theorem dX10_toGoal_2 : decode cX10_toGoal 2 = .ok (.if_icmp .lt 8, 3) := by decide +kernel
theorem dX10_toGoal_5 : decode cX10_toGoal 5 = .ok (.iload_n 3, 1) := by decide +kernel
theorem dX10_toGoal_6 : decode cX10_toGoal 6 = .ok (.invokestatic 9, 3) := by decide +kernel
theorem dX10_toGoal_9 : decode cX10_toGoal 9 = .ok (.ireturn, 1) := by decide +kernel
theorem dX10_toGoal_10 : decode cX10_toGoal 10 = .ok (.iload_n 0, 1) := by decide +kernel
theorem dX10_toGoal_11 : decode cX10_toGoal 11 = .ok (.ifCond .le 7, 3) := by decide +kernel
theorem dX10_toGoal_14 : decode cX10_toGoal 14 = .ok (.iload_n 3, 1) := by decide +kernel
theorem dX10_toGoal_15 : decode cX10_toGoal 15 = .ok (.ifCond .gt 5, 3) := by decide +kernel
theorem dX10_toGoal_18 : decode cX10_toGoal 18 = .ok (.iconst 0, 1) := by decide +kernel
theorem dX10_toGoal_19 : decode cX10_toGoal 19 = .ok (.ireturn, 1) := by decide +kernel
theorem dX10_toGoal_20 : decode cX10_toGoal 20 = .ok (.iload_n 1, 1) := by decide +kernel
theorem dX10_toGoal_21 : decode cX10_toGoal 21 = .ok (.iload_n 0, 1) := by decide +kernel
theorem dX10_toGoal_22 : decode cX10_toGoal 22 = .ok (.iconst 1, 1) := by decide +kernel
theorem dX10_toGoal_23 : decode cX10_toGoal 23 = .ok (.iadd, 1) := by decide +kernel
theorem dX10_toGoal_24 : decode cX10_toGoal 24 = .ok (.iload_n 1, 1) := by decide +kernel
theorem dX10_toGoal_25 : decode cX10_toGoal 25 = .ok (.iload_n 2, 1) := by decide +kernel
theorem dX10_toGoal_26 : decode cX10_toGoal 26 = .ok (.iload_n 3, 1) := by decide +kernel
theorem dX10_toGoal_27 : decode cX10_toGoal 27 = .ok (.iconst 1, 1) := by decide +kernel
theorem dX10_toGoal_28 : decode cX10_toGoal 28 = .ok (.isub, 1) := by decide +kernel
theorem dX10_toGoal_29 : decode cX10_toGoal 29 = .ok (.invokestatic 15, 3) := by decide +kernel
theorem dX10_toGoal_32 : decode cX10_toGoal 32 = .ok (.imul, 1) := by decide +kernel
theorem dX10_toGoal_33 : decode cX10_toGoal 33 = .ok (.bipush 12, 2) := by decide +kernel
theorem dX10_toGoal_35 : decode cX10_toGoal 35 = .ok (.iload_n 1, 1) := by decide +kernel
theorem dX10_toGoal_36 : decode cX10_toGoal 36 = .ok (.isub, 1) := by decide +kernel
theorem dX10_toGoal_37 : decode cX10_toGoal 37 = .ok (.iload_n 0, 1) := by decide +kernel
theorem dX10_toGoal_38 : decode cX10_toGoal 38 = .ok (.iconst 1, 1) := by decide +kernel
theorem dX10_toGoal_39 : decode cX10_toGoal 39 = .ok (.isub, 1) := by decide +kernel
theorem dX10_toGoal_40 : decode cX10_toGoal 40 = .ok (.iload_n 1, 1) := by decide +kernel
theorem dX10_toGoal_41 : decode cX10_toGoal 41 = .ok (.iload_n 2, 1) := by decide +kernel
theorem dX10_toGoal_42 : decode cX10_toGoal 42 = .ok (.iload_n 3, 1) := by decide +kernel
theorem dX10_toGoal_43 : decode cX10_toGoal 43 = .ok (.iconst 1, 1) := by decide +kernel
theorem dX10_toGoal_44 : decode cX10_toGoal 44 = .ok (.isub, 1) := by decide +kernel
theorem dX10_toGoal_45 : decode cX10_toGoal 45 = .ok (.invokestatic 15, 3) := by decide +kernel
theorem dX10_toGoal_48 : decode cX10_toGoal 48 = .ok (.imul, 1) := by decide +kernel
theorem dX10_toGoal_49 : decode cX10_toGoal 49 = .ok (.iadd, 1) := by decide +kernel
theorem dX10_toGoal_50 : decode cX10_toGoal 50 = .ok (.ireturn, 1) := by decide +kernel
theorem dX10_best_0 : decode cX10_best 0 = .ok (.iload_n 0, 1) := by decide +kernel
theorem dX10_best_1 : decode cX10_best 1 = .ok (.iload_n 2, 1) := by decide +kernel
theorem dX10_best_2 : decode cX10_best 2 = .ok (.invokestatic 9, 3) := by decide +kernel
theorem dX10_best_5 : decode cX10_best 5 = .ok (.imul, 1) := by decide +kernel
theorem dX10_best_6 : decode cX10_best 6 = .ok (.istore_n 3, 1) := by decide +kernel
theorem dX10_best_7 : decode cX10_best 7 = .ok (.iload_n 0, 1) := by decide +kernel
theorem dX10_best_8 : decode cX10_best 8 = .ok (.ifCond .le 7, 3) := by decide +kernel
theorem dX10_best_11 : decode cX10_best 11 = .ok (.iload_n 2, 1) := by decide +kernel
theorem dX10_best_12 : decode cX10_best 12 = .ok (.ifCond .gt 5, 3) := by decide +kernel
theorem dX10_best_15 : decode cX10_best 15 = .ok (.iload_n 3, 1) := by decide +kernel
theorem dX10_best_16 : decode cX10_best 16 = .ok (.ireturn, 1) := by decide +kernel
theorem dX10_best_17 : decode cX10_best 17 = .ok (.iload_n 1, 1) := by decide +kernel
theorem dX10_best_18 : decode cX10_best 18 = .ok (.iload_n 0, 1) := by decide +kernel
theorem dX10_best_19 : decode cX10_best 19 = .ok (.iconst 1, 1) := by decide +kernel
theorem dX10_best_20 : decode cX10_best 20 = .ok (.iadd, 1) := by decide +kernel
theorem dX10_best_21 : decode cX10_best 21 = .ok (.iload_n 1, 1) := by decide +kernel
theorem dX10_best_22 : decode cX10_best 22 = .ok (.iload_n 2, 1) := by decide +kernel
theorem dX10_best_23 : decode cX10_best 23 = .ok (.iconst 1, 1) := by decide +kernel
theorem dX10_best_24 : decode cX10_best 24 = .ok (.isub, 1) := by decide +kernel
theorem dX10_best_25 : decode cX10_best 25 = .ok (.invokestatic 19, 3) := by decide +kernel
theorem dX10_best_28 : decode cX10_best 28 = .ok (.imul, 1) := by decide +kernel
theorem dX10_best_29 : decode cX10_best 29 = .ok (.bipush 12, 2) := by decide +kernel
theorem dX10_best_31 : decode cX10_best 31 = .ok (.iload_n 1, 1) := by decide +kernel
theorem dX10_best_32 : decode cX10_best 32 = .ok (.isub, 1) := by decide +kernel
theorem dX10_best_33 : decode cX10_best 33 = .ok (.iload_n 0, 1) := by decide +kernel
theorem dX10_best_34 : decode cX10_best 34 = .ok (.iconst 1, 1) := by decide +kernel
theorem dX10_best_35 : decode cX10_best 35 = .ok (.isub, 1) := by decide +kernel
theorem dX10_best_36 : decode cX10_best 36 = .ok (.iload_n 1, 1) := by decide +kernel
theorem dX10_best_37 : decode cX10_best 37 = .ok (.iload_n 2, 1) := by decide +kernel
theorem dX10_best_38 : decode cX10_best 38 = .ok (.iconst 1, 1) := by decide +kernel
theorem dX10_best_39 : decode cX10_best 39 = .ok (.isub, 1) := by decide +kernel
theorem dX10_best_40 : decode cX10_best 40 = .ok (.invokestatic 19, 3) := by decide +kernel
theorem dX10_best_43 : decode cX10_best 43 = .ok (.imul, 1) := by decide +kernel
theorem dX10_best_44 : decode cX10_best 44 = .ok (.iadd, 1) := by decide +kernel
theorem dX10_best_45 : decode cX10_best 45 = .ok (.istore 4, 2) := by decide +kernel
theorem dX10_best_47 : decode cX10_best 47 = .ok (.iload_n 3, 1) := by decide +kernel
theorem dX10_best_48 : decode cX10_best 48 = .ok (.iload 4, 2) := by decide +kernel
theorem dX10_best_50 : decode cX10_best 50 = .ok (.invokestatic 23, 3) := by decide +kernel
theorem dX10_best_53 : decode cX10_best 53 = .ok (.ireturn, 1) := by decide +kernel
