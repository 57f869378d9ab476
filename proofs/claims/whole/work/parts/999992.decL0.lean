theorem dL_province_0 : decode cL_province 0 = .ok (.aload_n 2, 1) := by decide +kernel
theorem dL_province_1 : decode cL_province 1 = .ok (.iconst 0, 1) := by decide +kernel
theorem dL_province_2 : decode cL_province 2 = .ok (.aload_n 0, 1) := by decide +kernel
theorem dL_province_3 : decode cL_province 3 = .ok (.iload_n 1, 1) := by decide +kernel
theorem dL_province_4 : decode cL_province 4 = .ok (.invokevirtual 7, 3) := by decide +kernel
theorem dL_province_7 : decode cL_province 7 = .ok (.i2l, 1) := by decide +kernel
theorem dL_province_8 : decode cL_province 8 = .ok (.lastore, 1) := by decide +kernel
theorem dL_province_9 : decode cL_province 9 = .ok (.goto 6, 3) := by decide +kernel
theorem dL_province_12 : decode cL_province 12 = .ok (.astore_n 3, 1) := by decide +kernel
theorem dL_province_13 : decode cL_province 13 = .ok (.iconst 1, 1) := by decide +kernel
theorem dL_province_14 : decode cL_province 14 = .ok (.ireturn, 1) := by decide +kernel
theorem dL_province_15 : decode cL_province 15 = .ok (.iconst 0, 1) := by decide +kernel
theorem dL_province_16 : decode cL_province 16 = .ok (.ireturn, 1) := by decide +kernel
theorem dL_count_0 : decode cL_count 0 = .ok (.aload_n 2, 1) := by decide +kernel
theorem dL_count_1 : decode cL_count 1 = .ok (.iconst 0, 1) := by decide +kernel
theorem dL_count_2 : decode cL_count 2 = .ok (.aload_n 0, 1) := by decide +kernel
theorem dL_count_3 : decode cL_count 3 = .ok (.iload_n 1, 1) := by decide +kernel
theorem dL_count_4 : decode cL_count 4 = .ok (.invokevirtual 15, 3) := by decide +kernel
theorem dL_count_7 : decode cL_count 7 = .ok (.i2l, 1) := by decide +kernel
theorem dL_count_8 : decode cL_count 8 = .ok (.lastore, 1) := by decide +kernel
theorem dL_count_9 : decode cL_count 9 = .ok (.goto 6, 3) := by decide +kernel
theorem dL_count_12 : decode cL_count 12 = .ok (.astore_n 3, 1) := by decide +kernel
theorem dL_count_13 : decode cL_count 13 = .ok (.iconst 1, 1) := by decide +kernel
theorem dL_count_14 : decode cL_count 14 = .ok (.ireturn, 1) := by decide +kernel
theorem dL_count_15 : decode cL_count 15 = .ok (.iconst 0, 1) := by decide +kernel
theorem dL_count_16 : decode cL_count 16 = .ok (.ireturn, 1) := by decide +kernel
theorem dL_town_0 : decode cL_town 0 = .ok (.aload_n 3, 1) := by decide +kernel
theorem dL_town_1 : decode cL_town 1 = .ok (.iconst 0, 1) := by decide +kernel
theorem dL_town_2 : decode cL_town 2 = .ok (.aload_n 0, 1) := by decide +kernel
theorem dL_town_3 : decode cL_town 3 = .ok (.iload_n 1, 1) := by decide +kernel
theorem dL_town_4 : decode cL_town 4 = .ok (.iload_n 2, 1) := by decide +kernel
theorem dL_town_5 : decode cL_town 5 = .ok (.invokevirtual 20, 3) := by decide +kernel
theorem dL_town_8 : decode cL_town 8 = .ok (.i2l, 1) := by decide +kernel
theorem dL_town_9 : decode cL_town 9 = .ok (.lastore, 1) := by decide +kernel
theorem dL_town_10 : decode cL_town 10 = .ok (.goto 7, 3) := by decide +kernel
theorem dL_town_13 : decode cL_town 13 = .ok (.astore 4, 2) := by decide +kernel
theorem dL_town_15 : decode cL_town 15 = .ok (.iconst 1, 1) := by decide +kernel
theorem dL_town_16 : decode cL_town 16 = .ok (.ireturn, 1) := by decide +kernel
theorem dL_town_17 : decode cL_town 17 = .ok (.iconst 0, 1) := by decide +kernel
theorem dL_town_18 : decode cL_town 18 = .ok (.ireturn, 1) := by decide +kernel
theorem dL_crate_0 : decode cL_crate 0 = .ok (.aload_n 3, 1) := by decide +kernel
theorem dL_crate_1 : decode cL_crate 1 = .ok (.iconst 0, 1) := by decide +kernel
theorem dL_crate_2 : decode cL_crate 2 = .ok (.aload_n 0, 1) := by decide +kernel
theorem dL_crate_3 : decode cL_crate 3 = .ok (.iload_n 1, 1) := by decide +kernel
theorem dL_crate_4 : decode cL_crate 4 = .ok (.iload_n 2, 1) := by decide +kernel
theorem dL_crate_5 : decode cL_crate 5 = .ok (.invokevirtual 24, 3) := by decide +kernel
theorem dL_crate_8 : decode cL_crate 8 = .ok (.i2l, 1) := by decide +kernel
theorem dL_crate_9 : decode cL_crate 9 = .ok (.lastore, 1) := by decide +kernel
theorem dL_crate_10 : decode cL_crate 10 = .ok (.goto 7, 3) := by decide +kernel
theorem dL_crate_13 : decode cL_crate 13 = .ok (.astore 4, 2) := by decide +kernel
theorem dL_crate_15 : decode cL_crate 15 = .ok (.iconst 1, 1) := by decide +kernel
theorem dL_crate_16 : decode cL_crate 16 = .ok (.ireturn, 1) := by decide +kernel
theorem dL_crate_17 : decode cL_crate 17 = .ok (.iconst 0, 1) := by decide +kernel
theorem dL_crate_18 : decode cL_crate 18 = .ok (.ireturn, 1) := by decide +kernel
theorem dL_send_0 : decode cL_send 0 = .ok (.aload_n 3, 1) := by decide +kernel
theorem dL_send_1 : decode cL_send 1 = .ok (.iconst 0, 1) := by decide +kernel
theorem dL_send_2 : decode cL_send 2 = .ok (.aload_n 0, 1) := by decide +kernel
theorem dL_send_3 : decode cL_send 3 = .ok (.iload_n 1, 1) := by decide +kernel
theorem dL_send_4 : decode cL_send 4 = .ok (.iload_n 2, 1) := by decide +kernel
theorem dL_send_5 : decode cL_send 5 = .ok (.invokevirtual 27, 3) := by decide +kernel
theorem dL_send_8 : decode cL_send 8 = .ok (.i2l, 1) := by decide +kernel
theorem dL_send_9 : decode cL_send 9 = .ok (.lastore, 1) := by decide +kernel
theorem dL_send_10 : decode cL_send 10 = .ok (.goto 7, 3) := by decide +kernel
theorem dL_send_13 : decode cL_send 13 = .ok (.astore 4, 2) := by decide +kernel
theorem dL_send_15 : decode cL_send 15 = .ok (.iconst 1, 1) := by decide +kernel
theorem dL_send_16 : decode cL_send 16 = .ok (.ireturn, 1) := by decide +kernel
theorem dL_send_17 : decode cL_send 17 = .ok (.iconst 0, 1) := by decide +kernel
theorem dL_send_18 : decode cL_send 18 = .ok (.ireturn, 1) := by decide +kernel
theorem dL_open_0 : decode cL_open 0 = .ok (.aload_n 2, 1) := by decide +kernel
theorem dL_open_1 : decode cL_open 1 = .ok (.iconst 0, 1) := by decide +kernel
theorem dL_open_2 : decode cL_open 2 = .ok (.aload_n 0, 1) := by decide +kernel
theorem dL_open_3 : decode cL_open 3 = .ok (.iload_n 1, 1) := by decide +kernel
theorem dL_open_4 : decode cL_open 4 = .ok (.invokevirtual 30, 3) := by decide +kernel
theorem dL_open_7 : decode cL_open 7 = .ok (.i2l, 1) := by decide +kernel
theorem dL_open_8 : decode cL_open 8 = .ok (.lastore, 1) := by decide +kernel
theorem dL_open_9 : decode cL_open 9 = .ok (.goto 6, 3) := by decide +kernel
theorem dL_open_12 : decode cL_open 12 = .ok (.astore_n 3, 1) := by decide +kernel
theorem dL_open_13 : decode cL_open 13 = .ok (.iconst 1, 1) := by decide +kernel
theorem dL_open_14 : decode cL_open 14 = .ok (.ireturn, 1) := by decide +kernel
theorem dL_open_15 : decode cL_open 15 = .ok (.iconst 0, 1) := by decide +kernel
theorem dL_open_16 : decode cL_open 16 = .ok (.ireturn, 1) := by decide +kernel
theorem dL_cat_0 : decode cL_cat 0 = .ok (.aload_n 3, 1) := by decide +kernel
theorem dL_cat_1 : decode cL_cat 1 = .ok (.iconst 0, 1) := by decide +kernel
theorem dL_cat_2 : decode cL_cat 2 = .ok (.aload_n 0, 1) := by decide +kernel
theorem dL_cat_3 : decode cL_cat 3 = .ok (.iload_n 1, 1) := by decide +kernel
theorem dL_cat_4 : decode cL_cat 4 = .ok (.iload_n 2, 1) := by decide +kernel
theorem dL_cat_5 : decode cL_cat 5 = .ok (.invokevirtual 33, 3) := by decide +kernel
theorem dL_cat_8 : decode cL_cat 8 = .ok (.ifCond .eq 7, 3) := by decide +kernel
theorem dL_cat_11 : decode cL_cat 11 = .ok (.lconst 1, 1) := by decide +kernel
theorem dL_cat_12 : decode cL_cat 12 = .ok (.goto 4, 3) := by decide +kernel
theorem dL_cat_15 : decode cL_cat 15 = .ok (.lconst 0, 1) := by decide +kernel
theorem dL_cat_16 : decode cL_cat 16 = .ok (.lastore, 1) := by decide +kernel
theorem dL_cat_17 : decode cL_cat 17 = .ok (.goto 7, 3) := by decide +kernel
theorem dL_cat_20 : decode cL_cat 20 = .ok (.astore 4, 2) := by decide +kernel
theorem dL_cat_22 : decode cL_cat 22 = .ok (.iconst 1, 1) := by decide +kernel
theorem dL_cat_23 : decode cL_cat 23 = .ok (.ireturn, 1) := by decide +kernel
theorem dL_cat_24 : decode cL_cat 24 = .ok (.iconst 0, 1) := by decide +kernel
theorem dL_cat_25 : decode cL_cat 25 = .ok (.ireturn, 1) := by decide +kernel
theorem dL_mix_0 : decode cL_mix 0 = .ok (.aload_n 3, 1) := by decide +kernel
theorem dL_mix_1 : decode cL_mix 1 = .ok (.iconst 0, 1) := by decide +kernel
theorem dL_mix_2 : decode cL_mix 2 = .ok (.aload_n 0, 1) := by decide +kernel
theorem dL_mix_3 : decode cL_mix 3 = .ok (.iload_n 1, 1) := by decide +kernel
theorem dL_mix_4 : decode cL_mix 4 = .ok (.iload_n 2, 1) := by decide +kernel
theorem dL_mix_5 : decode cL_mix 5 = .ok (.invokevirtual 37, 3) := by decide +kernel
theorem dL_mix_8 : decode cL_mix 8 = .ok (.i2l, 1) := by decide +kernel
theorem dL_mix_9 : decode cL_mix 9 = .ok (.lastore, 1) := by decide +kernel
theorem dL_mix_10 : decode cL_mix 10 = .ok (.goto 7, 3) := by decide +kernel
theorem dL_mix_13 : decode cL_mix 13 = .ok (.astore 4, 2) := by decide +kernel
theorem dL_mix_15 : decode cL_mix 15 = .ok (.iconst 1, 1) := by decide +kernel
theorem dL_mix_16 : decode cL_mix 16 = .ok (.ireturn, 1) := by decide +kernel
theorem dL_mix_17 : decode cL_mix 17 = .ok (.iconst 0, 1) := by decide +kernel
theorem dL_mix_18 : decode cL_mix 18 = .ok (.ireturn, 1) := by decide +kernel
theorem dL_then_0 : decode cL_then 0 = .ok (.aload 4, 2) := by decide +kernel
theorem dL_then_2 : decode cL_then 2 = .ok (.iconst 0, 1) := by decide +kernel
theorem dL_then_3 : decode cL_then 3 = .ok (.aload_n 0, 1) := by decide +kernel
theorem dL_then_4 : decode cL_then 4 = .ok (.iload_n 1, 1) := by decide +kernel
theorem dL_then_5 : decode cL_then 5 = .ok (.iload_n 2, 1) := by decide +kernel
theorem dL_then_6 : decode cL_then 6 = .ok (.iload_n 3, 1) := by decide +kernel
theorem dL_then_7 : decode cL_then 7 = .ok (.invokevirtual 40, 3) := by decide +kernel
theorem dL_then_10 : decode cL_then 10 = .ok (.i2l, 1) := by decide +kernel
theorem dL_then_11 : decode cL_then 11 = .ok (.lastore, 1) := by decide +kernel
theorem dL_then_12 : decode cL_then 12 = .ok (.goto 11, 3) := by decide +kernel
theorem dL_then_15 : decode cL_then 15 = .ok (.astore 5, 2) := by decide +kernel
theorem dL_then_17 : decode cL_then 17 = .ok (.iconst 1, 1) := by decide +kernel
theorem dL_then_18 : decode cL_then 18 = .ok (.ireturn, 1) := by decide +kernel
theorem dL_then_19 : decode cL_then 19 = .ok (.astore 5, 2) := by decide +kernel
theorem dL_then_21 : decode cL_then 21 = .ok (.iconst 2, 1) := by decide +kernel
theorem dL_then_22 : decode cL_then 22 = .ok (.ireturn, 1) := by decide +kernel
theorem dL_then_23 : decode cL_then 23 = .ok (.iconst 0, 1) := by decide +kernel
theorem dL_then_24 : decode cL_then 24 = .ok (.ireturn, 1) := by decide +kernel
theorem dL_even_0 : decode cL_even 0 = .ok (.aload_n 2, 1) := by decide +kernel
theorem dL_even_1 : decode cL_even 1 = .ok (.iconst 0, 1) := by decide +kernel
theorem dL_even_2 : decode cL_even 2 = .ok (.aload_n 0, 1) := by decide +kernel
theorem dL_even_3 : decode cL_even 3 = .ok (.iload_n 1, 1) := by decide +kernel
theorem dL_even_4 : decode cL_even 4 = .ok (.invokevirtual 44, 3) := by decide +kernel
theorem dL_even_7 : decode cL_even 7 = .ok (.i2l, 1) := by decide +kernel
theorem dL_even_8 : decode cL_even 8 = .ok (.lastore, 1) := by decide +kernel
theorem dL_even_9 : decode cL_even 9 = .ok (.goto 6, 3) := by decide +kernel
theorem dL_even_12 : decode cL_even 12 = .ok (.astore_n 3, 1) := by decide +kernel
theorem dL_even_13 : decode cL_even 13 = .ok (.iconst 1, 1) := by decide +kernel
theorem dL_even_14 : decode cL_even 14 = .ok (.ireturn, 1) := by decide +kernel
theorem dL_even_15 : decode cL_even 15 = .ok (.iconst 0, 1) := by decide +kernel
theorem dL_even_16 : decode cL_even 16 = .ok (.ireturn, 1) := by decide +kernel
theorem dL_out_0 : decode cL_out 0 = .ok (.aload_n 2, 1) := by decide +kernel
theorem dL_out_1 : decode cL_out 1 = .ok (.iconst 0, 1) := by decide +kernel
theorem dL_out_2 : decode cL_out 2 = .ok (.aload_n 0, 1) := by decide +kernel
theorem dL_out_3 : decode cL_out 3 = .ok (.iload_n 1, 1) := by decide +kernel
theorem dL_out_4 : decode cL_out 4 = .ok (.invokevirtual 47, 3) := by decide +kernel
theorem dL_out_7 : decode cL_out 7 = .ok (.i2l, 1) := by decide +kernel
theorem dL_out_8 : decode cL_out 8 = .ok (.lastore, 1) := by decide +kernel
theorem dL_out_9 : decode cL_out 9 = .ok (.goto 6, 3) := by decide +kernel
theorem dL_out_12 : decode cL_out 12 = .ok (.astore_n 3, 1) := by decide +kernel
theorem dL_out_13 : decode cL_out 13 = .ok (.iconst 1, 1) := by decide +kernel
theorem dL_out_14 : decode cL_out 14 = .ok (.ireturn, 1) := by decide +kernel
theorem dL_out_15 : decode cL_out 15 = .ok (.iconst 0, 1) := by decide +kernel
theorem dL_out_16 : decode cL_out 16 = .ok (.ireturn, 1) := by decide +kernel
theorem dL_luckiest_0 : decode cL_luckiest 0 = .ok (.aload_n 2, 1) := by decide +kernel
theorem dL_luckiest_1 : decode cL_luckiest 1 = .ok (.iconst 0, 1) := by decide +kernel
theorem dL_luckiest_2 : decode cL_luckiest 2 = .ok (.aload_n 0, 1) := by decide +kernel
theorem dL_luckiest_3 : decode cL_luckiest 3 = .ok (.iload_n 1, 1) := by decide +kernel
theorem dL_luckiest_4 : decode cL_luckiest 4 = .ok (.invokevirtual 50, 3) := by decide +kernel
theorem dL_luckiest_7 : decode cL_luckiest 7 = .ok (.i2l, 1) := by decide +kernel
theorem dL_luckiest_8 : decode cL_luckiest 8 = .ok (.lastore, 1) := by decide +kernel
theorem dL_luckiest_9 : decode cL_luckiest 9 = .ok (.goto 6, 3) := by decide +kernel
theorem dL_luckiest_12 : decode cL_luckiest 12 = .ok (.astore_n 3, 1) := by decide +kernel
theorem dL_luckiest_13 : decode cL_luckiest 13 = .ok (.iconst 1, 1) := by decide +kernel
theorem dL_luckiest_14 : decode cL_luckiest 14 = .ok (.ireturn, 1) := by decide +kernel
theorem dL_luckiest_15 : decode cL_luckiest 15 = .ok (.iconst 0, 1) := by decide +kernel
theorem dL_luckiest_16 : decode cL_luckiest 16 = .ok (.ireturn, 1) := by decide +kernel
theorem dL_far_0 : decode cL_far 0 = .ok (.aload_n 3, 1) := by decide +kernel
theorem dL_far_1 : decode cL_far 1 = .ok (.iconst 0, 1) := by decide +kernel
theorem dL_far_2 : decode cL_far 2 = .ok (.aload_n 0, 1) := by decide +kernel
theorem dL_far_3 : decode cL_far 3 = .ok (.iload_n 1, 1) := by decide +kernel
theorem dL_far_4 : decode cL_far 4 = .ok (.iload_n 2, 1) := by decide +kernel
theorem dL_far_5 : decode cL_far 5 = .ok (.invokevirtual 53, 3) := by decide +kernel
theorem dL_far_8 : decode cL_far 8 = .ok (.i2l, 1) := by decide +kernel
theorem dL_far_9 : decode cL_far 9 = .ok (.lastore, 1) := by decide +kernel
theorem dL_far_10 : decode cL_far 10 = .ok (.goto 7, 3) := by decide +kernel
theorem dL_far_13 : decode cL_far 13 = .ok (.astore 4, 2) := by decide +kernel
theorem dL_far_15 : decode cL_far 15 = .ok (.iconst 1, 1) := by decide +kernel
theorem dL_far_16 : decode cL_far 16 = .ok (.ireturn, 1) := by decide +kernel
theorem dL_far_17 : decode cL_far 17 = .ok (.iconst 0, 1) := by decide +kernel
theorem dL_far_18 : decode cL_far 18 = .ok (.ireturn, 1) := by decide +kernel
theorem dL_leak_0 : decode cL_leak 0 = .ok (.aload_n 3, 1) := by decide +kernel
theorem dL_leak_1 : decode cL_leak 1 = .ok (.iconst 0, 1) := by decide +kernel
theorem dL_leak_2 : decode cL_leak 2 = .ok (.aload_n 0, 1) := by decide +kernel
theorem dL_leak_3 : decode cL_leak 3 = .ok (.iload_n 1, 1) := by decide +kernel
theorem dL_leak_4 : decode cL_leak 4 = .ok (.iload_n 2, 1) := by decide +kernel
theorem dL_leak_5 : decode cL_leak 5 = .ok (.invokevirtual 56, 3) := by decide +kernel
theorem dL_leak_8 : decode cL_leak 8 = .ok (.i2l, 1) := by decide +kernel
theorem dL_leak_9 : decode cL_leak 9 = .ok (.lastore, 1) := by decide +kernel
theorem dL_leak_10 : decode cL_leak 10 = .ok (.goto 7, 3) := by decide +kernel
theorem dL_leak_13 : decode cL_leak 13 = .ok (.astore 4, 2) := by decide +kernel
theorem dL_leak_15 : decode cL_leak 15 = .ok (.iconst 1, 1) := by decide +kernel
theorem dL_leak_16 : decode cL_leak 16 = .ok (.ireturn, 1) := by decide +kernel
theorem dL_leak_17 : decode cL_leak 17 = .ok (.iconst 0, 1) := by decide +kernel
theorem dL_leak_18 : decode cL_leak 18 = .ok (.ireturn, 1) := by decide +kernel
theorem dL_sending_0 : decode cL_sending 0 = .ok (.aload_n 3, 1) := by decide +kernel
theorem dL_sending_1 : decode cL_sending 1 = .ok (.iconst 0, 1) := by decide +kernel
theorem dL_sending_2 : decode cL_sending 2 = .ok (.aload_n 0, 1) := by decide +kernel
theorem dL_sending_3 : decode cL_sending 3 = .ok (.iload_n 1, 1) := by decide +kernel
theorem dL_sending_4 : decode cL_sending 4 = .ok (.iload_n 2, 1) := by decide +kernel
theorem dL_sending_5 : decode cL_sending 5 = .ok (.invokevirtual 59, 3) := by decide +kernel
theorem dL_sending_8 : decode cL_sending 8 = .ok (.i2l, 1) := by decide +kernel
theorem dL_sending_9 : decode cL_sending 9 = .ok (.lastore, 1) := by decide +kernel
theorem dL_sending_10 : decode cL_sending 10 = .ok (.goto 11, 3) := by decide +kernel
theorem dL_sending_13 : decode cL_sending 13 = .ok (.astore 4, 2) := by decide +kernel
theorem dL_sending_15 : decode cL_sending 15 = .ok (.iconst 1, 1) := by decide +kernel
theorem dL_sending_16 : decode cL_sending 16 = .ok (.ireturn, 1) := by decide +kernel
theorem dL_sending_17 : decode cL_sending 17 = .ok (.astore 4, 2) := by decide +kernel
theorem dL_sending_19 : decode cL_sending 19 = .ok (.iconst 2, 1) := by decide +kernel
theorem dL_sending_20 : decode cL_sending 20 = .ok (.ireturn, 1) := by decide +kernel
theorem dL_sending_21 : decode cL_sending 21 = .ok (.iconst 0, 1) := by decide +kernel
theorem dL_sending_22 : decode cL_sending 22 = .ok (.ireturn, 1) := by decide +kernel
theorem dL_hold_0 : decode cL_hold 0 = .ok (.aload_n 3, 1) := by decide +kernel
theorem dL_hold_1 : decode cL_hold 1 = .ok (.iconst 0, 1) := by decide +kernel
theorem dL_hold_2 : decode cL_hold 2 = .ok (.aload_n 0, 1) := by decide +kernel
theorem dL_hold_3 : decode cL_hold 3 = .ok (.iload_n 1, 1) := by decide +kernel
theorem dL_hold_4 : decode cL_hold 4 = .ok (.iload_n 2, 1) := by decide +kernel
theorem dL_hold_5 : decode cL_hold 5 = .ok (.invokevirtual 62, 3) := by decide +kernel
theorem dL_hold_8 : decode cL_hold 8 = .ok (.i2l, 1) := by decide +kernel
theorem dL_hold_9 : decode cL_hold 9 = .ok (.lastore, 1) := by decide +kernel
theorem dL_hold_10 : decode cL_hold 10 = .ok (.goto 7, 3) := by decide +kernel
theorem dL_hold_13 : decode cL_hold 13 = .ok (.astore 4, 2) := by decide +kernel
theorem dL_hold_15 : decode cL_hold 15 = .ok (.iconst 1, 1) := by decide +kernel
theorem dL_hold_16 : decode cL_hold 16 = .ok (.ireturn, 1) := by decide +kernel
theorem dL_hold_17 : decode cL_hold 17 = .ok (.iconst 0, 1) := by decide +kernel
theorem dL_hold_18 : decode cL_hold 18 = .ok (.ireturn, 1) := by decide +kernel
theorem dL_thrower_0 : decode cL_thrower 0 = .ok (.aload 5, 2) := by decide +kernel
theorem dL_thrower_2 : decode cL_thrower 2 = .ok (.iconst 0, 1) := by decide +kernel
theorem dL_thrower_3 : decode cL_thrower 3 = .ok (.aload_n 0, 1) := by decide +kernel
theorem dL_thrower_4 : decode cL_thrower 4 = .ok (.iload_n 1, 1) := by decide +kernel
theorem dL_thrower_5 : decode cL_thrower 5 = .ok (.iload_n 2, 1) := by decide +kernel
theorem dL_thrower_6 : decode cL_thrower 6 = .ok (.iload_n 3, 1) := by decide +kernel
theorem dL_thrower_7 : decode cL_thrower 7 = .ok (.iload 4, 2) := by decide +kernel
theorem dL_thrower_9 : decode cL_thrower 9 = .ok (.invokevirtual 65, 3) := by decide +kernel
theorem dL_thrower_12 : decode cL_thrower 12 = .ok (.i2l, 1) := by decide +kernel
theorem dL_thrower_13 : decode cL_thrower 13 = .ok (.lastore, 1) := by decide +kernel
theorem dL_thrower_14 : decode cL_thrower 14 = .ok (.goto 7, 3) := by decide +kernel
theorem dL_thrower_17 : decode cL_thrower 17 = .ok (.astore 6, 2) := by decide +kernel
theorem dL_thrower_19 : decode cL_thrower 19 = .ok (.iconst 1, 1) := by decide +kernel
theorem dL_thrower_20 : decode cL_thrower 20 = .ok (.ireturn, 1) := by decide +kernel
theorem dL_thrower_21 : decode cL_thrower 21 = .ok (.iconst 0, 1) := by decide +kernel
theorem dL_thrower_22 : decode cL_thrower 22 = .ok (.ireturn, 1) := by decide +kernel
theorem dL_stop_0 : decode cL_stop 0 = .ok (.aload 5, 2) := by decide +kernel
theorem dL_stop_2 : decode cL_stop 2 = .ok (.iconst 0, 1) := by decide +kernel
theorem dL_stop_3 : decode cL_stop 3 = .ok (.aload_n 0, 1) := by decide +kernel
theorem dL_stop_4 : decode cL_stop 4 = .ok (.iload_n 1, 1) := by decide +kernel
theorem dL_stop_5 : decode cL_stop 5 = .ok (.iload_n 2, 1) := by decide +kernel
theorem dL_stop_6 : decode cL_stop 6 = .ok (.iload_n 3, 1) := by decide +kernel
theorem dL_stop_7 : decode cL_stop 7 = .ok (.iload 4, 2) := by decide +kernel
theorem dL_stop_9 : decode cL_stop 9 = .ok (.invokevirtual 69, 3) := by decide +kernel
theorem dL_stop_12 : decode cL_stop 12 = .ok (.i2l, 1) := by decide +kernel
theorem dL_stop_13 : decode cL_stop 13 = .ok (.lastore, 1) := by decide +kernel
theorem dL_stop_14 : decode cL_stop 14 = .ok (.goto 11, 3) := by decide +kernel
theorem dL_stop_17 : decode cL_stop 17 = .ok (.astore 6, 2) := by decide +kernel
theorem dL_stop_19 : decode cL_stop 19 = .ok (.iconst 1, 1) := by decide +kernel
theorem dL_stop_20 : decode cL_stop 20 = .ok (.ireturn, 1) := by decide +kernel
theorem dL_stop_21 : decode cL_stop 21 = .ok (.astore 6, 2) := by decide +kernel
theorem dL_stop_23 : decode cL_stop 23 = .ok (.iconst 2, 1) := by decide +kernel
theorem dL_stop_24 : decode cL_stop 24 = .ok (.ireturn, 1) := by decide +kernel
theorem dL_stop_25 : decode cL_stop 25 = .ok (.iconst 0, 1) := by decide +kernel
theorem dL_stop_26 : decode cL_stop 26 = .ok (.ireturn, 1) := by decide +kernel
theorem dL_see_0 : decode cL_see 0 = .ok (.aload 4, 2) := by decide +kernel
theorem dL_see_2 : decode cL_see 2 = .ok (.iconst 0, 1) := by decide +kernel
theorem dL_see_3 : decode cL_see 3 = .ok (.aload_n 0, 1) := by decide +kernel
theorem dL_see_4 : decode cL_see 4 = .ok (.iload_n 1, 1) := by decide +kernel
theorem dL_see_5 : decode cL_see 5 = .ok (.iload_n 2, 1) := by decide +kernel
theorem dL_see_6 : decode cL_see 6 = .ok (.iload_n 3, 1) := by decide +kernel
theorem dL_see_7 : decode cL_see 7 = .ok (.invokevirtual 72, 3) := by decide +kernel
theorem dL_see_10 : decode cL_see 10 = .ok (.i2l, 1) := by decide +kernel
theorem dL_see_11 : decode cL_see 11 = .ok (.lastore, 1) := by decide +kernel
theorem dL_see_12 : decode cL_see 12 = .ok (.goto 7, 3) := by decide +kernel
theorem dL_see_15 : decode cL_see 15 = .ok (.astore 5, 2) := by decide +kernel
theorem dL_see_17 : decode cL_see 17 = .ok (.iconst 1, 1) := by decide +kernel
theorem dL_see_18 : decode cL_see 18 = .ok (.ireturn, 1) := by decide +kernel
theorem dL_see_19 : decode cL_see 19 = .ok (.iconst 0, 1) := by decide +kernel
theorem dL_see_20 : decode cL_see 20 = .ok (.ireturn, 1) := by decide +kernel
theorem dL_opened_0 : decode cL_opened 0 = .ok (.aload_n 2, 1) := by decide +kernel
theorem dL_opened_1 : decode cL_opened 1 = .ok (.iconst 0, 1) := by decide +kernel
theorem dL_opened_2 : decode cL_opened 2 = .ok (.aload_n 0, 1) := by decide +kernel
theorem dL_opened_3 : decode cL_opened 3 = .ok (.iload_n 1, 1) := by decide +kernel
theorem dL_opened_4 : decode cL_opened 4 = .ok (.invokevirtual 75, 3) := by decide +kernel
theorem dL_opened_7 : decode cL_opened 7 = .ok (.i2l, 1) := by decide +kernel
theorem dL_opened_8 : decode cL_opened 8 = .ok (.lastore, 1) := by decide +kernel
theorem dL_opened_9 : decode cL_opened 9 = .ok (.goto 6, 3) := by decide +kernel
theorem dL_opened_12 : decode cL_opened 12 = .ok (.astore_n 3, 1) := by decide +kernel
theorem dL_opened_13 : decode cL_opened 13 = .ok (.iconst 1, 1) := by decide +kernel
theorem dL_opened_14 : decode cL_opened 14 = .ok (.ireturn, 1) := by decide +kernel
theorem dL_opened_15 : decode cL_opened 15 = .ok (.iconst 0, 1) := by decide +kernel
theorem dL_opened_16 : decode cL_opened 16 = .ok (.ireturn, 1) := by decide +kernel
theorem dL_next_0 : decode cL_next 0 = .ok (.aload_n 2, 1) := by decide +kernel
theorem dL_next_1 : decode cL_next 1 = .ok (.iconst 0, 1) := by decide +kernel
theorem dL_next_2 : decode cL_next 2 = .ok (.aload_n 0, 1) := by decide +kernel
theorem dL_next_3 : decode cL_next 3 = .ok (.iload_n 1, 1) := by decide +kernel
theorem dL_next_4 : decode cL_next 4 = .ok (.invokevirtual 78, 3) := by decide +kernel
theorem dL_next_7 : decode cL_next 7 = .ok (.i2l, 1) := by decide +kernel
theorem dL_next_8 : decode cL_next 8 = .ok (.lastore, 1) := by decide +kernel
theorem dL_next_9 : decode cL_next 9 = .ok (.goto 6, 3) := by decide +kernel
theorem dL_next_12 : decode cL_next 12 = .ok (.astore_n 3, 1) := by decide +kernel
theorem dL_next_13 : decode cL_next 13 = .ok (.iconst 1, 1) := by decide +kernel
theorem dL_next_14 : decode cL_next 14 = .ok (.ireturn, 1) := by decide +kernel
theorem dL_next_15 : decode cL_next 15 = .ok (.iconst 0, 1) := by decide +kernel
theorem dL_next_16 : decode cL_next 16 = .ok (.ireturn, 1) := by decide +kernel
theorem dL_pooled_0 : decode cL_pooled 0 = .ok (.aload_n 2, 1) := by decide +kernel
theorem dL_pooled_1 : decode cL_pooled 1 = .ok (.iconst 0, 1) := by decide +kernel
theorem dL_pooled_2 : decode cL_pooled 2 = .ok (.aload_n 0, 1) := by decide +kernel
theorem dL_pooled_3 : decode cL_pooled 3 = .ok (.iload_n 1, 1) := by decide +kernel
theorem dL_pooled_4 : decode cL_pooled 4 = .ok (.invokevirtual 81, 3) := by decide +kernel
theorem dL_pooled_7 : decode cL_pooled 7 = .ok (.i2l, 1) := by decide +kernel
theorem dL_pooled_8 : decode cL_pooled 8 = .ok (.lastore, 1) := by decide +kernel
theorem dL_pooled_9 : decode cL_pooled 9 = .ok (.goto 6, 3) := by decide +kernel
theorem dL_pooled_12 : decode cL_pooled 12 = .ok (.astore_n 3, 1) := by decide +kernel
theorem dL_pooled_13 : decode cL_pooled 13 = .ok (.iconst 1, 1) := by decide +kernel
theorem dL_pooled_14 : decode cL_pooled 14 = .ok (.ireturn, 1) := by decide +kernel
theorem dL_pooled_15 : decode cL_pooled 15 = .ok (.iconst 0, 1) := by decide +kernel
theorem dL_pooled_16 : decode cL_pooled 16 = .ok (.ireturn, 1) := by decide +kernel
theorem dL_game_0 : decode cL_game 0 = .ok (.aload 4, 2) := by decide +kernel
theorem dL_game_2 : decode cL_game 2 = .ok (.iconst 0, 1) := by decide +kernel
theorem dL_game_3 : decode cL_game 3 = .ok (.aload_n 0, 1) := by decide +kernel
theorem dL_game_4 : decode cL_game 4 = .ok (.iload_n 1, 1) := by decide +kernel
theorem dL_game_5 : decode cL_game 5 = .ok (.iload_n 2, 1) := by decide +kernel
theorem dL_game_6 : decode cL_game 6 = .ok (.iload_n 3, 1) := by decide +kernel
theorem dL_game_7 : decode cL_game 7 = .ok (.invokevirtual 84, 3) := by decide +kernel
theorem dL_game_10 : decode cL_game 10 = .ok (.i2l, 1) := by decide +kernel
theorem dL_game_11 : decode cL_game 11 = .ok (.lastore, 1) := by decide +kernel
theorem dL_game_12 : decode cL_game 12 = .ok (.goto 11, 3) := by decide +kernel
theorem dL_game_15 : decode cL_game 15 = .ok (.astore 5, 2) := by decide +kernel
theorem dL_game_17 : decode cL_game 17 = .ok (.iconst 1, 1) := by decide +kernel
theorem dL_game_18 : decode cL_game 18 = .ok (.ireturn, 1) := by decide +kernel
theorem dL_game_19 : decode cL_game 19 = .ok (.astore 5, 2) := by decide +kernel
theorem dL_game_21 : decode cL_game 21 = .ok (.iconst 2, 1) := by decide +kernel
theorem dL_game_22 : decode cL_game 22 = .ok (.ireturn, 1) := by decide +kernel
theorem dL_game_23 : decode cL_game 23 = .ok (.iconst 0, 1) := by decide +kernel
theorem dL_game_24 : decode cL_game 24 = .ok (.ireturn, 1) := by decide +kernel
theorem dL_years_0 : decode cL_years 0 = .ok (.aload 4, 2) := by decide +kernel
theorem dL_years_2 : decode cL_years 2 = .ok (.iconst 0, 1) := by decide +kernel
theorem dL_years_3 : decode cL_years 3 = .ok (.aload_n 0, 1) := by decide +kernel
theorem dL_years_4 : decode cL_years 4 = .ok (.iload_n 1, 1) := by decide +kernel
theorem dL_years_5 : decode cL_years 5 = .ok (.iload_n 2, 1) := by decide +kernel
theorem dL_years_6 : decode cL_years 6 = .ok (.iload_n 3, 1) := by decide +kernel
theorem dL_years_7 : decode cL_years 7 = .ok (.invokevirtual 87, 3) := by decide +kernel
theorem dL_years_10 : decode cL_years 10 = .ok (.i2l, 1) := by decide +kernel
theorem dL_years_11 : decode cL_years 11 = .ok (.lastore, 1) := by decide +kernel
theorem dL_years_12 : decode cL_years 12 = .ok (.goto 11, 3) := by decide +kernel
theorem dL_years_15 : decode cL_years 15 = .ok (.astore 5, 2) := by decide +kernel
theorem dL_years_17 : decode cL_years 17 = .ok (.iconst 1, 1) := by decide +kernel
theorem dL_years_18 : decode cL_years 18 = .ok (.ireturn, 1) := by decide +kernel
theorem dL_years_19 : decode cL_years 19 = .ok (.astore 5, 2) := by decide +kernel
theorem dL_years_21 : decode cL_years 21 = .ok (.iconst 2, 1) := by decide +kernel
theorem dL_years_22 : decode cL_years 22 = .ok (.ireturn, 1) := by decide +kernel
theorem dL_years_23 : decode cL_years 23 = .ok (.iconst 0, 1) := by decide +kernel
theorem dL_years_24 : decode cL_years 24 = .ok (.ireturn, 1) := by decide +kernel
theorem dL_thief_0 : decode cL_thief 0 = .ok (.aload_n 3, 1) := by decide +kernel
theorem dL_thief_1 : decode cL_thief 1 = .ok (.iconst 0, 1) := by decide +kernel
theorem dL_thief_2 : decode cL_thief 2 = .ok (.aload_n 0, 1) := by decide +kernel
theorem dL_thief_3 : decode cL_thief 3 = .ok (.iload_n 1, 1) := by decide +kernel
theorem dL_thief_4 : decode cL_thief 4 = .ok (.iload_n 2, 1) := by decide +kernel
theorem dL_thief_5 : decode cL_thief 5 = .ok (.invokevirtual 90, 3) := by decide +kernel
theorem dL_thief_8 : decode cL_thief 8 = .ok (.i2l, 1) := by decide +kernel
theorem dL_thief_9 : decode cL_thief 9 = .ok (.lastore, 1) := by decide +kernel
theorem dL_thief_10 : decode cL_thief 10 = .ok (.goto 11, 3) := by decide +kernel
theorem dL_thief_13 : decode cL_thief 13 = .ok (.astore 4, 2) := by decide +kernel
theorem dL_thief_15 : decode cL_thief 15 = .ok (.iconst 1, 1) := by decide +kernel
theorem dL_thief_16 : decode cL_thief 16 = .ok (.ireturn, 1) := by decide +kernel
theorem dL_thief_17 : decode cL_thief 17 = .ok (.astore 4, 2) := by decide +kernel
theorem dL_thief_19 : decode cL_thief 19 = .ok (.iconst 2, 1) := by decide +kernel
theorem dL_thief_20 : decode cL_thief 20 = .ok (.ireturn, 1) := by decide +kernel
theorem dL_thief_21 : decode cL_thief 21 = .ok (.iconst 0, 1) := by decide +kernel
theorem dL_thief_22 : decode cL_thief 22 = .ok (.ireturn, 1) := by decide +kernel
theorem dL_row_0 : decode cL_row 0 = .ok (.aload 4, 2) := by decide +kernel
theorem dL_row_2 : decode cL_row 2 = .ok (.iconst 0, 1) := by decide +kernel
theorem dL_row_3 : decode cL_row 3 = .ok (.aload_n 0, 1) := by decide +kernel
theorem dL_row_4 : decode cL_row 4 = .ok (.iload_n 1, 1) := by decide +kernel
theorem dL_row_5 : decode cL_row 5 = .ok (.iload_n 2, 1) := by decide +kernel
theorem dL_row_6 : decode cL_row 6 = .ok (.iload_n 3, 1) := by decide +kernel
theorem dL_row_7 : decode cL_row 7 = .ok (.invokevirtual 93, 3) := by decide +kernel
theorem dL_row_10 : decode cL_row 10 = .ok (.i2l, 1) := by decide +kernel
theorem dL_row_11 : decode cL_row 11 = .ok (.lastore, 1) := by decide +kernel
theorem dL_row_12 : decode cL_row 12 = .ok (.goto 7, 3) := by decide +kernel
theorem dL_row_15 : decode cL_row 15 = .ok (.astore 5, 2) := by decide +kernel
theorem dL_row_17 : decode cL_row 17 = .ok (.iconst 1, 1) := by decide +kernel
theorem dL_row_18 : decode cL_row 18 = .ok (.ireturn, 1) := by decide +kernel
theorem dL_row_19 : decode cL_row 19 = .ok (.iconst 0, 1) := by decide +kernel
theorem dL_row_20 : decode cL_row 20 = .ok (.ireturn, 1) := by decide +kernel
theorem dL_bridge_0 : decode cL_bridge 0 = .ok (.aload_n 2, 1) := by decide +kernel
theorem dL_bridge_1 : decode cL_bridge 1 = .ok (.iconst 0, 1) := by decide +kernel
theorem dL_bridge_2 : decode cL_bridge 2 = .ok (.aload_n 0, 1) := by decide +kernel
theorem dL_bridge_3 : decode cL_bridge 3 = .ok (.iload_n 1, 1) := by decide +kernel
theorem dL_bridge_4 : decode cL_bridge 4 = .ok (.invokevirtual 96, 3) := by decide +kernel
theorem dL_bridge_7 : decode cL_bridge 7 = .ok (.ifCond .eq 7, 3) := by decide +kernel
theorem dL_bridge_10 : decode cL_bridge 10 = .ok (.lconst 1, 1) := by decide +kernel
theorem dL_bridge_11 : decode cL_bridge 11 = .ok (.goto 4, 3) := by decide +kernel
theorem dL_bridge_14 : decode cL_bridge 14 = .ok (.lconst 0, 1) := by decide +kernel
theorem dL_bridge_15 : decode cL_bridge 15 = .ok (.lastore, 1) := by decide +kernel
theorem dL_bridge_16 : decode cL_bridge 16 = .ok (.goto 6, 3) := by decide +kernel
theorem dL_bridge_19 : decode cL_bridge 19 = .ok (.astore_n 3, 1) := by decide +kernel
theorem dL_bridge_20 : decode cL_bridge 20 = .ok (.iconst 1, 1) := by decide +kernel
theorem dL_bridge_21 : decode cL_bridge 21 = .ok (.ireturn, 1) := by decide +kernel
theorem dL_bridge_22 : decode cL_bridge 22 = .ok (.iconst 0, 1) := by decide +kernel
theorem dL_bridge_23 : decode cL_bridge 23 = .ok (.ireturn, 1) := by decide +kernel
theorem dL_streak_0 : decode cL_streak 0 = .ok (.aload_n 3, 1) := by decide +kernel
theorem dL_streak_1 : decode cL_streak 1 = .ok (.iconst 0, 1) := by decide +kernel
theorem dL_streak_2 : decode cL_streak 2 = .ok (.aload_n 0, 1) := by decide +kernel
theorem dL_streak_3 : decode cL_streak 3 = .ok (.iload_n 1, 1) := by decide +kernel
theorem dL_streak_4 : decode cL_streak 4 = .ok (.iload_n 2, 1) := by decide +kernel
theorem dL_streak_5 : decode cL_streak 5 = .ok (.invokevirtual 100, 3) := by decide +kernel
theorem dL_streak_8 : decode cL_streak 8 = .ok (.i2l, 1) := by decide +kernel
theorem dL_streak_9 : decode cL_streak 9 = .ok (.lastore, 1) := by decide +kernel
theorem dL_streak_10 : decode cL_streak 10 = .ok (.goto 11, 3) := by decide +kernel
theorem dL_streak_13 : decode cL_streak 13 = .ok (.astore 4, 2) := by decide +kernel
theorem dL_streak_15 : decode cL_streak 15 = .ok (.iconst 1, 1) := by decide +kernel
theorem dL_streak_16 : decode cL_streak 16 = .ok (.ireturn, 1) := by decide +kernel
theorem dL_streak_17 : decode cL_streak 17 = .ok (.astore 4, 2) := by decide +kernel
theorem dL_streak_19 : decode cL_streak 19 = .ok (.iconst 2, 1) := by decide +kernel
theorem dL_streak_20 : decode cL_streak 20 = .ok (.ireturn, 1) := by decide +kernel
theorem dL_streak_21 : decode cL_streak 21 = .ok (.iconst 0, 1) := by decide +kernel
theorem dL_streak_22 : decode cL_streak 22 = .ok (.ireturn, 1) := by decide +kernel
theorem dL_day_0 : decode cL_day 0 = .ok (.aload_n 3, 1) := by decide +kernel
theorem dL_day_1 : decode cL_day 1 = .ok (.iconst 0, 1) := by decide +kernel
theorem dL_day_2 : decode cL_day 2 = .ok (.aload_n 0, 1) := by decide +kernel
theorem dL_day_3 : decode cL_day 3 = .ok (.iload_n 1, 1) := by decide +kernel
theorem dL_day_4 : decode cL_day 4 = .ok (.iload_n 2, 1) := by decide +kernel
theorem dL_day_5 : decode cL_day 5 = .ok (.invokevirtual 103, 3) := by decide +kernel
theorem dL_day_8 : decode cL_day 8 = .ok (.i2l, 1) := by decide +kernel
theorem dL_day_9 : decode cL_day 9 = .ok (.lastore, 1) := by decide +kernel
theorem dL_day_10 : decode cL_day 10 = .ok (.goto 11, 3) := by decide +kernel
theorem dL_day_13 : decode cL_day 13 = .ok (.astore 4, 2) := by decide +kernel
theorem dL_day_15 : decode cL_day 15 = .ok (.iconst 1, 1) := by decide +kernel
theorem dL_day_16 : decode cL_day 16 = .ok (.ireturn, 1) := by decide +kernel
theorem dL_day_17 : decode cL_day 17 = .ok (.astore 4, 2) := by decide +kernel
theorem dL_day_19 : decode cL_day 19 = .ok (.iconst 2, 1) := by decide +kernel
theorem dL_day_20 : decode cL_day 20 = .ok (.ireturn, 1) := by decide +kernel
theorem dL_day_21 : decode cL_day 21 = .ok (.iconst 0, 1) := by decide +kernel
theorem dL_day_22 : decode cL_day 22 = .ok (.ireturn, 1) := by decide +kernel
theorem dL_level_0 : decode cL_level 0 = .ok (.aload_n 2, 1) := by decide +kernel
theorem dL_level_1 : decode cL_level 1 = .ok (.iconst 0, 1) := by decide +kernel
theorem dL_level_2 : decode cL_level 2 = .ok (.aload_n 0, 1) := by decide +kernel
theorem dL_level_3 : decode cL_level 3 = .ok (.iload_n 1, 1) := by decide +kernel
theorem dL_level_4 : decode cL_level 4 = .ok (.invokevirtual 106, 3) := by decide +kernel
theorem dL_level_7 : decode cL_level 7 = .ok (.i2l, 1) := by decide +kernel
theorem dL_level_8 : decode cL_level 8 = .ok (.lastore, 1) := by decide +kernel
theorem dL_level_9 : decode cL_level 9 = .ok (.goto 6, 3) := by decide +kernel
theorem dL_level_12 : decode cL_level 12 = .ok (.astore_n 3, 1) := by decide +kernel
theorem dL_level_13 : decode cL_level 13 = .ok (.iconst 1, 1) := by decide +kernel
theorem dL_level_14 : decode cL_level 14 = .ok (.ireturn, 1) := by decide +kernel
theorem dL_level_15 : decode cL_level 15 = .ok (.iconst 0, 1) := by decide +kernel
theorem dL_level_16 : decode cL_level 16 = .ok (.ireturn, 1) := by decide +kernel
theorem dL_lend_0 : decode cL_lend 0 = .ok (.aload_n 2, 1) := by decide +kernel
theorem dL_lend_1 : decode cL_lend 1 = .ok (.iconst 0, 1) := by decide +kernel
theorem dL_lend_2 : decode cL_lend 2 = .ok (.aload_n 0, 1) := by decide +kernel
theorem dL_lend_3 : decode cL_lend 3 = .ok (.iload_n 1, 1) := by decide +kernel
theorem dL_lend_4 : decode cL_lend 4 = .ok (.invokevirtual 109, 3) := by decide +kernel
theorem dL_lend_7 : decode cL_lend 7 = .ok (.i2l, 1) := by decide +kernel
theorem dL_lend_8 : decode cL_lend 8 = .ok (.lastore, 1) := by decide +kernel
theorem dL_lend_9 : decode cL_lend 9 = .ok (.goto 6, 3) := by decide +kernel
theorem dL_lend_12 : decode cL_lend 12 = .ok (.astore_n 3, 1) := by decide +kernel
theorem dL_lend_13 : decode cL_lend 13 = .ok (.iconst 1, 1) := by decide +kernel
theorem dL_lend_14 : decode cL_lend 14 = .ok (.ireturn, 1) := by decide +kernel
theorem dL_lend_15 : decode cL_lend 15 = .ok (.iconst 0, 1) := by decide +kernel
theorem dL_lend_16 : decode cL_lend 16 = .ok (.ireturn, 1) := by decide +kernel
