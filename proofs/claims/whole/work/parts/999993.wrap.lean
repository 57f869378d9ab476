section L3
/-! ===== the law's wrappers ===== -/
theorem w_L_100 : x_cv RL 100 yX11_streak cX11_streak 6 (some .int) 11 2 := ⟨⟨_, rfl, rfl⟩, (x_in 1303 (by decide +kernel) rfl), (x_in 1304 (by decide +kernel) rfl), (x_in 1305 (by decide +kernel) rfl), (x_in 80 (by decide +kernel) rfl), (x_in 1306 (by decide +kernel) rfl), by decide, ⟨by decide +kernel, by decide +kernel, by decide +kernel⟩⟩
theorem w_L_103 : x_cv RL 103 yX11_day cX11_day 8 (some .int) 11 2 := ⟨⟨_, rfl, rfl⟩, (x_in 1311 (by decide +kernel) rfl), (x_in 1312 (by decide +kernel) rfl), (x_in 1313 (by decide +kernel) rfl), (x_in 80 (by decide +kernel) rfl), (x_in 1314 (by decide +kernel) rfl), by decide, ⟨by decide +kernel, by decide +kernel, by decide +kernel⟩⟩
theorem w_L_106 : x_cv RL 106 yX11_level cX11_level 2 (some .int) 11 1 := ⟨⟨_, rfl, rfl⟩, (x_in 1319 (by decide +kernel) rfl), (x_in 1320 (by decide +kernel) rfl), (x_in 1321 (by decide +kernel) rfl), (x_in 80 (by decide +kernel) rfl), (x_in 1322 (by decide +kernel) rfl), by decide, ⟨by decide +kernel, by decide +kernel, by decide +kernel⟩⟩
theorem w_L_109 : x_cv RL 109 yX11_lend cX11_lend 4 (some .int) 11 1 := ⟨⟨_, rfl, rfl⟩, (x_in 1333 (by decide +kernel) rfl), (x_in 1334 (by decide +kernel) rfl), (x_in 1335 (by decide +kernel) rfl), (x_in 80 (by decide +kernel) rfl), (x_in 1336 (by decide +kernel) rfl), by decide, ⟨by decide +kernel, by decide +kernel, by decide +kernel⟩⟩
theorem w_L_15 : x_cv RL 15 yX11_count cX11_count 2 (some .int) 11 1 := ⟨⟨_, rfl, rfl⟩, (x_in 892 (by decide +kernel) rfl), (x_in 893 (by decide +kernel) rfl), (x_in 894 (by decide +kernel) rfl), (x_in 80 (by decide +kernel) rfl), (x_in 895 (by decide +kernel) rfl), by decide, ⟨by decide +kernel, by decide +kernel, by decide +kernel⟩⟩
theorem w_L_20 : x_cv RL 20 yX11_town cX11_town 3 (some .int) 11 2 := ⟨⟨_, rfl, rfl⟩, (x_in 929 (by decide +kernel) rfl), (x_in 930 (by decide +kernel) rfl), (x_in 931 (by decide +kernel) rfl), (x_in 80 (by decide +kernel) rfl), (x_in 932 (by decide +kernel) rfl), by decide, ⟨by decide +kernel, by decide +kernel, by decide +kernel⟩⟩
theorem w_L_24 : x_cv RL 24 yX11_crate cX11_crate 3 (some .int) 11 2 := ⟨⟨_, rfl, rfl⟩, (x_in 944 (by decide +kernel) rfl), (x_in 945 (by decide +kernel) rfl), (x_in 946 (by decide +kernel) rfl), (x_in 80 (by decide +kernel) rfl), (x_in 947 (by decide +kernel) rfl), by decide, ⟨by decide +kernel, by decide +kernel, by decide +kernel⟩⟩
theorem w_L_27 : x_cv RL 27 yX11_send cX11_send 4 (some .int) 11 2 := ⟨⟨_, rfl, rfl⟩, (x_in 957 (by decide +kernel) rfl), (x_in 958 (by decide +kernel) rfl), (x_in 959 (by decide +kernel) rfl), (x_in 80 (by decide +kernel) rfl), (x_in 960 (by decide +kernel) rfl), by decide, ⟨by decide +kernel, by decide +kernel, by decide +kernel⟩⟩
theorem w_L_30 : x_cv RL 30 yX11_open cX11_open 2 (some .int) 11 1 := ⟨⟨_, rfl, rfl⟩, (x_in 970 (by decide +kernel) rfl), (x_in 971 (by decide +kernel) rfl), (x_in 972 (by decide +kernel) rfl), (x_in 80 (by decide +kernel) rfl), (x_in 973 (by decide +kernel) rfl), by decide, ⟨by decide +kernel, by decide +kernel, by decide +kernel⟩⟩
theorem w_L_33 : x_cv RL 33 yX11_cat cX11_cat 4 (some .boolean) 11 2 := ⟨⟨_, rfl, rfl⟩, (x_in 977 (by decide +kernel) rfl), (x_in 978 (by decide +kernel) rfl), (x_in 979 (by decide +kernel) rfl), (x_in 80 (by decide +kernel) rfl), (x_in 980 (by decide +kernel) rfl), by decide, ⟨by decide +kernel, by decide +kernel, by decide +kernel⟩⟩
theorem w_L_37 : x_cv RL 37 yX11_mix cX11_mix 3 (some .int) 11 2 := ⟨⟨_, rfl, rfl⟩, (x_in 985 (by decide +kernel) rfl), (x_in 986 (by decide +kernel) rfl), (x_in 987 (by decide +kernel) rfl), (x_in 80 (by decide +kernel) rfl), (x_in 988 (by decide +kernel) rfl), by decide, ⟨by decide +kernel, by decide +kernel, by decide +kernel⟩⟩
theorem w_L_40 : x_cv RL 40 yX11_then cX11_then 5 (some .int) 11 3 := ⟨⟨_, rfl, rfl⟩, (x_in 999 (by decide +kernel) rfl), (x_in 1000 (by decide +kernel) rfl), (x_in 1001 (by decide +kernel) rfl), (x_in 80 (by decide +kernel) rfl), (x_in 1002 (by decide +kernel) rfl), by decide, ⟨by decide +kernel, by decide +kernel, by decide +kernel⟩⟩
theorem w_L_44 : x_cv RL 44 yX11_even cX11_even 3 (some .int) 11 1 := ⟨⟨_, rfl, rfl⟩, (x_in 1015 (by decide +kernel) rfl), (x_in 1016 (by decide +kernel) rfl), (x_in 1017 (by decide +kernel) rfl), (x_in 80 (by decide +kernel) rfl), (x_in 1018 (by decide +kernel) rfl), by decide, ⟨by decide +kernel, by decide +kernel, by decide +kernel⟩⟩
theorem w_L_47 : x_cv RL 47 yX11_out cX11_out 3 (some .int) 11 1 := ⟨⟨_, rfl, rfl⟩, (x_in 1022 (by decide +kernel) rfl), (x_in 1023 (by decide +kernel) rfl), (x_in 1024 (by decide +kernel) rfl), (x_in 80 (by decide +kernel) rfl), (x_in 1025 (by decide +kernel) rfl), by decide, ⟨by decide +kernel, by decide +kernel, by decide +kernel⟩⟩
theorem w_L_50 : x_cv RL 50 yX11_luckiest cX11_luckiest 6 (some .int) 11 1 := ⟨⟨_, rfl, rfl⟩, (x_in 1029 (by decide +kernel) rfl), (x_in 1030 (by decide +kernel) rfl), (x_in 1031 (by decide +kernel) rfl), (x_in 80 (by decide +kernel) rfl), (x_in 1032 (by decide +kernel) rfl), by decide, ⟨by decide +kernel, by decide +kernel, by decide +kernel⟩⟩
theorem w_L_53 : x_cv RL 53 yX11_far cX11_far 3 (some .int) 11 2 := ⟨⟨_, rfl, rfl⟩, (x_in 1036 (by decide +kernel) rfl), (x_in 1037 (by decide +kernel) rfl), (x_in 1038 (by decide +kernel) rfl), (x_in 80 (by decide +kernel) rfl), (x_in 1039 (by decide +kernel) rfl), by decide, ⟨by decide +kernel, by decide +kernel, by decide +kernel⟩⟩
theorem w_L_56 : x_cv RL 56 yX11_leak cX11_leak 3 (some .int) 11 2 := ⟨⟨_, rfl, rfl⟩, (x_in 1047 (by decide +kernel) rfl), (x_in 1048 (by decide +kernel) rfl), (x_in 1049 (by decide +kernel) rfl), (x_in 80 (by decide +kernel) rfl), (x_in 1050 (by decide +kernel) rfl), by decide, ⟨by decide +kernel, by decide +kernel, by decide +kernel⟩⟩
theorem w_L_59 : x_cv RL 59 yX11_sending cX11_sending 3 (some .int) 11 2 := ⟨⟨_, rfl, rfl⟩, (x_in 1058 (by decide +kernel) rfl), (x_in 1059 (by decide +kernel) rfl), (x_in 1060 (by decide +kernel) rfl), (x_in 80 (by decide +kernel) rfl), (x_in 1061 (by decide +kernel) rfl), by decide, ⟨by decide +kernel, by decide +kernel, by decide +kernel⟩⟩
theorem w_L_62 : x_cv RL 62 yX11_hold cX11_hold 4 (some .int) 11 2 := ⟨⟨_, rfl, rfl⟩, (x_in 1078 (by decide +kernel) rfl), (x_in 1079 (by decide +kernel) rfl), (x_in 1080 (by decide +kernel) rfl), (x_in 80 (by decide +kernel) rfl), (x_in 1081 (by decide +kernel) rfl), by decide, ⟨by decide +kernel, by decide +kernel, by decide +kernel⟩⟩
theorem w_L_65 : x_cv RL 65 yX11_thrower cX11_thrower 5 (some .int) 11 4 := ⟨⟨_, rfl, rfl⟩, (x_in 1110 (by decide +kernel) rfl), (x_in 1111 (by decide +kernel) rfl), (x_in 1112 (by decide +kernel) rfl), (x_in 80 (by decide +kernel) rfl), (x_in 1113 (by decide +kernel) rfl), by decide, ⟨by decide +kernel, by decide +kernel, by decide +kernel⟩⟩
theorem w_L_69 : x_cv RL 69 yX11_stop cX11_stop 7 (some .int) 11 4 := ⟨⟨_, rfl, rfl⟩, (x_in 1124 (by decide +kernel) rfl), (x_in 1125 (by decide +kernel) rfl), (x_in 1126 (by decide +kernel) rfl), (x_in 80 (by decide +kernel) rfl), (x_in 1127 (by decide +kernel) rfl), by decide, ⟨by decide +kernel, by decide +kernel, by decide +kernel⟩⟩
theorem w_L_7 : x_cv RL 7 yX11_province cX11_province 3 (some .int) 11 1 := ⟨⟨_, rfl, rfl⟩, (x_in 592 (by decide +kernel) rfl), (x_in 593 (by decide +kernel) rfl), (x_in 594 (by decide +kernel) rfl), (x_in 80 (by decide +kernel) rfl), (x_in 595 (by decide +kernel) rfl), by decide, ⟨by decide +kernel, by decide +kernel, by decide +kernel⟩⟩
theorem w_L_72 : x_cv RL 72 yX11_see cX11_see 4 (some .int) 11 3 := ⟨⟨_, rfl, rfl⟩, (x_in 1141 (by decide +kernel) rfl), (x_in 1142 (by decide +kernel) rfl), (x_in 1143 (by decide +kernel) rfl), (x_in 80 (by decide +kernel) rfl), (x_in 1144 (by decide +kernel) rfl), by decide, ⟨by decide +kernel, by decide +kernel, by decide +kernel⟩⟩
theorem w_L_75 : x_cv RL 75 yX11_opened cX11_opened 3 (some .int) 11 1 := ⟨⟨_, rfl, rfl⟩, (x_in 1152 (by decide +kernel) rfl), (x_in 1153 (by decide +kernel) rfl), (x_in 1154 (by decide +kernel) rfl), (x_in 80 (by decide +kernel) rfl), (x_in 1155 (by decide +kernel) rfl), by decide, ⟨by decide +kernel, by decide +kernel, by decide +kernel⟩⟩
theorem w_L_78 : x_cv RL 78 yX11_next cX11_next 6 (some .int) 11 1 := ⟨⟨_, rfl, rfl⟩, (x_in 1197 (by decide +kernel) rfl), (x_in 1198 (by decide +kernel) rfl), (x_in 1199 (by decide +kernel) rfl), (x_in 80 (by decide +kernel) rfl), (x_in 1200 (by decide +kernel) rfl), by decide, ⟨by decide +kernel, by decide +kernel, by decide +kernel⟩⟩
theorem w_L_81 : x_cv RL 81 yX11_pooled cX11_pooled 3 (some .int) 11 1 := ⟨⟨_, rfl, rfl⟩, (x_in 1212 (by decide +kernel) rfl), (x_in 1213 (by decide +kernel) rfl), (x_in 1214 (by decide +kernel) rfl), (x_in 80 (by decide +kernel) rfl), (x_in 1215 (by decide +kernel) rfl), by decide, ⟨by decide +kernel, by decide +kernel, by decide +kernel⟩⟩
theorem w_L_84 : x_cv RL 84 yX11_game cX11_game 8 (some .int) 11 3 := ⟨⟨_, rfl, rfl⟩, (x_in 1223 (by decide +kernel) rfl), (x_in 1224 (by decide +kernel) rfl), (x_in 1225 (by decide +kernel) rfl), (x_in 80 (by decide +kernel) rfl), (x_in 1226 (by decide +kernel) rfl), by decide, ⟨by decide +kernel, by decide +kernel, by decide +kernel⟩⟩
theorem w_L_87 : x_cv RL 87 yX11_years cX11_years 5 (some .int) 11 3 := ⟨⟨_, rfl, rfl⟩, (x_in 1240 (by decide +kernel) rfl), (x_in 1241 (by decide +kernel) rfl), (x_in 1242 (by decide +kernel) rfl), (x_in 80 (by decide +kernel) rfl), (x_in 1243 (by decide +kernel) rfl), by decide, ⟨by decide +kernel, by decide +kernel, by decide +kernel⟩⟩
theorem w_L_90 : x_cv RL 90 yX11_thief cX11_thief 3 (some .int) 11 2 := ⟨⟨_, rfl, rfl⟩, (x_in 1261 (by decide +kernel) rfl), (x_in 1262 (by decide +kernel) rfl), (x_in 1263 (by decide +kernel) rfl), (x_in 80 (by decide +kernel) rfl), (x_in 1264 (by decide +kernel) rfl), by decide, ⟨by decide +kernel, by decide +kernel, by decide +kernel⟩⟩
theorem w_L_93 : x_cv RL 93 yX11_row cX11_row 5 (some .int) 11 3 := ⟨⟨_, rfl, rfl⟩, (x_in 1275 (by decide +kernel) rfl), (x_in 1276 (by decide +kernel) rfl), (x_in 1277 (by decide +kernel) rfl), (x_in 80 (by decide +kernel) rfl), (x_in 1278 (by decide +kernel) rfl), by decide, ⟨by decide +kernel, by decide +kernel, by decide +kernel⟩⟩
theorem w_L_96 : x_cv RL 96 yX11_bridge cX11_bridge 2 (some .boolean) 11 1 := ⟨⟨_, rfl, rfl⟩, (x_in 1292 (by decide +kernel) rfl), (x_in 1293 (by decide +kernel) rfl), (x_in 1294 (by decide +kernel) rfl), (x_in 80 (by decide +kernel) rfl), (x_in 1295 (by decide +kernel) rfl), by decide, ⟨by decide +kernel, by decide +kernel, by decide +kernel⟩⟩
theorem cl_L_13 : Cond.classLink RL 13 x_IAE ∈ x_T := (x_in 591 (by decide +kernel) rfl)
theorem cl_L_18 : Cond.classLink RL 18 x_NSE ∈ x_T := (x_in 891 (by decide +kernel) rfl)
theorem ct_x_NSE : Cond.castable x_NSE x_NSE ∈ x_Tw := x_inw 912 (by decide +kernel) rfl
theorem ct_x_IAE : Cond.castable x_IAE x_IAE ∈ x_Tw := x_inw 598 (by decide +kernel) rfl
theorem wr_province {X : xC} {l : Launch} (hl : l.stackTraces = false) {N : Nat} {sh sh1 : xS} {D : xM} {ks : List Nat} (h96 : 96 < N) (s0 : sh 0 = .inr (11, ks)) (so : sh1 96 = .inl (3, 1)) {q : x_O} (hO : o_okI q) {P : xM → Prop} {p0 : Int} (hc : x_M X l yX11_province cX11_province 3 (some .int) 53 1 6 [.ref (x_b X + 0), .int (xI p0)] false N sh D q false N sh1 P) : x_MH X l yL_province cL_province 4 (some .int) [(0, 9, 12, 13)] 54 1 6 [.ref (x_b X + 0), .int (xI p0), .ref (x_b X + 96)] N sh D (.inl (some (.int (xI (m_k 1 q))))) N sh1 (outp q P) := by
  have n0 : 0 < N := by omega
  rcases hO with ⟨z, rfl⟩ | rfl
  · refine x_ofWH (by decide +kernel) hl (by simp [Value.category]) (by simp) ?_
    refine x_aload_n dL_province_0 x_get_4_2 ?_
    refine x_iconst dL_province_1 ?_
    refine x_aload_n dL_province_2 x_get_4_0 ?_
    refine x_iload_n dL_province_3 x_get_4_1 ?_
    refine x_callV (As := [_]) dL_province_4 w_L_7 (hc) (by assumption) (by assumption) rfl rfl (Nat.le_of_ble_eq_true rfl) (Nat.le_of_ble_eq_true rfl) (Nat.le_of_ble_eq_true rfl) (Nat.le_of_ble_eq_true rfl) (Nat.le_of_ble_eq_true rfl) ?_
    intro d hd
    refine x_i2l dL_province_7 ?_
    refine x_last dL_province_8 h96 so (by decide) (by decide) (by decide) ?_
    refine x_goto (t := 15) dL_province_9 rfl ?_
    refine x_iconst dL_province_15 ?_
    exact x_iret dL_province_16 rfl (Nat.le_of_ble_eq_true rfl) (Nat.le_of_ble_eq_true rfl) rfl rfl rfl ⟨d, hd, rfl⟩ rfl
  · rw [m_k_I]
    refine x_ofWH (by decide +kernel) hl (by simp [Value.category]) (by simp) ?_
    refine x_aload_n dL_province_0 x_get_4_2 ?_
    refine x_iconst dL_province_1 ?_
    refine x_aload_n dL_province_2 x_get_4_0 ?_
    refine x_iload_n dL_province_3 x_get_4_1 ?_
    refine x_callVC (As := [_]) (name := x_IAE) dL_province_4 w_L_7 hc n0 s0 rfl rfl (Nat.le_of_ble_eq_true rfl) (Nat.le_of_ble_eq_true rfl) (Nat.le_of_ble_eq_true rfl) (Nat.le_of_ble_eq_true rfl) (Nat.le_of_ble_eq_true rfl) [] ⟨0, 9, 12, 13⟩ [] rfl (fun z hz => by cases hz) (by decide) (by decide) cl_L_13 ct_x_IAE (fun q9 d hd => ?_)
    refine x_astore_n dL_province_12 (Nat.le_of_ble_eq_true rfl) rfl x_set_4_3 ?_
    refine x_iconst dL_province_13 ?_
    exact x_iret dL_province_14 rfl (Nat.le_of_ble_eq_true rfl) (Nat.le_of_ble_eq_true rfl) rfl rfl rfl ⟨d, hd, rfl⟩ rfl
theorem wr_count {X : xC} {l : Launch} (hl : l.stackTraces = false) {N : Nat} {sh sh1 : xS} {D : xM} {ks : List Nat} (h96 : 96 < N) (s0 : sh 0 = .inr (11, ks)) (so : sh1 96 = .inl (3, 1)) {q : x_O} (hO : o_okN q) {P : xM → Prop} {p0 : Int} (hc : x_M X l yX11_count cX11_count 2 (some .int) 6 1 6 [.ref (x_b X + 0), .int (xI p0)] false N sh D q false N sh1 P) : x_MH X l yL_count cL_count 4 (some .int) [(0, 9, 12, 18)] 7 1 6 [.ref (x_b X + 0), .int (xI p0), .ref (x_b X + 96)] N sh D (.inl (some (.int (xI (m_k 1 q))))) N sh1 (outp q P) := by
  have n0 : 0 < N := by omega
  rcases hO with ⟨z, rfl⟩ | rfl
  · refine x_ofWH (by decide +kernel) hl (by simp [Value.category]) (by simp) ?_
    refine x_aload_n dL_count_0 x_get_4_2 ?_
    refine x_iconst dL_count_1 ?_
    refine x_aload_n dL_count_2 x_get_4_0 ?_
    refine x_iload_n dL_count_3 x_get_4_1 ?_
    refine x_callV (As := [_]) dL_count_4 w_L_15 (hc) (by assumption) (by assumption) rfl rfl (Nat.le_of_ble_eq_true rfl) (Nat.le_of_ble_eq_true rfl) (Nat.le_of_ble_eq_true rfl) (Nat.le_of_ble_eq_true rfl) (Nat.le_of_ble_eq_true rfl) ?_
    intro d hd
    refine x_i2l dL_count_7 ?_
    refine x_last dL_count_8 h96 so (by decide) (by decide) (by decide) ?_
    refine x_goto (t := 15) dL_count_9 rfl ?_
    refine x_iconst dL_count_15 ?_
    exact x_iret dL_count_16 rfl (Nat.le_of_ble_eq_true rfl) (Nat.le_of_ble_eq_true rfl) rfl rfl rfl ⟨d, hd, rfl⟩ rfl
  · rw [m_k_N]
    refine x_ofWH (by decide +kernel) hl (by simp [Value.category]) (by simp) ?_
    refine x_aload_n dL_count_0 x_get_4_2 ?_
    refine x_iconst dL_count_1 ?_
    refine x_aload_n dL_count_2 x_get_4_0 ?_
    refine x_iload_n dL_count_3 x_get_4_1 ?_
    refine x_callVC (As := [_]) (name := x_NSE) dL_count_4 w_L_15 hc n0 s0 rfl rfl (Nat.le_of_ble_eq_true rfl) (Nat.le_of_ble_eq_true rfl) (Nat.le_of_ble_eq_true rfl) (Nat.le_of_ble_eq_true rfl) (Nat.le_of_ble_eq_true rfl) [] ⟨0, 9, 12, 18⟩ [] rfl (fun z hz => by cases hz) (by decide) (by decide) cl_L_18 ct_x_NSE (fun q9 d hd => ?_)
    refine x_astore_n dL_count_12 (Nat.le_of_ble_eq_true rfl) rfl x_set_4_3 ?_
    refine x_iconst dL_count_13 ?_
    exact x_iret dL_count_14 rfl (Nat.le_of_ble_eq_true rfl) (Nat.le_of_ble_eq_true rfl) rfl rfl rfl ⟨d, hd, rfl⟩ rfl
theorem wr_town {X : xC} {l : Launch} (hl : l.stackTraces = false) {N : Nat} {sh sh1 : xS} {D : xM} {ks : List Nat} (h96 : 96 < N) (s0 : sh 0 = .inr (11, ks)) (so : sh1 96 = .inl (3, 1)) {q : x_O} (hO : o_okN q) {P : xM → Prop} {p0 p1 : Int} (hc : x_M X l yX11_town cX11_town 3 (some .int) 7 1 6 [.ref (x_b X + 0), .int (xI p0), .int (xI p1)] false N sh D q false N sh1 P) : x_MH X l yL_town cL_town 5 (some .int) [(0, 10, 13, 18)] 8 1 6 [.ref (x_b X + 0), .int (xI p0), .int (xI p1), .ref (x_b X + 96)] N sh D (.inl (some (.int (xI (m_k 1 q))))) N sh1 (outp q P) := by
  have n0 : 0 < N := by omega
  rcases hO with ⟨z, rfl⟩ | rfl
  · refine x_ofWH (by decide +kernel) hl (by simp [Value.category]) (by simp) ?_
    refine x_aload_n dL_town_0 x_get_5_3 ?_
    refine x_iconst dL_town_1 ?_
    refine x_aload_n dL_town_2 x_get_5_0 ?_
    refine x_iload_n dL_town_3 x_get_5_1 ?_
    refine x_iload_n dL_town_4 x_get_5_2 ?_
    refine x_callV (As := [_, _]) dL_town_5 w_L_20 (hc) (by assumption) (by assumption) rfl rfl (Nat.le_of_ble_eq_true rfl) (Nat.le_of_ble_eq_true rfl) (Nat.le_of_ble_eq_true rfl) (Nat.le_of_ble_eq_true rfl) (Nat.le_of_ble_eq_true rfl) ?_
    intro d hd
    refine x_i2l dL_town_8 ?_
    refine x_last dL_town_9 h96 so (by decide) (by decide) (by decide) ?_
    refine x_goto (t := 17) dL_town_10 rfl ?_
    refine x_iconst dL_town_17 ?_
    exact x_iret dL_town_18 rfl (Nat.le_of_ble_eq_true rfl) (Nat.le_of_ble_eq_true rfl) rfl rfl rfl ⟨d, hd, rfl⟩ rfl
  · rw [m_k_N]
    refine x_ofWH (by decide +kernel) hl (by simp [Value.category]) (by simp) ?_
    refine x_aload_n dL_town_0 x_get_5_3 ?_
    refine x_iconst dL_town_1 ?_
    refine x_aload_n dL_town_2 x_get_5_0 ?_
    refine x_iload_n dL_town_3 x_get_5_1 ?_
    refine x_iload_n dL_town_4 x_get_5_2 ?_
    refine x_callVC (As := [_, _]) (name := x_NSE) dL_town_5 w_L_20 hc n0 s0 rfl rfl (Nat.le_of_ble_eq_true rfl) (Nat.le_of_ble_eq_true rfl) (Nat.le_of_ble_eq_true rfl) (Nat.le_of_ble_eq_true rfl) (Nat.le_of_ble_eq_true rfl) [] ⟨0, 10, 13, 18⟩ [] rfl (fun z hz => by cases hz) (by decide) (by decide) cl_L_18 ct_x_NSE (fun q9 d hd => ?_)
    refine x_astore dL_town_13 (Nat.le_of_ble_eq_true rfl) rfl x_set_5_4 ?_
    refine x_iconst dL_town_15 ?_
    exact x_iret dL_town_16 rfl (Nat.le_of_ble_eq_true rfl) (Nat.le_of_ble_eq_true rfl) rfl rfl rfl ⟨d, hd, rfl⟩ rfl
theorem wr_crate {X : xC} {l : Launch} (hl : l.stackTraces = false) {N : Nat} {sh sh1 : xS} {D : xM} {ks : List Nat} (h96 : 96 < N) (s0 : sh 0 = .inr (11, ks)) (so : sh1 96 = .inl (3, 1)) {q : x_O} (hO : o_okN q) {P : xM → Prop} {p0 p1 : Int} (hc : x_M X l yX11_crate cX11_crate 3 (some .int) 7 1 6 [.ref (x_b X + 0), .int (xI p0), .int (xI p1)] false N sh D q false N sh1 P) : x_MH X l yL_crate cL_crate 5 (some .int) [(0, 10, 13, 18)] 8 1 6 [.ref (x_b X + 0), .int (xI p0), .int (xI p1), .ref (x_b X + 96)] N sh D (.inl (some (.int (xI (m_k 1 q))))) N sh1 (outp q P) := by
  have n0 : 0 < N := by omega
  rcases hO with ⟨z, rfl⟩ | rfl
  · refine x_ofWH (by decide +kernel) hl (by simp [Value.category]) (by simp) ?_
    refine x_aload_n dL_crate_0 x_get_5_3 ?_
    refine x_iconst dL_crate_1 ?_
    refine x_aload_n dL_crate_2 x_get_5_0 ?_
    refine x_iload_n dL_crate_3 x_get_5_1 ?_
    refine x_iload_n dL_crate_4 x_get_5_2 ?_
    refine x_callV (As := [_, _]) dL_crate_5 w_L_24 (hc) (by assumption) (by assumption) rfl rfl (Nat.le_of_ble_eq_true rfl) (Nat.le_of_ble_eq_true rfl) (Nat.le_of_ble_eq_true rfl) (Nat.le_of_ble_eq_true rfl) (Nat.le_of_ble_eq_true rfl) ?_
    intro d hd
    refine x_i2l dL_crate_8 ?_
    refine x_last dL_crate_9 h96 so (by decide) (by decide) (by decide) ?_
    refine x_goto (t := 17) dL_crate_10 rfl ?_
    refine x_iconst dL_crate_17 ?_
    exact x_iret dL_crate_18 rfl (Nat.le_of_ble_eq_true rfl) (Nat.le_of_ble_eq_true rfl) rfl rfl rfl ⟨d, hd, rfl⟩ rfl
  · rw [m_k_N]
    refine x_ofWH (by decide +kernel) hl (by simp [Value.category]) (by simp) ?_
    refine x_aload_n dL_crate_0 x_get_5_3 ?_
    refine x_iconst dL_crate_1 ?_
    refine x_aload_n dL_crate_2 x_get_5_0 ?_
    refine x_iload_n dL_crate_3 x_get_5_1 ?_
    refine x_iload_n dL_crate_4 x_get_5_2 ?_
    refine x_callVC (As := [_, _]) (name := x_NSE) dL_crate_5 w_L_24 hc n0 s0 rfl rfl (Nat.le_of_ble_eq_true rfl) (Nat.le_of_ble_eq_true rfl) (Nat.le_of_ble_eq_true rfl) (Nat.le_of_ble_eq_true rfl) (Nat.le_of_ble_eq_true rfl) [] ⟨0, 10, 13, 18⟩ [] rfl (fun z hz => by cases hz) (by decide) (by decide) cl_L_18 ct_x_NSE (fun q9 d hd => ?_)
    refine x_astore dL_crate_13 (Nat.le_of_ble_eq_true rfl) rfl x_set_5_4 ?_
    refine x_iconst dL_crate_15 ?_
    exact x_iret dL_crate_16 rfl (Nat.le_of_ble_eq_true rfl) (Nat.le_of_ble_eq_true rfl) rfl rfl rfl ⟨d, hd, rfl⟩ rfl
theorem wr_send {X : xC} {l : Launch} (hl : l.stackTraces = false) {N : Nat} {sh sh1 : xS} {D : xM} {ks : List Nat} (h96 : 96 < N) (s0 : sh 0 = .inr (11, ks)) (so : sh1 96 = .inl (3, 1)) {q : x_O} (hO : o_okN q) {P : xM → Prop} {p0 p1 : Int} (hc : x_M X l yX11_send cX11_send 4 (some .int) 7 1 6 [.ref (x_b X + 0), .int (xI p0), .int (xI p1)] false N sh D q false N sh1 P) : x_MH X l yL_send cL_send 5 (some .int) [(0, 10, 13, 18)] 8 1 6 [.ref (x_b X + 0), .int (xI p0), .int (xI p1), .ref (x_b X + 96)] N sh D (.inl (some (.int (xI (m_k 1 q))))) N sh1 (outp q P) := by
  have n0 : 0 < N := by omega
  rcases hO with ⟨z, rfl⟩ | rfl
  · refine x_ofWH (by decide +kernel) hl (by simp [Value.category]) (by simp) ?_
    refine x_aload_n dL_send_0 x_get_5_3 ?_
    refine x_iconst dL_send_1 ?_
    refine x_aload_n dL_send_2 x_get_5_0 ?_
    refine x_iload_n dL_send_3 x_get_5_1 ?_
    refine x_iload_n dL_send_4 x_get_5_2 ?_
    refine x_callV (As := [_, _]) dL_send_5 w_L_27 (hc) (by assumption) (by assumption) rfl rfl (Nat.le_of_ble_eq_true rfl) (Nat.le_of_ble_eq_true rfl) (Nat.le_of_ble_eq_true rfl) (Nat.le_of_ble_eq_true rfl) (Nat.le_of_ble_eq_true rfl) ?_
    intro d hd
    refine x_i2l dL_send_8 ?_
    refine x_last dL_send_9 h96 so (by decide) (by decide) (by decide) ?_
    refine x_goto (t := 17) dL_send_10 rfl ?_
    refine x_iconst dL_send_17 ?_
    exact x_iret dL_send_18 rfl (Nat.le_of_ble_eq_true rfl) (Nat.le_of_ble_eq_true rfl) rfl rfl rfl ⟨d, hd, rfl⟩ rfl
  · rw [m_k_N]
    refine x_ofWH (by decide +kernel) hl (by simp [Value.category]) (by simp) ?_
    refine x_aload_n dL_send_0 x_get_5_3 ?_
    refine x_iconst dL_send_1 ?_
    refine x_aload_n dL_send_2 x_get_5_0 ?_
    refine x_iload_n dL_send_3 x_get_5_1 ?_
    refine x_iload_n dL_send_4 x_get_5_2 ?_
    refine x_callVC (As := [_, _]) (name := x_NSE) dL_send_5 w_L_27 hc n0 s0 rfl rfl (Nat.le_of_ble_eq_true rfl) (Nat.le_of_ble_eq_true rfl) (Nat.le_of_ble_eq_true rfl) (Nat.le_of_ble_eq_true rfl) (Nat.le_of_ble_eq_true rfl) [] ⟨0, 10, 13, 18⟩ [] rfl (fun z hz => by cases hz) (by decide) (by decide) cl_L_18 ct_x_NSE (fun q9 d hd => ?_)
    refine x_astore dL_send_13 (Nat.le_of_ble_eq_true rfl) rfl x_set_5_4 ?_
    refine x_iconst dL_send_15 ?_
    exact x_iret dL_send_16 rfl (Nat.le_of_ble_eq_true rfl) (Nat.le_of_ble_eq_true rfl) rfl rfl rfl ⟨d, hd, rfl⟩ rfl
theorem wr_open {X : xC} {l : Launch} (hl : l.stackTraces = false) {N : Nat} {sh sh1 : xS} {D : xM} {ks : List Nat} (h96 : 96 < N) (s0 : sh 0 = .inr (11, ks)) (so : sh1 96 = .inl (3, 1)) {q : x_O} (hO : o_okN q) {P : xM → Prop} {p0 : Int} (hc : x_M X l yX11_open cX11_open 2 (some .int) 7 1 6 [.ref (x_b X + 0), .int (xI p0)] false N sh D q false N sh1 P) : x_MH X l yL_open cL_open 4 (some .int) [(0, 9, 12, 18)] 8 1 6 [.ref (x_b X + 0), .int (xI p0), .ref (x_b X + 96)] N sh D (.inl (some (.int (xI (m_k 1 q))))) N sh1 (outp q P) := by
  have n0 : 0 < N := by omega
  rcases hO with ⟨z, rfl⟩ | rfl
  · refine x_ofWH (by decide +kernel) hl (by simp [Value.category]) (by simp) ?_
    refine x_aload_n dL_open_0 x_get_4_2 ?_
    refine x_iconst dL_open_1 ?_
    refine x_aload_n dL_open_2 x_get_4_0 ?_
    refine x_iload_n dL_open_3 x_get_4_1 ?_
    refine x_callV (As := [_]) dL_open_4 w_L_30 (hc) (by assumption) (by assumption) rfl rfl (Nat.le_of_ble_eq_true rfl) (Nat.le_of_ble_eq_true rfl) (Nat.le_of_ble_eq_true rfl) (Nat.le_of_ble_eq_true rfl) (Nat.le_of_ble_eq_true rfl) ?_
    intro d hd
    refine x_i2l dL_open_7 ?_
    refine x_last dL_open_8 h96 so (by decide) (by decide) (by decide) ?_
    refine x_goto (t := 15) dL_open_9 rfl ?_
    refine x_iconst dL_open_15 ?_
    exact x_iret dL_open_16 rfl (Nat.le_of_ble_eq_true rfl) (Nat.le_of_ble_eq_true rfl) rfl rfl rfl ⟨d, hd, rfl⟩ rfl
  · rw [m_k_N]
    refine x_ofWH (by decide +kernel) hl (by simp [Value.category]) (by simp) ?_
    refine x_aload_n dL_open_0 x_get_4_2 ?_
    refine x_iconst dL_open_1 ?_
    refine x_aload_n dL_open_2 x_get_4_0 ?_
    refine x_iload_n dL_open_3 x_get_4_1 ?_
    refine x_callVC (As := [_]) (name := x_NSE) dL_open_4 w_L_30 hc n0 s0 rfl rfl (Nat.le_of_ble_eq_true rfl) (Nat.le_of_ble_eq_true rfl) (Nat.le_of_ble_eq_true rfl) (Nat.le_of_ble_eq_true rfl) (Nat.le_of_ble_eq_true rfl) [] ⟨0, 9, 12, 18⟩ [] rfl (fun z hz => by cases hz) (by decide) (by decide) cl_L_18 ct_x_NSE (fun q9 d hd => ?_)
    refine x_astore_n dL_open_12 (Nat.le_of_ble_eq_true rfl) rfl x_set_4_3 ?_
    refine x_iconst dL_open_13 ?_
    exact x_iret dL_open_14 rfl (Nat.le_of_ble_eq_true rfl) (Nat.le_of_ble_eq_true rfl) rfl rfl rfl ⟨d, hd, rfl⟩ rfl
theorem wr_cat {X : xC} {l : Launch} (hl : l.stackTraces = false) {N : Nat} {sh sh1 : xS} {D : xM} {ks : List Nat} (h96 : 96 < N) (s0 : sh 0 = .inr (11, ks)) (so : sh1 96 = .inl (3, 1)) {q : x_O} (hO : (∃ z : Int, (z = 0 ∨ z = 1) ∧ q = o_i z) ∨ q = .inr x_NSE) {P : xM → Prop} {p0 p1 : Int} (hc : x_M X l yX11_cat cX11_cat 4 (some .boolean) 7 1 6 [.ref (x_b X + 0), .int (xI p0), .int (xI p1)] false N sh D q false N sh1 P) : x_MH X l yL_cat cL_cat 5 (some .int) [(0, 17, 20, 18)] 8 1 6 [.ref (x_b X + 0), .int (xI p0), .int (xI p1), .ref (x_b X + 96)] N sh D (.inl (some (.int (xI (m_k 1 q))))) N sh1 (outp q P) := by
  have n0 : 0 < N := by omega
  rcases hO with ⟨z, rfl | rfl, rfl⟩ | rfl
  · refine x_ofWH (by decide +kernel) hl (by simp [Value.category]) (by simp) ?_
    refine x_aload_n dL_cat_0 x_get_5_3 ?_
    refine x_iconst dL_cat_1 ?_
    refine x_aload_n dL_cat_2 x_get_5_0 ?_
    refine x_iload_n dL_cat_3 x_get_5_1 ?_
    refine x_iload_n dL_cat_4 x_get_5_2 ?_
    refine x_callV (As := [_, _]) dL_cat_5 w_L_33 (hc) (by assumption) (by assumption) rfl rfl (Nat.le_of_ble_eq_true rfl) (Nat.le_of_ble_eq_true rfl) (Nat.le_of_ble_eq_true rfl) (Nat.le_of_ble_eq_true rfl) (Nat.le_of_ble_eq_true rfl) ?_
    intro d hd
    refine r_if_eq (t := 15) dL_cat_8 rfl ⟨by decide, by decide⟩ (fun hc8 => ?_) (fun hc8 => absurd hc8 (by decide))
    refine x_lconst (z := 0) dL_cat_15 rfl ?_
    refine x_last dL_cat_16 h96 so (by decide) (by decide) (by decide) ?_
    refine x_goto (t := 24) dL_cat_17 rfl ?_
    refine x_iconst dL_cat_24 ?_
    exact x_iret dL_cat_25 rfl (Nat.le_of_ble_eq_true rfl) (Nat.le_of_ble_eq_true rfl) rfl rfl rfl ⟨d, hd, rfl⟩ rfl
  · refine x_ofWH (by decide +kernel) hl (by simp [Value.category]) (by simp) ?_
    refine x_aload_n dL_cat_0 x_get_5_3 ?_
    refine x_iconst dL_cat_1 ?_
    refine x_aload_n dL_cat_2 x_get_5_0 ?_
    refine x_iload_n dL_cat_3 x_get_5_1 ?_
    refine x_iload_n dL_cat_4 x_get_5_2 ?_
    refine x_callV (As := [_, _]) dL_cat_5 w_L_33 (hc) (by assumption) (by assumption) rfl rfl (Nat.le_of_ble_eq_true rfl) (Nat.le_of_ble_eq_true rfl) (Nat.le_of_ble_eq_true rfl) (Nat.le_of_ble_eq_true rfl) (Nat.le_of_ble_eq_true rfl) ?_
    intro d hd
    refine r_if_eq (t := 15) dL_cat_8 rfl ⟨by decide, by decide⟩ (fun hc8 => absurd hc8 (by decide)) (fun hc8 => ?_)
    refine x_lconst (z := 1) dL_cat_11 rfl ?_
    refine x_goto (t := 16) dL_cat_12 rfl ?_
    refine x_last dL_cat_16 h96 so (by decide) (by decide) (by decide) ?_
    refine x_goto (t := 24) dL_cat_17 rfl ?_
    refine x_iconst dL_cat_24 ?_
    exact x_iret dL_cat_25 rfl (Nat.le_of_ble_eq_true rfl) (Nat.le_of_ble_eq_true rfl) rfl rfl rfl ⟨d, hd, rfl⟩ rfl
  · rw [m_k_N]
    refine x_ofWH (by decide +kernel) hl (by simp [Value.category]) (by simp) ?_
    refine x_aload_n dL_cat_0 x_get_5_3 ?_
    refine x_iconst dL_cat_1 ?_
    refine x_aload_n dL_cat_2 x_get_5_0 ?_
    refine x_iload_n dL_cat_3 x_get_5_1 ?_
    refine x_iload_n dL_cat_4 x_get_5_2 ?_
    refine x_callVC (As := [_, _]) (name := x_NSE) dL_cat_5 w_L_33 hc n0 s0 rfl rfl (Nat.le_of_ble_eq_true rfl) (Nat.le_of_ble_eq_true rfl) (Nat.le_of_ble_eq_true rfl) (Nat.le_of_ble_eq_true rfl) (Nat.le_of_ble_eq_true rfl) [] ⟨0, 17, 20, 18⟩ [] rfl (fun z hz => by cases hz) (by decide) (by decide) cl_L_18 ct_x_NSE (fun q9 d hd => ?_)
    refine x_astore dL_cat_20 (Nat.le_of_ble_eq_true rfl) rfl x_set_5_4 ?_
    refine x_iconst dL_cat_22 ?_
    exact x_iret dL_cat_23 rfl (Nat.le_of_ble_eq_true rfl) (Nat.le_of_ble_eq_true rfl) rfl rfl rfl ⟨d, hd, rfl⟩ rfl
theorem wr_mix {X : xC} {l : Launch} (hl : l.stackTraces = false) {N : Nat} {sh sh1 : xS} {D : xM} {ks : List Nat} (h96 : 96 < N) (s0 : sh 0 = .inr (11, ks)) (so : sh1 96 = .inl (3, 1)) {q : x_O} (hO : o_okN q) {P : xM → Prop} {p0 p1 : Int} (hc : x_M X l yX11_mix cX11_mix 3 (some .int) 7 1 6 [.ref (x_b X + 0), .int (xI p0), .int (xI p1)] false N sh D q false N sh1 P) : x_MH X l yL_mix cL_mix 5 (some .int) [(0, 10, 13, 18)] 8 1 6 [.ref (x_b X + 0), .int (xI p0), .int (xI p1), .ref (x_b X + 96)] N sh D (.inl (some (.int (xI (m_k 1 q))))) N sh1 (outp q P) := by
  have n0 : 0 < N := by omega
  rcases hO with ⟨z, rfl⟩ | rfl
  · refine x_ofWH (by decide +kernel) hl (by simp [Value.category]) (by simp) ?_
    refine x_aload_n dL_mix_0 x_get_5_3 ?_
    refine x_iconst dL_mix_1 ?_
    refine x_aload_n dL_mix_2 x_get_5_0 ?_
    refine x_iload_n dL_mix_3 x_get_5_1 ?_
    refine x_iload_n dL_mix_4 x_get_5_2 ?_
    refine x_callV (As := [_, _]) dL_mix_5 w_L_37 (hc) (by assumption) (by assumption) rfl rfl (Nat.le_of_ble_eq_true rfl) (Nat.le_of_ble_eq_true rfl) (Nat.le_of_ble_eq_true rfl) (Nat.le_of_ble_eq_true rfl) (Nat.le_of_ble_eq_true rfl) ?_
    intro d hd
    refine x_i2l dL_mix_8 ?_
    refine x_last dL_mix_9 h96 so (by decide) (by decide) (by decide) ?_
    refine x_goto (t := 17) dL_mix_10 rfl ?_
    refine x_iconst dL_mix_17 ?_
    exact x_iret dL_mix_18 rfl (Nat.le_of_ble_eq_true rfl) (Nat.le_of_ble_eq_true rfl) rfl rfl rfl ⟨d, hd, rfl⟩ rfl
  · rw [m_k_N]
    refine x_ofWH (by decide +kernel) hl (by simp [Value.category]) (by simp) ?_
    refine x_aload_n dL_mix_0 x_get_5_3 ?_
    refine x_iconst dL_mix_1 ?_
    refine x_aload_n dL_mix_2 x_get_5_0 ?_
    refine x_iload_n dL_mix_3 x_get_5_1 ?_
    refine x_iload_n dL_mix_4 x_get_5_2 ?_
    refine x_callVC (As := [_, _]) (name := x_NSE) dL_mix_5 w_L_37 hc n0 s0 rfl rfl (Nat.le_of_ble_eq_true rfl) (Nat.le_of_ble_eq_true rfl) (Nat.le_of_ble_eq_true rfl) (Nat.le_of_ble_eq_true rfl) (Nat.le_of_ble_eq_true rfl) [] ⟨0, 10, 13, 18⟩ [] rfl (fun z hz => by cases hz) (by decide) (by decide) cl_L_18 ct_x_NSE (fun q9 d hd => ?_)
    refine x_astore dL_mix_13 (Nat.le_of_ble_eq_true rfl) rfl x_set_5_4 ?_
    refine x_iconst dL_mix_15 ?_
    exact x_iret dL_mix_16 rfl (Nat.le_of_ble_eq_true rfl) (Nat.le_of_ble_eq_true rfl) rfl rfl rfl ⟨d, hd, rfl⟩ rfl
theorem wr_then {X : xC} {l : Launch} (hl : l.stackTraces = false) {N : Nat} {sh sh1 : xS} {D : xM} {ks : List Nat} (h96 : 96 < N) (s0 : sh 0 = .inr (11, ks)) (so : sh1 96 = .inl (3, 1)) {q : x_O} (hO : o_okB q) {P : xM → Prop} {p0 p1 p2 : Int} (hc : x_M X l yX11_then cX11_then 5 (some .int) 7 1 6 [.ref (x_b X + 0), .int (xI p0), .int (xI p1), .int (xI p2)] false N sh D q false N sh1 P) : x_MH X l yL_then cL_then 6 (some .int) [(0, 12, 15, 18), (0, 12, 19, 13)] 8 1 6 [.ref (x_b X + 0), .int (xI p0), .int (xI p1), .int (xI p2), .ref (x_b X + 96)] N sh D (.inl (some (.int (xI (m_k 2 q))))) N sh1 (outp q P) := by
  have n0 : 0 < N := by omega
  rcases hO with ⟨z, rfl⟩ | rfl | rfl
  · refine x_ofWH (by decide +kernel) hl (by simp [Value.category]) (by simp) ?_
    refine x_aload dL_then_0 x_get_6_4 ?_
    refine x_iconst dL_then_2 ?_
    refine x_aload_n dL_then_3 x_get_6_0 ?_
    refine x_iload_n dL_then_4 x_get_6_1 ?_
    refine x_iload_n dL_then_5 x_get_6_2 ?_
    refine x_iload_n dL_then_6 x_get_6_3 ?_
    refine x_callV (As := [_, _, _]) dL_then_7 w_L_40 (hc) (by assumption) (by assumption) rfl rfl (Nat.le_of_ble_eq_true rfl) (Nat.le_of_ble_eq_true rfl) (Nat.le_of_ble_eq_true rfl) (Nat.le_of_ble_eq_true rfl) (Nat.le_of_ble_eq_true rfl) ?_
    intro d hd
    refine x_i2l dL_then_10 ?_
    refine x_last dL_then_11 h96 so (by decide) (by decide) (by decide) ?_
    refine x_goto (t := 23) dL_then_12 rfl ?_
    refine x_iconst dL_then_23 ?_
    exact x_iret dL_then_24 rfl (Nat.le_of_ble_eq_true rfl) (Nat.le_of_ble_eq_true rfl) rfl rfl rfl ⟨d, hd, rfl⟩ rfl
  · rw [m_k_N]
    refine x_ofWH (by decide +kernel) hl (by simp [Value.category]) (by simp) ?_
    refine x_aload dL_then_0 x_get_6_4 ?_
    refine x_iconst dL_then_2 ?_
    refine x_aload_n dL_then_3 x_get_6_0 ?_
    refine x_iload_n dL_then_4 x_get_6_1 ?_
    refine x_iload_n dL_then_5 x_get_6_2 ?_
    refine x_iload_n dL_then_6 x_get_6_3 ?_
    refine x_callVC (As := [_, _, _]) (name := x_NSE) dL_then_7 w_L_40 hc n0 s0 rfl rfl (Nat.le_of_ble_eq_true rfl) (Nat.le_of_ble_eq_true rfl) (Nat.le_of_ble_eq_true rfl) (Nat.le_of_ble_eq_true rfl) (Nat.le_of_ble_eq_true rfl) [] ⟨0, 12, 15, 18⟩ [⟨0, 12, 19, 13⟩] rfl (fun z hz => by cases hz) (by decide) (by decide) cl_L_18 ct_x_NSE (fun q9 d hd => ?_)
    refine x_astore dL_then_15 (Nat.le_of_ble_eq_true rfl) rfl x_set_6_5 ?_
    refine x_iconst dL_then_17 ?_
    exact x_iret dL_then_18 rfl (Nat.le_of_ble_eq_true rfl) (Nat.le_of_ble_eq_true rfl) rfl rfl rfl ⟨d, hd, rfl⟩ rfl
  · rw [m_k_I]
    refine x_ofWH (by decide +kernel) hl (by simp [Value.category]) (by simp) ?_
    refine x_aload dL_then_0 x_get_6_4 ?_
    refine x_iconst dL_then_2 ?_
    refine x_aload_n dL_then_3 x_get_6_0 ?_
    refine x_iload_n dL_then_4 x_get_6_1 ?_
    refine x_iload_n dL_then_5 x_get_6_2 ?_
    refine x_iload_n dL_then_6 x_get_6_3 ?_
    refine x_callVC (As := [_, _, _]) (name := x_IAE) dL_then_7 w_L_40 hc n0 s0 rfl rfl (Nat.le_of_ble_eq_true rfl) (Nat.le_of_ble_eq_true rfl) (Nat.le_of_ble_eq_true rfl) (Nat.le_of_ble_eq_true rfl) (Nat.le_of_ble_eq_true rfl) [⟨0, 12, 15, 18⟩] ⟨0, 12, 19, 13⟩ [] rfl (fun z hz => by rw [List.mem_singleton.mp hz]; exact ⟨by decide, cl_L_18, rfl⟩) (by decide) (by decide) cl_L_13 ct_x_IAE (fun q9 d hd => ?_)
    refine x_astore dL_then_19 (Nat.le_of_ble_eq_true rfl) rfl x_set_6_5 ?_
    refine x_iconst dL_then_21 ?_
    exact x_iret dL_then_22 rfl (Nat.le_of_ble_eq_true rfl) (Nat.le_of_ble_eq_true rfl) rfl rfl rfl ⟨d, hd, rfl⟩ rfl
theorem wr_even {X : xC} {l : Launch} (hl : l.stackTraces = false) {N : Nat} {sh sh1 : xS} {D : xM} {ks : List Nat} (h96 : 96 < N) (s0 : sh 0 = .inr (11, ks)) (so : sh1 96 = .inl (3, 1)) {q : x_O} (hO : o_okN q) {P : xM → Prop} {p0 : Int} (hc : x_M X l yX11_even cX11_even 3 (some .int) 7 1 6 [.ref (x_b X + 0), .int (xI p0)] false N sh D q false N sh1 P) : x_MH X l yL_even cL_even 4 (some .int) [(0, 9, 12, 18)] 8 1 6 [.ref (x_b X + 0), .int (xI p0), .ref (x_b X + 96)] N sh D (.inl (some (.int (xI (m_k 1 q))))) N sh1 (outp q P) := by
  have n0 : 0 < N := by omega
  rcases hO with ⟨z, rfl⟩ | rfl
  · refine x_ofWH (by decide +kernel) hl (by simp [Value.category]) (by simp) ?_
    refine x_aload_n dL_even_0 x_get_4_2 ?_
    refine x_iconst dL_even_1 ?_
    refine x_aload_n dL_even_2 x_get_4_0 ?_
    refine x_iload_n dL_even_3 x_get_4_1 ?_
    refine x_callV (As := [_]) dL_even_4 w_L_44 (hc) (by assumption) (by assumption) rfl rfl (Nat.le_of_ble_eq_true rfl) (Nat.le_of_ble_eq_true rfl) (Nat.le_of_ble_eq_true rfl) (Nat.le_of_ble_eq_true rfl) (Nat.le_of_ble_eq_true rfl) ?_
    intro d hd
    refine x_i2l dL_even_7 ?_
    refine x_last dL_even_8 h96 so (by decide) (by decide) (by decide) ?_
    refine x_goto (t := 15) dL_even_9 rfl ?_
    refine x_iconst dL_even_15 ?_
    exact x_iret dL_even_16 rfl (Nat.le_of_ble_eq_true rfl) (Nat.le_of_ble_eq_true rfl) rfl rfl rfl ⟨d, hd, rfl⟩ rfl
  · rw [m_k_N]
    refine x_ofWH (by decide +kernel) hl (by simp [Value.category]) (by simp) ?_
    refine x_aload_n dL_even_0 x_get_4_2 ?_
    refine x_iconst dL_even_1 ?_
    refine x_aload_n dL_even_2 x_get_4_0 ?_
    refine x_iload_n dL_even_3 x_get_4_1 ?_
    refine x_callVC (As := [_]) (name := x_NSE) dL_even_4 w_L_44 hc n0 s0 rfl rfl (Nat.le_of_ble_eq_true rfl) (Nat.le_of_ble_eq_true rfl) (Nat.le_of_ble_eq_true rfl) (Nat.le_of_ble_eq_true rfl) (Nat.le_of_ble_eq_true rfl) [] ⟨0, 9, 12, 18⟩ [] rfl (fun z hz => by cases hz) (by decide) (by decide) cl_L_18 ct_x_NSE (fun q9 d hd => ?_)
    refine x_astore_n dL_even_12 (Nat.le_of_ble_eq_true rfl) rfl x_set_4_3 ?_
    refine x_iconst dL_even_13 ?_
    exact x_iret dL_even_14 rfl (Nat.le_of_ble_eq_true rfl) (Nat.le_of_ble_eq_true rfl) rfl rfl rfl ⟨d, hd, rfl⟩ rfl
theorem wr_out {X : xC} {l : Launch} (hl : l.stackTraces = false) {N : Nat} {sh sh1 : xS} {D : xM} {ks : List Nat} (h96 : 96 < N) (s0 : sh 0 = .inr (11, ks)) (so : sh1 96 = .inl (3, 1)) {q : x_O} (hO : o_okN q) {P : xM → Prop} {p0 : Int} (hc : x_M X l yX11_out cX11_out 3 (some .int) 7 1 6 [.ref (x_b X + 0), .int (xI p0)] false N sh D q false N sh1 P) : x_MH X l yL_out cL_out 4 (some .int) [(0, 9, 12, 18)] 8 1 6 [.ref (x_b X + 0), .int (xI p0), .ref (x_b X + 96)] N sh D (.inl (some (.int (xI (m_k 1 q))))) N sh1 (outp q P) := by
  have n0 : 0 < N := by omega
  rcases hO with ⟨z, rfl⟩ | rfl
  · refine x_ofWH (by decide +kernel) hl (by simp [Value.category]) (by simp) ?_
    refine x_aload_n dL_out_0 x_get_4_2 ?_
    refine x_iconst dL_out_1 ?_
    refine x_aload_n dL_out_2 x_get_4_0 ?_
    refine x_iload_n dL_out_3 x_get_4_1 ?_
    refine x_callV (As := [_]) dL_out_4 w_L_47 (hc) (by assumption) (by assumption) rfl rfl (Nat.le_of_ble_eq_true rfl) (Nat.le_of_ble_eq_true rfl) (Nat.le_of_ble_eq_true rfl) (Nat.le_of_ble_eq_true rfl) (Nat.le_of_ble_eq_true rfl) ?_
    intro d hd
    refine x_i2l dL_out_7 ?_
    refine x_last dL_out_8 h96 so (by decide) (by decide) (by decide) ?_
    refine x_goto (t := 15) dL_out_9 rfl ?_
    refine x_iconst dL_out_15 ?_
    exact x_iret dL_out_16 rfl (Nat.le_of_ble_eq_true rfl) (Nat.le_of_ble_eq_true rfl) rfl rfl rfl ⟨d, hd, rfl⟩ rfl
  · rw [m_k_N]
    refine x_ofWH (by decide +kernel) hl (by simp [Value.category]) (by simp) ?_
    refine x_aload_n dL_out_0 x_get_4_2 ?_
    refine x_iconst dL_out_1 ?_
    refine x_aload_n dL_out_2 x_get_4_0 ?_
    refine x_iload_n dL_out_3 x_get_4_1 ?_
    refine x_callVC (As := [_]) (name := x_NSE) dL_out_4 w_L_47 hc n0 s0 rfl rfl (Nat.le_of_ble_eq_true rfl) (Nat.le_of_ble_eq_true rfl) (Nat.le_of_ble_eq_true rfl) (Nat.le_of_ble_eq_true rfl) (Nat.le_of_ble_eq_true rfl) [] ⟨0, 9, 12, 18⟩ [] rfl (fun z hz => by cases hz) (by decide) (by decide) cl_L_18 ct_x_NSE (fun q9 d hd => ?_)
    refine x_astore_n dL_out_12 (Nat.le_of_ble_eq_true rfl) rfl x_set_4_3 ?_
    refine x_iconst dL_out_13 ?_
    exact x_iret dL_out_14 rfl (Nat.le_of_ble_eq_true rfl) (Nat.le_of_ble_eq_true rfl) rfl rfl rfl ⟨d, hd, rfl⟩ rfl
theorem wr_luckiest {X : xC} {l : Launch} (hl : l.stackTraces = false) {N : Nat} {sh sh1 : xS} {D : xM} {ks : List Nat} (h96 : 96 < N) (s0 : sh 0 = .inr (11, ks)) (so : sh1 96 = .inl (3, 1)) {q : x_O} (hO : o_okI q) {P : xM → Prop} {p0 : Int} (hc : x_M X l yX11_luckiest cX11_luckiest 6 (some .int) 8 1 6 [.ref (x_b X + 0), .int (xI p0)] false N sh D q false N sh1 P) : x_MH X l yL_luckiest cL_luckiest 4 (some .int) [(0, 9, 12, 13)] 9 1 6 [.ref (x_b X + 0), .int (xI p0), .ref (x_b X + 96)] N sh D (.inl (some (.int (xI (m_k 1 q))))) N sh1 (outp q P) := by
  have n0 : 0 < N := by omega
  rcases hO with ⟨z, rfl⟩ | rfl
  · refine x_ofWH (by decide +kernel) hl (by simp [Value.category]) (by simp) ?_
    refine x_aload_n dL_luckiest_0 x_get_4_2 ?_
    refine x_iconst dL_luckiest_1 ?_
    refine x_aload_n dL_luckiest_2 x_get_4_0 ?_
    refine x_iload_n dL_luckiest_3 x_get_4_1 ?_
    refine x_callV (As := [_]) dL_luckiest_4 w_L_50 (hc) (by assumption) (by assumption) rfl rfl (Nat.le_of_ble_eq_true rfl) (Nat.le_of_ble_eq_true rfl) (Nat.le_of_ble_eq_true rfl) (Nat.le_of_ble_eq_true rfl) (Nat.le_of_ble_eq_true rfl) ?_
    intro d hd
    refine x_i2l dL_luckiest_7 ?_
    refine x_last dL_luckiest_8 h96 so (by decide) (by decide) (by decide) ?_
    refine x_goto (t := 15) dL_luckiest_9 rfl ?_
    refine x_iconst dL_luckiest_15 ?_
    exact x_iret dL_luckiest_16 rfl (Nat.le_of_ble_eq_true rfl) (Nat.le_of_ble_eq_true rfl) rfl rfl rfl ⟨d, hd, rfl⟩ rfl
  · rw [m_k_I]
    refine x_ofWH (by decide +kernel) hl (by simp [Value.category]) (by simp) ?_
    refine x_aload_n dL_luckiest_0 x_get_4_2 ?_
    refine x_iconst dL_luckiest_1 ?_
    refine x_aload_n dL_luckiest_2 x_get_4_0 ?_
    refine x_iload_n dL_luckiest_3 x_get_4_1 ?_
    refine x_callVC (As := [_]) (name := x_IAE) dL_luckiest_4 w_L_50 hc n0 s0 rfl rfl (Nat.le_of_ble_eq_true rfl) (Nat.le_of_ble_eq_true rfl) (Nat.le_of_ble_eq_true rfl) (Nat.le_of_ble_eq_true rfl) (Nat.le_of_ble_eq_true rfl) [] ⟨0, 9, 12, 13⟩ [] rfl (fun z hz => by cases hz) (by decide) (by decide) cl_L_13 ct_x_IAE (fun q9 d hd => ?_)
    refine x_astore_n dL_luckiest_12 (Nat.le_of_ble_eq_true rfl) rfl x_set_4_3 ?_
    refine x_iconst dL_luckiest_13 ?_
    exact x_iret dL_luckiest_14 rfl (Nat.le_of_ble_eq_true rfl) (Nat.le_of_ble_eq_true rfl) rfl rfl rfl ⟨d, hd, rfl⟩ rfl
theorem wr_far {X : xC} {l : Launch} (hl : l.stackTraces = false) {N : Nat} {sh sh1 : xS} {D : xM} {ks : List Nat} (h96 : 96 < N) (s0 : sh 0 = .inr (11, ks)) (so : sh1 96 = .inl (3, 1)) {q : x_O} (hO : o_okN q) {P : xM → Prop} {p0 p1 : Int} (hc : x_M X l yX11_far cX11_far 3 (some .int) 7 1 6 [.ref (x_b X + 0), .int (xI p0), .int (xI p1)] false N sh D q false N sh1 P) : x_MH X l yL_far cL_far 5 (some .int) [(0, 10, 13, 18)] 8 1 6 [.ref (x_b X + 0), .int (xI p0), .int (xI p1), .ref (x_b X + 96)] N sh D (.inl (some (.int (xI (m_k 1 q))))) N sh1 (outp q P) := by
  have n0 : 0 < N := by omega
  rcases hO with ⟨z, rfl⟩ | rfl
  · refine x_ofWH (by decide +kernel) hl (by simp [Value.category]) (by simp) ?_
    refine x_aload_n dL_far_0 x_get_5_3 ?_
    refine x_iconst dL_far_1 ?_
    refine x_aload_n dL_far_2 x_get_5_0 ?_
    refine x_iload_n dL_far_3 x_get_5_1 ?_
    refine x_iload_n dL_far_4 x_get_5_2 ?_
    refine x_callV (As := [_, _]) dL_far_5 w_L_53 (hc) (by assumption) (by assumption) rfl rfl (Nat.le_of_ble_eq_true rfl) (Nat.le_of_ble_eq_true rfl) (Nat.le_of_ble_eq_true rfl) (Nat.le_of_ble_eq_true rfl) (Nat.le_of_ble_eq_true rfl) ?_
    intro d hd
    refine x_i2l dL_far_8 ?_
    refine x_last dL_far_9 h96 so (by decide) (by decide) (by decide) ?_
    refine x_goto (t := 17) dL_far_10 rfl ?_
    refine x_iconst dL_far_17 ?_
    exact x_iret dL_far_18 rfl (Nat.le_of_ble_eq_true rfl) (Nat.le_of_ble_eq_true rfl) rfl rfl rfl ⟨d, hd, rfl⟩ rfl
  · rw [m_k_N]
    refine x_ofWH (by decide +kernel) hl (by simp [Value.category]) (by simp) ?_
    refine x_aload_n dL_far_0 x_get_5_3 ?_
    refine x_iconst dL_far_1 ?_
    refine x_aload_n dL_far_2 x_get_5_0 ?_
    refine x_iload_n dL_far_3 x_get_5_1 ?_
    refine x_iload_n dL_far_4 x_get_5_2 ?_
    refine x_callVC (As := [_, _]) (name := x_NSE) dL_far_5 w_L_53 hc n0 s0 rfl rfl (Nat.le_of_ble_eq_true rfl) (Nat.le_of_ble_eq_true rfl) (Nat.le_of_ble_eq_true rfl) (Nat.le_of_ble_eq_true rfl) (Nat.le_of_ble_eq_true rfl) [] ⟨0, 10, 13, 18⟩ [] rfl (fun z hz => by cases hz) (by decide) (by decide) cl_L_18 ct_x_NSE (fun q9 d hd => ?_)
    refine x_astore dL_far_13 (Nat.le_of_ble_eq_true rfl) rfl x_set_5_4 ?_
    refine x_iconst dL_far_15 ?_
    exact x_iret dL_far_16 rfl (Nat.le_of_ble_eq_true rfl) (Nat.le_of_ble_eq_true rfl) rfl rfl rfl ⟨d, hd, rfl⟩ rfl
theorem wr_leak {X : xC} {l : Launch} (hl : l.stackTraces = false) {N : Nat} {sh sh1 : xS} {D : xM} {ks : List Nat} (h96 : 96 < N) (s0 : sh 0 = .inr (11, ks)) (so : sh1 96 = .inl (3, 1)) {q : x_O} (hO : o_okN q) {P : xM → Prop} {p0 p1 : Int} (hc : x_M X l yX11_leak cX11_leak 3 (some .int) 7 1 6 [.ref (x_b X + 0), .int (xI p0), .int (xI p1)] false N sh D q false N sh1 P) : x_MH X l yL_leak cL_leak 5 (some .int) [(0, 10, 13, 18)] 8 1 6 [.ref (x_b X + 0), .int (xI p0), .int (xI p1), .ref (x_b X + 96)] N sh D (.inl (some (.int (xI (m_k 1 q))))) N sh1 (outp q P) := by
  have n0 : 0 < N := by omega
  rcases hO with ⟨z, rfl⟩ | rfl
  · refine x_ofWH (by decide +kernel) hl (by simp [Value.category]) (by simp) ?_
    refine x_aload_n dL_leak_0 x_get_5_3 ?_
    refine x_iconst dL_leak_1 ?_
    refine x_aload_n dL_leak_2 x_get_5_0 ?_
    refine x_iload_n dL_leak_3 x_get_5_1 ?_
    refine x_iload_n dL_leak_4 x_get_5_2 ?_
    refine x_callV (As := [_, _]) dL_leak_5 w_L_56 (hc) (by assumption) (by assumption) rfl rfl (Nat.le_of_ble_eq_true rfl) (Nat.le_of_ble_eq_true rfl) (Nat.le_of_ble_eq_true rfl) (Nat.le_of_ble_eq_true rfl) (Nat.le_of_ble_eq_true rfl) ?_
    intro d hd
    refine x_i2l dL_leak_8 ?_
    refine x_last dL_leak_9 h96 so (by decide) (by decide) (by decide) ?_
    refine x_goto (t := 17) dL_leak_10 rfl ?_
    refine x_iconst dL_leak_17 ?_
    exact x_iret dL_leak_18 rfl (Nat.le_of_ble_eq_true rfl) (Nat.le_of_ble_eq_true rfl) rfl rfl rfl ⟨d, hd, rfl⟩ rfl
  · rw [m_k_N]
    refine x_ofWH (by decide +kernel) hl (by simp [Value.category]) (by simp) ?_
    refine x_aload_n dL_leak_0 x_get_5_3 ?_
    refine x_iconst dL_leak_1 ?_
    refine x_aload_n dL_leak_2 x_get_5_0 ?_
    refine x_iload_n dL_leak_3 x_get_5_1 ?_
    refine x_iload_n dL_leak_4 x_get_5_2 ?_
    refine x_callVC (As := [_, _]) (name := x_NSE) dL_leak_5 w_L_56 hc n0 s0 rfl rfl (Nat.le_of_ble_eq_true rfl) (Nat.le_of_ble_eq_true rfl) (Nat.le_of_ble_eq_true rfl) (Nat.le_of_ble_eq_true rfl) (Nat.le_of_ble_eq_true rfl) [] ⟨0, 10, 13, 18⟩ [] rfl (fun z hz => by cases hz) (by decide) (by decide) cl_L_18 ct_x_NSE (fun q9 d hd => ?_)
    refine x_astore dL_leak_13 (Nat.le_of_ble_eq_true rfl) rfl x_set_5_4 ?_
    refine x_iconst dL_leak_15 ?_
    exact x_iret dL_leak_16 rfl (Nat.le_of_ble_eq_true rfl) (Nat.le_of_ble_eq_true rfl) rfl rfl rfl ⟨d, hd, rfl⟩ rfl
theorem wr_sending {X : xC} {l : Launch} (hl : l.stackTraces = false) {N : Nat} {sh sh1 : xS} {D : xM} {ks : List Nat} (h96 : 96 < N) (s0 : sh 0 = .inr (11, ks)) (so : sh1 96 = .inl (3, 1)) {q : x_O} (hO : o_okB q) {P : xM → Prop} {p0 p1 : Int} (hc : x_M X l yX11_sending cX11_sending 3 (some .int) 7 1 6 [.ref (x_b X + 0), .int (xI p0), .int (xI p1)] false N sh D q false N sh1 P) : x_MH X l yL_sending cL_sending 5 (some .int) [(0, 10, 13, 18), (0, 10, 17, 13)] 8 1 6 [.ref (x_b X + 0), .int (xI p0), .int (xI p1), .ref (x_b X + 96)] N sh D (.inl (some (.int (xI (m_k 2 q))))) N sh1 (outp q P) := by
  have n0 : 0 < N := by omega
  rcases hO with ⟨z, rfl⟩ | rfl | rfl
  · refine x_ofWH (by decide +kernel) hl (by simp [Value.category]) (by simp) ?_
    refine x_aload_n dL_sending_0 x_get_5_3 ?_
    refine x_iconst dL_sending_1 ?_
    refine x_aload_n dL_sending_2 x_get_5_0 ?_
    refine x_iload_n dL_sending_3 x_get_5_1 ?_
    refine x_iload_n dL_sending_4 x_get_5_2 ?_
    refine x_callV (As := [_, _]) dL_sending_5 w_L_59 (hc) (by assumption) (by assumption) rfl rfl (Nat.le_of_ble_eq_true rfl) (Nat.le_of_ble_eq_true rfl) (Nat.le_of_ble_eq_true rfl) (Nat.le_of_ble_eq_true rfl) (Nat.le_of_ble_eq_true rfl) ?_
    intro d hd
    refine x_i2l dL_sending_8 ?_
    refine x_last dL_sending_9 h96 so (by decide) (by decide) (by decide) ?_
    refine x_goto (t := 21) dL_sending_10 rfl ?_
    refine x_iconst dL_sending_21 ?_
    exact x_iret dL_sending_22 rfl (Nat.le_of_ble_eq_true rfl) (Nat.le_of_ble_eq_true rfl) rfl rfl rfl ⟨d, hd, rfl⟩ rfl
  · rw [m_k_N]
    refine x_ofWH (by decide +kernel) hl (by simp [Value.category]) (by simp) ?_
    refine x_aload_n dL_sending_0 x_get_5_3 ?_
    refine x_iconst dL_sending_1 ?_
    refine x_aload_n dL_sending_2 x_get_5_0 ?_
    refine x_iload_n dL_sending_3 x_get_5_1 ?_
    refine x_iload_n dL_sending_4 x_get_5_2 ?_
    refine x_callVC (As := [_, _]) (name := x_NSE) dL_sending_5 w_L_59 hc n0 s0 rfl rfl (Nat.le_of_ble_eq_true rfl) (Nat.le_of_ble_eq_true rfl) (Nat.le_of_ble_eq_true rfl) (Nat.le_of_ble_eq_true rfl) (Nat.le_of_ble_eq_true rfl) [] ⟨0, 10, 13, 18⟩ [⟨0, 10, 17, 13⟩] rfl (fun z hz => by cases hz) (by decide) (by decide) cl_L_18 ct_x_NSE (fun q9 d hd => ?_)
    refine x_astore dL_sending_13 (Nat.le_of_ble_eq_true rfl) rfl x_set_5_4 ?_
    refine x_iconst dL_sending_15 ?_
    exact x_iret dL_sending_16 rfl (Nat.le_of_ble_eq_true rfl) (Nat.le_of_ble_eq_true rfl) rfl rfl rfl ⟨d, hd, rfl⟩ rfl
  · rw [m_k_I]
    refine x_ofWH (by decide +kernel) hl (by simp [Value.category]) (by simp) ?_
    refine x_aload_n dL_sending_0 x_get_5_3 ?_
    refine x_iconst dL_sending_1 ?_
    refine x_aload_n dL_sending_2 x_get_5_0 ?_
    refine x_iload_n dL_sending_3 x_get_5_1 ?_
    refine x_iload_n dL_sending_4 x_get_5_2 ?_
    refine x_callVC (As := [_, _]) (name := x_IAE) dL_sending_5 w_L_59 hc n0 s0 rfl rfl (Nat.le_of_ble_eq_true rfl) (Nat.le_of_ble_eq_true rfl) (Nat.le_of_ble_eq_true rfl) (Nat.le_of_ble_eq_true rfl) (Nat.le_of_ble_eq_true rfl) [⟨0, 10, 13, 18⟩] ⟨0, 10, 17, 13⟩ [] rfl (fun z hz => by rw [List.mem_singleton.mp hz]; exact ⟨by decide, cl_L_18, rfl⟩) (by decide) (by decide) cl_L_13 ct_x_IAE (fun q9 d hd => ?_)
    refine x_astore dL_sending_17 (Nat.le_of_ble_eq_true rfl) rfl x_set_5_4 ?_
    refine x_iconst dL_sending_19 ?_
    exact x_iret dL_sending_20 rfl (Nat.le_of_ble_eq_true rfl) (Nat.le_of_ble_eq_true rfl) rfl rfl rfl ⟨d, hd, rfl⟩ rfl
theorem wr_hold {X : xC} {l : Launch} (hl : l.stackTraces = false) {N : Nat} {sh sh1 : xS} {D : xM} {ks : List Nat} (h96 : 96 < N) (s0 : sh 0 = .inr (11, ks)) (so : sh1 96 = .inl (3, 1)) {q : x_O} (hO : o_okN q) {P : xM → Prop} {p0 p1 : Int} (hc : x_M X l yX11_hold cX11_hold 4 (some .int) 8 1 6 [.ref (x_b X + 0), .int (xI p0), .int (xI p1)] false N sh D q false N sh1 P) : x_MH X l yL_hold cL_hold 5 (some .int) [(0, 10, 13, 18)] 9 1 6 [.ref (x_b X + 0), .int (xI p0), .int (xI p1), .ref (x_b X + 96)] N sh D (.inl (some (.int (xI (m_k 1 q))))) N sh1 (outp q P) := by
  have n0 : 0 < N := by omega
  rcases hO with ⟨z, rfl⟩ | rfl
  · refine x_ofWH (by decide +kernel) hl (by simp [Value.category]) (by simp) ?_
    refine x_aload_n dL_hold_0 x_get_5_3 ?_
    refine x_iconst dL_hold_1 ?_
    refine x_aload_n dL_hold_2 x_get_5_0 ?_
    refine x_iload_n dL_hold_3 x_get_5_1 ?_
    refine x_iload_n dL_hold_4 x_get_5_2 ?_
    refine x_callV (As := [_, _]) dL_hold_5 w_L_62 (hc) (by assumption) (by assumption) rfl rfl (Nat.le_of_ble_eq_true rfl) (Nat.le_of_ble_eq_true rfl) (Nat.le_of_ble_eq_true rfl) (Nat.le_of_ble_eq_true rfl) (Nat.le_of_ble_eq_true rfl) ?_
    intro d hd
    refine x_i2l dL_hold_8 ?_
    refine x_last dL_hold_9 h96 so (by decide) (by decide) (by decide) ?_
    refine x_goto (t := 17) dL_hold_10 rfl ?_
    refine x_iconst dL_hold_17 ?_
    exact x_iret dL_hold_18 rfl (Nat.le_of_ble_eq_true rfl) (Nat.le_of_ble_eq_true rfl) rfl rfl rfl ⟨d, hd, rfl⟩ rfl
  · rw [m_k_N]
    refine x_ofWH (by decide +kernel) hl (by simp [Value.category]) (by simp) ?_
    refine x_aload_n dL_hold_0 x_get_5_3 ?_
    refine x_iconst dL_hold_1 ?_
    refine x_aload_n dL_hold_2 x_get_5_0 ?_
    refine x_iload_n dL_hold_3 x_get_5_1 ?_
    refine x_iload_n dL_hold_4 x_get_5_2 ?_
    refine x_callVC (As := [_, _]) (name := x_NSE) dL_hold_5 w_L_62 hc n0 s0 rfl rfl (Nat.le_of_ble_eq_true rfl) (Nat.le_of_ble_eq_true rfl) (Nat.le_of_ble_eq_true rfl) (Nat.le_of_ble_eq_true rfl) (Nat.le_of_ble_eq_true rfl) [] ⟨0, 10, 13, 18⟩ [] rfl (fun z hz => by cases hz) (by decide) (by decide) cl_L_18 ct_x_NSE (fun q9 d hd => ?_)
    refine x_astore dL_hold_13 (Nat.le_of_ble_eq_true rfl) rfl x_set_5_4 ?_
    refine x_iconst dL_hold_15 ?_
    exact x_iret dL_hold_16 rfl (Nat.le_of_ble_eq_true rfl) (Nat.le_of_ble_eq_true rfl) rfl rfl rfl ⟨d, hd, rfl⟩ rfl
theorem wr_thrower {X : xC} {l : Launch} (hl : l.stackTraces = false) {N : Nat} {sh sh1 : xS} {D : xM} {ks : List Nat} (h96 : 96 < N) (s0 : sh 0 = .inr (11, ks)) (so : sh1 96 = .inl (3, 1)) {q : x_O} (hO : o_okI q) {P : xM → Prop} {p0 p1 p2 p3 : Int} (hc : x_M X l yX11_thrower cX11_thrower 5 (some .int) 10 1 6 [.ref (x_b X + 0), .int (xI p0), .int (xI p1), .int (xI p2), .int (xI p3)] false N sh D q false N sh1 P) : x_MH X l yL_thrower cL_thrower 7 (some .int) [(0, 14, 17, 13)] 11 1 6 [.ref (x_b X + 0), .int (xI p0), .int (xI p1), .int (xI p2), .int (xI p3), .ref (x_b X + 96)] N sh D (.inl (some (.int (xI (m_k 1 q))))) N sh1 (outp q P) := by
  have n0 : 0 < N := by omega
  rcases hO with ⟨z, rfl⟩ | rfl
  · refine x_ofWH (by decide +kernel) hl (by simp [Value.category]) (by simp) ?_
    refine x_aload dL_thrower_0 x_get_7_5 ?_
    refine x_iconst dL_thrower_2 ?_
    refine x_aload_n dL_thrower_3 x_get_7_0 ?_
    refine x_iload_n dL_thrower_4 x_get_7_1 ?_
    refine x_iload_n dL_thrower_5 x_get_7_2 ?_
    refine x_iload_n dL_thrower_6 x_get_7_3 ?_
    refine x_iload dL_thrower_7 x_get_7_4 ?_
    refine x_callV (As := [_, _, _, _]) dL_thrower_9 w_L_65 (hc) (by assumption) (by assumption) rfl rfl (Nat.le_of_ble_eq_true rfl) (Nat.le_of_ble_eq_true rfl) (Nat.le_of_ble_eq_true rfl) (Nat.le_of_ble_eq_true rfl) (Nat.le_of_ble_eq_true rfl) ?_
    intro d hd
    refine x_i2l dL_thrower_12 ?_
    refine x_last dL_thrower_13 h96 so (by decide) (by decide) (by decide) ?_
    refine x_goto (t := 21) dL_thrower_14 rfl ?_
    refine x_iconst dL_thrower_21 ?_
    exact x_iret dL_thrower_22 rfl (Nat.le_of_ble_eq_true rfl) (Nat.le_of_ble_eq_true rfl) rfl rfl rfl ⟨d, hd, rfl⟩ rfl
  · rw [m_k_I]
    refine x_ofWH (by decide +kernel) hl (by simp [Value.category]) (by simp) ?_
    refine x_aload dL_thrower_0 x_get_7_5 ?_
    refine x_iconst dL_thrower_2 ?_
    refine x_aload_n dL_thrower_3 x_get_7_0 ?_
    refine x_iload_n dL_thrower_4 x_get_7_1 ?_
    refine x_iload_n dL_thrower_5 x_get_7_2 ?_
    refine x_iload_n dL_thrower_6 x_get_7_3 ?_
    refine x_iload dL_thrower_7 x_get_7_4 ?_
    refine x_callVC (As := [_, _, _, _]) (name := x_IAE) dL_thrower_9 w_L_65 hc n0 s0 rfl rfl (Nat.le_of_ble_eq_true rfl) (Nat.le_of_ble_eq_true rfl) (Nat.le_of_ble_eq_true rfl) (Nat.le_of_ble_eq_true rfl) (Nat.le_of_ble_eq_true rfl) [] ⟨0, 14, 17, 13⟩ [] rfl (fun z hz => by cases hz) (by decide) (by decide) cl_L_13 ct_x_IAE (fun q9 d hd => ?_)
    refine x_astore dL_thrower_17 (Nat.le_of_ble_eq_true rfl) rfl x_set_7_6 ?_
    refine x_iconst dL_thrower_19 ?_
    exact x_iret dL_thrower_20 rfl (Nat.le_of_ble_eq_true rfl) (Nat.le_of_ble_eq_true rfl) rfl rfl rfl ⟨d, hd, rfl⟩ rfl
theorem wr_stop {X : xC} {l : Launch} (hl : l.stackTraces = false) {N : Nat} {sh sh1 : xS} {D : xM} {ks : List Nat} (h96 : 96 < N) (s0 : sh 0 = .inr (11, ks)) (so : sh1 96 = .inl (3, 1)) {q : x_O} (hO : o_okB q) {P : xM → Prop} {p0 p1 p2 p3 : Int} (hc : x_M X l yX11_stop cX11_stop 7 (some .int) 10 1 6 [.ref (x_b X + 0), .int (xI p0), .int (xI p1), .int (xI p2), .int (xI p3)] false N sh D q false N sh1 P) : x_MH X l yL_stop cL_stop 7 (some .int) [(0, 14, 17, 18), (0, 14, 21, 13)] 11 1 6 [.ref (x_b X + 0), .int (xI p0), .int (xI p1), .int (xI p2), .int (xI p3), .ref (x_b X + 96)] N sh D (.inl (some (.int (xI (m_k 2 q))))) N sh1 (outp q P) := by
  have n0 : 0 < N := by omega
  rcases hO with ⟨z, rfl⟩ | rfl | rfl
  · refine x_ofWH (by decide +kernel) hl (by simp [Value.category]) (by simp) ?_
    refine x_aload dL_stop_0 x_get_7_5 ?_
    refine x_iconst dL_stop_2 ?_
    refine x_aload_n dL_stop_3 x_get_7_0 ?_
    refine x_iload_n dL_stop_4 x_get_7_1 ?_
    refine x_iload_n dL_stop_5 x_get_7_2 ?_
    refine x_iload_n dL_stop_6 x_get_7_3 ?_
    refine x_iload dL_stop_7 x_get_7_4 ?_
    refine x_callV (As := [_, _, _, _]) dL_stop_9 w_L_69 (hc) (by assumption) (by assumption) rfl rfl (Nat.le_of_ble_eq_true rfl) (Nat.le_of_ble_eq_true rfl) (Nat.le_of_ble_eq_true rfl) (Nat.le_of_ble_eq_true rfl) (Nat.le_of_ble_eq_true rfl) ?_
    intro d hd
    refine x_i2l dL_stop_12 ?_
    refine x_last dL_stop_13 h96 so (by decide) (by decide) (by decide) ?_
    refine x_goto (t := 25) dL_stop_14 rfl ?_
    refine x_iconst dL_stop_25 ?_
    exact x_iret dL_stop_26 rfl (Nat.le_of_ble_eq_true rfl) (Nat.le_of_ble_eq_true rfl) rfl rfl rfl ⟨d, hd, rfl⟩ rfl
  · rw [m_k_N]
    refine x_ofWH (by decide +kernel) hl (by simp [Value.category]) (by simp) ?_
    refine x_aload dL_stop_0 x_get_7_5 ?_
    refine x_iconst dL_stop_2 ?_
    refine x_aload_n dL_stop_3 x_get_7_0 ?_
    refine x_iload_n dL_stop_4 x_get_7_1 ?_
    refine x_iload_n dL_stop_5 x_get_7_2 ?_
    refine x_iload_n dL_stop_6 x_get_7_3 ?_
    refine x_iload dL_stop_7 x_get_7_4 ?_
    refine x_callVC (As := [_, _, _, _]) (name := x_NSE) dL_stop_9 w_L_69 hc n0 s0 rfl rfl (Nat.le_of_ble_eq_true rfl) (Nat.le_of_ble_eq_true rfl) (Nat.le_of_ble_eq_true rfl) (Nat.le_of_ble_eq_true rfl) (Nat.le_of_ble_eq_true rfl) [] ⟨0, 14, 17, 18⟩ [⟨0, 14, 21, 13⟩] rfl (fun z hz => by cases hz) (by decide) (by decide) cl_L_18 ct_x_NSE (fun q9 d hd => ?_)
    refine x_astore dL_stop_17 (Nat.le_of_ble_eq_true rfl) rfl x_set_7_6 ?_
    refine x_iconst dL_stop_19 ?_
    exact x_iret dL_stop_20 rfl (Nat.le_of_ble_eq_true rfl) (Nat.le_of_ble_eq_true rfl) rfl rfl rfl ⟨d, hd, rfl⟩ rfl
  · rw [m_k_I]
    refine x_ofWH (by decide +kernel) hl (by simp [Value.category]) (by simp) ?_
    refine x_aload dL_stop_0 x_get_7_5 ?_
    refine x_iconst dL_stop_2 ?_
    refine x_aload_n dL_stop_3 x_get_7_0 ?_
    refine x_iload_n dL_stop_4 x_get_7_1 ?_
    refine x_iload_n dL_stop_5 x_get_7_2 ?_
    refine x_iload_n dL_stop_6 x_get_7_3 ?_
    refine x_iload dL_stop_7 x_get_7_4 ?_
    refine x_callVC (As := [_, _, _, _]) (name := x_IAE) dL_stop_9 w_L_69 hc n0 s0 rfl rfl (Nat.le_of_ble_eq_true rfl) (Nat.le_of_ble_eq_true rfl) (Nat.le_of_ble_eq_true rfl) (Nat.le_of_ble_eq_true rfl) (Nat.le_of_ble_eq_true rfl) [⟨0, 14, 17, 18⟩] ⟨0, 14, 21, 13⟩ [] rfl (fun z hz => by rw [List.mem_singleton.mp hz]; exact ⟨by decide, cl_L_18, rfl⟩) (by decide) (by decide) cl_L_13 ct_x_IAE (fun q9 d hd => ?_)
    refine x_astore dL_stop_21 (Nat.le_of_ble_eq_true rfl) rfl x_set_7_6 ?_
    refine x_iconst dL_stop_23 ?_
    exact x_iret dL_stop_24 rfl (Nat.le_of_ble_eq_true rfl) (Nat.le_of_ble_eq_true rfl) rfl rfl rfl ⟨d, hd, rfl⟩ rfl
theorem wr_see {X : xC} {l : Launch} (hl : l.stackTraces = false) {N : Nat} {sh sh1 : xS} {D : xM} {ks : List Nat} (h96 : 96 < N) (s0 : sh 0 = .inr (11, ks)) (so : sh1 96 = .inl (3, 1)) {q : x_O} (hO : o_okN q) {P : xM → Prop} {p0 p1 p2 : Int} (hc : x_M X l yX11_see cX11_see 4 (some .int) 7 1 6 [.ref (x_b X + 0), .int (xI p0), .int (xI p1), .int (xI p2)] false N sh D q false N sh1 P) : x_MH X l yL_see cL_see 6 (some .int) [(0, 12, 15, 18)] 8 1 6 [.ref (x_b X + 0), .int (xI p0), .int (xI p1), .int (xI p2), .ref (x_b X + 96)] N sh D (.inl (some (.int (xI (m_k 1 q))))) N sh1 (outp q P) := by
  have n0 : 0 < N := by omega
  rcases hO with ⟨z, rfl⟩ | rfl
  · refine x_ofWH (by decide +kernel) hl (by simp [Value.category]) (by simp) ?_
    refine x_aload dL_see_0 x_get_6_4 ?_
    refine x_iconst dL_see_2 ?_
    refine x_aload_n dL_see_3 x_get_6_0 ?_
    refine x_iload_n dL_see_4 x_get_6_1 ?_
    refine x_iload_n dL_see_5 x_get_6_2 ?_
    refine x_iload_n dL_see_6 x_get_6_3 ?_
    refine x_callV (As := [_, _, _]) dL_see_7 w_L_72 (hc) (by assumption) (by assumption) rfl rfl (Nat.le_of_ble_eq_true rfl) (Nat.le_of_ble_eq_true rfl) (Nat.le_of_ble_eq_true rfl) (Nat.le_of_ble_eq_true rfl) (Nat.le_of_ble_eq_true rfl) ?_
    intro d hd
    refine x_i2l dL_see_10 ?_
    refine x_last dL_see_11 h96 so (by decide) (by decide) (by decide) ?_
    refine x_goto (t := 19) dL_see_12 rfl ?_
    refine x_iconst dL_see_19 ?_
    exact x_iret dL_see_20 rfl (Nat.le_of_ble_eq_true rfl) (Nat.le_of_ble_eq_true rfl) rfl rfl rfl ⟨d, hd, rfl⟩ rfl
  · rw [m_k_N]
    refine x_ofWH (by decide +kernel) hl (by simp [Value.category]) (by simp) ?_
    refine x_aload dL_see_0 x_get_6_4 ?_
    refine x_iconst dL_see_2 ?_
    refine x_aload_n dL_see_3 x_get_6_0 ?_
    refine x_iload_n dL_see_4 x_get_6_1 ?_
    refine x_iload_n dL_see_5 x_get_6_2 ?_
    refine x_iload_n dL_see_6 x_get_6_3 ?_
    refine x_callVC (As := [_, _, _]) (name := x_NSE) dL_see_7 w_L_72 hc n0 s0 rfl rfl (Nat.le_of_ble_eq_true rfl) (Nat.le_of_ble_eq_true rfl) (Nat.le_of_ble_eq_true rfl) (Nat.le_of_ble_eq_true rfl) (Nat.le_of_ble_eq_true rfl) [] ⟨0, 12, 15, 18⟩ [] rfl (fun z hz => by cases hz) (by decide) (by decide) cl_L_18 ct_x_NSE (fun q9 d hd => ?_)
    refine x_astore dL_see_15 (Nat.le_of_ble_eq_true rfl) rfl x_set_6_5 ?_
    refine x_iconst dL_see_17 ?_
    exact x_iret dL_see_18 rfl (Nat.le_of_ble_eq_true rfl) (Nat.le_of_ble_eq_true rfl) rfl rfl rfl ⟨d, hd, rfl⟩ rfl
theorem wr_opened {X : xC} {l : Launch} (hl : l.stackTraces = false) {N : Nat} {sh sh1 : xS} {D : xM} {ks : List Nat} (h96 : 96 < N) (s0 : sh 0 = .inr (11, ks)) (so : sh1 96 = .inl (3, 1)) {q : x_O} (hO : o_okN q) {P : xM → Prop} {p0 : Int} (hc : x_M X l yX11_opened cX11_opened 3 (some .int) 9 1 6 [.ref (x_b X + 0), .int (xI p0)] false N sh D q false N sh1 P) : x_MH X l yL_opened cL_opened 4 (some .int) [(0, 9, 12, 18)] 10 1 6 [.ref (x_b X + 0), .int (xI p0), .ref (x_b X + 96)] N sh D (.inl (some (.int (xI (m_k 1 q))))) N sh1 (outp q P) := by
  have n0 : 0 < N := by omega
  rcases hO with ⟨z, rfl⟩ | rfl
  · refine x_ofWH (by decide +kernel) hl (by simp [Value.category]) (by simp) ?_
    refine x_aload_n dL_opened_0 x_get_4_2 ?_
    refine x_iconst dL_opened_1 ?_
    refine x_aload_n dL_opened_2 x_get_4_0 ?_
    refine x_iload_n dL_opened_3 x_get_4_1 ?_
    refine x_callV (As := [_]) dL_opened_4 w_L_75 (hc) (by assumption) (by assumption) rfl rfl (Nat.le_of_ble_eq_true rfl) (Nat.le_of_ble_eq_true rfl) (Nat.le_of_ble_eq_true rfl) (Nat.le_of_ble_eq_true rfl) (Nat.le_of_ble_eq_true rfl) ?_
    intro d hd
    refine x_i2l dL_opened_7 ?_
    refine x_last dL_opened_8 h96 so (by decide) (by decide) (by decide) ?_
    refine x_goto (t := 15) dL_opened_9 rfl ?_
    refine x_iconst dL_opened_15 ?_
    exact x_iret dL_opened_16 rfl (Nat.le_of_ble_eq_true rfl) (Nat.le_of_ble_eq_true rfl) rfl rfl rfl ⟨d, hd, rfl⟩ rfl
  · rw [m_k_N]
    refine x_ofWH (by decide +kernel) hl (by simp [Value.category]) (by simp) ?_
    refine x_aload_n dL_opened_0 x_get_4_2 ?_
    refine x_iconst dL_opened_1 ?_
    refine x_aload_n dL_opened_2 x_get_4_0 ?_
    refine x_iload_n dL_opened_3 x_get_4_1 ?_
    refine x_callVC (As := [_]) (name := x_NSE) dL_opened_4 w_L_75 hc n0 s0 rfl rfl (Nat.le_of_ble_eq_true rfl) (Nat.le_of_ble_eq_true rfl) (Nat.le_of_ble_eq_true rfl) (Nat.le_of_ble_eq_true rfl) (Nat.le_of_ble_eq_true rfl) [] ⟨0, 9, 12, 18⟩ [] rfl (fun z hz => by cases hz) (by decide) (by decide) cl_L_18 ct_x_NSE (fun q9 d hd => ?_)
    refine x_astore_n dL_opened_12 (Nat.le_of_ble_eq_true rfl) rfl x_set_4_3 ?_
    refine x_iconst dL_opened_13 ?_
    exact x_iret dL_opened_14 rfl (Nat.le_of_ble_eq_true rfl) (Nat.le_of_ble_eq_true rfl) rfl rfl rfl ⟨d, hd, rfl⟩ rfl
theorem wr_next {X : xC} {l : Launch} (hl : l.stackTraces = false) {N : Nat} {sh sh1 : xS} {D : xM} {ks : List Nat} (h96 : 96 < N) (s0 : sh 0 = .inr (11, ks)) (so : sh1 96 = .inl (3, 1)) {q : x_O} (hO : o_okN q) {P : xM → Prop} {p0 : Int} (hc : x_M X l yX11_next cX11_next 6 (some .int) 9 1 6 [.ref (x_b X + 0), .int (xI p0)] false N sh D q false N sh1 P) : x_MH X l yL_next cL_next 4 (some .int) [(0, 9, 12, 18)] 10 1 6 [.ref (x_b X + 0), .int (xI p0), .ref (x_b X + 96)] N sh D (.inl (some (.int (xI (m_k 1 q))))) N sh1 (outp q P) := by
  have n0 : 0 < N := by omega
  rcases hO with ⟨z, rfl⟩ | rfl
  · refine x_ofWH (by decide +kernel) hl (by simp [Value.category]) (by simp) ?_
    refine x_aload_n dL_next_0 x_get_4_2 ?_
    refine x_iconst dL_next_1 ?_
    refine x_aload_n dL_next_2 x_get_4_0 ?_
    refine x_iload_n dL_next_3 x_get_4_1 ?_
    refine x_callV (As := [_]) dL_next_4 w_L_78 (hc) (by assumption) (by assumption) rfl rfl (Nat.le_of_ble_eq_true rfl) (Nat.le_of_ble_eq_true rfl) (Nat.le_of_ble_eq_true rfl) (Nat.le_of_ble_eq_true rfl) (Nat.le_of_ble_eq_true rfl) ?_
    intro d hd
    refine x_i2l dL_next_7 ?_
    refine x_last dL_next_8 h96 so (by decide) (by decide) (by decide) ?_
    refine x_goto (t := 15) dL_next_9 rfl ?_
    refine x_iconst dL_next_15 ?_
    exact x_iret dL_next_16 rfl (Nat.le_of_ble_eq_true rfl) (Nat.le_of_ble_eq_true rfl) rfl rfl rfl ⟨d, hd, rfl⟩ rfl
  · rw [m_k_N]
    refine x_ofWH (by decide +kernel) hl (by simp [Value.category]) (by simp) ?_
    refine x_aload_n dL_next_0 x_get_4_2 ?_
    refine x_iconst dL_next_1 ?_
    refine x_aload_n dL_next_2 x_get_4_0 ?_
    refine x_iload_n dL_next_3 x_get_4_1 ?_
    refine x_callVC (As := [_]) (name := x_NSE) dL_next_4 w_L_78 hc n0 s0 rfl rfl (Nat.le_of_ble_eq_true rfl) (Nat.le_of_ble_eq_true rfl) (Nat.le_of_ble_eq_true rfl) (Nat.le_of_ble_eq_true rfl) (Nat.le_of_ble_eq_true rfl) [] ⟨0, 9, 12, 18⟩ [] rfl (fun z hz => by cases hz) (by decide) (by decide) cl_L_18 ct_x_NSE (fun q9 d hd => ?_)
    refine x_astore_n dL_next_12 (Nat.le_of_ble_eq_true rfl) rfl x_set_4_3 ?_
    refine x_iconst dL_next_13 ?_
    exact x_iret dL_next_14 rfl (Nat.le_of_ble_eq_true rfl) (Nat.le_of_ble_eq_true rfl) rfl rfl rfl ⟨d, hd, rfl⟩ rfl
theorem wr_pooled {X : xC} {l : Launch} (hl : l.stackTraces = false) {N : Nat} {sh sh1 : xS} {D : xM} {ks : List Nat} (h96 : 96 < N) (s0 : sh 0 = .inr (11, ks)) (so : sh1 96 = .inl (3, 1)) {q : x_O} (hO : o_okI q) {P : xM → Prop} {p0 : Int} (hc : x_M X l yX11_pooled cX11_pooled 3 (some .int) 8 1 6 [.ref (x_b X + 0), .int (xI p0)] false N sh D q false N sh1 P) : x_MH X l yL_pooled cL_pooled 4 (some .int) [(0, 9, 12, 13)] 9 1 6 [.ref (x_b X + 0), .int (xI p0), .ref (x_b X + 96)] N sh D (.inl (some (.int (xI (m_k 1 q))))) N sh1 (outp q P) := by
  have n0 : 0 < N := by omega
  rcases hO with ⟨z, rfl⟩ | rfl
  · refine x_ofWH (by decide +kernel) hl (by simp [Value.category]) (by simp) ?_
    refine x_aload_n dL_pooled_0 x_get_4_2 ?_
    refine x_iconst dL_pooled_1 ?_
    refine x_aload_n dL_pooled_2 x_get_4_0 ?_
    refine x_iload_n dL_pooled_3 x_get_4_1 ?_
    refine x_callV (As := [_]) dL_pooled_4 w_L_81 (hc) (by assumption) (by assumption) rfl rfl (Nat.le_of_ble_eq_true rfl) (Nat.le_of_ble_eq_true rfl) (Nat.le_of_ble_eq_true rfl) (Nat.le_of_ble_eq_true rfl) (Nat.le_of_ble_eq_true rfl) ?_
    intro d hd
    refine x_i2l dL_pooled_7 ?_
    refine x_last dL_pooled_8 h96 so (by decide) (by decide) (by decide) ?_
    refine x_goto (t := 15) dL_pooled_9 rfl ?_
    refine x_iconst dL_pooled_15 ?_
    exact x_iret dL_pooled_16 rfl (Nat.le_of_ble_eq_true rfl) (Nat.le_of_ble_eq_true rfl) rfl rfl rfl ⟨d, hd, rfl⟩ rfl
  · rw [m_k_I]
    refine x_ofWH (by decide +kernel) hl (by simp [Value.category]) (by simp) ?_
    refine x_aload_n dL_pooled_0 x_get_4_2 ?_
    refine x_iconst dL_pooled_1 ?_
    refine x_aload_n dL_pooled_2 x_get_4_0 ?_
    refine x_iload_n dL_pooled_3 x_get_4_1 ?_
    refine x_callVC (As := [_]) (name := x_IAE) dL_pooled_4 w_L_81 hc n0 s0 rfl rfl (Nat.le_of_ble_eq_true rfl) (Nat.le_of_ble_eq_true rfl) (Nat.le_of_ble_eq_true rfl) (Nat.le_of_ble_eq_true rfl) (Nat.le_of_ble_eq_true rfl) [] ⟨0, 9, 12, 13⟩ [] rfl (fun z hz => by cases hz) (by decide) (by decide) cl_L_13 ct_x_IAE (fun q9 d hd => ?_)
    refine x_astore_n dL_pooled_12 (Nat.le_of_ble_eq_true rfl) rfl x_set_4_3 ?_
    refine x_iconst dL_pooled_13 ?_
    exact x_iret dL_pooled_14 rfl (Nat.le_of_ble_eq_true rfl) (Nat.le_of_ble_eq_true rfl) rfl rfl rfl ⟨d, hd, rfl⟩ rfl
theorem wr_game {X : xC} {l : Launch} (hl : l.stackTraces = false) {N : Nat} {sh sh1 : xS} {D : xM} {ks : List Nat} (h96 : 96 < N) (s0 : sh 0 = .inr (11, ks)) (so : sh1 96 = .inl (3, 1)) {q : x_O} (hO : o_okB q) {P : xM → Prop} {p0 p1 p2 : Int} (hc : x_M X l yX11_game cX11_game 8 (some .int) 8 1 6 [.ref (x_b X + 0), .int (xI p0), .int (xI p1), .int (xI p2)] false N sh D q false N sh1 P) : x_MH X l yL_game cL_game 6 (some .int) [(0, 12, 15, 18), (0, 12, 19, 13)] 9 1 6 [.ref (x_b X + 0), .int (xI p0), .int (xI p1), .int (xI p2), .ref (x_b X + 96)] N sh D (.inl (some (.int (xI (m_k 2 q))))) N sh1 (outp q P) := by
  have n0 : 0 < N := by omega
  rcases hO with ⟨z, rfl⟩ | rfl | rfl
  · refine x_ofWH (by decide +kernel) hl (by simp [Value.category]) (by simp) ?_
    refine x_aload dL_game_0 x_get_6_4 ?_
    refine x_iconst dL_game_2 ?_
    refine x_aload_n dL_game_3 x_get_6_0 ?_
    refine x_iload_n dL_game_4 x_get_6_1 ?_
    refine x_iload_n dL_game_5 x_get_6_2 ?_
    refine x_iload_n dL_game_6 x_get_6_3 ?_
    refine x_callV (As := [_, _, _]) dL_game_7 w_L_84 (hc) (by assumption) (by assumption) rfl rfl (Nat.le_of_ble_eq_true rfl) (Nat.le_of_ble_eq_true rfl) (Nat.le_of_ble_eq_true rfl) (Nat.le_of_ble_eq_true rfl) (Nat.le_of_ble_eq_true rfl) ?_
    intro d hd
    refine x_i2l dL_game_10 ?_
    refine x_last dL_game_11 h96 so (by decide) (by decide) (by decide) ?_
    refine x_goto (t := 23) dL_game_12 rfl ?_
    refine x_iconst dL_game_23 ?_
    exact x_iret dL_game_24 rfl (Nat.le_of_ble_eq_true rfl) (Nat.le_of_ble_eq_true rfl) rfl rfl rfl ⟨d, hd, rfl⟩ rfl
  · rw [m_k_N]
    refine x_ofWH (by decide +kernel) hl (by simp [Value.category]) (by simp) ?_
    refine x_aload dL_game_0 x_get_6_4 ?_
    refine x_iconst dL_game_2 ?_
    refine x_aload_n dL_game_3 x_get_6_0 ?_
    refine x_iload_n dL_game_4 x_get_6_1 ?_
    refine x_iload_n dL_game_5 x_get_6_2 ?_
    refine x_iload_n dL_game_6 x_get_6_3 ?_
    refine x_callVC (As := [_, _, _]) (name := x_NSE) dL_game_7 w_L_84 hc n0 s0 rfl rfl (Nat.le_of_ble_eq_true rfl) (Nat.le_of_ble_eq_true rfl) (Nat.le_of_ble_eq_true rfl) (Nat.le_of_ble_eq_true rfl) (Nat.le_of_ble_eq_true rfl) [] ⟨0, 12, 15, 18⟩ [⟨0, 12, 19, 13⟩] rfl (fun z hz => by cases hz) (by decide) (by decide) cl_L_18 ct_x_NSE (fun q9 d hd => ?_)
    refine x_astore dL_game_15 (Nat.le_of_ble_eq_true rfl) rfl x_set_6_5 ?_
    refine x_iconst dL_game_17 ?_
    exact x_iret dL_game_18 rfl (Nat.le_of_ble_eq_true rfl) (Nat.le_of_ble_eq_true rfl) rfl rfl rfl ⟨d, hd, rfl⟩ rfl
  · rw [m_k_I]
    refine x_ofWH (by decide +kernel) hl (by simp [Value.category]) (by simp) ?_
    refine x_aload dL_game_0 x_get_6_4 ?_
    refine x_iconst dL_game_2 ?_
    refine x_aload_n dL_game_3 x_get_6_0 ?_
    refine x_iload_n dL_game_4 x_get_6_1 ?_
    refine x_iload_n dL_game_5 x_get_6_2 ?_
    refine x_iload_n dL_game_6 x_get_6_3 ?_
    refine x_callVC (As := [_, _, _]) (name := x_IAE) dL_game_7 w_L_84 hc n0 s0 rfl rfl (Nat.le_of_ble_eq_true rfl) (Nat.le_of_ble_eq_true rfl) (Nat.le_of_ble_eq_true rfl) (Nat.le_of_ble_eq_true rfl) (Nat.le_of_ble_eq_true rfl) [⟨0, 12, 15, 18⟩] ⟨0, 12, 19, 13⟩ [] rfl (fun z hz => by rw [List.mem_singleton.mp hz]; exact ⟨by decide, cl_L_18, rfl⟩) (by decide) (by decide) cl_L_13 ct_x_IAE (fun q9 d hd => ?_)
    refine x_astore dL_game_19 (Nat.le_of_ble_eq_true rfl) rfl x_set_6_5 ?_
    refine x_iconst dL_game_21 ?_
    exact x_iret dL_game_22 rfl (Nat.le_of_ble_eq_true rfl) (Nat.le_of_ble_eq_true rfl) rfl rfl rfl ⟨d, hd, rfl⟩ rfl
theorem wr_years {X : xC} {l : Launch} (hl : l.stackTraces = false) {N : Nat} {sh sh1 : xS} {D : xM} {ks : List Nat} (h96 : 96 < N) (s0 : sh 0 = .inr (11, ks)) (so : sh1 96 = .inl (3, 1)) {q : x_O} (hO : o_okB q) {P : xM → Prop} {p0 p1 p2 : Int} (hc : x_M X l yX11_years cX11_years 5 (some .int) 7 1 6 [.ref (x_b X + 0), .int (xI p0), .int (xI p1), .int (xI p2)] false N sh D q false N sh1 P) : x_MH X l yL_years cL_years 6 (some .int) [(0, 12, 15, 18), (0, 12, 19, 13)] 8 1 6 [.ref (x_b X + 0), .int (xI p0), .int (xI p1), .int (xI p2), .ref (x_b X + 96)] N sh D (.inl (some (.int (xI (m_k 2 q))))) N sh1 (outp q P) := by
  have n0 : 0 < N := by omega
  rcases hO with ⟨z, rfl⟩ | rfl | rfl
  · refine x_ofWH (by decide +kernel) hl (by simp [Value.category]) (by simp) ?_
    refine x_aload dL_years_0 x_get_6_4 ?_
    refine x_iconst dL_years_2 ?_
    refine x_aload_n dL_years_3 x_get_6_0 ?_
    refine x_iload_n dL_years_4 x_get_6_1 ?_
    refine x_iload_n dL_years_5 x_get_6_2 ?_
    refine x_iload_n dL_years_6 x_get_6_3 ?_
    refine x_callV (As := [_, _, _]) dL_years_7 w_L_87 (hc) (by assumption) (by assumption) rfl rfl (Nat.le_of_ble_eq_true rfl) (Nat.le_of_ble_eq_true rfl) (Nat.le_of_ble_eq_true rfl) (Nat.le_of_ble_eq_true rfl) (Nat.le_of_ble_eq_true rfl) ?_
    intro d hd
    refine x_i2l dL_years_10 ?_
    refine x_last dL_years_11 h96 so (by decide) (by decide) (by decide) ?_
    refine x_goto (t := 23) dL_years_12 rfl ?_
    refine x_iconst dL_years_23 ?_
    exact x_iret dL_years_24 rfl (Nat.le_of_ble_eq_true rfl) (Nat.le_of_ble_eq_true rfl) rfl rfl rfl ⟨d, hd, rfl⟩ rfl
  · rw [m_k_N]
    refine x_ofWH (by decide +kernel) hl (by simp [Value.category]) (by simp) ?_
    refine x_aload dL_years_0 x_get_6_4 ?_
    refine x_iconst dL_years_2 ?_
    refine x_aload_n dL_years_3 x_get_6_0 ?_
    refine x_iload_n dL_years_4 x_get_6_1 ?_
    refine x_iload_n dL_years_5 x_get_6_2 ?_
    refine x_iload_n dL_years_6 x_get_6_3 ?_
    refine x_callVC (As := [_, _, _]) (name := x_NSE) dL_years_7 w_L_87 hc n0 s0 rfl rfl (Nat.le_of_ble_eq_true rfl) (Nat.le_of_ble_eq_true rfl) (Nat.le_of_ble_eq_true rfl) (Nat.le_of_ble_eq_true rfl) (Nat.le_of_ble_eq_true rfl) [] ⟨0, 12, 15, 18⟩ [⟨0, 12, 19, 13⟩] rfl (fun z hz => by cases hz) (by decide) (by decide) cl_L_18 ct_x_NSE (fun q9 d hd => ?_)
    refine x_astore dL_years_15 (Nat.le_of_ble_eq_true rfl) rfl x_set_6_5 ?_
    refine x_iconst dL_years_17 ?_
    exact x_iret dL_years_18 rfl (Nat.le_of_ble_eq_true rfl) (Nat.le_of_ble_eq_true rfl) rfl rfl rfl ⟨d, hd, rfl⟩ rfl
  · rw [m_k_I]
    refine x_ofWH (by decide +kernel) hl (by simp [Value.category]) (by simp) ?_
    refine x_aload dL_years_0 x_get_6_4 ?_
    refine x_iconst dL_years_2 ?_
    refine x_aload_n dL_years_3 x_get_6_0 ?_
    refine x_iload_n dL_years_4 x_get_6_1 ?_
    refine x_iload_n dL_years_5 x_get_6_2 ?_
    refine x_iload_n dL_years_6 x_get_6_3 ?_
    refine x_callVC (As := [_, _, _]) (name := x_IAE) dL_years_7 w_L_87 hc n0 s0 rfl rfl (Nat.le_of_ble_eq_true rfl) (Nat.le_of_ble_eq_true rfl) (Nat.le_of_ble_eq_true rfl) (Nat.le_of_ble_eq_true rfl) (Nat.le_of_ble_eq_true rfl) [⟨0, 12, 15, 18⟩] ⟨0, 12, 19, 13⟩ [] rfl (fun z hz => by rw [List.mem_singleton.mp hz]; exact ⟨by decide, cl_L_18, rfl⟩) (by decide) (by decide) cl_L_13 ct_x_IAE (fun q9 d hd => ?_)
    refine x_astore dL_years_19 (Nat.le_of_ble_eq_true rfl) rfl x_set_6_5 ?_
    refine x_iconst dL_years_21 ?_
    exact x_iret dL_years_22 rfl (Nat.le_of_ble_eq_true rfl) (Nat.le_of_ble_eq_true rfl) rfl rfl rfl ⟨d, hd, rfl⟩ rfl
theorem wr_thief {X : xC} {l : Launch} (hl : l.stackTraces = false) {N : Nat} {sh sh1 : xS} {D : xM} {ks : List Nat} (h96 : 96 < N) (s0 : sh 0 = .inr (11, ks)) (so : sh1 96 = .inl (3, 1)) {q : x_O} (hO : o_okB q) {P : xM → Prop} {p0 p1 : Int} (hc : x_M X l yX11_thief cX11_thief 3 (some .int) 7 1 6 [.ref (x_b X + 0), .int (xI p0), .int (xI p1)] false N sh D q false N sh1 P) : x_MH X l yL_thief cL_thief 5 (some .int) [(0, 10, 13, 18), (0, 10, 17, 13)] 8 1 6 [.ref (x_b X + 0), .int (xI p0), .int (xI p1), .ref (x_b X + 96)] N sh D (.inl (some (.int (xI (m_k 2 q))))) N sh1 (outp q P) := by
  have n0 : 0 < N := by omega
  rcases hO with ⟨z, rfl⟩ | rfl | rfl
  · refine x_ofWH (by decide +kernel) hl (by simp [Value.category]) (by simp) ?_
    refine x_aload_n dL_thief_0 x_get_5_3 ?_
    refine x_iconst dL_thief_1 ?_
    refine x_aload_n dL_thief_2 x_get_5_0 ?_
    refine x_iload_n dL_thief_3 x_get_5_1 ?_
    refine x_iload_n dL_thief_4 x_get_5_2 ?_
    refine x_callV (As := [_, _]) dL_thief_5 w_L_90 (hc) (by assumption) (by assumption) rfl rfl (Nat.le_of_ble_eq_true rfl) (Nat.le_of_ble_eq_true rfl) (Nat.le_of_ble_eq_true rfl) (Nat.le_of_ble_eq_true rfl) (Nat.le_of_ble_eq_true rfl) ?_
    intro d hd
    refine x_i2l dL_thief_8 ?_
    refine x_last dL_thief_9 h96 so (by decide) (by decide) (by decide) ?_
    refine x_goto (t := 21) dL_thief_10 rfl ?_
    refine x_iconst dL_thief_21 ?_
    exact x_iret dL_thief_22 rfl (Nat.le_of_ble_eq_true rfl) (Nat.le_of_ble_eq_true rfl) rfl rfl rfl ⟨d, hd, rfl⟩ rfl
  · rw [m_k_N]
    refine x_ofWH (by decide +kernel) hl (by simp [Value.category]) (by simp) ?_
    refine x_aload_n dL_thief_0 x_get_5_3 ?_
    refine x_iconst dL_thief_1 ?_
    refine x_aload_n dL_thief_2 x_get_5_0 ?_
    refine x_iload_n dL_thief_3 x_get_5_1 ?_
    refine x_iload_n dL_thief_4 x_get_5_2 ?_
    refine x_callVC (As := [_, _]) (name := x_NSE) dL_thief_5 w_L_90 hc n0 s0 rfl rfl (Nat.le_of_ble_eq_true rfl) (Nat.le_of_ble_eq_true rfl) (Nat.le_of_ble_eq_true rfl) (Nat.le_of_ble_eq_true rfl) (Nat.le_of_ble_eq_true rfl) [] ⟨0, 10, 13, 18⟩ [⟨0, 10, 17, 13⟩] rfl (fun z hz => by cases hz) (by decide) (by decide) cl_L_18 ct_x_NSE (fun q9 d hd => ?_)
    refine x_astore dL_thief_13 (Nat.le_of_ble_eq_true rfl) rfl x_set_5_4 ?_
    refine x_iconst dL_thief_15 ?_
    exact x_iret dL_thief_16 rfl (Nat.le_of_ble_eq_true rfl) (Nat.le_of_ble_eq_true rfl) rfl rfl rfl ⟨d, hd, rfl⟩ rfl
  · rw [m_k_I]
    refine x_ofWH (by decide +kernel) hl (by simp [Value.category]) (by simp) ?_
    refine x_aload_n dL_thief_0 x_get_5_3 ?_
    refine x_iconst dL_thief_1 ?_
    refine x_aload_n dL_thief_2 x_get_5_0 ?_
    refine x_iload_n dL_thief_3 x_get_5_1 ?_
    refine x_iload_n dL_thief_4 x_get_5_2 ?_
    refine x_callVC (As := [_, _]) (name := x_IAE) dL_thief_5 w_L_90 hc n0 s0 rfl rfl (Nat.le_of_ble_eq_true rfl) (Nat.le_of_ble_eq_true rfl) (Nat.le_of_ble_eq_true rfl) (Nat.le_of_ble_eq_true rfl) (Nat.le_of_ble_eq_true rfl) [⟨0, 10, 13, 18⟩] ⟨0, 10, 17, 13⟩ [] rfl (fun z hz => by rw [List.mem_singleton.mp hz]; exact ⟨by decide, cl_L_18, rfl⟩) (by decide) (by decide) cl_L_13 ct_x_IAE (fun q9 d hd => ?_)
    refine x_astore dL_thief_17 (Nat.le_of_ble_eq_true rfl) rfl x_set_5_4 ?_
    refine x_iconst dL_thief_19 ?_
    exact x_iret dL_thief_20 rfl (Nat.le_of_ble_eq_true rfl) (Nat.le_of_ble_eq_true rfl) rfl rfl rfl ⟨d, hd, rfl⟩ rfl
theorem wr_row {X : xC} {l : Launch} (hl : l.stackTraces = false) {N : Nat} {sh sh1 : xS} {D : xM} {ks : List Nat} (h96 : 96 < N) (s0 : sh 0 = .inr (11, ks)) (so : sh1 96 = .inl (3, 1)) {q : x_O} (hO : o_okN q) {P : xM → Prop} {p0 p1 p2 : Int} (hc : x_M X l yX11_row cX11_row 5 (some .int) 7 1 6 [.ref (x_b X + 0), .int (xI p0), .int (xI p1), .int (xI p2)] false N sh D q false N sh1 P) : x_MH X l yL_row cL_row 6 (some .int) [(0, 12, 15, 18)] 8 1 6 [.ref (x_b X + 0), .int (xI p0), .int (xI p1), .int (xI p2), .ref (x_b X + 96)] N sh D (.inl (some (.int (xI (m_k 1 q))))) N sh1 (outp q P) := by
  have n0 : 0 < N := by omega
  rcases hO with ⟨z, rfl⟩ | rfl
  · refine x_ofWH (by decide +kernel) hl (by simp [Value.category]) (by simp) ?_
    refine x_aload dL_row_0 x_get_6_4 ?_
    refine x_iconst dL_row_2 ?_
    refine x_aload_n dL_row_3 x_get_6_0 ?_
    refine x_iload_n dL_row_4 x_get_6_1 ?_
    refine x_iload_n dL_row_5 x_get_6_2 ?_
    refine x_iload_n dL_row_6 x_get_6_3 ?_
    refine x_callV (As := [_, _, _]) dL_row_7 w_L_93 (hc) (by assumption) (by assumption) rfl rfl (Nat.le_of_ble_eq_true rfl) (Nat.le_of_ble_eq_true rfl) (Nat.le_of_ble_eq_true rfl) (Nat.le_of_ble_eq_true rfl) (Nat.le_of_ble_eq_true rfl) ?_
    intro d hd
    refine x_i2l dL_row_10 ?_
    refine x_last dL_row_11 h96 so (by decide) (by decide) (by decide) ?_
    refine x_goto (t := 19) dL_row_12 rfl ?_
    refine x_iconst dL_row_19 ?_
    exact x_iret dL_row_20 rfl (Nat.le_of_ble_eq_true rfl) (Nat.le_of_ble_eq_true rfl) rfl rfl rfl ⟨d, hd, rfl⟩ rfl
  · rw [m_k_N]
    refine x_ofWH (by decide +kernel) hl (by simp [Value.category]) (by simp) ?_
    refine x_aload dL_row_0 x_get_6_4 ?_
    refine x_iconst dL_row_2 ?_
    refine x_aload_n dL_row_3 x_get_6_0 ?_
    refine x_iload_n dL_row_4 x_get_6_1 ?_
    refine x_iload_n dL_row_5 x_get_6_2 ?_
    refine x_iload_n dL_row_6 x_get_6_3 ?_
    refine x_callVC (As := [_, _, _]) (name := x_NSE) dL_row_7 w_L_93 hc n0 s0 rfl rfl (Nat.le_of_ble_eq_true rfl) (Nat.le_of_ble_eq_true rfl) (Nat.le_of_ble_eq_true rfl) (Nat.le_of_ble_eq_true rfl) (Nat.le_of_ble_eq_true rfl) [] ⟨0, 12, 15, 18⟩ [] rfl (fun z hz => by cases hz) (by decide) (by decide) cl_L_18 ct_x_NSE (fun q9 d hd => ?_)
    refine x_astore dL_row_15 (Nat.le_of_ble_eq_true rfl) rfl x_set_6_5 ?_
    refine x_iconst dL_row_17 ?_
    exact x_iret dL_row_18 rfl (Nat.le_of_ble_eq_true rfl) (Nat.le_of_ble_eq_true rfl) rfl rfl rfl ⟨d, hd, rfl⟩ rfl
theorem wr_bridge {X : xC} {l : Launch} (hl : l.stackTraces = false) {N : Nat} {sh sh1 : xS} {D : xM} {ks : List Nat} (h96 : 96 < N) (s0 : sh 0 = .inr (11, ks)) (so : sh1 96 = .inl (3, 1)) {q : x_O} (hO : (∃ z : Int, (z = 0 ∨ z = 1) ∧ q = o_i z) ∨ q = .inr x_NSE) {P : xM → Prop} {p0 : Int} (hc : x_M X l yX11_bridge cX11_bridge 2 (some .boolean) 7 1 6 [.ref (x_b X + 0), .int (xI p0)] false N sh D q false N sh1 P) : x_MH X l yL_bridge cL_bridge 4 (some .int) [(0, 16, 19, 18)] 8 1 6 [.ref (x_b X + 0), .int (xI p0), .ref (x_b X + 96)] N sh D (.inl (some (.int (xI (m_k 1 q))))) N sh1 (outp q P) := by
  have n0 : 0 < N := by omega
  rcases hO with ⟨z, rfl | rfl, rfl⟩ | rfl
  · refine x_ofWH (by decide +kernel) hl (by simp [Value.category]) (by simp) ?_
    refine x_aload_n dL_bridge_0 x_get_4_2 ?_
    refine x_iconst dL_bridge_1 ?_
    refine x_aload_n dL_bridge_2 x_get_4_0 ?_
    refine x_iload_n dL_bridge_3 x_get_4_1 ?_
    refine x_callV (As := [_]) dL_bridge_4 w_L_96 (hc) (by assumption) (by assumption) rfl rfl (Nat.le_of_ble_eq_true rfl) (Nat.le_of_ble_eq_true rfl) (Nat.le_of_ble_eq_true rfl) (Nat.le_of_ble_eq_true rfl) (Nat.le_of_ble_eq_true rfl) ?_
    intro d hd
    refine r_if_eq (t := 14) dL_bridge_7 rfl ⟨by decide, by decide⟩ (fun hc7 => ?_) (fun hc7 => absurd hc7 (by decide))
    refine x_lconst (z := 0) dL_bridge_14 rfl ?_
    refine x_last dL_bridge_15 h96 so (by decide) (by decide) (by decide) ?_
    refine x_goto (t := 22) dL_bridge_16 rfl ?_
    refine x_iconst dL_bridge_22 ?_
    exact x_iret dL_bridge_23 rfl (Nat.le_of_ble_eq_true rfl) (Nat.le_of_ble_eq_true rfl) rfl rfl rfl ⟨d, hd, rfl⟩ rfl
  · refine x_ofWH (by decide +kernel) hl (by simp [Value.category]) (by simp) ?_
    refine x_aload_n dL_bridge_0 x_get_4_2 ?_
    refine x_iconst dL_bridge_1 ?_
    refine x_aload_n dL_bridge_2 x_get_4_0 ?_
    refine x_iload_n dL_bridge_3 x_get_4_1 ?_
    refine x_callV (As := [_]) dL_bridge_4 w_L_96 (hc) (by assumption) (by assumption) rfl rfl (Nat.le_of_ble_eq_true rfl) (Nat.le_of_ble_eq_true rfl) (Nat.le_of_ble_eq_true rfl) (Nat.le_of_ble_eq_true rfl) (Nat.le_of_ble_eq_true rfl) ?_
    intro d hd
    refine r_if_eq (t := 14) dL_bridge_7 rfl ⟨by decide, by decide⟩ (fun hc7 => absurd hc7 (by decide)) (fun hc7 => ?_)
    refine x_lconst (z := 1) dL_bridge_10 rfl ?_
    refine x_goto (t := 15) dL_bridge_11 rfl ?_
    refine x_last dL_bridge_15 h96 so (by decide) (by decide) (by decide) ?_
    refine x_goto (t := 22) dL_bridge_16 rfl ?_
    refine x_iconst dL_bridge_22 ?_
    exact x_iret dL_bridge_23 rfl (Nat.le_of_ble_eq_true rfl) (Nat.le_of_ble_eq_true rfl) rfl rfl rfl ⟨d, hd, rfl⟩ rfl
  · rw [m_k_N]
    refine x_ofWH (by decide +kernel) hl (by simp [Value.category]) (by simp) ?_
    refine x_aload_n dL_bridge_0 x_get_4_2 ?_
    refine x_iconst dL_bridge_1 ?_
    refine x_aload_n dL_bridge_2 x_get_4_0 ?_
    refine x_iload_n dL_bridge_3 x_get_4_1 ?_
    refine x_callVC (As := [_]) (name := x_NSE) dL_bridge_4 w_L_96 hc n0 s0 rfl rfl (Nat.le_of_ble_eq_true rfl) (Nat.le_of_ble_eq_true rfl) (Nat.le_of_ble_eq_true rfl) (Nat.le_of_ble_eq_true rfl) (Nat.le_of_ble_eq_true rfl) [] ⟨0, 16, 19, 18⟩ [] rfl (fun z hz => by cases hz) (by decide) (by decide) cl_L_18 ct_x_NSE (fun q9 d hd => ?_)
    refine x_astore_n dL_bridge_19 (Nat.le_of_ble_eq_true rfl) rfl x_set_4_3 ?_
    refine x_iconst dL_bridge_20 ?_
    exact x_iret dL_bridge_21 rfl (Nat.le_of_ble_eq_true rfl) (Nat.le_of_ble_eq_true rfl) rfl rfl rfl ⟨d, hd, rfl⟩ rfl
theorem wr_streak {X : xC} {l : Launch} (hl : l.stackTraces = false) {N : Nat} {sh sh1 : xS} {D : xM} {ks : List Nat} (h96 : 96 < N) (s0 : sh 0 = .inr (11, ks)) (so : sh1 96 = .inl (3, 1)) {q : x_O} (hO : o_okB q) {P : xM → Prop} {p0 p1 : Int} (hc : x_M X l yX11_streak cX11_streak 6 (some .int) 7 1 6 [.ref (x_b X + 0), .int (xI p0), .int (xI p1)] false N sh D q false N sh1 P) : x_MH X l yL_streak cL_streak 5 (some .int) [(0, 10, 13, 18), (0, 10, 17, 13)] 8 1 6 [.ref (x_b X + 0), .int (xI p0), .int (xI p1), .ref (x_b X + 96)] N sh D (.inl (some (.int (xI (m_k 2 q))))) N sh1 (outp q P) := by
  have n0 : 0 < N := by omega
  rcases hO with ⟨z, rfl⟩ | rfl | rfl
  · refine x_ofWH (by decide +kernel) hl (by simp [Value.category]) (by simp) ?_
    refine x_aload_n dL_streak_0 x_get_5_3 ?_
    refine x_iconst dL_streak_1 ?_
    refine x_aload_n dL_streak_2 x_get_5_0 ?_
    refine x_iload_n dL_streak_3 x_get_5_1 ?_
    refine x_iload_n dL_streak_4 x_get_5_2 ?_
    refine x_callV (As := [_, _]) dL_streak_5 w_L_100 (hc) (by assumption) (by assumption) rfl rfl (Nat.le_of_ble_eq_true rfl) (Nat.le_of_ble_eq_true rfl) (Nat.le_of_ble_eq_true rfl) (Nat.le_of_ble_eq_true rfl) (Nat.le_of_ble_eq_true rfl) ?_
    intro d hd
    refine x_i2l dL_streak_8 ?_
    refine x_last dL_streak_9 h96 so (by decide) (by decide) (by decide) ?_
    refine x_goto (t := 21) dL_streak_10 rfl ?_
    refine x_iconst dL_streak_21 ?_
    exact x_iret dL_streak_22 rfl (Nat.le_of_ble_eq_true rfl) (Nat.le_of_ble_eq_true rfl) rfl rfl rfl ⟨d, hd, rfl⟩ rfl
  · rw [m_k_N]
    refine x_ofWH (by decide +kernel) hl (by simp [Value.category]) (by simp) ?_
    refine x_aload_n dL_streak_0 x_get_5_3 ?_
    refine x_iconst dL_streak_1 ?_
    refine x_aload_n dL_streak_2 x_get_5_0 ?_
    refine x_iload_n dL_streak_3 x_get_5_1 ?_
    refine x_iload_n dL_streak_4 x_get_5_2 ?_
    refine x_callVC (As := [_, _]) (name := x_NSE) dL_streak_5 w_L_100 hc n0 s0 rfl rfl (Nat.le_of_ble_eq_true rfl) (Nat.le_of_ble_eq_true rfl) (Nat.le_of_ble_eq_true rfl) (Nat.le_of_ble_eq_true rfl) (Nat.le_of_ble_eq_true rfl) [] ⟨0, 10, 13, 18⟩ [⟨0, 10, 17, 13⟩] rfl (fun z hz => by cases hz) (by decide) (by decide) cl_L_18 ct_x_NSE (fun q9 d hd => ?_)
    refine x_astore dL_streak_13 (Nat.le_of_ble_eq_true rfl) rfl x_set_5_4 ?_
    refine x_iconst dL_streak_15 ?_
    exact x_iret dL_streak_16 rfl (Nat.le_of_ble_eq_true rfl) (Nat.le_of_ble_eq_true rfl) rfl rfl rfl ⟨d, hd, rfl⟩ rfl
  · rw [m_k_I]
    refine x_ofWH (by decide +kernel) hl (by simp [Value.category]) (by simp) ?_
    refine x_aload_n dL_streak_0 x_get_5_3 ?_
    refine x_iconst dL_streak_1 ?_
    refine x_aload_n dL_streak_2 x_get_5_0 ?_
    refine x_iload_n dL_streak_3 x_get_5_1 ?_
    refine x_iload_n dL_streak_4 x_get_5_2 ?_
    refine x_callVC (As := [_, _]) (name := x_IAE) dL_streak_5 w_L_100 hc n0 s0 rfl rfl (Nat.le_of_ble_eq_true rfl) (Nat.le_of_ble_eq_true rfl) (Nat.le_of_ble_eq_true rfl) (Nat.le_of_ble_eq_true rfl) (Nat.le_of_ble_eq_true rfl) [⟨0, 10, 13, 18⟩] ⟨0, 10, 17, 13⟩ [] rfl (fun z hz => by rw [List.mem_singleton.mp hz]; exact ⟨by decide, cl_L_18, rfl⟩) (by decide) (by decide) cl_L_13 ct_x_IAE (fun q9 d hd => ?_)
    refine x_astore dL_streak_17 (Nat.le_of_ble_eq_true rfl) rfl x_set_5_4 ?_
    refine x_iconst dL_streak_19 ?_
    exact x_iret dL_streak_20 rfl (Nat.le_of_ble_eq_true rfl) (Nat.le_of_ble_eq_true rfl) rfl rfl rfl ⟨d, hd, rfl⟩ rfl
theorem wr_day {X : xC} {l : Launch} (hl : l.stackTraces = false) {N : Nat} {sh sh1 : xS} {D : xM} {ks : List Nat} (h96 : 96 < N) (s0 : sh 0 = .inr (11, ks)) (so : sh1 96 = .inl (3, 1)) {q : x_O} (hO : o_okB q) {P : xM → Prop} {p0 p1 : Int} (hc : x_M X l yX11_day cX11_day 8 (some .int) 7 1 6 [.ref (x_b X + 0), .int (xI p0), .int (xI p1)] false N sh D q false N sh1 P) : x_MH X l yL_day cL_day 5 (some .int) [(0, 10, 13, 18), (0, 10, 17, 13)] 8 1 6 [.ref (x_b X + 0), .int (xI p0), .int (xI p1), .ref (x_b X + 96)] N sh D (.inl (some (.int (xI (m_k 2 q))))) N sh1 (outp q P) := by
  have n0 : 0 < N := by omega
  rcases hO with ⟨z, rfl⟩ | rfl | rfl
  · refine x_ofWH (by decide +kernel) hl (by simp [Value.category]) (by simp) ?_
    refine x_aload_n dL_day_0 x_get_5_3 ?_
    refine x_iconst dL_day_1 ?_
    refine x_aload_n dL_day_2 x_get_5_0 ?_
    refine x_iload_n dL_day_3 x_get_5_1 ?_
    refine x_iload_n dL_day_4 x_get_5_2 ?_
    refine x_callV (As := [_, _]) dL_day_5 w_L_103 (hc) (by assumption) (by assumption) rfl rfl (Nat.le_of_ble_eq_true rfl) (Nat.le_of_ble_eq_true rfl) (Nat.le_of_ble_eq_true rfl) (Nat.le_of_ble_eq_true rfl) (Nat.le_of_ble_eq_true rfl) ?_
    intro d hd
    refine x_i2l dL_day_8 ?_
    refine x_last dL_day_9 h96 so (by decide) (by decide) (by decide) ?_
    refine x_goto (t := 21) dL_day_10 rfl ?_
    refine x_iconst dL_day_21 ?_
    exact x_iret dL_day_22 rfl (Nat.le_of_ble_eq_true rfl) (Nat.le_of_ble_eq_true rfl) rfl rfl rfl ⟨d, hd, rfl⟩ rfl
  · rw [m_k_N]
    refine x_ofWH (by decide +kernel) hl (by simp [Value.category]) (by simp) ?_
    refine x_aload_n dL_day_0 x_get_5_3 ?_
    refine x_iconst dL_day_1 ?_
    refine x_aload_n dL_day_2 x_get_5_0 ?_
    refine x_iload_n dL_day_3 x_get_5_1 ?_
    refine x_iload_n dL_day_4 x_get_5_2 ?_
    refine x_callVC (As := [_, _]) (name := x_NSE) dL_day_5 w_L_103 hc n0 s0 rfl rfl (Nat.le_of_ble_eq_true rfl) (Nat.le_of_ble_eq_true rfl) (Nat.le_of_ble_eq_true rfl) (Nat.le_of_ble_eq_true rfl) (Nat.le_of_ble_eq_true rfl) [] ⟨0, 10, 13, 18⟩ [⟨0, 10, 17, 13⟩] rfl (fun z hz => by cases hz) (by decide) (by decide) cl_L_18 ct_x_NSE (fun q9 d hd => ?_)
    refine x_astore dL_day_13 (Nat.le_of_ble_eq_true rfl) rfl x_set_5_4 ?_
    refine x_iconst dL_day_15 ?_
    exact x_iret dL_day_16 rfl (Nat.le_of_ble_eq_true rfl) (Nat.le_of_ble_eq_true rfl) rfl rfl rfl ⟨d, hd, rfl⟩ rfl
  · rw [m_k_I]
    refine x_ofWH (by decide +kernel) hl (by simp [Value.category]) (by simp) ?_
    refine x_aload_n dL_day_0 x_get_5_3 ?_
    refine x_iconst dL_day_1 ?_
    refine x_aload_n dL_day_2 x_get_5_0 ?_
    refine x_iload_n dL_day_3 x_get_5_1 ?_
    refine x_iload_n dL_day_4 x_get_5_2 ?_
    refine x_callVC (As := [_, _]) (name := x_IAE) dL_day_5 w_L_103 hc n0 s0 rfl rfl (Nat.le_of_ble_eq_true rfl) (Nat.le_of_ble_eq_true rfl) (Nat.le_of_ble_eq_true rfl) (Nat.le_of_ble_eq_true rfl) (Nat.le_of_ble_eq_true rfl) [⟨0, 10, 13, 18⟩] ⟨0, 10, 17, 13⟩ [] rfl (fun z hz => by rw [List.mem_singleton.mp hz]; exact ⟨by decide, cl_L_18, rfl⟩) (by decide) (by decide) cl_L_13 ct_x_IAE (fun q9 d hd => ?_)
    refine x_astore dL_day_17 (Nat.le_of_ble_eq_true rfl) rfl x_set_5_4 ?_
    refine x_iconst dL_day_19 ?_
    exact x_iret dL_day_20 rfl (Nat.le_of_ble_eq_true rfl) (Nat.le_of_ble_eq_true rfl) rfl rfl rfl ⟨d, hd, rfl⟩ rfl
theorem wr_level {X : xC} {l : Launch} (hl : l.stackTraces = false) {N : Nat} {sh sh1 : xS} {D : xM} {ks : List Nat} (h96 : 96 < N) (s0 : sh 0 = .inr (11, ks)) (so : sh1 96 = .inl (3, 1)) {q : x_O} (hO : o_okN q) {P : xM → Prop} {p0 : Int} (hc : x_M X l yX11_level cX11_level 2 (some .int) 7 1 6 [.ref (x_b X + 0), .int (xI p0)] false N sh D q false N sh1 P) : x_MH X l yL_level cL_level 4 (some .int) [(0, 9, 12, 18)] 8 1 6 [.ref (x_b X + 0), .int (xI p0), .ref (x_b X + 96)] N sh D (.inl (some (.int (xI (m_k 1 q))))) N sh1 (outp q P) := by
  have n0 : 0 < N := by omega
  rcases hO with ⟨z, rfl⟩ | rfl
  · refine x_ofWH (by decide +kernel) hl (by simp [Value.category]) (by simp) ?_
    refine x_aload_n dL_level_0 x_get_4_2 ?_
    refine x_iconst dL_level_1 ?_
    refine x_aload_n dL_level_2 x_get_4_0 ?_
    refine x_iload_n dL_level_3 x_get_4_1 ?_
    refine x_callV (As := [_]) dL_level_4 w_L_106 (hc) (by assumption) (by assumption) rfl rfl (Nat.le_of_ble_eq_true rfl) (Nat.le_of_ble_eq_true rfl) (Nat.le_of_ble_eq_true rfl) (Nat.le_of_ble_eq_true rfl) (Nat.le_of_ble_eq_true rfl) ?_
    intro d hd
    refine x_i2l dL_level_7 ?_
    refine x_last dL_level_8 h96 so (by decide) (by decide) (by decide) ?_
    refine x_goto (t := 15) dL_level_9 rfl ?_
    refine x_iconst dL_level_15 ?_
    exact x_iret dL_level_16 rfl (Nat.le_of_ble_eq_true rfl) (Nat.le_of_ble_eq_true rfl) rfl rfl rfl ⟨d, hd, rfl⟩ rfl
  · rw [m_k_N]
    refine x_ofWH (by decide +kernel) hl (by simp [Value.category]) (by simp) ?_
    refine x_aload_n dL_level_0 x_get_4_2 ?_
    refine x_iconst dL_level_1 ?_
    refine x_aload_n dL_level_2 x_get_4_0 ?_
    refine x_iload_n dL_level_3 x_get_4_1 ?_
    refine x_callVC (As := [_]) (name := x_NSE) dL_level_4 w_L_106 hc n0 s0 rfl rfl (Nat.le_of_ble_eq_true rfl) (Nat.le_of_ble_eq_true rfl) (Nat.le_of_ble_eq_true rfl) (Nat.le_of_ble_eq_true rfl) (Nat.le_of_ble_eq_true rfl) [] ⟨0, 9, 12, 18⟩ [] rfl (fun z hz => by cases hz) (by decide) (by decide) cl_L_18 ct_x_NSE (fun q9 d hd => ?_)
    refine x_astore_n dL_level_12 (Nat.le_of_ble_eq_true rfl) rfl x_set_4_3 ?_
    refine x_iconst dL_level_13 ?_
    exact x_iret dL_level_14 rfl (Nat.le_of_ble_eq_true rfl) (Nat.le_of_ble_eq_true rfl) rfl rfl rfl ⟨d, hd, rfl⟩ rfl
theorem wr_lend {X : xC} {l : Launch} (hl : l.stackTraces = false) {N : Nat} {sh sh1 : xS} {D : xM} {ks : List Nat} (h96 : 96 < N) (s0 : sh 0 = .inr (11, ks)) (so : sh1 96 = .inl (3, 1)) {q : x_O} (hO : o_okN q) {P : xM → Prop} {p0 : Int} (hc : x_M X l yX11_lend cX11_lend 4 (some .int) 7 1 6 [.ref (x_b X + 0), .int (xI p0)] false N sh D q false N sh1 P) : x_MH X l yL_lend cL_lend 4 (some .int) [(0, 9, 12, 18)] 8 1 6 [.ref (x_b X + 0), .int (xI p0), .ref (x_b X + 96)] N sh D (.inl (some (.int (xI (m_k 1 q))))) N sh1 (outp q P) := by
  have n0 : 0 < N := by omega
  rcases hO with ⟨z, rfl⟩ | rfl
  · refine x_ofWH (by decide +kernel) hl (by simp [Value.category]) (by simp) ?_
    refine x_aload_n dL_lend_0 x_get_4_2 ?_
    refine x_iconst dL_lend_1 ?_
    refine x_aload_n dL_lend_2 x_get_4_0 ?_
    refine x_iload_n dL_lend_3 x_get_4_1 ?_
    refine x_callV (As := [_]) dL_lend_4 w_L_109 (hc) (by assumption) (by assumption) rfl rfl (Nat.le_of_ble_eq_true rfl) (Nat.le_of_ble_eq_true rfl) (Nat.le_of_ble_eq_true rfl) (Nat.le_of_ble_eq_true rfl) (Nat.le_of_ble_eq_true rfl) ?_
    intro d hd
    refine x_i2l dL_lend_7 ?_
    refine x_last dL_lend_8 h96 so (by decide) (by decide) (by decide) ?_
    refine x_goto (t := 15) dL_lend_9 rfl ?_
    refine x_iconst dL_lend_15 ?_
    exact x_iret dL_lend_16 rfl (Nat.le_of_ble_eq_true rfl) (Nat.le_of_ble_eq_true rfl) rfl rfl rfl ⟨d, hd, rfl⟩ rfl
  · rw [m_k_N]
    refine x_ofWH (by decide +kernel) hl (by simp [Value.category]) (by simp) ?_
    refine x_aload_n dL_lend_0 x_get_4_2 ?_
    refine x_iconst dL_lend_1 ?_
    refine x_aload_n dL_lend_2 x_get_4_0 ?_
    refine x_iload_n dL_lend_3 x_get_4_1 ?_
    refine x_callVC (As := [_]) (name := x_NSE) dL_lend_4 w_L_109 hc n0 s0 rfl rfl (Nat.le_of_ble_eq_true rfl) (Nat.le_of_ble_eq_true rfl) (Nat.le_of_ble_eq_true rfl) (Nat.le_of_ble_eq_true rfl) (Nat.le_of_ble_eq_true rfl) [] ⟨0, 9, 12, 18⟩ [] rfl (fun z hz => by cases hz) (by decide) (by decide) cl_L_18 ct_x_NSE (fun q9 d hd => ?_)
    refine x_astore_n dL_lend_12 (Nat.le_of_ble_eq_true rfl) rfl x_set_4_3 ?_
    refine x_iconst dL_lend_13 ?_
    exact x_iret dL_lend_14 rfl (Nat.le_of_ble_eq_true rfl) (Nat.le_of_ble_eq_true rfl) rfl rfl rfl ⟨d, hd, rfl⟩ rfl
end L3
