section XW
theorem uX_0 : ∀ w ∈ u_ws RX0 TX0 3, w ∈ x_T := by decide +kernel
theorem uX_1 : ∀ w ∈ u_ws RX1 TX1 6, w ∈ x_T := by decide +kernel
theorem uX_2 : ∀ w ∈ u_ws RX2 TX2 1, w ∈ x_T := by decide +kernel
theorem uX_3 : ∀ w ∈ u_ws RX3 TX3 7, w ∈ x_T := by decide +kernel
theorem uX_4 : ∀ w ∈ u_ws RX4 TX4 0, w ∈ x_T := fun w h => by cases h
theorem uX_5 : ∀ w ∈ u_ws RX5 TX5 10, w ∈ x_T := by decide +kernel
theorem uX_6 : ∀ w ∈ u_ws RX6 TX6 8, w ∈ x_T := by decide +kernel
theorem uX_7 : ∀ w ∈ u_ws RX7 TX7 5, w ∈ x_T := by decide +kernel
theorem uX_8 : ∀ w ∈ u_ws RX8 TX8 4, w ∈ x_T := by decide +kernel
theorem uX_9 : ∀ w ∈ u_ws RX9 TX9 1, w ∈ x_T := by decide +kernel
theorem uX_10 : ∀ w ∈ u_ws RX10 TX10 0, w ∈ x_T := fun w h => by cases h
theorem uX_11 : ∀ w ∈ u_ws RX11 TX11 15, w ∈ x_T := by decide +kernel
theorem uX_12 : ∀ w ∈ u_ws RX12 TX12 63, w ∈ x_T := by decide +kernel
theorem tX_0_0 : x_fty 0 0 (.array .int) true := fun q h => by cases h; exact ⟨by decide +kernel, rfl, rfl⟩
theorem tX_0_1 : x_fty 0 1 (.int) false := fun q h => by cases h; exact ⟨by decide +kernel, rfl, rfl⟩
theorem tX_0_2 : x_fty 0 2 (.int) false := fun q h => by cases h; exact ⟨by decide +kernel, rfl, rfl⟩
theorem tX_1_0 : x_fty 1 0 (.array .int) true := fun q h => by cases h; exact ⟨by decide +kernel, rfl, rfl⟩
theorem tX_1_1 : x_fty 1 1 (.array .int) true := fun q h => by cases h; exact ⟨by decide +kernel, rfl, rfl⟩
theorem tX_1_2 : x_fty 1 2 (.array .int) true := fun q h => by cases h; exact ⟨by decide +kernel, rfl, rfl⟩
theorem tX_1_3 : x_fty 1 3 (.array .boolean) true := fun q h => by cases h; exact ⟨by decide +kernel, rfl, rfl⟩
theorem tX_1_4 : x_fty 1 4 (.object "LuckCrates$State") true := fun q h => by cases h; exact ⟨by decide +kernel, rfl, rfl⟩
theorem tX_1_5 : x_fty 1 5 (.object "LuckCrates$State") true := fun q h => by cases h; exact ⟨by decide +kernel, rfl, rfl⟩
theorem tX_2_0 : x_fty 2 0 (.int) false := fun q h => by cases h; exact ⟨by decide +kernel, rfl, rfl⟩
theorem tX_3_0 : x_fty 3 0 (.int) false := fun q h => by cases h; exact ⟨by decide +kernel, rfl, rfl⟩
theorem tX_3_1 : x_fty 3 1 (.int) false := fun q h => by cases h; exact ⟨by decide +kernel, rfl, rfl⟩
theorem tX_3_2 : x_fty 3 2 (.array .int) true := fun q h => by cases h; exact ⟨by decide +kernel, rfl, rfl⟩
theorem tX_3_3 : x_fty 3 3 (.array .int) true := fun q h => by cases h; exact ⟨by decide +kernel, rfl, rfl⟩
theorem tX_3_4 : x_fty 3 4 (.object "LuckCrates$Roads") true := fun q h => by cases h; exact ⟨by decide +kernel, rfl, rfl⟩
theorem tX_3_5 : x_fty 3 5 (.object "LuckCrates$Rule") true := fun q h => by cases h; exact ⟨by decide +kernel, rfl, rfl⟩
theorem tX_3_6 : x_fty 3 6 (.object "LuckCrates$State") true := fun q h => by cases h; exact ⟨by decide +kernel, rfl, rfl⟩
theorem tX_5_0 : x_fty 5 0 (.array .byte) true := fun q h => by cases h; exact ⟨by decide +kernel, rfl, rfl⟩
theorem tX_5_1 : x_fty 5 1 (.int) false := fun q h => by cases h; exact ⟨by decide +kernel, rfl, rfl⟩
theorem tX_5_2 : x_fty 5 2 (.int) false := fun q h => by cases h; exact ⟨by decide +kernel, rfl, rfl⟩
theorem tX_5_3 : x_fty 5 3 (.int) false := fun q h => by cases h; exact ⟨by decide +kernel, rfl, rfl⟩
theorem tX_5_4 : x_fty 5 4 (.int) false := fun q h => by cases h; exact ⟨by decide +kernel, rfl, rfl⟩
theorem tX_5_5 : x_fty 5 5 (.int) false := fun q h => by cases h; exact ⟨by decide +kernel, rfl, rfl⟩
theorem tX_5_6 : x_fty 5 6 (.int) false := fun q h => by cases h; exact ⟨by decide +kernel, rfl, rfl⟩
theorem tX_5_7 : x_fty 5 7 (.object "LuckCrates$Land") false := fun q h => by cases h; exact ⟨by decide +kernel, rfl, rfl⟩
theorem tX_5_8 : x_fty 5 8 (.int) false := fun q h => by cases h; exact ⟨by decide +kernel, rfl, rfl⟩
theorem tX_5_9 : x_fty 5 9 (.int) false := fun q h => by cases h; exact ⟨by decide +kernel, rfl, rfl⟩
theorem tX_6_0 : x_fty 6 0 (.int) false := fun q h => by cases h; exact ⟨by decide +kernel, rfl, rfl⟩
theorem tX_6_1 : x_fty 6 1 (.int) false := fun q h => by cases h; exact ⟨by decide +kernel, rfl, rfl⟩
theorem tX_6_2 : x_fty 6 2 (.array .int) true := fun q h => by cases h; exact ⟨by decide +kernel, rfl, rfl⟩
theorem tX_6_3 : x_fty 6 3 (.array .int) true := fun q h => by cases h; exact ⟨by decide +kernel, rfl, rfl⟩
theorem tX_6_4 : x_fty 6 4 (.array .int) true := fun q h => by cases h; exact ⟨by decide +kernel, rfl, rfl⟩
theorem tX_6_5 : x_fty 6 5 (.array .int) true := fun q h => by cases h; exact ⟨by decide +kernel, rfl, rfl⟩
theorem tX_6_6 : x_fty 6 6 (.array .int) true := fun q h => by cases h; exact ⟨by decide +kernel, rfl, rfl⟩
theorem tX_6_7 : x_fty 6 7 (.array .int) true := fun q h => by cases h; exact ⟨by decide +kernel, rfl, rfl⟩
theorem tX_7_0 : x_fty 7 0 (.array .int) true := fun q h => by cases h; exact ⟨by decide +kernel, rfl, rfl⟩
theorem tX_7_1 : x_fty 7 1 (.array .int) true := fun q h => by cases h; exact ⟨by decide +kernel, rfl, rfl⟩
theorem tX_7_2 : x_fty 7 2 (.int) false := fun q h => by cases h; exact ⟨by decide +kernel, rfl, rfl⟩
theorem tX_7_3 : x_fty 7 3 (.boolean) false := fun q h => by cases h; exact ⟨by decide +kernel, rfl, rfl⟩
theorem tX_7_4 : x_fty 7 4 (.boolean) false := fun q h => by cases h; exact ⟨by decide +kernel, rfl, rfl⟩
theorem tX_8_0 : x_fty 8 0 (.array .int) true := fun q h => by cases h; exact ⟨by decide +kernel, rfl, rfl⟩
theorem tX_8_1 : x_fty 8 1 (.array .int) true := fun q h => by cases h; exact ⟨by decide +kernel, rfl, rfl⟩
theorem tX_8_2 : x_fty 8 2 (.array .int) true := fun q h => by cases h; exact ⟨by decide +kernel, rfl, rfl⟩
theorem tX_8_3 : x_fty 8 3 (.int) false := fun q h => by cases h; exact ⟨by decide +kernel, rfl, rfl⟩
theorem tX_9_0 : x_fty 9 0 (.array .int) true := fun q h => by cases h; exact ⟨by decide +kernel, rfl, rfl⟩
theorem tX_11_0 : x_fty 11 0 (.object "LuckCrates$Reader") true := fun q h => by cases h; exact ⟨by decide +kernel, rfl, rfl⟩
theorem tX_11_1 : x_fty 11 1 (.int) false := fun q h => by cases h; exact ⟨by decide +kernel, rfl, rfl⟩
theorem tX_11_2 : x_fty 11 2 (.object "LuckCrates$Land") false := fun q h => by cases h; exact ⟨by decide +kernel, rfl, rfl⟩
theorem tX_11_3 : x_fty 11 3 (.object "LuckCrates$State") true := fun q h => by cases h; exact ⟨by decide +kernel, rfl, rfl⟩
theorem tX_11_4 : x_fty 11 4 (.object "LuckCrates$State") true := fun q h => by cases h; exact ⟨by decide +kernel, rfl, rfl⟩
theorem tX_11_5 : x_fty 11 5 (.object "LuckCrates$Acts") true := fun q h => by cases h; exact ⟨by decide +kernel, rfl, rfl⟩
theorem tX_11_6 : x_fty 11 6 (.object "LuckCrates$Seen") true := fun q h => by cases h; exact ⟨by decide +kernel, rfl, rfl⟩
theorem tX_11_7 : x_fty 11 7 (.boolean) false := fun q h => by cases h; exact ⟨by decide +kernel, rfl, rfl⟩
theorem tX_11_8 : x_fty 11 8 (.object "LuckCrates$State") true := fun q h => by cases h; exact ⟨by decide +kernel, rfl, rfl⟩
theorem tX_11_9 : x_fty 11 9 (.object "LuckCrates$Acts") true := fun q h => by cases h; exact ⟨by decide +kernel, rfl, rfl⟩
theorem tX_11_10 : x_fty 11 10 (.object "LuckCrates$Seen") true := fun q h => by cases h; exact ⟨by decide +kernel, rfl, rfl⟩
theorem tX_11_11 : x_fty 11 11 (.object "LuckCrates$Couples") true := fun q h => by cases h; exact ⟨by decide +kernel, rfl, rfl⟩
theorem tX_11_12 : x_fty 11 12 (.object "LuckCrates$Draws") true := fun q h => by cases h; exact ⟨by decide +kernel, rfl, rfl⟩
theorem tX_11_13 : x_fty 11 13 (.array .int) true := fun q h => by cases h; exact ⟨by decide +kernel, rfl, rfl⟩
theorem tX_11_14 : x_fty 11 14 (.int) false := fun q h => by cases h; exact ⟨by decide +kernel, rfl, rfl⟩
theorem tX_12_0 : x_fty 12 0 (.int) false := fun q h => by cases h; exact ⟨by decide +kernel, rfl, rfl⟩
theorem tX_12_1 : x_fty 12 1 (.int) false := fun q h => by cases h; exact ⟨by decide +kernel, rfl, rfl⟩
theorem tX_12_2 : x_fty 12 2 (.int) false := fun q h => by cases h; exact ⟨by decide +kernel, rfl, rfl⟩
theorem tX_12_3 : x_fty 12 3 (.int) false := fun q h => by cases h; exact ⟨by decide +kernel, rfl, rfl⟩
theorem tX_12_4 : x_fty 12 4 (.int) false := fun q h => by cases h; exact ⟨by decide +kernel, rfl, rfl⟩
theorem tX_12_5 : x_fty 12 5 (.array .int) true := fun q h => by cases h; exact ⟨by decide +kernel, rfl, rfl⟩
theorem tX_12_6 : x_fty 12 6 (.array .int) true := fun q h => by cases h; exact ⟨by decide +kernel, rfl, rfl⟩
theorem tX_12_7 : x_fty 12 7 (.array .int) true := fun q h => by cases h; exact ⟨by decide +kernel, rfl, rfl⟩
theorem tX_12_8 : x_fty 12 8 (.array .int) true := fun q h => by cases h; exact ⟨by decide +kernel, rfl, rfl⟩
theorem tX_12_9 : x_fty 12 9 (.array .int) true := fun q h => by cases h; exact ⟨by decide +kernel, rfl, rfl⟩
theorem tX_12_10 : x_fty 12 10 (.array .int) true := fun q h => by cases h; exact ⟨by decide +kernel, rfl, rfl⟩
theorem tX_12_11 : x_fty 12 11 (.array .int) true := fun q h => by cases h; exact ⟨by decide +kernel, rfl, rfl⟩
theorem tX_12_12 : x_fty 12 12 (.array .int) true := fun q h => by cases h; exact ⟨by decide +kernel, rfl, rfl⟩
theorem tX_12_13 : x_fty 12 13 (.int) false := fun q h => by cases h; exact ⟨by decide +kernel, rfl, rfl⟩
theorem tX_12_14 : x_fty 12 14 (.int) false := fun q h => by cases h; exact ⟨by decide +kernel, rfl, rfl⟩
theorem tX_12_15 : x_fty 12 15 (.int) false := fun q h => by cases h; exact ⟨by decide +kernel, rfl, rfl⟩
theorem tX_12_16 : x_fty 12 16 (.array .int) true := fun q h => by cases h; exact ⟨by decide +kernel, rfl, rfl⟩
theorem tX_12_17 : x_fty 12 17 (.int) false := fun q h => by cases h; exact ⟨by decide +kernel, rfl, rfl⟩
theorem tX_12_18 : x_fty 12 18 (.int) false := fun q h => by cases h; exact ⟨by decide +kernel, rfl, rfl⟩
theorem tX_12_19 : x_fty 12 19 (.int) false := fun q h => by cases h; exact ⟨by decide +kernel, rfl, rfl⟩
theorem tX_12_20 : x_fty 12 20 (.int) false := fun q h => by cases h; exact ⟨by decide +kernel, rfl, rfl⟩
theorem tX_12_21 : x_fty 12 21 (.int) false := fun q h => by cases h; exact ⟨by decide +kernel, rfl, rfl⟩
theorem tX_12_22 : x_fty 12 22 (.int) false := fun q h => by cases h; exact ⟨by decide +kernel, rfl, rfl⟩
theorem tX_12_23 : x_fty 12 23 (.int) false := fun q h => by cases h; exact ⟨by decide +kernel, rfl, rfl⟩
theorem tX_12_24 : x_fty 12 24 (.long) false := fun q h => by cases h; exact ⟨by decide +kernel, rfl, rfl⟩
theorem tX_12_25 : x_fty 12 25 (.int) false := fun q h => by cases h; exact ⟨by decide +kernel, rfl, rfl⟩
theorem tX_12_26 : x_fty 12 26 (.int) false := fun q h => by cases h; exact ⟨by decide +kernel, rfl, rfl⟩
theorem tX_12_27 : x_fty 12 27 (.int) false := fun q h => by cases h; exact ⟨by decide +kernel, rfl, rfl⟩
theorem tX_12_28 : x_fty 12 28 (.int) false := fun q h => by cases h; exact ⟨by decide +kernel, rfl, rfl⟩
theorem tX_12_29 : x_fty 12 29 (.int) false := fun q h => by cases h; exact ⟨by decide +kernel, rfl, rfl⟩
theorem tX_12_30 : x_fty 12 30 (.int) false := fun q h => by cases h; exact ⟨by decide +kernel, rfl, rfl⟩
theorem tX_12_31 : x_fty 12 31 (.int) false := fun q h => by cases h; exact ⟨by decide +kernel, rfl, rfl⟩
theorem tX_12_32 : x_fty 12 32 (.array .int) true := fun q h => by cases h; exact ⟨by decide +kernel, rfl, rfl⟩
theorem tX_12_33 : x_fty 12 33 (.array .int) true := fun q h => by cases h; exact ⟨by decide +kernel, rfl, rfl⟩
theorem tX_12_34 : x_fty 12 34 (.array .int) true := fun q h => by cases h; exact ⟨by decide +kernel, rfl, rfl⟩
theorem tX_12_35 : x_fty 12 35 (.array .int) true := fun q h => by cases h; exact ⟨by decide +kernel, rfl, rfl⟩
theorem tX_12_36 : x_fty 12 36 (.array .int) true := fun q h => by cases h; exact ⟨by decide +kernel, rfl, rfl⟩
theorem tX_12_37 : x_fty 12 37 (.array .int) true := fun q h => by cases h; exact ⟨by decide +kernel, rfl, rfl⟩
theorem tX_12_38 : x_fty 12 38 (.array .int) true := fun q h => by cases h; exact ⟨by decide +kernel, rfl, rfl⟩
theorem tX_12_39 : x_fty 12 39 (.array .int) true := fun q h => by cases h; exact ⟨by decide +kernel, rfl, rfl⟩
theorem tX_12_40 : x_fty 12 40 (.array .int) true := fun q h => by cases h; exact ⟨by decide +kernel, rfl, rfl⟩
theorem tX_12_41 : x_fty 12 41 (.array .boolean) true := fun q h => by cases h; exact ⟨by decide +kernel, rfl, rfl⟩
theorem tX_12_42 : x_fty 12 42 (.array .int) true := fun q h => by cases h; exact ⟨by decide +kernel, rfl, rfl⟩
theorem tX_12_43 : x_fty 12 43 (.array .int) true := fun q h => by cases h; exact ⟨by decide +kernel, rfl, rfl⟩
theorem tX_12_44 : x_fty 12 44 (.int) false := fun q h => by cases h; exact ⟨by decide +kernel, rfl, rfl⟩
theorem tX_12_45 : x_fty 12 45 (.array .int) true := fun q h => by cases h; exact ⟨by decide +kernel, rfl, rfl⟩
theorem tX_12_46 : x_fty 12 46 (.array .int) true := fun q h => by cases h; exact ⟨by decide +kernel, rfl, rfl⟩
theorem tX_12_47 : x_fty 12 47 (.int) false := fun q h => by cases h; exact ⟨by decide +kernel, rfl, rfl⟩
theorem tX_12_48 : x_fty 12 48 (.array .int) true := fun q h => by cases h; exact ⟨by decide +kernel, rfl, rfl⟩
theorem tX_12_49 : x_fty 12 49 (.array .int) true := fun q h => by cases h; exact ⟨by decide +kernel, rfl, rfl⟩
theorem tX_12_50 : x_fty 12 50 (.array .int) true := fun q h => by cases h; exact ⟨by decide +kernel, rfl, rfl⟩
theorem tX_12_51 : x_fty 12 51 (.array .int) true := fun q h => by cases h; exact ⟨by decide +kernel, rfl, rfl⟩
theorem tX_12_52 : x_fty 12 52 (.int) false := fun q h => by cases h; exact ⟨by decide +kernel, rfl, rfl⟩
theorem tX_12_53 : x_fty 12 53 (.array .int) true := fun q h => by cases h; exact ⟨by decide +kernel, rfl, rfl⟩
theorem tX_12_54 : x_fty 12 54 (.array .int) true := fun q h => by cases h; exact ⟨by decide +kernel, rfl, rfl⟩
theorem tX_12_55 : x_fty 12 55 (.array .int) true := fun q h => by cases h; exact ⟨by decide +kernel, rfl, rfl⟩
theorem tX_12_56 : x_fty 12 56 (.int) false := fun q h => by cases h; exact ⟨by decide +kernel, rfl, rfl⟩
theorem tX_12_57 : x_fty 12 57 (.boolean) false := fun q h => by cases h; exact ⟨by decide +kernel, rfl, rfl⟩
theorem tX_12_58 : x_fty 12 58 (.int) false := fun q h => by cases h; exact ⟨by decide +kernel, rfl, rfl⟩
theorem tX_12_59 : x_fty 12 59 (.int) false := fun q h => by cases h; exact ⟨by decide +kernel, rfl, rfl⟩
theorem tX_12_60 : x_fty 12 60 (.array .int) true := fun q h => by cases h; exact ⟨by decide +kernel, rfl, rfl⟩
theorem tX_12_61 : x_fty 12 61 (.array .int) true := fun q h => by cases h; exact ⟨by decide +kernel, rfl, rfl⟩
theorem tX_12_62 : x_fty 12 62 (.array .int) true := fun q h => by cases h; exact ⟨by decide +kernel, rfl, rfl⟩
theorem fX_6_9 : x_fld RX6 9 6 0 := ⟨(RX6, TX6, 8), tyX6, rfl, by decide, uX_6, tyX6_ok, nmX6, x_in 131 (by decide +kernel) rfl⟩
theorem fX_11_129 : x_fld RX11 129 6 0 := ⟨(RX6, TX6, 8), tyX6, rfl, by decide, uX_6, tyX6_ok, nmX6, x_in 132 (by decide +kernel) rfl⟩
theorem fX_5_136 : x_fld RX5 136 6 0 := ⟨(RX6, TX6, 8), tyX6, rfl, by decide, uX_6, tyX6_ok, nmX6, x_in 133 (by decide +kernel) rfl⟩
theorem fX_6_15 : x_fld RX6 15 6 1 := ⟨(RX6, TX6, 8), tyX6, rfl, by decide, uX_6, tyX6_ok, nmX6, x_in 134 (by decide +kernel) rfl⟩
theorem fX_6_18 : x_fld RX6 18 6 2 := ⟨(RX6, TX6, 8), tyX6, rfl, by decide, uX_6, tyX6_ok, nmX6, x_in 135 (by decide +kernel) rfl⟩
theorem fX_6_22 : x_fld RX6 22 6 3 := ⟨(RX6, TX6, 8), tyX6, rfl, by decide, uX_6, tyX6_ok, nmX6, x_in 136 (by decide +kernel) rfl⟩
theorem fX_6_25 : x_fld RX6 25 6 4 := ⟨(RX6, TX6, 8), tyX6, rfl, by decide, uX_6, tyX6_ok, nmX6, x_in 137 (by decide +kernel) rfl⟩
theorem fX_11_211 : x_fld RX11 211 6 4 := ⟨(RX6, TX6, 8), tyX6, rfl, by decide, uX_6, tyX6_ok, nmX6, x_in 138 (by decide +kernel) rfl⟩
theorem fX_6_28 : x_fld RX6 28 6 5 := ⟨(RX6, TX6, 8), tyX6, rfl, by decide, uX_6, tyX6_ok, nmX6, x_in 139 (by decide +kernel) rfl⟩
theorem fX_11_214 : x_fld RX11 214 6 5 := ⟨(RX6, TX6, 8), tyX6, rfl, by decide, uX_6, tyX6_ok, nmX6, x_in 140 (by decide +kernel) rfl⟩
theorem fX_6_31 : x_fld RX6 31 6 6 := ⟨(RX6, TX6, 8), tyX6, rfl, by decide, uX_6, tyX6_ok, nmX6, x_in 141 (by decide +kernel) rfl⟩
theorem fX_6_34 : x_fld RX6 34 6 7 := ⟨(RX6, TX6, 8), tyX6, rfl, by decide, uX_6, tyX6_ok, nmX6, x_in 142 (by decide +kernel) rfl⟩
theorem fX_7_9 : x_fld RX7 9 7 0 := ⟨(RX7, TX7, 5), tyX7, rfl, by decide, uX_7, tyX7_ok, nmX7, x_in 168 (by decide +kernel) rfl⟩
theorem fX_7_15 : x_fld RX7 15 7 1 := ⟨(RX7, TX7, 5), tyX7, rfl, by decide, uX_7, tyX7_ok, nmX7, x_in 169 (by decide +kernel) rfl⟩
theorem fX_7_18 : x_fld RX7 18 7 2 := ⟨(RX7, TX7, 5), tyX7, rfl, by decide, uX_7, tyX7_ok, nmX7, x_in 170 (by decide +kernel) rfl⟩
theorem fX_7_22 : x_fld RX7 22 7 3 := ⟨(RX7, TX7, 5), tyX7, rfl, by decide, uX_7, tyX7_ok, nmX7, x_in 171 (by decide +kernel) rfl⟩
theorem fX_5_166 : x_fld RX5 166 7 3 := ⟨(RX7, TX7, 5), tyX7, rfl, by decide, uX_7, tyX7_ok, nmX7, x_in 172 (by decide +kernel) rfl⟩
theorem fX_7_26 : x_fld RX7 26 7 4 := ⟨(RX7, TX7, 5), tyX7, rfl, by decide, uX_7, tyX7_ok, nmX7, x_in 173 (by decide +kernel) rfl⟩
theorem fX_9_11 : x_fld RX9 11 9 0 := ⟨(RX9, TX9, 1), tyX9, rfl, by decide, uX_9, tyX9_ok, nmX9, x_in 191 (by decide +kernel) rfl⟩
theorem fX_1_45 : x_fld RX1 45 9 0 := ⟨(RX9, TX9, 1), tyX9, rfl, by decide, uX_9, tyX9_ok, nmX9, x_in 192 (by decide +kernel) rfl⟩
theorem fX_3_51 : x_fld RX3 51 9 0 := ⟨(RX9, TX9, 1), tyX9, rfl, by decide, uX_9, tyX9_ok, nmX9, x_in 193 (by decide +kernel) rfl⟩
theorem fX_4_40 : x_fld RX4 40 9 0 := ⟨(RX9, TX9, 1), tyX9, rfl, by decide, uX_9, tyX9_ok, nmX9, x_in 194 (by decide +kernel) rfl⟩
theorem fX_0_24 : x_fld RX0 24 9 0 := ⟨(RX9, TX9, 1), tyX9, rfl, by decide, uX_9, tyX9_ok, nmX9, x_in 195 (by decide +kernel) rfl⟩
theorem fX_7_50 : x_fld RX7 50 9 0 := ⟨(RX9, TX9, 1), tyX9, rfl, by decide, uX_9, tyX9_ok, nmX9, x_in 196 (by decide +kernel) rfl⟩
theorem fX_11_135 : x_fld RX11 135 9 0 := ⟨(RX9, TX9, 1), tyX9, rfl, by decide, uX_9, tyX9_ok, nmX9, x_in 197 (by decide +kernel) rfl⟩
theorem fX_3_9 : x_fld RX3 9 3 0 := ⟨(RX3, TX3, 7), tyX3, rfl, by decide, uX_3, tyX3_ok, nmX3, x_in 201 (by decide +kernel) rfl⟩
theorem fX_1_39 : x_fld RX1 39 3 0 := ⟨(RX3, TX3, 7), tyX3, rfl, by decide, uX_3, tyX3_ok, nmX3, x_in 202 (by decide +kernel) rfl⟩
theorem fX_11_110 : x_fld RX11 110 3 0 := ⟨(RX3, TX3, 7), tyX3, rfl, by decide, uX_3, tyX3_ok, nmX3, x_in 203 (by decide +kernel) rfl⟩
theorem fX_5_121 : x_fld RX5 121 3 0 := ⟨(RX3, TX3, 7), tyX3, rfl, by decide, uX_3, tyX3_ok, nmX3, x_in 204 (by decide +kernel) rfl⟩
theorem fX_9_84 : x_fld RX9 84 3 0 := ⟨(RX3, TX3, 7), tyX3, rfl, by decide, uX_3, tyX3_ok, nmX3, x_in 205 (by decide +kernel) rfl⟩
theorem fX_3_15 : x_fld RX3 15 3 1 := ⟨(RX3, TX3, 7), tyX3, rfl, by decide, uX_3, tyX3_ok, nmX3, x_in 206 (by decide +kernel) rfl⟩
theorem fX_4_9 : x_fld RX4 9 3 1 := ⟨(RX3, TX3, 7), tyX3, rfl, by decide, uX_3, tyX3_ok, nmX3, x_in 207 (by decide +kernel) rfl⟩
theorem fX_7_29 : x_fld RX7 29 3 1 := ⟨(RX3, TX3, 7), tyX3, rfl, by decide, uX_3, tyX3_ok, nmX3, x_in 208 (by decide +kernel) rfl⟩
theorem fX_1_65 : x_fld RX1 65 3 1 := ⟨(RX3, TX3, 7), tyX3, rfl, by decide, uX_3, tyX3_ok, nmX3, x_in 209 (by decide +kernel) rfl⟩
theorem fX_11_132 : x_fld RX11 132 3 1 := ⟨(RX3, TX3, 7), tyX3, rfl, by decide, uX_3, tyX3_ok, nmX3, x_in 210 (by decide +kernel) rfl⟩
theorem fX_5_153 : x_fld RX5 153 3 1 := ⟨(RX3, TX3, 7), tyX3, rfl, by decide, uX_3, tyX3_ok, nmX3, x_in 211 (by decide +kernel) rfl⟩
theorem fX_9_77 : x_fld RX9 77 3 1 := ⟨(RX3, TX3, 7), tyX3, rfl, by decide, uX_3, tyX3_ok, nmX3, x_in 212 (by decide +kernel) rfl⟩
theorem fX_3_18 : x_fld RX3 18 3 2 := ⟨(RX3, TX3, 7), tyX3, rfl, by decide, uX_3, tyX3_ok, nmX3, x_in 213 (by decide +kernel) rfl⟩
theorem fX_7_72 : x_fld RX7 72 3 2 := ⟨(RX3, TX3, 7), tyX3, rfl, by decide, uX_3, tyX3_ok, nmX3, x_in 214 (by decide +kernel) rfl⟩
theorem fX_11_164 : x_fld RX11 164 3 2 := ⟨(RX3, TX3, 7), tyX3, rfl, by decide, uX_3, tyX3_ok, nmX3, x_in 215 (by decide +kernel) rfl⟩
theorem fX_9_55 : x_fld RX9 55 3 2 := ⟨(RX3, TX3, 7), tyX3, rfl, by decide, uX_3, tyX3_ok, nmX3, x_in 216 (by decide +kernel) rfl⟩
theorem fX_3_22 : x_fld RX3 22 3 3 := ⟨(RX3, TX3, 7), tyX3, rfl, by decide, uX_3, tyX3_ok, nmX3, x_in 217 (by decide +kernel) rfl⟩
theorem fX_7_69 : x_fld RX7 69 3 3 := ⟨(RX3, TX3, 7), tyX3, rfl, by decide, uX_3, tyX3_ok, nmX3, x_in 218 (by decide +kernel) rfl⟩
theorem fX_11_167 : x_fld RX11 167 3 3 := ⟨(RX3, TX3, 7), tyX3, rfl, by decide, uX_3, tyX3_ok, nmX3, x_in 219 (by decide +kernel) rfl⟩
theorem fX_9_70 : x_fld RX9 70 3 3 := ⟨(RX3, TX3, 7), tyX3, rfl, by decide, uX_3, tyX3_ok, nmX3, x_in 220 (by decide +kernel) rfl⟩
theorem fX_3_28 : x_fld RX3 28 3 4 := ⟨(RX3, TX3, 7), tyX3, rfl, by decide, uX_3, tyX3_ok, nmX3, x_in 221 (by decide +kernel) rfl⟩
theorem fX_4_36 : x_fld RX4 36 3 4 := ⟨(RX3, TX3, 7), tyX3, rfl, by decide, uX_3, tyX3_ok, nmX3, x_in 222 (by decide +kernel) rfl⟩
theorem fX_11_106 : x_fld RX11 106 3 4 := ⟨(RX3, TX3, 7), tyX3, rfl, by decide, uX_3, tyX3_ok, nmX3, x_in 223 (by decide +kernel) rfl⟩
theorem fX_5_132 : x_fld RX5 132 3 4 := ⟨(RX3, TX3, 7), tyX3, rfl, by decide, uX_3, tyX3_ok, nmX3, x_in 224 (by decide +kernel) rfl⟩
theorem fX_3_35 : x_fld RX3 35 3 5 := ⟨(RX3, TX3, 7), tyX3, rfl, by decide, uX_3, tyX3_ok, nmX3, x_in 225 (by decide +kernel) rfl⟩
theorem fX_11_170 : x_fld RX11 170 3 5 := ⟨(RX3, TX3, 7), tyX3, rfl, by decide, uX_3, tyX3_ok, nmX3, x_in 226 (by decide +kernel) rfl⟩
theorem fX_5_162 : x_fld RX5 162 3 5 := ⟨(RX3, TX3, 7), tyX3, rfl, by decide, uX_3, tyX3_ok, nmX3, x_in 227 (by decide +kernel) rfl⟩
theorem fX_9_60 : x_fld RX9 60 3 5 := ⟨(RX3, TX3, 7), tyX3, rfl, by decide, uX_3, tyX3_ok, nmX3, x_in 228 (by decide +kernel) rfl⟩
theorem fX_3_42 : x_fld RX3 42 3 6 := ⟨(RX3, TX3, 7), tyX3, rfl, by decide, uX_3, tyX3_ok, nmX3, x_in 229 (by decide +kernel) rfl⟩
theorem fX_11_118 : x_fld RX11 118 3 6 := ⟨(RX3, TX3, 7), tyX3, rfl, by decide, uX_3, tyX3_ok, nmX3, x_in 230 (by decide +kernel) rfl⟩
theorem fX_5_9 : x_fld RX5 9 5 0 := ⟨(RX5, TX5, 10), tyX5, rfl, by decide, uX_5, tyX5_ok, nmX5, x_in 246 (by decide +kernel) rfl⟩
theorem fX_11_376 : x_fld RX11 376 5 0 := ⟨(RX5, TX5, 10), tyX5, rfl, by decide, uX_5, tyX5_ok, nmX5, x_in 247 (by decide +kernel) rfl⟩
theorem fX_5_15 : x_fld RX5 15 5 1 := ⟨(RX5, TX5, 10), tyX5, rfl, by decide, uX_5, tyX5_ok, nmX5, x_in 248 (by decide +kernel) rfl⟩
theorem fX_5_19 : x_fld RX5 19 5 2 := ⟨(RX5, TX5, 10), tyX5, rfl, by decide, uX_5, tyX5_ok, nmX5, x_in 249 (by decide +kernel) rfl⟩
theorem fX_5_22 : x_fld RX5 22 5 3 := ⟨(RX5, TX5, 10), tyX5, rfl, by decide, uX_5, tyX5_ok, nmX5, x_in 250 (by decide +kernel) rfl⟩
theorem fX_5_25 : x_fld RX5 25 5 4 := ⟨(RX5, TX5, 10), tyX5, rfl, by decide, uX_5, tyX5_ok, nmX5, x_in 251 (by decide +kernel) rfl⟩
theorem fX_5_28 : x_fld RX5 28 5 5 := ⟨(RX5, TX5, 10), tyX5, rfl, by decide, uX_5, tyX5_ok, nmX5, x_in 252 (by decide +kernel) rfl⟩
theorem fX_5_31 : x_fld RX5 31 5 6 := ⟨(RX5, TX5, 10), tyX5, rfl, by decide, uX_5, tyX5_ok, nmX5, x_in 253 (by decide +kernel) rfl⟩
theorem fX_5_37 : x_fld RX5 37 5 7 := ⟨(RX5, TX5, 10), tyX5, rfl, by decide, uX_5, tyX5_ok, nmX5, x_in 254 (by decide +kernel) rfl⟩
theorem fX_11_105 : x_fld RX11 105 5 7 := ⟨(RX5, TX5, 10), tyX5, rfl, by decide, uX_5, tyX5_ok, nmX5, x_in 255 (by decide +kernel) rfl⟩
theorem fX_5_41 : x_fld RX5 41 5 8 := ⟨(RX5, TX5, 10), tyX5, rfl, by decide, uX_5, tyX5_ok, nmX5, x_in 256 (by decide +kernel) rfl⟩
theorem fX_11_102 : x_fld RX11 102 5 8 := ⟨(RX5, TX5, 10), tyX5, rfl, by decide, uX_5, tyX5_ok, nmX5, x_in 257 (by decide +kernel) rfl⟩
theorem fX_5_44 : x_fld RX5 44 5 9 := ⟨(RX5, TX5, 10), tyX5, rfl, by decide, uX_5, tyX5_ok, nmX5, x_in 258 (by decide +kernel) rfl⟩
theorem fX_11_99 : x_fld RX11 99 5 9 := ⟨(RX5, TX5, 10), tyX5, rfl, by decide, uX_5, tyX5_ok, nmX5, x_in 259 (by decide +kernel) rfl⟩
theorem fX_0_11 : x_fld RX0 11 0 0 := ⟨(RX0, TX0, 3), tyX0, rfl, by decide, uX_0, tyX0_ok, nmX0, x_in 291 (by decide +kernel) rfl⟩
theorem fX_0_17 : x_fld RX0 17 0 1 := ⟨(RX0, TX0, 3), tyX0, rfl, by decide, uX_0, tyX0_ok, nmX0, x_in 292 (by decide +kernel) rfl⟩
theorem fX_0_21 : x_fld RX0 21 0 2 := ⟨(RX0, TX0, 3), tyX0, rfl, by decide, uX_0, tyX0_ok, nmX0, x_in 293 (by decide +kernel) rfl⟩
theorem fX_11_152 : x_fld RX11 152 0 2 := ⟨(RX0, TX0, 3), tyX0, rfl, by decide, uX_0, tyX0_ok, nmX0, x_in 294 (by decide +kernel) rfl⟩
theorem fX_8_9 : x_fld RX8 9 8 0 := ⟨(RX8, TX8, 4), tyX8, rfl, by decide, uX_8, tyX8_ok, nmX8, x_in 308 (by decide +kernel) rfl⟩
theorem fX_1_57 : x_fld RX1 57 8 0 := ⟨(RX8, TX8, 4), tyX8, rfl, by decide, uX_8, tyX8_ok, nmX8, x_in 309 (by decide +kernel) rfl⟩
theorem fX_8_15 : x_fld RX8 15 8 1 := ⟨(RX8, TX8, 4), tyX8, rfl, by decide, uX_8, tyX8_ok, nmX8, x_in 310 (by decide +kernel) rfl⟩
theorem fX_1_59 : x_fld RX1 59 8 1 := ⟨(RX8, TX8, 4), tyX8, rfl, by decide, uX_8, tyX8_ok, nmX8, x_in 311 (by decide +kernel) rfl⟩
theorem fX_8_18 : x_fld RX8 18 8 2 := ⟨(RX8, TX8, 4), tyX8, rfl, by decide, uX_8, tyX8_ok, nmX8, x_in 312 (by decide +kernel) rfl⟩
theorem fX_1_62 : x_fld RX1 62 8 2 := ⟨(RX8, TX8, 4), tyX8, rfl, by decide, uX_8, tyX8_ok, nmX8, x_in 313 (by decide +kernel) rfl⟩
theorem fX_8_21 : x_fld RX8 21 8 3 := ⟨(RX8, TX8, 4), tyX8, rfl, by decide, uX_8, tyX8_ok, nmX8, x_in 314 (by decide +kernel) rfl⟩
theorem fX_1_52 : x_fld RX1 52 8 3 := ⟨(RX8, TX8, 4), tyX8, rfl, by decide, uX_8, tyX8_ok, nmX8, x_in 315 (by decide +kernel) rfl⟩
theorem fX_11_155 : x_fld RX11 155 8 3 := ⟨(RX8, TX8, 4), tyX8, rfl, by decide, uX_8, tyX8_ok, nmX8, x_in 316 (by decide +kernel) rfl⟩
theorem fX_1_11 : x_fld RX1 11 1 0 := ⟨(RX1, TX1, 6), tyX1, rfl, by decide, uX_1, tyX1_ok, nmX1, x_in 334 (by decide +kernel) rfl⟩
theorem fX_1_15 : x_fld RX1 15 1 1 := ⟨(RX1, TX1, 6), tyX1, rfl, by decide, uX_1, tyX1_ok, nmX1, x_in 335 (by decide +kernel) rfl⟩
theorem fX_1_18 : x_fld RX1 18 1 2 := ⟨(RX1, TX1, 6), tyX1, rfl, by decide, uX_1, tyX1_ok, nmX1, x_in 336 (by decide +kernel) rfl⟩
theorem fX_1_21 : x_fld RX1 21 1 3 := ⟨(RX1, TX1, 6), tyX1, rfl, by decide, uX_1, tyX1_ok, nmX1, x_in 337 (by decide +kernel) rfl⟩
theorem fX_1_28 : x_fld RX1 28 1 4 := ⟨(RX1, TX1, 6), tyX1, rfl, by decide, uX_1, tyX1_ok, nmX1, x_in 338 (by decide +kernel) rfl⟩
theorem fX_1_32 : x_fld RX1 32 1 5 := ⟨(RX1, TX1, 6), tyX1, rfl, by decide, uX_1, tyX1_ok, nmX1, x_in 339 (by decide +kernel) rfl⟩
theorem fX_2_7 : x_fld RX2 7 2 0 := ⟨(RX2, TX2, 1), tyX2, rfl, by decide, uX_2, tyX2_ok, nmX2, x_in 360 (by decide +kernel) rfl⟩
theorem fX_11_357 : x_fld RX11 357 2 0 := ⟨(RX2, TX2, 1), tyX2, rfl, by decide, uX_2, tyX2_ok, nmX2, x_in 361 (by decide +kernel) rfl⟩
theorem fX_11_10 : x_fld RX11 10 11 0 := ⟨(RX11, TX11, 15), tyX11, rfl, by decide, uX_11, tyX11_ok, nmX11, x_in 365 (by decide +kernel) rfl⟩
theorem fX_11_16 : x_fld RX11 16 11 1 := ⟨(RX11, TX11, 15), tyX11, rfl, by decide, uX_11, tyX11_ok, nmX11, x_in 366 (by decide +kernel) rfl⟩
theorem fX_11_23 : x_fld RX11 23 11 2 := ⟨(RX11, TX11, 15), tyX11, rfl, by decide, uX_11, tyX11_ok, nmX11, x_in 367 (by decide +kernel) rfl⟩
theorem fX_11_30 : x_fld RX11 30 11 3 := ⟨(RX11, TX11, 15), tyX11, rfl, by decide, uX_11, tyX11_ok, nmX11, x_in 368 (by decide +kernel) rfl⟩
theorem fX_11_34 : x_fld RX11 34 11 4 := ⟨(RX11, TX11, 15), tyX11, rfl, by decide, uX_11, tyX11_ok, nmX11, x_in 369 (by decide +kernel) rfl⟩
theorem fX_11_40 : x_fld RX11 40 11 5 := ⟨(RX11, TX11, 15), tyX11, rfl, by decide, uX_11, tyX11_ok, nmX11, x_in 370 (by decide +kernel) rfl⟩
theorem fX_11_47 : x_fld RX11 47 11 6 := ⟨(RX11, TX11, 15), tyX11, rfl, by decide, uX_11, tyX11_ok, nmX11, x_in 371 (by decide +kernel) rfl⟩
theorem fX_11_51 : x_fld RX11 51 11 7 := ⟨(RX11, TX11, 15), tyX11, rfl, by decide, uX_11, tyX11_ok, nmX11, x_in 372 (by decide +kernel) rfl⟩
theorem fX_11_55 : x_fld RX11 55 11 8 := ⟨(RX11, TX11, 15), tyX11, rfl, by decide, uX_11, tyX11_ok, nmX11, x_in 373 (by decide +kernel) rfl⟩
theorem fX_11_58 : x_fld RX11 58 11 9 := ⟨(RX11, TX11, 15), tyX11, rfl, by decide, uX_11, tyX11_ok, nmX11, x_in 374 (by decide +kernel) rfl⟩
theorem fX_11_61 : x_fld RX11 61 11 10 := ⟨(RX11, TX11, 15), tyX11, rfl, by decide, uX_11, tyX11_ok, nmX11, x_in 375 (by decide +kernel) rfl⟩
theorem fX_11_67 : x_fld RX11 67 11 11 := ⟨(RX11, TX11, 15), tyX11, rfl, by decide, uX_11, tyX11_ok, nmX11, x_in 376 (by decide +kernel) rfl⟩
theorem fX_11_74 : x_fld RX11 74 11 12 := ⟨(RX11, TX11, 15), tyX11, rfl, by decide, uX_11, tyX11_ok, nmX11, x_in 377 (by decide +kernel) rfl⟩
theorem fX_11_78 : x_fld RX11 78 11 13 := ⟨(RX11, TX11, 15), tyX11, rfl, by decide, uX_11, tyX11_ok, nmX11, x_in 378 (by decide +kernel) rfl⟩
theorem fX_11_82 : x_fld RX11 82 11 14 := ⟨(RX11, TX11, 15), tyX11, rfl, by decide, uX_11, tyX11_ok, nmX11, x_in 379 (by decide +kernel) rfl⟩
theorem fX_12_117 : x_fld RX12 117 12 0 := ⟨(RX12, TX12, 63), tyX12, rfl, by decide, uX_12, tyX12_ok, nmX12, x_in 1343 (by decide +kernel) rfl⟩
theorem fX_12_281 : x_fld RX12 281 12 1 := ⟨(RX12, TX12, 63), tyX12, rfl, by decide, uX_12, tyX12_ok, nmX12, x_in 1344 (by decide +kernel) rfl⟩
theorem fX_12_284 : x_fld RX12 284 12 2 := ⟨(RX12, TX12, 63), tyX12, rfl, by decide, uX_12, tyX12_ok, nmX12, x_in 1345 (by decide +kernel) rfl⟩
theorem fX_12_287 : x_fld RX12 287 12 3 := ⟨(RX12, TX12, 63), tyX12, rfl, by decide, uX_12, tyX12_ok, nmX12, x_in 1346 (by decide +kernel) rfl⟩
theorem fX_12_9 : x_fld RX12 9 12 4 := ⟨(RX12, TX12, 63), tyX12, rfl, by decide, uX_12, tyX12_ok, nmX12, x_in 1347 (by decide +kernel) rfl⟩
theorem fX_12_13 : x_fld RX12 13 12 5 := ⟨(RX12, TX12, 63), tyX12, rfl, by decide, uX_12, tyX12_ok, nmX12, x_in 1348 (by decide +kernel) rfl⟩
theorem fX_12_17 : x_fld RX12 17 12 6 := ⟨(RX12, TX12, 63), tyX12, rfl, by decide, uX_12, tyX12_ok, nmX12, x_in 1349 (by decide +kernel) rfl⟩
theorem fX_12_20 : x_fld RX12 20 12 7 := ⟨(RX12, TX12, 63), tyX12, rfl, by decide, uX_12, tyX12_ok, nmX12, x_in 1350 (by decide +kernel) rfl⟩
theorem fX_12_23 : x_fld RX12 23 12 8 := ⟨(RX12, TX12, 63), tyX12, rfl, by decide, uX_12, tyX12_ok, nmX12, x_in 1351 (by decide +kernel) rfl⟩
theorem fX_12_26 : x_fld RX12 26 12 9 := ⟨(RX12, TX12, 63), tyX12, rfl, by decide, uX_12, tyX12_ok, nmX12, x_in 1352 (by decide +kernel) rfl⟩
theorem fX_12_29 : x_fld RX12 29 12 10 := ⟨(RX12, TX12, 63), tyX12, rfl, by decide, uX_12, tyX12_ok, nmX12, x_in 1353 (by decide +kernel) rfl⟩
theorem fX_12_32 : x_fld RX12 32 12 11 := ⟨(RX12, TX12, 63), tyX12, rfl, by decide, uX_12, tyX12_ok, nmX12, x_in 1354 (by decide +kernel) rfl⟩
theorem fX_12_35 : x_fld RX12 35 12 12 := ⟨(RX12, TX12, 63), tyX12, rfl, by decide, uX_12, tyX12_ok, nmX12, x_in 1355 (by decide +kernel) rfl⟩
theorem fX_12_120 : x_fld RX12 120 12 13 := ⟨(RX12, TX12, 63), tyX12, rfl, by decide, uX_12, tyX12_ok, nmX12, x_in 1356 (by decide +kernel) rfl⟩
theorem fX_12_173 : x_fld RX12 173 12 14 := ⟨(RX12, TX12, 63), tyX12, rfl, by decide, uX_12, tyX12_ok, nmX12, x_in 1357 (by decide +kernel) rfl⟩
theorem fX_12_38 : x_fld RX12 38 12 15 := ⟨(RX12, TX12, 63), tyX12, rfl, by decide, uX_12, tyX12_ok, nmX12, x_in 1358 (by decide +kernel) rfl⟩
theorem fX_12_41 : x_fld RX12 41 12 16 := ⟨(RX12, TX12, 63), tyX12, rfl, by decide, uX_12, tyX12_ok, nmX12, x_in 1359 (by decide +kernel) rfl⟩
theorem fX_12_127 : x_fld RX12 127 12 17 := ⟨(RX12, TX12, 63), tyX12, rfl, by decide, uX_12, tyX12_ok, nmX12, x_in 1360 (by decide +kernel) rfl⟩
theorem fX_12_130 : x_fld RX12 130 12 18 := ⟨(RX12, TX12, 63), tyX12, rfl, by decide, uX_12, tyX12_ok, nmX12, x_in 1361 (by decide +kernel) rfl⟩
theorem fX_12_150 : x_fld RX12 150 12 19 := ⟨(RX12, TX12, 63), tyX12, rfl, by decide, uX_12, tyX12_ok, nmX12, x_in 1362 (by decide +kernel) rfl⟩
theorem fX_12_137 : x_fld RX12 137 12 20 := ⟨(RX12, TX12, 63), tyX12, rfl, by decide, uX_12, tyX12_ok, nmX12, x_in 1363 (by decide +kernel) rfl⟩
theorem fX_12_160 : x_fld RX12 160 12 21 := ⟨(RX12, TX12, 63), tyX12, rfl, by decide, uX_12, tyX12_ok, nmX12, x_in 1364 (by decide +kernel) rfl⟩
theorem fX_12_144 : x_fld RX12 144 12 22 := ⟨(RX12, TX12, 63), tyX12, rfl, by decide, uX_12, tyX12_ok, nmX12, x_in 1365 (by decide +kernel) rfl⟩
theorem fX_12_147 : x_fld RX12 147 12 23 := ⟨(RX12, TX12, 63), tyX12, rfl, by decide, uX_12, tyX12_ok, nmX12, x_in 1366 (by decide +kernel) rfl⟩
theorem fX_12_140 : x_fld RX12 140 12 24 := ⟨(RX12, TX12, 63), tyX12, rfl, by decide, uX_12, tyX12_ok, nmX12, x_in 1367 (by decide +kernel) rfl⟩
theorem fX_12_236 : x_fld RX12 236 12 25 := ⟨(RX12, TX12, 63), tyX12, rfl, by decide, uX_12, tyX12_ok, nmX12, x_in 1368 (by decide +kernel) rfl⟩
theorem fX_12_243 : x_fld RX12 243 12 26 := ⟨(RX12, TX12, 63), tyX12, rfl, by decide, uX_12, tyX12_ok, nmX12, x_in 1369 (by decide +kernel) rfl⟩
theorem fX_12_253 : x_fld RX12 253 12 27 := ⟨(RX12, TX12, 63), tyX12, rfl, by decide, uX_12, tyX12_ok, nmX12, x_in 1370 (by decide +kernel) rfl⟩
theorem fX_12_265 : x_fld RX12 265 12 28 := ⟨(RX12, TX12, 63), tyX12, rfl, by decide, uX_12, tyX12_ok, nmX12, x_in 1371 (by decide +kernel) rfl⟩
theorem fX_12_189 : x_fld RX12 189 12 29 := ⟨(RX12, TX12, 63), tyX12, rfl, by decide, uX_12, tyX12_ok, nmX12, x_in 1372 (by decide +kernel) rfl⟩
theorem fX_12_192 : x_fld RX12 192 12 30 := ⟨(RX12, TX12, 63), tyX12, rfl, by decide, uX_12, tyX12_ok, nmX12, x_in 1373 (by decide +kernel) rfl⟩
theorem fX_12_208 : x_fld RX12 208 12 31 := ⟨(RX12, TX12, 63), tyX12, rfl, by decide, uX_12, tyX12_ok, nmX12, x_in 1374 (by decide +kernel) rfl⟩
theorem fX_12_44 : x_fld RX12 44 12 32 := ⟨(RX12, TX12, 63), tyX12, rfl, by decide, uX_12, tyX12_ok, nmX12, x_in 1375 (by decide +kernel) rfl⟩
theorem fX_12_47 : x_fld RX12 47 12 33 := ⟨(RX12, TX12, 63), tyX12, rfl, by decide, uX_12, tyX12_ok, nmX12, x_in 1376 (by decide +kernel) rfl⟩
theorem fX_12_50 : x_fld RX12 50 12 34 := ⟨(RX12, TX12, 63), tyX12, rfl, by decide, uX_12, tyX12_ok, nmX12, x_in 1377 (by decide +kernel) rfl⟩
theorem fX_12_53 : x_fld RX12 53 12 35 := ⟨(RX12, TX12, 63), tyX12, rfl, by decide, uX_12, tyX12_ok, nmX12, x_in 1378 (by decide +kernel) rfl⟩
theorem fX_12_56 : x_fld RX12 56 12 36 := ⟨(RX12, TX12, 63), tyX12, rfl, by decide, uX_12, tyX12_ok, nmX12, x_in 1379 (by decide +kernel) rfl⟩
theorem fX_12_59 : x_fld RX12 59 12 37 := ⟨(RX12, TX12, 63), tyX12, rfl, by decide, uX_12, tyX12_ok, nmX12, x_in 1380 (by decide +kernel) rfl⟩
theorem fX_12_62 : x_fld RX12 62 12 38 := ⟨(RX12, TX12, 63), tyX12, rfl, by decide, uX_12, tyX12_ok, nmX12, x_in 1381 (by decide +kernel) rfl⟩
theorem fX_12_65 : x_fld RX12 65 12 39 := ⟨(RX12, TX12, 63), tyX12, rfl, by decide, uX_12, tyX12_ok, nmX12, x_in 1382 (by decide +kernel) rfl⟩
theorem fX_12_68 : x_fld RX12 68 12 40 := ⟨(RX12, TX12, 63), tyX12, rfl, by decide, uX_12, tyX12_ok, nmX12, x_in 1383 (by decide +kernel) rfl⟩
theorem fX_12_71 : x_fld RX12 71 12 41 := ⟨(RX12, TX12, 63), tyX12, rfl, by decide, uX_12, tyX12_ok, nmX12, x_in 1384 (by decide +kernel) rfl⟩
theorem fX_12_75 : x_fld RX12 75 12 42 := ⟨(RX12, TX12, 63), tyX12, rfl, by decide, uX_12, tyX12_ok, nmX12, x_in 1385 (by decide +kernel) rfl⟩
theorem fX_12_78 : x_fld RX12 78 12 43 := ⟨(RX12, TX12, 63), tyX12, rfl, by decide, uX_12, tyX12_ok, nmX12, x_in 1386 (by decide +kernel) rfl⟩
theorem fX_12_294 : x_fld RX12 294 12 44 := ⟨(RX12, TX12, 63), tyX12, rfl, by decide, uX_12, tyX12_ok, nmX12, x_in 1387 (by decide +kernel) rfl⟩
theorem fX_12_81 : x_fld RX12 81 12 45 := ⟨(RX12, TX12, 63), tyX12, rfl, by decide, uX_12, tyX12_ok, nmX12, x_in 1388 (by decide +kernel) rfl⟩
theorem fX_12_84 : x_fld RX12 84 12 46 := ⟨(RX12, TX12, 63), tyX12, rfl, by decide, uX_12, tyX12_ok, nmX12, x_in 1389 (by decide +kernel) rfl⟩
theorem fX_12_329 : x_fld RX12 329 12 47 := ⟨(RX12, TX12, 63), tyX12, rfl, by decide, uX_12, tyX12_ok, nmX12, x_in 1390 (by decide +kernel) rfl⟩
theorem fX_12_87 : x_fld RX12 87 12 48 := ⟨(RX12, TX12, 63), tyX12, rfl, by decide, uX_12, tyX12_ok, nmX12, x_in 1391 (by decide +kernel) rfl⟩
theorem fX_12_90 : x_fld RX12 90 12 49 := ⟨(RX12, TX12, 63), tyX12, rfl, by decide, uX_12, tyX12_ok, nmX12, x_in 1392 (by decide +kernel) rfl⟩
theorem fX_12_93 : x_fld RX12 93 12 50 := ⟨(RX12, TX12, 63), tyX12, rfl, by decide, uX_12, tyX12_ok, nmX12, x_in 1393 (by decide +kernel) rfl⟩
theorem fX_12_96 : x_fld RX12 96 12 51 := ⟨(RX12, TX12, 63), tyX12, rfl, by decide, uX_12, tyX12_ok, nmX12, x_in 1394 (by decide +kernel) rfl⟩
theorem fX_12_297 : x_fld RX12 297 12 52 := ⟨(RX12, TX12, 63), tyX12, rfl, by decide, uX_12, tyX12_ok, nmX12, x_in 1395 (by decide +kernel) rfl⟩
theorem fX_12_99 : x_fld RX12 99 12 53 := ⟨(RX12, TX12, 63), tyX12, rfl, by decide, uX_12, tyX12_ok, nmX12, x_in 1396 (by decide +kernel) rfl⟩
theorem fX_12_102 : x_fld RX12 102 12 54 := ⟨(RX12, TX12, 63), tyX12, rfl, by decide, uX_12, tyX12_ok, nmX12, x_in 1397 (by decide +kernel) rfl⟩
theorem fX_12_105 : x_fld RX12 105 12 55 := ⟨(RX12, TX12, 63), tyX12, rfl, by decide, uX_12, tyX12_ok, nmX12, x_in 1398 (by decide +kernel) rfl⟩
theorem fX_12_430 : x_fld RX12 430 12 56 := ⟨(RX12, TX12, 63), tyX12, rfl, by decide, uX_12, tyX12_ok, nmX12, x_in 1399 (by decide +kernel) rfl⟩
theorem fX_12_300 : x_fld RX12 300 12 57 := ⟨(RX12, TX12, 63), tyX12, rfl, by decide, uX_12, tyX12_ok, nmX12, x_in 1400 (by decide +kernel) rfl⟩
theorem fX_12_446 : x_fld RX12 446 12 58 := ⟨(RX12, TX12, 63), tyX12, rfl, by decide, uX_12, tyX12_ok, nmX12, x_in 1401 (by decide +kernel) rfl⟩
theorem fX_12_449 : x_fld RX12 449 12 59 := ⟨(RX12, TX12, 63), tyX12, rfl, by decide, uX_12, tyX12_ok, nmX12, x_in 1402 (by decide +kernel) rfl⟩
theorem fX_12_108 : x_fld RX12 108 12 60 := ⟨(RX12, TX12, 63), tyX12, rfl, by decide, uX_12, tyX12_ok, nmX12, x_in 1403 (by decide +kernel) rfl⟩
theorem fX_12_111 : x_fld RX12 111 12 61 := ⟨(RX12, TX12, 63), tyX12, rfl, by decide, uX_12, tyX12_ok, nmX12, x_in 1404 (by decide +kernel) rfl⟩
theorem fX_12_114 : x_fld RX12 114 12 62 := ⟨(RX12, TX12, 63), tyX12, rfl, by decide, uX_12, tyX12_ok, nmX12, x_in 1405 (by decide +kernel) rfl⟩
end XW
