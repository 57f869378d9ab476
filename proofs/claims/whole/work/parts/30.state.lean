section C9
def is_St (N : Nat) (sh : xS) (r a : Nat) : Prop := r < N ∧ sh r = .inr (9, [a + 3]) ∧ a < N ∧ sh a = .inl (0, 85)
theorem w_9_15 : Cond.methodLink RX9 15 arraycopyName ∈ x_T ∧ Cond.native arraycopyName ∈ x_T ∧ Cond.static arraycopyName ∈ x_T ∧ Cond.initialized "java/lang/System" ∈ x_T := ⟨(x_in 526 (by decide +kernel) rfl), (x_in 437 (by decide +kernel) rfl), (x_in 436 (by decide +kernel) rfl), (x_in 100 (by decide +kernel) rfl)⟩
theorem w_9_21 : x_cv RX9 21 yX9_isGone cX9_isGone 2 (some .boolean) 9 1 := ⟨⟨_, rfl, rfl⟩, (x_in 510 (by decide +kernel) rfl), (x_in 511 (by decide +kernel) rfl), (x_in 512 (by decide +kernel) rfl), (x_in 85 (by decide +kernel) rfl), (x_in 513 (by decide +kernel) rfl), by decide, ⟨by decide +kernel, by decide +kernel, by decide +kernel⟩⟩
theorem w_9_25 : x_cv RX9 25 yX9_isMoving cX9_isMoving 2 (some .boolean) 9 1 := ⟨⟨_, rfl, rfl⟩, (x_in 514 (by decide +kernel) rfl), (x_in 515 (by decide +kernel) rfl), (x_in 516 (by decide +kernel) rfl), (x_in 85 (by decide +kernel) rfl), (x_in 517 (by decide +kernel) rfl), by decide, ⟨by decide +kernel, by decide +kernel, by decide +kernel⟩⟩
theorem w_9_28 : x_cv RX9 28 yX9_lies cX9_lies 2 (some .boolean) 9 1 := ⟨⟨_, rfl, rfl⟩, (x_in 901 (by decide +kernel) rfl), (x_in 507 (by decide +kernel) rfl), (x_in 508 (by decide +kernel) rfl), (x_in 85 (by decide +kernel) rfl), (x_in 509 (by decide +kernel) rfl), by decide, ⟨by decide +kernel, by decide +kernel, by decide +kernel⟩⟩
theorem w_9_31 : x_mw RX9 31 Lib.Math.max.name Lib.Math.max.code 2 := ⟨(x_in 450 (by decide +kernel) rfl), (x_in 451 (by decide +kernel) rfl), (x_in 95 (by decide +kernel) rfl), (x_in 452 (by decide +kernel) rfl)⟩
theorem w_9_37 : x_mw RX9 37 Lib.Math.min.name Lib.Math.min.code 2 := ⟨(x_in 461 (by decide +kernel) rfl), (x_in 462 (by decide +kernel) rfl), (x_in 95 (by decide +kernel) rfl), (x_in 463 (by decide +kernel) rfl)⟩
theorem w_9_40 : x_cv RX9 40 yX9_lose cX9_lose 2 (none) 9 1 := ⟨⟨_, rfl, rfl⟩, (x_in 535 (by decide +kernel) rfl), (x_in 528 (by decide +kernel) rfl), (x_in 529 (by decide +kernel) rfl), (x_in 85 (by decide +kernel) rfl), (x_in 530 (by decide +kernel) rfl), by decide, ⟨by decide +kernel, by decide +kernel, by decide +kernel⟩⟩
theorem w_9_44 : x_cv RX9 44 yX9_addTo cX9_addTo 3 (none) 9 2 := ⟨⟨_, rfl, rfl⟩, (x_in 457 (by decide +kernel) rfl), (x_in 458 (by decide +kernel) rfl), (x_in 459 (by decide +kernel) rfl), (x_in 85 (by decide +kernel) rfl), (x_in 460 (by decide +kernel) rfl), by decide, ⟨by decide +kernel, by decide +kernel, by decide +kernel⟩⟩
theorem w_9_48 : x_mw RX9 48 Lib.Math.abs.name Lib.Math.abs.code 1 := ⟨(x_in 993 (by decide +kernel) rfl), (x_in 994 (by decide +kernel) rfl), (x_in 95 (by decide +kernel) rfl), (x_in 995 (by decide +kernel) rfl)⟩
theorem w_9_52 : x_cv RX9 52 yX9_sum cX9_sum 5 (some .int) 9 2 := ⟨⟨_, rfl, rfl⟩, (x_in 540 (by decide +kernel) rfl), (x_in 541 (by decide +kernel) rfl), (x_in 542 (by decide +kernel) rfl), (x_in 85 (by decide +kernel) rfl), (x_in 543 (by decide +kernel) rfl), by decide, ⟨by decide +kernel, by decide +kernel, by decide +kernel⟩⟩
theorem c9_isGone {X : xC} {l : Launch} (hl : l.stackTraces = false) {N : Nat} {sh : xS} {D : xM} {r a : Nat} (hs : is_St N sh r a) {B : Int} (hB : B ≤ 1000000) (hk : s_ok B (D a)) {c : Int} (h0 : 0 ≤ c) (h1 : c < 10) : x_M X l yX9_isGone cX9_isGone 2 (some .boolean) 1 0 0 [.ref (x_b X + r), .int (xI c)] false N sh D (.inl (some (.int (xI (x_B (s_gone (D a) c)))))) false N sh (x_is (D)) := by
  obtain ⟨hrN, hr, haN, ha⟩ := hs
  refine x_ofW (by decide +kernel) hl (by simp [Value.category]) (by simp) ?_
  refine x_aload_n dX9_isGone_0 x_get_2_0 ?_
  refine x_getR dX9_isGone_1 fX_9_11 (by assumption) (by assumption) (by rfl) ?_
  refine x_bipush dX9_isGone_4 rfl ?_
  refine x_iload_n dX9_isGone_6 x_get_2_1 ?_
  refine x_iadd dX9_isGone_7 ?_
  refine x_iald dX9_isGone_8 (by assumption) (by assumption) (by omega) (by omega) (by decide) ?_
  refine x_iconst dX9_isGone_9 ?_
  refine r_icmp_ne (t := 17) dX9_isGone_10 rfl (by first | exact s_r hk hB (by omega) (by omega) | exact ⟨by omega, by omega⟩) (by first | exact s_r hk hB (by omega) (by omega) | exact ⟨by omega, by omega⟩) (fun hc10 => ?_) (fun hc10 => ?_)
  · refine x_iconst dX9_isGone_17 ?_
    exact x_zret dX9_isGone_18 rfl (by omega) (Nat.le_of_ble_eq_true rfl) (Nat.le_of_ble_eq_true rfl) (by first | (rw [x_B, if_pos (by omega)]; done) | (rw [x_B, if_neg (by omega)]; done)) rfl rfl rfl rfl
  · refine x_iconst dX9_isGone_13 ?_
    refine x_goto (t := 18) dX9_isGone_14 rfl ?_
    exact x_zret dX9_isGone_18 rfl (by omega) (Nat.le_of_ble_eq_true rfl) (Nat.le_of_ble_eq_true rfl) (by first | (rw [x_B, if_pos (by omega)]; done) | (rw [x_B, if_neg (by omega)]; done)) rfl rfl rfl rfl
theorem c9_isMoving {X : xC} {l : Launch} (hl : l.stackTraces = false) {N : Nat} {sh : xS} {D : xM} {r a : Nat} (hs : is_St N sh r a) {B : Int} (hB : B ≤ 1000000) (hk : s_ok B (D a)) {c : Int} (h0 : 0 ≤ c) (h1 : c < 10) : x_M X l yX9_isMoving cX9_isMoving 2 (some .boolean) 1 0 0 [.ref (x_b X + r), .int (xI c)] false N sh D (.inl (some (.int (xI (x_B (s_mov (D a) c)))))) false N sh (x_is (D)) := by
  obtain ⟨hrN, hr, haN, ha⟩ := hs
  refine x_ofW (by decide +kernel) hl (by simp [Value.category]) (by simp) ?_
  refine x_aload_n dX9_isMoving_0 x_get_2_0 ?_
  refine x_getR dX9_isMoving_1 fX_9_11 (by assumption) (by assumption) (by rfl) ?_
  refine x_bipush dX9_isMoving_4 rfl ?_
  refine x_iload_n dX9_isMoving_6 x_get_2_1 ?_
  refine x_iadd dX9_isMoving_7 ?_
  refine x_iald dX9_isMoving_8 (by assumption) (by assumption) (by omega) (by omega) (by decide) ?_
  refine r_if_le (t := 16) dX9_isMoving_9 rfl (by first | exact s_r hk hB (by omega) (by omega) | exact ⟨by omega, by omega⟩) (fun hc9 => ?_) (fun hc9 => ?_)
  · refine x_iconst dX9_isMoving_16 ?_
    exact x_zret dX9_isMoving_17 rfl (by omega) (Nat.le_of_ble_eq_true rfl) (Nat.le_of_ble_eq_true rfl) (by first | (rw [x_B, if_pos (by omega)]; done) | (rw [x_B, if_neg (by omega)]; done)) rfl rfl rfl rfl
  · refine x_iconst dX9_isMoving_12 ?_
    refine x_goto (t := 17) dX9_isMoving_13 rfl ?_
    exact x_zret dX9_isMoving_17 rfl (by omega) (Nat.le_of_ble_eq_true rfl) (Nat.le_of_ble_eq_true rfl) (by first | (rw [x_B, if_pos (by omega)]; done) | (rw [x_B, if_neg (by omega)]; done)) rfl rfl rfl rfl
theorem c9_lies {X : xC} {l : Launch} (hl : l.stackTraces = false) {N : Nat} {sh : xS} {D : xM} {r a : Nat} (hs : is_St N sh r a) {B : Int} (hB : B ≤ 1000000) (hk : s_ok B (D a)) {c : Int} (h0 : 0 ≤ c) (h1 : c < 10) : x_M X l yX9_lies cX9_lies 2 (some .boolean) 2 0 0 [.ref (x_b X + r), .int (xI c)] false N sh D (.inl (some (.int (xI (x_B (s_lies (D a) c)))))) false N sh (x_is (D)) := by
  obtain ⟨hrN, hr, haN, ha⟩ := hs
  refine x_ofW (by decide +kernel) hl (by simp [Value.category]) (by simp) ?_
  refine x_aload_n dX9_lies_0 x_get_2_0 ?_
  refine x_iload_n dX9_lies_1 x_get_2_1 ?_
  refine x_callV (As := [_]) dX9_lies_2 w_9_21 (c9_isGone hl ⟨hrN, hr, haN, ha⟩ hB hk h0 h1) (by assumption) (by assumption) rfl rfl (Nat.le_of_ble_eq_true rfl) (Nat.le_of_ble_eq_true rfl) (Nat.le_of_ble_eq_true rfl) (Nat.le_of_ble_eq_true rfl) (Nat.le_of_ble_eq_true rfl) ?_
  rintro _ rfl
  refine b_ifne (t := 20) dX9_lies_5 rfl (fun hc5 => ?_) (fun hc5 => ?_)
  · refine x_iconst dX9_lies_20 ?_
    exact x_zret dX9_lies_21 rfl (by omega) (Nat.le_of_ble_eq_true rfl) (Nat.le_of_ble_eq_true rfl) (by first | (rw [x_B, if_pos (by omega)]; done) | (rw [x_B, if_neg (by omega)]; done)) rfl rfl rfl rfl
  · refine x_aload_n dX9_lies_8 x_get_2_0 ?_
    refine x_iload_n dX9_lies_9 x_get_2_1 ?_
    refine x_callV (As := [_]) dX9_lies_10 w_9_25 (c9_isMoving hl ⟨hrN, hr, haN, ha⟩ hB hk h0 h1) (by assumption) (by assumption) rfl rfl (Nat.le_of_ble_eq_true rfl) (Nat.le_of_ble_eq_true rfl) (Nat.le_of_ble_eq_true rfl) (Nat.le_of_ble_eq_true rfl) (Nat.le_of_ble_eq_true rfl) ?_
    rintro _ rfl
    refine b_ifne (t := 20) dX9_lies_13 rfl (fun hc13 => ?_) (fun hc13 => ?_)
    · refine x_iconst dX9_lies_20 ?_
      exact x_zret dX9_lies_21 rfl (by omega) (Nat.le_of_ble_eq_true rfl) (Nat.le_of_ble_eq_true rfl) (by first | (rw [x_B, if_pos (by omega)]; done) | (rw [x_B, if_neg (by omega)]; done)) rfl rfl rfl rfl
    · refine x_iconst dX9_lies_16 ?_
      refine x_goto (t := 21) dX9_lies_17 rfl ?_
      exact x_zret dX9_lies_21 rfl (by omega) (Nat.le_of_ble_eq_true rfl) (Nat.le_of_ble_eq_true rfl) (by first | (rw [x_B, if_pos (by omega)]; done) | (rw [x_B, if_neg (by omega)]; done)) rfl rfl rfl rfl
theorem c9_closedBits {X : xC} {l : Launch} (hl : l.stackTraces = false) {N : Nat} {sh : xS} {D : xM} {r a : Nat} (hs : is_St N sh r a) {B : Int} (hB : B ≤ 1000000) (hk : s_ok B (D a)) {C : Nat} (h0 : C ≤ 10) : x_M X l yX9_closedBits cX9_closedBits 4 (some .int) 3 0 0 [.ref (x_b X + r), .int (xI C)] false N sh D (.inl (some (.int (xI ((s_bits (fun c => s_lies (D a) c) C : Nat)))))) false N sh (x_is (D)) := by
  obtain ⟨hrN, hr, haN, ha⟩ := hs
  refine x_ofW (by decide +kernel) hl (by simp [Value.category]) (by simp) ?_
  have hloop : ∀ i : Nat, i ≤ C → x_W (X, l, yX9_closedBits, cX9_closedBits, 4, some .int, x_room 3 0 0, 0, 0, (.inl (some (.int (xI ((s_bits (fun c => s_lies (D a) c) C : Nat)))))), N, sh, (x_is (D)), false, []) 4 [some (.ref (x_b X + r)), some (.int (xI C)), some (.int (xI (s_bits (fun c => s_lies (D a) c) i : Nat))), some (.int (xI i))] [] 0 0 false N sh D := by
    refine x_down C ?_ ?_
    · refine x_iload_n dX9_closedBits_4 x_get_4_3 ?_
      refine x_iload_n dX9_closedBits_5 x_get_4_1 ?_
      refine r_icmp_ge (t := 33) dX9_closedBits_6 rfl (by first | exact s_r hk hB (by omega) (by omega) | exact ⟨by omega, by omega⟩) (by first | exact s_r hk hB (by omega) (by omega) | exact ⟨by omega, by omega⟩) (fun hc6 => ?_) (fun hc6 => absurd hc6 (by omega))
      refine x_iload_n dX9_closedBits_33 x_get_4_2 ?_
      exact x_iret dX9_closedBits_34 rfl (Nat.le_of_ble_eq_true rfl) (Nat.le_of_ble_eq_true rfl) rfl rfl rfl rfl rfl
    · intro i hi ih
      refine x_iload_n dX9_closedBits_4 x_get_4_3 ?_
      refine x_iload_n dX9_closedBits_5 x_get_4_1 ?_
      refine r_icmp_ge (t := 33) dX9_closedBits_6 rfl (by first | exact s_r hk hB (by omega) (by omega) | exact ⟨by omega, by omega⟩) (by first | exact s_r hk hB (by omega) (by omega) | exact ⟨by omega, by omega⟩) (fun hc6 => absurd hc6 (by omega)) (fun hc6 => ?_)
      refine x_iload_n dX9_closedBits_9 x_get_4_2 ?_
      refine x_aload_n dX9_closedBits_10 x_get_4_0 ?_
      refine x_iload_n dX9_closedBits_11 x_get_4_3 ?_
      refine x_callV (As := [_]) dX9_closedBits_12 w_9_28 (c9_lies hl ⟨hrN, hr, haN, ha⟩ hB hk (c := (i : Int)) (by omega) (by omega)) (by assumption) (by assumption) rfl rfl (Nat.le_of_ble_eq_true rfl) (Nat.le_of_ble_eq_true rfl) (Nat.le_of_ble_eq_true rfl) (Nat.le_of_ble_eq_true rfl) (Nat.le_of_ble_eq_true rfl) ?_
      rintro _ rfl
      refine b_ifeq (t := 24) dX9_closedBits_15 rfl (fun hc15 => ?_) (fun hc15 => ?_)
      · refine x_iconst dX9_closedBits_24 ?_
        refine x_ior dX9_closedBits_25 ?_
        refine x_as_is (by first | exact s_bits_or _ (by omega) hc15 | exact s_bits_or0 _ (by omega) hc15) ?_
        refine x_istore_n dX9_closedBits_26 (Nat.le_of_ble_eq_true rfl) rfl x_set_4_2 ?_
        refine x_iinc dX9_closedBits_27 x_get_4_3 (Nat.le_of_ble_eq_true rfl) rfl x_set_4_3 ?_
        refine x_goto (t := 4) dX9_closedBits_30 rfl ?_
        exact ih
      · refine x_iconst dX9_closedBits_18 ?_
        refine x_iload_n dX9_closedBits_19 x_get_4_3 ?_
        refine x_ishl dX9_closedBits_20 ?_
        refine x_goto (t := 25) dX9_closedBits_21 rfl ?_
        refine x_ior dX9_closedBits_25 ?_
        refine x_as_is (by first | exact s_bits_or _ (by omega) hc15 | exact s_bits_or0 _ (by omega) hc15) ?_
        refine x_istore_n dX9_closedBits_26 (Nat.le_of_ble_eq_true rfl) rfl x_set_4_2 ?_
        refine x_iinc dX9_closedBits_27 x_get_4_3 (Nat.le_of_ble_eq_true rfl) rfl x_set_4_3 ?_
        refine x_goto (t := 4) dX9_closedBits_30 rfl ?_
        exact ih
  refine x_iconst dX9_closedBits_0 ?_
  refine x_istore_n dX9_closedBits_1 (Nat.le_of_ble_eq_true rfl) rfl x_set_4_2 ?_
  refine x_iconst dX9_closedBits_2 ?_
  refine x_istore_n dX9_closedBits_3 (Nat.le_of_ble_eq_true rfl) rfl x_set_4_3 ?_
  exact hloop 0 (Nat.zero_le _)
theorem c9_movingBits {X : xC} {l : Launch} (hl : l.stackTraces = false) {N : Nat} {sh : xS} {D : xM} {r a : Nat} (hs : is_St N sh r a) {B : Int} (hB : B ≤ 1000000) (hk : s_ok B (D a)) {C : Nat} (h0 : C ≤ 10) : x_M X l yX9_movingBits cX9_movingBits 4 (some .int) 2 0 0 [.ref (x_b X + r), .int (xI C)] false N sh D (.inl (some (.int (xI ((s_bits (fun c => s_mov (D a) c) C : Nat)))))) false N sh (x_is (D)) := by
  obtain ⟨hrN, hr, haN, ha⟩ := hs
  refine x_ofW (by decide +kernel) hl (by simp [Value.category]) (by simp) ?_
  have hloop : ∀ i : Nat, i ≤ C → x_W (X, l, yX9_movingBits, cX9_movingBits, 4, some .int, x_room 2 0 0, 0, 0, (.inl (some (.int (xI ((s_bits (fun c => s_mov (D a) c) C : Nat)))))), N, sh, (x_is (D)), false, []) 4 [some (.ref (x_b X + r)), some (.int (xI C)), some (.int (xI (s_bits (fun c => s_mov (D a) c) i : Nat))), some (.int (xI i))] [] 0 0 false N sh D := by
    refine x_down C ?_ ?_
    · refine x_iload_n dX9_movingBits_4 x_get_4_3 ?_
      refine x_iload_n dX9_movingBits_5 x_get_4_1 ?_
      refine r_icmp_ge (t := 33) dX9_movingBits_6 rfl (by first | exact s_r hk hB (by omega) (by omega) | exact ⟨by omega, by omega⟩) (by first | exact s_r hk hB (by omega) (by omega) | exact ⟨by omega, by omega⟩) (fun hc6 => ?_) (fun hc6 => absurd hc6 (by omega))
      refine x_iload_n dX9_movingBits_33 x_get_4_2 ?_
      exact x_iret dX9_movingBits_34 rfl (Nat.le_of_ble_eq_true rfl) (Nat.le_of_ble_eq_true rfl) rfl rfl rfl rfl rfl
    · intro i hi ih
      refine x_iload_n dX9_movingBits_4 x_get_4_3 ?_
      refine x_iload_n dX9_movingBits_5 x_get_4_1 ?_
      refine r_icmp_ge (t := 33) dX9_movingBits_6 rfl (by first | exact s_r hk hB (by omega) (by omega) | exact ⟨by omega, by omega⟩) (by first | exact s_r hk hB (by omega) (by omega) | exact ⟨by omega, by omega⟩) (fun hc6 => absurd hc6 (by omega)) (fun hc6 => ?_)
      refine x_iload_n dX9_movingBits_9 x_get_4_2 ?_
      refine x_aload_n dX9_movingBits_10 x_get_4_0 ?_
      refine x_iload_n dX9_movingBits_11 x_get_4_3 ?_
      refine x_callV (As := [_]) dX9_movingBits_12 w_9_25 (c9_isMoving hl ⟨hrN, hr, haN, ha⟩ hB hk (c := (i : Int)) (by omega) (by omega)) (by assumption) (by assumption) rfl rfl (Nat.le_of_ble_eq_true rfl) (Nat.le_of_ble_eq_true rfl) (Nat.le_of_ble_eq_true rfl) (Nat.le_of_ble_eq_true rfl) (Nat.le_of_ble_eq_true rfl) ?_
      rintro _ rfl
      refine b_ifeq (t := 24) dX9_movingBits_15 rfl (fun hc15 => ?_) (fun hc15 => ?_)
      · refine x_iconst dX9_movingBits_24 ?_
        refine x_ior dX9_movingBits_25 ?_
        refine x_as_is (by first | exact s_bits_or _ (by omega) hc15 | exact s_bits_or0 _ (by omega) hc15) ?_
        refine x_istore_n dX9_movingBits_26 (Nat.le_of_ble_eq_true rfl) rfl x_set_4_2 ?_
        refine x_iinc dX9_movingBits_27 x_get_4_3 (Nat.le_of_ble_eq_true rfl) rfl x_set_4_3 ?_
        refine x_goto (t := 4) dX9_movingBits_30 rfl ?_
        exact ih
      · refine x_iconst dX9_movingBits_18 ?_
        refine x_iload_n dX9_movingBits_19 x_get_4_3 ?_
        refine x_ishl dX9_movingBits_20 ?_
        refine x_goto (t := 25) dX9_movingBits_21 rfl ?_
        refine x_ior dX9_movingBits_25 ?_
        refine x_as_is (by first | exact s_bits_or _ (by omega) hc15 | exact s_bits_or0 _ (by omega) hc15) ?_
        refine x_istore_n dX9_movingBits_26 (Nat.le_of_ble_eq_true rfl) rfl x_set_4_2 ?_
        refine x_iinc dX9_movingBits_27 x_get_4_3 (Nat.le_of_ble_eq_true rfl) rfl x_set_4_3 ?_
        refine x_goto (t := 4) dX9_movingBits_30 rfl ?_
        exact ih
  refine x_iconst dX9_movingBits_0 ?_
  refine x_istore_n dX9_movingBits_1 (Nat.le_of_ble_eq_true rfl) rfl x_set_4_2 ?_
  refine x_iconst dX9_movingBits_2 ?_
  refine x_istore_n dX9_movingBits_3 (Nat.le_of_ble_eq_true rfl) rfl x_set_4_3 ?_
  exact hloop 0 (Nat.zero_le _)
theorem c9_goneBits {X : xC} {l : Launch} (hl : l.stackTraces = false) {N : Nat} {sh : xS} {D : xM} {r a : Nat} (hs : is_St N sh r a) {B : Int} (hB : B ≤ 1000000) (hk : s_ok B (D a)) {C : Nat} (h0 : C ≤ 10) : x_M X l yX9_goneBits cX9_goneBits 4 (some .int) 2 0 0 [.ref (x_b X + r), .int (xI C)] false N sh D (.inl (some (.int (xI ((s_bits (fun c => s_gone (D a) c) C : Nat)))))) false N sh (x_is (D)) := by
  obtain ⟨hrN, hr, haN, ha⟩ := hs
  refine x_ofW (by decide +kernel) hl (by simp [Value.category]) (by simp) ?_
  have hloop : ∀ i : Nat, i ≤ C → x_W (X, l, yX9_goneBits, cX9_goneBits, 4, some .int, x_room 2 0 0, 0, 0, (.inl (some (.int (xI ((s_bits (fun c => s_gone (D a) c) C : Nat)))))), N, sh, (x_is (D)), false, []) 4 [some (.ref (x_b X + r)), some (.int (xI C)), some (.int (xI (s_bits (fun c => s_gone (D a) c) i : Nat))), some (.int (xI i))] [] 0 0 false N sh D := by
    refine x_down C ?_ ?_
    · refine x_iload_n dX9_goneBits_4 x_get_4_3 ?_
      refine x_iload_n dX9_goneBits_5 x_get_4_1 ?_
      refine r_icmp_ge (t := 33) dX9_goneBits_6 rfl (by first | exact s_r hk hB (by omega) (by omega) | exact ⟨by omega, by omega⟩) (by first | exact s_r hk hB (by omega) (by omega) | exact ⟨by omega, by omega⟩) (fun hc6 => ?_) (fun hc6 => absurd hc6 (by omega))
      refine x_iload_n dX9_goneBits_33 x_get_4_2 ?_
      exact x_iret dX9_goneBits_34 rfl (Nat.le_of_ble_eq_true rfl) (Nat.le_of_ble_eq_true rfl) rfl rfl rfl rfl rfl
    · intro i hi ih
      refine x_iload_n dX9_goneBits_4 x_get_4_3 ?_
      refine x_iload_n dX9_goneBits_5 x_get_4_1 ?_
      refine r_icmp_ge (t := 33) dX9_goneBits_6 rfl (by first | exact s_r hk hB (by omega) (by omega) | exact ⟨by omega, by omega⟩) (by first | exact s_r hk hB (by omega) (by omega) | exact ⟨by omega, by omega⟩) (fun hc6 => absurd hc6 (by omega)) (fun hc6 => ?_)
      refine x_iload_n dX9_goneBits_9 x_get_4_2 ?_
      refine x_aload_n dX9_goneBits_10 x_get_4_0 ?_
      refine x_iload_n dX9_goneBits_11 x_get_4_3 ?_
      refine x_callV (As := [_]) dX9_goneBits_12 w_9_21 (c9_isGone hl ⟨hrN, hr, haN, ha⟩ hB hk (c := (i : Int)) (by omega) (by omega)) (by assumption) (by assumption) rfl rfl (Nat.le_of_ble_eq_true rfl) (Nat.le_of_ble_eq_true rfl) (Nat.le_of_ble_eq_true rfl) (Nat.le_of_ble_eq_true rfl) (Nat.le_of_ble_eq_true rfl) ?_
      rintro _ rfl
      refine b_ifeq (t := 24) dX9_goneBits_15 rfl (fun hc15 => ?_) (fun hc15 => ?_)
      · refine x_iconst dX9_goneBits_24 ?_
        refine x_ior dX9_goneBits_25 ?_
        refine x_as_is (by first | exact s_bits_or _ (by omega) hc15 | exact s_bits_or0 _ (by omega) hc15) ?_
        refine x_istore_n dX9_goneBits_26 (Nat.le_of_ble_eq_true rfl) rfl x_set_4_2 ?_
        refine x_iinc dX9_goneBits_27 x_get_4_3 (Nat.le_of_ble_eq_true rfl) rfl x_set_4_3 ?_
        refine x_goto (t := 4) dX9_goneBits_30 rfl ?_
        exact ih
      · refine x_iconst dX9_goneBits_18 ?_
        refine x_iload_n dX9_goneBits_19 x_get_4_3 ?_
        refine x_ishl dX9_goneBits_20 ?_
        refine x_goto (t := 25) dX9_goneBits_21 rfl ?_
        refine x_ior dX9_goneBits_25 ?_
        refine x_as_is (by first | exact s_bits_or _ (by omega) hc15 | exact s_bits_or0 _ (by omega) hc15) ?_
        refine x_istore_n dX9_goneBits_26 (Nat.le_of_ble_eq_true rfl) rfl x_set_4_2 ?_
        refine x_iinc dX9_goneBits_27 x_get_4_3 (Nat.le_of_ble_eq_true rfl) rfl x_set_4_3 ?_
        refine x_goto (t := 4) dX9_goneBits_30 rfl ?_
        exact ih
  refine x_iconst dX9_goneBits_0 ?_
  refine x_istore_n dX9_goneBits_1 (Nat.le_of_ble_eq_true rfl) rfl x_set_4_2 ?_
  refine x_iconst dX9_goneBits_2 ?_
  refine x_istore_n dX9_goneBits_3 (Nat.le_of_ble_eq_true rfl) rfl x_set_4_3 ?_
  exact hloop 0 (Nat.zero_le _)
theorem c9_bitsIn {X : xC} {l : Launch} (hl : l.stackTraces = false) {N : Nat} {sh : xS} {D : xM} {r a : Nat} (hs : is_St N sh r a) {B : Int} (hB : B ≤ 1000000) (hk : s_ok B (D a)) {C : Nat} (h0 : C ≤ 10) {t : Int} (h1 : x_r t) : x_M X l yX9_bitsIn cX9_bitsIn 5 (some .int) 1 0 0 [.ref (x_b X + r), .int (xI C), .int (xI t)] false N sh D (.inl (some (.int (xI ((s_bits (fun c => s_in (D a) t c) C : Nat)))))) false N sh (x_is (D)) := by
  obtain ⟨hrN, hr, haN, ha⟩ := hs
  refine x_ofW (by decide +kernel) hl (by simp [Value.category]) (by simp) ?_
  have hloop : ∀ i : Nat, i ≤ C → x_W (X, l, yX9_bitsIn, cX9_bitsIn, 5, some .int, x_room 1 0 0, 0, 0, (.inl (some (.int (xI ((s_bits (fun c => s_in (D a) t c) C : Nat)))))), N, sh, (x_is (D)), false, []) 5 [some (.ref (x_b X + r)), some (.int (xI C)), some (.int (xI t)), some (.int (xI (s_bits (fun c => s_in (D a) t c) i : Nat))), some (.int (xI i))] [] 0 0 false N sh D := by
    refine x_down C ?_ ?_
    · refine x_iload dX9_bitsIn_5 x_get_5_4 ?_
      refine x_iload_n dX9_bitsIn_7 x_get_5_1 ?_
      refine r_icmp_ge (t := 55) dX9_bitsIn_8 rfl (by first | exact s_r hk hB (by omega) (by omega) | exact ⟨by omega, by omega⟩) (by first | exact s_r hk hB (by omega) (by omega) | exact ⟨by omega, by omega⟩) (fun hc8 => ?_) (fun hc8 => absurd hc8 (by omega))
      refine x_iload_n dX9_bitsIn_55 x_get_5_3 ?_
      exact x_iret dX9_bitsIn_56 rfl (Nat.le_of_ble_eq_true rfl) (Nat.le_of_ble_eq_true rfl) rfl rfl rfl rfl rfl
    · intro i hi ih
      refine x_iload dX9_bitsIn_5 x_get_5_4 ?_
      refine x_iload_n dX9_bitsIn_7 x_get_5_1 ?_
      refine r_icmp_ge (t := 55) dX9_bitsIn_8 rfl (by first | exact s_r hk hB (by omega) (by omega) | exact ⟨by omega, by omega⟩) (by first | exact s_r hk hB (by omega) (by omega) | exact ⟨by omega, by omega⟩) (fun hc8 => absurd hc8 (by omega)) (fun hc8 => ?_)
      refine x_iload_n dX9_bitsIn_11 x_get_5_3 ?_
      refine x_aload_n dX9_bitsIn_12 x_get_5_0 ?_
      refine x_getR dX9_bitsIn_13 fX_9_11 (by assumption) (by assumption) (by rfl) ?_
      refine x_bipush dX9_bitsIn_16 rfl ?_
      refine x_iload dX9_bitsIn_18 x_get_5_4 ?_
      refine x_iadd dX9_bitsIn_20 ?_
      refine x_iald dX9_bitsIn_21 (by assumption) (by assumption) (by omega) (by omega) (by decide) ?_
      refine x_iload_n dX9_bitsIn_22 x_get_5_2 ?_
      refine r_icmp_ne (t := 46) dX9_bitsIn_23 rfl (s_r hk hB (by omega) (by omega)) h1 (fun hc23 => ?_) (fun hc23 => ?_)
      · refine x_iconst dX9_bitsIn_46 ?_
        refine x_ior dX9_bitsIn_47 ?_
        refine x_as_is (by first | exact s_bits_or (fun c => s_in (D a) t c) (by omega) ⟨by assumption, by assumption⟩ | exact s_bits_or0 (fun c => s_in (D a) t c) (by omega) (fun h => absurd h.1 (by assumption)) | exact s_bits_or0 (fun c => s_in (D a) t c) (by omega) (fun h => absurd h.2 (by assumption))) ?_
        refine x_istore_n dX9_bitsIn_48 (Nat.le_of_ble_eq_true rfl) rfl x_set_5_3 ?_
        refine x_iinc dX9_bitsIn_49 x_get_5_4 (Nat.le_of_ble_eq_true rfl) rfl x_set_5_4 ?_
        refine x_goto (t := 5) dX9_bitsIn_52 rfl ?_
        exact ih
      · refine x_aload_n dX9_bitsIn_26 x_get_5_0 ?_
        refine x_getR dX9_bitsIn_27 fX_9_11 (by assumption) (by assumption) (by rfl) ?_
        refine x_bipush dX9_bitsIn_30 rfl ?_
        refine x_iload dX9_bitsIn_32 x_get_5_4 ?_
        refine x_iadd dX9_bitsIn_34 ?_
        refine x_iald dX9_bitsIn_35 (by assumption) (by assumption) (by omega) (by omega) (by decide) ?_
        refine r_if_ne (t := 46) dX9_bitsIn_36 rfl (by first | exact s_r hk hB (by omega) (by omega) | exact ⟨by omega, by omega⟩) (fun hc36 => ?_) (fun hc36 => ?_)
        · refine x_iconst dX9_bitsIn_46 ?_
          refine x_ior dX9_bitsIn_47 ?_
          refine x_as_is (by first | exact s_bits_or (fun c => s_in (D a) t c) (by omega) ⟨by assumption, by assumption⟩ | exact s_bits_or0 (fun c => s_in (D a) t c) (by omega) (fun h => absurd h.1 (by assumption)) | exact s_bits_or0 (fun c => s_in (D a) t c) (by omega) (fun h => absurd h.2 (by assumption))) ?_
          refine x_istore_n dX9_bitsIn_48 (Nat.le_of_ble_eq_true rfl) rfl x_set_5_3 ?_
          refine x_iinc dX9_bitsIn_49 x_get_5_4 (Nat.le_of_ble_eq_true rfl) rfl x_set_5_4 ?_
          refine x_goto (t := 5) dX9_bitsIn_52 rfl ?_
          exact ih
        · refine x_iconst dX9_bitsIn_39 ?_
          refine x_iload dX9_bitsIn_40 x_get_5_4 ?_
          refine x_ishl dX9_bitsIn_42 ?_
          refine x_goto (t := 47) dX9_bitsIn_43 rfl ?_
          refine x_ior dX9_bitsIn_47 ?_
          refine x_as_is (by first | exact s_bits_or (fun c => s_in (D a) t c) (by omega) ⟨by assumption, by assumption⟩ | exact s_bits_or0 (fun c => s_in (D a) t c) (by omega) (fun h => absurd h.1 (by assumption)) | exact s_bits_or0 (fun c => s_in (D a) t c) (by omega) (fun h => absurd h.2 (by assumption))) ?_
          refine x_istore_n dX9_bitsIn_48 (Nat.le_of_ble_eq_true rfl) rfl x_set_5_3 ?_
          refine x_iinc dX9_bitsIn_49 x_get_5_4 (Nat.le_of_ble_eq_true rfl) rfl x_set_5_4 ?_
          refine x_goto (t := 5) dX9_bitsIn_52 rfl ?_
          exact ih
  refine x_iconst dX9_bitsIn_0 ?_
  refine x_istore_n dX9_bitsIn_1 (Nat.le_of_ble_eq_true rfl) rfl x_set_5_3 ?_
  refine x_iconst dX9_bitsIn_2 ?_
  refine x_istore dX9_bitsIn_3 (Nat.le_of_ble_eq_true rfl) rfl x_set_5_4 ?_
  exact hloop 0 (Nat.zero_le _)
theorem c9_come {X : xC} {l : Launch} (hl : l.stackTraces = false) {N : Nat} {sh : xS} {D : xM} {r a : Nat} (hs : is_St N sh r a) {B : Int} (hB : B ≤ 1000000) (hk : s_ok B (D a)) {c : Int} (h0 : 0 ≤ c) (h1 : c < 10) : x_M X l yX9_grainsThatCome cX9_grainsThatCome 2 (some .int) 1 0 0 [.ref (x_b X + r), .int (xI c)] false N sh D (.inl (some (.int (xI (s_come (D a) c))))) false N sh (x_is (D)) := by
  obtain ⟨hrN, hr, haN, ha⟩ := hs
  refine x_ofW (by decide +kernel) hl (by simp [Value.category]) (by simp) ?_
  obtain ⟨⟨g1, g2⟩, -, -, -, ⟨t1, t2⟩, s1, s2⟩ := s_cr hk h0 h1
  have hm := s_mul9 t1 t2 s1 s2
  refine x_aload_n dX9_grainsThatCome_0 x_get_2_0 ?_
  refine x_getR dX9_grainsThatCome_1 fX_9_11 (by assumption) (by assumption) (by rfl) ?_
  refine x_bipush dX9_grainsThatCome_4 rfl ?_
  refine x_iload_n dX9_grainsThatCome_6 x_get_2_1 ?_
  refine x_iadd dX9_grainsThatCome_7 ?_
  refine x_iald dX9_grainsThatCome_8 (by assumption) (by assumption) (by omega) (by omega) (by decide) ?_
  refine x_iconst dX9_grainsThatCome_9 ?_
  refine r_icmp_ne (t := 23) dX9_grainsThatCome_10 rfl (by first | exact s_r hk hB (by omega) (by omega) | exact ⟨by omega, by omega⟩) (by first | exact s_r hk hB (by omega) (by omega) | exact ⟨by omega, by omega⟩) (fun hc10 => ?_) (fun hc10 => ?_)
  · refine x_iconst dX9_grainsThatCome_23 ?_
    refine x_aload_n dX9_grainsThatCome_24 x_get_2_0 ?_
    refine x_getR dX9_grainsThatCome_25 fX_9_11 (by assumption) (by assumption) (by rfl) ?_
    refine x_bipush dX9_grainsThatCome_28 rfl ?_
    refine x_iload_n dX9_grainsThatCome_30 x_get_2_1 ?_
    refine x_iadd dX9_grainsThatCome_31 ?_
    refine x_iald dX9_grainsThatCome_32 (by assumption) (by assumption) (by omega) (by omega) (by decide) ?_
    refine x_aload_n dX9_grainsThatCome_33 x_get_2_0 ?_
    refine x_getR dX9_grainsThatCome_34 fX_9_11 (by assumption) (by assumption) (by rfl) ?_
    refine x_bipush dX9_grainsThatCome_37 rfl ?_
    refine x_iload_n dX9_grainsThatCome_39 x_get_2_1 ?_
    refine x_iadd dX9_grainsThatCome_40 ?_
    refine x_iald dX9_grainsThatCome_41 (by assumption) (by assumption) (by omega) (by omega) (by decide) ?_
    refine x_aload_n dX9_grainsThatCome_42 x_get_2_0 ?_
    refine x_getR dX9_grainsThatCome_43 fX_9_11 (by assumption) (by assumption) (by rfl) ?_
    refine x_bipush dX9_grainsThatCome_46 rfl ?_
    refine x_iload_n dX9_grainsThatCome_48 x_get_2_1 ?_
    refine x_iadd dX9_grainsThatCome_49 ?_
    refine x_iald dX9_grainsThatCome_50 (by assumption) (by assumption) (by omega) (by omega) (by decide) ?_
    refine x_imul dX9_grainsThatCome_51 ?_
    refine x_isub dX9_grainsThatCome_52 ?_
    refine r_max dX9_grainsThatCome_53 w_9_31 (by first | exact s_r hk hB (by omega) (by omega) | exact ⟨by omega, by omega⟩) (by first | exact s_r hk hB (by omega) (by omega) | exact ⟨by omega, by omega⟩) (Nat.le_of_ble_eq_true rfl) (Nat.le_of_ble_eq_true rfl) (Nat.le_of_ble_eq_true rfl) (Nat.le_of_ble_eq_true rfl) ?_
    exact x_iret dX9_grainsThatCome_56 rfl (Nat.le_of_ble_eq_true rfl) (Nat.le_of_ble_eq_true rfl) (by rw [s_come, if_neg hc10]) rfl rfl rfl rfl
  · refine x_aload_n dX9_grainsThatCome_13 x_get_2_0 ?_
    refine x_getR dX9_grainsThatCome_14 fX_9_11 (by assumption) (by assumption) (by rfl) ?_
    refine x_bipush dX9_grainsThatCome_17 rfl ?_
    refine x_iload_n dX9_grainsThatCome_19 x_get_2_1 ?_
    refine x_iadd dX9_grainsThatCome_20 ?_
    refine x_iald dX9_grainsThatCome_21 (by assumption) (by assumption) (by omega) (by omega) (by decide) ?_
    exact x_iret dX9_grainsThatCome_22 rfl (Nat.le_of_ble_eq_true rfl) (Nat.le_of_ble_eq_true rfl) (by rw [s_come, if_pos hc10]) rfl rfl rfl rfl
theorem c9_addTo {X : xC} {l : Launch} (hl : l.stackTraces = false) {N : Nat} {sh : xS} {D : xM} {r a : Nat} (hs : is_St N sh r a) {c q : Int} (h0 : 0 ≤ c) (h1 : c < 85) (h2 : -100000 ≤ D a c) (h3 : D a c ≤ 100000) (h4 : -100000 ≤ q) (h5 : q ≤ 100000) : x_M X l yX9_addTo cX9_addTo 3 (none) 1 0 0 [.ref (x_b X + r), .int (xI c), .int (xI q)] false N sh D (.inl none) false N sh (x_is (x_up D a (s_add (D a) c q))) := by
  obtain ⟨hrN, hr, haN, ha⟩ := hs
  refine x_ofW (by decide +kernel) hl (by simp [Value.category]) (by simp) ?_
  refine x_aload_n dX9_addTo_0 x_get_3_0 ?_
  refine x_getR dX9_addTo_1 fX_9_11 (by assumption) (by assumption) (by rfl) ?_
  refine x_iload_n dX9_addTo_4 x_get_3_1 ?_
  refine x_sipush dX9_addTo_5 rfl ?_
  refine x_aload_n dX9_addTo_8 x_get_3_0 ?_
  refine x_getR dX9_addTo_9 fX_9_11 (by assumption) (by assumption) (by rfl) ?_
  refine x_iload_n dX9_addTo_12 x_get_3_1 ?_
  refine x_iald dX9_addTo_13 (by assumption) (by assumption) (by omega) (by omega) (by decide) ?_
  refine x_iload_n dX9_addTo_14 x_get_3_2 ?_
  refine x_iadd dX9_addTo_15 ?_
  refine r_min dX9_addTo_16 w_9_37 ⟨by omega, by omega⟩ ⟨by omega, by omega⟩ (Nat.le_of_ble_eq_true rfl) (Nat.le_of_ble_eq_true rfl) (Nat.le_of_ble_eq_true rfl) (Nat.le_of_ble_eq_true rfl) ?_
  refine x_iast dX9_addTo_19 (by assumption) (by assumption) (by omega) (by omega) (by decide) ?_
  exact x_vret dX9_addTo_20 rfl (Nat.le_of_ble_eq_true rfl) (Nat.le_of_ble_eq_true rfl) rfl rfl rfl rfl rfl
theorem c9_lose {X : xC} {l : Launch} (hl : l.stackTraces = false) {N : Nat} {sh : xS} {D : xM} {r a : Nat} (hs : is_St N sh r a) {c : Int} (h0 : 0 ≤ c) (h1 : c < 10) : x_M X l yX9_lose cX9_lose 2 (none) 1 0 0 [.ref (x_b X + r), .int (xI c)] false N sh D (.inl none) false N sh (x_is (x_up D a (s_lose (D a) c))) := by
  obtain ⟨hrN, hr, haN, ha⟩ := hs
  refine x_ofW (by decide +kernel) hl (by simp [Value.category]) (by simp) ?_
  refine x_mem (x_up_id (k := a)).symm ?_
  generalize hf : D a = f at *
  refine x_aload_n dX9_lose_0 x_get_2_0 ?_
  refine x_getR dX9_lose_1 fX_9_11 (by assumption) (by assumption) (by rfl) ?_
  refine x_bipush dX9_lose_4 rfl ?_
  refine x_iload_n dX9_lose_6 x_get_2_1 ?_
  refine x_iadd dX9_lose_7 ?_
  refine x_iconst dX9_lose_8 ?_
  refine x_iastU dX9_lose_9 (by assumption) (by assumption) (by omega) (by omega) (by decide) ?_
  refine x_aload_n dX9_lose_10 x_get_2_0 ?_
  refine x_getR dX9_lose_11 fX_9_11 (by assumption) (by assumption) (by rfl) ?_
  refine x_bipush dX9_lose_14 rfl ?_
  refine x_iload_n dX9_lose_16 x_get_2_1 ?_
  refine x_iadd dX9_lose_17 ?_
  refine x_iconst dX9_lose_18 ?_
  refine x_iastU dX9_lose_19 (by assumption) (by assumption) (by omega) (by omega) (by decide) ?_
  refine x_aload_n dX9_lose_20 x_get_2_0 ?_
  refine x_getR dX9_lose_21 fX_9_11 (by assumption) (by assumption) (by rfl) ?_
  refine x_bipush dX9_lose_24 rfl ?_
  refine x_iload_n dX9_lose_26 x_get_2_1 ?_
  refine x_iadd dX9_lose_27 ?_
  refine x_iconst dX9_lose_28 ?_
  refine x_iastU dX9_lose_29 (by assumption) (by assumption) (by omega) (by omega) (by decide) ?_
  exact x_vret dX9_lose_30 rfl (Nat.le_of_ble_eq_true rfl) (Nat.le_of_ble_eq_true rfl) rfl rfl rfl rfl rfl
theorem c9_steal {X : xC} {l : Launch} (hl : l.stackTraces = false) {N : Nat} {sh : xS} {D : xM} {r a : Nat} (hs : is_St N sh r a) {B : Int} (hB : B ≤ 1000000) (hk : s_ok B (D a)) {c : Int} (h0 : 0 ≤ c) (h1 : c < 10) : x_M X l yX9_steal cX9_steal 2 (none) 3 0 0 [.ref (x_b X + r), .int (xI c)] false N sh D (.inl none) false N sh (x_is (x_up D a (s_steal (D a) c))) := by
  obtain ⟨hrN, hr, haN, ha⟩ := hs
  refine x_ofW (by decide +kernel) hl (by simp [Value.category]) (by simp) ?_
  refine x_aload_n dX9_steal_0 x_get_2_0 ?_
  refine x_iload_n dX9_steal_1 x_get_2_1 ?_
  refine x_callV (As := [_]) dX9_steal_2 w_9_28 (c9_lies hl ⟨hrN, hr, haN, ha⟩ hB hk h0 h1) (by assumption) (by assumption) rfl rfl (Nat.le_of_ble_eq_true rfl) (Nat.le_of_ble_eq_true rfl) (Nat.le_of_ble_eq_true rfl) (Nat.le_of_ble_eq_true rfl) (Nat.le_of_ble_eq_true rfl) ?_
  rintro _ rfl
  refine b_ifeq (t := 13) dX9_steal_5 rfl (fun hc5 => ?_) (fun hc5 => ?_)
  · exact x_vret dX9_steal_13 rfl (Nat.le_of_ble_eq_true rfl) (Nat.le_of_ble_eq_true rfl) rfl rfl rfl (by first | (show _ = _; rw [s_steal, if_pos hc5]; done) | (show _ = _; rw [s_steal, if_neg hc5, x_up_id]; done)) rfl
  · refine x_aload_n dX9_steal_8 x_get_2_0 ?_
    refine x_iload_n dX9_steal_9 x_get_2_1 ?_
    refine x_callV (As := [_]) dX9_steal_10 w_9_40 (c9_lose hl ⟨hrN, hr, haN, ha⟩ h0 h1) (by assumption) (by assumption) rfl rfl (Nat.le_of_ble_eq_true rfl) (Nat.le_of_ble_eq_true rfl) (Nat.le_of_ble_eq_true rfl) (Nat.le_of_ble_eq_true rfl) (Nat.le_of_ble_eq_true rfl) ?_
    rintro _ rfl
    exact x_vret dX9_steal_13 rfl (Nat.le_of_ble_eq_true rfl) (Nat.le_of_ble_eq_true rfl) rfl rfl rfl (by first | (show _ = _; rw [s_steal, if_pos hc5]; done) | (show _ = _; rw [s_steal, if_neg hc5, x_up_id]; done)) rfl
theorem c9_unpack {X : xC} {l : Launch} (hl : l.stackTraces = false) {N : Nat} {sh : xS} {D : xM} {r a : Nat} (hs : is_St N sh r a) {B : Int} (hB : B ≤ 1000000) (hk : s_ok B (D a)) {c : Int} (h0 : 0 ≤ c) (h1 : c < 10) (h2 : 0 ≤ D a (55 + c)) : x_M X l yX9_unpack cX9_unpack 3 (some .int) 2 0 0 [.ref (x_b X + r), .int (xI c)] false N sh D (.inl (some (.int (xI (D a (25 + c)))))) false N sh (x_is (x_up D a (s_opn (D a) c))) := by
  obtain ⟨hrN, hr, haN, ha⟩ := hs
  refine x_ofW (by decide +kernel) hl (by simp [Value.category]) (by simp) ?_
  obtain ⟨⟨g1, g2⟩, -, -, ⟨p1, p2⟩, -, -⟩ := s_cr hk h0 h1
  have u1 := (s_tn hk h2 (by omega)).1
  have u2 := (s_tn hk h2 (by omega)).2.1
  refine x_aload_n dX9_unpack_0 x_get_3_0 ?_
  refine x_getR dX9_unpack_1 fX_9_11 (by assumption) (by assumption) (by rfl) ?_
  refine x_bipush dX9_unpack_4 rfl ?_
  refine x_iload_n dX9_unpack_6 x_get_3_1 ?_
  refine x_iadd dX9_unpack_7 ?_
  refine x_iald dX9_unpack_8 (by assumption) (by assumption) (by omega) (by omega) (by decide) ?_
  refine x_istore_n dX9_unpack_9 (Nat.le_of_ble_eq_true rfl) rfl x_set_3_2 ?_
  refine x_aload_n dX9_unpack_10 x_get_3_0 ?_
  refine x_aload_n dX9_unpack_11 x_get_3_0 ?_
  refine x_getR dX9_unpack_12 fX_9_11 (by assumption) (by assumption) (by rfl) ?_
  refine x_bipush dX9_unpack_15 rfl ?_
  refine x_iload_n dX9_unpack_17 x_get_3_1 ?_
  refine x_iadd dX9_unpack_18 ?_
  refine x_iald dX9_unpack_19 (by assumption) (by assumption) (by omega) (by omega) (by decide) ?_
  refine x_iconst dX9_unpack_20 ?_
  refine r_icmp_ne (t := 29) dX9_unpack_21 rfl (by first | exact s_r hk hB (by omega) (by omega) | exact ⟨by omega, by omega⟩) (by first | exact s_r hk hB (by omega) (by omega) | exact ⟨by omega, by omega⟩) (fun hc21 => ?_) (fun hc21 => ?_)
  · refine x_iconst dX9_unpack_29 ?_
    refine x_aload_n dX9_unpack_30 x_get_3_0 ?_
    refine x_getR dX9_unpack_31 fX_9_11 (by assumption) (by assumption) (by rfl) ?_
    refine x_bipush dX9_unpack_34 rfl ?_
    refine x_iload_n dX9_unpack_36 x_get_3_1 ?_
    refine x_iadd dX9_unpack_37 ?_
    refine x_iald dX9_unpack_38 (by assumption) (by assumption) (by omega) (by omega) (by decide) ?_
    refine x_iadd dX9_unpack_39 ?_
    refine x_iload_n dX9_unpack_40 x_get_3_2 ?_
    refine x_callV (As := [_, _]) dX9_unpack_41 w_9_44 (c9_addTo hl ⟨hrN, hr, haN, ha⟩ (by omega) (by omega) (by omega) (by omega) (by omega) (by omega)) (by assumption) (by assumption) rfl rfl (Nat.le_of_ble_eq_true rfl) (Nat.le_of_ble_eq_true rfl) (Nat.le_of_ble_eq_true rfl) (Nat.le_of_ble_eq_true rfl) (Nat.le_of_ble_eq_true rfl) ?_
    rintro _ rfl
    refine x_aload_n dX9_unpack_44 x_get_3_0 ?_
    refine x_iload_n dX9_unpack_45 x_get_3_1 ?_
    refine x_callV (As := [_]) dX9_unpack_46 w_9_40 (c9_lose hl ⟨hrN, hr, haN, ha⟩ h0 h1) (by assumption) (by assumption) rfl rfl (Nat.le_of_ble_eq_true rfl) (Nat.le_of_ble_eq_true rfl) (Nat.le_of_ble_eq_true rfl) (Nat.le_of_ble_eq_true rfl) (Nat.le_of_ble_eq_true rfl) ?_
    rintro _ rfl
    refine x_iload_n dX9_unpack_49 x_get_3_2 ?_
    exact x_iret dX9_unpack_50 rfl (Nat.le_of_ble_eq_true rfl) (Nat.le_of_ble_eq_true rfl) rfl rfl rfl (by show _ = _; rw [s_opn]; first | (rw [if_pos hc21]; simp only [x_up_s, x_up_up]; done) | (rw [if_neg hc21]; simp only [x_up_s, x_up_up]; done)) rfl
  · refine x_bipush dX9_unpack_24 rfl ?_
    refine x_goto (t := 30) dX9_unpack_26 rfl ?_
    refine x_aload_n dX9_unpack_30 x_get_3_0 ?_
    refine x_getR dX9_unpack_31 fX_9_11 (by assumption) (by assumption) (by rfl) ?_
    refine x_bipush dX9_unpack_34 rfl ?_
    refine x_iload_n dX9_unpack_36 x_get_3_1 ?_
    refine x_iadd dX9_unpack_37 ?_
    refine x_iald dX9_unpack_38 (by assumption) (by assumption) (by omega) (by omega) (by decide) ?_
    refine x_iadd dX9_unpack_39 ?_
    refine x_iload_n dX9_unpack_40 x_get_3_2 ?_
    refine x_callV (As := [_, _]) dX9_unpack_41 w_9_44 (c9_addTo hl ⟨hrN, hr, haN, ha⟩ (by omega) (by omega) (by omega) (by omega) (by omega) (by omega)) (by assumption) (by assumption) rfl rfl (Nat.le_of_ble_eq_true rfl) (Nat.le_of_ble_eq_true rfl) (Nat.le_of_ble_eq_true rfl) (Nat.le_of_ble_eq_true rfl) (Nat.le_of_ble_eq_true rfl) ?_
    rintro _ rfl
    refine x_aload_n dX9_unpack_44 x_get_3_0 ?_
    refine x_iload_n dX9_unpack_45 x_get_3_1 ?_
    refine x_callV (As := [_]) dX9_unpack_46 w_9_40 (c9_lose hl ⟨hrN, hr, haN, ha⟩ h0 h1) (by assumption) (by assumption) rfl rfl (Nat.le_of_ble_eq_true rfl) (Nat.le_of_ble_eq_true rfl) (Nat.le_of_ble_eq_true rfl) (Nat.le_of_ble_eq_true rfl) (Nat.le_of_ble_eq_true rfl) ?_
    rintro _ rfl
    refine x_iload_n dX9_unpack_49 x_get_3_2 ?_
    exact x_iret dX9_unpack_50 rfl (Nat.le_of_ble_eq_true rfl) (Nat.le_of_ble_eq_true rfl) rfl rfl rfl (by show _ = _; rw [s_opn]; first | (rw [if_pos hc21]; simp only [x_up_s, x_up_up]; done) | (rw [if_neg hc21]; simp only [x_up_s, x_up_up]; done)) rfl
theorem c9_pour {X : xC} {l : Launch} (hl : l.stackTraces = false) {N : Nat} {sh : xS} {D : xM} {r a : Nat} (hs : is_St N sh r a) {B : Int} (hB : B ≤ 1000000) (hk : s_ok B (D a)) {c : Int} (h0 : 0 ≤ c) (h1 : c < 10) {d : Int} (h2 : 0 ≤ d) (h3 : d < 10) (h4 : ¬ c = d) : x_M X l yX9_pour cX9_pour 5 (none) 2 0 0 [.ref (x_b X + r), .int (xI c), .int (xI d)] false N sh D (.inl none) false N sh (x_is (x_up D a (s_pour (D a) c d))) := by
  obtain ⟨hrN, hr, haN, ha⟩ := hs
  refine x_ofW (by decide +kernel) hl (by simp [Value.category]) (by simp) ?_
  obtain ⟨⟨g1, g2⟩, -⟩ := s_cr hk h0 h1
  obtain ⟨⟨g3, g4⟩, -⟩ := s_cr hk h2 h3
  refine x_mem (x_up_id (k := a)).symm ?_
  generalize hf : D a = f at *
  refine x_aload_n dX9_pour_0 x_get_5_0 ?_
  refine x_getR dX9_pour_1 fX_9_11 (by assumption) (by assumption) (by rfl) ?_
  refine x_bipush dX9_pour_4 rfl ?_
  refine x_iload_n dX9_pour_6 x_get_5_1 ?_
  refine x_iadd dX9_pour_7 ?_
  refine x_ialdU dX9_pour_8 (by assumption) (by assumption) (by omega) (by omega) (by decide) ?_
  refine x_istore_n dX9_pour_9 (Nat.le_of_ble_eq_true rfl) rfl x_set_5_3 ?_
  refine x_aload_n dX9_pour_10 x_get_5_0 ?_
  refine x_getR dX9_pour_11 fX_9_11 (by assumption) (by assumption) (by rfl) ?_
  refine x_bipush dX9_pour_14 rfl ?_
  refine x_iload_n dX9_pour_16 x_get_5_2 ?_
  refine x_iadd dX9_pour_17 ?_
  refine x_ialdU dX9_pour_18 (by assumption) (by assumption) (by omega) (by omega) (by decide) ?_
  refine x_istore dX9_pour_19 (Nat.le_of_ble_eq_true rfl) rfl x_set_5_4 ?_
  refine x_aload_n dX9_pour_21 x_get_5_0 ?_
  refine x_getR dX9_pour_22 fX_9_11 (by assumption) (by assumption) (by rfl) ?_
  refine x_bipush dX9_pour_25 rfl ?_
  refine x_iload_n dX9_pour_27 x_get_5_1 ?_
  refine x_iadd dX9_pour_28 ?_
  refine x_ialdU dX9_pour_29 (by assumption) (by assumption) (by omega) (by omega) (by decide) ?_
  refine x_aload_n dX9_pour_30 x_get_5_0 ?_
  refine x_getR dX9_pour_31 fX_9_11 (by assumption) (by assumption) (by rfl) ?_
  refine x_bipush dX9_pour_34 rfl ?_
  refine x_iload_n dX9_pour_36 x_get_5_2 ?_
  refine x_iadd dX9_pour_37 ?_
  refine x_ialdU dX9_pour_38 (by assumption) (by assumption) (by omega) (by omega) (by decide) ?_
  refine r_icmp_ne (t := 63) dX9_pour_39 rfl (by first | exact s_r hk hB (by omega) (by omega) | exact ⟨by omega, by omega⟩) (by first | exact s_r hk hB (by omega) (by omega) | exact ⟨by omega, by omega⟩) (fun hc39 => ?_) (fun hc39 => ?_)
  · refine x_aload_n dX9_pour_63 x_get_5_0 ?_
    refine x_getR dX9_pour_64 fX_9_11 (by assumption) (by assumption) (by rfl) ?_
    refine x_bipush dX9_pour_67 rfl ?_
    refine x_iload_n dX9_pour_69 x_get_5_1 ?_
    refine x_iadd dX9_pour_70 ?_
    refine x_iload_n dX9_pour_71 x_get_5_3 ?_
    refine x_iload dX9_pour_72 x_get_5_4 ?_
    refine x_isub dX9_pour_74 ?_
    refine r_abs dX9_pour_75 w_9_48 (by first | exact s_r hk hB (by omega) (by omega) | exact ⟨by omega, by omega⟩) (Nat.le_of_ble_eq_true rfl) (Nat.le_of_ble_eq_true rfl) (Nat.le_of_ble_eq_true rfl) (Nat.le_of_ble_eq_true rfl) ?_
    refine x_iastU dX9_pour_78 (by assumption) (by assumption) (by omega) (by omega) (by decide) ?_
    refine x_aload_n dX9_pour_79 x_get_5_0 ?_
    refine x_getR dX9_pour_80 fX_9_11 (by assumption) (by assumption) (by rfl) ?_
    refine x_bipush dX9_pour_83 rfl ?_
    refine x_iload_n dX9_pour_85 x_get_5_1 ?_
    refine x_iadd dX9_pour_86 ?_
    refine x_aload_n dX9_pour_87 x_get_5_0 ?_
    refine x_getR dX9_pour_88 fX_9_11 (by assumption) (by assumption) (by rfl) ?_
    refine x_iload dX9_pour_91 x_get_5_4 ?_
    refine x_iload_n dX9_pour_93 x_get_5_3 ?_
    refine r_icmp_le (t := 104) dX9_pour_94 rfl (by first | exact s_r hk hB (by omega) (by omega) | exact ⟨by omega, by omega⟩) (by first | exact s_r hk hB (by omega) (by omega) | exact ⟨by omega, by omega⟩) (fun hc94 => ?_) (fun hc94 => ?_)
    · refine x_bipush dX9_pour_104 rfl ?_
      refine x_iload_n dX9_pour_106 x_get_5_1 ?_
      refine x_iadd dX9_pour_107 ?_
      refine x_ialdU dX9_pour_108 (by assumption) (by assumption) (by omega) (by omega) (by decide) ?_
      refine x_iastU dX9_pour_109 (by assumption) (by assumption) (by omega) (by omega) (by decide) ?_
      refine x_aload_n dX9_pour_110 x_get_5_0 ?_
      refine x_iload_n dX9_pour_111 x_get_5_2 ?_
      refine x_callV (As := [_]) dX9_pour_112 w_9_40 (c9_lose hl ⟨hrN, hr, haN, ha⟩ h2 h3) (by assumption) (by assumption) rfl rfl (Nat.le_of_ble_eq_true rfl) (Nat.le_of_ble_eq_true rfl) (Nat.le_of_ble_eq_true rfl) (Nat.le_of_ble_eq_true rfl) (Nat.le_of_ble_eq_true rfl) ?_
      rintro _ rfl
      exact x_vret dX9_pour_115 rfl (Nat.le_of_ble_eq_true rfl) (Nat.le_of_ble_eq_true rfl) rfl rfl rfl (by show _ = _; first | (simp (disch := omega) only [s_pour, if_pos hc39, x_up_s, x_up_up]; done) | (simp (disch := omega) only [s_pour, if_neg hc39, if_pos (show f (25 + c) < f (25 + d) by omega), x_up_s, x_up_up, x_u1_n]; done) | (simp (disch := omega) only [s_pour, if_neg hc39, if_neg (show ¬ f (25 + c) < f (25 + d) by omega), x_up_s, x_up_up, x_u1_n]; done)) rfl
    · refine x_bipush dX9_pour_97 rfl ?_
      refine x_iload_n dX9_pour_99 x_get_5_2 ?_
      refine x_iadd dX9_pour_100 ?_
      refine x_goto (t := 108) dX9_pour_101 rfl ?_
      refine x_ialdU dX9_pour_108 (by assumption) (by assumption) (by omega) (by omega) (by decide) ?_
      refine x_iastU dX9_pour_109 (by assumption) (by assumption) (by omega) (by omega) (by decide) ?_
      refine x_aload_n dX9_pour_110 x_get_5_0 ?_
      refine x_iload_n dX9_pour_111 x_get_5_2 ?_
      refine x_callV (As := [_]) dX9_pour_112 w_9_40 (c9_lose hl ⟨hrN, hr, haN, ha⟩ h2 h3) (by assumption) (by assumption) rfl rfl (Nat.le_of_ble_eq_true rfl) (Nat.le_of_ble_eq_true rfl) (Nat.le_of_ble_eq_true rfl) (Nat.le_of_ble_eq_true rfl) (Nat.le_of_ble_eq_true rfl) ?_
      rintro _ rfl
      exact x_vret dX9_pour_115 rfl (Nat.le_of_ble_eq_true rfl) (Nat.le_of_ble_eq_true rfl) rfl rfl rfl (by show _ = _; first | (simp (disch := omega) only [s_pour, if_pos hc39, x_up_s, x_up_up]; done) | (simp (disch := omega) only [s_pour, if_neg hc39, if_pos (show f (25 + c) < f (25 + d) by omega), x_up_s, x_up_up, x_u1_n]; done) | (simp (disch := omega) only [s_pour, if_neg hc39, if_neg (show ¬ f (25 + c) < f (25 + d) by omega), x_up_s, x_up_up, x_u1_n]; done)) rfl
  · refine x_aload_n dX9_pour_42 x_get_5_0 ?_
    refine x_getR dX9_pour_43 fX_9_11 (by assumption) (by assumption) (by rfl) ?_
    refine x_bipush dX9_pour_46 rfl ?_
    refine x_iload_n dX9_pour_48 x_get_5_1 ?_
    refine x_iadd dX9_pour_49 ?_
    refine x_bipush dX9_pour_50 rfl ?_
    refine x_iload_n dX9_pour_52 x_get_5_3 ?_
    refine x_iload dX9_pour_53 x_get_5_4 ?_
    refine x_iadd dX9_pour_55 ?_
    refine r_min dX9_pour_56 w_9_37 (by first | exact s_r hk hB (by omega) (by omega) | exact ⟨by omega, by omega⟩) (by first | exact s_r hk hB (by omega) (by omega) | exact ⟨by omega, by omega⟩) (Nat.le_of_ble_eq_true rfl) (Nat.le_of_ble_eq_true rfl) (Nat.le_of_ble_eq_true rfl) (Nat.le_of_ble_eq_true rfl) ?_
    refine x_iastU dX9_pour_59 (by assumption) (by assumption) (by omega) (by omega) (by decide) ?_
    refine x_goto (t := 110) dX9_pour_60 rfl ?_
    refine x_aload_n dX9_pour_110 x_get_5_0 ?_
    refine x_iload_n dX9_pour_111 x_get_5_2 ?_
    refine x_callV (As := [_]) dX9_pour_112 w_9_40 (c9_lose hl ⟨hrN, hr, haN, ha⟩ h2 h3) (by assumption) (by assumption) rfl rfl (Nat.le_of_ble_eq_true rfl) (Nat.le_of_ble_eq_true rfl) (Nat.le_of_ble_eq_true rfl) (Nat.le_of_ble_eq_true rfl) (Nat.le_of_ble_eq_true rfl) ?_
    rintro _ rfl
    exact x_vret dX9_pour_115 rfl (Nat.le_of_ble_eq_true rfl) (Nat.le_of_ble_eq_true rfl) rfl rfl rfl (by show _ = _; first | (simp (disch := omega) only [s_pour, if_pos hc39, x_up_s, x_up_up]; done) | (simp (disch := omega) only [s_pour, if_neg hc39, if_pos (show f (25 + c) < f (25 + d) by omega), x_up_s, x_up_up, x_u1_n]; done) | (simp (disch := omega) only [s_pour, if_neg hc39, if_neg (show ¬ f (25 + c) < f (25 + d) by omega), x_up_s, x_up_up, x_u1_n]; done)) rfl
theorem c9_clear {X : xC} {l : Launch} (hl : l.stackTraces = false) {N : Nat} {sh : xS} {D : xM} {r a : Nat} (hs : is_St N sh r a) : x_M X l yX9_clear cX9_clear 2 (none) 1 0 0 [.ref (x_b X + r)] false N sh D (.inl none) false N sh (fun d => ∃ w, d = x_up D a w ∧ ∀ i, 0 ≤ i → i < 85 → w i = 0) := by
  obtain ⟨hrN, hr, haN, ha⟩ := hs
  refine x_ofW (by decide +kernel) hl (by simp [Value.category]) (by simp) ?_
  have hloop : ∀ i : Nat, i ≤ 85 → ∀ w : Int → Int, (∀ j : Int, 0 ≤ j → j < i → w j = 0) → x_W (X, l, yX9_clear, cX9_clear, 2, none, x_room 1 0 0, 0, 0, (.inl none), N, sh, (fun d => ∃ w, d = x_up D a w ∧ ∀ i, 0 ≤ i → i < 85 → w i = 0), false, []) 2 [some (.ref (x_b X + r)), some (.int (xI i))] [] 0 0 false N sh (x_up D a w) := by
    refine x_down 85 ?_ ?_
    · intro w hw
      refine x_iload_n dX9_clear_2 x_get_2_1 ?_
      refine x_bipush dX9_clear_3 rfl ?_
      refine r_icmp_ge (t := 21) dX9_clear_5 rfl ⟨by omega, by omega⟩ ⟨by omega, by omega⟩ (fun hc5 => ?_) (fun hc5 => absurd hc5 (by omega))
      exact x_vret dX9_clear_21 rfl (Nat.le_of_ble_eq_true rfl) (Nat.le_of_ble_eq_true rfl) rfl rfl rfl ⟨w, rfl, fun i a b => hw i a b⟩ rfl
    · intro i hi ih
      intro w hw
      refine x_iload_n dX9_clear_2 x_get_2_1 ?_
      refine x_bipush dX9_clear_3 rfl ?_
      refine r_icmp_ge (t := 21) dX9_clear_5 rfl ⟨by omega, by omega⟩ ⟨by omega, by omega⟩ (fun hc5 => absurd hc5 (by omega)) (fun hc5 => ?_)
      refine x_aload_n dX9_clear_8 x_get_2_0 ?_
      refine x_getR dX9_clear_9 fX_9_11 (by assumption) (by assumption) (by rfl) ?_
      refine x_iload_n dX9_clear_12 x_get_2_1 ?_
      refine x_iconst dX9_clear_13 ?_
      refine x_iastU dX9_clear_14 (by assumption) (by assumption) (by omega) (by omega) (by decide) ?_
      refine x_iinc dX9_clear_15 x_get_2_1 (Nat.le_of_ble_eq_true rfl) rfl x_set_2_1 ?_
      refine x_goto (t := 2) dX9_clear_18 rfl ?_
      refine ih _ (fun j a b => ?_)
      by_cases h : j = i
      · rw [h]; exact x_u1_s
      · rw [x_u1_n h]; exact hw j a (by omega)
  refine x_mem (x_up_id (k := a)).symm ?_
  refine x_iconst dX9_clear_0 ?_
  refine x_istore_n dX9_clear_1 (Nat.le_of_ble_eq_true rfl) rfl x_set_2_1 ?_
  exact hloop 0 (Nat.zero_le _) _ (fun j a b => by omega)
theorem c9_take {X : xC} {l : Launch} (hl : l.stackTraces = false) {N : Nat} {sh : xS} {D : xM} {r a : Nat} (hs : is_St N sh r a) {r2 a2 : Nat} (hs2 : is_St N sh r2 a2) : x_M X l yX9_take cX9_take 2 (none) 1 0 0 [.ref (x_b X + r), .ref (x_b X + r2)] false N sh D (.inl none) false N sh (x_is (x_up D a (x_cpy (D a2) (D a) 0 0 85))) := by
  obtain ⟨hrN, hr, haN, ha⟩ := hs
  obtain ⟨hrN2, hr2, haN2, ha2⟩ := hs2
  refine x_ofW (by decide +kernel) hl (by simp [Value.category]) (by simp) ?_
  refine x_aload_n dX9_take_0 x_get_2_1 ?_
  refine x_getR dX9_take_1 fX_9_11 (by assumption) (by assumption) (by rfl) ?_
  refine x_iconst dX9_take_4 ?_
  refine x_aload_n dX9_take_5 x_get_2_0 ?_
  refine x_getR dX9_take_6 fX_9_11 (by assumption) (by assumption) (by rfl) ?_
  refine x_iconst dX9_take_9 ?_
  refine x_bipush dX9_take_10 rfl ?_
  refine x_copy dX9_take_12 w_9_15 (by assumption) (by assumption) (by assumption) (by assumption) (by decide) (by decide) (by decide) (by decide) (by decide) (by decide) (by decide) (Nat.le_of_ble_eq_true rfl) (Nat.le_of_ble_eq_true rfl) ?_
  exact x_vret dX9_take_15 rfl (Nat.le_of_ble_eq_true rfl) (Nat.le_of_ble_eq_true rfl) rfl rfl rfl rfl rfl
theorem c9_sum {X : xC} {l : Launch} (hl : l.stackTraces = false) {N : Nat} {sh : xS} {D : xM} {r a : Nat} (hs : is_St N sh r a) {fr : Int} {T : Nat} (h0 : 0 ≤ fr) (h1 : fr + T ≤ 85) : x_M X l yX9_sum cX9_sum 5 (some .int) 1 0 0 [.ref (x_b X + r), .int (xI fr), .int (xI T)] false N sh D (.inl (some (.int (xI (x_sum (fun i => D a (fr + i)) T))))) false N sh (x_is (D)) := by
  obtain ⟨hrN, hr, haN, ha⟩ := hs
  refine x_ofW (by decide +kernel) hl (by simp [Value.category]) (by simp) ?_
  have hloop : ∀ i : Nat, i ≤ T → x_W (X, l, yX9_sum, cX9_sum, 5, some .int, x_room 1 0 0, 0, 0, (.inl (some (.int (xI (x_sum (fun i => D a (fr + i)) T))))), N, sh, (x_is (D)), false, []) 5 [some (.ref (x_b X + r)), some (.int (xI fr)), some (.int (xI T)), some (.int (xI (x_sum (fun i => D a (fr + i)) i))), some (.int (xI i))] [] 0 0 false N sh D := by
    refine x_down T ?_ ?_
    · refine x_iload dX9_sum_5 x_get_5_4 ?_
      refine x_iload_n dX9_sum_7 x_get_5_2 ?_
      refine r_icmp_ge (t := 29) dX9_sum_8 rfl ⟨by omega, by omega⟩ ⟨by omega, by omega⟩ (fun hc8 => ?_) (fun hc8 => absurd hc8 (by omega))
      refine x_iload_n dX9_sum_29 x_get_5_3 ?_
      exact x_iret dX9_sum_30 rfl (Nat.le_of_ble_eq_true rfl) (Nat.le_of_ble_eq_true rfl) rfl rfl rfl rfl rfl
    · intro i hi ih
      refine x_iload dX9_sum_5 x_get_5_4 ?_
      refine x_iload_n dX9_sum_7 x_get_5_2 ?_
      refine r_icmp_ge (t := 29) dX9_sum_8 rfl ⟨by omega, by omega⟩ ⟨by omega, by omega⟩ (fun hc8 => absurd hc8 (by omega)) (fun hc8 => ?_)
      refine x_iload_n dX9_sum_11 x_get_5_3 ?_
      refine x_aload_n dX9_sum_12 x_get_5_0 ?_
      refine x_getR dX9_sum_13 fX_9_11 (by assumption) (by assumption) (by rfl) ?_
      refine x_iload_n dX9_sum_16 x_get_5_1 ?_
      refine x_iload dX9_sum_17 x_get_5_4 ?_
      refine x_iadd dX9_sum_19 ?_
      refine x_iald dX9_sum_20 (by assumption) (by assumption) (by omega) (by omega) (by decide) ?_
      refine x_iadd dX9_sum_21 ?_
      refine x_istore_n dX9_sum_22 (Nat.le_of_ble_eq_true rfl) rfl x_set_5_3 ?_
      refine x_iinc dX9_sum_23 x_get_5_4 (Nat.le_of_ble_eq_true rfl) rfl x_set_5_4 ?_
      refine x_goto (t := 5) dX9_sum_26 rfl ?_
      exact ih
  refine x_iconst dX9_sum_0 ?_
  refine x_istore_n dX9_sum_1 (Nat.le_of_ble_eq_true rfl) rfl x_set_5_3 ?_
  refine x_iconst dX9_sum_2 ?_
  refine x_istore dX9_sum_3 (Nat.le_of_ble_eq_true rfl) rfl x_set_5_4 ?_
  exact hloop 0 (Nat.zero_le _)
theorem c9_share {X : xC} {l : Launch} (hl : l.stackTraces = false) {N : Nat} {sh : xS} {D : xM} {r a : Nat} (hs : is_St N sh r a) {B : Int} (hB : B ≤ 1000000) (hk : s_ok B (D a)) {T : Nat} (h0 : T ≤ 8) (h1 : 0 < T) : x_M X l yX9_share cX9_share 5 (none) 2 0 0 [.ref (x_b X + r), .int (xI T)] false N sh D (.inl none) false N sh (x_is (x_up D a (s_share (D a) T))) := by
  obtain ⟨hrN, hr, haN, ha⟩ := hs
  refine x_ofW (by decide +kernel) hl (by simp [Value.category]) (by simp) ?_
  have q1 := s_avg (f := fun i => D a (1 + i)) T h0 h1 (fun t a b => (s_tn hk a b).1)
  have q2 := s_avg (f := fun i => D a (9 + i)) T h0 h1 (fun t a b => (s_tn hk a b).2.1)
  have hloop : ∀ i : Nat, i ≤ T → x_W (X, l, yX9_share, cX9_share, 5, none, x_room 2 0 0, 0, 0, (.inl none), N, sh, (x_is (x_up D a (s_share (D a) T))), false, []) 27 [some (.ref (x_b X + r)), some (.int (xI T)), some (.int (xI (x_sum (fun i => D a (1 + i)) T / T))), some (.int (xI (x_sum (fun i => D a (9 + i)) T / T))), some (.int (xI i))] [] 0 0 false N sh (x_up D a (s_sh (D a) (x_sum (fun i => D a (1 + i)) T / T) (x_sum (fun i => D a (9 + i)) T / T) i)) := by
    refine x_down T ?_ ?_
    · refine x_iload dX9_share_27 x_get_5_4 ?_
      refine x_iload_n dX9_share_29 x_get_5_1 ?_
      refine r_icmp_ge (t := 60) dX9_share_30 rfl ⟨by omega, by omega⟩ ⟨by omega, by omega⟩ (fun hc30 => ?_) (fun hc30 => absurd hc30 (by omega))
      exact x_vret dX9_share_60 rfl (Nat.le_of_ble_eq_true rfl) (Nat.le_of_ble_eq_true rfl) rfl rfl rfl rfl rfl
    · intro i hi ih
      refine x_iload dX9_share_27 x_get_5_4 ?_
      refine x_iload_n dX9_share_29 x_get_5_1 ?_
      refine r_icmp_ge (t := 60) dX9_share_30 rfl ⟨by omega, by omega⟩ ⟨by omega, by omega⟩ (fun hc30 => absurd hc30 (by omega)) (fun hc30 => ?_)
      refine x_aload_n dX9_share_33 x_get_5_0 ?_
      refine x_getR dX9_share_34 fX_9_11 (by assumption) (by assumption) (by rfl) ?_
      refine x_iconst dX9_share_37 ?_
      refine x_iload dX9_share_38 x_get_5_4 ?_
      refine x_iadd dX9_share_40 ?_
      refine x_iload_n dX9_share_41 x_get_5_2 ?_
      refine x_iastU dX9_share_42 (by assumption) (by assumption) (by omega) (by omega) (by decide) ?_
      refine x_aload_n dX9_share_43 x_get_5_0 ?_
      refine x_getR dX9_share_44 fX_9_11 (by assumption) (by assumption) (by rfl) ?_
      refine x_bipush dX9_share_47 rfl ?_
      refine x_iload dX9_share_49 x_get_5_4 ?_
      refine x_iadd dX9_share_51 ?_
      refine x_iload_n dX9_share_52 x_get_5_3 ?_
      refine x_iastU dX9_share_53 (by assumption) (by assumption) (by omega) (by omega) (by decide) ?_
      refine x_iinc dX9_share_54 x_get_5_4 (Nat.le_of_ble_eq_true rfl) rfl x_set_5_4 ?_
      refine x_goto (t := 27) dX9_share_57 rfl ?_
      exact ih
  refine x_iload_n dX9_share_0 x_get_5_1 ?_
  refine r_if_gt (t := 5) dX9_share_1 rfl ⟨by omega, by omega⟩ (fun hc1 => ?_) (fun hc1 => absurd hc1 (by omega))
  refine x_aload_n dX9_share_5 x_get_5_0 ?_
  refine x_iconst dX9_share_6 ?_
  refine x_iload_n dX9_share_7 x_get_5_1 ?_
  refine x_callV (As := [_, _]) dX9_share_8 w_9_52 (c9_sum hl ⟨hrN, hr, haN, ha⟩ (by omega) (by omega)) (by assumption) (by assumption) rfl rfl (Nat.le_of_ble_eq_true rfl) (Nat.le_of_ble_eq_true rfl) (Nat.le_of_ble_eq_true rfl) (Nat.le_of_ble_eq_true rfl) (Nat.le_of_ble_eq_true rfl) ?_
  rintro _ rfl
  refine x_iload_n dX9_share_11 x_get_5_1 ?_
  refine x_idiv dX9_share_12 (by rw [← xI_0, xI_eq, x_n0, x_n_nat (by omega)]; omega) ?_
  refine x_as_is q1 ?_
  refine x_istore_n dX9_share_13 (Nat.le_of_ble_eq_true rfl) rfl x_set_5_2 ?_
  refine x_aload_n dX9_share_14 x_get_5_0 ?_
  refine x_bipush dX9_share_15 rfl ?_
  refine x_iload_n dX9_share_17 x_get_5_1 ?_
  refine x_callV (As := [_, _]) dX9_share_18 w_9_52 (c9_sum hl ⟨hrN, hr, haN, ha⟩ (by omega) (by omega)) (by assumption) (by assumption) rfl rfl (Nat.le_of_ble_eq_true rfl) (Nat.le_of_ble_eq_true rfl) (Nat.le_of_ble_eq_true rfl) (Nat.le_of_ble_eq_true rfl) (Nat.le_of_ble_eq_true rfl) ?_
  rintro _ rfl
  refine x_iload_n dX9_share_21 x_get_5_1 ?_
  refine x_idiv dX9_share_22 (by rw [← xI_0, xI_eq, x_n0, x_n_nat (by omega)]; omega) ?_
  refine x_as_is q2 ?_
  refine x_istore_n dX9_share_23 (Nat.le_of_ble_eq_true rfl) rfl x_set_5_3 ?_
  refine x_iconst dX9_share_24 ?_
  refine x_istore dX9_share_25 (Nat.le_of_ble_eq_true rfl) rfl x_set_5_4 ?_
  refine x_mem (x_up_id (k := a)).symm ?_
  exact hloop 0 (Nat.zero_le _)
theorem c9_moveCrates {X : xC} {l : Launch} (hl : l.stackTraces = false) {N : Nat} {sh : xS} {D : xM} {r a : Nat} (hs : is_St N sh r a) {B : Int} (hB : B ≤ 1000000) (hk : s_ok B (D a)) {C : Nat} (h0 : C ≤ 10) : x_M X l yX9_moveCrates cX9_moveCrates 3 (none) 1 0 0 [.ref (x_b X + r), .int (xI C)] false N sh D (.inl none) false N sh (x_is (x_up D a (s_mv (D a) C))) := by
  obtain ⟨hrN, hr, haN, ha⟩ := hs
  refine x_ofW (by decide +kernel) hl (by simp [Value.category]) (by simp) ?_
  have hloop : ∀ i : Nat, i ≤ C → x_W (X, l, yX9_moveCrates, cX9_moveCrates, 3, none, x_room 1 0 0, 0, 0, (.inl none), N, sh, (x_is (x_up D a (s_mv (D a) C))), false, []) 2 [some (.ref (x_b X + r)), some (.int (xI C)), some (.int (xI i))] [] 0 0 false N sh (x_up D a (s_mv (D a) i)) := by
    refine x_down C ?_ ?_
    · refine x_iload_n dX9_moveCrates_2 x_get_3_2 ?_
      refine x_iload_n dX9_moveCrates_3 x_get_3_1 ?_
      refine r_icmp_ge (t := 82) dX9_moveCrates_4 rfl ⟨by omega, by omega⟩ ⟨by omega, by omega⟩ (fun hc4 => ?_) (fun hc4 => absurd hc4 (by omega))
      exact x_vret dX9_moveCrates_82 rfl (Nat.le_of_ble_eq_true rfl) (Nat.le_of_ble_eq_true rfl) rfl rfl rfl rfl rfl
    · intro i hi ih
      replace hk := s_ok_mv hk i (by omega)
      obtain ⟨⟨g1, g2⟩, -, -, -, ⟨t1, t2⟩, s1, s2⟩ := s_cr (c := (i : Int)) hk (by omega) (by omega)
      refine x_iload_n dX9_moveCrates_2 x_get_3_2 ?_
      refine x_iload_n dX9_moveCrates_3 x_get_3_1 ?_
      refine r_icmp_ge (t := 82) dX9_moveCrates_4 rfl (by first | exact s_r hk hB (by omega) (by omega) | exact ⟨by omega, by omega⟩) (by first | exact s_r hk hB (by omega) (by omega) | exact ⟨by omega, by omega⟩) (fun hc4 => absurd hc4 (by omega)) (fun hc4 => ?_)
      refine x_aload_n dX9_moveCrates_7 x_get_3_0 ?_
      refine x_getR dX9_moveCrates_8 fX_9_11 (by assumption) (by assumption) (by rfl) ?_
      refine x_bipush dX9_moveCrates_11 rfl ?_
      refine x_iload_n dX9_moveCrates_13 x_get_3_2 ?_
      refine x_iadd dX9_moveCrates_14 ?_
      refine x_ialdU dX9_moveCrates_15 (by assumption) (by assumption) (by omega) (by omega) (by decide) ?_
      refine r_if_le (t := 76) dX9_moveCrates_16 rfl (by first | exact s_r hk hB (by omega) (by omega) | exact ⟨by omega, by omega⟩) (fun hc16 => ?_) (fun hc16 => ?_)
      · refine x_iinc dX9_moveCrates_76 x_get_3_2 (Nat.le_of_ble_eq_true rfl) rfl x_set_3_2 ?_
        refine x_goto (t := 2) dX9_moveCrates_79 rfl ?_
        refine x_mem (congrArg (x_up D a) ?_) ih
        show _ = s_mv1 _ _
        unfold s_mv1
        first | (rw [if_pos hc16, if_pos hc28]; done) | (rw [if_pos hc16, if_neg hc28]; done) | (rw [if_neg (by omega)]; done)
      · refine x_aload_n dX9_moveCrates_19 x_get_3_0 ?_
        refine x_getR dX9_moveCrates_20 fX_9_11 (by assumption) (by assumption) (by rfl) ?_
        refine x_bipush dX9_moveCrates_23 rfl ?_
        refine x_iload_n dX9_moveCrates_25 x_get_3_2 ?_
        refine x_iadd dX9_moveCrates_26 ?_
        refine x_ialdU dX9_moveCrates_27 (by assumption) (by assumption) (by omega) (by omega) (by decide) ?_
        refine r_if_ne (t := 63) dX9_moveCrates_28 rfl (by first | exact s_r hk hB (by omega) (by omega) | exact ⟨by omega, by omega⟩) (fun hc28 => ?_) (fun hc28 => ?_)
        · refine x_aload_n dX9_moveCrates_63 x_get_3_0 ?_
          refine x_getR dX9_moveCrates_64 fX_9_11 (by assumption) (by assumption) (by rfl) ?_
          refine x_bipush dX9_moveCrates_67 rfl ?_
          refine x_iload_n dX9_moveCrates_69 x_get_3_2 ?_
          refine x_iadd dX9_moveCrates_70 ?_
          refine x_dup2 dX9_moveCrates_71 rfl rfl ?_
          refine x_ialdU dX9_moveCrates_72 (by assumption) (by assumption) (by omega) (by omega) (by decide) ?_
          refine x_iconst dX9_moveCrates_73 ?_
          refine x_isub dX9_moveCrates_74 ?_
          refine x_iastU dX9_moveCrates_75 (by assumption) (by assumption) (by omega) (by omega) (by decide) ?_
          refine x_iinc dX9_moveCrates_76 x_get_3_2 (Nat.le_of_ble_eq_true rfl) rfl x_set_3_2 ?_
          refine x_goto (t := 2) dX9_moveCrates_79 rfl ?_
          refine x_mem (congrArg (x_up D a) ?_) ih
          show _ = s_mv1 _ _
          unfold s_mv1
          first | (rw [if_pos hc16, if_pos hc28]; done) | (rw [if_pos hc16, if_neg hc28]; done) | (rw [if_neg (by omega)]; done)
        · refine x_aload_n dX9_moveCrates_31 x_get_3_0 ?_
          refine x_getR dX9_moveCrates_32 fX_9_11 (by assumption) (by assumption) (by rfl) ?_
          refine x_bipush dX9_moveCrates_35 rfl ?_
          refine x_iload_n dX9_moveCrates_37 x_get_3_2 ?_
          refine x_iadd dX9_moveCrates_38 ?_
          refine x_iconst dX9_moveCrates_39 ?_
          refine x_aload_n dX9_moveCrates_40 x_get_3_0 ?_
          refine x_getR dX9_moveCrates_41 fX_9_11 (by assumption) (by assumption) (by rfl) ?_
          refine x_bipush dX9_moveCrates_44 rfl ?_
          refine x_iload_n dX9_moveCrates_46 x_get_3_2 ?_
          refine x_iadd dX9_moveCrates_47 ?_
          refine x_ialdU dX9_moveCrates_48 (by assumption) (by assumption) (by omega) (by omega) (by decide) ?_
          refine x_aload_n dX9_moveCrates_49 x_get_3_0 ?_
          refine x_getR dX9_moveCrates_50 fX_9_11 (by assumption) (by assumption) (by rfl) ?_
          refine x_bipush dX9_moveCrates_53 rfl ?_
          refine x_iload_n dX9_moveCrates_55 x_get_3_2 ?_
          refine x_iadd dX9_moveCrates_56 ?_
          refine x_ialdU dX9_moveCrates_57 (by assumption) (by assumption) (by omega) (by omega) (by decide) ?_
          refine x_isub dX9_moveCrates_58 ?_
          refine r_max dX9_moveCrates_59 w_9_31 (by first | exact s_r hk hB (by omega) (by omega) | exact ⟨by omega, by omega⟩) (by first | exact s_r hk hB (by omega) (by omega) | exact ⟨by omega, by omega⟩) (Nat.le_of_ble_eq_true rfl) (Nat.le_of_ble_eq_true rfl) (Nat.le_of_ble_eq_true rfl) (Nat.le_of_ble_eq_true rfl) ?_
          refine x_iastU dX9_moveCrates_62 (by assumption) (by assumption) (by omega) (by omega) (by decide) ?_
          refine x_aload_n dX9_moveCrates_63 x_get_3_0 ?_
          refine x_getR dX9_moveCrates_64 fX_9_11 (by assumption) (by assumption) (by rfl) ?_
          refine x_bipush dX9_moveCrates_67 rfl ?_
          refine x_iload_n dX9_moveCrates_69 x_get_3_2 ?_
          refine x_iadd dX9_moveCrates_70 ?_
          refine x_dup2 dX9_moveCrates_71 rfl rfl ?_
          refine x_ialdU dX9_moveCrates_72 (by assumption) (by assumption) (by omega) (by omega) (by decide) ?_
          refine x_iconst dX9_moveCrates_73 ?_
          refine x_isub dX9_moveCrates_74 ?_
          refine x_iastU dX9_moveCrates_75 (by assumption) (by assumption) (by omega) (by omega) (by decide) ?_
          refine x_iinc dX9_moveCrates_76 x_get_3_2 (Nat.le_of_ble_eq_true rfl) rfl x_set_3_2 ?_
          refine x_goto (t := 2) dX9_moveCrates_79 rfl ?_
          refine x_mem (congrArg (x_up D a) ?_) ih
          show _ = s_mv1 _ _
          unfold s_mv1
          first | (rw [if_pos hc16, if_pos hc28]; done) | (rw [if_pos hc16, if_neg hc28]; done) | (rw [if_neg (by omega)]; done)
  refine x_mem (x_up_id (k := a)).symm ?_
  refine x_iconst dX9_moveCrates_0 ?_
  refine x_istore_n dX9_moveCrates_1 (Nat.le_of_ble_eq_true rfl) rfl x_set_3_2 ?_
  exact hloop 0 (Nat.zero_le _)
theorem c9_settle {X : xC} {l : Launch} (hl : l.stackTraces = false) {N : Nat} {sh : xS} {D : xM} {r a : Nat} (hs : is_St N sh r a) {B : Int} (hB : B ≤ 1000000) (hk : s_ok B (D a)) {t : Int} (h0 : 0 ≤ t) (h1 : t < 8) {k : Int} (h2 : 0 ≤ k) (h3 : k ≤ 20) {q : Prop} [Decidable q] : x_M X l yX9_settle cX9_settle 5 (none) 2 0 0 [.ref (x_b X + r), .int (xI t), .int (xI k), .int (xI (x_B q))] false N sh D (.inl none) false N sh (x_is (x_up D a (s_stl (D a) t k q))) := by
  obtain ⟨hrN, hr, haN, ha⟩ := hs
  refine x_ofW (by decide +kernel) hl (by simp [Value.category]) (by simp) ?_
  obtain ⟨⟨g1, g2⟩, ⟨g3, g4⟩, g5, g6⟩ := s_tn hk h0 h1
  refine x_mem (x_up_id (k := a)).symm ?_
  generalize hf : D a = f at *
  have e1 : ∀ v, x_u1 f (17 + t) v (1 + t) = f (1 + t) := fun v => x_u1_n (by omega)
  have e9 : ∀ v w, x_u1 (x_u1 f (17 + t) v) (1 + t) w (9 + t) = f (9 + t) := fun v w => by rw [x_u1_n (by omega), x_u1_n (by omega)]
  have tail : ∀ g : Int → Int, 0 ≤ g (1 + t) → g (1 + t) ≤ 9999 → 0 ≤ g (9 + t) → g (9 + t) ≤ 9999 → s_evn g t = s_stl f t k q → x_W (X, l, yX9_settle, cX9_settle, 5, none, x_room 2 0 0, 0, 0, (.inl none), N, sh, (x_is (x_up D a (s_stl f t k q))), false, []) 65 [some (.ref (x_b X + r)), some (.int (xI t)), some (.int (xI k)), some (.int (xI (x_B q))), none] [] 0 0 false N sh (x_up D a g) := by
    intro g u1 u2 u3 u4 he
    refine x_aload_n dX9_settle_65 x_get_5_0 ?_
    refine x_getR dX9_settle_66 fX_9_11 (by assumption) (by assumption) (by rfl) ?_
    refine x_iconst dX9_settle_69 ?_
    refine x_iload_n dX9_settle_70 x_get_5_1 ?_
    refine x_iadd dX9_settle_71 ?_
    refine x_ialdU dX9_settle_72 (by assumption) (by assumption) (by omega) (by omega) (by decide) ?_
    refine x_aload_n dX9_settle_73 x_get_5_0 ?_
    refine x_getR dX9_settle_74 fX_9_11 (by assumption) (by assumption) (by rfl) ?_
    refine x_bipush dX9_settle_77 rfl ?_
    refine x_iload_n dX9_settle_79 x_get_5_1 ?_
    refine x_iadd dX9_settle_80 ?_
    refine x_ialdU dX9_settle_81 (by assumption) (by assumption) (by omega) (by omega) (by decide) ?_
    refine r_min dX9_settle_82 w_9_37 ⟨by omega, by omega⟩ ⟨by omega, by omega⟩ (Nat.le_of_ble_eq_true rfl) (Nat.le_of_ble_eq_true rfl) (Nat.le_of_ble_eq_true rfl) (Nat.le_of_ble_eq_true rfl) ?_
    refine x_istore dX9_settle_85 (Nat.le_of_ble_eq_true rfl) rfl x_set_5_4 ?_
    refine x_aload_n dX9_settle_87 x_get_5_0 ?_
    refine x_getR dX9_settle_88 fX_9_11 (by assumption) (by assumption) (by rfl) ?_
    refine x_iconst dX9_settle_91 ?_
    refine x_iload_n dX9_settle_92 x_get_5_1 ?_
    refine x_iadd dX9_settle_93 ?_
    refine x_dup2 dX9_settle_94 rfl rfl ?_
    refine x_ialdU dX9_settle_95 (by assumption) (by assumption) (by omega) (by omega) (by decide) ?_
    refine x_iload dX9_settle_96 x_get_5_4 ?_
    refine x_isub dX9_settle_98 ?_
    refine x_iastU dX9_settle_99 (by assumption) (by assumption) (by omega) (by omega) (by decide) ?_
    refine x_aload_n dX9_settle_100 x_get_5_0 ?_
    refine x_getR dX9_settle_101 fX_9_11 (by assumption) (by assumption) (by rfl) ?_
    refine x_bipush dX9_settle_104 rfl ?_
    refine x_iload_n dX9_settle_106 x_get_5_1 ?_
    refine x_iadd dX9_settle_107 ?_
    refine x_dup2 dX9_settle_108 rfl rfl ?_
    refine x_ialdU dX9_settle_109 (by assumption) (by assumption) (by omega) (by omega) (by decide) ?_
    refine x_iload dX9_settle_110 x_get_5_4 ?_
    refine x_isub dX9_settle_112 ?_
    refine x_iastU dX9_settle_113 (by assumption) (by assumption) (by omega) (by omega) (by decide) ?_
    exact x_vret dX9_settle_114 rfl (Nat.le_of_ble_eq_true rfl) (Nat.le_of_ble_eq_true rfl) rfl rfl rfl (congrArg (x_up D a) he) rfl
  refine x_iload_n dX9_settle_0 x_get_5_3 ?_
  refine b_ifeq (t := 42) dX9_settle_1 rfl (fun hc1 => ?_) (fun hc1 => ?_)
  · refine x_aload_n dX9_settle_42 x_get_5_0 ?_
    refine x_getR dX9_settle_43 fX_9_11 (by assumption) (by assumption) (by rfl) ?_
    refine x_bipush dX9_settle_46 rfl ?_
    refine x_iload_n dX9_settle_48 x_get_5_1 ?_
    refine x_iadd dX9_settle_49 ?_
    refine x_dup2 dX9_settle_50 rfl rfl ?_
    refine x_ialdU dX9_settle_51 (by assumption) (by assumption) (by omega) (by omega) (by decide) ?_
    refine x_iload_n dX9_settle_52 x_get_5_2 ?_
    refine x_isub dX9_settle_53 ?_
    refine x_iastU dX9_settle_54 (by assumption) (by assumption) (by omega) (by omega) (by decide) ?_
    refine x_aload_n dX9_settle_55 x_get_5_0 ?_
    refine x_iconst dX9_settle_56 ?_
    refine x_iload_n dX9_settle_57 x_get_5_1 ?_
    refine x_iadd dX9_settle_58 ?_
    refine x_iload_n dX9_settle_59 x_get_5_2 ?_
    refine x_iconst dX9_settle_60 ?_
    refine x_idiv dX9_settle_61 (by decide) ?_
    refine x_as_is (b := k / 2) (x_dv_nn (by omega) (by omega) (by omega) (by omega)) ?_
    refine x_callV (As := [_, _]) dX9_settle_62 w_9_44 (c9_addTo hl ⟨hrN, hr, haN, ha⟩ (by omega) (by omega) (by rw [x_up_s, e1]; omega) (by rw [x_up_s, e1]; omega) (by omega) (by omega)) (by assumption) (by assumption) rfl rfl (Nat.le_of_ble_eq_true rfl) (Nat.le_of_ble_eq_true rfl) (Nat.le_of_ble_eq_true rfl) (Nat.le_of_ble_eq_true rfl) (Nat.le_of_ble_eq_true rfl) ?_
    rintro _ rfl
    simp only [x_up_s, x_up_up]
    first
      | (refine tail _ (by rw [x_u1_s, e1]; omega) (by rw [x_u1_s, e1]; omega) (by rw [e9]; omega) (by rw [e9]; omega) ?_; rw [s_stl, if_pos hc1]; rfl)
      | (refine tail _ (by rw [s_add, x_u1_s, e1]; omega) (by rw [s_add, x_u1_s, e1]; omega) (by rw [s_add, e9]; omega) (by rw [s_add, e9]; omega) ?_; rw [s_stl, if_neg hc1]; rfl)
  · refine x_aload_n dX9_settle_4 x_get_5_0 ?_
    refine x_getR dX9_settle_5 fX_9_11 (by assumption) (by assumption) (by rfl) ?_
    refine x_bipush dX9_settle_8 rfl ?_
    refine x_iload_n dX9_settle_10 x_get_5_1 ?_
    refine x_iadd dX9_settle_11 ?_
    refine x_dup2 dX9_settle_12 rfl rfl ?_
    refine x_ialdU dX9_settle_13 (by assumption) (by assumption) (by omega) (by omega) (by decide) ?_
    refine x_iload_n dX9_settle_14 x_get_5_2 ?_
    refine x_iadd dX9_settle_15 ?_
    refine x_iastU dX9_settle_16 (by assumption) (by assumption) (by omega) (by omega) (by decide) ?_
    refine x_aload_n dX9_settle_17 x_get_5_0 ?_
    refine x_getR dX9_settle_18 fX_9_11 (by assumption) (by assumption) (by rfl) ?_
    refine x_iconst dX9_settle_21 ?_
    refine x_iload_n dX9_settle_22 x_get_5_1 ?_
    refine x_iadd dX9_settle_23 ?_
    refine x_iconst dX9_settle_24 ?_
    refine x_aload_n dX9_settle_25 x_get_5_0 ?_
    refine x_getR dX9_settle_26 fX_9_11 (by assumption) (by assumption) (by rfl) ?_
    refine x_iconst dX9_settle_29 ?_
    refine x_iload_n dX9_settle_30 x_get_5_1 ?_
    refine x_iadd dX9_settle_31 ?_
    refine x_ialdU dX9_settle_32 (by assumption) (by assumption) (by omega) (by omega) (by decide) ?_
    refine x_iload_n dX9_settle_33 x_get_5_2 ?_
    refine x_isub dX9_settle_34 ?_
    refine r_max dX9_settle_35 w_9_31 (by first | exact ⟨by omega, by omega⟩ | (simp only [e1]; exact ⟨by omega, by omega⟩)) (by first | exact ⟨by omega, by omega⟩ | (simp only [e1]; exact ⟨by omega, by omega⟩)) (Nat.le_of_ble_eq_true rfl) (Nat.le_of_ble_eq_true rfl) (Nat.le_of_ble_eq_true rfl) (Nat.le_of_ble_eq_true rfl) ?_
    refine x_iastU dX9_settle_38 (by assumption) (by assumption) (by omega) (by omega) (by decide) ?_
    refine x_goto (t := 65) dX9_settle_39 rfl ?_
    first
      | (refine tail _ (by rw [x_u1_s, e1]; omega) (by rw [x_u1_s, e1]; omega) (by rw [e9]; omega) (by rw [e9]; omega) ?_; rw [s_stl, if_pos hc1]; rfl)
      | (refine tail _ (by rw [s_add, x_u1_s, e1]; omega) (by rw [s_add, x_u1_s, e1]; omega) (by rw [s_add, e9]; omega) (by rw [s_add, e9]; omega) ?_; rw [s_stl, if_neg hc1]; rfl)
end C9
