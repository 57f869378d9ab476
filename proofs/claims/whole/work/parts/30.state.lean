section C9
def is_St (N : Nat) (sh : xS) (r a : Nat) : Prop := r < N ∧ sh r = .inr (9, [a + 3]) ∧ a < N ∧ sh a = .inl (0, 85)
theorem w_9_21 : x_cv RX9 21 yX9_isGone cX9_isGone 2 (some .boolean) 9 1 := ⟨⟨_, rfl, rfl⟩, (x_in 510 (by decide +kernel) rfl), (x_in 511 (by decide +kernel) rfl), (x_in 512 (by decide +kernel) rfl), (x_in 85 (by decide +kernel) rfl), (x_in 513 (by decide +kernel) rfl), by decide, ⟨by decide +kernel, by decide +kernel, by decide +kernel⟩⟩
theorem w_9_25 : x_cv RX9 25 yX9_isMoving cX9_isMoving 2 (some .boolean) 9 1 := ⟨⟨_, rfl, rfl⟩, (x_in 514 (by decide +kernel) rfl), (x_in 515 (by decide +kernel) rfl), (x_in 516 (by decide +kernel) rfl), (x_in 85 (by decide +kernel) rfl), (x_in 517 (by decide +kernel) rfl), by decide, ⟨by decide +kernel, by decide +kernel, by decide +kernel⟩⟩
theorem w_9_28 : x_cv RX9 28 yX9_lies cX9_lies 2 (some .boolean) 9 1 := ⟨⟨_, rfl, rfl⟩, (x_in 901 (by decide +kernel) rfl), (x_in 507 (by decide +kernel) rfl), (x_in 508 (by decide +kernel) rfl), (x_in 85 (by decide +kernel) rfl), (x_in 509 (by decide +kernel) rfl), by decide, ⟨by decide +kernel, by decide +kernel, by decide +kernel⟩⟩
theorem c9_isGone {X : xC} {l : Launch} (hl : l.stackTraces = false) {N : Nat} {sh : xS} {D : xM} {r a : Nat} (hs : is_St N sh r a) (hR : ∀ i, -100000 ≤ D a i ∧ D a i ≤ 100000) {c : Int} (h0 : 0 ≤ c) (h1 : c < 10) : x_M X l yX9_isGone cX9_isGone 2 (some .boolean) 1 0 0 [.ref (x_b X + r), .int (xI c)] false N sh D (.inl (some (.int (xI (x_B (s_gone (D a) c)))))) false N sh (x_is (D)) := by
  obtain ⟨hrN, hr, haN, ha⟩ := hs
  refine x_ofW (by decide +kernel) hl (by simp [Value.category]) (by simp) ?_
  refine x_aload_n dX9_isGone_0 x_get_2_0 ?_
  refine x_getR dX9_isGone_1 fX_9_11 (by assumption) (by assumption) (by rfl) ?_
  refine x_bipush dX9_isGone_4 rfl ?_
  refine x_iload_n dX9_isGone_6 x_get_2_1 ?_
  refine x_iadd dX9_isGone_7 ?_
  refine x_iald dX9_isGone_8 (by assumption) (by assumption) (by omega) (by omega) (by decide) ?_
  refine x_iconst dX9_isGone_9 ?_
  refine r_icmp_ne (t := 17) dX9_isGone_10 rfl (by first | exact x_rI hR _ | exact ⟨by omega, by omega⟩) (by first | exact x_rI hR _ | exact ⟨by omega, by omega⟩) (fun hc10 => ?_) (fun hc10 => ?_)
  · refine x_iconst dX9_isGone_17 ?_
    exact x_zret dX9_isGone_18 rfl (by omega) (Nat.le_of_ble_eq_true rfl) (Nat.le_of_ble_eq_true rfl) (by first | (rw [x_B, if_pos (by omega)]; done) | (rw [x_B, if_neg (by omega)]; done)) rfl rfl rfl rfl
  · refine x_iconst dX9_isGone_13 ?_
    refine x_goto (t := 18) dX9_isGone_14 rfl ?_
    exact x_zret dX9_isGone_18 rfl (by omega) (Nat.le_of_ble_eq_true rfl) (Nat.le_of_ble_eq_true rfl) (by first | (rw [x_B, if_pos (by omega)]; done) | (rw [x_B, if_neg (by omega)]; done)) rfl rfl rfl rfl
theorem c9_isMoving {X : xC} {l : Launch} (hl : l.stackTraces = false) {N : Nat} {sh : xS} {D : xM} {r a : Nat} (hs : is_St N sh r a) (hR : ∀ i, -100000 ≤ D a i ∧ D a i ≤ 100000) {c : Int} (h0 : 0 ≤ c) (h1 : c < 10) : x_M X l yX9_isMoving cX9_isMoving 2 (some .boolean) 1 0 0 [.ref (x_b X + r), .int (xI c)] false N sh D (.inl (some (.int (xI (x_B (s_mov (D a) c)))))) false N sh (x_is (D)) := by
  obtain ⟨hrN, hr, haN, ha⟩ := hs
  refine x_ofW (by decide +kernel) hl (by simp [Value.category]) (by simp) ?_
  refine x_aload_n dX9_isMoving_0 x_get_2_0 ?_
  refine x_getR dX9_isMoving_1 fX_9_11 (by assumption) (by assumption) (by rfl) ?_
  refine x_bipush dX9_isMoving_4 rfl ?_
  refine x_iload_n dX9_isMoving_6 x_get_2_1 ?_
  refine x_iadd dX9_isMoving_7 ?_
  refine x_iald dX9_isMoving_8 (by assumption) (by assumption) (by omega) (by omega) (by decide) ?_
  refine r_if_le (t := 16) dX9_isMoving_9 rfl (by first | exact x_rI hR _ | exact ⟨by omega, by omega⟩) (fun hc9 => ?_) (fun hc9 => ?_)
  · refine x_iconst dX9_isMoving_16 ?_
    exact x_zret dX9_isMoving_17 rfl (by omega) (Nat.le_of_ble_eq_true rfl) (Nat.le_of_ble_eq_true rfl) (by first | (rw [x_B, if_pos (by omega)]; done) | (rw [x_B, if_neg (by omega)]; done)) rfl rfl rfl rfl
  · refine x_iconst dX9_isMoving_12 ?_
    refine x_goto (t := 17) dX9_isMoving_13 rfl ?_
    exact x_zret dX9_isMoving_17 rfl (by omega) (Nat.le_of_ble_eq_true rfl) (Nat.le_of_ble_eq_true rfl) (by first | (rw [x_B, if_pos (by omega)]; done) | (rw [x_B, if_neg (by omega)]; done)) rfl rfl rfl rfl
theorem c9_lies {X : xC} {l : Launch} (hl : l.stackTraces = false) {N : Nat} {sh : xS} {D : xM} {r a : Nat} (hs : is_St N sh r a) (hR : ∀ i, -100000 ≤ D a i ∧ D a i ≤ 100000) {c : Int} (h0 : 0 ≤ c) (h1 : c < 10) : x_M X l yX9_lies cX9_lies 2 (some .boolean) 2 0 0 [.ref (x_b X + r), .int (xI c)] false N sh D (.inl (some (.int (xI (x_B (s_lies (D a) c)))))) false N sh (x_is (D)) := by
  obtain ⟨hrN, hr, haN, ha⟩ := hs
  refine x_ofW (by decide +kernel) hl (by simp [Value.category]) (by simp) ?_
  refine x_aload_n dX9_lies_0 x_get_2_0 ?_
  refine x_iload_n dX9_lies_1 x_get_2_1 ?_
  refine x_callV (As := [_]) dX9_lies_2 w_9_21 (c9_isGone hl ⟨hrN, hr, haN, ha⟩ hR h0 h1) (by assumption) (by assumption) rfl rfl (Nat.le_of_ble_eq_true rfl) (Nat.le_of_ble_eq_true rfl) (Nat.le_of_ble_eq_true rfl) (Nat.le_of_ble_eq_true rfl) (Nat.le_of_ble_eq_true rfl) ?_
  rintro _ rfl
  refine b_ifne (t := 20) dX9_lies_5 rfl (fun hc5 => ?_) (fun hc5 => ?_)
  · refine x_iconst dX9_lies_20 ?_
    exact x_zret dX9_lies_21 rfl (by omega) (Nat.le_of_ble_eq_true rfl) (Nat.le_of_ble_eq_true rfl) (by first | (rw [x_B, if_pos (by omega)]; done) | (rw [x_B, if_neg (by omega)]; done)) rfl rfl rfl rfl
  · refine x_aload_n dX9_lies_8 x_get_2_0 ?_
    refine x_iload_n dX9_lies_9 x_get_2_1 ?_
    refine x_callV (As := [_]) dX9_lies_10 w_9_25 (c9_isMoving hl ⟨hrN, hr, haN, ha⟩ hR h0 h1) (by assumption) (by assumption) rfl rfl (Nat.le_of_ble_eq_true rfl) (Nat.le_of_ble_eq_true rfl) (Nat.le_of_ble_eq_true rfl) (Nat.le_of_ble_eq_true rfl) (Nat.le_of_ble_eq_true rfl) ?_
    rintro _ rfl
    refine b_ifne (t := 20) dX9_lies_13 rfl (fun hc13 => ?_) (fun hc13 => ?_)
    · refine x_iconst dX9_lies_20 ?_
      exact x_zret dX9_lies_21 rfl (by omega) (Nat.le_of_ble_eq_true rfl) (Nat.le_of_ble_eq_true rfl) (by first | (rw [x_B, if_pos (by omega)]; done) | (rw [x_B, if_neg (by omega)]; done)) rfl rfl rfl rfl
    · refine x_iconst dX9_lies_16 ?_
      refine x_goto (t := 21) dX9_lies_17 rfl ?_
      exact x_zret dX9_lies_21 rfl (by omega) (Nat.le_of_ble_eq_true rfl) (Nat.le_of_ble_eq_true rfl) (by first | (rw [x_B, if_pos (by omega)]; done) | (rw [x_B, if_neg (by omega)]; done)) rfl rfl rfl rfl
theorem c9_closedBits {X : xC} {l : Launch} (hl : l.stackTraces = false) {N : Nat} {sh : xS} {D : xM} {r a : Nat} (hs : is_St N sh r a) (hR : ∀ i, -100000 ≤ D a i ∧ D a i ≤ 100000) {C : Nat} (h0 : C ≤ 10) : x_M X l yX9_closedBits cX9_closedBits 4 (some .int) 3 0 0 [.ref (x_b X + r), .int (xI C)] false N sh D (.inl (some (.int (xI ((s_bits (fun c => s_lies (D a) c) C : Nat)))))) false N sh (x_is (D)) := by
  obtain ⟨hrN, hr, haN, ha⟩ := hs
  refine x_ofW (by decide +kernel) hl (by simp [Value.category]) (by simp) ?_
  have hloop : ∀ i : Nat, i ≤ C → x_W (X, l, yX9_closedBits, cX9_closedBits, 4, some .int, x_room 3 0 0, 0, 0, (.inl (some (.int (xI ((s_bits (fun c => s_lies (D a) c) C : Nat)))))), N, sh, (x_is (D)), false, []) 4 [some (.ref (x_b X + r)), some (.int (xI C)), some (.int (xI (s_bits (fun c => s_lies (D a) c) i : Nat))), some (.int (xI i))] [] 0 0 false N sh D := by
    refine x_down C ?_ ?_
    · refine x_iload_n dX9_closedBits_4 x_get_4_3 ?_
      refine x_iload_n dX9_closedBits_5 x_get_4_1 ?_
      refine r_icmp_ge (t := 33) dX9_closedBits_6 rfl (by first | exact x_rI hR _ | exact ⟨by omega, by omega⟩) (by first | exact x_rI hR _ | exact ⟨by omega, by omega⟩) (fun hc6 => ?_) (fun hc6 => absurd hc6 (by omega))
      refine x_iload_n dX9_closedBits_33 x_get_4_2 ?_
      exact x_iret dX9_closedBits_34 rfl (Nat.le_of_ble_eq_true rfl) (Nat.le_of_ble_eq_true rfl) rfl rfl rfl rfl rfl
    · intro i hi ih
      refine x_iload_n dX9_closedBits_4 x_get_4_3 ?_
      refine x_iload_n dX9_closedBits_5 x_get_4_1 ?_
      refine r_icmp_ge (t := 33) dX9_closedBits_6 rfl (by first | exact x_rI hR _ | exact ⟨by omega, by omega⟩) (by first | exact x_rI hR _ | exact ⟨by omega, by omega⟩) (fun hc6 => absurd hc6 (by omega)) (fun hc6 => ?_)
      refine x_iload_n dX9_closedBits_9 x_get_4_2 ?_
      refine x_aload_n dX9_closedBits_10 x_get_4_0 ?_
      refine x_iload_n dX9_closedBits_11 x_get_4_3 ?_
      refine x_callV (As := [_]) dX9_closedBits_12 w_9_28 (c9_lies hl ⟨hrN, hr, haN, ha⟩ hR (c := (i : Int)) (by omega) (by omega)) (by assumption) (by assumption) rfl rfl (Nat.le_of_ble_eq_true rfl) (Nat.le_of_ble_eq_true rfl) (Nat.le_of_ble_eq_true rfl) (Nat.le_of_ble_eq_true rfl) (Nat.le_of_ble_eq_true rfl) ?_
      rintro _ rfl
      refine b_ifeq (t := 24) dX9_closedBits_15 rfl (fun hc15 => ?_) (fun hc15 => ?_)
      · refine x_iconst dX9_closedBits_24 ?_
        refine x_ior dX9_closedBits_25 ?_
        refine x_as_is (by first | exact s_bits_or _ (by omega) hc15 | exact s_bits_or0 _ (by omega) hc15) ?_
        refine x_istore_n dX9_closedBits_26 (Nat.le_of_ble_eq_true rfl) rfl x_set_4_2 ?_
        refine x_iinc dX9_closedBits_27 x_get_4_3 (Nat.le_of_ble_eq_true rfl) rfl x_set_4_3 ?_
        refine x_goto (t := 4) dX9_closedBits_30 rfl ?_
        exact ih
      · refine x_iconst dX9_closedBits_18 ?_
        refine x_iload_n dX9_closedBits_19 x_get_4_3 ?_
        refine x_ishl dX9_closedBits_20 ?_
        refine x_goto (t := 25) dX9_closedBits_21 rfl ?_
        refine x_ior dX9_closedBits_25 ?_
        refine x_as_is (by first | exact s_bits_or _ (by omega) hc15 | exact s_bits_or0 _ (by omega) hc15) ?_
        refine x_istore_n dX9_closedBits_26 (Nat.le_of_ble_eq_true rfl) rfl x_set_4_2 ?_
        refine x_iinc dX9_closedBits_27 x_get_4_3 (Nat.le_of_ble_eq_true rfl) rfl x_set_4_3 ?_
        refine x_goto (t := 4) dX9_closedBits_30 rfl ?_
        exact ih
  refine x_iconst dX9_closedBits_0 ?_
  refine x_istore_n dX9_closedBits_1 (Nat.le_of_ble_eq_true rfl) rfl x_set_4_2 ?_
  refine x_iconst dX9_closedBits_2 ?_
  refine x_istore_n dX9_closedBits_3 (Nat.le_of_ble_eq_true rfl) rfl x_set_4_3 ?_
  exact hloop 0 (Nat.zero_le _)
theorem c9_movingBits {X : xC} {l : Launch} (hl : l.stackTraces = false) {N : Nat} {sh : xS} {D : xM} {r a : Nat} (hs : is_St N sh r a) (hR : ∀ i, -100000 ≤ D a i ∧ D a i ≤ 100000) {C : Nat} (h0 : C ≤ 10) : x_M X l yX9_movingBits cX9_movingBits 4 (some .int) 2 0 0 [.ref (x_b X + r), .int (xI C)] false N sh D (.inl (some (.int (xI ((s_bits (fun c => s_mov (D a) c) C : Nat)))))) false N sh (x_is (D)) := by
  obtain ⟨hrN, hr, haN, ha⟩ := hs
  refine x_ofW (by decide +kernel) hl (by simp [Value.category]) (by simp) ?_
  have hloop : ∀ i : Nat, i ≤ C → x_W (X, l, yX9_movingBits, cX9_movingBits, 4, some .int, x_room 2 0 0, 0, 0, (.inl (some (.int (xI ((s_bits (fun c => s_mov (D a) c) C : Nat)))))), N, sh, (x_is (D)), false, []) 4 [some (.ref (x_b X + r)), some (.int (xI C)), some (.int (xI (s_bits (fun c => s_mov (D a) c) i : Nat))), some (.int (xI i))] [] 0 0 false N sh D := by
    refine x_down C ?_ ?_
    · refine x_iload_n dX9_movingBits_4 x_get_4_3 ?_
      refine x_iload_n dX9_movingBits_5 x_get_4_1 ?_
      refine r_icmp_ge (t := 33) dX9_movingBits_6 rfl (by first | exact x_rI hR _ | exact ⟨by omega, by omega⟩) (by first | exact x_rI hR _ | exact ⟨by omega, by omega⟩) (fun hc6 => ?_) (fun hc6 => absurd hc6 (by omega))
      refine x_iload_n dX9_movingBits_33 x_get_4_2 ?_
      exact x_iret dX9_movingBits_34 rfl (Nat.le_of_ble_eq_true rfl) (Nat.le_of_ble_eq_true rfl) rfl rfl rfl rfl rfl
    · intro i hi ih
      refine x_iload_n dX9_movingBits_4 x_get_4_3 ?_
      refine x_iload_n dX9_movingBits_5 x_get_4_1 ?_
      refine r_icmp_ge (t := 33) dX9_movingBits_6 rfl (by first | exact x_rI hR _ | exact ⟨by omega, by omega⟩) (by first | exact x_rI hR _ | exact ⟨by omega, by omega⟩) (fun hc6 => absurd hc6 (by omega)) (fun hc6 => ?_)
      refine x_iload_n dX9_movingBits_9 x_get_4_2 ?_
      refine x_aload_n dX9_movingBits_10 x_get_4_0 ?_
      refine x_iload_n dX9_movingBits_11 x_get_4_3 ?_
      refine x_callV (As := [_]) dX9_movingBits_12 w_9_25 (c9_isMoving hl ⟨hrN, hr, haN, ha⟩ hR (c := (i : Int)) (by omega) (by omega)) (by assumption) (by assumption) rfl rfl (Nat.le_of_ble_eq_true rfl) (Nat.le_of_ble_eq_true rfl) (Nat.le_of_ble_eq_true rfl) (Nat.le_of_ble_eq_true rfl) (Nat.le_of_ble_eq_true rfl) ?_
      rintro _ rfl
      refine b_ifeq (t := 24) dX9_movingBits_15 rfl (fun hc15 => ?_) (fun hc15 => ?_)
      · refine x_iconst dX9_movingBits_24 ?_
        refine x_ior dX9_movingBits_25 ?_
        refine x_as_is (by first | exact s_bits_or _ (by omega) hc15 | exact s_bits_or0 _ (by omega) hc15) ?_
        refine x_istore_n dX9_movingBits_26 (Nat.le_of_ble_eq_true rfl) rfl x_set_4_2 ?_
        refine x_iinc dX9_movingBits_27 x_get_4_3 (Nat.le_of_ble_eq_true rfl) rfl x_set_4_3 ?_
        refine x_goto (t := 4) dX9_movingBits_30 rfl ?_
        exact ih
      · refine x_iconst dX9_movingBits_18 ?_
        refine x_iload_n dX9_movingBits_19 x_get_4_3 ?_
        refine x_ishl dX9_movingBits_20 ?_
        refine x_goto (t := 25) dX9_movingBits_21 rfl ?_
        refine x_ior dX9_movingBits_25 ?_
        refine x_as_is (by first | exact s_bits_or _ (by omega) hc15 | exact s_bits_or0 _ (by omega) hc15) ?_
        refine x_istore_n dX9_movingBits_26 (Nat.le_of_ble_eq_true rfl) rfl x_set_4_2 ?_
        refine x_iinc dX9_movingBits_27 x_get_4_3 (Nat.le_of_ble_eq_true rfl) rfl x_set_4_3 ?_
        refine x_goto (t := 4) dX9_movingBits_30 rfl ?_
        exact ih
  refine x_iconst dX9_movingBits_0 ?_
  refine x_istore_n dX9_movingBits_1 (Nat.le_of_ble_eq_true rfl) rfl x_set_4_2 ?_
  refine x_iconst dX9_movingBits_2 ?_
  refine x_istore_n dX9_movingBits_3 (Nat.le_of_ble_eq_true rfl) rfl x_set_4_3 ?_
  exact hloop 0 (Nat.zero_le _)
theorem c9_goneBits {X : xC} {l : Launch} (hl : l.stackTraces = false) {N : Nat} {sh : xS} {D : xM} {r a : Nat} (hs : is_St N sh r a) (hR : ∀ i, -100000 ≤ D a i ∧ D a i ≤ 100000) {C : Nat} (h0 : C ≤ 10) : x_M X l yX9_goneBits cX9_goneBits 4 (some .int) 2 0 0 [.ref (x_b X + r), .int (xI C)] false N sh D (.inl (some (.int (xI ((s_bits (fun c => s_gone (D a) c) C : Nat)))))) false N sh (x_is (D)) := by
  obtain ⟨hrN, hr, haN, ha⟩ := hs
  refine x_ofW (by decide +kernel) hl (by simp [Value.category]) (by simp) ?_
  have hloop : ∀ i : Nat, i ≤ C → x_W (X, l, yX9_goneBits, cX9_goneBits, 4, some .int, x_room 2 0 0, 0, 0, (.inl (some (.int (xI ((s_bits (fun c => s_gone (D a) c) C : Nat)))))), N, sh, (x_is (D)), false, []) 4 [some (.ref (x_b X + r)), some (.int (xI C)), some (.int (xI (s_bits (fun c => s_gone (D a) c) i : Nat))), some (.int (xI i))] [] 0 0 false N sh D := by
    refine x_down C ?_ ?_
    · refine x_iload_n dX9_goneBits_4 x_get_4_3 ?_
      refine x_iload_n dX9_goneBits_5 x_get_4_1 ?_
      refine r_icmp_ge (t := 33) dX9_goneBits_6 rfl (by first | exact x_rI hR _ | exact ⟨by omega, by omega⟩) (by first | exact x_rI hR _ | exact ⟨by omega, by omega⟩) (fun hc6 => ?_) (fun hc6 => absurd hc6 (by omega))
      refine x_iload_n dX9_goneBits_33 x_get_4_2 ?_
      exact x_iret dX9_goneBits_34 rfl (Nat.le_of_ble_eq_true rfl) (Nat.le_of_ble_eq_true rfl) rfl rfl rfl rfl rfl
    · intro i hi ih
      refine x_iload_n dX9_goneBits_4 x_get_4_3 ?_
      refine x_iload_n dX9_goneBits_5 x_get_4_1 ?_
      refine r_icmp_ge (t := 33) dX9_goneBits_6 rfl (by first | exact x_rI hR _ | exact ⟨by omega, by omega⟩) (by first | exact x_rI hR _ | exact ⟨by omega, by omega⟩) (fun hc6 => absurd hc6 (by omega)) (fun hc6 => ?_)
      refine x_iload_n dX9_goneBits_9 x_get_4_2 ?_
      refine x_aload_n dX9_goneBits_10 x_get_4_0 ?_
      refine x_iload_n dX9_goneBits_11 x_get_4_3 ?_
      refine x_callV (As := [_]) dX9_goneBits_12 w_9_21 (c9_isGone hl ⟨hrN, hr, haN, ha⟩ hR (c := (i : Int)) (by omega) (by omega)) (by assumption) (by assumption) rfl rfl (Nat.le_of_ble_eq_true rfl) (Nat.le_of_ble_eq_true rfl) (Nat.le_of_ble_eq_true rfl) (Nat.le_of_ble_eq_true rfl) (Nat.le_of_ble_eq_true rfl) ?_
      rintro _ rfl
      refine b_ifeq (t := 24) dX9_goneBits_15 rfl (fun hc15 => ?_) (fun hc15 => ?_)
      · refine x_iconst dX9_goneBits_24 ?_
        refine x_ior dX9_goneBits_25 ?_
        refine x_as_is (by first | exact s_bits_or _ (by omega) hc15 | exact s_bits_or0 _ (by omega) hc15) ?_
        refine x_istore_n dX9_goneBits_26 (Nat.le_of_ble_eq_true rfl) rfl x_set_4_2 ?_
        refine x_iinc dX9_goneBits_27 x_get_4_3 (Nat.le_of_ble_eq_true rfl) rfl x_set_4_3 ?_
        refine x_goto (t := 4) dX9_goneBits_30 rfl ?_
        exact ih
      · refine x_iconst dX9_goneBits_18 ?_
        refine x_iload_n dX9_goneBits_19 x_get_4_3 ?_
        refine x_ishl dX9_goneBits_20 ?_
        refine x_goto (t := 25) dX9_goneBits_21 rfl ?_
        refine x_ior dX9_goneBits_25 ?_
        refine x_as_is (by first | exact s_bits_or _ (by omega) hc15 | exact s_bits_or0 _ (by omega) hc15) ?_
        refine x_istore_n dX9_goneBits_26 (Nat.le_of_ble_eq_true rfl) rfl x_set_4_2 ?_
        refine x_iinc dX9_goneBits_27 x_get_4_3 (Nat.le_of_ble_eq_true rfl) rfl x_set_4_3 ?_
        refine x_goto (t := 4) dX9_goneBits_30 rfl ?_
        exact ih
  refine x_iconst dX9_goneBits_0 ?_
  refine x_istore_n dX9_goneBits_1 (Nat.le_of_ble_eq_true rfl) rfl x_set_4_2 ?_
  refine x_iconst dX9_goneBits_2 ?_
  refine x_istore_n dX9_goneBits_3 (Nat.le_of_ble_eq_true rfl) rfl x_set_4_3 ?_
  exact hloop 0 (Nat.zero_le _)
end C9
