section C92
/-! ===== String.length, charAt; Reader.isWord ===== -/
theorem x_sr0 : ∀ j : Nat, j ≤ 15 → x_sr ((x_tx j).length : Int) 0 = (x_tx j).length := by decide
theorem x_chr : ∀ j : Nat, j ≤ 15 → ∀ i : Nat, i < (x_tx j).length → 97 ≤ (x_tx j).getD i 0 ∧ (x_tx j).getD i 0 ≤ 122 := by decide
theorem x_ch1 : ∀ a : Nat, a < 128 → x_an (a : Int) 255 = a ∧ ((xI (a : Int)).toUInt32 % 65536).toInt32 = xI (a : Int) ∧ narrow .char (.int (xI (a : Int))) = .int (xI (a : Int)) := by decide +kernel
theorem x_ch2 {a : Int} (h0 : 0 ≤ a) (h1 : a ≤ 127) : x_an a 255 = a ∧ ((xI a).toUInt32 % 65536).toInt32 = xI a ∧ narrow .char (.int (xI a)) = .int (xI a) := by
  obtain ⟨n, rfl⟩ := Int.eq_ofNat_of_zero_le h0
  exact x_ch1 n (by omega)
theorem xf_717 : Cond.fieldLink RJ0 38 "java/lang/String" "COMPACT_STRINGS" "Z" ∈ x_T := (x_in 717 (by decide +kernel) rfl)
theorem xf_2013 : Cond.fieldLink RJ0 15 "java/lang/String" "coder" "B" ∈ x_T := (x_in 2013 (by decide +kernel) rfl)
theorem xf_2012 : Cond.fieldLink RJ0 9 "java/lang/String" "value" "[B" ∈ x_T := (x_in 2012 (by decide +kernel) rfl)
theorem xf_733 : Cond.fieldLink RJ0 1053 "jdk/internal/util/Preconditions" "SIOOBE_FORMATTER" "Ljava/util/function/BiFunction;" ∈ x_T := (x_in 733 (by decide +kernel) rfl)
abbrev t_is (b : Int → Int) (s e j : Nat) : Prop := e = s + (x_tx j).length ∧ ∀ i : Nat, i < (x_tx j).length → b ((s : Int) + i) = (x_tx j).getD i 0
theorem wF_RJ0_335 : x_cvF RJ0 335 yJ0_coder_7d493 cJ0_coder_7d493 1 (some .byte) 0 := ⟨rfl, (x_in 713 (by decide +kernel) rfl), (x_in 714 (by decide +kernel) rfl), (x_in 715 (by decide +kernel) rfl), (x_in 96 (by decide +kernel) rfl), (x_in 716 (by decide +kernel) rfl), by decide, ⟨by decide +kernel, by decide +kernel, by decide +kernel⟩⟩
theorem wF_RJ0_492 : x_cvF RJ0 492 yJ0_isLatin1_aae02 cJ0_isLatin1_aae02 1 (some .boolean) 0 := ⟨rfl, (x_in 723 (by decide +kernel) rfl), (x_in 724 (by decide +kernel) rfl), (x_in 725 (by decide +kernel) rfl), (x_in 96 (by decide +kernel) rfl), (x_in 726 (by decide +kernel) rfl), by decide, ⟨by decide +kernel, by decide +kernel, by decide +kernel⟩⟩
theorem wF_5_76 : x_cvF RX5 76 yJ0_length_8abf5 cJ0_length_8abf5 1 (some .int) 0 := ⟨rfl, (x_in 709 (by decide +kernel) rfl), (x_in 710 (by decide +kernel) rfl), (x_in 711 (by decide +kernel) rfl), (x_in 96 (by decide +kernel) rfl), (x_in 712 (by decide +kernel) rfl), by decide, ⟨by decide +kernel, by decide +kernel, by decide +kernel⟩⟩
theorem wF_5_82 : x_cvF RX5 82 yJ0_charAt_5068e cJ0_charAt_5068e 2 (some .char) 1 := ⟨rfl, (x_in 719 (by decide +kernel) rfl), (x_in 720 (by decide +kernel) rfl), (x_in 721 (by decide +kernel) rfl), (x_in 96 (by decide +kernel) rfl), (x_in 722 (by decide +kernel) rfl), by decide, ⟨by decide +kernel, by decide +kernel, by decide +kernel⟩⟩
theorem w_RJ0_1059 : x_cs RJ0 1059 yJ3_checkIndex_8e157 cJ3_checkIndex_8e157 3 (some .int) 3 := ⟨(x_in 735 (by decide +kernel) rfl), (x_in 736 (by decide +kernel) rfl), (x_in 98 (by decide +kernel) rfl), (x_in 737 (by decide +kernel) rfl), by decide, ⟨by decide +kernel, by decide +kernel, by decide +kernel⟩⟩
theorem w_RJ0_495 : x_cs RJ0 495 yJ1_charAt_3b067 cJ1_charAt_3b067 2 (some .char) 2 := ⟨(x_in 727 (by decide +kernel) rfl), (x_in 728 (by decide +kernel) rfl), (x_in 97 (by decide +kernel) rfl), (x_in 729 (by decide +kernel) rfl), by decide, ⟨by decide +kernel, by decide +kernel, by decide +kernel⟩⟩
theorem w_RJ1_9 : x_cs RJ1 9 yJ0_checkIndex_df160 cJ0_checkIndex_df160 2 (none) 2 := ⟨(x_in 730 (by decide +kernel) rfl), (x_in 731 (by decide +kernel) rfl), (x_in 96 (by decide +kernel) rfl), (x_in 732 (by decide +kernel) rfl), by decide, ⟨by decide +kernel, by decide +kernel, by decide +kernel⟩⟩
theorem cJ_coder {X : xC} {l : Launch} (hl : l.stackTraces = false) {N : Nat} {sh : xS} {D : xM} {j : Nat} (h1 : 1 ≤ j) (h2 : j ≤ 15) : x_M X l yJ0_coder_7d493 cJ0_coder_7d493 1 (some .byte) 0 0 0 [.ref (x_k X j)] false N sh D (.inl (some (.int (xI 0)))) false N sh (x_is D) := by
  refine x_ofW (by decide +kernel) hl (by simp [Value.category]) (by simp) ?_
  refine x_getCS dJ0_coder_7d493_0 xf_717 ?_
  refine r_if_eq (t := 13) dJ0_coder_7d493_3 rfl ⟨by decide, by decide⟩ (fun hc3 => absurd hc3 (by decide)) (fun hc3 => ?_)
  refine x_aload_n dJ0_coder_7d493_6 x_get_1_0 ?_
  refine x_getSc dJ0_coder_7d493_7 h1 h2 xf_2013 ?_
  refine x_goto (t := 14) dJ0_coder_7d493_10 rfl ?_
  exact x_nret dJ0_coder_7d493_14 rfl rfl (Nat.le_of_ble_eq_true rfl) (Nat.le_of_ble_eq_true rfl) rfl rfl rfl rfl rfl
theorem cJ_isLatin1 {X : xC} {l : Launch} (hl : l.stackTraces = false) {N : Nat} {sh : xS} {D : xM} {j : Nat} (h1 : 1 ≤ j) (h2 : j ≤ 15) : x_M X l yJ0_isLatin1_aae02 cJ0_isLatin1_aae02 1 (some .boolean) 0 0 0 [.ref (x_k X j)] false N sh D (.inl (some (.int (xI 1)))) false N sh (x_is D) := by
  refine x_ofW (by decide +kernel) hl (by simp [Value.category]) (by simp) ?_
  refine x_getCS dJ0_isLatin1_aae02_0 xf_717 ?_
  refine r_if_eq (t := 17) dJ0_isLatin1_aae02_3 rfl ⟨by decide, by decide⟩ (fun hc3 => absurd hc3 (by decide)) (fun hc3 => ?_)
  refine x_aload_n dJ0_isLatin1_aae02_6 x_get_1_0 ?_
  refine x_getSc dJ0_isLatin1_aae02_7 h1 h2 xf_2013 ?_
  refine r_if_ne (t := 17) dJ0_isLatin1_aae02_10 rfl ⟨by decide, by decide⟩ (fun hc10 => absurd hc10 (by decide)) (fun hc10 => ?_)
  refine x_iconst dJ0_isLatin1_aae02_13 ?_
  refine x_goto (t := 18) dJ0_isLatin1_aae02_14 rfl ?_
  exact x_zret dJ0_isLatin1_aae02_18 rfl (by omega) (Nat.le_of_ble_eq_true rfl) (Nat.le_of_ble_eq_true rfl) rfl rfl rfl rfl rfl
theorem cJ_length {X : xC} {l : Launch} (hl : l.stackTraces = false) {N : Nat} {sh : xS} {D : xM} {j : Nat} (h1 : 1 ≤ j) (h2 : j ≤ 15) : x_M X l yJ0_length_8abf5 cJ0_length_8abf5 1 (some .int) 1 0 0 [.ref (x_k X j)] false N sh D (.inl (some (.int (xI ((x_tx j).length : Int))))) false N sh (x_is D) := by
  refine x_ofW (by decide +kernel) hl (by simp [Value.category]) (by simp) ?_
  refine x_aload_n dJ0_length_8abf5_0 x_get_1_0 ?_
  refine x_getSv dJ0_length_8abf5_1 h1 h2 xf_2012 ?_
  refine x_alenT dJ0_length_8abf5_4 h1 h2 ?_
  refine x_aload_n dJ0_length_8abf5_5 x_get_1_0 ?_
  refine x_callVF (As := []) dJ0_length_8abf5_6 wF_RJ0_335 (cJ_coder hl h1 h2) h1 h2 rfl rfl (Nat.le_of_ble_eq_true rfl) (Nat.le_of_ble_eq_true rfl) (Nat.le_of_ble_eq_true rfl) (Nat.le_of_ble_eq_true rfl) (Nat.le_of_ble_eq_true rfl) ?_
  intro dz hdz
  obtain rfl := Eq.symm hdz
  refine x_ishr dJ0_length_8abf5_9 ?_
  exact x_iret dJ0_length_8abf5_10 rfl (Nat.le_of_ble_eq_true rfl) (Nat.le_of_ble_eq_true rfl) (by rw [x_sr0 j h2]) rfl rfl rfl rfl
theorem cJ_check {X : xC} {l : Launch} (hl : l.stackTraces = false) {N : Nat} {sh : xS} {D : xM} {i n : Int} {v : Value} (hv : v = .null ∨ ∃ t : Nat, v = .ref t) (h0 : 0 ≤ i) (h1 : i < n) (hn : n ≤ 1000) : x_M X l yJ3_checkIndex_8e157 cJ3_checkIndex_8e157 3 (some .int) 0 0 0 [.int (xI i), .int (xI n), v] false N sh D (.inl (some (.int (xI i)))) false N sh (x_is D) := by
  refine x_ofW (by decide +kernel) hl (by intro w hw; rcases hv with rfl | ⟨t, rfl⟩ <;> (simp at hw; rcases hw with rfl | rfl | rfl <;> rfl)) (by simp) ?_
  refine x_iload_n dJ3_checkIndex_8e157_0 x_get_3_0 ?_
  refine r_if_lt (t := 9) dJ3_checkIndex_8e157_1 rfl ⟨by omega, by omega⟩ (fun hc1 => absurd hc1 (by omega)) (fun hc1 => ?_)
  refine x_iload_n dJ3_checkIndex_8e157_4 x_get_3_0 ?_
  refine x_iload_n dJ3_checkIndex_8e157_5 x_get_3_1 ?_
  refine r_icmp_lt (t := 16) dJ3_checkIndex_8e157_6 rfl ⟨by omega, by omega⟩ ⟨by omega, by omega⟩ (fun hc6 => ?_) (fun hc6 => absurd hc6 (by omega))
  refine x_iload_n dJ3_checkIndex_8e157_16 x_get_3_0 ?_
  exact x_iret dJ3_checkIndex_8e157_17 rfl (Nat.le_of_ble_eq_true rfl) (Nat.le_of_ble_eq_true rfl) rfl rfl rfl rfl rfl
theorem cJ_checkIndex {X : xC} {l : Launch} (hl : l.stackTraces = false) {N : Nat} {sh : xS} {D : xM} {i n : Int} (h0 : 0 ≤ i) (h1 : i < n) (hn : n ≤ 1000) : x_M X l yJ0_checkIndex_df160 cJ0_checkIndex_df160 2 (none) 1 0 0 [.int (xI i), .int (xI n)] false N sh D (.inl none) false N sh (x_is D) := by
  refine x_ofW (by decide +kernel) hl (by simp [Value.category]) (by simp) ?_
  refine x_iload_n dJ0_checkIndex_df160_0 x_get_2_0 ?_
  refine x_iload_n dJ0_checkIndex_df160_1 x_get_2_1 ?_
  refine x_getFm dJ0_checkIndex_df160_2 xf_733 (fun v hv => ?_)
  refine x_callS (As := [_, _, _]) dJ0_checkIndex_df160_5 w_RJ0_1059 (cJ_check hl hv h0 h1 hn) rfl rfl (Nat.le_of_ble_eq_true rfl) (Nat.le_of_ble_eq_true rfl) (Nat.le_of_ble_eq_true rfl) (Nat.le_of_ble_eq_true rfl) (Nat.le_of_ble_eq_true rfl) ?_
  intro d hd
  obtain rfl := Eq.symm hd
  refine x_pop dJ0_checkIndex_df160_8 rfl ?_
  exact x_vret dJ0_checkIndex_df160_9 rfl (Nat.le_of_ble_eq_true rfl) (Nat.le_of_ble_eq_true rfl) rfl rfl rfl rfl rfl
theorem cJ_charL {X : xC} {l : Launch} (hl : l.stackTraces = false) {N : Nat} {sh : xS} {D : xM} {j : Nat} (h1 : 1 ≤ j) (h2 : j ≤ 15) {i : Nat} (h3 : i < (x_tx j).length) : x_M X l yJ1_charAt_3b067 cJ1_charAt_3b067 2 (some .char) 2 0 0 [.ref (x_v X j), .int (xI (i : Int))] false N sh D (.inl (some (.int (xI ((x_tx j).getD i 0))))) false N sh (x_is D) := by
  have h4 := x_tx_len j h2
  have h5 := x_chr j h2 i h3
  obtain ⟨e1, e2, e3⟩ := x_ch2 (a := (x_tx j).getD i 0) (by omega) (by omega)
  refine x_ofW (by decide +kernel) hl (by simp [Value.category]) (by simp) ?_
  refine x_iload_n dJ1_charAt_3b067_0 x_get_2_1 ?_
  refine x_aload_n dJ1_charAt_3b067_1 x_get_2_0 ?_
  refine x_alenT dJ1_charAt_3b067_2 h1 h2 ?_
  refine x_callS (As := [_, _]) dJ1_charAt_3b067_3 w_RJ1_9 (cJ_checkIndex hl (i := (i : Int)) (by omega) (by omega) (by omega)) rfl rfl (Nat.le_of_ble_eq_true rfl) (Nat.le_of_ble_eq_true rfl) (Nat.le_of_ble_eq_true rfl) (Nat.le_of_ble_eq_true rfl) (Nat.le_of_ble_eq_true rfl) ?_
  intro d hd
  obtain rfl := Eq.symm hd
  refine x_aload_n dJ1_charAt_3b067_6 x_get_2_0 ?_
  refine x_iload_n dJ1_charAt_3b067_7 x_get_2_1 ?_
  refine x_baldT dJ1_charAt_3b067_8 h1 h2 (by omega) (by omega) ?_
  rw [Int.toNat_natCast]
  refine x_sipush dJ1_charAt_3b067_9 rfl ?_
  refine x_iand dJ1_charAt_3b067_12 ?_
  rw [e1]
  refine x_i2c dJ1_charAt_3b067_13 e2 ?_
  exact x_nret dJ1_charAt_3b067_14 rfl e3 (Nat.le_of_ble_eq_true rfl) (Nat.le_of_ble_eq_true rfl) rfl rfl rfl rfl rfl
theorem cJ_charAt {X : xC} {l : Launch} (hl : l.stackTraces = false) {N : Nat} {sh : xS} {D : xM} {j : Nat} (h1 : 1 ≤ j) (h2 : j ≤ 15) {i : Nat} (h3 : i < (x_tx j).length) : x_M X l yJ0_charAt_5068e cJ0_charAt_5068e 2 (some .char) 3 0 0 [.ref (x_k X j), .int (xI (i : Int))] false N sh D (.inl (some (.int (xI ((x_tx j).getD i 0))))) false N sh (x_is D) := by
  have h5 := x_chr j h2 i h3
  obtain ⟨e1, e2, e3⟩ := x_ch2 (a := (x_tx j).getD i 0) (by omega) (by omega)
  refine x_ofW (by decide +kernel) hl (by simp [Value.category]) (by simp) ?_
  refine x_aload_n dJ0_charAt_5068e_0 x_get_2_0 ?_
  refine x_callVF (As := []) dJ0_charAt_5068e_1 wF_RJ0_492 (cJ_isLatin1 hl h1 h2) h1 h2 rfl rfl (Nat.le_of_ble_eq_true rfl) (Nat.le_of_ble_eq_true rfl) (Nat.le_of_ble_eq_true rfl) (Nat.le_of_ble_eq_true rfl) (Nat.le_of_ble_eq_true rfl) ?_
  intro dz hdz
  obtain rfl := Eq.symm hdz
  refine r_if_eq (t := 16) dJ0_charAt_5068e_4 rfl ⟨by decide, by decide⟩ (fun hc4 => absurd hc4 (by decide)) (fun hc4 => ?_)
  refine x_aload_n dJ0_charAt_5068e_7 x_get_2_0 ?_
  refine x_getSv dJ0_charAt_5068e_8 h1 h2 xf_2012 ?_
  refine x_iload_n dJ0_charAt_5068e_11 x_get_2_1 ?_
  refine x_callS (As := [_, _]) dJ0_charAt_5068e_12 w_RJ0_495 (cJ_charL hl h1 h2 h3) rfl rfl (Nat.le_of_ble_eq_true rfl) (Nat.le_of_ble_eq_true rfl) (Nat.le_of_ble_eq_true rfl) (Nat.le_of_ble_eq_true rfl) (Nat.le_of_ble_eq_true rfl) ?_
  intro d hd
  obtain rfl := Eq.symm hd
  exact x_nret dJ0_charAt_5068e_15 rfl e3 (Nat.le_of_ble_eq_true rfl) (Nat.le_of_ble_eq_true rfl) rfl rfl rfl rfl rfl
theorem c5_isWord {X : xC} {l : Launch} (hl : l.stackTraces = false) {N : Nat} {sh : xS} {D : xM} {lb n : Nat} (hR : is_Rd N sh lb) (ht : tx D n) {j : Nat} (h1 : 1 ≤ j) (h2 : j ≤ 15) {s e : Nat} {k : Int} (hs : D 1 2 = s) (he : D 1 3 = e) (hk : D 1 4 = k) (hse : s ≤ e) (hen : e ≤ n) (hkr : x_r k) : x_M X l yX5_isWord cX5_isWord 3 (some .boolean) 4 0 0 [.ref (x_b X + 1), .ref (x_k X j)] false N sh D (.inl (some (.int (xI (x_B (k = 2 ∧ t_is (D 2) s e j)))))) false N sh (x_is (D)) := by
  obtain ⟨hRN, x1, x2⟩ := id hR
  have n1 : 1 < N := by omega
  have n2 : 2 < N := hRN
  obtain ⟨ht1, ht7, htb⟩ := id ht
  obtain ⟨hkr0, hkr1⟩ := id hkr
  have h4 := x_tx_len j h2
  have lp : k = 2 → e = s + (x_tx j).length → ∀ i : Nat, i ≤ (x_tx j).length → (∀ i2 : Nat, i2 < i → D 2 ((s : Int) + i2) = (x_tx j).getD i2 0) → x_W (X, l, yX5_isWord, cX5_isWord, 3, (some .boolean), x_room 4 0 0, 0, 0, (.inl (some (.int (xI (x_B (k = 2 ∧ t_is (D 2) s e j)))))), N, sh, (x_is (D)), false, []) 28 [some (.ref (x_b X + 1)), some (.ref (x_k X j)), some (.int (xI (i : Int)))] [] 0 0 false N sh D := by
    intro hk2 hes
    refine x_down (x_tx j).length ?_ ?_
    · intro hp
      refine x_iload_n dX5_isWord_28 x_get_3_2 ?_
      refine x_aload_n dX5_isWord_29 x_get_3_1 ?_
      refine x_callVF (As := []) dX5_isWord_30 wF_5_76 (cJ_length hl h1 h2) h1 h2 rfl rfl (Nat.le_of_ble_eq_true rfl) (Nat.le_of_ble_eq_true rfl) (Nat.le_of_ble_eq_true rfl) (Nat.le_of_ble_eq_true rfl) (Nat.le_of_ble_eq_true rfl) ?_
      intro dz hdz
      obtain rfl := Eq.symm hdz
      refine r_icmp_ge (t := 63) dX5_isWord_33 rfl ⟨by omega, by omega⟩ ⟨by omega, by omega⟩ (fun hc33 => ?_) (fun hc33 => absurd hc33 (by omega))
      refine x_iconst dX5_isWord_63 ?_
      exact x_zret dX5_isWord_64 rfl (by omega) (Nat.le_of_ble_eq_true rfl) (Nat.le_of_ble_eq_true rfl) (by rw [x_B, if_pos ⟨hk2, hes, hp⟩]) rfl rfl rfl rfl
    · intro i hi ih hp
      have hb := htb ((s : Int) + i)
      have h5 := x_chr j h2 i hi
      refine x_iload_n dX5_isWord_28 x_get_3_2 ?_
      refine x_aload_n dX5_isWord_29 x_get_3_1 ?_
      refine x_callVF (As := []) dX5_isWord_30 wF_5_76 (cJ_length hl h1 h2) h1 h2 rfl rfl (Nat.le_of_ble_eq_true rfl) (Nat.le_of_ble_eq_true rfl) (Nat.le_of_ble_eq_true rfl) (Nat.le_of_ble_eq_true rfl) (Nat.le_of_ble_eq_true rfl) ?_
      intro dz hdz
      obtain rfl := Eq.symm hdz
      refine r_icmp_ge (t := 63) dX5_isWord_33 rfl ⟨by omega, by omega⟩ ⟨by omega, by omega⟩ (fun hc33 => absurd hc33 (by omega)) (fun hc33 => ?_)
      refine x_aload_n dX5_isWord_36 x_get_3_0 ?_
      refine x_getR dX5_isWord_37 fX_5_9 (by assumption) (by assumption) (by rfl) ?_
      refine x_aload_n dX5_isWord_40 x_get_3_0 ?_
      refine x_getI 2 dX5_isWord_41 fX_5_19 rfl (by assumption) (by assumption) (by rfl) ?_
      rw [hs]
      refine x_iload_n dX5_isWord_44 x_get_3_2 ?_
      refine x_iadd dX5_isWord_45 ?_
      refine x_bald dX5_isWord_46 (by assumption) (by assumption) (by omega) (by omega) (by decide) ?_
      refine x_aload_n dX5_isWord_47 x_get_3_1 ?_
      refine x_iload_n dX5_isWord_48 x_get_3_2 ?_
      refine x_callVF (As := [_]) dX5_isWord_49 wF_5_82 (cJ_charAt hl h1 h2 hi) h1 h2 rfl rfl (Nat.le_of_ble_eq_true rfl) (Nat.le_of_ble_eq_true rfl) (Nat.le_of_ble_eq_true rfl) (Nat.le_of_ble_eq_true rfl) (Nat.le_of_ble_eq_true rfl) ?_
      intro dz hdz
      obtain rfl := Eq.symm hdz
      refine r_icmp_eq (t := 57) dX5_isWord_52 rfl ⟨by omega, by omega⟩ ⟨by omega, by omega⟩ (fun hc52 => ?_) (fun hc52 => ?_)
      · refine x_iinc dX5_isWord_57 x_get_3_2 (Nat.le_of_ble_eq_true rfl) rfl x_set_3_2 ?_
        refine x_goto (t := 28) dX5_isWord_60 rfl ?_
        refine ih (fun i2 hi2 => ?_)
        by_cases hii : i2 = i
        · subst hii; exact hc52
        · exact hp i2 (by omega)
      · refine x_iconst dX5_isWord_55 ?_
        exact x_zret dX5_isWord_56 rfl (by omega) (Nat.le_of_ble_eq_true rfl) (Nat.le_of_ble_eq_true rfl) (by rw [x_B, if_neg (fun h => hc52 (h.2.2 i hi))]) rfl rfl rfl rfl
  refine x_ofW (by decide +kernel) hl (by simp [Value.category]) (by simp) ?_
  refine x_aload_n dX5_isWord_0 x_get_3_0 ?_
  refine x_getI 4 dX5_isWord_1 fX_5_25 rfl (by assumption) (by assumption) (by rfl) ?_
  first | rw [hk] | rw [he] | rw [hs]
  refine x_iconst dX5_isWord_4 ?_
  refine r_icmp_ne (t := 24) dX5_isWord_5 rfl ⟨by omega, by omega⟩ ⟨by omega, by omega⟩ (fun hc5 => ?_) (fun hc5 => ?_)
  · refine x_iconst dX5_isWord_24 ?_
    exact x_zret dX5_isWord_25 rfl (by omega) (Nat.le_of_ble_eq_true rfl) (Nat.le_of_ble_eq_true rfl) (by first | (rw [x_B, if_neg (fun h => hc5 h.1)]; done) | (rw [x_B, if_neg (fun h => hc21 (by have := h.2.1; omega))]; done)) rfl rfl rfl rfl
  · refine x_aload_n dX5_isWord_8 x_get_3_0 ?_
    refine x_getI 3 dX5_isWord_9 fX_5_22 rfl (by assumption) (by assumption) (by rfl) ?_
    first | rw [hk] | rw [he] | rw [hs]
    refine x_aload_n dX5_isWord_12 x_get_3_0 ?_
    refine x_getI 2 dX5_isWord_13 fX_5_19 rfl (by assumption) (by assumption) (by rfl) ?_
    first | rw [hk] | rw [he] | rw [hs]
    refine x_isub dX5_isWord_16 ?_
    refine x_aload_n dX5_isWord_17 x_get_3_1 ?_
    refine x_callVF (As := []) dX5_isWord_18 wF_5_76 (cJ_length hl h1 h2) h1 h2 rfl rfl (Nat.le_of_ble_eq_true rfl) (Nat.le_of_ble_eq_true rfl) (Nat.le_of_ble_eq_true rfl) (Nat.le_of_ble_eq_true rfl) (Nat.le_of_ble_eq_true rfl) ?_
    intro dz hdz
    obtain rfl := Eq.symm hdz
    refine r_icmp_eq (t := 26) dX5_isWord_21 rfl ⟨by omega, by omega⟩ ⟨by omega, by omega⟩ (fun hc21 => ?_) (fun hc21 => ?_)
    · refine x_iconst dX5_isWord_26 ?_
      refine x_istore_n dX5_isWord_27 (Nat.le_of_ble_eq_true rfl) rfl x_set_3_2 ?_
      exact lp (by omega) (by omega) 0 (Nat.zero_le _) (fun i2 hi2 => by omega)
    · refine x_iconst dX5_isWord_24 ?_
      exact x_zret dX5_isWord_25 rfl (by omega) (Nat.le_of_ble_eq_true rfl) (Nat.le_of_ble_eq_true rfl) (by first | (rw [x_B, if_neg (fun h => hc5 h.1)]; done) | (rw [x_B, if_neg (fun h => hc21 (by have := h.2.1; omega))]; done)) rfl rfl rfl rfl
end C92
