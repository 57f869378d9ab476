section C41
theorem k_lev_in {B : Int} {f : Int → Int} (h : s_ok B f) {t : Int} (h0 : 0 ≤ t) (h1 : t < 8) (th : Nat) : ∀ m : Nat, m ≤ 1024 → (k_lev f t th m).1 < 1024 ∧ 0 ≤ (k_lev f t th m).2 ∧ (k_lev f t th m).2 ≤ 9999
  | 0, _ => ⟨by show (0 : Nat) < 1024; decide, k_diff_in h h0 h1 0⟩
  | m + 1, hm => by
    have h2 := k_lev_in h h0 h1 th m (by omega)
    have h3 := k_diff_in h h0 h1 m
    rw [k_lev_s]
    split
    · exact ⟨by show m < 1024; omega, h3⟩
    · exact h2
theorem k_stl_in {B : Int} {f : Int → Int} (h : s_ok B f) (ca : Int) (th : Nat) : ∀ m : Nat, m ≤ 1024 → (k_stl f ca th m).1 < 1024 ∧ 0 ≤ (k_stl f ca th m).2 ∧ (k_stl f ca th m).2 ≤ 990
  | 0, _ => by simp [k_stl]
  | m + 1, hm => by
    have h2 := k_stl_in h ca th m (by omega)
    have h3 := k_sum_in h m
    rw [k_stl_s]
    split
    · exact ⟨by show m < 1024; omega, h3⟩
    · exact h2
theorem k_snd_in (f lk : Int → Int) (t wa : Int) (C sd : Nat) : ∀ m : Nat, m ≤ 1024 → -1 ≤ (k_snd f lk t wa C sd m).1 ∧ (k_snd f lk t wa C sd m).1 < 1024 ∧ 0 ≤ (k_snd f lk t wa C sd m).2 ∧ (k_snd f lk t wa C sd m).2 ≤ 11
  | 0, _ => by simp [k_snd]
  | m + 1, hm => by
    have h2 := k_snd_in f lk t wa C sd m (by omega)
    have h3 := s_pop_le m (by omega)
    rw [k_snd_s]
    split
    · simp only; omega
    · exact h2
theorem k_at_in {B : Int} {f lk : Int → Int} (h : s_ok B f) (hlk : ∀ j, 0 ≤ lk j ∧ lk j ≤ 1000000) (t : Int) (m : Nat) {C : Nat} (hC : C ≤ 10) : 0 ≤ k_at f lk t m C ∧ k_at f lk t m C ≤ 990 := by
  have := x_sum_le (f := k_at1 f lk t m) (M := 99) C (fun c a b => by
    have h1 := (s_cr h a (by omega)).1
    have h2 := hlk (f (55 + c) * 8 + t)
    have h3 := e_none_in (F := 1000000) h2.1
    unfold k_at1
    split
    · split
      · decide
      · split <;> omega
    · decide)
  unfold k_at
  omega
theorem s_bits_10 {p : Nat → Prop} [DecidablePred p] {C : Nat} (hC : C ≤ 10) : s_bits p C < 1024 := Nat.lt_of_lt_of_le (s_bits_lt p C) (Nat.pow_le_pow_right (by decide) hC)
theorem s_bits_bit {p : Nat → Prop} [DecidablePred p] : ∀ {n c : Nat}, (s_bits p n).testBit c = true → p c ∧ c < n
  | 0, c, h => by simp [s_bits] at h
  | n + 1, c, h => by
    have hlt := s_bits_lt p n
    unfold s_bits at h
    split at h
    · next hp =>
      rw [← s_or_pow hlt, Nat.testBit_or, Nat.testBit_two_pow, Bool.or_eq_true] at h
      rcases h with h | h
      · have := s_bits_bit h; exact ⟨this.1, by omega⟩
      · have : n = c := by simpa using h
        subst this
        exact ⟨hp, by omega⟩
    · have := s_bits_bit h; exact ⟨this.1, by omega⟩
theorem s_bits_set {p : Nat → Prop} [DecidablePred p] : ∀ {n c : Nat}, p c → c < n → (s_bits p n).testBit c = true
  | 0, c, _, h => by omega
  | n + 1, c, hp, h => by
    have hlt := s_bits_lt p n
    unfold s_bits
    by_cases hc : c = n
    · subst hc
      rw [if_pos hp, ← s_or_pow hlt, Nat.testBit_or, Nat.testBit_two_pow]
      simp
    · have ih := s_bits_set (n := n) hp (by omega)
      split
      · rw [← s_or_pow hlt, Nat.testBit_or, ih]; rfl
      · exact ih
theorem w_4_15 : x_cv RX4 15 yX9_closedBits cX9_closedBits 4 (some .int) 9 1 := ⟨⟨_, rfl, rfl⟩, (x_in 1065 (by decide +kernel) rfl), (x_in 898 (by decide +kernel) rfl), (x_in 899 (by decide +kernel) rfl), (x_in 85 (by decide +kernel) rfl), (x_in 900 (by decide +kernel) rfl), by decide, ⟨by decide +kernel, by decide +kernel, by decide +kernel⟩⟩
theorem w_4_27 : x_cs RX4 27 yJ6_bitCount_0f7a4 cJ6_bitCount_0f7a4 1 (some .int) 1 := ⟨(x_in 1069 (by decide +kernel) rfl), (x_in 473 (by decide +kernel) rfl), (x_in 102 (by decide +kernel) rfl), (x_in 474 (by decide +kernel) rfl), by decide, ⟨by decide +kernel, by decide +kernel, by decide +kernel⟩⟩
theorem w_4_32 : x_cs RX4 32 yX4_grainsAt cX4_grainsAt 8 (some .int) 4 := ⟨(x_in 1070 (by decide +kernel) rfl), (x_in 1071 (by decide +kernel) rfl), (x_in 103 (by decide +kernel) rfl), (x_in 1072 (by decide +kernel) rfl), by decide, ⟨by decide +kernel, by decide +kernel, by decide +kernel⟩⟩
theorem w_4_44 : x_cv RX4 44 yX6_tightest cX6_tightest 4 (some .int) 6 2 := ⟨⟨_, rfl, rfl⟩, (x_in 1073 (by decide +kernel) rfl), (x_in 1052 (by decide +kernel) rfl), (x_in 1053 (by decide +kernel) rfl), (x_in 83 (by decide +kernel) rfl), (x_in 1054 (by decide +kernel) rfl), by decide, ⟨by decide +kernel, by decide +kernel, by decide +kernel⟩⟩
theorem w_4_50 : x_mw RX4 50 Lib.Math.max.name Lib.Math.max.code 2 := ⟨(x_in 1074 (by decide +kernel) rfl), (x_in 451 (by decide +kernel) rfl), (x_in 95 (by decide +kernel) rfl), (x_in 452 (by decide +kernel) rfl)⟩
theorem w_4_55 : x_cv RX4 55 yX9_bitsIn cX9_bitsIn 5 (some .int) 9 2 := ⟨⟨_, rfl, rfl⟩, (x_in 1268 (by decide +kernel) rfl), (x_in 469 (by decide +kernel) rfl), (x_in 470 (by decide +kernel) rfl), (x_in 85 (by decide +kernel) rfl), (x_in 471 (by decide +kernel) rfl), by decide, ⟨by decide +kernel, by decide +kernel, by decide +kernel⟩⟩
theorem w_4_58 : x_cs RX4 58 yX4_grainsOf cX4_grainsOf 4 (some .int) 2 := ⟨(x_in 1269 (by decide +kernel) rfl), (x_in 1270 (by decide +kernel) rfl), (x_in 103 (by decide +kernel) rfl), (x_in 1271 (by decide +kernel) rfl), by decide, ⟨by decide +kernel, by decide +kernel, by decide +kernel⟩⟩
theorem w_4_61 : x_cs RX4 61 yX4_differenceWith cX4_differenceWith 6 (some .int) 3 := ⟨(x_in 1326 (by decide +kernel) rfl), (x_in 1327 (by decide +kernel) rfl), (x_in 103 (by decide +kernel) rfl), (x_in 1328 (by decide +kernel) rfl), by decide, ⟨by decide +kernel, by decide +kernel, by decide +kernel⟩⟩
theorem w_4_68 : x_mw RX4 68 Lib.Math.abs.name Lib.Math.abs.code 1 := ⟨(x_in 1329 (by decide +kernel) rfl), (x_in 994 (by decide +kernel) rfl), (x_in 95 (by decide +kernel) rfl), (x_in 995 (by decide +kernel) rfl)⟩
theorem c4_diff {X : xC} {l : Launch} (hl : l.stackTraces = false) {N : Nat} {sh : xS} {D : xM} {r a : Nat} (hs : is_St N sh r a) {B : Int} (hB : B ≤ 1000000) (hk : s_ok B (D a)) {t : Int} (ht0 : 0 ≤ t) (ht1 : t < 8) {m : Nat} (hm : m < 1024) : x_M X l yX4_differenceWith cX4_differenceWith 6 (some .int) 2 0 0 [.ref (x_b X + r), .int (xI t), .int (xI m)] false N sh D (.inl (some (.int (xI (k_diff (D a) t m))))) false N sh (x_is (D)) := by
  obtain ⟨hrN, hr, haN, ha⟩ := id hs
  have htn := s_tn hk ht0 ht1
  have u1 := k_sum_in hk (k_luck (D a) m)
  have u2 := k_sum_in hk (b_sub m (k_luck (D a) m))
  refine x_ofW (by decide +kernel) hl (by simp [Value.category]) (by simp) ?_
  refine x_aload_n dX4_differenceWith_0 x_get_6_0 ?_
  refine x_iload_n dX4_differenceWith_1 x_get_6_2 ?_
  refine x_callS (As := [_, _]) dX4_differenceWith_2 w_4_21 (c4_luck hl hs hB hk hm) rfl rfl (Nat.le_of_ble_eq_true rfl) (Nat.le_of_ble_eq_true rfl) (Nat.le_of_ble_eq_true rfl) (Nat.le_of_ble_eq_true rfl) (Nat.le_of_ble_eq_true rfl) ?_
  intro d hd
  obtain rfl := Eq.symm hd
  refine x_istore_n dX4_differenceWith_5 (Nat.le_of_ble_eq_true rfl) rfl x_set_6_3 ?_
  refine x_sipush dX4_differenceWith_6 rfl ?_
  refine x_aload_n dX4_differenceWith_9 x_get_6_0 ?_
  refine x_getR dX4_differenceWith_10 fX_4_40 (by assumption) (by assumption) (by rfl) ?_
  refine x_iconst dX4_differenceWith_13 ?_
  refine x_iload_n dX4_differenceWith_14 x_get_6_1 ?_
  refine x_iadd dX4_differenceWith_15 ?_
  refine x_iald dX4_differenceWith_16 (by assumption) (by assumption) (by omega) (by omega) (by decide) ?_
  refine x_aload_n dX4_differenceWith_17 x_get_6_0 ?_
  refine x_iload_n dX4_differenceWith_18 x_get_6_3 ?_
  refine x_callS (As := [_, _]) dX4_differenceWith_19 w_4_58 (c4_sum hl hs hB hk (k_luck_lt (D a) m)) rfl rfl (Nat.le_of_ble_eq_true rfl) (Nat.le_of_ble_eq_true rfl) (Nat.le_of_ble_eq_true rfl) (Nat.le_of_ble_eq_true rfl) (Nat.le_of_ble_eq_true rfl) ?_
  intro d hd
  obtain rfl := Eq.symm hd
  refine x_iadd dX4_differenceWith_22 ?_
  refine r_min dX4_differenceWith_23 w_4_65 (by first | exact ⟨by omega, by omega⟩ | exact s_r hk hB (by omega) (by omega)) (by first | exact ⟨by omega, by omega⟩ | exact s_r hk hB (by omega) (by omega)) (Nat.le_of_ble_eq_true rfl) (Nat.le_of_ble_eq_true rfl) (Nat.le_of_ble_eq_true rfl) (Nat.le_of_ble_eq_true rfl) ?_
  refine x_istore dX4_differenceWith_26 (Nat.le_of_ble_eq_true rfl) rfl x_set_6_4 ?_
  refine x_sipush dX4_differenceWith_28 rfl ?_
  refine x_aload_n dX4_differenceWith_31 x_get_6_0 ?_
  refine x_getR dX4_differenceWith_32 fX_4_40 (by assumption) (by assumption) (by rfl) ?_
  refine x_bipush dX4_differenceWith_35 rfl ?_
  refine x_iload_n dX4_differenceWith_37 x_get_6_1 ?_
  refine x_iadd dX4_differenceWith_38 ?_
  refine x_iald dX4_differenceWith_39 (by assumption) (by assumption) (by omega) (by omega) (by decide) ?_
  refine x_aload_n dX4_differenceWith_40 x_get_6_0 ?_
  refine x_iload_n dX4_differenceWith_41 x_get_6_2 ?_
  refine x_iload_n dX4_differenceWith_42 x_get_6_3 ?_
  refine x_iconst dX4_differenceWith_43 ?_
  refine x_ixor dX4_differenceWith_44 ?_
  refine x_iand dX4_differenceWith_45 ?_
  refine x_as_is (b_not (by omega)) ?_
  refine x_callS (As := [_, _]) dX4_differenceWith_46 w_4_58 (c4_sum hl hs hB hk (Nat.lt_of_le_of_lt b_sub_le hm)) rfl rfl (Nat.le_of_ble_eq_true rfl) (Nat.le_of_ble_eq_true rfl) (Nat.le_of_ble_eq_true rfl) (Nat.le_of_ble_eq_true rfl) (Nat.le_of_ble_eq_true rfl) ?_
  intro d hd
  obtain rfl := Eq.symm hd
  refine x_iadd dX4_differenceWith_49 ?_
  refine r_min dX4_differenceWith_50 w_4_65 (by first | exact ⟨by omega, by omega⟩ | exact s_r hk hB (by omega) (by omega)) (by first | exact ⟨by omega, by omega⟩ | exact s_r hk hB (by omega) (by omega)) (Nat.le_of_ble_eq_true rfl) (Nat.le_of_ble_eq_true rfl) (Nat.le_of_ble_eq_true rfl) (Nat.le_of_ble_eq_true rfl) ?_
  refine x_istore dX4_differenceWith_53 (Nat.le_of_ble_eq_true rfl) rfl x_set_6_5 ?_
  refine x_iload dX4_differenceWith_55 x_get_6_4 ?_
  refine x_iload dX4_differenceWith_57 x_get_6_5 ?_
  refine x_isub dX4_differenceWith_59 ?_
  refine r_abs dX4_differenceWith_60 w_4_68 (by first | exact ⟨by omega, by omega⟩ | exact s_r hk hB (by omega) (by omega)) (Nat.le_of_ble_eq_true rfl) (Nat.le_of_ble_eq_true rfl) (Nat.le_of_ble_eq_true rfl) (Nat.le_of_ble_eq_true rfl) ?_
  exact x_iret dX4_differenceWith_63 rfl (Nat.le_of_ble_eq_true rfl) (Nat.le_of_ble_eq_true rfl) rfl rfl rfl rfl rfl
theorem c4_level {X : xC} {l : Launch} (hl : l.stackTraces = false) {N : Nat} {sh : xS} {D : xM} {r a : Nat} (hs : is_St N sh r a) {B : Int} (hB : B ≤ 1000000) (hk : s_ok B (D a)) {la C : Nat} (hL : is_L N sh la) (hC : D la 1 = C) (hC1 : C ≤ 10) {t : Int} (ht0 : 0 ≤ t) (ht1 : t < 8) : x_M X l yX4_toLevel cX4_toLevel 9 (some .int) 4 0 0 [.ref (x_b X + la), .ref (x_b X + r), .int (xI t)] false N sh D (.inl (some (.int (xI ((((k_lev (D a) t (s_bits (fun c => s_in (D a) t c) C) (2 ^ C)).1 : Nat) : Int)))))) false N sh (x_is (D)) := by
  obtain ⟨hrN, hr, haN, ha⟩ := id hs
  obtain ⟨hlaN0, hla, -⟩ := id hL
  have hlaN : la < N := by omega
  obtain ⟨P, hP⟩ : ∃ P : Nat, P = 2 ^ C := ⟨_, rfl⟩
  have h2C : P ≤ 1024 := hP ▸ b_2C hC1
  have hsh : x_sl 1 (C : Int) = (P : Int) := by rw [hP]; exact b_shl hC1
  have hth : (s_bits (fun c => s_in (D a) t c) C) < 1024 := s_bits_10 hC1
  rw [← hP]
  refine x_ofW (by decide +kernel) hl (by simp [Value.category]) (by simp) ?_
  have hloop : ∀ i : Nat, i ≤ P → x_W (X, l, yX4_toLevel, cX4_toLevel, 9, some .int, x_room 4 0 0, 0, 0, (.inl (some (.int (xI ((((k_lev (D a) t (s_bits (fun c => s_in (D a) t c) C) P).1 : Nat) : Int)))))), N, sh, (x_is (D)), false, []) 24 [some (.ref (x_b X + la)), some (.ref (x_b X + r)), some (.int (xI t)), some (.int (xI (((k_lev (D a) t (s_bits (fun c => s_in (D a) t c) C) i).1 : Nat) : Int))), some (.int (xI (k_lev (D a) t (s_bits (fun c => s_in (D a) t c) C) i).2)), some (.int (xI (((s_bits (fun c => s_in (D a) t c) C) : Nat) : Int))), some (.int (xI i)), none, none] [] 0 0 false N sh D := by
    refine x_down P ?_ ?_
    · refine x_iload dX4_toLevel_24 x_get_9_6 ?_
      refine x_iconst dX4_toLevel_26 ?_
      refine x_aload_n dX4_toLevel_27 x_get_9_0 ?_
      refine x_getI 1 dX4_toLevel_28 fX_4_9 rfl (by assumption) (by assumption) (by rfl) ?_
      rw [hC]
      refine x_ishl dX4_toLevel_31 ?_
      refine x_as_is hsh ?_
      refine r_icmp_ge (t := 105) dX4_toLevel_32 rfl ⟨by omega, by omega⟩ ⟨by omega, by omega⟩ (fun hc32 => ?_) (fun hc32 => absurd hc32 (by omega))
      refine x_iload_n dX4_toLevel_105 x_get_9_3 ?_
      exact x_iret dX4_toLevel_106 rfl (Nat.le_of_ble_eq_true rfl) (Nat.le_of_ble_eq_true rfl) rfl rfl rfl rfl rfl
    · intro i hi ih
      have hin := k_lev_in hk ht0 ht1 (s_bits (fun c => s_in (D a) t c) C) i (by omega)
      have hdi := k_diff_in hk ht0 ht1 i
      have hbs : b_sub i (s_bits (fun c => s_in (D a) t c) C) ≤ i := b_sub_le
      have hp1 := s_pop_le i (by omega)
      have hp2 := s_pop_le (k_lev (D a) t (s_bits (fun c => s_in (D a) t c) C) i).1 hin.1
      rw [k_lev_s] at ih
      refine x_iload dX4_toLevel_24 x_get_9_6 ?_
      refine x_iconst dX4_toLevel_26 ?_
      refine x_aload_n dX4_toLevel_27 x_get_9_0 ?_
      refine x_getI 1 dX4_toLevel_28 fX_4_9 rfl (by assumption) (by assumption) (by rfl) ?_
      rw [hC]
      refine x_ishl dX4_toLevel_31 ?_
      refine x_as_is hsh ?_
      refine r_icmp_ge (t := 105) dX4_toLevel_32 rfl (by first | exact ⟨by omega, by omega⟩ | exact s_r hk hB (by omega) (by omega)) (by first | exact ⟨by omega, by omega⟩ | exact s_r hk hB (by omega) (by omega)) (fun hc32 => absurd hc32 (by omega)) (fun hc32 => ?_)
      refine x_iload dX4_toLevel_35 x_get_9_6 ?_
      refine x_iload dX4_toLevel_37 x_get_9_5 ?_
      refine x_iconst dX4_toLevel_39 ?_
      refine x_ixor dX4_toLevel_40 ?_
      refine x_iand dX4_toLevel_41 ?_
      refine x_as_is (b_not (by omega)) ?_
      refine r_if_ne (t := 99) dX4_toLevel_42 rfl (by first | exact ⟨by omega, by omega⟩ | exact s_r hk hB (by omega) (by omega)) (fun hc42 => ?_) (fun hc42 => ?_)
      · refine x_iinc dX4_toLevel_99 x_get_9_6 (Nat.le_of_ble_eq_true rfl) rfl x_set_9_6 ?_
        refine x_goto (t := 24) dX4_toLevel_102 rfl ?_
        refine x_forget 7 (x_forget 8 ?_)
        first | (rw [if_pos (by omega)] at ih; exact ih) | (rw [if_neg (by omega)] at ih; exact ih)
      · refine x_aload_n dX4_toLevel_45 x_get_9_1 ?_
        refine x_iload_n dX4_toLevel_46 x_get_9_2 ?_
        refine x_iload dX4_toLevel_47 x_get_9_6 ?_
        refine x_callS (As := [_, _, _]) dX4_toLevel_49 w_4_61 (c4_diff hl hs hB hk ht0 ht1 (by omega)) rfl rfl (Nat.le_of_ble_eq_true rfl) (Nat.le_of_ble_eq_true rfl) (Nat.le_of_ble_eq_true rfl) (Nat.le_of_ble_eq_true rfl) (Nat.le_of_ble_eq_true rfl) ?_
        intro d hd
        obtain rfl := Eq.symm hd
        refine x_istore dX4_toLevel_52 (Nat.le_of_ble_eq_true rfl) rfl x_set_9_7 ?_
        refine x_iload dX4_toLevel_54 x_get_9_6 ?_
        refine x_callS (As := [_]) dX4_toLevel_56 w_4_27 (cJ_bitCount hl (m := i) (by omega)) rfl rfl (Nat.le_of_ble_eq_true rfl) (Nat.le_of_ble_eq_true rfl) (Nat.le_of_ble_eq_true rfl) (Nat.le_of_ble_eq_true rfl) (Nat.le_of_ble_eq_true rfl) ?_
        intro d hd
        obtain rfl := Eq.symm hd
        refine x_iload_n dX4_toLevel_59 x_get_9_3 ?_
        refine x_callS (As := [_]) dX4_toLevel_60 w_4_27 (cJ_bitCount hl hin.1) rfl rfl (Nat.le_of_ble_eq_true rfl) (Nat.le_of_ble_eq_true rfl) (Nat.le_of_ble_eq_true rfl) (Nat.le_of_ble_eq_true rfl) (Nat.le_of_ble_eq_true rfl) ?_
        intro d hd
        obtain rfl := Eq.symm hd
        refine r_icmp_ge (t := 70) dX4_toLevel_63 rfl (by first | exact ⟨by omega, by omega⟩ | exact s_r hk hB (by omega) (by omega)) (by first | exact ⟨by omega, by omega⟩ | exact s_r hk hB (by omega) (by omega)) (fun hc63 => ?_) (fun hc63 => ?_)
        · refine x_iconst dX4_toLevel_70 ?_
          refine x_istore dX4_toLevel_71 (Nat.le_of_ble_eq_true rfl) rfl x_set_9_8 ?_
          refine x_iload dX4_toLevel_73 x_get_9_7 ?_
          refine x_iload dX4_toLevel_75 x_get_9_4 ?_
          refine r_icmp_lt (t := 92) dX4_toLevel_77 rfl (by first | exact ⟨by omega, by omega⟩ | exact s_r hk hB (by omega) (by omega)) (by first | exact ⟨by omega, by omega⟩ | exact s_r hk hB (by omega) (by omega)) (fun hc77 => ?_) (fun hc77 => ?_)
          · refine x_iload dX4_toLevel_92 x_get_9_6 ?_
            refine x_istore_n dX4_toLevel_94 (Nat.le_of_ble_eq_true rfl) rfl x_set_9_3 ?_
            refine x_iload dX4_toLevel_95 x_get_9_7 ?_
            refine x_istore dX4_toLevel_97 (Nat.le_of_ble_eq_true rfl) rfl x_set_9_4 ?_
            refine x_iinc dX4_toLevel_99 x_get_9_6 (Nat.le_of_ble_eq_true rfl) rfl x_set_9_6 ?_
            refine x_goto (t := 24) dX4_toLevel_102 rfl ?_
            refine x_forget 7 (x_forget 8 ?_)
            first | (rw [if_pos (by omega)] at ih; exact ih) | (rw [if_neg (by omega)] at ih; exact ih)
          · refine x_iload dX4_toLevel_80 x_get_9_7 ?_
            refine x_iload dX4_toLevel_82 x_get_9_4 ?_
            refine r_icmp_ne (t := 99) dX4_toLevel_84 rfl (by first | exact ⟨by omega, by omega⟩ | exact s_r hk hB (by omega) (by omega)) (by first | exact ⟨by omega, by omega⟩ | exact s_r hk hB (by omega) (by omega)) (fun hc84 => ?_) (fun hc84 => ?_)
            · refine x_iinc dX4_toLevel_99 x_get_9_6 (Nat.le_of_ble_eq_true rfl) rfl x_set_9_6 ?_
              refine x_goto (t := 24) dX4_toLevel_102 rfl ?_
              refine x_forget 7 (x_forget 8 ?_)
              first | (rw [if_pos (by omega)] at ih; exact ih) | (rw [if_neg (by omega)] at ih; exact ih)
            · refine x_iload dX4_toLevel_87 x_get_9_8 ?_
              refine r_if_eq (t := 99) dX4_toLevel_89 rfl (by first | exact ⟨by omega, by omega⟩ | exact s_r hk hB (by omega) (by omega)) (fun hc89 => ?_) (fun hc89 => ?_)
              · refine x_iinc dX4_toLevel_99 x_get_9_6 (Nat.le_of_ble_eq_true rfl) rfl x_set_9_6 ?_
                refine x_goto (t := 24) dX4_toLevel_102 rfl ?_
                refine x_forget 7 (x_forget 8 ?_)
                first | (rw [if_pos (by omega)] at ih; exact ih) | (rw [if_neg (by omega)] at ih; exact ih)
              · refine x_iload dX4_toLevel_92 x_get_9_6 ?_
                refine x_istore_n dX4_toLevel_94 (Nat.le_of_ble_eq_true rfl) rfl x_set_9_3 ?_
                refine x_iload dX4_toLevel_95 x_get_9_7 ?_
                refine x_istore dX4_toLevel_97 (Nat.le_of_ble_eq_true rfl) rfl x_set_9_4 ?_
                refine x_iinc dX4_toLevel_99 x_get_9_6 (Nat.le_of_ble_eq_true rfl) rfl x_set_9_6 ?_
                refine x_goto (t := 24) dX4_toLevel_102 rfl ?_
                refine x_forget 7 (x_forget 8 ?_)
                first | (rw [if_pos (by omega)] at ih; exact ih) | (rw [if_neg (by omega)] at ih; exact ih)
        · refine x_iconst dX4_toLevel_66 ?_
          refine x_goto (t := 71) dX4_toLevel_67 rfl ?_
          refine x_istore dX4_toLevel_71 (Nat.le_of_ble_eq_true rfl) rfl x_set_9_8 ?_
          refine x_iload dX4_toLevel_73 x_get_9_7 ?_
          refine x_iload dX4_toLevel_75 x_get_9_4 ?_
          refine r_icmp_lt (t := 92) dX4_toLevel_77 rfl (by first | exact ⟨by omega, by omega⟩ | exact s_r hk hB (by omega) (by omega)) (by first | exact ⟨by omega, by omega⟩ | exact s_r hk hB (by omega) (by omega)) (fun hc77 => ?_) (fun hc77 => ?_)
          · refine x_iload dX4_toLevel_92 x_get_9_6 ?_
            refine x_istore_n dX4_toLevel_94 (Nat.le_of_ble_eq_true rfl) rfl x_set_9_3 ?_
            refine x_iload dX4_toLevel_95 x_get_9_7 ?_
            refine x_istore dX4_toLevel_97 (Nat.le_of_ble_eq_true rfl) rfl x_set_9_4 ?_
            refine x_iinc dX4_toLevel_99 x_get_9_6 (Nat.le_of_ble_eq_true rfl) rfl x_set_9_6 ?_
            refine x_goto (t := 24) dX4_toLevel_102 rfl ?_
            refine x_forget 7 (x_forget 8 ?_)
            first | (rw [if_pos (by omega)] at ih; exact ih) | (rw [if_neg (by omega)] at ih; exact ih)
          · refine x_iload dX4_toLevel_80 x_get_9_7 ?_
            refine x_iload dX4_toLevel_82 x_get_9_4 ?_
            refine r_icmp_ne (t := 99) dX4_toLevel_84 rfl (by first | exact ⟨by omega, by omega⟩ | exact s_r hk hB (by omega) (by omega)) (by first | exact ⟨by omega, by omega⟩ | exact s_r hk hB (by omega) (by omega)) (fun hc84 => ?_) (fun hc84 => ?_)
            · refine x_iinc dX4_toLevel_99 x_get_9_6 (Nat.le_of_ble_eq_true rfl) rfl x_set_9_6 ?_
              refine x_goto (t := 24) dX4_toLevel_102 rfl ?_
              refine x_forget 7 (x_forget 8 ?_)
              first | (rw [if_pos (by omega)] at ih; exact ih) | (rw [if_neg (by omega)] at ih; exact ih)
            · refine x_iload dX4_toLevel_87 x_get_9_8 ?_
              refine r_if_eq (t := 99) dX4_toLevel_89 rfl (by first | exact ⟨by omega, by omega⟩ | exact s_r hk hB (by omega) (by omega)) (fun hc89 => ?_) (fun hc89 => ?_)
              · refine x_iinc dX4_toLevel_99 x_get_9_6 (Nat.le_of_ble_eq_true rfl) rfl x_set_9_6 ?_
                refine x_goto (t := 24) dX4_toLevel_102 rfl ?_
                refine x_forget 7 (x_forget 8 ?_)
                first | (rw [if_pos (by omega)] at ih; exact ih) | (rw [if_neg (by omega)] at ih; exact ih)
              · refine x_iload dX4_toLevel_92 x_get_9_6 ?_
                refine x_istore_n dX4_toLevel_94 (Nat.le_of_ble_eq_true rfl) rfl x_set_9_3 ?_
                refine x_iload dX4_toLevel_95 x_get_9_7 ?_
                refine x_istore dX4_toLevel_97 (Nat.le_of_ble_eq_true rfl) rfl x_set_9_4 ?_
                refine x_iinc dX4_toLevel_99 x_get_9_6 (Nat.le_of_ble_eq_true rfl) rfl x_set_9_6 ?_
                refine x_goto (t := 24) dX4_toLevel_102 rfl ?_
                refine x_forget 7 (x_forget 8 ?_)
                first | (rw [if_pos (by omega)] at ih; exact ih) | (rw [if_neg (by omega)] at ih; exact ih)
  refine x_iconst dX4_toLevel_0 ?_
  refine x_istore_n dX4_toLevel_1 (Nat.le_of_ble_eq_true rfl) rfl x_set_9_3 ?_
  refine x_aload_n dX4_toLevel_2 x_get_9_1 ?_
  refine x_iload_n dX4_toLevel_3 x_get_9_2 ?_
  refine x_iconst dX4_toLevel_4 ?_
  refine x_callS (As := [_, _, _]) dX4_toLevel_5 w_4_61 (c4_diff hl hs hB hk ht0 ht1 (m := 0) (by decide)) rfl rfl (Nat.le_of_ble_eq_true rfl) (Nat.le_of_ble_eq_true rfl) (Nat.le_of_ble_eq_true rfl) (Nat.le_of_ble_eq_true rfl) (Nat.le_of_ble_eq_true rfl) ?_
  intro d hd
  obtain rfl := Eq.symm hd
  refine x_istore dX4_toLevel_8 (Nat.le_of_ble_eq_true rfl) rfl x_set_9_4 ?_
  refine x_aload_n dX4_toLevel_10 x_get_9_1 ?_
  refine x_aload_n dX4_toLevel_11 x_get_9_0 ?_
  refine x_getI 1 dX4_toLevel_12 fX_4_9 rfl (by assumption) (by assumption) (by rfl) ?_
  rw [hC]
  refine x_iload_n dX4_toLevel_15 x_get_9_2 ?_
  refine x_callV (As := [_, _]) dX4_toLevel_16 w_4_55 (c9_bitsIn hl hs hB hk hC1 ⟨by omega, by omega⟩) (by assumption) (by assumption) rfl rfl (Nat.le_of_ble_eq_true rfl) (Nat.le_of_ble_eq_true rfl) (Nat.le_of_ble_eq_true rfl) (Nat.le_of_ble_eq_true rfl) (Nat.le_of_ble_eq_true rfl) ?_
  intro d hd
  obtain rfl := Eq.symm hd
  refine x_istore dX4_toLevel_19 (Nat.le_of_ble_eq_true rfl) rfl x_set_9_5 ?_
  refine x_iconst dX4_toLevel_21 ?_
  refine x_istore dX4_toLevel_22 (Nat.le_of_ble_eq_true rfl) rfl x_set_9_6 ?_
  exact hloop 0 (Nat.zero_le _)
theorem c4_steal {X : xC} {l : Launch} (hl : l.stackTraces = false) {N : Nat} {sh : xS} {D : xM} {r a : Nat} (hs : is_St N sh r a) {B : Int} (hB : B ≤ 1000000) (hk : s_ok B (D a)) {la C : Nat} (hL : is_L N sh la) (hC : D la 1 = C) (hC1 : C ≤ 10) {t : Int} (ht0 : 0 ≤ t) (ht1 : t < 8) {ca : Int} (hca : x_r ca) : x_M X l yX4_toSteal cX4_toSteal 10 (some .int) 4 0 0 [.ref (x_b X + la), .ref (x_b X + r), .int (xI t), .int (xI ca)] false N sh D (.inl (some (.int (xI ((((k_stl (D a) ca (k_luck (D a) (s_bits (fun c => s_in (D a) t c) C)) (2 ^ C)).1 : Nat) : Int)))))) false N sh (x_is (D)) := by
  obtain ⟨hrN, hr, haN, ha⟩ := id hs
  obtain ⟨hlaN0, hla, -⟩ := id hL
  have hlaN : la < N := by omega
  obtain ⟨P, hP⟩ : ∃ P : Nat, P = 2 ^ C := ⟨_, rfl⟩
  have h2C : P ≤ 1024 := hP ▸ b_2C hC1
  have hsh : x_sl 1 (C : Int) = (P : Int) := by rw [hP]; exact b_shl hC1
  have hth0 : s_bits (fun c => s_in (D a) t c) C < 1024 := s_bits_10 hC1
  have hth : (k_luck (D a) (s_bits (fun c => s_in (D a) t c) C)) < 1024 := k_luck_lt _ _
  obtain ⟨hca0, hca1⟩ := id hca
  rw [← hP]
  refine x_ofW (by decide +kernel) hl (by simp [Value.category]) (by simp) ?_
  have hloop : ∀ i : Nat, i ≤ P → x_W (X, l, yX4_toSteal, cX4_toSteal, 10, some .int, x_room 4 0 0, 0, 0, (.inl (some (.int (xI ((((k_stl (D a) ca (k_luck (D a) (s_bits (fun c => s_in (D a) t c) C)) P).1 : Nat) : Int)))))), N, sh, (x_is (D)), false, []) 24 [some (.ref (x_b X + la)), some (.ref (x_b X + r)), some (.int (xI t)), some (.int (xI ca)), some (.int (xI (((k_stl (D a) ca (k_luck (D a) (s_bits (fun c => s_in (D a) t c) C)) i).1 : Nat) : Int))), some (.int (xI (k_stl (D a) ca (k_luck (D a) (s_bits (fun c => s_in (D a) t c) C)) i).2)), some (.int (xI (((k_luck (D a) (s_bits (fun c => s_in (D a) t c) C)) : Nat) : Int))), some (.int (xI i)), none, none] [] 0 0 false N sh D := by
    refine x_down P ?_ ?_
    · refine x_iload dX4_toSteal_24 x_get_10_7 ?_
      refine x_iconst dX4_toSteal_26 ?_
      refine x_aload_n dX4_toSteal_27 x_get_10_0 ?_
      refine x_getI 1 dX4_toSteal_28 fX_4_9 rfl (by assumption) (by assumption) (by rfl) ?_
      rw [hC]
      refine x_ishl dX4_toSteal_31 ?_
      refine x_as_is hsh ?_
      refine r_icmp_ge (t := 112) dX4_toSteal_32 rfl ⟨by omega, by omega⟩ ⟨by omega, by omega⟩ (fun hc32 => ?_) (fun hc32 => absurd hc32 (by omega))
      refine x_iload dX4_toSteal_112 x_get_10_4 ?_
      exact x_iret dX4_toSteal_114 rfl (Nat.le_of_ble_eq_true rfl) (Nat.le_of_ble_eq_true rfl) rfl rfl rfl rfl rfl
    · intro i hi ih
      have hin := k_stl_in hk ca (k_luck (D a) (s_bits (fun c => s_in (D a) t c) C)) i (by omega)
      have hdi := k_sum_in hk i
      have hbs : b_sub i (k_luck (D a) (s_bits (fun c => s_in (D a) t c) C)) ≤ i := b_sub_le
      have hp1 := s_pop_le i (by omega)
      have hp2 := s_pop_le (k_stl (D a) ca (k_luck (D a) (s_bits (fun c => s_in (D a) t c) C)) i).1 hin.1
      rw [k_stl_s] at ih
      refine x_iload dX4_toSteal_24 x_get_10_7 ?_
      refine x_iconst dX4_toSteal_26 ?_
      refine x_aload_n dX4_toSteal_27 x_get_10_0 ?_
      refine x_getI 1 dX4_toSteal_28 fX_4_9 rfl (by assumption) (by assumption) (by rfl) ?_
      rw [hC]
      refine x_ishl dX4_toSteal_31 ?_
      refine x_as_is hsh ?_
      refine r_icmp_ge (t := 112) dX4_toSteal_32 rfl (by first | exact ⟨by omega, by omega⟩ | exact s_r hk hB (by omega) (by omega)) (by first | exact ⟨by omega, by omega⟩ | exact s_r hk hB (by omega) (by omega)) (fun hc32 => absurd hc32 (by omega)) (fun hc32 => ?_)
      refine x_iload dX4_toSteal_35 x_get_10_7 ?_
      refine x_iload dX4_toSteal_37 x_get_10_6 ?_
      refine x_iconst dX4_toSteal_39 ?_
      refine x_ixor dX4_toSteal_40 ?_
      refine x_iand dX4_toSteal_41 ?_
      refine x_as_is (b_not (by omega)) ?_
      refine r_if_ne (t := 106) dX4_toSteal_42 rfl (by first | exact ⟨by omega, by omega⟩ | exact s_r hk hB (by omega) (by omega)) (fun hc42 => ?_) (fun hc42 => ?_)
      · refine x_iinc dX4_toSteal_106 x_get_10_7 (Nat.le_of_ble_eq_true rfl) rfl x_set_10_7 ?_
        refine x_goto (t := 24) dX4_toSteal_109 rfl ?_
        refine x_forget 8 (x_forget 9 ?_)
        first | (rw [if_pos (by omega)] at ih; exact ih) | (rw [if_neg (by omega)] at ih; exact ih)
      · refine x_aload_n dX4_toSteal_45 x_get_10_1 ?_
        refine x_iload dX4_toSteal_46 x_get_10_7 ?_
        refine x_callS (As := [_, _]) dX4_toSteal_48 w_4_58 (c4_sum hl hs hB hk (by omega)) rfl rfl (Nat.le_of_ble_eq_true rfl) (Nat.le_of_ble_eq_true rfl) (Nat.le_of_ble_eq_true rfl) (Nat.le_of_ble_eq_true rfl) (Nat.le_of_ble_eq_true rfl) ?_
        intro d hd
        obtain rfl := Eq.symm hd
        refine x_istore dX4_toSteal_51 (Nat.le_of_ble_eq_true rfl) rfl x_set_10_8 ?_
        refine x_iload dX4_toSteal_53 x_get_10_7 ?_
        refine x_callS (As := [_]) dX4_toSteal_55 w_4_27 (cJ_bitCount hl (m := i) (by omega)) rfl rfl (Nat.le_of_ble_eq_true rfl) (Nat.le_of_ble_eq_true rfl) (Nat.le_of_ble_eq_true rfl) (Nat.le_of_ble_eq_true rfl) (Nat.le_of_ble_eq_true rfl) ?_
        intro d hd
        obtain rfl := Eq.symm hd
        refine x_iload dX4_toSteal_58 x_get_10_4 ?_
        refine x_callS (As := [_]) dX4_toSteal_60 w_4_27 (cJ_bitCount hl hin.1) rfl rfl (Nat.le_of_ble_eq_true rfl) (Nat.le_of_ble_eq_true rfl) (Nat.le_of_ble_eq_true rfl) (Nat.le_of_ble_eq_true rfl) (Nat.le_of_ble_eq_true rfl) ?_
        intro d hd
        obtain rfl := Eq.symm hd
        refine r_icmp_ge (t := 70) dX4_toSteal_63 rfl (by first | exact ⟨by omega, by omega⟩ | exact s_r hk hB (by omega) (by omega)) (by first | exact ⟨by omega, by omega⟩ | exact s_r hk hB (by omega) (by omega)) (fun hc63 => ?_) (fun hc63 => ?_)
        · refine x_iconst dX4_toSteal_70 ?_
          refine x_istore dX4_toSteal_71 (Nat.le_of_ble_eq_true rfl) rfl x_set_10_9 ?_
          refine x_iload dX4_toSteal_73 x_get_10_8 ?_
          refine x_iload_n dX4_toSteal_75 x_get_10_3 ?_
          refine r_icmp_gt (t := 106) dX4_toSteal_76 rfl (by first | exact ⟨by omega, by omega⟩ | exact s_r hk hB (by omega) (by omega)) (by first | exact ⟨by omega, by omega⟩ | exact s_r hk hB (by omega) (by omega)) (fun hc76 => ?_) (fun hc76 => ?_)
          · refine x_iinc dX4_toSteal_106 x_get_10_7 (Nat.le_of_ble_eq_true rfl) rfl x_set_10_7 ?_
            refine x_goto (t := 24) dX4_toSteal_109 rfl ?_
            refine x_forget 8 (x_forget 9 ?_)
            first | (rw [if_pos (by omega)] at ih; exact ih) | (rw [if_neg (by omega)] at ih; exact ih)
          · refine x_iload dX4_toSteal_79 x_get_10_8 ?_
            refine x_iload dX4_toSteal_81 x_get_10_5 ?_
            refine r_icmp_gt (t := 98) dX4_toSteal_83 rfl (by first | exact ⟨by omega, by omega⟩ | exact s_r hk hB (by omega) (by omega)) (by first | exact ⟨by omega, by omega⟩ | exact s_r hk hB (by omega) (by omega)) (fun hc83 => ?_) (fun hc83 => ?_)
            · refine x_iload dX4_toSteal_98 x_get_10_7 ?_
              refine x_istore dX4_toSteal_100 (Nat.le_of_ble_eq_true rfl) rfl x_set_10_4 ?_
              refine x_iload dX4_toSteal_102 x_get_10_8 ?_
              refine x_istore dX4_toSteal_104 (Nat.le_of_ble_eq_true rfl) rfl x_set_10_5 ?_
              refine x_iinc dX4_toSteal_106 x_get_10_7 (Nat.le_of_ble_eq_true rfl) rfl x_set_10_7 ?_
              refine x_goto (t := 24) dX4_toSteal_109 rfl ?_
              refine x_forget 8 (x_forget 9 ?_)
              first | (rw [if_pos (by omega)] at ih; exact ih) | (rw [if_neg (by omega)] at ih; exact ih)
            · refine x_iload dX4_toSteal_86 x_get_10_8 ?_
              refine x_iload dX4_toSteal_88 x_get_10_5 ?_
              refine r_icmp_ne (t := 106) dX4_toSteal_90 rfl (by first | exact ⟨by omega, by omega⟩ | exact s_r hk hB (by omega) (by omega)) (by first | exact ⟨by omega, by omega⟩ | exact s_r hk hB (by omega) (by omega)) (fun hc90 => ?_) (fun hc90 => ?_)
              · refine x_iinc dX4_toSteal_106 x_get_10_7 (Nat.le_of_ble_eq_true rfl) rfl x_set_10_7 ?_
                refine x_goto (t := 24) dX4_toSteal_109 rfl ?_
                refine x_forget 8 (x_forget 9 ?_)
                first | (rw [if_pos (by omega)] at ih; exact ih) | (rw [if_neg (by omega)] at ih; exact ih)
              · refine x_iload dX4_toSteal_93 x_get_10_9 ?_
                refine r_if_eq (t := 106) dX4_toSteal_95 rfl (by first | exact ⟨by omega, by omega⟩ | exact s_r hk hB (by omega) (by omega)) (fun hc95 => ?_) (fun hc95 => ?_)
                · refine x_iinc dX4_toSteal_106 x_get_10_7 (Nat.le_of_ble_eq_true rfl) rfl x_set_10_7 ?_
                  refine x_goto (t := 24) dX4_toSteal_109 rfl ?_
                  refine x_forget 8 (x_forget 9 ?_)
                  first | (rw [if_pos (by omega)] at ih; exact ih) | (rw [if_neg (by omega)] at ih; exact ih)
                · refine x_iload dX4_toSteal_98 x_get_10_7 ?_
                  refine x_istore dX4_toSteal_100 (Nat.le_of_ble_eq_true rfl) rfl x_set_10_4 ?_
                  refine x_iload dX4_toSteal_102 x_get_10_8 ?_
                  refine x_istore dX4_toSteal_104 (Nat.le_of_ble_eq_true rfl) rfl x_set_10_5 ?_
                  refine x_iinc dX4_toSteal_106 x_get_10_7 (Nat.le_of_ble_eq_true rfl) rfl x_set_10_7 ?_
                  refine x_goto (t := 24) dX4_toSteal_109 rfl ?_
                  refine x_forget 8 (x_forget 9 ?_)
                  first | (rw [if_pos (by omega)] at ih; exact ih) | (rw [if_neg (by omega)] at ih; exact ih)
        · refine x_iconst dX4_toSteal_66 ?_
          refine x_goto (t := 71) dX4_toSteal_67 rfl ?_
          refine x_istore dX4_toSteal_71 (Nat.le_of_ble_eq_true rfl) rfl x_set_10_9 ?_
          refine x_iload dX4_toSteal_73 x_get_10_8 ?_
          refine x_iload_n dX4_toSteal_75 x_get_10_3 ?_
          refine r_icmp_gt (t := 106) dX4_toSteal_76 rfl (by first | exact ⟨by omega, by omega⟩ | exact s_r hk hB (by omega) (by omega)) (by first | exact ⟨by omega, by omega⟩ | exact s_r hk hB (by omega) (by omega)) (fun hc76 => ?_) (fun hc76 => ?_)
          · refine x_iinc dX4_toSteal_106 x_get_10_7 (Nat.le_of_ble_eq_true rfl) rfl x_set_10_7 ?_
            refine x_goto (t := 24) dX4_toSteal_109 rfl ?_
            refine x_forget 8 (x_forget 9 ?_)
            first | (rw [if_pos (by omega)] at ih; exact ih) | (rw [if_neg (by omega)] at ih; exact ih)
          · refine x_iload dX4_toSteal_79 x_get_10_8 ?_
            refine x_iload dX4_toSteal_81 x_get_10_5 ?_
            refine r_icmp_gt (t := 98) dX4_toSteal_83 rfl (by first | exact ⟨by omega, by omega⟩ | exact s_r hk hB (by omega) (by omega)) (by first | exact ⟨by omega, by omega⟩ | exact s_r hk hB (by omega) (by omega)) (fun hc83 => ?_) (fun hc83 => ?_)
            · refine x_iload dX4_toSteal_98 x_get_10_7 ?_
              refine x_istore dX4_toSteal_100 (Nat.le_of_ble_eq_true rfl) rfl x_set_10_4 ?_
              refine x_iload dX4_toSteal_102 x_get_10_8 ?_
              refine x_istore dX4_toSteal_104 (Nat.le_of_ble_eq_true rfl) rfl x_set_10_5 ?_
              refine x_iinc dX4_toSteal_106 x_get_10_7 (Nat.le_of_ble_eq_true rfl) rfl x_set_10_7 ?_
              refine x_goto (t := 24) dX4_toSteal_109 rfl ?_
              refine x_forget 8 (x_forget 9 ?_)
              first | (rw [if_pos (by omega)] at ih; exact ih) | (rw [if_neg (by omega)] at ih; exact ih)
            · refine x_iload dX4_toSteal_86 x_get_10_8 ?_
              refine x_iload dX4_toSteal_88 x_get_10_5 ?_
              refine r_icmp_ne (t := 106) dX4_toSteal_90 rfl (by first | exact ⟨by omega, by omega⟩ | exact s_r hk hB (by omega) (by omega)) (by first | exact ⟨by omega, by omega⟩ | exact s_r hk hB (by omega) (by omega)) (fun hc90 => ?_) (fun hc90 => ?_)
              · refine x_iinc dX4_toSteal_106 x_get_10_7 (Nat.le_of_ble_eq_true rfl) rfl x_set_10_7 ?_
                refine x_goto (t := 24) dX4_toSteal_109 rfl ?_
                refine x_forget 8 (x_forget 9 ?_)
                first | (rw [if_pos (by omega)] at ih; exact ih) | (rw [if_neg (by omega)] at ih; exact ih)
              · refine x_iload dX4_toSteal_93 x_get_10_9 ?_
                refine r_if_eq (t := 106) dX4_toSteal_95 rfl (by first | exact ⟨by omega, by omega⟩ | exact s_r hk hB (by omega) (by omega)) (fun hc95 => ?_) (fun hc95 => ?_)
                · refine x_iinc dX4_toSteal_106 x_get_10_7 (Nat.le_of_ble_eq_true rfl) rfl x_set_10_7 ?_
                  refine x_goto (t := 24) dX4_toSteal_109 rfl ?_
                  refine x_forget 8 (x_forget 9 ?_)
                  first | (rw [if_pos (by omega)] at ih; exact ih) | (rw [if_neg (by omega)] at ih; exact ih)
                · refine x_iload dX4_toSteal_98 x_get_10_7 ?_
                  refine x_istore dX4_toSteal_100 (Nat.le_of_ble_eq_true rfl) rfl x_set_10_4 ?_
                  refine x_iload dX4_toSteal_102 x_get_10_8 ?_
                  refine x_istore dX4_toSteal_104 (Nat.le_of_ble_eq_true rfl) rfl x_set_10_5 ?_
                  refine x_iinc dX4_toSteal_106 x_get_10_7 (Nat.le_of_ble_eq_true rfl) rfl x_set_10_7 ?_
                  refine x_goto (t := 24) dX4_toSteal_109 rfl ?_
                  refine x_forget 8 (x_forget 9 ?_)
                  first | (rw [if_pos (by omega)] at ih; exact ih) | (rw [if_neg (by omega)] at ih; exact ih)
  refine x_iconst dX4_toSteal_0 ?_
  refine x_istore dX4_toSteal_1 (Nat.le_of_ble_eq_true rfl) rfl x_set_10_4 ?_
  refine x_iconst dX4_toSteal_3 ?_
  refine x_istore dX4_toSteal_4 (Nat.le_of_ble_eq_true rfl) rfl x_set_10_5 ?_
  refine x_aload_n dX4_toSteal_6 x_get_10_1 ?_
  refine x_aload_n dX4_toSteal_7 x_get_10_1 ?_
  refine x_aload_n dX4_toSteal_8 x_get_10_0 ?_
  refine x_getI 1 dX4_toSteal_9 fX_4_9 rfl (by assumption) (by assumption) (by rfl) ?_
  rw [hC]
  refine x_iload_n dX4_toSteal_12 x_get_10_2 ?_
  refine x_callV (As := [_, _]) dX4_toSteal_13 w_4_55 (c9_bitsIn hl hs hB hk hC1 ⟨by omega, by omega⟩) (by assumption) (by assumption) rfl rfl (Nat.le_of_ble_eq_true rfl) (Nat.le_of_ble_eq_true rfl) (Nat.le_of_ble_eq_true rfl) (Nat.le_of_ble_eq_true rfl) (Nat.le_of_ble_eq_true rfl) ?_
  intro d hd
  obtain rfl := Eq.symm hd
  refine x_callS (As := [_, _]) dX4_toSteal_16 w_4_21 (c4_luck hl hs hB hk hth0) rfl rfl (Nat.le_of_ble_eq_true rfl) (Nat.le_of_ble_eq_true rfl) (Nat.le_of_ble_eq_true rfl) (Nat.le_of_ble_eq_true rfl) (Nat.le_of_ble_eq_true rfl) ?_
  intro d hd
  obtain rfl := Eq.symm hd
  refine x_istore dX4_toSteal_19 (Nat.le_of_ble_eq_true rfl) rfl x_set_10_6 ?_
  refine x_iconst dX4_toSteal_21 ?_
  refine x_istore dX4_toSteal_22 (Nat.le_of_ble_eq_true rfl) rfl x_set_10_7 ?_
  exact hloop 0 (Nat.zero_le _)
theorem c4_at {X : xC} {l : Launch} (hl : l.stackTraces = false) {N : Nat} {sh : xS} {D : xM} {r a : Nat} (hs : is_St N sh r a) {B : Int} (hB : B ≤ 1000000) (hk : s_ok B (D a)) {la C : Nat} (hL : is_L N sh la) (hC : D la 1 = C) (hC1 : C ≤ 10) {W T : Nat} (hrd : rd D (la + 3) W T) {t : Int} (ht0 : 0 ≤ t) (ht1 : t < 8) {m : Nat} (hm : m < 1024) (hpl : ∀ c : Nat, c < C → m.testBit c = true → 0 ≤ D a (55 + c)) : x_M X l yX4_grainsAt cX4_grainsAt 8 (some .int) 2 0 0 [.ref (x_b X + la), .ref (x_b X + r), .int (xI t), .int (xI m)] false N sh D (.inl (some (.int (xI (k_at (D a) (D (la + 3 + 6)) t m C))))) false N sh (x_is (D)) := by
  obtain ⟨hrN, hr, haN, ha⟩ := id hs
  obtain ⟨hlaN0, hla, -⟩ := id hL
  have hlaN : la < N := by omega
  obtain ⟨P, hP⟩ : ∃ P : Nat, P = 2 ^ C := ⟨_, rfl⟩
  have h2C : P ≤ 1024 := hP ▸ b_2C hC1
  have hsh : x_sl 1 (C : Int) = (P : Int) := by rw [hP]; exact b_shl hC1
  have q6 := hrd.2.2.2.2.2.2.2.2.2
  have hro := is_L_ro hL
  obtain ⟨hroN6, hro0, -⟩ := id hro
  have hroN : la + 3 < N := by omega
  refine x_ofW (by decide +kernel) hl (by simp [Value.category]) (by simp) ?_
  have hloop : ∀ i : Nat, i ≤ C → x_W (X, l, yX4_grainsAt, cX4_grainsAt, 8, some .int, x_room 2 0 0, 0, 0, (.inl (some (.int (xI (k_at (D a) (D (la + 3 + 6)) t m C))))), N, sh, (x_is (D)), false, []) 6 [some (.ref (x_b X + la)), some (.ref (x_b X + r)), some (.int (xI t)), some (.int (xI m)), some (.int (xI (x_sum (k_at1 (D a) (D (la + 3 + 6)) t m) i))), some (.int (xI i)), none, none] [] 0 0 false N sh D := by
    refine x_down C ?_ ?_
    · refine x_iload dX4_grainsAt_6 x_get_8_5 ?_
      refine x_aload_n dX4_grainsAt_8 x_get_8_0 ?_
      refine x_getI 1 dX4_grainsAt_9 fX_4_9 rfl (by assumption) (by assumption) (by rfl) ?_
      rw [hC]
      refine r_icmp_ge (t := 108) dX4_grainsAt_12 rfl ⟨by omega, by omega⟩ ⟨by omega, by omega⟩ (fun hc12 => ?_) (fun hc12 => absurd hc12 (by omega))
      refine x_iload dX4_grainsAt_108 x_get_8_4 ?_
      exact x_iret dX4_grainsAt_110 rfl (Nat.le_of_ble_eq_true rfl) (Nat.le_of_ble_eq_true rfl) rfl rfl rfl rfl rfl
    · intro i hi ih
      rw [x_sum_s] at ih
      obtain ⟨⟨g1, g2⟩, -, hcat, ⟨p1, p2⟩, -⟩ := s_cr (c := (i : Int)) hk (by omega) (by omega)
      have hl6 := q6 (D a (55 + i) * 8 + t)
      have hen := e_none_in (F := 1000000) hl6.1
      have nx : k_at1 (D a) (D (la + 3 + 6)) t m i = 0 → ∀ v6, x_W (X, l, yX4_grainsAt, cX4_grainsAt, 8, some .int, x_room 2 0 0, 0, 0, (.inl (some (.int (xI (k_at (D a) (D (la + 3 + 6)) t m C))))), N, sh, (x_is (D)), false, []) 102 [some (.ref (x_b X + la)), some (.ref (x_b X + r)), some (.int (xI t)), some (.int (xI m)), some (.int (xI (x_sum (k_at1 (D a) (D (la + 3 + 6)) t m) i))), some (.int (xI i)), v6, none] [] 0 0 false N sh D := by
        intro h0 v6
        rw [h0, Int.add_zero] at ih
        refine x_iinc dX4_grainsAt_102 x_get_8_5 (Nat.le_of_ble_eq_true rfl) rfl x_set_8_5 ?_
        refine x_goto (t := 6) dX4_grainsAt_105 rfl ?_
        refine x_forget 6 ?_
        exact ih
      refine x_iload dX4_grainsAt_6 x_get_8_5 ?_
      refine x_aload_n dX4_grainsAt_8 x_get_8_0 ?_
      refine x_getI 1 dX4_grainsAt_9 fX_4_9 rfl (by assumption) (by assumption) (by rfl) ?_
      rw [hC]
      refine r_icmp_ge (t := 108) dX4_grainsAt_12 rfl (by first | exact ⟨by omega, by omega⟩ | exact s_r hk hB (by omega) (by omega)) (by first | exact ⟨by omega, by omega⟩ | exact s_r hk hB (by omega) (by omega)) (fun hc12 => absurd hc12 (by omega)) (fun hc12 => ?_)
      refine x_iload_n dX4_grainsAt_15 x_get_8_3 ?_
      refine x_iconst dX4_grainsAt_16 ?_
      refine x_iload dX4_grainsAt_17 x_get_8_5 ?_
      refine x_ishl dX4_grainsAt_19 ?_
      refine x_iand dX4_grainsAt_20 ?_
      refine x_as_is (b_and hm (by omega)) ?_
      refine r_if_eq (t := 102) dX4_grainsAt_21 rfl ⟨by omega, by have := @Nat.and_le_left m (2 ^ i); omega⟩ (fun hc21 => ?_) (fun hc21 => ?_)
      · first
          | exact nx (by rw [k_at1, if_neg (by rw [Int.toNat_natCast, b_t.mp hc21]; decide)]) _
          | exact nx (by rw [k_at1, if_pos (by have := mt b_t.mpr hc21; rw [Int.toNat_natCast]; simpa using this), if_pos hc47]) _
          | (refine x_iinc dX4_grainsAt_102 x_get_8_5 (Nat.le_of_ble_eq_true rfl) rfl x_set_8_5 ?_
             refine x_goto (t := 6) dX4_grainsAt_105 rfl ?_
             refine x_forget 6 (x_forget 7 ?_)
             have e : k_at1 (D a) (D (la + 3 + 6)) t m i = max 0 (D a (25 + i) - (if D a (45 + i) = 1 then 0 else e_none 1000000 (D (la + 3 + 6) (D a (55 + i) * 8 + t)))) := by
               rw [k_at1, if_pos (by have := mt b_t.mpr hc21; rw [Int.toNat_natCast]; simpa using this), if_neg hc47]
             rw [e] at ih
             first | (rw [if_pos (by omega)] at ih; exact ih) | (rw [if_neg (by omega)] at ih; exact ih))
      · have hpi := hpl i hi (by have := mt b_t.mpr hc21; simpa using this)
        refine x_aload_n dX4_grainsAt_24 x_get_8_0 ?_
        refine x_getR dX4_grainsAt_25 fX_4_36 (by assumption) (by assumption) (by rfl) ?_
        refine x_aload_n dX4_grainsAt_28 x_get_8_1 ?_
        refine x_getR dX4_grainsAt_29 fX_4_40 (by assumption) (by assumption) (by rfl) ?_
        refine x_bipush dX4_grainsAt_32 rfl ?_
        refine x_iload dX4_grainsAt_34 x_get_8_5 ?_
        refine x_iadd dX4_grainsAt_36 ?_
        refine x_iald dX4_grainsAt_37 (by assumption) (by assumption) (by omega) (by omega) (by decide) ?_
        refine x_iload_n dX4_grainsAt_38 x_get_8_2 ?_
        refine x_callV (As := [_, _]) dX4_grainsAt_39 w_4_44 (c6_leak hl hro hrd (by omega) (by omega) ht0 ht1) (by assumption) (by assumption) rfl rfl (Nat.le_of_ble_eq_true rfl) (Nat.le_of_ble_eq_true rfl) (Nat.le_of_ble_eq_true rfl) (Nat.le_of_ble_eq_true rfl) (Nat.le_of_ble_eq_true rfl) ?_
        intro d hd
        obtain rfl := Eq.symm hd
        refine x_istore dX4_grainsAt_42 (Nat.le_of_ble_eq_true rfl) rfl x_set_8_6 ?_
        refine x_iload dX4_grainsAt_44 x_get_8_6 ?_
        refine x_iconst dX4_grainsAt_46 ?_
        refine r_icmp_eq (t := 102) dX4_grainsAt_47 rfl (by first | exact ⟨by omega, by omega⟩ | exact s_r hk hB (by omega) (by omega)) (by first | exact ⟨by omega, by omega⟩ | exact s_r hk hB (by omega) (by omega)) (fun hc47 => ?_) (fun hc47 => ?_)
        · first
            | exact nx (by rw [k_at1, if_neg (by rw [Int.toNat_natCast, b_t.mp hc21]; decide)]) _
            | exact nx (by rw [k_at1, if_pos (by have := mt b_t.mpr hc21; rw [Int.toNat_natCast]; simpa using this), if_pos hc47]) _
            | (refine x_iinc dX4_grainsAt_102 x_get_8_5 (Nat.le_of_ble_eq_true rfl) rfl x_set_8_5 ?_
               refine x_goto (t := 6) dX4_grainsAt_105 rfl ?_
               refine x_forget 6 (x_forget 7 ?_)
               have e : k_at1 (D a) (D (la + 3 + 6)) t m i = max 0 (D a (25 + i) - (if D a (45 + i) = 1 then 0 else e_none 1000000 (D (la + 3 + 6) (D a (55 + i) * 8 + t)))) := by
                 rw [k_at1, if_pos (by have := mt b_t.mpr hc21; rw [Int.toNat_natCast]; simpa using this), if_neg hc47]
               rw [e] at ih
               first | (rw [if_pos (by omega)] at ih; exact ih) | (rw [if_neg (by omega)] at ih; exact ih))
        · refine x_aload_n dX4_grainsAt_50 x_get_8_1 ?_
          refine x_getR dX4_grainsAt_51 fX_4_40 (by assumption) (by assumption) (by rfl) ?_
          refine x_bipush dX4_grainsAt_54 rfl ?_
          refine x_iload dX4_grainsAt_56 x_get_8_5 ?_
          refine x_iadd dX4_grainsAt_58 ?_
          refine x_iald dX4_grainsAt_59 (by assumption) (by assumption) (by omega) (by omega) (by decide) ?_
          refine x_iconst dX4_grainsAt_60 ?_
          refine r_icmp_ne (t := 68) dX4_grainsAt_61 rfl (by first | exact ⟨by omega, by omega⟩ | exact s_r hk hB (by omega) (by omega)) (by first | exact ⟨by omega, by omega⟩ | exact s_r hk hB (by omega) (by omega)) (fun hc61 => ?_) (fun hc61 => ?_)
          · refine x_iconst dX4_grainsAt_68 ?_
            refine x_istore dX4_grainsAt_69 (Nat.le_of_ble_eq_true rfl) rfl x_set_8_7 ?_
            refine x_iload dX4_grainsAt_71 x_get_8_4 ?_
            refine x_iconst dX4_grainsAt_73 ?_
            refine x_aload_n dX4_grainsAt_74 x_get_8_1 ?_
            refine x_getR dX4_grainsAt_75 fX_4_40 (by assumption) (by assumption) (by rfl) ?_
            refine x_bipush dX4_grainsAt_78 rfl ?_
            refine x_iload dX4_grainsAt_80 x_get_8_5 ?_
            refine x_iadd dX4_grainsAt_82 ?_
            refine x_iald dX4_grainsAt_83 (by assumption) (by assumption) (by omega) (by omega) (by decide) ?_
            refine x_iload dX4_grainsAt_84 x_get_8_7 ?_
            refine r_if_eq (t := 93) dX4_grainsAt_86 rfl (by first | exact ⟨by omega, by omega⟩ | exact s_r hk hB (by omega) (by omega)) (fun hc86 => ?_) (fun hc86 => ?_)
            · refine x_iload dX4_grainsAt_93 x_get_8_6 ?_
              refine x_isub dX4_grainsAt_95 ?_
              refine r_max dX4_grainsAt_96 w_4_50 (by first | exact ⟨by omega, by omega⟩ | exact s_r hk hB (by omega) (by omega)) (by first | exact ⟨by omega, by omega⟩ | exact s_r hk hB (by omega) (by omega)) (Nat.le_of_ble_eq_true rfl) (Nat.le_of_ble_eq_true rfl) (Nat.le_of_ble_eq_true rfl) (Nat.le_of_ble_eq_true rfl) ?_
              refine x_iadd dX4_grainsAt_99 ?_
              refine x_istore dX4_grainsAt_100 (Nat.le_of_ble_eq_true rfl) rfl x_set_8_4 ?_
              first
                | exact nx (by rw [k_at1, if_neg (by rw [Int.toNat_natCast, b_t.mp hc21]; decide)]) _
                | exact nx (by rw [k_at1, if_pos (by have := mt b_t.mpr hc21; rw [Int.toNat_natCast]; simpa using this), if_pos hc47]) _
                | (refine x_iinc dX4_grainsAt_102 x_get_8_5 (Nat.le_of_ble_eq_true rfl) rfl x_set_8_5 ?_
                   refine x_goto (t := 6) dX4_grainsAt_105 rfl ?_
                   refine x_forget 6 (x_forget 7 ?_)
                   have e : k_at1 (D a) (D (la + 3 + 6)) t m i = max 0 (D a (25 + i) - (if D a (45 + i) = 1 then 0 else e_none 1000000 (D (la + 3 + 6) (D a (55 + i) * 8 + t)))) := by
                     rw [k_at1, if_pos (by have := mt b_t.mpr hc21; rw [Int.toNat_natCast]; simpa using this), if_neg hc47]
                   rw [e] at ih
                   first | (rw [if_pos (by omega)] at ih; exact ih) | (rw [if_neg (by omega)] at ih; exact ih))
            · refine x_iconst dX4_grainsAt_89 ?_
              refine x_goto (t := 95) dX4_grainsAt_90 rfl ?_
              refine x_isub dX4_grainsAt_95 ?_
              refine r_max dX4_grainsAt_96 w_4_50 (by first | exact ⟨by omega, by omega⟩ | exact s_r hk hB (by omega) (by omega)) (by first | exact ⟨by omega, by omega⟩ | exact s_r hk hB (by omega) (by omega)) (Nat.le_of_ble_eq_true rfl) (Nat.le_of_ble_eq_true rfl) (Nat.le_of_ble_eq_true rfl) (Nat.le_of_ble_eq_true rfl) ?_
              refine x_iadd dX4_grainsAt_99 ?_
              refine x_istore dX4_grainsAt_100 (Nat.le_of_ble_eq_true rfl) rfl x_set_8_4 ?_
              first
                | exact nx (by rw [k_at1, if_neg (by rw [Int.toNat_natCast, b_t.mp hc21]; decide)]) _
                | exact nx (by rw [k_at1, if_pos (by have := mt b_t.mpr hc21; rw [Int.toNat_natCast]; simpa using this), if_pos hc47]) _
                | (refine x_iinc dX4_grainsAt_102 x_get_8_5 (Nat.le_of_ble_eq_true rfl) rfl x_set_8_5 ?_
                   refine x_goto (t := 6) dX4_grainsAt_105 rfl ?_
                   refine x_forget 6 (x_forget 7 ?_)
                   have e : k_at1 (D a) (D (la + 3 + 6)) t m i = max 0 (D a (25 + i) - (if D a (45 + i) = 1 then 0 else e_none 1000000 (D (la + 3 + 6) (D a (55 + i) * 8 + t)))) := by
                     rw [k_at1, if_pos (by have := mt b_t.mpr hc21; rw [Int.toNat_natCast]; simpa using this), if_neg hc47]
                   rw [e] at ih
                   first | (rw [if_pos (by omega)] at ih; exact ih) | (rw [if_neg (by omega)] at ih; exact ih))
          · refine x_iconst dX4_grainsAt_64 ?_
            refine x_goto (t := 69) dX4_grainsAt_65 rfl ?_
            refine x_istore dX4_grainsAt_69 (Nat.le_of_ble_eq_true rfl) rfl x_set_8_7 ?_
            refine x_iload dX4_grainsAt_71 x_get_8_4 ?_
            refine x_iconst dX4_grainsAt_73 ?_
            refine x_aload_n dX4_grainsAt_74 x_get_8_1 ?_
            refine x_getR dX4_grainsAt_75 fX_4_40 (by assumption) (by assumption) (by rfl) ?_
            refine x_bipush dX4_grainsAt_78 rfl ?_
            refine x_iload dX4_grainsAt_80 x_get_8_5 ?_
            refine x_iadd dX4_grainsAt_82 ?_
            refine x_iald dX4_grainsAt_83 (by assumption) (by assumption) (by omega) (by omega) (by decide) ?_
            refine x_iload dX4_grainsAt_84 x_get_8_7 ?_
            refine r_if_eq (t := 93) dX4_grainsAt_86 rfl (by first | exact ⟨by omega, by omega⟩ | exact s_r hk hB (by omega) (by omega)) (fun hc86 => ?_) (fun hc86 => ?_)
            · refine x_iload dX4_grainsAt_93 x_get_8_6 ?_
              refine x_isub dX4_grainsAt_95 ?_
              refine r_max dX4_grainsAt_96 w_4_50 (by first | exact ⟨by omega, by omega⟩ | exact s_r hk hB (by omega) (by omega)) (by first | exact ⟨by omega, by omega⟩ | exact s_r hk hB (by omega) (by omega)) (Nat.le_of_ble_eq_true rfl) (Nat.le_of_ble_eq_true rfl) (Nat.le_of_ble_eq_true rfl) (Nat.le_of_ble_eq_true rfl) ?_
              refine x_iadd dX4_grainsAt_99 ?_
              refine x_istore dX4_grainsAt_100 (Nat.le_of_ble_eq_true rfl) rfl x_set_8_4 ?_
              first
                | exact nx (by rw [k_at1, if_neg (by rw [Int.toNat_natCast, b_t.mp hc21]; decide)]) _
                | exact nx (by rw [k_at1, if_pos (by have := mt b_t.mpr hc21; rw [Int.toNat_natCast]; simpa using this), if_pos hc47]) _
                | (refine x_iinc dX4_grainsAt_102 x_get_8_5 (Nat.le_of_ble_eq_true rfl) rfl x_set_8_5 ?_
                   refine x_goto (t := 6) dX4_grainsAt_105 rfl ?_
                   refine x_forget 6 (x_forget 7 ?_)
                   have e : k_at1 (D a) (D (la + 3 + 6)) t m i = max 0 (D a (25 + i) - (if D a (45 + i) = 1 then 0 else e_none 1000000 (D (la + 3 + 6) (D a (55 + i) * 8 + t)))) := by
                     rw [k_at1, if_pos (by have := mt b_t.mpr hc21; rw [Int.toNat_natCast]; simpa using this), if_neg hc47]
                   rw [e] at ih
                   first | (rw [if_pos (by omega)] at ih; exact ih) | (rw [if_neg (by omega)] at ih; exact ih))
            · refine x_iconst dX4_grainsAt_89 ?_
              refine x_goto (t := 95) dX4_grainsAt_90 rfl ?_
              refine x_isub dX4_grainsAt_95 ?_
              refine r_max dX4_grainsAt_96 w_4_50 (by first | exact ⟨by omega, by omega⟩ | exact s_r hk hB (by omega) (by omega)) (by first | exact ⟨by omega, by omega⟩ | exact s_r hk hB (by omega) (by omega)) (Nat.le_of_ble_eq_true rfl) (Nat.le_of_ble_eq_true rfl) (Nat.le_of_ble_eq_true rfl) (Nat.le_of_ble_eq_true rfl) ?_
              refine x_iadd dX4_grainsAt_99 ?_
              refine x_istore dX4_grainsAt_100 (Nat.le_of_ble_eq_true rfl) rfl x_set_8_4 ?_
              first
                | exact nx (by rw [k_at1, if_neg (by rw [Int.toNat_natCast, b_t.mp hc21]; decide)]) _
                | exact nx (by rw [k_at1, if_pos (by have := mt b_t.mpr hc21; rw [Int.toNat_natCast]; simpa using this), if_pos hc47]) _
                | (refine x_iinc dX4_grainsAt_102 x_get_8_5 (Nat.le_of_ble_eq_true rfl) rfl x_set_8_5 ?_
                   refine x_goto (t := 6) dX4_grainsAt_105 rfl ?_
                   refine x_forget 6 (x_forget 7 ?_)
                   have e : k_at1 (D a) (D (la + 3 + 6)) t m i = max 0 (D a (25 + i) - (if D a (45 + i) = 1 then 0 else e_none 1000000 (D (la + 3 + 6) (D a (55 + i) * 8 + t)))) := by
                     rw [k_at1, if_pos (by have := mt b_t.mpr hc21; rw [Int.toNat_natCast]; simpa using this), if_neg hc47]
                   rw [e] at ih
                   first | (rw [if_pos (by omega)] at ih; exact ih) | (rw [if_neg (by omega)] at ih; exact ih))
  refine x_iconst dX4_grainsAt_0 ?_
  refine x_istore dX4_grainsAt_1 (Nat.le_of_ble_eq_true rfl) rfl x_set_8_4 ?_
  refine x_iconst dX4_grainsAt_3 ?_
  refine x_istore dX4_grainsAt_4 (Nat.le_of_ble_eq_true rfl) rfl x_set_8_5 ?_
  exact hloop 0 (Nat.zero_le _)
theorem c4_send {X : xC} {l : Launch} (hl : l.stackTraces = false) {N : Nat} {sh : xS} {D : xM} {r a : Nat} (hs : is_St N sh r a) {B : Int} (hB : B ≤ 1000000) (hk : s_ok B (D a)) {la C : Nat} (hL : is_L N sh la) (hC : D la 1 = C) (hC1 : C ≤ 10) {W T : Nat} (hrd : rd D (la + 3) W T) {t : Int} (ht0 : 0 ≤ t) (ht1 : t < 8) {wa : Int} (hwa : x_r wa) : x_M X l yX4_toSend cX4_toSend 9 (some .int) 4 0 0 [.ref (x_b X + la), .ref (x_b X + r), .int (xI t), .int (xI wa)] false N sh D (.inl (some (.int (xI ((k_snd (D a) (D (la + 3 + 6)) t wa C (k_luck (D a) (s_bits (fun c => s_lies (D a) c) C)) (2 ^ C)).1))))) false N sh (x_is (D)) := by
  obtain ⟨hrN, hr, haN, ha⟩ := id hs
  obtain ⟨hlaN0, hla, -⟩ := id hL
  have hlaN : la < N := by omega
  obtain ⟨P, hP⟩ : ∃ P : Nat, P = 2 ^ C := ⟨_, rfl⟩
  have h2C : P ≤ 1024 := hP ▸ b_2C hC1
  have hsh : x_sl 1 (C : Int) = (P : Int) := by rw [hP]; exact b_shl hC1
  have q6 := hrd.2.2.2.2.2.2.2.2.2
  have hcl : (s_bits (fun c => s_lies (D a) c) C) < 1024 := s_bits_10 hC1
  have hsd : (k_luck (D a) (s_bits (fun c => s_lies (D a) c) C)) < 1024 := k_luck_lt _ _
  have hpl : ∀ m : Nat, b_sub m (k_luck (D a) (s_bits (fun c => s_lies (D a) c) C)) = 0 → ∀ c : Nat, c < C → m.testBit c = true → 0 ≤ D a (55 + c) := by
    intro m hm c hc ht
    have h1 : (b_sub m (k_luck (D a) (s_bits (fun c => s_lies (D a) c) C))).testBit c = false := by rw [hm]; simp
    rw [b_sub_bit, ht] at h1
    have h2 : (k_luck (D a) (s_bits (fun c => s_lies (D a) c) C)).testBit c = true := by simpa using h1
    have h3 := (s_bits_bit h2).1
    have h4 := (s_bits_bit h3.1).1
    have h5 := (s_cr (c := (c : Int)) hk (by omega) (by omega)).2.2.2.1
    have h6 := h4.1
    omega
  obtain ⟨hwa0, hwa1⟩ := id hwa
  rw [← hP]
  refine x_ofW (by decide +kernel) hl (by simp [Value.category]) (by simp) ?_
  have hloop : ∀ i : Nat, i ≤ P → x_W (X, l, yX4_toSend, cX4_toSend, 9, some .int, x_room 4 0 0, 0, 0, (.inl (some (.int (xI ((k_snd (D a) (D (la + 3 + 6)) t wa C (k_luck (D a) (s_bits (fun c => s_lies (D a) c) C)) P).1))))), N, sh, (x_is (D)), false, []) 24 [some (.ref (x_b X + la)), some (.ref (x_b X + r)), some (.int (xI t)), some (.int (xI wa)), some (.int (xI (k_snd (D a) (D (la + 3 + 6)) t wa C (k_luck (D a) (s_bits (fun c => s_lies (D a) c) C)) i).1)), some (.int (xI (k_snd (D a) (D (la + 3 + 6)) t wa C (k_luck (D a) (s_bits (fun c => s_lies (D a) c) C)) i).2)), some (.int (xI (((k_luck (D a) (s_bits (fun c => s_lies (D a) c) C)) : Nat) : Int))), some (.int (xI i)), none] [] 0 0 false N sh D := by
    refine x_down P ?_ ?_
    · refine x_iload dX4_toSend_24 x_get_9_7 ?_
      refine x_iconst dX4_toSend_26 ?_
      refine x_aload_n dX4_toSend_27 x_get_9_0 ?_
      refine x_getI 1 dX4_toSend_28 fX_4_9 rfl (by assumption) (by assumption) (by rfl) ?_
      rw [hC]
      refine x_ishl dX4_toSend_31 ?_
      refine x_as_is hsh ?_
      refine r_icmp_ge (t := 85) dX4_toSend_32 rfl ⟨by omega, by omega⟩ ⟨by omega, by omega⟩ (fun hc32 => ?_) (fun hc32 => absurd hc32 (by omega))
      refine x_iload dX4_toSend_85 x_get_9_4 ?_
      exact x_iret dX4_toSend_87 rfl (Nat.le_of_ble_eq_true rfl) (Nat.le_of_ble_eq_true rfl) rfl rfl rfl rfl rfl
    · intro i hi ih
      have hin := k_snd_in (D a) (D (la + 3 + 6)) t wa C (k_luck (D a) (s_bits (fun c => s_lies (D a) c) C)) i (by omega)
      have hai := k_at_in hk q6 t i hC1
      have hbs : b_sub i (k_luck (D a) (s_bits (fun c => s_lies (D a) c) C)) ≤ i := b_sub_le
      have hp1 := s_pop_le i (by omega)
      rw [k_snd_s] at ih
      refine x_iload dX4_toSend_24 x_get_9_7 ?_
      refine x_iconst dX4_toSend_26 ?_
      refine x_aload_n dX4_toSend_27 x_get_9_0 ?_
      refine x_getI 1 dX4_toSend_28 fX_4_9 rfl (by assumption) (by assumption) (by rfl) ?_
      rw [hC]
      refine x_ishl dX4_toSend_31 ?_
      refine x_as_is hsh ?_
      refine r_icmp_ge (t := 85) dX4_toSend_32 rfl (by first | exact ⟨by omega, by omega⟩ | exact s_r hk hB (by omega) (by omega)) (by first | exact ⟨by omega, by omega⟩ | exact s_r hk hB (by omega) (by omega)) (fun hc32 => absurd hc32 (by omega)) (fun hc32 => ?_)
      refine x_iload dX4_toSend_35 x_get_9_7 ?_
      refine x_callS (As := [_]) dX4_toSend_37 w_4_27 (cJ_bitCount hl (m := i) (by omega)) rfl rfl (Nat.le_of_ble_eq_true rfl) (Nat.le_of_ble_eq_true rfl) (Nat.le_of_ble_eq_true rfl) (Nat.le_of_ble_eq_true rfl) (Nat.le_of_ble_eq_true rfl) ?_
      intro d hd
      obtain rfl := Eq.symm hd
      refine x_istore dX4_toSend_40 (Nat.le_of_ble_eq_true rfl) rfl x_set_9_8 ?_
      refine x_iload dX4_toSend_42 x_get_9_7 ?_
      refine x_iload dX4_toSend_44 x_get_9_6 ?_
      refine x_iconst dX4_toSend_46 ?_
      refine x_ixor dX4_toSend_47 ?_
      refine x_iand dX4_toSend_48 ?_
      refine x_as_is (b_not (by omega)) ?_
      refine r_if_ne (t := 79) dX4_toSend_49 rfl (by first | exact ⟨by omega, by omega⟩ | exact s_r hk hB (by omega) (by omega)) (fun hc49 => ?_) (fun hc49 => ?_)
      · refine x_iinc dX4_toSend_79 x_get_9_7 (Nat.le_of_ble_eq_true rfl) rfl x_set_9_7 ?_
        refine x_goto (t := 24) dX4_toSend_82 rfl ?_
        refine x_forget 8 ?_
        first | (rw [if_pos (by omega)] at ih; exact ih) | (rw [if_neg (by omega)] at ih; exact ih)
      · refine x_iload dX4_toSend_52 x_get_9_8 ?_
        refine x_iload dX4_toSend_54 x_get_9_5 ?_
        refine r_icmp_ge (t := 79) dX4_toSend_56 rfl (by first | exact ⟨by omega, by omega⟩ | exact s_r hk hB (by omega) (by omega)) (by first | exact ⟨by omega, by omega⟩ | exact s_r hk hB (by omega) (by omega)) (fun hc56 => ?_) (fun hc56 => ?_)
        · refine x_iinc dX4_toSend_79 x_get_9_7 (Nat.le_of_ble_eq_true rfl) rfl x_set_9_7 ?_
          refine x_goto (t := 24) dX4_toSend_82 rfl ?_
          refine x_forget 8 ?_
          first | (rw [if_pos (by omega)] at ih; exact ih) | (rw [if_neg (by omega)] at ih; exact ih)
        · refine x_aload_n dX4_toSend_59 x_get_9_0 ?_
          refine x_aload_n dX4_toSend_60 x_get_9_1 ?_
          refine x_iload_n dX4_toSend_61 x_get_9_2 ?_
          refine x_iload dX4_toSend_62 x_get_9_7 ?_
          refine x_callS (As := [_, _, _, _]) dX4_toSend_64 w_4_32 (c4_at hl hs hB hk hL hC hC1 hrd ht0 ht1 (by omega) (hpl i (by omega))) rfl rfl (Nat.le_of_ble_eq_true rfl) (Nat.le_of_ble_eq_true rfl) (Nat.le_of_ble_eq_true rfl) (Nat.le_of_ble_eq_true rfl) (Nat.le_of_ble_eq_true rfl) ?_
          intro d hd
          obtain rfl := Eq.symm hd
          refine x_iload_n dX4_toSend_67 x_get_9_3 ?_
          refine r_icmp_lt (t := 79) dX4_toSend_68 rfl (by first | exact ⟨by omega, by omega⟩ | exact s_r hk hB (by omega) (by omega)) (by first | exact ⟨by omega, by omega⟩ | exact s_r hk hB (by omega) (by omega)) (fun hc68 => ?_) (fun hc68 => ?_)
          · refine x_iinc dX4_toSend_79 x_get_9_7 (Nat.le_of_ble_eq_true rfl) rfl x_set_9_7 ?_
            refine x_goto (t := 24) dX4_toSend_82 rfl ?_
            refine x_forget 8 ?_
            first | (rw [if_pos (by omega)] at ih; exact ih) | (rw [if_neg (by omega)] at ih; exact ih)
          · refine x_iload dX4_toSend_71 x_get_9_7 ?_
            refine x_istore dX4_toSend_73 (Nat.le_of_ble_eq_true rfl) rfl x_set_9_4 ?_
            refine x_iload dX4_toSend_75 x_get_9_8 ?_
            refine x_istore dX4_toSend_77 (Nat.le_of_ble_eq_true rfl) rfl x_set_9_5 ?_
            refine x_iinc dX4_toSend_79 x_get_9_7 (Nat.le_of_ble_eq_true rfl) rfl x_set_9_7 ?_
            refine x_goto (t := 24) dX4_toSend_82 rfl ?_
            refine x_forget 8 ?_
            first | (rw [if_pos (by omega)] at ih; exact ih) | (rw [if_neg (by omega)] at ih; exact ih)
  refine x_iconst dX4_toSend_0 ?_
  refine x_istore dX4_toSend_1 (Nat.le_of_ble_eq_true rfl) rfl x_set_9_4 ?_
  refine x_bipush dX4_toSend_3 rfl ?_
  refine x_istore dX4_toSend_5 (Nat.le_of_ble_eq_true rfl) rfl x_set_9_5 ?_
  refine x_aload_n dX4_toSend_7 x_get_9_1 ?_
  refine x_aload_n dX4_toSend_8 x_get_9_1 ?_
  refine x_aload_n dX4_toSend_9 x_get_9_0 ?_
  refine x_getI 1 dX4_toSend_10 fX_4_9 rfl (by assumption) (by assumption) (by rfl) ?_
  rw [hC]
  refine x_callV (As := [_]) dX4_toSend_13 w_4_15 (c9_closedBits hl hs hB hk hC1) (by assumption) (by assumption) rfl rfl (Nat.le_of_ble_eq_true rfl) (Nat.le_of_ble_eq_true rfl) (Nat.le_of_ble_eq_true rfl) (Nat.le_of_ble_eq_true rfl) (Nat.le_of_ble_eq_true rfl) ?_
  intro d hd
  obtain rfl := Eq.symm hd
  refine x_callS (As := [_, _]) dX4_toSend_16 w_4_21 (c4_luck hl hs hB hk hcl) rfl rfl (Nat.le_of_ble_eq_true rfl) (Nat.le_of_ble_eq_true rfl) (Nat.le_of_ble_eq_true rfl) (Nat.le_of_ble_eq_true rfl) (Nat.le_of_ble_eq_true rfl) ?_
  intro d hd
  obtain rfl := Eq.symm hd
  refine x_istore dX4_toSend_19 (Nat.le_of_ble_eq_true rfl) rfl x_set_9_6 ?_
  refine x_iconst dX4_toSend_21 ?_
  refine x_istore dX4_toSend_22 (Nat.le_of_ble_eq_true rfl) rfl x_set_9_7 ?_
  exact hloop 0 (Nat.zero_le _)
end C41
