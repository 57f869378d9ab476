section C7
def is_Ld (N : Nat) (sh : xS) (la mk st ro ru sr : Nat) : Prop := la < N ∧ sh la = .inr (3, [0, 0, mk + 3, st + 3, ro + 3, ru + 3, sr + 3]) ∧ mk < N ∧ sh mk = .inl (0, 8) ∧ st < N ∧ sh st = .inl (0, 8)
/-- a rule's steps: as many as are told, each a number or a step; its flags -/
def is_rule (D : xM) (ru ss n : Nat) : Prop := ((D ru 3 = 0 ∨ D ru 3 = 1) ∧ (D ru 4 = 0 ∨ D ru 4 = 1)) ∧ n ≤ 700 ∧ (∀ j : Int, 0 ≤ j → j < n → x_r (D ss j) ∧ -15 ≤ D ss j) ∧ True
theorem o_st_r {val : Int → Int} (hv : ∀ s, x_r (val s)) {l : List Int} (hl : ∀ v ∈ l, x_r v) {s : Int} (hs : x_r s) : ∀ v ∈ o_st val l s, x_r v := by
  intro v h
  unfold o_st at h
  split at h
  · split at h
    · rcases List.mem_cons.mp h with rfl | h
      · split
        · exact hs
        · exact hv _
      · exact hl v h
    · exact hl v h
  · split at h
    · cases l with
      | nil => cases h
      | cons x r =>
        rcases List.mem_cons.mp h with rfl | h
        · exact x_r_B _
        · exact hl v (List.mem_cons_of_mem _ h)
    · match l, hl, h with
      | [], hl, h => exact hl v h
      | [x], hl, h => exact hl v h
      | b :: a :: r, hl, h =>
        rcases List.mem_cons.mp h with rfl | h
        · exact j_op_r _ _ _
        · exact hl v (List.mem_cons_of_mem _ (List.mem_cons_of_mem _ h))
theorem o_head_r {ss val : Int → Int} {n : Nat} (hs : ∀ j : Int, 0 ≤ j → j < n → x_r (ss j) ∧ -15 ≤ ss j) (hv : ∀ s, x_r (val s)) : ∀ m : Nat, m ≤ n → x_r ((o_run ss val m).headD 0) := by
  have h : ∀ m : Nat, m ≤ n → ∀ v ∈ o_run ss val m, x_r v := by
    intro m
    induction m with
    | zero => intro _ v hv; cases hv
    | succ m ih => intro hm; exact o_st_r hv (ih (by omega)) (hs m (by omega) (by omega)).1
  intro m hm
  cases e : o_run ss val m with
  | nil => exact x_r0
  | cons x r => exact h m hm x (by rw [e]; exact List.mem_cons_self)
def is_Ru (N : Nat) (sh : xS) (ru ss sk : Nat) : Prop := ru < N ∧ sh ru = .inr (7, [ss + 3, sk + 3, 0, 0, 0]) ∧ ss < N ∧ sh ss = .inl (0, 700) ∧ sk < N ∧ sh sk = .inl (0, 40)
theorem w_7_34 : x_cv RX7 34 yX9_bitsIn cX9_bitsIn 5 (some .int) 9 2 := ⟨⟨_, rfl, rfl⟩, (x_in 468 (by decide +kernel) rfl), (x_in 469 (by decide +kernel) rfl), (x_in 470 (by decide +kernel) rfl), (x_in 85 (by decide +kernel) rfl), (x_in 471 (by decide +kernel) rfl), by decide, ⟨by decide +kernel, by decide +kernel, by decide +kernel⟩⟩
theorem w_7_40 : x_cs RX7 40 yJ6_bitCount_0f7a4 cJ6_bitCount_0f7a4 1 (some .int) 1 := ⟨(x_in 472 (by decide +kernel) rfl), (x_in 473 (by decide +kernel) rfl), (x_in 102 (by decide +kernel) rfl), (x_in 474 (by decide +kernel) rfl), by decide, ⟨by decide +kernel, by decide +kernel, by decide +kernel⟩⟩
theorem w_7_46 : x_cv RX7 46 yX7_work cX7_work 8 (some .int) 7 4 := ⟨⟨_, rfl, rfl⟩, (x_in 478 (by decide +kernel) rfl), (x_in 479 (by decide +kernel) rfl), (x_in 480 (by decide +kernel) rfl), (x_in 84 (by decide +kernel) rfl), (x_in 481 (by decide +kernel) rfl), by decide, ⟨by decide +kernel, by decide +kernel, by decide +kernel⟩⟩
theorem w_7_53 : x_mw RX7 53 Lib.Math.min.name Lib.Math.min.code 2 := ⟨(x_in 488 (by decide +kernel) rfl), (x_in 462 (by decide +kernel) rfl), (x_in 95 (by decide +kernel) rfl), (x_in 463 (by decide +kernel) rfl)⟩
theorem w_7_58 : x_mw RX7 58 Lib.Math.max.name Lib.Math.max.code 2 := ⟨(x_in 489 (by decide +kernel) rfl), (x_in 451 (by decide +kernel) rfl), (x_in 95 (by decide +kernel) rfl), (x_in 452 (by decide +kernel) rfl)⟩
theorem w_7_61 : x_cs RX7 61 yX7_valueOf cX7_valueOf 4 (some .int) 4 := ⟨(x_in 482 (by decide +kernel) rfl), (x_in 483 (by decide +kernel) rfl), (x_in 84 (by decide +kernel) rfl), (x_in 484 (by decide +kernel) rfl), by decide, ⟨by decide +kernel, by decide +kernel, by decide +kernel⟩⟩
theorem w_7_65 : x_cs RX7 65 yX7_join cX7_join 3 (some .int) 3 := ⟨(x_in 485 (by decide +kernel) rfl), (x_in 486 (by decide +kernel) rfl), (x_in 84 (by decide +kernel) rfl), (x_in 487 (by decide +kernel) rfl), by decide, ⟨by decide +kernel, by decide +kernel, by decide +kernel⟩⟩
theorem c7_valueOf {X : xC} {l : Launch} (hl : l.stackTraces = false) {N : Nat} {sh : xS} {D : xM} {r a : Nat} (hs : is_St N sh r a) {la mk st ro ru sr : Nat} (hld : is_Ld N sh la mk st ro ru sr) {t s : Int} (h0 : 0 ≤ t) (h1 : t < 8) (h : s = -1 ∨ s = -2 ∨ s = -3 ∨ s = -4 ∨ s = -5) : x_M X l yX7_valueOf cX7_valueOf 4 (some .int) 1 0 0 [.int (xI s), .ref (x_b X + la), .ref (x_b X + r), .int (xI t)] false N sh D (.inl (some (.int (xI (o_val (D mk) (D st) (D a) 0 t s))))) false N sh (x_is (D)) := by
  obtain ⟨hrN, hr, haN, ha⟩ := id hs
  obtain ⟨hlaN, hla, hmkN, hmk, hstN, hst⟩ := id hld
  refine x_ofW (by decide +kernel) hl (by simp [Value.category]) (by simp) ?_
  refine x_iload_n dX7_valueOf_0 x_get_4_0 ?_
  rcases h with rfl | rfl | rfl | rfl | rfl
  · refine x_tswIn (t := 32) dX7_valueOf_1 (by decide) (by decide) rfl rfl ?_
    refine x_aload_n dX7_valueOf_32 x_get_4_2 ?_
    refine x_getR dX7_valueOf_33 fX_7_50 (by assumption) (by assumption) (by rfl) ?_
    refine x_iconst dX7_valueOf_36 ?_
    refine x_iload_n dX7_valueOf_37 x_get_4_3 ?_
    refine x_iadd dX7_valueOf_38 ?_
    refine x_iald dX7_valueOf_39 (by assumption) (by assumption) (by omega) (by omega) (by decide) ?_
    exact x_iret dX7_valueOf_40 rfl (Nat.le_of_ble_eq_true rfl) (Nat.le_of_ble_eq_true rfl) rfl rfl rfl rfl rfl
  · refine x_tswIn (t := 41) dX7_valueOf_1 (by decide) (by decide) rfl rfl ?_
    refine x_aload_n dX7_valueOf_41 x_get_4_2 ?_
    refine x_getR dX7_valueOf_42 fX_7_50 (by assumption) (by assumption) (by rfl) ?_
    refine x_bipush dX7_valueOf_45 rfl ?_
    refine x_iload_n dX7_valueOf_47 x_get_4_3 ?_
    refine x_iadd dX7_valueOf_48 ?_
    refine x_iald dX7_valueOf_49 (by assumption) (by assumption) (by omega) (by omega) (by decide) ?_
    exact x_iret dX7_valueOf_50 rfl (Nat.le_of_ble_eq_true rfl) (Nat.le_of_ble_eq_true rfl) rfl rfl rfl rfl rfl
  · refine x_tswIn (t := 51) dX7_valueOf_1 (by decide) (by decide) rfl rfl ?_
    refine x_aload_n dX7_valueOf_51 x_get_4_1 ?_
    refine x_getR dX7_valueOf_52 fX_7_69 (by assumption) (by assumption) (by rfl) ?_
    refine x_iload_n dX7_valueOf_55 x_get_4_3 ?_
    refine x_iald dX7_valueOf_56 (by assumption) (by assumption) (by omega) (by omega) (by decide) ?_
    exact x_iret dX7_valueOf_57 rfl (Nat.le_of_ble_eq_true rfl) (Nat.le_of_ble_eq_true rfl) rfl rfl rfl rfl rfl
  · refine x_tswIn (t := 58) dX7_valueOf_1 (by decide) (by decide) rfl rfl ?_
    refine x_aload_n dX7_valueOf_58 x_get_4_1 ?_
    refine x_getR dX7_valueOf_59 fX_7_72 (by assumption) (by assumption) (by rfl) ?_
    refine x_iload_n dX7_valueOf_62 x_get_4_3 ?_
    refine x_iald dX7_valueOf_63 (by assumption) (by assumption) (by omega) (by omega) (by decide) ?_
    exact x_iret dX7_valueOf_64 rfl (Nat.le_of_ble_eq_true rfl) (Nat.le_of_ble_eq_true rfl) rfl rfl rfl rfl rfl
  · refine x_tswOut (t := 65) dX7_valueOf_1 (by decide) rfl ?_
    refine x_aload_n dX7_valueOf_65 x_get_4_2 ?_
    refine x_getR dX7_valueOf_66 fX_7_50 (by assumption) (by assumption) (by rfl) ?_
    refine x_iconst dX7_valueOf_69 ?_
    refine x_iald dX7_valueOf_70 (by assumption) (by assumption) (by omega) (by omega) (by decide) ?_
    exact x_iret dX7_valueOf_71 rfl (Nat.le_of_ble_eq_true rfl) (Nat.le_of_ble_eq_true rfl) rfl rfl rfl rfl rfl
theorem c7_join {X : xC} {l : Launch} (hl : l.stackTraces = false) {N : Nat} {sh : xS} {D : xM} {s a b : Int} (ha : x_r a) (hb : x_r b) (h : s = -7 ∨ s = -8 ∨ s = -10 ∨ s = -11 ∨ s = -12 ∨ s = -13 ∨ s = -14 ∨ s = -15) : x_M X l yX7_join cX7_join 3 (some .int) 1 0 0 [.int (xI s), .int (xI a), .int (xI b)] false N sh D (.inl (some (.int (xI (j_op s a b))))) false N sh (x_is (D)) := by
  refine x_ofW (by decide +kernel) hl (by simp [Value.category]) (by simp) ?_
  refine x_iload_n dX7_join_0 x_get_3_0 ?_
  rcases h with rfl | rfl | rfl | rfl | rfl | rfl | rfl | rfl
  · refine x_tswIn (t := 48) dX7_join_1 (by decide) (by decide) rfl rfl ?_
    refine x_iload_n dX7_join_48 x_get_3_1 ?_
    refine r_if_ne (t := 56) dX7_join_49 rfl ha (fun hc49 => ?_) (fun hc49 => ?_)
    · refine x_iconst dX7_join_56 ?_
      refine x_goto (t := 61) dX7_join_57 rfl ?_
      exact x_iret dX7_join_61 rfl (Nat.le_of_ble_eq_true rfl) (Nat.le_of_ble_eq_true rfl) (by rw [j_7]; first | (rw [x_B, if_pos (by omega)]; done) | (rw [x_B, if_neg (by omega)]; done)) rfl rfl rfl rfl
    · refine x_iload_n dX7_join_52 x_get_3_2 ?_
      refine r_if_eq (t := 60) dX7_join_53 rfl hb (fun hc53 => ?_) (fun hc53 => ?_)
      · refine x_iconst dX7_join_60 ?_
        exact x_iret dX7_join_61 rfl (Nat.le_of_ble_eq_true rfl) (Nat.le_of_ble_eq_true rfl) (by rw [j_7]; first | (rw [x_B, if_pos (by omega)]; done) | (rw [x_B, if_neg (by omega)]; done)) rfl rfl rfl rfl
      · refine x_iconst dX7_join_56 ?_
        refine x_goto (t := 61) dX7_join_57 rfl ?_
        exact x_iret dX7_join_61 rfl (Nat.le_of_ble_eq_true rfl) (Nat.le_of_ble_eq_true rfl) (by rw [j_7]; first | (rw [x_B, if_pos (by omega)]; done) | (rw [x_B, if_neg (by omega)]; done)) rfl rfl rfl rfl
  · refine x_tswIn (t := 62) dX7_join_1 (by decide) (by decide) rfl rfl ?_
    refine x_iload_n dX7_join_62 x_get_3_1 ?_
    refine r_if_eq (t := 74) dX7_join_63 rfl ha (fun hc63 => ?_) (fun hc63 => ?_)
    · refine x_iconst dX7_join_74 ?_
      exact x_iret dX7_join_75 rfl (Nat.le_of_ble_eq_true rfl) (Nat.le_of_ble_eq_true rfl) (by rw [j_8]; first | (rw [x_B, if_pos (by omega)]; done) | (rw [x_B, if_neg (by omega)]; done)) rfl rfl rfl rfl
    · refine x_iload_n dX7_join_66 x_get_3_2 ?_
      refine r_if_eq (t := 74) dX7_join_67 rfl hb (fun hc67 => ?_) (fun hc67 => ?_)
      · refine x_iconst dX7_join_74 ?_
        exact x_iret dX7_join_75 rfl (Nat.le_of_ble_eq_true rfl) (Nat.le_of_ble_eq_true rfl) (by rw [j_8]; first | (rw [x_B, if_pos (by omega)]; done) | (rw [x_B, if_neg (by omega)]; done)) rfl rfl rfl rfl
      · refine x_iconst dX7_join_70 ?_
        refine x_goto (t := 75) dX7_join_71 rfl ?_
        exact x_iret dX7_join_75 rfl (Nat.le_of_ble_eq_true rfl) (Nat.le_of_ble_eq_true rfl) (by rw [j_8]; first | (rw [x_B, if_pos (by omega)]; done) | (rw [x_B, if_neg (by omega)]; done)) rfl rfl rfl rfl
  · refine x_tswIn (t := 76) dX7_join_1 (by decide) (by decide) rfl rfl ?_
    refine x_iload_n dX7_join_76 x_get_3_1 ?_
    refine x_iload_n dX7_join_77 x_get_3_2 ?_
    refine r_icmp_ge (t := 85) dX7_join_78 rfl ha hb (fun hc78 => ?_) (fun hc78 => ?_)
    · refine x_iconst dX7_join_85 ?_
      exact x_iret dX7_join_86 rfl (Nat.le_of_ble_eq_true rfl) (Nat.le_of_ble_eq_true rfl) (by rw [j_10]; first | (rw [x_B, if_pos (by omega)]; done) | (rw [x_B, if_neg (by omega)]; done)) rfl rfl rfl rfl
    · refine x_iconst dX7_join_81 ?_
      refine x_goto (t := 86) dX7_join_82 rfl ?_
      exact x_iret dX7_join_86 rfl (Nat.le_of_ble_eq_true rfl) (Nat.le_of_ble_eq_true rfl) (by rw [j_10]; first | (rw [x_B, if_pos (by omega)]; done) | (rw [x_B, if_neg (by omega)]; done)) rfl rfl rfl rfl
  · refine x_tswIn (t := 87) dX7_join_1 (by decide) (by decide) rfl rfl ?_
    refine x_iload_n dX7_join_87 x_get_3_1 ?_
    refine x_iload_n dX7_join_88 x_get_3_2 ?_
    refine r_icmp_ne (t := 96) dX7_join_89 rfl ha hb (fun hc89 => ?_) (fun hc89 => ?_)
    · refine x_iconst dX7_join_96 ?_
      exact x_iret dX7_join_97 rfl (Nat.le_of_ble_eq_true rfl) (Nat.le_of_ble_eq_true rfl) (by rw [j_11]; first | (rw [x_B, if_pos (by omega)]; done) | (rw [x_B, if_neg (by omega)]; done)) rfl rfl rfl rfl
    · refine x_iconst dX7_join_92 ?_
      refine x_goto (t := 97) dX7_join_93 rfl ?_
      exact x_iret dX7_join_97 rfl (Nat.le_of_ble_eq_true rfl) (Nat.le_of_ble_eq_true rfl) (by rw [j_11]; first | (rw [x_B, if_pos (by omega)]; done) | (rw [x_B, if_neg (by omega)]; done)) rfl rfl rfl rfl
  · refine x_tswIn (t := 98) dX7_join_1 (by decide) (by decide) rfl rfl ?_
    refine x_iload_n dX7_join_98 x_get_3_1 ?_
    refine x_iload_n dX7_join_99 x_get_3_2 ?_
    refine x_iadd dX7_join_100 ?_
    exact x_iret dX7_join_101 rfl (Nat.le_of_ble_eq_true rfl) (Nat.le_of_ble_eq_true rfl) (by rw [j_12, xI_n]) rfl rfl rfl rfl
  · refine x_tswIn (t := 102) dX7_join_1 (by decide) (by decide) rfl rfl ?_
    refine x_iload_n dX7_join_102 x_get_3_1 ?_
    refine x_iload_n dX7_join_103 x_get_3_2 ?_
    refine x_isub dX7_join_104 ?_
    exact x_iret dX7_join_105 rfl (Nat.le_of_ble_eq_true rfl) (Nat.le_of_ble_eq_true rfl) (by rw [j_13, xI_n]) rfl rfl rfl rfl
  · refine x_tswIn (t := 106) dX7_join_1 (by decide) (by decide) rfl rfl ?_
    refine x_iload_n dX7_join_106 x_get_3_1 ?_
    refine x_iload_n dX7_join_107 x_get_3_2 ?_
    refine x_imul dX7_join_108 ?_
    exact x_iret dX7_join_109 rfl (Nat.le_of_ble_eq_true rfl) (Nat.le_of_ble_eq_true rfl) (by rw [j_14, xI_n]) rfl rfl rfl rfl
  · refine x_tswOut (t := 110) dX7_join_1 (by decide) rfl ?_
    refine x_iload_n dX7_join_110 x_get_3_2 ?_
    refine r_if_ne (t := 118) dX7_join_111 rfl hb (fun hc111 => ?_) (fun hc111 => ?_)
    · refine x_iload_n dX7_join_118 x_get_3_1 ?_
      refine x_iload_n dX7_join_119 x_get_3_2 ?_
      refine x_idiv dX7_join_120 (by rw [← xI_0, xI_eq, x_n0, x_n_of hb]; exact hc111) ?_
      exact x_iret dX7_join_121 rfl (Nat.le_of_ble_eq_true rfl) (Nat.le_of_ble_eq_true rfl) (by rw [j_15]; first | (rw [if_pos hc111]; done) | (rw [if_neg hc111]; done)) rfl rfl rfl rfl
    · refine x_iconst dX7_join_114 ?_
      refine x_goto (t := 121) dX7_join_115 rfl ?_
      exact x_iret dX7_join_121 rfl (Nat.le_of_ble_eq_true rfl) (Nat.le_of_ble_eq_true rfl) (by rw [j_15]; first | (rw [if_pos hc111]; done) | (rw [if_neg hc111]; done)) rfl rfl rfl rfl
theorem c7_clear {X : xC} {l : Launch} (hl : l.stackTraces = false) {N : Nat} {sh : xS} {D : xM} {ru : Nat} {ss sk : Nat} (hru : is_Ru N sh ru ss sk) : x_M X l yX7_clear cX7_clear 1 (none) 1 0 0 [.ref (x_b X + ru)] false N sh D (.inl none) false N sh (x_is (x_up D ru (x_u1 (x_u1 (x_u1 (D ru) 2 0) 3 0) 4 0))) := by
  obtain ⟨hruN, hru0, hssN, hss, hskN, hsk⟩ := id hru
  refine x_ofW (by decide +kernel) hl (by simp [Value.category]) (by simp) ?_
  refine x_aload_n dX7_clear_0 x_get_1_0 ?_
  refine x_iconst dX7_clear_1 ?_
  refine x_putI 2 dX7_clear_2 fX_7_18 rfl tX_7_2 (by assumption) (by assumption) (by rfl) ?_
  refine x_aload_n dX7_clear_5 x_get_1_0 ?_
  refine x_iconst dX7_clear_6 ?_
  refine x_putZ 3 dX7_clear_7 fX_7_22 rfl tX_7_3 (by assumption) (by assumption) (by rfl) (by omega) ?_
  refine x_aload_n dX7_clear_10 x_get_1_0 ?_
  refine x_iconst dX7_clear_11 ?_
  refine x_putZ 4 dX7_clear_12 fX_7_26 rfl tX_7_4 (by assumption) (by assumption) (by rfl) (by omega) ?_
  exact x_vret dX7_clear_15 rfl (Nat.le_of_ble_eq_true rfl) (Nat.le_of_ble_eq_true rfl) rfl rfl rfl (by show _ = _; simp only [x_up_s, x_up_up]) rfl
theorem c7_add {X : xC} {l : Launch} (hl : l.stackTraces = false) {N : Nat} {sh : xS} {D : xM} {ru : Nat} {ss sk : Nat} (hru : is_Ru N sh ru ss sk) {n : Nat} (hn : D ru 2 = n) (h0 : n < 700) (ha : D ru 4 = 0 ∨ D ru 4 = 1) {s : Int} (hs : x_r s) (hne : ¬ ru = ss) : x_M X l yX7_add cX7_add 2 (none) 1 0 0 [.ref (x_b X + ru), .int (xI s)] false N sh D (.inl none) false N sh (x_is (x_up (x_up D ss (x_u1 (D ss) n s)) ru (x_u1 (x_u1 (D ru) 2 (n + 1)) 4 (x_B (D ru 4 = 1 ∨ s = -6))))) := by
  obtain ⟨hruN, hru0, hssN, hss, hskN, hsk⟩ := id hru
  refine x_ofW (by decide +kernel) hl (by simp [Value.category]) (by simp) ?_
  have hr2 : x_r (D ru 2) := by rw [hn]; exact ⟨by omega, by omega⟩
  have hne2 : ¬ ss = ru := fun h => hne h.symm
  refine x_aload_n dX7_add_0 x_get_2_0 ?_
  refine x_getI 2 dX7_add_1 fX_7_18 rfl (by assumption) (by assumption) (by rfl) ?_
  refine x_sipush dX7_add_4 rfl ?_
  refine r_icmp_ge (t := 52) dX7_add_7 rfl hr2 ⟨by omega, by omega⟩ (fun hc7 => absurd hc7 (by omega)) (fun hc7 => ?_)
  refine x_aload_n dX7_add_10 x_get_2_0 ?_
  refine x_getR dX7_add_11 fX_7_9 (by assumption) (by assumption) (by rfl) ?_
  refine x_aload_n dX7_add_14 x_get_2_0 ?_
  refine x_getI 2 dX7_add_15 fX_7_18 rfl (by assumption) (by assumption) (by rfl) ?_
  refine x_iload_n dX7_add_18 x_get_2_1 ?_
  refine x_iast dX7_add_19 (by assumption) (by assumption) (by omega) (by omega) (by decide) ?_
  refine x_aload_n dX7_add_20 x_get_2_0 ?_
  refine x_dup dX7_add_21 rfl ?_
  refine x_getI 2 dX7_add_22 fX_7_18 rfl (by assumption) (by assumption) (by rfl) ?_
  simp (disch := omega) only [x_up_s, x_up_n, x_up_up, x_up_up2, x_u1_s, x_u1_n]
  refine x_iconst dX7_add_25 ?_
  refine x_iadd dX7_add_26 ?_
  refine x_putI 2 dX7_add_27 fX_7_18 rfl tX_7_2 (by assumption) (by assumption) (by rfl) ?_
  simp (disch := omega) only [x_up_s, x_up_n, x_up_up, x_up_up2, x_u1_s, x_u1_n]
  refine x_aload_n dX7_add_30 x_get_2_0 ?_
  refine x_aload_n dX7_add_31 x_get_2_0 ?_
  refine x_getI 4 dX7_add_32 fX_7_26 rfl (by assumption) (by assumption) (by rfl) ?_
  simp (disch := omega) only [x_up_s, x_up_n, x_up_up, x_up_up2, x_u1_s, x_u1_n]
  refine r_if_ne (t := 44) dX7_add_35 rfl (by first | exact ⟨by omega, by omega⟩ | assumption) (fun hc35 => ?_) (fun hc35 => ?_)
  · refine x_iconst dX7_add_44 ?_
    refine x_goto (t := 49) dX7_add_45 rfl ?_
    refine x_putZ 4 dX7_add_49 fX_7_26 rfl tX_7_4 (by assumption) (by assumption) (by rfl) (by omega) ?_
    simp (disch := omega) only [x_up_s, x_up_n, x_up_up, x_up_up2, x_u1_s, x_u1_n]
    exact x_vret dX7_add_52 rfl (Nat.le_of_ble_eq_true rfl) (Nat.le_of_ble_eq_true rfl) rfl rfl rfl (by show _ = _; first | (rw [x_B, if_pos (by omega), hn]; done) | (rw [x_B, if_neg (by omega), hn]; done)) rfl
  · refine x_iload_n dX7_add_38 x_get_2_1 ?_
    refine x_bipush dX7_add_39 rfl ?_
    refine r_icmp_ne (t := 48) dX7_add_41 rfl (by first | exact ⟨by omega, by omega⟩ | assumption) (by first | exact ⟨by omega, by omega⟩ | assumption) (fun hc41 => ?_) (fun hc41 => ?_)
    · refine x_iconst dX7_add_48 ?_
      refine x_putZ 4 dX7_add_49 fX_7_26 rfl tX_7_4 (by assumption) (by assumption) (by rfl) (by omega) ?_
      simp (disch := omega) only [x_up_s, x_up_n, x_up_up, x_up_up2, x_u1_s, x_u1_n]
      exact x_vret dX7_add_52 rfl (Nat.le_of_ble_eq_true rfl) (Nat.le_of_ble_eq_true rfl) rfl rfl rfl (by show _ = _; first | (rw [x_B, if_pos (by omega), hn]; done) | (rw [x_B, if_neg (by omega), hn]; done)) rfl
    · refine x_iconst dX7_add_44 ?_
      refine x_goto (t := 49) dX7_add_45 rfl ?_
      refine x_putZ 4 dX7_add_49 fX_7_26 rfl tX_7_4 (by assumption) (by assumption) (by rfl) (by omega) ?_
      simp (disch := omega) only [x_up_s, x_up_n, x_up_up, x_up_up2, x_u1_s, x_u1_n]
      exact x_vret dX7_add_52 rfl (Nat.le_of_ble_eq_true rfl) (Nat.le_of_ble_eq_true rfl) rfl rfl rfl (by show _ = _; first | (rw [x_B, if_pos (by omega), hn]; done) | (rw [x_B, if_neg (by omega), hn]; done)) rfl
theorem c7_work {X : xC} {l : Launch} (hl : l.stackTraces = false) {N : Nat} {sh : xS} {D : xM} {r a : Nat} (hs : is_St N sh r a) {la mk st ro ru sr : Nat} (hld : is_Ld N sh la mk st ro ru sr) {ss sk : Nat} (hru : is_Ru N sh ru ss sk) {t cr : Int} (h0 : 0 ≤ t) (h1 : t < 8) (hcr : x_r cr) {n : Nat} (hn : D ru 2 = n) (hn7 : n ≤ 700) (hst8 : ∀ j : Int, 0 ≤ j → j < n → x_r (D ss j) ∧ -15 ≤ D ss j) (hvr : ∀ s, x_r (o_val (D mk) (D st) (D a) cr t s)) (hgr : ∀ j, x_r (D sk j)) (hne : ¬ ru = sk ∧ ¬ ss = sk ∧ ¬ mk = sk ∧ ¬ st = sk ∧ ¬ a = sk) : x_M X l yX7_work cX7_work 8 (some .int) 2 0 0 [.ref (x_b X + ru), .ref (x_b X + la), .ref (x_b X + r), .int (xI t), .int (xI cr)] false N sh D (.inl (some (.int (xI ((o_run (D ss) (o_val (D mk) (D st) (D a) cr t) n).headD 0))))) false N sh (fun d => ∃ w, d = x_up D sk w ∧ ∀ j, x_r (w j)) := by
  obtain ⟨hrN, hr, haN, ha⟩ := id hs
  obtain ⟨hlaN, hla, hmkN, hmk, hstN, hst⟩ := id hld
  obtain ⟨hruN, hru0, hssN, hss, hskN, hsk⟩ := id hru
  obtain ⟨e1, e2, e3, e4, e5⟩ := hne
  refine x_ofW (by decide +kernel) hl (by simp [Value.category]) (by simp) ?_
  have hloop : ∀ i : Nat, i ≤ n → ∀ w : Int → Int, o_rep w ((o_run (D ss) (o_val (D mk) (D st) (D a) cr t) i)) → (∀ j, x_r (w j)) → x_W (X, l, yX7_work, cX7_work, 8, some .int, x_room 2 0 0, 0, 0, (.inl (some (.int (xI ((o_run (D ss) (o_val (D mk) (D st) (D a) cr t) n).headD 0))))), N, sh, (fun d => ∃ w, d = x_up D sk w ∧ ∀ j, x_r (w j)), false, []) 6 [some (.ref (x_b X + ru)), some (.ref (x_b X + la)), some (.ref (x_b X + r)), some (.int (xI t)), some (.int (xI cr)), some (.int (xI (((o_run (D ss) (o_val (D mk) (D st) (D a) cr t) i)).length : Int))), some (.int (xI i)), none] [] 0 0 false N sh (x_up D sk w) := by
    refine x_down n ?_ ?_
    · intro w hw hwr
      have hlen := hw.1
      refine x_iload dX7_work_6 x_get_8_6 ?_
      refine x_aload_n dX7_work_8 x_get_8_0 ?_
      refine x_getI 2 dX7_work_9 fX_7_18 rfl (by assumption) (by assumption) (by rfl) ?_
      simp (disch := assumption) only [x_up_s, x_up_n]
      rw [hn]
      refine r_icmp_ge (t := 168) dX7_work_12 rfl ⟨by omega, by omega⟩ ⟨by omega, by omega⟩ (fun hc12 => ?_) (fun hc12 => absurd hc12 (by omega))
      refine x_iload dX7_work_168 x_get_8_5 ?_
      refine x_iconst dX7_work_170 ?_
      generalize hlst : (o_run (D ss) (o_val (D mk) (D st) (D a) cr t) n) = lst at hw hlen ⊢
      cases lst with
      | nil =>
        refine r_icmp_lt (t := 186) dX7_work_171 rfl ⟨by omega, by omega⟩ ⟨by omega, by omega⟩ (fun hc => ?_) (fun hc => absurd hc (by simp))
        refine x_iconst dX7_work_186 ?_
        exact x_iret dX7_work_187 rfl (Nat.le_of_ble_eq_true rfl) (Nat.le_of_ble_eq_true rfl) rfl rfl rfl ⟨w, rfl, hwr⟩ rfl
      | cons v lst =>
        refine r_icmp_lt (t := 186) dX7_work_171 rfl ⟨by omega, by omega⟩ ⟨by omega, by omega⟩ (fun hc => absurd hc (by simp only [List.length_cons]; omega)) (fun hc => ?_)
        refine x_aload_n dX7_work_174 x_get_8_0 ?_
        refine x_getR dX7_work_175 fX_7_15 (by assumption) (by assumption) (by rfl) ?_
        refine x_iload dX7_work_178 x_get_8_5 ?_
        refine x_iconst dX7_work_180 ?_
        refine x_isub dX7_work_181 ?_
        refine x_ialdU dX7_work_182 (by assumption) (by assumption) (by simp only [List.length_cons] at hlen ⊢; omega) (by simp only [List.length_cons] at hlen ⊢; omega) (by decide) ?_
        refine x_goto (t := 187) dX7_work_183 rfl ?_
        exact x_iret dX7_work_187 rfl (Nat.le_of_ble_eq_true rfl) (Nat.le_of_ble_eq_true rfl) (by rw [o_rep_top hw]; rfl) rfl rfl ⟨w, rfl, hwr⟩ rfl
    · intro i hi ih w hw hwr
      have hlen := hw.1
      obtain ⟨hs1, hs2⟩ := hst8 i (by omega) (by omega)
      have hstp : (o_run (D ss) (o_val (D mk) (D st) (D a) cr t) (i + 1)) = o_st (o_val (D mk) (D st) (D a) cr t) ((o_run (D ss) (o_val (D mk) (D st) (D a) cr t) i)) (D ss i) := rfl
      rw [hstp] at ih
      generalize (o_run (D ss) (o_val (D mk) (D st) (D a) cr t) i) = lst at hw hlen ih ⊢
      have tail : ∀ (tp : Int) (w2 : Int → Int) (l2 : List Int), tp = l2.length → o_rep w2 l2 → (∀ j, x_r (w2 j)) → l2 = o_st (o_val (D mk) (D st) (D a) cr t) lst (D ss i) → x_W (X, l, yX7_work, cX7_work, 8, some .int, x_room 2 0 0, 0, 0, (.inl (some (.int (xI ((o_run (D ss) (o_val (D mk) (D st) (D a) cr t) n).headD 0))))), N, sh, (fun d => ∃ w, d = x_up D sk w ∧ ∀ j, x_r (w j)), false, []) 162 [some (.ref (x_b X + ru)), some (.ref (x_b X + la)), some (.ref (x_b X + r)), some (.int (xI t)), some (.int (xI cr)), some (.int (xI tp)), some (.int (xI i)), some (.int (xI (D ss i)))] [] 0 0 false N sh (x_up D sk w2) := by
        intro tp w2 l2 htp hw2 hwr2 hl2
        subst htp
        subst hl2
        refine x_iinc dX7_work_162 x_get_8_6 (Nat.le_of_ble_eq_true rfl) rfl x_set_8_6 ?_
        refine x_goto (t := 6) dX7_work_165 rfl ?_
        refine x_forget 7 ?_
        exact ih w2 hw2 hwr2
      generalize hsv : D ss i = s at hs1 hs2 tail
      refine x_iload dX7_work_6 x_get_8_6 ?_
      refine x_aload_n dX7_work_8 x_get_8_0 ?_
      refine x_getI 2 dX7_work_9 fX_7_18 rfl (by assumption) (by assumption) (by rfl) ?_
      simp (disch := assumption) only [x_up_s, x_up_n]
      first | rw [hn] | rw [hsv]
      refine r_icmp_ge (t := 168) dX7_work_12 rfl ⟨by omega, by omega⟩ ⟨by omega, by omega⟩ (fun hc12 => absurd hc12 (by omega)) (fun hc12 => ?_)
      refine x_aload_n dX7_work_15 x_get_8_0 ?_
      refine x_getR dX7_work_16 fX_7_9 (by assumption) (by assumption) (by rfl) ?_
      refine x_iload dX7_work_19 x_get_8_6 ?_
      refine x_iald dX7_work_21 (by assumption) (by assumption) (by omega) (by omega) (by decide) ?_
      simp (disch := assumption) only [x_up_s, x_up_n]
      first | rw [hn] | rw [hsv]
      refine x_istore dX7_work_22 (Nat.le_of_ble_eq_true rfl) rfl x_set_8_7 ?_
      refine x_iload dX7_work_24 x_get_8_7 ?_
      refine x_bipush dX7_work_26 rfl ?_
      refine r_icmp_lt (t := 81) dX7_work_28 rfl hs1 ⟨by omega, by omega⟩ (fun hc28 => ?_) (fun hc28 => ?_)
      · refine x_iload dX7_work_81 x_get_8_7 ?_
        refine x_bipush dX7_work_83 rfl ?_
        refine r_icmp_ne (t := 123) dX7_work_85 rfl hs1 ⟨by omega, by omega⟩ (fun hc85 => ?_) (fun hc85 => ?_)
        · refine x_iload dX7_work_123 x_get_8_5 ?_
          refine x_iconst dX7_work_125 ?_
          have hs9 : ¬ -6 ≤ s := by omega
          match lst, hw, hlen, tail with
          | [], hw, hlen, tail =>
            refine r_icmp_lt (t := 162) dX7_work_126 rfl ⟨by omega, by omega⟩ ⟨by omega, by omega⟩ (fun hc => ?_) (fun hc => absurd hc (by simp))
            refine tail _ w [] rfl hw hwr ?_
            rw [o_st, if_neg hs9, if_neg hc85]
          | [v], hw, hlen, tail =>
            refine r_icmp_lt (t := 162) dX7_work_126 rfl ⟨by omega, by omega⟩ ⟨by omega, by omega⟩ (fun hc => ?_) (fun hc => absurd hc (by simp))
            refine tail _ w [v] rfl hw hwr ?_
            rw [o_st, if_neg hs9, if_neg hc85]
          | b :: c :: lst, hw, hlen, tail =>
            refine r_icmp_lt (t := 162) dX7_work_126 rfl ⟨by omega, by omega⟩ ⟨by omega, by omega⟩ (fun hc => absurd hc (by simp only [List.length_cons]; omega)) (fun hc => ?_)
            have hx := o_rep_top hw
            have hy := o_rep_2nd hw
            have q1 : (((b :: c :: lst).length : Int) + -1 - 1) = ((c :: lst).length : Int) - 1 := by simp only [List.length_cons]; omega
            have q2 : (((b :: c :: lst).length : Int) + -1) = ((b :: c :: lst).length : Int) - 1 := by omega
            have q3 : ((c :: lst).length : Int) - 1 = ((b :: c :: lst).length : Int) - 2 := by simp only [List.length_cons]; omega
            refine x_iinc dX7_work_129 x_get_8_5 (Nat.le_of_ble_eq_true rfl) rfl x_set_8_5 ?_
            refine x_aload_n dX7_work_132 x_get_8_0 ?_
            refine x_getR dX7_work_133 fX_7_15 (by assumption) (by assumption) (by rfl) ?_
            refine x_iload dX7_work_136 x_get_8_5 ?_
            refine x_iconst dX7_work_138 ?_
            refine x_isub dX7_work_139 ?_
            refine x_as_is q1 ?_
            refine x_iload dX7_work_140 x_get_8_7 ?_
            refine x_aload_n dX7_work_142 x_get_8_0 ?_
            refine x_getR dX7_work_143 fX_7_15 (by assumption) (by assumption) (by rfl) ?_
            refine x_iload dX7_work_146 x_get_8_5 ?_
            refine x_iconst dX7_work_148 ?_
            refine x_isub dX7_work_149 ?_
            refine x_as_is (q1.trans q3) ?_
            refine x_ialdU dX7_work_150 (by assumption) (by assumption) (by simp only [List.length_cons] at hlen ⊢; omega) (by simp only [List.length_cons] at hlen ⊢; omega) (by decide) ?_
            refine x_aload_n dX7_work_151 x_get_8_0 ?_
            refine x_getR dX7_work_152 fX_7_15 (by assumption) (by assumption) (by rfl) ?_
            refine x_iload dX7_work_155 x_get_8_5 ?_
            refine x_as_is q2 ?_
            refine x_ialdU dX7_work_157 (by assumption) (by assumption) (by simp only [List.length_cons] at hlen ⊢; omega) (by simp only [List.length_cons] at hlen ⊢; omega) (by decide) ?_
            refine x_callS (As := [_, _, _]) dX7_work_158 w_7_65 (c7_join hl (hwr _) (hwr _) (by omega)) rfl rfl (Nat.le_of_ble_eq_true rfl) (Nat.le_of_ble_eq_true rfl) (Nat.le_of_ble_eq_true rfl) (Nat.le_of_ble_eq_true rfl) (Nat.le_of_ble_eq_true rfl) ?_
            rintro _ rfl
            refine x_iastU dX7_work_161 (by assumption) (by assumption) (by simp only [List.length_cons] at hlen ⊢; omega) (by simp only [List.length_cons] at hlen ⊢; omega) (by decide) ?_
            refine tail _ _ (j_op s c b :: lst) (by rw [q2]; simp only [List.length_cons]; omega) ?_ (x_up_rr hwr (j_op_r _ _ _)) ?_
            · rw [hx, hy]
              exact o_rep_set (o_rep_pop hw) _
            · rw [o_st, if_neg hs9, if_neg hc85]
        · refine x_iload dX7_work_88 x_get_8_5 ?_
          refine x_iconst dX7_work_90 ?_
          have hs9 : ¬ -6 ≤ s := by omega
          cases lst with
          | nil =>
            refine r_icmp_lt (t := 162) dX7_work_91 rfl ⟨by omega, by omega⟩ ⟨by omega, by omega⟩ (fun hc => ?_) (fun hc => absurd hc (by simp))
            refine tail _ w [] rfl hw hwr ?_
            rw [o_st, if_neg hs9, if_pos hc85]
          | cons v lst =>
            refine r_icmp_lt (t := 162) dX7_work_91 rfl ⟨by omega, by omega⟩ ⟨by omega, by omega⟩ (fun hc => absurd hc (by simp only [List.length_cons]; omega)) (fun hc => ?_)
            have hx := o_rep_top hw
            have fin : ∀ z : Int, z = x_B (v = 0) → x_W (X, l, yX7_work, cX7_work, 8, some .int, x_room 2 0 0, 0, 0, (.inl (some (.int (xI ((o_run (D ss) (o_val (D mk) (D st) (D a) cr t) n).headD 0))))), N, sh, (fun d => ∃ w, d = x_up D sk w ∧ ∀ j, x_r (w j)), false, []) 119 [some (.ref (x_b X + ru)), some (.ref (x_b X + la)), some (.ref (x_b X + r)), some (.int (xI t)), some (.int (xI cr)), some (.int (xI ((v :: lst).length : Int))), some (.int (xI i)), some (.int (xI s))] [.int (xI z), .int (xI (((v :: lst).length : Int) - 1)), .ref (x_b X + sk)] 0 0 false N sh (x_up D sk w) := by
              intro z hz
              refine x_iastU dX7_work_119 (by assumption) (by assumption) (by simp only [List.length_cons] at hlen ⊢; omega) (by simp only [List.length_cons] at hlen ⊢; omega) (by decide) ?_
              refine x_goto (t := 162) dX7_work_120 rfl ?_
              refine tail _ _ (z :: lst) rfl (o_rep_set hw z) (x_up_rr hwr (by rw [hz]; exact x_r_B _)) ?_
              rw [o_st, if_neg hs9, if_pos hc85, hz]
            refine x_aload_n dX7_work_94 x_get_8_0 ?_
            refine x_getR dX7_work_95 fX_7_15 (by assumption) (by assumption) (by rfl) ?_
            refine x_iload dX7_work_98 x_get_8_5 ?_
            refine x_iconst dX7_work_100 ?_
            refine x_isub dX7_work_101 ?_
            refine x_aload_n dX7_work_102 x_get_8_0 ?_
            refine x_getR dX7_work_103 fX_7_15 (by assumption) (by assumption) (by rfl) ?_
            refine x_iload dX7_work_106 x_get_8_5 ?_
            refine x_iconst dX7_work_108 ?_
            refine x_isub dX7_work_109 ?_
            refine x_ialdU dX7_work_110 (by assumption) (by assumption) (by simp only [List.length_cons] at hlen ⊢; omega) (by simp only [List.length_cons] at hlen ⊢; omega) (by decide) ?_
            refine r_if_ne (t := 118) dX7_work_111 rfl (hwr _) (fun hc111 => ?_) (fun hc111 => ?_)
            · refine x_iconst dX7_work_118 ?_
              refine fin _ ?_
              rw [x_B, if_neg (by rw [← hx]; exact hc111)]
            · refine x_iconst dX7_work_114 ?_
              refine x_goto (t := 119) dX7_work_115 rfl ?_
              refine fin _ ?_
              rw [x_B, if_pos (by rw [← hx]; exact hc111)]
      · refine x_iload dX7_work_31 x_get_8_5 ?_
        refine x_bipush dX7_work_33 rfl ?_
        refine r_icmp_ge (t := 162) dX7_work_35 rfl ⟨by omega, by omega⟩ ⟨by omega, by omega⟩ (fun hc35 => ?_) (fun hc35 => ?_)
        · refine tail _ w lst rfl hw hwr ?_
          rw [o_st.eq_def, if_pos hc28, if_neg (by omega)]
        · refine x_aload_n dX7_work_38 x_get_8_0 ?_
          refine x_getR dX7_work_39 fX_7_15 (by assumption) (by assumption) (by rfl) ?_
          refine x_iload dX7_work_42 x_get_8_5 ?_
          have push : ∀ v : Int, x_r v → (if 0 ≤ s then s else (o_val (D mk) (D st) (D a) cr t) s) = v → x_W (X, l, yX7_work, cX7_work, 8, some .int, x_room 2 0 0, 0, 0, (.inl (some (.int (xI ((o_run (D ss) (o_val (D mk) (D st) (D a) cr t) n).headD 0))))), N, sh, (fun d => ∃ w, d = x_up D sk w ∧ ∀ j, x_r (w j)), false, []) 74 [some (.ref (x_b X + ru)), some (.ref (x_b X + la)), some (.ref (x_b X + r)), some (.int (xI t)), some (.int (xI cr)), some (.int (xI (lst.length : Int))), some (.int (xI i)), some (.int (xI s))] [.int (xI v), .int (xI (lst.length : Int)), .ref (x_b X + sk)] 0 0 false N sh (x_up D sk w) := by
            intro v hv hev
            refine x_iastU dX7_work_74 (by assumption) (by assumption) (by omega) (by omega) (by decide) ?_
            refine x_iinc dX7_work_75 x_get_8_5 (Nat.le_of_ble_eq_true rfl) rfl x_set_8_5 ?_
            refine x_goto (t := 162) dX7_work_78 rfl ?_
            refine tail _ _ (v :: lst) (by simp) (o_rep_push hw (by omega) v) (x_up_rr hwr hv) ?_
            rw [o_st.eq_def, if_pos hc28, if_pos (by omega), hev]
          refine x_iload dX7_work_44 x_get_8_7 ?_
          refine r_if_lt (t := 54) dX7_work_46 rfl hs1 (fun hc46 => ?_) (fun hc46 => ?_)
          · refine x_iload dX7_work_54 x_get_8_7 ?_
            refine x_bipush dX7_work_56 rfl ?_
            refine r_icmp_ne (t := 66) dX7_work_58 rfl hs1 ⟨by omega, by omega⟩ (fun hc58 => ?_) (fun hc58 => ?_)
            · refine x_iload dX7_work_66 x_get_8_7 ?_
              refine x_aload_n dX7_work_68 x_get_8_1 ?_
              refine x_aload_n dX7_work_69 x_get_8_2 ?_
              refine x_iload_n dX7_work_70 x_get_8_3 ?_
              refine x_callS (As := [_, _, _, _]) dX7_work_71 w_7_61 (c7_valueOf hl hs hld h0 h1 (by omega)) rfl rfl (Nat.le_of_ble_eq_true rfl) (Nat.le_of_ble_eq_true rfl) (Nat.le_of_ble_eq_true rfl) (Nat.le_of_ble_eq_true rfl) (Nat.le_of_ble_eq_true rfl) ?_
              rintro _ rfl
              refine push _ ?_ ?_
              · rw [x_up_n e3, x_up_n e4, x_up_n e5]
                have := hvr s
                unfold o_val at this ⊢
                rw [if_neg hc58] at this ⊢
                exact this
              · rw [if_neg (by omega), x_up_n e3, x_up_n e4, x_up_n e5]
                unfold o_val
                rw [if_neg hc58, if_neg hc58]
            · refine x_iload dX7_work_61 x_get_8_4 ?_
              refine x_goto (t := 74) dX7_work_63 rfl ?_
              refine push _ hcr ?_
              rw [if_neg (by omega), o_val, if_pos hc58]
          · refine x_iload dX7_work_49 x_get_8_7 ?_
            refine x_goto (t := 74) dX7_work_51 rfl ?_
            refine push _ hs1 ?_
            rw [if_pos (by omega)]
  refine x_mem (x_up_id (k := sk)).symm ?_
  refine x_iconst dX7_work_0 ?_
  refine x_istore dX7_work_1 (Nat.le_of_ble_eq_true rfl) rfl x_set_8_5 ?_
  refine x_iconst dX7_work_3 ?_
  refine x_istore dX7_work_4 (Nat.le_of_ble_eq_true rfl) rfl x_set_8_6 ?_
  exact hloop 0 (Nat.zero_le _) (D sk) ⟨by simp [o_run], fun k v h => by simp [o_run] at h⟩ hgr
theorem c7_odds {X : xC} {l : Launch} (hl : l.stackTraces = false) {N : Nat} {sh : xS} {D : xM} {r a : Nat} (hs : is_St N sh r a) {la mk st ro ru sr : Nat} (hld : is_Ld N sh la mk st ro ru sr) {ss sk : Nat} (hru : is_Ru N sh ru ss sk) {B : Int} (hB : B ≤ 1000000) (hk : s_ok B (D a)) {t : Int} (h0 : 0 ≤ t) (h1 : t < 8) {C : Nat} (hC : D la 1 = C) (hC1 : C ≤ 10) {n : Nat} (hn : D ru 2 = n) (hrl : is_rule D ru ss n) (hmk8 : ∀ j, x_r (D mk j)) (hst8 : ∀ j, x_r (D st j)) (hgr : ∀ j, x_r (D sk j)) (hne : ¬ ru = sk ∧ ¬ ss = sk ∧ ¬ mk = sk ∧ ¬ st = sk ∧ ¬ a = sk) : x_M X l yX7_odds cX7_odds 6 (some .int) 3 0 0 [.ref (x_b X + ru), .ref (x_b X + la), .ref (x_b X + r), .int (xI t)] false N sh D (.inl (some (.int (xI (o_odds (D ru 3) (D ru 4) (D ss) n (D mk) (D st) C (D a) t))))) false N sh (fun d => ∃ w, d = x_up D sk w ∧ ∀ j, x_r (w j)) := by
  obtain ⟨hrN, hr, haN, ha⟩ := id hs
  obtain ⟨hlaN, hla, hmkN, hmk, hstN, hst⟩ := id hld
  obtain ⟨hruN, hru0, hssN, hss, hskN, hsk⟩ := id hru
  obtain ⟨r1, r2, r3, r4⟩ := id hrl
  obtain ⟨u1, u2, u3⟩ := s_tn hk h0 h1
  have hbl := s_bits_lt (fun c => s_in (D a) t c) C
  have hb10 : s_bits (fun c => s_in (D a) t c) C < 1024 := Nat.lt_of_lt_of_le hbl (Nat.pow_le_pow_right (by decide) hC1)
  have hpop : ∀ m : Nat, m < 1024 → s_pop m ≤ 10 := by decide +kernel
  have hvr : ∀ cr : Int, x_r cr → ∀ s, x_r (o_val (D mk) (D st) (D a) cr t s) := by
    intro cr hcr s
    unfold o_val
    repeat' split
    all_goals first | exact hcr | exact hmk8 _ | exact hst8 _ | exact s_r hk hB (by omega) (by omega)
  refine x_ofW (by decide +kernel) hl (by simp [Value.category]) (by simp) ?_
  have fin : ∀ (z : Int) (v5 : Option Value) (d : xM), x_r z → o_cl z = (o_odds (D ru 3) (D ru 4) (D ss) n (D mk) (D st) C (D a) t) → (fun d => ∃ w, d = x_up D sk w ∧ ∀ j, x_r (w j)) d → x_W (X, l, yX7_odds, cX7_odds, 6, some .int, x_room 3 0 0, 0, 0, (.inl (some (.int (xI (o_odds (D ru 3) (D ru 4) (D ss) n (D mk) (D st) C (D a) t))))), N, sh, (fun d => ∃ w, d = x_up D sk w ∧ ∀ j, x_r (w j)), false, []) 75 [some (.ref (x_b X + ru)), some (.ref (x_b X + la)), some (.ref (x_b X + r)), some (.int (xI t)), some (.int (xI z)), v5] [] 0 0 false N sh d := by
    intro z v5 d hz hod hd
    obtain ⟨hz1, hz2⟩ := id hz
    refine x_iconst dX7_odds_75 ?_
    refine x_bipush dX7_odds_76 rfl ?_
    refine x_iload dX7_odds_78 x_get_6_4 ?_
    refine r_min dX7_odds_80 w_7_53 (by first | exact ⟨by omega, by omega⟩ | exact hz) (by first | exact ⟨by omega, by omega⟩ | exact hz) (Nat.le_of_ble_eq_true rfl) (Nat.le_of_ble_eq_true rfl) (Nat.le_of_ble_eq_true rfl) (Nat.le_of_ble_eq_true rfl) ?_
    refine r_max dX7_odds_83 w_7_58 (by first | exact ⟨by omega, by omega⟩ | exact hz) (by first | exact ⟨by omega, by omega⟩ | exact hz) (Nat.le_of_ble_eq_true rfl) (Nat.le_of_ble_eq_true rfl) (Nat.le_of_ble_eq_true rfl) (Nat.le_of_ble_eq_true rfl) ?_
    exact x_iret dX7_odds_86 rfl (Nat.le_of_ble_eq_true rfl) (Nat.le_of_ble_eq_true rfl) (by rw [← hod]; rfl) rfl rfl hd rfl
  have wk : ∀ cr : Int, x_r cr → ¬ D ru 3 = 0 → cr = (if D ru 4 = 0 then (0 : Int) else ((s_pop (s_bits (fun c => s_in (D a) t c) C) : Nat) : Int)) → x_W (X, l, yX7_odds, cX7_odds, 6, some .int, x_room 3 0 0, 0, 0, (.inl (some (.int (xI (o_odds (D ru 3) (D ru 4) (D ss) n (D mk) (D st) C (D a) t))))), N, sh, (fun d => ∃ w, d = x_up D sk w ∧ ∀ j, x_r (w j)), false, []) 30 [some (.ref (x_b X + ru)), some (.ref (x_b X + la)), some (.ref (x_b X + r)), some (.int (xI t)), none, none] [.int (xI cr)] 0 0 false N sh D := by
    intro cr hcr ht hcq
    refine x_istore dX7_odds_30 (Nat.le_of_ble_eq_true rfl) rfl x_set_6_5 ?_
    refine x_aload_n dX7_odds_32 x_get_6_0 ?_
    refine x_aload_n dX7_odds_33 x_get_6_1 ?_
    refine x_aload_n dX7_odds_34 x_get_6_2 ?_
    refine x_iload_n dX7_odds_35 x_get_6_3 ?_
    refine x_iload dX7_odds_36 x_get_6_5 ?_
    refine x_callV (As := [_, _, _, _]) dX7_odds_38 w_7_46 (c7_work hl hs hld hru h0 h1 hcr hn r2 r3 (hvr _ hcr) hgr hne) (by assumption) (by assumption) rfl rfl (Nat.le_of_ble_eq_true rfl) (Nat.le_of_ble_eq_true rfl) (Nat.le_of_ble_eq_true rfl) (Nat.le_of_ble_eq_true rfl) (Nat.le_of_ble_eq_true rfl) ?_
    rintro d ⟨w, rfl, hw⟩
    refine x_istore dX7_odds_41 (Nat.le_of_ble_eq_true rfl) rfl x_set_6_4 ?_
    refine x_goto (t := 75) dX7_odds_43 rfl ?_
    refine fin _ _ _ (o_head_r r3 (hvr _ hcr) n (Nat.le_refl _)) ?_ ⟨w, rfl, hw⟩
    rw [o_odds, if_neg ht, ← hcq]
  refine x_aload_n dX7_odds_0 x_get_6_0 ?_
  refine x_getI 3 dX7_odds_1 fX_7_22 rfl (by assumption) (by assumption) (by rfl) ?_
  refine r_if_eq (t := 46) dX7_odds_4 rfl ⟨by omega, by omega⟩ (fun hc4 => ?_) (fun hc4 => ?_)
  · refine x_bipush dX7_odds_46 rfl ?_
    refine x_aload_n dX7_odds_48 x_get_6_2 ?_
    refine x_getR dX7_odds_49 fX_7_50 (by assumption) (by assumption) (by rfl) ?_
    refine x_iconst dX7_odds_52 ?_
    refine x_iload_n dX7_odds_53 x_get_6_3 ?_
    refine x_iadd dX7_odds_54 ?_
    refine x_iald dX7_odds_55 (by assumption) (by assumption) (by omega) (by omega) (by decide) ?_
    refine x_bipush dX7_odds_56 rfl ?_
    refine x_idiv dX7_odds_58 (by decide) ?_
    refine x_as_is (x_dv_nn (by omega) (by omega) (by decide) (by decide)) ?_
    refine x_iadd dX7_odds_59 ?_
    refine x_aload_n dX7_odds_60 x_get_6_2 ?_
    refine x_getR dX7_odds_61 fX_7_50 (by assumption) (by assumption) (by rfl) ?_
    refine x_bipush dX7_odds_64 rfl ?_
    refine x_iload_n dX7_odds_66 x_get_6_3 ?_
    refine x_iadd dX7_odds_67 ?_
    refine x_iald dX7_odds_68 (by assumption) (by assumption) (by omega) (by omega) (by decide) ?_
    refine x_bipush dX7_odds_69 rfl ?_
    refine x_idiv dX7_odds_71 (by decide) ?_
    refine x_as_is (x_dv_nn (by omega) (by omega) (by decide) (by decide)) ?_
    refine x_isub dX7_odds_72 ?_
    refine x_istore dX7_odds_73 (Nat.le_of_ble_eq_true rfl) rfl x_set_6_4 ?_
    refine fin _ _ _ ⟨by omega, by omega⟩ ?_ ⟨D sk, x_up_id.symm, hgr⟩
    rw [o_odds, if_pos hc4]
  · refine x_aload_n dX7_odds_7 x_get_6_0 ?_
    refine x_getI 4 dX7_odds_8 fX_7_26 rfl (by assumption) (by assumption) (by rfl) ?_
    refine r_if_eq (t := 29) dX7_odds_11 rfl ⟨by omega, by omega⟩ (fun hc11 => ?_) (fun hc11 => ?_)
    · refine x_iconst dX7_odds_29 ?_
      first | exact wk _ x_r0 hc4 (by rw [if_pos hc11]) | exact wk _ ⟨by have := hpop _ hb10; omega, by have := hpop _ hb10; omega⟩ hc4 (by rw [if_neg hc11])
    · refine x_aload_n dX7_odds_14 x_get_6_2 ?_
      refine x_aload_n dX7_odds_15 x_get_6_1 ?_
      refine x_getI 1 dX7_odds_16 fX_7_29 rfl (by assumption) (by assumption) (by rfl) ?_
      rw [hC]
      refine x_iload_n dX7_odds_19 x_get_6_3 ?_
      refine x_callV (As := [_, _]) dX7_odds_20 w_7_34 (c9_bitsIn hl hs hB hk hC1 ⟨by omega, by omega⟩) (by assumption) (by assumption) rfl rfl (Nat.le_of_ble_eq_true rfl) (Nat.le_of_ble_eq_true rfl) (Nat.le_of_ble_eq_true rfl) (Nat.le_of_ble_eq_true rfl) (Nat.le_of_ble_eq_true rfl) ?_
      rintro _ rfl
      refine x_callS (As := [_]) dX7_odds_23 w_7_40 (cJ_bitCount hl hb10) rfl rfl (Nat.le_of_ble_eq_true rfl) (Nat.le_of_ble_eq_true rfl) (Nat.le_of_ble_eq_true rfl) (Nat.le_of_ble_eq_true rfl) (Nat.le_of_ble_eq_true rfl) ?_
      rintro _ rfl
      refine x_goto (t := 30) dX7_odds_26 rfl ?_
      first | exact wk _ x_r0 hc4 (by rw [if_pos hc11]) | exact wk _ ⟨by have := hpop _ hb10; omega, by have := hpop _ hb10; omega⟩ hc4 (by rw [if_neg hc11])
end C7
