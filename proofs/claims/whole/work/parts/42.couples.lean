section C42
/-! couples of a crate and a day -/
def is_Co (N : Nat) (sh : xS) (co : Nat) : Prop := co + 8 < N ∧ sh co = .inr (1, [co + 1 + 3, co + 2 + 3, co + 3 + 3, co + 4 + 3, co + 5 + 3, co + 7 + 3]) ∧ sh (co + 1) = .inl (0, 248) ∧ sh (co + 2) = .inl (0, 3100) ∧ sh (co + 3) = .inl (0, 10) ∧ sh (co + 4) = .inl (2, 100) ∧ is_St N sh (co + 5) (co + 6) ∧ is_St N sh (co + 7) (co + 8)
def co_ok (D : xM) (co : Nat) : Prop := (∀ j, 0 ≤ D (co + 1) j ∧ D (co + 1) j ≤ 9999) ∧ (∀ j, 0 ≤ D (co + 2) j ∧ D (co + 2) j ≤ 9999) ∧ (∀ j, 0 ≤ D (co + 3) j ∧ D (co + 3) j ≤ 7) ∧ (∀ j, D (co + 4) j = 0 ∨ D (co + 4) j = 1)
/-- what was seen, by its places -/
def se_ok (D : xM) (se n : Nat) : Prop := D se 3 = n ∧ n ≤ 8 ∧ ∀ j : Int, 0 ≤ j → j < n → (0 ≤ D (se + 1) j ∧ D (se + 1) j ≤ 7) ∧ (0 ≤ D (se + 2) j ∧ D (se + 2) j ≤ 30) ∧ (0 ≤ D (se + 3) j ∧ D (se + 3) j ≤ 9999)
abbrev u_pfit (pl sT sD sL : Int → Int) (n : Nat) : Prop := ∀ j : Nat, j < n → pl (sT j * 31 + sD j) = sL j
abbrev u_cfit (pl cr wh sT sD sL : Int → Int) (n : Nat) (i : Int) : Prop := ∀ j : Nat, j < n → (if sT j = wh (i / 10) then cr (i * 31 + sD j) else pl (sT j * 31 + sD j)) = sL j
abbrev u_new (fi wh cr : Int → Int) (day : Int) (i : Nat) : Prop := ∀ j : Nat, j < i → ¬ (¬ fi j = 0 ∧ wh ((j : Int) / 10) = wh ((i : Int) / 10) ∧ cr ((j : Int) * 31 + day) = cr ((i : Int) * 31 + day))
def u_st (pl cr wh fi : Int → Int) (day : Int) : Nat → Int × Int
  | 0 => (0, 0)
  | i + 1 => if fi i = 0 then u_st pl cr wh fi day i else if cr ((i : Int) * 31 + day) = pl (wh ((i : Int) / 10) * 31 + day) then (1, (u_st pl cr wh fi day i).2) else if u_new fi wh cr day i then ((u_st pl cr wh fi day i).1, (u_st pl cr wh fi day i).2 + 1) else u_st pl cr wh fi day i
theorem u_st_s {pl cr wh fi : Int → Int} {day : Int} {i : Nat} : u_st pl cr wh fi day (i + 1) = if fi i = 0 then u_st pl cr wh fi day i else if cr ((i : Int) * 31 + day) = pl (wh ((i : Int) / 10) * 31 + day) then (1, (u_st pl cr wh fi day i).2) else if u_new fi wh cr day i then ((u_st pl cr wh fi day i).1, (u_st pl cr wh fi day i).2 + 1) else u_st pl cr wh fi day i := rfl
theorem w_1_88 : x_cv RX1 88 yX1_isFirstOfItsLike cX1_isFirstOfItsLike 4 (some .boolean) 1 2 := ⟨⟨_, rfl, rfl⟩, (x_in 1205 (by decide +kernel) rfl), (x_in 1206 (by decide +kernel) rfl), (x_in 1207 (by decide +kernel) rfl), (x_in 88 (by decide +kernel) rfl), (x_in 1208 (by decide +kernel) rfl), by decide, ⟨by decide +kernel, by decide +kernel, by decide +kernel⟩⟩
theorem c1_pfit {X : xC} {l : Launch} (hl : l.stackTraces = false) {N : Nat} {sh : xS} {D : xM} {co : Nat} (hco : is_Co N sh co) (hok : co_ok D co) {se n : Nat} (hE : is_Se N sh se) (hse : se_ok D se n) : x_M X l yX1_plainFits cX1_plainFits 3 (some .boolean) 1 0 0 [.ref (x_b X + co), .ref (x_b X + se)] false N sh D (.inl (some (.int (xI (x_B (u_pfit (D (co + 1)) (D (se + 1)) (D (se + 2)) (D (se + 3)) n)))))) false N sh (x_is (D)) := by
  obtain ⟨hco8, hc0, hk1, hk2, hk3, hk4, hS5, hS7⟩ := id hco
  have hcoN : co < N := by omega
  have hcN1 : co + 1 < N := by omega
  have hcN2 : co + 2 < N := by omega
  have hcN3 : co + 3 < N := by omega
  have hcN4 : co + 4 < N := by omega
  obtain ⟨hcN5, hk5, hcN6, hk6⟩ := id hS5
  obtain ⟨hcN7, hk7, hcN8, hk8⟩ := id hS7
  obtain ⟨b1, b2, b3, b4⟩ := id hok
  obtain ⟨hse3, hse0, hs1, hs2, hs3⟩ := id hE
  have hseN : se < N := by omega
  have hs1N : se + 1 < N := by omega
  have hs2N : se + 2 < N := by omega
  have hs3N : se + 3 < N := by omega
  obtain ⟨e0, e1, e2⟩ := id hse
  refine x_ofW (by decide +kernel) hl (by simp [Value.category]) (by simp) ?_
  have hloop : ∀ i : Nat, i ≤ n → (∀ j : Nat, j < i → (D (co + 1)) ((D (se + 1)) j * 31 + (D (se + 2)) j) = (D (se + 3)) j) → x_W (X, l, yX1_plainFits, cX1_plainFits, 3, some .boolean, x_room 1 0 0, 0, 0, (.inl (some (.int (xI (x_B (u_pfit (D (co + 1)) (D (se + 1)) (D (se + 2)) (D (se + 3)) n)))))), N, sh, (x_is (D)), false, []) 2 [some (.ref (x_b X + co)), some (.ref (x_b X + se)), some (.int (xI i))] [] 0 0 false N sh D := by
    refine x_down n ?_ ?_
    · intro hp
      refine x_iload_n dX1_plainFits_2 x_get_3_2 ?_
      refine x_aload_n dX1_plainFits_3 x_get_3_1 ?_
      refine x_getI 3 dX1_plainFits_4 fX_1_52 rfl (by assumption) (by assumption) (by rfl) ?_
      rw [e0]
      refine r_icmp_ge (t := 48) dX1_plainFits_7 rfl ⟨by omega, by omega⟩ ⟨by omega, by omega⟩ (fun hc7 => ?_) (fun hc7 => absurd hc7 (by omega))
      refine x_iconst dX1_plainFits_48 ?_
      exact x_zret dX1_plainFits_49 rfl (by omega) (Nat.le_of_ble_eq_true rfl) (Nat.le_of_ble_eq_true rfl) (by rw [x_B, if_pos hp]) rfl rfl rfl rfl
    · intro i hi ih
      intro hp
      obtain ⟨t1, t2, t3⟩ := e2 i (by omega) (by omega)
      refine x_iload_n dX1_plainFits_2 x_get_3_2 ?_
      refine x_aload_n dX1_plainFits_3 x_get_3_1 ?_
      refine x_getI 3 dX1_plainFits_4 fX_1_52 rfl (by assumption) (by assumption) (by rfl) ?_
      rw [e0]
      refine r_icmp_ge (t := 48) dX1_plainFits_7 rfl (by first | exact ⟨by omega, by omega⟩ | exact x_rb (b1 _) (by decide) | exact x_rb (b2 _) (by decide) | exact x_rb (b3 _) (by decide) | assumption) (by first | exact ⟨by omega, by omega⟩ | exact x_rb (b1 _) (by decide) | exact x_rb (b2 _) (by decide) | exact x_rb (b3 _) (by decide) | assumption) (fun hc7 => absurd hc7 (by omega)) (fun hc7 => ?_)
      refine x_aload_n dX1_plainFits_10 x_get_3_0 ?_
      refine x_getR dX1_plainFits_11 fX_1_11 (by assumption) (by assumption) (by rfl) ?_
      refine x_aload_n dX1_plainFits_14 x_get_3_1 ?_
      refine x_getR dX1_plainFits_15 fX_1_57 (by assumption) (by assumption) (by rfl) ?_
      refine x_iload_n dX1_plainFits_18 x_get_3_2 ?_
      refine x_iald dX1_plainFits_19 (by assumption) (by assumption) (by omega) (by omega) (by decide) ?_
      refine x_bipush dX1_plainFits_20 rfl ?_
      refine x_imul dX1_plainFits_22 ?_
      refine x_aload_n dX1_plainFits_23 x_get_3_1 ?_
      refine x_getR dX1_plainFits_24 fX_1_59 (by assumption) (by assumption) (by rfl) ?_
      refine x_iload_n dX1_plainFits_27 x_get_3_2 ?_
      refine x_iald dX1_plainFits_28 (by assumption) (by assumption) (by omega) (by omega) (by decide) ?_
      refine x_iadd dX1_plainFits_29 ?_
      refine x_iald dX1_plainFits_30 (by assumption) (by assumption) (by omega) (by omega) (by decide) ?_
      refine x_aload_n dX1_plainFits_31 x_get_3_1 ?_
      refine x_getR dX1_plainFits_32 fX_1_62 (by assumption) (by assumption) (by rfl) ?_
      refine x_iload_n dX1_plainFits_35 x_get_3_2 ?_
      refine x_iald dX1_plainFits_36 (by assumption) (by assumption) (by omega) (by omega) (by decide) ?_
      refine r_icmp_eq (t := 42) dX1_plainFits_37 rfl (by first | exact ⟨by omega, by omega⟩ | exact x_rb (b1 _) (by decide) | exact x_rb (b2 _) (by decide) | exact x_rb (b3 _) (by decide) | assumption) (by first | exact ⟨by omega, by omega⟩ | exact x_rb (b1 _) (by decide) | exact x_rb (b2 _) (by decide) | exact x_rb (b3 _) (by decide) | assumption) (fun hc37 => ?_) (fun hc37 => ?_)
      · refine x_iinc dX1_plainFits_42 x_get_3_2 (Nat.le_of_ble_eq_true rfl) rfl x_set_3_2 ?_
        refine x_goto (t := 2) dX1_plainFits_45 rfl ?_
        exact ih (fun j hj => by
          by_cases h : j = i
          · rw [h]; exact hc37
          · exact hp j (by omega))
      · refine x_iconst dX1_plainFits_40 ?_
        exact x_zret dX1_plainFits_41 rfl (by omega) (Nat.le_of_ble_eq_true rfl) (Nat.le_of_ble_eq_true rfl) (by rw [x_B, if_neg (fun h => hc37 (h i hi))]) rfl rfl rfl rfl
  refine x_iconst dX1_plainFits_0 ?_
  refine x_istore_n dX1_plainFits_1 (Nat.le_of_ble_eq_true rfl) rfl x_set_3_2 ?_
  exact hloop 0 (Nat.zero_le _) (fun j hj => by omega)
theorem c1_cfit {X : xC} {l : Launch} (hl : l.stackTraces = false) {N : Nat} {sh : xS} {D : xM} {co : Nat} (hco : is_Co N sh co) (hok : co_ok D co) {se n : Nat} (hE : is_Se N sh se) (hse : se_ok D se n) {i0 : Int} (h0 : 0 ≤ i0) (h1 : i0 < 100) : x_M X l yX1_courseFits cX1_courseFits 6 (some .boolean) 1 0 0 [.ref (x_b X + co), .int (xI i0), .ref (x_b X + se)] false N sh D (.inl (some (.int (xI (x_B (u_cfit (D (co + 1)) (D (co + 2)) (D (co + 3)) (D (se + 1)) (D (se + 2)) (D (se + 3)) n i0)))))) false N sh (x_is (D)) := by
  obtain ⟨hco8, hc0, hk1, hk2, hk3, hk4, hS5, hS7⟩ := id hco
  have hcoN : co < N := by omega
  have hcN1 : co + 1 < N := by omega
  have hcN2 : co + 2 < N := by omega
  have hcN3 : co + 3 < N := by omega
  have hcN4 : co + 4 < N := by omega
  obtain ⟨hcN5, hk5, hcN6, hk6⟩ := id hS5
  obtain ⟨hcN7, hk7, hcN8, hk8⟩ := id hS7
  obtain ⟨b1, b2, b3, b4⟩ := id hok
  obtain ⟨hse3, hse0, hs1, hs2, hs3⟩ := id hE
  have hseN : se < N := by omega
  have hs1N : se + 1 < N := by omega
  have hs2N : se + 2 < N := by omega
  have hs3N : se + 3 < N := by omega
  obtain ⟨e0, e1, e2⟩ := id hse
  have w0 := b3 (i0 / 10)
  refine x_ofW (by decide +kernel) hl (by simp [Value.category]) (by simp) ?_
  have hloop : ∀ i : Nat, i ≤ n → (∀ j : Nat, j < i → (if (D (se + 1)) j = (D (co + 3)) (i0 / 10) then (D (co + 2)) (i0 * 31 + (D (se + 2)) j) else (D (co + 1)) ((D (se + 1)) j * 31 + (D (se + 2)) j)) = (D (se + 3)) j) → x_W (X, l, yX1_courseFits, cX1_courseFits, 6, some .boolean, x_room 1 0 0, 0, 0, (.inl (some (.int (xI (x_B (u_cfit (D (co + 1)) (D (co + 2)) (D (co + 3)) (D (se + 1)) (D (se + 2)) (D (se + 3)) n i0)))))), N, sh, (x_is (D)), false, []) 13 [some (.ref (x_b X + co)), some (.int (xI i0)), some (.ref (x_b X + se)), some (.int (xI ((D (co + 3)) (i0 / 10)))), some (.int (xI i)), none] [] 0 0 false N sh D := by
    refine x_down n ?_ ?_
    · intro hp
      refine x_iload dX1_courseFits_13 x_get_6_4 ?_
      refine x_aload_n dX1_courseFits_15 x_get_6_2 ?_
      refine x_getI 3 dX1_courseFits_16 fX_1_52 rfl (by assumption) (by assumption) (by rfl) ?_
      rw [e0]
      refine r_icmp_ge (t := 98) dX1_courseFits_19 rfl ⟨by omega, by omega⟩ ⟨by omega, by omega⟩ (fun hc19 => ?_) (fun hc19 => absurd hc19 (by omega))
      refine x_iconst dX1_courseFits_98 ?_
      exact x_zret dX1_courseFits_99 rfl (by omega) (Nat.le_of_ble_eq_true rfl) (Nat.le_of_ble_eq_true rfl) (by rw [x_B, if_pos hp]) rfl rfl rfl rfl
    · intro i hi ih
      intro hp
      obtain ⟨t1, t2, t3⟩ := e2 i (by omega) (by omega)
      refine x_iload dX1_courseFits_13 x_get_6_4 ?_
      refine x_aload_n dX1_courseFits_15 x_get_6_2 ?_
      refine x_getI 3 dX1_courseFits_16 fX_1_52 rfl (by assumption) (by assumption) (by rfl) ?_
      rw [e0]
      refine r_icmp_ge (t := 98) dX1_courseFits_19 rfl (by first | exact ⟨by omega, by omega⟩ | exact x_rb (b1 _) (by decide) | exact x_rb (b2 _) (by decide) | exact x_rb (b3 _) (by decide) | assumption) (by first | exact ⟨by omega, by omega⟩ | exact x_rb (b1 _) (by decide) | exact x_rb (b2 _) (by decide) | exact x_rb (b3 _) (by decide) | assumption) (fun hc19 => absurd hc19 (by omega)) (fun hc19 => ?_)
      refine x_aload_n dX1_courseFits_22 x_get_6_2 ?_
      refine x_getR dX1_courseFits_23 fX_1_57 (by assumption) (by assumption) (by rfl) ?_
      refine x_iload dX1_courseFits_26 x_get_6_4 ?_
      refine x_iald dX1_courseFits_28 (by assumption) (by assumption) (by omega) (by omega) (by decide) ?_
      refine x_iload_n dX1_courseFits_29 x_get_6_3 ?_
      refine r_icmp_ne (t := 53) dX1_courseFits_30 rfl (by first | exact ⟨by omega, by omega⟩ | exact x_rb (b1 _) (by decide) | exact x_rb (b2 _) (by decide) | exact x_rb (b3 _) (by decide) | assumption) (by first | exact ⟨by omega, by omega⟩ | exact x_rb (b1 _) (by decide) | exact x_rb (b2 _) (by decide) | exact x_rb (b3 _) (by decide) | assumption) (fun hc30 => ?_) (fun hc30 => ?_)
      · refine x_aload_n dX1_courseFits_53 x_get_6_0 ?_
        refine x_getR dX1_courseFits_54 fX_1_11 (by assumption) (by assumption) (by rfl) ?_
        refine x_aload_n dX1_courseFits_57 x_get_6_2 ?_
        refine x_getR dX1_courseFits_58 fX_1_57 (by assumption) (by assumption) (by rfl) ?_
        refine x_iload dX1_courseFits_61 x_get_6_4 ?_
        refine x_iald dX1_courseFits_63 (by assumption) (by assumption) (by omega) (by omega) (by decide) ?_
        refine x_bipush dX1_courseFits_64 rfl ?_
        refine x_imul dX1_courseFits_66 ?_
        refine x_aload_n dX1_courseFits_67 x_get_6_2 ?_
        refine x_getR dX1_courseFits_68 fX_1_59 (by assumption) (by assumption) (by rfl) ?_
        refine x_iload dX1_courseFits_71 x_get_6_4 ?_
        refine x_iald dX1_courseFits_73 (by assumption) (by assumption) (by omega) (by omega) (by decide) ?_
        refine x_iadd dX1_courseFits_74 ?_
        refine x_iald dX1_courseFits_75 (by assumption) (by assumption) (by omega) (by omega) (by decide) ?_
        refine x_istore dX1_courseFits_76 (Nat.le_of_ble_eq_true rfl) rfl x_set_6_5 ?_
        refine x_iload dX1_courseFits_78 x_get_6_5 ?_
        refine x_aload_n dX1_courseFits_80 x_get_6_2 ?_
        refine x_getR dX1_courseFits_81 fX_1_62 (by assumption) (by assumption) (by rfl) ?_
        refine x_iload dX1_courseFits_84 x_get_6_4 ?_
        refine x_iald dX1_courseFits_86 (by assumption) (by assumption) (by omega) (by omega) (by decide) ?_
        refine r_icmp_eq (t := 92) dX1_courseFits_87 rfl (by first | exact ⟨by omega, by omega⟩ | exact x_rb (b1 _) (by decide) | exact x_rb (b2 _) (by decide) | exact x_rb (b3 _) (by decide) | assumption) (by first | exact ⟨by omega, by omega⟩ | exact x_rb (b1 _) (by decide) | exact x_rb (b2 _) (by decide) | exact x_rb (b3 _) (by decide) | assumption) (fun hc87 => ?_) (fun hc87 => ?_)
        · refine x_iinc dX1_courseFits_92 x_get_6_4 (Nat.le_of_ble_eq_true rfl) rfl x_set_6_4 ?_
          refine x_goto (t := 13) dX1_courseFits_95 rfl ?_
          refine x_forget 5 ?_
          exact ih (fun j hj => by
            by_cases h : j = i
            · rw [h]; exact by first | (rw [if_pos hc30]; exact hc87) | (rw [if_neg hc30]; exact hc87)
            · exact hp j (by omega))
        · refine x_iconst dX1_courseFits_90 ?_
          exact x_zret dX1_courseFits_91 rfl (by omega) (Nat.le_of_ble_eq_true rfl) (Nat.le_of_ble_eq_true rfl) (by rw [x_B, if_neg (fun h => by have h2 := h i hi; first | (rw [if_pos hc30] at h2; exact hc87 h2) | (rw [if_neg hc30] at h2; exact hc87 h2))]) rfl rfl rfl rfl
      · refine x_aload_n dX1_courseFits_33 x_get_6_0 ?_
        refine x_getR dX1_courseFits_34 fX_1_15 (by assumption) (by assumption) (by rfl) ?_
        refine x_iload_n dX1_courseFits_37 x_get_6_1 ?_
        refine x_bipush dX1_courseFits_38 rfl ?_
        refine x_imul dX1_courseFits_40 ?_
        refine x_aload_n dX1_courseFits_41 x_get_6_2 ?_
        refine x_getR dX1_courseFits_42 fX_1_59 (by assumption) (by assumption) (by rfl) ?_
        refine x_iload dX1_courseFits_45 x_get_6_4 ?_
        refine x_iald dX1_courseFits_47 (by assumption) (by assumption) (by omega) (by omega) (by decide) ?_
        refine x_iadd dX1_courseFits_48 ?_
        refine x_iald dX1_courseFits_49 (by assumption) (by assumption) (by omega) (by omega) (by decide) ?_
        refine x_goto (t := 76) dX1_courseFits_50 rfl ?_
        refine x_istore dX1_courseFits_76 (Nat.le_of_ble_eq_true rfl) rfl x_set_6_5 ?_
        refine x_iload dX1_courseFits_78 x_get_6_5 ?_
        refine x_aload_n dX1_courseFits_80 x_get_6_2 ?_
        refine x_getR dX1_courseFits_81 fX_1_62 (by assumption) (by assumption) (by rfl) ?_
        refine x_iload dX1_courseFits_84 x_get_6_4 ?_
        refine x_iald dX1_courseFits_86 (by assumption) (by assumption) (by omega) (by omega) (by decide) ?_
        refine r_icmp_eq (t := 92) dX1_courseFits_87 rfl (by first | exact ⟨by omega, by omega⟩ | exact x_rb (b1 _) (by decide) | exact x_rb (b2 _) (by decide) | exact x_rb (b3 _) (by decide) | assumption) (by first | exact ⟨by omega, by omega⟩ | exact x_rb (b1 _) (by decide) | exact x_rb (b2 _) (by decide) | exact x_rb (b3 _) (by decide) | assumption) (fun hc87 => ?_) (fun hc87 => ?_)
        · refine x_iinc dX1_courseFits_92 x_get_6_4 (Nat.le_of_ble_eq_true rfl) rfl x_set_6_4 ?_
          refine x_goto (t := 13) dX1_courseFits_95 rfl ?_
          refine x_forget 5 ?_
          exact ih (fun j hj => by
            by_cases h : j = i
            · rw [h]; exact by first | (rw [if_pos hc30]; exact hc87) | (rw [if_neg hc30]; exact hc87)
            · exact hp j (by omega))
        · refine x_iconst dX1_courseFits_90 ?_
          exact x_zret dX1_courseFits_91 rfl (by omega) (Nat.le_of_ble_eq_true rfl) (Nat.le_of_ble_eq_true rfl) (by rw [x_B, if_neg (fun h => by have h2 := h i hi; first | (rw [if_pos hc30] at h2; exact hc87 h2) | (rw [if_neg hc30] at h2; exact hc87 h2))]) rfl rfl rfl rfl
  refine x_aload_n dX1_courseFits_0 x_get_6_0 ?_
  refine x_getR dX1_courseFits_1 fX_1_18 (by assumption) (by assumption) (by rfl) ?_
  refine x_iload_n dX1_courseFits_4 x_get_6_1 ?_
  refine x_bipush dX1_courseFits_5 rfl ?_
  refine x_idiv dX1_courseFits_7 (by decide) ?_
  refine x_as_is (x_dv_nn (by omega) (by omega) (by decide) (by decide)) ?_
  refine x_iald dX1_courseFits_8 (by assumption) (by assumption) (by omega) (by omega) (by decide) ?_
  refine x_istore_n dX1_courseFits_9 (Nat.le_of_ble_eq_true rfl) rfl x_set_6_3 ?_
  refine x_iconst dX1_courseFits_10 ?_
  refine x_istore dX1_courseFits_11 (Nat.le_of_ble_eq_true rfl) rfl x_set_6_4 ?_
  exact hloop 0 (Nat.zero_le _) (fun j hj => by omega)
theorem c1_held {X : xC} {l : Launch} (hl : l.stackTraces = false) {N : Nat} {sh : xS} {D : xM} {co : Nat} (hco : is_Co N sh co) (hok : co_ok D co) : x_M X l yX1_held cX1_held 3 (some .int) 1 0 0 [.ref (x_b X + co)] false N sh D (.inl (some (.int (xI (x_sum (D (co + 4)) 100))))) false N sh (x_is (D)) := by
  obtain ⟨hco8, hc0, hk1, hk2, hk3, hk4, hS5, hS7⟩ := id hco
  have hcoN : co < N := by omega
  have hcN1 : co + 1 < N := by omega
  have hcN2 : co + 2 < N := by omega
  have hcN3 : co + 3 < N := by omega
  have hcN4 : co + 4 < N := by omega
  obtain ⟨hcN5, hk5, hcN6, hk6⟩ := id hS5
  obtain ⟨hcN7, hk7, hcN8, hk8⟩ := id hS7
  obtain ⟨b1, b2, b3, b4⟩ := id hok
  refine x_ofW (by decide +kernel) hl (by simp [Value.category]) (by simp) ?_
  have hloop : ∀ i : Nat, i ≤ 100 → x_W (X, l, yX1_held, cX1_held, 3, some .int, x_room 1 0 0, 0, 0, (.inl (some (.int (xI (x_sum (D (co + 4)) 100))))), N, sh, (x_is (D)), false, []) 4 [some (.ref (x_b X + co)), some (.int (xI (x_sum (D (co + 4)) i))), some (.int (xI i))] [] 0 0 false N sh D := by
    refine x_down 100 ?_ ?_
    · refine x_iload_n dX1_held_4 x_get_3_2 ?_
      refine x_bipush dX1_held_5 rfl ?_
      refine r_icmp_ge (t := 33) dX1_held_7 rfl ⟨by omega, by omega⟩ ⟨by omega, by omega⟩ (fun hc7 => ?_) (fun hc7 => absurd hc7 (by omega))
      refine x_iload_n dX1_held_33 x_get_3_1 ?_
      exact x_iret dX1_held_34 rfl (Nat.le_of_ble_eq_true rfl) (Nat.le_of_ble_eq_true rfl) rfl rfl rfl rfl rfl
    · intro i hi ih
      have bi := b4 i
      rw [x_sum_s (n := i)] at ih
      refine x_iload_n dX1_held_4 x_get_3_2 ?_
      refine x_bipush dX1_held_5 rfl ?_
      refine r_icmp_ge (t := 33) dX1_held_7 rfl (by first | exact ⟨by omega, by omega⟩ | exact x_rb (b1 _) (by decide) | exact x_rb (b2 _) (by decide) | exact x_rb (b3 _) (by decide) | assumption) (by first | exact ⟨by omega, by omega⟩ | exact x_rb (b1 _) (by decide) | exact x_rb (b2 _) (by decide) | exact x_rb (b3 _) (by decide) | assumption) (fun hc7 => absurd hc7 (by omega)) (fun hc7 => ?_)
      refine x_iload_n dX1_held_10 x_get_3_1 ?_
      refine x_aload_n dX1_held_11 x_get_3_0 ?_
      refine x_getR dX1_held_12 fX_1_21 (by assumption) (by assumption) (by rfl) ?_
      refine x_iload_n dX1_held_15 x_get_3_2 ?_
      refine x_zald dX1_held_16 (by assumption) (by assumption) (by omega) (by omega) (by decide) ?_
      refine r_if_eq (t := 24) dX1_held_17 rfl ⟨by omega, by omega⟩ (fun hc17 => ?_) (fun hc17 => ?_)
      · refine x_iconst dX1_held_24 ?_
        refine x_iadd dX1_held_25 ?_
        refine x_istore_n dX1_held_26 (Nat.le_of_ble_eq_true rfl) rfl x_set_3_1 ?_
        refine x_iinc dX1_held_27 x_get_3_2 (Nat.le_of_ble_eq_true rfl) rfl x_set_3_2 ?_
        refine x_goto (t := 4) dX1_held_30 rfl ?_
        rcases bi with bi | bi
        · rw [bi] at ih; first | exact ih | exact absurd bi (by assumption) | (exfalso; omega)
        · rw [bi] at ih; first | exact ih | (exfalso; omega)
      · refine x_iconst dX1_held_20 ?_
        refine x_goto (t := 25) dX1_held_21 rfl ?_
        refine x_iadd dX1_held_25 ?_
        refine x_istore_n dX1_held_26 (Nat.le_of_ble_eq_true rfl) rfl x_set_3_1 ?_
        refine x_iinc dX1_held_27 x_get_3_2 (Nat.le_of_ble_eq_true rfl) rfl x_set_3_2 ?_
        refine x_goto (t := 4) dX1_held_30 rfl ?_
        rcases bi with bi | bi
        · rw [bi] at ih; first | exact ih | exact absurd bi (by assumption) | (exfalso; omega)
        · rw [bi] at ih; first | exact ih | (exfalso; omega)
  refine x_iconst dX1_held_0 ?_
  refine x_istore_n dX1_held_1 (Nat.le_of_ble_eq_true rfl) rfl x_set_3_1 ?_
  refine x_iconst dX1_held_2 ?_
  refine x_istore_n dX1_held_3 (Nat.le_of_ble_eq_true rfl) rfl x_set_3_2 ?_
  exact hloop 0 (Nat.zero_le _)
theorem c1_first {X : xC} {l : Launch} (hl : l.stackTraces = false) {N : Nat} {sh : xS} {D : xM} {co : Nat} (hco : is_Co N sh co) (hok : co_ok D co) : x_M X l yX1_first cX1_first 2 (some .int) 1 0 0 [.ref (x_b X + co)] false N sh D (.inl (some (.int (xI (x_first (fun j => ¬ (D (co + 4)) (j : Int) = 0) 100))))) false N sh (x_is (D)) := by
  obtain ⟨hco8, hc0, hk1, hk2, hk3, hk4, hS5, hS7⟩ := id hco
  have hcoN : co < N := by omega
  have hcN1 : co + 1 < N := by omega
  have hcN2 : co + 2 < N := by omega
  have hcN3 : co + 3 < N := by omega
  have hcN4 : co + 4 < N := by omega
  obtain ⟨hcN5, hk5, hcN6, hk6⟩ := id hS5
  obtain ⟨hcN7, hk7, hcN8, hk8⟩ := id hS7
  obtain ⟨b1, b2, b3, b4⟩ := id hok
  refine x_ofW (by decide +kernel) hl (by simp [Value.category]) (by simp) ?_
  have hloop : ∀ i : Nat, i ≤ 100 → (∀ j : Nat, j < i → ¬ ¬ (D (co + 4)) j = 0) → x_W (X, l, yX1_first, cX1_first, 2, some .int, x_room 1 0 0, 0, 0, (.inl (some (.int (xI (x_first (fun j => ¬ (D (co + 4)) (j : Int) = 0) 100))))), N, sh, (x_is (D)), false, []) 2 [some (.ref (x_b X + co)), some (.int (xI i))] [] 0 0 false N sh D := by
    refine x_down 100 ?_ ?_
    · intro hp
      refine x_iload_n dX1_first_2 x_get_2_1 ?_
      refine x_bipush dX1_first_3 rfl ?_
      refine r_icmp_ge (t := 25) dX1_first_5 rfl ⟨by omega, by omega⟩ ⟨by omega, by omega⟩ (fun hc5 => ?_) (fun hc5 => absurd hc5 (by omega))
      refine x_iconst dX1_first_25 ?_
      exact x_iret dX1_first_26 rfl (Nat.le_of_ble_eq_true rfl) (Nat.le_of_ble_eq_true rfl) (by rw [x_first_none hp]) rfl rfl rfl rfl
    · intro i hi ih
      intro hp
      have bi := b4 i
      refine x_iload_n dX1_first_2 x_get_2_1 ?_
      refine x_bipush dX1_first_3 rfl ?_
      refine r_icmp_ge (t := 25) dX1_first_5 rfl (by first | exact ⟨by omega, by omega⟩ | exact x_rb (b1 _) (by decide) | exact x_rb (b2 _) (by decide) | exact x_rb (b3 _) (by decide) | assumption) (by first | exact ⟨by omega, by omega⟩ | exact x_rb (b1 _) (by decide) | exact x_rb (b2 _) (by decide) | exact x_rb (b3 _) (by decide) | assumption) (fun hc5 => absurd hc5 (by omega)) (fun hc5 => ?_)
      refine x_aload_n dX1_first_8 x_get_2_0 ?_
      refine x_getR dX1_first_9 fX_1_21 (by assumption) (by assumption) (by rfl) ?_
      refine x_iload_n dX1_first_12 x_get_2_1 ?_
      refine x_zald dX1_first_13 (by assumption) (by assumption) (by omega) (by omega) (by decide) ?_
      refine r_if_eq (t := 19) dX1_first_14 rfl ⟨by omega, by omega⟩ (fun hc14 => ?_) (fun hc14 => ?_)
      · refine x_iinc dX1_first_19 x_get_2_1 (Nat.le_of_ble_eq_true rfl) rfl x_set_2_1 ?_
        refine x_goto (t := 2) dX1_first_22 rfl ?_
        exact ih (fun j hj => by
          by_cases h : j = i
          · rw [h]; exact fun h => h hc14
          · exact hp j (by omega))
      · refine x_iload_n dX1_first_17 x_get_2_1 ?_
        exact x_iret dX1_first_18 rfl (Nat.le_of_ble_eq_true rfl) (Nat.le_of_ble_eq_true rfl) (by rw [x_first_hit hp hc14 hi]) rfl rfl rfl rfl
  refine x_iconst dX1_first_0 ?_
  refine x_istore_n dX1_first_1 (Nat.le_of_ble_eq_true rfl) rfl x_set_2_1 ?_
  exact hloop 0 (Nat.zero_le _) (fun j hj => by omega)
theorem c1_new {X : xC} {l : Launch} (hl : l.stackTraces = false) {N : Nat} {sh : xS} {D : xM} {co : Nat} (hco : is_Co N sh co) (hok : co_ok D co) {c : Nat} (h0 : c < 100) {day : Int} (h2 : 0 ≤ day) (h3 : day ≤ 30) : x_M X l yX1_isFirstOfItsLike cX1_isFirstOfItsLike 4 (some .boolean) 1 0 0 [.ref (x_b X + co), .int (xI (c : Int)), .int (xI day)] false N sh D (.inl (some (.int (xI (x_B (u_new (D (co + 4)) (D (co + 3)) (D (co + 2)) day c)))))) false N sh (x_is (D)) := by
  obtain ⟨hco8, hc0, hk1, hk2, hk3, hk4, hS5, hS7⟩ := id hco
  have hcoN : co < N := by omega
  have hcN1 : co + 1 < N := by omega
  have hcN2 : co + 2 < N := by omega
  have hcN3 : co + 3 < N := by omega
  have hcN4 : co + 4 < N := by omega
  obtain ⟨hcN5, hk5, hcN6, hk6⟩ := id hS5
  obtain ⟨hcN7, hk7, hcN8, hk8⟩ := id hS7
  obtain ⟨b1, b2, b3, b4⟩ := id hok
  refine x_ofW (by decide +kernel) hl (by simp [Value.category]) (by simp) ?_
  have hloop : ∀ i : Nat, i ≤ c → (∀ j : Nat, j < i → ¬ (¬ (D (co + 4)) j = 0 ∧ (D (co + 3)) ((j : Int) / 10) = (D (co + 3)) ((c : Int) / 10) ∧ (D (co + 2)) ((j : Int) * 31 + day) = (D (co + 2)) ((c : Int) * 31 + day))) → x_W (X, l, yX1_isFirstOfItsLike, cX1_isFirstOfItsLike, 4, some .boolean, x_room 1 0 0, 0, 0, (.inl (some (.int (xI (x_B (u_new (D (co + 4)) (D (co + 3)) (D (co + 2)) day c)))))), N, sh, (x_is (D)), false, []) 2 [some (.ref (x_b X + co)), some (.int (xI (c : Int))), some (.int (xI day)), some (.int (xI i))] [] 0 0 false N sh D := by
    refine x_down c ?_ ?_
    · intro hp
      refine x_iload_n dX1_isFirstOfItsLike_2 x_get_4_3 ?_
      refine x_iload_n dX1_isFirstOfItsLike_3 x_get_4_1 ?_
      refine r_icmp_ge (t := 70) dX1_isFirstOfItsLike_4 rfl ⟨by omega, by omega⟩ ⟨by omega, by omega⟩ (fun hc4 => ?_) (fun hc4 => absurd hc4 (by omega))
      refine x_iconst dX1_isFirstOfItsLike_70 ?_
      exact x_zret dX1_isFirstOfItsLike_71 rfl (by omega) (Nat.le_of_ble_eq_true rfl) (Nat.le_of_ble_eq_true rfl) (by rw [x_B, if_pos hp]) rfl rfl rfl rfl
    · intro i hi ih
      intro hp
      have bi := b4 i
      refine x_iload_n dX1_isFirstOfItsLike_2 x_get_4_3 ?_
      refine x_iload_n dX1_isFirstOfItsLike_3 x_get_4_1 ?_
      refine r_icmp_ge (t := 70) dX1_isFirstOfItsLike_4 rfl (by first | exact ⟨by omega, by omega⟩ | exact x_rb (b1 _) (by decide) | exact x_rb (b2 _) (by decide) | exact x_rb (b3 _) (by decide) | assumption) (by first | exact ⟨by omega, by omega⟩ | exact x_rb (b1 _) (by decide) | exact x_rb (b2 _) (by decide) | exact x_rb (b3 _) (by decide) | assumption) (fun hc4 => absurd hc4 (by omega)) (fun hc4 => ?_)
      refine x_aload_n dX1_isFirstOfItsLike_7 x_get_4_0 ?_
      refine x_getR dX1_isFirstOfItsLike_8 fX_1_21 (by assumption) (by assumption) (by rfl) ?_
      refine x_iload_n dX1_isFirstOfItsLike_11 x_get_4_3 ?_
      refine x_zald dX1_isFirstOfItsLike_12 (by assumption) (by assumption) (by omega) (by omega) (by decide) ?_
      refine r_if_eq (t := 64) dX1_isFirstOfItsLike_13 rfl ⟨by omega, by omega⟩ (fun hc13 => ?_) (fun hc13 => ?_)
      · refine x_iinc dX1_isFirstOfItsLike_64 x_get_4_3 (Nat.le_of_ble_eq_true rfl) rfl x_set_4_3 ?_
        refine x_goto (t := 2) dX1_isFirstOfItsLike_67 rfl ?_
        exact ih (fun j hj => by
          by_cases h : j = i
          · rw [h]; exact by first | exact fun h => h.1 hc13 | exact fun h => hc34 h.2.1 | exact fun h => hc59 h.2.2
          · exact hp j (by omega))
      · refine x_aload_n dX1_isFirstOfItsLike_16 x_get_4_0 ?_
        refine x_getR dX1_isFirstOfItsLike_17 fX_1_18 (by assumption) (by assumption) (by rfl) ?_
        refine x_iload_n dX1_isFirstOfItsLike_20 x_get_4_3 ?_
        refine x_bipush dX1_isFirstOfItsLike_21 rfl ?_
        refine x_idiv dX1_isFirstOfItsLike_23 (by decide) ?_
        refine x_as_is (x_dv_nn (by omega) (by omega) (by decide) (by decide)) ?_
        refine x_iald dX1_isFirstOfItsLike_24 (by assumption) (by assumption) (by omega) (by omega) (by decide) ?_
        refine x_aload_n dX1_isFirstOfItsLike_25 x_get_4_0 ?_
        refine x_getR dX1_isFirstOfItsLike_26 fX_1_18 (by assumption) (by assumption) (by rfl) ?_
        refine x_iload_n dX1_isFirstOfItsLike_29 x_get_4_1 ?_
        refine x_bipush dX1_isFirstOfItsLike_30 rfl ?_
        refine x_idiv dX1_isFirstOfItsLike_32 (by decide) ?_
        refine x_as_is (x_dv_nn (by omega) (by omega) (by decide) (by decide)) ?_
        refine x_iald dX1_isFirstOfItsLike_33 (by assumption) (by assumption) (by omega) (by omega) (by decide) ?_
        refine r_icmp_ne (t := 64) dX1_isFirstOfItsLike_34 rfl (by first | exact ⟨by omega, by omega⟩ | exact x_rb (b1 _) (by decide) | exact x_rb (b2 _) (by decide) | exact x_rb (b3 _) (by decide) | assumption) (by first | exact ⟨by omega, by omega⟩ | exact x_rb (b1 _) (by decide) | exact x_rb (b2 _) (by decide) | exact x_rb (b3 _) (by decide) | assumption) (fun hc34 => ?_) (fun hc34 => ?_)
        · refine x_iinc dX1_isFirstOfItsLike_64 x_get_4_3 (Nat.le_of_ble_eq_true rfl) rfl x_set_4_3 ?_
          refine x_goto (t := 2) dX1_isFirstOfItsLike_67 rfl ?_
          exact ih (fun j hj => by
            by_cases h : j = i
            · rw [h]; exact by first | exact fun h => h.1 hc13 | exact fun h => hc34 h.2.1 | exact fun h => hc59 h.2.2
            · exact hp j (by omega))
        · refine x_aload_n dX1_isFirstOfItsLike_37 x_get_4_0 ?_
          refine x_getR dX1_isFirstOfItsLike_38 fX_1_15 (by assumption) (by assumption) (by rfl) ?_
          refine x_iload_n dX1_isFirstOfItsLike_41 x_get_4_3 ?_
          refine x_bipush dX1_isFirstOfItsLike_42 rfl ?_
          refine x_imul dX1_isFirstOfItsLike_44 ?_
          refine x_iload_n dX1_isFirstOfItsLike_45 x_get_4_2 ?_
          refine x_iadd dX1_isFirstOfItsLike_46 ?_
          refine x_iald dX1_isFirstOfItsLike_47 (by assumption) (by assumption) (by omega) (by omega) (by decide) ?_
          refine x_aload_n dX1_isFirstOfItsLike_48 x_get_4_0 ?_
          refine x_getR dX1_isFirstOfItsLike_49 fX_1_15 (by assumption) (by assumption) (by rfl) ?_
          refine x_iload_n dX1_isFirstOfItsLike_52 x_get_4_1 ?_
          refine x_bipush dX1_isFirstOfItsLike_53 rfl ?_
          refine x_imul dX1_isFirstOfItsLike_55 ?_
          refine x_iload_n dX1_isFirstOfItsLike_56 x_get_4_2 ?_
          refine x_iadd dX1_isFirstOfItsLike_57 ?_
          refine x_iald dX1_isFirstOfItsLike_58 (by assumption) (by assumption) (by omega) (by omega) (by decide) ?_
          refine r_icmp_ne (t := 64) dX1_isFirstOfItsLike_59 rfl (by first | exact ⟨by omega, by omega⟩ | exact x_rb (b1 _) (by decide) | exact x_rb (b2 _) (by decide) | exact x_rb (b3 _) (by decide) | assumption) (by first | exact ⟨by omega, by omega⟩ | exact x_rb (b1 _) (by decide) | exact x_rb (b2 _) (by decide) | exact x_rb (b3 _) (by decide) | assumption) (fun hc59 => ?_) (fun hc59 => ?_)
          · refine x_iinc dX1_isFirstOfItsLike_64 x_get_4_3 (Nat.le_of_ble_eq_true rfl) rfl x_set_4_3 ?_
            refine x_goto (t := 2) dX1_isFirstOfItsLike_67 rfl ?_
            exact ih (fun j hj => by
              by_cases h : j = i
              · rw [h]; exact by first | exact fun h => h.1 hc13 | exact fun h => hc34 h.2.1 | exact fun h => hc59 h.2.2
              · exact hp j (by omega))
          · refine x_iconst dX1_isFirstOfItsLike_62 ?_
            exact x_zret dX1_isFirstOfItsLike_63 rfl (by omega) (Nat.le_of_ble_eq_true rfl) (Nat.le_of_ble_eq_true rfl) (by rw [x_B, if_neg (fun h => h i hi ⟨hc13, hc34, hc59⟩)]) rfl rfl rfl rfl
  refine x_iconst dX1_isFirstOfItsLike_0 ?_
  refine x_istore_n dX1_isFirstOfItsLike_1 (Nat.le_of_ble_eq_true rfl) rfl x_set_4_3 ?_
  exact hloop 0 (Nat.zero_le _) (fun j hj => by omega)
theorem c1_unlike {X : xC} {l : Launch} (hl : l.stackTraces = false) {N : Nat} {sh : xS} {D : xM} {co : Nat} (hco : is_Co N sh co) (hok : co_ok D co) {day : Int} (h2 : 0 ≤ day) (h3 : day ≤ 30) : x_M X l yX1_unlikeOn cX1_unlikeOn 5 (some .int) 2 0 0 [.ref (x_b X + co), .int (xI day)] false N sh D (.inl (some (.int (xI ((u_st (D (co + 1)) (D (co + 2)) (D (co + 3)) (D (co + 4)) day 100).1 + (u_st (D (co + 1)) (D (co + 2)) (D (co + 3)) (D (co + 4)) day 100).2))))) false N sh (x_is (D)) := by
  obtain ⟨hco8, hc0, hk1, hk2, hk3, hk4, hS5, hS7⟩ := id hco
  have hcoN : co < N := by omega
  have hcN1 : co + 1 < N := by omega
  have hcN2 : co + 2 < N := by omega
  have hcN3 : co + 3 < N := by omega
  have hcN4 : co + 4 < N := by omega
  obtain ⟨hcN5, hk5, hcN6, hk6⟩ := id hS5
  obtain ⟨hcN7, hk7, hcN8, hk8⟩ := id hS7
  obtain ⟨b1, b2, b3, b4⟩ := id hok
  refine x_ofW (by decide +kernel) hl (by simp [Value.category]) (by simp) ?_
  have hloop : ∀ i : Nat, i ≤ 100 → x_W (X, l, yX1_unlikeOn, cX1_unlikeOn, 5, some .int, x_room 2 0 0, 0, 0, (.inl (some (.int (xI ((u_st (D (co + 1)) (D (co + 2)) (D (co + 3)) (D (co + 4)) day 100).1 + (u_st (D (co + 1)) (D (co + 2)) (D (co + 3)) (D (co + 4)) day 100).2))))), N, sh, (x_is (D)), false, []) 7 [some (.ref (x_b X + co)), some (.int (xI day)), some (.int (xI (u_st (D (co + 1)) (D (co + 2)) (D (co + 3)) (D (co + 4)) day i).1)), some (.int (xI (u_st (D (co + 1)) (D (co + 2)) (D (co + 3)) (D (co + 4)) day i).2)), some (.int (xI i))] [] 0 0 false N sh D := by
    refine x_down 100 ?_ ?_
    · refine x_iload dX1_unlikeOn_7 x_get_5_4 ?_
      refine x_bipush dX1_unlikeOn_9 rfl ?_
      refine r_icmp_ge (t := 83) dX1_unlikeOn_11 rfl ⟨by omega, by omega⟩ ⟨by omega, by omega⟩ (fun hc11 => ?_) (fun hc11 => absurd hc11 (by omega))
      refine x_iload_n dX1_unlikeOn_83 x_get_5_2 ?_
      refine x_iload_n dX1_unlikeOn_84 x_get_5_3 ?_
      refine x_iadd dX1_unlikeOn_85 ?_
      exact x_iret dX1_unlikeOn_86 rfl (Nat.le_of_ble_eq_true rfl) (Nat.le_of_ble_eq_true rfl) rfl rfl rfl rfl rfl
    · intro i hi ih
      have bi := b4 i
      have wi := b3 (i / 10)
      rw [u_st_s (i := i)] at ih
      refine x_iload dX1_unlikeOn_7 x_get_5_4 ?_
      refine x_bipush dX1_unlikeOn_9 rfl ?_
      refine r_icmp_ge (t := 83) dX1_unlikeOn_11 rfl (by first | exact ⟨by omega, by omega⟩ | exact x_rb (b1 _) (by decide) | exact x_rb (b2 _) (by decide) | exact x_rb (b3 _) (by decide) | assumption) (by first | exact ⟨by omega, by omega⟩ | exact x_rb (b1 _) (by decide) | exact x_rb (b2 _) (by decide) | exact x_rb (b3 _) (by decide) | assumption) (fun hc11 => absurd hc11 (by omega)) (fun hc11 => ?_)
      refine x_aload_n dX1_unlikeOn_14 x_get_5_0 ?_
      refine x_getR dX1_unlikeOn_15 fX_1_21 (by assumption) (by assumption) (by rfl) ?_
      refine x_iload dX1_unlikeOn_18 x_get_5_4 ?_
      refine x_zald dX1_unlikeOn_20 (by assumption) (by assumption) (by omega) (by omega) (by decide) ?_
      refine r_if_eq (t := 77) dX1_unlikeOn_21 rfl ⟨by omega, by omega⟩ (fun hc21 => ?_) (fun hc21 => ?_)
      · refine x_iinc dX1_unlikeOn_77 x_get_5_4 (Nat.le_of_ble_eq_true rfl) rfl x_set_5_4 ?_
        refine x_goto (t := 7) dX1_unlikeOn_80 rfl ?_
        first
          | (rw [if_pos hc21] at ih; exact ih)
          | (rw [if_neg hc21, if_pos hc56] at ih; exact ih)
          | (rw [if_neg hc21, if_neg hc56, if_pos hc71] at ih; exact ih)
          | (rw [if_neg hc21, if_neg hc56, if_neg hc71] at ih; exact ih)
      · refine x_aload_n dX1_unlikeOn_24 x_get_5_0 ?_
        refine x_getR dX1_unlikeOn_25 fX_1_15 (by assumption) (by assumption) (by rfl) ?_
        refine x_iload dX1_unlikeOn_28 x_get_5_4 ?_
        refine x_bipush dX1_unlikeOn_30 rfl ?_
        refine x_imul dX1_unlikeOn_32 ?_
        refine x_iload_n dX1_unlikeOn_33 x_get_5_1 ?_
        refine x_iadd dX1_unlikeOn_34 ?_
        refine x_iald dX1_unlikeOn_35 (by assumption) (by assumption) (by omega) (by omega) (by decide) ?_
        refine x_aload_n dX1_unlikeOn_36 x_get_5_0 ?_
        refine x_getR dX1_unlikeOn_37 fX_1_11 (by assumption) (by assumption) (by rfl) ?_
        refine x_aload_n dX1_unlikeOn_40 x_get_5_0 ?_
        refine x_getR dX1_unlikeOn_41 fX_1_18 (by assumption) (by assumption) (by rfl) ?_
        refine x_iload dX1_unlikeOn_44 x_get_5_4 ?_
        refine x_bipush dX1_unlikeOn_46 rfl ?_
        refine x_idiv dX1_unlikeOn_48 (by decide) ?_
        refine x_as_is (x_dv_nn (by omega) (by omega) (by decide) (by decide)) ?_
        refine x_iald dX1_unlikeOn_49 (by assumption) (by assumption) (by omega) (by omega) (by decide) ?_
        refine x_bipush dX1_unlikeOn_50 rfl ?_
        refine x_imul dX1_unlikeOn_52 ?_
        refine x_iload_n dX1_unlikeOn_53 x_get_5_1 ?_
        refine x_iadd dX1_unlikeOn_54 ?_
        refine x_iald dX1_unlikeOn_55 (by assumption) (by assumption) (by omega) (by omega) (by decide) ?_
        refine r_icmp_ne (t := 64) dX1_unlikeOn_56 rfl (by first | exact ⟨by omega, by omega⟩ | exact x_rb (b1 _) (by decide) | exact x_rb (b2 _) (by decide) | exact x_rb (b3 _) (by decide) | assumption) (by first | exact ⟨by omega, by omega⟩ | exact x_rb (b1 _) (by decide) | exact x_rb (b2 _) (by decide) | exact x_rb (b3 _) (by decide) | assumption) (fun hc56 => ?_) (fun hc56 => ?_)
        · refine x_aload_n dX1_unlikeOn_64 x_get_5_0 ?_
          refine x_iload dX1_unlikeOn_65 x_get_5_4 ?_
          refine x_iload_n dX1_unlikeOn_67 x_get_5_1 ?_
          refine x_callV (As := [_, _]) dX1_unlikeOn_68 w_1_88 (c1_new hl hco hok hi h2 h3) (by assumption) (by assumption) rfl rfl (Nat.le_of_ble_eq_true rfl) (Nat.le_of_ble_eq_true rfl) (Nat.le_of_ble_eq_true rfl) (Nat.le_of_ble_eq_true rfl) (Nat.le_of_ble_eq_true rfl) ?_
          intro d hd
          obtain rfl := Eq.symm hd
          refine b_ifeq (t := 77) dX1_unlikeOn_71 rfl (fun hc71 => ?_) (fun hc71 => ?_)
          · refine x_iinc dX1_unlikeOn_77 x_get_5_4 (Nat.le_of_ble_eq_true rfl) rfl x_set_5_4 ?_
            refine x_goto (t := 7) dX1_unlikeOn_80 rfl ?_
            first
              | (rw [if_pos hc21] at ih; exact ih)
              | (rw [if_neg hc21, if_pos hc56] at ih; exact ih)
              | (rw [if_neg hc21, if_neg hc56, if_pos hc71] at ih; exact ih)
              | (rw [if_neg hc21, if_neg hc56, if_neg hc71] at ih; exact ih)
          · refine x_iinc dX1_unlikeOn_74 x_get_5_3 (Nat.le_of_ble_eq_true rfl) rfl x_set_5_3 ?_
            refine x_iinc dX1_unlikeOn_77 x_get_5_4 (Nat.le_of_ble_eq_true rfl) rfl x_set_5_4 ?_
            refine x_goto (t := 7) dX1_unlikeOn_80 rfl ?_
            first
              | (rw [if_pos hc21] at ih; exact ih)
              | (rw [if_neg hc21, if_pos hc56] at ih; exact ih)
              | (rw [if_neg hc21, if_neg hc56, if_pos hc71] at ih; exact ih)
              | (rw [if_neg hc21, if_neg hc56, if_neg hc71] at ih; exact ih)
        · refine x_iconst dX1_unlikeOn_59 ?_
          refine x_istore_n dX1_unlikeOn_60 (Nat.le_of_ble_eq_true rfl) rfl x_set_5_2 ?_
          refine x_goto (t := 77) dX1_unlikeOn_61 rfl ?_
          refine x_iinc dX1_unlikeOn_77 x_get_5_4 (Nat.le_of_ble_eq_true rfl) rfl x_set_5_4 ?_
          refine x_goto (t := 7) dX1_unlikeOn_80 rfl ?_
          first
            | (rw [if_pos hc21] at ih; exact ih)
            | (rw [if_neg hc21, if_pos hc56] at ih; exact ih)
            | (rw [if_neg hc21, if_neg hc56, if_pos hc71] at ih; exact ih)
            | (rw [if_neg hc21, if_neg hc56, if_neg hc71] at ih; exact ih)
  refine x_iconst dX1_unlikeOn_0 ?_
  refine x_istore_n dX1_unlikeOn_1 (Nat.le_of_ble_eq_true rfl) rfl x_set_5_2 ?_
  refine x_iconst dX1_unlikeOn_2 ?_
  refine x_istore_n dX1_unlikeOn_3 (Nat.le_of_ble_eq_true rfl) rfl x_set_5_3 ?_
  refine x_iconst dX1_unlikeOn_4 ?_
  refine x_istore dX1_unlikeOn_5 (Nat.le_of_ble_eq_true rfl) rfl x_set_5_4 ?_
  exact hloop 0 (Nat.zero_le _)
end C42
