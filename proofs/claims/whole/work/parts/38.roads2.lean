section C38
theorem e_mid_s {F : Int} {days : Int → Int} {T t : Nat} : e_mid F days T (t + 1) = if x_mx (fun o => days (t * 8 + o)) T < (e_mid F days T t).2 then ((t : Int), x_mx (fun o => days (t * 8 + o)) T) else e_mid F days T t := rfl
theorem p_rw_s {one two : Int → Int} {way : Int} {r w : Nat} : p_rw one two way r (w + 1) = if ¬ (w : Int) = way ∧ ¬ p_rw one two way r w &&& p_ends one two w = 0 then p_rw one two way r w ||| p_ends one two w else p_rw one two way r w := rfl
def e_none (F v : Int) : Int := if v < F then v else -1
theorem e_none_in {F v : Int} (h : 0 ≤ v) : (v < F ∧ e_none F v = v) ∨ (F ≤ v ∧ e_none F v = -1) := by
  unfold e_none
  split
  · left; exact ⟨by assumption, rfl⟩
  · right; exact ⟨by omega, rfl⟩
theorem e_step_in (one two span days : Int → Int) (W T : Nat) (a t : Int) : -1 ≤ e_step one two span days W T a t ∧ e_step one two span days W T a t < T := by
  unfold e_step
  split
  · omega
  · exact x_first_in _ _
theorem w_6_58 : x_cv RX6 58 yX6_shortest cX6_shortest 4 (some .int) 6 2 := ⟨⟨_, rfl, rfl⟩, (x_in 1283 (by decide +kernel) rfl), (x_in 1041 (by decide +kernel) rfl), (x_in 1042 (by decide +kernel) rfl), (x_in 83 (by decide +kernel) rfl), (x_in 1043 (by decide +kernel) rfl), by decide, ⟨by decide +kernel, by decide +kernel, by decide +kernel⟩⟩
theorem w_6_61 : x_cv RX6 61 yX6_stepTowards cX6_stepTowards 5 (some .int) 6 2 := ⟨⟨_, rfl, rfl⟩, (x_in 1284 (by decide +kernel) rfl), (x_in 1285 (by decide +kernel) rfl), (x_in 1286 (by decide +kernel) rfl), (x_in 83 (by decide +kernel) rfl), (x_in 1287 (by decide +kernel) rfl), by decide, ⟨by decide +kernel, by decide +kernel, by decide +kernel⟩⟩
theorem w_6_64 : x_mw RX6 64 Lib.Math.max.name Lib.Math.max.code 2 := ⟨(x_in 562 (by decide +kernel) rfl), (x_in 451 (by decide +kernel) rfl), (x_in 95 (by decide +kernel) rfl), (x_in 452 (by decide +kernel) rfl)⟩
theorem c6_far {X : xC} {l : Launch} (hl : l.stackTraces = false) {N : Nat} {sh : xS} {D : xM} {ro : Nat} (hro : is_Ro N sh ro) {W T : Nat} (hrd : rd D ro W T) {a b : Int} (h0 : 0 ≤ a) (h1 : a < 8) (h2 : 0 ≤ b) (h3 : b < 8) : x_M X l yX6_shortest cX6_shortest 4 (some .int) 1 0 0 [.ref (x_b X + ro), .int (xI a), .int (xI b)] false N sh D (.inl (some (.int (xI (e_none 1000000 ((D (ro + 5)) (a * 8 + b))))))) false N sh (x_is (D)) := by
  obtain ⟨hroN, hr0, hr1, hr2, hr3, hr4, hr5, hr6⟩ := id hro
  have hroN0 : ro < N := by omega
  have hroN1 : ro + 1 < N := by omega
  have hroN2 : ro + 2 < N := by omega
  have hroN3 : ro + 3 < N := by omega
  have hroN4 : ro + 4 < N := by omega
  have hroN5 : ro + 5 < N := by omega
  have hroN6 : ro + 6 < N := by omega
  obtain ⟨q0, q0b, qT, qTb, q1, q2, q3, q4, q5, q6⟩ := id hrd
  refine x_ofW (by decide +kernel) hl (by simp [Value.category]) (by simp) ?_
  refine x_aload_n dX6_shortest_0 x_get_4_0 ?_
  refine x_getR dX6_shortest_1 fX_6_31 (by assumption) (by assumption) (by rfl) ?_
  refine x_iload_n dX6_shortest_4 x_get_4_1 ?_
  refine x_bipush dX6_shortest_5 rfl ?_
  refine x_imul dX6_shortest_7 ?_
  refine x_iload_n dX6_shortest_8 x_get_4_2 ?_
  refine x_iadd dX6_shortest_9 ?_
  refine x_iald dX6_shortest_10 (by assumption) (by assumption) (by omega) (by omega) (by decide) ?_
  refine x_istore_n dX6_shortest_11 (Nat.le_of_ble_eq_true rfl) rfl x_set_4_3 ?_
  refine x_iload_n dX6_shortest_12 x_get_4_3 ?_
  refine x_ldc (z := 1000000) dX6_shortest_13 k_RX6_44 ?_
  refine r_icmp_lt (t := 22) dX6_shortest_15 rfl (by first | exact ⟨by omega, by omega⟩ | exact x_rb (q1 _) (by decide) | exact x_rb (q2 _) (by decide) | exact x_rb (q3 _) (by decide) | exact x_rb (q4 _) (by decide) | exact x_rb (q5 _) (by decide) | exact x_rb (q6 _) (by decide) | assumption) (by first | exact ⟨by omega, by omega⟩ | exact x_rb (q1 _) (by decide) | exact x_rb (q2 _) (by decide) | exact x_rb (q3 _) (by decide) | exact x_rb (q4 _) (by decide) | exact x_rb (q5 _) (by decide) | exact x_rb (q6 _) (by decide) | assumption) (fun hc15 => ?_) (fun hc15 => ?_)
  · refine x_iload_n dX6_shortest_22 x_get_4_3 ?_
    exact x_iret dX6_shortest_23 rfl (Nat.le_of_ble_eq_true rfl) (Nat.le_of_ble_eq_true rfl) (by first | (rw [e_none, if_pos (by omega)]; done) | (rw [e_none, if_neg (by omega)]; done)) rfl rfl rfl rfl
  · refine x_iconst dX6_shortest_18 ?_
    refine x_goto (t := 23) dX6_shortest_19 rfl ?_
    exact x_iret dX6_shortest_23 rfl (Nat.le_of_ble_eq_true rfl) (Nat.le_of_ble_eq_true rfl) (by first | (rw [e_none, if_pos (by omega)]; done) | (rw [e_none, if_neg (by omega)]; done)) rfl rfl rfl rfl
theorem c6_leak {X : xC} {l : Launch} (hl : l.stackTraces = false) {N : Nat} {sh : xS} {D : xM} {ro : Nat} (hro : is_Ro N sh ro) {W T : Nat} (hrd : rd D ro W T) {a b : Int} (h0 : 0 ≤ a) (h1 : a < 8) (h2 : 0 ≤ b) (h3 : b < 8) : x_M X l yX6_tightest cX6_tightest 4 (some .int) 1 0 0 [.ref (x_b X + ro), .int (xI a), .int (xI b)] false N sh D (.inl (some (.int (xI (e_none 1000000 ((D (ro + 6)) (a * 8 + b))))))) false N sh (x_is (D)) := by
  obtain ⟨hroN, hr0, hr1, hr2, hr3, hr4, hr5, hr6⟩ := id hro
  have hroN0 : ro < N := by omega
  have hroN1 : ro + 1 < N := by omega
  have hroN2 : ro + 2 < N := by omega
  have hroN3 : ro + 3 < N := by omega
  have hroN4 : ro + 4 < N := by omega
  have hroN5 : ro + 5 < N := by omega
  have hroN6 : ro + 6 < N := by omega
  obtain ⟨q0, q0b, qT, qTb, q1, q2, q3, q4, q5, q6⟩ := id hrd
  refine x_ofW (by decide +kernel) hl (by simp [Value.category]) (by simp) ?_
  refine x_aload_n dX6_tightest_0 x_get_4_0 ?_
  refine x_getR dX6_tightest_1 fX_6_34 (by assumption) (by assumption) (by rfl) ?_
  refine x_iload_n dX6_tightest_4 x_get_4_1 ?_
  refine x_bipush dX6_tightest_5 rfl ?_
  refine x_imul dX6_tightest_7 ?_
  refine x_iload_n dX6_tightest_8 x_get_4_2 ?_
  refine x_iadd dX6_tightest_9 ?_
  refine x_iald dX6_tightest_10 (by assumption) (by assumption) (by omega) (by omega) (by decide) ?_
  refine x_istore_n dX6_tightest_11 (Nat.le_of_ble_eq_true rfl) rfl x_set_4_3 ?_
  refine x_iload_n dX6_tightest_12 x_get_4_3 ?_
  refine x_ldc (z := 1000000) dX6_tightest_13 k_RX6_44 ?_
  refine r_icmp_lt (t := 22) dX6_tightest_15 rfl (by first | exact ⟨by omega, by omega⟩ | exact x_rb (q1 _) (by decide) | exact x_rb (q2 _) (by decide) | exact x_rb (q3 _) (by decide) | exact x_rb (q4 _) (by decide) | exact x_rb (q5 _) (by decide) | exact x_rb (q6 _) (by decide) | assumption) (by first | exact ⟨by omega, by omega⟩ | exact x_rb (q1 _) (by decide) | exact x_rb (q2 _) (by decide) | exact x_rb (q3 _) (by decide) | exact x_rb (q4 _) (by decide) | exact x_rb (q5 _) (by decide) | exact x_rb (q6 _) (by decide) | assumption) (fun hc15 => ?_) (fun hc15 => ?_)
  · refine x_iload_n dX6_tightest_22 x_get_4_3 ?_
    exact x_iret dX6_tightest_23 rfl (Nat.le_of_ble_eq_true rfl) (Nat.le_of_ble_eq_true rfl) (by first | (rw [e_none, if_pos (by omega)]; done) | (rw [e_none, if_neg (by omega)]; done)) rfl rfl rfl rfl
  · refine x_iconst dX6_tightest_18 ?_
    refine x_goto (t := 23) dX6_tightest_19 rfl ?_
    exact x_iret dX6_tightest_23 rfl (Nat.le_of_ble_eq_true rfl) (Nat.le_of_ble_eq_true rfl) (by first | (rw [e_none, if_pos (by omega)]; done) | (rw [e_none, if_neg (by omega)]; done)) rfl rfl rfl rfl
theorem c6_step {X : xC} {l : Launch} (hl : l.stackTraces = false) {N : Nat} {sh : xS} {D : xM} {ro : Nat} (hro : is_Ro N sh ro) {W T : Nat} (hrd : rd D ro W T) {a t : Int} (h0 : 0 ≤ a) (h1 : a < 8) (h2 : 0 ≤ t) (h3 : t < 8) : x_M X l yX6_stepTowards cX6_stepTowards 5 (some .int) 3 0 0 [.ref (x_b X + ro), .int (xI a), .int (xI t)] false N sh D (.inl (some (.int (xI (e_step (D (ro + 1)) (D (ro + 2)) (D (ro + 3)) (D (ro + 5)) W T a t))))) false N sh (x_is (D)) := by
  obtain ⟨hroN, hr0, hr1, hr2, hr3, hr4, hr5, hr6⟩ := id hro
  have hroN0 : ro < N := by omega
  have hroN1 : ro + 1 < N := by omega
  have hroN2 : ro + 2 < N := by omega
  have hroN3 : ro + 3 < N := by omega
  have hroN4 : ro + 4 < N := by omega
  have hroN5 : ro + 5 < N := by omega
  have hroN6 : ro + 6 < N := by omega
  obtain ⟨q0, q0b, qT, qTb, q1, q2, q3, q4, q5, q6⟩ := id hrd
  refine x_ofW (by decide +kernel) hl (by simp [Value.category]) (by simp) ?_
  have hat : x_r (D (ro + 5) (a * 8 + t)) := x_rb (q5 _) (by decide)
  have hloop : ∀ i : Nat, i ≤ T → ¬ a = t → (∀ j : Nat, j < i → ¬ (¬ e_btw (D (ro + 1)) (D (ro + 2)) W a (j : Int) = -1 ∧ (D (ro + 3)) (e_btw (D (ro + 1)) (D (ro + 2)) W a (j : Int)) + (D (ro + 5)) ((j : Int) * 8 + t) = (D (ro + 5)) (a * 8 + t))) → x_W (X, l, yX6_stepTowards, cX6_stepTowards, 5, some .int, x_room 3 0 0, 0, 0, (.inl (some (.int (xI (e_step (D (ro + 1)) (D (ro + 2)) (D (ro + 3)) (D (ro + 5)) W T a t))))), N, sh, (x_is (D)), false, []) 9 [some (.ref (x_b X + ro)), some (.int (xI a)), some (.int (xI t)), some (.int (xI i)), none] [] 0 0 false N sh D := by
    refine x_down T ?_ ?_
    · intro hne hp
      refine x_iload_n dX6_stepTowards_9 x_get_5_3 ?_
      refine x_aload_n dX6_stepTowards_10 x_get_5_0 ?_
      refine x_getI 1 dX6_stepTowards_11 fX_6_15 rfl (by assumption) (by assumption) (by rfl) ?_
      rw [qT]
      refine r_icmp_ge (t := 72) dX6_stepTowards_14 rfl ⟨by omega, by omega⟩ ⟨by omega, by omega⟩ (fun hc14 => ?_) (fun hc14 => absurd hc14 (by omega))
      refine x_iconst dX6_stepTowards_72 ?_
      exact x_iret dX6_stepTowards_73 rfl (Nat.le_of_ble_eq_true rfl) (Nat.le_of_ble_eq_true rfl) (by rw [e_step, if_neg hne, x_first_none hp]) rfl rfl rfl rfl
    · intro i hi ih
      intro hne hp
      have hbt := e_btw_in (D (ro + 1)) (D (ro + 2)) W a i
      refine x_iload_n dX6_stepTowards_9 x_get_5_3 ?_
      refine x_aload_n dX6_stepTowards_10 x_get_5_0 ?_
      refine x_getI 1 dX6_stepTowards_11 fX_6_15 rfl (by assumption) (by assumption) (by rfl) ?_
      rw [qT]
      refine r_icmp_ge (t := 72) dX6_stepTowards_14 rfl ⟨by omega, by omega⟩ ⟨by omega, by omega⟩ (fun hc14 => absurd hc14 (by omega)) (fun hc14 => ?_)
      refine x_aload_n dX6_stepTowards_17 x_get_5_0 ?_
      refine x_iload_n dX6_stepTowards_18 x_get_5_1 ?_
      refine x_iload_n dX6_stepTowards_19 x_get_5_3 ?_
      refine x_callV (As := [_, _]) dX6_stepTowards_20 w_6_37 (c6_btw hl hro hrd (a := a) (b := (i : Int)) ⟨by omega, by omega⟩ ⟨by omega, by omega⟩) (by assumption) (by assumption) rfl rfl (Nat.le_of_ble_eq_true rfl) (Nat.le_of_ble_eq_true rfl) (Nat.le_of_ble_eq_true rfl) (Nat.le_of_ble_eq_true rfl) (Nat.le_of_ble_eq_true rfl) ?_
      intro d hd
      obtain rfl := Eq.symm hd
      refine x_istore dX6_stepTowards_23 (Nat.le_of_ble_eq_true rfl) rfl x_set_5_4 ?_
      refine x_iload dX6_stepTowards_25 x_get_5_4 ?_
      refine x_iconst dX6_stepTowards_27 ?_
      refine r_icmp_eq (t := 66) dX6_stepTowards_28 rfl ⟨by omega, by omega⟩ ⟨by omega, by omega⟩ (fun hc28 => ?_) (fun hc28 => ?_)
      · refine x_iinc dX6_stepTowards_66 x_get_5_3 (Nat.le_of_ble_eq_true rfl) rfl x_set_5_3 ?_
        refine x_goto (t := 9) dX6_stepTowards_69 rfl ?_
        refine x_forget 4 ?_
        exact ih hne (fun j hj => by
          by_cases h : j = i
          · rw [h]; first | exact fun hh => hh.1 hc28 | exact fun hh => hc61 hh.2
          · exact hp j (by omega))
      · refine x_aload_n dX6_stepTowards_31 x_get_5_0 ?_
        refine x_getR dX6_stepTowards_32 fX_6_25 (by assumption) (by assumption) (by rfl) ?_
        refine x_iload dX6_stepTowards_35 x_get_5_4 ?_
        refine x_iald dX6_stepTowards_37 (by assumption) (by assumption) (by omega) (by omega) (by decide) ?_
        refine x_aload_n dX6_stepTowards_38 x_get_5_0 ?_
        refine x_getR dX6_stepTowards_39 fX_6_31 (by assumption) (by assumption) (by rfl) ?_
        refine x_iload_n dX6_stepTowards_42 x_get_5_3 ?_
        refine x_bipush dX6_stepTowards_43 rfl ?_
        refine x_imul dX6_stepTowards_45 ?_
        refine x_iload_n dX6_stepTowards_46 x_get_5_2 ?_
        refine x_iadd dX6_stepTowards_47 ?_
        refine x_iald dX6_stepTowards_48 (by assumption) (by assumption) (by omega) (by omega) (by decide) ?_
        refine x_iadd dX6_stepTowards_49 ?_
        refine x_aload_n dX6_stepTowards_50 x_get_5_0 ?_
        refine x_getR dX6_stepTowards_51 fX_6_31 (by assumption) (by assumption) (by rfl) ?_
        refine x_iload_n dX6_stepTowards_54 x_get_5_1 ?_
        refine x_bipush dX6_stepTowards_55 rfl ?_
        refine x_imul dX6_stepTowards_57 ?_
        refine x_iload_n dX6_stepTowards_58 x_get_5_2 ?_
        refine x_iadd dX6_stepTowards_59 ?_
        refine x_iald dX6_stepTowards_60 (by assumption) (by assumption) (by omega) (by omega) (by decide) ?_
        have w1 := q3 (e_btw (D (ro + 1)) (D (ro + 2)) W a i)
        have w2 := q5 (i * 8 + t)
        refine r_icmp_ne (t := 66) dX6_stepTowards_61 rfl ⟨by omega, by omega⟩ hat (fun hc61 => ?_) (fun hc61 => ?_)
        · refine x_iinc dX6_stepTowards_66 x_get_5_3 (Nat.le_of_ble_eq_true rfl) rfl x_set_5_3 ?_
          refine x_goto (t := 9) dX6_stepTowards_69 rfl ?_
          refine x_forget 4 ?_
          exact ih hne (fun j hj => by
            by_cases h : j = i
            · rw [h]; first | exact fun hh => hh.1 hc28 | exact fun hh => hc61 hh.2
            · exact hp j (by omega))
        · refine x_iload_n dX6_stepTowards_64 x_get_5_3 ?_
          exact x_iret dX6_stepTowards_65 rfl (Nat.le_of_ble_eq_true rfl) (Nat.le_of_ble_eq_true rfl) (by rw [e_step, if_neg hne, x_first_hit hp ⟨hc28, hc61⟩ hi]) rfl rfl rfl rfl
  refine x_iload_n dX6_stepTowards_0 x_get_5_1 ?_
  refine x_iload_n dX6_stepTowards_1 x_get_5_2 ?_
  refine r_icmp_ne (t := 7) dX6_stepTowards_2 rfl ⟨by omega, by omega⟩ ⟨by omega, by omega⟩ (fun hc2 => ?_) (fun hc2 => ?_)
  · refine x_iconst dX6_stepTowards_7 ?_
    refine x_istore_n dX6_stepTowards_8 (Nat.le_of_ble_eq_true rfl) rfl x_set_5_3 ?_
    exact hloop 0 (Nat.zero_le _) hc2 (fun j hj => by omega)
  · refine x_iconst dX6_stepTowards_5 ?_
    exact x_iret dX6_stepTowards_6 rfl (Nat.le_of_ble_eq_true rfl) (Nat.le_of_ble_eq_true rfl) (by rw [e_step, if_pos hc2]) rfl rfl rfl rfl
theorem c6_along {X : xC} {l : Launch} (hl : l.stackTraces = false) {N : Nat} {sh : xS} {D : xM} {ro : Nat} (hro : is_Ro N sh ro) {W T : Nat} (hrd : rd D ro W T) {a t i : Int} (h0 : 0 ≤ a) (h1 : a < 8) (h2 : 0 ≤ t) (h3 : t < 8) (hir : x_r i) : x_M X l yX6_along cX6_along 6 (some .int) 4 0 0 [.ref (x_b X + ro), .int (xI a), .int (xI t), .int (xI i)] false N sh D (.inl (some (.int (xI (e_along (D (ro + 1)) (D (ro + 2)) (D (ro + 3)) (D (ro + 5)) W T a t i))))) false N sh (x_is (D)) := by
  obtain ⟨hroN, hr0, hr1, hr2, hr3, hr4, hr5, hr6⟩ := id hro
  have hroN0 : ro < N := by omega
  have hroN1 : ro + 1 < N := by omega
  have hroN2 : ro + 2 < N := by omega
  have hroN3 : ro + 3 < N := by omega
  have hroN4 : ro + 4 < N := by omega
  have hroN5 : ro + 5 < N := by omega
  have hroN6 : ro + 6 < N := by omega
  obtain ⟨q0, q0b, qT, qTb, q1, q2, q3, q4, q5, q6⟩ := id hrd
  obtain ⟨hir0, hir1⟩ := id hir
  refine x_ofW (by decide +kernel) hl (by simp [Value.category]) (by simp) ?_
  have hds := q5 (a * 8 + t)
  have hen := e_none_in (F := 1000000) hds.1
  have hloop : ∀ k : Nat, (k : Int) ≤ i → 0 ≤ i → ∀ s : Int, 0 ≤ s → s < 8 → e_walk (fun s => e_step (D (ro + 1)) (D (ro + 2)) (D (ro + 3)) (D (ro + 5)) W T s t) (i.toNat - k) s = e_along (D (ro + 1)) (D (ro + 2)) (D (ro + 3)) (D (ro + 5)) W T a t i → x_W (X, l, yX6_along, cX6_along, 6, some .int, x_room 4 0 0, 0, 0, (.inl (some (.int (xI (e_along (D (ro + 1)) (D (ro + 2)) (D (ro + 3)) (D (ro + 5)) W T a t i))))), N, sh, (x_is (D)), false, []) 28 [some (.ref (x_b X + ro)), some (.int (xI a)), some (.int (xI t)), some (.int (xI i)), some (.int (xI s)), some (.int (xI k))] [] 0 0 false N sh D := by
    intro k hk hi0
    have hk2 : k ≤ i.toNat := by omega
    revert hk
    revert k
    refine x_down i.toNat ?_ ?_
    · intro _ s hs0 hs1 hw
      rw [Nat.sub_self] at hw
      refine x_iload dX6_along_28 x_get_6_5 ?_
      refine x_iload_n dX6_along_30 x_get_6_3 ?_
      refine r_icmp_ge (t := 57) dX6_along_31 rfl ⟨by omega, by omega⟩ ⟨by omega, by omega⟩ (fun hc31 => ?_) (fun hc31 => absurd hc31 (by omega))
      refine x_iload dX6_along_57 x_get_6_4 ?_
      exact x_iret dX6_along_59 rfl (Nat.le_of_ble_eq_true rfl) (Nat.le_of_ble_eq_true rfl) (by rw [← hw]; rfl) rfl rfl rfl rfl
    · intro k hk ih hki s hs0 hs1 hw
      have e1 : i.toNat - k = (i.toNat - (k + 1)) + 1 := by omega
      rw [e1, e_walk] at hw
      have hsi := e_step_in (D (ro + 1)) (D (ro + 2)) (D (ro + 3)) (D (ro + 5)) W T s t
      refine x_iload dX6_along_28 x_get_6_5 ?_
      refine x_iload_n dX6_along_30 x_get_6_3 ?_
      refine r_icmp_ge (t := 57) dX6_along_31 rfl ⟨by omega, by omega⟩ ⟨by omega, by omega⟩ (fun hc31 => absurd hc31 (by omega)) (fun hc31 => ?_)
      refine x_aload_n dX6_along_34 x_get_6_0 ?_
      refine x_iload dX6_along_35 x_get_6_4 ?_
      refine x_iload_n dX6_along_37 x_get_6_2 ?_
      refine x_callV (As := [_, _]) dX6_along_38 w_6_61 (c6_step hl hro hrd hs0 hs1 h2 h3) (by assumption) (by assumption) rfl rfl (Nat.le_of_ble_eq_true rfl) (Nat.le_of_ble_eq_true rfl) (Nat.le_of_ble_eq_true rfl) (Nat.le_of_ble_eq_true rfl) (Nat.le_of_ble_eq_true rfl) ?_
      intro d hd
      obtain rfl := Eq.symm hd
      refine x_istore dX6_along_41 (Nat.le_of_ble_eq_true rfl) rfl x_set_6_4 ?_
      refine x_iload dX6_along_43 x_get_6_4 ?_
      refine x_iconst dX6_along_45 ?_
      refine r_icmp_ne (t := 51) dX6_along_46 rfl ⟨by omega, by omega⟩ ⟨by omega, by omega⟩ (fun hc46 => ?_) (fun hc46 => ?_)
      · refine x_iinc dX6_along_51 x_get_6_5 (Nat.le_of_ble_eq_true rfl) rfl x_set_6_5 ?_
        refine x_goto (t := 28) dX6_along_54 rfl ?_
        rw [if_neg hc46] at hw
        exact ih (by omega) _ (by omega) (by omega) hw
      · refine x_iconst dX6_along_49 ?_
        exact x_iret dX6_along_50 rfl (Nat.le_of_ble_eq_true rfl) (Nat.le_of_ble_eq_true rfl) (by rw [if_pos hc46] at hw; rw [← hw]) rfl rfl rfl rfl
  refine x_iload_n dX6_along_0 x_get_6_3 ?_
  refine r_if_lt (t := 20) dX6_along_1 rfl ⟨by omega, by omega⟩ (fun hc1 => ?_) (fun hc1 => ?_)
  · refine x_iconst dX6_along_20 ?_
    exact x_iret dX6_along_21 rfl (Nat.le_of_ble_eq_true rfl) (Nat.le_of_ble_eq_true rfl) (by rw [e_along, if_pos (by omega)]) rfl rfl rfl rfl
  · refine x_iload_n dX6_along_4 x_get_6_3 ?_
    refine x_bipush dX6_along_5 rfl ?_
    refine r_icmp_ge (t := 20) dX6_along_7 rfl ⟨by omega, by omega⟩ ⟨by omega, by omega⟩ (fun hc7 => ?_) (fun hc7 => ?_)
    · refine x_iconst dX6_along_20 ?_
      exact x_iret dX6_along_21 rfl (Nat.le_of_ble_eq_true rfl) (Nat.le_of_ble_eq_true rfl) (by rw [e_along, if_pos (by omega)]) rfl rfl rfl rfl
    · refine x_aload_n dX6_along_10 x_get_6_0 ?_
      refine x_iload_n dX6_along_11 x_get_6_1 ?_
      refine x_iload_n dX6_along_12 x_get_6_2 ?_
      refine x_callV (As := [_, _]) dX6_along_13 w_6_58 (c6_far hl hro hrd h0 h1 h2 h3) (by assumption) (by assumption) rfl rfl (Nat.le_of_ble_eq_true rfl) (Nat.le_of_ble_eq_true rfl) (Nat.le_of_ble_eq_true rfl) (Nat.le_of_ble_eq_true rfl) (Nat.le_of_ble_eq_true rfl) ?_
      intro d hd
      obtain rfl := Eq.symm hd
      refine x_iconst dX6_along_16 ?_
      refine r_icmp_ne (t := 22) dX6_along_17 rfl ⟨by omega, by omega⟩ ⟨by omega, by omega⟩ (fun hc17 => ?_) (fun hc17 => ?_)
      · refine x_iload_n dX6_along_22 x_get_6_1 ?_
        refine x_istore dX6_along_23 (Nat.le_of_ble_eq_true rfl) rfl x_set_6_4 ?_
        refine x_iconst dX6_along_25 ?_
        refine x_istore dX6_along_26 (Nat.le_of_ble_eq_true rfl) rfl x_set_6_5 ?_
        exact hloop 0 (by omega) (by omega) a h0 h1 (by rw [e_along, if_neg (by omega)]; rfl)
      · refine x_iconst dX6_along_20 ?_
        exact x_iret dX6_along_21 rfl (Nat.le_of_ble_eq_true rfl) (Nat.le_of_ble_eq_true rfl) (by rw [e_along, if_pos (by omega)]) rfl rfl rfl rfl
theorem c6_mid {X : xC} {l : Launch} (hl : l.stackTraces = false) {N : Nat} {sh : xS} {D : xM} {ro : Nat} (hro : is_Ro N sh ro) {W T : Nat} (hrd : rd D ro W T) : x_M X l yX6_middle cX6_middle 6 (some .int) 1 0 0 [.ref (x_b X + ro)] false N sh D (.inl (some (.int (xI ((e_mid 1000000 (D (ro + 5)) T T).1))))) false N sh (x_is (D)) := by
  obtain ⟨hroN, hr0, hr1, hr2, hr3, hr4, hr5, hr6⟩ := id hro
  have hroN0 : ro < N := by omega
  have hroN1 : ro + 1 < N := by omega
  have hroN2 : ro + 2 < N := by omega
  have hroN3 : ro + 3 < N := by omega
  have hroN4 : ro + 4 < N := by omega
  have hroN5 : ro + 5 < N := by omega
  have hroN6 : ro + 6 < N := by omega
  obtain ⟨q0, q0b, qT, qTb, q1, q2, q3, q4, q5, q6⟩ := id hrd
  have hmx : ∀ (t : Int) (i : Nat), 0 ≤ x_mx (fun o => (D (ro + 5)) (t * 8 + o)) i ∧ x_mx (fun o => (D (ro + 5)) (t * 8 + o)) i ≤ 1000000 := fun t i => x_mx_in (by decide) (fun j => q5 _) i
  have hem : ∀ i : Nat, i ≤ T → -1 ≤ (e_mid 1000000 (D (ro + 5)) T i).1 ∧ (e_mid 1000000 (D (ro + 5)) T i).1 < 8 ∧ 0 ≤ (e_mid 1000000 (D (ro + 5)) T i).2 ∧ (e_mid 1000000 (D (ro + 5)) T i).2 ≤ 1000000 := by
    intro i
    induction i with
    | zero => intro _; simp [e_mid]
    | succ i ih =>
      intro hi
      have h1 := ih (by omega)
      have h2 := hmx i T
      unfold e_mid
      split
      · simp only; omega
      · exact h1
  refine x_ofW (by decide +kernel) hl (by simp [Value.category]) (by simp) ?_
  have hloop : ∀ i : Nat, i ≤ T → x_W (X, l, yX6_middle, cX6_middle, 6, some .int, x_room 1 0 0, 0, 0, (.inl (some (.int (xI ((e_mid 1000000 (D (ro + 5)) T T).1))))), N, sh, (x_is (D)), false, []) 7 [some (.ref (x_b X + ro)), some (.int (xI (e_mid 1000000 (D (ro + 5)) T i).1)), some (.int (xI (e_mid 1000000 (D (ro + 5)) T i).2)), some (.int (xI i)), none, none] [] 0 0 false N sh D := by
    refine x_down T ?_ ?_
    · refine x_iload_n dX6_middle_7 x_get_6_3 ?_
      refine x_aload_n dX6_middle_8 x_get_6_0 ?_
      refine x_getI 1 dX6_middle_9 fX_6_15 rfl (by assumption) (by assumption) (by rfl) ?_
      rw [qT]
      refine r_icmp_ge (t := 72) dX6_middle_12 rfl ⟨by omega, by omega⟩ ⟨by omega, by omega⟩ (fun hc12 => ?_) (fun hc12 => absurd hc12 (by omega))
      refine x_iload_n dX6_middle_72 x_get_6_1 ?_
      exact x_iret dX6_middle_73 rfl (Nat.le_of_ble_eq_true rfl) (Nat.le_of_ble_eq_true rfl) rfl rfl rfl rfl rfl
    · intro i hi ih
      have b1 := hem i (by omega)
      have b2 := hmx i T
      have hin : ∀ j : Nat, j ≤ T → x_W (X, l, yX6_middle, cX6_middle, 6, some .int, x_room 1 0 0, 0, 0, (.inl (some (.int (xI ((e_mid 1000000 (D (ro + 5)) T T).1))))), N, sh, (x_is (D)), false, []) 21 [some (.ref (x_b X + ro)), some (.int (xI (e_mid 1000000 (D (ro + 5)) T i).1)), some (.int (xI (e_mid 1000000 (D (ro + 5)) T i).2)), some (.int (xI i)), some (.int (xI (x_mx (fun o => (D (ro + 5)) (i * 8 + o)) j))), some (.int (xI j))] [] 0 0 false N sh D := by
        refine x_down T ?_ ?_
        · refine x_iload dX6_middle_21 x_get_6_5 ?_
          refine x_aload_n dX6_middle_23 x_get_6_0 ?_
          refine x_getI 1 dX6_middle_24 fX_6_15 rfl (by assumption) (by assumption) (by rfl) ?_
          rw [qT]
          refine r_icmp_ge (t := 55) dX6_middle_27 rfl ⟨by omega, by omega⟩ ⟨by omega, by omega⟩ (fun hc27 => ?_) (fun hc27 => absurd hc27 (by omega))
          refine x_iload dX6_middle_55 x_get_6_4 ?_
          refine x_iload_n dX6_middle_57 x_get_6_2 ?_
          refine r_icmp_ge (t := 66) dX6_middle_58 rfl ⟨by omega, by omega⟩ ⟨by omega, by omega⟩ (fun hc58 => ?_) (fun hc58 => ?_)
          · refine x_iinc dX6_middle_66 x_get_6_3 (Nat.le_of_ble_eq_true rfl) rfl x_set_6_3 ?_
            refine x_goto (t := 7) dX6_middle_69 rfl ?_
            refine x_forget 4 (x_forget 5 ?_)
            rw [e_mid_s] at ih
            first | (rw [if_pos (by omega)] at ih; exact ih) | (rw [if_neg (by omega)] at ih; exact ih)
          · refine x_iload_n dX6_middle_61 x_get_6_3 ?_
            refine x_istore_n dX6_middle_62 (Nat.le_of_ble_eq_true rfl) rfl x_set_6_1 ?_
            refine x_iload dX6_middle_63 x_get_6_4 ?_
            refine x_istore_n dX6_middle_65 (Nat.le_of_ble_eq_true rfl) rfl x_set_6_2 ?_
            refine x_iinc dX6_middle_66 x_get_6_3 (Nat.le_of_ble_eq_true rfl) rfl x_set_6_3 ?_
            refine x_goto (t := 7) dX6_middle_69 rfl ?_
            refine x_forget 4 (x_forget 5 ?_)
            rw [e_mid_s] at ih
            first | (rw [if_pos (by omega)] at ih; exact ih) | (rw [if_neg (by omega)] at ih; exact ih)
        · intro j hj ihj
          have b3 := hmx i j
          have b4 := q5 (i * 8 + j)
          refine x_iload dX6_middle_21 x_get_6_5 ?_
          refine x_aload_n dX6_middle_23 x_get_6_0 ?_
          refine x_getI 1 dX6_middle_24 fX_6_15 rfl (by assumption) (by assumption) (by rfl) ?_
          rw [qT]
          refine r_icmp_ge (t := 55) dX6_middle_27 rfl (by first | exact ⟨by omega, by omega⟩ | exact x_rb (q1 _) (by decide) | exact x_rb (q2 _) (by decide) | exact x_rb (q3 _) (by decide) | exact x_rb (q4 _) (by decide) | exact x_rb (q5 _) (by decide) | exact x_rb (q6 _) (by decide) | assumption) (by first | exact ⟨by omega, by omega⟩ | exact x_rb (q1 _) (by decide) | exact x_rb (q2 _) (by decide) | exact x_rb (q3 _) (by decide) | exact x_rb (q4 _) (by decide) | exact x_rb (q5 _) (by decide) | exact x_rb (q6 _) (by decide) | assumption) (fun hc27 => absurd hc27 (by omega)) (fun hc27 => ?_)
          refine x_iload dX6_middle_30 x_get_6_4 ?_
          refine x_aload_n dX6_middle_32 x_get_6_0 ?_
          refine x_getR dX6_middle_33 fX_6_31 (by assumption) (by assumption) (by rfl) ?_
          refine x_iload_n dX6_middle_36 x_get_6_3 ?_
          refine x_bipush dX6_middle_37 rfl ?_
          refine x_imul dX6_middle_39 ?_
          refine x_iload dX6_middle_40 x_get_6_5 ?_
          refine x_iadd dX6_middle_42 ?_
          refine x_iald dX6_middle_43 (by assumption) (by assumption) (by omega) (by omega) (by decide) ?_
          refine r_max dX6_middle_44 w_6_64 (by first | exact ⟨by omega, by omega⟩ | exact x_rb (q1 _) (by decide) | exact x_rb (q2 _) (by decide) | exact x_rb (q3 _) (by decide) | exact x_rb (q4 _) (by decide) | exact x_rb (q5 _) (by decide) | exact x_rb (q6 _) (by decide) | assumption) (by first | exact ⟨by omega, by omega⟩ | exact x_rb (q1 _) (by decide) | exact x_rb (q2 _) (by decide) | exact x_rb (q3 _) (by decide) | exact x_rb (q4 _) (by decide) | exact x_rb (q5 _) (by decide) | exact x_rb (q6 _) (by decide) | assumption) (Nat.le_of_ble_eq_true rfl) (Nat.le_of_ble_eq_true rfl) (Nat.le_of_ble_eq_true rfl) (Nat.le_of_ble_eq_true rfl) ?_
          refine x_istore dX6_middle_47 (Nat.le_of_ble_eq_true rfl) rfl x_set_6_4 ?_
          refine x_iinc dX6_middle_49 x_get_6_5 (Nat.le_of_ble_eq_true rfl) rfl x_set_6_5 ?_
          refine x_goto (t := 21) dX6_middle_52 rfl ?_
          exact ihj
      refine x_iload_n dX6_middle_7 x_get_6_3 ?_
      refine x_aload_n dX6_middle_8 x_get_6_0 ?_
      refine x_getI 1 dX6_middle_9 fX_6_15 rfl (by assumption) (by assumption) (by rfl) ?_
      rw [qT]
      refine r_icmp_ge (t := 72) dX6_middle_12 rfl ⟨by omega, by omega⟩ ⟨by omega, by omega⟩ (fun hc12 => absurd hc12 (by omega)) (fun hc12 => ?_)
      refine x_iconst dX6_middle_15 ?_
      refine x_istore dX6_middle_16 (Nat.le_of_ble_eq_true rfl) rfl x_set_6_4 ?_
      refine x_iconst dX6_middle_18 ?_
      refine x_istore dX6_middle_19 (Nat.le_of_ble_eq_true rfl) rfl x_set_6_5 ?_
      exact hin 0 (Nat.zero_le _)
  refine x_iconst dX6_middle_0 ?_
  refine x_istore_n dX6_middle_1 (Nat.le_of_ble_eq_true rfl) rfl x_set_6_1 ?_
  refine x_ldc (z := 1000000) dX6_middle_2 k_RX6_44 ?_
  refine x_istore_n dX6_middle_4 (Nat.le_of_ble_eq_true rfl) rfl x_set_6_2 ?_
  refine x_iconst dX6_middle_5 ?_
  refine x_istore_n dX6_middle_6 (Nat.le_of_ble_eq_true rfl) rfl x_set_6_3 ?_
  exact hloop 0 (Nat.zero_le _)
theorem c6_parts {X : xC} {l : Launch} (hl : l.stackTraces = false) {N : Nat} {sh : xS} {D : xM} {ro : Nat} (hro : is_Ro N sh ro) {W T : Nat} (hrd : rd D ro W T) {w : Int} (h0 : 0 ≤ w) (h1 : w < 12) : x_M X l yX6_parts cX6_parts 6 (some .boolean) 1 0 0 [.ref (x_b X + ro), .int (xI w)] false N sh D (.inl (some (.int (xI (x_B ((p_rr (D (ro + 1)) (D (ro + 2)) w W (2 ^ ((D (ro + 1)) w).toNat) T) &&& 2 ^ ((D (ro + 2)) w).toNat = 0)))))) false N sh (x_is (D)) := by
  obtain ⟨hroN, hr0, hr1, hr2, hr3, hr4, hr5, hr6⟩ := id hro
  have hroN0 : ro < N := by omega
  have hroN1 : ro + 1 < N := by omega
  have hroN2 : ro + 2 < N := by omega
  have hroN3 : ro + 3 < N := by omega
  have hroN4 : ro + 4 < N := by omega
  have hroN5 : ro + 5 < N := by omega
  have hroN6 : ro + 6 < N := by omega
  obtain ⟨q0, q0b, qT, qTb, q1, q2, q3, q4, q5, q6⟩ := id hrd
  have a1 := q1 w
  have a2 := q2 w
  have hr0b : (2 ^ ((D (ro + 1)) w).toNat) < 2 ^ 8 := Nat.pow_lt_pow_right (by decide) (by omega)
  have hrr : ∀ k, (p_rr (D (ro + 1)) (D (ro + 2)) w W (2 ^ ((D (ro + 1)) w).toNat) k) < 2 ^ 8 := p_rr_lt q1 q2 hr0b
  have hrw : ∀ k j, (p_rw (D (ro + 1)) (D (ro + 2)) w (p_rr (D (ro + 1)) (D (ro + 2)) w W (2 ^ ((D (ro + 1)) w).toNat) k) j) < 2 ^ 8 := fun k j => p_rw_lt q1 q2 (hrr k) j
  have hen := p_ends_lt q1 q2
  have h2p : 2 ^ (D (ro + 2) w).toNat < 2 ^ 8 := Nat.pow_lt_pow_right (by decide) (by omega)
  refine x_ofW (by decide +kernel) hl (by simp [Value.category]) (by simp) ?_
  have hloop : ∀ k : Nat, k ≤ T → x_W (X, l, yX6_parts, cX6_parts, 6, some .boolean, x_room 1 0 0, 0, 0, (.inl (some (.int (xI (x_B ((p_rr (D (ro + 1)) (D (ro + 2)) w W (2 ^ ((D (ro + 1)) w).toNat) T) &&& 2 ^ ((D (ro + 2)) w).toNat = 0)))))), N, sh, (x_is (D)), false, []) 11 [some (.ref (x_b X + ro)), some (.int (xI w)), some (.int (xI (((p_rr (D (ro + 1)) (D (ro + 2)) w W (2 ^ ((D (ro + 1)) w).toNat) k) : Nat) : Int))), some (.int (xI k)), none, none] [] 0 0 false N sh D := by
    refine x_down T ?_ ?_
    · refine x_iload_n dX6_parts_11 x_get_6_3 ?_
      refine x_aload_n dX6_parts_12 x_get_6_0 ?_
      refine x_getI 1 dX6_parts_13 fX_6_15 rfl (by assumption) (by assumption) (by rfl) ?_
      rw [qT]
      refine r_icmp_ge (t := 82) dX6_parts_16 rfl ⟨by omega, by omega⟩ ⟨by omega, by omega⟩ (fun hc16 => ?_) (fun hc16 => absurd hc16 (by omega))
      refine x_iload_n dX6_parts_82 x_get_6_2 ?_
      refine x_iconst dX6_parts_83 ?_
      refine x_aload_n dX6_parts_84 x_get_6_0 ?_
      refine x_getR dX6_parts_85 fX_6_22 (by assumption) (by assumption) (by rfl) ?_
      refine x_iload_n dX6_parts_88 x_get_6_1 ?_
      refine x_iald dX6_parts_89 (by assumption) (by assumption) (by omega) (by omega) (by decide) ?_
      refine x_ishl dX6_parts_90 ?_
      refine x_as_is (x_sl1z (by omega) (by omega)) ?_
      refine x_iand dX6_parts_91 ?_
      refine x_as_is (x_an_nat (by have := hrr T; omega)) ?_
      refine r_if_ne (t := 99) dX6_parts_92 rfl ⟨by omega, by have := @Nat.and_le_left (p_rr (D (ro + 1)) (D (ro + 2)) w W (2 ^ ((D (ro + 1)) w).toNat) T) (2 ^ (D (ro + 2) w).toNat); have := hrr T; omega⟩ (fun hc92 => ?_) (fun hc92 => ?_)
      · refine x_iconst dX6_parts_99 ?_
        exact x_zret dX6_parts_100 rfl (by omega) (Nat.le_of_ble_eq_true rfl) (Nat.le_of_ble_eq_true rfl) (by first | (rw [x_B, if_pos (by omega)]; done) | (rw [x_B, if_neg (by omega)]; done)) rfl rfl rfl rfl
      · refine x_iconst dX6_parts_95 ?_
        refine x_goto (t := 100) dX6_parts_96 rfl ?_
        exact x_zret dX6_parts_100 rfl (by omega) (Nat.le_of_ble_eq_true rfl) (Nat.le_of_ble_eq_true rfl) (by first | (rw [x_B, if_pos (by omega)]; done) | (rw [x_B, if_neg (by omega)]; done)) rfl rfl rfl rfl
    · intro k hk ih
      have hin : ∀ j : Nat, j ≤ W → x_W (X, l, yX6_parts, cX6_parts, 6, some .boolean, x_room 1 0 0, 0, 0, (.inl (some (.int (xI (x_B ((p_rr (D (ro + 1)) (D (ro + 2)) w W (2 ^ ((D (ro + 1)) w).toNat) T) &&& 2 ^ ((D (ro + 2)) w).toNat = 0)))))), N, sh, (x_is (D)), false, []) 22 [some (.ref (x_b X + ro)), some (.int (xI w)), some (.int (xI (((p_rw (D (ro + 1)) (D (ro + 2)) w (p_rr (D (ro + 1)) (D (ro + 2)) w W (2 ^ ((D (ro + 1)) w).toNat) k) j) : Nat) : Int))), some (.int (xI k)), some (.int (xI j)), none] [] 0 0 false N sh D := by
        refine x_down W ?_ ?_
        · refine x_iload dX6_parts_22 x_get_6_4 ?_
          refine x_aload_n dX6_parts_24 x_get_6_0 ?_
          refine x_getI 0 dX6_parts_25 fX_6_9 rfl (by assumption) (by assumption) (by rfl) ?_
          rw [q0]
          refine r_icmp_ge (t := 76) dX6_parts_28 rfl ⟨by omega, by omega⟩ ⟨by omega, by omega⟩ (fun hc28 => ?_) (fun hc28 => absurd hc28 (by omega))
          refine x_iinc dX6_parts_76 x_get_6_3 (Nat.le_of_ble_eq_true rfl) rfl x_set_6_3 ?_
          refine x_goto (t := 11) dX6_parts_79 rfl ?_
          refine x_forget 4 ?_
          exact ih
        · intro j hj ihj
          have c1 := q1 j
          have c2 := q2 j
          have c3 := hrw k j
          have c4 := hen j
          rw [p_rw_s] at ihj
          have x1 : 2 ^ (D (ro + 1) j).toNat < 2 ^ 8 := Nat.pow_lt_pow_right (by decide) (by omega)
          have x2 : 2 ^ (D (ro + 2) j).toNat < 2 ^ 8 := Nat.pow_lt_pow_right (by decide) (by omega)
          have x3 := @Nat.and_le_left (p_rw (D (ro + 1)) (D (ro + 2)) w (p_rr (D (ro + 1)) (D (ro + 2)) w W (2 ^ ((D (ro + 1)) w).toNat) k) j) (p_ends (D (ro + 1)) (D (ro + 2)) j)
          refine x_iload dX6_parts_22 x_get_6_4 ?_
          refine x_aload_n dX6_parts_24 x_get_6_0 ?_
          refine x_getI 0 dX6_parts_25 fX_6_9 rfl (by assumption) (by assumption) (by rfl) ?_
          rw [q0]
          refine r_icmp_ge (t := 76) dX6_parts_28 rfl ⟨by omega, by omega⟩ ⟨by omega, by omega⟩ (fun hc28 => absurd hc28 (by omega)) (fun hc28 => ?_)
          refine x_iconst dX6_parts_31 ?_
          refine x_aload_n dX6_parts_32 x_get_6_0 ?_
          refine x_getR dX6_parts_33 fX_6_18 (by assumption) (by assumption) (by rfl) ?_
          refine x_iload dX6_parts_36 x_get_6_4 ?_
          refine x_iald dX6_parts_38 (by assumption) (by assumption) (by omega) (by omega) (by decide) ?_
          refine x_ishl dX6_parts_39 ?_
          refine x_as_is (x_sl1z (by omega) (by omega)) ?_
          refine x_iconst dX6_parts_40 ?_
          refine x_aload_n dX6_parts_41 x_get_6_0 ?_
          refine x_getR dX6_parts_42 fX_6_22 (by assumption) (by assumption) (by rfl) ?_
          refine x_iload dX6_parts_45 x_get_6_4 ?_
          refine x_iald dX6_parts_47 (by assumption) (by assumption) (by omega) (by omega) (by decide) ?_
          refine x_ishl dX6_parts_48 ?_
          refine x_as_is (x_sl1z (by omega) (by omega)) ?_
          refine x_ior dX6_parts_49 ?_
          refine x_as_is (b := ((p_ends (D (ro + 1)) (D (ro + 2)) j : Nat) : Int)) (x_or_nat (by omega) (by omega)) ?_
          refine x_istore dX6_parts_50 (Nat.le_of_ble_eq_true rfl) rfl x_set_6_5 ?_
          refine x_iload dX6_parts_52 x_get_6_4 ?_
          refine x_iload_n dX6_parts_54 x_get_6_1 ?_
          refine r_icmp_eq (t := 70) dX6_parts_55 rfl ⟨by omega, by omega⟩ ⟨by omega, by omega⟩ (fun hc55 => ?_) (fun hc55 => ?_)
          · refine x_iinc dX6_parts_70 x_get_6_4 (Nat.le_of_ble_eq_true rfl) rfl x_set_6_4 ?_
            refine x_goto (t := 22) dX6_parts_73 rfl ?_
            refine x_forget 5 ?_
            first | (rw [if_pos ⟨by omega, by omega⟩] at ihj; exact ihj) | (rw [if_neg (fun hh => hh.1 (by omega))] at ihj; exact ihj) | (rw [if_neg (fun hh => hh.2 (by omega))] at ihj; exact ihj)
          · refine x_iload_n dX6_parts_58 x_get_6_2 ?_
            refine x_iload dX6_parts_59 x_get_6_5 ?_
            refine x_iand dX6_parts_61 ?_
            refine x_as_is (x_an_nat (by omega)) ?_
            refine r_if_eq (t := 70) dX6_parts_62 rfl ⟨by omega, by omega⟩ (fun hc62 => ?_) (fun hc62 => ?_)
            · refine x_iinc dX6_parts_70 x_get_6_4 (Nat.le_of_ble_eq_true rfl) rfl x_set_6_4 ?_
              refine x_goto (t := 22) dX6_parts_73 rfl ?_
              refine x_forget 5 ?_
              first | (rw [if_pos ⟨by omega, by omega⟩] at ihj; exact ihj) | (rw [if_neg (fun hh => hh.1 (by omega))] at ihj; exact ihj) | (rw [if_neg (fun hh => hh.2 (by omega))] at ihj; exact ihj)
            · refine x_iload_n dX6_parts_65 x_get_6_2 ?_
              refine x_iload dX6_parts_66 x_get_6_5 ?_
              refine x_ior dX6_parts_68 ?_
              refine x_as_is (x_or_nat (by omega) (by omega)) ?_
              refine x_istore_n dX6_parts_69 (Nat.le_of_ble_eq_true rfl) rfl x_set_6_2 ?_
              refine x_iinc dX6_parts_70 x_get_6_4 (Nat.le_of_ble_eq_true rfl) rfl x_set_6_4 ?_
              refine x_goto (t := 22) dX6_parts_73 rfl ?_
              refine x_forget 5 ?_
              first | (rw [if_pos ⟨by omega, by omega⟩] at ihj; exact ihj) | (rw [if_neg (fun hh => hh.1 (by omega))] at ihj; exact ihj) | (rw [if_neg (fun hh => hh.2 (by omega))] at ihj; exact ihj)
      refine x_iload_n dX6_parts_11 x_get_6_3 ?_
      refine x_aload_n dX6_parts_12 x_get_6_0 ?_
      refine x_getI 1 dX6_parts_13 fX_6_15 rfl (by assumption) (by assumption) (by rfl) ?_
      rw [qT]
      refine r_icmp_ge (t := 82) dX6_parts_16 rfl ⟨by omega, by omega⟩ ⟨by omega, by omega⟩ (fun hc16 => absurd hc16 (by omega)) (fun hc16 => ?_)
      refine x_iconst dX6_parts_19 ?_
      refine x_istore dX6_parts_20 (Nat.le_of_ble_eq_true rfl) rfl x_set_6_4 ?_
      exact hin 0 (Nat.zero_le _)
  refine x_iconst dX6_parts_0 ?_
  refine x_aload_n dX6_parts_1 x_get_6_0 ?_
  refine x_getR dX6_parts_2 fX_6_18 (by assumption) (by assumption) (by rfl) ?_
  refine x_iload_n dX6_parts_5 x_get_6_1 ?_
  refine x_iald dX6_parts_6 (by assumption) (by assumption) (by omega) (by omega) (by decide) ?_
  refine x_ishl dX6_parts_7 ?_
  refine x_as_is (x_sl1z (by omega) (by omega)) ?_
  refine x_istore_n dX6_parts_8 (Nat.le_of_ble_eq_true rfl) rfl x_set_6_2 ?_
  refine x_iconst dX6_parts_9 ?_
  refine x_istore_n dX6_parts_10 (Nat.le_of_ble_eq_true rfl) rfl x_set_6_3 ?_
  exact hloop 0 (Nat.zero_le _)
end C38
