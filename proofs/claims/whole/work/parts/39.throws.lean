section C39
def t_pow : Nat → Int
  | 0 => 1
  | n + 1 => t_pow n * 12
def t_goal (w goal : Int) : Nat → Int → Int
  | 0, g => if goal ≤ g then t_pow 0 else 0
  | n + 1, g => if goal ≤ g then t_pow (n + 1) else if g ≤ 0 then 0 else w * t_goal w goal n (g + 1) + (12 - w) * t_goal w goal n (g - 1)
def t_best (w : Int) : Nat → Int → Int
  | 0, g => g * t_pow 0
  | n + 1, g => if g ≤ 0 then g * t_pow (n + 1) else max (g * t_pow (n + 1)) (w * t_best w n (g + 1) + (12 - w) * t_best w n (g - 1))
theorem t_pow_pos : ∀ n : Nat, 0 < t_pow n
  | 0 => by decide
  | n + 1 => by have := t_pow_pos n; unfold t_pow; omega
theorem t_pow_le : ∀ n : Nat, n ≤ 7 → t_pow n ≤ 35831808 := by decide
theorem t_best_in {w : Int} (h0 : 0 ≤ w) (h1 : w ≤ 12) : ∀ (n : Nat) (g : Int), 0 ≤ g → 0 ≤ t_best w n g ∧ t_best w n g ≤ (g + n) * t_pow n
  | 0, g, hg => by
    unfold t_best
    simp only [t_pow]
    omega
  | n + 1, g, hg => by
    have hp := t_pow_pos n
    have e1 : t_pow (n + 1) = t_pow n * 12 := rfl
    have hgp : 0 ≤ g * t_pow n := Int.mul_nonneg hg (by omega)
    have hnp : 0 ≤ (n : Int) * t_pow n := Int.mul_nonneg (by omega) (by omega)
    have hA : (g + ((n + 1 : Nat) : Int)) * t_pow (n + 1) = 12 * (g * t_pow n) + 12 * ((n : Int) * t_pow n) + 12 * t_pow n := by
      rw [e1]; push_cast; grind
    have hB : g * t_pow (n + 1) = 12 * (g * t_pow n) := by rw [e1]; grind
    unfold t_best
    rw [hA, hB]
    split
    · omega
    · next hgn =>
      have i1 := t_best_in h0 h1 n (g + 1) (by omega)
      have i2 := t_best_in h0 h1 n (g - 1) (by omega)
      have hC : (g + 1 + (n : Int)) * t_pow n = g * t_pow n + t_pow n + (n : Int) * t_pow n := by grind
      have hD : (g - 1 + (n : Int)) * t_pow n = g * t_pow n - t_pow n + (n : Int) * t_pow n := by grind
      rw [hC] at i1
      rw [hD] at i2
      generalize g * t_pow n = A at *
      generalize (n : Int) * t_pow n = B at *
      generalize t_pow n = P at *
      generalize t_best w n (g + 1) = x at *
      generalize t_best w n (g - 1) = y at *
      have m1 : 0 ≤ w * x := Int.mul_nonneg h0 i1.1
      have m2 : 0 ≤ (12 - w) * y := Int.mul_nonneg (by omega) i2.1
      have m3 : w * x ≤ w * (A + P + B) := Int.mul_le_mul_of_nonneg_left i1.2 h0
      have m4 : (12 - w) * y ≤ (12 - w) * (A - P + B) := Int.mul_le_mul_of_nonneg_left i2.2 (by omega)
      have m5 : (12 - w) * (A - P + B) = 12 * (A - P + B) - w * (A - P + B) := by grind
      have m6 : w * (A + P + B) - w * (A - P + B) = 2 * (w * P) := by grind
      have m7 : w * P ≤ 12 * P := Int.mul_le_mul_of_nonneg_right h1 (by omega)
      have m8 : 0 ≤ w * P := Int.mul_nonneg h0 (by omega)
      omega
theorem w_10_15 : x_cs RX10 15 yX10_toGoal cX10_toGoal 4 (some .int) 4 := ⟨(x_in 1120 (by decide +kernel) rfl), (x_in 1115 (by decide +kernel) rfl), (x_in 104 (by decide +kernel) rfl), (x_in 1116 (by decide +kernel) rfl), by decide, ⟨by decide +kernel, by decide +kernel, by decide +kernel⟩⟩
theorem w_10_19 : x_cs RX10 19 yX10_best cX10_best 5 (some .int) 3 := ⟨(x_in 1136 (by decide +kernel) rfl), (x_in 1134 (by decide +kernel) rfl), (x_in 104 (by decide +kernel) rfl), (x_in 1135 (by decide +kernel) rfl), by decide, ⟨by decide +kernel, by decide +kernel, by decide +kernel⟩⟩
theorem w_10_23 : x_mw RX10 23 Lib.Math.max.name Lib.Math.max.code 2 := ⟨(x_in 1137 (by decide +kernel) rfl), (x_in 451 (by decide +kernel) rfl), (x_in 95 (by decide +kernel) rfl), (x_in 452 (by decide +kernel) rfl)⟩
theorem w_10_9 : x_cs RX10 9 yX10_power cX10_power 3 (some .int) 1 := ⟨(x_in 1117 (by decide +kernel) rfl), (x_in 1118 (by decide +kernel) rfl), (x_in 104 (by decide +kernel) rfl), (x_in 1119 (by decide +kernel) rfl), by decide, ⟨by decide +kernel, by decide +kernel, by decide +kernel⟩⟩
theorem c10_power {X : xC} {l : Launch} (hl : l.stackTraces = false) {N : Nat} {sh : xS} {D : xM} {n : Nat} (hn : n ≤ 7) : x_M X l yX10_power cX10_power 3 (some .int) 1 0 0 [.int (xI n)] false N sh D (.inl (some (.int (xI (t_pow n))))) false N sh (x_is (D)) := by
  refine x_ofW (by decide +kernel) hl (by simp [Value.category]) (by simp) ?_
  have hloop : ∀ i : Nat, i ≤ n → x_W (X, l, yX10_power, cX10_power, 3, some .int, x_room 1 0 0, 0, 0, (.inl (some (.int (xI (t_pow n))))), N, sh, (x_is (D)), false, []) 4 [some (.int (xI n)), some (.int (xI (t_pow i))), some (.int (xI i))] [] 0 0 false N sh D := by
    refine x_down n ?_ ?_
    · refine x_iload_n dX10_power_4 x_get_3_2 ?_
      refine x_iload_n dX10_power_5 x_get_3_0 ?_
      refine r_icmp_ge (t := 20) dX10_power_6 rfl ⟨by omega, by omega⟩ ⟨by omega, by omega⟩ (fun hc6 => ?_) (fun hc6 => absurd hc6 (by omega))
      refine x_iload_n dX10_power_20 x_get_3_1 ?_
      exact x_iret dX10_power_21 rfl (Nat.le_of_ble_eq_true rfl) (Nat.le_of_ble_eq_true rfl) rfl rfl rfl rfl rfl
    · intro i hi ih
      refine x_iload_n dX10_power_4 x_get_3_2 ?_
      refine x_iload_n dX10_power_5 x_get_3_0 ?_
      refine r_icmp_ge (t := 20) dX10_power_6 rfl ⟨by omega, by omega⟩ ⟨by omega, by omega⟩ (fun hc6 => absurd hc6 (by omega)) (fun hc6 => ?_)
      refine x_iload_n dX10_power_9 x_get_3_1 ?_
      refine x_bipush dX10_power_10 rfl ?_
      refine x_imul dX10_power_12 ?_
      refine x_istore_n dX10_power_13 (Nat.le_of_ble_eq_true rfl) rfl x_set_3_1 ?_
      refine x_iinc dX10_power_14 x_get_3_2 (Nat.le_of_ble_eq_true rfl) rfl x_set_3_2 ?_
      refine x_goto (t := 4) dX10_power_17 rfl ?_
      exact ih
  refine x_iconst dX10_power_0 ?_
  refine x_istore_n dX10_power_1 (Nat.le_of_ble_eq_true rfl) rfl x_set_3_1 ?_
  refine x_iconst dX10_power_2 ?_
  refine x_istore_n dX10_power_3 (Nat.le_of_ble_eq_true rfl) rfl x_set_3_2 ?_
  exact hloop 0 (Nat.zero_le _)
theorem c10_goal {X : xC} {l : Launch} (hl : l.stackTraces = false) {N : Nat} {sh : xS} {D : xM} {w goal : Int} (hw0 : 0 ≤ w) (hw1 : w ≤ 12) (hg0 : 1 ≤ goal) (hg1 : goal ≤ 20) : ∀ (n : Nat), n ≤ 7 → ∀ g : Int, 0 ≤ g → g ≤ 100 - n → x_M X l yX10_toGoal cX10_toGoal 4 (some .int) (n + 2) 0 0 [.int (xI g), .int (xI w), .int (xI goal), .int (xI ((n : Nat) : Int))] false N sh D (.inl (some (.int (xI (t_goal w goal n g))))) false N sh (x_is (D)) := by
  intro n
  induction n with
  | zero =>
    intro _ g h0 h1
    refine x_ofW (by decide +kernel) hl (by simp [Value.category]) (by simp) ?_
    refine x_iload_n dX10_toGoal_0 x_get_4_0 ?_
    refine x_iload_n dX10_toGoal_1 x_get_4_2 ?_
    refine r_icmp_lt (t := 10) dX10_toGoal_2 rfl ⟨by omega, by omega⟩ ⟨by omega, by omega⟩ (fun hc2 => ?_) (fun hc2 => ?_)
    · refine x_iload_n dX10_toGoal_10 x_get_4_0 ?_
      refine r_if_le (t := 18) dX10_toGoal_11 rfl ⟨by omega, by omega⟩ (fun hc11 => ?_) (fun hc11 => ?_)
      · refine x_iconst dX10_toGoal_18 ?_
        exact x_iret dX10_toGoal_19 rfl (Nat.le_of_ble_eq_true rfl) (Nat.le_of_ble_eq_true rfl) (by rw [t_goal, if_neg (by omega)]) rfl rfl rfl rfl
      · refine x_iload_n dX10_toGoal_14 x_get_4_3 ?_
        refine r_if_gt (t := 20) dX10_toGoal_15 rfl ⟨by omega, by omega⟩ (fun hc15 => absurd hc15 (by omega)) (fun hc15 => ?_)
        refine x_iconst dX10_toGoal_18 ?_
        exact x_iret dX10_toGoal_19 rfl (Nat.le_of_ble_eq_true rfl) (Nat.le_of_ble_eq_true rfl) (by rw [t_goal, if_neg (by omega)]) rfl rfl rfl rfl
    · refine x_iload_n dX10_toGoal_5 x_get_4_3 ?_
      refine x_callS (As := [_]) dX10_toGoal_6 w_10_9 (c10_power hl (n := 0) (by decide)) rfl rfl (Nat.le_of_ble_eq_true rfl) (by show _ ≤ _ + 2; omega) (by show _ ≤ 64 * _; omega) (Nat.le_of_ble_eq_true rfl) (Nat.le_of_ble_eq_true rfl) ?_
      intro d hd
      obtain rfl := Eq.symm hd
      exact x_iret dX10_toGoal_9 rfl (Nat.le_of_ble_eq_true rfl) (Nat.le_of_ble_eq_true rfl) (by rw [t_goal, if_pos hc2]) rfl rfl rfl rfl
  | succ n ih =>
    intro hn g h0 h1
    refine x_ofW (by decide +kernel) hl (by simp [Value.category]) (by simp) ?_
    refine x_iload_n dX10_toGoal_0 x_get_4_0 ?_
    refine x_iload_n dX10_toGoal_1 x_get_4_2 ?_
    refine r_icmp_lt (t := 10) dX10_toGoal_2 rfl ⟨by omega, by omega⟩ ⟨by omega, by omega⟩ (fun hc2 => ?_) (fun hc2 => ?_)
    · refine x_iload_n dX10_toGoal_10 x_get_4_0 ?_
      refine r_if_le (t := 18) dX10_toGoal_11 rfl ⟨by omega, by omega⟩ (fun hc11 => ?_) (fun hc11 => ?_)
      · refine x_iconst dX10_toGoal_18 ?_
        exact x_iret dX10_toGoal_19 rfl (Nat.le_of_ble_eq_true rfl) (Nat.le_of_ble_eq_true rfl) (by rw [t_goal, if_neg (by omega), if_pos (by omega)]) rfl rfl rfl rfl
      · refine x_iload_n dX10_toGoal_14 x_get_4_3 ?_
        refine r_if_gt (t := 20) dX10_toGoal_15 rfl ⟨by omega, by omega⟩ (fun hc15 => ?_) (fun hc15 => absurd hc15 (by omega))
        refine x_iload_n dX10_toGoal_20 x_get_4_1 ?_
        refine x_iload_n dX10_toGoal_21 x_get_4_0 ?_
        refine x_iconst dX10_toGoal_22 ?_
        refine x_iadd dX10_toGoal_23 ?_
        refine x_iload_n dX10_toGoal_24 x_get_4_1 ?_
        refine x_iload_n dX10_toGoal_25 x_get_4_2 ?_
        refine x_iload_n dX10_toGoal_26 x_get_4_3 ?_
        refine x_iconst dX10_toGoal_27 ?_
        refine x_isub dX10_toGoal_28 ?_
        rw [show ((n + 1 : Nat) : Int) - 1 = (n : Int) by omega]
        refine x_callS (As := [_, _, _, _]) dX10_toGoal_29 w_10_15 (ih (by omega) (g + 1) (by omega) (by omega)) rfl rfl (Nat.le_of_ble_eq_true rfl) (Nat.le_refl _) (by show _ ≤ 64 * _; omega) (Nat.le_of_ble_eq_true rfl) (Nat.le_of_ble_eq_true rfl) ?_
        intro d hd
        obtain rfl := Eq.symm hd
        refine x_imul dX10_toGoal_32 ?_
        refine x_bipush dX10_toGoal_33 rfl ?_
        refine x_iload_n dX10_toGoal_35 x_get_4_1 ?_
        refine x_isub dX10_toGoal_36 ?_
        refine x_iload_n dX10_toGoal_37 x_get_4_0 ?_
        refine x_iconst dX10_toGoal_38 ?_
        refine x_isub dX10_toGoal_39 ?_
        refine x_iload_n dX10_toGoal_40 x_get_4_1 ?_
        refine x_iload_n dX10_toGoal_41 x_get_4_2 ?_
        refine x_iload_n dX10_toGoal_42 x_get_4_3 ?_
        refine x_iconst dX10_toGoal_43 ?_
        refine x_isub dX10_toGoal_44 ?_
        rw [show ((n + 1 : Nat) : Int) - 1 = (n : Int) by omega]
        refine x_callS (As := [_, _, _, _]) dX10_toGoal_45 w_10_15 (ih (by omega) (g - 1) (by omega) (by omega)) rfl rfl (Nat.le_of_ble_eq_true rfl) (Nat.le_refl _) (by show _ ≤ 64 * _; omega) (Nat.le_of_ble_eq_true rfl) (Nat.le_of_ble_eq_true rfl) ?_
        intro d hd
        obtain rfl := Eq.symm hd
        refine x_imul dX10_toGoal_48 ?_
        refine x_iadd dX10_toGoal_49 ?_
        exact x_iret dX10_toGoal_50 rfl (Nat.le_of_ble_eq_true rfl) (Nat.le_of_ble_eq_true rfl) (by rw [t_goal, if_neg (by omega), if_neg (by omega)]) rfl rfl rfl rfl
    · refine x_iload_n dX10_toGoal_5 x_get_4_3 ?_
      refine x_callS (As := [_]) dX10_toGoal_6 w_10_9 (c10_power hl (n := n + 1) (by omega)) rfl rfl (Nat.le_of_ble_eq_true rfl) (by show _ ≤ _ + 2; omega) (by show _ ≤ 64 * _; omega) (Nat.le_of_ble_eq_true rfl) (Nat.le_of_ble_eq_true rfl) ?_
      intro d hd
      obtain rfl := Eq.symm hd
      exact x_iret dX10_toGoal_9 rfl (Nat.le_of_ble_eq_true rfl) (Nat.le_of_ble_eq_true rfl) (by rw [t_goal, if_pos hc2]) rfl rfl rfl rfl
theorem c10_best {X : xC} {l : Launch} (hl : l.stackTraces = false) {N : Nat} {sh : xS} {D : xM} {w : Int} (hw0 : 0 ≤ w) (hw1 : w ≤ 12) : ∀ (n : Nat), n ≤ 7 → ∀ g : Int, 0 ≤ g → g ≤ 27 - n → x_M X l yX10_best cX10_best 5 (some .int) (n + 2) 0 0 [.int (xI g), .int (xI w), .int (xI ((n : Nat) : Int))] false N sh D (.inl (some (.int (xI (t_best w n g))))) false N sh (x_is (D)) := by
  intro n
  induction n with
  | zero =>
    intro _ g h0 h1
    refine x_ofW (by decide +kernel) hl (by simp [Value.category]) (by simp) ?_
    refine x_iload_n dX10_best_0 x_get_5_0 ?_
    refine x_iload_n dX10_best_1 x_get_5_2 ?_
    refine x_callS (As := [_]) dX10_best_2 w_10_9 (c10_power hl (n := 0) (by decide)) rfl rfl (Nat.le_of_ble_eq_true rfl) (by show _ ≤ _ + 2; omega) (by show _ ≤ 64 * _; omega) (Nat.le_of_ble_eq_true rfl) (Nat.le_of_ble_eq_true rfl) ?_
    intro d hd
    obtain rfl := Eq.symm hd
    refine x_imul dX10_best_5 ?_
    refine x_istore_n dX10_best_6 (Nat.le_of_ble_eq_true rfl) rfl x_set_5_3 ?_
    refine x_iload_n dX10_best_7 x_get_5_0 ?_
    refine r_if_le (t := 15) dX10_best_8 rfl ⟨by omega, by omega⟩ (fun hc8 => ?_) (fun hc8 => ?_)
    · refine x_iload_n dX10_best_15 x_get_5_3 ?_
      exact x_iret dX10_best_16 rfl (Nat.le_of_ble_eq_true rfl) (Nat.le_of_ble_eq_true rfl) (by rw [t_best]) rfl rfl rfl rfl
    · refine x_iload_n dX10_best_11 x_get_5_2 ?_
      refine r_if_gt (t := 17) dX10_best_12 rfl ⟨by omega, by omega⟩ (fun hc12 => absurd hc12 (by omega)) (fun hc12 => ?_)
      refine x_iload_n dX10_best_15 x_get_5_3 ?_
      exact x_iret dX10_best_16 rfl (Nat.le_of_ble_eq_true rfl) (Nat.le_of_ble_eq_true rfl) (by rw [t_best]) rfl rfl rfl rfl
  | succ n ih =>
    intro hn g h0 h1
    have b1 := t_best_in hw0 hw1 (n + 1) g h0
    have bp := t_pow_pos (n + 1)
    have bq := t_pow_le (n + 1) hn
    have b2 : (g + ((n + 1 : Nat) : Int)) * t_pow (n + 1) ≤ 27 * 35831808 := by
      calc (g + ((n + 1 : Nat) : Int)) * t_pow (n + 1) ≤ 27 * t_pow (n + 1) := Int.mul_le_mul_of_nonneg_right (by omega) (by omega)
        _ ≤ 27 * 35831808 := by omega
    have b3 : 0 ≤ g * t_pow (n + 1) := Int.mul_nonneg h0 (by omega)
    have b4 : g * t_pow (n + 1) ≤ 27 * 35831808 := by
      calc g * t_pow (n + 1) ≤ (g + ((n + 1 : Nat) : Int)) * t_pow (n + 1) := Int.mul_le_mul_of_nonneg_right (by omega) (by omega)
        _ ≤ 27 * 35831808 := b2
    have b5 : ¬ g ≤ 0 → 0 ≤ w * t_best w n (g + 1) + (12 - w) * t_best w n (g - 1) ∧ w * t_best w n (g + 1) + (12 - w) * t_best w n (g - 1) ≤ 27 * 35831808 := by
      intro hg
      rw [t_best, if_neg hg] at b1
      have m1 : 0 ≤ w * t_best w n (g + 1) := Int.mul_nonneg hw0 (t_best_in hw0 hw1 n (g + 1) (by omega)).1
      have m2 : 0 ≤ (12 - w) * t_best w n (g - 1) := Int.mul_nonneg (by omega) (t_best_in hw0 hw1 n (g - 1) (by omega)).1
      omega
    refine x_ofW (by decide +kernel) hl (by simp [Value.category]) (by simp) ?_
    refine x_iload_n dX10_best_0 x_get_5_0 ?_
    refine x_iload_n dX10_best_1 x_get_5_2 ?_
    refine x_callS (As := [_]) dX10_best_2 w_10_9 (c10_power hl (n := n + 1) (by omega)) rfl rfl (Nat.le_of_ble_eq_true rfl) (by show _ ≤ _ + 2; omega) (by show _ ≤ 64 * _; omega) (Nat.le_of_ble_eq_true rfl) (Nat.le_of_ble_eq_true rfl) ?_
    intro d hd
    obtain rfl := Eq.symm hd
    refine x_imul dX10_best_5 ?_
    refine x_istore_n dX10_best_6 (Nat.le_of_ble_eq_true rfl) rfl x_set_5_3 ?_
    refine x_iload_n dX10_best_7 x_get_5_0 ?_
    refine r_if_le (t := 15) dX10_best_8 rfl (by first | exact ⟨by omega, by omega⟩) (fun hc8 => ?_) (fun hc8 => ?_)
    · refine x_iload_n dX10_best_15 x_get_5_3 ?_
      exact x_iret dX10_best_16 rfl (Nat.le_of_ble_eq_true rfl) (Nat.le_of_ble_eq_true rfl) (by rw [t_best, if_pos (by omega)]) rfl rfl rfl rfl
    · refine x_iload_n dX10_best_11 x_get_5_2 ?_
      refine r_if_gt (t := 17) dX10_best_12 rfl (by first | exact ⟨by omega, by omega⟩) (fun hc12 => ?_) (fun hc12 => absurd hc12 (by omega))
      refine x_iload_n dX10_best_17 x_get_5_1 ?_
      refine x_iload_n dX10_best_18 x_get_5_0 ?_
      refine x_iconst dX10_best_19 ?_
      refine x_iadd dX10_best_20 ?_
      refine x_iload_n dX10_best_21 x_get_5_1 ?_
      refine x_iload_n dX10_best_22 x_get_5_2 ?_
      refine x_iconst dX10_best_23 ?_
      refine x_isub dX10_best_24 ?_
      rw [show ((n + 1 : Nat) : Int) - 1 = (n : Int) by omega]
      refine x_callS (As := [_, _, _]) dX10_best_25 w_10_19 (ih (by omega) (g + 1) (by omega) (by omega)) rfl rfl (Nat.le_of_ble_eq_true rfl) (Nat.le_refl _) (by show _ ≤ 64 * _; omega) (Nat.le_of_ble_eq_true rfl) (Nat.le_of_ble_eq_true rfl) ?_
      intro d hd
      obtain rfl := Eq.symm hd
      refine x_imul dX10_best_28 ?_
      refine x_bipush dX10_best_29 rfl ?_
      refine x_iload_n dX10_best_31 x_get_5_1 ?_
      refine x_isub dX10_best_32 ?_
      refine x_iload_n dX10_best_33 x_get_5_0 ?_
      refine x_iconst dX10_best_34 ?_
      refine x_isub dX10_best_35 ?_
      refine x_iload_n dX10_best_36 x_get_5_1 ?_
      refine x_iload_n dX10_best_37 x_get_5_2 ?_
      refine x_iconst dX10_best_38 ?_
      refine x_isub dX10_best_39 ?_
      rw [show ((n + 1 : Nat) : Int) - 1 = (n : Int) by omega]
      refine x_callS (As := [_, _, _]) dX10_best_40 w_10_19 (ih (by omega) (g - 1) (by omega) (by omega)) rfl rfl (Nat.le_of_ble_eq_true rfl) (Nat.le_refl _) (by show _ ≤ 64 * _; omega) (Nat.le_of_ble_eq_true rfl) (Nat.le_of_ble_eq_true rfl) ?_
      intro d hd
      obtain rfl := Eq.symm hd
      refine x_imul dX10_best_43 ?_
      refine x_iadd dX10_best_44 ?_
      refine x_istore dX10_best_45 (Nat.le_of_ble_eq_true rfl) rfl x_set_5_4 ?_
      have b6 := b5 (by omega)
      refine x_iload_n dX10_best_47 x_get_5_3 ?_
      refine x_iload dX10_best_48 x_get_5_4 ?_
      refine r_max dX10_best_50 w_10_23 (by first | exact ⟨by omega, by omega⟩) (by first | exact ⟨by omega, by omega⟩) (by show 1 ≤ _ + 2; omega) (by show 13 ≤ 64 * (n + 1 + 2); omega) (Nat.le_of_ble_eq_true rfl) (Nat.le_of_ble_eq_true rfl) ?_
      exact x_iret dX10_best_53 rfl (Nat.le_of_ble_eq_true rfl) (Nat.le_of_ble_eq_true rfl) (by rw [t_best, if_neg (by omega)]) rfl rfl rfl rfl
end C39
