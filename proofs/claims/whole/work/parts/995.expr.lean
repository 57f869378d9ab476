section C995
/-! ===== Reader: tests, nots; expressions whole; the odds' line ===== -/
theorem w_5_193 : x_cv RX5 193 yX5_readTest cX5_readTest 3 (some .boolean) 5 1 := ⟨⟨_, rfl, rfl⟩, (x_in 835 (by decide +kernel) rfl), (x_in 837 (by decide +kernel) rfl), (x_in 7 (by decide +kernel) rfl), (x_in 81 (by decide +kernel) rfl), (x_in 838 (by decide +kernel) rfl), by decide, ⟨by decide +kernel, by decide +kernel, by decide +kernel⟩⟩
theorem w_5_196 : x_cv RX5 196 yX5_readSum cX5_readSum 4 (some .boolean) 5 1 := ⟨⟨_, rfl, rfl⟩, (x_in 839 (by decide +kernel) rfl), (x_in 841 (by decide +kernel) rfl), (x_in 8 (by decide +kernel) rfl), (x_in 81 (by decide +kernel) rfl), (x_in 842 (by decide +kernel) rfl), by decide, ⟨by decide +kernel, by decide +kernel, by decide +kernel⟩⟩
set_option maxHeartbeats 4000000 in
theorem z5_tst {X : xC} {l : Launch} (hl : l.stackTraces = false) {N : Nat} {sh : xS} {lb n : Nat} (hR : is_Rd N sh lb) (hlb : 3 ≤ lb) (hL : is_L N sh lb) {dep : Nat} (hdep : 6 ≤ dep) {deep : Int} (hdr : x_r deep) {sf : (Int → Int) → Nat → Rs (List Int)} (hlen : ∀ b, r_len n (sf b)) (hsub : Cx X l N sh lb n yX5_readSum cX5_readSum 4 dep deep sf) : Cx X l N sh lb n yX5_readTest cX5_readTest 3 (dep + 1) deep (fun b q => r_bd (sf b q) (fun L q1 => if ¬ tM b n q1 60 ∧ ¬ tM b n q1 61 then .inr (L, q1) else r_bd (sf b (tE b n q1)) (fun L2 q2 => .inr (L ++ L2 ++ [if tM b n q1 60 then -10 else -11], q2)))) := by
  obtain ⟨hRN, x1, x2⟩ := id hR
  have n1 : 1 < N := by omega
  have xl := hL.2.1
  have nl : lb < N := by have := hL.1; omega
  have xru := (is_L_ru hL).2.1
  have nru : lb + 10 < N := by have := hL.1; omega
  intro D q L0 hs hu h0
  have hz0 := rz_0 hs hu
  have hqn := hs.2.1
  have hn7 := hs.1.2.1
  have hki := tK_in (b := D 2) (n := n) (q := q)
  show x_M X l yX5_readTest cX5_readTest 3 (some .boolean) (dep + 1) 0 0 [.ref (x_b X + 1), .int (xI deep)] false N sh D (.inl (some (.int (xI (r_o (r_bd (sf (D 2) q) (fun L q1 => if ¬ tM (D 2) n q1 60 ∧ ¬ tM (D 2) n q1 61 then .inr (L, q1) else r_bd (sf (D 2) (tE (D 2) n q1)) (fun L2 q2 => .inr (L ++ L2 ++ [if tM (D 2) n q1 60 then -10 else -11], q2))))))))) false N sh (r_px n lb L0 (r_bd (sf (D 2) q) (fun L q1 => if ¬ tM (D 2) n q1 60 ∧ ¬ tM (D 2) n q1 61 then .inr (L, q1) else r_bd (sf (D 2) (tE (D 2) n q1)) (fun L2 q2 => .inr (L ++ L2 ++ [if tM (D 2) n q1 60 then -10 else -11], q2)))) D)
  obtain ⟨r0, hf0⟩ : ∃ r, sf (D 2) q = r := ⟨_, rfl⟩
  have c0 := z5_sub hsub hlb hz0 (by simp; omega)
  rcases r0 with z0 | z0
  · rw [hf0] at c0
    have hX : r_bd (sf (D 2) q) (fun L q1 => if ¬ tM (D 2) n q1 60 ∧ ¬ tM (D 2) n q1 61 then .inr (L, q1) else r_bd (sf (D 2) (tE (D 2) n q1)) (fun L2 q2 => .inr (L ++ L2 ++ [if tM (D 2) n q1 60 then -10 else -11], q2))) = .inl z0 := by rw [hf0]; rfl
    refine x_ofW (by decide +kernel) hl (by simp [Value.category]) (by simp) ?_
    refine x_aload_n dX5_readTest_0 x_get_3_0 ?_
    refine x_iload_n dX5_readTest_1 x_get_3_1 ?_
    refine x_callV (As := [_]) dX5_readTest_2 w_5_196 (c0) (by assumption) (by assumption) rfl rfl (by first | exact Nat.le_of_ble_eq_true rfl | exact x_rm1 (by omega) | exact x_rm2 (by omega)) (by first | exact Nat.le_of_ble_eq_true rfl | exact x_rm1 (by omega) | exact x_rm2 (by omega)) (by first | exact Nat.le_of_ble_eq_true rfl | exact x_rm1 (by omega) | exact x_rm2 (by omega)) (by first | exact Nat.le_of_ble_eq_true rfl | exact x_rm1 (by omega) | exact x_rm2 (by omega)) (by first | exact Nat.le_of_ble_eq_true rfl | exact x_rm1 (by omega) | exact x_rm2 (by omega)) ?_
    intro d2 hd2
    refine r_if_ne (t := 10) dX5_readTest_5 rfl ⟨by show (-2147483648 : Int) ≤ 0; decide, by show (0 : Int) < 2147483648; decide⟩ (fun hc5 => absurd hc5 (by show ¬ ¬ ((0 : Int) = 0); decide)) (fun hc5 => ?_)
    refine x_iconst dX5_readTest_8 ?_
    exact x_zret dX5_readTest_9 rfl (by omega) (by first | exact Nat.le_of_ble_eq_true rfl | exact x_rm1 (by omega) | exact x_rm2 (by omega)) (by first | exact Nat.le_of_ble_eq_true rfl | exact x_rm1 (by omega) | exact x_rm2 (by omega)) (by rw [hX]; rfl) rfl rfl (by rw [hX]; exact hd2) rfl
  · rw [hf0] at c0
    have hX : r_bd (sf (D 2) q) (fun L q1 => if ¬ tM (D 2) n q1 60 ∧ ¬ tM (D 2) n q1 61 then .inr (L, q1) else r_bd (sf (D 2) (tE (D 2) n q1)) (fun L2 q2 => .inr (L ++ L2 ++ [if tM (D 2) n q1 60 then -10 else -11], q2))) = (if ¬ tM (D 2) n z0.2 60 ∧ ¬ tM (D 2) n z0.2 61 then .inr (z0.1, z0.2) else r_bd (sf (D 2) (tE (D 2) n z0.2)) (fun L2 q2 => .inr (z0.1 ++ L2 ++ [if tM (D 2) n z0.2 60 then -10 else -11], q2))) := by rw [hf0]; rfl
    obtain ⟨y1, y2⟩ := hlen (D 2) _ z0.1 z0.2 hqn hf0
    have gA : ∀ (s : Int) (d : xM), x_r s → rz n lb L0 D z0.2 z0.1 d → (z0.2 < tE (D 2) n z0.2 ∧ tE (D 2) n z0.2 ≤ n) → r_bd (sf (D 2) q) (fun L q1 => if ¬ tM (D 2) n q1 60 ∧ ¬ tM (D 2) n q1 61 then .inr (L, q1) else r_bd (sf (D 2) (tE (D 2) n q1)) (fun L2 q2 => .inr (L ++ L2 ++ [if tM (D 2) n q1 60 then -10 else -11], q2))) = r_bd (sf (D 2) (tE (D 2) n z0.2)) (fun L2 q2 => .inr (z0.1 ++ L2 ++ [s], q2)) → x_W (X, l, yX5_readTest, cX5_readTest, 3, (some .boolean), x_room (dep + 1) 0 0, 0, 0, (.inl (some (.int (xI (r_o (r_bd (sf (D 2) q) (fun L q1 => if ¬ tM (D 2) n q1 60 ∧ ¬ tM (D 2) n q1 61 then .inr (L, q1) else r_bd (sf (D 2) (tE (D 2) n q1)) (fun L2 q2 => .inr (L ++ L2 ++ [if tM (D 2) n q1 60 then -10 else -11], q2))))))))), N, sh, (r_px n lb L0 (r_bd (sf (D 2) q) (fun L q1 => if ¬ tM (D 2) n q1 60 ∧ ¬ tM (D 2) n q1 61 then .inr (L, q1) else r_bd (sf (D 2) (tE (D 2) n q1)) (fun L2 q2 => .inr (L ++ L2 ++ [if tM (D 2) n q1 60 then -10 else -11], q2)))) D), false, []) 47 [some (.ref (x_b X + 1)), some (.int (xI deep)), some (.int (xI s))] [] 0 0 false N sh d := by
      intro s d hsr hz hup hX
      refine x_aload_n dX5_readTest_47 x_get_3_0 ?_
      refine x_callV (As := []) dX5_readTest_48 w_5_56 (z5_adv hl hR hlb hz) (by assumption) (by assumption) rfl rfl (by first | exact Nat.le_of_ble_eq_true rfl | exact x_rm1 (by omega) | exact x_rm2 (by omega)) (by first | exact Nat.le_of_ble_eq_true rfl | exact x_rm1 (by omega) | exact x_rm2 (by omega)) (by first | exact Nat.le_of_ble_eq_true rfl | exact x_rm1 (by omega) | exact x_rm2 (by omega)) (by first | exact Nat.le_of_ble_eq_true rfl | exact x_rm1 (by omega) | exact x_rm2 (by omega)) (by first | exact Nat.le_of_ble_eq_true rfl | exact x_rm1 (by omega) | exact x_rm2 (by omega)) ?_
      intro d1 z1
      have c1 := z5_sub hsub hlb z1 (by omega)
      refine x_aload_n dX5_readTest_51 x_get_3_0 ?_
      refine x_iload_n dX5_readTest_52 x_get_3_1 ?_
      rcases hf : sf (D 2) (tE (D 2) n z0.2) with z | z
      · rw [hf] at c1 hX
        refine x_callV (As := [_]) dX5_readTest_53 w_5_196 (c1) (by assumption) (by assumption) rfl rfl (by first | exact Nat.le_of_ble_eq_true rfl | exact x_rm1 (by omega) | exact x_rm2 (by omega)) (by first | exact Nat.le_of_ble_eq_true rfl | exact x_rm1 (by omega) | exact x_rm2 (by omega)) (by first | exact Nat.le_of_ble_eq_true rfl | exact x_rm1 (by omega) | exact x_rm2 (by omega)) (by first | exact Nat.le_of_ble_eq_true rfl | exact x_rm1 (by omega) | exact x_rm2 (by omega)) (by first | exact Nat.le_of_ble_eq_true rfl | exact x_rm1 (by omega) | exact x_rm2 (by omega)) ?_
        intro d2 hd2
        refine r_if_ne (t := 61) dX5_readTest_56 rfl ⟨by show (-2147483648 : Int) ≤ 0; decide, by show (0 : Int) < 2147483648; decide⟩ (fun hc56 => absurd hc56 (by show ¬ ¬ ((0 : Int) = 0); decide)) (fun hc56 => ?_)
        refine x_iconst dX5_readTest_59 ?_
        exact x_zret dX5_readTest_60 rfl (by omega) (by first | exact Nat.le_of_ble_eq_true rfl | exact x_rm1 (by omega) | exact x_rm2 (by omega)) (by first | exact Nat.le_of_ble_eq_true rfl | exact x_rm1 (by omega) | exact x_rm2 (by omega)) (by rw [hX]; rfl) rfl rfl (by rw [hX]; exact hd2) rfl
      · rw [hf] at c1 hX
        obtain ⟨y3, y4⟩ := hlen (D 2) _ z.1 z.2 hup.2 hf
        refine x_callV (As := [_]) dX5_readTest_53 w_5_196 (c1) (by assumption) (by assumption) rfl rfl (by first | exact Nat.le_of_ble_eq_true rfl | exact x_rm1 (by omega) | exact x_rm2 (by omega)) (by first | exact Nat.le_of_ble_eq_true rfl | exact x_rm1 (by omega) | exact x_rm2 (by omega)) (by first | exact Nat.le_of_ble_eq_true rfl | exact x_rm1 (by omega) | exact x_rm2 (by omega)) (by first | exact Nat.le_of_ble_eq_true rfl | exact x_rm1 (by omega) | exact x_rm2 (by omega)) (by first | exact Nat.le_of_ble_eq_true rfl | exact x_rm1 (by omega) | exact x_rm2 (by omega)) ?_
        intro d2 hd2
        have z2 : rz n lb L0 D z.2 (z0.1 ++ z.1) d2 := hd2
        refine r_if_ne (t := 61) dX5_readTest_56 rfl ⟨by show (-2147483648 : Int) ≤ 1; decide, by show (1 : Int) < 2147483648; decide⟩ (fun hc56 => ?_) (fun hc56 => absurd hc56 (by show ¬ ((1 : Int) = 0); decide))
        refine x_aload_n dX5_readTest_61 x_get_3_0 ?_
        refine x_getR dX5_readTest_62 fX_5_37 (by assumption) (by assumption) (by rfl) ?_
        refine x_getR dX5_readTest_65 fX_5_162 (by assumption) (by assumption) (by rfl) ?_
        refine x_iload_n dX5_readTest_68 x_get_3_2 ?_
        refine x_callV (As := [_]) dX5_readTest_69 w_5_183 (z5_add hl hR hlb z2 hL hsr (by rw [List.length_append]; omega)) (by assumption) (by assumption) rfl rfl (by first | exact Nat.le_of_ble_eq_true rfl | exact x_rm1 (by omega) | exact x_rm2 (by omega)) (by first | exact Nat.le_of_ble_eq_true rfl | exact x_rm1 (by omega) | exact x_rm2 (by omega)) (by first | exact Nat.le_of_ble_eq_true rfl | exact x_rm1 (by omega) | exact x_rm2 (by omega)) (by first | exact Nat.le_of_ble_eq_true rfl | exact x_rm1 (by omega) | exact x_rm2 (by omega)) (by first | exact Nat.le_of_ble_eq_true rfl | exact x_rm1 (by omega) | exact x_rm2 (by omega)) ?_
        intro d3 z3
        refine x_iconst dX5_readTest_72 ?_
        exact x_zret dX5_readTest_73 rfl (by omega) (by first | exact Nat.le_of_ble_eq_true rfl | exact x_rm1 (by omega) | exact x_rm2 (by omega)) (by first | exact Nat.le_of_ble_eq_true rfl | exact x_rm1 (by omega) | exact x_rm2 (by omega)) (by rw [hX]; rfl) rfl rfl (by rw [hX]; exact z3) rfl
    refine x_ofW (by decide +kernel) hl (by simp [Value.category]) (by simp) ?_
    by_cases hm1 : tM (D 2) n z0.2 60
    · rw [if_neg (fun h => h.1 hm1), if_pos hm1] at hX
      refine x_aload_n dX5_readTest_0 x_get_3_0 ?_
      refine x_iload_n dX5_readTest_1 x_get_3_1 ?_
      refine x_callV (As := [_]) dX5_readTest_2 w_5_196 (c0) (by assumption) (by assumption) rfl rfl (by first | exact Nat.le_of_ble_eq_true rfl | exact x_rm1 (by omega) | exact x_rm2 (by omega)) (by first | exact Nat.le_of_ble_eq_true rfl | exact x_rm1 (by omega) | exact x_rm2 (by omega)) (by first | exact Nat.le_of_ble_eq_true rfl | exact x_rm1 (by omega) | exact x_rm2 (by omega)) (by first | exact Nat.le_of_ble_eq_true rfl | exact x_rm1 (by omega) | exact x_rm2 (by omega)) (by first | exact Nat.le_of_ble_eq_true rfl | exact x_rm1 (by omega) | exact x_rm2 (by omega)) ?_
      intro d2 hd2
      have z2 : rz n lb L0 D z0.2 z0.1 d2 := by have h9 : rz n lb L0 D z0.2 ([] ++ z0.1) d2 := hd2; rwa [List.nil_append] at h9
      refine r_if_ne (t := 10) dX5_readTest_5 rfl ⟨by show (-2147483648 : Int) ≤ 1; decide, by show (1 : Int) < 2147483648; decide⟩ (fun hc5 => ?_) (fun hc5 => absurd hc5 (by show ¬ ((1 : Int) = 0); decide))
      refine x_aload_n dX5_readTest_10 x_get_3_0 ?_
      refine x_bipush dX5_readTest_11 rfl ?_
      refine x_callV (As := [_]) dX5_readTest_13 w_5_175 (z5_mark hl hR hlb z2 ⟨by decide, by decide⟩) (by assumption) (by assumption) rfl rfl (by first | exact Nat.le_of_ble_eq_true rfl | exact x_rm1 (by omega) | exact x_rm2 (by omega)) (by first | exact Nat.le_of_ble_eq_true rfl | exact x_rm1 (by omega) | exact x_rm2 (by omega)) (by first | exact Nat.le_of_ble_eq_true rfl | exact x_rm1 (by omega) | exact x_rm2 (by omega)) (by first | exact Nat.le_of_ble_eq_true rfl | exact x_rm1 (by omega) | exact x_rm2 (by omega)) (by first | exact Nat.le_of_ble_eq_true rfl | exact x_rm1 (by omega) | exact x_rm2 (by omega)) ?_
      intro d hd
      obtain rfl := Eq.symm hd
      refine b_ifne (t := 30) dX5_readTest_16 rfl (fun hc16 => ?_) (fun hc16 => absurd hc16 (fun hh => hh hm1))
      refine x_aload_n dX5_readTest_30 x_get_3_0 ?_
      refine x_bipush dX5_readTest_31 rfl ?_
      refine x_callV (As := [_]) dX5_readTest_33 w_5_175 (z5_mark hl hR hlb z2 ⟨by decide, by decide⟩) (by assumption) (by assumption) rfl rfl (by first | exact Nat.le_of_ble_eq_true rfl | exact x_rm1 (by omega) | exact x_rm2 (by omega)) (by first | exact Nat.le_of_ble_eq_true rfl | exact x_rm1 (by omega) | exact x_rm2 (by omega)) (by first | exact Nat.le_of_ble_eq_true rfl | exact x_rm1 (by omega) | exact x_rm2 (by omega)) (by first | exact Nat.le_of_ble_eq_true rfl | exact x_rm1 (by omega) | exact x_rm2 (by omega)) (by first | exact Nat.le_of_ble_eq_true rfl | exact x_rm1 (by omega) | exact x_rm2 (by omega)) ?_
      intro d hd
      obtain rfl := Eq.symm hd
      refine b_ifeq (t := 44) dX5_readTest_36 rfl (fun hc36 => absurd hc36 (fun hh => hh hm1)) (fun hc36 => ?_)
      refine x_bipush dX5_readTest_39 rfl ?_
      refine x_goto (t := 46) dX5_readTest_41 rfl ?_
      refine x_istore_n dX5_readTest_46 (by first | exact Nat.le_of_ble_eq_true rfl | exact x_rm1 (by omega) | exact x_rm2 (by omega)) rfl x_set_3_2 ?_
      exact gA _ _ ⟨by decide, by decide⟩ z2 (tM_up y2 hm1) hX
    · by_cases hm2 : tM (D 2) n z0.2 61
      · rw [if_neg (fun h => h.2 hm2), if_neg hm1] at hX
        refine x_aload_n dX5_readTest_0 x_get_3_0 ?_
        refine x_iload_n dX5_readTest_1 x_get_3_1 ?_
        refine x_callV (As := [_]) dX5_readTest_2 w_5_196 (c0) (by assumption) (by assumption) rfl rfl (by first | exact Nat.le_of_ble_eq_true rfl | exact x_rm1 (by omega) | exact x_rm2 (by omega)) (by first | exact Nat.le_of_ble_eq_true rfl | exact x_rm1 (by omega) | exact x_rm2 (by omega)) (by first | exact Nat.le_of_ble_eq_true rfl | exact x_rm1 (by omega) | exact x_rm2 (by omega)) (by first | exact Nat.le_of_ble_eq_true rfl | exact x_rm1 (by omega) | exact x_rm2 (by omega)) (by first | exact Nat.le_of_ble_eq_true rfl | exact x_rm1 (by omega) | exact x_rm2 (by omega)) ?_
        intro d2 hd2
        have z2 : rz n lb L0 D z0.2 z0.1 d2 := by have h9 : rz n lb L0 D z0.2 ([] ++ z0.1) d2 := hd2; rwa [List.nil_append] at h9
        refine r_if_ne (t := 10) dX5_readTest_5 rfl ⟨by show (-2147483648 : Int) ≤ 1; decide, by show (1 : Int) < 2147483648; decide⟩ (fun hc5 => ?_) (fun hc5 => absurd hc5 (by show ¬ ((1 : Int) = 0); decide))
        refine x_aload_n dX5_readTest_10 x_get_3_0 ?_
        refine x_bipush dX5_readTest_11 rfl ?_
        refine x_callV (As := [_]) dX5_readTest_13 w_5_175 (z5_mark hl hR hlb z2 ⟨by decide, by decide⟩) (by assumption) (by assumption) rfl rfl (by first | exact Nat.le_of_ble_eq_true rfl | exact x_rm1 (by omega) | exact x_rm2 (by omega)) (by first | exact Nat.le_of_ble_eq_true rfl | exact x_rm1 (by omega) | exact x_rm2 (by omega)) (by first | exact Nat.le_of_ble_eq_true rfl | exact x_rm1 (by omega) | exact x_rm2 (by omega)) (by first | exact Nat.le_of_ble_eq_true rfl | exact x_rm1 (by omega) | exact x_rm2 (by omega)) (by first | exact Nat.le_of_ble_eq_true rfl | exact x_rm1 (by omega) | exact x_rm2 (by omega)) ?_
        intro d hd
        obtain rfl := Eq.symm hd
        refine b_ifne (t := 30) dX5_readTest_16 rfl (fun hc16 => absurd hc16 (hm1)) (fun hc16 => ?_)
        refine x_aload_n dX5_readTest_19 x_get_3_0 ?_
        refine x_bipush dX5_readTest_20 rfl ?_
        refine x_callV (As := [_]) dX5_readTest_22 w_5_175 (z5_mark hl hR hlb z2 ⟨by decide, by decide⟩) (by assumption) (by assumption) rfl rfl (by first | exact Nat.le_of_ble_eq_true rfl | exact x_rm1 (by omega) | exact x_rm2 (by omega)) (by first | exact Nat.le_of_ble_eq_true rfl | exact x_rm1 (by omega) | exact x_rm2 (by omega)) (by first | exact Nat.le_of_ble_eq_true rfl | exact x_rm1 (by omega) | exact x_rm2 (by omega)) (by first | exact Nat.le_of_ble_eq_true rfl | exact x_rm1 (by omega) | exact x_rm2 (by omega)) (by first | exact Nat.le_of_ble_eq_true rfl | exact x_rm1 (by omega) | exact x_rm2 (by omega)) ?_
        intro d hd
        obtain rfl := Eq.symm hd
        refine b_ifne (t := 30) dX5_readTest_25 rfl (fun hc25 => ?_) (fun hc25 => absurd hc25 (fun hh => hh hm2))
        refine x_aload_n dX5_readTest_30 x_get_3_0 ?_
        refine x_bipush dX5_readTest_31 rfl ?_
        refine x_callV (As := [_]) dX5_readTest_33 w_5_175 (z5_mark hl hR hlb z2 ⟨by decide, by decide⟩) (by assumption) (by assumption) rfl rfl (by first | exact Nat.le_of_ble_eq_true rfl | exact x_rm1 (by omega) | exact x_rm2 (by omega)) (by first | exact Nat.le_of_ble_eq_true rfl | exact x_rm1 (by omega) | exact x_rm2 (by omega)) (by first | exact Nat.le_of_ble_eq_true rfl | exact x_rm1 (by omega) | exact x_rm2 (by omega)) (by first | exact Nat.le_of_ble_eq_true rfl | exact x_rm1 (by omega) | exact x_rm2 (by omega)) (by first | exact Nat.le_of_ble_eq_true rfl | exact x_rm1 (by omega) | exact x_rm2 (by omega)) ?_
        intro d hd
        obtain rfl := Eq.symm hd
        refine b_ifeq (t := 44) dX5_readTest_36 rfl (fun hc36 => ?_) (fun hc36 => absurd hc36 (hm1))
        refine x_bipush dX5_readTest_44 rfl ?_
        refine x_istore_n dX5_readTest_46 (by first | exact Nat.le_of_ble_eq_true rfl | exact x_rm1 (by omega) | exact x_rm2 (by omega)) rfl x_set_3_2 ?_
        exact gA _ _ ⟨by decide, by decide⟩ z2 (tM_up y2 hm2) hX
      · rw [if_pos ⟨hm1, hm2⟩] at hX
        refine x_aload_n dX5_readTest_0 x_get_3_0 ?_
        refine x_iload_n dX5_readTest_1 x_get_3_1 ?_
        refine x_callV (As := [_]) dX5_readTest_2 w_5_196 (c0) (by assumption) (by assumption) rfl rfl (by first | exact Nat.le_of_ble_eq_true rfl | exact x_rm1 (by omega) | exact x_rm2 (by omega)) (by first | exact Nat.le_of_ble_eq_true rfl | exact x_rm1 (by omega) | exact x_rm2 (by omega)) (by first | exact Nat.le_of_ble_eq_true rfl | exact x_rm1 (by omega) | exact x_rm2 (by omega)) (by first | exact Nat.le_of_ble_eq_true rfl | exact x_rm1 (by omega) | exact x_rm2 (by omega)) (by first | exact Nat.le_of_ble_eq_true rfl | exact x_rm1 (by omega) | exact x_rm2 (by omega)) ?_
        intro d2 hd2
        have z2 : rz n lb L0 D z0.2 z0.1 d2 := by have h9 : rz n lb L0 D z0.2 ([] ++ z0.1) d2 := hd2; rwa [List.nil_append] at h9
        refine r_if_ne (t := 10) dX5_readTest_5 rfl ⟨by show (-2147483648 : Int) ≤ 1; decide, by show (1 : Int) < 2147483648; decide⟩ (fun hc5 => ?_) (fun hc5 => absurd hc5 (by show ¬ ((1 : Int) = 0); decide))
        refine x_aload_n dX5_readTest_10 x_get_3_0 ?_
        refine x_bipush dX5_readTest_11 rfl ?_
        refine x_callV (As := [_]) dX5_readTest_13 w_5_175 (z5_mark hl hR hlb z2 ⟨by decide, by decide⟩) (by assumption) (by assumption) rfl rfl (by first | exact Nat.le_of_ble_eq_true rfl | exact x_rm1 (by omega) | exact x_rm2 (by omega)) (by first | exact Nat.le_of_ble_eq_true rfl | exact x_rm1 (by omega) | exact x_rm2 (by omega)) (by first | exact Nat.le_of_ble_eq_true rfl | exact x_rm1 (by omega) | exact x_rm2 (by omega)) (by first | exact Nat.le_of_ble_eq_true rfl | exact x_rm1 (by omega) | exact x_rm2 (by omega)) (by first | exact Nat.le_of_ble_eq_true rfl | exact x_rm1 (by omega) | exact x_rm2 (by omega)) ?_
        intro d hd
        obtain rfl := Eq.symm hd
        refine b_ifne (t := 30) dX5_readTest_16 rfl (fun hc16 => absurd hc16 (hm1)) (fun hc16 => ?_)
        refine x_aload_n dX5_readTest_19 x_get_3_0 ?_
        refine x_bipush dX5_readTest_20 rfl ?_
        refine x_callV (As := [_]) dX5_readTest_22 w_5_175 (z5_mark hl hR hlb z2 ⟨by decide, by decide⟩) (by assumption) (by assumption) rfl rfl (by first | exact Nat.le_of_ble_eq_true rfl | exact x_rm1 (by omega) | exact x_rm2 (by omega)) (by first | exact Nat.le_of_ble_eq_true rfl | exact x_rm1 (by omega) | exact x_rm2 (by omega)) (by first | exact Nat.le_of_ble_eq_true rfl | exact x_rm1 (by omega) | exact x_rm2 (by omega)) (by first | exact Nat.le_of_ble_eq_true rfl | exact x_rm1 (by omega) | exact x_rm2 (by omega)) (by first | exact Nat.le_of_ble_eq_true rfl | exact x_rm1 (by omega) | exact x_rm2 (by omega)) ?_
        intro d hd
        obtain rfl := Eq.symm hd
        refine b_ifne (t := 30) dX5_readTest_25 rfl (fun hc25 => absurd hc25 (hm2)) (fun hc25 => ?_)
        refine x_iconst dX5_readTest_28 ?_
        exact x_zret dX5_readTest_29 rfl (by omega) (by first | exact Nat.le_of_ble_eq_true rfl | exact x_rm1 (by omega) | exact x_rm2 (by omega)) (by first | exact Nat.le_of_ble_eq_true rfl | exact x_rm1 (by omega) | exact x_rm2 (by omega)) (by rw [hX]; rfl) rfl rfl (by rw [hX]; exact z2) rfl
set_option maxHeartbeats 4000000 in
theorem z5_not {X : xC} {l : Launch} (hl : l.stackTraces = false) {N : Nat} {sh : xS} {lb n : Nat} (hR : is_Rd N sh lb) (hlb : 3 ≤ lb) (hL : is_L N sh lb) {dep : Nat} (hdep : 6 ≤ dep) {deep : Int} (hdr : x_r deep) {sf : (Int → Int) → Nat → Rs (List Int)} (hlen : ∀ b, r_len n (sf b)) (hsub : Cx X l N sh lb n yX5_readTest cX5_readTest 3 dep deep sf) : Cx X l N sh lb n yX5_readNot cX5_readNot 4 (dep + 1) deep (fun b q => (if (r_nc b n 6 q).1 = 6 ∧ tW b n (r_nc b n 6 q).2 7 then .inl (2, (r_nc b n 6 q).2) else r_bd (sf b (r_nc b n 6 q).2) (fun L q1 => .inr (L ++ List.replicate (r_nc b n 6 q).1 (-9), q1)))) := by
  obtain ⟨hRN, x1, x2⟩ := id hR
  have n1 : 1 < N := by omega
  have xl := hL.2.1
  have nl : lb < N := by have := hL.1; omega
  have xru := (is_L_ru hL).2.1
  have nru : lb + 10 < N := by have := hL.1; omega
  intro D q L0 hs hu h0
  have hz0 := rz_0 hs hu
  have hqn := hs.2.1
  have hn7 := hs.1.2.1
  have hki := tK_in (b := D 2) (n := n) (q := q)
  show x_M X l yX5_readNot cX5_readNot 4 (some .boolean) (dep + 1) 0 0 [.ref (x_b X + 1), .int (xI deep)] false N sh D (.inl (some (.int (xI (r_o (if (r_nc (D 2) n 6 q).1 = 6 ∧ tW (D 2) n (r_nc (D 2) n 6 q).2 7 then .inl (2, (r_nc (D 2) n 6 q).2) else r_bd (sf (D 2) (r_nc (D 2) n 6 q).2) (fun L q1 => .inr (L ++ List.replicate (r_nc (D 2) n 6 q).1 (-9), q1)))))))) false N sh (r_px n lb L0 (if (r_nc (D 2) n 6 q).1 = 6 ∧ tW (D 2) n (r_nc (D 2) n 6 q).2 7 then .inl (2, (r_nc (D 2) n 6 q).2) else r_bd (sf (D 2) (r_nc (D 2) n 6 q).2) (fun L q1 => .inr (L ++ List.replicate (r_nc (D 2) n 6 q).1 (-9), q1))) D)
  have gC : ∀ (i : Nat) (q2 : Nat) (L : List Int), i ≤ 6 → L0.length + L.length + i ≤ 700 → (if (r_nc (D 2) n 6 q).1 = 6 ∧ tW (D 2) n (r_nc (D 2) n 6 q).2 7 then .inl (2, (r_nc (D 2) n 6 q).2) else r_bd (sf (D 2) (r_nc (D 2) n 6 q).2) (fun L q1 => .inr (L ++ List.replicate (r_nc (D 2) n 6 q).1 (-9), q1))) = .inr (L ++ List.replicate i (-9), q2) → ∀ (k j : Nat), j + k = i → ∀ d : xM, rz n lb L0 D q2 (L ++ List.replicate j (-9)) d → x_W (X, l, yX5_readNot, cX5_readNot, 4, (some .boolean), x_room (dep + 1) 0 0, 0, 0, (.inl (some (.int (xI (r_o (if (r_nc (D 2) n 6 q).1 = 6 ∧ tW (D 2) n (r_nc (D 2) n 6 q).2 7 then .inl (2, (r_nc (D 2) n 6 q).2) else r_bd (sf (D 2) (r_nc (D 2) n 6 q).2) (fun L q1 => .inr (L ++ List.replicate (r_nc (D 2) n 6 q).1 (-9), q1)))))))), N, sh, (r_px n lb L0 (if (r_nc (D 2) n 6 q).1 = 6 ∧ tW (D 2) n (r_nc (D 2) n 6 q).2 7 then .inl (2, (r_nc (D 2) n 6 q).2) else r_bd (sf (D 2) (r_nc (D 2) n 6 q).2) (fun L q1 => .inr (L ++ List.replicate (r_nc (D 2) n 6 q).1 (-9), q1))) D), false, []) 60 [some (.ref (x_b X + 1)), some (.int (xI deep)), some (.int (xI (i : Int))), some (.int (xI (j : Int)))] [] 0 0 false N sh d := by
    intro i q2 L hi6 hln hX k
    induction k with
    | zero =>
      intro j hj d hz
      obtain rfl : j = i := by omega
      refine x_iload_n dX5_readNot_60 x_get_4_3 ?_
      refine x_iload_n dX5_readNot_61 x_get_4_2 ?_
      refine r_icmp_ge (t := 83) dX5_readNot_62 rfl ⟨by omega, by omega⟩ ⟨by omega, by omega⟩ (fun hc62 => ?_) (fun hc62 => absurd hc62 (by omega))
      refine x_iconst dX5_readNot_83 ?_
      exact x_zret dX5_readNot_84 rfl (by omega) (by first | exact Nat.le_of_ble_eq_true rfl | exact x_rm1 (by omega) | exact x_rm2 (by omega)) (by first | exact Nat.le_of_ble_eq_true rfl | exact x_rm1 (by omega) | exact x_rm2 (by omega)) (by rw [hX]; rfl) rfl rfl (by rw [hX]; exact hz) rfl
    | succ k ih =>
      intro j hj d hz
      refine x_iload_n dX5_readNot_60 x_get_4_3 ?_
      refine x_iload_n dX5_readNot_61 x_get_4_2 ?_
      refine r_icmp_ge (t := 83) dX5_readNot_62 rfl ⟨by omega, by omega⟩ ⟨by omega, by omega⟩ (fun hc62 => absurd hc62 (by omega)) (fun hc62 => ?_)
      refine x_aload_n dX5_readNot_65 x_get_4_0 ?_
      refine x_getR dX5_readNot_66 fX_5_37 (by assumption) (by assumption) (by rfl) ?_
      refine x_getR dX5_readNot_69 fX_5_162 (by assumption) (by assumption) (by rfl) ?_
      refine x_bipush dX5_readNot_72 rfl ?_
      refine x_callV (As := [_]) dX5_readNot_74 w_5_183 (z5_add hl hR hlb hz hL (s := -9) ⟨by decide, by decide⟩ (by rw [List.length_append, List.length_replicate]; omega)) (by assumption) (by assumption) rfl rfl (by first | exact Nat.le_of_ble_eq_true rfl | exact x_rm1 (by omega) | exact x_rm2 (by omega)) (by first | exact Nat.le_of_ble_eq_true rfl | exact x_rm1 (by omega) | exact x_rm2 (by omega)) (by first | exact Nat.le_of_ble_eq_true rfl | exact x_rm1 (by omega) | exact x_rm2 (by omega)) (by first | exact Nat.le_of_ble_eq_true rfl | exact x_rm1 (by omega) | exact x_rm2 (by omega)) (by first | exact Nat.le_of_ble_eq_true rfl | exact x_rm1 (by omega) | exact x_rm2 (by omega)) ?_
      intro d3 z3
      have z4 : rz n lb L0 D q2 (L ++ List.replicate (j + 1) (-9)) d3 := by rw [List.replicate_succ', ← List.append_assoc]; exact z3
      refine x_iinc dX5_readNot_77 x_get_4_3 (by first | exact Nat.le_of_ble_eq_true rfl | exact x_rm1 (by omega) | exact x_rm2 (by omega)) rfl x_set_4_3 ?_
      refine x_goto (t := 60) dX5_readNot_80 rfl ?_
      exact ih (j + 1) (by omega) _ z4
  have gB : ∀ (i q1 : Nat) (d : xM), (r_nc (D 2) n 6 q) = (i, q1) → rz n lb L0 D q1 [] d → x_W (X, l, yX5_readNot, cX5_readNot, 4, (some .boolean), x_room (dep + 1) 0 0, 0, 0, (.inl (some (.int (xI (r_o (if (r_nc (D 2) n 6 q).1 = 6 ∧ tW (D 2) n (r_nc (D 2) n 6 q).2 7 then .inl (2, (r_nc (D 2) n 6 q).2) else r_bd (sf (D 2) (r_nc (D 2) n 6 q).2) (fun L q1 => .inr (L ++ List.replicate (r_nc (D 2) n 6 q).1 (-9), q1)))))))), N, sh, (r_px n lb L0 (if (r_nc (D 2) n 6 q).1 = 6 ∧ tW (D 2) n (r_nc (D 2) n 6 q).2 7 then .inl (2, (r_nc (D 2) n 6 q).2) else r_bd (sf (D 2) (r_nc (D 2) n 6 q).2) (fun L q1 => .inr (L ++ List.replicate (r_nc (D 2) n 6 q).1 (-9), q1))) D), false, []) 27 [some (.ref (x_b X + 1)), some (.int (xI deep)), some (.int (xI (i : Int))), none] [] 0 0 false N sh d := by
    intro i q1 d hnc hz
    have hin := r_nc_in (b := D 2) (n := n) 6 q hqn
    rw [hnc] at hin
    obtain ⟨i1, i2, i3⟩ := hin
    have j1 : q + i ≤ q1 := i1
    have j2 : q1 ≤ n := i2
    have j3 : i ≤ 6 := i3
    have hX0 : (if (r_nc (D 2) n 6 q).1 = 6 ∧ tW (D 2) n (r_nc (D 2) n 6 q).2 7 then .inl (2, (r_nc (D 2) n 6 q).2) else r_bd (sf (D 2) (r_nc (D 2) n 6 q).2) (fun L q1 => .inr (L ++ List.replicate (r_nc (D 2) n 6 q).1 (-9), q1))) = (if i = 6 ∧ tW (D 2) n q1 7 then .inl (2, q1) else r_bd (sf (D 2) q1) (fun L q1 => .inr (L ++ List.replicate i (-9), q1))) := by rw [hnc]
    by_cases hb : i = 6 ∧ tW (D 2) n q1 7
    · rw [if_pos hb] at hX0
      obtain ⟨hb1, hb2⟩ := id hb
      refine x_iload_n dX5_readNot_27 x_get_4_2 ?_
      refine x_bipush dX5_readNot_28 rfl ?_
      refine r_icmp_ne (t := 48) dX5_readNot_30 rfl ⟨by omega, by omega⟩ ⟨by omega, by omega⟩ (fun hc30 => absurd hc30 (by omega)) (fun hc30 => ?_)
      refine x_aload_n dX5_readNot_33 x_get_4_0 ?_
      refine x_ldcS (j := 7) dX5_readNot_34 (by decide) rfl rfl ?_
      refine x_callV (As := [_]) dX5_readNot_36 w_5_88 (z5_word hl hR hlb hz (by decide) (by decide)) (by assumption) (by assumption) rfl rfl (by first | exact Nat.le_of_ble_eq_true rfl | exact x_rm1 (by omega) | exact x_rm2 (by omega)) (by first | exact Nat.le_of_ble_eq_true rfl | exact x_rm1 (by omega) | exact x_rm2 (by omega)) (by first | exact Nat.le_of_ble_eq_true rfl | exact x_rm1 (by omega) | exact x_rm2 (by omega)) (by first | exact Nat.le_of_ble_eq_true rfl | exact x_rm1 (by omega) | exact x_rm2 (by omega)) (by first | exact Nat.le_of_ble_eq_true rfl | exact x_rm1 (by omega) | exact x_rm2 (by omega)) ?_
      intro d hd
      obtain rfl := Eq.symm hd
      refine b_ifeq (t := 48) dX5_readNot_39 rfl (fun hc39 => absurd hc39 (fun hh => hh hb2)) (fun hc39 => ?_)
      refine x_aload_n dX5_readNot_42 x_get_4_0 ?_
      refine x_iconst dX5_readNot_43 ?_
      refine x_callV (As := [_]) dX5_readNot_44 w_5_113 (z5_fail hl hR hlb hz) (by assumption) (by assumption) rfl rfl (by first | exact Nat.le_of_ble_eq_true rfl | exact x_rm1 (by omega) | exact x_rm2 (by omega)) (by first | exact Nat.le_of_ble_eq_true rfl | exact x_rm1 (by omega) | exact x_rm2 (by omega)) (by first | exact Nat.le_of_ble_eq_true rfl | exact x_rm1 (by omega) | exact x_rm2 (by omega)) (by first | exact Nat.le_of_ble_eq_true rfl | exact x_rm1 (by omega) | exact x_rm2 (by omega)) (by first | exact Nat.le_of_ble_eq_true rfl | exact x_rm1 (by omega) | exact x_rm2 (by omega)) ?_
      intro d1 hd1
      exact x_zret dX5_readNot_47 rfl (by omega) (by first | exact Nat.le_of_ble_eq_true rfl | exact x_rm1 (by omega) | exact x_rm2 (by omega)) (by first | exact Nat.le_of_ble_eq_true rfl | exact x_rm1 (by omega) | exact x_rm2 (by omega)) (by rw [hX0]; rfl) rfl rfl (by rw [hX0]; exact hd1) rfl
    · rw [if_neg hb] at hX0
      have c1 := z5_sub hsub hlb hz (by simp; omega)
      have g48 : x_W (X, l, yX5_readNot, cX5_readNot, 4, (some .boolean), x_room (dep + 1) 0 0, 0, 0, (.inl (some (.int (xI (r_o (if (r_nc (D 2) n 6 q).1 = 6 ∧ tW (D 2) n (r_nc (D 2) n 6 q).2 7 then .inl (2, (r_nc (D 2) n 6 q).2) else r_bd (sf (D 2) (r_nc (D 2) n 6 q).2) (fun L q1 => .inr (L ++ List.replicate (r_nc (D 2) n 6 q).1 (-9), q1)))))))), N, sh, (r_px n lb L0 (if (r_nc (D 2) n 6 q).1 = 6 ∧ tW (D 2) n (r_nc (D 2) n 6 q).2 7 then .inl (2, (r_nc (D 2) n 6 q).2) else r_bd (sf (D 2) (r_nc (D 2) n 6 q).2) (fun L q1 => .inr (L ++ List.replicate (r_nc (D 2) n 6 q).1 (-9), q1))) D), false, []) 48 [some (.ref (x_b X + 1)), some (.int (xI deep)), some (.int (xI (i : Int))), none] [] 0 0 false N sh d := by
        obtain ⟨r0, hf0⟩ : ∃ r, sf (D 2) q1 = r := ⟨_, rfl⟩
        rw [hf0] at c1 hX0
        rcases r0 with z | z
        · skip
          refine x_aload_n dX5_readNot_48 x_get_4_0 ?_
          refine x_iload_n dX5_readNot_49 x_get_4_1 ?_
          refine x_callV (As := [_]) dX5_readNot_50 w_5_193 (c1) (by assumption) (by assumption) rfl rfl (by first | exact Nat.le_of_ble_eq_true rfl | exact x_rm1 (by omega) | exact x_rm2 (by omega)) (by first | exact Nat.le_of_ble_eq_true rfl | exact x_rm1 (by omega) | exact x_rm2 (by omega)) (by first | exact Nat.le_of_ble_eq_true rfl | exact x_rm1 (by omega) | exact x_rm2 (by omega)) (by first | exact Nat.le_of_ble_eq_true rfl | exact x_rm1 (by omega) | exact x_rm2 (by omega)) (by first | exact Nat.le_of_ble_eq_true rfl | exact x_rm1 (by omega) | exact x_rm2 (by omega)) ?_
          intro d2 hd2
          refine r_if_ne (t := 58) dX5_readNot_53 rfl ⟨by show (-2147483648 : Int) ≤ 0; decide, by show (0 : Int) < 2147483648; decide⟩ (fun hc53 => absurd hc53 (by show ¬ ¬ ((0 : Int) = 0); decide)) (fun hc53 => ?_)
          refine x_iconst dX5_readNot_56 ?_
          exact x_zret dX5_readNot_57 rfl (by omega) (by first | exact Nat.le_of_ble_eq_true rfl | exact x_rm1 (by omega) | exact x_rm2 (by omega)) (by first | exact Nat.le_of_ble_eq_true rfl | exact x_rm1 (by omega) | exact x_rm2 (by omega)) (by rw [hX0]; rfl) rfl rfl (by rw [hX0]; exact hd2) rfl
        · obtain ⟨y1, y2⟩ := hlen (D 2) _ z.1 z.2 j2 hf0
          refine x_aload_n dX5_readNot_48 x_get_4_0 ?_
          refine x_iload_n dX5_readNot_49 x_get_4_1 ?_
          refine x_callV (As := [_]) dX5_readNot_50 w_5_193 (c1) (by assumption) (by assumption) rfl rfl (by first | exact Nat.le_of_ble_eq_true rfl | exact x_rm1 (by omega) | exact x_rm2 (by omega)) (by first | exact Nat.le_of_ble_eq_true rfl | exact x_rm1 (by omega) | exact x_rm2 (by omega)) (by first | exact Nat.le_of_ble_eq_true rfl | exact x_rm1 (by omega) | exact x_rm2 (by omega)) (by first | exact Nat.le_of_ble_eq_true rfl | exact x_rm1 (by omega) | exact x_rm2 (by omega)) (by first | exact Nat.le_of_ble_eq_true rfl | exact x_rm1 (by omega) | exact x_rm2 (by omega)) ?_
          intro d2 hd2
          have z2 : rz n lb L0 D z.2 (z.1 ++ List.replicate 0 (-9)) d2 := by have h9 : rz n lb L0 D z.2 ([] ++ z.1) d2 := hd2; rw [List.nil_append] at h9; rw [List.replicate_zero, List.append_nil]; exact h9
          refine r_if_ne (t := 58) dX5_readNot_53 rfl ⟨by show (-2147483648 : Int) ≤ 1; decide, by show (1 : Int) < 2147483648; decide⟩ (fun hc53 => ?_) (fun hc53 => absurd hc53 (by show ¬ ((1 : Int) = 0); decide))
          refine x_iconst dX5_readNot_58 ?_
          refine x_istore_n dX5_readNot_59 (by first | exact Nat.le_of_ble_eq_true rfl | exact x_rm1 (by omega) | exact x_rm2 (by omega)) rfl x_set_4_3 ?_
          exact gC i z.2 z.1 j3 (by omega) hX0 i 0 (by omega) _ z2
      by_cases h6 : i = 6
      · have hw : ¬ tW (D 2) n q1 7 := fun h => hb ⟨h6, h⟩
        refine x_iload_n dX5_readNot_27 x_get_4_2 ?_
        refine x_bipush dX5_readNot_28 rfl ?_
        refine r_icmp_ne (t := 48) dX5_readNot_30 rfl ⟨by omega, by omega⟩ ⟨by omega, by omega⟩ (fun hc30 => absurd hc30 (by omega)) (fun hc30 => ?_)
        refine x_aload_n dX5_readNot_33 x_get_4_0 ?_
        refine x_ldcS (j := 7) dX5_readNot_34 (by decide) rfl rfl ?_
        refine x_callV (As := [_]) dX5_readNot_36 w_5_88 (z5_word hl hR hlb hz (by decide) (by decide)) (by assumption) (by assumption) rfl rfl (by first | exact Nat.le_of_ble_eq_true rfl | exact x_rm1 (by omega) | exact x_rm2 (by omega)) (by first | exact Nat.le_of_ble_eq_true rfl | exact x_rm1 (by omega) | exact x_rm2 (by omega)) (by first | exact Nat.le_of_ble_eq_true rfl | exact x_rm1 (by omega) | exact x_rm2 (by omega)) (by first | exact Nat.le_of_ble_eq_true rfl | exact x_rm1 (by omega) | exact x_rm2 (by omega)) (by first | exact Nat.le_of_ble_eq_true rfl | exact x_rm1 (by omega) | exact x_rm2 (by omega)) ?_
        intro d hd
        obtain rfl := Eq.symm hd
        refine b_ifeq (t := 48) dX5_readNot_39 rfl (fun hc39 => ?_) (fun hc39 => absurd hc39 (hw))
        exact g48
      · skip
        refine x_iload_n dX5_readNot_27 x_get_4_2 ?_
        refine x_bipush dX5_readNot_28 rfl ?_
        refine r_icmp_ne (t := 48) dX5_readNot_30 rfl ⟨by omega, by omega⟩ ⟨by omega, by omega⟩ (fun hc30 => ?_) (fun hc30 => absurd hc30 (by omega))
        exact g48
  have gN : ∀ (k i : Nat), i + k = 6 → ∀ (q1 : Nat) (d : xM), rz n lb L0 D q1 [] d → (r_nc (D 2) n 6 q) = (i + (r_nc (D 2) n k q1).1, (r_nc (D 2) n k q1).2) → x_W (X, l, yX5_readNot, cX5_readNot, 4, (some .boolean), x_room (dep + 1) 0 0, 0, 0, (.inl (some (.int (xI (r_o (if (r_nc (D 2) n 6 q).1 = 6 ∧ tW (D 2) n (r_nc (D 2) n 6 q).2 7 then .inl (2, (r_nc (D 2) n 6 q).2) else r_bd (sf (D 2) (r_nc (D 2) n 6 q).2) (fun L q1 => .inr (L ++ List.replicate (r_nc (D 2) n 6 q).1 (-9), q1)))))))), N, sh, (r_px n lb L0 (if (r_nc (D 2) n 6 q).1 = 6 ∧ tW (D 2) n (r_nc (D 2) n 6 q).2 7 then .inl (2, (r_nc (D 2) n 6 q).2) else r_bd (sf (D 2) (r_nc (D 2) n 6 q).2) (fun L q1 => .inr (L ++ List.replicate (r_nc (D 2) n 6 q).1 (-9), q1))) D), false, []) 2 [some (.ref (x_b X + 1)), some (.int (xI deep)), some (.int (xI (i : Int))), none] [] 0 0 false N sh d := by
    intro k
    induction k with
    | zero =>
      intro i hi q1 d hz hX
      refine x_iload_n dX5_readNot_2 x_get_4_2 ?_
      refine x_bipush dX5_readNot_3 rfl ?_
      refine r_icmp_ge (t := 27) dX5_readNot_5 rfl ⟨by omega, by omega⟩ ⟨by omega, by omega⟩ (fun hc5 => ?_) (fun hc5 => absurd hc5 (by omega))
      exact gB i q1 _ hX hz
    | succ k ih =>
      intro i hi q1 d hz hX
      by_cases hw : tW (D 2) n q1 7
      · have e : r_nc (D 2) n (k + 1) q1 = ((r_nc (D 2) n k (tE (D 2) n q1)).1 + 1, (r_nc (D 2) n k (tE (D 2) n q1)).2) := if_pos hw
        rw [e] at hX
        refine x_iload_n dX5_readNot_2 x_get_4_2 ?_
        refine x_bipush dX5_readNot_3 rfl ?_
        refine r_icmp_ge (t := 27) dX5_readNot_5 rfl ⟨by omega, by omega⟩ ⟨by omega, by omega⟩ (fun hc5 => absurd hc5 (by omega)) (fun hc5 => ?_)
        refine x_aload_n dX5_readNot_8 x_get_4_0 ?_
        refine x_ldcS (j := 7) dX5_readNot_9 (by decide) rfl rfl ?_
        refine x_callV (As := [_]) dX5_readNot_11 w_5_88 (z5_word hl hR hlb hz (by decide) (by decide)) (by assumption) (by assumption) rfl rfl (by first | exact Nat.le_of_ble_eq_true rfl | exact x_rm1 (by omega) | exact x_rm2 (by omega)) (by first | exact Nat.le_of_ble_eq_true rfl | exact x_rm1 (by omega) | exact x_rm2 (by omega)) (by first | exact Nat.le_of_ble_eq_true rfl | exact x_rm1 (by omega) | exact x_rm2 (by omega)) (by first | exact Nat.le_of_ble_eq_true rfl | exact x_rm1 (by omega) | exact x_rm2 (by omega)) (by first | exact Nat.le_of_ble_eq_true rfl | exact x_rm1 (by omega) | exact x_rm2 (by omega)) ?_
        intro d hd
        obtain rfl := Eq.symm hd
        refine b_ifeq (t := 27) dX5_readNot_14 rfl (fun hc14 => absurd hc14 (fun hh => hh hw)) (fun hc14 => ?_)
        refine x_aload_n dX5_readNot_17 x_get_4_0 ?_
        refine x_callV (As := []) dX5_readNot_18 w_5_56 (z5_adv hl hR hlb hz) (by assumption) (by assumption) rfl rfl (by first | exact Nat.le_of_ble_eq_true rfl | exact x_rm1 (by omega) | exact x_rm2 (by omega)) (by first | exact Nat.le_of_ble_eq_true rfl | exact x_rm1 (by omega) | exact x_rm2 (by omega)) (by first | exact Nat.le_of_ble_eq_true rfl | exact x_rm1 (by omega) | exact x_rm2 (by omega)) (by first | exact Nat.le_of_ble_eq_true rfl | exact x_rm1 (by omega) | exact x_rm2 (by omega)) (by first | exact Nat.le_of_ble_eq_true rfl | exact x_rm1 (by omega) | exact x_rm2 (by omega)) ?_
        intro d1 z1
        refine x_iinc dX5_readNot_21 x_get_4_2 (by first | exact Nat.le_of_ble_eq_true rfl | exact x_rm1 (by omega) | exact x_rm2 (by omega)) rfl x_set_4_2 ?_
        refine x_goto (t := 2) dX5_readNot_24 rfl ?_
        exact ih (i + 1) (by omega) _ _ z1 (by rw [hX]; congr 1; show i + (_ + 1) = i + 1 + _; omega)
      · have e : r_nc (D 2) n (k + 1) q1 = (0, q1) := if_neg hw
        rw [e] at hX
        refine x_iload_n dX5_readNot_2 x_get_4_2 ?_
        refine x_bipush dX5_readNot_3 rfl ?_
        refine r_icmp_ge (t := 27) dX5_readNot_5 rfl ⟨by omega, by omega⟩ ⟨by omega, by omega⟩ (fun hc5 => absurd hc5 (by omega)) (fun hc5 => ?_)
        refine x_aload_n dX5_readNot_8 x_get_4_0 ?_
        refine x_ldcS (j := 7) dX5_readNot_9 (by decide) rfl rfl ?_
        refine x_callV (As := [_]) dX5_readNot_11 w_5_88 (z5_word hl hR hlb hz (by decide) (by decide)) (by assumption) (by assumption) rfl rfl (by first | exact Nat.le_of_ble_eq_true rfl | exact x_rm1 (by omega) | exact x_rm2 (by omega)) (by first | exact Nat.le_of_ble_eq_true rfl | exact x_rm1 (by omega) | exact x_rm2 (by omega)) (by first | exact Nat.le_of_ble_eq_true rfl | exact x_rm1 (by omega) | exact x_rm2 (by omega)) (by first | exact Nat.le_of_ble_eq_true rfl | exact x_rm1 (by omega) | exact x_rm2 (by omega)) (by first | exact Nat.le_of_ble_eq_true rfl | exact x_rm1 (by omega) | exact x_rm2 (by omega)) ?_
        intro d hd
        obtain rfl := Eq.symm hd
        refine b_ifeq (t := 27) dX5_readNot_14 rfl (fun hc14 => ?_) (fun hc14 => absurd hc14 (hw))
        exact gB i q1 _ hX hz
  refine x_ofW (by decide +kernel) hl (by simp [Value.category]) (by simp) ?_
  refine x_iconst dX5_readNot_0 ?_
  refine x_istore_n dX5_readNot_1 (by first | exact Nat.le_of_ble_eq_true rfl | exact x_rm1 (by omega) | exact x_rm2 (by omega)) rfl x_set_4_2 ?_
  exact gN 6 0 rfl q _ hz0 (by rw [Nat.zero_add])
set_option maxHeartbeats 4000000 in
theorem z5_deep {X : xC} {l : Launch} (hl : l.stackTraces = false) {N : Nat} {sh : xS} {lb n : Nat} (hR : is_Rd N sh lb) (hlb : 3 ≤ lb) (hL : is_L N sh lb) {dep : Nat} (hdep : 6 ≤ dep) : Cx X l N sh lb n yX5_readExpr cX5_readExpr 3 (dep + 1) 6 (fun b => r_exp b n 0) := by
  obtain ⟨hRN, x1, x2⟩ := id hR
  have n1 : 1 < N := by omega
  have xl := hL.2.1
  have nl : lb < N := by have := hL.1; omega
  have xru := (is_L_ru hL).2.1
  have nru : lb + 10 < N := by have := hL.1; omega
  intro D q L0 hs hu h0
  have hz0 := rz_0 hs hu
  have hqn := hs.2.1
  have hn7 := hs.1.2.1
  have hki := tK_in (b := D 2) (n := n) (q := q)
  show x_M X l yX5_readExpr cX5_readExpr 3 (some .boolean) (dep + 1) 0 0 [.ref (x_b X + 1), .int (xI 6)] false N sh D (.inl (some (.int (xI (r_o (.inl (if tK (D 2) n q = 3 ∨ tK (D 2) n q = 2 ∨ tM (D 2) n q 40 then 2 else 1, q) : Rs (List Int))))))) false N sh (r_px n lb L0 (.inl (if tK (D 2) n q = 3 ∨ tK (D 2) n q = 2 ∨ tM (D 2) n q 40 then 2 else 1, q) : Rs (List Int)) D)
  obtain ⟨k4, k5⟩ := rz_k hlb hz0
  have c1 := z5_fail (X := X) (l := l) hl hR hlb hz0 (w := if tK (D 2) n q = 3 ∨ tK (D 2) n q = 2 ∨ tM (D 2) n q 40 then 2 else 1)
  refine x_ofW (by decide +kernel) hl (by simp [Value.category]) (by simp) ?_
  by_cases h3 : tK (D 2) n q = 3
  · skip
    have e : (if tK (D 2) n q = 3 ∨ tK (D 2) n q = 2 ∨ tM (D 2) n q 40 then (2 : Int) else 1) = 2 := if_pos (Or.inl h3)
    rw [e] at c1
    refine x_iload_n dX5_readExpr_0 x_get_3_1 ?_
    refine x_bipush dX5_readExpr_1 rfl ?_
    refine r_icmp_lt (t := 41) dX5_readExpr_3 rfl ⟨by decide, by decide⟩ ⟨by decide, by decide⟩ (fun hc3 => absurd hc3 (by decide)) (fun hc3 => ?_)
    refine x_aload_n dX5_readExpr_6 x_get_3_0 ?_
    refine x_aload_n dX5_readExpr_7 x_get_3_0 ?_
    refine x_getI 4 dX5_readExpr_8 fX_5_25 rfl (by assumption) (by assumption) (by rfl) ?_
    rw [k4]
    refine x_iconst dX5_readExpr_11 ?_
    refine r_icmp_eq (t := 32) dX5_readExpr_12 rfl ⟨by omega, by omega⟩ ⟨by omega, by omega⟩ (fun hc12 => ?_) (fun hc12 => absurd hc12 (by omega))
    refine x_iconst dX5_readExpr_32 ?_
    refine x_goto (t := 37) dX5_readExpr_33 rfl ?_
    refine x_callV (As := [_]) dX5_readExpr_37 w_5_113 (c1) (by assumption) (by assumption) rfl rfl (by first | exact Nat.le_of_ble_eq_true rfl | exact x_rm1 (by omega) | exact x_rm2 (by omega)) (by first | exact Nat.le_of_ble_eq_true rfl | exact x_rm1 (by omega) | exact x_rm2 (by omega)) (by first | exact Nat.le_of_ble_eq_true rfl | exact x_rm1 (by omega) | exact x_rm2 (by omega)) (by first | exact Nat.le_of_ble_eq_true rfl | exact x_rm1 (by omega) | exact x_rm2 (by omega)) (by first | exact Nat.le_of_ble_eq_true rfl | exact x_rm1 (by omega) | exact x_rm2 (by omega)) ?_
    intro d1 hd1
    exact x_zret dX5_readExpr_40 rfl (by omega) (by first | exact Nat.le_of_ble_eq_true rfl | exact x_rm1 (by omega) | exact x_rm2 (by omega)) (by first | exact Nat.le_of_ble_eq_true rfl | exact x_rm1 (by omega) | exact x_rm2 (by omega)) rfl rfl rfl (by show r_px n lb L0 (.inl (if tK (D 2) n q = 3 ∨ tK (D 2) n q = 2 ∨ tM (D 2) n q 40 then (2 : Int) else 1, q)) D _; rw [e]; exact hd1) rfl
  · by_cases h2 : tK (D 2) n q = 2
    · skip
      have e : (if tK (D 2) n q = 3 ∨ tK (D 2) n q = 2 ∨ tM (D 2) n q 40 then (2 : Int) else 1) = 2 := if_pos (Or.inr (Or.inl h2))
      rw [e] at c1
      refine x_iload_n dX5_readExpr_0 x_get_3_1 ?_
      refine x_bipush dX5_readExpr_1 rfl ?_
      refine r_icmp_lt (t := 41) dX5_readExpr_3 rfl ⟨by decide, by decide⟩ ⟨by decide, by decide⟩ (fun hc3 => absurd hc3 (by decide)) (fun hc3 => ?_)
      refine x_aload_n dX5_readExpr_6 x_get_3_0 ?_
      refine x_aload_n dX5_readExpr_7 x_get_3_0 ?_
      refine x_getI 4 dX5_readExpr_8 fX_5_25 rfl (by assumption) (by assumption) (by rfl) ?_
      rw [k4]
      refine x_iconst dX5_readExpr_11 ?_
      refine r_icmp_eq (t := 32) dX5_readExpr_12 rfl ⟨by omega, by omega⟩ ⟨by omega, by omega⟩ (fun hc12 => absurd hc12 (by omega)) (fun hc12 => ?_)
      refine x_aload_n dX5_readExpr_15 x_get_3_0 ?_
      refine x_getI 4 dX5_readExpr_16 fX_5_25 rfl (by assumption) (by assumption) (by rfl) ?_
      rw [k4]
      refine x_iconst dX5_readExpr_19 ?_
      refine r_icmp_eq (t := 32) dX5_readExpr_20 rfl ⟨by omega, by omega⟩ ⟨by omega, by omega⟩ (fun hc20 => ?_) (fun hc20 => absurd hc20 (by omega))
      refine x_iconst dX5_readExpr_32 ?_
      refine x_goto (t := 37) dX5_readExpr_33 rfl ?_
      refine x_callV (As := [_]) dX5_readExpr_37 w_5_113 (c1) (by assumption) (by assumption) rfl rfl (by first | exact Nat.le_of_ble_eq_true rfl | exact x_rm1 (by omega) | exact x_rm2 (by omega)) (by first | exact Nat.le_of_ble_eq_true rfl | exact x_rm1 (by omega) | exact x_rm2 (by omega)) (by first | exact Nat.le_of_ble_eq_true rfl | exact x_rm1 (by omega) | exact x_rm2 (by omega)) (by first | exact Nat.le_of_ble_eq_true rfl | exact x_rm1 (by omega) | exact x_rm2 (by omega)) (by first | exact Nat.le_of_ble_eq_true rfl | exact x_rm1 (by omega) | exact x_rm2 (by omega)) ?_
      intro d1 hd1
      exact x_zret dX5_readExpr_40 rfl (by omega) (by first | exact Nat.le_of_ble_eq_true rfl | exact x_rm1 (by omega) | exact x_rm2 (by omega)) (by first | exact Nat.le_of_ble_eq_true rfl | exact x_rm1 (by omega) | exact x_rm2 (by omega)) rfl rfl rfl (by show r_px n lb L0 (.inl (if tK (D 2) n q = 3 ∨ tK (D 2) n q = 2 ∨ tM (D 2) n q 40 then (2 : Int) else 1, q)) D _; rw [e]; exact hd1) rfl
    · by_cases h4 : tM (D 2) n q 40
      · skip
        have e : (if tK (D 2) n q = 3 ∨ tK (D 2) n q = 2 ∨ tM (D 2) n q 40 then (2 : Int) else 1) = 2 := if_pos (Or.inr (Or.inr h4))
        rw [e] at c1
        refine x_iload_n dX5_readExpr_0 x_get_3_1 ?_
        refine x_bipush dX5_readExpr_1 rfl ?_
        refine r_icmp_lt (t := 41) dX5_readExpr_3 rfl ⟨by decide, by decide⟩ ⟨by decide, by decide⟩ (fun hc3 => absurd hc3 (by decide)) (fun hc3 => ?_)
        refine x_aload_n dX5_readExpr_6 x_get_3_0 ?_
        refine x_aload_n dX5_readExpr_7 x_get_3_0 ?_
        refine x_getI 4 dX5_readExpr_8 fX_5_25 rfl (by assumption) (by assumption) (by rfl) ?_
        rw [k4]
        refine x_iconst dX5_readExpr_11 ?_
        refine r_icmp_eq (t := 32) dX5_readExpr_12 rfl ⟨by omega, by omega⟩ ⟨by omega, by omega⟩ (fun hc12 => absurd hc12 (by omega)) (fun hc12 => ?_)
        refine x_aload_n dX5_readExpr_15 x_get_3_0 ?_
        refine x_getI 4 dX5_readExpr_16 fX_5_25 rfl (by assumption) (by assumption) (by rfl) ?_
        rw [k4]
        refine x_iconst dX5_readExpr_19 ?_
        refine r_icmp_eq (t := 32) dX5_readExpr_20 rfl ⟨by omega, by omega⟩ ⟨by omega, by omega⟩ (fun hc20 => absurd hc20 (by omega)) (fun hc20 => ?_)
        refine x_aload_n dX5_readExpr_23 x_get_3_0 ?_
        refine x_bipush dX5_readExpr_24 rfl ?_
        refine x_callV (As := [_]) dX5_readExpr_26 w_5_175 (z5_mark hl hR hlb hz0 ⟨by decide, by decide⟩) (by assumption) (by assumption) rfl rfl (by first | exact Nat.le_of_ble_eq_true rfl | exact x_rm1 (by omega) | exact x_rm2 (by omega)) (by first | exact Nat.le_of_ble_eq_true rfl | exact x_rm1 (by omega) | exact x_rm2 (by omega)) (by first | exact Nat.le_of_ble_eq_true rfl | exact x_rm1 (by omega) | exact x_rm2 (by omega)) (by first | exact Nat.le_of_ble_eq_true rfl | exact x_rm1 (by omega) | exact x_rm2 (by omega)) (by first | exact Nat.le_of_ble_eq_true rfl | exact x_rm1 (by omega) | exact x_rm2 (by omega)) ?_
        intro d hd
        obtain rfl := Eq.symm hd
        refine b_ifeq (t := 36) dX5_readExpr_29 rfl (fun hc29 => absurd hc29 (fun hh => hh h4)) (fun hc29 => ?_)
        refine x_iconst dX5_readExpr_32 ?_
        refine x_goto (t := 37) dX5_readExpr_33 rfl ?_
        refine x_callV (As := [_]) dX5_readExpr_37 w_5_113 (c1) (by assumption) (by assumption) rfl rfl (by first | exact Nat.le_of_ble_eq_true rfl | exact x_rm1 (by omega) | exact x_rm2 (by omega)) (by first | exact Nat.le_of_ble_eq_true rfl | exact x_rm1 (by omega) | exact x_rm2 (by omega)) (by first | exact Nat.le_of_ble_eq_true rfl | exact x_rm1 (by omega) | exact x_rm2 (by omega)) (by first | exact Nat.le_of_ble_eq_true rfl | exact x_rm1 (by omega) | exact x_rm2 (by omega)) (by first | exact Nat.le_of_ble_eq_true rfl | exact x_rm1 (by omega) | exact x_rm2 (by omega)) ?_
        intro d1 hd1
        exact x_zret dX5_readExpr_40 rfl (by omega) (by first | exact Nat.le_of_ble_eq_true rfl | exact x_rm1 (by omega) | exact x_rm2 (by omega)) (by first | exact Nat.le_of_ble_eq_true rfl | exact x_rm1 (by omega) | exact x_rm2 (by omega)) rfl rfl rfl (by show r_px n lb L0 (.inl (if tK (D 2) n q = 3 ∨ tK (D 2) n q = 2 ∨ tM (D 2) n q 40 then (2 : Int) else 1, q)) D _; rw [e]; exact hd1) rfl
      · skip
        have e : (if tK (D 2) n q = 3 ∨ tK (D 2) n q = 2 ∨ tM (D 2) n q 40 then (2 : Int) else 1) = 1 := if_neg (fun h => h.elim h3 (fun h => h.elim h2 h4))
        rw [e] at c1
        refine x_iload_n dX5_readExpr_0 x_get_3_1 ?_
        refine x_bipush dX5_readExpr_1 rfl ?_
        refine r_icmp_lt (t := 41) dX5_readExpr_3 rfl ⟨by decide, by decide⟩ ⟨by decide, by decide⟩ (fun hc3 => absurd hc3 (by decide)) (fun hc3 => ?_)
        refine x_aload_n dX5_readExpr_6 x_get_3_0 ?_
        refine x_aload_n dX5_readExpr_7 x_get_3_0 ?_
        refine x_getI 4 dX5_readExpr_8 fX_5_25 rfl (by assumption) (by assumption) (by rfl) ?_
        rw [k4]
        refine x_iconst dX5_readExpr_11 ?_
        refine r_icmp_eq (t := 32) dX5_readExpr_12 rfl ⟨by omega, by omega⟩ ⟨by omega, by omega⟩ (fun hc12 => absurd hc12 (by omega)) (fun hc12 => ?_)
        refine x_aload_n dX5_readExpr_15 x_get_3_0 ?_
        refine x_getI 4 dX5_readExpr_16 fX_5_25 rfl (by assumption) (by assumption) (by rfl) ?_
        rw [k4]
        refine x_iconst dX5_readExpr_19 ?_
        refine r_icmp_eq (t := 32) dX5_readExpr_20 rfl ⟨by omega, by omega⟩ ⟨by omega, by omega⟩ (fun hc20 => absurd hc20 (by omega)) (fun hc20 => ?_)
        refine x_aload_n dX5_readExpr_23 x_get_3_0 ?_
        refine x_bipush dX5_readExpr_24 rfl ?_
        refine x_callV (As := [_]) dX5_readExpr_26 w_5_175 (z5_mark hl hR hlb hz0 ⟨by decide, by decide⟩) (by assumption) (by assumption) rfl rfl (by first | exact Nat.le_of_ble_eq_true rfl | exact x_rm1 (by omega) | exact x_rm2 (by omega)) (by first | exact Nat.le_of_ble_eq_true rfl | exact x_rm1 (by omega) | exact x_rm2 (by omega)) (by first | exact Nat.le_of_ble_eq_true rfl | exact x_rm1 (by omega) | exact x_rm2 (by omega)) (by first | exact Nat.le_of_ble_eq_true rfl | exact x_rm1 (by omega) | exact x_rm2 (by omega)) (by first | exact Nat.le_of_ble_eq_true rfl | exact x_rm1 (by omega) | exact x_rm2 (by omega)) ?_
        intro d hd
        obtain rfl := Eq.symm hd
        refine b_ifeq (t := 36) dX5_readExpr_29 rfl (fun hc29 => ?_) (fun hc29 => absurd hc29 (h4))
        refine x_iconst dX5_readExpr_36 ?_
        refine x_callV (As := [_]) dX5_readExpr_37 w_5_113 (c1) (by assumption) (by assumption) rfl rfl (by first | exact Nat.le_of_ble_eq_true rfl | exact x_rm1 (by omega) | exact x_rm2 (by omega)) (by first | exact Nat.le_of_ble_eq_true rfl | exact x_rm1 (by omega) | exact x_rm2 (by omega)) (by first | exact Nat.le_of_ble_eq_true rfl | exact x_rm1 (by omega) | exact x_rm2 (by omega)) (by first | exact Nat.le_of_ble_eq_true rfl | exact x_rm1 (by omega) | exact x_rm2 (by omega)) (by first | exact Nat.le_of_ble_eq_true rfl | exact x_rm1 (by omega) | exact x_rm2 (by omega)) ?_
        intro d1 hd1
        exact x_zret dX5_readExpr_40 rfl (by omega) (by first | exact Nat.le_of_ble_eq_true rfl | exact x_rm1 (by omega) | exact x_rm2 (by omega)) (by first | exact Nat.le_of_ble_eq_true rfl | exact x_rm1 (by omega) | exact x_rm2 (by omega)) rfl rfl rfl (by show r_px n lb L0 (.inl (if tK (D 2) n q = 3 ∨ tK (D 2) n q = 2 ∨ tM (D 2) n q 40 then (2 : Int) else 1, q)) D _; rw [e]; exact hd1) rfl
theorem z5_expr {X : xC} {l : Launch} (hl : l.stackTraces = false) {N : Nat} {sh : xS} {lb n : Nat} (hR : is_Rd N sh lb) (hlb : 3 ≤ lb) (hL : is_L N sh lb) : ∀ d : Nat, d ≤ 6 → Cx X l N sh lb n yX5_readExpr cX5_readExpr 3 (7 * d + 7) (6 - (d : Int)) (fun b => r_exp b n d)
  | 0, _ => z5_deep hl hR hlb hL (by decide)
  | d + 1, hd => by
    have ih := z5_expr (X := X) (l := l) (n := n) hl hR hlb hL d (by omega)
    have hr : x_r (6 - ((d + 1 : Nat) : Int)) := ⟨by omega, by omega⟩
    have e : (6 : Int) - (d : Int) = 6 - ((d + 1 : Nat) : Int) + 1 := by omega
    rw [e] at ih
    have a1 := z5_part hl hR hlb hL (dep := 7 * d + 7) (by omega) hr ih
    have a2 := z5_prd hl hR hlb hL (dep := 7 * d + 8) (by omega) hr (fun b => r_prt_len (r_exp_len d)) a1
    have a3 := z5_sum hl hR hlb hL (dep := 7 * d + 9) (by omega) hr (fun b => r_prd_len (r_exp_len d)) a2
    have a4 := z5_tst hl hR hlb hL (dep := 7 * d + 10) (by omega) hr (fun b => r_sum_len (r_exp_len d)) a3
    have a5 := z5_not hl hR hlb hL (dep := 7 * d + 11) (by omega) hr (fun b => r_tst_len (r_exp_len d)) a4
    have a6 := z5_and hl hR hlb hL (dep := 7 * d + 12) (by omega) hr (fun b => r_not_len (r_exp_len d)) a5
    have a7 := z5_exp hl hR hlb hL (dep := 7 * d + 13) (by omega) hr (fun b => r_and_len (r_exp_len d)) a6 (by omega)
    exact a7
end C995
