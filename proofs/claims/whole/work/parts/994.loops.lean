section C994
/-! ===== Reader: products, sums, tests, nots, ands, expressions ===== -/
theorem w_5_178 : x_cv RX5 178 yX5_readAnd cX5_readAnd 3 (some .boolean) 5 1 := ⟨⟨_, rfl, rfl⟩, (x_in 826 (by decide +kernel) rfl), (x_in 828 (by decide +kernel) rfl), (x_in 5 (by decide +kernel) rfl), (x_in 81 (by decide +kernel) rfl), (x_in 829 (by decide +kernel) rfl), by decide, ⟨by decide +kernel, by decide +kernel, by decide +kernel⟩⟩
theorem w_5_186 : x_cv RX5 186 yX5_readNot cX5_readNot 4 (some .boolean) 5 1 := ⟨⟨_, rfl, rfl⟩, (x_in 830 (by decide +kernel) rfl), (x_in 832 (by decide +kernel) rfl), (x_in 6 (by decide +kernel) rfl), (x_in 81 (by decide +kernel) rfl), (x_in 833 (by decide +kernel) rfl), by decide, ⟨by decide +kernel, by decide +kernel, by decide +kernel⟩⟩
theorem w_5_199 : x_cv RX5 199 yX5_readProduct cX5_readProduct 4 (some .boolean) 5 1 := ⟨⟨_, rfl, rfl⟩, (x_in 843 (by decide +kernel) rfl), (x_in 845 (by decide +kernel) rfl), (x_in 9 (by decide +kernel) rfl), (x_in 81 (by decide +kernel) rfl), (x_in 846 (by decide +kernel) rfl), by decide, ⟨by decide +kernel, by decide +kernel, by decide +kernel⟩⟩
theorem w_5_202 : x_cv RX5 202 yX5_readPart cX5_readPart 3 (some .boolean) 5 1 := ⟨⟨_, rfl, rfl⟩, (x_in 847 (by decide +kernel) rfl), (x_in 849 (by decide +kernel) rfl), (x_in 10 (by decide +kernel) rfl), (x_in 81 (by decide +kernel) rfl), (x_in 850 (by decide +kernel) rfl), by decide, ⟨by decide +kernel, by decide +kernel, by decide +kernel⟩⟩
set_option maxHeartbeats 4000000 in
theorem z5_prd {X : xC} {l : Launch} (hl : l.stackTraces = false) {N : Nat} {sh : xS} {lb n : Nat} (hR : is_Rd N sh lb) (hlb : 3 ≤ lb) (hL : is_L N sh lb) {dep : Nat} (hdep : 6 ≤ dep) {deep : Int} (hdr : x_r deep) {sf : (Int → Int) → Nat → Rs (List Int)} (hlen : ∀ b, r_len n (sf b)) (hsub : Cx X l N sh lb n yX5_readPart cX5_readPart 3 dep deep sf) : Cx X l N sh lb n yX5_readProduct cX5_readProduct 4 (dep + 1) deep (fun b q => r_bd (sf b q) (fun L q1 => r_lp (fun q => tM b n q 42 ∨ tM b n q 47) (fun q => if tM b n q 42 then -14 else -15) (tE b n) (sf b) 700 L q1)) := by
  obtain ⟨hRN, x1, x2⟩ := id hR
  have n1 : 1 < N := by omega
  have xl := hL.2.1
  have nl : lb < N := by have := hL.1; omega
  have xru := (is_L_ru hL).2.1
  have nru : lb + 10 < N := by have := hL.1; omega
  intro D q L0 hs hu h0
  have hz0 := rz_0 hs hu
  have hqn := hs.2.1
  have hn7 := hs.1.2.1
  have hki := tK_in (b := D 2) (n := n) (q := q)
  show x_M X l yX5_readProduct cX5_readProduct 4 (some .boolean) (dep + 1) 0 0 [.ref (x_b X + 1), .int (xI deep)] false N sh D (.inl (some (.int (xI (r_o (r_bd (sf (D 2) q) (fun L q1 => r_lp (fun q => tM (D 2) n q 42 ∨ tM (D 2) n q 47) (fun q => if tM (D 2) n q 42 then -14 else -15) (tE (D 2) n) (sf (D 2)) 700 L q1))))))) false N sh (r_px n lb L0 (r_bd (sf (D 2) q) (fun L q1 => r_lp (fun q => tM (D 2) n q 42 ∨ tM (D 2) n q 47) (fun q => if tM (D 2) n q 42 then -14 else -15) (tE (D 2) n) (sf (D 2)) 700 L q1)) D)
  have gH : ∀ (k i : Nat), i + k = 700 → ∀ (L : List Int) (q1 : Nat) (d : xM), rz n lb L0 D q1 L d → L0.length + L.length ≤ q1 → r_bd (sf (D 2) q) (fun L q1 => r_lp (fun q => tM (D 2) n q 42 ∨ tM (D 2) n q 47) (fun q => if tM (D 2) n q 42 then -14 else -15) (tE (D 2) n) (sf (D 2)) 700 L q1) = r_lp (fun q => tM (D 2) n q 42 ∨ tM (D 2) n q 47) (fun q => if tM (D 2) n q 42 then -14 else -15) (tE (D 2) n) (sf (D 2)) k L q1 → ∀ o3 : Option Value, x_W (X, l, yX5_readProduct, cX5_readProduct, 4, (some .boolean), x_room (dep + 1) 0 0, 0, 0, (.inl (some (.int (xI (r_o (r_bd (sf (D 2) q) (fun L q1 => r_lp (fun q => tM (D 2) n q 42 ∨ tM (D 2) n q 47) (fun q => if tM (D 2) n q 42 then -14 else -15) (tE (D 2) n) (sf (D 2)) 700 L q1))))))), N, sh, (r_px n lb L0 (r_bd (sf (D 2) q) (fun L q1 => r_lp (fun q => tM (D 2) n q 42 ∨ tM (D 2) n q 47) (fun q => if tM (D 2) n q 42 then -14 else -15) (tE (D 2) n) (sf (D 2)) 700 L q1)) D), false, []) 12 [some (.ref (x_b X + 1)), some (.int (xI deep)), some (.int (xI (i : Int))), o3] [] 0 0 false N sh d := by
    intro k
    induction k with
    | zero =>
      intro i hi L q1 d hz hln hX o3
      refine x_iload_n dX5_readProduct_12 x_get_4_2 ?_
      refine x_sipush dX5_readProduct_13 rfl ?_
      refine r_icmp_ge (t := 85) dX5_readProduct_16 rfl ⟨by omega, by omega⟩ ⟨by omega, by omega⟩ (fun hc16 => ?_) (fun hc16 => absurd hc16 (by omega))
      refine x_iconst dX5_readProduct_85 ?_
      exact x_zret dX5_readProduct_86 rfl (by omega) (by first | exact Nat.le_of_ble_eq_true rfl | exact x_rm1 (by omega) | exact x_rm2 (by omega)) (by first | exact Nat.le_of_ble_eq_true rfl | exact x_rm1 (by omega) | exact x_rm2 (by omega)) (by rw [hX]; rfl) rfl rfl (by rw [hX]; exact hz) rfl
    | succ k ih =>
      intro i hi L q1 d hz hln hX o3
      rw [r_lp_s] at hX
      have hq1 := hz.1.2.1
      have gA : ∀ s : Int, x_r s → (fun q => if tM (D 2) n q 42 then -14 else -15) q1 = s → (fun q => tM (D 2) n q 42 ∨ tM (D 2) n q 47) q1 → x_W (X, l, yX5_readProduct, cX5_readProduct, 4, (some .boolean), x_room (dep + 1) 0 0, 0, 0, (.inl (some (.int (xI (r_o (r_bd (sf (D 2) q) (fun L q1 => r_lp (fun q => tM (D 2) n q 42 ∨ tM (D 2) n q 47) (fun q => if tM (D 2) n q 42 then -14 else -15) (tE (D 2) n) (sf (D 2)) 700 L q1))))))), N, sh, (r_px n lb L0 (r_bd (sf (D 2) q) (fun L q1 => r_lp (fun q => tM (D 2) n q 42 ∨ tM (D 2) n q 47) (fun q => if tM (D 2) n q 42 then -14 else -15) (tE (D 2) n) (sf (D 2)) 700 L q1)) D), false, []) 54 [some (.ref (x_b X + 1)), some (.int (xI deep)), some (.int (xI (i : Int))), some (.int (xI s))] [] 0 0 false N sh d := by
        intro s hsr hst ho
        rw [if_pos ho] at hX
        have hup : q1 < tE (D 2) n q1 ∧ tE (D 2) n q1 ≤ n := ho.elim (tM_up hq1) (tM_up hq1)
        refine x_aload_n dX5_readProduct_54 x_get_4_0 ?_
        refine x_callV (As := []) dX5_readProduct_55 w_5_56 (z5_adv hl hR hlb hz) (by assumption) (by assumption) rfl rfl (by first | exact Nat.le_of_ble_eq_true rfl | exact x_rm1 (by omega) | exact x_rm2 (by omega)) (by first | exact Nat.le_of_ble_eq_true rfl | exact x_rm1 (by omega) | exact x_rm2 (by omega)) (by first | exact Nat.le_of_ble_eq_true rfl | exact x_rm1 (by omega) | exact x_rm2 (by omega)) (by first | exact Nat.le_of_ble_eq_true rfl | exact x_rm1 (by omega) | exact x_rm2 (by omega)) (by first | exact Nat.le_of_ble_eq_true rfl | exact x_rm1 (by omega) | exact x_rm2 (by omega)) ?_
        intro d1 z1
        have c1 := z5_sub hsub hlb z1 (by omega)
        refine x_aload_n dX5_readProduct_58 x_get_4_0 ?_
        refine x_iload_n dX5_readProduct_59 x_get_4_1 ?_
        rcases hf : sf (D 2) (tE (D 2) n q1) with z | z
        · rw [hf] at c1 hX
          refine x_callV (As := [_]) dX5_readProduct_60 w_5_202 (c1) (by assumption) (by assumption) rfl rfl (by first | exact Nat.le_of_ble_eq_true rfl | exact x_rm1 (by omega) | exact x_rm2 (by omega)) (by first | exact Nat.le_of_ble_eq_true rfl | exact x_rm1 (by omega) | exact x_rm2 (by omega)) (by first | exact Nat.le_of_ble_eq_true rfl | exact x_rm1 (by omega) | exact x_rm2 (by omega)) (by first | exact Nat.le_of_ble_eq_true rfl | exact x_rm1 (by omega) | exact x_rm2 (by omega)) (by first | exact Nat.le_of_ble_eq_true rfl | exact x_rm1 (by omega) | exact x_rm2 (by omega)) ?_
          intro d2 hd2
          refine r_if_ne (t := 68) dX5_readProduct_63 rfl ⟨by show (-2147483648 : Int) ≤ 0; decide, by show (0 : Int) < 2147483648; decide⟩ (fun hc63 => absurd hc63 (by show ¬ ¬ ((0 : Int) = 0); decide)) (fun hc63 => ?_)
          refine x_iconst dX5_readProduct_66 ?_
          exact x_zret dX5_readProduct_67 rfl (by omega) (by first | exact Nat.le_of_ble_eq_true rfl | exact x_rm1 (by omega) | exact x_rm2 (by omega)) (by first | exact Nat.le_of_ble_eq_true rfl | exact x_rm1 (by omega) | exact x_rm2 (by omega)) (by rw [hX]; rfl) rfl rfl (by rw [hX]; exact hd2) rfl
        · rw [hf] at c1 hX
          have hXi : r_bd (sf (D 2) q) (fun L q1 => r_lp (fun q => tM (D 2) n q 42 ∨ tM (D 2) n q 47) (fun q => if tM (D 2) n q 42 then -14 else -15) (tE (D 2) n) (sf (D 2)) 700 L q1) = r_lp (fun q => tM (D 2) n q 42 ∨ tM (D 2) n q 47) (fun q => if tM (D 2) n q 42 then -14 else -15) (tE (D 2) n) (sf (D 2)) k (L ++ z.1 ++ [s]) z.2 := by rw [← hst]; exact hX
          obtain ⟨y1, y2⟩ := hlen (D 2) _ z.1 z.2 hup.2 hf
          refine x_callV (As := [_]) dX5_readProduct_60 w_5_202 (c1) (by assumption) (by assumption) rfl rfl (by first | exact Nat.le_of_ble_eq_true rfl | exact x_rm1 (by omega) | exact x_rm2 (by omega)) (by first | exact Nat.le_of_ble_eq_true rfl | exact x_rm1 (by omega) | exact x_rm2 (by omega)) (by first | exact Nat.le_of_ble_eq_true rfl | exact x_rm1 (by omega) | exact x_rm2 (by omega)) (by first | exact Nat.le_of_ble_eq_true rfl | exact x_rm1 (by omega) | exact x_rm2 (by omega)) (by first | exact Nat.le_of_ble_eq_true rfl | exact x_rm1 (by omega) | exact x_rm2 (by omega)) ?_
          intro d2 hd2
          have z2 : rz n lb L0 D z.2 (L ++ z.1) d2 := hd2
          refine r_if_ne (t := 68) dX5_readProduct_63 rfl ⟨by show (-2147483648 : Int) ≤ 1; decide, by show (1 : Int) < 2147483648; decide⟩ (fun hc63 => ?_) (fun hc63 => absurd hc63 (by show ¬ ((1 : Int) = 0); decide))
          refine x_aload_n dX5_readProduct_68 x_get_4_0 ?_
          refine x_getR dX5_readProduct_69 fX_5_37 (by assumption) (by assumption) (by rfl) ?_
          refine x_getR dX5_readProduct_72 fX_5_162 (by assumption) (by assumption) (by rfl) ?_
          refine x_iload_n dX5_readProduct_75 x_get_4_3 ?_
          refine x_callV (As := [_]) dX5_readProduct_76 w_5_183 (z5_add hl hR hlb z2 hL hsr (by rw [List.length_append]; omega)) (by assumption) (by assumption) rfl rfl (by first | exact Nat.le_of_ble_eq_true rfl | exact x_rm1 (by omega) | exact x_rm2 (by omega)) (by first | exact Nat.le_of_ble_eq_true rfl | exact x_rm1 (by omega) | exact x_rm2 (by omega)) (by first | exact Nat.le_of_ble_eq_true rfl | exact x_rm1 (by omega) | exact x_rm2 (by omega)) (by first | exact Nat.le_of_ble_eq_true rfl | exact x_rm1 (by omega) | exact x_rm2 (by omega)) (by first | exact Nat.le_of_ble_eq_true rfl | exact x_rm1 (by omega) | exact x_rm2 (by omega)) ?_
          intro d3 z3
          refine x_iinc dX5_readProduct_79 x_get_4_2 (by first | exact Nat.le_of_ble_eq_true rfl | exact x_rm1 (by omega) | exact x_rm2 (by omega)) rfl x_set_4_2 ?_
          refine x_goto (t := 12) dX5_readProduct_82 rfl ?_
          exact ih (i + 1) (by omega) _ _ _ z3 (by rw [List.length_append, List.length_append, List.length_singleton]; omega) hXi _
      by_cases hm1 : tM (D 2) n q1 42
      · skip
        refine x_iload_n dX5_readProduct_12 x_get_4_2 ?_
        refine x_sipush dX5_readProduct_13 rfl ?_
        refine r_icmp_ge (t := 85) dX5_readProduct_16 rfl ⟨by omega, by omega⟩ ⟨by omega, by omega⟩ (fun hc16 => absurd hc16 (by omega)) (fun hc16 => ?_)
        refine x_aload_n dX5_readProduct_19 x_get_4_0 ?_
        refine x_bipush dX5_readProduct_20 rfl ?_
        refine x_callV (As := [_]) dX5_readProduct_22 w_5_175 (z5_mark hl hR hlb hz ⟨by decide, by decide⟩) (by assumption) (by assumption) rfl rfl (by first | exact Nat.le_of_ble_eq_true rfl | exact x_rm1 (by omega) | exact x_rm2 (by omega)) (by first | exact Nat.le_of_ble_eq_true rfl | exact x_rm1 (by omega) | exact x_rm2 (by omega)) (by first | exact Nat.le_of_ble_eq_true rfl | exact x_rm1 (by omega) | exact x_rm2 (by omega)) (by first | exact Nat.le_of_ble_eq_true rfl | exact x_rm1 (by omega) | exact x_rm2 (by omega)) (by first | exact Nat.le_of_ble_eq_true rfl | exact x_rm1 (by omega) | exact x_rm2 (by omega)) ?_
        intro d hd
        obtain rfl := Eq.symm hd
        refine b_ifne (t := 37) dX5_readProduct_25 rfl (fun hc25 => ?_) (fun hc25 => absurd hc25 (fun hh => hh hm1))
        refine x_aload_n dX5_readProduct_37 x_get_4_0 ?_
        refine x_bipush dX5_readProduct_38 rfl ?_
        refine x_callV (As := [_]) dX5_readProduct_40 w_5_175 (z5_mark hl hR hlb hz ⟨by decide, by decide⟩) (by assumption) (by assumption) rfl rfl (by first | exact Nat.le_of_ble_eq_true rfl | exact x_rm1 (by omega) | exact x_rm2 (by omega)) (by first | exact Nat.le_of_ble_eq_true rfl | exact x_rm1 (by omega) | exact x_rm2 (by omega)) (by first | exact Nat.le_of_ble_eq_true rfl | exact x_rm1 (by omega) | exact x_rm2 (by omega)) (by first | exact Nat.le_of_ble_eq_true rfl | exact x_rm1 (by omega) | exact x_rm2 (by omega)) (by first | exact Nat.le_of_ble_eq_true rfl | exact x_rm1 (by omega) | exact x_rm2 (by omega)) ?_
        intro d hd
        obtain rfl := Eq.symm hd
        refine b_ifeq (t := 51) dX5_readProduct_43 rfl (fun hc43 => absurd hc43 (fun hh => hh hm1)) (fun hc43 => ?_)
        refine x_bipush dX5_readProduct_46 rfl ?_
        refine x_goto (t := 53) dX5_readProduct_48 rfl ?_
        refine x_istore_n dX5_readProduct_53 (by first | exact Nat.le_of_ble_eq_true rfl | exact x_rm1 (by omega) | exact x_rm2 (by omega)) rfl x_set_4_3 ?_
        exact gA _ ⟨by decide, by decide⟩ (if_pos hm1) (Or.inl hm1)
      · by_cases hm2 : tM (D 2) n q1 47
        · skip
          refine x_iload_n dX5_readProduct_12 x_get_4_2 ?_
          refine x_sipush dX5_readProduct_13 rfl ?_
          refine r_icmp_ge (t := 85) dX5_readProduct_16 rfl ⟨by omega, by omega⟩ ⟨by omega, by omega⟩ (fun hc16 => absurd hc16 (by omega)) (fun hc16 => ?_)
          refine x_aload_n dX5_readProduct_19 x_get_4_0 ?_
          refine x_bipush dX5_readProduct_20 rfl ?_
          refine x_callV (As := [_]) dX5_readProduct_22 w_5_175 (z5_mark hl hR hlb hz ⟨by decide, by decide⟩) (by assumption) (by assumption) rfl rfl (by first | exact Nat.le_of_ble_eq_true rfl | exact x_rm1 (by omega) | exact x_rm2 (by omega)) (by first | exact Nat.le_of_ble_eq_true rfl | exact x_rm1 (by omega) | exact x_rm2 (by omega)) (by first | exact Nat.le_of_ble_eq_true rfl | exact x_rm1 (by omega) | exact x_rm2 (by omega)) (by first | exact Nat.le_of_ble_eq_true rfl | exact x_rm1 (by omega) | exact x_rm2 (by omega)) (by first | exact Nat.le_of_ble_eq_true rfl | exact x_rm1 (by omega) | exact x_rm2 (by omega)) ?_
          intro d hd
          obtain rfl := Eq.symm hd
          refine b_ifne (t := 37) dX5_readProduct_25 rfl (fun hc25 => absurd hc25 (hm1)) (fun hc25 => ?_)
          refine x_aload_n dX5_readProduct_28 x_get_4_0 ?_
          refine x_bipush dX5_readProduct_29 rfl ?_
          refine x_callV (As := [_]) dX5_readProduct_31 w_5_175 (z5_mark hl hR hlb hz ⟨by decide, by decide⟩) (by assumption) (by assumption) rfl rfl (by first | exact Nat.le_of_ble_eq_true rfl | exact x_rm1 (by omega) | exact x_rm2 (by omega)) (by first | exact Nat.le_of_ble_eq_true rfl | exact x_rm1 (by omega) | exact x_rm2 (by omega)) (by first | exact Nat.le_of_ble_eq_true rfl | exact x_rm1 (by omega) | exact x_rm2 (by omega)) (by first | exact Nat.le_of_ble_eq_true rfl | exact x_rm1 (by omega) | exact x_rm2 (by omega)) (by first | exact Nat.le_of_ble_eq_true rfl | exact x_rm1 (by omega) | exact x_rm2 (by omega)) ?_
          intro d hd
          obtain rfl := Eq.symm hd
          refine b_ifeq (t := 85) dX5_readProduct_34 rfl (fun hc34 => absurd hc34 (fun hh => hh hm2)) (fun hc34 => ?_)
          refine x_aload_n dX5_readProduct_37 x_get_4_0 ?_
          refine x_bipush dX5_readProduct_38 rfl ?_
          refine x_callV (As := [_]) dX5_readProduct_40 w_5_175 (z5_mark hl hR hlb hz ⟨by decide, by decide⟩) (by assumption) (by assumption) rfl rfl (by first | exact Nat.le_of_ble_eq_true rfl | exact x_rm1 (by omega) | exact x_rm2 (by omega)) (by first | exact Nat.le_of_ble_eq_true rfl | exact x_rm1 (by omega) | exact x_rm2 (by omega)) (by first | exact Nat.le_of_ble_eq_true rfl | exact x_rm1 (by omega) | exact x_rm2 (by omega)) (by first | exact Nat.le_of_ble_eq_true rfl | exact x_rm1 (by omega) | exact x_rm2 (by omega)) (by first | exact Nat.le_of_ble_eq_true rfl | exact x_rm1 (by omega) | exact x_rm2 (by omega)) ?_
          intro d hd
          obtain rfl := Eq.symm hd
          refine b_ifeq (t := 51) dX5_readProduct_43 rfl (fun hc43 => ?_) (fun hc43 => absurd hc43 (hm1))
          refine x_bipush dX5_readProduct_51 rfl ?_
          refine x_istore_n dX5_readProduct_53 (by first | exact Nat.le_of_ble_eq_true rfl | exact x_rm1 (by omega) | exact x_rm2 (by omega)) rfl x_set_4_3 ?_
          exact gA _ ⟨by decide, by decide⟩ (if_neg hm1) (Or.inr hm2)
        · rw [if_neg (show ¬ (fun q => tM (D 2) n q 42 ∨ tM (D 2) n q 47) q1 from fun hh => hh.elim hm1 hm2)] at hX
          refine x_iload_n dX5_readProduct_12 x_get_4_2 ?_
          refine x_sipush dX5_readProduct_13 rfl ?_
          refine r_icmp_ge (t := 85) dX5_readProduct_16 rfl ⟨by omega, by omega⟩ ⟨by omega, by omega⟩ (fun hc16 => absurd hc16 (by omega)) (fun hc16 => ?_)
          refine x_aload_n dX5_readProduct_19 x_get_4_0 ?_
          refine x_bipush dX5_readProduct_20 rfl ?_
          refine x_callV (As := [_]) dX5_readProduct_22 w_5_175 (z5_mark hl hR hlb hz ⟨by decide, by decide⟩) (by assumption) (by assumption) rfl rfl (by first | exact Nat.le_of_ble_eq_true rfl | exact x_rm1 (by omega) | exact x_rm2 (by omega)) (by first | exact Nat.le_of_ble_eq_true rfl | exact x_rm1 (by omega) | exact x_rm2 (by omega)) (by first | exact Nat.le_of_ble_eq_true rfl | exact x_rm1 (by omega) | exact x_rm2 (by omega)) (by first | exact Nat.le_of_ble_eq_true rfl | exact x_rm1 (by omega) | exact x_rm2 (by omega)) (by first | exact Nat.le_of_ble_eq_true rfl | exact x_rm1 (by omega) | exact x_rm2 (by omega)) ?_
          intro d hd
          obtain rfl := Eq.symm hd
          refine b_ifne (t := 37) dX5_readProduct_25 rfl (fun hc25 => absurd hc25 (hm1)) (fun hc25 => ?_)
          refine x_aload_n dX5_readProduct_28 x_get_4_0 ?_
          refine x_bipush dX5_readProduct_29 rfl ?_
          refine x_callV (As := [_]) dX5_readProduct_31 w_5_175 (z5_mark hl hR hlb hz ⟨by decide, by decide⟩) (by assumption) (by assumption) rfl rfl (by first | exact Nat.le_of_ble_eq_true rfl | exact x_rm1 (by omega) | exact x_rm2 (by omega)) (by first | exact Nat.le_of_ble_eq_true rfl | exact x_rm1 (by omega) | exact x_rm2 (by omega)) (by first | exact Nat.le_of_ble_eq_true rfl | exact x_rm1 (by omega) | exact x_rm2 (by omega)) (by first | exact Nat.le_of_ble_eq_true rfl | exact x_rm1 (by omega) | exact x_rm2 (by omega)) (by first | exact Nat.le_of_ble_eq_true rfl | exact x_rm1 (by omega) | exact x_rm2 (by omega)) ?_
          intro d hd
          obtain rfl := Eq.symm hd
          refine b_ifeq (t := 85) dX5_readProduct_34 rfl (fun hc34 => ?_) (fun hc34 => absurd hc34 (hm2))
          refine x_iconst dX5_readProduct_85 ?_
          exact x_zret dX5_readProduct_86 rfl (by omega) (by first | exact Nat.le_of_ble_eq_true rfl | exact x_rm1 (by omega) | exact x_rm2 (by omega)) (by first | exact Nat.le_of_ble_eq_true rfl | exact x_rm1 (by omega) | exact x_rm2 (by omega)) (by rw [hX]; rfl) rfl rfl (by rw [hX]; exact hz) rfl
  have c0 := z5_sub hsub hlb hz0 (by simp; omega)
  refine x_ofW (by decide +kernel) hl (by simp [Value.category]) (by simp) ?_
  obtain ⟨r0, hf0⟩ : ∃ r, sf (D 2) q = r := ⟨_, rfl⟩
  rcases r0 with z0 | z0
  · rw [hf0] at c0
    have hX : r_bd (sf (D 2) q) (fun L q1 => r_lp (fun q => tM (D 2) n q 42 ∨ tM (D 2) n q 47) (fun q => if tM (D 2) n q 42 then -14 else -15) (tE (D 2) n) (sf (D 2)) 700 L q1) = .inl z0 := by rw [hf0]; rfl
    refine x_aload_n dX5_readProduct_0 x_get_4_0 ?_
    refine x_iload_n dX5_readProduct_1 x_get_4_1 ?_
    refine x_callV (As := [_]) dX5_readProduct_2 w_5_202 (c0) (by assumption) (by assumption) rfl rfl (by first | exact Nat.le_of_ble_eq_true rfl | exact x_rm1 (by omega) | exact x_rm2 (by omega)) (by first | exact Nat.le_of_ble_eq_true rfl | exact x_rm1 (by omega) | exact x_rm2 (by omega)) (by first | exact Nat.le_of_ble_eq_true rfl | exact x_rm1 (by omega) | exact x_rm2 (by omega)) (by first | exact Nat.le_of_ble_eq_true rfl | exact x_rm1 (by omega) | exact x_rm2 (by omega)) (by first | exact Nat.le_of_ble_eq_true rfl | exact x_rm1 (by omega) | exact x_rm2 (by omega)) ?_
    intro d2 hd2
    refine r_if_ne (t := 10) dX5_readProduct_5 rfl ⟨by show (-2147483648 : Int) ≤ 0; decide, by show (0 : Int) < 2147483648; decide⟩ (fun hc5 => absurd hc5 (by show ¬ ¬ ((0 : Int) = 0); decide)) (fun hc5 => ?_)
    refine x_iconst dX5_readProduct_8 ?_
    exact x_zret dX5_readProduct_9 rfl (by omega) (by first | exact Nat.le_of_ble_eq_true rfl | exact x_rm1 (by omega) | exact x_rm2 (by omega)) (by first | exact Nat.le_of_ble_eq_true rfl | exact x_rm1 (by omega) | exact x_rm2 (by omega)) (by rw [hX]; rfl) rfl rfl (by rw [hX]; exact hd2) rfl
  · rw [hf0] at c0
    have hX : r_bd (sf (D 2) q) (fun L q1 => r_lp (fun q => tM (D 2) n q 42 ∨ tM (D 2) n q 47) (fun q => if tM (D 2) n q 42 then -14 else -15) (tE (D 2) n) (sf (D 2)) 700 L q1) = r_lp (fun q => tM (D 2) n q 42 ∨ tM (D 2) n q 47) (fun q => if tM (D 2) n q 42 then -14 else -15) (tE (D 2) n) (sf (D 2)) 700 z0.1 z0.2 := by rw [hf0]; rfl
    obtain ⟨y1, y2⟩ := hlen (D 2) _ z0.1 z0.2 hqn hf0
    refine x_aload_n dX5_readProduct_0 x_get_4_0 ?_
    refine x_iload_n dX5_readProduct_1 x_get_4_1 ?_
    refine x_callV (As := [_]) dX5_readProduct_2 w_5_202 (c0) (by assumption) (by assumption) rfl rfl (by first | exact Nat.le_of_ble_eq_true rfl | exact x_rm1 (by omega) | exact x_rm2 (by omega)) (by first | exact Nat.le_of_ble_eq_true rfl | exact x_rm1 (by omega) | exact x_rm2 (by omega)) (by first | exact Nat.le_of_ble_eq_true rfl | exact x_rm1 (by omega) | exact x_rm2 (by omega)) (by first | exact Nat.le_of_ble_eq_true rfl | exact x_rm1 (by omega) | exact x_rm2 (by omega)) (by first | exact Nat.le_of_ble_eq_true rfl | exact x_rm1 (by omega) | exact x_rm2 (by omega)) ?_
    intro d2 hd2
    have z2 : rz n lb L0 D z0.2 z0.1 d2 := by have h9 : rz n lb L0 D z0.2 ([] ++ z0.1) d2 := hd2; rwa [List.nil_append] at h9
    refine r_if_ne (t := 10) dX5_readProduct_5 rfl ⟨by show (-2147483648 : Int) ≤ 1; decide, by show (1 : Int) < 2147483648; decide⟩ (fun hc5 => ?_) (fun hc5 => absurd hc5 (by show ¬ ((1 : Int) = 0); decide))
    refine x_iconst dX5_readProduct_10 ?_
    refine x_istore_n dX5_readProduct_11 (by first | exact Nat.le_of_ble_eq_true rfl | exact x_rm1 (by omega) | exact x_rm2 (by omega)) rfl x_set_4_2 ?_
    exact gH 700 0 rfl _ _ _ z2 (by omega) hX _
set_option maxHeartbeats 4000000 in
theorem z5_sum {X : xC} {l : Launch} (hl : l.stackTraces = false) {N : Nat} {sh : xS} {lb n : Nat} (hR : is_Rd N sh lb) (hlb : 3 ≤ lb) (hL : is_L N sh lb) {dep : Nat} (hdep : 6 ≤ dep) {deep : Int} (hdr : x_r deep) {sf : (Int → Int) → Nat → Rs (List Int)} (hlen : ∀ b, r_len n (sf b)) (hsub : Cx X l N sh lb n yX5_readProduct cX5_readProduct 4 dep deep sf) : Cx X l N sh lb n yX5_readSum cX5_readSum 4 (dep + 1) deep (fun b q => r_bd (sf b q) (fun L q1 => r_lp (fun q => tM b n q 43 ∨ tM b n q 45) (fun q => if tM b n q 43 then -12 else -13) (tE b n) (sf b) 700 L q1)) := by
  obtain ⟨hRN, x1, x2⟩ := id hR
  have n1 : 1 < N := by omega
  have xl := hL.2.1
  have nl : lb < N := by have := hL.1; omega
  have xru := (is_L_ru hL).2.1
  have nru : lb + 10 < N := by have := hL.1; omega
  intro D q L0 hs hu h0
  have hz0 := rz_0 hs hu
  have hqn := hs.2.1
  have hn7 := hs.1.2.1
  have hki := tK_in (b := D 2) (n := n) (q := q)
  show x_M X l yX5_readSum cX5_readSum 4 (some .boolean) (dep + 1) 0 0 [.ref (x_b X + 1), .int (xI deep)] false N sh D (.inl (some (.int (xI (r_o (r_bd (sf (D 2) q) (fun L q1 => r_lp (fun q => tM (D 2) n q 43 ∨ tM (D 2) n q 45) (fun q => if tM (D 2) n q 43 then -12 else -13) (tE (D 2) n) (sf (D 2)) 700 L q1))))))) false N sh (r_px n lb L0 (r_bd (sf (D 2) q) (fun L q1 => r_lp (fun q => tM (D 2) n q 43 ∨ tM (D 2) n q 45) (fun q => if tM (D 2) n q 43 then -12 else -13) (tE (D 2) n) (sf (D 2)) 700 L q1)) D)
  have gH : ∀ (k i : Nat), i + k = 700 → ∀ (L : List Int) (q1 : Nat) (d : xM), rz n lb L0 D q1 L d → L0.length + L.length ≤ q1 → r_bd (sf (D 2) q) (fun L q1 => r_lp (fun q => tM (D 2) n q 43 ∨ tM (D 2) n q 45) (fun q => if tM (D 2) n q 43 then -12 else -13) (tE (D 2) n) (sf (D 2)) 700 L q1) = r_lp (fun q => tM (D 2) n q 43 ∨ tM (D 2) n q 45) (fun q => if tM (D 2) n q 43 then -12 else -13) (tE (D 2) n) (sf (D 2)) k L q1 → ∀ o3 : Option Value, x_W (X, l, yX5_readSum, cX5_readSum, 4, (some .boolean), x_room (dep + 1) 0 0, 0, 0, (.inl (some (.int (xI (r_o (r_bd (sf (D 2) q) (fun L q1 => r_lp (fun q => tM (D 2) n q 43 ∨ tM (D 2) n q 45) (fun q => if tM (D 2) n q 43 then -12 else -13) (tE (D 2) n) (sf (D 2)) 700 L q1))))))), N, sh, (r_px n lb L0 (r_bd (sf (D 2) q) (fun L q1 => r_lp (fun q => tM (D 2) n q 43 ∨ tM (D 2) n q 45) (fun q => if tM (D 2) n q 43 then -12 else -13) (tE (D 2) n) (sf (D 2)) 700 L q1)) D), false, []) 12 [some (.ref (x_b X + 1)), some (.int (xI deep)), some (.int (xI (i : Int))), o3] [] 0 0 false N sh d := by
    intro k
    induction k with
    | zero =>
      intro i hi L q1 d hz hln hX o3
      refine x_iload_n dX5_readSum_12 x_get_4_2 ?_
      refine x_sipush dX5_readSum_13 rfl ?_
      refine r_icmp_ge (t := 85) dX5_readSum_16 rfl ⟨by omega, by omega⟩ ⟨by omega, by omega⟩ (fun hc16 => ?_) (fun hc16 => absurd hc16 (by omega))
      refine x_iconst dX5_readSum_85 ?_
      exact x_zret dX5_readSum_86 rfl (by omega) (by first | exact Nat.le_of_ble_eq_true rfl | exact x_rm1 (by omega) | exact x_rm2 (by omega)) (by first | exact Nat.le_of_ble_eq_true rfl | exact x_rm1 (by omega) | exact x_rm2 (by omega)) (by rw [hX]; rfl) rfl rfl (by rw [hX]; exact hz) rfl
    | succ k ih =>
      intro i hi L q1 d hz hln hX o3
      rw [r_lp_s] at hX
      have hq1 := hz.1.2.1
      have gA : ∀ s : Int, x_r s → (fun q => if tM (D 2) n q 43 then -12 else -13) q1 = s → (fun q => tM (D 2) n q 43 ∨ tM (D 2) n q 45) q1 → x_W (X, l, yX5_readSum, cX5_readSum, 4, (some .boolean), x_room (dep + 1) 0 0, 0, 0, (.inl (some (.int (xI (r_o (r_bd (sf (D 2) q) (fun L q1 => r_lp (fun q => tM (D 2) n q 43 ∨ tM (D 2) n q 45) (fun q => if tM (D 2) n q 43 then -12 else -13) (tE (D 2) n) (sf (D 2)) 700 L q1))))))), N, sh, (r_px n lb L0 (r_bd (sf (D 2) q) (fun L q1 => r_lp (fun q => tM (D 2) n q 43 ∨ tM (D 2) n q 45) (fun q => if tM (D 2) n q 43 then -12 else -13) (tE (D 2) n) (sf (D 2)) 700 L q1)) D), false, []) 54 [some (.ref (x_b X + 1)), some (.int (xI deep)), some (.int (xI (i : Int))), some (.int (xI s))] [] 0 0 false N sh d := by
        intro s hsr hst ho
        rw [if_pos ho] at hX
        have hup : q1 < tE (D 2) n q1 ∧ tE (D 2) n q1 ≤ n := ho.elim (tM_up hq1) (tM_up hq1)
        refine x_aload_n dX5_readSum_54 x_get_4_0 ?_
        refine x_callV (As := []) dX5_readSum_55 w_5_56 (z5_adv hl hR hlb hz) (by assumption) (by assumption) rfl rfl (by first | exact Nat.le_of_ble_eq_true rfl | exact x_rm1 (by omega) | exact x_rm2 (by omega)) (by first | exact Nat.le_of_ble_eq_true rfl | exact x_rm1 (by omega) | exact x_rm2 (by omega)) (by first | exact Nat.le_of_ble_eq_true rfl | exact x_rm1 (by omega) | exact x_rm2 (by omega)) (by first | exact Nat.le_of_ble_eq_true rfl | exact x_rm1 (by omega) | exact x_rm2 (by omega)) (by first | exact Nat.le_of_ble_eq_true rfl | exact x_rm1 (by omega) | exact x_rm2 (by omega)) ?_
        intro d1 z1
        have c1 := z5_sub hsub hlb z1 (by omega)
        refine x_aload_n dX5_readSum_58 x_get_4_0 ?_
        refine x_iload_n dX5_readSum_59 x_get_4_1 ?_
        rcases hf : sf (D 2) (tE (D 2) n q1) with z | z
        · rw [hf] at c1 hX
          refine x_callV (As := [_]) dX5_readSum_60 w_5_199 (c1) (by assumption) (by assumption) rfl rfl (by first | exact Nat.le_of_ble_eq_true rfl | exact x_rm1 (by omega) | exact x_rm2 (by omega)) (by first | exact Nat.le_of_ble_eq_true rfl | exact x_rm1 (by omega) | exact x_rm2 (by omega)) (by first | exact Nat.le_of_ble_eq_true rfl | exact x_rm1 (by omega) | exact x_rm2 (by omega)) (by first | exact Nat.le_of_ble_eq_true rfl | exact x_rm1 (by omega) | exact x_rm2 (by omega)) (by first | exact Nat.le_of_ble_eq_true rfl | exact x_rm1 (by omega) | exact x_rm2 (by omega)) ?_
          intro d2 hd2
          refine r_if_ne (t := 68) dX5_readSum_63 rfl ⟨by show (-2147483648 : Int) ≤ 0; decide, by show (0 : Int) < 2147483648; decide⟩ (fun hc63 => absurd hc63 (by show ¬ ¬ ((0 : Int) = 0); decide)) (fun hc63 => ?_)
          refine x_iconst dX5_readSum_66 ?_
          exact x_zret dX5_readSum_67 rfl (by omega) (by first | exact Nat.le_of_ble_eq_true rfl | exact x_rm1 (by omega) | exact x_rm2 (by omega)) (by first | exact Nat.le_of_ble_eq_true rfl | exact x_rm1 (by omega) | exact x_rm2 (by omega)) (by rw [hX]; rfl) rfl rfl (by rw [hX]; exact hd2) rfl
        · rw [hf] at c1 hX
          have hXi : r_bd (sf (D 2) q) (fun L q1 => r_lp (fun q => tM (D 2) n q 43 ∨ tM (D 2) n q 45) (fun q => if tM (D 2) n q 43 then -12 else -13) (tE (D 2) n) (sf (D 2)) 700 L q1) = r_lp (fun q => tM (D 2) n q 43 ∨ tM (D 2) n q 45) (fun q => if tM (D 2) n q 43 then -12 else -13) (tE (D 2) n) (sf (D 2)) k (L ++ z.1 ++ [s]) z.2 := by rw [← hst]; exact hX
          obtain ⟨y1, y2⟩ := hlen (D 2) _ z.1 z.2 hup.2 hf
          refine x_callV (As := [_]) dX5_readSum_60 w_5_199 (c1) (by assumption) (by assumption) rfl rfl (by first | exact Nat.le_of_ble_eq_true rfl | exact x_rm1 (by omega) | exact x_rm2 (by omega)) (by first | exact Nat.le_of_ble_eq_true rfl | exact x_rm1 (by omega) | exact x_rm2 (by omega)) (by first | exact Nat.le_of_ble_eq_true rfl | exact x_rm1 (by omega) | exact x_rm2 (by omega)) (by first | exact Nat.le_of_ble_eq_true rfl | exact x_rm1 (by omega) | exact x_rm2 (by omega)) (by first | exact Nat.le_of_ble_eq_true rfl | exact x_rm1 (by omega) | exact x_rm2 (by omega)) ?_
          intro d2 hd2
          have z2 : rz n lb L0 D z.2 (L ++ z.1) d2 := hd2
          refine r_if_ne (t := 68) dX5_readSum_63 rfl ⟨by show (-2147483648 : Int) ≤ 1; decide, by show (1 : Int) < 2147483648; decide⟩ (fun hc63 => ?_) (fun hc63 => absurd hc63 (by show ¬ ((1 : Int) = 0); decide))
          refine x_aload_n dX5_readSum_68 x_get_4_0 ?_
          refine x_getR dX5_readSum_69 fX_5_37 (by assumption) (by assumption) (by rfl) ?_
          refine x_getR dX5_readSum_72 fX_5_162 (by assumption) (by assumption) (by rfl) ?_
          refine x_iload_n dX5_readSum_75 x_get_4_3 ?_
          refine x_callV (As := [_]) dX5_readSum_76 w_5_183 (z5_add hl hR hlb z2 hL hsr (by rw [List.length_append]; omega)) (by assumption) (by assumption) rfl rfl (by first | exact Nat.le_of_ble_eq_true rfl | exact x_rm1 (by omega) | exact x_rm2 (by omega)) (by first | exact Nat.le_of_ble_eq_true rfl | exact x_rm1 (by omega) | exact x_rm2 (by omega)) (by first | exact Nat.le_of_ble_eq_true rfl | exact x_rm1 (by omega) | exact x_rm2 (by omega)) (by first | exact Nat.le_of_ble_eq_true rfl | exact x_rm1 (by omega) | exact x_rm2 (by omega)) (by first | exact Nat.le_of_ble_eq_true rfl | exact x_rm1 (by omega) | exact x_rm2 (by omega)) ?_
          intro d3 z3
          refine x_iinc dX5_readSum_79 x_get_4_2 (by first | exact Nat.le_of_ble_eq_true rfl | exact x_rm1 (by omega) | exact x_rm2 (by omega)) rfl x_set_4_2 ?_
          refine x_goto (t := 12) dX5_readSum_82 rfl ?_
          exact ih (i + 1) (by omega) _ _ _ z3 (by rw [List.length_append, List.length_append, List.length_singleton]; omega) hXi _
      by_cases hm1 : tM (D 2) n q1 43
      · skip
        refine x_iload_n dX5_readSum_12 x_get_4_2 ?_
        refine x_sipush dX5_readSum_13 rfl ?_
        refine r_icmp_ge (t := 85) dX5_readSum_16 rfl ⟨by omega, by omega⟩ ⟨by omega, by omega⟩ (fun hc16 => absurd hc16 (by omega)) (fun hc16 => ?_)
        refine x_aload_n dX5_readSum_19 x_get_4_0 ?_
        refine x_bipush dX5_readSum_20 rfl ?_
        refine x_callV (As := [_]) dX5_readSum_22 w_5_175 (z5_mark hl hR hlb hz ⟨by decide, by decide⟩) (by assumption) (by assumption) rfl rfl (by first | exact Nat.le_of_ble_eq_true rfl | exact x_rm1 (by omega) | exact x_rm2 (by omega)) (by first | exact Nat.le_of_ble_eq_true rfl | exact x_rm1 (by omega) | exact x_rm2 (by omega)) (by first | exact Nat.le_of_ble_eq_true rfl | exact x_rm1 (by omega) | exact x_rm2 (by omega)) (by first | exact Nat.le_of_ble_eq_true rfl | exact x_rm1 (by omega) | exact x_rm2 (by omega)) (by first | exact Nat.le_of_ble_eq_true rfl | exact x_rm1 (by omega) | exact x_rm2 (by omega)) ?_
        intro d hd
        obtain rfl := Eq.symm hd
        refine b_ifne (t := 37) dX5_readSum_25 rfl (fun hc25 => ?_) (fun hc25 => absurd hc25 (fun hh => hh hm1))
        refine x_aload_n dX5_readSum_37 x_get_4_0 ?_
        refine x_bipush dX5_readSum_38 rfl ?_
        refine x_callV (As := [_]) dX5_readSum_40 w_5_175 (z5_mark hl hR hlb hz ⟨by decide, by decide⟩) (by assumption) (by assumption) rfl rfl (by first | exact Nat.le_of_ble_eq_true rfl | exact x_rm1 (by omega) | exact x_rm2 (by omega)) (by first | exact Nat.le_of_ble_eq_true rfl | exact x_rm1 (by omega) | exact x_rm2 (by omega)) (by first | exact Nat.le_of_ble_eq_true rfl | exact x_rm1 (by omega) | exact x_rm2 (by omega)) (by first | exact Nat.le_of_ble_eq_true rfl | exact x_rm1 (by omega) | exact x_rm2 (by omega)) (by first | exact Nat.le_of_ble_eq_true rfl | exact x_rm1 (by omega) | exact x_rm2 (by omega)) ?_
        intro d hd
        obtain rfl := Eq.symm hd
        refine b_ifeq (t := 51) dX5_readSum_43 rfl (fun hc43 => absurd hc43 (fun hh => hh hm1)) (fun hc43 => ?_)
        refine x_bipush dX5_readSum_46 rfl ?_
        refine x_goto (t := 53) dX5_readSum_48 rfl ?_
        refine x_istore_n dX5_readSum_53 (by first | exact Nat.le_of_ble_eq_true rfl | exact x_rm1 (by omega) | exact x_rm2 (by omega)) rfl x_set_4_3 ?_
        exact gA _ ⟨by decide, by decide⟩ (if_pos hm1) (Or.inl hm1)
      · by_cases hm2 : tM (D 2) n q1 45
        · skip
          refine x_iload_n dX5_readSum_12 x_get_4_2 ?_
          refine x_sipush dX5_readSum_13 rfl ?_
          refine r_icmp_ge (t := 85) dX5_readSum_16 rfl ⟨by omega, by omega⟩ ⟨by omega, by omega⟩ (fun hc16 => absurd hc16 (by omega)) (fun hc16 => ?_)
          refine x_aload_n dX5_readSum_19 x_get_4_0 ?_
          refine x_bipush dX5_readSum_20 rfl ?_
          refine x_callV (As := [_]) dX5_readSum_22 w_5_175 (z5_mark hl hR hlb hz ⟨by decide, by decide⟩) (by assumption) (by assumption) rfl rfl (by first | exact Nat.le_of_ble_eq_true rfl | exact x_rm1 (by omega) | exact x_rm2 (by omega)) (by first | exact Nat.le_of_ble_eq_true rfl | exact x_rm1 (by omega) | exact x_rm2 (by omega)) (by first | exact Nat.le_of_ble_eq_true rfl | exact x_rm1 (by omega) | exact x_rm2 (by omega)) (by first | exact Nat.le_of_ble_eq_true rfl | exact x_rm1 (by omega) | exact x_rm2 (by omega)) (by first | exact Nat.le_of_ble_eq_true rfl | exact x_rm1 (by omega) | exact x_rm2 (by omega)) ?_
          intro d hd
          obtain rfl := Eq.symm hd
          refine b_ifne (t := 37) dX5_readSum_25 rfl (fun hc25 => absurd hc25 (hm1)) (fun hc25 => ?_)
          refine x_aload_n dX5_readSum_28 x_get_4_0 ?_
          refine x_bipush dX5_readSum_29 rfl ?_
          refine x_callV (As := [_]) dX5_readSum_31 w_5_175 (z5_mark hl hR hlb hz ⟨by decide, by decide⟩) (by assumption) (by assumption) rfl rfl (by first | exact Nat.le_of_ble_eq_true rfl | exact x_rm1 (by omega) | exact x_rm2 (by omega)) (by first | exact Nat.le_of_ble_eq_true rfl | exact x_rm1 (by omega) | exact x_rm2 (by omega)) (by first | exact Nat.le_of_ble_eq_true rfl | exact x_rm1 (by omega) | exact x_rm2 (by omega)) (by first | exact Nat.le_of_ble_eq_true rfl | exact x_rm1 (by omega) | exact x_rm2 (by omega)) (by first | exact Nat.le_of_ble_eq_true rfl | exact x_rm1 (by omega) | exact x_rm2 (by omega)) ?_
          intro d hd
          obtain rfl := Eq.symm hd
          refine b_ifeq (t := 85) dX5_readSum_34 rfl (fun hc34 => absurd hc34 (fun hh => hh hm2)) (fun hc34 => ?_)
          refine x_aload_n dX5_readSum_37 x_get_4_0 ?_
          refine x_bipush dX5_readSum_38 rfl ?_
          refine x_callV (As := [_]) dX5_readSum_40 w_5_175 (z5_mark hl hR hlb hz ⟨by decide, by decide⟩) (by assumption) (by assumption) rfl rfl (by first | exact Nat.le_of_ble_eq_true rfl | exact x_rm1 (by omega) | exact x_rm2 (by omega)) (by first | exact Nat.le_of_ble_eq_true rfl | exact x_rm1 (by omega) | exact x_rm2 (by omega)) (by first | exact Nat.le_of_ble_eq_true rfl | exact x_rm1 (by omega) | exact x_rm2 (by omega)) (by first | exact Nat.le_of_ble_eq_true rfl | exact x_rm1 (by omega) | exact x_rm2 (by omega)) (by first | exact Nat.le_of_ble_eq_true rfl | exact x_rm1 (by omega) | exact x_rm2 (by omega)) ?_
          intro d hd
          obtain rfl := Eq.symm hd
          refine b_ifeq (t := 51) dX5_readSum_43 rfl (fun hc43 => ?_) (fun hc43 => absurd hc43 (hm1))
          refine x_bipush dX5_readSum_51 rfl ?_
          refine x_istore_n dX5_readSum_53 (by first | exact Nat.le_of_ble_eq_true rfl | exact x_rm1 (by omega) | exact x_rm2 (by omega)) rfl x_set_4_3 ?_
          exact gA _ ⟨by decide, by decide⟩ (if_neg hm1) (Or.inr hm2)
        · rw [if_neg (show ¬ (fun q => tM (D 2) n q 43 ∨ tM (D 2) n q 45) q1 from fun hh => hh.elim hm1 hm2)] at hX
          refine x_iload_n dX5_readSum_12 x_get_4_2 ?_
          refine x_sipush dX5_readSum_13 rfl ?_
          refine r_icmp_ge (t := 85) dX5_readSum_16 rfl ⟨by omega, by omega⟩ ⟨by omega, by omega⟩ (fun hc16 => absurd hc16 (by omega)) (fun hc16 => ?_)
          refine x_aload_n dX5_readSum_19 x_get_4_0 ?_
          refine x_bipush dX5_readSum_20 rfl ?_
          refine x_callV (As := [_]) dX5_readSum_22 w_5_175 (z5_mark hl hR hlb hz ⟨by decide, by decide⟩) (by assumption) (by assumption) rfl rfl (by first | exact Nat.le_of_ble_eq_true rfl | exact x_rm1 (by omega) | exact x_rm2 (by omega)) (by first | exact Nat.le_of_ble_eq_true rfl | exact x_rm1 (by omega) | exact x_rm2 (by omega)) (by first | exact Nat.le_of_ble_eq_true rfl | exact x_rm1 (by omega) | exact x_rm2 (by omega)) (by first | exact Nat.le_of_ble_eq_true rfl | exact x_rm1 (by omega) | exact x_rm2 (by omega)) (by first | exact Nat.le_of_ble_eq_true rfl | exact x_rm1 (by omega) | exact x_rm2 (by omega)) ?_
          intro d hd
          obtain rfl := Eq.symm hd
          refine b_ifne (t := 37) dX5_readSum_25 rfl (fun hc25 => absurd hc25 (hm1)) (fun hc25 => ?_)
          refine x_aload_n dX5_readSum_28 x_get_4_0 ?_
          refine x_bipush dX5_readSum_29 rfl ?_
          refine x_callV (As := [_]) dX5_readSum_31 w_5_175 (z5_mark hl hR hlb hz ⟨by decide, by decide⟩) (by assumption) (by assumption) rfl rfl (by first | exact Nat.le_of_ble_eq_true rfl | exact x_rm1 (by omega) | exact x_rm2 (by omega)) (by first | exact Nat.le_of_ble_eq_true rfl | exact x_rm1 (by omega) | exact x_rm2 (by omega)) (by first | exact Nat.le_of_ble_eq_true rfl | exact x_rm1 (by omega) | exact x_rm2 (by omega)) (by first | exact Nat.le_of_ble_eq_true rfl | exact x_rm1 (by omega) | exact x_rm2 (by omega)) (by first | exact Nat.le_of_ble_eq_true rfl | exact x_rm1 (by omega) | exact x_rm2 (by omega)) ?_
          intro d hd
          obtain rfl := Eq.symm hd
          refine b_ifeq (t := 85) dX5_readSum_34 rfl (fun hc34 => ?_) (fun hc34 => absurd hc34 (hm2))
          refine x_iconst dX5_readSum_85 ?_
          exact x_zret dX5_readSum_86 rfl (by omega) (by first | exact Nat.le_of_ble_eq_true rfl | exact x_rm1 (by omega) | exact x_rm2 (by omega)) (by first | exact Nat.le_of_ble_eq_true rfl | exact x_rm1 (by omega) | exact x_rm2 (by omega)) (by rw [hX]; rfl) rfl rfl (by rw [hX]; exact hz) rfl
  have c0 := z5_sub hsub hlb hz0 (by simp; omega)
  refine x_ofW (by decide +kernel) hl (by simp [Value.category]) (by simp) ?_
  obtain ⟨r0, hf0⟩ : ∃ r, sf (D 2) q = r := ⟨_, rfl⟩
  rcases r0 with z0 | z0
  · rw [hf0] at c0
    have hX : r_bd (sf (D 2) q) (fun L q1 => r_lp (fun q => tM (D 2) n q 43 ∨ tM (D 2) n q 45) (fun q => if tM (D 2) n q 43 then -12 else -13) (tE (D 2) n) (sf (D 2)) 700 L q1) = .inl z0 := by rw [hf0]; rfl
    refine x_aload_n dX5_readSum_0 x_get_4_0 ?_
    refine x_iload_n dX5_readSum_1 x_get_4_1 ?_
    refine x_callV (As := [_]) dX5_readSum_2 w_5_199 (c0) (by assumption) (by assumption) rfl rfl (by first | exact Nat.le_of_ble_eq_true rfl | exact x_rm1 (by omega) | exact x_rm2 (by omega)) (by first | exact Nat.le_of_ble_eq_true rfl | exact x_rm1 (by omega) | exact x_rm2 (by omega)) (by first | exact Nat.le_of_ble_eq_true rfl | exact x_rm1 (by omega) | exact x_rm2 (by omega)) (by first | exact Nat.le_of_ble_eq_true rfl | exact x_rm1 (by omega) | exact x_rm2 (by omega)) (by first | exact Nat.le_of_ble_eq_true rfl | exact x_rm1 (by omega) | exact x_rm2 (by omega)) ?_
    intro d2 hd2
    refine r_if_ne (t := 10) dX5_readSum_5 rfl ⟨by show (-2147483648 : Int) ≤ 0; decide, by show (0 : Int) < 2147483648; decide⟩ (fun hc5 => absurd hc5 (by show ¬ ¬ ((0 : Int) = 0); decide)) (fun hc5 => ?_)
    refine x_iconst dX5_readSum_8 ?_
    exact x_zret dX5_readSum_9 rfl (by omega) (by first | exact Nat.le_of_ble_eq_true rfl | exact x_rm1 (by omega) | exact x_rm2 (by omega)) (by first | exact Nat.le_of_ble_eq_true rfl | exact x_rm1 (by omega) | exact x_rm2 (by omega)) (by rw [hX]; rfl) rfl rfl (by rw [hX]; exact hd2) rfl
  · rw [hf0] at c0
    have hX : r_bd (sf (D 2) q) (fun L q1 => r_lp (fun q => tM (D 2) n q 43 ∨ tM (D 2) n q 45) (fun q => if tM (D 2) n q 43 then -12 else -13) (tE (D 2) n) (sf (D 2)) 700 L q1) = r_lp (fun q => tM (D 2) n q 43 ∨ tM (D 2) n q 45) (fun q => if tM (D 2) n q 43 then -12 else -13) (tE (D 2) n) (sf (D 2)) 700 z0.1 z0.2 := by rw [hf0]; rfl
    obtain ⟨y1, y2⟩ := hlen (D 2) _ z0.1 z0.2 hqn hf0
    refine x_aload_n dX5_readSum_0 x_get_4_0 ?_
    refine x_iload_n dX5_readSum_1 x_get_4_1 ?_
    refine x_callV (As := [_]) dX5_readSum_2 w_5_199 (c0) (by assumption) (by assumption) rfl rfl (by first | exact Nat.le_of_ble_eq_true rfl | exact x_rm1 (by omega) | exact x_rm2 (by omega)) (by first | exact Nat.le_of_ble_eq_true rfl | exact x_rm1 (by omega) | exact x_rm2 (by omega)) (by first | exact Nat.le_of_ble_eq_true rfl | exact x_rm1 (by omega) | exact x_rm2 (by omega)) (by first | exact Nat.le_of_ble_eq_true rfl | exact x_rm1 (by omega) | exact x_rm2 (by omega)) (by first | exact Nat.le_of_ble_eq_true rfl | exact x_rm1 (by omega) | exact x_rm2 (by omega)) ?_
    intro d2 hd2
    have z2 : rz n lb L0 D z0.2 z0.1 d2 := by have h9 : rz n lb L0 D z0.2 ([] ++ z0.1) d2 := hd2; rwa [List.nil_append] at h9
    refine r_if_ne (t := 10) dX5_readSum_5 rfl ⟨by show (-2147483648 : Int) ≤ 1; decide, by show (1 : Int) < 2147483648; decide⟩ (fun hc5 => ?_) (fun hc5 => absurd hc5 (by show ¬ ((1 : Int) = 0); decide))
    refine x_iconst dX5_readSum_10 ?_
    refine x_istore_n dX5_readSum_11 (by first | exact Nat.le_of_ble_eq_true rfl | exact x_rm1 (by omega) | exact x_rm2 (by omega)) rfl x_set_4_2 ?_
    exact gH 700 0 rfl _ _ _ z2 (by omega) hX _
set_option maxHeartbeats 4000000 in
theorem z5_and {X : xC} {l : Launch} (hl : l.stackTraces = false) {N : Nat} {sh : xS} {lb n : Nat} (hR : is_Rd N sh lb) (hlb : 3 ≤ lb) (hL : is_L N sh lb) {dep : Nat} (hdep : 6 ≤ dep) {deep : Int} (hdr : x_r deep) {sf : (Int → Int) → Nat → Rs (List Int)} (hlen : ∀ b, r_len n (sf b)) (hsub : Cx X l N sh lb n yX5_readNot cX5_readNot 4 dep deep sf) : Cx X l N sh lb n yX5_readAnd cX5_readAnd 3 (dep + 1) deep (fun b q => r_bd (sf b q) (fun L q1 => r_lp (fun q => tW b n q 14) (fun _ => -8) (tE b n) (sf b) 700 L q1)) := by
  obtain ⟨hRN, x1, x2⟩ := id hR
  have n1 : 1 < N := by omega
  have xl := hL.2.1
  have nl : lb < N := by have := hL.1; omega
  have xru := (is_L_ru hL).2.1
  have nru : lb + 10 < N := by have := hL.1; omega
  intro D q L0 hs hu h0
  have hz0 := rz_0 hs hu
  have hqn := hs.2.1
  have hn7 := hs.1.2.1
  have hki := tK_in (b := D 2) (n := n) (q := q)
  show x_M X l yX5_readAnd cX5_readAnd 3 (some .boolean) (dep + 1) 0 0 [.ref (x_b X + 1), .int (xI deep)] false N sh D (.inl (some (.int (xI (r_o (r_bd (sf (D 2) q) (fun L q1 => r_lp (fun q => tW (D 2) n q 14) (fun _ => -8) (tE (D 2) n) (sf (D 2)) 700 L q1))))))) false N sh (r_px n lb L0 (r_bd (sf (D 2) q) (fun L q1 => r_lp (fun q => tW (D 2) n q 14) (fun _ => -8) (tE (D 2) n) (sf (D 2)) 700 L q1)) D)
  have gH : ∀ (k i : Nat), i + k = 700 → ∀ (L : List Int) (q1 : Nat) (d : xM), rz n lb L0 D q1 L d → L0.length + L.length ≤ q1 → r_bd (sf (D 2) q) (fun L q1 => r_lp (fun q => tW (D 2) n q 14) (fun _ => -8) (tE (D 2) n) (sf (D 2)) 700 L q1) = r_lp (fun q => tW (D 2) n q 14) (fun _ => -8) (tE (D 2) n) (sf (D 2)) k L q1 → x_W (X, l, yX5_readAnd, cX5_readAnd, 3, (some .boolean), x_room (dep + 1) 0 0, 0, 0, (.inl (some (.int (xI (r_o (r_bd (sf (D 2) q) (fun L q1 => r_lp (fun q => tW (D 2) n q 14) (fun _ => -8) (tE (D 2) n) (sf (D 2)) 700 L q1))))))), N, sh, (r_px n lb L0 (r_bd (sf (D 2) q) (fun L q1 => r_lp (fun q => tW (D 2) n q 14) (fun _ => -8) (tE (D 2) n) (sf (D 2)) 700 L q1)) D), false, []) 12 [some (.ref (x_b X + 1)), some (.int (xI deep)), some (.int (xI (i : Int)))] [] 0 0 false N sh d := by
    intro k
    induction k with
    | zero =>
      intro i hi L q1 d hz hln hX
      refine x_iload_n dX5_readAnd_12 x_get_3_2 ?_
      refine x_sipush dX5_readAnd_13 rfl ?_
      refine r_icmp_ge (t := 60) dX5_readAnd_16 rfl ⟨by omega, by omega⟩ ⟨by omega, by omega⟩ (fun hc16 => ?_) (fun hc16 => absurd hc16 (by omega))
      refine x_iconst dX5_readAnd_60 ?_
      exact x_zret dX5_readAnd_61 rfl (by omega) (by first | exact Nat.le_of_ble_eq_true rfl | exact x_rm1 (by omega) | exact x_rm2 (by omega)) (by first | exact Nat.le_of_ble_eq_true rfl | exact x_rm1 (by omega) | exact x_rm2 (by omega)) (by rw [hX]; rfl) rfl rfl (by rw [hX]; exact hz) rfl
    | succ k ih =>
      intro i hi L q1 d hz hln hX
      rw [r_lp_s] at hX
      have hq1 := hz.1.2.1
      have gA : (fun q => tW (D 2) n q 14) q1 → x_W (X, l, yX5_readAnd, cX5_readAnd, 3, (some .boolean), x_room (dep + 1) 0 0, 0, 0, (.inl (some (.int (xI (r_o (r_bd (sf (D 2) q) (fun L q1 => r_lp (fun q => tW (D 2) n q 14) (fun _ => -8) (tE (D 2) n) (sf (D 2)) 700 L q1))))))), N, sh, (r_px n lb L0 (r_bd (sf (D 2) q) (fun L q1 => r_lp (fun q => tW (D 2) n q 14) (fun _ => -8) (tE (D 2) n) (sf (D 2)) 700 L q1)) D), false, []) 28 [some (.ref (x_b X + 1)), some (.int (xI deep)), some (.int (xI (i : Int)))] [] 0 0 false N sh d := by
        intro ho
        rw [if_pos ho] at hX
        have hup : q1 < tE (D 2) n q1 ∧ tE (D 2) n q1 ≤ n := tW_up hq1 ho
        refine x_aload_n dX5_readAnd_28 x_get_3_0 ?_
        refine x_callV (As := []) dX5_readAnd_29 w_5_56 (z5_adv hl hR hlb hz) (by assumption) (by assumption) rfl rfl (by first | exact Nat.le_of_ble_eq_true rfl | exact x_rm1 (by omega) | exact x_rm2 (by omega)) (by first | exact Nat.le_of_ble_eq_true rfl | exact x_rm1 (by omega) | exact x_rm2 (by omega)) (by first | exact Nat.le_of_ble_eq_true rfl | exact x_rm1 (by omega) | exact x_rm2 (by omega)) (by first | exact Nat.le_of_ble_eq_true rfl | exact x_rm1 (by omega) | exact x_rm2 (by omega)) (by first | exact Nat.le_of_ble_eq_true rfl | exact x_rm1 (by omega) | exact x_rm2 (by omega)) ?_
        intro d1 z1
        have c1 := z5_sub hsub hlb z1 (by omega)
        refine x_aload_n dX5_readAnd_32 x_get_3_0 ?_
        refine x_iload_n dX5_readAnd_33 x_get_3_1 ?_
        rcases hf : sf (D 2) (tE (D 2) n q1) with z | z
        · rw [hf] at c1 hX
          refine x_callV (As := [_]) dX5_readAnd_34 w_5_186 (c1) (by assumption) (by assumption) rfl rfl (by first | exact Nat.le_of_ble_eq_true rfl | exact x_rm1 (by omega) | exact x_rm2 (by omega)) (by first | exact Nat.le_of_ble_eq_true rfl | exact x_rm1 (by omega) | exact x_rm2 (by omega)) (by first | exact Nat.le_of_ble_eq_true rfl | exact x_rm1 (by omega) | exact x_rm2 (by omega)) (by first | exact Nat.le_of_ble_eq_true rfl | exact x_rm1 (by omega) | exact x_rm2 (by omega)) (by first | exact Nat.le_of_ble_eq_true rfl | exact x_rm1 (by omega) | exact x_rm2 (by omega)) ?_
          intro d2 hd2
          refine r_if_ne (t := 42) dX5_readAnd_37 rfl ⟨by show (-2147483648 : Int) ≤ 0; decide, by show (0 : Int) < 2147483648; decide⟩ (fun hc37 => absurd hc37 (by show ¬ ¬ ((0 : Int) = 0); decide)) (fun hc37 => ?_)
          refine x_iconst dX5_readAnd_40 ?_
          exact x_zret dX5_readAnd_41 rfl (by omega) (by first | exact Nat.le_of_ble_eq_true rfl | exact x_rm1 (by omega) | exact x_rm2 (by omega)) (by first | exact Nat.le_of_ble_eq_true rfl | exact x_rm1 (by omega) | exact x_rm2 (by omega)) (by rw [hX]; rfl) rfl rfl (by rw [hX]; exact hd2) rfl
        · rw [hf] at c1 hX
          have hXi : r_bd (sf (D 2) q) (fun L q1 => r_lp (fun q => tW (D 2) n q 14) (fun _ => -8) (tE (D 2) n) (sf (D 2)) 700 L q1) = r_lp (fun q => tW (D 2) n q 14) (fun _ => -8) (tE (D 2) n) (sf (D 2)) k (L ++ z.1 ++ [-8]) z.2 := hX
          obtain ⟨y1, y2⟩ := hlen (D 2) _ z.1 z.2 hup.2 hf
          refine x_callV (As := [_]) dX5_readAnd_34 w_5_186 (c1) (by assumption) (by assumption) rfl rfl (by first | exact Nat.le_of_ble_eq_true rfl | exact x_rm1 (by omega) | exact x_rm2 (by omega)) (by first | exact Nat.le_of_ble_eq_true rfl | exact x_rm1 (by omega) | exact x_rm2 (by omega)) (by first | exact Nat.le_of_ble_eq_true rfl | exact x_rm1 (by omega) | exact x_rm2 (by omega)) (by first | exact Nat.le_of_ble_eq_true rfl | exact x_rm1 (by omega) | exact x_rm2 (by omega)) (by first | exact Nat.le_of_ble_eq_true rfl | exact x_rm1 (by omega) | exact x_rm2 (by omega)) ?_
          intro d2 hd2
          have z2 : rz n lb L0 D z.2 (L ++ z.1) d2 := hd2
          refine r_if_ne (t := 42) dX5_readAnd_37 rfl ⟨by show (-2147483648 : Int) ≤ 1; decide, by show (1 : Int) < 2147483648; decide⟩ (fun hc37 => ?_) (fun hc37 => absurd hc37 (by show ¬ ((1 : Int) = 0); decide))
          refine x_aload_n dX5_readAnd_42 x_get_3_0 ?_
          refine x_getR dX5_readAnd_43 fX_5_37 (by assumption) (by assumption) (by rfl) ?_
          refine x_getR dX5_readAnd_46 fX_5_162 (by assumption) (by assumption) (by rfl) ?_
          refine x_bipush dX5_readAnd_49 rfl ?_
          refine x_callV (As := [_]) dX5_readAnd_51 w_5_183 (z5_add hl hR hlb z2 hL ⟨by decide, by decide⟩ (by rw [List.length_append]; omega)) (by assumption) (by assumption) rfl rfl (by first | exact Nat.le_of_ble_eq_true rfl | exact x_rm1 (by omega) | exact x_rm2 (by omega)) (by first | exact Nat.le_of_ble_eq_true rfl | exact x_rm1 (by omega) | exact x_rm2 (by omega)) (by first | exact Nat.le_of_ble_eq_true rfl | exact x_rm1 (by omega) | exact x_rm2 (by omega)) (by first | exact Nat.le_of_ble_eq_true rfl | exact x_rm1 (by omega) | exact x_rm2 (by omega)) (by first | exact Nat.le_of_ble_eq_true rfl | exact x_rm1 (by omega) | exact x_rm2 (by omega)) ?_
          intro d3 z3
          refine x_iinc dX5_readAnd_54 x_get_3_2 (by first | exact Nat.le_of_ble_eq_true rfl | exact x_rm1 (by omega) | exact x_rm2 (by omega)) rfl x_set_3_2 ?_
          refine x_goto (t := 12) dX5_readAnd_57 rfl ?_
          exact ih (i + 1) (by omega) _ _ _ z3 (by rw [List.length_append, List.length_append, List.length_singleton]; omega) hXi
      by_cases hm1 : tW (D 2) n q1 14
      · skip
        refine x_iload_n dX5_readAnd_12 x_get_3_2 ?_
        refine x_sipush dX5_readAnd_13 rfl ?_
        refine r_icmp_ge (t := 60) dX5_readAnd_16 rfl ⟨by omega, by omega⟩ ⟨by omega, by omega⟩ (fun hc16 => absurd hc16 (by omega)) (fun hc16 => ?_)
        refine x_aload_n dX5_readAnd_19 x_get_3_0 ?_
        refine x_ldcS (j := 14) dX5_readAnd_20 (by decide) rfl rfl ?_
        refine x_callV (As := [_]) dX5_readAnd_22 w_5_88 (z5_word hl hR hlb hz (by decide) (by decide)) (by assumption) (by assumption) rfl rfl (by first | exact Nat.le_of_ble_eq_true rfl | exact x_rm1 (by omega) | exact x_rm2 (by omega)) (by first | exact Nat.le_of_ble_eq_true rfl | exact x_rm1 (by omega) | exact x_rm2 (by omega)) (by first | exact Nat.le_of_ble_eq_true rfl | exact x_rm1 (by omega) | exact x_rm2 (by omega)) (by first | exact Nat.le_of_ble_eq_true rfl | exact x_rm1 (by omega) | exact x_rm2 (by omega)) (by first | exact Nat.le_of_ble_eq_true rfl | exact x_rm1 (by omega) | exact x_rm2 (by omega)) ?_
        intro d hd
        obtain rfl := Eq.symm hd
        refine b_ifeq (t := 60) dX5_readAnd_25 rfl (fun hc25 => absurd hc25 (fun hh => hh hm1)) (fun hc25 => ?_)
        exact gA hm1
      · rw [if_neg (show ¬ (fun q => tW (D 2) n q 14) q1 from hm1)] at hX
        refine x_iload_n dX5_readAnd_12 x_get_3_2 ?_
        refine x_sipush dX5_readAnd_13 rfl ?_
        refine r_icmp_ge (t := 60) dX5_readAnd_16 rfl ⟨by omega, by omega⟩ ⟨by omega, by omega⟩ (fun hc16 => absurd hc16 (by omega)) (fun hc16 => ?_)
        refine x_aload_n dX5_readAnd_19 x_get_3_0 ?_
        refine x_ldcS (j := 14) dX5_readAnd_20 (by decide) rfl rfl ?_
        refine x_callV (As := [_]) dX5_readAnd_22 w_5_88 (z5_word hl hR hlb hz (by decide) (by decide)) (by assumption) (by assumption) rfl rfl (by first | exact Nat.le_of_ble_eq_true rfl | exact x_rm1 (by omega) | exact x_rm2 (by omega)) (by first | exact Nat.le_of_ble_eq_true rfl | exact x_rm1 (by omega) | exact x_rm2 (by omega)) (by first | exact Nat.le_of_ble_eq_true rfl | exact x_rm1 (by omega) | exact x_rm2 (by omega)) (by first | exact Nat.le_of_ble_eq_true rfl | exact x_rm1 (by omega) | exact x_rm2 (by omega)) (by first | exact Nat.le_of_ble_eq_true rfl | exact x_rm1 (by omega) | exact x_rm2 (by omega)) ?_
        intro d hd
        obtain rfl := Eq.symm hd
        refine b_ifeq (t := 60) dX5_readAnd_25 rfl (fun hc25 => ?_) (fun hc25 => absurd hc25 (hm1))
        refine x_iconst dX5_readAnd_60 ?_
        exact x_zret dX5_readAnd_61 rfl (by omega) (by first | exact Nat.le_of_ble_eq_true rfl | exact x_rm1 (by omega) | exact x_rm2 (by omega)) (by first | exact Nat.le_of_ble_eq_true rfl | exact x_rm1 (by omega) | exact x_rm2 (by omega)) (by rw [hX]; rfl) rfl rfl (by rw [hX]; exact hz) rfl
  have c0 := z5_sub hsub hlb hz0 (by simp; omega)
  refine x_ofW (by decide +kernel) hl (by simp [Value.category]) (by simp) ?_
  obtain ⟨r0, hf0⟩ : ∃ r, sf (D 2) q = r := ⟨_, rfl⟩
  rcases r0 with z0 | z0
  · rw [hf0] at c0
    have hX : r_bd (sf (D 2) q) (fun L q1 => r_lp (fun q => tW (D 2) n q 14) (fun _ => -8) (tE (D 2) n) (sf (D 2)) 700 L q1) = .inl z0 := by rw [hf0]; rfl
    refine x_aload_n dX5_readAnd_0 x_get_3_0 ?_
    refine x_iload_n dX5_readAnd_1 x_get_3_1 ?_
    refine x_callV (As := [_]) dX5_readAnd_2 w_5_186 (c0) (by assumption) (by assumption) rfl rfl (by first | exact Nat.le_of_ble_eq_true rfl | exact x_rm1 (by omega) | exact x_rm2 (by omega)) (by first | exact Nat.le_of_ble_eq_true rfl | exact x_rm1 (by omega) | exact x_rm2 (by omega)) (by first | exact Nat.le_of_ble_eq_true rfl | exact x_rm1 (by omega) | exact x_rm2 (by omega)) (by first | exact Nat.le_of_ble_eq_true rfl | exact x_rm1 (by omega) | exact x_rm2 (by omega)) (by first | exact Nat.le_of_ble_eq_true rfl | exact x_rm1 (by omega) | exact x_rm2 (by omega)) ?_
    intro d2 hd2
    refine r_if_ne (t := 10) dX5_readAnd_5 rfl ⟨by show (-2147483648 : Int) ≤ 0; decide, by show (0 : Int) < 2147483648; decide⟩ (fun hc5 => absurd hc5 (by show ¬ ¬ ((0 : Int) = 0); decide)) (fun hc5 => ?_)
    refine x_iconst dX5_readAnd_8 ?_
    exact x_zret dX5_readAnd_9 rfl (by omega) (by first | exact Nat.le_of_ble_eq_true rfl | exact x_rm1 (by omega) | exact x_rm2 (by omega)) (by first | exact Nat.le_of_ble_eq_true rfl | exact x_rm1 (by omega) | exact x_rm2 (by omega)) (by rw [hX]; rfl) rfl rfl (by rw [hX]; exact hd2) rfl
  · rw [hf0] at c0
    have hX : r_bd (sf (D 2) q) (fun L q1 => r_lp (fun q => tW (D 2) n q 14) (fun _ => -8) (tE (D 2) n) (sf (D 2)) 700 L q1) = r_lp (fun q => tW (D 2) n q 14) (fun _ => -8) (tE (D 2) n) (sf (D 2)) 700 z0.1 z0.2 := by rw [hf0]; rfl
    obtain ⟨y1, y2⟩ := hlen (D 2) _ z0.1 z0.2 hqn hf0
    refine x_aload_n dX5_readAnd_0 x_get_3_0 ?_
    refine x_iload_n dX5_readAnd_1 x_get_3_1 ?_
    refine x_callV (As := [_]) dX5_readAnd_2 w_5_186 (c0) (by assumption) (by assumption) rfl rfl (by first | exact Nat.le_of_ble_eq_true rfl | exact x_rm1 (by omega) | exact x_rm2 (by omega)) (by first | exact Nat.le_of_ble_eq_true rfl | exact x_rm1 (by omega) | exact x_rm2 (by omega)) (by first | exact Nat.le_of_ble_eq_true rfl | exact x_rm1 (by omega) | exact x_rm2 (by omega)) (by first | exact Nat.le_of_ble_eq_true rfl | exact x_rm1 (by omega) | exact x_rm2 (by omega)) (by first | exact Nat.le_of_ble_eq_true rfl | exact x_rm1 (by omega) | exact x_rm2 (by omega)) ?_
    intro d2 hd2
    have z2 : rz n lb L0 D z0.2 z0.1 d2 := by have h9 : rz n lb L0 D z0.2 ([] ++ z0.1) d2 := hd2; rwa [List.nil_append] at h9
    refine r_if_ne (t := 10) dX5_readAnd_5 rfl ⟨by show (-2147483648 : Int) ≤ 1; decide, by show (1 : Int) < 2147483648; decide⟩ (fun hc5 => ?_) (fun hc5 => absurd hc5 (by show ¬ ((1 : Int) = 0); decide))
    refine x_iconst dX5_readAnd_10 ?_
    refine x_istore_n dX5_readAnd_11 (by first | exact Nat.le_of_ble_eq_true rfl | exact x_rm1 (by omega) | exact x_rm2 (by omega)) rfl x_set_3_2 ?_
    exact gH 700 0 rfl _ _ _ z2 (by omega) hX
set_option maxHeartbeats 4000000 in
theorem z5_exp {X : xC} {l : Launch} (hl : l.stackTraces = false) {N : Nat} {sh : xS} {lb n : Nat} (hR : is_Rd N sh lb) (hlb : 3 ≤ lb) (hL : is_L N sh lb) {dep : Nat} (hdep : 6 ≤ dep) {deep : Int} (hdr : x_r deep) {sf : (Int → Int) → Nat → Rs (List Int)} (hlen : ∀ b, r_len n (sf b)) (hsub : Cx X l N sh lb n yX5_readAnd cX5_readAnd 3 dep deep sf) (hdp : deep < 6) : Cx X l N sh lb n yX5_readExpr cX5_readExpr 3 (dep + 1) deep (fun b q => r_bd (sf b q) (fun L q1 => r_lp (fun q => tW b n q 15) (fun _ => -7) (tE b n) (sf b) 700 L q1)) := by
  obtain ⟨hRN, x1, x2⟩ := id hR
  have n1 : 1 < N := by omega
  have xl := hL.2.1
  have nl : lb < N := by have := hL.1; omega
  have xru := (is_L_ru hL).2.1
  have nru : lb + 10 < N := by have := hL.1; omega
  intro D q L0 hs hu h0
  have hz0 := rz_0 hs hu
  have hqn := hs.2.1
  have hn7 := hs.1.2.1
  have hki := tK_in (b := D 2) (n := n) (q := q)
  show x_M X l yX5_readExpr cX5_readExpr 3 (some .boolean) (dep + 1) 0 0 [.ref (x_b X + 1), .int (xI deep)] false N sh D (.inl (some (.int (xI (r_o (r_bd (sf (D 2) q) (fun L q1 => r_lp (fun q => tW (D 2) n q 15) (fun _ => -7) (tE (D 2) n) (sf (D 2)) 700 L q1))))))) false N sh (r_px n lb L0 (r_bd (sf (D 2) q) (fun L q1 => r_lp (fun q => tW (D 2) n q 15) (fun _ => -7) (tE (D 2) n) (sf (D 2)) 700 L q1)) D)
  obtain ⟨hdr0, hdr1⟩ := id hdr
  have gH : ∀ (k i : Nat), i + k = 700 → ∀ (L : List Int) (q1 : Nat) (d : xM), rz n lb L0 D q1 L d → L0.length + L.length ≤ q1 → r_bd (sf (D 2) q) (fun L q1 => r_lp (fun q => tW (D 2) n q 15) (fun _ => -7) (tE (D 2) n) (sf (D 2)) 700 L q1) = r_lp (fun q => tW (D 2) n q 15) (fun _ => -7) (tE (D 2) n) (sf (D 2)) k L q1 → x_W (X, l, yX5_readExpr, cX5_readExpr, 3, (some .boolean), x_room (dep + 1) 0 0, 0, 0, (.inl (some (.int (xI (r_o (r_bd (sf (D 2) q) (fun L q1 => r_lp (fun q => tW (D 2) n q 15) (fun _ => -7) (tE (D 2) n) (sf (D 2)) 700 L q1))))))), N, sh, (r_px n lb L0 (r_bd (sf (D 2) q) (fun L q1 => r_lp (fun q => tW (D 2) n q 15) (fun _ => -7) (tE (D 2) n) (sf (D 2)) 700 L q1)) D), false, []) 53 [some (.ref (x_b X + 1)), some (.int (xI deep)), some (.int (xI (i : Int)))] [] 0 0 false N sh d := by
    intro k
    induction k with
    | zero =>
      intro i hi L q1 d hz hln hX
      refine x_iload_n dX5_readExpr_53 x_get_3_2 ?_
      refine x_sipush dX5_readExpr_54 rfl ?_
      refine r_icmp_ge (t := 101) dX5_readExpr_57 rfl ⟨by omega, by omega⟩ ⟨by omega, by omega⟩ (fun hc57 => ?_) (fun hc57 => absurd hc57 (by omega))
      refine x_iconst dX5_readExpr_101 ?_
      exact x_zret dX5_readExpr_102 rfl (by omega) (by first | exact Nat.le_of_ble_eq_true rfl | exact x_rm1 (by omega) | exact x_rm2 (by omega)) (by first | exact Nat.le_of_ble_eq_true rfl | exact x_rm1 (by omega) | exact x_rm2 (by omega)) (by rw [hX]; rfl) rfl rfl (by rw [hX]; exact hz) rfl
    | succ k ih =>
      intro i hi L q1 d hz hln hX
      rw [r_lp_s] at hX
      have hq1 := hz.1.2.1
      have gA : (fun q => tW (D 2) n q 15) q1 → x_W (X, l, yX5_readExpr, cX5_readExpr, 3, (some .boolean), x_room (dep + 1) 0 0, 0, 0, (.inl (some (.int (xI (r_o (r_bd (sf (D 2) q) (fun L q1 => r_lp (fun q => tW (D 2) n q 15) (fun _ => -7) (tE (D 2) n) (sf (D 2)) 700 L q1))))))), N, sh, (r_px n lb L0 (r_bd (sf (D 2) q) (fun L q1 => r_lp (fun q => tW (D 2) n q 15) (fun _ => -7) (tE (D 2) n) (sf (D 2)) 700 L q1)) D), false, []) 69 [some (.ref (x_b X + 1)), some (.int (xI deep)), some (.int (xI (i : Int)))] [] 0 0 false N sh d := by
        intro ho
        rw [if_pos ho] at hX
        have hup : q1 < tE (D 2) n q1 ∧ tE (D 2) n q1 ≤ n := tW_up hq1 ho
        refine x_aload_n dX5_readExpr_69 x_get_3_0 ?_
        refine x_callV (As := []) dX5_readExpr_70 w_5_56 (z5_adv hl hR hlb hz) (by assumption) (by assumption) rfl rfl (by first | exact Nat.le_of_ble_eq_true rfl | exact x_rm1 (by omega) | exact x_rm2 (by omega)) (by first | exact Nat.le_of_ble_eq_true rfl | exact x_rm1 (by omega) | exact x_rm2 (by omega)) (by first | exact Nat.le_of_ble_eq_true rfl | exact x_rm1 (by omega) | exact x_rm2 (by omega)) (by first | exact Nat.le_of_ble_eq_true rfl | exact x_rm1 (by omega) | exact x_rm2 (by omega)) (by first | exact Nat.le_of_ble_eq_true rfl | exact x_rm1 (by omega) | exact x_rm2 (by omega)) ?_
        intro d1 z1
        have c1 := z5_sub hsub hlb z1 (by omega)
        refine x_aload_n dX5_readExpr_73 x_get_3_0 ?_
        refine x_iload_n dX5_readExpr_74 x_get_3_1 ?_
        rcases hf : sf (D 2) (tE (D 2) n q1) with z | z
        · rw [hf] at c1 hX
          refine x_callV (As := [_]) dX5_readExpr_75 w_5_178 (c1) (by assumption) (by assumption) rfl rfl (by first | exact Nat.le_of_ble_eq_true rfl | exact x_rm1 (by omega) | exact x_rm2 (by omega)) (by first | exact Nat.le_of_ble_eq_true rfl | exact x_rm1 (by omega) | exact x_rm2 (by omega)) (by first | exact Nat.le_of_ble_eq_true rfl | exact x_rm1 (by omega) | exact x_rm2 (by omega)) (by first | exact Nat.le_of_ble_eq_true rfl | exact x_rm1 (by omega) | exact x_rm2 (by omega)) (by first | exact Nat.le_of_ble_eq_true rfl | exact x_rm1 (by omega) | exact x_rm2 (by omega)) ?_
          intro d2 hd2
          refine r_if_ne (t := 83) dX5_readExpr_78 rfl ⟨by show (-2147483648 : Int) ≤ 0; decide, by show (0 : Int) < 2147483648; decide⟩ (fun hc78 => absurd hc78 (by show ¬ ¬ ((0 : Int) = 0); decide)) (fun hc78 => ?_)
          refine x_iconst dX5_readExpr_81 ?_
          exact x_zret dX5_readExpr_82 rfl (by omega) (by first | exact Nat.le_of_ble_eq_true rfl | exact x_rm1 (by omega) | exact x_rm2 (by omega)) (by first | exact Nat.le_of_ble_eq_true rfl | exact x_rm1 (by omega) | exact x_rm2 (by omega)) (by rw [hX]; rfl) rfl rfl (by rw [hX]; exact hd2) rfl
        · rw [hf] at c1 hX
          have hXi : r_bd (sf (D 2) q) (fun L q1 => r_lp (fun q => tW (D 2) n q 15) (fun _ => -7) (tE (D 2) n) (sf (D 2)) 700 L q1) = r_lp (fun q => tW (D 2) n q 15) (fun _ => -7) (tE (D 2) n) (sf (D 2)) k (L ++ z.1 ++ [-7]) z.2 := hX
          obtain ⟨y1, y2⟩ := hlen (D 2) _ z.1 z.2 hup.2 hf
          refine x_callV (As := [_]) dX5_readExpr_75 w_5_178 (c1) (by assumption) (by assumption) rfl rfl (by first | exact Nat.le_of_ble_eq_true rfl | exact x_rm1 (by omega) | exact x_rm2 (by omega)) (by first | exact Nat.le_of_ble_eq_true rfl | exact x_rm1 (by omega) | exact x_rm2 (by omega)) (by first | exact Nat.le_of_ble_eq_true rfl | exact x_rm1 (by omega) | exact x_rm2 (by omega)) (by first | exact Nat.le_of_ble_eq_true rfl | exact x_rm1 (by omega) | exact x_rm2 (by omega)) (by first | exact Nat.le_of_ble_eq_true rfl | exact x_rm1 (by omega) | exact x_rm2 (by omega)) ?_
          intro d2 hd2
          have z2 : rz n lb L0 D z.2 (L ++ z.1) d2 := hd2
          refine r_if_ne (t := 83) dX5_readExpr_78 rfl ⟨by show (-2147483648 : Int) ≤ 1; decide, by show (1 : Int) < 2147483648; decide⟩ (fun hc78 => ?_) (fun hc78 => absurd hc78 (by show ¬ ((1 : Int) = 0); decide))
          refine x_aload_n dX5_readExpr_83 x_get_3_0 ?_
          refine x_getR dX5_readExpr_84 fX_5_37 (by assumption) (by assumption) (by rfl) ?_
          refine x_getR dX5_readExpr_87 fX_5_162 (by assumption) (by assumption) (by rfl) ?_
          refine x_bipush dX5_readExpr_90 rfl ?_
          refine x_callV (As := [_]) dX5_readExpr_92 w_5_183 (z5_add hl hR hlb z2 hL ⟨by decide, by decide⟩ (by rw [List.length_append]; omega)) (by assumption) (by assumption) rfl rfl (by first | exact Nat.le_of_ble_eq_true rfl | exact x_rm1 (by omega) | exact x_rm2 (by omega)) (by first | exact Nat.le_of_ble_eq_true rfl | exact x_rm1 (by omega) | exact x_rm2 (by omega)) (by first | exact Nat.le_of_ble_eq_true rfl | exact x_rm1 (by omega) | exact x_rm2 (by omega)) (by first | exact Nat.le_of_ble_eq_true rfl | exact x_rm1 (by omega) | exact x_rm2 (by omega)) (by first | exact Nat.le_of_ble_eq_true rfl | exact x_rm1 (by omega) | exact x_rm2 (by omega)) ?_
          intro d3 z3
          refine x_iinc dX5_readExpr_95 x_get_3_2 (by first | exact Nat.le_of_ble_eq_true rfl | exact x_rm1 (by omega) | exact x_rm2 (by omega)) rfl x_set_3_2 ?_
          refine x_goto (t := 53) dX5_readExpr_98 rfl ?_
          exact ih (i + 1) (by omega) _ _ _ z3 (by rw [List.length_append, List.length_append, List.length_singleton]; omega) hXi
      by_cases hm1 : tW (D 2) n q1 15
      · skip
        refine x_iload_n dX5_readExpr_53 x_get_3_2 ?_
        refine x_sipush dX5_readExpr_54 rfl ?_
        refine r_icmp_ge (t := 101) dX5_readExpr_57 rfl ⟨by omega, by omega⟩ ⟨by omega, by omega⟩ (fun hc57 => absurd hc57 (by omega)) (fun hc57 => ?_)
        refine x_aload_n dX5_readExpr_60 x_get_3_0 ?_
        refine x_ldcS (j := 15) dX5_readExpr_61 (by decide) rfl rfl ?_
        refine x_callV (As := [_]) dX5_readExpr_63 w_5_88 (z5_word hl hR hlb hz (by decide) (by decide)) (by assumption) (by assumption) rfl rfl (by first | exact Nat.le_of_ble_eq_true rfl | exact x_rm1 (by omega) | exact x_rm2 (by omega)) (by first | exact Nat.le_of_ble_eq_true rfl | exact x_rm1 (by omega) | exact x_rm2 (by omega)) (by first | exact Nat.le_of_ble_eq_true rfl | exact x_rm1 (by omega) | exact x_rm2 (by omega)) (by first | exact Nat.le_of_ble_eq_true rfl | exact x_rm1 (by omega) | exact x_rm2 (by omega)) (by first | exact Nat.le_of_ble_eq_true rfl | exact x_rm1 (by omega) | exact x_rm2 (by omega)) ?_
        intro d hd
        obtain rfl := Eq.symm hd
        refine b_ifeq (t := 101) dX5_readExpr_66 rfl (fun hc66 => absurd hc66 (fun hh => hh hm1)) (fun hc66 => ?_)
        exact gA hm1
      · rw [if_neg (show ¬ (fun q => tW (D 2) n q 15) q1 from hm1)] at hX
        refine x_iload_n dX5_readExpr_53 x_get_3_2 ?_
        refine x_sipush dX5_readExpr_54 rfl ?_
        refine r_icmp_ge (t := 101) dX5_readExpr_57 rfl ⟨by omega, by omega⟩ ⟨by omega, by omega⟩ (fun hc57 => absurd hc57 (by omega)) (fun hc57 => ?_)
        refine x_aload_n dX5_readExpr_60 x_get_3_0 ?_
        refine x_ldcS (j := 15) dX5_readExpr_61 (by decide) rfl rfl ?_
        refine x_callV (As := [_]) dX5_readExpr_63 w_5_88 (z5_word hl hR hlb hz (by decide) (by decide)) (by assumption) (by assumption) rfl rfl (by first | exact Nat.le_of_ble_eq_true rfl | exact x_rm1 (by omega) | exact x_rm2 (by omega)) (by first | exact Nat.le_of_ble_eq_true rfl | exact x_rm1 (by omega) | exact x_rm2 (by omega)) (by first | exact Nat.le_of_ble_eq_true rfl | exact x_rm1 (by omega) | exact x_rm2 (by omega)) (by first | exact Nat.le_of_ble_eq_true rfl | exact x_rm1 (by omega) | exact x_rm2 (by omega)) (by first | exact Nat.le_of_ble_eq_true rfl | exact x_rm1 (by omega) | exact x_rm2 (by omega)) ?_
        intro d hd
        obtain rfl := Eq.symm hd
        refine b_ifeq (t := 101) dX5_readExpr_66 rfl (fun hc66 => ?_) (fun hc66 => absurd hc66 (hm1))
        refine x_iconst dX5_readExpr_101 ?_
        exact x_zret dX5_readExpr_102 rfl (by omega) (by first | exact Nat.le_of_ble_eq_true rfl | exact x_rm1 (by omega) | exact x_rm2 (by omega)) (by first | exact Nat.le_of_ble_eq_true rfl | exact x_rm1 (by omega) | exact x_rm2 (by omega)) (by rw [hX]; rfl) rfl rfl (by rw [hX]; exact hz) rfl
  have c0 := z5_sub hsub hlb hz0 (by simp; omega)
  refine x_ofW (by decide +kernel) hl (by simp [Value.category]) (by simp) ?_
  obtain ⟨r0, hf0⟩ : ∃ r, sf (D 2) q = r := ⟨_, rfl⟩
  rcases r0 with z0 | z0
  · rw [hf0] at c0
    have hX : r_bd (sf (D 2) q) (fun L q1 => r_lp (fun q => tW (D 2) n q 15) (fun _ => -7) (tE (D 2) n) (sf (D 2)) 700 L q1) = .inl z0 := by rw [hf0]; rfl
    refine x_iload_n dX5_readExpr_0 x_get_3_1 ?_
    refine x_bipush dX5_readExpr_1 rfl ?_
    refine r_icmp_lt (t := 41) dX5_readExpr_3 rfl ⟨by omega, by omega⟩ ⟨by omega, by omega⟩ (fun hc3 => ?_) (fun hc3 => absurd hc3 (by omega))
    refine x_aload_n dX5_readExpr_41 x_get_3_0 ?_
    refine x_iload_n dX5_readExpr_42 x_get_3_1 ?_
    refine x_callV (As := [_]) dX5_readExpr_43 w_5_178 (c0) (by assumption) (by assumption) rfl rfl (by first | exact Nat.le_of_ble_eq_true rfl | exact x_rm1 (by omega) | exact x_rm2 (by omega)) (by first | exact Nat.le_of_ble_eq_true rfl | exact x_rm1 (by omega) | exact x_rm2 (by omega)) (by first | exact Nat.le_of_ble_eq_true rfl | exact x_rm1 (by omega) | exact x_rm2 (by omega)) (by first | exact Nat.le_of_ble_eq_true rfl | exact x_rm1 (by omega) | exact x_rm2 (by omega)) (by first | exact Nat.le_of_ble_eq_true rfl | exact x_rm1 (by omega) | exact x_rm2 (by omega)) ?_
    intro d2 hd2
    refine r_if_ne (t := 51) dX5_readExpr_46 rfl ⟨by show (-2147483648 : Int) ≤ 0; decide, by show (0 : Int) < 2147483648; decide⟩ (fun hc46 => absurd hc46 (by show ¬ ¬ ((0 : Int) = 0); decide)) (fun hc46 => ?_)
    refine x_iconst dX5_readExpr_49 ?_
    exact x_zret dX5_readExpr_50 rfl (by omega) (by first | exact Nat.le_of_ble_eq_true rfl | exact x_rm1 (by omega) | exact x_rm2 (by omega)) (by first | exact Nat.le_of_ble_eq_true rfl | exact x_rm1 (by omega) | exact x_rm2 (by omega)) (by rw [hX]; rfl) rfl rfl (by rw [hX]; exact hd2) rfl
  · rw [hf0] at c0
    have hX : r_bd (sf (D 2) q) (fun L q1 => r_lp (fun q => tW (D 2) n q 15) (fun _ => -7) (tE (D 2) n) (sf (D 2)) 700 L q1) = r_lp (fun q => tW (D 2) n q 15) (fun _ => -7) (tE (D 2) n) (sf (D 2)) 700 z0.1 z0.2 := by rw [hf0]; rfl
    obtain ⟨y1, y2⟩ := hlen (D 2) _ z0.1 z0.2 hqn hf0
    refine x_iload_n dX5_readExpr_0 x_get_3_1 ?_
    refine x_bipush dX5_readExpr_1 rfl ?_
    refine r_icmp_lt (t := 41) dX5_readExpr_3 rfl ⟨by omega, by omega⟩ ⟨by omega, by omega⟩ (fun hc3 => ?_) (fun hc3 => absurd hc3 (by omega))
    refine x_aload_n dX5_readExpr_41 x_get_3_0 ?_
    refine x_iload_n dX5_readExpr_42 x_get_3_1 ?_
    refine x_callV (As := [_]) dX5_readExpr_43 w_5_178 (c0) (by assumption) (by assumption) rfl rfl (by first | exact Nat.le_of_ble_eq_true rfl | exact x_rm1 (by omega) | exact x_rm2 (by omega)) (by first | exact Nat.le_of_ble_eq_true rfl | exact x_rm1 (by omega) | exact x_rm2 (by omega)) (by first | exact Nat.le_of_ble_eq_true rfl | exact x_rm1 (by omega) | exact x_rm2 (by omega)) (by first | exact Nat.le_of_ble_eq_true rfl | exact x_rm1 (by omega) | exact x_rm2 (by omega)) (by first | exact Nat.le_of_ble_eq_true rfl | exact x_rm1 (by omega) | exact x_rm2 (by omega)) ?_
    intro d2 hd2
    have z2 : rz n lb L0 D z0.2 z0.1 d2 := by have h9 : rz n lb L0 D z0.2 ([] ++ z0.1) d2 := hd2; rwa [List.nil_append] at h9
    refine r_if_ne (t := 51) dX5_readExpr_46 rfl ⟨by show (-2147483648 : Int) ≤ 1; decide, by show (1 : Int) < 2147483648; decide⟩ (fun hc46 => ?_) (fun hc46 => absurd hc46 (by show ¬ ((1 : Int) = 0); decide))
    refine x_iconst dX5_readExpr_51 ?_
    refine x_istore_n dX5_readExpr_52 (by first | exact Nat.le_of_ble_eq_true rfl | exact x_rm1 (by omega) | exact x_rm2 (by omega)) rfl x_set_3_2 ?_
    exact gH 700 0 rfl _ _ _ z2 (by omega) hX
end C994
