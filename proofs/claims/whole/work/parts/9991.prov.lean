section C9991
/-! ===== province ===== -/
theorem r_num_q {b : Int → Int} {n q : Nat} {lo hi : Int} {z : Int × Nat} (hq : q ≤ n) (h : r_num b n lo hi q = .inr z) : q < z.2 ∧ z.2 ≤ n := by
  unfold r_num at h
  by_cases h3 : tK b n q = 3
  · rw [if_pos h3] at h
    by_cases h4 : ¬ tL b n q ∧ lo ≤ tV b n q ∧ tV b n q ≤ hi
    · rw [if_pos h4] at h
      cases h
      exact tE_w hq (by omega)
    · rw [if_neg h4] at h; cases h
  · rw [if_neg h3] at h; cases h
theorem r_plc_q {b : Int → Int} {n T q : Nat} {z : Int × Nat} (hq : q ≤ n) (h : r_plc b n T q = .inr z) : q < z.2 ∧ z.2 ≤ n := by
  unfold r_plc at h
  by_cases h3 : tK b n q = 3
  · rw [if_pos h3] at h
    by_cases h4 : tL b n q
    · rw [if_pos h4] at h; cases h
    · rw [if_neg h4] at h
      by_cases h5 : tV b n q < T
      · rw [if_pos h5] at h; cases h; exact tE_w hq (by omega)
      · rw [if_neg h5] at h; cases h
  · rw [if_neg h3] at h; cases h
theorem r_ln1_q {b : Int → Int} {n lb q q2 : Nat} {S S2 : Tx} (hq : q ≤ n) (h : r_ln1 b n lb S q = .inr (S2, q2)) : q < q2 ∧ q2 ≤ n := by
  unfold r_ln1 at h
  by_cases h1 : tW b n q 1
  · rw [if_pos h1] at h
    obtain ⟨y, y1, y2⟩ := r_bd_inr h
    cases y2
    have hu := tW_up hq h1
    unfold r_twn at y1
    by_cases h8 : 8 ≤ (S.1 lb 0).toNat
    · rw [if_pos h8] at y1; cases y1
    rw [if_neg h8] at y1
    obtain ⟨p1, f1, g1⟩ := r_bd_inr y1
    obtain ⟨p2, f2, g2⟩ := r_bd_inr g1
    obtain ⟨p3, f3, g3⟩ := r_bd_inr g2
    obtain ⟨p4, f4, g4⟩ := r_bd_inr g3
    have k1 := r_num_q hu.2 f1
    have k2 := r_num_q k1.2 f2
    have k3 := r_num_q k2.2 f3
    have k4 := r_num_q k3.2 f4
    cases g4
    exact ⟨by omega, k4.2⟩
  rw [if_neg h1] at h
  by_cases h2 : tW b n q 2
  · rw [if_pos h2] at h
    obtain ⟨y, y1, y2⟩ := r_bd_inr h
    cases y2
    have hu := tW_up hq h2
    unfold r_way at y1
    by_cases h8 : 12 ≤ (S.1 (lb + 3) 0).toNat
    · rw [if_pos h8] at y1; cases y1
    rw [if_neg h8] at y1
    obtain ⟨p1, f1, g1⟩ := r_bd_inr y1
    by_cases hj : r_jn b n (S.1 lb 0).toNat (S.1 (lb + 3) 0).toNat (S.1 (lb + 3 + 1)) (S.1 (lb + 3 + 2)) p1.1 p1.2
    · rw [if_pos hj] at g1; cases g1
    rw [if_neg hj] at g1
    obtain ⟨p2, f2, g2⟩ := r_bd_inr g1
    obtain ⟨p3, f3, g3⟩ := r_bd_inr g2
    obtain ⟨p4, f4, g4⟩ := r_bd_inr g3
    have k1 := r_plc_q hu.2 f1
    have k2 := r_plc_q k1.2 f2
    have k3 := r_num_q k2.2 f3
    have k4 := r_num_q k3.2 f4
    cases g4
    exact ⟨by omega, k4.2⟩
  rw [if_neg h2] at h
  by_cases h3 : tW b n q 3 ∨ tW b n q 4
  · rw [if_pos h3] at h
    obtain ⟨y, y1, y2⟩ := r_bd_inr h
    cases y2
    have hu : q < tE b n q ∧ tE b n q ≤ n := h3.elim (tW_up hq) (tW_up hq)
    unfold r_crt at y1
    by_cases h8 : 10 ≤ (S.1 lb 1).toNat
    · rw [if_pos h8] at y1; cases y1
    rw [if_neg h8] at y1
    obtain ⟨p1, f1, g1⟩ := r_bd_inr y1
    obtain ⟨p2, f2, g2⟩ := r_bd_inr g1
    have k1 := r_num_q hu.2 f1
    have k2 := r_plc_q k1.2 f2
    have e2 : y.2 = if tW b n p2.2 5 then tE b n p2.2 else p2.2 := by cases g2; rfl
    by_cases hc : tW b n p2.2 5
    · rw [if_pos hc] at e2
      have k3 := tW_up k2.2 hc
      show q < y.2 ∧ y.2 ≤ n
      rw [e2]; exact ⟨by omega, k3.2⟩
    · rw [if_neg hc] at e2
      show q < y.2 ∧ y.2 ≤ n
      rw [e2]; exact ⟨by omega, k2.2⟩
  rw [if_neg h3] at h
  by_cases h6 : tW b n q 6
  · rw [if_pos h6] at h
    have hu := tW_up hq h6
    unfold r_ods at h
    by_cases ht : S.2.isSome = true
    · rw [if_pos ht] at h; cases h
    · rw [if_neg ht] at h
      obtain ⟨y, y1, y2⟩ := r_bd_inr h
      have k1 := r_exp_len 6 _ y.1 y.2 hu.2 y1
      cases y2
      exact ⟨by omega, k1.2⟩
  · rw [if_neg h6] at h; cases h
theorem r_lin_q {b : Int → Int} {n lb q : Nat} {S : Tx} {z : Tx × Nat} (hq : q ≤ n) (h : r_lin b n lb S q = .inr z) : q < z.2 ∧ z.2 ≤ n := by
  obtain ⟨q1, e1, e2, e3⟩ := r_lin_inr h
  have k1 := r_ln1_q hq e1
  have k2 := tM_up k1.2 e2
  rw [e3]
  exact ⟨by omega, k2.2⟩
theorem so_txt {b : Int → Int} {n lb : Nat} : ∀ (k : Nat) (S : Tx) (q : Nat) (z : Tx × Nat), q ≤ n → so b n S → r_txt b n lb k S q = .inr z → so b n z.1
  | 0, S, q, z, hq, hs, h => by cases h; exact hs
  | k + 1, S, q, z, hq, hs, h => by
    rw [r_txt_s] at h
    by_cases h0 : tK b n q = 0
    · rw [if_pos h0] at h; cases h; exact hs
    · rw [if_neg h0] at h
      obtain ⟨y, y1, y2⟩ := r_bd_inr h
      obtain ⟨q1, e1, e2, e3⟩ := r_lin_inr y1
      exact so_txt k y.1 y.2 z (r_lin_q hq y1).2 (so_ln1 hq hs e1) y2
def x_sw (sh : xS) (la lb : Nat) : xS := x_sp (x_sp sh 1 (.inr (5, [2 + 3, 0, 0, 0, 0, 0, 0, la + 3, 0, 0]))) 0 (.inr (11, [1 + 3, 0, lb + 3, 33 + 3, 35 + 3, 37 + 3, 39 + 3, 0, 43 + 3, 45 + 3, 47 + 3, 51 + 3, 60 + 3, 61 + 3, 0]))
theorem x_sw_n {sh : xS} {la lb j : Nat} (h0 : j ≠ 0) (h1 : j ≠ 1) : x_sw sh la lb j = sh j := by unfold x_sw; rw [x_sp_n h0, x_sp_n h1]
theorem sw_L {N : Nat} {sh : xS} {la lb c : Nat} (hc : 3 ≤ c) (h : is_L N sh c) : is_L N (x_sw sh la lb) c := by
  unfold is_L at h ⊢
  rw [x_sw_n (show c ≠ 0 by omega) (by omega), x_sw_n (show c + 1 ≠ 0 by omega) (by omega), x_sw_n (show c + 2 ≠ 0 by omega) (by omega), x_sw_n (show c + 3 ≠ 0 by omega) (by omega), x_sw_n (show c + 4 ≠ 0 by omega) (by omega), x_sw_n (show c + 5 ≠ 0 by omega) (by omega), x_sw_n (show c + 6 ≠ 0 by omega) (by omega), x_sw_n (show c + 7 ≠ 0 by omega) (by omega), x_sw_n (show c + 8 ≠ 0 by omega) (by omega), x_sw_n (show c + 9 ≠ 0 by omega) (by omega), x_sw_n (show c + 10 ≠ 0 by omega) (by omega), x_sw_n (show c + 11 ≠ 0 by omega) (by omega), x_sw_n (show c + 12 ≠ 0 by omega) (by omega), x_sw_n (show c + 13 ≠ 0 by omega) (by omega), x_sw_n (show c + 14 ≠ 0 by omega) (by omega)]
  exact h
theorem sw_X {N : Nat} {sh : xS} {la lb : Nat} (h : is_X N sh la lb) : is_X N (x_sw sh la lb) lb la := by
  obtain ⟨hN, x0, x1, x2, xla, xlb, x33, x35, x37, x39, x43, x45, x47, x51, x60, x61, hll⟩ := h
  have hs : ∀ {r a : Nat}, 2 ≤ r → 2 ≤ a → is_St N sh r a → is_St N (x_sw sh la lb) r a := fun h1 h2 h => by unfold is_St at h ⊢; rw [x_sw_n (by omega) (by omega), x_sw_n (by omega) (by omega)]; exact h
  have ha : ∀ {r a : Nat}, 2 ≤ r → 2 ≤ a → is_Ac N sh r a → is_Ac N (x_sw sh la lb) r a := fun h1 h2 h => by unfold is_Ac at h ⊢; rw [x_sw_n (by omega) (by omega), x_sw_n (by omega) (by omega)]; exact h
  have he : ∀ {r : Nat}, 2 ≤ r → is_Se N sh r → is_Se N (x_sw sh la lb) r := fun h1 h => by unfold is_Se at h ⊢; rw [x_sw_n (by omega) (by omega), x_sw_n (by omega) (by omega), x_sw_n (by omega) (by omega), x_sw_n (by omega) (by omega)]; exact h
  refine ⟨hN, by unfold x_sw; rw [x_sp_s], by unfold x_sw; rw [x_sp_n (by decide), x_sp_s], by rw [x_sw_n (by decide) (by decide)]; exact x2, sw_L (by omega) xlb, sw_L (by omega) xla, hs (by decide) (by decide) x33, hs (by decide) (by decide) x35, ha (by decide) (by decide) x37, he (by decide) x39, hs (by decide) (by decide) x43, ha (by decide) (by decide) x45, he (by decide) x47, ?_, by rw [x_sw_n (by decide) (by decide)]; exact x60, by rw [x_sw_n (by decide) (by decide)]; exact x61, by omega⟩
  unfold is_Co at x51 ⊢
  obtain ⟨c0, c1, c2, c3, c4, c5, c6, c7⟩ := x51
  refine ⟨c0, ?_, ?_, ?_, ?_, ?_, hs (by decide) (by decide) c6, hs (by decide) (by decide) c7⟩
  all_goals (rw [x_sw_n (by decide) (by decide)]; assumption)
/-- what a text that was read has made of the class -/
def pvq (N : Nat) (sh : xS) (D : xM) (la lb : Nat) (S : Tx) (d : xM) : Prop :=
  (∃ ss : Int → Int, (∀ i : Nat, i < (S.2.getD []).length → ss i = (S.2.getD []).getD i 0) ∧ cq N (x_sw sh la lb) d lb la (S.1 lb 0).toNat (S.1 lb 1).toNat (S.1 (lb + 3) 0).toNat (S.1 (lb + 1), S.1 (lb + 2), o_odds (x_B (S.2.isSome = true)) (x_B (-6 ∈ S.2.getD [])) ss (S.2.getD []).length (S.1 (lb + 1)) (S.1 (lb + 2)) (S.1 lb 1).toNat))
  ∧ d 34 = S.1 (lb + 14) ∧ acts d 37 38 [] ∧ seen d 39 [] ∧ d 0 = x_u1 (x_u1 (x_u1 (D 0) 1 0) 14 (-1)) 7 0
  ∧ (∀ j, lb + 3 < j → j < lb + 8 → d j = S.1 j) ∧ d (lb + 3 + 5) = m_fw 1000000 (S.1 (lb + 3 + 1)) (S.1 (lb + 3 + 2)) (S.1 (lb + 3 + 3)) (S.1 (lb + 3) 0).toNat (S.1 lb 0).toNat
  ∧ d (lb + 3 + 6) = m_fw 1000000 (S.1 (lb + 3 + 1)) (S.1 (lb + 3 + 2)) (fun w => S.1 (lb + 3 + 3) w * S.1 (lb + 3 + 4) w) (S.1 (lb + 3) 0).toNat (S.1 lb 0).toNat
  ∧ ∀ j, j ≠ 0 → j ≠ 1 → j ≠ 34 → j ≠ 37 → j ≠ 39 → (j < lb ∨ lb + 14 < j) → d j = D j
abbrev pv0 (D : xM) : xM := x_up D 0 (x_u1 (D 0) 1 0)
theorem w_11_96 : x_cv RX11 96 yX5_read cX5_read 4 (none) 5 1 := ⟨⟨_, rfl, rfl⟩, (x_in 662 (by decide +kernel) rfl), (x_in 663 (by decide +kernel) rfl), (x_in 664 (by decide +kernel) rfl), (x_in 81 (by decide +kernel) rfl), (x_in 665 (by decide +kernel) rfl), by decide, ⟨by decide +kernel, by decide +kernel, by decide +kernel⟩⟩
theorem c11_provT {X : xC} {l : Launch} (hl : l.stackTraces = false) {N : Nat} {sh : xS} {D : xM} {la lb T C W : Nat} {G : Ldt} (hq : cq N sh D la lb T C W G) {n : Int} (hnr : x_r n) {k : Nat} (hk7 : k ≤ 700) (hkt : D 0 1 = k) (h : ¬ (0 ≤ n ∧ n ≤ k)) : x_M X l yX11_province cX11_province 3 (some .int) 53 1 6 [.ref (x_b X + 0), .int (xI n)] false N sh D (.inr x_IAE) false N sh (sc la D) := by
  obtain ⟨hX, hG, hR, ⟨hk, hd9, hpl⟩, hco⟩ := id hq
  obtain ⟨hN, x0, x1, x2, xla, xlb, x33, x35, x37, x39, x43, x45, x47, x51, x60, x61, hll⟩ := id hX
  have hla : la = 3 ∨ la = 18 := by omega
  have n0 : 0 < N := by omega
  have n1 : 1 < N := by omega
  have n2 : 2 < N := by omega
  have n33 : 33 < N := by omega
  have n34 : 34 < N := by omega
  have n35 : 35 < N := by omega
  have n36 : 36 < N := by omega
  have n37 : 37 < N := by omega
  have n38 : 38 < N := by omega
  have n39 : 39 < N := by omega
  have n40 : 40 < N := by omega
  have n41 : 41 < N := by omega
  have n42 : 42 < N := by omega
  have n43 : 43 < N := by omega
  have n45 : 45 < N := by omega
  have n47 : 47 < N := by omega
  have n51 : 51 < N := by omega
  have n60 : 60 < N := by omega
  have n61 : 61 < N := by omega
  have x33a := x33.2.1
  have x34 := x33.2.2.2
  have x35a := x35.2.1
  have x36 := x35.2.2.2
  have x37a := x37.2.1
  have x38 := x37.2.2.2
  have x39a := x39.2.1
  have x43a := x43.2.1
  have x45a := x45.2.1
  have x47a := x47.2.1
  have x51a := x51.2.1
  have xla0 := xla.2.1
  have xla1 := xla.2.2.1
  have xla2 := xla.2.2.2.1
  have hlaN : la < N := by have := xla.1; omega
  have hlaN1 : la + 1 < N := by have := xla.1; omega
  have hlaN2 : la + 2 < N := by have := xla.1; omega
  have hlaN3 : la + 3 < N := by have := xla.1; omega
  have hlaN10 : la + 10 < N := by have := xla.1; omega
  have xru := (is_L_ru xla).2.1
  have xro := (is_L_ro xla).2.1
  obtain ⟨hG1, hG2, hG3⟩ := ldG_G hG
  obtain ⟨n0', ⟨gT, gTb, gC, gCb, -⟩, -⟩ := id hG
  obtain ⟨rW, rWb, rT, -, ro1, ro2, ro3, ro4, ro5, ro6⟩ := id hR
  have hd0 : 0 ≤ D 34 0 := ((hk 0).1 rfl).1
  have hB : 161 * D 34 0 ≤ 160839 := by omega
  have hsc := sc_refl hG hco
  obtain ⟨hnr0, hnr1⟩ := id hnr
  refine x_ofW (by decide +kernel) hl (by simp [Value.category]) (by simp) ?_
  by_cases h0 : n < 0
  · skip
    refine x_iload_n dX11_province_0 x_get_3_1 ?_
    refine r_if_lt (t := 12) dX11_province_1 rfl ⟨by omega, by omega⟩ (fun hc1 => ?_) (fun hc1 => absurd hc1 (by omega))
    exact x_throw 0 (by decide) tw_IAE rfl dX11_province_12 dX11_province_15 dX11_province_16 dX11_province_18 dX11_province_21 (Nat.le_of_ble_eq_true rfl) (Nat.le_of_ble_eq_true rfl) (Nat.le_of_ble_eq_true rfl) (Nat.le_of_ble_eq_true rfl) rfl rfl rfl rfl hsc rfl (Nat.le_of_ble_eq_true rfl) (Nat.le_of_ble_eq_true rfl)
  · skip
    refine x_iload_n dX11_province_0 x_get_3_1 ?_
    refine r_if_lt (t := 12) dX11_province_1 rfl ⟨by omega, by omega⟩ (fun hc1 => absurd hc1 (by omega)) (fun hc1 => ?_)
    refine x_iload_n dX11_province_4 x_get_3_1 ?_
    refine x_aload_n dX11_province_5 x_get_3_0 ?_
    refine x_getI 1 dX11_province_6 fX_11_16 rfl (by assumption) (by assumption) (by rfl) ?_
    rw [hkt]
    refine r_icmp_le (t := 22) dX11_province_9 rfl ⟨by omega, by omega⟩ ⟨by omega, by omega⟩ (fun hc9 => absurd hc9 (by omega)) (fun hc9 => ?_)
    exact x_throw 0 (by decide) tw_IAE rfl dX11_province_12 dX11_province_15 dX11_province_16 dX11_province_18 dX11_province_21 (Nat.le_of_ble_eq_true rfl) (Nat.le_of_ble_eq_true rfl) (Nat.le_of_ble_eq_true rfl) (Nat.le_of_ble_eq_true rfl) rfl rfl rfl rfl hsc rfl (Nat.le_of_ble_eq_true rfl) (Nat.le_of_ble_eq_true rfl)
set_option maxHeartbeats 4000000 in
theorem c11_provF {X : xC} {l : Launch} (hl : l.stackTraces = false) {N : Nat} {sh : xS} {D : xM} {la lb T C W : Nat} {G : Ldt} (hq : cq N sh D la lb T C W G) {n k : Nat} (hk7 : k ≤ 700) (hkt : D 0 1 = k) (hnk : n ≤ k) (hbt : ∀ j, -128 ≤ D 2 j ∧ D 2 j ≤ 127) (hlw : lw D lb) {z : Int × Nat} (hz : r_all (D 2) n lb (pv0 D) = .inl z) : x_M X l yX11_province cX11_province 3 (some .int) 53 1 6 [.ref (x_b X + 0), .int (xI (n : Int))] false N sh D (o_i z.1) false N sh (fun d => d 0 = x_u1 (x_u1 (D 0) 1 0) 14 (tS (D 2) n z.2 : Nat) ∧ d 61 = x_u1 (D 61) 0 (D 61 0 + 1) ∧ lw d lb ∧ ∀ j, j ≠ 0 → j ≠ 1 → j ≠ 61 → (j < lb ∨ lb + 14 < j) → d j = D j) := by
  obtain ⟨hX, hG, hR, ⟨hk, hd9, hpl⟩, hco⟩ := id hq
  obtain ⟨hN, x0, x1, x2, xla, xlb, x33, x35, x37, x39, x43, x45, x47, x51, x60, x61, hll⟩ := id hX
  have hla : la = 3 ∨ la = 18 := by omega
  have n0 : 0 < N := by omega
  have n1 : 1 < N := by omega
  have n2 : 2 < N := by omega
  have n33 : 33 < N := by omega
  have n34 : 34 < N := by omega
  have n35 : 35 < N := by omega
  have n36 : 36 < N := by omega
  have n37 : 37 < N := by omega
  have n38 : 38 < N := by omega
  have n39 : 39 < N := by omega
  have n40 : 40 < N := by omega
  have n41 : 41 < N := by omega
  have n42 : 42 < N := by omega
  have n43 : 43 < N := by omega
  have n45 : 45 < N := by omega
  have n47 : 47 < N := by omega
  have n51 : 51 < N := by omega
  have n60 : 60 < N := by omega
  have n61 : 61 < N := by omega
  have x33a := x33.2.1
  have x34 := x33.2.2.2
  have x35a := x35.2.1
  have x36 := x35.2.2.2
  have x37a := x37.2.1
  have x38 := x37.2.2.2
  have x39a := x39.2.1
  have x43a := x43.2.1
  have x45a := x45.2.1
  have x47a := x47.2.1
  have x51a := x51.2.1
  have xla0 := xla.2.1
  have xla1 := xla.2.2.1
  have xla2 := xla.2.2.2.1
  have hlaN : la < N := by have := xla.1; omega
  have hlaN1 : la + 1 < N := by have := xla.1; omega
  have hlaN2 : la + 2 < N := by have := xla.1; omega
  have hlaN3 : la + 3 < N := by have := xla.1; omega
  have hlaN10 : la + 10 < N := by have := xla.1; omega
  have xru := (is_L_ru xla).2.1
  have xro := (is_L_ro xla).2.1
  obtain ⟨hG1, hG2, hG3⟩ := ldG_G hG
  obtain ⟨n0', ⟨gT, gTb, gC, gCb, -⟩, -⟩ := id hG
  obtain ⟨rW, rWb, rT, -, ro1, ro2, ro3, ro4, ro5, ro6⟩ := id hR
  have hd0 : 0 ≤ D 34 0 := ((hk 0).1 rfl).1
  have hB : 161 * D 34 0 ≤ 160839 := by omega
  have hsc := sc_refl hG hco
  have hlb : 3 ≤ lb := by omega
  obtain ⟨P, hP⟩ : ∃ P, P = pv0 D := ⟨_, rfl⟩
  have P0 : P 0 = x_u1 (D 0) 1 0 := by rw [hP]; exact x_up_s
  have Pn : ∀ j, j ≠ 0 → P j = D j := fun j hj => by rw [hP]; exact x_up_n hj
  have hlwP : lw P lb := by
    obtain ⟨w1, w2, w3, W1, T1, w4⟩ := hlw
    exact ⟨by rw [Pn _ (by omega)]; exact w1, by rw [Pn _ (by omega)]; exact w2, by rw [Pn _ (by omega)]; exact w3, W1, T1, rd_cg (fun j _ _ => Pn j (by omega)) w4⟩
  have c1 := r5_read (X := X) (l := l) hl (n := n) (is_X_rd hX) hlb xlb (by omega) (by rw [Pn 2 (by decide)]; exact hbt) hlwP
  rw [Pn 2 (by decide)] at c1
  have hzk := kd_txt _ _ _ z hz
  rw [← hP] at hz
  rw [hz] at c1
  refine x_ofW (by decide +kernel) hl (by simp [Value.category]) (by simp) ?_
  refine x_iload_n dX11_province_0 x_get_3_1 ?_
  refine r_if_lt (t := 12) dX11_province_1 rfl ⟨by omega, by omega⟩ (fun hc1 => absurd hc1 (by omega)) (fun hc1 => ?_)
  refine x_iload_n dX11_province_4 x_get_3_1 ?_
  refine x_aload_n dX11_province_5 x_get_3_0 ?_
  refine x_getI 1 dX11_province_6 fX_11_16 rfl (by assumption) (by assumption) (by rfl) ?_
  first | rw [hkt] | (show x_W _ _ _ _ _ _ _ _ _ (pv0 D); rw [← hP]) | rw [v5] | rw [f0] | (rw [x_up_n (by decide), v4]) | (rw [x_up_n (by decide), x_up_n (by decide), v4]) | (rw [x_up_n (by decide), fn 61 (by decide) (by decide) (by omega)]) | skip
  refine r_icmp_le (t := 22) dX11_province_9 rfl ⟨by omega, by omega⟩ ⟨by omega, by omega⟩ (fun hc9 => ?_) (fun hc9 => absurd hc9 (by omega))
  refine x_aload_n dX11_province_22 x_get_3_0 ?_
  refine x_iconst dX11_province_23 ?_
  refine x_putI 1 dX11_province_24 fX_11_16 rfl tX_11_1 (by assumption) (by assumption) (by rfl) ?_
  first | rw [hkt] | (show x_W _ _ _ _ _ _ _ _ _ (pv0 D); rw [← hP]) | rw [v5] | rw [f0] | (rw [x_up_n (by decide), v4]) | (rw [x_up_n (by decide), x_up_n (by decide), v4]) | (rw [x_up_n (by decide), fn 61 (by decide) (by decide) (by omega)]) | skip
  refine x_aload_n dX11_province_27 x_get_3_0 ?_
  refine x_getR dX11_province_28 fX_11_10 (by assumption) (by assumption) (by rfl) ?_
  refine x_iload_n dX11_province_31 x_get_3_1 ?_
  refine x_callV (As := [_]) dX11_province_32 w_11_96 (c1) (by assumption) (by assumption) rfl rfl (Nat.le_of_ble_eq_true rfl) (Nat.le_of_ble_eq_true rfl) (Nat.le_of_ble_eq_true rfl) (Nat.le_of_ble_eq_true rfl) (Nat.le_of_ble_eq_true rfl) ?_
  intro d2 hd2
  obtain ⟨S1, v1, v2, v3, v4, v5⟩ := hd2
  have f0 : d2 0 = x_u1 (D 0) 1 0 := by rw [v3 0 (by decide) (by omega) (by omega), v2 0 (by omega)]; exact P0
  have fn : ∀ j, j ≠ 0 → j ≠ 1 → (j < lb ∨ lb + 14 < j) → d2 j = D j := fun j a b c => by rw [v3 j b (by omega) (by omega), v2 j c]; exact Pn j a
  refine x_aload_n dX11_province_35 x_get_3_0 ?_
  refine x_aload_n dX11_province_36 x_get_3_0 ?_
  refine x_getR dX11_province_37 fX_11_10 (by assumption) (by assumption) (by rfl) ?_
  refine x_getI 9 dX11_province_40 fX_11_99 rfl (by assumption) (by assumption) (by rfl) ?_
  first | rw [hkt] | (show x_W _ _ _ _ _ _ _ _ _ (pv0 D); rw [← hP]) | rw [v5] | rw [f0] | (rw [x_up_n (by decide), v4]) | (rw [x_up_n (by decide), x_up_n (by decide), v4]) | (rw [x_up_n (by decide), fn 61 (by decide) (by decide) (by omega)]) | skip
  refine x_putI 14 dX11_province_43 fX_11_82 rfl tX_11_14 (by assumption) (by assumption) (by rfl) ?_
  first | rw [hkt] | (show x_W _ _ _ _ _ _ _ _ _ (pv0 D); rw [← hP]) | rw [v5] | rw [f0] | (rw [x_up_n (by decide), v4]) | (rw [x_up_n (by decide), x_up_n (by decide), v4]) | (rw [x_up_n (by decide), fn 61 (by decide) (by decide) (by omega)]) | skip
  refine x_aload_n dX11_province_46 x_get_3_0 ?_
  refine x_getR dX11_province_47 fX_11_10 (by assumption) (by assumption) (by rfl) ?_
  refine x_getI 8 dX11_province_50 fX_11_102 rfl (by assumption) (by assumption) (by rfl) ?_
  first | rw [hkt] | (show x_W _ _ _ _ _ _ _ _ _ (pv0 D); rw [← hP]) | rw [v5] | rw [f0] | (rw [x_up_n (by decide), v4]) | (rw [x_up_n (by decide), x_up_n (by decide), v4]) | (rw [x_up_n (by decide), fn 61 (by decide) (by decide) (by omega)]) | skip
  refine r_if_eq (t := 74) dX11_province_53 rfl ⟨by omega, by omega⟩ (fun hc53 => absurd hc53 (by omega)) (fun hc53 => ?_)
  refine x_aload_n dX11_province_56 x_get_3_0 ?_
  refine x_getR dX11_province_57 fX_11_78 (by assumption) (by assumption) (by rfl) ?_
  refine x_iconst dX11_province_60 ?_
  refine x_dup2 dX11_province_61 rfl rfl ?_
  refine x_iald dX11_province_62 (by assumption) (by assumption) (by omega) (by omega) (by decide) ?_
  first | rw [hkt] | (show x_W _ _ _ _ _ _ _ _ _ (pv0 D); rw [← hP]) | rw [v5] | rw [f0] | (rw [x_up_n (by decide), v4]) | (rw [x_up_n (by decide), x_up_n (by decide), v4]) | (rw [x_up_n (by decide), fn 61 (by decide) (by decide) (by omega)]) | skip
  refine x_iconst dX11_province_63 ?_
  refine x_iadd dX11_province_64 ?_
  refine x_iast dX11_province_65 (by assumption) (by assumption) (by omega) (by omega) (by decide) ?_
  first | rw [hkt] | (show x_W _ _ _ _ _ _ _ _ _ (pv0 D); rw [← hP]) | rw [v5] | rw [f0] | (rw [x_up_n (by decide), v4]) | (rw [x_up_n (by decide), x_up_n (by decide), v4]) | (rw [x_up_n (by decide), fn 61 (by decide) (by decide) (by omega)]) | skip
  refine x_aload_n dX11_province_66 x_get_3_0 ?_
  refine x_getR dX11_province_67 fX_11_10 (by assumption) (by assumption) (by rfl) ?_
  refine x_getI 8 dX11_province_70 fX_11_102 rfl (by assumption) (by assumption) (by rfl) ?_
  first | rw [hkt] | (show x_W _ _ _ _ _ _ _ _ _ (pv0 D); rw [← hP]) | rw [v5] | rw [f0] | (rw [x_up_n (by decide), v4]) | (rw [x_up_n (by decide), x_up_n (by decide), v4]) | (rw [x_up_n (by decide), fn 61 (by decide) (by decide) (by omega)]) | skip
  have hlwd : lw (x_up (x_up d2 0 (x_u1 (x_u1 (D 0) 1 0) 14 (tS (D 2) n z.2 : Nat))) 61 (x_u1 (D 61) 0 (D 61 0 + 1))) lb := by
    obtain ⟨-, ⟨w1, w2, w3, W1, T1, w4⟩, -⟩ := v1
    refine ⟨?_, ?_, ?_, W1, T1, rd_cg (fun j _ _ => by rw [x_up_n (by omega), x_up_n (by omega)]; exact v3 j (by omega) (by omega) (by omega)) w4⟩
    · rw [x_up_n (by omega), x_up_n (by omega), v3 _ (by omega) (by omega) (by omega)]; exact w1
    · rw [x_up_n (by omega), x_up_n (by omega), v3 _ (by omega) (by omega) (by omega)]; exact w2
    · rw [x_up_n (by omega), x_up_n (by omega), v3 _ (by omega) (by omega) (by omega)]; exact w3
  exact x_iret dX11_province_73 rfl (Nat.le_of_ble_eq_true rfl) (Nat.le_of_ble_eq_true rfl) rfl rfl rfl ⟨by rw [x_up_n (by decide), x_up_s], by rw [x_up_s], hlwd, fun j a b c e => by rw [x_up_n c, x_up_n a]; exact fn j a b e⟩ rfl
end C9991
