section M70
/-! ===== the Model: years by a seed ===== -/
def m_yy (T C : Nat) (f' : Int → Int) (s' : Int) (D d : xM) : Prop := (∀ j, j ≠ 82 → j ≠ 62 → j ≠ 84 → j ≠ 85 → d j = D j) ∧ (∀ i, i ≠ 47 → i ≠ 56 → d 62 i = D 62 i) ∧ d 62 56 = s' ∧ mr T C f' (d 82) 85 ∧ m_fr 85 (D 82) (d 82) ∧ ∀ j, x_r (d 84 j)
theorem m_yy_w {T C : Nat} {f f' : Int → Int} {s : Int} {D d d2 : xM} (h : m_yy T C f s D d) (h2 : m_w T C 85 f' d d2) : m_yy T C f' s D d2 := ⟨fun j a b c e => by rw [h2.1 j a]; exact h.1 j a b c e, fun i a b => by rw [h2.1 62 (by decide)]; exact h.2.1 i a b, by rw [h2.1 62 (by decide)]; exact h.2.2.1, h2.2.1, m_fr_tr h.2.2.2.2.1 h2.2.2, by rw [h2.1 84 (by decide)]; exact h.2.2.2.2.2⟩
theorem m_yy_o {T C : Nat} {f : Int → Int} {s : Int} {D d d2 : xM} (h : m_yy T C f s D d) (h2 : m_od d d2) (hv : ∀ j, x_r (d2 84 j)) : m_yy T C f s D d2 := ⟨fun j a b c e => by rw [m_od_n h2 c e]; exact h.1 j a b c e, fun i a b => by rw [m_od_n h2 (by decide) (by decide)]; exact h.2.1 i a b, by rw [m_od_n h2 (by decide) (by decide)]; exact h.2.2.1, by rw [m_od_n h2 (by decide) (by decide)]; exact h.2.2.2.1, by rw [m_od_n h2 (by decide) (by decide)]; exact h.2.2.2.2.1, hv⟩
theorem m_yy_s {T C : Nat} {f : Int → Int} {s v : Int} {D d : xM} (h : m_yy T C f s D d) : m_yy T C f v D (x_up d 62 (x_u1 (d 62) 56 v)) := ⟨fun j a b c e => by rw [x_up_n b]; exact h.1 j a b c e, fun i a b => by rw [x_up_s, x_u1_n b]; exact h.2.1 i a b, by rw [x_up_s, x_u1_s], by rw [x_up_n (by decide)]; exact h.2.2.2.1, by rw [x_up_n (by decide)]; exact h.2.2.2.2.1, by rw [x_up_n (by decide)]; exact h.2.2.2.2.2⟩
theorem m_yy_mq {N : Nat} {sh : xS} {D d : xM} {T C W : Nat} {G : Ldt} {f : Int → Int} {s : Int} (h : mq N sh D T C W G) (hw : m_yy T C f s D d) : mq N sh d T C W G := mq_of h (fun i _ _ => hw.2.1 i (by omega) (by omega)) (fun j a b => hw.1 j (by omega) (by omega) (by omega) (by omega))
theorem m_yy_tr {T C : Nat} {f f' : Int → Int} {s s' : Int} {D d d2 : xM} (h : m_yy T C f s D d) (h2 : m_yy T C f' s' d d2) : m_yy T C f' s' D d2 := ⟨fun j a b c e => by rw [h2.1 j a b c e]; exact h.1 j a b c e, fun i a b => by rw [h2.2.1 i a b]; exact h.2.1 i a b, h2.2.2.1, h2.2.2.2.1, m_fr_tr h.2.2.2.2.1 h2.2.2.2.2.1, h2.2.2.2.2.2⟩
theorem ms_yy {T C : Nat} {f' : Int → Int} {s : Int} {D d d2 : xM} (h : ms D d) (h2 : m_yy T C f' s d d2) : ms D d2 := ⟨fun j a b c e g => by rw [h2.1 j b a (by omega) (by omega)]; exact h.1 j a b c e g, fun i a b c => by rw [h2.2.1 i b c]; exact h.2.1 i a b c, fun i hi => by rw [h2.2.2.2.2.1 i (Or.inl hi)]; exact h.2.2.1 i hi, h2.2.2.2.2.2⟩
theorem k_RX12_433 : Cond.constant RX12 433 (xI (1103515245)) ∈ x_T := (x_in 1966 (by decide +kernel) rfl)
theorem w_12_434 : x_cv RX12 434 yX12_draw cX12_draw 2 (some .int) 12 1 := ⟨⟨_, rfl, rfl⟩, (x_in 1962 (by decide +kernel) rfl), (x_in 1964 (by decide +kernel) rfl), (x_in 76 (by decide +kernel) rfl), (x_in 90 (by decide +kernel) rfl), (x_in 1965 (by decide +kernel) rfl), by decide, ⟨by decide +kernel, by decide +kernel, by decide +kernel⟩⟩
theorem w_12_437 : x_cv RX12 437 yX12_steals cX12_steals 2 (none) 12 0 := ⟨⟨_, rfl, rfl⟩, (x_in 1958 (by decide +kernel) rfl), (x_in 1960 (by decide +kernel) rfl), (x_in 75 (by decide +kernel) rfl), (x_in 90 (by decide +kernel) rfl), (x_in 1961 (by decide +kernel) rfl), by decide, ⟨by decide +kernel, by decide +kernel, by decide +kernel⟩⟩
theorem m_draw {X : xC} {l : Launch} (hl : l.stackTraces = false) {N : Nat} {sh : xS} {D : xM} (hM : is_Md N sh) {n : Int} (h0 : 0 < n) (h1 : n < 1000) : x_M X l yX12_draw cX12_draw 2 (some .int) 1 0 0 [.ref (x_b X + 62), .int (xI n)] false N sh D (.inl (some (.int (xI (d_val (d_next (D 62 56)) n))))) false N sh (x_is (x_up D 62 (x_u1 (D 62) 56 (d_next (D 62 56))))) := by
  have s62 := md_62 hM
  have n62 : 62 < N := md_n hM (by decide)
  refine x_ofW (by decide +kernel) hl (by simp [Value.category]) (by simp) ?_
  refine x_aload_n dX12_draw_0 x_get_2_0 ?_
  refine x_aload_n dX12_draw_1 x_get_2_0 ?_
  refine x_getI 56 dX12_draw_2 fX_12_430 rfl n62 s62 (by rfl) ?_
  try simp (disch := decide) only [x_up_s, x_up_n, x_up_up, x_u1_s, x_u1_n]
  refine x_ldcw (z := 1103515245) dX12_draw_5 k_RX12_433 ?_
  refine x_imul dX12_draw_8 ?_
  refine x_sipush dX12_draw_9 rfl ?_
  refine x_iadd dX12_draw_12 ?_
  refine x_putI 56 dX12_draw_13 fX_12_430 rfl tX_12_56 n62 s62 (by rfl) ?_
  try simp (disch := decide) only [x_up_s, x_up_n, x_up_up, x_u1_s, x_u1_n]
  refine x_aload_n dX12_draw_16 x_get_2_0 ?_
  refine x_getI 56 dX12_draw_17 fX_12_430 rfl n62 s62 (by rfl) ?_
  try simp (disch := decide) only [x_up_s, x_up_n, x_up_up, x_u1_s, x_u1_n]
  refine x_bipush dX12_draw_20 rfl ?_
  refine x_ishr dX12_draw_22 ?_
  refine x_sipush dX12_draw_23 rfl ?_
  refine x_iand dX12_draw_26 ?_
  refine x_as_is (d_sr (D 62 56 * 1103515245 + 12345)) ?_
  refine x_iload_n dX12_draw_27 x_get_2_1 ?_
  refine x_irem dX12_draw_28 (by rw [← xI_0, xI_eq, x_n0, x_n_of ⟨by omega, by omega⟩]; omega) ?_
  refine x_as_is (d_val_rm (z := D 62 56 * 1103515245 + 12345) h0 h1).symm ?_
  exact x_iret dX12_draw_29 rfl (Nat.le_of_ble_eq_true rfl) (Nat.le_of_ble_eq_true rfl) rfl rfl rfl rfl rfl
set_option maxHeartbeats 8000000 in
theorem m_steals {X : xC} {l : Launch} (hl : l.stackTraces = false) {N : Nat} {sh : xS} {D : xM} {T C W : Nat} {G : Ldt} (hq : mq N sh D T C W G) {B : Int} {f : Int → Int} (hk : s_ok B f) (hB : B ≤ 800000) (hr : mr T C f (D 82) 85) (hv84 : ∀ j, x_r (D 84 j)) : x_M X l yX12_steals cX12_steals 2 (none) 2 0 0 [.ref (x_b X + 62)] false N sh D (.inl none) false N sh (m_yy T C (y_pre C (f, D 62 56)).1 (y_pre C (f, D 62 56)).2 D) := by
  obtain ⟨hM, hT, hTb, hW, hWb, hC, hCb, hmk, ⟨hG1, hG2, hG3⟩, hod⟩ := id hq
  have s62 := md_62 hM
  have n62 : 62 < N := md_n hM (by decide)
  have s82 := md_82 hM
  have n82 : 82 < N := md_n hM (by decide)
  generalize hs : D 62 56 = s
  have y0 : m_yy T C f s D D := ⟨fun _ _ _ _ _ => rfl, fun _ _ _ => rfl, hs, hr, m_fr_refl, hv84⟩
  have hdv := d_val_in s (n := 9) (by decide)
  refine x_ofW (by decide +kernel) hl (by simp [Value.category]) (by simp) ?_
  refine x_aload_n dX12_steals_0 x_get_2_0 ?_
  refine x_bipush dX12_steals_1 rfl ?_
  refine x_callV (As := [_]) dX12_steals_3 w_12_434 (m_draw hl hM (n := 9) (by decide) (by decide)) (by assumption) (by assumption) rfl rfl (Nat.le_of_ble_eq_true rfl) (Nat.le_of_ble_eq_true rfl) (Nat.le_of_ble_eq_true rfl) (Nat.le_of_ble_eq_true rfl) (Nat.le_of_ble_eq_true rfl) ?_
  rintro d1 hd1
  have y1 : m_yy T C f (d_next s) D d1 := by rw [hd1, hs]; exact m_yy_s y0
  have hC1 : d1 62 3 = C := by rw [y1.2.1 3 (by decide) (by decide)]; exact hC
  have hs1 := y1.2.2.1
  rw [hs]
  refine r_if_ne (t := 16) dX12_steals_6 rfl ⟨by omega, by omega⟩ (fun hc6 => ?_) (fun hc6 => ?_)
  · exact x_vret dX12_steals_16 rfl (Nat.le_of_ble_eq_true rfl) (Nat.le_of_ble_eq_true rfl) rfl rfl rfl (by unfold y_pre; first | (rw [if_neg (fun h => hc6 h.1)]; exact y1) | (rw [if_neg (fun h => absurd h.2 (by omega))]; exact y1)) rfl
  · refine x_aload_n dX12_steals_9 x_get_2_0 ?_
    refine x_getI 3 dX12_steals_10 fX_12_287 rfl n62 s62 (by rfl) ?_
    try simp (disch := decide) only [x_up_s, x_up_n, x_up_up, x_u1_s, x_u1_n, hC1]
    refine r_if_ne (t := 17) dX12_steals_13 rfl ⟨by omega, by omega⟩ (fun hc13 => ?_) (fun hc13 => ?_)
    · refine x_aload_n dX12_steals_17 x_get_2_0 ?_
      refine x_aload_n dX12_steals_18 x_get_2_0 ?_
      refine x_getI 3 dX12_steals_19 fX_12_287 rfl n62 s62 (by rfl) ?_
      try simp (disch := decide) only [x_up_s, x_up_n, x_up_up, x_u1_s, x_u1_n, hC1]
      refine x_callV (As := [_]) dX12_steals_22 w_12_434 (m_draw hl hM (n := (C : Int)) (by omega) (by omega)) (by assumption) (by assumption) rfl rfl (Nat.le_of_ble_eq_true rfl) (Nat.le_of_ble_eq_true rfl) (Nat.le_of_ble_eq_true rfl) (Nat.le_of_ble_eq_true rfl) (Nat.le_of_ble_eq_true rfl) ?_
      rintro d2 hd2
      have y2 : m_yy T C f (d_next (d_next s)) D d2 := by rw [hd2, hs1]; exact m_yy_s y1
      rw [hs1]
      have hdw := d_val_in (d_next s) (n := (C : Int)) (by omega)
      refine x_istore_n dX12_steals_25 (Nat.le_of_ble_eq_true rfl) rfl x_set_2_1 ?_
      refine x_aload_n dX12_steals_26 x_get_2_0 ?_
      refine x_bipush dX12_steals_27 rfl ?_
      refine x_iload_n dX12_steals_29 x_get_2_1 ?_
      refine x_callV (As := [_, _]) dX12_steals_30 w_12_308 (m_lies hl (m_yy_mq hq y2) hk (by omega) (Or.inr rfl) y2.2.2.2.1 (c := (d_val (d_next (d_next s)) C)) hdw.1 hdw.2) (by assumption) (by assumption) rfl rfl (Nat.le_of_ble_eq_true rfl) (Nat.le_of_ble_eq_true rfl) (Nat.le_of_ble_eq_true rfl) (Nat.le_of_ble_eq_true rfl) (Nat.le_of_ble_eq_true rfl) ?_
      intro dz hdz
      obtain rfl := Eq.symm hdz
      refine b_ifne (t := 37) dX12_steals_33 rfl (fun hc33 => ?_) (fun hc33 => ?_)
      · refine x_aload_n dX12_steals_37 x_get_2_0 ?_
        refine x_getR dX12_steals_38 fX_12_75 n62 s62 (by rfl) ?_
        refine x_bipush dX12_steals_41 rfl ?_
        refine x_iload_n dX12_steals_43 x_get_2_1 ?_
        refine x_iadd dX12_steals_44 ?_
        refine x_iconst dX12_steals_45 ?_
        refine x_iast dX12_steals_46 n82 s82 (by omega) (by omega) (by decide) ?_
        refine x_aload_n dX12_steals_47 x_get_2_0 ?_
        refine x_getR dX12_steals_48 fX_12_75 n62 s62 (by rfl) ?_
        refine x_sipush dX12_steals_51 rfl ?_
        refine x_iload_n dX12_steals_54 x_get_2_1 ?_
        refine x_iadd dX12_steals_55 ?_
        refine x_iconst dX12_steals_56 ?_
        refine x_iast dX12_steals_57 n82 s82 (by omega) (by omega) (by decide) ?_
        exact x_vret dX12_steals_58 rfl (Nat.le_of_ble_eq_true rfl) (Nat.le_of_ble_eq_true rfl) rfl rfl rfl (by
            unfold y_pre
            rw [if_pos (And.intro hc6 (show 0 < C by omega))]
            dsimp only
            unfold s_steal
            rw [if_pos hc33]
            have hcr := s_cr hk (c := (d_val (d_next (d_next s)) C)) hdw.1 (by omega)
            have h65 : x_u1 (x_u1 f (25 + (d_val (d_next (d_next s)) C)) 0) (55 + (d_val (d_next (d_next s)) C)) (-1) (65 + (d_val (d_next (d_next s)) C)) = 0 := by
              rw [x_u1_n (by omega), x_u1_n (by omega)]
              have := hc33.2
              omega
            have hls : s_lose f (d_val (d_next (d_next s)) C) = x_u1 (x_u1 f (25 + (d_val (d_next (d_next s)) C)) 0) (55 + (d_val (d_next (d_next s)) C)) (-1) := by
              unfold s_lose
              generalize x_u1 (x_u1 f (25 + (d_val (d_next (d_next s)) C)) 0) (55 + (d_val (d_next (d_next s)) C)) (-1) = gg at h65 ⊢
              rw [← h65]
              exact x_u1_id
            rw [hls]
            exact m_yy_w y2 (m_w_u1 (m_w_u1 (m_w_rf y2.2.2.2.1) (k := 25 + (d_val (d_next (d_next s)) C)) (by omega) (by omega) (by omega)) (k := 55 + (d_val (d_next (d_next s)) C)) (by omega) (by omega) (by omega))) rfl
      · exact x_vret dX12_steals_36 rfl (Nat.le_of_ble_eq_true rfl) (Nat.le_of_ble_eq_true rfl) rfl rfl rfl (by unfold y_pre; rw [if_pos (And.intro hc6 (show 0 < C by omega))]; dsimp only; unfold s_steal; rw [if_neg hc33]; exact y2) rfl
    · exact x_vret dX12_steals_16 rfl (Nat.le_of_ble_eq_true rfl) (Nat.le_of_ble_eq_true rfl) rfl rfl rfl (by unfold y_pre; first | (rw [if_neg (fun h => hc6 h.1)]; exact y1) | (rw [if_neg (fun h => absurd h.2 (by omega))]; exact y1)) rfl
set_option maxHeartbeats 8000000 in
theorem m_years {X : xC} {l : Launch} (hl : l.stackTraces = false) {N : Nat} {sh : xS} {D : xM} {T C W : Nat} {G : Ldt} (hq : mq N sh D T C W G) {B : Int} {f : Int → Int} (hk : s_ok B f) (hB : B ≤ 200000) (hr : mr T C f (D 82) 0) (hv84 : ∀ j, x_r (D 84 j)) {s n w : Int} (hnr : x_r n) (hwr : x_r w) : x_M X l yX12_years cX12_years 7 (some .int) 7 0 0 [.ref (x_b X + 62), .int (xI s), .int (xI n), .int (xI w)] false N sh D (m_r (q_years T C G f s n w)) false N sh (fun d => ms D d ∧ d 62 0 = m_k 2 (q_years T C G f s n w)) := by
  obtain ⟨hM, hT, hTb, hW, hWb, hC, hCb, hmk, ⟨hG1, hG2, hG3⟩, hod⟩ := id hq
  have s62 := md_62 hM
  have n62 : 62 < N := md_n hM (by decide)
  have s82 := md_82 hM
  have n82 : 82 < N := md_n hM (by decide)
  obtain ⟨hwr0, hwr1⟩ := id hwr
  unfold q_years
  by_cases hw : 0 ≤ w ∧ w ≤ 2
  · rw [if_pos hw]
    obtain ⟨hw0, hw1⟩ := id hw
    by_cases hn : 0 ≤ n ∧ n ≤ 60
    · rw [if_pos hn]
      obtain ⟨hn0, hn1⟩ := id hn
      obtain ⟨m, rfl⟩ := Int.eq_ofNat_of_zero_le hn0
      rw [Int.toNat_natCast]
      have hko := fun k : Nat => s_ok_yst hk hG1 hG2 hTb hCb s k
      have hB0 : 0 ≤ B := by have := (hk 0).1 rfl; omega
      rw [m_r_i, m_k_i]
      refine x_ofW (by decide +kernel) hl (by simp [Value.category]) (by simp) ?_
      refine x_aload_n dX12_years_0 x_get_7_0 ?_
      refine x_iconst dX12_years_1 ?_
      refine x_putI 0 dX12_years_2 fX_12_117 rfl tX_12_0 n62 s62 (by rfl) ?_
      have z0 := m_go0 hq hr hv84
      generalize x_up D 62 (x_u1 (D 62) 0 0) = d0 at z0 ⊢
      obtain ⟨q0, t0, ms0, r0, v0⟩ := z0
      have hloop : ∀ k : Nat, k ≤ m → ∀ d : xM, m_yy T C (y_st T C G f s k).1 (y_st T C G f s k).2 d0 d → x_W (X, l, yX12_years, cX12_years, 7, (some .int), x_room 7 0 0, 0, 0, (.inl (some (.int (xI ((v_years T C (y_st T C G f s m).1 w)))))), N, sh, (fun d => ms D d ∧ d 62 0 = 0), false, []) 38 [some (.ref (x_b X + 62)), some (.int (xI s)), some (.int (xI (m : Int))), some (.int (xI w)), some (.int (xI (k : Int))), none, none] [] 0 0 false N sh d := by
        refine x_down m ?_ ?_
        · intro d hy
          have hkm := hko m
          have qd := m_yy_mq q0 hy
          have hc : w = 0 ∨ w = 1 ∨ w = 2 := by omega
          rcases hc with rfl | rfl | rfl
          · refine x_iload dX12_years_38 x_get_7_4 ?_
            refine x_iload_n dX12_years_40 x_get_7_2 ?_
            refine r_icmp_ge (t := 131) dX12_years_41 rfl ⟨by omega, by omega⟩ ⟨by omega, by omega⟩ (fun hc41 => ?_) (fun hc41 => absurd hc41 (by omega))
            refine x_iload_n dX12_years_131 x_get_7_3 ?_
            refine r_if_ne (t := 144) dX12_years_132 rfl ⟨by omega, by omega⟩ (fun hc132 => absurd hc132 (by omega)) (fun hc132 => ?_)
            refine x_aload_n dX12_years_135 x_get_7_0 ?_
            refine x_bipush dX12_years_136 rfl ?_
            refine x_callV (As := [_]) dX12_years_138 w_12_350 (m_allOf hl qd hkm (by omega) (Or.inr rfl) hy.2.2.2.1 (k := 17) rfl (by decide)) (by assumption) (by assumption) rfl rfl (Nat.le_of_ble_eq_true rfl) (Nat.le_of_ble_eq_true rfl) (Nat.le_of_ble_eq_true rfl) (Nat.le_of_ble_eq_true rfl) (Nat.le_of_ble_eq_true rfl) ?_
            intro dz hdz
            obtain rfl := Eq.symm hdz
            refine x_goto (t := 167) dX12_years_141 rfl ?_
            exact x_iret dX12_years_167 rfl (Nat.le_of_ble_eq_true rfl) (Nat.le_of_ble_eq_true rfl) rfl rfl rfl ⟨ms_yy ms0 hy, by rw [hy.2.1 0 (by decide) (by decide)]; exact t0⟩ rfl
          · refine x_iload dX12_years_38 x_get_7_4 ?_
            refine x_iload_n dX12_years_40 x_get_7_2 ?_
            refine r_icmp_ge (t := 131) dX12_years_41 rfl ⟨by omega, by omega⟩ ⟨by omega, by omega⟩ (fun hc41 => ?_) (fun hc41 => absurd hc41 (by omega))
            refine x_iload_n dX12_years_131 x_get_7_3 ?_
            refine r_if_ne (t := 144) dX12_years_132 rfl ⟨by omega, by omega⟩ (fun hc132 => ?_) (fun hc132 => absurd hc132 (by omega))
            refine x_iload_n dX12_years_144 x_get_7_3 ?_
            refine x_iconst dX12_years_145 ?_
            refine r_icmp_ne (t := 158) dX12_years_146 rfl ⟨by omega, by omega⟩ ⟨by omega, by omega⟩ (fun hc146 => absurd hc146 (by omega)) (fun hc146 => ?_)
            refine x_aload_n dX12_years_149 x_get_7_0 ?_
            refine x_bipush dX12_years_150 rfl ?_
            refine x_callV (As := [_]) dX12_years_152 w_12_350 (m_allOf hl qd hkm (by omega) (Or.inr rfl) hy.2.2.2.1 (k := 1) rfl (by decide)) (by assumption) (by assumption) rfl rfl (Nat.le_of_ble_eq_true rfl) (Nat.le_of_ble_eq_true rfl) (Nat.le_of_ble_eq_true rfl) (Nat.le_of_ble_eq_true rfl) (Nat.le_of_ble_eq_true rfl) ?_
            intro dz hdz
            obtain rfl := Eq.symm hdz
            refine x_goto (t := 167) dX12_years_155 rfl ?_
            exact x_iret dX12_years_167 rfl (Nat.le_of_ble_eq_true rfl) (Nat.le_of_ble_eq_true rfl) rfl rfl rfl ⟨ms_yy ms0 hy, by rw [hy.2.1 0 (by decide) (by decide)]; exact t0⟩ rfl
          · refine x_iload dX12_years_38 x_get_7_4 ?_
            refine x_iload_n dX12_years_40 x_get_7_2 ?_
            refine r_icmp_ge (t := 131) dX12_years_41 rfl ⟨by omega, by omega⟩ ⟨by omega, by omega⟩ (fun hc41 => ?_) (fun hc41 => absurd hc41 (by omega))
            refine x_iload_n dX12_years_131 x_get_7_3 ?_
            refine r_if_ne (t := 144) dX12_years_132 rfl ⟨by omega, by omega⟩ (fun hc132 => ?_) (fun hc132 => absurd hc132 (by omega))
            refine x_iload_n dX12_years_144 x_get_7_3 ?_
            refine x_iconst dX12_years_145 ?_
            refine r_icmp_ne (t := 158) dX12_years_146 rfl ⟨by omega, by omega⟩ ⟨by omega, by omega⟩ (fun hc146 => ?_) (fun hc146 => absurd hc146 (by omega))
            refine x_aload_n dX12_years_158 x_get_7_0 ?_
            refine x_bipush dX12_years_159 rfl ?_
            refine x_callV (As := [_]) dX12_years_161 w_12_359 (m_goneIn hl qd hkm (by omega) (Or.inr rfl) hy.2.2.2.1) (by assumption) (by assumption) rfl rfl (Nat.le_of_ble_eq_true rfl) (Nat.le_of_ble_eq_true rfl) (Nat.le_of_ble_eq_true rfl) (Nat.le_of_ble_eq_true rfl) (Nat.le_of_ble_eq_true rfl) ?_
            intro dz hdz
            obtain rfl := Eq.symm hdz
            refine x_callS (As := [_]) dX12_years_164 w_12_317 (m_bits hl (s_bits_10 hCb)) rfl rfl (Nat.le_of_ble_eq_true rfl) (Nat.le_of_ble_eq_true rfl) (Nat.le_of_ble_eq_true rfl) (Nat.le_of_ble_eq_true rfl) (Nat.le_of_ble_eq_true rfl) ?_
            intro dz hdz
            obtain rfl := Eq.symm hdz
            exact x_iret dX12_years_167 rfl (Nat.le_of_ble_eq_true rfl) (Nat.le_of_ble_eq_true rfl) rfl rfl rfl ⟨ms_yy ms0 hy, by rw [hy.2.1 0 (by decide) (by decide)]; exact t0⟩ rfl
        · intro k hk2 ih d hy
          have hkk := hko k
          rw [y_st_s] at ih
          generalize hp : (y_st T C G f s k) = p at hy hkk ih
          have hkp := s_ok_pre hkk hCb
          have hkd := s_ok_drawns (s_ok_mv hkp C hCb) hG1 hG2 (y_pre C p).2
          have inner : ∀ i : Nat, i ≤ T → ∀ d : xM, m_yy T C (s_drawns G (s_mv (y_pre C p).1 C) (y_pre C p).2 i).1 (s_drawns G (s_mv (y_pre C p).1 C) (y_pre C p).2 i).2 d0 d → x_W (X, l, yX12_years, cX12_years, 7, (some .int), x_room 7 0 0, 0, 0, (.inl (some (.int (xI ((v_years T C (y_st T C G f s m).1 w)))))), N, sh, (fun d => ms D d ∧ d 62 0 = 0), false, []) 57 [some (.ref (x_b X + 62)), some (.int (xI s)), some (.int (xI (m : Int))), some (.int (xI w)), some (.int (xI (k : Int))), some (.int (xI (i : Int))), none] [] 0 0 false N sh d := by
            refine x_down T ?_ ?_
            · intro d hy
              have hT2 : d 62 1 = T := (m_yy_mq q0 hy).2.1
              have e0 : d 82 85 = (s_drawns G (s_mv (y_pre C p).1 C) (y_pre C p).2 T).1 0 := mr_0 hy.2.2.2.1 rfl
              refine x_iload dX12_years_57 x_get_7_5 ?_
              refine x_aload_n dX12_years_59 x_get_7_0 ?_
              refine x_getI 1 dX12_years_60 fX_12_281 rfl n62 s62 (by rfl) ?_
              try simp (disch := decide) only [x_up_s, x_up_n, x_up_up, x_u1_s, x_u1_n, hT2, e0]
              refine r_icmp_ge (t := 114) dX12_years_63 rfl ⟨by omega, by omega⟩ ⟨by omega, by omega⟩ (fun hc63 => ?_) (fun hc63 => absurd hc63 (by omega))
              refine x_aload_n dX12_years_114 x_get_7_0 ?_
              refine x_getR dX12_years_115 fX_12_75 n62 s62 (by rfl) ?_
              refine x_bipush dX12_years_118 rfl ?_
              refine x_dup2 dX12_years_120 rfl rfl ?_
              refine x_iald dX12_years_121 n82 s82 (by omega) (by omega) (by decide) ?_
              try simp (disch := decide) only [x_up_s, x_up_n, x_up_up, x_u1_s, x_u1_n, hT2, e0]
              refine x_iconst dX12_years_122 ?_
              refine x_iadd dX12_years_123 ?_
              refine x_iast dX12_years_124 n82 s82 (by omega) (by omega) (by decide) ?_
              refine x_iinc dX12_years_125 x_get_7_4 (Nat.le_of_ble_eq_true rfl) rfl x_set_7_4 ?_
              refine x_goto (t := 38) dX12_years_128 rfl ?_
              refine x_forget 5 ?_
              exact ih _ (m_yy_w hy (m_w_u1 (m_w_rf hy.2.2.2.1) (k := 0) (by omega) (by decide) (by decide)))
            · intro i hi ih2 d hy
              have qd := m_yy_mq q0 hy
              have hT2 : d 62 1 = T := qd.2.1
              have hki := hkd i (by omega)
              rw [show (s_drawns G (s_mv (y_pre C p).1 C) (y_pre C p).2 (i + 1)) = s_drawn1 G (s_drawns G (s_mv (y_pre C p).1 C) (y_pre C p).2 i) i from rfl] at ih2
              generalize (s_drawns G (s_mv (y_pre C p).1 C) (y_pre C p).2 i) = pp at hy hki ih2
              have hka := s_ok_add hki (c := 1 + (i : Int)) (q := G.1 i) (by omega) (by omega) (hG1 i).1
              have hgo := hG3 (s_add pp.1 (1 + (i : Int)) (G.1 i)) i
              have hdv := d_val_in pp.2 (n := 12) (by decide)
              have tailT : d_val (d_next pp.2) 12 < G.2.2 (s_add pp.1 (1 + (i : Int)) (G.1 i)) i → ∀ d2 : xM, ∀ o6 : Option Value, m_yy T C (s_add pp.1 (1 + (i : Int)) (G.1 i)) (d_next pp.2) d0 d2 → x_W (X, l, yX12_years, cX12_years, 7, (some .int), x_room 7 0 0, 0, 0, (.inl (some (.int (xI ((v_years T C (y_st T C G f s m).1 w)))))), N, sh, (fun d => ms D d ∧ d 62 0 = 0), false, []) 105 [some (.ref (x_b X + 62)), some (.int (xI s)), some (.int (xI (m : Int))), some (.int (xI w)), some (.int (xI (k : Int))), some (.int (xI (i : Int))), o6] [.int (xI 1), .int (xI (i : Int)), .int (xI 85), .ref (x_b X + 62)] 0 0 false N sh d2 := by
                intro hp2 d2 o6 hy2
                refine x_callV (As := [_, _, _]) dX12_years_105 w_12_339 (m_stakesT hl (m_yy_mq q0 hy2) hka (by omega) (Or.inr rfl) hy2.2.2.2.1 (t := (i : Int)) (by omega) (by omega)) (by assumption) (by assumption) rfl rfl (Nat.le_of_ble_eq_true rfl) (Nat.le_of_ble_eq_true rfl) (Nat.le_of_ble_eq_true rfl) (Nat.le_of_ble_eq_true rfl) (Nat.le_of_ble_eq_true rfl) ?_
                rintro d3 hd3
                refine x_iinc dX12_years_108 x_get_7_5 (Nat.le_of_ble_eq_true rfl) rfl x_set_7_5 ?_
                refine x_goto (t := 57) dX12_years_111 rfl ?_
                refine x_forget 6 ?_
                refine ih2 d3 ?_
                unfold s_drawn1 s_stl
                dsimp only
                rw [if_pos hp2]
                exact m_yy_w hy2 hd3
              have tailF : ¬ d_val (d_next pp.2) 12 < G.2.2 (s_add pp.1 (1 + (i : Int)) (G.1 i)) i → ∀ d2 : xM, ∀ o6 : Option Value, m_yy T C (s_add pp.1 (1 + (i : Int)) (G.1 i)) (d_next pp.2) d0 d2 → x_W (X, l, yX12_years, cX12_years, 7, (some .int), x_room 7 0 0, 0, 0, (.inl (some (.int (xI ((v_years T C (y_st T C G f s m).1 w)))))), N, sh, (fun d => ms D d ∧ d 62 0 = 0), false, []) 105 [some (.ref (x_b X + 62)), some (.int (xI s)), some (.int (xI (m : Int))), some (.int (xI w)), some (.int (xI (k : Int))), some (.int (xI (i : Int))), o6] [.int (xI 0), .int (xI (i : Int)), .int (xI 85), .ref (x_b X + 62)] 0 0 false N sh d2 := by
                intro hp2 d2 o6 hy2
                refine x_callV (As := [_, _, _]) dX12_years_105 w_12_339 (m_stakesF hl (m_yy_mq q0 hy2) hka (by omega) (Or.inr rfl) hy2.2.2.2.1 (t := (i : Int)) (by omega) (by omega)) (by assumption) (by assumption) rfl rfl (Nat.le_of_ble_eq_true rfl) (Nat.le_of_ble_eq_true rfl) (Nat.le_of_ble_eq_true rfl) (Nat.le_of_ble_eq_true rfl) (Nat.le_of_ble_eq_true rfl) ?_
                rintro d3 hd3
                refine x_iinc dX12_years_108 x_get_7_5 (Nat.le_of_ble_eq_true rfl) rfl x_set_7_5 ?_
                refine x_goto (t := 57) dX12_years_111 rfl ?_
                refine x_forget 6 ?_
                refine ih2 d3 ?_
                unfold s_drawn1 s_stl
                dsimp only
                rw [if_neg hp2]
                exact m_yy_w hy2 hd3
              refine x_iload dX12_years_57 x_get_7_5 ?_
              refine x_aload_n dX12_years_59 x_get_7_0 ?_
              refine x_getI 1 dX12_years_60 fX_12_281 rfl n62 s62 (by rfl) ?_
              try simp (disch := decide) only [x_up_s, x_up_n, x_up_up, x_u1_s, x_u1_n, hT2]
              refine r_icmp_ge (t := 114) dX12_years_63 rfl ⟨by omega, by omega⟩ ⟨by omega, by omega⟩ (fun hc63 => absurd hc63 (by omega)) (fun hc63 => ?_)
              refine x_aload_n dX12_years_66 x_get_7_0 ?_
              refine x_bipush dX12_years_67 rfl ?_
              refine x_iload dX12_years_69 x_get_7_5 ?_
              refine x_callV (As := [_, _]) dX12_years_71 w_12_332 (m_makesLuck hl qd hki (by omega) (Or.inr rfl) hy.2.2.2.1 (t := (i : Int)) (by omega) (by omega)) (by assumption) (by assumption) rfl rfl (Nat.le_of_ble_eq_true rfl) (Nat.le_of_ble_eq_true rfl) (Nat.le_of_ble_eq_true rfl) (Nat.le_of_ble_eq_true rfl) (Nat.le_of_ble_eq_true rfl) ?_
              rintro d1 hd1
              have y1 := m_yy_w hy hd1
              refine x_aload_n dX12_years_74 x_get_7_0 ?_
              refine x_bipush dX12_years_75 rfl ?_
              refine x_iload dX12_years_77 x_get_7_5 ?_
              refine x_callV (As := [_, _]) dX12_years_79 w_12_336 (m_oddsOf hl (m_yy_mq q0 y1) hka (by omega) (Or.inr rfl) y1.2.2.2.1 (t := (i : Int)) (by omega) (by omega) y1.2.2.2.2.2) (by assumption) (by assumption) rfl rfl (Nat.le_of_ble_eq_true rfl) (Nat.le_of_ble_eq_true rfl) (Nat.le_of_ble_eq_true rfl) (Nat.le_of_ble_eq_true rfl) (Nat.le_of_ble_eq_true rfl) ?_
              rintro d2 ⟨ho, hv2⟩
              have y2 := m_yy_o y1 ho hv2
              have hs2 := y2.2.2.1
              refine x_istore dX12_years_82 (Nat.le_of_ble_eq_true rfl) rfl x_set_7_6 ?_
              refine x_aload_n dX12_years_84 x_get_7_0 ?_
              refine x_bipush dX12_years_85 rfl ?_
              refine x_iload dX12_years_87 x_get_7_5 ?_
              refine x_aload_n dX12_years_89 x_get_7_0 ?_
              refine x_bipush dX12_years_90 rfl ?_
              refine x_callV (As := [_]) dX12_years_92 w_12_434 (m_draw hl hM (n := 12) (by decide) (by decide)) (by assumption) (by assumption) rfl rfl (Nat.le_of_ble_eq_true rfl) (Nat.le_of_ble_eq_true rfl) (Nat.le_of_ble_eq_true rfl) (Nat.le_of_ble_eq_true rfl) (Nat.le_of_ble_eq_true rfl) ?_
              rintro d3 hd3
              have y3 : m_yy T C (s_add pp.1 (1 + (i : Int)) (G.1 i)) (d_next pp.2) d0 d3 := by rw [hd3, hs2]; exact m_yy_s y2
              rw [hs2]
              refine x_iload dX12_years_95 x_get_7_6 ?_
              refine r_icmp_ge (t := 104) dX12_years_97 rfl ⟨by omega, by omega⟩ ⟨by omega, by omega⟩ (fun hc97 => ?_) (fun hc97 => ?_)
              · refine x_iconst dX12_years_104 ?_
                first | exact tailT (by omega) d3 _ y3 | exact tailF (by omega) d3 _ y3
              · refine x_iconst dX12_years_100 ?_
                refine x_goto (t := 105) dX12_years_101 rfl ?_
                first | exact tailT (by omega) d3 _ y3 | exact tailF (by omega) d3 _ y3
          refine x_iload dX12_years_38 x_get_7_4 ?_
          refine x_iload_n dX12_years_40 x_get_7_2 ?_
          refine r_icmp_ge (t := 131) dX12_years_41 rfl ⟨by omega, by omega⟩ ⟨by omega, by omega⟩ (fun hc41 => absurd hc41 (by omega)) (fun hc41 => ?_)
          refine x_aload_n dX12_years_44 x_get_7_0 ?_
          refine x_callV (As := []) dX12_years_45 w_12_437 (m_steals hl (m_yy_mq q0 hy) hkk (by omega) hy.2.2.2.1 hy.2.2.2.2.2) (by assumption) (by assumption) rfl rfl (Nat.le_of_ble_eq_true rfl) (Nat.le_of_ble_eq_true rfl) (Nat.le_of_ble_eq_true rfl) (Nat.le_of_ble_eq_true rfl) (Nat.le_of_ble_eq_true rfl) ?_
          rintro d1 hd1
          rw [hy.2.2.1] at hd1
          have y1 := m_yy_tr hy hd1
          refine x_aload_n dX12_years_48 x_get_7_0 ?_
          refine x_bipush dX12_years_49 rfl ?_
          refine x_callV (As := [_]) dX12_years_51 w_12_326 (m_cratesGo hl (m_yy_mq q0 y1) hkp (by omega) (Or.inr rfl) y1.2.2.2.1) (by assumption) (by assumption) rfl rfl (Nat.le_of_ble_eq_true rfl) (Nat.le_of_ble_eq_true rfl) (Nat.le_of_ble_eq_true rfl) (Nat.le_of_ble_eq_true rfl) (Nat.le_of_ble_eq_true rfl) ?_
          rintro d2 hd2
          have y2 := m_yy_w y1 hd2
          refine x_iconst dX12_years_54 ?_
          refine x_istore dX12_years_55 (Nat.le_of_ble_eq_true rfl) rfl x_set_7_5 ?_
          exact inner 0 (Nat.zero_le _) d2 y2
      refine x_aload_n dX12_years_5 x_get_7_0 ?_
      refine x_iload_n dX12_years_6 x_get_7_3 ?_
      refine x_iconst dX12_years_7 ?_
      refine x_callV (As := [_, _]) dX12_years_8 w_12_365 (m_isWhatT hl q0.1 t0 hwr ⟨by decide, by decide⟩ hw) (by assumption) (by assumption) rfl rfl (Nat.le_of_ble_eq_true rfl) (Nat.le_of_ble_eq_true rfl) (Nat.le_of_ble_eq_true rfl) (Nat.le_of_ble_eq_true rfl) (Nat.le_of_ble_eq_true rfl) ?_
      intro dz hdz
      obtain rfl := Eq.symm hdz
      refine r_if_eq (t := 24) dX12_years_11 rfl ⟨by omega, by omega⟩ (fun hc11 => absurd hc11 (by omega)) (fun hc11 => ?_)
      refine x_aload_n dX12_years_14 x_get_7_0 ?_
      refine x_iload_n dX12_years_15 x_get_7_2 ?_
      refine x_iconst dX12_years_16 ?_
      refine x_iconst dX12_years_17 ?_
      refine x_callV (As := [_, _, _]) dX12_years_18 w_12_386 (m_isDaysT hl q0.1 t0 hnr ⟨by decide, by decide⟩ hn) (by assumption) (by assumption) rfl rfl (Nat.le_of_ble_eq_true rfl) (Nat.le_of_ble_eq_true rfl) (Nat.le_of_ble_eq_true rfl) (Nat.le_of_ble_eq_true rfl) (Nat.le_of_ble_eq_true rfl) ?_
      intro dz hdz
      obtain rfl := Eq.symm hdz
      refine r_if_ne (t := 26) dX12_years_21 rfl ⟨by omega, by omega⟩ (fun hc21 => ?_) (fun hc21 => absurd hc21 (by omega))
      refine x_aload_n dX12_years_26 x_get_7_0 ?_
      refine x_callV (As := []) dX12_years_27 w_12_389 (m_tries hl q0 r0) (by assumption) (by assumption) rfl rfl (Nat.le_of_ble_eq_true rfl) (Nat.le_of_ble_eq_true rfl) (Nat.le_of_ble_eq_true rfl) (Nat.le_of_ble_eq_true rfl) (Nat.le_of_ble_eq_true rfl) ?_
      rintro d1 hd1
      refine x_aload_n dX12_years_30 x_get_7_0 ?_
      refine x_iload_n dX12_years_31 x_get_7_1 ?_
      refine x_putI 56 dX12_years_32 fX_12_430 rfl tX_12_56 n62 s62 (by rfl) ?_
      refine x_iconst dX12_years_35 ?_
      refine x_istore dX12_years_36 (Nat.le_of_ble_eq_true rfl) rfl x_set_7_4 ?_
      refine hloop 0 (Nat.zero_le _) _ ?_
      exact m_yy_s (s := d0 62 56) ⟨fun j a _ _ _ => hd1.1 j a, fun i _ _ => by rw [hd1.1 62 (by decide)], by rw [hd1.1 62 (by decide)], hd1.2.1, hd1.2.2, by rw [hd1.1 84 (by decide)]; exact v0⟩
    · rw [if_neg hn]
      refine x_ofW (by decide +kernel) hl (by simp [Value.category]) (by simp) ?_
      refine x_aload_n dX12_years_0 x_get_7_0 ?_
      refine x_iconst dX12_years_1 ?_
      refine x_putI 0 dX12_years_2 fX_12_117 rfl tX_12_0 n62 s62 (by rfl) ?_
      have z0 := m_go0 hq hr hv84
      generalize x_up D 62 (x_u1 (D 62) 0 0) = d0 at z0 ⊢
      obtain ⟨q0, t0, ms0, r0, v0⟩ := z0
      refine x_aload_n dX12_years_5 x_get_7_0 ?_
      refine x_iload_n dX12_years_6 x_get_7_3 ?_
      refine x_iconst dX12_years_7 ?_
      refine x_callV (As := [_, _]) dX12_years_8 w_12_365 (m_isWhatT hl q0.1 t0 hwr ⟨by decide, by decide⟩ hw) (by assumption) (by assumption) rfl rfl (Nat.le_of_ble_eq_true rfl) (Nat.le_of_ble_eq_true rfl) (Nat.le_of_ble_eq_true rfl) (Nat.le_of_ble_eq_true rfl) (Nat.le_of_ble_eq_true rfl) ?_
      intro dz hdz
      obtain rfl := Eq.symm hdz
      refine r_if_eq (t := 24) dX12_years_11 rfl ⟨by omega, by omega⟩ (fun hc11 => absurd hc11 (by omega)) (fun hc11 => ?_)
      refine x_aload_n dX12_years_14 x_get_7_0 ?_
      refine x_iload_n dX12_years_15 x_get_7_2 ?_
      refine x_iconst dX12_years_16 ?_
      refine x_iconst dX12_years_17 ?_
      refine x_callV (As := [_, _, _]) dX12_years_18 w_12_386 (m_isDaysF hl q0.1 t0 hnr ⟨by decide, by decide⟩ hn (by decide) (by decide)) (by assumption) (by assumption) rfl rfl (Nat.le_of_ble_eq_true rfl) (Nat.le_of_ble_eq_true rfl) (Nat.le_of_ble_eq_true rfl) (Nat.le_of_ble_eq_true rfl) (Nat.le_of_ble_eq_true rfl) ?_
      intro dz hdz
      obtain rfl := Eq.symm hdz
      refine r_if_ne (t := 26) dX12_years_21 rfl ⟨by omega, by omega⟩ (fun hc21 => absurd hc21 (by omega)) (fun hc21 => ?_)
      refine x_iconst dX12_years_24 ?_
      exact x_iret dX12_years_25 rfl (Nat.le_of_ble_eq_true rfl) (Nat.le_of_ble_eq_true rfl) rfl rfl rfl ⟨ms_thr ms0, by rw [x_up_s, x_u1_s, m_k_I]⟩ rfl
  · rw [if_neg hw]
    refine x_ofW (by decide +kernel) hl (by simp [Value.category]) (by simp) ?_
    refine x_aload_n dX12_years_0 x_get_7_0 ?_
    refine x_iconst dX12_years_1 ?_
    refine x_putI 0 dX12_years_2 fX_12_117 rfl tX_12_0 n62 s62 (by rfl) ?_
    have z0 := m_go0 hq hr hv84
    generalize x_up D 62 (x_u1 (D 62) 0 0) = d0 at z0 ⊢
    obtain ⟨q0, t0, ms0, r0, v0⟩ := z0
    refine x_aload_n dX12_years_5 x_get_7_0 ?_
    refine x_iload_n dX12_years_6 x_get_7_3 ?_
    refine x_iconst dX12_years_7 ?_
    refine x_callV (As := [_, _]) dX12_years_8 w_12_365 (m_isWhatF hl q0.1 t0 hwr ⟨by decide, by decide⟩ hw) (by assumption) (by assumption) rfl rfl (Nat.le_of_ble_eq_true rfl) (Nat.le_of_ble_eq_true rfl) (Nat.le_of_ble_eq_true rfl) (Nat.le_of_ble_eq_true rfl) (Nat.le_of_ble_eq_true rfl) ?_
    intro dz hdz
    obtain rfl := Eq.symm hdz
    refine r_if_eq (t := 24) dX12_years_11 rfl ⟨by omega, by omega⟩ (fun hc11 => ?_) (fun hc11 => absurd hc11 (by omega))
    refine x_iconst dX12_years_24 ?_
    exact x_iret dX12_years_25 rfl (Nat.le_of_ble_eq_true rfl) (Nat.le_of_ble_eq_true rfl) rfl rfl rfl ⟨ms_thr ms0, by rw [x_up_s, x_u1_s, m_k_N]⟩ rfl
end M70
