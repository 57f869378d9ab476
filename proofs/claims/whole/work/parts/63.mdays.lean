section M63
/-! ===== the Model's days ===== -/
def m_dy (T C : Nat) (b : Int) (f' : Int → Int) (D d : xM) : Prop := (∀ j, j ≠ 82 → j ≠ 62 → j ≠ 84 → j ≠ 85 → d j = D j) ∧ (∀ i, i ≠ 47 → d 62 i = D 62 i) ∧ mr T C f' (d 82) b ∧ m_fr b (D 82) (d 82) ∧ ∀ j, x_r (d 84 j)
theorem m_dy_mq {N : Nat} {sh : xS} {D d : xM} {T C W : Nat} {G : Ldt} {b : Int} {f : Int → Int} (h : mq N sh D T C W G) (hw : m_dy T C b f D d) : mq N sh d T C W G := mq_of h (fun i _ _ => hw.2.1 i (by omega)) (fun j a b => hw.1 j (by omega) (by omega) (by omega) (by omega))
theorem m_dy_rf {T C : Nat} {b : Int} {f : Int → Int} {D : xM} (h : mr T C f (D 82) b) (hv : ∀ j, x_r (D 84 j)) : m_dy T C b f D D := ⟨fun _ _ _ _ _ => rfl, fun _ _ => rfl, h, m_fr_refl, hv⟩
theorem m_dy_w {T C : Nat} {b : Int} {f f' : Int → Int} {D d d2 : xM} (h : m_dy T C b f D d) (h2 : m_w T C b f' d d2) : m_dy T C b f' D d2 := ⟨fun j a b c e => by rw [h2.1 j a]; exact h.1 j a b c e, fun i hi => by rw [h2.1 62 (by decide)]; exact h.2.1 i hi, h2.2.1, m_fr_tr h.2.2.2.1 h2.2.2, by rw [h2.1 84 (by decide)]; exact h.2.2.2.2⟩
theorem m_dy_o {T C : Nat} {b : Int} {f : Int → Int} {D d d2 : xM} (h : m_dy T C b f D d) (h2 : m_od d d2) (hv : ∀ j, x_r (d2 84 j)) : m_dy T C b f D d2 := ⟨fun j a b c e => by rw [m_od_n h2 c e]; exact h.1 j a b c e, fun i hi => by rw [m_od_n h2 (by decide) (by decide)]; exact h.2.1 i hi, by rw [m_od_n h2 (by decide) (by decide)]; exact h.2.2.1, by rw [m_od_n h2 (by decide) (by decide)]; exact h.2.2.2.1, hv⟩
theorem m_dy_47 {T C : Nat} {b v : Int} {f : Int → Int} {D d : xM} (h : m_dy T C b f D d) : m_dy T C b f D (x_up d 62 (x_u1 (d 62) 47 v)) := ⟨fun j a b c e => by rw [x_up_n b]; exact h.1 j a b c e, fun i hi => by rw [x_up_s, x_u1_n hi]; exact h.2.1 i hi, by rw [x_up_n (by decide)]; exact h.2.2.1, by rw [x_up_n (by decide)]; exact h.2.2.2.1, by rw [x_up_n (by decide)]; exact h.2.2.2.2⟩
theorem m_dy_tr {T C : Nat} {b : Int} {f f' : Int → Int} {D d d2 : xM} (h : m_dy T C b f D d) (h2 : m_dy T C b f' d d2) : m_dy T C b f' D d2 := ⟨fun j a b c e => by rw [h2.1 j a b c e]; exact h.1 j a b c e, fun i hi => by rw [h2.2.1 i hi]; exact h.2.1 i hi, h2.2.2.1, m_fr_tr h.2.2.2.1 h2.2.2.2.1, h2.2.2.2.2⟩
/-- who wins on a day -/
abbrev w_p (G : Ldt) (f : Int → Int) : Nat → Prop := fun t => p_win G (s_plays G f t) t
theorem x_cpy_s {F G : Int → Int} {sp dp : Int} {k : Nat} : x_u1 (x_cpy F G sp dp k) (dp + k) (F (sp + k)) = x_cpy F G sp dp ((k + 1 : Nat) : Int) := by
  funext j
  unfold x_u1 x_cpy
  by_cases h : j = dp + k
  · rw [if_pos h, if_pos (by push_cast; omega), h]
    congr 1
    omega
  · rw [if_neg h]
    by_cases h2 : dp ≤ j ∧ j < dp + k
    · rw [if_pos h2, if_pos (by push_cast; omega)]
    · rw [if_neg h2, if_neg (by push_cast; omega)]
theorem x_cpy_0 {F G : Int → Int} {sp dp : Int} : x_cpy F G sp dp ((0 : Nat) : Int) = G := by
  funext j
  unfold x_cpy
  rw [if_neg (by omega)]
theorem x_cpy_out {F G : Int → Int} {sp dp k j : Int} (h : j < dp ∨ dp + k ≤ j) : x_cpy F G sp dp k j = G j := if_neg (by omega)
theorem x_cpy_in {F G : Int → Int} {sp dp k i : Int} (h0 : 0 ≤ i) (h1 : i < k) : x_cpy F G sp dp k (dp + i) = F (sp + i) := by
  unfold x_cpy
  rw [if_pos (by omega)]
  congr 1
  omega
theorem lv_in {T C : Nat} (hT : T ≤ 8) (hC : C ≤ 10) {i : Int} (h : lv T C i) : 0 ≤ i ∧ i < 85 := by unfold lv at h; omega
theorem mr_cpy {T C : Nat} (hT : T ≤ 8) (hC : C ≤ 10) {f F G : Int → Int} {sp dp : Int} (h : mr T C f F sp) : mr T C f (x_cpy F G sp dp 85) dp := by
  intro i hi
  have := lv_in hT hC hi
  rw [x_cpy_in this.1 this.2]
  exact h i hi
theorem w_12_326 : x_cv RX12 326 yX12_cratesGo cX12_cratesGo 3 (none) 12 1 := ⟨⟨_, rfl, rfl⟩, (x_in 1764 (by decide +kernel) rfl), (x_in 1766 (by decide +kernel) rfl), (x_in 57 (by decide +kernel) rfl), (x_in 90 (by decide +kernel) rfl), (x_in 1767 (by decide +kernel) rfl), by decide, ⟨by decide +kernel, by decide +kernel, by decide +kernel⟩⟩
theorem w_12_332 : x_cv RX12 332 yX12_makesLuck cX12_makesLuck 3 (none) 12 2 := ⟨⟨_, rfl, rfl⟩, (x_in 1768 (by decide +kernel) rfl), (x_in 1770 (by decide +kernel) rfl), (x_in 58 (by decide +kernel) rfl), (x_in 90 (by decide +kernel) rfl), (x_in 1771 (by decide +kernel) rfl), by decide, ⟨by decide +kernel, by decide +kernel, by decide +kernel⟩⟩
theorem w_12_336 : x_cv RX12 336 yX12_oddsOf cX12_oddsOf 5 (some .int) 12 2 := ⟨⟨_, rfl, rfl⟩, (x_in 1719 (by decide +kernel) rfl), (x_in 1721 (by decide +kernel) rfl), (x_in 50 (by decide +kernel) rfl), (x_in 90 (by decide +kernel) rfl), (x_in 1722 (by decide +kernel) rfl), by decide, ⟨by decide +kernel, by decide +kernel, by decide +kernel⟩⟩
theorem w_12_339 : x_cv RX12 339 yX12_stakes cX12_stakes 5 (none) 12 3 := ⟨⟨_, rfl, rfl⟩, (x_in 1772 (by decide +kernel) rfl), (x_in 1774 (by decide +kernel) rfl), (x_in 59 (by decide +kernel) rfl), (x_in 90 (by decide +kernel) rfl), (x_in 1775 (by decide +kernel) rfl), by decide, ⟨by decide +kernel, by decide +kernel, by decide +kernel⟩⟩
theorem w_12_343 : x_cv RX12 343 yX12_dayGoes cX12_dayGoes 4 (none) 12 1 := ⟨⟨_, rfl, rfl⟩, (x_in 1760 (by decide +kernel) rfl), (x_in 1762 (by decide +kernel) rfl), (x_in 56 (by decide +kernel) rfl), (x_in 90 (by decide +kernel) rfl), (x_in 1763 (by decide +kernel) rfl), by decide, ⟨by decide +kernel, by decide +kernel, by decide +kernel⟩⟩
set_option maxHeartbeats 4000000 in
theorem m_dayGoes {X : xC} {l : Launch} (hl : l.stackTraces = false) {N : Nat} {sh : xS} {D : xM} {T C W : Nat} {G : Ldt} (hq : mq N sh D T C W G) {B : Int} {f : Int → Int} (hk : s_ok B f) (hB : B ≤ 800000) {b : Int} (hb : b = 0 ∨ b = 85) (hr : mr T C f (D 82) b) (hv84 : ∀ j, x_r (D 84 j)) : x_M X l yX12_dayGoes cX12_dayGoes 4 (none) 4 0 0 [.ref (x_b X + 62), .int (xI b)] false N sh D (.inl none) false N sh (fun d => m_dy T C b (s_day G T C f) D d ∧ d 62 47 = ((s_bits (w_p G (s_mv f C)) T : Nat) : Int)) := by
  obtain ⟨hM, hT, hTb, hW, hWb, hC, hCb, hmk, ⟨hG1, hG2, hG3⟩, hod⟩ := id hq
  have s62 := md_62 hM
  have n62 : 62 < N := md_n hM (by decide)
  have s82 := md_82 hM
  have n82 : 82 < N := md_n hM (by decide)
  have hkm := s_ok_plays (s_ok_mv hk C hCb) hG1 hG2
  have hloop : ∀ k : Nat, k ≤ T → ∀ d : xM, m_dy T C b (s_plays G (s_mv f C) k) D d → d 62 47 = ((s_bits (w_p G (s_mv f C)) k : Nat) : Int) → x_W (X, l, yX12_dayGoes, cX12_dayGoes, 4, none, x_room 4 0 0, 0, 0, (.inl none), N, sh, (fun d => m_dy T C b (s_day G T C f) D d ∧ d 62 47 = ((s_bits (w_p G (s_mv f C)) T : Nat) : Int)), false, []) 12 [some (.ref (x_b X + 62)), some (.int (xI b)), some (.int (xI (k : Int))), none] [] 0 0 false N sh d := by
    refine x_down T ?_ ?_
    · intro d hd hw
      have hT2 : d 62 1 = T := by rw [hd.2.1 1 (by decide)]; exact hT
      have e0 : d 82 (b + 0) = (s_plays G (s_mv f C) T) 0 := by rw [Int.add_zero]; exact mr_0 hd.2.2.1 rfl
      refine x_iload_n dX12_dayGoes_12 x_get_4_2 ?_
      refine x_aload_n dX12_dayGoes_13 x_get_4_0 ?_
      refine x_getI 1 dX12_dayGoes_14 fX_12_281 rfl n62 s62 (by rfl) ?_
      try simp (disch := decide) only [x_up_s, x_up_n, x_up_up, x_u1_s, x_u1_n, hT2, e0]
      refine r_icmp_ge (t := 76) dX12_dayGoes_17 rfl ⟨by omega, by omega⟩ ⟨by omega, by omega⟩ (fun hc17 => ?_) (fun hc17 => absurd hc17 (by omega))
      refine x_aload_n dX12_dayGoes_76 x_get_4_0 ?_
      refine x_getR dX12_dayGoes_77 fX_12_75 n62 s62 (by rfl) ?_
      refine x_iload_n dX12_dayGoes_80 x_get_4_1 ?_
      refine x_iconst dX12_dayGoes_81 ?_
      refine x_iadd dX12_dayGoes_82 ?_
      refine x_dup2 dX12_dayGoes_83 rfl rfl ?_
      refine x_iald dX12_dayGoes_84 n82 s82 (by omega) (by omega) (by decide) ?_
      try simp (disch := decide) only [x_up_s, x_up_n, x_up_up, x_u1_s, x_u1_n, hT2, e0]
      refine x_iconst dX12_dayGoes_85 ?_
      refine x_iadd dX12_dayGoes_86 ?_
      refine x_iast dX12_dayGoes_87 n82 s82 (by omega) (by omega) (by decide) ?_
      exact x_vret dX12_dayGoes_88 rfl (Nat.le_of_ble_eq_true rfl) (Nat.le_of_ble_eq_true rfl) rfl rfl rfl ⟨m_dy_w hd (m_w_u1 (m_w_rf hd.2.2.1) (k := 0) rfl (by decide) (by decide)), by rw [x_up_n (by decide)]; exact hw⟩ rfl
    · intro k hk2 ih d hd hw
      have hT2 : d 62 1 = T := by rw [hd.2.1 1 (by decide)]; exact hT
      have hks := hkm k (by omega)
      have hq2 := m_dy_mq hq hd
      have hgo := hG3 (s_add (s_plays G (s_mv f C) k) (1 + (k : Int)) (G.1 k)) k
      have hka := s_ok_add hks (c := 1 + (k : Int)) (q := G.1 k) (by omega) (by omega) (hG1 k).1
      have hpl1 : (s_plays G (s_mv f C) (k + 1)) = s_play G (s_plays G (s_mv f C) k) k := rfl
      have tailT : (w_p G (s_mv f C) k) → ∀ d2 : xM, m_dy T C b (s_add (s_plays G (s_mv f C) k) (1 + (k : Int)) (G.1 k)) D d2 → d2 62 47 = ((s_bits (w_p G (s_mv f C)) k : Nat) : Int) → x_W (X, l, yX12_dayGoes, cX12_dayGoes, 4, none, x_room 4 0 0, 0, 0, (.inl none), N, sh, (fun d => m_dy T C b (s_day G T C f) D d ∧ d 62 47 = ((s_bits (w_p G (s_mv f C)) T : Nat) : Int)), false, []) 43 [some (.ref (x_b X + 62)), some (.int (xI b)), some (.int (xI (k : Int))), some (.int (xI 1))] [] 0 0 false N sh d2 := by
        intro hp d2 hd2 hw2
        have hq3 := m_dy_mq hq hd2
        refine x_aload_n dX12_dayGoes_43 x_get_4_0 ?_
        refine x_dup dX12_dayGoes_44 rfl ?_
        refine x_getI 47 dX12_dayGoes_45 fX_12_329 rfl n62 s62 (by rfl) ?_
        try simp (disch := decide) only [x_up_s, x_up_n, x_up_up, x_u1_s, x_u1_n, hw2]
        refine x_iload_n dX12_dayGoes_48 x_get_4_3 ?_
        refine r_if_eq (t := 58) dX12_dayGoes_49 rfl ⟨by omega, by omega⟩ (fun hc49 => absurd hc49 (by omega)) (fun hc49 => ?_)
        refine x_iconst dX12_dayGoes_52 ?_
        refine x_iload_n dX12_dayGoes_53 x_get_4_2 ?_
        refine x_ishl dX12_dayGoes_54 ?_
        refine x_goto (t := 59) dX12_dayGoes_55 rfl ?_
        refine x_ior dX12_dayGoes_59 ?_
        refine x_as_is (s_bits_or (w_p G (s_mv f C)) (by omega) hp) ?_
        refine x_putI 47 dX12_dayGoes_60 fX_12_329 rfl tX_12_47 n62 s62 (by rfl) ?_
        refine x_aload_n dX12_dayGoes_63 x_get_4_0 ?_
        refine x_iload_n dX12_dayGoes_64 x_get_4_1 ?_
        refine x_iload_n dX12_dayGoes_65 x_get_4_2 ?_
        refine x_iload_n dX12_dayGoes_66 x_get_4_3 ?_
        refine x_callV (As := [_, _, _]) dX12_dayGoes_67 w_12_339 (m_stakesT hl (m_dy_mq hq (m_dy_47 hd2)) hka (by omega) hb (m_dy_47 hd2).2.2.1 (t := (k : Int)) (by omega) (by omega)) (by assumption) (by assumption) rfl rfl (Nat.le_of_ble_eq_true rfl) (Nat.le_of_ble_eq_true rfl) (Nat.le_of_ble_eq_true rfl) (Nat.le_of_ble_eq_true rfl) (Nat.le_of_ble_eq_true rfl) ?_
        rintro d3 hd3
        refine x_iinc dX12_dayGoes_70 x_get_4_2 (Nat.le_of_ble_eq_true rfl) rfl x_set_4_2 ?_
        refine x_goto (t := 12) dX12_dayGoes_73 rfl ?_
        refine x_forget 3 ?_
        have hpe : (s_plays G (s_mv f C) (k + 1)) = s_evn (s_win (s_add (s_plays G (s_mv f C) k) (1 + (k : Int)) (G.1 k)) k (G.2.1 k)) k := by
          rw [hpl1]
          unfold s_play s_stl
          rw [if_pos hp]
        refine ih d3 (by rw [hpe]; exact m_dy_w (m_dy_47 hd2) hd3) (by rw [hd3.1 62 (by decide), x_up_s, x_u1_s])
      have tailF : ¬ (w_p G (s_mv f C) k) → ∀ d2 : xM, m_dy T C b (s_add (s_plays G (s_mv f C) k) (1 + (k : Int)) (G.1 k)) D d2 → d2 62 47 = ((s_bits (w_p G (s_mv f C)) k : Nat) : Int) → x_W (X, l, yX12_dayGoes, cX12_dayGoes, 4, none, x_room 4 0 0, 0, 0, (.inl none), N, sh, (fun d => m_dy T C b (s_day G T C f) D d ∧ d 62 47 = ((s_bits (w_p G (s_mv f C)) T : Nat) : Int)), false, []) 43 [some (.ref (x_b X + 62)), some (.int (xI b)), some (.int (xI (k : Int))), some (.int (xI 0))] [] 0 0 false N sh d2 := by
        intro hp d2 hd2 hw2
        have hq3 := m_dy_mq hq hd2
        refine x_aload_n dX12_dayGoes_43 x_get_4_0 ?_
        refine x_dup dX12_dayGoes_44 rfl ?_
        refine x_getI 47 dX12_dayGoes_45 fX_12_329 rfl n62 s62 (by rfl) ?_
        try simp (disch := decide) only [x_up_s, x_up_n, x_up_up, x_u1_s, x_u1_n, hw2]
        refine x_iload_n dX12_dayGoes_48 x_get_4_3 ?_
        refine r_if_eq (t := 58) dX12_dayGoes_49 rfl ⟨by omega, by omega⟩ (fun hc49 => ?_) (fun hc49 => absurd hc49 (by omega))
        refine x_iconst dX12_dayGoes_58 ?_
        refine x_ior dX12_dayGoes_59 ?_
        refine x_as_is (s_bits_or0 (w_p G (s_mv f C)) (by omega) hp) ?_
        refine x_putI 47 dX12_dayGoes_60 fX_12_329 rfl tX_12_47 n62 s62 (by rfl) ?_
        refine x_aload_n dX12_dayGoes_63 x_get_4_0 ?_
        refine x_iload_n dX12_dayGoes_64 x_get_4_1 ?_
        refine x_iload_n dX12_dayGoes_65 x_get_4_2 ?_
        refine x_iload_n dX12_dayGoes_66 x_get_4_3 ?_
        refine x_callV (As := [_, _, _]) dX12_dayGoes_67 w_12_339 (m_stakesF hl (m_dy_mq hq (m_dy_47 hd2)) hka (by omega) hb (m_dy_47 hd2).2.2.1 (t := (k : Int)) (by omega) (by omega)) (by assumption) (by assumption) rfl rfl (Nat.le_of_ble_eq_true rfl) (Nat.le_of_ble_eq_true rfl) (Nat.le_of_ble_eq_true rfl) (Nat.le_of_ble_eq_true rfl) (Nat.le_of_ble_eq_true rfl) ?_
        rintro d3 hd3
        refine x_iinc dX12_dayGoes_70 x_get_4_2 (Nat.le_of_ble_eq_true rfl) rfl x_set_4_2 ?_
        refine x_goto (t := 12) dX12_dayGoes_73 rfl ?_
        refine x_forget 3 ?_
        have hpe : (s_plays G (s_mv f C) (k + 1)) = s_evn (s_los (s_add (s_plays G (s_mv f C) k) (1 + (k : Int)) (G.1 k)) k (G.2.1 k)) k := by
          rw [hpl1]
          unfold s_play s_stl
          rw [if_neg hp]
        refine ih d3 (by rw [hpe]; exact m_dy_w (m_dy_47 hd2) hd3) (by rw [hd3.1 62 (by decide), x_up_s, x_u1_s])
      refine x_iload_n dX12_dayGoes_12 x_get_4_2 ?_
      refine x_aload_n dX12_dayGoes_13 x_get_4_0 ?_
      refine x_getI 1 dX12_dayGoes_14 fX_12_281 rfl n62 s62 (by rfl) ?_
      try simp (disch := decide) only [x_up_s, x_up_n, x_up_up, x_u1_s, x_u1_n, hT2]
      refine r_icmp_ge (t := 76) dX12_dayGoes_17 rfl ⟨by omega, by omega⟩ ⟨by omega, by omega⟩ (fun hc17 => absurd hc17 (by omega)) (fun hc17 => ?_)
      refine x_aload_n dX12_dayGoes_20 x_get_4_0 ?_
      refine x_iload_n dX12_dayGoes_21 x_get_4_1 ?_
      refine x_iload_n dX12_dayGoes_22 x_get_4_2 ?_
      refine x_callV (As := [_, _]) dX12_dayGoes_23 w_12_332 (m_makesLuck hl hq2 hks (by omega) hb hd.2.2.1 (t := (k : Int)) (by omega) (by omega)) (by assumption) (by assumption) rfl rfl (Nat.le_of_ble_eq_true rfl) (Nat.le_of_ble_eq_true rfl) (Nat.le_of_ble_eq_true rfl) (Nat.le_of_ble_eq_true rfl) (Nat.le_of_ble_eq_true rfl) ?_
      rintro d1 hd1
      refine x_aload_n dX12_dayGoes_26 x_get_4_0 ?_
      refine x_iload_n dX12_dayGoes_27 x_get_4_1 ?_
      refine x_iload_n dX12_dayGoes_28 x_get_4_2 ?_
      refine x_callV (As := [_, _]) dX12_dayGoes_29 w_12_336 (m_oddsOf hl (m_w_mq hq2 hd1) hka (by omega) hb hd1.2.1 (t := (k : Int)) (by omega) (by omega) (by rw [hd1.1 84 (by decide)]; exact hd.2.2.2.2)) (by assumption) (by assumption) rfl rfl (Nat.le_of_ble_eq_true rfl) (Nat.le_of_ble_eq_true rfl) (Nat.le_of_ble_eq_true rfl) (Nat.le_of_ble_eq_true rfl) (Nat.le_of_ble_eq_true rfl) ?_
      rintro d2 ⟨ho, hv2⟩
      have hd2 := m_dy_o (m_dy_w hd hd1) ho hv2
      have hw2 : d2 62 47 = ((s_bits (w_p G (s_mv f C)) k : Nat) : Int) := by rw [m_od_n ho (by decide) (by decide), hd1.1 62 (by decide)]; exact hw
      refine x_bipush dX12_dayGoes_32 rfl ?_
      refine r_icmp_lt (t := 41) dX12_dayGoes_34 rfl ⟨by omega, by omega⟩ ⟨by omega, by omega⟩ (fun hc34 => ?_) (fun hc34 => ?_)
      · refine x_iconst dX12_dayGoes_41 ?_
        refine x_istore_n dX12_dayGoes_42 (Nat.le_of_ble_eq_true rfl) rfl x_set_4_3 ?_
        first | exact tailT (by show 7 ≤ _; omega) d2 hd2 hw2 | exact tailF (by show ¬ 7 ≤ _; omega) d2 hd2 hw2
      · refine x_iconst dX12_dayGoes_37 ?_
        refine x_goto (t := 42) dX12_dayGoes_38 rfl ?_
        refine x_istore_n dX12_dayGoes_42 (Nat.le_of_ble_eq_true rfl) rfl x_set_4_3 ?_
        first | exact tailT (by show 7 ≤ _; omega) d2 hd2 hw2 | exact tailF (by show ¬ 7 ≤ _; omega) d2 hd2 hw2
  refine x_ofW (by decide +kernel) hl (by simp [Value.category]) (by simp) ?_
  refine x_aload_n dX12_dayGoes_0 x_get_4_0 ?_
  refine x_iload_n dX12_dayGoes_1 x_get_4_1 ?_
  refine x_callV (As := [_]) dX12_dayGoes_2 w_12_326 (m_cratesGo hl hq hk (by omega) hb hr) (by assumption) (by assumption) rfl rfl (Nat.le_of_ble_eq_true rfl) (Nat.le_of_ble_eq_true rfl) (Nat.le_of_ble_eq_true rfl) (Nat.le_of_ble_eq_true rfl) (Nat.le_of_ble_eq_true rfl) ?_
  rintro d1 hd1
  refine x_aload_n dX12_dayGoes_5 x_get_4_0 ?_
  refine x_iconst dX12_dayGoes_6 ?_
  refine x_putI 47 dX12_dayGoes_7 fX_12_329 rfl tX_12_47 n62 s62 (by rfl) ?_
  refine x_iconst dX12_dayGoes_10 ?_
  refine x_istore_n dX12_dayGoes_11 (Nat.le_of_ble_eq_true rfl) rfl x_set_4_2 ?_
  exact hloop 0 (Nat.zero_le _) _ (m_dy_47 (m_dy_w (m_dy_rf hr hv84) hd1)) (by rw [x_up_s, x_u1_s]; rfl)
theorem m_daysGo {X : xC} {l : Launch} (hl : l.stackTraces = false) {N : Nat} {sh : xS} {D : xM} {T C W : Nat} {G : Ldt} (hq : mq N sh D T C W G) {B : Int} {f : Int → Int} (hk : s_ok B f) {n : Nat} (hB : B + 161 * n ≤ 800000) (hr : mr T C f (D 82) 85) (hv84 : ∀ j, x_r (D 84 j)) : x_M X l yX12_daysGo cX12_daysGo 3 (none) 5 0 0 [.ref (x_b X + 62), .int (xI (n : Int))] false N sh D (.inl none) false N sh (m_dy T C 85 (s_days G T C f n) D) := by
  obtain ⟨hM, hT, hTb, hW, hWb, hC, hCb, hmk, ⟨hG1, hG2, hG3⟩, hod⟩ := id hq
  have hn : (n : Int) ≤ 6000 ∨ ¬ (n : Int) ≤ 6000 := by omega
  have hB0 : 0 ≤ B := by have := (hk 0).1 rfl; omega
  have hloop : ∀ k : Nat, k ≤ n → ∀ d : xM, m_dy T C 85 (s_days G T C f k) D d → x_W (X, l, yX12_daysGo, cX12_daysGo, 3, none, x_room 5 0 0, 0, 0, (.inl none), N, sh, (m_dy T C 85 (s_days G T C f n) D), false, []) 2 [some (.ref (x_b X + 62)), some (.int (xI (n : Int))), some (.int (xI (k : Int)))] [] 0 0 false N sh d := by
    refine x_down n ?_ ?_
    · intro d hd
      refine x_iload_n dX12_daysGo_2 x_get_3_2 ?_
      refine x_iload_n dX12_daysGo_3 x_get_3_1 ?_
      refine r_icmp_ge (t := 19) dX12_daysGo_4 rfl ⟨by omega, by omega⟩ ⟨by omega, by omega⟩ (fun hc4 => ?_) (fun hc4 => absurd hc4 (by omega))
      exact x_vret dX12_daysGo_19 rfl (Nat.le_of_ble_eq_true rfl) (Nat.le_of_ble_eq_true rfl) rfl rfl rfl hd rfl
    · intro k hk2 ih d hd
      have hks := s_ok_days hk hG1 hG2 hTb hCb k
      have s62 := md_62 hM
      have n62 : 62 < N := md_n hM (by decide)
      refine x_iload_n dX12_daysGo_2 x_get_3_2 ?_
      refine x_iload_n dX12_daysGo_3 x_get_3_1 ?_
      refine r_icmp_ge (t := 19) dX12_daysGo_4 rfl ⟨by omega, by omega⟩ ⟨by omega, by omega⟩ (fun hc4 => absurd hc4 (by omega)) (fun hc4 => ?_)
      refine x_aload_n dX12_daysGo_7 x_get_3_0 ?_
      refine x_bipush dX12_daysGo_8 rfl ?_
      refine x_callV (As := [_]) dX12_daysGo_10 w_12_343 (m_dayGoes hl (m_dy_mq hq hd) hks (by omega) (Or.inr rfl) hd.2.2.1 hd.2.2.2.2) (by assumption) (by assumption) rfl rfl (Nat.le_of_ble_eq_true rfl) (Nat.le_of_ble_eq_true rfl) (Nat.le_of_ble_eq_true rfl) (Nat.le_of_ble_eq_true rfl) (Nat.le_of_ble_eq_true rfl) ?_
      rintro d2 ⟨hd2, -⟩
      refine x_iinc dX12_daysGo_13 x_get_3_2 (Nat.le_of_ble_eq_true rfl) rfl x_set_3_2 ?_
      refine x_goto (t := 2) dX12_daysGo_16 rfl ?_
      exact ih d2 (m_dy_tr hd hd2)
  refine x_ofW (by decide +kernel) hl (by simp [Value.category]) (by simp) ?_
  refine x_iconst dX12_daysGo_0 ?_
  refine x_istore_n dX12_daysGo_1 (Nat.le_of_ble_eq_true rfl) rfl x_set_3_2 ?_
  exact hloop 0 (Nat.zero_le _) D (m_dy_rf hr hv84)
theorem m_allOf {X : xC} {l : Launch} (hl : l.stackTraces = false) {N : Nat} {sh : xS} {D : xM} {T C W : Nat} {G : Ldt} (hq : mq N sh D T C W G) {B : Int} {f : Int → Int} (hk : s_ok B f) (hB : B ≤ 1000000) {b : Int} (hb : b = 0 ∨ b = 85) (hr : mr T C f (D 82) b) {k m : Int} (hm : m = b + k) (hk3 : k = 1 ∨ k = 9 ∨ k = 17) : x_M X l yX12_allOf cX12_allOf 4 (some .int) 1 0 0 [.ref (x_b X + 62), .int (xI m)] false N sh D (.inl (some (.int (xI (x_sum (fun i => f (k + i)) T))))) false N sh (x_is (D)) := by
  obtain ⟨hM, hT, hTb, hW, hWb, hC, hCb, hmk, ⟨hG1, hG2, hG3⟩, hod⟩ := id hq
  have s62 := md_62 hM
  have n62 : 62 < N := md_n hM (by decide)
  have s82 := md_82 hM
  have n82 : 82 < N := md_n hM (by decide)
  have hloop : ∀ i : Nat, i ≤ T → x_W (X, l, yX12_allOf, cX12_allOf, 4, (some .int), x_room 1 0 0, 0, 0, (.inl (some (.int (xI (x_sum (fun i => f (k + i)) T))))), N, sh, (x_is (D)), false, []) 4 [some (.ref (x_b X + 62)), some (.int (xI m)), some (.int (xI (x_sum (fun i => f (k + i)) i))), some (.int (xI (i : Int)))] [] 0 0 false N sh D := by
    refine x_down T ?_ ?_
    · refine x_iload_n dX12_allOf_4 x_get_4_3 ?_
      refine x_aload_n dX12_allOf_5 x_get_4_0 ?_
      refine x_getI 1 dX12_allOf_6 fX_12_281 rfl n62 s62 (by rfl) ?_
      try simp (disch := decide) only [x_up_s, x_up_n, x_up_up, x_u1_s, x_u1_n, hT]
      refine r_icmp_ge (t := 29) dX12_allOf_9 rfl ⟨by omega, by omega⟩ ⟨by omega, by omega⟩ (fun hc9 => ?_) (fun hc9 => absurd hc9 (by omega))
      refine x_iload_n dX12_allOf_29 x_get_4_2 ?_
      exact x_iret dX12_allOf_30 rfl (Nat.le_of_ble_eq_true rfl) (Nat.le_of_ble_eq_true rfl) rfl rfl rfl rfl rfl
    · intro i hi ih
      have e := mr_t hr hm hk3 (t := (i : Int)) (by omega) (by omega)
      rw [x_sum_s] at ih
      refine x_iload_n dX12_allOf_4 x_get_4_3 ?_
      refine x_aload_n dX12_allOf_5 x_get_4_0 ?_
      refine x_getI 1 dX12_allOf_6 fX_12_281 rfl n62 s62 (by rfl) ?_
      try simp (disch := decide) only [x_up_s, x_up_n, x_up_up, x_u1_s, x_u1_n, hT, e]
      refine r_icmp_ge (t := 29) dX12_allOf_9 rfl ⟨by omega, by omega⟩ ⟨by omega, by omega⟩ (fun hc9 => absurd hc9 (by omega)) (fun hc9 => ?_)
      refine x_iload_n dX12_allOf_12 x_get_4_2 ?_
      refine x_aload_n dX12_allOf_13 x_get_4_0 ?_
      refine x_getR dX12_allOf_14 fX_12_75 n62 s62 (by rfl) ?_
      refine x_iload_n dX12_allOf_17 x_get_4_1 ?_
      refine x_iload_n dX12_allOf_18 x_get_4_3 ?_
      refine x_iadd dX12_allOf_19 ?_
      refine x_iald dX12_allOf_20 n82 s82 (by omega) (by omega) (by decide) ?_
      try simp (disch := decide) only [x_up_s, x_up_n, x_up_up, x_u1_s, x_u1_n, hT, e]
      refine x_iadd dX12_allOf_21 ?_
      refine x_istore_n dX12_allOf_22 (Nat.le_of_ble_eq_true rfl) rfl x_set_4_2 ?_
      refine x_iinc dX12_allOf_23 x_get_4_3 (Nat.le_of_ble_eq_true rfl) rfl x_set_4_3 ?_
      refine x_goto (t := 4) dX12_allOf_26 rfl ?_
      exact ih
  refine x_ofW (by decide +kernel) hl (by simp [Value.category]) (by simp) ?_
  refine x_iconst dX12_allOf_0 ?_
  refine x_istore_n dX12_allOf_1 (Nat.le_of_ble_eq_true rfl) rfl x_set_4_2 ?_
  refine x_iconst dX12_allOf_2 ?_
  refine x_istore_n dX12_allOf_3 (Nat.le_of_ble_eq_true rfl) rfl x_set_4_3 ?_
  exact hloop 0 (Nat.zero_le _)
theorem m_tries {X : xC} {l : Launch} (hl : l.stackTraces = false) {N : Nat} {sh : xS} {D : xM} {T C W : Nat} {G : Ldt} (hq : mq N sh D T C W G) {f : Int → Int} (hr : mr T C f (D 82) 0) : x_M X l yX12_tries cX12_tries 2 (none) 1 0 0 [.ref (x_b X + 62)] false N sh D (.inl none) false N sh (m_w T C 85 f D) := by
  obtain ⟨hM, hT, hTb, hW, hWb, hC, hCb, hmk, ⟨hG1, hG2, hG3⟩, hod⟩ := id hq
  have s62 := md_62 hM
  have n62 : 62 < N := md_n hM (by decide)
  have s82 := md_82 hM
  have n82 : 82 < N := md_n hM (by decide)
  have hloop : ∀ k : Nat, k ≤ 85 → x_W (X, l, yX12_tries, cX12_tries, 2, none, x_room 1 0 0, 0, 0, (.inl none), N, sh, (m_w T C 85 f D), false, []) 2 [some (.ref (x_b X + 62)), some (.int (xI (k : Int)))] [] 0 0 false N sh (x_up D 82 (x_cpy (D 82) (D 82) 0 85 ((k : Nat) : Int))) := by
    refine x_down 85 ?_ ?_
    · refine x_iload_n dX12_tries_2 x_get_2_1 ?_
      refine x_bipush dX12_tries_3 rfl ?_
      refine r_icmp_ge (t := 29) dX12_tries_5 rfl ⟨by omega, by omega⟩ ⟨by omega, by omega⟩ (fun hc5 => ?_) (fun hc5 => absurd hc5 (by omega))
      exact x_vret dX12_tries_29 rfl (Nat.le_of_ble_eq_true rfl) (Nat.le_of_ble_eq_true rfl) rfl rfl rfl ⟨fun j hj => x_up_n hj, by rw [x_up_s]; exact mr_cpy hTb hCb hr, by rw [x_up_s]; exact fun i hi => x_cpy_out hi⟩ rfl
    · intro k hk ih
      have e : (x_cpy (D 82) (D 82) 0 85 ((k : Nat) : Int)) (k : Int) = D 82 (k : Int) := x_cpy_out (by omega)
      rw [← x_cpy_s, Int.zero_add] at ih
      refine x_iload_n dX12_tries_2 x_get_2_1 ?_
      refine x_bipush dX12_tries_3 rfl ?_
      refine r_icmp_ge (t := 29) dX12_tries_5 rfl ⟨by omega, by omega⟩ ⟨by omega, by omega⟩ (fun hc5 => absurd hc5 (by omega)) (fun hc5 => ?_)
      refine x_aload_n dX12_tries_8 x_get_2_0 ?_
      refine x_getR dX12_tries_9 fX_12_75 n62 s62 (by rfl) ?_
      refine x_bipush dX12_tries_12 rfl ?_
      refine x_iload_n dX12_tries_14 x_get_2_1 ?_
      refine x_iadd dX12_tries_15 ?_
      refine x_aload_n dX12_tries_16 x_get_2_0 ?_
      refine x_getR dX12_tries_17 fX_12_75 n62 s62 (by rfl) ?_
      refine x_iload_n dX12_tries_20 x_get_2_1 ?_
      refine x_iald dX12_tries_21 n82 s82 (by omega) (by omega) (by decide) ?_
      try simp (disch := decide) only [x_up_s, x_up_n, x_up_up, x_u1_s, x_u1_n, e]
      refine x_iast dX12_tries_22 n82 s82 (by omega) (by omega) (by decide) ?_
      try simp (disch := decide) only [x_up_s, x_up_n, x_up_up, x_u1_s, x_u1_n, e]
      refine x_iinc dX12_tries_23 x_get_2_1 (Nat.le_of_ble_eq_true rfl) rfl x_set_2_1 ?_
      refine x_goto (t := 2) dX12_tries_26 rfl ?_
      exact ih
  refine x_ofW (by decide +kernel) hl (by simp [Value.category]) (by simp) ?_
  refine x_iconst dX12_tries_0 ?_
  refine x_istore_n dX12_tries_1 (Nat.le_of_ble_eq_true rfl) rfl x_set_2_1 ?_
  refine x_mem (show D = x_up D 82 (x_cpy (D 82) (D 82) 0 85 ((0 : Nat) : Int)) by rw [x_cpy_0, x_up_id]) (hloop 0 (Nat.zero_le _))
end M63
