section M66
/-! ===== the Model's questions ahead ===== -/
theorem dy0 {T C : Nat} {f : Int → Int} {D d : xM} (h : m_dy T C 85 f D d) (t0 : D 62 0 = 0) : d 62 0 = 0 := by rw [h.2.1 0 (by decide)]; exact t0
theorem m_bt_wp {G : Ldt} {C T : Nat} (hG : gO G C) {t : Nat} (ht : t < T) (hT : T ≤ 8) {f : Int → Int} (n : Nat) : m_bt (s_bits (w_p G (s_mv (s_days G T C f n) C)) T) t = x_B (p_twin G C (s_towns G C f t n) t) := by
  have h := w_p_days hG ht hT (f := f) n
  unfold m_bt x_B
  by_cases hp : p_twin G C (s_towns G C f t n) t
  · rw [if_pos hp, if_pos (s_bits_set (h.mpr hp) ht)]
  · rw [if_neg hp, if_neg (fun hb => hp (h.mp (s_bits_bit hb).1))]
theorem s_bits_8 {p : Nat → Prop} [DecidablePred p] {T : Nat} (hT : T ≤ 8) : s_bits p T < 1024 := Nat.lt_of_lt_of_le (s_bits_lt p T) (Nat.le_trans (Nat.pow_le_pow_right (by decide) hT) (by decide))
theorem l_best_2 {r : Int → Int} : ∀ t : Nat, ((l_best r t).1 = -1 ∧ t = 0) ∨ (0 ≤ (l_best r t).1 ∧ (l_best r t).1 < t ∧ (l_best r t).2 = r (17 + (l_best r t).1))
  | 0 => Or.inl ⟨rfl, rfl⟩
  | t + 1 => by
    have ih := l_best_2 (r := r) t
    rw [l_best_s]
    by_cases h : (l_best r t).1 = -1 ∨ (l_best r t).2 < r (17 + t)
    · rw [if_pos h]
      exact Or.inr ⟨by show (0 : Int) ≤ t; omega, by show (t : Int) < _; push_cast; omega, rfl⟩
    · rw [if_neg h]
      rcases ih with ih | ih
      · exact absurd (Or.inl ih.1) h
      · exact Or.inr ⟨ih.1, by have := ih.2.1; push_cast; omega, ih.2.2⟩
def d_b (z : Int) : Int := if z = 0 then -1 else z
theorem l_day_1 {T C : Nat} {G : Ldt} {f : Int → Int} : ∀ k : Nat, 0 ≤ (l_day T C G f k).1 ∧ (l_day T C G f k).1 ≤ k ∧ (0 < k → 0 < (l_day T C G f k).1)
  | 0 => ⟨by simp [l_day], by simp [l_day], fun h => by omega⟩
  | k + 1 => by
    have ih := l_day_1 (T := T) (C := C) (G := G) (f := f) k
    rw [l_day_s]
    split
    · refine ⟨?_, ?_, ?_⟩ <;> simp only <;> omega
    · next h => exact ⟨ih.1, by have := ih.2.1; push_cast; omega, fun _ => by have := ih.1; omega⟩
theorem w_12_386 : x_cv RX12 386 yX12_isDays cX12_isDays 4 (some .boolean) 12 3 := ⟨⟨_, rfl, rfl⟩, (x_in 1811 (by decide +kernel) rfl), (x_in 1813 (by decide +kernel) rfl), (x_in 63 (by decide +kernel) rfl), (x_in 90 (by decide +kernel) rfl), (x_in 1814 (by decide +kernel) rfl), by decide, ⟨by decide +kernel, by decide +kernel, by decide +kernel⟩⟩
theorem w_12_389 : x_cv RX12 389 yX12_tries cX12_tries 2 (none) 12 0 := ⟨⟨_, rfl, rfl⟩, (x_in 1815 (by decide +kernel) rfl), (x_in 1817 (by decide +kernel) rfl), (x_in 64 (by decide +kernel) rfl), (x_in 90 (by decide +kernel) rfl), (x_in 1818 (by decide +kernel) rfl), by decide, ⟨by decide +kernel, by decide +kernel, by decide +kernel⟩⟩
theorem w_12_392 : x_cv RX12 392 yX12_daysGo cX12_daysGo 3 (none) 12 1 := ⟨⟨_, rfl, rfl⟩, (x_in 1819 (by decide +kernel) rfl), (x_in 1821 (by decide +kernel) rfl), (x_in 65 (by decide +kernel) rfl), (x_in 90 (by decide +kernel) rfl), (x_in 1822 (by decide +kernel) rfl), by decide, ⟨by decide +kernel, by decide +kernel, by decide +kernel⟩⟩
set_option maxHeartbeats 4000000 in
theorem m_then {X : xC} {l : Launch} (hl : l.stackTraces = false) {N : Nat} {sh : xS} {D : xM} {T C W : Nat} {G : Ldt} (hq : mq N sh D T C W G) {B : Int} {f : Int → Int} (hk : s_ok B f) (hB : B ≤ 200000) (hr : mr T C f (D 82) 0) (hv84 : ∀ j, x_r (D 84 j)) {t n w : Int} (htr : x_r t) (hnr : x_r n) (hwr : x_r w) : x_M X l yX12_then cX12_then 4 (some .int) 7 0 0 [.ref (x_b X + 62), .int (xI t), .int (xI n), .int (xI w)] false N sh D (m_r (q_then T C G f t n w)) false N sh (fun d => ms D d ∧ d 62 0 = m_k 2 (q_then T C G f t n w)) := by
  obtain ⟨hM, hT, hTb, hW, hWb, hC, hCb, hmk, ⟨hG1, hG2, hG3⟩, hod⟩ := id hq
  have s62 := md_62 hM
  have n62 : 62 < N := md_n hM (by decide)
  have s82 := md_82 hM
  have n82 : 82 < N := md_n hM (by decide)
  have hO := mq_gO hq
  unfold q_then
  by_cases ht : 0 ≤ t ∧ t < T
  · rw [if_pos ht]
    obtain ⟨ht0, ht1⟩ := id ht
    by_cases hw : 0 ≤ w ∧ w ≤ 3
    · rw [if_pos hw]
      obtain ⟨hw0, hw1⟩ := id hw
      by_cases hn : 0 ≤ n ∧ n ≤ 60
      · rw [if_pos hn]
        obtain ⟨hn0, hn1⟩ := id hn
        obtain ⟨tn, rfl⟩ := Int.eq_ofNat_of_zero_le ht0
        obtain ⟨m, rfl⟩ := Int.eq_ofNat_of_zero_le hn0
        rw [Int.toNat_natCast]
        have htt : tn < T := by omega
        obtain ⟨g1, g2, g3, g4⟩ := s_days_t hO htt hTb (f := f) m
        rw [← g1, ← g2, ← g3, ← g4]
        have hc : w = 0 ∨ w = 1 ∨ w = 2 ∨ w = 3 := by omega
        rcases hc with rfl | rfl | rfl | rfl
        · show x_M X l yX12_then cX12_then 4 (some .int) 7 0 0 [.ref (x_b X + 62), .int (xI (tn : Int)), .int (xI (m : Int)), .int (xI 0)] false N sh D (m_r (o_i (s_days G T C f m (1 + (tn : Int))))) false N sh (fun d => ms D d ∧ d 62 0 = m_k 2 (o_i (s_days G T C f m (1 + (tn : Int)))))
          rw [m_r_i, m_k_i]
          refine x_ofW (by decide +kernel) hl (by simp [Value.category]) (by simp) ?_
          refine x_aload_n dX12_then_0 x_get_4_0 ?_
          refine x_iconst dX12_then_1 ?_
          refine x_putI 0 dX12_then_2 fX_12_117 rfl tX_12_0 n62 s62 (by rfl) ?_
          have z0 := m_go0 hq hr hv84
          generalize x_up D 62 (x_u1 (D 62) 0 0) = d0 at z0 ⊢
          obtain ⟨q0, t0, ms0, r0, v0⟩ := z0
          refine x_aload_n dX12_then_5 x_get_4_0 ?_
          refine x_iload_n dX12_then_6 x_get_4_1 ?_
          refine x_callV (As := [_]) dX12_then_7 w_12_362 (m_isTownT hl q0 t0 ht) (by assumption) (by assumption) rfl rfl (Nat.le_of_ble_eq_true rfl) (Nat.le_of_ble_eq_true rfl) (Nat.le_of_ble_eq_true rfl) (Nat.le_of_ble_eq_true rfl) (Nat.le_of_ble_eq_true rfl) ?_
          intro dz hdz
          obtain rfl := Eq.symm hdz
          refine r_if_eq (t := 32) dX12_then_10 rfl ⟨by omega, by omega⟩ (fun hc10 => absurd hc10 (by omega)) (fun hc10 => ?_)
          refine x_aload_n dX12_then_13 x_get_4_0 ?_
          refine x_iload_n dX12_then_14 x_get_4_3 ?_
          refine x_iconst dX12_then_15 ?_
          refine x_callV (As := [_, _]) dX12_then_16 w_12_365 (m_isWhatT hl q0.1 t0 ⟨by decide, by decide⟩ ⟨by decide, by decide⟩ ⟨by decide, by decide⟩) (by assumption) (by assumption) rfl rfl (Nat.le_of_ble_eq_true rfl) (Nat.le_of_ble_eq_true rfl) (Nat.le_of_ble_eq_true rfl) (Nat.le_of_ble_eq_true rfl) (Nat.le_of_ble_eq_true rfl) ?_
          intro dz hdz
          obtain rfl := Eq.symm hdz
          refine r_if_eq (t := 32) dX12_then_19 rfl ⟨by omega, by omega⟩ (fun hc19 => absurd hc19 (by omega)) (fun hc19 => ?_)
          refine x_aload_n dX12_then_22 x_get_4_0 ?_
          refine x_iload_n dX12_then_23 x_get_4_2 ?_
          refine x_iconst dX12_then_24 ?_
          refine x_iconst dX12_then_25 ?_
          refine x_callV (As := [_, _, _]) dX12_then_26 w_12_386 (m_isDaysT hl q0.1 t0 hnr ⟨by decide, by decide⟩ hn) (by assumption) (by assumption) rfl rfl (Nat.le_of_ble_eq_true rfl) (Nat.le_of_ble_eq_true rfl) (Nat.le_of_ble_eq_true rfl) (Nat.le_of_ble_eq_true rfl) (Nat.le_of_ble_eq_true rfl) ?_
          intro dz hdz
          obtain rfl := Eq.symm hdz
          refine r_if_ne (t := 34) dX12_then_29 rfl ⟨by omega, by omega⟩ (fun hc29 => ?_) (fun hc29 => absurd hc29 (by omega))
          refine x_aload_n dX12_then_34 x_get_4_0 ?_
          refine x_callV (As := []) dX12_then_35 w_12_389 (m_tries hl q0 r0) (by assumption) (by assumption) rfl rfl (Nat.le_of_ble_eq_true rfl) (Nat.le_of_ble_eq_true rfl) (Nat.le_of_ble_eq_true rfl) (Nat.le_of_ble_eq_true rfl) (Nat.le_of_ble_eq_true rfl) ?_
          rintro d1 hd1
          have y1 := m_dy_of hd1 v0
          refine x_aload_n dX12_then_38 x_get_4_0 ?_
          refine x_iload_n dX12_then_39 x_get_4_2 ?_
          refine x_callV (As := [_]) dX12_then_40 w_12_392 (m_daysGo hl (m_dy_mq q0 y1) hk (n := m) (by omega) y1.2.2.1 y1.2.2.2.2) (by assumption) (by assumption) rfl rfl (Nat.le_of_ble_eq_true rfl) (Nat.le_of_ble_eq_true rfl) (Nat.le_of_ble_eq_true rfl) (Nat.le_of_ble_eq_true rfl) (Nat.le_of_ble_eq_true rfl) ?_
          rintro d2 hd2
          have y2 := m_dy_tr y1 hd2
          have e1 : d2 82 (86 + (tn : Int)) = s_days G T C f m (1 + (tn : Int)) := mr_t y2.2.2.1 rfl (by decide) (by omega) (by omega)
          have e9 : d2 82 (94 + (tn : Int)) = s_days G T C f m (9 + (tn : Int)) := mr_t y2.2.2.1 rfl (by decide) (by omega) (by omega)
          have e17 : d2 82 (102 + (tn : Int)) = s_days G T C f m (17 + (tn : Int)) := mr_t y2.2.2.1 rfl (by decide) (by omega) (by omega)
          refine x_iload_n dX12_then_43 x_get_4_3 ?_
          refine r_if_ne (t := 59) dX12_then_44 rfl ⟨by omega, by omega⟩ (fun hc44 => absurd hc44 (by omega)) (fun hc44 => ?_)
          refine x_aload_n dX12_then_47 x_get_4_0 ?_
          refine x_getR dX12_then_48 fX_12_75 n62 s62 (by rfl) ?_
          refine x_bipush dX12_then_51 rfl ?_
          refine x_iload_n dX12_then_53 x_get_4_1 ?_
          refine x_iadd dX12_then_54 ?_
          refine x_iald dX12_then_55 n82 s82 (by omega) (by omega) (by decide) ?_
          try simp (disch := decide) only [x_up_s, x_up_n, x_up_up, x_u1_s, x_u1_n, e1, e9, e17]
          refine x_goto (t := 100) dX12_then_56 rfl ?_
          exact x_iret dX12_then_100 rfl (Nat.le_of_ble_eq_true rfl) (Nat.le_of_ble_eq_true rfl) rfl rfl rfl ⟨ms_dy ms0 y2, dy0 y2 t0⟩ rfl
        · show x_M X l yX12_then cX12_then 4 (some .int) 7 0 0 [.ref (x_b X + 62), .int (xI (tn : Int)), .int (xI (m : Int)), .int (xI 1)] false N sh D (m_r (o_i (s_days G T C f m (9 + (tn : Int))))) false N sh (fun d => ms D d ∧ d 62 0 = m_k 2 (o_i (s_days G T C f m (9 + (tn : Int)))))
          rw [m_r_i, m_k_i]
          refine x_ofW (by decide +kernel) hl (by simp [Value.category]) (by simp) ?_
          refine x_aload_n dX12_then_0 x_get_4_0 ?_
          refine x_iconst dX12_then_1 ?_
          refine x_putI 0 dX12_then_2 fX_12_117 rfl tX_12_0 n62 s62 (by rfl) ?_
          have z0 := m_go0 hq hr hv84
          generalize x_up D 62 (x_u1 (D 62) 0 0) = d0 at z0 ⊢
          obtain ⟨q0, t0, ms0, r0, v0⟩ := z0
          refine x_aload_n dX12_then_5 x_get_4_0 ?_
          refine x_iload_n dX12_then_6 x_get_4_1 ?_
          refine x_callV (As := [_]) dX12_then_7 w_12_362 (m_isTownT hl q0 t0 ht) (by assumption) (by assumption) rfl rfl (Nat.le_of_ble_eq_true rfl) (Nat.le_of_ble_eq_true rfl) (Nat.le_of_ble_eq_true rfl) (Nat.le_of_ble_eq_true rfl) (Nat.le_of_ble_eq_true rfl) ?_
          intro dz hdz
          obtain rfl := Eq.symm hdz
          refine r_if_eq (t := 32) dX12_then_10 rfl ⟨by omega, by omega⟩ (fun hc10 => absurd hc10 (by omega)) (fun hc10 => ?_)
          refine x_aload_n dX12_then_13 x_get_4_0 ?_
          refine x_iload_n dX12_then_14 x_get_4_3 ?_
          refine x_iconst dX12_then_15 ?_
          refine x_callV (As := [_, _]) dX12_then_16 w_12_365 (m_isWhatT hl q0.1 t0 ⟨by decide, by decide⟩ ⟨by decide, by decide⟩ ⟨by decide, by decide⟩) (by assumption) (by assumption) rfl rfl (Nat.le_of_ble_eq_true rfl) (Nat.le_of_ble_eq_true rfl) (Nat.le_of_ble_eq_true rfl) (Nat.le_of_ble_eq_true rfl) (Nat.le_of_ble_eq_true rfl) ?_
          intro dz hdz
          obtain rfl := Eq.symm hdz
          refine r_if_eq (t := 32) dX12_then_19 rfl ⟨by omega, by omega⟩ (fun hc19 => absurd hc19 (by omega)) (fun hc19 => ?_)
          refine x_aload_n dX12_then_22 x_get_4_0 ?_
          refine x_iload_n dX12_then_23 x_get_4_2 ?_
          refine x_iconst dX12_then_24 ?_
          refine x_iconst dX12_then_25 ?_
          refine x_callV (As := [_, _, _]) dX12_then_26 w_12_386 (m_isDaysT hl q0.1 t0 hnr ⟨by decide, by decide⟩ hn) (by assumption) (by assumption) rfl rfl (Nat.le_of_ble_eq_true rfl) (Nat.le_of_ble_eq_true rfl) (Nat.le_of_ble_eq_true rfl) (Nat.le_of_ble_eq_true rfl) (Nat.le_of_ble_eq_true rfl) ?_
          intro dz hdz
          obtain rfl := Eq.symm hdz
          refine r_if_ne (t := 34) dX12_then_29 rfl ⟨by omega, by omega⟩ (fun hc29 => ?_) (fun hc29 => absurd hc29 (by omega))
          refine x_aload_n dX12_then_34 x_get_4_0 ?_
          refine x_callV (As := []) dX12_then_35 w_12_389 (m_tries hl q0 r0) (by assumption) (by assumption) rfl rfl (Nat.le_of_ble_eq_true rfl) (Nat.le_of_ble_eq_true rfl) (Nat.le_of_ble_eq_true rfl) (Nat.le_of_ble_eq_true rfl) (Nat.le_of_ble_eq_true rfl) ?_
          rintro d1 hd1
          have y1 := m_dy_of hd1 v0
          refine x_aload_n dX12_then_38 x_get_4_0 ?_
          refine x_iload_n dX12_then_39 x_get_4_2 ?_
          refine x_callV (As := [_]) dX12_then_40 w_12_392 (m_daysGo hl (m_dy_mq q0 y1) hk (n := m) (by omega) y1.2.2.1 y1.2.2.2.2) (by assumption) (by assumption) rfl rfl (Nat.le_of_ble_eq_true rfl) (Nat.le_of_ble_eq_true rfl) (Nat.le_of_ble_eq_true rfl) (Nat.le_of_ble_eq_true rfl) (Nat.le_of_ble_eq_true rfl) ?_
          rintro d2 hd2
          have y2 := m_dy_tr y1 hd2
          have e1 : d2 82 (86 + (tn : Int)) = s_days G T C f m (1 + (tn : Int)) := mr_t y2.2.2.1 rfl (by decide) (by omega) (by omega)
          have e9 : d2 82 (94 + (tn : Int)) = s_days G T C f m (9 + (tn : Int)) := mr_t y2.2.2.1 rfl (by decide) (by omega) (by omega)
          have e17 : d2 82 (102 + (tn : Int)) = s_days G T C f m (17 + (tn : Int)) := mr_t y2.2.2.1 rfl (by decide) (by omega) (by omega)
          refine x_iload_n dX12_then_43 x_get_4_3 ?_
          refine r_if_ne (t := 59) dX12_then_44 rfl ⟨by omega, by omega⟩ (fun hc44 => ?_) (fun hc44 => absurd hc44 (by omega))
          refine x_iload_n dX12_then_59 x_get_4_3 ?_
          refine x_iconst dX12_then_60 ?_
          refine r_icmp_ne (t := 76) dX12_then_61 rfl ⟨by omega, by omega⟩ ⟨by omega, by omega⟩ (fun hc61 => absurd hc61 (by omega)) (fun hc61 => ?_)
          refine x_aload_n dX12_then_64 x_get_4_0 ?_
          refine x_getR dX12_then_65 fX_12_75 n62 s62 (by rfl) ?_
          refine x_bipush dX12_then_68 rfl ?_
          refine x_iload_n dX12_then_70 x_get_4_1 ?_
          refine x_iadd dX12_then_71 ?_
          refine x_iald dX12_then_72 n82 s82 (by omega) (by omega) (by decide) ?_
          try simp (disch := decide) only [x_up_s, x_up_n, x_up_up, x_u1_s, x_u1_n, e1, e9, e17]
          refine x_goto (t := 100) dX12_then_73 rfl ?_
          exact x_iret dX12_then_100 rfl (Nat.le_of_ble_eq_true rfl) (Nat.le_of_ble_eq_true rfl) rfl rfl rfl ⟨ms_dy ms0 y2, dy0 y2 t0⟩ rfl
        · show x_M X l yX12_then cX12_then 4 (some .int) 7 0 0 [.ref (x_b X + 62), .int (xI (tn : Int)), .int (xI (m : Int)), .int (xI 2)] false N sh D (m_r (o_i (s_days G T C f m (17 + (tn : Int))))) false N sh (fun d => ms D d ∧ d 62 0 = m_k 2 (o_i (s_days G T C f m (17 + (tn : Int)))))
          rw [m_r_i, m_k_i]
          refine x_ofW (by decide +kernel) hl (by simp [Value.category]) (by simp) ?_
          refine x_aload_n dX12_then_0 x_get_4_0 ?_
          refine x_iconst dX12_then_1 ?_
          refine x_putI 0 dX12_then_2 fX_12_117 rfl tX_12_0 n62 s62 (by rfl) ?_
          have z0 := m_go0 hq hr hv84
          generalize x_up D 62 (x_u1 (D 62) 0 0) = d0 at z0 ⊢
          obtain ⟨q0, t0, ms0, r0, v0⟩ := z0
          refine x_aload_n dX12_then_5 x_get_4_0 ?_
          refine x_iload_n dX12_then_6 x_get_4_1 ?_
          refine x_callV (As := [_]) dX12_then_7 w_12_362 (m_isTownT hl q0 t0 ht) (by assumption) (by assumption) rfl rfl (Nat.le_of_ble_eq_true rfl) (Nat.le_of_ble_eq_true rfl) (Nat.le_of_ble_eq_true rfl) (Nat.le_of_ble_eq_true rfl) (Nat.le_of_ble_eq_true rfl) ?_
          intro dz hdz
          obtain rfl := Eq.symm hdz
          refine r_if_eq (t := 32) dX12_then_10 rfl ⟨by omega, by omega⟩ (fun hc10 => absurd hc10 (by omega)) (fun hc10 => ?_)
          refine x_aload_n dX12_then_13 x_get_4_0 ?_
          refine x_iload_n dX12_then_14 x_get_4_3 ?_
          refine x_iconst dX12_then_15 ?_
          refine x_callV (As := [_, _]) dX12_then_16 w_12_365 (m_isWhatT hl q0.1 t0 ⟨by decide, by decide⟩ ⟨by decide, by decide⟩ ⟨by decide, by decide⟩) (by assumption) (by assumption) rfl rfl (Nat.le_of_ble_eq_true rfl) (Nat.le_of_ble_eq_true rfl) (Nat.le_of_ble_eq_true rfl) (Nat.le_of_ble_eq_true rfl) (Nat.le_of_ble_eq_true rfl) ?_
          intro dz hdz
          obtain rfl := Eq.symm hdz
          refine r_if_eq (t := 32) dX12_then_19 rfl ⟨by omega, by omega⟩ (fun hc19 => absurd hc19 (by omega)) (fun hc19 => ?_)
          refine x_aload_n dX12_then_22 x_get_4_0 ?_
          refine x_iload_n dX12_then_23 x_get_4_2 ?_
          refine x_iconst dX12_then_24 ?_
          refine x_iconst dX12_then_25 ?_
          refine x_callV (As := [_, _, _]) dX12_then_26 w_12_386 (m_isDaysT hl q0.1 t0 hnr ⟨by decide, by decide⟩ hn) (by assumption) (by assumption) rfl rfl (Nat.le_of_ble_eq_true rfl) (Nat.le_of_ble_eq_true rfl) (Nat.le_of_ble_eq_true rfl) (Nat.le_of_ble_eq_true rfl) (Nat.le_of_ble_eq_true rfl) ?_
          intro dz hdz
          obtain rfl := Eq.symm hdz
          refine r_if_ne (t := 34) dX12_then_29 rfl ⟨by omega, by omega⟩ (fun hc29 => ?_) (fun hc29 => absurd hc29 (by omega))
          refine x_aload_n dX12_then_34 x_get_4_0 ?_
          refine x_callV (As := []) dX12_then_35 w_12_389 (m_tries hl q0 r0) (by assumption) (by assumption) rfl rfl (Nat.le_of_ble_eq_true rfl) (Nat.le_of_ble_eq_true rfl) (Nat.le_of_ble_eq_true rfl) (Nat.le_of_ble_eq_true rfl) (Nat.le_of_ble_eq_true rfl) ?_
          rintro d1 hd1
          have y1 := m_dy_of hd1 v0
          refine x_aload_n dX12_then_38 x_get_4_0 ?_
          refine x_iload_n dX12_then_39 x_get_4_2 ?_
          refine x_callV (As := [_]) dX12_then_40 w_12_392 (m_daysGo hl (m_dy_mq q0 y1) hk (n := m) (by omega) y1.2.2.1 y1.2.2.2.2) (by assumption) (by assumption) rfl rfl (Nat.le_of_ble_eq_true rfl) (Nat.le_of_ble_eq_true rfl) (Nat.le_of_ble_eq_true rfl) (Nat.le_of_ble_eq_true rfl) (Nat.le_of_ble_eq_true rfl) ?_
          rintro d2 hd2
          have y2 := m_dy_tr y1 hd2
          have e1 : d2 82 (86 + (tn : Int)) = s_days G T C f m (1 + (tn : Int)) := mr_t y2.2.2.1 rfl (by decide) (by omega) (by omega)
          have e9 : d2 82 (94 + (tn : Int)) = s_days G T C f m (9 + (tn : Int)) := mr_t y2.2.2.1 rfl (by decide) (by omega) (by omega)
          have e17 : d2 82 (102 + (tn : Int)) = s_days G T C f m (17 + (tn : Int)) := mr_t y2.2.2.1 rfl (by decide) (by omega) (by omega)
          refine x_iload_n dX12_then_43 x_get_4_3 ?_
          refine r_if_ne (t := 59) dX12_then_44 rfl ⟨by omega, by omega⟩ (fun hc44 => ?_) (fun hc44 => absurd hc44 (by omega))
          refine x_iload_n dX12_then_59 x_get_4_3 ?_
          refine x_iconst dX12_then_60 ?_
          refine r_icmp_ne (t := 76) dX12_then_61 rfl ⟨by omega, by omega⟩ ⟨by omega, by omega⟩ (fun hc61 => ?_) (fun hc61 => absurd hc61 (by omega))
          refine x_iload_n dX12_then_76 x_get_4_3 ?_
          refine x_iconst dX12_then_77 ?_
          refine r_icmp_ne (t := 93) dX12_then_78 rfl ⟨by omega, by omega⟩ ⟨by omega, by omega⟩ (fun hc78 => absurd hc78 (by omega)) (fun hc78 => ?_)
          refine x_aload_n dX12_then_81 x_get_4_0 ?_
          refine x_getR dX12_then_82 fX_12_75 n62 s62 (by rfl) ?_
          refine x_bipush dX12_then_85 rfl ?_
          refine x_iload_n dX12_then_87 x_get_4_1 ?_
          refine x_iadd dX12_then_88 ?_
          refine x_iald dX12_then_89 n82 s82 (by omega) (by omega) (by decide) ?_
          try simp (disch := decide) only [x_up_s, x_up_n, x_up_up, x_u1_s, x_u1_n, e1, e9, e17]
          refine x_goto (t := 100) dX12_then_90 rfl ?_
          exact x_iret dX12_then_100 rfl (Nat.le_of_ble_eq_true rfl) (Nat.le_of_ble_eq_true rfl) rfl rfl rfl ⟨ms_dy ms0 y2, dy0 y2 t0⟩ rfl
        · show x_M X l yX12_then cX12_then 4 (some .int) 7 0 0 [.ref (x_b X + 62), .int (xI (tn : Int)), .int (xI (m : Int)), .int (xI 3)] false N sh D (m_r (o_i (G.2.2 (s_days G T C f m) (tn : Int)))) false N sh (fun d => ms D d ∧ d 62 0 = m_k 2 (o_i (G.2.2 (s_days G T C f m) (tn : Int))))
          rw [m_r_i, m_k_i]
          refine x_ofW (by decide +kernel) hl (by simp [Value.category]) (by simp) ?_
          refine x_aload_n dX12_then_0 x_get_4_0 ?_
          refine x_iconst dX12_then_1 ?_
          refine x_putI 0 dX12_then_2 fX_12_117 rfl tX_12_0 n62 s62 (by rfl) ?_
          have z0 := m_go0 hq hr hv84
          generalize x_up D 62 (x_u1 (D 62) 0 0) = d0 at z0 ⊢
          obtain ⟨q0, t0, ms0, r0, v0⟩ := z0
          refine x_aload_n dX12_then_5 x_get_4_0 ?_
          refine x_iload_n dX12_then_6 x_get_4_1 ?_
          refine x_callV (As := [_]) dX12_then_7 w_12_362 (m_isTownT hl q0 t0 ht) (by assumption) (by assumption) rfl rfl (Nat.le_of_ble_eq_true rfl) (Nat.le_of_ble_eq_true rfl) (Nat.le_of_ble_eq_true rfl) (Nat.le_of_ble_eq_true rfl) (Nat.le_of_ble_eq_true rfl) ?_
          intro dz hdz
          obtain rfl := Eq.symm hdz
          refine r_if_eq (t := 32) dX12_then_10 rfl ⟨by omega, by omega⟩ (fun hc10 => absurd hc10 (by omega)) (fun hc10 => ?_)
          refine x_aload_n dX12_then_13 x_get_4_0 ?_
          refine x_iload_n dX12_then_14 x_get_4_3 ?_
          refine x_iconst dX12_then_15 ?_
          refine x_callV (As := [_, _]) dX12_then_16 w_12_365 (m_isWhatT hl q0.1 t0 ⟨by decide, by decide⟩ ⟨by decide, by decide⟩ ⟨by decide, by decide⟩) (by assumption) (by assumption) rfl rfl (Nat.le_of_ble_eq_true rfl) (Nat.le_of_ble_eq_true rfl) (Nat.le_of_ble_eq_true rfl) (Nat.le_of_ble_eq_true rfl) (Nat.le_of_ble_eq_true rfl) ?_
          intro dz hdz
          obtain rfl := Eq.symm hdz
          refine r_if_eq (t := 32) dX12_then_19 rfl ⟨by omega, by omega⟩ (fun hc19 => absurd hc19 (by omega)) (fun hc19 => ?_)
          refine x_aload_n dX12_then_22 x_get_4_0 ?_
          refine x_iload_n dX12_then_23 x_get_4_2 ?_
          refine x_iconst dX12_then_24 ?_
          refine x_iconst dX12_then_25 ?_
          refine x_callV (As := [_, _, _]) dX12_then_26 w_12_386 (m_isDaysT hl q0.1 t0 hnr ⟨by decide, by decide⟩ hn) (by assumption) (by assumption) rfl rfl (Nat.le_of_ble_eq_true rfl) (Nat.le_of_ble_eq_true rfl) (Nat.le_of_ble_eq_true rfl) (Nat.le_of_ble_eq_true rfl) (Nat.le_of_ble_eq_true rfl) ?_
          intro dz hdz
          obtain rfl := Eq.symm hdz
          refine r_if_ne (t := 34) dX12_then_29 rfl ⟨by omega, by omega⟩ (fun hc29 => ?_) (fun hc29 => absurd hc29 (by omega))
          refine x_aload_n dX12_then_34 x_get_4_0 ?_
          refine x_callV (As := []) dX12_then_35 w_12_389 (m_tries hl q0 r0) (by assumption) (by assumption) rfl rfl (Nat.le_of_ble_eq_true rfl) (Nat.le_of_ble_eq_true rfl) (Nat.le_of_ble_eq_true rfl) (Nat.le_of_ble_eq_true rfl) (Nat.le_of_ble_eq_true rfl) ?_
          rintro d1 hd1
          have y1 := m_dy_of hd1 v0
          refine x_aload_n dX12_then_38 x_get_4_0 ?_
          refine x_iload_n dX12_then_39 x_get_4_2 ?_
          refine x_callV (As := [_]) dX12_then_40 w_12_392 (m_daysGo hl (m_dy_mq q0 y1) hk (n := m) (by omega) y1.2.2.1 y1.2.2.2.2) (by assumption) (by assumption) rfl rfl (Nat.le_of_ble_eq_true rfl) (Nat.le_of_ble_eq_true rfl) (Nat.le_of_ble_eq_true rfl) (Nat.le_of_ble_eq_true rfl) (Nat.le_of_ble_eq_true rfl) ?_
          rintro d2 hd2
          have y2 := m_dy_tr y1 hd2
          have e1 : d2 82 (86 + (tn : Int)) = s_days G T C f m (1 + (tn : Int)) := mr_t y2.2.2.1 rfl (by decide) (by omega) (by omega)
          have e9 : d2 82 (94 + (tn : Int)) = s_days G T C f m (9 + (tn : Int)) := mr_t y2.2.2.1 rfl (by decide) (by omega) (by omega)
          have e17 : d2 82 (102 + (tn : Int)) = s_days G T C f m (17 + (tn : Int)) := mr_t y2.2.2.1 rfl (by decide) (by omega) (by omega)
          refine x_iload_n dX12_then_43 x_get_4_3 ?_
          refine r_if_ne (t := 59) dX12_then_44 rfl ⟨by omega, by omega⟩ (fun hc44 => ?_) (fun hc44 => absurd hc44 (by omega))
          refine x_iload_n dX12_then_59 x_get_4_3 ?_
          refine x_iconst dX12_then_60 ?_
          refine r_icmp_ne (t := 76) dX12_then_61 rfl ⟨by omega, by omega⟩ ⟨by omega, by omega⟩ (fun hc61 => ?_) (fun hc61 => absurd hc61 (by omega))
          refine x_iload_n dX12_then_76 x_get_4_3 ?_
          refine x_iconst dX12_then_77 ?_
          refine r_icmp_ne (t := 93) dX12_then_78 rfl ⟨by omega, by omega⟩ ⟨by omega, by omega⟩ (fun hc78 => ?_) (fun hc78 => absurd hc78 (by omega))
          refine x_aload_n dX12_then_93 x_get_4_0 ?_
          refine x_bipush dX12_then_94 rfl ?_
          refine x_iload_n dX12_then_96 x_get_4_1 ?_
          refine x_callV (As := [_, _]) dX12_then_97 w_12_336 (m_oddsOf hl (m_dy_mq q0 y2) (s_ok_days hk hG1 hG2 hTb hCb m) (by omega) (Or.inr rfl) y2.2.2.1 (by omega) (by omega) y2.2.2.2.2) (by assumption) (by assumption) rfl rfl (Nat.le_of_ble_eq_true rfl) (Nat.le_of_ble_eq_true rfl) (Nat.le_of_ble_eq_true rfl) (Nat.le_of_ble_eq_true rfl) (Nat.le_of_ble_eq_true rfl) ?_
          rintro d3 ⟨ho, hv3⟩
          exact x_iret dX12_then_100 rfl (Nat.le_of_ble_eq_true rfl) (Nat.le_of_ble_eq_true rfl) rfl rfl rfl ⟨ms_od (ms_dy ms0 y2) ho hv3, by rw [m_od_n ho (by decide) (by decide)]; exact dy0 y2 t0⟩ rfl
      · rw [if_neg hn]
        refine x_ofW (by decide +kernel) hl (by simp [Value.category]) (by simp) ?_
        refine x_aload_n dX12_then_0 x_get_4_0 ?_
        refine x_iconst dX12_then_1 ?_
        refine x_putI 0 dX12_then_2 fX_12_117 rfl tX_12_0 n62 s62 (by rfl) ?_
        have z0 := m_go0 hq hr hv84
        generalize x_up D 62 (x_u1 (D 62) 0 0) = d0 at z0 ⊢
        obtain ⟨q0, t0, ms0, r0, v0⟩ := z0
        refine x_aload_n dX12_then_5 x_get_4_0 ?_
        refine x_iload_n dX12_then_6 x_get_4_1 ?_
        refine x_callV (As := [_]) dX12_then_7 w_12_362 (m_isTownT hl q0 t0 ht) (by assumption) (by assumption) rfl rfl (Nat.le_of_ble_eq_true rfl) (Nat.le_of_ble_eq_true rfl) (Nat.le_of_ble_eq_true rfl) (Nat.le_of_ble_eq_true rfl) (Nat.le_of_ble_eq_true rfl) ?_
        intro dz hdz
        obtain rfl := Eq.symm hdz
        refine r_if_eq (t := 32) dX12_then_10 rfl ⟨by omega, by omega⟩ (fun hc10 => absurd hc10 (by omega)) (fun hc10 => ?_)
        refine x_aload_n dX12_then_13 x_get_4_0 ?_
        refine x_iload_n dX12_then_14 x_get_4_3 ?_
        refine x_iconst dX12_then_15 ?_
        refine x_callV (As := [_, _]) dX12_then_16 w_12_365 (m_isWhatT hl q0.1 t0 hwr ⟨by decide, by decide⟩ hw) (by assumption) (by assumption) rfl rfl (Nat.le_of_ble_eq_true rfl) (Nat.le_of_ble_eq_true rfl) (Nat.le_of_ble_eq_true rfl) (Nat.le_of_ble_eq_true rfl) (Nat.le_of_ble_eq_true rfl) ?_
        intro dz hdz
        obtain rfl := Eq.symm hdz
        refine r_if_eq (t := 32) dX12_then_19 rfl ⟨by omega, by omega⟩ (fun hc19 => absurd hc19 (by omega)) (fun hc19 => ?_)
        refine x_aload_n dX12_then_22 x_get_4_0 ?_
        refine x_iload_n dX12_then_23 x_get_4_2 ?_
        refine x_iconst dX12_then_24 ?_
        refine x_iconst dX12_then_25 ?_
        refine x_callV (As := [_, _, _]) dX12_then_26 w_12_386 (m_isDaysF hl q0.1 t0 hnr ⟨by decide, by decide⟩ hn (by decide) (by decide)) (by assumption) (by assumption) rfl rfl (Nat.le_of_ble_eq_true rfl) (Nat.le_of_ble_eq_true rfl) (Nat.le_of_ble_eq_true rfl) (Nat.le_of_ble_eq_true rfl) (Nat.le_of_ble_eq_true rfl) ?_
        intro dz hdz
        obtain rfl := Eq.symm hdz
        refine r_if_ne (t := 34) dX12_then_29 rfl ⟨by omega, by omega⟩ (fun hc29 => absurd hc29 (by omega)) (fun hc29 => ?_)
        refine x_iconst dX12_then_32 ?_
        exact x_iret dX12_then_33 rfl (Nat.le_of_ble_eq_true rfl) (Nat.le_of_ble_eq_true rfl) rfl rfl rfl ⟨ms_thr ms0, by rw [x_up_s, x_u1_s, m_k_I]⟩ rfl
    · rw [if_neg hw]
      refine x_ofW (by decide +kernel) hl (by simp [Value.category]) (by simp) ?_
      refine x_aload_n dX12_then_0 x_get_4_0 ?_
      refine x_iconst dX12_then_1 ?_
      refine x_putI 0 dX12_then_2 fX_12_117 rfl tX_12_0 n62 s62 (by rfl) ?_
      have z0 := m_go0 hq hr hv84
      generalize x_up D 62 (x_u1 (D 62) 0 0) = d0 at z0 ⊢
      obtain ⟨q0, t0, ms0, r0, v0⟩ := z0
      refine x_aload_n dX12_then_5 x_get_4_0 ?_
      refine x_iload_n dX12_then_6 x_get_4_1 ?_
      refine x_callV (As := [_]) dX12_then_7 w_12_362 (m_isTownT hl q0 t0 ht) (by assumption) (by assumption) rfl rfl (Nat.le_of_ble_eq_true rfl) (Nat.le_of_ble_eq_true rfl) (Nat.le_of_ble_eq_true rfl) (Nat.le_of_ble_eq_true rfl) (Nat.le_of_ble_eq_true rfl) ?_
      intro dz hdz
      obtain rfl := Eq.symm hdz
      refine r_if_eq (t := 32) dX12_then_10 rfl ⟨by omega, by omega⟩ (fun hc10 => absurd hc10 (by omega)) (fun hc10 => ?_)
      refine x_aload_n dX12_then_13 x_get_4_0 ?_
      refine x_iload_n dX12_then_14 x_get_4_3 ?_
      refine x_iconst dX12_then_15 ?_
      refine x_callV (As := [_, _]) dX12_then_16 w_12_365 (m_isWhatF hl q0.1 t0 hwr ⟨by decide, by decide⟩ hw) (by assumption) (by assumption) rfl rfl (Nat.le_of_ble_eq_true rfl) (Nat.le_of_ble_eq_true rfl) (Nat.le_of_ble_eq_true rfl) (Nat.le_of_ble_eq_true rfl) (Nat.le_of_ble_eq_true rfl) ?_
      intro dz hdz
      obtain rfl := Eq.symm hdz
      refine r_if_eq (t := 32) dX12_then_19 rfl ⟨by omega, by omega⟩ (fun hc19 => ?_) (fun hc19 => absurd hc19 (by omega))
      refine x_iconst dX12_then_32 ?_
      exact x_iret dX12_then_33 rfl (Nat.le_of_ble_eq_true rfl) (Nat.le_of_ble_eq_true rfl) rfl rfl rfl ⟨ms_thr ms0, by rw [x_up_s, x_u1_s, m_k_N]⟩ rfl
  · rw [if_neg ht]
    refine x_ofW (by decide +kernel) hl (by simp [Value.category]) (by simp) ?_
    refine x_aload_n dX12_then_0 x_get_4_0 ?_
    refine x_iconst dX12_then_1 ?_
    refine x_putI 0 dX12_then_2 fX_12_117 rfl tX_12_0 n62 s62 (by rfl) ?_
    have z0 := m_go0 hq hr hv84
    generalize x_up D 62 (x_u1 (D 62) 0 0) = d0 at z0 ⊢
    obtain ⟨q0, t0, ms0, r0, v0⟩ := z0
    refine x_aload_n dX12_then_5 x_get_4_0 ?_
    refine x_iload_n dX12_then_6 x_get_4_1 ?_
    refine x_callV (As := [_]) dX12_then_7 w_12_362 (m_isTownF hl q0 t0 htr ht) (by assumption) (by assumption) rfl rfl (Nat.le_of_ble_eq_true rfl) (Nat.le_of_ble_eq_true rfl) (Nat.le_of_ble_eq_true rfl) (Nat.le_of_ble_eq_true rfl) (Nat.le_of_ble_eq_true rfl) ?_
    intro dz hdz
    obtain rfl := Eq.symm hdz
    refine r_if_eq (t := 32) dX12_then_10 rfl ⟨by omega, by omega⟩ (fun hc10 => ?_) (fun hc10 => absurd hc10 (by omega))
    refine x_iconst dX12_then_32 ?_
    exact x_iret dX12_then_33 rfl (Nat.le_of_ble_eq_true rfl) (Nat.le_of_ble_eq_true rfl) rfl rfl rfl ⟨ms_thr ms0, by rw [x_up_s, x_u1_s, m_k_N]⟩ rfl
theorem m_even {X : xC} {l : Launch} (hl : l.stackTraces = false) {N : Nat} {sh : xS} {D : xM} {T C W : Nat} {G : Ldt} (hq : mq N sh D T C W G) {B : Int} {f : Int → Int} (hk : s_ok B f) (hB : B ≤ 200000) (hr : mr T C f (D 82) 0) (hv84 : ∀ j, x_r (D 84 j)) {t : Int} (htr : x_r t) : x_M X l yX12_even cX12_even 3 (some .int) 7 0 0 [.ref (x_b X + 62), .int (xI t)] false N sh D (m_r (q_even T C G f t)) false N sh (fun d => ms D d ∧ d 62 0 = m_k 1 (q_even T C G f t)) := by
  obtain ⟨hM, hT, hTb, hW, hWb, hC, hCb, hmk, ⟨hG1, hG2, hG3⟩, hod⟩ := id hq
  have s62 := md_62 hM
  have n62 : 62 < N := md_n hM (by decide)
  have s82 := md_82 hM
  have n82 : 82 < N := md_n hM (by decide)
  have hO := mq_gO hq
  unfold q_even
  by_cases ht : 0 ≤ t ∧ t < T
  · rw [if_pos ht]
    obtain ⟨ht0, ht1⟩ := id ht
    obtain ⟨tn, rfl⟩ := Int.eq_ofNat_of_zero_le ht0
    have htt : tn < T := by omega
    rw [m_r_i, m_k_i]
    refine x_ofW (by decide +kernel) hl (by simp [Value.category]) (by simp) ?_
    refine x_aload_n dX12_even_0 x_get_3_0 ?_
    refine x_iconst dX12_even_1 ?_
    refine x_putI 0 dX12_even_2 fX_12_117 rfl tX_12_0 n62 s62 (by rfl) ?_
    have z0 := m_go0 hq hr hv84
    generalize x_up D 62 (x_u1 (D 62) 0 0) = d0 at z0 ⊢
    obtain ⟨q0, t0, ms0, r0, v0⟩ := z0
    have hloop : ∀ k : Nat, k ≤ 61 → ∀ d : xM, (∀ j : Nat, j < k → ¬ s_towns G C f (tn : Int) j (1 + (tn : Int)) = s_towns G C f (tn : Int) j (9 + (tn : Int))) → m_dy T C 85 (s_days G T C f k) d0 d → x_W (X, l, yX12_even, cX12_even, 3, (some .int), x_room 7 0 0, 0, 0, (.inl (some (.int (xI (x_first (fun k => s_towns G C f (tn : Int) k (1 + (tn : Int)) = s_towns G C f (tn : Int) k (9 + (tn : Int))) 61))))), N, sh, (fun d => ms D d ∧ d 62 0 = 0), false, []) 21 [some (.ref (x_b X + 62)), some (.int (xI (tn : Int))), some (.int (xI (k : Int)))] [] 0 0 false N sh d := by
      refine x_down 61 ?_ ?_
      · intro d hp hy
        refine x_iload_n dX12_even_21 x_get_3_2 ?_
        refine x_bipush dX12_even_22 rfl ?_
        refine r_icmp_gt (t := 62) dX12_even_24 rfl ⟨by omega, by omega⟩ ⟨by omega, by omega⟩ (fun hc24 => ?_) (fun hc24 => absurd hc24 (by omega))
        refine x_iconst dX12_even_62 ?_
        exact x_iret dX12_even_63 rfl (Nat.le_of_ble_eq_true rfl) (Nat.le_of_ble_eq_true rfl) (by rw [x_first_none hp]) rfl rfl ⟨ms_dy ms0 hy, dy0 hy t0⟩ rfl
      · intro k hk2 ih d hp hy
        have hks := s_ok_days hk hG1 hG2 hTb hCb k
        have htk := s_tn hks (t := (tn : Int)) (by omega) (by omega)
        obtain ⟨g1, g2, -, -⟩ := s_days_t hO htt hTb (f := f) k
        have e1 : d 82 (86 + (tn : Int)) = s_days G T C f k (1 + (tn : Int)) := mr_t hy.2.2.1 rfl (by decide) (by omega) (by omega)
        have e9 : d 82 (94 + (tn : Int)) = s_days G T C f k (9 + (tn : Int)) := mr_t hy.2.2.1 rfl (by decide) (by omega) (by omega)
        refine x_iload_n dX12_even_21 x_get_3_2 ?_
        refine x_bipush dX12_even_22 rfl ?_
        refine r_icmp_gt (t := 62) dX12_even_24 rfl ⟨by omega, by omega⟩ ⟨by omega, by omega⟩ (fun hc24 => absurd hc24 (by omega)) (fun hc24 => ?_)
        refine x_aload_n dX12_even_27 x_get_3_0 ?_
        refine x_getR dX12_even_28 fX_12_75 n62 s62 (by rfl) ?_
        refine x_bipush dX12_even_31 rfl ?_
        refine x_iload_n dX12_even_33 x_get_3_1 ?_
        refine x_iadd dX12_even_34 ?_
        refine x_iald dX12_even_35 n82 s82 (by omega) (by omega) (by decide) ?_
        try simp (disch := decide) only [x_up_s, x_up_n, x_up_up, x_u1_s, x_u1_n, e1, e9]
        refine x_aload_n dX12_even_36 x_get_3_0 ?_
        refine x_getR dX12_even_37 fX_12_75 n62 s62 (by rfl) ?_
        refine x_bipush dX12_even_40 rfl ?_
        refine x_iload_n dX12_even_42 x_get_3_1 ?_
        refine x_iadd dX12_even_43 ?_
        refine x_iald dX12_even_44 n82 s82 (by omega) (by omega) (by decide) ?_
        try simp (disch := decide) only [x_up_s, x_up_n, x_up_up, x_u1_s, x_u1_n, e1, e9]
        refine r_icmp_ne (t := 50) dX12_even_45 rfl ⟨by omega, by omega⟩ ⟨by omega, by omega⟩ (fun hc45 => ?_) (fun hc45 => ?_)
        · refine x_aload_n dX12_even_50 x_get_3_0 ?_
          refine x_bipush dX12_even_51 rfl ?_
          refine x_callV (As := [_]) dX12_even_53 w_12_343 (m_dayGoes hl (m_dy_mq q0 hy) (s_ok_days hk hG1 hG2 hTb hCb k) (by omega) (Or.inr rfl) hy.2.2.1 hy.2.2.2.2) (by assumption) (by assumption) rfl rfl (Nat.le_of_ble_eq_true rfl) (Nat.le_of_ble_eq_true rfl) (Nat.le_of_ble_eq_true rfl) (Nat.le_of_ble_eq_true rfl) (Nat.le_of_ble_eq_true rfl) ?_
          rintro d2 ⟨hy2, hw2⟩
          have hy3 := m_dy_tr hy hy2
          refine x_iinc dX12_even_56 x_get_3_2 (Nat.le_of_ble_eq_true rfl) rfl x_set_3_2 ?_
          refine x_goto (t := 21) dX12_even_59 rfl ?_
          refine ih d2 (fun j hj => ?_) hy3
          by_cases h : j = k
          · rw [h, ← g1, ← g2]; exact hc45
          · exact hp j (by omega)
        · refine x_iload_n dX12_even_48 x_get_3_2 ?_
          exact x_iret dX12_even_49 rfl (Nat.le_of_ble_eq_true rfl) (Nat.le_of_ble_eq_true rfl) (by rw [x_first_hit hp (by rw [← g1, ← g2]; exact hc45) hk2]) rfl rfl ⟨ms_dy ms0 hy, dy0 hy t0⟩ rfl
    refine x_aload_n dX12_even_5 x_get_3_0 ?_
    refine x_iload_n dX12_even_6 x_get_3_1 ?_
    refine x_callV (As := [_]) dX12_even_7 w_12_362 (m_isTownT hl q0 t0 ht) (by assumption) (by assumption) rfl rfl (Nat.le_of_ble_eq_true rfl) (Nat.le_of_ble_eq_true rfl) (Nat.le_of_ble_eq_true rfl) (Nat.le_of_ble_eq_true rfl) (Nat.le_of_ble_eq_true rfl) ?_
    intro dz hdz
    obtain rfl := Eq.symm hdz
    refine r_if_ne (t := 15) dX12_even_10 rfl ⟨by omega, by omega⟩ (fun hc10 => ?_) (fun hc10 => absurd hc10 (by omega))
    refine x_aload_n dX12_even_15 x_get_3_0 ?_
    refine x_callV (As := []) dX12_even_16 w_12_389 (m_tries hl q0 r0) (by assumption) (by assumption) rfl rfl (Nat.le_of_ble_eq_true rfl) (Nat.le_of_ble_eq_true rfl) (Nat.le_of_ble_eq_true rfl) (Nat.le_of_ble_eq_true rfl) (Nat.le_of_ble_eq_true rfl) ?_
    rintro d1 hd1
    have y1 := m_dy_of hd1 v0
    refine x_iconst dX12_even_19 ?_
    refine x_istore_n dX12_even_20 (Nat.le_of_ble_eq_true rfl) rfl x_set_3_2 ?_
    exact hloop 0 (Nat.zero_le _) d1 (fun j hj => by omega) y1
  · rw [if_neg ht]
    refine x_ofW (by decide +kernel) hl (by simp [Value.category]) (by simp) ?_
    refine x_aload_n dX12_even_0 x_get_3_0 ?_
    refine x_iconst dX12_even_1 ?_
    refine x_putI 0 dX12_even_2 fX_12_117 rfl tX_12_0 n62 s62 (by rfl) ?_
    have z0 := m_go0 hq hr hv84
    generalize x_up D 62 (x_u1 (D 62) 0 0) = d0 at z0 ⊢
    obtain ⟨q0, t0, ms0, r0, v0⟩ := z0
    refine x_aload_n dX12_even_5 x_get_3_0 ?_
    refine x_iload_n dX12_even_6 x_get_3_1 ?_
    refine x_callV (As := [_]) dX12_even_7 w_12_362 (m_isTownF hl q0 t0 htr ht) (by assumption) (by assumption) rfl rfl (Nat.le_of_ble_eq_true rfl) (Nat.le_of_ble_eq_true rfl) (Nat.le_of_ble_eq_true rfl) (Nat.le_of_ble_eq_true rfl) (Nat.le_of_ble_eq_true rfl) ?_
    intro dz hdz
    obtain rfl := Eq.symm hdz
    refine r_if_ne (t := 15) dX12_even_10 rfl ⟨by omega, by omega⟩ (fun hc10 => absurd hc10 (by omega)) (fun hc10 => ?_)
    refine x_iconst dX12_even_13 ?_
    exact x_iret dX12_even_14 rfl (Nat.le_of_ble_eq_true rfl) (Nat.le_of_ble_eq_true rfl) rfl rfl rfl ⟨ms_thr ms0, by rw [x_up_s, x_u1_s, m_k_N]⟩ rfl
theorem m_out {X : xC} {l : Launch} (hl : l.stackTraces = false) {N : Nat} {sh : xS} {D : xM} {T C W : Nat} {G : Ldt} (hq : mq N sh D T C W G) {B : Int} {f : Int → Int} (hk : s_ok B f) (hB : B ≤ 200000) (hr : mr T C f (D 82) 0) (hv84 : ∀ j, x_r (D 84 j)) {t : Int} (htr : x_r t) : x_M X l yX12_out cX12_out 3 (some .int) 7 0 0 [.ref (x_b X + 62), .int (xI t)] false N sh D (m_r (q_out T C G f t)) false N sh (fun d => ms D d ∧ d 62 0 = m_k 1 (q_out T C G f t)) := by
  obtain ⟨hM, hT, hTb, hW, hWb, hC, hCb, hmk, ⟨hG1, hG2, hG3⟩, hod⟩ := id hq
  have s62 := md_62 hM
  have n62 : 62 < N := md_n hM (by decide)
  have hO := mq_gO hq
  unfold q_out
  by_cases ht : 0 ≤ t ∧ t < T
  · rw [if_pos ht]
    obtain ⟨ht0, ht1⟩ := id ht
    obtain ⟨tn, rfl⟩ := Int.eq_ofNat_of_zero_le ht0
    have htt : tn < T := by omega
    rw [m_r_i, m_k_i]
    refine x_ofW (by decide +kernel) hl (by simp [Value.category]) (by simp) ?_
    refine x_aload_n dX12_out_0 x_get_3_0 ?_
    refine x_iconst dX12_out_1 ?_
    refine x_putI 0 dX12_out_2 fX_12_117 rfl tX_12_0 n62 s62 (by rfl) ?_
    have z0 := m_go0 hq hr hv84
    generalize x_up D 62 (x_u1 (D 62) 0 0) = d0 at z0 ⊢
    obtain ⟨q0, t0, ms0, r0, v0⟩ := z0
    have hloop : ∀ k : Nat, k ≤ 60 → ∀ d : xM, (∀ j : Nat, j < k → ¬ ¬ p_twin G C (s_towns G C f (tn : Int) j) (tn : Int)) → m_dy T C 85 (s_days G T C f k) d0 d → x_W (X, l, yX12_out, cX12_out, 3, (some .int), x_room 7 0 0, 0, 0, (.inl (some (.int (xI (v_out C G f (tn : Int)))))), N, sh, (fun d => ms D d ∧ d 62 0 = 0), false, []) 21 [some (.ref (x_b X + 62)), some (.int (xI (tn : Int))), some (.int (xI ((k : Int) + 1)))] [] 0 0 false N sh d := by
      refine x_down 60 ?_ ?_
      · intro d hp hy
        refine x_iload_n dX12_out_21 x_get_3_2 ?_
        refine x_bipush dX12_out_22 rfl ?_
        refine r_icmp_gt (t := 52) dX12_out_24 rfl ⟨by omega, by omega⟩ ⟨by omega, by omega⟩ (fun hc24 => ?_) (fun hc24 => absurd hc24 (by omega))
        refine x_iconst dX12_out_52 ?_
        exact x_iret dX12_out_53 rfl (Nat.le_of_ble_eq_true rfl) (Nat.le_of_ble_eq_true rfl) (by unfold v_out; rw [x_first_none hp]; rfl) rfl rfl ⟨ms_dy ms0 hy, dy0 hy t0⟩ rfl
      · intro k hk2 ih d hp hy
        refine x_iload_n dX12_out_21 x_get_3_2 ?_
        refine x_bipush dX12_out_22 rfl ?_
        refine r_icmp_gt (t := 52) dX12_out_24 rfl ⟨by omega, by omega⟩ ⟨by omega, by omega⟩ (fun hc24 => absurd hc24 (by omega)) (fun hc24 => ?_)
        refine x_aload_n dX12_out_27 x_get_3_0 ?_
        refine x_bipush dX12_out_28 rfl ?_
        refine x_callV (As := [_]) dX12_out_30 w_12_343 (m_dayGoes hl (m_dy_mq q0 hy) (s_ok_days hk hG1 hG2 hTb hCb k) (by omega) (Or.inr rfl) hy.2.2.1 hy.2.2.2.2) (by assumption) (by assumption) rfl rfl (Nat.le_of_ble_eq_true rfl) (Nat.le_of_ble_eq_true rfl) (Nat.le_of_ble_eq_true rfl) (Nat.le_of_ble_eq_true rfl) (Nat.le_of_ble_eq_true rfl) ?_
        rintro d2 ⟨hy2, hw2⟩
        have hy3 := m_dy_tr hy hy2
        refine x_aload_n dX12_out_33 x_get_3_0 ?_
        refine x_getI 47 dX12_out_34 fX_12_329 rfl n62 s62 (by rfl) ?_
        try simp (disch := decide) only [x_up_s, x_up_n, x_up_up, x_u1_s, x_u1_n, hw2]
        refine x_iload_n dX12_out_37 x_get_3_1 ?_
        refine x_ishr dX12_out_38 ?_
        refine x_iconst dX12_out_39 ?_
        refine x_iand dX12_out_40 ?_
        rw [m_sr (s_bits_8 hTb) (by omega), m_bt_wp hO htt hTb]
        refine b_ifne (t := 46) dX12_out_41 rfl (fun hc41 => ?_) (fun hc41 => ?_)
        · refine x_iinc dX12_out_46 x_get_3_2 (Nat.le_of_ble_eq_true rfl) rfl x_set_3_2 ?_
          refine x_goto (t := 21) dX12_out_49 rfl ?_
          refine ih d2 (fun j hj => ?_) hy3
          by_cases h : j = k
          · rw [h]; exact fun hh => hh hc41
          · exact hp j (by omega)
        · refine x_iload_n dX12_out_44 x_get_3_2 ?_
          exact x_iret dX12_out_45 rfl (Nat.le_of_ble_eq_true rfl) (Nat.le_of_ble_eq_true rfl) (by unfold v_out; rw [x_first_hit hp hc41 hk2]; dsimp only; rw [if_neg (by omega)]) rfl rfl ⟨ms_dy ms0 hy3, dy0 hy3 t0⟩ rfl
    refine x_aload_n dX12_out_5 x_get_3_0 ?_
    refine x_iload_n dX12_out_6 x_get_3_1 ?_
    refine x_callV (As := [_]) dX12_out_7 w_12_362 (m_isTownT hl q0 t0 ht) (by assumption) (by assumption) rfl rfl (Nat.le_of_ble_eq_true rfl) (Nat.le_of_ble_eq_true rfl) (Nat.le_of_ble_eq_true rfl) (Nat.le_of_ble_eq_true rfl) (Nat.le_of_ble_eq_true rfl) ?_
    intro dz hdz
    obtain rfl := Eq.symm hdz
    refine r_if_ne (t := 15) dX12_out_10 rfl ⟨by omega, by omega⟩ (fun hc10 => ?_) (fun hc10 => absurd hc10 (by omega))
    refine x_aload_n dX12_out_15 x_get_3_0 ?_
    refine x_callV (As := []) dX12_out_16 w_12_389 (m_tries hl q0 r0) (by assumption) (by assumption) rfl rfl (Nat.le_of_ble_eq_true rfl) (Nat.le_of_ble_eq_true rfl) (Nat.le_of_ble_eq_true rfl) (Nat.le_of_ble_eq_true rfl) (Nat.le_of_ble_eq_true rfl) ?_
    rintro d1 hd1
    have y1 := m_dy_of hd1 v0
    refine x_iconst dX12_out_19 ?_
    refine x_istore_n dX12_out_20 (Nat.le_of_ble_eq_true rfl) rfl x_set_3_2 ?_
    exact hloop 0 (Nat.zero_le _) d1 (fun j hj => by omega) y1
  · rw [if_neg ht]
    refine x_ofW (by decide +kernel) hl (by simp [Value.category]) (by simp) ?_
    refine x_aload_n dX12_out_0 x_get_3_0 ?_
    refine x_iconst dX12_out_1 ?_
    refine x_putI 0 dX12_out_2 fX_12_117 rfl tX_12_0 n62 s62 (by rfl) ?_
    have z0 := m_go0 hq hr hv84
    generalize x_up D 62 (x_u1 (D 62) 0 0) = d0 at z0 ⊢
    obtain ⟨q0, t0, ms0, r0, v0⟩ := z0
    refine x_aload_n dX12_out_5 x_get_3_0 ?_
    refine x_iload_n dX12_out_6 x_get_3_1 ?_
    refine x_callV (As := [_]) dX12_out_7 w_12_362 (m_isTownF hl q0 t0 htr ht) (by assumption) (by assumption) rfl rfl (Nat.le_of_ble_eq_true rfl) (Nat.le_of_ble_eq_true rfl) (Nat.le_of_ble_eq_true rfl) (Nat.le_of_ble_eq_true rfl) (Nat.le_of_ble_eq_true rfl) ?_
    intro dz hdz
    obtain rfl := Eq.symm hdz
    refine r_if_ne (t := 15) dX12_out_10 rfl ⟨by omega, by omega⟩ (fun hc10 => absurd hc10 (by omega)) (fun hc10 => ?_)
    refine x_iconst dX12_out_13 ?_
    exact x_iret dX12_out_14 rfl (Nat.le_of_ble_eq_true rfl) (Nat.le_of_ble_eq_true rfl) rfl rfl rfl ⟨ms_thr ms0, by rw [x_up_s, x_u1_s, m_k_N]⟩ rfl
set_option maxHeartbeats 4000000 in
theorem m_streak {X : xC} {l : Launch} (hl : l.stackTraces = false) {N : Nat} {sh : xS} {D : xM} {T C W : Nat} {G : Ldt} (hq : mq N sh D T C W G) {B : Int} {f : Int → Int} (hk : s_ok B f) (hB : B ≤ 200000) (hr : mr T C f (D 82) 0) (hv84 : ∀ j, x_r (D 84 j)) {t n : Int} (htr : x_r t) (hnr : x_r n) : x_M X l yX12_streak cX12_streak 6 (some .int) 7 0 0 [.ref (x_b X + 62), .int (xI t), .int (xI n)] false N sh D (m_r (q_streak T C G f t n)) false N sh (fun d => ms D d ∧ d 62 0 = m_k 2 (q_streak T C G f t n)) := by
  obtain ⟨hM, hT, hTb, hW, hWb, hC, hCb, hmk, ⟨hG1, hG2, hG3⟩, hod⟩ := id hq
  have s62 := md_62 hM
  have n62 : 62 < N := md_n hM (by decide)
  have hO := mq_gO hq
  unfold q_streak
  by_cases ht : 0 ≤ t ∧ t < T
  · rw [if_pos ht]
    obtain ⟨ht0, ht1⟩ := id ht
    by_cases hn : 0 ≤ n ∧ n ≤ 60
    · rw [if_pos hn]
      obtain ⟨hn0, hn1⟩ := id hn
      obtain ⟨tn, rfl⟩ := Int.eq_ofNat_of_zero_le ht0
      obtain ⟨m, rfl⟩ := Int.eq_ofNat_of_zero_le hn0
      rw [Int.toNat_natCast]
      have htt : tn < T := by omega
      rw [m_r_i, m_k_i]
      refine x_ofW (by decide +kernel) hl (by simp [Value.category]) (by simp) ?_
      refine x_aload_n dX12_streak_0 x_get_6_0 ?_
      refine x_iconst dX12_streak_1 ?_
      refine x_putI 0 dX12_streak_2 fX_12_117 rfl tX_12_0 n62 s62 (by rfl) ?_
      have z0 := m_go0 hq hr hv84
      generalize x_up D 62 (x_u1 (D 62) 0 0) = d0 at z0 ⊢
      obtain ⟨q0, t0, ms0, r0, v0⟩ := z0
      have hloop : ∀ k : Nat, k ≤ m → ∀ d : xM, m_dy T C 85 (s_days G T C f k) d0 d → x_W (X, l, yX12_streak, cX12_streak, 6, (some .int), x_room 7 0 0, 0, 0, (.inl (some (.int (xI ((l_str C G f (tn : Int) m).1))))), N, sh, (fun d => ms D d ∧ d 62 0 = 0), false, []) 37 [some (.ref (x_b X + 62)), some (.int (xI (tn : Int))), some (.int (xI (m : Int))), some (.int (xI (l_str C G f (tn : Int) k).1)), some (.int (xI (l_str C G f (tn : Int) k).2)), some (.int (xI (k : Int)))] [] 0 0 false N sh d := by
        refine x_down m ?_ ?_
        · intro d hy
          refine x_iload dX12_streak_37 x_get_6_5 ?_
          refine x_iload_n dX12_streak_39 x_get_6_2 ?_
          refine r_icmp_ge (t := 90) dX12_streak_40 rfl ⟨by omega, by omega⟩ ⟨by omega, by omega⟩ (fun hc40 => ?_) (fun hc40 => absurd hc40 (by omega))
          refine x_iload_n dX12_streak_90 x_get_6_3 ?_
          exact x_iret dX12_streak_91 rfl (Nat.le_of_ble_eq_true rfl) (Nat.le_of_ble_eq_true rfl) rfl rfl rfl ⟨ms_dy ms0 hy, dy0 hy t0⟩ rfl
        · intro k hk2 ih d hy
          have hli := l_str_in C G f (tn : Int) k
          have e := l_str_s (C := C) (G := G) (f := f) (t := (tn : Int)) (n := k)
          refine x_iload dX12_streak_37 x_get_6_5 ?_
          refine x_iload_n dX12_streak_39 x_get_6_2 ?_
          refine r_icmp_ge (t := 90) dX12_streak_40 rfl ⟨by omega, by omega⟩ ⟨by omega, by omega⟩ (fun hc40 => absurd hc40 (by omega)) (fun hc40 => ?_)
          refine x_aload_n dX12_streak_43 x_get_6_0 ?_
          refine x_bipush dX12_streak_44 rfl ?_
          refine x_callV (As := [_]) dX12_streak_46 w_12_343 (m_dayGoes hl (m_dy_mq q0 hy) (s_ok_days hk hG1 hG2 hTb hCb k) (by omega) (Or.inr rfl) hy.2.2.1 hy.2.2.2.2) (by assumption) (by assumption) rfl rfl (Nat.le_of_ble_eq_true rfl) (Nat.le_of_ble_eq_true rfl) (Nat.le_of_ble_eq_true rfl) (Nat.le_of_ble_eq_true rfl) (Nat.le_of_ble_eq_true rfl) ?_
          rintro d2 ⟨hy2, hw2⟩
          have hy3 := m_dy_tr hy hy2
          refine x_aload_n dX12_streak_49 x_get_6_0 ?_
          refine x_getI 47 dX12_streak_50 fX_12_329 rfl n62 s62 (by rfl) ?_
          try simp (disch := decide) only [x_up_s, x_up_n, x_up_up, x_u1_s, x_u1_n, hw2]
          refine x_iload_n dX12_streak_53 x_get_6_1 ?_
          refine x_ishr dX12_streak_54 ?_
          refine x_iconst dX12_streak_55 ?_
          refine x_iand dX12_streak_56 ?_
          rw [m_sr (s_bits_8 hTb) (by omega), m_bt_wp hO htt hTb]
          by_cases hb : p_twin G C (s_towns G C f (tn : Int) k) (tn : Int)
          · rw [x_B, if_pos hb]
            refine x_iconst dX12_streak_57 ?_
            refine r_icmp_ne (t := 68) dX12_streak_58 rfl ⟨by omega, by omega⟩ ⟨by omega, by omega⟩ (fun hc58 => absurd hc58 (by omega)) (fun hc58 => ?_)
            refine x_iload dX12_streak_61 x_get_6_4 ?_
            refine x_iconst dX12_streak_63 ?_
            refine x_iadd dX12_streak_64 ?_
            refine x_goto (t := 69) dX12_streak_65 rfl ?_
            refine x_istore dX12_streak_69 (Nat.le_of_ble_eq_true rfl) rfl x_set_6_4 ?_
            refine x_iload dX12_streak_71 x_get_6_4 ?_
            refine x_iload_n dX12_streak_73 x_get_6_3 ?_
            refine r_icmp_le (t := 82) dX12_streak_74 rfl ⟨by omega, by omega⟩ ⟨by omega, by omega⟩ (fun hc74 => ?_) (fun hc74 => ?_)
            · refine x_iload_n dX12_streak_82 x_get_6_3 ?_
              refine x_istore_n dX12_streak_83 (Nat.le_of_ble_eq_true rfl) rfl x_set_6_3 ?_
              refine x_iinc dX12_streak_84 x_get_6_5 (Nat.le_of_ble_eq_true rfl) rfl x_set_6_5 ?_
              refine x_goto (t := 37) dX12_streak_87 rfl ?_
              first | (rw [if_pos hb] at e; rw [e] at ih; rw [show max (l_str C G f (tn : Int) k).1 _ = _ from Int.max_eq_right (by omega)] at ih; exact ih d2 hy3) | (rw [if_pos hb] at e; rw [e] at ih; rw [show max (l_str C G f (tn : Int) k).1 _ = _ from Int.max_eq_left (by omega)] at ih; exact ih d2 hy3) | (rw [if_neg hb] at e; rw [e] at ih; rw [show max (l_str C G f (tn : Int) k).1 _ = _ from Int.max_eq_right (by omega)] at ih; exact ih d2 hy3) | (rw [if_neg hb] at e; rw [e] at ih; rw [show max (l_str C G f (tn : Int) k).1 _ = _ from Int.max_eq_left (by omega)] at ih; exact ih d2 hy3)
            · refine x_iload dX12_streak_77 x_get_6_4 ?_
              refine x_goto (t := 83) dX12_streak_79 rfl ?_
              refine x_istore_n dX12_streak_83 (Nat.le_of_ble_eq_true rfl) rfl x_set_6_3 ?_
              refine x_iinc dX12_streak_84 x_get_6_5 (Nat.le_of_ble_eq_true rfl) rfl x_set_6_5 ?_
              refine x_goto (t := 37) dX12_streak_87 rfl ?_
              first | (rw [if_pos hb] at e; rw [e] at ih; rw [show max (l_str C G f (tn : Int) k).1 _ = _ from Int.max_eq_right (by omega)] at ih; exact ih d2 hy3) | (rw [if_pos hb] at e; rw [e] at ih; rw [show max (l_str C G f (tn : Int) k).1 _ = _ from Int.max_eq_left (by omega)] at ih; exact ih d2 hy3) | (rw [if_neg hb] at e; rw [e] at ih; rw [show max (l_str C G f (tn : Int) k).1 _ = _ from Int.max_eq_right (by omega)] at ih; exact ih d2 hy3) | (rw [if_neg hb] at e; rw [e] at ih; rw [show max (l_str C G f (tn : Int) k).1 _ = _ from Int.max_eq_left (by omega)] at ih; exact ih d2 hy3)
          · rw [x_B, if_neg hb]
            refine x_iconst dX12_streak_57 ?_
            refine r_icmp_ne (t := 68) dX12_streak_58 rfl ⟨by omega, by omega⟩ ⟨by omega, by omega⟩ (fun hc58 => ?_) (fun hc58 => absurd hc58 (by omega))
            refine x_iconst dX12_streak_68 ?_
            refine x_istore dX12_streak_69 (Nat.le_of_ble_eq_true rfl) rfl x_set_6_4 ?_
            refine x_iload dX12_streak_71 x_get_6_4 ?_
            refine x_iload_n dX12_streak_73 x_get_6_3 ?_
            refine r_icmp_le (t := 82) dX12_streak_74 rfl ⟨by omega, by omega⟩ ⟨by omega, by omega⟩ (fun hc74 => ?_) (fun hc74 => ?_)
            · refine x_iload_n dX12_streak_82 x_get_6_3 ?_
              refine x_istore_n dX12_streak_83 (Nat.le_of_ble_eq_true rfl) rfl x_set_6_3 ?_
              refine x_iinc dX12_streak_84 x_get_6_5 (Nat.le_of_ble_eq_true rfl) rfl x_set_6_5 ?_
              refine x_goto (t := 37) dX12_streak_87 rfl ?_
              first | (rw [if_pos hb] at e; rw [e] at ih; rw [show max (l_str C G f (tn : Int) k).1 _ = _ from Int.max_eq_right (by omega)] at ih; exact ih d2 hy3) | (rw [if_pos hb] at e; rw [e] at ih; rw [show max (l_str C G f (tn : Int) k).1 _ = _ from Int.max_eq_left (by omega)] at ih; exact ih d2 hy3) | (rw [if_neg hb] at e; rw [e] at ih; rw [show max (l_str C G f (tn : Int) k).1 _ = _ from Int.max_eq_right (by omega)] at ih; exact ih d2 hy3) | (rw [if_neg hb] at e; rw [e] at ih; rw [show max (l_str C G f (tn : Int) k).1 _ = _ from Int.max_eq_left (by omega)] at ih; exact ih d2 hy3)
            · refine x_iload dX12_streak_77 x_get_6_4 ?_
              refine x_goto (t := 83) dX12_streak_79 rfl ?_
              refine x_istore_n dX12_streak_83 (Nat.le_of_ble_eq_true rfl) rfl x_set_6_3 ?_
              refine x_iinc dX12_streak_84 x_get_6_5 (Nat.le_of_ble_eq_true rfl) rfl x_set_6_5 ?_
              refine x_goto (t := 37) dX12_streak_87 rfl ?_
              first | (rw [if_pos hb] at e; rw [e] at ih; rw [show max (l_str C G f (tn : Int) k).1 _ = _ from Int.max_eq_right (by omega)] at ih; exact ih d2 hy3) | (rw [if_pos hb] at e; rw [e] at ih; rw [show max (l_str C G f (tn : Int) k).1 _ = _ from Int.max_eq_left (by omega)] at ih; exact ih d2 hy3) | (rw [if_neg hb] at e; rw [e] at ih; rw [show max (l_str C G f (tn : Int) k).1 _ = _ from Int.max_eq_right (by omega)] at ih; exact ih d2 hy3) | (rw [if_neg hb] at e; rw [e] at ih; rw [show max (l_str C G f (tn : Int) k).1 _ = _ from Int.max_eq_left (by omega)] at ih; exact ih d2 hy3)
      refine x_aload_n dX12_streak_5 x_get_6_0 ?_
      refine x_iload_n dX12_streak_6 x_get_6_1 ?_
      refine x_callV (As := [_]) dX12_streak_7 w_12_362 (m_isTownT hl q0 t0 ht) (by assumption) (by assumption) rfl rfl (Nat.le_of_ble_eq_true rfl) (Nat.le_of_ble_eq_true rfl) (Nat.le_of_ble_eq_true rfl) (Nat.le_of_ble_eq_true rfl) (Nat.le_of_ble_eq_true rfl) ?_
      intro dz hdz
      obtain rfl := Eq.symm hdz
      refine r_if_eq (t := 23) dX12_streak_10 rfl ⟨by omega, by omega⟩ (fun hc10 => absurd hc10 (by omega)) (fun hc10 => ?_)
      refine x_aload_n dX12_streak_13 x_get_6_0 ?_
      refine x_iload_n dX12_streak_14 x_get_6_2 ?_
      refine x_iconst dX12_streak_15 ?_
      refine x_iconst dX12_streak_16 ?_
      refine x_callV (As := [_, _, _]) dX12_streak_17 w_12_386 (m_isDaysT hl q0.1 t0 hnr ⟨by decide, by decide⟩ hn) (by assumption) (by assumption) rfl rfl (Nat.le_of_ble_eq_true rfl) (Nat.le_of_ble_eq_true rfl) (Nat.le_of_ble_eq_true rfl) (Nat.le_of_ble_eq_true rfl) (Nat.le_of_ble_eq_true rfl) ?_
      intro dz hdz
      obtain rfl := Eq.symm hdz
      refine r_if_ne (t := 25) dX12_streak_20 rfl ⟨by omega, by omega⟩ (fun hc20 => ?_) (fun hc20 => absurd hc20 (by omega))
      refine x_aload_n dX12_streak_25 x_get_6_0 ?_
      refine x_callV (As := []) dX12_streak_26 w_12_389 (m_tries hl q0 r0) (by assumption) (by assumption) rfl rfl (Nat.le_of_ble_eq_true rfl) (Nat.le_of_ble_eq_true rfl) (Nat.le_of_ble_eq_true rfl) (Nat.le_of_ble_eq_true rfl) (Nat.le_of_ble_eq_true rfl) ?_
      rintro d1 hd1
      have y1 := m_dy_of hd1 v0
      refine x_iconst dX12_streak_29 ?_
      refine x_istore_n dX12_streak_30 (Nat.le_of_ble_eq_true rfl) rfl x_set_6_3 ?_
      refine x_iconst dX12_streak_31 ?_
      refine x_istore dX12_streak_32 (Nat.le_of_ble_eq_true rfl) rfl x_set_6_4 ?_
      refine x_iconst dX12_streak_34 ?_
      refine x_istore dX12_streak_35 (Nat.le_of_ble_eq_true rfl) rfl x_set_6_5 ?_
      exact hloop 0 (Nat.zero_le _) d1 y1
    · rw [if_neg hn]
      refine x_ofW (by decide +kernel) hl (by simp [Value.category]) (by simp) ?_
      refine x_aload_n dX12_streak_0 x_get_6_0 ?_
      refine x_iconst dX12_streak_1 ?_
      refine x_putI 0 dX12_streak_2 fX_12_117 rfl tX_12_0 n62 s62 (by rfl) ?_
      have z0 := m_go0 hq hr hv84
      generalize x_up D 62 (x_u1 (D 62) 0 0) = d0 at z0 ⊢
      obtain ⟨q0, t0, ms0, r0, v0⟩ := z0
      refine x_aload_n dX12_streak_5 x_get_6_0 ?_
      refine x_iload_n dX12_streak_6 x_get_6_1 ?_
      refine x_callV (As := [_]) dX12_streak_7 w_12_362 (m_isTownT hl q0 t0 ht) (by assumption) (by assumption) rfl rfl (Nat.le_of_ble_eq_true rfl) (Nat.le_of_ble_eq_true rfl) (Nat.le_of_ble_eq_true rfl) (Nat.le_of_ble_eq_true rfl) (Nat.le_of_ble_eq_true rfl) ?_
      intro dz hdz
      obtain rfl := Eq.symm hdz
      refine r_if_eq (t := 23) dX12_streak_10 rfl ⟨by omega, by omega⟩ (fun hc10 => absurd hc10 (by omega)) (fun hc10 => ?_)
      refine x_aload_n dX12_streak_13 x_get_6_0 ?_
      refine x_iload_n dX12_streak_14 x_get_6_2 ?_
      refine x_iconst dX12_streak_15 ?_
      refine x_iconst dX12_streak_16 ?_
      refine x_callV (As := [_, _, _]) dX12_streak_17 w_12_386 (m_isDaysF hl q0.1 t0 hnr ⟨by decide, by decide⟩ hn (by decide) (by decide)) (by assumption) (by assumption) rfl rfl (Nat.le_of_ble_eq_true rfl) (Nat.le_of_ble_eq_true rfl) (Nat.le_of_ble_eq_true rfl) (Nat.le_of_ble_eq_true rfl) (Nat.le_of_ble_eq_true rfl) ?_
      intro dz hdz
      obtain rfl := Eq.symm hdz
      refine r_if_ne (t := 25) dX12_streak_20 rfl ⟨by omega, by omega⟩ (fun hc20 => absurd hc20 (by omega)) (fun hc20 => ?_)
      refine x_iconst dX12_streak_23 ?_
      exact x_iret dX12_streak_24 rfl (Nat.le_of_ble_eq_true rfl) (Nat.le_of_ble_eq_true rfl) rfl rfl rfl ⟨ms_thr ms0, by rw [x_up_s, x_u1_s, m_k_I]⟩ rfl
  · rw [if_neg ht]
    refine x_ofW (by decide +kernel) hl (by simp [Value.category]) (by simp) ?_
    refine x_aload_n dX12_streak_0 x_get_6_0 ?_
    refine x_iconst dX12_streak_1 ?_
    refine x_putI 0 dX12_streak_2 fX_12_117 rfl tX_12_0 n62 s62 (by rfl) ?_
    have z0 := m_go0 hq hr hv84
    generalize x_up D 62 (x_u1 (D 62) 0 0) = d0 at z0 ⊢
    obtain ⟨q0, t0, ms0, r0, v0⟩ := z0
    refine x_aload_n dX12_streak_5 x_get_6_0 ?_
    refine x_iload_n dX12_streak_6 x_get_6_1 ?_
    refine x_callV (As := [_]) dX12_streak_7 w_12_362 (m_isTownF hl q0 t0 htr ht) (by assumption) (by assumption) rfl rfl (Nat.le_of_ble_eq_true rfl) (Nat.le_of_ble_eq_true rfl) (Nat.le_of_ble_eq_true rfl) (Nat.le_of_ble_eq_true rfl) (Nat.le_of_ble_eq_true rfl) ?_
    intro dz hdz
    obtain rfl := Eq.symm hdz
    refine r_if_eq (t := 23) dX12_streak_10 rfl ⟨by omega, by omega⟩ (fun hc10 => ?_) (fun hc10 => absurd hc10 (by omega))
    refine x_iconst dX12_streak_23 ?_
    exact x_iret dX12_streak_24 rfl (Nat.le_of_ble_eq_true rfl) (Nat.le_of_ble_eq_true rfl) rfl rfl rfl ⟨ms_thr ms0, by rw [x_up_s, x_u1_s, m_k_N]⟩ rfl
set_option maxHeartbeats 4000000 in
theorem m_lucky {X : xC} {l : Launch} (hl : l.stackTraces = false) {N : Nat} {sh : xS} {D : xM} {T C W : Nat} {G : Ldt} (hq : mq N sh D T C W G) {B : Int} {f : Int → Int} (hk : s_ok B f) (hB : B ≤ 200000) (hr : mr T C f (D 82) 0) (hv84 : ∀ j, x_r (D 84 j)) {n : Int} (hnr : x_r n) : x_M X l yX12_luckiest cX12_luckiest 4 (some .int) 7 0 0 [.ref (x_b X + 62), .int (xI n)] false N sh D (m_r (q_lucky T C G f n)) false N sh (fun d => ms D d ∧ d 62 0 = m_k 1 (q_lucky T C G f n)) := by
  obtain ⟨hM, hT, hTb, hW, hWb, hC, hCb, hmk, ⟨hG1, hG2, hG3⟩, hod⟩ := id hq
  have s62 := md_62 hM
  have n62 : 62 < N := md_n hM (by decide)
  have s82 := md_82 hM
  have n82 : 82 < N := md_n hM (by decide)
  unfold q_lucky
  by_cases hn : 0 ≤ n ∧ n ≤ 60
  · rw [if_pos hn]
    obtain ⟨hn0, hn1⟩ := id hn
    obtain ⟨m, rfl⟩ := Int.eq_ofNat_of_zero_le hn0
    rw [Int.toNat_natCast]
    rw [m_r_i, m_k_i]
    refine x_ofW (by decide +kernel) hl (by simp [Value.category]) (by simp) ?_
    refine x_aload_n dX12_luckiest_0 x_get_4_0 ?_
    refine x_iconst dX12_luckiest_1 ?_
    refine x_putI 0 dX12_luckiest_2 fX_12_117 rfl tX_12_0 n62 s62 (by rfl) ?_
    have z0 := m_go0 hq hr hv84
    generalize x_up D 62 (x_u1 (D 62) 0 0) = d0 at z0 ⊢
    obtain ⟨q0, t0, ms0, r0, v0⟩ := z0
    have hkm := s_ok_days hk hG1 hG2 hTb hCb m
    have hloop : ∀ k : Nat, k ≤ T → ∀ d : xM, m_dy T C 85 (s_days G T C f m) d0 d → x_W (X, l, yX12_luckiest, cX12_luckiest, 4, (some .int), x_room 7 0 0, 0, 0, (.inl (some (.int (xI ((l_best (s_days G T C f m) T).1))))), N, sh, (fun d => ms D d ∧ d 62 0 = 0), false, []) 30 [some (.ref (x_b X + 62)), some (.int (xI (m : Int))), some (.int (xI (l_best (s_days G T C f m) k).1)), some (.int (xI (k : Int)))] [] 0 0 false N sh d := by
      refine x_down T ?_ ?_
      · intro d hy
        have hT2 : d 62 1 = T := by rw [hy.2.1 1 (by decide)]; exact q0.2.1
        refine x_iload_n dX12_luckiest_30 x_get_4_3 ?_
        refine x_aload_n dX12_luckiest_31 x_get_4_0 ?_
        refine x_getI 1 dX12_luckiest_32 fX_12_281 rfl n62 s62 (by rfl) ?_
        try simp (disch := decide) only [x_up_s, x_up_n, x_up_up, x_u1_s, x_u1_n, hT2]
        refine r_icmp_ge (t := 72) dX12_luckiest_35 rfl ⟨by omega, by omega⟩ ⟨by omega, by omega⟩ (fun hc35 => ?_) (fun hc35 => absurd hc35 (by omega))
        refine x_iload_n dX12_luckiest_72 x_get_4_2 ?_
        exact x_iret dX12_luckiest_73 rfl (Nat.le_of_ble_eq_true rfl) (Nat.le_of_ble_eq_true rfl) rfl rfl rfl ⟨ms_dy ms0 hy, dy0 hy t0⟩ rfl
      · intro k hk2 ih d hy
        have hT2 : d 62 1 = T := by rw [hy.2.1 1 (by decide)]; exact q0.2.1
        have hl2 := l_best_2 (r := (s_days G T C f m)) k
        have e := l_best_s (r := (s_days G T C f m)) (t := k)
        have e1 : d 82 (102 + (k : Int)) = s_days G T C f m (17 + (k : Int)) := mr_t hy.2.2.1 rfl (by decide) (by omega) (by omega)
        have w1 := (s_tn hkm (t := (k : Int)) (by omega) (by omega)).2.2
        generalize hL : (l_best (s_days G T C f m) k) = L at hl2 e ⊢
        refine x_iload_n dX12_luckiest_30 x_get_4_3 ?_
        refine x_aload_n dX12_luckiest_31 x_get_4_0 ?_
        refine x_getI 1 dX12_luckiest_32 fX_12_281 rfl n62 s62 (by rfl) ?_
        try simp (disch := decide) only [x_up_s, x_up_n, x_up_up, x_u1_s, x_u1_n, hT2, e1, e2]
        refine r_icmp_ge (t := 72) dX12_luckiest_35 rfl ⟨by omega, by omega⟩ ⟨by omega, by omega⟩ (fun hc35 => absurd hc35 (by omega)) (fun hc35 => ?_)
        refine x_iload_n dX12_luckiest_38 x_get_4_2 ?_
        refine x_iconst dX12_luckiest_39 ?_
        refine r_icmp_eq (t := 64) dX12_luckiest_40 rfl ⟨by omega, by omega⟩ ⟨by omega, by omega⟩ (fun hc40 => ?_) (fun hc40 => ?_)
        · refine x_iload_n dX12_luckiest_64 x_get_4_3 ?_
          refine x_istore_n dX12_luckiest_65 (Nat.le_of_ble_eq_true rfl) rfl x_set_4_2 ?_
          refine x_iinc dX12_luckiest_66 x_get_4_3 (Nat.le_of_ble_eq_true rfl) rfl x_set_4_3 ?_
          refine x_goto (t := 30) dX12_luckiest_69 rfl ?_
          first | (rw [if_pos (Or.inl hc40)] at e; rw [e] at ih; exact ih d hy) | (rw [if_pos (Or.inr (by omega))] at e; rw [e] at ih; exact ih d hy) | (rw [if_neg (by omega)] at e; rw [e] at ih; exact ih d hy)
        · have hl3 : 0 ≤ L.1 ∧ L.1 < k ∧ L.2 = s_days G T C f m (17 + L.1) := by
            rcases hl2 with h | h
            · exact absurd h.1 hc40
            · exact h
          have e2 : d 82 (102 + L.1) = s_days G T C f m (17 + L.1) := mr_t hy.2.2.1 rfl (by decide) (by omega) (by omega)
          have w2 := (s_tn hkm (t := L.1) (by omega) (by omega)).2.2
          refine x_aload_n dX12_luckiest_43 x_get_4_0 ?_
          refine x_getR dX12_luckiest_44 fX_12_75 n62 s62 (by rfl) ?_
          refine x_bipush dX12_luckiest_47 rfl ?_
          refine x_iload_n dX12_luckiest_49 x_get_4_3 ?_
          refine x_iadd dX12_luckiest_50 ?_
          refine x_iald dX12_luckiest_51 n82 s82 (by omega) (by omega) (by decide) ?_
          try simp (disch := decide) only [x_up_s, x_up_n, x_up_up, x_u1_s, x_u1_n, hT2, e1, e2]
          refine x_aload_n dX12_luckiest_52 x_get_4_0 ?_
          refine x_getR dX12_luckiest_53 fX_12_75 n62 s62 (by rfl) ?_
          refine x_bipush dX12_luckiest_56 rfl ?_
          refine x_iload_n dX12_luckiest_58 x_get_4_2 ?_
          refine x_iadd dX12_luckiest_59 ?_
          refine x_iald dX12_luckiest_60 n82 s82 (by omega) (by omega) (by decide) ?_
          try simp (disch := decide) only [x_up_s, x_up_n, x_up_up, x_u1_s, x_u1_n, hT2, e1, e2]
          refine r_icmp_le (t := 66) dX12_luckiest_61 rfl ⟨by omega, by omega⟩ ⟨by omega, by omega⟩ (fun hc61 => ?_) (fun hc61 => ?_)
          · refine x_iinc dX12_luckiest_66 x_get_4_3 (Nat.le_of_ble_eq_true rfl) rfl x_set_4_3 ?_
            refine x_goto (t := 30) dX12_luckiest_69 rfl ?_
            first | (rw [if_pos (Or.inl hc40)] at e; rw [e] at ih; exact ih d hy) | (rw [if_pos (Or.inr (by omega))] at e; rw [e] at ih; exact ih d hy) | (rw [if_neg (by omega)] at e; rw [e] at ih; exact ih d hy)
          · refine x_iload_n dX12_luckiest_64 x_get_4_3 ?_
            refine x_istore_n dX12_luckiest_65 (Nat.le_of_ble_eq_true rfl) rfl x_set_4_2 ?_
            refine x_iinc dX12_luckiest_66 x_get_4_3 (Nat.le_of_ble_eq_true rfl) rfl x_set_4_3 ?_
            refine x_goto (t := 30) dX12_luckiest_69 rfl ?_
            first | (rw [if_pos (Or.inl hc40)] at e; rw [e] at ih; exact ih d hy) | (rw [if_pos (Or.inr (by omega))] at e; rw [e] at ih; exact ih d hy) | (rw [if_neg (by omega)] at e; rw [e] at ih; exact ih d hy)
    refine x_aload_n dX12_luckiest_5 x_get_4_0 ?_
    refine x_iload_n dX12_luckiest_6 x_get_4_1 ?_
    refine x_iconst dX12_luckiest_7 ?_
    refine x_iconst dX12_luckiest_8 ?_
    refine x_callV (As := [_, _, _]) dX12_luckiest_9 w_12_386 (m_isDaysT hl q0.1 t0 hnr ⟨by decide, by decide⟩ hn) (by assumption) (by assumption) rfl rfl (Nat.le_of_ble_eq_true rfl) (Nat.le_of_ble_eq_true rfl) (Nat.le_of_ble_eq_true rfl) (Nat.le_of_ble_eq_true rfl) (Nat.le_of_ble_eq_true rfl) ?_
    intro dz hdz
    obtain rfl := Eq.symm hdz
    refine r_if_ne (t := 17) dX12_luckiest_12 rfl ⟨by omega, by omega⟩ (fun hc12 => ?_) (fun hc12 => absurd hc12 (by omega))
    refine x_aload_n dX12_luckiest_17 x_get_4_0 ?_
    refine x_callV (As := []) dX12_luckiest_18 w_12_389 (m_tries hl q0 r0) (by assumption) (by assumption) rfl rfl (Nat.le_of_ble_eq_true rfl) (Nat.le_of_ble_eq_true rfl) (Nat.le_of_ble_eq_true rfl) (Nat.le_of_ble_eq_true rfl) (Nat.le_of_ble_eq_true rfl) ?_
    rintro d1 hd1
    have y1 := m_dy_of hd1 v0
    refine x_aload_n dX12_luckiest_21 x_get_4_0 ?_
    refine x_iload_n dX12_luckiest_22 x_get_4_1 ?_
    refine x_callV (As := [_]) dX12_luckiest_23 w_12_392 (m_daysGo hl (m_dy_mq q0 y1) hk (n := m) (by omega) y1.2.2.1 y1.2.2.2.2) (by assumption) (by assumption) rfl rfl (Nat.le_of_ble_eq_true rfl) (Nat.le_of_ble_eq_true rfl) (Nat.le_of_ble_eq_true rfl) (Nat.le_of_ble_eq_true rfl) (Nat.le_of_ble_eq_true rfl) ?_
    rintro d2 hd2
    have y2 := m_dy_tr y1 hd2
    refine x_iconst dX12_luckiest_26 ?_
    refine x_istore_n dX12_luckiest_27 (Nat.le_of_ble_eq_true rfl) rfl x_set_4_2 ?_
    refine x_iconst dX12_luckiest_28 ?_
    refine x_istore_n dX12_luckiest_29 (Nat.le_of_ble_eq_true rfl) rfl x_set_4_3 ?_
    exact hloop 0 (Nat.zero_le _) d2 y2
  · rw [if_neg hn]
    refine x_ofW (by decide +kernel) hl (by simp [Value.category]) (by simp) ?_
    refine x_aload_n dX12_luckiest_0 x_get_4_0 ?_
    refine x_iconst dX12_luckiest_1 ?_
    refine x_putI 0 dX12_luckiest_2 fX_12_117 rfl tX_12_0 n62 s62 (by rfl) ?_
    have z0 := m_go0 hq hr hv84
    generalize x_up D 62 (x_u1 (D 62) 0 0) = d0 at z0 ⊢
    obtain ⟨q0, t0, ms0, r0, v0⟩ := z0
    refine x_aload_n dX12_luckiest_5 x_get_4_0 ?_
    refine x_iload_n dX12_luckiest_6 x_get_4_1 ?_
    refine x_iconst dX12_luckiest_7 ?_
    refine x_iconst dX12_luckiest_8 ?_
    refine x_callV (As := [_, _, _]) dX12_luckiest_9 w_12_386 (m_isDaysF hl q0.1 t0 hnr ⟨by decide, by decide⟩ hn (by decide) (by decide)) (by assumption) (by assumption) rfl rfl (Nat.le_of_ble_eq_true rfl) (Nat.le_of_ble_eq_true rfl) (Nat.le_of_ble_eq_true rfl) (Nat.le_of_ble_eq_true rfl) (Nat.le_of_ble_eq_true rfl) ?_
    intro dz hdz
    obtain rfl := Eq.symm hdz
    refine r_if_ne (t := 17) dX12_luckiest_12 rfl ⟨by omega, by omega⟩ (fun hc12 => absurd hc12 (by omega)) (fun hc12 => ?_)
    refine x_iconst dX12_luckiest_15 ?_
    exact x_iret dX12_luckiest_16 rfl (Nat.le_of_ble_eq_true rfl) (Nat.le_of_ble_eq_true rfl) rfl rfl rfl ⟨ms_thr ms0, by rw [x_up_s, x_u1_s, m_k_I]⟩ rfl
set_option maxHeartbeats 8000000 in
theorem m_day {X : xC} {l : Launch} (hl : l.stackTraces = false) {N : Nat} {sh : xS} {D : xM} {T C W : Nat} {G : Ldt} (hq : mq N sh D T C W G) {B : Int} {f : Int → Int} (hk : s_ok B f) (hB : B ≤ 200000) (hr : mr T C f (D 82) 0) (hv84 : ∀ j, x_r (D 84 j)) {n w : Int} (hnr : x_r n) (hwr : x_r w) : x_M X l yX12_day cX12_day 8 (some .int) 7 0 0 [.ref (x_b X + 62), .int (xI n), .int (xI w)] false N sh D (m_r (q_day T C G f n w)) false N sh (fun d => ms D d ∧ d 62 0 = m_k 2 (q_day T C G f n w)) := by
  obtain ⟨hM, hT, hTb, hW, hWb, hC, hCb, hmk, ⟨hG1, hG2, hG3⟩, hod⟩ := id hq
  have s62 := md_62 hM
  have n62 : 62 < N := md_n hM (by decide)
  obtain ⟨hwr0, hwr1⟩ := id hwr
  unfold q_day
  by_cases hw : 0 ≤ w ∧ w ≤ 1
  · rw [if_pos hw]
    obtain ⟨hw0, hw1⟩ := id hw
    by_cases hn : 1 ≤ n ∧ n ≤ 60
    · rw [if_pos hn]
      obtain ⟨hn0, hn1⟩ := id hn
      obtain ⟨m, rfl⟩ := Int.eq_ofNat_of_zero_le (show 0 ≤ n by omega)
      rw [Int.toNat_natCast]
      have hvw : ∀ i : Nat, i ≤ 60 → -2000000 ≤ v_won T (s_days G T C f i) ∧ v_won T (s_days G T C f i) ≤ 2000000 := fun i hi => by
        have hB0 : 0 ≤ B := by have := (hk 0).1 rfl; omega
        have := v_won_in (s_ok_days hk hG1 hG2 hTb hCb i) (by omega) hTb
        omega
      have hli := l_day_in (M := 2000000) (by decide) hvw
      have hl1 := l_day_1 (T := T) (C := C) (G := G) (f := f)
      rw [m_r_i, m_k_i]
      refine x_ofW (by decide +kernel) hl (by simp [Value.category]) (by simp) ?_
      refine x_aload_n dX12_day_0 x_get_8_0 ?_
      refine x_iconst dX12_day_1 ?_
      refine x_putI 0 dX12_day_2 fX_12_117 rfl tX_12_0 n62 s62 (by rfl) ?_
      have z0 := m_go0 hq hr hv84
      generalize x_up D 62 (x_u1 (D 62) 0 0) = d0 at z0 ⊢
      obtain ⟨q0, t0, ms0, r0, v0⟩ := z0
      have hloop : ∀ k : Nat, k ≤ m → ∀ d : xM, m_dy T C 85 (s_days G T C f k) d0 d → x_W (X, l, yX12_day, cX12_day, 8, (some .int), x_room 7 0 0, 0, 0, (.inl (some (.int (xI ((if w = 0 then (l_day T C G f m).1 else (l_day T C G f m).2)))))), N, sh, (fun d => ms D d ∧ d 62 0 = 0), false, []) 38 [some (.ref (x_b X + 62)), some (.int (xI (m : Int))), some (.int (xI w)), some (.int (xI (d_b (l_day T C G f k).1))), some (.int (xI (l_day T C G f k).2)), some (.int (xI ((k : Int) + 1))), none, none] [] 0 0 false N sh d := by
        refine x_down m ?_ ?_
        · intro d hy
          have hdb : d_b (l_day T C G f m).1 = (l_day T C G f m).1 := if_neg (by have := (hl1 m).2.2 (by omega); omega)
          rw [hdb]
          refine x_iload dX12_day_38 x_get_8_5 ?_
          refine x_iload_n dX12_day_40 x_get_8_1 ?_
          refine r_icmp_gt (t := 97) dX12_day_41 rfl ⟨by omega, by omega⟩ ⟨by omega, by omega⟩ (fun hc41 => ?_) (fun hc41 => absurd hc41 (by omega))
          refine x_iload_n dX12_day_97 x_get_8_2 ?_
          refine r_if_ne (t := 105) dX12_day_98 rfl ⟨by omega, by omega⟩ (fun hc98 => ?_) (fun hc98 => ?_)
          · refine x_iload dX12_day_105 x_get_8_4 ?_
            exact x_iret dX12_day_107 rfl (Nat.le_of_ble_eq_true rfl) (Nat.le_of_ble_eq_true rfl) (by first | (rw [if_pos hc98]; done) | (rw [if_neg hc98]; done)) rfl rfl ⟨ms_dy ms0 hy, dy0 hy t0⟩ rfl
          · refine x_iload_n dX12_day_101 x_get_8_3 ?_
            refine x_goto (t := 107) dX12_day_102 rfl ?_
            exact x_iret dX12_day_107 rfl (Nat.le_of_ble_eq_true rfl) (Nat.le_of_ble_eq_true rfl) (by first | (rw [if_pos hc98]; done) | (rw [if_neg hc98]; done)) rfl rfl ⟨ms_dy ms0 hy, dy0 hy t0⟩ rfl
        · intro k hk2 ih d hy
          have hv1 := hvw k (by omega)
          have hv2 := hvw (k + 1) (by omega)
          have hl2 := hli k (by omega)
          have e := l_day_s (T := T) (C := C) (G := G) (f := f) (i := k)
          have hdc : (d_b (l_day T C G f k).1 = -1 ∧ (l_day T C G f k).1 = 0) ∨ (d_b (l_day T C G f k).1 = (l_day T C G f k).1 ∧ ¬ (l_day T C G f k).1 = 0) := by unfold d_b; split <;> omega
          have hdn : d_b (((k + 1 : Nat) : Int)) = (k : Int) + 1 := by unfold d_b; rw [if_neg (by omega)]; push_cast; rfl
          have hvd : ∀ j, x_sum (fun i => s_days G T C f j (17 + i)) T = (v_won T (s_days G T C f j)) := fun j => rfl
          generalize hdb : d_b (l_day T C G f k).1 = db at hdc ⊢
          refine x_iload dX12_day_38 x_get_8_5 ?_
          refine x_iload_n dX12_day_40 x_get_8_1 ?_
          refine r_icmp_gt (t := 97) dX12_day_41 rfl ⟨by omega, by omega⟩ ⟨by omega, by omega⟩ (fun hc41 => absurd hc41 (by omega)) (fun hc41 => ?_)
          refine x_aload_n dX12_day_44 x_get_8_0 ?_
          refine x_bipush dX12_day_45 rfl ?_
          refine x_callV (As := [_]) dX12_day_47 w_12_350 (m_allOf hl (m_dy_mq q0 hy) (s_ok_days hk hG1 hG2 hTb hCb k) (by omega) (Or.inr rfl) hy.2.2.1 (k := 17) rfl (by decide)) (by assumption) (by assumption) rfl rfl (Nat.le_of_ble_eq_true rfl) (Nat.le_of_ble_eq_true rfl) (Nat.le_of_ble_eq_true rfl) (Nat.le_of_ble_eq_true rfl) (Nat.le_of_ble_eq_true rfl) ?_
          intro dz hdz
          obtain rfl := Eq.symm hdz
          rw [hvd]
          refine x_istore dX12_day_50 (Nat.le_of_ble_eq_true rfl) rfl x_set_8_6 ?_
          refine x_aload_n dX12_day_52 x_get_8_0 ?_
          refine x_bipush dX12_day_53 rfl ?_
          refine x_callV (As := [_]) dX12_day_55 w_12_343 (m_dayGoes hl (m_dy_mq q0 hy) (s_ok_days hk hG1 hG2 hTb hCb k) (by omega) (Or.inr rfl) hy.2.2.1 hy.2.2.2.2) (by assumption) (by assumption) rfl rfl (Nat.le_of_ble_eq_true rfl) (Nat.le_of_ble_eq_true rfl) (Nat.le_of_ble_eq_true rfl) (Nat.le_of_ble_eq_true rfl) (Nat.le_of_ble_eq_true rfl) ?_
          rintro d2 ⟨hy2, hw2⟩
          have hy3 := m_dy_tr hy hy2
          refine x_aload_n dX12_day_58 x_get_8_0 ?_
          refine x_bipush dX12_day_59 rfl ?_
          refine x_callV (As := [_]) dX12_day_61 w_12_350 (m_allOf hl (m_dy_mq q0 hy3) (s_ok_days hk hG1 hG2 hTb hCb (k + 1)) (by omega) (Or.inr rfl) hy3.2.2.1 (k := 17) rfl (by decide)) (by assumption) (by assumption) rfl rfl (Nat.le_of_ble_eq_true rfl) (Nat.le_of_ble_eq_true rfl) (Nat.le_of_ble_eq_true rfl) (Nat.le_of_ble_eq_true rfl) (Nat.le_of_ble_eq_true rfl) ?_
          intro dz hdz
          obtain rfl := Eq.symm hdz
          refine x_as_is (hvd (k + 1)) ?_
          refine x_iload dX12_day_64 x_get_8_6 ?_
          refine x_isub dX12_day_66 ?_
          refine x_istore dX12_day_67 (Nat.le_of_ble_eq_true rfl) rfl x_set_8_7 ?_
          refine x_iload_n dX12_day_69 x_get_8_3 ?_
          refine x_iconst dX12_day_70 ?_
          refine r_icmp_eq (t := 84) dX12_day_71 rfl ⟨by omega, by omega⟩ ⟨by omega, by omega⟩ (fun hc71 => ?_) (fun hc71 => ?_)
          · refine x_iload dX12_day_84 x_get_8_5 ?_
            refine x_istore_n dX12_day_86 (Nat.le_of_ble_eq_true rfl) rfl x_set_8_3 ?_
            refine x_iload dX12_day_87 x_get_8_7 ?_
            refine x_istore dX12_day_89 (Nat.le_of_ble_eq_true rfl) rfl x_set_8_4 ?_
            refine x_iinc dX12_day_91 x_get_8_5 (Nat.le_of_ble_eq_true rfl) rfl x_set_8_5 ?_
            refine x_goto (t := 38) dX12_day_94 rfl ?_
            refine x_forget 6 ?_
            refine x_forget 7 ?_
            first | (rw [if_pos (Or.inl (by omega))] at e; rw [e] at ih; dsimp only at ih; rw [hdn] at ih; exact ih d2 hy3) | (rw [if_pos (Or.inr (by omega))] at e; rw [e] at ih; dsimp only at ih; rw [hdn] at ih; exact ih d2 hy3) | (rw [if_neg (by omega)] at e; rw [e, hdb] at ih; exact ih d2 hy3)
          · refine x_iload dX12_day_74 x_get_8_7 ?_
            refine x_iload dX12_day_76 x_get_8_4 ?_
            refine r_icmp_gt (t := 84) dX12_day_78 rfl ⟨by omega, by omega⟩ ⟨by omega, by omega⟩ (fun hc78 => ?_) (fun hc78 => ?_)
            · refine x_iload dX12_day_84 x_get_8_5 ?_
              refine x_istore_n dX12_day_86 (Nat.le_of_ble_eq_true rfl) rfl x_set_8_3 ?_
              refine x_iload dX12_day_87 x_get_8_7 ?_
              refine x_istore dX12_day_89 (Nat.le_of_ble_eq_true rfl) rfl x_set_8_4 ?_
              refine x_iinc dX12_day_91 x_get_8_5 (Nat.le_of_ble_eq_true rfl) rfl x_set_8_5 ?_
              refine x_goto (t := 38) dX12_day_94 rfl ?_
              refine x_forget 6 ?_
              refine x_forget 7 ?_
              first | (rw [if_pos (Or.inl (by omega))] at e; rw [e] at ih; dsimp only at ih; rw [hdn] at ih; exact ih d2 hy3) | (rw [if_pos (Or.inr (by omega))] at e; rw [e] at ih; dsimp only at ih; rw [hdn] at ih; exact ih d2 hy3) | (rw [if_neg (by omega)] at e; rw [e, hdb] at ih; exact ih d2 hy3)
            · refine x_goto (t := 91) dX12_day_81 rfl ?_
              refine x_iinc dX12_day_91 x_get_8_5 (Nat.le_of_ble_eq_true rfl) rfl x_set_8_5 ?_
              refine x_goto (t := 38) dX12_day_94 rfl ?_
              refine x_forget 6 ?_
              refine x_forget 7 ?_
              first | (rw [if_pos (Or.inl (by omega))] at e; rw [e] at ih; dsimp only at ih; rw [hdn] at ih; exact ih d2 hy3) | (rw [if_pos (Or.inr (by omega))] at e; rw [e] at ih; dsimp only at ih; rw [hdn] at ih; exact ih d2 hy3) | (rw [if_neg (by omega)] at e; rw [e, hdb] at ih; exact ih d2 hy3)
      refine x_aload_n dX12_day_5 x_get_8_0 ?_
      refine x_iload_n dX12_day_6 x_get_8_2 ?_
      refine x_iconst dX12_day_7 ?_
      refine x_callV (As := [_, _]) dX12_day_8 w_12_365 (m_isWhatT hl q0.1 t0 hwr ⟨by decide, by decide⟩ hw) (by assumption) (by assumption) rfl rfl (Nat.le_of_ble_eq_true rfl) (Nat.le_of_ble_eq_true rfl) (Nat.le_of_ble_eq_true rfl) (Nat.le_of_ble_eq_true rfl) (Nat.le_of_ble_eq_true rfl) ?_
      intro dz hdz
      obtain rfl := Eq.symm hdz
      refine r_if_eq (t := 24) dX12_day_11 rfl ⟨by omega, by omega⟩ (fun hc11 => absurd hc11 (by omega)) (fun hc11 => ?_)
      refine x_aload_n dX12_day_14 x_get_8_0 ?_
      refine x_iload_n dX12_day_15 x_get_8_1 ?_
      refine x_iconst dX12_day_16 ?_
      refine x_iconst dX12_day_17 ?_
      refine x_callV (As := [_, _, _]) dX12_day_18 w_12_386 (m_isDaysT hl q0.1 t0 hnr ⟨by decide, by decide⟩ hn) (by assumption) (by assumption) rfl rfl (Nat.le_of_ble_eq_true rfl) (Nat.le_of_ble_eq_true rfl) (Nat.le_of_ble_eq_true rfl) (Nat.le_of_ble_eq_true rfl) (Nat.le_of_ble_eq_true rfl) ?_
      intro dz hdz
      obtain rfl := Eq.symm hdz
      refine r_if_ne (t := 26) dX12_day_21 rfl ⟨by omega, by omega⟩ (fun hc21 => ?_) (fun hc21 => absurd hc21 (by omega))
      refine x_aload_n dX12_day_26 x_get_8_0 ?_
      refine x_callV (As := []) dX12_day_27 w_12_389 (m_tries hl q0 r0) (by assumption) (by assumption) rfl rfl (Nat.le_of_ble_eq_true rfl) (Nat.le_of_ble_eq_true rfl) (Nat.le_of_ble_eq_true rfl) (Nat.le_of_ble_eq_true rfl) (Nat.le_of_ble_eq_true rfl) ?_
      rintro d1 hd1
      have y1 := m_dy_of hd1 v0
      refine x_iconst dX12_day_30 ?_
      refine x_istore_n dX12_day_31 (Nat.le_of_ble_eq_true rfl) rfl x_set_8_3 ?_
      refine x_iconst dX12_day_32 ?_
      refine x_istore dX12_day_33 (Nat.le_of_ble_eq_true rfl) rfl x_set_8_4 ?_
      refine x_iconst dX12_day_35 ?_
      refine x_istore dX12_day_36 (Nat.le_of_ble_eq_true rfl) rfl x_set_8_5 ?_
      exact hloop 0 (Nat.zero_le _) d1 y1
    · rw [if_neg hn]
      refine x_ofW (by decide +kernel) hl (by simp [Value.category]) (by simp) ?_
      refine x_aload_n dX12_day_0 x_get_8_0 ?_
      refine x_iconst dX12_day_1 ?_
      refine x_putI 0 dX12_day_2 fX_12_117 rfl tX_12_0 n62 s62 (by rfl) ?_
      have z0 := m_go0 hq hr hv84
      generalize x_up D 62 (x_u1 (D 62) 0 0) = d0 at z0 ⊢
      obtain ⟨q0, t0, ms0, r0, v0⟩ := z0
      refine x_aload_n dX12_day_5 x_get_8_0 ?_
      refine x_iload_n dX12_day_6 x_get_8_2 ?_
      refine x_iconst dX12_day_7 ?_
      refine x_callV (As := [_, _]) dX12_day_8 w_12_365 (m_isWhatT hl q0.1 t0 hwr ⟨by decide, by decide⟩ hw) (by assumption) (by assumption) rfl rfl (Nat.le_of_ble_eq_true rfl) (Nat.le_of_ble_eq_true rfl) (Nat.le_of_ble_eq_true rfl) (Nat.le_of_ble_eq_true rfl) (Nat.le_of_ble_eq_true rfl) ?_
      intro dz hdz
      obtain rfl := Eq.symm hdz
      refine r_if_eq (t := 24) dX12_day_11 rfl ⟨by omega, by omega⟩ (fun hc11 => absurd hc11 (by omega)) (fun hc11 => ?_)
      refine x_aload_n dX12_day_14 x_get_8_0 ?_
      refine x_iload_n dX12_day_15 x_get_8_1 ?_
      refine x_iconst dX12_day_16 ?_
      refine x_iconst dX12_day_17 ?_
      refine x_callV (As := [_, _, _]) dX12_day_18 w_12_386 (m_isDaysF hl q0.1 t0 hnr ⟨by decide, by decide⟩ hn (by decide) (by decide)) (by assumption) (by assumption) rfl rfl (Nat.le_of_ble_eq_true rfl) (Nat.le_of_ble_eq_true rfl) (Nat.le_of_ble_eq_true rfl) (Nat.le_of_ble_eq_true rfl) (Nat.le_of_ble_eq_true rfl) ?_
      intro dz hdz
      obtain rfl := Eq.symm hdz
      refine r_if_ne (t := 26) dX12_day_21 rfl ⟨by omega, by omega⟩ (fun hc21 => absurd hc21 (by omega)) (fun hc21 => ?_)
      refine x_iconst dX12_day_24 ?_
      exact x_iret dX12_day_25 rfl (Nat.le_of_ble_eq_true rfl) (Nat.le_of_ble_eq_true rfl) rfl rfl rfl ⟨ms_thr ms0, by rw [x_up_s, x_u1_s, m_k_I]⟩ rfl
  · rw [if_neg hw]
    refine x_ofW (by decide +kernel) hl (by simp [Value.category]) (by simp) ?_
    refine x_aload_n dX12_day_0 x_get_8_0 ?_
    refine x_iconst dX12_day_1 ?_
    refine x_putI 0 dX12_day_2 fX_12_117 rfl tX_12_0 n62 s62 (by rfl) ?_
    have z0 := m_go0 hq hr hv84
    generalize x_up D 62 (x_u1 (D 62) 0 0) = d0 at z0 ⊢
    obtain ⟨q0, t0, ms0, r0, v0⟩ := z0
    refine x_aload_n dX12_day_5 x_get_8_0 ?_
    refine x_iload_n dX12_day_6 x_get_8_2 ?_
    refine x_iconst dX12_day_7 ?_
    refine x_callV (As := [_, _]) dX12_day_8 w_12_365 (m_isWhatF hl q0.1 t0 hwr ⟨by decide, by decide⟩ hw) (by assumption) (by assumption) rfl rfl (Nat.le_of_ble_eq_true rfl) (Nat.le_of_ble_eq_true rfl) (Nat.le_of_ble_eq_true rfl) (Nat.le_of_ble_eq_true rfl) (Nat.le_of_ble_eq_true rfl) ?_
    intro dz hdz
    obtain rfl := Eq.symm hdz
    refine r_if_eq (t := 24) dX12_day_11 rfl ⟨by omega, by omega⟩ (fun hc11 => ?_) (fun hc11 => absurd hc11 (by omega))
    refine x_iconst dX12_day_24 ?_
    exact x_iret dX12_day_25 rfl (Nat.le_of_ble_eq_true rfl) (Nat.le_of_ble_eq_true rfl) rfl rfl rfl ⟨ms_thr ms0, by rw [x_up_s, x_u1_s, m_k_N]⟩ rfl
end M66
