section M69
/-! ===== the Model: what is missed, games, years, loans ===== -/
theorem ms_82 {D d : xM} (h : ms D d) {i v : Int} (hi : 85 ≤ i) : ms D (x_up d 82 (x_u1 (d 82) i v)) := ⟨fun j a b c e g => by rw [x_up_n b]; exact h.1 j a b c e g, fun i a b c => by rw [x_up_n (by decide)]; exact h.2.1 i a b c, fun k hk => by rw [x_up_s, x_u1_n (by omega)]; exact h.2.2.1 k hk, by rw [x_up_n (by decide)]; exact h.2.2.2⟩
theorem w_12_383 : x_cv RX12 383 yX12_opens cX12_opens 4 (none) 12 2 := ⟨⟨_, rfl, rfl⟩, (x_in 1795 (by decide +kernel) rfl), (x_in 1797 (by decide +kernel) rfl), (x_in 62 (by decide +kernel) rfl), (x_in 90 (by decide +kernel) rfl), (x_in 1798 (by decide +kernel) rfl), by decide, ⟨by decide +kernel, by decide +kernel, by decide +kernel⟩⟩
theorem w_12_426 : x_cv RX12 426 yX12_gains cX12_gains 7 (some .int) 12 4 := ⟨⟨_, rfl, rfl⟩, (x_in 1950 (by decide +kernel) rfl), (x_in 1952 (by decide +kernel) rfl), (x_in 74 (by decide +kernel) rfl), (x_in 90 (by decide +kernel) rfl), (x_in 1953 (by decide +kernel) rfl), by decide, ⟨by decide +kernel, by decide +kernel, by decide +kernel⟩⟩
set_option maxHeartbeats 8000000 in
theorem m_missed {X : xC} {l : Launch} (hl : l.stackTraces = false) {N : Nat} {sh : xS} {D : xM} {T C W : Nat} {G : Ldt} (hq : mq N sh D T C W G) {B : Int} {f : Int → Int} (hk : s_ok B f) (hB : B ≤ 200000) (hr : mr T C f (D 82) 0) (hv84 : ∀ j, x_r (D 84 j)) (hpl : pl_ok T C f) : x_M X l yX12_missed cX12_missed 5 (some .int) 7 0 0 [.ref (x_b X + 62)] false N sh D (m_r (o_i (l_miss T C G f C).1)) false N sh (fun d => ms D d ∧ d 62 0 = m_k 1 (o_i (l_miss T C G f C).1)) := by
  obtain ⟨hM, hT, hTb, hW, hWb, hC, hCb, hmk, ⟨hG1, hG2, hG3⟩, hod⟩ := id hq
  have s62 := md_62 hM
  have n62 : 62 < N := md_n hM (by decide)
  have s82 := md_82 hM
  have n82 : 82 < N := md_n hM (by decide)
  have hO := mq_gO hq
  have hB0 : 0 ≤ B := by have := (hk 0).1 rfl; omega
  rw [m_r_i, m_k_i]
  refine x_ofW (by decide +kernel) hl (by simp [Value.category]) (by simp) ?_
  refine x_aload_n dX12_missed_0 x_get_5_0 ?_
  refine x_iconst dX12_missed_1 ?_
  refine x_putI 0 dX12_missed_2 fX_12_117 rfl tX_12_0 n62 s62 (by rfl) ?_
  have z0 := m_go0 hq hr hv84
  generalize x_up D 62 (x_u1 (D 62) 0 0) = d0 at z0 ⊢
  obtain ⟨q0, t0, ms0, r0, v0⟩ := z0
  have hvo : ∀ c : Nat, c < 10 → -2000000 ≤ v_wo T C G f c ∧ v_wo T C G f c ≤ 2000000 := fun c hc => by
    have := v_won_in (s_ok_days (s_ok_opall (s_ok_lose hk (c := (c : Int)) (by omega) (by omega)) C hCb) hG1 hG2 hTb hCb 30) (by omega) hTb
    unfold v_wo
    omega
  have hmi := l_miss_in (M := 2000000) (by decide) hvo
  have hloop : ∀ k : Nat, k ≤ C → ∀ d : xM, ms d0 d → d 62 0 = 0 → x_W (X, l, yX12_missed, cX12_missed, 5, (some .int), x_room 7 0 0, 0, 0, (.inl (some (.int (xI ((l_miss T C G f C).1))))), N, sh, (fun d => ms D d ∧ d 62 0 = 0), false, []) 11 [some (.ref (x_b X + 62)), some (.int (xI (l_miss T C G f k).1)), some (.int (xI (l_miss T C G f k).2)), some (.int (xI (k : Int))), none] [] 0 0 false N sh d := by
    refine x_down C ?_ ?_
    · intro d hm ht
      have hC2 : d 62 3 = C := (ms_mq q0 hm).2.2.2.2.2.1
      refine x_iload_n dX12_missed_11 x_get_5_3 ?_
      refine x_aload_n dX12_missed_12 x_get_5_0 ?_
      refine x_getI 3 dX12_missed_13 fX_12_287 rfl n62 s62 (by rfl) ?_
      try simp (disch := decide) only [x_up_s, x_up_n, x_up_up, x_u1_s, x_u1_n, hC2]
      refine r_icmp_ge (t := 122) dX12_missed_16 rfl ⟨by omega, by omega⟩ ⟨by omega, by omega⟩ (fun hc16 => ?_) (fun hc16 => absurd hc16 (by omega))
      refine x_iload_n dX12_missed_122 x_get_5_1 ?_
      exact x_iret dX12_missed_123 rfl (Nat.le_of_ble_eq_true rfl) (Nat.le_of_ble_eq_true rfl) rfl rfl rfl ⟨ms_tr ms0 hm, ht⟩ rfl
    · intro k hk2 ih d hm ht
      have qd := ms_mq q0 hm
      have hC2 : d 62 3 = C := qd.2.2.2.2.2.1
      have rd0 := ms_mr hTb hCb hm r0
      have e := l_miss_s (T := T) (C := C) (G := G) (f := f) (c := k)
      have hl2 := hmi k (by omega)
      have hv2 := hvo k (by omega)
      have hcr := s_cr hk (c := (k : Int)) (by omega) (by omega)
      have tail : ∀ d2 : xM, ∀ o4 : Option Value, ms d0 d2 → d2 62 0 = 0 → x_W (X, l, yX12_missed, cX12_missed, 5, (some .int), x_room 7 0 0, 0, 0, (.inl (some (.int (xI ((l_miss T C G f C).1))))), N, sh, (fun d => ms D d ∧ d 62 0 = 0), false, []) 116 [some (.ref (x_b X + 62)), some (.int (xI (l_miss T C G f (k + 1)).1)), some (.int (xI (l_miss T C G f (k + 1)).2)), some (.int (xI (k : Int))), o4] [] 0 0 false N sh d2 := by
        intro d2 o4 hm2 ht2
        refine x_iinc dX12_missed_116 x_get_5_3 (Nat.le_of_ble_eq_true rfl) rfl x_set_5_3 ?_
        refine x_goto (t := 11) dX12_missed_119 rfl ?_
        refine x_forget 4 ?_
        exact ih d2 hm2 ht2
      have hkf : s_ok B (x_u1 f (55 + (k : Int)) (-1)) := s_ok_u1 hk ⟨fun a => by omega, fun a => by omega, fun a => by omega, fun a => by omega, fun a => by omega, fun _ _ => by omega, fun a => by omega⟩
      have hplk := pl_opall (pl_gone hpl (c := (k : Int))) hTb hCb
      have inner : s_lies f (k : Int) → ∀ j : Nat, j ≤ C → ∀ d : xM, ms d0 d → d 62 0 = 0 → mr T C (s_opall (x_u1 f (55 + (k : Int)) (-1)) j) (d 82) 85 → x_W (X, l, yX12_missed, cX12_missed, 5, (some .int), x_room 7 0 0, 0, 0, (.inl (some (.int (xI ((l_miss T C G f C).1))))), N, sh, (fun d => ms D d ∧ d 62 0 = 0), false, []) 49 [some (.ref (x_b X + 62)), some (.int (xI (l_miss T C G f k).1)), some (.int (xI (l_miss T C G f k).2)), some (.int (xI (k : Int))), some (.int (xI (j : Int)))] [] 0 0 false N sh d := by
        intro hli
        refine x_down C ?_ ?_
        · intro d hm ht hs
          have qd := ms_mq q0 hm
          have hC2 : d 62 3 = C := qd.2.2.2.2.2.1
          have hko := s_ok_opall hkf C hCb
          have hvw := v_wo_ae hO (c := (k : Int)) (by omega) (by omega) hCb hTb hk (by have := hli.2; omega)
          refine x_iload dX12_missed_49 x_get_5_4 ?_
          refine x_aload_n dX12_missed_51 x_get_5_0 ?_
          refine x_getI 3 dX12_missed_52 fX_12_287 rfl n62 s62 (by rfl) ?_
          try simp (disch := decide) only [x_up_s, x_up_n, x_up_up, x_u1_s, x_u1_n, hC2]
          refine r_icmp_ge (t := 83) dX12_missed_55 rfl ⟨by omega, by omega⟩ ⟨by omega, by omega⟩ (fun hc55 => ?_) (fun hc55 => absurd hc55 (by omega))
          refine x_aload_n dX12_missed_83 x_get_5_0 ?_
          refine x_bipush dX12_missed_84 rfl ?_
          refine x_callV (As := [_]) dX12_missed_86 w_12_392 (m_daysGo hl qd hko (n := 30) (by omega) hs hm.2.2.2) (by assumption) (by assumption) rfl rfl (Nat.le_of_ble_eq_true rfl) (Nat.le_of_ble_eq_true rfl) (Nat.le_of_ble_eq_true rfl) (Nat.le_of_ble_eq_true rfl) (Nat.le_of_ble_eq_true rfl) ?_
          rintro d2 hy2
          have hm2 := ms_dy hm hy2
          have ht2 : d2 62 0 = 0 := by rw [hy2.2.1 0 (by decide)]; exact ht
          refine x_aload_n dX12_missed_89 x_get_5_0 ?_
          refine x_bipush dX12_missed_90 rfl ?_
          refine x_callV (As := [_]) dX12_missed_92 w_12_350 (m_allOf hl (m_dy_mq qd hy2) (s_ok_days hko hG1 hG2 hTb hCb 30) (by omega) (Or.inr rfl) hy2.2.2.1 (k := 17) rfl (by decide)) (by assumption) (by assumption) rfl rfl (Nat.le_of_ble_eq_true rfl) (Nat.le_of_ble_eq_true rfl) (Nat.le_of_ble_eq_true rfl) (Nat.le_of_ble_eq_true rfl) (Nat.le_of_ble_eq_true rfl) ?_
          intro dz hdz
          obtain rfl := Eq.symm hdz
          refine x_as_is (show _ = v_wo T C G f (k : Int) from hvw) ?_
          refine x_istore dX12_missed_95 (Nat.le_of_ble_eq_true rfl) rfl x_set_5_4 ?_
          refine x_iload_n dX12_missed_97 x_get_5_1 ?_
          refine x_iconst dX12_missed_98 ?_
          refine r_icmp_eq (t := 111) dX12_missed_99 rfl ⟨by omega, by omega⟩ ⟨by omega, by omega⟩ (fun hc99 => ?_) (fun hc99 => ?_)
          · refine x_iload_n dX12_missed_111 x_get_5_3 ?_
            refine x_istore_n dX12_missed_112 (Nat.le_of_ble_eq_true rfl) rfl x_set_5_1 ?_
            refine x_iload dX12_missed_113 x_get_5_4 ?_
            refine x_istore_n dX12_missed_115 (Nat.le_of_ble_eq_true rfl) rfl x_set_5_2 ?_
            first | (rw [if_pos (And.intro hli (Or.inl hc99))] at e; rw [e] at tail; exact tail d2 _ hm2 ht2) | (rw [if_pos (And.intro hli (Or.inr hc105))] at e; rw [e] at tail; exact tail d2 _ hm2 ht2) | (rw [if_neg (fun h => by have := h.2; omega)] at e; rw [e] at tail; exact tail d2 _ hm2 ht2)
          · refine x_iload dX12_missed_102 x_get_5_4 ?_
            refine x_iload_n dX12_missed_104 x_get_5_2 ?_
            refine r_icmp_lt (t := 111) dX12_missed_105 rfl ⟨by omega, by omega⟩ ⟨by omega, by omega⟩ (fun hc105 => ?_) (fun hc105 => ?_)
            · refine x_iload_n dX12_missed_111 x_get_5_3 ?_
              refine x_istore_n dX12_missed_112 (Nat.le_of_ble_eq_true rfl) rfl x_set_5_1 ?_
              refine x_iload dX12_missed_113 x_get_5_4 ?_
              refine x_istore_n dX12_missed_115 (Nat.le_of_ble_eq_true rfl) rfl x_set_5_2 ?_
              first | (rw [if_pos (And.intro hli (Or.inl hc99))] at e; rw [e] at tail; exact tail d2 _ hm2 ht2) | (rw [if_pos (And.intro hli (Or.inr hc105))] at e; rw [e] at tail; exact tail d2 _ hm2 ht2) | (rw [if_neg (fun h => by have := h.2; omega)] at e; rw [e] at tail; exact tail d2 _ hm2 ht2)
            · refine x_goto (t := 116) dX12_missed_108 rfl ?_
              first | (rw [if_pos (And.intro hli (Or.inl hc99))] at e; rw [e] at tail; exact tail d2 _ hm2 ht2) | (rw [if_pos (And.intro hli (Or.inr hc105))] at e; rw [e] at tail; exact tail d2 _ hm2 ht2) | (rw [if_neg (fun h => by have := h.2; omega)] at e; rw [e] at tail; exact tail d2 _ hm2 ht2)
        · intro j hj ih2 d hm ht hs
          have qd := ms_mq q0 hm
          have hC2 : d 62 3 = C := qd.2.2.2.2.2.1
          have hko := s_ok_opall hkf j (by omega)
          have hcj := s_cr hko (c := (j : Int)) (by omega) (by omega)
          have hpj := hplk j (by omega) (j : Int) (by omega) (by omega)
          rw [s_opall_s] at ih2
          refine x_iload dX12_missed_49 x_get_5_4 ?_
          refine x_aload_n dX12_missed_51 x_get_5_0 ?_
          refine x_getI 3 dX12_missed_52 fX_12_287 rfl n62 s62 (by rfl) ?_
          try simp (disch := decide) only [x_up_s, x_up_n, x_up_up, x_u1_s, x_u1_n, hC2]
          refine r_icmp_ge (t := 83) dX12_missed_55 rfl ⟨by omega, by omega⟩ ⟨by omega, by omega⟩ (fun hc55 => absurd hc55 (by omega)) (fun hc55 => ?_)
          refine x_aload_n dX12_missed_58 x_get_5_0 ?_
          refine x_bipush dX12_missed_59 rfl ?_
          refine x_iload dX12_missed_61 x_get_5_4 ?_
          refine x_callV (As := [_, _]) dX12_missed_63 w_12_308 (m_lies hl qd hko (by omega) (Or.inr rfl) hs (c := (j : Int)) (by omega) (by omega)) (by assumption) (by assumption) rfl rfl (Nat.le_of_ble_eq_true rfl) (Nat.le_of_ble_eq_true rfl) (Nat.le_of_ble_eq_true rfl) (Nat.le_of_ble_eq_true rfl) (Nat.le_of_ble_eq_true rfl) ?_
          intro dz hdz
          obtain rfl := Eq.symm hdz
          refine b_ifeq (t := 77) dX12_missed_66 rfl (fun hc66 => ?_) (fun hc66 => ?_)
          · refine x_iinc dX12_missed_77 x_get_5_4 (Nat.le_of_ble_eq_true rfl) rfl x_set_5_4 ?_
            refine x_goto (t := 49) dX12_missed_80 rfl ?_
            first | (rw [if_pos hc66] at ih2; exact ih2 d2 (ms_w hm hd2) (by rw [hd2.1 62 (by decide)]; exact ht) hd2.2.1) | (rw [if_neg hc66] at ih2; exact ih2 d hm ht hs)
          · refine x_aload_n dX12_missed_69 x_get_5_0 ?_
            refine x_bipush dX12_missed_70 rfl ?_
            refine x_iload dX12_missed_72 x_get_5_4 ?_
            refine x_callV (As := [_, _]) dX12_missed_74 w_12_383 (m_opens hl qd hko (by omega) (Or.inr rfl) hs (c := (j : Int)) (by omega) (by omega) (by have := hc66.1; omega) (by have := hc66.1; omega) (by have := hc66.2; omega)) (by assumption) (by assumption) rfl rfl (Nat.le_of_ble_eq_true rfl) (Nat.le_of_ble_eq_true rfl) (Nat.le_of_ble_eq_true rfl) (Nat.le_of_ble_eq_true rfl) (Nat.le_of_ble_eq_true rfl) ?_
            rintro d2 hd2
            refine x_iinc dX12_missed_77 x_get_5_4 (Nat.le_of_ble_eq_true rfl) rfl x_set_5_4 ?_
            refine x_goto (t := 49) dX12_missed_80 rfl ?_
            first | (rw [if_pos hc66] at ih2; exact ih2 d2 (ms_w hm hd2) (by rw [hd2.1 62 (by decide)]; exact ht) hd2.2.1) | (rw [if_neg hc66] at ih2; exact ih2 d hm ht hs)
      refine x_iload_n dX12_missed_11 x_get_5_3 ?_
      refine x_aload_n dX12_missed_12 x_get_5_0 ?_
      refine x_getI 3 dX12_missed_13 fX_12_287 rfl n62 s62 (by rfl) ?_
      try simp (disch := decide) only [x_up_s, x_up_n, x_up_up, x_u1_s, x_u1_n, hC2]
      refine r_icmp_ge (t := 122) dX12_missed_16 rfl ⟨by omega, by omega⟩ ⟨by omega, by omega⟩ (fun hc16 => absurd hc16 (by omega)) (fun hc16 => ?_)
      refine x_aload_n dX12_missed_19 x_get_5_0 ?_
      refine x_iconst dX12_missed_20 ?_
      refine x_iload_n dX12_missed_21 x_get_5_3 ?_
      refine x_callV (As := [_, _]) dX12_missed_22 w_12_308 (m_lies hl qd hk (by omega) (Or.inl rfl) rd0 (c := (k : Int)) (by omega) (by omega)) (by assumption) (by assumption) rfl rfl (Nat.le_of_ble_eq_true rfl) (Nat.le_of_ble_eq_true rfl) (Nat.le_of_ble_eq_true rfl) (Nat.le_of_ble_eq_true rfl) (Nat.le_of_ble_eq_true rfl) ?_
      intro dz hdz
      obtain rfl := Eq.symm hdz
      refine b_ifne (t := 31) dX12_missed_25 rfl (fun hc25 => ?_) (fun hc25 => ?_)
      · refine x_aload_n dX12_missed_31 x_get_5_0 ?_
        refine x_callV (As := []) dX12_missed_32 w_12_389 (m_tries hl qd rd0) (by assumption) (by assumption) rfl rfl (Nat.le_of_ble_eq_true rfl) (Nat.le_of_ble_eq_true rfl) (Nat.le_of_ble_eq_true rfl) (Nat.le_of_ble_eq_true rfl) (Nat.le_of_ble_eq_true rfl) ?_
        rintro d1 hd1
        refine x_aload_n dX12_missed_35 x_get_5_0 ?_
        refine x_getR dX12_missed_36 fX_12_75 n62 s62 (by rfl) ?_
        refine x_sipush dX12_missed_39 rfl ?_
        refine x_iload_n dX12_missed_42 x_get_5_3 ?_
        refine x_iadd dX12_missed_43 ?_
        refine x_iconst dX12_missed_44 ?_
        refine x_iast dX12_missed_45 n82 s82 (by omega) (by omega) (by decide) ?_
        refine x_iconst dX12_missed_46 ?_
        refine x_istore dX12_missed_47 (Nat.le_of_ble_eq_true rfl) rfl x_set_5_4 ?_
        exact inner hc25 0 (Nat.zero_le _) _ (ms_82 (ms_w hm hd1) (by omega)) (by rw [x_up_n (by decide), hd1.1 62 (by decide)]; exact ht) (by rw [x_up_s]; exact mr_u1 hd1.2.1 (by omega))
      · refine x_goto (t := 116) dX12_missed_28 rfl ?_
        rw [if_neg (fun h => hc25 h.1)] at e
        rw [e] at tail
        exact tail d _ hm ht
  refine x_iconst dX12_missed_5 ?_
  refine x_istore_n dX12_missed_6 (Nat.le_of_ble_eq_true rfl) rfl x_set_5_1 ?_
  refine x_iconst dX12_missed_7 ?_
  refine x_istore_n dX12_missed_8 (Nat.le_of_ble_eq_true rfl) rfl x_set_5_2 ?_
  refine x_iconst dX12_missed_9 ?_
  refine x_istore_n dX12_missed_10 (Nat.le_of_ble_eq_true rfl) rfl x_set_5_3 ?_
  exact hloop 0 (Nat.zero_le _) d0 (ms_rf v0) t0
set_option maxHeartbeats 8000000 in
theorem m_gains {X : xC} {l : Launch} (hl : l.stackTraces = false) {N : Nat} {sh : xS} {D : xM} {T C W : Nat} {G : Ldt} (hq : mq N sh D T C W G) {B : Int} {f : Int → Int} (hk : s_ok B f) (hB : B ≤ 200000) (hr : mr T C f (D 82) 0) (hv84 : ∀ j, x_r (D 84 j)) {t u : Nat} (ht : t < T) (hu : u < T) (hne : ¬ (t : Int) = u) {x y : Int} (hx : x = 0 ∨ x = 1) (hy : y = 0 ∨ y = 1) : x_M X l yX12_gains cX12_gains 7 (some .int) 6 0 0 [.ref (x_b X + 62), .int (xI (t : Int)), .int (xI (u : Int)), .int (xI x), .int (xI y)] false N sh D (.inl (some (.int (xI (v_game C G f (t : Int) (u : Int) x y - f (17 + (t : Int))))))) false N sh (fun d => ms D d ∧ d 62 0 = D 62 0) := by
  obtain ⟨hM, hT, hTb, hW, hWb, hC, hCb, hmk, ⟨hG1, hG2, hG3⟩, hod⟩ := id hq
  have s62 := md_62 hM
  have n62 : 62 < N := md_n hM (by decide)
  have s82 := md_82 hM
  have n82 : 82 < N := md_n hM (by decide)
  have hO := mq_gO hq
  have ha := s_tn hk (t := (t : Int)) (by omega) (by omega)
  have hb := s_tn hk (t := (u : Int)) (by omega) (by omega)
  have hxa : 0 ≤ x * (f (1 + (t : Int)) / 10) ∧ x * (f (1 + (t : Int)) / 10) ≤ f (1 + (t : Int)) := by rcases hx with h | h <;> rw [h] <;> omega
  have hyb : 0 ≤ y * (f (1 + (u : Int)) / 10) ∧ y * (f (1 + (u : Int)) / 10) ≤ f (1 + (u : Int)) := by rcases hy with h | h <;> rw [h] <;> omega
  have et : D 82 (1 + (t : Int)) = f (1 + (t : Int)) := mr_t hr rfl (by decide) (by omega) (by omega)
  have eu : D 82 (1 + (u : Int)) = f (1 + (u : Int)) := mr_t hr rfl (by decide) (by omega) (by omega)
  generalize hA : min 9999 (f (1 + (t : Int)) - x * (f (1 + (t : Int)) / 10) + y * (f (1 + (u : Int)) / 10)) = A
  generalize hBB : min 9999 (f (1 + (u : Int)) - y * (f (1 + (u : Int)) / 10) + x * (f (1 + (t : Int)) / 10)) = A2
  have hvg : v_game C G f (t : Int) (u : Int) x y = s_days G T C (x_u1 (x_u1 f (1 + (t : Int)) A) (1 + (u : Int)) A2) 10 (17 + (t : Int)) := by
    rw [v_game_ag hO hTb ht hu hne, ← hA]
    rfl
  rw [hvg]
  refine x_ofW (by decide +kernel) hl (by simp [Value.category]) (by simp) ?_
  refine x_iload_n dX12_gains_0 x_get_7_3 ?_
  refine x_aload_n dX12_gains_1 x_get_7_0 ?_
  refine x_getR dX12_gains_2 fX_12_75 n62 s62 (by rfl) ?_
  refine x_iconst dX12_gains_5 ?_
  refine x_iload_n dX12_gains_6 x_get_7_1 ?_
  refine x_iadd dX12_gains_7 ?_
  refine x_iald dX12_gains_8 n82 s82 (by omega) (by omega) (by decide) ?_
  try simp (disch := decide) only [x_up_s, x_up_n, x_up_up, x_u1_s, x_u1_n, et, eu]
  refine x_bipush dX12_gains_9 rfl ?_
  refine x_idiv dX12_gains_11 (by decide) ?_
  refine x_as_is (x_dv_nn (by omega) (by omega) (by decide) (by decide)) ?_
  refine x_imul dX12_gains_12 ?_
  refine x_istore dX12_gains_13 (Nat.le_of_ble_eq_true rfl) rfl x_set_7_5 ?_
  refine x_iload dX12_gains_15 x_get_7_4 ?_
  refine x_aload_n dX12_gains_17 x_get_7_0 ?_
  refine x_getR dX12_gains_18 fX_12_75 n62 s62 (by rfl) ?_
  refine x_iconst dX12_gains_21 ?_
  refine x_iload_n dX12_gains_22 x_get_7_2 ?_
  refine x_iadd dX12_gains_23 ?_
  refine x_iald dX12_gains_24 n82 s82 (by omega) (by omega) (by decide) ?_
  try simp (disch := decide) only [x_up_s, x_up_n, x_up_up, x_u1_s, x_u1_n, et, eu]
  refine x_bipush dX12_gains_25 rfl ?_
  refine x_idiv dX12_gains_27 (by decide) ?_
  refine x_as_is (x_dv_nn (by omega) (by omega) (by decide) (by decide)) ?_
  refine x_imul dX12_gains_28 ?_
  refine x_istore dX12_gains_29 (Nat.le_of_ble_eq_true rfl) rfl x_set_7_6 ?_
  refine x_aload_n dX12_gains_31 x_get_7_0 ?_
  refine x_callV (As := []) dX12_gains_32 w_12_389 (m_tries hl hq hr) (by assumption) (by assumption) rfl rfl (Nat.le_of_ble_eq_true rfl) (Nat.le_of_ble_eq_true rfl) (Nat.le_of_ble_eq_true rfl) (Nat.le_of_ble_eq_true rfl) (Nat.le_of_ble_eq_true rfl) ?_
  rintro d1 hd1
  have m1 := ms_w (ms_rf hv84) hd1
  have r1 := ms_mr hTb hCb m1 hr
  clear et eu
  have et : d1 82 (1 + (t : Int)) = f (1 + (t : Int)) := mr_t r1 rfl (by decide) (by omega) (by omega)
  have eu : d1 82 (1 + (u : Int)) = f (1 + (u : Int)) := mr_t r1 rfl (by decide) (by omega) (by omega)
  refine x_aload_n dX12_gains_35 x_get_7_0 ?_
  refine x_getR dX12_gains_36 fX_12_75 n62 s62 (by rfl) ?_
  refine x_bipush dX12_gains_39 rfl ?_
  refine x_iload_n dX12_gains_41 x_get_7_1 ?_
  refine x_iadd dX12_gains_42 ?_
  refine x_aload_n dX12_gains_43 x_get_7_0 ?_
  refine x_getR dX12_gains_44 fX_12_75 n62 s62 (by rfl) ?_
  refine x_iconst dX12_gains_47 ?_
  refine x_iload_n dX12_gains_48 x_get_7_1 ?_
  refine x_iadd dX12_gains_49 ?_
  refine x_iald dX12_gains_50 n82 s82 (by omega) (by omega) (by decide) ?_
  try simp (disch := decide) only [x_up_s, x_up_n, x_up_up, x_u1_s, x_u1_n, et, eu]
  refine x_iload dX12_gains_51 x_get_7_5 ?_
  refine x_isub dX12_gains_53 ?_
  refine x_iload dX12_gains_54 x_get_7_6 ?_
  refine x_iadd dX12_gains_56 ?_
  refine x_iconst dX12_gains_57 ?_
  refine x_sipush dX12_gains_58 rfl ?_
  refine x_callS (As := [_, _, _]) dX12_gains_61 w_12_311 (m_kept hl A ⟨by omega, by omega⟩ ⟨by decide, by decide⟩ ⟨by decide, by decide⟩ (by decide) (by omega)) rfl rfl (Nat.le_of_ble_eq_true rfl) (Nat.le_of_ble_eq_true rfl) (Nat.le_of_ble_eq_true rfl) (Nat.le_of_ble_eq_true rfl) (Nat.le_of_ble_eq_true rfl) ?_
  intro dz hdz
  obtain rfl := Eq.symm hdz
  refine x_iast dX12_gains_64 n82 s82 (by omega) (by omega) (by decide) ?_
  have m2 : ms D (x_up d1 82 (x_u1 (d1 82) (86 + (t : Int)) A)) := ms_82 m1 (by omega)
  have s2 : mr T C (x_u1 f (1 + (t : Int)) A) ((x_up d1 82 (x_u1 (d1 82) (86 + (t : Int)) A)) 82) 85 := by rw [x_up_s]; exact mr_u1 hd1.2.1 (by omega)
  have t2 : (x_up d1 82 (x_u1 (d1 82) (86 + (t : Int)) A)) 62 0 = D 62 0 := by rw [x_up_n (by decide), hd1.1 62 (by decide)]
  generalize x_up d1 82 (x_u1 (d1 82) (86 + (t : Int)) A) = d2 at m2 s2 t2 ⊢
  have r2 := ms_mr hTb hCb m2 hr
  have eu2 : d2 82 (1 + (u : Int)) = f (1 + (u : Int)) := mr_t r2 rfl (by decide) (by omega) (by omega)
  refine x_aload_n dX12_gains_65 x_get_7_0 ?_
  refine x_getR dX12_gains_66 fX_12_75 n62 s62 (by rfl) ?_
  refine x_bipush dX12_gains_69 rfl ?_
  refine x_iload_n dX12_gains_71 x_get_7_2 ?_
  refine x_iadd dX12_gains_72 ?_
  refine x_aload_n dX12_gains_73 x_get_7_0 ?_
  refine x_getR dX12_gains_74 fX_12_75 n62 s62 (by rfl) ?_
  refine x_iconst dX12_gains_77 ?_
  refine x_iload_n dX12_gains_78 x_get_7_2 ?_
  refine x_iadd dX12_gains_79 ?_
  refine x_iald dX12_gains_80 n82 s82 (by omega) (by omega) (by decide) ?_
  try simp (disch := decide) only [x_up_s, x_up_n, x_up_up, x_u1_s, x_u1_n, eu2]
  refine x_iload dX12_gains_81 x_get_7_6 ?_
  refine x_isub dX12_gains_83 ?_
  refine x_iload dX12_gains_84 x_get_7_5 ?_
  refine x_iadd dX12_gains_86 ?_
  refine x_iconst dX12_gains_87 ?_
  refine x_sipush dX12_gains_88 rfl ?_
  refine x_callS (As := [_, _, _]) dX12_gains_91 w_12_311 (m_kept hl A2 ⟨by omega, by omega⟩ ⟨by decide, by decide⟩ ⟨by decide, by decide⟩ (by decide) (by omega)) rfl rfl (Nat.le_of_ble_eq_true rfl) (Nat.le_of_ble_eq_true rfl) (Nat.le_of_ble_eq_true rfl) (Nat.le_of_ble_eq_true rfl) (Nat.le_of_ble_eq_true rfl) ?_
  intro dz hdz
  obtain rfl := Eq.symm hdz
  refine x_iast dX12_gains_94 n82 s82 (by omega) (by omega) (by decide) ?_
  have m3 : ms D (x_up d2 82 (x_u1 (d2 82) (86 + (u : Int)) A2)) := ms_82 m2 (by omega)
  have s3 : mr T C (x_u1 (x_u1 f (1 + (t : Int)) A) (1 + (u : Int)) A2) ((x_up d2 82 (x_u1 (d2 82) (86 + (u : Int)) A2)) 82) 85 := by rw [x_up_s]; exact mr_u1 s2 (by omega)
  have t3 : (x_up d2 82 (x_u1 (d2 82) (86 + (u : Int)) A2)) 62 0 = D 62 0 := by rw [x_up_n (by decide)]; exact t2
  generalize x_up d2 82 (x_u1 (d2 82) (86 + (u : Int)) A2) = d3 at m3 s3 t3 ⊢
  have hkf : s_ok B (x_u1 (x_u1 f (1 + (t : Int)) A) (1 + (u : Int)) A2) := s_ok_u1 (s_ok_u1 hk ⟨fun a => by omega, fun _ _ => ⟨by omega, by omega⟩, fun a => by omega, fun a => by omega, fun a => by omega, fun a => by omega, fun a => by omega⟩) ⟨fun a => by omega, fun _ _ => ⟨by omega, by omega⟩, fun a => by omega, fun a => by omega, fun a => by omega, fun a => by omega, fun a => by omega⟩
  have hB0 : 0 ≤ B := by have := (hk 0).1 rfl; omega
  refine x_aload_n dX12_gains_95 x_get_7_0 ?_
  refine x_bipush dX12_gains_96 rfl ?_
  refine x_callV (As := [_]) dX12_gains_98 w_12_392 (m_daysGo hl (ms_mq hq m3) hkf (n := 10) (by omega) s3 m3.2.2.2) (by assumption) (by assumption) rfl rfl (Nat.le_of_ble_eq_true rfl) (Nat.le_of_ble_eq_true rfl) (Nat.le_of_ble_eq_true rfl) (Nat.le_of_ble_eq_true rfl) (Nat.le_of_ble_eq_true rfl) ?_
  rintro d4 hd4
  have m4 := ms_dy m3 hd4
  have r4 := ms_mr hTb hCb m4 hr
  have e4 : d4 82 (102 + (t : Int)) = s_days G T C (x_u1 (x_u1 f (1 + (t : Int)) A) (1 + (u : Int)) A2) 10 (17 + (t : Int)) := mr_t hd4.2.2.1 rfl (by decide) (by omega) (by omega)
  have e5 : d4 82 (17 + (t : Int)) = f (17 + (t : Int)) := mr_t r4 rfl (by decide) (by omega) (by omega)
  refine x_aload_n dX12_gains_101 x_get_7_0 ?_
  refine x_getR dX12_gains_102 fX_12_75 n62 s62 (by rfl) ?_
  refine x_bipush dX12_gains_105 rfl ?_
  refine x_iload_n dX12_gains_107 x_get_7_1 ?_
  refine x_iadd dX12_gains_108 ?_
  refine x_iald dX12_gains_109 n82 s82 (by omega) (by omega) (by decide) ?_
  try simp (disch := decide) only [x_up_s, x_up_n, x_up_up, x_u1_s, x_u1_n, e4, e5]
  refine x_aload_n dX12_gains_110 x_get_7_0 ?_
  refine x_getR dX12_gains_111 fX_12_75 n62 s62 (by rfl) ?_
  refine x_bipush dX12_gains_114 rfl ?_
  refine x_iload_n dX12_gains_116 x_get_7_1 ?_
  refine x_iadd dX12_gains_117 ?_
  refine x_iald dX12_gains_118 n82 s82 (by omega) (by omega) (by decide) ?_
  try simp (disch := decide) only [x_up_s, x_up_n, x_up_up, x_u1_s, x_u1_n, e4, e5]
  refine x_isub dX12_gains_119 ?_
  exact x_iret dX12_gains_120 rfl (Nat.le_of_ble_eq_true rfl) (Nat.le_of_ble_eq_true rfl) rfl rfl rfl ⟨m4, by rw [hd4.2.1 0 (by decide)]; exact t3⟩ rfl
set_option maxHeartbeats 8000000 in
theorem m_game {X : xC} {l : Launch} (hl : l.stackTraces = false) {N : Nat} {sh : xS} {D : xM} {T C W : Nat} {G : Ldt} (hq : mq N sh D T C W G) {B : Int} {f : Int → Int} (hk : s_ok B f) (hB : B ≤ 200000) (hr : mr T C f (D 82) 0) (hv84 : ∀ j, x_r (D 84 j)) {t u w : Int} (htr : x_r t) (hur : x_r u) (hwr : x_r w) : x_M X l yX12_game cX12_game 9 (some .int) 7 0 0 [.ref (x_b X + 62), .int (xI t), .int (xI u), .int (xI w)] false N sh D (m_r (q_game T C G f t u w)) false N sh (fun d => ms D d ∧ d 62 0 = m_k 2 (q_game T C G f t u w)) := by
  obtain ⟨hM, hT, hTb, hW, hWb, hC, hCb, hmk, ⟨hG1, hG2, hG3⟩, hod⟩ := id hq
  have s62 := md_62 hM
  have n62 : 62 < N := md_n hM (by decide)
  obtain ⟨hwr0, hwr1⟩ := id hwr
  unfold q_game
  by_cases ht : 0 ≤ t ∧ t < T
  · rw [if_pos ht]
    obtain ⟨ht0, ht1⟩ := id ht
    by_cases hu : 0 ≤ u ∧ u < T
    · rw [if_pos hu]
      obtain ⟨hu0, hu1⟩ := id hu
      by_cases hw : 0 ≤ w ∧ w ≤ 1
      · rw [if_pos hw]
        obtain ⟨hw0, hw1⟩ := id hw
        by_cases htu : t = u
        · rw [if_pos htu]
          refine x_ofW (by decide +kernel) hl (by simp [Value.category]) (by simp) ?_
          refine x_aload_n dX12_game_0 x_get_9_0 ?_
          refine x_iconst dX12_game_1 ?_
          refine x_putI 0 dX12_game_2 fX_12_117 rfl tX_12_0 n62 s62 (by rfl) ?_
          have z0 := m_go0 hq hr hv84
          generalize x_up D 62 (x_u1 (D 62) 0 0) = d0 at z0 ⊢
          obtain ⟨q0, t0, ms0, r0, v0⟩ := z0
          refine x_aload_n dX12_game_5 x_get_9_0 ?_
          refine x_iload_n dX12_game_6 x_get_9_1 ?_
          refine x_callV (As := [_]) dX12_game_7 w_12_362 (m_isTownT hl q0 t0 ht) (by assumption) (by assumption) rfl rfl (Nat.le_of_ble_eq_true rfl) (Nat.le_of_ble_eq_true rfl) (Nat.le_of_ble_eq_true rfl) (Nat.le_of_ble_eq_true rfl) (Nat.le_of_ble_eq_true rfl) ?_
          intro dz hdz
          obtain rfl := Eq.symm hdz
          refine r_if_eq (t := 48) dX12_game_10 rfl ⟨by omega, by omega⟩ (fun hc10 => absurd hc10 (by omega)) (fun hc10 => ?_)
          refine x_aload_n dX12_game_13 x_get_9_0 ?_
          refine x_iload_n dX12_game_14 x_get_9_2 ?_
          refine x_callV (As := [_]) dX12_game_15 w_12_362 (m_isTownT hl q0 t0 hu) (by assumption) (by assumption) rfl rfl (Nat.le_of_ble_eq_true rfl) (Nat.le_of_ble_eq_true rfl) (Nat.le_of_ble_eq_true rfl) (Nat.le_of_ble_eq_true rfl) (Nat.le_of_ble_eq_true rfl) ?_
          intro dz hdz
          obtain rfl := Eq.symm hdz
          refine r_if_eq (t := 48) dX12_game_18 rfl ⟨by omega, by omega⟩ (fun hc18 => absurd hc18 (by omega)) (fun hc18 => ?_)
          refine x_aload_n dX12_game_21 x_get_9_0 ?_
          refine x_iload_n dX12_game_22 x_get_9_3 ?_
          refine x_iconst dX12_game_23 ?_
          refine x_callV (As := [_, _]) dX12_game_24 w_12_365 (m_isWhatT hl q0.1 t0 hwr ⟨by decide, by decide⟩ hw) (by assumption) (by assumption) rfl rfl (Nat.le_of_ble_eq_true rfl) (Nat.le_of_ble_eq_true rfl) (Nat.le_of_ble_eq_true rfl) (Nat.le_of_ble_eq_true rfl) (Nat.le_of_ble_eq_true rfl) ?_
          intro dz hdz
          obtain rfl := Eq.symm hdz
          refine r_if_eq (t := 48) dX12_game_27 rfl ⟨by omega, by omega⟩ (fun hc27 => absurd hc27 (by omega)) (fun hc27 => ?_)
          refine x_aload_n dX12_game_30 x_get_9_0 ?_
          refine x_iload_n dX12_game_31 x_get_9_1 ?_
          refine x_iload_n dX12_game_32 x_get_9_2 ?_
          refine r_icmp_eq (t := 40) dX12_game_33 rfl ⟨by omega, by omega⟩ ⟨by omega, by omega⟩ (fun hc33 => ?_) (fun hc33 => absurd hc33 (by omega))
          refine x_iconst dX12_game_40 ?_
          refine x_iconst dX12_game_41 ?_
          refine x_callV (As := [_, _]) dX12_game_42 w_12_274 (m_rightF hl q0.1 t0 (by decide) (by decide)) (by assumption) (by assumption) rfl rfl (Nat.le_of_ble_eq_true rfl) (Nat.le_of_ble_eq_true rfl) (Nat.le_of_ble_eq_true rfl) (Nat.le_of_ble_eq_true rfl) (Nat.le_of_ble_eq_true rfl) ?_
          intro dz hdz
          obtain rfl := Eq.symm hdz
          refine r_if_ne (t := 50) dX12_game_45 rfl ⟨by omega, by omega⟩ (fun hc45 => absurd hc45 (by omega)) (fun hc45 => ?_)
          refine x_iconst dX12_game_48 ?_
          exact x_iret dX12_game_49 rfl (Nat.le_of_ble_eq_true rfl) (Nat.le_of_ble_eq_true rfl) rfl rfl rfl ⟨ms_thr ms0, by rw [x_up_s, x_u1_s, m_k_I]⟩ rfl
        · rw [if_neg htu]
          obtain ⟨tn, rfl⟩ := Int.eq_ofNat_of_zero_le ht0
          obtain ⟨un, rfl⟩ := Int.eq_ofNat_of_zero_le hu0
          have htt : tn < T := by omega
          have huu : un < T := by omega
          have hgr : ∀ (t u : Nat), t < T → u < T → ∀ x y : Int, (x = 0 ∨ x = 1) → (y = 0 ∨ y = 1) → -1000000 ≤ v_game C G f (t : Int) (u : Int) x y ∧ v_game C G f (t : Int) (u : Int) x y ≤ 1000000 := by
            intro t u ht hu x y hx hy
            have ha := (s_tn hk (t := (t : Int)) (by omega) (by omega)).1
            have hb := (s_tn hk (t := (u : Int)) (by omega) (by omega)).1
            have hxd : x * (f (1 + (t : Int)) / 10) ≤ f (1 + (t : Int)) := by rcases hx with h | h <;> rw [h] <;> omega
            have hyb : 0 ≤ y * (f (1 + (u : Int)) / 10) := by rcases hy with h | h <;> rw [h] <;> omega
            have hkf := s_ok_towns (s_ok_u1 hk (i := 1 + (t : Int)) (v := min 9999 (f (1 + (t : Int)) - x * (f (1 + (t : Int)) / 10) + y * (f (1 + (u : Int)) / 10))) ⟨fun a => by omega, fun _ _ => ⟨by omega, by omega⟩, fun a => by omega, fun a => by omega, fun a => by omega, fun a => by omega, fun a => by omega⟩) hG1 hG2 hCb (t := (t : Int)) (by omega) (by omega) 10
            have := (s_tn hkf (t := (t : Int)) (by omega) (by omega)).2.2
            unfold v_game
            omega
          have hft := (s_tn hk (t := (tn : Int)) (by omega) (by omega)).2.2
          have hfu := (s_tn hk (t := (un : Int)) (by omega) (by omega)).2.2
          rw [m_r_i, m_k_i]
          refine x_ofW (by decide +kernel) hl (by simp [Value.category]) (by simp) ?_
          refine x_aload_n dX12_game_0 x_get_9_0 ?_
          refine x_iconst dX12_game_1 ?_
          refine x_putI 0 dX12_game_2 fX_12_117 rfl tX_12_0 n62 s62 (by rfl) ?_
          have z0 := m_go0 hq hr hv84
          generalize x_up D 62 (x_u1 (D 62) 0 0) = d0 at z0 ⊢
          obtain ⟨q0, t0, ms0, r0, v0⟩ := z0
          have hin : ∀ (k x y : Int), (x = 0 ∨ x = 1) → (y = 0 ∨ y = 1) → ∀ p : Int × Int, (-1 ≤ p.2 ∧ p.2 ≤ 11) → ∀ d : xM, ms d0 d → d 62 0 = 0 → (∀ d2 : xM, ms d0 d2 → d2 62 0 = 0 → x_W (X, l, yX12_game, cX12_game, 9, (some .int), x_room 7 0 0, 0, 0, (.inl (some (.int (xI ((if w = 0 then (l_game C G f (tn : Int) (un : Int)).1 else (l_game C G f (tn : Int) (un : Int)).2)))))), N, sh, (fun d => ms D d ∧ d 62 0 = 0), false, []) 149 [some (.ref (x_b X + 62)), some (.int (xI (tn : Int))), some (.int (xI (un : Int))), some (.int (xI w)), some (.int (xI (g_stp C G f (tn : Int) (un : Int) p x y).1)), some (.int (xI (g_stp C G f (tn : Int) (un : Int) p x y).2)), some (.int (xI k)), some (.int (xI x)), some (.int (xI y))] [] 0 0 false N sh d2) → x_W (X, l, yX12_game, cX12_game, 9, (some .int), x_room 7 0 0, 0, 0, (.inl (some (.int (xI ((if w = 0 then (l_game C G f (tn : Int) (un : Int)).1 else (l_game C G f (tn : Int) (un : Int)).2)))))), N, sh, (fun d => ms D d ∧ d 62 0 = 0), false, []) 77 [some (.ref (x_b X + 62)), some (.int (xI (tn : Int))), some (.int (xI (un : Int))), some (.int (xI w)), some (.int (xI p.1)), some (.int (xI p.2)), some (.int (xI k)), some (.int (xI x)), some (.int (xI y))] [] 0 0 false N sh d := by
            intro k x y hx hy p hp d hm ht kk
            have h1x : 1 - x = 0 ∨ 1 - x = 1 := by omega
            have h1y : 1 - y = 0 ∨ 1 - y = 1 := by omega
            have v1 := hgr tn un htt huu (1 - x) y h1x hy
            have v2 := hgr tn un htt huu x y hx hy
            have v3 := hgr un tn huu htt (1 - y) x h1y hx
            have v4 := hgr un tn huu htt y x hy hx
            refine x_aload_n dX12_game_77 x_get_9_0 ?_
            refine x_iload_n dX12_game_78 x_get_9_1 ?_
            refine x_iload_n dX12_game_79 x_get_9_2 ?_
            refine x_iconst dX12_game_80 ?_
            refine x_iload dX12_game_81 x_get_9_7 ?_
            refine x_isub dX12_game_83 ?_
            refine x_iload dX12_game_84 x_get_9_8 ?_
            refine x_callV (As := [_, _, _, _]) dX12_game_86 w_12_426 (m_gains hl (ms_mq q0 hm) hk hB (ms_mr hTb hCb hm r0) hm.2.2.2 (t := tn) (u := un) htt huu (by omega) h1x hy) (by assumption) (by assumption) rfl rfl (Nat.le_of_ble_eq_true rfl) (Nat.le_of_ble_eq_true rfl) (Nat.le_of_ble_eq_true rfl) (Nat.le_of_ble_eq_true rfl) (Nat.le_of_ble_eq_true rfl) ?_
            rintro e1 ⟨n1, o1⟩
            have k1 := ms_tr hm n1
            have w1 : e1 62 0 = 0 := by rw [o1]; exact ht
            refine x_aload_n dX12_game_89 x_get_9_0 ?_
            refine x_iload_n dX12_game_90 x_get_9_1 ?_
            refine x_iload_n dX12_game_91 x_get_9_2 ?_
            refine x_iload dX12_game_92 x_get_9_7 ?_
            refine x_iload dX12_game_94 x_get_9_8 ?_
            refine x_callV (As := [_, _, _, _]) dX12_game_96 w_12_426 (m_gains hl (ms_mq q0 k1) hk hB (ms_mr hTb hCb k1 r0) k1.2.2.2 (t := tn) (u := un) htt huu (by omega) hx hy) (by assumption) (by assumption) rfl rfl (Nat.le_of_ble_eq_true rfl) (Nat.le_of_ble_eq_true rfl) (Nat.le_of_ble_eq_true rfl) (Nat.le_of_ble_eq_true rfl) (Nat.le_of_ble_eq_true rfl) ?_
            rintro e2 ⟨n2, o2⟩
            have k2 := ms_tr k1 n2
            have w2 : e2 62 0 = 0 := by rw [o2]; exact w1
            refine r_icmp_gt (t := 149) dX12_game_99 rfl ⟨by omega, by omega⟩ ⟨by omega, by omega⟩ (fun hc99 => ?_) (fun hc99 => ?_)
            · first | (have e : g_stp C G f (tn : Int) (un : Int) p x y = (p.1 + 1, 10 * x + y) := (by unfold g_stp; rw [if_pos ⟨by show _ ≤ _; omega, by show _ ≤ _; omega⟩, if_pos hc136]); rw [e] at kk; exact kk e4 k4 w4) | (have e : g_stp C G f (tn : Int) (un : Int) p x y = (p.1 + 1, p.2) := (by unfold g_stp; rw [if_pos ⟨by show _ ≤ _; omega, by show _ ≤ _; omega⟩, if_neg hc136]); rw [e] at kk; exact kk e4 k4 w4) | (have e : g_stp C G f (tn : Int) (un : Int) p x y = p := (by unfold g_stp; exact if_neg (fun h => absurd h.2 (by show ¬ _ ≤ _; omega))); rw [e] at kk; exact kk e4 k4 w4) | (have e : g_stp C G f (tn : Int) (un : Int) p x y = p := (by unfold g_stp; exact if_neg (fun h => absurd h.1 (by show ¬ _ ≤ _; omega))); rw [e] at kk; exact kk e2 k2 w2)
            · refine x_aload_n dX12_game_102 x_get_9_0 ?_
              refine x_iload_n dX12_game_103 x_get_9_2 ?_
              refine x_iload_n dX12_game_104 x_get_9_1 ?_
              refine x_iconst dX12_game_105 ?_
              refine x_iload dX12_game_106 x_get_9_8 ?_
              refine x_isub dX12_game_108 ?_
              refine x_iload dX12_game_109 x_get_9_7 ?_
              refine x_callV (As := [_, _, _, _]) dX12_game_111 w_12_426 (m_gains hl (ms_mq q0 k2) hk hB (ms_mr hTb hCb k2 r0) k2.2.2.2 (t := un) (u := tn) huu htt (by omega) h1y hx) (by assumption) (by assumption) rfl rfl (Nat.le_of_ble_eq_true rfl) (Nat.le_of_ble_eq_true rfl) (Nat.le_of_ble_eq_true rfl) (Nat.le_of_ble_eq_true rfl) (Nat.le_of_ble_eq_true rfl) ?_
              rintro e3 ⟨n3, o3⟩
              have k3 := ms_tr k2 n3
              have w3 : e3 62 0 = 0 := by rw [o3]; exact w2
              refine x_aload_n dX12_game_114 x_get_9_0 ?_
              refine x_iload_n dX12_game_115 x_get_9_2 ?_
              refine x_iload_n dX12_game_116 x_get_9_1 ?_
              refine x_iload dX12_game_117 x_get_9_8 ?_
              refine x_iload dX12_game_119 x_get_9_7 ?_
              refine x_callV (As := [_, _, _, _]) dX12_game_121 w_12_426 (m_gains hl (ms_mq q0 k3) hk hB (ms_mr hTb hCb k3 r0) k3.2.2.2 (t := un) (u := tn) huu htt (by omega) hy hx) (by assumption) (by assumption) rfl rfl (Nat.le_of_ble_eq_true rfl) (Nat.le_of_ble_eq_true rfl) (Nat.le_of_ble_eq_true rfl) (Nat.le_of_ble_eq_true rfl) (Nat.le_of_ble_eq_true rfl) ?_
              rintro e4 ⟨n4, o4⟩
              have k4 := ms_tr k3 n4
              have w4 : e4 62 0 = 0 := by rw [o4]; exact w3
              refine r_icmp_le (t := 130) dX12_game_124 rfl ⟨by omega, by omega⟩ ⟨by omega, by omega⟩ (fun hc124 => ?_) (fun hc124 => ?_)
              · refine x_iinc dX12_game_130 x_get_9_4 (Nat.le_of_ble_eq_true rfl) rfl x_set_9_4 ?_
                refine x_iload dX12_game_133 x_get_9_5 ?_
                refine x_iconst dX12_game_135 ?_
                refine r_icmp_ne (t := 149) dX12_game_136 rfl ⟨by omega, by omega⟩ ⟨by omega, by omega⟩ (fun hc136 => ?_) (fun hc136 => ?_)
                · first | (have e : g_stp C G f (tn : Int) (un : Int) p x y = (p.1 + 1, 10 * x + y) := (by unfold g_stp; rw [if_pos ⟨by show _ ≤ _; omega, by show _ ≤ _; omega⟩, if_pos hc136]); rw [e] at kk; exact kk e4 k4 w4) | (have e : g_stp C G f (tn : Int) (un : Int) p x y = (p.1 + 1, p.2) := (by unfold g_stp; rw [if_pos ⟨by show _ ≤ _; omega, by show _ ≤ _; omega⟩, if_neg hc136]); rw [e] at kk; exact kk e4 k4 w4) | (have e : g_stp C G f (tn : Int) (un : Int) p x y = p := (by unfold g_stp; exact if_neg (fun h => absurd h.2 (by show ¬ _ ≤ _; omega))); rw [e] at kk; exact kk e4 k4 w4) | (have e : g_stp C G f (tn : Int) (un : Int) p x y = p := (by unfold g_stp; exact if_neg (fun h => absurd h.1 (by show ¬ _ ≤ _; omega))); rw [e] at kk; exact kk e2 k2 w2)
                · refine x_bipush dX12_game_139 rfl ?_
                  refine x_iload dX12_game_141 x_get_9_7 ?_
                  refine x_imul dX12_game_143 ?_
                  refine x_iload dX12_game_144 x_get_9_8 ?_
                  refine x_iadd dX12_game_146 ?_
                  refine x_istore dX12_game_147 (Nat.le_of_ble_eq_true rfl) rfl x_set_9_5 ?_
                  first | (have e : g_stp C G f (tn : Int) (un : Int) p x y = (p.1 + 1, 10 * x + y) := (by unfold g_stp; rw [if_pos ⟨by show _ ≤ _; omega, by show _ ≤ _; omega⟩, if_pos hc136]); rw [e] at kk; exact kk e4 k4 w4) | (have e : g_stp C G f (tn : Int) (un : Int) p x y = (p.1 + 1, p.2) := (by unfold g_stp; rw [if_pos ⟨by show _ ≤ _; omega, by show _ ≤ _; omega⟩, if_neg hc136]); rw [e] at kk; exact kk e4 k4 w4) | (have e : g_stp C G f (tn : Int) (un : Int) p x y = p := (by unfold g_stp; exact if_neg (fun h => absurd h.2 (by show ¬ _ ≤ _; omega))); rw [e] at kk; exact kk e4 k4 w4) | (have e : g_stp C G f (tn : Int) (un : Int) p x y = p := (by unfold g_stp; exact if_neg (fun h => absurd h.1 (by show ¬ _ ≤ _; omega))); rw [e] at kk; exact kk e2 k2 w2)
              · refine x_goto (t := 149) dX12_game_127 rfl ?_
                first | (have e : g_stp C G f (tn : Int) (un : Int) p x y = (p.1 + 1, 10 * x + y) := (by unfold g_stp; rw [if_pos ⟨by show _ ≤ _; omega, by show _ ≤ _; omega⟩, if_pos hc136]); rw [e] at kk; exact kk e4 k4 w4) | (have e : g_stp C G f (tn : Int) (un : Int) p x y = (p.1 + 1, p.2) := (by unfold g_stp; rw [if_pos ⟨by show _ ≤ _; omega, by show _ ≤ _; omega⟩, if_neg hc136]); rw [e] at kk; exact kk e4 k4 w4) | (have e : g_stp C G f (tn : Int) (un : Int) p x y = p := (by unfold g_stp; exact if_neg (fun h => absurd h.2 (by show ¬ _ ≤ _; omega))); rw [e] at kk; exact kk e4 k4 w4) | (have e : g_stp C G f (tn : Int) (un : Int) p x y = p := (by unfold g_stp; exact if_neg (fun h => absurd h.1 (by show ¬ _ ≤ _; omega))); rw [e] at kk; exact kk e2 k2 w2)
          refine x_aload_n dX12_game_5 x_get_9_0 ?_
          refine x_iload_n dX12_game_6 x_get_9_1 ?_
          refine x_callV (As := [_]) dX12_game_7 w_12_362 (m_isTownT hl q0 t0 ht) (by assumption) (by assumption) rfl rfl (Nat.le_of_ble_eq_true rfl) (Nat.le_of_ble_eq_true rfl) (Nat.le_of_ble_eq_true rfl) (Nat.le_of_ble_eq_true rfl) (Nat.le_of_ble_eq_true rfl) ?_
          intro dz hdz
          obtain rfl := Eq.symm hdz
          refine r_if_eq (t := 48) dX12_game_10 rfl ⟨by omega, by omega⟩ (fun hc10 => absurd hc10 (by omega)) (fun hc10 => ?_)
          refine x_aload_n dX12_game_13 x_get_9_0 ?_
          refine x_iload_n dX12_game_14 x_get_9_2 ?_
          refine x_callV (As := [_]) dX12_game_15 w_12_362 (m_isTownT hl q0 t0 hu) (by assumption) (by assumption) rfl rfl (Nat.le_of_ble_eq_true rfl) (Nat.le_of_ble_eq_true rfl) (Nat.le_of_ble_eq_true rfl) (Nat.le_of_ble_eq_true rfl) (Nat.le_of_ble_eq_true rfl) ?_
          intro dz hdz
          obtain rfl := Eq.symm hdz
          refine r_if_eq (t := 48) dX12_game_18 rfl ⟨by omega, by omega⟩ (fun hc18 => absurd hc18 (by omega)) (fun hc18 => ?_)
          refine x_aload_n dX12_game_21 x_get_9_0 ?_
          refine x_iload_n dX12_game_22 x_get_9_3 ?_
          refine x_iconst dX12_game_23 ?_
          refine x_callV (As := [_, _]) dX12_game_24 w_12_365 (m_isWhatT hl q0.1 t0 hwr ⟨by decide, by decide⟩ hw) (by assumption) (by assumption) rfl rfl (Nat.le_of_ble_eq_true rfl) (Nat.le_of_ble_eq_true rfl) (Nat.le_of_ble_eq_true rfl) (Nat.le_of_ble_eq_true rfl) (Nat.le_of_ble_eq_true rfl) ?_
          intro dz hdz
          obtain rfl := Eq.symm hdz
          refine r_if_eq (t := 48) dX12_game_27 rfl ⟨by omega, by omega⟩ (fun hc27 => absurd hc27 (by omega)) (fun hc27 => ?_)
          refine x_aload_n dX12_game_30 x_get_9_0 ?_
          refine x_iload_n dX12_game_31 x_get_9_1 ?_
          refine x_iload_n dX12_game_32 x_get_9_2 ?_
          refine r_icmp_eq (t := 40) dX12_game_33 rfl ⟨by omega, by omega⟩ ⟨by omega, by omega⟩ (fun hc33 => absurd hc33 (by omega)) (fun hc33 => ?_)
          refine x_iconst dX12_game_36 ?_
          refine x_goto (t := 41) dX12_game_37 rfl ?_
          refine x_iconst dX12_game_41 ?_
          refine x_callV (As := [_, _]) dX12_game_42 w_12_274 (m_rightT hl q0.1 t0) (by assumption) (by assumption) rfl rfl (Nat.le_of_ble_eq_true rfl) (Nat.le_of_ble_eq_true rfl) (Nat.le_of_ble_eq_true rfl) (Nat.le_of_ble_eq_true rfl) (Nat.le_of_ble_eq_true rfl) ?_
          intro dz hdz
          obtain rfl := Eq.symm hdz
          refine r_if_ne (t := 50) dX12_game_45 rfl ⟨by omega, by omega⟩ (fun hc45 => ?_) (fun hc45 => absurd hc45 (by omega))
          refine x_iconst dX12_game_50 ?_
          refine x_istore dX12_game_51 (Nat.le_of_ble_eq_true rfl) rfl x_set_9_4 ?_
          refine x_iconst dX12_game_53 ?_
          refine x_istore dX12_game_54 (Nat.le_of_ble_eq_true rfl) rfl x_set_9_5 ?_
          refine x_iconst dX12_game_56 ?_
          refine x_istore dX12_game_57 (Nat.le_of_ble_eq_true rfl) rfl x_set_9_6 ?_
          refine x_iload dX12_game_59 x_get_9_6 ?_
          refine x_iconst dX12_game_61 ?_
          refine r_icmp_ge (t := 155) dX12_game_62 rfl ⟨by omega, by omega⟩ ⟨by omega, by omega⟩ (fun hc62 => absurd hc62 (by omega)) (fun hc62 => ?_)
          refine x_iload dX12_game_65 x_get_9_6 ?_
          refine x_iconst dX12_game_67 ?_
          refine x_idiv dX12_game_68 (by decide) ?_
          refine x_as_is (show x_dv 0 2 = 0 by decide) ?_
          refine x_istore dX12_game_69 (Nat.le_of_ble_eq_true rfl) rfl x_set_9_7 ?_
          refine x_iload dX12_game_71 x_get_9_6 ?_
          refine x_iconst dX12_game_73 ?_
          refine x_irem dX12_game_74 (by decide) ?_
          refine x_as_is (show x_rm 0 2 = 0 by decide) ?_
          refine x_istore dX12_game_75 (Nat.le_of_ble_eq_true rfl) rfl x_set_9_8 ?_
          refine hin 0 0 0 (Or.inl rfl) (Or.inl rfl) (0, -1) ⟨by decide, by decide⟩ d0 (ms_rf v0) t0 (fun z1 x1 y1 => ?_)
          refine x_iinc dX12_game_149 x_get_9_6 (Nat.le_of_ble_eq_true rfl) rfl x_set_9_6 ?_
          refine x_goto (t := 59) dX12_game_152 rfl ?_
          refine x_iload dX12_game_59 x_get_9_6 ?_
          refine x_iconst dX12_game_61 ?_
          refine r_icmp_ge (t := 155) dX12_game_62 rfl ⟨by omega, by omega⟩ ⟨by omega, by omega⟩ (fun hc62 => absurd hc62 (by omega)) (fun hc62 => ?_)
          refine x_iload dX12_game_65 x_get_9_6 ?_
          refine x_iconst dX12_game_67 ?_
          refine x_idiv dX12_game_68 (by decide) ?_
          refine x_as_is (show x_dv 1 2 = 0 by decide) ?_
          refine x_istore dX12_game_69 (Nat.le_of_ble_eq_true rfl) rfl x_set_9_7 ?_
          refine x_iload dX12_game_71 x_get_9_6 ?_
          refine x_iconst dX12_game_73 ?_
          refine x_irem dX12_game_74 (by decide) ?_
          refine x_as_is (show x_rm 1 2 = 1 by decide) ?_
          refine x_istore dX12_game_75 (Nat.le_of_ble_eq_true rfl) rfl x_set_9_8 ?_
          refine hin 1 0 1 (Or.inl rfl) (Or.inr rfl) _ (g_stp_in ⟨by decide, by decide⟩ (Or.inl rfl) (Or.inl rfl)) z1 x1 y1 (fun z2 x2 y2 => ?_)
          refine x_iinc dX12_game_149 x_get_9_6 (Nat.le_of_ble_eq_true rfl) rfl x_set_9_6 ?_
          refine x_goto (t := 59) dX12_game_152 rfl ?_
          refine x_iload dX12_game_59 x_get_9_6 ?_
          refine x_iconst dX12_game_61 ?_
          refine r_icmp_ge (t := 155) dX12_game_62 rfl ⟨by omega, by omega⟩ ⟨by omega, by omega⟩ (fun hc62 => absurd hc62 (by omega)) (fun hc62 => ?_)
          refine x_iload dX12_game_65 x_get_9_6 ?_
          refine x_iconst dX12_game_67 ?_
          refine x_idiv dX12_game_68 (by decide) ?_
          refine x_as_is (show x_dv 2 2 = 1 by decide) ?_
          refine x_istore dX12_game_69 (Nat.le_of_ble_eq_true rfl) rfl x_set_9_7 ?_
          refine x_iload dX12_game_71 x_get_9_6 ?_
          refine x_iconst dX12_game_73 ?_
          refine x_irem dX12_game_74 (by decide) ?_
          refine x_as_is (show x_rm 2 2 = 0 by decide) ?_
          refine x_istore dX12_game_75 (Nat.le_of_ble_eq_true rfl) rfl x_set_9_8 ?_
          refine hin 2 1 0 (Or.inr rfl) (Or.inl rfl) _ (g_stp_in (g_stp_in ⟨by decide, by decide⟩ (Or.inl rfl) (Or.inl rfl)) (Or.inl rfl) (Or.inr rfl)) z2 x2 y2 (fun z3 x3 y3 => ?_)
          refine x_iinc dX12_game_149 x_get_9_6 (Nat.le_of_ble_eq_true rfl) rfl x_set_9_6 ?_
          refine x_goto (t := 59) dX12_game_152 rfl ?_
          refine x_iload dX12_game_59 x_get_9_6 ?_
          refine x_iconst dX12_game_61 ?_
          refine r_icmp_ge (t := 155) dX12_game_62 rfl ⟨by omega, by omega⟩ ⟨by omega, by omega⟩ (fun hc62 => absurd hc62 (by omega)) (fun hc62 => ?_)
          refine x_iload dX12_game_65 x_get_9_6 ?_
          refine x_iconst dX12_game_67 ?_
          refine x_idiv dX12_game_68 (by decide) ?_
          refine x_as_is (show x_dv 3 2 = 1 by decide) ?_
          refine x_istore dX12_game_69 (Nat.le_of_ble_eq_true rfl) rfl x_set_9_7 ?_
          refine x_iload dX12_game_71 x_get_9_6 ?_
          refine x_iconst dX12_game_73 ?_
          refine x_irem dX12_game_74 (by decide) ?_
          refine x_as_is (show x_rm 3 2 = 1 by decide) ?_
          refine x_istore dX12_game_75 (Nat.le_of_ble_eq_true rfl) rfl x_set_9_8 ?_
          refine hin 3 1 1 (Or.inr rfl) (Or.inr rfl) _ (g_stp_in (g_stp_in (g_stp_in ⟨by decide, by decide⟩ (Or.inl rfl) (Or.inl rfl)) (Or.inl rfl) (Or.inr rfl)) (Or.inr rfl) (Or.inl rfl)) z3 x3 y3 (fun z4 x4 y4 => ?_)
          refine x_iinc dX12_game_149 x_get_9_6 (Nat.le_of_ble_eq_true rfl) rfl x_set_9_6 ?_
          refine x_goto (t := 59) dX12_game_152 rfl ?_
          refine x_iload dX12_game_59 x_get_9_6 ?_
          refine x_iconst dX12_game_61 ?_
          refine r_icmp_ge (t := 155) dX12_game_62 rfl ⟨by omega, by omega⟩ ⟨by omega, by omega⟩ (fun hc62 => ?_) (fun hc62 => absurd hc62 (by omega))
          refine x_iload_n dX12_game_155 x_get_9_3 ?_
          refine r_if_ne (t := 164) dX12_game_156 rfl ⟨by omega, by omega⟩ (fun hc156 => ?_) (fun hc156 => ?_)
          · refine x_iload dX12_game_164 x_get_9_5 ?_
            exact x_iret dX12_game_166 rfl (Nat.le_of_ble_eq_true rfl) (Nat.le_of_ble_eq_true rfl) (by first | (rw [if_pos hc156]; rfl) | (rw [if_neg hc156]; rfl)) rfl rfl ⟨ms_tr ms0 x4, y4⟩ rfl
          · refine x_iload dX12_game_159 x_get_9_4 ?_
            refine x_goto (t := 166) dX12_game_161 rfl ?_
            exact x_iret dX12_game_166 rfl (Nat.le_of_ble_eq_true rfl) (Nat.le_of_ble_eq_true rfl) (by first | (rw [if_pos hc156]; rfl) | (rw [if_neg hc156]; rfl)) rfl rfl ⟨ms_tr ms0 x4, y4⟩ rfl
      · rw [if_neg hw]
        refine x_ofW (by decide +kernel) hl (by simp [Value.category]) (by simp) ?_
        refine x_aload_n dX12_game_0 x_get_9_0 ?_
        refine x_iconst dX12_game_1 ?_
        refine x_putI 0 dX12_game_2 fX_12_117 rfl tX_12_0 n62 s62 (by rfl) ?_
        have z0 := m_go0 hq hr hv84
        generalize x_up D 62 (x_u1 (D 62) 0 0) = d0 at z0 ⊢
        obtain ⟨q0, t0, ms0, r0, v0⟩ := z0
        refine x_aload_n dX12_game_5 x_get_9_0 ?_
        refine x_iload_n dX12_game_6 x_get_9_1 ?_
        refine x_callV (As := [_]) dX12_game_7 w_12_362 (m_isTownT hl q0 t0 ht) (by assumption) (by assumption) rfl rfl (Nat.le_of_ble_eq_true rfl) (Nat.le_of_ble_eq_true rfl) (Nat.le_of_ble_eq_true rfl) (Nat.le_of_ble_eq_true rfl) (Nat.le_of_ble_eq_true rfl) ?_
        intro dz hdz
        obtain rfl := Eq.symm hdz
        refine r_if_eq (t := 48) dX12_game_10 rfl ⟨by omega, by omega⟩ (fun hc10 => absurd hc10 (by omega)) (fun hc10 => ?_)
        refine x_aload_n dX12_game_13 x_get_9_0 ?_
        refine x_iload_n dX12_game_14 x_get_9_2 ?_
        refine x_callV (As := [_]) dX12_game_15 w_12_362 (m_isTownT hl q0 t0 hu) (by assumption) (by assumption) rfl rfl (Nat.le_of_ble_eq_true rfl) (Nat.le_of_ble_eq_true rfl) (Nat.le_of_ble_eq_true rfl) (Nat.le_of_ble_eq_true rfl) (Nat.le_of_ble_eq_true rfl) ?_
        intro dz hdz
        obtain rfl := Eq.symm hdz
        refine r_if_eq (t := 48) dX12_game_18 rfl ⟨by omega, by omega⟩ (fun hc18 => absurd hc18 (by omega)) (fun hc18 => ?_)
        refine x_aload_n dX12_game_21 x_get_9_0 ?_
        refine x_iload_n dX12_game_22 x_get_9_3 ?_
        refine x_iconst dX12_game_23 ?_
        refine x_callV (As := [_, _]) dX12_game_24 w_12_365 (m_isWhatF hl q0.1 t0 hwr ⟨by decide, by decide⟩ hw) (by assumption) (by assumption) rfl rfl (Nat.le_of_ble_eq_true rfl) (Nat.le_of_ble_eq_true rfl) (Nat.le_of_ble_eq_true rfl) (Nat.le_of_ble_eq_true rfl) (Nat.le_of_ble_eq_true rfl) ?_
        intro dz hdz
        obtain rfl := Eq.symm hdz
        refine r_if_eq (t := 48) dX12_game_27 rfl ⟨by omega, by omega⟩ (fun hc27 => ?_) (fun hc27 => absurd hc27 (by omega))
        refine x_iconst dX12_game_48 ?_
        exact x_iret dX12_game_49 rfl (Nat.le_of_ble_eq_true rfl) (Nat.le_of_ble_eq_true rfl) rfl rfl rfl ⟨ms_thr ms0, by rw [x_up_s, x_u1_s, m_k_N]⟩ rfl
    · rw [if_neg hu]
      refine x_ofW (by decide +kernel) hl (by simp [Value.category]) (by simp) ?_
      refine x_aload_n dX12_game_0 x_get_9_0 ?_
      refine x_iconst dX12_game_1 ?_
      refine x_putI 0 dX12_game_2 fX_12_117 rfl tX_12_0 n62 s62 (by rfl) ?_
      have z0 := m_go0 hq hr hv84
      generalize x_up D 62 (x_u1 (D 62) 0 0) = d0 at z0 ⊢
      obtain ⟨q0, t0, ms0, r0, v0⟩ := z0
      refine x_aload_n dX12_game_5 x_get_9_0 ?_
      refine x_iload_n dX12_game_6 x_get_9_1 ?_
      refine x_callV (As := [_]) dX12_game_7 w_12_362 (m_isTownT hl q0 t0 ht) (by assumption) (by assumption) rfl rfl (Nat.le_of_ble_eq_true rfl) (Nat.le_of_ble_eq_true rfl) (Nat.le_of_ble_eq_true rfl) (Nat.le_of_ble_eq_true rfl) (Nat.le_of_ble_eq_true rfl) ?_
      intro dz hdz
      obtain rfl := Eq.symm hdz
      refine r_if_eq (t := 48) dX12_game_10 rfl ⟨by omega, by omega⟩ (fun hc10 => absurd hc10 (by omega)) (fun hc10 => ?_)
      refine x_aload_n dX12_game_13 x_get_9_0 ?_
      refine x_iload_n dX12_game_14 x_get_9_2 ?_
      refine x_callV (As := [_]) dX12_game_15 w_12_362 (m_isTownF hl q0 t0 hur hu) (by assumption) (by assumption) rfl rfl (Nat.le_of_ble_eq_true rfl) (Nat.le_of_ble_eq_true rfl) (Nat.le_of_ble_eq_true rfl) (Nat.le_of_ble_eq_true rfl) (Nat.le_of_ble_eq_true rfl) ?_
      intro dz hdz
      obtain rfl := Eq.symm hdz
      refine r_if_eq (t := 48) dX12_game_18 rfl ⟨by omega, by omega⟩ (fun hc18 => ?_) (fun hc18 => absurd hc18 (by omega))
      refine x_iconst dX12_game_48 ?_
      exact x_iret dX12_game_49 rfl (Nat.le_of_ble_eq_true rfl) (Nat.le_of_ble_eq_true rfl) rfl rfl rfl ⟨ms_thr ms0, by rw [x_up_s, x_u1_s, m_k_N]⟩ rfl
  · rw [if_neg ht]
    refine x_ofW (by decide +kernel) hl (by simp [Value.category]) (by simp) ?_
    refine x_aload_n dX12_game_0 x_get_9_0 ?_
    refine x_iconst dX12_game_1 ?_
    refine x_putI 0 dX12_game_2 fX_12_117 rfl tX_12_0 n62 s62 (by rfl) ?_
    have z0 := m_go0 hq hr hv84
    generalize x_up D 62 (x_u1 (D 62) 0 0) = d0 at z0 ⊢
    obtain ⟨q0, t0, ms0, r0, v0⟩ := z0
    refine x_aload_n dX12_game_5 x_get_9_0 ?_
    refine x_iload_n dX12_game_6 x_get_9_1 ?_
    refine x_callV (As := [_]) dX12_game_7 w_12_362 (m_isTownF hl q0 t0 htr ht) (by assumption) (by assumption) rfl rfl (Nat.le_of_ble_eq_true rfl) (Nat.le_of_ble_eq_true rfl) (Nat.le_of_ble_eq_true rfl) (Nat.le_of_ble_eq_true rfl) (Nat.le_of_ble_eq_true rfl) ?_
    intro dz hdz
    obtain rfl := Eq.symm hdz
    refine r_if_eq (t := 48) dX12_game_10 rfl ⟨by omega, by omega⟩ (fun hc10 => ?_) (fun hc10 => absurd hc10 (by omega))
    refine x_iconst dX12_game_48 ?_
    exact x_iret dX12_game_49 rfl (Nat.le_of_ble_eq_true rfl) (Nat.le_of_ble_eq_true rfl) rfl rfl rfl ⟨ms_thr ms0, by rw [x_up_s, x_u1_s, m_k_N]⟩ rfl
set_option maxHeartbeats 8000000 in
theorem m_lend {X : xC} {l : Launch} (hl : l.stackTraces = false) {N : Nat} {sh : xS} {D : xM} {T C W : Nat} {G : Ldt} (hq : mq N sh D T C W G) {B : Int} {f : Int → Int} (hk : s_ok B f) (hB : B ≤ 200000) (hr : mr T C f (D 82) 0) (hv84 : ∀ j, x_r (D 84 j)) {t : Int} (htr : x_r t) : x_M X l yX12_lend cX12_lend 4 (some .int) 7 0 0 [.ref (x_b X + 62), .int (xI t)] false N sh D (m_r (q_lend T G f t)) false N sh (fun d => ms D d ∧ d 62 0 = m_k 1 (q_lend T G f t)) := by
  obtain ⟨hM, hT, hTb, hW, hWb, hC, hCb, hmk, ⟨hG1, hG2, hG3⟩, hod⟩ := id hq
  have s62 := md_62 hM
  have n62 : 62 < N := md_n hM (by decide)
  have s82 := md_82 hM
  have n82 : 82 < N := md_n hM (by decide)
  unfold q_lend
  by_cases ht : 0 ≤ t ∧ t < T
  · rw [if_pos ht]
    obtain ⟨ht0, ht1⟩ := id ht
    have htk := s_tn hk (t := t) ht0 (by omega)
    have hgo := hG3 f t
    obtain ⟨L, hL⟩ := Int.eq_ofNat_of_zero_le htk.1.1
    have hok : ∀ r : Int, 0 ≤ r → r ≤ 9999 → s_ok B (x_u1 f (1 + t) r) := fun r a b => s_ok_u1 hk ⟨fun a => by omega, fun _ _ => ⟨by omega, by omega⟩, fun a => by omega, fun a => by omega, fun a => by omega, fun a => by omega, fun a => by omega⟩
    by_cases h7 : G.2.2 f t < 7
    · have hv : v_lend G f t = -1 := if_pos h7
      rw [hv, m_r_i, m_k_i]
      refine x_ofW (by decide +kernel) hl (by simp [Value.category]) (by simp) ?_
      refine x_aload_n dX12_lend_0 x_get_4_0 ?_
      refine x_iconst dX12_lend_1 ?_
      refine x_putI 0 dX12_lend_2 fX_12_117 rfl tX_12_0 n62 s62 (by rfl) ?_
      have z0 := m_go0 hq hr hv84
      generalize x_up D 62 (x_u1 (D 62) 0 0) = d0 at z0 ⊢
      obtain ⟨q0, t0, ms0, r0, v0⟩ := z0
      refine x_aload_n dX12_lend_5 x_get_4_0 ?_
      refine x_iload_n dX12_lend_6 x_get_4_1 ?_
      refine x_callV (As := [_]) dX12_lend_7 w_12_362 (m_isTownT hl q0 t0 ht) (by assumption) (by assumption) rfl rfl (Nat.le_of_ble_eq_true rfl) (Nat.le_of_ble_eq_true rfl) (Nat.le_of_ble_eq_true rfl) (Nat.le_of_ble_eq_true rfl) (Nat.le_of_ble_eq_true rfl) ?_
      intro dz hdz
      obtain rfl := Eq.symm hdz
      refine r_if_ne (t := 15) dX12_lend_10 rfl ⟨by omega, by omega⟩ (fun hc10 => ?_) (fun hc10 => absurd hc10 (by omega))
      refine x_aload_n dX12_lend_15 x_get_4_0 ?_
      refine x_iconst dX12_lend_16 ?_
      refine x_iload_n dX12_lend_17 x_get_4_1 ?_
      refine x_callV (As := [_, _]) dX12_lend_18 w_12_336 (m_oddsOf hl q0 hk (by omega) (Or.inl rfl) r0 ht0 ht1 v0) (by assumption) (by assumption) rfl rfl (Nat.le_of_ble_eq_true rfl) (Nat.le_of_ble_eq_true rfl) (Nat.le_of_ble_eq_true rfl) (Nat.le_of_ble_eq_true rfl) (Nat.le_of_ble_eq_true rfl) ?_
      rintro d1 ⟨ho, hv1⟩
      have m1 := ms_od (ms_rf v0) ho hv1
      have t1 : d1 62 0 = 0 := by rw [m_od_n ho (by decide) (by decide)]; exact t0
      refine x_bipush dX12_lend_21 rfl ?_
      refine r_icmp_ge (t := 28) dX12_lend_23 rfl ⟨by omega, by omega⟩ ⟨by omega, by omega⟩ (fun hc23 => absurd hc23 (by omega)) (fun hc23 => ?_)
      refine x_iconst dX12_lend_26 ?_
      exact x_iret dX12_lend_27 rfl (Nat.le_of_ble_eq_true rfl) (Nat.le_of_ble_eq_true rfl) rfl rfl rfl ⟨ms_tr ms0 m1, t1⟩ rfl
    · have hv : v_lend G f t = (l_lnd (fun r : Nat => 7 ≤ G.2.2 (x_u1 f (1 + t) (r : Nat)) t) L (L + 1)) := by
        rw [l_lnd_eq]
        unfold v_lend
        rw [if_neg h7, hL, Int.toNat_natCast]
      rw [hv, m_r_i, m_k_i]
      refine x_ofW (by decide +kernel) hl (by simp [Value.category]) (by simp) ?_
      refine x_aload_n dX12_lend_0 x_get_4_0 ?_
      refine x_iconst dX12_lend_1 ?_
      refine x_putI 0 dX12_lend_2 fX_12_117 rfl tX_12_0 n62 s62 (by rfl) ?_
      have z0 := m_go0 hq hr hv84
      generalize x_up D 62 (x_u1 (D 62) 0 0) = d0 at z0 ⊢
      obtain ⟨q0, t0, ms0, r0, v0⟩ := z0
      have hloop : ∀ v : Nat, v ≤ L + 1 → ∀ d : xM, ms d0 d → d 62 0 = 0 → (∃ z : Int, mr T C (x_u1 f (1 + t) z) (d 82) 85) → x_W (X, l, yX12_lend, cX12_lend, 4, (some .int), x_room 7 0 0, 0, 0, (.inl (some (.int (xI ((l_lnd (fun r : Nat => 7 ≤ G.2.2 (x_u1 f (1 + t) (r : Nat)) t) L (L + 1))))))), N, sh, (fun d => ms D d ∧ d 62 0 = 0), false, []) 36 [some (.ref (x_b X + 62)), some (.int (xI t)), some (.int (xI (l_lnd (fun r : Nat => 7 ≤ G.2.2 (x_u1 f (1 + t) (r : Nat)) t) L v))), some (.int (xI (v : Int)))] [] 0 0 false N sh d := by
        refine x_down (L + 1) ?_ ?_
        · intro d hm ht hs
          have e1 : d 82 (1 + t) = (L : Int) := by rw [mr_t (ms_mr hTb hCb hm r0) (k := 1) (m := 1) rfl (by decide) ht0 ht1]; exact hL
          refine x_iload_n dX12_lend_36 x_get_4_3 ?_
          refine x_aload_n dX12_lend_37 x_get_4_0 ?_
          refine x_getR dX12_lend_38 fX_12_75 n62 s62 (by rfl) ?_
          refine x_iconst dX12_lend_41 ?_
          refine x_iload_n dX12_lend_42 x_get_4_1 ?_
          refine x_iadd dX12_lend_43 ?_
          refine x_iald dX12_lend_44 n82 s82 (by omega) (by omega) (by decide) ?_
          try simp (disch := decide) only [x_up_s, x_up_n, x_up_up, x_u1_s, x_u1_n, e1]
          refine r_icmp_gt (t := 91) dX12_lend_45 rfl ⟨by omega, by omega⟩ ⟨by omega, by omega⟩ (fun hc45 => ?_) (fun hc45 => absurd hc45 (by omega))
          refine x_iload_n dX12_lend_91 x_get_4_2 ?_
          exact x_iret dX12_lend_92 rfl (Nat.le_of_ble_eq_true rfl) (Nat.le_of_ble_eq_true rfl) rfl rfl rfl ⟨ms_tr ms0 hm, ht⟩ rfl
        · rintro v hv2 ih d hm ht ⟨z, hs⟩
          have e1 : d 82 (1 + t) = (L : Int) := by rw [mr_t (ms_mr hTb hCb hm r0) (k := 1) (m := 1) rfl (by decide) ht0 ht1]; exact hL
          have e := l_lnd_s (P := (fun r : Nat => 7 ≤ G.2.2 (x_u1 f (1 + t) (r : Nat)) t)) (L := L) (v := v)
          have elv : (L : Int) - (v : Int) = ((L - v : Nat) : Int) := by omega
          have hgv := hG3 (x_u1 f (1 + t) ((L - v : Nat) : Int)) t
          refine x_iload_n dX12_lend_36 x_get_4_3 ?_
          refine x_aload_n dX12_lend_37 x_get_4_0 ?_
          refine x_getR dX12_lend_38 fX_12_75 n62 s62 (by rfl) ?_
          refine x_iconst dX12_lend_41 ?_
          refine x_iload_n dX12_lend_42 x_get_4_1 ?_
          refine x_iadd dX12_lend_43 ?_
          refine x_iald dX12_lend_44 n82 s82 (by omega) (by omega) (by decide) ?_
          try simp (disch := decide) only [x_up_s, x_up_n, x_up_up, x_u1_s, x_u1_n, e1]
          refine r_icmp_gt (t := 91) dX12_lend_45 rfl ⟨by omega, by omega⟩ ⟨by omega, by omega⟩ (fun hc45 => absurd hc45 (by omega)) (fun hc45 => ?_)
          refine x_aload_n dX12_lend_48 x_get_4_0 ?_
          refine x_getR dX12_lend_49 fX_12_75 n62 s62 (by rfl) ?_
          refine x_bipush dX12_lend_52 rfl ?_
          refine x_iload_n dX12_lend_54 x_get_4_1 ?_
          refine x_iadd dX12_lend_55 ?_
          refine x_aload_n dX12_lend_56 x_get_4_0 ?_
          refine x_getR dX12_lend_57 fX_12_75 n62 s62 (by rfl) ?_
          refine x_iconst dX12_lend_60 ?_
          refine x_iload_n dX12_lend_61 x_get_4_1 ?_
          refine x_iadd dX12_lend_62 ?_
          refine x_iald dX12_lend_63 n82 s82 (by omega) (by omega) (by decide) ?_
          try simp (disch := decide) only [x_up_s, x_up_n, x_up_up, x_u1_s, x_u1_n, e1]
          refine x_iload_n dX12_lend_64 x_get_4_3 ?_
          refine x_isub dX12_lend_65 ?_
          rw [elv]
          refine x_iast dX12_lend_66 n82 s82 (by omega) (by omega) (by decide) ?_
          have m2 : ms d0 (x_up d 82 (x_u1 (d 82) (86 + t) ((L - v : Nat) : Int))) := ms_82 hm (by omega)
          have s2 : mr T C (x_u1 f (1 + t) ((L - v : Nat) : Int)) ((x_up d 82 (x_u1 (d 82) (86 + t) ((L - v : Nat) : Int))) 82) 85 := by
            rw [x_up_s, ← x_u1_u1 (f := f) (i := 1 + t) (v := z)]
            exact mr_u1 hs (by omega)
          have t2 : (x_up d 82 (x_u1 (d 82) (86 + t) ((L - v : Nat) : Int))) 62 0 = 0 := by rw [x_up_n (by decide)]; exact ht
          generalize x_up d 82 (x_u1 (d 82) (86 + t) ((L - v : Nat) : Int)) = d2 at m2 s2 t2 ⊢
          refine x_aload_n dX12_lend_67 x_get_4_0 ?_
          refine x_bipush dX12_lend_68 rfl ?_
          refine x_iload_n dX12_lend_70 x_get_4_1 ?_
          refine x_callV (As := [_, _]) dX12_lend_71 w_12_336 (m_oddsOf hl (ms_mq q0 m2) (hok _ (by omega) (by omega)) (by omega) (Or.inr rfl) s2 ht0 ht1 m2.2.2.2) (by assumption) (by assumption) rfl rfl (Nat.le_of_ble_eq_true rfl) (Nat.le_of_ble_eq_true rfl) (Nat.le_of_ble_eq_true rfl) (Nat.le_of_ble_eq_true rfl) (Nat.le_of_ble_eq_true rfl) ?_
          rintro d3 ⟨ho, hv3⟩
          have m3 := ms_od m2 ho hv3
          have t3 : d3 62 0 = 0 := by rw [m_od_n ho (by decide) (by decide)]; exact t2
          have s3 : mr T C (x_u1 f (1 + t) ((L - v : Nat) : Int)) (d3 82) 85 := by rw [m_od_n ho (by decide) (by decide)]; exact s2
          refine x_bipush dX12_lend_74 rfl ?_
          refine r_icmp_lt (t := 83) dX12_lend_76 rfl ⟨by omega, by omega⟩ ⟨by omega, by omega⟩ (fun hc76 => ?_) (fun hc76 => ?_)
          · refine x_iload_n dX12_lend_83 x_get_4_2 ?_
            refine x_istore_n dX12_lend_84 (Nat.le_of_ble_eq_true rfl) rfl x_set_4_2 ?_
            refine x_iinc dX12_lend_85 x_get_4_3 (Nat.le_of_ble_eq_true rfl) rfl x_set_4_3 ?_
            refine x_goto (t := 36) dX12_lend_88 rfl ?_
            first | (rw [if_pos (by show 7 ≤ _; omega)] at e; rw [e] at ih; exact ih d3 m3 t3 ⟨_, s3⟩) | (rw [if_neg (by show ¬ 7 ≤ _; omega)] at e; rw [e] at ih; exact ih d3 m3 t3 ⟨_, s3⟩)
          · refine x_iload_n dX12_lend_79 x_get_4_3 ?_
            refine x_goto (t := 84) dX12_lend_80 rfl ?_
            refine x_istore_n dX12_lend_84 (Nat.le_of_ble_eq_true rfl) rfl x_set_4_2 ?_
            refine x_iinc dX12_lend_85 x_get_4_3 (Nat.le_of_ble_eq_true rfl) rfl x_set_4_3 ?_
            refine x_goto (t := 36) dX12_lend_88 rfl ?_
            first | (rw [if_pos (by show 7 ≤ _; omega)] at e; rw [e] at ih; exact ih d3 m3 t3 ⟨_, s3⟩) | (rw [if_neg (by show ¬ 7 ≤ _; omega)] at e; rw [e] at ih; exact ih d3 m3 t3 ⟨_, s3⟩)
      refine x_aload_n dX12_lend_5 x_get_4_0 ?_
      refine x_iload_n dX12_lend_6 x_get_4_1 ?_
      refine x_callV (As := [_]) dX12_lend_7 w_12_362 (m_isTownT hl q0 t0 ht) (by assumption) (by assumption) rfl rfl (Nat.le_of_ble_eq_true rfl) (Nat.le_of_ble_eq_true rfl) (Nat.le_of_ble_eq_true rfl) (Nat.le_of_ble_eq_true rfl) (Nat.le_of_ble_eq_true rfl) ?_
      intro dz hdz
      obtain rfl := Eq.symm hdz
      refine r_if_ne (t := 15) dX12_lend_10 rfl ⟨by omega, by omega⟩ (fun hc10 => ?_) (fun hc10 => absurd hc10 (by omega))
      refine x_aload_n dX12_lend_15 x_get_4_0 ?_
      refine x_iconst dX12_lend_16 ?_
      refine x_iload_n dX12_lend_17 x_get_4_1 ?_
      refine x_callV (As := [_, _]) dX12_lend_18 w_12_336 (m_oddsOf hl q0 hk (by omega) (Or.inl rfl) r0 ht0 ht1 v0) (by assumption) (by assumption) rfl rfl (Nat.le_of_ble_eq_true rfl) (Nat.le_of_ble_eq_true rfl) (Nat.le_of_ble_eq_true rfl) (Nat.le_of_ble_eq_true rfl) (Nat.le_of_ble_eq_true rfl) ?_
      rintro d1 ⟨ho, hv1⟩
      have m1 := ms_od (ms_rf v0) ho hv1
      have t1 : d1 62 0 = 0 := by rw [m_od_n ho (by decide) (by decide)]; exact t0
      refine x_bipush dX12_lend_21 rfl ?_
      refine r_icmp_ge (t := 28) dX12_lend_23 rfl ⟨by omega, by omega⟩ ⟨by omega, by omega⟩ (fun hc23 => ?_) (fun hc23 => absurd hc23 (by omega))
      refine x_aload_n dX12_lend_28 x_get_4_0 ?_
      refine x_callV (As := []) dX12_lend_29 w_12_389 (m_tries hl (ms_mq q0 m1) (ms_mr hTb hCb m1 r0)) (by assumption) (by assumption) rfl rfl (Nat.le_of_ble_eq_true rfl) (Nat.le_of_ble_eq_true rfl) (Nat.le_of_ble_eq_true rfl) (Nat.le_of_ble_eq_true rfl) (Nat.le_of_ble_eq_true rfl) ?_
      rintro d2 hd2
      refine x_iconst dX12_lend_32 ?_
      refine x_istore_n dX12_lend_33 (Nat.le_of_ble_eq_true rfl) rfl x_set_4_2 ?_
      refine x_iconst dX12_lend_34 ?_
      refine x_istore_n dX12_lend_35 (Nat.le_of_ble_eq_true rfl) rfl x_set_4_3 ?_
      exact hloop 0 (Nat.zero_le _) d2 (ms_w m1 hd2) (by rw [hd2.1 62 (by decide)]; exact t1) ⟨f (1 + t), by rw [x_u1_id]; exact hd2.2.1⟩
  · rw [if_neg ht]
    refine x_ofW (by decide +kernel) hl (by simp [Value.category]) (by simp) ?_
    refine x_aload_n dX12_lend_0 x_get_4_0 ?_
    refine x_iconst dX12_lend_1 ?_
    refine x_putI 0 dX12_lend_2 fX_12_117 rfl tX_12_0 n62 s62 (by rfl) ?_
    have z0 := m_go0 hq hr hv84
    generalize x_up D 62 (x_u1 (D 62) 0 0) = d0 at z0 ⊢
    obtain ⟨q0, t0, ms0, r0, v0⟩ := z0
    refine x_aload_n dX12_lend_5 x_get_4_0 ?_
    refine x_iload_n dX12_lend_6 x_get_4_1 ?_
    refine x_callV (As := [_]) dX12_lend_7 w_12_362 (m_isTownF hl q0 t0 htr ht) (by assumption) (by assumption) rfl rfl (Nat.le_of_ble_eq_true rfl) (Nat.le_of_ble_eq_true rfl) (Nat.le_of_ble_eq_true rfl) (Nat.le_of_ble_eq_true rfl) (Nat.le_of_ble_eq_true rfl) ?_
    intro dz hdz
    obtain rfl := Eq.symm hdz
    refine r_if_ne (t := 15) dX12_lend_10 rfl ⟨by omega, by omega⟩ (fun hc10 => absurd hc10 (by omega)) (fun hc10 => ?_)
    refine x_iconst dX12_lend_13 ?_
    exact x_iret dX12_lend_14 rfl (Nat.le_of_ble_eq_true rfl) (Nat.le_of_ble_eq_true rfl) rfl rfl rfl ⟨ms_thr ms0, by rw [x_up_s, x_u1_s, m_k_N]⟩ rfl
end M69
