section M68
/-! ===== the Model: openings, pools, games, years ===== -/
theorem m_opens {X : xC} {l : Launch} (hl : l.stackTraces = false) {N : Nat} {sh : xS} {D : xM} {T C W : Nat} {G : Ldt} (hq : mq N sh D T C W G) {B : Int} {f : Int → Int} (hk : s_ok B f) (hB : B ≤ 1000000) {b : Int} (hb : b = 0 ∨ b = 85) (hr : mr T C f (D 82) b) {c : Int} (h0 : 0 ≤ c) (h1 : c < C) (hp0 : 0 ≤ f (55 + c)) (hp1 : f (55 + c) < T) (h65 : f (65 + c) = 0) : x_M X l yX12_opens cX12_opens 4 (none) 2 0 0 [.ref (x_b X + 62), .int (xI b), .int (xI c)] false N sh D (.inl none) false N sh (m_w T C b (s_opn f c) D) := by
  obtain ⟨hM, hT, hTb, hW, hWb, hC, hCb, hmk, ⟨hG1, hG2, hG3⟩, hod⟩ := id hq
  have s62 := md_62 hM
  have n62 : 62 < N := md_n hM (by decide)
  have s82 := md_82 hM
  have n82 : 82 < N := md_n hM (by decide)
  have hcr := s_cr hk (c := c) (by omega) (by omega)
  have e25 : D 82 (b + 25 + c) = f (25 + c) := mr_c hr rfl (by decide) (by omega) (by omega)
  have e35 : D 82 (b + 35 + c) = f (35 + c) := mr_c hr rfl (by decide) (by omega) (by omega)
  have e55 : D 82 (b + 55 + c) = f (55 + c) := mr_c hr rfl (by decide) (by omega) (by omega)
  have ht1 := s_tn hk (t := f (55 + c)) hp0 (by omega)
  have hs : s_opn f c = x_u1 (x_u1 (s_add f ((if f (35 + c) = 1 then 9 else 1) + f (55 + c)) (f (25 + c))) (25 + c) 0) (55 + c) (-1) := by
    unfold s_opn s_lose
    have : x_u1 (x_u1 (s_add f ((if f (35 + c) = 1 then 9 else 1) + f (55 + c)) (f (25 + c))) (25 + c) 0) (55 + c) (-1) (65 + c) = 0 := by
      unfold s_add
      rw [x_u1_n (by omega), x_u1_n (by omega), x_u1_n (by split <;> omega)]
      exact h65
    generalize x_u1 (x_u1 (s_add f ((if f (35 + c) = 1 then 9 else 1) + f (55 + c)) (f (25 + c))) (25 + c) 0) (55 + c) (-1) = gg at this ⊢
    rw [← this]
    exact x_u1_id
  rw [hs]
  by_cases h35 : f (35 + c) = 1
  · rw [if_pos h35]
    have ek : D 82 (b + 9 + f (55 + c)) = f (9 + f (55 + c)) := mr_t hr rfl (by decide) hp0 hp1
    refine x_ofW (by decide +kernel) hl (by simp [Value.category]) (by simp) ?_
    refine x_iload_n dX12_opens_0 x_get_4_1 ?_
    refine x_aload_n dX12_opens_1 x_get_4_0 ?_
    refine x_getR dX12_opens_2 fX_12_75 n62 s62 (by rfl) ?_
    refine x_iload_n dX12_opens_5 x_get_4_1 ?_
    refine x_bipush dX12_opens_6 rfl ?_
    refine x_iadd dX12_opens_8 ?_
    refine x_iload_n dX12_opens_9 x_get_4_2 ?_
    refine x_iadd dX12_opens_10 ?_
    refine x_iald dX12_opens_11 n82 s82 (by omega) (by omega) (by decide) ?_
    try simp (disch := decide) only [x_up_s, x_up_n, x_up_up, x_u1_s, x_u1_n, e25, e35, e55, ek]
    refine x_iconst dX12_opens_12 ?_
    refine r_icmp_ne (t := 21) dX12_opens_13 rfl ⟨by omega, by omega⟩ ⟨by omega, by omega⟩ (fun hc13 => absurd hc13 (by omega)) (fun hc13 => ?_)
    refine x_bipush dX12_opens_16 rfl ?_
    refine x_goto (t := 22) dX12_opens_18 rfl ?_
    refine x_iadd dX12_opens_22 ?_
    refine x_aload_n dX12_opens_23 x_get_4_0 ?_
    refine x_getR dX12_opens_24 fX_12_75 n62 s62 (by rfl) ?_
    refine x_iload_n dX12_opens_27 x_get_4_1 ?_
    refine x_bipush dX12_opens_28 rfl ?_
    refine x_iadd dX12_opens_30 ?_
    refine x_iload_n dX12_opens_31 x_get_4_2 ?_
    refine x_iadd dX12_opens_32 ?_
    refine x_iald dX12_opens_33 n82 s82 (by omega) (by omega) (by decide) ?_
    try simp (disch := decide) only [x_up_s, x_up_n, x_up_up, x_u1_s, x_u1_n, e25, e35, e55, ek]
    refine x_iadd dX12_opens_34 ?_
    refine x_istore_n dX12_opens_35 (Nat.le_of_ble_eq_true rfl) rfl x_set_4_3 ?_
    refine x_aload_n dX12_opens_36 x_get_4_0 ?_
    refine x_getR dX12_opens_37 fX_12_75 n62 s62 (by rfl) ?_
    refine x_iload_n dX12_opens_40 x_get_4_3 ?_
    refine x_aload_n dX12_opens_41 x_get_4_0 ?_
    refine x_getR dX12_opens_42 fX_12_75 n62 s62 (by rfl) ?_
    refine x_iload_n dX12_opens_45 x_get_4_3 ?_
    refine x_iald dX12_opens_46 n82 s82 (by omega) (by omega) (by decide) ?_
    try simp (disch := decide) only [x_up_s, x_up_n, x_up_up, x_u1_s, x_u1_n, e25, e35, e55, ek]
    refine x_aload_n dX12_opens_47 x_get_4_0 ?_
    refine x_getR dX12_opens_48 fX_12_75 n62 s62 (by rfl) ?_
    refine x_iload_n dX12_opens_51 x_get_4_1 ?_
    refine x_bipush dX12_opens_52 rfl ?_
    refine x_iadd dX12_opens_54 ?_
    refine x_iload_n dX12_opens_55 x_get_4_2 ?_
    refine x_iadd dX12_opens_56 ?_
    refine x_iald dX12_opens_57 n82 s82 (by omega) (by omega) (by decide) ?_
    try simp (disch := decide) only [x_up_s, x_up_n, x_up_up, x_u1_s, x_u1_n, e25, e35, e55, ek]
    refine x_iadd dX12_opens_58 ?_
    refine x_iconst dX12_opens_59 ?_
    refine x_sipush dX12_opens_60 rfl ?_
    refine x_callS (As := [_, _, _]) dX12_opens_63 w_12_311 (m_kept hl (min 9999 (f (9 + f (55 + c)) + f (25 + c))) ⟨by omega, by omega⟩ ⟨by decide, by decide⟩ ⟨by decide, by decide⟩ (by decide) (by omega)) rfl rfl (Nat.le_of_ble_eq_true rfl) (Nat.le_of_ble_eq_true rfl) (Nat.le_of_ble_eq_true rfl) (Nat.le_of_ble_eq_true rfl) (Nat.le_of_ble_eq_true rfl) ?_
    intro dz hdz
    obtain rfl := Eq.symm hdz
    refine x_iast dX12_opens_66 n82 s82 (by omega) (by omega) (by decide) ?_
    refine x_aload_n dX12_opens_67 x_get_4_0 ?_
    refine x_getR dX12_opens_68 fX_12_75 n62 s62 (by rfl) ?_
    refine x_iload_n dX12_opens_71 x_get_4_1 ?_
    refine x_bipush dX12_opens_72 rfl ?_
    refine x_iadd dX12_opens_74 ?_
    refine x_iload_n dX12_opens_75 x_get_4_2 ?_
    refine x_iadd dX12_opens_76 ?_
    refine x_iconst dX12_opens_77 ?_
    refine x_iast dX12_opens_78 n82 s82 (by omega) (by omega) (by decide) ?_
    refine x_aload_n dX12_opens_79 x_get_4_0 ?_
    refine x_getR dX12_opens_80 fX_12_75 n62 s62 (by rfl) ?_
    refine x_iload_n dX12_opens_83 x_get_4_1 ?_
    refine x_bipush dX12_opens_84 rfl ?_
    refine x_iadd dX12_opens_86 ?_
    refine x_iload_n dX12_opens_87 x_get_4_2 ?_
    refine x_iadd dX12_opens_88 ?_
    refine x_iconst dX12_opens_89 ?_
    refine x_iast dX12_opens_90 n82 s82 (by omega) (by omega) (by decide) ?_
    exact x_vret dX12_opens_91 rfl (Nat.le_of_ble_eq_true rfl) (Nat.le_of_ble_eq_true rfl) rfl rfl rfl (m_w_u1 (m_w_u1 (m_w_u1 (m_w_rf hr) (k := 9 + f (55 + c)) (by omega) (by omega) (by omega)) (by omega) (by omega) (by omega)) (by omega) (by omega) (by omega)) rfl
  · rw [if_neg h35]
    have ek : D 82 (b + 1 + f (55 + c)) = f (1 + f (55 + c)) := mr_t hr rfl (by decide) hp0 hp1
    refine x_ofW (by decide +kernel) hl (by simp [Value.category]) (by simp) ?_
    refine x_iload_n dX12_opens_0 x_get_4_1 ?_
    refine x_aload_n dX12_opens_1 x_get_4_0 ?_
    refine x_getR dX12_opens_2 fX_12_75 n62 s62 (by rfl) ?_
    refine x_iload_n dX12_opens_5 x_get_4_1 ?_
    refine x_bipush dX12_opens_6 rfl ?_
    refine x_iadd dX12_opens_8 ?_
    refine x_iload_n dX12_opens_9 x_get_4_2 ?_
    refine x_iadd dX12_opens_10 ?_
    refine x_iald dX12_opens_11 n82 s82 (by omega) (by omega) (by decide) ?_
    try simp (disch := decide) only [x_up_s, x_up_n, x_up_up, x_u1_s, x_u1_n, e25, e35, e55, ek]
    refine x_iconst dX12_opens_12 ?_
    refine r_icmp_ne (t := 21) dX12_opens_13 rfl ⟨by omega, by omega⟩ ⟨by omega, by omega⟩ (fun hc13 => ?_) (fun hc13 => absurd hc13 (by omega))
    refine x_iconst dX12_opens_21 ?_
    refine x_iadd dX12_opens_22 ?_
    refine x_aload_n dX12_opens_23 x_get_4_0 ?_
    refine x_getR dX12_opens_24 fX_12_75 n62 s62 (by rfl) ?_
    refine x_iload_n dX12_opens_27 x_get_4_1 ?_
    refine x_bipush dX12_opens_28 rfl ?_
    refine x_iadd dX12_opens_30 ?_
    refine x_iload_n dX12_opens_31 x_get_4_2 ?_
    refine x_iadd dX12_opens_32 ?_
    refine x_iald dX12_opens_33 n82 s82 (by omega) (by omega) (by decide) ?_
    try simp (disch := decide) only [x_up_s, x_up_n, x_up_up, x_u1_s, x_u1_n, e25, e35, e55, ek]
    refine x_iadd dX12_opens_34 ?_
    refine x_istore_n dX12_opens_35 (Nat.le_of_ble_eq_true rfl) rfl x_set_4_3 ?_
    refine x_aload_n dX12_opens_36 x_get_4_0 ?_
    refine x_getR dX12_opens_37 fX_12_75 n62 s62 (by rfl) ?_
    refine x_iload_n dX12_opens_40 x_get_4_3 ?_
    refine x_aload_n dX12_opens_41 x_get_4_0 ?_
    refine x_getR dX12_opens_42 fX_12_75 n62 s62 (by rfl) ?_
    refine x_iload_n dX12_opens_45 x_get_4_3 ?_
    refine x_iald dX12_opens_46 n82 s82 (by omega) (by omega) (by decide) ?_
    try simp (disch := decide) only [x_up_s, x_up_n, x_up_up, x_u1_s, x_u1_n, e25, e35, e55, ek]
    refine x_aload_n dX12_opens_47 x_get_4_0 ?_
    refine x_getR dX12_opens_48 fX_12_75 n62 s62 (by rfl) ?_
    refine x_iload_n dX12_opens_51 x_get_4_1 ?_
    refine x_bipush dX12_opens_52 rfl ?_
    refine x_iadd dX12_opens_54 ?_
    refine x_iload_n dX12_opens_55 x_get_4_2 ?_
    refine x_iadd dX12_opens_56 ?_
    refine x_iald dX12_opens_57 n82 s82 (by omega) (by omega) (by decide) ?_
    try simp (disch := decide) only [x_up_s, x_up_n, x_up_up, x_u1_s, x_u1_n, e25, e35, e55, ek]
    refine x_iadd dX12_opens_58 ?_
    refine x_iconst dX12_opens_59 ?_
    refine x_sipush dX12_opens_60 rfl ?_
    refine x_callS (As := [_, _, _]) dX12_opens_63 w_12_311 (m_kept hl (min 9999 (f (1 + f (55 + c)) + f (25 + c))) ⟨by omega, by omega⟩ ⟨by decide, by decide⟩ ⟨by decide, by decide⟩ (by decide) (by omega)) rfl rfl (Nat.le_of_ble_eq_true rfl) (Nat.le_of_ble_eq_true rfl) (Nat.le_of_ble_eq_true rfl) (Nat.le_of_ble_eq_true rfl) (Nat.le_of_ble_eq_true rfl) ?_
    intro dz hdz
    obtain rfl := Eq.symm hdz
    refine x_iast dX12_opens_66 n82 s82 (by omega) (by omega) (by decide) ?_
    refine x_aload_n dX12_opens_67 x_get_4_0 ?_
    refine x_getR dX12_opens_68 fX_12_75 n62 s62 (by rfl) ?_
    refine x_iload_n dX12_opens_71 x_get_4_1 ?_
    refine x_bipush dX12_opens_72 rfl ?_
    refine x_iadd dX12_opens_74 ?_
    refine x_iload_n dX12_opens_75 x_get_4_2 ?_
    refine x_iadd dX12_opens_76 ?_
    refine x_iconst dX12_opens_77 ?_
    refine x_iast dX12_opens_78 n82 s82 (by omega) (by omega) (by decide) ?_
    refine x_aload_n dX12_opens_79 x_get_4_0 ?_
    refine x_getR dX12_opens_80 fX_12_75 n62 s62 (by rfl) ?_
    refine x_iload_n dX12_opens_83 x_get_4_1 ?_
    refine x_bipush dX12_opens_84 rfl ?_
    refine x_iadd dX12_opens_86 ?_
    refine x_iload_n dX12_opens_87 x_get_4_2 ?_
    refine x_iadd dX12_opens_88 ?_
    refine x_iconst dX12_opens_89 ?_
    refine x_iast dX12_opens_90 n82 s82 (by omega) (by omega) (by decide) ?_
    exact x_vret dX12_opens_91 rfl (Nat.le_of_ble_eq_true rfl) (Nat.le_of_ble_eq_true rfl) rfl rfl rfl (m_w_u1 (m_w_u1 (m_w_u1 (m_w_rf hr) (k := 1 + f (55 + c)) (by omega) (by omega) (by omega)) (by omega) (by omega) (by omega)) (by omega) (by omega) (by omega)) rfl
set_option maxHeartbeats 4000000 in
theorem m_spoilt {X : xC} {l : Launch} (hl : l.stackTraces = false) {N : Nat} {sh : xS} {D : xM} {T C W : Nat} {G : Ldt} (hq : mq N sh D T C W G) {B : Int} {f : Int → Int} (hk : s_ok B f) (hB : B ≤ 200000) (hr : mr T C f (D 82) 0) (hv84 : ∀ j, x_r (D 84 j)) : x_M X l yX12_spoilt cX12_spoilt 4 (some .int) 2 0 0 [.ref (x_b X + 62)] false N sh D (m_r (o_i ((s_bits (fun c => s_mov f c ∧ s_come f c = 0) C : Nat) : Int))) false N sh (fun d => ms D d ∧ d 62 0 = m_k 1 (o_i ((s_bits (fun c => s_mov f c ∧ s_come f c = 0) C : Nat) : Int))) := by
  obtain ⟨hM, hT, hTb, hW, hWb, hC, hCb, hmk, ⟨hG1, hG2, hG3⟩, hod⟩ := id hq
  have s62 := md_62 hM
  have n62 : 62 < N := md_n hM (by decide)
  have s82 := md_82 hM
  have n82 : 82 < N := md_n hM (by decide)
  rw [m_r_i, m_k_i]
  refine x_ofW (by decide +kernel) hl (by simp [Value.category]) (by simp) ?_
  refine x_aload_n dX12_spoilt_0 x_get_4_0 ?_
  refine x_iconst dX12_spoilt_1 ?_
  refine x_putI 0 dX12_spoilt_2 fX_12_117 rfl tX_12_0 n62 s62 (by rfl) ?_
  have z0 := m_go0 hq hr hv84
  generalize x_up D 62 (x_u1 (D 62) 0 0) = d0 at z0 ⊢
  obtain ⟨q0, t0, ms0, r0, v0⟩ := z0
  have hC0 : d0 62 3 = C := q0.2.2.2.2.2.1
  have hloop : ∀ k : Nat, k ≤ C → x_W (X, l, yX12_spoilt, cX12_spoilt, 4, (some .int), x_room 2 0 0, 0, 0, (.inl (some (.int (xI (((s_bits (fun c => s_mov f c ∧ s_come f c = 0) C : Nat) : Int)))))), N, sh, (fun d => ms D d ∧ d 62 0 = 0), false, []) 9 [some (.ref (x_b X + 62)), some (.int (xI ((s_bits (fun c => s_mov f c ∧ s_come f c = 0) k : Nat) : Int))), some (.int (xI (k : Int))), none] [] 0 0 false N sh d0 := by
    refine x_down C ?_ ?_
    · refine x_iload_n dX12_spoilt_9 x_get_4_2 ?_
      refine x_aload_n dX12_spoilt_10 x_get_4_0 ?_
      refine x_getI 3 dX12_spoilt_11 fX_12_287 rfl n62 s62 (by rfl) ?_
      try simp (disch := decide) only [x_up_s, x_up_n, x_up_up, x_u1_s, x_u1_n, hC0]
      refine r_icmp_ge (t := 99) dX12_spoilt_14 rfl ⟨by omega, by omega⟩ ⟨by omega, by omega⟩ (fun hc14 => ?_) (fun hc14 => absurd hc14 (by omega))
      refine x_iload_n dX12_spoilt_99 x_get_4_1 ?_
      exact x_iret dX12_spoilt_100 rfl (Nat.le_of_ble_eq_true rfl) (Nat.le_of_ble_eq_true rfl) rfl rfl rfl ⟨ms0, t0⟩ rfl
    · intro k hk2 ih
      have hcr := s_cr hk (c := (k : Int)) (by omega) (by omega)
      have hm9 := s_mul9 hcr.2.2.2.2.1.1 hcr.2.2.2.2.1.2 hcr.2.2.2.2.2.1 hcr.2.2.2.2.2.2
      have hm8 := s_mul9 hcr.2.2.2.2.2.1 hcr.2.2.2.2.2.2 hcr.2.2.2.2.1.1 hcr.2.2.2.2.1.2
      have hmm : f (75 + (k : Int)) * f (65 + (k : Int)) = f (65 + (k : Int)) * f (75 + (k : Int)) := Int.mul_comm _ _
      have e25 : d0 82 (25 + (k : Int)) = f (25 + (k : Int)) := mr_c r0 rfl (by decide) (by omega) (by omega)
      have e45 : d0 82 (45 + (k : Int)) = f (45 + (k : Int)) := mr_c r0 rfl (by decide) (by omega) (by omega)
      have e65 : d0 82 (65 + (k : Int)) = f (65 + (k : Int)) := mr_c r0 rfl (by decide) (by omega) (by omega)
      have e75 : d0 82 (75 + (k : Int)) = f (75 + (k : Int)) := mr_c r0 rfl (by decide) (by omega) (by omega)
      refine x_iload_n dX12_spoilt_9 x_get_4_2 ?_
      refine x_aload_n dX12_spoilt_10 x_get_4_0 ?_
      refine x_getI 3 dX12_spoilt_11 fX_12_287 rfl n62 s62 (by rfl) ?_
      try simp (disch := decide) only [x_up_s, x_up_n, x_up_up, x_u1_s, x_u1_n, hC0, e25, e45, e65, e75]
      refine r_icmp_ge (t := 99) dX12_spoilt_14 rfl ⟨by omega, by omega⟩ ⟨by omega, by omega⟩ (fun hc14 => absurd hc14 (by omega)) (fun hc14 => ?_)
      refine x_aload_n dX12_spoilt_17 x_get_4_0 ?_
      refine x_getR dX12_spoilt_18 fX_12_75 n62 s62 (by rfl) ?_
      refine x_bipush dX12_spoilt_21 rfl ?_
      refine x_iload_n dX12_spoilt_23 x_get_4_2 ?_
      refine x_iadd dX12_spoilt_24 ?_
      refine x_iald dX12_spoilt_25 n82 s82 (by omega) (by omega) (by decide) ?_
      try simp (disch := decide) only [x_up_s, x_up_n, x_up_up, x_u1_s, x_u1_n, hC0, e25, e45, e65, e75]
      refine r_if_ne (t := 32) dX12_spoilt_26 rfl ⟨by omega, by omega⟩ (fun hc26 => ?_) (fun hc26 => ?_)
      · refine x_aload_n dX12_spoilt_32 x_get_4_0 ?_
        refine x_getR dX12_spoilt_33 fX_12_75 n62 s62 (by rfl) ?_
        refine x_bipush dX12_spoilt_36 rfl ?_
        refine x_iload_n dX12_spoilt_38 x_get_4_2 ?_
        refine x_iadd dX12_spoilt_39 ?_
        refine x_iald dX12_spoilt_40 n82 s82 (by omega) (by omega) (by decide) ?_
        try simp (disch := decide) only [x_up_s, x_up_n, x_up_up, x_u1_s, x_u1_n, hC0, e25, e45, e65, e75]
        refine x_aload_n dX12_spoilt_41 x_get_4_0 ?_
        refine x_getR dX12_spoilt_42 fX_12_75 n62 s62 (by rfl) ?_
        refine x_bipush dX12_spoilt_45 rfl ?_
        refine x_iload_n dX12_spoilt_47 x_get_4_2 ?_
        refine x_iadd dX12_spoilt_48 ?_
        refine x_iald dX12_spoilt_49 n82 s82 (by omega) (by omega) (by decide) ?_
        try simp (disch := decide) only [x_up_s, x_up_n, x_up_up, x_u1_s, x_u1_n, hC0, e25, e45, e65, e75]
        refine x_iconst dX12_spoilt_50 ?_
        refine r_icmp_ne (t := 58) dX12_spoilt_51 rfl ⟨by omega, by omega⟩ ⟨by omega, by omega⟩ (fun hc51 => ?_) (fun hc51 => ?_)
        · refine x_aload_n dX12_spoilt_58 x_get_4_0 ?_
          refine x_getR dX12_spoilt_59 fX_12_75 n62 s62 (by rfl) ?_
          refine x_bipush dX12_spoilt_62 rfl ?_
          refine x_iload_n dX12_spoilt_64 x_get_4_2 ?_
          refine x_iadd dX12_spoilt_65 ?_
          refine x_iald dX12_spoilt_66 n82 s82 (by omega) (by omega) (by decide) ?_
          try simp (disch := decide) only [x_up_s, x_up_n, x_up_up, x_u1_s, x_u1_n, hC0, e25, e45, e65, e75]
          refine x_aload_n dX12_spoilt_67 x_get_4_0 ?_
          refine x_getR dX12_spoilt_68 fX_12_75 n62 s62 (by rfl) ?_
          refine x_bipush dX12_spoilt_71 rfl ?_
          refine x_iload_n dX12_spoilt_73 x_get_4_2 ?_
          refine x_iadd dX12_spoilt_74 ?_
          refine x_iald dX12_spoilt_75 n82 s82 (by omega) (by omega) (by decide) ?_
          try simp (disch := decide) only [x_up_s, x_up_n, x_up_up, x_u1_s, x_u1_n, hC0, e25, e45, e65, e75]
          refine x_imul dX12_spoilt_76 ?_
          refine x_isub dX12_spoilt_77 ?_
          refine x_istore_n dX12_spoilt_78 (Nat.le_of_ble_eq_true rfl) rfl x_set_4_3 ?_
          refine x_iload_n dX12_spoilt_79 x_get_4_1 ?_
          refine x_iload_n dX12_spoilt_80 x_get_4_3 ?_
          refine r_if_gt (t := 90) dX12_spoilt_81 rfl ⟨by omega, by omega⟩ (fun hc81 => ?_) (fun hc81 => ?_)
          · refine x_iconst dX12_spoilt_90 ?_
            refine x_ior dX12_spoilt_91 ?_
            refine x_as_is (by first | exact s_bits_or (fun c => s_mov f c ∧ s_come f c = 0) (by omega) ⟨by show 0 < _; omega, by unfold s_come; first | (rw [if_pos hc51]; omega) | (rw [if_neg hc51]; omega)⟩ | exact s_bits_or0 (fun c => s_mov f c ∧ s_come f c = 0) (by omega) (fun h => by have h2 := h.2; unfold s_come at h2; first | (rw [if_pos hc51] at h2; omega) | (rw [if_neg hc51] at h2; omega))) ?_
            refine x_istore_n dX12_spoilt_92 (Nat.le_of_ble_eq_true rfl) rfl x_set_4_1 ?_
            refine x_iinc dX12_spoilt_93 x_get_4_2 (Nat.le_of_ble_eq_true rfl) rfl x_set_4_2 ?_
            refine x_goto (t := 9) dX12_spoilt_96 rfl ?_
            try refine x_forget 3 ?_
            first | exact ih | (rw [s_bits_n (fun h => by have := h.1; omega)] at ih; exact ih)
          · refine x_iconst dX12_spoilt_84 ?_
            refine x_iload_n dX12_spoilt_85 x_get_4_2 ?_
            refine x_ishl dX12_spoilt_86 ?_
            refine x_goto (t := 91) dX12_spoilt_87 rfl ?_
            refine x_ior dX12_spoilt_91 ?_
            refine x_as_is (by first | exact s_bits_or (fun c => s_mov f c ∧ s_come f c = 0) (by omega) ⟨by show 0 < _; omega, by unfold s_come; first | (rw [if_pos hc51]; omega) | (rw [if_neg hc51]; omega)⟩ | exact s_bits_or0 (fun c => s_mov f c ∧ s_come f c = 0) (by omega) (fun h => by have h2 := h.2; unfold s_come at h2; first | (rw [if_pos hc51] at h2; omega) | (rw [if_neg hc51] at h2; omega))) ?_
            refine x_istore_n dX12_spoilt_92 (Nat.le_of_ble_eq_true rfl) rfl x_set_4_1 ?_
            refine x_iinc dX12_spoilt_93 x_get_4_2 (Nat.le_of_ble_eq_true rfl) rfl x_set_4_2 ?_
            refine x_goto (t := 9) dX12_spoilt_96 rfl ?_
            try refine x_forget 3 ?_
            first | exact ih | (rw [s_bits_n (fun h => by have := h.1; omega)] at ih; exact ih)
        · refine x_iconst dX12_spoilt_54 ?_
          refine x_goto (t := 77) dX12_spoilt_55 rfl ?_
          refine x_isub dX12_spoilt_77 ?_
          refine x_istore_n dX12_spoilt_78 (Nat.le_of_ble_eq_true rfl) rfl x_set_4_3 ?_
          refine x_iload_n dX12_spoilt_79 x_get_4_1 ?_
          refine x_iload_n dX12_spoilt_80 x_get_4_3 ?_
          refine r_if_gt (t := 90) dX12_spoilt_81 rfl ⟨by omega, by omega⟩ (fun hc81 => ?_) (fun hc81 => ?_)
          · refine x_iconst dX12_spoilt_90 ?_
            refine x_ior dX12_spoilt_91 ?_
            refine x_as_is (by first | exact s_bits_or (fun c => s_mov f c ∧ s_come f c = 0) (by omega) ⟨by show 0 < _; omega, by unfold s_come; first | (rw [if_pos hc51]; omega) | (rw [if_neg hc51]; omega)⟩ | exact s_bits_or0 (fun c => s_mov f c ∧ s_come f c = 0) (by omega) (fun h => by have h2 := h.2; unfold s_come at h2; first | (rw [if_pos hc51] at h2; omega) | (rw [if_neg hc51] at h2; omega))) ?_
            refine x_istore_n dX12_spoilt_92 (Nat.le_of_ble_eq_true rfl) rfl x_set_4_1 ?_
            refine x_iinc dX12_spoilt_93 x_get_4_2 (Nat.le_of_ble_eq_true rfl) rfl x_set_4_2 ?_
            refine x_goto (t := 9) dX12_spoilt_96 rfl ?_
            try refine x_forget 3 ?_
            first | exact ih | (rw [s_bits_n (fun h => by have := h.1; omega)] at ih; exact ih)
          · refine x_iconst dX12_spoilt_84 ?_
            refine x_iload_n dX12_spoilt_85 x_get_4_2 ?_
            refine x_ishl dX12_spoilt_86 ?_
            refine x_goto (t := 91) dX12_spoilt_87 rfl ?_
            refine x_ior dX12_spoilt_91 ?_
            refine x_as_is (by first | exact s_bits_or (fun c => s_mov f c ∧ s_come f c = 0) (by omega) ⟨by show 0 < _; omega, by unfold s_come; first | (rw [if_pos hc51]; omega) | (rw [if_neg hc51]; omega)⟩ | exact s_bits_or0 (fun c => s_mov f c ∧ s_come f c = 0) (by omega) (fun h => by have h2 := h.2; unfold s_come at h2; first | (rw [if_pos hc51] at h2; omega) | (rw [if_neg hc51] at h2; omega))) ?_
            refine x_istore_n dX12_spoilt_92 (Nat.le_of_ble_eq_true rfl) rfl x_set_4_1 ?_
            refine x_iinc dX12_spoilt_93 x_get_4_2 (Nat.le_of_ble_eq_true rfl) rfl x_set_4_2 ?_
            refine x_goto (t := 9) dX12_spoilt_96 rfl ?_
            try refine x_forget 3 ?_
            first | exact ih | (rw [s_bits_n (fun h => by have := h.1; omega)] at ih; exact ih)
      · refine x_goto (t := 93) dX12_spoilt_29 rfl ?_
        refine x_iinc dX12_spoilt_93 x_get_4_2 (Nat.le_of_ble_eq_true rfl) rfl x_set_4_2 ?_
        refine x_goto (t := 9) dX12_spoilt_96 rfl ?_
        try refine x_forget 3 ?_
        first | exact ih | (rw [s_bits_n (fun h => by have := h.1; omega)] at ih; exact ih)
  refine x_iconst dX12_spoilt_5 ?_
  refine x_istore_n dX12_spoilt_6 (Nat.le_of_ble_eq_true rfl) rfl x_set_4_1 ?_
  refine x_iconst dX12_spoilt_7 ?_
  refine x_istore_n dX12_spoilt_8 (Nat.le_of_ble_eq_true rfl) rfl x_set_4_2 ?_
  exact hloop 0 (Nat.zero_le _)
set_option maxHeartbeats 8000000 in
theorem m_pooled {X : xC} {l : Launch} (hl : l.stackTraces = false) {N : Nat} {sh : xS} {D : xM} {T C W : Nat} {G : Ldt} (hq : mq N sh D T C W G) {B : Int} {f : Int → Int} (hk : s_ok B f) (hB : B ≤ 200000) (hr : mr T C f (D 82) 0) (hv84 : ∀ j, x_r (D 84 j)) {n : Int} (hnr : x_r n) : x_M X l yX12_pooled cX12_pooled 4 (some .int) 7 0 0 [.ref (x_b X + 62), .int (xI n)] false N sh D (m_r (q_pooled T C G f n)) false N sh (fun d => ms D d ∧ d 62 0 = m_k 1 (q_pooled T C G f n)) := by
  obtain ⟨hM, hT, hTb, hW, hWb, hC, hCb, hmk, ⟨hG1, hG2, hG3⟩, hod⟩ := id hq
  have s62 := md_62 hM
  have n62 : 62 < N := md_n hM (by decide)
  have s82 := md_82 hM
  have n82 : 82 < N := md_n hM (by decide)
  unfold q_pooled
  by_cases hn : 1 ≤ n ∧ n ≤ 60
  · rw [if_pos hn]
    obtain ⟨hn0, hn1⟩ := id hn
    obtain ⟨m, rfl⟩ := Int.eq_ofNat_of_zero_le (show 0 ≤ n by omega)
    rw [Int.toNat_natCast]
    have hB0 : 0 ≤ B := by have := (hk 0).1 rfl; omega
    rw [m_r_i, m_k_i]
    refine x_ofW (by decide +kernel) hl (by simp [Value.category]) (by simp) ?_
    refine x_aload_n dX12_pooled_0 x_get_4_0 ?_
    refine x_iconst dX12_pooled_1 ?_
    refine x_putI 0 dX12_pooled_2 fX_12_117 rfl tX_12_0 n62 s62 (by rfl) ?_
    have z0 := m_go0 hq hr hv84
    generalize x_up D 62 (x_u1 (D 62) 0 0) = d0 at z0 ⊢
    obtain ⟨q0, t0, ms0, r0, v0⟩ := z0
    have hloop : ∀ k : Nat, k ≤ T → ∀ d : xM, ms d0 d → d 62 0 = 0 → mr T C (s_sh f (x_sum (fun i => f (1 + i)) T / T) (x_sum (fun i => f (9 + i)) T / T) k) (d 82) 85 → x_W (X, l, yX12_pooled, cX12_pooled, 4, (some .int), x_room 7 0 0, 0, 0, (.inl (some (.int (xI ((v_won T (s_days G T C (s_share f T) m)) - (v_won T (s_days G T C f m))))))), N, sh, (fun d => ms D d ∧ d 62 0 = 0), false, []) 39 [some (.ref (x_b X + 62)), some (.int (xI (m : Int))), some (.int (xI (v_won T (s_days G T C f m)))), some (.int (xI (k : Int)))] [] 0 0 false N sh d := by
      refine x_down T ?_ ?_
      · intro d hm ht hs
        have qd := ms_mq q0 hm
        have hT2 : d 62 1 = T := qd.2.1
        have hks := s_ok_share hk hTb
        have hss : s_sh f (x_sum (fun i => f (1 + i)) T / T) (x_sum (fun i => f (9 + i)) T / T) T = s_share f T := rfl
        rw [hss] at hs
        refine x_iload_n dX12_pooled_39 x_get_4_3 ?_
        refine x_aload_n dX12_pooled_40 x_get_4_0 ?_
        refine x_getI 1 dX12_pooled_41 fX_12_281 rfl n62 s62 (by rfl) ?_
        try simp (disch := decide) only [x_up_s, x_up_n, x_up_up, x_u1_s, x_u1_n, hT2]
        refine r_icmp_ge (t := 92) dX12_pooled_44 rfl ⟨by omega, by omega⟩ ⟨by omega, by omega⟩ (fun hc44 => ?_) (fun hc44 => absurd hc44 (by omega))
        refine x_aload_n dX12_pooled_92 x_get_4_0 ?_
        refine x_iload_n dX12_pooled_93 x_get_4_1 ?_
        refine x_callV (As := [_]) dX12_pooled_94 w_12_392 (m_daysGo hl qd hks (n := m) (by omega) hs hm.2.2.2) (by assumption) (by assumption) rfl rfl (Nat.le_of_ble_eq_true rfl) (Nat.le_of_ble_eq_true rfl) (Nat.le_of_ble_eq_true rfl) (Nat.le_of_ble_eq_true rfl) (Nat.le_of_ble_eq_true rfl) ?_
        rintro d2 hy2
        refine x_aload_n dX12_pooled_97 x_get_4_0 ?_
        refine x_bipush dX12_pooled_98 rfl ?_
        refine x_callV (As := [_]) dX12_pooled_100 w_12_350 (m_allOf hl (m_dy_mq qd hy2) (s_ok_days hks hG1 hG2 hTb hCb m) (by omega) (Or.inr rfl) hy2.2.2.1 (k := 17) rfl (by decide)) (by assumption) (by assumption) rfl rfl (Nat.le_of_ble_eq_true rfl) (Nat.le_of_ble_eq_true rfl) (Nat.le_of_ble_eq_true rfl) (Nat.le_of_ble_eq_true rfl) (Nat.le_of_ble_eq_true rfl) ?_
        intro dz hdz
        obtain rfl := Eq.symm hdz
        refine x_iload_n dX12_pooled_103 x_get_4_2 ?_
        refine x_isub dX12_pooled_104 ?_
        exact x_iret dX12_pooled_105 rfl (Nat.le_of_ble_eq_true rfl) (Nat.le_of_ble_eq_true rfl) rfl rfl rfl ⟨ms_tr ms0 (ms_dy hm hy2), by rw [hy2.2.1 0 (by decide)]; exact ht⟩ rfl
      · intro k hk2 ih d hm ht hs
        have qd := ms_mq q0 hm
        have hT2 : d 62 1 = T := qd.2.1
        have hr2 := ms_mr hTb hCb hm r0
        refine x_iload_n dX12_pooled_39 x_get_4_3 ?_
        refine x_aload_n dX12_pooled_40 x_get_4_0 ?_
        refine x_getI 1 dX12_pooled_41 fX_12_281 rfl n62 s62 (by rfl) ?_
        try simp (disch := decide) only [x_up_s, x_up_n, x_up_up, x_u1_s, x_u1_n, hT2]
        refine r_icmp_ge (t := 92) dX12_pooled_44 rfl ⟨by omega, by omega⟩ ⟨by omega, by omega⟩ (fun hc44 => absurd hc44 (by omega)) (fun hc44 => ?_)
        refine x_aload_n dX12_pooled_47 x_get_4_0 ?_
        refine x_getR dX12_pooled_48 fX_12_75 n62 s62 (by rfl) ?_
        refine x_bipush dX12_pooled_51 rfl ?_
        refine x_iload_n dX12_pooled_53 x_get_4_3 ?_
        refine x_iadd dX12_pooled_54 ?_
        refine x_aload_n dX12_pooled_55 x_get_4_0 ?_
        refine x_iconst dX12_pooled_56 ?_
        refine x_callV (As := [_]) dX12_pooled_57 w_12_350 (m_allOf hl qd hk (by omega) (Or.inl rfl) hr2 (k := 1) rfl (by decide)) (by assumption) (by assumption) rfl rfl (Nat.le_of_ble_eq_true rfl) (Nat.le_of_ble_eq_true rfl) (Nat.le_of_ble_eq_true rfl) (Nat.le_of_ble_eq_true rfl) (Nat.le_of_ble_eq_true rfl) ?_
        intro dz hdz
        obtain rfl := Eq.symm hdz
        refine x_aload_n dX12_pooled_60 x_get_4_0 ?_
        refine x_getI 1 dX12_pooled_61 fX_12_281 rfl n62 s62 (by rfl) ?_
        try simp (disch := decide) only [x_up_s, x_up_n, x_up_up, x_u1_s, x_u1_n, hT2]
        refine x_idiv dX12_pooled_64 (by rw [← xI_0, xI_eq, x_n0, x_n_of ⟨by omega, by omega⟩]; omega) ?_
        refine x_as_is (s_avg T hTb (by omega) (fun t a b => (s_tn hk a b).1)) ?_
        refine x_iast dX12_pooled_65 n82 s82 (by omega) (by omega) (by decide) ?_
        have w3 : ms d0 (x_up d 82 (x_u1 (d 82) (86 + (k : Int)) (x_sum (fun i => f (1 + i)) T / T))) := ⟨fun j a b c e g => by rw [x_up_n b]; exact hm.1 j a b c e g, fun i a b c => by rw [x_up_n (by decide)]; exact hm.2.1 i a b c, fun i hi => by rw [x_up_s, x_u1_n (by omega)]; exact hm.2.2.1 i hi, by rw [x_up_n (by decide)]; exact hm.2.2.2⟩
        have hs3 : mr T C (x_u1 (s_sh f (x_sum (fun i => f (1 + i)) T / T) (x_sum (fun i => f (9 + i)) T / T) k) (1 + (k : Int)) (x_sum (fun i => f (1 + i)) T / T)) ((x_up d 82 (x_u1 (d 82) (86 + (k : Int)) (x_sum (fun i => f (1 + i)) T / T))) 82) 85 := by rw [x_up_s]; exact mr_u1 hs (by omega)
        have ht3 : (x_up d 82 (x_u1 (d 82) (86 + (k : Int)) (x_sum (fun i => f (1 + i)) T / T))) 62 0 = 0 := by rw [x_up_n (by decide)]; exact ht
        generalize x_up d 82 (x_u1 (d 82) (86 + (k : Int)) (x_sum (fun i => f (1 + i)) T / T)) = d3 at w3 hs3 ht3 ⊢
        have qd3 := ms_mq q0 w3
        clear hT2
        have hT2 : d3 62 1 = T := qd3.2.1
        have hr3 := ms_mr hTb hCb w3 r0
        refine x_aload_n dX12_pooled_66 x_get_4_0 ?_
        refine x_getR dX12_pooled_67 fX_12_75 n62 s62 (by rfl) ?_
        refine x_bipush dX12_pooled_70 rfl ?_
        refine x_iload_n dX12_pooled_72 x_get_4_3 ?_
        refine x_iadd dX12_pooled_73 ?_
        refine x_aload_n dX12_pooled_74 x_get_4_0 ?_
        refine x_bipush dX12_pooled_75 rfl ?_
        refine x_callV (As := [_]) dX12_pooled_77 w_12_350 (m_allOf hl qd3 hk (by omega) (Or.inl rfl) hr3 (k := 9) rfl (by decide)) (by assumption) (by assumption) rfl rfl (Nat.le_of_ble_eq_true rfl) (Nat.le_of_ble_eq_true rfl) (Nat.le_of_ble_eq_true rfl) (Nat.le_of_ble_eq_true rfl) (Nat.le_of_ble_eq_true rfl) ?_
        intro dz hdz
        obtain rfl := Eq.symm hdz
        refine x_aload_n dX12_pooled_80 x_get_4_0 ?_
        refine x_getI 1 dX12_pooled_81 fX_12_281 rfl n62 s62 (by rfl) ?_
        try simp (disch := decide) only [x_up_s, x_up_n, x_up_up, x_u1_s, x_u1_n, hT2]
        refine x_idiv dX12_pooled_84 (by rw [← xI_0, xI_eq, x_n0, x_n_of ⟨by omega, by omega⟩]; omega) ?_
        refine x_as_is (s_avg T hTb (by omega) (fun t a b => (s_tn hk a b).2.1)) ?_
        refine x_iast dX12_pooled_85 n82 s82 (by omega) (by omega) (by decide) ?_
        refine x_iinc dX12_pooled_86 x_get_4_3 (Nat.le_of_ble_eq_true rfl) rfl x_set_4_3 ?_
        refine x_goto (t := 39) dX12_pooled_89 rfl ?_
        refine ih _ ⟨fun j a b c e g => by rw [x_up_n b]; exact w3.1 j a b c e g, fun i a b c => by rw [x_up_n (by decide)]; exact w3.2.1 i a b c, fun i hi => by rw [x_up_s, x_u1_n (by omega)]; exact w3.2.2.1 i hi, by rw [x_up_n (by decide)]; exact w3.2.2.2⟩ (by rw [x_up_n (by decide)]; exact ht3) (by rw [x_up_s]; exact mr_u1 hs3 (by omega))
    refine x_aload_n dX12_pooled_5 x_get_4_0 ?_
    refine x_iload_n dX12_pooled_6 x_get_4_1 ?_
    refine x_iconst dX12_pooled_7 ?_
    refine x_iconst dX12_pooled_8 ?_
    refine x_callV (As := [_, _, _]) dX12_pooled_9 w_12_386 (m_isDaysT hl q0.1 t0 hnr ⟨by decide, by decide⟩ hn) (by assumption) (by assumption) rfl rfl (Nat.le_of_ble_eq_true rfl) (Nat.le_of_ble_eq_true rfl) (Nat.le_of_ble_eq_true rfl) (Nat.le_of_ble_eq_true rfl) (Nat.le_of_ble_eq_true rfl) ?_
    intro dz hdz
    obtain rfl := Eq.symm hdz
    refine r_if_ne (t := 17) dX12_pooled_12 rfl ⟨by omega, by omega⟩ (fun hc12 => ?_) (fun hc12 => absurd hc12 (by omega))
    refine x_aload_n dX12_pooled_17 x_get_4_0 ?_
    refine x_callV (As := []) dX12_pooled_18 w_12_389 (m_tries hl q0 r0) (by assumption) (by assumption) rfl rfl (Nat.le_of_ble_eq_true rfl) (Nat.le_of_ble_eq_true rfl) (Nat.le_of_ble_eq_true rfl) (Nat.le_of_ble_eq_true rfl) (Nat.le_of_ble_eq_true rfl) ?_
    rintro d1 hd1
    have y1 := m_dy_of hd1 v0
    refine x_aload_n dX12_pooled_21 x_get_4_0 ?_
    refine x_iload_n dX12_pooled_22 x_get_4_1 ?_
    refine x_callV (As := [_]) dX12_pooled_23 w_12_392 (m_daysGo hl (m_dy_mq q0 y1) hk (n := m) (by omega) y1.2.2.1 y1.2.2.2.2) (by assumption) (by assumption) rfl rfl (Nat.le_of_ble_eq_true rfl) (Nat.le_of_ble_eq_true rfl) (Nat.le_of_ble_eq_true rfl) (Nat.le_of_ble_eq_true rfl) (Nat.le_of_ble_eq_true rfl) ?_
    rintro d2 hd2
    have y2 := m_dy_tr y1 hd2
    have m2 := ms_dy (ms_rf v0) y2
    have r2 := ms_mr hTb hCb m2 r0
    refine x_aload_n dX12_pooled_26 x_get_4_0 ?_
    refine x_bipush dX12_pooled_27 rfl ?_
    refine x_callV (As := [_]) dX12_pooled_29 w_12_350 (m_allOf hl (m_dy_mq q0 y2) (s_ok_days hk hG1 hG2 hTb hCb m) (by omega) (Or.inr rfl) y2.2.2.1 (k := 17) rfl (by decide)) (by assumption) (by assumption) rfl rfl (Nat.le_of_ble_eq_true rfl) (Nat.le_of_ble_eq_true rfl) (Nat.le_of_ble_eq_true rfl) (Nat.le_of_ble_eq_true rfl) (Nat.le_of_ble_eq_true rfl) ?_
    intro dz hdz
    obtain rfl := Eq.symm hdz
    refine x_istore_n dX12_pooled_32 (Nat.le_of_ble_eq_true rfl) rfl x_set_4_2 ?_
    refine x_aload_n dX12_pooled_33 x_get_4_0 ?_
    refine x_callV (As := []) dX12_pooled_34 w_12_389 (m_tries hl (m_dy_mq q0 y2) r2) (by assumption) (by assumption) rfl rfl (Nat.le_of_ble_eq_true rfl) (Nat.le_of_ble_eq_true rfl) (Nat.le_of_ble_eq_true rfl) (Nat.le_of_ble_eq_true rfl) (Nat.le_of_ble_eq_true rfl) ?_
    rintro d3 hd3
    refine x_iconst dX12_pooled_37 ?_
    refine x_istore_n dX12_pooled_38 (Nat.le_of_ble_eq_true rfl) rfl x_set_4_3 ?_
    exact hloop 0 (Nat.zero_le _) d3 (ms_w m2 hd3) (by rw [hd3.1 62 (by decide)]; exact dy0 y2 t0) hd3.2.1
  · rw [if_neg hn]
    refine x_ofW (by decide +kernel) hl (by simp [Value.category]) (by simp) ?_
    refine x_aload_n dX12_pooled_0 x_get_4_0 ?_
    refine x_iconst dX12_pooled_1 ?_
    refine x_putI 0 dX12_pooled_2 fX_12_117 rfl tX_12_0 n62 s62 (by rfl) ?_
    have z0 := m_go0 hq hr hv84
    generalize x_up D 62 (x_u1 (D 62) 0 0) = d0 at z0 ⊢
    obtain ⟨q0, t0, ms0, r0, v0⟩ := z0
    refine x_aload_n dX12_pooled_5 x_get_4_0 ?_
    refine x_iload_n dX12_pooled_6 x_get_4_1 ?_
    refine x_iconst dX12_pooled_7 ?_
    refine x_iconst dX12_pooled_8 ?_
    refine x_callV (As := [_, _, _]) dX12_pooled_9 w_12_386 (m_isDaysF hl q0.1 t0 hnr ⟨by decide, by decide⟩ hn (by decide) (by decide)) (by assumption) (by assumption) rfl rfl (Nat.le_of_ble_eq_true rfl) (Nat.le_of_ble_eq_true rfl) (Nat.le_of_ble_eq_true rfl) (Nat.le_of_ble_eq_true rfl) (Nat.le_of_ble_eq_true rfl) ?_
    intro dz hdz
    obtain rfl := Eq.symm hdz
    refine r_if_ne (t := 17) dX12_pooled_12 rfl ⟨by omega, by omega⟩ (fun hc12 => absurd hc12 (by omega)) (fun hc12 => ?_)
    refine x_iconst dX12_pooled_15 ?_
    exact x_iret dX12_pooled_16 rfl (Nat.le_of_ble_eq_true rfl) (Nat.le_of_ble_eq_true rfl) rfl rfl rfl ⟨ms_thr ms0, by rw [x_up_s, x_u1_s, m_k_I]⟩ rfl
end M68
