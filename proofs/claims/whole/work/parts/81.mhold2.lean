section M81
theorem b_0sub {al : Nat} : b_sub 0 al = 0 := by unfold b_sub; simp
theorem b_pow_sub {al c : Nat} (h : al.testBit c = true) : b_sub (2 ^ c) al = 0 := by
  have := b_or_sub (c := c) b_0sub h
  rwa [Nat.zero_or] at this
theorem w_12_411 : x_cv RX12 411 yX12_laysHold cX12_laysHold 6 (none) 12 1 := ⟨⟨_, rfl, rfl⟩, (x_in 1891 (by decide +kernel) rfl), (x_in 1893 (by decide +kernel) rfl), (x_in 69 (by decide +kernel) rfl), (x_in 90 (by decide +kernel) rfl), (x_in 1894 (by decide +kernel) rfl), by decide, ⟨by decide +kernel, by decide +kernel, by decide +kernel⟩⟩
set_option maxHeartbeats 16000000 in
theorem m_hold {X : xC} {l : Launch} (hl : l.stackTraces = false) {N : Nat} {sh : xS} {D : xM} {T C W : Nat} {G : Ldt} (hq : mq N sh D T C W G) {B : Int} {f : Int → Int} (hk : s_ok B f) (hB : B ≤ 200000) (hr : mr T C f (D 82) 0) (hv84 : ∀ j, x_r (D 84 j)) {t i : Int} (htr : x_r t) (hir : x_r i) : x_M X l yX12_hold cX12_hold 12 (some .int) 5 0 0 [.ref (x_b X + 62), .int (xI t), .int (xI i)] false N sh D (m_r (q_hold T C f t i)) false N sh (fun d => ms D d ∧ d 62 0 = m_k 1 (q_hold T C f t i)) := by
  obtain ⟨hM, hT, hTb, hW, hWb, hC, hCb, hmk, ⟨hG1, hG2, hG3⟩, hod⟩ := id hq
  have s62 := md_62 hM
  have n62 : 62 < N := md_n hM (by decide)
  have s88 := md_88 hM
  have n88 : 88 < N := md_n hM (by decide)
  obtain ⟨hir0, hir1⟩ := id hir
  unfold q_hold q_1t
  by_cases ht : 0 ≤ t ∧ t < T
  · rw [if_pos ht]
    obtain ⟨ht0, ht1⟩ := id ht
    have hal := s_bits_10 (p := fun c => s_in f t c) hCb
    have hb : ∀ i, (s_bits (fun c => s_in f t c) C).testBit i = true → i < C := fun i h => (s_bits_bit h).2
    generalize hA : (s_bits (fun c => s_in f t c) C) = al at hal hb ⊢
    have hpa := s_pop_le al hal
    by_cases hg : -1 ≤ i ∧ i < (s_pop al : Nat)
    · generalize hQ : (if i = -1 then o_i (k_harm f al) else if 0 ≤ i ∧ i < ((s_pop al : Nat) : Int) then o_i (k_holdn f (i.toNat + 1) al (k_harm f al) (-1)) else .inr x_NSE) = Q
      refine x_ofW (by decide +kernel) hl (by simp [Value.category]) (by simp) ?_
      refine x_aload_n dX12_hold_0 x_get_12_0 ?_
      refine x_iconst dX12_hold_1 ?_
      refine x_putI 0 dX12_hold_2 fX_12_117 rfl tX_12_0 n62 s62 (by rfl) ?_
      have z0 := m_go0 hq hr hv84
      generalize x_up D 62 (x_u1 (D 62) 0 0) = d0 at z0 ⊢
      obtain ⟨q0, t0, ms0, r0, v0⟩ := z0
      refine x_aload_n dX12_hold_5 x_get_12_0 ?_
      refine x_iload_n dX12_hold_6 x_get_12_1 ?_
      refine x_callV (As := [_]) dX12_hold_7 w_12_362 (m_isTownT hl q0 t0 ht) (by assumption) (by assumption) rfl rfl (Nat.le_of_ble_eq_true rfl) (Nat.le_of_ble_eq_true rfl) (Nat.le_of_ble_eq_true rfl) (Nat.le_of_ble_eq_true rfl) (Nat.le_of_ble_eq_true rfl) ?_
      intro dz hdz
      obtain rfl := Eq.symm hdz
      refine r_if_ne (t := 15) dX12_hold_10 rfl ⟨by omega, by omega⟩ (fun hc10 => ?_) (fun hc10 => absurd hc10 (by omega))
      refine x_aload_n dX12_hold_15 x_get_12_0 ?_
      refine x_iconst dX12_hold_16 ?_
      refine x_iload_n dX12_hold_17 x_get_12_1 ?_
      refine x_callV (As := [_, _]) dX12_hold_18 w_12_314 (m_lyingIn hl q0 hk (by omega) (Or.inl rfl) r0 ht0 (by omega)) (by assumption) (by assumption) rfl rfl (Nat.le_of_ble_eq_true rfl) (Nat.le_of_ble_eq_true rfl) (Nat.le_of_ble_eq_true rfl) (Nat.le_of_ble_eq_true rfl) (Nat.le_of_ble_eq_true rfl) ?_
      intro dz hdz
      obtain rfl := Eq.symm hdz
      rw [hA]
      refine x_istore_n dX12_hold_21 (Nat.le_of_ble_eq_true rfl) rfl x_set_12_3 ?_
      refine x_aload_n dX12_hold_22 x_get_12_0 ?_
      refine x_iload_n dX12_hold_23 x_get_12_2 ?_
      refine x_iconst dX12_hold_24 ?_
      refine r_icmp_lt (t := 40) dX12_hold_25 rfl ⟨by omega, by omega⟩ ⟨by omega, by omega⟩ (fun hc25 => absurd hc25 (by omega)) (fun hc25 => ?_)
      refine x_iload_n dX12_hold_28 x_get_12_2 ?_
      refine x_iload_n dX12_hold_29 x_get_12_3 ?_
      refine x_callS (As := [_]) dX12_hold_30 w_12_317 (m_bits hl hal) rfl rfl (Nat.le_of_ble_eq_true rfl) (Nat.le_of_ble_eq_true rfl) (Nat.le_of_ble_eq_true rfl) (Nat.le_of_ble_eq_true rfl) (Nat.le_of_ble_eq_true rfl) ?_
      intro dz hdz
      obtain rfl := Eq.symm hdz
      refine r_icmp_ge (t := 40) dX12_hold_33 rfl ⟨by omega, by omega⟩ ⟨by omega, by omega⟩ (fun hc33 => absurd hc33 (by omega)) (fun hc33 => ?_)
      refine x_iconst dX12_hold_36 ?_
      refine x_goto (t := 41) dX12_hold_37 rfl ?_
      refine x_iconst dX12_hold_41 ?_
      refine x_callV (As := [_, _]) dX12_hold_42 w_12_274 (m_rightT hl q0.1 t0) (by assumption) (by assumption) rfl rfl (Nat.le_of_ble_eq_true rfl) (Nat.le_of_ble_eq_true rfl) (Nat.le_of_ble_eq_true rfl) (Nat.le_of_ble_eq_true rfl) (Nat.le_of_ble_eq_true rfl) ?_
      intro dz hdz
      obtain rfl := Eq.symm hdz
      refine r_if_ne (t := 50) dX12_hold_45 rfl ⟨by omega, by omega⟩ (fun hc45 => ?_) (fun hc45 => absurd hc45 (by omega))
      refine x_aload_n dX12_hold_50 x_get_12_0 ?_
      refine x_iload_n dX12_hold_51 x_get_12_3 ?_
      refine x_callV (As := [_]) dX12_hold_52 w_12_411 (m_laysHold hl q0 hk (by omega) r0 hal hb) (by assumption) (by assumption) rfl rfl (Nat.le_of_ble_eq_true rfl) (Nat.le_of_ble_eq_true rfl) (Nat.le_of_ble_eq_true rfl) (Nat.le_of_ble_eq_true rfl) (Nat.le_of_ble_eq_true rfl) ?_
      rintro d1 ⟨A, hd1, hAo⟩
      have m1 : ms d0 d1 := by rw [hd1]; exact ms_88 (ms_rf v0)
      have q1 := ms_mq q0 m1
      have r1 := ms_mr hTb hCb m1 r0
      have e88 : d1 88 = A := by rw [hd1, x_up_s]
      have t1 : d1 62 0 = 0 := by rw [hd1, x_up_n (by decide)]; exact t0
      have hC1 : d1 62 3 = C := q1.2.2.2.2.2.1
      skip
      have hrow : 0 ≤ i → ∀ (n k : Nat) (set : Nat) (last : Int), (k : Int) + n = i + 1 → b_sub set al = 0 → n ≤ s_pop (b_sub al set) → -1 ≤ last → last < C → ∀ (le : Int) (o9 o10 o11 : Option Value), Q = o_i (k_holdn f n (b_sub al set) (k_lf f last (b_sub al set)) last) → x_W (X, l, yX12_hold, cX12_hold, 12, (some .int), x_room 5 0 0, 0, 0, (m_r Q), N, sh, (fun d => ms D d ∧ d 62 0 = m_k 1 Q), false, []) 139 [some (.ref (x_b X + 62)), some (.int (xI t)), some (.int (xI i)), some (.int (xI (al : Int))), some (.int (xI le)), some (.int (xI (set : Int))), some (.int (xI last)), some (.int (xI (k_lf f last (b_sub al set)))), some (.int (xI (k : Int))), o9, o10, o11] [] 0 0 false N sh d1 := by
        intro hi0 n
        induction n with
        | zero =>
          intro k set last hkn hss hnp hl0 hl1 le o9 o10 o11 hres
          refine x_iload dX12_hold_139 x_get_12_8 ?_
          refine x_iload_n dX12_hold_141 x_get_12_2 ?_
          refine r_icmp_gt (t := 287) dX12_hold_142 rfl ⟨by omega, by omega⟩ ⟨by omega, by omega⟩ (fun hc142 => ?_) (fun hc142 => absurd hc142 (by omega))
          refine x_iload dX12_hold_287 x_get_12_6 ?_
          exact x_iret dX12_hold_289 rfl (Nat.le_of_ble_eq_true rfl) (Nat.le_of_ble_eq_true rfl) (by rw [hres, m_r_i]; rfl) rfl rfl ⟨ms_tr ms0 m1, by rw [hres, m_k_i]; exact t1⟩ rfl
        | succ n ih =>
          intro k set last hkn hss hnp hl0 hl1 le o9 o10 o11 hres
          have hset : set < 1024 := Nat.lt_of_le_of_lt (b_sub0_le hss) hal
          have hrl : (b_sub al set) < 1024 := b_sub_lt hal
          have hr0 : ¬ (b_sub al set) = 0 := by intro h; rw [h, s_pop_0] at hnp; omega
          have hlfi : 0 ≤ k_lf f last (b_sub al set) ∧ k_lf f last (b_sub al set) ≤ 99 := by
            unfold k_lf
            split
            · exact k_harm_in hk _
            · exact k_behind_in hk (by omega) (by omega) _
          generalize hlf : k_lf f last (b_sub al set) = left at hres hlfi ⊢
          have fin : ∀ y : Int, h_df (fun c : Nat => (b_sub al set).testBit c = true ∧ k_last f last c + k_behind f (c : Int) (b_sub (b_sub al set) (2 ^ c)) = left) C 0 y → ∀ o10 o11 : Option Value, x_W (X, l, yX12_hold, cX12_hold, 12, (some .int), x_room 5 0 0, 0, 0, (m_r Q), N, sh, (fun d => ms D d ∧ d 62 0 = m_k 1 Q), false, []) 245 [some (.ref (x_b X + 62)), some (.int (xI t)), some (.int (xI i)), some (.int (xI (al : Int))), some (.int (xI le)), some (.int (xI (set : Int))), some (.int (xI last)), some (.int (xI left)), some (.int (xI (k : Int))), some (.int (xI y)), o10, o11] [] 0 0 false N sh d1 := by
            intro y hy o10 o11
            obtain ⟨d, hd1', hd2⟩ := k_lf_ex hk hl0 (show last < 10 by omega) hrl hr0
            have hdC : d < C := hb d (b_rbit.mp hd1').1
            obtain ⟨c, rfl, -, hcC, hPc, hmin⟩ : ∃ c : Nat, y = c ∧ 0 ≤ c ∧ c < C ∧ (fun c : Nat => (b_sub al set).testBit c = true ∧ k_last f last c + k_behind f (c : Int) (b_sub (b_sub al set) (2 ^ c)) = left) c ∧ ∀ e, 0 ≤ e → e < c → ¬ (fun c : Nat => (b_sub al set).testBit c = true ∧ k_last f last c + k_behind f (c : Int) (b_sub (b_sub al set) (2 ^ c)) = left) e := by
              rcases hy with ⟨-, h2⟩ | h
              · exact absurd ⟨hd1', by rw [hd2]; exact hlf⟩ (h2 d (Nat.zero_le _) hdC)
              · exact h
            obtain ⟨hc1, hc2⟩ := hPc
            have hfol : k_follow f (b_sub al set) last left = (c : Int) := by
              unfold k_follow
              refine x_first_hit (fun e he hh => ?_) ⟨hc1, by omega⟩ (by omega)
              have hge := k_lf_ge hk hl0 (show last < 10 by omega) hrl hh.1
              exact hmin e (Nat.zero_le _) he ⟨hh.1, by have := hh.2; omega⟩
            rw [k_holdn_s, hfol, if_neg (by omega), Int.toNat_natCast] at hres
            have hpop := s_pop_sub c (by omega) _ hrl hc1
            have hsb := b_rbit.mp hc1
            have hor := b_or_sub hss hsb.1
            have hrs : (b_sub al (set ||| 2 ^ c)) = b_sub (b_sub al set) (2 ^ c) := b_rest
            have hlf2 : left - k_last f last c = k_lf f (c : Int) (b_sub al (set ||| 2 ^ c)) := by
              rw [hrs]
              unfold k_lf
              rw [if_neg (by omega)]
              omega
            rw [← hrs] at hres hpop
            rw [hlf2] at hres
            have hlc : k_last f last c = if last = -1 then 0 else k_btw f last c := rfl
            refine x_iload dX12_hold_245 x_get_12_7 ?_
            refine x_iload dX12_hold_247 x_get_12_6 ?_
            refine x_iconst dX12_hold_249 ?_
            refine r_icmp_ne (t := 257) dX12_hold_250 rfl ⟨by omega, by omega⟩ ⟨by omega, by omega⟩ (fun hc250 => ?_) (fun hc250 => ?_)
            · refine x_aload_n dX12_hold_257 x_get_12_0 ?_
              refine x_iload dX12_hold_258 x_get_12_6 ?_
              refine x_iload dX12_hold_260 x_get_12_9 ?_
              refine x_callV (As := [_, _]) dX12_hold_262 w_12_408 (m_harms hl q1 hk (by omega) r1 (c := last) (d := (c : Int)) (by omega) hl1 (by omega) (by omega)) (by assumption) (by assumption) rfl rfl (Nat.le_of_ble_eq_true rfl) (Nat.le_of_ble_eq_true rfl) (Nat.le_of_ble_eq_true rfl) (Nat.le_of_ble_eq_true rfl) (Nat.le_of_ble_eq_true rfl) ?_
              intro dz hdz
              obtain rfl := Eq.symm hdz
              refine x_isub dX12_hold_265 ?_
              first | rw [show left - k_btw f last (c : Int) = k_lf f (c : Int) (b_sub al (set ||| 2 ^ c)) by rw [← hlf2, hlc, if_neg hc250]] | rw [show left - 0 = k_lf f (c : Int) (b_sub al (set ||| 2 ^ c)) by rw [← hlf2, hlc, if_pos hc250]]
              refine x_istore dX12_hold_266 (Nat.le_of_ble_eq_true rfl) rfl x_set_12_7 ?_
              refine x_iload dX12_hold_268 x_get_12_5 ?_
              refine x_iconst dX12_hold_270 ?_
              refine x_iload dX12_hold_271 x_get_12_9 ?_
              refine x_ishl dX12_hold_273 ?_
              refine x_ior dX12_hold_274 ?_
              rw [x_or_2 hset (by omega)]
              refine x_istore dX12_hold_275 (Nat.le_of_ble_eq_true rfl) rfl x_set_12_5 ?_
              refine x_iload dX12_hold_277 x_get_12_9 ?_
              refine x_istore dX12_hold_279 (Nat.le_of_ble_eq_true rfl) rfl x_set_12_6 ?_
              refine x_iinc dX12_hold_281 x_get_12_8 (Nat.le_of_ble_eq_true rfl) rfl x_set_12_8 ?_
              refine x_goto (t := 139) dX12_hold_284 rfl ?_
              exact ih (k + 1) (set ||| 2 ^ c) (c : Int) (by push_cast; omega) hor (by omega) (by omega) (by omega) le _ _ _ hres
            · refine x_iconst dX12_hold_253 ?_
              refine x_goto (t := 265) dX12_hold_254 rfl ?_
              refine x_isub dX12_hold_265 ?_
              first | rw [show left - k_btw f last (c : Int) = k_lf f (c : Int) (b_sub al (set ||| 2 ^ c)) by rw [← hlf2, hlc, if_neg hc250]] | rw [show left - 0 = k_lf f (c : Int) (b_sub al (set ||| 2 ^ c)) by rw [← hlf2, hlc, if_pos hc250]]
              refine x_istore dX12_hold_266 (Nat.le_of_ble_eq_true rfl) rfl x_set_12_7 ?_
              refine x_iload dX12_hold_268 x_get_12_5 ?_
              refine x_iconst dX12_hold_270 ?_
              refine x_iload dX12_hold_271 x_get_12_9 ?_
              refine x_ishl dX12_hold_273 ?_
              refine x_ior dX12_hold_274 ?_
              rw [x_or_2 hset (by omega)]
              refine x_istore dX12_hold_275 (Nat.le_of_ble_eq_true rfl) rfl x_set_12_5 ?_
              refine x_iload dX12_hold_277 x_get_12_9 ?_
              refine x_istore dX12_hold_279 (Nat.le_of_ble_eq_true rfl) rfl x_set_12_6 ?_
              refine x_iinc dX12_hold_281 x_get_12_8 (Nat.le_of_ble_eq_true rfl) rfl x_set_12_8 ?_
              refine x_goto (t := 139) dX12_hold_284 rfl ?_
              exact ih (k + 1) (set ||| 2 ^ c) (c : Int) (by push_cast; omega) hor (by omega) (by omega) (by omega) le _ _ _ hres
          have run : ∀ j : Nat, j ≤ C → ∀ y : Int, h_df (fun c : Nat => (b_sub al set).testBit c = true ∧ k_last f last c + k_behind f (c : Int) (b_sub (b_sub al set) (2 ^ c)) = left) C j y → ∀ o11 : Option Value, x_W (X, l, yX12_hold, cX12_hold, 12, (some .int), x_room 5 0 0, 0, 0, (m_r Q), N, sh, (fun d => ms D d ∧ d 62 0 = m_k 1 Q), false, []) 156 [some (.ref (x_b X + 62)), some (.int (xI t)), some (.int (xI i)), some (.int (xI (al : Int))), some (.int (xI le)), some (.int (xI (set : Int))), some (.int (xI last)), some (.int (xI left)), some (.int (xI (k : Int))), some (.int (xI y)), some (.int (xI ((j : Int) - 1))), o11] [] 0 0 false N sh d1 := by
            intro j
            induction j with
            | zero =>
              intro _ y hy o11
              refine x_iload dX12_hold_156 x_get_12_10 ?_
              refine r_if_lt (t := 245) dX12_hold_158 rfl ⟨by omega, by omega⟩ (fun hc158 => ?_) (fun hc158 => absurd hc158 (by omega))
              exact fin y hy _ _
            | succ j ih2 =>
              intro hj y hy o11
              have b1 := m_bt_in al j
              have b2 := m_bt_in set j
              have hyi := h_df_in hy
              have g2 : -1 ≤ last := hl0
              have g3 := k_behind_in hk (c := (j : Int)) (by omega) (by omega) (b_sub (b_sub al set) (2 ^ j))
              rw [show ((j + 1 : Nat) : Int) - 1 = (j : Int) by push_cast; omega]
              have next : ∀ y2 : Int, h_df (fun c : Nat => (b_sub al set).testBit c = true ∧ k_last f last c + k_behind f (c : Int) (b_sub (b_sub al set) (2 ^ c)) = left) C j y2 → ∀ o11 : Option Value, x_W (X, l, yX12_hold, cX12_hold, 12, (some .int), x_room 5 0 0, 0, 0, (m_r Q), N, sh, (fun d => ms D d ∧ d 62 0 = m_k 1 Q), false, []) 239 [some (.ref (x_b X + 62)), some (.int (xI t)), some (.int (xI i)), some (.int (xI (al : Int))), some (.int (xI le)), some (.int (xI (set : Int))), some (.int (xI last)), some (.int (xI left)), some (.int (xI (k : Int))), some (.int (xI y2)), some (.int (xI (j : Int))), o11] [] 0 0 false N sh d1 := by
                intro y2 hy2 o11
                refine x_iinc dX12_hold_239 x_get_12_10 (Nat.le_of_ble_eq_true rfl) rfl x_set_12_10 ?_
                refine x_goto (t := 156) dX12_hold_242 rfl ?_
                rw [show (j : Int) + -1 = (j : Int) - 1 by omega]
                exact ih2 (by omega) y2 hy2 _
              refine x_iload dX12_hold_156 x_get_12_10 ?_
              refine r_if_lt (t := 245) dX12_hold_158 rfl ⟨by omega, by omega⟩ (fun hc158 => absurd hc158 (by omega)) (fun hc158 => ?_)
              refine x_iload_n dX12_hold_161 x_get_12_3 ?_
              refine x_iload dX12_hold_162 x_get_12_10 ?_
              refine x_ishr dX12_hold_164 ?_
              refine x_iconst dX12_hold_165 ?_
              refine x_iand dX12_hold_166 ?_
              rw [m_sr hal (by omega)]
              refine r_if_eq (t := 239) dX12_hold_167 rfl ⟨by omega, by omega⟩ (fun hc167 => ?_) (fun hc167 => ?_)
              · first
                  | exact next _ (h_df_hit hy (by omega) ⟨hrb, by rw [hlc, if_neg hc187]; exact hc227⟩) _
                  | exact next _ (h_df_hit hy (by omega) ⟨hrb, by rw [hlc, if_pos hc187]; exact hc227⟩) _
                  | exact next _ (h_df_no hy (fun h => hc227 (by have h2 := h.2; rw [hlc, if_neg hc187] at h2; exact h2))) _
                  | exact next _ (h_df_no hy (fun h => hc227 (by have h2 := h.2; rw [hlc, if_pos hc187] at h2; exact h2))) _
                  | exact next _ (h_df_no hy (fun h => (b_rbit.mp h.1).2 (m_bt_1.mp hc178))) _
                  | exact next _ (h_df_no hy (fun h => absurd (m_bt_1.mpr (b_rbit.mp h.1).1) (by omega))) _
              · refine x_iload dX12_hold_170 x_get_12_5 ?_
                refine x_iload dX12_hold_172 x_get_12_10 ?_
                refine x_ishr dX12_hold_174 ?_
                refine x_iconst dX12_hold_175 ?_
                refine x_iand dX12_hold_176 ?_
                rw [m_sr hset (by omega)]
                refine x_iconst dX12_hold_177 ?_
                refine r_icmp_ne (t := 184) dX12_hold_178 rfl ⟨by omega, by omega⟩ ⟨by omega, by omega⟩ (fun hc178 => ?_) (fun hc178 => ?_)
                · have hnb : ¬ set.testBit j = true := fun h => hc178 (m_bt_1.mpr h)
                  have hab : al.testBit j = true := m_bt_1.mp (by omega)
                  have hrb := b_rbit.mpr ⟨hab, hnb⟩
                  have eA := hAo (set ||| 2 ^ j) (Nat.lt_of_le_of_lt (Nat.zero_le _) (b_or_gt hnb)) (b_or_sub hss hab) j (by omega)
                  rw [b_rest] at eA
                  have hol := b_or_lt (m := set) (c := j) hset (by omega)
                  have hlc : k_last f last j = if last = -1 then 0 else k_btw f last j := rfl
                  refine x_iload dX12_hold_184 x_get_12_6 ?_
                  refine x_iconst dX12_hold_186 ?_
                  refine r_icmp_ne (t := 194) dX12_hold_187 rfl ⟨by omega, by omega⟩ ⟨by omega, by omega⟩ (fun hc187 => ?_) (fun hc187 => ?_)
                  · have gb := k_btw_in hk (c := last) (by omega) (by omega) (d := (j : Int)) (by omega) (by omega)
                    refine x_aload_n dX12_hold_194 x_get_12_0 ?_
                    refine x_iload dX12_hold_195 x_get_12_6 ?_
                    refine x_iload dX12_hold_197 x_get_12_10 ?_
                    refine x_callV (As := [_, _]) dX12_hold_199 w_12_408 (m_harms hl q1 hk (by omega) r1 (c := last) (d := (j : Int)) (by omega) hl1 (by omega) (by omega)) (by assumption) (by assumption) rfl rfl (Nat.le_of_ble_eq_true rfl) (Nat.le_of_ble_eq_true rfl) (Nat.le_of_ble_eq_true rfl) (Nat.le_of_ble_eq_true rfl) (Nat.le_of_ble_eq_true rfl) ?_
                    intro dz hdz
                    obtain rfl := Eq.symm hdz
                    refine x_aload_n dX12_hold_202 x_get_12_0 ?_
                    refine x_getR dX12_hold_203 fX_12_93 n62 s62 (by rfl) ?_
                    refine x_bipush dX12_hold_206 rfl ?_
                    refine x_iload dX12_hold_208 x_get_12_5 ?_
                    refine x_iconst dX12_hold_210 ?_
                    refine x_iload dX12_hold_211 x_get_12_10 ?_
                    refine x_ishl dX12_hold_213 ?_
                    refine x_ior dX12_hold_214 ?_
                    rw [x_or_2 hset (by omega)]
                    refine x_imul dX12_hold_215 ?_
                    refine x_iload dX12_hold_216 x_get_12_10 ?_
                    refine x_iadd dX12_hold_218 ?_
                    refine x_iald dX12_hold_219 n88 s88 (by omega) (by omega) (by decide) ?_
                    rw [e88, eA]
                    refine x_iadd dX12_hold_220 ?_
                    refine x_istore dX12_hold_221 (Nat.le_of_ble_eq_true rfl) rfl x_set_12_11 ?_
                    refine x_iload dX12_hold_223 x_get_12_11 ?_
                    refine x_iload dX12_hold_225 x_get_12_7 ?_
                    refine r_icmp_ne (t := 235) dX12_hold_227 rfl ⟨by omega, by omega⟩ ⟨by omega, by omega⟩ (fun hc227 => ?_) (fun hc227 => ?_)
                    · refine x_iload dX12_hold_235 x_get_12_9 ?_
                      refine x_istore dX12_hold_237 (Nat.le_of_ble_eq_true rfl) rfl x_set_12_9 ?_
                      first
                        | exact next _ (h_df_hit hy (by omega) ⟨hrb, by rw [hlc, if_neg hc187]; exact hc227⟩) _
                        | exact next _ (h_df_hit hy (by omega) ⟨hrb, by rw [hlc, if_pos hc187]; exact hc227⟩) _
                        | exact next _ (h_df_no hy (fun h => hc227 (by have h2 := h.2; rw [hlc, if_neg hc187] at h2; exact h2))) _
                        | exact next _ (h_df_no hy (fun h => hc227 (by have h2 := h.2; rw [hlc, if_pos hc187] at h2; exact h2))) _
                        | exact next _ (h_df_no hy (fun h => (b_rbit.mp h.1).2 (m_bt_1.mp hc178))) _
                        | exact next _ (h_df_no hy (fun h => absurd (m_bt_1.mpr (b_rbit.mp h.1).1) (by omega))) _
                    · refine x_iload dX12_hold_230 x_get_12_10 ?_
                      refine x_goto (t := 237) dX12_hold_232 rfl ?_
                      refine x_istore dX12_hold_237 (Nat.le_of_ble_eq_true rfl) rfl x_set_12_9 ?_
                      first
                        | exact next _ (h_df_hit hy (by omega) ⟨hrb, by rw [hlc, if_neg hc187]; exact hc227⟩) _
                        | exact next _ (h_df_hit hy (by omega) ⟨hrb, by rw [hlc, if_pos hc187]; exact hc227⟩) _
                        | exact next _ (h_df_no hy (fun h => hc227 (by have h2 := h.2; rw [hlc, if_neg hc187] at h2; exact h2))) _
                        | exact next _ (h_df_no hy (fun h => hc227 (by have h2 := h.2; rw [hlc, if_pos hc187] at h2; exact h2))) _
                        | exact next _ (h_df_no hy (fun h => (b_rbit.mp h.1).2 (m_bt_1.mp hc178))) _
                        | exact next _ (h_df_no hy (fun h => absurd (m_bt_1.mpr (b_rbit.mp h.1).1) (by omega))) _
                  · refine x_iconst dX12_hold_190 ?_
                    refine x_goto (t := 202) dX12_hold_191 rfl ?_
                    refine x_aload_n dX12_hold_202 x_get_12_0 ?_
                    refine x_getR dX12_hold_203 fX_12_93 n62 s62 (by rfl) ?_
                    refine x_bipush dX12_hold_206 rfl ?_
                    refine x_iload dX12_hold_208 x_get_12_5 ?_
                    refine x_iconst dX12_hold_210 ?_
                    refine x_iload dX12_hold_211 x_get_12_10 ?_
                    refine x_ishl dX12_hold_213 ?_
                    refine x_ior dX12_hold_214 ?_
                    rw [x_or_2 hset (by omega)]
                    refine x_imul dX12_hold_215 ?_
                    refine x_iload dX12_hold_216 x_get_12_10 ?_
                    refine x_iadd dX12_hold_218 ?_
                    refine x_iald dX12_hold_219 n88 s88 (by omega) (by omega) (by decide) ?_
                    rw [e88, eA]
                    refine x_iadd dX12_hold_220 ?_
                    refine x_istore dX12_hold_221 (Nat.le_of_ble_eq_true rfl) rfl x_set_12_11 ?_
                    refine x_iload dX12_hold_223 x_get_12_11 ?_
                    refine x_iload dX12_hold_225 x_get_12_7 ?_
                    refine r_icmp_ne (t := 235) dX12_hold_227 rfl ⟨by omega, by omega⟩ ⟨by omega, by omega⟩ (fun hc227 => ?_) (fun hc227 => ?_)
                    · refine x_iload dX12_hold_235 x_get_12_9 ?_
                      refine x_istore dX12_hold_237 (Nat.le_of_ble_eq_true rfl) rfl x_set_12_9 ?_
                      first
                        | exact next _ (h_df_hit hy (by omega) ⟨hrb, by rw [hlc, if_neg hc187]; exact hc227⟩) _
                        | exact next _ (h_df_hit hy (by omega) ⟨hrb, by rw [hlc, if_pos hc187]; exact hc227⟩) _
                        | exact next _ (h_df_no hy (fun h => hc227 (by have h2 := h.2; rw [hlc, if_neg hc187] at h2; exact h2))) _
                        | exact next _ (h_df_no hy (fun h => hc227 (by have h2 := h.2; rw [hlc, if_pos hc187] at h2; exact h2))) _
                        | exact next _ (h_df_no hy (fun h => (b_rbit.mp h.1).2 (m_bt_1.mp hc178))) _
                        | exact next _ (h_df_no hy (fun h => absurd (m_bt_1.mpr (b_rbit.mp h.1).1) (by omega))) _
                    · refine x_iload dX12_hold_230 x_get_12_10 ?_
                      refine x_goto (t := 237) dX12_hold_232 rfl ?_
                      refine x_istore dX12_hold_237 (Nat.le_of_ble_eq_true rfl) rfl x_set_12_9 ?_
                      first
                        | exact next _ (h_df_hit hy (by omega) ⟨hrb, by rw [hlc, if_neg hc187]; exact hc227⟩) _
                        | exact next _ (h_df_hit hy (by omega) ⟨hrb, by rw [hlc, if_pos hc187]; exact hc227⟩) _
                        | exact next _ (h_df_no hy (fun h => hc227 (by have h2 := h.2; rw [hlc, if_neg hc187] at h2; exact h2))) _
                        | exact next _ (h_df_no hy (fun h => hc227 (by have h2 := h.2; rw [hlc, if_pos hc187] at h2; exact h2))) _
                        | exact next _ (h_df_no hy (fun h => (b_rbit.mp h.1).2 (m_bt_1.mp hc178))) _
                        | exact next _ (h_df_no hy (fun h => absurd (m_bt_1.mpr (b_rbit.mp h.1).1) (by omega))) _
                · refine x_goto (t := 239) dX12_hold_181 rfl ?_
                  first
                    | exact next _ (h_df_hit hy (by omega) ⟨hrb, by rw [hlc, if_neg hc187]; exact hc227⟩) _
                    | exact next _ (h_df_hit hy (by omega) ⟨hrb, by rw [hlc, if_pos hc187]; exact hc227⟩) _
                    | exact next _ (h_df_no hy (fun h => hc227 (by have h2 := h.2; rw [hlc, if_neg hc187] at h2; exact h2))) _
                    | exact next _ (h_df_no hy (fun h => hc227 (by have h2 := h.2; rw [hlc, if_pos hc187] at h2; exact h2))) _
                    | exact next _ (h_df_no hy (fun h => (b_rbit.mp h.1).2 (m_bt_1.mp hc178))) _
                    | exact next _ (h_df_no hy (fun h => absurd (m_bt_1.mpr (b_rbit.mp h.1).1) (by omega))) _
          refine x_iload dX12_hold_139 x_get_12_8 ?_
          refine x_iload_n dX12_hold_141 x_get_12_2 ?_
          refine r_icmp_gt (t := 287) dX12_hold_142 rfl ⟨by omega, by omega⟩ ⟨by omega, by omega⟩ (fun hc142 => absurd hc142 (by omega)) (fun hc142 => ?_)
          refine x_iconst dX12_hold_145 ?_
          refine x_istore dX12_hold_146 (Nat.le_of_ble_eq_true rfl) rfl x_set_12_9 ?_
          refine x_aload_n dX12_hold_148 x_get_12_0 ?_
          refine x_getI 3 dX12_hold_149 fX_12_287 rfl n62 s62 (by rfl) ?_
          try simp (disch := decide) only [x_up_s, x_up_n, x_up_up, x_u1_s, x_u1_n, hC1]
          refine x_iconst dX12_hold_152 ?_
          refine x_isub dX12_hold_153 ?_
          refine x_istore dX12_hold_154 (Nat.le_of_ble_eq_true rfl) rfl x_set_12_10 ?_
          exact run C (Nat.le_refl _) (-1) (Or.inl ⟨rfl, fun c h1 h2 => by omega⟩) _
      have hleast : ∀ c : Nat, c ≤ C → ∀ o6 o7 o8 o9 o10 o11 : Option Value, x_W (X, l, yX12_hold, cX12_hold, 12, (some .int), x_room 5 0 0, 0, 0, (m_r Q), N, sh, (fun d => ms D d ∧ d 62 0 = m_k 1 Q), false, []) 63 [some (.ref (x_b X + 62)), some (.int (xI t)), some (.int (xI i)), some (.int (xI (al : Int))), some (.int (xI (h_lm f al c))), some (.int (xI (c : Int))), o6, o7, o8, o9, o10, o11] [] 0 0 false N sh d1 := by
        refine x_down C ?_ ?_
        · intro o6 o7 o8 o9 o10 o11
          by_cases hi1 : i = -1
          · have hQ2 : Q = o_i (k_harm f al) := by rw [← hQ, if_pos hi1]
            by_cases ha0 : al = 0
            · have hz : (al : Int) = 0 := by omega
              refine x_iload dX12_hold_63 x_get_12_5 ?_
              refine x_aload_n dX12_hold_65 x_get_12_0 ?_
              refine x_getI 3 dX12_hold_66 fX_12_287 rfl n62 s62 (by rfl) ?_
              try simp (disch := decide) only [x_up_s, x_up_n, x_up_up, x_u1_s, x_u1_n, hC1]
              refine r_icmp_ge (t := 110) dX12_hold_69 rfl ⟨by omega, by omega⟩ ⟨by omega, by omega⟩ (fun hc69 => ?_) (fun hc69 => absurd hc69 (by omega))
              refine x_iload_n dX12_hold_110 x_get_12_2 ?_
              refine x_iconst dX12_hold_111 ?_
              refine r_icmp_ne (t := 126) dX12_hold_112 rfl ⟨by omega, by omega⟩ ⟨by omega, by omega⟩ (fun hc112 => absurd hc112 (by omega)) (fun hc112 => ?_)
              refine x_iload_n dX12_hold_115 x_get_12_3 ?_
              refine r_if_ne (t := 123) dX12_hold_116 rfl ⟨by omega, by omega⟩ (fun hc116 => absurd hc116 (by omega)) (fun hc116 => ?_)
              refine x_iconst dX12_hold_119 ?_
              refine x_goto (t := 125) dX12_hold_120 rfl ?_
              exact x_iret dX12_hold_125 rfl (Nat.le_of_ble_eq_true rfl) (Nat.le_of_ble_eq_true rfl) (by rw [hQ2, m_r_i, ha0, k_harm_0]) rfl rfl ⟨ms_tr ms0 m1, by rw [hQ2, m_k_i]; exact t1⟩ rfl
            · have hlq := h_lm_eq hk hal hb ha0
              rw [hlq]
              refine x_iload dX12_hold_63 x_get_12_5 ?_
              refine x_aload_n dX12_hold_65 x_get_12_0 ?_
              refine x_getI 3 dX12_hold_66 fX_12_287 rfl n62 s62 (by rfl) ?_
              try simp (disch := decide) only [x_up_s, x_up_n, x_up_up, x_u1_s, x_u1_n, hC1]
              refine r_icmp_ge (t := 110) dX12_hold_69 rfl ⟨by omega, by omega⟩ ⟨by omega, by omega⟩ (fun hc69 => ?_) (fun hc69 => absurd hc69 (by omega))
              refine x_iload_n dX12_hold_110 x_get_12_2 ?_
              refine x_iconst dX12_hold_111 ?_
              refine r_icmp_ne (t := 126) dX12_hold_112 rfl ⟨by omega, by omega⟩ ⟨by omega, by omega⟩ (fun hc112 => absurd hc112 (by omega)) (fun hc112 => ?_)
              refine x_iload_n dX12_hold_115 x_get_12_3 ?_
              refine r_if_ne (t := 123) dX12_hold_116 rfl ⟨by omega, by omega⟩ (fun hc116 => ?_) (fun hc116 => absurd hc116 (by omega))
              refine x_iload dX12_hold_123 x_get_12_4 ?_
              exact x_iret dX12_hold_125 rfl (Nat.le_of_ble_eq_true rfl) (Nat.le_of_ble_eq_true rfl) (by rw [hQ2, m_r_i]) rfl rfl ⟨ms_tr ms0 m1, by rw [hQ2, m_k_i]; exact t1⟩ rfl
          · have hi0 : 0 ≤ i := by omega
            have ha0 : ¬ al = 0 := by intro h; rw [h, s_pop_0] at hg; omega
            have hlq := h_lm_eq hk hal hb ha0
            rw [hlq]
            have hQ2 : Q = o_i (k_holdn f (i.toNat + 1) (b_sub al 0) (k_lf f (-1) (b_sub al 0)) (-1)) := by
              rw [← hQ, if_neg hi1, if_pos ⟨hi0, hg.2⟩, b_sub_0]
              rfl
            have hz : k_harm f al = k_lf f (-1) (b_sub al 0) := by rw [b_sub_0]; rfl
            refine x_iload dX12_hold_63 x_get_12_5 ?_
            refine x_aload_n dX12_hold_65 x_get_12_0 ?_
            refine x_getI 3 dX12_hold_66 fX_12_287 rfl n62 s62 (by rfl) ?_
            try simp (disch := decide) only [x_up_s, x_up_n, x_up_up, x_u1_s, x_u1_n, hC1]
            refine r_icmp_ge (t := 110) dX12_hold_69 rfl ⟨by omega, by omega⟩ ⟨by omega, by omega⟩ (fun hc69 => ?_) (fun hc69 => absurd hc69 (by omega))
            refine x_iload_n dX12_hold_110 x_get_12_2 ?_
            refine x_iconst dX12_hold_111 ?_
            refine r_icmp_ne (t := 126) dX12_hold_112 rfl ⟨by omega, by omega⟩ ⟨by omega, by omega⟩ (fun hc112 => ?_) (fun hc112 => absurd hc112 (by omega))
            refine x_iconst dX12_hold_126 ?_
            refine x_istore dX12_hold_127 (Nat.le_of_ble_eq_true rfl) rfl x_set_12_5 ?_
            refine x_iconst dX12_hold_129 ?_
            refine x_istore dX12_hold_130 (Nat.le_of_ble_eq_true rfl) rfl x_set_12_6 ?_
            refine x_iload dX12_hold_132 x_get_12_4 ?_
            refine x_istore dX12_hold_134 (Nat.le_of_ble_eq_true rfl) rfl x_set_12_7 ?_
            refine x_iconst dX12_hold_136 ?_
            refine x_istore dX12_hold_137 (Nat.le_of_ble_eq_true rfl) rfl x_set_12_8 ?_
            rw [hz]
            exact hrow hi0 (i.toNat + 1) 0 0 (-1) (by omega) b_0sub (by rw [b_sub_0]; omega) (by decide) (by omega) _ _ _ _ hQ2
        · intro c hc ih2 o6 o7 o8 o9 o10 o11
          have b1 := m_bt_in al c
          have g1 := h_lm_ge hk hal c
          have gh := k_harm_in hk al
          have g3 := k_behind_in hk (c := (c : Int)) (by omega) (by omega) (b_sub al (2 ^ c))
          have e := h_lm_s (f := f) (al := al) (c := c)
          refine x_iload dX12_hold_63 x_get_12_5 ?_
          refine x_aload_n dX12_hold_65 x_get_12_0 ?_
          refine x_getI 3 dX12_hold_66 fX_12_287 rfl n62 s62 (by rfl) ?_
          try simp (disch := decide) only [x_up_s, x_up_n, x_up_up, x_u1_s, x_u1_n, hC1]
          refine r_icmp_ge (t := 110) dX12_hold_69 rfl ⟨by omega, by omega⟩ ⟨by omega, by omega⟩ (fun hc69 => absurd hc69 (by omega)) (fun hc69 => ?_)
          refine x_iload_n dX12_hold_72 x_get_12_3 ?_
          refine x_iload dX12_hold_73 x_get_12_5 ?_
          refine x_ishr dX12_hold_75 ?_
          refine x_iconst dX12_hold_76 ?_
          refine x_iand dX12_hold_77 ?_
          rw [m_sr hal (by omega)]
          refine x_iconst dX12_hold_78 ?_
          refine r_icmp_ne (t := 104) dX12_hold_79 rfl ⟨by omega, by omega⟩ ⟨by omega, by omega⟩ (fun hc79 => ?_) (fun hc79 => ?_)
          · refine x_iinc dX12_hold_104 x_get_12_5 (Nat.le_of_ble_eq_true rfl) rfl x_set_12_5 ?_
            refine x_goto (t := 63) dX12_hold_107 rfl ?_
            first | (rw [if_pos hab] at e; rw [e] at ih2; exact ih2 _ _ _ _ _ _) | (have hz : ¬ al.testBit c = true := (fun h => hc79 (m_bt_1.mpr h)); rw [if_neg hz] at e; rw [e] at ih2; exact ih2 _ _ _ _ _ _)
          · have hab := m_bt_1.mp hc79
            have eA := hAo (2 ^ c) (Nat.two_pow_pos c) (b_pow_sub hab) c hc
            have hpc : 2 ^ c < 1024 := Nat.lt_of_lt_of_le (Nat.pow_lt_pow_right (a := 2) (by decide) (show c < 10 by omega)) (by decide)
            obtain ⟨pw, hpw⟩ : ∃ pw, pw = 2 ^ c := ⟨_, rfl⟩
            rw [← hpw] at eA hpc e g3
            refine x_iload dX12_hold_82 x_get_12_4 ?_
            refine x_aload_n dX12_hold_84 x_get_12_0 ?_
            refine x_getR dX12_hold_85 fX_12_93 n62 s62 (by rfl) ?_
            refine x_bipush dX12_hold_88 rfl ?_
            refine x_iconst dX12_hold_90 ?_
            refine x_iload dX12_hold_91 x_get_12_5 ?_
            refine x_ishl dX12_hold_93 ?_
            rw [x_sl1 c (by omega), ← hpw]
            refine x_imul dX12_hold_94 ?_
            refine x_iload dX12_hold_95 x_get_12_5 ?_
            refine x_iadd dX12_hold_97 ?_
            refine x_iald dX12_hold_98 n88 s88 (by omega) (by omega) (by decide) ?_
            rw [e88, eA]
            refine x_callS (As := [_, _]) dX12_hold_99 w_12_323 (m_lesser hl ⟨by omega, by omega⟩ ⟨by omega, by omega⟩) rfl rfl (Nat.le_of_ble_eq_true rfl) (Nat.le_of_ble_eq_true rfl) (Nat.le_of_ble_eq_true rfl) (Nat.le_of_ble_eq_true rfl) (Nat.le_of_ble_eq_true rfl) ?_
            intro dz hdz
            obtain rfl := Eq.symm hdz
            refine x_istore dX12_hold_102 (Nat.le_of_ble_eq_true rfl) rfl x_set_12_4 ?_
            refine x_iinc dX12_hold_104 x_get_12_5 (Nat.le_of_ble_eq_true rfl) rfl x_set_12_5 ?_
            refine x_goto (t := 63) dX12_hold_107 rfl ?_
            first | (rw [if_pos hab] at e; rw [e] at ih2; exact ih2 _ _ _ _ _ _) | (have hz : ¬ al.testBit c = true := (fun h => hc79 (m_bt_1.mpr h)); rw [if_neg hz] at e; rw [e] at ih2; exact ih2 _ _ _ _ _ _)
      refine x_ldcw (z := 99999) dX12_hold_55 k_RX12_395 ?_
      refine x_istore dX12_hold_58 (Nat.le_of_ble_eq_true rfl) rfl x_set_12_4 ?_
      refine x_iconst dX12_hold_60 ?_
      refine x_istore dX12_hold_61 (Nat.le_of_ble_eq_true rfl) rfl x_set_12_5 ?_
      exact hleast 0 (Nat.zero_le _) _ _ _ _ _ _
    · have hQ : (if i = -1 then o_i (k_harm f al) else if 0 ≤ i ∧ i < ((s_pop al : Nat) : Int) then o_i (k_holdn f (i.toNat + 1) al (k_harm f al) (-1)) else .inr x_NSE) = .inr x_NSE := by rw [if_neg (by omega), if_neg (by omega)]
      rw [hQ]
      refine x_ofW (by decide +kernel) hl (by simp [Value.category]) (by simp) ?_
      refine x_aload_n dX12_hold_0 x_get_12_0 ?_
      refine x_iconst dX12_hold_1 ?_
      refine x_putI 0 dX12_hold_2 fX_12_117 rfl tX_12_0 n62 s62 (by rfl) ?_
      have z0 := m_go0 hq hr hv84
      generalize x_up D 62 (x_u1 (D 62) 0 0) = d0 at z0 ⊢
      obtain ⟨q0, t0, ms0, r0, v0⟩ := z0
      refine x_aload_n dX12_hold_5 x_get_12_0 ?_
      refine x_iload_n dX12_hold_6 x_get_12_1 ?_
      refine x_callV (As := [_]) dX12_hold_7 w_12_362 (m_isTownT hl q0 t0 ht) (by assumption) (by assumption) rfl rfl (Nat.le_of_ble_eq_true rfl) (Nat.le_of_ble_eq_true rfl) (Nat.le_of_ble_eq_true rfl) (Nat.le_of_ble_eq_true rfl) (Nat.le_of_ble_eq_true rfl) ?_
      intro dz hdz
      obtain rfl := Eq.symm hdz
      refine r_if_ne (t := 15) dX12_hold_10 rfl ⟨by omega, by omega⟩ (fun hc10 => ?_) (fun hc10 => absurd hc10 (by omega))
      refine x_aload_n dX12_hold_15 x_get_12_0 ?_
      refine x_iconst dX12_hold_16 ?_
      refine x_iload_n dX12_hold_17 x_get_12_1 ?_
      refine x_callV (As := [_, _]) dX12_hold_18 w_12_314 (m_lyingIn hl q0 hk (by omega) (Or.inl rfl) r0 ht0 (by omega)) (by assumption) (by assumption) rfl rfl (Nat.le_of_ble_eq_true rfl) (Nat.le_of_ble_eq_true rfl) (Nat.le_of_ble_eq_true rfl) (Nat.le_of_ble_eq_true rfl) (Nat.le_of_ble_eq_true rfl) ?_
      intro dz hdz
      obtain rfl := Eq.symm hdz
      rw [hA]
      refine x_istore_n dX12_hold_21 (Nat.le_of_ble_eq_true rfl) rfl x_set_12_3 ?_
      refine x_aload_n dX12_hold_22 x_get_12_0 ?_
      refine x_iload_n dX12_hold_23 x_get_12_2 ?_
      refine x_iconst dX12_hold_24 ?_
      refine r_icmp_lt (t := 40) dX12_hold_25 rfl ⟨by omega, by omega⟩ ⟨by omega, by omega⟩ (fun hc25 => ?_) (fun hc25 => ?_)
      · refine x_iconst dX12_hold_40 ?_
        refine x_iconst dX12_hold_41 ?_
        refine x_callV (As := [_, _]) dX12_hold_42 w_12_274 (m_rightF hl q0.1 t0 (by decide) (by decide)) (by assumption) (by assumption) rfl rfl (Nat.le_of_ble_eq_true rfl) (Nat.le_of_ble_eq_true rfl) (Nat.le_of_ble_eq_true rfl) (Nat.le_of_ble_eq_true rfl) (Nat.le_of_ble_eq_true rfl) ?_
        intro dz hdz
        obtain rfl := Eq.symm hdz
        refine r_if_ne (t := 50) dX12_hold_45 rfl ⟨by omega, by omega⟩ (fun hc45 => absurd hc45 (by omega)) (fun hc45 => ?_)
        refine x_iconst dX12_hold_48 ?_
        exact x_iret dX12_hold_49 rfl (Nat.le_of_ble_eq_true rfl) (Nat.le_of_ble_eq_true rfl) rfl rfl rfl ⟨ms_thr ms0, by rw [x_up_s, x_u1_s, m_k_N]⟩ rfl
      · refine x_iload_n dX12_hold_28 x_get_12_2 ?_
        refine x_iload_n dX12_hold_29 x_get_12_3 ?_
        refine x_callS (As := [_]) dX12_hold_30 w_12_317 (m_bits hl hal) rfl rfl (Nat.le_of_ble_eq_true rfl) (Nat.le_of_ble_eq_true rfl) (Nat.le_of_ble_eq_true rfl) (Nat.le_of_ble_eq_true rfl) (Nat.le_of_ble_eq_true rfl) ?_
        intro dz hdz
        obtain rfl := Eq.symm hdz
        refine r_icmp_ge (t := 40) dX12_hold_33 rfl ⟨by omega, by omega⟩ ⟨by omega, by omega⟩ (fun hc33 => ?_) (fun hc33 => absurd hc33 (by omega))
        refine x_iconst dX12_hold_40 ?_
        refine x_iconst dX12_hold_41 ?_
        refine x_callV (As := [_, _]) dX12_hold_42 w_12_274 (m_rightF hl q0.1 t0 (by decide) (by decide)) (by assumption) (by assumption) rfl rfl (Nat.le_of_ble_eq_true rfl) (Nat.le_of_ble_eq_true rfl) (Nat.le_of_ble_eq_true rfl) (Nat.le_of_ble_eq_true rfl) (Nat.le_of_ble_eq_true rfl) ?_
        intro dz hdz
        obtain rfl := Eq.symm hdz
        refine r_if_ne (t := 50) dX12_hold_45 rfl ⟨by omega, by omega⟩ (fun hc45 => absurd hc45 (by omega)) (fun hc45 => ?_)
        refine x_iconst dX12_hold_48 ?_
        exact x_iret dX12_hold_49 rfl (Nat.le_of_ble_eq_true rfl) (Nat.le_of_ble_eq_true rfl) rfl rfl rfl ⟨ms_thr ms0, by rw [x_up_s, x_u1_s, m_k_N]⟩ rfl
  · rw [if_neg ht]
    refine x_ofW (by decide +kernel) hl (by simp [Value.category]) (by simp) ?_
    refine x_aload_n dX12_hold_0 x_get_12_0 ?_
    refine x_iconst dX12_hold_1 ?_
    refine x_putI 0 dX12_hold_2 fX_12_117 rfl tX_12_0 n62 s62 (by rfl) ?_
    have z0 := m_go0 hq hr hv84
    generalize x_up D 62 (x_u1 (D 62) 0 0) = d0 at z0 ⊢
    obtain ⟨q0, t0, ms0, r0, v0⟩ := z0
    refine x_aload_n dX12_hold_5 x_get_12_0 ?_
    refine x_iload_n dX12_hold_6 x_get_12_1 ?_
    refine x_callV (As := [_]) dX12_hold_7 w_12_362 (m_isTownF hl q0 t0 htr ht) (by assumption) (by assumption) rfl rfl (Nat.le_of_ble_eq_true rfl) (Nat.le_of_ble_eq_true rfl) (Nat.le_of_ble_eq_true rfl) (Nat.le_of_ble_eq_true rfl) (Nat.le_of_ble_eq_true rfl) ?_
    intro dz hdz
    obtain rfl := Eq.symm hdz
    refine r_if_ne (t := 15) dX12_hold_10 rfl ⟨by omega, by omega⟩ (fun hc10 => absurd hc10 (by omega)) (fun hc10 => ?_)
    refine x_iconst dX12_hold_13 ?_
    exact x_iret dX12_hold_14 rfl (Nat.le_of_ble_eq_true rfl) (Nat.le_of_ble_eq_true rfl) rfl rfl rfl ⟨ms_thr ms0, by rw [x_up_s, x_u1_s, m_k_N]⟩ rfl
end M81
