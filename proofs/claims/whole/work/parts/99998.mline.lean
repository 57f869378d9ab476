section M99998
/-! ===== the Model's lines: any line ===== -/
theorem w_12_256 : x_cv RX12 256 yX12_readsTown cX12_readsTown 2 (none) 12 0 := ⟨⟨_, rfl, rfl⟩, (x_in 1586 (by decide +kernel) rfl), (x_in 1588 (by decide +kernel) rfl), (x_in 23 (by decide +kernel) rfl), (x_in 90 (by decide +kernel) rfl), (x_in 1589 (by decide +kernel) rfl), by decide, ⟨by decide +kernel, by decide +kernel, by decide +kernel⟩⟩
theorem w_12_259 : x_cv RX12 259 yX12_readsWay cX12_readsWay 2 (none) 12 0 := ⟨⟨_, rfl, rfl⟩, (x_in 1598 (by decide +kernel) rfl), (x_in 1600 (by decide +kernel) rfl), (x_in 26 (by decide +kernel) rfl), (x_in 90 (by decide +kernel) rfl), (x_in 1601 (by decide +kernel) rfl), by decide, ⟨by decide +kernel, by decide +kernel, by decide +kernel⟩⟩
theorem w_12_262 : x_cv RX12 262 yX12_readsCrate cX12_readsCrate 3 (none) 12 1 := ⟨⟨_, rfl, rfl⟩, (x_in 1614 (by decide +kernel) rfl), (x_in 1616 (by decide +kernel) rfl), (x_in 30 (by decide +kernel) rfl), (x_in 90 (by decide +kernel) rfl), (x_in 1617 (by decide +kernel) rfl), by decide, ⟨by decide +kernel, by decide +kernel, by decide +kernel⟩⟩
theorem w_12_268 : x_cv RX12 268 yX12_expression cX12_expression 3 (none) 12 0 := ⟨⟨_, rfl, rfl⟩, (x_in 1618 (by decide +kernel) rfl), (x_in 1620 (by decide +kernel) rfl), (x_in 31 (by decide +kernel) rfl), (x_in 90 (by decide +kernel) rfl), (x_in 1621 (by decide +kernel) rfl), by decide, ⟨by decide +kernel, by decide +kernel, by decide +kernel⟩⟩
theorem w_12_271 : x_cv RX12 271 yX12_need cX12_need 2 (none) 12 1 := ⟨⟨_, rfl, rfl⟩, (x_in 1664 (by decide +kernel) rfl), (x_in 1666 (by decide +kernel) rfl), (x_in 41 (by decide +kernel) rfl), (x_in 90 (by decide +kernel) rfl), (x_in 1667 (by decide +kernel) rfl), by decide, ⟨by decide +kernel, by decide +kernel, by decide +kernel⟩⟩
theorem ml_gf {lb : Nat} {S : Tx} {D d : xM} (hm : ml lb S D) (h : gf D d) : ml lb S d := by
  obtain ⟨⟨a1, a2, a3⟩, a4, a5, a6, a7⟩ := hm
  refine ⟨⟨by rw [h.2 25 (by decide)]; exact a1, by rw [h.2 26 (by decide)]; exact a2, by rw [h.2 27 (by decide)]; exact a3⟩, ?_, ?_, ?_, ?_⟩
  · rw [h.1 72 (by decide), h.1 73 (by decide)]; exact a4
  · rw [h.1 74 (by decide), h.1 75 (by decide), h.1 76 (by decide), h.1 77 (by decide)]; exact a5
  · rw [h.1 78 (by decide)]; exact a6
  · exact od_of (S1 := S.1) a7 (h.2 28 (by decide)) (h.2 29 (by decide)) (h.1 79 (by decide))
theorem ml_od {lb : Nat} {S : Tx} {D d e : xM} {L : List Int} (hm : ml lb S D) (h : gf D d) (hx : xf (x_up d 62 (x_u1 (d 62) 28 0)) e) (h1 : e 62 29 = ((cod L ++ [0]).length : Nat)) (h2 : ecl (cod L ++ [0]) (e 79)) (h3 : (cod L ++ [0]).length ≤ 1400) : ml lb (S.1, some L) e := by
  obtain ⟨⟨a1, a2, a3⟩, a4, a5, a6, a7⟩ := hm
  have hj : ∀ j, 72 ≤ j → j ≤ 78 → e j = D j := fun j u v => by rw [hx.1 j (by omega) (by omega) (by omega) (by omega), x_up_n (by omega)]; exact h.1 j (by omega)
  have hi : ∀ i : Int, 25 ≤ i → i ≤ 27 → e 62 i = D 62 i := fun i u v => by rw [hx.2.1 i (by omega) (by omega) (by omega) (by omega) (by omega) (by omega), x_up_s, x_u1_n (by omega)]; exact h.2 i (by omega)
  refine ⟨⟨by rw [hi 25 (by decide) (by decide)]; exact a1, by rw [hi 26 (by decide) (by decide)]; exact a2, by rw [hi 27 (by decide) (by decide)]; exact a3⟩, ?_, ?_, ?_, ?_, h1, h2, h3⟩
  · rw [hj 72 (by decide) (by decide), hj 73 (by decide) (by decide)]; exact a4
  · rw [hj 74 (by decide) (by decide), hj 75 (by decide) (by decide), hj 76 (by decide) (by decide), hj 77 (by decide) (by decide)]; exact a5
  · rw [hj 78 (by decide) (by decide)]; exact a6
  · show e 62 28 = 0
    rw [hx.2.1 28 (by decide) (by decide) (by decide) (by decide) (by decide) (by decide), x_up_s, x_u1_s]
theorem m_signA {X : xC} {l : Launch} (hl : l.stackTraces = false) {N : Nat} {sh : xS} {D : xM} (hM : is_Md N sh) {c : Int} : x_M X l yX12_isSign cX12_isSign 2 (some .boolean) 0 0 0 [.ref (x_b X + 62), .int (xI c)] false N sh D (.inl (some (.int (xI (x_B (x_n (D 62 19) = x_n 3 ∧ x_n (D 62 23) = x_n c)))))) false N sh (x_is (D)) := by
  have s62 := md_62 hM
  have n62 : 62 < N := md_n hM (by decide)
  refine x_ofW (by decide +kernel) hl (by simp [Value.category]) (by simp) ?_
  refine x_aload_n dX12_isSign_0 x_get_2_0 ?_
  refine x_getI 19 dX12_isSign_1 fX_12_150 rfl n62 s62 (by rfl) ?_
  try simp (disch := decide) only [x_up_s, x_up_n, x_up_up, x_u1_s, x_u1_n]
  refine x_iconst dX12_isSign_4 ?_
  refine x_icmp_ne (t := 20) dX12_isSign_5 rfl (fun hc5 => ?_) (fun hc5 => ?_)
  · refine x_iconst dX12_isSign_20 ?_
    exact x_zret dX12_isSign_21 rfl (by omega) (Nat.le_of_ble_eq_true rfl) (Nat.le_of_ble_eq_true rfl) (by first | (rw [x_B, if_pos ⟨hc5, hc13⟩]; done) | (rw [x_B, if_neg (fun h => hc5 h.1)]; done) | (rw [x_B, if_neg (fun h => hc13 h.2)]; done)) rfl rfl rfl rfl
  · refine x_aload_n dX12_isSign_8 x_get_2_0 ?_
    refine x_getI 23 dX12_isSign_9 fX_12_147 rfl n62 s62 (by rfl) ?_
    try simp (disch := decide) only [x_up_s, x_up_n, x_up_up, x_u1_s, x_u1_n]
    refine x_iload_n dX12_isSign_12 x_get_2_1 ?_
    refine x_icmp_ne (t := 20) dX12_isSign_13 rfl (fun hc13 => ?_) (fun hc13 => ?_)
    · refine x_iconst dX12_isSign_20 ?_
      exact x_zret dX12_isSign_21 rfl (by omega) (Nat.le_of_ble_eq_true rfl) (Nat.le_of_ble_eq_true rfl) (by first | (rw [x_B, if_pos ⟨hc5, hc13⟩]; done) | (rw [x_B, if_neg (fun h => hc5 h.1)]; done) | (rw [x_B, if_neg (fun h => hc13 h.2)]; done)) rfl rfl rfl rfl
    · refine x_iconst dX12_isSign_16 ?_
      refine x_goto (t := 21) dX12_isSign_17 rfl ?_
      exact x_zret dX12_isSign_21 rfl (by omega) (Nat.le_of_ble_eq_true rfl) (Nat.le_of_ble_eq_true rfl) (by first | (rw [x_B, if_pos ⟨hc5, hc13⟩]; done) | (rw [x_B, if_neg (fun h => hc5 h.1)]; done) | (rw [x_B, if_neg (fun h => hc13 h.2)]; done)) rfl rfl rfl rfl
set_option maxHeartbeats 1500000 in
theorem ln_e {X : xC} {l : Launch} (hl : l.stackTraces = false) {N : Nat} {sh : xS} {D : xM} (hM : is_Md N sh) {b : Int → Int} {n q lb : Nat} {S : Tx} {d : xM} {v : Int} (h : mlp b n lb (r_ln1 b n lb S q) D d) : x_W (X, l, yX12_line, cX12_line, 2, none, x_room 6 0 0, 0, 0, (.inl none), N, sh, (mlp b n lb (r_lin b n lb S q) D), false, []) 112 [some (.ref (x_b X + 62)), some (.int (xI v))] [] 0 0 false N sh d := by
  have s62 := md_62 hM
  have n62 : 62 < N := md_n hM (by decide)
  obtain ⟨r, hr⟩ : ∃ r, r_ln1 b n lb S q = r := ⟨_, rfl⟩
  rw [hr] at h
  cases r with
  | inl z =>
    rw [show r_lin b n lb S q = .inl z by unfold r_lin; rw [hr]; rfl]
    have h : fz b n z D d := h
    refine x_aload_n dX12_line_112 x_get_2_0 ?_
    refine x_aload_n dX12_line_113 x_get_2_0 ?_
    refine x_bipush dX12_line_114 rfl ?_
    refine x_callV (As := [_]) dX12_line_116 w_12_211 (m_signA hl hM) (by assumption) (by assumption) rfl rfl (Nat.le_of_ble_eq_true rfl) (Nat.le_of_ble_eq_true rfl) (Nat.le_of_ble_eq_true rfl) (Nat.le_of_ble_eq_true rfl) (Nat.le_of_ble_eq_true rfl) ?_
    intro d hd
    obtain rfl := Eq.symm hd
    refine x_callV (As := [_]) dX12_line_119 w_12_271 (m_needF hl hM h.2.2.1 h.2.1) (by assumption) (by assumption) rfl rfl (Nat.le_of_ble_eq_true rfl) (Nat.le_of_ble_eq_true rfl) (Nat.le_of_ble_eq_true rfl) (Nat.le_of_ble_eq_true rfl) (Nat.le_of_ble_eq_true rfl) ?_
    intro d hd
    obtain rfl := Eq.symm hd
    exact x_vret dX12_line_122 rfl (Nat.le_of_ble_eq_true rfl) (Nat.le_of_ble_eq_true rfl) rfl rfl rfl h rfl
  | inr w =>
    obtain ⟨S2, q2⟩ := w
    obtain ⟨h1, h2, h3, h4⟩ : lf D d ∧ gs b n q2 d ∧ d 62 14 = 0 ∧ ml lb S2 d := h
    have hs := m_sign (X := X) (l := l) hl hM h2 (c := 59) (by decide)
    by_cases h59 : tM b n q2 59
    · rw [show r_lin b n lb S q = .inr (S2, tE b n q2) by unfold r_lin; rw [hr]; exact if_pos h59]
      rw [show x_B (tM b n q2 59) = 1 from if_pos h59] at hs
      refine x_aload_n dX12_line_112 x_get_2_0 ?_
      refine x_aload_n dX12_line_113 x_get_2_0 ?_
      refine x_bipush dX12_line_114 rfl ?_
      refine x_callV (As := [_]) dX12_line_116 w_12_211 (hs) (by assumption) (by assumption) rfl rfl (Nat.le_of_ble_eq_true rfl) (Nat.le_of_ble_eq_true rfl) (Nat.le_of_ble_eq_true rfl) (Nat.le_of_ble_eq_true rfl) (Nat.le_of_ble_eq_true rfl) ?_
      intro d hd
      obtain rfl := Eq.symm hd
      refine x_callV (As := [_]) dX12_line_119 w_12_271 (m_needT hl hM h2 h3) (by assumption) (by assumption) rfl rfl (Nat.le_of_ble_eq_true rfl) (Nat.le_of_ble_eq_true rfl) (Nat.le_of_ble_eq_true rfl) (Nat.le_of_ble_eq_true rfl) (Nat.le_of_ble_eq_true rfl) ?_
      rintro e ⟨g1, g2⟩
      exact x_vret dX12_line_122 rfl (Nat.le_of_ble_eq_true rfl) (Nat.le_of_ble_eq_true rfl) rfl rfl rfl ⟨lf_tr h1 (lf_gf g2), g1, by rw [g2.2 14 (by decide)]; exact h3, ml_gf h4 g2⟩ rfl
    · rw [show r_lin b n lb S q = .inl (1, q2) by unfold r_lin; rw [hr]; exact if_neg h59]
      rw [show x_B (tM b n q2 59) = 0 from if_neg h59] at hs
      refine x_aload_n dX12_line_112 x_get_2_0 ?_
      refine x_aload_n dX12_line_113 x_get_2_0 ?_
      refine x_bipush dX12_line_114 rfl ?_
      refine x_callV (As := [_]) dX12_line_116 w_12_211 (hs) (by assumption) (by assumption) rfl rfl (Nat.le_of_ble_eq_true rfl) (Nat.le_of_ble_eq_true rfl) (Nat.le_of_ble_eq_true rfl) (Nat.le_of_ble_eq_true rfl) (Nat.le_of_ble_eq_true rfl) ?_
      intro d hd
      obtain rfl := Eq.symm hd
      refine x_callV (As := [_]) dX12_line_119 w_12_271 (m_needN hl hM h2 h3) (by assumption) (by assumption) rfl rfl (Nat.le_of_ble_eq_true rfl) (Nat.le_of_ble_eq_true rfl) (Nat.le_of_ble_eq_true rfl) (Nat.le_of_ble_eq_true rfl) (Nat.le_of_ble_eq_true rfl) ?_
      intro e he
      exact x_vret dX12_line_122 rfl (Nat.le_of_ble_eq_true rfl) (Nat.le_of_ble_eq_true rfl) rfl rfl rfl (fz_of h1 he (show (1 : Int) ≤ 1 ∧ (1 : Int) ≤ 5 by decide)) rfl
set_option maxHeartbeats 1500000 in
theorem ml_line {X : xC} {l : Launch} (hl : l.stackTraces = false) {N : Nat} {sh : xS} {D : xM} (hM : is_Md N sh) {b : Int → Int} {n q lb : Nat} {S : Tx} (hv : sv lb S.1) (hm : ml lb S D) (hg : gs b n q D) (h14 : D 62 14 = 0) : x_M X l yX12_line cX12_line 2 (none) 6 0 0 [.ref (x_b X + 62)] false N sh D (.inl none) false N sh (mlp b n lb (r_lin b n lb S q) D) := by
  have s62 := md_62 hM
  have n62 : 62 < N := md_n hM (by decide)
  obtain ⟨e0, e1, e2⟩ := tE_in (b := b) hg.2.1
  have hkn := m_known (X := X) (l := l) hl hM hg
  have hki := kw_in (b := b) (n := n) (q := q)
  have k6 := kw_eq (b := b) (n := n) (q := q) (k := 6) (by decide)
  have k7 := kw_eq (b := b) (n := n) (q := q) (k := 7) (by decide)
  have k8 := kw_eq (b := b) (n := n) (q := q) (k := 8) (by decide)
  have k9 := kw_eq (b := b) (n := n) (q := q) (k := 9) (by decide)
  have k11 := kw_eq (b := b) (n := n) (q := q) (k := 11) (by decide)
  obtain ⟨k, hk⟩ : ∃ k, kw b n q = k := ⟨_, rfl⟩
  rw [hk] at hkn hki k6 k7 k8 k9 k11
  have k6 : k = 6 ↔ tW b n q 1 := k6
  have k7 : k = 7 ↔ tW b n q 2 := k7
  have k8 : k = 8 ↔ tW b n q 3 := k8
  have k9 : k = 9 ↔ tW b n q 4 := k9
  have k11 : k = 11 ↔ tW b n q 6 := k11
  refine x_ofW (by decide +kernel) hl (by simp [Value.category]) (by simp) ?_
  by_cases w1 : tW b n q 1
  · have hk6 := k6.mpr w1
    subst hk6
    refine x_aload_n dX12_line_0 x_get_2_0 ?_
    refine x_callV (As := []) dX12_line_1 w_12_204 (hkn) (by assumption) (by assumption) rfl rfl (Nat.le_of_ble_eq_true rfl) (Nat.le_of_ble_eq_true rfl) (Nat.le_of_ble_eq_true rfl) (Nat.le_of_ble_eq_true rfl) (Nat.le_of_ble_eq_true rfl) ?_
    intro d hd
    obtain rfl := Eq.symm hd
    refine x_istore_n dX12_line_4 (Nat.le_of_ble_eq_true rfl) rfl x_set_2_1 ?_
    refine x_iload_n dX12_line_5 x_get_2_1 ?_
    refine x_bipush dX12_line_6 rfl ?_
    refine r_icmp_ne (t := 18) dX12_line_8 rfl ⟨by omega, by omega⟩ ⟨by omega, by omega⟩ (fun hc8 => absurd hc8 (by omega)) (fun hc8 => ?_)
    refine x_aload_n dX12_line_11 x_get_2_0 ?_
    refine x_callV (As := []) dX12_line_12 w_12_256 (ml_town hl hM hv hm hg h14) (by assumption) (by assumption) rfl rfl (Nat.le_of_ble_eq_true rfl) (Nat.le_of_ble_eq_true rfl) (Nat.le_of_ble_eq_true rfl) (Nat.le_of_ble_eq_true rfl) (Nat.le_of_ble_eq_true rfl) ?_
    intro d hd
    refine x_goto (t := 112) dX12_line_15 rfl ?_
    exact ln_e hl hM (by unfold r_ln1; rw [if_pos w1]; exact hd)
  by_cases w2 : tW b n q 2
  · have hk7 := k7.mpr w2
    subst hk7
    refine x_aload_n dX12_line_0 x_get_2_0 ?_
    refine x_callV (As := []) dX12_line_1 w_12_204 (hkn) (by assumption) (by assumption) rfl rfl (Nat.le_of_ble_eq_true rfl) (Nat.le_of_ble_eq_true rfl) (Nat.le_of_ble_eq_true rfl) (Nat.le_of_ble_eq_true rfl) (Nat.le_of_ble_eq_true rfl) ?_
    intro d hd
    obtain rfl := Eq.symm hd
    refine x_istore_n dX12_line_4 (Nat.le_of_ble_eq_true rfl) rfl x_set_2_1 ?_
    refine x_iload_n dX12_line_5 x_get_2_1 ?_
    refine x_bipush dX12_line_6 rfl ?_
    refine r_icmp_ne (t := 18) dX12_line_8 rfl ⟨by omega, by omega⟩ ⟨by omega, by omega⟩ (fun hc8 => ?_) (fun hc8 => absurd hc8 (by omega))
    refine x_iload_n dX12_line_18 x_get_2_1 ?_
    refine x_bipush dX12_line_19 rfl ?_
    refine r_icmp_ne (t := 31) dX12_line_21 rfl ⟨by omega, by omega⟩ ⟨by omega, by omega⟩ (fun hc21 => absurd hc21 (by omega)) (fun hc21 => ?_)
    refine x_aload_n dX12_line_24 x_get_2_0 ?_
    refine x_callV (As := []) dX12_line_25 w_12_259 (ml_way hl hM hv hm hg h14) (by assumption) (by assumption) rfl rfl (Nat.le_of_ble_eq_true rfl) (Nat.le_of_ble_eq_true rfl) (Nat.le_of_ble_eq_true rfl) (Nat.le_of_ble_eq_true rfl) (Nat.le_of_ble_eq_true rfl) ?_
    intro d hd
    refine x_goto (t := 112) dX12_line_28 rfl ?_
    exact ln_e hl hM (by unfold r_ln1; rw [if_neg w1, if_pos w2]; exact hd)
  have hcr := ml_crate (X := X) (l := l) hl hM (ba := tW b n q 4) hv hm hg h14
  by_cases w4 : tW b n q 4
  · have hk9 := k9.mpr w4
    rw [show x_B (tW b n q 4) = 1 from if_pos w4] at hcr
    subst hk9
    refine x_aload_n dX12_line_0 x_get_2_0 ?_
    refine x_callV (As := []) dX12_line_1 w_12_204 (hkn) (by assumption) (by assumption) rfl rfl (Nat.le_of_ble_eq_true rfl) (Nat.le_of_ble_eq_true rfl) (Nat.le_of_ble_eq_true rfl) (Nat.le_of_ble_eq_true rfl) (Nat.le_of_ble_eq_true rfl) ?_
    intro d hd
    obtain rfl := Eq.symm hd
    refine x_istore_n dX12_line_4 (Nat.le_of_ble_eq_true rfl) rfl x_set_2_1 ?_
    refine x_iload_n dX12_line_5 x_get_2_1 ?_
    refine x_bipush dX12_line_6 rfl ?_
    refine r_icmp_ne (t := 18) dX12_line_8 rfl ⟨by omega, by omega⟩ ⟨by omega, by omega⟩ (fun hc8 => ?_) (fun hc8 => absurd hc8 (by omega))
    refine x_iload_n dX12_line_18 x_get_2_1 ?_
    refine x_bipush dX12_line_19 rfl ?_
    refine r_icmp_ne (t := 31) dX12_line_21 rfl ⟨by omega, by omega⟩ ⟨by omega, by omega⟩ (fun hc21 => ?_) (fun hc21 => absurd hc21 (by omega))
    refine x_iload_n dX12_line_31 x_get_2_1 ?_
    refine x_bipush dX12_line_32 rfl ?_
    refine r_icmp_eq (t := 43) dX12_line_34 rfl ⟨by omega, by omega⟩ ⟨by omega, by omega⟩ (fun hc34 => absurd hc34 (by omega)) (fun hc34 => ?_)
    refine x_iload_n dX12_line_37 x_get_2_1 ?_
    refine x_bipush dX12_line_38 rfl ?_
    refine r_icmp_ne (t := 61) dX12_line_40 rfl ⟨by omega, by omega⟩ ⟨by omega, by omega⟩ (fun hc40 => absurd hc40 (by omega)) (fun hc40 => ?_)
    refine x_aload_n dX12_line_43 x_get_2_0 ?_
    refine x_iload_n dX12_line_44 x_get_2_1 ?_
    refine x_bipush dX12_line_45 rfl ?_
    refine r_icmp_ne (t := 54) dX12_line_47 rfl ⟨by omega, by omega⟩ ⟨by omega, by omega⟩ (fun hc47 => absurd hc47 (by omega)) (fun hc47 => ?_)
    refine x_iconst dX12_line_50 ?_
    refine x_goto (t := 55) dX12_line_51 rfl ?_
    refine x_callV (As := [_]) dX12_line_55 w_12_262 (hcr) (by assumption) (by assumption) rfl rfl (Nat.le_of_ble_eq_true rfl) (Nat.le_of_ble_eq_true rfl) (Nat.le_of_ble_eq_true rfl) (Nat.le_of_ble_eq_true rfl) (Nat.le_of_ble_eq_true rfl) ?_
    intro d hd
    refine x_goto (t := 112) dX12_line_58 rfl ?_
    exact ln_e hl hM (by unfold r_ln1; rw [if_neg w1, if_neg w2, if_pos (Or.inr w4)]; exact hd)
  rw [show x_B (tW b n q 4) = 0 from if_neg w4] at hcr
  by_cases w3 : tW b n q 3
  · have hk8 := k8.mpr w3
    subst hk8
    refine x_aload_n dX12_line_0 x_get_2_0 ?_
    refine x_callV (As := []) dX12_line_1 w_12_204 (hkn) (by assumption) (by assumption) rfl rfl (Nat.le_of_ble_eq_true rfl) (Nat.le_of_ble_eq_true rfl) (Nat.le_of_ble_eq_true rfl) (Nat.le_of_ble_eq_true rfl) (Nat.le_of_ble_eq_true rfl) ?_
    intro d hd
    obtain rfl := Eq.symm hd
    refine x_istore_n dX12_line_4 (Nat.le_of_ble_eq_true rfl) rfl x_set_2_1 ?_
    refine x_iload_n dX12_line_5 x_get_2_1 ?_
    refine x_bipush dX12_line_6 rfl ?_
    refine r_icmp_ne (t := 18) dX12_line_8 rfl ⟨by omega, by omega⟩ ⟨by omega, by omega⟩ (fun hc8 => ?_) (fun hc8 => absurd hc8 (by omega))
    refine x_iload_n dX12_line_18 x_get_2_1 ?_
    refine x_bipush dX12_line_19 rfl ?_
    refine r_icmp_ne (t := 31) dX12_line_21 rfl ⟨by omega, by omega⟩ ⟨by omega, by omega⟩ (fun hc21 => ?_) (fun hc21 => absurd hc21 (by omega))
    refine x_iload_n dX12_line_31 x_get_2_1 ?_
    refine x_bipush dX12_line_32 rfl ?_
    refine r_icmp_eq (t := 43) dX12_line_34 rfl ⟨by omega, by omega⟩ ⟨by omega, by omega⟩ (fun hc34 => ?_) (fun hc34 => absurd hc34 (by omega))
    refine x_aload_n dX12_line_43 x_get_2_0 ?_
    refine x_iload_n dX12_line_44 x_get_2_1 ?_
    refine x_bipush dX12_line_45 rfl ?_
    refine r_icmp_ne (t := 54) dX12_line_47 rfl ⟨by omega, by omega⟩ ⟨by omega, by omega⟩ (fun hc47 => ?_) (fun hc47 => absurd hc47 (by omega))
    refine x_iconst dX12_line_54 ?_
    refine x_callV (As := [_]) dX12_line_55 w_12_262 (hcr) (by assumption) (by assumption) rfl rfl (Nat.le_of_ble_eq_true rfl) (Nat.le_of_ble_eq_true rfl) (Nat.le_of_ble_eq_true rfl) (Nat.le_of_ble_eq_true rfl) (Nat.le_of_ble_eq_true rfl) ?_
    intro d hd
    refine x_goto (t := 112) dX12_line_58 rfl ?_
    exact ln_e hl hM (by unfold r_ln1; rw [if_neg w1, if_neg w2, if_pos (Or.inl w3)]; exact hd)
  have n6 : ¬ k = 6 := fun h => w1 (k6.mp h)
  have n7 : ¬ k = 7 := fun h => w2 (k7.mp h)
  have n8 : ¬ k = 8 := fun h => w3 (k8.mp h)
  have n9 : ¬ k = 9 := fun h => w4 (k9.mp h)
  have w34 : ¬ (tW b n q 3 ∨ tW b n q 4) := fun h => h.elim w3 w4
  by_cases w6 : tW b n q 6
  · have hk11 := k11.mpr w6
    subst hk11
    have hod : r_ln1 b n lb S q = r_ods b n S q := by unfold r_ln1; rw [if_neg w1, if_neg w2, if_neg w34, if_pos w6]
    have hoD := hm.2.2.2.2
    obtain ⟨o, ho⟩ : ∃ o, S.2 = o := ⟨_, rfl⟩
    cases o with
    | some L0 =>
      unfold od at hoD
      rw [ho] at hoD
      have h28 : D 62 28 = 0 := hoD.1
      have hr1 : r_ods b n S q = .inl (5, q) := by unfold r_ods; rw [ho]; rfl
      rw [show r_lin b n lb S q = .inl (5, q) by unfold r_lin; rw [hod, hr1]; rfl]
      refine x_aload_n dX12_line_0 x_get_2_0 ?_
      refine x_callV (As := []) dX12_line_1 w_12_204 (hkn) (by assumption) (by assumption) rfl rfl (Nat.le_of_ble_eq_true rfl) (Nat.le_of_ble_eq_true rfl) (Nat.le_of_ble_eq_true rfl) (Nat.le_of_ble_eq_true rfl) (Nat.le_of_ble_eq_true rfl) ?_
      intro d hd
      obtain rfl := Eq.symm hd
      refine x_istore_n dX12_line_4 (Nat.le_of_ble_eq_true rfl) rfl x_set_2_1 ?_
      refine x_iload_n dX12_line_5 x_get_2_1 ?_
      refine x_bipush dX12_line_6 rfl ?_
      refine r_icmp_ne (t := 18) dX12_line_8 rfl ⟨by omega, by omega⟩ ⟨by omega, by omega⟩ (fun hc8 => ?_) (fun hc8 => absurd hc8 (by omega))
      refine x_iload_n dX12_line_18 x_get_2_1 ?_
      refine x_bipush dX12_line_19 rfl ?_
      refine r_icmp_ne (t := 31) dX12_line_21 rfl ⟨by omega, by omega⟩ ⟨by omega, by omega⟩ (fun hc21 => ?_) (fun hc21 => absurd hc21 (by omega))
      refine x_iload_n dX12_line_31 x_get_2_1 ?_
      refine x_bipush dX12_line_32 rfl ?_
      refine r_icmp_eq (t := 43) dX12_line_34 rfl ⟨by omega, by omega⟩ ⟨by omega, by omega⟩ (fun hc34 => absurd hc34 (by omega)) (fun hc34 => ?_)
      refine x_iload_n dX12_line_37 x_get_2_1 ?_
      refine x_bipush dX12_line_38 rfl ?_
      refine r_icmp_ne (t := 61) dX12_line_40 rfl ⟨by omega, by omega⟩ ⟨by omega, by omega⟩ (fun hc40 => ?_) (fun hc40 => absurd hc40 (by omega))
      refine x_iload_n dX12_line_61 x_get_2_1 ?_
      refine x_bipush dX12_line_62 rfl ?_
      refine r_icmp_ne (t := 107) dX12_line_64 rfl ⟨by omega, by omega⟩ ⟨by omega, by omega⟩ (fun hc64 => absurd hc64 (by omega)) (fun hc64 => ?_)
      refine x_aload_n dX12_line_67 x_get_2_0 ?_
      refine x_getI 28 dX12_line_68 fX_12_265 rfl n62 s62 (by rfl) ?_
      try simp (disch := decide) only [x_up_s, x_up_n, x_up_up, x_u1_s, x_u1_n, h28]
      refine x_iconst dX12_line_71 ?_
      refine r_icmp_eq (t := 80) dX12_line_72 rfl ⟨by omega, by omega⟩ ⟨by omega, by omega⟩ (fun hc72 => absurd hc72 (by omega)) (fun hc72 => ?_)
      refine x_aload_n dX12_line_75 x_get_2_0 ?_
      refine x_iconst dX12_line_76 ?_
      refine x_callV (As := [_]) dX12_line_77 w_12_183 (m_wrong hl hM hg h14) (by assumption) (by assumption) rfl rfl (Nat.le_of_ble_eq_true rfl) (Nat.le_of_ble_eq_true rfl) (Nat.le_of_ble_eq_true rfl) (Nat.le_of_ble_eq_true rfl) (Nat.le_of_ble_eq_true rfl) ?_
      intro d hd
      obtain rfl := Eq.symm hd
      refine x_aload_n dX12_line_80 x_get_2_0 ?_
      refine x_callV (As := []) dX12_line_81 w_12_176 (m_goodF hl hM mwf_14 (by decide)) (by assumption) (by assumption) rfl rfl (Nat.le_of_ble_eq_true rfl) (Nat.le_of_ble_eq_true rfl) (Nat.le_of_ble_eq_true rfl) (Nat.le_of_ble_eq_true rfl) (Nat.le_of_ble_eq_true rfl) ?_
      intro d hd
      obtain rfl := Eq.symm hd
      refine r_if_ne (t := 88) dX12_line_84 rfl ⟨by omega, by omega⟩ (fun hc84 => absurd hc84 (by omega)) (fun hc84 => ?_)
      exact x_vret dX12_line_87 rfl (Nat.le_of_ble_eq_true rfl) (Nat.le_of_ble_eq_true rfl) rfl rfl rfl (fz_wr lf_rf (by decide)) rfl
    | none =>
      unfold od at hoD
      rw [ho] at hoD
      have h28 : D 62 28 = -1 := hoD.1
      have h29 : D 62 29 = 0 := hoD.2
      have hr1 : r_ods b n S q = r_bd (r_exp b n 6 (tE b n q)) (fun L q1 => .inr ((S.1, some L), q1)) := by unfold r_ods; rw [ho]; rfl
      have hq4 : 4 ≤ tE b n q := by
        have := w6.2.1
        have h4 : (x_tx 6).length = 4 := rfl
        omega
      refine x_aload_n dX12_line_0 x_get_2_0 ?_
      refine x_callV (As := []) dX12_line_1 w_12_204 (hkn) (by assumption) (by assumption) rfl rfl (Nat.le_of_ble_eq_true rfl) (Nat.le_of_ble_eq_true rfl) (Nat.le_of_ble_eq_true rfl) (Nat.le_of_ble_eq_true rfl) (Nat.le_of_ble_eq_true rfl) ?_
      intro d hd
      obtain rfl := Eq.symm hd
      refine x_istore_n dX12_line_4 (Nat.le_of_ble_eq_true rfl) rfl x_set_2_1 ?_
      refine x_iload_n dX12_line_5 x_get_2_1 ?_
      refine x_bipush dX12_line_6 rfl ?_
      refine r_icmp_ne (t := 18) dX12_line_8 rfl ⟨by omega, by omega⟩ ⟨by omega, by omega⟩ (fun hc8 => ?_) (fun hc8 => absurd hc8 (by omega))
      refine x_iload_n dX12_line_18 x_get_2_1 ?_
      refine x_bipush dX12_line_19 rfl ?_
      refine r_icmp_ne (t := 31) dX12_line_21 rfl ⟨by omega, by omega⟩ ⟨by omega, by omega⟩ (fun hc21 => ?_) (fun hc21 => absurd hc21 (by omega))
      refine x_iload_n dX12_line_31 x_get_2_1 ?_
      refine x_bipush dX12_line_32 rfl ?_
      refine r_icmp_eq (t := 43) dX12_line_34 rfl ⟨by omega, by omega⟩ ⟨by omega, by omega⟩ (fun hc34 => absurd hc34 (by omega)) (fun hc34 => ?_)
      refine x_iload_n dX12_line_37 x_get_2_1 ?_
      refine x_bipush dX12_line_38 rfl ?_
      refine r_icmp_ne (t := 61) dX12_line_40 rfl ⟨by omega, by omega⟩ ⟨by omega, by omega⟩ (fun hc40 => ?_) (fun hc40 => absurd hc40 (by omega))
      refine x_iload_n dX12_line_61 x_get_2_1 ?_
      refine x_bipush dX12_line_62 rfl ?_
      refine r_icmp_ne (t := 107) dX12_line_64 rfl ⟨by omega, by omega⟩ ⟨by omega, by omega⟩ (fun hc64 => absurd hc64 (by omega)) (fun hc64 => ?_)
      refine x_aload_n dX12_line_67 x_get_2_0 ?_
      refine x_getI 28 dX12_line_68 fX_12_265 rfl n62 s62 (by rfl) ?_
      try simp (disch := decide) only [x_up_s, x_up_n, x_up_up, x_u1_s, x_u1_n, h28, h291]
      refine x_iconst dX12_line_71 ?_
      refine r_icmp_eq (t := 80) dX12_line_72 rfl ⟨by omega, by omega⟩ ⟨by omega, by omega⟩ (fun hc72 => ?_) (fun hc72 => absurd hc72 (by omega))
      refine x_aload_n dX12_line_80 x_get_2_0 ?_
      refine x_callV (As := []) dX12_line_81 w_12_176 (m_good hl hM h14) (by assumption) (by assumption) rfl rfl (Nat.le_of_ble_eq_true rfl) (Nat.le_of_ble_eq_true rfl) (Nat.le_of_ble_eq_true rfl) (Nat.le_of_ble_eq_true rfl) (Nat.le_of_ble_eq_true rfl) ?_
      intro d hd
      obtain rfl := Eq.symm hd
      refine r_if_ne (t := 88) dX12_line_84 rfl ⟨by omega, by omega⟩ (fun hc84 => ?_) (fun hc84 => absurd hc84 (by omega))
      refine x_aload_n dX12_line_88 x_get_2_0 ?_
      refine x_callV (As := []) dX12_line_89 w_12_180 (m_goes hl hM hg.1 e2 hg.2.2.1) (by assumption) (by assumption) rfl rfl (Nat.le_of_ble_eq_true rfl) (Nat.le_of_ble_eq_true rfl) (Nat.le_of_ble_eq_true rfl) (Nat.le_of_ble_eq_true rfl) (Nat.le_of_ble_eq_true rfl) ?_
      rintro d1 ⟨hg1, hf1⟩
      have h291 : d1 62 29 = 0 := by rw [hf1.2 29 (by decide)]; exact h29
      have h141 : d1 62 14 = 0 := by rw [hf1.2 14 (by decide)]; exact h14
      refine x_aload_n dX12_line_92 x_get_2_0 ?_
      refine x_aload_n dX12_line_93 x_get_2_0 ?_
      refine x_getI 29 dX12_line_94 fX_12_189 rfl n62 s62 (by rfl) ?_
      try simp (disch := decide) only [x_up_s, x_up_n, x_up_up, x_u1_s, x_u1_n, h28, h291]
      refine x_putI 28 dX12_line_97 fX_12_265 rfl tX_12_28 n62 s62 (by rfl) ?_
      try simp (disch := decide) only [x_up_s, x_up_n, x_up_up, x_u1_s, x_u1_n, h28, h291]
      refine x_aload_n dX12_line_100 x_get_2_0 ?_
      refine x_callV (As := []) dX12_line_101 w_12_268 (m_exp6 hl hM (gs_25 hg1) (by rw [x_up_s, x_u1_n (by decide)]; exact h141) (by rw [x_up_s, x_u1_n (by decide)]; exact h291) hq4) (by assumption) (by assumption) rfl rfl (Nat.le_of_ble_eq_true rfl) (Nat.le_of_ble_eq_true rfl) (Nat.le_of_ble_eq_true rfl) (Nat.le_of_ble_eq_true rfl) (Nat.le_of_ble_eq_true rfl) ?_
      rintro d3 ⟨hx, h3⟩
      have hl3 : lf D d3 := lf_tr (lf_tr (lf_gf hf1) (lf_62 (by decide))) (lf_xf hx)
      refine x_goto (t := 112) dX12_line_104 rfl ?_
      refine ln_e hl hM ?_
      rw [hod, hr1]
      obtain ⟨r, hr⟩ : ∃ r, r_exp b n 6 (tE b n q) = r := ⟨_, rfl⟩
      rw [hr] at h3 ⊢
      cases r with
      | inl z => exact ⟨hl3, h3⟩
      | inr w => exact ⟨hl3, h3.1, h3.2.1, ml_od hm hf1 hx h3.2.2.1 h3.2.2.2.1 h3.2.2.2.2⟩
  have n11 : ¬ k = 11 := fun h => w6 (k11.mp h)
  have hr1 : r_ln1 b n lb S q = .inl (1, q) := by unfold r_ln1; rw [if_neg w1, if_neg w2, if_neg w34, if_neg w6]
  refine x_aload_n dX12_line_0 x_get_2_0 ?_
  refine x_callV (As := []) dX12_line_1 w_12_204 (hkn) (by assumption) (by assumption) rfl rfl (Nat.le_of_ble_eq_true rfl) (Nat.le_of_ble_eq_true rfl) (Nat.le_of_ble_eq_true rfl) (Nat.le_of_ble_eq_true rfl) (Nat.le_of_ble_eq_true rfl) ?_
  intro d hd
  obtain rfl := Eq.symm hd
  refine x_istore_n dX12_line_4 (Nat.le_of_ble_eq_true rfl) rfl x_set_2_1 ?_
  refine x_iload_n dX12_line_5 x_get_2_1 ?_
  refine x_bipush dX12_line_6 rfl ?_
  refine r_icmp_ne (t := 18) dX12_line_8 rfl ⟨by omega, by omega⟩ ⟨by omega, by omega⟩ (fun hc8 => ?_) (fun hc8 => absurd hc8 (by omega))
  refine x_iload_n dX12_line_18 x_get_2_1 ?_
  refine x_bipush dX12_line_19 rfl ?_
  refine r_icmp_ne (t := 31) dX12_line_21 rfl ⟨by omega, by omega⟩ ⟨by omega, by omega⟩ (fun hc21 => ?_) (fun hc21 => absurd hc21 (by omega))
  refine x_iload_n dX12_line_31 x_get_2_1 ?_
  refine x_bipush dX12_line_32 rfl ?_
  refine r_icmp_eq (t := 43) dX12_line_34 rfl ⟨by omega, by omega⟩ ⟨by omega, by omega⟩ (fun hc34 => absurd hc34 (by omega)) (fun hc34 => ?_)
  refine x_iload_n dX12_line_37 x_get_2_1 ?_
  refine x_bipush dX12_line_38 rfl ?_
  refine r_icmp_ne (t := 61) dX12_line_40 rfl ⟨by omega, by omega⟩ ⟨by omega, by omega⟩ (fun hc40 => ?_) (fun hc40 => absurd hc40 (by omega))
  refine x_iload_n dX12_line_61 x_get_2_1 ?_
  refine x_bipush dX12_line_62 rfl ?_
  refine r_icmp_ne (t := 107) dX12_line_64 rfl ⟨by omega, by omega⟩ ⟨by omega, by omega⟩ (fun hc64 => ?_) (fun hc64 => absurd hc64 (by omega))
  refine x_aload_n dX12_line_107 x_get_2_0 ?_
  refine x_iconst dX12_line_108 ?_
  refine x_callV (As := [_]) dX12_line_109 w_12_183 (m_wrong hl hM hg h14) (by assumption) (by assumption) rfl rfl (Nat.le_of_ble_eq_true rfl) (Nat.le_of_ble_eq_true rfl) (Nat.le_of_ble_eq_true rfl) (Nat.le_of_ble_eq_true rfl) (Nat.le_of_ble_eq_true rfl) ?_
  intro d hd
  obtain rfl := Eq.symm hd
  exact ln_e hl hM (by rw [hr1]; exact fz_wr lf_rf (by decide))
end M99998
