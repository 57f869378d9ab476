section M99992
/-! ===== the Model's expression ===== -/
theorem w_12_226 : x_cv RX12 226 yX12_operand cX12_operand 5 (none) 12 1 := ⟨⟨_, rfl, rfl⟩, (x_in 1630 (by decide +kernel) rfl), (x_in 1632 (by decide +kernel) rfl), (x_in 34 (by decide +kernel) rfl), (x_in 90 (by decide +kernel) rfl), (x_in 1633 (by decide +kernel) rfl), by decide, ⟨by decide +kernel, by decide +kernel, by decide +kernel⟩⟩
theorem w_12_230 : x_cv RX12 230 yX12_isOpened cX12_isOpened 2 (some .boolean) 12 0 := ⟨⟨_, rfl, rfl⟩, (x_in 1656 (by decide +kernel) rfl), (x_in 1658 (by decide +kernel) rfl), (x_in 39 (by decide +kernel) rfl), (x_in 90 (by decide +kernel) rfl), (x_in 1659 (by decide +kernel) rfl), by decide, ⟨by decide +kernel, by decide +kernel, by decide +kernel⟩⟩
theorem w_12_233 : x_cv RX12 233 yX12_closes cX12_closes 1 (none) 12 0 := ⟨⟨_, rfl, rfl⟩, (x_in 1660 (by decide +kernel) rfl), (x_in 1662 (by decide +kernel) rfl), (x_in 40 (by decide +kernel) rfl), (x_in 90 (by decide +kernel) rfl), (x_in 1663 (by decide +kernel) rfl), by decide, ⟨by decide +kernel, by decide +kernel, by decide +kernel⟩⟩
set_option maxHeartbeats 1500000 in
theorem ex_f325 {X : xC} {l : Launch} (hl : l.stackTraces = false) {N : Nat} {sh : xS} {D : xM} (hM : is_Md N sh) {b : Int → Int} {n : Nat} {s : Ys} {z : Int × Nat} {d : xM} {o1 o2 : Option Value} (hrc : Rc b n s (.inl z)) (hzk : 1 ≤ z.1 ∧ z.1 ≤ 5) (hyx : yx b n z d) (hxf : xf D d) : x_W (X, l, yX12_expression, cX12_expression, 3, none, x_room 5 0 0, 0, 0, (.inl none), N, sh, (ye b n s D), false, []) 325 [some (.ref (x_b X + 62)), o1, o2] [] 0 0 false N sh d := by
  have s62 := md_62 hM
  have n62 : 62 < N := md_n hM (by decide)
  have s81 := md_81 hM
  have n81 : 81 < N := md_n hM (by decide)
  obtain ⟨u1, u2, K, C, u3, u4, u5⟩ := id hyx
  have hlen := dc_len (p := 0) (K := K) (C := C)
  refine x_aload_n dX12_expression_325 x_get_3_0 ?_
  refine x_callV (As := []) dX12_expression_326 w_12_176 (m_goodF hl hM u1 hzk) (by assumption) (by assumption) rfl rfl (Nat.le_of_ble_eq_true rfl) (Nat.le_of_ble_eq_true rfl) (Nat.le_of_ble_eq_true rfl) (Nat.le_of_ble_eq_true rfl) (Nat.le_of_ble_eq_true rfl) ?_
  intro d hd
  obtain rfl := Eq.symm hd
  refine r_if_eq (t := 345) dX12_expression_329 rfl ⟨by omega, by omega⟩ (fun hc329 => ?_) (fun hc329 => absurd hc329 (by omega))
  refine x_aload_n dX12_expression_345 x_get_3_0 ?_
  refine x_iconst dX12_expression_346 ?_
  refine x_callV (As := [_]) dX12_expression_347 w_12_223 (m_drops hl hM u3 (by omega) (by omega) (p := 0) (by decide)) (by assumption) (by assumption) rfl rfl (Nat.le_of_ble_eq_true rfl) (Nat.le_of_ble_eq_true rfl) (Nat.le_of_ble_eq_true rfl) (Nat.le_of_ble_eq_true rfl) (Nat.le_of_ble_eq_true rfl) ?_
  rintro d1 ⟨hk1, hf1⟩
  refine x_aload_n dX12_expression_350 x_get_3_0 ?_
  refine x_iconst dX12_expression_351 ?_
  refine x_callV (As := [_]) dX12_expression_352 w_12_201 (m_puts hl hM hk1 (by omega)) (by assumption) (by assumption) rfl rfl (Nat.le_of_ble_eq_true rfl) (Nat.le_of_ble_eq_true rfl) (Nat.le_of_ble_eq_true rfl) (Nat.le_of_ble_eq_true rfl) (Nat.le_of_ble_eq_true rfl) ?_
  rintro d2 ⟨hk2, hf2⟩
  have hf3 := yf_tr hf1 hf2
  exact x_vret dX12_expression_355 rfl (Nat.le_of_ble_eq_true rfl) (Nat.le_of_ble_eq_true rfl) rfl rfl rfl ⟨xf_tr hxf (xf_yf hf3), Or.inr ⟨z, hrc, hzk, by rw [hf3.2 14 (by decide) (by decide)]; exact u1, by rw [hf3.2 15 (by decide) (by decide)]; exact u2⟩⟩ rfl
set_option maxHeartbeats 1500000 in
theorem ex_f29 {X : xC} {l : Launch} (hl : l.stackTraces = false) {N : Nat} {sh : xS} {D : xM} (hM : is_Md N sh) {b : Int → Int} {n : Nat} {s : Ys} {z : Int × Nat} {d : xM} {o1 o2 : Option Value} (hrc : Rc b n s (.inl z)) (hzk : 1 ≤ z.1 ∧ z.1 ≤ 5) (hyx : yx b n z d) (hxf : xf D d) : x_W (X, l, yX12_expression, cX12_expression, 3, none, x_room 5 0 0, 0, 0, (.inl none), N, sh, (ye b n s D), false, []) 29 [some (.ref (x_b X + 62)), some (.int (xI 1)), o2] [] 0 0 false N sh d := by
  have s62 := md_62 hM
  have n62 : 62 < N := md_n hM (by decide)
  have s81 := md_81 hM
  have n81 : 81 < N := md_n hM (by decide)
  refine x_iload_n dX12_expression_29 x_get_3_1 ?_
  refine r_if_eq (t := 325) dX12_expression_30 rfl ⟨by omega, by omega⟩ (fun hc30 => absurd hc30 (by omega)) (fun hc30 => ?_)
  refine x_aload_n dX12_expression_33 x_get_3_0 ?_
  refine x_callV (As := []) dX12_expression_34 w_12_176 (m_goodF hl hM hyx.1 hzk) (by assumption) (by assumption) rfl rfl (Nat.le_of_ble_eq_true rfl) (Nat.le_of_ble_eq_true rfl) (Nat.le_of_ble_eq_true rfl) (Nat.le_of_ble_eq_true rfl) (Nat.le_of_ble_eq_true rfl) ?_
  intro d hd
  obtain rfl := Eq.symm hd
  refine r_if_eq (t := 325) dX12_expression_37 rfl ⟨by omega, by omega⟩ (fun hc37 => ?_) (fun hc37 => absurd hc37 (by omega))
  exact ex_f325 hl hM hrc hzk hyx hxf
set_option maxHeartbeats 1500000 in
theorem ex_g325a {X : xC} {l : Launch} (hl : l.stackTraces = false) {N : Nat} {sh : xS} {D : xM} (hM : is_Md N sh) {b : Int → Int} {n : Nat} {s : Ys} {q1 : Nat} {K1 O1 : List Int} {F1 : List Bool} {d : xM} {o2 : Option Value} (hyd : ym b n (0, q1, K1, O1, F1) d) (hxf : xf D d) (hrc : Rc b n s (.inr (0, q1, K1, O1, F1))) (h1 : 1 < F1.length) (hlop : y_lop b n q1 K1 O1 F1 = .inl (1, q1)) : x_W (X, l, yX12_expression, cX12_expression, 3, none, x_room 5 0 0, 0, 0, (.inl none), N, sh, (ye b n s D), false, []) 325 [some (.ref (x_b X + 62)), some (.int (xI 0)), o2] [] 0 0 false N sh d := by
  have s62 := md_62 hM
  have n62 : 62 < N := md_n hM (by decide)
  have s81 := md_81 hM
  have n81 : 81 < N := md_n hM (by decide)
  obtain ⟨hgX, h14d, hkX, h31X, hfkX, ⟨hb1X, hb2X⟩, hb3X, hb4X⟩ := id hyd
  have hg : gs b n q1 d := hgX
  have hk : yk K1 (cod O1) d := hkX
  have h31 : d 62 31 = (F1.length : Nat) := h31X
  have hfk : fk F1 (d 81) := hfkX
  have hb1 : (cod O1).length + K1.length + 8 ≤ 2 * q1 := hb1X
  have hb2 : K1.length ≤ q1 := hb2X
  have hb3 : F1.length = zc K1 + 1 := hb3X
  have hb4 : F1.length ≤ 6 := hb4X
  obtain ⟨ht, hqn, g18, g20, g19, g21, g22, g23, g24⟩ := id hg
  obtain ⟨t1, t2, t3⟩ := id ht
  obtain ⟨e0, e1, e2⟩ := tE_in (b := b) hqn
  have hki := tK_in (b := b) (n := n) (q := q1)
  obtain ⟨s0, s1, s2, s3, s4, s5⟩ := m_so_w (b := b) (n := n) (q := q1)
  clear hgX hkX h31X hfkX hb1X hb2X hb3X hb4X
  have hyx1 : yx b n (1, q1) (mwf 1 (tS b n q1 : Nat) d) := ym_wr hyd
  obtain ⟨u1, u2, K, C, u3, u4, u5⟩ := id hyx1
  have hlen2 := dc_len (p := 0) (K := K) (C := C)
  refine x_aload_n dX12_expression_325 x_get_3_0 ?_
  refine x_callV (As := []) dX12_expression_326 w_12_176 (m_good hl hM h14d) (by assumption) (by assumption) rfl rfl (Nat.le_of_ble_eq_true rfl) (Nat.le_of_ble_eq_true rfl) (Nat.le_of_ble_eq_true rfl) (Nat.le_of_ble_eq_true rfl) (Nat.le_of_ble_eq_true rfl) ?_
  intro d hd
  obtain rfl := Eq.symm hd
  refine r_if_eq (t := 345) dX12_expression_329 rfl ⟨by omega, by omega⟩ (fun hc329 => absurd hc329 (by omega)) (fun hc329 => ?_)
  refine x_aload_n dX12_expression_332 x_get_3_0 ?_
  refine x_getI 31 dX12_expression_333 fX_12_208 rfl n62 s62 (by rfl) ?_
  try simp (disch := decide) only [x_up_s, x_up_n, x_up_up, x_u1_s, x_u1_n, h31]
  refine x_iconst dX12_expression_336 ?_
  refine r_icmp_le (t := 345) dX12_expression_337 rfl ⟨by omega, by omega⟩ ⟨by omega, by omega⟩ (fun hc337 => absurd hc337 (by omega)) (fun hc337 => ?_)
  refine x_aload_n dX12_expression_340 x_get_3_0 ?_
  refine x_iconst dX12_expression_341 ?_
  refine x_callV (As := [_]) dX12_expression_342 w_12_183 (m_wrong hl hM hg h14d) (by assumption) (by assumption) rfl rfl (Nat.le_of_ble_eq_true rfl) (Nat.le_of_ble_eq_true rfl) (Nat.le_of_ble_eq_true rfl) (Nat.le_of_ble_eq_true rfl) (Nat.le_of_ble_eq_true rfl) ?_
  intro d hd
  obtain rfl := Eq.symm hd
  refine x_aload_n dX12_expression_345 x_get_3_0 ?_
  refine x_iconst dX12_expression_346 ?_
  refine x_callV (As := [_]) dX12_expression_347 w_12_223 (m_drops hl hM u3 (by omega) (by omega) (p := 0) (by decide)) (by assumption) (by assumption) rfl rfl (Nat.le_of_ble_eq_true rfl) (Nat.le_of_ble_eq_true rfl) (Nat.le_of_ble_eq_true rfl) (Nat.le_of_ble_eq_true rfl) (Nat.le_of_ble_eq_true rfl) ?_
  rintro d1 ⟨hk1, hf1⟩
  refine x_aload_n dX12_expression_350 x_get_3_0 ?_
  refine x_iconst dX12_expression_351 ?_
  refine x_callV (As := [_]) dX12_expression_352 w_12_201 (m_puts hl hM hk1 (by omega)) (by assumption) (by assumption) rfl rfl (Nat.le_of_ble_eq_true rfl) (Nat.le_of_ble_eq_true rfl) (Nat.le_of_ble_eq_true rfl) (Nat.le_of_ble_eq_true rfl) (Nat.le_of_ble_eq_true rfl) ?_
  rintro d2 ⟨hk2, hf2⟩
  have hf3 := yf_tr hf1 hf2
  exact x_vret dX12_expression_355 rfl (Nat.le_of_ble_eq_true rfl) (Nat.le_of_ble_eq_true rfl) rfl rfl rfl ⟨xf_tr hxf (xf_tr xf_mwf (xf_yf hf3)), Or.inr ⟨(1, q1), rc_tr hrc (rc_i (y1_0.trans hlop)), by show (1 : Int) ≤ 1 ∧ (1 : Int) ≤ 5; decide, by rw [hf3.2 14 (by decide) (by decide)]; exact u1, by rw [hf3.2 15 (by decide) (by decide)]; exact u2⟩⟩ rfl
set_option maxHeartbeats 1500000 in
theorem ex_g325b {X : xC} {l : Launch} (hl : l.stackTraces = false) {N : Nat} {sh : xS} {D : xM} (hM : is_Md N sh) {b : Int → Int} {n : Nat} {s : Ys} {q1 : Nat} {K1 O1 : List Int} {f : Bool} {d : xM} {o2 : Option Value} (hyd : ym b n (0, q1, K1, O1, [f]) d) (hxf : xf D d) (hrc : Rc b n s (.inr (0, q1, K1, O1, [f]))) (hlop : y_lop b n q1 K1 O1 [f] = .inr (20, q1, K1, O1, [f])) : x_W (X, l, yX12_expression, cX12_expression, 3, none, x_room 5 0 0, 0, 0, (.inl none), N, sh, (ye b n s D), false, []) 325 [some (.ref (x_b X + 62)), some (.int (xI 0)), o2] [] 0 0 false N sh d := by
  have s62 := md_62 hM
  have n62 : 62 < N := md_n hM (by decide)
  have s81 := md_81 hM
  have n81 : 81 < N := md_n hM (by decide)
  obtain ⟨hgX, h14d, hkX, h31X, hfkX, ⟨hb1X, hb2X⟩, hb3X, hb4X⟩ := id hyd
  have hg : gs b n q1 d := hgX
  have hk : yk K1 (cod O1) d := hkX
  have h31 : d 62 31 = (([f]).length : Nat) := h31X
  have hfk : fk ([f]) (d 81) := hfkX
  have hb1 : (cod O1).length + K1.length + 8 ≤ 2 * q1 := hb1X
  have hb2 : K1.length ≤ q1 := hb2X
  have hb3 : ([f]).length = zc K1 + 1 := hb3X
  have hb4 : ([f]).length ≤ 6 := hb4X
  obtain ⟨ht, hqn, g18, g20, g19, g21, g22, g23, g24⟩ := id hg
  obtain ⟨t1, t2, t3⟩ := id ht
  obtain ⟨e0, e1, e2⟩ := tE_in (b := b) hqn
  have hki := tK_in (b := b) (n := n) (q := q1)
  obtain ⟨s0, s1, s2, s3, s4, s5⟩ := m_so_w (b := b) (n := n) (q := q1)
  clear hgX hkX h31X hfkX hb1X hb2X hb3X hb4X
  have hlen := dc_len (p := 0) (K := K1) (C := cod O1)
  have h31b : d 62 31 = 1 := h31
  refine x_aload_n dX12_expression_325 x_get_3_0 ?_
  refine x_callV (As := []) dX12_expression_326 w_12_176 (m_good hl hM h14d) (by assumption) (by assumption) rfl rfl (Nat.le_of_ble_eq_true rfl) (Nat.le_of_ble_eq_true rfl) (Nat.le_of_ble_eq_true rfl) (Nat.le_of_ble_eq_true rfl) (Nat.le_of_ble_eq_true rfl) ?_
  intro d hd
  obtain rfl := Eq.symm hd
  refine r_if_eq (t := 345) dX12_expression_329 rfl ⟨by omega, by omega⟩ (fun hc329 => absurd hc329 (by omega)) (fun hc329 => ?_)
  refine x_aload_n dX12_expression_332 x_get_3_0 ?_
  refine x_getI 31 dX12_expression_333 fX_12_208 rfl n62 s62 (by rfl) ?_
  try simp (disch := decide) only [x_up_s, x_up_n, x_up_up, x_u1_s, x_u1_n, h31b]
  refine x_iconst dX12_expression_336 ?_
  refine r_icmp_le (t := 345) dX12_expression_337 rfl ⟨by decide, by decide⟩ ⟨by decide, by decide⟩ (fun hc337 => ?_) (fun hc337 => absurd hc337 (by decide))
  refine x_aload_n dX12_expression_345 x_get_3_0 ?_
  refine x_iconst dX12_expression_346 ?_
  refine x_callV (As := [_]) dX12_expression_347 w_12_223 (m_drops hl hM hk (by omega) (by omega) (p := 0) (by decide)) (by assumption) (by assumption) rfl rfl (Nat.le_of_ble_eq_true rfl) (Nat.le_of_ble_eq_true rfl) (Nat.le_of_ble_eq_true rfl) (Nat.le_of_ble_eq_true rfl) (Nat.le_of_ble_eq_true rfl) ?_
  rintro d1 ⟨hk1, hf1⟩
  refine x_aload_n dX12_expression_350 x_get_3_0 ?_
  refine x_iconst dX12_expression_351 ?_
  refine x_callV (As := [_]) dX12_expression_352 w_12_201 (m_puts hl hM hk1 (by omega)) (by assumption) (by assumption) rfl rfl (Nat.le_of_ble_eq_true rfl) (Nat.le_of_ble_eq_true rfl) (Nat.le_of_ble_eq_true rfl) (Nat.le_of_ble_eq_true rfl) (Nat.le_of_ble_eq_true rfl) ?_
  rintro d2 ⟨hk2, hf2⟩
  have hf3 := yf_tr hf1 hf2
  exact x_vret dX12_expression_355 rfl (Nat.le_of_ble_eq_true rfl) (Nat.le_of_ble_eq_true rfl) rfl rfl rfl ⟨xf_tr hxf (xf_yf hf3), Or.inl ⟨q1, K1, O1, f, rc_tr hrc (rc_s (y1_0.trans hlop) rc_rf), yf_gs hg hf3, by rw [hf3.2 14 (by decide) (by decide)]; exact h14d, hk2.2.2.1, hk2.2.2.2.1, by rw [List.length_append, List.length_singleton]; omega, hk.2.2.2.2⟩⟩ rfl
set_option maxHeartbeats 1500000 in
theorem ex_g325 {X : xC} {l : Launch} (hl : l.stackTraces = false) {N : Nat} {sh : xS} {D : xM} (hM : is_Md N sh) {b : Int → Int} {n : Nat} {s : Ys} {q1 : Nat} {K1 O1 : List Int} {F1 : List Bool} {d : xM} {o2 : Option Value} (hyd : ym b n (0, q1, K1, O1, F1) d) (hxf : xf D d) (hrc : Rc b n s (.inr (0, q1, K1, O1, F1))) (hlop : y_lop b n q1 K1 O1 F1 = (if 1 < F1.length then .inl (1, q1) else .inr (20, q1, K1, O1, F1))) : x_W (X, l, yX12_expression, cX12_expression, 3, none, x_room 5 0 0, 0, 0, (.inl none), N, sh, (ye b n s D), false, []) 325 [some (.ref (x_b X + 62)), some (.int (xI 0)), o2] [] 0 0 false N sh d := by
  by_cases h1 : 1 < F1.length
  · rw [if_pos h1] at hlop
    exact ex_g325a hl hM hyd hxf hrc h1 hlop
  · rw [if_neg h1] at hlop
    have h3 : F1.length = zc K1 + 1 := hyd.2.2.2.2.2.2.1
    match F1, hyd, hrc, h1, hlop, h3 with
    | [], _, _, _, _, h3 => exact absurd h3 (by simp)
    | [f], hyd, hrc, _, hlop, _ => exact ex_g325b hl hM hyd hxf hrc hlop
    | f :: g :: F2, _, _, h1, _, _ => exact absurd h1 (by simp)
set_option maxHeartbeats 1500000 in
theorem ex_and {X : xC} {l : Launch} (hl : l.stackTraces = false) {N : Nat} {sh : xS} {D : xM} (hM : is_Md N sh) {b : Int → Int} {n : Nat} {s : Ys} {q1 : Nat} {K1 O1 : List Int} {f : Bool} {F0 : List Bool} {d : xM} {o2 : Option Value} (hyd : ym b n (0, q1, K1, O1, f :: F0) d) (hxf : xf D d) (hA : tW b n q1 14) (gO : ∀ (m' : Nat) (mn : Int) (q2 : Nat) (K2 O2 : List Int) (F2 : List Bool) (d5 : xM) (o2 : Option Value), q1 < q2 → q2 ≤ n → y_lop b n q1 K1 O1 (f :: F0) = .inr (m', q2, K2, O2, F2) → m' = (if mn = 1 then 2 else 1) → (∃ d4, xf D d4 ∧ yq b n ((if mn = 1 then 2 else 1, q2, K2, O2, F2) : Ys) d4 d5) → x_W (X, l, yX12_expression, cX12_expression, 3, none, x_room 5 0 0, 0, 0, (.inl none), N, sh, (ye b n s D), false, []) 29 [some (.ref (x_b X + 62)), some (.int (xI 1)), o2] [] 0 0 false N sh d5) : x_W (X, l, yX12_expression, cX12_expression, 3, none, x_room 5 0 0, 0, 0, (.inl none), N, sh, (ye b n s D), false, []) 29 [some (.ref (x_b X + 62)), some (.int (xI 1)), o2] [] 0 0 false N sh d := by
  have s62 := md_62 hM
  have n62 : 62 < N := md_n hM (by decide)
  have s81 := md_81 hM
  have n81 : 81 < N := md_n hM (by decide)
  obtain ⟨hgX, h14d, hkX, h31X, hfkX, ⟨hb1X, hb2X⟩, hb3X, hb4X⟩ := id hyd
  have hg : gs b n q1 d := hgX
  have hk : yk K1 (cod O1) d := hkX
  have h31 : d 62 31 = ((f :: F0).length : Nat) := h31X
  have hfk : fk (f :: F0) (d 81) := hfkX
  have hb1 : (cod O1).length + K1.length + 8 ≤ 2 * q1 := hb1X
  have hb2 : K1.length ≤ q1 := hb2X
  have hb3 : (f :: F0).length = zc K1 + 1 := hb3X
  have hb4 : (f :: F0).length ≤ 6 := hb4X
  obtain ⟨ht, hqn, g18, g20, g19, g21, g22, g23, g24⟩ := id hg
  obtain ⟨t1, t2, t3⟩ := id ht
  obtain ⟨e0, e1, e2⟩ := tE_in (b := b) hqn
  have hki := tK_in (b := b) (n := n) (q := q1)
  obtain ⟨s0, s1, s2, s3, s4, s5⟩ := m_so_w (b := b) (n := n) (q := q1)
  clear hgX hkX h31X hfkX hb1X hb2X hb3X hb4X
  have hkn := m_known (X := X) (l := l) hl hM hg
  have hk12 := kw_eq (b := b) (n := n) (q := q1) (k := 12) (by decide)
  have hk13 := kw_eq (b := b) (n := n) (q := q1) (k := 13) (by decide)
  have hkin := kw_in (b := b) (n := n) (q := q1)
  have hkv : kw b n q1 = 12 := hk12.mpr hA
  have hup := tW_up hqn hA
  rw [hkv] at hkn
  have hdc := dc_dr (p := 2) (K := K1) (O := O1) hk.2.2.2.2
  have hlen := dc_len (p := 2) (K := K1) (C := cod O1)
  have hle := dc_le (p := 2) (K := K1) (C := cod O1)
  have hzd := zc_dr (p := 2) (K := K1) (O := O1)
  rw [hdc] at hlen hle
  have hlen : (cod (dr 2 K1 O1).2).length + (dr 2 K1 O1).1.length = (cod O1).length + K1.length := hlen
  have hle : (dr 2 K1 O1).1.length ≤ K1.length := hle
  refine x_iload_n dX12_expression_29 x_get_3_1 ?_
  refine r_if_eq (t := 325) dX12_expression_30 rfl ⟨by omega, by omega⟩ (fun hc30 => absurd hc30 (by omega)) (fun hc30 => ?_)
  refine x_aload_n dX12_expression_33 x_get_3_0 ?_
  refine x_callV (As := []) dX12_expression_34 w_12_176 (m_good hl hM h14d) (by assumption) (by assumption) rfl rfl (Nat.le_of_ble_eq_true rfl) (Nat.le_of_ble_eq_true rfl) (Nat.le_of_ble_eq_true rfl) (Nat.le_of_ble_eq_true rfl) (Nat.le_of_ble_eq_true rfl) ?_
  intro d hd
  obtain rfl := Eq.symm hd
  refine r_if_eq (t := 325) dX12_expression_37 rfl ⟨by omega, by omega⟩ (fun hc37 => absurd hc37 (by omega)) (fun hc37 => ?_)
  refine x_aload_n dX12_expression_40 x_get_3_0 ?_
  refine x_callV (As := []) dX12_expression_41 w_12_204 (hkn) (by assumption) (by assumption) rfl rfl (Nat.le_of_ble_eq_true rfl) (Nat.le_of_ble_eq_true rfl) (Nat.le_of_ble_eq_true rfl) (Nat.le_of_ble_eq_true rfl) (Nat.le_of_ble_eq_true rfl) ?_
  intro d hd
  obtain rfl := Eq.symm hd
  refine x_istore_n dX12_expression_44 (Nat.le_of_ble_eq_true rfl) rfl x_set_3_2 ?_
  refine x_iload_n dX12_expression_45 x_get_3_2 ?_
  refine x_bipush dX12_expression_46 rfl ?_
  refine r_icmp_eq (t := 57) dX12_expression_48 rfl ⟨by decide, by decide⟩ ⟨by decide, by decide⟩ (fun hc48 => ?_) (fun hc48 => absurd hc48 (by decide))
  refine x_aload_n dX12_expression_57 x_get_3_0 ?_
  refine x_iload_n dX12_expression_58 x_get_3_2 ?_
  refine x_bipush dX12_expression_59 rfl ?_
  refine r_icmp_ne (t := 68) dX12_expression_61 rfl ⟨by decide, by decide⟩ ⟨by decide, by decide⟩ (fun hc61 => absurd hc61 (by decide)) (fun hc61 => ?_)
  refine x_iconst dX12_expression_64 ?_
  refine x_goto (t := 69) dX12_expression_65 rfl ?_
  refine x_callV (As := [_]) dX12_expression_69 w_12_223 (m_drops hl hM hk (by omega) (by omega) (p := 2) (by decide)) (by assumption) (by assumption) rfl rfl (Nat.le_of_ble_eq_true rfl) (Nat.le_of_ble_eq_true rfl) (Nat.le_of_ble_eq_true rfl) (Nat.le_of_ble_eq_true rfl) (Nat.le_of_ble_eq_true rfl) ?_
  rintro d1 ⟨hk1, hf1⟩
  rw [hdc] at hk1
  have hk1 : yk (dr 2 K1 O1).1 (cod (dr 2 K1 O1).2) d1 := hk1
  have hg1 := yf_gs hg hf1
  refine x_aload_n dX12_expression_72 x_get_3_0 ?_
  refine x_iload_n dX12_expression_73 x_get_3_2 ?_
  refine x_bipush dX12_expression_74 rfl ?_
  refine r_icmp_ne (t := 83) dX12_expression_76 rfl ⟨by decide, by decide⟩ ⟨by decide, by decide⟩ (fun hc76 => absurd hc76 (by decide)) (fun hc76 => ?_)
  refine x_iconst dX12_expression_79 ?_
  refine x_goto (t := 84) dX12_expression_80 rfl ?_
  refine x_callV (As := [_]) dX12_expression_84 w_12_214 (m_wait hl hM hk1 (by omega) (s := (-8 : Int)) (v := 4) (Or.inr ⟨by decide, by decide⟩) rfl) (by assumption) (by assumption) rfl rfl (Nat.le_of_ble_eq_true rfl) (Nat.le_of_ble_eq_true rfl) (Nat.le_of_ble_eq_true rfl) (Nat.le_of_ble_eq_true rfl) (Nat.le_of_ble_eq_true rfl) ?_
  rintro d2 ⟨hk2, hf2⟩
  have hf12 := yf_tr hf1 hf2
  have hg2 := yf_gs hg hf12
  have h142 : d2 62 14 = 0 := by rw [hf12.2 14 (by decide) (by decide)]; exact h14d
  have h312 : d2 62 31 = (((f :: F0).length : Nat) : Int) := by rw [hf12.2 31 (by decide) (by decide)]; exact h31
  have h812 : d2 81 = d 81 := hf12.1 81 (by decide) (by decide) (by decide)
  have hxf2 : xf D d2 := xf_tr hxf (xf_yf hf12)
  refine x_aload_n dX12_expression_87 x_get_3_0 ?_
  refine x_getR dX12_expression_88 fX_12_71 n62 s62 (by rfl) ?_
  refine x_aload_n dX12_expression_91 x_get_3_0 ?_
  refine x_getI 31 dX12_expression_92 fX_12_208 rfl n62 s62 (by rfl) ?_
  try simp (disch := decide) only [x_up_s, x_up_n, x_up_up, x_u1_s, x_u1_n, h312]
  refine x_iconst dX12_expression_95 ?_
  refine x_zast dX12_expression_96 n81 s81 (by omega) (by omega) (by decide) (by omega) ?_
  try simp (disch := decide) only [x_up_s, x_up_n, x_up_up, x_u1_s, x_u1_n, h312]
  generalize hd3 : x_up d2 81 _ = d3
  have hd3 := hd3.symm
  have hg3 : gs b n q1 d3 := by rw [hd3]; exact gs_81 hg2
  have hk3 : yk ((-8 : Int) :: (dr 2 K1 O1).1) (cod (dr 2 K1 O1).2) d3 := by rw [hd3]; exact yk_81 hk2
  have e14 : d3 62 14 = 0 := by rw [hd3, x_up_n (by decide)]; exact h142
  have e31 : d3 62 31 = ((((false : Bool) :: F0).length : Nat) : Int) := by rw [hd3, x_up_n (by decide)]; exact h312
  have hfk3 : fk (false :: F0) (d3 81) := by rw [hd3, x_up_s, h812]; exact fk_hd (v := false) hfk
  have hxf3 : xf D d3 := by rw [hd3]; exact xf_tr hxf2 xf_81
  refine x_aload_n dX12_expression_97 x_get_3_0 ?_
  refine x_callV (As := []) dX12_expression_98 w_12_180 (m_goes hl hM hg3.1 e2 hg3.2.2.1) (by assumption) (by assumption) rfl rfl (Nat.le_of_ble_eq_true rfl) (Nat.le_of_ble_eq_true rfl) (Nat.le_of_ble_eq_true rfl) (Nat.le_of_ble_eq_true rfl) (Nat.le_of_ble_eq_true rfl) ?_
  rintro d4 ⟨hg4, hgf4⟩
  have hym4 : ym b n ((if (1 : Int) = 1 then 2 else 1, tE b n q1, (-8 : Int) :: (dr 2 K1 O1).1, (dr 2 K1 O1).2, false :: F0) : Ys) d4 := ym_mk hg4 (by rw [hgf4.2 14 (by decide)]; exact e14) (gf_yk hk3 hgf4) (by rw [hgf4.2 31 (by decide)]; exact e31) (by rw [hgf4.1 81 (by decide)]; exact hfk3) (by rw [List.length_cons]; omega) (by rw [List.length_cons]; omega) (by show _ = (if (-8 : Int) = 0 then 1 else 0) + zc (dr 2 K1 O1).1 + 1; rw [if_neg (by decide), hzd, Nat.zero_add]; exact hb3) hb4
  have hxf4 : xf D d4 := xf_tr hxf3 (xf_gf hgf4)
  refine x_aload_n dX12_expression_101 x_get_3_0 ?_
  refine x_iconst dX12_expression_102 ?_
  refine x_callV (As := [_]) dX12_expression_103 w_12_226 (m_operand hl hM (Or.inr rfl) hym4) (by assumption) (by assumption) rfl rfl (Nat.le_of_ble_eq_true rfl) (Nat.le_of_ble_eq_true rfl) (Nat.le_of_ble_eq_true rfl) (Nat.le_of_ble_eq_true rfl) (Nat.le_of_ble_eq_true rfl) ?_
  intro d5 hd5
  refine x_goto (t := 322) dX12_expression_106 rfl ?_
  refine x_goto (t := 29) dX12_expression_322 rfl ?_
  exact gO 2 1 _ _ _ _ d5 _ hup.1 hup.2 (lop_and hA) (by decide) ⟨d4, hxf4, hd5⟩
set_option maxHeartbeats 1500000 in
theorem ex_or {X : xC} {l : Launch} (hl : l.stackTraces = false) {N : Nat} {sh : xS} {D : xM} (hM : is_Md N sh) {b : Int → Int} {n : Nat} {s : Ys} {q1 : Nat} {K1 O1 : List Int} {f : Bool} {F0 : List Bool} {d : xM} {o2 : Option Value} (hyd : ym b n (0, q1, K1, O1, f :: F0) d) (hxf : xf D d) (hO : tW b n q1 15) (gO : ∀ (m' : Nat) (mn : Int) (q2 : Nat) (K2 O2 : List Int) (F2 : List Bool) (d5 : xM) (o2 : Option Value), q1 < q2 → q2 ≤ n → y_lop b n q1 K1 O1 (f :: F0) = .inr (m', q2, K2, O2, F2) → m' = (if mn = 1 then 2 else 1) → (∃ d4, xf D d4 ∧ yq b n ((if mn = 1 then 2 else 1, q2, K2, O2, F2) : Ys) d4 d5) → x_W (X, l, yX12_expression, cX12_expression, 3, none, x_room 5 0 0, 0, 0, (.inl none), N, sh, (ye b n s D), false, []) 29 [some (.ref (x_b X + 62)), some (.int (xI 1)), o2] [] 0 0 false N sh d5) : x_W (X, l, yX12_expression, cX12_expression, 3, none, x_room 5 0 0, 0, 0, (.inl none), N, sh, (ye b n s D), false, []) 29 [some (.ref (x_b X + 62)), some (.int (xI 1)), o2] [] 0 0 false N sh d := by
  have s62 := md_62 hM
  have n62 : 62 < N := md_n hM (by decide)
  have s81 := md_81 hM
  have n81 : 81 < N := md_n hM (by decide)
  obtain ⟨hgX, h14d, hkX, h31X, hfkX, ⟨hb1X, hb2X⟩, hb3X, hb4X⟩ := id hyd
  have hg : gs b n q1 d := hgX
  have hk : yk K1 (cod O1) d := hkX
  have h31 : d 62 31 = ((f :: F0).length : Nat) := h31X
  have hfk : fk (f :: F0) (d 81) := hfkX
  have hb1 : (cod O1).length + K1.length + 8 ≤ 2 * q1 := hb1X
  have hb2 : K1.length ≤ q1 := hb2X
  have hb3 : (f :: F0).length = zc K1 + 1 := hb3X
  have hb4 : (f :: F0).length ≤ 6 := hb4X
  obtain ⟨ht, hqn, g18, g20, g19, g21, g22, g23, g24⟩ := id hg
  obtain ⟨t1, t2, t3⟩ := id ht
  obtain ⟨e0, e1, e2⟩ := tE_in (b := b) hqn
  have hki := tK_in (b := b) (n := n) (q := q1)
  obtain ⟨s0, s1, s2, s3, s4, s5⟩ := m_so_w (b := b) (n := n) (q := q1)
  clear hgX hkX h31X hfkX hb1X hb2X hb3X hb4X
  have hkn := m_known (X := X) (l := l) hl hM hg
  have hk12 := kw_eq (b := b) (n := n) (q := q1) (k := 12) (by decide)
  have hk13 := kw_eq (b := b) (n := n) (q := q1) (k := 13) (by decide)
  have hkin := kw_in (b := b) (n := n) (q := q1)
  have hkv : kw b n q1 = 13 := hk13.mpr hO
  have hup := tW_up hqn hO
  rw [hkv] at hkn
  have hdc := dc_dr (p := 1) (K := K1) (O := O1) hk.2.2.2.2
  have hlen := dc_len (p := 1) (K := K1) (C := cod O1)
  have hle := dc_le (p := 1) (K := K1) (C := cod O1)
  have hzd := zc_dr (p := 1) (K := K1) (O := O1)
  rw [hdc] at hlen hle
  have hlen : (cod (dr 1 K1 O1).2).length + (dr 1 K1 O1).1.length = (cod O1).length + K1.length := hlen
  have hle : (dr 1 K1 O1).1.length ≤ K1.length := hle
  refine x_iload_n dX12_expression_29 x_get_3_1 ?_
  refine r_if_eq (t := 325) dX12_expression_30 rfl ⟨by omega, by omega⟩ (fun hc30 => absurd hc30 (by omega)) (fun hc30 => ?_)
  refine x_aload_n dX12_expression_33 x_get_3_0 ?_
  refine x_callV (As := []) dX12_expression_34 w_12_176 (m_good hl hM h14d) (by assumption) (by assumption) rfl rfl (Nat.le_of_ble_eq_true rfl) (Nat.le_of_ble_eq_true rfl) (Nat.le_of_ble_eq_true rfl) (Nat.le_of_ble_eq_true rfl) (Nat.le_of_ble_eq_true rfl) ?_
  intro d hd
  obtain rfl := Eq.symm hd
  refine r_if_eq (t := 325) dX12_expression_37 rfl ⟨by omega, by omega⟩ (fun hc37 => absurd hc37 (by omega)) (fun hc37 => ?_)
  refine x_aload_n dX12_expression_40 x_get_3_0 ?_
  refine x_callV (As := []) dX12_expression_41 w_12_204 (hkn) (by assumption) (by assumption) rfl rfl (Nat.le_of_ble_eq_true rfl) (Nat.le_of_ble_eq_true rfl) (Nat.le_of_ble_eq_true rfl) (Nat.le_of_ble_eq_true rfl) (Nat.le_of_ble_eq_true rfl) ?_
  intro d hd
  obtain rfl := Eq.symm hd
  refine x_istore_n dX12_expression_44 (Nat.le_of_ble_eq_true rfl) rfl x_set_3_2 ?_
  refine x_iload_n dX12_expression_45 x_get_3_2 ?_
  refine x_bipush dX12_expression_46 rfl ?_
  refine r_icmp_eq (t := 57) dX12_expression_48 rfl ⟨by decide, by decide⟩ ⟨by decide, by decide⟩ (fun hc48 => absurd hc48 (by decide)) (fun hc48 => ?_)
  refine x_iload_n dX12_expression_51 x_get_3_2 ?_
  refine x_bipush dX12_expression_52 rfl ?_
  refine r_icmp_ne (t := 109) dX12_expression_54 rfl ⟨by decide, by decide⟩ ⟨by decide, by decide⟩ (fun hc54 => absurd hc54 (by decide)) (fun hc54 => ?_)
  refine x_aload_n dX12_expression_57 x_get_3_0 ?_
  refine x_iload_n dX12_expression_58 x_get_3_2 ?_
  refine x_bipush dX12_expression_59 rfl ?_
  refine r_icmp_ne (t := 68) dX12_expression_61 rfl ⟨by decide, by decide⟩ ⟨by decide, by decide⟩ (fun hc61 => ?_) (fun hc61 => absurd hc61 (by decide))
  refine x_iconst dX12_expression_68 ?_
  refine x_callV (As := [_]) dX12_expression_69 w_12_223 (m_drops hl hM hk (by omega) (by omega) (p := 1) (by decide)) (by assumption) (by assumption) rfl rfl (Nat.le_of_ble_eq_true rfl) (Nat.le_of_ble_eq_true rfl) (Nat.le_of_ble_eq_true rfl) (Nat.le_of_ble_eq_true rfl) (Nat.le_of_ble_eq_true rfl) ?_
  rintro d1 ⟨hk1, hf1⟩
  rw [hdc] at hk1
  have hk1 : yk (dr 1 K1 O1).1 (cod (dr 1 K1 O1).2) d1 := hk1
  have hg1 := yf_gs hg hf1
  refine x_aload_n dX12_expression_72 x_get_3_0 ?_
  refine x_iload_n dX12_expression_73 x_get_3_2 ?_
  refine x_bipush dX12_expression_74 rfl ?_
  refine r_icmp_ne (t := 83) dX12_expression_76 rfl ⟨by decide, by decide⟩ ⟨by decide, by decide⟩ (fun hc76 => ?_) (fun hc76 => absurd hc76 (by decide))
  refine x_iconst dX12_expression_83 ?_
  refine x_callV (As := [_]) dX12_expression_84 w_12_214 (m_wait hl hM hk1 (by omega) (s := (-7 : Int)) (v := 5) (Or.inr ⟨by decide, by decide⟩) rfl) (by assumption) (by assumption) rfl rfl (Nat.le_of_ble_eq_true rfl) (Nat.le_of_ble_eq_true rfl) (Nat.le_of_ble_eq_true rfl) (Nat.le_of_ble_eq_true rfl) (Nat.le_of_ble_eq_true rfl) ?_
  rintro d2 ⟨hk2, hf2⟩
  have hf12 := yf_tr hf1 hf2
  have hg2 := yf_gs hg hf12
  have h142 : d2 62 14 = 0 := by rw [hf12.2 14 (by decide) (by decide)]; exact h14d
  have h312 : d2 62 31 = (((f :: F0).length : Nat) : Int) := by rw [hf12.2 31 (by decide) (by decide)]; exact h31
  have h812 : d2 81 = d 81 := hf12.1 81 (by decide) (by decide) (by decide)
  have hxf2 : xf D d2 := xf_tr hxf (xf_yf hf12)
  refine x_aload_n dX12_expression_87 x_get_3_0 ?_
  refine x_getR dX12_expression_88 fX_12_71 n62 s62 (by rfl) ?_
  refine x_aload_n dX12_expression_91 x_get_3_0 ?_
  refine x_getI 31 dX12_expression_92 fX_12_208 rfl n62 s62 (by rfl) ?_
  try simp (disch := decide) only [x_up_s, x_up_n, x_up_up, x_u1_s, x_u1_n, h312]
  refine x_iconst dX12_expression_95 ?_
  refine x_zast dX12_expression_96 n81 s81 (by omega) (by omega) (by decide) (by omega) ?_
  try simp (disch := decide) only [x_up_s, x_up_n, x_up_up, x_u1_s, x_u1_n, h312]
  generalize hd3 : x_up d2 81 _ = d3
  have hd3 := hd3.symm
  have hg3 : gs b n q1 d3 := by rw [hd3]; exact gs_81 hg2
  have hk3 : yk ((-7 : Int) :: (dr 1 K1 O1).1) (cod (dr 1 K1 O1).2) d3 := by rw [hd3]; exact yk_81 hk2
  have e14 : d3 62 14 = 0 := by rw [hd3, x_up_n (by decide)]; exact h142
  have e31 : d3 62 31 = ((((false : Bool) :: F0).length : Nat) : Int) := by rw [hd3, x_up_n (by decide)]; exact h312
  have hfk3 : fk (false :: F0) (d3 81) := by rw [hd3, x_up_s, h812]; exact fk_hd (v := false) hfk
  have hxf3 : xf D d3 := by rw [hd3]; exact xf_tr hxf2 xf_81
  refine x_aload_n dX12_expression_97 x_get_3_0 ?_
  refine x_callV (As := []) dX12_expression_98 w_12_180 (m_goes hl hM hg3.1 e2 hg3.2.2.1) (by assumption) (by assumption) rfl rfl (Nat.le_of_ble_eq_true rfl) (Nat.le_of_ble_eq_true rfl) (Nat.le_of_ble_eq_true rfl) (Nat.le_of_ble_eq_true rfl) (Nat.le_of_ble_eq_true rfl) ?_
  rintro d4 ⟨hg4, hgf4⟩
  have hym4 : ym b n ((if (1 : Int) = 1 then 2 else 1, tE b n q1, (-7 : Int) :: (dr 1 K1 O1).1, (dr 1 K1 O1).2, false :: F0) : Ys) d4 := ym_mk hg4 (by rw [hgf4.2 14 (by decide)]; exact e14) (gf_yk hk3 hgf4) (by rw [hgf4.2 31 (by decide)]; exact e31) (by rw [hgf4.1 81 (by decide)]; exact hfk3) (by rw [List.length_cons]; omega) (by rw [List.length_cons]; omega) (by show _ = (if (-7 : Int) = 0 then 1 else 0) + zc (dr 1 K1 O1).1 + 1; rw [if_neg (by decide), hzd, Nat.zero_add]; exact hb3) hb4
  have hxf4 : xf D d4 := xf_tr hxf3 (xf_gf hgf4)
  refine x_aload_n dX12_expression_101 x_get_3_0 ?_
  refine x_iconst dX12_expression_102 ?_
  refine x_callV (As := [_]) dX12_expression_103 w_12_226 (m_operand hl hM (Or.inr rfl) hym4) (by assumption) (by assumption) rfl rfl (Nat.le_of_ble_eq_true rfl) (Nat.le_of_ble_eq_true rfl) (Nat.le_of_ble_eq_true rfl) (Nat.le_of_ble_eq_true rfl) (Nat.le_of_ble_eq_true rfl) ?_
  intro d5 hd5
  refine x_goto (t := 322) dX12_expression_106 rfl ?_
  refine x_goto (t := 29) dX12_expression_322 rfl ?_
  exact gO 2 1 _ _ _ _ d5 _ hup.1 hup.2 (lop_or hO) (by decide) ⟨d4, hxf4, hd5⟩
set_option maxHeartbeats 1500000 in
theorem ex_t1 {X : xC} {l : Launch} (hl : l.stackTraces = false) {N : Nat} {sh : xS} {D : xM} (hM : is_Md N sh) {b : Int → Int} {n : Nat} {s : Ys} {q1 : Nat} {K1 O1 : List Int} {F0 : List Bool} {d : xM} {o2 : Option Value} (hyd : ym b n (0, q1, K1, O1, false :: F0) d) (hxf : xf D d) (n12 : ¬ kw b n q1 = 12) (n13 : ¬ kw b n q1 = 13) (h60 : tM b n q1 60) (gO : ∀ (m' : Nat) (mn : Int) (q2 : Nat) (K2 O2 : List Int) (F2 : List Bool) (d5 : xM) (o2 : Option Value), q1 < q2 → q2 ≤ n → y_lop b n q1 K1 O1 (false :: F0) = .inr (m', q2, K2, O2, F2) → m' = (if mn = 1 then 2 else 1) → (∃ d4, xf D d4 ∧ yq b n ((if mn = 1 then 2 else 1, q2, K2, O2, F2) : Ys) d4 d5) → x_W (X, l, yX12_expression, cX12_expression, 3, none, x_room 5 0 0, 0, 0, (.inl none), N, sh, (ye b n s D), false, []) 29 [some (.ref (x_b X + 62)), some (.int (xI 1)), o2] [] 0 0 false N sh d5) : x_W (X, l, yX12_expression, cX12_expression, 3, none, x_room 5 0 0, 0, 0, (.inl none), N, sh, (ye b n s D), false, []) 29 [some (.ref (x_b X + 62)), some (.int (xI 1)), o2] [] 0 0 false N sh d := by
  have s62 := md_62 hM
  have n62 : 62 < N := md_n hM (by decide)
  have s81 := md_81 hM
  have n81 : 81 < N := md_n hM (by decide)
  obtain ⟨hgX, h14d, hkX, h31X, hfkX, ⟨hb1X, hb2X⟩, hb3X, hb4X⟩ := id hyd
  have hg : gs b n q1 d := hgX
  have hk : yk K1 (cod O1) d := hkX
  have h31 : d 62 31 = ((false :: F0).length : Nat) := h31X
  have hfk : fk (false :: F0) (d 81) := hfkX
  have hb1 : (cod O1).length + K1.length + 8 ≤ 2 * q1 := hb1X
  have hb2 : K1.length ≤ q1 := hb2X
  have hb3 : (false :: F0).length = zc K1 + 1 := hb3X
  have hb4 : (false :: F0).length ≤ 6 := hb4X
  obtain ⟨ht, hqn, g18, g20, g19, g21, g22, g23, g24⟩ := id hg
  obtain ⟨t1, t2, t3⟩ := id ht
  obtain ⟨e0, e1, e2⟩ := tE_in (b := b) hqn
  have hki := tK_in (b := b) (n := n) (q := q1)
  obtain ⟨s0, s1, s2, s3, s4, s5⟩ := m_so_w (b := b) (n := n) (q := q1)
  clear hgX hkX h31X hfkX hb1X hb2X hb3X hb4X
  have hkn := m_known (X := X) (l := l) hl hM hg
  have hk12 := kw_eq (b := b) (n := n) (q := q1) (k := 12) (by decide)
  have hk13 := kw_eq (b := b) (n := n) (q := q1) (k := 13) (by decide)
  have hkin := kw_in (b := b) (n := n) (q := q1)
  have h312 := h31
  have hflag0 : d 81 (((false :: F0).length : Nat) : Int) = 0 := by
    rw [show (((false :: F0).length : Nat) : Int) = (F0.length : Int) + 1 by rw [List.length_cons]; push_cast; rfl]
    exact hfk.1
  have hup : q1 < tE b n q1 ∧ tE b n q1 ≤ n := tM_up hqn h60
  have hlop := lop_tst (K := K1) (O := O1) (F0 := F0) (b := b) (n := n) (q := q1) (Or.inl h60)
  rw [if_pos h60] at hlop
  have hdc := dc_dr (p := 4) (K := K1) (O := O1) hk.2.2.2.2
  have hlen := dc_len (p := 4) (K := K1) (C := cod O1)
  have hle := dc_le (p := 4) (K := K1) (C := cod O1)
  have hzd := zc_dr (p := 4) (K := K1) (O := O1)
  rw [hdc] at hlen hle
  have hlen : (cod (dr 4 K1 O1).2).length + (dr 4 K1 O1).1.length = (cod O1).length + K1.length := hlen
  have hle : (dr 4 K1 O1).1.length ≤ K1.length := hle
  refine x_iload_n dX12_expression_29 x_get_3_1 ?_
  refine r_if_eq (t := 325) dX12_expression_30 rfl ⟨by omega, by omega⟩ (fun hc30 => absurd hc30 (by omega)) (fun hc30 => ?_)
  refine x_aload_n dX12_expression_33 x_get_3_0 ?_
  refine x_callV (As := []) dX12_expression_34 w_12_176 (m_good hl hM h14d) (by assumption) (by assumption) rfl rfl (Nat.le_of_ble_eq_true rfl) (Nat.le_of_ble_eq_true rfl) (Nat.le_of_ble_eq_true rfl) (Nat.le_of_ble_eq_true rfl) (Nat.le_of_ble_eq_true rfl) ?_
  intro d hd
  obtain rfl := Eq.symm hd
  refine r_if_eq (t := 325) dX12_expression_37 rfl ⟨by omega, by omega⟩ (fun hc37 => absurd hc37 (by omega)) (fun hc37 => ?_)
  refine x_aload_n dX12_expression_40 x_get_3_0 ?_
  refine x_callV (As := []) dX12_expression_41 w_12_204 (hkn) (by assumption) (by assumption) rfl rfl (Nat.le_of_ble_eq_true rfl) (Nat.le_of_ble_eq_true rfl) (Nat.le_of_ble_eq_true rfl) (Nat.le_of_ble_eq_true rfl) (Nat.le_of_ble_eq_true rfl) ?_
  intro d hd
  obtain rfl := Eq.symm hd
  refine x_istore_n dX12_expression_44 (Nat.le_of_ble_eq_true rfl) rfl x_set_3_2 ?_
  refine x_iload_n dX12_expression_45 x_get_3_2 ?_
  refine x_bipush dX12_expression_46 rfl ?_
  refine r_icmp_eq (t := 57) dX12_expression_48 rfl ⟨by omega, by omega⟩ ⟨by omega, by omega⟩ (fun hc48 => absurd hc48 (by omega)) (fun hc48 => ?_)
  refine x_iload_n dX12_expression_51 x_get_3_2 ?_
  refine x_bipush dX12_expression_52 rfl ?_
  refine r_icmp_ne (t := 109) dX12_expression_54 rfl ⟨by omega, by omega⟩ ⟨by omega, by omega⟩ (fun hc54 => ?_) (fun hc54 => absurd hc54 (by omega))
  refine x_aload_n dX12_expression_109 x_get_3_0 ?_
  refine x_bipush dX12_expression_110 rfl ?_
  refine x_callV (As := [_]) dX12_expression_112 w_12_211 (m_sign hl hM hg ⟨by decide, by decide⟩) (by assumption) (by assumption) rfl rfl (Nat.le_of_ble_eq_true rfl) (Nat.le_of_ble_eq_true rfl) (Nat.le_of_ble_eq_true rfl) (Nat.le_of_ble_eq_true rfl) (Nat.le_of_ble_eq_true rfl) ?_
  intro d hd
  obtain rfl := Eq.symm hd
  refine b_ifne (t := 127) dX12_expression_115 rfl (fun hc115 => ?_) (fun hc115 => absurd hc115 (fun hh => hh h60))
  refine x_aload_n dX12_expression_127 x_get_3_0 ?_
  refine x_getR dX12_expression_128 fX_12_71 n62 s62 (by rfl) ?_
  refine x_aload_n dX12_expression_131 x_get_3_0 ?_
  refine x_getI 31 dX12_expression_132 fX_12_208 rfl n62 s62 (by rfl) ?_
  try simp (disch := decide) only [x_up_s, x_up_n, x_up_up, x_u1_s, x_u1_n, h31, h312, hflag0]
  refine x_zald dX12_expression_135 n81 s81 (by omega) (by omega) (by decide) ?_
  try simp (disch := decide) only [x_up_s, x_up_n, x_up_up, x_u1_s, x_u1_n, h31, h312, hflag0]
  refine r_if_ne (t := 186) dX12_expression_136 rfl ⟨by omega, by omega⟩ (fun hc136 => absurd hc136 (by omega)) (fun hc136 => ?_)
  refine x_aload_n dX12_expression_139 x_get_3_0 ?_
  refine x_iconst dX12_expression_140 ?_
  refine x_callV (As := [_]) dX12_expression_141 w_12_223 (m_drops hl hM hk (by omega) (by omega) (p := 4) (by decide)) (by assumption) (by assumption) rfl rfl (Nat.le_of_ble_eq_true rfl) (Nat.le_of_ble_eq_true rfl) (Nat.le_of_ble_eq_true rfl) (Nat.le_of_ble_eq_true rfl) (Nat.le_of_ble_eq_true rfl) ?_
  rintro d1 ⟨hk1, hf1⟩
  rw [hdc] at hk1
  have hk1 : yk (dr 4 K1 O1).1 (cod (dr 4 K1 O1).2) d1 := hk1
  have hg1 := yf_gs hg hf1
  refine x_aload_n dX12_expression_144 x_get_3_0 ?_
  refine x_aload_n dX12_expression_145 x_get_3_0 ?_
  refine x_bipush dX12_expression_146 rfl ?_
  refine x_callV (As := [_]) dX12_expression_148 w_12_211 (m_sign hl hM hg1 ⟨by decide, by decide⟩) (by assumption) (by assumption) rfl rfl (Nat.le_of_ble_eq_true rfl) (Nat.le_of_ble_eq_true rfl) (Nat.le_of_ble_eq_true rfl) (Nat.le_of_ble_eq_true rfl) (Nat.le_of_ble_eq_true rfl) ?_
  intro d hd
  obtain rfl := Eq.symm hd
  refine b_ifeq (t := 159) dX12_expression_151 rfl (fun hc151 => absurd hc151 (fun hh => hh h60)) (fun hc151 => ?_)
  refine x_bipush dX12_expression_154 rfl ?_
  refine x_goto (t := 161) dX12_expression_156 rfl ?_
  refine x_callV (As := [_]) dX12_expression_161 w_12_214 (m_wait hl hM hk1 (by omega) (s := (-10 : Int)) (v := 6) (Or.inr ⟨by decide, by decide⟩) rfl) (by assumption) (by assumption) rfl rfl (Nat.le_of_ble_eq_true rfl) (Nat.le_of_ble_eq_true rfl) (Nat.le_of_ble_eq_true rfl) (Nat.le_of_ble_eq_true rfl) (Nat.le_of_ble_eq_true rfl) ?_
  rintro d2 ⟨hk2, hf2⟩
  have hf12 := yf_tr hf1 hf2
  have hg2 := yf_gs hg hf12
  have h142 : d2 62 14 = 0 := by rw [hf12.2 14 (by decide) (by decide)]; exact h14d
  have h312 : d2 62 31 = (((false :: F0).length : Nat) : Int) := by rw [hf12.2 31 (by decide) (by decide)]; exact h31
  have h812 : d2 81 = d 81 := hf12.1 81 (by decide) (by decide) (by decide)
  have hxf2 : xf D d2 := xf_tr hxf (xf_yf hf12)
  refine x_aload_n dX12_expression_164 x_get_3_0 ?_
  refine x_getR dX12_expression_165 fX_12_71 n62 s62 (by rfl) ?_
  refine x_aload_n dX12_expression_168 x_get_3_0 ?_
  refine x_getI 31 dX12_expression_169 fX_12_208 rfl n62 s62 (by rfl) ?_
  try simp (disch := decide) only [x_up_s, x_up_n, x_up_up, x_u1_s, x_u1_n, h31, h312, hflag0]
  refine x_iconst dX12_expression_172 ?_
  refine x_zast dX12_expression_173 n81 s81 (by omega) (by omega) (by decide) (by omega) ?_
  try simp (disch := decide) only [x_up_s, x_up_n, x_up_up, x_u1_s, x_u1_n, h31, h312, hflag0]
  generalize hd3 : x_up d2 81 _ = d3
  have hd3 := hd3.symm
  have hg3 : gs b n q1 d3 := by rw [hd3]; exact gs_81 hg2
  have hk3 : yk ((-10 : Int) :: (dr 4 K1 O1).1) (cod (dr 4 K1 O1).2) d3 := by rw [hd3]; exact yk_81 hk2
  have e14 : d3 62 14 = 0 := by rw [hd3, x_up_n (by decide)]; exact h142
  have e31 : d3 62 31 = ((((true : Bool) :: F0).length : Nat) : Int) := by rw [hd3, x_up_n (by decide)]; exact h312
  have hfk3 : fk (true :: F0) (d3 81) := by rw [hd3, x_up_s, h812]; exact fk_hd (v := true) hfk
  have hxf3 : xf D d3 := by rw [hd3]; exact xf_tr hxf2 xf_81
  refine x_aload_n dX12_expression_174 x_get_3_0 ?_
  refine x_callV (As := []) dX12_expression_175 w_12_180 (m_goes hl hM hg3.1 e2 hg3.2.2.1) (by assumption) (by assumption) rfl rfl (Nat.le_of_ble_eq_true rfl) (Nat.le_of_ble_eq_true rfl) (Nat.le_of_ble_eq_true rfl) (Nat.le_of_ble_eq_true rfl) (Nat.le_of_ble_eq_true rfl) ?_
  rintro d4 ⟨hg4, hgf4⟩
  have hym4 : ym b n ((if (0 : Int) = 1 then 2 else 1, tE b n q1, (-10 : Int) :: (dr 4 K1 O1).1, (dr 4 K1 O1).2, true :: F0) : Ys) d4 := ym_mk hg4 (by rw [hgf4.2 14 (by decide)]; exact e14) (gf_yk hk3 hgf4) (by rw [hgf4.2 31 (by decide)]; exact e31) (by rw [hgf4.1 81 (by decide)]; exact hfk3) (by rw [List.length_cons]; omega) (by rw [List.length_cons]; omega) (by show _ = (if (-10 : Int) = 0 then 1 else 0) + zc (dr 4 K1 O1).1 + 1; rw [if_neg (by decide), hzd, Nat.zero_add]; exact hb3) hb4
  have hxf4 : xf D d4 := xf_tr hxf3 (xf_gf hgf4)
  refine x_aload_n dX12_expression_178 x_get_3_0 ?_
  refine x_iconst dX12_expression_179 ?_
  refine x_callV (As := [_]) dX12_expression_180 w_12_226 (m_operand hl hM (Or.inl rfl) hym4) (by assumption) (by assumption) rfl rfl (Nat.le_of_ble_eq_true rfl) (Nat.le_of_ble_eq_true rfl) (Nat.le_of_ble_eq_true rfl) (Nat.le_of_ble_eq_true rfl) (Nat.le_of_ble_eq_true rfl) ?_
  intro d5 hd5
  refine x_goto (t := 322) dX12_expression_183 rfl ?_
  refine x_goto (t := 29) dX12_expression_322 rfl ?_
  exact gO 1 0 _ _ _ _ d5 _ hup.1 hup.2 hlop (by decide) ⟨d4, hxf4, hd5⟩
set_option maxHeartbeats 1500000 in
theorem ex_t2 {X : xC} {l : Launch} (hl : l.stackTraces = false) {N : Nat} {sh : xS} {D : xM} (hM : is_Md N sh) {b : Int → Int} {n : Nat} {s : Ys} {q1 : Nat} {K1 O1 : List Int} {F0 : List Bool} {d : xM} {o2 : Option Value} (hyd : ym b n (0, q1, K1, O1, false :: F0) d) (hxf : xf D d) (n12 : ¬ kw b n q1 = 12) (n13 : ¬ kw b n q1 = 13) (h60 : ¬ tM b n q1 60) (h61 : tM b n q1 61) (gO : ∀ (m' : Nat) (mn : Int) (q2 : Nat) (K2 O2 : List Int) (F2 : List Bool) (d5 : xM) (o2 : Option Value), q1 < q2 → q2 ≤ n → y_lop b n q1 K1 O1 (false :: F0) = .inr (m', q2, K2, O2, F2) → m' = (if mn = 1 then 2 else 1) → (∃ d4, xf D d4 ∧ yq b n ((if mn = 1 then 2 else 1, q2, K2, O2, F2) : Ys) d4 d5) → x_W (X, l, yX12_expression, cX12_expression, 3, none, x_room 5 0 0, 0, 0, (.inl none), N, sh, (ye b n s D), false, []) 29 [some (.ref (x_b X + 62)), some (.int (xI 1)), o2] [] 0 0 false N sh d5) : x_W (X, l, yX12_expression, cX12_expression, 3, none, x_room 5 0 0, 0, 0, (.inl none), N, sh, (ye b n s D), false, []) 29 [some (.ref (x_b X + 62)), some (.int (xI 1)), o2] [] 0 0 false N sh d := by
  have s62 := md_62 hM
  have n62 : 62 < N := md_n hM (by decide)
  have s81 := md_81 hM
  have n81 : 81 < N := md_n hM (by decide)
  obtain ⟨hgX, h14d, hkX, h31X, hfkX, ⟨hb1X, hb2X⟩, hb3X, hb4X⟩ := id hyd
  have hg : gs b n q1 d := hgX
  have hk : yk K1 (cod O1) d := hkX
  have h31 : d 62 31 = ((false :: F0).length : Nat) := h31X
  have hfk : fk (false :: F0) (d 81) := hfkX
  have hb1 : (cod O1).length + K1.length + 8 ≤ 2 * q1 := hb1X
  have hb2 : K1.length ≤ q1 := hb2X
  have hb3 : (false :: F0).length = zc K1 + 1 := hb3X
  have hb4 : (false :: F0).length ≤ 6 := hb4X
  obtain ⟨ht, hqn, g18, g20, g19, g21, g22, g23, g24⟩ := id hg
  obtain ⟨t1, t2, t3⟩ := id ht
  obtain ⟨e0, e1, e2⟩ := tE_in (b := b) hqn
  have hki := tK_in (b := b) (n := n) (q := q1)
  obtain ⟨s0, s1, s2, s3, s4, s5⟩ := m_so_w (b := b) (n := n) (q := q1)
  clear hgX hkX h31X hfkX hb1X hb2X hb3X hb4X
  have hkn := m_known (X := X) (l := l) hl hM hg
  have hk12 := kw_eq (b := b) (n := n) (q := q1) (k := 12) (by decide)
  have hk13 := kw_eq (b := b) (n := n) (q := q1) (k := 13) (by decide)
  have hkin := kw_in (b := b) (n := n) (q := q1)
  have h312 := h31
  have hflag0 : d 81 (((false :: F0).length : Nat) : Int) = 0 := by
    rw [show (((false :: F0).length : Nat) : Int) = (F0.length : Int) + 1 by rw [List.length_cons]; push_cast; rfl]
    exact hfk.1
  have hup : q1 < tE b n q1 ∧ tE b n q1 ≤ n := tM_up hqn h61
  have hlop := lop_tst (K := K1) (O := O1) (F0 := F0) (b := b) (n := n) (q := q1) (Or.inr h61)
  rw [if_neg h60] at hlop
  have hdc := dc_dr (p := 4) (K := K1) (O := O1) hk.2.2.2.2
  have hlen := dc_len (p := 4) (K := K1) (C := cod O1)
  have hle := dc_le (p := 4) (K := K1) (C := cod O1)
  have hzd := zc_dr (p := 4) (K := K1) (O := O1)
  rw [hdc] at hlen hle
  have hlen : (cod (dr 4 K1 O1).2).length + (dr 4 K1 O1).1.length = (cod O1).length + K1.length := hlen
  have hle : (dr 4 K1 O1).1.length ≤ K1.length := hle
  refine x_iload_n dX12_expression_29 x_get_3_1 ?_
  refine r_if_eq (t := 325) dX12_expression_30 rfl ⟨by omega, by omega⟩ (fun hc30 => absurd hc30 (by omega)) (fun hc30 => ?_)
  refine x_aload_n dX12_expression_33 x_get_3_0 ?_
  refine x_callV (As := []) dX12_expression_34 w_12_176 (m_good hl hM h14d) (by assumption) (by assumption) rfl rfl (Nat.le_of_ble_eq_true rfl) (Nat.le_of_ble_eq_true rfl) (Nat.le_of_ble_eq_true rfl) (Nat.le_of_ble_eq_true rfl) (Nat.le_of_ble_eq_true rfl) ?_
  intro d hd
  obtain rfl := Eq.symm hd
  refine r_if_eq (t := 325) dX12_expression_37 rfl ⟨by omega, by omega⟩ (fun hc37 => absurd hc37 (by omega)) (fun hc37 => ?_)
  refine x_aload_n dX12_expression_40 x_get_3_0 ?_
  refine x_callV (As := []) dX12_expression_41 w_12_204 (hkn) (by assumption) (by assumption) rfl rfl (Nat.le_of_ble_eq_true rfl) (Nat.le_of_ble_eq_true rfl) (Nat.le_of_ble_eq_true rfl) (Nat.le_of_ble_eq_true rfl) (Nat.le_of_ble_eq_true rfl) ?_
  intro d hd
  obtain rfl := Eq.symm hd
  refine x_istore_n dX12_expression_44 (Nat.le_of_ble_eq_true rfl) rfl x_set_3_2 ?_
  refine x_iload_n dX12_expression_45 x_get_3_2 ?_
  refine x_bipush dX12_expression_46 rfl ?_
  refine r_icmp_eq (t := 57) dX12_expression_48 rfl ⟨by omega, by omega⟩ ⟨by omega, by omega⟩ (fun hc48 => absurd hc48 (by omega)) (fun hc48 => ?_)
  refine x_iload_n dX12_expression_51 x_get_3_2 ?_
  refine x_bipush dX12_expression_52 rfl ?_
  refine r_icmp_ne (t := 109) dX12_expression_54 rfl ⟨by omega, by omega⟩ ⟨by omega, by omega⟩ (fun hc54 => ?_) (fun hc54 => absurd hc54 (by omega))
  refine x_aload_n dX12_expression_109 x_get_3_0 ?_
  refine x_bipush dX12_expression_110 rfl ?_
  refine x_callV (As := [_]) dX12_expression_112 w_12_211 (m_sign hl hM hg ⟨by decide, by decide⟩) (by assumption) (by assumption) rfl rfl (Nat.le_of_ble_eq_true rfl) (Nat.le_of_ble_eq_true rfl) (Nat.le_of_ble_eq_true rfl) (Nat.le_of_ble_eq_true rfl) (Nat.le_of_ble_eq_true rfl) ?_
  intro d hd
  obtain rfl := Eq.symm hd
  refine b_ifne (t := 127) dX12_expression_115 rfl (fun hc115 => absurd hc115 (h60)) (fun hc115 => ?_)
  refine x_aload_n dX12_expression_118 x_get_3_0 ?_
  refine x_bipush dX12_expression_119 rfl ?_
  refine x_callV (As := [_]) dX12_expression_121 w_12_211 (m_sign hl hM hg ⟨by decide, by decide⟩) (by assumption) (by assumption) rfl rfl (Nat.le_of_ble_eq_true rfl) (Nat.le_of_ble_eq_true rfl) (Nat.le_of_ble_eq_true rfl) (Nat.le_of_ble_eq_true rfl) (Nat.le_of_ble_eq_true rfl) ?_
  intro d hd
  obtain rfl := Eq.symm hd
  refine b_ifeq (t := 186) dX12_expression_124 rfl (fun hc124 => absurd hc124 (fun hh => hh h61)) (fun hc124 => ?_)
  refine x_aload_n dX12_expression_127 x_get_3_0 ?_
  refine x_getR dX12_expression_128 fX_12_71 n62 s62 (by rfl) ?_
  refine x_aload_n dX12_expression_131 x_get_3_0 ?_
  refine x_getI 31 dX12_expression_132 fX_12_208 rfl n62 s62 (by rfl) ?_
  try simp (disch := decide) only [x_up_s, x_up_n, x_up_up, x_u1_s, x_u1_n, h31, h312, hflag0]
  refine x_zald dX12_expression_135 n81 s81 (by omega) (by omega) (by decide) ?_
  try simp (disch := decide) only [x_up_s, x_up_n, x_up_up, x_u1_s, x_u1_n, h31, h312, hflag0]
  refine r_if_ne (t := 186) dX12_expression_136 rfl ⟨by omega, by omega⟩ (fun hc136 => absurd hc136 (by omega)) (fun hc136 => ?_)
  refine x_aload_n dX12_expression_139 x_get_3_0 ?_
  refine x_iconst dX12_expression_140 ?_
  refine x_callV (As := [_]) dX12_expression_141 w_12_223 (m_drops hl hM hk (by omega) (by omega) (p := 4) (by decide)) (by assumption) (by assumption) rfl rfl (Nat.le_of_ble_eq_true rfl) (Nat.le_of_ble_eq_true rfl) (Nat.le_of_ble_eq_true rfl) (Nat.le_of_ble_eq_true rfl) (Nat.le_of_ble_eq_true rfl) ?_
  rintro d1 ⟨hk1, hf1⟩
  rw [hdc] at hk1
  have hk1 : yk (dr 4 K1 O1).1 (cod (dr 4 K1 O1).2) d1 := hk1
  have hg1 := yf_gs hg hf1
  refine x_aload_n dX12_expression_144 x_get_3_0 ?_
  refine x_aload_n dX12_expression_145 x_get_3_0 ?_
  refine x_bipush dX12_expression_146 rfl ?_
  refine x_callV (As := [_]) dX12_expression_148 w_12_211 (m_sign hl hM hg1 ⟨by decide, by decide⟩) (by assumption) (by assumption) rfl rfl (Nat.le_of_ble_eq_true rfl) (Nat.le_of_ble_eq_true rfl) (Nat.le_of_ble_eq_true rfl) (Nat.le_of_ble_eq_true rfl) (Nat.le_of_ble_eq_true rfl) ?_
  intro d hd
  obtain rfl := Eq.symm hd
  refine b_ifeq (t := 159) dX12_expression_151 rfl (fun hc151 => ?_) (fun hc151 => absurd hc151 (h60))
  refine x_bipush dX12_expression_159 rfl ?_
  refine x_callV (As := [_]) dX12_expression_161 w_12_214 (m_wait hl hM hk1 (by omega) (s := (-11 : Int)) (v := 7) (Or.inr ⟨by decide, by decide⟩) rfl) (by assumption) (by assumption) rfl rfl (Nat.le_of_ble_eq_true rfl) (Nat.le_of_ble_eq_true rfl) (Nat.le_of_ble_eq_true rfl) (Nat.le_of_ble_eq_true rfl) (Nat.le_of_ble_eq_true rfl) ?_
  rintro d2 ⟨hk2, hf2⟩
  have hf12 := yf_tr hf1 hf2
  have hg2 := yf_gs hg hf12
  have h142 : d2 62 14 = 0 := by rw [hf12.2 14 (by decide) (by decide)]; exact h14d
  have h312 : d2 62 31 = (((false :: F0).length : Nat) : Int) := by rw [hf12.2 31 (by decide) (by decide)]; exact h31
  have h812 : d2 81 = d 81 := hf12.1 81 (by decide) (by decide) (by decide)
  have hxf2 : xf D d2 := xf_tr hxf (xf_yf hf12)
  refine x_aload_n dX12_expression_164 x_get_3_0 ?_
  refine x_getR dX12_expression_165 fX_12_71 n62 s62 (by rfl) ?_
  refine x_aload_n dX12_expression_168 x_get_3_0 ?_
  refine x_getI 31 dX12_expression_169 fX_12_208 rfl n62 s62 (by rfl) ?_
  try simp (disch := decide) only [x_up_s, x_up_n, x_up_up, x_u1_s, x_u1_n, h31, h312, hflag0]
  refine x_iconst dX12_expression_172 ?_
  refine x_zast dX12_expression_173 n81 s81 (by omega) (by omega) (by decide) (by omega) ?_
  try simp (disch := decide) only [x_up_s, x_up_n, x_up_up, x_u1_s, x_u1_n, h31, h312, hflag0]
  generalize hd3 : x_up d2 81 _ = d3
  have hd3 := hd3.symm
  have hg3 : gs b n q1 d3 := by rw [hd3]; exact gs_81 hg2
  have hk3 : yk ((-11 : Int) :: (dr 4 K1 O1).1) (cod (dr 4 K1 O1).2) d3 := by rw [hd3]; exact yk_81 hk2
  have e14 : d3 62 14 = 0 := by rw [hd3, x_up_n (by decide)]; exact h142
  have e31 : d3 62 31 = ((((true : Bool) :: F0).length : Nat) : Int) := by rw [hd3, x_up_n (by decide)]; exact h312
  have hfk3 : fk (true :: F0) (d3 81) := by rw [hd3, x_up_s, h812]; exact fk_hd (v := true) hfk
  have hxf3 : xf D d3 := by rw [hd3]; exact xf_tr hxf2 xf_81
  refine x_aload_n dX12_expression_174 x_get_3_0 ?_
  refine x_callV (As := []) dX12_expression_175 w_12_180 (m_goes hl hM hg3.1 e2 hg3.2.2.1) (by assumption) (by assumption) rfl rfl (Nat.le_of_ble_eq_true rfl) (Nat.le_of_ble_eq_true rfl) (Nat.le_of_ble_eq_true rfl) (Nat.le_of_ble_eq_true rfl) (Nat.le_of_ble_eq_true rfl) ?_
  rintro d4 ⟨hg4, hgf4⟩
  have hym4 : ym b n ((if (0 : Int) = 1 then 2 else 1, tE b n q1, (-11 : Int) :: (dr 4 K1 O1).1, (dr 4 K1 O1).2, true :: F0) : Ys) d4 := ym_mk hg4 (by rw [hgf4.2 14 (by decide)]; exact e14) (gf_yk hk3 hgf4) (by rw [hgf4.2 31 (by decide)]; exact e31) (by rw [hgf4.1 81 (by decide)]; exact hfk3) (by rw [List.length_cons]; omega) (by rw [List.length_cons]; omega) (by show _ = (if (-11 : Int) = 0 then 1 else 0) + zc (dr 4 K1 O1).1 + 1; rw [if_neg (by decide), hzd, Nat.zero_add]; exact hb3) hb4
  have hxf4 : xf D d4 := xf_tr hxf3 (xf_gf hgf4)
  refine x_aload_n dX12_expression_178 x_get_3_0 ?_
  refine x_iconst dX12_expression_179 ?_
  refine x_callV (As := [_]) dX12_expression_180 w_12_226 (m_operand hl hM (Or.inl rfl) hym4) (by assumption) (by assumption) rfl rfl (Nat.le_of_ble_eq_true rfl) (Nat.le_of_ble_eq_true rfl) (Nat.le_of_ble_eq_true rfl) (Nat.le_of_ble_eq_true rfl) (Nat.le_of_ble_eq_true rfl) ?_
  intro d5 hd5
  refine x_goto (t := 322) dX12_expression_183 rfl ?_
  refine x_goto (t := 29) dX12_expression_322 rfl ?_
  exact gO 1 0 _ _ _ _ d5 _ hup.1 hup.2 hlop (by decide) ⟨d4, hxf4, hd5⟩
set_option maxHeartbeats 1500000 in
theorem ex_past1 {X : xC} {l : Launch} (hl : l.stackTraces = false) {N : Nat} {sh : xS} {D : xM} (hM : is_Md N sh) {b : Int → Int} {n : Nat} {s : Ys} {q1 : Nat} {K1 O1 : List Int} {f : Bool} {F0 : List Bool} {d : xM} {o2 : Option Value} (hyd : ym b n (0, q1, K1, O1, f :: F0) d) (hxf : xf D d) (n12 : ¬ kw b n q1 = 12) (n13 : ¬ kw b n q1 = 13) (h60 : tM b n q1 60) (hf1 : f = true) (hnext : ∀ o2 : Option Value, x_W (X, l, yX12_expression, cX12_expression, 3, none, x_room 5 0 0, 0, 0, (.inl none), N, sh, (ye b n s D), false, []) 186 [some (.ref (x_b X + 62)), some (.int (xI 1)), o2] [] 0 0 false N sh d) : x_W (X, l, yX12_expression, cX12_expression, 3, none, x_room 5 0 0, 0, 0, (.inl none), N, sh, (ye b n s D), false, []) 29 [some (.ref (x_b X + 62)), some (.int (xI 1)), o2] [] 0 0 false N sh d := by
  have s62 := md_62 hM
  have n62 : 62 < N := md_n hM (by decide)
  have s81 := md_81 hM
  have n81 : 81 < N := md_n hM (by decide)
  obtain ⟨hgX, h14d, hkX, h31X, hfkX, ⟨hb1X, hb2X⟩, hb3X, hb4X⟩ := id hyd
  have hg : gs b n q1 d := hgX
  have hk : yk K1 (cod O1) d := hkX
  have h31 : d 62 31 = ((f :: F0).length : Nat) := h31X
  have hfk : fk (f :: F0) (d 81) := hfkX
  have hb1 : (cod O1).length + K1.length + 8 ≤ 2 * q1 := hb1X
  have hb2 : K1.length ≤ q1 := hb2X
  have hb3 : (f :: F0).length = zc K1 + 1 := hb3X
  have hb4 : (f :: F0).length ≤ 6 := hb4X
  obtain ⟨ht, hqn, g18, g20, g19, g21, g22, g23, g24⟩ := id hg
  obtain ⟨t1, t2, t3⟩ := id ht
  obtain ⟨e0, e1, e2⟩ := tE_in (b := b) hqn
  have hki := tK_in (b := b) (n := n) (q := q1)
  obtain ⟨s0, s1, s2, s3, s4, s5⟩ := m_so_w (b := b) (n := n) (q := q1)
  clear hgX hkX h31X hfkX hb1X hb2X hb3X hb4X
  have hkn := m_known (X := X) (l := l) hl hM hg
  have hk12 := kw_eq (b := b) (n := n) (q := q1) (k := 12) (by decide)
  have hk13 := kw_eq (b := b) (n := n) (q := q1) (k := 13) (by decide)
  have hkin := kw_in (b := b) (n := n) (q := q1)
  have hflag : d 81 (((f :: F0).length : Nat) : Int) = (if f = true then 1 else 0) := by
    rw [show (((f :: F0).length : Nat) : Int) = (F0.length : Int) + 1 by rw [List.length_cons]; push_cast; rfl]
    exact hfk.1
  have hflag1 : d 81 (((f :: F0).length : Nat) : Int) = 1 := by rw [hflag, if_pos hf1]
  clear hflag
  refine x_iload_n dX12_expression_29 x_get_3_1 ?_
  refine r_if_eq (t := 325) dX12_expression_30 rfl ⟨by omega, by omega⟩ (fun hc30 => absurd hc30 (by omega)) (fun hc30 => ?_)
  refine x_aload_n dX12_expression_33 x_get_3_0 ?_
  refine x_callV (As := []) dX12_expression_34 w_12_176 (m_good hl hM h14d) (by assumption) (by assumption) rfl rfl (Nat.le_of_ble_eq_true rfl) (Nat.le_of_ble_eq_true rfl) (Nat.le_of_ble_eq_true rfl) (Nat.le_of_ble_eq_true rfl) (Nat.le_of_ble_eq_true rfl) ?_
  intro d hd
  obtain rfl := Eq.symm hd
  refine r_if_eq (t := 325) dX12_expression_37 rfl ⟨by omega, by omega⟩ (fun hc37 => absurd hc37 (by omega)) (fun hc37 => ?_)
  refine x_aload_n dX12_expression_40 x_get_3_0 ?_
  refine x_callV (As := []) dX12_expression_41 w_12_204 (hkn) (by assumption) (by assumption) rfl rfl (Nat.le_of_ble_eq_true rfl) (Nat.le_of_ble_eq_true rfl) (Nat.le_of_ble_eq_true rfl) (Nat.le_of_ble_eq_true rfl) (Nat.le_of_ble_eq_true rfl) ?_
  intro d hd
  obtain rfl := Eq.symm hd
  refine x_istore_n dX12_expression_44 (Nat.le_of_ble_eq_true rfl) rfl x_set_3_2 ?_
  refine x_iload_n dX12_expression_45 x_get_3_2 ?_
  refine x_bipush dX12_expression_46 rfl ?_
  refine r_icmp_eq (t := 57) dX12_expression_48 rfl ⟨by omega, by omega⟩ ⟨by omega, by omega⟩ (fun hc48 => absurd hc48 (by omega)) (fun hc48 => ?_)
  refine x_iload_n dX12_expression_51 x_get_3_2 ?_
  refine x_bipush dX12_expression_52 rfl ?_
  refine r_icmp_ne (t := 109) dX12_expression_54 rfl ⟨by omega, by omega⟩ ⟨by omega, by omega⟩ (fun hc54 => ?_) (fun hc54 => absurd hc54 (by omega))
  refine x_aload_n dX12_expression_109 x_get_3_0 ?_
  refine x_bipush dX12_expression_110 rfl ?_
  refine x_callV (As := [_]) dX12_expression_112 w_12_211 (m_sign hl hM hg ⟨by decide, by decide⟩) (by assumption) (by assumption) rfl rfl (Nat.le_of_ble_eq_true rfl) (Nat.le_of_ble_eq_true rfl) (Nat.le_of_ble_eq_true rfl) (Nat.le_of_ble_eq_true rfl) (Nat.le_of_ble_eq_true rfl) ?_
  intro d hd
  obtain rfl := Eq.symm hd
  refine b_ifne (t := 127) dX12_expression_115 rfl (fun hc115 => ?_) (fun hc115 => absurd hc115 (fun hh => hh h60))
  refine x_aload_n dX12_expression_127 x_get_3_0 ?_
  refine x_getR dX12_expression_128 fX_12_71 n62 s62 (by rfl) ?_
  refine x_aload_n dX12_expression_131 x_get_3_0 ?_
  refine x_getI 31 dX12_expression_132 fX_12_208 rfl n62 s62 (by rfl) ?_
  try simp (disch := decide) only [x_up_s, x_up_n, x_up_up, x_u1_s, x_u1_n, h31, hflag1]
  refine x_zald dX12_expression_135 n81 s81 (by omega) (by omega) (by decide) ?_
  try simp (disch := decide) only [x_up_s, x_up_n, x_up_up, x_u1_s, x_u1_n, h31, hflag1]
  refine r_if_ne (t := 186) dX12_expression_136 rfl ⟨by omega, by omega⟩ (fun hc136 => ?_) (fun hc136 => absurd hc136 (by omega))
  exact hnext _
set_option maxHeartbeats 1500000 in
theorem ex_past2 {X : xC} {l : Launch} (hl : l.stackTraces = false) {N : Nat} {sh : xS} {D : xM} (hM : is_Md N sh) {b : Int → Int} {n : Nat} {s : Ys} {q1 : Nat} {K1 O1 : List Int} {f : Bool} {F0 : List Bool} {d : xM} {o2 : Option Value} (hyd : ym b n (0, q1, K1, O1, f :: F0) d) (hxf : xf D d) (n12 : ¬ kw b n q1 = 12) (n13 : ¬ kw b n q1 = 13) (h60 : ¬ tM b n q1 60) (h61 : tM b n q1 61) (hf1 : f = true) (hnext : ∀ o2 : Option Value, x_W (X, l, yX12_expression, cX12_expression, 3, none, x_room 5 0 0, 0, 0, (.inl none), N, sh, (ye b n s D), false, []) 186 [some (.ref (x_b X + 62)), some (.int (xI 1)), o2] [] 0 0 false N sh d) : x_W (X, l, yX12_expression, cX12_expression, 3, none, x_room 5 0 0, 0, 0, (.inl none), N, sh, (ye b n s D), false, []) 29 [some (.ref (x_b X + 62)), some (.int (xI 1)), o2] [] 0 0 false N sh d := by
  have s62 := md_62 hM
  have n62 : 62 < N := md_n hM (by decide)
  have s81 := md_81 hM
  have n81 : 81 < N := md_n hM (by decide)
  obtain ⟨hgX, h14d, hkX, h31X, hfkX, ⟨hb1X, hb2X⟩, hb3X, hb4X⟩ := id hyd
  have hg : gs b n q1 d := hgX
  have hk : yk K1 (cod O1) d := hkX
  have h31 : d 62 31 = ((f :: F0).length : Nat) := h31X
  have hfk : fk (f :: F0) (d 81) := hfkX
  have hb1 : (cod O1).length + K1.length + 8 ≤ 2 * q1 := hb1X
  have hb2 : K1.length ≤ q1 := hb2X
  have hb3 : (f :: F0).length = zc K1 + 1 := hb3X
  have hb4 : (f :: F0).length ≤ 6 := hb4X
  obtain ⟨ht, hqn, g18, g20, g19, g21, g22, g23, g24⟩ := id hg
  obtain ⟨t1, t2, t3⟩ := id ht
  obtain ⟨e0, e1, e2⟩ := tE_in (b := b) hqn
  have hki := tK_in (b := b) (n := n) (q := q1)
  obtain ⟨s0, s1, s2, s3, s4, s5⟩ := m_so_w (b := b) (n := n) (q := q1)
  clear hgX hkX h31X hfkX hb1X hb2X hb3X hb4X
  have hkn := m_known (X := X) (l := l) hl hM hg
  have hk12 := kw_eq (b := b) (n := n) (q := q1) (k := 12) (by decide)
  have hk13 := kw_eq (b := b) (n := n) (q := q1) (k := 13) (by decide)
  have hkin := kw_in (b := b) (n := n) (q := q1)
  have hflag : d 81 (((f :: F0).length : Nat) : Int) = (if f = true then 1 else 0) := by
    rw [show (((f :: F0).length : Nat) : Int) = (F0.length : Int) + 1 by rw [List.length_cons]; push_cast; rfl]
    exact hfk.1
  have hflag1 : d 81 (((f :: F0).length : Nat) : Int) = 1 := by rw [hflag, if_pos hf1]
  clear hflag
  refine x_iload_n dX12_expression_29 x_get_3_1 ?_
  refine r_if_eq (t := 325) dX12_expression_30 rfl ⟨by omega, by omega⟩ (fun hc30 => absurd hc30 (by omega)) (fun hc30 => ?_)
  refine x_aload_n dX12_expression_33 x_get_3_0 ?_
  refine x_callV (As := []) dX12_expression_34 w_12_176 (m_good hl hM h14d) (by assumption) (by assumption) rfl rfl (Nat.le_of_ble_eq_true rfl) (Nat.le_of_ble_eq_true rfl) (Nat.le_of_ble_eq_true rfl) (Nat.le_of_ble_eq_true rfl) (Nat.le_of_ble_eq_true rfl) ?_
  intro d hd
  obtain rfl := Eq.symm hd
  refine r_if_eq (t := 325) dX12_expression_37 rfl ⟨by omega, by omega⟩ (fun hc37 => absurd hc37 (by omega)) (fun hc37 => ?_)
  refine x_aload_n dX12_expression_40 x_get_3_0 ?_
  refine x_callV (As := []) dX12_expression_41 w_12_204 (hkn) (by assumption) (by assumption) rfl rfl (Nat.le_of_ble_eq_true rfl) (Nat.le_of_ble_eq_true rfl) (Nat.le_of_ble_eq_true rfl) (Nat.le_of_ble_eq_true rfl) (Nat.le_of_ble_eq_true rfl) ?_
  intro d hd
  obtain rfl := Eq.symm hd
  refine x_istore_n dX12_expression_44 (Nat.le_of_ble_eq_true rfl) rfl x_set_3_2 ?_
  refine x_iload_n dX12_expression_45 x_get_3_2 ?_
  refine x_bipush dX12_expression_46 rfl ?_
  refine r_icmp_eq (t := 57) dX12_expression_48 rfl ⟨by omega, by omega⟩ ⟨by omega, by omega⟩ (fun hc48 => absurd hc48 (by omega)) (fun hc48 => ?_)
  refine x_iload_n dX12_expression_51 x_get_3_2 ?_
  refine x_bipush dX12_expression_52 rfl ?_
  refine r_icmp_ne (t := 109) dX12_expression_54 rfl ⟨by omega, by omega⟩ ⟨by omega, by omega⟩ (fun hc54 => ?_) (fun hc54 => absurd hc54 (by omega))
  refine x_aload_n dX12_expression_109 x_get_3_0 ?_
  refine x_bipush dX12_expression_110 rfl ?_
  refine x_callV (As := [_]) dX12_expression_112 w_12_211 (m_sign hl hM hg ⟨by decide, by decide⟩) (by assumption) (by assumption) rfl rfl (Nat.le_of_ble_eq_true rfl) (Nat.le_of_ble_eq_true rfl) (Nat.le_of_ble_eq_true rfl) (Nat.le_of_ble_eq_true rfl) (Nat.le_of_ble_eq_true rfl) ?_
  intro d hd
  obtain rfl := Eq.symm hd
  refine b_ifne (t := 127) dX12_expression_115 rfl (fun hc115 => absurd hc115 (h60)) (fun hc115 => ?_)
  refine x_aload_n dX12_expression_118 x_get_3_0 ?_
  refine x_bipush dX12_expression_119 rfl ?_
  refine x_callV (As := [_]) dX12_expression_121 w_12_211 (m_sign hl hM hg ⟨by decide, by decide⟩) (by assumption) (by assumption) rfl rfl (Nat.le_of_ble_eq_true rfl) (Nat.le_of_ble_eq_true rfl) (Nat.le_of_ble_eq_true rfl) (Nat.le_of_ble_eq_true rfl) (Nat.le_of_ble_eq_true rfl) ?_
  intro d hd
  obtain rfl := Eq.symm hd
  refine b_ifeq (t := 186) dX12_expression_124 rfl (fun hc124 => absurd hc124 (fun hh => hh h61)) (fun hc124 => ?_)
  refine x_aload_n dX12_expression_127 x_get_3_0 ?_
  refine x_getR dX12_expression_128 fX_12_71 n62 s62 (by rfl) ?_
  refine x_aload_n dX12_expression_131 x_get_3_0 ?_
  refine x_getI 31 dX12_expression_132 fX_12_208 rfl n62 s62 (by rfl) ?_
  try simp (disch := decide) only [x_up_s, x_up_n, x_up_up, x_u1_s, x_u1_n, h31, hflag1]
  refine x_zald dX12_expression_135 n81 s81 (by omega) (by omega) (by decide) ?_
  try simp (disch := decide) only [x_up_s, x_up_n, x_up_up, x_u1_s, x_u1_n, h31, hflag1]
  refine r_if_ne (t := 186) dX12_expression_136 rfl ⟨by omega, by omega⟩ (fun hc136 => ?_) (fun hc136 => absurd hc136 (by omega))
  exact hnext _
set_option maxHeartbeats 1500000 in
theorem ex_past3 {X : xC} {l : Launch} (hl : l.stackTraces = false) {N : Nat} {sh : xS} {D : xM} (hM : is_Md N sh) {b : Int → Int} {n : Nat} {s : Ys} {q1 : Nat} {K1 O1 : List Int} {f : Bool} {F0 : List Bool} {d : xM} {o2 : Option Value} (hyd : ym b n (0, q1, K1, O1, f :: F0) d) (hxf : xf D d) (n12 : ¬ kw b n q1 = 12) (n13 : ¬ kw b n q1 = 13) (h60 : ¬ tM b n q1 60) (h61 : ¬ tM b n q1 61) (hnext : ∀ o2 : Option Value, x_W (X, l, yX12_expression, cX12_expression, 3, none, x_room 5 0 0, 0, 0, (.inl none), N, sh, (ye b n s D), false, []) 186 [some (.ref (x_b X + 62)), some (.int (xI 1)), o2] [] 0 0 false N sh d) : x_W (X, l, yX12_expression, cX12_expression, 3, none, x_room 5 0 0, 0, 0, (.inl none), N, sh, (ye b n s D), false, []) 29 [some (.ref (x_b X + 62)), some (.int (xI 1)), o2] [] 0 0 false N sh d := by
  have s62 := md_62 hM
  have n62 : 62 < N := md_n hM (by decide)
  have s81 := md_81 hM
  have n81 : 81 < N := md_n hM (by decide)
  obtain ⟨hgX, h14d, hkX, h31X, hfkX, ⟨hb1X, hb2X⟩, hb3X, hb4X⟩ := id hyd
  have hg : gs b n q1 d := hgX
  have hk : yk K1 (cod O1) d := hkX
  have h31 : d 62 31 = ((f :: F0).length : Nat) := h31X
  have hfk : fk (f :: F0) (d 81) := hfkX
  have hb1 : (cod O1).length + K1.length + 8 ≤ 2 * q1 := hb1X
  have hb2 : K1.length ≤ q1 := hb2X
  have hb3 : (f :: F0).length = zc K1 + 1 := hb3X
  have hb4 : (f :: F0).length ≤ 6 := hb4X
  obtain ⟨ht, hqn, g18, g20, g19, g21, g22, g23, g24⟩ := id hg
  obtain ⟨t1, t2, t3⟩ := id ht
  obtain ⟨e0, e1, e2⟩ := tE_in (b := b) hqn
  have hki := tK_in (b := b) (n := n) (q := q1)
  obtain ⟨s0, s1, s2, s3, s4, s5⟩ := m_so_w (b := b) (n := n) (q := q1)
  clear hgX hkX h31X hfkX hb1X hb2X hb3X hb4X
  have hkn := m_known (X := X) (l := l) hl hM hg
  have hk12 := kw_eq (b := b) (n := n) (q := q1) (k := 12) (by decide)
  have hk13 := kw_eq (b := b) (n := n) (q := q1) (k := 13) (by decide)
  have hkin := kw_in (b := b) (n := n) (q := q1)
  refine x_iload_n dX12_expression_29 x_get_3_1 ?_
  refine r_if_eq (t := 325) dX12_expression_30 rfl ⟨by omega, by omega⟩ (fun hc30 => absurd hc30 (by omega)) (fun hc30 => ?_)
  refine x_aload_n dX12_expression_33 x_get_3_0 ?_
  refine x_callV (As := []) dX12_expression_34 w_12_176 (m_good hl hM h14d) (by assumption) (by assumption) rfl rfl (Nat.le_of_ble_eq_true rfl) (Nat.le_of_ble_eq_true rfl) (Nat.le_of_ble_eq_true rfl) (Nat.le_of_ble_eq_true rfl) (Nat.le_of_ble_eq_true rfl) ?_
  intro d hd
  obtain rfl := Eq.symm hd
  refine r_if_eq (t := 325) dX12_expression_37 rfl ⟨by omega, by omega⟩ (fun hc37 => absurd hc37 (by omega)) (fun hc37 => ?_)
  refine x_aload_n dX12_expression_40 x_get_3_0 ?_
  refine x_callV (As := []) dX12_expression_41 w_12_204 (hkn) (by assumption) (by assumption) rfl rfl (Nat.le_of_ble_eq_true rfl) (Nat.le_of_ble_eq_true rfl) (Nat.le_of_ble_eq_true rfl) (Nat.le_of_ble_eq_true rfl) (Nat.le_of_ble_eq_true rfl) ?_
  intro d hd
  obtain rfl := Eq.symm hd
  refine x_istore_n dX12_expression_44 (Nat.le_of_ble_eq_true rfl) rfl x_set_3_2 ?_
  refine x_iload_n dX12_expression_45 x_get_3_2 ?_
  refine x_bipush dX12_expression_46 rfl ?_
  refine r_icmp_eq (t := 57) dX12_expression_48 rfl ⟨by omega, by omega⟩ ⟨by omega, by omega⟩ (fun hc48 => absurd hc48 (by omega)) (fun hc48 => ?_)
  refine x_iload_n dX12_expression_51 x_get_3_2 ?_
  refine x_bipush dX12_expression_52 rfl ?_
  refine r_icmp_ne (t := 109) dX12_expression_54 rfl ⟨by omega, by omega⟩ ⟨by omega, by omega⟩ (fun hc54 => ?_) (fun hc54 => absurd hc54 (by omega))
  refine x_aload_n dX12_expression_109 x_get_3_0 ?_
  refine x_bipush dX12_expression_110 rfl ?_
  refine x_callV (As := [_]) dX12_expression_112 w_12_211 (m_sign hl hM hg ⟨by decide, by decide⟩) (by assumption) (by assumption) rfl rfl (Nat.le_of_ble_eq_true rfl) (Nat.le_of_ble_eq_true rfl) (Nat.le_of_ble_eq_true rfl) (Nat.le_of_ble_eq_true rfl) (Nat.le_of_ble_eq_true rfl) ?_
  intro d hd
  obtain rfl := Eq.symm hd
  refine b_ifne (t := 127) dX12_expression_115 rfl (fun hc115 => absurd hc115 (h60)) (fun hc115 => ?_)
  refine x_aload_n dX12_expression_118 x_get_3_0 ?_
  refine x_bipush dX12_expression_119 rfl ?_
  refine x_callV (As := [_]) dX12_expression_121 w_12_211 (m_sign hl hM hg ⟨by decide, by decide⟩) (by assumption) (by assumption) rfl rfl (Nat.le_of_ble_eq_true rfl) (Nat.le_of_ble_eq_true rfl) (Nat.le_of_ble_eq_true rfl) (Nat.le_of_ble_eq_true rfl) (Nat.le_of_ble_eq_true rfl) ?_
  intro d hd
  obtain rfl := Eq.symm hd
  refine b_ifeq (t := 186) dX12_expression_124 rfl (fun hc124 => ?_) (fun hc124 => absurd hc124 (h61))
  exact hnext _
set_option maxHeartbeats 1500000 in
theorem ex_sum1 {X : xC} {l : Launch} (hl : l.stackTraces = false) {N : Nat} {sh : xS} {D : xM} (hM : is_Md N sh) {b : Int → Int} {n : Nat} {s : Ys} {q1 : Nat} {K1 O1 : List Int} {f : Bool} {F0 : List Bool} {d : xM} {o2 : Option Value} (hyd : ym b n (0, q1, K1, O1, f :: F0) d) (hxf : xf D d) (h1 : tM b n q1 43) (gO : ∀ (m' : Nat) (mn : Int) (q2 : Nat) (K2 O2 : List Int) (F2 : List Bool) (d5 : xM) (o2 : Option Value), q1 < q2 → q2 ≤ n → y_lop b n q1 K1 O1 (f :: F0) = .inr (m', q2, K2, O2, F2) → m' = (if mn = 1 then 2 else 1) → (∃ d4, xf D d4 ∧ yq b n ((if mn = 1 then 2 else 1, q2, K2, O2, F2) : Ys) d4 d5) → x_W (X, l, yX12_expression, cX12_expression, 3, none, x_room 5 0 0, 0, 0, (.inl none), N, sh, (ye b n s D), false, []) 29 [some (.ref (x_b X + 62)), some (.int (xI 1)), o2] [] 0 0 false N sh d5) : x_W (X, l, yX12_expression, cX12_expression, 3, none, x_room 5 0 0, 0, 0, (.inl none), N, sh, (ye b n s D), false, []) 186 [some (.ref (x_b X + 62)), some (.int (xI 1)), o2] [] 0 0 false N sh d := by
  have s62 := md_62 hM
  have n62 : 62 < N := md_n hM (by decide)
  have s81 := md_81 hM
  have n81 : 81 < N := md_n hM (by decide)
  obtain ⟨hgX, h14d, hkX, h31X, hfkX, ⟨hb1X, hb2X⟩, hb3X, hb4X⟩ := id hyd
  have hg : gs b n q1 d := hgX
  have hk : yk K1 (cod O1) d := hkX
  have h31 : d 62 31 = ((f :: F0).length : Nat) := h31X
  have hfk : fk (f :: F0) (d 81) := hfkX
  have hb1 : (cod O1).length + K1.length + 8 ≤ 2 * q1 := hb1X
  have hb2 : K1.length ≤ q1 := hb2X
  have hb3 : (f :: F0).length = zc K1 + 1 := hb3X
  have hb4 : (f :: F0).length ≤ 6 := hb4X
  obtain ⟨ht, hqn, g18, g20, g19, g21, g22, g23, g24⟩ := id hg
  obtain ⟨t1, t2, t3⟩ := id ht
  obtain ⟨e0, e1, e2⟩ := tE_in (b := b) hqn
  have hki := tK_in (b := b) (n := n) (q := q1)
  obtain ⟨s0, s1, s2, s3, s4, s5⟩ := m_so_w (b := b) (n := n) (q := q1)
  clear hgX hkX h31X hfkX hb1X hb2X hb3X hb4X
  have hup : q1 < tE b n q1 ∧ tE b n q1 ≤ n := tM_up hqn h1
  have hlop := lop_sum (K := K1) (O := O1) (F := f :: F0) (b := b) (n := n) (q := q1) (Or.inl h1)
  rw [if_pos h1] at hlop
  have hdc := dc_dr (p := 5) (K := K1) (O := O1) hk.2.2.2.2
  have hlen := dc_len (p := 5) (K := K1) (C := cod O1)
  have hle := dc_le (p := 5) (K := K1) (C := cod O1)
  have hzd := zc_dr (p := 5) (K := K1) (O := O1)
  rw [hdc] at hlen hle
  have hlen : (cod (dr 5 K1 O1).2).length + (dr 5 K1 O1).1.length = (cod O1).length + K1.length := hlen
  have hle : (dr 5 K1 O1).1.length ≤ K1.length := hle
  refine x_aload_n dX12_expression_186 x_get_3_0 ?_
  refine x_bipush dX12_expression_187 rfl ?_
  refine x_callV (As := [_]) dX12_expression_189 w_12_211 (m_sign hl hM hg ⟨by decide, by decide⟩) (by assumption) (by assumption) rfl rfl (Nat.le_of_ble_eq_true rfl) (Nat.le_of_ble_eq_true rfl) (Nat.le_of_ble_eq_true rfl) (Nat.le_of_ble_eq_true rfl) (Nat.le_of_ble_eq_true rfl) ?_
  intro d hd
  obtain rfl := Eq.symm hd
  refine b_ifne (t := 204) dX12_expression_192 rfl (fun hc192 => ?_) (fun hc192 => absurd hc192 (fun hh => hh h1))
  refine x_aload_n dX12_expression_204 x_get_3_0 ?_
  refine x_iconst dX12_expression_205 ?_
  refine x_callV (As := [_]) dX12_expression_206 w_12_223 (m_drops hl hM hk (by omega) (by omega) (p := 5) (by decide)) (by assumption) (by assumption) rfl rfl (Nat.le_of_ble_eq_true rfl) (Nat.le_of_ble_eq_true rfl) (Nat.le_of_ble_eq_true rfl) (Nat.le_of_ble_eq_true rfl) (Nat.le_of_ble_eq_true rfl) ?_
  rintro d1 ⟨hk1, hf1⟩
  rw [hdc] at hk1
  have hk1 : yk (dr 5 K1 O1).1 (cod (dr 5 K1 O1).2) d1 := hk1
  have hg1 := yf_gs hg hf1
  refine x_aload_n dX12_expression_209 x_get_3_0 ?_
  refine x_aload_n dX12_expression_210 x_get_3_0 ?_
  refine x_bipush dX12_expression_211 rfl ?_
  refine x_callV (As := [_]) dX12_expression_213 w_12_211 (m_sign hl hM hg1 ⟨by decide, by decide⟩) (by assumption) (by assumption) rfl rfl (Nat.le_of_ble_eq_true rfl) (Nat.le_of_ble_eq_true rfl) (Nat.le_of_ble_eq_true rfl) (Nat.le_of_ble_eq_true rfl) (Nat.le_of_ble_eq_true rfl) ?_
  intro d hd
  obtain rfl := Eq.symm hd
  refine b_ifeq (t := 224) dX12_expression_216 rfl (fun hc216 => absurd hc216 (fun hh => hh h1)) (fun hc216 => ?_)
  refine x_bipush dX12_expression_219 rfl ?_
  refine x_goto (t := 226) dX12_expression_221 rfl ?_
  refine x_callV (As := [_]) dX12_expression_226 w_12_214 (m_wait hl hM hk1 (by omega) (s := (-12 : Int)) (v := 8) (Or.inr ⟨by decide, by decide⟩) rfl) (by assumption) (by assumption) rfl rfl (Nat.le_of_ble_eq_true rfl) (Nat.le_of_ble_eq_true rfl) (Nat.le_of_ble_eq_true rfl) (Nat.le_of_ble_eq_true rfl) (Nat.le_of_ble_eq_true rfl) ?_
  rintro d2 ⟨hk2, hf2⟩
  have hf12 := yf_tr hf1 hf2
  have hg2 := yf_gs hg hf12
  have h142 : d2 62 14 = 0 := by rw [hf12.2 14 (by decide) (by decide)]; exact h14d
  have h312 : d2 62 31 = (((f :: F0).length : Nat) : Int) := by rw [hf12.2 31 (by decide) (by decide)]; exact h31
  have h812 : d2 81 = d 81 := hf12.1 81 (by decide) (by decide) (by decide)
  have hxf2 : xf D d2 := xf_tr hxf (xf_yf hf12)
  have e14 := h142
  have e31 := h312
  refine x_aload_n dX12_expression_229 x_get_3_0 ?_
  refine x_callV (As := []) dX12_expression_230 w_12_180 (m_goes hl hM hg2.1 e2 hg2.2.2.1) (by assumption) (by assumption) rfl rfl (Nat.le_of_ble_eq_true rfl) (Nat.le_of_ble_eq_true rfl) (Nat.le_of_ble_eq_true rfl) (Nat.le_of_ble_eq_true rfl) (Nat.le_of_ble_eq_true rfl) ?_
  rintro d4 ⟨hg4, hgf4⟩
  have hym4 : ym b n ((if (0 : Int) = 1 then 2 else 1, tE b n q1, (-12 : Int) :: (dr 5 K1 O1).1, (dr 5 K1 O1).2, f :: F0) : Ys) d4 := ym_mk hg4 (by rw [hgf4.2 14 (by decide)]; exact e14) (gf_yk hk2 hgf4) (by rw [hgf4.2 31 (by decide)]; exact e31) (by rw [hgf4.1 81 (by decide)]; exact (by rw [h812]; exact hfk)) (by rw [List.length_cons]; omega) (by rw [List.length_cons]; omega) (by show _ = (if (-12 : Int) = 0 then 1 else 0) + zc (dr 5 K1 O1).1 + 1; rw [if_neg (by decide), hzd, Nat.zero_add]; exact hb3) hb4
  have hxf4 : xf D d4 := xf_tr hxf2 (xf_gf hgf4)
  refine x_aload_n dX12_expression_233 x_get_3_0 ?_
  refine x_iconst dX12_expression_234 ?_
  refine x_callV (As := [_]) dX12_expression_235 w_12_226 (m_operand hl hM (Or.inl rfl) hym4) (by assumption) (by assumption) rfl rfl (Nat.le_of_ble_eq_true rfl) (Nat.le_of_ble_eq_true rfl) (Nat.le_of_ble_eq_true rfl) (Nat.le_of_ble_eq_true rfl) (Nat.le_of_ble_eq_true rfl) ?_
  intro d5 hd5
  refine x_goto (t := 322) dX12_expression_238 rfl ?_
  refine x_goto (t := 29) dX12_expression_322 rfl ?_
  exact gO 1 0 _ _ _ _ d5 _ hup.1 hup.2 hlop (by decide) ⟨d4, hxf4, hd5⟩
set_option maxHeartbeats 1500000 in
theorem ex_sum2 {X : xC} {l : Launch} (hl : l.stackTraces = false) {N : Nat} {sh : xS} {D : xM} (hM : is_Md N sh) {b : Int → Int} {n : Nat} {s : Ys} {q1 : Nat} {K1 O1 : List Int} {f : Bool} {F0 : List Bool} {d : xM} {o2 : Option Value} (hyd : ym b n (0, q1, K1, O1, f :: F0) d) (hxf : xf D d) (h1 : ¬ tM b n q1 43) (h2 : tM b n q1 45) (gO : ∀ (m' : Nat) (mn : Int) (q2 : Nat) (K2 O2 : List Int) (F2 : List Bool) (d5 : xM) (o2 : Option Value), q1 < q2 → q2 ≤ n → y_lop b n q1 K1 O1 (f :: F0) = .inr (m', q2, K2, O2, F2) → m' = (if mn = 1 then 2 else 1) → (∃ d4, xf D d4 ∧ yq b n ((if mn = 1 then 2 else 1, q2, K2, O2, F2) : Ys) d4 d5) → x_W (X, l, yX12_expression, cX12_expression, 3, none, x_room 5 0 0, 0, 0, (.inl none), N, sh, (ye b n s D), false, []) 29 [some (.ref (x_b X + 62)), some (.int (xI 1)), o2] [] 0 0 false N sh d5) : x_W (X, l, yX12_expression, cX12_expression, 3, none, x_room 5 0 0, 0, 0, (.inl none), N, sh, (ye b n s D), false, []) 186 [some (.ref (x_b X + 62)), some (.int (xI 1)), o2] [] 0 0 false N sh d := by
  have s62 := md_62 hM
  have n62 : 62 < N := md_n hM (by decide)
  have s81 := md_81 hM
  have n81 : 81 < N := md_n hM (by decide)
  obtain ⟨hgX, h14d, hkX, h31X, hfkX, ⟨hb1X, hb2X⟩, hb3X, hb4X⟩ := id hyd
  have hg : gs b n q1 d := hgX
  have hk : yk K1 (cod O1) d := hkX
  have h31 : d 62 31 = ((f :: F0).length : Nat) := h31X
  have hfk : fk (f :: F0) (d 81) := hfkX
  have hb1 : (cod O1).length + K1.length + 8 ≤ 2 * q1 := hb1X
  have hb2 : K1.length ≤ q1 := hb2X
  have hb3 : (f :: F0).length = zc K1 + 1 := hb3X
  have hb4 : (f :: F0).length ≤ 6 := hb4X
  obtain ⟨ht, hqn, g18, g20, g19, g21, g22, g23, g24⟩ := id hg
  obtain ⟨t1, t2, t3⟩ := id ht
  obtain ⟨e0, e1, e2⟩ := tE_in (b := b) hqn
  have hki := tK_in (b := b) (n := n) (q := q1)
  obtain ⟨s0, s1, s2, s3, s4, s5⟩ := m_so_w (b := b) (n := n) (q := q1)
  clear hgX hkX h31X hfkX hb1X hb2X hb3X hb4X
  have hup : q1 < tE b n q1 ∧ tE b n q1 ≤ n := tM_up hqn h2
  have hlop := lop_sum (K := K1) (O := O1) (F := f :: F0) (b := b) (n := n) (q := q1) (Or.inr h2)
  rw [if_neg h1] at hlop
  have hdc := dc_dr (p := 5) (K := K1) (O := O1) hk.2.2.2.2
  have hlen := dc_len (p := 5) (K := K1) (C := cod O1)
  have hle := dc_le (p := 5) (K := K1) (C := cod O1)
  have hzd := zc_dr (p := 5) (K := K1) (O := O1)
  rw [hdc] at hlen hle
  have hlen : (cod (dr 5 K1 O1).2).length + (dr 5 K1 O1).1.length = (cod O1).length + K1.length := hlen
  have hle : (dr 5 K1 O1).1.length ≤ K1.length := hle
  refine x_aload_n dX12_expression_186 x_get_3_0 ?_
  refine x_bipush dX12_expression_187 rfl ?_
  refine x_callV (As := [_]) dX12_expression_189 w_12_211 (m_sign hl hM hg ⟨by decide, by decide⟩) (by assumption) (by assumption) rfl rfl (Nat.le_of_ble_eq_true rfl) (Nat.le_of_ble_eq_true rfl) (Nat.le_of_ble_eq_true rfl) (Nat.le_of_ble_eq_true rfl) (Nat.le_of_ble_eq_true rfl) ?_
  intro d hd
  obtain rfl := Eq.symm hd
  refine b_ifne (t := 204) dX12_expression_192 rfl (fun hc192 => absurd hc192 (h1)) (fun hc192 => ?_)
  refine x_aload_n dX12_expression_195 x_get_3_0 ?_
  refine x_bipush dX12_expression_196 rfl ?_
  refine x_callV (As := [_]) dX12_expression_198 w_12_211 (m_sign hl hM hg ⟨by decide, by decide⟩) (by assumption) (by assumption) rfl rfl (Nat.le_of_ble_eq_true rfl) (Nat.le_of_ble_eq_true rfl) (Nat.le_of_ble_eq_true rfl) (Nat.le_of_ble_eq_true rfl) (Nat.le_of_ble_eq_true rfl) ?_
  intro d hd
  obtain rfl := Eq.symm hd
  refine b_ifeq (t := 241) dX12_expression_201 rfl (fun hc201 => absurd hc201 (fun hh => hh h2)) (fun hc201 => ?_)
  refine x_aload_n dX12_expression_204 x_get_3_0 ?_
  refine x_iconst dX12_expression_205 ?_
  refine x_callV (As := [_]) dX12_expression_206 w_12_223 (m_drops hl hM hk (by omega) (by omega) (p := 5) (by decide)) (by assumption) (by assumption) rfl rfl (Nat.le_of_ble_eq_true rfl) (Nat.le_of_ble_eq_true rfl) (Nat.le_of_ble_eq_true rfl) (Nat.le_of_ble_eq_true rfl) (Nat.le_of_ble_eq_true rfl) ?_
  rintro d1 ⟨hk1, hf1⟩
  rw [hdc] at hk1
  have hk1 : yk (dr 5 K1 O1).1 (cod (dr 5 K1 O1).2) d1 := hk1
  have hg1 := yf_gs hg hf1
  refine x_aload_n dX12_expression_209 x_get_3_0 ?_
  refine x_aload_n dX12_expression_210 x_get_3_0 ?_
  refine x_bipush dX12_expression_211 rfl ?_
  refine x_callV (As := [_]) dX12_expression_213 w_12_211 (m_sign hl hM hg1 ⟨by decide, by decide⟩) (by assumption) (by assumption) rfl rfl (Nat.le_of_ble_eq_true rfl) (Nat.le_of_ble_eq_true rfl) (Nat.le_of_ble_eq_true rfl) (Nat.le_of_ble_eq_true rfl) (Nat.le_of_ble_eq_true rfl) ?_
  intro d hd
  obtain rfl := Eq.symm hd
  refine b_ifeq (t := 224) dX12_expression_216 rfl (fun hc216 => ?_) (fun hc216 => absurd hc216 (h1))
  refine x_bipush dX12_expression_224 rfl ?_
  refine x_callV (As := [_]) dX12_expression_226 w_12_214 (m_wait hl hM hk1 (by omega) (s := (-13 : Int)) (v := 9) (Or.inr ⟨by decide, by decide⟩) rfl) (by assumption) (by assumption) rfl rfl (Nat.le_of_ble_eq_true rfl) (Nat.le_of_ble_eq_true rfl) (Nat.le_of_ble_eq_true rfl) (Nat.le_of_ble_eq_true rfl) (Nat.le_of_ble_eq_true rfl) ?_
  rintro d2 ⟨hk2, hf2⟩
  have hf12 := yf_tr hf1 hf2
  have hg2 := yf_gs hg hf12
  have h142 : d2 62 14 = 0 := by rw [hf12.2 14 (by decide) (by decide)]; exact h14d
  have h312 : d2 62 31 = (((f :: F0).length : Nat) : Int) := by rw [hf12.2 31 (by decide) (by decide)]; exact h31
  have h812 : d2 81 = d 81 := hf12.1 81 (by decide) (by decide) (by decide)
  have hxf2 : xf D d2 := xf_tr hxf (xf_yf hf12)
  have e14 := h142
  have e31 := h312
  refine x_aload_n dX12_expression_229 x_get_3_0 ?_
  refine x_callV (As := []) dX12_expression_230 w_12_180 (m_goes hl hM hg2.1 e2 hg2.2.2.1) (by assumption) (by assumption) rfl rfl (Nat.le_of_ble_eq_true rfl) (Nat.le_of_ble_eq_true rfl) (Nat.le_of_ble_eq_true rfl) (Nat.le_of_ble_eq_true rfl) (Nat.le_of_ble_eq_true rfl) ?_
  rintro d4 ⟨hg4, hgf4⟩
  have hym4 : ym b n ((if (0 : Int) = 1 then 2 else 1, tE b n q1, (-13 : Int) :: (dr 5 K1 O1).1, (dr 5 K1 O1).2, f :: F0) : Ys) d4 := ym_mk hg4 (by rw [hgf4.2 14 (by decide)]; exact e14) (gf_yk hk2 hgf4) (by rw [hgf4.2 31 (by decide)]; exact e31) (by rw [hgf4.1 81 (by decide)]; exact (by rw [h812]; exact hfk)) (by rw [List.length_cons]; omega) (by rw [List.length_cons]; omega) (by show _ = (if (-13 : Int) = 0 then 1 else 0) + zc (dr 5 K1 O1).1 + 1; rw [if_neg (by decide), hzd, Nat.zero_add]; exact hb3) hb4
  have hxf4 : xf D d4 := xf_tr hxf2 (xf_gf hgf4)
  refine x_aload_n dX12_expression_233 x_get_3_0 ?_
  refine x_iconst dX12_expression_234 ?_
  refine x_callV (As := [_]) dX12_expression_235 w_12_226 (m_operand hl hM (Or.inl rfl) hym4) (by assumption) (by assumption) rfl rfl (Nat.le_of_ble_eq_true rfl) (Nat.le_of_ble_eq_true rfl) (Nat.le_of_ble_eq_true rfl) (Nat.le_of_ble_eq_true rfl) (Nat.le_of_ble_eq_true rfl) ?_
  intro d5 hd5
  refine x_goto (t := 322) dX12_expression_238 rfl ?_
  refine x_goto (t := 29) dX12_expression_322 rfl ?_
  exact gO 1 0 _ _ _ _ d5 _ hup.1 hup.2 hlop (by decide) ⟨d4, hxf4, hd5⟩
set_option maxHeartbeats 1500000 in
theorem ex_prd1 {X : xC} {l : Launch} (hl : l.stackTraces = false) {N : Nat} {sh : xS} {D : xM} (hM : is_Md N sh) {b : Int → Int} {n : Nat} {s : Ys} {q1 : Nat} {K1 O1 : List Int} {f : Bool} {F0 : List Bool} {d : xM} {o2 : Option Value} (hyd : ym b n (0, q1, K1, O1, f :: F0) d) (hxf : xf D d) (nS1 : ¬ tM b n q1 43) (nS2 : ¬ tM b n q1 45) (h1 : tM b n q1 42) (gO : ∀ (m' : Nat) (mn : Int) (q2 : Nat) (K2 O2 : List Int) (F2 : List Bool) (d5 : xM) (o2 : Option Value), q1 < q2 → q2 ≤ n → y_lop b n q1 K1 O1 (f :: F0) = .inr (m', q2, K2, O2, F2) → m' = (if mn = 1 then 2 else 1) → (∃ d4, xf D d4 ∧ yq b n ((if mn = 1 then 2 else 1, q2, K2, O2, F2) : Ys) d4 d5) → x_W (X, l, yX12_expression, cX12_expression, 3, none, x_room 5 0 0, 0, 0, (.inl none), N, sh, (ye b n s D), false, []) 29 [some (.ref (x_b X + 62)), some (.int (xI 1)), o2] [] 0 0 false N sh d5) : x_W (X, l, yX12_expression, cX12_expression, 3, none, x_room 5 0 0, 0, 0, (.inl none), N, sh, (ye b n s D), false, []) 186 [some (.ref (x_b X + 62)), some (.int (xI 1)), o2] [] 0 0 false N sh d := by
  have s62 := md_62 hM
  have n62 : 62 < N := md_n hM (by decide)
  have s81 := md_81 hM
  have n81 : 81 < N := md_n hM (by decide)
  obtain ⟨hgX, h14d, hkX, h31X, hfkX, ⟨hb1X, hb2X⟩, hb3X, hb4X⟩ := id hyd
  have hg : gs b n q1 d := hgX
  have hk : yk K1 (cod O1) d := hkX
  have h31 : d 62 31 = ((f :: F0).length : Nat) := h31X
  have hfk : fk (f :: F0) (d 81) := hfkX
  have hb1 : (cod O1).length + K1.length + 8 ≤ 2 * q1 := hb1X
  have hb2 : K1.length ≤ q1 := hb2X
  have hb3 : (f :: F0).length = zc K1 + 1 := hb3X
  have hb4 : (f :: F0).length ≤ 6 := hb4X
  obtain ⟨ht, hqn, g18, g20, g19, g21, g22, g23, g24⟩ := id hg
  obtain ⟨t1, t2, t3⟩ := id ht
  obtain ⟨e0, e1, e2⟩ := tE_in (b := b) hqn
  have hki := tK_in (b := b) (n := n) (q := q1)
  obtain ⟨s0, s1, s2, s3, s4, s5⟩ := m_so_w (b := b) (n := n) (q := q1)
  clear hgX hkX h31X hfkX hb1X hb2X hb3X hb4X
  have hup : q1 < tE b n q1 ∧ tE b n q1 ≤ n := tM_up hqn h1
  have hlop := lop_prd (K := K1) (O := O1) (F := f :: F0) (b := b) (n := n) (q := q1) (Or.inl h1)
  rw [if_pos h1] at hlop
  have hdc := dc_dr (p := 6) (K := K1) (O := O1) hk.2.2.2.2
  have hlen := dc_len (p := 6) (K := K1) (C := cod O1)
  have hle := dc_le (p := 6) (K := K1) (C := cod O1)
  have hzd := zc_dr (p := 6) (K := K1) (O := O1)
  rw [hdc] at hlen hle
  have hlen : (cod (dr 6 K1 O1).2).length + (dr 6 K1 O1).1.length = (cod O1).length + K1.length := hlen
  have hle : (dr 6 K1 O1).1.length ≤ K1.length := hle
  refine x_aload_n dX12_expression_186 x_get_3_0 ?_
  refine x_bipush dX12_expression_187 rfl ?_
  refine x_callV (As := [_]) dX12_expression_189 w_12_211 (m_sign hl hM hg ⟨by decide, by decide⟩) (by assumption) (by assumption) rfl rfl (Nat.le_of_ble_eq_true rfl) (Nat.le_of_ble_eq_true rfl) (Nat.le_of_ble_eq_true rfl) (Nat.le_of_ble_eq_true rfl) (Nat.le_of_ble_eq_true rfl) ?_
  intro d hd
  obtain rfl := Eq.symm hd
  refine b_ifne (t := 204) dX12_expression_192 rfl (fun hc192 => absurd hc192 (nS1)) (fun hc192 => ?_)
  refine x_aload_n dX12_expression_195 x_get_3_0 ?_
  refine x_bipush dX12_expression_196 rfl ?_
  refine x_callV (As := [_]) dX12_expression_198 w_12_211 (m_sign hl hM hg ⟨by decide, by decide⟩) (by assumption) (by assumption) rfl rfl (Nat.le_of_ble_eq_true rfl) (Nat.le_of_ble_eq_true rfl) (Nat.le_of_ble_eq_true rfl) (Nat.le_of_ble_eq_true rfl) (Nat.le_of_ble_eq_true rfl) ?_
  intro d hd
  obtain rfl := Eq.symm hd
  refine b_ifeq (t := 241) dX12_expression_201 rfl (fun hc201 => ?_) (fun hc201 => absurd hc201 (nS2))
  refine x_aload_n dX12_expression_241 x_get_3_0 ?_
  refine x_bipush dX12_expression_242 rfl ?_
  refine x_callV (As := [_]) dX12_expression_244 w_12_211 (m_sign hl hM hg ⟨by decide, by decide⟩) (by assumption) (by assumption) rfl rfl (Nat.le_of_ble_eq_true rfl) (Nat.le_of_ble_eq_true rfl) (Nat.le_of_ble_eq_true rfl) (Nat.le_of_ble_eq_true rfl) (Nat.le_of_ble_eq_true rfl) ?_
  intro d hd
  obtain rfl := Eq.symm hd
  refine b_ifne (t := 259) dX12_expression_247 rfl (fun hc247 => ?_) (fun hc247 => absurd hc247 (fun hh => hh h1))
  refine x_aload_n dX12_expression_259 x_get_3_0 ?_
  refine x_bipush dX12_expression_260 rfl ?_
  refine x_callV (As := [_]) dX12_expression_262 w_12_223 (m_drops hl hM hk (by omega) (by omega) (p := 6) (by decide)) (by assumption) (by assumption) rfl rfl (Nat.le_of_ble_eq_true rfl) (Nat.le_of_ble_eq_true rfl) (Nat.le_of_ble_eq_true rfl) (Nat.le_of_ble_eq_true rfl) (Nat.le_of_ble_eq_true rfl) ?_
  rintro d1 ⟨hk1, hf1⟩
  rw [hdc] at hk1
  have hk1 : yk (dr 6 K1 O1).1 (cod (dr 6 K1 O1).2) d1 := hk1
  have hg1 := yf_gs hg hf1
  refine x_aload_n dX12_expression_265 x_get_3_0 ?_
  refine x_aload_n dX12_expression_266 x_get_3_0 ?_
  refine x_bipush dX12_expression_267 rfl ?_
  refine x_callV (As := [_]) dX12_expression_269 w_12_211 (m_sign hl hM hg1 ⟨by decide, by decide⟩) (by assumption) (by assumption) rfl rfl (Nat.le_of_ble_eq_true rfl) (Nat.le_of_ble_eq_true rfl) (Nat.le_of_ble_eq_true rfl) (Nat.le_of_ble_eq_true rfl) (Nat.le_of_ble_eq_true rfl) ?_
  intro d hd
  obtain rfl := Eq.symm hd
  refine b_ifeq (t := 280) dX12_expression_272 rfl (fun hc272 => absurd hc272 (fun hh => hh h1)) (fun hc272 => ?_)
  refine x_bipush dX12_expression_275 rfl ?_
  refine x_goto (t := 282) dX12_expression_277 rfl ?_
  refine x_callV (As := [_]) dX12_expression_282 w_12_214 (m_wait hl hM hk1 (by omega) (s := (-14 : Int)) (v := 10) (Or.inr ⟨by decide, by decide⟩) rfl) (by assumption) (by assumption) rfl rfl (Nat.le_of_ble_eq_true rfl) (Nat.le_of_ble_eq_true rfl) (Nat.le_of_ble_eq_true rfl) (Nat.le_of_ble_eq_true rfl) (Nat.le_of_ble_eq_true rfl) ?_
  rintro d2 ⟨hk2, hf2⟩
  have hf12 := yf_tr hf1 hf2
  have hg2 := yf_gs hg hf12
  have h142 : d2 62 14 = 0 := by rw [hf12.2 14 (by decide) (by decide)]; exact h14d
  have h312 : d2 62 31 = (((f :: F0).length : Nat) : Int) := by rw [hf12.2 31 (by decide) (by decide)]; exact h31
  have h812 : d2 81 = d 81 := hf12.1 81 (by decide) (by decide) (by decide)
  have hxf2 : xf D d2 := xf_tr hxf (xf_yf hf12)
  have e14 := h142
  have e31 := h312
  refine x_aload_n dX12_expression_285 x_get_3_0 ?_
  refine x_callV (As := []) dX12_expression_286 w_12_180 (m_goes hl hM hg2.1 e2 hg2.2.2.1) (by assumption) (by assumption) rfl rfl (Nat.le_of_ble_eq_true rfl) (Nat.le_of_ble_eq_true rfl) (Nat.le_of_ble_eq_true rfl) (Nat.le_of_ble_eq_true rfl) (Nat.le_of_ble_eq_true rfl) ?_
  rintro d4 ⟨hg4, hgf4⟩
  have hym4 : ym b n ((if (0 : Int) = 1 then 2 else 1, tE b n q1, (-14 : Int) :: (dr 6 K1 O1).1, (dr 6 K1 O1).2, f :: F0) : Ys) d4 := ym_mk hg4 (by rw [hgf4.2 14 (by decide)]; exact e14) (gf_yk hk2 hgf4) (by rw [hgf4.2 31 (by decide)]; exact e31) (by rw [hgf4.1 81 (by decide)]; exact (by rw [h812]; exact hfk)) (by rw [List.length_cons]; omega) (by rw [List.length_cons]; omega) (by show _ = (if (-14 : Int) = 0 then 1 else 0) + zc (dr 6 K1 O1).1 + 1; rw [if_neg (by decide), hzd, Nat.zero_add]; exact hb3) hb4
  have hxf4 : xf D d4 := xf_tr hxf2 (xf_gf hgf4)
  refine x_aload_n dX12_expression_289 x_get_3_0 ?_
  refine x_iconst dX12_expression_290 ?_
  refine x_callV (As := [_]) dX12_expression_291 w_12_226 (m_operand hl hM (Or.inl rfl) hym4) (by assumption) (by assumption) rfl rfl (Nat.le_of_ble_eq_true rfl) (Nat.le_of_ble_eq_true rfl) (Nat.le_of_ble_eq_true rfl) (Nat.le_of_ble_eq_true rfl) (Nat.le_of_ble_eq_true rfl) ?_
  intro d5 hd5
  refine x_goto (t := 322) dX12_expression_294 rfl ?_
  refine x_goto (t := 29) dX12_expression_322 rfl ?_
  exact gO 1 0 _ _ _ _ d5 _ hup.1 hup.2 hlop (by decide) ⟨d4, hxf4, hd5⟩
set_option maxHeartbeats 1500000 in
theorem ex_prd2 {X : xC} {l : Launch} (hl : l.stackTraces = false) {N : Nat} {sh : xS} {D : xM} (hM : is_Md N sh) {b : Int → Int} {n : Nat} {s : Ys} {q1 : Nat} {K1 O1 : List Int} {f : Bool} {F0 : List Bool} {d : xM} {o2 : Option Value} (hyd : ym b n (0, q1, K1, O1, f :: F0) d) (hxf : xf D d) (nS1 : ¬ tM b n q1 43) (nS2 : ¬ tM b n q1 45) (h1 : ¬ tM b n q1 42) (h2 : tM b n q1 47) (gO : ∀ (m' : Nat) (mn : Int) (q2 : Nat) (K2 O2 : List Int) (F2 : List Bool) (d5 : xM) (o2 : Option Value), q1 < q2 → q2 ≤ n → y_lop b n q1 K1 O1 (f :: F0) = .inr (m', q2, K2, O2, F2) → m' = (if mn = 1 then 2 else 1) → (∃ d4, xf D d4 ∧ yq b n ((if mn = 1 then 2 else 1, q2, K2, O2, F2) : Ys) d4 d5) → x_W (X, l, yX12_expression, cX12_expression, 3, none, x_room 5 0 0, 0, 0, (.inl none), N, sh, (ye b n s D), false, []) 29 [some (.ref (x_b X + 62)), some (.int (xI 1)), o2] [] 0 0 false N sh d5) : x_W (X, l, yX12_expression, cX12_expression, 3, none, x_room 5 0 0, 0, 0, (.inl none), N, sh, (ye b n s D), false, []) 186 [some (.ref (x_b X + 62)), some (.int (xI 1)), o2] [] 0 0 false N sh d := by
  have s62 := md_62 hM
  have n62 : 62 < N := md_n hM (by decide)
  have s81 := md_81 hM
  have n81 : 81 < N := md_n hM (by decide)
  obtain ⟨hgX, h14d, hkX, h31X, hfkX, ⟨hb1X, hb2X⟩, hb3X, hb4X⟩ := id hyd
  have hg : gs b n q1 d := hgX
  have hk : yk K1 (cod O1) d := hkX
  have h31 : d 62 31 = ((f :: F0).length : Nat) := h31X
  have hfk : fk (f :: F0) (d 81) := hfkX
  have hb1 : (cod O1).length + K1.length + 8 ≤ 2 * q1 := hb1X
  have hb2 : K1.length ≤ q1 := hb2X
  have hb3 : (f :: F0).length = zc K1 + 1 := hb3X
  have hb4 : (f :: F0).length ≤ 6 := hb4X
  obtain ⟨ht, hqn, g18, g20, g19, g21, g22, g23, g24⟩ := id hg
  obtain ⟨t1, t2, t3⟩ := id ht
  obtain ⟨e0, e1, e2⟩ := tE_in (b := b) hqn
  have hki := tK_in (b := b) (n := n) (q := q1)
  obtain ⟨s0, s1, s2, s3, s4, s5⟩ := m_so_w (b := b) (n := n) (q := q1)
  clear hgX hkX h31X hfkX hb1X hb2X hb3X hb4X
  have hup : q1 < tE b n q1 ∧ tE b n q1 ≤ n := tM_up hqn h2
  have hlop := lop_prd (K := K1) (O := O1) (F := f :: F0) (b := b) (n := n) (q := q1) (Or.inr h2)
  rw [if_neg h1] at hlop
  have hdc := dc_dr (p := 6) (K := K1) (O := O1) hk.2.2.2.2
  have hlen := dc_len (p := 6) (K := K1) (C := cod O1)
  have hle := dc_le (p := 6) (K := K1) (C := cod O1)
  have hzd := zc_dr (p := 6) (K := K1) (O := O1)
  rw [hdc] at hlen hle
  have hlen : (cod (dr 6 K1 O1).2).length + (dr 6 K1 O1).1.length = (cod O1).length + K1.length := hlen
  have hle : (dr 6 K1 O1).1.length ≤ K1.length := hle
  refine x_aload_n dX12_expression_186 x_get_3_0 ?_
  refine x_bipush dX12_expression_187 rfl ?_
  refine x_callV (As := [_]) dX12_expression_189 w_12_211 (m_sign hl hM hg ⟨by decide, by decide⟩) (by assumption) (by assumption) rfl rfl (Nat.le_of_ble_eq_true rfl) (Nat.le_of_ble_eq_true rfl) (Nat.le_of_ble_eq_true rfl) (Nat.le_of_ble_eq_true rfl) (Nat.le_of_ble_eq_true rfl) ?_
  intro d hd
  obtain rfl := Eq.symm hd
  refine b_ifne (t := 204) dX12_expression_192 rfl (fun hc192 => absurd hc192 (nS1)) (fun hc192 => ?_)
  refine x_aload_n dX12_expression_195 x_get_3_0 ?_
  refine x_bipush dX12_expression_196 rfl ?_
  refine x_callV (As := [_]) dX12_expression_198 w_12_211 (m_sign hl hM hg ⟨by decide, by decide⟩) (by assumption) (by assumption) rfl rfl (Nat.le_of_ble_eq_true rfl) (Nat.le_of_ble_eq_true rfl) (Nat.le_of_ble_eq_true rfl) (Nat.le_of_ble_eq_true rfl) (Nat.le_of_ble_eq_true rfl) ?_
  intro d hd
  obtain rfl := Eq.symm hd
  refine b_ifeq (t := 241) dX12_expression_201 rfl (fun hc201 => ?_) (fun hc201 => absurd hc201 (nS2))
  refine x_aload_n dX12_expression_241 x_get_3_0 ?_
  refine x_bipush dX12_expression_242 rfl ?_
  refine x_callV (As := [_]) dX12_expression_244 w_12_211 (m_sign hl hM hg ⟨by decide, by decide⟩) (by assumption) (by assumption) rfl rfl (Nat.le_of_ble_eq_true rfl) (Nat.le_of_ble_eq_true rfl) (Nat.le_of_ble_eq_true rfl) (Nat.le_of_ble_eq_true rfl) (Nat.le_of_ble_eq_true rfl) ?_
  intro d hd
  obtain rfl := Eq.symm hd
  refine b_ifne (t := 259) dX12_expression_247 rfl (fun hc247 => absurd hc247 (h1)) (fun hc247 => ?_)
  refine x_aload_n dX12_expression_250 x_get_3_0 ?_
  refine x_bipush dX12_expression_251 rfl ?_
  refine x_callV (As := [_]) dX12_expression_253 w_12_211 (m_sign hl hM hg ⟨by decide, by decide⟩) (by assumption) (by assumption) rfl rfl (Nat.le_of_ble_eq_true rfl) (Nat.le_of_ble_eq_true rfl) (Nat.le_of_ble_eq_true rfl) (Nat.le_of_ble_eq_true rfl) (Nat.le_of_ble_eq_true rfl) ?_
  intro d hd
  obtain rfl := Eq.symm hd
  refine b_ifeq (t := 297) dX12_expression_256 rfl (fun hc256 => absurd hc256 (fun hh => hh h2)) (fun hc256 => ?_)
  refine x_aload_n dX12_expression_259 x_get_3_0 ?_
  refine x_bipush dX12_expression_260 rfl ?_
  refine x_callV (As := [_]) dX12_expression_262 w_12_223 (m_drops hl hM hk (by omega) (by omega) (p := 6) (by decide)) (by assumption) (by assumption) rfl rfl (Nat.le_of_ble_eq_true rfl) (Nat.le_of_ble_eq_true rfl) (Nat.le_of_ble_eq_true rfl) (Nat.le_of_ble_eq_true rfl) (Nat.le_of_ble_eq_true rfl) ?_
  rintro d1 ⟨hk1, hf1⟩
  rw [hdc] at hk1
  have hk1 : yk (dr 6 K1 O1).1 (cod (dr 6 K1 O1).2) d1 := hk1
  have hg1 := yf_gs hg hf1
  refine x_aload_n dX12_expression_265 x_get_3_0 ?_
  refine x_aload_n dX12_expression_266 x_get_3_0 ?_
  refine x_bipush dX12_expression_267 rfl ?_
  refine x_callV (As := [_]) dX12_expression_269 w_12_211 (m_sign hl hM hg1 ⟨by decide, by decide⟩) (by assumption) (by assumption) rfl rfl (Nat.le_of_ble_eq_true rfl) (Nat.le_of_ble_eq_true rfl) (Nat.le_of_ble_eq_true rfl) (Nat.le_of_ble_eq_true rfl) (Nat.le_of_ble_eq_true rfl) ?_
  intro d hd
  obtain rfl := Eq.symm hd
  refine b_ifeq (t := 280) dX12_expression_272 rfl (fun hc272 => ?_) (fun hc272 => absurd hc272 (h1))
  refine x_bipush dX12_expression_280 rfl ?_
  refine x_callV (As := [_]) dX12_expression_282 w_12_214 (m_wait hl hM hk1 (by omega) (s := (-15 : Int)) (v := 11) (Or.inr ⟨by decide, by decide⟩) rfl) (by assumption) (by assumption) rfl rfl (Nat.le_of_ble_eq_true rfl) (Nat.le_of_ble_eq_true rfl) (Nat.le_of_ble_eq_true rfl) (Nat.le_of_ble_eq_true rfl) (Nat.le_of_ble_eq_true rfl) ?_
  rintro d2 ⟨hk2, hf2⟩
  have hf12 := yf_tr hf1 hf2
  have hg2 := yf_gs hg hf12
  have h142 : d2 62 14 = 0 := by rw [hf12.2 14 (by decide) (by decide)]; exact h14d
  have h312 : d2 62 31 = (((f :: F0).length : Nat) : Int) := by rw [hf12.2 31 (by decide) (by decide)]; exact h31
  have h812 : d2 81 = d 81 := hf12.1 81 (by decide) (by decide) (by decide)
  have hxf2 : xf D d2 := xf_tr hxf (xf_yf hf12)
  have e14 := h142
  have e31 := h312
  refine x_aload_n dX12_expression_285 x_get_3_0 ?_
  refine x_callV (As := []) dX12_expression_286 w_12_180 (m_goes hl hM hg2.1 e2 hg2.2.2.1) (by assumption) (by assumption) rfl rfl (Nat.le_of_ble_eq_true rfl) (Nat.le_of_ble_eq_true rfl) (Nat.le_of_ble_eq_true rfl) (Nat.le_of_ble_eq_true rfl) (Nat.le_of_ble_eq_true rfl) ?_
  rintro d4 ⟨hg4, hgf4⟩
  have hym4 : ym b n ((if (0 : Int) = 1 then 2 else 1, tE b n q1, (-15 : Int) :: (dr 6 K1 O1).1, (dr 6 K1 O1).2, f :: F0) : Ys) d4 := ym_mk hg4 (by rw [hgf4.2 14 (by decide)]; exact e14) (gf_yk hk2 hgf4) (by rw [hgf4.2 31 (by decide)]; exact e31) (by rw [hgf4.1 81 (by decide)]; exact (by rw [h812]; exact hfk)) (by rw [List.length_cons]; omega) (by rw [List.length_cons]; omega) (by show _ = (if (-15 : Int) = 0 then 1 else 0) + zc (dr 6 K1 O1).1 + 1; rw [if_neg (by decide), hzd, Nat.zero_add]; exact hb3) hb4
  have hxf4 : xf D d4 := xf_tr hxf2 (xf_gf hgf4)
  refine x_aload_n dX12_expression_289 x_get_3_0 ?_
  refine x_iconst dX12_expression_290 ?_
  refine x_callV (As := [_]) dX12_expression_291 w_12_226 (m_operand hl hM (Or.inl rfl) hym4) (by assumption) (by assumption) rfl rfl (Nat.le_of_ble_eq_true rfl) (Nat.le_of_ble_eq_true rfl) (Nat.le_of_ble_eq_true rfl) (Nat.le_of_ble_eq_true rfl) (Nat.le_of_ble_eq_true rfl) ?_
  intro d5 hd5
  refine x_goto (t := 322) dX12_expression_294 rfl ?_
  refine x_goto (t := 29) dX12_expression_322 rfl ?_
  exact gO 1 0 _ _ _ _ d5 _ hup.1 hup.2 hlop (by decide) ⟨d4, hxf4, hd5⟩
set_option maxHeartbeats 1500000 in
theorem ex_cls {X : xC} {l : Launch} (hl : l.stackTraces = false) {N : Nat} {sh : xS} {D : xM} (hM : is_Md N sh) {b : Int → Int} {n : Nat} {s : Ys} {k : Nat} (ih : ∀ (q1 : Nat) (K1 O1 : List Int) (F1 : List Bool) (d : xM) (o2 : Option Value), n - q1 < k → ym b n (0, q1, K1, O1, F1) d → xf D d → Rc b n s (.inr (0, q1, K1, O1, F1)) → x_W (X, l, yX12_expression, cX12_expression, 3, none, x_room 5 0 0, 0, 0, (.inl none), N, sh, (ye b n s D), false, []) 29 [some (.ref (x_b X + 62)), some (.int (xI 1)), o2] [] 0 0 false N sh d) {q1 : Nat} {K1 O1 : List Int} {f : Bool} {F0 : List Bool} {d : xM} {o2 : Option Value} (hyd : ym b n (0, q1, K1, O1, f :: F0) d) (hxf : xf D d) (hrc : Rc b n s (.inr (0, q1, K1, O1, f :: F0))) (nS1 : ¬ tM b n q1 43) (nS2 : ¬ tM b n q1 45) (nP1 : ¬ tM b n q1 42) (nP2 : ¬ tM b n q1 47) (hk0 : n - q1 < k + 1) (hC1 : tM b n q1 41) (hC2 : (0 : Int) ∈ K1) : x_W (X, l, yX12_expression, cX12_expression, 3, none, x_room 5 0 0, 0, 0, (.inl none), N, sh, (ye b n s D), false, []) 186 [some (.ref (x_b X + 62)), some (.int (xI 1)), o2] [] 0 0 false N sh d := by
  have s62 := md_62 hM
  have n62 : 62 < N := md_n hM (by decide)
  have s81 := md_81 hM
  have n81 : 81 < N := md_n hM (by decide)
  obtain ⟨hgX, h14d, hkX, h31X, hfkX, ⟨hb1X, hb2X⟩, hb3X, hb4X⟩ := id hyd
  have hg : gs b n q1 d := hgX
  have hk : yk K1 (cod O1) d := hkX
  have h31 : d 62 31 = ((f :: F0).length : Nat) := h31X
  have hfk : fk (f :: F0) (d 81) := hfkX
  have hb1 : (cod O1).length + K1.length + 8 ≤ 2 * q1 := hb1X
  have hb2 : K1.length ≤ q1 := hb2X
  have hb3 : (f :: F0).length = zc K1 + 1 := hb3X
  have hb4 : (f :: F0).length ≤ 6 := hb4X
  obtain ⟨ht, hqn, g18, g20, g19, g21, g22, g23, g24⟩ := id hg
  obtain ⟨t1, t2, t3⟩ := id ht
  obtain ⟨e0, e1, e2⟩ := tE_in (b := b) hqn
  have hki := tK_in (b := b) (n := n) (q := q1)
  obtain ⟨s0, s1, s2, s3, s4, s5⟩ := m_so_w (b := b) (n := n) (q := q1)
  clear hgX hkX h31X hfkX hb1X hb2X hb3X hb4X
  have hup := tM_up hqn hC1
  have hlop := lop_cls (K := K1) (O := O1) (F := f :: F0) hC1 hC2
  refine x_aload_n dX12_expression_186 x_get_3_0 ?_
  refine x_bipush dX12_expression_187 rfl ?_
  refine x_callV (As := [_]) dX12_expression_189 w_12_211 (m_sign hl hM hg ⟨by decide, by decide⟩) (by assumption) (by assumption) rfl rfl (Nat.le_of_ble_eq_true rfl) (Nat.le_of_ble_eq_true rfl) (Nat.le_of_ble_eq_true rfl) (Nat.le_of_ble_eq_true rfl) (Nat.le_of_ble_eq_true rfl) ?_
  intro d hd
  obtain rfl := Eq.symm hd
  refine b_ifne (t := 204) dX12_expression_192 rfl (fun hc192 => absurd hc192 (nS1)) (fun hc192 => ?_)
  refine x_aload_n dX12_expression_195 x_get_3_0 ?_
  refine x_bipush dX12_expression_196 rfl ?_
  refine x_callV (As := [_]) dX12_expression_198 w_12_211 (m_sign hl hM hg ⟨by decide, by decide⟩) (by assumption) (by assumption) rfl rfl (Nat.le_of_ble_eq_true rfl) (Nat.le_of_ble_eq_true rfl) (Nat.le_of_ble_eq_true rfl) (Nat.le_of_ble_eq_true rfl) (Nat.le_of_ble_eq_true rfl) ?_
  intro d hd
  obtain rfl := Eq.symm hd
  refine b_ifeq (t := 241) dX12_expression_201 rfl (fun hc201 => ?_) (fun hc201 => absurd hc201 (nS2))
  refine x_aload_n dX12_expression_241 x_get_3_0 ?_
  refine x_bipush dX12_expression_242 rfl ?_
  refine x_callV (As := [_]) dX12_expression_244 w_12_211 (m_sign hl hM hg ⟨by decide, by decide⟩) (by assumption) (by assumption) rfl rfl (Nat.le_of_ble_eq_true rfl) (Nat.le_of_ble_eq_true rfl) (Nat.le_of_ble_eq_true rfl) (Nat.le_of_ble_eq_true rfl) (Nat.le_of_ble_eq_true rfl) ?_
  intro d hd
  obtain rfl := Eq.symm hd
  refine b_ifne (t := 259) dX12_expression_247 rfl (fun hc247 => absurd hc247 (nP1)) (fun hc247 => ?_)
  refine x_aload_n dX12_expression_250 x_get_3_0 ?_
  refine x_bipush dX12_expression_251 rfl ?_
  refine x_callV (As := [_]) dX12_expression_253 w_12_211 (m_sign hl hM hg ⟨by decide, by decide⟩) (by assumption) (by assumption) rfl rfl (Nat.le_of_ble_eq_true rfl) (Nat.le_of_ble_eq_true rfl) (Nat.le_of_ble_eq_true rfl) (Nat.le_of_ble_eq_true rfl) (Nat.le_of_ble_eq_true rfl) ?_
  intro d hd
  obtain rfl := Eq.symm hd
  refine b_ifeq (t := 297) dX12_expression_256 rfl (fun hc256 => ?_) (fun hc256 => absurd hc256 (nP2))
  refine x_aload_n dX12_expression_297 x_get_3_0 ?_
  refine x_bipush dX12_expression_298 rfl ?_
  refine x_callV (As := [_]) dX12_expression_300 w_12_211 (m_sign hl hM hg ⟨by decide, by decide⟩) (by assumption) (by assumption) rfl rfl (Nat.le_of_ble_eq_true rfl) (Nat.le_of_ble_eq_true rfl) (Nat.le_of_ble_eq_true rfl) (Nat.le_of_ble_eq_true rfl) (Nat.le_of_ble_eq_true rfl) ?_
  intro d hd
  obtain rfl := Eq.symm hd
  refine b_ifeq (t := 320) dX12_expression_303 rfl (fun hc303 => absurd hc303 (fun hh => hh hC1)) (fun hc303 => ?_)
  refine x_aload_n dX12_expression_306 x_get_3_0 ?_
  refine x_callV (As := []) dX12_expression_307 w_12_230 (m_isOpened hl hM hk (by omega)) (by assumption) (by assumption) rfl rfl (Nat.le_of_ble_eq_true rfl) (Nat.le_of_ble_eq_true rfl) (Nat.le_of_ble_eq_true rfl) (Nat.le_of_ble_eq_true rfl) (Nat.le_of_ble_eq_true rfl) ?_
  intro d hd
  obtain rfl := Eq.symm hd
  refine b_ifeq (t := 320) dX12_expression_310 rfl (fun hc310 => absurd hc310 (fun hh => hh hC2)) (fun hc310 => ?_)
  refine x_aload_n dX12_expression_313 x_get_3_0 ?_
  refine x_callV (As := []) dX12_expression_314 w_12_233 (m_closes hl hM hyd hC2 (by have := hC1.1; omega)) (by assumption) (by assumption) rfl rfl (Nat.le_of_ble_eq_true rfl) (Nat.le_of_ble_eq_true rfl) (Nat.le_of_ble_eq_true rfl) (Nat.le_of_ble_eq_true rfl) (Nat.le_of_ble_eq_true rfl) ?_
  rintro d5 ⟨hy5, hx5⟩
  refine x_goto (t := 322) dX12_expression_317 rfl ?_
  refine x_goto (t := 29) dX12_expression_322 rfl ?_
  exact ih _ _ _ _ d5 _ (by omega) hy5 (xf_tr hxf hx5) (rc_tr hrc (rc_s (y1_0.trans hlop) rc_rf))
set_option maxHeartbeats 1500000 in
theorem ex_end1 {X : xC} {l : Launch} (hl : l.stackTraces = false) {N : Nat} {sh : xS} {D : xM} (hM : is_Md N sh) {b : Int → Int} {n : Nat} {s : Ys} {q1 : Nat} {K1 O1 : List Int} {f : Bool} {F0 : List Bool} {d : xM} {o2 : Option Value} (hyd : ym b n (0, q1, K1, O1, f :: F0) d) (hxf : xf D d) (hrc : Rc b n s (.inr (0, q1, K1, O1, f :: F0))) (nS1 : ¬ tM b n q1 43) (nS2 : ¬ tM b n q1 45) (nP1 : ¬ tM b n q1 42) (nP2 : ¬ tM b n q1 47) (hlop : y_lop b n q1 K1 O1 (f :: F0) = (if 1 < (f :: F0).length then .inl (1, q1) else .inr (20, q1, K1, O1, f :: F0))) (h41 : tM b n q1 41) (h0 : ¬ (0 : Int) ∈ K1) : x_W (X, l, yX12_expression, cX12_expression, 3, none, x_room 5 0 0, 0, 0, (.inl none), N, sh, (ye b n s D), false, []) 186 [some (.ref (x_b X + 62)), some (.int (xI 1)), o2] [] 0 0 false N sh d := by
  have s62 := md_62 hM
  have n62 : 62 < N := md_n hM (by decide)
  have s81 := md_81 hM
  have n81 : 81 < N := md_n hM (by decide)
  obtain ⟨hgX, h14d, hkX, h31X, hfkX, ⟨hb1X, hb2X⟩, hb3X, hb4X⟩ := id hyd
  have hg : gs b n q1 d := hgX
  have hk : yk K1 (cod O1) d := hkX
  have h31 : d 62 31 = ((f :: F0).length : Nat) := h31X
  have hfk : fk (f :: F0) (d 81) := hfkX
  have hb1 : (cod O1).length + K1.length + 8 ≤ 2 * q1 := hb1X
  have hb2 : K1.length ≤ q1 := hb2X
  have hb3 : (f :: F0).length = zc K1 + 1 := hb3X
  have hb4 : (f :: F0).length ≤ 6 := hb4X
  obtain ⟨ht, hqn, g18, g20, g19, g21, g22, g23, g24⟩ := id hg
  obtain ⟨t1, t2, t3⟩ := id ht
  obtain ⟨e0, e1, e2⟩ := tE_in (b := b) hqn
  have hki := tK_in (b := b) (n := n) (q := q1)
  obtain ⟨s0, s1, s2, s3, s4, s5⟩ := m_so_w (b := b) (n := n) (q := q1)
  clear hgX hkX h31X hfkX hb1X hb2X hb3X hb4X
  refine x_aload_n dX12_expression_186 x_get_3_0 ?_
  refine x_bipush dX12_expression_187 rfl ?_
  refine x_callV (As := [_]) dX12_expression_189 w_12_211 (m_sign hl hM hg ⟨by decide, by decide⟩) (by assumption) (by assumption) rfl rfl (Nat.le_of_ble_eq_true rfl) (Nat.le_of_ble_eq_true rfl) (Nat.le_of_ble_eq_true rfl) (Nat.le_of_ble_eq_true rfl) (Nat.le_of_ble_eq_true rfl) ?_
  intro d hd
  obtain rfl := Eq.symm hd
  refine b_ifne (t := 204) dX12_expression_192 rfl (fun hc192 => absurd hc192 (nS1)) (fun hc192 => ?_)
  refine x_aload_n dX12_expression_195 x_get_3_0 ?_
  refine x_bipush dX12_expression_196 rfl ?_
  refine x_callV (As := [_]) dX12_expression_198 w_12_211 (m_sign hl hM hg ⟨by decide, by decide⟩) (by assumption) (by assumption) rfl rfl (Nat.le_of_ble_eq_true rfl) (Nat.le_of_ble_eq_true rfl) (Nat.le_of_ble_eq_true rfl) (Nat.le_of_ble_eq_true rfl) (Nat.le_of_ble_eq_true rfl) ?_
  intro d hd
  obtain rfl := Eq.symm hd
  refine b_ifeq (t := 241) dX12_expression_201 rfl (fun hc201 => ?_) (fun hc201 => absurd hc201 (nS2))
  refine x_aload_n dX12_expression_241 x_get_3_0 ?_
  refine x_bipush dX12_expression_242 rfl ?_
  refine x_callV (As := [_]) dX12_expression_244 w_12_211 (m_sign hl hM hg ⟨by decide, by decide⟩) (by assumption) (by assumption) rfl rfl (Nat.le_of_ble_eq_true rfl) (Nat.le_of_ble_eq_true rfl) (Nat.le_of_ble_eq_true rfl) (Nat.le_of_ble_eq_true rfl) (Nat.le_of_ble_eq_true rfl) ?_
  intro d hd
  obtain rfl := Eq.symm hd
  refine b_ifne (t := 259) dX12_expression_247 rfl (fun hc247 => absurd hc247 (nP1)) (fun hc247 => ?_)
  refine x_aload_n dX12_expression_250 x_get_3_0 ?_
  refine x_bipush dX12_expression_251 rfl ?_
  refine x_callV (As := [_]) dX12_expression_253 w_12_211 (m_sign hl hM hg ⟨by decide, by decide⟩) (by assumption) (by assumption) rfl rfl (Nat.le_of_ble_eq_true rfl) (Nat.le_of_ble_eq_true rfl) (Nat.le_of_ble_eq_true rfl) (Nat.le_of_ble_eq_true rfl) (Nat.le_of_ble_eq_true rfl) ?_
  intro d hd
  obtain rfl := Eq.symm hd
  refine b_ifeq (t := 297) dX12_expression_256 rfl (fun hc256 => ?_) (fun hc256 => absurd hc256 (nP2))
  refine x_aload_n dX12_expression_297 x_get_3_0 ?_
  refine x_bipush dX12_expression_298 rfl ?_
  refine x_callV (As := [_]) dX12_expression_300 w_12_211 (m_sign hl hM hg ⟨by decide, by decide⟩) (by assumption) (by assumption) rfl rfl (Nat.le_of_ble_eq_true rfl) (Nat.le_of_ble_eq_true rfl) (Nat.le_of_ble_eq_true rfl) (Nat.le_of_ble_eq_true rfl) (Nat.le_of_ble_eq_true rfl) ?_
  intro d hd
  obtain rfl := Eq.symm hd
  refine b_ifeq (t := 320) dX12_expression_303 rfl (fun hc303 => absurd hc303 (fun hh => hh h41)) (fun hc303 => ?_)
  refine x_aload_n dX12_expression_306 x_get_3_0 ?_
  refine x_callV (As := []) dX12_expression_307 w_12_230 (m_isOpened hl hM hk (by omega)) (by assumption) (by assumption) rfl rfl (Nat.le_of_ble_eq_true rfl) (Nat.le_of_ble_eq_true rfl) (Nat.le_of_ble_eq_true rfl) (Nat.le_of_ble_eq_true rfl) (Nat.le_of_ble_eq_true rfl) ?_
  intro d hd
  obtain rfl := Eq.symm hd
  refine b_ifeq (t := 320) dX12_expression_310 rfl (fun hc310 => ?_) (fun hc310 => absurd hc310 (h0))
  refine x_iconst dX12_expression_320 ?_
  refine x_istore_n dX12_expression_321 (Nat.le_of_ble_eq_true rfl) rfl x_set_3_1 ?_
  refine x_goto (t := 29) dX12_expression_322 rfl ?_
  refine x_iload_n dX12_expression_29 x_get_3_1 ?_
  refine r_if_eq (t := 325) dX12_expression_30 rfl ⟨by omega, by omega⟩ (fun hc30 => ?_) (fun hc30 => absurd hc30 (by omega))
  exact ex_g325 hl hM hyd hxf hrc hlop
set_option maxHeartbeats 1500000 in
theorem ex_end2 {X : xC} {l : Launch} (hl : l.stackTraces = false) {N : Nat} {sh : xS} {D : xM} (hM : is_Md N sh) {b : Int → Int} {n : Nat} {s : Ys} {q1 : Nat} {K1 O1 : List Int} {f : Bool} {F0 : List Bool} {d : xM} {o2 : Option Value} (hyd : ym b n (0, q1, K1, O1, f :: F0) d) (hxf : xf D d) (hrc : Rc b n s (.inr (0, q1, K1, O1, f :: F0))) (nS1 : ¬ tM b n q1 43) (nS2 : ¬ tM b n q1 45) (nP1 : ¬ tM b n q1 42) (nP2 : ¬ tM b n q1 47) (hlop : y_lop b n q1 K1 O1 (f :: F0) = (if 1 < (f :: F0).length then .inl (1, q1) else .inr (20, q1, K1, O1, f :: F0))) (h41 : ¬ tM b n q1 41) : x_W (X, l, yX12_expression, cX12_expression, 3, none, x_room 5 0 0, 0, 0, (.inl none), N, sh, (ye b n s D), false, []) 186 [some (.ref (x_b X + 62)), some (.int (xI 1)), o2] [] 0 0 false N sh d := by
  have s62 := md_62 hM
  have n62 : 62 < N := md_n hM (by decide)
  have s81 := md_81 hM
  have n81 : 81 < N := md_n hM (by decide)
  obtain ⟨hgX, h14d, hkX, h31X, hfkX, ⟨hb1X, hb2X⟩, hb3X, hb4X⟩ := id hyd
  have hg : gs b n q1 d := hgX
  have hk : yk K1 (cod O1) d := hkX
  have h31 : d 62 31 = ((f :: F0).length : Nat) := h31X
  have hfk : fk (f :: F0) (d 81) := hfkX
  have hb1 : (cod O1).length + K1.length + 8 ≤ 2 * q1 := hb1X
  have hb2 : K1.length ≤ q1 := hb2X
  have hb3 : (f :: F0).length = zc K1 + 1 := hb3X
  have hb4 : (f :: F0).length ≤ 6 := hb4X
  obtain ⟨ht, hqn, g18, g20, g19, g21, g22, g23, g24⟩ := id hg
  obtain ⟨t1, t2, t3⟩ := id ht
  obtain ⟨e0, e1, e2⟩ := tE_in (b := b) hqn
  have hki := tK_in (b := b) (n := n) (q := q1)
  obtain ⟨s0, s1, s2, s3, s4, s5⟩ := m_so_w (b := b) (n := n) (q := q1)
  clear hgX hkX h31X hfkX hb1X hb2X hb3X hb4X
  refine x_aload_n dX12_expression_186 x_get_3_0 ?_
  refine x_bipush dX12_expression_187 rfl ?_
  refine x_callV (As := [_]) dX12_expression_189 w_12_211 (m_sign hl hM hg ⟨by decide, by decide⟩) (by assumption) (by assumption) rfl rfl (Nat.le_of_ble_eq_true rfl) (Nat.le_of_ble_eq_true rfl) (Nat.le_of_ble_eq_true rfl) (Nat.le_of_ble_eq_true rfl) (Nat.le_of_ble_eq_true rfl) ?_
  intro d hd
  obtain rfl := Eq.symm hd
  refine b_ifne (t := 204) dX12_expression_192 rfl (fun hc192 => absurd hc192 (nS1)) (fun hc192 => ?_)
  refine x_aload_n dX12_expression_195 x_get_3_0 ?_
  refine x_bipush dX12_expression_196 rfl ?_
  refine x_callV (As := [_]) dX12_expression_198 w_12_211 (m_sign hl hM hg ⟨by decide, by decide⟩) (by assumption) (by assumption) rfl rfl (Nat.le_of_ble_eq_true rfl) (Nat.le_of_ble_eq_true rfl) (Nat.le_of_ble_eq_true rfl) (Nat.le_of_ble_eq_true rfl) (Nat.le_of_ble_eq_true rfl) ?_
  intro d hd
  obtain rfl := Eq.symm hd
  refine b_ifeq (t := 241) dX12_expression_201 rfl (fun hc201 => ?_) (fun hc201 => absurd hc201 (nS2))
  refine x_aload_n dX12_expression_241 x_get_3_0 ?_
  refine x_bipush dX12_expression_242 rfl ?_
  refine x_callV (As := [_]) dX12_expression_244 w_12_211 (m_sign hl hM hg ⟨by decide, by decide⟩) (by assumption) (by assumption) rfl rfl (Nat.le_of_ble_eq_true rfl) (Nat.le_of_ble_eq_true rfl) (Nat.le_of_ble_eq_true rfl) (Nat.le_of_ble_eq_true rfl) (Nat.le_of_ble_eq_true rfl) ?_
  intro d hd
  obtain rfl := Eq.symm hd
  refine b_ifne (t := 259) dX12_expression_247 rfl (fun hc247 => absurd hc247 (nP1)) (fun hc247 => ?_)
  refine x_aload_n dX12_expression_250 x_get_3_0 ?_
  refine x_bipush dX12_expression_251 rfl ?_
  refine x_callV (As := [_]) dX12_expression_253 w_12_211 (m_sign hl hM hg ⟨by decide, by decide⟩) (by assumption) (by assumption) rfl rfl (Nat.le_of_ble_eq_true rfl) (Nat.le_of_ble_eq_true rfl) (Nat.le_of_ble_eq_true rfl) (Nat.le_of_ble_eq_true rfl) (Nat.le_of_ble_eq_true rfl) ?_
  intro d hd
  obtain rfl := Eq.symm hd
  refine b_ifeq (t := 297) dX12_expression_256 rfl (fun hc256 => ?_) (fun hc256 => absurd hc256 (nP2))
  refine x_aload_n dX12_expression_297 x_get_3_0 ?_
  refine x_bipush dX12_expression_298 rfl ?_
  refine x_callV (As := [_]) dX12_expression_300 w_12_211 (m_sign hl hM hg ⟨by decide, by decide⟩) (by assumption) (by assumption) rfl rfl (Nat.le_of_ble_eq_true rfl) (Nat.le_of_ble_eq_true rfl) (Nat.le_of_ble_eq_true rfl) (Nat.le_of_ble_eq_true rfl) (Nat.le_of_ble_eq_true rfl) ?_
  intro d hd
  obtain rfl := Eq.symm hd
  refine b_ifeq (t := 320) dX12_expression_303 rfl (fun hc303 => ?_) (fun hc303 => absurd hc303 (h41))
  refine x_iconst dX12_expression_320 ?_
  refine x_istore_n dX12_expression_321 (Nat.le_of_ble_eq_true rfl) rfl x_set_3_1 ?_
  refine x_goto (t := 29) dX12_expression_322 rfl ?_
  refine x_iload_n dX12_expression_29 x_get_3_1 ?_
  refine r_if_eq (t := 325) dX12_expression_30 rfl ⟨by omega, by omega⟩ (fun hc30 => ?_) (fun hc30 => absurd hc30 (by omega))
  exact ex_g325 hl hM hyd hxf hrc hlop
set_option maxHeartbeats 1500000 in
theorem ex_g29 {X : xC} {l : Launch} (hl : l.stackTraces = false) {N : Nat} {sh : xS} {D : xM} (hM : is_Md N sh) {b : Int → Int} {n : Nat} {s : Ys} : ∀ (k q1 : Nat) (K1 O1 : List Int) (F1 : List Bool) (d : xM) (o2 : Option Value), n - q1 < k → ym b n (0, q1, K1, O1, F1) d → xf D d → Rc b n s (.inr (0, q1, K1, O1, F1)) → x_W (X, l, yX12_expression, cX12_expression, 3, none, x_room 5 0 0, 0, 0, (.inl none), N, sh, (ye b n s D), false, []) 29 [some (.ref (x_b X + 62)), some (.int (xI 1)), o2] [] 0 0 false N sh d := by
  intro k
  induction k with
  | zero => intro q1 K1 O1 F1 d o2 h; exact absurd h (Nat.not_lt_zero _)
  | succ k ih =>
    intro q1 K1 O1 F1 d o2 hk0 hyd hxf hrc
    have h3 : F1.length = zc K1 + 1 := hyd.2.2.2.2.2.2.1
    obtain ⟨f, F0, hF⟩ : ∃ f F0, F1 = f :: F0 := by
      cases F1 with
      | nil => exact absurd h3 (by simp)
      | cons f F0 => exact ⟨f, F0, rfl⟩
    rw [hF] at hyd hrc
    have hqn : q1 ≤ n := hyd.1.2.1
    have gO : ∀ (m' : Nat) (mn : Int) (q2 : Nat) (K2 O2 : List Int) (F2 : List Bool) (d5 : xM) (o2 : Option Value), q1 < q2 → q2 ≤ n → y_lop b n q1 K1 O1 (f :: F0) = .inr (m', q2, K2, O2, F2) → m' = (if mn = 1 then 2 else 1) → (∃ d4, xf D d4 ∧ yq b n ((if mn = 1 then 2 else 1, q2, K2, O2, F2) : Ys) d4 d5) → x_W (X, l, yX12_expression, cX12_expression, 3, none, x_room 5 0 0, 0, 0, (.inl none), N, sh, (ye b n s D), false, []) 29 [some (.ref (x_b X + 62)), some (.int (xI 1)), o2] [] 0 0 false N sh d5 := by
      intro m' mn q2 K2 O2 F2 d5 o2 hq2 hq2n hlop hm' hex
      obtain ⟨d4, hx4, hx5, h5⟩ := hex
      rw [← hm'] at h5
      have hrc2 : Rc b n s (.inr (m', q2, K2, O2, F2)) := rc_tr hrc (rc_s (y1_0.trans hlop) rc_rf)
      rcases h5 with ⟨⟨m3, q3, K3, O3, F3⟩, r1, r2, r3⟩ | ⟨z, r1, r2, r3⟩
      · have hm3 : m3 = 0 := r2
        rw [hm3] at r1 r3
        have hqq := rc_q (show ((m', q2, K2, O2, F2) : Ys).2.1 ≤ n from hq2n) r1
        have hqq1 : q2 ≤ q3 := hqq.1
        have hlt : n - q3 < k := by
          clear hm' hlop
          omega
        exact ih q3 K3 O3 F3 d5 o2 hlt r3 (xf_tr hx4 hx5) (rc_tr hrc2 r1)
      · exact ex_f29 hl hM (o1 := none) (rc_tr hrc2 r1) r2 r3 (xf_tr hx4 hx5)
    by_cases hA : tW b n q1 14
    · exact ex_and hl hM hyd hxf hA gO
    by_cases hO : tW b n q1 15
    · exact ex_or hl hM hyd hxf hO gO
    have hk12 := kw_eq (b := b) (n := n) (q := q1) (k := 12) (by decide)
    have hk13 := kw_eq (b := b) (n := n) (q := q1) (k := 13) (by decide)
    have n12 : ¬ kw b n q1 = 12 := fun h => hA (hk12.mp h)
    have n13 : ¬ kw b n q1 = 13 := fun h => hO (hk13.mp h)
    by_cases hT : (tM b n q1 60 ∨ tM b n q1 61) ∧ f = false
    · obtain ⟨hT1, hT2⟩ := hT
      rw [hT2] at hyd gO
      by_cases h60 : tM b n q1 60
      · exact ex_t1 hl hM hyd hxf n12 n13 h60 gO
      · exact ex_t2 hl hM hyd hxf n12 n13 h60 (hT1.resolve_left h60) gO
    have hnext : ∀ o2 : Option Value, x_W (X, l, yX12_expression, cX12_expression, 3, none, x_room 5 0 0, 0, 0, (.inl none), N, sh, (ye b n s D), false, []) 186 [some (.ref (x_b X + 62)), some (.int (xI 1)), o2] [] 0 0 false N sh d := by
      intro o2
      by_cases hS : tM b n q1 43 ∨ tM b n q1 45
      · by_cases h1 : tM b n q1 43
        · exact ex_sum1 hl hM hyd hxf h1 gO
        · exact ex_sum2 hl hM hyd hxf h1 (hS.resolve_left h1) gO
      have nS1 : ¬ tM b n q1 43 := fun h => hS (Or.inl h)
      have nS2 : ¬ tM b n q1 45 := fun h => hS (Or.inr h)
      by_cases hP : tM b n q1 42 ∨ tM b n q1 47
      · by_cases h1 : tM b n q1 42
        · exact ex_prd1 hl hM hyd hxf nS1 nS2 h1 gO
        · exact ex_prd2 hl hM hyd hxf nS1 nS2 h1 (hP.resolve_left h1) gO
      have nP1 : ¬ tM b n q1 42 := fun h => hP (Or.inl h)
      have nP2 : ¬ tM b n q1 47 := fun h => hP (Or.inr h)
      by_cases hC : tM b n q1 41 ∧ (0 : Int) ∈ K1
      · exact ex_cls hl hM ih hyd hxf hrc nS1 nS2 nP1 nP2 hk0 hC.1 hC.2
      have hnx : nx0 b n f q1 := by
        refine ⟨⟨⟨?_, hP, hS⟩, hA⟩, hO⟩
        cases hfv : f with
        | true => exact Or.inl rfl
        | false => exact Or.inr ⟨fun h => hT ⟨Or.inl h, hfv⟩, fun h => hT ⟨Or.inr h, hfv⟩⟩
      have hlop := lop_end (K := K1) (O := O1) (F0 := F0) hnx hC
      by_cases h41 : tM b n q1 41
      · exact ex_end1 hl hM hyd hxf hrc nS1 nS2 nP1 nP2 hlop h41 (fun h => hC ⟨h41, h⟩)
      · exact ex_end2 hl hM hyd hxf hrc nS1 nS2 nP1 nP2 hlop h41
    by_cases h60 : tM b n q1 60
    · have hf1 : f = true := by
        cases hfv : f with
        | true => rfl
        | false => exact absurd ⟨Or.inl h60, hfv⟩ hT
      exact ex_past1 hl hM hyd hxf n12 n13 h60 hf1 hnext
    by_cases h61 : tM b n q1 61
    · have hf1 : f = true := by
        cases hfv : f with
        | true => rfl
        | false => exact absurd ⟨Or.inr h61, hfv⟩ hT
      exact ex_past2 hl hM hyd hxf n12 n13 h60 h61 hf1 hnext
    exact ex_past3 hl hM hyd hxf n12 n13 h60 h61 hnext
set_option maxHeartbeats 1500000 in
theorem m_expr {X : xC} {l : Launch} (hl : l.stackTraces = false) {N : Nat} {sh : xS} {D : xM} (hM : is_Md N sh) {b : Int → Int} {n q : Nat} (hg : gs b n q D) (h14 : D 62 14 = 0) (h29 : D 62 29 = 0) (hq4 : 4 ≤ q) : x_M X l yX12_expression cX12_expression 3 (none) 5 0 0 [.ref (x_b X + 62)] false N sh D (.inl none) false N sh (ye b n ((2, q, [], [], [false]) : Ys) D) := by
  have s62 := md_62 hM
  have n62 : 62 < N := md_n hM (by decide)
  have s81 := md_81 hM
  have n81 : 81 < N := md_n hM (by decide)
  obtain ⟨s, hs⟩ : ∃ s : Ys, s = ((2, q, [], [], [false]) : Ys) := ⟨_, rfl⟩
  rw [← hs]
  obtain ⟨D1, hD1⟩ : ∃ D1, D1 = x_up D 62 (x_u1 (x_u1 (D 62) 30 0) 31 0) := ⟨_, rfl⟩
  have hg1 : gs b n q D1 := by
    unfold gs mtp at hg ⊢
    rw [hD1, x_up_s, x_up_n (by decide)]
    simp (disch := decide) only [x_u1_n]
    exact hg
  have h141 : D1 62 14 = 0 := by rw [hD1, x_up_s, x_u1_n (by decide), x_u1_n (by decide)]; exact h14
  have h311 : D1 62 31 = (([] : List Bool).length : Nat) := by rw [hD1, x_up_s, x_u1_s]; rfl
  have hx1 : xf D D1 := by rw [hD1]; exact ⟨fun j a _ _ _ => x_up_n a, fun i _ _ _ _ y z => by rw [x_up_s, x_u1_n z, x_u1_n y], fx_eq (by rw [x_up_s, x_u1_n (by decide), x_u1_n (by decide)]) (by rw [x_up_s, x_u1_n (by decide), x_u1_n (by decide)])⟩
  refine x_ofW (by decide +kernel) hl (by simp [Value.category]) (by simp) ?_
  refine x_aload_n dX12_expression_0 x_get_3_0 ?_
  refine x_callV (As := []) dX12_expression_1 w_12_176 (m_good hl hM h14) (by assumption) (by assumption) rfl rfl (Nat.le_of_ble_eq_true rfl) (Nat.le_of_ble_eq_true rfl) (Nat.le_of_ble_eq_true rfl) (Nat.le_of_ble_eq_true rfl) (Nat.le_of_ble_eq_true rfl) ?_
  intro d hd
  obtain rfl := Eq.symm hd
  refine r_if_ne (t := 8) dX12_expression_4 rfl ⟨by omega, by omega⟩ (fun hc4 => ?_) (fun hc4 => absurd hc4 (by omega))
  refine x_aload_n dX12_expression_8 x_get_3_0 ?_
  refine x_iconst dX12_expression_9 ?_
  refine x_putI 30 dX12_expression_10 fX_12_192 rfl tX_12_30 n62 s62 (by rfl) ?_
  try simp (disch := decide) only [x_up_s, x_up_n, x_up_up, x_u1_s, x_u1_n]
  refine x_aload_n dX12_expression_13 x_get_3_0 ?_
  refine x_iconst dX12_expression_14 ?_
  refine x_putI 31 dX12_expression_15 fX_12_208 rfl tX_12_31 n62 s62 (by rfl) ?_
  try simp (disch := decide) only [x_up_s, x_up_n, x_up_up, x_u1_s, x_u1_n]
  rw [← hD1]
  refine x_aload_n dX12_expression_18 x_get_3_0 ?_
  refine x_callV (As := []) dX12_expression_19 w_12_217 (m_deeperT hl hM hg1 h141 h311 trivial (by decide)) (by assumption) (by assumption) rfl rfl (Nat.le_of_ble_eq_true rfl) (Nat.le_of_ble_eq_true rfl) (Nat.le_of_ble_eq_true rfl) (Nat.le_of_ble_eq_true rfl) (Nat.le_of_ble_eq_true rfl) ?_
  rintro d3 ⟨x1, x2, x3, x4⟩
  have hgf3 : gs b n q d3 := by
    unfold gs mtp at hg1 ⊢
    rw [x4 17 (by decide), x3 70 (by decide) (by decide), x4 18 (by decide), x4 19 (by decide), x4 20 (by decide), x4 21 (by decide), x4 22 (by decide), x4 23 (by decide), x4 24 (by decide)]
    exact hg1
  have hk3 : yk [] (cod []) d3 := ⟨by rw [x4 30 (by decide), hD1, x_up_s, x_u1_n (by decide), x_u1_s]; rfl, trivial, by rw [x4 29 (by decide), hD1, x_up_s, x_u1_n (by decide), x_u1_n (by decide), h29]; rfl, fun i hi => absurd hi (Nat.not_lt_zero i), fun s hs => by cases hs⟩
  have hym3 : ym b n ((if (1 : Int) = 1 then 2 else 1, q, [], [], [false]) : Ys) d3 := ym_mk hgf3 (by rw [x4 14 (by decide)]; exact h141) hk3 (by rw [x1]; rfl) x2 (by show 0 + 0 + 8 ≤ 2 * q; omega) (Nat.zero_le _) rfl (by decide)
  have hx3 : xf D d3 := xf_tr hx1 ⟨fun j a _ _ e => x3 j a e, fun i _ _ _ _ _ g => x4 i g, fx_eq (x4 14 (by decide)) (x4 15 (by decide))⟩
  refine x_aload_n dX12_expression_22 x_get_3_0 ?_
  refine x_iconst dX12_expression_23 ?_
  refine x_callV (As := [_]) dX12_expression_24 w_12_226 (m_operand hl hM (Or.inr rfl) hym3) (by assumption) (by assumption) rfl rfl (Nat.le_of_ble_eq_true rfl) (Nat.le_of_ble_eq_true rfl) (Nat.le_of_ble_eq_true rfl) (Nat.le_of_ble_eq_true rfl) (Nat.le_of_ble_eq_true rfl) ?_
  intro d5 hd5
  obtain ⟨hx5, h5⟩ := hd5
  have hx5' : xf D d5 := xf_tr hx3 hx5
  refine x_iconst dX12_expression_27 ?_
  refine x_istore_n dX12_expression_28 (Nat.le_of_ble_eq_true rfl) rfl x_set_3_1 ?_
  have h5 : (∃ t : Ys, Rc b n s (.inr t) ∧ t.1 = 0 ∧ ym b n t d5) ∨ ∃ z : Int × Nat, Rc b n s (.inl z) ∧ (1 ≤ z.1 ∧ z.1 ≤ 5) ∧ yx b n z d5 := by rw [hs]; exact h5
  rcases h5 with ⟨⟨m3, q3, K3, O3, F3⟩, r1, r2, r3⟩ | ⟨z, r1, r2, r3⟩
  · have hm3 : m3 = 0 := r2
    rw [hm3] at r1 r3
    exact ex_g29 hl hM (n - q3 + 1) q3 K3 O3 F3 d5 _ (by omega) r3 hx5' r1
  · exact ex_f29 hl hM (o1 := none) r1 r2 r3 hx5'
end M99992
