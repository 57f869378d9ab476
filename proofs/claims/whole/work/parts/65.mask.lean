section M65
/-! ===== the Model's questions: what they leave as it is ===== -/
def ms (D d : xM) : Prop := (∀ j, j ≠ 62 → j ≠ 82 → (j < 84 ∨ 89 < j) → j ≠ 91 → j ≠ 92 → d j = D j) ∧ (∀ i, i ≠ 0 → i ≠ 47 → i ≠ 56 → d 62 i = D 62 i) ∧ (∀ i, i < 85 → d 82 i = D 82 i) ∧ ∀ j, x_r (d 84 j)
theorem ms_rf {D : xM} (h : ∀ j, x_r (D 84 j)) : ms D D := ⟨fun _ _ _ _ _ _ => rfl, fun _ _ _ _ => rfl, fun _ _ => rfl, h⟩
theorem ms_tr {D d d2 : xM} (h : ms D d) (h2 : ms d d2) : ms D d2 := ⟨fun j a b c e g => by rw [h2.1 j a b c e g]; exact h.1 j a b c e g, fun i a b c => by rw [h2.2.1 i a b c]; exact h.2.1 i a b c, fun i hi => by rw [h2.2.2.1 i hi]; exact h.2.2.1 i hi, h2.2.2.2⟩
theorem ms_thr {D d : xM} (h : ms D d) {v : Int} : ms D (x_up d 62 (x_u1 (d 62) 0 v)) := ⟨fun j a b c e g => by rw [x_up_n a]; exact h.1 j a b c e g, fun i a b c => by rw [x_up_s, x_u1_n a]; exact h.2.1 i a b c, fun i hi => by rw [x_up_n (by decide)]; exact h.2.2.1 i hi, by rw [x_up_n (by decide)]; exact h.2.2.2⟩
theorem ms_w {T C : Nat} {f' : Int → Int} {D d d2 : xM} (h : ms D d) (h2 : m_w T C 85 f' d d2) : ms D d2 := ⟨fun j a b c e g => by rw [h2.1 j b]; exact h.1 j a b c e g, fun i a b c => by rw [h2.1 62 (by decide)]; exact h.2.1 i a b c, fun i hi => by rw [h2.2.2 i (Or.inl hi)]; exact h.2.2.1 i hi, by rw [h2.1 84 (by decide)]; exact h.2.2.2⟩
theorem ms_dy {T C : Nat} {f' : Int → Int} {D d d2 : xM} (h : ms D d) (h2 : m_dy T C 85 f' d d2) : ms D d2 := ⟨fun j a b c e g => by rw [h2.1 j b a (by omega) (by omega)]; exact h.1 j a b c e g, fun i a b c => by rw [h2.2.1 i b]; exact h.2.1 i a b c, fun i hi => by rw [h2.2.2.2.1 i (Or.inl hi)]; exact h.2.2.1 i hi, h2.2.2.2.2⟩
theorem ms_od {D d d2 : xM} (h : ms D d) (h2 : m_od d d2) (hv : ∀ j, x_r (d2 84 j)) : ms D d2 := ⟨fun j a b c e g => by rw [m_od_n h2 (by omega) (by omega)]; exact h.1 j a b c e g, fun i a b c => by rw [m_od_n h2 (by decide) (by decide)]; exact h.2.1 i a b c, fun i hi => by rw [m_od_n h2 (by decide) (by decide)]; exact h.2.2.1 i hi, hv⟩
theorem ms_mr {T C : Nat} (hT : T ≤ 8) (hC : C ≤ 10) {f : Int → Int} {D d : xM} (h : ms D d) (hr : mr T C f (D 82) 0) : mr T C f (d 82) 0 := by
  intro i hi
  have := lv_in hT hC hi
  rw [h.2.2.1 (0 + i) (by omega)]
  exact hr i hi
theorem ms_mq {N : Nat} {sh : xS} {D d : xM} {T C W : Nat} {G : Ldt} (h : mq N sh D T C W G) (hs : ms D d) : mq N sh d T C W G := mq_of h (fun i _ _ => hs.2.1 i (by omega) (by omega) (by omega)) (fun j a b => hs.1 j (by omega) (by omega) (by omega) (by omega) (by omega))
def mz (N : Nat) (sh : xS) (T C W : Nat) (G : Ldt) (f : Int → Int) (D d : xM) : Prop := mq N sh d T C W G ∧ d 62 0 = 0 ∧ ms D d ∧ mr T C f (d 82) 0 ∧ ∀ j, x_r (d 84 j)
theorem m_go0 {N : Nat} {sh : xS} {D : xM} {T C W : Nat} {G : Ldt} {f : Int → Int} (hq : mq N sh D T C W G) (hr : mr T C f (D 82) 0) (hv : ∀ j, x_r (D 84 j)) : mz N sh T C W G f D (x_up D 62 (x_u1 (D 62) 0 0)) :=
  ⟨mq_of hq (fun i a b => by rw [x_up_s, x_u1_n (by omega)]) (fun j a b => x_up_n (by omega)), by rw [x_up_s, x_u1_s], ms_thr (ms_rf hv), by rw [x_up_n (by decide)]; exact hr, by rw [x_up_n (by decide)]; exact hv⟩
theorem m_dy_of {T C : Nat} {b : Int} {f : Int → Int} {D d : xM} (h : m_w T C b f D d) (hv : ∀ j, x_r (D 84 j)) : m_dy T C b f D d := ⟨fun j a _ _ _ => h.1 j a, fun i _ => by rw [h.1 62 (by decide)], h.2.1, h.2.2, by rw [h.1 84 (by decide)]; exact hv⟩
theorem mq_gO {N : Nat} {sh : xS} {D : xM} {T C W : Nat} {G : Ldt} (h : mq N sh D T C W G) : gO G C := by
  obtain ⟨a, b, c, d, e, -⟩ := h.2.2.2.2.2.2.2.2.2
  exact ⟨a, b, c, d, e⟩
theorem w_12_274 : x_cv RX12 274 yX12_right cX12_right 3 (some .boolean) 12 2 := ⟨⟨_, rfl, rfl⟩, (x_in 1549 (by decide +kernel) rfl), (x_in 1551 (by decide +kernel) rfl), (x_in 17 (by decide +kernel) rfl), (x_in 90 (by decide +kernel) rfl), (x_in 1552 (by decide +kernel) rfl), by decide, ⟨by decide +kernel, by decide +kernel, by decide +kernel⟩⟩
theorem w_12_346 : x_cs RX12 346 yX12_within cX12_within 3 (some .boolean) 3 := ⟨(x_in 1684 (by decide +kernel) rfl), (x_in 1685 (by decide +kernel) rfl), (x_in 90 (by decide +kernel) rfl), (x_in 1686 (by decide +kernel) rfl), by decide, ⟨by decide +kernel, by decide +kernel, by decide +kernel⟩⟩
theorem w_12_350 : x_cv RX12 350 yX12_allOf cX12_allOf 4 (some .int) 12 1 := ⟨⟨_, rfl, rfl⟩, (x_in 1687 (by decide +kernel) rfl), (x_in 1689 (by decide +kernel) rfl), (x_in 43 (by decide +kernel) rfl), (x_in 90 (by decide +kernel) rfl), (x_in 1690 (by decide +kernel) rfl), by decide, ⟨by decide +kernel, by decide +kernel, by decide +kernel⟩⟩
theorem w_12_353 : x_cv RX12 353 yX12_lyingAll cX12_lyingAll 3 (some .int) 12 0 := ⟨⟨_, rfl, rfl⟩, (x_in 1691 (by decide +kernel) rfl), (x_in 1693 (by decide +kernel) rfl), (x_in 44 (by decide +kernel) rfl), (x_in 90 (by decide +kernel) rfl), (x_in 1694 (by decide +kernel) rfl), by decide, ⟨by decide +kernel, by decide +kernel, by decide +kernel⟩⟩
theorem w_12_356 : x_cv RX12 356 yX12_goingAll cX12_goingAll 3 (some .int) 12 0 := ⟨⟨_, rfl, rfl⟩, (x_in 1699 (by decide +kernel) rfl), (x_in 1701 (by decide +kernel) rfl), (x_in 46 (by decide +kernel) rfl), (x_in 90 (by decide +kernel) rfl), (x_in 1702 (by decide +kernel) rfl), by decide, ⟨by decide +kernel, by decide +kernel, by decide +kernel⟩⟩
theorem w_12_359 : x_cv RX12 359 yX12_goneIn cX12_goneIn 4 (some .int) 12 1 := ⟨⟨_, rfl, rfl⟩, (x_in 1703 (by decide +kernel) rfl), (x_in 1705 (by decide +kernel) rfl), (x_in 47 (by decide +kernel) rfl), (x_in 90 (by decide +kernel) rfl), (x_in 1706 (by decide +kernel) rfl), by decide, ⟨by decide +kernel, by decide +kernel, by decide +kernel⟩⟩
theorem w_12_362 : x_cv RX12 362 yX12_isTown cX12_isTown 2 (some .boolean) 12 1 := ⟨⟨_, rfl, rfl⟩, (x_in 1711 (by decide +kernel) rfl), (x_in 1713 (by decide +kernel) rfl), (x_in 48 (by decide +kernel) rfl), (x_in 90 (by decide +kernel) rfl), (x_in 1714 (by decide +kernel) rfl), by decide, ⟨by decide +kernel, by decide +kernel, by decide +kernel⟩⟩
theorem w_12_365 : x_cv RX12 365 yX12_isWhat cX12_isWhat 3 (some .boolean) 12 2 := ⟨⟨_, rfl, rfl⟩, (x_in 1715 (by decide +kernel) rfl), (x_in 1717 (by decide +kernel) rfl), (x_in 49 (by decide +kernel) rfl), (x_in 90 (by decide +kernel) rfl), (x_in 1718 (by decide +kernel) rfl), by decide, ⟨by decide +kernel, by decide +kernel, by decide +kernel⟩⟩
theorem w_12_368 : x_cv RX12 368 yX12_isCrate cX12_isCrate 2 (some .boolean) 12 1 := ⟨⟨_, rfl, rfl⟩, (x_in 1744 (by decide +kernel) rfl), (x_in 1746 (by decide +kernel) rfl), (x_in 53 (by decide +kernel) rfl), (x_in 90 (by decide +kernel) rfl), (x_in 1747 (by decide +kernel) rfl), by decide, ⟨by decide +kernel, by decide +kernel, by decide +kernel⟩⟩
theorem m_isTownT {X : xC} {l : Launch} (hl : l.stackTraces = false) {N : Nat} {sh : xS} {D : xM} {T C W : Nat} {G : Ldt} (hq : mq N sh D T C W G) (t0 : D 62 0 = 0) {t : Int} (h : 0 ≤ t ∧ t < T) : x_M X l yX12_isTown cX12_isTown 2 (some .boolean) 2 0 0 [.ref (x_b X + 62), .int (xI t)] false N sh D (.inl (some (.int (xI (1))))) false N sh (x_is (D)) := by
  obtain ⟨hM, hT, hTb, hW, hWb, hC, hCb, hmk, ⟨hG1, hG2, hG3⟩, hod⟩ := id hq
  have s62 := md_62 hM
  have n62 : 62 < N := md_n hM (by decide)
  obtain ⟨h0, h1⟩ := h
  refine x_ofW (by decide +kernel) hl (by simp [Value.category]) (by simp) ?_
  refine x_aload_n dX12_isTown_0 x_get_2_0 ?_
  refine x_iload_n dX12_isTown_1 x_get_2_1 ?_
  refine r_if_lt (t := 17) dX12_isTown_2 rfl ⟨by omega, by omega⟩ (fun hc2 => absurd hc2 (by omega)) (fun hc2 => ?_)
  refine x_iload_n dX12_isTown_5 x_get_2_1 ?_
  refine x_aload_n dX12_isTown_6 x_get_2_0 ?_
  refine x_getI 1 dX12_isTown_7 fX_12_281 rfl n62 s62 (by rfl) ?_
  try simp (disch := decide) only [x_up_s, x_up_n, x_up_up, x_u1_s, x_u1_n, hT, hC, hW]
  refine r_icmp_ge (t := 17) dX12_isTown_10 rfl ⟨by omega, by omega⟩ ⟨by omega, by omega⟩ (fun hc10 => absurd hc10 (by omega)) (fun hc10 => ?_)
  refine x_iconst dX12_isTown_13 ?_
  refine x_goto (t := 18) dX12_isTown_14 rfl ?_
  refine x_iconst dX12_isTown_18 ?_
  refine x_callV (As := [_, _]) dX12_isTown_19 w_12_274 (m_rightT hl hM t0) (by assumption) (by assumption) rfl rfl (Nat.le_of_ble_eq_true rfl) (Nat.le_of_ble_eq_true rfl) (Nat.le_of_ble_eq_true rfl) (Nat.le_of_ble_eq_true rfl) (Nat.le_of_ble_eq_true rfl) ?_
  intro dz hdz
  obtain rfl := Eq.symm hdz
  exact x_zret dX12_isTown_22 rfl (by omega) (Nat.le_of_ble_eq_true rfl) (Nat.le_of_ble_eq_true rfl) rfl rfl rfl rfl rfl
theorem m_isTownF {X : xC} {l : Launch} (hl : l.stackTraces = false) {N : Nat} {sh : xS} {D : xM} {T C W : Nat} {G : Ldt} (hq : mq N sh D T C W G) (t0 : D 62 0 = 0) {t : Int} (hr : x_r t) (h : ¬ (0 ≤ t ∧ t < T)) : x_M X l yX12_isTown cX12_isTown 2 (some .boolean) 2 0 0 [.ref (x_b X + 62), .int (xI t)] false N sh D (.inl (some (.int (xI (0))))) false N sh (x_is (x_up D 62 (x_u1 (D 62) 0 1))) := by
  obtain ⟨hM, hT, hTb, hW, hWb, hC, hCb, hmk, ⟨hG1, hG2, hG3⟩, hod⟩ := id hq
  have s62 := md_62 hM
  have n62 : 62 < N := md_n hM (by decide)
  obtain ⟨hr0, hr1⟩ := id hr
  refine x_ofW (by decide +kernel) hl (by simp [Value.category]) (by simp) ?_
  refine x_aload_n dX12_isTown_0 x_get_2_0 ?_
  refine x_iload_n dX12_isTown_1 x_get_2_1 ?_
  refine r_if_lt (t := 17) dX12_isTown_2 rfl ⟨by omega, by omega⟩ (fun hc2 => ?_) (fun hc2 => ?_)
  · refine x_iconst dX12_isTown_17 ?_
    refine x_iconst dX12_isTown_18 ?_
    refine x_callV (As := [_, _]) dX12_isTown_19 w_12_274 (m_rightF hl hM t0 (by decide) (by decide)) (by assumption) (by assumption) rfl rfl (Nat.le_of_ble_eq_true rfl) (Nat.le_of_ble_eq_true rfl) (Nat.le_of_ble_eq_true rfl) (Nat.le_of_ble_eq_true rfl) (Nat.le_of_ble_eq_true rfl) ?_
    intro dz hdz
    obtain rfl := Eq.symm hdz
    exact x_zret dX12_isTown_22 rfl (by omega) (Nat.le_of_ble_eq_true rfl) (Nat.le_of_ble_eq_true rfl) rfl rfl rfl rfl rfl
  · refine x_iload_n dX12_isTown_5 x_get_2_1 ?_
    refine x_aload_n dX12_isTown_6 x_get_2_0 ?_
    refine x_getI 1 dX12_isTown_7 fX_12_281 rfl n62 s62 (by rfl) ?_
    try simp (disch := decide) only [x_up_s, x_up_n, x_up_up, x_u1_s, x_u1_n, hT, hC, hW]
    refine r_icmp_ge (t := 17) dX12_isTown_10 rfl ⟨by omega, by omega⟩ ⟨by omega, by omega⟩ (fun hc10 => ?_) (fun hc10 => absurd hc10 (by omega))
    refine x_iconst dX12_isTown_17 ?_
    refine x_iconst dX12_isTown_18 ?_
    refine x_callV (As := [_, _]) dX12_isTown_19 w_12_274 (m_rightF hl hM t0 (by decide) (by decide)) (by assumption) (by assumption) rfl rfl (Nat.le_of_ble_eq_true rfl) (Nat.le_of_ble_eq_true rfl) (Nat.le_of_ble_eq_true rfl) (Nat.le_of_ble_eq_true rfl) (Nat.le_of_ble_eq_true rfl) ?_
    intro dz hdz
    obtain rfl := Eq.symm hdz
    exact x_zret dX12_isTown_22 rfl (by omega) (Nat.le_of_ble_eq_true rfl) (Nat.le_of_ble_eq_true rfl) rfl rfl rfl rfl rfl
theorem m_isCrateT {X : xC} {l : Launch} (hl : l.stackTraces = false) {N : Nat} {sh : xS} {D : xM} {T C W : Nat} {G : Ldt} (hq : mq N sh D T C W G) (t0 : D 62 0 = 0) {t : Int} (h : 0 ≤ t ∧ t < C) : x_M X l yX12_isCrate cX12_isCrate 2 (some .boolean) 2 0 0 [.ref (x_b X + 62), .int (xI t)] false N sh D (.inl (some (.int (xI (1))))) false N sh (x_is (D)) := by
  obtain ⟨hM, hT, hTb, hW, hWb, hC, hCb, hmk, ⟨hG1, hG2, hG3⟩, hod⟩ := id hq
  have s62 := md_62 hM
  have n62 : 62 < N := md_n hM (by decide)
  obtain ⟨h0, h1⟩ := h
  refine x_ofW (by decide +kernel) hl (by simp [Value.category]) (by simp) ?_
  refine x_aload_n dX12_isCrate_0 x_get_2_0 ?_
  refine x_iload_n dX12_isCrate_1 x_get_2_1 ?_
  refine r_if_lt (t := 17) dX12_isCrate_2 rfl ⟨by omega, by omega⟩ (fun hc2 => absurd hc2 (by omega)) (fun hc2 => ?_)
  refine x_iload_n dX12_isCrate_5 x_get_2_1 ?_
  refine x_aload_n dX12_isCrate_6 x_get_2_0 ?_
  refine x_getI 3 dX12_isCrate_7 fX_12_287 rfl n62 s62 (by rfl) ?_
  try simp (disch := decide) only [x_up_s, x_up_n, x_up_up, x_u1_s, x_u1_n, hT, hC, hW]
  refine r_icmp_ge (t := 17) dX12_isCrate_10 rfl ⟨by omega, by omega⟩ ⟨by omega, by omega⟩ (fun hc10 => absurd hc10 (by omega)) (fun hc10 => ?_)
  refine x_iconst dX12_isCrate_13 ?_
  refine x_goto (t := 18) dX12_isCrate_14 rfl ?_
  refine x_iconst dX12_isCrate_18 ?_
  refine x_callV (As := [_, _]) dX12_isCrate_19 w_12_274 (m_rightT hl hM t0) (by assumption) (by assumption) rfl rfl (Nat.le_of_ble_eq_true rfl) (Nat.le_of_ble_eq_true rfl) (Nat.le_of_ble_eq_true rfl) (Nat.le_of_ble_eq_true rfl) (Nat.le_of_ble_eq_true rfl) ?_
  intro dz hdz
  obtain rfl := Eq.symm hdz
  exact x_zret dX12_isCrate_22 rfl (by omega) (Nat.le_of_ble_eq_true rfl) (Nat.le_of_ble_eq_true rfl) rfl rfl rfl rfl rfl
theorem m_isCrateF {X : xC} {l : Launch} (hl : l.stackTraces = false) {N : Nat} {sh : xS} {D : xM} {T C W : Nat} {G : Ldt} (hq : mq N sh D T C W G) (t0 : D 62 0 = 0) {t : Int} (hr : x_r t) (h : ¬ (0 ≤ t ∧ t < C)) : x_M X l yX12_isCrate cX12_isCrate 2 (some .boolean) 2 0 0 [.ref (x_b X + 62), .int (xI t)] false N sh D (.inl (some (.int (xI (0))))) false N sh (x_is (x_up D 62 (x_u1 (D 62) 0 1))) := by
  obtain ⟨hM, hT, hTb, hW, hWb, hC, hCb, hmk, ⟨hG1, hG2, hG3⟩, hod⟩ := id hq
  have s62 := md_62 hM
  have n62 : 62 < N := md_n hM (by decide)
  obtain ⟨hr0, hr1⟩ := id hr
  refine x_ofW (by decide +kernel) hl (by simp [Value.category]) (by simp) ?_
  refine x_aload_n dX12_isCrate_0 x_get_2_0 ?_
  refine x_iload_n dX12_isCrate_1 x_get_2_1 ?_
  refine r_if_lt (t := 17) dX12_isCrate_2 rfl ⟨by omega, by omega⟩ (fun hc2 => ?_) (fun hc2 => ?_)
  · refine x_iconst dX12_isCrate_17 ?_
    refine x_iconst dX12_isCrate_18 ?_
    refine x_callV (As := [_, _]) dX12_isCrate_19 w_12_274 (m_rightF hl hM t0 (by decide) (by decide)) (by assumption) (by assumption) rfl rfl (Nat.le_of_ble_eq_true rfl) (Nat.le_of_ble_eq_true rfl) (Nat.le_of_ble_eq_true rfl) (Nat.le_of_ble_eq_true rfl) (Nat.le_of_ble_eq_true rfl) ?_
    intro dz hdz
    obtain rfl := Eq.symm hdz
    exact x_zret dX12_isCrate_22 rfl (by omega) (Nat.le_of_ble_eq_true rfl) (Nat.le_of_ble_eq_true rfl) rfl rfl rfl rfl rfl
  · refine x_iload_n dX12_isCrate_5 x_get_2_1 ?_
    refine x_aload_n dX12_isCrate_6 x_get_2_0 ?_
    refine x_getI 3 dX12_isCrate_7 fX_12_287 rfl n62 s62 (by rfl) ?_
    try simp (disch := decide) only [x_up_s, x_up_n, x_up_up, x_u1_s, x_u1_n, hT, hC, hW]
    refine r_icmp_ge (t := 17) dX12_isCrate_10 rfl ⟨by omega, by omega⟩ ⟨by omega, by omega⟩ (fun hc10 => ?_) (fun hc10 => absurd hc10 (by omega))
    refine x_iconst dX12_isCrate_17 ?_
    refine x_iconst dX12_isCrate_18 ?_
    refine x_callV (As := [_, _]) dX12_isCrate_19 w_12_274 (m_rightF hl hM t0 (by decide) (by decide)) (by assumption) (by assumption) rfl rfl (Nat.le_of_ble_eq_true rfl) (Nat.le_of_ble_eq_true rfl) (Nat.le_of_ble_eq_true rfl) (Nat.le_of_ble_eq_true rfl) (Nat.le_of_ble_eq_true rfl) ?_
    intro dz hdz
    obtain rfl := Eq.symm hdz
    exact x_zret dX12_isCrate_22 rfl (by omega) (Nat.le_of_ble_eq_true rfl) (Nat.le_of_ble_eq_true rfl) rfl rfl rfl rfl rfl
theorem m_isWayT {X : xC} {l : Launch} (hl : l.stackTraces = false) {N : Nat} {sh : xS} {D : xM} {T C W : Nat} {G : Ldt} (hq : mq N sh D T C W G) (t0 : D 62 0 = 0) {t : Int} (h : 0 ≤ t ∧ t < W) : x_M X l yX12_isWay cX12_isWay 2 (some .boolean) 2 0 0 [.ref (x_b X + 62), .int (xI t)] false N sh D (.inl (some (.int (xI (1))))) false N sh (x_is (D)) := by
  obtain ⟨hM, hT, hTb, hW, hWb, hC, hCb, hmk, ⟨hG1, hG2, hG3⟩, hod⟩ := id hq
  have s62 := md_62 hM
  have n62 : 62 < N := md_n hM (by decide)
  obtain ⟨h0, h1⟩ := h
  refine x_ofW (by decide +kernel) hl (by simp [Value.category]) (by simp) ?_
  refine x_aload_n dX12_isWay_0 x_get_2_0 ?_
  refine x_iload_n dX12_isWay_1 x_get_2_1 ?_
  refine r_if_lt (t := 17) dX12_isWay_2 rfl ⟨by omega, by omega⟩ (fun hc2 => absurd hc2 (by omega)) (fun hc2 => ?_)
  refine x_iload_n dX12_isWay_5 x_get_2_1 ?_
  refine x_aload_n dX12_isWay_6 x_get_2_0 ?_
  refine x_getI 2 dX12_isWay_7 fX_12_284 rfl n62 s62 (by rfl) ?_
  try simp (disch := decide) only [x_up_s, x_up_n, x_up_up, x_u1_s, x_u1_n, hT, hC, hW]
  refine r_icmp_ge (t := 17) dX12_isWay_10 rfl ⟨by omega, by omega⟩ ⟨by omega, by omega⟩ (fun hc10 => absurd hc10 (by omega)) (fun hc10 => ?_)
  refine x_iconst dX12_isWay_13 ?_
  refine x_goto (t := 18) dX12_isWay_14 rfl ?_
  refine x_iconst dX12_isWay_18 ?_
  refine x_callV (As := [_, _]) dX12_isWay_19 w_12_274 (m_rightT hl hM t0) (by assumption) (by assumption) rfl rfl (Nat.le_of_ble_eq_true rfl) (Nat.le_of_ble_eq_true rfl) (Nat.le_of_ble_eq_true rfl) (Nat.le_of_ble_eq_true rfl) (Nat.le_of_ble_eq_true rfl) ?_
  intro dz hdz
  obtain rfl := Eq.symm hdz
  exact x_zret dX12_isWay_22 rfl (by omega) (Nat.le_of_ble_eq_true rfl) (Nat.le_of_ble_eq_true rfl) rfl rfl rfl rfl rfl
theorem m_isWayF {X : xC} {l : Launch} (hl : l.stackTraces = false) {N : Nat} {sh : xS} {D : xM} {T C W : Nat} {G : Ldt} (hq : mq N sh D T C W G) (t0 : D 62 0 = 0) {t : Int} (hr : x_r t) (h : ¬ (0 ≤ t ∧ t < W)) : x_M X l yX12_isWay cX12_isWay 2 (some .boolean) 2 0 0 [.ref (x_b X + 62), .int (xI t)] false N sh D (.inl (some (.int (xI (0))))) false N sh (x_is (x_up D 62 (x_u1 (D 62) 0 1))) := by
  obtain ⟨hM, hT, hTb, hW, hWb, hC, hCb, hmk, ⟨hG1, hG2, hG3⟩, hod⟩ := id hq
  have s62 := md_62 hM
  have n62 : 62 < N := md_n hM (by decide)
  obtain ⟨hr0, hr1⟩ := id hr
  refine x_ofW (by decide +kernel) hl (by simp [Value.category]) (by simp) ?_
  refine x_aload_n dX12_isWay_0 x_get_2_0 ?_
  refine x_iload_n dX12_isWay_1 x_get_2_1 ?_
  refine r_if_lt (t := 17) dX12_isWay_2 rfl ⟨by omega, by omega⟩ (fun hc2 => ?_) (fun hc2 => ?_)
  · refine x_iconst dX12_isWay_17 ?_
    refine x_iconst dX12_isWay_18 ?_
    refine x_callV (As := [_, _]) dX12_isWay_19 w_12_274 (m_rightF hl hM t0 (by decide) (by decide)) (by assumption) (by assumption) rfl rfl (Nat.le_of_ble_eq_true rfl) (Nat.le_of_ble_eq_true rfl) (Nat.le_of_ble_eq_true rfl) (Nat.le_of_ble_eq_true rfl) (Nat.le_of_ble_eq_true rfl) ?_
    intro dz hdz
    obtain rfl := Eq.symm hdz
    exact x_zret dX12_isWay_22 rfl (by omega) (Nat.le_of_ble_eq_true rfl) (Nat.le_of_ble_eq_true rfl) rfl rfl rfl rfl rfl
  · refine x_iload_n dX12_isWay_5 x_get_2_1 ?_
    refine x_aload_n dX12_isWay_6 x_get_2_0 ?_
    refine x_getI 2 dX12_isWay_7 fX_12_284 rfl n62 s62 (by rfl) ?_
    try simp (disch := decide) only [x_up_s, x_up_n, x_up_up, x_u1_s, x_u1_n, hT, hC, hW]
    refine r_icmp_ge (t := 17) dX12_isWay_10 rfl ⟨by omega, by omega⟩ ⟨by omega, by omega⟩ (fun hc10 => ?_) (fun hc10 => absurd hc10 (by omega))
    refine x_iconst dX12_isWay_17 ?_
    refine x_iconst dX12_isWay_18 ?_
    refine x_callV (As := [_, _]) dX12_isWay_19 w_12_274 (m_rightF hl hM t0 (by decide) (by decide)) (by assumption) (by assumption) rfl rfl (Nat.le_of_ble_eq_true rfl) (Nat.le_of_ble_eq_true rfl) (Nat.le_of_ble_eq_true rfl) (Nat.le_of_ble_eq_true rfl) (Nat.le_of_ble_eq_true rfl) ?_
    intro dz hdz
    obtain rfl := Eq.symm hdz
    exact x_zret dX12_isWay_22 rfl (by omega) (Nat.le_of_ble_eq_true rfl) (Nat.le_of_ble_eq_true rfl) rfl rfl rfl rfl rfl
theorem m_isWhatT {X : xC} {l : Launch} (hl : l.stackTraces = false) {N : Nat} {sh : xS} {D : xM} (hM : is_Md N sh) (t0 : D 62 0 = 0) {w m : Int} (hr : x_r w) (hm : x_r m) (h : (0 ≤ w ∧ w ≤ m)) : x_M X l yX12_isWhat cX12_isWhat 3 (some .boolean) 2 0 0 [.ref (x_b X + 62), .int (xI w), .int (xI m)] false N sh D (.inl (some (.int (xI (1))))) false N sh (x_is (D)) := by
  have s62 := md_62 hM
  have n62 : 62 < N := md_n hM (by decide)
  refine x_ofW (by decide +kernel) hl (by simp [Value.category]) (by simp) ?_
  refine x_aload_n dX12_isWhat_0 x_get_3_0 ?_
  refine x_iload_n dX12_isWhat_1 x_get_3_1 ?_
  refine x_iconst dX12_isWhat_2 ?_
  refine x_iload_n dX12_isWhat_3 x_get_3_2 ?_
  refine x_callS (As := [_, _, _]) dX12_isWhat_4 w_12_346 (m_withinT hl hr ⟨by decide, by decide⟩ hm h) rfl rfl (Nat.le_of_ble_eq_true rfl) (Nat.le_of_ble_eq_true rfl) (Nat.le_of_ble_eq_true rfl) (Nat.le_of_ble_eq_true rfl) (Nat.le_of_ble_eq_true rfl) ?_
  intro dz hdz
  obtain rfl := Eq.symm hdz
  refine x_iconst dX12_isWhat_7 ?_
  refine x_callV (As := [_, _]) dX12_isWhat_8 w_12_274 (m_rightT hl hM t0) (by assumption) (by assumption) rfl rfl (Nat.le_of_ble_eq_true rfl) (Nat.le_of_ble_eq_true rfl) (Nat.le_of_ble_eq_true rfl) (Nat.le_of_ble_eq_true rfl) (Nat.le_of_ble_eq_true rfl) ?_
  intro dz hdz
  obtain rfl := Eq.symm hdz
  exact x_zret dX12_isWhat_11 rfl (by omega) (Nat.le_of_ble_eq_true rfl) (Nat.le_of_ble_eq_true rfl) rfl rfl rfl rfl rfl
theorem m_isWhatF {X : xC} {l : Launch} (hl : l.stackTraces = false) {N : Nat} {sh : xS} {D : xM} (hM : is_Md N sh) (t0 : D 62 0 = 0) {w m : Int} (hr : x_r w) (hm : x_r m) (h : ¬ (0 ≤ w ∧ w ≤ m)) : x_M X l yX12_isWhat cX12_isWhat 3 (some .boolean) 2 0 0 [.ref (x_b X + 62), .int (xI w), .int (xI m)] false N sh D (.inl (some (.int (xI (0))))) false N sh (x_is (x_up D 62 (x_u1 (D 62) 0 1))) := by
  have s62 := md_62 hM
  have n62 : 62 < N := md_n hM (by decide)
  refine x_ofW (by decide +kernel) hl (by simp [Value.category]) (by simp) ?_
  refine x_aload_n dX12_isWhat_0 x_get_3_0 ?_
  refine x_iload_n dX12_isWhat_1 x_get_3_1 ?_
  refine x_iconst dX12_isWhat_2 ?_
  refine x_iload_n dX12_isWhat_3 x_get_3_2 ?_
  refine x_callS (As := [_, _, _]) dX12_isWhat_4 w_12_346 (m_withinF hl hr ⟨by decide, by decide⟩ hm h) rfl rfl (Nat.le_of_ble_eq_true rfl) (Nat.le_of_ble_eq_true rfl) (Nat.le_of_ble_eq_true rfl) (Nat.le_of_ble_eq_true rfl) (Nat.le_of_ble_eq_true rfl) ?_
  intro dz hdz
  obtain rfl := Eq.symm hdz
  refine x_iconst dX12_isWhat_7 ?_
  refine x_callV (As := [_, _]) dX12_isWhat_8 w_12_274 (m_rightF hl hM t0 (by decide) (by decide)) (by assumption) (by assumption) rfl rfl (Nat.le_of_ble_eq_true rfl) (Nat.le_of_ble_eq_true rfl) (Nat.le_of_ble_eq_true rfl) (Nat.le_of_ble_eq_true rfl) (Nat.le_of_ble_eq_true rfl) ?_
  intro dz hdz
  obtain rfl := Eq.symm hdz
  exact x_zret dX12_isWhat_11 rfl (by omega) (Nat.le_of_ble_eq_true rfl) (Nat.le_of_ble_eq_true rfl) rfl rfl rfl rfl rfl
theorem m_isDaysT {X : xC} {l : Launch} (hl : l.stackTraces = false) {N : Nat} {sh : xS} {D : xM} (hM : is_Md N sh) (t0 : D 62 0 = 0) {n a k : Int} (hr : x_r n) (ha : x_r a) (h : (a ≤ n ∧ n ≤ 60)) : x_M X l yX12_isDays cX12_isDays 4 (some .boolean) 2 0 0 [.ref (x_b X + 62), .int (xI n), .int (xI a), .int (xI k)] false N sh D (.inl (some (.int (xI (1))))) false N sh (x_is (D)) := by
  have s62 := md_62 hM
  have n62 : 62 < N := md_n hM (by decide)
  refine x_ofW (by decide +kernel) hl (by simp [Value.category]) (by simp) ?_
  refine x_aload_n dX12_isDays_0 x_get_4_0 ?_
  refine x_iload_n dX12_isDays_1 x_get_4_1 ?_
  refine x_iload_n dX12_isDays_2 x_get_4_2 ?_
  refine x_bipush dX12_isDays_3 rfl ?_
  refine x_callS (As := [_, _, _]) dX12_isDays_5 w_12_346 (m_withinT hl hr ha ⟨by decide, by decide⟩ h) rfl rfl (Nat.le_of_ble_eq_true rfl) (Nat.le_of_ble_eq_true rfl) (Nat.le_of_ble_eq_true rfl) (Nat.le_of_ble_eq_true rfl) (Nat.le_of_ble_eq_true rfl) ?_
  intro dz hdz
  obtain rfl := Eq.symm hdz
  refine x_iload_n dX12_isDays_8 x_get_4_3 ?_
  refine x_callV (As := [_, _]) dX12_isDays_9 w_12_274 (m_rightT hl hM t0) (by assumption) (by assumption) rfl rfl (Nat.le_of_ble_eq_true rfl) (Nat.le_of_ble_eq_true rfl) (Nat.le_of_ble_eq_true rfl) (Nat.le_of_ble_eq_true rfl) (Nat.le_of_ble_eq_true rfl) ?_
  intro dz hdz
  obtain rfl := Eq.symm hdz
  exact x_zret dX12_isDays_12 rfl (by omega) (Nat.le_of_ble_eq_true rfl) (Nat.le_of_ble_eq_true rfl) rfl rfl rfl rfl rfl
theorem m_isDaysF {X : xC} {l : Launch} (hl : l.stackTraces = false) {N : Nat} {sh : xS} {D : xM} (hM : is_Md N sh) (t0 : D 62 0 = 0) {n a k : Int} (hr : x_r n) (ha : x_r a) (h : ¬ (a ≤ n ∧ n ≤ 60)) (hk0 : 0 < k) (hk1 : k < 10) : x_M X l yX12_isDays cX12_isDays 4 (some .boolean) 2 0 0 [.ref (x_b X + 62), .int (xI n), .int (xI a), .int (xI k)] false N sh D (.inl (some (.int (xI (0))))) false N sh (x_is (x_up D 62 (x_u1 (D 62) 0 k))) := by
  have s62 := md_62 hM
  have n62 : 62 < N := md_n hM (by decide)
  refine x_ofW (by decide +kernel) hl (by simp [Value.category]) (by simp) ?_
  refine x_aload_n dX12_isDays_0 x_get_4_0 ?_
  refine x_iload_n dX12_isDays_1 x_get_4_1 ?_
  refine x_iload_n dX12_isDays_2 x_get_4_2 ?_
  refine x_bipush dX12_isDays_3 rfl ?_
  refine x_callS (As := [_, _, _]) dX12_isDays_5 w_12_346 (m_withinF hl hr ha ⟨by decide, by decide⟩ h) rfl rfl (Nat.le_of_ble_eq_true rfl) (Nat.le_of_ble_eq_true rfl) (Nat.le_of_ble_eq_true rfl) (Nat.le_of_ble_eq_true rfl) (Nat.le_of_ble_eq_true rfl) ?_
  intro dz hdz
  obtain rfl := Eq.symm hdz
  refine x_iload_n dX12_isDays_8 x_get_4_3 ?_
  refine x_callV (As := [_, _]) dX12_isDays_9 w_12_274 (m_rightF hl hM t0 hk0 hk1) (by assumption) (by assumption) rfl rfl (Nat.le_of_ble_eq_true rfl) (Nat.le_of_ble_eq_true rfl) (Nat.le_of_ble_eq_true rfl) (Nat.le_of_ble_eq_true rfl) (Nat.le_of_ble_eq_true rfl) ?_
  intro dz hdz
  obtain rfl := Eq.symm hdz
  exact x_zret dX12_isDays_12 rfl (by omega) (Nat.le_of_ble_eq_true rfl) (Nat.le_of_ble_eq_true rfl) rfl rfl rfl rfl rfl
set_option maxHeartbeats 4000000 in
theorem m_town {X : xC} {l : Launch} (hl : l.stackTraces = false) {N : Nat} {sh : xS} {D : xM} {T C W : Nat} {G : Ldt} (hq : mq N sh D T C W G) {B : Int} {f : Int → Int} (hk : s_ok B f) (hB : B ≤ 200000) (hr : mr T C f (D 82) 0) (hv84 : ∀ j, x_r (D 84 j)) {t w : Int} (htr : x_r t) (hwr : x_r w) : x_M X l yX12_town cX12_town 3 (some .int) 4 0 0 [.ref (x_b X + 62), .int (xI t), .int (xI w)] false N sh D (m_r (q_town T C G f t w)) false N sh (fun d => ms D d ∧ d 62 0 = m_k 1 (q_town T C G f t w)) := by
  obtain ⟨hM, hT, hTb, hW, hWb, hC, hCb, hmk, ⟨hG1, hG2, hG3⟩, hod⟩ := id hq
  have s62 := md_62 hM
  have n62 : 62 < N := md_n hM (by decide)
  have s82 := md_82 hM
  have n82 : 82 < N := md_n hM (by decide)
  have s63 := md_63 hM
  have n63 : 63 < N := md_n hM (by decide)
  have s64 := md_64 hM
  have n64 : 64 < N := md_n hM (by decide)
  obtain ⟨hwr0, hwr1⟩ := id hwr
  unfold q_town
  by_cases ht : 0 ≤ t ∧ t < T
  · rw [if_pos ht]
    obtain ⟨ht0, ht1⟩ := id ht
    have htn := s_tn hk (t := t) ht0 (by omega)
    by_cases hw : 0 ≤ w ∧ w ≤ 6
    · have hc : w = 0 ∨ w = 1 ∨ w = 2 ∨ w = 3 ∨ w = 4 ∨ w = 5 ∨ w = 6 := by omega
      rcases hc with rfl | rfl | rfl | rfl | rfl | rfl | rfl
      · show x_M X l yX12_town cX12_town 3 (some .int) 4 0 0 [.ref (x_b X + 62), .int (xI t), .int (xI 0)] false N sh D (m_r (o_i (f (1 + t)))) false N sh (fun d => ms D d ∧ d 62 0 = m_k 1 (o_i (f (1 + t))))
        rw [m_r_i, m_k_i]
        refine x_ofW (by decide +kernel) hl (by simp [Value.category]) (by simp) ?_
        refine x_aload_n dX12_town_0 x_get_3_0 ?_
        refine x_iconst dX12_town_1 ?_
        refine x_putI 0 dX12_town_2 fX_12_117 rfl tX_12_0 n62 s62 (by rfl) ?_
        have z0 := m_go0 hq hr hv84
        generalize x_up D 62 (x_u1 (D 62) 0 0) = d0 at z0 ⊢
        obtain ⟨q0, t0, ms0, r0, v0⟩ := z0
        refine x_aload_n dX12_town_5 x_get_3_0 ?_
        refine x_iload_n dX12_town_6 x_get_3_1 ?_
        refine x_callV (As := [_]) dX12_town_7 w_12_362 (m_isTownT hl q0 t0 ht) (by assumption) (by assumption) rfl rfl (Nat.le_of_ble_eq_true rfl) (Nat.le_of_ble_eq_true rfl) (Nat.le_of_ble_eq_true rfl) (Nat.le_of_ble_eq_true rfl) (Nat.le_of_ble_eq_true rfl) ?_
        intro dz hdz
        obtain rfl := Eq.symm hdz
        refine r_if_eq (t := 23) dX12_town_10 rfl ⟨by omega, by omega⟩ (fun hc10 => absurd hc10 (by omega)) (fun hc10 => ?_)
        refine x_aload_n dX12_town_13 x_get_3_0 ?_
        refine x_iload_n dX12_town_14 x_get_3_2 ?_
        refine x_bipush dX12_town_15 rfl ?_
        refine x_callV (As := [_, _]) dX12_town_17 w_12_365 (m_isWhatT hl q0.1 t0 ⟨by decide, by decide⟩ ⟨by decide, by decide⟩ ⟨by decide, by decide⟩) (by assumption) (by assumption) rfl rfl (Nat.le_of_ble_eq_true rfl) (Nat.le_of_ble_eq_true rfl) (Nat.le_of_ble_eq_true rfl) (Nat.le_of_ble_eq_true rfl) (Nat.le_of_ble_eq_true rfl) ?_
        intro dz hdz
        obtain rfl := Eq.symm hdz
        refine r_if_ne (t := 25) dX12_town_20 rfl ⟨by omega, by omega⟩ (fun hc20 => ?_) (fun hc20 => absurd hc20 (by omega))
        refine x_iload_n dX12_town_25 x_get_3_2 ?_
        refine x_tswIn (t := 64) dX12_town_26 (by decide) (by decide) rfl rfl ?_
        have e1 : d0 82 (1 + t) = f (1 + t) := mr_t r0 rfl (by decide) ht0 ht1
        have e9 : d0 82 (9 + t) = f (9 + t) := mr_t r0 rfl (by decide) ht0 ht1
        have e17 : d0 82 (17 + t) = f (17 + t) := mr_t r0 rfl (by decide) ht0 ht1
        obtain ⟨k63, k64⟩ := q0.2.2.2.2.2.2.2.1 t ht0 ht1
        refine x_aload_n dX12_town_64 x_get_3_0 ?_
        refine x_getR dX12_town_65 fX_12_75 n62 s62 (by rfl) ?_
        refine x_iconst dX12_town_68 ?_
        refine x_iload_n dX12_town_69 x_get_3_1 ?_
        refine x_iadd dX12_town_70 ?_
        refine x_iald dX12_town_71 n82 s82 (by omega) (by omega) (by decide) ?_
        try simp (disch := decide) only [x_up_s, x_up_n, x_up_up, x_u1_s, x_u1_n, e1, e9, e17, k63, k64]
        exact x_iret dX12_town_72 rfl (Nat.le_of_ble_eq_true rfl) (Nat.le_of_ble_eq_true rfl) rfl rfl rfl ⟨ms0, t0⟩ rfl
      · show x_M X l yX12_town cX12_town 3 (some .int) 4 0 0 [.ref (x_b X + 62), .int (xI t), .int (xI 1)] false N sh D (m_r (o_i (f (9 + t)))) false N sh (fun d => ms D d ∧ d 62 0 = m_k 1 (o_i (f (9 + t))))
        rw [m_r_i, m_k_i]
        refine x_ofW (by decide +kernel) hl (by simp [Value.category]) (by simp) ?_
        refine x_aload_n dX12_town_0 x_get_3_0 ?_
        refine x_iconst dX12_town_1 ?_
        refine x_putI 0 dX12_town_2 fX_12_117 rfl tX_12_0 n62 s62 (by rfl) ?_
        have z0 := m_go0 hq hr hv84
        generalize x_up D 62 (x_u1 (D 62) 0 0) = d0 at z0 ⊢
        obtain ⟨q0, t0, ms0, r0, v0⟩ := z0
        refine x_aload_n dX12_town_5 x_get_3_0 ?_
        refine x_iload_n dX12_town_6 x_get_3_1 ?_
        refine x_callV (As := [_]) dX12_town_7 w_12_362 (m_isTownT hl q0 t0 ht) (by assumption) (by assumption) rfl rfl (Nat.le_of_ble_eq_true rfl) (Nat.le_of_ble_eq_true rfl) (Nat.le_of_ble_eq_true rfl) (Nat.le_of_ble_eq_true rfl) (Nat.le_of_ble_eq_true rfl) ?_
        intro dz hdz
        obtain rfl := Eq.symm hdz
        refine r_if_eq (t := 23) dX12_town_10 rfl ⟨by omega, by omega⟩ (fun hc10 => absurd hc10 (by omega)) (fun hc10 => ?_)
        refine x_aload_n dX12_town_13 x_get_3_0 ?_
        refine x_iload_n dX12_town_14 x_get_3_2 ?_
        refine x_bipush dX12_town_15 rfl ?_
        refine x_callV (As := [_, _]) dX12_town_17 w_12_365 (m_isWhatT hl q0.1 t0 ⟨by decide, by decide⟩ ⟨by decide, by decide⟩ ⟨by decide, by decide⟩) (by assumption) (by assumption) rfl rfl (Nat.le_of_ble_eq_true rfl) (Nat.le_of_ble_eq_true rfl) (Nat.le_of_ble_eq_true rfl) (Nat.le_of_ble_eq_true rfl) (Nat.le_of_ble_eq_true rfl) ?_
        intro dz hdz
        obtain rfl := Eq.symm hdz
        refine r_if_ne (t := 25) dX12_town_20 rfl ⟨by omega, by omega⟩ (fun hc20 => ?_) (fun hc20 => absurd hc20 (by omega))
        refine x_iload_n dX12_town_25 x_get_3_2 ?_
        refine x_tswIn (t := 73) dX12_town_26 (by decide) (by decide) rfl rfl ?_
        have e1 : d0 82 (1 + t) = f (1 + t) := mr_t r0 rfl (by decide) ht0 ht1
        have e9 : d0 82 (9 + t) = f (9 + t) := mr_t r0 rfl (by decide) ht0 ht1
        have e17 : d0 82 (17 + t) = f (17 + t) := mr_t r0 rfl (by decide) ht0 ht1
        obtain ⟨k63, k64⟩ := q0.2.2.2.2.2.2.2.1 t ht0 ht1
        refine x_aload_n dX12_town_73 x_get_3_0 ?_
        refine x_getR dX12_town_74 fX_12_75 n62 s62 (by rfl) ?_
        refine x_bipush dX12_town_77 rfl ?_
        refine x_iload_n dX12_town_79 x_get_3_1 ?_
        refine x_iadd dX12_town_80 ?_
        refine x_iald dX12_town_81 n82 s82 (by omega) (by omega) (by decide) ?_
        try simp (disch := decide) only [x_up_s, x_up_n, x_up_up, x_u1_s, x_u1_n, e1, e9, e17, k63, k64]
        exact x_iret dX12_town_82 rfl (Nat.le_of_ble_eq_true rfl) (Nat.le_of_ble_eq_true rfl) rfl rfl rfl ⟨ms0, t0⟩ rfl
      · show x_M X l yX12_town cX12_town 3 (some .int) 4 0 0 [.ref (x_b X + 62), .int (xI t), .int (xI 2)] false N sh D (m_r (o_i (G.1 t))) false N sh (fun d => ms D d ∧ d 62 0 = m_k 1 (o_i (G.1 t)))
        rw [m_r_i, m_k_i]
        refine x_ofW (by decide +kernel) hl (by simp [Value.category]) (by simp) ?_
        refine x_aload_n dX12_town_0 x_get_3_0 ?_
        refine x_iconst dX12_town_1 ?_
        refine x_putI 0 dX12_town_2 fX_12_117 rfl tX_12_0 n62 s62 (by rfl) ?_
        have z0 := m_go0 hq hr hv84
        generalize x_up D 62 (x_u1 (D 62) 0 0) = d0 at z0 ⊢
        obtain ⟨q0, t0, ms0, r0, v0⟩ := z0
        refine x_aload_n dX12_town_5 x_get_3_0 ?_
        refine x_iload_n dX12_town_6 x_get_3_1 ?_
        refine x_callV (As := [_]) dX12_town_7 w_12_362 (m_isTownT hl q0 t0 ht) (by assumption) (by assumption) rfl rfl (Nat.le_of_ble_eq_true rfl) (Nat.le_of_ble_eq_true rfl) (Nat.le_of_ble_eq_true rfl) (Nat.le_of_ble_eq_true rfl) (Nat.le_of_ble_eq_true rfl) ?_
        intro dz hdz
        obtain rfl := Eq.symm hdz
        refine r_if_eq (t := 23) dX12_town_10 rfl ⟨by omega, by omega⟩ (fun hc10 => absurd hc10 (by omega)) (fun hc10 => ?_)
        refine x_aload_n dX12_town_13 x_get_3_0 ?_
        refine x_iload_n dX12_town_14 x_get_3_2 ?_
        refine x_bipush dX12_town_15 rfl ?_
        refine x_callV (As := [_, _]) dX12_town_17 w_12_365 (m_isWhatT hl q0.1 t0 ⟨by decide, by decide⟩ ⟨by decide, by decide⟩ ⟨by decide, by decide⟩) (by assumption) (by assumption) rfl rfl (Nat.le_of_ble_eq_true rfl) (Nat.le_of_ble_eq_true rfl) (Nat.le_of_ble_eq_true rfl) (Nat.le_of_ble_eq_true rfl) (Nat.le_of_ble_eq_true rfl) ?_
        intro dz hdz
        obtain rfl := Eq.symm hdz
        refine r_if_ne (t := 25) dX12_town_20 rfl ⟨by omega, by omega⟩ (fun hc20 => ?_) (fun hc20 => absurd hc20 (by omega))
        refine x_iload_n dX12_town_25 x_get_3_2 ?_
        refine x_tswIn (t := 83) dX12_town_26 (by decide) (by decide) rfl rfl ?_
        have e1 : d0 82 (1 + t) = f (1 + t) := mr_t r0 rfl (by decide) ht0 ht1
        have e9 : d0 82 (9 + t) = f (9 + t) := mr_t r0 rfl (by decide) ht0 ht1
        have e17 : d0 82 (17 + t) = f (17 + t) := mr_t r0 rfl (by decide) ht0 ht1
        obtain ⟨k63, k64⟩ := q0.2.2.2.2.2.2.2.1 t ht0 ht1
        refine x_aload_n dX12_town_83 x_get_3_0 ?_
        refine x_getR dX12_town_84 fX_12_13 n62 s62 (by rfl) ?_
        refine x_iload_n dX12_town_87 x_get_3_1 ?_
        refine x_iald dX12_town_88 n63 s63 (by omega) (by omega) (by decide) ?_
        try simp (disch := decide) only [x_up_s, x_up_n, x_up_up, x_u1_s, x_u1_n, e1, e9, e17, k63, k64]
        exact x_iret dX12_town_89 rfl (Nat.le_of_ble_eq_true rfl) (Nat.le_of_ble_eq_true rfl) rfl rfl rfl ⟨ms0, t0⟩ rfl
      · show x_M X l yX12_town cX12_town 3 (some .int) 4 0 0 [.ref (x_b X + 62), .int (xI t), .int (xI 3)] false N sh D (m_r (o_i (G.2.1 t))) false N sh (fun d => ms D d ∧ d 62 0 = m_k 1 (o_i (G.2.1 t)))
        rw [m_r_i, m_k_i]
        refine x_ofW (by decide +kernel) hl (by simp [Value.category]) (by simp) ?_
        refine x_aload_n dX12_town_0 x_get_3_0 ?_
        refine x_iconst dX12_town_1 ?_
        refine x_putI 0 dX12_town_2 fX_12_117 rfl tX_12_0 n62 s62 (by rfl) ?_
        have z0 := m_go0 hq hr hv84
        generalize x_up D 62 (x_u1 (D 62) 0 0) = d0 at z0 ⊢
        obtain ⟨q0, t0, ms0, r0, v0⟩ := z0
        refine x_aload_n dX12_town_5 x_get_3_0 ?_
        refine x_iload_n dX12_town_6 x_get_3_1 ?_
        refine x_callV (As := [_]) dX12_town_7 w_12_362 (m_isTownT hl q0 t0 ht) (by assumption) (by assumption) rfl rfl (Nat.le_of_ble_eq_true rfl) (Nat.le_of_ble_eq_true rfl) (Nat.le_of_ble_eq_true rfl) (Nat.le_of_ble_eq_true rfl) (Nat.le_of_ble_eq_true rfl) ?_
        intro dz hdz
        obtain rfl := Eq.symm hdz
        refine r_if_eq (t := 23) dX12_town_10 rfl ⟨by omega, by omega⟩ (fun hc10 => absurd hc10 (by omega)) (fun hc10 => ?_)
        refine x_aload_n dX12_town_13 x_get_3_0 ?_
        refine x_iload_n dX12_town_14 x_get_3_2 ?_
        refine x_bipush dX12_town_15 rfl ?_
        refine x_callV (As := [_, _]) dX12_town_17 w_12_365 (m_isWhatT hl q0.1 t0 ⟨by decide, by decide⟩ ⟨by decide, by decide⟩ ⟨by decide, by decide⟩) (by assumption) (by assumption) rfl rfl (Nat.le_of_ble_eq_true rfl) (Nat.le_of_ble_eq_true rfl) (Nat.le_of_ble_eq_true rfl) (Nat.le_of_ble_eq_true rfl) (Nat.le_of_ble_eq_true rfl) ?_
        intro dz hdz
        obtain rfl := Eq.symm hdz
        refine r_if_ne (t := 25) dX12_town_20 rfl ⟨by omega, by omega⟩ (fun hc20 => ?_) (fun hc20 => absurd hc20 (by omega))
        refine x_iload_n dX12_town_25 x_get_3_2 ?_
        refine x_tswIn (t := 90) dX12_town_26 (by decide) (by decide) rfl rfl ?_
        have e1 : d0 82 (1 + t) = f (1 + t) := mr_t r0 rfl (by decide) ht0 ht1
        have e9 : d0 82 (9 + t) = f (9 + t) := mr_t r0 rfl (by decide) ht0 ht1
        have e17 : d0 82 (17 + t) = f (17 + t) := mr_t r0 rfl (by decide) ht0 ht1
        obtain ⟨k63, k64⟩ := q0.2.2.2.2.2.2.2.1 t ht0 ht1
        refine x_aload_n dX12_town_90 x_get_3_0 ?_
        refine x_getR dX12_town_91 fX_12_17 n62 s62 (by rfl) ?_
        refine x_iload_n dX12_town_94 x_get_3_1 ?_
        refine x_iald dX12_town_95 n64 s64 (by omega) (by omega) (by decide) ?_
        try simp (disch := decide) only [x_up_s, x_up_n, x_up_up, x_u1_s, x_u1_n, e1, e9, e17, k63, k64]
        exact x_iret dX12_town_96 rfl (Nat.le_of_ble_eq_true rfl) (Nat.le_of_ble_eq_true rfl) rfl rfl rfl ⟨ms0, t0⟩ rfl
      · show x_M X l yX12_town cX12_town 3 (some .int) 4 0 0 [.ref (x_b X + 62), .int (xI t), .int (xI 4)] false N sh D (m_r (o_i (f (17 + t)))) false N sh (fun d => ms D d ∧ d 62 0 = m_k 1 (o_i (f (17 + t))))
        rw [m_r_i, m_k_i]
        refine x_ofW (by decide +kernel) hl (by simp [Value.category]) (by simp) ?_
        refine x_aload_n dX12_town_0 x_get_3_0 ?_
        refine x_iconst dX12_town_1 ?_
        refine x_putI 0 dX12_town_2 fX_12_117 rfl tX_12_0 n62 s62 (by rfl) ?_
        have z0 := m_go0 hq hr hv84
        generalize x_up D 62 (x_u1 (D 62) 0 0) = d0 at z0 ⊢
        obtain ⟨q0, t0, ms0, r0, v0⟩ := z0
        refine x_aload_n dX12_town_5 x_get_3_0 ?_
        refine x_iload_n dX12_town_6 x_get_3_1 ?_
        refine x_callV (As := [_]) dX12_town_7 w_12_362 (m_isTownT hl q0 t0 ht) (by assumption) (by assumption) rfl rfl (Nat.le_of_ble_eq_true rfl) (Nat.le_of_ble_eq_true rfl) (Nat.le_of_ble_eq_true rfl) (Nat.le_of_ble_eq_true rfl) (Nat.le_of_ble_eq_true rfl) ?_
        intro dz hdz
        obtain rfl := Eq.symm hdz
        refine r_if_eq (t := 23) dX12_town_10 rfl ⟨by omega, by omega⟩ (fun hc10 => absurd hc10 (by omega)) (fun hc10 => ?_)
        refine x_aload_n dX12_town_13 x_get_3_0 ?_
        refine x_iload_n dX12_town_14 x_get_3_2 ?_
        refine x_bipush dX12_town_15 rfl ?_
        refine x_callV (As := [_, _]) dX12_town_17 w_12_365 (m_isWhatT hl q0.1 t0 ⟨by decide, by decide⟩ ⟨by decide, by decide⟩ ⟨by decide, by decide⟩) (by assumption) (by assumption) rfl rfl (Nat.le_of_ble_eq_true rfl) (Nat.le_of_ble_eq_true rfl) (Nat.le_of_ble_eq_true rfl) (Nat.le_of_ble_eq_true rfl) (Nat.le_of_ble_eq_true rfl) ?_
        intro dz hdz
        obtain rfl := Eq.symm hdz
        refine r_if_ne (t := 25) dX12_town_20 rfl ⟨by omega, by omega⟩ (fun hc20 => ?_) (fun hc20 => absurd hc20 (by omega))
        refine x_iload_n dX12_town_25 x_get_3_2 ?_
        refine x_tswIn (t := 97) dX12_town_26 (by decide) (by decide) rfl rfl ?_
        have e1 : d0 82 (1 + t) = f (1 + t) := mr_t r0 rfl (by decide) ht0 ht1
        have e9 : d0 82 (9 + t) = f (9 + t) := mr_t r0 rfl (by decide) ht0 ht1
        have e17 : d0 82 (17 + t) = f (17 + t) := mr_t r0 rfl (by decide) ht0 ht1
        obtain ⟨k63, k64⟩ := q0.2.2.2.2.2.2.2.1 t ht0 ht1
        refine x_aload_n dX12_town_97 x_get_3_0 ?_
        refine x_getR dX12_town_98 fX_12_75 n62 s62 (by rfl) ?_
        refine x_bipush dX12_town_101 rfl ?_
        refine x_iload_n dX12_town_103 x_get_3_1 ?_
        refine x_iadd dX12_town_104 ?_
        refine x_iald dX12_town_105 n82 s82 (by omega) (by omega) (by decide) ?_
        try simp (disch := decide) only [x_up_s, x_up_n, x_up_up, x_u1_s, x_u1_n, e1, e9, e17, k63, k64]
        exact x_iret dX12_town_106 rfl (Nat.le_of_ble_eq_true rfl) (Nat.le_of_ble_eq_true rfl) rfl rfl rfl ⟨ms0, t0⟩ rfl
      · show x_M X l yX12_town cX12_town 3 (some .int) 4 0 0 [.ref (x_b X + 62), .int (xI t), .int (xI 5)] false N sh D (m_r (o_i (G.2.2 f t))) false N sh (fun d => ms D d ∧ d 62 0 = m_k 1 (o_i (G.2.2 f t)))
        rw [m_r_i, m_k_i]
        refine x_ofW (by decide +kernel) hl (by simp [Value.category]) (by simp) ?_
        refine x_aload_n dX12_town_0 x_get_3_0 ?_
        refine x_iconst dX12_town_1 ?_
        refine x_putI 0 dX12_town_2 fX_12_117 rfl tX_12_0 n62 s62 (by rfl) ?_
        have z0 := m_go0 hq hr hv84
        generalize x_up D 62 (x_u1 (D 62) 0 0) = d0 at z0 ⊢
        obtain ⟨q0, t0, ms0, r0, v0⟩ := z0
        refine x_aload_n dX12_town_5 x_get_3_0 ?_
        refine x_iload_n dX12_town_6 x_get_3_1 ?_
        refine x_callV (As := [_]) dX12_town_7 w_12_362 (m_isTownT hl q0 t0 ht) (by assumption) (by assumption) rfl rfl (Nat.le_of_ble_eq_true rfl) (Nat.le_of_ble_eq_true rfl) (Nat.le_of_ble_eq_true rfl) (Nat.le_of_ble_eq_true rfl) (Nat.le_of_ble_eq_true rfl) ?_
        intro dz hdz
        obtain rfl := Eq.symm hdz
        refine r_if_eq (t := 23) dX12_town_10 rfl ⟨by omega, by omega⟩ (fun hc10 => absurd hc10 (by omega)) (fun hc10 => ?_)
        refine x_aload_n dX12_town_13 x_get_3_0 ?_
        refine x_iload_n dX12_town_14 x_get_3_2 ?_
        refine x_bipush dX12_town_15 rfl ?_
        refine x_callV (As := [_, _]) dX12_town_17 w_12_365 (m_isWhatT hl q0.1 t0 ⟨by decide, by decide⟩ ⟨by decide, by decide⟩ ⟨by decide, by decide⟩) (by assumption) (by assumption) rfl rfl (Nat.le_of_ble_eq_true rfl) (Nat.le_of_ble_eq_true rfl) (Nat.le_of_ble_eq_true rfl) (Nat.le_of_ble_eq_true rfl) (Nat.le_of_ble_eq_true rfl) ?_
        intro dz hdz
        obtain rfl := Eq.symm hdz
        refine r_if_ne (t := 25) dX12_town_20 rfl ⟨by omega, by omega⟩ (fun hc20 => ?_) (fun hc20 => absurd hc20 (by omega))
        refine x_iload_n dX12_town_25 x_get_3_2 ?_
        refine x_tswIn (t := 107) dX12_town_26 (by decide) (by decide) rfl rfl ?_
        have e1 : d0 82 (1 + t) = f (1 + t) := mr_t r0 rfl (by decide) ht0 ht1
        have e9 : d0 82 (9 + t) = f (9 + t) := mr_t r0 rfl (by decide) ht0 ht1
        have e17 : d0 82 (17 + t) = f (17 + t) := mr_t r0 rfl (by decide) ht0 ht1
        obtain ⟨k63, k64⟩ := q0.2.2.2.2.2.2.2.1 t ht0 ht1
        refine x_aload_n dX12_town_107 x_get_3_0 ?_
        refine x_iconst dX12_town_108 ?_
        refine x_iload_n dX12_town_109 x_get_3_1 ?_
        refine x_callV (As := [_, _]) dX12_town_110 w_12_336 (m_oddsOf hl q0 hk (by omega) (Or.inl rfl) r0 ht0 ht1 v0) (by assumption) (by assumption) rfl rfl (Nat.le_of_ble_eq_true rfl) (Nat.le_of_ble_eq_true rfl) (Nat.le_of_ble_eq_true rfl) (Nat.le_of_ble_eq_true rfl) (Nat.le_of_ble_eq_true rfl) ?_
        rintro d1 ⟨ho, hv1⟩
        exact x_iret dX12_town_113 rfl (Nat.le_of_ble_eq_true rfl) (Nat.le_of_ble_eq_true rfl) rfl rfl rfl ⟨ms_od ms0 ho hv1, by rw [m_od_n ho (by decide) (by decide)]; exact t0⟩ rfl
      · show x_M X l yX12_town cX12_town 3 (some .int) 4 0 0 [.ref (x_b X + 62), .int (xI t), .int (xI 6)] false N sh D (m_r (o_i (((s_bits (fun c => s_in f t c) C : Nat) : Int)))) false N sh (fun d => ms D d ∧ d 62 0 = m_k 1 (o_i (((s_bits (fun c => s_in f t c) C : Nat) : Int))))
        rw [m_r_i, m_k_i]
        refine x_ofW (by decide +kernel) hl (by simp [Value.category]) (by simp) ?_
        refine x_aload_n dX12_town_0 x_get_3_0 ?_
        refine x_iconst dX12_town_1 ?_
        refine x_putI 0 dX12_town_2 fX_12_117 rfl tX_12_0 n62 s62 (by rfl) ?_
        have z0 := m_go0 hq hr hv84
        generalize x_up D 62 (x_u1 (D 62) 0 0) = d0 at z0 ⊢
        obtain ⟨q0, t0, ms0, r0, v0⟩ := z0
        refine x_aload_n dX12_town_5 x_get_3_0 ?_
        refine x_iload_n dX12_town_6 x_get_3_1 ?_
        refine x_callV (As := [_]) dX12_town_7 w_12_362 (m_isTownT hl q0 t0 ht) (by assumption) (by assumption) rfl rfl (Nat.le_of_ble_eq_true rfl) (Nat.le_of_ble_eq_true rfl) (Nat.le_of_ble_eq_true rfl) (Nat.le_of_ble_eq_true rfl) (Nat.le_of_ble_eq_true rfl) ?_
        intro dz hdz
        obtain rfl := Eq.symm hdz
        refine r_if_eq (t := 23) dX12_town_10 rfl ⟨by omega, by omega⟩ (fun hc10 => absurd hc10 (by omega)) (fun hc10 => ?_)
        refine x_aload_n dX12_town_13 x_get_3_0 ?_
        refine x_iload_n dX12_town_14 x_get_3_2 ?_
        refine x_bipush dX12_town_15 rfl ?_
        refine x_callV (As := [_, _]) dX12_town_17 w_12_365 (m_isWhatT hl q0.1 t0 ⟨by decide, by decide⟩ ⟨by decide, by decide⟩ ⟨by decide, by decide⟩) (by assumption) (by assumption) rfl rfl (Nat.le_of_ble_eq_true rfl) (Nat.le_of_ble_eq_true rfl) (Nat.le_of_ble_eq_true rfl) (Nat.le_of_ble_eq_true rfl) (Nat.le_of_ble_eq_true rfl) ?_
        intro dz hdz
        obtain rfl := Eq.symm hdz
        refine r_if_ne (t := 25) dX12_town_20 rfl ⟨by omega, by omega⟩ (fun hc20 => ?_) (fun hc20 => absurd hc20 (by omega))
        refine x_iload_n dX12_town_25 x_get_3_2 ?_
        refine x_tswOut (t := 114) dX12_town_26 (by decide) rfl ?_
        have e1 : d0 82 (1 + t) = f (1 + t) := mr_t r0 rfl (by decide) ht0 ht1
        have e9 : d0 82 (9 + t) = f (9 + t) := mr_t r0 rfl (by decide) ht0 ht1
        have e17 : d0 82 (17 + t) = f (17 + t) := mr_t r0 rfl (by decide) ht0 ht1
        obtain ⟨k63, k64⟩ := q0.2.2.2.2.2.2.2.1 t ht0 ht1
        refine x_aload_n dX12_town_114 x_get_3_0 ?_
        refine x_iconst dX12_town_115 ?_
        refine x_iload_n dX12_town_116 x_get_3_1 ?_
        refine x_callV (As := [_, _]) dX12_town_117 w_12_314 (m_lyingIn hl q0 hk (by omega) (Or.inl rfl) r0 ht0 (by omega)) (by assumption) (by assumption) rfl rfl (Nat.le_of_ble_eq_true rfl) (Nat.le_of_ble_eq_true rfl) (Nat.le_of_ble_eq_true rfl) (Nat.le_of_ble_eq_true rfl) (Nat.le_of_ble_eq_true rfl) ?_
        intro dz hdz
        obtain rfl := Eq.symm hdz
        exact x_iret dX12_town_120 rfl (Nat.le_of_ble_eq_true rfl) (Nat.le_of_ble_eq_true rfl) rfl rfl rfl ⟨ms0, t0⟩ rfl
    · have e : (if w = 0 then o_i (f (1 + t)) else if w = 1 then o_i (f (9 + t)) else if w = 2 then o_i (G.1 t) else if w = 3 then o_i (G.2.1 t) else if w = 4 then o_i (f (17 + t)) else if w = 5 then o_i (G.2.2 f t) else if w = 6 then o_i ((s_bits (fun c => s_in f t c) C : Nat) : Int) else .inr x_NSE) = .inr x_NSE := by
        rw [if_neg (by omega), if_neg (by omega), if_neg (by omega), if_neg (by omega), if_neg (by omega), if_neg (by omega), if_neg (by omega)]
      rw [e]
      refine x_ofW (by decide +kernel) hl (by simp [Value.category]) (by simp) ?_
      refine x_aload_n dX12_town_0 x_get_3_0 ?_
      refine x_iconst dX12_town_1 ?_
      refine x_putI 0 dX12_town_2 fX_12_117 rfl tX_12_0 n62 s62 (by rfl) ?_
      have z0 := m_go0 hq hr hv84
      generalize x_up D 62 (x_u1 (D 62) 0 0) = d0 at z0 ⊢
      obtain ⟨q0, t0, ms0, r0, v0⟩ := z0
      refine x_aload_n dX12_town_5 x_get_3_0 ?_
      refine x_iload_n dX12_town_6 x_get_3_1 ?_
      refine x_callV (As := [_]) dX12_town_7 w_12_362 (m_isTownT hl q0 t0 ht) (by assumption) (by assumption) rfl rfl (Nat.le_of_ble_eq_true rfl) (Nat.le_of_ble_eq_true rfl) (Nat.le_of_ble_eq_true rfl) (Nat.le_of_ble_eq_true rfl) (Nat.le_of_ble_eq_true rfl) ?_
      intro dz hdz
      obtain rfl := Eq.symm hdz
      refine r_if_eq (t := 23) dX12_town_10 rfl ⟨by omega, by omega⟩ (fun hc10 => absurd hc10 (by omega)) (fun hc10 => ?_)
      refine x_aload_n dX12_town_13 x_get_3_0 ?_
      refine x_iload_n dX12_town_14 x_get_3_2 ?_
      refine x_bipush dX12_town_15 rfl ?_
      refine x_callV (As := [_, _]) dX12_town_17 w_12_365 (m_isWhatF hl q0.1 t0 hwr ⟨by decide, by decide⟩ hw) (by assumption) (by assumption) rfl rfl (Nat.le_of_ble_eq_true rfl) (Nat.le_of_ble_eq_true rfl) (Nat.le_of_ble_eq_true rfl) (Nat.le_of_ble_eq_true rfl) (Nat.le_of_ble_eq_true rfl) ?_
      intro dz hdz
      obtain rfl := Eq.symm hdz
      refine r_if_ne (t := 25) dX12_town_20 rfl ⟨by omega, by omega⟩ (fun hc20 => absurd hc20 (by omega)) (fun hc20 => ?_)
      refine x_iconst dX12_town_23 ?_
      exact x_iret dX12_town_24 rfl (Nat.le_of_ble_eq_true rfl) (Nat.le_of_ble_eq_true rfl) rfl rfl rfl ⟨ms_thr ms0, by rw [x_up_s, x_u1_s, m_k_N]⟩ rfl
  · rw [if_neg ht]
    refine x_ofW (by decide +kernel) hl (by simp [Value.category]) (by simp) ?_
    refine x_aload_n dX12_town_0 x_get_3_0 ?_
    refine x_iconst dX12_town_1 ?_
    refine x_putI 0 dX12_town_2 fX_12_117 rfl tX_12_0 n62 s62 (by rfl) ?_
    have z0 := m_go0 hq hr hv84
    generalize x_up D 62 (x_u1 (D 62) 0 0) = d0 at z0 ⊢
    obtain ⟨q0, t0, ms0, r0, v0⟩ := z0
    refine x_aload_n dX12_town_5 x_get_3_0 ?_
    refine x_iload_n dX12_town_6 x_get_3_1 ?_
    refine x_callV (As := [_]) dX12_town_7 w_12_362 (m_isTownF hl q0 t0 htr ht) (by assumption) (by assumption) rfl rfl (Nat.le_of_ble_eq_true rfl) (Nat.le_of_ble_eq_true rfl) (Nat.le_of_ble_eq_true rfl) (Nat.le_of_ble_eq_true rfl) (Nat.le_of_ble_eq_true rfl) ?_
    intro dz hdz
    obtain rfl := Eq.symm hdz
    refine r_if_eq (t := 23) dX12_town_10 rfl ⟨by omega, by omega⟩ (fun hc10 => ?_) (fun hc10 => absurd hc10 (by omega))
    refine x_iconst dX12_town_23 ?_
    exact x_iret dX12_town_24 rfl (Nat.le_of_ble_eq_true rfl) (Nat.le_of_ble_eq_true rfl) rfl rfl rfl ⟨ms_thr ms0, by rw [x_up_s, x_u1_s, m_k_N]⟩ rfl
set_option maxHeartbeats 4000000 in
theorem m_crate {X : xC} {l : Launch} (hl : l.stackTraces = false) {N : Nat} {sh : xS} {D : xM} {T C W : Nat} {G : Ldt} (hq : mq N sh D T C W G) {B : Int} {f : Int → Int} (hk : s_ok B f) (hB : B ≤ 200000) (hr : mr T C f (D 82) 0) (hv84 : ∀ j, x_r (D 84 j)) {c w : Int} (hcr : x_r c) (hwr : x_r w) : x_M X l yX12_crate cX12_crate 3 (some .int) 4 0 0 [.ref (x_b X + 62), .int (xI c), .int (xI w)] false N sh D (m_r (q_crate C f c w)) false N sh (fun d => ms D d ∧ d 62 0 = m_k 1 (q_crate C f c w)) := by
  obtain ⟨hM, hT, hTb, hW, hWb, hC, hCb, hmk, ⟨hG1, hG2, hG3⟩, hod⟩ := id hq
  have s62 := md_62 hM
  have n62 : 62 < N := md_n hM (by decide)
  have s82 := md_82 hM
  have n82 : 82 < N := md_n hM (by decide)
  obtain ⟨hwr0, hwr1⟩ := id hwr
  unfold q_crate
  by_cases hc : 0 ≤ c ∧ c < C
  · rw [if_pos hc]
    obtain ⟨hc0, hc1⟩ := id hc
    by_cases hw : 0 ≤ w ∧ w ≤ 4
    · have hc : w = 0 ∨ w = 1 ∨ w = 2 ∨ w = 3 ∨ w = 4 := by omega
      rcases hc with rfl | rfl | rfl | rfl | rfl
      · show x_M X l yX12_crate cX12_crate 3 (some .int) 4 0 0 [.ref (x_b X + 62), .int (xI c), .int (xI 0)] false N sh D (m_r (o_i (f (25 + c)))) false N sh (fun d => ms D d ∧ d 62 0 = m_k 1 (o_i (f (25 + c))))
        rw [m_r_i, m_k_i]
        refine x_ofW (by decide +kernel) hl (by simp [Value.category]) (by simp) ?_
        refine x_aload_n dX12_crate_0 x_get_3_0 ?_
        refine x_iconst dX12_crate_1 ?_
        refine x_putI 0 dX12_crate_2 fX_12_117 rfl tX_12_0 n62 s62 (by rfl) ?_
        have z0 := m_go0 hq hr hv84
        generalize x_up D 62 (x_u1 (D 62) 0 0) = d0 at z0 ⊢
        obtain ⟨q0, t0, ms0, r0, v0⟩ := z0
        refine x_aload_n dX12_crate_5 x_get_3_0 ?_
        refine x_iload_n dX12_crate_6 x_get_3_1 ?_
        refine x_callV (As := [_]) dX12_crate_7 w_12_368 (m_isCrateT hl q0 t0 hc) (by assumption) (by assumption) rfl rfl (Nat.le_of_ble_eq_true rfl) (Nat.le_of_ble_eq_true rfl) (Nat.le_of_ble_eq_true rfl) (Nat.le_of_ble_eq_true rfl) (Nat.le_of_ble_eq_true rfl) ?_
        intro dz hdz
        obtain rfl := Eq.symm hdz
        refine r_if_eq (t := 22) dX12_crate_10 rfl ⟨by omega, by omega⟩ (fun hc10 => absurd hc10 (by omega)) (fun hc10 => ?_)
        refine x_aload_n dX12_crate_13 x_get_3_0 ?_
        refine x_iload_n dX12_crate_14 x_get_3_2 ?_
        refine x_iconst dX12_crate_15 ?_
        refine x_callV (As := [_, _]) dX12_crate_16 w_12_365 (m_isWhatT hl q0.1 t0 ⟨by decide, by decide⟩ ⟨by decide, by decide⟩ ⟨by decide, by decide⟩) (by assumption) (by assumption) rfl rfl (Nat.le_of_ble_eq_true rfl) (Nat.le_of_ble_eq_true rfl) (Nat.le_of_ble_eq_true rfl) (Nat.le_of_ble_eq_true rfl) (Nat.le_of_ble_eq_true rfl) ?_
        intro dz hdz
        obtain rfl := Eq.symm hdz
        refine r_if_ne (t := 24) dX12_crate_19 rfl ⟨by omega, by omega⟩ (fun hc19 => ?_) (fun hc19 => absurd hc19 (by omega))
        refine x_iload_n dX12_crate_24 x_get_3_2 ?_
        refine x_tswIn (t := 56) dX12_crate_25 (by decide) (by decide) rfl rfl ?_
        have e : d0 82 (25 + c) = f (25 + c) := mr_c r0 rfl (by decide) hc0 hc1
        refine x_aload_n dX12_crate_56 x_get_3_0 ?_
        refine x_getR dX12_crate_57 fX_12_75 n62 s62 (by rfl) ?_
        refine x_bipush dX12_crate_60 rfl ?_
        refine x_iload_n dX12_crate_62 x_get_3_1 ?_
        refine x_iadd dX12_crate_63 ?_
        refine x_iald dX12_crate_64 n82 s82 (by omega) (by omega) (by decide) ?_
        try simp (disch := decide) only [x_up_s, x_up_n, x_up_up, x_u1_s, x_u1_n, e]
        exact x_iret dX12_crate_65 rfl (Nat.le_of_ble_eq_true rfl) (Nat.le_of_ble_eq_true rfl) rfl rfl rfl ⟨ms0, t0⟩ rfl
      · show x_M X l yX12_crate cX12_crate 3 (some .int) 4 0 0 [.ref (x_b X + 62), .int (xI c), .int (xI 1)] false N sh D (m_r (o_i (f (35 + c)))) false N sh (fun d => ms D d ∧ d 62 0 = m_k 1 (o_i (f (35 + c))))
        rw [m_r_i, m_k_i]
        refine x_ofW (by decide +kernel) hl (by simp [Value.category]) (by simp) ?_
        refine x_aload_n dX12_crate_0 x_get_3_0 ?_
        refine x_iconst dX12_crate_1 ?_
        refine x_putI 0 dX12_crate_2 fX_12_117 rfl tX_12_0 n62 s62 (by rfl) ?_
        have z0 := m_go0 hq hr hv84
        generalize x_up D 62 (x_u1 (D 62) 0 0) = d0 at z0 ⊢
        obtain ⟨q0, t0, ms0, r0, v0⟩ := z0
        refine x_aload_n dX12_crate_5 x_get_3_0 ?_
        refine x_iload_n dX12_crate_6 x_get_3_1 ?_
        refine x_callV (As := [_]) dX12_crate_7 w_12_368 (m_isCrateT hl q0 t0 hc) (by assumption) (by assumption) rfl rfl (Nat.le_of_ble_eq_true rfl) (Nat.le_of_ble_eq_true rfl) (Nat.le_of_ble_eq_true rfl) (Nat.le_of_ble_eq_true rfl) (Nat.le_of_ble_eq_true rfl) ?_
        intro dz hdz
        obtain rfl := Eq.symm hdz
        refine r_if_eq (t := 22) dX12_crate_10 rfl ⟨by omega, by omega⟩ (fun hc10 => absurd hc10 (by omega)) (fun hc10 => ?_)
        refine x_aload_n dX12_crate_13 x_get_3_0 ?_
        refine x_iload_n dX12_crate_14 x_get_3_2 ?_
        refine x_iconst dX12_crate_15 ?_
        refine x_callV (As := [_, _]) dX12_crate_16 w_12_365 (m_isWhatT hl q0.1 t0 ⟨by decide, by decide⟩ ⟨by decide, by decide⟩ ⟨by decide, by decide⟩) (by assumption) (by assumption) rfl rfl (Nat.le_of_ble_eq_true rfl) (Nat.le_of_ble_eq_true rfl) (Nat.le_of_ble_eq_true rfl) (Nat.le_of_ble_eq_true rfl) (Nat.le_of_ble_eq_true rfl) ?_
        intro dz hdz
        obtain rfl := Eq.symm hdz
        refine r_if_ne (t := 24) dX12_crate_19 rfl ⟨by omega, by omega⟩ (fun hc19 => ?_) (fun hc19 => absurd hc19 (by omega))
        refine x_iload_n dX12_crate_24 x_get_3_2 ?_
        refine x_tswIn (t := 66) dX12_crate_25 (by decide) (by decide) rfl rfl ?_
        have e : d0 82 (35 + c) = f (35 + c) := mr_c r0 rfl (by decide) hc0 hc1
        refine x_aload_n dX12_crate_66 x_get_3_0 ?_
        refine x_getR dX12_crate_67 fX_12_75 n62 s62 (by rfl) ?_
        refine x_bipush dX12_crate_70 rfl ?_
        refine x_iload_n dX12_crate_72 x_get_3_1 ?_
        refine x_iadd dX12_crate_73 ?_
        refine x_iald dX12_crate_74 n82 s82 (by omega) (by omega) (by decide) ?_
        try simp (disch := decide) only [x_up_s, x_up_n, x_up_up, x_u1_s, x_u1_n, e]
        exact x_iret dX12_crate_75 rfl (Nat.le_of_ble_eq_true rfl) (Nat.le_of_ble_eq_true rfl) rfl rfl rfl ⟨ms0, t0⟩ rfl
      · show x_M X l yX12_crate cX12_crate 3 (some .int) 4 0 0 [.ref (x_b X + 62), .int (xI c), .int (xI 2)] false N sh D (m_r (o_i (f (45 + c)))) false N sh (fun d => ms D d ∧ d 62 0 = m_k 1 (o_i (f (45 + c))))
        rw [m_r_i, m_k_i]
        refine x_ofW (by decide +kernel) hl (by simp [Value.category]) (by simp) ?_
        refine x_aload_n dX12_crate_0 x_get_3_0 ?_
        refine x_iconst dX12_crate_1 ?_
        refine x_putI 0 dX12_crate_2 fX_12_117 rfl tX_12_0 n62 s62 (by rfl) ?_
        have z0 := m_go0 hq hr hv84
        generalize x_up D 62 (x_u1 (D 62) 0 0) = d0 at z0 ⊢
        obtain ⟨q0, t0, ms0, r0, v0⟩ := z0
        refine x_aload_n dX12_crate_5 x_get_3_0 ?_
        refine x_iload_n dX12_crate_6 x_get_3_1 ?_
        refine x_callV (As := [_]) dX12_crate_7 w_12_368 (m_isCrateT hl q0 t0 hc) (by assumption) (by assumption) rfl rfl (Nat.le_of_ble_eq_true rfl) (Nat.le_of_ble_eq_true rfl) (Nat.le_of_ble_eq_true rfl) (Nat.le_of_ble_eq_true rfl) (Nat.le_of_ble_eq_true rfl) ?_
        intro dz hdz
        obtain rfl := Eq.symm hdz
        refine r_if_eq (t := 22) dX12_crate_10 rfl ⟨by omega, by omega⟩ (fun hc10 => absurd hc10 (by omega)) (fun hc10 => ?_)
        refine x_aload_n dX12_crate_13 x_get_3_0 ?_
        refine x_iload_n dX12_crate_14 x_get_3_2 ?_
        refine x_iconst dX12_crate_15 ?_
        refine x_callV (As := [_, _]) dX12_crate_16 w_12_365 (m_isWhatT hl q0.1 t0 ⟨by decide, by decide⟩ ⟨by decide, by decide⟩ ⟨by decide, by decide⟩) (by assumption) (by assumption) rfl rfl (Nat.le_of_ble_eq_true rfl) (Nat.le_of_ble_eq_true rfl) (Nat.le_of_ble_eq_true rfl) (Nat.le_of_ble_eq_true rfl) (Nat.le_of_ble_eq_true rfl) ?_
        intro dz hdz
        obtain rfl := Eq.symm hdz
        refine r_if_ne (t := 24) dX12_crate_19 rfl ⟨by omega, by omega⟩ (fun hc19 => ?_) (fun hc19 => absurd hc19 (by omega))
        refine x_iload_n dX12_crate_24 x_get_3_2 ?_
        refine x_tswIn (t := 76) dX12_crate_25 (by decide) (by decide) rfl rfl ?_
        have e : d0 82 (45 + c) = f (45 + c) := mr_c r0 rfl (by decide) hc0 hc1
        refine x_aload_n dX12_crate_76 x_get_3_0 ?_
        refine x_getR dX12_crate_77 fX_12_75 n62 s62 (by rfl) ?_
        refine x_bipush dX12_crate_80 rfl ?_
        refine x_iload_n dX12_crate_82 x_get_3_1 ?_
        refine x_iadd dX12_crate_83 ?_
        refine x_iald dX12_crate_84 n82 s82 (by omega) (by omega) (by decide) ?_
        try simp (disch := decide) only [x_up_s, x_up_n, x_up_up, x_u1_s, x_u1_n, e]
        exact x_iret dX12_crate_85 rfl (Nat.le_of_ble_eq_true rfl) (Nat.le_of_ble_eq_true rfl) rfl rfl rfl ⟨ms0, t0⟩ rfl
      · show x_M X l yX12_crate cX12_crate 3 (some .int) 4 0 0 [.ref (x_b X + 62), .int (xI c), .int (xI 3)] false N sh D (m_r (o_i (f (55 + c)))) false N sh (fun d => ms D d ∧ d 62 0 = m_k 1 (o_i (f (55 + c))))
        rw [m_r_i, m_k_i]
        refine x_ofW (by decide +kernel) hl (by simp [Value.category]) (by simp) ?_
        refine x_aload_n dX12_crate_0 x_get_3_0 ?_
        refine x_iconst dX12_crate_1 ?_
        refine x_putI 0 dX12_crate_2 fX_12_117 rfl tX_12_0 n62 s62 (by rfl) ?_
        have z0 := m_go0 hq hr hv84
        generalize x_up D 62 (x_u1 (D 62) 0 0) = d0 at z0 ⊢
        obtain ⟨q0, t0, ms0, r0, v0⟩ := z0
        refine x_aload_n dX12_crate_5 x_get_3_0 ?_
        refine x_iload_n dX12_crate_6 x_get_3_1 ?_
        refine x_callV (As := [_]) dX12_crate_7 w_12_368 (m_isCrateT hl q0 t0 hc) (by assumption) (by assumption) rfl rfl (Nat.le_of_ble_eq_true rfl) (Nat.le_of_ble_eq_true rfl) (Nat.le_of_ble_eq_true rfl) (Nat.le_of_ble_eq_true rfl) (Nat.le_of_ble_eq_true rfl) ?_
        intro dz hdz
        obtain rfl := Eq.symm hdz
        refine r_if_eq (t := 22) dX12_crate_10 rfl ⟨by omega, by omega⟩ (fun hc10 => absurd hc10 (by omega)) (fun hc10 => ?_)
        refine x_aload_n dX12_crate_13 x_get_3_0 ?_
        refine x_iload_n dX12_crate_14 x_get_3_2 ?_
        refine x_iconst dX12_crate_15 ?_
        refine x_callV (As := [_, _]) dX12_crate_16 w_12_365 (m_isWhatT hl q0.1 t0 ⟨by decide, by decide⟩ ⟨by decide, by decide⟩ ⟨by decide, by decide⟩) (by assumption) (by assumption) rfl rfl (Nat.le_of_ble_eq_true rfl) (Nat.le_of_ble_eq_true rfl) (Nat.le_of_ble_eq_true rfl) (Nat.le_of_ble_eq_true rfl) (Nat.le_of_ble_eq_true rfl) ?_
        intro dz hdz
        obtain rfl := Eq.symm hdz
        refine r_if_ne (t := 24) dX12_crate_19 rfl ⟨by omega, by omega⟩ (fun hc19 => ?_) (fun hc19 => absurd hc19 (by omega))
        refine x_iload_n dX12_crate_24 x_get_3_2 ?_
        refine x_tswIn (t := 86) dX12_crate_25 (by decide) (by decide) rfl rfl ?_
        have e : d0 82 (55 + c) = f (55 + c) := mr_c r0 rfl (by decide) hc0 hc1
        refine x_aload_n dX12_crate_86 x_get_3_0 ?_
        refine x_getR dX12_crate_87 fX_12_75 n62 s62 (by rfl) ?_
        refine x_bipush dX12_crate_90 rfl ?_
        refine x_iload_n dX12_crate_92 x_get_3_1 ?_
        refine x_iadd dX12_crate_93 ?_
        refine x_iald dX12_crate_94 n82 s82 (by omega) (by omega) (by decide) ?_
        try simp (disch := decide) only [x_up_s, x_up_n, x_up_up, x_u1_s, x_u1_n, e]
        exact x_iret dX12_crate_95 rfl (Nat.le_of_ble_eq_true rfl) (Nat.le_of_ble_eq_true rfl) rfl rfl rfl ⟨ms0, t0⟩ rfl
      · show x_M X l yX12_crate cX12_crate 3 (some .int) 4 0 0 [.ref (x_b X + 62), .int (xI c), .int (xI 4)] false N sh D (m_r (o_i (f (65 + c)))) false N sh (fun d => ms D d ∧ d 62 0 = m_k 1 (o_i (f (65 + c))))
        rw [m_r_i, m_k_i]
        refine x_ofW (by decide +kernel) hl (by simp [Value.category]) (by simp) ?_
        refine x_aload_n dX12_crate_0 x_get_3_0 ?_
        refine x_iconst dX12_crate_1 ?_
        refine x_putI 0 dX12_crate_2 fX_12_117 rfl tX_12_0 n62 s62 (by rfl) ?_
        have z0 := m_go0 hq hr hv84
        generalize x_up D 62 (x_u1 (D 62) 0 0) = d0 at z0 ⊢
        obtain ⟨q0, t0, ms0, r0, v0⟩ := z0
        refine x_aload_n dX12_crate_5 x_get_3_0 ?_
        refine x_iload_n dX12_crate_6 x_get_3_1 ?_
        refine x_callV (As := [_]) dX12_crate_7 w_12_368 (m_isCrateT hl q0 t0 hc) (by assumption) (by assumption) rfl rfl (Nat.le_of_ble_eq_true rfl) (Nat.le_of_ble_eq_true rfl) (Nat.le_of_ble_eq_true rfl) (Nat.le_of_ble_eq_true rfl) (Nat.le_of_ble_eq_true rfl) ?_
        intro dz hdz
        obtain rfl := Eq.symm hdz
        refine r_if_eq (t := 22) dX12_crate_10 rfl ⟨by omega, by omega⟩ (fun hc10 => absurd hc10 (by omega)) (fun hc10 => ?_)
        refine x_aload_n dX12_crate_13 x_get_3_0 ?_
        refine x_iload_n dX12_crate_14 x_get_3_2 ?_
        refine x_iconst dX12_crate_15 ?_
        refine x_callV (As := [_, _]) dX12_crate_16 w_12_365 (m_isWhatT hl q0.1 t0 ⟨by decide, by decide⟩ ⟨by decide, by decide⟩ ⟨by decide, by decide⟩) (by assumption) (by assumption) rfl rfl (Nat.le_of_ble_eq_true rfl) (Nat.le_of_ble_eq_true rfl) (Nat.le_of_ble_eq_true rfl) (Nat.le_of_ble_eq_true rfl) (Nat.le_of_ble_eq_true rfl) ?_
        intro dz hdz
        obtain rfl := Eq.symm hdz
        refine r_if_ne (t := 24) dX12_crate_19 rfl ⟨by omega, by omega⟩ (fun hc19 => ?_) (fun hc19 => absurd hc19 (by omega))
        refine x_iload_n dX12_crate_24 x_get_3_2 ?_
        refine x_tswOut (t := 96) dX12_crate_25 (by decide) rfl ?_
        have e : d0 82 (65 + c) = f (65 + c) := mr_c r0 rfl (by decide) hc0 hc1
        refine x_aload_n dX12_crate_96 x_get_3_0 ?_
        refine x_getR dX12_crate_97 fX_12_75 n62 s62 (by rfl) ?_
        refine x_bipush dX12_crate_100 rfl ?_
        refine x_iload_n dX12_crate_102 x_get_3_1 ?_
        refine x_iadd dX12_crate_103 ?_
        refine x_iald dX12_crate_104 n82 s82 (by omega) (by omega) (by decide) ?_
        try simp (disch := decide) only [x_up_s, x_up_n, x_up_up, x_u1_s, x_u1_n, e]
        exact x_iret dX12_crate_105 rfl (Nat.le_of_ble_eq_true rfl) (Nat.le_of_ble_eq_true rfl) rfl rfl rfl ⟨ms0, t0⟩ rfl
    · have e : (if w = 0 then o_i (f (25 + c)) else if w = 1 then o_i (f (35 + c)) else if w = 2 then o_i (f (45 + c)) else if w = 3 then o_i (f (55 + c)) else if w = 4 then o_i (f (65 + c)) else .inr x_NSE) = .inr x_NSE := by
        rw [if_neg (by omega), if_neg (by omega), if_neg (by omega), if_neg (by omega), if_neg (by omega)]
      rw [e]
      refine x_ofW (by decide +kernel) hl (by simp [Value.category]) (by simp) ?_
      refine x_aload_n dX12_crate_0 x_get_3_0 ?_
      refine x_iconst dX12_crate_1 ?_
      refine x_putI 0 dX12_crate_2 fX_12_117 rfl tX_12_0 n62 s62 (by rfl) ?_
      have z0 := m_go0 hq hr hv84
      generalize x_up D 62 (x_u1 (D 62) 0 0) = d0 at z0 ⊢
      obtain ⟨q0, t0, ms0, r0, v0⟩ := z0
      refine x_aload_n dX12_crate_5 x_get_3_0 ?_
      refine x_iload_n dX12_crate_6 x_get_3_1 ?_
      refine x_callV (As := [_]) dX12_crate_7 w_12_368 (m_isCrateT hl q0 t0 hc) (by assumption) (by assumption) rfl rfl (Nat.le_of_ble_eq_true rfl) (Nat.le_of_ble_eq_true rfl) (Nat.le_of_ble_eq_true rfl) (Nat.le_of_ble_eq_true rfl) (Nat.le_of_ble_eq_true rfl) ?_
      intro dz hdz
      obtain rfl := Eq.symm hdz
      refine r_if_eq (t := 22) dX12_crate_10 rfl ⟨by omega, by omega⟩ (fun hc10 => absurd hc10 (by omega)) (fun hc10 => ?_)
      refine x_aload_n dX12_crate_13 x_get_3_0 ?_
      refine x_iload_n dX12_crate_14 x_get_3_2 ?_
      refine x_iconst dX12_crate_15 ?_
      refine x_callV (As := [_, _]) dX12_crate_16 w_12_365 (m_isWhatF hl q0.1 t0 hwr ⟨by decide, by decide⟩ hw) (by assumption) (by assumption) rfl rfl (Nat.le_of_ble_eq_true rfl) (Nat.le_of_ble_eq_true rfl) (Nat.le_of_ble_eq_true rfl) (Nat.le_of_ble_eq_true rfl) (Nat.le_of_ble_eq_true rfl) ?_
      intro dz hdz
      obtain rfl := Eq.symm hdz
      refine r_if_ne (t := 24) dX12_crate_19 rfl ⟨by omega, by omega⟩ (fun hc19 => absurd hc19 (by omega)) (fun hc19 => ?_)
      refine x_iconst dX12_crate_22 ?_
      exact x_iret dX12_crate_23 rfl (Nat.le_of_ble_eq_true rfl) (Nat.le_of_ble_eq_true rfl) rfl rfl rfl ⟨ms_thr ms0, by rw [x_up_s, x_u1_s, m_k_N]⟩ rfl
  · rw [if_neg hc]
    refine x_ofW (by decide +kernel) hl (by simp [Value.category]) (by simp) ?_
    refine x_aload_n dX12_crate_0 x_get_3_0 ?_
    refine x_iconst dX12_crate_1 ?_
    refine x_putI 0 dX12_crate_2 fX_12_117 rfl tX_12_0 n62 s62 (by rfl) ?_
    have z0 := m_go0 hq hr hv84
    generalize x_up D 62 (x_u1 (D 62) 0 0) = d0 at z0 ⊢
    obtain ⟨q0, t0, ms0, r0, v0⟩ := z0
    refine x_aload_n dX12_crate_5 x_get_3_0 ?_
    refine x_iload_n dX12_crate_6 x_get_3_1 ?_
    refine x_callV (As := [_]) dX12_crate_7 w_12_368 (m_isCrateF hl q0 t0 hcr hc) (by assumption) (by assumption) rfl rfl (Nat.le_of_ble_eq_true rfl) (Nat.le_of_ble_eq_true rfl) (Nat.le_of_ble_eq_true rfl) (Nat.le_of_ble_eq_true rfl) (Nat.le_of_ble_eq_true rfl) ?_
    intro dz hdz
    obtain rfl := Eq.symm hdz
    refine r_if_eq (t := 22) dX12_crate_10 rfl ⟨by omega, by omega⟩ (fun hc10 => ?_) (fun hc10 => absurd hc10 (by omega))
    refine x_iconst dX12_crate_22 ?_
    exact x_iret dX12_crate_23 rfl (Nat.le_of_ble_eq_true rfl) (Nat.le_of_ble_eq_true rfl) rfl rfl rfl ⟨ms_thr ms0, by rw [x_up_s, x_u1_s, m_k_N]⟩ rfl
set_option maxHeartbeats 8000000 in
theorem m_count {X : xC} {l : Launch} (hl : l.stackTraces = false) {N : Nat} {sh : xS} {D : xM} {T C W : Nat} {G : Ldt} (hq : mq N sh D T C W G) {B : Int} {f : Int → Int} (hk : s_ok B f) (hB : B ≤ 200000) (hr : mr T C f (D 82) 0) (hv84 : ∀ j, x_r (D 84 j)) {w : Int} (hwr : x_r w) : x_M X l yX12_count cX12_count 2 (some .int) 4 0 0 [.ref (x_b X + 62), .int (xI w)] false N sh D (m_r (q_count T C W f (D 62 44) (D 62 52) (D 62 13) (D 71 0) (D 71 1) (D 71 2) w)) false N sh (fun d => ms D d ∧ d 62 0 = m_k 1 (q_count T C W f (D 62 44) (D 62 52) (D 62 13) (D 71 0) (D 71 1) (D 71 2) w)) := by
  obtain ⟨hM, hT, hTb, hW, hWb, hC, hCb, hmk, ⟨hG1, hG2, hG3⟩, hod⟩ := id hq
  have s62 := md_62 hM
  have n62 : 62 < N := md_n hM (by decide)
  have s82 := md_82 hM
  have n82 : 82 < N := md_n hM (by decide)
  have s71 := md_71 hM
  have n71 : 71 < N := md_n hM (by decide)
  obtain ⟨hwr0, hwr1⟩ := id hwr
  by_cases hw : 0 ≤ w ∧ w ≤ 15
  · have hc : w = 0 ∨ w = 1 ∨ w = 2 ∨ w = 3 ∨ w = 4 ∨ w = 5 ∨ w = 6 ∨ w = 7 ∨ w = 8 ∨ w = 9 ∨ w = 10 ∨ w = 11 ∨ w = 12 ∨ w = 13 ∨ w = 14 ∨ w = 15 := by omega
    rcases hc with rfl | rfl | rfl | rfl | rfl | rfl | rfl | rfl | rfl | rfl | rfl | rfl | rfl | rfl | rfl | rfl
    · show x_M X l yX12_count cX12_count 2 (some .int) 4 0 0 [.ref (x_b X + 62), .int (xI 0)] false N sh D (m_r (o_i ((T : Int)))) false N sh (fun d => ms D d ∧ d 62 0 = m_k 1 (o_i ((T : Int))))
      rw [m_r_i, m_k_i]
      refine x_ofW (by decide +kernel) hl (by simp [Value.category]) (by simp) ?_
      refine x_aload_n dX12_count_0 x_get_2_0 ?_
      refine x_iconst dX12_count_1 ?_
      refine x_putI 0 dX12_count_2 fX_12_117 rfl tX_12_0 n62 s62 (by rfl) ?_
      have z0 := m_go0 hq hr hv84
      generalize x_up D 62 (x_u1 (D 62) 0 0) = d0 at z0 ⊢
      obtain ⟨q0, t0, ms0, r0, v0⟩ := z0
      refine x_aload_n dX12_count_5 x_get_2_0 ?_
      refine x_iload_n dX12_count_6 x_get_2_1 ?_
      refine x_iconst dX12_count_7 ?_
      refine x_bipush dX12_count_8 rfl ?_
      refine x_callS (As := [_, _, _]) dX12_count_10 w_12_346 (m_withinT hl ⟨by decide, by decide⟩ ⟨by decide, by decide⟩ ⟨by decide, by decide⟩ ⟨by decide, by decide⟩) rfl rfl (Nat.le_of_ble_eq_true rfl) (Nat.le_of_ble_eq_true rfl) (Nat.le_of_ble_eq_true rfl) (Nat.le_of_ble_eq_true rfl) (Nat.le_of_ble_eq_true rfl) ?_
      intro dz hdz
      obtain rfl := Eq.symm hdz
      refine x_iconst dX12_count_13 ?_
      refine x_callV (As := [_, _]) dX12_count_14 w_12_274 (m_rightT hl hM t0) (by assumption) (by assumption) rfl rfl (Nat.le_of_ble_eq_true rfl) (Nat.le_of_ble_eq_true rfl) (Nat.le_of_ble_eq_true rfl) (Nat.le_of_ble_eq_true rfl) (Nat.le_of_ble_eq_true rfl) ?_
      intro dz hdz
      obtain rfl := Eq.symm hdz
      refine r_if_ne (t := 22) dX12_count_17 rfl ⟨by omega, by omega⟩ (fun hc17 => ?_) (fun hc17 => absurd hc17 (by omega))
      refine x_iload_n dX12_count_22 x_get_2_1 ?_
      refine x_tswIn (t := 88) dX12_count_23 (by decide) (by decide) rfl rfl ?_
      have e0 : d0 82 0 = f 0 := mr_0 r0 rfl
      have k1 : d0 62 1 = T := q0.2.1
      have k2 : d0 62 2 = W := q0.2.2.2.1
      have k3 : d0 62 3 = C := q0.2.2.2.2.2.1
      have k44 : d0 62 44 = D 62 44 := ms0.2.1 44 (by decide) (by decide) (by decide)
      have k52 : d0 62 52 = D 62 52 := ms0.2.1 52 (by decide) (by decide) (by decide)
      have k13 : d0 62 13 = D 62 13 := ms0.2.1 13 (by decide) (by decide) (by decide)
      have k71 : d0 71 = D 71 := ms0.1 71 (by decide) (by decide) (by decide) (by decide) (by decide)
      refine x_aload_n dX12_count_88 x_get_2_0 ?_
      refine x_getI 1 dX12_count_89 fX_12_281 rfl n62 s62 (by rfl) ?_
      try simp (disch := decide) only [x_up_s, x_up_n, x_up_up, x_u1_s, x_u1_n, e0, k1, k2, k3, k44, k52, k13, k71]
      exact x_iret dX12_count_92 rfl (Nat.le_of_ble_eq_true rfl) (Nat.le_of_ble_eq_true rfl) rfl rfl rfl ⟨ms0, t0⟩ rfl
    · show x_M X l yX12_count cX12_count 2 (some .int) 4 0 0 [.ref (x_b X + 62), .int (xI 1)] false N sh D (m_r (o_i ((W : Int)))) false N sh (fun d => ms D d ∧ d 62 0 = m_k 1 (o_i ((W : Int))))
      rw [m_r_i, m_k_i]
      refine x_ofW (by decide +kernel) hl (by simp [Value.category]) (by simp) ?_
      refine x_aload_n dX12_count_0 x_get_2_0 ?_
      refine x_iconst dX12_count_1 ?_
      refine x_putI 0 dX12_count_2 fX_12_117 rfl tX_12_0 n62 s62 (by rfl) ?_
      have z0 := m_go0 hq hr hv84
      generalize x_up D 62 (x_u1 (D 62) 0 0) = d0 at z0 ⊢
      obtain ⟨q0, t0, ms0, r0, v0⟩ := z0
      refine x_aload_n dX12_count_5 x_get_2_0 ?_
      refine x_iload_n dX12_count_6 x_get_2_1 ?_
      refine x_iconst dX12_count_7 ?_
      refine x_bipush dX12_count_8 rfl ?_
      refine x_callS (As := [_, _, _]) dX12_count_10 w_12_346 (m_withinT hl ⟨by decide, by decide⟩ ⟨by decide, by decide⟩ ⟨by decide, by decide⟩ ⟨by decide, by decide⟩) rfl rfl (Nat.le_of_ble_eq_true rfl) (Nat.le_of_ble_eq_true rfl) (Nat.le_of_ble_eq_true rfl) (Nat.le_of_ble_eq_true rfl) (Nat.le_of_ble_eq_true rfl) ?_
      intro dz hdz
      obtain rfl := Eq.symm hdz
      refine x_iconst dX12_count_13 ?_
      refine x_callV (As := [_, _]) dX12_count_14 w_12_274 (m_rightT hl hM t0) (by assumption) (by assumption) rfl rfl (Nat.le_of_ble_eq_true rfl) (Nat.le_of_ble_eq_true rfl) (Nat.le_of_ble_eq_true rfl) (Nat.le_of_ble_eq_true rfl) (Nat.le_of_ble_eq_true rfl) ?_
      intro dz hdz
      obtain rfl := Eq.symm hdz
      refine r_if_ne (t := 22) dX12_count_17 rfl ⟨by omega, by omega⟩ (fun hc17 => ?_) (fun hc17 => absurd hc17 (by omega))
      refine x_iload_n dX12_count_22 x_get_2_1 ?_
      refine x_tswIn (t := 93) dX12_count_23 (by decide) (by decide) rfl rfl ?_
      have e0 : d0 82 0 = f 0 := mr_0 r0 rfl
      have k1 : d0 62 1 = T := q0.2.1
      have k2 : d0 62 2 = W := q0.2.2.2.1
      have k3 : d0 62 3 = C := q0.2.2.2.2.2.1
      have k44 : d0 62 44 = D 62 44 := ms0.2.1 44 (by decide) (by decide) (by decide)
      have k52 : d0 62 52 = D 62 52 := ms0.2.1 52 (by decide) (by decide) (by decide)
      have k13 : d0 62 13 = D 62 13 := ms0.2.1 13 (by decide) (by decide) (by decide)
      have k71 : d0 71 = D 71 := ms0.1 71 (by decide) (by decide) (by decide) (by decide) (by decide)
      refine x_aload_n dX12_count_93 x_get_2_0 ?_
      refine x_getI 2 dX12_count_94 fX_12_284 rfl n62 s62 (by rfl) ?_
      try simp (disch := decide) only [x_up_s, x_up_n, x_up_up, x_u1_s, x_u1_n, e0, k1, k2, k3, k44, k52, k13, k71]
      exact x_iret dX12_count_97 rfl (Nat.le_of_ble_eq_true rfl) (Nat.le_of_ble_eq_true rfl) rfl rfl rfl ⟨ms0, t0⟩ rfl
    · show x_M X l yX12_count cX12_count 2 (some .int) 4 0 0 [.ref (x_b X + 62), .int (xI 2)] false N sh D (m_r (o_i ((C : Int)))) false N sh (fun d => ms D d ∧ d 62 0 = m_k 1 (o_i ((C : Int))))
      rw [m_r_i, m_k_i]
      refine x_ofW (by decide +kernel) hl (by simp [Value.category]) (by simp) ?_
      refine x_aload_n dX12_count_0 x_get_2_0 ?_
      refine x_iconst dX12_count_1 ?_
      refine x_putI 0 dX12_count_2 fX_12_117 rfl tX_12_0 n62 s62 (by rfl) ?_
      have z0 := m_go0 hq hr hv84
      generalize x_up D 62 (x_u1 (D 62) 0 0) = d0 at z0 ⊢
      obtain ⟨q0, t0, ms0, r0, v0⟩ := z0
      refine x_aload_n dX12_count_5 x_get_2_0 ?_
      refine x_iload_n dX12_count_6 x_get_2_1 ?_
      refine x_iconst dX12_count_7 ?_
      refine x_bipush dX12_count_8 rfl ?_
      refine x_callS (As := [_, _, _]) dX12_count_10 w_12_346 (m_withinT hl ⟨by decide, by decide⟩ ⟨by decide, by decide⟩ ⟨by decide, by decide⟩ ⟨by decide, by decide⟩) rfl rfl (Nat.le_of_ble_eq_true rfl) (Nat.le_of_ble_eq_true rfl) (Nat.le_of_ble_eq_true rfl) (Nat.le_of_ble_eq_true rfl) (Nat.le_of_ble_eq_true rfl) ?_
      intro dz hdz
      obtain rfl := Eq.symm hdz
      refine x_iconst dX12_count_13 ?_
      refine x_callV (As := [_, _]) dX12_count_14 w_12_274 (m_rightT hl hM t0) (by assumption) (by assumption) rfl rfl (Nat.le_of_ble_eq_true rfl) (Nat.le_of_ble_eq_true rfl) (Nat.le_of_ble_eq_true rfl) (Nat.le_of_ble_eq_true rfl) (Nat.le_of_ble_eq_true rfl) ?_
      intro dz hdz
      obtain rfl := Eq.symm hdz
      refine r_if_ne (t := 22) dX12_count_17 rfl ⟨by omega, by omega⟩ (fun hc17 => ?_) (fun hc17 => absurd hc17 (by omega))
      refine x_iload_n dX12_count_22 x_get_2_1 ?_
      refine x_tswIn (t := 98) dX12_count_23 (by decide) (by decide) rfl rfl ?_
      have e0 : d0 82 0 = f 0 := mr_0 r0 rfl
      have k1 : d0 62 1 = T := q0.2.1
      have k2 : d0 62 2 = W := q0.2.2.2.1
      have k3 : d0 62 3 = C := q0.2.2.2.2.2.1
      have k44 : d0 62 44 = D 62 44 := ms0.2.1 44 (by decide) (by decide) (by decide)
      have k52 : d0 62 52 = D 62 52 := ms0.2.1 52 (by decide) (by decide) (by decide)
      have k13 : d0 62 13 = D 62 13 := ms0.2.1 13 (by decide) (by decide) (by decide)
      have k71 : d0 71 = D 71 := ms0.1 71 (by decide) (by decide) (by decide) (by decide) (by decide)
      refine x_aload_n dX12_count_98 x_get_2_0 ?_
      refine x_getI 3 dX12_count_99 fX_12_287 rfl n62 s62 (by rfl) ?_
      try simp (disch := decide) only [x_up_s, x_up_n, x_up_up, x_u1_s, x_u1_n, e0, k1, k2, k3, k44, k52, k13, k71]
      exact x_iret dX12_count_102 rfl (Nat.le_of_ble_eq_true rfl) (Nat.le_of_ble_eq_true rfl) rfl rfl rfl ⟨ms0, t0⟩ rfl
    · show x_M X l yX12_count cX12_count 2 (some .int) 4 0 0 [.ref (x_b X + 62), .int (xI 3)] false N sh D (m_r (o_i (f 0))) false N sh (fun d => ms D d ∧ d 62 0 = m_k 1 (o_i (f 0)))
      rw [m_r_i, m_k_i]
      refine x_ofW (by decide +kernel) hl (by simp [Value.category]) (by simp) ?_
      refine x_aload_n dX12_count_0 x_get_2_0 ?_
      refine x_iconst dX12_count_1 ?_
      refine x_putI 0 dX12_count_2 fX_12_117 rfl tX_12_0 n62 s62 (by rfl) ?_
      have z0 := m_go0 hq hr hv84
      generalize x_up D 62 (x_u1 (D 62) 0 0) = d0 at z0 ⊢
      obtain ⟨q0, t0, ms0, r0, v0⟩ := z0
      refine x_aload_n dX12_count_5 x_get_2_0 ?_
      refine x_iload_n dX12_count_6 x_get_2_1 ?_
      refine x_iconst dX12_count_7 ?_
      refine x_bipush dX12_count_8 rfl ?_
      refine x_callS (As := [_, _, _]) dX12_count_10 w_12_346 (m_withinT hl ⟨by decide, by decide⟩ ⟨by decide, by decide⟩ ⟨by decide, by decide⟩ ⟨by decide, by decide⟩) rfl rfl (Nat.le_of_ble_eq_true rfl) (Nat.le_of_ble_eq_true rfl) (Nat.le_of_ble_eq_true rfl) (Nat.le_of_ble_eq_true rfl) (Nat.le_of_ble_eq_true rfl) ?_
      intro dz hdz
      obtain rfl := Eq.symm hdz
      refine x_iconst dX12_count_13 ?_
      refine x_callV (As := [_, _]) dX12_count_14 w_12_274 (m_rightT hl hM t0) (by assumption) (by assumption) rfl rfl (Nat.le_of_ble_eq_true rfl) (Nat.le_of_ble_eq_true rfl) (Nat.le_of_ble_eq_true rfl) (Nat.le_of_ble_eq_true rfl) (Nat.le_of_ble_eq_true rfl) ?_
      intro dz hdz
      obtain rfl := Eq.symm hdz
      refine r_if_ne (t := 22) dX12_count_17 rfl ⟨by omega, by omega⟩ (fun hc17 => ?_) (fun hc17 => absurd hc17 (by omega))
      refine x_iload_n dX12_count_22 x_get_2_1 ?_
      refine x_tswIn (t := 103) dX12_count_23 (by decide) (by decide) rfl rfl ?_
      have e0 : d0 82 0 = f 0 := mr_0 r0 rfl
      have k1 : d0 62 1 = T := q0.2.1
      have k2 : d0 62 2 = W := q0.2.2.2.1
      have k3 : d0 62 3 = C := q0.2.2.2.2.2.1
      have k44 : d0 62 44 = D 62 44 := ms0.2.1 44 (by decide) (by decide) (by decide)
      have k52 : d0 62 52 = D 62 52 := ms0.2.1 52 (by decide) (by decide) (by decide)
      have k13 : d0 62 13 = D 62 13 := ms0.2.1 13 (by decide) (by decide) (by decide)
      have k71 : d0 71 = D 71 := ms0.1 71 (by decide) (by decide) (by decide) (by decide) (by decide)
      refine x_aload_n dX12_count_103 x_get_2_0 ?_
      refine x_getR dX12_count_104 fX_12_75 n62 s62 (by rfl) ?_
      refine x_iconst dX12_count_107 ?_
      refine x_iald dX12_count_108 n82 s82 (by omega) (by omega) (by decide) ?_
      try simp (disch := decide) only [x_up_s, x_up_n, x_up_up, x_u1_s, x_u1_n, e0, k1, k2, k3, k44, k52, k13, k71]
      exact x_iret dX12_count_109 rfl (Nat.le_of_ble_eq_true rfl) (Nat.le_of_ble_eq_true rfl) rfl rfl rfl ⟨ms0, t0⟩ rfl
    · show x_M X l yX12_count cX12_count 2 (some .int) 4 0 0 [.ref (x_b X + 62), .int (xI 4)] false N sh D (m_r (o_i (x_sum (fun i => f (1 + i)) T))) false N sh (fun d => ms D d ∧ d 62 0 = m_k 1 (o_i (x_sum (fun i => f (1 + i)) T)))
      rw [m_r_i, m_k_i]
      refine x_ofW (by decide +kernel) hl (by simp [Value.category]) (by simp) ?_
      refine x_aload_n dX12_count_0 x_get_2_0 ?_
      refine x_iconst dX12_count_1 ?_
      refine x_putI 0 dX12_count_2 fX_12_117 rfl tX_12_0 n62 s62 (by rfl) ?_
      have z0 := m_go0 hq hr hv84
      generalize x_up D 62 (x_u1 (D 62) 0 0) = d0 at z0 ⊢
      obtain ⟨q0, t0, ms0, r0, v0⟩ := z0
      refine x_aload_n dX12_count_5 x_get_2_0 ?_
      refine x_iload_n dX12_count_6 x_get_2_1 ?_
      refine x_iconst dX12_count_7 ?_
      refine x_bipush dX12_count_8 rfl ?_
      refine x_callS (As := [_, _, _]) dX12_count_10 w_12_346 (m_withinT hl ⟨by decide, by decide⟩ ⟨by decide, by decide⟩ ⟨by decide, by decide⟩ ⟨by decide, by decide⟩) rfl rfl (Nat.le_of_ble_eq_true rfl) (Nat.le_of_ble_eq_true rfl) (Nat.le_of_ble_eq_true rfl) (Nat.le_of_ble_eq_true rfl) (Nat.le_of_ble_eq_true rfl) ?_
      intro dz hdz
      obtain rfl := Eq.symm hdz
      refine x_iconst dX12_count_13 ?_
      refine x_callV (As := [_, _]) dX12_count_14 w_12_274 (m_rightT hl hM t0) (by assumption) (by assumption) rfl rfl (Nat.le_of_ble_eq_true rfl) (Nat.le_of_ble_eq_true rfl) (Nat.le_of_ble_eq_true rfl) (Nat.le_of_ble_eq_true rfl) (Nat.le_of_ble_eq_true rfl) ?_
      intro dz hdz
      obtain rfl := Eq.symm hdz
      refine r_if_ne (t := 22) dX12_count_17 rfl ⟨by omega, by omega⟩ (fun hc17 => ?_) (fun hc17 => absurd hc17 (by omega))
      refine x_iload_n dX12_count_22 x_get_2_1 ?_
      refine x_tswIn (t := 110) dX12_count_23 (by decide) (by decide) rfl rfl ?_
      have e0 : d0 82 0 = f 0 := mr_0 r0 rfl
      have k1 : d0 62 1 = T := q0.2.1
      have k2 : d0 62 2 = W := q0.2.2.2.1
      have k3 : d0 62 3 = C := q0.2.2.2.2.2.1
      have k44 : d0 62 44 = D 62 44 := ms0.2.1 44 (by decide) (by decide) (by decide)
      have k52 : d0 62 52 = D 62 52 := ms0.2.1 52 (by decide) (by decide) (by decide)
      have k13 : d0 62 13 = D 62 13 := ms0.2.1 13 (by decide) (by decide) (by decide)
      have k71 : d0 71 = D 71 := ms0.1 71 (by decide) (by decide) (by decide) (by decide) (by decide)
      refine x_aload_n dX12_count_110 x_get_2_0 ?_
      refine x_iconst dX12_count_111 ?_
      refine x_callV (As := [_]) dX12_count_112 w_12_350 (m_allOf hl q0 hk (by omega) (Or.inl rfl) r0 (k := 1) rfl (by decide)) (by assumption) (by assumption) rfl rfl (Nat.le_of_ble_eq_true rfl) (Nat.le_of_ble_eq_true rfl) (Nat.le_of_ble_eq_true rfl) (Nat.le_of_ble_eq_true rfl) (Nat.le_of_ble_eq_true rfl) ?_
      intro dz hdz
      obtain rfl := Eq.symm hdz
      exact x_iret dX12_count_115 rfl (Nat.le_of_ble_eq_true rfl) (Nat.le_of_ble_eq_true rfl) rfl rfl rfl ⟨ms0, t0⟩ rfl
    · show x_M X l yX12_count cX12_count 2 (some .int) 4 0 0 [.ref (x_b X + 62), .int (xI 5)] false N sh D (m_r (o_i (x_sum (fun i => f (9 + i)) T))) false N sh (fun d => ms D d ∧ d 62 0 = m_k 1 (o_i (x_sum (fun i => f (9 + i)) T)))
      rw [m_r_i, m_k_i]
      refine x_ofW (by decide +kernel) hl (by simp [Value.category]) (by simp) ?_
      refine x_aload_n dX12_count_0 x_get_2_0 ?_
      refine x_iconst dX12_count_1 ?_
      refine x_putI 0 dX12_count_2 fX_12_117 rfl tX_12_0 n62 s62 (by rfl) ?_
      have z0 := m_go0 hq hr hv84
      generalize x_up D 62 (x_u1 (D 62) 0 0) = d0 at z0 ⊢
      obtain ⟨q0, t0, ms0, r0, v0⟩ := z0
      refine x_aload_n dX12_count_5 x_get_2_0 ?_
      refine x_iload_n dX12_count_6 x_get_2_1 ?_
      refine x_iconst dX12_count_7 ?_
      refine x_bipush dX12_count_8 rfl ?_
      refine x_callS (As := [_, _, _]) dX12_count_10 w_12_346 (m_withinT hl ⟨by decide, by decide⟩ ⟨by decide, by decide⟩ ⟨by decide, by decide⟩ ⟨by decide, by decide⟩) rfl rfl (Nat.le_of_ble_eq_true rfl) (Nat.le_of_ble_eq_true rfl) (Nat.le_of_ble_eq_true rfl) (Nat.le_of_ble_eq_true rfl) (Nat.le_of_ble_eq_true rfl) ?_
      intro dz hdz
      obtain rfl := Eq.symm hdz
      refine x_iconst dX12_count_13 ?_
      refine x_callV (As := [_, _]) dX12_count_14 w_12_274 (m_rightT hl hM t0) (by assumption) (by assumption) rfl rfl (Nat.le_of_ble_eq_true rfl) (Nat.le_of_ble_eq_true rfl) (Nat.le_of_ble_eq_true rfl) (Nat.le_of_ble_eq_true rfl) (Nat.le_of_ble_eq_true rfl) ?_
      intro dz hdz
      obtain rfl := Eq.symm hdz
      refine r_if_ne (t := 22) dX12_count_17 rfl ⟨by omega, by omega⟩ (fun hc17 => ?_) (fun hc17 => absurd hc17 (by omega))
      refine x_iload_n dX12_count_22 x_get_2_1 ?_
      refine x_tswIn (t := 116) dX12_count_23 (by decide) (by decide) rfl rfl ?_
      have e0 : d0 82 0 = f 0 := mr_0 r0 rfl
      have k1 : d0 62 1 = T := q0.2.1
      have k2 : d0 62 2 = W := q0.2.2.2.1
      have k3 : d0 62 3 = C := q0.2.2.2.2.2.1
      have k44 : d0 62 44 = D 62 44 := ms0.2.1 44 (by decide) (by decide) (by decide)
      have k52 : d0 62 52 = D 62 52 := ms0.2.1 52 (by decide) (by decide) (by decide)
      have k13 : d0 62 13 = D 62 13 := ms0.2.1 13 (by decide) (by decide) (by decide)
      have k71 : d0 71 = D 71 := ms0.1 71 (by decide) (by decide) (by decide) (by decide) (by decide)
      refine x_aload_n dX12_count_116 x_get_2_0 ?_
      refine x_bipush dX12_count_117 rfl ?_
      refine x_callV (As := [_]) dX12_count_119 w_12_350 (m_allOf hl q0 hk (by omega) (Or.inl rfl) r0 (k := 9) rfl (by decide)) (by assumption) (by assumption) rfl rfl (Nat.le_of_ble_eq_true rfl) (Nat.le_of_ble_eq_true rfl) (Nat.le_of_ble_eq_true rfl) (Nat.le_of_ble_eq_true rfl) (Nat.le_of_ble_eq_true rfl) ?_
      intro dz hdz
      obtain rfl := Eq.symm hdz
      exact x_iret dX12_count_122 rfl (Nat.le_of_ble_eq_true rfl) (Nat.le_of_ble_eq_true rfl) rfl rfl rfl ⟨ms0, t0⟩ rfl
    · show x_M X l yX12_count cX12_count 2 (some .int) 4 0 0 [.ref (x_b X + 62), .int (xI 6)] false N sh D (m_r (o_i (x_sum (fun i => f (17 + i)) T))) false N sh (fun d => ms D d ∧ d 62 0 = m_k 1 (o_i (x_sum (fun i => f (17 + i)) T)))
      rw [m_r_i, m_k_i]
      refine x_ofW (by decide +kernel) hl (by simp [Value.category]) (by simp) ?_
      refine x_aload_n dX12_count_0 x_get_2_0 ?_
      refine x_iconst dX12_count_1 ?_
      refine x_putI 0 dX12_count_2 fX_12_117 rfl tX_12_0 n62 s62 (by rfl) ?_
      have z0 := m_go0 hq hr hv84
      generalize x_up D 62 (x_u1 (D 62) 0 0) = d0 at z0 ⊢
      obtain ⟨q0, t0, ms0, r0, v0⟩ := z0
      refine x_aload_n dX12_count_5 x_get_2_0 ?_
      refine x_iload_n dX12_count_6 x_get_2_1 ?_
      refine x_iconst dX12_count_7 ?_
      refine x_bipush dX12_count_8 rfl ?_
      refine x_callS (As := [_, _, _]) dX12_count_10 w_12_346 (m_withinT hl ⟨by decide, by decide⟩ ⟨by decide, by decide⟩ ⟨by decide, by decide⟩ ⟨by decide, by decide⟩) rfl rfl (Nat.le_of_ble_eq_true rfl) (Nat.le_of_ble_eq_true rfl) (Nat.le_of_ble_eq_true rfl) (Nat.le_of_ble_eq_true rfl) (Nat.le_of_ble_eq_true rfl) ?_
      intro dz hdz
      obtain rfl := Eq.symm hdz
      refine x_iconst dX12_count_13 ?_
      refine x_callV (As := [_, _]) dX12_count_14 w_12_274 (m_rightT hl hM t0) (by assumption) (by assumption) rfl rfl (Nat.le_of_ble_eq_true rfl) (Nat.le_of_ble_eq_true rfl) (Nat.le_of_ble_eq_true rfl) (Nat.le_of_ble_eq_true rfl) (Nat.le_of_ble_eq_true rfl) ?_
      intro dz hdz
      obtain rfl := Eq.symm hdz
      refine r_if_ne (t := 22) dX12_count_17 rfl ⟨by omega, by omega⟩ (fun hc17 => ?_) (fun hc17 => absurd hc17 (by omega))
      refine x_iload_n dX12_count_22 x_get_2_1 ?_
      refine x_tswIn (t := 123) dX12_count_23 (by decide) (by decide) rfl rfl ?_
      have e0 : d0 82 0 = f 0 := mr_0 r0 rfl
      have k1 : d0 62 1 = T := q0.2.1
      have k2 : d0 62 2 = W := q0.2.2.2.1
      have k3 : d0 62 3 = C := q0.2.2.2.2.2.1
      have k44 : d0 62 44 = D 62 44 := ms0.2.1 44 (by decide) (by decide) (by decide)
      have k52 : d0 62 52 = D 62 52 := ms0.2.1 52 (by decide) (by decide) (by decide)
      have k13 : d0 62 13 = D 62 13 := ms0.2.1 13 (by decide) (by decide) (by decide)
      have k71 : d0 71 = D 71 := ms0.1 71 (by decide) (by decide) (by decide) (by decide) (by decide)
      refine x_aload_n dX12_count_123 x_get_2_0 ?_
      refine x_bipush dX12_count_124 rfl ?_
      refine x_callV (As := [_]) dX12_count_126 w_12_350 (m_allOf hl q0 hk (by omega) (Or.inl rfl) r0 (k := 17) rfl (by decide)) (by assumption) (by assumption) rfl rfl (Nat.le_of_ble_eq_true rfl) (Nat.le_of_ble_eq_true rfl) (Nat.le_of_ble_eq_true rfl) (Nat.le_of_ble_eq_true rfl) (Nat.le_of_ble_eq_true rfl) ?_
      intro dz hdz
      obtain rfl := Eq.symm hdz
      exact x_iret dX12_count_129 rfl (Nat.le_of_ble_eq_true rfl) (Nat.le_of_ble_eq_true rfl) rfl rfl rfl ⟨ms0, t0⟩ rfl
    · show x_M X l yX12_count cX12_count 2 (some .int) 4 0 0 [.ref (x_b X + 62), .int (xI 7)] false N sh D (m_r (o_i (((s_bits (fun c => s_lies f c) C : Nat) : Int)))) false N sh (fun d => ms D d ∧ d 62 0 = m_k 1 (o_i (((s_bits (fun c => s_lies f c) C : Nat) : Int))))
      rw [m_r_i, m_k_i]
      refine x_ofW (by decide +kernel) hl (by simp [Value.category]) (by simp) ?_
      refine x_aload_n dX12_count_0 x_get_2_0 ?_
      refine x_iconst dX12_count_1 ?_
      refine x_putI 0 dX12_count_2 fX_12_117 rfl tX_12_0 n62 s62 (by rfl) ?_
      have z0 := m_go0 hq hr hv84
      generalize x_up D 62 (x_u1 (D 62) 0 0) = d0 at z0 ⊢
      obtain ⟨q0, t0, ms0, r0, v0⟩ := z0
      refine x_aload_n dX12_count_5 x_get_2_0 ?_
      refine x_iload_n dX12_count_6 x_get_2_1 ?_
      refine x_iconst dX12_count_7 ?_
      refine x_bipush dX12_count_8 rfl ?_
      refine x_callS (As := [_, _, _]) dX12_count_10 w_12_346 (m_withinT hl ⟨by decide, by decide⟩ ⟨by decide, by decide⟩ ⟨by decide, by decide⟩ ⟨by decide, by decide⟩) rfl rfl (Nat.le_of_ble_eq_true rfl) (Nat.le_of_ble_eq_true rfl) (Nat.le_of_ble_eq_true rfl) (Nat.le_of_ble_eq_true rfl) (Nat.le_of_ble_eq_true rfl) ?_
      intro dz hdz
      obtain rfl := Eq.symm hdz
      refine x_iconst dX12_count_13 ?_
      refine x_callV (As := [_, _]) dX12_count_14 w_12_274 (m_rightT hl hM t0) (by assumption) (by assumption) rfl rfl (Nat.le_of_ble_eq_true rfl) (Nat.le_of_ble_eq_true rfl) (Nat.le_of_ble_eq_true rfl) (Nat.le_of_ble_eq_true rfl) (Nat.le_of_ble_eq_true rfl) ?_
      intro dz hdz
      obtain rfl := Eq.symm hdz
      refine r_if_ne (t := 22) dX12_count_17 rfl ⟨by omega, by omega⟩ (fun hc17 => ?_) (fun hc17 => absurd hc17 (by omega))
      refine x_iload_n dX12_count_22 x_get_2_1 ?_
      refine x_tswIn (t := 130) dX12_count_23 (by decide) (by decide) rfl rfl ?_
      have e0 : d0 82 0 = f 0 := mr_0 r0 rfl
      have k1 : d0 62 1 = T := q0.2.1
      have k2 : d0 62 2 = W := q0.2.2.2.1
      have k3 : d0 62 3 = C := q0.2.2.2.2.2.1
      have k44 : d0 62 44 = D 62 44 := ms0.2.1 44 (by decide) (by decide) (by decide)
      have k52 : d0 62 52 = D 62 52 := ms0.2.1 52 (by decide) (by decide) (by decide)
      have k13 : d0 62 13 = D 62 13 := ms0.2.1 13 (by decide) (by decide) (by decide)
      have k71 : d0 71 = D 71 := ms0.1 71 (by decide) (by decide) (by decide) (by decide) (by decide)
      refine x_aload_n dX12_count_130 x_get_2_0 ?_
      refine x_callV (As := []) dX12_count_131 w_12_353 (m_lyingAll hl q0 hk (by omega) r0) (by assumption) (by assumption) rfl rfl (Nat.le_of_ble_eq_true rfl) (Nat.le_of_ble_eq_true rfl) (Nat.le_of_ble_eq_true rfl) (Nat.le_of_ble_eq_true rfl) (Nat.le_of_ble_eq_true rfl) ?_
      intro dz hdz
      obtain rfl := Eq.symm hdz
      exact x_iret dX12_count_134 rfl (Nat.le_of_ble_eq_true rfl) (Nat.le_of_ble_eq_true rfl) rfl rfl rfl ⟨ms0, t0⟩ rfl
    · show x_M X l yX12_count cX12_count 2 (some .int) 4 0 0 [.ref (x_b X + 62), .int (xI 8)] false N sh D (m_r (o_i (((s_bits (fun c => s_mov f c) C : Nat) : Int)))) false N sh (fun d => ms D d ∧ d 62 0 = m_k 1 (o_i (((s_bits (fun c => s_mov f c) C : Nat) : Int))))
      rw [m_r_i, m_k_i]
      refine x_ofW (by decide +kernel) hl (by simp [Value.category]) (by simp) ?_
      refine x_aload_n dX12_count_0 x_get_2_0 ?_
      refine x_iconst dX12_count_1 ?_
      refine x_putI 0 dX12_count_2 fX_12_117 rfl tX_12_0 n62 s62 (by rfl) ?_
      have z0 := m_go0 hq hr hv84
      generalize x_up D 62 (x_u1 (D 62) 0 0) = d0 at z0 ⊢
      obtain ⟨q0, t0, ms0, r0, v0⟩ := z0
      refine x_aload_n dX12_count_5 x_get_2_0 ?_
      refine x_iload_n dX12_count_6 x_get_2_1 ?_
      refine x_iconst dX12_count_7 ?_
      refine x_bipush dX12_count_8 rfl ?_
      refine x_callS (As := [_, _, _]) dX12_count_10 w_12_346 (m_withinT hl ⟨by decide, by decide⟩ ⟨by decide, by decide⟩ ⟨by decide, by decide⟩ ⟨by decide, by decide⟩) rfl rfl (Nat.le_of_ble_eq_true rfl) (Nat.le_of_ble_eq_true rfl) (Nat.le_of_ble_eq_true rfl) (Nat.le_of_ble_eq_true rfl) (Nat.le_of_ble_eq_true rfl) ?_
      intro dz hdz
      obtain rfl := Eq.symm hdz
      refine x_iconst dX12_count_13 ?_
      refine x_callV (As := [_, _]) dX12_count_14 w_12_274 (m_rightT hl hM t0) (by assumption) (by assumption) rfl rfl (Nat.le_of_ble_eq_true rfl) (Nat.le_of_ble_eq_true rfl) (Nat.le_of_ble_eq_true rfl) (Nat.le_of_ble_eq_true rfl) (Nat.le_of_ble_eq_true rfl) ?_
      intro dz hdz
      obtain rfl := Eq.symm hdz
      refine r_if_ne (t := 22) dX12_count_17 rfl ⟨by omega, by omega⟩ (fun hc17 => ?_) (fun hc17 => absurd hc17 (by omega))
      refine x_iload_n dX12_count_22 x_get_2_1 ?_
      refine x_tswIn (t := 135) dX12_count_23 (by decide) (by decide) rfl rfl ?_
      have e0 : d0 82 0 = f 0 := mr_0 r0 rfl
      have k1 : d0 62 1 = T := q0.2.1
      have k2 : d0 62 2 = W := q0.2.2.2.1
      have k3 : d0 62 3 = C := q0.2.2.2.2.2.1
      have k44 : d0 62 44 = D 62 44 := ms0.2.1 44 (by decide) (by decide) (by decide)
      have k52 : d0 62 52 = D 62 52 := ms0.2.1 52 (by decide) (by decide) (by decide)
      have k13 : d0 62 13 = D 62 13 := ms0.2.1 13 (by decide) (by decide) (by decide)
      have k71 : d0 71 = D 71 := ms0.1 71 (by decide) (by decide) (by decide) (by decide) (by decide)
      refine x_aload_n dX12_count_135 x_get_2_0 ?_
      refine x_callV (As := []) dX12_count_136 w_12_356 (m_goingAll hl q0 hk (by omega) r0) (by assumption) (by assumption) rfl rfl (Nat.le_of_ble_eq_true rfl) (Nat.le_of_ble_eq_true rfl) (Nat.le_of_ble_eq_true rfl) (Nat.le_of_ble_eq_true rfl) (Nat.le_of_ble_eq_true rfl) ?_
      intro dz hdz
      obtain rfl := Eq.symm hdz
      exact x_iret dX12_count_139 rfl (Nat.le_of_ble_eq_true rfl) (Nat.le_of_ble_eq_true rfl) rfl rfl rfl ⟨ms0, t0⟩ rfl
    · show x_M X l yX12_count cX12_count 2 (some .int) 4 0 0 [.ref (x_b X + 62), .int (xI 9)] false N sh D (m_r (o_i (((s_bits (fun c => s_gone f c) C : Nat) : Int)))) false N sh (fun d => ms D d ∧ d 62 0 = m_k 1 (o_i (((s_bits (fun c => s_gone f c) C : Nat) : Int))))
      rw [m_r_i, m_k_i]
      refine x_ofW (by decide +kernel) hl (by simp [Value.category]) (by simp) ?_
      refine x_aload_n dX12_count_0 x_get_2_0 ?_
      refine x_iconst dX12_count_1 ?_
      refine x_putI 0 dX12_count_2 fX_12_117 rfl tX_12_0 n62 s62 (by rfl) ?_
      have z0 := m_go0 hq hr hv84
      generalize x_up D 62 (x_u1 (D 62) 0 0) = d0 at z0 ⊢
      obtain ⟨q0, t0, ms0, r0, v0⟩ := z0
      refine x_aload_n dX12_count_5 x_get_2_0 ?_
      refine x_iload_n dX12_count_6 x_get_2_1 ?_
      refine x_iconst dX12_count_7 ?_
      refine x_bipush dX12_count_8 rfl ?_
      refine x_callS (As := [_, _, _]) dX12_count_10 w_12_346 (m_withinT hl ⟨by decide, by decide⟩ ⟨by decide, by decide⟩ ⟨by decide, by decide⟩ ⟨by decide, by decide⟩) rfl rfl (Nat.le_of_ble_eq_true rfl) (Nat.le_of_ble_eq_true rfl) (Nat.le_of_ble_eq_true rfl) (Nat.le_of_ble_eq_true rfl) (Nat.le_of_ble_eq_true rfl) ?_
      intro dz hdz
      obtain rfl := Eq.symm hdz
      refine x_iconst dX12_count_13 ?_
      refine x_callV (As := [_, _]) dX12_count_14 w_12_274 (m_rightT hl hM t0) (by assumption) (by assumption) rfl rfl (Nat.le_of_ble_eq_true rfl) (Nat.le_of_ble_eq_true rfl) (Nat.le_of_ble_eq_true rfl) (Nat.le_of_ble_eq_true rfl) (Nat.le_of_ble_eq_true rfl) ?_
      intro dz hdz
      obtain rfl := Eq.symm hdz
      refine r_if_ne (t := 22) dX12_count_17 rfl ⟨by omega, by omega⟩ (fun hc17 => ?_) (fun hc17 => absurd hc17 (by omega))
      refine x_iload_n dX12_count_22 x_get_2_1 ?_
      refine x_tswIn (t := 140) dX12_count_23 (by decide) (by decide) rfl rfl ?_
      have e0 : d0 82 0 = f 0 := mr_0 r0 rfl
      have k1 : d0 62 1 = T := q0.2.1
      have k2 : d0 62 2 = W := q0.2.2.2.1
      have k3 : d0 62 3 = C := q0.2.2.2.2.2.1
      have k44 : d0 62 44 = D 62 44 := ms0.2.1 44 (by decide) (by decide) (by decide)
      have k52 : d0 62 52 = D 62 52 := ms0.2.1 52 (by decide) (by decide) (by decide)
      have k13 : d0 62 13 = D 62 13 := ms0.2.1 13 (by decide) (by decide) (by decide)
      have k71 : d0 71 = D 71 := ms0.1 71 (by decide) (by decide) (by decide) (by decide) (by decide)
      refine x_aload_n dX12_count_140 x_get_2_0 ?_
      refine x_iconst dX12_count_141 ?_
      refine x_callV (As := [_]) dX12_count_142 w_12_359 (m_goneIn hl q0 hk (by omega) (Or.inl rfl) r0) (by assumption) (by assumption) rfl rfl (Nat.le_of_ble_eq_true rfl) (Nat.le_of_ble_eq_true rfl) (Nat.le_of_ble_eq_true rfl) (Nat.le_of_ble_eq_true rfl) (Nat.le_of_ble_eq_true rfl) ?_
      intro dz hdz
      obtain rfl := Eq.symm hdz
      exact x_iret dX12_count_145 rfl (Nat.le_of_ble_eq_true rfl) (Nat.le_of_ble_eq_true rfl) rfl rfl rfl ⟨ms0, t0⟩ rfl
    · show x_M X l yX12_count cX12_count 2 (some .int) 4 0 0 [.ref (x_b X + 62), .int (xI 10)] false N sh D (m_r (o_i (D 62 44))) false N sh (fun d => ms D d ∧ d 62 0 = m_k 1 (o_i (D 62 44)))
      rw [m_r_i, m_k_i]
      refine x_ofW (by decide +kernel) hl (by simp [Value.category]) (by simp) ?_
      refine x_aload_n dX12_count_0 x_get_2_0 ?_
      refine x_iconst dX12_count_1 ?_
      refine x_putI 0 dX12_count_2 fX_12_117 rfl tX_12_0 n62 s62 (by rfl) ?_
      have z0 := m_go0 hq hr hv84
      generalize x_up D 62 (x_u1 (D 62) 0 0) = d0 at z0 ⊢
      obtain ⟨q0, t0, ms0, r0, v0⟩ := z0
      refine x_aload_n dX12_count_5 x_get_2_0 ?_
      refine x_iload_n dX12_count_6 x_get_2_1 ?_
      refine x_iconst dX12_count_7 ?_
      refine x_bipush dX12_count_8 rfl ?_
      refine x_callS (As := [_, _, _]) dX12_count_10 w_12_346 (m_withinT hl ⟨by decide, by decide⟩ ⟨by decide, by decide⟩ ⟨by decide, by decide⟩ ⟨by decide, by decide⟩) rfl rfl (Nat.le_of_ble_eq_true rfl) (Nat.le_of_ble_eq_true rfl) (Nat.le_of_ble_eq_true rfl) (Nat.le_of_ble_eq_true rfl) (Nat.le_of_ble_eq_true rfl) ?_
      intro dz hdz
      obtain rfl := Eq.symm hdz
      refine x_iconst dX12_count_13 ?_
      refine x_callV (As := [_, _]) dX12_count_14 w_12_274 (m_rightT hl hM t0) (by assumption) (by assumption) rfl rfl (Nat.le_of_ble_eq_true rfl) (Nat.le_of_ble_eq_true rfl) (Nat.le_of_ble_eq_true rfl) (Nat.le_of_ble_eq_true rfl) (Nat.le_of_ble_eq_true rfl) ?_
      intro dz hdz
      obtain rfl := Eq.symm hdz
      refine r_if_ne (t := 22) dX12_count_17 rfl ⟨by omega, by omega⟩ (fun hc17 => ?_) (fun hc17 => absurd hc17 (by omega))
      refine x_iload_n dX12_count_22 x_get_2_1 ?_
      refine x_tswIn (t := 146) dX12_count_23 (by decide) (by decide) rfl rfl ?_
      have e0 : d0 82 0 = f 0 := mr_0 r0 rfl
      have k1 : d0 62 1 = T := q0.2.1
      have k2 : d0 62 2 = W := q0.2.2.2.1
      have k3 : d0 62 3 = C := q0.2.2.2.2.2.1
      have k44 : d0 62 44 = D 62 44 := ms0.2.1 44 (by decide) (by decide) (by decide)
      have k52 : d0 62 52 = D 62 52 := ms0.2.1 52 (by decide) (by decide) (by decide)
      have k13 : d0 62 13 = D 62 13 := ms0.2.1 13 (by decide) (by decide) (by decide)
      have k71 : d0 71 = D 71 := ms0.1 71 (by decide) (by decide) (by decide) (by decide) (by decide)
      refine x_aload_n dX12_count_146 x_get_2_0 ?_
      refine x_getI 44 dX12_count_147 fX_12_294 rfl n62 s62 (by rfl) ?_
      try simp (disch := decide) only [x_up_s, x_up_n, x_up_up, x_u1_s, x_u1_n, e0, k1, k2, k3, k44, k52, k13, k71]
      exact x_iret dX12_count_150 rfl (Nat.le_of_ble_eq_true rfl) (Nat.le_of_ble_eq_true rfl) rfl rfl rfl ⟨ms0, t0⟩ rfl
    · show x_M X l yX12_count cX12_count 2 (some .int) 4 0 0 [.ref (x_b X + 62), .int (xI 11)] false N sh D (m_r (o_i (D 62 52))) false N sh (fun d => ms D d ∧ d 62 0 = m_k 1 (o_i (D 62 52)))
      rw [m_r_i, m_k_i]
      refine x_ofW (by decide +kernel) hl (by simp [Value.category]) (by simp) ?_
      refine x_aload_n dX12_count_0 x_get_2_0 ?_
      refine x_iconst dX12_count_1 ?_
      refine x_putI 0 dX12_count_2 fX_12_117 rfl tX_12_0 n62 s62 (by rfl) ?_
      have z0 := m_go0 hq hr hv84
      generalize x_up D 62 (x_u1 (D 62) 0 0) = d0 at z0 ⊢
      obtain ⟨q0, t0, ms0, r0, v0⟩ := z0
      refine x_aload_n dX12_count_5 x_get_2_0 ?_
      refine x_iload_n dX12_count_6 x_get_2_1 ?_
      refine x_iconst dX12_count_7 ?_
      refine x_bipush dX12_count_8 rfl ?_
      refine x_callS (As := [_, _, _]) dX12_count_10 w_12_346 (m_withinT hl ⟨by decide, by decide⟩ ⟨by decide, by decide⟩ ⟨by decide, by decide⟩ ⟨by decide, by decide⟩) rfl rfl (Nat.le_of_ble_eq_true rfl) (Nat.le_of_ble_eq_true rfl) (Nat.le_of_ble_eq_true rfl) (Nat.le_of_ble_eq_true rfl) (Nat.le_of_ble_eq_true rfl) ?_
      intro dz hdz
      obtain rfl := Eq.symm hdz
      refine x_iconst dX12_count_13 ?_
      refine x_callV (As := [_, _]) dX12_count_14 w_12_274 (m_rightT hl hM t0) (by assumption) (by assumption) rfl rfl (Nat.le_of_ble_eq_true rfl) (Nat.le_of_ble_eq_true rfl) (Nat.le_of_ble_eq_true rfl) (Nat.le_of_ble_eq_true rfl) (Nat.le_of_ble_eq_true rfl) ?_
      intro dz hdz
      obtain rfl := Eq.symm hdz
      refine r_if_ne (t := 22) dX12_count_17 rfl ⟨by omega, by omega⟩ (fun hc17 => ?_) (fun hc17 => absurd hc17 (by omega))
      refine x_iload_n dX12_count_22 x_get_2_1 ?_
      refine x_tswIn (t := 151) dX12_count_23 (by decide) (by decide) rfl rfl ?_
      have e0 : d0 82 0 = f 0 := mr_0 r0 rfl
      have k1 : d0 62 1 = T := q0.2.1
      have k2 : d0 62 2 = W := q0.2.2.2.1
      have k3 : d0 62 3 = C := q0.2.2.2.2.2.1
      have k44 : d0 62 44 = D 62 44 := ms0.2.1 44 (by decide) (by decide) (by decide)
      have k52 : d0 62 52 = D 62 52 := ms0.2.1 52 (by decide) (by decide) (by decide)
      have k13 : d0 62 13 = D 62 13 := ms0.2.1 13 (by decide) (by decide) (by decide)
      have k71 : d0 71 = D 71 := ms0.1 71 (by decide) (by decide) (by decide) (by decide) (by decide)
      refine x_aload_n dX12_count_151 x_get_2_0 ?_
      refine x_getI 52 dX12_count_152 fX_12_297 rfl n62 s62 (by rfl) ?_
      try simp (disch := decide) only [x_up_s, x_up_n, x_up_up, x_u1_s, x_u1_n, e0, k1, k2, k3, k44, k52, k13, k71]
      exact x_iret dX12_count_155 rfl (Nat.le_of_ble_eq_true rfl) (Nat.le_of_ble_eq_true rfl) rfl rfl rfl ⟨ms0, t0⟩ rfl
    · show x_M X l yX12_count cX12_count 2 (some .int) 4 0 0 [.ref (x_b X + 62), .int (xI 12)] false N sh D (m_r (o_i (D 62 13))) false N sh (fun d => ms D d ∧ d 62 0 = m_k 1 (o_i (D 62 13)))
      rw [m_r_i, m_k_i]
      refine x_ofW (by decide +kernel) hl (by simp [Value.category]) (by simp) ?_
      refine x_aload_n dX12_count_0 x_get_2_0 ?_
      refine x_iconst dX12_count_1 ?_
      refine x_putI 0 dX12_count_2 fX_12_117 rfl tX_12_0 n62 s62 (by rfl) ?_
      have z0 := m_go0 hq hr hv84
      generalize x_up D 62 (x_u1 (D 62) 0 0) = d0 at z0 ⊢
      obtain ⟨q0, t0, ms0, r0, v0⟩ := z0
      refine x_aload_n dX12_count_5 x_get_2_0 ?_
      refine x_iload_n dX12_count_6 x_get_2_1 ?_
      refine x_iconst dX12_count_7 ?_
      refine x_bipush dX12_count_8 rfl ?_
      refine x_callS (As := [_, _, _]) dX12_count_10 w_12_346 (m_withinT hl ⟨by decide, by decide⟩ ⟨by decide, by decide⟩ ⟨by decide, by decide⟩ ⟨by decide, by decide⟩) rfl rfl (Nat.le_of_ble_eq_true rfl) (Nat.le_of_ble_eq_true rfl) (Nat.le_of_ble_eq_true rfl) (Nat.le_of_ble_eq_true rfl) (Nat.le_of_ble_eq_true rfl) ?_
      intro dz hdz
      obtain rfl := Eq.symm hdz
      refine x_iconst dX12_count_13 ?_
      refine x_callV (As := [_, _]) dX12_count_14 w_12_274 (m_rightT hl hM t0) (by assumption) (by assumption) rfl rfl (Nat.le_of_ble_eq_true rfl) (Nat.le_of_ble_eq_true rfl) (Nat.le_of_ble_eq_true rfl) (Nat.le_of_ble_eq_true rfl) (Nat.le_of_ble_eq_true rfl) ?_
      intro dz hdz
      obtain rfl := Eq.symm hdz
      refine r_if_ne (t := 22) dX12_count_17 rfl ⟨by omega, by omega⟩ (fun hc17 => ?_) (fun hc17 => absurd hc17 (by omega))
      refine x_iload_n dX12_count_22 x_get_2_1 ?_
      refine x_tswIn (t := 156) dX12_count_23 (by decide) (by decide) rfl rfl ?_
      have e0 : d0 82 0 = f 0 := mr_0 r0 rfl
      have k1 : d0 62 1 = T := q0.2.1
      have k2 : d0 62 2 = W := q0.2.2.2.1
      have k3 : d0 62 3 = C := q0.2.2.2.2.2.1
      have k44 : d0 62 44 = D 62 44 := ms0.2.1 44 (by decide) (by decide) (by decide)
      have k52 : d0 62 52 = D 62 52 := ms0.2.1 52 (by decide) (by decide) (by decide)
      have k13 : d0 62 13 = D 62 13 := ms0.2.1 13 (by decide) (by decide) (by decide)
      have k71 : d0 71 = D 71 := ms0.1 71 (by decide) (by decide) (by decide) (by decide) (by decide)
      refine x_aload_n dX12_count_156 x_get_2_0 ?_
      refine x_getI 13 dX12_count_157 fX_12_120 rfl n62 s62 (by rfl) ?_
      try simp (disch := decide) only [x_up_s, x_up_n, x_up_up, x_u1_s, x_u1_n, e0, k1, k2, k3, k44, k52, k13, k71]
      exact x_iret dX12_count_160 rfl (Nat.le_of_ble_eq_true rfl) (Nat.le_of_ble_eq_true rfl) rfl rfl rfl ⟨ms0, t0⟩ rfl
    · show x_M X l yX12_count cX12_count 2 (some .int) 4 0 0 [.ref (x_b X + 62), .int (xI 13)] false N sh D (m_r (o_i (D 71 0))) false N sh (fun d => ms D d ∧ d 62 0 = m_k 1 (o_i (D 71 0)))
      rw [m_r_i, m_k_i]
      refine x_ofW (by decide +kernel) hl (by simp [Value.category]) (by simp) ?_
      refine x_aload_n dX12_count_0 x_get_2_0 ?_
      refine x_iconst dX12_count_1 ?_
      refine x_putI 0 dX12_count_2 fX_12_117 rfl tX_12_0 n62 s62 (by rfl) ?_
      have z0 := m_go0 hq hr hv84
      generalize x_up D 62 (x_u1 (D 62) 0 0) = d0 at z0 ⊢
      obtain ⟨q0, t0, ms0, r0, v0⟩ := z0
      refine x_aload_n dX12_count_5 x_get_2_0 ?_
      refine x_iload_n dX12_count_6 x_get_2_1 ?_
      refine x_iconst dX12_count_7 ?_
      refine x_bipush dX12_count_8 rfl ?_
      refine x_callS (As := [_, _, _]) dX12_count_10 w_12_346 (m_withinT hl ⟨by decide, by decide⟩ ⟨by decide, by decide⟩ ⟨by decide, by decide⟩ ⟨by decide, by decide⟩) rfl rfl (Nat.le_of_ble_eq_true rfl) (Nat.le_of_ble_eq_true rfl) (Nat.le_of_ble_eq_true rfl) (Nat.le_of_ble_eq_true rfl) (Nat.le_of_ble_eq_true rfl) ?_
      intro dz hdz
      obtain rfl := Eq.symm hdz
      refine x_iconst dX12_count_13 ?_
      refine x_callV (As := [_, _]) dX12_count_14 w_12_274 (m_rightT hl hM t0) (by assumption) (by assumption) rfl rfl (Nat.le_of_ble_eq_true rfl) (Nat.le_of_ble_eq_true rfl) (Nat.le_of_ble_eq_true rfl) (Nat.le_of_ble_eq_true rfl) (Nat.le_of_ble_eq_true rfl) ?_
      intro dz hdz
      obtain rfl := Eq.symm hdz
      refine r_if_ne (t := 22) dX12_count_17 rfl ⟨by omega, by omega⟩ (fun hc17 => ?_) (fun hc17 => absurd hc17 (by omega))
      refine x_iload_n dX12_count_22 x_get_2_1 ?_
      refine x_tswOut (t := 161) dX12_count_23 (by decide) rfl ?_
      have e0 : d0 82 0 = f 0 := mr_0 r0 rfl
      have k1 : d0 62 1 = T := q0.2.1
      have k2 : d0 62 2 = W := q0.2.2.2.1
      have k3 : d0 62 3 = C := q0.2.2.2.2.2.1
      have k44 : d0 62 44 = D 62 44 := ms0.2.1 44 (by decide) (by decide) (by decide)
      have k52 : d0 62 52 = D 62 52 := ms0.2.1 52 (by decide) (by decide) (by decide)
      have k13 : d0 62 13 = D 62 13 := ms0.2.1 13 (by decide) (by decide) (by decide)
      have k71 : d0 71 = D 71 := ms0.1 71 (by decide) (by decide) (by decide) (by decide) (by decide)
      refine x_aload_n dX12_count_161 x_get_2_0 ?_
      refine x_getR dX12_count_162 fX_12_41 n62 s62 (by rfl) ?_
      refine x_iload_n dX12_count_165 x_get_2_1 ?_
      refine x_bipush dX12_count_166 rfl ?_
      refine x_isub dX12_count_168 ?_
      refine x_iald dX12_count_169 n71 s71 (by decide) (by decide) (by decide) ?_
      try simp (disch := decide) only [x_up_s, x_up_n, x_up_up, x_u1_s, x_u1_n, e0, k1, k2, k3, k44, k52, k13, k71]
      exact x_iret dX12_count_170 rfl (Nat.le_of_ble_eq_true rfl) (Nat.le_of_ble_eq_true rfl) rfl rfl rfl ⟨ms0, t0⟩ rfl
    · show x_M X l yX12_count cX12_count 2 (some .int) 4 0 0 [.ref (x_b X + 62), .int (xI 14)] false N sh D (m_r (o_i (D 71 1))) false N sh (fun d => ms D d ∧ d 62 0 = m_k 1 (o_i (D 71 1)))
      rw [m_r_i, m_k_i]
      refine x_ofW (by decide +kernel) hl (by simp [Value.category]) (by simp) ?_
      refine x_aload_n dX12_count_0 x_get_2_0 ?_
      refine x_iconst dX12_count_1 ?_
      refine x_putI 0 dX12_count_2 fX_12_117 rfl tX_12_0 n62 s62 (by rfl) ?_
      have z0 := m_go0 hq hr hv84
      generalize x_up D 62 (x_u1 (D 62) 0 0) = d0 at z0 ⊢
      obtain ⟨q0, t0, ms0, r0, v0⟩ := z0
      refine x_aload_n dX12_count_5 x_get_2_0 ?_
      refine x_iload_n dX12_count_6 x_get_2_1 ?_
      refine x_iconst dX12_count_7 ?_
      refine x_bipush dX12_count_8 rfl ?_
      refine x_callS (As := [_, _, _]) dX12_count_10 w_12_346 (m_withinT hl ⟨by decide, by decide⟩ ⟨by decide, by decide⟩ ⟨by decide, by decide⟩ ⟨by decide, by decide⟩) rfl rfl (Nat.le_of_ble_eq_true rfl) (Nat.le_of_ble_eq_true rfl) (Nat.le_of_ble_eq_true rfl) (Nat.le_of_ble_eq_true rfl) (Nat.le_of_ble_eq_true rfl) ?_
      intro dz hdz
      obtain rfl := Eq.symm hdz
      refine x_iconst dX12_count_13 ?_
      refine x_callV (As := [_, _]) dX12_count_14 w_12_274 (m_rightT hl hM t0) (by assumption) (by assumption) rfl rfl (Nat.le_of_ble_eq_true rfl) (Nat.le_of_ble_eq_true rfl) (Nat.le_of_ble_eq_true rfl) (Nat.le_of_ble_eq_true rfl) (Nat.le_of_ble_eq_true rfl) ?_
      intro dz hdz
      obtain rfl := Eq.symm hdz
      refine r_if_ne (t := 22) dX12_count_17 rfl ⟨by omega, by omega⟩ (fun hc17 => ?_) (fun hc17 => absurd hc17 (by omega))
      refine x_iload_n dX12_count_22 x_get_2_1 ?_
      refine x_tswOut (t := 161) dX12_count_23 (by decide) rfl ?_
      have e0 : d0 82 0 = f 0 := mr_0 r0 rfl
      have k1 : d0 62 1 = T := q0.2.1
      have k2 : d0 62 2 = W := q0.2.2.2.1
      have k3 : d0 62 3 = C := q0.2.2.2.2.2.1
      have k44 : d0 62 44 = D 62 44 := ms0.2.1 44 (by decide) (by decide) (by decide)
      have k52 : d0 62 52 = D 62 52 := ms0.2.1 52 (by decide) (by decide) (by decide)
      have k13 : d0 62 13 = D 62 13 := ms0.2.1 13 (by decide) (by decide) (by decide)
      have k71 : d0 71 = D 71 := ms0.1 71 (by decide) (by decide) (by decide) (by decide) (by decide)
      refine x_aload_n dX12_count_161 x_get_2_0 ?_
      refine x_getR dX12_count_162 fX_12_41 n62 s62 (by rfl) ?_
      refine x_iload_n dX12_count_165 x_get_2_1 ?_
      refine x_bipush dX12_count_166 rfl ?_
      refine x_isub dX12_count_168 ?_
      refine x_iald dX12_count_169 n71 s71 (by decide) (by decide) (by decide) ?_
      try simp (disch := decide) only [x_up_s, x_up_n, x_up_up, x_u1_s, x_u1_n, e0, k1, k2, k3, k44, k52, k13, k71]
      exact x_iret dX12_count_170 rfl (Nat.le_of_ble_eq_true rfl) (Nat.le_of_ble_eq_true rfl) rfl rfl rfl ⟨ms0, t0⟩ rfl
    · show x_M X l yX12_count cX12_count 2 (some .int) 4 0 0 [.ref (x_b X + 62), .int (xI 15)] false N sh D (m_r (o_i (D 71 2))) false N sh (fun d => ms D d ∧ d 62 0 = m_k 1 (o_i (D 71 2)))
      rw [m_r_i, m_k_i]
      refine x_ofW (by decide +kernel) hl (by simp [Value.category]) (by simp) ?_
      refine x_aload_n dX12_count_0 x_get_2_0 ?_
      refine x_iconst dX12_count_1 ?_
      refine x_putI 0 dX12_count_2 fX_12_117 rfl tX_12_0 n62 s62 (by rfl) ?_
      have z0 := m_go0 hq hr hv84
      generalize x_up D 62 (x_u1 (D 62) 0 0) = d0 at z0 ⊢
      obtain ⟨q0, t0, ms0, r0, v0⟩ := z0
      refine x_aload_n dX12_count_5 x_get_2_0 ?_
      refine x_iload_n dX12_count_6 x_get_2_1 ?_
      refine x_iconst dX12_count_7 ?_
      refine x_bipush dX12_count_8 rfl ?_
      refine x_callS (As := [_, _, _]) dX12_count_10 w_12_346 (m_withinT hl ⟨by decide, by decide⟩ ⟨by decide, by decide⟩ ⟨by decide, by decide⟩ ⟨by decide, by decide⟩) rfl rfl (Nat.le_of_ble_eq_true rfl) (Nat.le_of_ble_eq_true rfl) (Nat.le_of_ble_eq_true rfl) (Nat.le_of_ble_eq_true rfl) (Nat.le_of_ble_eq_true rfl) ?_
      intro dz hdz
      obtain rfl := Eq.symm hdz
      refine x_iconst dX12_count_13 ?_
      refine x_callV (As := [_, _]) dX12_count_14 w_12_274 (m_rightT hl hM t0) (by assumption) (by assumption) rfl rfl (Nat.le_of_ble_eq_true rfl) (Nat.le_of_ble_eq_true rfl) (Nat.le_of_ble_eq_true rfl) (Nat.le_of_ble_eq_true rfl) (Nat.le_of_ble_eq_true rfl) ?_
      intro dz hdz
      obtain rfl := Eq.symm hdz
      refine r_if_ne (t := 22) dX12_count_17 rfl ⟨by omega, by omega⟩ (fun hc17 => ?_) (fun hc17 => absurd hc17 (by omega))
      refine x_iload_n dX12_count_22 x_get_2_1 ?_
      refine x_tswOut (t := 161) dX12_count_23 (by decide) rfl ?_
      have e0 : d0 82 0 = f 0 := mr_0 r0 rfl
      have k1 : d0 62 1 = T := q0.2.1
      have k2 : d0 62 2 = W := q0.2.2.2.1
      have k3 : d0 62 3 = C := q0.2.2.2.2.2.1
      have k44 : d0 62 44 = D 62 44 := ms0.2.1 44 (by decide) (by decide) (by decide)
      have k52 : d0 62 52 = D 62 52 := ms0.2.1 52 (by decide) (by decide) (by decide)
      have k13 : d0 62 13 = D 62 13 := ms0.2.1 13 (by decide) (by decide) (by decide)
      have k71 : d0 71 = D 71 := ms0.1 71 (by decide) (by decide) (by decide) (by decide) (by decide)
      refine x_aload_n dX12_count_161 x_get_2_0 ?_
      refine x_getR dX12_count_162 fX_12_41 n62 s62 (by rfl) ?_
      refine x_iload_n dX12_count_165 x_get_2_1 ?_
      refine x_bipush dX12_count_166 rfl ?_
      refine x_isub dX12_count_168 ?_
      refine x_iald dX12_count_169 n71 s71 (by decide) (by decide) (by decide) ?_
      try simp (disch := decide) only [x_up_s, x_up_n, x_up_up, x_u1_s, x_u1_n, e0, k1, k2, k3, k44, k52, k13, k71]
      exact x_iret dX12_count_170 rfl (Nat.le_of_ble_eq_true rfl) (Nat.le_of_ble_eq_true rfl) rfl rfl rfl ⟨ms0, t0⟩ rfl
  · have e : q_count T C W f (D 62 44) (D 62 52) (D 62 13) (D 71 0) (D 71 1) (D 71 2) w = .inr x_NSE := by
      unfold q_count
      rw [if_neg (by omega), if_neg (by omega), if_neg (by omega), if_neg (by omega), if_neg (by omega), if_neg (by omega), if_neg (by omega), if_neg (by omega), if_neg (by omega), if_neg (by omega), if_neg (by omega), if_neg (by omega), if_neg (by omega), if_neg (by omega), if_neg (by omega), if_neg (by omega)]
    rw [e]
    refine x_ofW (by decide +kernel) hl (by simp [Value.category]) (by simp) ?_
    refine x_aload_n dX12_count_0 x_get_2_0 ?_
    refine x_iconst dX12_count_1 ?_
    refine x_putI 0 dX12_count_2 fX_12_117 rfl tX_12_0 n62 s62 (by rfl) ?_
    have z0 := m_go0 hq hr hv84
    generalize x_up D 62 (x_u1 (D 62) 0 0) = d0 at z0 ⊢
    obtain ⟨q0, t0, ms0, r0, v0⟩ := z0
    refine x_aload_n dX12_count_5 x_get_2_0 ?_
    refine x_iload_n dX12_count_6 x_get_2_1 ?_
    refine x_iconst dX12_count_7 ?_
    refine x_bipush dX12_count_8 rfl ?_
    refine x_callS (As := [_, _, _]) dX12_count_10 w_12_346 (m_withinF hl hwr ⟨by decide, by decide⟩ ⟨by decide, by decide⟩ hw) rfl rfl (Nat.le_of_ble_eq_true rfl) (Nat.le_of_ble_eq_true rfl) (Nat.le_of_ble_eq_true rfl) (Nat.le_of_ble_eq_true rfl) (Nat.le_of_ble_eq_true rfl) ?_
    intro dz hdz
    obtain rfl := Eq.symm hdz
    refine x_iconst dX12_count_13 ?_
    refine x_callV (As := [_, _]) dX12_count_14 w_12_274 (m_rightF hl hM t0 (by decide) (by decide)) (by assumption) (by assumption) rfl rfl (Nat.le_of_ble_eq_true rfl) (Nat.le_of_ble_eq_true rfl) (Nat.le_of_ble_eq_true rfl) (Nat.le_of_ble_eq_true rfl) (Nat.le_of_ble_eq_true rfl) ?_
    intro dz hdz
    obtain rfl := Eq.symm hdz
    refine r_if_ne (t := 22) dX12_count_17 rfl ⟨by omega, by omega⟩ (fun hc17 => absurd hc17 (by omega)) (fun hc17 => ?_)
    refine x_iconst dX12_count_20 ?_
    exact x_iret dX12_count_21 rfl (Nat.le_of_ble_eq_true rfl) (Nat.le_of_ble_eq_true rfl) rfl rfl rfl ⟨ms_thr ms0, by rw [x_up_s, x_u1_s, m_k_N]⟩ rfl
end M65
