section M72
def m_rf (k : Int) (D : xM) : xM := x_up (x_up D 62 (x_u1 (D 62) 0 0)) 71 (x_u1 (D 71) k (D 71 k + 1))
theorem am_dy {T C : Nat} {f : Int → Int} {D d d2 : xM} (h : am D d) (h2 : m_dy T C 0 f d d2) : am D d2 := ⟨fun j a b c e g => by rw [h2.1 j b a e g]; exact h.1 j a b c e g, fun i a b c => by rw [h2.2.1 i c]; exact h.2.1 i a b c, by rw [h2.2.1 0 (by decide)]; exact h.2.2.1, h2.2.2.2.2⟩
theorem am_w {T C : Nat} {f : Int → Int} {D d d2 : xM} (h : am D d) (h2 : m_w T C 0 f d d2) : am D d2 := ⟨fun j a b c e g => by rw [h2.1 j b]; exact h.1 j a b c e g, fun i a b c => by rw [h2.1 62 (by decide)]; exact h.2.1 i a b c, by rw [h2.1 62 (by decide)]; exact h.2.2.1, by rw [h2.1 84 (by decide)]; exact h.2.2.2⟩
theorem mact_w {T C : Nat} {f : Int → Int} {b : Int} {d d2 : xM} {L : List (Int → Int)} (h : mact T C d L) (h2 : m_w T C b f d d2) : mact T C d2 L := mact_of h (by rw [h2.1 62 (by decide)]) (h2.1 83 (by decide))
theorem mact_dy {T C : Nat} {f : Int → Int} {b : Int} {d d2 : xM} {L : List (Int → Int)} (h : mact T C d L) (h2 : m_dy T C b f d d2) : mact T C d2 L := mact_of h (h2.2.1 44 (by decide)) (h2.1 83 (by decide) (by decide) (by decide) (by decide))
def mwy (D : xM) (W : Nat) (one two span loss : Int → Int) : Prop := (∀ w : Int, 0 ≤ w → w < W → D 65 w = one w ∧ D 66 w = two w ∧ D 67 w = span w ∧ D 68 w = loss w) ∧ (∀ j, 0 ≤ one j ∧ one j ≤ 7) ∧ (∀ j, 0 ≤ two j ∧ two j ≤ 7) ∧ (∀ j, 0 ≤ span j ∧ span j ≤ 9) ∧ (∀ j, 0 ≤ loss j ∧ loss j ≤ 9)
theorem mwy_of {D d : xM} {W : Nat} {one two span loss : Int → Int} (h : mwy D W one two span loss) (h1 : ∀ j, 65 ≤ j → j ≤ 68 → d j = D j) : mwy d W one two span loss := by
  unfold mwy at h ⊢
  rw [h1 65 (by decide) (by decide), h1 66 (by decide) (by decide), h1 67 (by decide) (by decide), h1 68 (by decide) (by decide)]
  exact h
theorem w_12_371 : x_cv RX12 371 yX12_refuses cX12_refuses 2 (some .int) 12 1 := ⟨⟨_, rfl, rfl⟩, (x_in 1752 (by decide +kernel) rfl), (x_in 1754 (by decide +kernel) rfl), (x_in 54 (by decide +kernel) rfl), (x_in 90 (by decide +kernel) rfl), (x_in 1755 (by decide +kernel) rfl), by decide, ⟨by decide +kernel, by decide +kernel, by decide +kernel⟩⟩
theorem w_12_374 : x_cv RX12 374 yX12_keeps cX12_keeps 2 (none) 12 0 := ⟨⟨_, rfl, rfl⟩, (x_in 1756 (by decide +kernel) rfl), (x_in 1758 (by decide +kernel) rfl), (x_in 55 (by decide +kernel) rfl), (x_in 90 (by decide +kernel) rfl), (x_in 1759 (by decide +kernel) rfl), by decide, ⟨by decide +kernel, by decide +kernel, by decide +kernel⟩⟩
theorem w_12_377 : x_cv RX12 377 yX12_isWay cX12_isWay 2 (some .boolean) 12 1 := ⟨⟨_, rfl, rfl⟩, (x_in 1783 (by decide +kernel) rfl), (x_in 1785 (by decide +kernel) rfl), (x_in 60 (by decide +kernel) rfl), (x_in 90 (by decide +kernel) rfl), (x_in 1786 (by decide +kernel) rfl), by decide, ⟨by decide +kernel, by decide +kernel, by decide +kernel⟩⟩
theorem w_12_380 : x_cv RX12 380 yX12_leads cX12_leads 3 (some .int) 12 2 := ⟨⟨_, rfl, rfl⟩, (x_in 1787 (by decide +kernel) rfl), (x_in 1789 (by decide +kernel) rfl), (x_in 61 (by decide +kernel) rfl), (x_in 90 (by decide +kernel) rfl), (x_in 1790 (by decide +kernel) rfl), by decide, ⟨by decide +kernel, by decide +kernel, by decide +kernel⟩⟩
set_option maxHeartbeats 8000000 in
theorem m_days {X : xC} {l : Launch} (hl : l.stackTraces = false) {N : Nat} {sh : xS} {D : xM} {T C W : Nat} {G : Ldt} (hq : mq N sh D T C W G) {B : Int} {f : Int → Int} (hk : s_ok B f) (hB : B ≤ 200000) (hr : mr T C f (D 82) 0) (hv84 : ∀ j, x_r (D 84 j)) {L : List (Int → Int)} (hA : mact T C D L) {n : Nat} (h1 : 1 ≤ n) (h30 : n ≤ 30) (h9 : f 0 + n ≤ 999) : x_M X l yX12_days cX12_days 3 (some .int) 5 0 0 [.ref (x_b X + 62), .int (xI (n : Int))] false N sh D (.inl (some (.int (xI (s_days G T C f n 0))))) false N sh (fun d => am D d ∧ mr T C (s_days G T C f n) (d 82) 0 ∧ mact T C d (l_keep L f)) := by
  obtain ⟨hM, hT, hTb, hW, hWb, hC, hCb, hmk, ⟨hG1, hG2, hG3⟩, hod⟩ := id hq
  have s62 := md_62 hM
  have n62 : 62 < N := md_n hM (by decide)
  have s82 := md_82 hM
  have n82 : 82 < N := md_n hM (by decide)
  have hf0 := (hk 0).1 rfl
  refine x_ofW (by decide +kernel) hl (by simp [Value.category]) (by simp) ?_
  refine x_aload_n dX12_days_0 x_get_3_0 ?_
  refine x_iconst dX12_days_1 ?_
  refine x_putI 0 dX12_days_2 fX_12_117 rfl tX_12_0 n62 s62 (by rfl) ?_
  have z0 := m_go0 hq hr hv84
  have g1 : ∀ j, j ≠ 62 → (x_up D 62 (x_u1 (D 62) 0 0)) j = D j := fun j a => x_up_n a
  have g2 : ∀ i, i ≠ 0 → (x_up D 62 (x_u1 (D 62) 0 0)) 62 i = D 62 i := fun i a => by rw [x_up_s, x_u1_n a]
  generalize x_up D 62 (x_u1 (D 62) 0 0) = d0 at z0 g1 g2 ⊢
  obtain ⟨q0, t0, ms0, r0, v0⟩ := z0
  have e0 : d0 82 0 = f 0 := mr_0 r0 rfl
  refine x_iload_n dX12_days_5 x_get_3_1 ?_
  refine x_iconst dX12_days_6 ?_
  refine x_bipush dX12_days_7 rfl ?_
  refine x_callS (As := [_, _, _]) dX12_days_9 w_12_346 (m_withinT hl ⟨by omega, by omega⟩ ⟨by decide, by decide⟩ ⟨by decide, by decide⟩ ⟨by omega, by omega⟩) rfl rfl (Nat.le_of_ble_eq_true rfl) (Nat.le_of_ble_eq_true rfl) (Nat.le_of_ble_eq_true rfl) (Nat.le_of_ble_eq_true rfl) (Nat.le_of_ble_eq_true rfl) ?_
  intro dz hdz
  obtain rfl := Eq.symm hdz
  refine r_if_eq (t := 29) dX12_days_12 rfl ⟨by omega, by omega⟩ (fun hc12 => absurd hc12 (by omega)) (fun hc12 => ?_)
  refine x_aload_n dX12_days_15 x_get_3_0 ?_
  refine x_getR dX12_days_16 fX_12_75 n62 s62 (by rfl) ?_
  refine x_iconst dX12_days_19 ?_
  refine x_iald dX12_days_20 n82 s82 (by omega) (by omega) (by decide) ?_
  try simp (disch := decide) only [x_up_s, x_up_n, x_up_up, x_u1_s, x_u1_n, e0]
  refine x_iload_n dX12_days_21 x_get_3_1 ?_
  refine x_iadd dX12_days_22 ?_
  refine x_sipush dX12_days_23 rfl ?_
  refine r_icmp_le (t := 35) dX12_days_26 rfl ⟨by omega, by omega⟩ ⟨by omega, by omega⟩ (fun hc26 => ?_) (fun hc26 => absurd hc26 (by omega))
  refine x_aload_n dX12_days_35 x_get_3_0 ?_
  refine x_callV (As := []) dX12_days_36 w_12_374 (m_keeps hl q0 r0 (mact_of hA (g2 44 (by decide)) (g1 83 (by decide)))) (by assumption) (by assumption) rfl rfl (Nat.le_of_ble_eq_true rfl) (Nat.le_of_ble_eq_true rfl) (Nat.le_of_ble_eq_true rfl) (Nat.le_of_ble_eq_true rfl) (Nat.le_of_ble_eq_true rfl) ?_
  rintro d1 ⟨k1, k2, k3⟩
  have q1 : mq N sh d1 T C W G := mq_of q0 (fun i _ _ => k2 i (by omega)) (fun j a b => k1 j (by omega) (by omega))
  have r1 : mr T C f (d1 82) 0 := by rw [k1 82 (by decide) (by decide)]; exact r0
  have v1 : ∀ j, x_r (d1 84 j) := by rw [k1 84 (by decide) (by decide)]; exact v0
  have a1 : am D d1 := ⟨fun j a b c e g => by rw [k1 j a c, g1 j a], fun i a b c => by rw [k2 i b, g2 i a], by rw [k2 0 (by decide)]; exact t0, v1⟩
  skip
  have hloop : ∀ k : Nat, k ≤ n → ∀ d : xM, m_dy T C 0 (s_days G T C f k) d1 d → x_W (X, l, yX12_days, cX12_days, 3, (some .int), x_room 5 0 0, 0, 0, (.inl (some (.int (xI (s_days G T C f n 0))))), N, sh, (fun d => am D d ∧ mr T C (s_days G T C f n) (d 82) 0 ∧ mact T C d (l_keep L f)), false, []) 41 [some (.ref (x_b X + 62)), some (.int (xI (n : Int))), some (.int (xI (k : Int)))] [] 0 0 false N sh d := by
    refine x_down n ?_ ?_
    · intro d hy
      have e2 : d 82 0 = s_days G T C f n 0 := mr_0 hy.2.2.1 rfl
      refine x_iload_n dX12_days_41 x_get_3_2 ?_
      refine x_iload_n dX12_days_42 x_get_3_1 ?_
      refine r_icmp_ge (t := 57) dX12_days_43 rfl ⟨by omega, by omega⟩ ⟨by omega, by omega⟩ (fun hc43 => ?_) (fun hc43 => absurd hc43 (by omega))
      refine x_aload_n dX12_days_57 x_get_3_0 ?_
      refine x_getR dX12_days_58 fX_12_75 n62 s62 (by rfl) ?_
      refine x_iconst dX12_days_61 ?_
      refine x_iald dX12_days_62 n82 s82 (by omega) (by omega) (by decide) ?_
      try simp (disch := decide) only [x_up_s, x_up_n, x_up_up, x_u1_s, x_u1_n, e2]
      exact x_iret dX12_days_63 rfl (Nat.le_of_ble_eq_true rfl) (Nat.le_of_ble_eq_true rfl) rfl rfl rfl ⟨am_dy a1 hy, hy.2.2.1, mact_dy k3 hy⟩ rfl
    · intro k hk2 ih d hy
      refine x_iload_n dX12_days_41 x_get_3_2 ?_
      refine x_iload_n dX12_days_42 x_get_3_1 ?_
      refine r_icmp_ge (t := 57) dX12_days_43 rfl ⟨by omega, by omega⟩ ⟨by omega, by omega⟩ (fun hc43 => absurd hc43 (by omega)) (fun hc43 => ?_)
      refine x_aload_n dX12_days_46 x_get_3_0 ?_
      refine x_iconst dX12_days_47 ?_
      refine x_callV (As := [_]) dX12_days_48 w_12_343 (m_dayGoes hl (m_dy_mq q1 hy) (s_ok_days hk hG1 hG2 hTb hCb k) (by omega) (Or.inl rfl) hy.2.2.1 hy.2.2.2.2) (by assumption) (by assumption) rfl rfl (Nat.le_of_ble_eq_true rfl) (Nat.le_of_ble_eq_true rfl) (Nat.le_of_ble_eq_true rfl) (Nat.le_of_ble_eq_true rfl) (Nat.le_of_ble_eq_true rfl) ?_
      rintro d2 ⟨hy2, -⟩
      refine x_iinc dX12_days_51 x_get_3_2 (Nat.le_of_ble_eq_true rfl) rfl x_set_3_2 ?_
      refine x_goto (t := 41) dX12_days_54 rfl ?_
      exact ih d2 (m_dy_tr hy hy2)
  refine x_iconst dX12_days_39 ?_
  refine x_istore_n dX12_days_40 (Nat.le_of_ble_eq_true rfl) rfl x_set_3_2 ?_
  exact hloop 0 (Nat.zero_le _) d1 (m_dy_rf r1 v1)
theorem m_daysR {X : xC} {l : Launch} (hl : l.stackTraces = false) {N : Nat} {sh : xS} {D : xM} {T C W : Nat} {G : Ldt} (hq : mq N sh D T C W G) {B : Int} {f : Int → Int} (hk : s_ok B f) (hB : B ≤ 200000) (hr : mr T C f (D 82) 0) (hv84 : ∀ j, x_r (D 84 j)) {n : Int} (hnr : x_r n) (h : ¬ (1 ≤ n ∧ n ≤ 30 ∧ f 0 + n ≤ 999)) : x_M X l yX12_days cX12_days 3 (some .int) 5 0 0 [.ref (x_b X + 62), .int (xI n)] false N sh D (.inl (some (.int (xI (-1))))) false N sh (x_is (m_rf 1 D)) := by
  obtain ⟨hM, hT, hTb, hW, hWb, hC, hCb, hmk, ⟨hG1, hG2, hG3⟩, hod⟩ := id hq
  have s62 := md_62 hM
  have n62 : 62 < N := md_n hM (by decide)
  have s82 := md_82 hM
  have n82 : 82 < N := md_n hM (by decide)
  have hf0 := (hk 0).1 rfl
  by_cases hw : 1 ≤ n ∧ n ≤ 30
  · refine x_ofW (by decide +kernel) hl (by simp [Value.category]) (by simp) ?_
    refine x_aload_n dX12_days_0 x_get_3_0 ?_
    refine x_iconst dX12_days_1 ?_
    refine x_putI 0 dX12_days_2 fX_12_117 rfl tX_12_0 n62 s62 (by rfl) ?_
    have z0 := m_go0 hq hr hv84
    generalize hd0 : x_up D 62 (x_u1 (D 62) 0 0) = d0 at z0 ⊢
    obtain ⟨q0, t0, ms0, r0, v0⟩ := z0
    have e71 : d0 71 = D 71 := by rw [← hd0, x_up_n (by decide)]
    have e0 : d0 82 0 = f 0 := mr_0 r0 rfl
    refine x_iload_n dX12_days_5 x_get_3_1 ?_
    refine x_iconst dX12_days_6 ?_
    refine x_bipush dX12_days_7 rfl ?_
    refine x_callS (As := [_, _, _]) dX12_days_9 w_12_346 (m_withinT hl hnr ⟨by decide, by decide⟩ ⟨by decide, by decide⟩ hw) rfl rfl (Nat.le_of_ble_eq_true rfl) (Nat.le_of_ble_eq_true rfl) (Nat.le_of_ble_eq_true rfl) (Nat.le_of_ble_eq_true rfl) (Nat.le_of_ble_eq_true rfl) ?_
    intro dz hdz
    obtain rfl := Eq.symm hdz
    refine r_if_eq (t := 29) dX12_days_12 rfl ⟨by omega, by omega⟩ (fun hc12 => absurd hc12 (by omega)) (fun hc12 => ?_)
    refine x_aload_n dX12_days_15 x_get_3_0 ?_
    refine x_getR dX12_days_16 fX_12_75 n62 s62 (by rfl) ?_
    refine x_iconst dX12_days_19 ?_
    refine x_iald dX12_days_20 n82 s82 (by omega) (by omega) (by decide) ?_
    try simp (disch := decide) only [x_up_s, x_up_n, x_up_up, x_u1_s, x_u1_n, e0]
    refine x_iload_n dX12_days_21 x_get_3_1 ?_
    refine x_iadd dX12_days_22 ?_
    refine x_sipush dX12_days_23 rfl ?_
    refine r_icmp_le (t := 35) dX12_days_26 rfl ⟨by omega, by omega⟩ ⟨by omega, by omega⟩ (fun hc26 => absurd hc26 (by omega)) (fun hc26 => ?_)
    refine x_aload_n dX12_days_29 x_get_3_0 ?_
    refine x_iconst dX12_days_30 ?_
    refine x_callV (As := [_]) dX12_days_31 w_12_371 (m_refuses hl q0.1 (w := 1) (by decide) (by decide)) (by assumption) (by assumption) rfl rfl (Nat.le_of_ble_eq_true rfl) (Nat.le_of_ble_eq_true rfl) (Nat.le_of_ble_eq_true rfl) (Nat.le_of_ble_eq_true rfl) (Nat.le_of_ble_eq_true rfl) ?_
    intro dz hdz
    obtain rfl := Eq.symm hdz
    exact x_iret dX12_days_34 rfl (Nat.le_of_ble_eq_true rfl) (Nat.le_of_ble_eq_true rfl) rfl rfl rfl (by show _ = _; unfold m_rf; rw [e71, hd0]) rfl
  · refine x_ofW (by decide +kernel) hl (by simp [Value.category]) (by simp) ?_
    refine x_aload_n dX12_days_0 x_get_3_0 ?_
    refine x_iconst dX12_days_1 ?_
    refine x_putI 0 dX12_days_2 fX_12_117 rfl tX_12_0 n62 s62 (by rfl) ?_
    have z0 := m_go0 hq hr hv84
    generalize hd0 : x_up D 62 (x_u1 (D 62) 0 0) = d0 at z0 ⊢
    obtain ⟨q0, t0, ms0, r0, v0⟩ := z0
    have e71 : d0 71 = D 71 := by rw [← hd0, x_up_n (by decide)]
    refine x_iload_n dX12_days_5 x_get_3_1 ?_
    refine x_iconst dX12_days_6 ?_
    refine x_bipush dX12_days_7 rfl ?_
    refine x_callS (As := [_, _, _]) dX12_days_9 w_12_346 (m_withinF hl hnr ⟨by decide, by decide⟩ ⟨by decide, by decide⟩ hw) rfl rfl (Nat.le_of_ble_eq_true rfl) (Nat.le_of_ble_eq_true rfl) (Nat.le_of_ble_eq_true rfl) (Nat.le_of_ble_eq_true rfl) (Nat.le_of_ble_eq_true rfl) ?_
    intro dz hdz
    obtain rfl := Eq.symm hdz
    refine r_if_eq (t := 29) dX12_days_12 rfl ⟨by omega, by omega⟩ (fun hc12 => ?_) (fun hc12 => absurd hc12 (by omega))
    refine x_aload_n dX12_days_29 x_get_3_0 ?_
    refine x_iconst dX12_days_30 ?_
    refine x_callV (As := [_]) dX12_days_31 w_12_371 (m_refuses hl q0.1 (w := 1) (by decide) (by decide)) (by assumption) (by assumption) rfl rfl (Nat.le_of_ble_eq_true rfl) (Nat.le_of_ble_eq_true rfl) (Nat.le_of_ble_eq_true rfl) (Nat.le_of_ble_eq_true rfl) (Nat.le_of_ble_eq_true rfl) ?_
    intro dz hdz
    obtain rfl := Eq.symm hdz
    exact x_iret dX12_days_34 rfl (Nat.le_of_ble_eq_true rfl) (Nat.le_of_ble_eq_true rfl) rfl rfl rfl (by show _ = _; unfold m_rf; rw [e71, hd0]) rfl
theorem m_leads {X : xC} {l : Launch} (hl : l.stackTraces = false) {N : Nat} {sh : xS} {D : xM} {T C W : Nat} {G : Ldt} (hq : mq N sh D T C W G) {one two span loss : Int → Int} (hw : mwy D W one two span loss) {w t : Int} (h0 : 0 ≤ w) (h1 : w < W) (htr : x_r t) : x_M X l yX12_leads cX12_leads 3 (some .int) 1 0 0 [.ref (x_b X + 62), .int (xI w), .int (xI t)] false N sh D (.inl (some (.int (xI ((e_oth one two w t)))))) false N sh (x_is (D)) := by
  obtain ⟨hM, hT, hTb, hW, hWb, hC, hCb, hmk, ⟨hG1, hG2, hG3⟩, hod⟩ := id hq
  have s62 := md_62 hM
  have n62 : 62 < N := md_n hM (by decide)
  have s65 := md_65 hM
  have n65 : 65 < N := md_n hM (by decide)
  have s66 := md_66 hM
  have n66 : 66 < N := md_n hM (by decide)
  obtain ⟨hw1, hw2, hw3, hw4, hw5⟩ := hw
  obtain ⟨e65, e66, e67, e68⟩ := hw1 w h0 h1
  have a1 := hw2 w
  have a2 := hw3 w
  refine x_ofW (by decide +kernel) hl (by simp [Value.category]) (by simp) ?_
  refine x_aload_n dX12_leads_0 x_get_3_0 ?_
  refine x_getR dX12_leads_1 fX_12_20 n62 s62 (by rfl) ?_
  refine x_iload_n dX12_leads_4 x_get_3_1 ?_
  refine x_iald dX12_leads_5 n65 s65 (by omega) (by omega) (by decide) ?_
  try simp (disch := decide) only [x_up_s, x_up_n, x_up_up, x_u1_s, x_u1_n, e65, e66]
  refine x_iload_n dX12_leads_6 x_get_3_2 ?_
  refine r_icmp_ne (t := 19) dX12_leads_7 rfl ⟨by omega, by omega⟩ htr (fun hc7 => ?_) (fun hc7 => ?_)
  · refine x_aload_n dX12_leads_19 x_get_3_0 ?_
    refine x_getR dX12_leads_20 fX_12_23 n62 s62 (by rfl) ?_
    refine x_iload_n dX12_leads_23 x_get_3_1 ?_
    refine x_iald dX12_leads_24 n66 s66 (by omega) (by omega) (by decide) ?_
    try simp (disch := decide) only [x_up_s, x_up_n, x_up_up, x_u1_s, x_u1_n, e65, e66]
    refine x_iload_n dX12_leads_25 x_get_3_2 ?_
    refine r_icmp_ne (t := 38) dX12_leads_26 rfl ⟨by omega, by omega⟩ htr (fun hc26 => ?_) (fun hc26 => ?_)
    · refine x_iconst dX12_leads_38 ?_
      exact x_iret dX12_leads_39 rfl (Nat.le_of_ble_eq_true rfl) (Nat.le_of_ble_eq_true rfl) (by unfold e_oth; first | (rw [if_pos hc7]; done) | (rw [if_neg hc7, if_pos hc26]; done) | (rw [if_neg hc7, if_neg hc26]; done)) rfl rfl rfl rfl
    · refine x_aload_n dX12_leads_29 x_get_3_0 ?_
      refine x_getR dX12_leads_30 fX_12_20 n62 s62 (by rfl) ?_
      refine x_iload_n dX12_leads_33 x_get_3_1 ?_
      refine x_iald dX12_leads_34 n65 s65 (by omega) (by omega) (by decide) ?_
      try simp (disch := decide) only [x_up_s, x_up_n, x_up_up, x_u1_s, x_u1_n, e65, e66]
      refine x_goto (t := 39) dX12_leads_35 rfl ?_
      exact x_iret dX12_leads_39 rfl (Nat.le_of_ble_eq_true rfl) (Nat.le_of_ble_eq_true rfl) (by unfold e_oth; first | (rw [if_pos hc7]; done) | (rw [if_neg hc7, if_pos hc26]; done) | (rw [if_neg hc7, if_neg hc26]; done)) rfl rfl rfl rfl
  · refine x_aload_n dX12_leads_10 x_get_3_0 ?_
    refine x_getR dX12_leads_11 fX_12_23 n62 s62 (by rfl) ?_
    refine x_iload_n dX12_leads_14 x_get_3_1 ?_
    refine x_iald dX12_leads_15 n66 s66 (by omega) (by omega) (by decide) ?_
    try simp (disch := decide) only [x_up_s, x_up_n, x_up_up, x_u1_s, x_u1_n, e65, e66]
    refine x_goto (t := 39) dX12_leads_16 rfl ?_
    exact x_iret dX12_leads_39 rfl (Nat.le_of_ble_eq_true rfl) (Nat.le_of_ble_eq_true rfl) (by unfold e_oth; first | (rw [if_pos hc7]; done) | (rw [if_neg hc7, if_pos hc26]; done) | (rw [if_neg hc7, if_neg hc26]; done)) rfl rfl rfl rfl
set_option maxHeartbeats 8000000 in
theorem m_send {X : xC} {l : Launch} (hl : l.stackTraces = false) {N : Nat} {sh : xS} {D : xM} {T C W : Nat} {G : Ldt} (hq : mq N sh D T C W G) {B : Int} {f : Int → Int} (hk : s_ok B f) (hB : B ≤ 200000) (hr : mr T C f (D 82) 0) (hv84 : ∀ j, x_r (D 84 j)) {L : List (Int → Int)} (hA : mact T C D L) {one two span loss : Int → Int} (hw : mwy D W one two span loss) {c w : Int} (hc0 : 0 ≤ c) (hc1 : c < C) (hw0 : 0 ≤ w) (hw1 : w < W) (hli : s_lies f c) (hoe : ¬ (e_oth one two w (f (55 + c))) = -1) : x_M X l yX12_send cX12_send 3 (some .int) 4 0 0 [.ref (x_b X + 62), .int (xI c), .int (xI w)] false N sh D (.inl (some (.int (xI ((e_oth one two w (f (55 + c)))))))) false N sh (fun d => am D d ∧ mr T C (s_send f c (e_oth one two w (f (55 + c))) (span w) (loss w)) (d 82) 0 ∧ mact T C d (l_keep L f)) := by
  obtain ⟨hM, hT, hTb, hW, hWb, hC, hCb, hmk, ⟨hG1, hG2, hG3⟩, hod⟩ := id hq
  have s62 := md_62 hM
  have n62 : 62 < N := md_n hM (by decide)
  have s82 := md_82 hM
  have n82 : 82 < N := md_n hM (by decide)
  have s67 := md_67 hM
  have n67 : 67 < N := md_n hM (by decide)
  have s68 := md_68 hM
  have n68 : 68 < N := md_n hM (by decide)
  have hcr := s_cr hk (c := c) (by omega) (by omega)
  have hoi := e_oth_in hw.2.1 hw.2.2.1 w (f (55 + c))
  refine x_ofW (by decide +kernel) hl (by simp [Value.category]) (by simp) ?_
  refine x_aload_n dX12_send_0 x_get_3_0 ?_
  refine x_iconst dX12_send_1 ?_
  refine x_putI 0 dX12_send_2 fX_12_117 rfl tX_12_0 n62 s62 (by rfl) ?_
  have z0 := m_go0 hq hr hv84
  have g1 : ∀ j, j ≠ 62 → (x_up D 62 (x_u1 (D 62) 0 0)) j = D j := fun j a => x_up_n a
  have g2 : ∀ i, i ≠ 0 → (x_up D 62 (x_u1 (D 62) 0 0)) 62 i = D 62 i := fun i a => by rw [x_up_s, x_u1_n a]
  generalize x_up D 62 (x_u1 (D 62) 0 0) = d0 at z0 g1 g2 ⊢
  obtain ⟨q0, t0, ms0, r0, v0⟩ := z0
  have e55 : d0 82 (55 + c) = f (55 + c) := mr_c r0 rfl (by decide) hc0 hc1
  have w0 : mwy d0 W one two span loss := mwy_of hw (fun j a b => g1 j (by omega))
  refine x_aload_n dX12_send_5 x_get_3_0 ?_
  refine x_iload_n dX12_send_6 x_get_3_1 ?_
  refine x_callV (As := [_]) dX12_send_7 w_12_368 (m_isCrateT hl q0 t0 ⟨hc0, hc1⟩) (by assumption) (by assumption) rfl rfl (Nat.le_of_ble_eq_true rfl) (Nat.le_of_ble_eq_true rfl) (Nat.le_of_ble_eq_true rfl) (Nat.le_of_ble_eq_true rfl) (Nat.le_of_ble_eq_true rfl) ?_
  intro dz hdz
  obtain rfl := Eq.symm hdz
  refine r_if_eq (t := 21) dX12_send_10 rfl ⟨by omega, by omega⟩ (fun hc10 => absurd hc10 (by omega)) (fun hc10 => ?_)
  refine x_aload_n dX12_send_13 x_get_3_0 ?_
  refine x_iload_n dX12_send_14 x_get_3_2 ?_
  refine x_callV (As := [_]) dX12_send_15 w_12_377 (m_isWayT hl q0 t0 ⟨hw0, hw1⟩) (by assumption) (by assumption) rfl rfl (Nat.le_of_ble_eq_true rfl) (Nat.le_of_ble_eq_true rfl) (Nat.le_of_ble_eq_true rfl) (Nat.le_of_ble_eq_true rfl) (Nat.le_of_ble_eq_true rfl) ?_
  intro dz hdz
  obtain rfl := Eq.symm hdz
  refine r_if_ne (t := 23) dX12_send_18 rfl ⟨by omega, by omega⟩ (fun hc18 => ?_) (fun hc18 => absurd hc18 (by omega))
  refine x_aload_n dX12_send_23 x_get_3_0 ?_
  refine x_iconst dX12_send_24 ?_
  refine x_iload_n dX12_send_25 x_get_3_1 ?_
  refine x_callV (As := [_, _]) dX12_send_26 w_12_308 (m_lies hl q0 hk (by omega) (Or.inl rfl) r0 hc0 hc1) (by assumption) (by assumption) rfl rfl (Nat.le_of_ble_eq_true rfl) (Nat.le_of_ble_eq_true rfl) (Nat.le_of_ble_eq_true rfl) (Nat.le_of_ble_eq_true rfl) (Nat.le_of_ble_eq_true rfl) ?_
  intro dz hdz
  obtain rfl := Eq.symm hdz
  refine b_ifeq (t := 50) dX12_send_29 rfl (fun hc29 => absurd hc29 (fun h => h hli)) (fun hc29 => ?_)
  refine x_aload_n dX12_send_32 x_get_3_0 ?_
  refine x_iload_n dX12_send_33 x_get_3_2 ?_
  refine x_aload_n dX12_send_34 x_get_3_0 ?_
  refine x_getR dX12_send_35 fX_12_75 n62 s62 (by rfl) ?_
  refine x_bipush dX12_send_38 rfl ?_
  refine x_iload_n dX12_send_40 x_get_3_1 ?_
  refine x_iadd dX12_send_41 ?_
  refine x_iald dX12_send_42 n82 s82 (by omega) (by omega) (by decide) ?_
  try simp (disch := decide) only [x_up_s, x_up_n, x_up_up, x_u1_s, x_u1_n, e55]
  refine x_callV (As := [_, _]) dX12_send_43 w_12_380 (m_leads hl q0 w0 hw0 hw1 (t := f (55 + c)) ⟨by omega, by omega⟩) (by assumption) (by assumption) rfl rfl (Nat.le_of_ble_eq_true rfl) (Nat.le_of_ble_eq_true rfl) (Nat.le_of_ble_eq_true rfl) (Nat.le_of_ble_eq_true rfl) (Nat.le_of_ble_eq_true rfl) ?_
  intro dz hdz
  obtain rfl := Eq.symm hdz
  refine x_iconst dX12_send_46 ?_
  refine r_icmp_ne (t := 56) dX12_send_47 rfl ⟨by omega, by omega⟩ ⟨by omega, by omega⟩ (fun hc47 => ?_) (fun hc47 => absurd hc47 (by omega))
  refine x_aload_n dX12_send_56 x_get_3_0 ?_
  refine x_callV (As := []) dX12_send_57 w_12_374 (m_keeps hl q0 r0 (mact_of hA (g2 44 (by decide)) (g1 83 (by decide)))) (by assumption) (by assumption) rfl rfl (Nat.le_of_ble_eq_true rfl) (Nat.le_of_ble_eq_true rfl) (Nat.le_of_ble_eq_true rfl) (Nat.le_of_ble_eq_true rfl) (Nat.le_of_ble_eq_true rfl) ?_
  rintro d1 ⟨k1, k2, k3⟩
  have q1 : mq N sh d1 T C W G := mq_of q0 (fun i _ _ => k2 i (by omega)) (fun j a b => k1 j (by omega) (by omega))
  have r1 : mr T C f (d1 82) 0 := by rw [k1 82 (by decide) (by decide)]; exact r0
  have v1 : ∀ j, x_r (d1 84 j) := by rw [k1 84 (by decide) (by decide)]; exact v0
  have a1 : am D d1 := ⟨fun j a b c e g => by rw [k1 j a c, g1 j a], fun i a b c => by rw [k2 i b, g2 i a], by rw [k2 0 (by decide)]; exact t0, v1⟩
  clear e55
  have e55 : d1 82 (55 + c) = f (55 + c) := mr_c r1 rfl (by decide) hc0 hc1
  have w1 : mwy d1 W one two span loss := mwy_of w0 (fun j a b => k1 j (by omega) (by omega))
  obtain ⟨-, -, e67, e68⟩ := w1.1 w hw0 hw1
  skip
  refine x_aload_n dX12_send_60 x_get_3_0 ?_
  refine x_getR dX12_send_61 fX_12_75 n62 s62 (by rfl) ?_
  refine x_bipush dX12_send_64 rfl ?_
  refine x_iload_n dX12_send_66 x_get_3_1 ?_
  refine x_iadd dX12_send_67 ?_
  refine x_aload_n dX12_send_68 x_get_3_0 ?_
  refine x_iload_n dX12_send_69 x_get_3_2 ?_
  refine x_aload_n dX12_send_70 x_get_3_0 ?_
  refine x_getR dX12_send_71 fX_12_75 n62 s62 (by rfl) ?_
  refine x_bipush dX12_send_74 rfl ?_
  refine x_iload_n dX12_send_76 x_get_3_1 ?_
  refine x_iadd dX12_send_77 ?_
  refine x_iald dX12_send_78 n82 s82 (by omega) (by omega) (by decide) ?_
  try simp (disch := decide) only [x_up_s, x_up_n, x_up_up, x_u1_s, x_u1_n, e55, e67, e68]
  refine x_callV (As := [_, _]) dX12_send_79 w_12_380 (m_leads hl q1 w1 hw0 hw1 (t := f (55 + c)) ⟨by omega, by omega⟩) (by assumption) (by assumption) rfl rfl (Nat.le_of_ble_eq_true rfl) (Nat.le_of_ble_eq_true rfl) (Nat.le_of_ble_eq_true rfl) (Nat.le_of_ble_eq_true rfl) (Nat.le_of_ble_eq_true rfl) ?_
  intro dz hdz
  obtain rfl := Eq.symm hdz
  refine x_iast dX12_send_82 n82 s82 (by omega) (by omega) (by decide) ?_
  refine x_aload_n dX12_send_83 x_get_3_0 ?_
  refine x_getR dX12_send_84 fX_12_75 n62 s62 (by rfl) ?_
  refine x_bipush dX12_send_87 rfl ?_
  refine x_iload_n dX12_send_89 x_get_3_1 ?_
  refine x_iadd dX12_send_90 ?_
  refine x_aload_n dX12_send_91 x_get_3_0 ?_
  refine x_getR dX12_send_92 fX_12_26 n62 s62 (by rfl) ?_
  refine x_iload_n dX12_send_95 x_get_3_2 ?_
  refine x_iald dX12_send_96 n67 s67 (by omega) (by omega) (by decide) ?_
  try simp (disch := decide) only [x_up_s, x_up_n, x_up_up, x_u1_s, x_u1_n, e55, e67, e68]
  refine x_iast dX12_send_97 n82 s82 (by omega) (by omega) (by decide) ?_
  refine x_aload_n dX12_send_98 x_get_3_0 ?_
  refine x_getR dX12_send_99 fX_12_75 n62 s62 (by rfl) ?_
  refine x_bipush dX12_send_102 rfl ?_
  refine x_iload_n dX12_send_104 x_get_3_1 ?_
  refine x_iadd dX12_send_105 ?_
  refine x_aload_n dX12_send_106 x_get_3_0 ?_
  refine x_getR dX12_send_107 fX_12_29 n62 s62 (by rfl) ?_
  refine x_iload_n dX12_send_110 x_get_3_2 ?_
  refine x_iald dX12_send_111 n68 s68 (by omega) (by omega) (by decide) ?_
  try simp (disch := decide) only [x_up_s, x_up_n, x_up_up, x_u1_s, x_u1_n, e55, e67, e68]
  refine x_iast dX12_send_112 n82 s82 (by omega) (by omega) (by decide) ?_
  have w5 := m_w_u1 (m_w_u1 (m_w_u1 (m_w_rf r1) (k := 55 + c) (m := 55 + c) (v := (e_oth one two w (f (55 + c)))) (by omega) (by omega) (by omega)) (k := 65 + c) (m := 65 + c) (v := span w) (by omega) (by omega) (by omega)) (k := 75 + c) (m := 75 + c) (v := loss w) (by omega) (by omega) (by omega)
  refine x_mem (D' := x_up (x_up (x_up d1 82 (x_u1 (d1 82) (55 + c) (e_oth one two w (f (55 + c))))) 82 (x_u1 ((x_up d1 82 (x_u1 (d1 82) (55 + c) (e_oth one two w (f (55 + c))))) 82) (65 + c) (span w))) 82 (x_u1 ((x_up (x_up d1 82 (x_u1 (d1 82) (55 + c) (e_oth one two w (f (55 + c))))) 82 (x_u1 ((x_up d1 82 (x_u1 (d1 82) (55 + c) (e_oth one two w (f (55 + c))))) 82) (65 + c) (span w))) 82) (75 + c) (loss w))) (by first | rfl | simp only [x_up_s, x_up_up]) ?_
  generalize (x_up (x_up (x_up d1 82 (x_u1 (d1 82) (55 + c) (e_oth one two w (f (55 + c))))) 82 (x_u1 ((x_up d1 82 (x_u1 (d1 82) (55 + c) (e_oth one two w (f (55 + c))))) 82) (65 + c) (span w))) 82 (x_u1 ((x_up (x_up d1 82 (x_u1 (d1 82) (55 + c) (e_oth one two w (f (55 + c))))) 82 (x_u1 ((x_up d1 82 (x_u1 (d1 82) (55 + c) (e_oth one two w (f (55 + c))))) 82) (65 + c) (span w))) 82) (75 + c) (loss w))) = d2 at w5 ⊢
  have e2 : d2 82 (55 + c) = (e_oth one two w (f (55 + c))) := by rw [mr_c w5.2.1 (k := 55) (m := 55) rfl (by decide) hc0 hc1, x_u1_n (by omega), x_u1_n (by omega), x_u1_s]
  refine x_aload_n dX12_send_113 x_get_3_0 ?_
  refine x_getR dX12_send_114 fX_12_75 n62 s62 (by rfl) ?_
  refine x_bipush dX12_send_117 rfl ?_
  refine x_iload_n dX12_send_119 x_get_3_1 ?_
  refine x_iadd dX12_send_120 ?_
  refine x_iald dX12_send_121 n82 s82 (by omega) (by omega) (by decide) ?_
  try simp (disch := decide) only [x_up_s, x_up_n, x_up_up, x_u1_s, x_u1_n, e2]
  exact x_iret dX12_send_122 rfl (Nat.le_of_ble_eq_true rfl) (Nat.le_of_ble_eq_true rfl) rfl rfl rfl ⟨am_w a1 w5, w5.2.1, mact_w k3 w5⟩ rfl
theorem m_sendR {X : xC} {l : Launch} (hl : l.stackTraces = false) {N : Nat} {sh : xS} {D : xM} {T C W : Nat} {G : Ldt} (hq : mq N sh D T C W G) {B : Int} {f : Int → Int} (hk : s_ok B f) (hB : B ≤ 200000) (hr : mr T C f (D 82) 0) (hv84 : ∀ j, x_r (D 84 j)) {one two span loss : Int → Int} (hw : mwy D W one two span loss) {c w : Int} (hc0 : 0 ≤ c) (hc1 : c < C) (hw0 : 0 ≤ w) (hw1 : w < W) (h : ¬ (s_lies f c ∧ ¬ (e_oth one two w (f (55 + c))) = -1)) : x_M X l yX12_send cX12_send 3 (some .int) 4 0 0 [.ref (x_b X + 62), .int (xI c), .int (xI w)] false N sh D (.inl (some (.int (xI (-1))))) false N sh (x_is (m_rf 1 D)) := by
  obtain ⟨hM, hT, hTb, hW, hWb, hC, hCb, hmk, ⟨hG1, hG2, hG3⟩, hod⟩ := id hq
  have s62 := md_62 hM
  have n62 : 62 < N := md_n hM (by decide)
  have s82 := md_82 hM
  have n82 : 82 < N := md_n hM (by decide)
  have s67 := md_67 hM
  have n67 : 67 < N := md_n hM (by decide)
  have s68 := md_68 hM
  have n68 : 68 < N := md_n hM (by decide)
  have hcr := s_cr hk (c := c) (by omega) (by omega)
  have hoi := e_oth_in hw.2.1 hw.2.2.1 w (f (55 + c))
  refine x_ofW (by decide +kernel) hl (by simp [Value.category]) (by simp) ?_
  refine x_aload_n dX12_send_0 x_get_3_0 ?_
  refine x_iconst dX12_send_1 ?_
  refine x_putI 0 dX12_send_2 fX_12_117 rfl tX_12_0 n62 s62 (by rfl) ?_
  have z0 := m_go0 hq hr hv84
  generalize hd0 : x_up D 62 (x_u1 (D 62) 0 0) = d0 at z0 ⊢
  obtain ⟨q0, t0, ms0, r0, v0⟩ := z0
  have e71 : d0 71 = D 71 := by rw [← hd0, x_up_n (by decide)]
  have e55 : d0 82 (55 + c) = f (55 + c) := mr_c r0 rfl (by decide) hc0 hc1
  have w0 : mwy d0 W one two span loss := mwy_of hw (fun j a b => by rw [← hd0, x_up_n (by omega)])
  refine x_aload_n dX12_send_5 x_get_3_0 ?_
  refine x_iload_n dX12_send_6 x_get_3_1 ?_
  refine x_callV (As := [_]) dX12_send_7 w_12_368 (m_isCrateT hl q0 t0 ⟨hc0, hc1⟩) (by assumption) (by assumption) rfl rfl (Nat.le_of_ble_eq_true rfl) (Nat.le_of_ble_eq_true rfl) (Nat.le_of_ble_eq_true rfl) (Nat.le_of_ble_eq_true rfl) (Nat.le_of_ble_eq_true rfl) ?_
  intro dz hdz
  obtain rfl := Eq.symm hdz
  refine r_if_eq (t := 21) dX12_send_10 rfl ⟨by omega, by omega⟩ (fun hc10 => absurd hc10 (by omega)) (fun hc10 => ?_)
  refine x_aload_n dX12_send_13 x_get_3_0 ?_
  refine x_iload_n dX12_send_14 x_get_3_2 ?_
  refine x_callV (As := [_]) dX12_send_15 w_12_377 (m_isWayT hl q0 t0 ⟨hw0, hw1⟩) (by assumption) (by assumption) rfl rfl (Nat.le_of_ble_eq_true rfl) (Nat.le_of_ble_eq_true rfl) (Nat.le_of_ble_eq_true rfl) (Nat.le_of_ble_eq_true rfl) (Nat.le_of_ble_eq_true rfl) ?_
  intro dz hdz
  obtain rfl := Eq.symm hdz
  refine r_if_ne (t := 23) dX12_send_18 rfl ⟨by omega, by omega⟩ (fun hc18 => ?_) (fun hc18 => absurd hc18 (by omega))
  refine x_aload_n dX12_send_23 x_get_3_0 ?_
  refine x_iconst dX12_send_24 ?_
  refine x_iload_n dX12_send_25 x_get_3_1 ?_
  refine x_callV (As := [_, _]) dX12_send_26 w_12_308 (m_lies hl q0 hk (by omega) (Or.inl rfl) r0 hc0 hc1) (by assumption) (by assumption) rfl rfl (Nat.le_of_ble_eq_true rfl) (Nat.le_of_ble_eq_true rfl) (Nat.le_of_ble_eq_true rfl) (Nat.le_of_ble_eq_true rfl) (Nat.le_of_ble_eq_true rfl) ?_
  intro dz hdz
  obtain rfl := Eq.symm hdz
  refine b_ifeq (t := 50) dX12_send_29 rfl (fun hc29 => ?_) (fun hc29 => ?_)
  · refine x_aload_n dX12_send_50 x_get_3_0 ?_
    refine x_iconst dX12_send_51 ?_
    refine x_callV (As := [_]) dX12_send_52 w_12_371 (m_refuses hl q0.1 (w := 1) (by decide) (by decide)) (by assumption) (by assumption) rfl rfl (Nat.le_of_ble_eq_true rfl) (Nat.le_of_ble_eq_true rfl) (Nat.le_of_ble_eq_true rfl) (Nat.le_of_ble_eq_true rfl) (Nat.le_of_ble_eq_true rfl) ?_
    intro dz hdz
    obtain rfl := Eq.symm hdz
    exact x_iret dX12_send_55 rfl (Nat.le_of_ble_eq_true rfl) (Nat.le_of_ble_eq_true rfl) rfl rfl rfl (by show _ = _; unfold m_rf; rw [e71, hd0]) rfl
  · refine x_aload_n dX12_send_32 x_get_3_0 ?_
    refine x_iload_n dX12_send_33 x_get_3_2 ?_
    refine x_aload_n dX12_send_34 x_get_3_0 ?_
    refine x_getR dX12_send_35 fX_12_75 n62 s62 (by rfl) ?_
    refine x_bipush dX12_send_38 rfl ?_
    refine x_iload_n dX12_send_40 x_get_3_1 ?_
    refine x_iadd dX12_send_41 ?_
    refine x_iald dX12_send_42 n82 s82 (by omega) (by omega) (by decide) ?_
    try simp (disch := decide) only [x_up_s, x_up_n, x_up_up, x_u1_s, x_u1_n, e55]
    refine x_callV (As := [_, _]) dX12_send_43 w_12_380 (m_leads hl q0 w0 hw0 hw1 (t := f (55 + c)) ⟨by omega, by omega⟩) (by assumption) (by assumption) rfl rfl (Nat.le_of_ble_eq_true rfl) (Nat.le_of_ble_eq_true rfl) (Nat.le_of_ble_eq_true rfl) (Nat.le_of_ble_eq_true rfl) (Nat.le_of_ble_eq_true rfl) ?_
    intro dz hdz
    obtain rfl := Eq.symm hdz
    refine x_iconst dX12_send_46 ?_
    refine r_icmp_ne (t := 56) dX12_send_47 rfl ⟨by omega, by omega⟩ ⟨by omega, by omega⟩ (fun hc47 => absurd hc47 (fun h2 => h ⟨hc29, h2⟩)) (fun hc47 => ?_)
    refine x_aload_n dX12_send_50 x_get_3_0 ?_
    refine x_iconst dX12_send_51 ?_
    refine x_callV (As := [_]) dX12_send_52 w_12_371 (m_refuses hl q0.1 (w := 1) (by decide) (by decide)) (by assumption) (by assumption) rfl rfl (Nat.le_of_ble_eq_true rfl) (Nat.le_of_ble_eq_true rfl) (Nat.le_of_ble_eq_true rfl) (Nat.le_of_ble_eq_true rfl) (Nat.le_of_ble_eq_true rfl) ?_
    intro dz hdz
    obtain rfl := Eq.symm hdz
    exact x_iret dX12_send_55 rfl (Nat.le_of_ble_eq_true rfl) (Nat.le_of_ble_eq_true rfl) rfl rfl rfl (by show _ = _; unfold m_rf; rw [e71, hd0]) rfl
theorem m_sendT {X : xC} {l : Launch} (hl : l.stackTraces = false) {N : Nat} {sh : xS} {D : xM} {T C W : Nat} {G : Ldt} (hq : mq N sh D T C W G) {B : Int} {f : Int → Int} (hk : s_ok B f) (hB : B ≤ 200000) (hr : mr T C f (D 82) 0) (hv84 : ∀ j, x_r (D 84 j)) {c w : Int} (hcr : x_r c) (hwr : x_r w) (h : ¬ ((0 ≤ c ∧ c < C) ∧ (0 ≤ w ∧ w < W))) : x_M X l yX12_send cX12_send 3 (some .int) 4 0 0 [.ref (x_b X + 62), .int (xI c), .int (xI w)] false N sh D (.inl (some (.int (xI (0))))) false N sh (fun d => ms D d ∧ d 62 0 = 1) := by
  obtain ⟨hM, hT, hTb, hW, hWb, hC, hCb, hmk, ⟨hG1, hG2, hG3⟩, hod⟩ := id hq
  have s62 := md_62 hM
  have n62 : 62 < N := md_n hM (by decide)
  have s82 := md_82 hM
  have n82 : 82 < N := md_n hM (by decide)
  have s67 := md_67 hM
  have n67 : 67 < N := md_n hM (by decide)
  have s68 := md_68 hM
  have n68 : 68 < N := md_n hM (by decide)
  by_cases hc : 0 ≤ c ∧ c < C
  · refine x_ofW (by decide +kernel) hl (by simp [Value.category]) (by simp) ?_
    refine x_aload_n dX12_send_0 x_get_3_0 ?_
    refine x_iconst dX12_send_1 ?_
    refine x_putI 0 dX12_send_2 fX_12_117 rfl tX_12_0 n62 s62 (by rfl) ?_
    have z0 := m_go0 hq hr hv84
    generalize x_up D 62 (x_u1 (D 62) 0 0) = d0 at z0 ⊢
    obtain ⟨q0, t0, ms0, r0, v0⟩ := z0
    refine x_aload_n dX12_send_5 x_get_3_0 ?_
    refine x_iload_n dX12_send_6 x_get_3_1 ?_
    refine x_callV (As := [_]) dX12_send_7 w_12_368 (m_isCrateT hl q0 t0 hc) (by assumption) (by assumption) rfl rfl (Nat.le_of_ble_eq_true rfl) (Nat.le_of_ble_eq_true rfl) (Nat.le_of_ble_eq_true rfl) (Nat.le_of_ble_eq_true rfl) (Nat.le_of_ble_eq_true rfl) ?_
    intro dz hdz
    obtain rfl := Eq.symm hdz
    refine r_if_eq (t := 21) dX12_send_10 rfl ⟨by omega, by omega⟩ (fun hc10 => absurd hc10 (by omega)) (fun hc10 => ?_)
    refine x_aload_n dX12_send_13 x_get_3_0 ?_
    refine x_iload_n dX12_send_14 x_get_3_2 ?_
    refine x_callV (As := [_]) dX12_send_15 w_12_377 (m_isWayF hl q0 t0 hwr (fun hh => h ⟨hc, hh⟩)) (by assumption) (by assumption) rfl rfl (Nat.le_of_ble_eq_true rfl) (Nat.le_of_ble_eq_true rfl) (Nat.le_of_ble_eq_true rfl) (Nat.le_of_ble_eq_true rfl) (Nat.le_of_ble_eq_true rfl) ?_
    intro dz hdz
    obtain rfl := Eq.symm hdz
    refine r_if_ne (t := 23) dX12_send_18 rfl ⟨by omega, by omega⟩ (fun hc18 => absurd hc18 (by omega)) (fun hc18 => ?_)
    refine x_iconst dX12_send_21 ?_
    exact x_iret dX12_send_22 rfl (Nat.le_of_ble_eq_true rfl) (Nat.le_of_ble_eq_true rfl) rfl rfl rfl ⟨ms_thr ms0, by rw [x_up_s, x_u1_s]⟩ rfl
  · refine x_ofW (by decide +kernel) hl (by simp [Value.category]) (by simp) ?_
    refine x_aload_n dX12_send_0 x_get_3_0 ?_
    refine x_iconst dX12_send_1 ?_
    refine x_putI 0 dX12_send_2 fX_12_117 rfl tX_12_0 n62 s62 (by rfl) ?_
    have z0 := m_go0 hq hr hv84
    generalize x_up D 62 (x_u1 (D 62) 0 0) = d0 at z0 ⊢
    obtain ⟨q0, t0, ms0, r0, v0⟩ := z0
    refine x_aload_n dX12_send_5 x_get_3_0 ?_
    refine x_iload_n dX12_send_6 x_get_3_1 ?_
    refine x_callV (As := [_]) dX12_send_7 w_12_368 (m_isCrateF hl q0 t0 hcr hc) (by assumption) (by assumption) rfl rfl (Nat.le_of_ble_eq_true rfl) (Nat.le_of_ble_eq_true rfl) (Nat.le_of_ble_eq_true rfl) (Nat.le_of_ble_eq_true rfl) (Nat.le_of_ble_eq_true rfl) ?_
    intro dz hdz
    obtain rfl := Eq.symm hdz
    refine r_if_eq (t := 21) dX12_send_10 rfl ⟨by omega, by omega⟩ (fun hc10 => ?_) (fun hc10 => absurd hc10 (by omega))
    refine x_iconst dX12_send_21 ?_
    exact x_iret dX12_send_22 rfl (Nat.le_of_ble_eq_true rfl) (Nat.le_of_ble_eq_true rfl) rfl rfl rfl ⟨ms_thr ms0, by rw [x_up_s, x_u1_s]⟩ rfl
theorem m_open {X : xC} {l : Launch} (hl : l.stackTraces = false) {N : Nat} {sh : xS} {D : xM} {T C W : Nat} {G : Ldt} (hq : mq N sh D T C W G) {B : Int} {f : Int → Int} (hk : s_ok B f) (hB : B ≤ 200000) (hr : mr T C f (D 82) 0) (hv84 : ∀ j, x_r (D 84 j)) {L : List (Int → Int)} (hA : mact T C D L) {c : Int} (hc0 : 0 ≤ c) (hc1 : c < C) (hpl : pl_ok T C f) (hli : s_lies f c) : x_M X l yX12_open cX12_open 3 (some .int) 4 0 0 [.ref (x_b X + 62), .int (xI c)] false N sh D (.inl (some (.int (xI (f (25 + c)))))) false N sh (fun d => am D d ∧ mr T C (s_opn f c) (d 82) 0 ∧ mact T C d (l_keep L f)) := by
  obtain ⟨hM, hT, hTb, hW, hWb, hC, hCb, hmk, ⟨hG1, hG2, hG3⟩, hod⟩ := id hq
  have s62 := md_62 hM
  have n62 : 62 < N := md_n hM (by decide)
  have s82 := md_82 hM
  have n82 : 82 < N := md_n hM (by decide)
  have hcr := s_cr hk (c := c) (by omega) (by omega)
  have hp := hpl c hc0 hc1
  have hp2 := hli.1
  have hp3 := hli.2
  refine x_ofW (by decide +kernel) hl (by simp [Value.category]) (by simp) ?_
  refine x_aload_n dX12_open_0 x_get_3_0 ?_
  refine x_iconst dX12_open_1 ?_
  refine x_putI 0 dX12_open_2 fX_12_117 rfl tX_12_0 n62 s62 (by rfl) ?_
  have z0 := m_go0 hq hr hv84
  have g1 : ∀ j, j ≠ 62 → (x_up D 62 (x_u1 (D 62) 0 0)) j = D j := fun j a => x_up_n a
  have g2 : ∀ i, i ≠ 0 → (x_up D 62 (x_u1 (D 62) 0 0)) 62 i = D 62 i := fun i a => by rw [x_up_s, x_u1_n a]
  generalize x_up D 62 (x_u1 (D 62) 0 0) = d0 at z0 g1 g2 ⊢
  obtain ⟨q0, t0, ms0, r0, v0⟩ := z0
  refine x_aload_n dX12_open_5 x_get_3_0 ?_
  refine x_iload_n dX12_open_6 x_get_3_1 ?_
  refine x_callV (As := [_]) dX12_open_7 w_12_368 (m_isCrateT hl q0 t0 ⟨hc0, hc1⟩) (by assumption) (by assumption) rfl rfl (Nat.le_of_ble_eq_true rfl) (Nat.le_of_ble_eq_true rfl) (Nat.le_of_ble_eq_true rfl) (Nat.le_of_ble_eq_true rfl) (Nat.le_of_ble_eq_true rfl) ?_
  intro dz hdz
  obtain rfl := Eq.symm hdz
  refine r_if_ne (t := 15) dX12_open_10 rfl ⟨by omega, by omega⟩ (fun hc10 => ?_) (fun hc10 => absurd hc10 (by omega))
  refine x_aload_n dX12_open_15 x_get_3_0 ?_
  refine x_iconst dX12_open_16 ?_
  refine x_iload_n dX12_open_17 x_get_3_1 ?_
  refine x_callV (As := [_, _]) dX12_open_18 w_12_308 (m_lies hl q0 hk (by omega) (Or.inl rfl) r0 hc0 hc1) (by assumption) (by assumption) rfl rfl (Nat.le_of_ble_eq_true rfl) (Nat.le_of_ble_eq_true rfl) (Nat.le_of_ble_eq_true rfl) (Nat.le_of_ble_eq_true rfl) (Nat.le_of_ble_eq_true rfl) ?_
  intro dz hdz
  obtain rfl := Eq.symm hdz
  refine b_ifne (t := 30) dX12_open_21 rfl (fun hc21 => ?_) (fun hc21 => absurd hc21 (fun h => h hli))
  refine x_aload_n dX12_open_30 x_get_3_0 ?_
  refine x_callV (As := []) dX12_open_31 w_12_374 (m_keeps hl q0 r0 (mact_of hA (g2 44 (by decide)) (g1 83 (by decide)))) (by assumption) (by assumption) rfl rfl (Nat.le_of_ble_eq_true rfl) (Nat.le_of_ble_eq_true rfl) (Nat.le_of_ble_eq_true rfl) (Nat.le_of_ble_eq_true rfl) (Nat.le_of_ble_eq_true rfl) ?_
  rintro d1 ⟨k1, k2, k3⟩
  have q1 : mq N sh d1 T C W G := mq_of q0 (fun i _ _ => k2 i (by omega)) (fun j a b => k1 j (by omega) (by omega))
  have r1 : mr T C f (d1 82) 0 := by rw [k1 82 (by decide) (by decide)]; exact r0
  have v1 : ∀ j, x_r (d1 84 j) := by rw [k1 84 (by decide) (by decide)]; exact v0
  have a1 : am D d1 := ⟨fun j a b c e g => by rw [k1 j a c, g1 j a], fun i a b c => by rw [k2 i b, g2 i a], by rw [k2 0 (by decide)]; exact t0, v1⟩
  have e25 : d1 82 (25 + c) = f (25 + c) := mr_c r1 rfl (by decide) hc0 hc1
  refine x_aload_n dX12_open_34 x_get_3_0 ?_
  refine x_getR dX12_open_35 fX_12_75 n62 s62 (by rfl) ?_
  refine x_bipush dX12_open_38 rfl ?_
  refine x_iload_n dX12_open_40 x_get_3_1 ?_
  refine x_iadd dX12_open_41 ?_
  refine x_iald dX12_open_42 n82 s82 (by omega) (by omega) (by decide) ?_
  try simp (disch := decide) only [x_up_s, x_up_n, x_up_up, x_u1_s, x_u1_n, e25]
  refine x_istore_n dX12_open_43 (Nat.le_of_ble_eq_true rfl) rfl x_set_3_2 ?_
  refine x_aload_n dX12_open_44 x_get_3_0 ?_
  refine x_iconst dX12_open_45 ?_
  refine x_iload_n dX12_open_46 x_get_3_1 ?_
  refine x_callV (As := [_, _]) dX12_open_47 w_12_383 (m_opens hl q1 hk (by omega) (Or.inl rfl) r1 hc0 hc1 (by omega) (by omega) (by omega)) (by assumption) (by assumption) rfl rfl (Nat.le_of_ble_eq_true rfl) (Nat.le_of_ble_eq_true rfl) (Nat.le_of_ble_eq_true rfl) (Nat.le_of_ble_eq_true rfl) (Nat.le_of_ble_eq_true rfl) ?_
  rintro d2 w2
  refine x_iload_n dX12_open_50 x_get_3_2 ?_
  exact x_iret dX12_open_51 rfl (Nat.le_of_ble_eq_true rfl) (Nat.le_of_ble_eq_true rfl) rfl rfl rfl ⟨am_w a1 w2, w2.2.1, mact_w k3 w2⟩ rfl
theorem m_openR {X : xC} {l : Launch} (hl : l.stackTraces = false) {N : Nat} {sh : xS} {D : xM} {T C W : Nat} {G : Ldt} (hq : mq N sh D T C W G) {B : Int} {f : Int → Int} (hk : s_ok B f) (hB : B ≤ 200000) (hr : mr T C f (D 82) 0) (hv84 : ∀ j, x_r (D 84 j)) {c : Int} (hc0 : 0 ≤ c) (hc1 : c < C) (hli : ¬ s_lies f c) : x_M X l yX12_open cX12_open 3 (some .int) 4 0 0 [.ref (x_b X + 62), .int (xI c)] false N sh D (.inl (some (.int (xI (-1))))) false N sh (x_is (m_rf 1 D)) := by
  obtain ⟨hM, hT, hTb, hW, hWb, hC, hCb, hmk, ⟨hG1, hG2, hG3⟩, hod⟩ := id hq
  have s62 := md_62 hM
  have n62 : 62 < N := md_n hM (by decide)
  have s82 := md_82 hM
  have n82 : 82 < N := md_n hM (by decide)
  refine x_ofW (by decide +kernel) hl (by simp [Value.category]) (by simp) ?_
  refine x_aload_n dX12_open_0 x_get_3_0 ?_
  refine x_iconst dX12_open_1 ?_
  refine x_putI 0 dX12_open_2 fX_12_117 rfl tX_12_0 n62 s62 (by rfl) ?_
  have z0 := m_go0 hq hr hv84
  generalize hd0 : x_up D 62 (x_u1 (D 62) 0 0) = d0 at z0 ⊢
  obtain ⟨q0, t0, ms0, r0, v0⟩ := z0
  have e71 : d0 71 = D 71 := by rw [← hd0, x_up_n (by decide)]
  refine x_aload_n dX12_open_5 x_get_3_0 ?_
  refine x_iload_n dX12_open_6 x_get_3_1 ?_
  refine x_callV (As := [_]) dX12_open_7 w_12_368 (m_isCrateT hl q0 t0 ⟨hc0, hc1⟩) (by assumption) (by assumption) rfl rfl (Nat.le_of_ble_eq_true rfl) (Nat.le_of_ble_eq_true rfl) (Nat.le_of_ble_eq_true rfl) (Nat.le_of_ble_eq_true rfl) (Nat.le_of_ble_eq_true rfl) ?_
  intro dz hdz
  obtain rfl := Eq.symm hdz
  refine r_if_ne (t := 15) dX12_open_10 rfl ⟨by omega, by omega⟩ (fun hc10 => ?_) (fun hc10 => absurd hc10 (by omega))
  refine x_aload_n dX12_open_15 x_get_3_0 ?_
  refine x_iconst dX12_open_16 ?_
  refine x_iload_n dX12_open_17 x_get_3_1 ?_
  refine x_callV (As := [_, _]) dX12_open_18 w_12_308 (m_lies hl q0 hk (by omega) (Or.inl rfl) r0 hc0 hc1) (by assumption) (by assumption) rfl rfl (Nat.le_of_ble_eq_true rfl) (Nat.le_of_ble_eq_true rfl) (Nat.le_of_ble_eq_true rfl) (Nat.le_of_ble_eq_true rfl) (Nat.le_of_ble_eq_true rfl) ?_
  intro dz hdz
  obtain rfl := Eq.symm hdz
  refine b_ifne (t := 30) dX12_open_21 rfl (fun hc21 => absurd hc21 (hli)) (fun hc21 => ?_)
  refine x_aload_n dX12_open_24 x_get_3_0 ?_
  refine x_iconst dX12_open_25 ?_
  refine x_callV (As := [_]) dX12_open_26 w_12_371 (m_refuses hl q0.1 (w := 1) (by decide) (by decide)) (by assumption) (by assumption) rfl rfl (Nat.le_of_ble_eq_true rfl) (Nat.le_of_ble_eq_true rfl) (Nat.le_of_ble_eq_true rfl) (Nat.le_of_ble_eq_true rfl) (Nat.le_of_ble_eq_true rfl) ?_
  intro dz hdz
  obtain rfl := Eq.symm hdz
  exact x_iret dX12_open_29 rfl (Nat.le_of_ble_eq_true rfl) (Nat.le_of_ble_eq_true rfl) rfl rfl rfl (by show _ = _; unfold m_rf; rw [e71, hd0]) rfl
theorem m_openT {X : xC} {l : Launch} (hl : l.stackTraces = false) {N : Nat} {sh : xS} {D : xM} {T C W : Nat} {G : Ldt} (hq : mq N sh D T C W G) {B : Int} {f : Int → Int} (hk : s_ok B f) (hB : B ≤ 200000) (hr : mr T C f (D 82) 0) (hv84 : ∀ j, x_r (D 84 j)) {c : Int} (hcr : x_r c) (hc : ¬ (0 ≤ c ∧ c < C)) : x_M X l yX12_open cX12_open 3 (some .int) 4 0 0 [.ref (x_b X + 62), .int (xI c)] false N sh D (.inl (some (.int (xI (0))))) false N sh (fun d => ms D d ∧ d 62 0 = 1) := by
  obtain ⟨hM, hT, hTb, hW, hWb, hC, hCb, hmk, ⟨hG1, hG2, hG3⟩, hod⟩ := id hq
  have s62 := md_62 hM
  have n62 : 62 < N := md_n hM (by decide)
  have s82 := md_82 hM
  have n82 : 82 < N := md_n hM (by decide)
  refine x_ofW (by decide +kernel) hl (by simp [Value.category]) (by simp) ?_
  refine x_aload_n dX12_open_0 x_get_3_0 ?_
  refine x_iconst dX12_open_1 ?_
  refine x_putI 0 dX12_open_2 fX_12_117 rfl tX_12_0 n62 s62 (by rfl) ?_
  have z0 := m_go0 hq hr hv84
  generalize x_up D 62 (x_u1 (D 62) 0 0) = d0 at z0 ⊢
  obtain ⟨q0, t0, ms0, r0, v0⟩ := z0
  refine x_aload_n dX12_open_5 x_get_3_0 ?_
  refine x_iload_n dX12_open_6 x_get_3_1 ?_
  refine x_callV (As := [_]) dX12_open_7 w_12_368 (m_isCrateF hl q0 t0 hcr hc) (by assumption) (by assumption) rfl rfl (Nat.le_of_ble_eq_true rfl) (Nat.le_of_ble_eq_true rfl) (Nat.le_of_ble_eq_true rfl) (Nat.le_of_ble_eq_true rfl) (Nat.le_of_ble_eq_true rfl) ?_
  intro dz hdz
  obtain rfl := Eq.symm hdz
  refine r_if_ne (t := 15) dX12_open_10 rfl ⟨by omega, by omega⟩ (fun hc10 => absurd hc10 (by omega)) (fun hc10 => ?_)
  refine x_iconst dX12_open_13 ?_
  exact x_iret dX12_open_14 rfl (Nat.le_of_ble_eq_true rfl) (Nat.le_of_ble_eq_true rfl) rfl rfl rfl ⟨ms_thr ms0, by rw [x_up_s, x_u1_s]⟩ rfl
theorem m_catT {X : xC} {l : Launch} (hl : l.stackTraces = false) {N : Nat} {sh : xS} {D : xM} {T C W : Nat} {G : Ldt} (hq : mq N sh D T C W G) {B : Int} {f : Int → Int} (hk : s_ok B f) (hB : B ≤ 200000) (hr : mr T C f (D 82) 0) (hv84 : ∀ j, x_r (D 84 j)) {c : Int} {b : Int} (hcr : x_r c) (hc : ¬ (0 ≤ c ∧ c < C)) : x_M X l yX12_cat cX12_cat 4 (some .boolean) 4 0 0 [.ref (x_b X + 62), .int (xI c), .int (xI b)] false N sh D (.inl (some (.int (xI (0))))) false N sh (fun d => ms D d ∧ d 62 0 = 1) := by
  obtain ⟨hM, hT, hTb, hW, hWb, hC, hCb, hmk, ⟨hG1, hG2, hG3⟩, hod⟩ := id hq
  have s62 := md_62 hM
  have n62 : 62 < N := md_n hM (by decide)
  have s82 := md_82 hM
  have n82 : 82 < N := md_n hM (by decide)
  refine x_ofW (by decide +kernel) hl (by simp [Value.category]) (by simp) ?_
  refine x_aload_n dX12_cat_0 x_get_4_0 ?_
  refine x_iconst dX12_cat_1 ?_
  refine x_putI 0 dX12_cat_2 fX_12_117 rfl tX_12_0 n62 s62 (by rfl) ?_
  have z0 := m_go0 hq hr hv84
  generalize x_up D 62 (x_u1 (D 62) 0 0) = d0 at z0 ⊢
  obtain ⟨q0, t0, ms0, r0, v0⟩ := z0
  refine x_aload_n dX12_cat_5 x_get_4_0 ?_
  refine x_iload_n dX12_cat_6 x_get_4_1 ?_
  refine x_callV (As := [_]) dX12_cat_7 w_12_368 (m_isCrateF hl q0 t0 hcr hc) (by assumption) (by assumption) rfl rfl (Nat.le_of_ble_eq_true rfl) (Nat.le_of_ble_eq_true rfl) (Nat.le_of_ble_eq_true rfl) (Nat.le_of_ble_eq_true rfl) (Nat.le_of_ble_eq_true rfl) ?_
  intro dz hdz
  obtain rfl := Eq.symm hdz
  refine r_if_ne (t := 15) dX12_cat_10 rfl ⟨by omega, by omega⟩ (fun hc10 => absurd hc10 (by omega)) (fun hc10 => ?_)
  refine x_iconst dX12_cat_13 ?_
  exact x_zret dX12_cat_14 rfl (by omega) (Nat.le_of_ble_eq_true rfl) (Nat.le_of_ble_eq_true rfl) rfl rfl rfl ⟨ms_thr ms0, by rw [x_up_s, x_u1_s]⟩ rfl
theorem m_cat {X : xC} {l : Launch} (hl : l.stackTraces = false) {N : Nat} {sh : xS} {D : xM} {T C W : Nat} {G : Ldt} (hq : mq N sh D T C W G) {B : Int} {f : Int → Int} (hk : s_ok B f) (hB : B ≤ 200000) (hr : mr T C f (D 82) 0) (hv84 : ∀ j, x_r (D 84 j)) {L : List (Int → Int)} (hA : mact T C D L) {c : Int} (hc0 : 0 ≤ c) (hc1 : c < C) {v : Int} (hb : v = 0 ∨ v = 1) (hg : ¬ s_gone f c) (hne : ¬ f (45 + c) = v) : x_M X l yX12_cat cX12_cat 4 (some .boolean) 4 0 0 [.ref (x_b X + 62), .int (xI c), .int (xI v)] false N sh D (.inl (some (.int (xI (1))))) false N sh (fun d => am D d ∧ mr T C (x_u1 f (45 + c) v) (d 82) 0 ∧ mact T C d (l_keep L f)) := by
  obtain ⟨hM, hT, hTb, hW, hWb, hC, hCb, hmk, ⟨hG1, hG2, hG3⟩, hod⟩ := id hq
  have s62 := md_62 hM
  have n62 : 62 < N := md_n hM (by decide)
  have s82 := md_82 hM
  have n82 : 82 < N := md_n hM (by decide)
  have hcr := s_cr hk (c := c) (by omega) (by omega)
  rcases hb with rfl | rfl
  · refine x_ofW (by decide +kernel) hl (by simp [Value.category]) (by simp) ?_
    refine x_aload_n dX12_cat_0 x_get_4_0 ?_
    refine x_iconst dX12_cat_1 ?_
    refine x_putI 0 dX12_cat_2 fX_12_117 rfl tX_12_0 n62 s62 (by rfl) ?_
    have z0 := m_go0 hq hr hv84
    have g1 : ∀ j, j ≠ 62 → (x_up D 62 (x_u1 (D 62) 0 0)) j = D j := fun j a => x_up_n a
    have g2 : ∀ i, i ≠ 0 → (x_up D 62 (x_u1 (D 62) 0 0)) 62 i = D 62 i := fun i a => by rw [x_up_s, x_u1_n a]
    generalize x_up D 62 (x_u1 (D 62) 0 0) = d0 at z0 g1 g2 ⊢
    obtain ⟨q0, t0, ms0, r0, v0⟩ := z0
    have e55 : d0 82 (55 + c) = f (55 + c) := mr_c r0 rfl (by decide) hc0 hc1
    have e45 : d0 82 (45 + c) = f (45 + c) := mr_c r0 rfl (by decide) hc0 hc1
    refine x_aload_n dX12_cat_5 x_get_4_0 ?_
    refine x_iload_n dX12_cat_6 x_get_4_1 ?_
    refine x_callV (As := [_]) dX12_cat_7 w_12_368 (m_isCrateT hl q0 t0 ⟨hc0, hc1⟩) (by assumption) (by assumption) rfl rfl (Nat.le_of_ble_eq_true rfl) (Nat.le_of_ble_eq_true rfl) (Nat.le_of_ble_eq_true rfl) (Nat.le_of_ble_eq_true rfl) (Nat.le_of_ble_eq_true rfl) ?_
    intro dz hdz
    obtain rfl := Eq.symm hdz
    refine r_if_ne (t := 15) dX12_cat_10 rfl ⟨by omega, by omega⟩ (fun hc10 => ?_) (fun hc10 => absurd hc10 (by omega))
    refine x_iload_n dX12_cat_15 x_get_4_2 ?_
    refine r_if_eq (t := 23) dX12_cat_16 rfl ⟨by omega, by omega⟩ (fun hc16 => ?_) (fun hc16 => absurd hc16 (by omega))
    refine x_iconst dX12_cat_23 ?_
    refine x_istore_n dX12_cat_24 (Nat.le_of_ble_eq_true rfl) rfl x_set_4_3 ?_
    refine x_aload_n dX12_cat_25 x_get_4_0 ?_
    refine x_getR dX12_cat_26 fX_12_75 n62 s62 (by rfl) ?_
    refine x_bipush dX12_cat_29 rfl ?_
    refine x_iload_n dX12_cat_31 x_get_4_1 ?_
    refine x_iadd dX12_cat_32 ?_
    refine x_iald dX12_cat_33 n82 s82 (by omega) (by omega) (by decide) ?_
    try simp (disch := decide) only [x_up_s, x_up_n, x_up_up, x_u1_s, x_u1_n, e55, e45]
    refine x_iconst dX12_cat_34 ?_
    refine r_icmp_eq (t := 51) dX12_cat_35 rfl ⟨by omega, by omega⟩ ⟨by omega, by omega⟩ (fun hc35 => absurd hc35 (by omega)) (fun hc35 => ?_)
    refine x_aload_n dX12_cat_38 x_get_4_0 ?_
    refine x_getR dX12_cat_39 fX_12_75 n62 s62 (by rfl) ?_
    refine x_bipush dX12_cat_42 rfl ?_
    refine x_iload_n dX12_cat_44 x_get_4_1 ?_
    refine x_iadd dX12_cat_45 ?_
    refine x_iald dX12_cat_46 n82 s82 (by omega) (by omega) (by decide) ?_
    try simp (disch := decide) only [x_up_s, x_up_n, x_up_up, x_u1_s, x_u1_n, e55, e45]
    refine x_iload_n dX12_cat_47 x_get_4_3 ?_
    refine r_icmp_ne (t := 65) dX12_cat_48 rfl ⟨by omega, by omega⟩ ⟨by omega, by omega⟩ (fun hc48 => ?_) (fun hc48 => absurd hc48 (by omega))
    refine x_aload_n dX12_cat_65 x_get_4_0 ?_
    refine x_callV (As := []) dX12_cat_66 w_12_374 (m_keeps hl q0 r0 (mact_of hA (g2 44 (by decide)) (g1 83 (by decide)))) (by assumption) (by assumption) rfl rfl (Nat.le_of_ble_eq_true rfl) (Nat.le_of_ble_eq_true rfl) (Nat.le_of_ble_eq_true rfl) (Nat.le_of_ble_eq_true rfl) (Nat.le_of_ble_eq_true rfl) ?_
    rintro d1 ⟨k1, k2, k3⟩
    have q1 : mq N sh d1 T C W G := mq_of q0 (fun i _ _ => k2 i (by omega)) (fun j a b => k1 j (by omega) (by omega))
    have r1 : mr T C f (d1 82) 0 := by rw [k1 82 (by decide) (by decide)]; exact r0
    have v1 : ∀ j, x_r (d1 84 j) := by rw [k1 84 (by decide) (by decide)]; exact v0
    have a1 : am D d1 := ⟨fun j a b c e g => by rw [k1 j a c, g1 j a], fun i a b c => by rw [k2 i b, g2 i a], by rw [k2 0 (by decide)]; exact t0, v1⟩
    refine x_aload_n dX12_cat_69 x_get_4_0 ?_
    refine x_getR dX12_cat_70 fX_12_75 n62 s62 (by rfl) ?_
    refine x_bipush dX12_cat_73 rfl ?_
    refine x_iload_n dX12_cat_75 x_get_4_1 ?_
    refine x_iadd dX12_cat_76 ?_
    refine x_iload_n dX12_cat_77 x_get_4_3 ?_
    refine x_iast dX12_cat_78 n82 s82 (by omega) (by omega) (by decide) ?_
    refine x_iconst dX12_cat_79 ?_
    exact x_zret dX12_cat_80 rfl (by omega) (Nat.le_of_ble_eq_true rfl) (Nat.le_of_ble_eq_true rfl) rfl rfl rfl ⟨am_w a1 (m_w_u1 (m_w_rf r1) (k := 45 + c) (by omega) (by omega) (by omega)), (m_w_u1 (m_w_rf r1) (k := 45 + c) (by omega) (by omega) (by omega)).2.1, mact_w k3 (m_w_u1 (m_w_rf r1) (k := 45 + c) (by omega) (by omega) (by omega))⟩ rfl
  · refine x_ofW (by decide +kernel) hl (by simp [Value.category]) (by simp) ?_
    refine x_aload_n dX12_cat_0 x_get_4_0 ?_
    refine x_iconst dX12_cat_1 ?_
    refine x_putI 0 dX12_cat_2 fX_12_117 rfl tX_12_0 n62 s62 (by rfl) ?_
    have z0 := m_go0 hq hr hv84
    have g1 : ∀ j, j ≠ 62 → (x_up D 62 (x_u1 (D 62) 0 0)) j = D j := fun j a => x_up_n a
    have g2 : ∀ i, i ≠ 0 → (x_up D 62 (x_u1 (D 62) 0 0)) 62 i = D 62 i := fun i a => by rw [x_up_s, x_u1_n a]
    generalize x_up D 62 (x_u1 (D 62) 0 0) = d0 at z0 g1 g2 ⊢
    obtain ⟨q0, t0, ms0, r0, v0⟩ := z0
    have e55 : d0 82 (55 + c) = f (55 + c) := mr_c r0 rfl (by decide) hc0 hc1
    have e45 : d0 82 (45 + c) = f (45 + c) := mr_c r0 rfl (by decide) hc0 hc1
    refine x_aload_n dX12_cat_5 x_get_4_0 ?_
    refine x_iload_n dX12_cat_6 x_get_4_1 ?_
    refine x_callV (As := [_]) dX12_cat_7 w_12_368 (m_isCrateT hl q0 t0 ⟨hc0, hc1⟩) (by assumption) (by assumption) rfl rfl (Nat.le_of_ble_eq_true rfl) (Nat.le_of_ble_eq_true rfl) (Nat.le_of_ble_eq_true rfl) (Nat.le_of_ble_eq_true rfl) (Nat.le_of_ble_eq_true rfl) ?_
    intro dz hdz
    obtain rfl := Eq.symm hdz
    refine r_if_ne (t := 15) dX12_cat_10 rfl ⟨by omega, by omega⟩ (fun hc10 => ?_) (fun hc10 => absurd hc10 (by omega))
    refine x_iload_n dX12_cat_15 x_get_4_2 ?_
    refine r_if_eq (t := 23) dX12_cat_16 rfl ⟨by omega, by omega⟩ (fun hc16 => absurd hc16 (by omega)) (fun hc16 => ?_)
    refine x_iconst dX12_cat_19 ?_
    refine x_goto (t := 24) dX12_cat_20 rfl ?_
    refine x_istore_n dX12_cat_24 (Nat.le_of_ble_eq_true rfl) rfl x_set_4_3 ?_
    refine x_aload_n dX12_cat_25 x_get_4_0 ?_
    refine x_getR dX12_cat_26 fX_12_75 n62 s62 (by rfl) ?_
    refine x_bipush dX12_cat_29 rfl ?_
    refine x_iload_n dX12_cat_31 x_get_4_1 ?_
    refine x_iadd dX12_cat_32 ?_
    refine x_iald dX12_cat_33 n82 s82 (by omega) (by omega) (by decide) ?_
    try simp (disch := decide) only [x_up_s, x_up_n, x_up_up, x_u1_s, x_u1_n, e55, e45]
    refine x_iconst dX12_cat_34 ?_
    refine r_icmp_eq (t := 51) dX12_cat_35 rfl ⟨by omega, by omega⟩ ⟨by omega, by omega⟩ (fun hc35 => absurd hc35 (by omega)) (fun hc35 => ?_)
    refine x_aload_n dX12_cat_38 x_get_4_0 ?_
    refine x_getR dX12_cat_39 fX_12_75 n62 s62 (by rfl) ?_
    refine x_bipush dX12_cat_42 rfl ?_
    refine x_iload_n dX12_cat_44 x_get_4_1 ?_
    refine x_iadd dX12_cat_45 ?_
    refine x_iald dX12_cat_46 n82 s82 (by omega) (by omega) (by decide) ?_
    try simp (disch := decide) only [x_up_s, x_up_n, x_up_up, x_u1_s, x_u1_n, e55, e45]
    refine x_iload_n dX12_cat_47 x_get_4_3 ?_
    refine r_icmp_ne (t := 65) dX12_cat_48 rfl ⟨by omega, by omega⟩ ⟨by omega, by omega⟩ (fun hc48 => ?_) (fun hc48 => absurd hc48 (by omega))
    refine x_aload_n dX12_cat_65 x_get_4_0 ?_
    refine x_callV (As := []) dX12_cat_66 w_12_374 (m_keeps hl q0 r0 (mact_of hA (g2 44 (by decide)) (g1 83 (by decide)))) (by assumption) (by assumption) rfl rfl (Nat.le_of_ble_eq_true rfl) (Nat.le_of_ble_eq_true rfl) (Nat.le_of_ble_eq_true rfl) (Nat.le_of_ble_eq_true rfl) (Nat.le_of_ble_eq_true rfl) ?_
    rintro d1 ⟨k1, k2, k3⟩
    have q1 : mq N sh d1 T C W G := mq_of q0 (fun i _ _ => k2 i (by omega)) (fun j a b => k1 j (by omega) (by omega))
    have r1 : mr T C f (d1 82) 0 := by rw [k1 82 (by decide) (by decide)]; exact r0
    have v1 : ∀ j, x_r (d1 84 j) := by rw [k1 84 (by decide) (by decide)]; exact v0
    have a1 : am D d1 := ⟨fun j a b c e g => by rw [k1 j a c, g1 j a], fun i a b c => by rw [k2 i b, g2 i a], by rw [k2 0 (by decide)]; exact t0, v1⟩
    refine x_aload_n dX12_cat_69 x_get_4_0 ?_
    refine x_getR dX12_cat_70 fX_12_75 n62 s62 (by rfl) ?_
    refine x_bipush dX12_cat_73 rfl ?_
    refine x_iload_n dX12_cat_75 x_get_4_1 ?_
    refine x_iadd dX12_cat_76 ?_
    refine x_iload_n dX12_cat_77 x_get_4_3 ?_
    refine x_iast dX12_cat_78 n82 s82 (by omega) (by omega) (by decide) ?_
    refine x_iconst dX12_cat_79 ?_
    exact x_zret dX12_cat_80 rfl (by omega) (Nat.le_of_ble_eq_true rfl) (Nat.le_of_ble_eq_true rfl) rfl rfl rfl ⟨am_w a1 (m_w_u1 (m_w_rf r1) (k := 45 + c) (by omega) (by omega) (by omega)), (m_w_u1 (m_w_rf r1) (k := 45 + c) (by omega) (by omega) (by omega)).2.1, mact_w k3 (m_w_u1 (m_w_rf r1) (k := 45 + c) (by omega) (by omega) (by omega))⟩ rfl
theorem m_catR {X : xC} {l : Launch} (hl : l.stackTraces = false) {N : Nat} {sh : xS} {D : xM} {T C W : Nat} {G : Ldt} (hq : mq N sh D T C W G) {B : Int} {f : Int → Int} (hk : s_ok B f) (hB : B ≤ 200000) (hr : mr T C f (D 82) 0) (hv84 : ∀ j, x_r (D 84 j)) {c : Int} (hc0 : 0 ≤ c) (hc1 : c < C) {v : Int} (hb : v = 0 ∨ v = 1) (h : ¬ (¬ s_gone f c ∧ ¬ f (45 + c) = v)) : x_M X l yX12_cat cX12_cat 4 (some .boolean) 4 0 0 [.ref (x_b X + 62), .int (xI c), .int (xI v)] false N sh D (.inl (some (.int (xI (0))))) false N sh (x_is (m_rf 1 D)) := by
  obtain ⟨hM, hT, hTb, hW, hWb, hC, hCb, hmk, ⟨hG1, hG2, hG3⟩, hod⟩ := id hq
  have s62 := md_62 hM
  have n62 : 62 < N := md_n hM (by decide)
  have s82 := md_82 hM
  have n82 : 82 < N := md_n hM (by decide)
  have hcr := s_cr hk (c := c) (by omega) (by omega)
  rcases hb with rfl | rfl
  · refine x_ofW (by decide +kernel) hl (by simp [Value.category]) (by simp) ?_
    refine x_aload_n dX12_cat_0 x_get_4_0 ?_
    refine x_iconst dX12_cat_1 ?_
    refine x_putI 0 dX12_cat_2 fX_12_117 rfl tX_12_0 n62 s62 (by rfl) ?_
    have z0 := m_go0 hq hr hv84
    generalize hd0 : x_up D 62 (x_u1 (D 62) 0 0) = d0 at z0 ⊢
    obtain ⟨q0, t0, ms0, r0, v0⟩ := z0
    have e71 : d0 71 = D 71 := by rw [← hd0, x_up_n (by decide)]
    have e55 : d0 82 (55 + c) = f (55 + c) := mr_c r0 rfl (by decide) hc0 hc1
    have e45 : d0 82 (45 + c) = f (45 + c) := mr_c r0 rfl (by decide) hc0 hc1
    refine x_aload_n dX12_cat_5 x_get_4_0 ?_
    refine x_iload_n dX12_cat_6 x_get_4_1 ?_
    refine x_callV (As := [_]) dX12_cat_7 w_12_368 (m_isCrateT hl q0 t0 ⟨hc0, hc1⟩) (by assumption) (by assumption) rfl rfl (Nat.le_of_ble_eq_true rfl) (Nat.le_of_ble_eq_true rfl) (Nat.le_of_ble_eq_true rfl) (Nat.le_of_ble_eq_true rfl) (Nat.le_of_ble_eq_true rfl) ?_
    intro dz hdz
    obtain rfl := Eq.symm hdz
    refine r_if_ne (t := 15) dX12_cat_10 rfl ⟨by omega, by omega⟩ (fun hc10 => ?_) (fun hc10 => absurd hc10 (by omega))
    refine x_iload_n dX12_cat_15 x_get_4_2 ?_
    refine r_if_eq (t := 23) dX12_cat_16 rfl ⟨by omega, by omega⟩ (fun hc16 => ?_) (fun hc16 => absurd hc16 (by omega))
    refine x_iconst dX12_cat_23 ?_
    refine x_istore_n dX12_cat_24 (Nat.le_of_ble_eq_true rfl) rfl x_set_4_3 ?_
    refine x_aload_n dX12_cat_25 x_get_4_0 ?_
    refine x_getR dX12_cat_26 fX_12_75 n62 s62 (by rfl) ?_
    refine x_bipush dX12_cat_29 rfl ?_
    refine x_iload_n dX12_cat_31 x_get_4_1 ?_
    refine x_iadd dX12_cat_32 ?_
    refine x_iald dX12_cat_33 n82 s82 (by omega) (by omega) (by decide) ?_
    try simp (disch := decide) only [x_up_s, x_up_n, x_up_up, x_u1_s, x_u1_n, e55, e45]
    refine x_iconst dX12_cat_34 ?_
    refine r_icmp_eq (t := 51) dX12_cat_35 rfl ⟨by omega, by omega⟩ ⟨by omega, by omega⟩ (fun hc35 => ?_) (fun hc35 => ?_)
    · refine x_aload_n dX12_cat_51 x_get_4_0 ?_
      refine x_iconst dX12_cat_52 ?_
      refine x_callV (As := [_]) dX12_cat_53 w_12_371 (m_refuses hl q0.1 (w := 1) (by decide) (by decide)) (by assumption) (by assumption) rfl rfl (Nat.le_of_ble_eq_true rfl) (Nat.le_of_ble_eq_true rfl) (Nat.le_of_ble_eq_true rfl) (Nat.le_of_ble_eq_true rfl) (Nat.le_of_ble_eq_true rfl) ?_
      intro dz hdz
      obtain rfl := Eq.symm hdz
      refine r_if_le (t := 63) dX12_cat_56 rfl ⟨by omega, by omega⟩ (fun hc56 => ?_) (fun hc56 => absurd hc56 (by omega))
      refine x_iconst dX12_cat_63 ?_
      exact x_zret dX12_cat_64 rfl (by omega) (Nat.le_of_ble_eq_true rfl) (Nat.le_of_ble_eq_true rfl) rfl rfl rfl (by show _ = _; unfold m_rf; rw [e71, hd0]) rfl
    · refine x_aload_n dX12_cat_38 x_get_4_0 ?_
      refine x_getR dX12_cat_39 fX_12_75 n62 s62 (by rfl) ?_
      refine x_bipush dX12_cat_42 rfl ?_
      refine x_iload_n dX12_cat_44 x_get_4_1 ?_
      refine x_iadd dX12_cat_45 ?_
      refine x_iald dX12_cat_46 n82 s82 (by omega) (by omega) (by decide) ?_
      try simp (disch := decide) only [x_up_s, x_up_n, x_up_up, x_u1_s, x_u1_n, e55, e45]
      refine x_iload_n dX12_cat_47 x_get_4_3 ?_
      refine r_icmp_ne (t := 65) dX12_cat_48 rfl ⟨by omega, by omega⟩ ⟨by omega, by omega⟩ (fun hc48 => absurd hc48 (fun h2 => h ⟨hc35, h2⟩)) (fun hc48 => ?_)
      refine x_aload_n dX12_cat_51 x_get_4_0 ?_
      refine x_iconst dX12_cat_52 ?_
      refine x_callV (As := [_]) dX12_cat_53 w_12_371 (m_refuses hl q0.1 (w := 1) (by decide) (by decide)) (by assumption) (by assumption) rfl rfl (Nat.le_of_ble_eq_true rfl) (Nat.le_of_ble_eq_true rfl) (Nat.le_of_ble_eq_true rfl) (Nat.le_of_ble_eq_true rfl) (Nat.le_of_ble_eq_true rfl) ?_
      intro dz hdz
      obtain rfl := Eq.symm hdz
      refine r_if_le (t := 63) dX12_cat_56 rfl ⟨by omega, by omega⟩ (fun hc56 => ?_) (fun hc56 => absurd hc56 (by omega))
      refine x_iconst dX12_cat_63 ?_
      exact x_zret dX12_cat_64 rfl (by omega) (Nat.le_of_ble_eq_true rfl) (Nat.le_of_ble_eq_true rfl) rfl rfl rfl (by show _ = _; unfold m_rf; rw [e71, hd0]) rfl
  · refine x_ofW (by decide +kernel) hl (by simp [Value.category]) (by simp) ?_
    refine x_aload_n dX12_cat_0 x_get_4_0 ?_
    refine x_iconst dX12_cat_1 ?_
    refine x_putI 0 dX12_cat_2 fX_12_117 rfl tX_12_0 n62 s62 (by rfl) ?_
    have z0 := m_go0 hq hr hv84
    generalize hd0 : x_up D 62 (x_u1 (D 62) 0 0) = d0 at z0 ⊢
    obtain ⟨q0, t0, ms0, r0, v0⟩ := z0
    have e71 : d0 71 = D 71 := by rw [← hd0, x_up_n (by decide)]
    have e55 : d0 82 (55 + c) = f (55 + c) := mr_c r0 rfl (by decide) hc0 hc1
    have e45 : d0 82 (45 + c) = f (45 + c) := mr_c r0 rfl (by decide) hc0 hc1
    refine x_aload_n dX12_cat_5 x_get_4_0 ?_
    refine x_iload_n dX12_cat_6 x_get_4_1 ?_
    refine x_callV (As := [_]) dX12_cat_7 w_12_368 (m_isCrateT hl q0 t0 ⟨hc0, hc1⟩) (by assumption) (by assumption) rfl rfl (Nat.le_of_ble_eq_true rfl) (Nat.le_of_ble_eq_true rfl) (Nat.le_of_ble_eq_true rfl) (Nat.le_of_ble_eq_true rfl) (Nat.le_of_ble_eq_true rfl) ?_
    intro dz hdz
    obtain rfl := Eq.symm hdz
    refine r_if_ne (t := 15) dX12_cat_10 rfl ⟨by omega, by omega⟩ (fun hc10 => ?_) (fun hc10 => absurd hc10 (by omega))
    refine x_iload_n dX12_cat_15 x_get_4_2 ?_
    refine r_if_eq (t := 23) dX12_cat_16 rfl ⟨by omega, by omega⟩ (fun hc16 => absurd hc16 (by omega)) (fun hc16 => ?_)
    refine x_iconst dX12_cat_19 ?_
    refine x_goto (t := 24) dX12_cat_20 rfl ?_
    refine x_istore_n dX12_cat_24 (Nat.le_of_ble_eq_true rfl) rfl x_set_4_3 ?_
    refine x_aload_n dX12_cat_25 x_get_4_0 ?_
    refine x_getR dX12_cat_26 fX_12_75 n62 s62 (by rfl) ?_
    refine x_bipush dX12_cat_29 rfl ?_
    refine x_iload_n dX12_cat_31 x_get_4_1 ?_
    refine x_iadd dX12_cat_32 ?_
    refine x_iald dX12_cat_33 n82 s82 (by omega) (by omega) (by decide) ?_
    try simp (disch := decide) only [x_up_s, x_up_n, x_up_up, x_u1_s, x_u1_n, e55, e45]
    refine x_iconst dX12_cat_34 ?_
    refine r_icmp_eq (t := 51) dX12_cat_35 rfl ⟨by omega, by omega⟩ ⟨by omega, by omega⟩ (fun hc35 => ?_) (fun hc35 => ?_)
    · refine x_aload_n dX12_cat_51 x_get_4_0 ?_
      refine x_iconst dX12_cat_52 ?_
      refine x_callV (As := [_]) dX12_cat_53 w_12_371 (m_refuses hl q0.1 (w := 1) (by decide) (by decide)) (by assumption) (by assumption) rfl rfl (Nat.le_of_ble_eq_true rfl) (Nat.le_of_ble_eq_true rfl) (Nat.le_of_ble_eq_true rfl) (Nat.le_of_ble_eq_true rfl) (Nat.le_of_ble_eq_true rfl) ?_
      intro dz hdz
      obtain rfl := Eq.symm hdz
      refine r_if_le (t := 63) dX12_cat_56 rfl ⟨by omega, by omega⟩ (fun hc56 => ?_) (fun hc56 => absurd hc56 (by omega))
      refine x_iconst dX12_cat_63 ?_
      exact x_zret dX12_cat_64 rfl (by omega) (Nat.le_of_ble_eq_true rfl) (Nat.le_of_ble_eq_true rfl) rfl rfl rfl (by show _ = _; unfold m_rf; rw [e71, hd0]) rfl
    · refine x_aload_n dX12_cat_38 x_get_4_0 ?_
      refine x_getR dX12_cat_39 fX_12_75 n62 s62 (by rfl) ?_
      refine x_bipush dX12_cat_42 rfl ?_
      refine x_iload_n dX12_cat_44 x_get_4_1 ?_
      refine x_iadd dX12_cat_45 ?_
      refine x_iald dX12_cat_46 n82 s82 (by omega) (by omega) (by decide) ?_
      try simp (disch := decide) only [x_up_s, x_up_n, x_up_up, x_u1_s, x_u1_n, e55, e45]
      refine x_iload_n dX12_cat_47 x_get_4_3 ?_
      refine r_icmp_ne (t := 65) dX12_cat_48 rfl ⟨by omega, by omega⟩ ⟨by omega, by omega⟩ (fun hc48 => absurd hc48 (fun h2 => h ⟨hc35, h2⟩)) (fun hc48 => ?_)
      refine x_aload_n dX12_cat_51 x_get_4_0 ?_
      refine x_iconst dX12_cat_52 ?_
      refine x_callV (As := [_]) dX12_cat_53 w_12_371 (m_refuses hl q0.1 (w := 1) (by decide) (by decide)) (by assumption) (by assumption) rfl rfl (Nat.le_of_ble_eq_true rfl) (Nat.le_of_ble_eq_true rfl) (Nat.le_of_ble_eq_true rfl) (Nat.le_of_ble_eq_true rfl) (Nat.le_of_ble_eq_true rfl) ?_
      intro dz hdz
      obtain rfl := Eq.symm hdz
      refine r_if_le (t := 63) dX12_cat_56 rfl ⟨by omega, by omega⟩ (fun hc56 => ?_) (fun hc56 => absurd hc56 (by omega))
      refine x_iconst dX12_cat_63 ?_
      exact x_zret dX12_cat_64 rfl (by omega) (Nat.le_of_ble_eq_true rfl) (Nat.le_of_ble_eq_true rfl) rfl rfl rfl (by show _ = _; unfold m_rf; rw [e71, hd0]) rfl
set_option maxHeartbeats 8000000 in
theorem m_mix {X : xC} {l : Launch} (hl : l.stackTraces = false) {N : Nat} {sh : xS} {D : xM} {T C W : Nat} {G : Ldt} (hq : mq N sh D T C W G) {B : Int} {f : Int → Int} (hk : s_ok B f) (hB : B ≤ 200000) (hr : mr T C f (D 82) 0) (hv84 : ∀ j, x_r (D 84 j)) {L : List (Int → Int)} (hA : mact T C D L) {c e : Int} (hc0 : 0 ≤ c) (hc1 : c < C) (he0 : 0 ≤ e) (he1 : e < C) (hne : ¬ c = e) (hl1 : s_lies f c) (hl2 : s_lies f e) (hpe : f (55 + c) = f (55 + e)) : x_M X l yX12_mix cX12_mix 6 (some .int) 4 0 0 [.ref (x_b X + 62), .int (xI c), .int (xI e)] false N sh D (.inl (some (.int (xI (s_pour f c e (25 + c)))))) false N sh (fun d => am D d ∧ mr T C (s_pour f c e) (d 82) 0 ∧ mact T C d (l_keep L f)) := by
  obtain ⟨hM, hT, hTb, hW, hWb, hC, hCb, hmk, ⟨hG1, hG2, hG3⟩, hod⟩ := id hq
  have s62 := md_62 hM
  have n62 : 62 < N := md_n hM (by decide)
  have s82 := md_82 hM
  have n82 : 82 < N := md_n hM (by decide)
  have hcr := s_cr hk (c := c) (by omega) (by omega)
  have her := s_cr hk (c := e) (by omega) (by omega)
  by_cases hs : f (35 + c) = f (35 + e)
  · refine x_ofW (by decide +kernel) hl (by simp [Value.category]) (by simp) ?_
    refine x_aload_n dX12_mix_0 x_get_6_0 ?_
    refine x_iconst dX12_mix_1 ?_
    refine x_putI 0 dX12_mix_2 fX_12_117 rfl tX_12_0 n62 s62 (by rfl) ?_
    have z0 := m_go0 hq hr hv84
    have g1 : ∀ j, j ≠ 62 → (x_up D 62 (x_u1 (D 62) 0 0)) j = D j := fun j a => x_up_n a
    have g2 : ∀ i, i ≠ 0 → (x_up D 62 (x_u1 (D 62) 0 0)) 62 i = D 62 i := fun i a => by rw [x_up_s, x_u1_n a]
    generalize x_up D 62 (x_u1 (D 62) 0 0) = d0 at z0 g1 g2 ⊢
    obtain ⟨q0, t0, ms0, r0, v0⟩ := z0
    have e55 : d0 82 (55 + c) = f (55 + c) := mr_c r0 rfl (by decide) hc0 hc1
    have e55e : d0 82 (55 + e) = f (55 + e) := mr_c r0 rfl (by decide) he0 he1
    refine x_aload_n dX12_mix_5 x_get_6_0 ?_
    refine x_iload_n dX12_mix_6 x_get_6_1 ?_
    refine x_callV (As := [_]) dX12_mix_7 w_12_368 (m_isCrateT hl q0 t0 ⟨hc0, hc1⟩) (by assumption) (by assumption) rfl rfl (Nat.le_of_ble_eq_true rfl) (Nat.le_of_ble_eq_true rfl) (Nat.le_of_ble_eq_true rfl) (Nat.le_of_ble_eq_true rfl) (Nat.le_of_ble_eq_true rfl) ?_
    intro dz hdz
    obtain rfl := Eq.symm hdz
    refine r_if_eq (t := 21) dX12_mix_10 rfl ⟨by omega, by omega⟩ (fun hc10 => absurd hc10 (by omega)) (fun hc10 => ?_)
    refine x_aload_n dX12_mix_13 x_get_6_0 ?_
    refine x_iload_n dX12_mix_14 x_get_6_2 ?_
    refine x_callV (As := [_]) dX12_mix_15 w_12_368 (m_isCrateT hl q0 t0 ⟨he0, he1⟩) (by assumption) (by assumption) rfl rfl (Nat.le_of_ble_eq_true rfl) (Nat.le_of_ble_eq_true rfl) (Nat.le_of_ble_eq_true rfl) (Nat.le_of_ble_eq_true rfl) (Nat.le_of_ble_eq_true rfl) ?_
    intro dz hdz
    obtain rfl := Eq.symm hdz
    refine r_if_ne (t := 23) dX12_mix_18 rfl ⟨by omega, by omega⟩ (fun hc18 => ?_) (fun hc18 => absurd hc18 (by omega))
    refine x_iload_n dX12_mix_23 x_get_6_1 ?_
    refine x_iload_n dX12_mix_24 x_get_6_2 ?_
    refine r_icmp_eq (t := 67) dX12_mix_25 rfl ⟨by omega, by omega⟩ ⟨by omega, by omega⟩ (fun hc25 => absurd hc25 (by omega)) (fun hc25 => ?_)
    refine x_aload_n dX12_mix_28 x_get_6_0 ?_
    refine x_iconst dX12_mix_29 ?_
    refine x_iload_n dX12_mix_30 x_get_6_1 ?_
    refine x_callV (As := [_, _]) dX12_mix_31 w_12_308 (m_lies hl q0 hk (by omega) (Or.inl rfl) r0 hc0 hc1) (by assumption) (by assumption) rfl rfl (Nat.le_of_ble_eq_true rfl) (Nat.le_of_ble_eq_true rfl) (Nat.le_of_ble_eq_true rfl) (Nat.le_of_ble_eq_true rfl) (Nat.le_of_ble_eq_true rfl) ?_
    intro dz hdz
    obtain rfl := Eq.symm hdz
    refine b_ifeq (t := 67) dX12_mix_34 rfl (fun hc34 => absurd hc34 (fun h => h hl1)) (fun hc34 => ?_)
    refine x_aload_n dX12_mix_37 x_get_6_0 ?_
    refine x_iconst dX12_mix_38 ?_
    refine x_iload_n dX12_mix_39 x_get_6_2 ?_
    refine x_callV (As := [_, _]) dX12_mix_40 w_12_308 (m_lies hl q0 hk (by omega) (Or.inl rfl) r0 he0 he1) (by assumption) (by assumption) rfl rfl (Nat.le_of_ble_eq_true rfl) (Nat.le_of_ble_eq_true rfl) (Nat.le_of_ble_eq_true rfl) (Nat.le_of_ble_eq_true rfl) (Nat.le_of_ble_eq_true rfl) ?_
    intro dz hdz
    obtain rfl := Eq.symm hdz
    refine b_ifeq (t := 67) dX12_mix_43 rfl (fun hc43 => absurd hc43 (fun h => h hl2)) (fun hc43 => ?_)
    refine x_aload_n dX12_mix_46 x_get_6_0 ?_
    refine x_getR dX12_mix_47 fX_12_75 n62 s62 (by rfl) ?_
    refine x_bipush dX12_mix_50 rfl ?_
    refine x_iload_n dX12_mix_52 x_get_6_1 ?_
    refine x_iadd dX12_mix_53 ?_
    refine x_iald dX12_mix_54 n82 s82 (by omega) (by omega) (by decide) ?_
    try simp (disch := decide) only [x_up_s, x_up_n, x_up_up, x_u1_s, x_u1_n, e55, e55e]
    refine x_aload_n dX12_mix_55 x_get_6_0 ?_
    refine x_getR dX12_mix_56 fX_12_75 n62 s62 (by rfl) ?_
    refine x_bipush dX12_mix_59 rfl ?_
    refine x_iload_n dX12_mix_61 x_get_6_2 ?_
    refine x_iadd dX12_mix_62 ?_
    refine x_iald dX12_mix_63 n82 s82 (by omega) (by omega) (by decide) ?_
    try simp (disch := decide) only [x_up_s, x_up_n, x_up_up, x_u1_s, x_u1_n, e55, e55e]
    refine r_icmp_eq (t := 73) dX12_mix_64 rfl ⟨by omega, by omega⟩ ⟨by omega, by omega⟩ (fun hc64 => ?_) (fun hc64 => absurd hc64 (by omega))
    refine x_aload_n dX12_mix_73 x_get_6_0 ?_
    refine x_callV (As := []) dX12_mix_74 w_12_374 (m_keeps hl q0 r0 (mact_of hA (g2 44 (by decide)) (g1 83 (by decide)))) (by assumption) (by assumption) rfl rfl (Nat.le_of_ble_eq_true rfl) (Nat.le_of_ble_eq_true rfl) (Nat.le_of_ble_eq_true rfl) (Nat.le_of_ble_eq_true rfl) (Nat.le_of_ble_eq_true rfl) ?_
    rintro d1 ⟨k1, k2, k3⟩
    have q1 : mq N sh d1 T C W G := mq_of q0 (fun i _ _ => k2 i (by omega)) (fun j a b => k1 j (by omega) (by omega))
    have r1 : mr T C f (d1 82) 0 := by rw [k1 82 (by decide) (by decide)]; exact r0
    have v1 : ∀ j, x_r (d1 84 j) := by rw [k1 84 (by decide) (by decide)]; exact v0
    have a1 : am D d1 := ⟨fun j a b c e g => by rw [k1 j a c, g1 j a], fun i a b c => by rw [k2 i b, g2 i a], by rw [k2 0 (by decide)]; exact t0, v1⟩
    have e25 : d1 82 (25 + c) = f (25 + c) := mr_c r1 rfl (by decide) hc0 hc1
    have e25e : d1 82 (25 + e) = f (25 + e) := mr_c r1 rfl (by decide) he0 he1
    have e35 : d1 82 (35 + c) = f (35 + c) := mr_c r1 rfl (by decide) hc0 hc1
    have e35e : d1 82 (35 + e) = f (35 + e) := mr_c r1 rfl (by decide) he0 he1
    skip
    refine x_aload_n dX12_mix_77 x_get_6_0 ?_
    refine x_getR dX12_mix_78 fX_12_75 n62 s62 (by rfl) ?_
    refine x_bipush dX12_mix_81 rfl ?_
    refine x_iload_n dX12_mix_83 x_get_6_1 ?_
    refine x_iadd dX12_mix_84 ?_
    refine x_iald dX12_mix_85 n82 s82 (by omega) (by omega) (by decide) ?_
    try simp (disch := decide) only [x_up_s, x_up_n, x_up_up, x_u1_s, x_u1_n, e25, e25e, e35, e35e]
    refine x_istore_n dX12_mix_86 (Nat.le_of_ble_eq_true rfl) rfl x_set_6_3 ?_
    refine x_aload_n dX12_mix_87 x_get_6_0 ?_
    refine x_getR dX12_mix_88 fX_12_75 n62 s62 (by rfl) ?_
    refine x_bipush dX12_mix_91 rfl ?_
    refine x_iload_n dX12_mix_93 x_get_6_2 ?_
    refine x_iadd dX12_mix_94 ?_
    refine x_iald dX12_mix_95 n82 s82 (by omega) (by omega) (by decide) ?_
    try simp (disch := decide) only [x_up_s, x_up_n, x_up_up, x_u1_s, x_u1_n, e25, e25e, e35, e35e]
    refine x_istore dX12_mix_96 (Nat.le_of_ble_eq_true rfl) rfl x_set_6_4 ?_
    refine x_aload_n dX12_mix_98 x_get_6_0 ?_
    refine x_getR dX12_mix_99 fX_12_75 n62 s62 (by rfl) ?_
    refine x_bipush dX12_mix_102 rfl ?_
    refine x_iload_n dX12_mix_104 x_get_6_1 ?_
    refine x_iadd dX12_mix_105 ?_
    refine x_iald dX12_mix_106 n82 s82 (by omega) (by omega) (by decide) ?_
    try simp (disch := decide) only [x_up_s, x_up_n, x_up_up, x_u1_s, x_u1_n, e25, e25e, e35, e35e]
    refine x_aload_n dX12_mix_107 x_get_6_0 ?_
    refine x_getR dX12_mix_108 fX_12_75 n62 s62 (by rfl) ?_
    refine x_bipush dX12_mix_111 rfl ?_
    refine x_iload_n dX12_mix_113 x_get_6_2 ?_
    refine x_iadd dX12_mix_114 ?_
    refine x_iald dX12_mix_115 n82 s82 (by omega) (by omega) (by decide) ?_
    try simp (disch := decide) only [x_up_s, x_up_n, x_up_up, x_u1_s, x_u1_n, e25, e25e, e35, e35e]
    refine r_icmp_ne (t := 123) dX12_mix_116 rfl ⟨by omega, by omega⟩ ⟨by omega, by omega⟩ (fun hc116 => absurd hc116 (by omega)) (fun hc116 => ?_)
    refine x_iconst dX12_mix_119 ?_
    refine x_goto (t := 124) dX12_mix_120 rfl ?_
    refine x_istore dX12_mix_124 (Nat.le_of_ble_eq_true rfl) rfl x_set_6_5 ?_
    refine x_iload dX12_mix_126 x_get_6_5 ?_
    refine r_if_ne (t := 155) dX12_mix_128 rfl ⟨by omega, by omega⟩ (fun hc128 => ?_) (fun hc128 => absurd hc128 (by omega))
    refine x_aload_n dX12_mix_155 x_get_6_0 ?_
    refine x_getR dX12_mix_156 fX_12_75 n62 s62 (by rfl) ?_
    refine x_bipush dX12_mix_159 rfl ?_
    refine x_iload_n dX12_mix_161 x_get_6_1 ?_
    refine x_iadd dX12_mix_162 ?_
    refine x_iload dX12_mix_163 x_get_6_5 ?_
    refine r_if_eq (t := 181) dX12_mix_165 rfl ⟨by omega, by omega⟩ (fun hc165 => absurd hc165 (by omega)) (fun hc165 => ?_)
    refine x_iload_n dX12_mix_168 x_get_6_3 ?_
    refine x_iload dX12_mix_169 x_get_6_4 ?_
    refine x_iadd dX12_mix_171 ?_
    refine x_iconst dX12_mix_172 ?_
    refine x_bipush dX12_mix_173 rfl ?_
    refine x_callS (As := [_, _, _]) dX12_mix_175 w_12_311 (m_kept hl (min 99 (f (25 + c) + f (25 + e))) ⟨by omega, by omega⟩ ⟨by decide, by decide⟩ ⟨by decide, by decide⟩ (by decide) (by omega)) rfl rfl (Nat.le_of_ble_eq_true rfl) (Nat.le_of_ble_eq_true rfl) (Nat.le_of_ble_eq_true rfl) (Nat.le_of_ble_eq_true rfl) (Nat.le_of_ble_eq_true rfl) ?_
    intro dz hdz
    obtain rfl := Eq.symm hdz
    refine x_goto (t := 198) dX12_mix_178 rfl ?_
    refine x_iast dX12_mix_198 n82 s82 (by omega) (by omega) (by decide) ?_
    refine x_aload_n dX12_mix_199 x_get_6_0 ?_
    refine x_getR dX12_mix_200 fX_12_75 n62 s62 (by rfl) ?_
    refine x_bipush dX12_mix_203 rfl ?_
    refine x_iload_n dX12_mix_205 x_get_6_2 ?_
    refine x_iadd dX12_mix_206 ?_
    refine x_iconst dX12_mix_207 ?_
    refine x_iast dX12_mix_208 n82 s82 (by omega) (by omega) (by decide) ?_
    refine x_aload_n dX12_mix_209 x_get_6_0 ?_
    refine x_getR dX12_mix_210 fX_12_75 n62 s62 (by rfl) ?_
    refine x_bipush dX12_mix_213 rfl ?_
    refine x_iload_n dX12_mix_215 x_get_6_2 ?_
    refine x_iadd dX12_mix_216 ?_
    refine x_iconst dX12_mix_217 ?_
    refine x_iast dX12_mix_218 n82 s82 (by omega) (by omega) (by decide) ?_
    skip
    have h65 : (x_u1 f (25 + c) (min 99 (f (25 + c) + f (25 + e)))) (65 + e) = 0 := by
      have := hl2.2
      simp (disch := omega) only [x_u1_n]
      omega
    have hls : s_lose (x_u1 f (25 + c) (min 99 (f (25 + c) + f (25 + e)))) e = x_u1 (x_u1 (x_u1 f (25 + c) (min 99 (f (25 + c) + f (25 + e)))) (25 + e) 0) (55 + e) (-1) := by
      unfold s_lose
      have h66 : x_u1 (x_u1 (x_u1 f (25 + c) (min 99 (f (25 + c) + f (25 + e)))) (25 + e) 0) (55 + e) (-1) (65 + e) = 0 := by rw [x_u1_n (by omega), x_u1_n (by omega)]; exact h65
      generalize x_u1 (x_u1 (x_u1 f (25 + c) (min 99 (f (25 + c) + f (25 + e)))) (25 + e) 0) (55 + e) (-1) = gg at h66 ⊢
      rw [← h66]
      exact x_u1_id
    have hpe2 : s_pour f c e = s_lose (x_u1 f (25 + c) (min 99 (f (25 + c) + f (25 + e)))) e := by unfold s_pour; rw [if_pos hs]
    have w5 := m_w_u1 (m_w_u1 (m_w_u1 (m_w_rf r1) (k := 25 + c) (m := 25 + c) (v := min 99 (f (25 + c) + f (25 + e))) (by omega) (by omega) (by omega)) (k := 25 + e) (m := 25 + e) (v := 0) (by omega) (by omega) (by omega)) (k := 55 + e) (m := 55 + e) (v := -1) (by omega) (by omega) (by omega)
    rw [← hls, ← hpe2] at w5
    have w6 := w5
    generalize hdd : x_up _ 82 (x_u1 _ (55 + e) (-1)) = d2 at w5 ⊢
    have e2 : d2 82 (25 + c) = s_pour f c e (25 + c) := mr_c w5.2.1 (k := 25) (m := 25) rfl (by decide) hc0 hc1
    refine x_aload_n dX12_mix_219 x_get_6_0 ?_
    refine x_getR dX12_mix_220 fX_12_75 n62 s62 (by rfl) ?_
    refine x_bipush dX12_mix_223 rfl ?_
    refine x_iload_n dX12_mix_225 x_get_6_1 ?_
    refine x_iadd dX12_mix_226 ?_
    refine x_iald dX12_mix_227 n82 s82 (by omega) (by omega) (by decide) ?_
    try simp (disch := decide) only [x_up_s, x_up_n, x_up_up, x_u1_s, x_u1_n, e2]
    exact x_iret dX12_mix_228 rfl (Nat.le_of_ble_eq_true rfl) (Nat.le_of_ble_eq_true rfl) rfl rfl rfl ⟨am_w a1 w5, w5.2.1, mact_w k3 w5⟩ rfl
  · by_cases hg : f (25 + c) < f (25 + e)
    · refine x_ofW (by decide +kernel) hl (by simp [Value.category]) (by simp) ?_
      refine x_aload_n dX12_mix_0 x_get_6_0 ?_
      refine x_iconst dX12_mix_1 ?_
      refine x_putI 0 dX12_mix_2 fX_12_117 rfl tX_12_0 n62 s62 (by rfl) ?_
      have z0 := m_go0 hq hr hv84
      have g1 : ∀ j, j ≠ 62 → (x_up D 62 (x_u1 (D 62) 0 0)) j = D j := fun j a => x_up_n a
      have g2 : ∀ i, i ≠ 0 → (x_up D 62 (x_u1 (D 62) 0 0)) 62 i = D 62 i := fun i a => by rw [x_up_s, x_u1_n a]
      generalize x_up D 62 (x_u1 (D 62) 0 0) = d0 at z0 g1 g2 ⊢
      obtain ⟨q0, t0, ms0, r0, v0⟩ := z0
      have e55 : d0 82 (55 + c) = f (55 + c) := mr_c r0 rfl (by decide) hc0 hc1
      have e55e : d0 82 (55 + e) = f (55 + e) := mr_c r0 rfl (by decide) he0 he1
      refine x_aload_n dX12_mix_5 x_get_6_0 ?_
      refine x_iload_n dX12_mix_6 x_get_6_1 ?_
      refine x_callV (As := [_]) dX12_mix_7 w_12_368 (m_isCrateT hl q0 t0 ⟨hc0, hc1⟩) (by assumption) (by assumption) rfl rfl (Nat.le_of_ble_eq_true rfl) (Nat.le_of_ble_eq_true rfl) (Nat.le_of_ble_eq_true rfl) (Nat.le_of_ble_eq_true rfl) (Nat.le_of_ble_eq_true rfl) ?_
      intro dz hdz
      obtain rfl := Eq.symm hdz
      refine r_if_eq (t := 21) dX12_mix_10 rfl ⟨by omega, by omega⟩ (fun hc10 => absurd hc10 (by omega)) (fun hc10 => ?_)
      refine x_aload_n dX12_mix_13 x_get_6_0 ?_
      refine x_iload_n dX12_mix_14 x_get_6_2 ?_
      refine x_callV (As := [_]) dX12_mix_15 w_12_368 (m_isCrateT hl q0 t0 ⟨he0, he1⟩) (by assumption) (by assumption) rfl rfl (Nat.le_of_ble_eq_true rfl) (Nat.le_of_ble_eq_true rfl) (Nat.le_of_ble_eq_true rfl) (Nat.le_of_ble_eq_true rfl) (Nat.le_of_ble_eq_true rfl) ?_
      intro dz hdz
      obtain rfl := Eq.symm hdz
      refine r_if_ne (t := 23) dX12_mix_18 rfl ⟨by omega, by omega⟩ (fun hc18 => ?_) (fun hc18 => absurd hc18 (by omega))
      refine x_iload_n dX12_mix_23 x_get_6_1 ?_
      refine x_iload_n dX12_mix_24 x_get_6_2 ?_
      refine r_icmp_eq (t := 67) dX12_mix_25 rfl ⟨by omega, by omega⟩ ⟨by omega, by omega⟩ (fun hc25 => absurd hc25 (by omega)) (fun hc25 => ?_)
      refine x_aload_n dX12_mix_28 x_get_6_0 ?_
      refine x_iconst dX12_mix_29 ?_
      refine x_iload_n dX12_mix_30 x_get_6_1 ?_
      refine x_callV (As := [_, _]) dX12_mix_31 w_12_308 (m_lies hl q0 hk (by omega) (Or.inl rfl) r0 hc0 hc1) (by assumption) (by assumption) rfl rfl (Nat.le_of_ble_eq_true rfl) (Nat.le_of_ble_eq_true rfl) (Nat.le_of_ble_eq_true rfl) (Nat.le_of_ble_eq_true rfl) (Nat.le_of_ble_eq_true rfl) ?_
      intro dz hdz
      obtain rfl := Eq.symm hdz
      refine b_ifeq (t := 67) dX12_mix_34 rfl (fun hc34 => absurd hc34 (fun h => h hl1)) (fun hc34 => ?_)
      refine x_aload_n dX12_mix_37 x_get_6_0 ?_
      refine x_iconst dX12_mix_38 ?_
      refine x_iload_n dX12_mix_39 x_get_6_2 ?_
      refine x_callV (As := [_, _]) dX12_mix_40 w_12_308 (m_lies hl q0 hk (by omega) (Or.inl rfl) r0 he0 he1) (by assumption) (by assumption) rfl rfl (Nat.le_of_ble_eq_true rfl) (Nat.le_of_ble_eq_true rfl) (Nat.le_of_ble_eq_true rfl) (Nat.le_of_ble_eq_true rfl) (Nat.le_of_ble_eq_true rfl) ?_
      intro dz hdz
      obtain rfl := Eq.symm hdz
      refine b_ifeq (t := 67) dX12_mix_43 rfl (fun hc43 => absurd hc43 (fun h => h hl2)) (fun hc43 => ?_)
      refine x_aload_n dX12_mix_46 x_get_6_0 ?_
      refine x_getR dX12_mix_47 fX_12_75 n62 s62 (by rfl) ?_
      refine x_bipush dX12_mix_50 rfl ?_
      refine x_iload_n dX12_mix_52 x_get_6_1 ?_
      refine x_iadd dX12_mix_53 ?_
      refine x_iald dX12_mix_54 n82 s82 (by omega) (by omega) (by decide) ?_
      try simp (disch := decide) only [x_up_s, x_up_n, x_up_up, x_u1_s, x_u1_n, e55, e55e]
      refine x_aload_n dX12_mix_55 x_get_6_0 ?_
      refine x_getR dX12_mix_56 fX_12_75 n62 s62 (by rfl) ?_
      refine x_bipush dX12_mix_59 rfl ?_
      refine x_iload_n dX12_mix_61 x_get_6_2 ?_
      refine x_iadd dX12_mix_62 ?_
      refine x_iald dX12_mix_63 n82 s82 (by omega) (by omega) (by decide) ?_
      try simp (disch := decide) only [x_up_s, x_up_n, x_up_up, x_u1_s, x_u1_n, e55, e55e]
      refine r_icmp_eq (t := 73) dX12_mix_64 rfl ⟨by omega, by omega⟩ ⟨by omega, by omega⟩ (fun hc64 => ?_) (fun hc64 => absurd hc64 (by omega))
      refine x_aload_n dX12_mix_73 x_get_6_0 ?_
      refine x_callV (As := []) dX12_mix_74 w_12_374 (m_keeps hl q0 r0 (mact_of hA (g2 44 (by decide)) (g1 83 (by decide)))) (by assumption) (by assumption) rfl rfl (Nat.le_of_ble_eq_true rfl) (Nat.le_of_ble_eq_true rfl) (Nat.le_of_ble_eq_true rfl) (Nat.le_of_ble_eq_true rfl) (Nat.le_of_ble_eq_true rfl) ?_
      rintro d1 ⟨k1, k2, k3⟩
      have q1 : mq N sh d1 T C W G := mq_of q0 (fun i _ _ => k2 i (by omega)) (fun j a b => k1 j (by omega) (by omega))
      have r1 : mr T C f (d1 82) 0 := by rw [k1 82 (by decide) (by decide)]; exact r0
      have v1 : ∀ j, x_r (d1 84 j) := by rw [k1 84 (by decide) (by decide)]; exact v0
      have a1 : am D d1 := ⟨fun j a b c e g => by rw [k1 j a c, g1 j a], fun i a b c => by rw [k2 i b, g2 i a], by rw [k2 0 (by decide)]; exact t0, v1⟩
      have e25 : d1 82 (25 + c) = f (25 + c) := mr_c r1 rfl (by decide) hc0 hc1
      have e25e : d1 82 (25 + e) = f (25 + e) := mr_c r1 rfl (by decide) he0 he1
      have e35 : d1 82 (35 + c) = f (35 + c) := mr_c r1 rfl (by decide) hc0 hc1
      have e35e : d1 82 (35 + e) = f (35 + e) := mr_c r1 rfl (by decide) he0 he1
      skip
      refine x_aload_n dX12_mix_77 x_get_6_0 ?_
      refine x_getR dX12_mix_78 fX_12_75 n62 s62 (by rfl) ?_
      refine x_bipush dX12_mix_81 rfl ?_
      refine x_iload_n dX12_mix_83 x_get_6_1 ?_
      refine x_iadd dX12_mix_84 ?_
      refine x_iald dX12_mix_85 n82 s82 (by omega) (by omega) (by decide) ?_
      try simp (disch := decide) only [x_up_s, x_up_n, x_up_up, x_u1_s, x_u1_n, e25, e25e, e35, e35e]
      refine x_istore_n dX12_mix_86 (Nat.le_of_ble_eq_true rfl) rfl x_set_6_3 ?_
      refine x_aload_n dX12_mix_87 x_get_6_0 ?_
      refine x_getR dX12_mix_88 fX_12_75 n62 s62 (by rfl) ?_
      refine x_bipush dX12_mix_91 rfl ?_
      refine x_iload_n dX12_mix_93 x_get_6_2 ?_
      refine x_iadd dX12_mix_94 ?_
      refine x_iald dX12_mix_95 n82 s82 (by omega) (by omega) (by decide) ?_
      try simp (disch := decide) only [x_up_s, x_up_n, x_up_up, x_u1_s, x_u1_n, e25, e25e, e35, e35e]
      refine x_istore dX12_mix_96 (Nat.le_of_ble_eq_true rfl) rfl x_set_6_4 ?_
      refine x_aload_n dX12_mix_98 x_get_6_0 ?_
      refine x_getR dX12_mix_99 fX_12_75 n62 s62 (by rfl) ?_
      refine x_bipush dX12_mix_102 rfl ?_
      refine x_iload_n dX12_mix_104 x_get_6_1 ?_
      refine x_iadd dX12_mix_105 ?_
      refine x_iald dX12_mix_106 n82 s82 (by omega) (by omega) (by decide) ?_
      try simp (disch := decide) only [x_up_s, x_up_n, x_up_up, x_u1_s, x_u1_n, e25, e25e, e35, e35e]
      refine x_aload_n dX12_mix_107 x_get_6_0 ?_
      refine x_getR dX12_mix_108 fX_12_75 n62 s62 (by rfl) ?_
      refine x_bipush dX12_mix_111 rfl ?_
      refine x_iload_n dX12_mix_113 x_get_6_2 ?_
      refine x_iadd dX12_mix_114 ?_
      refine x_iald dX12_mix_115 n82 s82 (by omega) (by omega) (by decide) ?_
      try simp (disch := decide) only [x_up_s, x_up_n, x_up_up, x_u1_s, x_u1_n, e25, e25e, e35, e35e]
      refine r_icmp_ne (t := 123) dX12_mix_116 rfl ⟨by omega, by omega⟩ ⟨by omega, by omega⟩ (fun hc116 => ?_) (fun hc116 => absurd hc116 (by omega))
      refine x_iconst dX12_mix_123 ?_
      refine x_istore dX12_mix_124 (Nat.le_of_ble_eq_true rfl) rfl x_set_6_5 ?_
      refine x_iload dX12_mix_126 x_get_6_5 ?_
      refine r_if_ne (t := 155) dX12_mix_128 rfl ⟨by omega, by omega⟩ (fun hc128 => absurd hc128 (by omega)) (fun hc128 => ?_)
      refine x_iload dX12_mix_131 x_get_6_4 ?_
      refine x_iload_n dX12_mix_133 x_get_6_3 ?_
      refine r_icmp_le (t := 155) dX12_mix_134 rfl ⟨by omega, by omega⟩ ⟨by omega, by omega⟩ (fun hc134 => absurd hc134 (by omega)) (fun hc134 => ?_)
      refine x_aload_n dX12_mix_137 x_get_6_0 ?_
      refine x_getR dX12_mix_138 fX_12_75 n62 s62 (by rfl) ?_
      refine x_bipush dX12_mix_141 rfl ?_
      refine x_iload_n dX12_mix_143 x_get_6_1 ?_
      refine x_iadd dX12_mix_144 ?_
      refine x_aload_n dX12_mix_145 x_get_6_0 ?_
      refine x_getR dX12_mix_146 fX_12_75 n62 s62 (by rfl) ?_
      refine x_bipush dX12_mix_149 rfl ?_
      refine x_iload_n dX12_mix_151 x_get_6_2 ?_
      refine x_iadd dX12_mix_152 ?_
      refine x_iald dX12_mix_153 n82 s82 (by omega) (by omega) (by decide) ?_
      try simp (disch := decide) only [x_up_s, x_up_n, x_up_up, x_u1_s, x_u1_n, e25, e25e, e35, e35e]
      refine x_iast dX12_mix_154 n82 s82 (by omega) (by omega) (by decide) ?_
      refine x_aload_n dX12_mix_155 x_get_6_0 ?_
      refine x_getR dX12_mix_156 fX_12_75 n62 s62 (by rfl) ?_
      refine x_bipush dX12_mix_159 rfl ?_
      refine x_iload_n dX12_mix_161 x_get_6_1 ?_
      refine x_iadd dX12_mix_162 ?_
      refine x_iload dX12_mix_163 x_get_6_5 ?_
      refine r_if_eq (t := 181) dX12_mix_165 rfl ⟨by omega, by omega⟩ (fun hc165 => ?_) (fun hc165 => absurd hc165 (by omega))
      refine x_iload_n dX12_mix_181 x_get_6_3 ?_
      refine x_iload dX12_mix_182 x_get_6_4 ?_
      refine r_icmp_le (t := 194) dX12_mix_184 rfl ⟨by omega, by omega⟩ ⟨by omega, by omega⟩ (fun hc184 => ?_) (fun hc184 => absurd hc184 (by omega))
      refine x_iload dX12_mix_194 x_get_6_4 ?_
      refine x_iload_n dX12_mix_196 x_get_6_3 ?_
      refine x_isub dX12_mix_197 ?_
      refine x_iast dX12_mix_198 n82 s82 (by omega) (by omega) (by decide) ?_
      refine x_aload_n dX12_mix_199 x_get_6_0 ?_
      refine x_getR dX12_mix_200 fX_12_75 n62 s62 (by rfl) ?_
      refine x_bipush dX12_mix_203 rfl ?_
      refine x_iload_n dX12_mix_205 x_get_6_2 ?_
      refine x_iadd dX12_mix_206 ?_
      refine x_iconst dX12_mix_207 ?_
      refine x_iast dX12_mix_208 n82 s82 (by omega) (by omega) (by decide) ?_
      refine x_aload_n dX12_mix_209 x_get_6_0 ?_
      refine x_getR dX12_mix_210 fX_12_75 n62 s62 (by rfl) ?_
      refine x_bipush dX12_mix_213 rfl ?_
      refine x_iload_n dX12_mix_215 x_get_6_2 ?_
      refine x_iadd dX12_mix_216 ?_
      refine x_iconst dX12_mix_217 ?_
      refine x_iast dX12_mix_218 n82 s82 (by omega) (by omega) (by decide) ?_
      skip
      have h65 : (x_u1 (x_u1 f (35 + c) (f (35 + e))) (25 + c) (f (25 + e) - f (25 + c))) (65 + e) = 0 := by
        have := hl2.2
        simp (disch := omega) only [x_u1_n]
        omega
      have hls : s_lose (x_u1 (x_u1 f (35 + c) (f (35 + e))) (25 + c) (f (25 + e) - f (25 + c))) e = x_u1 (x_u1 (x_u1 (x_u1 f (35 + c) (f (35 + e))) (25 + c) (f (25 + e) - f (25 + c))) (25 + e) 0) (55 + e) (-1) := by
        unfold s_lose
        have h66 : x_u1 (x_u1 (x_u1 (x_u1 f (35 + c) (f (35 + e))) (25 + c) (f (25 + e) - f (25 + c))) (25 + e) 0) (55 + e) (-1) (65 + e) = 0 := by rw [x_u1_n (by omega), x_u1_n (by omega)]; exact h65
        generalize x_u1 (x_u1 (x_u1 (x_u1 f (35 + c) (f (35 + e))) (25 + c) (f (25 + e) - f (25 + c))) (25 + e) 0) (55 + e) (-1) = gg at h66 ⊢
        rw [← h66]
        exact x_u1_id
      have hpe2 : s_pour f c e = s_lose (x_u1 (x_u1 f (35 + c) (f (35 + e))) (25 + c) (f (25 + e) - f (25 + c))) e := by
        unfold s_pour
        rw [if_neg hs]
        congr 1
        funext i
        unfold x_u1
        by_cases i1 : i = 35 + c
        · rw [if_pos i1, if_pos hg, if_neg (show ¬ i = 25 + c by omega), if_pos i1]
        · rw [if_neg i1]
          by_cases i2 : i = 25 + c
          · rw [if_pos i2, if_pos i2]
            rw [if_neg (by omega)]; omega
          · rw [if_neg i2, if_neg i2]
            try rw [if_neg i1]
      have w5 := m_w_u1 (m_w_u1 (m_w_u1 (m_w_u1 (m_w_rf r1) (k := 35 + c) (m := 35 + c) (v := f (35 + e)) (by omega) (by omega) (by omega)) (k := 25 + c) (m := 25 + c) (v := f (25 + e) - f (25 + c)) (by omega) (by omega) (by omega)) (k := 25 + e) (m := 25 + e) (v := 0) (by omega) (by omega) (by omega)) (k := 55 + e) (m := 55 + e) (v := -1) (by omega) (by omega) (by omega)
      rw [← hls, ← hpe2] at w5
      have w6 := w5
      generalize hdd : x_up _ 82 (x_u1 _ (55 + e) (-1)) = d2 at w5 ⊢
      have e2 : d2 82 (25 + c) = s_pour f c e (25 + c) := mr_c w5.2.1 (k := 25) (m := 25) rfl (by decide) hc0 hc1
      refine x_aload_n dX12_mix_219 x_get_6_0 ?_
      refine x_getR dX12_mix_220 fX_12_75 n62 s62 (by rfl) ?_
      refine x_bipush dX12_mix_223 rfl ?_
      refine x_iload_n dX12_mix_225 x_get_6_1 ?_
      refine x_iadd dX12_mix_226 ?_
      refine x_iald dX12_mix_227 n82 s82 (by omega) (by omega) (by decide) ?_
      try simp (disch := decide) only [x_up_s, x_up_n, x_up_up, x_u1_s, x_u1_n, e2]
      exact x_iret dX12_mix_228 rfl (Nat.le_of_ble_eq_true rfl) (Nat.le_of_ble_eq_true rfl) rfl rfl rfl ⟨am_w a1 w5, w5.2.1, mact_w k3 w5⟩ rfl
    · by_cases hg2 : f (25 + e) < f (25 + c)
      · refine x_ofW (by decide +kernel) hl (by simp [Value.category]) (by simp) ?_
        refine x_aload_n dX12_mix_0 x_get_6_0 ?_
        refine x_iconst dX12_mix_1 ?_
        refine x_putI 0 dX12_mix_2 fX_12_117 rfl tX_12_0 n62 s62 (by rfl) ?_
        have z0 := m_go0 hq hr hv84
        have g1 : ∀ j, j ≠ 62 → (x_up D 62 (x_u1 (D 62) 0 0)) j = D j := fun j a => x_up_n a
        have g2 : ∀ i, i ≠ 0 → (x_up D 62 (x_u1 (D 62) 0 0)) 62 i = D 62 i := fun i a => by rw [x_up_s, x_u1_n a]
        generalize x_up D 62 (x_u1 (D 62) 0 0) = d0 at z0 g1 g2 ⊢
        obtain ⟨q0, t0, ms0, r0, v0⟩ := z0
        have e55 : d0 82 (55 + c) = f (55 + c) := mr_c r0 rfl (by decide) hc0 hc1
        have e55e : d0 82 (55 + e) = f (55 + e) := mr_c r0 rfl (by decide) he0 he1
        refine x_aload_n dX12_mix_5 x_get_6_0 ?_
        refine x_iload_n dX12_mix_6 x_get_6_1 ?_
        refine x_callV (As := [_]) dX12_mix_7 w_12_368 (m_isCrateT hl q0 t0 ⟨hc0, hc1⟩) (by assumption) (by assumption) rfl rfl (Nat.le_of_ble_eq_true rfl) (Nat.le_of_ble_eq_true rfl) (Nat.le_of_ble_eq_true rfl) (Nat.le_of_ble_eq_true rfl) (Nat.le_of_ble_eq_true rfl) ?_
        intro dz hdz
        obtain rfl := Eq.symm hdz
        refine r_if_eq (t := 21) dX12_mix_10 rfl ⟨by omega, by omega⟩ (fun hc10 => absurd hc10 (by omega)) (fun hc10 => ?_)
        refine x_aload_n dX12_mix_13 x_get_6_0 ?_
        refine x_iload_n dX12_mix_14 x_get_6_2 ?_
        refine x_callV (As := [_]) dX12_mix_15 w_12_368 (m_isCrateT hl q0 t0 ⟨he0, he1⟩) (by assumption) (by assumption) rfl rfl (Nat.le_of_ble_eq_true rfl) (Nat.le_of_ble_eq_true rfl) (Nat.le_of_ble_eq_true rfl) (Nat.le_of_ble_eq_true rfl) (Nat.le_of_ble_eq_true rfl) ?_
        intro dz hdz
        obtain rfl := Eq.symm hdz
        refine r_if_ne (t := 23) dX12_mix_18 rfl ⟨by omega, by omega⟩ (fun hc18 => ?_) (fun hc18 => absurd hc18 (by omega))
        refine x_iload_n dX12_mix_23 x_get_6_1 ?_
        refine x_iload_n dX12_mix_24 x_get_6_2 ?_
        refine r_icmp_eq (t := 67) dX12_mix_25 rfl ⟨by omega, by omega⟩ ⟨by omega, by omega⟩ (fun hc25 => absurd hc25 (by omega)) (fun hc25 => ?_)
        refine x_aload_n dX12_mix_28 x_get_6_0 ?_
        refine x_iconst dX12_mix_29 ?_
        refine x_iload_n dX12_mix_30 x_get_6_1 ?_
        refine x_callV (As := [_, _]) dX12_mix_31 w_12_308 (m_lies hl q0 hk (by omega) (Or.inl rfl) r0 hc0 hc1) (by assumption) (by assumption) rfl rfl (Nat.le_of_ble_eq_true rfl) (Nat.le_of_ble_eq_true rfl) (Nat.le_of_ble_eq_true rfl) (Nat.le_of_ble_eq_true rfl) (Nat.le_of_ble_eq_true rfl) ?_
        intro dz hdz
        obtain rfl := Eq.symm hdz
        refine b_ifeq (t := 67) dX12_mix_34 rfl (fun hc34 => absurd hc34 (fun h => h hl1)) (fun hc34 => ?_)
        refine x_aload_n dX12_mix_37 x_get_6_0 ?_
        refine x_iconst dX12_mix_38 ?_
        refine x_iload_n dX12_mix_39 x_get_6_2 ?_
        refine x_callV (As := [_, _]) dX12_mix_40 w_12_308 (m_lies hl q0 hk (by omega) (Or.inl rfl) r0 he0 he1) (by assumption) (by assumption) rfl rfl (Nat.le_of_ble_eq_true rfl) (Nat.le_of_ble_eq_true rfl) (Nat.le_of_ble_eq_true rfl) (Nat.le_of_ble_eq_true rfl) (Nat.le_of_ble_eq_true rfl) ?_
        intro dz hdz
        obtain rfl := Eq.symm hdz
        refine b_ifeq (t := 67) dX12_mix_43 rfl (fun hc43 => absurd hc43 (fun h => h hl2)) (fun hc43 => ?_)
        refine x_aload_n dX12_mix_46 x_get_6_0 ?_
        refine x_getR dX12_mix_47 fX_12_75 n62 s62 (by rfl) ?_
        refine x_bipush dX12_mix_50 rfl ?_
        refine x_iload_n dX12_mix_52 x_get_6_1 ?_
        refine x_iadd dX12_mix_53 ?_
        refine x_iald dX12_mix_54 n82 s82 (by omega) (by omega) (by decide) ?_
        try simp (disch := decide) only [x_up_s, x_up_n, x_up_up, x_u1_s, x_u1_n, e55, e55e]
        refine x_aload_n dX12_mix_55 x_get_6_0 ?_
        refine x_getR dX12_mix_56 fX_12_75 n62 s62 (by rfl) ?_
        refine x_bipush dX12_mix_59 rfl ?_
        refine x_iload_n dX12_mix_61 x_get_6_2 ?_
        refine x_iadd dX12_mix_62 ?_
        refine x_iald dX12_mix_63 n82 s82 (by omega) (by omega) (by decide) ?_
        try simp (disch := decide) only [x_up_s, x_up_n, x_up_up, x_u1_s, x_u1_n, e55, e55e]
        refine r_icmp_eq (t := 73) dX12_mix_64 rfl ⟨by omega, by omega⟩ ⟨by omega, by omega⟩ (fun hc64 => ?_) (fun hc64 => absurd hc64 (by omega))
        refine x_aload_n dX12_mix_73 x_get_6_0 ?_
        refine x_callV (As := []) dX12_mix_74 w_12_374 (m_keeps hl q0 r0 (mact_of hA (g2 44 (by decide)) (g1 83 (by decide)))) (by assumption) (by assumption) rfl rfl (Nat.le_of_ble_eq_true rfl) (Nat.le_of_ble_eq_true rfl) (Nat.le_of_ble_eq_true rfl) (Nat.le_of_ble_eq_true rfl) (Nat.le_of_ble_eq_true rfl) ?_
        rintro d1 ⟨k1, k2, k3⟩
        have q1 : mq N sh d1 T C W G := mq_of q0 (fun i _ _ => k2 i (by omega)) (fun j a b => k1 j (by omega) (by omega))
        have r1 : mr T C f (d1 82) 0 := by rw [k1 82 (by decide) (by decide)]; exact r0
        have v1 : ∀ j, x_r (d1 84 j) := by rw [k1 84 (by decide) (by decide)]; exact v0
        have a1 : am D d1 := ⟨fun j a b c e g => by rw [k1 j a c, g1 j a], fun i a b c => by rw [k2 i b, g2 i a], by rw [k2 0 (by decide)]; exact t0, v1⟩
        have e25 : d1 82 (25 + c) = f (25 + c) := mr_c r1 rfl (by decide) hc0 hc1
        have e25e : d1 82 (25 + e) = f (25 + e) := mr_c r1 rfl (by decide) he0 he1
        have e35 : d1 82 (35 + c) = f (35 + c) := mr_c r1 rfl (by decide) hc0 hc1
        have e35e : d1 82 (35 + e) = f (35 + e) := mr_c r1 rfl (by decide) he0 he1
        skip
        refine x_aload_n dX12_mix_77 x_get_6_0 ?_
        refine x_getR dX12_mix_78 fX_12_75 n62 s62 (by rfl) ?_
        refine x_bipush dX12_mix_81 rfl ?_
        refine x_iload_n dX12_mix_83 x_get_6_1 ?_
        refine x_iadd dX12_mix_84 ?_
        refine x_iald dX12_mix_85 n82 s82 (by omega) (by omega) (by decide) ?_
        try simp (disch := decide) only [x_up_s, x_up_n, x_up_up, x_u1_s, x_u1_n, e25, e25e, e35, e35e]
        refine x_istore_n dX12_mix_86 (Nat.le_of_ble_eq_true rfl) rfl x_set_6_3 ?_
        refine x_aload_n dX12_mix_87 x_get_6_0 ?_
        refine x_getR dX12_mix_88 fX_12_75 n62 s62 (by rfl) ?_
        refine x_bipush dX12_mix_91 rfl ?_
        refine x_iload_n dX12_mix_93 x_get_6_2 ?_
        refine x_iadd dX12_mix_94 ?_
        refine x_iald dX12_mix_95 n82 s82 (by omega) (by omega) (by decide) ?_
        try simp (disch := decide) only [x_up_s, x_up_n, x_up_up, x_u1_s, x_u1_n, e25, e25e, e35, e35e]
        refine x_istore dX12_mix_96 (Nat.le_of_ble_eq_true rfl) rfl x_set_6_4 ?_
        refine x_aload_n dX12_mix_98 x_get_6_0 ?_
        refine x_getR dX12_mix_99 fX_12_75 n62 s62 (by rfl) ?_
        refine x_bipush dX12_mix_102 rfl ?_
        refine x_iload_n dX12_mix_104 x_get_6_1 ?_
        refine x_iadd dX12_mix_105 ?_
        refine x_iald dX12_mix_106 n82 s82 (by omega) (by omega) (by decide) ?_
        try simp (disch := decide) only [x_up_s, x_up_n, x_up_up, x_u1_s, x_u1_n, e25, e25e, e35, e35e]
        refine x_aload_n dX12_mix_107 x_get_6_0 ?_
        refine x_getR dX12_mix_108 fX_12_75 n62 s62 (by rfl) ?_
        refine x_bipush dX12_mix_111 rfl ?_
        refine x_iload_n dX12_mix_113 x_get_6_2 ?_
        refine x_iadd dX12_mix_114 ?_
        refine x_iald dX12_mix_115 n82 s82 (by omega) (by omega) (by decide) ?_
        try simp (disch := decide) only [x_up_s, x_up_n, x_up_up, x_u1_s, x_u1_n, e25, e25e, e35, e35e]
        refine r_icmp_ne (t := 123) dX12_mix_116 rfl ⟨by omega, by omega⟩ ⟨by omega, by omega⟩ (fun hc116 => ?_) (fun hc116 => absurd hc116 (by omega))
        refine x_iconst dX12_mix_123 ?_
        refine x_istore dX12_mix_124 (Nat.le_of_ble_eq_true rfl) rfl x_set_6_5 ?_
        refine x_iload dX12_mix_126 x_get_6_5 ?_
        refine r_if_ne (t := 155) dX12_mix_128 rfl ⟨by omega, by omega⟩ (fun hc128 => absurd hc128 (by omega)) (fun hc128 => ?_)
        refine x_iload dX12_mix_131 x_get_6_4 ?_
        refine x_iload_n dX12_mix_133 x_get_6_3 ?_
        refine r_icmp_le (t := 155) dX12_mix_134 rfl ⟨by omega, by omega⟩ ⟨by omega, by omega⟩ (fun hc134 => ?_) (fun hc134 => absurd hc134 (by omega))
        refine x_aload_n dX12_mix_155 x_get_6_0 ?_
        refine x_getR dX12_mix_156 fX_12_75 n62 s62 (by rfl) ?_
        refine x_bipush dX12_mix_159 rfl ?_
        refine x_iload_n dX12_mix_161 x_get_6_1 ?_
        refine x_iadd dX12_mix_162 ?_
        refine x_iload dX12_mix_163 x_get_6_5 ?_
        refine r_if_eq (t := 181) dX12_mix_165 rfl ⟨by omega, by omega⟩ (fun hc165 => ?_) (fun hc165 => absurd hc165 (by omega))
        refine x_iload_n dX12_mix_181 x_get_6_3 ?_
        refine x_iload dX12_mix_182 x_get_6_4 ?_
        refine r_icmp_le (t := 194) dX12_mix_184 rfl ⟨by omega, by omega⟩ ⟨by omega, by omega⟩ (fun hc184 => absurd hc184 (by omega)) (fun hc184 => ?_)
        refine x_iload_n dX12_mix_187 x_get_6_3 ?_
        refine x_iload dX12_mix_188 x_get_6_4 ?_
        refine x_isub dX12_mix_190 ?_
        refine x_goto (t := 198) dX12_mix_191 rfl ?_
        refine x_iast dX12_mix_198 n82 s82 (by omega) (by omega) (by decide) ?_
        refine x_aload_n dX12_mix_199 x_get_6_0 ?_
        refine x_getR dX12_mix_200 fX_12_75 n62 s62 (by rfl) ?_
        refine x_bipush dX12_mix_203 rfl ?_
        refine x_iload_n dX12_mix_205 x_get_6_2 ?_
        refine x_iadd dX12_mix_206 ?_
        refine x_iconst dX12_mix_207 ?_
        refine x_iast dX12_mix_208 n82 s82 (by omega) (by omega) (by decide) ?_
        refine x_aload_n dX12_mix_209 x_get_6_0 ?_
        refine x_getR dX12_mix_210 fX_12_75 n62 s62 (by rfl) ?_
        refine x_bipush dX12_mix_213 rfl ?_
        refine x_iload_n dX12_mix_215 x_get_6_2 ?_
        refine x_iadd dX12_mix_216 ?_
        refine x_iconst dX12_mix_217 ?_
        refine x_iast dX12_mix_218 n82 s82 (by omega) (by omega) (by decide) ?_
        skip
        have h65 : (x_u1 f (25 + c) (f (25 + c) - f (25 + e))) (65 + e) = 0 := by
          have := hl2.2
          simp (disch := omega) only [x_u1_n]
          omega
        have hls : s_lose (x_u1 f (25 + c) (f (25 + c) - f (25 + e))) e = x_u1 (x_u1 (x_u1 f (25 + c) (f (25 + c) - f (25 + e))) (25 + e) 0) (55 + e) (-1) := by
          unfold s_lose
          have h66 : x_u1 (x_u1 (x_u1 f (25 + c) (f (25 + c) - f (25 + e))) (25 + e) 0) (55 + e) (-1) (65 + e) = 0 := by rw [x_u1_n (by omega), x_u1_n (by omega)]; exact h65
          generalize x_u1 (x_u1 (x_u1 f (25 + c) (f (25 + c) - f (25 + e))) (25 + e) 0) (55 + e) (-1) = gg at h66 ⊢
          rw [← h66]
          exact x_u1_id
        have hpe2 : s_pour f c e = s_lose (x_u1 f (25 + c) (f (25 + c) - f (25 + e))) e := by
          unfold s_pour
          rw [if_neg hs]
          congr 1
          funext i
          unfold x_u1
          by_cases i1 : i = 35 + c
          · rw [if_pos i1, if_neg (by omega), if_neg (by omega), i1]
          · rw [if_neg i1]
            by_cases i2 : i = 25 + c
            · rw [if_pos i2, if_pos i2]
              rw [if_pos (by omega)]
            · rw [if_neg i2, if_neg i2]
              try rw [if_neg i1]
        have w5 := m_w_u1 (m_w_u1 (m_w_u1 (m_w_rf r1) (k := 25 + c) (m := 25 + c) (v := f (25 + c) - f (25 + e)) (by omega) (by omega) (by omega)) (k := 25 + e) (m := 25 + e) (v := 0) (by omega) (by omega) (by omega)) (k := 55 + e) (m := 55 + e) (v := -1) (by omega) (by omega) (by omega)
        rw [← hls, ← hpe2] at w5
        have w6 := w5
        generalize hdd : x_up _ 82 (x_u1 _ (55 + e) (-1)) = d2 at w5 ⊢
        have e2 : d2 82 (25 + c) = s_pour f c e (25 + c) := mr_c w5.2.1 (k := 25) (m := 25) rfl (by decide) hc0 hc1
        refine x_aload_n dX12_mix_219 x_get_6_0 ?_
        refine x_getR dX12_mix_220 fX_12_75 n62 s62 (by rfl) ?_
        refine x_bipush dX12_mix_223 rfl ?_
        refine x_iload_n dX12_mix_225 x_get_6_1 ?_
        refine x_iadd dX12_mix_226 ?_
        refine x_iald dX12_mix_227 n82 s82 (by omega) (by omega) (by decide) ?_
        try simp (disch := decide) only [x_up_s, x_up_n, x_up_up, x_u1_s, x_u1_n, e2]
        exact x_iret dX12_mix_228 rfl (Nat.le_of_ble_eq_true rfl) (Nat.le_of_ble_eq_true rfl) rfl rfl rfl ⟨am_w a1 w5, w5.2.1, mact_w k3 w5⟩ rfl
      · refine x_ofW (by decide +kernel) hl (by simp [Value.category]) (by simp) ?_
        refine x_aload_n dX12_mix_0 x_get_6_0 ?_
        refine x_iconst dX12_mix_1 ?_
        refine x_putI 0 dX12_mix_2 fX_12_117 rfl tX_12_0 n62 s62 (by rfl) ?_
        have z0 := m_go0 hq hr hv84
        have g1 : ∀ j, j ≠ 62 → (x_up D 62 (x_u1 (D 62) 0 0)) j = D j := fun j a => x_up_n a
        have g2 : ∀ i, i ≠ 0 → (x_up D 62 (x_u1 (D 62) 0 0)) 62 i = D 62 i := fun i a => by rw [x_up_s, x_u1_n a]
        generalize x_up D 62 (x_u1 (D 62) 0 0) = d0 at z0 g1 g2 ⊢
        obtain ⟨q0, t0, ms0, r0, v0⟩ := z0
        have e55 : d0 82 (55 + c) = f (55 + c) := mr_c r0 rfl (by decide) hc0 hc1
        have e55e : d0 82 (55 + e) = f (55 + e) := mr_c r0 rfl (by decide) he0 he1
        refine x_aload_n dX12_mix_5 x_get_6_0 ?_
        refine x_iload_n dX12_mix_6 x_get_6_1 ?_
        refine x_callV (As := [_]) dX12_mix_7 w_12_368 (m_isCrateT hl q0 t0 ⟨hc0, hc1⟩) (by assumption) (by assumption) rfl rfl (Nat.le_of_ble_eq_true rfl) (Nat.le_of_ble_eq_true rfl) (Nat.le_of_ble_eq_true rfl) (Nat.le_of_ble_eq_true rfl) (Nat.le_of_ble_eq_true rfl) ?_
        intro dz hdz
        obtain rfl := Eq.symm hdz
        refine r_if_eq (t := 21) dX12_mix_10 rfl ⟨by omega, by omega⟩ (fun hc10 => absurd hc10 (by omega)) (fun hc10 => ?_)
        refine x_aload_n dX12_mix_13 x_get_6_0 ?_
        refine x_iload_n dX12_mix_14 x_get_6_2 ?_
        refine x_callV (As := [_]) dX12_mix_15 w_12_368 (m_isCrateT hl q0 t0 ⟨he0, he1⟩) (by assumption) (by assumption) rfl rfl (Nat.le_of_ble_eq_true rfl) (Nat.le_of_ble_eq_true rfl) (Nat.le_of_ble_eq_true rfl) (Nat.le_of_ble_eq_true rfl) (Nat.le_of_ble_eq_true rfl) ?_
        intro dz hdz
        obtain rfl := Eq.symm hdz
        refine r_if_ne (t := 23) dX12_mix_18 rfl ⟨by omega, by omega⟩ (fun hc18 => ?_) (fun hc18 => absurd hc18 (by omega))
        refine x_iload_n dX12_mix_23 x_get_6_1 ?_
        refine x_iload_n dX12_mix_24 x_get_6_2 ?_
        refine r_icmp_eq (t := 67) dX12_mix_25 rfl ⟨by omega, by omega⟩ ⟨by omega, by omega⟩ (fun hc25 => absurd hc25 (by omega)) (fun hc25 => ?_)
        refine x_aload_n dX12_mix_28 x_get_6_0 ?_
        refine x_iconst dX12_mix_29 ?_
        refine x_iload_n dX12_mix_30 x_get_6_1 ?_
        refine x_callV (As := [_, _]) dX12_mix_31 w_12_308 (m_lies hl q0 hk (by omega) (Or.inl rfl) r0 hc0 hc1) (by assumption) (by assumption) rfl rfl (Nat.le_of_ble_eq_true rfl) (Nat.le_of_ble_eq_true rfl) (Nat.le_of_ble_eq_true rfl) (Nat.le_of_ble_eq_true rfl) (Nat.le_of_ble_eq_true rfl) ?_
        intro dz hdz
        obtain rfl := Eq.symm hdz
        refine b_ifeq (t := 67) dX12_mix_34 rfl (fun hc34 => absurd hc34 (fun h => h hl1)) (fun hc34 => ?_)
        refine x_aload_n dX12_mix_37 x_get_6_0 ?_
        refine x_iconst dX12_mix_38 ?_
        refine x_iload_n dX12_mix_39 x_get_6_2 ?_
        refine x_callV (As := [_, _]) dX12_mix_40 w_12_308 (m_lies hl q0 hk (by omega) (Or.inl rfl) r0 he0 he1) (by assumption) (by assumption) rfl rfl (Nat.le_of_ble_eq_true rfl) (Nat.le_of_ble_eq_true rfl) (Nat.le_of_ble_eq_true rfl) (Nat.le_of_ble_eq_true rfl) (Nat.le_of_ble_eq_true rfl) ?_
        intro dz hdz
        obtain rfl := Eq.symm hdz
        refine b_ifeq (t := 67) dX12_mix_43 rfl (fun hc43 => absurd hc43 (fun h => h hl2)) (fun hc43 => ?_)
        refine x_aload_n dX12_mix_46 x_get_6_0 ?_
        refine x_getR dX12_mix_47 fX_12_75 n62 s62 (by rfl) ?_
        refine x_bipush dX12_mix_50 rfl ?_
        refine x_iload_n dX12_mix_52 x_get_6_1 ?_
        refine x_iadd dX12_mix_53 ?_
        refine x_iald dX12_mix_54 n82 s82 (by omega) (by omega) (by decide) ?_
        try simp (disch := decide) only [x_up_s, x_up_n, x_up_up, x_u1_s, x_u1_n, e55, e55e]
        refine x_aload_n dX12_mix_55 x_get_6_0 ?_
        refine x_getR dX12_mix_56 fX_12_75 n62 s62 (by rfl) ?_
        refine x_bipush dX12_mix_59 rfl ?_
        refine x_iload_n dX12_mix_61 x_get_6_2 ?_
        refine x_iadd dX12_mix_62 ?_
        refine x_iald dX12_mix_63 n82 s82 (by omega) (by omega) (by decide) ?_
        try simp (disch := decide) only [x_up_s, x_up_n, x_up_up, x_u1_s, x_u1_n, e55, e55e]
        refine r_icmp_eq (t := 73) dX12_mix_64 rfl ⟨by omega, by omega⟩ ⟨by omega, by omega⟩ (fun hc64 => ?_) (fun hc64 => absurd hc64 (by omega))
        refine x_aload_n dX12_mix_73 x_get_6_0 ?_
        refine x_callV (As := []) dX12_mix_74 w_12_374 (m_keeps hl q0 r0 (mact_of hA (g2 44 (by decide)) (g1 83 (by decide)))) (by assumption) (by assumption) rfl rfl (Nat.le_of_ble_eq_true rfl) (Nat.le_of_ble_eq_true rfl) (Nat.le_of_ble_eq_true rfl) (Nat.le_of_ble_eq_true rfl) (Nat.le_of_ble_eq_true rfl) ?_
        rintro d1 ⟨k1, k2, k3⟩
        have q1 : mq N sh d1 T C W G := mq_of q0 (fun i _ _ => k2 i (by omega)) (fun j a b => k1 j (by omega) (by omega))
        have r1 : mr T C f (d1 82) 0 := by rw [k1 82 (by decide) (by decide)]; exact r0
        have v1 : ∀ j, x_r (d1 84 j) := by rw [k1 84 (by decide) (by decide)]; exact v0
        have a1 : am D d1 := ⟨fun j a b c e g => by rw [k1 j a c, g1 j a], fun i a b c => by rw [k2 i b, g2 i a], by rw [k2 0 (by decide)]; exact t0, v1⟩
        have e25 : d1 82 (25 + c) = f (25 + c) := mr_c r1 rfl (by decide) hc0 hc1
        have e25e : d1 82 (25 + e) = f (25 + e) := mr_c r1 rfl (by decide) he0 he1
        have e35 : d1 82 (35 + c) = f (35 + c) := mr_c r1 rfl (by decide) hc0 hc1
        have e35e : d1 82 (35 + e) = f (35 + e) := mr_c r1 rfl (by decide) he0 he1
        skip
        refine x_aload_n dX12_mix_77 x_get_6_0 ?_
        refine x_getR dX12_mix_78 fX_12_75 n62 s62 (by rfl) ?_
        refine x_bipush dX12_mix_81 rfl ?_
        refine x_iload_n dX12_mix_83 x_get_6_1 ?_
        refine x_iadd dX12_mix_84 ?_
        refine x_iald dX12_mix_85 n82 s82 (by omega) (by omega) (by decide) ?_
        try simp (disch := decide) only [x_up_s, x_up_n, x_up_up, x_u1_s, x_u1_n, e25, e25e, e35, e35e]
        refine x_istore_n dX12_mix_86 (Nat.le_of_ble_eq_true rfl) rfl x_set_6_3 ?_
        refine x_aload_n dX12_mix_87 x_get_6_0 ?_
        refine x_getR dX12_mix_88 fX_12_75 n62 s62 (by rfl) ?_
        refine x_bipush dX12_mix_91 rfl ?_
        refine x_iload_n dX12_mix_93 x_get_6_2 ?_
        refine x_iadd dX12_mix_94 ?_
        refine x_iald dX12_mix_95 n82 s82 (by omega) (by omega) (by decide) ?_
        try simp (disch := decide) only [x_up_s, x_up_n, x_up_up, x_u1_s, x_u1_n, e25, e25e, e35, e35e]
        refine x_istore dX12_mix_96 (Nat.le_of_ble_eq_true rfl) rfl x_set_6_4 ?_
        refine x_aload_n dX12_mix_98 x_get_6_0 ?_
        refine x_getR dX12_mix_99 fX_12_75 n62 s62 (by rfl) ?_
        refine x_bipush dX12_mix_102 rfl ?_
        refine x_iload_n dX12_mix_104 x_get_6_1 ?_
        refine x_iadd dX12_mix_105 ?_
        refine x_iald dX12_mix_106 n82 s82 (by omega) (by omega) (by decide) ?_
        try simp (disch := decide) only [x_up_s, x_up_n, x_up_up, x_u1_s, x_u1_n, e25, e25e, e35, e35e]
        refine x_aload_n dX12_mix_107 x_get_6_0 ?_
        refine x_getR dX12_mix_108 fX_12_75 n62 s62 (by rfl) ?_
        refine x_bipush dX12_mix_111 rfl ?_
        refine x_iload_n dX12_mix_113 x_get_6_2 ?_
        refine x_iadd dX12_mix_114 ?_
        refine x_iald dX12_mix_115 n82 s82 (by omega) (by omega) (by decide) ?_
        try simp (disch := decide) only [x_up_s, x_up_n, x_up_up, x_u1_s, x_u1_n, e25, e25e, e35, e35e]
        refine r_icmp_ne (t := 123) dX12_mix_116 rfl ⟨by omega, by omega⟩ ⟨by omega, by omega⟩ (fun hc116 => ?_) (fun hc116 => absurd hc116 (by omega))
        refine x_iconst dX12_mix_123 ?_
        refine x_istore dX12_mix_124 (Nat.le_of_ble_eq_true rfl) rfl x_set_6_5 ?_
        refine x_iload dX12_mix_126 x_get_6_5 ?_
        refine r_if_ne (t := 155) dX12_mix_128 rfl ⟨by omega, by omega⟩ (fun hc128 => absurd hc128 (by omega)) (fun hc128 => ?_)
        refine x_iload dX12_mix_131 x_get_6_4 ?_
        refine x_iload_n dX12_mix_133 x_get_6_3 ?_
        refine r_icmp_le (t := 155) dX12_mix_134 rfl ⟨by omega, by omega⟩ ⟨by omega, by omega⟩ (fun hc134 => ?_) (fun hc134 => absurd hc134 (by omega))
        refine x_aload_n dX12_mix_155 x_get_6_0 ?_
        refine x_getR dX12_mix_156 fX_12_75 n62 s62 (by rfl) ?_
        refine x_bipush dX12_mix_159 rfl ?_
        refine x_iload_n dX12_mix_161 x_get_6_1 ?_
        refine x_iadd dX12_mix_162 ?_
        refine x_iload dX12_mix_163 x_get_6_5 ?_
        refine r_if_eq (t := 181) dX12_mix_165 rfl ⟨by omega, by omega⟩ (fun hc165 => ?_) (fun hc165 => absurd hc165 (by omega))
        refine x_iload_n dX12_mix_181 x_get_6_3 ?_
        refine x_iload dX12_mix_182 x_get_6_4 ?_
        refine r_icmp_le (t := 194) dX12_mix_184 rfl ⟨by omega, by omega⟩ ⟨by omega, by omega⟩ (fun hc184 => ?_) (fun hc184 => absurd hc184 (by omega))
        refine x_iload dX12_mix_194 x_get_6_4 ?_
        refine x_iload_n dX12_mix_196 x_get_6_3 ?_
        refine x_isub dX12_mix_197 ?_
        refine x_iast dX12_mix_198 n82 s82 (by omega) (by omega) (by decide) ?_
        refine x_aload_n dX12_mix_199 x_get_6_0 ?_
        refine x_getR dX12_mix_200 fX_12_75 n62 s62 (by rfl) ?_
        refine x_bipush dX12_mix_203 rfl ?_
        refine x_iload_n dX12_mix_205 x_get_6_2 ?_
        refine x_iadd dX12_mix_206 ?_
        refine x_iconst dX12_mix_207 ?_
        refine x_iast dX12_mix_208 n82 s82 (by omega) (by omega) (by decide) ?_
        refine x_aload_n dX12_mix_209 x_get_6_0 ?_
        refine x_getR dX12_mix_210 fX_12_75 n62 s62 (by rfl) ?_
        refine x_bipush dX12_mix_213 rfl ?_
        refine x_iload_n dX12_mix_215 x_get_6_2 ?_
        refine x_iadd dX12_mix_216 ?_
        refine x_iconst dX12_mix_217 ?_
        refine x_iast dX12_mix_218 n82 s82 (by omega) (by omega) (by decide) ?_
        skip
        have h65 : (x_u1 f (25 + c) (f (25 + e) - f (25 + c))) (65 + e) = 0 := by
          have := hl2.2
          simp (disch := omega) only [x_u1_n]
          omega
        have hls : s_lose (x_u1 f (25 + c) (f (25 + e) - f (25 + c))) e = x_u1 (x_u1 (x_u1 f (25 + c) (f (25 + e) - f (25 + c))) (25 + e) 0) (55 + e) (-1) := by
          unfold s_lose
          have h66 : x_u1 (x_u1 (x_u1 f (25 + c) (f (25 + e) - f (25 + c))) (25 + e) 0) (55 + e) (-1) (65 + e) = 0 := by rw [x_u1_n (by omega), x_u1_n (by omega)]; exact h65
          generalize x_u1 (x_u1 (x_u1 f (25 + c) (f (25 + e) - f (25 + c))) (25 + e) 0) (55 + e) (-1) = gg at h66 ⊢
          rw [← h66]
          exact x_u1_id
        have hpe2 : s_pour f c e = s_lose (x_u1 f (25 + c) (f (25 + e) - f (25 + c))) e := by
          unfold s_pour
          rw [if_neg hs]
          congr 1
          funext i
          unfold x_u1
          by_cases i1 : i = 35 + c
          · rw [if_pos i1, if_neg (by omega), if_neg (by omega), i1]
          · rw [if_neg i1]
            by_cases i2 : i = 25 + c
            · rw [if_pos i2, if_pos i2]
              split <;> omega
            · rw [if_neg i2, if_neg i2]
              try rw [if_neg i1]
        have w5 := m_w_u1 (m_w_u1 (m_w_u1 (m_w_rf r1) (k := 25 + c) (m := 25 + c) (v := f (25 + e) - f (25 + c)) (by omega) (by omega) (by omega)) (k := 25 + e) (m := 25 + e) (v := 0) (by omega) (by omega) (by omega)) (k := 55 + e) (m := 55 + e) (v := -1) (by omega) (by omega) (by omega)
        rw [← hls, ← hpe2] at w5
        have w6 := w5
        generalize hdd : x_up _ 82 (x_u1 _ (55 + e) (-1)) = d2 at w5 ⊢
        have e2 : d2 82 (25 + c) = s_pour f c e (25 + c) := mr_c w5.2.1 (k := 25) (m := 25) rfl (by decide) hc0 hc1
        refine x_aload_n dX12_mix_219 x_get_6_0 ?_
        refine x_getR dX12_mix_220 fX_12_75 n62 s62 (by rfl) ?_
        refine x_bipush dX12_mix_223 rfl ?_
        refine x_iload_n dX12_mix_225 x_get_6_1 ?_
        refine x_iadd dX12_mix_226 ?_
        refine x_iald dX12_mix_227 n82 s82 (by omega) (by omega) (by decide) ?_
        try simp (disch := decide) only [x_up_s, x_up_n, x_up_up, x_u1_s, x_u1_n, e2]
        exact x_iret dX12_mix_228 rfl (Nat.le_of_ble_eq_true rfl) (Nat.le_of_ble_eq_true rfl) rfl rfl rfl ⟨am_w a1 w5, w5.2.1, mact_w k3 w5⟩ rfl
theorem m_mixR {X : xC} {l : Launch} (hl : l.stackTraces = false) {N : Nat} {sh : xS} {D : xM} {T C W : Nat} {G : Ldt} (hq : mq N sh D T C W G) {B : Int} {f : Int → Int} (hk : s_ok B f) (hB : B ≤ 200000) (hr : mr T C f (D 82) 0) (hv84 : ∀ j, x_r (D 84 j)) {c e : Int} (hc0 : 0 ≤ c) (hc1 : c < C) (he0 : 0 ≤ e) (he1 : e < C) (h : ¬ (¬ c = e ∧ s_lies f c ∧ s_lies f e ∧ f (55 + c) = f (55 + e))) : x_M X l yX12_mix cX12_mix 6 (some .int) 4 0 0 [.ref (x_b X + 62), .int (xI c), .int (xI e)] false N sh D (.inl (some (.int (xI (-1))))) false N sh (x_is (m_rf 1 D)) := by
  obtain ⟨hM, hT, hTb, hW, hWb, hC, hCb, hmk, ⟨hG1, hG2, hG3⟩, hod⟩ := id hq
  have s62 := md_62 hM
  have n62 : 62 < N := md_n hM (by decide)
  have s82 := md_82 hM
  have n82 : 82 < N := md_n hM (by decide)
  have hcr := s_cr hk (c := c) (by omega) (by omega)
  have her := s_cr hk (c := e) (by omega) (by omega)
  refine x_ofW (by decide +kernel) hl (by simp [Value.category]) (by simp) ?_
  refine x_aload_n dX12_mix_0 x_get_6_0 ?_
  refine x_iconst dX12_mix_1 ?_
  refine x_putI 0 dX12_mix_2 fX_12_117 rfl tX_12_0 n62 s62 (by rfl) ?_
  have z0 := m_go0 hq hr hv84
  generalize hd0 : x_up D 62 (x_u1 (D 62) 0 0) = d0 at z0 ⊢
  obtain ⟨q0, t0, ms0, r0, v0⟩ := z0
  have e71 : d0 71 = D 71 := by rw [← hd0, x_up_n (by decide)]
  have e55 : d0 82 (55 + c) = f (55 + c) := mr_c r0 rfl (by decide) hc0 hc1
  have e55e : d0 82 (55 + e) = f (55 + e) := mr_c r0 rfl (by decide) he0 he1
  refine x_aload_n dX12_mix_5 x_get_6_0 ?_
  refine x_iload_n dX12_mix_6 x_get_6_1 ?_
  refine x_callV (As := [_]) dX12_mix_7 w_12_368 (m_isCrateT hl q0 t0 ⟨hc0, hc1⟩) (by assumption) (by assumption) rfl rfl (Nat.le_of_ble_eq_true rfl) (Nat.le_of_ble_eq_true rfl) (Nat.le_of_ble_eq_true rfl) (Nat.le_of_ble_eq_true rfl) (Nat.le_of_ble_eq_true rfl) ?_
  intro dz hdz
  obtain rfl := Eq.symm hdz
  refine r_if_eq (t := 21) dX12_mix_10 rfl ⟨by omega, by omega⟩ (fun hc10 => absurd hc10 (by omega)) (fun hc10 => ?_)
  refine x_aload_n dX12_mix_13 x_get_6_0 ?_
  refine x_iload_n dX12_mix_14 x_get_6_2 ?_
  refine x_callV (As := [_]) dX12_mix_15 w_12_368 (m_isCrateT hl q0 t0 ⟨he0, he1⟩) (by assumption) (by assumption) rfl rfl (Nat.le_of_ble_eq_true rfl) (Nat.le_of_ble_eq_true rfl) (Nat.le_of_ble_eq_true rfl) (Nat.le_of_ble_eq_true rfl) (Nat.le_of_ble_eq_true rfl) ?_
  intro dz hdz
  obtain rfl := Eq.symm hdz
  refine r_if_ne (t := 23) dX12_mix_18 rfl ⟨by omega, by omega⟩ (fun hc18 => ?_) (fun hc18 => absurd hc18 (by omega))
  refine x_iload_n dX12_mix_23 x_get_6_1 ?_
  refine x_iload_n dX12_mix_24 x_get_6_2 ?_
  refine r_icmp_eq (t := 67) dX12_mix_25 rfl ⟨by omega, by omega⟩ ⟨by omega, by omega⟩ (fun hc25 => ?_) (fun hc25 => ?_)
  · refine x_aload_n dX12_mix_67 x_get_6_0 ?_
    refine x_iconst dX12_mix_68 ?_
    refine x_callV (As := [_]) dX12_mix_69 w_12_371 (m_refuses hl q0.1 (w := 1) (by decide) (by decide)) (by assumption) (by assumption) rfl rfl (Nat.le_of_ble_eq_true rfl) (Nat.le_of_ble_eq_true rfl) (Nat.le_of_ble_eq_true rfl) (Nat.le_of_ble_eq_true rfl) (Nat.le_of_ble_eq_true rfl) ?_
    intro dz hdz
    obtain rfl := Eq.symm hdz
    exact x_iret dX12_mix_72 rfl (Nat.le_of_ble_eq_true rfl) (Nat.le_of_ble_eq_true rfl) rfl rfl rfl (by show _ = _; unfold m_rf; rw [e71, hd0]) rfl
  · refine x_aload_n dX12_mix_28 x_get_6_0 ?_
    refine x_iconst dX12_mix_29 ?_
    refine x_iload_n dX12_mix_30 x_get_6_1 ?_
    refine x_callV (As := [_, _]) dX12_mix_31 w_12_308 (m_lies hl q0 hk (by omega) (Or.inl rfl) r0 hc0 hc1) (by assumption) (by assumption) rfl rfl (Nat.le_of_ble_eq_true rfl) (Nat.le_of_ble_eq_true rfl) (Nat.le_of_ble_eq_true rfl) (Nat.le_of_ble_eq_true rfl) (Nat.le_of_ble_eq_true rfl) ?_
    intro dz hdz
    obtain rfl := Eq.symm hdz
    refine b_ifeq (t := 67) dX12_mix_34 rfl (fun hc34 => ?_) (fun hc34 => ?_)
    · refine x_aload_n dX12_mix_67 x_get_6_0 ?_
      refine x_iconst dX12_mix_68 ?_
      refine x_callV (As := [_]) dX12_mix_69 w_12_371 (m_refuses hl q0.1 (w := 1) (by decide) (by decide)) (by assumption) (by assumption) rfl rfl (Nat.le_of_ble_eq_true rfl) (Nat.le_of_ble_eq_true rfl) (Nat.le_of_ble_eq_true rfl) (Nat.le_of_ble_eq_true rfl) (Nat.le_of_ble_eq_true rfl) ?_
      intro dz hdz
      obtain rfl := Eq.symm hdz
      exact x_iret dX12_mix_72 rfl (Nat.le_of_ble_eq_true rfl) (Nat.le_of_ble_eq_true rfl) rfl rfl rfl (by show _ = _; unfold m_rf; rw [e71, hd0]) rfl
    · refine x_aload_n dX12_mix_37 x_get_6_0 ?_
      refine x_iconst dX12_mix_38 ?_
      refine x_iload_n dX12_mix_39 x_get_6_2 ?_
      refine x_callV (As := [_, _]) dX12_mix_40 w_12_308 (m_lies hl q0 hk (by omega) (Or.inl rfl) r0 he0 he1) (by assumption) (by assumption) rfl rfl (Nat.le_of_ble_eq_true rfl) (Nat.le_of_ble_eq_true rfl) (Nat.le_of_ble_eq_true rfl) (Nat.le_of_ble_eq_true rfl) (Nat.le_of_ble_eq_true rfl) ?_
      intro dz hdz
      obtain rfl := Eq.symm hdz
      refine b_ifeq (t := 67) dX12_mix_43 rfl (fun hc43 => ?_) (fun hc43 => ?_)
      · refine x_aload_n dX12_mix_67 x_get_6_0 ?_
        refine x_iconst dX12_mix_68 ?_
        refine x_callV (As := [_]) dX12_mix_69 w_12_371 (m_refuses hl q0.1 (w := 1) (by decide) (by decide)) (by assumption) (by assumption) rfl rfl (Nat.le_of_ble_eq_true rfl) (Nat.le_of_ble_eq_true rfl) (Nat.le_of_ble_eq_true rfl) (Nat.le_of_ble_eq_true rfl) (Nat.le_of_ble_eq_true rfl) ?_
        intro dz hdz
        obtain rfl := Eq.symm hdz
        exact x_iret dX12_mix_72 rfl (Nat.le_of_ble_eq_true rfl) (Nat.le_of_ble_eq_true rfl) rfl rfl rfl (by show _ = _; unfold m_rf; rw [e71, hd0]) rfl
      · refine x_aload_n dX12_mix_46 x_get_6_0 ?_
        refine x_getR dX12_mix_47 fX_12_75 n62 s62 (by rfl) ?_
        refine x_bipush dX12_mix_50 rfl ?_
        refine x_iload_n dX12_mix_52 x_get_6_1 ?_
        refine x_iadd dX12_mix_53 ?_
        refine x_iald dX12_mix_54 n82 s82 (by omega) (by omega) (by decide) ?_
        try simp (disch := decide) only [x_up_s, x_up_n, x_up_up, x_u1_s, x_u1_n, e55, e55e]
        refine x_aload_n dX12_mix_55 x_get_6_0 ?_
        refine x_getR dX12_mix_56 fX_12_75 n62 s62 (by rfl) ?_
        refine x_bipush dX12_mix_59 rfl ?_
        refine x_iload_n dX12_mix_61 x_get_6_2 ?_
        refine x_iadd dX12_mix_62 ?_
        refine x_iald dX12_mix_63 n82 s82 (by omega) (by omega) (by decide) ?_
        try simp (disch := decide) only [x_up_s, x_up_n, x_up_up, x_u1_s, x_u1_n, e55, e55e]
        refine r_icmp_eq (t := 73) dX12_mix_64 rfl ⟨by omega, by omega⟩ ⟨by omega, by omega⟩ (fun hc64 => absurd hc64 (fun h2 => h ⟨hc25, hc34, hc43, h2⟩)) (fun hc64 => ?_)
        refine x_aload_n dX12_mix_67 x_get_6_0 ?_
        refine x_iconst dX12_mix_68 ?_
        refine x_callV (As := [_]) dX12_mix_69 w_12_371 (m_refuses hl q0.1 (w := 1) (by decide) (by decide)) (by assumption) (by assumption) rfl rfl (Nat.le_of_ble_eq_true rfl) (Nat.le_of_ble_eq_true rfl) (Nat.le_of_ble_eq_true rfl) (Nat.le_of_ble_eq_true rfl) (Nat.le_of_ble_eq_true rfl) ?_
        intro dz hdz
        obtain rfl := Eq.symm hdz
        exact x_iret dX12_mix_72 rfl (Nat.le_of_ble_eq_true rfl) (Nat.le_of_ble_eq_true rfl) rfl rfl rfl (by show _ = _; unfold m_rf; rw [e71, hd0]) rfl
theorem m_mixT {X : xC} {l : Launch} (hl : l.stackTraces = false) {N : Nat} {sh : xS} {D : xM} {T C W : Nat} {G : Ldt} (hq : mq N sh D T C W G) {B : Int} {f : Int → Int} (hk : s_ok B f) (hB : B ≤ 200000) (hr : mr T C f (D 82) 0) (hv84 : ∀ j, x_r (D 84 j)) {c e : Int} (hcr : x_r c) (her : x_r e) (h : ¬ ((0 ≤ c ∧ c < C) ∧ (0 ≤ e ∧ e < C))) : x_M X l yX12_mix cX12_mix 6 (some .int) 4 0 0 [.ref (x_b X + 62), .int (xI c), .int (xI e)] false N sh D (.inl (some (.int (xI (0))))) false N sh (fun d => ms D d ∧ d 62 0 = 1) := by
  obtain ⟨hM, hT, hTb, hW, hWb, hC, hCb, hmk, ⟨hG1, hG2, hG3⟩, hod⟩ := id hq
  have s62 := md_62 hM
  have n62 : 62 < N := md_n hM (by decide)
  have s82 := md_82 hM
  have n82 : 82 < N := md_n hM (by decide)
  by_cases hc : 0 ≤ c ∧ c < C
  · refine x_ofW (by decide +kernel) hl (by simp [Value.category]) (by simp) ?_
    refine x_aload_n dX12_mix_0 x_get_6_0 ?_
    refine x_iconst dX12_mix_1 ?_
    refine x_putI 0 dX12_mix_2 fX_12_117 rfl tX_12_0 n62 s62 (by rfl) ?_
    have z0 := m_go0 hq hr hv84
    generalize x_up D 62 (x_u1 (D 62) 0 0) = d0 at z0 ⊢
    obtain ⟨q0, t0, ms0, r0, v0⟩ := z0
    refine x_aload_n dX12_mix_5 x_get_6_0 ?_
    refine x_iload_n dX12_mix_6 x_get_6_1 ?_
    refine x_callV (As := [_]) dX12_mix_7 w_12_368 (m_isCrateT hl q0 t0 hc) (by assumption) (by assumption) rfl rfl (Nat.le_of_ble_eq_true rfl) (Nat.le_of_ble_eq_true rfl) (Nat.le_of_ble_eq_true rfl) (Nat.le_of_ble_eq_true rfl) (Nat.le_of_ble_eq_true rfl) ?_
    intro dz hdz
    obtain rfl := Eq.symm hdz
    refine r_if_eq (t := 21) dX12_mix_10 rfl ⟨by omega, by omega⟩ (fun hc10 => absurd hc10 (by omega)) (fun hc10 => ?_)
    refine x_aload_n dX12_mix_13 x_get_6_0 ?_
    refine x_iload_n dX12_mix_14 x_get_6_2 ?_
    refine x_callV (As := [_]) dX12_mix_15 w_12_368 (m_isCrateF hl q0 t0 her (fun hh => h ⟨hc, hh⟩)) (by assumption) (by assumption) rfl rfl (Nat.le_of_ble_eq_true rfl) (Nat.le_of_ble_eq_true rfl) (Nat.le_of_ble_eq_true rfl) (Nat.le_of_ble_eq_true rfl) (Nat.le_of_ble_eq_true rfl) ?_
    intro dz hdz
    obtain rfl := Eq.symm hdz
    refine r_if_ne (t := 23) dX12_mix_18 rfl ⟨by omega, by omega⟩ (fun hc18 => absurd hc18 (by omega)) (fun hc18 => ?_)
    refine x_iconst dX12_mix_21 ?_
    exact x_iret dX12_mix_22 rfl (Nat.le_of_ble_eq_true rfl) (Nat.le_of_ble_eq_true rfl) rfl rfl rfl ⟨ms_thr ms0, by rw [x_up_s, x_u1_s]⟩ rfl
  · refine x_ofW (by decide +kernel) hl (by simp [Value.category]) (by simp) ?_
    refine x_aload_n dX12_mix_0 x_get_6_0 ?_
    refine x_iconst dX12_mix_1 ?_
    refine x_putI 0 dX12_mix_2 fX_12_117 rfl tX_12_0 n62 s62 (by rfl) ?_
    have z0 := m_go0 hq hr hv84
    generalize x_up D 62 (x_u1 (D 62) 0 0) = d0 at z0 ⊢
    obtain ⟨q0, t0, ms0, r0, v0⟩ := z0
    refine x_aload_n dX12_mix_5 x_get_6_0 ?_
    refine x_iload_n dX12_mix_6 x_get_6_1 ?_
    refine x_callV (As := [_]) dX12_mix_7 w_12_368 (m_isCrateF hl q0 t0 hcr hc) (by assumption) (by assumption) rfl rfl (Nat.le_of_ble_eq_true rfl) (Nat.le_of_ble_eq_true rfl) (Nat.le_of_ble_eq_true rfl) (Nat.le_of_ble_eq_true rfl) (Nat.le_of_ble_eq_true rfl) ?_
    intro dz hdz
    obtain rfl := Eq.symm hdz
    refine r_if_eq (t := 21) dX12_mix_10 rfl ⟨by omega, by omega⟩ (fun hc10 => ?_) (fun hc10 => absurd hc10 (by omega))
    refine x_iconst dX12_mix_21 ?_
    exact x_iret dX12_mix_22 rfl (Nat.le_of_ble_eq_true rfl) (Nat.le_of_ble_eq_true rfl) rfl rfl rfl ⟨ms_thr ms0, by rw [x_up_s, x_u1_s]⟩ rfl
end M72
