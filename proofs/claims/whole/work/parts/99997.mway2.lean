section M99997
/-! ===== the Model's lines: ways, whole ===== -/
theorem w_12_249 : x_cv RX12 249 yX12_hasWay cX12_hasWay 4 (some .boolean) 12 2 := ⟨⟨_, rfl, rfl⟩, (x_in 1610 (by decide +kernel) rfl), (x_in 1612 (by decide +kernel) rfl), (x_in 29 (by decide +kernel) rfl), (x_in 90 (by decide +kernel) rfl), (x_in 1613 (by decide +kernel) rfl), by decide, ⟨by decide +kernel, by decide +kernel, by decide +kernel⟩⟩
theorem plc_h {b : Int → Int} {n q T : Nat} {w : Int × Nat} (h : r_plc b n T q = .inr w) : tK b n q = 3 ∧ ¬ tL b n q ∧ tV b n q < T := by
  unfold r_plc at h
  by_cases h1 : tK b n q = 3
  · rw [if_pos h1] at h
    by_cases h2 : tL b n q
    · rw [if_pos h2] at h; cases h
    · rw [if_neg h2] at h
      by_cases h3 : tV b n q < T
      · exact ⟨h1, h2, h3⟩
      · rw [if_neg h3] at h; cases h
  · rw [if_neg h1] at h; cases h
theorem plc_n {b : Int → Int} {n q T : Nat} {z : Int × Nat} (h : r_plc b n T q = .inl z) : ¬ (tK b n q = 3 ∧ ¬ tL b n q ∧ tV b n q < T) := by
  rintro ⟨h1, h2, h3⟩
  unfold r_plc at h
  rw [if_pos h1, if_neg h2, if_pos h3] at h
  cases h
theorem tV_0 {b : Int → Int} {n T q : Nat} {w : Int × Nat} (h : r_plc b n T q = .inr w) : 0 ≤ w.1 ∧ w.1 < T := r_plc_in h
set_option maxHeartbeats 1500000 in
theorem wy_a {X : xC} {l : Launch} (hl : l.stackTraces = false) {N : Nat} {sh : xS} {D : xM} (hM : is_Md N sh) {b : Int → Int} {n lb W T : Nat} {d : xM} {v1 : Int} (h8 : W < 12) {S : Tx} {R : Rs Tx} (hv : sv lb S.1) (hm : ml lb S D) (hW : W = (S.1 (lb + 3) 0).toNat) (hT : T = (S.1 lb 0).toNat) (hv1 : 0 ≤ v1 ∧ v1 < T) {q1 : Nat} (hg : gs b n q1 d) (h14 : d 62 14 = 0) (hu : gf D d) (hlf : lf D d) {w : Int} (hr : r_plc b n T q1 = .inl (w, q1)) (hk : 1 ≤ w ∧ w ≤ 5) (hR : R = .inl (w, q1)) : x_W (X, l, yX12_readsWay, cX12_readsWay, 2, none, x_room 3 0 0, 0, 0, (.inl none), N, sh, (mlp b n lb R D), false, []) 35 [some (.ref (x_b X + 62)), some (.int (xI v1))] [] 0 0 false N sh d := by
  have s62 := md_62 hM
  have n62 : 62 < N := md_n hM (by decide)
  have s74 := md_74 hM
  have n74 : 74 < N := md_n hM (by decide)
  have s75 := md_75 hM
  have n75 : 75 < N := md_n hM (by decide)
  have s76 := md_76 hM
  have n76 : 76 < N := md_n hM (by decide)
  have s77 := md_77 hM
  have n77 : 77 < N := md_n hM (by decide)
  have h25 : d 62 25 = (T : Int) := by rw [hu.2 25 (by decide), hm.1.1, hT]
  have h26 : d 62 26 = (W : Int) := by rw [hu.2 26 (by decide), hm.1.2.1, hW]
  have hT8 : T ≤ 8 := by rw [hT]; exact hv.1.1.2
  rw [hR]
  have hh := m_hereN (X := X) (l := l) hl hM hg h14 hT8 hr
  refine x_aload_n dX12_readsWay_35 x_get_2_0 ?_
  refine x_aload_n dX12_readsWay_36 x_get_2_0 ?_
  refine x_getI 25 dX12_readsWay_37 fX_12_236 rfl n62 s62 (by rfl) ?_
  try simp (disch := decide) only [x_up_s, x_up_n, x_up_up, x_u1_s, x_u1_n, h25]
  refine x_callV (As := [_]) dX12_readsWay_40 w_12_186 (hh) (by assumption) (by assumption) rfl rfl (Nat.le_of_ble_eq_true rfl) (Nat.le_of_ble_eq_true rfl) (Nat.le_of_ble_eq_true rfl) (Nat.le_of_ble_eq_true rfl) (Nat.le_of_ble_eq_true rfl) ?_
  intro d hd
  obtain rfl := Eq.symm hd
  refine r_if_ne (t := 47) dX12_readsWay_43 rfl ⟨by omega, by omega⟩ (fun hc43 => absurd hc43 (by omega)) (fun hc43 => ?_)
  exact x_vret dX12_readsWay_46 rfl (Nat.le_of_ble_eq_true rfl) (Nat.le_of_ble_eq_true rfl) rfl rfl rfl (fz_wr hlf hk) rfl
set_option maxHeartbeats 1500000 in
theorem wy_b {X : xC} {l : Launch} (hl : l.stackTraces = false) {N : Nat} {sh : xS} {D : xM} (hM : is_Md N sh) {b : Int → Int} {n lb W T : Nat} {d : xM} {v1 : Int} (h8 : W < 12) {S : Tx} {R : Rs Tx} (hv : sv lb S.1) (hm : ml lb S D) (hW : W = (S.1 (lb + 3) 0).toNat) (hT : T = (S.1 lb 0).toNat) (hv1 : 0 ≤ v1 ∧ v1 < T) {q1 : Nat} (hg : gs b n q1 d) (h14 : d 62 14 = 0) (hu : gf D d) (hlf : lf D d) {v2 : Int} {q2 : Nat} (hr : r_plc b n T q1 = .inr (v2, q2)) (he : v2 = v1) (hR : R = .inl (4, q1)) : x_W (X, l, yX12_readsWay, cX12_readsWay, 2, none, x_room 3 0 0, 0, 0, (.inl none), N, sh, (mlp b n lb R D), false, []) 35 [some (.ref (x_b X + 62)), some (.int (xI v1))] [] 0 0 false N sh d := by
  have s62 := md_62 hM
  have n62 : 62 < N := md_n hM (by decide)
  have s74 := md_74 hM
  have n74 : 74 < N := md_n hM (by decide)
  have s75 := md_75 hM
  have n75 : 75 < N := md_n hM (by decide)
  have s76 := md_76 hM
  have n76 : 76 < N := md_n hM (by decide)
  have s77 := md_77 hM
  have n77 : 77 < N := md_n hM (by decide)
  have h25 : d 62 25 = (T : Int) := by rw [hu.2 25 (by decide), hm.1.1, hT]
  have h26 : d 62 26 = (W : Int) := by rw [hu.2 26 (by decide), hm.1.2.1, hW]
  have hT8 : T ≤ 8 := by rw [hT]; exact hv.1.1.2
  have h3 := plc_h hr
  have hv2 := tV_0 hr
  have hv2 : 0 ≤ v2 ∧ v2 < T := hv2
  have h22 : d 62 22 = v2 := by rw [hg.2.2.2.2.2.2.1 h3.1 h3.2.1]; exact (plc_v hr).1
  have hh := m_hereT (X := X) (l := l) hl hM hg h14 hT8 h3
  rw [hR]
  refine x_aload_n dX12_readsWay_35 x_get_2_0 ?_
  refine x_aload_n dX12_readsWay_36 x_get_2_0 ?_
  refine x_getI 25 dX12_readsWay_37 fX_12_236 rfl n62 s62 (by rfl) ?_
  try simp (disch := decide) only [x_up_s, x_up_n, x_up_up, x_u1_s, x_u1_n, h25, h22]
  refine x_callV (As := [_]) dX12_readsWay_40 w_12_186 (hh) (by assumption) (by assumption) rfl rfl (Nat.le_of_ble_eq_true rfl) (Nat.le_of_ble_eq_true rfl) (Nat.le_of_ble_eq_true rfl) (Nat.le_of_ble_eq_true rfl) (Nat.le_of_ble_eq_true rfl) ?_
  intro d hd
  obtain rfl := Eq.symm hd
  refine r_if_ne (t := 47) dX12_readsWay_43 rfl ⟨by omega, by omega⟩ (fun hc43 => ?_) (fun hc43 => absurd hc43 (by omega))
  refine x_aload_n dX12_readsWay_47 x_get_2_0 ?_
  refine x_getI 22 dX12_readsWay_48 fX_12_144 rfl n62 s62 (by rfl) ?_
  try simp (disch := decide) only [x_up_s, x_up_n, x_up_up, x_u1_s, x_u1_n, h25, h22]
  refine x_iload_n dX12_readsWay_51 x_get_2_1 ?_
  refine r_icmp_eq (t := 67) dX12_readsWay_52 rfl ⟨by omega, by omega⟩ ⟨by omega, by omega⟩ (fun hc52 => ?_) (fun hc52 => absurd hc52 (by omega))
  refine x_aload_n dX12_readsWay_67 x_get_2_0 ?_
  refine x_iconst dX12_readsWay_68 ?_
  refine x_callV (As := [_]) dX12_readsWay_69 w_12_183 (m_wrong hl hM hg h14) (by assumption) (by assumption) rfl rfl (Nat.le_of_ble_eq_true rfl) (Nat.le_of_ble_eq_true rfl) (Nat.le_of_ble_eq_true rfl) (Nat.le_of_ble_eq_true rfl) (Nat.le_of_ble_eq_true rfl) ?_
  intro d hd
  obtain rfl := Eq.symm hd
  refine x_aload_n dX12_readsWay_72 x_get_2_0 ?_
  refine x_callV (As := []) dX12_readsWay_73 w_12_176 (m_goodF hl hM mwf_14 (by decide)) (by assumption) (by assumption) rfl rfl (Nat.le_of_ble_eq_true rfl) (Nat.le_of_ble_eq_true rfl) (Nat.le_of_ble_eq_true rfl) (Nat.le_of_ble_eq_true rfl) (Nat.le_of_ble_eq_true rfl) ?_
  intro d hd
  obtain rfl := Eq.symm hd
  refine r_if_ne (t := 80) dX12_readsWay_76 rfl ⟨by omega, by omega⟩ (fun hc76 => absurd hc76 (by omega)) (fun hc76 => ?_)
  exact x_vret dX12_readsWay_79 rfl (Nat.le_of_ble_eq_true rfl) (Nat.le_of_ble_eq_true rfl) rfl rfl rfl (fz_wr hlf (by decide)) rfl
set_option maxHeartbeats 1500000 in
theorem wy_c {X : xC} {l : Launch} (hl : l.stackTraces = false) {N : Nat} {sh : xS} {D : xM} (hM : is_Md N sh) {b : Int → Int} {n lb W T : Nat} {d : xM} {v1 : Int} (h8 : W < 12) {S : Tx} {R : Rs Tx} (hv : sv lb S.1) (hm : ml lb S D) (hW : W = (S.1 (lb + 3) 0).toNat) (hT : T = (S.1 lb 0).toNat) (hv1 : 0 ≤ v1 ∧ v1 < T) {q1 : Nat} (hg : gs b n q1 d) (h14 : d 62 14 = 0) (hu : gf D d) (hlf : lf D d) {v2 : Int} {q2 : Nat} (hr : r_plc b n T q1 = .inr (v2, q2)) (he : ¬ v2 = v1) (hP : ¬ e_btw (S.1 (lb + 3 + 1)) (S.1 (lb + 3 + 2)) W v1 v2 = -1) (hR : R = .inl (4, q1)) : x_W (X, l, yX12_readsWay, cX12_readsWay, 2, none, x_room 3 0 0, 0, 0, (.inl none), N, sh, (mlp b n lb R D), false, []) 35 [some (.ref (x_b X + 62)), some (.int (xI v1))] [] 0 0 false N sh d := by
  have s62 := md_62 hM
  have n62 : 62 < N := md_n hM (by decide)
  have s74 := md_74 hM
  have n74 : 74 < N := md_n hM (by decide)
  have s75 := md_75 hM
  have n75 : 75 < N := md_n hM (by decide)
  have s76 := md_76 hM
  have n76 : 76 < N := md_n hM (by decide)
  have s77 := md_77 hM
  have n77 : 77 < N := md_n hM (by decide)
  have h25 : d 62 25 = (T : Int) := by rw [hu.2 25 (by decide), hm.1.1, hT]
  have h26 : d 62 26 = (W : Int) := by rw [hu.2 26 (by decide), hm.1.2.1, hW]
  have hT8 : T ≤ 8 := by rw [hT]; exact hv.1.1.2
  have h3 := plc_h hr
  have hv2 := tV_0 hr
  have hv2 : 0 ≤ v2 ∧ v2 < T := hv2
  have h22 : d 62 22 = v2 := by rw [hg.2.2.2.2.2.2.1 h3.1 h3.2.1]; exact (plc_v hr).1
  have hh := m_hereT (X := X) (l := l) hl hM hg h14 hT8 h3
  obtain ⟨T0, hrd⟩ := hv.1.2.2
  rw [← hW] at hrd
  have hwy := hv.2.2.2.2.2
  rw [← hW] at hwy
  have hcl : ∀ w : Int, 0 ≤ w → w < W → d 74 w = S.1 (lb + 3 + 1) w ∧ d 75 w = S.1 (lb + 3 + 2) w := by
    intro w a0 a1
    rw [hu.1 74 (by decide), hu.1 75 (by decide)]
    have h5 := hm.2.2.1 w a0 (by rw [← hW]; exact a1)
    exact ⟨h5.1, h5.2.1⟩
  have hhas := m_hasWay (X := X) (l := l) hl hM (a := v1) (c := v2) h26 hrd.2.1 hcl hrd.2.2.2.2.1 hrd.2.2.2.2.2.1 (fun w hw => (hwy w hw).2.2.1) ⟨by omega, by omega⟩ ⟨by omega, by omega⟩
  rw [hR]
  refine x_aload_n dX12_readsWay_35 x_get_2_0 ?_
  refine x_aload_n dX12_readsWay_36 x_get_2_0 ?_
  refine x_getI 25 dX12_readsWay_37 fX_12_236 rfl n62 s62 (by rfl) ?_
  try simp (disch := decide) only [x_up_s, x_up_n, x_up_up, x_u1_s, x_u1_n, h25, h22]
  refine x_callV (As := [_]) dX12_readsWay_40 w_12_186 (hh) (by assumption) (by assumption) rfl rfl (Nat.le_of_ble_eq_true rfl) (Nat.le_of_ble_eq_true rfl) (Nat.le_of_ble_eq_true rfl) (Nat.le_of_ble_eq_true rfl) (Nat.le_of_ble_eq_true rfl) ?_
  intro d hd
  obtain rfl := Eq.symm hd
  refine r_if_ne (t := 47) dX12_readsWay_43 rfl ⟨by omega, by omega⟩ (fun hc43 => ?_) (fun hc43 => absurd hc43 (by omega))
  refine x_aload_n dX12_readsWay_47 x_get_2_0 ?_
  refine x_getI 22 dX12_readsWay_48 fX_12_144 rfl n62 s62 (by rfl) ?_
  try simp (disch := decide) only [x_up_s, x_up_n, x_up_up, x_u1_s, x_u1_n, h25, h22]
  refine x_iload_n dX12_readsWay_51 x_get_2_1 ?_
  refine r_icmp_eq (t := 67) dX12_readsWay_52 rfl ⟨by omega, by omega⟩ ⟨by omega, by omega⟩ (fun hc52 => absurd hc52 (by omega)) (fun hc52 => ?_)
  refine x_aload_n dX12_readsWay_55 x_get_2_0 ?_
  refine x_iload_n dX12_readsWay_56 x_get_2_1 ?_
  refine x_aload_n dX12_readsWay_57 x_get_2_0 ?_
  refine x_getI 22 dX12_readsWay_58 fX_12_144 rfl n62 s62 (by rfl) ?_
  try simp (disch := decide) only [x_up_s, x_up_n, x_up_up, x_u1_s, x_u1_n, h25, h22]
  refine x_callV (As := [_, _]) dX12_readsWay_61 w_12_249 (hhas) (by assumption) (by assumption) rfl rfl (Nat.le_of_ble_eq_true rfl) (Nat.le_of_ble_eq_true rfl) (Nat.le_of_ble_eq_true rfl) (Nat.le_of_ble_eq_true rfl) (Nat.le_of_ble_eq_true rfl) ?_
  intro d hd
  obtain rfl := Eq.symm hd
  refine b_ifeq (t := 72) dX12_readsWay_64 rfl (fun hc64 => absurd hc64 (fun hh => hh hP)) (fun hc64 => ?_)
  refine x_aload_n dX12_readsWay_67 x_get_2_0 ?_
  refine x_iconst dX12_readsWay_68 ?_
  refine x_callV (As := [_]) dX12_readsWay_69 w_12_183 (m_wrong hl hM hg h14) (by assumption) (by assumption) rfl rfl (Nat.le_of_ble_eq_true rfl) (Nat.le_of_ble_eq_true rfl) (Nat.le_of_ble_eq_true rfl) (Nat.le_of_ble_eq_true rfl) (Nat.le_of_ble_eq_true rfl) ?_
  intro d hd
  obtain rfl := Eq.symm hd
  refine x_aload_n dX12_readsWay_72 x_get_2_0 ?_
  refine x_callV (As := []) dX12_readsWay_73 w_12_176 (m_goodF hl hM mwf_14 (by decide)) (by assumption) (by assumption) rfl rfl (Nat.le_of_ble_eq_true rfl) (Nat.le_of_ble_eq_true rfl) (Nat.le_of_ble_eq_true rfl) (Nat.le_of_ble_eq_true rfl) (Nat.le_of_ble_eq_true rfl) ?_
  intro d hd
  obtain rfl := Eq.symm hd
  refine r_if_ne (t := 80) dX12_readsWay_76 rfl ⟨by omega, by omega⟩ (fun hc76 => absurd hc76 (by omega)) (fun hc76 => ?_)
  exact x_vret dX12_readsWay_79 rfl (Nat.le_of_ble_eq_true rfl) (Nat.le_of_ble_eq_true rfl) rfl rfl rfl (fz_wr hlf (by decide)) rfl
set_option maxHeartbeats 1500000 in
theorem wy_d {X : xC} {l : Launch} (hl : l.stackTraces = false) {N : Nat} {sh : xS} {D : xM} (hM : is_Md N sh) {b : Int → Int} {n lb W T : Nat} {d : xM} {v1 : Int} (h8 : W < 12) {S : Tx} {R : Rs Tx} (hv : sv lb S.1) (hm : ml lb S D) (hW : W = (S.1 (lb + 3) 0).toNat) (hT : T = (S.1 lb 0).toNat) (hv1 : 0 ≤ v1 ∧ v1 < T) {q1 : Nat} (hg : gs b n q1 d) (h14 : d 62 14 = 0) (hu : gf D d) (hlf : lf D d) {v2 : Int} {q2 : Nat} (hr : r_plc b n T q1 = .inr (v2, q2)) (he : ¬ v2 = v1) (hP : e_btw (S.1 (lb + 3 + 1)) (S.1 (lb + 3 + 2)) W v1 v2 = -1) (hR : R = r_bd (r_bd (r_num b n 1 9 q2) (fun v3 q3 => r_bd (r_num b n 0 9 q3) (fun v4 q4 => .inr ((v1, v2, v3, v4), q4)))) (fun v q1 => .inr ((x_wy lb W v S.1, S.2), q1))) : x_W (X, l, yX12_readsWay, cX12_readsWay, 2, none, x_room 3 0 0, 0, 0, (.inl none), N, sh, (mlp b n lb R D), false, []) 35 [some (.ref (x_b X + 62)), some (.int (xI v1))] [] 0 0 false N sh d := by
  have s62 := md_62 hM
  have n62 : 62 < N := md_n hM (by decide)
  have s74 := md_74 hM
  have n74 : 74 < N := md_n hM (by decide)
  have s75 := md_75 hM
  have n75 : 75 < N := md_n hM (by decide)
  have s76 := md_76 hM
  have n76 : 76 < N := md_n hM (by decide)
  have s77 := md_77 hM
  have n77 : 77 < N := md_n hM (by decide)
  have h25 : d 62 25 = (T : Int) := by rw [hu.2 25 (by decide), hm.1.1, hT]
  have h26 : d 62 26 = (W : Int) := by rw [hu.2 26 (by decide), hm.1.2.1, hW]
  have hT8 : T ≤ 8 := by rw [hT]; exact hv.1.1.2
  have h3 := plc_h hr
  have hv2 := tV_0 hr
  have hv2 : 0 ≤ v2 ∧ v2 < T := hv2
  have h22 : d 62 22 = v2 := by rw [hg.2.2.2.2.2.2.1 h3.1 h3.2.1]; exact (plc_v hr).1
  have hh := m_hereT (X := X) (l := l) hl hM hg h14 hT8 h3
  obtain ⟨T0, hrd⟩ := hv.1.2.2
  rw [← hW] at hrd
  have hwy := hv.2.2.2.2.2
  rw [← hW] at hwy
  have hcl : ∀ w : Int, 0 ≤ w → w < W → d 74 w = S.1 (lb + 3 + 1) w ∧ d 75 w = S.1 (lb + 3 + 2) w := by
    intro w a0 a1
    rw [hu.1 74 (by decide), hu.1 75 (by decide)]
    have h5 := hm.2.2.1 w a0 (by rw [← hW]; exact a1)
    exact ⟨h5.1, h5.2.1⟩
  have hhas := m_hasWay (X := X) (l := l) hl hM (a := v1) (c := v2) h26 hrd.2.1 hcl hrd.2.2.2.2.1 hrd.2.2.2.2.2.1 (fun w hw => (hwy w hw).2.2.1) ⟨by omega, by omega⟩ ⟨by omega, by omega⟩
  have hq2 : q2 = tE b n q1 := (plc_v hr).2
  obtain ⟨e0, e1, e2⟩ := tE_in (b := b) hg.2.1
  obtain ⟨d3, hd3⟩ : ∃ d3, d3 = x_up (x_up d 74 (x_u1 (d 74) W v1)) 75 (x_u1 (d 75) W v2) := ⟨_, rfl⟩
  have hg3 : gs b n q1 d3 := by rw [hd3]; exact gs_up (gs_up hg (by decide) (by decide)) (by decide) (by decide)
  have h143 : d3 62 14 = 0 := by rw [hd3, x_up_n (by decide), x_up_n (by decide)]; exact h14
  have hlf3 : lf D d3 := by rw [hd3]; exact lf_tr hlf (lf_tr (lf_up (by decide)) (lf_up (by decide)))
  have hu3 : gf (x_up (x_up D 74 (x_u1 (D 74) W v1)) 75 (x_u1 (D 75) W v2)) d3 := by
    rw [hd3]
    exact gf_up (j := 75) (i := W) (v := v2) (gf_up (j := 74) (i := W) (v := v1) hu (by decide)) (by decide)
  refine x_aload_n dX12_readsWay_35 x_get_2_0 ?_
  refine x_aload_n dX12_readsWay_36 x_get_2_0 ?_
  refine x_getI 25 dX12_readsWay_37 fX_12_236 rfl n62 s62 (by rfl) ?_
  try simp (disch := decide) only [x_up_s, x_up_n, x_up_up, x_u1_s, x_u1_n, h25, h22, h26]
  refine x_callV (As := [_]) dX12_readsWay_40 w_12_186 (hh) (by assumption) (by assumption) rfl rfl (Nat.le_of_ble_eq_true rfl) (Nat.le_of_ble_eq_true rfl) (Nat.le_of_ble_eq_true rfl) (Nat.le_of_ble_eq_true rfl) (Nat.le_of_ble_eq_true rfl) ?_
  intro d hd
  obtain rfl := Eq.symm hd
  refine r_if_ne (t := 47) dX12_readsWay_43 rfl ⟨by omega, by omega⟩ (fun hc43 => ?_) (fun hc43 => absurd hc43 (by omega))
  refine x_aload_n dX12_readsWay_47 x_get_2_0 ?_
  refine x_getI 22 dX12_readsWay_48 fX_12_144 rfl n62 s62 (by rfl) ?_
  try simp (disch := decide) only [x_up_s, x_up_n, x_up_up, x_u1_s, x_u1_n, h25, h22, h26]
  refine x_iload_n dX12_readsWay_51 x_get_2_1 ?_
  refine r_icmp_eq (t := 67) dX12_readsWay_52 rfl ⟨by omega, by omega⟩ ⟨by omega, by omega⟩ (fun hc52 => absurd hc52 (by omega)) (fun hc52 => ?_)
  refine x_aload_n dX12_readsWay_55 x_get_2_0 ?_
  refine x_iload_n dX12_readsWay_56 x_get_2_1 ?_
  refine x_aload_n dX12_readsWay_57 x_get_2_0 ?_
  refine x_getI 22 dX12_readsWay_58 fX_12_144 rfl n62 s62 (by rfl) ?_
  try simp (disch := decide) only [x_up_s, x_up_n, x_up_up, x_u1_s, x_u1_n, h25, h22, h26]
  refine x_callV (As := [_, _]) dX12_readsWay_61 w_12_249 (hhas) (by assumption) (by assumption) rfl rfl (Nat.le_of_ble_eq_true rfl) (Nat.le_of_ble_eq_true rfl) (Nat.le_of_ble_eq_true rfl) (Nat.le_of_ble_eq_true rfl) (Nat.le_of_ble_eq_true rfl) ?_
  intro d hd
  obtain rfl := Eq.symm hd
  refine b_ifeq (t := 72) dX12_readsWay_64 rfl (fun hc64 => ?_) (fun hc64 => absurd hc64 (fun hh => hh hP))
  refine x_aload_n dX12_readsWay_72 x_get_2_0 ?_
  refine x_callV (As := []) dX12_readsWay_73 w_12_176 (m_good hl hM h14) (by assumption) (by assumption) rfl rfl (Nat.le_of_ble_eq_true rfl) (Nat.le_of_ble_eq_true rfl) (Nat.le_of_ble_eq_true rfl) (Nat.le_of_ble_eq_true rfl) (Nat.le_of_ble_eq_true rfl) ?_
  intro d hd
  obtain rfl := Eq.symm hd
  refine r_if_ne (t := 80) dX12_readsWay_76 rfl ⟨by omega, by omega⟩ (fun hc76 => ?_) (fun hc76 => absurd hc76 (by omega))
  refine x_aload_n dX12_readsWay_80 x_get_2_0 ?_
  refine x_getR dX12_readsWay_81 fX_12_50 n62 s62 (by rfl) ?_
  refine x_aload_n dX12_readsWay_84 x_get_2_0 ?_
  refine x_getI 26 dX12_readsWay_85 fX_12_243 rfl n62 s62 (by rfl) ?_
  try simp (disch := decide) only [x_up_s, x_up_n, x_up_up, x_u1_s, x_u1_n, h25, h22, h26]
  refine x_iload_n dX12_readsWay_88 x_get_2_1 ?_
  refine x_iast dX12_readsWay_89 n74 s74 (by omega) (by omega) (by decide) ?_
  try simp (disch := decide) only [x_up_s, x_up_n, x_up_up, x_u1_s, x_u1_n, h25, h22, h26]
  refine x_aload_n dX12_readsWay_90 x_get_2_0 ?_
  refine x_getR dX12_readsWay_91 fX_12_53 n62 s62 (by rfl) ?_
  refine x_aload_n dX12_readsWay_94 x_get_2_0 ?_
  refine x_getI 26 dX12_readsWay_95 fX_12_243 rfl n62 s62 (by rfl) ?_
  try simp (disch := decide) only [x_up_s, x_up_n, x_up_up, x_u1_s, x_u1_n, h25, h22, h26]
  refine x_aload_n dX12_readsWay_98 x_get_2_0 ?_
  refine x_getI 22 dX12_readsWay_99 fX_12_144 rfl n62 s62 (by rfl) ?_
  try simp (disch := decide) only [x_up_s, x_up_n, x_up_up, x_u1_s, x_u1_n, h25, h22, h26]
  refine x_iast dX12_readsWay_102 n75 s75 (by omega) (by omega) (by decide) ?_
  try simp (disch := decide) only [x_up_s, x_up_n, x_up_up, x_u1_s, x_u1_n, h25, h22, h26]
  rw [← hd3]
  refine x_aload_n dX12_readsWay_103 x_get_2_0 ?_
  refine x_callV (As := []) dX12_readsWay_104 w_12_180 (m_goes hl hM hg3.1 e2 hg3.2.2.1) (by assumption) (by assumption) rfl rfl (Nat.le_of_ble_eq_true rfl) (Nat.le_of_ble_eq_true rfl) (Nat.le_of_ble_eq_true rfl) (Nat.le_of_ble_eq_true rfl) (Nat.le_of_ble_eq_true rfl) ?_
  rintro d4 ⟨hg4, hgf4⟩
  exact wy_g107 hl hM h8 hv hm hW (by rw [hq2]; exact hg4) (by rw [hgf4.2 14 (by decide)]; exact h143) (gf_trn hu3 hgf4) (lf_tr hlf3 (lf_gf hgf4)) hR
set_option maxHeartbeats 1500000 in
theorem wy_g35 {X : xC} {l : Launch} (hl : l.stackTraces = false) {N : Nat} {sh : xS} {D : xM} (hM : is_Md N sh) {b : Int → Int} {n lb W T : Nat} {d : xM} {v1 : Int} (h8 : W < 12) {S : Tx} {R : Rs Tx} (hv : sv lb S.1) (hm : ml lb S D) (hW : W = (S.1 (lb + 3) 0).toNat) (hT : T = (S.1 lb 0).toNat) (hv1 : 0 ≤ v1 ∧ v1 < T) {q1 : Nat} (hg : gs b n q1 d) (h14 : d 62 14 = 0) (hu : gf D d) (hlf : lf D d) (hR : R = r_bd (if r_jn b n T W (S.1 (lb + 3 + 1)) (S.1 (lb + 3 + 2)) v1 q1 then .inl (4, q1) else r_bd (r_plc b n T q1) (fun v2 q2 => r_bd (r_num b n 1 9 q2) (fun v3 q3 => r_bd (r_num b n 0 9 q3) (fun v4 q4 => .inr ((v1, v2, v3, v4), q4))))) (fun v q1 => .inr ((x_wy lb W v S.1, S.2), q1))) : x_W (X, l, yX12_readsWay, cX12_readsWay, 2, none, x_room 3 0 0, 0, 0, (.inl none), N, sh, (mlp b n lb R D), false, []) 35 [some (.ref (x_b X + 62)), some (.int (xI v1))] [] 0 0 false N sh d := by
  obtain ⟨r, hr⟩ : ∃ r, r_plc b n T q1 = r := ⟨_, rfl⟩
  cases r with
  | inl z =>
    obtain ⟨w, p⟩ := z
    obtain ⟨e, k1, k2⟩ := r_plc_i hr
    have e : p = q1 := e
    rw [e] at hr
    rw [if_neg (fun h => plc_n hr h.1), hr] at hR
    exact wy_a hl hM h8 hv hm hW hT hv1 hg h14 hu hlf hr ⟨k1, k2⟩ hR
  | inr z =>
    obtain ⟨v2, q2⟩ := z
    have h3 := plc_h hr
    have hvv : tV b n q1 = v2 := (plc_v hr).1
    by_cases he : v2 = v1
    · rw [if_pos ⟨h3, Or.inl (hvv.trans he)⟩] at hR
      exact wy_b hl hM h8 hv hm hW hT hv1 hg h14 hu hlf hr he hR
    by_cases hP : e_btw (S.1 (lb + 3 + 1)) (S.1 (lb + 3 + 2)) W v1 v2 = -1
    · rw [if_neg (fun h => h.2.elim (fun h => he (hvv.symm.trans h)) (fun h => h (by rw [hvv]; exact hP))), hr] at hR
      exact wy_d hl hM h8 hv hm hW hT hv1 hg h14 hu hlf hr he hP hR
    · rw [if_pos ⟨h3, Or.inr (by rw [hvv]; exact hP)⟩] at hR
      exact wy_c hl hM h8 hv hm hW hT hv1 hg h14 hu hlf hr he hP hR
set_option maxHeartbeats 1500000 in
theorem ml_way {X : xC} {l : Launch} (hl : l.stackTraces = false) {N : Nat} {sh : xS} {D : xM} (hM : is_Md N sh) {b : Int → Int} {n q lb : Nat} {S : Tx} (hv : sv lb S.1) (hm : ml lb S D) (hg : gs b n q D) (h14 : D 62 14 = 0) : x_M X l yX12_readsWay cX12_readsWay 2 (none) 3 0 0 [.ref (x_b X + 62)] false N sh D (.inl none) false N sh (mlp b n lb (r_bd (r_way b n (S.1 lb 0).toNat (S.1 (lb + 3) 0).toNat (S.1 (lb + 3 + 1)) (S.1 (lb + 3 + 2)) q) (fun v q1 => .inr ((x_wy lb (S.1 (lb + 3) 0).toNat v S.1, S.2), q1))) D) := by
  have s62 := md_62 hM
  have n62 : 62 < N := md_n hM (by decide)
  have s74 := md_74 hM
  have n74 : 74 < N := md_n hM (by decide)
  have s75 := md_75 hM
  have n75 : 75 < N := md_n hM (by decide)
  have s76 := md_76 hM
  have n76 : 76 < N := md_n hM (by decide)
  have s77 := md_77 hM
  have n77 : 77 < N := md_n hM (by decide)
  obtain ⟨T, hT⟩ : ∃ T, T = (S.1 lb 0).toNat := ⟨_, rfl⟩
  obtain ⟨W, hW⟩ : ∃ W, W = (S.1 (lb + 3) 0).toNat := ⟨_, rfl⟩
  obtain ⟨R, hR⟩ : ∃ R, R = (r_bd (r_way b n (S.1 lb 0).toNat (S.1 (lb + 3) 0).toNat (S.1 (lb + 3 + 1)) (S.1 (lb + 3 + 2)) q) (fun v q1 => .inr ((x_wy lb (S.1 (lb + 3) 0).toNat v S.1, S.2), q1))) := ⟨_, rfl⟩
  rw [← hR]
  rw [← hT, ← hW] at hR
  have h26 : D 62 26 = (W : Int) := by rw [hm.1.2.1, hW]
  have hT8 : T ≤ 8 := by rw [hT]; exact hv.1.1.2
  have hW12 : W ≤ 12 := by
    obtain ⟨T0, hrd⟩ := hv.1.2.2
    rw [hW]; exact hrd.2.1
  obtain ⟨e0, e1, e2⟩ := tE_in (b := b) hg.2.1
  refine x_ofW (by decide +kernel) hl (by simp [Value.category]) (by simp) ?_
  by_cases h8 : 12 ≤ W
  · have hR : R = .inl (2, q) := by rw [hR]; unfold r_way; rw [if_pos h8]; rfl
    rw [hR]
    refine x_aload_n dX12_readsWay_0 x_get_2_0 ?_
    refine x_getI 26 dX12_readsWay_1 fX_12_243 rfl n62 s62 (by rfl) ?_
    try simp (disch := decide) only [x_up_s, x_up_n, x_up_up, x_u1_s, x_u1_n, h26]
    refine x_bipush dX12_readsWay_4 rfl ?_
    refine r_icmp_ne (t := 14) dX12_readsWay_6 rfl ⟨by omega, by omega⟩ ⟨by omega, by omega⟩ (fun hc6 => absurd hc6 (by omega)) (fun hc6 => ?_)
    refine x_aload_n dX12_readsWay_9 x_get_2_0 ?_
    refine x_iconst dX12_readsWay_10 ?_
    refine x_callV (As := [_]) dX12_readsWay_11 w_12_183 (m_wrong hl hM hg h14) (by assumption) (by assumption) rfl rfl (Nat.le_of_ble_eq_true rfl) (Nat.le_of_ble_eq_true rfl) (Nat.le_of_ble_eq_true rfl) (Nat.le_of_ble_eq_true rfl) (Nat.le_of_ble_eq_true rfl) ?_
    intro d hd
    obtain rfl := Eq.symm hd
    refine x_aload_n dX12_readsWay_14 x_get_2_0 ?_
    refine x_callV (As := []) dX12_readsWay_15 w_12_176 (m_goodF hl hM mwf_14 (by decide)) (by assumption) (by assumption) rfl rfl (Nat.le_of_ble_eq_true rfl) (Nat.le_of_ble_eq_true rfl) (Nat.le_of_ble_eq_true rfl) (Nat.le_of_ble_eq_true rfl) (Nat.le_of_ble_eq_true rfl) ?_
    intro d hd
    obtain rfl := Eq.symm hd
    refine r_if_ne (t := 22) dX12_readsWay_18 rfl ⟨by omega, by omega⟩ (fun hc18 => absurd hc18 (by omega)) (fun hc18 => ?_)
    exact x_vret dX12_readsWay_21 rfl (Nat.le_of_ble_eq_true rfl) (Nat.le_of_ble_eq_true rfl) rfl rfl rfl (fz_wr lf_rf (by decide)) rfl
  have h8 : W < 12 := by omega
  have hR : R = r_bd (r_bd (r_plc b n T (tE b n q)) (fun v1 q1 => if r_jn b n T W (S.1 (lb + 3 + 1)) (S.1 (lb + 3 + 2)) v1 q1 then .inl (4, q1) else r_bd (r_plc b n T q1) (fun v2 q2 => r_bd (r_num b n 1 9 q2) (fun v3 q3 => r_bd (r_num b n 0 9 q3) (fun v4 q4 => .inr ((v1, v2, v3, v4), q4)))))) (fun v q1 => .inr ((x_wy lb W v S.1, S.2), q1)) := by
    rw [hR]; unfold r_way; rw [if_neg (by omega)]
  have hgo := m_goes (X := X) (l := l) hl hM hg.1 e2 hg.2.2.1
  refine x_aload_n dX12_readsWay_0 x_get_2_0 ?_
  refine x_getI 26 dX12_readsWay_1 fX_12_243 rfl n62 s62 (by rfl) ?_
  try simp (disch := decide) only [x_up_s, x_up_n, x_up_up, x_u1_s, x_u1_n, h26]
  refine x_bipush dX12_readsWay_4 rfl ?_
  refine r_icmp_ne (t := 14) dX12_readsWay_6 rfl ⟨by omega, by omega⟩ ⟨by omega, by omega⟩ (fun hc6 => ?_) (fun hc6 => absurd hc6 (by omega))
  refine x_aload_n dX12_readsWay_14 x_get_2_0 ?_
  refine x_callV (As := []) dX12_readsWay_15 w_12_176 (m_good hl hM h14) (by assumption) (by assumption) rfl rfl (Nat.le_of_ble_eq_true rfl) (Nat.le_of_ble_eq_true rfl) (Nat.le_of_ble_eq_true rfl) (Nat.le_of_ble_eq_true rfl) (Nat.le_of_ble_eq_true rfl) ?_
  intro d hd
  obtain rfl := Eq.symm hd
  refine r_if_ne (t := 22) dX12_readsWay_18 rfl ⟨by omega, by omega⟩ (fun hc18 => ?_) (fun hc18 => absurd hc18 (by omega))
  refine x_aload_n dX12_readsWay_22 x_get_2_0 ?_
  refine x_callV (As := []) dX12_readsWay_23 w_12_180 (hgo) (by assumption) (by assumption) rfl rfl (Nat.le_of_ble_eq_true rfl) (Nat.le_of_ble_eq_true rfl) (Nat.le_of_ble_eq_true rfl) (Nat.le_of_ble_eq_true rfl) (Nat.le_of_ble_eq_true rfl) ?_
  rintro d1 ⟨hg1, hgf1⟩
  have h141 : d1 62 14 = 0 := by rw [hgf1.2 14 (by decide)]; exact h14
  have h251 : d1 62 25 = (T : Int) := by rw [hgf1.2 25 (by decide), hm.1.1, hT]
  obtain ⟨r, hr⟩ : ∃ r, r_plc b n T (tE b n q) = r := ⟨_, rfl⟩
  have hnum := m_among (X := X) (l := l) hl hM hg1 h141 hT8
  rw [hr] at hnum hR
  have hkd := kd_plc (b := b) (n := n) (q := tE b n q) (T := T)
  skip
  cases r with
  | inl z =>
    rw [show R = .inl z from hR]
    refine x_aload_n dX12_readsWay_26 x_get_2_0 ?_
    refine x_aload_n dX12_readsWay_27 x_get_2_0 ?_
    refine x_getI 25 dX12_readsWay_28 fX_12_236 rfl n62 s62 (by rfl) ?_
    try simp (disch := decide) only [x_up_s, x_up_n, x_up_up, x_u1_s, x_u1_n, h251]
    refine x_callV (As := [_]) dX12_readsWay_31 w_12_246 (hnum) (by assumption) (by assumption) rfl rfl (Nat.le_of_ble_eq_true rfl) (Nat.le_of_ble_eq_true rfl) (Nat.le_of_ble_eq_true rfl) (Nat.le_of_ble_eq_true rfl) (Nat.le_of_ble_eq_true rfl) ?_
    intro d2 hp
    have hf := fz_of (lf_gf hgf1) hp (hkd z hr)
    refine x_istore_n dX12_readsWay_34 (Nat.le_of_ble_eq_true rfl) rfl x_set_2_1 ?_
    refine x_aload_n dX12_readsWay_35 x_get_2_0 ?_
    refine x_aload_n dX12_readsWay_36 x_get_2_0 ?_
    refine x_getI 25 dX12_readsWay_37 fX_12_236 rfl n62 s62 (by rfl) ?_
    try simp (disch := decide) only [x_up_s, x_up_n, x_up_up, x_u1_s, x_u1_n, h251]
    refine x_callV (As := [_]) dX12_readsWay_40 w_12_186 (m_hereF hl hM hf.2.2.1 hf.2.1) (by assumption) (by assumption) rfl rfl (Nat.le_of_ble_eq_true rfl) (Nat.le_of_ble_eq_true rfl) (Nat.le_of_ble_eq_true rfl) (Nat.le_of_ble_eq_true rfl) (Nat.le_of_ble_eq_true rfl) ?_
    intro d hd
    obtain rfl := Eq.symm hd
    refine r_if_ne (t := 47) dX12_readsWay_43 rfl ⟨by omega, by omega⟩ (fun hc43 => absurd hc43 (by omega)) (fun hc43 => ?_)
    exact x_vret dX12_readsWay_46 rfl (Nat.le_of_ble_eq_true rfl) (Nat.le_of_ble_eq_true rfl) rfl rfl rfl hf rfl
  | inr w =>
    obtain ⟨v1, q1⟩ := w
    have hv1 := tV_0 hr
    rw [show m_vl (Sum.inr (v1, q1) : Rs Int) (tV b n (tE b n q)) = v1 from (plc_v hr).1] at hnum
    refine x_aload_n dX12_readsWay_26 x_get_2_0 ?_
    refine x_aload_n dX12_readsWay_27 x_get_2_0 ?_
    refine x_getI 25 dX12_readsWay_28 fX_12_236 rfl n62 s62 (by rfl) ?_
    try simp (disch := decide) only [x_up_s, x_up_n, x_up_up, x_u1_s, x_u1_n, h251]
    refine x_callV (As := [_]) dX12_readsWay_31 w_12_246 (hnum) (by assumption) (by assumption) rfl rfl (Nat.le_of_ble_eq_true rfl) (Nat.le_of_ble_eq_true rfl) (Nat.le_of_ble_eq_true rfl) (Nat.le_of_ble_eq_true rfl) (Nat.le_of_ble_eq_true rfl) ?_
    rintro d2 ⟨hp1, hp2⟩
    refine x_istore_n dX12_readsWay_34 (Nat.le_of_ble_eq_true rfl) rfl x_set_2_1 ?_
    exact wy_g35 hl hM h8 hv hm hW hT hv1 hp1 (by rw [hp2.2 14 (by decide)]; exact h141) (gf_trn hgf1 hp2) (lf_tr (lf_gf hgf1) (lf_gf hp2)) hR
end M99997
