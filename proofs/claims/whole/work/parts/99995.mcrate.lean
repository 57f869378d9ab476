section M99995
/-! ===== the Model's lines: crates ===== -/
theorem w_12_246 : x_cv RX12 246 yX12_among cX12_among 3 (some .int) 12 1 := ⟨⟨_, rfl, rfl⟩, (x_in 1602 (by decide +kernel) rfl), (x_in 1604 (by decide +kernel) rfl), (x_in 27 (by decide +kernel) rfl), (x_in 90 (by decide +kernel) rfl), (x_in 1605 (by decide +kernel) rfl), by decide, ⟨by decide +kernel, by decide +kernel, by decide +kernel⟩⟩
theorem plc_v {b : Int → Int} {n q T : Nat} {w : Int × Nat} (h : r_plc b n T q = .inr w) : tV b n q = w.1 ∧ w.2 = tE b n q := by
  unfold r_plc at h
  by_cases h1 : tK b n q = 3
  · rw [if_pos h1] at h
    by_cases h2 : tL b n q
    · rw [if_pos h2] at h; cases h
    · rw [if_neg h2] at h
      by_cases h3 : tV b n q < T
      · rw [if_pos h3] at h; cases h; exact ⟨rfl, rfl⟩
      · rw [if_neg h3] at h; cases h
  · rw [if_neg h1] at h; cases h
theorem gf_78 {D d : xM} {r : Int → Int} (h : gf (x_up D 78 r) d) : d 78 = r := by rw [h.1 78 (by decide), x_up_s]
theorem gf_w {D d : xM} {r w : Int → Int} (h : gf (x_up D 78 r) d) : gf (x_up D 78 w) (x_up d 78 w) := by
  refine ⟨fun k hk => ?_, fun k hk => ?_⟩
  · by_cases e : k = 78
    · rw [e, x_up_s, x_up_s]
    · rw [x_up_n e, x_up_n e, h.1 k hk, x_up_n e]
  · rw [x_up_n (by decide), x_up_n (by decide), h.2 k hk, x_up_n (by decide)]
theorem gf_w0 {D d : xM} {w : Int → Int} (h : gf D d) : gf (x_up D 78 w) (x_up d 78 w) := by
  refine ⟨fun k hk => ?_, fun k hk => ?_⟩
  · by_cases e : k = 78
    · rw [e, x_up_s, x_up_s]
    · rw [x_up_n e, x_up_n e, h.1 k hk]
  · rw [x_up_n (by decide), x_up_n (by decide), h.2 k hk]
def crr (C : Nat) (v1 B v2 v3 : Int) (g r : Int → Int) : Prop := (∀ i : Int, i ≠ 25 + C → i ≠ 35 + C → i ≠ 45 + C → i ≠ 55 + C → i ≠ 65 + C → i ≠ 75 + C → r i = g i) ∧ r (25 + C) = v1 ∧ r (35 + C) = B ∧ r (45 + C) = v3 ∧ r (55 + C) = v2 ∧ r (65 + C) = 0 ∧ r (75 + C) = 0
theorem crr_mk {C : Nat} {v1 B v2 : Int} {g : Int → Int} (hC : C < 10) : crr C v1 B v2 0 g (x_u1 (x_u1 (x_u1 (x_u1 (x_u1 (x_u1 g (25 + C) v1) (35 + C) B) (55 + C) v2) (65 + C) 0) (75 + C) 0) (45 + C) 0) := by
  refine ⟨fun i a1 a2 a3 a4 a5 a6 => ?_, ?_, ?_, ?_, ?_, ?_, ?_⟩
  · rw [x_u1_n a3, x_u1_n a6, x_u1_n a5, x_u1_n a4, x_u1_n a2, x_u1_n a1]
  · rw [x_u1_n (by omega), x_u1_n (by omega), x_u1_n (by omega), x_u1_n (by omega), x_u1_n (by omega), x_u1_s]
  · rw [x_u1_n (by omega), x_u1_n (by omega), x_u1_n (by omega), x_u1_n (by omega), x_u1_s]
  · rw [x_u1_s]
  · rw [x_u1_n (by omega), x_u1_n (by omega), x_u1_n (by omega), x_u1_s]
  · rw [x_u1_n (by omega), x_u1_n (by omega), x_u1_s]
  · rw [x_u1_n (by omega), x_u1_s]
theorem crr_cat {C : Nat} {v1 B v2 v3 : Int} {g r : Int → Int} (hC : C < 10) (h : crr C v1 B v2 v3 g r) : crr C v1 B v2 1 g (x_u1 r (45 + C) 1) := by
  obtain ⟨h0, h1, h2, h3, h4, h5, h6⟩ := h
  refine ⟨fun i a1 a2 a3 a4 a5 a6 => ?_, ?_, ?_, ?_, ?_, ?_, ?_⟩
  · rw [x_u1_n a3]; exact h0 i a1 a2 a3 a4 a5 a6
  · rw [x_u1_n (by omega)]; exact h1
  · rw [x_u1_n (by omega)]; exact h2
  · rw [x_u1_s]
  · rw [x_u1_n (by omega)]; exact h4
  · rw [x_u1_n (by omega)]; exact h5
  · rw [x_u1_n (by omega)]; exact h6
theorem ml_cr {lb C : Nat} {S : Tx} {D d : xM} {ba : Prop} [Decidable ba] {v1 v2 v3 : Int} {r : Int → Int} (hv : sv lb S.1) (hm : ml lb S D) (hC : C = (S.1 lb 1).toNat) (h8 : C < 10) (hr : crr C v1 (x_B ba) v2 v3 (D 78) r) (hg : gf (x_up D 78 r) d) : ml lb (x_cr lb C ba (v1, v2, v3) S.1, S.2) (x_up d 62 (x_u1 (d 62) 27 (C + 1))) := by
  obtain ⟨⟨m1, m2, m3⟩, m4, m5, m6, m7⟩ := hm
  rw [← hC] at m3 m6
  have c0 : (x_cr lb C ba (v1, v2, v3) S.1) lb 1 = (C : Int) + 1 := by unfold x_cr; rw [x_up_s, x_u1_s]
  have c0n : ((x_cr lb C ba (v1, v2, v3) S.1) lb 1).toNat = C + 1 := by rw [c0]; omega
  have c1 : (x_cr lb C ba (v1, v2, v3) S.1) lb 0 = S.1 lb 0 := by
    unfold x_cr
    rw [x_up_s, x_u1_n (by decide)]
  have c3 : ∀ k : Nat, 1 ≤ k ∧ k ≤ 7 → (x_cr lb C ba (v1, v2, v3) S.1) (lb + k) = S.1 (lb + k) := by
    intro k hk
    unfold x_cr
    rw [x_up_n (by omega), x_up_n (by omega)]
  have ce14 : (x_cr lb C ba (v1, v2, v3) S.1) (lb + 14) = x_u1 (x_u1 (x_u1 (x_u1 (S.1 (lb + 14)) (25 + C) v1) (35 + C) (x_B ba)) (55 + C) v2) (45 + C) v3 := by
    unfold x_cr
    rw [x_up_n (by omega), x_up_s]
  have d78 : d 78 = r := gf_78 hg
  have dj : ∀ j : Nat, j ≠ 62 → j ≠ 78 → d j = D j := by
    intro j a c
    rw [hg.1 j a, x_up_n c]
  have di : ∀ i : Int, 24 < i → d 62 i = D 62 i := by
    intro i hi
    rw [hg.2 i (Or.inr hi), x_up_n (by decide)]
  have hz := hv.2.2.2.1
  obtain ⟨h0, h1, h2, h3, h4, h5, h6⟩ := hr
  refine ⟨⟨?_, ?_, ?_⟩, ?_, ?_, ?_, ?_⟩
  · show _ = (((x_cr lb C ba (v1, v2, v3) S.1) lb 0).toNat : Int)
    rw [c1, x_up_s, x_u1_n (by decide), di 25 (by decide)]; exact m1
  · show _ = (((x_cr lb C ba (v1, v2, v3) S.1) (lb + 3) 0).toNat : Int)
    rw [c3 3 (by decide), x_up_s, x_u1_n (by decide), di 26 (by decide)]; exact m2
  · show _ = (((x_cr lb C ba (v1, v2, v3) S.1) lb 1).toNat : Int)
    rw [c0n, x_up_s, x_u1_s]; push_cast; rfl
  · show ∀ t : Int, 0 ≤ t → t < (((x_cr lb C ba (v1, v2, v3) S.1) lb 0).toNat : Nat) → _ = (x_cr lb C ba (v1, v2, v3) S.1) (lb + 1) t ∧ _ = (x_cr lb C ba (v1, v2, v3) S.1) (lb + 2) t
    rw [c1, c3 1 (by decide), c3 2 (by decide), x_up_n (by decide), x_up_n (by decide), dj 72 (by decide) (by decide), dj 73 (by decide) (by decide)]
    exact m4
  · show ∀ w : Int, 0 ≤ w → w < (((x_cr lb C ba (v1, v2, v3) S.1) (lb + 3) 0).toNat : Nat) → _ = (x_cr lb C ba (v1, v2, v3) S.1) (lb + 4) w ∧ _ = (x_cr lb C ba (v1, v2, v3) S.1) (lb + 5) w ∧ _ = (x_cr lb C ba (v1, v2, v3) S.1) (lb + 6) w ∧ _ = (x_cr lb C ba (v1, v2, v3) S.1) (lb + 7) w
    rw [c3 3 (by decide), c3 4 (by decide), c3 5 (by decide), c3 6 (by decide), c3 7 (by decide), x_up_n (by decide), x_up_n (by decide), x_up_n (by decide), x_up_n (by decide), dj 74 (by decide) (by decide), dj 75 (by decide) (by decide), dj 76 (by decide) (by decide), dj 77 (by decide) (by decide)]
    exact m5
  · show mr (((x_cr lb C ba (v1, v2, v3) S.1) lb 0).toNat) (((x_cr lb C ba (v1, v2, v3) S.1) lb 1).toNat) ((x_cr lb C ba (v1, v2, v3) S.1) (lb + 14)) _ 0
    rw [c0n, c1, ce14, x_up_n (by decide), d78]
    intro i hi
    rw [Int.zero_add]
    by_cases e4 : i = 45 + C
    · rw [e4, x_u1_s, h3]
    rw [x_u1_n e4]
    by_cases e3 : i = 55 + C
    · rw [e3, x_u1_s, h4]
    rw [x_u1_n e3]
    by_cases e2 : i = 35 + C
    · rw [e2, x_u1_s, h2]
    rw [x_u1_n e2]
    by_cases e1 : i = 25 + C
    · rw [e1, x_u1_s, h1]
    rw [x_u1_n e1]
    by_cases e5 : i = 65 + C
    · rw [e5, h5, hz (65 + C) (by omega)]
    by_cases e6 : i = 75 + C
    · rw [e6, h6, hz (75 + C) (by omega)]
    rw [h0 i e1 e2 e4 e3 e5 e6]
    have := m6 i (by unfold lv at hi ⊢; push_cast at hi; omega)
    rw [Int.zero_add] at this
    exact this
  · exact od_of m7 (by rw [x_up_s, x_u1_n (by decide)]; exact di 28 (by decide)) (by rw [x_up_s, x_u1_n (by decide)]; exact di 29 (by decide)) (by rw [x_up_n (by decide)]; exact dj 79 (by decide) (by decide))
set_option maxHeartbeats 1500000 in
theorem cr_f104 {X : xC} {l : Launch} (hl : l.stackTraces = false) {N : Nat} {sh : xS} {D : xM} (hM : is_Md N sh) {b : Int → Int} {n lb C : Nat} {d : xM} {ba : Prop} [Decidable ba] (h8 : C < 10) {z : Int × Nat} (hf : fz b n z D d) : x_W (X, l, yX12_readsCrate, cX12_readsCrate, 3, none, x_room 3 0 0, 0, 0, (.inl none), N, sh, (mlp b n lb (.inl z) D), false, []) 104 [some (.ref (x_b X + 62)), some (.int (xI (x_B ba))), some (.int (xI (C : Int)))] [] 0 0 false N sh d := by
  have s62 := md_62 hM
  have n62 : 62 < N := md_n hM (by decide)
  have s78 := md_78 hM
  have n78 : 78 < N := md_n hM (by decide)
  refine x_aload_n dX12_readsCrate_104 x_get_3_0 ?_
  refine x_callV (As := []) dX12_readsCrate_105 w_12_176 (m_goodF hl hM hf.2.2.1 hf.2.1) (by assumption) (by assumption) rfl rfl (Nat.le_of_ble_eq_true rfl) (Nat.le_of_ble_eq_true rfl) (Nat.le_of_ble_eq_true rfl) (Nat.le_of_ble_eq_true rfl) (Nat.le_of_ble_eq_true rfl) ?_
  intro d hd
  obtain rfl := Eq.symm hd
  refine r_if_eq (t := 134) dX12_readsCrate_108 rfl ⟨by omega, by omega⟩ (fun hc108 => ?_) (fun hc108 => absurd hc108 (by omega))
  refine x_aload_n dX12_readsCrate_134 x_get_3_0 ?_
  refine x_callV (As := []) dX12_readsCrate_135 w_12_176 (m_goodF hl hM hf.2.2.1 hf.2.1) (by assumption) (by assumption) rfl rfl (Nat.le_of_ble_eq_true rfl) (Nat.le_of_ble_eq_true rfl) (Nat.le_of_ble_eq_true rfl) (Nat.le_of_ble_eq_true rfl) (Nat.le_of_ble_eq_true rfl) ?_
  intro d hd
  obtain rfl := Eq.symm hd
  refine r_if_eq (t := 151) dX12_readsCrate_138 rfl ⟨by omega, by omega⟩ (fun hc138 => ?_) (fun hc138 => absurd hc138 (by omega))
  exact x_vret dX12_readsCrate_151 rfl (Nat.le_of_ble_eq_true rfl) (Nat.le_of_ble_eq_true rfl) rfl rfl rfl hf rfl
set_option maxHeartbeats 1500000 in
theorem cr_f47 {X : xC} {l : Launch} (hl : l.stackTraces = false) {N : Nat} {sh : xS} {D : xM} (hM : is_Md N sh) {b : Int → Int} {n lb C : Nat} {d : xM} {ba : Prop} [Decidable ba] (h8 : C < 10) {z : Int × Nat} (hf : fz b n z D d) : x_W (X, l, yX12_readsCrate, cX12_readsCrate, 3, none, x_room 3 0 0, 0, 0, (.inl none), N, sh, (mlp b n lb (.inl z) D), false, []) 47 [some (.ref (x_b X + 62)), some (.int (xI (x_B ba))), some (.int (xI (C : Int)))] [] 0 0 false N sh d := by
  have s62 := md_62 hM
  have n62 : 62 < N := md_n hM (by decide)
  have s78 := md_78 hM
  have n78 : 78 < N := md_n hM (by decide)
  have hf2 : fz b n z D (x_up d 78 (x_u1 (d 78) (35 + C) (x_B ba))) := fz_up hf (by decide)
  refine x_aload_n dX12_readsCrate_47 x_get_3_0 ?_
  refine x_getR dX12_readsCrate_48 fX_12_62 n62 s62 (by rfl) ?_
  refine x_bipush dX12_readsCrate_51 rfl ?_
  refine x_iload_n dX12_readsCrate_53 x_get_3_2 ?_
  refine x_iadd dX12_readsCrate_54 ?_
  refine x_iload_n dX12_readsCrate_55 x_get_3_1 ?_
  refine x_iast dX12_readsCrate_56 n78 s78 (by omega) (by omega) (by decide) ?_
  try simp (disch := decide) only [x_up_s, x_up_n, x_up_up, x_u1_s, x_u1_n]
  refine x_aload_n dX12_readsCrate_57 x_get_3_0 ?_
  refine x_getR dX12_readsCrate_58 fX_12_62 n62 s62 (by rfl) ?_
  refine x_bipush dX12_readsCrate_61 rfl ?_
  refine x_iload_n dX12_readsCrate_63 x_get_3_2 ?_
  refine x_iadd dX12_readsCrate_64 ?_
  refine x_aload_n dX12_readsCrate_65 x_get_3_0 ?_
  refine x_aload_n dX12_readsCrate_66 x_get_3_0 ?_
  refine x_getI 25 dX12_readsCrate_67 fX_12_236 rfl n62 s62 (by rfl) ?_
  try simp (disch := decide) only [x_up_s, x_up_n, x_up_up, x_u1_s, x_u1_n]
  refine x_callV (As := [_]) dX12_readsCrate_70 w_12_246 (m_amongF hl hM hf2.2.2.1 hf2.2.1) (by assumption) (by assumption) rfl rfl (Nat.le_of_ble_eq_true rfl) (Nat.le_of_ble_eq_true rfl) (Nat.le_of_ble_eq_true rfl) (Nat.le_of_ble_eq_true rfl) (Nat.le_of_ble_eq_true rfl) ?_
  intro d hd
  obtain rfl := Eq.symm hd
  refine x_iast dX12_readsCrate_73 n78 s78 (by omega) (by omega) (by decide) ?_
  try simp (disch := decide) only [x_up_s, x_up_n, x_up_up, x_u1_s, x_u1_n]
  refine x_aload_n dX12_readsCrate_74 x_get_3_0 ?_
  refine x_getR dX12_readsCrate_75 fX_12_62 n62 s62 (by rfl) ?_
  refine x_bipush dX12_readsCrate_78 rfl ?_
  refine x_iload_n dX12_readsCrate_80 x_get_3_2 ?_
  refine x_iadd dX12_readsCrate_81 ?_
  refine x_iconst dX12_readsCrate_82 ?_
  refine x_iast dX12_readsCrate_83 n78 s78 (by omega) (by omega) (by decide) ?_
  try simp (disch := decide) only [x_up_s, x_up_n, x_up_up, x_u1_s, x_u1_n]
  refine x_aload_n dX12_readsCrate_84 x_get_3_0 ?_
  refine x_getR dX12_readsCrate_85 fX_12_62 n62 s62 (by rfl) ?_
  refine x_bipush dX12_readsCrate_88 rfl ?_
  refine x_iload_n dX12_readsCrate_90 x_get_3_2 ?_
  refine x_iadd dX12_readsCrate_91 ?_
  refine x_iconst dX12_readsCrate_92 ?_
  refine x_iast dX12_readsCrate_93 n78 s78 (by omega) (by omega) (by decide) ?_
  try simp (disch := decide) only [x_up_s, x_up_n, x_up_up, x_u1_s, x_u1_n]
  refine x_aload_n dX12_readsCrate_94 x_get_3_0 ?_
  refine x_getR dX12_readsCrate_95 fX_12_62 n62 s62 (by rfl) ?_
  refine x_bipush dX12_readsCrate_98 rfl ?_
  refine x_iload_n dX12_readsCrate_100 x_get_3_2 ?_
  refine x_iadd dX12_readsCrate_101 ?_
  refine x_iconst dX12_readsCrate_102 ?_
  refine x_iast dX12_readsCrate_103 n78 s78 (by omega) (by omega) (by decide) ?_
  try simp (disch := decide) only [x_up_s, x_up_n, x_up_up, x_u1_s, x_u1_n]
  exact cr_f104 hl hM h8 (fz_up hf (by decide))
set_option maxHeartbeats 1500000 in
theorem cr_g1 {X : xC} {l : Launch} (hl : l.stackTraces = false) {N : Nat} {sh : xS} {D : xM} (hM : is_Md N sh) {b : Int → Int} {n lb C : Nat} {d : xM} {ba : Prop} [Decidable ba] (h8 : C < 10) {S : Tx} {R : Rs Tx} (hv : sv lb S.1) (hm : ml lb S D) (hC : C = (S.1 lb 1).toNat) {v1 : Int} {v2 : Int} {q2 : Nat} (hg : gs b n q2 d) (h14 : d 62 14 = 0) (hlf : lf D d) {r : Int → Int} (hr : crr C v1 (x_B ba) v2 0 (D 78) r) (hu : gf (x_up D 78 r) d) (hW : tW b n q2 5) (hR : R = .inr ((x_cr lb C ba (v1, v2, 1) S.1, S.2), tE b n q2)) : x_W (X, l, yX12_readsCrate, cX12_readsCrate, 3, none, x_room 3 0 0, 0, 0, (.inl none), N, sh, (mlp b n lb R D), false, []) 104 [some (.ref (x_b X + 62)), some (.int (xI (x_B ba))), some (.int (xI (C : Int)))] [] 0 0 false N sh d := by
  have s62 := md_62 hM
  have n62 : 62 < N := md_n hM (by decide)
  have s78 := md_78 hM
  have n78 : 78 < N := md_n hM (by decide)
  obtain ⟨e0, e1, e2⟩ := tE_in (b := b) hg.2.1
  have hkn := m_known (X := X) (l := l) hl hM hg
  have hk10 := kw_eq (b := b) (n := n) (q := q2) (k := 10) (by decide)
  have hkin := kw_in (b := b) (n := n) (q := q2)
  have h27 : d 62 27 = (C : Int) := by rw [hu.2 27 (by decide), x_up_n (by decide), hm.1.2.2, hC]
  rw [hk10.mpr hW] at hkn
  rw [hR]
  have h78 := gf_78 hu
  have hg2 : gs b n q2 (x_up d 78 (x_u1 (d 78) (45 + C) 1)) := gs_up hg (by decide) (by decide)
  have h273 := h27
  refine x_aload_n dX12_readsCrate_104 x_get_3_0 ?_
  refine x_callV (As := []) dX12_readsCrate_105 w_12_176 (m_good hl hM h14) (by assumption) (by assumption) rfl rfl (Nat.le_of_ble_eq_true rfl) (Nat.le_of_ble_eq_true rfl) (Nat.le_of_ble_eq_true rfl) (Nat.le_of_ble_eq_true rfl) (Nat.le_of_ble_eq_true rfl) ?_
  intro d hd
  obtain rfl := Eq.symm hd
  refine r_if_eq (t := 134) dX12_readsCrate_108 rfl ⟨by omega, by omega⟩ (fun hc108 => absurd hc108 (by omega)) (fun hc108 => ?_)
  refine x_aload_n dX12_readsCrate_111 x_get_3_0 ?_
  refine x_callV (As := []) dX12_readsCrate_112 w_12_204 (hkn) (by assumption) (by assumption) rfl rfl (Nat.le_of_ble_eq_true rfl) (Nat.le_of_ble_eq_true rfl) (Nat.le_of_ble_eq_true rfl) (Nat.le_of_ble_eq_true rfl) (Nat.le_of_ble_eq_true rfl) ?_
  intro d hd
  obtain rfl := Eq.symm hd
  refine x_bipush dX12_readsCrate_115 rfl ?_
  refine r_icmp_ne (t := 134) dX12_readsCrate_117 rfl ⟨by omega, by omega⟩ ⟨by omega, by omega⟩ (fun hc117 => absurd hc117 (by omega)) (fun hc117 => ?_)
  refine x_aload_n dX12_readsCrate_120 x_get_3_0 ?_
  refine x_getR dX12_readsCrate_121 fX_12_62 n62 s62 (by rfl) ?_
  refine x_bipush dX12_readsCrate_124 rfl ?_
  refine x_iload_n dX12_readsCrate_126 x_get_3_2 ?_
  refine x_iadd dX12_readsCrate_127 ?_
  refine x_iconst dX12_readsCrate_128 ?_
  refine x_iast dX12_readsCrate_129 n78 s78 (by omega) (by omega) (by decide) ?_
  try simp (disch := decide) only [x_up_s, x_up_n, x_up_up, x_u1_s, x_u1_n, h273]
  refine x_aload_n dX12_readsCrate_130 x_get_3_0 ?_
  refine x_callV (As := []) dX12_readsCrate_131 w_12_180 (m_goes hl hM hg2.1 e2 hg2.2.2.1) (by assumption) (by assumption) rfl rfl (Nat.le_of_ble_eq_true rfl) (Nat.le_of_ble_eq_true rfl) (Nat.le_of_ble_eq_true rfl) (Nat.le_of_ble_eq_true rfl) (Nat.le_of_ble_eq_true rfl) ?_
  rintro d3 ⟨hg3, hgf3⟩
  have h143 : d3 62 14 = 0 := by rw [hgf3.2 14 (by decide), x_up_n (by decide)]; exact h14
  have h273 : d3 62 27 = (C : Int) := by rw [hgf3.2 27 (by decide), x_up_n (by decide)]; exact h27
  have hu3 : gf (x_up D 78 (x_u1 r (45 + C) 1)) d3 := by
    have hw := gf_w (w := x_u1 (d 78) (45 + C) 1) hu
    have hw2 := gf_trn hw hgf3
    rw [h78] at hw2
    exact hw2
  have hlf3 : lf D d3 := lf_tr hlf (lf_tr (lf_up (by decide)) (lf_gf hgf3))
  refine x_aload_n dX12_readsCrate_134 x_get_3_0 ?_
  refine x_callV (As := []) dX12_readsCrate_135 w_12_176 (m_good hl hM h143) (by assumption) (by assumption) rfl rfl (Nat.le_of_ble_eq_true rfl) (Nat.le_of_ble_eq_true rfl) (Nat.le_of_ble_eq_true rfl) (Nat.le_of_ble_eq_true rfl) (Nat.le_of_ble_eq_true rfl) ?_
  intro d hd
  obtain rfl := Eq.symm hd
  refine r_if_eq (t := 151) dX12_readsCrate_138 rfl ⟨by omega, by omega⟩ (fun hc138 => absurd hc138 (by omega)) (fun hc138 => ?_)
  refine x_aload_n dX12_readsCrate_141 x_get_3_0 ?_
  refine x_dup dX12_readsCrate_142 rfl ?_
  refine x_getI 27 dX12_readsCrate_143 fX_12_253 rfl n62 s62 (by rfl) ?_
  try simp (disch := decide) only [x_up_s, x_up_n, x_up_up, x_u1_s, x_u1_n, h273]
  refine x_iconst dX12_readsCrate_146 ?_
  refine x_iadd dX12_readsCrate_147 ?_
  refine x_putI 27 dX12_readsCrate_148 fX_12_253 rfl tX_12_27 n62 s62 (by rfl) ?_
  try simp (disch := decide) only [x_up_s, x_up_n, x_up_up, x_u1_s, x_u1_n, h273]
  exact x_vret dX12_readsCrate_151 rfl (Nat.le_of_ble_eq_true rfl) (Nat.le_of_ble_eq_true rfl) rfl rfl rfl ⟨lf_tr hlf3 (lf_62 (by decide)), gs_25 hg3, by rw [x_up_s, x_u1_n (by decide)]; exact h143, ml_cr hv hm hC h8 (crr_cat h8 hr) hu3⟩ rfl
set_option maxHeartbeats 1500000 in
theorem cr_g0 {X : xC} {l : Launch} (hl : l.stackTraces = false) {N : Nat} {sh : xS} {D : xM} (hM : is_Md N sh) {b : Int → Int} {n lb C : Nat} {d : xM} {ba : Prop} [Decidable ba] (h8 : C < 10) {S : Tx} {R : Rs Tx} (hv : sv lb S.1) (hm : ml lb S D) (hC : C = (S.1 lb 1).toNat) {v1 : Int} {v2 : Int} {q2 : Nat} (hg : gs b n q2 d) (h14 : d 62 14 = 0) (hlf : lf D d) {r : Int → Int} (hr : crr C v1 (x_B ba) v2 0 (D 78) r) (hu : gf (x_up D 78 r) d) (hW : ¬ tW b n q2 5) (hR : R = .inr ((x_cr lb C ba (v1, v2, 0) S.1, S.2), q2)) : x_W (X, l, yX12_readsCrate, cX12_readsCrate, 3, none, x_room 3 0 0, 0, 0, (.inl none), N, sh, (mlp b n lb R D), false, []) 104 [some (.ref (x_b X + 62)), some (.int (xI (x_B ba))), some (.int (xI (C : Int)))] [] 0 0 false N sh d := by
  have s62 := md_62 hM
  have n62 : 62 < N := md_n hM (by decide)
  have s78 := md_78 hM
  have n78 : 78 < N := md_n hM (by decide)
  obtain ⟨e0, e1, e2⟩ := tE_in (b := b) hg.2.1
  have hkn := m_known (X := X) (l := l) hl hM hg
  have hk10 := kw_eq (b := b) (n := n) (q := q2) (k := 10) (by decide)
  have hkin := kw_in (b := b) (n := n) (q := q2)
  have h27 : d 62 27 = (C : Int) := by rw [hu.2 27 (by decide), x_up_n (by decide), hm.1.2.2, hC]
  have hne : ¬ kw b n q2 = 10 := fun h => hW (hk10.mp h)
  rw [hR]
  refine x_aload_n dX12_readsCrate_104 x_get_3_0 ?_
  refine x_callV (As := []) dX12_readsCrate_105 w_12_176 (m_good hl hM h14) (by assumption) (by assumption) rfl rfl (Nat.le_of_ble_eq_true rfl) (Nat.le_of_ble_eq_true rfl) (Nat.le_of_ble_eq_true rfl) (Nat.le_of_ble_eq_true rfl) (Nat.le_of_ble_eq_true rfl) ?_
  intro d hd
  obtain rfl := Eq.symm hd
  refine r_if_eq (t := 134) dX12_readsCrate_108 rfl ⟨by omega, by omega⟩ (fun hc108 => absurd hc108 (by omega)) (fun hc108 => ?_)
  refine x_aload_n dX12_readsCrate_111 x_get_3_0 ?_
  refine x_callV (As := []) dX12_readsCrate_112 w_12_204 (hkn) (by assumption) (by assumption) rfl rfl (Nat.le_of_ble_eq_true rfl) (Nat.le_of_ble_eq_true rfl) (Nat.le_of_ble_eq_true rfl) (Nat.le_of_ble_eq_true rfl) (Nat.le_of_ble_eq_true rfl) ?_
  intro d hd
  obtain rfl := Eq.symm hd
  refine x_bipush dX12_readsCrate_115 rfl ?_
  refine r_icmp_ne (t := 134) dX12_readsCrate_117 rfl ⟨by omega, by omega⟩ ⟨by omega, by omega⟩ (fun hc117 => ?_) (fun hc117 => absurd hc117 (by omega))
  refine x_aload_n dX12_readsCrate_134 x_get_3_0 ?_
  refine x_callV (As := []) dX12_readsCrate_135 w_12_176 (m_good hl hM h14) (by assumption) (by assumption) rfl rfl (Nat.le_of_ble_eq_true rfl) (Nat.le_of_ble_eq_true rfl) (Nat.le_of_ble_eq_true rfl) (Nat.le_of_ble_eq_true rfl) (Nat.le_of_ble_eq_true rfl) ?_
  intro d hd
  obtain rfl := Eq.symm hd
  refine r_if_eq (t := 151) dX12_readsCrate_138 rfl ⟨by omega, by omega⟩ (fun hc138 => absurd hc138 (by omega)) (fun hc138 => ?_)
  refine x_aload_n dX12_readsCrate_141 x_get_3_0 ?_
  refine x_dup dX12_readsCrate_142 rfl ?_
  refine x_getI 27 dX12_readsCrate_143 fX_12_253 rfl n62 s62 (by rfl) ?_
  try simp (disch := decide) only [x_up_s, x_up_n, x_up_up, x_u1_s, x_u1_n, h27]
  refine x_iconst dX12_readsCrate_146 ?_
  refine x_iadd dX12_readsCrate_147 ?_
  refine x_putI 27 dX12_readsCrate_148 fX_12_253 rfl tX_12_27 n62 s62 (by rfl) ?_
  try simp (disch := decide) only [x_up_s, x_up_n, x_up_up, x_u1_s, x_u1_n, h27]
  exact x_vret dX12_readsCrate_151 rfl (Nat.le_of_ble_eq_true rfl) (Nat.le_of_ble_eq_true rfl) rfl rfl rfl ⟨lf_tr hlf (lf_62 (by decide)), gs_25 hg, by rw [x_up_s, x_u1_n (by decide)]; exact h14, ml_cr hv hm hC h8 hr hu⟩ rfl
set_option maxHeartbeats 1500000 in
theorem cr_g47 {X : xC} {l : Launch} (hl : l.stackTraces = false) {N : Nat} {sh : xS} {D : xM} (hM : is_Md N sh) {b : Int → Int} {n lb C : Nat} {d : xM} {ba : Prop} [Decidable ba] (h8 : C < 10) {S : Tx} {R : Rs Tx} (hv : sv lb S.1) (hm : ml lb S D) (hC : C = (S.1 lb 1).toNat) {v1 : Int} {q1 : Nat} (hg : gs b n q1 d) (h14 : d 62 14 = 0) (hlf : lf D d) {T : Nat} (hT : T = (S.1 lb 0).toNat) (hu : gf (x_up D 78 (x_u1 (D 78) (25 + C) v1)) d) (hR : R = r_bd (r_bd (r_plc b n T q1) (fun v2 q2 => .inr ((v1, v2, x_B (tW b n q2 5)), if tW b n q2 5 then tE b n q2 else q2))) (fun v q1 => .inr ((x_cr lb C ba v S.1, S.2), q1))) : x_W (X, l, yX12_readsCrate, cX12_readsCrate, 3, none, x_room 3 0 0, 0, 0, (.inl none), N, sh, (mlp b n lb R D), false, []) 47 [some (.ref (x_b X + 62)), some (.int (xI (x_B ba))), some (.int (xI (C : Int)))] [] 0 0 false N sh d := by
  have s62 := md_62 hM
  have n62 : 62 < N := md_n hM (by decide)
  have s78 := md_78 hM
  have n78 : 78 < N := md_n hM (by decide)
  have h25 : d 62 25 = (T : Int) := by rw [hu.2 25 (by decide), x_up_n (by decide), hm.1.1, hT]
  have hT8 : T ≤ 8 := by rw [hT]; exact hv.1.1.2
  have hg2 : gs b n q1 (x_up d 78 (x_u1 (d 78) (35 + C) (x_B ba))) := gs_up hg (by decide) (by decide)
  have h142 : (x_up d 78 (x_u1 (d 78) (35 + C) (x_B ba))) 62 14 = 0 := by rw [x_up_n (by decide)]; exact h14
  have h78 := gf_78 hu
  have hu2 := gf_w (w := x_u1 (d 78) (35 + C) (x_B ba)) hu
  have hlf2 : lf D (x_up d 78 (x_u1 (d 78) (35 + C) (x_B ba))) := lf_tr hlf (lf_up (by decide))
  obtain ⟨r, hr⟩ : ∃ r, r_plc b n T q1 = r := ⟨_, rfl⟩
  have hnum := m_among (X := X) (l := l) hl hM hg2 h142 hT8
  rw [hr] at hnum hR
  have hkd := kd_plc (b := b) (n := n) (q := q1) (T := T)
  cases r with
  | inl z =>
    rw [show R = .inl z from hR]
    refine x_aload_n dX12_readsCrate_47 x_get_3_0 ?_
    refine x_getR dX12_readsCrate_48 fX_12_62 n62 s62 (by rfl) ?_
    refine x_bipush dX12_readsCrate_51 rfl ?_
    refine x_iload_n dX12_readsCrate_53 x_get_3_2 ?_
    refine x_iadd dX12_readsCrate_54 ?_
    refine x_iload_n dX12_readsCrate_55 x_get_3_1 ?_
    refine x_iast dX12_readsCrate_56 n78 s78 (by omega) (by omega) (by decide) ?_
    try simp (disch := decide) only [x_up_s, x_up_n, x_up_up, x_u1_s, x_u1_n, h25]
    refine x_aload_n dX12_readsCrate_57 x_get_3_0 ?_
    refine x_getR dX12_readsCrate_58 fX_12_62 n62 s62 (by rfl) ?_
    refine x_bipush dX12_readsCrate_61 rfl ?_
    refine x_iload_n dX12_readsCrate_63 x_get_3_2 ?_
    refine x_iadd dX12_readsCrate_64 ?_
    refine x_aload_n dX12_readsCrate_65 x_get_3_0 ?_
    refine x_aload_n dX12_readsCrate_66 x_get_3_0 ?_
    refine x_getI 25 dX12_readsCrate_67 fX_12_236 rfl n62 s62 (by rfl) ?_
    try simp (disch := decide) only [x_up_s, x_up_n, x_up_up, x_u1_s, x_u1_n, h25]
    refine x_callV (As := [_]) dX12_readsCrate_70 w_12_246 (hnum) (by assumption) (by assumption) rfl rfl (Nat.le_of_ble_eq_true rfl) (Nat.le_of_ble_eq_true rfl) (Nat.le_of_ble_eq_true rfl) (Nat.le_of_ble_eq_true rfl) (Nat.le_of_ble_eq_true rfl) ?_
    intro d2 hp
    refine x_iast dX12_readsCrate_73 n78 s78 (by omega) (by omega) (by decide) ?_
    try simp (disch := decide) only [x_up_s, x_up_n, x_up_up, x_u1_s, x_u1_n, h25]
    refine x_aload_n dX12_readsCrate_74 x_get_3_0 ?_
    refine x_getR dX12_readsCrate_75 fX_12_62 n62 s62 (by rfl) ?_
    refine x_bipush dX12_readsCrate_78 rfl ?_
    refine x_iload_n dX12_readsCrate_80 x_get_3_2 ?_
    refine x_iadd dX12_readsCrate_81 ?_
    refine x_iconst dX12_readsCrate_82 ?_
    refine x_iast dX12_readsCrate_83 n78 s78 (by omega) (by omega) (by decide) ?_
    try simp (disch := decide) only [x_up_s, x_up_n, x_up_up, x_u1_s, x_u1_n, h25]
    refine x_aload_n dX12_readsCrate_84 x_get_3_0 ?_
    refine x_getR dX12_readsCrate_85 fX_12_62 n62 s62 (by rfl) ?_
    refine x_bipush dX12_readsCrate_88 rfl ?_
    refine x_iload_n dX12_readsCrate_90 x_get_3_2 ?_
    refine x_iadd dX12_readsCrate_91 ?_
    refine x_iconst dX12_readsCrate_92 ?_
    refine x_iast dX12_readsCrate_93 n78 s78 (by omega) (by omega) (by decide) ?_
    try simp (disch := decide) only [x_up_s, x_up_n, x_up_up, x_u1_s, x_u1_n, h25]
    refine x_aload_n dX12_readsCrate_94 x_get_3_0 ?_
    refine x_getR dX12_readsCrate_95 fX_12_62 n62 s62 (by rfl) ?_
    refine x_bipush dX12_readsCrate_98 rfl ?_
    refine x_iload_n dX12_readsCrate_100 x_get_3_2 ?_
    refine x_iadd dX12_readsCrate_101 ?_
    refine x_iconst dX12_readsCrate_102 ?_
    refine x_iast dX12_readsCrate_103 n78 s78 (by omega) (by omega) (by decide) ?_
    try simp (disch := decide) only [x_up_s, x_up_n, x_up_up, x_u1_s, x_u1_n, h25]
    exact cr_f104 hl hM h8 (fz_up (fz_of hlf2 hp (hkd z hr)) (by decide))
  | inr w =>
    obtain ⟨v2, q2⟩ := w
    rw [show m_vl (Sum.inr (v2, q2) : Rs Int) (tV b n q1) = v2 from (plc_v hr).1] at hnum
    refine x_aload_n dX12_readsCrate_47 x_get_3_0 ?_
    refine x_getR dX12_readsCrate_48 fX_12_62 n62 s62 (by rfl) ?_
    refine x_bipush dX12_readsCrate_51 rfl ?_
    refine x_iload_n dX12_readsCrate_53 x_get_3_2 ?_
    refine x_iadd dX12_readsCrate_54 ?_
    refine x_iload_n dX12_readsCrate_55 x_get_3_1 ?_
    refine x_iast dX12_readsCrate_56 n78 s78 (by omega) (by omega) (by decide) ?_
    try simp (disch := decide) only [x_up_s, x_up_n, x_up_up, x_u1_s, x_u1_n, h25]
    refine x_aload_n dX12_readsCrate_57 x_get_3_0 ?_
    refine x_getR dX12_readsCrate_58 fX_12_62 n62 s62 (by rfl) ?_
    refine x_bipush dX12_readsCrate_61 rfl ?_
    refine x_iload_n dX12_readsCrate_63 x_get_3_2 ?_
    refine x_iadd dX12_readsCrate_64 ?_
    refine x_aload_n dX12_readsCrate_65 x_get_3_0 ?_
    refine x_aload_n dX12_readsCrate_66 x_get_3_0 ?_
    refine x_getI 25 dX12_readsCrate_67 fX_12_236 rfl n62 s62 (by rfl) ?_
    try simp (disch := decide) only [x_up_s, x_up_n, x_up_up, x_u1_s, x_u1_n, h25]
    refine x_callV (As := [_]) dX12_readsCrate_70 w_12_246 (hnum) (by assumption) (by assumption) rfl rfl (Nat.le_of_ble_eq_true rfl) (Nat.le_of_ble_eq_true rfl) (Nat.le_of_ble_eq_true rfl) (Nat.le_of_ble_eq_true rfl) (Nat.le_of_ble_eq_true rfl) ?_
    rintro d2 ⟨hp1, hp2⟩
    have hu3 := gf_trn hu2 hp2
    have h783 := gf_78 hu3
    rw [h78] at h783
    refine x_iast dX12_readsCrate_73 n78 s78 (by omega) (by omega) (by decide) ?_
    try simp (disch := decide) only [x_up_s, x_up_n, x_up_up, x_u1_s, x_u1_n, h25]
    refine x_aload_n dX12_readsCrate_74 x_get_3_0 ?_
    refine x_getR dX12_readsCrate_75 fX_12_62 n62 s62 (by rfl) ?_
    refine x_bipush dX12_readsCrate_78 rfl ?_
    refine x_iload_n dX12_readsCrate_80 x_get_3_2 ?_
    refine x_iadd dX12_readsCrate_81 ?_
    refine x_iconst dX12_readsCrate_82 ?_
    refine x_iast dX12_readsCrate_83 n78 s78 (by omega) (by omega) (by decide) ?_
    try simp (disch := decide) only [x_up_s, x_up_n, x_up_up, x_u1_s, x_u1_n, h25]
    refine x_aload_n dX12_readsCrate_84 x_get_3_0 ?_
    refine x_getR dX12_readsCrate_85 fX_12_62 n62 s62 (by rfl) ?_
    refine x_bipush dX12_readsCrate_88 rfl ?_
    refine x_iload_n dX12_readsCrate_90 x_get_3_2 ?_
    refine x_iadd dX12_readsCrate_91 ?_
    refine x_iconst dX12_readsCrate_92 ?_
    refine x_iast dX12_readsCrate_93 n78 s78 (by omega) (by omega) (by decide) ?_
    try simp (disch := decide) only [x_up_s, x_up_n, x_up_up, x_u1_s, x_u1_n, h25]
    refine x_aload_n dX12_readsCrate_94 x_get_3_0 ?_
    refine x_getR dX12_readsCrate_95 fX_12_62 n62 s62 (by rfl) ?_
    refine x_bipush dX12_readsCrate_98 rfl ?_
    refine x_iload_n dX12_readsCrate_100 x_get_3_2 ?_
    refine x_iadd dX12_readsCrate_101 ?_
    refine x_iconst dX12_readsCrate_102 ?_
    refine x_iast dX12_readsCrate_103 n78 s78 (by omega) (by omega) (by decide) ?_
    try simp (disch := decide) only [x_up_s, x_up_n, x_up_up, x_u1_s, x_u1_n, h25]
    rw [h783]
    have hp14 : d2 62 14 = 0 := by rw [hp2.2 14 (by decide)]; exact h142
    by_cases hW : tW b n q2 5
    · have hR1 : R = .inr ((x_cr lb C ba (v1, v2, 1) S.1, S.2), tE b n q2) := by
        rw [hR]
        show Sum.inr ((x_cr lb C ba (v1, v2, x_B (tW b n q2 5)) S.1, S.2), if tW b n q2 5 then tE b n q2 else q2) = _
        rw [if_pos hW, show x_B (tW b n q2 5) = 1 from if_pos hW]
      exact cr_g1 hl hM h8 hv hm hC (gs_up hp1 (by decide) (by decide)) (by rw [x_up_n (by decide)]; exact hp14) (lf_tr hlf2 (lf_tr (lf_gf hp2) (lf_up (by decide)))) (crr_mk h8) (gf_w hu3) hW hR1
    · have hR1 : R = .inr ((x_cr lb C ba (v1, v2, 0) S.1, S.2), q2) := by
        rw [hR]
        show Sum.inr ((x_cr lb C ba (v1, v2, x_B (tW b n q2 5)) S.1, S.2), if tW b n q2 5 then tE b n q2 else q2) = _
        rw [if_neg hW, show x_B (tW b n q2 5) = 0 from if_neg hW]
      exact cr_g0 hl hM h8 hv hm hC (gs_up hp1 (by decide) (by decide)) (by rw [x_up_n (by decide)]; exact hp14) (lf_tr hlf2 (lf_tr (lf_gf hp2) (lf_up (by decide)))) (crr_mk h8) (gf_w hu3) hW hR1
set_option maxHeartbeats 1500000 in
theorem ml_crate {X : xC} {l : Launch} (hl : l.stackTraces = false) {N : Nat} {sh : xS} {D : xM} (hM : is_Md N sh) {b : Int → Int} {n q lb : Nat} {S : Tx} {ba : Prop} [Decidable ba] (hv : sv lb S.1) (hm : ml lb S D) (hg : gs b n q D) (h14 : D 62 14 = 0) : x_M X l yX12_readsCrate cX12_readsCrate 3 (none) 3 0 0 [.ref (x_b X + 62), .int (xI (x_B ba))] false N sh D (.inl none) false N sh (mlp b n lb (r_bd (r_crt b n (S.1 lb 0).toNat (S.1 lb 1).toNat q) (fun v q1 => .inr ((x_cr lb (S.1 lb 1).toNat ba v S.1, S.2), q1))) D) := by
  have s62 := md_62 hM
  have n62 : 62 < N := md_n hM (by decide)
  have s78 := md_78 hM
  have n78 : 78 < N := md_n hM (by decide)
  obtain ⟨T, hT⟩ : ∃ T, T = (S.1 lb 0).toNat := ⟨_, rfl⟩
  obtain ⟨C, hC⟩ : ∃ C, C = (S.1 lb 1).toNat := ⟨_, rfl⟩
  obtain ⟨R, hR⟩ : ∃ R, R = (r_bd (r_crt b n (S.1 lb 0).toNat (S.1 lb 1).toNat q) (fun v q1 => .inr ((x_cr lb (S.1 lb 1).toNat ba v S.1, S.2), q1))) := ⟨_, rfl⟩
  rw [← hR]
  rw [← hT, ← hC] at hR
  have h27 : D 62 27 = (C : Int) := by rw [hm.1.2.2, hC]
  have hC8 : C ≤ 10 := by rw [hC]; exact hv.1.2.1.2
  obtain ⟨e0, e1, e2⟩ := tE_in (b := b) hg.2.1
  refine x_ofW (by decide +kernel) hl (by simp [Value.category]) (by simp) ?_
  by_cases h8 : 10 ≤ C
  · have hR : R = .inl (2, q) := by rw [hR]; unfold r_crt; rw [if_pos h8]; rfl
    rw [hR]
    refine x_aload_n dX12_readsCrate_0 x_get_3_0 ?_
    refine x_getI 27 dX12_readsCrate_1 fX_12_253 rfl n62 s62 (by rfl) ?_
    try simp (disch := decide) only [x_up_s, x_up_n, x_up_up, x_u1_s, x_u1_n, h27]
    refine x_bipush dX12_readsCrate_4 rfl ?_
    refine r_icmp_ne (t := 14) dX12_readsCrate_6 rfl ⟨by omega, by omega⟩ ⟨by omega, by omega⟩ (fun hc6 => absurd hc6 (by omega)) (fun hc6 => ?_)
    refine x_aload_n dX12_readsCrate_9 x_get_3_0 ?_
    refine x_iconst dX12_readsCrate_10 ?_
    refine x_callV (As := [_]) dX12_readsCrate_11 w_12_183 (m_wrong hl hM hg h14) (by assumption) (by assumption) rfl rfl (Nat.le_of_ble_eq_true rfl) (Nat.le_of_ble_eq_true rfl) (Nat.le_of_ble_eq_true rfl) (Nat.le_of_ble_eq_true rfl) (Nat.le_of_ble_eq_true rfl) ?_
    intro d hd
    obtain rfl := Eq.symm hd
    refine x_aload_n dX12_readsCrate_14 x_get_3_0 ?_
    refine x_callV (As := []) dX12_readsCrate_15 w_12_176 (m_goodF hl hM mwf_14 (by decide)) (by assumption) (by assumption) rfl rfl (Nat.le_of_ble_eq_true rfl) (Nat.le_of_ble_eq_true rfl) (Nat.le_of_ble_eq_true rfl) (Nat.le_of_ble_eq_true rfl) (Nat.le_of_ble_eq_true rfl) ?_
    intro d hd
    obtain rfl := Eq.symm hd
    refine r_if_ne (t := 22) dX12_readsCrate_18 rfl ⟨by omega, by omega⟩ (fun hc18 => absurd hc18 (by omega)) (fun hc18 => ?_)
    exact x_vret dX12_readsCrate_21 rfl (Nat.le_of_ble_eq_true rfl) (Nat.le_of_ble_eq_true rfl) rfl rfl rfl (fz_wr lf_rf (by decide)) rfl
  have h8 : C < 10 := by omega
  have hR : R = r_bd (r_bd (r_num b n 0 99 (tE b n q)) (fun v1 q1 => r_bd (r_plc b n T q1) (fun v2 q2 => .inr ((v1, v2, x_B (tW b n q2 5)), if tW b n q2 5 then tE b n q2 else q2)))) (fun v q1 => .inr ((x_cr lb C ba v S.1, S.2), q1)) := by
    rw [hR]; unfold r_crt; rw [if_neg (by omega)]
  have hgo := m_goes (X := X) (l := l) hl hM hg.1 e2 hg.2.2.1
  refine x_aload_n dX12_readsCrate_0 x_get_3_0 ?_
  refine x_getI 27 dX12_readsCrate_1 fX_12_253 rfl n62 s62 (by rfl) ?_
  try simp (disch := decide) only [x_up_s, x_up_n, x_up_up, x_u1_s, x_u1_n, h27]
  refine x_bipush dX12_readsCrate_4 rfl ?_
  refine r_icmp_ne (t := 14) dX12_readsCrate_6 rfl ⟨by omega, by omega⟩ ⟨by omega, by omega⟩ (fun hc6 => ?_) (fun hc6 => absurd hc6 (by omega))
  refine x_aload_n dX12_readsCrate_14 x_get_3_0 ?_
  refine x_callV (As := []) dX12_readsCrate_15 w_12_176 (m_good hl hM h14) (by assumption) (by assumption) rfl rfl (Nat.le_of_ble_eq_true rfl) (Nat.le_of_ble_eq_true rfl) (Nat.le_of_ble_eq_true rfl) (Nat.le_of_ble_eq_true rfl) (Nat.le_of_ble_eq_true rfl) ?_
  intro d hd
  obtain rfl := Eq.symm hd
  refine r_if_ne (t := 22) dX12_readsCrate_18 rfl ⟨by omega, by omega⟩ (fun hc18 => ?_) (fun hc18 => absurd hc18 (by omega))
  refine x_aload_n dX12_readsCrate_22 x_get_3_0 ?_
  refine x_callV (As := []) dX12_readsCrate_23 w_12_180 (hgo) (by assumption) (by assumption) rfl rfl (Nat.le_of_ble_eq_true rfl) (Nat.le_of_ble_eq_true rfl) (Nat.le_of_ble_eq_true rfl) (Nat.le_of_ble_eq_true rfl) (Nat.le_of_ble_eq_true rfl) ?_
  rintro d1 ⟨hg1, hgf1⟩
  have h141 : d1 62 14 = 0 := by rw [hgf1.2 14 (by decide)]; exact h14
  have h271 : d1 62 27 = (C : Int) := by rw [hgf1.2 27 (by decide)]; exact h27
  obtain ⟨r, hr⟩ : ∃ r, r_num b n 0 99 (tE b n q) = r := ⟨_, rfl⟩
  have hnum := m_number (X := X) (l := l) hl hM hg1 h141 (lo := 0) (hi := 99) ⟨by decide, by decide⟩ ⟨by decide, by decide⟩
  rw [hr] at hnum hR
  have hkd := kd_num (b := b) (n := n) (q := tE b n q) (lo := 0) (hi := 99)
  skip
  cases r with
  | inl z =>
    rw [show R = .inl z from hR]
    refine x_aload_n dX12_readsCrate_26 x_get_3_0 ?_
    refine x_getI 27 dX12_readsCrate_27 fX_12_253 rfl n62 s62 (by rfl) ?_
    try simp (disch := decide) only [x_up_s, x_up_n, x_up_up, x_u1_s, x_u1_n, h271]
    refine x_istore_n dX12_readsCrate_30 (Nat.le_of_ble_eq_true rfl) rfl x_set_3_2 ?_
    refine x_aload_n dX12_readsCrate_31 x_get_3_0 ?_
    refine x_getR dX12_readsCrate_32 fX_12_62 n62 s62 (by rfl) ?_
    refine x_bipush dX12_readsCrate_35 rfl ?_
    refine x_iload_n dX12_readsCrate_37 x_get_3_2 ?_
    refine x_iadd dX12_readsCrate_38 ?_
    refine x_aload_n dX12_readsCrate_39 x_get_3_0 ?_
    refine x_iconst dX12_readsCrate_40 ?_
    refine x_bipush dX12_readsCrate_41 rfl ?_
    refine x_callV (As := [_, _]) dX12_readsCrate_43 w_12_239 (hnum) (by assumption) (by assumption) rfl rfl (Nat.le_of_ble_eq_true rfl) (Nat.le_of_ble_eq_true rfl) (Nat.le_of_ble_eq_true rfl) (Nat.le_of_ble_eq_true rfl) (Nat.le_of_ble_eq_true rfl) ?_
    intro d2 hp
    refine x_iast dX12_readsCrate_46 n78 s78 (by omega) (by omega) (by decide) ?_
    try simp (disch := decide) only [x_up_s, x_up_n, x_up_up, x_u1_s, x_u1_n, h271]
    exact cr_f47 hl hM h8 (fz_up (fz_of (lf_gf hgf1) hp (hkd z hr)) (by decide))
  | inr w =>
    obtain ⟨v1, q1⟩ := w
    have hvv := num_v hr hg1
    rw [hvv] at hnum
    refine x_aload_n dX12_readsCrate_26 x_get_3_0 ?_
    refine x_getI 27 dX12_readsCrate_27 fX_12_253 rfl n62 s62 (by rfl) ?_
    try simp (disch := decide) only [x_up_s, x_up_n, x_up_up, x_u1_s, x_u1_n, h271]
    refine x_istore_n dX12_readsCrate_30 (Nat.le_of_ble_eq_true rfl) rfl x_set_3_2 ?_
    refine x_aload_n dX12_readsCrate_31 x_get_3_0 ?_
    refine x_getR dX12_readsCrate_32 fX_12_62 n62 s62 (by rfl) ?_
    refine x_bipush dX12_readsCrate_35 rfl ?_
    refine x_iload_n dX12_readsCrate_37 x_get_3_2 ?_
    refine x_iadd dX12_readsCrate_38 ?_
    refine x_aload_n dX12_readsCrate_39 x_get_3_0 ?_
    refine x_iconst dX12_readsCrate_40 ?_
    refine x_bipush dX12_readsCrate_41 rfl ?_
    refine x_callV (As := [_, _]) dX12_readsCrate_43 w_12_239 (hnum) (by assumption) (by assumption) rfl rfl (Nat.le_of_ble_eq_true rfl) (Nat.le_of_ble_eq_true rfl) (Nat.le_of_ble_eq_true rfl) (Nat.le_of_ble_eq_true rfl) (Nat.le_of_ble_eq_true rfl) ?_
    rintro d2 ⟨hp1, hp2⟩
    have hgg := gf_trn hgf1 hp2
    have h78 : d2 78 = D 78 := hgg.1 78 (by decide)
    refine x_iast dX12_readsCrate_46 n78 s78 (by omega) (by omega) (by decide) ?_
    try simp (disch := decide) only [x_up_s, x_up_n, x_up_up, x_u1_s, x_u1_n, h271]
    rw [h78]
    exact cr_g47 hl hM h8 hv hm hC (gs_up hp1 (by decide) (by decide)) (by rw [x_up_n (by decide), hp2.2 14 (by decide)]; exact h141) (lf_tr (lf_gf hgf1) (lf_tr (lf_gf hp2) (lf_up (by decide)))) hT (gf_w0 hgg) hR
end M99995
