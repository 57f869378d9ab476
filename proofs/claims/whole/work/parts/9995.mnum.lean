section M9995
/-! ===== the Model reads numbers, places, words ===== -/
theorem x_tx_inj : ∀ i : Nat, i ≤ 15 → ∀ j : Nat, j ≤ 15 → 1 ≤ i → 1 ≤ j → x_tx i = x_tx j → i = j := by decide
theorem tW_inj {b : Int → Int} {n q i j : Nat} (hi : 1 ≤ i ∧ i ≤ 15) (hj : 1 ≤ j ∧ j ≤ 15) (h1 : tW b n q i) (h2 : tW b n q j) : i = j := by
  obtain ⟨-, a1, a2⟩ := h1
  obtain ⟨-, b1, b2⟩ := h2
  refine x_tx_inj i hi.2 j hj.2 hi.1 hj.1 ?_
  have hl : (x_tx i).length = (x_tx j).length := by omega
  refine List.ext_getElem hl (fun k k1 k2 => ?_)
  have e1 := a2 k k1
  have e2 := b2 k k2
  rw [e1] at e2
  rw [List.getD_eq_getElem?_getD, List.getD_eq_getElem?_getD, List.getElem?_eq_getElem k1, List.getElem?_eq_getElem k2] at e2
  exact e2
abbrev kw (b : Int → Int) (n q : Nat) : Int := x_first (fun k => tW b n q (wn k)) 15
theorem wn_inj : ∀ i : Nat, i < 15 → ∀ j : Nat, j < 15 → wn i = wn j → i = j := by decide
theorem kw_eq {b : Int → Int} {n q k : Nat} (hk : k < 15) : kw b n q = (k : Int) ↔ tW b n q (wn k) := by
  unfold kw
  rcases x_first_cases (fun k => tW b n q (wn k)) 15 with ⟨h, h2⟩ | ⟨i, h1, h2, h3⟩
  · rw [h]
    constructor
    · intro e; exact absurd e (by omega)
    · intro e; exact absurd e (h2 k hk)
  · rw [h2]
    have h4 : tW b n q (wn i) := by first | exact h3.1 | exact h3
    constructor
    · intro e
      have : i = k := by omega
      subst this
      exact h4
    · intro e
      have := wn_inj i h1 k hk (tW_inj (wn_in i h1) (wn_in k hk) h4 e)
      omega
theorem kw_in {b : Int → Int} {n q : Nat} : -1 ≤ kw b n q ∧ kw b n q ≤ 14 := by
  have := x_first_in (fun k => tW b n q (wn k)) 15
  unfold kw; omega
def mfa (b : Int → Int) (n : Nat) (D : xM) (z : Int × Nat) (d : xM) : Prop := (∀ j, j ≠ 62 → d j = D j) ∧ (∀ i, i ≠ 14 → i ≠ 15 → (i < 18 ∨ 24 < i) → d 62 i = D 62 i) ∧ d 62 14 = z.1 ∧ d 62 15 = (tS b n z.2 : Nat)
abbrev mwf (w s : Int) (D : xM) : xM := x_up D 62 (x_u1 (x_u1 (D 62) 14 w) 15 s)
theorem mfa_w {b : Int → Int} {n q : Nat} {w : Int} {D : xM} : mfa b n D (w, q) (mwf w (tS b n q : Nat) D) := ⟨fun j hj => x_up_n hj, fun i a1 a2 a3 => by unfold mwf; rw [x_up_s, x_u1_n a2, x_u1_n a1], by unfold mwf; rw [x_up_s, x_u1_n (by decide), x_u1_s], by unfold mwf; rw [x_up_s, x_u1_s]⟩
theorem mwf_14 {w s : Int} {D : xM} : mwf w s D 62 14 = w := by unfold mwf; rw [x_up_s, x_u1_n (by decide), x_u1_s]
def mps {α : Type} (b : Int → Int) (n : Nat) (r : Rs α) (D d : xM) : Prop := match r with
  | .inl z => mfa b n D z d
  | .inr z => gs b n z.2 d ∧ gf D d
theorem mfa_tr {b : Int → Int} {n : Nat} {z : Int × Nat} {D d e : xM} (h : gf D d) (h2 : mfa b n d z e) : mfa b n D z e := ⟨fun j a => by rw [h2.1 j a]; exact h.1 j a, fun i a1 a2 a3 => by rw [h2.2.1 i a1 a2 a3]; exact h.2 i a3, h2.2.2.1, h2.2.2.2⟩
theorem m_so_w {b : Int → Int} {n q : Nat} : (m_so (tK b n q) = 0 ↔ tK b n q = 0) ∧ (m_so (tK b n q) = 1 ↔ tK b n q = 2) ∧ (m_so (tK b n q) = 2 ↔ tK b n q = 3) ∧ (m_so (tK b n q) = 3 ↔ tK b n q = 4) ∧ 0 ≤ m_so (tK b n q) ∧ m_so (tK b n q) ≤ 4 := by
  have h := tK_in (b := b) (n := n) (q := q)
  unfold m_so
  by_cases h0 : tK b n q = 0
  · rw [if_pos h0]; omega
  rw [if_neg h0]
  by_cases h2 : tK b n q = 2
  · rw [if_pos h2]; omega
  rw [if_neg h2]
  by_cases h3 : tK b n q = 3
  · rw [if_pos h3]; omega
  rw [if_neg h3]
  by_cases h4 : tK b n q = 4
  · rw [if_pos h4]; omega
  rw [if_neg h4]; omega
theorem r_plc_i {b : Int → Int} {n T q : Nat} {z : Int × Nat} (h : r_plc b n T q = .inl z) : z.2 = q ∧ 1 ≤ z.1 ∧ z.1 ≤ 5 := by
  have hk := kd_plc z h
  unfold r_plc at h
  by_cases h3 : tK b n q = 3
  · rw [if_pos h3] at h
    by_cases h4 : tL b n q
    · rw [if_pos h4] at h; cases h; exact ⟨rfl, hk⟩
    · rw [if_neg h4] at h
      by_cases h5 : tV b n q < T
      · rw [if_pos h5] at h; cases h
      · rw [if_neg h5] at h; cases h; exact ⟨rfl, hk⟩
  · rw [if_neg h3] at h; cases h; exact ⟨rfl, hk⟩
def m_vl {α : Type} (r : Rs α) (v : Int) : Int := match r with
  | .inl _ => 0
  | .inr _ => v
theorem w_12_169 : x_cs RX12 169 yX12_letters cX12_letters 1 (some .long) 1 := ⟨(x_in 1579 (by decide +kernel) rfl), (x_in 1580 (by decide +kernel) rfl), (x_in 90 (by decide +kernel) rfl), (x_in 1581 (by decide +kernel) rfl), by decide, ⟨by decide +kernel, by decide +kernel, by decide +kernel⟩⟩
theorem w_12_176 : x_cv RX12 176 yX12_isGood cX12_isGood 1 (some .boolean) 12 0 := ⟨⟨_, rfl, rfl⟩, (x_in 1567 (by decide +kernel) rfl), (x_in 1569 (by decide +kernel) rfl), (x_in 20 (by decide +kernel) rfl), (x_in 90 (by decide +kernel) rfl), (x_in 1570 (by decide +kernel) rfl), by decide, ⟨by decide +kernel, by decide +kernel, by decide +kernel⟩⟩
theorem w_12_180 : x_cv RX12 180 yX12_goes cX12_goes 2 (none) 12 0 := ⟨⟨_, rfl, rfl⟩, (x_in 1553 (by decide +kernel) rfl), (x_in 1555 (by decide +kernel) rfl), (x_in 18 (by decide +kernel) rfl), (x_in 90 (by decide +kernel) rfl), (x_in 1556 (by decide +kernel) rfl), by decide, ⟨by decide +kernel, by decide +kernel, by decide +kernel⟩⟩
theorem w_12_183 : x_cv RX12 183 yX12_wrong cX12_wrong 2 (none) 12 1 := ⟨⟨_, rfl, rfl⟩, (x_in 1590 (by decide +kernel) rfl), (x_in 1592 (by decide +kernel) rfl), (x_in 24 (by decide +kernel) rfl), (x_in 90 (by decide +kernel) rfl), (x_in 1593 (by decide +kernel) rfl), by decide, ⟨by decide +kernel, by decide +kernel, by decide +kernel⟩⟩
theorem w_12_186 : x_cv RX12 186 yX12_amongHere cX12_amongHere 2 (some .boolean) 12 1 := ⟨⟨_, rfl, rfl⟩, (x_in 1606 (by decide +kernel) rfl), (x_in 1608 (by decide +kernel) rfl), (x_in 28 (by decide +kernel) rfl), (x_in 90 (by decide +kernel) rfl), (x_in 1609 (by decide +kernel) rfl), by decide, ⟨by decide +kernel, by decide +kernel, by decide +kernel⟩⟩
theorem m_wrong {X : xC} {l : Launch} (hl : l.stackTraces = false) {N : Nat} {sh : xS} {D : xM} (hM : is_Md N sh) {b : Int → Int} {n q : Nat} (hg : gs b n q D) (h14 : D 62 14 = 0) {w : Int} : x_M X l yX12_wrong cX12_wrong 2 (none) 0 0 0 [.ref (x_b X + 62), .int (xI w)] false N sh D (.inl none) false N sh (x_is (mwf w (tS b n q : Nat) D)) := by
  have s62 := md_62 hM
  have n62 : 62 < N := md_n hM (by decide)
  obtain ⟨ht, hqn, g18, g20, g19, g21, g22, g23, g24⟩ := id hg
  obtain ⟨t1, t2, t3⟩ := id ht
  obtain ⟨e0, e1, e2⟩ := tE_in (b := b) hqn
  have hki := tK_in (b := b) (n := n) (q := q)
  obtain ⟨s0, s1, s2, s3, s4, s5⟩ := m_so_w (b := b) (n := n) (q := q)
  refine x_ofW (by decide +kernel) hl (by simp [Value.category]) (by simp) ?_
  refine x_aload_n dX12_wrong_0 x_get_2_0 ?_
  refine x_getI 14 dX12_wrong_1 fX_12_173 rfl n62 s62 (by rfl) ?_
  try simp (disch := decide) only [x_up_s, x_up_n, x_up_up, x_u1_s, x_u1_n, h14, g20]
  refine r_if_eq (t := 8) dX12_wrong_4 rfl ⟨by omega, by omega⟩ (fun hc4 => ?_) (fun hc4 => absurd hc4 (by omega))
  refine x_aload_n dX12_wrong_8 x_get_2_0 ?_
  refine x_iload_n dX12_wrong_9 x_get_2_1 ?_
  refine x_putI 14 dX12_wrong_10 fX_12_173 rfl tX_12_14 n62 s62 (by rfl) ?_
  try simp (disch := decide) only [x_up_s, x_up_n, x_up_up, x_u1_s, x_u1_n, h14, g20]
  refine x_aload_n dX12_wrong_13 x_get_2_0 ?_
  refine x_aload_n dX12_wrong_14 x_get_2_0 ?_
  refine x_getI 20 dX12_wrong_15 fX_12_137 rfl n62 s62 (by rfl) ?_
  try simp (disch := decide) only [x_up_s, x_up_n, x_up_up, x_u1_s, x_u1_n, h14, g20]
  refine x_putI 15 dX12_wrong_18 fX_12_38 rfl tX_12_15 n62 s62 (by rfl) ?_
  try simp (disch := decide) only [x_up_s, x_up_n, x_up_up, x_u1_s, x_u1_n, h14, g20]
  exact x_vret dX12_wrong_21 rfl (Nat.le_of_ble_eq_true rfl) (Nat.le_of_ble_eq_true rfl) rfl rfl rfl rfl rfl
theorem m_wrongF {X : xC} {l : Launch} (hl : l.stackTraces = false) {N : Nat} {sh : xS} {D : xM} (hM : is_Md N sh) {k : Int} (h14 : D 62 14 = k) (hk : 1 ≤ k ∧ k ≤ 5) {w : Int} : x_M X l yX12_wrong cX12_wrong 2 (none) 0 0 0 [.ref (x_b X + 62), .int (xI w)] false N sh D (.inl none) false N sh (x_is (D)) := by
  have s62 := md_62 hM
  have n62 : 62 < N := md_n hM (by decide)
  refine x_ofW (by decide +kernel) hl (by simp [Value.category]) (by simp) ?_
  refine x_aload_n dX12_wrong_0 x_get_2_0 ?_
  refine x_getI 14 dX12_wrong_1 fX_12_173 rfl n62 s62 (by rfl) ?_
  try simp (disch := decide) only [x_up_s, x_up_n, x_up_up, x_u1_s, x_u1_n, h14]
  refine r_if_eq (t := 8) dX12_wrong_4 rfl ⟨by omega, by omega⟩ (fun hc4 => absurd hc4 (by omega)) (fun hc4 => ?_)
  exact x_vret dX12_wrong_7 rfl (Nat.le_of_ble_eq_true rfl) (Nat.le_of_ble_eq_true rfl) rfl rfl rfl rfl rfl
theorem m_good {X : xC} {l : Launch} (hl : l.stackTraces = false) {N : Nat} {sh : xS} {D : xM} (hM : is_Md N sh) (h14 : D 62 14 = 0) : x_M X l yX12_isGood cX12_isGood 1 (some .boolean) 0 0 0 [.ref (x_b X + 62)] false N sh D (.inl (some (.int (xI (1))))) false N sh (x_is (D)) := by
  have s62 := md_62 hM
  have n62 : 62 < N := md_n hM (by decide)
  refine x_ofW (by decide +kernel) hl (by simp [Value.category]) (by simp) ?_
  refine x_aload_n dX12_isGood_0 x_get_1_0 ?_
  refine x_getI 14 dX12_isGood_1 fX_12_173 rfl n62 s62 (by rfl) ?_
  try simp (disch := decide) only [x_up_s, x_up_n, x_up_up, x_u1_s, x_u1_n, h14]
  refine r_if_ne (t := 11) dX12_isGood_4 rfl ⟨by omega, by omega⟩ (fun hc4 => absurd hc4 (by omega)) (fun hc4 => ?_)
  refine x_iconst dX12_isGood_7 ?_
  refine x_goto (t := 12) dX12_isGood_8 rfl ?_
  exact x_zret dX12_isGood_12 rfl (by omega) (Nat.le_of_ble_eq_true rfl) (Nat.le_of_ble_eq_true rfl) rfl rfl rfl rfl rfl
theorem m_goodF {X : xC} {l : Launch} (hl : l.stackTraces = false) {N : Nat} {sh : xS} {D : xM} (hM : is_Md N sh) {k : Int} (h14 : D 62 14 = k) (hk : 1 ≤ k ∧ k ≤ 5) : x_M X l yX12_isGood cX12_isGood 1 (some .boolean) 0 0 0 [.ref (x_b X + 62)] false N sh D (.inl (some (.int (xI (0))))) false N sh (x_is (D)) := by
  have s62 := md_62 hM
  have n62 : 62 < N := md_n hM (by decide)
  refine x_ofW (by decide +kernel) hl (by simp [Value.category]) (by simp) ?_
  refine x_aload_n dX12_isGood_0 x_get_1_0 ?_
  refine x_getI 14 dX12_isGood_1 fX_12_173 rfl n62 s62 (by rfl) ?_
  try simp (disch := decide) only [x_up_s, x_up_n, x_up_up, x_u1_s, x_u1_n, h14]
  refine r_if_ne (t := 11) dX12_isGood_4 rfl ⟨by omega, by omega⟩ (fun hc4 => ?_) (fun hc4 => absurd hc4 (by omega))
  refine x_iconst dX12_isGood_11 ?_
  exact x_zret dX12_isGood_12 rfl (by omega) (Nat.le_of_ble_eq_true rfl) (Nat.le_of_ble_eq_true rfl) rfl rfl rfl rfl rfl
theorem m_sign {X : xC} {l : Launch} (hl : l.stackTraces = false) {N : Nat} {sh : xS} {D : xM} (hM : is_Md N sh) {b : Int → Int} {n q : Nat} (hg : gs b n q D) {c : Int} (hc : 0 ≤ c ∧ c ≤ 127) : x_M X l yX12_isSign cX12_isSign 2 (some .boolean) 0 0 0 [.ref (x_b X + 62), .int (xI c)] false N sh D (.inl (some (.int (xI (x_B (tM b n q c)))))) false N sh (x_is (D)) := by
  have s62 := md_62 hM
  have n62 : 62 < N := md_n hM (by decide)
  obtain ⟨ht, hqn, g18, g20, g19, g21, g22, g23, g24⟩ := id hg
  obtain ⟨t1, t2, t3⟩ := id ht
  obtain ⟨e0, e1, e2⟩ := tE_in (b := b) hqn
  have hki := tK_in (b := b) (n := n) (q := q)
  obtain ⟨s0, s1, s2, s3, s4, s5⟩ := m_so_w (b := b) (n := n) (q := q)
  by_cases h4 : tK b n q = 4
  · have f23 := g23 h4
    have hp := t3 (tS b n q) (by have := tK_pos (b := b) (n := n) (q := q) (by omega); omega)
    have f19 : D 62 19 = 3 := by rw [g19]; exact s3.mpr h4
    refine x_ofW (by decide +kernel) hl (by simp [Value.category]) (by simp) ?_
    refine x_aload_n dX12_isSign_0 x_get_2_0 ?_
    refine x_getI 19 dX12_isSign_1 fX_12_150 rfl n62 s62 (by rfl) ?_
    try simp (disch := decide) only [x_up_s, x_up_n, x_up_up, x_u1_s, x_u1_n, f19, f23]
    refine x_iconst dX12_isSign_4 ?_
    refine r_icmp_ne (t := 20) dX12_isSign_5 rfl ⟨by omega, by omega⟩ ⟨by omega, by omega⟩ (fun hc5 => absurd hc5 (by omega)) (fun hc5 => ?_)
    refine x_aload_n dX12_isSign_8 x_get_2_0 ?_
    refine x_getI 23 dX12_isSign_9 fX_12_147 rfl n62 s62 (by rfl) ?_
    try simp (disch := decide) only [x_up_s, x_up_n, x_up_up, x_u1_s, x_u1_n, f19, f23]
    refine x_iload_n dX12_isSign_12 x_get_2_1 ?_
    refine r_icmp_ne (t := 20) dX12_isSign_13 rfl ⟨by omega, by omega⟩ ⟨by omega, by omega⟩ (fun hc13 => ?_) (fun hc13 => ?_)
    · refine x_iconst dX12_isSign_20 ?_
      exact x_zret dX12_isSign_21 rfl (by omega) (Nat.le_of_ble_eq_true rfl) (Nat.le_of_ble_eq_true rfl) (by first | (rw [x_B, if_pos ⟨h4, by omega⟩]; done) | (rw [x_B, if_neg (fun h => by have := h.2; omega)]; done)) rfl rfl rfl rfl
    · refine x_iconst dX12_isSign_16 ?_
      refine x_goto (t := 21) dX12_isSign_17 rfl ?_
      exact x_zret dX12_isSign_21 rfl (by omega) (Nat.le_of_ble_eq_true rfl) (Nat.le_of_ble_eq_true rfl) (by first | (rw [x_B, if_pos ⟨h4, by omega⟩]; done) | (rw [x_B, if_neg (fun h => by have := h.2; omega)]; done)) rfl rfl rfl rfl
  · refine x_ofW (by decide +kernel) hl (by simp [Value.category]) (by simp) ?_
    refine x_aload_n dX12_isSign_0 x_get_2_0 ?_
    refine x_getI 19 dX12_isSign_1 fX_12_150 rfl n62 s62 (by rfl) ?_
    try simp (disch := decide) only [x_up_s, x_up_n, x_up_up, x_u1_s, x_u1_n, g19]
    refine x_iconst dX12_isSign_4 ?_
    refine r_icmp_ne (t := 20) dX12_isSign_5 rfl ⟨by omega, by omega⟩ ⟨by omega, by omega⟩ (fun hc5 => ?_) (fun hc5 => absurd hc5 (fun h => h4 (s3.mp (by omega))))
    refine x_iconst dX12_isSign_20 ?_
    exact x_zret dX12_isSign_21 rfl (by omega) (Nat.le_of_ble_eq_true rfl) (Nat.le_of_ble_eq_true rfl) (by rw [x_B, if_neg (fun h => h4 h.1)]) rfl rfl rfl rfl
set_option maxHeartbeats 4000000 in
theorem m_known {X : xC} {l : Launch} (hl : l.stackTraces = false) {N : Nat} {sh : xS} {D : xM} (hM : is_Md N sh) {b : Int → Int} {n q : Nat} (hg : gs b n q D) : x_M X l yX12_knownWord cX12_knownWord 2 (some .int) 2 0 0 [.ref (x_b X + 62)] false N sh D (.inl (some (.int (xI (kw b n q))))) false N sh (x_is (D)) := by
  have s62 := md_62 hM
  have n62 : 62 < N := md_n hM (by decide)
  obtain ⟨ht, hqn, g18, g20, g19, g21, g22, g23, g24⟩ := id hg
  obtain ⟨t1, t2, t3⟩ := id ht
  obtain ⟨e0, e1, e2⟩ := tE_in (b := b) hqn
  have hki := tK_in (b := b) (n := n) (q := q)
  obtain ⟨s0, s1, s2, s3, s4, s5⟩ := m_so_w (b := b) (n := n) (q := q)
  by_cases h2 : tK b n q = 2
  · have f19 : D 62 19 = 1 := by rw [g19]; exact s1.mpr h2
    by_cases h7 : tE b n q - tS b n q ≤ 7
    · have f24 := g24 h2
      have hsl : tS b n q < n := tK_pos (by omega)
      have hlt : ∀ i : Nat, i < tE b n q - tS b n q → b_lt (b ((tS b n q : Int) + i)) := by
        intro i hi
        have hK := h2
        unfold tK t_kd at hK
        rw [if_neg (by unfold tS at hsl; omega)] at hK
        have hbl : b_lt (b (t_st b n q : Nat)) := by
          by_cases hb : b_lt (b (t_st b n q : Nat))
          · exact hb
          · rw [if_neg hb] at hK
            split at hK
            · exact absurd hK (by decide)
            · split at hK
              · exact absurd hK (by decide)
              · exact absurd hK (by decide)
        have hE : tE b n q = t_run b_lt b (n - tS b n q) (tS b n q) := by
          unfold tE t_en
          rw [if_neg (by unfold tS at hsl; omega), if_pos hbl]
        have h9 := t_run_all (P := b_lt) (b := b) (n - tS b n q) (tS b n q) (tS b n q + i) (by omega) (by rw [← hE]; omega)
        rw [show ((tS b n q + i : Nat) : Int) = ((tS b n q : Nat) : Int) + i by push_cast; rfl] at h9
        exact h9
      have hwi : ∀ k : Nat, k < 15 → (pkr (x_tx (wn k)).reverse = t_wd b (tS b n q) (tE b n q - tS b n q) ↔ tW b n q (wn k)) := fun k hk => ⟨fun h => ⟨h2, (wd_iff (wn_in k hk).2 e1 h7 hlt).mp h⟩, fun h => (wd_iff (wn_in k hk).2 e1 h7 hlt).mpr h.2⟩
      have hw0 : 0 ≤ t_wd b (tS b n q) (tE b n q - tS b n q) := pkr_0 (ltr_lt _ (fun i hi => hlt i (by omega)))
      have hw1 : t_wd b (tS b n q) (tE b n q - tS b n q) < 9223372036854775808 := by
        have h1 := pkr_ub (b := b) (s := tS b n q) (min (tE b n q - tS b n q) 7) (fun i hi => hlt i (by omega))
        have h3 : (32 : Int) ^ (min (tE b n q - tS b n q) 7) ≤ 32 ^ 7 := by
          have h4 : 32 ^ (min (tE b n q - tS b n q) 7) ≤ 32 ^ 7 := Nat.pow_le_pow_right (by decide) (by omega)
          exact_mod_cast h4
        have h5 : (32 : Int) ^ 7 = 34359738368 := by decide
        unfold t_wd
        omega
      have hk0 : ∀ j : Nat, j ≤ 15 → 0 ≤ pkr (x_tx j).reverse ∧ pkr (x_tx j).reverse < 9223372036854775808 := by decide
      have gL : ∀ i : Nat, i ≤ 15 → (∀ j : Nat, j < i → ¬ tW b n q (wn j)) → x_W (X, l, yX12_knownWord, cX12_knownWord, 2, (some .int), x_room 2 0 0, 0, 0, (.inl (some (.int (xI (kw b n q))))), N, sh, (x_is (D)), false, []) 21 [some (.ref (x_b X + 62)), some (.int (xI (i : Int)))] [] 0 0 false N sh D := by
        refine x_down 15 ?_ ?_
        · intro hp
          refine x_iload_n dX12_knownWord_21 x_get_2_1 ?_
          refine x_bipush dX12_knownWord_22 rfl ?_
          refine r_icmp_ge (t := 47) dX12_knownWord_24 rfl ⟨by omega, by omega⟩ ⟨by omega, by omega⟩ (fun hc24 => ?_) (fun hc24 => absurd hc24 (by omega))
          refine x_iconst dX12_knownWord_47 ?_
          exact x_iret dX12_knownWord_48 rfl (Nat.le_of_ble_eq_true rfl) (Nat.le_of_ble_eq_true rfl) (by rw [show kw b n q = -1 from x_first_none hp]) rfl rfl rfl rfl
        · intro i hi ih hp
          have hr := hk0 (wn i) (wn_in i hi).2
          have hlc := x_lc_0 hr.1 hr.2 hw0 hw1
          by_cases hc : tW b n q (wn i)
          · have hz := hlc.1.mpr ((hwi i hi).mpr hc)
            refine x_iload_n dX12_knownWord_21 x_get_2_1 ?_
            refine x_bipush dX12_knownWord_22 rfl ?_
            refine r_icmp_ge (t := 47) dX12_knownWord_24 rfl ⟨by omega, by omega⟩ ⟨by omega, by omega⟩ (fun hc24 => absurd hc24 (by omega)) (fun hc24 => ?_)
            refine x_iload_n dX12_knownWord_27 x_get_2_1 ?_
            refine x_callS (As := [_]) dX12_knownWord_28 w_12_169 (m_letters hl hi) rfl rfl (Nat.le_of_ble_eq_true rfl) (Nat.le_of_ble_eq_true rfl) (Nat.le_of_ble_eq_true rfl) (Nat.le_of_ble_eq_true rfl) (Nat.le_of_ble_eq_true rfl) ?_
            intro d hd
            obtain rfl := Eq.symm hd
            refine x_aload_n dX12_knownWord_31 x_get_2_0 ?_
            refine x_getL 24 dX12_knownWord_32 fX_12_140 rfl n62 s62 (by rfl) ?_
            try simp (disch := decide) only [x_up_s, x_up_n, x_up_up, x_u1_s, x_u1_n, f24]
            refine x_lcmp dX12_knownWord_35 ?_
            try rw [f24]
            refine r_if_ne (t := 41) dX12_knownWord_36 rfl hlc.2 (fun hc36 => absurd hc36 (fun hh => hh hz)) (fun hc36 => ?_)
            refine x_iload_n dX12_knownWord_39 x_get_2_1 ?_
            exact x_iret dX12_knownWord_40 rfl (Nat.le_of_ble_eq_true rfl) (Nat.le_of_ble_eq_true rfl) (by rw [show kw b n q = (i : Int) from (kw_eq hi).mpr hc]) rfl rfl rfl rfl
          · have hz : ¬ x_lc (pkr (x_tx (wn i)).reverse) (t_wd b (tS b n q) (tE b n q - tS b n q)) = 0 := fun h => hc ((hwi i hi).mp (hlc.1.mp h))
            have hp2 : ∀ j : Nat, j < i + 1 → ¬ tW b n q (wn j) := by
              intro j hj
              by_cases hji : j = i
              · subst hji; exact hc
              · exact hp j (by omega)
            refine x_iload_n dX12_knownWord_21 x_get_2_1 ?_
            refine x_bipush dX12_knownWord_22 rfl ?_
            refine r_icmp_ge (t := 47) dX12_knownWord_24 rfl ⟨by omega, by omega⟩ ⟨by omega, by omega⟩ (fun hc24 => absurd hc24 (by omega)) (fun hc24 => ?_)
            refine x_iload_n dX12_knownWord_27 x_get_2_1 ?_
            refine x_callS (As := [_]) dX12_knownWord_28 w_12_169 (m_letters hl hi) rfl rfl (Nat.le_of_ble_eq_true rfl) (Nat.le_of_ble_eq_true rfl) (Nat.le_of_ble_eq_true rfl) (Nat.le_of_ble_eq_true rfl) (Nat.le_of_ble_eq_true rfl) ?_
            intro d hd
            obtain rfl := Eq.symm hd
            refine x_aload_n dX12_knownWord_31 x_get_2_0 ?_
            refine x_getL 24 dX12_knownWord_32 fX_12_140 rfl n62 s62 (by rfl) ?_
            try simp (disch := decide) only [x_up_s, x_up_n, x_up_up, x_u1_s, x_u1_n, f24]
            refine x_lcmp dX12_knownWord_35 ?_
            try rw [f24]
            refine r_if_ne (t := 41) dX12_knownWord_36 rfl hlc.2 (fun hc36 => ?_) (fun hc36 => absurd hc36 (hz))
            refine x_iinc dX12_knownWord_41 x_get_2_1 (Nat.le_of_ble_eq_true rfl) rfl x_set_2_1 ?_
            refine x_goto (t := 21) dX12_knownWord_44 rfl ?_
            exact ih hp2
      refine x_ofW (by decide +kernel) hl (by simp [Value.category]) (by simp) ?_
      refine x_aload_n dX12_knownWord_0 x_get_2_0 ?_
      refine x_getI 19 dX12_knownWord_1 fX_12_150 rfl n62 s62 (by rfl) ?_
      try simp (disch := decide) only [x_up_s, x_up_n, x_up_up, x_u1_s, x_u1_n, f19, g21]
      refine x_iconst dX12_knownWord_4 ?_
      refine r_icmp_ne (t := 17) dX12_knownWord_5 rfl ⟨by omega, by omega⟩ ⟨by omega, by omega⟩ (fun hc5 => absurd hc5 (by omega)) (fun hc5 => ?_)
      refine x_aload_n dX12_knownWord_8 x_get_2_0 ?_
      refine x_getI 21 dX12_knownWord_9 fX_12_160 rfl n62 s62 (by rfl) ?_
      try simp (disch := decide) only [x_up_s, x_up_n, x_up_up, x_u1_s, x_u1_n, f19, g21]
      refine x_bipush dX12_knownWord_12 rfl ?_
      refine r_icmp_le (t := 19) dX12_knownWord_14 rfl ⟨by omega, by omega⟩ ⟨by omega, by omega⟩ (fun hc14 => ?_) (fun hc14 => absurd hc14 (by omega))
      refine x_iconst dX12_knownWord_19 ?_
      refine x_istore_n dX12_knownWord_20 (Nat.le_of_ble_eq_true rfl) rfl x_set_2_1 ?_
      exact gL 0 (Nat.zero_le _) (fun j hj => absurd hj (Nat.not_lt_zero j))
    · have hno : kw b n q = -1 := x_first_none (fun k hk h => by
        have h9 := h.2.1
        have h8 := x_tx_7 (wn k) (wn_in k hk).2
        omega)
      rw [hno]
      refine x_ofW (by decide +kernel) hl (by simp [Value.category]) (by simp) ?_
      refine x_aload_n dX12_knownWord_0 x_get_2_0 ?_
      refine x_getI 19 dX12_knownWord_1 fX_12_150 rfl n62 s62 (by rfl) ?_
      try simp (disch := decide) only [x_up_s, x_up_n, x_up_up, x_u1_s, x_u1_n, f19, g21]
      refine x_iconst dX12_knownWord_4 ?_
      refine r_icmp_ne (t := 17) dX12_knownWord_5 rfl ⟨by omega, by omega⟩ ⟨by omega, by omega⟩ (fun hc5 => absurd hc5 (by omega)) (fun hc5 => ?_)
      refine x_aload_n dX12_knownWord_8 x_get_2_0 ?_
      refine x_getI 21 dX12_knownWord_9 fX_12_160 rfl n62 s62 (by rfl) ?_
      try simp (disch := decide) only [x_up_s, x_up_n, x_up_up, x_u1_s, x_u1_n, f19, g21]
      refine x_bipush dX12_knownWord_12 rfl ?_
      refine r_icmp_le (t := 19) dX12_knownWord_14 rfl ⟨by omega, by omega⟩ ⟨by omega, by omega⟩ (fun hc14 => absurd hc14 (by omega)) (fun hc14 => ?_)
      refine x_iconst dX12_knownWord_17 ?_
      exact x_iret dX12_knownWord_18 rfl (Nat.le_of_ble_eq_true rfl) (Nat.le_of_ble_eq_true rfl) rfl rfl rfl rfl rfl
  · have hno : kw b n q = -1 := x_first_none (fun k hk h => h2 h.1)
    rw [hno]
    refine x_ofW (by decide +kernel) hl (by simp [Value.category]) (by simp) ?_
    refine x_aload_n dX12_knownWord_0 x_get_2_0 ?_
    refine x_getI 19 dX12_knownWord_1 fX_12_150 rfl n62 s62 (by rfl) ?_
    try simp (disch := decide) only [x_up_s, x_up_n, x_up_up, x_u1_s, x_u1_n, g19]
    refine x_iconst dX12_knownWord_4 ?_
    refine r_icmp_ne (t := 17) dX12_knownWord_5 rfl ⟨by omega, by omega⟩ ⟨by omega, by omega⟩ (fun hc5 => ?_) (fun hc5 => absurd hc5 (fun h => h2 (s1.mp (by omega))))
    refine x_iconst dX12_knownWord_17 ?_
    exact x_iret dX12_knownWord_18 rfl (Nat.le_of_ble_eq_true rfl) (Nat.le_of_ble_eq_true rfl) rfl rfl rfl rfl rfl
theorem m_number {X : xC} {l : Launch} (hl : l.stackTraces = false) {N : Nat} {sh : xS} {D : xM} (hM : is_Md N sh) {b : Int → Int} {n q : Nat} (hg : gs b n q D) (h14 : D 62 14 = 0) {lo hi : Int} (hlo : x_r lo) (hhi : x_r hi) : x_M X l yX12_number cX12_number 4 (some .int) 2 0 0 [.ref (x_b X + 62), .int (xI lo), .int (xI hi)] false N sh D (.inl (some (.int (xI (D 62 22))))) false N sh (mps b n (r_num b n lo hi q) D) := by
  have s62 := md_62 hM
  have n62 : 62 < N := md_n hM (by decide)
  obtain ⟨ht, hqn, g18, g20, g19, g21, g22, g23, g24⟩ := id hg
  obtain ⟨t1, t2, t3⟩ := id ht
  obtain ⟨e0, e1, e2⟩ := tE_in (b := b) hqn
  have hki := tK_in (b := b) (n := n) (q := q)
  obtain ⟨s0, s1, s2, s3, s4, s5⟩ := m_so_w (b := b) (n := n) (q := q)
  obtain ⟨lo0, lo1⟩ := id hlo
  obtain ⟨hi0, hi1⟩ := id hhi
  unfold r_num
  by_cases h3 : tK b n q = 3
  · rw [if_pos h3]
    have f19 : D 62 19 = 2 := by rw [g19]; exact s2.mpr h3
    by_cases hL : tL b n q
    · rw [if_neg (fun h => h.1 hL)]
      have hL2 : 4 < ((tE b n q : Nat) : Int) - (tS b n q : Nat) := hL
      refine x_ofW (by decide +kernel) hl (by simp [Value.category]) (by simp) ?_
      refine x_aload_n dX12_number_0 x_get_4_0 ?_
      refine x_callV (As := []) dX12_number_1 w_12_176 (m_good hl hM h14) (by assumption) (by assumption) rfl rfl (Nat.le_of_ble_eq_true rfl) (Nat.le_of_ble_eq_true rfl) (Nat.le_of_ble_eq_true rfl) (Nat.le_of_ble_eq_true rfl) (Nat.le_of_ble_eq_true rfl) ?_
      intro d hd
      obtain rfl := Eq.symm hd
      refine r_if_ne (t := 9) dX12_number_4 rfl ⟨by omega, by omega⟩ (fun hc4 => ?_) (fun hc4 => absurd hc4 (by omega))
      refine x_aload_n dX12_number_9 x_get_4_0 ?_
      refine x_getI 19 dX12_number_10 fX_12_150 rfl n62 s62 (by rfl) ?_
      try simp (disch := decide) only [x_up_s, x_up_n, x_up_up, x_u1_s, x_u1_n, f19, g21]
      refine x_iconst dX12_number_13 ?_
      refine r_icmp_eq (t := 25) dX12_number_14 rfl ⟨by omega, by omega⟩ ⟨by omega, by omega⟩ (fun hc14 => ?_) (fun hc14 => absurd hc14 (by omega))
      refine x_aload_n dX12_number_25 x_get_4_0 ?_
      refine x_getI 21 dX12_number_26 fX_12_160 rfl n62 s62 (by rfl) ?_
      try simp (disch := decide) only [x_up_s, x_up_n, x_up_up, x_u1_s, x_u1_n, f19, g21]
      refine x_iconst dX12_number_29 ?_
      refine r_icmp_gt (t := 49) dX12_number_30 rfl ⟨by omega, by omega⟩ ⟨by omega, by omega⟩ (fun hc30 => ?_) (fun hc30 => absurd hc30 (by omega))
      refine x_aload_n dX12_number_49 x_get_4_0 ?_
      refine x_iconst dX12_number_50 ?_
      refine x_callV (As := [_]) dX12_number_51 w_12_183 (m_wrong hl hM hg h14) (by assumption) (by assumption) rfl rfl (Nat.le_of_ble_eq_true rfl) (Nat.le_of_ble_eq_true rfl) (Nat.le_of_ble_eq_true rfl) (Nat.le_of_ble_eq_true rfl) (Nat.le_of_ble_eq_true rfl) ?_
      intro d hd
      obtain rfl := Eq.symm hd
      refine x_aload_n dX12_number_54 x_get_4_0 ?_
      refine x_getI 22 dX12_number_55 fX_12_144 rfl n62 s62 (by rfl) ?_
      try simp (disch := decide) only [x_up_s, x_up_n, x_up_up, x_u1_s, x_u1_n, f19, g21]
      refine x_istore_n dX12_number_58 (Nat.le_of_ble_eq_true rfl) rfl x_set_4_3 ?_
      refine x_aload_n dX12_number_59 x_get_4_0 ?_
      refine x_callV (As := []) dX12_number_60 w_12_176 (m_goodF hl hM mwf_14 (by decide)) (by assumption) (by assumption) rfl rfl (Nat.le_of_ble_eq_true rfl) (Nat.le_of_ble_eq_true rfl) (Nat.le_of_ble_eq_true rfl) (Nat.le_of_ble_eq_true rfl) (Nat.le_of_ble_eq_true rfl) ?_
      intro d hd
      obtain rfl := Eq.symm hd
      refine r_if_eq (t := 70) dX12_number_63 rfl ⟨by omega, by omega⟩ (fun hc63 => ?_) (fun hc63 => absurd hc63 (by omega))
      refine x_iload_n dX12_number_70 x_get_4_3 ?_
      exact x_iret dX12_number_71 rfl (Nat.le_of_ble_eq_true rfl) (Nat.le_of_ble_eq_true rfl) rfl rfl rfl mfa_w rfl
    · have v1 := g22 h3 hL
      have hv := tV_in h3
      have hL2 : ¬ 4 < ((tE b n q : Nat) : Int) - (tS b n q : Nat) := hL
      by_cases hin : lo ≤ tV b n q ∧ tV b n q ≤ hi
      · rw [if_pos ⟨hL, hin⟩]
        obtain ⟨i1, i2⟩ := id hin
        refine x_ofW (by decide +kernel) hl (by simp [Value.category]) (by simp) ?_
        refine x_aload_n dX12_number_0 x_get_4_0 ?_
        refine x_callV (As := []) dX12_number_1 w_12_176 (m_good hl hM h14) (by assumption) (by assumption) rfl rfl (Nat.le_of_ble_eq_true rfl) (Nat.le_of_ble_eq_true rfl) (Nat.le_of_ble_eq_true rfl) (Nat.le_of_ble_eq_true rfl) (Nat.le_of_ble_eq_true rfl) ?_
        intro d hd
        obtain rfl := Eq.symm hd
        refine r_if_ne (t := 9) dX12_number_4 rfl ⟨by omega, by omega⟩ (fun hc4 => ?_) (fun hc4 => absurd hc4 (by omega))
        refine x_aload_n dX12_number_9 x_get_4_0 ?_
        refine x_getI 19 dX12_number_10 fX_12_150 rfl n62 s62 (by rfl) ?_
        try simp (disch := decide) only [x_up_s, x_up_n, x_up_up, x_u1_s, x_u1_n, f19, g21, v1]
        refine x_iconst dX12_number_13 ?_
        refine r_icmp_eq (t := 25) dX12_number_14 rfl ⟨by omega, by omega⟩ ⟨by omega, by omega⟩ (fun hc14 => ?_) (fun hc14 => absurd hc14 (by omega))
        refine x_aload_n dX12_number_25 x_get_4_0 ?_
        refine x_getI 21 dX12_number_26 fX_12_160 rfl n62 s62 (by rfl) ?_
        try simp (disch := decide) only [x_up_s, x_up_n, x_up_up, x_u1_s, x_u1_n, f19, g21, v1]
        refine x_iconst dX12_number_29 ?_
        refine r_icmp_gt (t := 49) dX12_number_30 rfl ⟨by omega, by omega⟩ ⟨by omega, by omega⟩ (fun hc30 => absurd hc30 (by omega)) (fun hc30 => ?_)
        refine x_aload_n dX12_number_33 x_get_4_0 ?_
        refine x_getI 22 dX12_number_34 fX_12_144 rfl n62 s62 (by rfl) ?_
        try simp (disch := decide) only [x_up_s, x_up_n, x_up_up, x_u1_s, x_u1_n, f19, g21, v1]
        refine x_iload_n dX12_number_37 x_get_4_1 ?_
        refine r_icmp_lt (t := 49) dX12_number_38 rfl ⟨by omega, by omega⟩ ⟨by omega, by omega⟩ (fun hc38 => absurd hc38 (by omega)) (fun hc38 => ?_)
        refine x_aload_n dX12_number_41 x_get_4_0 ?_
        refine x_getI 22 dX12_number_42 fX_12_144 rfl n62 s62 (by rfl) ?_
        try simp (disch := decide) only [x_up_s, x_up_n, x_up_up, x_u1_s, x_u1_n, f19, g21, v1]
        refine x_iload_n dX12_number_45 x_get_4_2 ?_
        refine r_icmp_le (t := 54) dX12_number_46 rfl ⟨by omega, by omega⟩ ⟨by omega, by omega⟩ (fun hc46 => ?_) (fun hc46 => absurd hc46 (by omega))
        refine x_aload_n dX12_number_54 x_get_4_0 ?_
        refine x_getI 22 dX12_number_55 fX_12_144 rfl n62 s62 (by rfl) ?_
        try simp (disch := decide) only [x_up_s, x_up_n, x_up_up, x_u1_s, x_u1_n, f19, g21, v1]
        refine x_istore_n dX12_number_58 (Nat.le_of_ble_eq_true rfl) rfl x_set_4_3 ?_
        refine x_aload_n dX12_number_59 x_get_4_0 ?_
        refine x_callV (As := []) dX12_number_60 w_12_176 (m_good hl hM h14) (by assumption) (by assumption) rfl rfl (Nat.le_of_ble_eq_true rfl) (Nat.le_of_ble_eq_true rfl) (Nat.le_of_ble_eq_true rfl) (Nat.le_of_ble_eq_true rfl) (Nat.le_of_ble_eq_true rfl) ?_
        intro d hd
        obtain rfl := Eq.symm hd
        refine r_if_eq (t := 70) dX12_number_63 rfl ⟨by omega, by omega⟩ (fun hc63 => absurd hc63 (by omega)) (fun hc63 => ?_)
        refine x_aload_n dX12_number_66 x_get_4_0 ?_
        refine x_callV (As := []) dX12_number_67 w_12_180 (m_goes hl hM ht e2 g18) (by assumption) (by assumption) rfl rfl (Nat.le_of_ble_eq_true rfl) (Nat.le_of_ble_eq_true rfl) (Nat.le_of_ble_eq_true rfl) (Nat.le_of_ble_eq_true rfl) (Nat.le_of_ble_eq_true rfl) ?_
        intro d1 hd1
        refine x_iload_n dX12_number_70 x_get_4_3 ?_
        exact x_iret dX12_number_71 rfl (Nat.le_of_ble_eq_true rfl) (Nat.le_of_ble_eq_true rfl) (by first | rfl | (rw [v1]; done) | (rw [v1]; rfl)) rfl rfl hd1 rfl
      · rw [if_neg (fun h => hin h.2)]
        refine x_ofW (by decide +kernel) hl (by simp [Value.category]) (by simp) ?_
        refine x_aload_n dX12_number_0 x_get_4_0 ?_
        refine x_callV (As := []) dX12_number_1 w_12_176 (m_good hl hM h14) (by assumption) (by assumption) rfl rfl (Nat.le_of_ble_eq_true rfl) (Nat.le_of_ble_eq_true rfl) (Nat.le_of_ble_eq_true rfl) (Nat.le_of_ble_eq_true rfl) (Nat.le_of_ble_eq_true rfl) ?_
        intro d hd
        obtain rfl := Eq.symm hd
        refine r_if_ne (t := 9) dX12_number_4 rfl ⟨by omega, by omega⟩ (fun hc4 => ?_) (fun hc4 => absurd hc4 (by omega))
        refine x_aload_n dX12_number_9 x_get_4_0 ?_
        refine x_getI 19 dX12_number_10 fX_12_150 rfl n62 s62 (by rfl) ?_
        try simp (disch := decide) only [x_up_s, x_up_n, x_up_up, x_u1_s, x_u1_n, f19, g21, v1]
        refine x_iconst dX12_number_13 ?_
        refine r_icmp_eq (t := 25) dX12_number_14 rfl ⟨by omega, by omega⟩ ⟨by omega, by omega⟩ (fun hc14 => ?_) (fun hc14 => absurd hc14 (by omega))
        refine x_aload_n dX12_number_25 x_get_4_0 ?_
        refine x_getI 21 dX12_number_26 fX_12_160 rfl n62 s62 (by rfl) ?_
        try simp (disch := decide) only [x_up_s, x_up_n, x_up_up, x_u1_s, x_u1_n, f19, g21, v1]
        refine x_iconst dX12_number_29 ?_
        refine r_icmp_gt (t := 49) dX12_number_30 rfl ⟨by omega, by omega⟩ ⟨by omega, by omega⟩ (fun hc30 => absurd hc30 (by omega)) (fun hc30 => ?_)
        refine x_aload_n dX12_number_33 x_get_4_0 ?_
        refine x_getI 22 dX12_number_34 fX_12_144 rfl n62 s62 (by rfl) ?_
        try simp (disch := decide) only [x_up_s, x_up_n, x_up_up, x_u1_s, x_u1_n, f19, g21, v1]
        refine x_iload_n dX12_number_37 x_get_4_1 ?_
        refine r_icmp_lt (t := 49) dX12_number_38 rfl ⟨by omega, by omega⟩ ⟨by omega, by omega⟩ (fun hc38 => ?_) (fun hc38 => ?_)
        · refine x_aload_n dX12_number_49 x_get_4_0 ?_
          refine x_iconst dX12_number_50 ?_
          refine x_callV (As := [_]) dX12_number_51 w_12_183 (m_wrong hl hM hg h14) (by assumption) (by assumption) rfl rfl (Nat.le_of_ble_eq_true rfl) (Nat.le_of_ble_eq_true rfl) (Nat.le_of_ble_eq_true rfl) (Nat.le_of_ble_eq_true rfl) (Nat.le_of_ble_eq_true rfl) ?_
          intro d hd
          obtain rfl := Eq.symm hd
          refine x_aload_n dX12_number_54 x_get_4_0 ?_
          refine x_getI 22 dX12_number_55 fX_12_144 rfl n62 s62 (by rfl) ?_
          try simp (disch := decide) only [x_up_s, x_up_n, x_up_up, x_u1_s, x_u1_n, f19, g21, v1]
          refine x_istore_n dX12_number_58 (Nat.le_of_ble_eq_true rfl) rfl x_set_4_3 ?_
          refine x_aload_n dX12_number_59 x_get_4_0 ?_
          refine x_callV (As := []) dX12_number_60 w_12_176 (m_goodF hl hM mwf_14 (by decide)) (by assumption) (by assumption) rfl rfl (Nat.le_of_ble_eq_true rfl) (Nat.le_of_ble_eq_true rfl) (Nat.le_of_ble_eq_true rfl) (Nat.le_of_ble_eq_true rfl) (Nat.le_of_ble_eq_true rfl) ?_
          intro d hd
          obtain rfl := Eq.symm hd
          refine r_if_eq (t := 70) dX12_number_63 rfl ⟨by omega, by omega⟩ (fun hc63 => ?_) (fun hc63 => absurd hc63 (by omega))
          refine x_iload_n dX12_number_70 x_get_4_3 ?_
          exact x_iret dX12_number_71 rfl (Nat.le_of_ble_eq_true rfl) (Nat.le_of_ble_eq_true rfl) (by first | rfl | (rw [v1]; done) | (rw [v1]; rfl)) rfl rfl mfa_w rfl
        · refine x_aload_n dX12_number_41 x_get_4_0 ?_
          refine x_getI 22 dX12_number_42 fX_12_144 rfl n62 s62 (by rfl) ?_
          try simp (disch := decide) only [x_up_s, x_up_n, x_up_up, x_u1_s, x_u1_n, f19, g21, v1]
          refine x_iload_n dX12_number_45 x_get_4_2 ?_
          refine r_icmp_le (t := 54) dX12_number_46 rfl ⟨by omega, by omega⟩ ⟨by omega, by omega⟩ (fun hc46 => absurd hc46 (by omega)) (fun hc46 => ?_)
          refine x_aload_n dX12_number_49 x_get_4_0 ?_
          refine x_iconst dX12_number_50 ?_
          refine x_callV (As := [_]) dX12_number_51 w_12_183 (m_wrong hl hM hg h14) (by assumption) (by assumption) rfl rfl (Nat.le_of_ble_eq_true rfl) (Nat.le_of_ble_eq_true rfl) (Nat.le_of_ble_eq_true rfl) (Nat.le_of_ble_eq_true rfl) (Nat.le_of_ble_eq_true rfl) ?_
          intro d hd
          obtain rfl := Eq.symm hd
          refine x_aload_n dX12_number_54 x_get_4_0 ?_
          refine x_getI 22 dX12_number_55 fX_12_144 rfl n62 s62 (by rfl) ?_
          try simp (disch := decide) only [x_up_s, x_up_n, x_up_up, x_u1_s, x_u1_n, f19, g21, v1]
          refine x_istore_n dX12_number_58 (Nat.le_of_ble_eq_true rfl) rfl x_set_4_3 ?_
          refine x_aload_n dX12_number_59 x_get_4_0 ?_
          refine x_callV (As := []) dX12_number_60 w_12_176 (m_goodF hl hM mwf_14 (by decide)) (by assumption) (by assumption) rfl rfl (Nat.le_of_ble_eq_true rfl) (Nat.le_of_ble_eq_true rfl) (Nat.le_of_ble_eq_true rfl) (Nat.le_of_ble_eq_true rfl) (Nat.le_of_ble_eq_true rfl) ?_
          intro d hd
          obtain rfl := Eq.symm hd
          refine r_if_eq (t := 70) dX12_number_63 rfl ⟨by omega, by omega⟩ (fun hc63 => ?_) (fun hc63 => absurd hc63 (by omega))
          refine x_iload_n dX12_number_70 x_get_4_3 ?_
          exact x_iret dX12_number_71 rfl (Nat.le_of_ble_eq_true rfl) (Nat.le_of_ble_eq_true rfl) (by first | rfl | (rw [v1]; done) | (rw [v1]; rfl)) rfl rfl mfa_w rfl
  · rw [if_neg h3]
    refine x_ofW (by decide +kernel) hl (by simp [Value.category]) (by simp) ?_
    refine x_aload_n dX12_number_0 x_get_4_0 ?_
    refine x_callV (As := []) dX12_number_1 w_12_176 (m_good hl hM h14) (by assumption) (by assumption) rfl rfl (Nat.le_of_ble_eq_true rfl) (Nat.le_of_ble_eq_true rfl) (Nat.le_of_ble_eq_true rfl) (Nat.le_of_ble_eq_true rfl) (Nat.le_of_ble_eq_true rfl) ?_
    intro d hd
    obtain rfl := Eq.symm hd
    refine r_if_ne (t := 9) dX12_number_4 rfl ⟨by omega, by omega⟩ (fun hc4 => ?_) (fun hc4 => absurd hc4 (by omega))
    refine x_aload_n dX12_number_9 x_get_4_0 ?_
    refine x_getI 19 dX12_number_10 fX_12_150 rfl n62 s62 (by rfl) ?_
    try simp (disch := decide) only [x_up_s, x_up_n, x_up_up, x_u1_s, x_u1_n, g19]
    refine x_iconst dX12_number_13 ?_
    refine r_icmp_eq (t := 25) dX12_number_14 rfl ⟨by omega, by omega⟩ ⟨by omega, by omega⟩ (fun hc14 => absurd hc14 (fun h => h3 (s2.mp (by omega)))) (fun hc14 => ?_)
    refine x_aload_n dX12_number_17 x_get_4_0 ?_
    refine x_iconst dX12_number_18 ?_
    refine x_callV (As := [_]) dX12_number_19 w_12_183 (m_wrong hl hM hg h14) (by assumption) (by assumption) rfl rfl (Nat.le_of_ble_eq_true rfl) (Nat.le_of_ble_eq_true rfl) (Nat.le_of_ble_eq_true rfl) (Nat.le_of_ble_eq_true rfl) (Nat.le_of_ble_eq_true rfl) ?_
    intro d hd
    obtain rfl := Eq.symm hd
    refine x_goto (t := 54) dX12_number_22 rfl ?_
    refine x_aload_n dX12_number_54 x_get_4_0 ?_
    refine x_getI 22 dX12_number_55 fX_12_144 rfl n62 s62 (by rfl) ?_
    try simp (disch := decide) only [x_up_s, x_up_n, x_up_up, x_u1_s, x_u1_n, g19]
    refine x_istore_n dX12_number_58 (Nat.le_of_ble_eq_true rfl) rfl x_set_4_3 ?_
    refine x_aload_n dX12_number_59 x_get_4_0 ?_
    refine x_callV (As := []) dX12_number_60 w_12_176 (m_goodF hl hM mwf_14 (by decide)) (by assumption) (by assumption) rfl rfl (Nat.le_of_ble_eq_true rfl) (Nat.le_of_ble_eq_true rfl) (Nat.le_of_ble_eq_true rfl) (Nat.le_of_ble_eq_true rfl) (Nat.le_of_ble_eq_true rfl) ?_
    intro d hd
    obtain rfl := Eq.symm hd
    refine r_if_eq (t := 70) dX12_number_63 rfl ⟨by omega, by omega⟩ (fun hc63 => ?_) (fun hc63 => absurd hc63 (by omega))
    refine x_iload_n dX12_number_70 x_get_4_3 ?_
    exact x_iret dX12_number_71 rfl (Nat.le_of_ble_eq_true rfl) (Nat.le_of_ble_eq_true rfl) rfl rfl rfl mfa_w rfl
theorem m_numberF {X : xC} {l : Launch} (hl : l.stackTraces = false) {N : Nat} {sh : xS} {D : xM} (hM : is_Md N sh) {k : Int} (h14 : D 62 14 = k) (hk : 1 ≤ k ∧ k ≤ 5) {lo hi : Int} : x_M X l yX12_number cX12_number 4 (some .int) 2 0 0 [.ref (x_b X + 62), .int (xI lo), .int (xI hi)] false N sh D (.inl (some (.int (xI (0))))) false N sh (x_is (D)) := by
  have s62 := md_62 hM
  have n62 : 62 < N := md_n hM (by decide)
  refine x_ofW (by decide +kernel) hl (by simp [Value.category]) (by simp) ?_
  refine x_aload_n dX12_number_0 x_get_4_0 ?_
  refine x_callV (As := []) dX12_number_1 w_12_176 (m_goodF hl hM h14 hk) (by assumption) (by assumption) rfl rfl (Nat.le_of_ble_eq_true rfl) (Nat.le_of_ble_eq_true rfl) (Nat.le_of_ble_eq_true rfl) (Nat.le_of_ble_eq_true rfl) (Nat.le_of_ble_eq_true rfl) ?_
  intro d hd
  obtain rfl := Eq.symm hd
  refine r_if_ne (t := 9) dX12_number_4 rfl ⟨by omega, by omega⟩ (fun hc4 => absurd hc4 (by omega)) (fun hc4 => ?_)
  refine x_iconst dX12_number_7 ?_
  exact x_iret dX12_number_8 rfl (Nat.le_of_ble_eq_true rfl) (Nat.le_of_ble_eq_true rfl) rfl rfl rfl rfl rfl
theorem m_needT {X : xC} {l : Launch} (hl : l.stackTraces = false) {N : Nat} {sh : xS} {D : xM} (hM : is_Md N sh) {b : Int → Int} {n q : Nat} (hg : gs b n q D) (h14 : D 62 14 = 0) : x_M X l yX12_need cX12_need 2 (none) 2 0 0 [.ref (x_b X + 62), .int (xI 1)] false N sh D (.inl none) false N sh (fun d => gs b n (tE b n q) d ∧ gf D d) := by
  have s62 := md_62 hM
  have n62 : 62 < N := md_n hM (by decide)
  obtain ⟨ht, hqn, g18, g20, g19, g21, g22, g23, g24⟩ := id hg
  obtain ⟨t1, t2, t3⟩ := id ht
  obtain ⟨e0, e1, e2⟩ := tE_in (b := b) hqn
  have hki := tK_in (b := b) (n := n) (q := q)
  obtain ⟨s0, s1, s2, s3, s4, s5⟩ := m_so_w (b := b) (n := n) (q := q)
  refine x_ofW (by decide +kernel) hl (by simp [Value.category]) (by simp) ?_
  refine x_aload_n dX12_need_0 x_get_2_0 ?_
  refine x_callV (As := []) dX12_need_1 w_12_176 (m_good hl hM h14) (by assumption) (by assumption) rfl rfl (Nat.le_of_ble_eq_true rfl) (Nat.le_of_ble_eq_true rfl) (Nat.le_of_ble_eq_true rfl) (Nat.le_of_ble_eq_true rfl) (Nat.le_of_ble_eq_true rfl) ?_
  intro d hd
  obtain rfl := Eq.symm hd
  refine r_if_ne (t := 8) dX12_need_4 rfl ⟨by omega, by omega⟩ (fun hc4 => ?_) (fun hc4 => absurd hc4 (by omega))
  refine x_iload_n dX12_need_8 x_get_2_1 ?_
  refine r_if_eq (t := 19) dX12_need_9 rfl ⟨by omega, by omega⟩ (fun hc9 => absurd hc9 (by omega)) (fun hc9 => ?_)
  refine x_aload_n dX12_need_12 x_get_2_0 ?_
  refine x_callV (As := []) dX12_need_13 w_12_180 (m_goes hl hM ht e2 g18) (by assumption) (by assumption) rfl rfl (Nat.le_of_ble_eq_true rfl) (Nat.le_of_ble_eq_true rfl) (Nat.le_of_ble_eq_true rfl) (Nat.le_of_ble_eq_true rfl) (Nat.le_of_ble_eq_true rfl) ?_
  intro d1 hd1
  refine x_goto (t := 24) dX12_need_16 rfl ?_
  exact x_vret dX12_need_24 rfl (Nat.le_of_ble_eq_true rfl) (Nat.le_of_ble_eq_true rfl) rfl rfl rfl hd1 rfl
theorem m_needN {X : xC} {l : Launch} (hl : l.stackTraces = false) {N : Nat} {sh : xS} {D : xM} (hM : is_Md N sh) {b : Int → Int} {n q : Nat} (hg : gs b n q D) (h14 : D 62 14 = 0) : x_M X l yX12_need cX12_need 2 (none) 2 0 0 [.ref (x_b X + 62), .int (xI 0)] false N sh D (.inl none) false N sh (mfa b n D (1, q)) := by
  have s62 := md_62 hM
  have n62 : 62 < N := md_n hM (by decide)
  obtain ⟨ht, hqn, g18, g20, g19, g21, g22, g23, g24⟩ := id hg
  obtain ⟨t1, t2, t3⟩ := id ht
  obtain ⟨e0, e1, e2⟩ := tE_in (b := b) hqn
  have hki := tK_in (b := b) (n := n) (q := q)
  obtain ⟨s0, s1, s2, s3, s4, s5⟩ := m_so_w (b := b) (n := n) (q := q)
  refine x_ofW (by decide +kernel) hl (by simp [Value.category]) (by simp) ?_
  refine x_aload_n dX12_need_0 x_get_2_0 ?_
  refine x_callV (As := []) dX12_need_1 w_12_176 (m_good hl hM h14) (by assumption) (by assumption) rfl rfl (Nat.le_of_ble_eq_true rfl) (Nat.le_of_ble_eq_true rfl) (Nat.le_of_ble_eq_true rfl) (Nat.le_of_ble_eq_true rfl) (Nat.le_of_ble_eq_true rfl) ?_
  intro d hd
  obtain rfl := Eq.symm hd
  refine r_if_ne (t := 8) dX12_need_4 rfl ⟨by omega, by omega⟩ (fun hc4 => ?_) (fun hc4 => absurd hc4 (by omega))
  refine x_iload_n dX12_need_8 x_get_2_1 ?_
  refine r_if_eq (t := 19) dX12_need_9 rfl ⟨by omega, by omega⟩ (fun hc9 => ?_) (fun hc9 => absurd hc9 (by omega))
  refine x_aload_n dX12_need_19 x_get_2_0 ?_
  refine x_iconst dX12_need_20 ?_
  refine x_callV (As := [_]) dX12_need_21 w_12_183 (m_wrong hl hM hg h14) (by assumption) (by assumption) rfl rfl (Nat.le_of_ble_eq_true rfl) (Nat.le_of_ble_eq_true rfl) (Nat.le_of_ble_eq_true rfl) (Nat.le_of_ble_eq_true rfl) (Nat.le_of_ble_eq_true rfl) ?_
  intro d hd
  obtain rfl := Eq.symm hd
  exact x_vret dX12_need_24 rfl (Nat.le_of_ble_eq_true rfl) (Nat.le_of_ble_eq_true rfl) rfl rfl rfl mfa_w rfl
theorem m_needF {X : xC} {l : Launch} (hl : l.stackTraces = false) {N : Nat} {sh : xS} {D : xM} (hM : is_Md N sh) {k : Int} (h14 : D 62 14 = k) (hk : 1 ≤ k ∧ k ≤ 5) {w : Int} : x_M X l yX12_need cX12_need 2 (none) 2 0 0 [.ref (x_b X + 62), .int (xI w)] false N sh D (.inl none) false N sh (x_is (D)) := by
  have s62 := md_62 hM
  have n62 : 62 < N := md_n hM (by decide)
  refine x_ofW (by decide +kernel) hl (by simp [Value.category]) (by simp) ?_
  refine x_aload_n dX12_need_0 x_get_2_0 ?_
  refine x_callV (As := []) dX12_need_1 w_12_176 (m_goodF hl hM h14 hk) (by assumption) (by assumption) rfl rfl (Nat.le_of_ble_eq_true rfl) (Nat.le_of_ble_eq_true rfl) (Nat.le_of_ble_eq_true rfl) (Nat.le_of_ble_eq_true rfl) (Nat.le_of_ble_eq_true rfl) ?_
  intro d hd
  obtain rfl := Eq.symm hd
  refine r_if_ne (t := 8) dX12_need_4 rfl ⟨by omega, by omega⟩ (fun hc4 => absurd hc4 (by omega)) (fun hc4 => ?_)
  exact x_vret dX12_need_7 rfl (Nat.le_of_ble_eq_true rfl) (Nat.le_of_ble_eq_true rfl) rfl rfl rfl rfl rfl
theorem m_hereT {X : xC} {l : Launch} (hl : l.stackTraces = false) {N : Nat} {sh : xS} {D : xM} (hM : is_Md N sh) {b : Int → Int} {n q : Nat} (hg : gs b n q D) (h14 : D 62 14 = 0) {T : Nat} (hT8 : T ≤ 8) (h : tK b n q = 3 ∧ ¬ tL b n q ∧ tV b n q < T) : x_M X l yX12_amongHere cX12_amongHere 2 (some .boolean) 1 0 0 [.ref (x_b X + 62), .int (xI (T : Int))] false N sh D (.inl (some (.int (xI (1))))) false N sh (x_is (D)) := by
  have s62 := md_62 hM
  have n62 : 62 < N := md_n hM (by decide)
  obtain ⟨ht, hqn, g18, g20, g19, g21, g22, g23, g24⟩ := id hg
  obtain ⟨t1, t2, t3⟩ := id ht
  obtain ⟨e0, e1, e2⟩ := tE_in (b := b) hqn
  have hki := tK_in (b := b) (n := n) (q := q)
  obtain ⟨s0, s1, s2, s3, s4, s5⟩ := m_so_w (b := b) (n := n) (q := q)
  obtain ⟨h3, hL, hv⟩ := id h
  have f19 : D 62 19 = 2 := by rw [g19]; exact s2.mpr h3
  have v1 := g22 h3 hL
  have hv2 := tV_in h3
  have hL2 : ¬ 4 < ((tE b n q : Nat) : Int) - (tS b n q : Nat) := hL
  refine x_ofW (by decide +kernel) hl (by simp [Value.category]) (by simp) ?_
  refine x_aload_n dX12_amongHere_0 x_get_2_0 ?_
  refine x_callV (As := []) dX12_amongHere_1 w_12_176 (m_good hl hM h14) (by assumption) (by assumption) rfl rfl (Nat.le_of_ble_eq_true rfl) (Nat.le_of_ble_eq_true rfl) (Nat.le_of_ble_eq_true rfl) (Nat.le_of_ble_eq_true rfl) (Nat.le_of_ble_eq_true rfl) ?_
  intro d hd
  obtain rfl := Eq.symm hd
  refine r_if_ne (t := 9) dX12_amongHere_4 rfl ⟨by omega, by omega⟩ (fun hc4 => ?_) (fun hc4 => absurd hc4 (by omega))
  refine x_aload_n dX12_amongHere_9 x_get_2_0 ?_
  refine x_getI 19 dX12_amongHere_10 fX_12_150 rfl n62 s62 (by rfl) ?_
  try simp (disch := decide) only [x_up_s, x_up_n, x_up_up, x_u1_s, x_u1_n, f19, g21, v1]
  refine x_iconst dX12_amongHere_13 ?_
  refine r_icmp_eq (t := 25) dX12_amongHere_14 rfl ⟨by omega, by omega⟩ ⟨by omega, by omega⟩ (fun hc14 => ?_) (fun hc14 => absurd hc14 (by omega))
  refine x_aload_n dX12_amongHere_25 x_get_2_0 ?_
  refine x_getI 21 dX12_amongHere_26 fX_12_160 rfl n62 s62 (by rfl) ?_
  try simp (disch := decide) only [x_up_s, x_up_n, x_up_up, x_u1_s, x_u1_n, f19, g21, v1]
  refine x_iconst dX12_amongHere_29 ?_
  refine r_icmp_le (t := 41) dX12_amongHere_30 rfl ⟨by omega, by omega⟩ ⟨by omega, by omega⟩ (fun hc30 => ?_) (fun hc30 => absurd hc30 (by omega))
  refine x_aload_n dX12_amongHere_41 x_get_2_0 ?_
  refine x_getI 22 dX12_amongHere_42 fX_12_144 rfl n62 s62 (by rfl) ?_
  try simp (disch := decide) only [x_up_s, x_up_n, x_up_up, x_u1_s, x_u1_n, f19, g21, v1]
  refine x_iload_n dX12_amongHere_45 x_get_2_1 ?_
  refine r_icmp_lt (t := 54) dX12_amongHere_46 rfl ⟨by omega, by omega⟩ ⟨by omega, by omega⟩ (fun hc46 => ?_) (fun hc46 => absurd hc46 (by omega))
  refine x_aload_n dX12_amongHere_54 x_get_2_0 ?_
  refine x_callV (As := []) dX12_amongHere_55 w_12_176 (m_good hl hM h14) (by assumption) (by assumption) rfl rfl (Nat.le_of_ble_eq_true rfl) (Nat.le_of_ble_eq_true rfl) (Nat.le_of_ble_eq_true rfl) (Nat.le_of_ble_eq_true rfl) (Nat.le_of_ble_eq_true rfl) ?_
  intro d hd
  obtain rfl := Eq.symm hd
  exact x_zret dX12_amongHere_58 rfl (by omega) (Nat.le_of_ble_eq_true rfl) (Nat.le_of_ble_eq_true rfl) rfl rfl rfl rfl rfl
theorem m_hereN {X : xC} {l : Launch} (hl : l.stackTraces = false) {N : Nat} {sh : xS} {D : xM} (hM : is_Md N sh) {b : Int → Int} {n q : Nat} (hg : gs b n q D) (h14 : D 62 14 = 0) {T : Nat} (hT8 : T ≤ 8) {z : Int × Nat} (h : r_plc b n T q = .inl z) : x_M X l yX12_amongHere cX12_amongHere 2 (some .boolean) 1 0 0 [.ref (x_b X + 62), .int (xI (T : Int))] false N sh D (.inl (some (.int (xI (0))))) false N sh (x_is (mwf z.1 (tS b n q : Nat) D)) := by
  have s62 := md_62 hM
  have n62 : 62 < N := md_n hM (by decide)
  obtain ⟨ht, hqn, g18, g20, g19, g21, g22, g23, g24⟩ := id hg
  obtain ⟨t1, t2, t3⟩ := id ht
  obtain ⟨e0, e1, e2⟩ := tE_in (b := b) hqn
  have hki := tK_in (b := b) (n := n) (q := q)
  obtain ⟨s0, s1, s2, s3, s4, s5⟩ := m_so_w (b := b) (n := n) (q := q)
  unfold r_plc at h
  by_cases h3 : tK b n q = 3
  · rw [if_pos h3] at h
    have f19 : D 62 19 = 2 := by rw [g19]; exact s2.mpr h3
    by_cases hL : tL b n q
    · rw [if_pos hL] at h
      cases h
      have hL2 : 4 < ((tE b n q : Nat) : Int) - (tS b n q : Nat) := hL
      refine x_ofW (by decide +kernel) hl (by simp [Value.category]) (by simp) ?_
      refine x_aload_n dX12_amongHere_0 x_get_2_0 ?_
      refine x_callV (As := []) dX12_amongHere_1 w_12_176 (m_good hl hM h14) (by assumption) (by assumption) rfl rfl (Nat.le_of_ble_eq_true rfl) (Nat.le_of_ble_eq_true rfl) (Nat.le_of_ble_eq_true rfl) (Nat.le_of_ble_eq_true rfl) (Nat.le_of_ble_eq_true rfl) ?_
      intro d hd
      obtain rfl := Eq.symm hd
      refine r_if_ne (t := 9) dX12_amongHere_4 rfl ⟨by omega, by omega⟩ (fun hc4 => ?_) (fun hc4 => absurd hc4 (by omega))
      refine x_aload_n dX12_amongHere_9 x_get_2_0 ?_
      refine x_getI 19 dX12_amongHere_10 fX_12_150 rfl n62 s62 (by rfl) ?_
      try simp (disch := decide) only [x_up_s, x_up_n, x_up_up, x_u1_s, x_u1_n, f19, g21]
      refine x_iconst dX12_amongHere_13 ?_
      refine r_icmp_eq (t := 25) dX12_amongHere_14 rfl ⟨by omega, by omega⟩ ⟨by omega, by omega⟩ (fun hc14 => ?_) (fun hc14 => absurd hc14 (by omega))
      refine x_aload_n dX12_amongHere_25 x_get_2_0 ?_
      refine x_getI 21 dX12_amongHere_26 fX_12_160 rfl n62 s62 (by rfl) ?_
      try simp (disch := decide) only [x_up_s, x_up_n, x_up_up, x_u1_s, x_u1_n, f19, g21]
      refine x_iconst dX12_amongHere_29 ?_
      refine r_icmp_le (t := 41) dX12_amongHere_30 rfl ⟨by omega, by omega⟩ ⟨by omega, by omega⟩ (fun hc30 => absurd hc30 (by omega)) (fun hc30 => ?_)
      refine x_aload_n dX12_amongHere_33 x_get_2_0 ?_
      refine x_iconst dX12_amongHere_34 ?_
      refine x_callV (As := [_]) dX12_amongHere_35 w_12_183 (m_wrong hl hM hg h14) (by assumption) (by assumption) rfl rfl (Nat.le_of_ble_eq_true rfl) (Nat.le_of_ble_eq_true rfl) (Nat.le_of_ble_eq_true rfl) (Nat.le_of_ble_eq_true rfl) (Nat.le_of_ble_eq_true rfl) ?_
      intro d hd
      obtain rfl := Eq.symm hd
      refine x_goto (t := 54) dX12_amongHere_38 rfl ?_
      refine x_aload_n dX12_amongHere_54 x_get_2_0 ?_
      refine x_callV (As := []) dX12_amongHere_55 w_12_176 (m_goodF hl hM mwf_14 (by decide)) (by assumption) (by assumption) rfl rfl (Nat.le_of_ble_eq_true rfl) (Nat.le_of_ble_eq_true rfl) (Nat.le_of_ble_eq_true rfl) (Nat.le_of_ble_eq_true rfl) (Nat.le_of_ble_eq_true rfl) ?_
      intro d hd
      obtain rfl := Eq.symm hd
      exact x_zret dX12_amongHere_58 rfl (by omega) (Nat.le_of_ble_eq_true rfl) (Nat.le_of_ble_eq_true rfl) rfl rfl rfl rfl rfl
    · rw [if_neg hL] at h
      have v1 := g22 h3 hL
      have hv2 := tV_in h3
      have hL2 : ¬ 4 < ((tE b n q : Nat) : Int) - (tS b n q : Nat) := hL
      by_cases hv : tV b n q < T
      · rw [if_pos hv] at h; cases h
      · rw [if_neg hv] at h
        cases h
        refine x_ofW (by decide +kernel) hl (by simp [Value.category]) (by simp) ?_
        refine x_aload_n dX12_amongHere_0 x_get_2_0 ?_
        refine x_callV (As := []) dX12_amongHere_1 w_12_176 (m_good hl hM h14) (by assumption) (by assumption) rfl rfl (Nat.le_of_ble_eq_true rfl) (Nat.le_of_ble_eq_true rfl) (Nat.le_of_ble_eq_true rfl) (Nat.le_of_ble_eq_true rfl) (Nat.le_of_ble_eq_true rfl) ?_
        intro d hd
        obtain rfl := Eq.symm hd
        refine r_if_ne (t := 9) dX12_amongHere_4 rfl ⟨by omega, by omega⟩ (fun hc4 => ?_) (fun hc4 => absurd hc4 (by omega))
        refine x_aload_n dX12_amongHere_9 x_get_2_0 ?_
        refine x_getI 19 dX12_amongHere_10 fX_12_150 rfl n62 s62 (by rfl) ?_
        try simp (disch := decide) only [x_up_s, x_up_n, x_up_up, x_u1_s, x_u1_n, f19, g21, v1]
        refine x_iconst dX12_amongHere_13 ?_
        refine r_icmp_eq (t := 25) dX12_amongHere_14 rfl ⟨by omega, by omega⟩ ⟨by omega, by omega⟩ (fun hc14 => ?_) (fun hc14 => absurd hc14 (by omega))
        refine x_aload_n dX12_amongHere_25 x_get_2_0 ?_
        refine x_getI 21 dX12_amongHere_26 fX_12_160 rfl n62 s62 (by rfl) ?_
        try simp (disch := decide) only [x_up_s, x_up_n, x_up_up, x_u1_s, x_u1_n, f19, g21, v1]
        refine x_iconst dX12_amongHere_29 ?_
        refine r_icmp_le (t := 41) dX12_amongHere_30 rfl ⟨by omega, by omega⟩ ⟨by omega, by omega⟩ (fun hc30 => ?_) (fun hc30 => absurd hc30 (by omega))
        refine x_aload_n dX12_amongHere_41 x_get_2_0 ?_
        refine x_getI 22 dX12_amongHere_42 fX_12_144 rfl n62 s62 (by rfl) ?_
        try simp (disch := decide) only [x_up_s, x_up_n, x_up_up, x_u1_s, x_u1_n, f19, g21, v1]
        refine x_iload_n dX12_amongHere_45 x_get_2_1 ?_
        refine r_icmp_lt (t := 54) dX12_amongHere_46 rfl ⟨by omega, by omega⟩ ⟨by omega, by omega⟩ (fun hc46 => absurd hc46 (by omega)) (fun hc46 => ?_)
        refine x_aload_n dX12_amongHere_49 x_get_2_0 ?_
        refine x_iconst dX12_amongHere_50 ?_
        refine x_callV (As := [_]) dX12_amongHere_51 w_12_183 (m_wrong hl hM hg h14) (by assumption) (by assumption) rfl rfl (Nat.le_of_ble_eq_true rfl) (Nat.le_of_ble_eq_true rfl) (Nat.le_of_ble_eq_true rfl) (Nat.le_of_ble_eq_true rfl) (Nat.le_of_ble_eq_true rfl) ?_
        intro d hd
        obtain rfl := Eq.symm hd
        refine x_aload_n dX12_amongHere_54 x_get_2_0 ?_
        refine x_callV (As := []) dX12_amongHere_55 w_12_176 (m_goodF hl hM mwf_14 (by decide)) (by assumption) (by assumption) rfl rfl (Nat.le_of_ble_eq_true rfl) (Nat.le_of_ble_eq_true rfl) (Nat.le_of_ble_eq_true rfl) (Nat.le_of_ble_eq_true rfl) (Nat.le_of_ble_eq_true rfl) ?_
        intro d hd
        obtain rfl := Eq.symm hd
        exact x_zret dX12_amongHere_58 rfl (by omega) (Nat.le_of_ble_eq_true rfl) (Nat.le_of_ble_eq_true rfl) rfl rfl rfl rfl rfl
  · rw [if_neg h3] at h
    cases h
    refine x_ofW (by decide +kernel) hl (by simp [Value.category]) (by simp) ?_
    refine x_aload_n dX12_amongHere_0 x_get_2_0 ?_
    refine x_callV (As := []) dX12_amongHere_1 w_12_176 (m_good hl hM h14) (by assumption) (by assumption) rfl rfl (Nat.le_of_ble_eq_true rfl) (Nat.le_of_ble_eq_true rfl) (Nat.le_of_ble_eq_true rfl) (Nat.le_of_ble_eq_true rfl) (Nat.le_of_ble_eq_true rfl) ?_
    intro d hd
    obtain rfl := Eq.symm hd
    refine r_if_ne (t := 9) dX12_amongHere_4 rfl ⟨by omega, by omega⟩ (fun hc4 => ?_) (fun hc4 => absurd hc4 (by omega))
    refine x_aload_n dX12_amongHere_9 x_get_2_0 ?_
    refine x_getI 19 dX12_amongHere_10 fX_12_150 rfl n62 s62 (by rfl) ?_
    try simp (disch := decide) only [x_up_s, x_up_n, x_up_up, x_u1_s, x_u1_n, g19]
    refine x_iconst dX12_amongHere_13 ?_
    refine r_icmp_eq (t := 25) dX12_amongHere_14 rfl ⟨by omega, by omega⟩ ⟨by omega, by omega⟩ (fun hc14 => absurd hc14 (fun h => h3 (s2.mp (by omega)))) (fun hc14 => ?_)
    refine x_aload_n dX12_amongHere_17 x_get_2_0 ?_
    refine x_iconst dX12_amongHere_18 ?_
    refine x_callV (As := [_]) dX12_amongHere_19 w_12_183 (m_wrong hl hM hg h14) (by assumption) (by assumption) rfl rfl (Nat.le_of_ble_eq_true rfl) (Nat.le_of_ble_eq_true rfl) (Nat.le_of_ble_eq_true rfl) (Nat.le_of_ble_eq_true rfl) (Nat.le_of_ble_eq_true rfl) ?_
    intro d hd
    obtain rfl := Eq.symm hd
    refine x_goto (t := 54) dX12_amongHere_22 rfl ?_
    refine x_aload_n dX12_amongHere_54 x_get_2_0 ?_
    refine x_callV (As := []) dX12_amongHere_55 w_12_176 (m_goodF hl hM mwf_14 (by decide)) (by assumption) (by assumption) rfl rfl (Nat.le_of_ble_eq_true rfl) (Nat.le_of_ble_eq_true rfl) (Nat.le_of_ble_eq_true rfl) (Nat.le_of_ble_eq_true rfl) (Nat.le_of_ble_eq_true rfl) ?_
    intro d hd
    obtain rfl := Eq.symm hd
    exact x_zret dX12_amongHere_58 rfl (by omega) (Nat.le_of_ble_eq_true rfl) (Nat.le_of_ble_eq_true rfl) rfl rfl rfl rfl rfl
theorem m_hereF {X : xC} {l : Launch} (hl : l.stackTraces = false) {N : Nat} {sh : xS} {D : xM} (hM : is_Md N sh) {k : Int} (h14 : D 62 14 = k) (hk : 1 ≤ k ∧ k ≤ 5) {w : Int} : x_M X l yX12_amongHere cX12_amongHere 2 (some .boolean) 1 0 0 [.ref (x_b X + 62), .int (xI w)] false N sh D (.inl (some (.int (xI (0))))) false N sh (x_is (D)) := by
  have s62 := md_62 hM
  have n62 : 62 < N := md_n hM (by decide)
  refine x_ofW (by decide +kernel) hl (by simp [Value.category]) (by simp) ?_
  refine x_aload_n dX12_amongHere_0 x_get_2_0 ?_
  refine x_callV (As := []) dX12_amongHere_1 w_12_176 (m_goodF hl hM h14 hk) (by assumption) (by assumption) rfl rfl (Nat.le_of_ble_eq_true rfl) (Nat.le_of_ble_eq_true rfl) (Nat.le_of_ble_eq_true rfl) (Nat.le_of_ble_eq_true rfl) (Nat.le_of_ble_eq_true rfl) ?_
  intro d hd
  obtain rfl := Eq.symm hd
  refine r_if_ne (t := 9) dX12_amongHere_4 rfl ⟨by omega, by omega⟩ (fun hc4 => absurd hc4 (by omega)) (fun hc4 => ?_)
  refine x_iconst dX12_amongHere_7 ?_
  exact x_zret dX12_amongHere_8 rfl (by omega) (Nat.le_of_ble_eq_true rfl) (Nat.le_of_ble_eq_true rfl) rfl rfl rfl rfl rfl
theorem m_among {X : xC} {l : Launch} (hl : l.stackTraces = false) {N : Nat} {sh : xS} {D : xM} (hM : is_Md N sh) {b : Int → Int} {n q : Nat} (hg : gs b n q D) (h14 : D 62 14 = 0) {T : Nat} (hT8 : T ≤ 8) : x_M X l yX12_among cX12_among 3 (some .int) 2 0 0 [.ref (x_b X + 62), .int (xI (T : Int))] false N sh D (.inl (some (.int (xI (m_vl (r_plc b n T q) (tV b n q)))))) false N sh (mps b n (r_plc b n T q) D) := by
  have s62 := md_62 hM
  have n62 : 62 < N := md_n hM (by decide)
  obtain ⟨ht, hqn, g18, g20, g19, g21, g22, g23, g24⟩ := id hg
  obtain ⟨t1, t2, t3⟩ := id ht
  obtain ⟨e0, e1, e2⟩ := tE_in (b := b) hqn
  have hki := tK_in (b := b) (n := n) (q := q)
  obtain ⟨s0, s1, s2, s3, s4, s5⟩ := m_so_w (b := b) (n := n) (q := q)
  obtain ⟨r0, hr⟩ : ∃ r, r_plc b n T q = r := ⟨_, rfl⟩
  rw [hr]
  rcases r0 with z | z
  · obtain ⟨k1, k2⟩ := r_plc_i hr
    have hfin : mps b n (Sum.inl z : Rs Int) D (mwf z.1 (tS b n q : Nat) D) := by
      have h9 := mfa_w (b := b) (n := n) (q := q) (w := z.1) (D := D)
      show mfa b n D z _
      rw [show z = (z.1, q) by rw [← k1]]
      exact h9
    refine x_ofW (by decide +kernel) hl (by simp [Value.category]) (by simp) ?_
    refine x_aload_n dX12_among_0 x_get_3_0 ?_
    refine x_iload_n dX12_among_1 x_get_3_1 ?_
    refine x_callV (As := [_]) dX12_among_2 w_12_186 (m_hereN hl hM hg h14 hT8 hr) (by assumption) (by assumption) rfl rfl (Nat.le_of_ble_eq_true rfl) (Nat.le_of_ble_eq_true rfl) (Nat.le_of_ble_eq_true rfl) (Nat.le_of_ble_eq_true rfl) (Nat.le_of_ble_eq_true rfl) ?_
    intro d hd
    obtain rfl := Eq.symm hd
    refine r_if_eq (t := 15) dX12_among_5 rfl ⟨by omega, by omega⟩ (fun hc5 => ?_) (fun hc5 => absurd hc5 (by omega))
    refine x_iconst dX12_among_15 ?_
    refine x_istore_n dX12_among_16 (Nat.le_of_ble_eq_true rfl) rfl x_set_3_2 ?_
    refine x_aload_n dX12_among_17 x_get_3_0 ?_
    refine x_callV (As := []) dX12_among_18 w_12_176 (m_goodF hl hM mwf_14 k2) (by assumption) (by assumption) rfl rfl (Nat.le_of_ble_eq_true rfl) (Nat.le_of_ble_eq_true rfl) (Nat.le_of_ble_eq_true rfl) (Nat.le_of_ble_eq_true rfl) (Nat.le_of_ble_eq_true rfl) ?_
    intro d hd
    obtain rfl := Eq.symm hd
    refine r_if_eq (t := 28) dX12_among_21 rfl ⟨by omega, by omega⟩ (fun hc21 => ?_) (fun hc21 => absurd hc21 (by omega))
    refine x_iload_n dX12_among_28 x_get_3_2 ?_
    exact x_iret dX12_among_29 rfl (Nat.le_of_ble_eq_true rfl) (Nat.le_of_ble_eq_true rfl) rfl rfl rfl hfin rfl
  · obtain ⟨k1, k2⟩ := r_plc_v hr
    have v1 := g22 k2.1 k2.2.1
    have e3 : z.2 = tE b n q := by
      unfold r_plc at hr
      rw [if_pos k2.1, if_neg k2.2.1, if_pos k2.2.2] at hr
      cases hr; rfl
    refine x_ofW (by decide +kernel) hl (by simp [Value.category]) (by simp) ?_
    refine x_aload_n dX12_among_0 x_get_3_0 ?_
    refine x_iload_n dX12_among_1 x_get_3_1 ?_
    refine x_callV (As := [_]) dX12_among_2 w_12_186 (m_hereT hl hM hg h14 hT8 k2) (by assumption) (by assumption) rfl rfl (Nat.le_of_ble_eq_true rfl) (Nat.le_of_ble_eq_true rfl) (Nat.le_of_ble_eq_true rfl) (Nat.le_of_ble_eq_true rfl) (Nat.le_of_ble_eq_true rfl) ?_
    intro d hd
    obtain rfl := Eq.symm hd
    refine r_if_eq (t := 15) dX12_among_5 rfl ⟨by omega, by omega⟩ (fun hc5 => absurd hc5 (by omega)) (fun hc5 => ?_)
    refine x_aload_n dX12_among_8 x_get_3_0 ?_
    refine x_getI 22 dX12_among_9 fX_12_144 rfl n62 s62 (by rfl) ?_
    try simp (disch := decide) only [x_up_s, x_up_n, x_up_up, x_u1_s, x_u1_n, v1]
    refine x_goto (t := 16) dX12_among_12 rfl ?_
    refine x_istore_n dX12_among_16 (Nat.le_of_ble_eq_true rfl) rfl x_set_3_2 ?_
    refine x_aload_n dX12_among_17 x_get_3_0 ?_
    refine x_callV (As := []) dX12_among_18 w_12_176 (m_good hl hM h14) (by assumption) (by assumption) rfl rfl (Nat.le_of_ble_eq_true rfl) (Nat.le_of_ble_eq_true rfl) (Nat.le_of_ble_eq_true rfl) (Nat.le_of_ble_eq_true rfl) (Nat.le_of_ble_eq_true rfl) ?_
    intro d hd
    obtain rfl := Eq.symm hd
    refine r_if_eq (t := 28) dX12_among_21 rfl ⟨by omega, by omega⟩ (fun hc21 => absurd hc21 (by omega)) (fun hc21 => ?_)
    refine x_aload_n dX12_among_24 x_get_3_0 ?_
    refine x_callV (As := []) dX12_among_25 w_12_180 (m_goes hl hM ht e2 g18) (by assumption) (by assumption) rfl rfl (Nat.le_of_ble_eq_true rfl) (Nat.le_of_ble_eq_true rfl) (Nat.le_of_ble_eq_true rfl) (Nat.le_of_ble_eq_true rfl) (Nat.le_of_ble_eq_true rfl) ?_
    intro d1 hd1
    rw [← e3] at hd1
    refine x_iload_n dX12_among_28 x_get_3_2 ?_
    exact x_iret dX12_among_29 rfl (Nat.le_of_ble_eq_true rfl) (Nat.le_of_ble_eq_true rfl) rfl rfl rfl hd1 rfl
theorem m_amongF {X : xC} {l : Launch} (hl : l.stackTraces = false) {N : Nat} {sh : xS} {D : xM} (hM : is_Md N sh) {k : Int} (h14 : D 62 14 = k) (hk : 1 ≤ k ∧ k ≤ 5) {w : Int} : x_M X l yX12_among cX12_among 3 (some .int) 2 0 0 [.ref (x_b X + 62), .int (xI w)] false N sh D (.inl (some (.int (xI (0))))) false N sh (x_is (D)) := by
  have s62 := md_62 hM
  have n62 : 62 < N := md_n hM (by decide)
  refine x_ofW (by decide +kernel) hl (by simp [Value.category]) (by simp) ?_
  refine x_aload_n dX12_among_0 x_get_3_0 ?_
  refine x_iload_n dX12_among_1 x_get_3_1 ?_
  refine x_callV (As := [_]) dX12_among_2 w_12_186 (m_hereF hl hM h14 hk) (by assumption) (by assumption) rfl rfl (Nat.le_of_ble_eq_true rfl) (Nat.le_of_ble_eq_true rfl) (Nat.le_of_ble_eq_true rfl) (Nat.le_of_ble_eq_true rfl) (Nat.le_of_ble_eq_true rfl) ?_
  intro d hd
  obtain rfl := Eq.symm hd
  refine r_if_eq (t := 15) dX12_among_5 rfl ⟨by omega, by omega⟩ (fun hc5 => ?_) (fun hc5 => absurd hc5 (by omega))
  refine x_iconst dX12_among_15 ?_
  refine x_istore_n dX12_among_16 (Nat.le_of_ble_eq_true rfl) rfl x_set_3_2 ?_
  refine x_aload_n dX12_among_17 x_get_3_0 ?_
  refine x_callV (As := []) dX12_among_18 w_12_176 (m_goodF hl hM h14 hk) (by assumption) (by assumption) rfl rfl (Nat.le_of_ble_eq_true rfl) (Nat.le_of_ble_eq_true rfl) (Nat.le_of_ble_eq_true rfl) (Nat.le_of_ble_eq_true rfl) (Nat.le_of_ble_eq_true rfl) ?_
  intro d hd
  obtain rfl := Eq.symm hd
  refine r_if_eq (t := 28) dX12_among_21 rfl ⟨by omega, by omega⟩ (fun hc21 => ?_) (fun hc21 => absurd hc21 (by omega))
  refine x_iload_n dX12_among_28 x_get_3_2 ?_
  exact x_iret dX12_among_29 rfl (Nat.le_of_ble_eq_true rfl) (Nat.le_of_ble_eq_true rfl) rfl rfl rfl rfl rfl
end M9995
