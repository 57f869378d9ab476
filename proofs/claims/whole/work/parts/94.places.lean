section C94
/-! ===== Reader: places, values ===== -/
abbrev tW (b : Int → Int) (n q j : Nat) : Prop := tK b n q = 2 ∧ t_is b (tS b n q) (tE b n q) j
abbrev tL (b : Int → Int) (n q : Nat) : Prop := 4 < ((tE b n q : Nat) : Int) - (tS b n q : Nat)
def r_vs (b : Int → Int) (n q : Nat) : Int := if tW b n q 8 then -1 else if tW b n q 9 then -2 else if tW b n q 10 then -3 else if tW b n q 11 then -4 else if tW b n q 12 then -5 else if tW b n q 13 then -6 else -16
theorem w_5_144 : x_cv RX5 144 yX5_isKnownPlace cX5_isKnownPlace 1 (some .boolean) 5 0 := ⟨⟨_, rfl, rfl⟩, (x_in 782 (by decide +kernel) rfl), (x_in 783 (by decide +kernel) rfl), (x_in 784 (by decide +kernel) rfl), (x_in 81 (by decide +kernel) rfl), (x_in 785 (by decide +kernel) rfl), by decide, ⟨by decide +kernel, by decide +kernel, by decide +kernel⟩⟩
theorem w_5_88 : x_cv RX5 88 yX5_isWord cX5_isWord 3 (some .boolean) 5 1 := ⟨⟨_, rfl, rfl⟩, (x_in 705 (by decide +kernel) rfl), (x_in 706 (by decide +kernel) rfl), (x_in 707 (by decide +kernel) rfl), (x_in 81 (by decide +kernel) rfl), (x_in 708 (by decide +kernel) rfl), by decide, ⟨by decide +kernel, by decide +kernel, by decide +kernel⟩⟩
theorem r5_isKnown {X : xC} {l : Launch} (hl : l.stackTraces = false) {N : Nat} {sh : xS} {D : xM} {lb n q : Nat} (hR : is_Rd N sh lb) (hs : rs D n q) (hL : is_L N sh lb) {T : Nat} (hT : D lb 0 = T) (hT8 : T ≤ 8) : x_M X l yX5_isKnownPlace cX5_isKnownPlace 1 (some .boolean) 1 0 0 [.ref (x_b X + 1)] false N sh D (.inl (some (.int (xI (x_B (tK (D 2) n q = 3 ∧ ¬ tL (D 2) n q ∧ tV (D 2) n q < T)))))) false N sh (x_is (D)) := by
  obtain ⟨ht, hqn, hs2, hs3, hs4, hs5⟩ := id hs
  obtain ⟨e0, e1, e2⟩ := tE_in (b := D 2) hqn
  have hki := tK_in (b := D 2) (n := n) (q := q)
  have hpos := tK_pos (b := D 2) (n := n) (q := q)
  obtain ⟨hRN, x1, x2⟩ := id hR
  have n1 : 1 < N := by omega
  have n2 : 2 < N := hRN
  obtain ⟨ht1, ht7, htb⟩ := id ht
  have xl := hL.2.1
  have nl : lb < N := by have := hL.1; omega
  by_cases h3 : tK (D 2) n q = 3
  · have m5 := hs5 h3
    have m6 := tV_in h3
    refine x_ofW (by decide +kernel) hl (by simp [Value.category]) (by simp) ?_
    refine x_aload_n dX5_isKnownPlace_0 x_get_1_0 ?_
    refine x_getI 4 dX5_isKnownPlace_1 fX_5_25 rfl (by assumption) (by assumption) (by rfl) ?_
    first | rw [hs4] | rw [m5] | rw [hT]
    refine x_iconst dX5_isKnownPlace_4 ?_
    refine r_icmp_ne (t := 33) dX5_isKnownPlace_5 rfl ⟨by omega, by omega⟩ ⟨by omega, by omega⟩ (fun hc5 => absurd hc5 (by omega)) (fun hc5 => ?_)
    refine x_aload_n dX5_isKnownPlace_8 x_get_1_0 ?_
    refine x_callV (As := []) dX5_isKnownPlace_9 w_5_70 (r5_isTooLong hl hR hs) (by assumption) (by assumption) rfl rfl (Nat.le_of_ble_eq_true rfl) (Nat.le_of_ble_eq_true rfl) (Nat.le_of_ble_eq_true rfl) (Nat.le_of_ble_eq_true rfl) (Nat.le_of_ble_eq_true rfl) ?_
    intro d hd
    obtain rfl := Eq.symm hd
    refine b_ifne (t := 33) dX5_isKnownPlace_12 rfl (fun hc12 => ?_) (fun hc12 => ?_)
    · refine x_iconst dX5_isKnownPlace_33 ?_
      exact x_zret dX5_isKnownPlace_34 rfl (by omega) (Nat.le_of_ble_eq_true rfl) (Nat.le_of_ble_eq_true rfl) (by first | (rw [x_B, if_pos ⟨h3, hc12, by omega⟩]; done) | (rw [x_B, if_neg (fun h => absurd h.2.2 (by omega))]; done) | (rw [x_B, if_neg (fun h => h.2.1 hc12)]; done)) rfl rfl rfl rfl
    · refine x_aload_n dX5_isKnownPlace_15 x_get_1_0 ?_
      refine x_getI 5 dX5_isKnownPlace_16 fX_5_28 rfl (by assumption) (by assumption) (by rfl) ?_
      first | rw [hs4] | rw [m5] | rw [hT]
      refine x_aload_n dX5_isKnownPlace_19 x_get_1_0 ?_
      refine x_getR dX5_isKnownPlace_20 fX_5_37 (by assumption) (by assumption) (by rfl) ?_
      refine x_getI 0 dX5_isKnownPlace_23 fX_5_121 rfl (by assumption) (by assumption) (by rfl) ?_
      first | rw [hs4] | rw [m5] | rw [hT]
      refine r_icmp_ge (t := 33) dX5_isKnownPlace_26 rfl ⟨by omega, by omega⟩ ⟨by omega, by omega⟩ (fun hc26 => ?_) (fun hc26 => ?_)
      · refine x_iconst dX5_isKnownPlace_33 ?_
        exact x_zret dX5_isKnownPlace_34 rfl (by omega) (Nat.le_of_ble_eq_true rfl) (Nat.le_of_ble_eq_true rfl) (by first | (rw [x_B, if_pos ⟨h3, hc12, by omega⟩]; done) | (rw [x_B, if_neg (fun h => absurd h.2.2 (by omega))]; done) | (rw [x_B, if_neg (fun h => h.2.1 hc12)]; done)) rfl rfl rfl rfl
      · refine x_iconst dX5_isKnownPlace_29 ?_
        refine x_goto (t := 34) dX5_isKnownPlace_30 rfl ?_
        exact x_zret dX5_isKnownPlace_34 rfl (by omega) (Nat.le_of_ble_eq_true rfl) (Nat.le_of_ble_eq_true rfl) (by first | (rw [x_B, if_pos ⟨h3, hc12, by omega⟩]; done) | (rw [x_B, if_neg (fun h => absurd h.2.2 (by omega))]; done) | (rw [x_B, if_neg (fun h => h.2.1 hc12)]; done)) rfl rfl rfl rfl
  · refine x_ofW (by decide +kernel) hl (by simp [Value.category]) (by simp) ?_
    refine x_aload_n dX5_isKnownPlace_0 x_get_1_0 ?_
    refine x_getI 4 dX5_isKnownPlace_1 fX_5_25 rfl (by assumption) (by assumption) (by rfl) ?_
    rw [hs4]
    refine x_iconst dX5_isKnownPlace_4 ?_
    refine r_icmp_ne (t := 33) dX5_isKnownPlace_5 rfl ⟨by omega, by omega⟩ ⟨by omega, by omega⟩ (fun hc5 => ?_) (fun hc5 => absurd hc5 (by omega))
    refine x_iconst dX5_isKnownPlace_33 ?_
    exact x_zret dX5_isKnownPlace_34 rfl (by omega) (Nat.le_of_ble_eq_true rfl) (Nat.le_of_ble_eq_true rfl) (by rw [x_B, if_neg (fun h => h3 h.1)]) rfl rfl rfl rfl
theorem r5_readPlaceT {X : xC} {l : Launch} (hl : l.stackTraces = false) {N : Nat} {sh : xS} {D : xM} {lb n q : Nat} (hR : is_Rd N sh lb) (hs : rs D n q) (hL : is_L N sh lb) {T : Nat} (hT : D lb 0 = T) (hT8 : T ≤ 8) (hm : tK (D 2) n q = 3 ∧ ¬ tL (D 2) n q ∧ tV (D 2) n q < T) : x_M X l yX5_readPlace cX5_readPlace 1 (some .boolean) 2 0 0 [.ref (x_b X + 1)] false N sh D (.inl (some (.int (xI (1))))) false N sh (fun d => rs d n (tE (D 2) n q) ∧ r1 D d ∧ d 1 6 = tV (D 2) n q) := by
  obtain ⟨ht, hqn, hs2, hs3, hs4, hs5⟩ := id hs
  obtain ⟨e0, e1, e2⟩ := tE_in (b := D 2) hqn
  have hki := tK_in (b := D 2) (n := n) (q := q)
  have hpos := tK_pos (b := D 2) (n := n) (q := q)
  obtain ⟨hRN, x1, x2⟩ := id hR
  have n1 : 1 < N := by omega
  have n2 : 2 < N := hRN
  obtain ⟨ht1, ht7, htb⟩ := id ht
  have m5 := hs5 hm.1
  have ht3 : tx (x_up D 1 (x_u1 (D 1) 6 (tV (D 2) n q))) n := ⟨by rw [x_up_s, x_u1_n (by decide)]; exact ht.1, ht.2.1, by rw [x_up_n (by decide)]; exact ht.2.2⟩
  have hs33 : (x_up D 1 (x_u1 (D 1) 6 (tV (D 2) n q))) 1 3 = (tE (D 2) n q : Nat) := by rw [x_up_s, x_u1_n (by decide)]; exact hs3
  refine x_ofW (by decide +kernel) hl (by simp [Value.category]) (by simp) ?_
  refine x_aload_n dX5_readPlace_0 x_get_1_0 ?_
  refine x_callV (As := []) dX5_readPlace_1 w_5_144 (r5_isKnown hl hR hs hL hT hT8) (by assumption) (by assumption) rfl rfl (Nat.le_of_ble_eq_true rfl) (Nat.le_of_ble_eq_true rfl) (Nat.le_of_ble_eq_true rfl) (Nat.le_of_ble_eq_true rfl) (Nat.le_of_ble_eq_true rfl) ?_
  intro d hd
  obtain rfl := Eq.symm hd
  refine b_ifeq (t := 21) dX5_readPlace_4 rfl (fun hc4 => absurd hc4 (fun hh => hh hm)) (fun hc4 => ?_)
  refine x_aload_n dX5_readPlace_7 x_get_1_0 ?_
  refine x_aload_n dX5_readPlace_8 x_get_1_0 ?_
  refine x_getI 5 dX5_readPlace_9 fX_5_28 rfl (by assumption) (by assumption) (by rfl) ?_
  rw [m5]
  refine x_putI 6 dX5_readPlace_12 fX_5_31 rfl tX_5_6 (by assumption) (by assumption) (by rfl) ?_
  refine x_aload_n dX5_readPlace_15 x_get_1_0 ?_
  refine x_callV (As := []) dX5_readPlace_16 w_5_56 (c5_advance hl hR ht3 hs33 e2) (by assumption) (by assumption) rfl rfl (Nat.le_of_ble_eq_true rfl) (Nat.le_of_ble_eq_true rfl) (Nat.le_of_ble_eq_true rfl) (Nat.le_of_ble_eq_true rfl) (Nat.le_of_ble_eq_true rfl) ?_
  intro d1 hd1
  obtain ⟨g1, g2, g3⟩ := ad_rs ht3 e2 hd1
  rw [x_up_s, x_u1_s] at g3
  have g4 : r1 D d1 := ⟨fun j hj => by rw [g2.1 j hj, x_up_n hj], fun i hi => by rw [g2.2 i hi, x_up_s, x_u1_n (by omega)]⟩
  refine x_iconst dX5_readPlace_19 ?_
  exact x_zret dX5_readPlace_20 rfl (by omega) (Nat.le_of_ble_eq_true rfl) (Nat.le_of_ble_eq_true rfl) rfl rfl rfl ⟨g1, g4, g3⟩ rfl
theorem r5_readPlaceF1 {X : xC} {l : Launch} (hl : l.stackTraces = false) {N : Nat} {sh : xS} {D : xM} {lb n q : Nat} (hR : is_Rd N sh lb) (hs : rs D n q) (hL : is_L N sh lb) {T : Nat} (hT : D lb 0 = T) (hT8 : T ≤ 8) (hm : ¬ tK (D 2) n q = 3) : x_M X l yX5_readPlace cX5_readPlace 1 (some .boolean) 2 0 0 [.ref (x_b X + 1)] false N sh D (.inl (some (.int (xI (0))))) false N sh (x_is (r_fl 1 n q D)) := by
  obtain ⟨ht, hqn, hs2, hs3, hs4, hs5⟩ := id hs
  obtain ⟨e0, e1, e2⟩ := tE_in (b := D 2) hqn
  have hki := tK_in (b := D 2) (n := n) (q := q)
  have hpos := tK_pos (b := D 2) (n := n) (q := q)
  obtain ⟨hRN, x1, x2⟩ := id hR
  have n1 : 1 < N := by omega
  have n2 : 2 < N := hRN
  obtain ⟨ht1, ht7, htb⟩ := id ht
  refine x_ofW (by decide +kernel) hl (by simp [Value.category]) (by simp) ?_
  refine x_aload_n dX5_readPlace_0 x_get_1_0 ?_
  refine x_callV (As := []) dX5_readPlace_1 w_5_144 (r5_isKnown hl hR hs hL hT hT8) (by assumption) (by assumption) rfl rfl (Nat.le_of_ble_eq_true rfl) (Nat.le_of_ble_eq_true rfl) (Nat.le_of_ble_eq_true rfl) (Nat.le_of_ble_eq_true rfl) (Nat.le_of_ble_eq_true rfl) ?_
  intro d hd
  obtain rfl := Eq.symm hd
  refine b_ifeq (t := 21) dX5_readPlace_4 rfl (fun hc4 => ?_) (fun hc4 => absurd hc4 (fun hh => hm hh.1))
  refine x_aload_n dX5_readPlace_21 x_get_1_0 ?_
  refine x_getI 4 dX5_readPlace_22 fX_5_25 rfl (by assumption) (by assumption) (by rfl) ?_
  rw [hs4]
  refine x_iconst dX5_readPlace_25 ?_
  refine r_icmp_eq (t := 35) dX5_readPlace_26 rfl ⟨by omega, by omega⟩ ⟨by omega, by omega⟩ (fun hc26 => absurd hc26 (by omega)) (fun hc26 => ?_)
  refine x_aload_n dX5_readPlace_29 x_get_1_0 ?_
  refine x_iconst dX5_readPlace_30 ?_
  refine x_callV (As := [_]) dX5_readPlace_31 w_5_113 (r5_fail hl hR hs) (by assumption) (by assumption) rfl rfl (Nat.le_of_ble_eq_true rfl) (Nat.le_of_ble_eq_true rfl) (Nat.le_of_ble_eq_true rfl) (Nat.le_of_ble_eq_true rfl) (Nat.le_of_ble_eq_true rfl) ?_
  intro d hd
  obtain rfl := Eq.symm hd
  exact x_zret dX5_readPlace_34 rfl (by omega) (Nat.le_of_ble_eq_true rfl) (Nat.le_of_ble_eq_true rfl) rfl rfl rfl rfl rfl
theorem r5_readPlaceF2 {X : xC} {l : Launch} (hl : l.stackTraces = false) {N : Nat} {sh : xS} {D : xM} {lb n q : Nat} (hR : is_Rd N sh lb) (hs : rs D n q) (hL : is_L N sh lb) {T : Nat} (hT : D lb 0 = T) (hT8 : T ≤ 8) (h3 : tK (D 2) n q = 3) (hm : tL (D 2) n q) : x_M X l yX5_readPlace cX5_readPlace 1 (some .boolean) 2 0 0 [.ref (x_b X + 1)] false N sh D (.inl (some (.int (xI (0))))) false N sh (x_is (r_fl 2 n q D)) := by
  obtain ⟨ht, hqn, hs2, hs3, hs4, hs5⟩ := id hs
  obtain ⟨e0, e1, e2⟩ := tE_in (b := D 2) hqn
  have hki := tK_in (b := D 2) (n := n) (q := q)
  have hpos := tK_pos (b := D 2) (n := n) (q := q)
  obtain ⟨hRN, x1, x2⟩ := id hR
  have n1 : 1 < N := by omega
  have n2 : 2 < N := hRN
  obtain ⟨ht1, ht7, htb⟩ := id ht
  refine x_ofW (by decide +kernel) hl (by simp [Value.category]) (by simp) ?_
  refine x_aload_n dX5_readPlace_0 x_get_1_0 ?_
  refine x_callV (As := []) dX5_readPlace_1 w_5_144 (r5_isKnown hl hR hs hL hT hT8) (by assumption) (by assumption) rfl rfl (Nat.le_of_ble_eq_true rfl) (Nat.le_of_ble_eq_true rfl) (Nat.le_of_ble_eq_true rfl) (Nat.le_of_ble_eq_true rfl) (Nat.le_of_ble_eq_true rfl) ?_
  intro d hd
  obtain rfl := Eq.symm hd
  refine b_ifeq (t := 21) dX5_readPlace_4 rfl (fun hc4 => ?_) (fun hc4 => absurd hc4 (fun hh => hh.2.1 hm))
  refine x_aload_n dX5_readPlace_21 x_get_1_0 ?_
  refine x_getI 4 dX5_readPlace_22 fX_5_25 rfl (by assumption) (by assumption) (by rfl) ?_
  rw [hs4]
  refine x_iconst dX5_readPlace_25 ?_
  refine r_icmp_eq (t := 35) dX5_readPlace_26 rfl ⟨by omega, by omega⟩ ⟨by omega, by omega⟩ (fun hc26 => ?_) (fun hc26 => absurd hc26 (by omega))
  refine x_aload_n dX5_readPlace_35 x_get_1_0 ?_
  refine x_aload_n dX5_readPlace_36 x_get_1_0 ?_
  refine x_callV (As := []) dX5_readPlace_37 w_5_70 (r5_isTooLong hl hR hs) (by assumption) (by assumption) rfl rfl (Nat.le_of_ble_eq_true rfl) (Nat.le_of_ble_eq_true rfl) (Nat.le_of_ble_eq_true rfl) (Nat.le_of_ble_eq_true rfl) (Nat.le_of_ble_eq_true rfl) ?_
  intro d hd
  obtain rfl := Eq.symm hd
  refine b_ifeq (t := 47) dX5_readPlace_40 rfl (fun hc40 => absurd hc40 (fun hh => hh hm)) (fun hc40 => ?_)
  refine x_iconst dX5_readPlace_43 ?_
  refine x_goto (t := 48) dX5_readPlace_44 rfl ?_
  refine x_callV (As := [_]) dX5_readPlace_48 w_5_113 (r5_fail hl hR hs) (by assumption) (by assumption) rfl rfl (Nat.le_of_ble_eq_true rfl) (Nat.le_of_ble_eq_true rfl) (Nat.le_of_ble_eq_true rfl) (Nat.le_of_ble_eq_true rfl) (Nat.le_of_ble_eq_true rfl) ?_
  intro d hd
  obtain rfl := Eq.symm hd
  exact x_zret dX5_readPlace_51 rfl (by omega) (Nat.le_of_ble_eq_true rfl) (Nat.le_of_ble_eq_true rfl) rfl rfl rfl rfl rfl
theorem r5_readPlaceF3 {X : xC} {l : Launch} (hl : l.stackTraces = false) {N : Nat} {sh : xS} {D : xM} {lb n q : Nat} (hR : is_Rd N sh lb) (hs : rs D n q) (hL : is_L N sh lb) {T : Nat} (hT : D lb 0 = T) (hT8 : T ≤ 8) (h3 : tK (D 2) n q = 3) (hm2 : ¬ tL (D 2) n q) (hm : ¬ tV (D 2) n q < T) : x_M X l yX5_readPlace cX5_readPlace 1 (some .boolean) 2 0 0 [.ref (x_b X + 1)] false N sh D (.inl (some (.int (xI (0))))) false N sh (x_is (r_fl 3 n q D)) := by
  obtain ⟨ht, hqn, hs2, hs3, hs4, hs5⟩ := id hs
  obtain ⟨e0, e1, e2⟩ := tE_in (b := D 2) hqn
  have hki := tK_in (b := D 2) (n := n) (q := q)
  have hpos := tK_pos (b := D 2) (n := n) (q := q)
  obtain ⟨hRN, x1, x2⟩ := id hR
  have n1 : 1 < N := by omega
  have n2 : 2 < N := hRN
  obtain ⟨ht1, ht7, htb⟩ := id ht
  refine x_ofW (by decide +kernel) hl (by simp [Value.category]) (by simp) ?_
  refine x_aload_n dX5_readPlace_0 x_get_1_0 ?_
  refine x_callV (As := []) dX5_readPlace_1 w_5_144 (r5_isKnown hl hR hs hL hT hT8) (by assumption) (by assumption) rfl rfl (Nat.le_of_ble_eq_true rfl) (Nat.le_of_ble_eq_true rfl) (Nat.le_of_ble_eq_true rfl) (Nat.le_of_ble_eq_true rfl) (Nat.le_of_ble_eq_true rfl) ?_
  intro d hd
  obtain rfl := Eq.symm hd
  refine b_ifeq (t := 21) dX5_readPlace_4 rfl (fun hc4 => ?_) (fun hc4 => absurd hc4 (fun hh => hm hh.2.2))
  refine x_aload_n dX5_readPlace_21 x_get_1_0 ?_
  refine x_getI 4 dX5_readPlace_22 fX_5_25 rfl (by assumption) (by assumption) (by rfl) ?_
  rw [hs4]
  refine x_iconst dX5_readPlace_25 ?_
  refine r_icmp_eq (t := 35) dX5_readPlace_26 rfl ⟨by omega, by omega⟩ ⟨by omega, by omega⟩ (fun hc26 => ?_) (fun hc26 => absurd hc26 (by omega))
  refine x_aload_n dX5_readPlace_35 x_get_1_0 ?_
  refine x_aload_n dX5_readPlace_36 x_get_1_0 ?_
  refine x_callV (As := []) dX5_readPlace_37 w_5_70 (r5_isTooLong hl hR hs) (by assumption) (by assumption) rfl rfl (Nat.le_of_ble_eq_true rfl) (Nat.le_of_ble_eq_true rfl) (Nat.le_of_ble_eq_true rfl) (Nat.le_of_ble_eq_true rfl) (Nat.le_of_ble_eq_true rfl) ?_
  intro d hd
  obtain rfl := Eq.symm hd
  refine b_ifeq (t := 47) dX5_readPlace_40 rfl (fun hc40 => ?_) (fun hc40 => absurd hc40 (hm2))
  refine x_iconst dX5_readPlace_47 ?_
  refine x_callV (As := [_]) dX5_readPlace_48 w_5_113 (r5_fail hl hR hs) (by assumption) (by assumption) rfl rfl (Nat.le_of_ble_eq_true rfl) (Nat.le_of_ble_eq_true rfl) (Nat.le_of_ble_eq_true rfl) (Nat.le_of_ble_eq_true rfl) (Nat.le_of_ble_eq_true rfl) ?_
  intro d hd
  obtain rfl := Eq.symm hd
  exact x_zret dX5_readPlace_51 rfl (by omega) (Nat.le_of_ble_eq_true rfl) (Nat.le_of_ble_eq_true rfl) rfl rfl rfl rfl rfl
theorem r5_valueStep {X : xC} {l : Launch} (hl : l.stackTraces = false) {N : Nat} {sh : xS} {D : xM} {lb n q : Nat} (hR : is_Rd N sh lb) (hs : rs D n q) : x_M X l yX5_valueStep cX5_valueStep 1 (some .int) 5 0 0 [.ref (x_b X + 1)] false N sh D (.inl (some (.int (xI (r_vs (D 2) n q))))) false N sh (x_is (D)) := by
  obtain ⟨ht, hqn, hs2, hs3, hs4, hs5⟩ := id hs
  obtain ⟨e0, e1, e2⟩ := tE_in (b := D 2) hqn
  have hki := tK_in (b := D 2) (n := n) (q := q)
  have hpos := tK_pos (b := D 2) (n := n) (q := q)
  obtain ⟨hRN, x1, x2⟩ := id hR
  have n1 : 1 < N := by omega
  have n2 : 2 < N := hRN
  obtain ⟨ht1, ht7, htb⟩ := id ht
  refine x_ofW (by decide +kernel) hl (by simp [Value.category]) (by simp) ?_
  refine x_aload_n dX5_valueStep_0 x_get_1_0 ?_
  refine x_ldcS (j := 8) dX5_valueStep_1 (by decide) rfl rfl ?_
  refine x_callV (As := [_]) dX5_valueStep_3 w_5_88 (r5_isWord hl hR hs (j := 8) (by decide) (by decide)) (by assumption) (by assumption) rfl rfl (Nat.le_of_ble_eq_true rfl) (Nat.le_of_ble_eq_true rfl) (Nat.le_of_ble_eq_true rfl) (Nat.le_of_ble_eq_true rfl) (Nat.le_of_ble_eq_true rfl) ?_
  intro d hd
  obtain rfl := Eq.symm hd
  refine b_ifeq (t := 11) dX5_valueStep_6 rfl (fun hc6 => ?_) (fun hc6 => ?_)
  · refine x_aload_n dX5_valueStep_11 x_get_1_0 ?_
    refine x_ldcS (j := 9) dX5_valueStep_12 (by decide) rfl rfl ?_
    refine x_callV (As := [_]) dX5_valueStep_14 w_5_88 (r5_isWord hl hR hs (j := 9) (by decide) (by decide)) (by assumption) (by assumption) rfl rfl (Nat.le_of_ble_eq_true rfl) (Nat.le_of_ble_eq_true rfl) (Nat.le_of_ble_eq_true rfl) (Nat.le_of_ble_eq_true rfl) (Nat.le_of_ble_eq_true rfl) ?_
    intro d hd
    obtain rfl := Eq.symm hd
    refine b_ifeq (t := 23) dX5_valueStep_17 rfl (fun hc17 => ?_) (fun hc17 => ?_)
    · refine x_aload_n dX5_valueStep_23 x_get_1_0 ?_
      refine x_ldcS (j := 10) dX5_valueStep_24 (by decide) rfl rfl ?_
      refine x_callV (As := [_]) dX5_valueStep_26 w_5_88 (r5_isWord hl hR hs (j := 10) (by decide) (by decide)) (by assumption) (by assumption) rfl rfl (Nat.le_of_ble_eq_true rfl) (Nat.le_of_ble_eq_true rfl) (Nat.le_of_ble_eq_true rfl) (Nat.le_of_ble_eq_true rfl) (Nat.le_of_ble_eq_true rfl) ?_
      intro d hd
      obtain rfl := Eq.symm hd
      refine b_ifeq (t := 35) dX5_valueStep_29 rfl (fun hc29 => ?_) (fun hc29 => ?_)
      · refine x_aload_n dX5_valueStep_35 x_get_1_0 ?_
        refine x_ldcS (j := 11) dX5_valueStep_36 (by decide) rfl rfl ?_
        refine x_callV (As := [_]) dX5_valueStep_38 w_5_88 (r5_isWord hl hR hs (j := 11) (by decide) (by decide)) (by assumption) (by assumption) rfl rfl (Nat.le_of_ble_eq_true rfl) (Nat.le_of_ble_eq_true rfl) (Nat.le_of_ble_eq_true rfl) (Nat.le_of_ble_eq_true rfl) (Nat.le_of_ble_eq_true rfl) ?_
        intro d hd
        obtain rfl := Eq.symm hd
        refine b_ifeq (t := 47) dX5_valueStep_41 rfl (fun hc41 => ?_) (fun hc41 => ?_)
        · refine x_aload_n dX5_valueStep_47 x_get_1_0 ?_
          refine x_ldcS (j := 12) dX5_valueStep_48 (by decide) rfl rfl ?_
          refine x_callV (As := [_]) dX5_valueStep_50 w_5_88 (r5_isWord hl hR hs (j := 12) (by decide) (by decide)) (by assumption) (by assumption) rfl rfl (Nat.le_of_ble_eq_true rfl) (Nat.le_of_ble_eq_true rfl) (Nat.le_of_ble_eq_true rfl) (Nat.le_of_ble_eq_true rfl) (Nat.le_of_ble_eq_true rfl) ?_
          intro d hd
          obtain rfl := Eq.symm hd
          refine b_ifeq (t := 59) dX5_valueStep_53 rfl (fun hc53 => ?_) (fun hc53 => ?_)
          · refine x_aload_n dX5_valueStep_59 x_get_1_0 ?_
            refine x_ldcS (j := 13) dX5_valueStep_60 (by decide) rfl rfl ?_
            refine x_callV (As := [_]) dX5_valueStep_62 w_5_88 (r5_isWord hl hR hs (j := 13) (by decide) (by decide)) (by assumption) (by assumption) rfl rfl (Nat.le_of_ble_eq_true rfl) (Nat.le_of_ble_eq_true rfl) (Nat.le_of_ble_eq_true rfl) (Nat.le_of_ble_eq_true rfl) (Nat.le_of_ble_eq_true rfl) ?_
            intro d hd
            obtain rfl := Eq.symm hd
            refine b_ifeq (t := 73) dX5_valueStep_65 rfl (fun hc65 => ?_) (fun hc65 => ?_)
            · refine x_bipush dX5_valueStep_73 rfl ?_
              exact x_iret dX5_valueStep_75 rfl (Nat.le_of_ble_eq_true rfl) (Nat.le_of_ble_eq_true rfl) (by first | (unfold r_vs; rw [if_neg hc6, if_neg hc17, if_neg hc29, if_neg hc41, if_neg hc53, if_pos hc65]; done) | (unfold r_vs; rw [if_neg hc6, if_neg hc17, if_neg hc29, if_neg hc41, if_neg hc53, if_neg hc65]; done)) rfl rfl rfl rfl
            · refine x_bipush dX5_valueStep_68 rfl ?_
              refine x_goto (t := 75) dX5_valueStep_70 rfl ?_
              exact x_iret dX5_valueStep_75 rfl (Nat.le_of_ble_eq_true rfl) (Nat.le_of_ble_eq_true rfl) (by first | (unfold r_vs; rw [if_neg hc6, if_neg hc17, if_neg hc29, if_neg hc41, if_neg hc53, if_pos hc65]; done) | (unfold r_vs; rw [if_neg hc6, if_neg hc17, if_neg hc29, if_neg hc41, if_neg hc53, if_neg hc65]; done)) rfl rfl rfl rfl
          · refine x_bipush dX5_valueStep_56 rfl ?_
            exact x_iret dX5_valueStep_58 rfl (Nat.le_of_ble_eq_true rfl) (Nat.le_of_ble_eq_true rfl) (by unfold r_vs; rw [if_neg hc6, if_neg hc17, if_neg hc29, if_neg hc41, if_pos hc53]) rfl rfl rfl rfl
        · refine x_bipush dX5_valueStep_44 rfl ?_
          exact x_iret dX5_valueStep_46 rfl (Nat.le_of_ble_eq_true rfl) (Nat.le_of_ble_eq_true rfl) (by unfold r_vs; rw [if_neg hc6, if_neg hc17, if_neg hc29, if_pos hc41]) rfl rfl rfl rfl
      · refine x_bipush dX5_valueStep_32 rfl ?_
        exact x_iret dX5_valueStep_34 rfl (Nat.le_of_ble_eq_true rfl) (Nat.le_of_ble_eq_true rfl) (by unfold r_vs; rw [if_neg hc6, if_neg hc17, if_pos hc29]) rfl rfl rfl rfl
    · refine x_bipush dX5_valueStep_20 rfl ?_
      exact x_iret dX5_valueStep_22 rfl (Nat.le_of_ble_eq_true rfl) (Nat.le_of_ble_eq_true rfl) (by unfold r_vs; rw [if_neg hc6, if_pos hc17]) rfl rfl rfl rfl
  · refine x_iconst dX5_valueStep_9 ?_
    exact x_iret dX5_valueStep_10 rfl (Nat.le_of_ble_eq_true rfl) (Nat.le_of_ble_eq_true rfl) (by unfold r_vs; rw [if_pos hc6]) rfl rfl rfl rfl
end C94
