section C93
/-! ===== where the Reader stands ===== -/
abbrev tS (b : Int → Int) (n q : Nat) : Nat := t_st b n q
abbrev tE (b : Int → Int) (n q : Nat) : Nat := t_en b n (t_st b n q)
abbrev tK (b : Int → Int) (n q : Nat) : Int := t_kd b n (t_st b n q)
abbrev tV (b : Int → Int) (n q : Nat) : Int := t_nm b (tS b n q) (tE b n q - tS b n q)
def rs (D : xM) (n q : Nat) : Prop := tx D n ∧ q ≤ n ∧ D 1 2 = (tS (D 2) n q : Nat) ∧ D 1 3 = (tE (D 2) n q : Nat) ∧ D 1 4 = tK (D 2) n q ∧ (tK (D 2) n q = 3 → D 1 5 = tV (D 2) n q)
theorem tE_in {b : Int → Int} {n q : Nat} (h : q ≤ n) : q ≤ tS b n q ∧ tS b n q ≤ tE b n q ∧ tE b n q ≤ n := by
  have h1 := t_st_in (b := b) h
  have h2 := t_en_in (b := b) h1.2
  unfold tS tE
  omega
theorem tK_in {b : Int → Int} {n q : Nat} : 0 ≤ tK b n q ∧ tK b n q ≤ 4 := by
  unfold tK t_kd
  repeat' split
  all_goals omega
theorem tK_pos {b : Int → Int} {n q : Nat} (h : ¬ tK b n q = 0) : tS b n q < n := by
  unfold tK t_kd at h
  unfold tS
  by_cases h1 : n ≤ t_st b n q
  · rw [if_pos h1] at h; exact absurd rfl h
  · omega
theorem tE_up {b : Int → Int} {n q : Nat} (hq : q ≤ n) (h : ¬ tK b n q = 0) : q < tE b n q := by
  have h1 := tK_pos h
  have h2 := t_en_up (b := b) h1
  have h3 := t_st_in (b := b) hq
  unfold tE
  unfold tS at h1 h2
  omega
theorem t_nm_p {b : Int → Int} {s : Nat} : ∀ k : Nat, k ≤ 5 → (∀ i : Nat, i < k → b_dg (b ((s : Int) + i))) → 0 ≤ t_nm b s k ∧ t_nm b s k < 10 ^ k
  | 0, _, _ => ⟨Int.le_refl _, by show (0 : Int) < 10 ^ 0; decide⟩
  | k + 1, hk, h => by
    have ih := t_nm_p (b := b) (s := s) k (by omega) (fun i hi => h i (by omega))
    have h1 := h k (by omega)
    unfold b_dg at h1
    rw [t_nm_s, if_neg (by omega), Int.pow_succ]
    generalize (10 : Int) ^ k = w at ih ⊢
    omega
theorem t_nm_in {b : Int → Int} {s : Nat} : ∀ k : Nat, (∀ i : Nat, i < k → b_dg (b ((s : Int) + i))) → 0 ≤ t_nm b s k ∧ t_nm b s k < 100000
  | 0, _ => ⟨Int.le_refl _, by show (0 : Int) < 100000; decide⟩
  | k + 1, h => by
    by_cases hk : k + 1 ≤ 5
    · have h1 := t_nm_p (b := b) (s := s) (k + 1) hk h
      have h2 : (10 : Int) ^ (k + 1) ≤ 10 ^ 5 := by
        have h3 : 10 ^ (k + 1) ≤ 10 ^ 5 := Nat.pow_le_pow_right (by decide) hk
        exact_mod_cast h3
      have h4 : (10 : Int) ^ 5 = 100000 := by decide
      omega
    · rw [t_nm_s, if_pos (by omega)]
      exact t_nm_in k (fun i hi => h i (by omega))
theorem tV_in {b : Int → Int} {n q : Nat} (h : tK b n q = 3) : 0 ≤ tV b n q ∧ tV b n q < 100000 := by
  refine t_nm_in _ (fun i hi => ?_)
  have h1 := tK_pos (b := b) (n := n) (q := q) (by rw [h]; decide)
  have h2 : tE b n q = t_run b_dg b (n - tS b n q) (tS b n q) := by
    unfold tK t_kd at h
    unfold tE t_en
    unfold tS at h1 ⊢
    rw [if_neg (by omega)] at h ⊢
    by_cases a1 : b_lt (b (t_st b n q))
    · rw [if_pos a1] at h; exact absurd h (by decide)
    · rw [if_neg a1] at h ⊢
      by_cases a2 : b_dg (b (t_st b n q))
      · rw [if_pos a2]
      · rw [if_neg a2] at h
        split at h
        · exact absurd h (by decide)
        · exact absurd h (by decide)
  have := t_run_all (P := b_dg) (b := b) (n - tS b n q) (tS b n q) (tS b n q + i) (by omega) (by rw [← h2]; omega)
  rw [show ((tS b n q + i : Nat) : Int) = ((tS b n q : Nat) : Int) + i by push_cast; rfl] at this
  exact this
/-- what stays: all but the Reader's own numbers -/
def r1 (D d : xM) : Prop := (∀ j, j ≠ 1 → d j = D j) ∧ (∀ i, i < 2 ∨ 6 < i → d 1 i = D 1 i)
theorem r1_rf {D : xM} : r1 D D := ⟨fun _ _ => rfl, fun _ _ => rfl⟩
theorem r1_tr {D d e : xM} (h : r1 D d) (h2 : r1 d e) : r1 D e := ⟨fun j a => by rw [h2.1 j a]; exact h.1 j a, fun i a => by rw [h2.2 i a]; exact h.2 i a⟩
theorem ad_rs {D d : xM} {n q : Nat} (ht : tx D n) (hq : q ≤ n) (h : t_ad n q D d) : rs d n q ∧ r1 D d ∧ d 1 6 = D 1 6 := by
  obtain ⟨h1, h2, h3, h4, h5, h6⟩ := h
  have e2 : d 2 = D 2 := h1 2 (by decide)
  unfold rs tx tS tE tK tV tE tS
  rw [e2]
  exact ⟨⟨⟨by rw [h6 1 (by decide)]; exact ht.1, ht.2⟩, hq, h2, h3, h4, h5⟩, ⟨h1, fun i hi => h6 i (by omega)⟩, h6 6 (by decide)⟩
/-- the fault -/
abbrev r_fl (w : Int) (n q : Nat) (D : xM) : xM := x_up D 1 (x_u1 (x_u1 (D 1) 8 w) 9 (tS (D 2) n q : Nat))
theorem w_5_113 : x_cv RX5 113 yX5_fail cX5_fail 2 (some .boolean) 5 1 := ⟨⟨_, rfl, rfl⟩, (x_in 761 (by decide +kernel) rfl), (x_in 762 (by decide +kernel) rfl), (x_in 763 (by decide +kernel) rfl), (x_in 81 (by decide +kernel) rfl), (x_in 764 (by decide +kernel) rfl), by decide, ⟨by decide +kernel, by decide +kernel, by decide +kernel⟩⟩
theorem w_5_175 : x_cv RX5 175 yX5_isMark cX5_isMark 2 (some .boolean) 5 1 := ⟨⟨_, rfl, rfl⟩, (x_in 822 (by decide +kernel) rfl), (x_in 823 (by decide +kernel) rfl), (x_in 824 (by decide +kernel) rfl), (x_in 81 (by decide +kernel) rfl), (x_in 825 (by decide +kernel) rfl), by decide, ⟨by decide +kernel, by decide +kernel, by decide +kernel⟩⟩
theorem w_5_56 : x_cv RX5 56 yX5_advance cX5_advance 1 (none) 5 0 := ⟨⟨_, rfl, rfl⟩, (x_in 683 (by decide +kernel) rfl), (x_in 684 (by decide +kernel) rfl), (x_in 685 (by decide +kernel) rfl), (x_in 81 (by decide +kernel) rfl), (x_in 686 (by decide +kernel) rfl), by decide, ⟨by decide +kernel, by decide +kernel, by decide +kernel⟩⟩
theorem r5_isMark {X : xC} {l : Launch} (hl : l.stackTraces = false) {N : Nat} {sh : xS} {D : xM} {lb n q : Nat} (hR : is_Rd N sh lb) (hs : rs D n q) {c : Int} (hc : x_r c) : x_M X l yX5_isMark cX5_isMark 2 (some .boolean) 0 0 0 [.ref (x_b X + 1), .int (xI c)] false N sh D (.inl (some (.int (xI (x_B (tK (D 2) n q = 4 ∧ D 2 (tS (D 2) n q : Nat) = c)))))) false N sh (x_is (D)) := by
  obtain ⟨ht, hqn, hs2, hs3, hs4, hs5⟩ := id hs
  obtain ⟨e0, e1, e2⟩ := tE_in (b := D 2) hqn
  have hki := tK_in (b := D 2) (n := n) (q := q)
  have hpos := tK_pos (b := D 2) (n := n) (q := q)
  obtain ⟨hRN, x1, x2⟩ := id hR
  have n1 : 1 < N := by omega
  have n2 : 2 < N := hRN
  obtain ⟨ht1, ht7, htb⟩ := id ht
  exact c5_isMark hl hR ht hs2 hs4 (by omega) (fun h => hpos (by omega)) ⟨by omega, by omega⟩ hc
theorem r5_isTooLong {X : xC} {l : Launch} (hl : l.stackTraces = false) {N : Nat} {sh : xS} {D : xM} {lb n q : Nat} (hR : is_Rd N sh lb) (hs : rs D n q) : x_M X l yX5_isTooLong cX5_isTooLong 1 (some .boolean) 0 0 0 [.ref (x_b X + 1)] false N sh D (.inl (some (.int (xI (x_B (4 < ((tE (D 2) n q : Nat) : Int) - (tS (D 2) n q : Nat))))))) false N sh (x_is (D)) := by
  obtain ⟨ht, hqn, hs2, hs3, hs4, hs5⟩ := id hs
  obtain ⟨e0, e1, e2⟩ := tE_in (b := D 2) hqn
  have hki := tK_in (b := D 2) (n := n) (q := q)
  have hpos := tK_pos (b := D 2) (n := n) (q := q)
  obtain ⟨hRN, x1, x2⟩ := id hR
  have n1 : 1 < N := by omega
  have n2 : 2 < N := hRN
  obtain ⟨ht1, ht7, htb⟩ := id ht
  exact c5_isTooLong hl hR ht hs2 hs3 (by omega) (by omega)
theorem r5_isWord {X : xC} {l : Launch} (hl : l.stackTraces = false) {N : Nat} {sh : xS} {D : xM} {lb n q : Nat} (hR : is_Rd N sh lb) (hs : rs D n q) {j : Nat} (h1 : 1 ≤ j) (h2 : j ≤ 15) : x_M X l yX5_isWord cX5_isWord 3 (some .boolean) 4 0 0 [.ref (x_b X + 1), .ref (x_k X j)] false N sh D (.inl (some (.int (xI (x_B (tK (D 2) n q = 2 ∧ t_is (D 2) (tS (D 2) n q) (tE (D 2) n q) j)))))) false N sh (x_is (D)) := by
  obtain ⟨ht, hqn, hs2, hs3, hs4, hs5⟩ := id hs
  obtain ⟨e0, e1, e2⟩ := tE_in (b := D 2) hqn
  have hki := tK_in (b := D 2) (n := n) (q := q)
  have hpos := tK_pos (b := D 2) (n := n) (q := q)
  obtain ⟨hRN, x1, x2⟩ := id hR
  have n1 : 1 < N := by omega
  have n2 : 2 < N := hRN
  obtain ⟨ht1, ht7, htb⟩ := id ht
  exact c5_isWord hl hR ht h1 h2 hs2 hs3 hs4 e1 e2 ⟨by omega, by omega⟩
theorem r5_fail {X : xC} {l : Launch} (hl : l.stackTraces = false) {N : Nat} {sh : xS} {D : xM} {lb n q : Nat} (hR : is_Rd N sh lb) (hs : rs D n q) {w : Int} : x_M X l yX5_fail cX5_fail 2 (some .boolean) 0 0 0 [.ref (x_b X + 1), .int (xI w)] false N sh D (.inl (some (.int (xI (0))))) false N sh (x_is (r_fl w n q D)) := by
  obtain ⟨ht, hqn, hs2, hs3, hs4, hs5⟩ := id hs
  obtain ⟨e0, e1, e2⟩ := tE_in (b := D 2) hqn
  have hki := tK_in (b := D 2) (n := n) (q := q)
  have hpos := tK_pos (b := D 2) (n := n) (q := q)
  obtain ⟨hRN, x1, x2⟩ := id hR
  have n1 : 1 < N := by omega
  have n2 : 2 < N := hRN
  obtain ⟨ht1, ht7, htb⟩ := id ht
  have h := c5_fail (X := X) hl hR ht (w := w)
  rw [hs2] at h
  exact h
theorem r5_readSignT {X : xC} {l : Launch} (hl : l.stackTraces = false) {N : Nat} {sh : xS} {D : xM} {lb n q : Nat} (hR : is_Rd N sh lb) (hs : rs D n q) {c : Int} (hc : x_r c) (hm : tK (D 2) n q = 4 ∧ D 2 (tS (D 2) n q : Nat) = c) : x_M X l yX5_readSign cX5_readSign 2 (some .boolean) 2 0 0 [.ref (x_b X + 1), .int (xI c)] false N sh D (.inl (some (.int (xI (1))))) false N sh (fun d => rs d n (tE (D 2) n q) ∧ r1 D d ∧ d 1 6 = D 1 6) := by
  obtain ⟨ht, hqn, hs2, hs3, hs4, hs5⟩ := id hs
  obtain ⟨e0, e1, e2⟩ := tE_in (b := D 2) hqn
  have hki := tK_in (b := D 2) (n := n) (q := q)
  have hpos := tK_pos (b := D 2) (n := n) (q := q)
  obtain ⟨hRN, x1, x2⟩ := id hR
  have n1 : 1 < N := by omega
  have n2 : 2 < N := hRN
  obtain ⟨ht1, ht7, htb⟩ := id ht
  refine x_ofW (by decide +kernel) hl (by simp [Value.category]) (by simp) ?_
  refine x_aload_n dX5_readSign_0 x_get_2_0 ?_
  refine x_iload_n dX5_readSign_1 x_get_2_1 ?_
  refine x_callV (As := [_]) dX5_readSign_2 w_5_175 (r5_isMark hl hR hs hc) (by assumption) (by assumption) rfl rfl (Nat.le_of_ble_eq_true rfl) (Nat.le_of_ble_eq_true rfl) (Nat.le_of_ble_eq_true rfl) (Nat.le_of_ble_eq_true rfl) (Nat.le_of_ble_eq_true rfl) ?_
  intro d hd
  obtain rfl := Eq.symm hd
  refine b_ifne (t := 14) dX5_readSign_5 rfl (fun hc5 => ?_) (fun hc5 => absurd hc5 (fun hh => hh hm))
  refine x_aload_n dX5_readSign_14 x_get_2_0 ?_
  refine x_callV (As := []) dX5_readSign_15 w_5_56 (c5_advance hl hR ht hs3 e2) (by assumption) (by assumption) rfl rfl (Nat.le_of_ble_eq_true rfl) (Nat.le_of_ble_eq_true rfl) (Nat.le_of_ble_eq_true rfl) (Nat.le_of_ble_eq_true rfl) (Nat.le_of_ble_eq_true rfl) ?_
  intro d1 hd1
  obtain ⟨g1, g2, g3⟩ := ad_rs ht e2 hd1
  refine x_iconst dX5_readSign_18 ?_
  exact x_zret dX5_readSign_19 rfl (by omega) (Nat.le_of_ble_eq_true rfl) (Nat.le_of_ble_eq_true rfl) rfl rfl rfl ⟨g1, g2, g3⟩ rfl
theorem r5_readSignF {X : xC} {l : Launch} (hl : l.stackTraces = false) {N : Nat} {sh : xS} {D : xM} {lb n q : Nat} (hR : is_Rd N sh lb) (hs : rs D n q) {c : Int} (hc : x_r c) (hm : ¬ (tK (D 2) n q = 4 ∧ D 2 (tS (D 2) n q : Nat) = c)) : x_M X l yX5_readSign cX5_readSign 2 (some .boolean) 2 0 0 [.ref (x_b X + 1), .int (xI c)] false N sh D (.inl (some (.int (xI (0))))) false N sh (x_is (r_fl 1 n q D)) := by
  obtain ⟨ht, hqn, hs2, hs3, hs4, hs5⟩ := id hs
  obtain ⟨e0, e1, e2⟩ := tE_in (b := D 2) hqn
  have hki := tK_in (b := D 2) (n := n) (q := q)
  have hpos := tK_pos (b := D 2) (n := n) (q := q)
  obtain ⟨hRN, x1, x2⟩ := id hR
  have n1 : 1 < N := by omega
  have n2 : 2 < N := hRN
  obtain ⟨ht1, ht7, htb⟩ := id ht
  refine x_ofW (by decide +kernel) hl (by simp [Value.category]) (by simp) ?_
  refine x_aload_n dX5_readSign_0 x_get_2_0 ?_
  refine x_iload_n dX5_readSign_1 x_get_2_1 ?_
  refine x_callV (As := [_]) dX5_readSign_2 w_5_175 (r5_isMark hl hR hs hc) (by assumption) (by assumption) rfl rfl (Nat.le_of_ble_eq_true rfl) (Nat.le_of_ble_eq_true rfl) (Nat.le_of_ble_eq_true rfl) (Nat.le_of_ble_eq_true rfl) (Nat.le_of_ble_eq_true rfl) ?_
  intro d hd
  obtain rfl := Eq.symm hd
  refine b_ifne (t := 14) dX5_readSign_5 rfl (fun hc5 => absurd hc5 (hm)) (fun hc5 => ?_)
  refine x_aload_n dX5_readSign_8 x_get_2_0 ?_
  refine x_iconst dX5_readSign_9 ?_
  refine x_callV (As := [_]) dX5_readSign_10 w_5_113 (r5_fail hl hR hs) (by assumption) (by assumption) rfl rfl (Nat.le_of_ble_eq_true rfl) (Nat.le_of_ble_eq_true rfl) (Nat.le_of_ble_eq_true rfl) (Nat.le_of_ble_eq_true rfl) (Nat.le_of_ble_eq_true rfl) ?_
  intro d hd
  obtain rfl := Eq.symm hd
  exact x_zret dX5_readSign_13 rfl (by omega) (Nat.le_of_ble_eq_true rfl) (Nat.le_of_ble_eq_true rfl) rfl rfl rfl rfl rfl
theorem r5_readNumberT {X : xC} {l : Launch} (hl : l.stackTraces = false) {N : Nat} {sh : xS} {D : xM} {lb n q : Nat} (hR : is_Rd N sh lb) (hs : rs D n q) {a b : Int} (ha : x_r a) (hb : x_r b) (hm : tK (D 2) n q = 3 ∧ ¬ 4 < ((tE (D 2) n q : Nat) : Int) - (tS (D 2) n q : Nat) ∧ a ≤ tV (D 2) n q ∧ tV (D 2) n q ≤ b) : x_M X l yX5_readNumber cX5_readNumber 3 (some .boolean) 2 0 0 [.ref (x_b X + 1), .int (xI a), .int (xI b)] false N sh D (.inl (some (.int (xI (1))))) false N sh (fun d => rs d n (tE (D 2) n q) ∧ r1 D d ∧ d 1 6 = tV (D 2) n q) := by
  obtain ⟨ht, hqn, hs2, hs3, hs4, hs5⟩ := id hs
  obtain ⟨e0, e1, e2⟩ := tE_in (b := D 2) hqn
  have hki := tK_in (b := D 2) (n := n) (q := q)
  have hpos := tK_pos (b := D 2) (n := n) (q := q)
  obtain ⟨hRN, x1, x2⟩ := id hR
  have n1 : 1 < N := by omega
  have n2 : 2 < N := hRN
  obtain ⟨ht1, ht7, htb⟩ := id ht
  obtain ⟨m1, m2, m3, m4⟩ := id hm
  obtain ⟨ha0, ha1⟩ := id ha
  obtain ⟨hb0, hb1⟩ := id hb
  have m5 := hs5 m1
  have m6 := tV_in m1
  have ht3 : tx (x_up D 1 (x_u1 (D 1) 6 (tV (D 2) n q))) n := ⟨by rw [x_up_s, x_u1_n (by decide)]; exact ht.1, ht.2.1, by rw [x_up_n (by decide)]; exact ht.2.2⟩
  have hs33 : (x_up D 1 (x_u1 (D 1) 6 (tV (D 2) n q))) 1 3 = (tE (D 2) n q : Nat) := by rw [x_up_s, x_u1_n (by decide)]; exact hs3
  refine x_ofW (by decide +kernel) hl (by simp [Value.category]) (by simp) ?_
  refine x_aload_n dX5_readNumber_0 x_get_3_0 ?_
  refine x_getI 4 dX5_readNumber_1 fX_5_25 rfl (by assumption) (by assumption) (by rfl) ?_
  first | rw [hs4] | rw [m5]
  refine x_iconst dX5_readNumber_4 ?_
  refine r_icmp_eq (t := 14) dX5_readNumber_5 rfl ⟨by omega, by omega⟩ ⟨by omega, by omega⟩ (fun hc5 => ?_) (fun hc5 => absurd hc5 (by omega))
  refine x_aload_n dX5_readNumber_14 x_get_3_0 ?_
  refine x_callV (As := []) dX5_readNumber_15 w_5_70 (r5_isTooLong hl hR hs) (by assumption) (by assumption) rfl rfl (Nat.le_of_ble_eq_true rfl) (Nat.le_of_ble_eq_true rfl) (Nat.le_of_ble_eq_true rfl) (Nat.le_of_ble_eq_true rfl) (Nat.le_of_ble_eq_true rfl) ?_
  intro d hd
  obtain rfl := Eq.symm hd
  refine b_ifne (t := 37) dX5_readNumber_18 rfl (fun hc18 => absurd hc18 (m2)) (fun hc18 => ?_)
  refine x_aload_n dX5_readNumber_21 x_get_3_0 ?_
  refine x_getI 5 dX5_readNumber_22 fX_5_28 rfl (by assumption) (by assumption) (by rfl) ?_
  first | rw [hs4] | rw [m5]
  refine x_iload_n dX5_readNumber_25 x_get_3_1 ?_
  refine r_icmp_lt (t := 37) dX5_readNumber_26 rfl ⟨by omega, by omega⟩ ⟨by omega, by omega⟩ (fun hc26 => absurd hc26 (by omega)) (fun hc26 => ?_)
  refine x_aload_n dX5_readNumber_29 x_get_3_0 ?_
  refine x_getI 5 dX5_readNumber_30 fX_5_28 rfl (by assumption) (by assumption) (by rfl) ?_
  first | rw [hs4] | rw [m5]
  refine x_iload_n dX5_readNumber_33 x_get_3_2 ?_
  refine r_icmp_le (t := 43) dX5_readNumber_34 rfl ⟨by omega, by omega⟩ ⟨by omega, by omega⟩ (fun hc34 => ?_) (fun hc34 => absurd hc34 (by omega))
  refine x_aload_n dX5_readNumber_43 x_get_3_0 ?_
  refine x_aload_n dX5_readNumber_44 x_get_3_0 ?_
  refine x_getI 5 dX5_readNumber_45 fX_5_28 rfl (by assumption) (by assumption) (by rfl) ?_
  first | rw [hs4] | rw [m5]
  refine x_putI 6 dX5_readNumber_48 fX_5_31 rfl tX_5_6 (by assumption) (by assumption) (by rfl) ?_
  refine x_aload_n dX5_readNumber_51 x_get_3_0 ?_
  refine x_callV (As := []) dX5_readNumber_52 w_5_56 (c5_advance hl hR ht3 hs33 e2) (by assumption) (by assumption) rfl rfl (Nat.le_of_ble_eq_true rfl) (Nat.le_of_ble_eq_true rfl) (Nat.le_of_ble_eq_true rfl) (Nat.le_of_ble_eq_true rfl) (Nat.le_of_ble_eq_true rfl) ?_
  intro d1 hd1
  obtain ⟨g1, g2, g3⟩ := ad_rs ht3 e2 hd1
  rw [x_up_s, x_u1_s] at g3
  have g4 : r1 D d1 := ⟨fun j hj => by rw [g2.1 j hj, x_up_n hj], fun i hi => by rw [g2.2 i hi, x_up_s, x_u1_n (by omega)]⟩
  refine x_iconst dX5_readNumber_55 ?_
  exact x_zret dX5_readNumber_56 rfl (by omega) (Nat.le_of_ble_eq_true rfl) (Nat.le_of_ble_eq_true rfl) rfl rfl rfl ⟨g1, g4, g3⟩ rfl
theorem r5_readNumberF1 {X : xC} {l : Launch} (hl : l.stackTraces = false) {N : Nat} {sh : xS} {D : xM} {lb n q : Nat} (hR : is_Rd N sh lb) (hs : rs D n q) {a b : Int} (ha : x_r a) (hb : x_r b) (hm : ¬ tK (D 2) n q = 3) : x_M X l yX5_readNumber cX5_readNumber 3 (some .boolean) 2 0 0 [.ref (x_b X + 1), .int (xI a), .int (xI b)] false N sh D (.inl (some (.int (xI (0))))) false N sh (x_is (r_fl 1 n q D)) := by
  obtain ⟨ht, hqn, hs2, hs3, hs4, hs5⟩ := id hs
  obtain ⟨e0, e1, e2⟩ := tE_in (b := D 2) hqn
  have hki := tK_in (b := D 2) (n := n) (q := q)
  have hpos := tK_pos (b := D 2) (n := n) (q := q)
  obtain ⟨hRN, x1, x2⟩ := id hR
  have n1 : 1 < N := by omega
  have n2 : 2 < N := hRN
  obtain ⟨ht1, ht7, htb⟩ := id ht
  refine x_ofW (by decide +kernel) hl (by simp [Value.category]) (by simp) ?_
  refine x_aload_n dX5_readNumber_0 x_get_3_0 ?_
  refine x_getI 4 dX5_readNumber_1 fX_5_25 rfl (by assumption) (by assumption) (by rfl) ?_
  rw [hs4]
  refine x_iconst dX5_readNumber_4 ?_
  refine r_icmp_eq (t := 14) dX5_readNumber_5 rfl ⟨by omega, by omega⟩ ⟨by omega, by omega⟩ (fun hc5 => absurd hc5 (by omega)) (fun hc5 => ?_)
  refine x_aload_n dX5_readNumber_8 x_get_3_0 ?_
  refine x_iconst dX5_readNumber_9 ?_
  refine x_callV (As := [_]) dX5_readNumber_10 w_5_113 (r5_fail hl hR hs) (by assumption) (by assumption) rfl rfl (Nat.le_of_ble_eq_true rfl) (Nat.le_of_ble_eq_true rfl) (Nat.le_of_ble_eq_true rfl) (Nat.le_of_ble_eq_true rfl) (Nat.le_of_ble_eq_true rfl) ?_
  intro d hd
  obtain rfl := Eq.symm hd
  exact x_zret dX5_readNumber_13 rfl (by omega) (Nat.le_of_ble_eq_true rfl) (Nat.le_of_ble_eq_true rfl) rfl rfl rfl rfl rfl
theorem r5_readNumberF2 {X : xC} {l : Launch} (hl : l.stackTraces = false) {N : Nat} {sh : xS} {D : xM} {lb n q : Nat} (hR : is_Rd N sh lb) (hs : rs D n q) {a b : Int} (ha : x_r a) (hb : x_r b) (h3 : tK (D 2) n q = 3) (hm : ¬ (tK (D 2) n q = 3 ∧ ¬ 4 < ((tE (D 2) n q : Nat) : Int) - (tS (D 2) n q : Nat) ∧ a ≤ tV (D 2) n q ∧ tV (D 2) n q ≤ b)) : x_M X l yX5_readNumber cX5_readNumber 3 (some .boolean) 2 0 0 [.ref (x_b X + 1), .int (xI a), .int (xI b)] false N sh D (.inl (some (.int (xI (0))))) false N sh (x_is (r_fl 2 n q D)) := by
  obtain ⟨ht, hqn, hs2, hs3, hs4, hs5⟩ := id hs
  obtain ⟨e0, e1, e2⟩ := tE_in (b := D 2) hqn
  have hki := tK_in (b := D 2) (n := n) (q := q)
  have hpos := tK_pos (b := D 2) (n := n) (q := q)
  obtain ⟨hRN, x1, x2⟩ := id hR
  have n1 : 1 < N := by omega
  have n2 : 2 < N := hRN
  obtain ⟨ht1, ht7, htb⟩ := id ht
  obtain ⟨ha0, ha1⟩ := id ha
  obtain ⟨hb0, hb1⟩ := id hb
  have m5 := hs5 h3
  have m6 := tV_in h3
  refine x_ofW (by decide +kernel) hl (by simp [Value.category]) (by simp) ?_
  refine x_aload_n dX5_readNumber_0 x_get_3_0 ?_
  refine x_getI 4 dX5_readNumber_1 fX_5_25 rfl (by assumption) (by assumption) (by rfl) ?_
  first | rw [hs4] | rw [m5]
  refine x_iconst dX5_readNumber_4 ?_
  refine r_icmp_eq (t := 14) dX5_readNumber_5 rfl ⟨by omega, by omega⟩ ⟨by omega, by omega⟩ (fun hc5 => ?_) (fun hc5 => absurd hc5 (by omega))
  refine x_aload_n dX5_readNumber_14 x_get_3_0 ?_
  refine x_callV (As := []) dX5_readNumber_15 w_5_70 (r5_isTooLong hl hR hs) (by assumption) (by assumption) rfl rfl (Nat.le_of_ble_eq_true rfl) (Nat.le_of_ble_eq_true rfl) (Nat.le_of_ble_eq_true rfl) (Nat.le_of_ble_eq_true rfl) (Nat.le_of_ble_eq_true rfl) ?_
  intro d hd
  obtain rfl := Eq.symm hd
  refine b_ifne (t := 37) dX5_readNumber_18 rfl (fun hc18 => ?_) (fun hc18 => ?_)
  · refine x_aload_n dX5_readNumber_37 x_get_3_0 ?_
    refine x_iconst dX5_readNumber_38 ?_
    refine x_callV (As := [_]) dX5_readNumber_39 w_5_113 (r5_fail hl hR hs) (by assumption) (by assumption) rfl rfl (Nat.le_of_ble_eq_true rfl) (Nat.le_of_ble_eq_true rfl) (Nat.le_of_ble_eq_true rfl) (Nat.le_of_ble_eq_true rfl) (Nat.le_of_ble_eq_true rfl) ?_
    intro d hd
    obtain rfl := Eq.symm hd
    exact x_zret dX5_readNumber_42 rfl (by omega) (Nat.le_of_ble_eq_true rfl) (Nat.le_of_ble_eq_true rfl) rfl rfl rfl rfl rfl
  · refine x_aload_n dX5_readNumber_21 x_get_3_0 ?_
    refine x_getI 5 dX5_readNumber_22 fX_5_28 rfl (by assumption) (by assumption) (by rfl) ?_
    first | rw [hs4] | rw [m5]
    refine x_iload_n dX5_readNumber_25 x_get_3_1 ?_
    refine r_icmp_lt (t := 37) dX5_readNumber_26 rfl ⟨by omega, by omega⟩ ⟨by omega, by omega⟩ (fun hc26 => ?_) (fun hc26 => ?_)
    · refine x_aload_n dX5_readNumber_37 x_get_3_0 ?_
      refine x_iconst dX5_readNumber_38 ?_
      refine x_callV (As := [_]) dX5_readNumber_39 w_5_113 (r5_fail hl hR hs) (by assumption) (by assumption) rfl rfl (Nat.le_of_ble_eq_true rfl) (Nat.le_of_ble_eq_true rfl) (Nat.le_of_ble_eq_true rfl) (Nat.le_of_ble_eq_true rfl) (Nat.le_of_ble_eq_true rfl) ?_
      intro d hd
      obtain rfl := Eq.symm hd
      exact x_zret dX5_readNumber_42 rfl (by omega) (Nat.le_of_ble_eq_true rfl) (Nat.le_of_ble_eq_true rfl) rfl rfl rfl rfl rfl
    · refine x_aload_n dX5_readNumber_29 x_get_3_0 ?_
      refine x_getI 5 dX5_readNumber_30 fX_5_28 rfl (by assumption) (by assumption) (by rfl) ?_
      first | rw [hs4] | rw [m5]
      refine x_iload_n dX5_readNumber_33 x_get_3_2 ?_
      refine r_icmp_le (t := 43) dX5_readNumber_34 rfl ⟨by omega, by omega⟩ ⟨by omega, by omega⟩ (fun hc34 => absurd hc34 (fun _ => hm ⟨h3, hc18, by omega, by omega⟩)) (fun hc34 => ?_)
      refine x_aload_n dX5_readNumber_37 x_get_3_0 ?_
      refine x_iconst dX5_readNumber_38 ?_
      refine x_callV (As := [_]) dX5_readNumber_39 w_5_113 (r5_fail hl hR hs) (by assumption) (by assumption) rfl rfl (Nat.le_of_ble_eq_true rfl) (Nat.le_of_ble_eq_true rfl) (Nat.le_of_ble_eq_true rfl) (Nat.le_of_ble_eq_true rfl) (Nat.le_of_ble_eq_true rfl) ?_
      intro d hd
      obtain rfl := Eq.symm hd
      exact x_zret dX5_readNumber_42 rfl (by omega) (Nat.le_of_ble_eq_true rfl) (Nat.le_of_ble_eq_true rfl) rfl rfl rfl rfl rfl
end C93
