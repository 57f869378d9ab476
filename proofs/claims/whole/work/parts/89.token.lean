section C89
/-! ===== the tape's tokens ===== -/
abbrev b_ws (z : Int) : Prop := z = 32 ∨ z = 10
abbrev b_lt (z : Int) : Prop := 97 ≤ z ∧ z ≤ 122
abbrev b_dg (z : Int) : Prop := 48 ≤ z ∧ z ≤ 57
abbrev b_sg (z : Int) : Prop := z = 59 ∨ z = 40 ∨ z = 41 ∨ z = 43 ∨ z = 45 ∨ z = 42 ∨ z = 47 ∨ z = 60 ∨ z = 61
def t_run (P : Int → Prop) [DecidablePred P] (b : Int → Int) : Nat → Nat → Nat
  | 0, p => p
  | k + 1, p => if P (b p) then t_run P b k (p + 1) else p
theorem t_run_y {P : Int → Prop} [DecidablePred P] {b : Int → Int} {n p : Nat} (h : p < n) (hp : P (b p)) : t_run P b (n - p) p = t_run P b (n - (p + 1)) (p + 1) := by
  obtain ⟨k, hk⟩ : ∃ k, n - p = k + 1 := ⟨n - p - 1, by omega⟩
  rw [hk, t_run, if_pos hp, show n - (p + 1) = k by omega]
theorem t_run_n {P : Int → Prop} [DecidablePred P] {b : Int → Int} {n p : Nat} (hp : ¬ P (b p)) : t_run P b (n - p) p = p := by
  cases n - p with
  | zero => rfl
  | succ k => rw [t_run, if_neg hp]
theorem t_run_e {P : Int → Prop} [DecidablePred P] {b : Int → Int} {n p : Nat} (h : n ≤ p) : t_run P b (n - p) p = p := by
  rw [show n - p = 0 by omega]
  rfl
theorem t_run_in {P : Int → Prop} [DecidablePred P] {b : Int → Int} : ∀ k p : Nat, p ≤ t_run P b k p ∧ t_run P b k p ≤ p + k
  | 0, p => ⟨Nat.le_refl _, Nat.le_refl _⟩
  | k + 1, p => by
    have := t_run_in (P := P) (b := b) k (p + 1)
    rw [t_run]
    split <;> omega
theorem t_run_all {P : Int → Prop} [DecidablePred P] {b : Int → Int} : ∀ k p i : Nat, p ≤ i → i < t_run P b k p → P (b i)
  | 0, p, i, h1, h2 => absurd h2 (by show ¬ i < p; omega)
  | k + 1, p, i, h1, h2 => by
    rw [t_run] at h2
    by_cases hp : P (b p)
    · rw [if_pos hp] at h2
      by_cases hi : i = p
      · subst hi; exact hp
      · exact t_run_all k (p + 1) i (by omega) h2
    · rw [if_neg hp] at h2
      omega
theorem t_run_cg {P : Int → Prop} [DecidablePred P] {b c : Int → Int} : ∀ k p : Nat, (∀ i : Nat, p ≤ i → i < p + k → (P (b i) ↔ P (c i))) → t_run P b k p = t_run P c k p
  | 0, _, _ => rfl
  | k + 1, p, h => by
    have h1 := h p (Nat.le_refl _) (by omega)
    rw [t_run, t_run, t_run_cg k (p + 1) (fun i a e => h i (by omega) (by omega))]
    by_cases hp : P (b p)
    · rw [if_pos hp, if_pos (h1.mp hp)]
    · rw [if_neg hp, if_neg (fun hh => hp (h1.mpr hh))]
abbrev t_st (b : Int → Int) (n q : Nat) : Nat := t_run b_ws b (n - q) q
def t_kd (b : Int → Int) (n s : Nat) : Int := if n ≤ s then 0 else if b_lt (b s) then 2 else if b_dg (b s) then 3 else if b_sg (b s) then 4 else 1
def t_en (b : Int → Int) (n s : Nat) : Nat := if n ≤ s then s else if b_lt (b s) then t_run b_lt b (n - s) s else if b_dg (b s) then t_run b_dg b (n - s) s else s + 1
def t_nm (b : Int → Int) (s : Nat) : Nat → Int
  | 0 => 0
  | k + 1 => if 4 < k then t_nm b s k else t_nm b s k * 10 + (b ((s : Int) + k) - 48)
theorem t_nm_s {b : Int → Int} {s k : Nat} : t_nm b s (k + 1) = if 4 < k then t_nm b s k else t_nm b s k * 10 + (b ((s : Int) + k) - 48) := rfl
theorem t_st_in {b : Int → Int} {n q : Nat} (h : q ≤ n) : q ≤ t_st b n q ∧ t_st b n q ≤ n := by
  have := t_run_in (P := b_ws) (b := b) (n - q) q
  unfold t_st
  omega
theorem t_en_in {b : Int → Int} {n s : Nat} (h : s ≤ n) : s ≤ t_en b n s ∧ t_en b n s ≤ n := by
  have h1 := t_run_in (P := b_lt) (b := b) (n - s) s
  have h2 := t_run_in (P := b_dg) (b := b) (n - s) s
  unfold t_en
  split
  · omega
  · split
    · omega
    · split <;> omega
theorem t_en_up {b : Int → Int} {n s : Nat} (h : s < n) : s < t_en b n s := by
  unfold t_en
  rw [if_neg (by omega)]
  by_cases h1 : b_lt (b s)
  · rw [if_pos h1, t_run_y h h1]
    have := t_run_in (P := b_lt) (b := b) (n - (s + 1)) (s + 1)
    omega
  · rw [if_neg h1]
    by_cases h2 : b_dg (b s)
    · rw [if_pos h2, t_run_y h h2]
      have := t_run_in (P := b_dg) (b := b) (n - (s + 1)) (s + 1)
      omega
    · rw [if_neg h2]
      omega
/-! the Reader -/
def is_Rd (N : Nat) (sh : xS) (lb : Nat) : Prop := 2 < N ∧ sh 1 = .inr (5, [2 + 3, 0, 0, 0, 0, 0, 0, lb + 3, 0, 0]) ∧ sh 2 = .inl (1, 700)
theorem is_X_rd {N : Nat} {sh : xS} {la lb : Nat} (h : is_X N sh la lb) : is_Rd N sh lb := ⟨by have := h.1; omega, h.2.2.1, h.2.2.2.1⟩
def tx (D : xM) (n : Nat) : Prop := D 1 1 = n ∧ n ≤ 700 ∧ ∀ j, -128 ≤ D 2 j ∧ D 2 j ≤ 127
def t_ad (n q : Nat) (D d : xM) : Prop := (∀ j, j ≠ 1 → d j = D j) ∧ d 1 2 = (t_st (D 2) n q : Nat) ∧ d 1 3 = (t_en (D 2) n (t_st (D 2) n q) : Nat) ∧ d 1 4 = t_kd (D 2) n (t_st (D 2) n q) ∧ (t_kd (D 2) n (t_st (D 2) n q) = 3 → d 1 5 = t_nm (D 2) (t_st (D 2) n q) (t_en (D 2) n (t_st (D 2) n q) - t_st (D 2) n q)) ∧ ∀ i, i < 2 ∨ 5 < i → d 1 i = D 1 i
theorem c5_isLetter {X : xC} {l : Launch} (hl : l.stackTraces = false) {N : Nat} {sh : xS} {D : xM} {z : Int} (hz : x_r z) : x_M X l yX5_isLetter cX5_isLetter 1 (some .boolean) 0 0 0 [.int (xI z)] false N sh D (.inl (some (.int (xI (x_B (b_lt z)))))) false N sh (x_is (D)) := by
  obtain ⟨hz0, hz1⟩ := id hz
  refine x_ofW (by decide +kernel) hl (by simp [Value.category]) (by simp) ?_
  refine x_iload_n dX5_isLetter_0 x_get_1_0 ?_
  refine x_bipush dX5_isLetter_1 rfl ?_
  refine r_icmp_lt (t := 16) dX5_isLetter_3 rfl ⟨by omega, by omega⟩ ⟨by omega, by omega⟩ (fun hc3 => ?_) (fun hc3 => ?_)
  · refine x_iconst dX5_isLetter_16 ?_
    exact x_zret dX5_isLetter_17 rfl (by omega) (Nat.le_of_ble_eq_true rfl) (Nat.le_of_ble_eq_true rfl) (by first | (rw [x_B, if_pos (by unfold b_lt; omega)]; done) | (rw [x_B, if_neg (by unfold b_lt; omega)]; done)) rfl rfl rfl rfl
  · refine x_iload_n dX5_isLetter_6 x_get_1_0 ?_
    refine x_bipush dX5_isLetter_7 rfl ?_
    refine r_icmp_gt (t := 16) dX5_isLetter_9 rfl ⟨by omega, by omega⟩ ⟨by omega, by omega⟩ (fun hc9 => ?_) (fun hc9 => ?_)
    · refine x_iconst dX5_isLetter_16 ?_
      exact x_zret dX5_isLetter_17 rfl (by omega) (Nat.le_of_ble_eq_true rfl) (Nat.le_of_ble_eq_true rfl) (by first | (rw [x_B, if_pos (by unfold b_lt; omega)]; done) | (rw [x_B, if_neg (by unfold b_lt; omega)]; done)) rfl rfl rfl rfl
    · refine x_iconst dX5_isLetter_12 ?_
      refine x_goto (t := 17) dX5_isLetter_13 rfl ?_
      exact x_zret dX5_isLetter_17 rfl (by omega) (Nat.le_of_ble_eq_true rfl) (Nat.le_of_ble_eq_true rfl) (by first | (rw [x_B, if_pos (by unfold b_lt; omega)]; done) | (rw [x_B, if_neg (by unfold b_lt; omega)]; done)) rfl rfl rfl rfl
theorem c5_isDigit {X : xC} {l : Launch} (hl : l.stackTraces = false) {N : Nat} {sh : xS} {D : xM} {z : Int} (hz : x_r z) : x_M X l yX5_isDigit cX5_isDigit 1 (some .boolean) 0 0 0 [.int (xI z)] false N sh D (.inl (some (.int (xI (x_B (b_dg z)))))) false N sh (x_is (D)) := by
  obtain ⟨hz0, hz1⟩ := id hz
  refine x_ofW (by decide +kernel) hl (by simp [Value.category]) (by simp) ?_
  refine x_iload_n dX5_isDigit_0 x_get_1_0 ?_
  refine x_bipush dX5_isDigit_1 rfl ?_
  refine r_icmp_lt (t := 16) dX5_isDigit_3 rfl ⟨by omega, by omega⟩ ⟨by omega, by omega⟩ (fun hc3 => ?_) (fun hc3 => ?_)
  · refine x_iconst dX5_isDigit_16 ?_
    exact x_zret dX5_isDigit_17 rfl (by omega) (Nat.le_of_ble_eq_true rfl) (Nat.le_of_ble_eq_true rfl) (by first | (rw [x_B, if_pos (by unfold b_dg; omega)]; done) | (rw [x_B, if_neg (by unfold b_dg; omega)]; done)) rfl rfl rfl rfl
  · refine x_iload_n dX5_isDigit_6 x_get_1_0 ?_
    refine x_bipush dX5_isDigit_7 rfl ?_
    refine r_icmp_gt (t := 16) dX5_isDigit_9 rfl ⟨by omega, by omega⟩ ⟨by omega, by omega⟩ (fun hc9 => ?_) (fun hc9 => ?_)
    · refine x_iconst dX5_isDigit_16 ?_
      exact x_zret dX5_isDigit_17 rfl (by omega) (Nat.le_of_ble_eq_true rfl) (Nat.le_of_ble_eq_true rfl) (by first | (rw [x_B, if_pos (by unfold b_dg; omega)]; done) | (rw [x_B, if_neg (by unfold b_dg; omega)]; done)) rfl rfl rfl rfl
    · refine x_iconst dX5_isDigit_12 ?_
      refine x_goto (t := 17) dX5_isDigit_13 rfl ?_
      exact x_zret dX5_isDigit_17 rfl (by omega) (Nat.le_of_ble_eq_true rfl) (Nat.le_of_ble_eq_true rfl) (by first | (rw [x_B, if_pos (by unfold b_dg; omega)]; done) | (rw [x_B, if_neg (by unfold b_dg; omega)]; done)) rfl rfl rfl rfl
theorem c5_isSign {X : xC} {l : Launch} (hl : l.stackTraces = false) {N : Nat} {sh : xS} {D : xM} {z : Int} (hz : x_r z) : x_M X l yX5_isSign cX5_isSign 1 (some .boolean) 0 0 0 [.int (xI z)] false N sh D (.inl (some (.int (xI (x_B (b_sg z)))))) false N sh (x_is (D)) := by
  obtain ⟨hz0, hz1⟩ := id hz
  refine x_ofW (by decide +kernel) hl (by simp [Value.category]) (by simp) ?_
  refine x_iload_n dX5_isSign_0 x_get_1_0 ?_
  refine x_bipush dX5_isSign_1 rfl ?_
  refine r_icmp_eq (t := 54) dX5_isSign_3 rfl ⟨by omega, by omega⟩ ⟨by omega, by omega⟩ (fun hc3 => ?_) (fun hc3 => ?_)
  · refine x_iconst dX5_isSign_54 ?_
    refine x_goto (t := 59) dX5_isSign_55 rfl ?_
    exact x_zret dX5_isSign_59 rfl (by omega) (Nat.le_of_ble_eq_true rfl) (Nat.le_of_ble_eq_true rfl) (by first | (rw [x_B, if_pos (by unfold b_sg; omega)]; done) | (rw [x_B, if_neg (by unfold b_sg; omega)]; done)) rfl rfl rfl rfl
  · refine x_iload_n dX5_isSign_6 x_get_1_0 ?_
    refine x_bipush dX5_isSign_7 rfl ?_
    refine r_icmp_eq (t := 54) dX5_isSign_9 rfl ⟨by omega, by omega⟩ ⟨by omega, by omega⟩ (fun hc9 => ?_) (fun hc9 => ?_)
    · refine x_iconst dX5_isSign_54 ?_
      refine x_goto (t := 59) dX5_isSign_55 rfl ?_
      exact x_zret dX5_isSign_59 rfl (by omega) (Nat.le_of_ble_eq_true rfl) (Nat.le_of_ble_eq_true rfl) (by first | (rw [x_B, if_pos (by unfold b_sg; omega)]; done) | (rw [x_B, if_neg (by unfold b_sg; omega)]; done)) rfl rfl rfl rfl
    · refine x_iload_n dX5_isSign_12 x_get_1_0 ?_
      refine x_bipush dX5_isSign_13 rfl ?_
      refine r_icmp_eq (t := 54) dX5_isSign_15 rfl ⟨by omega, by omega⟩ ⟨by omega, by omega⟩ (fun hc15 => ?_) (fun hc15 => ?_)
      · refine x_iconst dX5_isSign_54 ?_
        refine x_goto (t := 59) dX5_isSign_55 rfl ?_
        exact x_zret dX5_isSign_59 rfl (by omega) (Nat.le_of_ble_eq_true rfl) (Nat.le_of_ble_eq_true rfl) (by first | (rw [x_B, if_pos (by unfold b_sg; omega)]; done) | (rw [x_B, if_neg (by unfold b_sg; omega)]; done)) rfl rfl rfl rfl
      · refine x_iload_n dX5_isSign_18 x_get_1_0 ?_
        refine x_bipush dX5_isSign_19 rfl ?_
        refine r_icmp_eq (t := 54) dX5_isSign_21 rfl ⟨by omega, by omega⟩ ⟨by omega, by omega⟩ (fun hc21 => ?_) (fun hc21 => ?_)
        · refine x_iconst dX5_isSign_54 ?_
          refine x_goto (t := 59) dX5_isSign_55 rfl ?_
          exact x_zret dX5_isSign_59 rfl (by omega) (Nat.le_of_ble_eq_true rfl) (Nat.le_of_ble_eq_true rfl) (by first | (rw [x_B, if_pos (by unfold b_sg; omega)]; done) | (rw [x_B, if_neg (by unfold b_sg; omega)]; done)) rfl rfl rfl rfl
        · refine x_iload_n dX5_isSign_24 x_get_1_0 ?_
          refine x_bipush dX5_isSign_25 rfl ?_
          refine r_icmp_eq (t := 54) dX5_isSign_27 rfl ⟨by omega, by omega⟩ ⟨by omega, by omega⟩ (fun hc27 => ?_) (fun hc27 => ?_)
          · refine x_iconst dX5_isSign_54 ?_
            refine x_goto (t := 59) dX5_isSign_55 rfl ?_
            exact x_zret dX5_isSign_59 rfl (by omega) (Nat.le_of_ble_eq_true rfl) (Nat.le_of_ble_eq_true rfl) (by first | (rw [x_B, if_pos (by unfold b_sg; omega)]; done) | (rw [x_B, if_neg (by unfold b_sg; omega)]; done)) rfl rfl rfl rfl
          · refine x_iload_n dX5_isSign_30 x_get_1_0 ?_
            refine x_bipush dX5_isSign_31 rfl ?_
            refine r_icmp_eq (t := 54) dX5_isSign_33 rfl ⟨by omega, by omega⟩ ⟨by omega, by omega⟩ (fun hc33 => ?_) (fun hc33 => ?_)
            · refine x_iconst dX5_isSign_54 ?_
              refine x_goto (t := 59) dX5_isSign_55 rfl ?_
              exact x_zret dX5_isSign_59 rfl (by omega) (Nat.le_of_ble_eq_true rfl) (Nat.le_of_ble_eq_true rfl) (by first | (rw [x_B, if_pos (by unfold b_sg; omega)]; done) | (rw [x_B, if_neg (by unfold b_sg; omega)]; done)) rfl rfl rfl rfl
            · refine x_iload_n dX5_isSign_36 x_get_1_0 ?_
              refine x_bipush dX5_isSign_37 rfl ?_
              refine r_icmp_eq (t := 54) dX5_isSign_39 rfl ⟨by omega, by omega⟩ ⟨by omega, by omega⟩ (fun hc39 => ?_) (fun hc39 => ?_)
              · refine x_iconst dX5_isSign_54 ?_
                refine x_goto (t := 59) dX5_isSign_55 rfl ?_
                exact x_zret dX5_isSign_59 rfl (by omega) (Nat.le_of_ble_eq_true rfl) (Nat.le_of_ble_eq_true rfl) (by first | (rw [x_B, if_pos (by unfold b_sg; omega)]; done) | (rw [x_B, if_neg (by unfold b_sg; omega)]; done)) rfl rfl rfl rfl
              · refine x_iload_n dX5_isSign_42 x_get_1_0 ?_
                refine x_bipush dX5_isSign_43 rfl ?_
                refine r_icmp_eq (t := 54) dX5_isSign_45 rfl ⟨by omega, by omega⟩ ⟨by omega, by omega⟩ (fun hc45 => ?_) (fun hc45 => ?_)
                · refine x_iconst dX5_isSign_54 ?_
                  refine x_goto (t := 59) dX5_isSign_55 rfl ?_
                  exact x_zret dX5_isSign_59 rfl (by omega) (Nat.le_of_ble_eq_true rfl) (Nat.le_of_ble_eq_true rfl) (by first | (rw [x_B, if_pos (by unfold b_sg; omega)]; done) | (rw [x_B, if_neg (by unfold b_sg; omega)]; done)) rfl rfl rfl rfl
                · refine x_iload_n dX5_isSign_48 x_get_1_0 ?_
                  refine x_bipush dX5_isSign_49 rfl ?_
                  refine r_icmp_ne (t := 58) dX5_isSign_51 rfl ⟨by omega, by omega⟩ ⟨by omega, by omega⟩ (fun hc51 => ?_) (fun hc51 => ?_)
                  · refine x_iconst dX5_isSign_58 ?_
                    exact x_zret dX5_isSign_59 rfl (by omega) (Nat.le_of_ble_eq_true rfl) (Nat.le_of_ble_eq_true rfl) (by first | (rw [x_B, if_pos (by unfold b_sg; omega)]; done) | (rw [x_B, if_neg (by unfold b_sg; omega)]; done)) rfl rfl rfl rfl
                  · refine x_iconst dX5_isSign_54 ?_
                    refine x_goto (t := 59) dX5_isSign_55 rfl ?_
                    exact x_zret dX5_isSign_59 rfl (by omega) (Nat.le_of_ble_eq_true rfl) (Nat.le_of_ble_eq_true rfl) (by first | (rw [x_B, if_pos (by unfold b_sg; omega)]; done) | (rw [x_B, if_neg (by unfold b_sg; omega)]; done)) rfl rfl rfl rfl
theorem c5_isTooLong {X : xC} {l : Launch} (hl : l.stackTraces = false) {N : Nat} {sh : xS} {D : xM} {lb n : Nat} (hR : is_Rd N sh lb) (ht : tx D n) {s e : Nat} (hs : D 1 2 = s) (he : D 1 3 = e) (hs7 : s ≤ 700) (he7 : e ≤ 700) : x_M X l yX5_isTooLong cX5_isTooLong 1 (some .boolean) 0 0 0 [.ref (x_b X + 1)] false N sh D (.inl (some (.int (xI (x_B (4 < (e : Int) - s)))))) false N sh (x_is (D)) := by
  obtain ⟨hRN, x1, x2⟩ := id hR
  have n1 : 1 < N := by omega
  have n2 : 2 < N := hRN
  obtain ⟨ht1, ht7, htb⟩ := id ht
  refine x_ofW (by decide +kernel) hl (by simp [Value.category]) (by simp) ?_
  refine x_aload_n dX5_isTooLong_0 x_get_1_0 ?_
  refine x_getI 3 dX5_isTooLong_1 fX_5_22 rfl (by assumption) (by assumption) (by rfl) ?_
  first | rw [hs] | rw [he]
  refine x_aload_n dX5_isTooLong_4 x_get_1_0 ?_
  refine x_getI 2 dX5_isTooLong_5 fX_5_19 rfl (by assumption) (by assumption) (by rfl) ?_
  first | rw [hs] | rw [he]
  refine x_isub dX5_isTooLong_8 ?_
  refine x_iconst dX5_isTooLong_9 ?_
  refine r_icmp_le (t := 17) dX5_isTooLong_10 rfl ⟨by omega, by omega⟩ ⟨by omega, by omega⟩ (fun hc10 => ?_) (fun hc10 => ?_)
  · refine x_iconst dX5_isTooLong_17 ?_
    exact x_zret dX5_isTooLong_18 rfl (by omega) (Nat.le_of_ble_eq_true rfl) (Nat.le_of_ble_eq_true rfl) (by first | (rw [x_B, if_pos (by omega)]; done) | (rw [x_B, if_neg (by omega)]; done)) rfl rfl rfl rfl
  · refine x_iconst dX5_isTooLong_13 ?_
    refine x_goto (t := 18) dX5_isTooLong_14 rfl ?_
    exact x_zret dX5_isTooLong_18 rfl (by omega) (Nat.le_of_ble_eq_true rfl) (Nat.le_of_ble_eq_true rfl) (by first | (rw [x_B, if_pos (by omega)]; done) | (rw [x_B, if_neg (by omega)]; done)) rfl rfl rfl rfl
theorem c5_fail {X : xC} {l : Launch} (hl : l.stackTraces = false) {N : Nat} {sh : xS} {D : xM} {lb n : Nat} (hR : is_Rd N sh lb) (ht : tx D n) {w : Int} : x_M X l yX5_fail cX5_fail 2 (some .boolean) 0 0 0 [.ref (x_b X + 1), .int (xI w)] false N sh D (.inl (some (.int (xI (0))))) false N sh (x_is (x_up D 1 (x_u1 (x_u1 (D 1) 8 w) 9 (D 1 2)))) := by
  obtain ⟨hRN, x1, x2⟩ := id hR
  have n1 : 1 < N := by omega
  have n2 : 2 < N := hRN
  obtain ⟨ht1, ht7, htb⟩ := id ht
  refine x_ofW (by decide +kernel) hl (by simp [Value.category]) (by simp) ?_
  refine x_aload_n dX5_fail_0 x_get_2_0 ?_
  refine x_iload_n dX5_fail_1 x_get_2_1 ?_
  refine x_putI 8 dX5_fail_2 fX_5_41 rfl tX_5_8 (by assumption) (by assumption) (by rfl) ?_
  try simp (disch := decide) only [x_up_s, x_up_up, x_u1_n]
  refine x_aload_n dX5_fail_5 x_get_2_0 ?_
  refine x_aload_n dX5_fail_6 x_get_2_0 ?_
  refine x_getI 2 dX5_fail_7 fX_5_19 rfl (by assumption) (by assumption) (by rfl) ?_
  try simp (disch := decide) only [x_up_s, x_up_up, x_u1_n]
  refine x_putI 9 dX5_fail_10 fX_5_44 rfl tX_5_9 (by assumption) (by assumption) (by rfl) ?_
  try simp (disch := decide) only [x_up_s, x_up_up, x_u1_n]
  refine x_iconst dX5_fail_13 ?_
  exact x_zret dX5_fail_14 rfl (by omega) (Nat.le_of_ble_eq_true rfl) (Nat.le_of_ble_eq_true rfl) rfl rfl rfl rfl rfl
theorem c5_isMark {X : xC} {l : Launch} (hl : l.stackTraces = false) {N : Nat} {sh : xS} {D : xM} {lb n : Nat} (hR : is_Rd N sh lb) (ht : tx D n) {s : Nat} {k c : Int} (hs : D 1 2 = s) (hk : D 1 4 = k) (hs7 : s ≤ n) (hkn : k = 4 → s < n) (hkr : x_r k) (hc : x_r c) : x_M X l yX5_isMark cX5_isMark 2 (some .boolean) 0 0 0 [.ref (x_b X + 1), .int (xI c)] false N sh D (.inl (some (.int (xI (x_B (k = 4 ∧ D 2 s = c)))))) false N sh (x_is (D)) := by
  obtain ⟨hRN, x1, x2⟩ := id hR
  have n1 : 1 < N := by omega
  have n2 : 2 < N := hRN
  obtain ⟨ht1, ht7, htb⟩ := id ht
  obtain ⟨hkr0, hkr1⟩ := id hkr
  obtain ⟨hc0, hc1⟩ := id hc
  have hbs := htb (s : Int)
  refine x_ofW (by decide +kernel) hl (by simp [Value.category]) (by simp) ?_
  refine x_aload_n dX5_isMark_0 x_get_2_0 ?_
  refine x_getI 4 dX5_isMark_1 fX_5_25 rfl (by assumption) (by assumption) (by rfl) ?_
  first | rw [hs] | rw [hk]
  refine x_iconst dX5_isMark_4 ?_
  refine r_icmp_ne (t := 25) dX5_isMark_5 rfl ⟨by omega, by omega⟩ ⟨by omega, by omega⟩ (fun hc5 => ?_) (fun hc5 => ?_)
  · refine x_iconst dX5_isMark_25 ?_
    exact x_zret dX5_isMark_26 rfl (by omega) (Nat.le_of_ble_eq_true rfl) (Nat.le_of_ble_eq_true rfl) (by first | (rw [x_B, if_pos (by omega)]; done) | (rw [x_B, if_neg (by omega)]; done)) rfl rfl rfl rfl
  · refine x_aload_n dX5_isMark_8 x_get_2_0 ?_
    refine x_getR dX5_isMark_9 fX_5_9 (by assumption) (by assumption) (by rfl) ?_
    refine x_aload_n dX5_isMark_12 x_get_2_0 ?_
    refine x_getI 2 dX5_isMark_13 fX_5_19 rfl (by assumption) (by assumption) (by rfl) ?_
    first | rw [hs] | rw [hk]
    refine x_bald dX5_isMark_16 (by assumption) (by assumption) (by omega) (by omega) (by decide) ?_
    refine x_iload_n dX5_isMark_17 x_get_2_1 ?_
    refine r_icmp_ne (t := 25) dX5_isMark_18 rfl ⟨by omega, by omega⟩ ⟨by omega, by omega⟩ (fun hc18 => ?_) (fun hc18 => ?_)
    · refine x_iconst dX5_isMark_25 ?_
      exact x_zret dX5_isMark_26 rfl (by omega) (Nat.le_of_ble_eq_true rfl) (Nat.le_of_ble_eq_true rfl) (by first | (rw [x_B, if_pos (by omega)]; done) | (rw [x_B, if_neg (by omega)]; done)) rfl rfl rfl rfl
    · refine x_iconst dX5_isMark_21 ?_
      refine x_goto (t := 26) dX5_isMark_22 rfl ?_
      exact x_zret dX5_isMark_26 rfl (by omega) (Nat.le_of_ble_eq_true rfl) (Nat.le_of_ble_eq_true rfl) (by first | (rw [x_B, if_pos (by omega)]; done) | (rw [x_B, if_neg (by omega)]; done)) rfl rfl rfl rfl
end C89
