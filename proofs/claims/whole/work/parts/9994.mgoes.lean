section M9994
/-! ===== the Model's tokens ===== -/
def ub (b : Int → Int) (k : Nat) : Int := if b k < 0 then b k + 256 else b k
def mtp (b : Int → Int) (n : Nat) (D : xM) : Prop := D 62 17 = n ∧ n ≤ 700 ∧ ∀ k : Nat, k < 700 → D 70 k = ub b k ∧ -128 ≤ b k ∧ b k ≤ 127
def mb (b : Int → Int) (n k : Nat) : Int := if k < n then ub b k else 0
theorem mb_in {b : Int → Int} {n k : Nat} {D : xM} (h : mtp b n D) : 0 ≤ mb b n k ∧ mb b n k ≤ 255 := by
  unfold mb
  by_cases hk : k < n
  · rw [if_pos hk]
    have := h.2.2 k (by have := h.2.1; omega)
    unfold ub
    split <;> omega
  · rw [if_neg hk]; omega
theorem mb_ub {b : Int → Int} {n k : Nat} (hk : k < n) : mb b n k = ub b k := if_pos hk
theorem mb_0 {b : Int → Int} {n k : Nat} (hk : ¬ k < n) : mb b n k = 0 := if_neg hk
theorem ub_c {b : Int → Int} {n k : Nat} {D : xM} (h : mtp b n D) (hk : k < n) {c : Int} (h0 : 0 ≤ c) (h1 : c ≤ 127) : ub b k = c ↔ b k = c := by
  have := h.2.2 k (by have := h.2.1; omega)
  unfold ub
  split <;> omega
theorem ub_lt {b : Int → Int} {n k : Nat} {D : xM} (h : mtp b n D) (hk : k < n) : (b_lt (ub b k) ↔ b_lt (b k)) ∧ (b_dg (ub b k) ↔ b_dg (b k)) ∧ (b_ws (ub b k) ↔ b_ws (b k)) ∧ (b_sg (ub b k) ↔ b_sg (b k)) ∧ (0 ≤ b k → ub b k = b k) := by
  have := h.2.2 k (by have := h.2.1; omega)
  unfold ub b_lt b_dg b_ws b_sg
  split
  · refine ⟨?_, ?_, ?_, ?_, ?_⟩ <;> omega
  · refine ⟨?_, ?_, ?_, ?_, ?_⟩ <;> omega
theorem mb_lt {b : Int → Int} {n k : Nat} {D : xM} (h : mtp b n D) : (b_lt (mb b n k) ↔ k < n ∧ b_lt (b k)) ∧ (b_dg (mb b n k) ↔ k < n ∧ b_dg (b k)) := by
  by_cases hk : k < n
  · rw [mb_ub hk]
    have := ub_lt h hk
    exact ⟨⟨fun x => ⟨hk, this.1.mp x⟩, fun x => this.1.mpr x.2⟩, ⟨fun x => ⟨hk, this.2.1.mp x⟩, fun x => this.2.1.mpr x.2⟩⟩
  · rw [mb_0 hk]
    unfold b_lt b_dg
    constructor <;> omega
def m_so (k : Int) : Int := if k = 0 then 0 else if k = 2 then 1 else if k = 3 then 2 else if k = 4 then 3 else 4
/-- the Model stands at q -/
def gs (b : Int → Int) (n q : Nat) (D : xM) : Prop := mtp b n D ∧ q ≤ n ∧ D 62 18 = (tE b n q : Nat) ∧ D 62 20 = (tS b n q : Nat) ∧ D 62 19 = m_so (tK b n q) ∧ D 62 21 = ((tE b n q : Nat) : Int) - (tS b n q : Nat) ∧ (tK b n q = 3 → ¬ tL b n q → D 62 22 = tV b n q) ∧ (tK b n q = 4 → D 62 23 = b (tS b n q : Nat)) ∧ (tK b n q = 2 → D 62 24 = t_wd b (tS b n q) (tE b n q - tS b n q))
def gf (D d : xM) : Prop := (∀ j, j ≠ 62 → d j = D j) ∧ ∀ i, (i < 18 ∨ 24 < i) → d 62 i = D 62 i
theorem gf_rf {D : xM} : gf D D := ⟨fun _ _ => rfl, fun _ _ => rfl⟩
theorem gf_tr {D d e : xM} (h : gf D d) (h2 : gf d e) : gf D e := ⟨fun j a => by rw [h2.1 j a]; exact h.1 j a, fun i a => by rw [h2.2 i a]; exact h.2 i a⟩
theorem gf_u {D d : xM} (h : gf D d) {i v : Int} (h0 : 18 ≤ i) (h1 : i ≤ 24) : gf D (x_up d 62 (x_u1 (d 62) i v)) := ⟨fun j a => by rw [x_up_n a]; exact h.1 j a, fun k a => by rw [x_up_s, x_u1_n (by omega)]; exact h.2 k a⟩
theorem gf_u2 {D d : xM} (h : gf D d) {i v j w : Int} (h0 : 18 ≤ i) (h1 : i ≤ 24) (h2 : 18 ≤ j) (h3 : j ≤ 24) : gf D (x_up d 62 (x_u1 (x_u1 (d 62) i v) j w)) := ⟨fun j a => by rw [x_up_n a]; exact h.1 j a, fun k a => by rw [x_up_s, x_u1_n (by omega), x_u1_n (by omega)]; exact h.2 k a⟩
theorem mtp_f {b : Int → Int} {n : Nat} {D d : xM} (h : mtp b n D) (hf : gf D d) : mtp b n d := ⟨by rw [hf.2 17 (by decide)]; exact h.1, h.2.1, by rw [hf.1 70 (by decide)]; exact h.2.2⟩
theorem w_12_133 : x_cv RX12 133 yX12_byteAt cX12_byteAt 2 (some .int) 12 1 := ⟨⟨_, rfl, rfl⟩, (x_in 1557 (by decide +kernel) rfl), (x_in 1559 (by decide +kernel) rfl), (x_in 19 (by decide +kernel) rfl), (x_in 90 (by decide +kernel) rfl), (x_in 1560 (by decide +kernel) rfl), by decide, ⟨by decide +kernel, by decide +kernel, by decide +kernel⟩⟩
theorem w_12_153 : x_cs RX12 153 yX12_isLetter cX12_isLetter 1 (some .boolean) 1 := ⟨(x_in 1561 (by decide +kernel) rfl), (x_in 1562 (by decide +kernel) rfl), (x_in 90 (by decide +kernel) rfl), (x_in 1563 (by decide +kernel) rfl), by decide, ⟨by decide +kernel, by decide +kernel, by decide +kernel⟩⟩
theorem w_12_157 : x_cs RX12 157 yX12_isDigit cX12_isDigit 1 (some .boolean) 1 := ⟨(x_in 1564 (by decide +kernel) rfl), (x_in 1565 (by decide +kernel) rfl), (x_in 90 (by decide +kernel) rfl), (x_in 1566 (by decide +kernel) rfl), by decide, ⟨by decide +kernel, by decide +kernel, by decide +kernel⟩⟩
theorem m_byteAt {X : xC} {l : Launch} (hl : l.stackTraces = false) {N : Nat} {sh : xS} {D : xM} (hM : is_Md N sh) {b : Int → Int} {n : Nat} (ht : mtp b n D) {k : Nat} (hk : k ≤ 700) : x_M X l yX12_byteAt cX12_byteAt 2 (some .int) 0 0 0 [.ref (x_b X + 62), .int (xI (k : Int))] false N sh D (.inl (some (.int (xI (mb b n k))))) false N sh (x_is (D)) := by
  have s62 := md_62 hM
  have n62 : 62 < N := md_n hM (by decide)
  have s70 := md_70 hM
  have n70 : 70 < N := md_n hM (by decide)
  obtain ⟨t1, t2, t3⟩ := id ht
  by_cases hc : k < n
  · rw [mb_ub hc]
    have e := (t3 k (by omega)).1
    refine x_ofW (by decide +kernel) hl (by simp [Value.category]) (by simp) ?_
    refine x_iload_n dX12_byteAt_0 x_get_2_1 ?_
    refine x_aload_n dX12_byteAt_1 x_get_2_0 ?_
    refine x_getI 17 dX12_byteAt_2 fX_12_127 rfl n62 s62 (by rfl) ?_
    try simp (disch := decide) only [x_up_s, x_up_n, x_up_up, x_u1_s, x_u1_n, t1, e]
    refine r_icmp_ge (t := 17) dX12_byteAt_5 rfl ⟨by omega, by omega⟩ ⟨by omega, by omega⟩ (fun hc5 => absurd hc5 (by omega)) (fun hc5 => ?_)
    refine x_aload_n dX12_byteAt_8 x_get_2_0 ?_
    refine x_getR dX12_byteAt_9 fX_12_35 n62 s62 (by rfl) ?_
    refine x_iload_n dX12_byteAt_12 x_get_2_1 ?_
    refine x_iald dX12_byteAt_13 n70 s70 (by omega) (by omega) (by decide) ?_
    try simp (disch := decide) only [x_up_s, x_up_n, x_up_up, x_u1_s, x_u1_n, t1, e]
    refine x_goto (t := 18) dX12_byteAt_14 rfl ?_
    exact x_iret dX12_byteAt_18 rfl (Nat.le_of_ble_eq_true rfl) (Nat.le_of_ble_eq_true rfl) rfl rfl rfl rfl rfl
  · rw [mb_0 hc]
    refine x_ofW (by decide +kernel) hl (by simp [Value.category]) (by simp) ?_
    refine x_iload_n dX12_byteAt_0 x_get_2_1 ?_
    refine x_aload_n dX12_byteAt_1 x_get_2_0 ?_
    refine x_getI 17 dX12_byteAt_2 fX_12_127 rfl n62 s62 (by rfl) ?_
    try simp (disch := decide) only [x_up_s, x_up_n, x_up_up, x_u1_s, x_u1_n, t1]
    refine r_icmp_ge (t := 17) dX12_byteAt_5 rfl ⟨by omega, by omega⟩ ⟨by omega, by omega⟩ (fun hc5 => ?_) (fun hc5 => absurd hc5 (by omega))
    refine x_iconst dX12_byteAt_17 ?_
    exact x_iret dX12_byteAt_18 rfl (Nat.le_of_ble_eq_true rfl) (Nat.le_of_ble_eq_true rfl) rfl rfl rfl rfl rfl
theorem m_isLetter {X : xC} {l : Launch} (hl : l.stackTraces = false) {N : Nat} {sh : xS} {D : xM} {z : Int} (hz : x_r z) : x_M X l yX12_isLetter cX12_isLetter 1 (some .boolean) 0 0 0 [.int (xI z)] false N sh D (.inl (some (.int (xI (x_B (b_lt z)))))) false N sh (x_is (D)) := by
  obtain ⟨hz0, hz1⟩ := id hz
  refine x_ofW (by decide +kernel) hl (by simp [Value.category]) (by simp) ?_
  refine x_iload_n dX12_isLetter_0 x_get_1_0 ?_
  refine x_bipush dX12_isLetter_1 rfl ?_
  refine r_icmp_lt (t := 16) dX12_isLetter_3 rfl ⟨by omega, by omega⟩ ⟨by omega, by omega⟩ (fun hc3 => ?_) (fun hc3 => ?_)
  · refine x_iconst dX12_isLetter_16 ?_
    exact x_zret dX12_isLetter_17 rfl (by omega) (Nat.le_of_ble_eq_true rfl) (Nat.le_of_ble_eq_true rfl) (by first | (rw [x_B, if_pos (by unfold b_lt; omega)]; done) | (rw [x_B, if_neg (by unfold b_lt; omega)]; done)) rfl rfl rfl rfl
  · refine x_iload_n dX12_isLetter_6 x_get_1_0 ?_
    refine x_bipush dX12_isLetter_7 rfl ?_
    refine r_icmp_gt (t := 16) dX12_isLetter_9 rfl ⟨by omega, by omega⟩ ⟨by omega, by omega⟩ (fun hc9 => ?_) (fun hc9 => ?_)
    · refine x_iconst dX12_isLetter_16 ?_
      exact x_zret dX12_isLetter_17 rfl (by omega) (Nat.le_of_ble_eq_true rfl) (Nat.le_of_ble_eq_true rfl) (by first | (rw [x_B, if_pos (by unfold b_lt; omega)]; done) | (rw [x_B, if_neg (by unfold b_lt; omega)]; done)) rfl rfl rfl rfl
    · refine x_iconst dX12_isLetter_12 ?_
      refine x_goto (t := 17) dX12_isLetter_13 rfl ?_
      exact x_zret dX12_isLetter_17 rfl (by omega) (Nat.le_of_ble_eq_true rfl) (Nat.le_of_ble_eq_true rfl) (by first | (rw [x_B, if_pos (by unfold b_lt; omega)]; done) | (rw [x_B, if_neg (by unfold b_lt; omega)]; done)) rfl rfl rfl rfl
theorem m_isDigit {X : xC} {l : Launch} (hl : l.stackTraces = false) {N : Nat} {sh : xS} {D : xM} {z : Int} (hz : x_r z) : x_M X l yX12_isDigit cX12_isDigit 1 (some .boolean) 0 0 0 [.int (xI z)] false N sh D (.inl (some (.int (xI (x_B (b_dg z)))))) false N sh (x_is (D)) := by
  obtain ⟨hz0, hz1⟩ := id hz
  refine x_ofW (by decide +kernel) hl (by simp [Value.category]) (by simp) ?_
  refine x_iload_n dX12_isDigit_0 x_get_1_0 ?_
  refine x_bipush dX12_isDigit_1 rfl ?_
  refine r_icmp_lt (t := 16) dX12_isDigit_3 rfl ⟨by omega, by omega⟩ ⟨by omega, by omega⟩ (fun hc3 => ?_) (fun hc3 => ?_)
  · refine x_iconst dX12_isDigit_16 ?_
    exact x_zret dX12_isDigit_17 rfl (by omega) (Nat.le_of_ble_eq_true rfl) (Nat.le_of_ble_eq_true rfl) (by first | (rw [x_B, if_pos (by unfold b_dg; omega)]; done) | (rw [x_B, if_neg (by unfold b_dg; omega)]; done)) rfl rfl rfl rfl
  · refine x_iload_n dX12_isDigit_6 x_get_1_0 ?_
    refine x_bipush dX12_isDigit_7 rfl ?_
    refine r_icmp_gt (t := 16) dX12_isDigit_9 rfl ⟨by omega, by omega⟩ ⟨by omega, by omega⟩ (fun hc9 => ?_) (fun hc9 => ?_)
    · refine x_iconst dX12_isDigit_16 ?_
      exact x_zret dX12_isDigit_17 rfl (by omega) (Nat.le_of_ble_eq_true rfl) (Nat.le_of_ble_eq_true rfl) (by first | (rw [x_B, if_pos (by unfold b_dg; omega)]; done) | (rw [x_B, if_neg (by unfold b_dg; omega)]; done)) rfl rfl rfl rfl
    · refine x_iconst dX12_isDigit_12 ?_
      refine x_goto (t := 17) dX12_isDigit_13 rfl ?_
      exact x_zret dX12_isDigit_17 rfl (by omega) (Nat.le_of_ble_eq_true rfl) (Nat.le_of_ble_eq_true rfl) (by first | (rw [x_B, if_pos (by unfold b_dg; omega)]; done) | (rw [x_B, if_neg (by unfold b_dg; omega)]; done)) rfl rfl rfl rfl
set_option maxHeartbeats 8000000 in
theorem m_goes {X : xC} {l : Launch} (hl : l.stackTraces = false) {N : Nat} {sh : xS} {D : xM} (hM : is_Md N sh) {b : Int → Int} {n q : Nat} (ht : mtp b n D) (hq : q ≤ n) (h18 : D 62 18 = q) : x_M X l yX12_goes cX12_goes 2 (none) 1 0 0 [.ref (x_b X + 62)] false N sh D (.inl none) false N sh (fun d => gs b n q d ∧ gf D d) := by
  have s62 := md_62 hM
  have n62 : 62 < N := md_n hM (by decide)
  have s70 := md_70 hM
  have n70 : 70 < N := md_n hM (by decide)
  obtain ⟨t1, t2, t3⟩ := id ht
  obtain ⟨s, hsv⟩ : ∃ s, s = tS b n q := ⟨_, rfl⟩
  have hsi := t_st_in (b := b) hq
  have hs0 : q ≤ s := by rw [hsv]; exact hsi.1
  have hsn : s ≤ n := by rw [hsv]; exact hsi.2
  have g331 : ∀ (e : Nat) (d : xM) (o1 : Option Value), s ≤ e → e ≤ n → e = tE b n q → gf D d → d 62 18 = (e : Nat) → d 62 20 = (s : Nat) → d 62 19 = m_so (tK b n q) → (tK b n q = 3 → ¬ tL b n q → d 62 22 = tV b n q) → (tK b n q = 4 → d 62 23 = b (tS b n q : Nat)) → (tK b n q = 2 → d 62 24 = t_wd b (tS b n q) (tE b n q - tS b n q)) → x_W (X, l, yX12_goes, cX12_goes, 2, none, x_room 1 0 0, 0, 0, (.inl none), N, sh, (fun d => gs b n q d ∧ gf D d), false, []) 331 [some (.ref (x_b X + 62)), o1] [] 0 0 false N sh d := by
    intro e d o1 hse hen he hf f18 f20 f19 f22 f23 f24
    refine x_aload_n dX12_goes_331 x_get_2_0 ?_
    refine x_aload_n dX12_goes_332 x_get_2_0 ?_
    refine x_getI 18 dX12_goes_333 fX_12_130 rfl n62 s62 (by rfl) ?_
    try simp (disch := decide) only [x_up_s, x_up_n, x_up_up, x_u1_s, x_u1_n, f18, f20]
    refine x_aload_n dX12_goes_336 x_get_2_0 ?_
    refine x_getI 20 dX12_goes_337 fX_12_137 rfl n62 s62 (by rfl) ?_
    try simp (disch := decide) only [x_up_s, x_up_n, x_up_up, x_u1_s, x_u1_n, f18, f20]
    refine x_isub dX12_goes_340 ?_
    refine x_putI 21 dX12_goes_341 fX_12_160 rfl tX_12_21 n62 s62 (by rfl) ?_
    try simp (disch := decide) only [x_up_s, x_up_n, x_up_up, x_u1_s, x_u1_n, f18, f20]
    exact x_vret dX12_goes_344 rfl (Nat.le_of_ble_eq_true rfl) (Nat.le_of_ble_eq_true rfl) rfl rfl rfl ⟨⟨mtp_f ht (gf_u hf (by decide) (by decide)), hq, by rw [x_up_s, x_u1_n (by decide), f18, he], by rw [x_up_s, x_u1_n (by decide), f20, hsv], by rw [x_up_s, x_u1_n (by decide), f19], by rw [x_up_s, x_u1_s, he, hsv], fun a c => by rw [x_up_s, x_u1_n (by decide), f22 a c], fun a => by rw [x_up_s, x_u1_n (by decide), f23 a], fun a => by rw [x_up_s, x_u1_n (by decide), f24 a]⟩, gf_u hf (by decide) (by decide)⟩ rfl
  have gLt : s < n → b_lt (b s) → ∀ (k q1 : Nat) (d : xM) (o1 : Option Value), q1 + k = n → s ≤ q1 → (∀ i : Nat, i < q1 - s → b_lt (b ((s : Int) + i))) → t_run b_lt b (n - s) s = t_run b_lt b (n - q1) q1 → gf D d → d 62 18 = (q1 : Nat) → d 62 20 = (s : Nat) → d 62 24 = t_wd b s (q1 - s) → x_W (X, l, yX12_goes, cX12_goes, 2, none, x_room 1 0 0, 0, 0, (.inl none), N, sh, (fun d => gs b n q d ∧ gf D d), false, []) 108 [some (.ref (x_b X + 62)), o1] [] 0 0 false N sh d := by
    intro hlt hl1
    have hK : tK b n q = 2 := by unfold tK t_kd; rw [show t_st b n q = s from hsv.symm, if_neg (by omega), if_pos hl1]
    have hE : tE b n q = t_run b_lt b (n - s) s := by unfold tE t_en; rw [show t_st b n q = s from hsv.symm, if_neg (by omega), if_pos hl1]
    have fin : ∀ (q1 : Nat) (d : xM) (o1 : Option Value), s ≤ q1 → q1 ≤ n → t_run b_lt b (n - s) s = q1 → gf D d → d 62 18 = (q1 : Nat) → d 62 20 = (s : Nat) → d 62 24 = t_wd b s (q1 - s) → x_W (X, l, yX12_goes, cX12_goes, 2, none, x_room 1 0 0, 0, 0, (.inl none), N, sh, (fun d => gs b n q d ∧ gf D d), false, []) 172 [some (.ref (x_b X + 62)), o1] [] 0 0 false N sh d := by
      intro q1 d o1 hs1 hq1 hr hf f18 f20 f24
      refine x_aload_n dX12_goes_172 x_get_2_0 ?_
      refine x_iconst dX12_goes_173 ?_
      refine x_putI 19 dX12_goes_174 fX_12_150 rfl tX_12_19 n62 s62 (by rfl) ?_
      try simp (disch := decide) only [x_up_s, x_up_n, x_up_up, x_u1_s, x_u1_n]
      refine x_goto (t := 331) dX12_goes_177 rfl ?_
      exact g331 q1 _ _ hs1 hq1 (by rw [hE, hr]) (gf_u hf (by decide) (by decide)) (by rw [x_up_s, x_u1_n (by decide), f18]) (by rw [x_up_s, x_u1_n (by decide), f20]) (by rw [x_up_s, x_u1_s, hK]; rfl) (fun a => by rw [hK] at a; exact absurd a (by decide)) (fun a => by rw [hK] at a; exact absurd a (by decide)) (fun _ => by rw [x_up_s, x_u1_n (by decide), f24, hE, hr, show tS b n q = s from hsv.symm])
    intro k
    induction k with
    | zero =>
      intro q1 d o1 hk hs1 hal hr hf f18 f20 f24
      have e1 : q1 = n := by omega
      have hmt := mtp_f ht hf
      have hno : ¬ b_lt (mb b n q1) := fun h => absurd ((mb_lt ht).1.mp h).1 (by omega)
      have hmi := mb_in (b := b) (n := n) (k := q1) ht
      refine x_aload_n dX12_goes_108 x_get_2_0 ?_
      refine x_aload_n dX12_goes_109 x_get_2_0 ?_
      refine x_getI 18 dX12_goes_110 fX_12_130 rfl n62 s62 (by rfl) ?_
      try simp (disch := decide) only [x_up_s, x_up_n, x_up_up, x_u1_s, x_u1_n, f18, f20]
      refine x_callV (As := [_]) dX12_goes_113 w_12_133 (m_byteAt hl hM hmt (k := q1) (by omega)) (by assumption) (by assumption) rfl rfl (Nat.le_of_ble_eq_true rfl) (Nat.le_of_ble_eq_true rfl) (Nat.le_of_ble_eq_true rfl) (Nat.le_of_ble_eq_true rfl) (Nat.le_of_ble_eq_true rfl) ?_
      intro d hd
      obtain rfl := Eq.symm hd
      refine x_callS (As := [_]) dX12_goes_116 w_12_153 (m_isLetter hl ⟨by omega, by omega⟩) rfl rfl (Nat.le_of_ble_eq_true rfl) (Nat.le_of_ble_eq_true rfl) (Nat.le_of_ble_eq_true rfl) (Nat.le_of_ble_eq_true rfl) (Nat.le_of_ble_eq_true rfl) ?_
      intro d hd
      obtain rfl := Eq.symm hd
      refine b_ifeq (t := 172) dX12_goes_119 rfl (fun hc119 => ?_) (fun hc119 => absurd hc119 (hno))
      exact fin q1 _ _ hs1 (by omega) (by rw [hr, t_run_e (by omega)]) hf f18 f20 f24
    | succ k ih =>
      intro q1 d o1 hk hs1 hal hr hf f18 f20 f24
      have hmt := mtp_f ht hf
      have hmi := mb_in (b := b) (n := n) (k := q1) ht
      by_cases hlq : b_lt (b q1)
      · have hyes : b_lt (mb b n q1) := (mb_lt ht).1.mpr ⟨by omega, hlq⟩
        have hub : mb b n q1 = b q1 := by rw [mb_ub (by omega)]; exact (ub_lt ht (by omega)).2.2.2.2 (by unfold b_lt at hlq; omega)
        have hal2 : ∀ i : Nat, i < q1 + 1 - s → b_lt (b ((s : Int) + i)) := by
          intro i hi
          by_cases hiq : i = q1 - s
          · subst hiq; rw [show (s : Int) + ((q1 - s : Nat) : Int) = (q1 : Int) by omega]; exact hlq
          · exact hal i (by omega)
        have hr2 : t_run b_lt b (n - s) s = t_run b_lt b (n - (q1 + 1)) (q1 + 1) := by rw [hr, t_run_y (by omega) hlq]
        by_cases h7 : q1 - s < 7
        · have hw0 : 0 ≤ t_wd b s (q1 - s) := pkr_0 (ltr_lt _ (fun i hi => hal i (by omega)))
          have hw1 : t_wd b s (q1 - s) < 1099511627776 := by
            have h1 := pkr_ub (b := b) (s := s) (min (q1 - s) 7) (fun i hi => hal i (by omega))
            have h2 : (32 : Int) ^ (min (q1 - s) 7) ≤ 32 ^ 7 := by
              have h3 : 32 ^ (min (q1 - s) 7) ≤ 32 ^ 7 := Nat.pow_le_pow_right (by decide) (by omega)
              exact_mod_cast h3
            have h4 : (32 : Int) ^ 7 = 34359738368 := by decide
            unfold t_wd
            omega
          have ew : x_lo (x_ll (t_wd b s (q1 - s)) 5) (x_Il (b q1 - 96)) = t_wd b s (q1 + 1 - s) := by
            unfold b_lt at hlq
            rw [x_pk1 hw0 hw1 (by omega) (by omega)]
            unfold t_wd
            rw [Nat.min_eq_left (by omega), Nat.min_eq_left (by omega), show q1 + 1 - s = (q1 - s) + 1 by omega, ltr_s, pkr_c, show (s : Int) + ((q1 - s : Nat) : Int) = (q1 : Int) by omega]
          refine x_aload_n dX12_goes_108 x_get_2_0 ?_
          refine x_aload_n dX12_goes_109 x_get_2_0 ?_
          refine x_getI 18 dX12_goes_110 fX_12_130 rfl n62 s62 (by rfl) ?_
          try simp (disch := decide) only [x_up_s, x_up_n, x_up_up, x_u1_s, x_u1_n, f18, f20, f24, hub, ew]
          refine x_callV (As := [_]) dX12_goes_113 w_12_133 (m_byteAt hl hM hmt (k := q1) (by omega)) (by assumption) (by assumption) rfl rfl (Nat.le_of_ble_eq_true rfl) (Nat.le_of_ble_eq_true rfl) (Nat.le_of_ble_eq_true rfl) (Nat.le_of_ble_eq_true rfl) (Nat.le_of_ble_eq_true rfl) ?_
          intro d hd
          obtain rfl := Eq.symm hd
          rw [hub]
          refine x_callS (As := [_]) dX12_goes_116 w_12_153 (m_isLetter hl (z := b q1) ⟨by unfold b_lt at hlq; omega, by unfold b_lt at hlq; omega⟩) rfl rfl (Nat.le_of_ble_eq_true rfl) (Nat.le_of_ble_eq_true rfl) (Nat.le_of_ble_eq_true rfl) (Nat.le_of_ble_eq_true rfl) (Nat.le_of_ble_eq_true rfl) ?_
          intro d hd
          obtain rfl := Eq.symm hd
          refine b_ifeq (t := 172) dX12_goes_119 rfl (fun hc119 => absurd hc119 (fun hh => hh hlq)) (fun hc119 => ?_)
          refine x_aload_n dX12_goes_122 x_get_2_0 ?_
          refine x_getI 18 dX12_goes_123 fX_12_130 rfl n62 s62 (by rfl) ?_
          try simp (disch := decide) only [x_up_s, x_up_n, x_up_up, x_u1_s, x_u1_n, f18, f20, f24, hub, ew]
          refine x_aload_n dX12_goes_126 x_get_2_0 ?_
          refine x_getI 20 dX12_goes_127 fX_12_137 rfl n62 s62 (by rfl) ?_
          try simp (disch := decide) only [x_up_s, x_up_n, x_up_up, x_u1_s, x_u1_n, f18, f20, f24, hub, ew]
          refine x_isub dX12_goes_130 ?_
          refine x_bipush dX12_goes_131 rfl ?_
          refine r_icmp_ge (t := 159) dX12_goes_133 rfl ⟨by omega, by omega⟩ ⟨by decide, by decide⟩ (fun hc133 => absurd hc133 (by omega)) (fun hc133 => ?_)
          refine x_aload_n dX12_goes_136 x_get_2_0 ?_
          refine x_aload_n dX12_goes_137 x_get_2_0 ?_
          refine x_getL 24 dX12_goes_138 fX_12_140 rfl n62 s62 (by rfl) ?_
          try simp (disch := decide) only [x_up_s, x_up_n, x_up_up, x_u1_s, x_u1_n, f18, f20, f24, hub, ew]
          refine x_iconst dX12_goes_141 ?_
          refine x_lshl dX12_goes_142 ?_
          refine x_aload_n dX12_goes_143 x_get_2_0 ?_
          refine x_aload_n dX12_goes_144 x_get_2_0 ?_
          refine x_getI 18 dX12_goes_145 fX_12_130 rfl n62 s62 (by rfl) ?_
          try simp (disch := decide) only [x_up_s, x_up_n, x_up_up, x_u1_s, x_u1_n, f18, f20, f24, hub, ew]
          refine x_callV (As := [_]) dX12_goes_148 w_12_133 (m_byteAt hl hM hmt (k := q1) (by omega)) (by assumption) (by assumption) rfl rfl (Nat.le_of_ble_eq_true rfl) (Nat.le_of_ble_eq_true rfl) (Nat.le_of_ble_eq_true rfl) (Nat.le_of_ble_eq_true rfl) (Nat.le_of_ble_eq_true rfl) ?_
          intro d hd
          obtain rfl := Eq.symm hd
          try rw [hub]
          refine x_bipush dX12_goes_151 rfl ?_
          refine x_isub dX12_goes_153 ?_
          refine x_i2l dX12_goes_154 ?_
          refine x_lor dX12_goes_155 ?_
          rw [ew]
          refine x_putL 24 dX12_goes_156 fX_12_140 rfl tX_12_24 n62 s62 (by rfl) ?_
          try simp (disch := decide) only [x_up_s, x_up_n, x_up_up, x_u1_s, x_u1_n, f18, f20, f24, hub, ew]
          refine x_aload_n dX12_goes_159 x_get_2_0 ?_
          refine x_dup dX12_goes_160 rfl ?_
          refine x_getI 18 dX12_goes_161 fX_12_130 rfl n62 s62 (by rfl) ?_
          try simp (disch := decide) only [x_up_s, x_up_n, x_up_up, x_u1_s, x_u1_n, f18, f20, f24, hub, ew]
          refine x_iconst dX12_goes_164 ?_
          refine x_iadd dX12_goes_165 ?_
          refine x_putI 18 dX12_goes_166 fX_12_130 rfl tX_12_18 n62 s62 (by rfl) ?_
          try simp (disch := decide) only [x_up_s, x_up_n, x_up_up, x_u1_s, x_u1_n, f18, f20, f24, hub, ew]
          refine x_goto (t := 108) dX12_goes_169 rfl ?_
          refine ih (q1 + 1) _ _ (by omega) (by omega) hal2 hr2 (gf_u2 hf (by decide) (by decide) (by decide) (by decide)) ?_ ?_ ?_
          · rw [x_up_s, x_u1_s]; push_cast; rfl
          · rw [x_up_s, x_u1_n (by decide), x_u1_n (by decide), f20]
          · rw [x_up_s, x_u1_n (by decide), x_u1_s]
        · have ew : t_wd b s (q1 - s) = t_wd b s (q1 + 1 - s) := by
            unfold t_wd
            rw [Nat.min_eq_right (by omega), Nat.min_eq_right (by omega)]
          refine x_aload_n dX12_goes_108 x_get_2_0 ?_
          refine x_aload_n dX12_goes_109 x_get_2_0 ?_
          refine x_getI 18 dX12_goes_110 fX_12_130 rfl n62 s62 (by rfl) ?_
          try simp (disch := decide) only [x_up_s, x_up_n, x_up_up, x_u1_s, x_u1_n, f18, f20]
          refine x_callV (As := [_]) dX12_goes_113 w_12_133 (m_byteAt hl hM hmt (k := q1) (by omega)) (by assumption) (by assumption) rfl rfl (Nat.le_of_ble_eq_true rfl) (Nat.le_of_ble_eq_true rfl) (Nat.le_of_ble_eq_true rfl) (Nat.le_of_ble_eq_true rfl) (Nat.le_of_ble_eq_true rfl) ?_
          intro d hd
          obtain rfl := Eq.symm hd
          refine x_callS (As := [_]) dX12_goes_116 w_12_153 (m_isLetter hl ⟨by omega, by omega⟩) rfl rfl (Nat.le_of_ble_eq_true rfl) (Nat.le_of_ble_eq_true rfl) (Nat.le_of_ble_eq_true rfl) (Nat.le_of_ble_eq_true rfl) (Nat.le_of_ble_eq_true rfl) ?_
          intro d hd
          obtain rfl := Eq.symm hd
          refine b_ifeq (t := 172) dX12_goes_119 rfl (fun hc119 => absurd hc119 (fun hh => hh hyes)) (fun hc119 => ?_)
          refine x_aload_n dX12_goes_122 x_get_2_0 ?_
          refine x_getI 18 dX12_goes_123 fX_12_130 rfl n62 s62 (by rfl) ?_
          try simp (disch := decide) only [x_up_s, x_up_n, x_up_up, x_u1_s, x_u1_n, f18, f20]
          refine x_aload_n dX12_goes_126 x_get_2_0 ?_
          refine x_getI 20 dX12_goes_127 fX_12_137 rfl n62 s62 (by rfl) ?_
          try simp (disch := decide) only [x_up_s, x_up_n, x_up_up, x_u1_s, x_u1_n, f18, f20]
          refine x_isub dX12_goes_130 ?_
          refine x_bipush dX12_goes_131 rfl ?_
          refine r_icmp_ge (t := 159) dX12_goes_133 rfl ⟨by omega, by omega⟩ ⟨by decide, by decide⟩ (fun hc133 => ?_) (fun hc133 => absurd hc133 (by omega))
          refine x_aload_n dX12_goes_159 x_get_2_0 ?_
          refine x_dup dX12_goes_160 rfl ?_
          refine x_getI 18 dX12_goes_161 fX_12_130 rfl n62 s62 (by rfl) ?_
          try simp (disch := decide) only [x_up_s, x_up_n, x_up_up, x_u1_s, x_u1_n, f18, f20]
          refine x_iconst dX12_goes_164 ?_
          refine x_iadd dX12_goes_165 ?_
          refine x_putI 18 dX12_goes_166 fX_12_130 rfl tX_12_18 n62 s62 (by rfl) ?_
          try simp (disch := decide) only [x_up_s, x_up_n, x_up_up, x_u1_s, x_u1_n, f18, f20]
          refine x_goto (t := 108) dX12_goes_169 rfl ?_
          refine ih (q1 + 1) _ _ (by omega) (by omega) hal2 hr2 (gf_u hf (by decide) (by decide)) ?_ ?_ ?_
          · rw [x_up_s, x_u1_s]; push_cast; rfl
          · rw [x_up_s, x_u1_n (by decide), f20]
          · rw [x_up_s, x_u1_n (by decide), f24, ew]
      · have hno : ¬ b_lt (mb b n q1) := fun h => hlq ((mb_lt ht).1.mp h).2
        refine x_aload_n dX12_goes_108 x_get_2_0 ?_
        refine x_aload_n dX12_goes_109 x_get_2_0 ?_
        refine x_getI 18 dX12_goes_110 fX_12_130 rfl n62 s62 (by rfl) ?_
        try simp (disch := decide) only [x_up_s, x_up_n, x_up_up, x_u1_s, x_u1_n, f18, f20]
        refine x_callV (As := [_]) dX12_goes_113 w_12_133 (m_byteAt hl hM hmt (k := q1) (by omega)) (by assumption) (by assumption) rfl rfl (Nat.le_of_ble_eq_true rfl) (Nat.le_of_ble_eq_true rfl) (Nat.le_of_ble_eq_true rfl) (Nat.le_of_ble_eq_true rfl) (Nat.le_of_ble_eq_true rfl) ?_
        intro d hd
        obtain rfl := Eq.symm hd
        refine x_callS (As := [_]) dX12_goes_116 w_12_153 (m_isLetter hl ⟨by omega, by omega⟩) rfl rfl (Nat.le_of_ble_eq_true rfl) (Nat.le_of_ble_eq_true rfl) (Nat.le_of_ble_eq_true rfl) (Nat.le_of_ble_eq_true rfl) (Nat.le_of_ble_eq_true rfl) ?_
        intro d hd
        obtain rfl := Eq.symm hd
        refine b_ifeq (t := 172) dX12_goes_119 rfl (fun hc119 => ?_) (fun hc119 => absurd hc119 (hno))
        exact fin q1 _ _ hs1 (by omega) (by rw [hr, t_run_n hlq]) hf f18 f20 f24
  have gDg : s < n → ¬ b_lt (b s) → b_dg (b s) → ∀ (k q1 : Nat) (d : xM) (o1 : Option Value), q1 + k = n → s ≤ q1 → t_run b_dg b (n - s) s = t_run b_dg b (n - q1) q1 → gf D d → d 62 18 = (q1 : Nat) → d 62 20 = (s : Nat) → d 62 22 = t_nm b s (min (q1 - s) 4) → x_W (X, l, yX12_goes, cX12_goes, 2, none, x_room 1 0 0, 0, 0, (.inl none), N, sh, (fun d => gs b n q d ∧ gf D d), false, []) 187 [some (.ref (x_b X + 62)), o1] [] 0 0 false N sh d := by
    intro hlt hl0 hl1
    have hK : tK b n q = 3 := by unfold tK t_kd; rw [show t_st b n q = s from hsv.symm, if_neg (by omega), if_neg hl0, if_pos hl1]
    have hE : tE b n q = t_run b_dg b (n - s) s := by unfold tE t_en; rw [show t_st b n q = s from hsv.symm, if_neg (by omega), if_neg hl0, if_pos hl1]
    have fin : ∀ (q1 : Nat) (d : xM) (o1 : Option Value), s ≤ q1 → q1 ≤ n → t_run b_dg b (n - s) s = q1 → gf D d → d 62 18 = (q1 : Nat) → d 62 20 = (s : Nat) → d 62 22 = t_nm b s (min (q1 - s) 4) → x_W (X, l, yX12_goes, cX12_goes, 2, none, x_room 1 0 0, 0, 0, (.inl none), N, sh, (fun d => gs b n q d ∧ gf D d), false, []) 250 [some (.ref (x_b X + 62)), o1] [] 0 0 false N sh d := by
      intro q1 d o1 hs1 hq1 hr hf f18 f20 f22
      have hS : tS b n q = s := hsv.symm
      have f22b : ¬ tL b n q → d 62 22 = tV b n q := by
        intro hL
        have h5 : q1 - s ≤ 4 := by unfold tL at hL; rw [hE, hr, hS] at hL; omega
        rw [f22, Nat.min_eq_left h5]
        show _ = t_nm b (tS b n q) (tE b n q - tS b n q)
        rw [hS, hE, hr]
      refine x_aload_n dX12_goes_250 x_get_2_0 ?_
      refine x_iconst dX12_goes_251 ?_
      refine x_putI 19 dX12_goes_252 fX_12_150 rfl tX_12_19 n62 s62 (by rfl) ?_
      try simp (disch := decide) only [x_up_s, x_up_n, x_up_up, x_u1_s, x_u1_n]
      refine x_goto (t := 331) dX12_goes_255 rfl ?_
      exact g331 q1 _ _ hs1 hq1 (by rw [hE, hr]) (gf_u hf (by decide) (by decide)) (by rw [x_up_s, x_u1_n (by decide), f18]) (by rw [x_up_s, x_u1_n (by decide), f20]) (by rw [x_up_s, x_u1_s, hK]; rfl) (fun _ a => by rw [x_up_s, x_u1_n (by decide)]; exact f22b a) (fun a => by rw [hK] at a; exact absurd a (by decide)) (fun a => by rw [hK] at a; exact absurd a (by decide))
    intro k
    induction k with
    | zero =>
      intro q1 d o1 hk hs1 hr hf f18 f20 f22
      have e1 : q1 = n := by omega
      have hmt := mtp_f ht hf
      have hno : ¬ b_dg (mb b n q1) := fun h => absurd ((mb_lt ht).2.mp h).1 (by omega)
      have hmi := mb_in (b := b) (n := n) (k := q1) ht
      refine x_aload_n dX12_goes_187 x_get_2_0 ?_
      refine x_aload_n dX12_goes_188 x_get_2_0 ?_
      refine x_getI 18 dX12_goes_189 fX_12_130 rfl n62 s62 (by rfl) ?_
      try simp (disch := decide) only [x_up_s, x_up_n, x_up_up, x_u1_s, x_u1_n, f18, f20]
      refine x_callV (As := [_]) dX12_goes_192 w_12_133 (m_byteAt hl hM hmt (k := q1) (by omega)) (by assumption) (by assumption) rfl rfl (Nat.le_of_ble_eq_true rfl) (Nat.le_of_ble_eq_true rfl) (Nat.le_of_ble_eq_true rfl) (Nat.le_of_ble_eq_true rfl) (Nat.le_of_ble_eq_true rfl) ?_
      intro d hd
      obtain rfl := Eq.symm hd
      refine x_callS (As := [_]) dX12_goes_195 w_12_157 (m_isDigit hl ⟨by omega, by omega⟩) rfl rfl (Nat.le_of_ble_eq_true rfl) (Nat.le_of_ble_eq_true rfl) (Nat.le_of_ble_eq_true rfl) (Nat.le_of_ble_eq_true rfl) (Nat.le_of_ble_eq_true rfl) ?_
      intro d hd
      obtain rfl := Eq.symm hd
      refine b_ifeq (t := 250) dX12_goes_198 rfl (fun hc198 => ?_) (fun hc198 => absurd hc198 (hno))
      exact fin q1 _ _ hs1 (by omega) (by rw [hr, t_run_e (by omega)]) hf f18 f20 f22
    | succ k ih =>
      intro q1 d o1 hk hs1 hr hf f18 f20 f22
      have hmt := mtp_f ht hf
      have hmi := mb_in (b := b) (n := n) (k := q1) ht
      by_cases hlq : b_dg (b q1)
      · have hyes : b_dg (mb b n q1) := (mb_lt ht).2.mpr ⟨by omega, hlq⟩
        have hub : mb b n q1 = b q1 := by rw [mb_ub (by omega)]; exact (ub_lt ht (by omega)).2.2.2.2 (by unfold b_dg at hlq; omega)
        have hr2 : t_run b_dg b (n - s) s = t_run b_dg b (n - (q1 + 1)) (q1 + 1) := by rw [hr, t_run_y (by omega) hlq]
        by_cases h7 : q1 - s < 4
        · have ew : 10 * t_nm b s (min (q1 - s) 4) + b q1 - 48 = t_nm b s (min (q1 + 1 - s) 4) := by
            rw [Nat.min_eq_left (by omega), Nat.min_eq_left (by omega), show q1 + 1 - s = (q1 - s) + 1 by omega, t_nm_s, if_neg (by omega), show (s : Int) + ((q1 - s : Nat) : Int) = (q1 : Int) by omega]
            omega
          refine x_aload_n dX12_goes_187 x_get_2_0 ?_
          refine x_aload_n dX12_goes_188 x_get_2_0 ?_
          refine x_getI 18 dX12_goes_189 fX_12_130 rfl n62 s62 (by rfl) ?_
          try simp (disch := decide) only [x_up_s, x_up_n, x_up_up, x_u1_s, x_u1_n, f18, f20, f22, hub]
          refine x_callV (As := [_]) dX12_goes_192 w_12_133 (m_byteAt hl hM hmt (k := q1) (by omega)) (by assumption) (by assumption) rfl rfl (Nat.le_of_ble_eq_true rfl) (Nat.le_of_ble_eq_true rfl) (Nat.le_of_ble_eq_true rfl) (Nat.le_of_ble_eq_true rfl) (Nat.le_of_ble_eq_true rfl) ?_
          intro d hd
          obtain rfl := Eq.symm hd
          rw [hub]
          refine x_callS (As := [_]) dX12_goes_195 w_12_157 (m_isDigit hl (z := b q1) ⟨by unfold b_dg at hlq; omega, by unfold b_dg at hlq; omega⟩) rfl rfl (Nat.le_of_ble_eq_true rfl) (Nat.le_of_ble_eq_true rfl) (Nat.le_of_ble_eq_true rfl) (Nat.le_of_ble_eq_true rfl) (Nat.le_of_ble_eq_true rfl) ?_
          intro d hd
          obtain rfl := Eq.symm hd
          refine b_ifeq (t := 250) dX12_goes_198 rfl (fun hc198 => absurd hc198 (fun hh => hh hlq)) (fun hc198 => ?_)
          refine x_aload_n dX12_goes_201 x_get_2_0 ?_
          refine x_getI 18 dX12_goes_202 fX_12_130 rfl n62 s62 (by rfl) ?_
          try simp (disch := decide) only [x_up_s, x_up_n, x_up_up, x_u1_s, x_u1_n, f18, f20, f22, hub]
          refine x_aload_n dX12_goes_205 x_get_2_0 ?_
          refine x_getI 20 dX12_goes_206 fX_12_137 rfl n62 s62 (by rfl) ?_
          try simp (disch := decide) only [x_up_s, x_up_n, x_up_up, x_u1_s, x_u1_n, f18, f20, f22, hub]
          refine x_isub dX12_goes_209 ?_
          refine x_iconst dX12_goes_210 ?_
          refine r_icmp_ge (t := 237) dX12_goes_211 rfl ⟨by omega, by omega⟩ ⟨by decide, by decide⟩ (fun hc211 => absurd hc211 (by omega)) (fun hc211 => ?_)
          refine x_aload_n dX12_goes_214 x_get_2_0 ?_
          refine x_bipush dX12_goes_215 rfl ?_
          refine x_aload_n dX12_goes_217 x_get_2_0 ?_
          refine x_getI 22 dX12_goes_218 fX_12_144 rfl n62 s62 (by rfl) ?_
          try simp (disch := decide) only [x_up_s, x_up_n, x_up_up, x_u1_s, x_u1_n, f18, f20, f22, hub]
          refine x_imul dX12_goes_221 ?_
          refine x_aload_n dX12_goes_222 x_get_2_0 ?_
          refine x_aload_n dX12_goes_223 x_get_2_0 ?_
          refine x_getI 18 dX12_goes_224 fX_12_130 rfl n62 s62 (by rfl) ?_
          try simp (disch := decide) only [x_up_s, x_up_n, x_up_up, x_u1_s, x_u1_n, f18, f20, f22, hub]
          refine x_callV (As := [_]) dX12_goes_227 w_12_133 (m_byteAt hl hM hmt (k := q1) (by omega)) (by assumption) (by assumption) rfl rfl (Nat.le_of_ble_eq_true rfl) (Nat.le_of_ble_eq_true rfl) (Nat.le_of_ble_eq_true rfl) (Nat.le_of_ble_eq_true rfl) (Nat.le_of_ble_eq_true rfl) ?_
          intro d hd
          obtain rfl := Eq.symm hd
          try rw [hub]
          refine x_iadd dX12_goes_230 ?_
          refine x_bipush dX12_goes_231 rfl ?_
          refine x_isub dX12_goes_233 ?_
          refine x_putI 22 dX12_goes_234 fX_12_144 rfl tX_12_22 n62 s62 (by rfl) ?_
          try simp (disch := decide) only [x_up_s, x_up_n, x_up_up, x_u1_s, x_u1_n, f18, f20, f22, hub]
          refine x_aload_n dX12_goes_237 x_get_2_0 ?_
          refine x_dup dX12_goes_238 rfl ?_
          refine x_getI 18 dX12_goes_239 fX_12_130 rfl n62 s62 (by rfl) ?_
          try simp (disch := decide) only [x_up_s, x_up_n, x_up_up, x_u1_s, x_u1_n, f18, f20, f22, hub]
          refine x_iconst dX12_goes_242 ?_
          refine x_iadd dX12_goes_243 ?_
          refine x_putI 18 dX12_goes_244 fX_12_130 rfl tX_12_18 n62 s62 (by rfl) ?_
          try simp (disch := decide) only [x_up_s, x_up_n, x_up_up, x_u1_s, x_u1_n, f18, f20, f22, hub]
          refine x_goto (t := 187) dX12_goes_247 rfl ?_
          refine ih (q1 + 1) _ _ (by omega) (by omega) hr2 (gf_u2 hf (by decide) (by decide) (by decide) (by decide)) ?_ ?_ ?_
          · rw [x_up_s, x_u1_s]; push_cast; rfl
          · rw [x_up_s, x_u1_n (by decide), x_u1_n (by decide), f20]
          · rw [x_up_s, x_u1_n (by decide), x_u1_s]; exact ew
        · have ew : t_nm b s (min (q1 - s) 4) = t_nm b s (min (q1 + 1 - s) 4) := by
            rw [Nat.min_eq_right (by omega), Nat.min_eq_right (by omega)]
          refine x_aload_n dX12_goes_187 x_get_2_0 ?_
          refine x_aload_n dX12_goes_188 x_get_2_0 ?_
          refine x_getI 18 dX12_goes_189 fX_12_130 rfl n62 s62 (by rfl) ?_
          try simp (disch := decide) only [x_up_s, x_up_n, x_up_up, x_u1_s, x_u1_n, f18, f20]
          refine x_callV (As := [_]) dX12_goes_192 w_12_133 (m_byteAt hl hM hmt (k := q1) (by omega)) (by assumption) (by assumption) rfl rfl (Nat.le_of_ble_eq_true rfl) (Nat.le_of_ble_eq_true rfl) (Nat.le_of_ble_eq_true rfl) (Nat.le_of_ble_eq_true rfl) (Nat.le_of_ble_eq_true rfl) ?_
          intro d hd
          obtain rfl := Eq.symm hd
          refine x_callS (As := [_]) dX12_goes_195 w_12_157 (m_isDigit hl ⟨by omega, by omega⟩) rfl rfl (Nat.le_of_ble_eq_true rfl) (Nat.le_of_ble_eq_true rfl) (Nat.le_of_ble_eq_true rfl) (Nat.le_of_ble_eq_true rfl) (Nat.le_of_ble_eq_true rfl) ?_
          intro d hd
          obtain rfl := Eq.symm hd
          refine b_ifeq (t := 250) dX12_goes_198 rfl (fun hc198 => absurd hc198 (fun hh => hh hyes)) (fun hc198 => ?_)
          refine x_aload_n dX12_goes_201 x_get_2_0 ?_
          refine x_getI 18 dX12_goes_202 fX_12_130 rfl n62 s62 (by rfl) ?_
          try simp (disch := decide) only [x_up_s, x_up_n, x_up_up, x_u1_s, x_u1_n, f18, f20]
          refine x_aload_n dX12_goes_205 x_get_2_0 ?_
          refine x_getI 20 dX12_goes_206 fX_12_137 rfl n62 s62 (by rfl) ?_
          try simp (disch := decide) only [x_up_s, x_up_n, x_up_up, x_u1_s, x_u1_n, f18, f20]
          refine x_isub dX12_goes_209 ?_
          refine x_iconst dX12_goes_210 ?_
          refine r_icmp_ge (t := 237) dX12_goes_211 rfl ⟨by omega, by omega⟩ ⟨by decide, by decide⟩ (fun hc211 => ?_) (fun hc211 => absurd hc211 (by omega))
          refine x_aload_n dX12_goes_237 x_get_2_0 ?_
          refine x_dup dX12_goes_238 rfl ?_
          refine x_getI 18 dX12_goes_239 fX_12_130 rfl n62 s62 (by rfl) ?_
          try simp (disch := decide) only [x_up_s, x_up_n, x_up_up, x_u1_s, x_u1_n, f18, f20]
          refine x_iconst dX12_goes_242 ?_
          refine x_iadd dX12_goes_243 ?_
          refine x_putI 18 dX12_goes_244 fX_12_130 rfl tX_12_18 n62 s62 (by rfl) ?_
          try simp (disch := decide) only [x_up_s, x_up_n, x_up_up, x_u1_s, x_u1_n, f18, f20]
          refine x_goto (t := 187) dX12_goes_247 rfl ?_
          refine ih (q1 + 1) _ _ (by omega) (by omega) hr2 (gf_u hf (by decide) (by decide)) ?_ ?_ ?_
          · rw [x_up_s, x_u1_s]; push_cast; rfl
          · rw [x_up_s, x_u1_n (by decide), f20]
          · rw [x_up_s, x_u1_n (by decide), f22, ew]
      · have hno : ¬ b_dg (mb b n q1) := fun h => hlq ((mb_lt ht).2.mp h).2
        refine x_aload_n dX12_goes_187 x_get_2_0 ?_
        refine x_aload_n dX12_goes_188 x_get_2_0 ?_
        refine x_getI 18 dX12_goes_189 fX_12_130 rfl n62 s62 (by rfl) ?_
        try simp (disch := decide) only [x_up_s, x_up_n, x_up_up, x_u1_s, x_u1_n, f18, f20]
        refine x_callV (As := [_]) dX12_goes_192 w_12_133 (m_byteAt hl hM hmt (k := q1) (by omega)) (by assumption) (by assumption) rfl rfl (Nat.le_of_ble_eq_true rfl) (Nat.le_of_ble_eq_true rfl) (Nat.le_of_ble_eq_true rfl) (Nat.le_of_ble_eq_true rfl) (Nat.le_of_ble_eq_true rfl) ?_
        intro d hd
        obtain rfl := Eq.symm hd
        refine x_callS (As := [_]) dX12_goes_195 w_12_157 (m_isDigit hl ⟨by omega, by omega⟩) rfl rfl (Nat.le_of_ble_eq_true rfl) (Nat.le_of_ble_eq_true rfl) (Nat.le_of_ble_eq_true rfl) (Nat.le_of_ble_eq_true rfl) (Nat.le_of_ble_eq_true rfl) ?_
        intro d hd
        obtain rfl := Eq.symm hd
        refine b_ifeq (t := 250) dX12_goes_198 rfl (fun hc198 => ?_) (fun hc198 => absurd hc198 (hno))
        exact fin q1 _ _ hs1 (by omega) (by rw [hr, t_run_n hlq]) hf f18 f20 f22
  have g82 : ∀ d : xM, gf D d → d 62 18 = (s : Nat) → d 62 20 = (s : Nat) → d 62 22 = 0 → d 62 23 = mb b n s → d 62 24 = 0 → x_W (X, l, yX12_goes, cX12_goes, 2, none, x_room 1 0 0, 0, 0, (.inl none), N, sh, (fun d => gs b n q d ∧ gf D d), false, []) 82 [some (.ref (x_b X + 62)), some (.int (xI (mb b n s)))] [] 0 0 false N sh d := by
    intro d hf f18 f20 f22 f23 f24
    have f17 : d 62 17 = n := (mtp_f ht hf).1
    have hmi := mb_in (b := b) (n := n) (k := s) ht
    by_cases hlt : s < n
    · have hub := mb_ub (b := b) hlt
      obtain ⟨u1, u2, u3, u4, u5⟩ := ub_lt ht hlt
      rw [← hub] at u1 u2 u3 u4 u5
      by_cases a1 : b_lt (b s)
      · have a1m := u1.mpr a1
        refine x_aload_n dX12_goes_82 x_get_2_0 ?_
        refine x_getI 18 dX12_goes_83 fX_12_130 rfl n62 s62 (by rfl) ?_
        try simp (disch := decide) only [x_up_s, x_up_n, x_up_up, x_u1_s, x_u1_n, f18, f17]
        refine x_aload_n dX12_goes_86 x_get_2_0 ?_
        refine x_getI 17 dX12_goes_87 fX_12_127 rfl n62 s62 (by rfl) ?_
        try simp (disch := decide) only [x_up_s, x_up_n, x_up_up, x_u1_s, x_u1_n, f18, f17]
        refine r_icmp_lt (t := 101) dX12_goes_90 rfl ⟨by omega, by omega⟩ ⟨by omega, by omega⟩ (fun hc90 => ?_) (fun hc90 => absurd hc90 (by omega))
        refine x_iload_n dX12_goes_101 x_get_2_1 ?_
        refine x_callS (As := [_]) dX12_goes_102 w_12_153 (m_isLetter hl ⟨by omega, by omega⟩) rfl rfl (Nat.le_of_ble_eq_true rfl) (Nat.le_of_ble_eq_true rfl) (Nat.le_of_ble_eq_true rfl) (Nat.le_of_ble_eq_true rfl) (Nat.le_of_ble_eq_true rfl) ?_
        intro d hd
        obtain rfl := Eq.symm hd
        refine b_ifeq (t := 180) dX12_goes_105 rfl (fun hc105 => absurd hc105 (fun hh => hh a1m)) (fun hc105 => ?_)
        exact gLt hlt a1 (n - s) s _ _ (by omega) (Nat.le_refl _) (fun i hi => absurd hi (by omega)) rfl hf f18 f20 (by rw [f24, Nat.sub_self]; rfl)
      · have a1m : ¬ b_lt (mb b n s) := fun h => a1 (u1.mp h)
        by_cases a2 : b_dg (b s)
        · have a2m := u2.mpr a2
          refine x_aload_n dX12_goes_82 x_get_2_0 ?_
          refine x_getI 18 dX12_goes_83 fX_12_130 rfl n62 s62 (by rfl) ?_
          try simp (disch := decide) only [x_up_s, x_up_n, x_up_up, x_u1_s, x_u1_n, f18, f17]
          refine x_aload_n dX12_goes_86 x_get_2_0 ?_
          refine x_getI 17 dX12_goes_87 fX_12_127 rfl n62 s62 (by rfl) ?_
          try simp (disch := decide) only [x_up_s, x_up_n, x_up_up, x_u1_s, x_u1_n, f18, f17]
          refine r_icmp_lt (t := 101) dX12_goes_90 rfl ⟨by omega, by omega⟩ ⟨by omega, by omega⟩ (fun hc90 => ?_) (fun hc90 => absurd hc90 (by omega))
          refine x_iload_n dX12_goes_101 x_get_2_1 ?_
          refine x_callS (As := [_]) dX12_goes_102 w_12_153 (m_isLetter hl ⟨by omega, by omega⟩) rfl rfl (Nat.le_of_ble_eq_true rfl) (Nat.le_of_ble_eq_true rfl) (Nat.le_of_ble_eq_true rfl) (Nat.le_of_ble_eq_true rfl) (Nat.le_of_ble_eq_true rfl) ?_
          intro d hd
          obtain rfl := Eq.symm hd
          refine b_ifeq (t := 180) dX12_goes_105 rfl (fun hc105 => ?_) (fun hc105 => absurd hc105 (a1m))
          refine x_iload_n dX12_goes_180 x_get_2_1 ?_
          refine x_callS (As := [_]) dX12_goes_181 w_12_157 (m_isDigit hl ⟨by omega, by omega⟩) rfl rfl (Nat.le_of_ble_eq_true rfl) (Nat.le_of_ble_eq_true rfl) (Nat.le_of_ble_eq_true rfl) (Nat.le_of_ble_eq_true rfl) (Nat.le_of_ble_eq_true rfl) ?_
          intro d hd
          obtain rfl := Eq.symm hd
          refine b_ifeq (t := 258) dX12_goes_184 rfl (fun hc184 => absurd hc184 (fun hh => hh a2m)) (fun hc184 => ?_)
          exact gDg hlt a1 a2 (n - s) s _ _ (by omega) (Nat.le_refl _) rfl hf f18 f20 (by rw [f22, Nat.sub_self]; rfl)
        · have a2m : ¬ b_dg (mb b n s) := fun h => a2 (u2.mp h)
          have hE : s + 1 = tE b n q := by unfold tE t_en; rw [show t_st b n q = s from hsv.symm, if_neg (by omega), if_neg a1, if_neg a2]
          have hK : tK b n q = if b_sg (b s) then 4 else 1 := by unfold tK t_kd; rw [show t_st b n q = s from hsv.symm, if_neg (by omega), if_neg a1, if_neg a2]
          have gsg : ∀ dx : xM, dx = x_up d 62 (x_u1 (d 62) 18 ((s : Int) + 1)) → x_W (X, l, yX12_goes, cX12_goes, 2, none, x_room 1 0 0, 0, 0, (.inl none), N, sh, (fun d => gs b n q d ∧ gf D d), false, []) 268 [some (.ref (x_b X + 62)), some (.int (xI (mb b n s)))] [] 0 0 false N sh dx := by
            intro dx hdx
            by_cases a3 : b_sg (b s)
            · have a3m := u4.mpr a3
              have hK2 : tK b n q = 4 := by rw [hK, if_pos a3]
              have hbs : mb b n s = b s := u5 (by unfold b_sg at a3; omega)
              have g323 : x_W (X, l, yX12_goes, cX12_goes, 2, none, x_room 1 0 0, 0, 0, (.inl none), N, sh, (fun d => gs b n q d ∧ gf D d), false, []) 323 [some (.ref (x_b X + 62)), some (.int (xI (mb b n s)))] [.ref (x_b X + 62)] 0 0 false N sh dx := by
                refine x_iconst dX12_goes_323 ?_
                refine x_goto (t := 328) dX12_goes_324 rfl ?_
                refine x_putI 19 dX12_goes_328 fX_12_150 rfl tX_12_19 n62 s62 (by rfl) ?_
                try simp (disch := decide) only [x_up_s, x_up_n, x_up_up, x_u1_s, x_u1_n]
                subst hdx
                exact g331 (s + 1) _ _ (by omega) (by omega) hE (gf_u (gf_u hf (by decide) (by decide)) (by decide) (by decide)) (by rw [x_up_s, x_u1_n (by decide), x_up_s, x_u1_s]; push_cast; rfl) (by rw [x_up_s, x_u1_n (by decide), x_up_s, x_u1_n (by decide), f20]) (by rw [x_up_s, x_u1_s, hK2]; rfl) (fun a => by rw [hK2] at a; exact absurd a (by decide)) (fun _ => by rw [x_up_s, x_u1_n (by decide), x_up_s, x_u1_n (by decide), f23, hbs, show tS b n q = s from hsv.symm]) (fun a => by rw [hK2] at a; exact absurd a (by decide))
              unfold b_sg at a3m
              refine x_aload_n dX12_goes_268 x_get_2_0 ?_
              refine x_iload_n dX12_goes_269 x_get_2_1 ?_
              refine x_bipush dX12_goes_270 rfl ?_
              refine r_icmp_eq (t := 323) dX12_goes_272 rfl ⟨by omega, by omega⟩ ⟨by omega, by omega⟩ (fun hc272 => ?_) (fun hc272 => ?_)
              · exact g323
              · refine x_iload_n dX12_goes_275 x_get_2_1 ?_
                refine x_bipush dX12_goes_276 rfl ?_
                refine r_icmp_eq (t := 323) dX12_goes_278 rfl ⟨by omega, by omega⟩ ⟨by omega, by omega⟩ (fun hc278 => ?_) (fun hc278 => ?_)
                · exact g323
                · refine x_iload_n dX12_goes_281 x_get_2_1 ?_
                  refine x_bipush dX12_goes_282 rfl ?_
                  refine r_icmp_eq (t := 323) dX12_goes_284 rfl ⟨by omega, by omega⟩ ⟨by omega, by omega⟩ (fun hc284 => ?_) (fun hc284 => ?_)
                  · exact g323
                  · refine x_iload_n dX12_goes_287 x_get_2_1 ?_
                    refine x_bipush dX12_goes_288 rfl ?_
                    refine r_icmp_eq (t := 323) dX12_goes_290 rfl ⟨by omega, by omega⟩ ⟨by omega, by omega⟩ (fun hc290 => ?_) (fun hc290 => ?_)
                    · exact g323
                    · refine x_iload_n dX12_goes_293 x_get_2_1 ?_
                      refine x_bipush dX12_goes_294 rfl ?_
                      refine r_icmp_eq (t := 323) dX12_goes_296 rfl ⟨by omega, by omega⟩ ⟨by omega, by omega⟩ (fun hc296 => ?_) (fun hc296 => ?_)
                      · exact g323
                      · refine x_iload_n dX12_goes_299 x_get_2_1 ?_
                        refine x_bipush dX12_goes_300 rfl ?_
                        refine r_icmp_eq (t := 323) dX12_goes_302 rfl ⟨by omega, by omega⟩ ⟨by omega, by omega⟩ (fun hc302 => ?_) (fun hc302 => ?_)
                        · exact g323
                        · refine x_iload_n dX12_goes_305 x_get_2_1 ?_
                          refine x_bipush dX12_goes_306 rfl ?_
                          refine r_icmp_eq (t := 323) dX12_goes_308 rfl ⟨by omega, by omega⟩ ⟨by omega, by omega⟩ (fun hc308 => ?_) (fun hc308 => ?_)
                          · exact g323
                          · refine x_iload_n dX12_goes_311 x_get_2_1 ?_
                            refine x_bipush dX12_goes_312 rfl ?_
                            refine r_icmp_eq (t := 323) dX12_goes_314 rfl ⟨by omega, by omega⟩ ⟨by omega, by omega⟩ (fun hc314 => ?_) (fun hc314 => ?_)
                            · exact g323
                            · refine x_iload_n dX12_goes_317 x_get_2_1 ?_
                              refine x_bipush dX12_goes_318 rfl ?_
                              refine r_icmp_ne (t := 327) dX12_goes_320 rfl ⟨by omega, by omega⟩ ⟨by omega, by omega⟩ (fun hc320 => absurd hc320 (by omega)) (fun hc320 => ?_)
                              exact g323
            · have a3m : ¬ b_sg (mb b n s) := fun h => a3 (u4.mp h)
              have hK2 : tK b n q = 1 := by rw [hK, if_neg a3]
              unfold b_sg at a3m
              refine x_aload_n dX12_goes_268 x_get_2_0 ?_
              refine x_iload_n dX12_goes_269 x_get_2_1 ?_
              refine x_bipush dX12_goes_270 rfl ?_
              refine r_icmp_eq (t := 323) dX12_goes_272 rfl ⟨by omega, by omega⟩ ⟨by omega, by omega⟩ (fun hc272 => absurd hc272 (by omega)) (fun hc272 => ?_)
              refine x_iload_n dX12_goes_275 x_get_2_1 ?_
              refine x_bipush dX12_goes_276 rfl ?_
              refine r_icmp_eq (t := 323) dX12_goes_278 rfl ⟨by omega, by omega⟩ ⟨by omega, by omega⟩ (fun hc278 => absurd hc278 (by omega)) (fun hc278 => ?_)
              refine x_iload_n dX12_goes_281 x_get_2_1 ?_
              refine x_bipush dX12_goes_282 rfl ?_
              refine r_icmp_eq (t := 323) dX12_goes_284 rfl ⟨by omega, by omega⟩ ⟨by omega, by omega⟩ (fun hc284 => absurd hc284 (by omega)) (fun hc284 => ?_)
              refine x_iload_n dX12_goes_287 x_get_2_1 ?_
              refine x_bipush dX12_goes_288 rfl ?_
              refine r_icmp_eq (t := 323) dX12_goes_290 rfl ⟨by omega, by omega⟩ ⟨by omega, by omega⟩ (fun hc290 => absurd hc290 (by omega)) (fun hc290 => ?_)
              refine x_iload_n dX12_goes_293 x_get_2_1 ?_
              refine x_bipush dX12_goes_294 rfl ?_
              refine r_icmp_eq (t := 323) dX12_goes_296 rfl ⟨by omega, by omega⟩ ⟨by omega, by omega⟩ (fun hc296 => absurd hc296 (by omega)) (fun hc296 => ?_)
              refine x_iload_n dX12_goes_299 x_get_2_1 ?_
              refine x_bipush dX12_goes_300 rfl ?_
              refine r_icmp_eq (t := 323) dX12_goes_302 rfl ⟨by omega, by omega⟩ ⟨by omega, by omega⟩ (fun hc302 => absurd hc302 (by omega)) (fun hc302 => ?_)
              refine x_iload_n dX12_goes_305 x_get_2_1 ?_
              refine x_bipush dX12_goes_306 rfl ?_
              refine r_icmp_eq (t := 323) dX12_goes_308 rfl ⟨by omega, by omega⟩ ⟨by omega, by omega⟩ (fun hc308 => absurd hc308 (by omega)) (fun hc308 => ?_)
              refine x_iload_n dX12_goes_311 x_get_2_1 ?_
              refine x_bipush dX12_goes_312 rfl ?_
              refine r_icmp_eq (t := 323) dX12_goes_314 rfl ⟨by omega, by omega⟩ ⟨by omega, by omega⟩ (fun hc314 => absurd hc314 (by omega)) (fun hc314 => ?_)
              refine x_iload_n dX12_goes_317 x_get_2_1 ?_
              refine x_bipush dX12_goes_318 rfl ?_
              refine r_icmp_ne (t := 327) dX12_goes_320 rfl ⟨by omega, by omega⟩ ⟨by omega, by omega⟩ (fun hc320 => ?_) (fun hc320 => absurd hc320 (by omega))
              refine x_iconst dX12_goes_327 ?_
              refine x_putI 19 dX12_goes_328 fX_12_150 rfl tX_12_19 n62 s62 (by rfl) ?_
              try simp (disch := decide) only [x_up_s, x_up_n, x_up_up, x_u1_s, x_u1_n]
              subst hdx
              exact g331 (s + 1) _ _ (by omega) (by omega) hE (gf_u (gf_u hf (by decide) (by decide)) (by decide) (by decide)) (by rw [x_up_s, x_u1_n (by decide), x_up_s, x_u1_s]; push_cast; rfl) (by rw [x_up_s, x_u1_n (by decide), x_up_s, x_u1_n (by decide), f20]) (by rw [x_up_s, x_u1_s, hK2]; rfl) (fun a => by rw [hK2] at a; exact absurd a (by decide)) (fun a => by rw [hK2] at a; exact absurd a (by decide)) (fun a => by rw [hK2] at a; exact absurd a (by decide))
          refine x_aload_n dX12_goes_82 x_get_2_0 ?_
          refine x_getI 18 dX12_goes_83 fX_12_130 rfl n62 s62 (by rfl) ?_
          try simp (disch := decide) only [x_up_s, x_up_n, x_up_up, x_u1_s, x_u1_n, f18, f17]
          refine x_aload_n dX12_goes_86 x_get_2_0 ?_
          refine x_getI 17 dX12_goes_87 fX_12_127 rfl n62 s62 (by rfl) ?_
          try simp (disch := decide) only [x_up_s, x_up_n, x_up_up, x_u1_s, x_u1_n, f18, f17]
          refine r_icmp_lt (t := 101) dX12_goes_90 rfl ⟨by omega, by omega⟩ ⟨by omega, by omega⟩ (fun hc90 => ?_) (fun hc90 => absurd hc90 (by omega))
          refine x_iload_n dX12_goes_101 x_get_2_1 ?_
          refine x_callS (As := [_]) dX12_goes_102 w_12_153 (m_isLetter hl ⟨by omega, by omega⟩) rfl rfl (Nat.le_of_ble_eq_true rfl) (Nat.le_of_ble_eq_true rfl) (Nat.le_of_ble_eq_true rfl) (Nat.le_of_ble_eq_true rfl) (Nat.le_of_ble_eq_true rfl) ?_
          intro d hd
          obtain rfl := Eq.symm hd
          refine b_ifeq (t := 180) dX12_goes_105 rfl (fun hc105 => ?_) (fun hc105 => absurd hc105 (a1m))
          refine x_iload_n dX12_goes_180 x_get_2_1 ?_
          refine x_callS (As := [_]) dX12_goes_181 w_12_157 (m_isDigit hl ⟨by omega, by omega⟩) rfl rfl (Nat.le_of_ble_eq_true rfl) (Nat.le_of_ble_eq_true rfl) (Nat.le_of_ble_eq_true rfl) (Nat.le_of_ble_eq_true rfl) (Nat.le_of_ble_eq_true rfl) ?_
          intro d hd
          obtain rfl := Eq.symm hd
          refine b_ifeq (t := 258) dX12_goes_184 rfl (fun hc184 => ?_) (fun hc184 => absurd hc184 (a2m))
          refine x_aload_n dX12_goes_258 x_get_2_0 ?_
          refine x_dup dX12_goes_259 rfl ?_
          refine x_getI 18 dX12_goes_260 fX_12_130 rfl n62 s62 (by rfl) ?_
          try simp (disch := decide) only [x_up_s, x_up_n, x_up_up, x_u1_s, x_u1_n, f18, f17]
          refine x_iconst dX12_goes_263 ?_
          refine x_iadd dX12_goes_264 ?_
          refine x_putI 18 dX12_goes_265 fX_12_130 rfl tX_12_18 n62 s62 (by rfl) ?_
          try simp (disch := decide) only [x_up_s, x_up_n, x_up_up, x_u1_s, x_u1_n, f18, f17]
          exact gsg _ rfl
    · have hK : tK b n q = 0 := by unfold tK t_kd; rw [show t_st b n q = s from hsv.symm, if_pos (by omega)]
      have hE : s = tE b n q := by unfold tE t_en; rw [show t_st b n q = s from hsv.symm, if_pos (by omega)]
      refine x_aload_n dX12_goes_82 x_get_2_0 ?_
      refine x_getI 18 dX12_goes_83 fX_12_130 rfl n62 s62 (by rfl) ?_
      try simp (disch := decide) only [x_up_s, x_up_n, x_up_up, x_u1_s, x_u1_n, f18, f17]
      refine x_aload_n dX12_goes_86 x_get_2_0 ?_
      refine x_getI 17 dX12_goes_87 fX_12_127 rfl n62 s62 (by rfl) ?_
      try simp (disch := decide) only [x_up_s, x_up_n, x_up_up, x_u1_s, x_u1_n, f18, f17]
      refine r_icmp_lt (t := 101) dX12_goes_90 rfl ⟨by omega, by omega⟩ ⟨by omega, by omega⟩ (fun hc90 => absurd hc90 (by omega)) (fun hc90 => ?_)
      refine x_aload_n dX12_goes_93 x_get_2_0 ?_
      refine x_iconst dX12_goes_94 ?_
      refine x_putI 19 dX12_goes_95 fX_12_150 rfl tX_12_19 n62 s62 (by rfl) ?_
      try simp (disch := decide) only [x_up_s, x_up_n, x_up_up, x_u1_s, x_u1_n, f18, f17]
      refine x_goto (t := 331) dX12_goes_98 rfl ?_
      exact g331 s _ _ (Nat.le_refl _) hsn hE (gf_u hf (by decide) (by decide)) (by rw [x_up_s, x_u1_n (by decide), f18]) (by rw [x_up_s, x_u1_n (by decide), f20]) (by rw [x_up_s, x_u1_s, hK]; rfl) (fun a => by rw [hK] at a; exact absurd a (by decide)) (fun a => by rw [hK] at a; exact absurd a (by decide)) (fun a => by rw [hK] at a; exact absurd a (by decide))
  have g50 : ∀ (d : xM) (o1 : Option Value), gf D d → d 62 18 = (s : Nat) → x_W (X, l, yX12_goes, cX12_goes, 2, none, x_room 1 0 0, 0, 0, (.inl none), N, sh, (fun d => gs b n q d ∧ gf D d), false, []) 50 [some (.ref (x_b X + 62)), o1] [] 0 0 false N sh d := by
    intro d o1 hf f18
    have hf2 := gf_u (i := 22) (v := 0) (gf_u (i := 24) (v := 0) (gf_u (i := 20) (v := (s : Nat)) hf (by decide) (by decide)) (by decide) (by decide)) (by decide) (by decide)
    simp (disch := decide) only [x_up_s, x_up_up] at hf2
    have hmt := mtp_f ht hf2
    refine x_aload_n dX12_goes_50 x_get_2_0 ?_
    refine x_aload_n dX12_goes_51 x_get_2_0 ?_
    refine x_getI 18 dX12_goes_52 fX_12_130 rfl n62 s62 (by rfl) ?_
    try simp (disch := decide) only [x_up_s, x_up_n, x_up_up, x_u1_s, x_u1_n, f18]
    refine x_putI 20 dX12_goes_55 fX_12_137 rfl tX_12_20 n62 s62 (by rfl) ?_
    try simp (disch := decide) only [x_up_s, x_up_n, x_up_up, x_u1_s, x_u1_n, f18]
    refine x_aload_n dX12_goes_58 x_get_2_0 ?_
    refine x_lconst (z := 0) dX12_goes_59 rfl ?_
    refine x_putL 24 dX12_goes_60 fX_12_140 rfl tX_12_24 n62 s62 (by rfl) ?_
    try simp (disch := decide) only [x_up_s, x_up_n, x_up_up, x_u1_s, x_u1_n, f18]
    refine x_aload_n dX12_goes_63 x_get_2_0 ?_
    refine x_iconst dX12_goes_64 ?_
    refine x_putI 22 dX12_goes_65 fX_12_144 rfl tX_12_22 n62 s62 (by rfl) ?_
    try simp (disch := decide) only [x_up_s, x_up_n, x_up_up, x_u1_s, x_u1_n, f18]
    refine x_aload_n dX12_goes_68 x_get_2_0 ?_
    refine x_aload_n dX12_goes_69 x_get_2_0 ?_
    refine x_getI 18 dX12_goes_70 fX_12_130 rfl n62 s62 (by rfl) ?_
    try simp (disch := decide) only [x_up_s, x_up_n, x_up_up, x_u1_s, x_u1_n, f18]
    refine x_callV (As := [_]) dX12_goes_73 w_12_133 (m_byteAt hl hM hmt (k := s) (by omega)) (by assumption) (by assumption) rfl rfl (Nat.le_of_ble_eq_true rfl) (Nat.le_of_ble_eq_true rfl) (Nat.le_of_ble_eq_true rfl) (Nat.le_of_ble_eq_true rfl) (Nat.le_of_ble_eq_true rfl) ?_
    intro d hd
    obtain rfl := Eq.symm hd
    refine x_istore_n dX12_goes_76 (Nat.le_of_ble_eq_true rfl) rfl x_set_2_1 ?_
    refine x_aload_n dX12_goes_77 x_get_2_0 ?_
    refine x_iload_n dX12_goes_78 x_get_2_1 ?_
    refine x_putI 23 dX12_goes_79 fX_12_147 rfl tX_12_23 n62 s62 (by rfl) ?_
    try simp (disch := decide) only [x_up_s, x_up_n, x_up_up, x_u1_s, x_u1_n, f18]
    refine g82 _ ?_ ?_ ?_ ?_ ?_ ?_
    · have h9 := gf_u (i := 23) (v := mb b n s) hf2 (by decide) (by decide)
      simp (disch := decide) only [x_up_s, x_up_up] at h9
      exact h9
    · rw [x_up_s, x_u1_n (by decide), x_u1_n (by decide), x_u1_n (by decide), x_u1_n (by decide), f18]
    · rw [x_up_s, x_u1_n (by decide), x_u1_n (by decide), x_u1_n (by decide), x_u1_s]
    · rw [x_up_s, x_u1_n (by decide), x_u1_s]
    · rw [x_up_s, x_u1_s]
    · rw [x_up_s, x_u1_n (by decide), x_u1_n (by decide), x_u1_s]
  have g0 : ∀ (k q1 : Nat) (d : xM) (o1 : Option Value), q1 + k = n → s = t_st b n q1 → gf D d → d 62 18 = (q1 : Nat) → x_W (X, l, yX12_goes, cX12_goes, 2, none, x_room 1 0 0, 0, 0, (.inl none), N, sh, (fun d => gs b n q d ∧ gf D d), false, []) 0 [some (.ref (x_b X + 62)), o1] [] 0 0 false N sh d := by
    intro k
    induction k with
    | zero =>
      intro q1 d o1 hk hr hf f18
      have f17 : d 62 17 = n := (mtp_f ht hf).1
      have e1 : s = q1 := by rw [hr]; exact t_run_e (by omega)
      refine x_aload_n dX12_goes_0 x_get_2_0 ?_
      refine x_getI 18 dX12_goes_1 fX_12_130 rfl n62 s62 (by rfl) ?_
      try simp (disch := decide) only [x_up_s, x_up_n, x_up_up, x_u1_s, x_u1_n, f18, f17]
      refine x_aload_n dX12_goes_4 x_get_2_0 ?_
      refine x_getI 17 dX12_goes_5 fX_12_127 rfl n62 s62 (by rfl) ?_
      try simp (disch := decide) only [x_up_s, x_up_n, x_up_up, x_u1_s, x_u1_n, f18, f17]
      refine r_icmp_ge (t := 50) dX12_goes_8 rfl ⟨by omega, by omega⟩ ⟨by omega, by omega⟩ (fun hc8 => ?_) (fun hc8 => absurd hc8 (by omega))
      exact g50 _ _ hf (by rw [f18, e1])
    | succ k ih =>
      intro q1 d o1 hk hr hf f18
      have f17 : d 62 17 = n := (mtp_f ht hf).1
      have hmt := mtp_f ht hf
      have hmi := mb_in (b := b) (n := n) (k := q1) ht
      have hub := mb_ub (b := b) (show q1 < n by omega)
      have u3 := (ub_lt ht (show q1 < n by omega)).2.2.1
      rw [← hub] at u3
      by_cases hw : b_ws (b q1)
      · have hwm := u3.mpr hw
        have hr2 : s = t_st b n (q1 + 1) := by rw [hr]; exact t_run_y (by omega) hw
        have hnx : gf D (x_up d 62 (x_u1 (d 62) 18 ((q1 : Int) + 1))) := gf_u hf (by decide) (by decide)
        unfold b_ws at hwm
        refine x_aload_n dX12_goes_0 x_get_2_0 ?_
        refine x_getI 18 dX12_goes_1 fX_12_130 rfl n62 s62 (by rfl) ?_
        try simp (disch := decide) only [x_up_s, x_up_n, x_up_up, x_u1_s, x_u1_n, f18, f17]
        refine x_aload_n dX12_goes_4 x_get_2_0 ?_
        refine x_getI 17 dX12_goes_5 fX_12_127 rfl n62 s62 (by rfl) ?_
        try simp (disch := decide) only [x_up_s, x_up_n, x_up_up, x_u1_s, x_u1_n, f18, f17]
        refine r_icmp_ge (t := 50) dX12_goes_8 rfl ⟨by omega, by omega⟩ ⟨by omega, by omega⟩ (fun hc8 => absurd hc8 (by omega)) (fun hc8 => ?_)
        refine x_aload_n dX12_goes_11 x_get_2_0 ?_
        refine x_aload_n dX12_goes_12 x_get_2_0 ?_
        refine x_getI 18 dX12_goes_13 fX_12_130 rfl n62 s62 (by rfl) ?_
        try simp (disch := decide) only [x_up_s, x_up_n, x_up_up, x_u1_s, x_u1_n, f18, f17]
        refine x_callV (As := [_]) dX12_goes_16 w_12_133 (m_byteAt hl hM hmt (k := q1) (by omega)) (by assumption) (by assumption) rfl rfl (Nat.le_of_ble_eq_true rfl) (Nat.le_of_ble_eq_true rfl) (Nat.le_of_ble_eq_true rfl) (Nat.le_of_ble_eq_true rfl) (Nat.le_of_ble_eq_true rfl) ?_
        intro d hd
        obtain rfl := Eq.symm hd
        refine x_bipush dX12_goes_19 rfl ?_
        refine r_icmp_eq (t := 37) dX12_goes_21 rfl ⟨by omega, by omega⟩ ⟨by omega, by omega⟩ (fun hc21 => ?_) (fun hc21 => ?_)
        · refine x_aload_n dX12_goes_37 x_get_2_0 ?_
          refine x_dup dX12_goes_38 rfl ?_
          refine x_getI 18 dX12_goes_39 fX_12_130 rfl n62 s62 (by rfl) ?_
          try simp (disch := decide) only [x_up_s, x_up_n, x_up_up, x_u1_s, x_u1_n, f18, f17]
          refine x_iconst dX12_goes_42 ?_
          refine x_iadd dX12_goes_43 ?_
          refine x_putI 18 dX12_goes_44 fX_12_130 rfl tX_12_18 n62 s62 (by rfl) ?_
          try simp (disch := decide) only [x_up_s, x_up_n, x_up_up, x_u1_s, x_u1_n, f18, f17]
          refine x_goto (t := 0) dX12_goes_47 rfl ?_
          exact ih (q1 + 1) _ _ (by omega) hr2 hnx (by rw [x_up_s, x_u1_s]; push_cast; rfl)
        · refine x_aload_n dX12_goes_24 x_get_2_0 ?_
          refine x_aload_n dX12_goes_25 x_get_2_0 ?_
          refine x_getI 18 dX12_goes_26 fX_12_130 rfl n62 s62 (by rfl) ?_
          try simp (disch := decide) only [x_up_s, x_up_n, x_up_up, x_u1_s, x_u1_n, f18, f17]
          refine x_callV (As := [_]) dX12_goes_29 w_12_133 (m_byteAt hl hM hmt (k := q1) (by omega)) (by assumption) (by assumption) rfl rfl (Nat.le_of_ble_eq_true rfl) (Nat.le_of_ble_eq_true rfl) (Nat.le_of_ble_eq_true rfl) (Nat.le_of_ble_eq_true rfl) (Nat.le_of_ble_eq_true rfl) ?_
          intro d hd
          obtain rfl := Eq.symm hd
          refine x_bipush dX12_goes_32 rfl ?_
          refine r_icmp_ne (t := 50) dX12_goes_34 rfl ⟨by omega, by omega⟩ ⟨by omega, by omega⟩ (fun hc34 => absurd hc34 (by omega)) (fun hc34 => ?_)
          refine x_aload_n dX12_goes_37 x_get_2_0 ?_
          refine x_dup dX12_goes_38 rfl ?_
          refine x_getI 18 dX12_goes_39 fX_12_130 rfl n62 s62 (by rfl) ?_
          try simp (disch := decide) only [x_up_s, x_up_n, x_up_up, x_u1_s, x_u1_n, f18, f17]
          refine x_iconst dX12_goes_42 ?_
          refine x_iadd dX12_goes_43 ?_
          refine x_putI 18 dX12_goes_44 fX_12_130 rfl tX_12_18 n62 s62 (by rfl) ?_
          try simp (disch := decide) only [x_up_s, x_up_n, x_up_up, x_u1_s, x_u1_n, f18, f17]
          refine x_goto (t := 0) dX12_goes_47 rfl ?_
          exact ih (q1 + 1) _ _ (by omega) hr2 hnx (by rw [x_up_s, x_u1_s]; push_cast; rfl)
      · have hwm : ¬ b_ws (mb b n q1) := fun h => hw (u3.mp h)
        have e1 : s = q1 := by rw [hr]; exact t_run_n hw
        unfold b_ws at hwm
        refine x_aload_n dX12_goes_0 x_get_2_0 ?_
        refine x_getI 18 dX12_goes_1 fX_12_130 rfl n62 s62 (by rfl) ?_
        try simp (disch := decide) only [x_up_s, x_up_n, x_up_up, x_u1_s, x_u1_n, f18, f17]
        refine x_aload_n dX12_goes_4 x_get_2_0 ?_
        refine x_getI 17 dX12_goes_5 fX_12_127 rfl n62 s62 (by rfl) ?_
        try simp (disch := decide) only [x_up_s, x_up_n, x_up_up, x_u1_s, x_u1_n, f18, f17]
        refine r_icmp_ge (t := 50) dX12_goes_8 rfl ⟨by omega, by omega⟩ ⟨by omega, by omega⟩ (fun hc8 => absurd hc8 (by omega)) (fun hc8 => ?_)
        refine x_aload_n dX12_goes_11 x_get_2_0 ?_
        refine x_aload_n dX12_goes_12 x_get_2_0 ?_
        refine x_getI 18 dX12_goes_13 fX_12_130 rfl n62 s62 (by rfl) ?_
        try simp (disch := decide) only [x_up_s, x_up_n, x_up_up, x_u1_s, x_u1_n, f18, f17]
        refine x_callV (As := [_]) dX12_goes_16 w_12_133 (m_byteAt hl hM hmt (k := q1) (by omega)) (by assumption) (by assumption) rfl rfl (Nat.le_of_ble_eq_true rfl) (Nat.le_of_ble_eq_true rfl) (Nat.le_of_ble_eq_true rfl) (Nat.le_of_ble_eq_true rfl) (Nat.le_of_ble_eq_true rfl) ?_
        intro d hd
        obtain rfl := Eq.symm hd
        refine x_bipush dX12_goes_19 rfl ?_
        refine r_icmp_eq (t := 37) dX12_goes_21 rfl ⟨by omega, by omega⟩ ⟨by omega, by omega⟩ (fun hc21 => absurd hc21 (by omega)) (fun hc21 => ?_)
        refine x_aload_n dX12_goes_24 x_get_2_0 ?_
        refine x_aload_n dX12_goes_25 x_get_2_0 ?_
        refine x_getI 18 dX12_goes_26 fX_12_130 rfl n62 s62 (by rfl) ?_
        try simp (disch := decide) only [x_up_s, x_up_n, x_up_up, x_u1_s, x_u1_n, f18, f17]
        refine x_callV (As := [_]) dX12_goes_29 w_12_133 (m_byteAt hl hM hmt (k := q1) (by omega)) (by assumption) (by assumption) rfl rfl (Nat.le_of_ble_eq_true rfl) (Nat.le_of_ble_eq_true rfl) (Nat.le_of_ble_eq_true rfl) (Nat.le_of_ble_eq_true rfl) (Nat.le_of_ble_eq_true rfl) ?_
        intro d hd
        obtain rfl := Eq.symm hd
        refine x_bipush dX12_goes_32 rfl ?_
        refine r_icmp_ne (t := 50) dX12_goes_34 rfl ⟨by omega, by omega⟩ ⟨by omega, by omega⟩ (fun hc34 => ?_) (fun hc34 => absurd hc34 (by omega))
        exact g50 _ _ hf (by rw [f18, e1])
  refine x_ofW (by decide +kernel) hl (by simp [Value.category]) (by simp) ?_
  exact g0 (n - q) q D _ (by omega) hsv gf_rf h18
end M9994
