section M79
/-! ===== the Model: what is sent, the hold ===== -/
theorem ms_88 {D d : xM} (h : ms D d) {F : Int → Int} : ms D (x_up d 88 F) := ⟨fun j a b c e g => by rw [x_up_n (by omega)]; exact h.1 j a b c e g, fun i a b c => by rw [x_up_n (by decide)]; exact h.2.1 i a b c, fun i hi => by rw [x_up_n (by decide)]; exact h.2.2.1 i hi, by rw [x_up_n (by decide)]; exact h.2.2.2⟩
theorem b_or_bit {m c i : Nat} : (m ||| 2 ^ c).testBit i = true ↔ (m.testBit i = true ∨ i = c) := by
  rw [Nat.testBit_or, Nat.testBit_two_pow, Bool.or_eq_true, decide_eq_true_iff]
  constructor
  · rintro (h | h)
    · exact Or.inl h
    · exact Or.inr h.symm
  · rintro (h | h)
    · exact Or.inl h
    · exact Or.inr h.symm
theorem b_or_gt {m c : Nat} (h : ¬ m.testBit c = true) : m < m ||| 2 ^ c := by
  have h1 : m ≤ m ||| 2 ^ c := Nat.left_le_or
  rcases Nat.lt_or_eq_of_le h1 with h2 | h2
  · exact h2
  · exfalso
    apply h
    have := (b_or_bit (m := m) (c := c) (i := c)).mpr (Or.inr rfl)
    rw [← h2] at this
    exact this
theorem b_or_sub {m c al : Nat} (h : b_sub m al = 0) (hc : al.testBit c = true) : b_sub (m ||| 2 ^ c) al = 0 := by
  apply Nat.eq_of_testBit_eq
  intro i
  rw [Nat.zero_testBit]
  cases hb : (b_sub (m ||| 2 ^ c) al).testBit i with
  | false => rfl
  | true =>
    exfalso
    rw [b_sub_bit, Bool.and_eq_true] at hb
    rcases b_or_bit.mp hb.1 with h1 | h1
    · have : (b_sub m al).testBit i = true := by rw [b_sub_bit, h1, hb.2]; rfl
      rw [h] at this
      simp at this
    · subst h1
      rw [hc] at hb
      simp at hb
theorem b_rest {m c al : Nat} : b_sub al (m ||| 2 ^ c) = b_sub (b_sub al m) (2 ^ c) := by
  apply Nat.eq_of_testBit_eq
  intro i
  rw [b_sub_bit, b_sub_bit, b_sub_bit, Nat.testBit_or]
  cases al.testBit i <;> cases m.testBit i <;> cases (2 ^ c).testBit i <;> rfl
theorem b_sub0_le {m al : Nat} (h : b_sub m al = 0) : m ≤ al := by
  have e : m = m &&& al := by
    apply Nat.eq_of_testBit_eq
    intro i
    rw [Nat.testBit_and]
    have := congrArg (fun z => Nat.testBit z i) h
    simp only [b_sub_bit, Nat.zero_testBit] at this
    revert this
    cases m.testBit i <;> cases al.testBit i <;> simp
  rw [e]
  exact Nat.and_le_right
theorem b_sub_in {m al i : Nat} (h : b_sub m al = 0) (hi : m.testBit i = true) : al.testBit i = true := by
  have := congrArg (fun z => Nat.testBit z i) h
  simp only [b_sub_bit, Nat.zero_testBit, hi] at this
  revert this
  cases al.testBit i <;> simp
theorem b_sub_0 {m : Nat} : b_sub m 0 = m := by unfold b_sub; simp
theorem b_sub_self {m : Nat} : b_sub m m = 0 := by unfold b_sub; simp
theorem b_rbit {al m i : Nat} : (b_sub al m).testBit i = true ↔ (al.testBit i = true ∧ ¬ m.testBit i = true) := by
  rw [b_sub_bit, Bool.and_eq_true]
  cases m.testBit i <;> simp
def h_fd (f : Int → Int) (al set : Nat) (c : Int) : Nat → Int
  | 0 => if set = al then 0 else 99999
  | d + 1 => if al.testBit d = true ∧ ¬ set.testBit d = true then min (h_fd f al set c d) (k_btw f c d + k_behind f d (b_sub al (set ||| 2 ^ d))) else h_fd f al set c d
theorem h_fd_s {f : Int → Int} {al set : Nat} {c : Int} {d : Nat} : h_fd f al set c (d + 1) = if al.testBit d = true ∧ ¬ set.testBit d = true then min (h_fd f al set c d) (k_btw f c d + k_behind f d (b_sub al (set ||| 2 ^ d))) else h_fd f al set c d := rfl
theorem h_fd_ge {B : Int} {f : Int → Int} (hk : s_ok B f) {al set : Nat} (hal : al < 1024) {c : Int} (hc0 : 0 ≤ c) (hc1 : c < 10) : ∀ d : Nat, k_behind f c (b_sub al set) ≤ h_fd f al set c d ∧ h_fd f al set c d ≤ 99999
  | 0 => by
    have := k_behind_in hk hc0 hc1 (b_sub al set)
    unfold h_fd
    split
    · next h => rw [h, b_sub_self, k_behind_0]; exact ⟨by decide, by decide⟩
    · omega
  | d + 1 => by
    have ih := h_fd_ge hk (set := set) hal hc0 hc1 d
    rw [h_fd_s]
    split
    · next h =>
      have := kb_ge hk hc0 hc1 (b_sub_lt hal) (b_rbit.mpr h)
      rw [b_rest]
      omega
    · exact ih
theorem h_fd_le {f : Int → Int} {al set : Nat} {c : Int} {d : Nat} (hd : al.testBit d = true ∧ ¬ set.testBit d = true) : ∀ n : Nat, d < n → h_fd f al set c n ≤ k_btw f c d + k_behind f d (b_sub al (set ||| 2 ^ d))
  | 0, h => by omega
  | n + 1, h => by
    rw [h_fd_s]
    by_cases hn : d = n
    · subst hn; rw [if_pos hd]; omega
    · have := h_fd_le (c := c) (f := f) hd n (by omega)
      split <;> omega
theorem h_fd_eq {B : Int} {f : Int → Int} (hk : s_ok B f) {al set C : Nat} (hal : al < 1024) (hb : ∀ i, al.testBit i = true → i < C) {c : Int} (hc0 : 0 ≤ c) (hc1 : c < 10) (hs : b_sub set al = 0) : h_fd f al set c C = k_behind f c (b_sub al set) := by
  have h1 := (h_fd_ge hk (set := set) hal hc0 hc1 C).1
  by_cases h0 : b_sub al set = 0
  · have he : set = al := Nat.le_antisymm (b_sub0_le hs) (b_sub0_le h0)
    subst he
    have : ∀ n : Nat, h_fd f set set c n = 0 := by
      intro n
      induction n with
      | zero => exact if_pos rfl
      | succ n ih => rw [h_fd_s, if_neg (fun h => h.2 h.1)]; exact ih
    rw [this, b_sub_self, k_behind_0]
  · obtain ⟨d, hd1, hd2⟩ := kb_ex hk hc0 hc1 (b_sub_lt hal) h0
    have hd3 := b_rbit.mp hd1
    have h2 := h_fd_le (f := f) (c := c) hd3 C (hb d hd3.1)
    rw [b_rest, hd2] at h2
    omega
def h_ok (f : Int → Int) (al C s : Nat) (A : Int → Int) : Prop := ∀ x : Nat, s < x → b_sub x al = 0 → ∀ c : Nat, c < C → A (10 * (x : Int) + c) = k_behind f c (b_sub al x)
theorem x_or_2 {m c : Nat} (hm : m < 1024) (hc : c < 10) : x_or (m : Int) (x_sl 1 (c : Int)) = ((m ||| 2 ^ c : Nat) : Int) := by
  rw [x_sl1 c (by omega)]
  exact x_or_nat (by omega) (Nat.lt_of_lt_of_le (Nat.pow_lt_pow_right (by decide) hc) (by decide))
theorem b_or_lt {m c : Nat} (hm : m < 1024) (hc : c < 10) : m ||| 2 ^ c < 1024 := Nat.or_lt_two_pow (n := 10) hm (Nat.pow_lt_pow_right (by decide) hc)
def h_lm (f : Int → Int) (al : Nat) : Nat → Int
  | 0 => 99999
  | c + 1 => if al.testBit c = true then min (h_lm f al c) (k_behind f c (b_sub al (2 ^ c))) else h_lm f al c
theorem h_lm_s {f : Int → Int} {al c : Nat} : h_lm f al (c + 1) = if al.testBit c = true then min (h_lm f al c) (k_behind f c (b_sub al (2 ^ c))) else h_lm f al c := rfl
theorem h_lm_ge {B : Int} {f : Int → Int} (hk : s_ok B f) {al : Nat} (hal : al < 1024) : ∀ c : Nat, k_harm f al ≤ h_lm f al c ∧ h_lm f al c ≤ 99999
  | 0 => by have := k_harm_in hk al; unfold h_lm; omega
  | c + 1 => by
    have ih := h_lm_ge hk hal c
    rw [h_lm_s]
    split
    · next h => have := kh_ge hk hal h; omega
    · exact ih
theorem h_lm_le {f : Int → Int} {al d : Nat} (hd : al.testBit d = true) : ∀ n : Nat, d < n → h_lm f al n ≤ k_behind f d (b_sub al (2 ^ d))
  | 0, h => by omega
  | n + 1, h => by
    rw [h_lm_s]
    by_cases hn : d = n
    · subst hn; rw [if_pos hd]; omega
    · have := h_lm_le (f := f) hd n (by omega)
      split <;> omega
theorem h_lm_eq {B : Int} {f : Int → Int} (hk : s_ok B f) {al C : Nat} (hal : al < 1024) (hb : ∀ i, al.testBit i = true → i < C) (h0 : ¬ al = 0) : h_lm f al C = k_harm f al := by
  have h1 := (h_lm_ge hk hal C).1
  obtain ⟨d, hd1, hd2⟩ := kh_ex hk hal h0
  have h2 := h_lm_le (f := f) hd1 C (hb d hd1)
  omega
theorem k_harm_0 {f : Int → Int} : k_harm f 0 = 0 := by
  have := k_behind_0 (f := f) (c := 0)
  unfold k_behind at this
  rw [if_pos (Or.inl rfl)] at this
  exact this
theorem w_12_402 : x_cv RX12 402 yX12_comesTo cX12_comesTo 5 (some .int) 12 2 := ⟨⟨_, rfl, rfl⟩, (x_in 1863 (by decide +kernel) rfl), (x_in 1865 (by decide +kernel) rfl), (x_in 67 (by decide +kernel) rfl), (x_in 90 (by decide +kernel) rfl), (x_in 1866 (by decide +kernel) rfl), by decide, ⟨by decide +kernel, by decide +kernel, by decide +kernel⟩⟩
theorem m_comesTo {X : xC} {l : Launch} (hl : l.stackTraces = false) {N : Nat} {sh : xS} {D : xM} {T C W : Nat} {G : Ldt} (hq : mq N sh D T C W G) {B : Int} {f : Int → Int} (hk : s_ok B f) (hB : B ≤ 1000000) (hr : mr T C f (D 82) 0) {Lx : Int → Int} (he : D 87 = Lx) (hlx : ∀ j, 0 ≤ Lx j ∧ Lx j ≤ 99999) {c t : Int} (h0 : 0 ≤ c) (h1 : c < C) (ht0 : 0 ≤ t) (ht1 : t < 8) (hp0 : 0 ≤ f (55 + c)) : x_M X l yX12_comesTo cX12_comesTo 5 (some .int) 1 0 0 [.ref (x_b X + 62), .int (xI c), .int (xI t)] false N sh D (.inl (some (.int (xI (k_cm f Lx t c))))) false N sh (x_is (D)) := by
  obtain ⟨hM, hT, hTb, hW, hWb, hC, hCb, hmk, ⟨hG1, hG2, hG3⟩, hod⟩ := id hq
  have s62 := md_62 hM
  have n62 : 62 < N := md_n hM (by decide)
  have s87 := md_87 hM
  have n87 : 87 < N := md_n hM (by decide)
  have s82 := md_82 hM
  have n82 : 82 < N := md_n hM (by decide)
  have hcr := s_cr hk (c := c) (by omega) (by omega)
  have hl2 := hlx (f (55 + c) * 8 + t)
  have e25 : D 82 (25 + c) = f (25 + c) := mr_c hr rfl (by decide) h0 h1
  have e45 : D 82 (45 + c) = f (45 + c) := mr_c hr rfl (by decide) h0 h1
  have e55 : D 82 (55 + c) = f (55 + c) := mr_c hr rfl (by decide) h0 h1
  refine x_ofW (by decide +kernel) hl (by simp [Value.category]) (by simp) ?_
  refine x_aload_n dX12_comesTo_0 x_get_5_0 ?_
  refine x_getR dX12_comesTo_1 fX_12_90 n62 s62 (by rfl) ?_
  refine x_bipush dX12_comesTo_4 rfl ?_
  refine x_aload_n dX12_comesTo_6 x_get_5_0 ?_
  refine x_getR dX12_comesTo_7 fX_12_75 n62 s62 (by rfl) ?_
  refine x_bipush dX12_comesTo_10 rfl ?_
  refine x_iload_n dX12_comesTo_12 x_get_5_1 ?_
  refine x_iadd dX12_comesTo_13 ?_
  refine x_iald dX12_comesTo_14 n82 s82 (by omega) (by omega) (by decide) ?_
  try simp (disch := decide) only [x_up_s, x_up_n, x_up_up, x_u1_s, x_u1_n, e25, e45, e55, he]
  refine x_imul dX12_comesTo_15 ?_
  refine x_iload_n dX12_comesTo_16 x_get_5_2 ?_
  refine x_iadd dX12_comesTo_17 ?_
  refine x_as_is (show 8 * f (55 + c) + t = f (55 + c) * 8 + t by omega) ?_
  refine x_iald dX12_comesTo_18 n87 s87 (by omega) (by omega) (by decide) ?_
  try simp (disch := decide) only [x_up_s, x_up_n, x_up_up, x_u1_s, x_u1_n, e25, e45, e55, he]
  refine x_istore_n dX12_comesTo_19 (Nat.le_of_ble_eq_true rfl) rfl x_set_5_3 ?_
  refine x_iload_n dX12_comesTo_20 x_get_5_3 ?_
  refine x_ldcw (z := 99999) dX12_comesTo_21 k_RX12_395 ?_
  refine r_icmp_lt (t := 29) dX12_comesTo_24 rfl ⟨by omega, by omega⟩ ⟨by omega, by omega⟩ (fun hc24 => ?_) (fun hc24 => ?_)
  · refine x_aload_n dX12_comesTo_29 x_get_5_0 ?_
    refine x_getR dX12_comesTo_30 fX_12_75 n62 s62 (by rfl) ?_
    refine x_bipush dX12_comesTo_33 rfl ?_
    refine x_iload_n dX12_comesTo_35 x_get_5_1 ?_
    refine x_iadd dX12_comesTo_36 ?_
    refine x_iald dX12_comesTo_37 n82 s82 (by omega) (by omega) (by decide) ?_
    try simp (disch := decide) only [x_up_s, x_up_n, x_up_up, x_u1_s, x_u1_n, e25, e45, e55, he]
    refine x_aload_n dX12_comesTo_38 x_get_5_0 ?_
    refine x_getR dX12_comesTo_39 fX_12_75 n62 s62 (by rfl) ?_
    refine x_bipush dX12_comesTo_42 rfl ?_
    refine x_iload_n dX12_comesTo_44 x_get_5_1 ?_
    refine x_iadd dX12_comesTo_45 ?_
    refine x_iald dX12_comesTo_46 n82 s82 (by omega) (by omega) (by decide) ?_
    try simp (disch := decide) only [x_up_s, x_up_n, x_up_up, x_u1_s, x_u1_n, e25, e45, e55, he]
    refine x_iconst dX12_comesTo_47 ?_
    refine r_icmp_ne (t := 55) dX12_comesTo_48 rfl ⟨by omega, by omega⟩ ⟨by omega, by omega⟩ (fun hc48 => ?_) (fun hc48 => ?_)
    · refine x_iload_n dX12_comesTo_55 x_get_5_3 ?_
      refine x_isub dX12_comesTo_56 ?_
      refine x_istore dX12_comesTo_57 (Nat.le_of_ble_eq_true rfl) rfl x_set_5_4 ?_
      refine x_iload dX12_comesTo_59 x_get_5_4 ?_
      refine r_if_ge (t := 68) dX12_comesTo_61 rfl ⟨by omega, by omega⟩ (fun hc61 => ?_) (fun hc61 => ?_)
      · refine x_iload dX12_comesTo_68 x_get_5_4 ?_
        exact x_iret dX12_comesTo_70 rfl (Nat.le_of_ble_eq_true rfl) (Nat.le_of_ble_eq_true rfl) (by unfold k_cm; rw [if_neg (by omega)]; first | (rw [if_pos hc48, Int.max_eq_left (by omega)]; done) | (rw [if_pos hc48, Int.max_eq_right (by omega)]; done) | (rw [if_neg hc48, Int.max_eq_left (by omega)]; done) | (rw [if_neg hc48, Int.max_eq_right (by omega)]; done)) rfl rfl rfl rfl
      · refine x_iconst dX12_comesTo_64 ?_
        refine x_goto (t := 70) dX12_comesTo_65 rfl ?_
        exact x_iret dX12_comesTo_70 rfl (Nat.le_of_ble_eq_true rfl) (Nat.le_of_ble_eq_true rfl) (by unfold k_cm; rw [if_neg (by omega)]; first | (rw [if_pos hc48, Int.max_eq_left (by omega)]; done) | (rw [if_pos hc48, Int.max_eq_right (by omega)]; done) | (rw [if_neg hc48, Int.max_eq_left (by omega)]; done) | (rw [if_neg hc48, Int.max_eq_right (by omega)]; done)) rfl rfl rfl rfl
    · refine x_iconst dX12_comesTo_51 ?_
      refine x_goto (t := 56) dX12_comesTo_52 rfl ?_
      refine x_isub dX12_comesTo_56 ?_
      refine x_istore dX12_comesTo_57 (Nat.le_of_ble_eq_true rfl) rfl x_set_5_4 ?_
      refine x_iload dX12_comesTo_59 x_get_5_4 ?_
      refine r_if_ge (t := 68) dX12_comesTo_61 rfl ⟨by omega, by omega⟩ (fun hc61 => ?_) (fun hc61 => ?_)
      · refine x_iload dX12_comesTo_68 x_get_5_4 ?_
        exact x_iret dX12_comesTo_70 rfl (Nat.le_of_ble_eq_true rfl) (Nat.le_of_ble_eq_true rfl) (by unfold k_cm; rw [if_neg (by omega)]; first | (rw [if_pos hc48, Int.max_eq_left (by omega)]; done) | (rw [if_pos hc48, Int.max_eq_right (by omega)]; done) | (rw [if_neg hc48, Int.max_eq_left (by omega)]; done) | (rw [if_neg hc48, Int.max_eq_right (by omega)]; done)) rfl rfl rfl rfl
      · refine x_iconst dX12_comesTo_64 ?_
        refine x_goto (t := 70) dX12_comesTo_65 rfl ?_
        exact x_iret dX12_comesTo_70 rfl (Nat.le_of_ble_eq_true rfl) (Nat.le_of_ble_eq_true rfl) (by unfold k_cm; rw [if_neg (by omega)]; first | (rw [if_pos hc48, Int.max_eq_left (by omega)]; done) | (rw [if_pos hc48, Int.max_eq_right (by omega)]; done) | (rw [if_neg hc48, Int.max_eq_left (by omega)]; done) | (rw [if_neg hc48, Int.max_eq_right (by omega)]; done)) rfl rfl rfl rfl
  · refine x_iconst dX12_comesTo_27 ?_
    exact x_iret dX12_comesTo_28 rfl (Nat.le_of_ble_eq_true rfl) (Nat.le_of_ble_eq_true rfl) (by unfold k_cm; rw [if_pos (by omega)]) rfl rfl rfl rfl
set_option maxHeartbeats 16000000 in
theorem m_sending {X : xC} {l : Launch} (hl : l.stackTraces = false) {N : Nat} {sh : xS} {D : xM} {T C W : Nat} {G : Ldt} (hq : mq N sh D T C W G) {B : Int} {f : Int → Int} (hk : s_ok B f) (hB : B ≤ 200000) (hr : mr T C f (D 82) 0) (hv84 : ∀ j, x_r (D 84 j)) {one two span loss : Int → Int} (hw_ : mwy D W one two span loss) (hpl : pl_ok T C f) {t wa : Int} (htr : x_r t) (hnr : x_r wa) : x_M X l yX12_sending cX12_sending 8 (some .int) 4 0 0 [.ref (x_b X + 62), .int (xI t), .int (xI wa)] false N sh D (m_r (q_1t T t (if 1 ≤ wa ∧ wa ≤ 999 then o_i (f_snd f (f_M one two (fun w => span w * loss w) (-1) W T) t wa C (s_bits (fun c : Nat => s_lies f (c : Int) ∧ f (35 + (c : Int)) = 0 ∧ (f_M one two (fun w => span w * loss w) (-1) W T) (f (55 + (c : Int)) * 8 + t) < 99999) C) ((s_bits (fun c : Nat => s_lies f (c : Int) ∧ f (35 + (c : Int)) = 0 ∧ (f_M one two (fun w => span w * loss w) (-1) W T) (f (55 + (c : Int)) * 8 + t) < 99999) C) + 1)) else .inr x_IAE))) false N sh (fun d => ms D d ∧ d 62 0 = m_k 2 (q_1t T t (if 1 ≤ wa ∧ wa ≤ 999 then o_i (f_snd f (f_M one two (fun w => span w * loss w) (-1) W T) t wa C (s_bits (fun c : Nat => s_lies f (c : Int) ∧ f (35 + (c : Int)) = 0 ∧ (f_M one two (fun w => span w * loss w) (-1) W T) (f (55 + (c : Int)) * 8 + t) < 99999) C) ((s_bits (fun c : Nat => s_lies f (c : Int) ∧ f (35 + (c : Int)) = 0 ∧ (f_M one two (fun w => span w * loss w) (-1) W T) (f (55 + (c : Int)) * 8 + t) < 99999) C) + 1)) else .inr x_IAE))) := by
  obtain ⟨hM, hT, hTb, hW, hWb, hC, hCb, hmk, ⟨hG1, hG2, hG3⟩, hod⟩ := id hq
  have s62 := md_62 hM
  have n62 : 62 < N := md_n hM (by decide)
  have s82 := md_82 hM
  have n82 : 82 < N := md_n hM (by decide)
  have s87 := md_87 hM
  have n87 : 87 < N := md_n hM (by decide)
  obtain ⟨hv1, hv2⟩ := mwy_v hw_
  unfold q_1t
  by_cases ht : 0 ≤ t ∧ t < T
  · rw [if_pos ht]
    obtain ⟨ht0, ht1⟩ := id ht
    by_cases hn : 1 ≤ wa ∧ wa ≤ 999
    · rw [if_pos hn]
      obtain ⟨hn0, hn1⟩ := id hn
      have hfo := f_M_ok (one := one) (two := two) (but := (-1)) (W := W) (T := T) hv2
      have hal := s_bits_10 (p := (fun c : Nat => s_lies f (c : Int) ∧ f (35 + (c : Int)) = 0 ∧ (f_M one two (fun w => span w * loss w) (-1) W T) (f (55 + (c : Int)) * 8 + t) < 99999)) hCb
      have hbits : ∀ c, (s_bits (fun c : Nat => s_lies f (c : Int) ∧ f (35 + (c : Int)) = 0 ∧ (f_M one two (fun w => span w * loss w) (-1) W T) (f (55 + (c : Int)) * 8 + t) < 99999) C).testBit c = true → (fun c : Nat => s_lies f (c : Int) ∧ f (35 + (c : Int)) = 0 ∧ (f_M one two (fun w => span w * loss w) (-1) W T) (f (55 + (c : Int)) * 8 + t) < 99999) c ∧ c < C := fun c h => s_bits_bit h
      generalize hA : (s_bits (fun c : Nat => s_lies f (c : Int) ∧ f (35 + (c : Int)) = 0 ∧ (f_M one two (fun w => span w * loss w) (-1) W T) (f (55 + (c : Int)) * 8 + t) < 99999) C) = al at hal hbits ⊢
      rw [m_r_i, m_k_i]
      refine x_ofW (by decide +kernel) hl (by simp [Value.category]) (by simp) ?_
      refine x_aload_n dX12_sending_0 x_get_8_0 ?_
      refine x_iconst dX12_sending_1 ?_
      refine x_putI 0 dX12_sending_2 fX_12_117 rfl tX_12_0 n62 s62 (by rfl) ?_
      have z0 := m_go0 hq hr hv84
      generalize x_up D 62 (x_u1 (D 62) 0 0) = d0 at z0 ⊢
      obtain ⟨q0, t0, ms0, r0, v0⟩ := z0
      have w0 : mwy d0 W one two span loss := mwy_of hw_ (fun j a b => ms0.1 j (by omega) (by omega) (by omega) (by omega) (by omega))
      refine x_aload_n dX12_sending_5 x_get_8_0 ?_
      refine x_iload_n dX12_sending_6 x_get_8_1 ?_
      refine x_callV (As := [_]) dX12_sending_7 w_12_362 (m_isTownT hl q0 t0 ht) (by assumption) (by assumption) rfl rfl (Nat.le_of_ble_eq_true rfl) (Nat.le_of_ble_eq_true rfl) (Nat.le_of_ble_eq_true rfl) (Nat.le_of_ble_eq_true rfl) (Nat.le_of_ble_eq_true rfl) ?_
      intro dz hdz
      obtain rfl := Eq.symm hdz
      refine r_if_eq (t := 29) dX12_sending_10 rfl ⟨by omega, by omega⟩ (fun hc10 => absurd hc10 (by omega)) (fun hc10 => ?_)
      refine x_aload_n dX12_sending_13 x_get_8_0 ?_
      refine x_iload_n dX12_sending_14 x_get_8_2 ?_
      refine x_iconst dX12_sending_15 ?_
      refine x_sipush dX12_sending_16 rfl ?_
      refine x_callS (As := [_, _, _]) dX12_sending_19 w_12_346 (m_withinT hl hnr ⟨by decide, by decide⟩ ⟨by decide, by decide⟩ hn) rfl rfl (Nat.le_of_ble_eq_true rfl) (Nat.le_of_ble_eq_true rfl) (Nat.le_of_ble_eq_true rfl) (Nat.le_of_ble_eq_true rfl) (Nat.le_of_ble_eq_true rfl) ?_
      intro dz hdz
      obtain rfl := Eq.symm hdz
      refine x_iconst dX12_sending_22 ?_
      refine x_callV (As := [_, _]) dX12_sending_23 w_12_274 (m_rightT hl q0.1 t0) (by assumption) (by assumption) rfl rfl (Nat.le_of_ble_eq_true rfl) (Nat.le_of_ble_eq_true rfl) (Nat.le_of_ble_eq_true rfl) (Nat.le_of_ble_eq_true rfl) (Nat.le_of_ble_eq_true rfl) ?_
      intro dz hdz
      obtain rfl := Eq.symm hdz
      refine r_if_ne (t := 31) dX12_sending_26 rfl ⟨by omega, by omega⟩ (fun hc26 => ?_) (fun hc26 => absurd hc26 (by omega))
      refine x_aload_n dX12_sending_31 x_get_8_0 ?_
      refine x_iconst dX12_sending_32 ?_
      refine x_callV (As := [_]) dX12_sending_33 w_12_396 (m_measures hl q0 w0 (but := -1) ⟨by decide, by decide⟩) (by assumption) (by assumption) rfl rfl (Nat.le_of_ble_eq_true rfl) (Nat.le_of_ble_eq_true rfl) (Nat.le_of_ble_eq_true rfl) (Nat.le_of_ble_eq_true rfl) (Nat.le_of_ble_eq_true rfl) ?_
      rintro d1 hd1
      have m1 : ms d0 d1 := by rw [hd1]; exact ms_fl (ms_rf v0)
      have q1 := ms_mq q0 m1
      have r1 := ms_mr hTb hCb m1 r0
      have e87 : d1 87 = (f_M one two (fun w => span w * loss w) (-1) W T) := by rw [hd1, x_up_s]
      have t1 : d1 62 0 = 0 := by rw [hd1, x_up_n (by decide), x_up_n (by decide)]; exact t0
      have hC1 : d1 62 3 = C := q1.2.2.2.2.2.1
      skip
      have hloop : ∀ m : Nat, m ≤ al + 1 → ∀ o6 o7 : Option Value, x_W (X, l, yX12_sending, cX12_sending, 8, (some .int), x_room 4 0 0, 0, 0, (.inl (some (.int (xI (f_snd f (f_M one two (fun w => span w * loss w) (-1) W T) t wa C al (al + 1)))))), N, sh, (fun d => ms D d ∧ d 62 0 = 0), false, []) 122 [some (.ref (x_b X + 62)), some (.int (xI t)), some (.int (xI wa)), some (.int (xI (al : Int))), some (.int (xI (f_snd f (f_M one two (fun w => span w * loss w) (-1) W T) t wa C al m))), some (.int (xI (m : Int))), o6, o7] [] 0 0 false N sh d1 := by
        refine x_down (al + 1) ?_ ?_
        · intro o6 o7
          refine x_iload dX12_sending_122 x_get_8_5 ?_
          refine x_iload_n dX12_sending_124 x_get_8_3 ?_
          refine r_icmp_gt (t := 228) dX12_sending_125 rfl ⟨by omega, by omega⟩ ⟨by omega, by omega⟩ (fun hc125 => ?_) (fun hc125 => absurd hc125 (by omega))
          refine x_iload dX12_sending_228 x_get_8_4 ?_
          exact x_iret dX12_sending_230 rfl (Nat.le_of_ble_eq_true rfl) (Nat.le_of_ble_eq_true rfl) rfl rfl rfl ⟨ms_tr ms0 m1, t1⟩ rfl
        · intro m hm ih o6 o7
          have e := f_snd_s (f := f) (lk := (f_M one two (fun w => span w * loss w) (-1) W T)) (t := t) (wa := wa) (C := C) (al := al) (m := m)
          have hbl := f_snd_in (f := f) (lk := (f_M one two (fun w => span w * loss w) (-1) W T)) (t := t) (wa := wa) (C := C) (al := al) m
          generalize (f_snd f (f_M one two (fun w => span w * loss w) (-1) W T) t wa C al m) = b at e hbl ⊢
          have hbr : x_r b := by
            rcases hbl with h | ⟨bb, h1, h2⟩
            · rw [h]; exact ⟨by decide, by decide⟩
            · rw [h1]; exact ⟨by omega, by omega⟩
          have p2 := s_pop_le m (by omega)
          have tail : ∀ (o6 o7 : Option Value), x_W (X, l, yX12_sending, cX12_sending, 8, (some .int), x_room 4 0 0, 0, 0, (.inl (some (.int (xI (f_snd f (f_M one two (fun w => span w * loss w) (-1) W T) t wa C al (al + 1)))))), N, sh, (fun d => ms D d ∧ d 62 0 = 0), false, []) 222 [some (.ref (x_b X + 62)), some (.int (xI t)), some (.int (xI wa)), some (.int (xI (al : Int))), some (.int (xI (f_snd f (f_M one two (fun w => span w * loss w) (-1) W T) t wa C al (m + 1)))), some (.int (xI (m : Int))), o6, o7] [] 0 0 false N sh d1 := by
            intro o6 o7
            refine x_iinc dX12_sending_222 x_get_8_5 (Nat.le_of_ble_eq_true rfl) rfl x_set_8_5 ?_
            refine x_goto (t := 122) dX12_sending_225 rfl ?_
            exact ih _ _
          have sum : b_sub m al = 0 → (b = -1 ∨ s_pop m < s_pop b.toNat) → ∀ c : Nat, c ≤ C → x_W (X, l, yX12_sending, cX12_sending, 8, (some .int), x_room 4 0 0, 0, 0, (.inl (some (.int (xI (f_snd f (f_M one two (fun w => span w * loss w) (-1) W T) t wa C al (al + 1)))))), N, sh, (fun d => ms D d ∧ d 62 0 = 0), false, []) 165 [some (.ref (x_b X + 62)), some (.int (xI t)), some (.int (xI wa)), some (.int (xI (al : Int))), some (.int (xI b)), some (.int (xI (m : Int))), some (.int (xI (k_cs f (f_M one two (fun w => span w * loss w) (-1) W T) t m c))), some (.int (xI (c : Int)))] [] 0 0 false N sh d1 := by
            intro hsub hfew
            have hcm : ∀ c : Nat, c ≤ 10 → 0 ≤ k_cs f (f_M one two (fun w => span w * loss w) (-1) W T) t m c ∧ k_cs f (f_M one two (fun w => span w * loss w) (-1) W T) t m c ≤ 99 * c := by
              intro c
              induction c with
              | zero => intro _; simp [k_cs, x_sum]
              | succ c ih2 =>
                intro hc
                have h1 := ih2 (by omega)
                have h2 := (s_cr hk (c := (c : Int)) (by omega) (by omega)).1
                have h3 := hfo (f (55 + (c : Int)) * 8 + t)
                have h4 : 0 ≤ k_cm f (f_M one two (fun w => span w * loss w) (-1) W T) t (c : Int) ∧ k_cm f (f_M one two (fun w => span w * loss w) (-1) W T) t (c : Int) ≤ 99 := by
                  unfold k_cm
                  split
                  · omega
                  · split <;> omega
                rw [k_cs_s]
                push_cast
                split <;> omega
            refine x_down C ?_ ?_
            · have hcC := hcm C hCb
              refine x_iload dX12_sending_165 x_get_8_7 ?_
              refine x_aload_n dX12_sending_167 x_get_8_0 ?_
              refine x_getI 3 dX12_sending_168 fX_12_287 rfl n62 s62 (by rfl) ?_
              try simp (disch := decide) only [x_up_s, x_up_n, x_up_up, x_u1_s, x_u1_n, hC1]
              refine r_icmp_ge (t := 207) dX12_sending_171 rfl ⟨by omega, by omega⟩ ⟨by omega, by omega⟩ (fun hc171 => ?_) (fun hc171 => absurd hc171 (by omega))
              refine x_iload dX12_sending_207 x_get_8_6 ?_
              refine x_iload_n dX12_sending_209 x_get_8_2 ?_
              refine r_icmp_lt (t := 218) dX12_sending_210 rfl ⟨by omega, by omega⟩ hnr (fun hc210 => ?_) (fun hc210 => ?_)
              · refine x_iload dX12_sending_218 x_get_8_4 ?_
                refine x_istore dX12_sending_220 (Nat.le_of_ble_eq_true rfl) rfl x_set_8_4 ?_
                first | (rw [if_pos (And.intro hsub (And.intro hfew (by omega)))] at e; rw [e] at tail; exact tail _ _) | (rw [if_neg (fun h => absurd h.2.2 (by omega))] at e; rw [e] at tail; exact tail _ _)
              · refine x_iload dX12_sending_213 x_get_8_5 ?_
                refine x_goto (t := 220) dX12_sending_215 rfl ?_
                refine x_istore dX12_sending_220 (Nat.le_of_ble_eq_true rfl) rfl x_set_8_4 ?_
                first | (rw [if_pos (And.intro hsub (And.intro hfew (by omega)))] at e; rw [e] at tail; exact tail _ _) | (rw [if_neg (fun h => absurd h.2.2 (by omega))] at e; rw [e] at tail; exact tail _ _)
            · intro c hc ih2
              have hb := m_bt_in m c
              rw [k_cs_s] at ih2
              refine x_iload dX12_sending_165 x_get_8_7 ?_
              refine x_aload_n dX12_sending_167 x_get_8_0 ?_
              refine x_getI 3 dX12_sending_168 fX_12_287 rfl n62 s62 (by rfl) ?_
              try simp (disch := decide) only [x_up_s, x_up_n, x_up_up, x_u1_s, x_u1_n, hC1]
              refine r_icmp_ge (t := 207) dX12_sending_171 rfl ⟨by omega, by omega⟩ ⟨by omega, by omega⟩ (fun hc171 => absurd hc171 (by omega)) (fun hc171 => ?_)
              refine x_iload dX12_sending_174 x_get_8_6 ?_
              refine x_iload dX12_sending_176 x_get_8_5 ?_
              refine x_iload dX12_sending_178 x_get_8_7 ?_
              refine x_ishr dX12_sending_180 ?_
              refine x_iconst dX12_sending_181 ?_
              refine x_iand dX12_sending_182 ?_
              rw [m_sr (by omega) (by omega)]
              refine x_iconst dX12_sending_183 ?_
              refine r_icmp_ne (t := 197) dX12_sending_184 rfl ⟨by omega, by omega⟩ ⟨by omega, by omega⟩ (fun hc184 => ?_) (fun hc184 => ?_)
              · refine x_iconst dX12_sending_197 ?_
                refine x_iadd dX12_sending_198 ?_
                refine x_istore dX12_sending_199 (Nat.le_of_ble_eq_true rfl) rfl x_set_8_6 ?_
                refine x_iinc dX12_sending_201 x_get_8_7 (Nat.le_of_ble_eq_true rfl) rfl x_set_8_7 ?_
                refine x_goto (t := 165) dX12_sending_204 rfl ?_
                first | (rw [if_pos (m_bt_1.mp hc184)] at ih2; exact ih2) | (rw [if_neg (fun h => hc184 (m_bt_1.mpr h))] at ih2; exact ih2)
              · refine x_aload_n dX12_sending_187 x_get_8_0 ?_
                refine x_iload dX12_sending_188 x_get_8_7 ?_
                refine x_iload_n dX12_sending_190 x_get_8_1 ?_
                refine x_callV (As := [_, _]) dX12_sending_191 w_12_402 (m_comesTo hl q1 hk (by omega) r1 e87 hfo (c := (c : Int)) (by omega) (by omega) ht0 (by omega) (by have h1 := (hbits c (b_sub_in hsub (m_bt_1.mp hc184))).1.1; have h2 := hpl (c : Int) (by omega) (by omega); have := h1.1; omega)) (by assumption) (by assumption) rfl rfl (Nat.le_of_ble_eq_true rfl) (Nat.le_of_ble_eq_true rfl) (Nat.le_of_ble_eq_true rfl) (Nat.le_of_ble_eq_true rfl) (Nat.le_of_ble_eq_true rfl) ?_
                intro dz hdz
                obtain rfl := Eq.symm hdz
                refine x_goto (t := 198) dX12_sending_194 rfl ?_
                refine x_iadd dX12_sending_198 ?_
                refine x_istore dX12_sending_199 (Nat.le_of_ble_eq_true rfl) rfl x_set_8_6 ?_
                refine x_iinc dX12_sending_201 x_get_8_7 (Nat.le_of_ble_eq_true rfl) rfl x_set_8_7 ?_
                refine x_goto (t := 165) dX12_sending_204 rfl ?_
                first | (rw [if_pos (m_bt_1.mp hc184)] at ih2; exact ih2) | (rw [if_neg (fun h => hc184 (m_bt_1.mpr h))] at ih2; exact ih2)
          refine x_iload dX12_sending_122 x_get_8_5 ?_
          refine x_iload_n dX12_sending_124 x_get_8_3 ?_
          refine r_icmp_gt (t := 228) dX12_sending_125 rfl ⟨by omega, by omega⟩ ⟨by omega, by omega⟩ (fun hc125 => absurd hc125 (by omega)) (fun hc125 => ?_)
          refine x_iload dX12_sending_128 x_get_8_5 ?_
          refine x_iload_n dX12_sending_130 x_get_8_3 ?_
          refine x_iconst dX12_sending_131 ?_
          refine x_ixor dX12_sending_132 ?_
          refine x_iand dX12_sending_133 ?_
          rw [b_not (by omega)]
          have hb0 := b_s0 (m := m) (al := al)
          refine r_if_ne (t := 222) dX12_sending_134 rfl ⟨by omega, by have := @b_sub_le m al; omega⟩ (fun hc134 => ?_) (fun hc134 => ?_)
          · first | (rw [if_neg (fun h => hc134 (by omega))] at e; rw [e] at tail; exact tail _ _) | (rw [if_neg (fun h => by have := h.2.1; rw [Int.toNat_natCast] at this; omega)] at e; rw [e] at tail; exact tail _ _)
          · refine x_iload dX12_sending_137 x_get_8_4 ?_
            refine x_iconst dX12_sending_139 ?_
            refine r_icmp_eq (t := 159) dX12_sending_140 rfl hbr ⟨by decide, by decide⟩ (fun hc140 => ?_) (fun hc140 => ?_)
            · refine x_iconst dX12_sending_159 ?_
              refine x_istore dX12_sending_160 (Nat.le_of_ble_eq_true rfl) rfl x_set_8_6 ?_
              refine x_iconst dX12_sending_162 ?_
              refine x_istore dX12_sending_163 (Nat.le_of_ble_eq_true rfl) rfl x_set_8_7 ?_
              first | exact sum (by omega) (Or.inl hc140) 0 (Nat.zero_le _) | exact sum (by omega) (Or.inr (by rw [Int.toNat_natCast]; omega)) 0 (Nat.zero_le _)
            · obtain ⟨bb, rfl, hbb⟩ : ∃ bb : Nat, b = bb ∧ bb < m := by
                rcases hbl with h | h
                · exact absurd h hc140
                · exact h
              have p1 := s_pop_le bb (by omega)
              refine x_iload dX12_sending_143 x_get_8_5 ?_
              refine x_callS (As := [_]) dX12_sending_145 w_12_317 (m_bits hl (v := m) (by omega)) rfl rfl (Nat.le_of_ble_eq_true rfl) (Nat.le_of_ble_eq_true rfl) (Nat.le_of_ble_eq_true rfl) (Nat.le_of_ble_eq_true rfl) (Nat.le_of_ble_eq_true rfl) ?_
              intro dz hdz
              obtain rfl := Eq.symm hdz
              refine x_iload dX12_sending_148 x_get_8_4 ?_
              refine x_callS (As := [_]) dX12_sending_150 w_12_317 (m_bits hl (v := bb) (by omega)) rfl rfl (Nat.le_of_ble_eq_true rfl) (Nat.le_of_ble_eq_true rfl) (Nat.le_of_ble_eq_true rfl) (Nat.le_of_ble_eq_true rfl) (Nat.le_of_ble_eq_true rfl) ?_
              intro dz hdz
              obtain rfl := Eq.symm hdz
              refine r_icmp_lt (t := 159) dX12_sending_153 rfl ⟨by omega, by omega⟩ ⟨by omega, by omega⟩ (fun hc153 => ?_) (fun hc153 => ?_)
              · refine x_iconst dX12_sending_159 ?_
                refine x_istore dX12_sending_160 (Nat.le_of_ble_eq_true rfl) rfl x_set_8_6 ?_
                refine x_iconst dX12_sending_162 ?_
                refine x_istore dX12_sending_163 (Nat.le_of_ble_eq_true rfl) rfl x_set_8_7 ?_
                first | exact sum (by omega) (Or.inl hc140) 0 (Nat.zero_le _) | exact sum (by omega) (Or.inr (by rw [Int.toNat_natCast]; omega)) 0 (Nat.zero_le _)
              · refine x_goto (t := 222) dX12_sending_156 rfl ?_
                first | (rw [if_neg (fun h => hc134 (by omega))] at e; rw [e] at tail; exact tail _ _) | (rw [if_neg (fun h => by have := h.2.1; rw [Int.toNat_natCast] at this; omega)] at e; rw [e] at tail; exact tail _ _)
      have hbl : ∀ k : Nat, k ≤ C → ∀ o5 o6 o7 : Option Value, x_W (X, l, yX12_sending, cX12_sending, 8, (some .int), x_room 4 0 0, 0, 0, (.inl (some (.int (xI (f_snd f (f_M one two (fun w => span w * loss w) (-1) W T) t wa C al (al + 1)))))), N, sh, (fun d => ms D d ∧ d 62 0 = 0), false, []) 41 [some (.ref (x_b X + 62)), some (.int (xI t)), some (.int (xI wa)), some (.int (xI ((s_bits (fun c : Nat => s_lies f (c : Int) ∧ f (35 + (c : Int)) = 0 ∧ (f_M one two (fun w => span w * loss w) (-1) W T) (f (55 + (c : Int)) * 8 + t) < 99999) k : Nat) : Int))), some (.int (xI (k : Int))), o5, o6, o7] [] 0 0 false N sh d1 := by
        refine x_down C ?_ ?_
        · intro o5 o6 o7
          rw [hA]
          refine x_iload dX12_sending_41 x_get_8_4 ?_
          refine x_aload_n dX12_sending_43 x_get_8_0 ?_
          refine x_getI 3 dX12_sending_44 fX_12_287 rfl n62 s62 (by rfl) ?_
          try simp (disch := decide) only [x_up_s, x_up_n, x_up_up, x_u1_s, x_u1_n, hC1]
          refine r_icmp_ge (t := 116) dX12_sending_47 rfl ⟨by omega, by omega⟩ ⟨by omega, by omega⟩ (fun hc47 => ?_) (fun hc47 => absurd hc47 (by omega))
          refine x_iconst dX12_sending_116 ?_
          refine x_istore dX12_sending_117 (Nat.le_of_ble_eq_true rfl) rfl x_set_8_4 ?_
          refine x_iconst dX12_sending_119 ?_
          refine x_istore dX12_sending_120 (Nat.le_of_ble_eq_true rfl) rfl x_set_8_5 ?_
          exact hloop 0 (Nat.zero_le _) _ _
        · intro k hk2 ih o5 o6 o7
          have hck := s_cr hk (c := (k : Int)) (by omega) (by omega)
          have hpk := hpl (k : Int) (by omega) (by omega)
          have e35 : d1 82 (35 + (k : Int)) = f (35 + (k : Int)) := mr_c r1 rfl (by decide) (by omega) (by omega)
          have e55 : d1 82 (55 + (k : Int)) = f (55 + (k : Int)) := mr_c r1 rfl (by decide) (by omega) (by omega)
          have hlk := hfo (f (55 + (k : Int)) * 8 + t)
          refine x_iload dX12_sending_41 x_get_8_4 ?_
          refine x_aload_n dX12_sending_43 x_get_8_0 ?_
          refine x_getI 3 dX12_sending_44 fX_12_287 rfl n62 s62 (by rfl) ?_
          try simp (disch := decide) only [x_up_s, x_up_n, x_up_up, x_u1_s, x_u1_n, hC1, e35, e55, e87]
          refine r_icmp_ge (t := 116) dX12_sending_47 rfl ⟨by omega, by omega⟩ ⟨by omega, by omega⟩ (fun hc47 => absurd hc47 (by omega)) (fun hc47 => ?_)
          refine x_iload_n dX12_sending_50 x_get_8_3 ?_
          refine x_aload_n dX12_sending_51 x_get_8_0 ?_
          refine x_iconst dX12_sending_52 ?_
          refine x_iload dX12_sending_53 x_get_8_4 ?_
          refine x_callV (As := [_, _]) dX12_sending_55 w_12_308 (m_lies hl q1 hk (by omega) (Or.inl rfl) r1 (c := (k : Int)) (by omega) (by omega)) (by assumption) (by assumption) rfl rfl (Nat.le_of_ble_eq_true rfl) (Nat.le_of_ble_eq_true rfl) (Nat.le_of_ble_eq_true rfl) (Nat.le_of_ble_eq_true rfl) (Nat.le_of_ble_eq_true rfl) ?_
          intro dz hdz
          obtain rfl := Eq.symm hdz
          refine b_ifeq (t := 107) dX12_sending_58 rfl (fun hc58 => ?_) (fun hc58 => ?_)
          · refine x_iconst dX12_sending_107 ?_
            refine x_ior dX12_sending_108 ?_
            refine x_as_is (by first | exact s_bits_or (fun c : Nat => s_lies f (c : Int) ∧ f (35 + (c : Int)) = 0 ∧ (f_M one two (fun w => span w * loss w) (-1) W T) (f (55 + (c : Int)) * 8 + t) < 99999) (by omega) (And.intro hc58 (And.intro hc71 (by omega))) | exact s_bits_or0 (fun c : Nat => s_lies f (c : Int) ∧ f (35 + (c : Int)) = 0 ∧ (f_M one two (fun w => span w * loss w) (-1) W T) (f (55 + (c : Int)) * 8 + t) < 99999) (by omega) (fun h => absurd h.2.2 (by omega)) | exact s_bits_or0 (fun c : Nat => s_lies f (c : Int) ∧ f (35 + (c : Int)) = 0 ∧ (f_M one two (fun w => span w * loss w) (-1) W T) (f (55 + (c : Int)) * 8 + t) < 99999) (by omega) (fun h => hc71 h.2.1) | exact s_bits_or0 (fun c : Nat => s_lies f (c : Int) ∧ f (35 + (c : Int)) = 0 ∧ (f_M one two (fun w => span w * loss w) (-1) W T) (f (55 + (c : Int)) * 8 + t) < 99999) (by omega) (fun h => hc58 h.1)) ?_
            refine x_istore_n dX12_sending_109 (Nat.le_of_ble_eq_true rfl) rfl x_set_8_3 ?_
            refine x_iinc dX12_sending_110 x_get_8_4 (Nat.le_of_ble_eq_true rfl) rfl x_set_8_4 ?_
            refine x_goto (t := 41) dX12_sending_113 rfl ?_
            exact ih _ _ _
          · refine x_aload_n dX12_sending_61 x_get_8_0 ?_
            refine x_getR dX12_sending_62 fX_12_75 n62 s62 (by rfl) ?_
            refine x_bipush dX12_sending_65 rfl ?_
            refine x_iload dX12_sending_67 x_get_8_4 ?_
            refine x_iadd dX12_sending_69 ?_
            refine x_iald dX12_sending_70 n82 s82 (by omega) (by omega) (by decide) ?_
            try simp (disch := decide) only [x_up_s, x_up_n, x_up_up, x_u1_s, x_u1_n, hC1, e35, e55, e87]
            refine r_if_ne (t := 107) dX12_sending_71 rfl ⟨by omega, by omega⟩ (fun hc71 => ?_) (fun hc71 => ?_)
            · refine x_iconst dX12_sending_107 ?_
              refine x_ior dX12_sending_108 ?_
              refine x_as_is (by first | exact s_bits_or (fun c : Nat => s_lies f (c : Int) ∧ f (35 + (c : Int)) = 0 ∧ (f_M one two (fun w => span w * loss w) (-1) W T) (f (55 + (c : Int)) * 8 + t) < 99999) (by omega) (And.intro hc58 (And.intro hc71 (by omega))) | exact s_bits_or0 (fun c : Nat => s_lies f (c : Int) ∧ f (35 + (c : Int)) = 0 ∧ (f_M one two (fun w => span w * loss w) (-1) W T) (f (55 + (c : Int)) * 8 + t) < 99999) (by omega) (fun h => absurd h.2.2 (by omega)) | exact s_bits_or0 (fun c : Nat => s_lies f (c : Int) ∧ f (35 + (c : Int)) = 0 ∧ (f_M one two (fun w => span w * loss w) (-1) W T) (f (55 + (c : Int)) * 8 + t) < 99999) (by omega) (fun h => hc71 h.2.1) | exact s_bits_or0 (fun c : Nat => s_lies f (c : Int) ∧ f (35 + (c : Int)) = 0 ∧ (f_M one two (fun w => span w * loss w) (-1) W T) (f (55 + (c : Int)) * 8 + t) < 99999) (by omega) (fun h => hc58 h.1)) ?_
              refine x_istore_n dX12_sending_109 (Nat.le_of_ble_eq_true rfl) rfl x_set_8_3 ?_
              refine x_iinc dX12_sending_110 x_get_8_4 (Nat.le_of_ble_eq_true rfl) rfl x_set_8_4 ?_
              refine x_goto (t := 41) dX12_sending_113 rfl ?_
              exact ih _ _ _
            · have hli := hc58.1
              refine x_aload_n dX12_sending_74 x_get_8_0 ?_
              refine x_getR dX12_sending_75 fX_12_90 n62 s62 (by rfl) ?_
              refine x_bipush dX12_sending_78 rfl ?_
              refine x_aload_n dX12_sending_80 x_get_8_0 ?_
              refine x_getR dX12_sending_81 fX_12_75 n62 s62 (by rfl) ?_
              refine x_bipush dX12_sending_84 rfl ?_
              refine x_iload dX12_sending_86 x_get_8_4 ?_
              refine x_iadd dX12_sending_88 ?_
              refine x_iald dX12_sending_89 n82 s82 (by omega) (by omega) (by decide) ?_
              try simp (disch := decide) only [x_up_s, x_up_n, x_up_up, x_u1_s, x_u1_n, hC1, e35, e55, e87]
              refine x_imul dX12_sending_90 ?_
              refine x_iload_n dX12_sending_91 x_get_8_1 ?_
              refine x_iadd dX12_sending_92 ?_
              refine x_as_is (show 8 * f (55 + (k : Int)) + t = f (55 + (k : Int)) * 8 + t by omega) ?_
              refine x_iald dX12_sending_93 n87 s87 (by omega) (by omega) (by decide) ?_
              try simp (disch := decide) only [x_up_s, x_up_n, x_up_up, x_u1_s, x_u1_n, hC1, e35, e55, e87]
              refine x_ldcw (z := 99999) dX12_sending_94 k_RX12_395 ?_
              refine r_icmp_ge (t := 107) dX12_sending_97 rfl ⟨by omega, by omega⟩ ⟨by omega, by omega⟩ (fun hc97 => ?_) (fun hc97 => ?_)
              · refine x_iconst dX12_sending_107 ?_
                refine x_ior dX12_sending_108 ?_
                refine x_as_is (by first | exact s_bits_or (fun c : Nat => s_lies f (c : Int) ∧ f (35 + (c : Int)) = 0 ∧ (f_M one two (fun w => span w * loss w) (-1) W T) (f (55 + (c : Int)) * 8 + t) < 99999) (by omega) (And.intro hc58 (And.intro hc71 (by omega))) | exact s_bits_or0 (fun c : Nat => s_lies f (c : Int) ∧ f (35 + (c : Int)) = 0 ∧ (f_M one two (fun w => span w * loss w) (-1) W T) (f (55 + (c : Int)) * 8 + t) < 99999) (by omega) (fun h => absurd h.2.2 (by omega)) | exact s_bits_or0 (fun c : Nat => s_lies f (c : Int) ∧ f (35 + (c : Int)) = 0 ∧ (f_M one two (fun w => span w * loss w) (-1) W T) (f (55 + (c : Int)) * 8 + t) < 99999) (by omega) (fun h => hc71 h.2.1) | exact s_bits_or0 (fun c : Nat => s_lies f (c : Int) ∧ f (35 + (c : Int)) = 0 ∧ (f_M one two (fun w => span w * loss w) (-1) W T) (f (55 + (c : Int)) * 8 + t) < 99999) (by omega) (fun h => hc58 h.1)) ?_
                refine x_istore_n dX12_sending_109 (Nat.le_of_ble_eq_true rfl) rfl x_set_8_3 ?_
                refine x_iinc dX12_sending_110 x_get_8_4 (Nat.le_of_ble_eq_true rfl) rfl x_set_8_4 ?_
                refine x_goto (t := 41) dX12_sending_113 rfl ?_
                exact ih _ _ _
              · refine x_iconst dX12_sending_100 ?_
                refine x_iload dX12_sending_101 x_get_8_4 ?_
                refine x_ishl dX12_sending_103 ?_
                refine x_goto (t := 108) dX12_sending_104 rfl ?_
                refine x_ior dX12_sending_108 ?_
                refine x_as_is (by first | exact s_bits_or (fun c : Nat => s_lies f (c : Int) ∧ f (35 + (c : Int)) = 0 ∧ (f_M one two (fun w => span w * loss w) (-1) W T) (f (55 + (c : Int)) * 8 + t) < 99999) (by omega) (And.intro hc58 (And.intro hc71 (by omega))) | exact s_bits_or0 (fun c : Nat => s_lies f (c : Int) ∧ f (35 + (c : Int)) = 0 ∧ (f_M one two (fun w => span w * loss w) (-1) W T) (f (55 + (c : Int)) * 8 + t) < 99999) (by omega) (fun h => absurd h.2.2 (by omega)) | exact s_bits_or0 (fun c : Nat => s_lies f (c : Int) ∧ f (35 + (c : Int)) = 0 ∧ (f_M one two (fun w => span w * loss w) (-1) W T) (f (55 + (c : Int)) * 8 + t) < 99999) (by omega) (fun h => hc71 h.2.1) | exact s_bits_or0 (fun c : Nat => s_lies f (c : Int) ∧ f (35 + (c : Int)) = 0 ∧ (f_M one two (fun w => span w * loss w) (-1) W T) (f (55 + (c : Int)) * 8 + t) < 99999) (by omega) (fun h => hc58 h.1)) ?_
                refine x_istore_n dX12_sending_109 (Nat.le_of_ble_eq_true rfl) rfl x_set_8_3 ?_
                refine x_iinc dX12_sending_110 x_get_8_4 (Nat.le_of_ble_eq_true rfl) rfl x_set_8_4 ?_
                refine x_goto (t := 41) dX12_sending_113 rfl ?_
                exact ih _ _ _
      refine x_iconst dX12_sending_36 ?_
      refine x_istore_n dX12_sending_37 (Nat.le_of_ble_eq_true rfl) rfl x_set_8_3 ?_
      refine x_iconst dX12_sending_38 ?_
      refine x_istore dX12_sending_39 (Nat.le_of_ble_eq_true rfl) rfl x_set_8_4 ?_
      exact hbl 0 (Nat.zero_le _) _ _ _
    · rw [if_neg hn]
      refine x_ofW (by decide +kernel) hl (by simp [Value.category]) (by simp) ?_
      refine x_aload_n dX12_sending_0 x_get_8_0 ?_
      refine x_iconst dX12_sending_1 ?_
      refine x_putI 0 dX12_sending_2 fX_12_117 rfl tX_12_0 n62 s62 (by rfl) ?_
      have z0 := m_go0 hq hr hv84
      generalize x_up D 62 (x_u1 (D 62) 0 0) = d0 at z0 ⊢
      obtain ⟨q0, t0, ms0, r0, v0⟩ := z0
      refine x_aload_n dX12_sending_5 x_get_8_0 ?_
      refine x_iload_n dX12_sending_6 x_get_8_1 ?_
      refine x_callV (As := [_]) dX12_sending_7 w_12_362 (m_isTownT hl q0 t0 ht) (by assumption) (by assumption) rfl rfl (Nat.le_of_ble_eq_true rfl) (Nat.le_of_ble_eq_true rfl) (Nat.le_of_ble_eq_true rfl) (Nat.le_of_ble_eq_true rfl) (Nat.le_of_ble_eq_true rfl) ?_
      intro dz hdz
      obtain rfl := Eq.symm hdz
      refine r_if_eq (t := 29) dX12_sending_10 rfl ⟨by omega, by omega⟩ (fun hc10 => absurd hc10 (by omega)) (fun hc10 => ?_)
      refine x_aload_n dX12_sending_13 x_get_8_0 ?_
      refine x_iload_n dX12_sending_14 x_get_8_2 ?_
      refine x_iconst dX12_sending_15 ?_
      refine x_sipush dX12_sending_16 rfl ?_
      refine x_callS (As := [_, _, _]) dX12_sending_19 w_12_346 (m_withinF hl hnr ⟨by decide, by decide⟩ ⟨by decide, by decide⟩ hn) rfl rfl (Nat.le_of_ble_eq_true rfl) (Nat.le_of_ble_eq_true rfl) (Nat.le_of_ble_eq_true rfl) (Nat.le_of_ble_eq_true rfl) (Nat.le_of_ble_eq_true rfl) ?_
      intro dz hdz
      obtain rfl := Eq.symm hdz
      refine x_iconst dX12_sending_22 ?_
      refine x_callV (As := [_, _]) dX12_sending_23 w_12_274 (m_rightF hl q0.1 t0 (by decide) (by decide)) (by assumption) (by assumption) rfl rfl (Nat.le_of_ble_eq_true rfl) (Nat.le_of_ble_eq_true rfl) (Nat.le_of_ble_eq_true rfl) (Nat.le_of_ble_eq_true rfl) (Nat.le_of_ble_eq_true rfl) ?_
      intro dz hdz
      obtain rfl := Eq.symm hdz
      refine r_if_ne (t := 31) dX12_sending_26 rfl ⟨by omega, by omega⟩ (fun hc26 => absurd hc26 (by omega)) (fun hc26 => ?_)
      refine x_iconst dX12_sending_29 ?_
      exact x_iret dX12_sending_30 rfl (Nat.le_of_ble_eq_true rfl) (Nat.le_of_ble_eq_true rfl) rfl rfl rfl ⟨ms_thr ms0, by rw [x_up_s, x_u1_s, m_k_I]⟩ rfl
  · rw [if_neg ht]
    refine x_ofW (by decide +kernel) hl (by simp [Value.category]) (by simp) ?_
    refine x_aload_n dX12_sending_0 x_get_8_0 ?_
    refine x_iconst dX12_sending_1 ?_
    refine x_putI 0 dX12_sending_2 fX_12_117 rfl tX_12_0 n62 s62 (by rfl) ?_
    have z0 := m_go0 hq hr hv84
    generalize x_up D 62 (x_u1 (D 62) 0 0) = d0 at z0 ⊢
    obtain ⟨q0, t0, ms0, r0, v0⟩ := z0
    refine x_aload_n dX12_sending_5 x_get_8_0 ?_
    refine x_iload_n dX12_sending_6 x_get_8_1 ?_
    refine x_callV (As := [_]) dX12_sending_7 w_12_362 (m_isTownF hl q0 t0 htr ht) (by assumption) (by assumption) rfl rfl (Nat.le_of_ble_eq_true rfl) (Nat.le_of_ble_eq_true rfl) (Nat.le_of_ble_eq_true rfl) (Nat.le_of_ble_eq_true rfl) (Nat.le_of_ble_eq_true rfl) ?_
    intro dz hdz
    obtain rfl := Eq.symm hdz
    refine r_if_eq (t := 29) dX12_sending_10 rfl ⟨by omega, by omega⟩ (fun hc10 => ?_) (fun hc10 => absurd hc10 (by omega))
    refine x_iconst dX12_sending_29 ?_
    exact x_iret dX12_sending_30 rfl (Nat.le_of_ble_eq_true rfl) (Nat.le_of_ble_eq_true rfl) rfl rfl rfl ⟨ms_thr ms0, by rw [x_up_s, x_u1_s, m_k_N]⟩ rfl
end M79
