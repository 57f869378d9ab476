section M61
/-! ===== the Model's rows: odds and days ===== -/
def gG (G : Ldt) : Prop := (∀ j, 0 ≤ G.1 j ∧ G.1 j ≤ 20) ∧ (∀ j, 0 ≤ G.2.1 j ∧ G.2.1 j ≤ 20) ∧ ∀ f t, 0 ≤ G.2.2 f t ∧ G.2.2 f t ≤ 12
/-- the Model's word for a step -/
def op_c (s : Int) : Int := if s = -9 then 3 else if s = -8 then 4 else if s = -7 then 5 else -4 - s
def cd (ss : Int → Int) (p : Nat) : Nat → Nat
  | 0 => p
  | i + 1 => cd ss p i + (if -6 ≤ ss i then 2 else 1)
theorem cd_s {ss : Int → Int} {p i : Nat} : cd ss p (i + 1) = cd ss p i + (if -6 ≤ ss i then 2 else 1) := rfl
theorem cd_le {ss : Int → Int} {p : Nat} : ∀ {i n : Nat}, i ≤ n → cd ss p i ≤ cd ss p n
  | i, 0, h => by have : i = 0 := by omega
                  subst this; exact Nat.le_refl _
  | i, n + 1, h => by
    by_cases hi : i = n + 1
    · subst hi; exact Nat.le_refl _
    · have := cd_le (ss := ss) (p := p) (i := i) (n := n) (by omega)
      rw [cd_s]
      omega
theorem cd_lt {ss : Int → Int} {p i n : Nat} (h : i < n) : cd ss p i + (if -6 ≤ ss i then 2 else 1) ≤ cd ss p n := by
  have := cd_le (ss := ss) (p := p) (i := i + 1) (n := n) (by omega)
  rw [cd_s] at this
  exact this
/-- the code from p on says the steps -/
def enc (cf ss : Int → Int) (p n : Nat) : Prop := (∀ i : Nat, i < n → (0 ≤ ss i → cf (cd ss p i) = 1 ∧ cf (cd ss p i + 1) = ss i) ∧ (-6 ≤ ss i → ss i < 0 → cf (cd ss p i) = 2 ∧ cf (cd ss p i + 1) = -1 - ss i) ∧ (ss i < -6 → cf (cd ss p i) = op_c (ss i))) ∧ cf (cd ss p n) = 0 ∧ cd ss p n < 1400 ∧ ∀ i : Nat, i < n → x_r (ss i) ∧ -15 ≤ ss i
def o_len (ss : Int → Int) : Nat → Int
  | 0 => 0
  | i + 1 => o_len ss i + (if -6 ≤ ss i then 1 else if ss i = -9 then 0 else -1)
def wf (ss : Int → Int) (n : Nat) : Prop := (∀ i : Nat, i < n → (-6 ≤ ss i → o_len ss i < 40) ∧ (ss i = -9 → 1 ≤ o_len ss i) ∧ (ss i < -6 → ¬ ss i = -9 → 2 ≤ o_len ss i)) ∧ o_len ss n = 1
theorem o_run_len {ss val : Int → Int} {n : Nat} (h : wf ss n) : ∀ i : Nat, i ≤ n → ((o_run ss val i).length : Int) = o_len ss i
  | 0, _ => rfl
  | i + 1, hi => by
    have ih := o_run_len (val := val) h i (by omega)
    obtain ⟨h1, h2, h3⟩ := h.1 i (by omega)
    rw [o_run, o_len]
    unfold o_st
    by_cases a1 : -6 ≤ ss i
    · have := h1 a1
      rw [if_pos a1, if_pos a1, if_pos (by omega), List.length_cons]
      push_cast
      omega
    rw [if_neg a1, if_neg a1]
    by_cases a2 : ss i = -9
    · have := h2 a2
      rw [if_pos a2, if_pos a2]
      generalize o_run ss val i = lst at ih ⊢
      cases lst with
      | nil => simp at ih; omega
      | cons x r => simpa using ih
    · have := h3 (by omega) a2
      rw [if_neg a2, if_neg a2]
      generalize o_run ss val i = lst at ih ⊢
      match lst, ih with
      | [], ih => simp at ih; omega
      | [x], ih => simp at ih; omega
      | x :: y :: r, ih => simp only [List.length_cons] at ih ⊢; push_cast at ih ⊢; omega
theorem o_run_cg {ss v1 v2 : Int → Int} {n : Nat} (h : ∀ i : Nat, i < n → -6 ≤ ss i → ss i < 0 → v1 (ss i) = v2 (ss i)) : ∀ i : Nat, i ≤ n → o_run ss v1 i = o_run ss v2 i
  | 0, _ => rfl
  | i + 1, hi => by
    have ih := o_run_cg h i (by omega)
    rw [o_run, o_run, ih]
    unfold o_st
    by_cases a1 : -6 ≤ ss i
    · rw [if_pos a1, if_pos a1]
      by_cases a2 : 0 ≤ ss i
      · rw [if_pos a2, if_pos a2]
      · rw [if_neg a2, if_neg a2, h i (by omega) a1 (by omega)]
    · rw [if_neg a1, if_neg a1]
theorem o_run_r {ss val : Int → Int} {n : Nat} (hs : ∀ i : Nat, i < n → x_r (ss i) ∧ -15 ≤ ss i) (hv : ∀ s, x_r (val s)) : ∀ m : Nat, m ≤ n → ∀ v ∈ o_run ss val m, x_r v
  | 0, _ => by simp [o_run]
  | m + 1, hm => by
    rw [o_run]
    exact o_st_r hv (o_run_r hs hv m (by omega)) (hs m (by omega)).1
def m_odds (D : xM) (C : Nat) (G : Ldt) : Prop := ∃ (told asks : Int) (ss : Int → Int) (n : Nat), (∀ f t, G.2.2 f t = o_odds told asks ss n G.1 G.2.1 C f t) ∧ ((told = 0 ∧ D 62 4 = -1) ∨ (¬ told = 0 ∧ ∃ p : Nat, D 62 4 = p ∧ enc (D 69) ss p n ∧ wf ss n ∧ (asks = 0 → ∀ i : Nat, i < n → ¬ ss i = -6)))
/-- what the Model holds of a land -/
def mq (N : Nat) (sh : xS) (D : xM) (T C W : Nat) (G : Ldt) : Prop := is_Md N sh ∧ D 62 1 = T ∧ T ≤ 8 ∧ D 62 2 = W ∧ W ≤ 12 ∧ D 62 3 = C ∧ C ≤ 10 ∧ (∀ t : Int, 0 ≤ t → t < T → D 63 t = G.1 t ∧ D 64 t = G.2.1 t) ∧ gG G ∧ m_odds D C G
theorem mq_of {N : Nat} {sh : xS} {D d : xM} {T C W : Nat} {G : Ldt} (h : mq N sh D T C W G) (h1 : ∀ i : Int, 1 ≤ i → i ≤ 4 → d 62 i = D 62 i) (h2 : ∀ j, 63 ≤ j → j ≤ 69 → d j = D j) : mq N sh d T C W G := by
  obtain ⟨a0, a1, a2, a3, a4, a5, a6, a7, a8, a9⟩ := h
  refine ⟨a0, by rw [h1 1 (by decide) (by decide)]; exact a1, a2, by rw [h1 2 (by decide) (by decide)]; exact a3, a4, by rw [h1 3 (by decide) (by decide)]; exact a5, a6, ?_, a8, ?_⟩
  · rw [h2 63 (by decide) (by decide), h2 64 (by decide) (by decide)]; exact a7
  · unfold m_odds at a9 ⊢
    rw [h1 4 (by decide) (by decide), h2 69 (by decide) (by decide)]
    exact a9
/-- a row was written, nothing else -/
def m_w (T C : Nat) (b : Int) (f' : Int → Int) (D d : xM) : Prop := (∀ j, j ≠ 82 → d j = D j) ∧ mr T C f' (d 82) b ∧ m_fr b (D 82) (d 82)
theorem m_w_tr {T C : Nat} {b : Int} {f' f'' : Int → Int} {D d d2 : xM} (h : m_w T C b f' D d) (h2 : m_w T C b f'' d d2) : m_w T C b f'' D d2 := ⟨fun j hj => by rw [h2.1 j hj, h.1 j hj], h2.2.1, m_fr_tr h.2.2 h2.2.2⟩
theorem m_w_u1 {T C : Nat} {b : Int} {f : Int → Int} {D d : xM} (h : m_w T C b f D d) {k m v : Int} (hm : m = b + k) (h0 : 0 ≤ k) (h1 : k < 85) : m_w T C b (x_u1 f k v) D (x_up d 82 (x_u1 (d 82) m v)) := by
  refine ⟨fun j hj => by rw [x_up_n hj]; exact h.1 j hj, by rw [x_up_s]; exact mr_u1 h.2.1 hm, by rw [x_up_s]; exact m_fr_u1 h.2.2 (by omega) (by omega)⟩
theorem m_w_rf {T C : Nat} {b : Int} {f : Int → Int} {D : xM} (h : mr T C f (D 82) b) : m_w T C b f D D := ⟨fun _ _ => rfl, h, m_fr_refl⟩
theorem m_w_mq {N : Nat} {sh : xS} {D d : xM} {T C W : Nat} {G : Ldt} {b : Int} {f : Int → Int} (h : mq N sh D T C W G) (hw : m_w T C b f D d) : mq N sh d T C W G := mq_of h (fun i _ _ => by rw [hw.1 62 (by decide)]) (fun j a b => hw.1 j (by omega))
theorem s_evn_win {f : Int → Int} {t k : Int} : s_evn (s_win f t k) t = x_u1 (x_u1 (x_u1 (x_u1 f (17 + t) (f (17 + t) + k)) (1 + t) (max 0 (f (1 + t) - k))) (1 + t) (max 0 (f (1 + t) - k) - min (max 0 (f (1 + t) - k)) (f (9 + t)))) (9 + t) (f (9 + t) - min (max 0 (f (1 + t) - k)) (f (9 + t))) := by
  unfold s_evn s_win
  simp (disch := omega) only [x_u1_s, x_u1_n]
theorem s_evn_los {f : Int → Int} {t k : Int} : s_evn (s_los f t k) t = x_u1 (x_u1 (x_u1 (x_u1 f (17 + t) (f (17 + t) - k)) (1 + t) (min 9999 (f (1 + t) + k / 2))) (1 + t) (min 9999 (f (1 + t) + k / 2) - min (min 9999 (f (1 + t) + k / 2)) (f (9 + t)))) (9 + t) (f (9 + t) - min (min 9999 (f (1 + t) + k / 2)) (f (9 + t))) := by
  unfold s_evn s_los s_add
  simp (disch := omega) only [x_u1_s, x_u1_n]
theorem w_12_308 : x_cv RX12 308 yX12_lies cX12_lies 3 (some .boolean) 12 2 := ⟨⟨_, rfl, rfl⟩, (x_in 1695 (by decide +kernel) rfl), (x_in 1697 (by decide +kernel) rfl), (x_in 45 (by decide +kernel) rfl), (x_in 90 (by decide +kernel) rfl), (x_in 1698 (by decide +kernel) rfl), by decide, ⟨by decide +kernel, by decide +kernel, by decide +kernel⟩⟩
theorem w_12_311 : x_cs RX12 311 yX12_kept cX12_kept 3 (some .int) 3 := ⟨(x_in 1723 (by decide +kernel) rfl), (x_in 1724 (by decide +kernel) rfl), (x_in 90 (by decide +kernel) rfl), (x_in 1725 (by decide +kernel) rfl), by decide, ⟨by decide +kernel, by decide +kernel, by decide +kernel⟩⟩
theorem w_12_323 : x_cs RX12 323 yX12_lesser cX12_lesser 2 (some .int) 2 := ⟨(x_in 1776 (by decide +kernel) rfl), (x_in 1777 (by decide +kernel) rfl), (x_in 90 (by decide +kernel) rfl), (x_in 1778 (by decide +kernel) rfl), by decide, ⟨by decide +kernel, by decide +kernel, by decide +kernel⟩⟩
theorem m_lies {X : xC} {l : Launch} (hl : l.stackTraces = false) {N : Nat} {sh : xS} {D : xM} {T C W : Nat} {G : Ldt} (hq : mq N sh D T C W G) {B : Int} {f : Int → Int} (hk : s_ok B f) (hB : B ≤ 1000000) {b : Int} (hb : b = 0 ∨ b = 85) (hr : mr T C f (D 82) b) {c : Int} (h0 : 0 ≤ c) (h1 : c < C) : x_M X l yX12_lies cX12_lies 3 (some .boolean) 1 0 0 [.ref (x_b X + 62), .int (xI b), .int (xI c)] false N sh D (.inl (some (.int (xI (x_B (s_lies f c)))))) false N sh (x_is (D)) := by
  obtain ⟨hM, hT, hTb, hW, hWb, hC, hCb, hmk, ⟨hG1, hG2, hG3⟩, hod⟩ := id hq
  have s62 := md_62 hM
  have n62 : 62 < N := md_n hM (by decide)
  have s82 := md_82 hM
  have n82 : 82 < N := md_n hM (by decide)
  have hcr := s_cr hk (c := c) (by omega) (by omega)
  have e55 : D 82 (b + 55 + c) = f (55 + c) := mr_c hr rfl (by decide) (by omega) (by omega)
  have e65 : D 82 (b + 65 + c) = f (65 + c) := mr_c hr rfl (by decide) (by omega) (by omega)
  refine x_ofW (by decide +kernel) hl (by simp [Value.category]) (by simp) ?_
  refine x_aload_n dX12_lies_0 x_get_3_0 ?_
  refine x_getR dX12_lies_1 fX_12_75 n62 s62 (by rfl) ?_
  refine x_iload_n dX12_lies_4 x_get_3_1 ?_
  refine x_bipush dX12_lies_5 rfl ?_
  refine x_iadd dX12_lies_7 ?_
  refine x_iload_n dX12_lies_8 x_get_3_2 ?_
  refine x_iadd dX12_lies_9 ?_
  refine x_iald dX12_lies_10 n82 s82 (by omega) (by omega) (by decide) ?_
  try simp (disch := decide) only [x_up_s, x_up_n, x_up_up, x_u1_s, x_u1_n, e55, e65]
  refine x_iconst dX12_lies_11 ?_
  refine r_icmp_eq (t := 33) dX12_lies_12 rfl ⟨by omega, by omega⟩ ⟨by omega, by omega⟩ (fun hc12 => ?_) (fun hc12 => ?_)
  · refine x_iconst dX12_lies_33 ?_
    exact x_zret dX12_lies_34 rfl (by omega) (Nat.le_of_ble_eq_true rfl) (Nat.le_of_ble_eq_true rfl) (by first | (rw [x_B, if_pos (by omega)]; done) | (rw [x_B, if_neg (by omega)]; done)) rfl rfl rfl rfl
  · refine x_aload_n dX12_lies_15 x_get_3_0 ?_
    refine x_getR dX12_lies_16 fX_12_75 n62 s62 (by rfl) ?_
    refine x_iload_n dX12_lies_19 x_get_3_1 ?_
    refine x_bipush dX12_lies_20 rfl ?_
    refine x_iadd dX12_lies_22 ?_
    refine x_iload_n dX12_lies_23 x_get_3_2 ?_
    refine x_iadd dX12_lies_24 ?_
    refine x_iald dX12_lies_25 n82 s82 (by omega) (by omega) (by decide) ?_
    try simp (disch := decide) only [x_up_s, x_up_n, x_up_up, x_u1_s, x_u1_n, e55, e65]
    refine r_if_ne (t := 33) dX12_lies_26 rfl ⟨by omega, by omega⟩ (fun hc26 => ?_) (fun hc26 => ?_)
    · refine x_iconst dX12_lies_33 ?_
      exact x_zret dX12_lies_34 rfl (by omega) (Nat.le_of_ble_eq_true rfl) (Nat.le_of_ble_eq_true rfl) (by first | (rw [x_B, if_pos (by omega)]; done) | (rw [x_B, if_neg (by omega)]; done)) rfl rfl rfl rfl
    · refine x_iconst dX12_lies_29 ?_
      refine x_goto (t := 34) dX12_lies_30 rfl ?_
      exact x_zret dX12_lies_34 rfl (by omega) (Nat.le_of_ble_eq_true rfl) (Nat.le_of_ble_eq_true rfl) (by first | (rw [x_B, if_pos (by omega)]; done) | (rw [x_B, if_neg (by omega)]; done)) rfl rfl rfl rfl
theorem m_lyingIn {X : xC} {l : Launch} (hl : l.stackTraces = false) {N : Nat} {sh : xS} {D : xM} {T C W : Nat} {G : Ldt} (hq : mq N sh D T C W G) {B : Int} {f : Int → Int} (hk : s_ok B f) (hB : B ≤ 1000000) {b : Int} (hb : b = 0 ∨ b = 85) (hr : mr T C f (D 82) b) {t : Int} (ht0 : 0 ≤ t) (ht1 : t < 8) : x_M X l yX12_lyingIn cX12_lyingIn 5 (some .int) 2 0 0 [.ref (x_b X + 62), .int (xI b), .int (xI t)] false N sh D (.inl (some (.int (xI (((s_bits (fun c => s_in f t c) C : Nat) : Int)))))) false N sh (x_is (D)) := by
  obtain ⟨hM, hT, hTb, hW, hWb, hC, hCb, hmk, ⟨hG1, hG2, hG3⟩, hod⟩ := id hq
  have s62 := md_62 hM
  have n62 : 62 < N := md_n hM (by decide)
  have s82 := md_82 hM
  have n82 : 82 < N := md_n hM (by decide)
  have hloop : ∀ k : Nat, k ≤ C → x_W (X, l, yX12_lyingIn, cX12_lyingIn, 5, (some .int), x_room 2 0 0, 0, 0, (.inl (some (.int (xI (((s_bits (fun c => s_in f t c) C : Nat) : Int)))))), N, sh, (x_is (D)), false, []) 5 [some (.ref (x_b X + 62)), some (.int (xI b)), some (.int (xI t)), some (.int (xI ((s_bits (fun c => s_in f t c) k : Nat) : Int))), some (.int (xI (k : Int)))] [] 0 0 false N sh D := by
    refine x_down C ?_ ?_
    · refine x_iload dX12_lyingIn_5 x_get_5_4 ?_
      refine x_aload_n dX12_lyingIn_7 x_get_5_0 ?_
      refine x_getI 3 dX12_lyingIn_8 fX_12_287 rfl n62 s62 (by rfl) ?_
      try simp (disch := decide) only [x_up_s, x_up_n, x_up_up, x_u1_s, x_u1_n, hC]
      refine r_icmp_ge (t := 57) dX12_lyingIn_11 rfl ⟨by omega, by omega⟩ ⟨by omega, by omega⟩ (fun hc11 => ?_) (fun hc11 => absurd hc11 (by omega))
      refine x_iload_n dX12_lyingIn_57 x_get_5_3 ?_
      exact x_iret dX12_lyingIn_58 rfl (Nat.le_of_ble_eq_true rfl) (Nat.le_of_ble_eq_true rfl) rfl rfl rfl rfl rfl
    · intro k hk2 ih
      have hcr := s_cr hk (c := (k : Int)) (by omega) (by omega)
      have e55 : D 82 (b + 55 + (k : Int)) = f (55 + (k : Int)) := mr_c hr rfl (by decide) (by omega) (by omega)
      refine x_iload dX12_lyingIn_5 x_get_5_4 ?_
      refine x_aload_n dX12_lyingIn_7 x_get_5_0 ?_
      refine x_getI 3 dX12_lyingIn_8 fX_12_287 rfl n62 s62 (by rfl) ?_
      try simp (disch := decide) only [x_up_s, x_up_n, x_up_up, x_u1_s, x_u1_n, hC, e55]
      refine r_icmp_ge (t := 57) dX12_lyingIn_11 rfl ⟨by omega, by omega⟩ ⟨by omega, by omega⟩ (fun hc11 => absurd hc11 (by omega)) (fun hc11 => ?_)
      refine x_iload_n dX12_lyingIn_14 x_get_5_3 ?_
      refine x_aload_n dX12_lyingIn_15 x_get_5_0 ?_
      refine x_iload_n dX12_lyingIn_16 x_get_5_1 ?_
      refine x_iload dX12_lyingIn_17 x_get_5_4 ?_
      refine x_callV (As := [_, _]) dX12_lyingIn_19 w_12_308 (m_lies hl hq hk hB hb hr (c := (k : Int)) (by omega) (by omega)) (by assumption) (by assumption) rfl rfl (Nat.le_of_ble_eq_true rfl) (Nat.le_of_ble_eq_true rfl) (Nat.le_of_ble_eq_true rfl) (Nat.le_of_ble_eq_true rfl) (Nat.le_of_ble_eq_true rfl) ?_
      intro dz hdz
      obtain rfl := Eq.symm hdz
      refine b_ifeq (t := 48) dX12_lyingIn_22 rfl (fun hc22 => ?_) (fun hc22 => ?_)
      · refine x_iconst dX12_lyingIn_48 ?_
        refine x_ior dX12_lyingIn_49 ?_
        refine x_as_is (by first | exact s_bits_or (fun c => s_in f t c) (by omega) ⟨hc38, by have := hc22.2; omega⟩ | exact s_bits_or0 (fun c => s_in f t c) (by omega) (fun h => hc38 h.1) | exact s_bits_or0 (fun c => s_in f t c) (by omega) (fun h => hc22 ⟨by have := h.1; omega, by have := h.2; omega⟩)) ?_
        refine x_istore_n dX12_lyingIn_50 (Nat.le_of_ble_eq_true rfl) rfl x_set_5_3 ?_
        refine x_iinc dX12_lyingIn_51 x_get_5_4 (Nat.le_of_ble_eq_true rfl) rfl x_set_5_4 ?_
        refine x_goto (t := 5) dX12_lyingIn_54 rfl ?_
        exact ih
      · refine x_aload_n dX12_lyingIn_25 x_get_5_0 ?_
        refine x_getR dX12_lyingIn_26 fX_12_75 n62 s62 (by rfl) ?_
        refine x_iload_n dX12_lyingIn_29 x_get_5_1 ?_
        refine x_bipush dX12_lyingIn_30 rfl ?_
        refine x_iadd dX12_lyingIn_32 ?_
        refine x_iload dX12_lyingIn_33 x_get_5_4 ?_
        refine x_iadd dX12_lyingIn_35 ?_
        refine x_iald dX12_lyingIn_36 n82 s82 (by omega) (by omega) (by decide) ?_
        try simp (disch := decide) only [x_up_s, x_up_n, x_up_up, x_u1_s, x_u1_n, hC, e55]
        refine x_iload_n dX12_lyingIn_37 x_get_5_2 ?_
        refine r_icmp_ne (t := 48) dX12_lyingIn_38 rfl ⟨by omega, by omega⟩ ⟨by omega, by omega⟩ (fun hc38 => ?_) (fun hc38 => ?_)
        · refine x_iconst dX12_lyingIn_48 ?_
          refine x_ior dX12_lyingIn_49 ?_
          refine x_as_is (by first | exact s_bits_or (fun c => s_in f t c) (by omega) ⟨hc38, by have := hc22.2; omega⟩ | exact s_bits_or0 (fun c => s_in f t c) (by omega) (fun h => hc38 h.1) | exact s_bits_or0 (fun c => s_in f t c) (by omega) (fun h => hc22 ⟨by have := h.1; omega, by have := h.2; omega⟩)) ?_
          refine x_istore_n dX12_lyingIn_50 (Nat.le_of_ble_eq_true rfl) rfl x_set_5_3 ?_
          refine x_iinc dX12_lyingIn_51 x_get_5_4 (Nat.le_of_ble_eq_true rfl) rfl x_set_5_4 ?_
          refine x_goto (t := 5) dX12_lyingIn_54 rfl ?_
          exact ih
        · refine x_iconst dX12_lyingIn_41 ?_
          refine x_iload dX12_lyingIn_42 x_get_5_4 ?_
          refine x_ishl dX12_lyingIn_44 ?_
          refine x_goto (t := 49) dX12_lyingIn_45 rfl ?_
          refine x_ior dX12_lyingIn_49 ?_
          refine x_as_is (by first | exact s_bits_or (fun c => s_in f t c) (by omega) ⟨hc38, by have := hc22.2; omega⟩ | exact s_bits_or0 (fun c => s_in f t c) (by omega) (fun h => hc38 h.1) | exact s_bits_or0 (fun c => s_in f t c) (by omega) (fun h => hc22 ⟨by have := h.1; omega, by have := h.2; omega⟩)) ?_
          refine x_istore_n dX12_lyingIn_50 (Nat.le_of_ble_eq_true rfl) rfl x_set_5_3 ?_
          refine x_iinc dX12_lyingIn_51 x_get_5_4 (Nat.le_of_ble_eq_true rfl) rfl x_set_5_4 ?_
          refine x_goto (t := 5) dX12_lyingIn_54 rfl ?_
          exact ih
  refine x_ofW (by decide +kernel) hl (by simp [Value.category]) (by simp) ?_
  refine x_iconst dX12_lyingIn_0 ?_
  refine x_istore_n dX12_lyingIn_1 (Nat.le_of_ble_eq_true rfl) rfl x_set_5_3 ?_
  refine x_iconst dX12_lyingIn_2 ?_
  refine x_istore dX12_lyingIn_3 (Nat.le_of_ble_eq_true rfl) rfl x_set_5_4 ?_
  exact hloop 0 (Nat.zero_le _)
theorem m_lyingAll {X : xC} {l : Launch} (hl : l.stackTraces = false) {N : Nat} {sh : xS} {D : xM} {T C W : Nat} {G : Ldt} (hq : mq N sh D T C W G) {B : Int} {f : Int → Int} (hk : s_ok B f) (hB : B ≤ 1000000) (hr : mr T C f (D 82) 0) : x_M X l yX12_lyingAll cX12_lyingAll 3 (some .int) 2 0 0 [.ref (x_b X + 62)] false N sh D (.inl (some (.int (xI (((s_bits (fun c => s_lies f c) C : Nat) : Int)))))) false N sh (x_is (D)) := by
  obtain ⟨hM, hT, hTb, hW, hWb, hC, hCb, hmk, ⟨hG1, hG2, hG3⟩, hod⟩ := id hq
  have s62 := md_62 hM
  have n62 : 62 < N := md_n hM (by decide)
  have s82 := md_82 hM
  have n82 : 82 < N := md_n hM (by decide)
  have hloop : ∀ k : Nat, k ≤ C → x_W (X, l, yX12_lyingAll, cX12_lyingAll, 3, (some .int), x_room 2 0 0, 0, 0, (.inl (some (.int (xI (((s_bits (fun c => s_lies f c) C : Nat) : Int)))))), N, sh, (x_is (D)), false, []) 4 [some (.ref (x_b X + 62)), some (.int (xI ((s_bits (fun c => s_lies f c) k : Nat) : Int))), some (.int (xI (k : Int)))] [] 0 0 false N sh D := by
    refine x_down C ?_ ?_
    · refine x_iload_n dX12_lyingAll_4 x_get_3_2 ?_
      refine x_aload_n dX12_lyingAll_5 x_get_3_0 ?_
      refine x_getI 3 dX12_lyingAll_6 fX_12_287 rfl n62 s62 (by rfl) ?_
      try simp (disch := decide) only [x_up_s, x_up_n, x_up_up, x_u1_s, x_u1_n, hC]
      refine r_icmp_ge (t := 37) dX12_lyingAll_9 rfl ⟨by omega, by omega⟩ ⟨by omega, by omega⟩ (fun hc9 => ?_) (fun hc9 => absurd hc9 (by omega))
      refine x_iload_n dX12_lyingAll_37 x_get_3_1 ?_
      exact x_iret dX12_lyingAll_38 rfl (Nat.le_of_ble_eq_true rfl) (Nat.le_of_ble_eq_true rfl) rfl rfl rfl rfl rfl
    · intro k hk2 ih
      have hcr := s_cr hk (c := (k : Int)) (by omega) (by omega)
      have e55 : D 82 (0 + 55 + (k : Int)) = f (55 + (k : Int)) := mr_c hr rfl (by decide) (by omega) (by omega)
      refine x_iload_n dX12_lyingAll_4 x_get_3_2 ?_
      refine x_aload_n dX12_lyingAll_5 x_get_3_0 ?_
      refine x_getI 3 dX12_lyingAll_6 fX_12_287 rfl n62 s62 (by rfl) ?_
      try simp (disch := decide) only [x_up_s, x_up_n, x_up_up, x_u1_s, x_u1_n, hC, e55]
      refine r_icmp_ge (t := 37) dX12_lyingAll_9 rfl ⟨by omega, by omega⟩ ⟨by omega, by omega⟩ (fun hc9 => absurd hc9 (by omega)) (fun hc9 => ?_)
      refine x_iload_n dX12_lyingAll_12 x_get_3_1 ?_
      refine x_aload_n dX12_lyingAll_13 x_get_3_0 ?_
      refine x_iconst dX12_lyingAll_14 ?_
      refine x_iload_n dX12_lyingAll_15 x_get_3_2 ?_
      refine x_callV (As := [_, _]) dX12_lyingAll_16 w_12_308 (m_lies hl hq hk hB (Or.inl rfl) hr (c := (k : Int)) (by omega) (by omega)) (by assumption) (by assumption) rfl rfl (Nat.le_of_ble_eq_true rfl) (Nat.le_of_ble_eq_true rfl) (Nat.le_of_ble_eq_true rfl) (Nat.le_of_ble_eq_true rfl) (Nat.le_of_ble_eq_true rfl) ?_
      intro dz hdz
      obtain rfl := Eq.symm hdz
      refine b_ifeq (t := 28) dX12_lyingAll_19 rfl (fun hc19 => ?_) (fun hc19 => ?_)
      · refine x_iconst dX12_lyingAll_28 ?_
        refine x_ior dX12_lyingAll_29 ?_
        refine x_as_is (by first | exact s_bits_or (fun c => s_lies f c) (by omega) hc19 | exact s_bits_or0 (fun c => s_lies f c) (by omega) hc19 | exact s_bits_or0 (fun c => s_lies f c) (by omega) (by omega)) ?_
        refine x_istore_n dX12_lyingAll_30 (Nat.le_of_ble_eq_true rfl) rfl x_set_3_1 ?_
        refine x_iinc dX12_lyingAll_31 x_get_3_2 (Nat.le_of_ble_eq_true rfl) rfl x_set_3_2 ?_
        refine x_goto (t := 4) dX12_lyingAll_34 rfl ?_
        exact ih
      · refine x_iconst dX12_lyingAll_22 ?_
        refine x_iload_n dX12_lyingAll_23 x_get_3_2 ?_
        refine x_ishl dX12_lyingAll_24 ?_
        refine x_goto (t := 29) dX12_lyingAll_25 rfl ?_
        refine x_ior dX12_lyingAll_29 ?_
        refine x_as_is (by first | exact s_bits_or (fun c => s_lies f c) (by omega) hc19 | exact s_bits_or0 (fun c => s_lies f c) (by omega) hc19 | exact s_bits_or0 (fun c => s_lies f c) (by omega) (by omega)) ?_
        refine x_istore_n dX12_lyingAll_30 (Nat.le_of_ble_eq_true rfl) rfl x_set_3_1 ?_
        refine x_iinc dX12_lyingAll_31 x_get_3_2 (Nat.le_of_ble_eq_true rfl) rfl x_set_3_2 ?_
        refine x_goto (t := 4) dX12_lyingAll_34 rfl ?_
        exact ih
  refine x_ofW (by decide +kernel) hl (by simp [Value.category]) (by simp) ?_
  refine x_iconst dX12_lyingAll_0 ?_
  refine x_istore_n dX12_lyingAll_1 (Nat.le_of_ble_eq_true rfl) rfl x_set_3_1 ?_
  refine x_iconst dX12_lyingAll_2 ?_
  refine x_istore_n dX12_lyingAll_3 (Nat.le_of_ble_eq_true rfl) rfl x_set_3_2 ?_
  exact hloop 0 (Nat.zero_le _)
theorem m_goneIn {X : xC} {l : Launch} (hl : l.stackTraces = false) {N : Nat} {sh : xS} {D : xM} {T C W : Nat} {G : Ldt} (hq : mq N sh D T C W G) {B : Int} {f : Int → Int} (hk : s_ok B f) (hB : B ≤ 1000000) {b : Int} (hb : b = 0 ∨ b = 85) (hr : mr T C f (D 82) b) : x_M X l yX12_goneIn cX12_goneIn 4 (some .int) 1 0 0 [.ref (x_b X + 62), .int (xI b)] false N sh D (.inl (some (.int (xI (((s_bits (fun c => s_gone f c) C : Nat) : Int)))))) false N sh (x_is (D)) := by
  obtain ⟨hM, hT, hTb, hW, hWb, hC, hCb, hmk, ⟨hG1, hG2, hG3⟩, hod⟩ := id hq
  have s62 := md_62 hM
  have n62 : 62 < N := md_n hM (by decide)
  have s82 := md_82 hM
  have n82 : 82 < N := md_n hM (by decide)
  have hloop : ∀ k : Nat, k ≤ C → x_W (X, l, yX12_goneIn, cX12_goneIn, 4, (some .int), x_room 1 0 0, 0, 0, (.inl (some (.int (xI (((s_bits (fun c => s_gone f c) C : Nat) : Int)))))), N, sh, (x_is (D)), false, []) 4 [some (.ref (x_b X + 62)), some (.int (xI b)), some (.int (xI ((s_bits (fun c => s_gone f c) k : Nat) : Int))), some (.int (xI (k : Int)))] [] 0 0 false N sh D := by
    refine x_down C ?_ ?_
    · refine x_iload_n dX12_goneIn_4 x_get_4_3 ?_
      refine x_aload_n dX12_goneIn_5 x_get_4_0 ?_
      refine x_getI 3 dX12_goneIn_6 fX_12_287 rfl n62 s62 (by rfl) ?_
      try simp (disch := decide) only [x_up_s, x_up_n, x_up_up, x_u1_s, x_u1_n, hC]
      refine r_icmp_ge (t := 43) dX12_goneIn_9 rfl ⟨by omega, by omega⟩ ⟨by omega, by omega⟩ (fun hc9 => ?_) (fun hc9 => absurd hc9 (by omega))
      refine x_iload_n dX12_goneIn_43 x_get_4_2 ?_
      exact x_iret dX12_goneIn_44 rfl (Nat.le_of_ble_eq_true rfl) (Nat.le_of_ble_eq_true rfl) rfl rfl rfl rfl rfl
    · intro k hk2 ih
      have hcr := s_cr hk (c := (k : Int)) (by omega) (by omega)
      have e55 : D 82 (b + 55 + (k : Int)) = f (55 + (k : Int)) := mr_c hr rfl (by decide) (by omega) (by omega)
      refine x_iload_n dX12_goneIn_4 x_get_4_3 ?_
      refine x_aload_n dX12_goneIn_5 x_get_4_0 ?_
      refine x_getI 3 dX12_goneIn_6 fX_12_287 rfl n62 s62 (by rfl) ?_
      try simp (disch := decide) only [x_up_s, x_up_n, x_up_up, x_u1_s, x_u1_n, hC, e55]
      refine r_icmp_ge (t := 43) dX12_goneIn_9 rfl ⟨by omega, by omega⟩ ⟨by omega, by omega⟩ (fun hc9 => absurd hc9 (by omega)) (fun hc9 => ?_)
      refine x_iload_n dX12_goneIn_12 x_get_4_2 ?_
      refine x_aload_n dX12_goneIn_13 x_get_4_0 ?_
      refine x_getR dX12_goneIn_14 fX_12_75 n62 s62 (by rfl) ?_
      refine x_iload_n dX12_goneIn_17 x_get_4_1 ?_
      refine x_bipush dX12_goneIn_18 rfl ?_
      refine x_iadd dX12_goneIn_20 ?_
      refine x_iload_n dX12_goneIn_21 x_get_4_3 ?_
      refine x_iadd dX12_goneIn_22 ?_
      refine x_iald dX12_goneIn_23 n82 s82 (by omega) (by omega) (by decide) ?_
      try simp (disch := decide) only [x_up_s, x_up_n, x_up_up, x_u1_s, x_u1_n, hC, e55]
      refine x_iconst dX12_goneIn_24 ?_
      refine r_icmp_ne (t := 34) dX12_goneIn_25 rfl ⟨by omega, by omega⟩ ⟨by omega, by omega⟩ (fun hc25 => ?_) (fun hc25 => ?_)
      · refine x_iconst dX12_goneIn_34 ?_
        refine x_ior dX12_goneIn_35 ?_
        refine x_as_is (by first | exact s_bits_or (fun c => s_gone f c) (by omega) hc25 | exact s_bits_or0 (fun c => s_gone f c) (by omega) hc25 | exact s_bits_or0 (fun c => s_gone f c) (by omega) (by omega)) ?_
        refine x_istore_n dX12_goneIn_36 (Nat.le_of_ble_eq_true rfl) rfl x_set_4_2 ?_
        refine x_iinc dX12_goneIn_37 x_get_4_3 (Nat.le_of_ble_eq_true rfl) rfl x_set_4_3 ?_
        refine x_goto (t := 4) dX12_goneIn_40 rfl ?_
        exact ih
      · refine x_iconst dX12_goneIn_28 ?_
        refine x_iload_n dX12_goneIn_29 x_get_4_3 ?_
        refine x_ishl dX12_goneIn_30 ?_
        refine x_goto (t := 35) dX12_goneIn_31 rfl ?_
        refine x_ior dX12_goneIn_35 ?_
        refine x_as_is (by first | exact s_bits_or (fun c => s_gone f c) (by omega) hc25 | exact s_bits_or0 (fun c => s_gone f c) (by omega) hc25 | exact s_bits_or0 (fun c => s_gone f c) (by omega) (by omega)) ?_
        refine x_istore_n dX12_goneIn_36 (Nat.le_of_ble_eq_true rfl) rfl x_set_4_2 ?_
        refine x_iinc dX12_goneIn_37 x_get_4_3 (Nat.le_of_ble_eq_true rfl) rfl x_set_4_3 ?_
        refine x_goto (t := 4) dX12_goneIn_40 rfl ?_
        exact ih
  refine x_ofW (by decide +kernel) hl (by simp [Value.category]) (by simp) ?_
  refine x_iconst dX12_goneIn_0 ?_
  refine x_istore_n dX12_goneIn_1 (Nat.le_of_ble_eq_true rfl) rfl x_set_4_2 ?_
  refine x_iconst dX12_goneIn_2 ?_
  refine x_istore_n dX12_goneIn_3 (Nat.le_of_ble_eq_true rfl) rfl x_set_4_3 ?_
  exact hloop 0 (Nat.zero_le _)
theorem m_goingAll {X : xC} {l : Launch} (hl : l.stackTraces = false) {N : Nat} {sh : xS} {D : xM} {T C W : Nat} {G : Ldt} (hq : mq N sh D T C W G) {B : Int} {f : Int → Int} (hk : s_ok B f) (hB : B ≤ 1000000) (hr : mr T C f (D 82) 0) : x_M X l yX12_goingAll cX12_goingAll 3 (some .int) 1 0 0 [.ref (x_b X + 62)] false N sh D (.inl (some (.int (xI (((s_bits (fun c => s_mov f c) C : Nat) : Int)))))) false N sh (x_is (D)) := by
  obtain ⟨hM, hT, hTb, hW, hWb, hC, hCb, hmk, ⟨hG1, hG2, hG3⟩, hod⟩ := id hq
  have s62 := md_62 hM
  have n62 : 62 < N := md_n hM (by decide)
  have s82 := md_82 hM
  have n82 : 82 < N := md_n hM (by decide)
  have hloop : ∀ k : Nat, k ≤ C → x_W (X, l, yX12_goingAll, cX12_goingAll, 3, (some .int), x_room 1 0 0, 0, 0, (.inl (some (.int (xI (((s_bits (fun c => s_mov f c) C : Nat) : Int)))))), N, sh, (x_is (D)), false, []) 4 [some (.ref (x_b X + 62)), some (.int (xI ((s_bits (fun c => s_mov f c) k : Nat) : Int))), some (.int (xI (k : Int)))] [] 0 0 false N sh D := by
    refine x_down C ?_ ?_
    · refine x_iload_n dX12_goingAll_4 x_get_3_2 ?_
      refine x_aload_n dX12_goingAll_5 x_get_3_0 ?_
      refine x_getI 3 dX12_goingAll_6 fX_12_287 rfl n62 s62 (by rfl) ?_
      try simp (disch := decide) only [x_up_s, x_up_n, x_up_up, x_u1_s, x_u1_n, hC]
      refine r_icmp_ge (t := 40) dX12_goingAll_9 rfl ⟨by omega, by omega⟩ ⟨by omega, by omega⟩ (fun hc9 => ?_) (fun hc9 => absurd hc9 (by omega))
      refine x_iload_n dX12_goingAll_40 x_get_3_1 ?_
      exact x_iret dX12_goingAll_41 rfl (Nat.le_of_ble_eq_true rfl) (Nat.le_of_ble_eq_true rfl) rfl rfl rfl rfl rfl
    · intro k hk2 ih
      have hcr := s_cr hk (c := (k : Int)) (by omega) (by omega)
      have e65 : D 82 (65 + (k : Int)) = f (65 + (k : Int)) := mr_c hr rfl (by decide) (by omega) (by omega)
      refine x_iload_n dX12_goingAll_4 x_get_3_2 ?_
      refine x_aload_n dX12_goingAll_5 x_get_3_0 ?_
      refine x_getI 3 dX12_goingAll_6 fX_12_287 rfl n62 s62 (by rfl) ?_
      try simp (disch := decide) only [x_up_s, x_up_n, x_up_up, x_u1_s, x_u1_n, hC, e65]
      refine r_icmp_ge (t := 40) dX12_goingAll_9 rfl ⟨by omega, by omega⟩ ⟨by omega, by omega⟩ (fun hc9 => absurd hc9 (by omega)) (fun hc9 => ?_)
      refine x_iload_n dX12_goingAll_12 x_get_3_1 ?_
      refine x_aload_n dX12_goingAll_13 x_get_3_0 ?_
      refine x_getR dX12_goingAll_14 fX_12_75 n62 s62 (by rfl) ?_
      refine x_bipush dX12_goingAll_17 rfl ?_
      refine x_iload_n dX12_goingAll_19 x_get_3_2 ?_
      refine x_iadd dX12_goingAll_20 ?_
      refine x_iald dX12_goingAll_21 n82 s82 (by omega) (by omega) (by decide) ?_
      try simp (disch := decide) only [x_up_s, x_up_n, x_up_up, x_u1_s, x_u1_n, hC, e65]
      refine r_if_le (t := 31) dX12_goingAll_22 rfl ⟨by omega, by omega⟩ (fun hc22 => ?_) (fun hc22 => ?_)
      · refine x_iconst dX12_goingAll_31 ?_
        refine x_ior dX12_goingAll_32 ?_
        refine x_as_is (by first | exact s_bits_or (fun c => s_mov f c) (by omega) hc22 | exact s_bits_or (fun c => s_mov f c) (by omega) (by omega) | exact s_bits_or0 (fun c => s_mov f c) (by omega) (by omega)) ?_
        refine x_istore_n dX12_goingAll_33 (Nat.le_of_ble_eq_true rfl) rfl x_set_3_1 ?_
        refine x_iinc dX12_goingAll_34 x_get_3_2 (Nat.le_of_ble_eq_true rfl) rfl x_set_3_2 ?_
        refine x_goto (t := 4) dX12_goingAll_37 rfl ?_
        exact ih
      · refine x_iconst dX12_goingAll_25 ?_
        refine x_iload_n dX12_goingAll_26 x_get_3_2 ?_
        refine x_ishl dX12_goingAll_27 ?_
        refine x_goto (t := 32) dX12_goingAll_28 rfl ?_
        refine x_ior dX12_goingAll_32 ?_
        refine x_as_is (by first | exact s_bits_or (fun c => s_mov f c) (by omega) hc22 | exact s_bits_or (fun c => s_mov f c) (by omega) (by omega) | exact s_bits_or0 (fun c => s_mov f c) (by omega) (by omega)) ?_
        refine x_istore_n dX12_goingAll_33 (Nat.le_of_ble_eq_true rfl) rfl x_set_3_1 ?_
        refine x_iinc dX12_goingAll_34 x_get_3_2 (Nat.le_of_ble_eq_true rfl) rfl x_set_3_2 ?_
        refine x_goto (t := 4) dX12_goingAll_37 rfl ?_
        exact ih
  refine x_ofW (by decide +kernel) hl (by simp [Value.category]) (by simp) ?_
  refine x_iconst dX12_goingAll_0 ?_
  refine x_istore_n dX12_goingAll_1 (Nat.le_of_ble_eq_true rfl) rfl x_set_3_1 ?_
  refine x_iconst dX12_goingAll_2 ?_
  refine x_istore_n dX12_goingAll_3 (Nat.le_of_ble_eq_true rfl) rfl x_set_3_2 ?_
  exact hloop 0 (Nat.zero_le _)
theorem m_cratesGo {X : xC} {l : Launch} (hl : l.stackTraces = false) {N : Nat} {sh : xS} {D : xM} {T C W : Nat} {G : Ldt} (hq : mq N sh D T C W G) {B : Int} {f : Int → Int} (hk : s_ok B f) (hB : B ≤ 1000000) {b : Int} (hb : b = 0 ∨ b = 85) (hr : mr T C f (D 82) b) : x_M X l yX12_cratesGo cX12_cratesGo 3 (none) 2 0 0 [.ref (x_b X + 62), .int (xI b)] false N sh D (.inl none) false N sh (m_w T C b (s_mv f C) D) := by
  obtain ⟨hM, hT, hTb, hW, hWb, hC, hCb, hmk, ⟨hG1, hG2, hG3⟩, hod⟩ := id hq
  have s62 := md_62 hM
  have n62 : 62 < N := md_n hM (by decide)
  have s82 := md_82 hM
  have n82 : 82 < N := md_n hM (by decide)
  have hloop : ∀ k : Nat, k ≤ C → ∀ d : xM, m_w T C b (s_mv f k) D d → x_W (X, l, yX12_cratesGo, cX12_cratesGo, 3, none, x_room 2 0 0, 0, 0, (.inl none), N, sh, (m_w T C b (s_mv f C) D), false, []) 2 [some (.ref (x_b X + 62)), some (.int (xI b)), some (.int (xI (k : Int)))] [] 0 0 false N sh d := by
    refine x_down C ?_ ?_
    · intro d hd
      have hC2 : d 62 3 = C := by rw [hd.1 62 (by decide)]; exact hC
      refine x_iload_n dX12_cratesGo_2 x_get_3_2 ?_
      refine x_aload_n dX12_cratesGo_3 x_get_3_0 ?_
      refine x_getI 3 dX12_cratesGo_4 fX_12_287 rfl n62 s62 (by rfl) ?_
      try simp (disch := decide) only [x_up_s, x_up_n, x_up_up, x_u1_s, x_u1_n, hC2]
      refine r_icmp_ge (t := 102) dX12_cratesGo_7 rfl ⟨by omega, by omega⟩ ⟨by omega, by omega⟩ (fun hc7 => ?_) (fun hc7 => absurd hc7 (by omega))
      exact x_vret dX12_cratesGo_102 rfl (Nat.le_of_ble_eq_true rfl) (Nat.le_of_ble_eq_true rfl) rfl rfl rfl hd rfl
    · intro k hk2 ih d hd
      have hC2 : d 62 3 = C := by rw [hd.1 62 (by decide)]; exact hC
      have hks := s_ok_mv hk k (by omega)
      have hcr := s_cr hks (c := (k : Int)) (by omega) (by omega)
      rw [show s_mv f (k + 1) = s_mv1 (s_mv f k) k from rfl] at ih
      generalize s_mv f k = q at hd hks hcr ih
      have e25 : d 82 (b + 25 + (k : Int)) = q (25 + (k : Int)) := mr_c hd.2.1 rfl (by decide) (by omega) (by omega)
      have e45 : d 82 (b + 45 + (k : Int)) = q (45 + (k : Int)) := mr_c hd.2.1 rfl (by decide) (by omega) (by omega)
      have e65 : d 82 (b + 65 + (k : Int)) = q (65 + (k : Int)) := mr_c hd.2.1 rfl (by decide) (by omega) (by omega)
      have e75 : d 82 (b + 75 + (k : Int)) = q (75 + (k : Int)) := mr_c hd.2.1 rfl (by decide) (by omega) (by omega)
      have tail : ∀ d2 : xM, m_w T C b (s_mv1 q k) D d2 → x_W (X, l, yX12_cratesGo, cX12_cratesGo, 3, none, x_room 2 0 0, 0, 0, (.inl none), N, sh, (m_w T C b (s_mv f C) D), false, []) 96 [some (.ref (x_b X + 62)), some (.int (xI b)), some (.int (xI (k : Int)))] [] 0 0 false N sh d2 := by
        intro d2 hd2
        refine x_iinc dX12_cratesGo_96 x_get_3_2 (Nat.le_of_ble_eq_true rfl) rfl x_set_3_2 ?_
        refine x_goto (t := 2) dX12_cratesGo_99 rfl ?_
        exact ih d2 hd2
      refine x_iload_n dX12_cratesGo_2 x_get_3_2 ?_
      refine x_aload_n dX12_cratesGo_3 x_get_3_0 ?_
      refine x_getI 3 dX12_cratesGo_4 fX_12_287 rfl n62 s62 (by rfl) ?_
      try simp (disch := first | decide | omega) only [x_up_s, x_up_n, x_up_up, x_u1_s, x_u1_n, hC2, e25, e45, e65, e75]
      refine r_icmp_ge (t := 102) dX12_cratesGo_7 rfl ⟨by omega, by omega⟩ ⟨by omega, by omega⟩ (fun hc7 => absurd hc7 (by omega)) (fun hc7 => ?_)
      refine x_aload_n dX12_cratesGo_10 x_get_3_0 ?_
      refine x_getR dX12_cratesGo_11 fX_12_75 n62 s62 (by rfl) ?_
      refine x_iload_n dX12_cratesGo_14 x_get_3_1 ?_
      refine x_bipush dX12_cratesGo_15 rfl ?_
      refine x_iadd dX12_cratesGo_17 ?_
      refine x_iload_n dX12_cratesGo_18 x_get_3_2 ?_
      refine x_iadd dX12_cratesGo_19 ?_
      refine x_iald dX12_cratesGo_20 n82 s82 (by omega) (by omega) (by decide) ?_
      try simp (disch := first | decide | omega) only [x_up_s, x_up_n, x_up_up, x_u1_s, x_u1_n, hC2, e25, e45, e65, e75]
      refine r_if_ne (t := 27) dX12_cratesGo_21 rfl ⟨by omega, by omega⟩ (fun hc21 => ?_) (fun hc21 => ?_)
      · refine x_aload_n dX12_cratesGo_27 x_get_3_0 ?_
        refine x_getR dX12_cratesGo_28 fX_12_75 n62 s62 (by rfl) ?_
        refine x_iload_n dX12_cratesGo_31 x_get_3_1 ?_
        refine x_bipush dX12_cratesGo_32 rfl ?_
        refine x_iadd dX12_cratesGo_34 ?_
        refine x_iload_n dX12_cratesGo_35 x_get_3_2 ?_
        refine x_iadd dX12_cratesGo_36 ?_
        refine x_iald dX12_cratesGo_37 n82 s82 (by omega) (by omega) (by decide) ?_
        try simp (disch := first | decide | omega) only [x_up_s, x_up_n, x_up_up, x_u1_s, x_u1_n, hC2, e25, e45, e65, e75]
        refine r_if_ne (t := 81) dX12_cratesGo_38 rfl ⟨by omega, by omega⟩ (fun hc38 => ?_) (fun hc38 => ?_)
        · refine x_aload_n dX12_cratesGo_81 x_get_3_0 ?_
          refine x_getR dX12_cratesGo_82 fX_12_75 n62 s62 (by rfl) ?_
          refine x_iload_n dX12_cratesGo_85 x_get_3_1 ?_
          refine x_bipush dX12_cratesGo_86 rfl ?_
          refine x_iadd dX12_cratesGo_88 ?_
          refine x_iload_n dX12_cratesGo_89 x_get_3_2 ?_
          refine x_iadd dX12_cratesGo_90 ?_
          refine x_dup2 dX12_cratesGo_91 rfl rfl ?_
          refine x_iald dX12_cratesGo_92 n82 s82 (by omega) (by omega) (by decide) ?_
          try simp (disch := first | decide | omega) only [x_up_s, x_up_n, x_up_up, x_u1_s, x_u1_n, hC2, e25, e45, e65, e75]
          refine x_iconst dX12_cratesGo_93 ?_
          refine x_isub dX12_cratesGo_94 ?_
          refine x_iast dX12_cratesGo_95 n82 s82 (by omega) (by omega) (by decide) ?_
          first
            | exact tail _ (by rw [s_mv1, if_pos (by omega), if_pos (by omega)]; try dsimp only
                               rw [x_u1_n (show 65 + (k : Int) ≠ 25 + (k : Int) by omega)]; exact m_w_u1 (m_w_u1 hd (by omega) (by omega) (by omega)) (by omega) (by omega) (by omega))
            | exact tail _ (by rw [s_mv1, if_pos (by omega), if_neg (by omega)]; try dsimp only
                               exact m_w_u1 hd (by omega) (by omega) (by omega))
            | exact tail _ (by rw [s_mv1, if_neg (by omega)]; exact hd)
        · refine x_aload_n dX12_cratesGo_41 x_get_3_0 ?_
          refine x_getR dX12_cratesGo_42 fX_12_75 n62 s62 (by rfl) ?_
          refine x_iload_n dX12_cratesGo_45 x_get_3_1 ?_
          refine x_bipush dX12_cratesGo_46 rfl ?_
          refine x_iadd dX12_cratesGo_48 ?_
          refine x_iload_n dX12_cratesGo_49 x_get_3_2 ?_
          refine x_iadd dX12_cratesGo_50 ?_
          refine x_aload_n dX12_cratesGo_51 x_get_3_0 ?_
          refine x_getR dX12_cratesGo_52 fX_12_75 n62 s62 (by rfl) ?_
          refine x_iload_n dX12_cratesGo_55 x_get_3_1 ?_
          refine x_bipush dX12_cratesGo_56 rfl ?_
          refine x_iadd dX12_cratesGo_58 ?_
          refine x_iload_n dX12_cratesGo_59 x_get_3_2 ?_
          refine x_iadd dX12_cratesGo_60 ?_
          refine x_iald dX12_cratesGo_61 n82 s82 (by omega) (by omega) (by decide) ?_
          try simp (disch := first | decide | omega) only [x_up_s, x_up_n, x_up_up, x_u1_s, x_u1_n, hC2, e25, e45, e65, e75]
          refine x_aload_n dX12_cratesGo_62 x_get_3_0 ?_
          refine x_getR dX12_cratesGo_63 fX_12_75 n62 s62 (by rfl) ?_
          refine x_iload_n dX12_cratesGo_66 x_get_3_1 ?_
          refine x_bipush dX12_cratesGo_67 rfl ?_
          refine x_iadd dX12_cratesGo_69 ?_
          refine x_iload_n dX12_cratesGo_70 x_get_3_2 ?_
          refine x_iadd dX12_cratesGo_71 ?_
          refine x_iald dX12_cratesGo_72 n82 s82 (by omega) (by omega) (by decide) ?_
          try simp (disch := first | decide | omega) only [x_up_s, x_up_n, x_up_up, x_u1_s, x_u1_n, hC2, e25, e45, e65, e75]
          refine x_isub dX12_cratesGo_73 ?_
          refine x_iconst dX12_cratesGo_74 ?_
          refine x_bipush dX12_cratesGo_75 rfl ?_
          refine x_callS (As := [_, _, _]) dX12_cratesGo_77 w_12_311 (m_kept hl (max 0 (q (25 + (k : Int)) - q (75 + (k : Int)))) ⟨by omega, by omega⟩ ⟨by decide, by decide⟩ ⟨by decide, by decide⟩ (by decide) (by omega)) rfl rfl (Nat.le_of_ble_eq_true rfl) (Nat.le_of_ble_eq_true rfl) (Nat.le_of_ble_eq_true rfl) (Nat.le_of_ble_eq_true rfl) (Nat.le_of_ble_eq_true rfl) ?_
          intro dz hdz
          obtain rfl := Eq.symm hdz
          refine x_iast dX12_cratesGo_80 n82 s82 (by omega) (by omega) (by decide) ?_
          refine x_aload_n dX12_cratesGo_81 x_get_3_0 ?_
          refine x_getR dX12_cratesGo_82 fX_12_75 n62 s62 (by rfl) ?_
          refine x_iload_n dX12_cratesGo_85 x_get_3_1 ?_
          refine x_bipush dX12_cratesGo_86 rfl ?_
          refine x_iadd dX12_cratesGo_88 ?_
          refine x_iload_n dX12_cratesGo_89 x_get_3_2 ?_
          refine x_iadd dX12_cratesGo_90 ?_
          refine x_dup2 dX12_cratesGo_91 rfl rfl ?_
          refine x_iald dX12_cratesGo_92 n82 s82 (by omega) (by omega) (by decide) ?_
          try simp (disch := first | decide | omega) only [x_up_s, x_up_n, x_up_up, x_u1_s, x_u1_n, hC2, e25, e45, e65, e75]
          refine x_iconst dX12_cratesGo_93 ?_
          refine x_isub dX12_cratesGo_94 ?_
          refine x_iast dX12_cratesGo_95 n82 s82 (by omega) (by omega) (by decide) ?_
          first
            | exact tail _ (by rw [s_mv1, if_pos (by omega), if_pos (by omega)]; try dsimp only
                               rw [x_u1_n (show 65 + (k : Int) ≠ 25 + (k : Int) by omega)]; exact m_w_u1 (m_w_u1 hd (by omega) (by omega) (by omega)) (by omega) (by omega) (by omega))
            | exact tail _ (by rw [s_mv1, if_pos (by omega), if_neg (by omega)]; try dsimp only
                               exact m_w_u1 hd (by omega) (by omega) (by omega))
            | exact tail _ (by rw [s_mv1, if_neg (by omega)]; exact hd)
      · refine x_goto (t := 96) dX12_cratesGo_24 rfl ?_
        first
          | exact tail _ (by rw [s_mv1, if_pos (by omega), if_pos (by omega)]; try dsimp only
                             rw [x_u1_n (show 65 + (k : Int) ≠ 25 + (k : Int) by omega)]; exact m_w_u1 (m_w_u1 hd (by omega) (by omega) (by omega)) (by omega) (by omega) (by omega))
          | exact tail _ (by rw [s_mv1, if_pos (by omega), if_neg (by omega)]; try dsimp only
                             exact m_w_u1 hd (by omega) (by omega) (by omega))
          | exact tail _ (by rw [s_mv1, if_neg (by omega)]; exact hd)
  refine x_ofW (by decide +kernel) hl (by simp [Value.category]) (by simp) ?_
  refine x_iconst dX12_cratesGo_0 ?_
  refine x_istore_n dX12_cratesGo_1 (Nat.le_of_ble_eq_true rfl) rfl x_set_3_2 ?_
  exact hloop 0 (Nat.zero_le _) D (m_w_rf hr)
theorem m_makesLuck {X : xC} {l : Launch} (hl : l.stackTraces = false) {N : Nat} {sh : xS} {D : xM} {T C W : Nat} {G : Ldt} (hq : mq N sh D T C W G) {B : Int} {f : Int → Int} (hk : s_ok B f) (hB : B ≤ 1000000) {b : Int} (hb : b = 0 ∨ b = 85) (hr : mr T C f (D 82) b) {t : Int} (h0 : 0 ≤ t) (h1 : t < T) : x_M X l yX12_makesLuck cX12_makesLuck 3 (none) 2 0 0 [.ref (x_b X + 62), .int (xI b), .int (xI t)] false N sh D (.inl none) false N sh (m_w T C b (s_add f (1 + t) (G.1 t)) D) := by
  obtain ⟨hM, hT, hTb, hW, hWb, hC, hCb, hmk, ⟨hG1, hG2, hG3⟩, hod⟩ := id hq
  have s62 := md_62 hM
  have n62 : 62 < N := md_n hM (by decide)
  have s82 := md_82 hM
  have n82 : 82 < N := md_n hM (by decide)
  have s63 := md_63 hM
  have n63 : 63 < N := md_n hM (by decide)
  have htn := s_tn hk (t := t) h0 (by omega)
  obtain ⟨hm63, hm64⟩ := hmk t h0 h1
  have hg1 := hG1 t
  have hg2 := hG2 t
  have e1 : D 82 (b + 1 + t) = f (1 + t) := mr_t hr rfl (by decide) (by omega) (by omega)
  refine x_ofW (by decide +kernel) hl (by simp [Value.category]) (by simp) ?_
  refine x_aload_n dX12_makesLuck_0 x_get_3_0 ?_
  refine x_getR dX12_makesLuck_1 fX_12_75 n62 s62 (by rfl) ?_
  refine x_iload_n dX12_makesLuck_4 x_get_3_1 ?_
  refine x_iconst dX12_makesLuck_5 ?_
  refine x_iadd dX12_makesLuck_6 ?_
  refine x_iload_n dX12_makesLuck_7 x_get_3_2 ?_
  refine x_iadd dX12_makesLuck_8 ?_
  refine x_aload_n dX12_makesLuck_9 x_get_3_0 ?_
  refine x_getR dX12_makesLuck_10 fX_12_75 n62 s62 (by rfl) ?_
  refine x_iload_n dX12_makesLuck_13 x_get_3_1 ?_
  refine x_iconst dX12_makesLuck_14 ?_
  refine x_iadd dX12_makesLuck_15 ?_
  refine x_iload_n dX12_makesLuck_16 x_get_3_2 ?_
  refine x_iadd dX12_makesLuck_17 ?_
  refine x_iald dX12_makesLuck_18 n82 s82 (by omega) (by omega) (by decide) ?_
  try simp (disch := decide) only [x_up_s, x_up_n, x_up_up, x_u1_s, x_u1_n, e1, hm63]
  refine x_aload_n dX12_makesLuck_19 x_get_3_0 ?_
  refine x_getR dX12_makesLuck_20 fX_12_13 n62 s62 (by rfl) ?_
  refine x_iload_n dX12_makesLuck_23 x_get_3_2 ?_
  refine x_iald dX12_makesLuck_24 n63 s63 (by omega) (by omega) (by decide) ?_
  try simp (disch := decide) only [x_up_s, x_up_n, x_up_up, x_u1_s, x_u1_n, e1, hm63]
  refine x_iadd dX12_makesLuck_25 ?_
  refine x_iconst dX12_makesLuck_26 ?_
  refine x_sipush dX12_makesLuck_27 rfl ?_
  refine x_callS (As := [_, _, _]) dX12_makesLuck_30 w_12_311 (m_kept hl (min 9999 (f (1 + t) + G.1 t)) ⟨by omega, by omega⟩ ⟨by decide, by decide⟩ ⟨by decide, by decide⟩ (by decide) (by omega)) rfl rfl (Nat.le_of_ble_eq_true rfl) (Nat.le_of_ble_eq_true rfl) (Nat.le_of_ble_eq_true rfl) (Nat.le_of_ble_eq_true rfl) (Nat.le_of_ble_eq_true rfl) ?_
  intro dz hdz
  obtain rfl := Eq.symm hdz
  refine x_iast dX12_makesLuck_33 n82 s82 (by omega) (by omega) (by decide) ?_
  exact x_vret dX12_makesLuck_34 rfl (Nat.le_of_ble_eq_true rfl) (Nat.le_of_ble_eq_true rfl) rfl rfl rfl (m_w_u1 (m_w_rf hr) (by omega) (by omega) (by omega)) rfl
theorem m_stakesT {X : xC} {l : Launch} (hl : l.stackTraces = false) {N : Nat} {sh : xS} {D : xM} {T C W : Nat} {G : Ldt} (hq : mq N sh D T C W G) {B : Int} {f : Int → Int} (hk : s_ok B f) (hB : B ≤ 1000000) {b : Int} (hb : b = 0 ∨ b = 85) (hr : mr T C f (D 82) b) {t : Int} (h0 : 0 ≤ t) (h1 : t < T) : x_M X l yX12_stakes cX12_stakes 5 (none) 2 0 0 [.ref (x_b X + 62), .int (xI b), .int (xI t), .int (xI 1)] false N sh D (.inl none) false N sh (m_w T C b (s_evn (s_win f t (G.2.1 t)) t) D) := by
  obtain ⟨hM, hT, hTb, hW, hWb, hC, hCb, hmk, ⟨hG1, hG2, hG3⟩, hod⟩ := id hq
  have s62 := md_62 hM
  have n62 : 62 < N := md_n hM (by decide)
  have s82 := md_82 hM
  have n82 : 82 < N := md_n hM (by decide)
  have s64 := md_64 hM
  have n64 : 64 < N := md_n hM (by decide)
  have htn := s_tn hk (t := t) h0 (by omega)
  obtain ⟨hm63, hm64⟩ := hmk t h0 h1
  have hg1 := hG1 t
  have hg2 := hG2 t
  have e17 : D 82 (b + 17 + t) = f (17 + t) := mr_t hr rfl (by decide) (by omega) (by omega)
  refine x_ofW (by decide +kernel) hl (by simp [Value.category]) (by simp) ?_
  refine x_aload_n dX12_stakes_0 x_get_5_0 ?_
  refine x_getR dX12_stakes_1 fX_12_75 n62 s62 (by rfl) ?_
  refine x_iload_n dX12_stakes_4 x_get_5_1 ?_
  refine x_bipush dX12_stakes_5 rfl ?_
  refine x_iadd dX12_stakes_7 ?_
  refine x_iload_n dX12_stakes_8 x_get_5_2 ?_
  refine x_iadd dX12_stakes_9 ?_
  refine x_dup2 dX12_stakes_10 rfl rfl ?_
  refine x_iald dX12_stakes_11 n82 s82 (by omega) (by omega) (by decide) ?_
  try simp (disch := decide) only [x_up_s, x_up_n, x_up_up, x_u1_s, x_u1_n, e17, hm64]
  refine x_iload_n dX12_stakes_12 x_get_5_3 ?_
  refine r_if_eq (t := 25) dX12_stakes_13 rfl ⟨by omega, by omega⟩ (fun hc13 => absurd hc13 (by omega)) (fun hc13 => ?_)
  refine x_aload_n dX12_stakes_16 x_get_5_0 ?_
  refine x_getR dX12_stakes_17 fX_12_17 n62 s62 (by rfl) ?_
  refine x_iload_n dX12_stakes_20 x_get_5_2 ?_
  refine x_iald dX12_stakes_21 n64 s64 (by omega) (by omega) (by decide) ?_
  try simp (disch := decide) only [x_up_s, x_up_n, x_up_up, x_u1_s, x_u1_n, e17, hm64]
  refine x_goto (t := 33) dX12_stakes_22 rfl ?_
  refine x_iadd dX12_stakes_33 ?_
  refine x_iast dX12_stakes_34 n82 s82 (by omega) (by omega) (by decide) ?_
  skip
  have w1 := m_w_u1 (m_w_rf hr) (k := 17 + t) (m := b + 17 + t) (v := f (17 + t) + G.2.1 t) (by omega) (by omega) (by omega)
  generalize x_up D 82 (x_u1 (D 82) (b + 17 + t) (f (17 + t) + G.2.1 t)) = d1 at w1 ⊢
  have a1 : d1 82 (b + 1 + t) = f (1 + t) := by rw [mr_t w1.2.1 rfl (by decide) h0 h1, x_u1_n (by omega)]
  have a9 : d1 82 (b + 9 + t) = f (9 + t) := by rw [mr_t w1.2.1 rfl (by decide) h0 h1, x_u1_n (by omega)]
  have a64 : d1 64 t = G.2.1 t := by rw [w1.1 64 (by decide)]; exact hm64
  refine x_aload_n dX12_stakes_35 x_get_5_0 ?_
  refine x_getR dX12_stakes_36 fX_12_75 n62 s62 (by rfl) ?_
  refine x_iload_n dX12_stakes_39 x_get_5_1 ?_
  refine x_iconst dX12_stakes_40 ?_
  refine x_iadd dX12_stakes_41 ?_
  refine x_iload_n dX12_stakes_42 x_get_5_2 ?_
  refine x_iadd dX12_stakes_43 ?_
  refine x_aload_n dX12_stakes_44 x_get_5_0 ?_
  refine x_getR dX12_stakes_45 fX_12_75 n62 s62 (by rfl) ?_
  refine x_iload_n dX12_stakes_48 x_get_5_1 ?_
  refine x_iconst dX12_stakes_49 ?_
  refine x_iadd dX12_stakes_50 ?_
  refine x_iload_n dX12_stakes_51 x_get_5_2 ?_
  refine x_iadd dX12_stakes_52 ?_
  refine x_iald dX12_stakes_53 n82 s82 (by omega) (by omega) (by decide) ?_
  try simp (disch := decide) only [x_up_s, x_up_n, x_up_up, x_u1_s, x_u1_n, a1, a64]
  refine x_iload_n dX12_stakes_54 x_get_5_3 ?_
  refine r_if_eq (t := 69) dX12_stakes_55 rfl ⟨by omega, by omega⟩ (fun hc55 => absurd hc55 (by omega)) (fun hc55 => ?_)
  refine x_iconst dX12_stakes_58 ?_
  refine x_aload_n dX12_stakes_59 x_get_5_0 ?_
  refine x_getR dX12_stakes_60 fX_12_17 n62 s62 (by rfl) ?_
  refine x_iload_n dX12_stakes_63 x_get_5_2 ?_
  refine x_iald dX12_stakes_64 n64 s64 (by omega) (by omega) (by decide) ?_
  try simp (disch := decide) only [x_up_s, x_up_n, x_up_up, x_u1_s, x_u1_n, a1, a64]
  refine x_isub dX12_stakes_65 ?_
  refine x_goto (t := 77) dX12_stakes_66 rfl ?_
  refine x_iadd dX12_stakes_77 ?_
  refine x_iconst dX12_stakes_78 ?_
  refine x_sipush dX12_stakes_79 rfl ?_
  refine x_callS (As := [_, _, _]) dX12_stakes_82 w_12_311 (m_kept hl (max 0 (f (1 + t) - G.2.1 t)) ⟨by omega, by omega⟩ ⟨by decide, by decide⟩ ⟨by decide, by decide⟩ (by decide) (by omega)) rfl rfl (Nat.le_of_ble_eq_true rfl) (Nat.le_of_ble_eq_true rfl) (Nat.le_of_ble_eq_true rfl) (Nat.le_of_ble_eq_true rfl) (Nat.le_of_ble_eq_true rfl) ?_
  intro dz hdz
  obtain rfl := Eq.symm hdz
  refine x_iast dX12_stakes_85 n82 s82 (by omega) (by omega) (by decide) ?_
  skip
  have w2 := m_w_u1 w1 (k := 1 + t) (m := b + 1 + t) (v := (max 0 (f (1 + t) - G.2.1 t))) (by omega) (by omega) (by omega)
  generalize x_up d1 82 (x_u1 (d1 82) (b + 1 + t) (max 0 (f (1 + t) - G.2.1 t))) = d2 at w2 ⊢
  have b1 : d2 82 (b + 1 + t) = (max 0 (f (1 + t) - G.2.1 t)) := by rw [mr_t w2.2.1 rfl (by decide) h0 h1, x_u1_s]
  have b9 : d2 82 (b + 9 + t) = f (9 + t) := by rw [mr_t w2.2.1 rfl (by decide) h0 h1, x_u1_n (by omega), x_u1_n (by omega)]
  refine x_aload_n dX12_stakes_86 x_get_5_0 ?_
  refine x_getR dX12_stakes_87 fX_12_75 n62 s62 (by rfl) ?_
  refine x_iload_n dX12_stakes_90 x_get_5_1 ?_
  refine x_iconst dX12_stakes_91 ?_
  refine x_iadd dX12_stakes_92 ?_
  refine x_iload_n dX12_stakes_93 x_get_5_2 ?_
  refine x_iadd dX12_stakes_94 ?_
  refine x_iald dX12_stakes_95 n82 s82 (by omega) (by omega) (by decide) ?_
  try simp (disch := decide) only [x_up_s, x_up_n, x_up_up, x_u1_s, x_u1_n, b1, b9]
  refine x_aload_n dX12_stakes_96 x_get_5_0 ?_
  refine x_getR dX12_stakes_97 fX_12_75 n62 s62 (by rfl) ?_
  refine x_iload_n dX12_stakes_100 x_get_5_1 ?_
  refine x_bipush dX12_stakes_101 rfl ?_
  refine x_iadd dX12_stakes_103 ?_
  refine x_iload_n dX12_stakes_104 x_get_5_2 ?_
  refine x_iadd dX12_stakes_105 ?_
  refine x_iald dX12_stakes_106 n82 s82 (by omega) (by omega) (by decide) ?_
  try simp (disch := decide) only [x_up_s, x_up_n, x_up_up, x_u1_s, x_u1_n, b1, b9]
  refine x_callS (As := [_, _]) dX12_stakes_107 w_12_323 (m_lesser hl ⟨by omega, by omega⟩ ⟨by omega, by omega⟩) rfl rfl (Nat.le_of_ble_eq_true rfl) (Nat.le_of_ble_eq_true rfl) (Nat.le_of_ble_eq_true rfl) (Nat.le_of_ble_eq_true rfl) (Nat.le_of_ble_eq_true rfl) ?_
  intro dz hdz
  obtain rfl := Eq.symm hdz
  refine x_istore dX12_stakes_110 (Nat.le_of_ble_eq_true rfl) rfl x_set_5_4 ?_
  refine x_aload_n dX12_stakes_112 x_get_5_0 ?_
  refine x_getR dX12_stakes_113 fX_12_75 n62 s62 (by rfl) ?_
  refine x_iload_n dX12_stakes_116 x_get_5_1 ?_
  refine x_iconst dX12_stakes_117 ?_
  refine x_iadd dX12_stakes_118 ?_
  refine x_iload_n dX12_stakes_119 x_get_5_2 ?_
  refine x_iadd dX12_stakes_120 ?_
  refine x_dup2 dX12_stakes_121 rfl rfl ?_
  refine x_iald dX12_stakes_122 n82 s82 (by omega) (by omega) (by decide) ?_
  try simp (disch := decide) only [x_up_s, x_up_n, x_up_up, x_u1_s, x_u1_n, b1, b9]
  refine x_iload dX12_stakes_123 x_get_5_4 ?_
  refine x_isub dX12_stakes_125 ?_
  refine x_iast dX12_stakes_126 n82 s82 (by omega) (by omega) (by decide) ?_
  skip
  have w3 := m_w_u1 w2 (k := 1 + t) (m := b + 1 + t) (v := (max 0 (f (1 + t) - G.2.1 t)) - (min (max 0 (f (1 + t) - G.2.1 t)) (f (9 + t)))) (by omega) (by omega) (by omega)
  generalize x_up d2 82 (x_u1 (d2 82) (b + 1 + t) ((max 0 (f (1 + t) - G.2.1 t)) - (min (max 0 (f (1 + t) - G.2.1 t)) (f (9 + t))))) = d3 at w3 ⊢
  have c9 : d3 82 (b + 9 + t) = f (9 + t) := by rw [mr_t w3.2.1 rfl (by decide) h0 h1, x_u1_n (by omega), x_u1_n (by omega), x_u1_n (by omega)]
  refine x_aload_n dX12_stakes_127 x_get_5_0 ?_
  refine x_getR dX12_stakes_128 fX_12_75 n62 s62 (by rfl) ?_
  refine x_iload_n dX12_stakes_131 x_get_5_1 ?_
  refine x_bipush dX12_stakes_132 rfl ?_
  refine x_iadd dX12_stakes_134 ?_
  refine x_iload_n dX12_stakes_135 x_get_5_2 ?_
  refine x_iadd dX12_stakes_136 ?_
  refine x_dup2 dX12_stakes_137 rfl rfl ?_
  refine x_iald dX12_stakes_138 n82 s82 (by omega) (by omega) (by decide) ?_
  try simp (disch := decide) only [x_up_s, x_up_n, x_up_up, x_u1_s, x_u1_n, c9]
  refine x_iload dX12_stakes_139 x_get_5_4 ?_
  refine x_isub dX12_stakes_141 ?_
  refine x_iast dX12_stakes_142 n82 s82 (by omega) (by omega) (by decide) ?_
  exact x_vret dX12_stakes_143 rfl (Nat.le_of_ble_eq_true rfl) (Nat.le_of_ble_eq_true rfl) rfl rfl rfl (by rw [s_evn_win]; exact m_w_u1 w3 (by omega) (by omega) (by omega)) rfl
theorem m_stakesF {X : xC} {l : Launch} (hl : l.stackTraces = false) {N : Nat} {sh : xS} {D : xM} {T C W : Nat} {G : Ldt} (hq : mq N sh D T C W G) {B : Int} {f : Int → Int} (hk : s_ok B f) (hB : B ≤ 1000000) {b : Int} (hb : b = 0 ∨ b = 85) (hr : mr T C f (D 82) b) {t : Int} (h0 : 0 ≤ t) (h1 : t < T) : x_M X l yX12_stakes cX12_stakes 5 (none) 2 0 0 [.ref (x_b X + 62), .int (xI b), .int (xI t), .int (xI 0)] false N sh D (.inl none) false N sh (m_w T C b (s_evn (s_los f t (G.2.1 t)) t) D) := by
  obtain ⟨hM, hT, hTb, hW, hWb, hC, hCb, hmk, ⟨hG1, hG2, hG3⟩, hod⟩ := id hq
  have s62 := md_62 hM
  have n62 : 62 < N := md_n hM (by decide)
  have s82 := md_82 hM
  have n82 : 82 < N := md_n hM (by decide)
  have s64 := md_64 hM
  have n64 : 64 < N := md_n hM (by decide)
  have htn := s_tn hk (t := t) h0 (by omega)
  obtain ⟨hm63, hm64⟩ := hmk t h0 h1
  have hg1 := hG1 t
  have hg2 := hG2 t
  have e17 : D 82 (b + 17 + t) = f (17 + t) := mr_t hr rfl (by decide) (by omega) (by omega)
  refine x_ofW (by decide +kernel) hl (by simp [Value.category]) (by simp) ?_
  refine x_aload_n dX12_stakes_0 x_get_5_0 ?_
  refine x_getR dX12_stakes_1 fX_12_75 n62 s62 (by rfl) ?_
  refine x_iload_n dX12_stakes_4 x_get_5_1 ?_
  refine x_bipush dX12_stakes_5 rfl ?_
  refine x_iadd dX12_stakes_7 ?_
  refine x_iload_n dX12_stakes_8 x_get_5_2 ?_
  refine x_iadd dX12_stakes_9 ?_
  refine x_dup2 dX12_stakes_10 rfl rfl ?_
  refine x_iald dX12_stakes_11 n82 s82 (by omega) (by omega) (by decide) ?_
  try simp (disch := decide) only [x_up_s, x_up_n, x_up_up, x_u1_s, x_u1_n, e17, hm64]
  refine x_iload_n dX12_stakes_12 x_get_5_3 ?_
  refine r_if_eq (t := 25) dX12_stakes_13 rfl ⟨by omega, by omega⟩ (fun hc13 => ?_) (fun hc13 => absurd hc13 (by omega))
  refine x_iconst dX12_stakes_25 ?_
  refine x_aload_n dX12_stakes_26 x_get_5_0 ?_
  refine x_getR dX12_stakes_27 fX_12_17 n62 s62 (by rfl) ?_
  refine x_iload_n dX12_stakes_30 x_get_5_2 ?_
  refine x_iald dX12_stakes_31 n64 s64 (by omega) (by omega) (by decide) ?_
  try simp (disch := decide) only [x_up_s, x_up_n, x_up_up, x_u1_s, x_u1_n, e17, hm64]
  refine x_isub dX12_stakes_32 ?_
  refine x_iadd dX12_stakes_33 ?_
  refine x_iast dX12_stakes_34 n82 s82 (by omega) (by omega) (by decide) ?_
  skip
  rw [show f (17 + t) + (0 - G.2.1 t) = f (17 + t) - G.2.1 t by omega]
  have w1 := m_w_u1 (m_w_rf hr) (k := 17 + t) (m := b + 17 + t) (v := f (17 + t) - G.2.1 t) (by omega) (by omega) (by omega)
  generalize x_up D 82 (x_u1 (D 82) (b + 17 + t) (f (17 + t) - G.2.1 t)) = d1 at w1 ⊢
  have a1 : d1 82 (b + 1 + t) = f (1 + t) := by rw [mr_t w1.2.1 rfl (by decide) h0 h1, x_u1_n (by omega)]
  have a9 : d1 82 (b + 9 + t) = f (9 + t) := by rw [mr_t w1.2.1 rfl (by decide) h0 h1, x_u1_n (by omega)]
  have a64 : d1 64 t = G.2.1 t := by rw [w1.1 64 (by decide)]; exact hm64
  refine x_aload_n dX12_stakes_35 x_get_5_0 ?_
  refine x_getR dX12_stakes_36 fX_12_75 n62 s62 (by rfl) ?_
  refine x_iload_n dX12_stakes_39 x_get_5_1 ?_
  refine x_iconst dX12_stakes_40 ?_
  refine x_iadd dX12_stakes_41 ?_
  refine x_iload_n dX12_stakes_42 x_get_5_2 ?_
  refine x_iadd dX12_stakes_43 ?_
  refine x_aload_n dX12_stakes_44 x_get_5_0 ?_
  refine x_getR dX12_stakes_45 fX_12_75 n62 s62 (by rfl) ?_
  refine x_iload_n dX12_stakes_48 x_get_5_1 ?_
  refine x_iconst dX12_stakes_49 ?_
  refine x_iadd dX12_stakes_50 ?_
  refine x_iload_n dX12_stakes_51 x_get_5_2 ?_
  refine x_iadd dX12_stakes_52 ?_
  refine x_iald dX12_stakes_53 n82 s82 (by omega) (by omega) (by decide) ?_
  try simp (disch := decide) only [x_up_s, x_up_n, x_up_up, x_u1_s, x_u1_n, a1, a64]
  refine x_iload_n dX12_stakes_54 x_get_5_3 ?_
  refine r_if_eq (t := 69) dX12_stakes_55 rfl ⟨by omega, by omega⟩ (fun hc55 => ?_) (fun hc55 => absurd hc55 (by omega))
  refine x_aload_n dX12_stakes_69 x_get_5_0 ?_
  refine x_getR dX12_stakes_70 fX_12_17 n62 s62 (by rfl) ?_
  refine x_iload_n dX12_stakes_73 x_get_5_2 ?_
  refine x_iald dX12_stakes_74 n64 s64 (by omega) (by omega) (by decide) ?_
  try simp (disch := decide) only [x_up_s, x_up_n, x_up_up, x_u1_s, x_u1_n, a1, a64]
  refine x_iconst dX12_stakes_75 ?_
  refine x_idiv dX12_stakes_76 (by decide) ?_
  refine x_as_is (x_dv_nn (by omega) (by omega) (by decide) (by decide)) ?_
  refine x_iadd dX12_stakes_77 ?_
  refine x_iconst dX12_stakes_78 ?_
  refine x_sipush dX12_stakes_79 rfl ?_
  refine x_callS (As := [_, _, _]) dX12_stakes_82 w_12_311 (m_kept hl (min 9999 (f (1 + t) + G.2.1 t / 2)) ⟨by omega, by omega⟩ ⟨by decide, by decide⟩ ⟨by decide, by decide⟩ (by decide) (by omega)) rfl rfl (Nat.le_of_ble_eq_true rfl) (Nat.le_of_ble_eq_true rfl) (Nat.le_of_ble_eq_true rfl) (Nat.le_of_ble_eq_true rfl) (Nat.le_of_ble_eq_true rfl) ?_
  intro dz hdz
  obtain rfl := Eq.symm hdz
  refine x_iast dX12_stakes_85 n82 s82 (by omega) (by omega) (by decide) ?_
  skip
  have w2 := m_w_u1 w1 (k := 1 + t) (m := b + 1 + t) (v := (min 9999 (f (1 + t) + G.2.1 t / 2))) (by omega) (by omega) (by omega)
  generalize x_up d1 82 (x_u1 (d1 82) (b + 1 + t) (min 9999 (f (1 + t) + G.2.1 t / 2))) = d2 at w2 ⊢
  have b1 : d2 82 (b + 1 + t) = (min 9999 (f (1 + t) + G.2.1 t / 2)) := by rw [mr_t w2.2.1 rfl (by decide) h0 h1, x_u1_s]
  have b9 : d2 82 (b + 9 + t) = f (9 + t) := by rw [mr_t w2.2.1 rfl (by decide) h0 h1, x_u1_n (by omega), x_u1_n (by omega)]
  refine x_aload_n dX12_stakes_86 x_get_5_0 ?_
  refine x_getR dX12_stakes_87 fX_12_75 n62 s62 (by rfl) ?_
  refine x_iload_n dX12_stakes_90 x_get_5_1 ?_
  refine x_iconst dX12_stakes_91 ?_
  refine x_iadd dX12_stakes_92 ?_
  refine x_iload_n dX12_stakes_93 x_get_5_2 ?_
  refine x_iadd dX12_stakes_94 ?_
  refine x_iald dX12_stakes_95 n82 s82 (by omega) (by omega) (by decide) ?_
  try simp (disch := decide) only [x_up_s, x_up_n, x_up_up, x_u1_s, x_u1_n, b1, b9]
  refine x_aload_n dX12_stakes_96 x_get_5_0 ?_
  refine x_getR dX12_stakes_97 fX_12_75 n62 s62 (by rfl) ?_
  refine x_iload_n dX12_stakes_100 x_get_5_1 ?_
  refine x_bipush dX12_stakes_101 rfl ?_
  refine x_iadd dX12_stakes_103 ?_
  refine x_iload_n dX12_stakes_104 x_get_5_2 ?_
  refine x_iadd dX12_stakes_105 ?_
  refine x_iald dX12_stakes_106 n82 s82 (by omega) (by omega) (by decide) ?_
  try simp (disch := decide) only [x_up_s, x_up_n, x_up_up, x_u1_s, x_u1_n, b1, b9]
  refine x_callS (As := [_, _]) dX12_stakes_107 w_12_323 (m_lesser hl ⟨by omega, by omega⟩ ⟨by omega, by omega⟩) rfl rfl (Nat.le_of_ble_eq_true rfl) (Nat.le_of_ble_eq_true rfl) (Nat.le_of_ble_eq_true rfl) (Nat.le_of_ble_eq_true rfl) (Nat.le_of_ble_eq_true rfl) ?_
  intro dz hdz
  obtain rfl := Eq.symm hdz
  refine x_istore dX12_stakes_110 (Nat.le_of_ble_eq_true rfl) rfl x_set_5_4 ?_
  refine x_aload_n dX12_stakes_112 x_get_5_0 ?_
  refine x_getR dX12_stakes_113 fX_12_75 n62 s62 (by rfl) ?_
  refine x_iload_n dX12_stakes_116 x_get_5_1 ?_
  refine x_iconst dX12_stakes_117 ?_
  refine x_iadd dX12_stakes_118 ?_
  refine x_iload_n dX12_stakes_119 x_get_5_2 ?_
  refine x_iadd dX12_stakes_120 ?_
  refine x_dup2 dX12_stakes_121 rfl rfl ?_
  refine x_iald dX12_stakes_122 n82 s82 (by omega) (by omega) (by decide) ?_
  try simp (disch := decide) only [x_up_s, x_up_n, x_up_up, x_u1_s, x_u1_n, b1, b9]
  refine x_iload dX12_stakes_123 x_get_5_4 ?_
  refine x_isub dX12_stakes_125 ?_
  refine x_iast dX12_stakes_126 n82 s82 (by omega) (by omega) (by decide) ?_
  skip
  have w3 := m_w_u1 w2 (k := 1 + t) (m := b + 1 + t) (v := (min 9999 (f (1 + t) + G.2.1 t / 2)) - (min (min 9999 (f (1 + t) + G.2.1 t / 2)) (f (9 + t)))) (by omega) (by omega) (by omega)
  generalize x_up d2 82 (x_u1 (d2 82) (b + 1 + t) ((min 9999 (f (1 + t) + G.2.1 t / 2)) - (min (min 9999 (f (1 + t) + G.2.1 t / 2)) (f (9 + t))))) = d3 at w3 ⊢
  have c9 : d3 82 (b + 9 + t) = f (9 + t) := by rw [mr_t w3.2.1 rfl (by decide) h0 h1, x_u1_n (by omega), x_u1_n (by omega), x_u1_n (by omega)]
  refine x_aload_n dX12_stakes_127 x_get_5_0 ?_
  refine x_getR dX12_stakes_128 fX_12_75 n62 s62 (by rfl) ?_
  refine x_iload_n dX12_stakes_131 x_get_5_1 ?_
  refine x_bipush dX12_stakes_132 rfl ?_
  refine x_iadd dX12_stakes_134 ?_
  refine x_iload_n dX12_stakes_135 x_get_5_2 ?_
  refine x_iadd dX12_stakes_136 ?_
  refine x_dup2 dX12_stakes_137 rfl rfl ?_
  refine x_iald dX12_stakes_138 n82 s82 (by omega) (by omega) (by decide) ?_
  try simp (disch := decide) only [x_up_s, x_up_n, x_up_up, x_u1_s, x_u1_n, c9]
  refine x_iload dX12_stakes_139 x_get_5_4 ?_
  refine x_isub dX12_stakes_141 ?_
  refine x_iast dX12_stakes_142 n82 s82 (by omega) (by omega) (by decide) ?_
  exact x_vret dX12_stakes_143 rfl (Nat.le_of_ble_eq_true rfl) (Nat.le_of_ble_eq_true rfl) rfl rfl rfl (by rw [s_evn_los]; exact m_w_u1 w3 (by omega) (by omega) (by omega)) rfl
theorem m_works {X : xC} {l : Launch} (hl : l.stackTraces = false) {N : Nat} {sh : xS} {D : xM} {s a b o : Int} (ha : x_r a) (hb : x_r b) (ho : op_c s = o) (h : s = -7 ∨ s = -8 ∨ s = -10 ∨ s = -11 ∨ s = -12 ∨ s = -13 ∨ s = -14 ∨ s = -15) : x_M X l yX12_works cX12_works 3 (some .int) 1 0 0 [.int (xI o), .int (xI a), .int (xI b)] false N sh D (.inl (some (.int (xI (j_op s a b))))) false N sh (x_is (D)) := by
  rcases h with rfl | rfl | rfl | rfl | rfl | rfl | rfl | rfl
  · have e : o = 5 := by rw [← ho]; rfl
    subst e
    refine x_ofW (by decide +kernel) hl (by simp [Value.category]) (by simp) ?_
    refine x_iload_n dX12_works_0 x_get_3_0 ?_
    refine x_tswIn (t := 58) dX12_works_1 (by decide) (by decide) rfl rfl ?_
    refine x_iload_n dX12_works_58 x_get_3_1 ?_
    refine r_if_ne (t := 66) dX12_works_59 rfl ha (fun hc59 => ?_) (fun hc59 => ?_)
    · refine x_iconst dX12_works_66 ?_
      refine x_goto (t := 71) dX12_works_67 rfl ?_
      exact x_iret dX12_works_71 rfl (Nat.le_of_ble_eq_true rfl) (Nat.le_of_ble_eq_true rfl) (by rw [j_7]; first | (rw [x_B, if_pos (by omega)]; done) | (rw [x_B, if_neg (by omega)]; done)) rfl rfl rfl rfl
    · refine x_iload_n dX12_works_62 x_get_3_2 ?_
      refine r_if_eq (t := 70) dX12_works_63 rfl hb (fun hc63 => ?_) (fun hc63 => ?_)
      · refine x_iconst dX12_works_70 ?_
        exact x_iret dX12_works_71 rfl (Nat.le_of_ble_eq_true rfl) (Nat.le_of_ble_eq_true rfl) (by rw [j_7]; first | (rw [x_B, if_pos (by omega)]; done) | (rw [x_B, if_neg (by omega)]; done)) rfl rfl rfl rfl
      · refine x_iconst dX12_works_66 ?_
        refine x_goto (t := 71) dX12_works_67 rfl ?_
        exact x_iret dX12_works_71 rfl (Nat.le_of_ble_eq_true rfl) (Nat.le_of_ble_eq_true rfl) (by rw [j_7]; first | (rw [x_B, if_pos (by omega)]; done) | (rw [x_B, if_neg (by omega)]; done)) rfl rfl rfl rfl
  · have e : o = 4 := by rw [← ho]; rfl
    subst e
    refine x_ofW (by decide +kernel) hl (by simp [Value.category]) (by simp) ?_
    refine x_iload_n dX12_works_0 x_get_3_0 ?_
    refine x_tswIn (t := 44) dX12_works_1 (by decide) (by decide) rfl rfl ?_
    refine x_iload_n dX12_works_44 x_get_3_1 ?_
    refine r_if_eq (t := 56) dX12_works_45 rfl ha (fun hc45 => ?_) (fun hc45 => ?_)
    · refine x_iconst dX12_works_56 ?_
      exact x_iret dX12_works_57 rfl (Nat.le_of_ble_eq_true rfl) (Nat.le_of_ble_eq_true rfl) (by rw [j_8]; first | (rw [x_B, if_pos (by omega)]; done) | (rw [x_B, if_neg (by omega)]; done)) rfl rfl rfl rfl
    · refine x_iload_n dX12_works_48 x_get_3_2 ?_
      refine r_if_eq (t := 56) dX12_works_49 rfl hb (fun hc49 => ?_) (fun hc49 => ?_)
      · refine x_iconst dX12_works_56 ?_
        exact x_iret dX12_works_57 rfl (Nat.le_of_ble_eq_true rfl) (Nat.le_of_ble_eq_true rfl) (by rw [j_8]; first | (rw [x_B, if_pos (by omega)]; done) | (rw [x_B, if_neg (by omega)]; done)) rfl rfl rfl rfl
      · refine x_iconst dX12_works_52 ?_
        refine x_goto (t := 57) dX12_works_53 rfl ?_
        exact x_iret dX12_works_57 rfl (Nat.le_of_ble_eq_true rfl) (Nat.le_of_ble_eq_true rfl) (by rw [j_8]; first | (rw [x_B, if_pos (by omega)]; done) | (rw [x_B, if_neg (by omega)]; done)) rfl rfl rfl rfl
  · have e : o = 6 := by rw [← ho]; rfl
    subst e
    refine x_ofW (by decide +kernel) hl (by simp [Value.category]) (by simp) ?_
    refine x_iload_n dX12_works_0 x_get_3_0 ?_
    refine x_tswIn (t := 72) dX12_works_1 (by decide) (by decide) rfl rfl ?_
    refine x_iload_n dX12_works_72 x_get_3_1 ?_
    refine x_iload_n dX12_works_73 x_get_3_2 ?_
    refine r_icmp_ge (t := 81) dX12_works_74 rfl ha hb (fun hc74 => ?_) (fun hc74 => ?_)
    · refine x_iconst dX12_works_81 ?_
      exact x_iret dX12_works_82 rfl (Nat.le_of_ble_eq_true rfl) (Nat.le_of_ble_eq_true rfl) (by rw [j_10]; first | (rw [x_B, if_pos (by omega)]; done) | (rw [x_B, if_neg (by omega)]; done)) rfl rfl rfl rfl
    · refine x_iconst dX12_works_77 ?_
      refine x_goto (t := 82) dX12_works_78 rfl ?_
      exact x_iret dX12_works_82 rfl (Nat.le_of_ble_eq_true rfl) (Nat.le_of_ble_eq_true rfl) (by rw [j_10]; first | (rw [x_B, if_pos (by omega)]; done) | (rw [x_B, if_neg (by omega)]; done)) rfl rfl rfl rfl
  · have e : o = 7 := by rw [← ho]; rfl
    subst e
    refine x_ofW (by decide +kernel) hl (by simp [Value.category]) (by simp) ?_
    refine x_iload_n dX12_works_0 x_get_3_0 ?_
    refine x_tswIn (t := 83) dX12_works_1 (by decide) (by decide) rfl rfl ?_
    refine x_iload_n dX12_works_83 x_get_3_1 ?_
    refine x_iload_n dX12_works_84 x_get_3_2 ?_
    refine r_icmp_ne (t := 92) dX12_works_85 rfl ha hb (fun hc85 => ?_) (fun hc85 => ?_)
    · refine x_iconst dX12_works_92 ?_
      exact x_iret dX12_works_93 rfl (Nat.le_of_ble_eq_true rfl) (Nat.le_of_ble_eq_true rfl) (by rw [j_11]; first | (rw [x_B, if_pos (by omega)]; done) | (rw [x_B, if_neg (by omega)]; done)) rfl rfl rfl rfl
    · refine x_iconst dX12_works_88 ?_
      refine x_goto (t := 93) dX12_works_89 rfl ?_
      exact x_iret dX12_works_93 rfl (Nat.le_of_ble_eq_true rfl) (Nat.le_of_ble_eq_true rfl) (by rw [j_11]; first | (rw [x_B, if_pos (by omega)]; done) | (rw [x_B, if_neg (by omega)]; done)) rfl rfl rfl rfl
  · have e : o = 8 := by rw [← ho]; rfl
    subst e
    refine x_ofW (by decide +kernel) hl (by simp [Value.category]) (by simp) ?_
    refine x_iload_n dX12_works_0 x_get_3_0 ?_
    refine x_tswIn (t := 94) dX12_works_1 (by decide) (by decide) rfl rfl ?_
    refine x_iload_n dX12_works_94 x_get_3_1 ?_
    refine x_iload_n dX12_works_95 x_get_3_2 ?_
    refine x_iadd dX12_works_96 ?_
    exact x_iret dX12_works_97 rfl (Nat.le_of_ble_eq_true rfl) (Nat.le_of_ble_eq_true rfl) (by rw [j_12, xI_n]) rfl rfl rfl rfl
  · have e : o = 9 := by rw [← ho]; rfl
    subst e
    refine x_ofW (by decide +kernel) hl (by simp [Value.category]) (by simp) ?_
    refine x_iload_n dX12_works_0 x_get_3_0 ?_
    refine x_tswIn (t := 98) dX12_works_1 (by decide) (by decide) rfl rfl ?_
    refine x_iload_n dX12_works_98 x_get_3_1 ?_
    refine x_iload_n dX12_works_99 x_get_3_2 ?_
    refine x_isub dX12_works_100 ?_
    exact x_iret dX12_works_101 rfl (Nat.le_of_ble_eq_true rfl) (Nat.le_of_ble_eq_true rfl) (by rw [j_13, xI_n]) rfl rfl rfl rfl
  · have e : o = 10 := by rw [← ho]; rfl
    subst e
    refine x_ofW (by decide +kernel) hl (by simp [Value.category]) (by simp) ?_
    refine x_iload_n dX12_works_0 x_get_3_0 ?_
    refine x_tswIn (t := 102) dX12_works_1 (by decide) (by decide) rfl rfl ?_
    refine x_iload_n dX12_works_102 x_get_3_1 ?_
    refine x_iload_n dX12_works_103 x_get_3_2 ?_
    refine x_imul dX12_works_104 ?_
    exact x_iret dX12_works_105 rfl (Nat.le_of_ble_eq_true rfl) (Nat.le_of_ble_eq_true rfl) (by rw [j_14, xI_n]) rfl rfl rfl rfl
  · have e : o = 11 := by rw [← ho]; rfl
    subst e
    refine x_ofW (by decide +kernel) hl (by simp [Value.category]) (by simp) ?_
    refine x_iload_n dX12_works_0 x_get_3_0 ?_
    refine x_tswOut (t := 106) dX12_works_1 (by decide) rfl ?_
    refine x_iload_n dX12_works_106 x_get_3_2 ?_
    refine r_if_ne (t := 114) dX12_works_107 rfl hb (fun hc107 => ?_) (fun hc107 => ?_)
    · refine x_iload_n dX12_works_114 x_get_3_1 ?_
      refine x_iload_n dX12_works_115 x_get_3_2 ?_
      refine x_idiv dX12_works_116 (by rw [← xI_0, xI_eq, x_n0, x_n_of hb]; exact hc107) ?_
      exact x_iret dX12_works_117 rfl (Nat.le_of_ble_eq_true rfl) (Nat.le_of_ble_eq_true rfl) (by rw [j_15]; first | (rw [if_pos hc107]; done) | (rw [if_neg hc107]; done)) rfl rfl rfl rfl
    · refine x_iconst dX12_works_110 ?_
      refine x_goto (t := 117) dX12_works_111 rfl ?_
      exact x_iret dX12_works_117 rfl (Nat.le_of_ble_eq_true rfl) (Nat.le_of_ble_eq_true rfl) (by rw [j_15]; first | (rw [if_pos hc107]; done) | (rw [if_neg hc107]; done)) rfl rfl rfl rfl
end M61
