section M77
/-! ===== the Model's choices among crates ===== -/
def g_of (f : Int → Int) (m : Nat) (bl : Int) (C : Nat) : Int := x_sum (fun c => if m.testBit c.toNat = true ∧ f (35 + c) = bl then f (25 + c) else 0) C
theorem g_of_s {f : Int → Int} {m : Nat} {bl : Int} {k : Nat} : g_of f m bl (k + 1) = g_of f m bl k + (if m.testBit k = true ∧ f (35 + (k : Int)) = bl then f (25 + (k : Int)) else 0) := by
  unfold g_of
  rw [x_sum_s, Int.toNat_natCast]
theorem g_of_in {B : Int} {f : Int → Int} (h : s_ok B f) (m : Nat) (bl : Int) : ∀ C : Nat, C ≤ 10 → 0 ≤ g_of f m bl C ∧ g_of f m bl C ≤ 99 * C
  | 0, _ => by simp [g_of, x_sum]
  | C + 1, hC => by
    have h1 := g_of_in h m bl C (by omega)
    have h2 := (s_cr h (c := (C : Int)) (by omega) (by omega)).1
    rw [g_of_s]
    push_cast
    split <;> omega
def l_un (f : Int → Int) (m : Nat) : Nat → Nat
  | 0 => m
  | k + 1 => if f (35 + k) = 1 then b_sub (l_un f m k) (2 ^ k) else l_un f m k
theorem l_un_s {f : Int → Int} {m k : Nat} : l_un f m (k + 1) = if f (35 + k) = 1 then b_sub (l_un f m k) (2 ^ k) else l_un f m k := rfl
theorem l_un_le {f : Int → Int} {m : Nat} : ∀ k : Nat, l_un f m k ≤ m
  | 0 => Nat.le_refl _
  | k + 1 => by
    rw [l_un_s]
    split
    · exact Nat.le_trans b_sub_le (l_un_le k)
    · exact l_un_le k
theorem x_an_m1 {m : Nat} (h : m < 1024) : x_an (m : Int) (-1) = m := by
  have := b_not (m := m) (s := 0) (by omega)
  have e : x_xo ((0 : Nat) : Int) (-1) = -1 := by decide
  rw [e] at this
  rw [this]
  unfold b_sub
  simp
def f_thf (f : Int → Int) (ca : Int) (C al : Nat) : Nat → Nat
  | 0 => 0
  | m + 1 => if b_sub m al = 0 ∧ g_of f m 0 C ≤ ca ∧ (0 < g_of f m 0 C - g_of f (f_thf f ca C al m) 0 C ∨ (g_of f m 0 C - g_of f (f_thf f ca C al m) 0 C = 0 ∧ s_pop m < s_pop (f_thf f ca C al m))) then m else f_thf f ca C al m
theorem f_thf_s {f : Int → Int} {ca : Int} {C al m : Nat} : f_thf f ca C al (m + 1) = if b_sub m al = 0 ∧ g_of f m 0 C ≤ ca ∧ (0 < g_of f m 0 C - g_of f (f_thf f ca C al m) 0 C ∨ (g_of f m 0 C - g_of f (f_thf f ca C al m) 0 C = 0 ∧ s_pop m < s_pop (f_thf f ca C al m))) then m else f_thf f ca C al m := rfl
theorem f_thf_lt {f : Int → Int} {ca : Int} {C al : Nat} : ∀ m : Nat, f_thf f ca C al m ≤ m
  | 0 => Nat.le_refl _
  | m + 1 => by
    have := f_thf_lt (f := f) (ca := ca) (C := C) (al := al) m
    rw [f_thf_s]
    split <;> omega
def o_by (f : Int → Int) (t : Int) (C m : Nat) : Int := (fun z : Int => if z < 0 then 0 - z else z) (min 9999 (f (1 + t) + g_of f m 0 C) - min 9999 (f (9 + t) + g_of f m 1 C))
def f_lev (f : Int → Int) (t : Int) (C al : Nat) : Nat → Nat
  | 0 => 0
  | m + 1 => if b_sub m al = 0 ∧ (0 < o_by f t C (f_lev f t C al m) - o_by f t C m ∨ (o_by f t C (f_lev f t C al m) - o_by f t C m = 0 ∧ s_pop m < s_pop (f_lev f t C al m))) then m else f_lev f t C al m
theorem f_lev_s {f : Int → Int} {t : Int} {C al m : Nat} : f_lev f t C al (m + 1) = if b_sub m al = 0 ∧ (0 < o_by f t C (f_lev f t C al m) - o_by f t C m ∨ (o_by f t C (f_lev f t C al m) - o_by f t C m = 0 ∧ s_pop m < s_pop (f_lev f t C al m))) then m else f_lev f t C al m := rfl
theorem f_lev_lt {f : Int → Int} {t : Int} {C al : Nat} : ∀ m : Nat, f_lev f t C al m ≤ m
  | 0 => Nat.le_refl _
  | m + 1 => by
    have := f_lev_lt (f := f) (t := t) (C := C) (al := al) m
    rw [f_lev_s]
    split <;> omega
theorem o_by_in {B : Int} {f : Int → Int} (h : s_ok B f) {t : Int} (h0 : 0 ≤ t) (h1 : t < 8) {C : Nat} (hC : C ≤ 10) (m : Nat) : 0 ≤ o_by f t C m ∧ o_by f t C m ≤ 9999 := by
  have a := s_tn h h0 h1
  have b := g_of_in h m 0 C hC
  have c := g_of_in h m 1 C hC
  unfold o_by
  dsimp only
  split <;> omega
def k_cm (f lk : Int → Int) (t c : Int) : Int := if 99999 ≤ lk (f (55 + c) * 8 + t) then 0 else max 0 (f (25 + c) - (if f (45 + c) = 1 then 0 else lk (f (55 + c) * 8 + t)))
def k_cs (f lk : Int → Int) (t : Int) (m C : Nat) : Int := x_sum (fun c => if m.testBit c.toNat = true then k_cm f lk t c else 0) C
theorem k_cs_s {f lk : Int → Int} {t : Int} {m k : Nat} : k_cs f lk t m (k + 1) = k_cs f lk t m k + (if m.testBit k = true then k_cm f lk t (k : Int) else 0) := by
  unfold k_cs
  rw [x_sum_s, Int.toNat_natCast]
def f_snd (f lk : Int → Int) (t wa : Int) (C al : Nat) : Nat → Int
  | 0 => -1
  | m + 1 => if b_sub m al = 0 ∧ (f_snd f lk t wa C al m = -1 ∨ s_pop m < s_pop (f_snd f lk t wa C al m).toNat) ∧ wa ≤ k_cs f lk t m C then (m : Int) else f_snd f lk t wa C al m
theorem f_snd_s {f lk : Int → Int} {t wa : Int} {C al m : Nat} : f_snd f lk t wa C al (m + 1) = if b_sub m al = 0 ∧ (f_snd f lk t wa C al m = -1 ∨ s_pop m < s_pop (f_snd f lk t wa C al m).toNat) ∧ wa ≤ k_cs f lk t m C then (m : Int) else f_snd f lk t wa C al m := rfl
theorem f_snd_in {f lk : Int → Int} {t wa : Int} {C al : Nat} : ∀ m : Nat, f_snd f lk t wa C al m = -1 ∨ ∃ b : Nat, f_snd f lk t wa C al m = b ∧ b < m
  | 0 => Or.inl rfl
  | m + 1 => by
    have ih := f_snd_in (f := f) (lk := lk) (t := t) (wa := wa) (C := C) (al := al) m
    rw [f_snd_s]
    split
    · exact Or.inr ⟨m, rfl, by omega⟩
    · rcases ih with h | ⟨b, h1, h2⟩
      · exact Or.inl h
      · exact Or.inr ⟨b, h1, by omega⟩
theorem b_s0 {m al : Nat} : ((b_sub m al : Nat) : Int) = 0 ↔ b_sub m al = 0 := by omega
theorem w_12_440 : x_cv RX12 440 yX12_grainsOf cX12_grainsOf 5 (some .int) 12 2 := ⟨⟨_, rfl, rfl⟩, (x_in 1971 (by decide +kernel) rfl), (x_in 1973 (by decide +kernel) rfl), (x_in 77 (by decide +kernel) rfl), (x_in 90 (by decide +kernel) rfl), (x_in 1974 (by decide +kernel) rfl), by decide, ⟨by decide +kernel, by decide +kernel, by decide +kernel⟩⟩
theorem w_12_443 : x_cv RX12 443 yX12_offBy cX12_offBy 4 (some .int) 12 2 := ⟨⟨_, rfl, rfl⟩, (x_in 1979 (by decide +kernel) rfl), (x_in 1981 (by decide +kernel) rfl), (x_in 78 (by decide +kernel) rfl), (x_in 90 (by decide +kernel) rfl), (x_in 1982 (by decide +kernel) rfl), by decide, ⟨by decide +kernel, by decide +kernel, by decide +kernel⟩⟩
theorem m_grainsOf {X : xC} {l : Launch} (hl : l.stackTraces = false) {N : Nat} {sh : xS} {D : xM} {T C W : Nat} {G : Ldt} (hq : mq N sh D T C W G) {B : Int} {f : Int → Int} (hk : s_ok B f) (hB : B ≤ 1000000) (hr : mr T C f (D 82) 0) {m : Nat} (hm : m < 1024) {bl : Int} (hbl : bl = 0 ∨ bl = 1) : x_M X l yX12_grainsOf cX12_grainsOf 5 (some .int) 1 0 0 [.ref (x_b X + 62), .int (xI (m : Int)), .int (xI bl)] false N sh D (.inl (some (.int (xI (g_of f m bl C))))) false N sh (x_is (D)) := by
  obtain ⟨hM, hT, hTb, hW, hWb, hC, hCb, hmk, ⟨hG1, hG2, hG3⟩, hod⟩ := id hq
  have s62 := md_62 hM
  have n62 : 62 < N := md_n hM (by decide)
  have s82 := md_82 hM
  have n82 : 82 < N := md_n hM (by decide)
  have hloop : ∀ k : Nat, k ≤ C → x_W (X, l, yX12_grainsOf, cX12_grainsOf, 5, (some .int), x_room 1 0 0, 0, 0, (.inl (some (.int (xI (g_of f m bl C))))), N, sh, (x_is (D)), false, []) 5 [some (.ref (x_b X + 62)), some (.int (xI (m : Int))), some (.int (xI bl)), some (.int (xI (g_of f m bl k))), some (.int (xI (k : Int)))] [] 0 0 false N sh D := by
    refine x_down C ?_ ?_
    · refine x_iload dX12_grainsOf_5 x_get_5_4 ?_
      refine x_aload_n dX12_grainsOf_7 x_get_5_0 ?_
      refine x_getI 3 dX12_grainsOf_8 fX_12_287 rfl n62 s62 (by rfl) ?_
      try simp (disch := decide) only [x_up_s, x_up_n, x_up_up, x_u1_s, x_u1_n, hC]
      refine r_icmp_ge (t := 61) dX12_grainsOf_11 rfl ⟨by omega, by omega⟩ ⟨by omega, by omega⟩ (fun hc11 => ?_) (fun hc11 => absurd hc11 (by omega))
      refine x_iload_n dX12_grainsOf_61 x_get_5_3 ?_
      exact x_iret dX12_grainsOf_62 rfl (Nat.le_of_ble_eq_true rfl) (Nat.le_of_ble_eq_true rfl) rfl rfl rfl rfl rfl
    · intro k hk2 ih
      have hcr := s_cr hk (c := (k : Int)) (by omega) (by omega)
      have e25 : D 82 (25 + (k : Int)) = f (25 + (k : Int)) := mr_c hr rfl (by decide) (by omega) (by omega)
      have e35 : D 82 (35 + (k : Int)) = f (35 + (k : Int)) := mr_c hr rfl (by decide) (by omega) (by omega)
      have hb := m_bt_in m k
      rw [g_of_s] at ih
      refine x_iload dX12_grainsOf_5 x_get_5_4 ?_
      refine x_aload_n dX12_grainsOf_7 x_get_5_0 ?_
      refine x_getI 3 dX12_grainsOf_8 fX_12_287 rfl n62 s62 (by rfl) ?_
      try simp (disch := decide) only [x_up_s, x_up_n, x_up_up, x_u1_s, x_u1_n, hC, e25, e35]
      refine r_icmp_ge (t := 61) dX12_grainsOf_11 rfl ⟨by omega, by omega⟩ ⟨by omega, by omega⟩ (fun hc11 => absurd hc11 (by omega)) (fun hc11 => ?_)
      refine x_iload_n dX12_grainsOf_14 x_get_5_3 ?_
      refine x_iload_n dX12_grainsOf_15 x_get_5_1 ?_
      refine x_iload dX12_grainsOf_16 x_get_5_4 ?_
      refine x_ishr dX12_grainsOf_18 ?_
      refine x_iconst dX12_grainsOf_19 ?_
      refine x_iand dX12_grainsOf_20 ?_
      rw [m_sr hm (by omega)]
      refine x_iconst dX12_grainsOf_21 ?_
      refine r_icmp_ne (t := 52) dX12_grainsOf_22 rfl ⟨by omega, by omega⟩ ⟨by omega, by omega⟩ (fun hc22 => ?_) (fun hc22 => ?_)
      · refine x_iconst dX12_grainsOf_52 ?_
        refine x_iadd dX12_grainsOf_53 ?_
        refine x_istore_n dX12_grainsOf_54 (Nat.le_of_ble_eq_true rfl) rfl x_set_5_3 ?_
        refine x_iinc dX12_grainsOf_55 x_get_5_4 (Nat.le_of_ble_eq_true rfl) rfl x_set_5_4 ?_
        refine x_goto (t := 5) dX12_grainsOf_58 rfl ?_
        first | (rw [if_pos (And.intro (m_bt_1.mp hc22) hc36)] at ih; exact ih) | (rw [if_neg (fun h => hc36 h.2)] at ih; exact ih) | (rw [if_neg (fun h => hc22 (m_bt_1.mpr h.1))] at ih; exact ih)
      · refine x_aload_n dX12_grainsOf_25 x_get_5_0 ?_
        refine x_getR dX12_grainsOf_26 fX_12_75 n62 s62 (by rfl) ?_
        refine x_bipush dX12_grainsOf_29 rfl ?_
        refine x_iload dX12_grainsOf_31 x_get_5_4 ?_
        refine x_iadd dX12_grainsOf_33 ?_
        refine x_iald dX12_grainsOf_34 n82 s82 (by omega) (by omega) (by decide) ?_
        try simp (disch := decide) only [x_up_s, x_up_n, x_up_up, x_u1_s, x_u1_n, hC, e25, e35]
        refine x_iload_n dX12_grainsOf_35 x_get_5_2 ?_
        refine r_icmp_ne (t := 52) dX12_grainsOf_36 rfl ⟨by omega, by omega⟩ ⟨by omega, by omega⟩ (fun hc36 => ?_) (fun hc36 => ?_)
        · refine x_iconst dX12_grainsOf_52 ?_
          refine x_iadd dX12_grainsOf_53 ?_
          refine x_istore_n dX12_grainsOf_54 (Nat.le_of_ble_eq_true rfl) rfl x_set_5_3 ?_
          refine x_iinc dX12_grainsOf_55 x_get_5_4 (Nat.le_of_ble_eq_true rfl) rfl x_set_5_4 ?_
          refine x_goto (t := 5) dX12_grainsOf_58 rfl ?_
          first | (rw [if_pos (And.intro (m_bt_1.mp hc22) hc36)] at ih; exact ih) | (rw [if_neg (fun h => hc36 h.2)] at ih; exact ih) | (rw [if_neg (fun h => hc22 (m_bt_1.mpr h.1))] at ih; exact ih)
        · refine x_aload_n dX12_grainsOf_39 x_get_5_0 ?_
          refine x_getR dX12_grainsOf_40 fX_12_75 n62 s62 (by rfl) ?_
          refine x_bipush dX12_grainsOf_43 rfl ?_
          refine x_iload dX12_grainsOf_45 x_get_5_4 ?_
          refine x_iadd dX12_grainsOf_47 ?_
          refine x_iald dX12_grainsOf_48 n82 s82 (by omega) (by omega) (by decide) ?_
          try simp (disch := decide) only [x_up_s, x_up_n, x_up_up, x_u1_s, x_u1_n, hC, e25, e35]
          refine x_goto (t := 53) dX12_grainsOf_49 rfl ?_
          refine x_iadd dX12_grainsOf_53 ?_
          refine x_istore_n dX12_grainsOf_54 (Nat.le_of_ble_eq_true rfl) rfl x_set_5_3 ?_
          refine x_iinc dX12_grainsOf_55 x_get_5_4 (Nat.le_of_ble_eq_true rfl) rfl x_set_5_4 ?_
          refine x_goto (t := 5) dX12_grainsOf_58 rfl ?_
          first | (rw [if_pos (And.intro (m_bt_1.mp hc22) hc36)] at ih; exact ih) | (rw [if_neg (fun h => hc36 h.2)] at ih; exact ih) | (rw [if_neg (fun h => hc22 (m_bt_1.mpr h.1))] at ih; exact ih)
  refine x_ofW (by decide +kernel) hl (by simp [Value.category]) (by simp) ?_
  refine x_iconst dX12_grainsOf_0 ?_
  refine x_istore_n dX12_grainsOf_1 (Nat.le_of_ble_eq_true rfl) rfl x_set_5_3 ?_
  refine x_iconst dX12_grainsOf_2 ?_
  refine x_istore dX12_grainsOf_3 (Nat.le_of_ble_eq_true rfl) rfl x_set_5_4 ?_
  exact hloop 0 (Nat.zero_le _)
theorem m_offBy {X : xC} {l : Launch} (hl : l.stackTraces = false) {N : Nat} {sh : xS} {D : xM} {T C W : Nat} {G : Ldt} (hq : mq N sh D T C W G) {B : Int} {f : Int → Int} (hk : s_ok B f) (hB : B ≤ 1000000) (hr : mr T C f (D 82) 0) {t : Int} (ht0 : 0 ≤ t) (ht1 : t < T) {m : Nat} (hm : m < 1024) : x_M X l yX12_offBy cX12_offBy 4 (some .int) 2 0 0 [.ref (x_b X + 62), .int (xI t), .int (xI (m : Int))] false N sh D (.inl (some (.int (xI (o_by f t C m))))) false N sh (x_is (D)) := by
  obtain ⟨hM, hT, hTb, hW, hWb, hC, hCb, hmk, ⟨hG1, hG2, hG3⟩, hod⟩ := id hq
  have s62 := md_62 hM
  have n62 : 62 < N := md_n hM (by decide)
  have s82 := md_82 hM
  have n82 : 82 < N := md_n hM (by decide)
  have htn := s_tn hk (t := t) ht0 (by omega)
  have g0 := g_of_in hk m 0 C hCb
  have g1 := g_of_in hk m 1 C hCb
  have e1 : D 82 (1 + t) = f (1 + t) := mr_t hr rfl (by decide) ht0 ht1
  have e9 : D 82 (9 + t) = f (9 + t) := mr_t hr rfl (by decide) ht0 ht1
  refine x_ofW (by decide +kernel) hl (by simp [Value.category]) (by simp) ?_
  refine x_aload_n dX12_offBy_0 x_get_4_0 ?_
  refine x_getR dX12_offBy_1 fX_12_75 n62 s62 (by rfl) ?_
  refine x_iconst dX12_offBy_4 ?_
  refine x_iload_n dX12_offBy_5 x_get_4_1 ?_
  refine x_iadd dX12_offBy_6 ?_
  refine x_iald dX12_offBy_7 n82 s82 (by omega) (by omega) (by decide) ?_
  try simp (disch := decide) only [x_up_s, x_up_n, x_up_up, x_u1_s, x_u1_n, e1, e9]
  refine x_aload_n dX12_offBy_8 x_get_4_0 ?_
  refine x_iload_n dX12_offBy_9 x_get_4_2 ?_
  refine x_iconst dX12_offBy_10 ?_
  refine x_callV (As := [_, _]) dX12_offBy_11 w_12_440 (m_grainsOf hl hq hk hB hr hm (bl := 0) (by decide)) (by assumption) (by assumption) rfl rfl (Nat.le_of_ble_eq_true rfl) (Nat.le_of_ble_eq_true rfl) (Nat.le_of_ble_eq_true rfl) (Nat.le_of_ble_eq_true rfl) (Nat.le_of_ble_eq_true rfl) ?_
  intro dz hdz
  obtain rfl := Eq.symm hdz
  refine x_iadd dX12_offBy_14 ?_
  refine x_iconst dX12_offBy_15 ?_
  refine x_sipush dX12_offBy_16 rfl ?_
  refine x_callS (As := [_, _, _]) dX12_offBy_19 w_12_311 (m_kept hl (min 9999 (f (1 + t) + g_of f m 0 C)) ⟨by omega, by omega⟩ ⟨by decide, by decide⟩ ⟨by decide, by decide⟩ (by decide) (by omega)) rfl rfl (Nat.le_of_ble_eq_true rfl) (Nat.le_of_ble_eq_true rfl) (Nat.le_of_ble_eq_true rfl) (Nat.le_of_ble_eq_true rfl) (Nat.le_of_ble_eq_true rfl) ?_
  intro dz hdz
  obtain rfl := Eq.symm hdz
  refine x_aload_n dX12_offBy_22 x_get_4_0 ?_
  refine x_getR dX12_offBy_23 fX_12_75 n62 s62 (by rfl) ?_
  refine x_bipush dX12_offBy_26 rfl ?_
  refine x_iload_n dX12_offBy_28 x_get_4_1 ?_
  refine x_iadd dX12_offBy_29 ?_
  refine x_iald dX12_offBy_30 n82 s82 (by omega) (by omega) (by decide) ?_
  try simp (disch := decide) only [x_up_s, x_up_n, x_up_up, x_u1_s, x_u1_n, e1, e9]
  refine x_aload_n dX12_offBy_31 x_get_4_0 ?_
  refine x_iload_n dX12_offBy_32 x_get_4_2 ?_
  refine x_iconst dX12_offBy_33 ?_
  refine x_callV (As := [_, _]) dX12_offBy_34 w_12_440 (m_grainsOf hl hq hk hB hr hm (bl := 1) (by decide)) (by assumption) (by assumption) rfl rfl (Nat.le_of_ble_eq_true rfl) (Nat.le_of_ble_eq_true rfl) (Nat.le_of_ble_eq_true rfl) (Nat.le_of_ble_eq_true rfl) (Nat.le_of_ble_eq_true rfl) ?_
  intro dz hdz
  obtain rfl := Eq.symm hdz
  refine x_iadd dX12_offBy_37 ?_
  refine x_iconst dX12_offBy_38 ?_
  refine x_sipush dX12_offBy_39 rfl ?_
  refine x_callS (As := [_, _, _]) dX12_offBy_42 w_12_311 (m_kept hl (min 9999 (f (9 + t) + g_of f m 1 C)) ⟨by omega, by omega⟩ ⟨by decide, by decide⟩ ⟨by decide, by decide⟩ (by decide) (by omega)) rfl rfl (Nat.le_of_ble_eq_true rfl) (Nat.le_of_ble_eq_true rfl) (Nat.le_of_ble_eq_true rfl) (Nat.le_of_ble_eq_true rfl) (Nat.le_of_ble_eq_true rfl) ?_
  intro dz hdz
  obtain rfl := Eq.symm hdz
  refine x_isub dX12_offBy_45 ?_
  refine x_istore_n dX12_offBy_46 (Nat.le_of_ble_eq_true rfl) rfl x_set_4_3 ?_
  refine x_iload_n dX12_offBy_47 x_get_4_3 ?_
  refine r_if_ge (t := 57) dX12_offBy_48 rfl ⟨by omega, by omega⟩ (fun hc48 => ?_) (fun hc48 => ?_)
  · refine x_iload_n dX12_offBy_57 x_get_4_3 ?_
    exact x_iret dX12_offBy_58 rfl (Nat.le_of_ble_eq_true rfl) (Nat.le_of_ble_eq_true rfl) (by unfold o_by; dsimp only; first | (rw [if_pos (by omega)]; done) | (rw [if_neg (by omega)]; done)) rfl rfl rfl rfl
  · refine x_iconst dX12_offBy_51 ?_
    refine x_iload_n dX12_offBy_52 x_get_4_3 ?_
    refine x_isub dX12_offBy_53 ?_
    refine x_goto (t := 58) dX12_offBy_54 rfl ?_
    exact x_iret dX12_offBy_58 rfl (Nat.le_of_ble_eq_true rfl) (Nat.le_of_ble_eq_true rfl) (by unfold o_by; dsimp only; first | (rw [if_pos (by omega)]; done) | (rw [if_neg (by omega)]; done)) rfl rfl rfl rfl
set_option maxHeartbeats 8000000 in
theorem m_level {X : xC} {l : Launch} (hl : l.stackTraces = false) {N : Nat} {sh : xS} {D : xM} {T C W : Nat} {G : Ldt} (hq : mq N sh D T C W G) {B : Int} {f : Int → Int} (hk : s_ok B f) (hB : B ≤ 200000) (hr : mr T C f (D 82) 0) (hv84 : ∀ j, x_r (D 84 j)) {t : Int} (htr : x_r t) : x_M X l yX12_level cX12_level 6 (some .int) 4 0 0 [.ref (x_b X + 62), .int (xI t)] false N sh D (m_r (q_1t T t (o_i ((f_lev f t C (s_bits (fun c => s_in f t c) C) ((s_bits (fun c => s_in f t c) C) + 1) : Nat) : Int)))) false N sh (fun d => ms D d ∧ d 62 0 = m_k 1 (q_1t T t (o_i ((f_lev f t C (s_bits (fun c => s_in f t c) C) ((s_bits (fun c => s_in f t c) C) + 1) : Nat) : Int)))) := by
  obtain ⟨hM, hT, hTb, hW, hWb, hC, hCb, hmk, ⟨hG1, hG2, hG3⟩, hod⟩ := id hq
  have s62 := md_62 hM
  have n62 : 62 < N := md_n hM (by decide)
  unfold q_1t
  by_cases ht : 0 ≤ t ∧ t < T
  · rw [if_pos ht]
    obtain ⟨ht0, ht1⟩ := id ht
    have hal := s_bits_10 (p := fun c => s_in f t c) hCb
    generalize hA : (s_bits (fun c => s_in f t c) C) = al at hal ⊢
    rw [m_r_i, m_k_i]
    refine x_ofW (by decide +kernel) hl (by simp [Value.category]) (by simp) ?_
    refine x_aload_n dX12_level_0 x_get_6_0 ?_
    refine x_iconst dX12_level_1 ?_
    refine x_putI 0 dX12_level_2 fX_12_117 rfl tX_12_0 n62 s62 (by rfl) ?_
    have z0 := m_go0 hq hr hv84
    generalize x_up D 62 (x_u1 (D 62) 0 0) = d0 at z0 ⊢
    obtain ⟨q0, t0, ms0, r0, v0⟩ := z0
    have hloop : ∀ m : Nat, m ≤ al + 1 → ∀ o5 : Option Value, x_W (X, l, yX12_level, cX12_level, 6, (some .int), x_room 4 0 0, 0, 0, (.inl (some (.int (xI (((f_lev f t C al (al + 1) : Nat) : Int)))))), N, sh, (fun d => ms D d ∧ d 62 0 = 0), false, []) 27 [some (.ref (x_b X + 62)), some (.int (xI t)), some (.int (xI (al : Int))), some (.int (xI ((f_lev f t C al m : Nat) : Int))), some (.int (xI (m : Int))), o5] [] 0 0 false N sh d0 := by
      refine x_down (al + 1) ?_ ?_
      · intro o5
        refine x_iload dX12_level_27 x_get_6_4 ?_
        refine x_iload_n dX12_level_29 x_get_6_2 ?_
        refine r_icmp_gt (t := 96) dX12_level_30 rfl ⟨by omega, by omega⟩ ⟨by omega, by omega⟩ (fun hc30 => ?_) (fun hc30 => absurd hc30 (by omega))
        refine x_iload_n dX12_level_96 x_get_6_3 ?_
        exact x_iret dX12_level_97 rfl (Nat.le_of_ble_eq_true rfl) (Nat.le_of_ble_eq_true rfl) rfl rfl rfl ⟨ms0, t0⟩ rfl
      · intro m hm ih o5
        have e := f_lev_s (f := f) (t := t) (C := C) (al := al) (m := m)
        have hbl := f_lev_lt (f := f) (t := t) (C := C) (al := al) m
        generalize f_lev f t C al m = b at e hbl ⊢
        have o1 := o_by_in hk ht0 (show t < 8 by omega) hCb b
        have o2 := o_by_in hk ht0 (show t < 8 by omega) hCb m
        have p1 := s_pop_le b (by omega)
        have p2 := s_pop_le m (by omega)
        refine x_iload dX12_level_27 x_get_6_4 ?_
        refine x_iload_n dX12_level_29 x_get_6_2 ?_
        refine r_icmp_gt (t := 96) dX12_level_30 rfl ⟨by omega, by omega⟩ ⟨by omega, by omega⟩ (fun hc30 => absurd hc30 (by omega)) (fun hc30 => ?_)
        refine x_iload dX12_level_33 x_get_6_4 ?_
        refine x_iload_n dX12_level_35 x_get_6_2 ?_
        refine x_iconst dX12_level_36 ?_
        refine x_ixor dX12_level_37 ?_
        refine x_iand dX12_level_38 ?_
        rw [b_not (by omega)]
        have hb0 := b_s0 (m := m) (al := al)
        refine r_if_eq (t := 45) dX12_level_39 rfl ⟨by omega, by have := @b_sub_le m al; omega⟩ (fun hc39 => ?_) (fun hc39 => ?_)
        · refine x_aload_n dX12_level_45 x_get_6_0 ?_
          refine x_iload_n dX12_level_46 x_get_6_1 ?_
          refine x_iload_n dX12_level_47 x_get_6_3 ?_
          refine x_callV (As := [_, _]) dX12_level_48 w_12_443 (m_offBy hl q0 hk (by omega) r0 ht0 ht1 (m := b) (by omega)) (by assumption) (by assumption) rfl rfl (Nat.le_of_ble_eq_true rfl) (Nat.le_of_ble_eq_true rfl) (Nat.le_of_ble_eq_true rfl) (Nat.le_of_ble_eq_true rfl) (Nat.le_of_ble_eq_true rfl) ?_
          intro dz hdz
          obtain rfl := Eq.symm hdz
          refine x_aload_n dX12_level_51 x_get_6_0 ?_
          refine x_iload_n dX12_level_52 x_get_6_1 ?_
          refine x_iload dX12_level_53 x_get_6_4 ?_
          refine x_callV (As := [_, _]) dX12_level_55 w_12_443 (m_offBy hl q0 hk (by omega) r0 ht0 ht1 (m := m) (by omega)) (by assumption) (by assumption) rfl rfl (Nat.le_of_ble_eq_true rfl) (Nat.le_of_ble_eq_true rfl) (Nat.le_of_ble_eq_true rfl) (Nat.le_of_ble_eq_true rfl) (Nat.le_of_ble_eq_true rfl) ?_
          intro dz hdz
          obtain rfl := Eq.symm hdz
          refine x_isub dX12_level_58 ?_
          refine x_istore dX12_level_59 (Nat.le_of_ble_eq_true rfl) rfl x_set_6_5 ?_
          refine x_iload dX12_level_61 x_get_6_5 ?_
          refine r_if_gt (t := 83) dX12_level_63 rfl ⟨by omega, by omega⟩ (fun hc63 => ?_) (fun hc63 => ?_)
          · refine x_iload dX12_level_83 x_get_6_4 ?_
            refine x_goto (t := 89) dX12_level_85 rfl ?_
            refine x_istore_n dX12_level_89 (Nat.le_of_ble_eq_true rfl) rfl x_set_6_3 ?_
            refine x_iinc dX12_level_90 x_get_6_4 (Nat.le_of_ble_eq_true rfl) rfl x_set_6_4 ?_
            refine x_goto (t := 27) dX12_level_93 rfl ?_
            first | (rw [if_pos (by omega)] at e; rw [e] at ih; exact ih _) | (rw [if_neg (by omega)] at e; rw [e] at ih; exact ih _)
          · refine x_iload dX12_level_66 x_get_6_5 ?_
            refine r_if_ne (t := 88) dX12_level_68 rfl ⟨by omega, by omega⟩ (fun hc68 => ?_) (fun hc68 => ?_)
            · refine x_iload_n dX12_level_88 x_get_6_3 ?_
              refine x_istore_n dX12_level_89 (Nat.le_of_ble_eq_true rfl) rfl x_set_6_3 ?_
              refine x_iinc dX12_level_90 x_get_6_4 (Nat.le_of_ble_eq_true rfl) rfl x_set_6_4 ?_
              refine x_goto (t := 27) dX12_level_93 rfl ?_
              first | (rw [if_pos (by omega)] at e; rw [e] at ih; exact ih _) | (rw [if_neg (by omega)] at e; rw [e] at ih; exact ih _)
            · refine x_iload dX12_level_71 x_get_6_4 ?_
              refine x_callS (As := [_]) dX12_level_73 w_12_317 (m_bits hl (v := m) (by omega)) rfl rfl (Nat.le_of_ble_eq_true rfl) (Nat.le_of_ble_eq_true rfl) (Nat.le_of_ble_eq_true rfl) (Nat.le_of_ble_eq_true rfl) (Nat.le_of_ble_eq_true rfl) ?_
              intro dz hdz
              obtain rfl := Eq.symm hdz
              refine x_iload_n dX12_level_76 x_get_6_3 ?_
              refine x_callS (As := [_]) dX12_level_77 w_12_317 (m_bits hl (v := b) (by omega)) rfl rfl (Nat.le_of_ble_eq_true rfl) (Nat.le_of_ble_eq_true rfl) (Nat.le_of_ble_eq_true rfl) (Nat.le_of_ble_eq_true rfl) (Nat.le_of_ble_eq_true rfl) ?_
              intro dz hdz
              obtain rfl := Eq.symm hdz
              refine r_icmp_ge (t := 88) dX12_level_80 rfl ⟨by omega, by omega⟩ ⟨by omega, by omega⟩ (fun hc80 => ?_) (fun hc80 => ?_)
              · refine x_iload_n dX12_level_88 x_get_6_3 ?_
                refine x_istore_n dX12_level_89 (Nat.le_of_ble_eq_true rfl) rfl x_set_6_3 ?_
                refine x_iinc dX12_level_90 x_get_6_4 (Nat.le_of_ble_eq_true rfl) rfl x_set_6_4 ?_
                refine x_goto (t := 27) dX12_level_93 rfl ?_
                first | (rw [if_pos (by omega)] at e; rw [e] at ih; exact ih _) | (rw [if_neg (by omega)] at e; rw [e] at ih; exact ih _)
              · refine x_iload dX12_level_83 x_get_6_4 ?_
                refine x_goto (t := 89) dX12_level_85 rfl ?_
                refine x_istore_n dX12_level_89 (Nat.le_of_ble_eq_true rfl) rfl x_set_6_3 ?_
                refine x_iinc dX12_level_90 x_get_6_4 (Nat.le_of_ble_eq_true rfl) rfl x_set_6_4 ?_
                refine x_goto (t := 27) dX12_level_93 rfl ?_
                first | (rw [if_pos (by omega)] at e; rw [e] at ih; exact ih _) | (rw [if_neg (by omega)] at e; rw [e] at ih; exact ih _)
        · refine x_goto (t := 90) dX12_level_42 rfl ?_
          refine x_iinc dX12_level_90 x_get_6_4 (Nat.le_of_ble_eq_true rfl) rfl x_set_6_4 ?_
          refine x_goto (t := 27) dX12_level_93 rfl ?_
          first | (rw [if_pos (by omega)] at e; rw [e] at ih; exact ih _) | (rw [if_neg (by omega)] at e; rw [e] at ih; exact ih _)
    refine x_aload_n dX12_level_5 x_get_6_0 ?_
    refine x_iload_n dX12_level_6 x_get_6_1 ?_
    refine x_callV (As := [_]) dX12_level_7 w_12_362 (m_isTownT hl q0 t0 ht) (by assumption) (by assumption) rfl rfl (Nat.le_of_ble_eq_true rfl) (Nat.le_of_ble_eq_true rfl) (Nat.le_of_ble_eq_true rfl) (Nat.le_of_ble_eq_true rfl) (Nat.le_of_ble_eq_true rfl) ?_
    intro dz hdz
    obtain rfl := Eq.symm hdz
    refine r_if_ne (t := 15) dX12_level_10 rfl ⟨by omega, by omega⟩ (fun hc10 => ?_) (fun hc10 => absurd hc10 (by omega))
    refine x_aload_n dX12_level_15 x_get_6_0 ?_
    refine x_iconst dX12_level_16 ?_
    refine x_iload_n dX12_level_17 x_get_6_1 ?_
    refine x_callV (As := [_, _]) dX12_level_18 w_12_314 (m_lyingIn hl q0 hk (by omega) (Or.inl rfl) r0 ht0 (by omega)) (by assumption) (by assumption) rfl rfl (Nat.le_of_ble_eq_true rfl) (Nat.le_of_ble_eq_true rfl) (Nat.le_of_ble_eq_true rfl) (Nat.le_of_ble_eq_true rfl) (Nat.le_of_ble_eq_true rfl) ?_
    intro dz hdz
    obtain rfl := Eq.symm hdz
    rw [hA]
    refine x_istore_n dX12_level_21 (Nat.le_of_ble_eq_true rfl) rfl x_set_6_2 ?_
    refine x_iconst dX12_level_22 ?_
    refine x_istore_n dX12_level_23 (Nat.le_of_ble_eq_true rfl) rfl x_set_6_3 ?_
    refine x_iconst dX12_level_24 ?_
    refine x_istore dX12_level_25 (Nat.le_of_ble_eq_true rfl) rfl x_set_6_4 ?_
    exact hloop 0 (Nat.zero_le _) _
  · rw [if_neg ht]
    refine x_ofW (by decide +kernel) hl (by simp [Value.category]) (by simp) ?_
    refine x_aload_n dX12_level_0 x_get_6_0 ?_
    refine x_iconst dX12_level_1 ?_
    refine x_putI 0 dX12_level_2 fX_12_117 rfl tX_12_0 n62 s62 (by rfl) ?_
    have z0 := m_go0 hq hr hv84
    generalize x_up D 62 (x_u1 (D 62) 0 0) = d0 at z0 ⊢
    obtain ⟨q0, t0, ms0, r0, v0⟩ := z0
    refine x_aload_n dX12_level_5 x_get_6_0 ?_
    refine x_iload_n dX12_level_6 x_get_6_1 ?_
    refine x_callV (As := [_]) dX12_level_7 w_12_362 (m_isTownF hl q0 t0 htr ht) (by assumption) (by assumption) rfl rfl (Nat.le_of_ble_eq_true rfl) (Nat.le_of_ble_eq_true rfl) (Nat.le_of_ble_eq_true rfl) (Nat.le_of_ble_eq_true rfl) (Nat.le_of_ble_eq_true rfl) ?_
    intro dz hdz
    obtain rfl := Eq.symm hdz
    refine r_if_ne (t := 15) dX12_level_10 rfl ⟨by omega, by omega⟩ (fun hc10 => absurd hc10 (by omega)) (fun hc10 => ?_)
    refine x_iconst dX12_level_13 ?_
    exact x_iret dX12_level_14 rfl (Nat.le_of_ble_eq_true rfl) (Nat.le_of_ble_eq_true rfl) rfl rfl rfl ⟨ms_thr ms0, by rw [x_up_s, x_u1_s, m_k_N]⟩ rfl
set_option maxHeartbeats 8000000 in
theorem m_thief {X : xC} {l : Launch} (hl : l.stackTraces = false) {N : Nat} {sh : xS} {D : xM} {T C W : Nat} {G : Ldt} (hq : mq N sh D T C W G) {B : Int} {f : Int → Int} (hk : s_ok B f) (hB : B ≤ 200000) (hr : mr T C f (D 82) 0) (hv84 : ∀ j, x_r (D 84 j)) {t ca : Int} (htr : x_r t) (hcr : x_r ca) : x_M X l yX12_thief cX12_thief 7 (some .int) 4 0 0 [.ref (x_b X + 62), .int (xI t), .int (xI ca)] false N sh D (m_r (q_1t T t (if 0 ≤ ca ∧ ca ≤ 999 then o_i ((f_thf f ca C (l_un f (s_bits (fun c => s_in f t c) C) C) (l_un f (s_bits (fun c => s_in f t c) C) C + 1) : Nat) : Int) else .inr x_IAE))) false N sh (fun d => ms D d ∧ d 62 0 = m_k 2 (q_1t T t (if 0 ≤ ca ∧ ca ≤ 999 then o_i ((f_thf f ca C (l_un f (s_bits (fun c => s_in f t c) C) C) (l_un f (s_bits (fun c => s_in f t c) C) C + 1) : Nat) : Int) else .inr x_IAE))) := by
  obtain ⟨hM, hT, hTb, hW, hWb, hC, hCb, hmk, ⟨hG1, hG2, hG3⟩, hod⟩ := id hq
  have s62 := md_62 hM
  have n62 : 62 < N := md_n hM (by decide)
  have s82 := md_82 hM
  have n82 : 82 < N := md_n hM (by decide)
  unfold q_1t
  by_cases ht : 0 ≤ t ∧ t < T
  · rw [if_pos ht]
    obtain ⟨ht0, ht1⟩ := id ht
    by_cases hn : 0 ≤ ca ∧ ca ≤ 999
    · rw [if_pos hn]
      obtain ⟨hn0, hn1⟩ := id hn
      have hal0 := s_bits_10 (p := fun c => s_in f t c) hCb
      generalize hA0 : (s_bits (fun c => s_in f t c) C) = al0 at hal0 ⊢
      have hal : l_un f al0 C < 1024 := Nat.lt_of_le_of_lt (l_un_le C) hal0
      generalize hA : l_un f al0 C = al at hal ⊢
      rw [m_r_i, m_k_i]
      refine x_ofW (by decide +kernel) hl (by simp [Value.category]) (by simp) ?_
      refine x_aload_n dX12_thief_0 x_get_7_0 ?_
      refine x_iconst dX12_thief_1 ?_
      refine x_putI 0 dX12_thief_2 fX_12_117 rfl tX_12_0 n62 s62 (by rfl) ?_
      have z0 := m_go0 hq hr hv84
      generalize x_up D 62 (x_u1 (D 62) 0 0) = d0 at z0 ⊢
      obtain ⟨q0, t0, ms0, r0, v0⟩ := z0
      have hloop : ∀ m : Nat, m ≤ al + 1 → ∀ o6 : Option Value, x_W (X, l, yX12_thief, cX12_thief, 7, (some .int), x_room 4 0 0, 0, 0, (.inl (some (.int (xI (((f_thf f ca C al (al + 1) : Nat) : Int)))))), N, sh, (fun d => ms D d ∧ d 62 0 = 0), false, []) 89 [some (.ref (x_b X + 62)), some (.int (xI t)), some (.int (xI ca)), some (.int (xI (al : Int))), some (.int (xI ((f_thf f ca C al m : Nat) : Int))), some (.int (xI (m : Int))), o6] [] 0 0 false N sh d0 := by
        refine x_down (al + 1) ?_ ?_
        · intro o6
          refine x_iload dX12_thief_89 x_get_7_5 ?_
          refine x_iload_n dX12_thief_91 x_get_7_3 ?_
          refine r_icmp_gt (t := 173) dX12_thief_92 rfl ⟨by omega, by omega⟩ ⟨by omega, by omega⟩ (fun hc92 => ?_) (fun hc92 => absurd hc92 (by omega))
          refine x_iload dX12_thief_173 x_get_7_4 ?_
          exact x_iret dX12_thief_175 rfl (Nat.le_of_ble_eq_true rfl) (Nat.le_of_ble_eq_true rfl) rfl rfl rfl ⟨ms0, t0⟩ rfl
        · intro m hm ih o6
          have e := f_thf_s (f := f) (ca := ca) (C := C) (al := al) (m := m)
          have hbl := f_thf_lt (f := f) (ca := ca) (C := C) (al := al) m
          generalize f_thf f ca C al m = b at e hbl ⊢
          have o1 := g_of_in hk b 0 C hCb
          have o2 := g_of_in hk m 0 C hCb
          have p1 := s_pop_le b (by omega)
          have p2 := s_pop_le m (by omega)
          refine x_iload dX12_thief_89 x_get_7_5 ?_
          refine x_iload_n dX12_thief_91 x_get_7_3 ?_
          refine r_icmp_gt (t := 173) dX12_thief_92 rfl ⟨by omega, by omega⟩ ⟨by omega, by omega⟩ (fun hc92 => absurd hc92 (by omega)) (fun hc92 => ?_)
          refine x_iload dX12_thief_95 x_get_7_5 ?_
          refine x_iload_n dX12_thief_97 x_get_7_3 ?_
          refine x_iconst dX12_thief_98 ?_
          refine x_ixor dX12_thief_99 ?_
          refine x_iand dX12_thief_100 ?_
          rw [b_not (by omega)]
          have hb0 := b_s0 (m := m) (al := al)
          refine r_if_ne (t := 167) dX12_thief_101 rfl ⟨by omega, by have := @b_sub_le m al; omega⟩ (fun hc101 => ?_) (fun hc101 => ?_)
          · refine x_iinc dX12_thief_167 x_get_7_5 (Nat.le_of_ble_eq_true rfl) rfl x_set_7_5 ?_
            refine x_goto (t := 89) dX12_thief_170 rfl ?_
            first | (rw [if_pos (by omega)] at e; rw [e] at ih; exact ih _) | (rw [if_neg (by omega)] at e; rw [e] at ih; exact ih _)
          · refine x_aload_n dX12_thief_104 x_get_7_0 ?_
            refine x_iload dX12_thief_105 x_get_7_5 ?_
            refine x_iconst dX12_thief_107 ?_
            refine x_callV (As := [_, _]) dX12_thief_108 w_12_440 (m_grainsOf hl q0 hk (by omega) r0 (m := m) (by omega) (bl := 0) (by decide)) (by assumption) (by assumption) rfl rfl (Nat.le_of_ble_eq_true rfl) (Nat.le_of_ble_eq_true rfl) (Nat.le_of_ble_eq_true rfl) (Nat.le_of_ble_eq_true rfl) (Nat.le_of_ble_eq_true rfl) ?_
            intro dz hdz
            obtain rfl := Eq.symm hdz
            refine x_iload_n dX12_thief_111 x_get_7_2 ?_
            refine r_icmp_le (t := 118) dX12_thief_112 rfl ⟨by omega, by omega⟩ ⟨by omega, by omega⟩ (fun hc112 => ?_) (fun hc112 => ?_)
            · refine x_aload_n dX12_thief_118 x_get_7_0 ?_
              refine x_iload dX12_thief_119 x_get_7_5 ?_
              refine x_iconst dX12_thief_121 ?_
              refine x_callV (As := [_, _]) dX12_thief_122 w_12_440 (m_grainsOf hl q0 hk (by omega) r0 (m := m) (by omega) (bl := 0) (by decide)) (by assumption) (by assumption) rfl rfl (Nat.le_of_ble_eq_true rfl) (Nat.le_of_ble_eq_true rfl) (Nat.le_of_ble_eq_true rfl) (Nat.le_of_ble_eq_true rfl) (Nat.le_of_ble_eq_true rfl) ?_
              intro dz hdz
              obtain rfl := Eq.symm hdz
              refine x_aload_n dX12_thief_125 x_get_7_0 ?_
              refine x_iload dX12_thief_126 x_get_7_4 ?_
              refine x_iconst dX12_thief_128 ?_
              refine x_callV (As := [_, _]) dX12_thief_129 w_12_440 (m_grainsOf hl q0 hk (by omega) r0 (m := b) (by omega) (bl := 0) (by decide)) (by assumption) (by assumption) rfl rfl (Nat.le_of_ble_eq_true rfl) (Nat.le_of_ble_eq_true rfl) (Nat.le_of_ble_eq_true rfl) (Nat.le_of_ble_eq_true rfl) (Nat.le_of_ble_eq_true rfl) ?_
              intro dz hdz
              obtain rfl := Eq.symm hdz
              refine x_isub dX12_thief_132 ?_
              refine x_istore dX12_thief_133 (Nat.le_of_ble_eq_true rfl) rfl x_set_7_6 ?_
              refine x_iload dX12_thief_135 x_get_7_6 ?_
              refine r_if_gt (t := 158) dX12_thief_137 rfl ⟨by omega, by omega⟩ (fun hc137 => ?_) (fun hc137 => ?_)
              · refine x_iload dX12_thief_158 x_get_7_5 ?_
                refine x_goto (t := 165) dX12_thief_160 rfl ?_
                refine x_istore dX12_thief_165 (Nat.le_of_ble_eq_true rfl) rfl x_set_7_4 ?_
                refine x_iinc dX12_thief_167 x_get_7_5 (Nat.le_of_ble_eq_true rfl) rfl x_set_7_5 ?_
                refine x_goto (t := 89) dX12_thief_170 rfl ?_
                first | (rw [if_pos (by omega)] at e; rw [e] at ih; exact ih _) | (rw [if_neg (by omega)] at e; rw [e] at ih; exact ih _)
              · refine x_iload dX12_thief_140 x_get_7_6 ?_
                refine r_if_ne (t := 163) dX12_thief_142 rfl ⟨by omega, by omega⟩ (fun hc142 => ?_) (fun hc142 => ?_)
                · refine x_iload dX12_thief_163 x_get_7_4 ?_
                  refine x_istore dX12_thief_165 (Nat.le_of_ble_eq_true rfl) rfl x_set_7_4 ?_
                  refine x_iinc dX12_thief_167 x_get_7_5 (Nat.le_of_ble_eq_true rfl) rfl x_set_7_5 ?_
                  refine x_goto (t := 89) dX12_thief_170 rfl ?_
                  first | (rw [if_pos (by omega)] at e; rw [e] at ih; exact ih _) | (rw [if_neg (by omega)] at e; rw [e] at ih; exact ih _)
                · refine x_iload dX12_thief_145 x_get_7_5 ?_
                  refine x_callS (As := [_]) dX12_thief_147 w_12_317 (m_bits hl (v := m) (by omega)) rfl rfl (Nat.le_of_ble_eq_true rfl) (Nat.le_of_ble_eq_true rfl) (Nat.le_of_ble_eq_true rfl) (Nat.le_of_ble_eq_true rfl) (Nat.le_of_ble_eq_true rfl) ?_
                  intro dz hdz
                  obtain rfl := Eq.symm hdz
                  refine x_iload dX12_thief_150 x_get_7_4 ?_
                  refine x_callS (As := [_]) dX12_thief_152 w_12_317 (m_bits hl (v := b) (by omega)) rfl rfl (Nat.le_of_ble_eq_true rfl) (Nat.le_of_ble_eq_true rfl) (Nat.le_of_ble_eq_true rfl) (Nat.le_of_ble_eq_true rfl) (Nat.le_of_ble_eq_true rfl) ?_
                  intro dz hdz
                  obtain rfl := Eq.symm hdz
                  refine r_icmp_ge (t := 163) dX12_thief_155 rfl ⟨by omega, by omega⟩ ⟨by omega, by omega⟩ (fun hc155 => ?_) (fun hc155 => ?_)
                  · refine x_iload dX12_thief_163 x_get_7_4 ?_
                    refine x_istore dX12_thief_165 (Nat.le_of_ble_eq_true rfl) rfl x_set_7_4 ?_
                    refine x_iinc dX12_thief_167 x_get_7_5 (Nat.le_of_ble_eq_true rfl) rfl x_set_7_5 ?_
                    refine x_goto (t := 89) dX12_thief_170 rfl ?_
                    first | (rw [if_pos (by omega)] at e; rw [e] at ih; exact ih _) | (rw [if_neg (by omega)] at e; rw [e] at ih; exact ih _)
                  · refine x_iload dX12_thief_158 x_get_7_5 ?_
                    refine x_goto (t := 165) dX12_thief_160 rfl ?_
                    refine x_istore dX12_thief_165 (Nat.le_of_ble_eq_true rfl) rfl x_set_7_4 ?_
                    refine x_iinc dX12_thief_167 x_get_7_5 (Nat.le_of_ble_eq_true rfl) rfl x_set_7_5 ?_
                    refine x_goto (t := 89) dX12_thief_170 rfl ?_
                    first | (rw [if_pos (by omega)] at e; rw [e] at ih; exact ih _) | (rw [if_neg (by omega)] at e; rw [e] at ih; exact ih _)
            · refine x_goto (t := 167) dX12_thief_115 rfl ?_
              refine x_iinc dX12_thief_167 x_get_7_5 (Nat.le_of_ble_eq_true rfl) rfl x_set_7_5 ?_
              refine x_goto (t := 89) dX12_thief_170 rfl ?_
              first | (rw [if_pos (by omega)] at e; rw [e] at ih; exact ih _) | (rw [if_neg (by omega)] at e; rw [e] at ih; exact ih _)
      have hC0 : d0 62 3 = C := q0.2.2.2.2.2.1
      have hun : ∀ k : Nat, k ≤ C → ∀ o5 o6 : Option Value, x_W (X, l, yX12_thief, cX12_thief, 7, (some .int), x_room 4 0 0, 0, 0, (.inl (some (.int (xI (((f_thf f ca C al (al + 1) : Nat) : Int)))))), N, sh, (fun d => ms D d ∧ d 62 0 = 0), false, []) 41 [some (.ref (x_b X + 62)), some (.int (xI t)), some (.int (xI ca)), some (.int (xI ((l_un f al0 k : Nat) : Int))), some (.int (xI (k : Int))), o5, o6] [] 0 0 false N sh d0 := by
        refine x_down C ?_ ?_
        · intro o5 o6
          rw [hA]
          refine x_iload dX12_thief_41 x_get_7_4 ?_
          refine x_aload_n dX12_thief_43 x_get_7_0 ?_
          refine x_getI 3 dX12_thief_44 fX_12_287 rfl n62 s62 (by rfl) ?_
          try simp (disch := decide) only [x_up_s, x_up_n, x_up_up, x_u1_s, x_u1_n, hC0]
          refine r_icmp_ge (t := 83) dX12_thief_47 rfl ⟨by omega, by omega⟩ ⟨by omega, by omega⟩ (fun hc47 => ?_) (fun hc47 => absurd hc47 (by omega))
          refine x_iconst dX12_thief_83 ?_
          refine x_istore dX12_thief_84 (Nat.le_of_ble_eq_true rfl) rfl x_set_7_4 ?_
          refine x_iconst dX12_thief_86 ?_
          refine x_istore dX12_thief_87 (Nat.le_of_ble_eq_true rfl) rfl x_set_7_5 ?_
          exact hloop 0 (Nat.zero_le _) _
        · intro k hk2 ih o5 o6
          have hck := s_cr hk (c := (k : Int)) (by omega) (by omega)
          have e35 : d0 82 (35 + (k : Int)) = f (35 + (k : Int)) := mr_c r0 rfl (by decide) (by omega) (by omega)
          have e := l_un_s (f := f) (m := al0) (k := k)
          have hlu : l_un f al0 k < 1024 := Nat.lt_of_le_of_lt (l_un_le k) hal0
          refine x_iload dX12_thief_41 x_get_7_4 ?_
          refine x_aload_n dX12_thief_43 x_get_7_0 ?_
          refine x_getI 3 dX12_thief_44 fX_12_287 rfl n62 s62 (by rfl) ?_
          try simp (disch := decide) only [x_up_s, x_up_n, x_up_up, x_u1_s, x_u1_n, hC0, e35]
          refine r_icmp_ge (t := 83) dX12_thief_47 rfl ⟨by omega, by omega⟩ ⟨by omega, by omega⟩ (fun hc47 => absurd hc47 (by omega)) (fun hc47 => ?_)
          refine x_iload_n dX12_thief_50 x_get_7_3 ?_
          refine x_aload_n dX12_thief_51 x_get_7_0 ?_
          refine x_getR dX12_thief_52 fX_12_75 n62 s62 (by rfl) ?_
          refine x_bipush dX12_thief_55 rfl ?_
          refine x_iload dX12_thief_57 x_get_7_4 ?_
          refine x_iadd dX12_thief_59 ?_
          refine x_iald dX12_thief_60 n82 s82 (by omega) (by omega) (by decide) ?_
          try simp (disch := decide) only [x_up_s, x_up_n, x_up_up, x_u1_s, x_u1_n, hC0, e35]
          refine x_iconst dX12_thief_61 ?_
          refine r_icmp_ne (t := 74) dX12_thief_62 rfl ⟨by omega, by omega⟩ ⟨by omega, by omega⟩ (fun hc62 => ?_) (fun hc62 => ?_)
          · refine x_iconst dX12_thief_74 ?_
            refine x_iand dX12_thief_75 ?_
            first | rw [b_not (by omega)] | rw [x_an_m1 hlu]
            refine x_istore_n dX12_thief_76 (Nat.le_of_ble_eq_true rfl) rfl x_set_7_3 ?_
            refine x_iinc dX12_thief_77 x_get_7_4 (Nat.le_of_ble_eq_true rfl) rfl x_set_7_4 ?_
            refine x_goto (t := 41) dX12_thief_80 rfl ?_
            first | (rw [if_pos hc62] at e; rw [e] at ih; exact ih _ _) | (rw [if_neg hc62] at e; rw [e] at ih; exact ih _ _)
          · refine x_iconst dX12_thief_65 ?_
            refine x_iload dX12_thief_66 x_get_7_4 ?_
            refine x_ishl dX12_thief_68 ?_
            rw [x_sl1 k (by omega)]
            refine x_iconst dX12_thief_69 ?_
            refine x_ixor dX12_thief_70 ?_
            refine x_goto (t := 75) dX12_thief_71 rfl ?_
            refine x_iand dX12_thief_75 ?_
            first | rw [b_not (by omega)] | rw [x_an_m1 hlu]
            refine x_istore_n dX12_thief_76 (Nat.le_of_ble_eq_true rfl) rfl x_set_7_3 ?_
            refine x_iinc dX12_thief_77 x_get_7_4 (Nat.le_of_ble_eq_true rfl) rfl x_set_7_4 ?_
            refine x_goto (t := 41) dX12_thief_80 rfl ?_
            first | (rw [if_pos hc62] at e; rw [e] at ih; exact ih _ _) | (rw [if_neg hc62] at e; rw [e] at ih; exact ih _ _)
      refine x_aload_n dX12_thief_5 x_get_7_0 ?_
      refine x_iload_n dX12_thief_6 x_get_7_1 ?_
      refine x_callV (As := [_]) dX12_thief_7 w_12_362 (m_isTownT hl q0 t0 ht) (by assumption) (by assumption) rfl rfl (Nat.le_of_ble_eq_true rfl) (Nat.le_of_ble_eq_true rfl) (Nat.le_of_ble_eq_true rfl) (Nat.le_of_ble_eq_true rfl) (Nat.le_of_ble_eq_true rfl) ?_
      intro dz hdz
      obtain rfl := Eq.symm hdz
      refine r_if_eq (t := 29) dX12_thief_10 rfl ⟨by omega, by omega⟩ (fun hc10 => absurd hc10 (by omega)) (fun hc10 => ?_)
      refine x_aload_n dX12_thief_13 x_get_7_0 ?_
      refine x_iload_n dX12_thief_14 x_get_7_2 ?_
      refine x_iconst dX12_thief_15 ?_
      refine x_sipush dX12_thief_16 rfl ?_
      refine x_callS (As := [_, _, _]) dX12_thief_19 w_12_346 (m_withinT hl hcr ⟨by decide, by decide⟩ ⟨by decide, by decide⟩ hn) rfl rfl (Nat.le_of_ble_eq_true rfl) (Nat.le_of_ble_eq_true rfl) (Nat.le_of_ble_eq_true rfl) (Nat.le_of_ble_eq_true rfl) (Nat.le_of_ble_eq_true rfl) ?_
      intro dz hdz
      obtain rfl := Eq.symm hdz
      refine x_iconst dX12_thief_22 ?_
      refine x_callV (As := [_, _]) dX12_thief_23 w_12_274 (m_rightT hl q0.1 t0) (by assumption) (by assumption) rfl rfl (Nat.le_of_ble_eq_true rfl) (Nat.le_of_ble_eq_true rfl) (Nat.le_of_ble_eq_true rfl) (Nat.le_of_ble_eq_true rfl) (Nat.le_of_ble_eq_true rfl) ?_
      intro dz hdz
      obtain rfl := Eq.symm hdz
      refine r_if_ne (t := 31) dX12_thief_26 rfl ⟨by omega, by omega⟩ (fun hc26 => ?_) (fun hc26 => absurd hc26 (by omega))
      refine x_aload_n dX12_thief_31 x_get_7_0 ?_
      refine x_iconst dX12_thief_32 ?_
      refine x_iload_n dX12_thief_33 x_get_7_1 ?_
      refine x_callV (As := [_, _]) dX12_thief_34 w_12_314 (m_lyingIn hl q0 hk (by omega) (Or.inl rfl) r0 ht0 (by omega)) (by assumption) (by assumption) rfl rfl (Nat.le_of_ble_eq_true rfl) (Nat.le_of_ble_eq_true rfl) (Nat.le_of_ble_eq_true rfl) (Nat.le_of_ble_eq_true rfl) (Nat.le_of_ble_eq_true rfl) ?_
      intro dz hdz
      obtain rfl := Eq.symm hdz
      rw [hA0]
      refine x_istore_n dX12_thief_37 (Nat.le_of_ble_eq_true rfl) rfl x_set_7_3 ?_
      refine x_iconst dX12_thief_38 ?_
      refine x_istore dX12_thief_39 (Nat.le_of_ble_eq_true rfl) rfl x_set_7_4 ?_
      exact hun 0 (Nat.zero_le _) _ _
    · rw [if_neg hn]
      refine x_ofW (by decide +kernel) hl (by simp [Value.category]) (by simp) ?_
      refine x_aload_n dX12_thief_0 x_get_7_0 ?_
      refine x_iconst dX12_thief_1 ?_
      refine x_putI 0 dX12_thief_2 fX_12_117 rfl tX_12_0 n62 s62 (by rfl) ?_
      have z0 := m_go0 hq hr hv84
      generalize x_up D 62 (x_u1 (D 62) 0 0) = d0 at z0 ⊢
      obtain ⟨q0, t0, ms0, r0, v0⟩ := z0
      refine x_aload_n dX12_thief_5 x_get_7_0 ?_
      refine x_iload_n dX12_thief_6 x_get_7_1 ?_
      refine x_callV (As := [_]) dX12_thief_7 w_12_362 (m_isTownT hl q0 t0 ht) (by assumption) (by assumption) rfl rfl (Nat.le_of_ble_eq_true rfl) (Nat.le_of_ble_eq_true rfl) (Nat.le_of_ble_eq_true rfl) (Nat.le_of_ble_eq_true rfl) (Nat.le_of_ble_eq_true rfl) ?_
      intro dz hdz
      obtain rfl := Eq.symm hdz
      refine r_if_eq (t := 29) dX12_thief_10 rfl ⟨by omega, by omega⟩ (fun hc10 => absurd hc10 (by omega)) (fun hc10 => ?_)
      refine x_aload_n dX12_thief_13 x_get_7_0 ?_
      refine x_iload_n dX12_thief_14 x_get_7_2 ?_
      refine x_iconst dX12_thief_15 ?_
      refine x_sipush dX12_thief_16 rfl ?_
      refine x_callS (As := [_, _, _]) dX12_thief_19 w_12_346 (m_withinF hl hcr ⟨by decide, by decide⟩ ⟨by decide, by decide⟩ hn) rfl rfl (Nat.le_of_ble_eq_true rfl) (Nat.le_of_ble_eq_true rfl) (Nat.le_of_ble_eq_true rfl) (Nat.le_of_ble_eq_true rfl) (Nat.le_of_ble_eq_true rfl) ?_
      intro dz hdz
      obtain rfl := Eq.symm hdz
      refine x_iconst dX12_thief_22 ?_
      refine x_callV (As := [_, _]) dX12_thief_23 w_12_274 (m_rightF hl q0.1 t0 (by decide) (by decide)) (by assumption) (by assumption) rfl rfl (Nat.le_of_ble_eq_true rfl) (Nat.le_of_ble_eq_true rfl) (Nat.le_of_ble_eq_true rfl) (Nat.le_of_ble_eq_true rfl) (Nat.le_of_ble_eq_true rfl) ?_
      intro dz hdz
      obtain rfl := Eq.symm hdz
      refine r_if_ne (t := 31) dX12_thief_26 rfl ⟨by omega, by omega⟩ (fun hc26 => absurd hc26 (by omega)) (fun hc26 => ?_)
      refine x_iconst dX12_thief_29 ?_
      exact x_iret dX12_thief_30 rfl (Nat.le_of_ble_eq_true rfl) (Nat.le_of_ble_eq_true rfl) rfl rfl rfl ⟨ms_thr ms0, by rw [x_up_s, x_u1_s, m_k_I]⟩ rfl
  · rw [if_neg ht]
    refine x_ofW (by decide +kernel) hl (by simp [Value.category]) (by simp) ?_
    refine x_aload_n dX12_thief_0 x_get_7_0 ?_
    refine x_iconst dX12_thief_1 ?_
    refine x_putI 0 dX12_thief_2 fX_12_117 rfl tX_12_0 n62 s62 (by rfl) ?_
    have z0 := m_go0 hq hr hv84
    generalize x_up D 62 (x_u1 (D 62) 0 0) = d0 at z0 ⊢
    obtain ⟨q0, t0, ms0, r0, v0⟩ := z0
    refine x_aload_n dX12_thief_5 x_get_7_0 ?_
    refine x_iload_n dX12_thief_6 x_get_7_1 ?_
    refine x_callV (As := [_]) dX12_thief_7 w_12_362 (m_isTownF hl q0 t0 htr ht) (by assumption) (by assumption) rfl rfl (Nat.le_of_ble_eq_true rfl) (Nat.le_of_ble_eq_true rfl) (Nat.le_of_ble_eq_true rfl) (Nat.le_of_ble_eq_true rfl) (Nat.le_of_ble_eq_true rfl) ?_
    intro dz hdz
    obtain rfl := Eq.symm hdz
    refine r_if_eq (t := 29) dX12_thief_10 rfl ⟨by omega, by omega⟩ (fun hc10 => ?_) (fun hc10 => absurd hc10 (by omega))
    refine x_iconst dX12_thief_29 ?_
    exact x_iret dX12_thief_30 rfl (Nat.le_of_ble_eq_true rfl) (Nat.le_of_ble_eq_true rfl) rfl rfl rfl ⟨ms_thr ms0, by rw [x_up_s, x_u1_s, m_k_N]⟩ rfl
end M77
