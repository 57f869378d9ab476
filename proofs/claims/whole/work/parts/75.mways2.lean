section M75
theorem ms_fl {D d : xM} (h : ms D d) {F L : Int → Int} : ms D (x_up (x_up d 86 F) 87 L) := ⟨fun j a b c e g => by rw [x_up_n (by omega), x_up_n (by omega)]; exact h.1 j a b c e g, fun i a b c => by rw [x_up_n (by decide), x_up_n (by decide)]; exact h.2.1 i a b c, fun i hi => by rw [x_up_n (by decide), x_up_n (by decide)]; exact h.2.2.1 i hi, by rw [x_up_n (by decide), x_up_n (by decide)]; exact h.2.2.2⟩
theorem f_M_ok {one two v : Int → Int} {but : Int} {W T : Nat} (hv : ∀ j, 0 ≤ v j ∧ v j ≤ 99999) (j : Int) : 0 ≤ f_M one two v but W T j ∧ f_M one two v but W T j ≤ 99999 := m_ok_m (m_ok_wb (by decide) hv W) T T j
theorem mwy_v {D : xM} {W : Nat} {one two span loss : Int → Int} (hw : mwy D W one two span loss) : (∀ j, 0 ≤ span j ∧ span j ≤ 99999) ∧ ∀ j, 0 ≤ span j * loss j ∧ span j * loss j ≤ 99999 := by
  obtain ⟨-, -, -, h4, h5⟩ := hw
  refine ⟨fun j => by have := h4 j; omega, fun j => ?_⟩
  have := s_mul9 (h4 j).1 (h4 j).2 (h5 j).1 (h5 j).2
  omega
/-- the Model's next town -/
def x_next (one two span Fx : Int → Int) (W T : Nat) (a b : Int) : Int := x_first (fun t => ¬ (t : Int) = a ∧ ∃ w : Nat, w < W ∧ (e_oth one two w a = (t : Int) ∧ span w + Fx ((t : Int) * 8 + b) = Fx (a * 8 + b))) T
def x_any (p : Nat → Prop) [DecidablePred p] : Nat → Bool
  | 0 => false
  | n + 1 => x_any p n || decide (p n)
theorem x_any_iff {p : Nat → Prop} [DecidablePred p] : ∀ {n : Nat}, x_any p n = true ↔ ∃ w, w < n ∧ p w
  | 0 => by simp [x_any]
  | n + 1 => by
    rw [x_any, Bool.or_eq_true, x_any_iff, decide_eq_true_iff]
    constructor
    · rintro (⟨w, h1, h2⟩ | h)
      · exact ⟨w, by omega, h2⟩
      · exact ⟨n, by omega, h⟩
    · rintro ⟨w, h1, h2⟩
      by_cases hw : w = n
      · subst hw; exact Or.inr h2
      · exact Or.inl ⟨w, by omega, h2⟩
theorem x_any_s {p : Nat → Prop} [DecidablePred p] {n : Nat} : x_any p (n + 1) = true ↔ (x_any p n = true ∨ p n) := by
  rw [x_any, Bool.or_eq_true, decide_eq_true_iff]
def x_wk (nxt : Int → Int) (b : Int) : Nat → Int → Int × Nat
  | 0, s => (s, 0)
  | n + 1, s => if s = b then (s, n + 1) else x_wk nxt b n (nxt s)
theorem w_12_396 : x_cv RX12 396 yX12_measures cX12_measures 5 (none) 12 1 := ⟨⟨_, rfl, rfl⟩, (x_in 1847 (by decide +kernel) rfl), (x_in 1849 (by decide +kernel) rfl), (x_in 66 (by decide +kernel) rfl), (x_in 90 (by decide +kernel) rfl), (x_in 1850 (by decide +kernel) rfl), by decide, ⟨by decide +kernel, by decide +kernel, by decide +kernel⟩⟩
theorem w_12_399 : x_cs RX12 399 yX12_orNone cX12_orNone 1 (some .int) 1 := ⟨(x_in 1852 (by decide +kernel) rfl), (x_in 1853 (by decide +kernel) rfl), (x_in 90 (by decide +kernel) rfl), (x_in 1854 (by decide +kernel) rfl), by decide, ⟨by decide +kernel, by decide +kernel, by decide +kernel⟩⟩
theorem w_12_405 : x_cv RX12 405 yX12_nextOn cX12_nextOn 6 (some .int) 12 2 := ⟨⟨_, rfl, rfl⟩, (x_in 1871 (by decide +kernel) rfl), (x_in 1873 (by decide +kernel) rfl), (x_in 68 (by decide +kernel) rfl), (x_in 90 (by decide +kernel) rfl), (x_in 1874 (by decide +kernel) rfl), by decide, ⟨by decide +kernel, by decide +kernel, by decide +kernel⟩⟩
theorem m_far {X : xC} {l : Launch} (hl : l.stackTraces = false) {N : Nat} {sh : xS} {D : xM} {T C W : Nat} {G : Ldt} (hq : mq N sh D T C W G) {B : Int} {f : Int → Int} (hk : s_ok B f) (hB : B ≤ 200000) (hr : mr T C f (D 82) 0) (hv84 : ∀ j, x_r (D 84 j)) {one two span loss : Int → Int} (hw : mwy D W one two span loss) {a b : Int} (har : x_r a) (hbr : x_r b) : x_M X l yX12_far cX12_far 3 (some .int) 4 0 0 [.ref (x_b X + 62), .int (xI a), .int (xI b)] false N sh D (m_r (q_2t T a b (o_i (e_none 99999 ((f_M one two span (-1) W T) (a * 8 + b)))))) false N sh (fun d => ms D d ∧ d 62 0 = m_k 1 (q_2t T a b (o_i (e_none 99999 ((f_M one two span (-1) W T) (a * 8 + b)))))) := by
  obtain ⟨hM, hT, hTb, hW, hWb, hC, hCb, hmk, ⟨hG1, hG2, hG3⟩, hod⟩ := id hq
  have s62 := md_62 hM
  have n62 : 62 < N := md_n hM (by decide)
  have s86 := md_86 hM
  have n86 : 86 < N := md_n hM (by decide)
  obtain ⟨hv1, hv2⟩ := mwy_v hw
  unfold q_2t
  by_cases ha : 0 ≤ a ∧ a < T
  · rw [if_pos ha]
    obtain ⟨ha0, ha1⟩ := id ha
    by_cases hb : 0 ≤ b ∧ b < T
    · rw [if_pos hb]
      obtain ⟨hb0, hb1⟩ := id hb
      have hfo := f_M_ok (one := one) (two := two) (but := (-1)) (W := W) (T := T) hv1 (a * 8 + b)
      rw [m_r_i, m_k_i]
      refine x_ofW (by decide +kernel) hl (by simp [Value.category]) (by simp) ?_
      refine x_aload_n dX12_far_0 x_get_3_0 ?_
      refine x_iconst dX12_far_1 ?_
      refine x_putI 0 dX12_far_2 fX_12_117 rfl tX_12_0 n62 s62 (by rfl) ?_
      have z0 := m_go0 hq hr hv84
      generalize x_up D 62 (x_u1 (D 62) 0 0) = d0 at z0 ⊢
      obtain ⟨q0, t0, ms0, r0, v0⟩ := z0
      have w0 : mwy d0 W one two span loss := mwy_of hw (fun j a b => ms0.1 j (by omega) (by omega) (by omega) (by omega) (by omega))
      refine x_aload_n dX12_far_5 x_get_3_0 ?_
      refine x_iload_n dX12_far_6 x_get_3_1 ?_
      refine x_callV (As := [_]) dX12_far_7 w_12_362 (m_isTownT hl q0 t0 ha) (by assumption) (by assumption) rfl rfl (Nat.le_of_ble_eq_true rfl) (Nat.le_of_ble_eq_true rfl) (Nat.le_of_ble_eq_true rfl) (Nat.le_of_ble_eq_true rfl) (Nat.le_of_ble_eq_true rfl) ?_
      intro dz hdz
      obtain rfl := Eq.symm hdz
      refine r_if_eq (t := 21) dX12_far_10 rfl ⟨by omega, by omega⟩ (fun hc10 => absurd hc10 (by omega)) (fun hc10 => ?_)
      refine x_aload_n dX12_far_13 x_get_3_0 ?_
      refine x_iload_n dX12_far_14 x_get_3_2 ?_
      refine x_callV (As := [_]) dX12_far_15 w_12_362 (m_isTownT hl q0 t0 hb) (by assumption) (by assumption) rfl rfl (Nat.le_of_ble_eq_true rfl) (Nat.le_of_ble_eq_true rfl) (Nat.le_of_ble_eq_true rfl) (Nat.le_of_ble_eq_true rfl) (Nat.le_of_ble_eq_true rfl) ?_
      intro dz hdz
      obtain rfl := Eq.symm hdz
      refine r_if_ne (t := 23) dX12_far_18 rfl ⟨by omega, by omega⟩ (fun hc18 => ?_) (fun hc18 => absurd hc18 (by omega))
      refine x_aload_n dX12_far_23 x_get_3_0 ?_
      refine x_iconst dX12_far_24 ?_
      refine x_callV (As := [_]) dX12_far_25 w_12_396 (m_measures hl q0 w0 (but := (-1)) ⟨by decide, by decide⟩) (by assumption) (by assumption) rfl rfl (Nat.le_of_ble_eq_true rfl) (Nat.le_of_ble_eq_true rfl) (Nat.le_of_ble_eq_true rfl) (Nat.le_of_ble_eq_true rfl) (Nat.le_of_ble_eq_true rfl) ?_
      rintro d1 hd1
      have m1 : ms d0 d1 := by rw [hd1]; exact ms_fl (ms_rf v0)
      have q1 := ms_mq q0 m1
      have e86 : d1 86 = f_M one two span (-1) W T := by rw [hd1, x_up_n (by decide), x_up_s]
      have e87 : d1 87 = f_M one two (fun w => span w * loss w) (-1) W T := by rw [hd1, x_up_s]
      have t1 : d1 62 0 = 0 := by rw [hd1, x_up_n (by decide), x_up_n (by decide)]; exact t0
      have w1 : mwy d1 W one two span loss := mwy_of w0 (fun j a b => by rw [hd1, x_up_n (by omega), x_up_n (by omega)])
      skip
      refine x_aload_n dX12_far_28 x_get_3_0 ?_
      refine x_getR dX12_far_29 fX_12_87 n62 s62 (by rfl) ?_
      refine x_bipush dX12_far_32 rfl ?_
      refine x_iload_n dX12_far_34 x_get_3_1 ?_
      refine x_imul dX12_far_35 ?_
      refine x_iload_n dX12_far_36 x_get_3_2 ?_
      refine x_iadd dX12_far_37 ?_
      refine x_as_is (show 8 * a + b = a * 8 + b by omega) ?_
      refine x_iald dX12_far_38 n86 s86 (by omega) (by omega) (by decide) ?_
      try simp (disch := decide) only [x_up_s, x_up_n, x_up_up, x_u1_s, x_u1_n, e86, e87]
      refine x_callS (As := [_]) dX12_far_39 w_12_399 (m_orNone hl (v := (f_M one two span (-1) W T) (a * 8 + b)) ⟨by omega, by omega⟩) rfl rfl (Nat.le_of_ble_eq_true rfl) (Nat.le_of_ble_eq_true rfl) (Nat.le_of_ble_eq_true rfl) (Nat.le_of_ble_eq_true rfl) (Nat.le_of_ble_eq_true rfl) ?_
      intro dz hdz
      obtain rfl := Eq.symm hdz
      exact x_iret dX12_far_42 rfl (Nat.le_of_ble_eq_true rfl) (Nat.le_of_ble_eq_true rfl) rfl rfl rfl ⟨ms_tr ms0 m1, t1⟩ rfl
    · rw [if_neg hb]
      refine x_ofW (by decide +kernel) hl (by simp [Value.category]) (by simp) ?_
      refine x_aload_n dX12_far_0 x_get_3_0 ?_
      refine x_iconst dX12_far_1 ?_
      refine x_putI 0 dX12_far_2 fX_12_117 rfl tX_12_0 n62 s62 (by rfl) ?_
      have z0 := m_go0 hq hr hv84
      generalize x_up D 62 (x_u1 (D 62) 0 0) = d0 at z0 ⊢
      obtain ⟨q0, t0, ms0, r0, v0⟩ := z0
      refine x_aload_n dX12_far_5 x_get_3_0 ?_
      refine x_iload_n dX12_far_6 x_get_3_1 ?_
      refine x_callV (As := [_]) dX12_far_7 w_12_362 (m_isTownT hl q0 t0 ha) (by assumption) (by assumption) rfl rfl (Nat.le_of_ble_eq_true rfl) (Nat.le_of_ble_eq_true rfl) (Nat.le_of_ble_eq_true rfl) (Nat.le_of_ble_eq_true rfl) (Nat.le_of_ble_eq_true rfl) ?_
      intro dz hdz
      obtain rfl := Eq.symm hdz
      refine r_if_eq (t := 21) dX12_far_10 rfl ⟨by omega, by omega⟩ (fun hc10 => absurd hc10 (by omega)) (fun hc10 => ?_)
      refine x_aload_n dX12_far_13 x_get_3_0 ?_
      refine x_iload_n dX12_far_14 x_get_3_2 ?_
      refine x_callV (As := [_]) dX12_far_15 w_12_362 (m_isTownF hl q0 t0 hbr hb) (by assumption) (by assumption) rfl rfl (Nat.le_of_ble_eq_true rfl) (Nat.le_of_ble_eq_true rfl) (Nat.le_of_ble_eq_true rfl) (Nat.le_of_ble_eq_true rfl) (Nat.le_of_ble_eq_true rfl) ?_
      intro dz hdz
      obtain rfl := Eq.symm hdz
      refine r_if_ne (t := 23) dX12_far_18 rfl ⟨by omega, by omega⟩ (fun hc18 => absurd hc18 (by omega)) (fun hc18 => ?_)
      refine x_iconst dX12_far_21 ?_
      exact x_iret dX12_far_22 rfl (Nat.le_of_ble_eq_true rfl) (Nat.le_of_ble_eq_true rfl) rfl rfl rfl ⟨ms_thr ms0, by rw [x_up_s, x_u1_s, m_k_N]⟩ rfl
  · rw [if_neg ha]
    refine x_ofW (by decide +kernel) hl (by simp [Value.category]) (by simp) ?_
    refine x_aload_n dX12_far_0 x_get_3_0 ?_
    refine x_iconst dX12_far_1 ?_
    refine x_putI 0 dX12_far_2 fX_12_117 rfl tX_12_0 n62 s62 (by rfl) ?_
    have z0 := m_go0 hq hr hv84
    generalize x_up D 62 (x_u1 (D 62) 0 0) = d0 at z0 ⊢
    obtain ⟨q0, t0, ms0, r0, v0⟩ := z0
    refine x_aload_n dX12_far_5 x_get_3_0 ?_
    refine x_iload_n dX12_far_6 x_get_3_1 ?_
    refine x_callV (As := [_]) dX12_far_7 w_12_362 (m_isTownF hl q0 t0 har ha) (by assumption) (by assumption) rfl rfl (Nat.le_of_ble_eq_true rfl) (Nat.le_of_ble_eq_true rfl) (Nat.le_of_ble_eq_true rfl) (Nat.le_of_ble_eq_true rfl) (Nat.le_of_ble_eq_true rfl) ?_
    intro dz hdz
    obtain rfl := Eq.symm hdz
    refine r_if_eq (t := 21) dX12_far_10 rfl ⟨by omega, by omega⟩ (fun hc10 => ?_) (fun hc10 => absurd hc10 (by omega))
    refine x_iconst dX12_far_21 ?_
    exact x_iret dX12_far_22 rfl (Nat.le_of_ble_eq_true rfl) (Nat.le_of_ble_eq_true rfl) rfl rfl rfl ⟨ms_thr ms0, by rw [x_up_s, x_u1_s, m_k_N]⟩ rfl
theorem m_leak {X : xC} {l : Launch} (hl : l.stackTraces = false) {N : Nat} {sh : xS} {D : xM} {T C W : Nat} {G : Ldt} (hq : mq N sh D T C W G) {B : Int} {f : Int → Int} (hk : s_ok B f) (hB : B ≤ 200000) (hr : mr T C f (D 82) 0) (hv84 : ∀ j, x_r (D 84 j)) {one two span loss : Int → Int} (hw : mwy D W one two span loss) {a b : Int} (har : x_r a) (hbr : x_r b) : x_M X l yX12_leak cX12_leak 3 (some .int) 4 0 0 [.ref (x_b X + 62), .int (xI a), .int (xI b)] false N sh D (m_r (q_2t T a b (o_i (e_none 99999 ((f_M one two (fun w => span w * loss w) (-1) W T) (a * 8 + b)))))) false N sh (fun d => ms D d ∧ d 62 0 = m_k 1 (q_2t T a b (o_i (e_none 99999 ((f_M one two (fun w => span w * loss w) (-1) W T) (a * 8 + b)))))) := by
  obtain ⟨hM, hT, hTb, hW, hWb, hC, hCb, hmk, ⟨hG1, hG2, hG3⟩, hod⟩ := id hq
  have s62 := md_62 hM
  have n62 : 62 < N := md_n hM (by decide)
  have s87 := md_87 hM
  have n87 : 87 < N := md_n hM (by decide)
  obtain ⟨hv1, hv2⟩ := mwy_v hw
  unfold q_2t
  by_cases ha : 0 ≤ a ∧ a < T
  · rw [if_pos ha]
    obtain ⟨ha0, ha1⟩ := id ha
    by_cases hb : 0 ≤ b ∧ b < T
    · rw [if_pos hb]
      obtain ⟨hb0, hb1⟩ := id hb
      have hfo := f_M_ok (one := one) (two := two) (but := (-1)) (W := W) (T := T) hv2 (a * 8 + b)
      rw [m_r_i, m_k_i]
      refine x_ofW (by decide +kernel) hl (by simp [Value.category]) (by simp) ?_
      refine x_aload_n dX12_leak_0 x_get_3_0 ?_
      refine x_iconst dX12_leak_1 ?_
      refine x_putI 0 dX12_leak_2 fX_12_117 rfl tX_12_0 n62 s62 (by rfl) ?_
      have z0 := m_go0 hq hr hv84
      generalize x_up D 62 (x_u1 (D 62) 0 0) = d0 at z0 ⊢
      obtain ⟨q0, t0, ms0, r0, v0⟩ := z0
      have w0 : mwy d0 W one two span loss := mwy_of hw (fun j a b => ms0.1 j (by omega) (by omega) (by omega) (by omega) (by omega))
      refine x_aload_n dX12_leak_5 x_get_3_0 ?_
      refine x_iload_n dX12_leak_6 x_get_3_1 ?_
      refine x_callV (As := [_]) dX12_leak_7 w_12_362 (m_isTownT hl q0 t0 ha) (by assumption) (by assumption) rfl rfl (Nat.le_of_ble_eq_true rfl) (Nat.le_of_ble_eq_true rfl) (Nat.le_of_ble_eq_true rfl) (Nat.le_of_ble_eq_true rfl) (Nat.le_of_ble_eq_true rfl) ?_
      intro dz hdz
      obtain rfl := Eq.symm hdz
      refine r_if_eq (t := 21) dX12_leak_10 rfl ⟨by omega, by omega⟩ (fun hc10 => absurd hc10 (by omega)) (fun hc10 => ?_)
      refine x_aload_n dX12_leak_13 x_get_3_0 ?_
      refine x_iload_n dX12_leak_14 x_get_3_2 ?_
      refine x_callV (As := [_]) dX12_leak_15 w_12_362 (m_isTownT hl q0 t0 hb) (by assumption) (by assumption) rfl rfl (Nat.le_of_ble_eq_true rfl) (Nat.le_of_ble_eq_true rfl) (Nat.le_of_ble_eq_true rfl) (Nat.le_of_ble_eq_true rfl) (Nat.le_of_ble_eq_true rfl) ?_
      intro dz hdz
      obtain rfl := Eq.symm hdz
      refine r_if_ne (t := 23) dX12_leak_18 rfl ⟨by omega, by omega⟩ (fun hc18 => ?_) (fun hc18 => absurd hc18 (by omega))
      refine x_aload_n dX12_leak_23 x_get_3_0 ?_
      refine x_iconst dX12_leak_24 ?_
      refine x_callV (As := [_]) dX12_leak_25 w_12_396 (m_measures hl q0 w0 (but := (-1)) ⟨by decide, by decide⟩) (by assumption) (by assumption) rfl rfl (Nat.le_of_ble_eq_true rfl) (Nat.le_of_ble_eq_true rfl) (Nat.le_of_ble_eq_true rfl) (Nat.le_of_ble_eq_true rfl) (Nat.le_of_ble_eq_true rfl) ?_
      rintro d1 hd1
      have m1 : ms d0 d1 := by rw [hd1]; exact ms_fl (ms_rf v0)
      have q1 := ms_mq q0 m1
      have e86 : d1 86 = f_M one two span (-1) W T := by rw [hd1, x_up_n (by decide), x_up_s]
      have e87 : d1 87 = f_M one two (fun w => span w * loss w) (-1) W T := by rw [hd1, x_up_s]
      have t1 : d1 62 0 = 0 := by rw [hd1, x_up_n (by decide), x_up_n (by decide)]; exact t0
      have w1 : mwy d1 W one two span loss := mwy_of w0 (fun j a b => by rw [hd1, x_up_n (by omega), x_up_n (by omega)])
      skip
      refine x_aload_n dX12_leak_28 x_get_3_0 ?_
      refine x_getR dX12_leak_29 fX_12_90 n62 s62 (by rfl) ?_
      refine x_bipush dX12_leak_32 rfl ?_
      refine x_iload_n dX12_leak_34 x_get_3_1 ?_
      refine x_imul dX12_leak_35 ?_
      refine x_iload_n dX12_leak_36 x_get_3_2 ?_
      refine x_iadd dX12_leak_37 ?_
      refine x_as_is (show 8 * a + b = a * 8 + b by omega) ?_
      refine x_iald dX12_leak_38 n87 s87 (by omega) (by omega) (by decide) ?_
      try simp (disch := decide) only [x_up_s, x_up_n, x_up_up, x_u1_s, x_u1_n, e86, e87]
      refine x_callS (As := [_]) dX12_leak_39 w_12_399 (m_orNone hl (v := (f_M one two (fun w => span w * loss w) (-1) W T) (a * 8 + b)) ⟨by omega, by omega⟩) rfl rfl (Nat.le_of_ble_eq_true rfl) (Nat.le_of_ble_eq_true rfl) (Nat.le_of_ble_eq_true rfl) (Nat.le_of_ble_eq_true rfl) (Nat.le_of_ble_eq_true rfl) ?_
      intro dz hdz
      obtain rfl := Eq.symm hdz
      exact x_iret dX12_leak_42 rfl (Nat.le_of_ble_eq_true rfl) (Nat.le_of_ble_eq_true rfl) rfl rfl rfl ⟨ms_tr ms0 m1, t1⟩ rfl
    · rw [if_neg hb]
      refine x_ofW (by decide +kernel) hl (by simp [Value.category]) (by simp) ?_
      refine x_aload_n dX12_leak_0 x_get_3_0 ?_
      refine x_iconst dX12_leak_1 ?_
      refine x_putI 0 dX12_leak_2 fX_12_117 rfl tX_12_0 n62 s62 (by rfl) ?_
      have z0 := m_go0 hq hr hv84
      generalize x_up D 62 (x_u1 (D 62) 0 0) = d0 at z0 ⊢
      obtain ⟨q0, t0, ms0, r0, v0⟩ := z0
      refine x_aload_n dX12_leak_5 x_get_3_0 ?_
      refine x_iload_n dX12_leak_6 x_get_3_1 ?_
      refine x_callV (As := [_]) dX12_leak_7 w_12_362 (m_isTownT hl q0 t0 ha) (by assumption) (by assumption) rfl rfl (Nat.le_of_ble_eq_true rfl) (Nat.le_of_ble_eq_true rfl) (Nat.le_of_ble_eq_true rfl) (Nat.le_of_ble_eq_true rfl) (Nat.le_of_ble_eq_true rfl) ?_
      intro dz hdz
      obtain rfl := Eq.symm hdz
      refine r_if_eq (t := 21) dX12_leak_10 rfl ⟨by omega, by omega⟩ (fun hc10 => absurd hc10 (by omega)) (fun hc10 => ?_)
      refine x_aload_n dX12_leak_13 x_get_3_0 ?_
      refine x_iload_n dX12_leak_14 x_get_3_2 ?_
      refine x_callV (As := [_]) dX12_leak_15 w_12_362 (m_isTownF hl q0 t0 hbr hb) (by assumption) (by assumption) rfl rfl (Nat.le_of_ble_eq_true rfl) (Nat.le_of_ble_eq_true rfl) (Nat.le_of_ble_eq_true rfl) (Nat.le_of_ble_eq_true rfl) (Nat.le_of_ble_eq_true rfl) ?_
      intro dz hdz
      obtain rfl := Eq.symm hdz
      refine r_if_ne (t := 23) dX12_leak_18 rfl ⟨by omega, by omega⟩ (fun hc18 => absurd hc18 (by omega)) (fun hc18 => ?_)
      refine x_iconst dX12_leak_21 ?_
      exact x_iret dX12_leak_22 rfl (Nat.le_of_ble_eq_true rfl) (Nat.le_of_ble_eq_true rfl) rfl rfl rfl ⟨ms_thr ms0, by rw [x_up_s, x_u1_s, m_k_N]⟩ rfl
  · rw [if_neg ha]
    refine x_ofW (by decide +kernel) hl (by simp [Value.category]) (by simp) ?_
    refine x_aload_n dX12_leak_0 x_get_3_0 ?_
    refine x_iconst dX12_leak_1 ?_
    refine x_putI 0 dX12_leak_2 fX_12_117 rfl tX_12_0 n62 s62 (by rfl) ?_
    have z0 := m_go0 hq hr hv84
    generalize x_up D 62 (x_u1 (D 62) 0 0) = d0 at z0 ⊢
    obtain ⟨q0, t0, ms0, r0, v0⟩ := z0
    refine x_aload_n dX12_leak_5 x_get_3_0 ?_
    refine x_iload_n dX12_leak_6 x_get_3_1 ?_
    refine x_callV (As := [_]) dX12_leak_7 w_12_362 (m_isTownF hl q0 t0 har ha) (by assumption) (by assumption) rfl rfl (Nat.le_of_ble_eq_true rfl) (Nat.le_of_ble_eq_true rfl) (Nat.le_of_ble_eq_true rfl) (Nat.le_of_ble_eq_true rfl) (Nat.le_of_ble_eq_true rfl) ?_
    intro dz hdz
    obtain rfl := Eq.symm hdz
    refine r_if_eq (t := 21) dX12_leak_10 rfl ⟨by omega, by omega⟩ (fun hc10 => ?_) (fun hc10 => absurd hc10 (by omega))
    refine x_iconst dX12_leak_21 ?_
    exact x_iret dX12_leak_22 rfl (Nat.le_of_ble_eq_true rfl) (Nat.le_of_ble_eq_true rfl) rfl rfl rfl ⟨ms_thr ms0, by rw [x_up_s, x_u1_s, m_k_N]⟩ rfl
set_option maxHeartbeats 8000000 in
theorem m_hub {X : xC} {l : Launch} (hl : l.stackTraces = false) {N : Nat} {sh : xS} {D : xM} {T C W : Nat} {G : Ldt} (hq : mq N sh D T C W G) {B : Int} {f : Int → Int} (hk : s_ok B f) (hB : B ≤ 200000) (hr : mr T C f (D 82) 0) (hv84 : ∀ j, x_r (D 84 j)) {one two span loss : Int → Int} (hw : mwy D W one two span loss) : x_M X l yX12_hub cX12_hub 6 (some .int) 4 0 0 [.ref (x_b X + 62)] false N sh D (m_r (o_i (e_mid 99999 (f_M one two span (-1) W T) T T).1)) false N sh (fun d => ms D d ∧ d 62 0 = m_k 1 (o_i (e_mid 99999 (f_M one two span (-1) W T) T T).1)) := by
  obtain ⟨hM, hT, hTb, hW, hWb, hC, hCb, hmk, ⟨hG1, hG2, hG3⟩, hod⟩ := id hq
  have s62 := md_62 hM
  have n62 : 62 < N := md_n hM (by decide)
  have s86 := md_86 hM
  have n86 : 86 < N := md_n hM (by decide)
  obtain ⟨hv1, hv2⟩ := mwy_v hw
  have hfo := f_M_ok (one := one) (two := two) (but := (-1)) (W := W) (T := T) hv1
  rw [m_r_i, m_k_i]
  refine x_ofW (by decide +kernel) hl (by simp [Value.category]) (by simp) ?_
  refine x_aload_n dX12_hub_0 x_get_6_0 ?_
  refine x_iconst dX12_hub_1 ?_
  refine x_putI 0 dX12_hub_2 fX_12_117 rfl tX_12_0 n62 s62 (by rfl) ?_
  have z0 := m_go0 hq hr hv84
  generalize x_up D 62 (x_u1 (D 62) 0 0) = d0 at z0 ⊢
  obtain ⟨q0, t0, ms0, r0, v0⟩ := z0
  have w0 : mwy d0 W one two span loss := mwy_of hw (fun j a b => ms0.1 j (by omega) (by omega) (by omega) (by omega) (by omega))
  refine x_aload_n dX12_hub_5 x_get_6_0 ?_
  refine x_iconst dX12_hub_6 ?_
  refine x_callV (As := [_]) dX12_hub_7 w_12_396 (m_measures hl q0 w0 (but := (-1)) ⟨by decide, by decide⟩) (by assumption) (by assumption) rfl rfl (Nat.le_of_ble_eq_true rfl) (Nat.le_of_ble_eq_true rfl) (Nat.le_of_ble_eq_true rfl) (Nat.le_of_ble_eq_true rfl) (Nat.le_of_ble_eq_true rfl) ?_
  rintro d1 hd1
  have m1 : ms d0 d1 := by rw [hd1]; exact ms_fl (ms_rf v0)
  have q1 := ms_mq q0 m1
  have e86 : d1 86 = f_M one two span (-1) W T := by rw [hd1, x_up_n (by decide), x_up_s]
  have e87 : d1 87 = f_M one two (fun w => span w * loss w) (-1) W T := by rw [hd1, x_up_s]
  have t1 : d1 62 0 = 0 := by rw [hd1, x_up_n (by decide), x_up_n (by decide)]; exact t0
  have w1 : mwy d1 W one two span loss := mwy_of w0 (fun j a b => by rw [hd1, x_up_n (by omega), x_up_n (by omega)])
  skip
  have hT1 : d1 62 1 = T := q1.2.1
  have hmx : ∀ (a : Nat) (n : Nat), 0 ≤ (x_mx (fun o => (f_M one two span (-1) W T) ((a : Nat) * 8 + o)) n) ∧ (x_mx (fun o => (f_M one two span (-1) W T) ((a : Nat) * 8 + o)) n) ≤ 99999 := fun a n => x_mx_in (by decide) (fun j => hfo _) n
  have hei : ∀ k : Nat, 0 ≤ (e_mid 99999 (f_M one two span (-1) W T) T k).2 ∧ (e_mid 99999 (f_M one two span (-1) W T) T k).2 ≤ 99999 := by
    intro k
    induction k with
    | zero => exact ⟨show (0 : Int) ≤ 99999 by decide, show (99999 : Int) ≤ 99999 by decide⟩
    | succ k ih =>
      rw [e_mid_s]
      split
      · exact hmx k T
      · exact ih
  have hloop : ∀ k : Nat, k ≤ T → ∀ o4 o5 : Option Value, x_W (X, l, yX12_hub, cX12_hub, 6, (some .int), x_room 4 0 0, 0, 0, (.inl (some (.int (xI ((e_mid 99999 (f_M one two span (-1) W T) T T).1))))), N, sh, (fun d => ms D d ∧ d 62 0 = 0), false, []) 18 [some (.ref (x_b X + 62)), some (.int (xI (e_mid 99999 (f_M one two span (-1) W T) T k).1)), some (.int (xI (e_mid 99999 (f_M one two span (-1) W T) T k).2)), some (.int (xI (k : Int))), o4, o5] [] 0 0 false N sh d1 := by
    refine x_down T ?_ ?_
    · intro o4 o5
      refine x_iload_n dX12_hub_18 x_get_6_3 ?_
      refine x_aload_n dX12_hub_19 x_get_6_0 ?_
      refine x_getI 1 dX12_hub_20 fX_12_281 rfl n62 s62 (by rfl) ?_
      try simp (disch := decide) only [x_up_s, x_up_n, x_up_up, x_u1_s, x_u1_n, hT1]
      refine r_icmp_ge (t := 103) dX12_hub_23 rfl ⟨by omega, by omega⟩ ⟨by omega, by omega⟩ (fun hc23 => ?_) (fun hc23 => absurd hc23 (by omega))
      refine x_iload_n dX12_hub_103 x_get_6_1 ?_
      exact x_iret dX12_hub_104 rfl (Nat.le_of_ble_eq_true rfl) (Nat.le_of_ble_eq_true rfl) rfl rfl rfl ⟨ms_tr ms0 m1, t1⟩ rfl
    · intro k hk2 ih o4 o5
      have e := e_mid_s (F := 99999) (days := (f_M one two span (-1) W T)) (T := T) (t := k)
      have he2 := hei k
      have inner : ∀ b : Nat, b ≤ T → x_W (X, l, yX12_hub, cX12_hub, 6, (some .int), x_room 4 0 0, 0, 0, (.inl (some (.int (xI ((e_mid 99999 (f_M one two span (-1) W T) T T).1))))), N, sh, (fun d => ms D d ∧ d 62 0 = 0), false, []) 32 [some (.ref (x_b X + 62)), some (.int (xI (e_mid 99999 (f_M one two span (-1) W T) T k).1)), some (.int (xI (e_mid 99999 (f_M one two span (-1) W T) T k).2)), some (.int (xI (k : Int))), some (.int (xI (x_mx (fun o => (f_M one two span (-1) W T) ((k : Nat) * 8 + o)) b))), some (.int (xI (b : Int)))] [] 0 0 false N sh d1 := by
        refine x_down T ?_ ?_
        · have hm2 := hmx k T
          refine x_iload dX12_hub_32 x_get_6_5 ?_
          refine x_aload_n dX12_hub_34 x_get_6_0 ?_
          refine x_getI 1 dX12_hub_35 fX_12_281 rfl n62 s62 (by rfl) ?_
          try simp (disch := decide) only [x_up_s, x_up_n, x_up_up, x_u1_s, x_u1_n, hT1]
          refine r_icmp_ge (t := 83) dX12_hub_38 rfl ⟨by omega, by omega⟩ ⟨by omega, by omega⟩ (fun hc38 => ?_) (fun hc38 => absurd hc38 (by omega))
          refine x_iload dX12_hub_83 x_get_6_4 ?_
          refine x_iload_n dX12_hub_85 x_get_6_2 ?_
          refine r_icmp_lt (t := 92) dX12_hub_86 rfl ⟨by omega, by omega⟩ ⟨by omega, by omega⟩ (fun hc86 => ?_) (fun hc86 => ?_)
          · refine x_iload_n dX12_hub_92 x_get_6_3 ?_
            refine x_istore_n dX12_hub_93 (Nat.le_of_ble_eq_true rfl) rfl x_set_6_1 ?_
            refine x_iload dX12_hub_94 x_get_6_4 ?_
            refine x_istore_n dX12_hub_96 (Nat.le_of_ble_eq_true rfl) rfl x_set_6_2 ?_
            refine x_iinc dX12_hub_97 x_get_6_3 (Nat.le_of_ble_eq_true rfl) rfl x_set_6_3 ?_
            refine x_goto (t := 18) dX12_hub_100 rfl ?_
            first | (rw [if_pos (by omega)] at e; rw [e] at ih; exact ih _ _) | (rw [if_neg (by omega)] at e; rw [e] at ih; exact ih _ _)
          · refine x_goto (t := 97) dX12_hub_89 rfl ?_
            refine x_iinc dX12_hub_97 x_get_6_3 (Nat.le_of_ble_eq_true rfl) rfl x_set_6_3 ?_
            refine x_goto (t := 18) dX12_hub_100 rfl ?_
            first | (rw [if_pos (by omega)] at e; rw [e] at ih; exact ih _ _) | (rw [if_neg (by omega)] at e; rw [e] at ih; exact ih _ _)
        · intro b hb ih2
          have hm2 := hmx k b
          have hf2 := hfo ((k : Int) * 8 + b)
          rw [show (x_mx (fun o => (f_M one two span (-1) W T) ((k : Nat) * 8 + o)) (b + 1)) = max (x_mx (fun o => (f_M one two span (-1) W T) ((k : Nat) * 8 + o)) b) ((f_M one two span (-1) W T) ((k : Int) * 8 + b)) from rfl] at ih2
          refine x_iload dX12_hub_32 x_get_6_5 ?_
          refine x_aload_n dX12_hub_34 x_get_6_0 ?_
          refine x_getI 1 dX12_hub_35 fX_12_281 rfl n62 s62 (by rfl) ?_
          try simp (disch := decide) only [x_up_s, x_up_n, x_up_up, x_u1_s, x_u1_n, hT1, e86]
          refine r_icmp_ge (t := 83) dX12_hub_38 rfl ⟨by omega, by omega⟩ ⟨by omega, by omega⟩ (fun hc38 => absurd hc38 (by omega)) (fun hc38 => ?_)
          refine x_aload_n dX12_hub_41 x_get_6_0 ?_
          refine x_getR dX12_hub_42 fX_12_87 n62 s62 (by rfl) ?_
          refine x_bipush dX12_hub_45 rfl ?_
          refine x_iload_n dX12_hub_47 x_get_6_3 ?_
          refine x_imul dX12_hub_48 ?_
          refine x_iload dX12_hub_49 x_get_6_5 ?_
          refine x_iadd dX12_hub_51 ?_
          refine x_as_is (show 8 * (k : Int) + (b : Int) = (k : Int) * 8 + (b : Int) by omega) ?_
          refine x_iald dX12_hub_52 n86 s86 (by omega) (by omega) (by decide) ?_
          try simp (disch := decide) only [x_up_s, x_up_n, x_up_up, x_u1_s, x_u1_n, hT1, e86]
          refine x_iload dX12_hub_53 x_get_6_4 ?_
          refine r_icmp_le (t := 73) dX12_hub_55 rfl ⟨by omega, by omega⟩ ⟨by omega, by omega⟩ (fun hc55 => ?_) (fun hc55 => ?_)
          · refine x_iload dX12_hub_73 x_get_6_4 ?_
            refine x_istore dX12_hub_75 (Nat.le_of_ble_eq_true rfl) rfl x_set_6_4 ?_
            refine x_iinc dX12_hub_77 x_get_6_5 (Nat.le_of_ble_eq_true rfl) rfl x_set_6_5 ?_
            refine x_goto (t := 32) dX12_hub_80 rfl ?_
            first | (rw [Int.max_eq_right (by omega)] at ih2; exact ih2) | (rw [Int.max_eq_left (by omega)] at ih2; exact ih2)
          · refine x_aload_n dX12_hub_58 x_get_6_0 ?_
            refine x_getR dX12_hub_59 fX_12_87 n62 s62 (by rfl) ?_
            refine x_bipush dX12_hub_62 rfl ?_
            refine x_iload_n dX12_hub_64 x_get_6_3 ?_
            refine x_imul dX12_hub_65 ?_
            refine x_iload dX12_hub_66 x_get_6_5 ?_
            refine x_iadd dX12_hub_68 ?_
            refine x_as_is (show 8 * (k : Int) + (b : Int) = (k : Int) * 8 + (b : Int) by omega) ?_
            refine x_iald dX12_hub_69 n86 s86 (by omega) (by omega) (by decide) ?_
            try simp (disch := decide) only [x_up_s, x_up_n, x_up_up, x_u1_s, x_u1_n, hT1, e86]
            refine x_goto (t := 75) dX12_hub_70 rfl ?_
            refine x_istore dX12_hub_75 (Nat.le_of_ble_eq_true rfl) rfl x_set_6_4 ?_
            refine x_iinc dX12_hub_77 x_get_6_5 (Nat.le_of_ble_eq_true rfl) rfl x_set_6_5 ?_
            refine x_goto (t := 32) dX12_hub_80 rfl ?_
            first | (rw [Int.max_eq_right (by omega)] at ih2; exact ih2) | (rw [Int.max_eq_left (by omega)] at ih2; exact ih2)
      refine x_iload_n dX12_hub_18 x_get_6_3 ?_
      refine x_aload_n dX12_hub_19 x_get_6_0 ?_
      refine x_getI 1 dX12_hub_20 fX_12_281 rfl n62 s62 (by rfl) ?_
      try simp (disch := decide) only [x_up_s, x_up_n, x_up_up, x_u1_s, x_u1_n, hT1]
      refine r_icmp_ge (t := 103) dX12_hub_23 rfl ⟨by omega, by omega⟩ ⟨by omega, by omega⟩ (fun hc23 => absurd hc23 (by omega)) (fun hc23 => ?_)
      refine x_iconst dX12_hub_26 ?_
      refine x_istore dX12_hub_27 (Nat.le_of_ble_eq_true rfl) rfl x_set_6_4 ?_
      refine x_iconst dX12_hub_29 ?_
      refine x_istore dX12_hub_30 (Nat.le_of_ble_eq_true rfl) rfl x_set_6_5 ?_
      exact inner 0 (Nat.zero_le _)
  refine x_iconst dX12_hub_10 ?_
  refine x_istore_n dX12_hub_11 (Nat.le_of_ble_eq_true rfl) rfl x_set_6_1 ?_
  refine x_ldcw (z := 99999) dX12_hub_12 k_RX12_395 ?_
  refine x_istore_n dX12_hub_15 (Nat.le_of_ble_eq_true rfl) rfl x_set_6_2 ?_
  refine x_iconst dX12_hub_16 ?_
  refine x_istore_n dX12_hub_17 (Nat.le_of_ble_eq_true rfl) rfl x_set_6_3 ?_
  exact hloop 0 (Nat.zero_le _) _ _
theorem m_bridge {X : xC} {l : Launch} (hl : l.stackTraces = false) {N : Nat} {sh : xS} {D : xM} {T C W : Nat} {G : Ldt} (hq : mq N sh D T C W G) {B : Int} {f : Int → Int} (hk : s_ok B f) (hB : B ≤ 200000) (hr : mr T C f (D 82) 0) (hv84 : ∀ j, x_r (D 84 j)) {one two span loss : Int → Int} (hw_ : mwy D W one two span loss) {w : Int} (hwr : x_r w) : x_M X l yX12_bridge cX12_bridge 2 (some .boolean) 4 0 0 [.ref (x_b X + 62), .int (xI w)] false N sh D (m_r (q_1t W w (o_i (x_B (99999 ≤ (f_M one two span w W T) (one w * 8 + two w)))))) false N sh (fun d => ms D d ∧ d 62 0 = m_k 1 (q_1t W w (o_i (x_B (99999 ≤ (f_M one two span w W T) (one w * 8 + two w)))))) := by
  obtain ⟨hM, hT, hTb, hW, hWb, hC, hCb, hmk, ⟨hG1, hG2, hG3⟩, hod⟩ := id hq
  have s62 := md_62 hM
  have n62 : 62 < N := md_n hM (by decide)
  have s86 := md_86 hM
  have n86 : 86 < N := md_n hM (by decide)
  have s65 := md_65 hM
  have n65 : 65 < N := md_n hM (by decide)
  have s66 := md_66 hM
  have n66 : 66 < N := md_n hM (by decide)
  obtain ⟨hv1, hv2⟩ := mwy_v hw_
  unfold q_1t
  by_cases hw : 0 ≤ w ∧ w < W
  · rw [if_pos hw]
    obtain ⟨hw0, hw1⟩ := id hw
    have hfo := f_M_ok (one := one) (two := two) (but := w) (W := W) (T := T) hv1 (one w * 8 + two w)
    have a1 := hw_.2.1 w
    have a2 := hw_.2.2.1 w
    rw [m_r_i, m_k_i]
    refine x_ofW (by decide +kernel) hl (by simp [Value.category]) (by simp) ?_
    refine x_aload_n dX12_bridge_0 x_get_2_0 ?_
    refine x_iconst dX12_bridge_1 ?_
    refine x_putI 0 dX12_bridge_2 fX_12_117 rfl tX_12_0 n62 s62 (by rfl) ?_
    have z0 := m_go0 hq hr hv84
    generalize x_up D 62 (x_u1 (D 62) 0 0) = d0 at z0 ⊢
    obtain ⟨q0, t0, ms0, r0, v0⟩ := z0
    have w0 : mwy d0 W one two span loss := mwy_of hw_ (fun j a b => ms0.1 j (by omega) (by omega) (by omega) (by omega) (by omega))
    refine x_aload_n dX12_bridge_5 x_get_2_0 ?_
    refine x_iload_n dX12_bridge_6 x_get_2_1 ?_
    refine x_callV (As := [_]) dX12_bridge_7 w_12_377 (m_isWayT hl q0 t0 hw) (by assumption) (by assumption) rfl rfl (Nat.le_of_ble_eq_true rfl) (Nat.le_of_ble_eq_true rfl) (Nat.le_of_ble_eq_true rfl) (Nat.le_of_ble_eq_true rfl) (Nat.le_of_ble_eq_true rfl) ?_
    intro dz hdz
    obtain rfl := Eq.symm hdz
    refine r_if_ne (t := 15) dX12_bridge_10 rfl ⟨by omega, by omega⟩ (fun hc10 => ?_) (fun hc10 => absurd hc10 (by omega))
    refine x_aload_n dX12_bridge_15 x_get_2_0 ?_
    refine x_iload_n dX12_bridge_16 x_get_2_1 ?_
    refine x_callV (As := [_]) dX12_bridge_17 w_12_396 (m_measures hl q0 w0 (but := w) hwr) (by assumption) (by assumption) rfl rfl (Nat.le_of_ble_eq_true rfl) (Nat.le_of_ble_eq_true rfl) (Nat.le_of_ble_eq_true rfl) (Nat.le_of_ble_eq_true rfl) (Nat.le_of_ble_eq_true rfl) ?_
    rintro d1 hd1
    have m1 : ms d0 d1 := by rw [hd1]; exact ms_fl (ms_rf v0)
    have q1 := ms_mq q0 m1
    have e86 : d1 86 = f_M one two span w W T := by rw [hd1, x_up_n (by decide), x_up_s]
    have e87 : d1 87 = f_M one two (fun w => span w * loss w) w W T := by rw [hd1, x_up_s]
    have t1 : d1 62 0 = 0 := by rw [hd1, x_up_n (by decide), x_up_n (by decide)]; exact t0
    have w1 : mwy d1 W one two span loss := mwy_of w0 (fun j a b => by rw [hd1, x_up_n (by omega), x_up_n (by omega)])
    obtain ⟨e65, e66, -, -⟩ := w1.1 w hw0 hw1
    refine x_aload_n dX12_bridge_20 x_get_2_0 ?_
    refine x_getR dX12_bridge_21 fX_12_87 n62 s62 (by rfl) ?_
    refine x_bipush dX12_bridge_24 rfl ?_
    refine x_aload_n dX12_bridge_26 x_get_2_0 ?_
    refine x_getR dX12_bridge_27 fX_12_20 n62 s62 (by rfl) ?_
    refine x_iload_n dX12_bridge_30 x_get_2_1 ?_
    refine x_iald dX12_bridge_31 n65 s65 (by omega) (by omega) (by decide) ?_
    try simp (disch := decide) only [x_up_s, x_up_n, x_up_up, x_u1_s, x_u1_n, e86, e65, e66]
    refine x_imul dX12_bridge_32 ?_
    refine x_aload_n dX12_bridge_33 x_get_2_0 ?_
    refine x_getR dX12_bridge_34 fX_12_23 n62 s62 (by rfl) ?_
    refine x_iload_n dX12_bridge_37 x_get_2_1 ?_
    refine x_iald dX12_bridge_38 n66 s66 (by omega) (by omega) (by decide) ?_
    try simp (disch := decide) only [x_up_s, x_up_n, x_up_up, x_u1_s, x_u1_n, e86, e65, e66]
    refine x_iadd dX12_bridge_39 ?_
    refine x_as_is (show 8 * one w + two w = one w * 8 + two w by omega) ?_
    refine x_iald dX12_bridge_40 n86 s86 (by omega) (by omega) (by decide) ?_
    try simp (disch := decide) only [x_up_s, x_up_n, x_up_up, x_u1_s, x_u1_n, e86, e65, e66]
    refine x_ldcw (z := 99999) dX12_bridge_41 k_RX12_395 ?_
    refine r_icmp_lt (t := 51) dX12_bridge_44 rfl ⟨by omega, by omega⟩ ⟨by omega, by omega⟩ (fun hc44 => ?_) (fun hc44 => ?_)
    · refine x_iconst dX12_bridge_51 ?_
      exact x_zret dX12_bridge_52 rfl (by omega) (Nat.le_of_ble_eq_true rfl) (Nat.le_of_ble_eq_true rfl) (by first | (rw [x_B, if_pos (by omega)]; done) | (rw [x_B, if_neg (by omega)]; done)) rfl rfl ⟨ms_tr ms0 m1, t1⟩ rfl
    · refine x_iconst dX12_bridge_47 ?_
      refine x_goto (t := 52) dX12_bridge_48 rfl ?_
      exact x_zret dX12_bridge_52 rfl (by omega) (Nat.le_of_ble_eq_true rfl) (Nat.le_of_ble_eq_true rfl) (by first | (rw [x_B, if_pos (by omega)]; done) | (rw [x_B, if_neg (by omega)]; done)) rfl rfl ⟨ms_tr ms0 m1, t1⟩ rfl
  · rw [if_neg hw]
    refine x_ofW (by decide +kernel) hl (by simp [Value.category]) (by simp) ?_
    refine x_aload_n dX12_bridge_0 x_get_2_0 ?_
    refine x_iconst dX12_bridge_1 ?_
    refine x_putI 0 dX12_bridge_2 fX_12_117 rfl tX_12_0 n62 s62 (by rfl) ?_
    have z0 := m_go0 hq hr hv84
    generalize x_up D 62 (x_u1 (D 62) 0 0) = d0 at z0 ⊢
    obtain ⟨q0, t0, ms0, r0, v0⟩ := z0
    refine x_aload_n dX12_bridge_5 x_get_2_0 ?_
    refine x_iload_n dX12_bridge_6 x_get_2_1 ?_
    refine x_callV (As := [_]) dX12_bridge_7 w_12_377 (m_isWayF hl q0 t0 hwr hw) (by assumption) (by assumption) rfl rfl (Nat.le_of_ble_eq_true rfl) (Nat.le_of_ble_eq_true rfl) (Nat.le_of_ble_eq_true rfl) (Nat.le_of_ble_eq_true rfl) (Nat.le_of_ble_eq_true rfl) ?_
    intro dz hdz
    obtain rfl := Eq.symm hdz
    refine r_if_ne (t := 15) dX12_bridge_10 rfl ⟨by omega, by omega⟩ (fun hc10 => absurd hc10 (by omega)) (fun hc10 => ?_)
    refine x_iconst dX12_bridge_13 ?_
    exact x_zret dX12_bridge_14 rfl (by omega) (Nat.le_of_ble_eq_true rfl) (Nat.le_of_ble_eq_true rfl) rfl rfl rfl ⟨ms_thr ms0, by rw [x_up_s, x_u1_s, m_k_N]⟩ rfl
set_option maxHeartbeats 8000000 in
theorem m_nextOn {X : xC} {l : Launch} (hl : l.stackTraces = false) {N : Nat} {sh : xS} {D : xM} {T C W : Nat} {G : Ldt} (hq : mq N sh D T C W G) {one two span loss : Int → Int} (hw : mwy D W one two span loss) {Fx : Int → Int} (he : D 86 = Fx) (hfx : ∀ j, 0 ≤ Fx j ∧ Fx j ≤ 99999) {a b : Int} (ha0 : 0 ≤ a) (ha1 : a < T) (hb0 : 0 ≤ b) (hb1 : b < T) : x_M X l yX12_nextOn cX12_nextOn 6 (some .int) 2 0 0 [.ref (x_b X + 62), .int (xI a), .int (xI b)] false N sh D (.inl (some (.int (xI (x_next one two span Fx W T a b))))) false N sh (x_is (D)) := by
  obtain ⟨hM, hT, hTb, hW, hWb, hC, hCb, hmk, ⟨hG1, hG2, hG3⟩, hod⟩ := id hq
  have s62 := md_62 hM
  have n62 : 62 < N := md_n hM (by decide)
  have s67 := md_67 hM
  have n67 : 67 < N := md_n hM (by decide)
  have s86 := md_86 hM
  have n86 : 86 < N := md_n hM (by decide)
  have hab := hfx (a * 8 + b)
  have hloop : ∀ t : Nat, t ≤ T → (∀ j : Nat, j < t → ¬ (¬ (j : Int) = a ∧ ∃ w : Nat, w < W ∧ (e_oth one two w a = (j : Int) ∧ span w + Fx ((j : Int) * 8 + b) = Fx (a * 8 + b)))) → ∀ o4 o5 : Option Value, x_W (X, l, yX12_nextOn, cX12_nextOn, 6, (some .int), x_room 2 0 0, 0, 0, (.inl (some (.int (xI (x_next one two span Fx W T a b))))), N, sh, (x_is (D)), false, []) 2 [some (.ref (x_b X + 62)), some (.int (xI a)), some (.int (xI b)), some (.int (xI (t : Int))), o4, o5] [] 0 0 false N sh D := by
    refine x_down T ?_ ?_
    · intro hp o4 o5
      refine x_iload_n dX12_nextOn_2 x_get_6_3 ?_
      refine x_aload_n dX12_nextOn_3 x_get_6_0 ?_
      refine x_getI 1 dX12_nextOn_4 fX_12_281 rfl n62 s62 (by rfl) ?_
      try simp (disch := decide) only [x_up_s, x_up_n, x_up_up, x_u1_s, x_u1_n, hT]
      refine r_icmp_ge (t := 108) dX12_nextOn_7 rfl ⟨by omega, by omega⟩ ⟨by omega, by omega⟩ (fun hc7 => ?_) (fun hc7 => absurd hc7 (by omega))
      refine x_iconst dX12_nextOn_108 ?_
      exact x_iret dX12_nextOn_109 rfl (Nat.le_of_ble_eq_true rfl) (Nat.le_of_ble_eq_true rfl) (by unfold x_next; rw [x_first_none hp]) rfl rfl rfl rfl
    · intro t ht ih hp o4 o5
      have hft := hfx ((t : Int) * 8 + b)
      have inner : ¬ (t : Int) = a → ∀ w : Nat, w ≤ W → x_W (X, l, yX12_nextOn, cX12_nextOn, 6, (some .int), x_room 2 0 0, 0, 0, (.inl (some (.int (xI (x_next one two span Fx W T a b))))), N, sh, (x_is (D)), false, []) 24 [some (.ref (x_b X + 62)), some (.int (xI a)), some (.int (xI b)), some (.int (xI (t : Int))), some (.int (xI (x_B (x_any (fun w : Nat => (e_oth one two w a = (t : Int) ∧ span w + Fx ((t : Int) * 8 + b) = Fx (a * 8 + b))) w = true)))), some (.int (xI (w : Int)))] [] 0 0 false N sh D := by
        intro hta
        refine x_down W ?_ ?_
        · refine x_iload dX12_nextOn_24 x_get_6_5 ?_
          refine x_aload_n dX12_nextOn_26 x_get_6_0 ?_
          refine x_getI 2 dX12_nextOn_27 fX_12_284 rfl n62 s62 (by rfl) ?_
          try simp (disch := decide) only [x_up_s, x_up_n, x_up_up, x_u1_s, x_u1_n, hW]
          refine r_icmp_ge (t := 95) dX12_nextOn_30 rfl ⟨by omega, by omega⟩ ⟨by omega, by omega⟩ (fun hc30 => ?_) (fun hc30 => absurd hc30 (by omega))
          refine x_iload dX12_nextOn_95 x_get_6_4 ?_
          refine b_ifeq (t := 102) dX12_nextOn_97 rfl (fun hc97 => ?_) (fun hc97 => ?_)
          · refine x_iinc dX12_nextOn_102 x_get_6_3 (Nat.le_of_ble_eq_true rfl) rfl x_set_6_3 ?_
            refine x_goto (t := 2) dX12_nextOn_105 rfl ?_
            refine ih (fun j hj => ?_) _ _
            by_cases hjt : j = t
            · subst hjt; exact fun h => hc97 (x_any_iff.mpr h.2)
            · exact hp j (by omega)
          · refine x_iload_n dX12_nextOn_100 x_get_6_3 ?_
            exact x_iret dX12_nextOn_101 rfl (Nat.le_of_ble_eq_true rfl) (Nat.le_of_ble_eq_true rfl) (by unfold x_next; rw [x_first_hit hp ⟨hta, x_any_iff.mp hc97⟩ ht]) rfl rfl rfl rfl
        · intro w hw0 ih2
          obtain ⟨-, -, e67, -⟩ := hw.1 (w : Int) (by omega) (by omega)
          have hoi := e_oth_in hw.2.1 hw.2.2.1 (w : Int) a
          have hsp := hw.2.2.2.1 (w : Int)
          refine x_iload dX12_nextOn_24 x_get_6_5 ?_
          refine x_aload_n dX12_nextOn_26 x_get_6_0 ?_
          refine x_getI 2 dX12_nextOn_27 fX_12_284 rfl n62 s62 (by rfl) ?_
          try simp (disch := decide) only [x_up_s, x_up_n, x_up_up, x_u1_s, x_u1_n, hW, e67, he]
          refine r_icmp_ge (t := 95) dX12_nextOn_30 rfl ⟨by omega, by omega⟩ ⟨by omega, by omega⟩ (fun hc30 => absurd hc30 (by omega)) (fun hc30 => ?_)
          refine x_iload dX12_nextOn_33 x_get_6_4 ?_
          refine b_ifne (t := 82) dX12_nextOn_35 rfl (fun hc35 => ?_) (fun hc35 => ?_)
          · refine x_iconst dX12_nextOn_82 ?_
            refine x_goto (t := 87) dX12_nextOn_83 rfl ?_
            refine x_istore dX12_nextOn_87 (Nat.le_of_ble_eq_true rfl) rfl x_set_6_4 ?_
            refine x_iinc dX12_nextOn_89 x_get_6_5 (Nat.le_of_ble_eq_true rfl) rfl x_set_6_5 ?_
            refine x_goto (t := 24) dX12_nextOn_92 rfl ?_
            first | (rw [(show (x_B (x_any (fun w : Nat => (e_oth one two w a = (t : Int) ∧ span w + Fx ((t : Int) * 8 + b) = Fx (a * 8 + b))) (w + 1) = true)) = 1 by rw [x_B, if_pos (x_any_s.mpr (Or.inl hc35))])] at ih2; exact ih2) | (rw [(show (x_B (x_any (fun w : Nat => (e_oth one two w a = (t : Int) ∧ span w + Fx ((t : Int) * 8 + b) = Fx (a * 8 + b))) (w + 1) = true)) = 1 by rw [x_B, if_pos (x_any_s.mpr (Or.inr (And.intro hc46 hc79)))])] at ih2; exact ih2) | (rw [(show (x_B (x_any (fun w : Nat => (e_oth one two w a = (t : Int) ∧ span w + Fx ((t : Int) * 8 + b) = Fx (a * 8 + b))) (w + 1) = true)) = 0 by rw [x_B, if_neg (fun hh => (x_any_s.mp hh).elim hc35 (fun h2 => hc46 h2.1))])] at ih2; exact ih2) | (rw [(show (x_B (x_any (fun w : Nat => (e_oth one two w a = (t : Int) ∧ span w + Fx ((t : Int) * 8 + b) = Fx (a * 8 + b))) (w + 1) = true)) = 0 by rw [x_B, if_neg (fun hh => (x_any_s.mp hh).elim hc35 (fun h2 => hc79 h2.2))])] at ih2; exact ih2)
          · refine x_aload_n dX12_nextOn_38 x_get_6_0 ?_
            refine x_iload dX12_nextOn_39 x_get_6_5 ?_
            refine x_iload_n dX12_nextOn_41 x_get_6_1 ?_
            refine x_callV (As := [_, _]) dX12_nextOn_42 w_12_380 (m_leads hl hq hw (w := (w : Int)) (by omega) (by omega) (t := a) ⟨by omega, by omega⟩) (by assumption) (by assumption) rfl rfl (Nat.le_of_ble_eq_true rfl) (Nat.le_of_ble_eq_true rfl) (Nat.le_of_ble_eq_true rfl) (Nat.le_of_ble_eq_true rfl) (Nat.le_of_ble_eq_true rfl) ?_
            intro dz hdz
            obtain rfl := Eq.symm hdz
            refine x_iload_n dX12_nextOn_45 x_get_6_3 ?_
            refine r_icmp_ne (t := 86) dX12_nextOn_46 rfl ⟨by omega, by omega⟩ ⟨by omega, by omega⟩ (fun hc46 => ?_) (fun hc46 => ?_)
            · refine x_iconst dX12_nextOn_86 ?_
              refine x_istore dX12_nextOn_87 (Nat.le_of_ble_eq_true rfl) rfl x_set_6_4 ?_
              refine x_iinc dX12_nextOn_89 x_get_6_5 (Nat.le_of_ble_eq_true rfl) rfl x_set_6_5 ?_
              refine x_goto (t := 24) dX12_nextOn_92 rfl ?_
              first | (rw [(show (x_B (x_any (fun w : Nat => (e_oth one two w a = (t : Int) ∧ span w + Fx ((t : Int) * 8 + b) = Fx (a * 8 + b))) (w + 1) = true)) = 1 by rw [x_B, if_pos (x_any_s.mpr (Or.inl hc35))])] at ih2; exact ih2) | (rw [(show (x_B (x_any (fun w : Nat => (e_oth one two w a = (t : Int) ∧ span w + Fx ((t : Int) * 8 + b) = Fx (a * 8 + b))) (w + 1) = true)) = 1 by rw [x_B, if_pos (x_any_s.mpr (Or.inr (And.intro hc46 hc79)))])] at ih2; exact ih2) | (rw [(show (x_B (x_any (fun w : Nat => (e_oth one two w a = (t : Int) ∧ span w + Fx ((t : Int) * 8 + b) = Fx (a * 8 + b))) (w + 1) = true)) = 0 by rw [x_B, if_neg (fun hh => (x_any_s.mp hh).elim hc35 (fun h2 => hc46 h2.1))])] at ih2; exact ih2) | (rw [(show (x_B (x_any (fun w : Nat => (e_oth one two w a = (t : Int) ∧ span w + Fx ((t : Int) * 8 + b) = Fx (a * 8 + b))) (w + 1) = true)) = 0 by rw [x_B, if_neg (fun hh => (x_any_s.mp hh).elim hc35 (fun h2 => hc79 h2.2))])] at ih2; exact ih2)
            · refine x_aload_n dX12_nextOn_49 x_get_6_0 ?_
              refine x_getR dX12_nextOn_50 fX_12_26 n62 s62 (by rfl) ?_
              refine x_iload dX12_nextOn_53 x_get_6_5 ?_
              refine x_iald dX12_nextOn_55 n67 s67 (by omega) (by omega) (by decide) ?_
              try simp (disch := decide) only [x_up_s, x_up_n, x_up_up, x_u1_s, x_u1_n, hW, e67, he]
              refine x_aload_n dX12_nextOn_56 x_get_6_0 ?_
              refine x_getR dX12_nextOn_57 fX_12_87 n62 s62 (by rfl) ?_
              refine x_bipush dX12_nextOn_60 rfl ?_
              refine x_iload_n dX12_nextOn_62 x_get_6_3 ?_
              refine x_imul dX12_nextOn_63 ?_
              refine x_iload_n dX12_nextOn_64 x_get_6_2 ?_
              refine x_iadd dX12_nextOn_65 ?_
              refine x_as_is (show 8 * (t : Int) + b = (t : Int) * 8 + b by omega) ?_
              refine x_iald dX12_nextOn_66 n86 s86 (by omega) (by omega) (by decide) ?_
              try simp (disch := decide) only [x_up_s, x_up_n, x_up_up, x_u1_s, x_u1_n, hW, e67, he]
              refine x_iadd dX12_nextOn_67 ?_
              refine x_aload_n dX12_nextOn_68 x_get_6_0 ?_
              refine x_getR dX12_nextOn_69 fX_12_87 n62 s62 (by rfl) ?_
              refine x_bipush dX12_nextOn_72 rfl ?_
              refine x_iload_n dX12_nextOn_74 x_get_6_1 ?_
              refine x_imul dX12_nextOn_75 ?_
              refine x_iload_n dX12_nextOn_76 x_get_6_2 ?_
              refine x_iadd dX12_nextOn_77 ?_
              refine x_as_is (show 8 * a + b = a * 8 + b by omega) ?_
              refine x_iald dX12_nextOn_78 n86 s86 (by omega) (by omega) (by decide) ?_
              try simp (disch := decide) only [x_up_s, x_up_n, x_up_up, x_u1_s, x_u1_n, hW, e67, he]
              refine r_icmp_ne (t := 86) dX12_nextOn_79 rfl ⟨by omega, by omega⟩ ⟨by omega, by omega⟩ (fun hc79 => ?_) (fun hc79 => ?_)
              · refine x_iconst dX12_nextOn_86 ?_
                refine x_istore dX12_nextOn_87 (Nat.le_of_ble_eq_true rfl) rfl x_set_6_4 ?_
                refine x_iinc dX12_nextOn_89 x_get_6_5 (Nat.le_of_ble_eq_true rfl) rfl x_set_6_5 ?_
                refine x_goto (t := 24) dX12_nextOn_92 rfl ?_
                first | (rw [(show (x_B (x_any (fun w : Nat => (e_oth one two w a = (t : Int) ∧ span w + Fx ((t : Int) * 8 + b) = Fx (a * 8 + b))) (w + 1) = true)) = 1 by rw [x_B, if_pos (x_any_s.mpr (Or.inl hc35))])] at ih2; exact ih2) | (rw [(show (x_B (x_any (fun w : Nat => (e_oth one two w a = (t : Int) ∧ span w + Fx ((t : Int) * 8 + b) = Fx (a * 8 + b))) (w + 1) = true)) = 1 by rw [x_B, if_pos (x_any_s.mpr (Or.inr (And.intro hc46 hc79)))])] at ih2; exact ih2) | (rw [(show (x_B (x_any (fun w : Nat => (e_oth one two w a = (t : Int) ∧ span w + Fx ((t : Int) * 8 + b) = Fx (a * 8 + b))) (w + 1) = true)) = 0 by rw [x_B, if_neg (fun hh => (x_any_s.mp hh).elim hc35 (fun h2 => hc46 h2.1))])] at ih2; exact ih2) | (rw [(show (x_B (x_any (fun w : Nat => (e_oth one two w a = (t : Int) ∧ span w + Fx ((t : Int) * 8 + b) = Fx (a * 8 + b))) (w + 1) = true)) = 0 by rw [x_B, if_neg (fun hh => (x_any_s.mp hh).elim hc35 (fun h2 => hc79 h2.2))])] at ih2; exact ih2)
              · refine x_iconst dX12_nextOn_82 ?_
                refine x_goto (t := 87) dX12_nextOn_83 rfl ?_
                refine x_istore dX12_nextOn_87 (Nat.le_of_ble_eq_true rfl) rfl x_set_6_4 ?_
                refine x_iinc dX12_nextOn_89 x_get_6_5 (Nat.le_of_ble_eq_true rfl) rfl x_set_6_5 ?_
                refine x_goto (t := 24) dX12_nextOn_92 rfl ?_
                first | (rw [(show (x_B (x_any (fun w : Nat => (e_oth one two w a = (t : Int) ∧ span w + Fx ((t : Int) * 8 + b) = Fx (a * 8 + b))) (w + 1) = true)) = 1 by rw [x_B, if_pos (x_any_s.mpr (Or.inl hc35))])] at ih2; exact ih2) | (rw [(show (x_B (x_any (fun w : Nat => (e_oth one two w a = (t : Int) ∧ span w + Fx ((t : Int) * 8 + b) = Fx (a * 8 + b))) (w + 1) = true)) = 1 by rw [x_B, if_pos (x_any_s.mpr (Or.inr (And.intro hc46 hc79)))])] at ih2; exact ih2) | (rw [(show (x_B (x_any (fun w : Nat => (e_oth one two w a = (t : Int) ∧ span w + Fx ((t : Int) * 8 + b) = Fx (a * 8 + b))) (w + 1) = true)) = 0 by rw [x_B, if_neg (fun hh => (x_any_s.mp hh).elim hc35 (fun h2 => hc46 h2.1))])] at ih2; exact ih2) | (rw [(show (x_B (x_any (fun w : Nat => (e_oth one two w a = (t : Int) ∧ span w + Fx ((t : Int) * 8 + b) = Fx (a * 8 + b))) (w + 1) = true)) = 0 by rw [x_B, if_neg (fun hh => (x_any_s.mp hh).elim hc35 (fun h2 => hc79 h2.2))])] at ih2; exact ih2)
      refine x_iload_n dX12_nextOn_2 x_get_6_3 ?_
      refine x_aload_n dX12_nextOn_3 x_get_6_0 ?_
      refine x_getI 1 dX12_nextOn_4 fX_12_281 rfl n62 s62 (by rfl) ?_
      try simp (disch := decide) only [x_up_s, x_up_n, x_up_up, x_u1_s, x_u1_n, hT]
      refine r_icmp_ge (t := 108) dX12_nextOn_7 rfl ⟨by omega, by omega⟩ ⟨by omega, by omega⟩ (fun hc7 => absurd hc7 (by omega)) (fun hc7 => ?_)
      refine x_iload_n dX12_nextOn_10 x_get_6_3 ?_
      refine x_iload_n dX12_nextOn_11 x_get_6_1 ?_
      refine r_icmp_ne (t := 18) dX12_nextOn_12 rfl ⟨by omega, by omega⟩ ⟨by omega, by omega⟩ (fun hc12 => ?_) (fun hc12 => ?_)
      · refine x_iconst dX12_nextOn_18 ?_
        refine x_istore dX12_nextOn_19 (Nat.le_of_ble_eq_true rfl) rfl x_set_6_4 ?_
        refine x_iconst dX12_nextOn_21 ?_
        refine x_istore dX12_nextOn_22 (Nat.le_of_ble_eq_true rfl) rfl x_set_6_5 ?_
        exact inner hc12 0 (Nat.zero_le _)
      · refine x_goto (t := 102) dX12_nextOn_15 rfl ?_
        refine x_iinc dX12_nextOn_102 x_get_6_3 (Nat.le_of_ble_eq_true rfl) rfl x_set_6_3 ?_
        refine x_goto (t := 2) dX12_nextOn_105 rfl ?_
        refine ih (fun j hj => ?_) _ _
        by_cases hjt : j = t
        · subst hjt; exact fun h => h.1 hc12
        · exact hp j (by omega)
  refine x_ofW (by decide +kernel) hl (by simp [Value.category]) (by simp) ?_
  refine x_iconst dX12_nextOn_0 ?_
  refine x_istore_n dX12_nextOn_1 (Nat.le_of_ble_eq_true rfl) rfl x_set_6_3 ?_
  exact hloop 0 (Nat.zero_le _) (fun j hj => by omega) _ _
set_option maxHeartbeats 8000000 in
theorem m_row {X : xC} {l : Launch} (hl : l.stackTraces = false) {N : Nat} {sh : xS} {D : xM} {T C W : Nat} {G : Ldt} (hq : mq N sh D T C W G) {B : Int} {f : Int → Int} (hk : s_ok B f) (hB : B ≤ 200000) (hr : mr T C f (D 82) 0) (hv84 : ∀ j, x_r (D 84 j)) {one two span loss : Int → Int} (hw : mwy D W one two span loss) (hst : ∀ s b : Int, 0 ≤ s → s < T → 0 ≤ b → b < T → ¬ s = b → (f_M one two span (-1) W T) (s * 8 + b) < 99999 → (0 ≤ x_next one two span (f_M one two span (-1) W T) W T s b ∧ x_next one two span (f_M one two span (-1) W T) W T s b < T) ∧ (f_M one two span (-1) W T) (x_next one two span (f_M one two span (-1) W T) W T s b * 8 + b) < 99999) {a b i : Int} (har : x_r a) (hbr : x_r b) (hir : x_r i) : x_M X l yX12_row cX12_row 6 (some .int) 4 0 0 [.ref (x_b X + 62), .int (xI a), .int (xI b), .int (xI i)] false N sh D (m_r (q_2t T a b (if 0 ≤ i ∧ (f_M one two span (-1) W T) (a * 8 + b) < 99999 then (if (x_wk (fun s => x_next one two span (f_M one two span (-1) W T) W T s b) b i.toNat a).2 = 0 then o_i (x_wk (fun s => x_next one two span (f_M one two span (-1) W T) W T s b) b i.toNat a).1 else .inr x_NSE) else .inr x_NSE))) false N sh (fun d => ms D d ∧ d 62 0 = m_k 1 (q_2t T a b (if 0 ≤ i ∧ (f_M one two span (-1) W T) (a * 8 + b) < 99999 then (if (x_wk (fun s => x_next one two span (f_M one two span (-1) W T) W T s b) b i.toNat a).2 = 0 then o_i (x_wk (fun s => x_next one two span (f_M one two span (-1) W T) W T s b) b i.toNat a).1 else .inr x_NSE) else .inr x_NSE))) := by
  obtain ⟨hM, hT, hTb, hW, hWb, hC, hCb, hmk, ⟨hG1, hG2, hG3⟩, hod⟩ := id hq
  have s62 := md_62 hM
  have n62 : 62 < N := md_n hM (by decide)
  have s86 := md_86 hM
  have n86 : 86 < N := md_n hM (by decide)
  obtain ⟨hv1, hv2⟩ := mwy_v hw
  obtain ⟨hir0, hir1⟩ := id hir
  unfold q_2t
  by_cases ha : 0 ≤ a ∧ a < T
  · rw [if_pos ha]
    obtain ⟨ha0, ha1⟩ := id ha
    by_cases hb : 0 ≤ b ∧ b < T
    · rw [if_pos hb]
      obtain ⟨hb0, hb1⟩ := id hb
      have hfo := f_M_ok (one := one) (two := two) (but := (-1)) (W := W) (T := T) hv1
      have hfab := hfo (a * 8 + b)
      by_cases hi : 0 ≤ i ∧ (f_M one two span (-1) W T) (a * 8 + b) < 99999
      · rw [if_pos hi]
        obtain ⟨n, rfl⟩ := Int.eq_ofNat_of_zero_le hi.1
        rw [Int.toNat_natCast]
        generalize hres : (x_wk (fun s => x_next one two span (f_M one two span (-1) W T) W T s b) b n a) = res
        refine x_ofW (by decide +kernel) hl (by simp [Value.category]) (by simp) ?_
        refine x_aload_n dX12_row_0 x_get_6_0 ?_
        refine x_iconst dX12_row_1 ?_
        refine x_putI 0 dX12_row_2 fX_12_117 rfl tX_12_0 n62 s62 (by rfl) ?_
        have z0 := m_go0 hq hr hv84
        generalize x_up D 62 (x_u1 (D 62) 0 0) = d0 at z0 ⊢
        obtain ⟨q0, t0, ms0, r0, v0⟩ := z0
        have w0 : mwy d0 W one two span loss := mwy_of hw (fun j a b => ms0.1 j (by omega) (by omega) (by omega) (by omega) (by omega))
        refine x_aload_n dX12_row_5 x_get_6_0 ?_
        refine x_iload_n dX12_row_6 x_get_6_1 ?_
        refine x_callV (As := [_]) dX12_row_7 w_12_362 (m_isTownT hl q0 t0 ha) (by assumption) (by assumption) rfl rfl (Nat.le_of_ble_eq_true rfl) (Nat.le_of_ble_eq_true rfl) (Nat.le_of_ble_eq_true rfl) (Nat.le_of_ble_eq_true rfl) (Nat.le_of_ble_eq_true rfl) ?_
        intro dz hdz
        obtain rfl := Eq.symm hdz
        refine r_if_eq (t := 21) dX12_row_10 rfl ⟨by omega, by omega⟩ (fun hc10 => absurd hc10 (by omega)) (fun hc10 => ?_)
        refine x_aload_n dX12_row_13 x_get_6_0 ?_
        refine x_iload_n dX12_row_14 x_get_6_2 ?_
        refine x_callV (As := [_]) dX12_row_15 w_12_362 (m_isTownT hl q0 t0 hb) (by assumption) (by assumption) rfl rfl (Nat.le_of_ble_eq_true rfl) (Nat.le_of_ble_eq_true rfl) (Nat.le_of_ble_eq_true rfl) (Nat.le_of_ble_eq_true rfl) (Nat.le_of_ble_eq_true rfl) ?_
        intro dz hdz
        obtain rfl := Eq.symm hdz
        refine r_if_ne (t := 23) dX12_row_18 rfl ⟨by omega, by omega⟩ (fun hc18 => ?_) (fun hc18 => absurd hc18 (by omega))
        refine x_aload_n dX12_row_23 x_get_6_0 ?_
        refine x_iconst dX12_row_24 ?_
        refine x_callV (As := [_]) dX12_row_25 w_12_396 (m_measures hl q0 w0 (but := (-1)) ⟨by decide, by decide⟩) (by assumption) (by assumption) rfl rfl (Nat.le_of_ble_eq_true rfl) (Nat.le_of_ble_eq_true rfl) (Nat.le_of_ble_eq_true rfl) (Nat.le_of_ble_eq_true rfl) (Nat.le_of_ble_eq_true rfl) ?_
        rintro d1 hd1
        have m1 : ms d0 d1 := by rw [hd1]; exact ms_fl (ms_rf v0)
        have q1 := ms_mq q0 m1
        have e86 : d1 86 = f_M one two span (-1) W T := by rw [hd1, x_up_n (by decide), x_up_s]
        have e87 : d1 87 = f_M one two (fun w => span w * loss w) (-1) W T := by rw [hd1, x_up_s]
        have t1 : d1 62 0 = 0 := by rw [hd1, x_up_n (by decide), x_up_n (by decide)]; exact t0
        have w1 : mwy d1 W one two span loss := mwy_of w0 (fun j a b => by rw [hd1, x_up_n (by omega), x_up_n (by omega)])
        skip
        have hloop : ∀ (m k : Nat) (s : Int), (k : Int) + m = n → 0 ≤ s → s < T → (f_M one two span (-1) W T) (s * 8 + b) < 99999 → (x_wk (fun s => x_next one two span (f_M one two span (-1) W T) W T s b) b m s) = res → x_W (X, l, yX12_row, cX12_row, 6, (some .int), x_room 4 0 0, 0, 0, (m_r (if res.2 = 0 then o_i res.1 else .inr x_NSE)), N, sh, (fun d => ms D d ∧ d 62 0 = m_k 1 (if res.2 = 0 then o_i res.1 else .inr x_NSE)), false, []) 70 [some (.ref (x_b X + 62)), some (.int (xI a)), some (.int (xI b)), some (.int (xI (n : Int))), some (.int (xI s)), some (.int (xI (k : Int)))] [] 0 0 false N sh d1 := by
          intro m
          induction m with
          | zero =>
            intro k s hkm h0 h1 hf hr2
            have hres2 : res = (s, 0) := hr2.symm
            subst hres2
            refine x_iload dX12_row_70 x_get_6_5 ?_
            refine x_iload_n dX12_row_72 x_get_6_3 ?_
            refine r_icmp_ge (t := 97) dX12_row_73 rfl ⟨by omega, by omega⟩ ⟨by omega, by omega⟩ (fun hc73 => ?_) (fun hc73 => absurd hc73 (by omega))
            refine x_aload_n dX12_row_97 x_get_6_0 ?_
            refine x_iload dX12_row_98 x_get_6_5 ?_
            refine x_iload_n dX12_row_100 x_get_6_3 ?_
            refine r_icmp_ne (t := 108) dX12_row_101 rfl ⟨by omega, by omega⟩ ⟨by omega, by omega⟩ (fun hc101 => absurd hc101 (by omega)) (fun hc101 => ?_)
            refine x_iconst dX12_row_104 ?_
            refine x_goto (t := 109) dX12_row_105 rfl ?_
            refine x_iconst dX12_row_109 ?_
            refine x_callV (As := [_, _]) dX12_row_110 w_12_274 (m_rightT hl q1.1 t1) (by assumption) (by assumption) rfl rfl (Nat.le_of_ble_eq_true rfl) (Nat.le_of_ble_eq_true rfl) (Nat.le_of_ble_eq_true rfl) (Nat.le_of_ble_eq_true rfl) (Nat.le_of_ble_eq_true rfl) ?_
            intro dz hdz
            obtain rfl := Eq.symm hdz
            refine r_if_eq (t := 121) dX12_row_113 rfl ⟨by omega, by omega⟩ (fun hc113 => absurd hc113 (by omega)) (fun hc113 => ?_)
            refine x_iload dX12_row_116 x_get_6_4 ?_
            refine x_goto (t := 122) dX12_row_118 rfl ?_
            exact x_iret dX12_row_122 rfl (Nat.le_of_ble_eq_true rfl) (Nat.le_of_ble_eq_true rfl) (by rw [if_pos rfl, m_r_i]) rfl rfl ⟨ms_tr ms0 m1, by rw [if_pos rfl, m_k_i]; exact t1⟩ rfl
          | succ m ih =>
            intro k s hkm h0 h1 hf hr2
            rw [x_wk] at hr2
            by_cases hsb : s = b
            · rw [if_pos hsb] at hr2
              have hres2 : res = (s, m + 1) := hr2.symm
              subst hres2
              refine x_iload dX12_row_70 x_get_6_5 ?_
              refine x_iload_n dX12_row_72 x_get_6_3 ?_
              refine r_icmp_ge (t := 97) dX12_row_73 rfl ⟨by omega, by omega⟩ ⟨by omega, by omega⟩ (fun hc73 => absurd hc73 (by omega)) (fun hc73 => ?_)
              refine x_iload dX12_row_76 x_get_6_4 ?_
              refine x_iload_n dX12_row_78 x_get_6_2 ?_
              refine r_icmp_eq (t := 97) dX12_row_79 rfl ⟨by omega, by omega⟩ ⟨by omega, by omega⟩ (fun hc79 => ?_) (fun hc79 => absurd hc79 (by omega))
              refine x_aload_n dX12_row_97 x_get_6_0 ?_
              refine x_iload dX12_row_98 x_get_6_5 ?_
              refine x_iload_n dX12_row_100 x_get_6_3 ?_
              refine r_icmp_ne (t := 108) dX12_row_101 rfl ⟨by omega, by omega⟩ ⟨by omega, by omega⟩ (fun hc101 => ?_) (fun hc101 => absurd hc101 (by omega))
              refine x_iconst dX12_row_108 ?_
              refine x_iconst dX12_row_109 ?_
              refine x_callV (As := [_, _]) dX12_row_110 w_12_274 (m_rightF hl q1.1 t1 (by decide) (by decide)) (by assumption) (by assumption) rfl rfl (Nat.le_of_ble_eq_true rfl) (Nat.le_of_ble_eq_true rfl) (Nat.le_of_ble_eq_true rfl) (Nat.le_of_ble_eq_true rfl) (Nat.le_of_ble_eq_true rfl) ?_
              intro dz hdz
              obtain rfl := Eq.symm hdz
              refine r_if_eq (t := 121) dX12_row_113 rfl ⟨by omega, by omega⟩ (fun hc113 => ?_) (fun hc113 => absurd hc113 (by omega))
              refine x_iconst dX12_row_121 ?_
              exact x_iret dX12_row_122 rfl (Nat.le_of_ble_eq_true rfl) (Nat.le_of_ble_eq_true rfl) (by rw [if_neg (by simp)]; rfl) rfl rfl ⟨ms_tr ms0 (ms_thr m1), by rw [if_neg (by simp), m_k_N, x_up_s, x_u1_s]⟩ rfl
            · rw [if_neg hsb] at hr2
              obtain ⟨⟨n0, n1⟩, n2⟩ := hst s b h0 h1 hb0 hb1 hsb hf
              refine x_iload dX12_row_70 x_get_6_5 ?_
              refine x_iload_n dX12_row_72 x_get_6_3 ?_
              refine r_icmp_ge (t := 97) dX12_row_73 rfl ⟨by omega, by omega⟩ ⟨by omega, by omega⟩ (fun hc73 => absurd hc73 (by omega)) (fun hc73 => ?_)
              refine x_iload dX12_row_76 x_get_6_4 ?_
              refine x_iload_n dX12_row_78 x_get_6_2 ?_
              refine r_icmp_eq (t := 97) dX12_row_79 rfl ⟨by omega, by omega⟩ ⟨by omega, by omega⟩ (fun hc79 => absurd hc79 (by omega)) (fun hc79 => ?_)
              refine x_aload_n dX12_row_82 x_get_6_0 ?_
              refine x_iload dX12_row_83 x_get_6_4 ?_
              refine x_iload_n dX12_row_85 x_get_6_2 ?_
              refine x_callV (As := [_, _]) dX12_row_86 w_12_405 (m_nextOn hl q1 w1 e86 hfo h0 h1 hb0 hb1) (by assumption) (by assumption) rfl rfl (Nat.le_of_ble_eq_true rfl) (Nat.le_of_ble_eq_true rfl) (Nat.le_of_ble_eq_true rfl) (Nat.le_of_ble_eq_true rfl) (Nat.le_of_ble_eq_true rfl) ?_
              intro dz hdz
              obtain rfl := Eq.symm hdz
              refine x_istore dX12_row_89 (Nat.le_of_ble_eq_true rfl) rfl x_set_6_4 ?_
              refine x_iinc dX12_row_91 x_get_6_5 (Nat.le_of_ble_eq_true rfl) rfl x_set_6_5 ?_
              refine x_goto (t := 70) dX12_row_94 rfl ?_
              exact ih (k + 1) _ (by push_cast; omega) n0 n1 n2 hr2
        refine x_aload_n dX12_row_28 x_get_6_0 ?_
        refine x_iload_n dX12_row_29 x_get_6_3 ?_
        refine r_if_lt (t := 54) dX12_row_30 rfl ⟨by omega, by omega⟩ (fun hc30 => absurd hc30 (by omega)) (fun hc30 => ?_)
        refine x_aload_n dX12_row_33 x_get_6_0 ?_
        refine x_getR dX12_row_34 fX_12_87 n62 s62 (by rfl) ?_
        refine x_bipush dX12_row_37 rfl ?_
        refine x_iload_n dX12_row_39 x_get_6_1 ?_
        refine x_imul dX12_row_40 ?_
        refine x_iload_n dX12_row_41 x_get_6_2 ?_
        refine x_iadd dX12_row_42 ?_
        refine x_as_is (show 8 * a + b = a * 8 + b by omega) ?_
        refine x_iald dX12_row_43 n86 s86 (by omega) (by omega) (by decide) ?_
        try simp (disch := decide) only [x_up_s, x_up_n, x_up_up, x_u1_s, x_u1_n, e86]
        refine x_ldcw (z := 99999) dX12_row_44 k_RX12_395 ?_
        refine r_icmp_ge (t := 54) dX12_row_47 rfl ⟨by omega, by omega⟩ ⟨by omega, by omega⟩ (fun hc47 => absurd hc47 (by omega)) (fun hc47 => ?_)
        refine x_iconst dX12_row_50 ?_
        refine x_goto (t := 55) dX12_row_51 rfl ?_
        refine x_iconst dX12_row_55 ?_
        refine x_callV (As := [_, _]) dX12_row_56 w_12_274 (m_rightT hl q1.1 t1) (by assumption) (by assumption) rfl rfl (Nat.le_of_ble_eq_true rfl) (Nat.le_of_ble_eq_true rfl) (Nat.le_of_ble_eq_true rfl) (Nat.le_of_ble_eq_true rfl) (Nat.le_of_ble_eq_true rfl) ?_
        intro dz hdz
        obtain rfl := Eq.symm hdz
        refine r_if_ne (t := 64) dX12_row_59 rfl ⟨by omega, by omega⟩ (fun hc59 => ?_) (fun hc59 => absurd hc59 (by omega))
        refine x_iload_n dX12_row_64 x_get_6_1 ?_
        refine x_istore dX12_row_65 (Nat.le_of_ble_eq_true rfl) rfl x_set_6_4 ?_
        refine x_iconst dX12_row_67 ?_
        refine x_istore dX12_row_68 (Nat.le_of_ble_eq_true rfl) rfl x_set_6_5 ?_
        exact hloop n 0 a (by omega) ha0 ha1 hi.2 hres
      · rw [if_neg hi]
        refine x_ofW (by decide +kernel) hl (by simp [Value.category]) (by simp) ?_
        refine x_aload_n dX12_row_0 x_get_6_0 ?_
        refine x_iconst dX12_row_1 ?_
        refine x_putI 0 dX12_row_2 fX_12_117 rfl tX_12_0 n62 s62 (by rfl) ?_
        have z0 := m_go0 hq hr hv84
        generalize x_up D 62 (x_u1 (D 62) 0 0) = d0 at z0 ⊢
        obtain ⟨q0, t0, ms0, r0, v0⟩ := z0
        have w0 : mwy d0 W one two span loss := mwy_of hw (fun j a b => ms0.1 j (by omega) (by omega) (by omega) (by omega) (by omega))
        refine x_aload_n dX12_row_5 x_get_6_0 ?_
        refine x_iload_n dX12_row_6 x_get_6_1 ?_
        refine x_callV (As := [_]) dX12_row_7 w_12_362 (m_isTownT hl q0 t0 ha) (by assumption) (by assumption) rfl rfl (Nat.le_of_ble_eq_true rfl) (Nat.le_of_ble_eq_true rfl) (Nat.le_of_ble_eq_true rfl) (Nat.le_of_ble_eq_true rfl) (Nat.le_of_ble_eq_true rfl) ?_
        intro dz hdz
        obtain rfl := Eq.symm hdz
        refine r_if_eq (t := 21) dX12_row_10 rfl ⟨by omega, by omega⟩ (fun hc10 => absurd hc10 (by omega)) (fun hc10 => ?_)
        refine x_aload_n dX12_row_13 x_get_6_0 ?_
        refine x_iload_n dX12_row_14 x_get_6_2 ?_
        refine x_callV (As := [_]) dX12_row_15 w_12_362 (m_isTownT hl q0 t0 hb) (by assumption) (by assumption) rfl rfl (Nat.le_of_ble_eq_true rfl) (Nat.le_of_ble_eq_true rfl) (Nat.le_of_ble_eq_true rfl) (Nat.le_of_ble_eq_true rfl) (Nat.le_of_ble_eq_true rfl) ?_
        intro dz hdz
        obtain rfl := Eq.symm hdz
        refine r_if_ne (t := 23) dX12_row_18 rfl ⟨by omega, by omega⟩ (fun hc18 => ?_) (fun hc18 => absurd hc18 (by omega))
        refine x_aload_n dX12_row_23 x_get_6_0 ?_
        refine x_iconst dX12_row_24 ?_
        refine x_callV (As := [_]) dX12_row_25 w_12_396 (m_measures hl q0 w0 (but := (-1)) ⟨by decide, by decide⟩) (by assumption) (by assumption) rfl rfl (Nat.le_of_ble_eq_true rfl) (Nat.le_of_ble_eq_true rfl) (Nat.le_of_ble_eq_true rfl) (Nat.le_of_ble_eq_true rfl) (Nat.le_of_ble_eq_true rfl) ?_
        rintro d1 hd1
        have m1 : ms d0 d1 := by rw [hd1]; exact ms_fl (ms_rf v0)
        have q1 := ms_mq q0 m1
        have e86 : d1 86 = f_M one two span (-1) W T := by rw [hd1, x_up_n (by decide), x_up_s]
        have e87 : d1 87 = f_M one two (fun w => span w * loss w) (-1) W T := by rw [hd1, x_up_s]
        have t1 : d1 62 0 = 0 := by rw [hd1, x_up_n (by decide), x_up_n (by decide)]; exact t0
        have w1 : mwy d1 W one two span loss := mwy_of w0 (fun j a b => by rw [hd1, x_up_n (by omega), x_up_n (by omega)])
        skip
        refine x_aload_n dX12_row_28 x_get_6_0 ?_
        refine x_iload_n dX12_row_29 x_get_6_3 ?_
        refine r_if_lt (t := 54) dX12_row_30 rfl ⟨by omega, by omega⟩ (fun hc30 => ?_) (fun hc30 => ?_)
        · refine x_iconst dX12_row_54 ?_
          refine x_iconst dX12_row_55 ?_
          refine x_callV (As := [_, _]) dX12_row_56 w_12_274 (m_rightF hl q1.1 t1 (by decide) (by decide)) (by assumption) (by assumption) rfl rfl (Nat.le_of_ble_eq_true rfl) (Nat.le_of_ble_eq_true rfl) (Nat.le_of_ble_eq_true rfl) (Nat.le_of_ble_eq_true rfl) (Nat.le_of_ble_eq_true rfl) ?_
          intro dz hdz
          obtain rfl := Eq.symm hdz
          refine r_if_ne (t := 64) dX12_row_59 rfl ⟨by omega, by omega⟩ (fun hc59 => absurd hc59 (by omega)) (fun hc59 => ?_)
          refine x_iconst dX12_row_62 ?_
          exact x_iret dX12_row_63 rfl (Nat.le_of_ble_eq_true rfl) (Nat.le_of_ble_eq_true rfl) rfl rfl rfl ⟨ms_tr ms0 (ms_thr m1), by rw [x_up_s, x_u1_s, m_k_N]⟩ rfl
        · refine x_aload_n dX12_row_33 x_get_6_0 ?_
          refine x_getR dX12_row_34 fX_12_87 n62 s62 (by rfl) ?_
          refine x_bipush dX12_row_37 rfl ?_
          refine x_iload_n dX12_row_39 x_get_6_1 ?_
          refine x_imul dX12_row_40 ?_
          refine x_iload_n dX12_row_41 x_get_6_2 ?_
          refine x_iadd dX12_row_42 ?_
          refine x_as_is (show 8 * a + b = a * 8 + b by omega) ?_
          refine x_iald dX12_row_43 n86 s86 (by omega) (by omega) (by decide) ?_
          try simp (disch := decide) only [x_up_s, x_up_n, x_up_up, x_u1_s, x_u1_n, e86]
          refine x_ldcw (z := 99999) dX12_row_44 k_RX12_395 ?_
          refine r_icmp_ge (t := 54) dX12_row_47 rfl ⟨by omega, by omega⟩ ⟨by omega, by omega⟩ (fun hc47 => ?_) (fun hc47 => absurd hc47 (by omega))
          refine x_iconst dX12_row_54 ?_
          refine x_iconst dX12_row_55 ?_
          refine x_callV (As := [_, _]) dX12_row_56 w_12_274 (m_rightF hl q1.1 t1 (by decide) (by decide)) (by assumption) (by assumption) rfl rfl (Nat.le_of_ble_eq_true rfl) (Nat.le_of_ble_eq_true rfl) (Nat.le_of_ble_eq_true rfl) (Nat.le_of_ble_eq_true rfl) (Nat.le_of_ble_eq_true rfl) ?_
          intro dz hdz
          obtain rfl := Eq.symm hdz
          refine r_if_ne (t := 64) dX12_row_59 rfl ⟨by omega, by omega⟩ (fun hc59 => absurd hc59 (by omega)) (fun hc59 => ?_)
          refine x_iconst dX12_row_62 ?_
          exact x_iret dX12_row_63 rfl (Nat.le_of_ble_eq_true rfl) (Nat.le_of_ble_eq_true rfl) rfl rfl rfl ⟨ms_tr ms0 (ms_thr m1), by rw [x_up_s, x_u1_s, m_k_N]⟩ rfl
    · rw [if_neg hb]
      refine x_ofW (by decide +kernel) hl (by simp [Value.category]) (by simp) ?_
      refine x_aload_n dX12_row_0 x_get_6_0 ?_
      refine x_iconst dX12_row_1 ?_
      refine x_putI 0 dX12_row_2 fX_12_117 rfl tX_12_0 n62 s62 (by rfl) ?_
      have z0 := m_go0 hq hr hv84
      generalize x_up D 62 (x_u1 (D 62) 0 0) = d0 at z0 ⊢
      obtain ⟨q0, t0, ms0, r0, v0⟩ := z0
      refine x_aload_n dX12_row_5 x_get_6_0 ?_
      refine x_iload_n dX12_row_6 x_get_6_1 ?_
      refine x_callV (As := [_]) dX12_row_7 w_12_362 (m_isTownT hl q0 t0 ha) (by assumption) (by assumption) rfl rfl (Nat.le_of_ble_eq_true rfl) (Nat.le_of_ble_eq_true rfl) (Nat.le_of_ble_eq_true rfl) (Nat.le_of_ble_eq_true rfl) (Nat.le_of_ble_eq_true rfl) ?_
      intro dz hdz
      obtain rfl := Eq.symm hdz
      refine r_if_eq (t := 21) dX12_row_10 rfl ⟨by omega, by omega⟩ (fun hc10 => absurd hc10 (by omega)) (fun hc10 => ?_)
      refine x_aload_n dX12_row_13 x_get_6_0 ?_
      refine x_iload_n dX12_row_14 x_get_6_2 ?_
      refine x_callV (As := [_]) dX12_row_15 w_12_362 (m_isTownF hl q0 t0 hbr hb) (by assumption) (by assumption) rfl rfl (Nat.le_of_ble_eq_true rfl) (Nat.le_of_ble_eq_true rfl) (Nat.le_of_ble_eq_true rfl) (Nat.le_of_ble_eq_true rfl) (Nat.le_of_ble_eq_true rfl) ?_
      intro dz hdz
      obtain rfl := Eq.symm hdz
      refine r_if_ne (t := 23) dX12_row_18 rfl ⟨by omega, by omega⟩ (fun hc18 => absurd hc18 (by omega)) (fun hc18 => ?_)
      refine x_iconst dX12_row_21 ?_
      exact x_iret dX12_row_22 rfl (Nat.le_of_ble_eq_true rfl) (Nat.le_of_ble_eq_true rfl) rfl rfl rfl ⟨ms_thr ms0, by rw [x_up_s, x_u1_s, m_k_N]⟩ rfl
  · rw [if_neg ha]
    refine x_ofW (by decide +kernel) hl (by simp [Value.category]) (by simp) ?_
    refine x_aload_n dX12_row_0 x_get_6_0 ?_
    refine x_iconst dX12_row_1 ?_
    refine x_putI 0 dX12_row_2 fX_12_117 rfl tX_12_0 n62 s62 (by rfl) ?_
    have z0 := m_go0 hq hr hv84
    generalize x_up D 62 (x_u1 (D 62) 0 0) = d0 at z0 ⊢
    obtain ⟨q0, t0, ms0, r0, v0⟩ := z0
    refine x_aload_n dX12_row_5 x_get_6_0 ?_
    refine x_iload_n dX12_row_6 x_get_6_1 ?_
    refine x_callV (As := [_]) dX12_row_7 w_12_362 (m_isTownF hl q0 t0 har ha) (by assumption) (by assumption) rfl rfl (Nat.le_of_ble_eq_true rfl) (Nat.le_of_ble_eq_true rfl) (Nat.le_of_ble_eq_true rfl) (Nat.le_of_ble_eq_true rfl) (Nat.le_of_ble_eq_true rfl) ?_
    intro dz hdz
    obtain rfl := Eq.symm hdz
    refine r_if_eq (t := 21) dX12_row_10 rfl ⟨by omega, by omega⟩ (fun hc10 => ?_) (fun hc10 => absurd hc10 (by omega))
    refine x_iconst dX12_row_21 ?_
    exact x_iret dX12_row_22 rfl (Nat.le_of_ble_eq_true rfl) (Nat.le_of_ble_eq_true rfl) rfl rfl rfl ⟨ms_thr ms0, by rw [x_up_s, x_u1_s, m_k_N]⟩ rfl
end M75
