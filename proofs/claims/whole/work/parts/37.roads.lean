section C37
/-! the ways, and what is shortest by them -/
def is_Ro (N : Nat) (sh : xS) (ro : Nat) : Prop := ro + 6 < N ∧ sh ro = .inr (6, [0, 0, ro + 1 + 3, ro + 2 + 3, ro + 3 + 3, ro + 4 + 3, ro + 5 + 3, ro + 6 + 3]) ∧ sh (ro + 1) = .inl (0, 12) ∧ sh (ro + 2) = .inl (0, 12) ∧ sh (ro + 3) = .inl (0, 12) ∧ sh (ro + 4) = .inl (0, 12) ∧ sh (ro + 5) = .inl (0, 64) ∧ sh (ro + 6) = .inl (0, 64)
theorem is_L_ro {N : Nat} {sh : xS} {la : Nat} (h : is_L N sh la) : is_Ro N sh (la + 3) := ⟨by have := h.1; omega, h.2.2.2.2.1, h.2.2.2.2.2.1⟩
def rd (D : xM) (ro W T : Nat) : Prop := D ro 0 = W ∧ W ≤ 12 ∧ D ro 1 = T ∧ T ≤ 8 ∧ (∀ j, 0 ≤ D (ro + 1) j ∧ D (ro + 1) j ≤ 7) ∧ (∀ j, 0 ≤ D (ro + 2) j ∧ D (ro + 2) j ≤ 7) ∧ (∀ j, 0 ≤ D (ro + 3) j ∧ D (ro + 3) j ≤ 9) ∧ (∀ j, 0 ≤ D (ro + 4) j ∧ D (ro + 4) j ≤ 9) ∧ (∀ j, 0 ≤ D (ro + 5) j ∧ D (ro + 5) j ≤ 1000000) ∧ (∀ j, 0 ≤ D (ro + 6) j ∧ D (ro + 6) j ≤ 1000000)
theorem x_rb {x K : Int} (h : 0 ≤ x ∧ x ≤ K) (hK : K ≤ 100000000) : x_r x := ⟨by omega, by omega⟩
def e_oth (one two : Int → Int) (w t : Int) : Int := if one w = t then two w else if two w = t then one w else -1
def e_btw (one two : Int → Int) (W : Nat) (a b : Int) : Int := x_first (fun w => e_oth one two w a = b) W
def m_ini (F : Int) : Int → Int := fun i => if i / 8 = i % 8 then 0 else F
def m_set (one two : Int → Int) (v : Int) (g : Int → Int) (w : Int) : Int → Int := x_u1 (x_u1 g (one w * 8 + two w) v) (two w * 8 + one w) v
def m_ways (F : Int) (one two v : Int → Int) : Nat → Int → Int
  | 0 => m_ini F
  | w + 1 => m_set one two (v w) (m_ways F one two v w) w
def m_min1 (g : Int → Int) (m a b : Int) : Int → Int := x_u1 g (a * 8 + b) (min (g (a * 8 + b)) (g (a * 8 + m) + g (m * 8 + b)))
def m_b (g : Int → Int) (m a : Int) : Nat → Int → Int
  | 0 => g
  | b + 1 => m_min1 (m_b g m a b) m a b
def m_a (g : Int → Int) (m : Int) (T : Nat) : Nat → Int → Int
  | 0 => g
  | a + 1 => m_b (m_a g m T a) m a T
def m_m (g : Int → Int) (T : Nat) : Nat → Int → Int
  | 0 => g
  | m + 1 => m_a (m_m g T m) m T T
def m_fw (F : Int) (one two v : Int → Int) (W T : Nat) : Int → Int := m_m (m_ways F one two v W) T T
def m_ok (F : Int) (g : Int → Int) : Prop := ∀ j, 0 ≤ g j ∧ g j ≤ F
theorem m_ok_u1 {F : Int} {g : Int → Int} (h : m_ok F g) {i v : Int} (h0 : 0 ≤ v) (h1 : v ≤ F) : m_ok F (x_u1 g i v) := by
  intro j
  unfold x_u1
  split
  · exact ⟨h0, h1⟩
  · exact h j
theorem m_ok_min1 {F : Int} {g : Int → Int} (h : m_ok F g) (m a b : Int) : m_ok F (m_min1 g m a b) := by
  have h1 := h (a * 8 + b)
  have h2 := h (a * 8 + m)
  have h3 := h (m * 8 + b)
  exact m_ok_u1 h (by omega) (by omega)
theorem m_ok_b {F : Int} {g : Int → Int} (h : m_ok F g) (m a : Int) : ∀ b : Nat, m_ok F (m_b g m a b)
  | 0 => h
  | b + 1 => m_ok_min1 (m_ok_b h m a b) m a b
theorem m_ok_a {F : Int} {g : Int → Int} (h : m_ok F g) (m : Int) (T : Nat) : ∀ a : Nat, m_ok F (m_a g m T a)
  | 0 => h
  | a + 1 => m_ok_b (m_ok_a h m T a) m a T
theorem m_ok_m {F : Int} {g : Int → Int} (h : m_ok F g) (T : Nat) : ∀ m : Nat, m_ok F (m_m g T m)
  | 0 => h
  | m + 1 => m_ok_a (m_ok_m h T m) m T T
theorem m_ok_ini {F : Int} (hF : 0 ≤ F) : m_ok F (m_ini F) := by
  intro j
  unfold m_ini
  split <;> omega
theorem m_ok_ways {F : Int} (hF : 0 ≤ F) {one two v : Int → Int} (hv : ∀ j, 0 ≤ v j ∧ v j ≤ F) : ∀ w : Nat, m_ok F (m_ways F one two v w)
  | 0 => m_ok_ini hF
  | w + 1 => m_ok_u1 (m_ok_u1 (m_ok_ways hF hv w) (hv _).1 (hv _).2) (hv _).1 (hv _).2
def e_step (one two span days : Int → Int) (W T : Nat) (a t : Int) : Int := if a = t then -1 else x_first (fun s => ¬ e_btw one two W a s = -1 ∧ span (e_btw one two W a s) + days (s * 8 + t) = days (a * 8 + t)) T
def e_walk (step : Int → Int) : Nat → Int → Int
  | 0, a => a
  | n + 1, a => if step a = -1 then -1 else e_walk step n (step a)
def e_along (one two span days : Int → Int) (W T : Nat) (a t i : Int) : Int := if i < 0 ∨ 8 ≤ i ∨ 1000000 ≤ days (a * 8 + t) then -1 else e_walk (fun s => e_step one two span days W T s t) i.toNat a
def e_mid (F : Int) (days : Int → Int) (T : Nat) : Nat → Int × Int
  | 0 => (-1, F)
  | t + 1 => if x_mx (fun o => days (t * 8 + o)) T < (e_mid F days T t).2 then ((t : Int), x_mx (fun o => days (t * 8 + o)) T) else e_mid F days T t
def p_ends (one two : Int → Int) (w : Int) : Nat := 2 ^ (one w).toNat ||| 2 ^ (two w).toNat
def p_rw (one two : Int → Int) (way : Int) (r : Nat) : Nat → Nat
  | 0 => r
  | w + 1 => if ¬ (w : Int) = way ∧ ¬ p_rw one two way r w &&& p_ends one two w = 0 then p_rw one two way r w ||| p_ends one two w else p_rw one two way r w
def p_rr (one two : Int → Int) (way : Int) (W : Nat) (r : Nat) : Nat → Nat
  | 0 => r
  | k + 1 => p_rw one two way (p_rr one two way W r k) W
theorem p_ends_lt {one two : Int → Int} (h1 : ∀ j, 0 ≤ one j ∧ one j ≤ 7) (h2 : ∀ j, 0 ≤ two j ∧ two j ≤ 7) (w : Int) : p_ends one two w < 2 ^ 8 := by
  have a1 := h1 w
  have a2 := h2 w
  exact Nat.or_lt_two_pow (Nat.pow_lt_pow_right (by decide) (by omega)) (Nat.pow_lt_pow_right (by decide) (by omega))
theorem p_rw_lt {one two : Int → Int} (h1 : ∀ j, 0 ≤ one j ∧ one j ≤ 7) (h2 : ∀ j, 0 ≤ two j ∧ two j ≤ 7) {way : Int} {r : Nat} (hr : r < 2 ^ 8) : ∀ w, p_rw one two way r w < 2 ^ 8
  | 0 => hr
  | w + 1 => by
    have := p_rw_lt h1 h2 (way := way) hr w
    unfold p_rw
    split
    · exact Nat.or_lt_two_pow this (p_ends_lt h1 h2 w)
    · exact this
theorem p_rr_lt {one two : Int → Int} (h1 : ∀ j, 0 ≤ one j ∧ one j ≤ 7) (h2 : ∀ j, 0 ≤ two j ∧ two j ≤ 7) {way : Int} {W r : Nat} (hr : r < 2 ^ 8) : ∀ k, p_rr one two way W r k < 2 ^ 8
  | 0 => hr
  | k + 1 => p_rw_lt h1 h2 (p_rr_lt h1 h2 hr k) W
theorem x_sl1z {z : Int} (h0 : 0 ≤ z) (h1 : z < 31) : x_sl 1 z = ((2 ^ z.toNat : Nat) : Int) := by
  have := x_sl1 z.toNat (by omega)
  rw [Int.toNat_of_nonneg h0] at this
  exact this
theorem x_mx_in {f : Int → Int} {F : Int} (hF : 0 ≤ F) (h : ∀ j, 0 ≤ f j ∧ f j ≤ F) : ∀ n : Nat, 0 ≤ x_mx f n ∧ x_mx f n ≤ F
  | 0 => ⟨Int.le_refl _, hF⟩
  | n + 1 => by
    have h1 := x_mx_in hF h n
    have h2 := h n
    unfold x_mx
    omega
theorem x_first_in (p : Nat → Prop) [DecidablePred p] (n : Nat) : -1 ≤ x_first p n ∧ x_first p n < n := by
  rcases x_first_cases p n with ⟨h, -⟩ | ⟨i, h1, h2, -⟩ <;> omega
theorem e_btw_in (one two : Int → Int) (W : Nat) (a b : Int) : -1 ≤ e_btw one two W a b ∧ e_btw one two W a b < W := x_first_in _ _
theorem m_r2 {x y : Int} (h : 0 ≤ x ∧ x ≤ 1000000) (h2 : 0 ≤ y ∧ y ≤ 1000000) : x_r (x + y) := ⟨by omega, by omega⟩
theorem k_RX6_44 : Cond.constant RX6 44 (xI (1000000)) ∈ x_T := (x_in 561 (by decide +kernel) rfl)
theorem w_6_37 : x_cv RX6 37 yX6_between cX6_between 4 (some .int) 6 2 := ⟨⟨_, rfl, rfl⟩, (x_in 790 (by decide +kernel) rfl), (x_in 791 (by decide +kernel) rfl), (x_in 792 (by decide +kernel) rfl), (x_in 83 (by decide +kernel) rfl), (x_in 793 (by decide +kernel) rfl), by decide, ⟨by decide +kernel, by decide +kernel, by decide +kernel⟩⟩
theorem w_6_41 : x_cv RX6 41 yX6_otherEnd cX6_otherEnd 3 (some .int) 6 2 := ⟨⟨_, rfl, rfl⟩, (x_in 794 (by decide +kernel) rfl), (x_in 795 (by decide +kernel) rfl), (x_in 796 (by decide +kernel) rfl), (x_in 83 (by decide +kernel) rfl), (x_in 797 (by decide +kernel) rfl), by decide, ⟨by decide +kernel, by decide +kernel, by decide +kernel⟩⟩
theorem w_6_45 : x_cv RX6 45 yX6_setBothWays cX6_setBothWays 4 (none) 6 3 := ⟨⟨_, rfl, rfl⟩, (x_in 875 (by decide +kernel) rfl), (x_in 876 (by decide +kernel) rfl), (x_in 877 (by decide +kernel) rfl), (x_in 83 (by decide +kernel) rfl), (x_in 878 (by decide +kernel) rfl), by decide, ⟨by decide +kernel, by decide +kernel, by decide +kernel⟩⟩
theorem w_6_49 : x_cv RX6 49 yX6_shorten cX6_shorten 7 (none) 6 1 := ⟨⟨_, rfl, rfl⟩, (x_in 879 (by decide +kernel) rfl), (x_in 880 (by decide +kernel) rfl), (x_in 881 (by decide +kernel) rfl), (x_in 83 (by decide +kernel) rfl), (x_in 882 (by decide +kernel) rfl), by decide, ⟨by decide +kernel, by decide +kernel, by decide +kernel⟩⟩
theorem w_6_53 : x_mw RX6 53 Lib.Math.min.name Lib.Math.min.code 2 := ⟨(x_in 883 (by decide +kernel) rfl), (x_in 462 (by decide +kernel) rfl), (x_in 95 (by decide +kernel) rfl), (x_in 463 (by decide +kernel) rfl)⟩
theorem c6_clear {X : xC} {l : Launch} (hl : l.stackTraces = false) {N : Nat} {sh : xS} {D : xM} {ro : Nat} (hro : is_Ro N sh ro) : x_M X l yX6_clear cX6_clear 1 (none) 1 0 0 [.ref (x_b X + ro)] false N sh D (.inl none) false N sh (x_is (x_up D ro (x_u1 (x_u1 (D ro) 0 0) 1 0))) := by
  obtain ⟨hroN, hr0, hr1, hr2, hr3, hr4, hr5, hr6⟩ := id hro
  have hroN0 : ro < N := by omega
  have hroN1 : ro + 1 < N := by omega
  have hroN2 : ro + 2 < N := by omega
  have hroN3 : ro + 3 < N := by omega
  have hroN4 : ro + 4 < N := by omega
  have hroN5 : ro + 5 < N := by omega
  have hroN6 : ro + 6 < N := by omega
  refine x_ofW (by decide +kernel) hl (by simp [Value.category]) (by simp) ?_
  refine x_aload_n dX6_clear_0 x_get_1_0 ?_
  refine x_iconst dX6_clear_1 ?_
  refine x_putI 0 dX6_clear_2 fX_6_9 rfl tX_6_0 (by assumption) (by assumption) (by rfl) ?_
  refine x_aload_n dX6_clear_5 x_get_1_0 ?_
  refine x_iconst dX6_clear_6 ?_
  refine x_putI 1 dX6_clear_7 fX_6_15 rfl tX_6_1 (by assumption) (by assumption) (by rfl) ?_
  exact x_vret dX6_clear_10 rfl (Nat.le_of_ble_eq_true rfl) (Nat.le_of_ble_eq_true rfl) rfl rfl rfl (by show _ = _; rw [x_up_up, x_up_s]) rfl
theorem c6_add {X : xC} {l : Launch} (hl : l.stackTraces = false) {N : Nat} {sh : xS} {D : xM} {ro : Nat} (hro : is_Ro N sh ro) {W : Nat} (hW : D ro 0 = W) (hW1 : W < 12) {a b c e : Int} : x_M X l yX6_add cX6_add 5 (none) 1 0 0 [.ref (x_b X + ro), .int (xI a), .int (xI b), .int (xI c), .int (xI e)] false N sh D (.inl none) false N sh (x_is (x_up (x_up (x_up (x_up (x_up D (ro + 1) (x_u1 (D (ro + 1)) W a)) (ro + 2) (x_u1 (D (ro + 2)) W b)) (ro + 3) (x_u1 (D (ro + 3)) W c)) (ro + 4) (x_u1 (D (ro + 4)) W e)) ro (x_u1 (D ro) 0 (W + 1)))) := by
  obtain ⟨hroN, hr0, hr1, hr2, hr3, hr4, hr5, hr6⟩ := id hro
  have hroN0 : ro < N := by omega
  have hroN1 : ro + 1 < N := by omega
  have hroN2 : ro + 2 < N := by omega
  have hroN3 : ro + 3 < N := by omega
  have hroN4 : ro + 4 < N := by omega
  have hroN5 : ro + 5 < N := by omega
  have hroN6 : ro + 6 < N := by omega
  refine x_ofW (by decide +kernel) hl (by simp [Value.category]) (by simp) ?_
  refine x_aload_n dX6_add_0 x_get_5_0 ?_
  refine x_getI 0 dX6_add_1 fX_6_9 rfl (by assumption) (by assumption) (by rfl) ?_
  simp (disch := omega) only [x_up_n, x_up_s, hW]
  refine x_bipush dX6_add_4 rfl ?_
  refine r_icmp_ge (t := 60) dX6_add_6 rfl ⟨by omega, by omega⟩ ⟨by omega, by omega⟩ (fun hc6 => absurd hc6 (by omega)) (fun hc6 => ?_)
  refine x_aload_n dX6_add_9 x_get_5_0 ?_
  refine x_getR dX6_add_10 fX_6_18 (by assumption) (by assumption) (by rfl) ?_
  refine x_aload_n dX6_add_13 x_get_5_0 ?_
  refine x_getI 0 dX6_add_14 fX_6_9 rfl (by assumption) (by assumption) (by rfl) ?_
  simp (disch := omega) only [x_up_n, x_up_s, hW]
  refine x_iload_n dX6_add_17 x_get_5_1 ?_
  refine x_iast dX6_add_18 (by assumption) (by assumption) (by omega) (by omega) (by decide) ?_
  refine x_aload_n dX6_add_19 x_get_5_0 ?_
  refine x_getR dX6_add_20 fX_6_22 (by assumption) (by assumption) (by rfl) ?_
  refine x_aload_n dX6_add_23 x_get_5_0 ?_
  refine x_getI 0 dX6_add_24 fX_6_9 rfl (by assumption) (by assumption) (by rfl) ?_
  simp (disch := omega) only [x_up_n, x_up_s, hW]
  refine x_iload_n dX6_add_27 x_get_5_2 ?_
  refine x_iast dX6_add_28 (by assumption) (by assumption) (by omega) (by omega) (by decide) ?_
  refine x_aload_n dX6_add_29 x_get_5_0 ?_
  refine x_getR dX6_add_30 fX_6_25 (by assumption) (by assumption) (by rfl) ?_
  refine x_aload_n dX6_add_33 x_get_5_0 ?_
  refine x_getI 0 dX6_add_34 fX_6_9 rfl (by assumption) (by assumption) (by rfl) ?_
  simp (disch := omega) only [x_up_n, x_up_s, hW]
  refine x_iload_n dX6_add_37 x_get_5_3 ?_
  refine x_iast dX6_add_38 (by assumption) (by assumption) (by omega) (by omega) (by decide) ?_
  refine x_aload_n dX6_add_39 x_get_5_0 ?_
  refine x_getR dX6_add_40 fX_6_28 (by assumption) (by assumption) (by rfl) ?_
  refine x_aload_n dX6_add_43 x_get_5_0 ?_
  refine x_getI 0 dX6_add_44 fX_6_9 rfl (by assumption) (by assumption) (by rfl) ?_
  simp (disch := omega) only [x_up_n, x_up_s, hW]
  refine x_iload dX6_add_47 x_get_5_4 ?_
  refine x_iast dX6_add_49 (by assumption) (by assumption) (by omega) (by omega) (by decide) ?_
  refine x_aload_n dX6_add_50 x_get_5_0 ?_
  refine x_dup dX6_add_51 rfl ?_
  refine x_getI 0 dX6_add_52 fX_6_9 rfl (by assumption) (by assumption) (by rfl) ?_
  simp (disch := omega) only [x_up_n, x_up_s, hW]
  refine x_iconst dX6_add_55 ?_
  refine x_iadd dX6_add_56 ?_
  refine x_putI 0 dX6_add_57 fX_6_9 rfl tX_6_0 (by assumption) (by assumption) (by rfl) ?_
  exact x_vret dX6_add_60 rfl (Nat.le_of_ble_eq_true rfl) (Nat.le_of_ble_eq_true rfl) rfl rfl rfl (by show _ = _; simp (disch := omega) only [x_up_n, x_up_s]) rfl
theorem c6_oth {X : xC} {l : Launch} (hl : l.stackTraces = false) {N : Nat} {sh : xS} {D : xM} {ro : Nat} (hro : is_Ro N sh ro) {W T : Nat} (hrd : rd D ro W T) {w t : Int} (h0 : 0 ≤ w) (h1 : w < 12) (ht : x_r t) : x_M X l yX6_otherEnd cX6_otherEnd 3 (some .int) 1 0 0 [.ref (x_b X + ro), .int (xI w), .int (xI t)] false N sh D (.inl (some (.int (xI (e_oth (D (ro + 1)) (D (ro + 2)) w t))))) false N sh (x_is (D)) := by
  obtain ⟨hroN, hr0, hr1, hr2, hr3, hr4, hr5, hr6⟩ := id hro
  have hroN0 : ro < N := by omega
  have hroN1 : ro + 1 < N := by omega
  have hroN2 : ro + 2 < N := by omega
  have hroN3 : ro + 3 < N := by omega
  have hroN4 : ro + 4 < N := by omega
  have hroN5 : ro + 5 < N := by omega
  have hroN6 : ro + 6 < N := by omega
  obtain ⟨q0, q0b, qT, qTb, q1, q2, q3, q4, q5, q6⟩ := id hrd
  refine x_ofW (by decide +kernel) hl (by simp [Value.category]) (by simp) ?_
  refine x_aload_n dX6_otherEnd_0 x_get_3_0 ?_
  refine x_getR dX6_otherEnd_1 fX_6_18 (by assumption) (by assumption) (by rfl) ?_
  refine x_iload_n dX6_otherEnd_4 x_get_3_1 ?_
  refine x_iald dX6_otherEnd_5 (by assumption) (by assumption) (by omega) (by omega) (by decide) ?_
  refine x_iload_n dX6_otherEnd_6 x_get_3_2 ?_
  refine r_icmp_ne (t := 17) dX6_otherEnd_7 rfl (by first | exact ⟨by omega, by omega⟩ | exact x_rb (q1 _) (by decide) | exact x_rb (q2 _) (by decide) | exact x_rb (q3 _) (by decide) | exact x_rb (q4 _) (by decide) | exact x_rb (q5 _) (by decide) | exact x_rb (q6 _) (by decide) | assumption) (by first | exact ⟨by omega, by omega⟩ | exact x_rb (q1 _) (by decide) | exact x_rb (q2 _) (by decide) | exact x_rb (q3 _) (by decide) | exact x_rb (q4 _) (by decide) | exact x_rb (q5 _) (by decide) | exact x_rb (q6 _) (by decide) | assumption) (fun hc7 => ?_) (fun hc7 => ?_)
  · refine x_aload_n dX6_otherEnd_17 x_get_3_0 ?_
    refine x_getR dX6_otherEnd_18 fX_6_22 (by assumption) (by assumption) (by rfl) ?_
    refine x_iload_n dX6_otherEnd_21 x_get_3_1 ?_
    refine x_iald dX6_otherEnd_22 (by assumption) (by assumption) (by omega) (by omega) (by decide) ?_
    refine x_iload_n dX6_otherEnd_23 x_get_3_2 ?_
    refine r_icmp_ne (t := 36) dX6_otherEnd_24 rfl (by first | exact ⟨by omega, by omega⟩ | exact x_rb (q1 _) (by decide) | exact x_rb (q2 _) (by decide) | exact x_rb (q3 _) (by decide) | exact x_rb (q4 _) (by decide) | exact x_rb (q5 _) (by decide) | exact x_rb (q6 _) (by decide) | assumption) (by first | exact ⟨by omega, by omega⟩ | exact x_rb (q1 _) (by decide) | exact x_rb (q2 _) (by decide) | exact x_rb (q3 _) (by decide) | exact x_rb (q4 _) (by decide) | exact x_rb (q5 _) (by decide) | exact x_rb (q6 _) (by decide) | assumption) (fun hc24 => ?_) (fun hc24 => ?_)
    · refine x_iconst dX6_otherEnd_36 ?_
      exact x_iret dX6_otherEnd_37 rfl (Nat.le_of_ble_eq_true rfl) (Nat.le_of_ble_eq_true rfl) (by first | (rw [e_oth, if_neg hc7, if_neg hc24]; done) | (rw [e_oth, if_neg hc7, if_pos hc24]; done)) rfl rfl rfl rfl
    · refine x_aload_n dX6_otherEnd_27 x_get_3_0 ?_
      refine x_getR dX6_otherEnd_28 fX_6_18 (by assumption) (by assumption) (by rfl) ?_
      refine x_iload_n dX6_otherEnd_31 x_get_3_1 ?_
      refine x_iald dX6_otherEnd_32 (by assumption) (by assumption) (by omega) (by omega) (by decide) ?_
      refine x_goto (t := 37) dX6_otherEnd_33 rfl ?_
      exact x_iret dX6_otherEnd_37 rfl (Nat.le_of_ble_eq_true rfl) (Nat.le_of_ble_eq_true rfl) (by first | (rw [e_oth, if_neg hc7, if_neg hc24]; done) | (rw [e_oth, if_neg hc7, if_pos hc24]; done)) rfl rfl rfl rfl
  · refine x_aload_n dX6_otherEnd_10 x_get_3_0 ?_
    refine x_getR dX6_otherEnd_11 fX_6_22 (by assumption) (by assumption) (by rfl) ?_
    refine x_iload_n dX6_otherEnd_14 x_get_3_1 ?_
    refine x_iald dX6_otherEnd_15 (by assumption) (by assumption) (by omega) (by omega) (by decide) ?_
    exact x_iret dX6_otherEnd_16 rfl (Nat.le_of_ble_eq_true rfl) (Nat.le_of_ble_eq_true rfl) (by rw [e_oth, if_pos hc7]) rfl rfl rfl rfl
theorem c6_btw {X : xC} {l : Launch} (hl : l.stackTraces = false) {N : Nat} {sh : xS} {D : xM} {ro : Nat} (hro : is_Ro N sh ro) {W T : Nat} (hrd : rd D ro W T) {a b : Int} (ha : x_r a) (hb : x_r b) : x_M X l yX6_between cX6_between 4 (some .int) 2 0 0 [.ref (x_b X + ro), .int (xI a), .int (xI b)] false N sh D (.inl (some (.int (xI (e_btw (D (ro + 1)) (D (ro + 2)) W a b))))) false N sh (x_is (D)) := by
  obtain ⟨hroN, hr0, hr1, hr2, hr3, hr4, hr5, hr6⟩ := id hro
  have hroN0 : ro < N := by omega
  have hroN1 : ro + 1 < N := by omega
  have hroN2 : ro + 2 < N := by omega
  have hroN3 : ro + 3 < N := by omega
  have hroN4 : ro + 4 < N := by omega
  have hroN5 : ro + 5 < N := by omega
  have hroN6 : ro + 6 < N := by omega
  obtain ⟨q0, q0b, qT, qTb, q1, q2, q3, q4, q5, q6⟩ := id hrd
  have he : ∀ w, x_r (e_oth (D (ro + 1)) (D (ro + 2)) w a) := by
    intro w
    unfold e_oth
    repeat' split
    all_goals first | exact x_rb (q2 _) (by decide) | exact x_rb (q1 _) (by decide) | exact ⟨by decide, by decide⟩
  refine x_ofW (by decide +kernel) hl (by simp [Value.category]) (by simp) ?_
  have hloop : ∀ i : Nat, i ≤ W → (∀ j : Nat, j < i → ¬ e_oth (D (ro + 1)) (D (ro + 2)) j a = b) → x_W (X, l, yX6_between, cX6_between, 4, some .int, x_room 2 0 0, 0, 0, (.inl (some (.int (xI (e_btw (D (ro + 1)) (D (ro + 2)) W a b))))), N, sh, (x_is (D)), false, []) 2 [some (.ref (x_b X + ro)), some (.int (xI a)), some (.int (xI b)), some (.int (xI i))] [] 0 0 false N sh D := by
    refine x_down W ?_ ?_
    · intro hp
      refine x_iload_n dX6_between_2 x_get_4_3 ?_
      refine x_aload_n dX6_between_3 x_get_4_0 ?_
      refine x_getI 0 dX6_between_4 fX_6_9 rfl (by assumption) (by assumption) (by rfl) ?_
      rw [q0]
      refine r_icmp_ge (t := 28) dX6_between_7 rfl ⟨by omega, by omega⟩ ⟨by omega, by omega⟩ (fun hc7 => ?_) (fun hc7 => absurd hc7 (by omega))
      refine x_iconst dX6_between_28 ?_
      exact x_iret dX6_between_29 rfl (Nat.le_of_ble_eq_true rfl) (Nat.le_of_ble_eq_true rfl) (by rw [e_btw, x_first_none hp]) rfl rfl rfl rfl
    · intro i hi ih
      intro hp
      refine x_iload_n dX6_between_2 x_get_4_3 ?_
      refine x_aload_n dX6_between_3 x_get_4_0 ?_
      refine x_getI 0 dX6_between_4 fX_6_9 rfl (by assumption) (by assumption) (by rfl) ?_
      rw [q0]
      refine r_icmp_ge (t := 28) dX6_between_7 rfl ⟨by omega, by omega⟩ ⟨by omega, by omega⟩ (fun hc7 => absurd hc7 (by omega)) (fun hc7 => ?_)
      refine x_aload_n dX6_between_10 x_get_4_0 ?_
      refine x_iload_n dX6_between_11 x_get_4_3 ?_
      refine x_iload_n dX6_between_12 x_get_4_1 ?_
      refine x_callV (As := [_, _]) dX6_between_13 w_6_41 (c6_oth hl hro hrd (w := (i : Int)) (by omega) (by omega) ha) (by assumption) (by assumption) rfl rfl (Nat.le_of_ble_eq_true rfl) (Nat.le_of_ble_eq_true rfl) (Nat.le_of_ble_eq_true rfl) (Nat.le_of_ble_eq_true rfl) (Nat.le_of_ble_eq_true rfl) ?_
      rintro _ rfl
      refine x_iload_n dX6_between_16 x_get_4_2 ?_
      refine r_icmp_ne (t := 22) dX6_between_17 rfl (he _) hb (fun hc17 => ?_) (fun hc17 => ?_)
      · refine x_iinc dX6_between_22 x_get_4_3 (Nat.le_of_ble_eq_true rfl) rfl x_set_4_3 ?_
        refine x_goto (t := 2) dX6_between_25 rfl ?_
        exact ih (fun j hj => by
          by_cases h : j = i
          · rw [h]; exact hc17
          · exact hp j (by omega))
      · refine x_iload_n dX6_between_20 x_get_4_3 ?_
        exact x_iret dX6_between_21 rfl (Nat.le_of_ble_eq_true rfl) (Nat.le_of_ble_eq_true rfl) (by rw [e_btw, x_first_hit hp hc17 hi]) rfl rfl rfl rfl
  refine x_iconst dX6_between_0 ?_
  refine x_istore_n dX6_between_1 (Nat.le_of_ble_eq_true rfl) rfl x_set_4_3 ?_
  exact hloop 0 (Nat.zero_le _) (fun j hj => by omega)
theorem c6_joins {X : xC} {l : Launch} (hl : l.stackTraces = false) {N : Nat} {sh : xS} {D : xM} {ro : Nat} (hro : is_Ro N sh ro) {W T : Nat} (hrd : rd D ro W T) {a b : Int} (ha : x_r a) (hb : x_r b) : x_M X l yX6_joins cX6_joins 3 (some .boolean) 3 0 0 [.ref (x_b X + ro), .int (xI a), .int (xI b)] false N sh D (.inl (some (.int (xI (x_B (¬ e_btw (D (ro + 1)) (D (ro + 2)) W a b = -1)))))) false N sh (x_is (D)) := by
  obtain ⟨hroN, hr0, hr1, hr2, hr3, hr4, hr5, hr6⟩ := id hro
  have hroN0 : ro < N := by omega
  have hroN1 : ro + 1 < N := by omega
  have hroN2 : ro + 2 < N := by omega
  have hroN3 : ro + 3 < N := by omega
  have hroN4 : ro + 4 < N := by omega
  have hroN5 : ro + 5 < N := by omega
  have hroN6 : ro + 6 < N := by omega
  obtain ⟨q0, q0b, qT, qTb, q1, q2, q3, q4, q5, q6⟩ := id hrd
  have hq := e_btw_in (D (ro + 1)) (D (ro + 2)) W a b
  refine x_ofW (by decide +kernel) hl (by simp [Value.category]) (by simp) ?_
  refine x_aload_n dX6_joins_0 x_get_3_0 ?_
  refine x_iload_n dX6_joins_1 x_get_3_1 ?_
  refine x_iload_n dX6_joins_2 x_get_3_2 ?_
  refine x_callV (As := [_, _]) dX6_joins_3 w_6_37 (c6_btw hl hro hrd ha hb) (by assumption) (by assumption) rfl rfl (Nat.le_of_ble_eq_true rfl) (Nat.le_of_ble_eq_true rfl) (Nat.le_of_ble_eq_true rfl) (Nat.le_of_ble_eq_true rfl) (Nat.le_of_ble_eq_true rfl) ?_
  rintro _ rfl
  refine x_iconst dX6_joins_6 ?_
  refine r_icmp_eq (t := 14) dX6_joins_7 rfl (by first | exact ⟨by omega, by omega⟩ | exact x_rb (q1 _) (by decide) | exact x_rb (q2 _) (by decide) | exact x_rb (q3 _) (by decide) | exact x_rb (q4 _) (by decide) | exact x_rb (q5 _) (by decide) | exact x_rb (q6 _) (by decide) | assumption) (by first | exact ⟨by omega, by omega⟩ | exact x_rb (q1 _) (by decide) | exact x_rb (q2 _) (by decide) | exact x_rb (q3 _) (by decide) | exact x_rb (q4 _) (by decide) | exact x_rb (q5 _) (by decide) | exact x_rb (q6 _) (by decide) | assumption) (fun hc7 => ?_) (fun hc7 => ?_)
  · refine x_iconst dX6_joins_14 ?_
    exact x_zret dX6_joins_15 rfl (by omega) (Nat.le_of_ble_eq_true rfl) (Nat.le_of_ble_eq_true rfl) (by first | (rw [x_B, if_pos (by omega)]; done) | (rw [x_B, if_neg (by omega)]; done)) rfl rfl rfl rfl
  · refine x_iconst dX6_joins_10 ?_
    refine x_goto (t := 15) dX6_joins_11 rfl ?_
    exact x_zret dX6_joins_15 rfl (by omega) (Nat.le_of_ble_eq_true rfl) (Nat.le_of_ble_eq_true rfl) (by first | (rw [x_B, if_pos (by omega)]; done) | (rw [x_B, if_neg (by omega)]; done)) rfl rfl rfl rfl
theorem c6_both {X : xC} {l : Launch} (hl : l.stackTraces = false) {N : Nat} {sh : xS} {D : xM} {ro : Nat} (hro : is_Ro N sh ro) (q1 : ∀ j, 0 ≤ D (ro + 1) j ∧ D (ro + 1) j ≤ 7) (q2 : ∀ j, 0 ≤ D (ro + 2) j ∧ D (ro + 2) j ≤ 7) {q : Nat} (hqN : q < N) (hq : sh q = .inl (0, 64)) (hne : q ≠ ro + 1 ∧ q ≠ ro + 2) {w v : Int} (h0 : 0 ≤ w) (h1 : w < 12) : x_M X l yX6_setBothWays cX6_setBothWays 4 (none) 1 0 0 [.ref (x_b X + ro), .ref (x_b X + q), .int (xI w), .int (xI v)] false N sh D (.inl none) false N sh (x_is (x_up D q (m_set (D (ro + 1)) (D (ro + 2)) v (D q) w))) := by
  obtain ⟨hroN, hr0, hr1, hr2, hr3, hr4, hr5, hr6⟩ := id hro
  have hroN0 : ro < N := by omega
  have hroN1 : ro + 1 < N := by omega
  have hroN2 : ro + 2 < N := by omega
  have hroN3 : ro + 3 < N := by omega
  have hroN4 : ro + 4 < N := by omega
  have hroN5 : ro + 5 < N := by omega
  have hroN6 : ro + 6 < N := by omega
  obtain ⟨n1, n2⟩ := hne
  have b1 := q1 w
  have b2 := q2 w
  refine x_ofW (by decide +kernel) hl (by simp [Value.category]) (by simp) ?_
  refine x_aload_n dX6_setBothWays_0 x_get_4_1 ?_
  refine x_aload_n dX6_setBothWays_1 x_get_4_0 ?_
  refine x_getR dX6_setBothWays_2 fX_6_18 (by assumption) (by assumption) (by rfl) ?_
  refine x_iload_n dX6_setBothWays_5 x_get_4_2 ?_
  refine x_iald dX6_setBothWays_6 (by assumption) (by assumption) (by omega) (by omega) (by decide) ?_
  refine x_bipush dX6_setBothWays_7 rfl ?_
  refine x_imul dX6_setBothWays_9 ?_
  refine x_aload_n dX6_setBothWays_10 x_get_4_0 ?_
  refine x_getR dX6_setBothWays_11 fX_6_22 (by assumption) (by assumption) (by rfl) ?_
  refine x_iload_n dX6_setBothWays_14 x_get_4_2 ?_
  refine x_iald dX6_setBothWays_15 (by assumption) (by assumption) (by omega) (by omega) (by decide) ?_
  refine x_iadd dX6_setBothWays_16 ?_
  refine x_iload_n dX6_setBothWays_17 x_get_4_3 ?_
  refine x_iast dX6_setBothWays_18 (by assumption) (by assumption) (by omega) (by omega) (by decide) ?_
  refine x_aload_n dX6_setBothWays_19 x_get_4_1 ?_
  refine x_aload_n dX6_setBothWays_20 x_get_4_0 ?_
  refine x_getR dX6_setBothWays_21 fX_6_22 (by assumption) (by assumption) (by rfl) ?_
  refine x_iload_n dX6_setBothWays_24 x_get_4_2 ?_
  refine x_iald dX6_setBothWays_25 (by assumption) (by assumption) (by omega) (by omega) (by decide) ?_
  simp (disch := omega) only [x_up_n]
  refine x_bipush dX6_setBothWays_26 rfl ?_
  refine x_imul dX6_setBothWays_28 ?_
  refine x_aload_n dX6_setBothWays_29 x_get_4_0 ?_
  refine x_getR dX6_setBothWays_30 fX_6_18 (by assumption) (by assumption) (by rfl) ?_
  refine x_iload_n dX6_setBothWays_33 x_get_4_2 ?_
  refine x_iald dX6_setBothWays_34 (by assumption) (by assumption) (by omega) (by omega) (by decide) ?_
  simp (disch := omega) only [x_up_n]
  refine x_iadd dX6_setBothWays_35 ?_
  refine x_iload_n dX6_setBothWays_36 x_get_4_3 ?_
  refine x_iast dX6_setBothWays_37 (by assumption) (by assumption) (by omega) (by omega) (by decide) ?_
  exact x_vret dX6_setBothWays_38 rfl (Nat.le_of_ble_eq_true rfl) (Nat.le_of_ble_eq_true rfl) rfl rfl rfl (by show _ = _; rw [x_up_up, x_up_s]; rfl) rfl
theorem c6_short {X : xC} {l : Launch} (hl : l.stackTraces = false) {N : Nat} {sh : xS} {D : xM} {ro : Nat} (hro : is_Ro N sh ro) {T : Nat} (qT : D ro 1 = T) (qTb : T ≤ 8) {q : Nat} (hqN : q < N) (hq : sh q = .inl (0, 64)) (hne : q ≠ ro) (hok : m_ok 1000000 (D q)) : x_M X l yX6_shorten cX6_shorten 7 (none) 1 0 0 [.ref (x_b X + ro), .ref (x_b X + q)] false N sh D (.inl none) false N sh (x_is (x_up D q (m_m (D q) T T))) := by
  obtain ⟨hroN, hr0, hr1, hr2, hr3, hr4, hr5, hr6⟩ := id hro
  have hroN0 : ro < N := by omega
  have hroN1 : ro + 1 < N := by omega
  have hroN2 : ro + 2 < N := by omega
  have hroN3 : ro + 3 < N := by omega
  have hroN4 : ro + 4 < N := by omega
  have hroN5 : ro + 5 < N := by omega
  have hroN6 : ro + 6 < N := by omega
  refine x_ofW (by decide +kernel) hl (by simp [Value.category]) (by simp) ?_
  have eT : ∀ f : Int → Int, x_up D q f ro 1 = T := fun f => by rw [x_up_n (Ne.symm hne)]; exact qT
  have l1 : ∀ m : Nat, m ≤ T → x_W (X, l, yX6_shorten, cX6_shorten, 7, none, x_room 1 0 0, 0, 0, (.inl none), N, sh, (x_is (x_up D q (m_m (D q) T T))), false, []) 2 [some (.ref (x_b X + ro)), some (.ref (x_b X + q)), some (.int (xI m)), none, none, none, none] [] 0 0 false N sh (x_up D q (m_m (D q) T m)) := by
    refine x_down T ?_ ?_
    · refine x_iload_n dX6_shorten_2 x_get_7_2 ?_
      refine x_aload_n dX6_shorten_3 x_get_7_0 ?_
      refine x_getI 1 dX6_shorten_4 fX_6_15 rfl (by assumption) (by assumption) (by rfl) ?_
      rw [eT]
      refine r_icmp_ge (t := 92) dX6_shorten_7 rfl ⟨by omega, by omega⟩ ⟨by omega, by omega⟩ (fun hc7 => ?_) (fun hc7 => absurd hc7 (by omega))
      exact x_vret dX6_shorten_92 rfl (Nat.le_of_ble_eq_true rfl) (Nat.le_of_ble_eq_true rfl) rfl rfl rfl rfl rfl
    · intro m hm ihm
      have okm := m_ok_m hok T m
      have l2 : ∀ a : Nat, a ≤ T → x_W (X, l, yX6_shorten, cX6_shorten, 7, none, x_room 1 0 0, 0, 0, (.inl none), N, sh, (x_is (x_up D q (m_m (D q) T T))), false, []) 12 [some (.ref (x_b X + ro)), some (.ref (x_b X + q)), some (.int (xI m)), some (.int (xI a)), none, none, none] [] 0 0 false N sh (x_up D q (m_a (m_m (D q) T m) m T a)) := by
        refine x_down T ?_ ?_
        · refine x_iload_n dX6_shorten_12 x_get_7_3 ?_
          refine x_aload_n dX6_shorten_13 x_get_7_0 ?_
          refine x_getI 1 dX6_shorten_14 fX_6_15 rfl (by assumption) (by assumption) (by rfl) ?_
          rw [eT]
          refine r_icmp_ge (t := 86) dX6_shorten_17 rfl ⟨by omega, by omega⟩ ⟨by omega, by omega⟩ (fun hc17 => ?_) (fun hc17 => absurd hc17 (by omega))
          refine x_iinc dX6_shorten_86 x_get_7_2 (Nat.le_of_ble_eq_true rfl) rfl x_set_7_2 ?_
          refine x_goto (t := 2) dX6_shorten_89 rfl ?_
          refine x_forget 3 ?_
          exact ihm
        · intro a haa iha
          have oka := m_ok_a okm m T a
          have l3 : ∀ b : Nat, b ≤ T → x_W (X, l, yX6_shorten, cX6_shorten, 7, none, x_room 1 0 0, 0, 0, (.inl none), N, sh, (x_is (x_up D q (m_m (D q) T T))), false, []) 23 [some (.ref (x_b X + ro)), some (.ref (x_b X + q)), some (.int (xI m)), some (.int (xI a)), some (.int (xI b)), none, none] [] 0 0 false N sh (x_up D q (m_b (m_a (m_m (D q) T m) m T a) m a b)) := by
            refine x_down T ?_ ?_
            · refine x_iload dX6_shorten_23 x_get_7_4 ?_
              refine x_aload_n dX6_shorten_25 x_get_7_0 ?_
              refine x_getI 1 dX6_shorten_26 fX_6_15 rfl (by assumption) (by assumption) (by rfl) ?_
              rw [eT]
              refine r_icmp_ge (t := 80) dX6_shorten_29 rfl ⟨by omega, by omega⟩ ⟨by omega, by omega⟩ (fun hc29 => ?_) (fun hc29 => absurd hc29 (by omega))
              refine x_iinc dX6_shorten_80 x_get_7_3 (Nat.le_of_ble_eq_true rfl) rfl x_set_7_3 ?_
              refine x_goto (t := 12) dX6_shorten_83 rfl ?_
              refine x_forget 4 ?_
              exact iha
            · intro b hb ihb
              have okb := m_ok_b oka m a b
              refine x_iload dX6_shorten_23 x_get_7_4 ?_
              refine x_aload_n dX6_shorten_25 x_get_7_0 ?_
              refine x_getI 1 dX6_shorten_26 fX_6_15 rfl (by assumption) (by assumption) (by rfl) ?_
              rw [eT]
              refine r_icmp_ge (t := 80) dX6_shorten_29 rfl (by first | exact ⟨by omega, by omega⟩ | exact x_rb (okb _) (by decide) | exact m_r2 (okb _) (okb _)) (by first | exact ⟨by omega, by omega⟩ | exact x_rb (okb _) (by decide) | exact m_r2 (okb _) (okb _)) (fun hc29 => absurd hc29 (by omega)) (fun hc29 => ?_)
              refine x_aload_n dX6_shorten_32 x_get_7_1 ?_
              refine x_iload_n dX6_shorten_33 x_get_7_3 ?_
              refine x_bipush dX6_shorten_34 rfl ?_
              refine x_imul dX6_shorten_36 ?_
              refine x_iload_n dX6_shorten_37 x_get_7_2 ?_
              refine x_iadd dX6_shorten_38 ?_
              refine x_ialdU dX6_shorten_39 (by assumption) (by assumption) (by omega) (by omega) (by decide) ?_
              refine x_aload_n dX6_shorten_40 x_get_7_1 ?_
              refine x_iload_n dX6_shorten_41 x_get_7_2 ?_
              refine x_bipush dX6_shorten_42 rfl ?_
              refine x_imul dX6_shorten_44 ?_
              refine x_iload dX6_shorten_45 x_get_7_4 ?_
              refine x_iadd dX6_shorten_47 ?_
              refine x_ialdU dX6_shorten_48 (by assumption) (by assumption) (by omega) (by omega) (by decide) ?_
              refine x_iadd dX6_shorten_49 ?_
              refine x_istore dX6_shorten_50 (Nat.le_of_ble_eq_true rfl) rfl x_set_7_5 ?_
              refine x_iload_n dX6_shorten_52 x_get_7_3 ?_
              refine x_bipush dX6_shorten_53 rfl ?_
              refine x_imul dX6_shorten_55 ?_
              refine x_iload dX6_shorten_56 x_get_7_4 ?_
              refine x_iadd dX6_shorten_58 ?_
              refine x_istore dX6_shorten_59 (Nat.le_of_ble_eq_true rfl) rfl x_set_7_6 ?_
              refine x_aload_n dX6_shorten_61 x_get_7_1 ?_
              refine x_iload dX6_shorten_62 x_get_7_6 ?_
              refine x_aload_n dX6_shorten_64 x_get_7_1 ?_
              refine x_iload dX6_shorten_65 x_get_7_6 ?_
              refine x_ialdU dX6_shorten_67 (by assumption) (by assumption) (by omega) (by omega) (by decide) ?_
              refine x_iload dX6_shorten_68 x_get_7_5 ?_
              refine r_min dX6_shorten_70 w_6_53 (by first | exact ⟨by omega, by omega⟩ | exact x_rb (okb _) (by decide) | exact m_r2 (okb _) (okb _)) (by first | exact ⟨by omega, by omega⟩ | exact x_rb (okb _) (by decide) | exact m_r2 (okb _) (okb _)) (Nat.le_of_ble_eq_true rfl) (Nat.le_of_ble_eq_true rfl) (Nat.le_of_ble_eq_true rfl) (Nat.le_of_ble_eq_true rfl) ?_
              refine x_iastU dX6_shorten_73 (by assumption) (by assumption) (by omega) (by omega) (by decide) ?_
              refine x_iinc dX6_shorten_74 x_get_7_4 (Nat.le_of_ble_eq_true rfl) rfl x_set_7_4 ?_
              refine x_goto (t := 23) dX6_shorten_77 rfl ?_
              refine x_forget 5 (x_forget 6 ?_)
              exact ihb
          refine x_iload_n dX6_shorten_12 x_get_7_3 ?_
          refine x_aload_n dX6_shorten_13 x_get_7_0 ?_
          refine x_getI 1 dX6_shorten_14 fX_6_15 rfl (by assumption) (by assumption) (by rfl) ?_
          rw [eT]
          refine r_icmp_ge (t := 86) dX6_shorten_17 rfl ⟨by omega, by omega⟩ ⟨by omega, by omega⟩ (fun hc17 => absurd hc17 (by omega)) (fun hc17 => ?_)
          refine x_iconst dX6_shorten_20 ?_
          refine x_istore dX6_shorten_21 (Nat.le_of_ble_eq_true rfl) rfl x_set_7_4 ?_
          exact l3 0 (Nat.zero_le _)
      refine x_iload_n dX6_shorten_2 x_get_7_2 ?_
      refine x_aload_n dX6_shorten_3 x_get_7_0 ?_
      refine x_getI 1 dX6_shorten_4 fX_6_15 rfl (by assumption) (by assumption) (by rfl) ?_
      rw [eT]
      refine r_icmp_ge (t := 92) dX6_shorten_7 rfl ⟨by omega, by omega⟩ ⟨by omega, by omega⟩ (fun hc7 => absurd hc7 (by omega)) (fun hc7 => ?_)
      refine x_iconst dX6_shorten_10 ?_
      refine x_istore_n dX6_shorten_11 (Nat.le_of_ble_eq_true rfl) rfl x_set_7_3 ?_
      exact l2 0 (Nat.zero_le _)
  refine x_mem (x_up_id (k := q)).symm ?_
  refine x_iconst dX6_shorten_0 ?_
  refine x_istore_n dX6_shorten_1 (Nat.le_of_ble_eq_true rfl) rfl x_set_7_2 ?_
  exact l1 0 (Nat.zero_le _)
theorem c6_measure {X : xC} {l : Launch} (hl : l.stackTraces = false) {N : Nat} {sh : xS} {D : xM} {ro : Nat} (hro : is_Ro N sh ro) {W : Nat} (q0 : D ro 0 = W) (q0b : W ≤ 12) (q1 : ∀ j, 0 ≤ D (ro + 1) j ∧ D (ro + 1) j ≤ 7) (q2 : ∀ j, 0 ≤ D (ro + 2) j ∧ D (ro + 2) j ≤ 7) (q3 : ∀ j, 0 ≤ D (ro + 3) j ∧ D (ro + 3) j ≤ 9) (q4 : ∀ j, 0 ≤ D (ro + 4) j ∧ D (ro + 4) j ≤ 9) {T : Nat} (qTb : T ≤ 8) : x_M X l yX6_measure cX6_measure 4 (none) 2 0 0 [.ref (x_b X + ro), .int (xI T)] false N sh D (.inl none) false N sh (x_is (x_up (x_up (x_up D ro (x_u1 (D ro) 1 T)) (ro + 5) (m_fw 1000000 (D (ro + 1)) (D (ro + 2)) (D (ro + 3)) W T)) (ro + 6) (m_fw 1000000 (D (ro + 1)) (D (ro + 2)) (fun w => D (ro + 3) w * D (ro + 4) w) W T))) := by
  obtain ⟨hroN, hr0, hr1, hr2, hr3, hr4, hr5, hr6⟩ := id hro
  have hroN0 : ro < N := by omega
  have hroN1 : ro + 1 < N := by omega
  have hroN2 : ro + 2 < N := by omega
  have hroN3 : ro + 3 < N := by omega
  have hroN4 : ro + 4 < N := by omega
  have hroN5 : ro + 5 < N := by omega
  have hroN6 : ro + 6 < N := by omega
  refine x_ofW (by decide +kernel) hl (by simp [Value.category]) (by simp) ?_
  have E : ∀ (u v : Int → Int) (j : Nat), ¬ j = ro → ¬ j = ro + 5 → ¬ j = ro + 6 → (x_up (x_up (x_up D ro (x_u1 (D ro) 1 T)) (ro + 5) u) (ro + 6) v) j = D j := fun u v j e1 e2 e3 => by rw [x_up_n e3, x_up_n e2, x_up_n e1]
  have E0 : ∀ (u v : Int → Int), (x_up (x_up (x_up D ro (x_u1 (D ro) 1 T)) (ro + 5) u) (ro + 6) v) ro = x_u1 (D ro) 1 T := fun u v => by rw [x_up_n (by omega), x_up_n (by omega), x_up_s]
  have E5 : ∀ (u v : Int → Int), (x_up (x_up (x_up D ro (x_u1 (D ro) 1 T)) (ro + 5) u) (ro + 6) v) (ro + 5) = u := fun u v => by rw [x_up_n (by omega), x_up_s]
  have E6 : ∀ (u v : Int → Int), (x_up (x_up (x_up D ro (x_u1 (D ro) 1 T)) (ro + 5) u) (ro + 6) v) (ro + 6) = v := fun u v => by rw [x_up_s]
  have U5 : ∀ (u v h : Int → Int), x_up (x_up (x_up (x_up D ro (x_u1 (D ro) 1 T)) (ro + 5) u) (ro + 6) v) (ro + 5) h = (x_up (x_up (x_up D ro (x_u1 (D ro) 1 T)) (ro + 5) h) (ro + 6) v) := fun u v h => by rw [x_up_up2, x_up_comm (by omega)]
  have U6 : ∀ (u v h : Int → Int), x_up (x_up (x_up (x_up D ro (x_u1 (D ro) 1 T)) (ro + 5) u) (ro + 6) v) (ro + 6) h = (x_up (x_up (x_up D ro (x_u1 (D ro) 1 T)) (ro + 5) u) (ro + 6) h) := fun u v h => by rw [x_up_up]
  have hv5 : ∀ j, 0 ≤ D (ro + 3) j ∧ D (ro + 3) j ≤ 1000000 := fun j => by have := q3 j; omega
  have hv6 : ∀ j, 0 ≤ D (ro + 3) j * D (ro + 4) j ∧ D (ro + 3) j * D (ro + 4) j ≤ 1000000 := fun j => by have := s_mul9 (q3 j).1 (q3 j).2 (q4 j).1 (q4 j).2; omega
  have l2 : ∀ i : Nat, i ≤ W → x_W (X, l, yX6_measure, cX6_measure, 4, none, x_room 2 0 0, 0, 0, (.inl none), N, sh, (x_is (x_up (x_up (x_up D ro (x_u1 (D ro) 1 T)) (ro + 5) (m_fw 1000000 (D (ro + 1)) (D (ro + 2)) (D (ro + 3)) W T)) (ro + 6) (m_fw 1000000 (D (ro + 1)) (D (ro + 2)) (fun w => D (ro + 3) w * D (ro + 4) w) W T))), false, []) 70 [some (.ref (x_b X + ro)), some (.int (xI T)), some (.int (xI i)), none] [] 0 0 false N sh (x_up (x_up (x_up D ro (x_u1 (D ro) 1 T)) (ro + 5) (m_ways 1000000 (D (ro + 1)) (D (ro + 2)) (D (ro + 3)) i)) (ro + 6) (m_ways 1000000 (D (ro + 1)) (D (ro + 2)) (fun w => D (ro + 3) w * D (ro + 4) w) i)) := by
    refine x_down W ?_ ?_
    · refine x_iload_n dX6_measure_70 x_get_4_2 ?_
      refine x_aload_n dX6_measure_71 x_get_4_0 ?_
      refine x_getI 0 dX6_measure_72 fX_6_9 rfl (by assumption) (by assumption) (by rfl) ?_
      rw [E0, x_u1_n (by decide), q0]
      refine r_icmp_ge (t := 121) dX6_measure_75 rfl ⟨by omega, by omega⟩ ⟨by omega, by omega⟩ (fun hc75 => ?_) (fun hc75 => absurd hc75 (by omega))
      refine x_aload_n dX6_measure_121 x_get_4_0 ?_
      refine x_aload_n dX6_measure_122 x_get_4_0 ?_
      refine x_getR dX6_measure_123 fX_6_31 (by assumption) (by assumption) (by rfl) ?_
      refine x_callV (As := [_]) dX6_measure_126 w_6_49 (c6_short hl hro (T := T) (by rw [E0, x_u1_s]) qTb hroN5 hr5 (by omega) (by rw [E5]; exact m_ok_ways (by decide) hv5 W)) (by assumption) (by assumption) rfl rfl (Nat.le_of_ble_eq_true rfl) (Nat.le_of_ble_eq_true rfl) (Nat.le_of_ble_eq_true rfl) (Nat.le_of_ble_eq_true rfl) (Nat.le_of_ble_eq_true rfl) ?_
      rintro _ rfl
      rw [E5, U5]
      refine x_aload_n dX6_measure_129 x_get_4_0 ?_
      refine x_aload_n dX6_measure_130 x_get_4_0 ?_
      refine x_getR dX6_measure_131 fX_6_34 (by assumption) (by assumption) (by rfl) ?_
      refine x_callV (As := [_]) dX6_measure_134 w_6_49 (c6_short hl hro (T := T) (by rw [E0, x_u1_s]) qTb hroN6 hr6 (by omega) (by rw [E6]; exact m_ok_ways (by decide) hv6 W)) (by assumption) (by assumption) rfl rfl (Nat.le_of_ble_eq_true rfl) (Nat.le_of_ble_eq_true rfl) (Nat.le_of_ble_eq_true rfl) (Nat.le_of_ble_eq_true rfl) (Nat.le_of_ble_eq_true rfl) ?_
      rintro _ rfl
      rw [E6, U6]
      exact x_vret dX6_measure_137 rfl (Nat.le_of_ble_eq_true rfl) (Nat.le_of_ble_eq_true rfl) rfl rfl rfl rfl rfl
    · intro i hi ih
      refine x_iload_n dX6_measure_70 x_get_4_2 ?_
      refine x_aload_n dX6_measure_71 x_get_4_0 ?_
      refine x_getI 0 dX6_measure_72 fX_6_9 rfl (by assumption) (by assumption) (by rfl) ?_
      first | rw [E0, x_u1_n (by decide), q0] | simp only [E _ _ _ (show ¬ ro + 1 = ro by omega) (show ¬ ro + 1 = ro + 5 by omega) (show ¬ ro + 1 = ro + 6 by omega), E _ _ _ (show ¬ ro + 2 = ro by omega) (show ¬ ro + 2 = ro + 5 by omega) (show ¬ ro + 2 = ro + 6 by omega), E _ _ _ (show ¬ ro + 3 = ro by omega) (show ¬ ro + 3 = ro + 5 by omega) (show ¬ ro + 3 = ro + 6 by omega), E _ _ _ (show ¬ ro + 4 = ro by omega) (show ¬ ro + 4 = ro + 5 by omega) (show ¬ ro + 4 = ro + 6 by omega), E5, E6, U5, U6]
      refine r_icmp_ge (t := 121) dX6_measure_75 rfl ⟨by omega, by omega⟩ ⟨by omega, by omega⟩ (fun hc75 => absurd hc75 (by omega)) (fun hc75 => ?_)
      refine x_aload_n dX6_measure_78 x_get_4_0 ?_
      refine x_aload_n dX6_measure_79 x_get_4_0 ?_
      refine x_getR dX6_measure_80 fX_6_31 (by assumption) (by assumption) (by rfl) ?_
      refine x_iload_n dX6_measure_83 x_get_4_2 ?_
      refine x_aload_n dX6_measure_84 x_get_4_0 ?_
      refine x_getR dX6_measure_85 fX_6_25 (by assumption) (by assumption) (by rfl) ?_
      refine x_iload_n dX6_measure_88 x_get_4_2 ?_
      refine x_iald dX6_measure_89 (by assumption) (by assumption) (by omega) (by omega) (by decide) ?_
      first | rw [E0, x_u1_n (by decide), q0] | simp only [E _ _ _ (show ¬ ro + 1 = ro by omega) (show ¬ ro + 1 = ro + 5 by omega) (show ¬ ro + 1 = ro + 6 by omega), E _ _ _ (show ¬ ro + 2 = ro by omega) (show ¬ ro + 2 = ro + 5 by omega) (show ¬ ro + 2 = ro + 6 by omega), E _ _ _ (show ¬ ro + 3 = ro by omega) (show ¬ ro + 3 = ro + 5 by omega) (show ¬ ro + 3 = ro + 6 by omega), E _ _ _ (show ¬ ro + 4 = ro by omega) (show ¬ ro + 4 = ro + 5 by omega) (show ¬ ro + 4 = ro + 6 by omega), E5, E6, U5, U6]
      refine x_callV (As := [_, _, _]) dX6_measure_90 w_6_45 (c6_both hl hro (by rw [E _ _ _ (by omega) (by omega) (by omega)]; exact q1) (by rw [E _ _ _ (by omega) (by omega) (by omega)]; exact q2) hroN5 hr5 (by omega) (w := (i : Int)) (by omega) (by omega)) (by assumption) (by assumption) rfl rfl (Nat.le_of_ble_eq_true rfl) (Nat.le_of_ble_eq_true rfl) (Nat.le_of_ble_eq_true rfl) (Nat.le_of_ble_eq_true rfl) (Nat.le_of_ble_eq_true rfl) ?_
      rintro _ rfl
      simp only [E _ _ _ (show ¬ ro + 1 = ro by omega) (show ¬ ro + 1 = ro + 5 by omega) (show ¬ ro + 1 = ro + 6 by omega), E _ _ _ (show ¬ ro + 2 = ro by omega) (show ¬ ro + 2 = ro + 5 by omega) (show ¬ ro + 2 = ro + 6 by omega), E _ _ _ (show ¬ ro + 3 = ro by omega) (show ¬ ro + 3 = ro + 5 by omega) (show ¬ ro + 3 = ro + 6 by omega), E _ _ _ (show ¬ ro + 4 = ro by omega) (show ¬ ro + 4 = ro + 5 by omega) (show ¬ ro + 4 = ro + 6 by omega), E5, E6, U5, U6]
      refine x_aload_n dX6_measure_93 x_get_4_0 ?_
      refine x_aload_n dX6_measure_94 x_get_4_0 ?_
      refine x_getR dX6_measure_95 fX_6_34 (by assumption) (by assumption) (by rfl) ?_
      refine x_iload_n dX6_measure_98 x_get_4_2 ?_
      refine x_aload_n dX6_measure_99 x_get_4_0 ?_
      refine x_getR dX6_measure_100 fX_6_25 (by assumption) (by assumption) (by rfl) ?_
      refine x_iload_n dX6_measure_103 x_get_4_2 ?_
      refine x_iald dX6_measure_104 (by assumption) (by assumption) (by omega) (by omega) (by decide) ?_
      first | rw [E0, x_u1_n (by decide), q0] | simp only [E _ _ _ (show ¬ ro + 1 = ro by omega) (show ¬ ro + 1 = ro + 5 by omega) (show ¬ ro + 1 = ro + 6 by omega), E _ _ _ (show ¬ ro + 2 = ro by omega) (show ¬ ro + 2 = ro + 5 by omega) (show ¬ ro + 2 = ro + 6 by omega), E _ _ _ (show ¬ ro + 3 = ro by omega) (show ¬ ro + 3 = ro + 5 by omega) (show ¬ ro + 3 = ro + 6 by omega), E _ _ _ (show ¬ ro + 4 = ro by omega) (show ¬ ro + 4 = ro + 5 by omega) (show ¬ ro + 4 = ro + 6 by omega), E5, E6, U5, U6]
      refine x_aload_n dX6_measure_105 x_get_4_0 ?_
      refine x_getR dX6_measure_106 fX_6_28 (by assumption) (by assumption) (by rfl) ?_
      refine x_iload_n dX6_measure_109 x_get_4_2 ?_
      refine x_iald dX6_measure_110 (by assumption) (by assumption) (by omega) (by omega) (by decide) ?_
      first | rw [E0, x_u1_n (by decide), q0] | simp only [E _ _ _ (show ¬ ro + 1 = ro by omega) (show ¬ ro + 1 = ro + 5 by omega) (show ¬ ro + 1 = ro + 6 by omega), E _ _ _ (show ¬ ro + 2 = ro by omega) (show ¬ ro + 2 = ro + 5 by omega) (show ¬ ro + 2 = ro + 6 by omega), E _ _ _ (show ¬ ro + 3 = ro by omega) (show ¬ ro + 3 = ro + 5 by omega) (show ¬ ro + 3 = ro + 6 by omega), E _ _ _ (show ¬ ro + 4 = ro by omega) (show ¬ ro + 4 = ro + 5 by omega) (show ¬ ro + 4 = ro + 6 by omega), E5, E6, U5, U6]
      refine x_imul dX6_measure_111 ?_
      refine x_callV (As := [_, _, _]) dX6_measure_112 w_6_45 (c6_both hl hro (by rw [E _ _ _ (by omega) (by omega) (by omega)]; exact q1) (by rw [E _ _ _ (by omega) (by omega) (by omega)]; exact q2) hroN6 hr6 (by omega) (w := (i : Int)) (by omega) (by omega)) (by assumption) (by assumption) rfl rfl (Nat.le_of_ble_eq_true rfl) (Nat.le_of_ble_eq_true rfl) (Nat.le_of_ble_eq_true rfl) (Nat.le_of_ble_eq_true rfl) (Nat.le_of_ble_eq_true rfl) ?_
      rintro _ rfl
      simp only [E _ _ _ (show ¬ ro + 1 = ro by omega) (show ¬ ro + 1 = ro + 5 by omega) (show ¬ ro + 1 = ro + 6 by omega), E _ _ _ (show ¬ ro + 2 = ro by omega) (show ¬ ro + 2 = ro + 5 by omega) (show ¬ ro + 2 = ro + 6 by omega), E _ _ _ (show ¬ ro + 3 = ro by omega) (show ¬ ro + 3 = ro + 5 by omega) (show ¬ ro + 3 = ro + 6 by omega), E _ _ _ (show ¬ ro + 4 = ro by omega) (show ¬ ro + 4 = ro + 5 by omega) (show ¬ ro + 4 = ro + 6 by omega), E5, E6, U5, U6]
      refine x_iinc dX6_measure_115 x_get_4_2 (Nat.le_of_ble_eq_true rfl) rfl x_set_4_2 ?_
      refine x_goto (t := 70) dX6_measure_118 rfl ?_
      exact ih
  have tail : ∀ (i : Nat), i < 64 → (∀ u v : Int → Int, (∀ j : Int, 0 ≤ j → j < (i + 1 : Nat) → u j = m_ini 1000000 j) → (∀ j : Int, 0 ≤ j → j < (i + 1 : Nat) → v j = m_ini 1000000 j) → x_W (X, l, yX6_measure, cX6_measure, 4, none, x_room 2 0 0, 0, 0, (.inl none), N, sh, (x_is (x_up (x_up (x_up D ro (x_u1 (D ro) 1 T)) (ro + 5) (m_fw 1000000 (D (ro + 1)) (D (ro + 2)) (D (ro + 3)) W T)) (ro + 6) (m_fw 1000000 (D (ro + 1)) (D (ro + 2)) (fun w => D (ro + 3) w * D (ro + 4) w) W T))), false, []) 7 [some (.ref (x_b X + ro)), some (.int (xI T)), some (.int (xI ((i + 1 : Nat) : Int))), none] [] 0 0 false N sh (x_up (x_up (x_up D ro (x_u1 (D ro) 1 T)) (ro + 5) u) (ro + 6) v)) → ∀ u v : Int → Int, (∀ j : Int, 0 ≤ j → j < i → u j = m_ini 1000000 j) → (∀ j : Int, 0 ≤ j → j < i → v j = m_ini 1000000 j) → x_W (X, l, yX6_measure, cX6_measure, 4, none, x_room 2 0 0, 0, 0, (.inl none), N, sh, (x_is (x_up (x_up (x_up D ro (x_u1 (D ro) 1 T)) (ro + 5) (m_fw 1000000 (D (ro + 1)) (D (ro + 2)) (D (ro + 3)) W T)) (ro + 6) (m_fw 1000000 (D (ro + 1)) (D (ro + 2)) (fun w => D (ro + 3) w * D (ro + 4) w) W T))), false, []) 29 [some (.ref (x_b X + ro)), some (.int (xI T)), some (.int (xI i)), none] [.int (xI (x_B ((i : Int) / 8 = (i : Int) % 8)))] 0 0 false N sh (x_up (x_up (x_up D ro (x_u1 (D ro) 1 T)) (ro + 5) u) (ro + 6) v) := by
    intro i hi ih u v hu hv
    have up : ∀ (f : Int → Int) (z : Int), z = m_ini 1000000 i → (∀ j : Int, 0 ≤ j → j < i → f j = m_ini 1000000 j) → ∀ j : Int, 0 ≤ j → j < (i + 1 : Nat) → x_u1 f i z j = m_ini 1000000 j := by
      intro f z hz hf j h0 h1
      by_cases hj : j = i
      · rw [hj, x_u1_s]; exact hz
      · rw [x_u1_n hj]; exact hf j h0 (by omega)
    refine x_istore_n dX6_measure_29 (Nat.le_of_ble_eq_true rfl) rfl x_set_4_3 ?_
    refine x_aload_n dX6_measure_30 x_get_4_0 ?_
    refine x_getR dX6_measure_31 fX_6_31 (by assumption) (by assumption) (by rfl) ?_
    refine x_iload_n dX6_measure_34 x_get_4_2 ?_
    refine x_iload_n dX6_measure_35 x_get_4_3 ?_
    refine b_ifeq (t := 43) dX6_measure_36 rfl (fun hc36 => ?_) (fun hc36 => ?_)
    · refine x_ldc (z := 1000000) dX6_measure_43 k_RX6_44 ?_
      refine x_iast dX6_measure_45 (by assumption) (by assumption) (by omega) (by omega) (by decide) ?_
      first | rw [E5, U5] | rw [E6, U6]
      refine x_aload_n dX6_measure_46 x_get_4_0 ?_
      refine x_getR dX6_measure_47 fX_6_34 (by assumption) (by assumption) (by rfl) ?_
      refine x_iload_n dX6_measure_50 x_get_4_2 ?_
      refine x_iload_n dX6_measure_51 x_get_4_3 ?_
      refine b_ifeq (t := 59) dX6_measure_52 rfl (fun hc52 => ?_) (fun hc52 => ?_)
      · refine x_ldc (z := 1000000) dX6_measure_59 k_RX6_44 ?_
        refine x_iast dX6_measure_61 (by assumption) (by assumption) (by omega) (by omega) (by decide) ?_
        first | rw [E5, U5] | rw [E6, U6]
        refine x_iinc dX6_measure_62 x_get_4_2 (Nat.le_of_ble_eq_true rfl) rfl x_set_4_2 ?_
        refine x_goto (t := 7) dX6_measure_65 rfl ?_
        refine x_forget 3 ?_
        exact ih _ _ (up _ _ (by unfold m_ini; first | (rw [if_pos (by assumption)]; done) | (rw [if_neg (by assumption)]; done)) hu) (up _ _ (by unfold m_ini; first | (rw [if_pos (by assumption)]; done) | (rw [if_neg (by assumption)]; done)) hv)
      · refine x_iconst dX6_measure_55 ?_
        refine x_goto (t := 61) dX6_measure_56 rfl ?_
        refine x_iast dX6_measure_61 (by assumption) (by assumption) (by omega) (by omega) (by decide) ?_
        first | rw [E5, U5] | rw [E6, U6]
        refine x_iinc dX6_measure_62 x_get_4_2 (Nat.le_of_ble_eq_true rfl) rfl x_set_4_2 ?_
        refine x_goto (t := 7) dX6_measure_65 rfl ?_
        refine x_forget 3 ?_
        exact ih _ _ (up _ _ (by unfold m_ini; first | (rw [if_pos (by assumption)]; done) | (rw [if_neg (by assumption)]; done)) hu) (up _ _ (by unfold m_ini; first | (rw [if_pos (by assumption)]; done) | (rw [if_neg (by assumption)]; done)) hv)
    · refine x_iconst dX6_measure_39 ?_
      refine x_goto (t := 45) dX6_measure_40 rfl ?_
      refine x_iast dX6_measure_45 (by assumption) (by assumption) (by omega) (by omega) (by decide) ?_
      first | rw [E5, U5] | rw [E6, U6]
      refine x_aload_n dX6_measure_46 x_get_4_0 ?_
      refine x_getR dX6_measure_47 fX_6_34 (by assumption) (by assumption) (by rfl) ?_
      refine x_iload_n dX6_measure_50 x_get_4_2 ?_
      refine x_iload_n dX6_measure_51 x_get_4_3 ?_
      refine b_ifeq (t := 59) dX6_measure_52 rfl (fun hc52 => ?_) (fun hc52 => ?_)
      · refine x_ldc (z := 1000000) dX6_measure_59 k_RX6_44 ?_
        refine x_iast dX6_measure_61 (by assumption) (by assumption) (by omega) (by omega) (by decide) ?_
        first | rw [E5, U5] | rw [E6, U6]
        refine x_iinc dX6_measure_62 x_get_4_2 (Nat.le_of_ble_eq_true rfl) rfl x_set_4_2 ?_
        refine x_goto (t := 7) dX6_measure_65 rfl ?_
        refine x_forget 3 ?_
        exact ih _ _ (up _ _ (by unfold m_ini; first | (rw [if_pos (by assumption)]; done) | (rw [if_neg (by assumption)]; done)) hu) (up _ _ (by unfold m_ini; first | (rw [if_pos (by assumption)]; done) | (rw [if_neg (by assumption)]; done)) hv)
      · refine x_iconst dX6_measure_55 ?_
        refine x_goto (t := 61) dX6_measure_56 rfl ?_
        refine x_iast dX6_measure_61 (by assumption) (by assumption) (by omega) (by omega) (by decide) ?_
        first | rw [E5, U5] | rw [E6, U6]
        refine x_iinc dX6_measure_62 x_get_4_2 (Nat.le_of_ble_eq_true rfl) rfl x_set_4_2 ?_
        refine x_goto (t := 7) dX6_measure_65 rfl ?_
        refine x_forget 3 ?_
        exact ih _ _ (up _ _ (by unfold m_ini; first | (rw [if_pos (by assumption)]; done) | (rw [if_neg (by assumption)]; done)) hu) (up _ _ (by unfold m_ini; first | (rw [if_pos (by assumption)]; done) | (rw [if_neg (by assumption)]; done)) hv)
  have l1 : ∀ i : Nat, i ≤ 64 → ∀ u v : Int → Int, (∀ j : Int, 0 ≤ j → j < i → u j = m_ini 1000000 j) → (∀ j : Int, 0 ≤ j → j < i → v j = m_ini 1000000 j) → x_W (X, l, yX6_measure, cX6_measure, 4, none, x_room 2 0 0, 0, 0, (.inl none), N, sh, (x_is (x_up (x_up (x_up D ro (x_u1 (D ro) 1 T)) (ro + 5) (m_fw 1000000 (D (ro + 1)) (D (ro + 2)) (D (ro + 3)) W T)) (ro + 6) (m_fw 1000000 (D (ro + 1)) (D (ro + 2)) (fun w => D (ro + 3) w * D (ro + 4) w) W T))), false, []) 7 [some (.ref (x_b X + ro)), some (.int (xI T)), some (.int (xI i)), none] [] 0 0 false N sh (x_up (x_up (x_up D ro (x_u1 (D ro) 1 T)) (ro + 5) u) (ro + 6) v) := by
    refine x_down 64 ?_ ?_
    · intro u v hu hv
      refine x_iload_n dX6_measure_7 x_get_4_2 ?_
      refine x_bipush dX6_measure_8 rfl ?_
      refine r_icmp_ge (t := 68) dX6_measure_10 rfl ⟨by omega, by omega⟩ ⟨by omega, by omega⟩ (fun hc10 => ?_) (fun hc10 => absurd hc10 (by omega))
      refine x_iconst dX6_measure_68 ?_
      refine x_istore_n dX6_measure_69 (Nat.le_of_ble_eq_true rfl) rfl x_set_4_2 ?_
      refine x_rng (m_ini 1000000) hr5 (fun j h0 h1 => by rw [E5]; exact hu j h0 h1) ?_
      rw [U5]
      refine x_rng (m_ini 1000000) hr6 (fun j h0 h1 => by rw [E6]; exact hv j h0 h1) ?_
      rw [U6]
      exact l2 0 (Nat.zero_le _)
    · intro i hi ih
      intro u v hu hv
      refine x_iload_n dX6_measure_7 x_get_4_2 ?_
      refine x_bipush dX6_measure_8 rfl ?_
      refine r_icmp_ge (t := 68) dX6_measure_10 rfl ⟨by omega, by omega⟩ ⟨by omega, by omega⟩ (fun hc10 => absurd hc10 (by omega)) (fun hc10 => ?_)
      refine x_iload_n dX6_measure_13 x_get_4_2 ?_
      refine x_bipush dX6_measure_14 rfl ?_
      refine x_idiv dX6_measure_16 (by decide) ?_
      refine x_as_is (x_dv_nn (by omega) (by omega) (by decide) (by decide)) ?_
      refine x_iload_n dX6_measure_17 x_get_4_2 ?_
      refine x_bipush dX6_measure_18 rfl ?_
      refine x_irem dX6_measure_20 (by decide) ?_
      refine x_as_is (x_rm_nn (by omega) (by omega) (by decide) (by decide)) ?_
      refine r_icmp_ne (t := 28) dX6_measure_21 rfl ⟨by omega, by omega⟩ ⟨by omega, by omega⟩ (fun hc21 => ?_) (fun hc21 => ?_)
      · refine x_iconst dX6_measure_28 ?_
        refine x_as_is (b := x_B ((i : Int) / 8 = (i : Int) % 8)) (by first | (rw [x_B, if_pos hc21]; done) | (rw [x_B, if_neg hc21]; done)) ?_
        exact tail i hi ih u v hu hv
      · refine x_iconst dX6_measure_24 ?_
        refine x_goto (t := 29) dX6_measure_25 rfl ?_
        refine x_as_is (b := x_B ((i : Int) / 8 = (i : Int) % 8)) (by first | (rw [x_B, if_pos hc21]; done) | (rw [x_B, if_neg hc21]; done)) ?_
        exact tail i hi ih u v hu hv
  refine x_aload_n dX6_measure_0 x_get_4_0 ?_
  refine x_iload_n dX6_measure_1 x_get_4_1 ?_
  refine x_putI 1 dX6_measure_2 fX_6_15 rfl tX_6_1 (by assumption) (by assumption) (by rfl) ?_
  refine x_iconst dX6_measure_5 ?_
  refine x_istore_n dX6_measure_6 (Nat.le_of_ble_eq_true rfl) rfl x_set_4_2 ?_
  refine x_mem (D' := (x_up (x_up (x_up D ro (x_u1 (D ro) 1 T)) (ro + 5) (D (ro + 5))) (ro + 6) (D (ro + 6)))) (by rw [x_up_comm (show ro ≠ ro + 5 by omega), x_up_id, x_up_comm (show ro ≠ ro + 6 by omega), x_up_id]) ?_
  exact l1 0 (Nat.zero_le _) _ _ (fun j a b => by omega) (fun j a b => by omega)
end C37
