section M85
/-! ===== Model: areLike, next ===== -/
abbrev a_lk (F : Int → Int) (T : Nat) (a b k : Int) : Prop := ∀ t : Nat, t < T → F (248 * a + 8 * k + t) = F (248 * b + 8 * k + t)
theorem g_len_s {P : Nat → Prop} [DecidablePred P] {g : Nat} (h : P g) : (g_l P (g + 1)).length = (g_l P g).length + 1 := by rw [g_l_s, if_pos h, List.length_append, List.length_singleton]
theorem g_get_s {P : Nat → Prop} [DecidablePred P] {g a : Nat} (h : P g) (ha : a < (g_l P g).length) : (g_l P (g + 1)).getD a 0 = (g_l P g).getD a 0 := by
  rw [g_l_s, if_pos h]
  simp [List.getD, List.getElem?_append_left ha]
theorem g_get_n {P : Nat → Prop} [DecidablePred P] {g : Nat} (h : P g) : (g_l P (g + 1)).getD (g_l P g).length 0 = g := by
  rw [g_l_s, if_pos h]
  simp [List.getD]
theorem g_get_in {P : Nat → Prop} [DecidablePred P] {g a : Nat} (ha : a < (g_l P g).length) : P ((g_l P g).getD a 0) ∧ (g_l P g).getD a 0 < g := by
  have e : (g_l P g).getD a 0 = (g_l P g)[a] := by simp [List.getD, List.getElem?_eq_getElem ha]
  rw [e]
  have := g_l_mem.mp (List.getElem_mem ha)
  exact ⟨this.2, this.1⟩
abbrev g_ok (G : Ldt) (T C : Nat) (f : Int → Int) (S : List (Int × Int × Int)) (g : Nat) (F : Int → Int) : Prop := ∀ a k t : Nat, a < (g_l (v_gs G T C f S) g).length → k ≤ 30 → t < T → F (248 * (a : Int) + 8 * k + t) = v_V G T C f ((g_l (v_gs G T C f S) g).getD a 0) k t
theorem c_l_in {L : Nat → Nat} {lk : Nat → Nat → Prop} [∀ i j, Decidable (lk i j)] : ∀ n : Nat, 0 ≤ c_l L lk n ∧ c_l L lk n ≤ n
  | 0 => ⟨Int.le_refl _, Int.le_refl _⟩
  | n + 1 => by
    have ih := c_l_in (L := L) (lk := lk) n
    have hb : 0 ≤ x_B (∀ b : Nat, b < n → ¬ lk (L n) (L b)) ∧ x_B (∀ b : Nat, b < n → ¬ lk (L n) (L b)) ≤ 1 := by unfold x_B; split <;> omega
    rw [c_l_s]
    push_cast
    omega
theorem w_12_423 : x_cv RX12 423 yX12_areLike cX12_areLike 5 (some .boolean) 12 3 := ⟨⟨_, rfl, rfl⟩, (x_in 1934 (by decide +kernel) rfl), (x_in 1936 (by decide +kernel) rfl), (x_in 73 (by decide +kernel) rfl), (x_in 90 (by decide +kernel) rfl), (x_in 1937 (by decide +kernel) rfl), by decide, ⟨by decide +kernel, by decide +kernel, by decide +kernel⟩⟩
theorem m_areLike {X : xC} {l : Launch} (hl : l.stackTraces = false) {N : Nat} {sh : xS} {D : xM} {T C W : Nat} {G : Ldt} (hq : mq N sh D T C W G) {a b k : Int} (ha0 : 0 ≤ a) (ha1 : a < 100) (hb0 : 0 ≤ b) (hb1 : b < 100) (hk0 : 0 ≤ k) (hk1 : k ≤ 30) (hx : ∀ t : Nat, t < T → x_r (D 92 (248 * a + 8 * k + t)) ∧ x_r (D 92 (248 * b + 8 * k + t))) : x_M X l yX12_areLike cX12_areLike 5 (some .boolean) 1 0 0 [.ref (x_b X + 62), .int (xI a), .int (xI b), .int (xI k)] false N sh D (.inl (some (.int (xI (x_B (a_lk (D 92) T a b k)))))) false N sh (x_is (D)) := by
  obtain ⟨hM, hT, hTb, hW, hWb, hC, hCb, hmk, ⟨hG1, hG2, hG3⟩, hod⟩ := id hq
  have s62 := md_62 hM
  have n62 : 62 < N := md_n hM (by decide)
  have s92 := md_92 hM
  have n92 : 92 < N := md_n hM (by decide)
  have lp : ∀ t : Nat, t ≤ T → (∀ t2 : Nat, t2 < t → D 92 (248 * a + 8 * k + t2) = D 92 (248 * b + 8 * k + t2)) → x_W (X, l, yX12_areLike, cX12_areLike, 5, (some .boolean), x_room 1 0 0, 0, 0, (.inl (some (.int (xI (x_B (a_lk (D 92) T a b k)))))), N, sh, (x_is (D)), false, []) 3 [some (.ref (x_b X + 62)), some (.int (xI a)), some (.int (xI b)), some (.int (xI k)), some (.int (xI (t : Int)))] [] 0 0 false N sh D := by
    refine x_down T ?_ ?_
    · intro hp
      refine x_iload dX12_areLike_3 x_get_5_4 ?_
      refine x_aload_n dX12_areLike_5 x_get_5_0 ?_
      refine x_getI 1 dX12_areLike_6 fX_12_281 rfl n62 s62 (by rfl) ?_
      try simp (disch := decide) only [x_up_s, x_up_n, x_up_up, x_u1_s, x_u1_n, hT]
      refine r_icmp_ge (t := 59) dX12_areLike_9 rfl ⟨by omega, by omega⟩ ⟨by omega, by omega⟩ (fun hc9 => ?_) (fun hc9 => absurd hc9 (by omega))
      refine x_iconst dX12_areLike_59 ?_
      exact x_zret dX12_areLike_60 rfl (by omega) (Nat.le_of_ble_eq_true rfl) (Nat.le_of_ble_eq_true rfl) (by rw [x_B, if_pos hp]) rfl rfl rfl rfl
    · intro t ht ih hp
      obtain ⟨⟨u0, u1⟩, v0, v1⟩ := hx t ht
      refine x_iload dX12_areLike_3 x_get_5_4 ?_
      refine x_aload_n dX12_areLike_5 x_get_5_0 ?_
      refine x_getI 1 dX12_areLike_6 fX_12_281 rfl n62 s62 (by rfl) ?_
      try simp (disch := decide) only [x_up_s, x_up_n, x_up_up, x_u1_s, x_u1_n, hT]
      refine r_icmp_ge (t := 59) dX12_areLike_9 rfl ⟨by omega, by omega⟩ ⟨by omega, by omega⟩ (fun hc9 => absurd hc9 (by omega)) (fun hc9 => ?_)
      refine x_aload_n dX12_areLike_12 x_get_5_0 ?_
      refine x_getR dX12_areLike_13 fX_12_105 n62 s62 (by rfl) ?_
      refine x_sipush dX12_areLike_16 rfl ?_
      refine x_iload_n dX12_areLike_19 x_get_5_1 ?_
      refine x_imul dX12_areLike_20 ?_
      refine x_bipush dX12_areLike_21 rfl ?_
      refine x_iload_n dX12_areLike_23 x_get_5_3 ?_
      refine x_imul dX12_areLike_24 ?_
      refine x_iadd dX12_areLike_25 ?_
      refine x_iload dX12_areLike_26 x_get_5_4 ?_
      refine x_iadd dX12_areLike_28 ?_
      refine x_iald dX12_areLike_29 n92 s92 (by omega) (by omega) (by decide) ?_
      try simp (disch := decide) only [x_up_s, x_up_n, x_up_up, x_u1_s, x_u1_n, hT]
      refine x_aload_n dX12_areLike_30 x_get_5_0 ?_
      refine x_getR dX12_areLike_31 fX_12_105 n62 s62 (by rfl) ?_
      refine x_sipush dX12_areLike_34 rfl ?_
      refine x_iload_n dX12_areLike_37 x_get_5_2 ?_
      refine x_imul dX12_areLike_38 ?_
      refine x_bipush dX12_areLike_39 rfl ?_
      refine x_iload_n dX12_areLike_41 x_get_5_3 ?_
      refine x_imul dX12_areLike_42 ?_
      refine x_iadd dX12_areLike_43 ?_
      refine x_iload dX12_areLike_44 x_get_5_4 ?_
      refine x_iadd dX12_areLike_46 ?_
      refine x_iald dX12_areLike_47 n92 s92 (by omega) (by omega) (by decide) ?_
      try simp (disch := decide) only [x_up_s, x_up_n, x_up_up, x_u1_s, x_u1_n, hT]
      refine r_icmp_eq (t := 53) dX12_areLike_48 rfl ⟨by omega, by omega⟩ ⟨by omega, by omega⟩ (fun hc48 => ?_) (fun hc48 => ?_)
      · refine x_iinc dX12_areLike_53 x_get_5_4 (Nat.le_of_ble_eq_true rfl) rfl x_set_5_4 ?_
        refine x_goto (t := 3) dX12_areLike_56 rfl ?_
        refine ih (fun t2 h2 => ?_)
        by_cases he : t2 = t
        · subst he; exact hc48
        · exact hp t2 (by omega)
      · refine x_iconst dX12_areLike_51 ?_
        exact x_zret dX12_areLike_52 rfl (by omega) (Nat.le_of_ble_eq_true rfl) (Nat.le_of_ble_eq_true rfl) (by rw [x_B, if_neg (fun h => hc48 (h t ht))]) rfl rfl rfl rfl
  refine x_ofW (by decide +kernel) hl (by simp [Value.category]) (by simp) ?_
  refine x_iconst dX12_areLike_0 ?_
  refine x_istore dX12_areLike_1 (Nat.le_of_ble_eq_true rfl) rfl x_set_5_4 ?_
  exact lp 0 (Nat.zero_le _) (fun t2 h => by omega)
set_option maxHeartbeats 16000000 in
theorem m_next {X : xC} {l : Launch} (hl : l.stackTraces = false) {N : Nat} {sh : xS} {D : xM} {T C W : Nat} {G : Ldt} (hq : mq N sh D T C W G) {B : Int} {f : Int → Int} (hk : s_ok B f) (hB : B ≤ 200000) (hr : mr T C f (D 82) 0) (hv84 : ∀ j, x_r (D 84 j)) {S : List (Int × Int × Int)} (hS : msee D S) (hSs : s_sn T S) (hpl : pl_ok T C f) {w : Int} (hwr : x_r w) : x_M X l yX12_next cX12_next 10 (some .int) 8 0 0 [.ref (x_b X + 62), .int (xI w)] false N sh D (m_r (q_next T C G f S w)) false N sh (fun d => ms D d ∧ d 62 0 = m_k 1 (q_next T C G f S w)) := by
  obtain ⟨hM, hT, hTb, hW, hWb, hC, hCb, hmk, ⟨hG1, hG2, hG3⟩, hod⟩ := id hq
  have s62 := md_62 hM
  have n62 : 62 < N := md_n hM (by decide)
  have s92 := md_92 hM
  have n92 : 92 < N := md_n hM (by decide)
  have s91 := md_91 hM
  have n91 : 91 < N := md_n hM (by decide)
  obtain ⟨hwr0, hwr1⟩ := id hwr
  have hO := mq_gO hq
  unfold q_next
  by_cases hw : 0 ≤ w ∧ w ≤ 1
  · rw [if_pos hw]
    obtain ⟨hw0, hw1⟩ := id hw
    rw [m_r_i, m_k_i]
    refine x_ofW (by decide +kernel) hl (by simp [Value.category]) (by simp) ?_
    refine x_aload_n dX12_next_0 x_get_10_0 ?_
    refine x_iconst dX12_next_1 ?_
    refine x_putI 0 dX12_next_2 fX_12_117 rfl tX_12_0 n62 s62 (by rfl) ?_
    have z0 := m_go0 hq hr hv84
    generalize x_up D 62 (x_u1 (D 62) 0 0) = d0 at z0 ⊢
    obtain ⟨q0, t0, ms0, r0, v0⟩ := z0
    have hrg : ∀ g k t : Nat, v_gs G T C f S g → g < 10 * C → k ≤ 30 → t < T → x_r (v_V G T C f g k t) := by
      intro g k t hg hg2 hk2 ht
      have hz := (v_gs_iff hO hTb hCb hk hpl hSs hg2).mp hg
      obtain ⟨b1, b2, b3, b4⟩ := z_is_pl hk hCb hpl hz
      have h1 := (s_ok_oq hk hG1 hG2 hTb hCb (Or.inr ⟨by omega, by omega, b2, b3⟩) (o := g % 10) (c := ((g / 10 : Nat) : Int)) k).2
      have h2 := (s_tn h1 (t := (t : Int)) (by omega) (by omega)).1
      exact ⟨by unfold v_V; omega, by unfold v_V; omega⟩
    have hlen : (g_l (v_gs G T C f S) (10 * C)).length ≤ 10 * C := g_l_len
    have key : ∀ d : xM, ms d0 d → d 62 0 = 0 → g_ok G T C f S (10 * C) (d 92) → ∀ k : Nat, k ≤ 31 → ∀ o6 o7 o8 o9 : Option Value, x_W (X, l, yX12_next, cX12_next, 10, (some .int), x_room 8 0 0, 0, 0, (.inl (some (.int (xI ((if w = 0 then (l_next T C G f S 31).1 else (l_next T C G f S 31).2)))))), N, sh, (fun d => ms D d ∧ d 62 0 = 0), false, []) 96 [some (.ref (x_b X + 62)), some (.int (xI w)), some (.int (xI ((g_l (v_gs G T C f S) (10 * C)).length : Int))), some (.int (xI (l_next T C G f S k).1)), some (.int (xI (l_next T C G f S k).2)), some (.int (xI (k : Int))), o6, o7, o8, o9] [] 0 0 false N sh d := by
      intro d hm ht hok
      have qd := ms_mq q0 hm
      refine x_down 31 ?_ ?_
      · intro o6 o7 o8 o9
        refine x_iload dX12_next_96 x_get_10_5 ?_
        refine x_bipush dX12_next_98 rfl ?_
        refine r_icmp_gt (t := 203) dX12_next_100 rfl ⟨by omega, by omega⟩ ⟨by omega, by omega⟩ (fun hc100 => ?_) (fun hc100 => absurd hc100 (by omega))
        refine x_iload_n dX12_next_203 x_get_10_1 ?_
        refine r_if_ne (t := 211) dX12_next_204 rfl ⟨by omega, by omega⟩ (fun hc204 => ?_) (fun hc204 => ?_)
        · refine x_iload dX12_next_211 x_get_10_4 ?_
          exact x_iret dX12_next_213 rfl (Nat.le_of_ble_eq_true rfl) (Nat.le_of_ble_eq_true rfl) (by first | (rw [if_pos hc204]; done) | (rw [if_neg hc204]; done)) rfl rfl ⟨ms_tr ms0 hm, ht⟩ rfl
        · refine x_iload_n dX12_next_207 x_get_10_3 ?_
          refine x_goto (t := 213) dX12_next_208 rfl ?_
          exact x_iret dX12_next_213 rfl (Nat.le_of_ble_eq_true rfl) (Nat.le_of_ble_eq_true rfl) (by first | (rw [if_pos hc204]; done) | (rw [if_neg hc204]; done)) rfl rfl ⟨ms_tr ms0 hm, ht⟩ rfl
      · intro k hk2 ih o6 o7 o8 o9
        have hlin := l_next_in T C G f S k (by omega)
        have hzn := z_n_in T C G f S k
        have hcz := c_l_zn hO hk hTb hCb hpl hSs (k := k) (by omega)
        have e := l_next_s (T := T) (C := C) (G := G) (f := f) (S := S) (k := k)
        have cnt : ∀ a : Nat, a ≤ (g_l (v_gs G T C f S) (10 * C)).length → ∀ o8 o9 : Option Value, x_W (X, l, yX12_next, cX12_next, 10, (some .int), x_room 8 0 0, 0, 0, (.inl (some (.int (xI ((if w = 0 then (l_next T C G f S 31).1 else (l_next T C G f S 31).2)))))), N, sh, (fun d => ms D d ∧ d 62 0 = 0), false, []) 109 [some (.ref (x_b X + 62)), some (.int (xI w)), some (.int (xI ((g_l (v_gs G T C f S) (10 * C)).length : Int))), some (.int (xI (l_next T C G f S k).1)), some (.int (xI (l_next T C G f S k).2)), some (.int (xI (k : Int))), some (.int (xI (c_l (fun a : Nat => (g_l (v_gs G T C f S) (10 * C)).getD a 0) (v_lk G T C f k) a))), some (.int (xI (a : Int))), o8, o9] [] 0 0 false N sh d := by
          refine x_down (g_l (v_gs G T C f S) (10 * C)).length ?_ ?_
          · intro o8 o9
            rw [hcz]
            refine x_iload dX12_next_109 x_get_10_7 ?_
            refine x_iload_n dX12_next_111 x_get_10_2 ?_
            refine r_icmp_ge (t := 180) dX12_next_112 rfl ⟨by omega, by omega⟩ ⟨by omega, by omega⟩ (fun hc112 => ?_) (fun hc112 => absurd hc112 (by omega))
            refine x_iload dX12_next_180 x_get_10_6 ?_
            refine x_iload dX12_next_182 x_get_10_4 ?_
            refine r_icmp_gt (t := 190) dX12_next_184 rfl ⟨by omega, by omega⟩ ⟨by omega, by omega⟩ (fun hc184 => ?_) (fun hc184 => ?_)
            · refine x_iload dX12_next_190 x_get_10_5 ?_
              refine x_istore_n dX12_next_192 (Nat.le_of_ble_eq_true rfl) rfl x_set_10_3 ?_
              refine x_iload dX12_next_193 x_get_10_6 ?_
              refine x_istore dX12_next_195 (Nat.le_of_ble_eq_true rfl) rfl x_set_10_4 ?_
              refine x_iinc dX12_next_197 x_get_10_5 (Nat.le_of_ble_eq_true rfl) rfl x_set_10_5 ?_
              refine x_goto (t := 96) dX12_next_200 rfl ?_
              first | (rw [if_pos (by omega)] at e; rw [e] at ih; exact ih _ _ _ _) | (rw [if_neg (by omega)] at e; rw [e] at ih; exact ih _ _ _ _)
            · refine x_goto (t := 197) dX12_next_187 rfl ?_
              refine x_iinc dX12_next_197 x_get_10_5 (Nat.le_of_ble_eq_true rfl) rfl x_set_10_5 ?_
              refine x_goto (t := 96) dX12_next_200 rfl ?_
              first | (rw [if_pos (by omega)] at e; rw [e] at ih; exact ih _ _ _ _) | (rw [if_neg (by omega)] at e; rw [e] at ih; exact ih _ _ _ _)
          · intro a ha ih2 o8 o9
            have hcl := c_l_in (L := (fun a : Nat => (g_l (v_gs G T C f S) (10 * C)).getD a 0)) (lk := v_lk G T C f k) a
            have e2 := c_l_s (L := (fun a : Nat => (g_l (v_gs G T C f S) (10 * C)).getD a 0)) (lk := v_lk G T C f k) (a := a)
            have ex : ∀ o9 : Option Value, x_W (X, l, yX12_next, cX12_next, 10, (some .int), x_room 8 0 0, 0, 0, (.inl (some (.int (xI ((if w = 0 then (l_next T C G f S 31).1 else (l_next T C G f S 31).2)))))), N, sh, (fun d => ms D d ∧ d 62 0 = 0), false, []) 159 [some (.ref (x_b X + 62)), some (.int (xI w)), some (.int (xI ((g_l (v_gs G T C f S) (10 * C)).length : Int))), some (.int (xI (l_next T C G f S k).1)), some (.int (xI (l_next T C G f S k).2)), some (.int (xI (k : Int))), some (.int (xI (c_l (fun a : Nat => (g_l (v_gs G T C f S) (10 * C)).getD a 0) (v_lk G T C f k) a))), some (.int (xI (a : Int))), some (.int (xI (x_B (∀ b' : Nat, b' < a → ¬ v_lk G T C f k ((fun a : Nat => (g_l (v_gs G T C f S) (10 * C)).getD a 0) a) ((fun a : Nat => (g_l (v_gs G T C f S) (10 * C)).getD a 0) b'))))), o9] [] 0 0 false N sh d := by
              intro o9
              refine x_iload dX12_next_159 x_get_10_6 ?_
              refine x_iload dX12_next_161 x_get_10_8 ?_
              refine b_ifeq (t := 170) dX12_next_163 rfl (fun hc163 => ?_) (fun hc163 => ?_)
              · refine x_iconst dX12_next_170 ?_
                refine x_iadd dX12_next_171 ?_
                refine x_istore dX12_next_172 (Nat.le_of_ble_eq_true rfl) rfl x_set_10_6 ?_
                refine x_iinc dX12_next_174 x_get_10_7 (Nat.le_of_ble_eq_true rfl) rfl x_set_10_7 ?_
                refine x_goto (t := 109) dX12_next_177 rfl ?_
                first | (rw [x_B, if_pos hc163] at e2; rw [e2] at ih2; exact ih2 _ _) | (rw [x_B, if_neg hc163] at e2; rw [e2] at ih2; exact ih2 _ _)
              · refine x_iconst dX12_next_166 ?_
                refine x_goto (t := 171) dX12_next_167 rfl ?_
                refine x_iadd dX12_next_171 ?_
                refine x_istore dX12_next_172 (Nat.le_of_ble_eq_true rfl) rfl x_set_10_6 ?_
                refine x_iinc dX12_next_174 x_get_10_7 (Nat.le_of_ble_eq_true rfl) rfl x_set_10_7 ?_
                refine x_goto (t := 109) dX12_next_177 rfl ?_
                first | (rw [x_B, if_pos hc163] at e2; rw [e2] at ih2; exact ih2 _ _) | (rw [x_B, if_neg hc163] at e2; rw [e2] at ih2; exact ih2 _ _)
            have inn : ∀ b : Nat, b ≤ a → x_W (X, l, yX12_next, cX12_next, 10, (some .int), x_room 8 0 0, 0, 0, (.inl (some (.int (xI ((if w = 0 then (l_next T C G f S 31).1 else (l_next T C G f S 31).2)))))), N, sh, (fun d => ms D d ∧ d 62 0 = 0), false, []) 121 [some (.ref (x_b X + 62)), some (.int (xI w)), some (.int (xI ((g_l (v_gs G T C f S) (10 * C)).length : Int))), some (.int (xI (l_next T C G f S k).1)), some (.int (xI (l_next T C G f S k).2)), some (.int (xI (k : Int))), some (.int (xI (c_l (fun a : Nat => (g_l (v_gs G T C f S) (10 * C)).getD a 0) (v_lk G T C f k) a))), some (.int (xI (a : Int))), some (.int (xI (x_B (∀ b' : Nat, b' < b → ¬ v_lk G T C f k ((fun a : Nat => (g_l (v_gs G T C f S) (10 * C)).getD a 0) a) ((fun a : Nat => (g_l (v_gs G T C f S) (10 * C)).getD a 0) b'))))), some (.int (xI (b : Int)))] [] 0 0 false N sh d := by
              refine x_down a ?_ ?_
              ·
                refine x_iload dX12_next_121 x_get_10_9 ?_
                refine x_iload dX12_next_123 x_get_10_7 ?_
                refine r_icmp_ge (t := 159) dX12_next_125 rfl ⟨by omega, by omega⟩ ⟨by omega, by omega⟩ (fun hc125 => ?_) (fun hc125 => absurd hc125 (by omega))
                exact ex _
              · intro b hb ih3
                have hlk : a_lk (d 92) T (a : Int) (b : Int) (k : Int) ↔ v_lk G T C f k ((fun a : Nat => (g_l (v_gs G T C f S) (10 * C)).getD a 0) a) ((fun a : Nat => (g_l (v_gs G T C f S) (10 * C)).getD a 0) b) := by
                  constructor
                  · intro h t ht; have h2 := h t ht; rw [hok a k t (by omega) (by omega) ht, hok b k t (by omega) (by omega) ht] at h2; exact h2
                  · intro h t ht; rw [hok a k t (by omega) (by omega) ht, hok b k t (by omega) (by omega) ht]; exact h t ht
                have hx : ∀ t : Nat, t < T → x_r (d 92 (248 * (a : Int) + 8 * (k : Int) + t)) ∧ x_r (d 92 (248 * (b : Int) + 8 * (k : Int) + t)) := by
                  intro t ht
                  rw [hok a k t (by omega) (by omega) ht, hok b k t (by omega) (by omega) ht]
                  have i1 := g_get_in (P := v_gs G T C f S) (g := 10 * C) (a := a) (by omega)
                  have i2 := g_get_in (P := v_gs G T C f S) (g := 10 * C) (a := b) (by omega)
                  exact ⟨hrg _ k t i1.1 i1.2 (by omega) ht, hrg _ k t i2.1 i2.2 (by omega) ht⟩
                refine x_iload dX12_next_121 x_get_10_9 ?_
                refine x_iload dX12_next_123 x_get_10_7 ?_
                refine r_icmp_ge (t := 159) dX12_next_125 rfl ⟨by omega, by omega⟩ ⟨by omega, by omega⟩ (fun hc125 => absurd hc125 (by omega)) (fun hc125 => ?_)
                refine x_iload dX12_next_128 x_get_10_8 ?_
                refine b_ifeq (t := 159) dX12_next_130 rfl (fun hc130 => ?_) (fun hc130 => ?_)
                · have hq0 : ¬ (∀ b' : Nat, b' < a → ¬ v_lk G T C f k ((fun a : Nat => (g_l (v_gs G T C f S) (10 * C)).getD a 0) a) ((fun a : Nat => (g_l (v_gs G T C f S) (10 * C)).getD a 0) b')) := fun h => hc130 (fun b2 h2 => h b2 (by omega))
                  rw [show x_B (∀ b' : Nat, b' < a → ¬ v_lk G T C f k ((fun a : Nat => (g_l (v_gs G T C f S) (10 * C)).getD a 0) a) ((fun a : Nat => (g_l (v_gs G T C f S) (10 * C)).getD a 0) b')) = 0 from if_neg hq0] at ex
                  first | (rw [x_B, if_neg hc130]; exact ex _) | exact ex _
                · refine x_aload_n dX12_next_133 x_get_10_0 ?_
                  refine x_iload dX12_next_134 x_get_10_7 ?_
                  refine x_iload dX12_next_136 x_get_10_9 ?_
                  refine x_iload dX12_next_138 x_get_10_5 ?_
                  refine x_callV (As := [_, _, _]) dX12_next_140 w_12_423 (m_areLike hl qd (a := (a : Int)) (b := (b : Int)) (k := (k : Int)) (by omega) (by omega) (by omega) (by omega) (by omega) (by omega) hx) (by assumption) (by assumption) rfl rfl (Nat.le_of_ble_eq_true rfl) (Nat.le_of_ble_eq_true rfl) (Nat.le_of_ble_eq_true rfl) (Nat.le_of_ble_eq_true rfl) (Nat.le_of_ble_eq_true rfl) ?_
                  intro dz hdz
                  obtain rfl := Eq.symm hdz
                  refine b_ifne (t := 150) dX12_next_143 rfl (fun hc143 => ?_) (fun hc143 => ?_)
                  · refine x_iconst dX12_next_150 ?_
                    refine x_istore dX12_next_151 (Nat.le_of_ble_eq_true rfl) rfl x_set_10_8 ?_
                    refine x_iinc dX12_next_153 x_get_10_9 (Nat.le_of_ble_eq_true rfl) rfl x_set_10_9 ?_
                    refine x_goto (t := 121) dX12_next_156 rfl ?_
                    first
                      | (have hq1 : (∀ b' : Nat, b' < (b + 1) → ¬ v_lk G T C f k ((fun a : Nat => (g_l (v_gs G T C f S) (10 * C)).getD a 0) a) ((fun a : Nat => (g_l (v_gs G T C f S) (10 * C)).getD a 0) b')) := fun b2 h2 => if he : b2 = b then (he ▸ (fun h => hc143 (hlk.mpr h))) else hc130 b2 (by omega)
                         rw [show x_B (∀ b' : Nat, b' < (b + 1) → ¬ v_lk G T C f k ((fun a : Nat => (g_l (v_gs G T C f S) (10 * C)).getD a 0) a) ((fun a : Nat => (g_l (v_gs G T C f S) (10 * C)).getD a 0) b')) = 1 from if_pos hq1] at ih3
                         exact ih3)
                      | (have hq1 : ¬ (∀ b' : Nat, b' < (b + 1) → ¬ v_lk G T C f k ((fun a : Nat => (g_l (v_gs G T C f S) (10 * C)).getD a 0) a) ((fun a : Nat => (g_l (v_gs G T C f S) (10 * C)).getD a 0) b')) := fun h => h b (by omega) (hlk.mp hc143)
                         rw [show x_B (∀ b' : Nat, b' < (b + 1) → ¬ v_lk G T C f k ((fun a : Nat => (g_l (v_gs G T C f S) (10 * C)).getD a 0) a) ((fun a : Nat => (g_l (v_gs G T C f S) (10 * C)).getD a 0) b')) = 0 from if_neg hq1] at ih3
                         exact ih3)
                  · refine x_iconst dX12_next_146 ?_
                    refine x_goto (t := 151) dX12_next_147 rfl ?_
                    refine x_istore dX12_next_151 (Nat.le_of_ble_eq_true rfl) rfl x_set_10_8 ?_
                    refine x_iinc dX12_next_153 x_get_10_9 (Nat.le_of_ble_eq_true rfl) rfl x_set_10_9 ?_
                    refine x_goto (t := 121) dX12_next_156 rfl ?_
                    first
                      | (have hq1 : (∀ b' : Nat, b' < (b + 1) → ¬ v_lk G T C f k ((fun a : Nat => (g_l (v_gs G T C f S) (10 * C)).getD a 0) a) ((fun a : Nat => (g_l (v_gs G T C f S) (10 * C)).getD a 0) b')) := fun b2 h2 => if he : b2 = b then (he ▸ (fun h => hc143 (hlk.mpr h))) else hc130 b2 (by omega)
                         rw [show x_B (∀ b' : Nat, b' < (b + 1) → ¬ v_lk G T C f k ((fun a : Nat => (g_l (v_gs G T C f S) (10 * C)).getD a 0) a) ((fun a : Nat => (g_l (v_gs G T C f S) (10 * C)).getD a 0) b')) = 1 from if_pos hq1] at ih3
                         exact ih3)
                      | (have hq1 : ¬ (∀ b' : Nat, b' < (b + 1) → ¬ v_lk G T C f k ((fun a : Nat => (g_l (v_gs G T C f S) (10 * C)).getD a 0) a) ((fun a : Nat => (g_l (v_gs G T C f S) (10 * C)).getD a 0) b')) := fun h => h b (by omega) (hlk.mp hc143)
                         rw [show x_B (∀ b' : Nat, b' < (b + 1) → ¬ v_lk G T C f k ((fun a : Nat => (g_l (v_gs G T C f S) (10 * C)).getD a 0) a) ((fun a : Nat => (g_l (v_gs G T C f S) (10 * C)).getD a 0) b')) = 0 from if_neg hq1] at ih3
                         exact ih3)
            refine x_iload dX12_next_109 x_get_10_7 ?_
            refine x_iload_n dX12_next_111 x_get_10_2 ?_
            refine r_icmp_ge (t := 180) dX12_next_112 rfl ⟨by omega, by omega⟩ ⟨by omega, by omega⟩ (fun hc112 => absurd hc112 (by omega)) (fun hc112 => ?_)
            refine x_iconst dX12_next_115 ?_
            refine x_istore dX12_next_116 (Nat.le_of_ble_eq_true rfl) rfl x_set_10_8 ?_
            refine x_iconst dX12_next_118 ?_
            refine x_istore dX12_next_119 (Nat.le_of_ble_eq_true rfl) rfl x_set_10_9 ?_
            have h0 := inn 0 (Nat.zero_le _)
            rw [show x_B (∀ b' : Nat, b' < 0 → ¬ v_lk G T C f k ((fun a : Nat => (g_l (v_gs G T C f S) (10 * C)).getD a 0) a) ((fun a : Nat => (g_l (v_gs G T C f S) (10 * C)).getD a 0) b')) = 1 from if_pos (fun b2 h2 => by omega)] at h0
            exact h0
        refine x_iload dX12_next_96 x_get_10_5 ?_
        refine x_bipush dX12_next_98 rfl ?_
        refine r_icmp_gt (t := 203) dX12_next_100 rfl ⟨by omega, by omega⟩ ⟨by omega, by omega⟩ (fun hc100 => absurd hc100 (by omega)) (fun hc100 => ?_)
        refine x_iconst dX12_next_103 ?_
        refine x_istore dX12_next_104 (Nat.le_of_ble_eq_true rfl) rfl x_set_10_6 ?_
        refine x_iconst dX12_next_106 ?_
        refine x_istore dX12_next_107 (Nat.le_of_ble_eq_true rfl) rfl x_set_10_7 ?_
        exact cnt 0 (Nat.zero_le _) _ _
    have lp : ∀ g : Nat, g ≤ 10 * C → ∀ d : xM, ms d0 d → d 62 0 = 0 → g_ok G T C f S g (d 92) → ∀ o4 o5 o6 o7 o8 o9 : Option Value, x_W (X, l, yX12_next, cX12_next, 10, (some .int), x_room 8 0 0, 0, 0, (.inl (some (.int (xI ((if w = 0 then (l_next T C G f S 31).1 else (l_next T C G f S 31).2)))))), N, sh, (fun d => ms D d ∧ d 62 0 = 0), false, []) 20 [some (.ref (x_b X + 62)), some (.int (xI w)), some (.int (xI ((g_l (v_gs G T C f S) g).length : Int))), some (.int (xI (g : Int))), o4, o5, o6, o7, o8, o9] [] 0 0 false N sh d := by
      refine x_down (10 * C) ?_ ?_
      · intro d hm ht hok o4 o5 o6 o7 o8 o9
        have hC1 : d 62 3 = C := (ms_mq q0 hm).2.2.2.2.2.1
        refine x_iload_n dX12_next_20 x_get_10_3 ?_
        refine x_bipush dX12_next_21 rfl ?_
        refine x_aload_n dX12_next_23 x_get_10_0 ?_
        refine x_getI 3 dX12_next_24 fX_12_287 rfl n62 s62 (by rfl) ?_
        try simp (disch := decide) only [x_up_s, x_up_n, x_up_up, x_u1_s, x_u1_n, hC1]
        refine x_imul dX12_next_27 ?_
        refine r_icmp_ge (t := 88) dX12_next_28 rfl ⟨by omega, by omega⟩ ⟨by omega, by omega⟩ (fun hc28 => ?_) (fun hc28 => absurd hc28 (by omega))
        refine x_iconst dX12_next_88 ?_
        refine x_istore_n dX12_next_89 (Nat.le_of_ble_eq_true rfl) rfl x_set_10_3 ?_
        refine x_iconst dX12_next_90 ?_
        refine x_istore dX12_next_91 (Nat.le_of_ble_eq_true rfl) rfl x_set_10_4 ?_
        refine x_iconst dX12_next_93 ?_
        refine x_istore dX12_next_94 (Nat.le_of_ble_eq_true rfl) rfl x_set_10_5 ?_
        exact key d hm ht hok 0 (Nat.zero_le _) _ _ _ _
      · intro g hg ih d hm ht hok o4 o5 o6 o7 o8 o9
        have qd := ms_mq q0 hm
        have hC1 : d 62 3 = C := qd.2.2.2.2.2.1
        have hS1 : msee d S := msee_of (msee_of hS (ms0.2.1 52 (by decide) (by decide) (by decide)) (ms0.1 90 (by decide) (by decide) (by decide) (by decide) (by decide))) (hm.2.1 52 (by decide) (by decide) (by decide)) (hm.1 90 (by decide) (by decide) (by decide) (by decide) (by decide))
        have hgl : (g_l (v_gs G T C f S) g).length ≤ g := g_l_len
        have cp : v_gs G T C f S g → ∀ d2 : xM, ms d0 d2 → d2 62 0 = 0 → g_ok G T C f S g (d2 92) → lk_ok G T C f ((g / 10 : Nat) : Int) (g % 10) 31 (d2 91) → ∀ i : Nat, i ≤ 248 → ∀ F : Int → Int, (∀ j : Int, j < 248 * ((g_l (v_gs G T C f S) g).length : Int) → F j = d2 92 j) → (∀ j : Int, 0 ≤ j → j < i → F (248 * ((g_l (v_gs G T C f S) g).length : Int) + j) = d2 91 j) → x_W (X, l, yX12_next, cX12_next, 10, (some .int), x_room 8 0 0, 0, 0, (.inl (some (.int (xI ((if w = 0 then (l_next T C G f S 31).1 else (l_next T C G f S 31).2)))))), N, sh, (fun d => ms D d ∧ d 62 0 = 0), false, []) 45 [some (.ref (x_b X + 62)), some (.int (xI w)), some (.int (xI ((g_l (v_gs G T C f S) g).length : Int))), some (.int (xI (g : Int))), some (.int (xI (i : Int))), o5, o6, o7, o8, o9] [] 0 0 false N sh (x_up d2 92 F) := by
          intro hgs d2 hm2 ht2 hok2 hlk2
          refine x_down 248 ?_ ?_
          · intro F hF1 hF2
            refine x_iload dX12_next_45 x_get_10_4 ?_
            refine x_sipush dX12_next_47 rfl ?_
            refine r_icmp_ge (t := 79) dX12_next_50 rfl ⟨by omega, by omega⟩ ⟨by omega, by omega⟩ (fun hc50 => ?_) (fun hc50 => absurd hc50 (by omega))
            refine x_iinc dX12_next_79 x_get_10_2 (Nat.le_of_ble_eq_true rfl) rfl x_set_10_2 ?_
            refine x_iinc dX12_next_82 x_get_10_3 (Nat.le_of_ble_eq_true rfl) rfl x_set_10_3 ?_
            refine x_goto (t := 20) dX12_next_85 rfl ?_
            rw [g_len_s hgs] at ih
            refine ih _ (ms_92 hm2) (by rw [x_up_n (by decide)]; exact ht2) (fun a k t ha hk3 ht3 => ?_) _ _ _ _ _ _
            rw [x_up_s]
            rw [g_len_s hgs] at ha
            by_cases han : a = (g_l (v_gs G T C f S) g).length
            · subst han
              rw [g_get_n hgs, Int.add_assoc, hF2 _ (by omega) (by omega)]
              exact hlk2 k t (by omega) ht3
            · rw [g_get_s hgs (by omega), hF1 _ (by omega)]
              exact hok2 a k t (by omega) hk3 ht3
          · intro i hi ih4 F hF1 hF2
            refine x_iload dX12_next_45 x_get_10_4 ?_
            refine x_sipush dX12_next_47 rfl ?_
            refine r_icmp_ge (t := 79) dX12_next_50 rfl ⟨by omega, by omega⟩ ⟨by omega, by omega⟩ (fun hc50 => absurd hc50 (by omega)) (fun hc50 => ?_)
            refine x_aload_n dX12_next_53 x_get_10_0 ?_
            refine x_getR dX12_next_54 fX_12_105 n62 s62 (by rfl) ?_
            refine x_sipush dX12_next_57 rfl ?_
            refine x_iload_n dX12_next_60 x_get_10_2 ?_
            refine x_imul dX12_next_61 ?_
            refine x_iload dX12_next_62 x_get_10_4 ?_
            refine x_iadd dX12_next_64 ?_
            refine x_aload_n dX12_next_65 x_get_10_0 ?_
            refine x_getR dX12_next_66 fX_12_102 n62 s62 (by rfl) ?_
            refine x_iload dX12_next_69 x_get_10_4 ?_
            refine x_iald dX12_next_71 n91 s91 (by omega) (by omega) (by decide) ?_
            try simp (disch := decide) only [x_up_s, x_up_n, x_up_up, x_u1_s, x_u1_n]
            refine x_iast dX12_next_72 n92 s92 (by omega) (by omega) (by decide) ?_
            try simp (disch := decide) only [x_up_s, x_up_n, x_up_up, x_u1_s, x_u1_n]
            refine x_iinc dX12_next_73 x_get_10_4 (Nat.le_of_ble_eq_true rfl) rfl x_set_10_4 ?_
            refine x_goto (t := 45) dX12_next_76 rfl ?_
            refine ih4 _ (fun j hj => ?_) (fun j hj0 hj1 => ?_)
            · rw [x_u1_n (by omega)]; exact hF1 j hj
            · by_cases hji : j = i
              · subst hji; rw [x_u1_s]
              · rw [x_u1_n (by omega)]; exact hF2 j hj0 (by omega)
        refine x_iload_n dX12_next_20 x_get_10_3 ?_
        refine x_bipush dX12_next_21 rfl ?_
        refine x_aload_n dX12_next_23 x_get_10_0 ?_
        refine x_getI 3 dX12_next_24 fX_12_287 rfl n62 s62 (by rfl) ?_
        try simp (disch := decide) only [x_up_s, x_up_n, x_up_up, x_u1_s, x_u1_n, hC1]
        refine x_imul dX12_next_27 ?_
        refine r_icmp_ge (t := 88) dX12_next_28 rfl ⟨by omega, by omega⟩ ⟨by omega, by omega⟩ (fun hc28 => absurd hc28 (by omega)) (fun hc28 => ?_)
        refine x_aload_n dX12_next_31 x_get_10_0 ?_
        refine x_iload_n dX12_next_32 x_get_10_3 ?_
        refine x_callV (As := [_]) dX12_next_33 w_12_420 (m_isGuess hl qd hk hB (ms_mr hTb hCb hm r0) hm.2.2.2 hS1 hSs hpl hg) (by assumption) (by assumption) rfl rfl (Nat.le_of_ble_eq_true rfl) (Nat.le_of_ble_eq_true rfl) (Nat.le_of_ble_eq_true rfl) (Nat.le_of_ble_eq_true rfl) (Nat.le_of_ble_eq_true rfl) ?_
        rintro d2 ⟨h1, h2, h3, h4⟩
        have hm2 := ms_tr hm h1
        have ht2 : d2 62 0 = 0 := by rw [h2]; exact ht
        have hok2 : g_ok G T C f S g (d2 92) := by rw [h3 92 (by decide) (by decide) (by decide) (by decide) (by decide)]; exact hok
        refine b_ifne (t := 42) dX12_next_36 rfl (fun hc36 => ?_) (fun hc36 => ?_)
        · refine x_iconst dX12_next_42 ?_
          refine x_istore dX12_next_43 (Nat.le_of_ble_eq_true rfl) rfl x_set_10_4 ?_
          refine x_mem (x_up_id (k := 92)).symm ?_
          exact cp hc36 d2 hm2 ht2 hok2 (h4 hc36) 0 (Nat.zero_le _) _ (fun j _ => rfl) (fun j a b => by omega)
        · refine x_goto (t := 82) dX12_next_39 rfl ?_
          refine x_iinc dX12_next_82 x_get_10_3 (Nat.le_of_ble_eq_true rfl) rfl x_set_10_3 ?_
          refine x_goto (t := 20) dX12_next_85 rfl ?_
          have e5 : g_l (v_gs G T C f S) (g + 1) = g_l (v_gs G T C f S) g := by rw [g_l_s, if_neg hc36]
          rw [e5] at ih
          exact ih d2 hm2 ht2 (fun a k t ha hk3 ht3 => by rw [e5] at ha ⊢; exact hok2 a k t ha hk3 ht3) _ _ _ _ _ _
    refine x_aload_n dX12_next_5 x_get_10_0 ?_
    refine x_iload_n dX12_next_6 x_get_10_1 ?_
    refine x_iconst dX12_next_7 ?_
    refine x_callV (As := [_, _]) dX12_next_8 w_12_365 (m_isWhatT hl q0.1 t0 hwr ⟨by decide, by decide⟩ hw) (by assumption) (by assumption) rfl rfl (Nat.le_of_ble_eq_true rfl) (Nat.le_of_ble_eq_true rfl) (Nat.le_of_ble_eq_true rfl) (Nat.le_of_ble_eq_true rfl) (Nat.le_of_ble_eq_true rfl) ?_
    intro dz hdz
    obtain rfl := Eq.symm hdz
    refine r_if_ne (t := 16) dX12_next_11 rfl ⟨by omega, by omega⟩ (fun hc11 => ?_) (fun hc11 => absurd hc11 (by omega))
    refine x_iconst dX12_next_16 ?_
    refine x_istore_n dX12_next_17 (Nat.le_of_ble_eq_true rfl) rfl x_set_10_2 ?_
    refine x_iconst dX12_next_18 ?_
    refine x_istore_n dX12_next_19 (Nat.le_of_ble_eq_true rfl) rfl x_set_10_3 ?_
    exact lp 0 (Nat.zero_le _) d0 (ms_rf v0) t0 (fun a k t ha => by simp [g_l] at ha) _ _ _ _ _ _
  · rw [if_neg hw]
    refine x_ofW (by decide +kernel) hl (by simp [Value.category]) (by simp) ?_
    refine x_aload_n dX12_next_0 x_get_10_0 ?_
    refine x_iconst dX12_next_1 ?_
    refine x_putI 0 dX12_next_2 fX_12_117 rfl tX_12_0 n62 s62 (by rfl) ?_
    have z0 := m_go0 hq hr hv84
    generalize x_up D 62 (x_u1 (D 62) 0 0) = d0 at z0 ⊢
    obtain ⟨q0, t0, ms0, r0, v0⟩ := z0
    refine x_aload_n dX12_next_5 x_get_10_0 ?_
    refine x_iload_n dX12_next_6 x_get_10_1 ?_
    refine x_iconst dX12_next_7 ?_
    refine x_callV (As := [_, _]) dX12_next_8 w_12_365 (m_isWhatF hl q0.1 t0 hwr ⟨by decide, by decide⟩ hw) (by assumption) (by assumption) rfl rfl (Nat.le_of_ble_eq_true rfl) (Nat.le_of_ble_eq_true rfl) (Nat.le_of_ble_eq_true rfl) (Nat.le_of_ble_eq_true rfl) (Nat.le_of_ble_eq_true rfl) ?_
    intro dz hdz
    obtain rfl := Eq.symm hdz
    refine r_if_ne (t := 16) dX12_next_11 rfl ⟨by omega, by omega⟩ (fun hc11 => absurd hc11 (by omega)) (fun hc11 => ?_)
    refine x_iconst dX12_next_14 ?_
    exact x_iret dX12_next_15 rfl (Nat.le_of_ble_eq_true rfl) (Nat.le_of_ble_eq_true rfl) rfl rfl rfl ⟨ms_thr ms0, by rw [x_up_s, x_u1_s, m_k_N]⟩ rfl
end M85
