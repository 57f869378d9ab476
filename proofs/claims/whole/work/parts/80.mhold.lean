section M80
/-! ===== the Model's hold ===== -/
theorem k_holdn_s {f : Int → Int} {n rest : Nat} {al last : Int} : k_holdn f (n + 1) rest al last = if k_follow f rest last al = -1 then -1 else k_holdn f n (b_sub rest (2 ^ (k_follow f rest last al).toNat)) (al - k_last f last (k_follow f rest last al)) (k_follow f rest last al) := rfl
def k_lf (f : Int → Int) (last : Int) (rest : Nat) : Int := if last = -1 then k_harm f rest else k_behind f last rest
theorem k_lf_ge {B : Int} {f : Int → Int} (hk : s_ok B f) {last : Int} (hl0 : -1 ≤ last) (hl1 : last < 10) {m d : Nat} (hm : m < 1024) (hd : m.testBit d = true) : k_lf f last m ≤ k_last f last d + k_behind f (d : Int) (b_sub m (2 ^ d)) := by
  unfold k_lf k_last
  by_cases h : last = -1
  · rw [if_pos h, if_pos h]; have := kh_ge hk hm hd; omega
  · rw [if_neg h, if_neg h]; exact kb_ge hk (by omega) hl1 hm hd
theorem k_lf_ex {B : Int} {f : Int → Int} (hk : s_ok B f) {last : Int} (hl0 : -1 ≤ last) (hl1 : last < 10) {m : Nat} (hm : m < 1024) (hm0 : ¬ m = 0) : ∃ d, m.testBit d = true ∧ k_last f last d + k_behind f (d : Int) (b_sub m (2 ^ d)) = k_lf f last m := by
  unfold k_lf k_last
  by_cases h : last = -1
  · obtain ⟨d, h1, h2⟩ := kh_ex hk hm hm0
    refine ⟨d, h1, ?_⟩
    rw [if_pos h, if_pos h]; omega
  · rw [if_neg h]
    simp only [if_neg h]
    exact kb_ex hk (by omega) hl1 hm hm0
theorem s_pop_sub : ∀ c : Nat, c < 10 → ∀ m : Nat, m < 1024 → m.testBit c = true → s_pop (b_sub m (2 ^ c)) + 1 = s_pop m := by
  have h0 : ∀ m : Nat, m < 1024 → m.testBit 0 = true → s_pop (b_sub m (2 ^ 0)) + 1 = s_pop m := by decide +kernel
  have h1 : ∀ m : Nat, m < 1024 → m.testBit 1 = true → s_pop (b_sub m (2 ^ 1)) + 1 = s_pop m := by decide +kernel
  have h2 : ∀ m : Nat, m < 1024 → m.testBit 2 = true → s_pop (b_sub m (2 ^ 2)) + 1 = s_pop m := by decide +kernel
  have h3 : ∀ m : Nat, m < 1024 → m.testBit 3 = true → s_pop (b_sub m (2 ^ 3)) + 1 = s_pop m := by decide +kernel
  have h4 : ∀ m : Nat, m < 1024 → m.testBit 4 = true → s_pop (b_sub m (2 ^ 4)) + 1 = s_pop m := by decide +kernel
  have h5 : ∀ m : Nat, m < 1024 → m.testBit 5 = true → s_pop (b_sub m (2 ^ 5)) + 1 = s_pop m := by decide +kernel
  have h6 : ∀ m : Nat, m < 1024 → m.testBit 6 = true → s_pop (b_sub m (2 ^ 6)) + 1 = s_pop m := by decide +kernel
  have h7 : ∀ m : Nat, m < 1024 → m.testBit 7 = true → s_pop (b_sub m (2 ^ 7)) + 1 = s_pop m := by decide +kernel
  have h8 : ∀ m : Nat, m < 1024 → m.testBit 8 = true → s_pop (b_sub m (2 ^ 8)) + 1 = s_pop m := by decide +kernel
  have h9 : ∀ m : Nat, m < 1024 → m.testBit 9 = true → s_pop (b_sub m (2 ^ 9)) + 1 = s_pop m := by decide +kernel
  intro c hc
  have : c = 0 ∨ c = 1 ∨ c = 2 ∨ c = 3 ∨ c = 4 ∨ c = 5 ∨ c = 6 ∨ c = 7 ∨ c = 8 ∨ c = 9 := by omega
  rcases this with rfl | rfl | rfl | rfl | rfl | rfl | rfl | rfl | rfl | rfl
  · exact h0
  · exact h1
  · exact h2
  · exact h3
  · exact h4
  · exact h5
  · exact h6
  · exact h7
  · exact h8
  · exact h9
theorem s_pop_0 : s_pop 0 = 0 := by decide
/-- what a run from above finds -/
def h_df (P : Nat → Prop) (C j : Nat) (y : Int) : Prop := (y = -1 ∧ ∀ c, j ≤ c → c < C → ¬ P c) ∨ ∃ c : Nat, y = c ∧ j ≤ c ∧ c < C ∧ P c ∧ ∀ e, j ≤ e → e < c → ¬ P e
theorem h_df_hit {P : Nat → Prop} {C j : Nat} {y : Int} (h : h_df P C (j + 1) y) (hj : j < C) (hp : P j) : h_df P C j (j : Int) := Or.inr ⟨j, rfl, Nat.le_refl _, hj, hp, fun e h1 h2 => by omega⟩
theorem h_df_no {P : Nat → Prop} {C j : Nat} {y : Int} (h : h_df P C (j + 1) y) (hp : ¬ P j) : h_df P C j y := by
  rcases h with ⟨h1, h2⟩ | ⟨c, h1, h2, h3, h4, h5⟩
  · refine Or.inl ⟨h1, fun c hc hC => ?_⟩
    by_cases he : c = j
    · subst he; exact hp
    · exact h2 c (by omega) hC
  · refine Or.inr ⟨c, h1, by omega, h3, h4, fun e he1 he2 => ?_⟩
    by_cases he : e = j
    · subst he; exact hp
    · exact h5 e (by omega) he2
theorem h_df_in {P : Nat → Prop} {C j : Nat} {y : Int} (h : h_df P C j y) : -1 ≤ y ∧ y < C := by
  rcases h with ⟨h1, -⟩ | ⟨c, h1, -, h3, -⟩ <;> omega
theorem w_12_408 : x_cv RX12 408 yX12_harms cX12_harms 3 (some .int) 12 2 := ⟨⟨_, rfl, rfl⟩, (x_in 1895 (by decide +kernel) rfl), (x_in 1897 (by decide +kernel) rfl), (x_in 70 (by decide +kernel) rfl), (x_in 90 (by decide +kernel) rfl), (x_in 1898 (by decide +kernel) rfl), by decide, ⟨by decide +kernel, by decide +kernel, by decide +kernel⟩⟩
theorem m_harms {X : xC} {l : Launch} (hl : l.stackTraces = false) {N : Nat} {sh : xS} {D : xM} {T C W : Nat} {G : Ldt} (hq : mq N sh D T C W G) {B : Int} {f : Int → Int} (hk : s_ok B f) (hB : B ≤ 1000000) (hr : mr T C f (D 82) 0) {c d : Int} (h0 : 0 ≤ c) (h1 : c < C) (h2 : 0 ≤ d) (h3 : d < C) : x_M X l yX12_harms cX12_harms 3 (some .int) 2 0 0 [.ref (x_b X + 62), .int (xI c), .int (xI d)] false N sh D (.inl (some (.int (xI (k_btw f c d))))) false N sh (x_is (D)) := by
  obtain ⟨hM, hT, hTb, hW, hWb, hC, hCb, hmk, ⟨hG1, hG2, hG3⟩, hod⟩ := id hq
  have s62 := md_62 hM
  have n62 : 62 < N := md_n hM (by decide)
  have s82 := md_82 hM
  have n82 : 82 < N := md_n hM (by decide)
  have hcr := s_cr hk (c := c) (by omega) (by omega)
  have hdr := s_cr hk (c := d) (by omega) (by omega)
  have e25 : D 82 (25 + c) = f (25 + c) := mr_c hr rfl (by decide) h0 h1
  have e25d : D 82 (25 + d) = f (25 + d) := mr_c hr rfl (by decide) h2 h3
  have e35 : D 82 (35 + c) = f (35 + c) := mr_c hr rfl (by decide) h0 h1
  have e35d : D 82 (35 + d) = f (35 + d) := mr_c hr rfl (by decide) h2 h3
  refine x_ofW (by decide +kernel) hl (by simp [Value.category]) (by simp) ?_
  refine x_aload_n dX12_harms_0 x_get_3_0 ?_
  refine x_getR dX12_harms_1 fX_12_75 n62 s62 (by rfl) ?_
  refine x_bipush dX12_harms_4 rfl ?_
  refine x_iload_n dX12_harms_6 x_get_3_1 ?_
  refine x_iadd dX12_harms_7 ?_
  refine x_iald dX12_harms_8 n82 s82 (by omega) (by omega) (by decide) ?_
  try simp (disch := decide) only [x_up_s, x_up_n, x_up_up, x_u1_s, x_u1_n, e25, e25d, e35, e35d]
  refine x_aload_n dX12_harms_9 x_get_3_0 ?_
  refine x_getR dX12_harms_10 fX_12_75 n62 s62 (by rfl) ?_
  refine x_bipush dX12_harms_13 rfl ?_
  refine x_iload_n dX12_harms_15 x_get_3_2 ?_
  refine x_iadd dX12_harms_16 ?_
  refine x_iald dX12_harms_17 n82 s82 (by omega) (by omega) (by decide) ?_
  try simp (disch := decide) only [x_up_s, x_up_n, x_up_up, x_u1_s, x_u1_n, e25, e25d, e35, e35d]
  refine r_icmp_ne (t := 23) dX12_harms_18 rfl ⟨by omega, by omega⟩ ⟨by omega, by omega⟩ (fun hc18 => ?_) (fun hc18 => ?_)
  · refine x_aload_n dX12_harms_23 x_get_3_0 ?_
    refine x_getR dX12_harms_24 fX_12_75 n62 s62 (by rfl) ?_
    refine x_bipush dX12_harms_27 rfl ?_
    refine x_iload_n dX12_harms_29 x_get_3_1 ?_
    refine x_iadd dX12_harms_30 ?_
    refine x_iald dX12_harms_31 n82 s82 (by omega) (by omega) (by decide) ?_
    try simp (disch := decide) only [x_up_s, x_up_n, x_up_up, x_u1_s, x_u1_n, e25, e25d, e35, e35d]
    refine x_aload_n dX12_harms_32 x_get_3_0 ?_
    refine x_getR dX12_harms_33 fX_12_75 n62 s62 (by rfl) ?_
    refine x_bipush dX12_harms_36 rfl ?_
    refine x_iload_n dX12_harms_38 x_get_3_2 ?_
    refine x_iadd dX12_harms_39 ?_
    refine x_iald dX12_harms_40 n82 s82 (by omega) (by omega) (by decide) ?_
    try simp (disch := decide) only [x_up_s, x_up_n, x_up_up, x_u1_s, x_u1_n, e25, e25d, e35, e35d]
    refine x_callS (As := [_, _]) dX12_harms_41 w_12_323 (m_lesser hl ⟨by omega, by omega⟩ ⟨by omega, by omega⟩) rfl rfl (Nat.le_of_ble_eq_true rfl) (Nat.le_of_ble_eq_true rfl) (Nat.le_of_ble_eq_true rfl) (Nat.le_of_ble_eq_true rfl) (Nat.le_of_ble_eq_true rfl) ?_
    intro dz hdz
    obtain rfl := Eq.symm hdz
    exact x_iret dX12_harms_44 rfl (Nat.le_of_ble_eq_true rfl) (Nat.le_of_ble_eq_true rfl) (by unfold k_btw; rw [if_neg hc18]) rfl rfl rfl rfl
  · refine x_iconst dX12_harms_21 ?_
    exact x_iret dX12_harms_22 rfl (Nat.le_of_ble_eq_true rfl) (Nat.le_of_ble_eq_true rfl) (by unfold k_btw; rw [if_pos hc18]) rfl rfl rfl rfl
set_option maxHeartbeats 16000000 in
theorem m_laysHold {X : xC} {l : Launch} (hl : l.stackTraces = false) {N : Nat} {sh : xS} {D : xM} {T C W : Nat} {G : Ldt} (hq : mq N sh D T C W G) {B : Int} {f : Int → Int} (hk : s_ok B f) (hB : B ≤ 1000000) (hr : mr T C f (D 82) 0) {al : Nat} (hal : al < 1024) (hb : ∀ i, al.testBit i = true → i < C) : x_M X l yX12_laysHold cX12_laysHold 6 (none) 3 0 0 [.ref (x_b X + 62), .int (xI (al : Int))] false N sh D (.inl none) false N sh (fun d => ∃ A, d = x_up D 88 A ∧ h_ok f al C 0 A) := by
  obtain ⟨hM, hT, hTb, hW, hWb, hC, hCb, hmk, ⟨hG1, hG2, hG3⟩, hod⟩ := id hq
  have s62 := md_62 hM
  have n62 : 62 < N := md_n hM (by decide)
  have s88 := md_88 hM
  have n88 : 88 < N := md_n hM (by decide)
  have s82 := md_82 hM
  have n82 : 82 < N := md_n hM (by decide)
  have hloop : ∀ s : Nat, s ≤ al → ∀ A : Int → Int, h_ok f al C s A → ∀ o3 o4 o5 : Option Value, x_W (X, l, yX12_laysHold, cX12_laysHold, 6, none, x_room 3 0 0, 0, 0, (.inl none), N, sh, (fun d => ∃ A, d = x_up D 88 A ∧ h_ok f al C 0 A), false, []) 2 [some (.ref (x_b X + 62)), some (.int (xI (al : Int))), some (.int (xI (s : Int))), o3, o4, o5] [] 0 0 false N sh (x_up D 88 A) := by
    intro s
    induction s with
    | zero =>
      intro _ A hA o3 o4 o5
      refine x_iload_n dX12_laysHold_2 x_get_6_2 ?_
      refine r_if_le (t := 138) dX12_laysHold_3 rfl ⟨by omega, by omega⟩ (fun hc3 => ?_) (fun hc3 => absurd hc3 (by omega))
      exact x_vret dX12_laysHold_138 rfl (Nat.le_of_ble_eq_true rfl) (Nat.le_of_ble_eq_true rfl) rfl rfl rfl ⟨A, rfl, hA⟩ rfl
    | succ s ih =>
      intro hs A hA o3 o4 o5
      have next : ∀ A : Int → Int, h_ok f al C s A → ∀ o3 o4 o5 : Option Value, x_W (X, l, yX12_laysHold, cX12_laysHold, 6, none, x_room 3 0 0, 0, 0, (.inl none), N, sh, (fun d => ∃ A, d = x_up D 88 A ∧ h_ok f al C 0 A), false, []) 132 [some (.ref (x_b X + 62)), some (.int (xI (al : Int))), some (.int (xI ((s + 1 : Nat) : Int))), o3, o4, o5] [] 0 0 false N sh (x_up D 88 A) := by
        intro A hA o3 o4 o5
        refine x_iinc dX12_laysHold_132 x_get_6_2 (Nat.le_of_ble_eq_true rfl) rfl x_set_6_2 ?_
        refine x_goto (t := 2) dX12_laysHold_135 rfl ?_
        rw [show ((s + 1 : Nat) : Int) + -1 = (s : Int) by push_cast; omega]
        exact ih (by omega) A hA _ _ _
      by_cases hsub : b_sub (s + 1) al = 0
      · have cl : ∀ c : Nat, c ≤ C → ∀ A : Int → Int, h_ok f al C (s + 1) A → (∀ c2 : Nat, c2 < c → A (10 * ((s + 1 : Nat) : Int) + c2) = k_behind f c2 (b_sub al (s + 1))) → ∀ o4 o5 : Option Value, x_W (X, l, yX12_laysHold, cX12_laysHold, 6, none, x_room 3 0 0, 0, 0, (.inl none), N, sh, (fun d => ∃ A, d = x_up D 88 A ∧ h_ok f al C 0 A), false, []) 19 [some (.ref (x_b X + 62)), some (.int (xI (al : Int))), some (.int (xI ((s + 1 : Nat) : Int))), some (.int (xI (c : Int))), o4, o5] [] 0 0 false N sh (x_up D 88 A) := by
          refine x_down C ?_ ?_
          · intro A hA hA2 o4 o5
            refine x_iload_n dX12_laysHold_19 x_get_6_3 ?_
            refine x_aload_n dX12_laysHold_20 x_get_6_0 ?_
            refine x_getI 3 dX12_laysHold_21 fX_12_287 rfl n62 s62 (by rfl) ?_
            try simp (disch := decide) only [x_up_s, x_up_n, x_up_up, x_u1_s, x_u1_n, hC]
            refine r_icmp_ge (t := 132) dX12_laysHold_24 rfl ⟨by omega, by omega⟩ ⟨by omega, by omega⟩ (fun hc24 => ?_) (fun hc24 => absurd hc24 (by omega))
            refine next A (fun x hx hx2 c2 hc2 => ?_) _ _ _
            by_cases hxs : x = s + 1
            · subst hxs; exact hA2 c2 hc2
            · exact hA x (by omega) hx2 c2 hc2
          · intro c hc ih2 A hA hA2 o4 o5
            have hfe := h_fd_eq hk hal hb (set := s + 1) (c := (c : Int)) (by omega) (by omega) hsub
            have dl : ∀ d : Nat, d ≤ C → x_W (X, l, yX12_laysHold, cX12_laysHold, 6, none, x_room 3 0 0, 0, 0, (.inl none), N, sh, (fun d => ∃ A, d = x_up D 88 A ∧ h_ok f al C 0 A), false, []) 44 [some (.ref (x_b X + 62)), some (.int (xI (al : Int))), some (.int (xI ((s + 1 : Nat) : Int))), some (.int (xI (c : Int))), some (.int (xI (h_fd f al (s + 1) (c : Int) d))), some (.int (xI (d : Int)))] [] 0 0 false N sh (x_up D 88 A) := by
              refine x_down C ?_ ?_
              · rw [hfe]
                refine x_iload dX12_laysHold_44 x_get_6_5 ?_
                refine x_aload_n dX12_laysHold_46 x_get_6_0 ?_
                refine x_getI 3 dX12_laysHold_47 fX_12_287 rfl n62 s62 (by rfl) ?_
                try simp (disch := decide) only [x_up_s, x_up_n, x_up_up, x_u1_s, x_u1_n, hC]
                refine r_icmp_ge (t := 113) dX12_laysHold_50 rfl ⟨by omega, by omega⟩ ⟨by omega, by omega⟩ (fun hc50 => ?_) (fun hc50 => absurd hc50 (by omega))
                refine x_aload_n dX12_laysHold_113 x_get_6_0 ?_
                refine x_getR dX12_laysHold_114 fX_12_93 n62 s62 (by rfl) ?_
                refine x_bipush dX12_laysHold_117 rfl ?_
                refine x_iload_n dX12_laysHold_119 x_get_6_2 ?_
                refine x_imul dX12_laysHold_120 ?_
                refine x_iload_n dX12_laysHold_121 x_get_6_3 ?_
                refine x_iadd dX12_laysHold_122 ?_
                refine x_iload dX12_laysHold_123 x_get_6_4 ?_
                refine x_iast dX12_laysHold_125 n88 s88 (by omega) (by omega) (by decide) ?_
                try simp (disch := decide) only [x_up_s, x_up_n, x_up_up, x_u1_s, x_u1_n, hC]
                refine x_iinc dX12_laysHold_126 x_get_6_3 (Nat.le_of_ble_eq_true rfl) rfl x_set_6_3 ?_
                refine x_goto (t := 19) dX12_laysHold_129 rfl ?_
                refine ih2 _ (fun x hx hx2 c2 hc2 => ?_) (fun c2 hc2 => ?_) _ _
                · rw [x_u1_n (by omega)]; exact hA x hx hx2 c2 hc2
                · by_cases hcc : c2 = c
                  · subst hcc; rw [x_u1_s]
                  · rw [x_u1_n (by omega)]; exact hA2 c2 (by omega)
              · intro d hd ih3
                have b1 := m_bt_in al d
                have b2 := m_bt_in (s + 1) d
                have g1 := h_fd_ge hk (set := s + 1) hal (c := (c : Int)) (by omega) (by omega) d
                have g0 := k_behind_in hk (c := (c : Int)) (by omega) (by omega) (b_sub al (s + 1))
                have e := h_fd_s (f := f) (al := al) (set := s + 1) (c := (c : Int)) (d := d)
                have g2 := k_btw_in hk (c := (c : Int)) (by omega) (by omega) (d := (d : Int)) (by omega) (by omega)
                have g3 := k_behind_in hk (c := (d : Int)) (by omega) (by omega) (b_sub al (s + 1 ||| 2 ^ d))
                have q8 : mq N sh (x_up D 88 A) T C W G := mq_of hq (fun i _ _ => by rw [x_up_n (by decide)]) (fun j a b => x_up_n (by omega))
                have r8 : mr T C f ((x_up D 88 A) 82) 0 := by rw [x_up_n (by decide)]; exact hr
                refine x_iload dX12_laysHold_44 x_get_6_5 ?_
                refine x_aload_n dX12_laysHold_46 x_get_6_0 ?_
                refine x_getI 3 dX12_laysHold_47 fX_12_287 rfl n62 s62 (by rfl) ?_
                try simp (disch := decide) only [x_up_s, x_up_n, x_up_up, x_u1_s, x_u1_n, hC]
                refine r_icmp_ge (t := 113) dX12_laysHold_50 rfl ⟨by omega, by omega⟩ ⟨by omega, by omega⟩ (fun hc50 => absurd hc50 (by omega)) (fun hc50 => ?_)
                refine x_iload_n dX12_laysHold_53 x_get_6_1 ?_
                refine x_iload dX12_laysHold_54 x_get_6_5 ?_
                refine x_ishr dX12_laysHold_56 ?_
                refine x_iconst dX12_laysHold_57 ?_
                refine x_iand dX12_laysHold_58 ?_
                rw [m_sr hal (by omega)]
                refine r_if_eq (t := 107) dX12_laysHold_59 rfl ⟨by omega, by omega⟩ (fun hc59 => ?_) (fun hc59 => ?_)
                · refine x_iinc dX12_laysHold_107 x_get_6_5 (Nat.le_of_ble_eq_true rfl) rfl x_set_6_5 ?_
                  refine x_goto (t := 44) dX12_laysHold_110 rfl ?_
                  first | (have hz : ¬ al.testBit d = true := m_bt_0.mp hc59; rw [if_neg (fun h => hz h.1)] at e; rw [e] at ih3; exact ih3) | (have hz : (s + 1).testBit d = true := m_bt_1.mp hc69; rw [if_neg (fun h => h.2 hz)] at e; rw [e] at ih3; exact ih3) | (rw [if_pos (And.intro hab hnb)] at e; rw [e] at ih3; exact ih3)
                · refine x_iload_n dX12_laysHold_62 x_get_6_2 ?_
                  refine x_iload dX12_laysHold_63 x_get_6_5 ?_
                  refine x_ishr dX12_laysHold_65 ?_
                  refine x_iconst dX12_laysHold_66 ?_
                  refine x_iand dX12_laysHold_67 ?_
                  rw [m_sr (by omega) (by omega)]
                  refine x_iconst dX12_laysHold_68 ?_
                  refine r_icmp_ne (t := 75) dX12_laysHold_69 rfl ⟨by omega, by omega⟩ ⟨by omega, by omega⟩ (fun hc69 => ?_) (fun hc69 => ?_)
                  · have hnb : ¬ (s + 1).testBit d = true := fun h => hc69 (m_bt_1.mpr h)
                    have hab : al.testBit d = true := m_bt_1.mp (by omega)
                    have eA := hA (s + 1 ||| 2 ^ d) (b_or_gt hnb) (b_or_sub hsub hab) d hd
                    have hol := b_or_lt (m := s + 1) (c := d) (by omega) (by omega)
                    refine x_iload dX12_laysHold_75 x_get_6_4 ?_
                    refine x_aload_n dX12_laysHold_77 x_get_6_0 ?_
                    refine x_iload_n dX12_laysHold_78 x_get_6_3 ?_
                    refine x_iload dX12_laysHold_79 x_get_6_5 ?_
                    refine x_callV (As := [_, _]) dX12_laysHold_81 w_12_408 (m_harms hl q8 hk hB r8 (c := (c : Int)) (d := (d : Int)) (by omega) (by omega) (by omega) (by omega)) (by assumption) (by assumption) rfl rfl (Nat.le_of_ble_eq_true rfl) (Nat.le_of_ble_eq_true rfl) (Nat.le_of_ble_eq_true rfl) (Nat.le_of_ble_eq_true rfl) (Nat.le_of_ble_eq_true rfl) ?_
                    intro dz hdz
                    obtain rfl := Eq.symm hdz
                    refine x_aload_n dX12_laysHold_84 x_get_6_0 ?_
                    refine x_getR dX12_laysHold_85 fX_12_93 n62 s62 (by rfl) ?_
                    refine x_bipush dX12_laysHold_88 rfl ?_
                    refine x_iload_n dX12_laysHold_90 x_get_6_2 ?_
                    refine x_iconst dX12_laysHold_91 ?_
                    refine x_iload dX12_laysHold_92 x_get_6_5 ?_
                    refine x_ishl dX12_laysHold_94 ?_
                    refine x_ior dX12_laysHold_95 ?_
                    rw [x_or_2 (by omega) (by omega)]
                    refine x_imul dX12_laysHold_96 ?_
                    refine x_iload dX12_laysHold_97 x_get_6_5 ?_
                    refine x_iadd dX12_laysHold_99 ?_
                    refine x_iald dX12_laysHold_100 n88 s88 (by omega) (by omega) (by decide) ?_
                    rw [x_up_s, eA]
                    refine x_iadd dX12_laysHold_101 ?_
                    refine x_callS (As := [_, _]) dX12_laysHold_102 w_12_323 (m_lesser hl ⟨by omega, by omega⟩ ⟨by omega, by omega⟩) rfl rfl (Nat.le_of_ble_eq_true rfl) (Nat.le_of_ble_eq_true rfl) (Nat.le_of_ble_eq_true rfl) (Nat.le_of_ble_eq_true rfl) (Nat.le_of_ble_eq_true rfl) ?_
                    intro dz hdz
                    obtain rfl := Eq.symm hdz
                    refine x_istore dX12_laysHold_105 (Nat.le_of_ble_eq_true rfl) rfl x_set_6_4 ?_
                    refine x_iinc dX12_laysHold_107 x_get_6_5 (Nat.le_of_ble_eq_true rfl) rfl x_set_6_5 ?_
                    refine x_goto (t := 44) dX12_laysHold_110 rfl ?_
                    first | (have hz : ¬ al.testBit d = true := m_bt_0.mp hc59; rw [if_neg (fun h => hz h.1)] at e; rw [e] at ih3; exact ih3) | (have hz : (s + 1).testBit d = true := m_bt_1.mp hc69; rw [if_neg (fun h => h.2 hz)] at e; rw [e] at ih3; exact ih3) | (rw [if_pos (And.intro hab hnb)] at e; rw [e] at ih3; exact ih3)
                  · refine x_goto (t := 107) dX12_laysHold_72 rfl ?_
                    refine x_iinc dX12_laysHold_107 x_get_6_5 (Nat.le_of_ble_eq_true rfl) rfl x_set_6_5 ?_
                    refine x_goto (t := 44) dX12_laysHold_110 rfl ?_
                    first | (have hz : ¬ al.testBit d = true := m_bt_0.mp hc59; rw [if_neg (fun h => hz h.1)] at e; rw [e] at ih3; exact ih3) | (have hz : (s + 1).testBit d = true := m_bt_1.mp hc69; rw [if_neg (fun h => h.2 hz)] at e; rw [e] at ih3; exact ih3) | (rw [if_pos (And.intro hab hnb)] at e; rw [e] at ih3; exact ih3)
            refine x_iload_n dX12_laysHold_19 x_get_6_3 ?_
            refine x_aload_n dX12_laysHold_20 x_get_6_0 ?_
            refine x_getI 3 dX12_laysHold_21 fX_12_287 rfl n62 s62 (by rfl) ?_
            try simp (disch := decide) only [x_up_s, x_up_n, x_up_up, x_u1_s, x_u1_n, hC]
            refine r_icmp_ge (t := 132) dX12_laysHold_24 rfl ⟨by omega, by omega⟩ ⟨by omega, by omega⟩ (fun hc24 => absurd hc24 (by omega)) (fun hc24 => ?_)
            refine x_iload_n dX12_laysHold_27 x_get_6_2 ?_
            refine x_iload_n dX12_laysHold_28 x_get_6_1 ?_
            refine r_icmp_ne (t := 36) dX12_laysHold_29 rfl ⟨by omega, by omega⟩ ⟨by omega, by omega⟩ (fun hc29 => ?_) (fun hc29 => ?_)
            · refine x_ldcw (z := 99999) dX12_laysHold_36 k_RX12_395 ?_
              refine x_istore dX12_laysHold_39 (Nat.le_of_ble_eq_true rfl) rfl x_set_6_4 ?_
              first | (have hst : h_fd f al (s + 1) (c : Int) 0 = 0 := if_pos (by omega)) | (have hst : h_fd f al (s + 1) (c : Int) 0 = 99999 := if_neg (by omega))
              have dl0 := dl 0 (Nat.zero_le _)
              rw [hst] at dl0
              refine x_iconst dX12_laysHold_41 ?_
              refine x_istore dX12_laysHold_42 (Nat.le_of_ble_eq_true rfl) rfl x_set_6_5 ?_
              exact dl0
            · refine x_iconst dX12_laysHold_32 ?_
              refine x_goto (t := 39) dX12_laysHold_33 rfl ?_
              refine x_istore dX12_laysHold_39 (Nat.le_of_ble_eq_true rfl) rfl x_set_6_4 ?_
              first | (have hst : h_fd f al (s + 1) (c : Int) 0 = 0 := if_pos (by omega)) | (have hst : h_fd f al (s + 1) (c : Int) 0 = 99999 := if_neg (by omega))
              have dl0 := dl 0 (Nat.zero_le _)
              rw [hst] at dl0
              refine x_iconst dX12_laysHold_41 ?_
              refine x_istore dX12_laysHold_42 (Nat.le_of_ble_eq_true rfl) rfl x_set_6_5 ?_
              exact dl0
        refine x_iload_n dX12_laysHold_2 x_get_6_2 ?_
        refine r_if_le (t := 138) dX12_laysHold_3 rfl ⟨by omega, by omega⟩ (fun hc3 => absurd hc3 (by omega)) (fun hc3 => ?_)
        refine x_iload_n dX12_laysHold_6 x_get_6_2 ?_
        refine x_iload_n dX12_laysHold_7 x_get_6_1 ?_
        refine x_iconst dX12_laysHold_8 ?_
        refine x_ixor dX12_laysHold_9 ?_
        refine x_iand dX12_laysHold_10 ?_
        rw [b_not (by omega)]
        have hb0 := b_s0 (m := s + 1) (al := al)
        refine r_if_eq (t := 17) dX12_laysHold_11 rfl ⟨by omega, by have := @b_sub_le (s + 1) al; omega⟩ (fun hc11 => ?_) (fun hc11 => ?_)
        · refine x_iconst dX12_laysHold_17 ?_
          refine x_istore_n dX12_laysHold_18 (Nat.le_of_ble_eq_true rfl) rfl x_set_6_3 ?_
          exact cl 0 (Nat.zero_le _) A hA (fun c2 h => by omega) _ _
        · refine x_goto (t := 132) dX12_laysHold_14 rfl ?_
          exact absurd hsub (by omega)
      · have hno : h_ok f al C s A := fun x hx hx2 c2 hc2 => by
          by_cases hxs : x = s + 1
          · subst hxs; exact absurd hx2 hsub
          · exact hA x (by omega) hx2 c2 hc2
        refine x_iload_n dX12_laysHold_2 x_get_6_2 ?_
        refine r_if_le (t := 138) dX12_laysHold_3 rfl ⟨by omega, by omega⟩ (fun hc3 => absurd hc3 (by omega)) (fun hc3 => ?_)
        refine x_iload_n dX12_laysHold_6 x_get_6_2 ?_
        refine x_iload_n dX12_laysHold_7 x_get_6_1 ?_
        refine x_iconst dX12_laysHold_8 ?_
        refine x_ixor dX12_laysHold_9 ?_
        refine x_iand dX12_laysHold_10 ?_
        rw [b_not (by omega)]
        have hb0 := b_s0 (m := s + 1) (al := al)
        refine r_if_eq (t := 17) dX12_laysHold_11 rfl ⟨by omega, by have := @b_sub_le (s + 1) al; omega⟩ (fun hc11 => ?_) (fun hc11 => ?_)
        · refine x_iconst dX12_laysHold_17 ?_
          refine x_istore_n dX12_laysHold_18 (Nat.le_of_ble_eq_true rfl) rfl x_set_6_3 ?_
          exact absurd (show b_sub (s + 1) al = 0 by omega) hsub
        · refine x_goto (t := 132) dX12_laysHold_14 rfl ?_
          exact next A hno _ _ _
  refine x_ofW (by decide +kernel) hl (by simp [Value.category]) (by simp) ?_
  refine x_iload_n dX12_laysHold_0 x_get_6_1 ?_
  refine x_istore_n dX12_laysHold_1 (Nat.le_of_ble_eq_true rfl) rfl x_set_6_2 ?_
  refine x_mem (x_up_id (k := 88)).symm ?_
  exact hloop al (Nat.le_refl _) (D 88) (fun x hx hx2 => absurd (b_sub0_le hx2) (by omega)) _ _ _
end M80
