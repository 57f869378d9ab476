section C90
/-! ===== Reader: advance ===== -/
theorem b_wsr {z : Int} (h : -128 ≤ z ∧ z ≤ 127) : x_r z := ⟨by omega, by omega⟩
theorem w_5_63 : x_cs RX5 63 yX5_isLetter cX5_isLetter 1 (some .boolean) 1 := ⟨(x_in 687 (by decide +kernel) rfl), (x_in 688 (by decide +kernel) rfl), (x_in 81 (by decide +kernel) rfl), (x_in 689 (by decide +kernel) rfl), by decide, ⟨by decide +kernel, by decide +kernel, by decide +kernel⟩⟩
theorem w_5_67 : x_cs RX5 67 yX5_isDigit cX5_isDigit 1 (some .boolean) 1 := ⟨(x_in 690 (by decide +kernel) rfl), (x_in 691 (by decide +kernel) rfl), (x_in 81 (by decide +kernel) rfl), (x_in 692 (by decide +kernel) rfl), by decide, ⟨by decide +kernel, by decide +kernel, by decide +kernel⟩⟩
theorem w_5_70 : x_cv RX5 70 yX5_isTooLong cX5_isTooLong 1 (some .boolean) 5 0 := ⟨⟨_, rfl, rfl⟩, (x_in 693 (by decide +kernel) rfl), (x_in 694 (by decide +kernel) rfl), (x_in 695 (by decide +kernel) rfl), (x_in 81 (by decide +kernel) rfl), (x_in 696 (by decide +kernel) rfl), by decide, ⟨by decide +kernel, by decide +kernel, by decide +kernel⟩⟩
theorem w_5_73 : x_cs RX5 73 yX5_isSign cX5_isSign 1 (some .boolean) 1 := ⟨(x_in 697 (by decide +kernel) rfl), (x_in 698 (by decide +kernel) rfl), (x_in 81 (by decide +kernel) rfl), (x_in 699 (by decide +kernel) rfl), by decide, ⟨by decide +kernel, by decide +kernel, by decide +kernel⟩⟩
set_option maxHeartbeats 8000000 in
theorem c5_advance {X : xC} {l : Launch} (hl : l.stackTraces = false) {N : Nat} {sh : xS} {D : xM} {lb n : Nat} (hR : is_Rd N sh lb) (ht : tx D n) {q : Nat} (hq : D 1 3 = q) (hqn : q ≤ n) : x_M X l yX5_advance cX5_advance 1 (none) 1 0 0 [.ref (x_b X + 1)] false N sh D (.inl none) false N sh (t_ad n q D) := by
  obtain ⟨hRN, x1, x2⟩ := id hR
  have n1 : 1 < N := by omega
  have n2 : 2 < N := hRN
  obtain ⟨ht1, ht7, htb⟩ := id ht
  have hsi := t_st_in (b := D 2) hqn
  generalize hs : t_st (D 2) n q = s at hsi
  obtain ⟨hs0, hs1⟩ := hsi
  have hei := t_en_in (b := D 2) hs1
  generalize he : t_en (D 2) n s = e at hei
  obtain ⟨he0, he1⟩ := hei
  have fin : ∀ F : Int → Int, F 2 = s → F 3 = e → F 4 = t_kd (D 2) n s → (t_kd (D 2) n s = 3 → F 5 = t_nm (D 2) s (e - s)) → (∀ i, i < 2 ∨ 5 < i → F i = D 1 i) → t_ad n q D (x_up D 1 F) := by
    intro F f2 f3 f4 f5 f6
    unfold t_ad
    rw [hs, he]
    exact ⟨fun j hj => x_up_n hj, by rw [x_up_s]; exact f2, by rw [x_up_s]; exact f3, by rw [x_up_s]; exact f4, fun h => by rw [x_up_s]; exact f5 h, fun i hi => by rw [x_up_s]; exact f6 i hi⟩
  have lt : s < n → b_lt (D 2 s) → ∀ r : Nat, r ≤ n → s ≤ r → t_run b_lt (D 2) (n - r) r = e → ∀ F : Int → Int, F 2 = s → F 3 = r → F 4 = 2 → (∀ i, i < 2 ∨ 5 < i → F i = D 1 i) → x_W (X, l, yX5_advance, cX5_advance, 1, none, x_room 1 0 0, 0, 0, (.inl none), N, sh, (t_ad n q D), false, []) 107 [some (.ref (x_b X + 1))] [] 0 0 false N sh (x_up D 1 F) := by
    intro hsn hl0
    have hkd : t_kd (D 2) n s = 2 := by unfold t_kd; rw [if_neg (by omega), if_pos hl0]
    refine x_down n ?_ ?_
    · intro hsr hr F f2 f3 f4 f6
      have f1 : F 1 = n := by rw [f6 1 (by omega)]; exact ht1
      have hre : n = e := by rw [← hr]; exact (t_run_e (Nat.le_refl _)).symm
      refine x_aload_n dX5_advance_107 x_get_1_0 ?_
      refine x_getI 3 dX5_advance_108 fX_5_22 rfl (by assumption) (by assumption) (by rfl) ?_
      try simp (disch := decide) only [x_up_s, x_up_n, x_up_up, x_u1_s, x_u1_n, f1, f3]
      refine x_aload_n dX5_advance_111 x_get_1_0 ?_
      refine x_getI 1 dX5_advance_112 fX_5_15 rfl (by assumption) (by assumption) (by rfl) ?_
      try simp (disch := decide) only [x_up_s, x_up_n, x_up_up, x_u1_s, x_u1_n, f1, f3]
      refine r_icmp_ge (t := 282) dX5_advance_115 rfl ⟨by omega, by omega⟩ ⟨by omega, by omega⟩ (fun hc115 => ?_) (fun hc115 => absurd hc115 (by omega))
      exact x_vret dX5_advance_282 rfl (Nat.le_of_ble_eq_true rfl) (Nat.le_of_ble_eq_true rfl) rfl rfl rfl (fin F f2 (by rw [f3, hre]) (by rw [f4, hkd]) (fun h => by rw [hkd] at h; omega) f6) rfl
    · intro r hr1 ih hsr hr F f2 f3 f4 f6
      have f1 : F 1 = n := by rw [f6 1 (by omega)]; exact ht1
      have hby := htb (r : Int)
      refine x_aload_n dX5_advance_107 x_get_1_0 ?_
      refine x_getI 3 dX5_advance_108 fX_5_22 rfl (by assumption) (by assumption) (by rfl) ?_
      try simp (disch := decide) only [x_up_s, x_up_n, x_up_up, x_u1_s, x_u1_n, f1, f3]
      refine x_aload_n dX5_advance_111 x_get_1_0 ?_
      refine x_getI 1 dX5_advance_112 fX_5_15 rfl (by assumption) (by assumption) (by rfl) ?_
      try simp (disch := decide) only [x_up_s, x_up_n, x_up_up, x_u1_s, x_u1_n, f1, f3]
      refine r_icmp_ge (t := 282) dX5_advance_115 rfl ⟨by omega, by omega⟩ ⟨by omega, by omega⟩ (fun hc115 => absurd hc115 (by omega)) (fun hc115 => ?_)
      refine x_aload_n dX5_advance_118 x_get_1_0 ?_
      refine x_getR dX5_advance_119 fX_5_9 (by assumption) (by assumption) (by rfl) ?_
      try simp (disch := decide) only [x_up_s, x_up_n, x_up_up, x_u1_s, x_u1_n, f1, f3]
      refine x_aload_n dX5_advance_122 x_get_1_0 ?_
      refine x_getI 3 dX5_advance_123 fX_5_22 rfl (by assumption) (by assumption) (by rfl) ?_
      try simp (disch := decide) only [x_up_s, x_up_n, x_up_up, x_u1_s, x_u1_n, f1, f3]
      refine x_bald dX5_advance_126 (by assumption) (by assumption) (by omega) (by omega) (by decide) ?_
      try simp (disch := decide) only [x_up_s, x_up_n, x_up_up, x_u1_s, x_u1_n, f1, f3]
      refine x_callS (As := [_]) dX5_advance_127 w_5_63 (c5_isLetter hl (b_wsr hby)) rfl rfl (Nat.le_of_ble_eq_true rfl) (Nat.le_of_ble_eq_true rfl) (Nat.le_of_ble_eq_true rfl) (Nat.le_of_ble_eq_true rfl) (Nat.le_of_ble_eq_true rfl) ?_
      intro d hd
      obtain rfl := Eq.symm hd
      refine b_ifeq (t := 282) dX5_advance_130 rfl (fun hc130 => ?_) (fun hc130 => ?_)
      · exact x_vret dX5_advance_282 rfl (Nat.le_of_ble_eq_true rfl) (Nat.le_of_ble_eq_true rfl) rfl rfl rfl (fin F f2 (by rw [f3, ← hr, t_run_n hc130]) (by rw [f4, hkd]) (fun h => by rw [hkd] at h; omega) f6) rfl
      · refine x_aload_n dX5_advance_133 x_get_1_0 ?_
        refine x_dup dX5_advance_134 rfl ?_
        refine x_getI 3 dX5_advance_135 fX_5_22 rfl (by assumption) (by assumption) (by rfl) ?_
        try simp (disch := decide) only [x_up_s, x_up_n, x_up_up, x_u1_s, x_u1_n, f1, f3]
        refine x_iconst dX5_advance_138 ?_
        refine x_iadd dX5_advance_139 ?_
        refine x_putI 3 dX5_advance_140 fX_5_22 rfl tX_5_3 (by assumption) (by assumption) (by rfl) ?_
        try simp (disch := decide) only [x_up_s, x_up_n, x_up_up, x_u1_s, x_u1_n, f1, f3]
        refine x_goto (t := 107) dX5_advance_143 rfl ?_
        rw [t_run_y hr1 hc130] at hr
        refine ih (by omega) hr _ (by rw [x_u1_n (by decide)]; exact f2) (by rw [x_u1_s]; push_cast; rfl) (by rw [x_u1_n (by decide)]; exact f4) (fun i hi => by rw [x_u1_n (by omega)]; exact f6 i hi)
  have dg : s < n → ¬ b_lt (D 2 s) → b_dg (D 2 s) → ∀ r : Nat, r ≤ n → s ≤ r → t_run b_dg (D 2) (n - r) r = e → ∀ F : Int → Int, F 2 = s → F 3 = r → F 4 = 3 → F 5 = t_nm (D 2) s (r - s) → (∀ i, i < 2 ∨ 5 < i → F i = D 1 i) → x_W (X, l, yX5_advance, cX5_advance, 1, none, x_room 1 0 0, 0, 0, (.inl none), N, sh, (t_ad n q D), false, []) 171 [some (.ref (x_b X + 1))] [] 0 0 false N sh (x_up D 1 F) := by
    intro hsn hl0 hd0
    have hkd : t_kd (D 2) n s = 3 := by unfold t_kd; rw [if_neg (by omega), if_neg hl0, if_pos hd0]
    refine x_down n ?_ ?_
    · intro hsr hr F f2 f3 f4 f5 f6
      have f1 : F 1 = n := by rw [f6 1 (by omega)]; exact ht1
      have hre : n = e := by rw [← hr]; exact (t_run_e (Nat.le_refl _)).symm
      refine x_aload_n dX5_advance_171 x_get_1_0 ?_
      refine x_getI 3 dX5_advance_172 fX_5_22 rfl (by assumption) (by assumption) (by rfl) ?_
      try simp (disch := decide) only [x_up_s, x_up_n, x_up_up, x_u1_s, x_u1_n, f1, f3]
      refine x_aload_n dX5_advance_175 x_get_1_0 ?_
      refine x_getI 1 dX5_advance_176 fX_5_15 rfl (by assumption) (by assumption) (by rfl) ?_
      try simp (disch := decide) only [x_up_s, x_up_n, x_up_up, x_u1_s, x_u1_n, f1, f3]
      refine r_icmp_ge (t := 282) dX5_advance_179 rfl ⟨by omega, by omega⟩ ⟨by omega, by omega⟩ (fun hc179 => ?_) (fun hc179 => absurd hc179 (by omega))
      exact x_vret dX5_advance_282 rfl (Nat.le_of_ble_eq_true rfl) (Nat.le_of_ble_eq_true rfl) rfl rfl rfl (fin F f2 (by rw [f3, hre]) (by rw [f4, hkd]) (fun _ => by rw [f5, hre]) f6) rfl
    · intro r hr1 ih hsr hr F f2 f3 f4 f5 f6
      have f1 : F 1 = n := by rw [f6 1 (by omega)]; exact ht1
      have hby := htb (r : Int)
      have e5 : t_nm (D 2) s (r + 1 - s) = if 4 < r - s then t_nm (D 2) s (r - s) else t_nm (D 2) s (r - s) * 10 + (D 2 (r : Int) - 48) := by
        rw [show r + 1 - s = (r - s) + 1 by omega, t_nm_s, show ((s : Int) + ((r - s : Nat) : Int)) = r by omega]
      have tl : tx (x_up D 1 F) n := ⟨by rw [x_up_s]; exact f1, ht7, by rw [x_up_n (by decide)]; exact htb⟩
      refine x_aload_n dX5_advance_171 x_get_1_0 ?_
      refine x_getI 3 dX5_advance_172 fX_5_22 rfl (by assumption) (by assumption) (by rfl) ?_
      try simp (disch := decide) only [x_up_s, x_up_n, x_up_up, x_u1_s, x_u1_n, f1, f3, f5]
      refine x_aload_n dX5_advance_175 x_get_1_0 ?_
      refine x_getI 1 dX5_advance_176 fX_5_15 rfl (by assumption) (by assumption) (by rfl) ?_
      try simp (disch := decide) only [x_up_s, x_up_n, x_up_up, x_u1_s, x_u1_n, f1, f3, f5]
      refine r_icmp_ge (t := 282) dX5_advance_179 rfl ⟨by omega, by omega⟩ ⟨by omega, by omega⟩ (fun hc179 => absurd hc179 (by omega)) (fun hc179 => ?_)
      refine x_aload_n dX5_advance_182 x_get_1_0 ?_
      refine x_getR dX5_advance_183 fX_5_9 (by assumption) (by assumption) (by rfl) ?_
      try simp (disch := decide) only [x_up_s, x_up_n, x_up_up, x_u1_s, x_u1_n, f1, f3, f5]
      refine x_aload_n dX5_advance_186 x_get_1_0 ?_
      refine x_getI 3 dX5_advance_187 fX_5_22 rfl (by assumption) (by assumption) (by rfl) ?_
      try simp (disch := decide) only [x_up_s, x_up_n, x_up_up, x_u1_s, x_u1_n, f1, f3, f5]
      refine x_bald dX5_advance_190 (by assumption) (by assumption) (by omega) (by omega) (by decide) ?_
      try simp (disch := decide) only [x_up_s, x_up_n, x_up_up, x_u1_s, x_u1_n, f1, f3, f5]
      refine x_callS (As := [_]) dX5_advance_191 w_5_67 (c5_isDigit hl (b_wsr hby)) rfl rfl (Nat.le_of_ble_eq_true rfl) (Nat.le_of_ble_eq_true rfl) (Nat.le_of_ble_eq_true rfl) (Nat.le_of_ble_eq_true rfl) (Nat.le_of_ble_eq_true rfl) ?_
      intro d hd
      obtain rfl := Eq.symm hd
      refine b_ifeq (t := 282) dX5_advance_194 rfl (fun hc194 => ?_) (fun hc194 => ?_)
      · exact x_vret dX5_advance_282 rfl (Nat.le_of_ble_eq_true rfl) (Nat.le_of_ble_eq_true rfl) rfl rfl rfl (fin F f2 (by rw [f3, ← hr, t_run_n hc194]) (by rw [f4, hkd]) (fun _ => by rw [f5, ← hr, t_run_n hc194]) f6) rfl
      · refine x_aload_n dX5_advance_197 x_get_1_0 ?_
        refine x_aload_n dX5_advance_198 x_get_1_0 ?_
        refine x_callV (As := []) dX5_advance_199 w_5_70 (c5_isTooLong hl hR tl (s := s) (e := r) (by rw [x_up_s]; exact f2) (by rw [x_up_s]; exact f3) (by omega) (by omega)) (by assumption) (by assumption) rfl rfl (Nat.le_of_ble_eq_true rfl) (Nat.le_of_ble_eq_true rfl) (Nat.le_of_ble_eq_true rfl) (Nat.le_of_ble_eq_true rfl) (Nat.le_of_ble_eq_true rfl) ?_
        intro d hd
        obtain rfl := Eq.symm hd
        refine b_ifeq (t := 212) dX5_advance_202 rfl (fun hc202 => ?_) (fun hc202 => ?_)
        · refine x_aload_n dX5_advance_212 x_get_1_0 ?_
          refine x_getI 5 dX5_advance_213 fX_5_28 rfl (by assumption) (by assumption) (by rfl) ?_
          try simp (disch := decide) only [x_up_s, x_up_n, x_up_up, x_u1_s, x_u1_n, f1, f3, f5]
          refine x_bipush dX5_advance_216 rfl ?_
          refine x_imul dX5_advance_218 ?_
          refine x_aload_n dX5_advance_219 x_get_1_0 ?_
          refine x_getR dX5_advance_220 fX_5_9 (by assumption) (by assumption) (by rfl) ?_
          try simp (disch := decide) only [x_up_s, x_up_n, x_up_up, x_u1_s, x_u1_n, f1, f3, f5]
          refine x_aload_n dX5_advance_223 x_get_1_0 ?_
          refine x_getI 3 dX5_advance_224 fX_5_22 rfl (by assumption) (by assumption) (by rfl) ?_
          try simp (disch := decide) only [x_up_s, x_up_n, x_up_up, x_u1_s, x_u1_n, f1, f3, f5]
          refine x_bald dX5_advance_227 (by assumption) (by assumption) (by omega) (by omega) (by decide) ?_
          try simp (disch := decide) only [x_up_s, x_up_n, x_up_up, x_u1_s, x_u1_n, f1, f3, f5]
          refine x_bipush dX5_advance_228 rfl ?_
          refine x_isub dX5_advance_230 ?_
          refine x_iadd dX5_advance_231 ?_
          refine x_putI 5 dX5_advance_232 fX_5_28 rfl tX_5_5 (by assumption) (by assumption) (by rfl) ?_
          try simp (disch := decide) only [x_up_s, x_up_n, x_up_up, x_u1_s, x_u1_n, f1, f3, f5]
          refine x_aload_n dX5_advance_235 x_get_1_0 ?_
          refine x_dup dX5_advance_236 rfl ?_
          refine x_getI 3 dX5_advance_237 fX_5_22 rfl (by assumption) (by assumption) (by rfl) ?_
          try simp (disch := decide) only [x_up_s, x_up_n, x_up_up, x_u1_s, x_u1_n, f1, f3, f5]
          refine x_iconst dX5_advance_240 ?_
          refine x_iadd dX5_advance_241 ?_
          refine x_putI 3 dX5_advance_242 fX_5_22 rfl tX_5_3 (by assumption) (by assumption) (by rfl) ?_
          try simp (disch := decide) only [x_up_s, x_up_n, x_up_up, x_u1_s, x_u1_n, f1, f3, f5]
          refine x_goto (t := 171) dX5_advance_245 rfl ?_
          rw [t_run_y hr1 hc194] at hr
          first
            | (rw [if_pos (show 4 < r - s by omega)] at e5; refine ih (by omega) hr _ (by rw [x_u1_n (by decide), x_u1_n (by decide)]; exact f2) (by rw [x_u1_s]; push_cast; rfl) (by rw [x_u1_n (by decide), x_u1_n (by decide)]; exact f4) (by rw [x_u1_n (by decide), x_u1_s]; exact e5.symm) (fun i hi => by rw [x_u1_n (by omega), x_u1_n (by omega)]; exact f6 i hi))
            | (rw [if_neg (show ¬ 4 < r - s by omega)] at e5; refine ih (by omega) hr _ (by rw [x_u1_n (by decide), x_u1_n (by decide)]; exact f2) (by rw [x_u1_s]; push_cast; rfl) (by rw [x_u1_n (by decide), x_u1_n (by decide)]; exact f4) (by rw [x_u1_n (by decide), x_u1_s]; exact e5.symm) (fun i hi => by rw [x_u1_n (by omega), x_u1_n (by omega)]; exact f6 i hi))
        · refine x_aload_n dX5_advance_205 x_get_1_0 ?_
          refine x_getI 5 dX5_advance_206 fX_5_28 rfl (by assumption) (by assumption) (by rfl) ?_
          try simp (disch := decide) only [x_up_s, x_up_n, x_up_up, x_u1_s, x_u1_n, f1, f3, f5]
          refine x_goto (t := 232) dX5_advance_209 rfl ?_
          refine x_putI 5 dX5_advance_232 fX_5_28 rfl tX_5_5 (by assumption) (by assumption) (by rfl) ?_
          try simp (disch := decide) only [x_up_s, x_up_n, x_up_up, x_u1_s, x_u1_n, f1, f3, f5]
          refine x_aload_n dX5_advance_235 x_get_1_0 ?_
          refine x_dup dX5_advance_236 rfl ?_
          refine x_getI 3 dX5_advance_237 fX_5_22 rfl (by assumption) (by assumption) (by rfl) ?_
          try simp (disch := decide) only [x_up_s, x_up_n, x_up_up, x_u1_s, x_u1_n, f1, f3, f5]
          refine x_iconst dX5_advance_240 ?_
          refine x_iadd dX5_advance_241 ?_
          refine x_putI 3 dX5_advance_242 fX_5_22 rfl tX_5_3 (by assumption) (by assumption) (by rfl) ?_
          try simp (disch := decide) only [x_up_s, x_up_n, x_up_up, x_u1_s, x_u1_n, f1, f3, f5]
          refine x_goto (t := 171) dX5_advance_245 rfl ?_
          rw [t_run_y hr1 hc194] at hr
          first
            | (rw [if_pos (show 4 < r - s by omega)] at e5; refine ih (by omega) hr _ (by rw [x_u1_n (by decide), x_u1_n (by decide)]; exact f2) (by rw [x_u1_s]; push_cast; rfl) (by rw [x_u1_n (by decide), x_u1_n (by decide)]; exact f4) (by rw [x_u1_n (by decide), x_u1_s]; exact e5.symm) (fun i hi => by rw [x_u1_n (by omega), x_u1_n (by omega)]; exact f6 i hi))
            | (rw [if_neg (show ¬ 4 < r - s by omega)] at e5; refine ih (by omega) hr _ (by rw [x_u1_n (by decide), x_u1_n (by decide)]; exact f2) (by rw [x_u1_s]; push_cast; rfl) (by rw [x_u1_n (by decide), x_u1_n (by decide)]; exact f4) (by rw [x_u1_n (by decide), x_u1_s]; exact e5.symm) (fun i hi => by rw [x_u1_n (by omega), x_u1_n (by omega)]; exact f6 i hi))
  have k60 : ∀ F : Int → Int, F 2 = s → (∀ i, i ≠ 2 → F i = D 1 i) → x_W (X, l, yX5_advance, cX5_advance, 1, none, x_room 1 0 0, 0, 0, (.inl none), N, sh, (t_ad n q D), false, []) 60 [some (.ref (x_b X + 1))] [] 0 0 false N sh (x_up D 1 F) := by
    intro F f2 f6
    have f1 : F 1 = n := by rw [f6 1 (by decide)]; exact ht1
    have hby := htb (s : Int)
    have u : ∀ v : Int, (x_u1 (x_u1 F 3 (s : Int)) 4 v) 2 = s ∧ (x_u1 (x_u1 F 3 (s : Int)) 4 v) 3 = s ∧ (x_u1 (x_u1 F 3 (s : Int)) 4 v) 4 = v ∧ ∀ i, i < 2 ∨ 5 < i → (x_u1 (x_u1 F 3 (s : Int)) 4 v) i = D 1 i := fun v => ⟨by rw [x_u1_n (by decide), x_u1_n (by decide)]; exact f2, by rw [x_u1_n (by decide), x_u1_s], x_u1_s, fun i hi => by rw [x_u1_n (by omega), x_u1_n (by omega)]; exact f6 i (by omega)⟩
    refine x_aload_n dX5_advance_60 x_get_1_0 ?_
    refine x_aload_n dX5_advance_61 x_get_1_0 ?_
    refine x_getI 2 dX5_advance_62 fX_5_19 rfl (by assumption) (by assumption) (by rfl) ?_
    try simp (disch := decide) only [x_up_s, x_up_n, x_up_up, x_u1_s, x_u1_n, f1, f2]
    refine x_putI 3 dX5_advance_65 fX_5_22 rfl tX_5_3 (by assumption) (by assumption) (by rfl) ?_
    try simp (disch := decide) only [x_up_s, x_up_n, x_up_up, x_u1_s, x_u1_n, f1, f2]
    refine x_aload_n dX5_advance_68 x_get_1_0 ?_
    refine x_getI 2 dX5_advance_69 fX_5_19 rfl (by assumption) (by assumption) (by rfl) ?_
    try simp (disch := decide) only [x_up_s, x_up_n, x_up_up, x_u1_s, x_u1_n, f1, f2]
    refine x_aload_n dX5_advance_72 x_get_1_0 ?_
    refine x_getI 1 dX5_advance_73 fX_5_15 rfl (by assumption) (by assumption) (by rfl) ?_
    try simp (disch := decide) only [x_up_s, x_up_n, x_up_up, x_u1_s, x_u1_n, f1, f2]
    refine r_icmp_lt (t := 87) dX5_advance_76 rfl ⟨by omega, by omega⟩ ⟨by omega, by omega⟩ (fun hc76 => ?_) (fun hc76 => ?_)
    · refine x_aload_n dX5_advance_87 x_get_1_0 ?_
      refine x_getR dX5_advance_88 fX_5_9 (by assumption) (by assumption) (by rfl) ?_
      try simp (disch := decide) only [x_up_s, x_up_n, x_up_up, x_u1_s, x_u1_n, f1, f2]
      refine x_aload_n dX5_advance_91 x_get_1_0 ?_
      refine x_getI 2 dX5_advance_92 fX_5_19 rfl (by assumption) (by assumption) (by rfl) ?_
      try simp (disch := decide) only [x_up_s, x_up_n, x_up_up, x_u1_s, x_u1_n, f1, f2]
      refine x_bald dX5_advance_95 (by assumption) (by assumption) (by omega) (by omega) (by decide) ?_
      try simp (disch := decide) only [x_up_s, x_up_n, x_up_up, x_u1_s, x_u1_n, f1, f2]
      refine x_callS (As := [_]) dX5_advance_96 w_5_63 (c5_isLetter hl (b_wsr hby)) rfl rfl (Nat.le_of_ble_eq_true rfl) (Nat.le_of_ble_eq_true rfl) (Nat.le_of_ble_eq_true rfl) (Nat.le_of_ble_eq_true rfl) (Nat.le_of_ble_eq_true rfl) ?_
      intro d hd
      obtain rfl := Eq.symm hd
      refine b_ifeq (t := 146) dX5_advance_99 rfl (fun hc99 => ?_) (fun hc99 => ?_)
      · refine x_aload_n dX5_advance_146 x_get_1_0 ?_
        refine x_getR dX5_advance_147 fX_5_9 (by assumption) (by assumption) (by rfl) ?_
        try simp (disch := decide) only [x_up_s, x_up_n, x_up_up, x_u1_s, x_u1_n, f1, f2]
        refine x_aload_n dX5_advance_150 x_get_1_0 ?_
        refine x_getI 2 dX5_advance_151 fX_5_19 rfl (by assumption) (by assumption) (by rfl) ?_
        try simp (disch := decide) only [x_up_s, x_up_n, x_up_up, x_u1_s, x_u1_n, f1, f2]
        refine x_bald dX5_advance_154 (by assumption) (by assumption) (by omega) (by omega) (by decide) ?_
        try simp (disch := decide) only [x_up_s, x_up_n, x_up_up, x_u1_s, x_u1_n, f1, f2]
        refine x_callS (As := [_]) dX5_advance_155 w_5_67 (c5_isDigit hl (b_wsr hby)) rfl rfl (Nat.le_of_ble_eq_true rfl) (Nat.le_of_ble_eq_true rfl) (Nat.le_of_ble_eq_true rfl) (Nat.le_of_ble_eq_true rfl) (Nat.le_of_ble_eq_true rfl) ?_
        intro d hd
        obtain rfl := Eq.symm hd
        refine b_ifeq (t := 248) dX5_advance_158 rfl (fun hc158 => ?_) (fun hc158 => ?_)
        · refine x_aload_n dX5_advance_248 x_get_1_0 ?_
          refine x_aload_n dX5_advance_249 x_get_1_0 ?_
          refine x_getR dX5_advance_250 fX_5_9 (by assumption) (by assumption) (by rfl) ?_
          try simp (disch := decide) only [x_up_s, x_up_n, x_up_up, x_u1_s, x_u1_n, f1, f2]
          refine x_aload_n dX5_advance_253 x_get_1_0 ?_
          refine x_getI 2 dX5_advance_254 fX_5_19 rfl (by assumption) (by assumption) (by rfl) ?_
          try simp (disch := decide) only [x_up_s, x_up_n, x_up_up, x_u1_s, x_u1_n, f1, f2]
          refine x_bald dX5_advance_257 (by assumption) (by assumption) (by omega) (by omega) (by decide) ?_
          try simp (disch := decide) only [x_up_s, x_up_n, x_up_up, x_u1_s, x_u1_n, f1, f2]
          refine x_callS (As := [_]) dX5_advance_258 w_5_73 (c5_isSign hl (b_wsr hby)) rfl rfl (Nat.le_of_ble_eq_true rfl) (Nat.le_of_ble_eq_true rfl) (Nat.le_of_ble_eq_true rfl) (Nat.le_of_ble_eq_true rfl) (Nat.le_of_ble_eq_true rfl) ?_
          intro d hd
          obtain rfl := Eq.symm hd
          refine b_ifeq (t := 268) dX5_advance_261 rfl (fun hc261 => ?_) (fun hc261 => ?_)
          · refine x_iconst dX5_advance_268 ?_
            refine x_putI 4 dX5_advance_269 fX_5_25 rfl tX_5_4 (by assumption) (by assumption) (by rfl) ?_
            try simp (disch := decide) only [x_up_s, x_up_n, x_up_up, x_u1_s, x_u1_n, f1, f2]
            refine x_aload_n dX5_advance_272 x_get_1_0 ?_
            refine x_dup dX5_advance_273 rfl ?_
            refine x_getI 3 dX5_advance_274 fX_5_22 rfl (by assumption) (by assumption) (by rfl) ?_
            try simp (disch := decide) only [x_up_s, x_up_n, x_up_up, x_u1_s, x_u1_n, f1, f2]
            refine x_iconst dX5_advance_277 ?_
            refine x_iadd dX5_advance_278 ?_
            refine x_putI 3 dX5_advance_279 fX_5_22 rfl tX_5_3 (by assumption) (by assumption) (by rfl) ?_
            try simp (disch := decide) only [x_up_s, x_up_n, x_up_up, x_u1_s, x_u1_n, f1, f2]
            first
              | (have hsn : n ≤ s := by omega
                 have e1 : e = s := by rw [← he]; unfold t_en; rw [if_pos hsn]
                 have e2 : t_kd (D 2) n s = 0 := by unfold t_kd; rw [if_pos hsn]
                 obtain ⟨u2, u3, u4, u6⟩ := u 0
                 exact x_vret dX5_advance_282 rfl (Nat.le_of_ble_eq_true rfl) (Nat.le_of_ble_eq_true rfl) rfl rfl rfl (fin _ u2 (by rw [u3, e1]) (by rw [u4, e2]) (fun h => by rw [e2] at h; omega) u6) rfl)
              | (have hsn : s < n := by omega
                 have e1 : e = s + 1 := by rw [← he]; unfold t_en; rw [if_neg (by omega), if_neg hc99, if_neg hc158]
                 have e2 : t_kd (D 2) n s = 4 := by unfold t_kd; rw [if_neg (by omega), if_neg hc99, if_neg hc158, if_pos hc261]
                 obtain ⟨u2, u3, u4, u6⟩ := u 4
                 exact x_vret dX5_advance_282 rfl (Nat.le_of_ble_eq_true rfl) (Nat.le_of_ble_eq_true rfl) rfl rfl rfl (fin _ (by rw [x_u1_n (by decide)]; exact u2) (by rw [x_u1_s, e1]; push_cast; rfl) (by rw [x_u1_n (by decide), u4, e2]) (fun h => by rw [e2] at h; omega) (fun i hi => by rw [x_u1_n (by omega)]; exact u6 i hi)) rfl)
              | (have hsn : s < n := by omega
                 have e1 : e = s + 1 := by rw [← he]; unfold t_en; rw [if_neg (by omega), if_neg hc99, if_neg hc158]
                 have e2 : t_kd (D 2) n s = 1 := by unfold t_kd; rw [if_neg (by omega), if_neg hc99, if_neg hc158, if_neg hc261]
                 obtain ⟨u2, u3, u4, u6⟩ := u 1
                 exact x_vret dX5_advance_282 rfl (Nat.le_of_ble_eq_true rfl) (Nat.le_of_ble_eq_true rfl) rfl rfl rfl (fin _ (by rw [x_u1_n (by decide)]; exact u2) (by rw [x_u1_s, e1]; push_cast; rfl) (by rw [x_u1_n (by decide), u4, e2]) (fun h => by rw [e2] at h; omega) (fun i hi => by rw [x_u1_n (by omega)]; exact u6 i hi)) rfl)
          · refine x_iconst dX5_advance_264 ?_
            refine x_goto (t := 269) dX5_advance_265 rfl ?_
            refine x_putI 4 dX5_advance_269 fX_5_25 rfl tX_5_4 (by assumption) (by assumption) (by rfl) ?_
            try simp (disch := decide) only [x_up_s, x_up_n, x_up_up, x_u1_s, x_u1_n, f1, f2]
            refine x_aload_n dX5_advance_272 x_get_1_0 ?_
            refine x_dup dX5_advance_273 rfl ?_
            refine x_getI 3 dX5_advance_274 fX_5_22 rfl (by assumption) (by assumption) (by rfl) ?_
            try simp (disch := decide) only [x_up_s, x_up_n, x_up_up, x_u1_s, x_u1_n, f1, f2]
            refine x_iconst dX5_advance_277 ?_
            refine x_iadd dX5_advance_278 ?_
            refine x_putI 3 dX5_advance_279 fX_5_22 rfl tX_5_3 (by assumption) (by assumption) (by rfl) ?_
            try simp (disch := decide) only [x_up_s, x_up_n, x_up_up, x_u1_s, x_u1_n, f1, f2]
            first
              | (have hsn : n ≤ s := by omega
                 have e1 : e = s := by rw [← he]; unfold t_en; rw [if_pos hsn]
                 have e2 : t_kd (D 2) n s = 0 := by unfold t_kd; rw [if_pos hsn]
                 obtain ⟨u2, u3, u4, u6⟩ := u 0
                 exact x_vret dX5_advance_282 rfl (Nat.le_of_ble_eq_true rfl) (Nat.le_of_ble_eq_true rfl) rfl rfl rfl (fin _ u2 (by rw [u3, e1]) (by rw [u4, e2]) (fun h => by rw [e2] at h; omega) u6) rfl)
              | (have hsn : s < n := by omega
                 have e1 : e = s + 1 := by rw [← he]; unfold t_en; rw [if_neg (by omega), if_neg hc99, if_neg hc158]
                 have e2 : t_kd (D 2) n s = 4 := by unfold t_kd; rw [if_neg (by omega), if_neg hc99, if_neg hc158, if_pos hc261]
                 obtain ⟨u2, u3, u4, u6⟩ := u 4
                 exact x_vret dX5_advance_282 rfl (Nat.le_of_ble_eq_true rfl) (Nat.le_of_ble_eq_true rfl) rfl rfl rfl (fin _ (by rw [x_u1_n (by decide)]; exact u2) (by rw [x_u1_s, e1]; push_cast; rfl) (by rw [x_u1_n (by decide), u4, e2]) (fun h => by rw [e2] at h; omega) (fun i hi => by rw [x_u1_n (by omega)]; exact u6 i hi)) rfl)
              | (have hsn : s < n := by omega
                 have e1 : e = s + 1 := by rw [← he]; unfold t_en; rw [if_neg (by omega), if_neg hc99, if_neg hc158]
                 have e2 : t_kd (D 2) n s = 1 := by unfold t_kd; rw [if_neg (by omega), if_neg hc99, if_neg hc158, if_neg hc261]
                 obtain ⟨u2, u3, u4, u6⟩ := u 1
                 exact x_vret dX5_advance_282 rfl (Nat.le_of_ble_eq_true rfl) (Nat.le_of_ble_eq_true rfl) rfl rfl rfl (fin _ (by rw [x_u1_n (by decide)]; exact u2) (by rw [x_u1_s, e1]; push_cast; rfl) (by rw [x_u1_n (by decide), u4, e2]) (fun h => by rw [e2] at h; omega) (fun i hi => by rw [x_u1_n (by omega)]; exact u6 i hi)) rfl)
        · refine x_aload_n dX5_advance_161 x_get_1_0 ?_
          refine x_iconst dX5_advance_162 ?_
          refine x_putI 4 dX5_advance_163 fX_5_25 rfl tX_5_4 (by assumption) (by assumption) (by rfl) ?_
          try simp (disch := decide) only [x_up_s, x_up_n, x_up_up, x_u1_s, x_u1_n, f1, f2]
          refine x_aload_n dX5_advance_166 x_get_1_0 ?_
          refine x_iconst dX5_advance_167 ?_
          refine x_putI 5 dX5_advance_168 fX_5_28 rfl tX_5_5 (by assumption) (by assumption) (by rfl) ?_
          try simp (disch := decide) only [x_up_s, x_up_n, x_up_up, x_u1_s, x_u1_n, f1, f2]
          have hsn : s < n := by omega
          obtain ⟨u2, u3, u4, u6⟩ := u 3
          exact dg hsn hc99 hc158 s (by omega) (Nat.le_refl _) (by rw [← he]; unfold t_en; rw [if_neg (by omega), if_neg hc99, if_pos hc158]) _ (by rw [x_u1_n (by decide)]; exact u2) (by rw [x_u1_n (by decide)]; exact u3) (by rw [x_u1_n (by decide)]; exact u4) (by rw [x_u1_s, Nat.sub_self]; rfl) (fun i hi => by rw [x_u1_n (by omega)]; exact u6 i hi)
      · refine x_aload_n dX5_advance_102 x_get_1_0 ?_
        refine x_iconst dX5_advance_103 ?_
        refine x_putI 4 dX5_advance_104 fX_5_25 rfl tX_5_4 (by assumption) (by assumption) (by rfl) ?_
        try simp (disch := decide) only [x_up_s, x_up_n, x_up_up, x_u1_s, x_u1_n, f1, f2]
        have hsn : s < n := by omega
        obtain ⟨u2, u3, u4, u6⟩ := u 2
        exact lt hsn hc99 s (by omega) (Nat.le_refl _) (by rw [← he]; unfold t_en; rw [if_neg (by omega), if_pos hc99]) _ u2 u3 u4 u6
    · refine x_aload_n dX5_advance_79 x_get_1_0 ?_
      refine x_iconst dX5_advance_80 ?_
      refine x_putI 4 dX5_advance_81 fX_5_25 rfl tX_5_4 (by assumption) (by assumption) (by rfl) ?_
      try simp (disch := decide) only [x_up_s, x_up_n, x_up_up, x_u1_s, x_u1_n, f1, f2]
      refine x_goto (t := 282) dX5_advance_84 rfl ?_
      first
        | (have hsn : n ≤ s := by omega
           have e1 : e = s := by rw [← he]; unfold t_en; rw [if_pos hsn]
           have e2 : t_kd (D 2) n s = 0 := by unfold t_kd; rw [if_pos hsn]
           obtain ⟨u2, u3, u4, u6⟩ := u 0
           exact x_vret dX5_advance_282 rfl (Nat.le_of_ble_eq_true rfl) (Nat.le_of_ble_eq_true rfl) rfl rfl rfl (fin _ u2 (by rw [u3, e1]) (by rw [u4, e2]) (fun h => by rw [e2] at h; omega) u6) rfl)
        | (have hsn : s < n := by omega
           have e1 : e = s + 1 := by rw [← he]; unfold t_en; rw [if_neg (by omega), if_neg hc99, if_neg hc158]
           have e2 : t_kd (D 2) n s = 4 := by unfold t_kd; rw [if_neg (by omega), if_neg hc99, if_neg hc158, if_pos hc261]
           obtain ⟨u2, u3, u4, u6⟩ := u 4
           exact x_vret dX5_advance_282 rfl (Nat.le_of_ble_eq_true rfl) (Nat.le_of_ble_eq_true rfl) rfl rfl rfl (fin _ (by rw [x_u1_n (by decide)]; exact u2) (by rw [x_u1_s, e1]; push_cast; rfl) (by rw [x_u1_n (by decide), u4, e2]) (fun h => by rw [e2] at h; omega) (fun i hi => by rw [x_u1_n (by omega)]; exact u6 i hi)) rfl)
        | (have hsn : s < n := by omega
           have e1 : e = s + 1 := by rw [← he]; unfold t_en; rw [if_neg (by omega), if_neg hc99, if_neg hc158]
           have e2 : t_kd (D 2) n s = 1 := by unfold t_kd; rw [if_neg (by omega), if_neg hc99, if_neg hc158, if_neg hc261]
           obtain ⟨u2, u3, u4, u6⟩ := u 1
           exact x_vret dX5_advance_282 rfl (Nat.le_of_ble_eq_true rfl) (Nat.le_of_ble_eq_true rfl) rfl rfl rfl (fin _ (by rw [x_u1_n (by decide)]; exact u2) (by rw [x_u1_s, e1]; push_cast; rfl) (by rw [x_u1_n (by decide), u4, e2]) (fun h => by rw [e2] at h; omega) (fun i hi => by rw [x_u1_n (by omega)]; exact u6 i hi)) rfl)
  have ws : ∀ r : Nat, r ≤ n → q ≤ r → t_run b_ws (D 2) (n - r) r = s → ∀ F : Int → Int, F 2 = r → (∀ i, i ≠ 2 → F i = D 1 i) → x_W (X, l, yX5_advance, cX5_advance, 1, none, x_room 1 0 0, 0, 0, (.inl none), N, sh, (t_ad n q D), false, []) 8 [some (.ref (x_b X + 1))] [] 0 0 false N sh (x_up D 1 F) := by
    refine x_down n ?_ ?_
    · intro hqr hr F f2 f6
      have f1 : F 1 = n := by rw [f6 1 (by decide)]; exact ht1
      have hrs : n = s := by rw [← hr]; exact (t_run_e (Nat.le_refl _)).symm
      refine x_aload_n dX5_advance_8 x_get_1_0 ?_
      refine x_getI 2 dX5_advance_9 fX_5_19 rfl (by assumption) (by assumption) (by rfl) ?_
      try simp (disch := decide) only [x_up_s, x_up_n, x_up_up, x_u1_s, x_u1_n, f1, f2]
      refine x_aload_n dX5_advance_12 x_get_1_0 ?_
      refine x_getI 1 dX5_advance_13 fX_5_15 rfl (by assumption) (by assumption) (by rfl) ?_
      try simp (disch := decide) only [x_up_s, x_up_n, x_up_up, x_u1_s, x_u1_n, f1, f2]
      refine r_icmp_ge (t := 60) dX5_advance_16 rfl ⟨by omega, by omega⟩ ⟨by omega, by omega⟩ (fun hc16 => ?_) (fun hc16 => absurd hc16 (by omega))
      exact k60 F (by rw [f2, hrs]) f6
    · intro r hr1 ih hqr hr F f2 f6
      have f1 : F 1 = n := by rw [f6 1 (by decide)]; exact ht1
      have hby := htb (r : Int)
      refine x_aload_n dX5_advance_8 x_get_1_0 ?_
      refine x_getI 2 dX5_advance_9 fX_5_19 rfl (by assumption) (by assumption) (by rfl) ?_
      try simp (disch := decide) only [x_up_s, x_up_n, x_up_up, x_u1_s, x_u1_n, f1, f2]
      refine x_aload_n dX5_advance_12 x_get_1_0 ?_
      refine x_getI 1 dX5_advance_13 fX_5_15 rfl (by assumption) (by assumption) (by rfl) ?_
      try simp (disch := decide) only [x_up_s, x_up_n, x_up_up, x_u1_s, x_u1_n, f1, f2]
      refine r_icmp_ge (t := 60) dX5_advance_16 rfl ⟨by omega, by omega⟩ ⟨by omega, by omega⟩ (fun hc16 => absurd hc16 (by omega)) (fun hc16 => ?_)
      refine x_aload_n dX5_advance_19 x_get_1_0 ?_
      refine x_getR dX5_advance_20 fX_5_9 (by assumption) (by assumption) (by rfl) ?_
      try simp (disch := decide) only [x_up_s, x_up_n, x_up_up, x_u1_s, x_u1_n, f1, f2]
      refine x_aload_n dX5_advance_23 x_get_1_0 ?_
      refine x_getI 2 dX5_advance_24 fX_5_19 rfl (by assumption) (by assumption) (by rfl) ?_
      try simp (disch := decide) only [x_up_s, x_up_n, x_up_up, x_u1_s, x_u1_n, f1, f2]
      refine x_bald dX5_advance_27 (by assumption) (by assumption) (by omega) (by omega) (by decide) ?_
      try simp (disch := decide) only [x_up_s, x_up_n, x_up_up, x_u1_s, x_u1_n, f1, f2]
      refine x_bipush dX5_advance_28 rfl ?_
      refine r_icmp_eq (t := 47) dX5_advance_30 rfl ⟨by omega, by omega⟩ ⟨by omega, by omega⟩ (fun hc30 => ?_) (fun hc30 => ?_)
      · refine x_aload_n dX5_advance_47 x_get_1_0 ?_
        refine x_dup dX5_advance_48 rfl ?_
        refine x_getI 2 dX5_advance_49 fX_5_19 rfl (by assumption) (by assumption) (by rfl) ?_
        try simp (disch := decide) only [x_up_s, x_up_n, x_up_up, x_u1_s, x_u1_n, f1, f2]
        refine x_iconst dX5_advance_52 ?_
        refine x_iadd dX5_advance_53 ?_
        refine x_putI 2 dX5_advance_54 fX_5_19 rfl tX_5_2 (by assumption) (by assumption) (by rfl) ?_
        try simp (disch := decide) only [x_up_s, x_up_n, x_up_up, x_u1_s, x_u1_n, f1, f2]
        refine x_goto (t := 8) dX5_advance_57 rfl ?_
        have hw : b_ws (D 2 r) := by unfold b_ws; omega
        rw [t_run_y hr1 hw] at hr
        exact ih (by omega) hr _ (by rw [x_u1_s]; push_cast; rfl) (fun i hi => by rw [x_u1_n hi]; exact f6 i hi)
      · refine x_aload_n dX5_advance_33 x_get_1_0 ?_
        refine x_getR dX5_advance_34 fX_5_9 (by assumption) (by assumption) (by rfl) ?_
        try simp (disch := decide) only [x_up_s, x_up_n, x_up_up, x_u1_s, x_u1_n, f1, f2]
        refine x_aload_n dX5_advance_37 x_get_1_0 ?_
        refine x_getI 2 dX5_advance_38 fX_5_19 rfl (by assumption) (by assumption) (by rfl) ?_
        try simp (disch := decide) only [x_up_s, x_up_n, x_up_up, x_u1_s, x_u1_n, f1, f2]
        refine x_bald dX5_advance_41 (by assumption) (by assumption) (by omega) (by omega) (by decide) ?_
        try simp (disch := decide) only [x_up_s, x_up_n, x_up_up, x_u1_s, x_u1_n, f1, f2]
        refine x_bipush dX5_advance_42 rfl ?_
        refine r_icmp_ne (t := 60) dX5_advance_44 rfl ⟨by omega, by omega⟩ ⟨by omega, by omega⟩ (fun hc44 => ?_) (fun hc44 => ?_)
        · have hnw : ¬ b_ws (D 2 r) := by unfold b_ws; omega
          rw [t_run_n hnw] at hr
          exact k60 F (by rw [f2, hr]) f6
        · refine x_aload_n dX5_advance_47 x_get_1_0 ?_
          refine x_dup dX5_advance_48 rfl ?_
          refine x_getI 2 dX5_advance_49 fX_5_19 rfl (by assumption) (by assumption) (by rfl) ?_
          try simp (disch := decide) only [x_up_s, x_up_n, x_up_up, x_u1_s, x_u1_n, f1, f2]
          refine x_iconst dX5_advance_52 ?_
          refine x_iadd dX5_advance_53 ?_
          refine x_putI 2 dX5_advance_54 fX_5_19 rfl tX_5_2 (by assumption) (by assumption) (by rfl) ?_
          try simp (disch := decide) only [x_up_s, x_up_n, x_up_up, x_u1_s, x_u1_n, f1, f2]
          refine x_goto (t := 8) dX5_advance_57 rfl ?_
          have hw : b_ws (D 2 r) := by unfold b_ws; omega
          rw [t_run_y hr1 hw] at hr
          exact ih (by omega) hr _ (by rw [x_u1_s]; push_cast; rfl) (fun i hi => by rw [x_u1_n hi]; exact f6 i hi)
  refine x_ofW (by decide +kernel) hl (by simp [Value.category]) (by simp) ?_
  refine x_aload_n dX5_advance_0 x_get_1_0 ?_
  refine x_aload_n dX5_advance_1 x_get_1_0 ?_
  refine x_getI 3 dX5_advance_2 fX_5_22 rfl (by assumption) (by assumption) (by rfl) ?_
  try simp only [hq]
  refine x_putI 2 dX5_advance_5 fX_5_19 rfl tX_5_2 (by assumption) (by assumption) (by rfl) ?_
  try simp only [hq]
  exact ws q hqn (Nat.le_refl _) hs _ x_u1_s (fun i hi => x_u1_n hi)
end C90
