section M99996
/-! ===== the Model's lines: ways ===== -/
set_option maxHeartbeats 1500000 in
theorem m_hasWay {X : xC} {l : Launch} (hl : l.stackTraces = false) {N : Nat} {sh : xS} {D : xM} (hM : is_Md N sh) {W : Nat} {one two : Int → Int} {a c : Int} (h26 : D 62 26 = (W : Int)) (hW : W ≤ 12) (hcl : ∀ w : Int, 0 ≤ w → w < W → D 74 w = one w ∧ D 75 w = two w) (r1 : ∀ j, 0 ≤ one j ∧ one j ≤ 7) (r2 : ∀ j, 0 ≤ two j ∧ two j ≤ 7) (hne : ∀ w : Nat, w < W → ¬ one w = two w) (ha : 0 ≤ a ∧ a ≤ 100000) (hcc : 0 ≤ c ∧ c ≤ 100000) : x_M X l yX12_hasWay cX12_hasWay 4 (some .boolean) 1 0 0 [.ref (x_b X + 62), .int (xI a), .int (xI c)] false N sh D (.inl (some (.int (xI (x_B (¬ e_btw one two W a c = -1)))))) false N sh (x_is D) := by
  have s62 := md_62 hM
  have n62 : 62 < N := md_n hM (by decide)
  have s74 := md_74 hM
  have n74 : 74 < N := md_n hM (by decide)
  have s75 := md_75 hM
  have n75 : 75 < N := md_n hM (by decide)
  have lp : ∀ i : Nat, i ≤ W → (∀ j : Nat, j < i → ¬ e_oth one two j a = c) → x_W (X, l, yX12_hasWay, cX12_hasWay, 4, (some .boolean), x_room 1 0 0, 0, 0, (.inl (some (.int (xI (x_B (¬ e_btw one two W a c = -1)))))), N, sh, (x_is D), false, []) 2 [some (.ref (x_b X + 62)), some (.int (xI a)), some (.int (xI c)), some (.int (xI (i : Int)))] [] 0 0 false N sh D := by
    refine x_down W ?_ ?_
    · intro hp
      refine x_iload_n dX12_hasWay_2 x_get_4_3 ?_
      refine x_aload_n dX12_hasWay_3 x_get_4_0 ?_
      refine x_getI 26 dX12_hasWay_4 fX_12_243 rfl n62 s62 (by rfl) ?_
      try simp (disch := decide) only [x_up_s, x_up_n, x_up_up, x_u1_s, x_u1_n, h26]
      refine r_icmp_ge (t := 58) dX12_hasWay_7 rfl ⟨by omega, by omega⟩ ⟨by omega, by omega⟩ (fun hc7 => ?_) (fun hc7 => absurd hc7 (by omega))
      refine x_iconst dX12_hasWay_58 ?_
      exact x_zret dX12_hasWay_59 rfl (by omega) (Nat.le_of_ble_eq_true rfl) (Nat.le_of_ble_eq_true rfl) (by rw [x_B, if_neg (fun h => h (x_first_none hp))]) rfl rfl rfl rfl
    · intro i hi ih hp
      obtain ⟨g1, g2⟩ := hcl i (by omega) (by omega)
      have y1 := r1 i
      have y2 := r2 i
      have hoth := e_oth_iff (one := one) (two := two) (w := i) (i := a) (j := c) hcc.1 (hne i hi)
      have hone : e_oth one two (i : Int) a = c → x_B (¬ e_btw one two W a c = -1) = 1 := by
        intro h
        have hx : e_btw one two W a c = i := x_first_hit (p := fun w : Nat => e_oth one two w a = c) hp h hi
        rw [x_B, if_pos (by rw [hx]; omega)]
      have hnew : ¬ e_oth one two (i : Int) a = c → ∀ j : Nat, j < i + 1 → ¬ e_oth one two j a = c := by
        intro h j hj
        by_cases e : j = i
        · rw [e]; exact h
        · exact hp j (by omega)
      refine x_iload_n dX12_hasWay_2 x_get_4_3 ?_
      refine x_aload_n dX12_hasWay_3 x_get_4_0 ?_
      refine x_getI 26 dX12_hasWay_4 fX_12_243 rfl n62 s62 (by rfl) ?_
      try simp (disch := decide) only [x_up_s, x_up_n, x_up_up, x_u1_s, x_u1_n, h26, g1, g2]
      refine r_icmp_ge (t := 58) dX12_hasWay_7 rfl ⟨by omega, by omega⟩ ⟨by omega, by omega⟩ (fun hc7 => absurd hc7 (by omega)) (fun hc7 => ?_)
      refine x_aload_n dX12_hasWay_10 x_get_4_0 ?_
      refine x_getR dX12_hasWay_11 fX_12_50 n62 s62 (by rfl) ?_
      refine x_iload_n dX12_hasWay_14 x_get_4_3 ?_
      refine x_iald dX12_hasWay_15 n74 s74 (by omega) (by omega) (by decide) ?_
      try simp (disch := decide) only [x_up_s, x_up_n, x_up_up, x_u1_s, x_u1_n, h26, g1, g2]
      refine x_iload_n dX12_hasWay_16 x_get_4_1 ?_
      refine r_icmp_ne (t := 30) dX12_hasWay_17 rfl ⟨by omega, by omega⟩ ⟨by omega, by omega⟩ (fun hc17 => ?_) (fun hc17 => ?_)
      · refine x_aload_n dX12_hasWay_30 x_get_4_0 ?_
        refine x_getR dX12_hasWay_31 fX_12_50 n62 s62 (by rfl) ?_
        refine x_iload_n dX12_hasWay_34 x_get_4_3 ?_
        refine x_iald dX12_hasWay_35 n74 s74 (by omega) (by omega) (by decide) ?_
        try simp (disch := decide) only [x_up_s, x_up_n, x_up_up, x_u1_s, x_u1_n, h26, g1, g2]
        refine x_iload_n dX12_hasWay_36 x_get_4_2 ?_
        refine r_icmp_ne (t := 52) dX12_hasWay_37 rfl ⟨by omega, by omega⟩ ⟨by omega, by omega⟩ (fun hc37 => ?_) (fun hc37 => ?_)
        · refine x_iinc dX12_hasWay_52 x_get_4_3 (Nat.le_of_ble_eq_true rfl) rfl x_set_4_3 ?_
          refine x_goto (t := 2) dX12_hasWay_55 rfl ?_
          exact ih (hnew (fun h => by have := hoth.mp h; omega))
        · refine x_aload_n dX12_hasWay_40 x_get_4_0 ?_
          refine x_getR dX12_hasWay_41 fX_12_53 n62 s62 (by rfl) ?_
          refine x_iload_n dX12_hasWay_44 x_get_4_3 ?_
          refine x_iald dX12_hasWay_45 n75 s75 (by omega) (by omega) (by decide) ?_
          try simp (disch := decide) only [x_up_s, x_up_n, x_up_up, x_u1_s, x_u1_n, h26, g1, g2]
          refine x_iload_n dX12_hasWay_46 x_get_4_1 ?_
          refine r_icmp_ne (t := 52) dX12_hasWay_47 rfl ⟨by omega, by omega⟩ ⟨by omega, by omega⟩ (fun hc47 => ?_) (fun hc47 => ?_)
          · refine x_iinc dX12_hasWay_52 x_get_4_3 (Nat.le_of_ble_eq_true rfl) rfl x_set_4_3 ?_
            refine x_goto (t := 2) dX12_hasWay_55 rfl ?_
            exact ih (hnew (fun h => by have := hoth.mp h; omega))
          · refine x_iconst dX12_hasWay_50 ?_
            exact x_zret dX12_hasWay_51 rfl (by omega) (Nat.le_of_ble_eq_true rfl) (Nat.le_of_ble_eq_true rfl) (by rw [hone (hoth.mpr (by omega))]) rfl rfl rfl rfl
      · refine x_aload_n dX12_hasWay_20 x_get_4_0 ?_
        refine x_getR dX12_hasWay_21 fX_12_53 n62 s62 (by rfl) ?_
        refine x_iload_n dX12_hasWay_24 x_get_4_3 ?_
        refine x_iald dX12_hasWay_25 n75 s75 (by omega) (by omega) (by decide) ?_
        try simp (disch := decide) only [x_up_s, x_up_n, x_up_up, x_u1_s, x_u1_n, h26, g1, g2]
        refine x_iload_n dX12_hasWay_26 x_get_4_2 ?_
        refine r_icmp_eq (t := 50) dX12_hasWay_27 rfl ⟨by omega, by omega⟩ ⟨by omega, by omega⟩ (fun hc27 => ?_) (fun hc27 => ?_)
        · refine x_iconst dX12_hasWay_50 ?_
          exact x_zret dX12_hasWay_51 rfl (by omega) (Nat.le_of_ble_eq_true rfl) (Nat.le_of_ble_eq_true rfl) (by rw [hone (hoth.mpr (by omega))]) rfl rfl rfl rfl
        · refine x_aload_n dX12_hasWay_30 x_get_4_0 ?_
          refine x_getR dX12_hasWay_31 fX_12_50 n62 s62 (by rfl) ?_
          refine x_iload_n dX12_hasWay_34 x_get_4_3 ?_
          refine x_iald dX12_hasWay_35 n74 s74 (by omega) (by omega) (by decide) ?_
          try simp (disch := decide) only [x_up_s, x_up_n, x_up_up, x_u1_s, x_u1_n, h26, g1, g2]
          refine x_iload_n dX12_hasWay_36 x_get_4_2 ?_
          refine r_icmp_ne (t := 52) dX12_hasWay_37 rfl ⟨by omega, by omega⟩ ⟨by omega, by omega⟩ (fun hc37 => ?_) (fun hc37 => ?_)
          · refine x_iinc dX12_hasWay_52 x_get_4_3 (Nat.le_of_ble_eq_true rfl) rfl x_set_4_3 ?_
            refine x_goto (t := 2) dX12_hasWay_55 rfl ?_
            exact ih (hnew (fun h => by have := hoth.mp h; omega))
          · refine x_aload_n dX12_hasWay_40 x_get_4_0 ?_
            refine x_getR dX12_hasWay_41 fX_12_53 n62 s62 (by rfl) ?_
            refine x_iload_n dX12_hasWay_44 x_get_4_3 ?_
            refine x_iald dX12_hasWay_45 n75 s75 (by omega) (by omega) (by decide) ?_
            try simp (disch := decide) only [x_up_s, x_up_n, x_up_up, x_u1_s, x_u1_n, h26, g1, g2]
            refine x_iload_n dX12_hasWay_46 x_get_4_1 ?_
            refine r_icmp_ne (t := 52) dX12_hasWay_47 rfl ⟨by omega, by omega⟩ ⟨by omega, by omega⟩ (fun hc47 => ?_) (fun hc47 => ?_)
            · refine x_iinc dX12_hasWay_52 x_get_4_3 (Nat.le_of_ble_eq_true rfl) rfl x_set_4_3 ?_
              refine x_goto (t := 2) dX12_hasWay_55 rfl ?_
              exact ih (hnew (fun h => by have := hoth.mp h; omega))
            · refine x_iconst dX12_hasWay_50 ?_
              exact x_zret dX12_hasWay_51 rfl (by omega) (Nat.le_of_ble_eq_true rfl) (Nat.le_of_ble_eq_true rfl) (by rw [hone (hoth.mpr (by omega))]) rfl rfl rfl rfl
  refine x_ofW (by decide +kernel) hl (by simp [Value.category]) (by simp) ?_
  refine x_iconst dX12_hasWay_0 ?_
  refine x_istore_n dX12_hasWay_1 (Nat.le_of_ble_eq_true rfl) rfl x_set_4_3 ?_
  exact lp 0 (Nat.zero_le _) (fun j hj => absurd hj (Nat.not_lt_zero j))
theorem ml_wy {lb W : Nat} {S : Tx} {D d : xM} {v1 v2 v3 v4 : Int} (hm : ml lb S D) (hW : W = (S.1 (lb + 3) 0).toNat) (hg : gf (x_up (x_up (x_up (x_up D 74 (x_u1 (D 74) W v1)) 75 (x_u1 (D 75) W v2)) 76 (x_u1 (D 76) W v3)) 77 (x_u1 (D 77) W v4)) d) : ml lb (x_wy lb W (v1, v2, v3, v4) S.1, S.2) (x_up d 62 (x_u1 (d 62) 26 (W + 1))) := by
  obtain ⟨⟨m1, m2, m3⟩, m4, m5, m6, m7⟩ := hm
  rw [← hW] at m2 m5
  have c0 : (x_wy lb W (v1, v2, v3, v4) S.1) (lb + 3) 0 = (W : Int) + 1 := by unfold x_wy; rw [x_up_s, x_u1_s]
  have c0n : ((x_wy lb W (v1, v2, v3, v4) S.1) (lb + 3) 0).toNat = W + 1 := by rw [c0]; omega
  have c3 : ∀ k : Nat, k ≤ 2 ∨ k = 14 → (x_wy lb W (v1, v2, v3, v4) S.1) (lb + k) = S.1 (lb + k) := by
    intro k hk
    unfold x_wy
    rw [x_up_n (by omega), x_up_n (by omega), x_up_n (by omega), x_up_n (by omega), x_up_n (by omega)]
  have ce1 : (x_wy lb W (v1, v2, v3, v4) S.1) (lb + 3 + 1) = x_u1 (S.1 (lb + 3 + 1)) W v1 := by
    unfold x_wy
    rw [x_up_n (by omega), x_up_n (by omega), x_up_n (by omega), x_up_n (by omega), x_up_s]
  have ce2 : (x_wy lb W (v1, v2, v3, v4) S.1) (lb + 3 + 2) = x_u1 (S.1 (lb + 3 + 2)) W v2 := by
    unfold x_wy
    rw [x_up_n (by omega), x_up_n (by omega), x_up_n (by omega), x_up_s]
  have ce3 : (x_wy lb W (v1, v2, v3, v4) S.1) (lb + 3 + 3) = x_u1 (S.1 (lb + 3 + 3)) W v3 := by
    unfold x_wy
    rw [x_up_n (by omega), x_up_n (by omega), x_up_s]
  have ce4 : (x_wy lb W (v1, v2, v3, v4) S.1) (lb + 3 + 4) = x_u1 (S.1 (lb + 3 + 4)) W v4 := by
    unfold x_wy
    rw [x_up_n (by omega), x_up_s]
  have d74 : d 74 = x_u1 (D 74) W v1 := by rw [hg.1 74 (by decide), x_up_n (by decide), x_up_n (by decide), x_up_n (by decide), x_up_s]
  have d75 : d 75 = x_u1 (D 75) W v2 := by rw [hg.1 75 (by decide), x_up_n (by decide), x_up_n (by decide), x_up_s]
  have d76 : d 76 = x_u1 (D 76) W v3 := by rw [hg.1 76 (by decide), x_up_n (by decide), x_up_s]
  have d77 : d 77 = x_u1 (D 77) W v4 := by rw [hg.1 77 (by decide), x_up_s]
  have dj : ∀ j : Nat, j ≠ 62 → (j < 74 ∨ 77 < j) → d j = D j := by
    intro j a c
    rw [hg.1 j a, x_up_n (by omega), x_up_n (by omega), x_up_n (by omega), x_up_n (by omega)]
  have di : ∀ i : Int, 24 < i → d 62 i = D 62 i := by
    intro i hi
    rw [hg.2 i (Or.inr hi), x_up_n (by decide), x_up_n (by decide), x_up_n (by decide), x_up_n (by decide)]
  have cl0 : (x_wy lb W (v1, v2, v3, v4) S.1) lb = S.1 lb := c3 0 (by decide)
  refine ⟨⟨?_, ?_, ?_⟩, ?_, ?_, ?_, ?_⟩
  · show _ = (((x_wy lb W (v1, v2, v3, v4) S.1) lb 0).toNat : Int)
    rw [cl0, x_up_s, x_u1_n (by decide), di 25 (by decide)]; exact m1
  · show _ = (((x_wy lb W (v1, v2, v3, v4) S.1) (lb + 3) 0).toNat : Int)
    rw [c0n, x_up_s, x_u1_s]; push_cast; rfl
  · show _ = (((x_wy lb W (v1, v2, v3, v4) S.1) lb 1).toNat : Int)
    rw [cl0, x_up_s, x_u1_n (by decide), di 27 (by decide)]; exact m3
  · show ∀ t : Int, 0 ≤ t → t < (((x_wy lb W (v1, v2, v3, v4) S.1) lb 0).toNat : Nat) → _ = (x_wy lb W (v1, v2, v3, v4) S.1) (lb + 1) t ∧ _ = (x_wy lb W (v1, v2, v3, v4) S.1) (lb + 2) t
    rw [cl0, c3 1 (by decide), c3 2 (by decide), x_up_n (by decide), x_up_n (by decide), dj 72 (by decide) (by decide), dj 73 (by decide) (by decide)]
    exact m4
  · show ∀ w : Int, 0 ≤ w → w < (((x_wy lb W (v1, v2, v3, v4) S.1) (lb + 3) 0).toNat : Nat) → _ = (x_wy lb W (v1, v2, v3, v4) S.1) (lb + 3 + 1) w ∧ _ = (x_wy lb W (v1, v2, v3, v4) S.1) (lb + 3 + 2) w ∧ _ = (x_wy lb W (v1, v2, v3, v4) S.1) (lb + 3 + 3) w ∧ _ = (x_wy lb W (v1, v2, v3, v4) S.1) (lb + 3 + 4) w
    rw [c0n, ce1, ce2, ce3, ce4, x_up_n (by decide), x_up_n (by decide), x_up_n (by decide), x_up_n (by decide), d74, d75, d76, d77]
    intro w h0 h1
    by_cases e : w = W
    · rw [e, x_u1_s, x_u1_s, x_u1_s, x_u1_s, x_u1_s, x_u1_s, x_u1_s, x_u1_s]; exact ⟨rfl, rfl, rfl, rfl⟩
    · rw [x_u1_n e, x_u1_n e, x_u1_n e, x_u1_n e, x_u1_n e, x_u1_n e, x_u1_n e, x_u1_n e]
      exact m5 w h0 (by omega)
  · show mr (((x_wy lb W (v1, v2, v3, v4) S.1) lb 0).toNat) (((x_wy lb W (v1, v2, v3, v4) S.1) lb 1).toNat) ((x_wy lb W (v1, v2, v3, v4) S.1) (lb + 14)) _ 0
    rw [cl0, c3 14 (by decide), x_up_n (by decide), dj 78 (by decide) (by decide)]
    exact m6
  · exact od_of m7 (by rw [x_up_s, x_u1_n (by decide)]; exact di 28 (by decide)) (by rw [x_up_s, x_u1_n (by decide)]; exact di 29 (by decide)) (by rw [x_up_n (by decide)]; exact dj 79 (by decide) (by decide))
set_option maxHeartbeats 1500000 in
theorem wy_f139 {X : xC} {l : Launch} (hl : l.stackTraces = false) {N : Nat} {sh : xS} {D : xM} (hM : is_Md N sh) {b : Int → Int} {n lb W : Nat} {d : xM} {v1 : Int} (h8 : W < 12) {z : Int × Nat} (hf : fz b n z D d) : x_W (X, l, yX12_readsWay, cX12_readsWay, 2, none, x_room 3 0 0, 0, 0, (.inl none), N, sh, (mlp b n lb (.inl z) D), false, []) 139 [some (.ref (x_b X + 62)), some (.int (xI v1))] [] 0 0 false N sh d := by
  have s62 := md_62 hM
  have n62 : 62 < N := md_n hM (by decide)
  have s74 := md_74 hM
  have n74 : 74 < N := md_n hM (by decide)
  have s75 := md_75 hM
  have n75 : 75 < N := md_n hM (by decide)
  have s76 := md_76 hM
  have n76 : 76 < N := md_n hM (by decide)
  have s77 := md_77 hM
  have n77 : 77 < N := md_n hM (by decide)
  refine x_aload_n dX12_readsWay_139 x_get_2_0 ?_
  refine x_callV (As := []) dX12_readsWay_140 w_12_176 (m_goodF hl hM hf.2.2.1 hf.2.1) (by assumption) (by assumption) rfl rfl (Nat.le_of_ble_eq_true rfl) (Nat.le_of_ble_eq_true rfl) (Nat.le_of_ble_eq_true rfl) (Nat.le_of_ble_eq_true rfl) (Nat.le_of_ble_eq_true rfl) ?_
  intro d hd
  obtain rfl := Eq.symm hd
  refine r_if_eq (t := 156) dX12_readsWay_143 rfl ⟨by omega, by omega⟩ (fun hc143 => ?_) (fun hc143 => absurd hc143 (by omega))
  exact x_vret dX12_readsWay_156 rfl (Nat.le_of_ble_eq_true rfl) (Nat.le_of_ble_eq_true rfl) rfl rfl rfl hf rfl
set_option maxHeartbeats 1500000 in
theorem wy_f123 {X : xC} {l : Launch} (hl : l.stackTraces = false) {N : Nat} {sh : xS} {D : xM} (hM : is_Md N sh) {b : Int → Int} {n lb W : Nat} {d : xM} {v1 : Int} (h8 : W < 12) {z : Int × Nat} (hf : fz b n z D d) (h26 : d 62 26 = (W : Int)) : x_W (X, l, yX12_readsWay, cX12_readsWay, 2, none, x_room 3 0 0, 0, 0, (.inl none), N, sh, (mlp b n lb (.inl z) D), false, []) 123 [some (.ref (x_b X + 62)), some (.int (xI v1))] [] 0 0 false N sh d := by
  have s62 := md_62 hM
  have n62 : 62 < N := md_n hM (by decide)
  have s74 := md_74 hM
  have n74 : 74 < N := md_n hM (by decide)
  have s75 := md_75 hM
  have n75 : 75 < N := md_n hM (by decide)
  have s76 := md_76 hM
  have n76 : 76 < N := md_n hM (by decide)
  have s77 := md_77 hM
  have n77 : 77 < N := md_n hM (by decide)
  refine x_aload_n dX12_readsWay_123 x_get_2_0 ?_
  refine x_getR dX12_readsWay_124 fX_12_59 n62 s62 (by rfl) ?_
  refine x_aload_n dX12_readsWay_127 x_get_2_0 ?_
  refine x_getI 26 dX12_readsWay_128 fX_12_243 rfl n62 s62 (by rfl) ?_
  try simp (disch := decide) only [x_up_s, x_up_n, x_up_up, x_u1_s, x_u1_n, h26]
  refine x_aload_n dX12_readsWay_131 x_get_2_0 ?_
  refine x_iconst dX12_readsWay_132 ?_
  refine x_bipush dX12_readsWay_133 rfl ?_
  refine x_callV (As := [_, _]) dX12_readsWay_135 w_12_239 (m_numberF hl hM hf.2.2.1 hf.2.1) (by assumption) (by assumption) rfl rfl (Nat.le_of_ble_eq_true rfl) (Nat.le_of_ble_eq_true rfl) (Nat.le_of_ble_eq_true rfl) (Nat.le_of_ble_eq_true rfl) (Nat.le_of_ble_eq_true rfl) ?_
  intro d hd
  obtain rfl := Eq.symm hd
  refine x_iast dX12_readsWay_138 n77 s77 (by omega) (by omega) (by decide) ?_
  try simp (disch := decide) only [x_up_s, x_up_n, x_up_up, x_u1_s, x_u1_n, h26]
  exact wy_f139 hl hM h8 (fz_up hf (by decide))
set_option maxHeartbeats 1500000 in
theorem wy_g139 {X : xC} {l : Launch} (hl : l.stackTraces = false) {N : Nat} {sh : xS} {D : xM} (hM : is_Md N sh) {b : Int → Int} {n lb W : Nat} {d : xM} {v1 : Int} (h8 : W < 12) {S : Tx} {R : Rs Tx} (hv : sv lb S.1) (hm : ml lb S D) (hW : W = (S.1 (lb + 3) 0).toNat) {v2 : Int} {v3 : Int} {v4 : Int} {q4 : Nat} (hg : gs b n q4 d) (h14 : d 62 14 = 0) (hu : gf (x_up (x_up (x_up (x_up D 74 (x_u1 (D 74) W v1)) 75 (x_u1 (D 75) W v2)) 76 (x_u1 ((x_up (x_up D 74 (x_u1 (D 74) W v1)) 75 (x_u1 (D 75) W v2)) 76) W v3)) 77 (x_u1 ((x_up (x_up (x_up D 74 (x_u1 (D 74) W v1)) 75 (x_u1 (D 75) W v2)) 76 (x_u1 ((x_up (x_up D 74 (x_u1 (D 74) W v1)) 75 (x_u1 (D 75) W v2)) 76) W v3)) 77) W v4)) d) (hlf : lf D d) (hR : R = .inr ((x_wy lb W (v1, v2, v3, v4) S.1, S.2), q4)) : x_W (X, l, yX12_readsWay, cX12_readsWay, 2, none, x_room 3 0 0, 0, 0, (.inl none), N, sh, (mlp b n lb R D), false, []) 139 [some (.ref (x_b X + 62)), some (.int (xI v1))] [] 0 0 false N sh d := by
  have s62 := md_62 hM
  have n62 : 62 < N := md_n hM (by decide)
  have s74 := md_74 hM
  have n74 : 74 < N := md_n hM (by decide)
  have s75 := md_75 hM
  have n75 : 75 < N := md_n hM (by decide)
  have s76 := md_76 hM
  have n76 : 76 < N := md_n hM (by decide)
  have s77 := md_77 hM
  have n77 : 77 < N := md_n hM (by decide)
  have hu2 : gf (x_up (x_up (x_up (x_up D 74 (x_u1 (D 74) W v1)) 75 (x_u1 (D 75) W v2)) 76 (x_u1 (D 76) W v3)) 77 (x_u1 (D 77) W v4)) d := hu
  have h26 : d 62 26 = (W : Int) := by rw [hu.2 26 (by decide), x_up_n (by decide), x_up_n (by decide), x_up_n (by decide), x_up_n (by decide), hm.1.2.1, hW]
  rw [hR]
  refine x_aload_n dX12_readsWay_139 x_get_2_0 ?_
  refine x_callV (As := []) dX12_readsWay_140 w_12_176 (m_good hl hM h14) (by assumption) (by assumption) rfl rfl (Nat.le_of_ble_eq_true rfl) (Nat.le_of_ble_eq_true rfl) (Nat.le_of_ble_eq_true rfl) (Nat.le_of_ble_eq_true rfl) (Nat.le_of_ble_eq_true rfl) ?_
  intro d hd
  obtain rfl := Eq.symm hd
  refine r_if_eq (t := 156) dX12_readsWay_143 rfl ⟨by omega, by omega⟩ (fun hc143 => absurd hc143 (by omega)) (fun hc143 => ?_)
  refine x_aload_n dX12_readsWay_146 x_get_2_0 ?_
  refine x_dup dX12_readsWay_147 rfl ?_
  refine x_getI 26 dX12_readsWay_148 fX_12_243 rfl n62 s62 (by rfl) ?_
  try simp (disch := decide) only [x_up_s, x_up_n, x_up_up, x_u1_s, x_u1_n, h26]
  refine x_iconst dX12_readsWay_151 ?_
  refine x_iadd dX12_readsWay_152 ?_
  refine x_putI 26 dX12_readsWay_153 fX_12_243 rfl tX_12_26 n62 s62 (by rfl) ?_
  try simp (disch := decide) only [x_up_s, x_up_n, x_up_up, x_u1_s, x_u1_n, h26]
  exact x_vret dX12_readsWay_156 rfl (Nat.le_of_ble_eq_true rfl) (Nat.le_of_ble_eq_true rfl) rfl rfl rfl ⟨lf_tr hlf (lf_62 (by decide)), gs_25 hg, by rw [x_up_s, x_u1_n (by decide)]; exact h14, ml_wy hm hW hu2⟩ rfl
set_option maxHeartbeats 1500000 in
theorem wy_g123 {X : xC} {l : Launch} (hl : l.stackTraces = false) {N : Nat} {sh : xS} {D : xM} (hM : is_Md N sh) {b : Int → Int} {n lb W : Nat} {d : xM} {v1 : Int} (h8 : W < 12) {S : Tx} {R : Rs Tx} (hv : sv lb S.1) (hm : ml lb S D) (hW : W = (S.1 (lb + 3) 0).toNat) {v2 : Int} {v3 : Int} {q3 : Nat} (hg : gs b n q3 d) (h14 : d 62 14 = 0) (hu : gf (x_up (x_up (x_up D 74 (x_u1 (D 74) W v1)) 75 (x_u1 (D 75) W v2)) 76 (x_u1 ((x_up (x_up D 74 (x_u1 (D 74) W v1)) 75 (x_u1 (D 75) W v2)) 76) W v3)) d) (hlf : lf D d) (hR : R = r_bd (r_bd (r_num b n 0 9 q3) (fun v4 q4 => .inr ((v1, v2, v3, v4), q4))) (fun v q1 => .inr ((x_wy lb W v S.1, S.2), q1))) : x_W (X, l, yX12_readsWay, cX12_readsWay, 2, none, x_room 3 0 0, 0, 0, (.inl none), N, sh, (mlp b n lb R D), false, []) 123 [some (.ref (x_b X + 62)), some (.int (xI v1))] [] 0 0 false N sh d := by
  have s62 := md_62 hM
  have n62 : 62 < N := md_n hM (by decide)
  have s74 := md_74 hM
  have n74 : 74 < N := md_n hM (by decide)
  have s75 := md_75 hM
  have n75 : 75 < N := md_n hM (by decide)
  have s76 := md_76 hM
  have n76 : 76 < N := md_n hM (by decide)
  have s77 := md_77 hM
  have n77 : 77 < N := md_n hM (by decide)
  have h26 : d 62 26 = (W : Int) := by rw [hu.2 26 (by decide), x_up_n (by decide), x_up_n (by decide), x_up_n (by decide), hm.1.2.1, hW]
  obtain ⟨r, hr⟩ : ∃ r, r_num b n 0 9 q3 = r := ⟨_, rfl⟩
  have hnum := m_number (X := X) (l := l) hl hM hg h14 (lo := 0) (hi := 9) ⟨by decide, by decide⟩ ⟨by decide, by decide⟩
  rw [hr] at hnum hR
  have hkd := kd_num (b := b) (n := n) (q := q3) (lo := 0) (hi := 9)
  cases r with
  | inl z =>
    rw [show R = .inl z from hR]
    refine x_aload_n dX12_readsWay_123 x_get_2_0 ?_
    refine x_getR dX12_readsWay_124 fX_12_59 n62 s62 (by rfl) ?_
    refine x_aload_n dX12_readsWay_127 x_get_2_0 ?_
    refine x_getI 26 dX12_readsWay_128 fX_12_243 rfl n62 s62 (by rfl) ?_
    try simp (disch := decide) only [x_up_s, x_up_n, x_up_up, x_u1_s, x_u1_n, h26]
    refine x_aload_n dX12_readsWay_131 x_get_2_0 ?_
    refine x_iconst dX12_readsWay_132 ?_
    refine x_bipush dX12_readsWay_133 rfl ?_
    refine x_callV (As := [_, _]) dX12_readsWay_135 w_12_239 (hnum) (by assumption) (by assumption) rfl rfl (Nat.le_of_ble_eq_true rfl) (Nat.le_of_ble_eq_true rfl) (Nat.le_of_ble_eq_true rfl) (Nat.le_of_ble_eq_true rfl) (Nat.le_of_ble_eq_true rfl) ?_
    intro d2 hp
    have hp : mfa b n d z d2 := hp
    refine x_iast dX12_readsWay_138 n77 s77 (by omega) (by omega) (by decide) ?_
    try simp (disch := decide) only [x_up_s, x_up_n, x_up_up, x_u1_s, x_u1_n, h26]
    exact wy_f139 hl hM h8 (fz_up (fz_of hlf hp (hkd z hr)) (by decide))
  | inr w =>
    obtain ⟨v4, q4⟩ := w
    have hvv := num_v hr hg
    rw [hvv] at hnum
    refine x_aload_n dX12_readsWay_123 x_get_2_0 ?_
    refine x_getR dX12_readsWay_124 fX_12_59 n62 s62 (by rfl) ?_
    refine x_aload_n dX12_readsWay_127 x_get_2_0 ?_
    refine x_getI 26 dX12_readsWay_128 fX_12_243 rfl n62 s62 (by rfl) ?_
    try simp (disch := decide) only [x_up_s, x_up_n, x_up_up, x_u1_s, x_u1_n, h26]
    refine x_aload_n dX12_readsWay_131 x_get_2_0 ?_
    refine x_iconst dX12_readsWay_132 ?_
    refine x_bipush dX12_readsWay_133 rfl ?_
    refine x_callV (As := [_, _]) dX12_readsWay_135 w_12_239 (hnum) (by assumption) (by assumption) rfl rfl (Nat.le_of_ble_eq_true rfl) (Nat.le_of_ble_eq_true rfl) (Nat.le_of_ble_eq_true rfl) (Nat.le_of_ble_eq_true rfl) (Nat.le_of_ble_eq_true rfl) ?_
    rintro d2 ⟨hp1, hp2⟩
    refine x_iast dX12_readsWay_138 n77 s77 (by omega) (by omega) (by decide) ?_
    try simp (disch := decide) only [x_up_s, x_up_n, x_up_up, x_u1_s, x_u1_n, h26]
    exact wy_g139 hl hM h8 hv hm hW (gs_up hp1 (by decide) (by decide)) (by rw [x_up_n (by decide), hp2.2 14 (by decide)]; exact h14) (gf_up (j := 77) (gf_trn hu hp2) (by decide)) (lf_tr hlf (lf_tr (lf_gf hp2) (lf_up (by decide)))) hR
set_option maxHeartbeats 1500000 in
theorem wy_g107 {X : xC} {l : Launch} (hl : l.stackTraces = false) {N : Nat} {sh : xS} {D : xM} (hM : is_Md N sh) {b : Int → Int} {n lb W : Nat} {d : xM} {v1 : Int} (h8 : W < 12) {S : Tx} {R : Rs Tx} (hv : sv lb S.1) (hm : ml lb S D) (hW : W = (S.1 (lb + 3) 0).toNat) {v2 : Int} {q2 : Nat} (hg : gs b n q2 d) (h14 : d 62 14 = 0) (hu : gf (x_up (x_up D 74 (x_u1 (D 74) W v1)) 75 (x_u1 (D 75) W v2)) d) (hlf : lf D d) (hR : R = r_bd (r_bd (r_num b n 1 9 q2) (fun v3 q3 => r_bd (r_num b n 0 9 q3) (fun v4 q4 => .inr ((v1, v2, v3, v4), q4)))) (fun v q1 => .inr ((x_wy lb W v S.1, S.2), q1))) : x_W (X, l, yX12_readsWay, cX12_readsWay, 2, none, x_room 3 0 0, 0, 0, (.inl none), N, sh, (mlp b n lb R D), false, []) 107 [some (.ref (x_b X + 62)), some (.int (xI v1))] [] 0 0 false N sh d := by
  have s62 := md_62 hM
  have n62 : 62 < N := md_n hM (by decide)
  have s74 := md_74 hM
  have n74 : 74 < N := md_n hM (by decide)
  have s75 := md_75 hM
  have n75 : 75 < N := md_n hM (by decide)
  have s76 := md_76 hM
  have n76 : 76 < N := md_n hM (by decide)
  have s77 := md_77 hM
  have n77 : 77 < N := md_n hM (by decide)
  have h26 : d 62 26 = (W : Int) := by rw [hu.2 26 (by decide), x_up_n (by decide), x_up_n (by decide), hm.1.2.1, hW]
  obtain ⟨r, hr⟩ : ∃ r, r_num b n 1 9 q2 = r := ⟨_, rfl⟩
  have hnum := m_number (X := X) (l := l) hl hM hg h14 (lo := 1) (hi := 9) ⟨by decide, by decide⟩ ⟨by decide, by decide⟩
  rw [hr] at hnum hR
  have hkd := kd_num (b := b) (n := n) (q := q2) (lo := 1) (hi := 9)
  cases r with
  | inl z =>
    rw [show R = .inl z from hR]
    refine x_aload_n dX12_readsWay_107 x_get_2_0 ?_
    refine x_getR dX12_readsWay_108 fX_12_56 n62 s62 (by rfl) ?_
    refine x_aload_n dX12_readsWay_111 x_get_2_0 ?_
    refine x_getI 26 dX12_readsWay_112 fX_12_243 rfl n62 s62 (by rfl) ?_
    try simp (disch := decide) only [x_up_s, x_up_n, x_up_up, x_u1_s, x_u1_n, h26]
    refine x_aload_n dX12_readsWay_115 x_get_2_0 ?_
    refine x_iconst dX12_readsWay_116 ?_
    refine x_bipush dX12_readsWay_117 rfl ?_
    refine x_callV (As := [_, _]) dX12_readsWay_119 w_12_239 (hnum) (by assumption) (by assumption) rfl rfl (Nat.le_of_ble_eq_true rfl) (Nat.le_of_ble_eq_true rfl) (Nat.le_of_ble_eq_true rfl) (Nat.le_of_ble_eq_true rfl) (Nat.le_of_ble_eq_true rfl) ?_
    intro d2 hp
    have hp : mfa b n d z d2 := hp
    refine x_iast dX12_readsWay_122 n76 s76 (by omega) (by omega) (by decide) ?_
    try simp (disch := decide) only [x_up_s, x_up_n, x_up_up, x_u1_s, x_u1_n, h26]
    exact wy_f123 hl hM h8 (fz_up (fz_of hlf hp (hkd z hr)) (by decide)) (by rw [x_up_n (by decide), hp.2.1 26 (by decide) (by decide) (by decide)]; exact h26)
  | inr w =>
    obtain ⟨v3, q3⟩ := w
    have hvv := num_v hr hg
    rw [hvv] at hnum
    refine x_aload_n dX12_readsWay_107 x_get_2_0 ?_
    refine x_getR dX12_readsWay_108 fX_12_56 n62 s62 (by rfl) ?_
    refine x_aload_n dX12_readsWay_111 x_get_2_0 ?_
    refine x_getI 26 dX12_readsWay_112 fX_12_243 rfl n62 s62 (by rfl) ?_
    try simp (disch := decide) only [x_up_s, x_up_n, x_up_up, x_u1_s, x_u1_n, h26]
    refine x_aload_n dX12_readsWay_115 x_get_2_0 ?_
    refine x_iconst dX12_readsWay_116 ?_
    refine x_bipush dX12_readsWay_117 rfl ?_
    refine x_callV (As := [_, _]) dX12_readsWay_119 w_12_239 (hnum) (by assumption) (by assumption) rfl rfl (Nat.le_of_ble_eq_true rfl) (Nat.le_of_ble_eq_true rfl) (Nat.le_of_ble_eq_true rfl) (Nat.le_of_ble_eq_true rfl) (Nat.le_of_ble_eq_true rfl) ?_
    rintro d2 ⟨hp1, hp2⟩
    refine x_iast dX12_readsWay_122 n76 s76 (by omega) (by omega) (by decide) ?_
    try simp (disch := decide) only [x_up_s, x_up_n, x_up_up, x_u1_s, x_u1_n, h26]
    exact wy_g123 hl hM h8 hv hm hW (gs_up hp1 (by decide) (by decide)) (by rw [x_up_n (by decide), hp2.2 14 (by decide)]; exact h14) (gf_up (j := 76) (gf_trn hu hp2) (by decide)) (lf_tr hlf (lf_tr (lf_gf hp2) (lf_up (by decide)))) hR
end M99996
