section C98
/-! ===== Reader: a way's line ===== -/
theorem r_plc_in {b : Int → Int} {n T q : Nat} {z : Int × Nat} (h : r_plc b n T q = .inr z) : 0 ≤ z.1 ∧ z.1 < T := by
  unfold r_plc at h
  by_cases h3 : tK b n q = 3
  · rw [if_pos h3] at h
    by_cases h4 : tL b n q
    · rw [if_pos h4] at h; cases h
    · rw [if_neg h4] at h
      by_cases h5 : tV b n q < T
      · rw [if_pos h5] at h
        cases h
        exact ⟨(tV_in h3).1, h5⟩
      · rw [if_neg h5] at h; cases h
  · rw [if_neg h3] at h; cases h
abbrev x_wy (lb W : Nat) (v : Int × Int × Int × Int) (D : xM) : xM := x_up (x_up (x_up (x_up (x_up D (lb + 3 + 1) (x_u1 (D (lb + 3 + 1)) W v.1)) (lb + 3 + 2) (x_u1 (D (lb + 3 + 2)) W v.2.1)) (lb + 3 + 3) (x_u1 (D (lb + 3 + 3)) W v.2.2.1)) (lb + 3 + 4) (x_u1 (D (lb + 3 + 4)) W v.2.2.2)) (lb + 3) (x_u1 (D (lb + 3)) 0 (W + 1))
abbrev r_jn (b : Int → Int) (n T W : Nat) (one two : Int → Int) (a : Int) (q : Nat) : Prop := (tK b n q = 3 ∧ ¬ tL b n q ∧ tV b n q < T) ∧ (tV b n q = a ∨ ¬ e_btw one two W a (tV b n q) = -1)
def r_way (b : Int → Int) (n T W : Nat) (one two : Int → Int) (q : Nat) : Rs (Int × Int × Int × Int) := if 12 ≤ W then .inl (2, q) else r_bd (r_plc b n T (tE b n q)) (fun v1 q1 => if r_jn b n T W one two v1 q1 then .inl (4, q1) else r_bd (r_plc b n T q1) (fun v2 q2 => r_bd (r_num b n 1 9 q2) (fun v3 q3 => r_bd (r_num b n 0 9 q3) (fun v4 q4 => .inr ((v1, v2, v3, v4), q4)))))
def r_pw (n lb W : Nat) (r : Rs (Int × Int × Int × Int)) (D d : xM) : Prop := match r with
  | .inl z => r_pf n z D d
  | .inr z => rs d n z.2 ∧ (∀ j, j ≠ 1 → d j = x_wy lb W z.1 D j) ∧ ∀ i, i < 2 ∨ 6 < i → d 1 i = D 1 i
theorem w_5_147 : x_cv RX5 147 yX6_joins cX6_joins 3 (some .boolean) 6 2 := ⟨⟨_, rfl, rfl⟩, (x_in 786 (by decide +kernel) rfl), (x_in 787 (by decide +kernel) rfl), (x_in 788 (by decide +kernel) rfl), (x_in 83 (by decide +kernel) rfl), (x_in 789 (by decide +kernel) rfl), by decide, ⟨by decide +kernel, by decide +kernel, by decide +kernel⟩⟩
theorem w_5_150 : x_cv RX5 150 yX6_add cX6_add 5 (none) 6 4 := ⟨⟨_, rfl, rfl⟩, (x_in 798 (by decide +kernel) rfl), (x_in 799 (by decide +kernel) rfl), (x_in 800 (by decide +kernel) rfl), (x_in 83 (by decide +kernel) rfl), (x_in 801 (by decide +kernel) rfl), by decide, ⟨by decide +kernel, by decide +kernel, by decide +kernel⟩⟩
set_option maxHeartbeats 4000000 in
theorem r5_way {X : xC} {l : Launch} (hl : l.stackTraces = false) {N : Nat} {sh : xS} {D : xM} {lb n q : Nat} (hR : is_Rd N sh lb) (hs : rs D n q) (hL : is_L N sh lb) (hlb : 3 ≤ lb) {T W T0 : Nat} (hT : D lb 0 = T) (hT8 : T ≤ 8) (hrd : rd D (lb + 3) W T0) : x_M X l yX5_readWay cX5_readWay 4 (some .boolean) 4 0 0 [.ref (x_b X + 1)] false N sh D (.inl (some (.int (xI (r_o (r_way (D 2) n T W (D (lb + 3 + 1)) (D (lb + 3 + 2)) q)))))) false N sh (r_pw n lb W (r_way (D 2) n T W (D (lb + 3 + 1)) (D (lb + 3 + 2)) q) D) := by
  obtain ⟨ht, hqn, hs2, hs3, hs4, hs5⟩ := id hs
  obtain ⟨e0, e1, e2⟩ := tE_in (b := D 2) hqn
  have hki := tK_in (b := D 2) (n := n) (q := q)
  have hpos := tK_pos (b := D 2) (n := n) (q := q)
  obtain ⟨hRN, x1, x2⟩ := id hR
  have n1 : 1 < N := by omega
  have n2 : 2 < N := hRN
  obtain ⟨ht1, ht7, htb⟩ := id ht
  have xl := hL.2.1
  have nl : lb < N := by have := hL.1; omega
  have xro := (is_L_ro hL).2.1
  have nro : lb + 3 < N := by have := hL.1; omega
  obtain ⟨q0, q0b, -⟩ := id hrd
  by_cases h8 : 12 ≤ W
  · have hX : r_way (D 2) n T W (D (lb + 3 + 1)) (D (lb + 3 + 2)) q = .inl (2, q) := by unfold r_way; rw [if_pos h8]
    refine x_ofW (by decide +kernel) hl (by simp [Value.category]) (by simp) ?_
    refine x_aload_n dX5_readWay_0 x_get_4_0 ?_
    refine x_getR dX5_readWay_1 fX_5_37 (by assumption) (by assumption) (by rfl) ?_
    refine x_getR dX5_readWay_4 fX_5_132 (by assumption) (by assumption) (by rfl) ?_
    refine x_getI 0 dX5_readWay_7 fX_5_136 rfl (by assumption) (by assumption) (by rfl) ?_
    rw [q0]
    refine x_bipush dX5_readWay_10 rfl ?_
    refine r_icmp_lt (t := 21) dX5_readWay_12 rfl ⟨by omega, by omega⟩ ⟨by omega, by omega⟩ (fun hc12 => absurd hc12 (by omega)) (fun hc12 => ?_)
    refine x_aload_n dX5_readWay_15 x_get_4_0 ?_
    refine x_iconst dX5_readWay_16 ?_
    refine x_callV (As := [_]) dX5_readWay_17 w_5_113 (r5_fail hl hR hs) (by assumption) (by assumption) rfl rfl (Nat.le_of_ble_eq_true rfl) (Nat.le_of_ble_eq_true rfl) (Nat.le_of_ble_eq_true rfl) (Nat.le_of_ble_eq_true rfl) (Nat.le_of_ble_eq_true rfl) ?_
    intro d hd
    obtain rfl := Eq.symm hd
    exact x_zret dX5_readWay_20 rfl (by omega) (Nat.le_of_ble_eq_true rfl) (Nat.le_of_ble_eq_true rfl) (by rw [hX]; rfl) rfl rfl (by rw [hX]; exact r_fl_ps rfl) rfl
  · have hX0 : r_way (D 2) n T W (D (lb + 3 + 1)) (D (lb + 3 + 2)) q = r_bd (r_plc (D 2) n T (tE (D 2) n q)) (fun v1 q1 => if r_jn (D 2) n T W (D (lb + 3 + 1)) (D (lb + 3 + 2)) v1 q1 then .inl (4, q1) else r_bd (r_plc (D 2) n T q1) (fun v2 q2 => r_bd (r_num (D 2) n 1 9 q2) (fun v3 q3 => r_bd (r_num (D 2) n 0 9 q3) (fun v4 q4 => .inr ((v1, v2, v3, v4), q4))))) := by unfold r_way; rw [if_neg h8]
    have g109 : ∀ (v1 v2 v3 : Int) (qq : Nat) (d : xM), rs d n qq → r1 D d → r_way (D 2) n T W (D (lb + 3 + 1)) (D (lb + 3 + 2)) q = r_bd (r_num (D 2) n 0 9 qq) (fun v4 q4 => .inr ((v1, v2, v3, v4), q4)) → x_W (X, l, yX5_readWay, cX5_readWay, 4, (some .boolean), x_room 4 0 0, 0, 0, (.inl (some (.int (xI (r_o (r_way (D 2) n T W (D (lb + 3 + 1)) (D (lb + 3 + 2)) q)))))), N, sh, (r_pw n lb W (r_way (D 2) n T W (D (lb + 3 + 1)) (D (lb + 3 + 2)) q) D), false, []) 109 [some (.ref (x_b X + 1)), some (.int (xI v1)), some (.int (xI v2)), some (.int (xI v3))] [] 0 0 false N sh d := by
      intro v1 v2 v3 qq d hd hr hX 
      have c1 := r5_num (X := X) (l := l) hl hR hd (a := 0) (b := 9) ⟨by decide, by decide⟩ ⟨by decide, by decide⟩
      rw [hr.1 2 (by decide)] at c1
      rcases hz : r_num (D 2) n 0 9 qq with z | z
      · rw [hz] at c1 hX
        refine x_aload_n dX5_readWay_109 x_get_4_0 ?_
        refine x_iconst dX5_readWay_110 ?_
        refine x_bipush dX5_readWay_111 rfl ?_
        refine x_callV (As := [_, _]) dX5_readWay_113 w_5_124 (c1) (by assumption) (by assumption) rfl rfl (Nat.le_of_ble_eq_true rfl) (Nat.le_of_ble_eq_true rfl) (Nat.le_of_ble_eq_true rfl) (Nat.le_of_ble_eq_true rfl) (Nat.le_of_ble_eq_true rfl) ?_
        intro d2 hd2
        refine r_if_ne (t := 121) dX5_readWay_116 rfl ⟨by show (-2147483648 : Int) ≤ 0; decide, by show (0 : Int) < 2147483648; decide⟩ (fun hc116 => absurd hc116 (by show ¬ ¬ ((0 : Int) = 0); decide)) (fun hc116 => ?_)
        refine x_iconst dX5_readWay_119 ?_
        exact x_zret dX5_readWay_120 rfl (by omega) (Nat.le_of_ble_eq_true rfl) (Nat.le_of_ble_eq_true rfl) (by rw [hX]; rfl) rfl rfl (by rw [hX]; exact r_pf_tr hr hd2) rfl
      · rw [hz] at c1 hX
        refine x_aload_n dX5_readWay_109 x_get_4_0 ?_
        refine x_iconst dX5_readWay_110 ?_
        refine x_bipush dX5_readWay_111 rfl ?_
        refine x_callV (As := [_, _]) dX5_readWay_113 w_5_124 (c1) (by assumption) (by assumption) rfl rfl (Nat.le_of_ble_eq_true rfl) (Nat.le_of_ble_eq_true rfl) (Nat.le_of_ble_eq_true rfl) (Nat.le_of_ble_eq_true rfl) (Nat.le_of_ble_eq_true rfl) ?_
        intro d2 hd2
        obtain ⟨w1, w2, w3⟩ := id hd2
        have w4 := r1_tr hr w2
        refine r_if_ne (t := 121) dX5_readWay_116 rfl ⟨by show (-2147483648 : Int) ≤ 1; decide, by show (1 : Int) < 2147483648; decide⟩ (fun hc116 => ?_) (fun hc116 => absurd hc116 (by show ¬ ((1 : Int) = 0); decide))
        refine x_aload_n dX5_readWay_121 x_get_4_0 ?_
        refine x_getR dX5_readWay_122 fX_5_37 (by assumption) (by assumption) (by rfl) ?_
        refine x_getR dX5_readWay_125 fX_5_132 (by assumption) (by assumption) (by rfl) ?_
        refine x_iload_n dX5_readWay_128 x_get_4_1 ?_
        refine x_iload_n dX5_readWay_129 x_get_4_2 ?_
        refine x_iload_n dX5_readWay_130 x_get_4_3 ?_
        refine x_aload_n dX5_readWay_131 x_get_4_0 ?_
        refine x_getI 6 dX5_readWay_132 fX_5_31 rfl (by assumption) (by assumption) (by rfl) ?_
        try rw [w3]
        refine x_callV (As := [_, _, _, _]) dX5_readWay_135 w_5_150 (c6_add hl (is_L_ro hL) (W := W) (by rw [w4.1 (lb + 3) (by omega)]; exact q0) (by omega)) (by assumption) (by assumption) rfl rfl (Nat.le_of_ble_eq_true rfl) (Nat.le_of_ble_eq_true rfl) (Nat.le_of_ble_eq_true rfl) (Nat.le_of_ble_eq_true rfl) (Nat.le_of_ble_eq_true rfl) ?_
        intro d3 hd3
        refine x_iconst dX5_readWay_138 ?_
        exact x_zret dX5_readWay_139 rfl (by omega) (Nat.le_of_ble_eq_true rfl) (Nat.le_of_ble_eq_true rfl) (by rw [hX]; rfl) rfl rfl (by rw [hX]; subst hd3; exact ⟨rs_of w1 (by rw [x_up_n (by omega), x_up_n (by omega), x_up_n (by omega), x_up_n (by omega), x_up_n (by omega)]) (by rw [x_up_n (by omega), x_up_n (by omega), x_up_n (by omega), x_up_n (by omega), x_up_n (by omega)]), fun j hj => by show _ = x_wy lb W _ D j; unfold x_wy; rw [w4.1 (lb + 3 + 1) (by omega), w4.1 (lb + 3 + 2) (by omega), w4.1 (lb + 3 + 3) (by omega), w4.1 (lb + 3 + 4) (by omega), w4.1 (lb + 3) (by omega)]; unfold x_up; rw [w4.1 j hj], fun i hi => by rw [x_up_n (by omega), x_up_n (by omega), x_up_n (by omega), x_up_n (by omega), x_up_n (by omega)]; exact w4.2 i hi⟩) rfl
    have g92 : ∀ (v1 v2 : Int) (qq : Nat) (d : xM), rs d n qq → r1 D d → r_way (D 2) n T W (D (lb + 3 + 1)) (D (lb + 3 + 2)) q = r_bd (r_num (D 2) n 1 9 qq) (fun v3 q3 => r_bd (r_num (D 2) n 0 9 q3) (fun v4 q4 => .inr ((v1, v2, v3, v4), q4))) → ∀ o3 : Option Value, x_W (X, l, yX5_readWay, cX5_readWay, 4, (some .boolean), x_room 4 0 0, 0, 0, (.inl (some (.int (xI (r_o (r_way (D 2) n T W (D (lb + 3 + 1)) (D (lb + 3 + 2)) q)))))), N, sh, (r_pw n lb W (r_way (D 2) n T W (D (lb + 3 + 1)) (D (lb + 3 + 2)) q) D), false, []) 92 [some (.ref (x_b X + 1)), some (.int (xI v1)), some (.int (xI v2)), o3] [] 0 0 false N sh d := by
      intro v1 v2 qq d hd hr hX o3
      have c1 := r5_num (X := X) (l := l) hl hR hd (a := 1) (b := 9) ⟨by decide, by decide⟩ ⟨by decide, by decide⟩
      rw [hr.1 2 (by decide)] at c1
      rcases hz : r_num (D 2) n 1 9 qq with z | z
      · rw [hz] at c1 hX
        refine x_aload_n dX5_readWay_92 x_get_4_0 ?_
        refine x_iconst dX5_readWay_93 ?_
        refine x_bipush dX5_readWay_94 rfl ?_
        refine x_callV (As := [_, _]) dX5_readWay_96 w_5_124 (c1) (by assumption) (by assumption) rfl rfl (Nat.le_of_ble_eq_true rfl) (Nat.le_of_ble_eq_true rfl) (Nat.le_of_ble_eq_true rfl) (Nat.le_of_ble_eq_true rfl) (Nat.le_of_ble_eq_true rfl) ?_
        intro d2 hd2
        refine r_if_ne (t := 104) dX5_readWay_99 rfl ⟨by show (-2147483648 : Int) ≤ 0; decide, by show (0 : Int) < 2147483648; decide⟩ (fun hc99 => absurd hc99 (by show ¬ ¬ ((0 : Int) = 0); decide)) (fun hc99 => ?_)
        refine x_iconst dX5_readWay_102 ?_
        exact x_zret dX5_readWay_103 rfl (by omega) (Nat.le_of_ble_eq_true rfl) (Nat.le_of_ble_eq_true rfl) (by rw [hX]; rfl) rfl rfl (by rw [hX]; exact r_pf_tr hr hd2) rfl
      · rw [hz] at c1 hX
        refine x_aload_n dX5_readWay_92 x_get_4_0 ?_
        refine x_iconst dX5_readWay_93 ?_
        refine x_bipush dX5_readWay_94 rfl ?_
        refine x_callV (As := [_, _]) dX5_readWay_96 w_5_124 (c1) (by assumption) (by assumption) rfl rfl (Nat.le_of_ble_eq_true rfl) (Nat.le_of_ble_eq_true rfl) (Nat.le_of_ble_eq_true rfl) (Nat.le_of_ble_eq_true rfl) (Nat.le_of_ble_eq_true rfl) ?_
        intro d2 hd2
        obtain ⟨w1, w2, w3⟩ := id hd2
        have w4 := r1_tr hr w2
        refine r_if_ne (t := 104) dX5_readWay_99 rfl ⟨by show (-2147483648 : Int) ≤ 1; decide, by show (1 : Int) < 2147483648; decide⟩ (fun hc99 => ?_) (fun hc99 => absurd hc99 (by show ¬ ((1 : Int) = 0); decide))
        refine x_aload_n dX5_readWay_104 x_get_4_0 ?_
        refine x_getI 6 dX5_readWay_105 fX_5_31 rfl (by assumption) (by assumption) (by rfl) ?_
        try rw [w3]
        refine x_istore_n dX5_readWay_108 (Nat.le_of_ble_eq_true rfl) rfl x_set_4_3 ?_
        exact g109 _ _ _ _ _ w1 w4 hX
    have g78 : ∀ (v1 : Int) (qq : Nat) (d : xM), rs d n qq → r1 D d → r_way (D 2) n T W (D (lb + 3 + 1)) (D (lb + 3 + 2)) q = r_bd (r_plc (D 2) n T qq) (fun v2 q2 => r_bd (r_num (D 2) n 1 9 q2) (fun v3 q3 => r_bd (r_num (D 2) n 0 9 q3) (fun v4 q4 => .inr ((v1, v2, v3, v4), q4)))) → ∀ o2 o3 : Option Value, x_W (X, l, yX5_readWay, cX5_readWay, 4, (some .boolean), x_room 4 0 0, 0, 0, (.inl (some (.int (xI (r_o (r_way (D 2) n T W (D (lb + 3 + 1)) (D (lb + 3 + 2)) q)))))), N, sh, (r_pw n lb W (r_way (D 2) n T W (D (lb + 3 + 1)) (D (lb + 3 + 2)) q) D), false, []) 78 [some (.ref (x_b X + 1)), some (.int (xI v1)), o2, o3] [] 0 0 false N sh d := by
      intro v1 qq d hd hr hX o2 o3
      have c1 := r5_plc (X := X) (l := l) hl hR hd hL (T := T) (by rw [hr.1 lb (by omega)]; exact hT) hT8
      rw [hr.1 2 (by decide)] at c1
      rcases hz : r_plc (D 2) n T qq with z | z
      · rw [hz] at c1 hX
        refine x_aload_n dX5_readWay_78 x_get_4_0 ?_
        refine x_callV (As := []) dX5_readWay_79 w_5_141 (c1) (by assumption) (by assumption) rfl rfl (Nat.le_of_ble_eq_true rfl) (Nat.le_of_ble_eq_true rfl) (Nat.le_of_ble_eq_true rfl) (Nat.le_of_ble_eq_true rfl) (Nat.le_of_ble_eq_true rfl) ?_
        intro d2 hd2
        refine r_if_ne (t := 87) dX5_readWay_82 rfl ⟨by show (-2147483648 : Int) ≤ 0; decide, by show (0 : Int) < 2147483648; decide⟩ (fun hc82 => absurd hc82 (by show ¬ ¬ ((0 : Int) = 0); decide)) (fun hc82 => ?_)
        refine x_iconst dX5_readWay_85 ?_
        exact x_zret dX5_readWay_86 rfl (by omega) (Nat.le_of_ble_eq_true rfl) (Nat.le_of_ble_eq_true rfl) (by rw [hX]; rfl) rfl rfl (by rw [hX]; exact r_pf_tr hr hd2) rfl
      · rw [hz] at c1 hX
        refine x_aload_n dX5_readWay_78 x_get_4_0 ?_
        refine x_callV (As := []) dX5_readWay_79 w_5_141 (c1) (by assumption) (by assumption) rfl rfl (Nat.le_of_ble_eq_true rfl) (Nat.le_of_ble_eq_true rfl) (Nat.le_of_ble_eq_true rfl) (Nat.le_of_ble_eq_true rfl) (Nat.le_of_ble_eq_true rfl) ?_
        intro d2 hd2
        obtain ⟨w1, w2, w3⟩ := id hd2
        have w4 := r1_tr hr w2
        refine r_if_ne (t := 87) dX5_readWay_82 rfl ⟨by show (-2147483648 : Int) ≤ 1; decide, by show (1 : Int) < 2147483648; decide⟩ (fun hc82 => ?_) (fun hc82 => absurd hc82 (by show ¬ ((1 : Int) = 0); decide))
        refine x_aload_n dX5_readWay_87 x_get_4_0 ?_
        refine x_getI 6 dX5_readWay_88 fX_5_31 rfl (by assumption) (by assumption) (by rfl) ?_
        try rw [w3]
        refine x_istore_n dX5_readWay_91 (Nat.le_of_ble_eq_true rfl) rfl x_set_4_2 ?_
        exact g92 _ _ _ _ w1 w4 hX _
    have g39 : ∀ (v1 : Int) (qq : Nat) (d : xM), 0 ≤ v1 → v1 < T → rs d n qq → r1 D d → r_way (D 2) n T W (D (lb + 3 + 1)) (D (lb + 3 + 2)) q = (if r_jn (D 2) n T W (D (lb + 3 + 1)) (D (lb + 3 + 2)) v1 qq then .inl (4, qq) else r_bd (r_plc (D 2) n T qq) (fun v2 q2 => r_bd (r_num (D 2) n 1 9 q2) (fun v3 q3 => r_bd (r_num (D 2) n 0 9 q3) (fun v4 q4 => .inr ((v1, v2, v3, v4), q4))))) → ∀ o2 o3 : Option Value, x_W (X, l, yX5_readWay, cX5_readWay, 4, (some .boolean), x_room 4 0 0, 0, 0, (.inl (some (.int (xI (r_o (r_way (D 2) n T W (D (lb + 3 + 1)) (D (lb + 3 + 2)) q)))))), N, sh, (r_pw n lb W (r_way (D 2) n T W (D (lb + 3 + 1)) (D (lb + 3 + 2)) q) D), false, []) 39 [some (.ref (x_b X + 1)), some (.int (xI v1)), o2, o3] [] 0 0 false N sh d := by
      intro v1 qq d hv0 hv1 hds hr hX o2 o3
      have e2d : d 2 = D 2 := hr.1 2 (by decide)
      have hrd2 : rd d (lb + 3) W T0 := by
        unfold rd at hrd ⊢
        rw [hr.1 (lb + 3) (by omega), hr.1 (lb + 3 + 1) (by omega), hr.1 (lb + 3 + 2) (by omega), hr.1 (lb + 3 + 3) (by omega), hr.1 (lb + 3 + 4) (by omega), hr.1 (lb + 3 + 5) (by omega), hr.1 (lb + 3 + 6) (by omega)]
        exact hrd
      have c1 := r5_isKnown (X := X) (l := l) hl hR hds hL (T := T) (by rw [hr.1 lb (by omega)]; exact hT) hT8
      rw [e2d] at c1
      have m5 := hds.2.2.2.2.2
      rw [e2d] at m5
      have hfl := r5_fail (X := X) (l := l) hl hR hds (w := 4)
      refine x_aload_n dX5_readWay_39 x_get_4_0 ?_
      refine x_callV (As := []) dX5_readWay_40 w_5_144 (c1) (by assumption) (by assumption) rfl rfl (Nat.le_of_ble_eq_true rfl) (Nat.le_of_ble_eq_true rfl) (Nat.le_of_ble_eq_true rfl) (Nat.le_of_ble_eq_true rfl) (Nat.le_of_ble_eq_true rfl) ?_
      intro d hd
      obtain rfl := Eq.symm hd
      refine b_ifeq (t := 78) dX5_readWay_43 rfl (fun hc43 => ?_) (fun hc43 => ?_)
      · have hj : ¬ r_jn (D 2) n T W (D (lb + 3 + 1)) (D (lb + 3 + 2)) v1 qq := by
          first | (exact fun h => hc43 h.1) | (exact fun h => h.2.elim (fun h2 => hc51 h2) (fun h2 => hc69 (by rw [hr.1 (lb + 3 + 1) (by omega), hr.1 (lb + 3 + 2) (by omega)]; exact h2)))
        rw [if_neg hj] at hX
        exact g78 _ _ _ hds hr hX _ _
      · refine x_aload_n dX5_readWay_46 x_get_4_0 ?_
        refine x_getI 5 dX5_readWay_47 fX_5_28 rfl (by assumption) (by assumption) (by rfl) ?_
        try rw [m5 hc43.1]
        refine x_iload_n dX5_readWay_50 x_get_4_1 ?_
        refine r_icmp_eq (t := 72) dX5_readWay_51 rfl ⟨by have := tV_in hc43.1; omega, by have := tV_in hc43.1; omega⟩ ⟨by omega, by omega⟩ (fun hc51 => ?_) (fun hc51 => ?_)
        · have hj : r_jn (D 2) n T W (D (lb + 3 + 1)) (D (lb + 3 + 2)) v1 qq := by
            first | exact ⟨hc43, Or.inl hc51⟩ | exact ⟨hc43, Or.inr (by rw [← hr.1 (lb + 3 + 1) (by omega), ← hr.1 (lb + 3 + 2) (by omega)]; exact hc69)⟩
          rw [if_pos hj] at hX
          refine x_aload_n dX5_readWay_72 x_get_4_0 ?_
          refine x_iconst dX5_readWay_73 ?_
          refine x_callV (As := [_]) dX5_readWay_74 w_5_113 (hfl) (by assumption) (by assumption) rfl rfl (Nat.le_of_ble_eq_true rfl) (Nat.le_of_ble_eq_true rfl) (Nat.le_of_ble_eq_true rfl) (Nat.le_of_ble_eq_true rfl) (Nat.le_of_ble_eq_true rfl) ?_
          intro d hd
          obtain rfl := Eq.symm hd
          exact x_zret dX5_readWay_77 rfl (by omega) (Nat.le_of_ble_eq_true rfl) (Nat.le_of_ble_eq_true rfl) (by rw [hX]; rfl) rfl rfl (by rw [hX]; exact r_pf_tr hr (r_fl_ps rfl)) rfl
        · refine x_aload_n dX5_readWay_54 x_get_4_0 ?_
          refine x_getR dX5_readWay_55 fX_5_37 (by assumption) (by assumption) (by rfl) ?_
          refine x_getR dX5_readWay_58 fX_5_132 (by assumption) (by assumption) (by rfl) ?_
          refine x_iload_n dX5_readWay_61 x_get_4_1 ?_
          refine x_aload_n dX5_readWay_62 x_get_4_0 ?_
          refine x_getI 5 dX5_readWay_63 fX_5_28 rfl (by assumption) (by assumption) (by rfl) ?_
          try rw [m5 hc43.1]
          refine x_callV (As := [_, _]) dX5_readWay_66 w_5_147 (c6_joins hl (is_L_ro hL) hrd2 (a := v1) (b := tV (D 2) n qq) ⟨by omega, by omega⟩ ⟨by have := tV_in hc43.1; omega, by have := tV_in hc43.1; omega⟩) (by assumption) (by assumption) rfl rfl (Nat.le_of_ble_eq_true rfl) (Nat.le_of_ble_eq_true rfl) (Nat.le_of_ble_eq_true rfl) (Nat.le_of_ble_eq_true rfl) (Nat.le_of_ble_eq_true rfl) ?_
          intro d hd
          obtain rfl := Eq.symm hd
          refine b_ifeq (t := 78) dX5_readWay_69 rfl (fun hc69 => ?_) (fun hc69 => ?_)
          · have hj : ¬ r_jn (D 2) n T W (D (lb + 3 + 1)) (D (lb + 3 + 2)) v1 qq := by
              first | (exact fun h => hc43 h.1) | (exact fun h => h.2.elim (fun h2 => hc51 h2) (fun h2 => hc69 (by rw [hr.1 (lb + 3 + 1) (by omega), hr.1 (lb + 3 + 2) (by omega)]; exact h2)))
            rw [if_neg hj] at hX
            exact g78 _ _ _ hds hr hX _ _
          · have hj : r_jn (D 2) n T W (D (lb + 3 + 1)) (D (lb + 3 + 2)) v1 qq := by
              first | exact ⟨hc43, Or.inl hc51⟩ | exact ⟨hc43, Or.inr (by rw [← hr.1 (lb + 3 + 1) (by omega), ← hr.1 (lb + 3 + 2) (by omega)]; exact hc69)⟩
            rw [if_pos hj] at hX
            refine x_aload_n dX5_readWay_72 x_get_4_0 ?_
            refine x_iconst dX5_readWay_73 ?_
            refine x_callV (As := [_]) dX5_readWay_74 w_5_113 (hfl) (by assumption) (by assumption) rfl rfl (Nat.le_of_ble_eq_true rfl) (Nat.le_of_ble_eq_true rfl) (Nat.le_of_ble_eq_true rfl) (Nat.le_of_ble_eq_true rfl) (Nat.le_of_ble_eq_true rfl) ?_
            intro d hd
            obtain rfl := Eq.symm hd
            exact x_zret dX5_readWay_77 rfl (by omega) (Nat.le_of_ble_eq_true rfl) (Nat.le_of_ble_eq_true rfl) (by rw [hX]; rfl) rfl rfl (by rw [hX]; exact r_pf_tr hr (r_fl_ps rfl)) rfl
    have g25 : ∀ (qq : Nat) (d : xM), rs d n qq → r1 D d → r_way (D 2) n T W (D (lb + 3 + 1)) (D (lb + 3 + 2)) q = r_bd (r_plc (D 2) n T qq) (fun v1 q1 => if r_jn (D 2) n T W (D (lb + 3 + 1)) (D (lb + 3 + 2)) v1 q1 then .inl (4, q1) else r_bd (r_plc (D 2) n T q1) (fun v2 q2 => r_bd (r_num (D 2) n 1 9 q2) (fun v3 q3 => r_bd (r_num (D 2) n 0 9 q3) (fun v4 q4 => .inr ((v1, v2, v3, v4), q4))))) → ∀ o1 o2 o3 : Option Value, x_W (X, l, yX5_readWay, cX5_readWay, 4, (some .boolean), x_room 4 0 0, 0, 0, (.inl (some (.int (xI (r_o (r_way (D 2) n T W (D (lb + 3 + 1)) (D (lb + 3 + 2)) q)))))), N, sh, (r_pw n lb W (r_way (D 2) n T W (D (lb + 3 + 1)) (D (lb + 3 + 2)) q) D), false, []) 25 [some (.ref (x_b X + 1)), o1, o2, o3] [] 0 0 false N sh d := by
      intro  qq d hd hr hX o1 o2 o3
      have c1 := r5_plc (X := X) (l := l) hl hR hd hL (T := T) (by rw [hr.1 lb (by omega)]; exact hT) hT8
      rw [hr.1 2 (by decide)] at c1
      rcases hz : r_plc (D 2) n T qq with z | z
      · rw [hz] at c1 hX
        refine x_aload_n dX5_readWay_25 x_get_4_0 ?_
        refine x_callV (As := []) dX5_readWay_26 w_5_141 (c1) (by assumption) (by assumption) rfl rfl (Nat.le_of_ble_eq_true rfl) (Nat.le_of_ble_eq_true rfl) (Nat.le_of_ble_eq_true rfl) (Nat.le_of_ble_eq_true rfl) (Nat.le_of_ble_eq_true rfl) ?_
        intro d2 hd2
        refine r_if_ne (t := 34) dX5_readWay_29 rfl ⟨by show (-2147483648 : Int) ≤ 0; decide, by show (0 : Int) < 2147483648; decide⟩ (fun hc29 => absurd hc29 (by show ¬ ¬ ((0 : Int) = 0); decide)) (fun hc29 => ?_)
        refine x_iconst dX5_readWay_32 ?_
        exact x_zret dX5_readWay_33 rfl (by omega) (Nat.le_of_ble_eq_true rfl) (Nat.le_of_ble_eq_true rfl) (by rw [hX]; rfl) rfl rfl (by rw [hX]; exact r_pf_tr hr hd2) rfl
      · rw [hz] at c1 hX
        refine x_aload_n dX5_readWay_25 x_get_4_0 ?_
        refine x_callV (As := []) dX5_readWay_26 w_5_141 (c1) (by assumption) (by assumption) rfl rfl (Nat.le_of_ble_eq_true rfl) (Nat.le_of_ble_eq_true rfl) (Nat.le_of_ble_eq_true rfl) (Nat.le_of_ble_eq_true rfl) (Nat.le_of_ble_eq_true rfl) ?_
        intro d2 hd2
        obtain ⟨w1, w2, w3⟩ := id hd2
        have w4 := r1_tr hr w2
        have hzi := r_plc_in hz
        refine r_if_ne (t := 34) dX5_readWay_29 rfl ⟨by show (-2147483648 : Int) ≤ 1; decide, by show (1 : Int) < 2147483648; decide⟩ (fun hc29 => ?_) (fun hc29 => absurd hc29 (by show ¬ ((1 : Int) = 0); decide))
        refine x_aload_n dX5_readWay_34 x_get_4_0 ?_
        refine x_getI 6 dX5_readWay_35 fX_5_31 rfl (by assumption) (by assumption) (by rfl) ?_
        try rw [w3]
        refine x_istore_n dX5_readWay_38 (Nat.le_of_ble_eq_true rfl) rfl x_set_4_1 ?_
        exact g39 _ _ _ hzi.1 hzi.2 w1 w4 hX _ _
    refine x_ofW (by decide +kernel) hl (by simp [Value.category]) (by simp) ?_
    refine x_aload_n dX5_readWay_0 x_get_4_0 ?_
    refine x_getR dX5_readWay_1 fX_5_37 (by assumption) (by assumption) (by rfl) ?_
    refine x_getR dX5_readWay_4 fX_5_132 (by assumption) (by assumption) (by rfl) ?_
    refine x_getI 0 dX5_readWay_7 fX_5_136 rfl (by assumption) (by assumption) (by rfl) ?_
    rw [q0]
    refine x_bipush dX5_readWay_10 rfl ?_
    refine r_icmp_lt (t := 21) dX5_readWay_12 rfl ⟨by omega, by omega⟩ ⟨by omega, by omega⟩ (fun hc12 => ?_) (fun hc12 => absurd hc12 (by omega))
    refine x_aload_n dX5_readWay_21 x_get_4_0 ?_
    refine x_callV (As := []) dX5_readWay_22 w_5_56 (c5_advance hl hR ht hs3 e2) (by assumption) (by assumption) rfl rfl (Nat.le_of_ble_eq_true rfl) (Nat.le_of_ble_eq_true rfl) (Nat.le_of_ble_eq_true rfl) (Nat.le_of_ble_eq_true rfl) (Nat.le_of_ble_eq_true rfl) ?_
    intro d1 hd1
    obtain ⟨g1, g2, g3⟩ := ad_rs ht e2 hd1
    exact g25 _ _ g1 g2 hX0 _ _ _
end C98
