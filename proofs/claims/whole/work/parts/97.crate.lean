section C97
/-! ===== Reader: a crate's line ===== -/
abbrev x_cr (lb C : Nat) (ba : Prop) [Decidable ba] (v : Int × Int × Int) (D : xM) : xM := x_up (x_up D (lb + 14) (x_u1 (x_u1 (x_u1 (x_u1 (D (lb + 14)) (25 + C) v.1) (35 + C) (x_B ba)) (55 + C) v.2.1) (45 + C) v.2.2)) lb (x_u1 (D lb) 1 (C + 1))
def r_crt (b : Int → Int) (n T C q : Nat) : Rs (Int × Int × Int) := if 10 ≤ C then .inl (2, q) else r_bd (r_num b n 0 99 (tE b n q)) (fun v1 q1 => r_bd (r_plc b n T q1) (fun v2 q2 => .inr ((v1, v2, x_B (tW b n q2 5)), if tW b n q2 5 then tE b n q2 else q2)))
def r_pc (n lb C : Nat) (ba : Prop) [Decidable ba] (r : Rs (Int × Int × Int)) (D d : xM) : Prop := match r with
  | .inl z => r_pf n z D d
  | .inr z => rs d n z.2 ∧ (∀ j, j ≠ 1 → d j = x_cr lb C ba z.1 D j) ∧ ∀ i, i < 2 ∨ 6 < i → d 1 i = D 1 i
theorem w_5_141 : x_cv RX5 141 yX5_readPlace cX5_readPlace 1 (some .boolean) 5 0 := ⟨⟨_, rfl, rfl⟩, (x_in 778 (by decide +kernel) rfl), (x_in 779 (by decide +kernel) rfl), (x_in 780 (by decide +kernel) rfl), (x_in 81 (by decide +kernel) rfl), (x_in 781 (by decide +kernel) rfl), by decide, ⟨by decide +kernel, by decide +kernel, by decide +kernel⟩⟩
theorem w_5_158 : x_cv RX5 158 yX3_addCrate cX3_addCrate 5 (none) 3 4 := ⟨⟨_, rfl, rfl⟩, (x_in 809 (by decide +kernel) rfl), (x_in 810 (by decide +kernel) rfl), (x_in 811 (by decide +kernel) rfl), (x_in 82 (by decide +kernel) rfl), (x_in 812 (by decide +kernel) rfl), by decide, ⟨by decide +kernel, by decide +kernel, by decide +kernel⟩⟩
set_option maxHeartbeats 4000000 in
theorem r5_crate {X : xC} {l : Launch} (hl : l.stackTraces = false) {N : Nat} {sh : xS} {D : xM} {lb n q : Nat} (hR : is_Rd N sh lb) (hs : rs D n q) (hL : is_L N sh lb) (hlb : 3 ≤ lb) {T C : Nat} (hT : D lb 0 = T) (hT8 : T ≤ 8) (hC : D lb 1 = C) (hC8 : C ≤ 10) {ba : Prop} [Decidable ba] : x_M X l yX5_readCrate cX5_readCrate 5 (some .boolean) 5 0 0 [.ref (x_b X + 1), .int (xI (x_B ba))] false N sh D (.inl (some (.int (xI (r_o (r_crt (D 2) n T C q)))))) false N sh (r_pc n lb C ba (r_crt (D 2) n T C q) D) := by
  obtain ⟨ht, hqn, hs2, hs3, hs4, hs5⟩ := id hs
  obtain ⟨e0, e1, e2⟩ := tE_in (b := D 2) hqn
  have hki := tK_in (b := D 2) (n := n) (q := q)
  have hpos := tK_pos (b := D 2) (n := n) (q := q)
  obtain ⟨hRN, x1, x2⟩ := id hR
  have n1 : 1 < N := by omega
  have n2 : 2 < N := hRN
  obtain ⟨ht1, ht7, htb⟩ := id ht
  have xl := hL.2.1
  have nl : lb < N := by have := hL.1; omega
  by_cases h8 : 10 ≤ C
  · have hX : r_crt (D 2) n T C q = .inl (2, q) := by unfold r_crt; rw [if_pos h8]
    refine x_ofW (by decide +kernel) hl (by simp [Value.category]) (by simp) ?_
    refine x_aload_n dX5_readCrate_0 x_get_5_0 ?_
    refine x_getR dX5_readCrate_1 fX_5_37 (by assumption) (by assumption) (by rfl) ?_
    refine x_getI 1 dX5_readCrate_4 fX_5_153 rfl (by assumption) (by assumption) (by rfl) ?_
    rw [hC]
    refine x_bipush dX5_readCrate_7 rfl ?_
    refine r_icmp_lt (t := 18) dX5_readCrate_9 rfl ⟨by omega, by omega⟩ ⟨by omega, by omega⟩ (fun hc9 => absurd hc9 (by omega)) (fun hc9 => ?_)
    refine x_aload_n dX5_readCrate_12 x_get_5_0 ?_
    refine x_iconst dX5_readCrate_13 ?_
    refine x_callV (As := [_]) dX5_readCrate_14 w_5_113 (r5_fail hl hR hs) (by assumption) (by assumption) rfl rfl (Nat.le_of_ble_eq_true rfl) (Nat.le_of_ble_eq_true rfl) (Nat.le_of_ble_eq_true rfl) (Nat.le_of_ble_eq_true rfl) (Nat.le_of_ble_eq_true rfl) ?_
    intro d hd
    obtain rfl := Eq.symm hd
    exact x_zret dX5_readCrate_17 rfl (by omega) (Nat.le_of_ble_eq_true rfl) (Nat.le_of_ble_eq_true rfl) (by rw [hX]; rfl) rfl rfl (by rw [hX]; exact r_fl_ps rfl) rfl
  · have hX0 : r_crt (D 2) n T C q = r_bd (r_num (D 2) n 0 99 (tE (D 2) n q)) (fun v1 q1 => r_bd (r_plc (D 2) n T q1) (fun v2 q2 => .inr ((v1, v2, x_B (tW (D 2) n q2 5)), if tW (D 2) n q2 5 then tE (D 2) n q2 else q2))) := by unfold r_crt; rw [if_neg h8]
    have g70 : ∀ (v1 v2 : Int) (qq qz : Nat) (d : xM), rs d n qz → r1 D d → r_crt (D 2) n T C q = .inr ((v1, v2, x_B (tW (D 2) n qq 5)), qz) → x_W (X, l, yX5_readCrate, cX5_readCrate, 5, (some .boolean), x_room 5 0 0, 0, 0, (.inl (some (.int (xI (r_o (r_crt (D 2) n T C q)))))), N, sh, (r_pc n lb C ba (r_crt (D 2) n T C q) D), false, []) 70 [some (.ref (x_b X + 1)), some (.int (xI (x_B ba))), some (.int (xI v1)), some (.int (xI v2)), some (.int (xI (x_B (tW (D 2) n qq 5))))] [] 0 0 false N sh d := by
      intro v1 v2 qq qz d hd hr hX
      refine x_aload_n dX5_readCrate_70 x_get_5_0 ?_
      refine x_getR dX5_readCrate_71 fX_5_37 (by assumption) (by assumption) (by rfl) ?_
      refine x_iload_n dX5_readCrate_74 x_get_5_2 ?_
      refine x_iload_n dX5_readCrate_75 x_get_5_1 ?_
      refine x_iload_n dX5_readCrate_76 x_get_5_3 ?_
      refine x_iload dX5_readCrate_77 x_get_5_4 ?_
      refine x_callV (As := [_, _, _, _]) dX5_readCrate_79 w_5_158 (c3_crate hl hL (C := C) (by rw [hr.1 lb (by omega)]; exact hC) (by omega)) (by assumption) (by assumption) rfl rfl (Nat.le_of_ble_eq_true rfl) (Nat.le_of_ble_eq_true rfl) (Nat.le_of_ble_eq_true rfl) (Nat.le_of_ble_eq_true rfl) (Nat.le_of_ble_eq_true rfl) ?_
      intro d3 hd3
      refine x_iconst dX5_readCrate_82 ?_
      exact x_zret dX5_readCrate_83 rfl (by omega) (Nat.le_of_ble_eq_true rfl) (Nat.le_of_ble_eq_true rfl) (by rw [hX]; rfl) rfl rfl (by rw [hX]; subst hd3; exact ⟨rs_of hd (by rw [x_up_n (by omega), x_up_n (by omega)]) (by rw [x_up_n (by omega), x_up_n (by omega)]), fun j hj => by show _ = x_cr lb C ba _ D j; unfold x_cr; rw [hr.1 (lb + 14) (by omega), hr.1 lb (by omega)]; unfold x_up; rw [hr.1 j hj], fun i hi => by rw [x_up_n (by omega), x_up_n (by omega)]; exact hr.2 i hi⟩) rfl
    have g39 : ∀ (v1 : Int) (qq : Nat) (d : xM), rs d n qq → r1 D d → r_crt (D 2) n T C q = r_bd (r_plc (D 2) n T qq) (fun v2 q2 => .inr ((v1, v2, x_B (tW (D 2) n q2 5)), if tW (D 2) n q2 5 then tE (D 2) n q2 else q2)) → ∀ o3 o4 : Option Value, x_W (X, l, yX5_readCrate, cX5_readCrate, 5, (some .boolean), x_room 5 0 0, 0, 0, (.inl (some (.int (xI (r_o (r_crt (D 2) n T C q)))))), N, sh, (r_pc n lb C ba (r_crt (D 2) n T C q) D), false, []) 39 [some (.ref (x_b X + 1)), some (.int (xI (x_B ba))), some (.int (xI v1)), o3, o4] [] 0 0 false N sh d := by
      intro v1 qq d hd hr hX o3 o4
      have c1 := r5_plc (X := X) (l := l) hl hR hd hL (T := T) (by rw [hr.1 lb (by omega)]; exact hT) hT8
      rw [hr.1 2 (by decide)] at c1
      rcases hz : r_plc (D 2) n T qq with z | z
      · rw [hz] at c1 hX
        refine x_aload_n dX5_readCrate_39 x_get_5_0 ?_
        refine x_callV (As := []) dX5_readCrate_40 w_5_141 (c1) (by assumption) (by assumption) rfl rfl (Nat.le_of_ble_eq_true rfl) (Nat.le_of_ble_eq_true rfl) (Nat.le_of_ble_eq_true rfl) (Nat.le_of_ble_eq_true rfl) (Nat.le_of_ble_eq_true rfl) ?_
        intro d2 hd2
        refine r_if_ne (t := 48) dX5_readCrate_43 rfl ⟨by show (-2147483648 : Int) ≤ 0; decide, by show (0 : Int) < 2147483648; decide⟩ (fun hc43 => absurd hc43 (by show ¬ ¬ ((0 : Int) = 0); decide)) (fun hc43 => ?_)
        refine x_iconst dX5_readCrate_46 ?_
        exact x_zret dX5_readCrate_47 rfl (by omega) (Nat.le_of_ble_eq_true rfl) (Nat.le_of_ble_eq_true rfl) (by rw [hX]; rfl) rfl rfl (by rw [hX]; exact r_pf_tr hr hd2) rfl
      · rw [hz] at c1 hX
        refine x_aload_n dX5_readCrate_39 x_get_5_0 ?_
        refine x_callV (As := []) dX5_readCrate_40 w_5_141 (c1) (by assumption) (by assumption) rfl rfl (Nat.le_of_ble_eq_true rfl) (Nat.le_of_ble_eq_true rfl) (Nat.le_of_ble_eq_true rfl) (Nat.le_of_ble_eq_true rfl) (Nat.le_of_ble_eq_true rfl) ?_
        intro d2 hd2
        obtain ⟨w1, w2, w3⟩ := id hd2
        have w4 := r1_tr hr w2
        have c2 := r5_isWord (X := X) (l := l) hl hR w1 (j := 5) (by decide) (by decide)
        rw [w4.1 2 (by decide)] at c2
        refine r_if_ne (t := 48) dX5_readCrate_43 rfl ⟨by show (-2147483648 : Int) ≤ 1; decide, by show (1 : Int) < 2147483648; decide⟩ (fun hc43 => ?_) (fun hc43 => absurd hc43 (by show ¬ ((1 : Int) = 0); decide))
        refine x_aload_n dX5_readCrate_48 x_get_5_0 ?_
        refine x_getI 6 dX5_readCrate_49 fX_5_31 rfl (by assumption) (by assumption) (by rfl) ?_
        try rw [w3]
        refine x_istore_n dX5_readCrate_52 (Nat.le_of_ble_eq_true rfl) rfl x_set_5_3 ?_
        refine x_aload_n dX5_readCrate_53 x_get_5_0 ?_
        refine x_ldcS (j := 5) dX5_readCrate_54 (by decide) rfl rfl ?_
        refine x_callV (As := [_]) dX5_readCrate_56 w_5_88 (c2) (by assumption) (by assumption) rfl rfl (Nat.le_of_ble_eq_true rfl) (Nat.le_of_ble_eq_true rfl) (Nat.le_of_ble_eq_true rfl) (Nat.le_of_ble_eq_true rfl) (Nat.le_of_ble_eq_true rfl) ?_
        intro d hd
        obtain rfl := Eq.symm hd
        refine x_istore dX5_readCrate_59 (Nat.le_of_ble_eq_true rfl) rfl x_set_5_4 ?_
        refine x_iload dX5_readCrate_61 x_get_5_4 ?_
        refine b_ifeq (t := 70) dX5_readCrate_63 rfl (fun hc63 => ?_) (fun hc63 => ?_)
        · first
            | (refine g70 _ _ z.2 (tE (D 2) n z.2) d3 g1 (r1_tr w4 g2) ?_; rw [hX]; show Sum.inr _ = _; rw [if_pos hc63]; done)
            | (refine g70 _ _ z.2 z.2 d2 w1 w4 ?_; rw [hX]; show Sum.inr _ = _; rw [if_neg hc63]; done)
        · refine x_aload_n dX5_readCrate_66 x_get_5_0 ?_
          refine x_callV (As := []) dX5_readCrate_67 w_5_56 (c5_advance hl hR w1.1 w1.2.2.2.1 (tE_in w1.2.1).2.2) (by assumption) (by assumption) rfl rfl (Nat.le_of_ble_eq_true rfl) (Nat.le_of_ble_eq_true rfl) (Nat.le_of_ble_eq_true rfl) (Nat.le_of_ble_eq_true rfl) (Nat.le_of_ble_eq_true rfl) ?_
          intro d3 hd3
          obtain ⟨g1, g2, g3⟩ := ad_rs w1.1 (tE_in w1.2.1).2.2 hd3
          rw [w4.1 2 (by decide)] at g1
          first
            | (refine g70 _ _ z.2 (tE (D 2) n z.2) d3 g1 (r1_tr w4 g2) ?_; rw [hX]; show Sum.inr _ = _; rw [if_pos hc63]; done)
            | (refine g70 _ _ z.2 z.2 d2 w1 w4 ?_; rw [hX]; show Sum.inr _ = _; rw [if_neg hc63]; done)
    have g22 : ∀ (qq : Nat) (d : xM), rs d n qq → r1 D d → r_crt (D 2) n T C q = r_bd (r_num (D 2) n 0 99 qq) (fun v1 q1 => r_bd (r_plc (D 2) n T q1) (fun v2 q2 => .inr ((v1, v2, x_B (tW (D 2) n q2 5)), if tW (D 2) n q2 5 then tE (D 2) n q2 else q2))) → ∀ o2 o3 o4 : Option Value, x_W (X, l, yX5_readCrate, cX5_readCrate, 5, (some .boolean), x_room 5 0 0, 0, 0, (.inl (some (.int (xI (r_o (r_crt (D 2) n T C q)))))), N, sh, (r_pc n lb C ba (r_crt (D 2) n T C q) D), false, []) 22 [some (.ref (x_b X + 1)), some (.int (xI (x_B ba))), o2, o3, o4] [] 0 0 false N sh d := by
      intro qq d hd hr hX o2 o3 o4
      have c1 := r5_num (X := X) (l := l) hl hR hd (a := 0) (b := 99) ⟨by decide, by decide⟩ ⟨by decide, by decide⟩
      rw [hr.1 2 (by decide)] at c1
      rcases hz : r_num (D 2) n 0 99 qq with z | z
      · rw [hz] at c1 hX
        refine x_aload_n dX5_readCrate_22 x_get_5_0 ?_
        refine x_iconst dX5_readCrate_23 ?_
        refine x_bipush dX5_readCrate_24 rfl ?_
        refine x_callV (As := [_, _]) dX5_readCrate_26 w_5_124 (c1) (by assumption) (by assumption) rfl rfl (Nat.le_of_ble_eq_true rfl) (Nat.le_of_ble_eq_true rfl) (Nat.le_of_ble_eq_true rfl) (Nat.le_of_ble_eq_true rfl) (Nat.le_of_ble_eq_true rfl) ?_
        intro d2 hd2
        refine r_if_ne (t := 34) dX5_readCrate_29 rfl ⟨by show (-2147483648 : Int) ≤ 0; decide, by show (0 : Int) < 2147483648; decide⟩ (fun hc29 => absurd hc29 (by show ¬ ¬ ((0 : Int) = 0); decide)) (fun hc29 => ?_)
        refine x_iconst dX5_readCrate_32 ?_
        exact x_zret dX5_readCrate_33 rfl (by omega) (Nat.le_of_ble_eq_true rfl) (Nat.le_of_ble_eq_true rfl) (by rw [hX]; rfl) rfl rfl (by rw [hX]; exact r_pf_tr hr hd2) rfl
      · rw [hz] at c1 hX
        refine x_aload_n dX5_readCrate_22 x_get_5_0 ?_
        refine x_iconst dX5_readCrate_23 ?_
        refine x_bipush dX5_readCrate_24 rfl ?_
        refine x_callV (As := [_, _]) dX5_readCrate_26 w_5_124 (c1) (by assumption) (by assumption) rfl rfl (Nat.le_of_ble_eq_true rfl) (Nat.le_of_ble_eq_true rfl) (Nat.le_of_ble_eq_true rfl) (Nat.le_of_ble_eq_true rfl) (Nat.le_of_ble_eq_true rfl) ?_
        intro d2 hd2
        obtain ⟨w1, w2, w3⟩ := id hd2
        have w4 := r1_tr hr w2
        refine r_if_ne (t := 34) dX5_readCrate_29 rfl ⟨by show (-2147483648 : Int) ≤ 1; decide, by show (1 : Int) < 2147483648; decide⟩ (fun hc29 => ?_) (fun hc29 => absurd hc29 (by show ¬ ((1 : Int) = 0); decide))
        refine x_aload_n dX5_readCrate_34 x_get_5_0 ?_
        refine x_getI 6 dX5_readCrate_35 fX_5_31 rfl (by assumption) (by assumption) (by rfl) ?_
        try rw [w3]
        refine x_istore_n dX5_readCrate_38 (Nat.le_of_ble_eq_true rfl) rfl x_set_5_2 ?_
        exact g39 _ _ _ w1 w4 hX _ _
    refine x_ofW (by decide +kernel) hl (by simp [Value.category]) (by simp) ?_
    refine x_aload_n dX5_readCrate_0 x_get_5_0 ?_
    refine x_getR dX5_readCrate_1 fX_5_37 (by assumption) (by assumption) (by rfl) ?_
    refine x_getI 1 dX5_readCrate_4 fX_5_153 rfl (by assumption) (by assumption) (by rfl) ?_
    rw [hC]
    refine x_bipush dX5_readCrate_7 rfl ?_
    refine r_icmp_lt (t := 18) dX5_readCrate_9 rfl ⟨by omega, by omega⟩ ⟨by omega, by omega⟩ (fun hc9 => ?_) (fun hc9 => absurd hc9 (by omega))
    refine x_aload_n dX5_readCrate_18 x_get_5_0 ?_
    refine x_callV (As := []) dX5_readCrate_19 w_5_56 (c5_advance hl hR ht hs3 e2) (by assumption) (by assumption) rfl rfl (Nat.le_of_ble_eq_true rfl) (Nat.le_of_ble_eq_true rfl) (Nat.le_of_ble_eq_true rfl) (Nat.le_of_ble_eq_true rfl) (Nat.le_of_ble_eq_true rfl) ?_
    intro d1 hd1
    obtain ⟨g1, g2, g3⟩ := ad_rs ht e2 hd1
    exact g22 _ _ g1 g2 hX0 _ _ _
end C97
