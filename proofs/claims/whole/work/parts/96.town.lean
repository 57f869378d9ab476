section C96
/-! ===== Reader: a town's line ===== -/
abbrev Rs (α : Type) : Type := (Int × Nat) ⊕ (α × Nat)
def r_bd {α β : Type} (r : Rs α) (k : α → Nat → Rs β) : Rs β := match r with
  | .inl z => .inl z
  | .inr z => k z.1 z.2
def r_o {α : Type} (r : Rs α) : Int := match r with
  | .inl _ => 0
  | .inr _ => 1
/-- a fault told -/
def r_pf (n : Nat) (z : Int × Nat) (D d : xM) : Prop := (∀ j, j ≠ 1 → d j = D j) ∧ (∀ i, i < 2 ∨ i = 7 → d 1 i = D 1 i) ∧ d 1 8 = z.1 ∧ d 1 9 = (tS (D 2) n z.2 : Nat)
theorem r_pf_tr {n : Nat} {z : Int × Nat} {D d e : xM} (h : r1 D d) (h2 : r_pf n z d e) : r_pf n z D e := by
  obtain ⟨a1, a2, a3, a4⟩ := h2
  refine ⟨fun j hj => by rw [a1 j hj]; exact h.1 j hj, fun i hi => by rw [a2 i hi]; exact h.2 i (by omega), a3, ?_⟩
  rw [h.1 2 (by decide)] at a4
  exact a4
theorem rs_of {D d : xM} {n q : Nat} (h : rs D n q) (e1 : d 1 = D 1) (e2 : d 2 = D 2) : rs d n q := by
  unfold rs tx at h ⊢
  rw [e1, e2]
  exact h
abbrev x_tn (lb T : Nat) (v : Int × Int × Int × Int) (D : xM) : xM := x_up (x_up (x_up (x_up D (lb + 14) (x_u1 (x_u1 (D (lb + 14)) (1 + T) v.1) (9 + T) v.2.1)) (lb + 1) (x_u1 (D (lb + 1)) T v.2.2.1)) (lb + 2) (x_u1 (D (lb + 2)) T v.2.2.2)) lb (x_u1 (D lb) 0 (T + 1))
def r_twn (b : Int → Int) (n T q : Nat) : Rs (Int × Int × Int × Int) := if 8 ≤ T then .inl (2, q) else r_bd (r_num b n 0 999 (tE b n q)) (fun v1 q1 => r_bd (r_num b n 0 999 q1) (fun v2 q2 => r_bd (r_num b n 0 20 q2) (fun v3 q3 => r_bd (r_num b n 0 20 q3) (fun v4 q4 => .inr ((v1, v2, v3, v4), q4)))))
def r_pt (n lb T : Nat) (r : Rs (Int × Int × Int × Int)) (D d : xM) : Prop := match r with
  | .inl z => r_pf n z D d
  | .inr z => rs d n z.2 ∧ (∀ j, j ≠ 1 → d j = x_tn lb T z.1 D j) ∧ ∀ i, i < 2 ∨ 6 < i → d 1 i = D 1 i
theorem w_5_124 : x_cv RX5 124 yX5_readNumber cX5_readNumber 3 (some .boolean) 5 2 := ⟨⟨_, rfl, rfl⟩, (x_in 765 (by decide +kernel) rfl), (x_in 766 (by decide +kernel) rfl), (x_in 767 (by decide +kernel) rfl), (x_in 81 (by decide +kernel) rfl), (x_in 768 (by decide +kernel) rfl), by decide, ⟨by decide +kernel, by decide +kernel, by decide +kernel⟩⟩
theorem w_5_128 : x_cv RX5 128 yX3_addTown cX3_addTown 5 (none) 3 4 := ⟨⟨_, rfl, rfl⟩, (x_in 769 (by decide +kernel) rfl), (x_in 770 (by decide +kernel) rfl), (x_in 771 (by decide +kernel) rfl), (x_in 82 (by decide +kernel) rfl), (x_in 772 (by decide +kernel) rfl), by decide, ⟨by decide +kernel, by decide +kernel, by decide +kernel⟩⟩
set_option maxHeartbeats 4000000 in
theorem r5_town {X : xC} {l : Launch} (hl : l.stackTraces = false) {N : Nat} {sh : xS} {D : xM} {lb n q : Nat} (hR : is_Rd N sh lb) (hs : rs D n q) (hL : is_L N sh lb) (hlb : 3 ≤ lb) {T : Nat} (hT : D lb 0 = T) (hT8 : T ≤ 8) : x_M X l yX5_readTown cX5_readTown 4 (some .boolean) 3 0 0 [.ref (x_b X + 1)] false N sh D (.inl (some (.int (xI (r_o (r_twn (D 2) n T q)))))) false N sh (r_pt n lb T (r_twn (D 2) n T q) D) := by
  obtain ⟨ht, hqn, hs2, hs3, hs4, hs5⟩ := id hs
  obtain ⟨e0, e1, e2⟩ := tE_in (b := D 2) hqn
  have hki := tK_in (b := D 2) (n := n) (q := q)
  have hpos := tK_pos (b := D 2) (n := n) (q := q)
  obtain ⟨hRN, x1, x2⟩ := id hR
  have n1 : 1 < N := by omega
  have n2 : 2 < N := hRN
  obtain ⟨ht1, ht7, htb⟩ := id ht
  have xl := hL.2.1
  have nl : lb < N := by have := hL.1; omega
  by_cases h8 : 8 ≤ T
  · have hX : r_twn (D 2) n T q = .inl (2, q) := by unfold r_twn; rw [if_pos h8]
    refine x_ofW (by decide +kernel) hl (by simp [Value.category]) (by simp) ?_
    refine x_aload_n dX5_readTown_0 x_get_4_0 ?_
    refine x_getR dX5_readTown_1 fX_5_37 (by assumption) (by assumption) (by rfl) ?_
    refine x_getI 0 dX5_readTown_4 fX_5_121 rfl (by assumption) (by assumption) (by rfl) ?_
    rw [hT]
    refine x_bipush dX5_readTown_7 rfl ?_
    refine r_icmp_lt (t := 18) dX5_readTown_9 rfl ⟨by omega, by omega⟩ ⟨by omega, by omega⟩ (fun hc9 => absurd hc9 (by omega)) (fun hc9 => ?_)
    refine x_aload_n dX5_readTown_12 x_get_4_0 ?_
    refine x_iconst dX5_readTown_13 ?_
    refine x_callV (As := [_]) dX5_readTown_14 w_5_113 (r5_fail hl hR hs) (by assumption) (by assumption) rfl rfl (Nat.le_of_ble_eq_true rfl) (Nat.le_of_ble_eq_true rfl) (Nat.le_of_ble_eq_true rfl) (Nat.le_of_ble_eq_true rfl) (Nat.le_of_ble_eq_true rfl) ?_
    intro d hd
    obtain rfl := Eq.symm hd
    exact x_zret dX5_readTown_17 rfl (by omega) (Nat.le_of_ble_eq_true rfl) (Nat.le_of_ble_eq_true rfl) (by rw [hX]; rfl) rfl rfl (by rw [hX]; exact r_fl_ps rfl) rfl
  · have hX0 : r_twn (D 2) n T q = r_bd (r_num (D 2) n 0 999 (tE (D 2) n q)) (fun v1 q1 => r_bd (r_num (D 2) n 0 999 q1) (fun v2 q2 => r_bd (r_num (D 2) n 0 20 q2) (fun v3 q3 => r_bd (r_num (D 2) n 0 20 q3) (fun v4 q4 => .inr ((v1, v2, v3, v4), q4))))) := by unfold r_twn; rw [if_neg h8]
    have g75 : ∀ (v1 v2 v3 : Int) (qq : Nat) (d : xM), rs d n qq → r1 D d → r_twn (D 2) n T q = r_bd (r_num (D 2) n 0 20 qq) (fun v4 q4 => .inr ((v1, v2, v3, v4), q4)) → x_W (X, l, yX5_readTown, cX5_readTown, 4, (some .boolean), x_room 3 0 0, 0, 0, (.inl (some (.int (xI (r_o (r_twn (D 2) n T q)))))), N, sh, (r_pt n lb T (r_twn (D 2) n T q) D), false, []) 75 [some (.ref (x_b X + 1)), some (.int (xI v1)), some (.int (xI v2)), some (.int (xI v3))] [] 0 0 false N sh d := by
      intro v1 v2 v3 qq d hd hr hX 
      have c1 := r5_num (X := X) (l := l) hl hR hd (a := 0) (b := 20) ⟨by decide, by decide⟩ ⟨by decide, by decide⟩
      rw [hr.1 2 (by decide)] at c1
      rcases hz : r_num (D 2) n 0 20 qq with z | z
      · rw [hz] at c1 hX
        refine x_aload_n dX5_readTown_75 x_get_4_0 ?_
        refine x_iconst dX5_readTown_76 ?_
        refine x_bipush dX5_readTown_77 rfl ?_
        refine x_callV (As := [_, _]) dX5_readTown_79 w_5_124 (c1) (by assumption) (by assumption) rfl rfl (Nat.le_of_ble_eq_true rfl) (Nat.le_of_ble_eq_true rfl) (Nat.le_of_ble_eq_true rfl) (Nat.le_of_ble_eq_true rfl) (Nat.le_of_ble_eq_true rfl) ?_
        intro d2 hd2
        refine r_if_ne (t := 87) dX5_readTown_82 rfl ⟨by show (-2147483648 : Int) ≤ 0; decide, by show (0 : Int) < 2147483648; decide⟩ (fun hc82 => absurd hc82 (by show ¬ ¬ ((0 : Int) = 0); decide)) (fun hc82 => ?_)
        refine x_iconst dX5_readTown_85 ?_
        exact x_zret dX5_readTown_86 rfl (by omega) (Nat.le_of_ble_eq_true rfl) (Nat.le_of_ble_eq_true rfl) (by rw [hX]; rfl) rfl rfl (by rw [hX]; exact r_pf_tr hr hd2) rfl
      · rw [hz] at c1 hX
        refine x_aload_n dX5_readTown_75 x_get_4_0 ?_
        refine x_iconst dX5_readTown_76 ?_
        refine x_bipush dX5_readTown_77 rfl ?_
        refine x_callV (As := [_, _]) dX5_readTown_79 w_5_124 (c1) (by assumption) (by assumption) rfl rfl (Nat.le_of_ble_eq_true rfl) (Nat.le_of_ble_eq_true rfl) (Nat.le_of_ble_eq_true rfl) (Nat.le_of_ble_eq_true rfl) (Nat.le_of_ble_eq_true rfl) ?_
        intro d2 hd2
        obtain ⟨w1, w2, w3⟩ := id hd2
        have w4 := r1_tr hr w2
        refine r_if_ne (t := 87) dX5_readTown_82 rfl ⟨by show (-2147483648 : Int) ≤ 1; decide, by show (1 : Int) < 2147483648; decide⟩ (fun hc82 => ?_) (fun hc82 => absurd hc82 (by show ¬ ((1 : Int) = 0); decide))
        refine x_aload_n dX5_readTown_87 x_get_4_0 ?_
        refine x_getR dX5_readTown_88 fX_5_37 (by assumption) (by assumption) (by rfl) ?_
        refine x_iload_n dX5_readTown_91 x_get_4_1 ?_
        refine x_iload_n dX5_readTown_92 x_get_4_2 ?_
        refine x_iload_n dX5_readTown_93 x_get_4_3 ?_
        refine x_aload_n dX5_readTown_94 x_get_4_0 ?_
        refine x_getI 6 dX5_readTown_95 fX_5_31 rfl (by assumption) (by assumption) (by rfl) ?_
        try rw [w3]
        refine x_callV (As := [_, _, _, _]) dX5_readTown_98 w_5_128 (c3_town hl hL (T := T) (by rw [w4.1 lb (by omega)]; exact hT) (by omega)) (by assumption) (by assumption) rfl rfl (Nat.le_of_ble_eq_true rfl) (Nat.le_of_ble_eq_true rfl) (Nat.le_of_ble_eq_true rfl) (Nat.le_of_ble_eq_true rfl) (Nat.le_of_ble_eq_true rfl) ?_
        intro d3 hd3
        refine x_iconst dX5_readTown_101 ?_
        exact x_zret dX5_readTown_102 rfl (by omega) (Nat.le_of_ble_eq_true rfl) (Nat.le_of_ble_eq_true rfl) (by rw [hX]; rfl) rfl rfl (by rw [hX]; subst hd3; exact ⟨rs_of w1 (by rw [x_up_n (by omega), x_up_n (by omega), x_up_n (by omega), x_up_n (by omega)]) (by rw [x_up_n (by omega), x_up_n (by omega), x_up_n (by omega), x_up_n (by omega)]), fun j hj => by show _ = x_tn lb T _ D j; unfold x_tn; rw [w4.1 (lb + 14) (by omega), w4.1 (lb + 1) (by omega), w4.1 (lb + 2) (by omega), w4.1 lb (by omega)]; unfold x_up; rw [w4.1 j hj], fun i hi => by rw [x_up_n (by omega), x_up_n (by omega), x_up_n (by omega), x_up_n (by omega)]; exact w4.2 i hi⟩) rfl
    have g58 : ∀ (v1 v2 : Int) (qq : Nat) (d : xM), rs d n qq → r1 D d → r_twn (D 2) n T q = r_bd (r_num (D 2) n 0 20 qq) (fun v3 q3 => r_bd (r_num (D 2) n 0 20 q3) (fun v4 q4 => .inr ((v1, v2, v3, v4), q4))) → ∀ o3 : Option Value, x_W (X, l, yX5_readTown, cX5_readTown, 4, (some .boolean), x_room 3 0 0, 0, 0, (.inl (some (.int (xI (r_o (r_twn (D 2) n T q)))))), N, sh, (r_pt n lb T (r_twn (D 2) n T q) D), false, []) 58 [some (.ref (x_b X + 1)), some (.int (xI v1)), some (.int (xI v2)), o3] [] 0 0 false N sh d := by
      intro v1 v2 qq d hd hr hX o3
      have c1 := r5_num (X := X) (l := l) hl hR hd (a := 0) (b := 20) ⟨by decide, by decide⟩ ⟨by decide, by decide⟩
      rw [hr.1 2 (by decide)] at c1
      rcases hz : r_num (D 2) n 0 20 qq with z | z
      · rw [hz] at c1 hX
        refine x_aload_n dX5_readTown_58 x_get_4_0 ?_
        refine x_iconst dX5_readTown_59 ?_
        refine x_bipush dX5_readTown_60 rfl ?_
        refine x_callV (As := [_, _]) dX5_readTown_62 w_5_124 (c1) (by assumption) (by assumption) rfl rfl (Nat.le_of_ble_eq_true rfl) (Nat.le_of_ble_eq_true rfl) (Nat.le_of_ble_eq_true rfl) (Nat.le_of_ble_eq_true rfl) (Nat.le_of_ble_eq_true rfl) ?_
        intro d2 hd2
        refine r_if_ne (t := 70) dX5_readTown_65 rfl ⟨by show (-2147483648 : Int) ≤ 0; decide, by show (0 : Int) < 2147483648; decide⟩ (fun hc65 => absurd hc65 (by show ¬ ¬ ((0 : Int) = 0); decide)) (fun hc65 => ?_)
        refine x_iconst dX5_readTown_68 ?_
        exact x_zret dX5_readTown_69 rfl (by omega) (Nat.le_of_ble_eq_true rfl) (Nat.le_of_ble_eq_true rfl) (by rw [hX]; rfl) rfl rfl (by rw [hX]; exact r_pf_tr hr hd2) rfl
      · rw [hz] at c1 hX
        refine x_aload_n dX5_readTown_58 x_get_4_0 ?_
        refine x_iconst dX5_readTown_59 ?_
        refine x_bipush dX5_readTown_60 rfl ?_
        refine x_callV (As := [_, _]) dX5_readTown_62 w_5_124 (c1) (by assumption) (by assumption) rfl rfl (Nat.le_of_ble_eq_true rfl) (Nat.le_of_ble_eq_true rfl) (Nat.le_of_ble_eq_true rfl) (Nat.le_of_ble_eq_true rfl) (Nat.le_of_ble_eq_true rfl) ?_
        intro d2 hd2
        obtain ⟨w1, w2, w3⟩ := id hd2
        have w4 := r1_tr hr w2
        refine r_if_ne (t := 70) dX5_readTown_65 rfl ⟨by show (-2147483648 : Int) ≤ 1; decide, by show (1 : Int) < 2147483648; decide⟩ (fun hc65 => ?_) (fun hc65 => absurd hc65 (by show ¬ ((1 : Int) = 0); decide))
        refine x_aload_n dX5_readTown_70 x_get_4_0 ?_
        refine x_getI 6 dX5_readTown_71 fX_5_31 rfl (by assumption) (by assumption) (by rfl) ?_
        try rw [w3]
        refine x_istore_n dX5_readTown_74 (Nat.le_of_ble_eq_true rfl) rfl x_set_4_3 ?_
        exact g75 _ _ _ _ _ w1 w4 hX
    have g40 : ∀ (v1 : Int) (qq : Nat) (d : xM), rs d n qq → r1 D d → r_twn (D 2) n T q = r_bd (r_num (D 2) n 0 999 qq) (fun v2 q2 => r_bd (r_num (D 2) n 0 20 q2) (fun v3 q3 => r_bd (r_num (D 2) n 0 20 q3) (fun v4 q4 => .inr ((v1, v2, v3, v4), q4)))) → ∀ o2 o3 : Option Value, x_W (X, l, yX5_readTown, cX5_readTown, 4, (some .boolean), x_room 3 0 0, 0, 0, (.inl (some (.int (xI (r_o (r_twn (D 2) n T q)))))), N, sh, (r_pt n lb T (r_twn (D 2) n T q) D), false, []) 40 [some (.ref (x_b X + 1)), some (.int (xI v1)), o2, o3] [] 0 0 false N sh d := by
      intro v1 qq d hd hr hX o2 o3
      have c1 := r5_num (X := X) (l := l) hl hR hd (a := 0) (b := 999) ⟨by decide, by decide⟩ ⟨by decide, by decide⟩
      rw [hr.1 2 (by decide)] at c1
      rcases hz : r_num (D 2) n 0 999 qq with z | z
      · rw [hz] at c1 hX
        refine x_aload_n dX5_readTown_40 x_get_4_0 ?_
        refine x_iconst dX5_readTown_41 ?_
        refine x_sipush dX5_readTown_42 rfl ?_
        refine x_callV (As := [_, _]) dX5_readTown_45 w_5_124 (c1) (by assumption) (by assumption) rfl rfl (Nat.le_of_ble_eq_true rfl) (Nat.le_of_ble_eq_true rfl) (Nat.le_of_ble_eq_true rfl) (Nat.le_of_ble_eq_true rfl) (Nat.le_of_ble_eq_true rfl) ?_
        intro d2 hd2
        refine r_if_ne (t := 53) dX5_readTown_48 rfl ⟨by show (-2147483648 : Int) ≤ 0; decide, by show (0 : Int) < 2147483648; decide⟩ (fun hc48 => absurd hc48 (by show ¬ ¬ ((0 : Int) = 0); decide)) (fun hc48 => ?_)
        refine x_iconst dX5_readTown_51 ?_
        exact x_zret dX5_readTown_52 rfl (by omega) (Nat.le_of_ble_eq_true rfl) (Nat.le_of_ble_eq_true rfl) (by rw [hX]; rfl) rfl rfl (by rw [hX]; exact r_pf_tr hr hd2) rfl
      · rw [hz] at c1 hX
        refine x_aload_n dX5_readTown_40 x_get_4_0 ?_
        refine x_iconst dX5_readTown_41 ?_
        refine x_sipush dX5_readTown_42 rfl ?_
        refine x_callV (As := [_, _]) dX5_readTown_45 w_5_124 (c1) (by assumption) (by assumption) rfl rfl (Nat.le_of_ble_eq_true rfl) (Nat.le_of_ble_eq_true rfl) (Nat.le_of_ble_eq_true rfl) (Nat.le_of_ble_eq_true rfl) (Nat.le_of_ble_eq_true rfl) ?_
        intro d2 hd2
        obtain ⟨w1, w2, w3⟩ := id hd2
        have w4 := r1_tr hr w2
        refine r_if_ne (t := 53) dX5_readTown_48 rfl ⟨by show (-2147483648 : Int) ≤ 1; decide, by show (1 : Int) < 2147483648; decide⟩ (fun hc48 => ?_) (fun hc48 => absurd hc48 (by show ¬ ((1 : Int) = 0); decide))
        refine x_aload_n dX5_readTown_53 x_get_4_0 ?_
        refine x_getI 6 dX5_readTown_54 fX_5_31 rfl (by assumption) (by assumption) (by rfl) ?_
        try rw [w3]
        refine x_istore_n dX5_readTown_57 (Nat.le_of_ble_eq_true rfl) rfl x_set_4_2 ?_
        exact g58 _ _ _ _ w1 w4 hX _
    have g22 : ∀ (qq : Nat) (d : xM), rs d n qq → r1 D d → r_twn (D 2) n T q = r_bd (r_num (D 2) n 0 999 qq) (fun v1 q1 => r_bd (r_num (D 2) n 0 999 q1) (fun v2 q2 => r_bd (r_num (D 2) n 0 20 q2) (fun v3 q3 => r_bd (r_num (D 2) n 0 20 q3) (fun v4 q4 => .inr ((v1, v2, v3, v4), q4))))) → ∀ o1 o2 o3 : Option Value, x_W (X, l, yX5_readTown, cX5_readTown, 4, (some .boolean), x_room 3 0 0, 0, 0, (.inl (some (.int (xI (r_o (r_twn (D 2) n T q)))))), N, sh, (r_pt n lb T (r_twn (D 2) n T q) D), false, []) 22 [some (.ref (x_b X + 1)), o1, o2, o3] [] 0 0 false N sh d := by
      intro  qq d hd hr hX o1 o2 o3
      have c1 := r5_num (X := X) (l := l) hl hR hd (a := 0) (b := 999) ⟨by decide, by decide⟩ ⟨by decide, by decide⟩
      rw [hr.1 2 (by decide)] at c1
      rcases hz : r_num (D 2) n 0 999 qq with z | z
      · rw [hz] at c1 hX
        refine x_aload_n dX5_readTown_22 x_get_4_0 ?_
        refine x_iconst dX5_readTown_23 ?_
        refine x_sipush dX5_readTown_24 rfl ?_
        refine x_callV (As := [_, _]) dX5_readTown_27 w_5_124 (c1) (by assumption) (by assumption) rfl rfl (Nat.le_of_ble_eq_true rfl) (Nat.le_of_ble_eq_true rfl) (Nat.le_of_ble_eq_true rfl) (Nat.le_of_ble_eq_true rfl) (Nat.le_of_ble_eq_true rfl) ?_
        intro d2 hd2
        refine r_if_ne (t := 35) dX5_readTown_30 rfl ⟨by show (-2147483648 : Int) ≤ 0; decide, by show (0 : Int) < 2147483648; decide⟩ (fun hc30 => absurd hc30 (by show ¬ ¬ ((0 : Int) = 0); decide)) (fun hc30 => ?_)
        refine x_iconst dX5_readTown_33 ?_
        exact x_zret dX5_readTown_34 rfl (by omega) (Nat.le_of_ble_eq_true rfl) (Nat.le_of_ble_eq_true rfl) (by rw [hX]; rfl) rfl rfl (by rw [hX]; exact r_pf_tr hr hd2) rfl
      · rw [hz] at c1 hX
        refine x_aload_n dX5_readTown_22 x_get_4_0 ?_
        refine x_iconst dX5_readTown_23 ?_
        refine x_sipush dX5_readTown_24 rfl ?_
        refine x_callV (As := [_, _]) dX5_readTown_27 w_5_124 (c1) (by assumption) (by assumption) rfl rfl (Nat.le_of_ble_eq_true rfl) (Nat.le_of_ble_eq_true rfl) (Nat.le_of_ble_eq_true rfl) (Nat.le_of_ble_eq_true rfl) (Nat.le_of_ble_eq_true rfl) ?_
        intro d2 hd2
        obtain ⟨w1, w2, w3⟩ := id hd2
        have w4 := r1_tr hr w2
        refine r_if_ne (t := 35) dX5_readTown_30 rfl ⟨by show (-2147483648 : Int) ≤ 1; decide, by show (1 : Int) < 2147483648; decide⟩ (fun hc30 => ?_) (fun hc30 => absurd hc30 (by show ¬ ((1 : Int) = 0); decide))
        refine x_aload_n dX5_readTown_35 x_get_4_0 ?_
        refine x_getI 6 dX5_readTown_36 fX_5_31 rfl (by assumption) (by assumption) (by rfl) ?_
        try rw [w3]
        refine x_istore_n dX5_readTown_39 (Nat.le_of_ble_eq_true rfl) rfl x_set_4_1 ?_
        exact g40 _ _ _ w1 w4 hX _ _
    refine x_ofW (by decide +kernel) hl (by simp [Value.category]) (by simp) ?_
    refine x_aload_n dX5_readTown_0 x_get_4_0 ?_
    refine x_getR dX5_readTown_1 fX_5_37 (by assumption) (by assumption) (by rfl) ?_
    refine x_getI 0 dX5_readTown_4 fX_5_121 rfl (by assumption) (by assumption) (by rfl) ?_
    rw [hT]
    refine x_bipush dX5_readTown_7 rfl ?_
    refine r_icmp_lt (t := 18) dX5_readTown_9 rfl ⟨by omega, by omega⟩ ⟨by omega, by omega⟩ (fun hc9 => ?_) (fun hc9 => absurd hc9 (by omega))
    refine x_aload_n dX5_readTown_18 x_get_4_0 ?_
    refine x_callV (As := []) dX5_readTown_19 w_5_56 (c5_advance hl hR ht hs3 e2) (by assumption) (by assumption) rfl rfl (Nat.le_of_ble_eq_true rfl) (Nat.le_of_ble_eq_true rfl) (Nat.le_of_ble_eq_true rfl) (Nat.le_of_ble_eq_true rfl) (Nat.le_of_ble_eq_true rfl) ?_
    intro d1 hd1
    obtain ⟨g1, g2, g3⟩ := ad_rs ht e2 hd1
    exact g22 _ _ g1 g2 hX0 _ _ _
end C96
