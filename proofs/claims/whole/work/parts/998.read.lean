section C998
/-! ===== Reader: the whole text ===== -/
def clr (lb : Nat) (D : xM) : xM := x_up (x_up (x_up (x_up D lb (x_u1 (x_u1 (D lb) 0 0) 1 0)) (lb + 3) (x_u1 (x_u1 (D (lb + 3)) 0 0) 1 0)) (lb + 10) (x_u1 (x_u1 (x_u1 (D (lb + 10)) 2 0) 3 0) 4 0)) (lb + 14) (fun _ => 0)
theorem clr_cg {lb : Nat} {D S : xM} (hlb : 3 ≤ lb) (h : ∀ j, j ≠ 1 → D j = S j) : ∀ j, j ≠ 1 → clr lb D j = clr lb S j := by
  intro j hj
  unfold clr
  rw [h lb (by omega), h (lb + 3) (by omega), h (lb + 10) (by omega)]
  unfold x_up
  rw [h j hj]
theorem clr_rl {lb : Nat} {D : xM} : ∀ j, j < lb ∨ lb + 14 < j → clr lb D j = D j := by
  intro j hj
  unfold clr
  rw [x_up_n (by omega), x_up_n (by omega), x_up_n (by omega), x_up_n (by omega)]
theorem sv_clr {lb : Nat} {D : xM} (h : lw D lb) : sv lb (clr lb D) := by
  obtain ⟨w1, w2, w3, W, T, w4⟩ := h
  obtain ⟨E, hE⟩ : ∃ E, E = clr lb D := ⟨_, rfl⟩
  have e0 : E lb = x_u1 (x_u1 (D lb) 0 0) 1 0 := by rw [hE]; unfold clr; rw [x_up_n (by omega), x_up_n (by omega), x_up_n (by omega), x_up_s]
  have e3 : E (lb + 3) = x_u1 (x_u1 (D (lb + 3)) 0 0) 1 0 := by rw [hE]; unfold clr; rw [x_up_n (by omega), x_up_n (by omega), x_up_s]
  have e14 : E (lb + 14) = fun _ => 0 := by rw [hE]; unfold clr; rw [x_up_s]
  have en : ∀ j, j ≠ lb → j ≠ lb + 3 → j ≠ lb + 10 → j ≠ lb + 14 → E j = D j := fun j a b c d => by rw [hE]; unfold clr; rw [x_up_n d, x_up_n c, x_up_n b, x_up_n a]
  rw [← hE]
  have t0 : E lb 0 = 0 := by rw [e0, x_u1_n (by decide), x_u1_s]
  have t1 : E lb 1 = 0 := by rw [e0, x_u1_s]
  have t3 : E (lb + 3) 0 = 0 := by rw [e3, x_u1_n (by decide), x_u1_s]
  have hrd : rd E (lb + 3) 0 0 := by
    obtain ⟨r1, r2, r3, r4, r5, r6, r7, r8, r9, r10⟩ := w4
    refine ⟨t3, by decide, by rw [e3, x_u1_s]; rfl, by decide, ?_, ?_, ?_, ?_, ?_, ?_⟩
    · rw [en _ (by omega) (by omega) (by omega) (by omega)]; exact r5
    · rw [en _ (by omega) (by omega) (by omega) (by omega)]; exact r6
    · rw [en _ (by omega) (by omega) (by omega) (by omega)]; exact r7
    · rw [en _ (by omega) (by omega) (by omega) (by omega)]; exact r8
    · rw [en _ (by omega) (by omega) (by omega) (by omega)]; exact r9
    · rw [en _ (by omega) (by omega) (by omega) (by omega)]; exact r10
  refine ⟨⟨⟨by rw [t0]; rfl, by rw [t0]; decide⟩, ⟨by rw [t1]; rfl, by rw [t1]; decide⟩, 0, by rw [t3]; exact hrd⟩, ⟨by rw [en _ (by omega) (by omega) (by omega) (by omega)]; exact w1, by rw [en _ (by omega) (by omega) (by omega) (by omega)]; exact w2, by rw [en _ (by omega) (by omega) (by omega) (by omega)]; exact w3, 0, 0, hrd⟩, ?_, ?_, ?_, ?_⟩
  · intro i; rw [e14]; show s_okv 0 i 0; unfold s_okv; omega
  · intro i _; rw [e14]
  · intro c c0 c1; rw [t1] at c1; exact absurd c1 (by show ¬ c < 0; omega)
  · rw [t3]; intro w hw; exact absurd hw (Nat.not_lt_zero w)
def r_rd (b : Int → Int) (n lb : Nat) (D : xM) (r : Rs Tx) (d : xM) : Prop := match r with
  | .inl z => ∃ S1 : xM, sv lb S1 ∧ (∀ j, j < lb ∨ lb + 14 < j → S1 j = D j) ∧ rfa b n lb S1 z d
  | .inr z => ra b n lb z.1 z.2 d ∧ sv lb z.1.1 ∧ ∀ j, j < lb ∨ lb + 14 < j → z.1.1 j = D j
abbrev r_all (b : Int → Int) (n lb : Nat) (D : xM) : Rs Tx := r_txt b n lb 700 (clr lb D, none) 0
theorem w_5_47 : x_mw RX5 47 Lib.Math.min.name Lib.Math.min.code 2 := ⟨(x_in 666 (by decide +kernel) rfl), (x_in 462 (by decide +kernel) rfl), (x_in 95 (by decide +kernel) rfl), (x_in 463 (by decide +kernel) rfl)⟩
theorem w_5_53 : x_cv RX5 53 yX3_clear cX3_clear 1 (none) 3 0 := ⟨⟨_, rfl, rfl⟩, (x_in 667 (by decide +kernel) rfl), (x_in 668 (by decide +kernel) rfl), (x_in 669 (by decide +kernel) rfl), (x_in 82 (by decide +kernel) rfl), (x_in 670 (by decide +kernel) rfl), by decide, ⟨by decide +kernel, by decide +kernel, by decide +kernel⟩⟩
theorem w_5_59 : x_cv RX5 59 yX5_readLine cX5_readLine 2 (some .boolean) 5 0 := ⟨⟨_, rfl, rfl⟩, (x_in 700 (by decide +kernel) rfl), (x_in 701 (by decide +kernel) rfl), (x_in 702 (by decide +kernel) rfl), (x_in 81 (by decide +kernel) rfl), (x_in 703 (by decide +kernel) rfl), by decide, ⟨by decide +kernel, by decide +kernel, by decide +kernel⟩⟩
set_option maxHeartbeats 4000000 in
theorem r5_read {X : xC} {l : Launch} (hl : l.stackTraces = false) {N : Nat} {sh : xS} {D : xM} {lb n : Nat} (hR : is_Rd N sh lb) (hlb : 3 ≤ lb) (hL : is_L N sh lb) (hn7 : n ≤ 700) (hb : ∀ j, -128 ≤ D 2 j ∧ D 2 j ≤ 127) (hw : lw D lb) : x_M X l yX5_read cX5_read 4 (none) 52 0 0 [.ref (x_b X + 1), .int (xI (n : Int))] false N sh D (.inl none) false N sh (r_rd (D 2) n lb D (r_all (D 2) n lb D)) := by
  obtain ⟨hRN, x1, x2⟩ := id hR
  have n1 : 1 < N := by omega
  have xl := hL.2.1
  have nl : lb < N := by have := hL.1; omega
  have g41F : ∀ (i : Nat) (z : Int × Nat) (d : xM), i ≤ 700 → r_all (D 2) n lb D = .inl z → r_rd (D 2) n lb D (.inl z) d → x_W (X, l, yX5_read, cX5_read, 4, none, x_room 52 0 0, 0, 0, (.inl none), N, sh, (r_rd (D 2) n lb D (r_all (D 2) n lb D)), false, []) 41 [some (.ref (x_b X + 1)), some (.int (xI (n : Int))), some (.int (xI 0)), some (.int (xI (i : Int)))] [] 0 0 false N sh d := by
    intro i z d hi hX hd
    refine x_iload_n dX5_read_41 x_get_4_3 ?_
    refine x_sipush dX5_read_42 rfl ?_
    refine r_icmp_ge (t := 70) dX5_read_45 rfl ⟨by omega, by omega⟩ ⟨by omega, by omega⟩ (fun hc45 => ?_) (fun hc45 => ?_)
    · exact x_vret dX5_read_70 rfl (Nat.le_of_ble_eq_true rfl) (Nat.le_of_ble_eq_true rfl) rfl rfl rfl (by rw [hX]; exact hd) rfl
    · refine x_iload_n dX5_read_48 x_get_4_2 ?_
      refine r_if_eq (t := 70) dX5_read_49 rfl ⟨by omega, by omega⟩ (fun hc49 => ?_) (fun hc49 => absurd hc49 (by omega))
      exact x_vret dX5_read_70 rfl (Nat.le_of_ble_eq_true rfl) (Nat.le_of_ble_eq_true rfl) rfl rfl rfl (by rw [hX]; exact hd) rfl
  have gL : ∀ (k i : Nat), i + k = 700 → ∀ (S : Tx) (q : Nat) (d : xM), ra (D 2) n lb S q d → sv lb S.1 → (∀ j, j < lb ∨ lb + 14 < j → S.1 j = D j) → r_all (D 2) n lb D = r_txt (D 2) n lb k S q → x_W (X, l, yX5_read, cX5_read, 4, none, x_room 52 0 0, 0, 0, (.inl none), N, sh, (r_rd (D 2) n lb D (r_all (D 2) n lb D)), false, []) 41 [some (.ref (x_b X + 1)), some (.int (xI (n : Int))), some (.int (xI 1)), some (.int (xI (i : Int)))] [] 0 0 false N sh d := by
    intro k
    induction k with
    | zero =>
      intro i hi S q d hd hv hfr hX
      refine x_iload_n dX5_read_41 x_get_4_3 ?_
      refine x_sipush dX5_read_42 rfl ?_
      refine r_icmp_ge (t := 70) dX5_read_45 rfl ⟨by omega, by omega⟩ ⟨by omega, by omega⟩ (fun hc45 => ?_) (fun hc45 => absurd hc45 (by omega))
      exact x_vret dX5_read_70 rfl (Nat.le_of_ble_eq_true rfl) (Nat.le_of_ble_eq_true rfl) rfl rfl rfl (by rw [hX]; exact ⟨hd, hv, hfr⟩) rfl
    | succ k ih =>
      intro i hi S q d hd hv hfr hX
      rw [r_txt_s] at hX
      have k4 : d 1 4 = tK (D 2) n q := by have h := hd.1.2.2.2.2.1; rw [hd.2.1] at h; exact h
      have hki := tK_in (b := D 2) (n := n) (q := q)
      by_cases h0 : tK (D 2) n q = 0
      · rw [if_pos h0] at hX
        refine x_iload_n dX5_read_41 x_get_4_3 ?_
        refine x_sipush dX5_read_42 rfl ?_
        refine r_icmp_ge (t := 70) dX5_read_45 rfl ⟨by omega, by omega⟩ ⟨by omega, by omega⟩ (fun hc45 => absurd hc45 (by omega)) (fun hc45 => ?_)
        refine x_iload_n dX5_read_48 x_get_4_2 ?_
        refine r_if_eq (t := 70) dX5_read_49 rfl ⟨by omega, by omega⟩ (fun hc49 => absurd hc49 (by omega)) (fun hc49 => ?_)
        refine x_aload_n dX5_read_52 x_get_4_0 ?_
        refine x_getI 4 dX5_read_53 fX_5_25 rfl (by assumption) (by assumption) (by rfl) ?_
        rw [k4]
        refine r_if_eq (t := 70) dX5_read_56 rfl ⟨by omega, by omega⟩ (fun hc56 => ?_) (fun hc56 => absurd hc56 (by omega))
        exact x_vret dX5_read_70 rfl (Nat.le_of_ble_eq_true rfl) (Nat.le_of_ble_eq_true rfl) rfl rfl rfl (by rw [hX]; exact ⟨hd, hv, hfr⟩) rfl
      · rw [if_neg h0] at hX
        have c1 := r5_line (X := X) (l := l) hl hR hlb hL hd hv.1
        obtain ⟨r0, hf⟩ : ∃ r, r_lin (D 2) n lb S q = r := ⟨_, rfl⟩
        rw [hf] at c1 hX
        rcases r0 with z | z
        · skip
          refine x_iload_n dX5_read_41 x_get_4_3 ?_
          refine x_sipush dX5_read_42 rfl ?_
          refine r_icmp_ge (t := 70) dX5_read_45 rfl ⟨by omega, by omega⟩ ⟨by omega, by omega⟩ (fun hc45 => absurd hc45 (by omega)) (fun hc45 => ?_)
          refine x_iload_n dX5_read_48 x_get_4_2 ?_
          refine r_if_eq (t := 70) dX5_read_49 rfl ⟨by omega, by omega⟩ (fun hc49 => absurd hc49 (by omega)) (fun hc49 => ?_)
          refine x_aload_n dX5_read_52 x_get_4_0 ?_
          refine x_getI 4 dX5_read_53 fX_5_25 rfl (by assumption) (by assumption) (by rfl) ?_
          rw [k4]
          refine r_if_eq (t := 70) dX5_read_56 rfl ⟨by omega, by omega⟩ (fun hc56 => absurd hc56 (by omega)) (fun hc56 => ?_)
          refine x_aload_n dX5_read_59 x_get_4_0 ?_
          refine x_callV (As := []) dX5_read_60 w_5_59 (c1) (by assumption) (by assumption) rfl rfl (Nat.le_of_ble_eq_true rfl) (Nat.le_of_ble_eq_true rfl) (Nat.le_of_ble_eq_true rfl) (Nat.le_of_ble_eq_true rfl) (Nat.le_of_ble_eq_true rfl) ?_
          intro d2 hd2
          have w2 : r_rd (D 2) n lb D (.inl z) d2 := by
            obtain ⟨S1, hS1, hS2⟩ := hd2
            rcases hS1 with rfl | ⟨q1, hS1⟩
            · exact ⟨S1.1, hv, hfr, hS2⟩
            · obtain ⟨u1, u2⟩ := r_ln1_ok hlb hv hS1
              exact ⟨S1.1, u1, fun j hj => (u2 j hj).trans (hfr j hj), hS2⟩
          refine x_istore_n dX5_read_63 (Nat.le_of_ble_eq_true rfl) rfl x_set_4_2 ?_
          refine x_iinc dX5_read_64 x_get_4_3 (Nat.le_of_ble_eq_true rfl) rfl x_set_4_3 ?_
          refine x_goto (t := 41) dX5_read_67 rfl ?_
          exact g41F (i + 1) z _ (by omega) hX w2
        · skip
          refine x_iload_n dX5_read_41 x_get_4_3 ?_
          refine x_sipush dX5_read_42 rfl ?_
          refine r_icmp_ge (t := 70) dX5_read_45 rfl ⟨by omega, by omega⟩ ⟨by omega, by omega⟩ (fun hc45 => absurd hc45 (by omega)) (fun hc45 => ?_)
          refine x_iload_n dX5_read_48 x_get_4_2 ?_
          refine r_if_eq (t := 70) dX5_read_49 rfl ⟨by omega, by omega⟩ (fun hc49 => absurd hc49 (by omega)) (fun hc49 => ?_)
          refine x_aload_n dX5_read_52 x_get_4_0 ?_
          refine x_getI 4 dX5_read_53 fX_5_25 rfl (by assumption) (by assumption) (by rfl) ?_
          rw [k4]
          refine r_if_eq (t := 70) dX5_read_56 rfl ⟨by omega, by omega⟩ (fun hc56 => absurd hc56 (by omega)) (fun hc56 => ?_)
          refine x_aload_n dX5_read_59 x_get_4_0 ?_
          refine x_callV (As := []) dX5_read_60 w_5_59 (c1) (by assumption) (by assumption) rfl rfl (Nat.le_of_ble_eq_true rfl) (Nat.le_of_ble_eq_true rfl) (Nat.le_of_ble_eq_true rfl) (Nat.le_of_ble_eq_true rfl) (Nat.le_of_ble_eq_true rfl) ?_
          intro d2 hd2
          obtain ⟨q1, e1, e2, e3⟩ := r_lin_inr hf
          obtain ⟨u1, u2⟩ := r_ln1_ok hlb hv e1
          refine x_istore_n dX5_read_63 (Nat.le_of_ble_eq_true rfl) rfl x_set_4_2 ?_
          refine x_iinc dX5_read_64 x_get_4_3 (Nat.le_of_ble_eq_true rfl) rfl x_set_4_3 ?_
          refine x_goto (t := 41) dX5_read_67 rfl ?_
          exact ih (i + 1) (by omega) z.1 z.2 _ hd2 u1 (fun j hj => (u2 j hj).trans (hfr j hj)) hX
  have g33 : ∀ d : xM, (∀ j, j ≠ 1 → d j = clr lb D j) → d 1 1 = n → d 1 3 = 0 → d 1 8 = 0 → d 1 9 = -1 → ∀ o2 o3 : Option Value, x_W (X, l, yX5_read, cX5_read, 4, none, x_room 52 0 0, 0, 0, (.inl none), N, sh, (r_rd (D 2) n lb D (r_all (D 2) n lb D)), false, []) 33 [some (.ref (x_b X + 1)), some (.int (xI (n : Int))), o2, o3] [] 0 0 false N sh d := by
    intro d hd h1 h3 h8 h9 o2 o3
    have e2 : d 2 = D 2 := by rw [hd 2 (by decide)]; exact clr_rl 2 (by omega)
    have ht : tx d n := ⟨h1, hn7, by rw [e2]; exact hb⟩
    refine x_aload_n dX5_read_33 x_get_4_0 ?_
    refine x_callV (As := []) dX5_read_34 w_5_56 (c5_advance hl hR ht (q := 0) h3 (Nat.zero_le _)) (by assumption) (by assumption) rfl rfl (Nat.le_of_ble_eq_true rfl) (Nat.le_of_ble_eq_true rfl) (Nat.le_of_ble_eq_true rfl) (Nat.le_of_ble_eq_true rfl) (Nat.le_of_ble_eq_true rfl) ?_
    intro d1 hd1
    obtain ⟨a1, a2, a3⟩ := ad_rs ht (Nat.zero_le _) hd1
    have hra : ra (D 2) n lb (clr lb D, none) 0 d1 := by
      have f10 : clr lb D (lb + 10) = x_u1 (x_u1 (x_u1 (D (lb + 10)) 2 0) 3 0) 4 0 := by unfold clr; rw [x_up_n (by omega), x_up_s]
      have g10 : d1 (lb + 10) = x_u1 (x_u1 (x_u1 (D (lb + 10)) 2 0) 3 0) 4 0 := by rw [a2.1 _ (by omega), hd _ (by omega)]; exact f10
      refine ⟨a1, by rw [a2.1 2 (by decide)]; exact e2, ⟨fun j x y z => (a2.1 j x).trans (hd j x), ?_, ?_⟩, by rw [a2.2 8 (by decide)]; exact h8, by rw [a2.2 9 (by decide)]; exact h9⟩
      · rw [g10, x_u1_n (by decide), x_u1_s]; rfl
      · refine ⟨?_, fun i hi => absurd hi (Nat.not_lt_zero i), ?_, Nat.zero_le _⟩
        · rw [g10, x_u1_n (by decide), x_u1_n (by decide), x_u1_s]; rfl
        · rw [g10, x_u1_s, x_B, if_neg (by show ¬ (-6 : Int) ∈ ([] : List Int); simp)]
    refine x_iconst dX5_read_37 ?_
    refine x_istore_n dX5_read_38 (Nat.le_of_ble_eq_true rfl) rfl x_set_4_2 ?_
    refine x_iconst dX5_read_39 ?_
    refine x_istore_n dX5_read_40 (Nat.le_of_ble_eq_true rfl) rfl x_set_4_3 ?_
    exact gL 700 0 rfl _ _ _ hra (sv_clr hw) (fun j hj => clr_rl j hj) rfl
  refine x_ofW (by decide +kernel) hl (by simp [Value.category]) (by simp) ?_
  have hmin : min (n : Int) 700 = n := by omega
  refine x_aload_n dX5_read_0 x_get_4_0 ?_
  refine x_iload_n dX5_read_1 x_get_4_1 ?_
  refine x_sipush dX5_read_2 rfl ?_
  refine r_min dX5_read_5 w_5_47 ⟨by omega, by omega⟩ ⟨by omega, by omega⟩ (Nat.le_of_ble_eq_true rfl) (Nat.le_of_ble_eq_true rfl) (Nat.le_of_ble_eq_true rfl) (Nat.le_of_ble_eq_true rfl) ?_
  refine x_putI 1 dX5_read_8 fX_5_15 rfl tX_5_1 (by assumption) (by assumption) (by rfl) ?_
  rw [hmin]
  refine x_aload_n dX5_read_11 x_get_4_0 ?_
  refine x_getR dX5_read_12 fX_5_37 (by assumption) (by assumption) (by rfl) ?_
  refine x_callV (As := []) dX5_read_15 w_5_53 (c3_clear hl hL) (by assumption) (by assumption) rfl rfl (Nat.le_of_ble_eq_true rfl) (Nat.le_of_ble_eq_true rfl) (Nat.le_of_ble_eq_true rfl) (Nat.le_of_ble_eq_true rfl) (Nat.le_of_ble_eq_true rfl) ?_
  intro d hd
  obtain rfl := Eq.symm hd
  refine x_aload_n dX5_read_18 x_get_4_0 ?_
  refine x_iconst dX5_read_19 ?_
  refine x_putI 3 dX5_read_20 fX_5_22 rfl tX_5_3 (by assumption) (by assumption) (by rfl) ?_
  refine x_aload_n dX5_read_23 x_get_4_0 ?_
  refine x_iconst dX5_read_24 ?_
  refine x_putI 8 dX5_read_25 fX_5_41 rfl tX_5_8 (by assumption) (by assumption) (by rfl) ?_
  refine x_aload_n dX5_read_28 x_get_4_0 ?_
  refine x_iconst dX5_read_29 ?_
  refine x_putI 9 dX5_read_30 fX_5_44 rfl tX_5_9 (by assumption) (by assumption) (by rfl) ?_
  refine g33 _ (fun j hj => ?_) ?_ ?_ ?_ ?_ _ _
  · rw [x_up_n hj, x_up_n hj, x_up_n hj]
    exact clr_cg hlb (fun j hj => x_up_n hj) j hj
  · rw [x_up_s, x_u1_n (by decide), x_up_s, x_u1_n (by decide), x_up_s, x_u1_n (by decide)]
    show clr lb _ 1 1 = _
    rw [clr_rl 1 (by omega), x_up_s, x_u1_s]
  · rw [x_up_s, x_u1_n (by decide), x_up_s, x_u1_n (by decide), x_up_s, x_u1_s]
  · rw [x_up_s, x_u1_n (by decide), x_up_s, x_u1_s]
  · rw [x_up_s, x_u1_s]
end C998
