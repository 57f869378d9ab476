section C49
/-! ===== the acts ===== -/
def ac (la : Nat) (D d : xM) : Prop := (∀ j, j ≠ 34 → j ≠ 37 → j ≠ 38 → j ≠ la + 12 → d j = D j) ∧ ∀ j, x_r (d (la + 12) j)
theorem acts_same {D d : xM} {a k : Nat} {L : List (Int → Int)} (h : acts D a k L) (h1 : d a = D a) (h2 : d k = D k) : acts d a k L := by
  unfold acts at h ⊢
  rw [h1, h2]
  exact h
theorem seen_same {D d : xM} {se : Nat} {S : List (Int × Int × Int)} (h : seen D se S) (h0 : d se = D se) (h1 : d (se + 1) = D (se + 1)) (h2 : d (se + 2) = D (se + 2)) (h3 : d (se + 3) = D (se + 3)) : seen d se S := by
  unfold seen at h ⊢
  rw [h0, h1, h2, h3]
  exact h
def s_send (f : Int → Int) (c g s q : Int) : Int → Int := x_u1 (x_u1 (x_u1 f (55 + c) g) (65 + c) s) (75 + c) q
def tp4 (f : Int → Int) (k z : Int) : Nat → Int → Int
  | 0 => f
  | j + 1 => x_u1 (tp4 f k z j) (k + j) (x_by (x_by (x_sr z (24 - 8 * j))))
theorem tp4_s {f : Int → Int} {k z : Int} {j : Nat} : tp4 f k z (j + 1) = x_u1 (tp4 f k z j) (k + j) (x_by (x_by (x_sr z (24 - 8 * j)))) := rfl
def tp20 (f : Int → Int) (k a b c d e : Int) : Int → Int := tp4 (tp4 (tp4 (tp4 (tp4 f k a 4) (k + 4) b 4) (k + 8) c 4) (k + 12) d 4) (k + 16) e 4
theorem e_oth_in {one two : Int → Int} (h1 : ∀ j, 0 ≤ one j ∧ one j ≤ 7) (h2 : ∀ j, 0 ≤ two j ∧ two j ≤ 7) (w t : Int) : -1 ≤ e_oth one two w t ∧ e_oth one two w t ≤ 7 := by
  have a := h1 w
  have b := h2 w
  unfold e_oth
  split
  · omega
  split <;> omega
theorem cq_tp {N : Nat} {sh : xS} {D : xM} {la lb T C W : Nat} {G : Ldt} (hq : cq N sh D la lb T C W G) (hla : la = 3 ∨ la = 18) {f g : Int → Int} : cq N sh (x_up (x_up D 2 f) 0 g) la lb T C W G := by
  obtain ⟨hX, hG, hR, hk, hco⟩ := hq
  have e : ∀ j, 3 ≤ j → x_up (x_up D 2 f) 0 g j = D j := fun j a => by rw [x_up_n (by omega), x_up_n (by omega)]
  refine ⟨hX, ldG_of hG (fun j a b => e j (by omega)) (fun j => by rw [e (la + 12) (by omega)]; exact ldG_w hG j), ?_, by rw [e 34 (by decide)]; exact hk, co_ok_of hco (fun j a b => e j (by omega))⟩
  unfold rd at hR ⊢
  rw [e (la + 3) (by omega), e (la + 3 + 1) (by omega), e (la + 3 + 2) (by omega), e (la + 3 + 3) (by omega), e (la + 3 + 4) (by omega), e (la + 3 + 5) (by omega), e (la + 3 + 6) (by omega)]
  exact hR
theorem w_11_190 : x_cv RX11 190 yX11_refuseAct cX11_refuseAct 1 (some .int) 11 0 := ⟨⟨_, rfl, rfl⟩, (x_in 427 (by decide +kernel) rfl), (x_in 429 (by decide +kernel) rfl), (x_in 1 (by decide +kernel) rfl), (x_in 80 (by decide +kernel) rfl), (x_in 430 (by decide +kernel) rfl), by decide, ⟨by decide +kernel, by decide +kernel, by decide +kernel⟩⟩
theorem w_11_194 : x_cv RX11 194 yX0_keep cX0_keep 3 (none) 0 1 := ⟨⟨_, rfl, rfl⟩, (x_in 431 (by decide +kernel) rfl), (x_in 432 (by decide +kernel) rfl), (x_in 433 (by decide +kernel) rfl), (x_in 86 (by decide +kernel) rfl), (x_in 434 (by decide +kernel) rfl), by decide, ⟨by decide +kernel, by decide +kernel, by decide +kernel⟩⟩
theorem w_11_208 : x_cv RX11 208 yX6_otherEnd cX6_otherEnd 3 (some .int) 6 2 := ⟨⟨_, rfl, rfl⟩, (x_in 966 (by decide +kernel) rfl), (x_in 795 (by decide +kernel) rfl), (x_in 796 (by decide +kernel) rfl), (x_in 83 (by decide +kernel) rfl), (x_in 797 (by decide +kernel) rfl), by decide, ⟨by decide +kernel, by decide +kernel, by decide +kernel⟩⟩
theorem w_11_220 : x_cv RX11 220 yX9_isGone cX9_isGone 2 (some .boolean) 9 1 := ⟨⟨_, rfl, rfl⟩, (x_in 981 (by decide +kernel) rfl), (x_in 511 (by decide +kernel) rfl), (x_in 512 (by decide +kernel) rfl), (x_in 85 (by decide +kernel) rfl), (x_in 513 (by decide +kernel) rfl), by decide, ⟨by decide +kernel, by decide +kernel, by decide +kernel⟩⟩
theorem w_11_223 : x_cv RX11 223 yX9_pour cX9_pour 5 (none) 9 2 := ⟨⟨_, rfl, rfl⟩, (x_in 989 (by decide +kernel) rfl), (x_in 990 (by decide +kernel) rfl), (x_in 991 (by decide +kernel) rfl), (x_in 85 (by decide +kernel) rfl), (x_in 992 (by decide +kernel) rfl), by decide, ⟨by decide +kernel, by decide +kernel, by decide +kernel⟩⟩
theorem w_11_227 : x_cv RX11 227 yX0_takeBack cX0_takeBack 3 (none) 0 1 := ⟨⟨_, rfl, rfl⟩, (x_in 498 (by decide +kernel) rfl), (x_in 499 (by decide +kernel) rfl), (x_in 500 (by decide +kernel) rfl), (x_in 86 (by decide +kernel) rfl), (x_in 501 (by decide +kernel) rfl), by decide, ⟨by decide +kernel, by decide +kernel, by decide +kernel⟩⟩
theorem w_11_370 : x_cv RX11 370 yX0_take cX0_take 2 (none) 0 1 := ⟨⟨_, rfl, rfl⟩, (x_in 575 (by decide +kernel) rfl), (x_in 576 (by decide +kernel) rfl), (x_in 577 (by decide +kernel) rfl), (x_in 86 (by decide +kernel) rfl), (x_in 578 (by decide +kernel) rfl), by decide, ⟨by decide +kernel, by decide +kernel, by decide +kernel⟩⟩
theorem w_11_373 : x_cv RX11 373 yX8_take cX8_take 2 (none) 8 1 := ⟨⟨_, rfl, rfl⟩, (x_in 579 (by decide +kernel) rfl), (x_in 580 (by decide +kernel) rfl), (x_in 581 (by decide +kernel) rfl), (x_in 87 (by decide +kernel) rfl), (x_in 582 (by decide +kernel) rfl), by decide, ⟨by decide +kernel, by decide +kernel, by decide +kernel⟩⟩
theorem w_11_85 : x_cv RX11 85 yX11_feedNumber cX11_feedNumber 3 (none) 11 1 := ⟨⟨_, rfl, rfl⟩, (x_in 415 (by decide +kernel) rfl), (x_in 417 (by decide +kernel) rfl), (x_in 0 (by decide +kernel) rfl), (x_in 80 (by decide +kernel) rfl), (x_in 418 (by decide +kernel) rfl), by decide, ⟨by decide +kernel, by decide +kernel, by decide +kernel⟩⟩
theorem c11_days {X : xC} {l : Launch} (hl : l.stackTraces = false) {N : Nat} {sh : xS} {D : xM} {la lb T C W : Nat} {G : Ldt} (hq : cq N sh D la lb T C W G) {L : List (Int → Int)} (hA : acts D 37 38 L) {n : Nat} (h1 : 1 ≤ n) (h30 : n ≤ 30) (h9 : D 34 0 + n ≤ 999) : x_M X l yX11_days cX11_days 2 (some .int) 7 1 6 [.ref (x_b X + 0), .int (xI (n : Int))] false N sh D (o_i (s_days G T C (D 34) n 0)) false N sh (fun d => d 34 = s_days G T C (D 34) n ∧ acts d 37 38 (l_keep L (D 34)) ∧ ac la D d) := by
  obtain ⟨hX, hG, hR, ⟨hk, hd9, hpl⟩, hco⟩ := id hq
  obtain ⟨hN, x0, x1, x2, xla, xlb, x33, x35, x37, x39, x43, x45, x47, x51, x60, x61, hll⟩ := id hX
  have hla : la = 3 ∨ la = 18 := by omega
  have n0 : 0 < N := by omega
  have n1 : 1 < N := by omega
  have n2 : 2 < N := by omega
  have n33 : 33 < N := by omega
  have n34 : 34 < N := by omega
  have n35 : 35 < N := by omega
  have n36 : 36 < N := by omega
  have n37 : 37 < N := by omega
  have n38 : 38 < N := by omega
  have n39 : 39 < N := by omega
  have n40 : 40 < N := by omega
  have n41 : 41 < N := by omega
  have n42 : 42 < N := by omega
  have n43 : 43 < N := by omega
  have n45 : 45 < N := by omega
  have n47 : 47 < N := by omega
  have n51 : 51 < N := by omega
  have n60 : 60 < N := by omega
  have n61 : 61 < N := by omega
  have x33a := x33.2.1
  have x34 := x33.2.2.2
  have x35a := x35.2.1
  have x36 := x35.2.2.2
  have x37a := x37.2.1
  have x38 := x37.2.2.2
  have x39a := x39.2.1
  have x43a := x43.2.1
  have x45a := x45.2.1
  have x47a := x47.2.1
  have x51a := x51.2.1
  have xla0 := xla.2.1
  have xla1 := xla.2.2.1
  have xla2 := xla.2.2.2.1
  have hlaN : la < N := by have := xla.1; omega
  have hlaN1 : la + 1 < N := by have := xla.1; omega
  have hlaN2 : la + 2 < N := by have := xla.1; omega
  have hlaN3 : la + 3 < N := by have := xla.1; omega
  have hlaN10 : la + 10 < N := by have := xla.1; omega
  have xru := (is_L_ru xla).2.1
  have xro := (is_L_ro xla).2.1
  obtain ⟨hG1, hG2, hG3⟩ := ldG_G hG
  obtain ⟨n0', ⟨gT, gTb, gC, gCb, -⟩, -⟩ := id hG
  obtain ⟨rW, rWb, rT, -, ro1, ro2, ro3, ro4, ro5, ro6⟩ := id hR
  have hd0 : 0 ≤ D 34 0 := ((hk 0).1 rfl).1
  have hB : 161 * D 34 0 ≤ 160839 := by omega
  have hsc := sc_refl hG hco
  refine x_ofW (by decide +kernel) hl (by simp [Value.category]) (by simp) ?_
  refine x_iload_n dX11_days_0 x_get_2_1 ?_
  refine x_iconst dX11_days_1 ?_
  refine r_icmp_lt (t := 28) dX11_days_2 rfl ⟨by omega, by omega⟩ ⟨by omega, by omega⟩ (fun hc2 => absurd hc2 (by omega)) (fun hc2 => ?_)
  refine x_iload_n dX11_days_5 x_get_2_1 ?_
  refine x_bipush dX11_days_6 rfl ?_
  refine r_icmp_gt (t := 28) dX11_days_8 rfl ⟨by omega, by omega⟩ ⟨by omega, by omega⟩ (fun hc8 => absurd hc8 (by omega)) (fun hc8 => ?_)
  refine x_aload_n dX11_days_11 x_get_2_0 ?_
  refine x_getR dX11_days_12 fX_11_30 (by assumption) (by assumption) (by rfl) ?_
  refine x_getR dX11_days_15 fX_11_135 (by assumption) (by assumption) (by rfl) ?_
  refine x_iconst dX11_days_18 ?_
  refine x_iald dX11_days_19 (by assumption) (by assumption) (by omega) (by omega) (by decide) ?_
  refine x_iload_n dX11_days_20 x_get_2_1 ?_
  refine x_iadd dX11_days_21 ?_
  refine x_sipush dX11_days_22 rfl ?_
  refine r_icmp_le (t := 33) dX11_days_25 rfl ⟨by omega, by omega⟩ ⟨by omega, by omega⟩ (fun hc25 => ?_) (fun hc25 => absurd hc25 (by omega))
  refine x_aload_n dX11_days_33 x_get_2_0 ?_
  refine x_getR dX11_days_34 fX_11_40 (by assumption) (by assumption) (by rfl) ?_
  refine x_aload_n dX11_days_37 x_get_2_0 ?_
  refine x_getR dX11_days_38 fX_11_30 (by assumption) (by assumption) (by rfl) ?_
  refine x_callV (As := [_]) dX11_days_41 w_11_194 (c0_keep hl x37 x33 hA ⟨by decide, by decide, by decide, by decide⟩) (by assumption) (by assumption) rfl rfl (Nat.le_of_ble_eq_true rfl) (Nat.le_of_ble_eq_true rfl) (Nat.le_of_ble_eq_true rfl) (Nat.le_of_ble_eq_true rfl) (Nat.le_of_ble_eq_true rfl) ?_
  rintro d1 ⟨ha1, hf1⟩
  have e34 : d1 34 = D 34 := hf1 34 (by decide) (by decide)
  have hw1 : ∀ j, x_r (d1 (la + 12) j) := by
    intro j
    rw [hf1 (la + 12) (by omega) (by omega)]
    exact ldG_w hG j
  have hGd : ldG d1 la T C G := ldG_of hG (fun j a b => hf1 j (by omega) (by omega)) hw1
  refine x_aload_n dX11_days_44 x_get_2_0 ?_
  refine x_getR dX11_days_45 fX_11_30 (by assumption) (by assumption) (by rfl) ?_
  refine x_aload_n dX11_days_48 x_get_2_0 ?_
  refine x_getR dX11_days_49 fX_11_23 (by assumption) (by assumption) (by rfl) ?_
  refine x_iload_n dX11_days_52 x_get_2_1 ?_
  refine x_callV (As := [_, _]) dX11_days_53 w_11_197 (c9_passDays hl x33 xla hGd (Or.inr (by omega)) (B := 161 * D 34 0) (by rw [e34]; exact hk) (n := n) (by omega)) (by assumption) (by assumption) rfl rfl (Nat.le_of_ble_eq_true rfl) (Nat.le_of_ble_eq_true rfl) (Nat.le_of_ble_eq_true rfl) (Nat.le_of_ble_eq_true rfl) (Nat.le_of_ble_eq_true rfl) ?_
  rintro d2 ⟨w2, hw2, hd2⟩
  have e2 : d2 34 = s_days G T C (D 34) n := by rw [hd2, x_up_n (by omega), x_up_s, e34]
  refine x_aload_n dX11_days_56 x_get_2_0 ?_
  refine x_getR dX11_days_57 fX_11_30 (by assumption) (by assumption) (by rfl) ?_
  refine x_getR dX11_days_60 fX_11_135 (by assumption) (by assumption) (by rfl) ?_
  refine x_iconst dX11_days_63 ?_
  refine x_iald dX11_days_64 (by assumption) (by assumption) (by omega) (by omega) (by decide) ?_
  rw [e2]
  exact x_iret dX11_days_65 rfl (Nat.le_of_ble_eq_true rfl) (Nat.le_of_ble_eq_true rfl) rfl rfl rfl ⟨e2, acts_same ha1 (by rw [hd2, x_up_n (by omega), x_up_n (by decide)]) (by rw [hd2, x_up_n (by omega), x_up_n (by decide)]), fun j a b c e => by rw [hd2, x_up_n e, x_up_n a]; exact hf1 j b c, fun j => by rw [hd2, x_up_s]; exact hw2 j⟩ rfl
theorem c11_daysR {X : xC} {l : Launch} (hl : l.stackTraces = false) {N : Nat} {sh : xS} {D : xM} {la lb T C W : Nat} {G : Ldt} (hq : cq N sh D la lb T C W G) {n : Int} (hnr : x_r n) (h : ¬ (1 ≤ n ∧ n ≤ 30 ∧ D 34 0 + n ≤ 999)) : x_M X l yX11_days cX11_days 2 (some .int) 7 1 6 [.ref (x_b X + 0), .int (xI n)] false N sh D (o_i (-1)) false N sh (x_is (x_up D 61 (x_u1 (D 61) 1 (D 61 1 + 1)))) := by
  obtain ⟨hX, hG, hR, ⟨hk, hd9, hpl⟩, hco⟩ := id hq
  obtain ⟨hN, x0, x1, x2, xla, xlb, x33, x35, x37, x39, x43, x45, x47, x51, x60, x61, hll⟩ := id hX
  have hla : la = 3 ∨ la = 18 := by omega
  have n0 : 0 < N := by omega
  have n1 : 1 < N := by omega
  have n2 : 2 < N := by omega
  have n33 : 33 < N := by omega
  have n34 : 34 < N := by omega
  have n35 : 35 < N := by omega
  have n36 : 36 < N := by omega
  have n37 : 37 < N := by omega
  have n38 : 38 < N := by omega
  have n39 : 39 < N := by omega
  have n40 : 40 < N := by omega
  have n41 : 41 < N := by omega
  have n42 : 42 < N := by omega
  have n43 : 43 < N := by omega
  have n45 : 45 < N := by omega
  have n47 : 47 < N := by omega
  have n51 : 51 < N := by omega
  have n60 : 60 < N := by omega
  have n61 : 61 < N := by omega
  have x33a := x33.2.1
  have x34 := x33.2.2.2
  have x35a := x35.2.1
  have x36 := x35.2.2.2
  have x37a := x37.2.1
  have x38 := x37.2.2.2
  have x39a := x39.2.1
  have x43a := x43.2.1
  have x45a := x45.2.1
  have x47a := x47.2.1
  have x51a := x51.2.1
  have xla0 := xla.2.1
  have xla1 := xla.2.2.1
  have xla2 := xla.2.2.2.1
  have hlaN : la < N := by have := xla.1; omega
  have hlaN1 : la + 1 < N := by have := xla.1; omega
  have hlaN2 : la + 2 < N := by have := xla.1; omega
  have hlaN3 : la + 3 < N := by have := xla.1; omega
  have hlaN10 : la + 10 < N := by have := xla.1; omega
  have xru := (is_L_ru xla).2.1
  have xro := (is_L_ro xla).2.1
  obtain ⟨hG1, hG2, hG3⟩ := ldG_G hG
  obtain ⟨n0', ⟨gT, gTb, gC, gCb, -⟩, -⟩ := id hG
  obtain ⟨rW, rWb, rT, -, ro1, ro2, ro3, ro4, ro5, ro6⟩ := id hR
  have hd0 : 0 ≤ D 34 0 := ((hk 0).1 rfl).1
  have hB : 161 * D 34 0 ≤ 160839 := by omega
  have hsc := sc_refl hG hco
  obtain ⟨hnr0, hnr1⟩ := id hnr
  refine x_ofW (by decide +kernel) hl (by simp [Value.category]) (by simp) ?_
  refine x_iload_n dX11_days_0 x_get_2_1 ?_
  refine x_iconst dX11_days_1 ?_
  refine r_icmp_lt (t := 28) dX11_days_2 rfl ⟨by omega, by omega⟩ ⟨by omega, by omega⟩ (fun hc2 => ?_) (fun hc2 => ?_)
  · refine x_aload_n dX11_days_28 x_get_2_0 ?_
    refine x_callV (As := []) dX11_days_29 w_11_190 (c11_refuse hl hq) (by assumption) (by assumption) rfl rfl (Nat.le_of_ble_eq_true rfl) (Nat.le_of_ble_eq_true rfl) (Nat.le_of_ble_eq_true rfl) (Nat.le_of_ble_eq_true rfl) (Nat.le_of_ble_eq_true rfl) ?_
    intro d hd
    obtain rfl := Eq.symm hd
    exact x_iret dX11_days_32 rfl (Nat.le_of_ble_eq_true rfl) (Nat.le_of_ble_eq_true rfl) rfl rfl rfl rfl rfl
  · refine x_iload_n dX11_days_5 x_get_2_1 ?_
    refine x_bipush dX11_days_6 rfl ?_
    refine r_icmp_gt (t := 28) dX11_days_8 rfl ⟨by omega, by omega⟩ ⟨by omega, by omega⟩ (fun hc8 => ?_) (fun hc8 => ?_)
    · refine x_aload_n dX11_days_28 x_get_2_0 ?_
      refine x_callV (As := []) dX11_days_29 w_11_190 (c11_refuse hl hq) (by assumption) (by assumption) rfl rfl (Nat.le_of_ble_eq_true rfl) (Nat.le_of_ble_eq_true rfl) (Nat.le_of_ble_eq_true rfl) (Nat.le_of_ble_eq_true rfl) (Nat.le_of_ble_eq_true rfl) ?_
      intro d hd
      obtain rfl := Eq.symm hd
      exact x_iret dX11_days_32 rfl (Nat.le_of_ble_eq_true rfl) (Nat.le_of_ble_eq_true rfl) rfl rfl rfl rfl rfl
    · refine x_aload_n dX11_days_11 x_get_2_0 ?_
      refine x_getR dX11_days_12 fX_11_30 (by assumption) (by assumption) (by rfl) ?_
      refine x_getR dX11_days_15 fX_11_135 (by assumption) (by assumption) (by rfl) ?_
      refine x_iconst dX11_days_18 ?_
      refine x_iald dX11_days_19 (by assumption) (by assumption) (by omega) (by omega) (by decide) ?_
      refine x_iload_n dX11_days_20 x_get_2_1 ?_
      refine x_iadd dX11_days_21 ?_
      refine x_sipush dX11_days_22 rfl ?_
      refine r_icmp_le (t := 33) dX11_days_25 rfl ⟨by omega, by omega⟩ ⟨by omega, by omega⟩ (fun hc25 => absurd hc25 (by omega)) (fun hc25 => ?_)
      refine x_aload_n dX11_days_28 x_get_2_0 ?_
      refine x_callV (As := []) dX11_days_29 w_11_190 (c11_refuse hl hq) (by assumption) (by assumption) rfl rfl (Nat.le_of_ble_eq_true rfl) (Nat.le_of_ble_eq_true rfl) (Nat.le_of_ble_eq_true rfl) (Nat.le_of_ble_eq_true rfl) (Nat.le_of_ble_eq_true rfl) ?_
      intro d hd
      obtain rfl := Eq.symm hd
      exact x_iret dX11_days_32 rfl (Nat.le_of_ble_eq_true rfl) (Nat.le_of_ble_eq_true rfl) rfl rfl rfl rfl rfl
theorem c11_send {X : xC} {l : Launch} (hl : l.stackTraces = false) {N : Nat} {sh : xS} {D : xM} {la lb T C W : Nat} {G : Ldt} (hq : cq N sh D la lb T C W G) {L : List (Int → Int)} (hA : acts D 37 38 L) {c w : Int} (hc0 : 0 ≤ c) (hc1 : c < C) (hw0 : 0 ≤ w) (hw1' : w < W) (hli : s_lies (D 34) c) (hoe : ¬ (e_oth (D (la + 3 + 1)) (D (la + 3 + 2)) w (D 34 (55 + c))) = -1) : x_M X l yX11_send cX11_send 4 (some .int) 7 1 6 [.ref (x_b X + 0), .int (xI c), .int (xI w)] false N sh D (o_i (e_oth (D (la + 3 + 1)) (D (la + 3 + 2)) w (D 34 (55 + c)))) false N sh (fun d => d 34 = s_send (D 34) c (e_oth (D (la + 3 + 1)) (D (la + 3 + 2)) w (D 34 (55 + c))) (D (la + 3 + 3) w) (D (la + 3 + 4) w) ∧ acts d 37 38 (l_keep L (D 34)) ∧ ac la D d) := by
  obtain ⟨hX, hG, hR, ⟨hk, hd9, hpl⟩, hco⟩ := id hq
  obtain ⟨hN, x0, x1, x2, xla, xlb, x33, x35, x37, x39, x43, x45, x47, x51, x60, x61, hll⟩ := id hX
  have hla : la = 3 ∨ la = 18 := by omega
  have n0 : 0 < N := by omega
  have n1 : 1 < N := by omega
  have n2 : 2 < N := by omega
  have n33 : 33 < N := by omega
  have n34 : 34 < N := by omega
  have n35 : 35 < N := by omega
  have n36 : 36 < N := by omega
  have n37 : 37 < N := by omega
  have n38 : 38 < N := by omega
  have n39 : 39 < N := by omega
  have n40 : 40 < N := by omega
  have n41 : 41 < N := by omega
  have n42 : 42 < N := by omega
  have n43 : 43 < N := by omega
  have n45 : 45 < N := by omega
  have n47 : 47 < N := by omega
  have n51 : 51 < N := by omega
  have n60 : 60 < N := by omega
  have n61 : 61 < N := by omega
  have x33a := x33.2.1
  have x34 := x33.2.2.2
  have x35a := x35.2.1
  have x36 := x35.2.2.2
  have x37a := x37.2.1
  have x38 := x37.2.2.2
  have x39a := x39.2.1
  have x43a := x43.2.1
  have x45a := x45.2.1
  have x47a := x47.2.1
  have x51a := x51.2.1
  have xla0 := xla.2.1
  have xla1 := xla.2.2.1
  have xla2 := xla.2.2.2.1
  have hlaN : la < N := by have := xla.1; omega
  have hlaN1 : la + 1 < N := by have := xla.1; omega
  have hlaN2 : la + 2 < N := by have := xla.1; omega
  have hlaN3 : la + 3 < N := by have := xla.1; omega
  have hlaN10 : la + 10 < N := by have := xla.1; omega
  have xru := (is_L_ru xla).2.1
  have xro := (is_L_ro xla).2.1
  obtain ⟨hG1, hG2, hG3⟩ := ldG_G hG
  obtain ⟨n0', ⟨gT, gTb, gC, gCb, -⟩, -⟩ := id hG
  obtain ⟨rW, rWb, rT, -, ro1, ro2, ro3, ro4, ro5, ro6⟩ := id hR
  have hd0 : 0 ≤ D 34 0 := ((hk 0).1 rfl).1
  have hB : 161 * D 34 0 ≤ 160839 := by omega
  have hsc := sc_refl hG hco
  have xr3 : sh (la + 3 + 3) = .inl (0, 12) := (is_L_ro xla).2.2.2.2.1
  have xr4 : sh (la + 3 + 4) = .inl (0, 12) := (is_L_ro xla).2.2.2.2.2.1
  have nr3 : la + 3 + 3 < N := by have := xla.1; omega
  have nr4 : la + 3 + 4 < N := by have := xla.1; omega
  have hcr := s_cr hk (c := c) hc0 (by omega)
  have hoi := e_oth_in ro1 ro2 w (D 34 (55 + c))
  refine x_ofW (by decide +kernel) hl (by simp [Value.category]) (by simp) ?_
  refine x_aload_n dX11_send_0 x_get_4_0 ?_
  refine x_iload_n dX11_send_1 x_get_4_1 ?_
  refine x_callV (As := [_]) dX11_send_2 w_11_185 (c11_nCrate hl hq hc0 hc1) (by assumption) (by assumption) rfl rfl (Nat.le_of_ble_eq_true rfl) (Nat.le_of_ble_eq_true rfl) (Nat.le_of_ble_eq_true rfl) (Nat.le_of_ble_eq_true rfl) (Nat.le_of_ble_eq_true rfl) ?_
  intro d hd
  obtain rfl := Eq.symm hd
  refine x_aload_n dX11_send_5 x_get_4_0 ?_
  refine x_iload_n dX11_send_6 x_get_4_2 ?_
  refine x_callV (As := [_]) dX11_send_7 w_11_201 (c11_nWay hl hq hw0 hw1') (by assumption) (by assumption) rfl rfl (Nat.le_of_ble_eq_true rfl) (Nat.le_of_ble_eq_true rfl) (Nat.le_of_ble_eq_true rfl) (Nat.le_of_ble_eq_true rfl) (Nat.le_of_ble_eq_true rfl) ?_
  intro d hd
  obtain rfl := Eq.symm hd
  refine x_aload_n dX11_send_10 x_get_4_0 ?_
  refine x_getR dX11_send_11 fX_11_30 (by assumption) (by assumption) (by rfl) ?_
  refine x_iload_n dX11_send_14 x_get_4_1 ?_
  refine x_callV (As := [_]) dX11_send_15 w_11_204 (c9_lies hl x33 (B := 161 * D 34 0) (by omega) hk (c := c) hc0 (by omega)) (by assumption) (by assumption) rfl rfl (Nat.le_of_ble_eq_true rfl) (Nat.le_of_ble_eq_true rfl) (Nat.le_of_ble_eq_true rfl) (Nat.le_of_ble_eq_true rfl) (Nat.le_of_ble_eq_true rfl) ?_
  intro d hd
  obtain rfl := Eq.symm hd
  refine b_ifne (t := 26) dX11_send_18 rfl (fun hc18 => ?_) (fun hc18 => absurd hc18 (fun h => h hli))
  refine x_aload_n dX11_send_26 x_get_4_0 ?_
  refine x_getR dX11_send_27 fX_11_23 (by assumption) (by assumption) (by rfl) ?_
  refine x_getR dX11_send_30 fX_11_106 (by assumption) (by assumption) (by rfl) ?_
  refine x_iload_n dX11_send_33 x_get_4_2 ?_
  refine x_aload_n dX11_send_34 x_get_4_0 ?_
  refine x_getR dX11_send_35 fX_11_30 (by assumption) (by assumption) (by rfl) ?_
  refine x_getR dX11_send_38 fX_11_135 (by assumption) (by assumption) (by rfl) ?_
  refine x_bipush dX11_send_41 rfl ?_
  refine x_iload_n dX11_send_43 x_get_4_1 ?_
  refine x_iadd dX11_send_44 ?_
  refine x_iald dX11_send_45 (by assumption) (by assumption) (by omega) (by omega) (by decide) ?_
  refine x_callV (As := [_, _]) dX11_send_46 w_11_208 (c6_oth hl (is_L_ro xla) hR hw0 (by omega) (t := D 34 (55 + c)) ⟨by omega, by omega⟩) (by assumption) (by assumption) rfl rfl (Nat.le_of_ble_eq_true rfl) (Nat.le_of_ble_eq_true rfl) (Nat.le_of_ble_eq_true rfl) (Nat.le_of_ble_eq_true rfl) (Nat.le_of_ble_eq_true rfl) ?_
  intro d hd
  obtain rfl := Eq.symm hd
  refine x_istore_n dX11_send_49 (Nat.le_of_ble_eq_true rfl) rfl x_set_4_3 ?_
  refine x_iload_n dX11_send_50 x_get_4_3 ?_
  refine x_iconst dX11_send_51 ?_
  refine r_icmp_ne (t := 60) dX11_send_52 rfl ⟨by omega, by omega⟩ ⟨by omega, by omega⟩ (fun hc52 => ?_) (fun hc52 => absurd hc52 (by omega))
  refine x_aload_n dX11_send_60 x_get_4_0 ?_
  refine x_getR dX11_send_61 fX_11_40 (by assumption) (by assumption) (by rfl) ?_
  refine x_aload_n dX11_send_64 x_get_4_0 ?_
  refine x_getR dX11_send_65 fX_11_30 (by assumption) (by assumption) (by rfl) ?_
  refine x_callV (As := [_]) dX11_send_68 w_11_194 (c0_keep hl x37 x33 hA ⟨by decide, by decide, by decide, by decide⟩) (by assumption) (by assumption) rfl rfl (Nat.le_of_ble_eq_true rfl) (Nat.le_of_ble_eq_true rfl) (Nat.le_of_ble_eq_true rfl) (Nat.le_of_ble_eq_true rfl) (Nat.le_of_ble_eq_true rfl) ?_
  rintro d1 ⟨ha1, hf1⟩
  have e34 : d1 34 = D 34 := hf1 34 (by decide) (by decide)
  have hw1 : ∀ j, x_r (d1 (la + 12) j) := by
    intro j
    rw [hf1 (la + 12) (by omega) (by omega)]
    exact ldG_w hG j
  refine x_aload_n dX11_send_71 x_get_4_0 ?_
  refine x_getR dX11_send_72 fX_11_30 (by assumption) (by assumption) (by rfl) ?_
  refine x_getR dX11_send_75 fX_11_135 (by assumption) (by assumption) (by rfl) ?_
  refine x_bipush dX11_send_78 rfl ?_
  refine x_iload_n dX11_send_80 x_get_4_1 ?_
  refine x_iadd dX11_send_81 ?_
  refine x_iload_n dX11_send_82 x_get_4_3 ?_
  refine x_iast dX11_send_83 (by assumption) (by assumption) (by omega) (by omega) (by decide) ?_
  first | rw [e34] | rw [hf1 (la + 3 + 3) (by omega) (by omega)] | rw [hf1 (la + 3 + 4) (by omega) (by omega)] | rw [x_up_n (by omega), hf1 (la + 3 + 3) (by omega) (by omega)] | rw [x_up_n (by omega), hf1 (la + 3 + 4) (by omega) (by omega)] | rw [x_up_s, x_up_up]
  refine x_aload_n dX11_send_84 x_get_4_0 ?_
  refine x_getR dX11_send_85 fX_11_30 (by assumption) (by assumption) (by rfl) ?_
  refine x_getR dX11_send_88 fX_11_135 (by assumption) (by assumption) (by rfl) ?_
  refine x_bipush dX11_send_91 rfl ?_
  refine x_iload_n dX11_send_93 x_get_4_1 ?_
  refine x_iadd dX11_send_94 ?_
  refine x_aload_n dX11_send_95 x_get_4_0 ?_
  refine x_getR dX11_send_96 fX_11_23 (by assumption) (by assumption) (by rfl) ?_
  refine x_getR dX11_send_99 fX_11_106 (by assumption) (by assumption) (by rfl) ?_
  refine x_getR dX11_send_102 fX_11_211 (by assumption) (by assumption) (by rfl) ?_
  refine x_iload_n dX11_send_105 x_get_4_2 ?_
  refine x_iald dX11_send_106 (by assumption) (by assumption) (by omega) (by omega) (by decide) ?_
  first | rw [e34] | rw [hf1 (la + 3 + 3) (by omega) (by omega)] | rw [hf1 (la + 3 + 4) (by omega) (by omega)] | rw [x_up_n (by omega), hf1 (la + 3 + 3) (by omega) (by omega)] | rw [x_up_n (by omega), hf1 (la + 3 + 4) (by omega) (by omega)] | rw [x_up_s, x_up_up]
  refine x_iast dX11_send_107 (by assumption) (by assumption) (by omega) (by omega) (by decide) ?_
  first | rw [e34] | rw [hf1 (la + 3 + 3) (by omega) (by omega)] | rw [hf1 (la + 3 + 4) (by omega) (by omega)] | rw [x_up_n (by omega), hf1 (la + 3 + 3) (by omega) (by omega)] | rw [x_up_n (by omega), hf1 (la + 3 + 4) (by omega) (by omega)] | rw [x_up_s, x_up_up]
  refine x_aload_n dX11_send_108 x_get_4_0 ?_
  refine x_getR dX11_send_109 fX_11_30 (by assumption) (by assumption) (by rfl) ?_
  refine x_getR dX11_send_112 fX_11_135 (by assumption) (by assumption) (by rfl) ?_
  refine x_bipush dX11_send_115 rfl ?_
  refine x_iload_n dX11_send_117 x_get_4_1 ?_
  refine x_iadd dX11_send_118 ?_
  refine x_aload_n dX11_send_119 x_get_4_0 ?_
  refine x_getR dX11_send_120 fX_11_23 (by assumption) (by assumption) (by rfl) ?_
  refine x_getR dX11_send_123 fX_11_106 (by assumption) (by assumption) (by rfl) ?_
  refine x_getR dX11_send_126 fX_11_214 (by assumption) (by assumption) (by rfl) ?_
  refine x_iload_n dX11_send_129 x_get_4_2 ?_
  refine x_iald dX11_send_130 (by assumption) (by assumption) (by omega) (by omega) (by decide) ?_
  first | rw [e34] | rw [hf1 (la + 3 + 3) (by omega) (by omega)] | rw [hf1 (la + 3 + 4) (by omega) (by omega)] | rw [x_up_n (by omega), hf1 (la + 3 + 3) (by omega) (by omega)] | rw [x_up_n (by omega), hf1 (la + 3 + 4) (by omega) (by omega)] | rw [x_up_s, x_up_up]
  refine x_iast dX11_send_131 (by assumption) (by assumption) (by omega) (by omega) (by decide) ?_
  first | rw [e34] | rw [hf1 (la + 3 + 3) (by omega) (by omega)] | rw [hf1 (la + 3 + 4) (by omega) (by omega)] | rw [x_up_n (by omega), hf1 (la + 3 + 3) (by omega) (by omega)] | rw [x_up_n (by omega), hf1 (la + 3 + 4) (by omega) (by omega)] | rw [x_up_s, x_up_up]
  generalize hd2 : x_up d1 34 _ = d2
  have e2 : d2 34 = s_send (D 34) c (e_oth (D (la + 3 + 1)) (D (la + 3 + 2)) w (D 34 (55 + c))) (D (la + 3 + 3) w) (D (la + 3 + 4) w) := by rw [← hd2, x_up_s]; rfl
  have hd2 := hd2.symm
  refine x_iload_n dX11_send_132 x_get_4_3 ?_
  exact x_iret dX11_send_133 rfl (Nat.le_of_ble_eq_true rfl) (Nat.le_of_ble_eq_true rfl) rfl rfl rfl ⟨e2, acts_same ha1 (by rw [hd2]; simp (disch := omega) only [x_up_n]) (by rw [hd2]; simp (disch := omega) only [x_up_n]), fun j a b c e => by rw [hd2]; simp (disch := omega) only [x_up_n]; exact hf1 j b c, fun j => by rw [hd2]; simp (disch := omega) only [x_up_n]; exact hw1 j⟩ rfl
theorem c11_sendR {X : xC} {l : Launch} (hl : l.stackTraces = false) {N : Nat} {sh : xS} {D : xM} {la lb T C W : Nat} {G : Ldt} (hq : cq N sh D la lb T C W G) {c w : Int} (hc0 : 0 ≤ c) (hc1 : c < C) (hw0 : 0 ≤ w) (hw1' : w < W) (h : ¬ (s_lies (D 34) c ∧ ¬ (e_oth (D (la + 3 + 1)) (D (la + 3 + 2)) w (D 34 (55 + c))) = -1)) : x_M X l yX11_send cX11_send 4 (some .int) 7 1 6 [.ref (x_b X + 0), .int (xI c), .int (xI w)] false N sh D (o_i (-1)) false N sh (x_is (x_up D 61 (x_u1 (D 61) 1 (D 61 1 + 1)))) := by
  obtain ⟨hX, hG, hR, ⟨hk, hd9, hpl⟩, hco⟩ := id hq
  obtain ⟨hN, x0, x1, x2, xla, xlb, x33, x35, x37, x39, x43, x45, x47, x51, x60, x61, hll⟩ := id hX
  have hla : la = 3 ∨ la = 18 := by omega
  have n0 : 0 < N := by omega
  have n1 : 1 < N := by omega
  have n2 : 2 < N := by omega
  have n33 : 33 < N := by omega
  have n34 : 34 < N := by omega
  have n35 : 35 < N := by omega
  have n36 : 36 < N := by omega
  have n37 : 37 < N := by omega
  have n38 : 38 < N := by omega
  have n39 : 39 < N := by omega
  have n40 : 40 < N := by omega
  have n41 : 41 < N := by omega
  have n42 : 42 < N := by omega
  have n43 : 43 < N := by omega
  have n45 : 45 < N := by omega
  have n47 : 47 < N := by omega
  have n51 : 51 < N := by omega
  have n60 : 60 < N := by omega
  have n61 : 61 < N := by omega
  have x33a := x33.2.1
  have x34 := x33.2.2.2
  have x35a := x35.2.1
  have x36 := x35.2.2.2
  have x37a := x37.2.1
  have x38 := x37.2.2.2
  have x39a := x39.2.1
  have x43a := x43.2.1
  have x45a := x45.2.1
  have x47a := x47.2.1
  have x51a := x51.2.1
  have xla0 := xla.2.1
  have xla1 := xla.2.2.1
  have xla2 := xla.2.2.2.1
  have hlaN : la < N := by have := xla.1; omega
  have hlaN1 : la + 1 < N := by have := xla.1; omega
  have hlaN2 : la + 2 < N := by have := xla.1; omega
  have hlaN3 : la + 3 < N := by have := xla.1; omega
  have hlaN10 : la + 10 < N := by have := xla.1; omega
  have xru := (is_L_ru xla).2.1
  have xro := (is_L_ro xla).2.1
  obtain ⟨hG1, hG2, hG3⟩ := ldG_G hG
  obtain ⟨n0', ⟨gT, gTb, gC, gCb, -⟩, -⟩ := id hG
  obtain ⟨rW, rWb, rT, -, ro1, ro2, ro3, ro4, ro5, ro6⟩ := id hR
  have hd0 : 0 ≤ D 34 0 := ((hk 0).1 rfl).1
  have hB : 161 * D 34 0 ≤ 160839 := by omega
  have hsc := sc_refl hG hco
  have hcr := s_cr hk (c := c) hc0 (by omega)
  have hoi := e_oth_in ro1 ro2 w (D 34 (55 + c))
  refine x_ofW (by decide +kernel) hl (by simp [Value.category]) (by simp) ?_
  refine x_aload_n dX11_send_0 x_get_4_0 ?_
  refine x_iload_n dX11_send_1 x_get_4_1 ?_
  refine x_callV (As := [_]) dX11_send_2 w_11_185 (c11_nCrate hl hq hc0 hc1) (by assumption) (by assumption) rfl rfl (Nat.le_of_ble_eq_true rfl) (Nat.le_of_ble_eq_true rfl) (Nat.le_of_ble_eq_true rfl) (Nat.le_of_ble_eq_true rfl) (Nat.le_of_ble_eq_true rfl) ?_
  intro d hd
  obtain rfl := Eq.symm hd
  refine x_aload_n dX11_send_5 x_get_4_0 ?_
  refine x_iload_n dX11_send_6 x_get_4_2 ?_
  refine x_callV (As := [_]) dX11_send_7 w_11_201 (c11_nWay hl hq hw0 hw1') (by assumption) (by assumption) rfl rfl (Nat.le_of_ble_eq_true rfl) (Nat.le_of_ble_eq_true rfl) (Nat.le_of_ble_eq_true rfl) (Nat.le_of_ble_eq_true rfl) (Nat.le_of_ble_eq_true rfl) ?_
  intro d hd
  obtain rfl := Eq.symm hd
  refine x_aload_n dX11_send_10 x_get_4_0 ?_
  refine x_getR dX11_send_11 fX_11_30 (by assumption) (by assumption) (by rfl) ?_
  refine x_iload_n dX11_send_14 x_get_4_1 ?_
  refine x_callV (As := [_]) dX11_send_15 w_11_204 (c9_lies hl x33 (B := 161 * D 34 0) (by omega) hk (c := c) hc0 (by omega)) (by assumption) (by assumption) rfl rfl (Nat.le_of_ble_eq_true rfl) (Nat.le_of_ble_eq_true rfl) (Nat.le_of_ble_eq_true rfl) (Nat.le_of_ble_eq_true rfl) (Nat.le_of_ble_eq_true rfl) ?_
  intro d hd
  obtain rfl := Eq.symm hd
  refine b_ifne (t := 26) dX11_send_18 rfl (fun hc18 => ?_) (fun hc18 => ?_)
  · refine x_aload_n dX11_send_26 x_get_4_0 ?_
    refine x_getR dX11_send_27 fX_11_23 (by assumption) (by assumption) (by rfl) ?_
    refine x_getR dX11_send_30 fX_11_106 (by assumption) (by assumption) (by rfl) ?_
    refine x_iload_n dX11_send_33 x_get_4_2 ?_
    refine x_aload_n dX11_send_34 x_get_4_0 ?_
    refine x_getR dX11_send_35 fX_11_30 (by assumption) (by assumption) (by rfl) ?_
    refine x_getR dX11_send_38 fX_11_135 (by assumption) (by assumption) (by rfl) ?_
    refine x_bipush dX11_send_41 rfl ?_
    refine x_iload_n dX11_send_43 x_get_4_1 ?_
    refine x_iadd dX11_send_44 ?_
    refine x_iald dX11_send_45 (by assumption) (by assumption) (by omega) (by omega) (by decide) ?_
    refine x_callV (As := [_, _]) dX11_send_46 w_11_208 (c6_oth hl (is_L_ro xla) hR hw0 (by omega) (t := D 34 (55 + c)) ⟨by omega, by omega⟩) (by assumption) (by assumption) rfl rfl (Nat.le_of_ble_eq_true rfl) (Nat.le_of_ble_eq_true rfl) (Nat.le_of_ble_eq_true rfl) (Nat.le_of_ble_eq_true rfl) (Nat.le_of_ble_eq_true rfl) ?_
    intro d hd
    obtain rfl := Eq.symm hd
    refine x_istore_n dX11_send_49 (Nat.le_of_ble_eq_true rfl) rfl x_set_4_3 ?_
    refine x_iload_n dX11_send_50 x_get_4_3 ?_
    refine x_iconst dX11_send_51 ?_
    refine r_icmp_ne (t := 60) dX11_send_52 rfl ⟨by omega, by omega⟩ ⟨by omega, by omega⟩ (fun hc52 => absurd hc52 (fun h2 => h ⟨hc18, h2⟩)) (fun hc52 => ?_)
    refine x_aload_n dX11_send_55 x_get_4_0 ?_
    refine x_callV (As := []) dX11_send_56 w_11_190 (c11_refuse hl hq) (by assumption) (by assumption) rfl rfl (Nat.le_of_ble_eq_true rfl) (Nat.le_of_ble_eq_true rfl) (Nat.le_of_ble_eq_true rfl) (Nat.le_of_ble_eq_true rfl) (Nat.le_of_ble_eq_true rfl) ?_
    intro d hd
    obtain rfl := Eq.symm hd
    exact x_iret dX11_send_59 rfl (Nat.le_of_ble_eq_true rfl) (Nat.le_of_ble_eq_true rfl) rfl rfl rfl rfl rfl
  · refine x_aload_n dX11_send_21 x_get_4_0 ?_
    refine x_callV (As := []) dX11_send_22 w_11_190 (c11_refuse hl hq) (by assumption) (by assumption) rfl rfl (Nat.le_of_ble_eq_true rfl) (Nat.le_of_ble_eq_true rfl) (Nat.le_of_ble_eq_true rfl) (Nat.le_of_ble_eq_true rfl) (Nat.le_of_ble_eq_true rfl) ?_
    intro d hd
    obtain rfl := Eq.symm hd
    exact x_iret dX11_send_25 rfl (Nat.le_of_ble_eq_true rfl) (Nat.le_of_ble_eq_true rfl) rfl rfl rfl rfl rfl
theorem c11_sendT {X : xC} {l : Launch} (hl : l.stackTraces = false) {N : Nat} {sh : xS} {D : xM} {la lb T C W : Nat} {G : Ldt} (hq : cq N sh D la lb T C W G) {c w : Int} (hcr : x_r c) (hwr : x_r w) (h : ¬ ((0 ≤ c ∧ c < C) ∧ (0 ≤ w ∧ w < W))) : x_M X l yX11_send cX11_send 4 (some .int) 7 1 6 [.ref (x_b X + 0), .int (xI c), .int (xI w)] false N sh D (.inr x_NSE) false N sh (sc la D) := by
  obtain ⟨hX, hG, hR, ⟨hk, hd9, hpl⟩, hco⟩ := id hq
  obtain ⟨hN, x0, x1, x2, xla, xlb, x33, x35, x37, x39, x43, x45, x47, x51, x60, x61, hll⟩ := id hX
  have hla : la = 3 ∨ la = 18 := by omega
  have n0 : 0 < N := by omega
  have n1 : 1 < N := by omega
  have n2 : 2 < N := by omega
  have n33 : 33 < N := by omega
  have n34 : 34 < N := by omega
  have n35 : 35 < N := by omega
  have n36 : 36 < N := by omega
  have n37 : 37 < N := by omega
  have n38 : 38 < N := by omega
  have n39 : 39 < N := by omega
  have n40 : 40 < N := by omega
  have n41 : 41 < N := by omega
  have n42 : 42 < N := by omega
  have n43 : 43 < N := by omega
  have n45 : 45 < N := by omega
  have n47 : 47 < N := by omega
  have n51 : 51 < N := by omega
  have n60 : 60 < N := by omega
  have n61 : 61 < N := by omega
  have x33a := x33.2.1
  have x34 := x33.2.2.2
  have x35a := x35.2.1
  have x36 := x35.2.2.2
  have x37a := x37.2.1
  have x38 := x37.2.2.2
  have x39a := x39.2.1
  have x43a := x43.2.1
  have x45a := x45.2.1
  have x47a := x47.2.1
  have x51a := x51.2.1
  have xla0 := xla.2.1
  have xla1 := xla.2.2.1
  have xla2 := xla.2.2.2.1
  have hlaN : la < N := by have := xla.1; omega
  have hlaN1 : la + 1 < N := by have := xla.1; omega
  have hlaN2 : la + 2 < N := by have := xla.1; omega
  have hlaN3 : la + 3 < N := by have := xla.1; omega
  have hlaN10 : la + 10 < N := by have := xla.1; omega
  have xru := (is_L_ru xla).2.1
  have xro := (is_L_ro xla).2.1
  obtain ⟨hG1, hG2, hG3⟩ := ldG_G hG
  obtain ⟨n0', ⟨gT, gTb, gC, gCb, -⟩, -⟩ := id hG
  obtain ⟨rW, rWb, rT, -, ro1, ro2, ro3, ro4, ro5, ro6⟩ := id hR
  have hd0 : 0 ≤ D 34 0 := ((hk 0).1 rfl).1
  have hB : 161 * D 34 0 ≤ 160839 := by omega
  have hsc := sc_refl hG hco
  by_cases hc : 0 ≤ c ∧ c < C
  · obtain ⟨hc0, hc1⟩ := id hc
    have hw : ¬ (0 ≤ w ∧ w < W) := fun hh => h ⟨hc, hh⟩
    refine x_ofW (by decide +kernel) hl (by simp [Value.category]) (by simp) ?_
    refine x_aload_n dX11_send_0 x_get_4_0 ?_
    refine x_iload_n dX11_send_1 x_get_4_1 ?_
    refine x_callV (As := [_]) dX11_send_2 w_11_185 (c11_nCrate hl hq hc0 hc1) (by assumption) (by assumption) rfl rfl (Nat.le_of_ble_eq_true rfl) (Nat.le_of_ble_eq_true rfl) (Nat.le_of_ble_eq_true rfl) (Nat.le_of_ble_eq_true rfl) (Nat.le_of_ble_eq_true rfl) ?_
    intro d hd
    obtain rfl := Eq.symm hd
    refine x_aload_n dX11_send_5 x_get_4_0 ?_
    refine x_iload_n dX11_send_6 x_get_4_2 ?_
    exact x_callVT (As := [_]) dX11_send_7 w_11_201 (c11_nWayT hl hq hwr hw) (by assumption) (by assumption) rfl rfl (Nat.le_of_ble_eq_true rfl) (Nat.le_of_ble_eq_true rfl) (Nat.le_of_ble_eq_true rfl) (Nat.le_of_ble_eq_true rfl) (Nat.le_of_ble_eq_true rfl) rfl rfl rfl rfl (fun d hd => by obtain rfl := Eq.symm hd; exact hsc) rfl (Nat.le_of_ble_eq_true rfl) (Nat.le_of_ble_eq_true rfl)
  · refine x_ofW (by decide +kernel) hl (by simp [Value.category]) (by simp) ?_
    refine x_aload_n dX11_send_0 x_get_4_0 ?_
    refine x_iload_n dX11_send_1 x_get_4_1 ?_
    exact x_callVT (As := [_]) dX11_send_2 w_11_185 (c11_nCrateT hl hq hcr hc) (by assumption) (by assumption) rfl rfl (Nat.le_of_ble_eq_true rfl) (Nat.le_of_ble_eq_true rfl) (Nat.le_of_ble_eq_true rfl) (Nat.le_of_ble_eq_true rfl) (Nat.le_of_ble_eq_true rfl) rfl rfl rfl rfl (fun d hd => by obtain rfl := Eq.symm hd; exact hsc) rfl (Nat.le_of_ble_eq_true rfl) (Nat.le_of_ble_eq_true rfl)
theorem c11_open {X : xC} {l : Launch} (hl : l.stackTraces = false) {N : Nat} {sh : xS} {D : xM} {la lb T C W : Nat} {G : Ldt} (hq : cq N sh D la lb T C W G) {L : List (Int → Int)} (hA : acts D 37 38 L) {c : Int} (hc0 : 0 ≤ c) (hc1 : c < C) (hli : s_lies (D 34) c) : x_M X l yX11_open cX11_open 2 (some .int) 7 1 6 [.ref (x_b X + 0), .int (xI c)] false N sh D (o_i (D 34 (25 + c))) false N sh (fun d => d 34 = s_opn (D 34) c ∧ acts d 37 38 (l_keep L (D 34)) ∧ ac la D d) := by
  obtain ⟨hX, hG, hR, ⟨hk, hd9, hpl⟩, hco⟩ := id hq
  obtain ⟨hN, x0, x1, x2, xla, xlb, x33, x35, x37, x39, x43, x45, x47, x51, x60, x61, hll⟩ := id hX
  have hla : la = 3 ∨ la = 18 := by omega
  have n0 : 0 < N := by omega
  have n1 : 1 < N := by omega
  have n2 : 2 < N := by omega
  have n33 : 33 < N := by omega
  have n34 : 34 < N := by omega
  have n35 : 35 < N := by omega
  have n36 : 36 < N := by omega
  have n37 : 37 < N := by omega
  have n38 : 38 < N := by omega
  have n39 : 39 < N := by omega
  have n40 : 40 < N := by omega
  have n41 : 41 < N := by omega
  have n42 : 42 < N := by omega
  have n43 : 43 < N := by omega
  have n45 : 45 < N := by omega
  have n47 : 47 < N := by omega
  have n51 : 51 < N := by omega
  have n60 : 60 < N := by omega
  have n61 : 61 < N := by omega
  have x33a := x33.2.1
  have x34 := x33.2.2.2
  have x35a := x35.2.1
  have x36 := x35.2.2.2
  have x37a := x37.2.1
  have x38 := x37.2.2.2
  have x39a := x39.2.1
  have x43a := x43.2.1
  have x45a := x45.2.1
  have x47a := x47.2.1
  have x51a := x51.2.1
  have xla0 := xla.2.1
  have xla1 := xla.2.2.1
  have xla2 := xla.2.2.2.1
  have hlaN : la < N := by have := xla.1; omega
  have hlaN1 : la + 1 < N := by have := xla.1; omega
  have hlaN2 : la + 2 < N := by have := xla.1; omega
  have hlaN3 : la + 3 < N := by have := xla.1; omega
  have hlaN10 : la + 10 < N := by have := xla.1; omega
  have xru := (is_L_ru xla).2.1
  have xro := (is_L_ro xla).2.1
  obtain ⟨hG1, hG2, hG3⟩ := ldG_G hG
  obtain ⟨n0', ⟨gT, gTb, gC, gCb, -⟩, -⟩ := id hG
  obtain ⟨rW, rWb, rT, -, ro1, ro2, ro3, ro4, ro5, ro6⟩ := id hR
  have hd0 : 0 ≤ D 34 0 := ((hk 0).1 rfl).1
  have hB : 161 * D 34 0 ≤ 160839 := by omega
  have hsc := sc_refl hG hco
  have hcr := s_cr hk (c := c) hc0 (by omega)
  have hp0 : 0 ≤ D 34 (55 + c) := by have := hli.1; omega
  refine x_ofW (by decide +kernel) hl (by simp [Value.category]) (by simp) ?_
  refine x_aload_n dX11_open_0 x_get_2_0 ?_
  refine x_iload_n dX11_open_1 x_get_2_1 ?_
  refine x_callV (As := [_]) dX11_open_2 w_11_185 (c11_nCrate hl hq hc0 hc1) (by assumption) (by assumption) rfl rfl (Nat.le_of_ble_eq_true rfl) (Nat.le_of_ble_eq_true rfl) (Nat.le_of_ble_eq_true rfl) (Nat.le_of_ble_eq_true rfl) (Nat.le_of_ble_eq_true rfl) ?_
  intro d hd
  obtain rfl := Eq.symm hd
  refine x_aload_n dX11_open_5 x_get_2_0 ?_
  refine x_getR dX11_open_6 fX_11_30 (by assumption) (by assumption) (by rfl) ?_
  refine x_iload_n dX11_open_9 x_get_2_1 ?_
  refine x_callV (As := [_]) dX11_open_10 w_11_204 (c9_lies hl x33 (B := 161 * D 34 0) (by omega) hk (c := c) hc0 (by omega)) (by assumption) (by assumption) rfl rfl (Nat.le_of_ble_eq_true rfl) (Nat.le_of_ble_eq_true rfl) (Nat.le_of_ble_eq_true rfl) (Nat.le_of_ble_eq_true rfl) (Nat.le_of_ble_eq_true rfl) ?_
  intro d hd
  obtain rfl := Eq.symm hd
  refine b_ifne (t := 21) dX11_open_13 rfl (fun hc13 => ?_) (fun hc13 => absurd hc13 (fun h => h hli))
  refine x_aload_n dX11_open_21 x_get_2_0 ?_
  refine x_getR dX11_open_22 fX_11_40 (by assumption) (by assumption) (by rfl) ?_
  refine x_aload_n dX11_open_25 x_get_2_0 ?_
  refine x_getR dX11_open_26 fX_11_30 (by assumption) (by assumption) (by rfl) ?_
  refine x_callV (As := [_]) dX11_open_29 w_11_194 (c0_keep hl x37 x33 hA ⟨by decide, by decide, by decide, by decide⟩) (by assumption) (by assumption) rfl rfl (Nat.le_of_ble_eq_true rfl) (Nat.le_of_ble_eq_true rfl) (Nat.le_of_ble_eq_true rfl) (Nat.le_of_ble_eq_true rfl) (Nat.le_of_ble_eq_true rfl) ?_
  rintro d1 ⟨ha1, hf1⟩
  have e34 : d1 34 = D 34 := hf1 34 (by decide) (by decide)
  have hw1 : ∀ j, x_r (d1 (la + 12) j) := by
    intro j
    rw [hf1 (la + 12) (by omega) (by omega)]
    exact ldG_w hG j
  refine x_aload_n dX11_open_32 x_get_2_0 ?_
  refine x_getR dX11_open_33 fX_11_30 (by assumption) (by assumption) (by rfl) ?_
  refine x_iload_n dX11_open_36 x_get_2_1 ?_
  refine x_callV (As := [_]) dX11_open_37 w_11_217 (c9_unpack hl x33 (B := 161 * D 34 0) (by omega) (by rw [e34]; exact hk) hc0 (by omega) (by rw [e34]; exact hp0)) (by assumption) (by assumption) rfl rfl (Nat.le_of_ble_eq_true rfl) (Nat.le_of_ble_eq_true rfl) (Nat.le_of_ble_eq_true rfl) (Nat.le_of_ble_eq_true rfl) (Nat.le_of_ble_eq_true rfl) ?_
  rintro d2 hd2
  have e2 : d2 34 = s_opn (D 34) c := by rw [hd2, x_up_s, e34]
  rw [e34]
  exact x_iret dX11_open_40 rfl (Nat.le_of_ble_eq_true rfl) (Nat.le_of_ble_eq_true rfl) rfl rfl rfl ⟨e2, acts_same ha1 (by rw [hd2]; simp (disch := omega) only [x_up_n]) (by rw [hd2]; simp (disch := omega) only [x_up_n]), fun j a b c e => by rw [hd2]; simp (disch := omega) only [x_up_n]; exact hf1 j b c, fun j => by rw [hd2]; simp (disch := omega) only [x_up_n]; exact hw1 j⟩ rfl
theorem c11_openR {X : xC} {l : Launch} (hl : l.stackTraces = false) {N : Nat} {sh : xS} {D : xM} {la lb T C W : Nat} {G : Ldt} (hq : cq N sh D la lb T C W G) {c : Int} (hc0 : 0 ≤ c) (hc1 : c < C) (hli : ¬ s_lies (D 34) c) : x_M X l yX11_open cX11_open 2 (some .int) 7 1 6 [.ref (x_b X + 0), .int (xI c)] false N sh D (o_i (-1)) false N sh (x_is (x_up D 61 (x_u1 (D 61) 1 (D 61 1 + 1)))) := by
  obtain ⟨hX, hG, hR, ⟨hk, hd9, hpl⟩, hco⟩ := id hq
  obtain ⟨hN, x0, x1, x2, xla, xlb, x33, x35, x37, x39, x43, x45, x47, x51, x60, x61, hll⟩ := id hX
  have hla : la = 3 ∨ la = 18 := by omega
  have n0 : 0 < N := by omega
  have n1 : 1 < N := by omega
  have n2 : 2 < N := by omega
  have n33 : 33 < N := by omega
  have n34 : 34 < N := by omega
  have n35 : 35 < N := by omega
  have n36 : 36 < N := by omega
  have n37 : 37 < N := by omega
  have n38 : 38 < N := by omega
  have n39 : 39 < N := by omega
  have n40 : 40 < N := by omega
  have n41 : 41 < N := by omega
  have n42 : 42 < N := by omega
  have n43 : 43 < N := by omega
  have n45 : 45 < N := by omega
  have n47 : 47 < N := by omega
  have n51 : 51 < N := by omega
  have n60 : 60 < N := by omega
  have n61 : 61 < N := by omega
  have x33a := x33.2.1
  have x34 := x33.2.2.2
  have x35a := x35.2.1
  have x36 := x35.2.2.2
  have x37a := x37.2.1
  have x38 := x37.2.2.2
  have x39a := x39.2.1
  have x43a := x43.2.1
  have x45a := x45.2.1
  have x47a := x47.2.1
  have x51a := x51.2.1
  have xla0 := xla.2.1
  have xla1 := xla.2.2.1
  have xla2 := xla.2.2.2.1
  have hlaN : la < N := by have := xla.1; omega
  have hlaN1 : la + 1 < N := by have := xla.1; omega
  have hlaN2 : la + 2 < N := by have := xla.1; omega
  have hlaN3 : la + 3 < N := by have := xla.1; omega
  have hlaN10 : la + 10 < N := by have := xla.1; omega
  have xru := (is_L_ru xla).2.1
  have xro := (is_L_ro xla).2.1
  obtain ⟨hG1, hG2, hG3⟩ := ldG_G hG
  obtain ⟨n0', ⟨gT, gTb, gC, gCb, -⟩, -⟩ := id hG
  obtain ⟨rW, rWb, rT, -, ro1, ro2, ro3, ro4, ro5, ro6⟩ := id hR
  have hd0 : 0 ≤ D 34 0 := ((hk 0).1 rfl).1
  have hB : 161 * D 34 0 ≤ 160839 := by omega
  have hsc := sc_refl hG hco
  refine x_ofW (by decide +kernel) hl (by simp [Value.category]) (by simp) ?_
  refine x_aload_n dX11_open_0 x_get_2_0 ?_
  refine x_iload_n dX11_open_1 x_get_2_1 ?_
  refine x_callV (As := [_]) dX11_open_2 w_11_185 (c11_nCrate hl hq hc0 hc1) (by assumption) (by assumption) rfl rfl (Nat.le_of_ble_eq_true rfl) (Nat.le_of_ble_eq_true rfl) (Nat.le_of_ble_eq_true rfl) (Nat.le_of_ble_eq_true rfl) (Nat.le_of_ble_eq_true rfl) ?_
  intro d hd
  obtain rfl := Eq.symm hd
  refine x_aload_n dX11_open_5 x_get_2_0 ?_
  refine x_getR dX11_open_6 fX_11_30 (by assumption) (by assumption) (by rfl) ?_
  refine x_iload_n dX11_open_9 x_get_2_1 ?_
  refine x_callV (As := [_]) dX11_open_10 w_11_204 (c9_lies hl x33 (B := 161 * D 34 0) (by omega) hk (c := c) hc0 (by omega)) (by assumption) (by assumption) rfl rfl (Nat.le_of_ble_eq_true rfl) (Nat.le_of_ble_eq_true rfl) (Nat.le_of_ble_eq_true rfl) (Nat.le_of_ble_eq_true rfl) (Nat.le_of_ble_eq_true rfl) ?_
  intro d hd
  obtain rfl := Eq.symm hd
  refine b_ifne (t := 21) dX11_open_13 rfl (fun hc13 => absurd hc13 (hli)) (fun hc13 => ?_)
  refine x_aload_n dX11_open_16 x_get_2_0 ?_
  refine x_callV (As := []) dX11_open_17 w_11_190 (c11_refuse hl hq) (by assumption) (by assumption) rfl rfl (Nat.le_of_ble_eq_true rfl) (Nat.le_of_ble_eq_true rfl) (Nat.le_of_ble_eq_true rfl) (Nat.le_of_ble_eq_true rfl) (Nat.le_of_ble_eq_true rfl) ?_
  intro d hd
  obtain rfl := Eq.symm hd
  exact x_iret dX11_open_20 rfl (Nat.le_of_ble_eq_true rfl) (Nat.le_of_ble_eq_true rfl) rfl rfl rfl rfl rfl
theorem c11_openT {X : xC} {l : Launch} (hl : l.stackTraces = false) {N : Nat} {sh : xS} {D : xM} {la lb T C W : Nat} {G : Ldt} (hq : cq N sh D la lb T C W G) {c : Int} (hcr : x_r c) (hc : ¬ (0 ≤ c ∧ c < C)) : x_M X l yX11_open cX11_open 2 (some .int) 7 1 6 [.ref (x_b X + 0), .int (xI c)] false N sh D (.inr x_NSE) false N sh (sc la D) := by
  obtain ⟨hX, hG, hR, ⟨hk, hd9, hpl⟩, hco⟩ := id hq
  obtain ⟨hN, x0, x1, x2, xla, xlb, x33, x35, x37, x39, x43, x45, x47, x51, x60, x61, hll⟩ := id hX
  have hla : la = 3 ∨ la = 18 := by omega
  have n0 : 0 < N := by omega
  have n1 : 1 < N := by omega
  have n2 : 2 < N := by omega
  have n33 : 33 < N := by omega
  have n34 : 34 < N := by omega
  have n35 : 35 < N := by omega
  have n36 : 36 < N := by omega
  have n37 : 37 < N := by omega
  have n38 : 38 < N := by omega
  have n39 : 39 < N := by omega
  have n40 : 40 < N := by omega
  have n41 : 41 < N := by omega
  have n42 : 42 < N := by omega
  have n43 : 43 < N := by omega
  have n45 : 45 < N := by omega
  have n47 : 47 < N := by omega
  have n51 : 51 < N := by omega
  have n60 : 60 < N := by omega
  have n61 : 61 < N := by omega
  have x33a := x33.2.1
  have x34 := x33.2.2.2
  have x35a := x35.2.1
  have x36 := x35.2.2.2
  have x37a := x37.2.1
  have x38 := x37.2.2.2
  have x39a := x39.2.1
  have x43a := x43.2.1
  have x45a := x45.2.1
  have x47a := x47.2.1
  have x51a := x51.2.1
  have xla0 := xla.2.1
  have xla1 := xla.2.2.1
  have xla2 := xla.2.2.2.1
  have hlaN : la < N := by have := xla.1; omega
  have hlaN1 : la + 1 < N := by have := xla.1; omega
  have hlaN2 : la + 2 < N := by have := xla.1; omega
  have hlaN3 : la + 3 < N := by have := xla.1; omega
  have hlaN10 : la + 10 < N := by have := xla.1; omega
  have xru := (is_L_ru xla).2.1
  have xro := (is_L_ro xla).2.1
  obtain ⟨hG1, hG2, hG3⟩ := ldG_G hG
  obtain ⟨n0', ⟨gT, gTb, gC, gCb, -⟩, -⟩ := id hG
  obtain ⟨rW, rWb, rT, -, ro1, ro2, ro3, ro4, ro5, ro6⟩ := id hR
  have hd0 : 0 ≤ D 34 0 := ((hk 0).1 rfl).1
  have hB : 161 * D 34 0 ≤ 160839 := by omega
  have hsc := sc_refl hG hco
  refine x_ofW (by decide +kernel) hl (by simp [Value.category]) (by simp) ?_
  refine x_aload_n dX11_open_0 x_get_2_0 ?_
  refine x_iload_n dX11_open_1 x_get_2_1 ?_
  exact x_callVT (As := [_]) dX11_open_2 w_11_185 (c11_nCrateT hl hq hcr hc) (by assumption) (by assumption) rfl rfl (Nat.le_of_ble_eq_true rfl) (Nat.le_of_ble_eq_true rfl) (Nat.le_of_ble_eq_true rfl) (Nat.le_of_ble_eq_true rfl) (Nat.le_of_ble_eq_true rfl) rfl rfl rfl rfl (fun d hd => by obtain rfl := Eq.symm hd; exact hsc) rfl (Nat.le_of_ble_eq_true rfl) (Nat.le_of_ble_eq_true rfl)
theorem c11_catT {X : xC} {l : Launch} (hl : l.stackTraces = false) {N : Nat} {sh : xS} {D : xM} {la lb T C W : Nat} {G : Ldt} (hq : cq N sh D la lb T C W G) {c : Int} {b : Int} (hcr : x_r c) (hc : ¬ (0 ≤ c ∧ c < C)) : x_M X l yX11_cat cX11_cat 4 (some .boolean) 7 1 6 [.ref (x_b X + 0), .int (xI c), .int (xI b)] false N sh D (.inr x_NSE) false N sh (sc la D) := by
  obtain ⟨hX, hG, hR, ⟨hk, hd9, hpl⟩, hco⟩ := id hq
  obtain ⟨hN, x0, x1, x2, xla, xlb, x33, x35, x37, x39, x43, x45, x47, x51, x60, x61, hll⟩ := id hX
  have hla : la = 3 ∨ la = 18 := by omega
  have n0 : 0 < N := by omega
  have n1 : 1 < N := by omega
  have n2 : 2 < N := by omega
  have n33 : 33 < N := by omega
  have n34 : 34 < N := by omega
  have n35 : 35 < N := by omega
  have n36 : 36 < N := by omega
  have n37 : 37 < N := by omega
  have n38 : 38 < N := by omega
  have n39 : 39 < N := by omega
  have n40 : 40 < N := by omega
  have n41 : 41 < N := by omega
  have n42 : 42 < N := by omega
  have n43 : 43 < N := by omega
  have n45 : 45 < N := by omega
  have n47 : 47 < N := by omega
  have n51 : 51 < N := by omega
  have n60 : 60 < N := by omega
  have n61 : 61 < N := by omega
  have x33a := x33.2.1
  have x34 := x33.2.2.2
  have x35a := x35.2.1
  have x36 := x35.2.2.2
  have x37a := x37.2.1
  have x38 := x37.2.2.2
  have x39a := x39.2.1
  have x43a := x43.2.1
  have x45a := x45.2.1
  have x47a := x47.2.1
  have x51a := x51.2.1
  have xla0 := xla.2.1
  have xla1 := xla.2.2.1
  have xla2 := xla.2.2.2.1
  have hlaN : la < N := by have := xla.1; omega
  have hlaN1 : la + 1 < N := by have := xla.1; omega
  have hlaN2 : la + 2 < N := by have := xla.1; omega
  have hlaN3 : la + 3 < N := by have := xla.1; omega
  have hlaN10 : la + 10 < N := by have := xla.1; omega
  have xru := (is_L_ru xla).2.1
  have xro := (is_L_ro xla).2.1
  obtain ⟨hG1, hG2, hG3⟩ := ldG_G hG
  obtain ⟨n0', ⟨gT, gTb, gC, gCb, -⟩, -⟩ := id hG
  obtain ⟨rW, rWb, rT, -, ro1, ro2, ro3, ro4, ro5, ro6⟩ := id hR
  have hd0 : 0 ≤ D 34 0 := ((hk 0).1 rfl).1
  have hB : 161 * D 34 0 ≤ 160839 := by omega
  have hsc := sc_refl hG hco
  refine x_ofW (by decide +kernel) hl (by simp [Value.category]) (by simp) ?_
  refine x_aload_n dX11_cat_0 x_get_4_0 ?_
  refine x_iload_n dX11_cat_1 x_get_4_1 ?_
  exact x_callVT (As := [_]) dX11_cat_2 w_11_185 (c11_nCrateT hl hq hcr hc) (by assumption) (by assumption) rfl rfl (Nat.le_of_ble_eq_true rfl) (Nat.le_of_ble_eq_true rfl) (Nat.le_of_ble_eq_true rfl) (Nat.le_of_ble_eq_true rfl) (Nat.le_of_ble_eq_true rfl) rfl rfl rfl rfl (fun d hd => by obtain rfl := Eq.symm hd; exact hsc) rfl (Nat.le_of_ble_eq_true rfl) (Nat.le_of_ble_eq_true rfl)
theorem c11_cat {X : xC} {l : Launch} (hl : l.stackTraces = false) {N : Nat} {sh : xS} {D : xM} {la lb T C W : Nat} {G : Ldt} (hq : cq N sh D la lb T C W G) {L : List (Int → Int)} (hA : acts D 37 38 L) {c : Int} (hc0 : 0 ≤ c) (hc1 : c < C) {b : Int} (hb : b = 0 ∨ b = 1) (hg : ¬ s_gone (D 34) c) (hne : ¬ D 34 (45 + c) = b) : x_M X l yX11_cat cX11_cat 4 (some .boolean) 7 1 6 [.ref (x_b X + 0), .int (xI c), .int (xI b)] false N sh D (o_i 1) false N sh (fun d => d 34 = x_u1 (D 34) (45 + c) b ∧ acts d 37 38 (l_keep L (D 34)) ∧ ac la D d) := by
  obtain ⟨hX, hG, hR, ⟨hk, hd9, hpl⟩, hco⟩ := id hq
  obtain ⟨hN, x0, x1, x2, xla, xlb, x33, x35, x37, x39, x43, x45, x47, x51, x60, x61, hll⟩ := id hX
  have hla : la = 3 ∨ la = 18 := by omega
  have n0 : 0 < N := by omega
  have n1 : 1 < N := by omega
  have n2 : 2 < N := by omega
  have n33 : 33 < N := by omega
  have n34 : 34 < N := by omega
  have n35 : 35 < N := by omega
  have n36 : 36 < N := by omega
  have n37 : 37 < N := by omega
  have n38 : 38 < N := by omega
  have n39 : 39 < N := by omega
  have n40 : 40 < N := by omega
  have n41 : 41 < N := by omega
  have n42 : 42 < N := by omega
  have n43 : 43 < N := by omega
  have n45 : 45 < N := by omega
  have n47 : 47 < N := by omega
  have n51 : 51 < N := by omega
  have n60 : 60 < N := by omega
  have n61 : 61 < N := by omega
  have x33a := x33.2.1
  have x34 := x33.2.2.2
  have x35a := x35.2.1
  have x36 := x35.2.2.2
  have x37a := x37.2.1
  have x38 := x37.2.2.2
  have x39a := x39.2.1
  have x43a := x43.2.1
  have x45a := x45.2.1
  have x47a := x47.2.1
  have x51a := x51.2.1
  have xla0 := xla.2.1
  have xla1 := xla.2.2.1
  have xla2 := xla.2.2.2.1
  have hlaN : la < N := by have := xla.1; omega
  have hlaN1 : la + 1 < N := by have := xla.1; omega
  have hlaN2 : la + 2 < N := by have := xla.1; omega
  have hlaN3 : la + 3 < N := by have := xla.1; omega
  have hlaN10 : la + 10 < N := by have := xla.1; omega
  have xru := (is_L_ru xla).2.1
  have xro := (is_L_ro xla).2.1
  obtain ⟨hG1, hG2, hG3⟩ := ldG_G hG
  obtain ⟨n0', ⟨gT, gTb, gC, gCb, -⟩, -⟩ := id hG
  obtain ⟨rW, rWb, rT, -, ro1, ro2, ro3, ro4, ro5, ro6⟩ := id hR
  have hd0 : 0 ≤ D 34 0 := ((hk 0).1 rfl).1
  have hB : 161 * D 34 0 ≤ 160839 := by omega
  have hsc := sc_refl hG hco
  have hcr := s_cr hk (c := c) hc0 (by omega)
  rcases hb with rfl | rfl
  · refine x_ofW (by decide +kernel) hl (by simp [Value.category]) (by simp) ?_
    refine x_aload_n dX11_cat_0 x_get_4_0 ?_
    refine x_iload_n dX11_cat_1 x_get_4_1 ?_
    refine x_callV (As := [_]) dX11_cat_2 w_11_185 (c11_nCrate hl hq hc0 hc1) (by assumption) (by assumption) rfl rfl (Nat.le_of_ble_eq_true rfl) (Nat.le_of_ble_eq_true rfl) (Nat.le_of_ble_eq_true rfl) (Nat.le_of_ble_eq_true rfl) (Nat.le_of_ble_eq_true rfl) ?_
    intro d hd
    obtain rfl := Eq.symm hd
    refine x_iload_n dX11_cat_5 x_get_4_2 ?_
    refine r_if_eq (t := 13) dX11_cat_6 rfl ⟨by omega, by omega⟩ (fun hc6 => ?_) (fun hc6 => absurd hc6 (by omega))
    refine x_iconst dX11_cat_13 ?_
    refine x_istore_n dX11_cat_14 (Nat.le_of_ble_eq_true rfl) rfl x_set_4_3 ?_
    refine x_aload_n dX11_cat_15 x_get_4_0 ?_
    refine x_getR dX11_cat_16 fX_11_30 (by assumption) (by assumption) (by rfl) ?_
    refine x_iload_n dX11_cat_19 x_get_4_1 ?_
    refine x_callV (As := [_]) dX11_cat_20 w_11_220 (c9_isGone hl x33 (B := 161 * D 34 0) (by omega) hk (c := c) hc0 (by omega)) (by assumption) (by assumption) rfl rfl (Nat.le_of_ble_eq_true rfl) (Nat.le_of_ble_eq_true rfl) (Nat.le_of_ble_eq_true rfl) (Nat.le_of_ble_eq_true rfl) (Nat.le_of_ble_eq_true rfl) ?_
    intro d hd
    obtain rfl := Eq.symm hd
    refine b_ifne (t := 42) dX11_cat_23 rfl (fun hc23 => absurd hc23 (hg)) (fun hc23 => ?_)
    refine x_aload_n dX11_cat_26 x_get_4_0 ?_
    refine x_getR dX11_cat_27 fX_11_30 (by assumption) (by assumption) (by rfl) ?_
    refine x_getR dX11_cat_30 fX_11_135 (by assumption) (by assumption) (by rfl) ?_
    refine x_bipush dX11_cat_33 rfl ?_
    refine x_iload_n dX11_cat_35 x_get_4_1 ?_
    refine x_iadd dX11_cat_36 ?_
    refine x_iald dX11_cat_37 (by assumption) (by assumption) (by omega) (by omega) (by decide) ?_
    refine x_iload_n dX11_cat_38 x_get_4_3 ?_
    refine r_icmp_ne (t := 54) dX11_cat_39 rfl ⟨by omega, by omega⟩ ⟨by omega, by omega⟩ (fun hc39 => ?_) (fun hc39 => absurd hc39 (by omega))
    refine x_aload_n dX11_cat_54 x_get_4_0 ?_
    refine x_getR dX11_cat_55 fX_11_40 (by assumption) (by assumption) (by rfl) ?_
    refine x_aload_n dX11_cat_58 x_get_4_0 ?_
    refine x_getR dX11_cat_59 fX_11_30 (by assumption) (by assumption) (by rfl) ?_
    refine x_callV (As := [_]) dX11_cat_62 w_11_194 (c0_keep hl x37 x33 hA ⟨by decide, by decide, by decide, by decide⟩) (by assumption) (by assumption) rfl rfl (Nat.le_of_ble_eq_true rfl) (Nat.le_of_ble_eq_true rfl) (Nat.le_of_ble_eq_true rfl) (Nat.le_of_ble_eq_true rfl) (Nat.le_of_ble_eq_true rfl) ?_
    rintro d1 ⟨ha1, hf1⟩
    have e34 : d1 34 = D 34 := hf1 34 (by decide) (by decide)
    have hw1 : ∀ j, x_r (d1 (la + 12) j) := by
      intro j
      rw [hf1 (la + 12) (by omega) (by omega)]
      exact ldG_w hG j
    refine x_aload_n dX11_cat_65 x_get_4_0 ?_
    refine x_getR dX11_cat_66 fX_11_30 (by assumption) (by assumption) (by rfl) ?_
    refine x_getR dX11_cat_69 fX_11_135 (by assumption) (by assumption) (by rfl) ?_
    refine x_bipush dX11_cat_72 rfl ?_
    refine x_iload_n dX11_cat_74 x_get_4_1 ?_
    refine x_iadd dX11_cat_75 ?_
    refine x_iload_n dX11_cat_76 x_get_4_3 ?_
    refine x_iast dX11_cat_77 (by assumption) (by assumption) (by omega) (by omega) (by decide) ?_
    rw [e34]
    generalize hd2 : x_up d1 34 _ = d2
    have e2 : d2 34 = x_u1 (D 34) (45 + c) 0 := by rw [← hd2, x_up_s]
    have hd2 := hd2.symm
    refine x_iconst dX11_cat_78 ?_
    exact x_zret dX11_cat_79 rfl (by omega) (Nat.le_of_ble_eq_true rfl) (Nat.le_of_ble_eq_true rfl) rfl rfl rfl ⟨e2, acts_same ha1 (by rw [hd2]; simp (disch := omega) only [x_up_n]) (by rw [hd2]; simp (disch := omega) only [x_up_n]), fun j a b c e => by rw [hd2]; simp (disch := omega) only [x_up_n]; exact hf1 j b c, fun j => by rw [hd2]; simp (disch := omega) only [x_up_n]; exact hw1 j⟩ rfl
  · refine x_ofW (by decide +kernel) hl (by simp [Value.category]) (by simp) ?_
    refine x_aload_n dX11_cat_0 x_get_4_0 ?_
    refine x_iload_n dX11_cat_1 x_get_4_1 ?_
    refine x_callV (As := [_]) dX11_cat_2 w_11_185 (c11_nCrate hl hq hc0 hc1) (by assumption) (by assumption) rfl rfl (Nat.le_of_ble_eq_true rfl) (Nat.le_of_ble_eq_true rfl) (Nat.le_of_ble_eq_true rfl) (Nat.le_of_ble_eq_true rfl) (Nat.le_of_ble_eq_true rfl) ?_
    intro d hd
    obtain rfl := Eq.symm hd
    refine x_iload_n dX11_cat_5 x_get_4_2 ?_
    refine r_if_eq (t := 13) dX11_cat_6 rfl ⟨by omega, by omega⟩ (fun hc6 => absurd hc6 (by omega)) (fun hc6 => ?_)
    refine x_iconst dX11_cat_9 ?_
    refine x_goto (t := 14) dX11_cat_10 rfl ?_
    refine x_istore_n dX11_cat_14 (Nat.le_of_ble_eq_true rfl) rfl x_set_4_3 ?_
    refine x_aload_n dX11_cat_15 x_get_4_0 ?_
    refine x_getR dX11_cat_16 fX_11_30 (by assumption) (by assumption) (by rfl) ?_
    refine x_iload_n dX11_cat_19 x_get_4_1 ?_
    refine x_callV (As := [_]) dX11_cat_20 w_11_220 (c9_isGone hl x33 (B := 161 * D 34 0) (by omega) hk (c := c) hc0 (by omega)) (by assumption) (by assumption) rfl rfl (Nat.le_of_ble_eq_true rfl) (Nat.le_of_ble_eq_true rfl) (Nat.le_of_ble_eq_true rfl) (Nat.le_of_ble_eq_true rfl) (Nat.le_of_ble_eq_true rfl) ?_
    intro d hd
    obtain rfl := Eq.symm hd
    refine b_ifne (t := 42) dX11_cat_23 rfl (fun hc23 => absurd hc23 (hg)) (fun hc23 => ?_)
    refine x_aload_n dX11_cat_26 x_get_4_0 ?_
    refine x_getR dX11_cat_27 fX_11_30 (by assumption) (by assumption) (by rfl) ?_
    refine x_getR dX11_cat_30 fX_11_135 (by assumption) (by assumption) (by rfl) ?_
    refine x_bipush dX11_cat_33 rfl ?_
    refine x_iload_n dX11_cat_35 x_get_4_1 ?_
    refine x_iadd dX11_cat_36 ?_
    refine x_iald dX11_cat_37 (by assumption) (by assumption) (by omega) (by omega) (by decide) ?_
    refine x_iload_n dX11_cat_38 x_get_4_3 ?_
    refine r_icmp_ne (t := 54) dX11_cat_39 rfl ⟨by omega, by omega⟩ ⟨by omega, by omega⟩ (fun hc39 => ?_) (fun hc39 => absurd hc39 (by omega))
    refine x_aload_n dX11_cat_54 x_get_4_0 ?_
    refine x_getR dX11_cat_55 fX_11_40 (by assumption) (by assumption) (by rfl) ?_
    refine x_aload_n dX11_cat_58 x_get_4_0 ?_
    refine x_getR dX11_cat_59 fX_11_30 (by assumption) (by assumption) (by rfl) ?_
    refine x_callV (As := [_]) dX11_cat_62 w_11_194 (c0_keep hl x37 x33 hA ⟨by decide, by decide, by decide, by decide⟩) (by assumption) (by assumption) rfl rfl (Nat.le_of_ble_eq_true rfl) (Nat.le_of_ble_eq_true rfl) (Nat.le_of_ble_eq_true rfl) (Nat.le_of_ble_eq_true rfl) (Nat.le_of_ble_eq_true rfl) ?_
    rintro d1 ⟨ha1, hf1⟩
    have e34 : d1 34 = D 34 := hf1 34 (by decide) (by decide)
    have hw1 : ∀ j, x_r (d1 (la + 12) j) := by
      intro j
      rw [hf1 (la + 12) (by omega) (by omega)]
      exact ldG_w hG j
    refine x_aload_n dX11_cat_65 x_get_4_0 ?_
    refine x_getR dX11_cat_66 fX_11_30 (by assumption) (by assumption) (by rfl) ?_
    refine x_getR dX11_cat_69 fX_11_135 (by assumption) (by assumption) (by rfl) ?_
    refine x_bipush dX11_cat_72 rfl ?_
    refine x_iload_n dX11_cat_74 x_get_4_1 ?_
    refine x_iadd dX11_cat_75 ?_
    refine x_iload_n dX11_cat_76 x_get_4_3 ?_
    refine x_iast dX11_cat_77 (by assumption) (by assumption) (by omega) (by omega) (by decide) ?_
    rw [e34]
    generalize hd2 : x_up d1 34 _ = d2
    have e2 : d2 34 = x_u1 (D 34) (45 + c) 1 := by rw [← hd2, x_up_s]
    have hd2 := hd2.symm
    refine x_iconst dX11_cat_78 ?_
    exact x_zret dX11_cat_79 rfl (by omega) (Nat.le_of_ble_eq_true rfl) (Nat.le_of_ble_eq_true rfl) rfl rfl rfl ⟨e2, acts_same ha1 (by rw [hd2]; simp (disch := omega) only [x_up_n]) (by rw [hd2]; simp (disch := omega) only [x_up_n]), fun j a b c e => by rw [hd2]; simp (disch := omega) only [x_up_n]; exact hf1 j b c, fun j => by rw [hd2]; simp (disch := omega) only [x_up_n]; exact hw1 j⟩ rfl
theorem c11_catR {X : xC} {l : Launch} (hl : l.stackTraces = false) {N : Nat} {sh : xS} {D : xM} {la lb T C W : Nat} {G : Ldt} (hq : cq N sh D la lb T C W G) {c : Int} (hc0 : 0 ≤ c) (hc1 : c < C) {b : Int} (hb : b = 0 ∨ b = 1) (h : ¬ (¬ s_gone (D 34) c ∧ ¬ D 34 (45 + c) = b)) : x_M X l yX11_cat cX11_cat 4 (some .boolean) 7 1 6 [.ref (x_b X + 0), .int (xI c), .int (xI b)] false N sh D (o_i 0) false N sh (x_is (x_up D 61 (x_u1 (D 61) 1 (D 61 1 + 1)))) := by
  obtain ⟨hX, hG, hR, ⟨hk, hd9, hpl⟩, hco⟩ := id hq
  obtain ⟨hN, x0, x1, x2, xla, xlb, x33, x35, x37, x39, x43, x45, x47, x51, x60, x61, hll⟩ := id hX
  have hla : la = 3 ∨ la = 18 := by omega
  have n0 : 0 < N := by omega
  have n1 : 1 < N := by omega
  have n2 : 2 < N := by omega
  have n33 : 33 < N := by omega
  have n34 : 34 < N := by omega
  have n35 : 35 < N := by omega
  have n36 : 36 < N := by omega
  have n37 : 37 < N := by omega
  have n38 : 38 < N := by omega
  have n39 : 39 < N := by omega
  have n40 : 40 < N := by omega
  have n41 : 41 < N := by omega
  have n42 : 42 < N := by omega
  have n43 : 43 < N := by omega
  have n45 : 45 < N := by omega
  have n47 : 47 < N := by omega
  have n51 : 51 < N := by omega
  have n60 : 60 < N := by omega
  have n61 : 61 < N := by omega
  have x33a := x33.2.1
  have x34 := x33.2.2.2
  have x35a := x35.2.1
  have x36 := x35.2.2.2
  have x37a := x37.2.1
  have x38 := x37.2.2.2
  have x39a := x39.2.1
  have x43a := x43.2.1
  have x45a := x45.2.1
  have x47a := x47.2.1
  have x51a := x51.2.1
  have xla0 := xla.2.1
  have xla1 := xla.2.2.1
  have xla2 := xla.2.2.2.1
  have hlaN : la < N := by have := xla.1; omega
  have hlaN1 : la + 1 < N := by have := xla.1; omega
  have hlaN2 : la + 2 < N := by have := xla.1; omega
  have hlaN3 : la + 3 < N := by have := xla.1; omega
  have hlaN10 : la + 10 < N := by have := xla.1; omega
  have xru := (is_L_ru xla).2.1
  have xro := (is_L_ro xla).2.1
  obtain ⟨hG1, hG2, hG3⟩ := ldG_G hG
  obtain ⟨n0', ⟨gT, gTb, gC, gCb, -⟩, -⟩ := id hG
  obtain ⟨rW, rWb, rT, -, ro1, ro2, ro3, ro4, ro5, ro6⟩ := id hR
  have hd0 : 0 ≤ D 34 0 := ((hk 0).1 rfl).1
  have hB : 161 * D 34 0 ≤ 160839 := by omega
  have hsc := sc_refl hG hco
  have hcr := s_cr hk (c := c) hc0 (by omega)
  rcases hb with rfl | rfl
  · refine x_ofW (by decide +kernel) hl (by simp [Value.category]) (by simp) ?_
    refine x_aload_n dX11_cat_0 x_get_4_0 ?_
    refine x_iload_n dX11_cat_1 x_get_4_1 ?_
    refine x_callV (As := [_]) dX11_cat_2 w_11_185 (c11_nCrate hl hq hc0 hc1) (by assumption) (by assumption) rfl rfl (Nat.le_of_ble_eq_true rfl) (Nat.le_of_ble_eq_true rfl) (Nat.le_of_ble_eq_true rfl) (Nat.le_of_ble_eq_true rfl) (Nat.le_of_ble_eq_true rfl) ?_
    intro d hd
    obtain rfl := Eq.symm hd
    refine x_iload_n dX11_cat_5 x_get_4_2 ?_
    refine r_if_eq (t := 13) dX11_cat_6 rfl ⟨by omega, by omega⟩ (fun hc6 => ?_) (fun hc6 => absurd hc6 (by omega))
    refine x_iconst dX11_cat_13 ?_
    refine x_istore_n dX11_cat_14 (Nat.le_of_ble_eq_true rfl) rfl x_set_4_3 ?_
    refine x_aload_n dX11_cat_15 x_get_4_0 ?_
    refine x_getR dX11_cat_16 fX_11_30 (by assumption) (by assumption) (by rfl) ?_
    refine x_iload_n dX11_cat_19 x_get_4_1 ?_
    refine x_callV (As := [_]) dX11_cat_20 w_11_220 (c9_isGone hl x33 (B := 161 * D 34 0) (by omega) hk (c := c) hc0 (by omega)) (by assumption) (by assumption) rfl rfl (Nat.le_of_ble_eq_true rfl) (Nat.le_of_ble_eq_true rfl) (Nat.le_of_ble_eq_true rfl) (Nat.le_of_ble_eq_true rfl) (Nat.le_of_ble_eq_true rfl) ?_
    intro d hd
    obtain rfl := Eq.symm hd
    refine b_ifne (t := 42) dX11_cat_23 rfl (fun hc23 => ?_) (fun hc23 => ?_)
    · refine x_aload_n dX11_cat_42 x_get_4_0 ?_
      refine x_getR dX11_cat_43 fX_11_78 (by assumption) (by assumption) (by rfl) ?_
      refine x_iconst dX11_cat_46 ?_
      refine x_dup2 dX11_cat_47 rfl rfl ?_
      refine x_iald dX11_cat_48 (by assumption) (by assumption) (by omega) (by omega) (by decide) ?_
      refine x_iconst dX11_cat_49 ?_
      refine x_iadd dX11_cat_50 ?_
      refine x_iast dX11_cat_51 (by assumption) (by assumption) (by omega) (by omega) (by decide) ?_
      refine x_iconst dX11_cat_52 ?_
      exact x_zret dX11_cat_53 rfl (by omega) (Nat.le_of_ble_eq_true rfl) (Nat.le_of_ble_eq_true rfl) rfl rfl rfl rfl rfl
    · refine x_aload_n dX11_cat_26 x_get_4_0 ?_
      refine x_getR dX11_cat_27 fX_11_30 (by assumption) (by assumption) (by rfl) ?_
      refine x_getR dX11_cat_30 fX_11_135 (by assumption) (by assumption) (by rfl) ?_
      refine x_bipush dX11_cat_33 rfl ?_
      refine x_iload_n dX11_cat_35 x_get_4_1 ?_
      refine x_iadd dX11_cat_36 ?_
      refine x_iald dX11_cat_37 (by assumption) (by assumption) (by omega) (by omega) (by decide) ?_
      refine x_iload_n dX11_cat_38 x_get_4_3 ?_
      refine r_icmp_ne (t := 54) dX11_cat_39 rfl ⟨by omega, by omega⟩ ⟨by omega, by omega⟩ (fun hc39 => absurd hc39 (fun h2 => h ⟨hc23, h2⟩)) (fun hc39 => ?_)
      refine x_aload_n dX11_cat_42 x_get_4_0 ?_
      refine x_getR dX11_cat_43 fX_11_78 (by assumption) (by assumption) (by rfl) ?_
      refine x_iconst dX11_cat_46 ?_
      refine x_dup2 dX11_cat_47 rfl rfl ?_
      refine x_iald dX11_cat_48 (by assumption) (by assumption) (by omega) (by omega) (by decide) ?_
      refine x_iconst dX11_cat_49 ?_
      refine x_iadd dX11_cat_50 ?_
      refine x_iast dX11_cat_51 (by assumption) (by assumption) (by omega) (by omega) (by decide) ?_
      refine x_iconst dX11_cat_52 ?_
      exact x_zret dX11_cat_53 rfl (by omega) (Nat.le_of_ble_eq_true rfl) (Nat.le_of_ble_eq_true rfl) rfl rfl rfl rfl rfl
  · refine x_ofW (by decide +kernel) hl (by simp [Value.category]) (by simp) ?_
    refine x_aload_n dX11_cat_0 x_get_4_0 ?_
    refine x_iload_n dX11_cat_1 x_get_4_1 ?_
    refine x_callV (As := [_]) dX11_cat_2 w_11_185 (c11_nCrate hl hq hc0 hc1) (by assumption) (by assumption) rfl rfl (Nat.le_of_ble_eq_true rfl) (Nat.le_of_ble_eq_true rfl) (Nat.le_of_ble_eq_true rfl) (Nat.le_of_ble_eq_true rfl) (Nat.le_of_ble_eq_true rfl) ?_
    intro d hd
    obtain rfl := Eq.symm hd
    refine x_iload_n dX11_cat_5 x_get_4_2 ?_
    refine r_if_eq (t := 13) dX11_cat_6 rfl ⟨by omega, by omega⟩ (fun hc6 => absurd hc6 (by omega)) (fun hc6 => ?_)
    refine x_iconst dX11_cat_9 ?_
    refine x_goto (t := 14) dX11_cat_10 rfl ?_
    refine x_istore_n dX11_cat_14 (Nat.le_of_ble_eq_true rfl) rfl x_set_4_3 ?_
    refine x_aload_n dX11_cat_15 x_get_4_0 ?_
    refine x_getR dX11_cat_16 fX_11_30 (by assumption) (by assumption) (by rfl) ?_
    refine x_iload_n dX11_cat_19 x_get_4_1 ?_
    refine x_callV (As := [_]) dX11_cat_20 w_11_220 (c9_isGone hl x33 (B := 161 * D 34 0) (by omega) hk (c := c) hc0 (by omega)) (by assumption) (by assumption) rfl rfl (Nat.le_of_ble_eq_true rfl) (Nat.le_of_ble_eq_true rfl) (Nat.le_of_ble_eq_true rfl) (Nat.le_of_ble_eq_true rfl) (Nat.le_of_ble_eq_true rfl) ?_
    intro d hd
    obtain rfl := Eq.symm hd
    refine b_ifne (t := 42) dX11_cat_23 rfl (fun hc23 => ?_) (fun hc23 => ?_)
    · refine x_aload_n dX11_cat_42 x_get_4_0 ?_
      refine x_getR dX11_cat_43 fX_11_78 (by assumption) (by assumption) (by rfl) ?_
      refine x_iconst dX11_cat_46 ?_
      refine x_dup2 dX11_cat_47 rfl rfl ?_
      refine x_iald dX11_cat_48 (by assumption) (by assumption) (by omega) (by omega) (by decide) ?_
      refine x_iconst dX11_cat_49 ?_
      refine x_iadd dX11_cat_50 ?_
      refine x_iast dX11_cat_51 (by assumption) (by assumption) (by omega) (by omega) (by decide) ?_
      refine x_iconst dX11_cat_52 ?_
      exact x_zret dX11_cat_53 rfl (by omega) (Nat.le_of_ble_eq_true rfl) (Nat.le_of_ble_eq_true rfl) rfl rfl rfl rfl rfl
    · refine x_aload_n dX11_cat_26 x_get_4_0 ?_
      refine x_getR dX11_cat_27 fX_11_30 (by assumption) (by assumption) (by rfl) ?_
      refine x_getR dX11_cat_30 fX_11_135 (by assumption) (by assumption) (by rfl) ?_
      refine x_bipush dX11_cat_33 rfl ?_
      refine x_iload_n dX11_cat_35 x_get_4_1 ?_
      refine x_iadd dX11_cat_36 ?_
      refine x_iald dX11_cat_37 (by assumption) (by assumption) (by omega) (by omega) (by decide) ?_
      refine x_iload_n dX11_cat_38 x_get_4_3 ?_
      refine r_icmp_ne (t := 54) dX11_cat_39 rfl ⟨by omega, by omega⟩ ⟨by omega, by omega⟩ (fun hc39 => absurd hc39 (fun h2 => h ⟨hc23, h2⟩)) (fun hc39 => ?_)
      refine x_aload_n dX11_cat_42 x_get_4_0 ?_
      refine x_getR dX11_cat_43 fX_11_78 (by assumption) (by assumption) (by rfl) ?_
      refine x_iconst dX11_cat_46 ?_
      refine x_dup2 dX11_cat_47 rfl rfl ?_
      refine x_iald dX11_cat_48 (by assumption) (by assumption) (by omega) (by omega) (by decide) ?_
      refine x_iconst dX11_cat_49 ?_
      refine x_iadd dX11_cat_50 ?_
      refine x_iast dX11_cat_51 (by assumption) (by assumption) (by omega) (by omega) (by decide) ?_
      refine x_iconst dX11_cat_52 ?_
      exact x_zret dX11_cat_53 rfl (by omega) (Nat.le_of_ble_eq_true rfl) (Nat.le_of_ble_eq_true rfl) rfl rfl rfl rfl rfl
theorem c11_mix {X : xC} {l : Launch} (hl : l.stackTraces = false) {N : Nat} {sh : xS} {D : xM} {la lb T C W : Nat} {G : Ldt} (hq : cq N sh D la lb T C W G) {L : List (Int → Int)} (hA : acts D 37 38 L) {c e : Int} (hc0 : 0 ≤ c) (hc1 : c < C) (he0 : 0 ≤ e) (he1 : e < C) (hne : ¬ c = e) (hl1 : s_lies (D 34) c) (hl2 : s_lies (D 34) e) (hpe : D 34 (55 + c) = D 34 (55 + e)) : x_M X l yX11_mix cX11_mix 3 (some .int) 7 1 6 [.ref (x_b X + 0), .int (xI c), .int (xI e)] false N sh D (o_i (s_pour (D 34) c e (25 + c))) false N sh (fun d => d 34 = s_pour (D 34) c e ∧ acts d 37 38 (l_keep L (D 34)) ∧ ac la D d) := by
  obtain ⟨hX, hG, hR, ⟨hk, hd9, hpl⟩, hco⟩ := id hq
  obtain ⟨hN, x0, x1, x2, xla, xlb, x33, x35, x37, x39, x43, x45, x47, x51, x60, x61, hll⟩ := id hX
  have hla : la = 3 ∨ la = 18 := by omega
  have n0 : 0 < N := by omega
  have n1 : 1 < N := by omega
  have n2 : 2 < N := by omega
  have n33 : 33 < N := by omega
  have n34 : 34 < N := by omega
  have n35 : 35 < N := by omega
  have n36 : 36 < N := by omega
  have n37 : 37 < N := by omega
  have n38 : 38 < N := by omega
  have n39 : 39 < N := by omega
  have n40 : 40 < N := by omega
  have n41 : 41 < N := by omega
  have n42 : 42 < N := by omega
  have n43 : 43 < N := by omega
  have n45 : 45 < N := by omega
  have n47 : 47 < N := by omega
  have n51 : 51 < N := by omega
  have n60 : 60 < N := by omega
  have n61 : 61 < N := by omega
  have x33a := x33.2.1
  have x34 := x33.2.2.2
  have x35a := x35.2.1
  have x36 := x35.2.2.2
  have x37a := x37.2.1
  have x38 := x37.2.2.2
  have x39a := x39.2.1
  have x43a := x43.2.1
  have x45a := x45.2.1
  have x47a := x47.2.1
  have x51a := x51.2.1
  have xla0 := xla.2.1
  have xla1 := xla.2.2.1
  have xla2 := xla.2.2.2.1
  have hlaN : la < N := by have := xla.1; omega
  have hlaN1 : la + 1 < N := by have := xla.1; omega
  have hlaN2 : la + 2 < N := by have := xla.1; omega
  have hlaN3 : la + 3 < N := by have := xla.1; omega
  have hlaN10 : la + 10 < N := by have := xla.1; omega
  have xru := (is_L_ru xla).2.1
  have xro := (is_L_ro xla).2.1
  obtain ⟨hG1, hG2, hG3⟩ := ldG_G hG
  obtain ⟨n0', ⟨gT, gTb, gC, gCb, -⟩, -⟩ := id hG
  obtain ⟨rW, rWb, rT, -, ro1, ro2, ro3, ro4, ro5, ro6⟩ := id hR
  have hd0 : 0 ≤ D 34 0 := ((hk 0).1 rfl).1
  have hB : 161 * D 34 0 ≤ 160839 := by omega
  have hsc := sc_refl hG hco
  have hcr := s_cr hk (c := c) hc0 (by omega)
  have her := s_cr hk (c := e) he0 (by omega)
  refine x_ofW (by decide +kernel) hl (by simp [Value.category]) (by simp) ?_
  refine x_aload_n dX11_mix_0 x_get_3_0 ?_
  refine x_iload_n dX11_mix_1 x_get_3_1 ?_
  refine x_callV (As := [_]) dX11_mix_2 w_11_185 (c11_nCrate hl hq hc0 hc1) (by assumption) (by assumption) rfl rfl (Nat.le_of_ble_eq_true rfl) (Nat.le_of_ble_eq_true rfl) (Nat.le_of_ble_eq_true rfl) (Nat.le_of_ble_eq_true rfl) (Nat.le_of_ble_eq_true rfl) ?_
  intro d hd
  obtain rfl := Eq.symm hd
  refine x_aload_n dX11_mix_5 x_get_3_0 ?_
  refine x_iload_n dX11_mix_6 x_get_3_2 ?_
  refine x_callV (As := [_]) dX11_mix_7 w_11_185 (c11_nCrate hl hq he0 he1) (by assumption) (by assumption) rfl rfl (Nat.le_of_ble_eq_true rfl) (Nat.le_of_ble_eq_true rfl) (Nat.le_of_ble_eq_true rfl) (Nat.le_of_ble_eq_true rfl) (Nat.le_of_ble_eq_true rfl) ?_
  intro d hd
  obtain rfl := Eq.symm hd
  refine x_iload_n dX11_mix_10 x_get_3_1 ?_
  refine x_iload_n dX11_mix_11 x_get_3_2 ?_
  refine r_icmp_eq (t := 64) dX11_mix_12 rfl ⟨by omega, by omega⟩ ⟨by omega, by omega⟩ (fun hc12 => absurd hc12 (by omega)) (fun hc12 => ?_)
  refine x_aload_n dX11_mix_15 x_get_3_0 ?_
  refine x_getR dX11_mix_16 fX_11_30 (by assumption) (by assumption) (by rfl) ?_
  refine x_iload_n dX11_mix_19 x_get_3_1 ?_
  refine x_callV (As := [_]) dX11_mix_20 w_11_204 (c9_lies hl x33 (B := 161 * D 34 0) (by omega) hk (c := c) hc0 (by omega)) (by assumption) (by assumption) rfl rfl (Nat.le_of_ble_eq_true rfl) (Nat.le_of_ble_eq_true rfl) (Nat.le_of_ble_eq_true rfl) (Nat.le_of_ble_eq_true rfl) (Nat.le_of_ble_eq_true rfl) ?_
  intro d hd
  obtain rfl := Eq.symm hd
  refine b_ifeq (t := 64) dX11_mix_23 rfl (fun hc23 => absurd hc23 (fun h => h hl1)) (fun hc23 => ?_)
  refine x_aload_n dX11_mix_26 x_get_3_0 ?_
  refine x_getR dX11_mix_27 fX_11_30 (by assumption) (by assumption) (by rfl) ?_
  refine x_iload_n dX11_mix_30 x_get_3_2 ?_
  refine x_callV (As := [_]) dX11_mix_31 w_11_204 (c9_lies hl x33 (B := 161 * D 34 0) (by omega) hk (c := e) he0 (by omega)) (by assumption) (by assumption) rfl rfl (Nat.le_of_ble_eq_true rfl) (Nat.le_of_ble_eq_true rfl) (Nat.le_of_ble_eq_true rfl) (Nat.le_of_ble_eq_true rfl) (Nat.le_of_ble_eq_true rfl) ?_
  intro d hd
  obtain rfl := Eq.symm hd
  refine b_ifeq (t := 64) dX11_mix_34 rfl (fun hc34 => absurd hc34 (fun h => h hl2)) (fun hc34 => ?_)
  refine x_aload_n dX11_mix_37 x_get_3_0 ?_
  refine x_getR dX11_mix_38 fX_11_30 (by assumption) (by assumption) (by rfl) ?_
  refine x_getR dX11_mix_41 fX_11_135 (by assumption) (by assumption) (by rfl) ?_
  refine x_bipush dX11_mix_44 rfl ?_
  refine x_iload_n dX11_mix_46 x_get_3_1 ?_
  refine x_iadd dX11_mix_47 ?_
  refine x_iald dX11_mix_48 (by assumption) (by assumption) (by omega) (by omega) (by decide) ?_
  refine x_aload_n dX11_mix_49 x_get_3_0 ?_
  refine x_getR dX11_mix_50 fX_11_30 (by assumption) (by assumption) (by rfl) ?_
  refine x_getR dX11_mix_53 fX_11_135 (by assumption) (by assumption) (by rfl) ?_
  refine x_bipush dX11_mix_56 rfl ?_
  refine x_iload_n dX11_mix_58 x_get_3_2 ?_
  refine x_iadd dX11_mix_59 ?_
  refine x_iald dX11_mix_60 (by assumption) (by assumption) (by omega) (by omega) (by decide) ?_
  refine r_icmp_eq (t := 69) dX11_mix_61 rfl ⟨by omega, by omega⟩ ⟨by omega, by omega⟩ (fun hc61 => ?_) (fun hc61 => absurd hc61 (by omega))
  refine x_aload_n dX11_mix_69 x_get_3_0 ?_
  refine x_getR dX11_mix_70 fX_11_40 (by assumption) (by assumption) (by rfl) ?_
  refine x_aload_n dX11_mix_73 x_get_3_0 ?_
  refine x_getR dX11_mix_74 fX_11_30 (by assumption) (by assumption) (by rfl) ?_
  refine x_callV (As := [_]) dX11_mix_77 w_11_194 (c0_keep hl x37 x33 hA ⟨by decide, by decide, by decide, by decide⟩) (by assumption) (by assumption) rfl rfl (Nat.le_of_ble_eq_true rfl) (Nat.le_of_ble_eq_true rfl) (Nat.le_of_ble_eq_true rfl) (Nat.le_of_ble_eq_true rfl) (Nat.le_of_ble_eq_true rfl) ?_
  rintro d1 ⟨ha1, hf1⟩
  have e34 : d1 34 = D 34 := hf1 34 (by decide) (by decide)
  have hw1 : ∀ j, x_r (d1 (la + 12) j) := by
    intro j
    rw [hf1 (la + 12) (by omega) (by omega)]
    exact ldG_w hG j
  refine x_aload_n dX11_mix_80 x_get_3_0 ?_
  refine x_getR dX11_mix_81 fX_11_30 (by assumption) (by assumption) (by rfl) ?_
  refine x_iload_n dX11_mix_84 x_get_3_1 ?_
  refine x_iload_n dX11_mix_85 x_get_3_2 ?_
  refine x_callV (As := [_, _]) dX11_mix_86 w_11_223 (c9_pour hl x33 (B := 161 * D 34 0) (by omega) (by rw [e34]; exact hk) hc0 (by omega) he0 (by omega) hne) (by assumption) (by assumption) rfl rfl (Nat.le_of_ble_eq_true rfl) (Nat.le_of_ble_eq_true rfl) (Nat.le_of_ble_eq_true rfl) (Nat.le_of_ble_eq_true rfl) (Nat.le_of_ble_eq_true rfl) ?_
  rintro d2 hd2
  have e2 : d2 34 = s_pour (D 34) c e := by rw [hd2, x_up_s, e34]
  refine x_aload_n dX11_mix_89 x_get_3_0 ?_
  refine x_getR dX11_mix_90 fX_11_30 (by assumption) (by assumption) (by rfl) ?_
  refine x_getR dX11_mix_93 fX_11_135 (by assumption) (by assumption) (by rfl) ?_
  refine x_bipush dX11_mix_96 rfl ?_
  refine x_iload_n dX11_mix_98 x_get_3_1 ?_
  refine x_iadd dX11_mix_99 ?_
  refine x_iald dX11_mix_100 (by assumption) (by assumption) (by omega) (by omega) (by decide) ?_
  rw [e2]
  exact x_iret dX11_mix_101 rfl (Nat.le_of_ble_eq_true rfl) (Nat.le_of_ble_eq_true rfl) rfl rfl rfl ⟨e2, acts_same ha1 (by rw [hd2]; simp (disch := omega) only [x_up_n]) (by rw [hd2]; simp (disch := omega) only [x_up_n]), fun j a b c e => by rw [hd2]; simp (disch := omega) only [x_up_n]; exact hf1 j b c, fun j => by rw [hd2]; simp (disch := omega) only [x_up_n]; exact hw1 j⟩ rfl
theorem c11_mixR {X : xC} {l : Launch} (hl : l.stackTraces = false) {N : Nat} {sh : xS} {D : xM} {la lb T C W : Nat} {G : Ldt} (hq : cq N sh D la lb T C W G) {c e : Int} (hc0 : 0 ≤ c) (hc1 : c < C) (he0 : 0 ≤ e) (he1 : e < C) (h : ¬ (¬ c = e ∧ s_lies (D 34) c ∧ s_lies (D 34) e ∧ D 34 (55 + c) = D 34 (55 + e))) : x_M X l yX11_mix cX11_mix 3 (some .int) 7 1 6 [.ref (x_b X + 0), .int (xI c), .int (xI e)] false N sh D (o_i (-1)) false N sh (x_is (x_up D 61 (x_u1 (D 61) 1 (D 61 1 + 1)))) := by
  obtain ⟨hX, hG, hR, ⟨hk, hd9, hpl⟩, hco⟩ := id hq
  obtain ⟨hN, x0, x1, x2, xla, xlb, x33, x35, x37, x39, x43, x45, x47, x51, x60, x61, hll⟩ := id hX
  have hla : la = 3 ∨ la = 18 := by omega
  have n0 : 0 < N := by omega
  have n1 : 1 < N := by omega
  have n2 : 2 < N := by omega
  have n33 : 33 < N := by omega
  have n34 : 34 < N := by omega
  have n35 : 35 < N := by omega
  have n36 : 36 < N := by omega
  have n37 : 37 < N := by omega
  have n38 : 38 < N := by omega
  have n39 : 39 < N := by omega
  have n40 : 40 < N := by omega
  have n41 : 41 < N := by omega
  have n42 : 42 < N := by omega
  have n43 : 43 < N := by omega
  have n45 : 45 < N := by omega
  have n47 : 47 < N := by omega
  have n51 : 51 < N := by omega
  have n60 : 60 < N := by omega
  have n61 : 61 < N := by omega
  have x33a := x33.2.1
  have x34 := x33.2.2.2
  have x35a := x35.2.1
  have x36 := x35.2.2.2
  have x37a := x37.2.1
  have x38 := x37.2.2.2
  have x39a := x39.2.1
  have x43a := x43.2.1
  have x45a := x45.2.1
  have x47a := x47.2.1
  have x51a := x51.2.1
  have xla0 := xla.2.1
  have xla1 := xla.2.2.1
  have xla2 := xla.2.2.2.1
  have hlaN : la < N := by have := xla.1; omega
  have hlaN1 : la + 1 < N := by have := xla.1; omega
  have hlaN2 : la + 2 < N := by have := xla.1; omega
  have hlaN3 : la + 3 < N := by have := xla.1; omega
  have hlaN10 : la + 10 < N := by have := xla.1; omega
  have xru := (is_L_ru xla).2.1
  have xro := (is_L_ro xla).2.1
  obtain ⟨hG1, hG2, hG3⟩ := ldG_G hG
  obtain ⟨n0', ⟨gT, gTb, gC, gCb, -⟩, -⟩ := id hG
  obtain ⟨rW, rWb, rT, -, ro1, ro2, ro3, ro4, ro5, ro6⟩ := id hR
  have hd0 : 0 ≤ D 34 0 := ((hk 0).1 rfl).1
  have hB : 161 * D 34 0 ≤ 160839 := by omega
  have hsc := sc_refl hG hco
  have hcr := s_cr hk (c := c) hc0 (by omega)
  have her := s_cr hk (c := e) he0 (by omega)
  refine x_ofW (by decide +kernel) hl (by simp [Value.category]) (by simp) ?_
  refine x_aload_n dX11_mix_0 x_get_3_0 ?_
  refine x_iload_n dX11_mix_1 x_get_3_1 ?_
  refine x_callV (As := [_]) dX11_mix_2 w_11_185 (c11_nCrate hl hq hc0 hc1) (by assumption) (by assumption) rfl rfl (Nat.le_of_ble_eq_true rfl) (Nat.le_of_ble_eq_true rfl) (Nat.le_of_ble_eq_true rfl) (Nat.le_of_ble_eq_true rfl) (Nat.le_of_ble_eq_true rfl) ?_
  intro d hd
  obtain rfl := Eq.symm hd
  refine x_aload_n dX11_mix_5 x_get_3_0 ?_
  refine x_iload_n dX11_mix_6 x_get_3_2 ?_
  refine x_callV (As := [_]) dX11_mix_7 w_11_185 (c11_nCrate hl hq he0 he1) (by assumption) (by assumption) rfl rfl (Nat.le_of_ble_eq_true rfl) (Nat.le_of_ble_eq_true rfl) (Nat.le_of_ble_eq_true rfl) (Nat.le_of_ble_eq_true rfl) (Nat.le_of_ble_eq_true rfl) ?_
  intro d hd
  obtain rfl := Eq.symm hd
  refine x_iload_n dX11_mix_10 x_get_3_1 ?_
  refine x_iload_n dX11_mix_11 x_get_3_2 ?_
  refine r_icmp_eq (t := 64) dX11_mix_12 rfl ⟨by omega, by omega⟩ ⟨by omega, by omega⟩ (fun hc12 => ?_) (fun hc12 => ?_)
  · refine x_aload_n dX11_mix_64 x_get_3_0 ?_
    refine x_callV (As := []) dX11_mix_65 w_11_190 (c11_refuse hl hq) (by assumption) (by assumption) rfl rfl (Nat.le_of_ble_eq_true rfl) (Nat.le_of_ble_eq_true rfl) (Nat.le_of_ble_eq_true rfl) (Nat.le_of_ble_eq_true rfl) (Nat.le_of_ble_eq_true rfl) ?_
    intro d hd
    obtain rfl := Eq.symm hd
    exact x_iret dX11_mix_68 rfl (Nat.le_of_ble_eq_true rfl) (Nat.le_of_ble_eq_true rfl) rfl rfl rfl rfl rfl
  · refine x_aload_n dX11_mix_15 x_get_3_0 ?_
    refine x_getR dX11_mix_16 fX_11_30 (by assumption) (by assumption) (by rfl) ?_
    refine x_iload_n dX11_mix_19 x_get_3_1 ?_
    refine x_callV (As := [_]) dX11_mix_20 w_11_204 (c9_lies hl x33 (B := 161 * D 34 0) (by omega) hk (c := c) hc0 (by omega)) (by assumption) (by assumption) rfl rfl (Nat.le_of_ble_eq_true rfl) (Nat.le_of_ble_eq_true rfl) (Nat.le_of_ble_eq_true rfl) (Nat.le_of_ble_eq_true rfl) (Nat.le_of_ble_eq_true rfl) ?_
    intro d hd
    obtain rfl := Eq.symm hd
    refine b_ifeq (t := 64) dX11_mix_23 rfl (fun hc23 => ?_) (fun hc23 => ?_)
    · refine x_aload_n dX11_mix_64 x_get_3_0 ?_
      refine x_callV (As := []) dX11_mix_65 w_11_190 (c11_refuse hl hq) (by assumption) (by assumption) rfl rfl (Nat.le_of_ble_eq_true rfl) (Nat.le_of_ble_eq_true rfl) (Nat.le_of_ble_eq_true rfl) (Nat.le_of_ble_eq_true rfl) (Nat.le_of_ble_eq_true rfl) ?_
      intro d hd
      obtain rfl := Eq.symm hd
      exact x_iret dX11_mix_68 rfl (Nat.le_of_ble_eq_true rfl) (Nat.le_of_ble_eq_true rfl) rfl rfl rfl rfl rfl
    · refine x_aload_n dX11_mix_26 x_get_3_0 ?_
      refine x_getR dX11_mix_27 fX_11_30 (by assumption) (by assumption) (by rfl) ?_
      refine x_iload_n dX11_mix_30 x_get_3_2 ?_
      refine x_callV (As := [_]) dX11_mix_31 w_11_204 (c9_lies hl x33 (B := 161 * D 34 0) (by omega) hk (c := e) he0 (by omega)) (by assumption) (by assumption) rfl rfl (Nat.le_of_ble_eq_true rfl) (Nat.le_of_ble_eq_true rfl) (Nat.le_of_ble_eq_true rfl) (Nat.le_of_ble_eq_true rfl) (Nat.le_of_ble_eq_true rfl) ?_
      intro d hd
      obtain rfl := Eq.symm hd
      refine b_ifeq (t := 64) dX11_mix_34 rfl (fun hc34 => ?_) (fun hc34 => ?_)
      · refine x_aload_n dX11_mix_64 x_get_3_0 ?_
        refine x_callV (As := []) dX11_mix_65 w_11_190 (c11_refuse hl hq) (by assumption) (by assumption) rfl rfl (Nat.le_of_ble_eq_true rfl) (Nat.le_of_ble_eq_true rfl) (Nat.le_of_ble_eq_true rfl) (Nat.le_of_ble_eq_true rfl) (Nat.le_of_ble_eq_true rfl) ?_
        intro d hd
        obtain rfl := Eq.symm hd
        exact x_iret dX11_mix_68 rfl (Nat.le_of_ble_eq_true rfl) (Nat.le_of_ble_eq_true rfl) rfl rfl rfl rfl rfl
      · refine x_aload_n dX11_mix_37 x_get_3_0 ?_
        refine x_getR dX11_mix_38 fX_11_30 (by assumption) (by assumption) (by rfl) ?_
        refine x_getR dX11_mix_41 fX_11_135 (by assumption) (by assumption) (by rfl) ?_
        refine x_bipush dX11_mix_44 rfl ?_
        refine x_iload_n dX11_mix_46 x_get_3_1 ?_
        refine x_iadd dX11_mix_47 ?_
        refine x_iald dX11_mix_48 (by assumption) (by assumption) (by omega) (by omega) (by decide) ?_
        refine x_aload_n dX11_mix_49 x_get_3_0 ?_
        refine x_getR dX11_mix_50 fX_11_30 (by assumption) (by assumption) (by rfl) ?_
        refine x_getR dX11_mix_53 fX_11_135 (by assumption) (by assumption) (by rfl) ?_
        refine x_bipush dX11_mix_56 rfl ?_
        refine x_iload_n dX11_mix_58 x_get_3_2 ?_
        refine x_iadd dX11_mix_59 ?_
        refine x_iald dX11_mix_60 (by assumption) (by assumption) (by omega) (by omega) (by decide) ?_
        refine r_icmp_eq (t := 69) dX11_mix_61 rfl ⟨by omega, by omega⟩ ⟨by omega, by omega⟩ (fun hc61 => absurd hc61 (fun h2 => h ⟨hc12, hc23, hc34, h2⟩)) (fun hc61 => ?_)
        refine x_aload_n dX11_mix_64 x_get_3_0 ?_
        refine x_callV (As := []) dX11_mix_65 w_11_190 (c11_refuse hl hq) (by assumption) (by assumption) rfl rfl (Nat.le_of_ble_eq_true rfl) (Nat.le_of_ble_eq_true rfl) (Nat.le_of_ble_eq_true rfl) (Nat.le_of_ble_eq_true rfl) (Nat.le_of_ble_eq_true rfl) ?_
        intro d hd
        obtain rfl := Eq.symm hd
        exact x_iret dX11_mix_68 rfl (Nat.le_of_ble_eq_true rfl) (Nat.le_of_ble_eq_true rfl) rfl rfl rfl rfl rfl
theorem c11_mixT {X : xC} {l : Launch} (hl : l.stackTraces = false) {N : Nat} {sh : xS} {D : xM} {la lb T C W : Nat} {G : Ldt} (hq : cq N sh D la lb T C W G) {c e : Int} (hcr : x_r c) (her : x_r e) (h : ¬ ((0 ≤ c ∧ c < C) ∧ (0 ≤ e ∧ e < C))) : x_M X l yX11_mix cX11_mix 3 (some .int) 7 1 6 [.ref (x_b X + 0), .int (xI c), .int (xI e)] false N sh D (.inr x_NSE) false N sh (sc la D) := by
  obtain ⟨hX, hG, hR, ⟨hk, hd9, hpl⟩, hco⟩ := id hq
  obtain ⟨hN, x0, x1, x2, xla, xlb, x33, x35, x37, x39, x43, x45, x47, x51, x60, x61, hll⟩ := id hX
  have hla : la = 3 ∨ la = 18 := by omega
  have n0 : 0 < N := by omega
  have n1 : 1 < N := by omega
  have n2 : 2 < N := by omega
  have n33 : 33 < N := by omega
  have n34 : 34 < N := by omega
  have n35 : 35 < N := by omega
  have n36 : 36 < N := by omega
  have n37 : 37 < N := by omega
  have n38 : 38 < N := by omega
  have n39 : 39 < N := by omega
  have n40 : 40 < N := by omega
  have n41 : 41 < N := by omega
  have n42 : 42 < N := by omega
  have n43 : 43 < N := by omega
  have n45 : 45 < N := by omega
  have n47 : 47 < N := by omega
  have n51 : 51 < N := by omega
  have n60 : 60 < N := by omega
  have n61 : 61 < N := by omega
  have x33a := x33.2.1
  have x34 := x33.2.2.2
  have x35a := x35.2.1
  have x36 := x35.2.2.2
  have x37a := x37.2.1
  have x38 := x37.2.2.2
  have x39a := x39.2.1
  have x43a := x43.2.1
  have x45a := x45.2.1
  have x47a := x47.2.1
  have x51a := x51.2.1
  have xla0 := xla.2.1
  have xla1 := xla.2.2.1
  have xla2 := xla.2.2.2.1
  have hlaN : la < N := by have := xla.1; omega
  have hlaN1 : la + 1 < N := by have := xla.1; omega
  have hlaN2 : la + 2 < N := by have := xla.1; omega
  have hlaN3 : la + 3 < N := by have := xla.1; omega
  have hlaN10 : la + 10 < N := by have := xla.1; omega
  have xru := (is_L_ru xla).2.1
  have xro := (is_L_ro xla).2.1
  obtain ⟨hG1, hG2, hG3⟩ := ldG_G hG
  obtain ⟨n0', ⟨gT, gTb, gC, gCb, -⟩, -⟩ := id hG
  obtain ⟨rW, rWb, rT, -, ro1, ro2, ro3, ro4, ro5, ro6⟩ := id hR
  have hd0 : 0 ≤ D 34 0 := ((hk 0).1 rfl).1
  have hB : 161 * D 34 0 ≤ 160839 := by omega
  have hsc := sc_refl hG hco
  by_cases hc : 0 ≤ c ∧ c < C
  · obtain ⟨hc0, hc1⟩ := id hc
    have he : ¬ (0 ≤ e ∧ e < C) := fun hh => h ⟨hc, hh⟩
    refine x_ofW (by decide +kernel) hl (by simp [Value.category]) (by simp) ?_
    refine x_aload_n dX11_mix_0 x_get_3_0 ?_
    refine x_iload_n dX11_mix_1 x_get_3_1 ?_
    refine x_callV (As := [_]) dX11_mix_2 w_11_185 (c11_nCrate hl hq hc0 hc1) (by assumption) (by assumption) rfl rfl (Nat.le_of_ble_eq_true rfl) (Nat.le_of_ble_eq_true rfl) (Nat.le_of_ble_eq_true rfl) (Nat.le_of_ble_eq_true rfl) (Nat.le_of_ble_eq_true rfl) ?_
    intro d hd
    obtain rfl := Eq.symm hd
    refine x_aload_n dX11_mix_5 x_get_3_0 ?_
    refine x_iload_n dX11_mix_6 x_get_3_2 ?_
    exact x_callVT (As := [_]) dX11_mix_7 w_11_185 (c11_nCrateT hl hq her he) (by assumption) (by assumption) rfl rfl (Nat.le_of_ble_eq_true rfl) (Nat.le_of_ble_eq_true rfl) (Nat.le_of_ble_eq_true rfl) (Nat.le_of_ble_eq_true rfl) (Nat.le_of_ble_eq_true rfl) rfl rfl rfl rfl (fun d hd => by obtain rfl := Eq.symm hd; exact hsc) rfl (Nat.le_of_ble_eq_true rfl) (Nat.le_of_ble_eq_true rfl)
  · refine x_ofW (by decide +kernel) hl (by simp [Value.category]) (by simp) ?_
    refine x_aload_n dX11_mix_0 x_get_3_0 ?_
    refine x_iload_n dX11_mix_1 x_get_3_1 ?_
    exact x_callVT (As := [_]) dX11_mix_2 w_11_185 (c11_nCrateT hl hq hcr hc) (by assumption) (by assumption) rfl rfl (Nat.le_of_ble_eq_true rfl) (Nat.le_of_ble_eq_true rfl) (Nat.le_of_ble_eq_true rfl) (Nat.le_of_ble_eq_true rfl) (Nat.le_of_ble_eq_true rfl) rfl rfl rfl rfl (fun d hd => by obtain rfl := Eq.symm hd; exact hsc) rfl (Nat.le_of_ble_eq_true rfl) (Nat.le_of_ble_eq_true rfl)
theorem c11_undo0 {X : xC} {l : Launch} (hl : l.stackTraces = false) {N : Nat} {sh : xS} {D : xM} {la lb T C W : Nat} {G : Ldt} (hq : cq N sh D la lb T C W G) (hA : acts D 37 38 []) : x_M X l yX11_undo cX11_undo 1 (some .int) 7 1 6 [.ref (x_b X + 0)] false N sh D (o_i (-1)) false N sh (sc la D) := by
  obtain ⟨hX, hG, hR, ⟨hk, hd9, hpl⟩, hco⟩ := id hq
  obtain ⟨hN, x0, x1, x2, xla, xlb, x33, x35, x37, x39, x43, x45, x47, x51, x60, x61, hll⟩ := id hX
  have hla : la = 3 ∨ la = 18 := by omega
  have n0 : 0 < N := by omega
  have n1 : 1 < N := by omega
  have n2 : 2 < N := by omega
  have n33 : 33 < N := by omega
  have n34 : 34 < N := by omega
  have n35 : 35 < N := by omega
  have n36 : 36 < N := by omega
  have n37 : 37 < N := by omega
  have n38 : 38 < N := by omega
  have n39 : 39 < N := by omega
  have n40 : 40 < N := by omega
  have n41 : 41 < N := by omega
  have n42 : 42 < N := by omega
  have n43 : 43 < N := by omega
  have n45 : 45 < N := by omega
  have n47 : 47 < N := by omega
  have n51 : 51 < N := by omega
  have n60 : 60 < N := by omega
  have n61 : 61 < N := by omega
  have x33a := x33.2.1
  have x34 := x33.2.2.2
  have x35a := x35.2.1
  have x36 := x35.2.2.2
  have x37a := x37.2.1
  have x38 := x37.2.2.2
  have x39a := x39.2.1
  have x43a := x43.2.1
  have x45a := x45.2.1
  have x47a := x47.2.1
  have x51a := x51.2.1
  have xla0 := xla.2.1
  have xla1 := xla.2.2.1
  have xla2 := xla.2.2.2.1
  have hlaN : la < N := by have := xla.1; omega
  have hlaN1 : la + 1 < N := by have := xla.1; omega
  have hlaN2 : la + 2 < N := by have := xla.1; omega
  have hlaN3 : la + 3 < N := by have := xla.1; omega
  have hlaN10 : la + 10 < N := by have := xla.1; omega
  have xru := (is_L_ru xla).2.1
  have xro := (is_L_ro xla).2.1
  obtain ⟨hG1, hG2, hG3⟩ := ldG_G hG
  obtain ⟨n0', ⟨gT, gTb, gC, gCb, -⟩, -⟩ := id hG
  obtain ⟨rW, rWb, rT, -, ro1, ro2, ro3, ro4, ro5, ro6⟩ := id hR
  have hd0 : 0 ≤ D 34 0 := ((hk 0).1 rfl).1
  have hB : 161 * D 34 0 ≤ 160839 := by omega
  have hsc := sc_refl hG hco
  obtain ⟨o0, ho0, ho1, ho2, -⟩ := id hA
  have ho2 : D 37 2 = 0 := ho2
  refine x_ofW (by decide +kernel) hl (by simp [Value.category]) (by simp) ?_
  refine x_aload_n dX11_undo_0 x_get_1_0 ?_
  refine x_getR dX11_undo_1 fX_11_40 (by assumption) (by assumption) (by rfl) ?_
  refine x_getI 2 dX11_undo_4 fX_11_152 rfl (by assumption) (by assumption) (by rfl) ?_
  rw [ho2]
  refine r_if_ne (t := 12) dX11_undo_7 rfl ⟨by omega, by omega⟩ (fun hc7 => absurd hc7 (by omega)) (fun hc7 => ?_)
  refine x_iconst dX11_undo_10 ?_
  exact x_iret dX11_undo_11 rfl (Nat.le_of_ble_eq_true rfl) (Nat.le_of_ble_eq_true rfl) rfl rfl rfl hsc rfl
theorem c11_undo {X : xC} {l : Launch} (hl : l.stackTraces = false) {N : Nat} {sh : xS} {D : xM} {la lb T C W : Nat} {G : Ldt} (hq : cq N sh D la lb T C W G) {L : List (Int → Int)} {f : Int → Int} (hA : acts D 37 38 (L ++ [f])) : x_M X l yX11_undo cX11_undo 1 (some .int) 7 1 6 [.ref (x_b X + 0)] false N sh D (o_i (L.length : Int)) false N sh (fun d => d 34 = f ∧ acts d 37 38 L ∧ ∀ j, j ≠ 37 → j ≠ 34 → d j = D j) := by
  obtain ⟨hX, hG, hR, ⟨hk, hd9, hpl⟩, hco⟩ := id hq
  obtain ⟨hN, x0, x1, x2, xla, xlb, x33, x35, x37, x39, x43, x45, x47, x51, x60, x61, hll⟩ := id hX
  have hla : la = 3 ∨ la = 18 := by omega
  have n0 : 0 < N := by omega
  have n1 : 1 < N := by omega
  have n2 : 2 < N := by omega
  have n33 : 33 < N := by omega
  have n34 : 34 < N := by omega
  have n35 : 35 < N := by omega
  have n36 : 36 < N := by omega
  have n37 : 37 < N := by omega
  have n38 : 38 < N := by omega
  have n39 : 39 < N := by omega
  have n40 : 40 < N := by omega
  have n41 : 41 < N := by omega
  have n42 : 42 < N := by omega
  have n43 : 43 < N := by omega
  have n45 : 45 < N := by omega
  have n47 : 47 < N := by omega
  have n51 : 51 < N := by omega
  have n60 : 60 < N := by omega
  have n61 : 61 < N := by omega
  have x33a := x33.2.1
  have x34 := x33.2.2.2
  have x35a := x35.2.1
  have x36 := x35.2.2.2
  have x37a := x37.2.1
  have x38 := x37.2.2.2
  have x39a := x39.2.1
  have x43a := x43.2.1
  have x45a := x45.2.1
  have x47a := x47.2.1
  have x51a := x51.2.1
  have xla0 := xla.2.1
  have xla1 := xla.2.2.1
  have xla2 := xla.2.2.2.1
  have hlaN : la < N := by have := xla.1; omega
  have hlaN1 : la + 1 < N := by have := xla.1; omega
  have hlaN2 : la + 2 < N := by have := xla.1; omega
  have hlaN3 : la + 3 < N := by have := xla.1; omega
  have hlaN10 : la + 10 < N := by have := xla.1; omega
  have xru := (is_L_ru xla).2.1
  have xro := (is_L_ro xla).2.1
  obtain ⟨hG1, hG2, hG3⟩ := ldG_G hG
  obtain ⟨n0', ⟨gT, gTb, gC, gCb, -⟩, -⟩ := id hG
  obtain ⟨rW, rWb, rT, -, ro1, ro2, ro3, ro4, ro5, ro6⟩ := id hR
  have hd0 : 0 ≤ D 34 0 := ((hk 0).1 rfl).1
  have hB : 161 * D 34 0 ≤ 160839 := by omega
  have hsc := sc_refl hG hco
  obtain ⟨o0, ho0, ho1, ho2, ho3, -⟩ := id hA
  have ho2 : D 37 2 = (L.length : Int) + 1 := by rw [ho2]; simp
  have ho3 : L.length + 1 ≤ 40 := by simpa using ho3
  refine x_ofW (by decide +kernel) hl (by simp [Value.category]) (by simp) ?_
  refine x_aload_n dX11_undo_0 x_get_1_0 ?_
  refine x_getR dX11_undo_1 fX_11_40 (by assumption) (by assumption) (by rfl) ?_
  refine x_getI 2 dX11_undo_4 fX_11_152 rfl (by assumption) (by assumption) (by rfl) ?_
  first | rw [ho2] | rw [hl2]
  refine r_if_ne (t := 12) dX11_undo_7 rfl ⟨by omega, by omega⟩ (fun hc7 => ?_) (fun hc7 => absurd hc7 (by omega))
  refine x_aload_n dX11_undo_12 x_get_1_0 ?_
  refine x_getR dX11_undo_13 fX_11_40 (by assumption) (by assumption) (by rfl) ?_
  refine x_aload_n dX11_undo_16 x_get_1_0 ?_
  refine x_getR dX11_undo_17 fX_11_30 (by assumption) (by assumption) (by rfl) ?_
  refine x_callV (As := [_]) dX11_undo_20 w_11_227 (c0_back hl x37 x33 hA ⟨by decide, by decide, by decide, by decide⟩) (by assumption) (by assumption) rfl rfl (Nat.le_of_ble_eq_true rfl) (Nat.le_of_ble_eq_true rfl) (Nat.le_of_ble_eq_true rfl) (Nat.le_of_ble_eq_true rfl) (Nat.le_of_ble_eq_true rfl) ?_
  rintro d ⟨hd1, hd2, hd3⟩
  have hl2 : d 37 2 = (L.length : Int) := by
    obtain ⟨o1, -, -, h2, -⟩ := hd1
    exact h2
  refine x_aload_n dX11_undo_23 x_get_1_0 ?_
  refine x_getR dX11_undo_24 fX_11_40 (by assumption) (by assumption) (by rfl) ?_
  refine x_getI 2 dX11_undo_27 fX_11_152 rfl (by assumption) (by assumption) (by rfl) ?_
  first | rw [ho2] | rw [hl2]
  exact x_iret dX11_undo_30 rfl (Nat.le_of_ble_eq_true rfl) (Nat.le_of_ble_eq_true rfl) rfl rfl rfl ⟨hd2, hd1, hd3⟩ rfl
theorem c11_image {X : xC} {l : Launch} (hl : l.stackTraces = false) {N : Nat} {sh : xS} {D : xM} {la lb T C W : Nat} {G : Ldt} (hq : cq N sh D la lb T C W G) {L : List (Int → Int)} (hA : acts D 37 38 L) {S : List (Int × Int × Int)} (hS : seen D 39 S) : x_M X l yX11_image cX11_image 1 (none) 7 1 6 [.ref (x_b X + 0)] false N sh D (.inl none) false N sh (fun d => d 44 = D 34 ∧ acts d 45 46 L ∧ seen d 47 S ∧ d 0 = x_u1 (D 0) 7 1 ∧ ∀ j, j ≠ 0 → (j < 43 ∨ 50 < j) → d j = D j) := by
  obtain ⟨hX, hG, hR, ⟨hk, hd9, hpl⟩, hco⟩ := id hq
  obtain ⟨hN, x0, x1, x2, xla, xlb, x33, x35, x37, x39, x43, x45, x47, x51, x60, x61, hll⟩ := id hX
  have hla : la = 3 ∨ la = 18 := by omega
  have n0 : 0 < N := by omega
  have n1 : 1 < N := by omega
  have n2 : 2 < N := by omega
  have n33 : 33 < N := by omega
  have n34 : 34 < N := by omega
  have n35 : 35 < N := by omega
  have n36 : 36 < N := by omega
  have n37 : 37 < N := by omega
  have n38 : 38 < N := by omega
  have n39 : 39 < N := by omega
  have n40 : 40 < N := by omega
  have n41 : 41 < N := by omega
  have n42 : 42 < N := by omega
  have n43 : 43 < N := by omega
  have n45 : 45 < N := by omega
  have n47 : 47 < N := by omega
  have n51 : 51 < N := by omega
  have n60 : 60 < N := by omega
  have n61 : 61 < N := by omega
  have x33a := x33.2.1
  have x34 := x33.2.2.2
  have x35a := x35.2.1
  have x36 := x35.2.2.2
  have x37a := x37.2.1
  have x38 := x37.2.2.2
  have x39a := x39.2.1
  have x43a := x43.2.1
  have x45a := x45.2.1
  have x47a := x47.2.1
  have x51a := x51.2.1
  have xla0 := xla.2.1
  have xla1 := xla.2.2.1
  have xla2 := xla.2.2.2.1
  have hlaN : la < N := by have := xla.1; omega
  have hlaN1 : la + 1 < N := by have := xla.1; omega
  have hlaN2 : la + 2 < N := by have := xla.1; omega
  have hlaN3 : la + 3 < N := by have := xla.1; omega
  have hlaN10 : la + 10 < N := by have := xla.1; omega
  have xru := (is_L_ru xla).2.1
  have xro := (is_L_ro xla).2.1
  obtain ⟨hG1, hG2, hG3⟩ := ldG_G hG
  obtain ⟨n0', ⟨gT, gTb, gC, gCb, -⟩, -⟩ := id hG
  obtain ⟨rW, rWb, rT, -, ro1, ro2, ro3, ro4, ro5, ro6⟩ := id hR
  have hd0 : 0 ≤ D 34 0 := ((hk 0).1 rfl).1
  have hB : 161 * D 34 0 ≤ 160839 := by omega
  have hsc := sc_refl hG hco
  refine x_ofW (by decide +kernel) hl (by simp [Value.category]) (by simp) ?_
  refine x_aload_n dX11_image_0 x_get_1_0 ?_
  refine x_getR dX11_image_1 fX_11_55 (by assumption) (by assumption) (by rfl) ?_
  refine x_aload_n dX11_image_4 x_get_1_0 ?_
  refine x_getR dX11_image_5 fX_11_30 (by assumption) (by assumption) (by rfl) ?_
  refine x_callV (As := [_]) dX11_image_8 w_11_121 (c9_take2 hl x43 x33) (by assumption) (by assumption) rfl rfl (Nat.le_of_ble_eq_true rfl) (Nat.le_of_ble_eq_true rfl) (Nat.le_of_ble_eq_true rfl) (Nat.le_of_ble_eq_true rfl) (Nat.le_of_ble_eq_true rfl) ?_
  rintro d1 hd1
  refine x_aload_n dX11_image_11 x_get_1_0 ?_
  refine x_getR dX11_image_12 fX_11_58 (by assumption) (by assumption) (by rfl) ?_
  refine x_aload_n dX11_image_15 x_get_1_0 ?_
  refine x_getR dX11_image_16 fX_11_40 (by assumption) (by assumption) (by rfl) ?_
  refine x_callV (As := [_]) dX11_image_19 w_11_370 (c0_take hl x45 x37 (acts_same hA (by rw [hd1, x_up_n (by decide)]) (by rw [hd1, x_up_n (by decide)])) ⟨by decide, by decide, by decide, by decide, by decide⟩) (by assumption) (by assumption) rfl rfl (Nat.le_of_ble_eq_true rfl) (Nat.le_of_ble_eq_true rfl) (Nat.le_of_ble_eq_true rfl) (Nat.le_of_ble_eq_true rfl) (Nat.le_of_ble_eq_true rfl) ?_
  rintro d2 ⟨g1, g2⟩
  refine x_aload_n dX11_image_22 x_get_1_0 ?_
  refine x_getR dX11_image_23 fX_11_61 (by assumption) (by assumption) (by rfl) ?_
  refine x_aload_n dX11_image_26 x_get_1_0 ?_
  refine x_getR dX11_image_27 fX_11_47 (by assumption) (by assumption) (by rfl) ?_
  refine x_callV (As := [_]) dX11_image_30 w_11_373 (c8_take hl x47 x39 (seen_same hS (by rw [g2 39 (by decide) (by decide), hd1, x_up_n (by decide)]) (by rw [g2 (39 + 1) (by decide) (by decide), hd1, x_up_n (by decide)]) (by rw [g2 (39 + 2) (by decide) (by decide), hd1, x_up_n (by decide)]) (by rw [g2 (39 + 3) (by decide) (by decide), hd1, x_up_n (by decide)])) (Or.inr (by decide))) (by assumption) (by assumption) rfl rfl (Nat.le_of_ble_eq_true rfl) (Nat.le_of_ble_eq_true rfl) (Nat.le_of_ble_eq_true rfl) (Nat.le_of_ble_eq_true rfl) (Nat.le_of_ble_eq_true rfl) ?_
  rintro d3 ⟨g3, g4⟩
  have f3 : ∀ j, (j < 43 ∨ 50 < j) → d3 j = D j := fun j a => by rw [g4 j (by omega), g2 j (by omega) (by omega), hd1, x_up_n (by omega)]
  refine x_aload_n dX11_image_33 x_get_1_0 ?_
  refine x_iconst dX11_image_34 ?_
  refine x_putZ 7 dX11_image_35 fX_11_51 rfl tX_11_7 (by assumption) (by assumption) (by rfl) (by omega) ?_
  exact x_vret dX11_image_38 rfl (Nat.le_of_ble_eq_true rfl) (Nat.le_of_ble_eq_true rfl) rfl rfl rfl ⟨by rw [x_up_n (by decide), g4 44 (by decide), g2 44 (by decide) (by decide), hd1, x_up_s], acts_same g1 (by rw [x_up_n (by decide), g4 45 (by decide)]) (by rw [x_up_n (by decide), g4 46 (by decide)]), seen_same g3 (x_up_n (by decide)) (x_up_n (by decide)) (x_up_n (by decide)) (x_up_n (by decide)), by rw [x_up_s, f3 0 (by decide)], fun j a b => by rw [x_up_n a]; exact f3 j b⟩ rfl
theorem c11_restore0 {X : xC} {l : Launch} (hl : l.stackTraces = false) {N : Nat} {sh : xS} {D : xM} {la lb T C W : Nat} {G : Ldt} (hq : cq N sh D la lb T C W G) (hi : D 0 7 = 0) : x_M X l yX11_restore cX11_restore 1 (some .boolean) 7 1 6 [.ref (x_b X + 0)] false N sh D (o_i 0) false N sh (sc la D) := by
  obtain ⟨hX, hG, hR, ⟨hk, hd9, hpl⟩, hco⟩ := id hq
  obtain ⟨hN, x0, x1, x2, xla, xlb, x33, x35, x37, x39, x43, x45, x47, x51, x60, x61, hll⟩ := id hX
  have hla : la = 3 ∨ la = 18 := by omega
  have n0 : 0 < N := by omega
  have n1 : 1 < N := by omega
  have n2 : 2 < N := by omega
  have n33 : 33 < N := by omega
  have n34 : 34 < N := by omega
  have n35 : 35 < N := by omega
  have n36 : 36 < N := by omega
  have n37 : 37 < N := by omega
  have n38 : 38 < N := by omega
  have n39 : 39 < N := by omega
  have n40 : 40 < N := by omega
  have n41 : 41 < N := by omega
  have n42 : 42 < N := by omega
  have n43 : 43 < N := by omega
  have n45 : 45 < N := by omega
  have n47 : 47 < N := by omega
  have n51 : 51 < N := by omega
  have n60 : 60 < N := by omega
  have n61 : 61 < N := by omega
  have x33a := x33.2.1
  have x34 := x33.2.2.2
  have x35a := x35.2.1
  have x36 := x35.2.2.2
  have x37a := x37.2.1
  have x38 := x37.2.2.2
  have x39a := x39.2.1
  have x43a := x43.2.1
  have x45a := x45.2.1
  have x47a := x47.2.1
  have x51a := x51.2.1
  have xla0 := xla.2.1
  have xla1 := xla.2.2.1
  have xla2 := xla.2.2.2.1
  have hlaN : la < N := by have := xla.1; omega
  have hlaN1 : la + 1 < N := by have := xla.1; omega
  have hlaN2 : la + 2 < N := by have := xla.1; omega
  have hlaN3 : la + 3 < N := by have := xla.1; omega
  have hlaN10 : la + 10 < N := by have := xla.1; omega
  have xru := (is_L_ru xla).2.1
  have xro := (is_L_ro xla).2.1
  obtain ⟨hG1, hG2, hG3⟩ := ldG_G hG
  obtain ⟨n0', ⟨gT, gTb, gC, gCb, -⟩, -⟩ := id hG
  obtain ⟨rW, rWb, rT, -, ro1, ro2, ro3, ro4, ro5, ro6⟩ := id hR
  have hd0 : 0 ≤ D 34 0 := ((hk 0).1 rfl).1
  have hB : 161 * D 34 0 ≤ 160839 := by omega
  have hsc := sc_refl hG hco
  refine x_ofW (by decide +kernel) hl (by simp [Value.category]) (by simp) ?_
  refine x_aload_n dX11_restore_0 x_get_1_0 ?_
  refine x_getI 7 dX11_restore_1 fX_11_51 rfl (by assumption) (by assumption) (by rfl) ?_
  rw [hi]
  refine r_if_ne (t := 9) dX11_restore_4 rfl ⟨by omega, by omega⟩ (fun hc4 => absurd hc4 (by omega)) (fun hc4 => ?_)
  refine x_iconst dX11_restore_7 ?_
  exact x_zret dX11_restore_8 rfl (by omega) (Nat.le_of_ble_eq_true rfl) (Nat.le_of_ble_eq_true rfl) rfl rfl rfl hsc rfl
theorem c11_restore {X : xC} {l : Launch} (hl : l.stackTraces = false) {N : Nat} {sh : xS} {D : xM} {la lb T C W : Nat} {G : Ldt} (hq : cq N sh D la lb T C W G) (hi : D 0 7 = 1) {L : List (Int → Int)} (hA : acts D 45 46 L) {S : List (Int × Int × Int)} (hS : seen D 47 S) : x_M X l yX11_restore cX11_restore 1 (some .boolean) 7 1 6 [.ref (x_b X + 0)] false N sh D (o_i 1) false N sh (fun d => d 34 = D 44 ∧ acts d 37 38 L ∧ seen d 39 S ∧ ∀ j, j ≠ 34 → (j < 37 ∨ 42 < j) → d j = D j) := by
  obtain ⟨hX, hG, hR, ⟨hk, hd9, hpl⟩, hco⟩ := id hq
  obtain ⟨hN, x0, x1, x2, xla, xlb, x33, x35, x37, x39, x43, x45, x47, x51, x60, x61, hll⟩ := id hX
  have hla : la = 3 ∨ la = 18 := by omega
  have n0 : 0 < N := by omega
  have n1 : 1 < N := by omega
  have n2 : 2 < N := by omega
  have n33 : 33 < N := by omega
  have n34 : 34 < N := by omega
  have n35 : 35 < N := by omega
  have n36 : 36 < N := by omega
  have n37 : 37 < N := by omega
  have n38 : 38 < N := by omega
  have n39 : 39 < N := by omega
  have n40 : 40 < N := by omega
  have n41 : 41 < N := by omega
  have n42 : 42 < N := by omega
  have n43 : 43 < N := by omega
  have n45 : 45 < N := by omega
  have n47 : 47 < N := by omega
  have n51 : 51 < N := by omega
  have n60 : 60 < N := by omega
  have n61 : 61 < N := by omega
  have x33a := x33.2.1
  have x34 := x33.2.2.2
  have x35a := x35.2.1
  have x36 := x35.2.2.2
  have x37a := x37.2.1
  have x38 := x37.2.2.2
  have x39a := x39.2.1
  have x43a := x43.2.1
  have x45a := x45.2.1
  have x47a := x47.2.1
  have x51a := x51.2.1
  have xla0 := xla.2.1
  have xla1 := xla.2.2.1
  have xla2 := xla.2.2.2.1
  have hlaN : la < N := by have := xla.1; omega
  have hlaN1 : la + 1 < N := by have := xla.1; omega
  have hlaN2 : la + 2 < N := by have := xla.1; omega
  have hlaN3 : la + 3 < N := by have := xla.1; omega
  have hlaN10 : la + 10 < N := by have := xla.1; omega
  have xru := (is_L_ru xla).2.1
  have xro := (is_L_ro xla).2.1
  obtain ⟨hG1, hG2, hG3⟩ := ldG_G hG
  obtain ⟨n0', ⟨gT, gTb, gC, gCb, -⟩, -⟩ := id hG
  obtain ⟨rW, rWb, rT, -, ro1, ro2, ro3, ro4, ro5, ro6⟩ := id hR
  have hd0 : 0 ≤ D 34 0 := ((hk 0).1 rfl).1
  have hB : 161 * D 34 0 ≤ 160839 := by omega
  have hsc := sc_refl hG hco
  refine x_ofW (by decide +kernel) hl (by simp [Value.category]) (by simp) ?_
  refine x_aload_n dX11_restore_0 x_get_1_0 ?_
  refine x_getI 7 dX11_restore_1 fX_11_51 rfl (by assumption) (by assumption) (by rfl) ?_
  rw [hi]
  refine r_if_ne (t := 9) dX11_restore_4 rfl ⟨by omega, by omega⟩ (fun hc4 => ?_) (fun hc4 => absurd hc4 (by omega))
  refine x_aload_n dX11_restore_9 x_get_1_0 ?_
  refine x_getR dX11_restore_10 fX_11_30 (by assumption) (by assumption) (by rfl) ?_
  refine x_aload_n dX11_restore_13 x_get_1_0 ?_
  refine x_getR dX11_restore_14 fX_11_55 (by assumption) (by assumption) (by rfl) ?_
  refine x_callV (As := [_]) dX11_restore_17 w_11_121 (c9_take2 hl x33 x43) (by assumption) (by assumption) rfl rfl (Nat.le_of_ble_eq_true rfl) (Nat.le_of_ble_eq_true rfl) (Nat.le_of_ble_eq_true rfl) (Nat.le_of_ble_eq_true rfl) (Nat.le_of_ble_eq_true rfl) ?_
  rintro d1 hd1
  refine x_aload_n dX11_restore_20 x_get_1_0 ?_
  refine x_getR dX11_restore_21 fX_11_40 (by assumption) (by assumption) (by rfl) ?_
  refine x_aload_n dX11_restore_24 x_get_1_0 ?_
  refine x_getR dX11_restore_25 fX_11_58 (by assumption) (by assumption) (by rfl) ?_
  refine x_callV (As := [_]) dX11_restore_28 w_11_370 (c0_take hl x37 x45 (acts_same hA (by rw [hd1, x_up_n (by decide)]) (by rw [hd1, x_up_n (by decide)])) ⟨by decide, by decide, by decide, by decide, by decide⟩) (by assumption) (by assumption) rfl rfl (Nat.le_of_ble_eq_true rfl) (Nat.le_of_ble_eq_true rfl) (Nat.le_of_ble_eq_true rfl) (Nat.le_of_ble_eq_true rfl) (Nat.le_of_ble_eq_true rfl) ?_
  rintro d2 ⟨g1, g2⟩
  refine x_aload_n dX11_restore_31 x_get_1_0 ?_
  refine x_getR dX11_restore_32 fX_11_47 (by assumption) (by assumption) (by rfl) ?_
  refine x_aload_n dX11_restore_35 x_get_1_0 ?_
  refine x_getR dX11_restore_36 fX_11_61 (by assumption) (by assumption) (by rfl) ?_
  refine x_callV (As := [_]) dX11_restore_39 w_11_373 (c8_take hl x39 x47 (seen_same hS (by rw [g2 47 (by decide) (by decide), hd1, x_up_n (by decide)]) (by rw [g2 (47 + 1) (by decide) (by decide), hd1, x_up_n (by decide)]) (by rw [g2 (47 + 2) (by decide) (by decide), hd1, x_up_n (by decide)]) (by rw [g2 (47 + 3) (by decide) (by decide), hd1, x_up_n (by decide)])) (Or.inl (by decide))) (by assumption) (by assumption) rfl rfl (Nat.le_of_ble_eq_true rfl) (Nat.le_of_ble_eq_true rfl) (Nat.le_of_ble_eq_true rfl) (Nat.le_of_ble_eq_true rfl) (Nat.le_of_ble_eq_true rfl) ?_
  rintro d3 ⟨g3, g4⟩
  have f3 : ∀ j, j ≠ 34 → (j < 37 ∨ 42 < j) → d3 j = D j := fun j b a => by rw [g4 j (by omega), g2 j (by omega) (by omega), hd1, x_up_n b]
  refine x_iconst dX11_restore_42 ?_
  exact x_zret dX11_restore_43 rfl (by omega) (Nat.le_of_ble_eq_true rfl) (Nat.le_of_ble_eq_true rfl) rfl rfl rfl ⟨by rw [g4 34 (by decide), g2 34 (by decide) (by decide), hd1, x_up_s], acts_same g1 (g4 37 (by decide)) (g4 38 (by decide)), g3, f3⟩ rfl
theorem c11_fnum {X : xC} {l : Launch} (hl : l.stackTraces = false) {N : Nat} {sh : xS} {D : xM} {la lb T C W : Nat} {G : Ldt} (hq : cq N sh D la lb T C W G) {k z : Int} (hk0 : 0 ≤ k) (hk1 : k + 4 ≤ 700) (hkt : D 0 1 = k) : x_M X l yX11_feedNumber cX11_feedNumber 3 (none) 1 0 0 [.ref (x_b X + 0), .int (xI z)] false N sh D (.inl none) false N sh (x_is (x_up (x_up D 2 (tp4 (D 2) k z 4)) 0 (x_u1 (D 0) 1 (k + 4)))) := by
  obtain ⟨hX, hG, hR, ⟨hk, hd9, hpl⟩, hco⟩ := id hq
  obtain ⟨hN, x0, x1, x2, xla, xlb, x33, x35, x37, x39, x43, x45, x47, x51, x60, x61, hll⟩ := id hX
  have hla : la = 3 ∨ la = 18 := by omega
  have n0 : 0 < N := by omega
  have n1 : 1 < N := by omega
  have n2 : 2 < N := by omega
  have n33 : 33 < N := by omega
  have n34 : 34 < N := by omega
  have n35 : 35 < N := by omega
  have n36 : 36 < N := by omega
  have n37 : 37 < N := by omega
  have n38 : 38 < N := by omega
  have n39 : 39 < N := by omega
  have n40 : 40 < N := by omega
  have n41 : 41 < N := by omega
  have n42 : 42 < N := by omega
  have n43 : 43 < N := by omega
  have n45 : 45 < N := by omega
  have n47 : 47 < N := by omega
  have n51 : 51 < N := by omega
  have n60 : 60 < N := by omega
  have n61 : 61 < N := by omega
  have x33a := x33.2.1
  have x34 := x33.2.2.2
  have x35a := x35.2.1
  have x36 := x35.2.2.2
  have x37a := x37.2.1
  have x38 := x37.2.2.2
  have x39a := x39.2.1
  have x43a := x43.2.1
  have x45a := x45.2.1
  have x47a := x47.2.1
  have x51a := x51.2.1
  have xla0 := xla.2.1
  have xla1 := xla.2.2.1
  have xla2 := xla.2.2.2.1
  have hlaN : la < N := by have := xla.1; omega
  have hlaN1 : la + 1 < N := by have := xla.1; omega
  have hlaN2 : la + 2 < N := by have := xla.1; omega
  have hlaN3 : la + 3 < N := by have := xla.1; omega
  have hlaN10 : la + 10 < N := by have := xla.1; omega
  have xru := (is_L_ru xla).2.1
  have xro := (is_L_ro xla).2.1
  obtain ⟨hG1, hG2, hG3⟩ := ldG_G hG
  obtain ⟨n0', ⟨gT, gTb, gC, gCb, -⟩, -⟩ := id hG
  obtain ⟨rW, rWb, rT, -, ro1, ro2, ro3, ro4, ro5, ro6⟩ := id hR
  have hd0 : 0 ≤ D 34 0 := ((hk 0).1 rfl).1
  have hB : 161 * D 34 0 ≤ 160839 := by omega
  have hsc := sc_refl hG hco
  have hloop : ∀ j : Nat, j ≤ 4 → x_W (X, l, yX11_feedNumber, cX11_feedNumber, 3, none, x_room 1 0 0, 0, 0, (.inl none), N, sh, (x_is (x_up (x_up D 2 (tp4 (D 2) k z 4)) 0 (x_u1 (D 0) 1 (k + 4)))), false, []) 3 [some (.ref (x_b X + 0)), some (.int (xI z)), some (.int (xI (24 - 8 * (j : Int))))] [] 0 0 false N sh (x_up (x_up D 2 (tp4 (D 2) k z (j : Nat))) 0 (x_u1 (D 0) 1 (k + (j : Nat)))) := by
    refine x_down 4 ?_ ?_
    · refine x_iload_n dX11_feedNumber_3 x_get_3_2 ?_
      refine r_if_lt (t := 49) dX11_feedNumber_4 rfl ⟨by omega, by omega⟩ (fun hc4 => ?_) (fun hc4 => absurd hc4 (by omega))
      exact x_vret dX11_feedNumber_49 rfl (Nat.le_of_ble_eq_true rfl) (Nat.le_of_ble_eq_true rfl) rfl rfl rfl rfl rfl
    · intro j hj ih
      refine x_iload_n dX11_feedNumber_3 x_get_3_2 ?_
      refine r_if_lt (t := 49) dX11_feedNumber_4 rfl ⟨by omega, by omega⟩ (fun hc4 => absurd hc4 (by omega)) (fun hc4 => ?_)
      refine x_aload_n dX11_feedNumber_7 x_get_3_0 ?_
      refine x_getI 1 dX11_feedNumber_8 fX_11_16 rfl (by assumption) (by assumption) (by rfl) ?_
      simp (disch := decide) only [x_up_s, x_up_n, x_u1_s, x_up_up, x_u1_u1]
      refine x_sipush dX11_feedNumber_11 rfl ?_
      refine r_icmp_ge (t := 43) dX11_feedNumber_14 rfl ⟨by omega, by omega⟩ ⟨by omega, by omega⟩ (fun hc14 => absurd hc14 (by omega)) (fun hc14 => ?_)
      refine x_aload_n dX11_feedNumber_17 x_get_3_0 ?_
      refine x_getR dX11_feedNumber_18 fX_11_10 (by assumption) (by assumption) (by rfl) ?_
      refine x_getR dX11_feedNumber_21 fX_11_376 (by assumption) (by assumption) (by rfl) ?_
      refine x_aload_n dX11_feedNumber_24 x_get_3_0 ?_
      refine x_getI 1 dX11_feedNumber_25 fX_11_16 rfl (by assumption) (by assumption) (by rfl) ?_
      simp (disch := decide) only [x_up_s, x_up_n, x_u1_s, x_up_up, x_u1_u1]
      refine x_iload_n dX11_feedNumber_28 x_get_3_1 ?_
      refine x_iload_n dX11_feedNumber_29 x_get_3_2 ?_
      refine x_ishr dX11_feedNumber_30 ?_
      refine x_i2b dX11_feedNumber_31 ?_
      refine x_bast dX11_feedNumber_32 (by assumption) (by assumption) (by omega) (by omega) (by decide) ?_
      simp (disch := decide) only [x_up_s, x_up_n, x_u1_s, x_up_up, x_u1_u1]
      refine x_aload_n dX11_feedNumber_33 x_get_3_0 ?_
      refine x_dup dX11_feedNumber_34 rfl ?_
      refine x_getI 1 dX11_feedNumber_35 fX_11_16 rfl (by assumption) (by assumption) (by rfl) ?_
      simp (disch := decide) only [x_up_s, x_up_n, x_u1_s, x_up_up, x_u1_u1]
      refine x_iconst dX11_feedNumber_38 ?_
      refine x_iadd dX11_feedNumber_39 ?_
      refine x_putI 1 dX11_feedNumber_40 fX_11_16 rfl tX_11_1 (by assumption) (by assumption) (by rfl) ?_
      simp (disch := decide) only [x_up_s, x_up_n, x_u1_s, x_up_up, x_u1_u1]
      refine x_mem (show _ = (x_up (x_up D 2 (tp4 (D 2) k z (j + 1 : Nat))) 0 (x_u1 (D 0) 1 (k + (j + 1 : Nat)))) from ?_) ?_
      · rw [tp4_s, show (((j + 1 : Nat) : Int)) = (j : Int) + 1 by push_cast; rfl, ← Int.add_assoc]
        simp (disch := decide) only [x_up_s, x_up_n, x_up_up, x_up_up2, x_u1_u1]
      refine x_iinc dX11_feedNumber_43 x_get_3_2 (Nat.le_of_ble_eq_true rfl) rfl x_set_3_2 ?_
      refine x_goto (t := 3) dX11_feedNumber_46 rfl ?_
      rw [show (24 - 8 * (j : Int) + (-8)) = 24 - 8 * ((j + 1 : Nat) : Int) by push_cast; omega]
      exact ih
  refine x_ofW (by decide +kernel) hl (by simp [Value.category]) (by simp) ?_
  refine x_bipush dX11_feedNumber_0 rfl ?_
  refine x_istore_n dX11_feedNumber_2 (Nat.le_of_ble_eq_true rfl) rfl x_set_3_2 ?_
  refine x_mem (show D = (x_up (x_up D 2 (tp4 (D 2) k z (0 : Nat))) 0 (x_u1 (D 0) 1 (k + (0 : Nat)))) from ?_) (hloop 0 (Nat.zero_le _))
  show D = x_up (x_up D 2 (D 2)) 0 (x_u1 (D 0) 1 (k + 0))
  rw [x_up_id, Int.add_zero, ← hkt, x_u1_id, x_up_id]
theorem c11_feed {X : xC} {l : Launch} (hl : l.stackTraces = false) {N : Nat} {sh : xS} {D : xM} {la lb T C W : Nat} {G : Ldt} (hq : cq N sh D la lb T C W G) {k : Nat} {z1 z2 z3 z4 z5 : Int} (hk1 : k + 20 ≤ 700) (hkt : D 0 1 = k) : x_M X l yX11_feed cX11_feed 6 (some .int) 7 1 6 [.ref (x_b X + 0), .int (xI z1), .int (xI z2), .int (xI z3), .int (xI z4), .int (xI z5)] false N sh D (o_i ((k : Int) + 20)) false N sh (fun d => d 2 = tp20 (D 2) k z1 z2 z3 z4 z5 ∧ d 0 = x_u1 (D 0) 1 ((k : Int) + 20) ∧ ∀ j, j ≠ 0 → j ≠ 2 → d j = D j) := by
  obtain ⟨hX, hG, hR, ⟨hk, hd9, hpl⟩, hco⟩ := id hq
  obtain ⟨hN, x0, x1, x2, xla, xlb, x33, x35, x37, x39, x43, x45, x47, x51, x60, x61, hll⟩ := id hX
  have hla : la = 3 ∨ la = 18 := by omega
  have n0 : 0 < N := by omega
  have n1 : 1 < N := by omega
  have n2 : 2 < N := by omega
  have n33 : 33 < N := by omega
  have n34 : 34 < N := by omega
  have n35 : 35 < N := by omega
  have n36 : 36 < N := by omega
  have n37 : 37 < N := by omega
  have n38 : 38 < N := by omega
  have n39 : 39 < N := by omega
  have n40 : 40 < N := by omega
  have n41 : 41 < N := by omega
  have n42 : 42 < N := by omega
  have n43 : 43 < N := by omega
  have n45 : 45 < N := by omega
  have n47 : 47 < N := by omega
  have n51 : 51 < N := by omega
  have n60 : 60 < N := by omega
  have n61 : 61 < N := by omega
  have x33a := x33.2.1
  have x34 := x33.2.2.2
  have x35a := x35.2.1
  have x36 := x35.2.2.2
  have x37a := x37.2.1
  have x38 := x37.2.2.2
  have x39a := x39.2.1
  have x43a := x43.2.1
  have x45a := x45.2.1
  have x47a := x47.2.1
  have x51a := x51.2.1
  have xla0 := xla.2.1
  have xla1 := xla.2.2.1
  have xla2 := xla.2.2.2.1
  have hlaN : la < N := by have := xla.1; omega
  have hlaN1 : la + 1 < N := by have := xla.1; omega
  have hlaN2 : la + 2 < N := by have := xla.1; omega
  have hlaN3 : la + 3 < N := by have := xla.1; omega
  have hlaN10 : la + 10 < N := by have := xla.1; omega
  have xru := (is_L_ru xla).2.1
  have xro := (is_L_ro xla).2.1
  obtain ⟨hG1, hG2, hG3⟩ := ldG_G hG
  obtain ⟨n0', ⟨gT, gTb, gC, gCb, -⟩, -⟩ := id hG
  obtain ⟨rW, rWb, rT, -, ro1, ro2, ro3, ro4, ro5, ro6⟩ := id hR
  have hd0 : 0 ≤ D 34 0 := ((hk 0).1 rfl).1
  have hB : 161 * D 34 0 ≤ 160839 := by omega
  have hsc := sc_refl hG hco
  refine x_ofW (by decide +kernel) hl (by simp [Value.category]) (by simp) ?_
  refine x_aload_n dX11_feed_0 x_get_6_0 ?_
  refine x_getI 1 dX11_feed_1 fX_11_16 rfl (by assumption) (by assumption) (by rfl) ?_
  first | rw [hkt] | rw [k5]
  refine x_bipush dX11_feed_4 rfl ?_
  refine x_iadd dX11_feed_6 ?_
  refine x_sipush dX11_feed_7 rfl ?_
  refine r_icmp_le (t := 15) dX11_feed_10 rfl ⟨by omega, by omega⟩ ⟨by omega, by omega⟩ (fun hc10 => ?_) (fun hc10 => absurd hc10 (by omega))
  refine x_aload_n dX11_feed_15 x_get_6_0 ?_
  refine x_iload_n dX11_feed_16 x_get_6_1 ?_
  refine x_callV (As := [_]) dX11_feed_17 w_11_85 (c11_fnum hl hq (k := (k : Int)) (by omega) (by omega) hkt) (by assumption) (by assumption) rfl rfl (Nat.le_of_ble_eq_true rfl) (Nat.le_of_ble_eq_true rfl) (Nat.le_of_ble_eq_true rfl) (Nat.le_of_ble_eq_true rfl) (Nat.le_of_ble_eq_true rfl) ?_
  rintro d1 hd1
  have q1 := cq_tp hq hla (f := tp4 (D 2) (k : Int) z1 4) (g := x_u1 (D 0) 1 ((k : Int) + 4))
  rw [← hd1] at q1
  have o1 : d1 0 = x_u1 (D 0) 1 ((k : Int) + 4) := by
    rw [hd1, x_up_s]
  have k1 : d1 0 1 = (k : Int) + 4 := by rw [o1, x_u1_s]
  have t1 : d1 2 = tp4 (D 2) (k : Int) z1 4 := by rw [hd1, x_up_n (by decide), x_up_s]
  have f1 : ∀ j, j ≠ 0 → j ≠ 2 → d1 j = D j := fun j a b => by rw [hd1, x_up_n a, x_up_n b]
  refine x_aload_n dX11_feed_20 x_get_6_0 ?_
  refine x_iload_n dX11_feed_21 x_get_6_2 ?_
  refine x_callV (As := [_]) dX11_feed_22 w_11_85 (c11_fnum hl q1 (k := ((k : Int) + 4)) (by omega) (by omega) k1) (by assumption) (by assumption) rfl rfl (Nat.le_of_ble_eq_true rfl) (Nat.le_of_ble_eq_true rfl) (Nat.le_of_ble_eq_true rfl) (Nat.le_of_ble_eq_true rfl) (Nat.le_of_ble_eq_true rfl) ?_
  rintro d2 hd2
  have q2 := cq_tp q1 hla (f := tp4 (d1 2) ((k : Int) + 4) z2 4) (g := x_u1 (d1 0) 1 (((k : Int) + 4) + 4))
  rw [← hd2] at q2
  have o2 : d2 0 = x_u1 (D 0) 1 ((k : Int) + 8) := by
    rw [hd2, x_up_s, o1, x_u1_u1, show ((k : Int) + 4) + 4 = (k : Int) + 8 by omega]
  have k2 : d2 0 1 = (k : Int) + 8 := by rw [o2, x_u1_s]
  have t2 : d2 2 = tp4 (d1 2) ((k : Int) + 4) z2 4 := by rw [hd2, x_up_n (by decide), x_up_s]
  have f2 : ∀ j, j ≠ 0 → j ≠ 2 → d2 j = D j := fun j a b => by rw [hd2, x_up_n a, x_up_n b, f1 j a b]
  refine x_aload_n dX11_feed_25 x_get_6_0 ?_
  refine x_iload_n dX11_feed_26 x_get_6_3 ?_
  refine x_callV (As := [_]) dX11_feed_27 w_11_85 (c11_fnum hl q2 (k := ((k : Int) + 8)) (by omega) (by omega) k2) (by assumption) (by assumption) rfl rfl (Nat.le_of_ble_eq_true rfl) (Nat.le_of_ble_eq_true rfl) (Nat.le_of_ble_eq_true rfl) (Nat.le_of_ble_eq_true rfl) (Nat.le_of_ble_eq_true rfl) ?_
  rintro d3 hd3
  have q3 := cq_tp q2 hla (f := tp4 (d2 2) ((k : Int) + 8) z3 4) (g := x_u1 (d2 0) 1 (((k : Int) + 8) + 4))
  rw [← hd3] at q3
  have o3 : d3 0 = x_u1 (D 0) 1 ((k : Int) + 12) := by
    rw [hd3, x_up_s, o2, x_u1_u1, show ((k : Int) + 8) + 4 = (k : Int) + 12 by omega]
  have k3 : d3 0 1 = (k : Int) + 12 := by rw [o3, x_u1_s]
  have t3 : d3 2 = tp4 (d2 2) ((k : Int) + 8) z3 4 := by rw [hd3, x_up_n (by decide), x_up_s]
  have f3 : ∀ j, j ≠ 0 → j ≠ 2 → d3 j = D j := fun j a b => by rw [hd3, x_up_n a, x_up_n b, f2 j a b]
  refine x_aload_n dX11_feed_30 x_get_6_0 ?_
  refine x_iload dX11_feed_31 x_get_6_4 ?_
  refine x_callV (As := [_]) dX11_feed_33 w_11_85 (c11_fnum hl q3 (k := ((k : Int) + 12)) (by omega) (by omega) k3) (by assumption) (by assumption) rfl rfl (Nat.le_of_ble_eq_true rfl) (Nat.le_of_ble_eq_true rfl) (Nat.le_of_ble_eq_true rfl) (Nat.le_of_ble_eq_true rfl) (Nat.le_of_ble_eq_true rfl) ?_
  rintro d4 hd4
  have q4 := cq_tp q3 hla (f := tp4 (d3 2) ((k : Int) + 12) z4 4) (g := x_u1 (d3 0) 1 (((k : Int) + 12) + 4))
  rw [← hd4] at q4
  have o4 : d4 0 = x_u1 (D 0) 1 ((k : Int) + 16) := by
    rw [hd4, x_up_s, o3, x_u1_u1, show ((k : Int) + 12) + 4 = (k : Int) + 16 by omega]
  have k4 : d4 0 1 = (k : Int) + 16 := by rw [o4, x_u1_s]
  have t4 : d4 2 = tp4 (d3 2) ((k : Int) + 12) z4 4 := by rw [hd4, x_up_n (by decide), x_up_s]
  have f4 : ∀ j, j ≠ 0 → j ≠ 2 → d4 j = D j := fun j a b => by rw [hd4, x_up_n a, x_up_n b, f3 j a b]
  refine x_aload_n dX11_feed_36 x_get_6_0 ?_
  refine x_iload dX11_feed_37 x_get_6_5 ?_
  refine x_callV (As := [_]) dX11_feed_39 w_11_85 (c11_fnum hl q4 (k := ((k : Int) + 16)) (by omega) (by omega) k4) (by assumption) (by assumption) rfl rfl (Nat.le_of_ble_eq_true rfl) (Nat.le_of_ble_eq_true rfl) (Nat.le_of_ble_eq_true rfl) (Nat.le_of_ble_eq_true rfl) (Nat.le_of_ble_eq_true rfl) ?_
  rintro d5 hd5
  have q5 := cq_tp q4 hla (f := tp4 (d4 2) ((k : Int) + 16) z5 4) (g := x_u1 (d4 0) 1 (((k : Int) + 16) + 4))
  rw [← hd5] at q5
  have o5 : d5 0 = x_u1 (D 0) 1 ((k : Int) + 20) := by
    rw [hd5, x_up_s, o4, x_u1_u1, show ((k : Int) + 16) + 4 = (k : Int) + 20 by omega]
  have k5 : d5 0 1 = (k : Int) + 20 := by rw [o5, x_u1_s]
  have t5 : d5 2 = tp4 (d4 2) ((k : Int) + 16) z5 4 := by rw [hd5, x_up_n (by decide), x_up_s]
  have f5 : ∀ j, j ≠ 0 → j ≠ 2 → d5 j = D j := fun j a b => by rw [hd5, x_up_n a, x_up_n b, f4 j a b]
  refine x_aload_n dX11_feed_42 x_get_6_0 ?_
  refine x_getI 1 dX11_feed_43 fX_11_16 rfl (by assumption) (by assumption) (by rfl) ?_
  first | rw [hkt] | rw [k5]
  exact x_iret dX11_feed_46 rfl (Nat.le_of_ble_eq_true rfl) (Nat.le_of_ble_eq_true rfl) rfl rfl rfl ⟨by rw [t5, t4, t3, t2, t1]; rfl, o5, f5⟩ rfl
theorem c11_feedR {X : xC} {l : Launch} (hl : l.stackTraces = false) {N : Nat} {sh : xS} {D : xM} {la lb T C W : Nat} {G : Ldt} (hq : cq N sh D la lb T C W G) {k : Nat} {z1 z2 z3 z4 z5 : Int} (hk7 : k ≤ 700) (hk1 : ¬ k + 20 ≤ 700) (hkt : D 0 1 = k) : x_M X l yX11_feed cX11_feed 6 (some .int) 7 1 6 [.ref (x_b X + 0), .int (xI z1), .int (xI z2), .int (xI z3), .int (xI z4), .int (xI z5)] false N sh D (o_i (-1)) false N sh (sc la D) := by
  obtain ⟨hX, hG, hR, ⟨hk, hd9, hpl⟩, hco⟩ := id hq
  obtain ⟨hN, x0, x1, x2, xla, xlb, x33, x35, x37, x39, x43, x45, x47, x51, x60, x61, hll⟩ := id hX
  have hla : la = 3 ∨ la = 18 := by omega
  have n0 : 0 < N := by omega
  have n1 : 1 < N := by omega
  have n2 : 2 < N := by omega
  have n33 : 33 < N := by omega
  have n34 : 34 < N := by omega
  have n35 : 35 < N := by omega
  have n36 : 36 < N := by omega
  have n37 : 37 < N := by omega
  have n38 : 38 < N := by omega
  have n39 : 39 < N := by omega
  have n40 : 40 < N := by omega
  have n41 : 41 < N := by omega
  have n42 : 42 < N := by omega
  have n43 : 43 < N := by omega
  have n45 : 45 < N := by omega
  have n47 : 47 < N := by omega
  have n51 : 51 < N := by omega
  have n60 : 60 < N := by omega
  have n61 : 61 < N := by omega
  have x33a := x33.2.1
  have x34 := x33.2.2.2
  have x35a := x35.2.1
  have x36 := x35.2.2.2
  have x37a := x37.2.1
  have x38 := x37.2.2.2
  have x39a := x39.2.1
  have x43a := x43.2.1
  have x45a := x45.2.1
  have x47a := x47.2.1
  have x51a := x51.2.1
  have xla0 := xla.2.1
  have xla1 := xla.2.2.1
  have xla2 := xla.2.2.2.1
  have hlaN : la < N := by have := xla.1; omega
  have hlaN1 : la + 1 < N := by have := xla.1; omega
  have hlaN2 : la + 2 < N := by have := xla.1; omega
  have hlaN3 : la + 3 < N := by have := xla.1; omega
  have hlaN10 : la + 10 < N := by have := xla.1; omega
  have xru := (is_L_ru xla).2.1
  have xro := (is_L_ro xla).2.1
  obtain ⟨hG1, hG2, hG3⟩ := ldG_G hG
  obtain ⟨n0', ⟨gT, gTb, gC, gCb, -⟩, -⟩ := id hG
  obtain ⟨rW, rWb, rT, -, ro1, ro2, ro3, ro4, ro5, ro6⟩ := id hR
  have hd0 : 0 ≤ D 34 0 := ((hk 0).1 rfl).1
  have hB : 161 * D 34 0 ≤ 160839 := by omega
  have hsc := sc_refl hG hco
  refine x_ofW (by decide +kernel) hl (by simp [Value.category]) (by simp) ?_
  refine x_aload_n dX11_feed_0 x_get_6_0 ?_
  refine x_getI 1 dX11_feed_1 fX_11_16 rfl (by assumption) (by assumption) (by rfl) ?_
  rw [hkt]
  refine x_bipush dX11_feed_4 rfl ?_
  refine x_iadd dX11_feed_6 ?_
  refine x_sipush dX11_feed_7 rfl ?_
  refine r_icmp_le (t := 15) dX11_feed_10 rfl ⟨by omega, by omega⟩ ⟨by omega, by omega⟩ (fun hc10 => absurd hc10 (by omega)) (fun hc10 => ?_)
  refine x_iconst dX11_feed_13 ?_
  exact x_iret dX11_feed_14 rfl (Nat.le_of_ble_eq_true rfl) (Nat.le_of_ble_eq_true rfl) rfl rfl rfl hsc rfl
end C49
