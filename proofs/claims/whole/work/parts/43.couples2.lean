section C43
theorem s_mv1_keep {f : Int → Int} {c j : Int} (h1 : j ≠ 25 + c) (h2 : j ≠ 65 + c) : s_mv1 f c j = f j := by
  unfold s_mv1
  split
  · dsimp only
    rw [x_u1_n h2]
    split
    · rw [x_u1_n h1]
    · rfl
  · rfl
theorem s_mv_keep {f : Int → Int} {j : Int} (h : j < 25 ∨ (35 ≤ j ∧ j < 65) ∨ 75 ≤ j) : ∀ n : Nat, n ≤ 10 → s_mv f n j = f j
  | 0, _ => rfl
  | n + 1, hn => by
    show s_mv1 (s_mv f n) n j = f j
    rw [s_mv1_keep (by omega) (by omega)]
    exact s_mv_keep h n (by omega)
theorem s_stl_keep {f : Int → Int} {t k j : Int} {w : Prop} [Decidable w] (h1 : j ≠ 1 + t) (h2 : j ≠ 9 + t) (h3 : j ≠ 17 + t) : s_stl f t k w j = f j := by
  unfold s_stl s_evn
  dsimp only
  rw [x_u1_n h2, x_u1_n h1]
  split
  · unfold s_win
    dsimp only
    rw [x_u1_n h1, x_u1_n h3]
  · unfold s_los s_add
    rw [x_u1_n h1, x_u1_n h3]
theorem s_play_keep {G : Ldt} {f : Int → Int} {t j : Int} (h1 : j ≠ 1 + t) (h2 : j ≠ 9 + t) (h3 : j ≠ 17 + t) : s_play G f t j = f j := by
  unfold s_play
  rw [s_stl_keep h1 h2 h3]
  unfold s_add
  rw [x_u1_n h1]
theorem s_tick_keep {f : Int → Int} {j : Int} (h : j ≠ 0) : s_tick f j = f j := x_u1_n h
theorem s_town_keep {G : Ldt} {C : Nat} {f : Int → Int} {t j : Int} (hC : C ≤ 10) (ht : 0 ≤ t) (ht8 : t < 8) (h : (35 ≤ j ∧ j < 65) ∨ 75 ≤ j) : s_town G C f t j = f j := by
  unfold s_town
  rw [s_tick_keep (by omega), s_play_keep (by omega) (by omega) (by omega), s_mv_keep (by omega) C hC]
def s_towns (G : Ldt) (C : Nat) (f : Int → Int) (t : Int) : Nat → Int → Int
  | 0 => f
  | n + 1 => s_town G C (s_towns G C f t n) t
theorem s_towns_keep {G : Ldt} {C : Nat} {f : Int → Int} {t j : Int} (hC : C ≤ 10) (ht : 0 ≤ t) (ht8 : t < 8) (h : (35 ≤ j ∧ j < 65) ∨ 75 ≤ j) : ∀ n : Nat, s_towns G C f t n j = f j
  | 0 => rfl
  | n + 1 => by
    show s_town G C (s_towns G C f t n) t j = f j
    rw [s_town_keep hC ht ht8 h]
    exact s_towns_keep hC ht ht8 h n
theorem s_ok_towns {B : Int} {f : Int → Int} (h : s_ok B f) {G : Ldt} (hG1 : ∀ j, 0 ≤ G.1 j ∧ G.1 j ≤ 20) (hG2 : ∀ j, 0 ≤ G.2.1 j ∧ G.2.1 j ≤ 20) {C : Nat} (hC : C ≤ 10) {t : Int} (h0 : 0 ≤ t) (h1 : t < 8) : ∀ n : Nat, s_ok (B + 21 * n) (s_towns G C f t n)
  | 0 => by simpa [s_towns] using h
  | n + 1 => s_ok_le (by push_cast; omega) (s_ok_town (s_ok_towns h hG1 hG2 hC h0 h1 n) hG1 hG2 hC h0 h1)
theorem ldG_of {D d : xM} {la T C : Nat} {G : Ldt} (h : ldG D la T C G) (hf : ∀ j, la ≤ j → j ≤ la + 11 → d j = D j) (hw : ∀ j, x_r (d (la + 12) j)) : ldG d la T C G := by
  obtain ⟨n, h1, h2⟩ := h
  refine ⟨n, ld_same h1 (hf _ (by omega) (by omega)) (hf _ (by omega) (by omega)) (hf _ (by omega) (by omega)) (hf _ (by omega) (by omega)) (hf _ (by omega) (by omega)) hw, ?_⟩
  rw [← h2]
  exact l_dt_same (hf _ (by omega) (by omega)) (hf _ (by omega) (by omega)) (hf _ (by omega) (by omega)) (hf _ (by omega) (by omega))
def y_crs (G : Ldt) (C : Nat) (f : Int → Int) (pl : Nat → Int) (t : Int) (c : Int) (o k : Nat) : Int := if k < o then pl k else s_towns G C (s_opn (s_towns G C f t o) c) t (k - o) (1 + t)
theorem w_1_35 : x_cv RX1 35 yX9_take cX9_take 2 (none) 9 1 := ⟨⟨_, rfl, rfl⟩, (x_in 1165 (by decide +kernel) rfl), (x_in 523 (by decide +kernel) rfl), (x_in 524 (by decide +kernel) rfl), (x_in 85 (by decide +kernel) rfl), (x_in 525 (by decide +kernel) rfl), by decide, ⟨by decide +kernel, by decide +kernel, by decide +kernel⟩⟩
theorem w_1_48 : x_cv RX1 48 yX9_passDay cX9_passDay 3 (none) 9 1 := ⟨⟨_, rfl, rfl⟩, (x_in 1166 (by decide +kernel) rfl), (x_in 443 (by decide +kernel) rfl), (x_in 444 (by decide +kernel) rfl), (x_in 85 (by decide +kernel) rfl), (x_in 445 (by decide +kernel) rfl), by decide, ⟨by decide +kernel, by decide +kernel, by decide +kernel⟩⟩
theorem w_1_80 : x_cv RX1 80 yX9_unpack cX9_unpack 3 (some .int) 9 1 := ⟨⟨_, rfl, rfl⟩, (x_in 1180 (by decide +kernel) rfl), (x_in 532 (by decide +kernel) rfl), (x_in 533 (by decide +kernel) rfl), (x_in 85 (by decide +kernel) rfl), (x_in 534 (by decide +kernel) rfl), by decide, ⟨by decide +kernel, by decide +kernel, by decide +kernel⟩⟩
theorem w_1_84 : x_cv RX1 84 yX9_passTown cX9_passTown 4 (some .boolean) 9 2 := ⟨⟨_, rfl, rfl⟩, (x_in 1181 (by decide +kernel) rfl), (x_in 1009 (by decide +kernel) rfl), (x_in 1010 (by decide +kernel) rfl), (x_in 85 (by decide +kernel) rfl), (x_in 1011 (by decide +kernel) rfl), by decide, ⟨by decide +kernel, by decide +kernel, by decide +kernel⟩⟩
theorem c1_plain {X : xC} {l : Launch} (hl : l.stackTraces = false) {N : Nat} {sh : xS} {D : xM} {co : Nat} (hco : is_Co N sh co) (hok : co_ok D co) {nr na : Nat} (hs : is_St N sh nr na) {la T C : Nat} (hL : is_L N sh la) {G : Ldt} (hG : ldG D la T C G) (hsep : na < la ∨ la + 14 < na) (hsc : co + 8 < la ∨ la + 14 < co) (hnc : na < co ∨ co + 8 < na) {B : Int} (hk : s_ok B (D na)) (hB : B ≤ 700000) {last : Nat} (hl30 : last ≤ 30) : x_M X l yX1_layPlain cX1_layPlain 6 (none) 6 0 0 [.ref (x_b X + co), .ref (x_b X + la), .ref (x_b X + nr), .int (xI (last : Int))] false N sh D (.inl none) false N sh (fun d => (∀ t k : Nat, t < T → k ≤ last → d (co + 1) ((t : Int) * 31 + k) = s_days G T C (D na) k (1 + (t : Int))) ∧ co_ok d co ∧ (∀ j, x_r (d (la + 12) j)) ∧ (∀ j, j ≠ co + 1 → j ≠ co + 6 → j ≠ la + 12 → d j = D j)) := by
  obtain ⟨hco8, hc0, hk1, hk2, hk3, hk4, hS5, hS7⟩ := id hco
  have hcoN : co < N := by omega
  have hcN1 : co + 1 < N := by omega
  have hcN2 : co + 2 < N := by omega
  have hcN3 : co + 3 < N := by omega
  have hcN4 : co + 4 < N := by omega
  obtain ⟨hcN5, hk5, hcN6, hk6⟩ := id hS5
  obtain ⟨hcN7, hk7, hcN8, hk8⟩ := id hS7
  obtain ⟨b1, b2, b3, b4⟩ := id hok
  obtain ⟨hrN, hr, haN, ha⟩ := id hs
  obtain ⟨hlaN0, hla, -⟩ := id hL
  have hlaN : la < N := by omega
  obtain ⟨hG1, hG2, hG3⟩ := ldG_G hG
  obtain ⟨n0, ⟨q1, q2, q3, q4, -⟩, -⟩ := id hG
  have hB0 : 0 ≤ B := by have := (hk 0).1 rfl; omega
  refine x_ofW (by decide +kernel) hl (by simp [Value.category]) (by simp) ?_
  have hloop : ∀ k : Nat, k ≤ last + 1 → ∀ d : xM, (∀ t k2 : Nat, t < T → k2 < k → d (co + 1) ((t : Int) * 31 + k2) = s_days G T C (D na) k2 (1 + (t : Int))) → (∀ j, 0 ≤ d (co + 1) j ∧ d (co + 1) j ≤ 9999) → d (co + 6) = s_days G T C (D na) k → (∀ j, x_r (d (la + 12) j)) → (∀ j, j ≠ co + 1 → j ≠ co + 6 → j ≠ la + 12 → d j = D j) → x_W (X, l, yX1_layPlain, cX1_layPlain, 6, none, x_room 6 0 0, 0, 0, (.inl none), N, sh, (fun d => (∀ t k : Nat, t < T → k ≤ last → d (co + 1) ((t : Int) * 31 + k) = s_days G T C (D na) k (1 + (t : Int))) ∧ co_ok d co ∧ (∀ j, x_r (d (la + 12) j)) ∧ (∀ j, j ≠ co + 1 → j ≠ co + 6 → j ≠ la + 12 → d j = D j)), false, []) 11 [some (.ref (x_b X + co)), some (.ref (x_b X + la)), some (.ref (x_b X + nr)), some (.int (xI (last : Int))), some (.int (xI (k : Int))), none] [] 0 0 false N sh d := by
    refine x_down (last + 1) ?_ ?_
    · intro d p1 p2 p3 p4 p5
      refine x_iload dX1_layPlain_11 x_get_6_4 ?_
      refine x_iload_n dX1_layPlain_13 x_get_6_3 ?_
      refine r_icmp_gt (t := 74) dX1_layPlain_14 rfl ⟨by omega, by omega⟩ ⟨by omega, by omega⟩ (fun hc14 => ?_) (fun hc14 => absurd hc14 (by omega))
      exact x_vret dX1_layPlain_74 rfl (Nat.le_of_ble_eq_true rfl) (Nat.le_of_ble_eq_true rfl) rfl rfl rfl ⟨fun t k h1 h2 => p1 t k h1 (by omega), ⟨p2, by rw [p5 _ (by omega) (by omega) (by omega)]; exact b2, by rw [p5 _ (by omega) (by omega) (by omega)]; exact b3, by rw [p5 _ (by omega) (by omega) (by omega)]; exact b4⟩, p4, p5⟩ rfl
    · intro k hkk ih d p1 p2 p3 p4 p5
      have hkd := s_ok_days hk hG1 hG2 q2 q4 k
      have hin : ∀ t : Nat, t ≤ T → ∀ d : xM, (∀ t2 : Nat, t2 < t → d (co + 1) ((t2 : Int) * 31 + k) = s_days G T C (D na) k (1 + (t2 : Int))) → (∀ t k2 : Nat, t < T → k2 < k → d (co + 1) ((t : Int) * 31 + k2) = s_days G T C (D na) k2 (1 + (t : Int))) → (∀ j, 0 ≤ d (co + 1) j ∧ d (co + 1) j ≤ 9999) → d (co + 6) = s_days G T C (D na) k → (∀ j, x_r (d (la + 12) j)) → (∀ j, j ≠ co + 1 → j ≠ co + 6 → j ≠ la + 12 → d j = D j) → x_W (X, l, yX1_layPlain, cX1_layPlain, 6, none, x_room 6 0 0, 0, 0, (.inl none), N, sh, (fun d => (∀ t k : Nat, t < T → k ≤ last → d (co + 1) ((t : Int) * 31 + k) = s_days G T C (D na) k (1 + (t : Int))) ∧ co_ok d co ∧ (∀ j, x_r (d (la + 12) j)) ∧ (∀ j, j ≠ co + 1 → j ≠ co + 6 → j ≠ la + 12 → d j = D j)), false, []) 20 [some (.ref (x_b X + co)), some (.ref (x_b X + la)), some (.ref (x_b X + nr)), some (.int (xI (last : Int))), some (.int (xI (k : Int))), some (.int (xI (t : Int)))] [] 0 0 false N sh d := by
        refine x_down T ?_ ?_
        · intro d pt p1 p2 p3 p4 p5
          refine x_iload dX1_layPlain_20 x_get_6_5 ?_
          refine x_aload_n dX1_layPlain_22 x_get_6_1 ?_
          refine x_getI 0 dX1_layPlain_23 fX_1_39 rfl (by assumption) (by assumption) (by rfl) ?_
          rw [p5 la (by omega) (by omega) (by omega), q1]
          refine r_icmp_ge (t := 60) dX1_layPlain_26 rfl ⟨by omega, by omega⟩ ⟨by omega, by omega⟩ (fun hc26 => ?_) (fun hc26 => absurd hc26 (by omega))
          refine x_aload_n dX1_layPlain_60 x_get_6_0 ?_
          refine x_getR dX1_layPlain_61 fX_1_28 (by assumption) (by assumption) (by rfl) ?_
          refine x_aload_n dX1_layPlain_64 x_get_6_1 ?_
          refine x_callV (As := [_]) dX1_layPlain_65 w_1_48 (c9_passDay hl hS5 hL (ldG_of hG (fun j h1 h2 => p5 j (by omega) (by omega) (by omega)) p4) (by omega) (B := B + 161 * k) (by rw [p3]; exact hkd) (by omega)) (by assumption) (by assumption) rfl rfl (Nat.le_of_ble_eq_true rfl) (Nat.le_of_ble_eq_true rfl) (Nat.le_of_ble_eq_true rfl) (Nat.le_of_ble_eq_true rfl) (Nat.le_of_ble_eq_true rfl) ?_
          rintro _ ⟨w, hw, rfl⟩
          refine x_iinc dX1_layPlain_68 x_get_6_4 (Nat.le_of_ble_eq_true rfl) rfl x_set_6_4 ?_
          refine x_goto (t := 11) dX1_layPlain_71 rfl ?_
          refine x_forget 5 ?_
          refine ih _ ?_ ?_ ?_ ?_ ?_
          · intro t k2 h1 h2
            rw [x_up_n (by omega), x_up_n (by omega)]
            by_cases hk2 : k2 = k
            · rw [hk2]; exact pt t h1
            · exact p1 t k2 h1 (by omega)
          · rw [x_up_n (by omega), x_up_n (by omega)]; exact p2
          · rw [x_up_n (by omega), x_up_s, p3]; rfl
          · rw [x_up_s]; exact hw
          · intro j h1 h2 h3
            rw [x_up_n h3, x_up_n h2]
            exact p5 j h1 h2 h3
        · intro t ht iht d pt p1 p2 p3 p4 p5
          have htk := (s_tn (t := (t : Int)) hkd (by omega) (by omega)).1
          refine x_iload dX1_layPlain_20 x_get_6_5 ?_
          refine x_aload_n dX1_layPlain_22 x_get_6_1 ?_
          refine x_getI 0 dX1_layPlain_23 fX_1_39 rfl (by assumption) (by assumption) (by rfl) ?_
          first | rw [p5 la (by omega) (by omega) (by omega), q1] | rw [p3]
          refine r_icmp_ge (t := 60) dX1_layPlain_26 rfl ⟨by omega, by omega⟩ ⟨by omega, by omega⟩ (fun hc26 => absurd hc26 (by omega)) (fun hc26 => ?_)
          refine x_aload_n dX1_layPlain_29 x_get_6_0 ?_
          refine x_getR dX1_layPlain_30 fX_1_11 (by assumption) (by assumption) (by rfl) ?_
          refine x_iload dX1_layPlain_33 x_get_6_5 ?_
          refine x_bipush dX1_layPlain_35 rfl ?_
          refine x_imul dX1_layPlain_37 ?_
          refine x_iload dX1_layPlain_38 x_get_6_4 ?_
          refine x_iadd dX1_layPlain_40 ?_
          refine x_aload_n dX1_layPlain_41 x_get_6_0 ?_
          refine x_getR dX1_layPlain_42 fX_1_28 (by assumption) (by assumption) (by rfl) ?_
          refine x_getR dX1_layPlain_45 fX_1_45 (by assumption) (by assumption) (by rfl) ?_
          refine x_iconst dX1_layPlain_48 ?_
          refine x_iload dX1_layPlain_49 x_get_6_5 ?_
          refine x_iadd dX1_layPlain_51 ?_
          refine x_iald dX1_layPlain_52 (by assumption) (by assumption) (by omega) (by omega) (by decide) ?_
          first | rw [p5 la (by omega) (by omega) (by omega), q1] | rw [p3]
          refine x_iast dX1_layPlain_53 (by assumption) (by assumption) (by omega) (by omega) (by decide) ?_
          refine x_iinc dX1_layPlain_54 x_get_6_5 (Nat.le_of_ble_eq_true rfl) rfl x_set_6_5 ?_
          refine x_goto (t := 20) dX1_layPlain_57 rfl ?_
          refine iht _ ?_ ?_ ?_ ?_ ?_ ?_
          · intro t2 h2
            rw [x_up_s]
            by_cases e : t2 = t
            · rw [e, x_u1_s]
            · rw [x_u1_n (by omega)]; exact pt t2 (by omega)
          · intro t2 k2 h1 h2
            rw [x_up_s, x_u1_n (by omega)]
            exact p1 t2 k2 h1 h2
          · rw [x_up_s]; exact m_ok_u1 p2 htk.1 htk.2
          · rw [x_up_n (by omega)]; exact p3
          · rw [x_up_n (by omega)]; exact p4
          · intro j h1 h2 h3
            rw [x_up_n h1]
            exact p5 j h1 h2 h3
      refine x_iload dX1_layPlain_11 x_get_6_4 ?_
      refine x_iload_n dX1_layPlain_13 x_get_6_3 ?_
      refine r_icmp_gt (t := 74) dX1_layPlain_14 rfl ⟨by omega, by omega⟩ ⟨by omega, by omega⟩ (fun hc14 => absurd hc14 (by omega)) (fun hc14 => ?_)
      refine x_iconst dX1_layPlain_17 ?_
      refine x_istore dX1_layPlain_18 (Nat.le_of_ble_eq_true rfl) rfl x_set_6_5 ?_
      exact hin 0 (Nat.zero_le _) d (fun t2 h => by omega) p1 p2 p3 p4 p5
  refine x_aload_n dX1_layPlain_0 x_get_6_0 ?_
  refine x_getR dX1_layPlain_1 fX_1_28 (by assumption) (by assumption) (by rfl) ?_
  refine x_aload_n dX1_layPlain_4 x_get_6_2 ?_
  refine x_callV (As := [_]) dX1_layPlain_5 w_1_35 (c9_take2 hl hS5 hs) (by assumption) (by assumption) rfl rfl (Nat.le_of_ble_eq_true rfl) (Nat.le_of_ble_eq_true rfl) (Nat.le_of_ble_eq_true rfl) (Nat.le_of_ble_eq_true rfl) (Nat.le_of_ble_eq_true rfl) ?_
  intro d hd
  obtain rfl := Eq.symm hd
  refine x_iconst dX1_layPlain_8 ?_
  refine x_istore dX1_layPlain_9 (Nat.le_of_ble_eq_true rfl) rfl x_set_6_4 ?_
  refine hloop 0 (Nat.zero_le _) _ ?_ ?_ ?_ ?_ ?_
  · intro t k2 h1 h2; omega
  · rw [x_up_n (by omega)]; exact b1
  · rw [x_up_s]; rfl
  · rw [x_up_n (by omega)]; exact ldG_w hG
  · intro j h1 h2 h3; exact x_up_n h2
theorem c1_crate {X : xC} {l : Launch} (hl : l.stackTraces = false) {N : Nat} {sh : xS} {D : xM} {co : Nat} (hco : is_Co N sh co) (hok : co_ok D co) {nr na : Nat} (hs : is_St N sh nr na) {la T C : Nat} (hL : is_L N sh la) {G : Ldt} (hG : ldG D la T C G) (hsep : na < la ∨ la + 14 < na) (hsc : co + 8 < la ∨ la + 14 < co) (hnc : na < co ∨ co + 8 < na) {B : Int} (hk : s_ok B (D na)) (hB : B ≤ 700000) {last : Nat} (hl30 : last ≤ 30) {c : Int} (h0 : 0 ≤ c) (h1 : c < 10) (hwh : D (co + 3) c = D na (55 + c)) (hpc : 0 ≤ D na (55 + c)) : x_M X l yX1_layCrate cX1_layCrate 9 (none) 6 0 0 [.ref (x_b X + co), .ref (x_b X + la), .ref (x_b X + nr), .int (xI c), .int (xI (last : Int))] false N sh D (.inl none) false N sh (fun d => (∀ o k : Nat, o < 10 → k ≤ last → d (co + 2) ((c * 10 + o) * 31 + k) = y_crs G C (D na) (fun k => D (co + 1) (D na (55 + c) * 31 + k)) (D na (55 + c)) c o k) ∧ (∀ j : Int, j < c * 310 ∨ c * 310 + 310 ≤ j → d (co + 2) j = D (co + 2) j) ∧ (∀ j, 0 ≤ d (co + 2) j ∧ d (co + 2) j ≤ 9999) ∧ (∀ j, x_r (d (la + 12) j)) ∧ (∀ j, j ≠ co + 2 → j ≠ co + 6 → j ≠ co + 8 → j ≠ la + 12 → d j = D j)) := by
  obtain ⟨hco8, hc0, hk1, hk2, hk3, hk4, hS5, hS7⟩ := id hco
  have hcoN : co < N := by omega
  have hcN1 : co + 1 < N := by omega
  have hcN2 : co + 2 < N := by omega
  have hcN3 : co + 3 < N := by omega
  have hcN4 : co + 4 < N := by omega
  obtain ⟨hcN5, hk5, hcN6, hk6⟩ := id hS5
  obtain ⟨hcN7, hk7, hcN8, hk8⟩ := id hS7
  obtain ⟨b1, b2, b3, b4⟩ := id hok
  obtain ⟨hrN, hr, haN, ha⟩ := id hs
  obtain ⟨hlaN0, hla, -⟩ := id hL
  have hlaN : la < N := by omega
  obtain ⟨hG1, hG2, hG3⟩ := ldG_G hG
  obtain ⟨n0, ⟨q1, q2, q3, q4, -⟩, -⟩ := id hG
  have hB0 : 0 ≤ B := by have := (hk 0).1 rfl; omega
  have hpc7 : (D na (55 + c)) ≤ 7 := (s_cr hk h0 h1).2.2.2.1.2
  have hpc8 : (D na (55 + c)) < 8 := by omega
  refine x_ofW (by decide +kernel) hl (by simp [Value.category]) (by simp) ?_
  have hloop : ∀ o : Nat, o ≤ 10 → ∀ d : xM, (∀ o2 k : Nat, o2 < o → k ≤ last → d (co + 2) ((c * 10 + o2) * 31 + k) = y_crs G C (D na) (fun k => D (co + 1) (D na (55 + c) * 31 + k)) (D na (55 + c)) c o2 k) → d (co + 6) = s_towns G C (D na) (D na (55 + c)) o → (∀ j : Int, j < c * 310 ∨ c * 310 + 310 ≤ j → d (co + 2) j = D (co + 2) j) → (∀ j, 0 ≤ d (co + 2) j ∧ d (co + 2) j ≤ 9999) → (∀ j, x_r (d (la + 12) j)) → (∀ j, j ≠ co + 2 → j ≠ co + 6 → j ≠ co + 8 → j ≠ la + 12 → d j = D j) → x_W (X, l, yX1_layCrate, cX1_layCrate, 9, none, x_room 6 0 0, 0, 0, (.inl none), N, sh, (fun d => (∀ o k : Nat, o < 10 → k ≤ last → d (co + 2) ((c * 10 + o) * 31 + k) = y_crs G C (D na) (fun k => D (co + 1) (D na (55 + c) * 31 + k)) (D na (55 + c)) c o k) ∧ (∀ j : Int, j < c * 310 ∨ c * 310 + 310 ≤ j → d (co + 2) j = D (co + 2) j) ∧ (∀ j, 0 ≤ d (co + 2) j ∧ d (co + 2) j ≤ 9999) ∧ (∀ j, x_r (d (la + 12) j)) ∧ (∀ j, j ≠ co + 2 → j ≠ co + 6 → j ≠ co + 8 → j ≠ la + 12 → d j = D j)), false, []) 19 [some (.ref (x_b X + co)), some (.ref (x_b X + la)), some (.ref (x_b X + nr)), some (.int (xI c)), some (.int (xI (last : Int))), some (.int (xI (D na (55 + c)))), some (.int (xI (o : Int))), none, none] [] 0 0 false N sh d := by
    refine x_down 10 ?_ ?_
    · intro d p1 p2 p3 p4 p5 p6
      refine x_iload dX1_layCrate_19 x_get_9_6 ?_
      refine x_bipush dX1_layCrate_21 rfl ?_
      refine r_icmp_ge (t := 171) dX1_layCrate_23 rfl ⟨by omega, by omega⟩ ⟨by omega, by omega⟩ (fun hc23 => ?_) (fun hc23 => absurd hc23 (by omega))
      exact x_vret dX1_layCrate_171 rfl (Nat.le_of_ble_eq_true rfl) (Nat.le_of_ble_eq_true rfl) rfl rfl rfl ⟨p1, p3, p4, p5, p6⟩ rfl
    · intro o ho ih d p1 p2 p3 p4 p5 p6
      have hkb := s_ok_towns hk hG1 hG2 q4 hpc hpc8 (C := C) o
      have hpo : s_towns G C (D na) (D na (55 + c)) o (55 + c) = (D na (55 + c)) := s_towns_keep q4 hpc hpc8 (by omega) o
      have hko := s_ok_opn hkb h0 h1 (by rw [hpo]; exact hpc)
      have l3 : ∀ k : Nat, o ≤ k → k ≤ last + 1 → ∀ d : xM, (∀ o2 k : Nat, o2 < o → k ≤ last → d (co + 2) ((c * 10 + o2) * 31 + k) = y_crs G C (D na) (fun k => D (co + 1) (D na (55 + c) * 31 + k)) (D na (55 + c)) c o2 k) → (∀ k2 : Nat, k2 < k → k2 ≤ last → d (co + 2) (((c * 10 + (o : Int)) * 31) + k2) = y_crs G C (D na) (fun k => D (co + 1) (D na (55 + c) * 31 + k)) (D na (55 + c)) c o k2) → d (co + 6) = s_towns G C (D na) (D na (55 + c)) o → d (co + 8) = s_towns G C (s_opn (s_towns G C (D na) (D na (55 + c)) o) c) (D na (55 + c)) (k - o) → (∀ j : Int, j < c * 310 ∨ c * 310 + 310 ≤ j → d (co + 2) j = D (co + 2) j) → (∀ j, 0 ≤ d (co + 2) j ∧ d (co + 2) j ≤ 9999) → (∀ j, x_r (d (la + 12) j)) → (∀ j, j ≠ co + 2 → j ≠ co + 6 → j ≠ co + 8 → j ≠ la + 12 → d j = D j) → x_W (X, l, yX1_layCrate, cX1_layCrate, 9, none, x_room 6 0 0, 0, 0, (.inl none), N, sh, (fun d => (∀ o k : Nat, o < 10 → k ≤ last → d (co + 2) ((c * 10 + o) * 31 + k) = y_crs G C (D na) (fun k => D (co + 1) (D na (55 + c) * 31 + k)) (D na (55 + c)) c o k) ∧ (∀ j : Int, j < c * 310 ∨ c * 310 + 310 ≤ j → d (co + 2) j = D (co + 2) j) ∧ (∀ j, 0 ≤ d (co + 2) j ∧ d (co + 2) j ≤ 9999) ∧ (∀ j, x_r (d (la + 12) j)) ∧ (∀ j, j ≠ co + 2 → j ≠ co + 6 → j ≠ co + 8 → j ≠ la + 12 → d j = D j)), false, []) 108 [some (.ref (x_b X + co)), some (.ref (x_b X + la)), some (.ref (x_b X + nr)), some (.int (xI c)), some (.int (xI (last : Int))), some (.int (xI (D na (55 + c)))), some (.int (xI (o : Int))), some (.int (xI ((c * 10 + (o : Int)) * 31))), some (.int (xI (k : Int)))] [] 0 0 false N sh d := by
        intro k hok2 hkl
        obtain ⟨e, he⟩ : ∃ e, k + e = last + 1 := ⟨last + 1 - k, by omega⟩
        induction e generalizing k with
        | zero =>
          intro d p1 pk p2 p7 p3 p4 p5 p6
          have hk1 : k = last + 1 := by omega
          refine x_iload dX1_layCrate_108 x_get_9_8 ?_
          refine x_iload dX1_layCrate_110 x_get_9_4 ?_
          refine r_icmp_gt (t := 154) dX1_layCrate_112 rfl ⟨by omega, by omega⟩ ⟨by omega, by omega⟩ (fun hc112 => ?_) (fun hc112 => absurd hc112 (by omega))
          refine x_aload_n dX1_layCrate_154 x_get_9_0 ?_
          refine x_getR dX1_layCrate_155 fX_1_28 (by assumption) (by assumption) (by rfl) ?_
          refine x_aload_n dX1_layCrate_158 x_get_9_1 ?_
          refine x_iload dX1_layCrate_159 x_get_9_5 ?_
          refine x_callV (As := [_, _]) dX1_layCrate_161 w_1_84 (c9_passTown hl hS5 hL (ldG_of hG (fun j h1 h2 => p6 j (by omega) (by omega) (by omega) (by omega)) p5) (by omega) (B := B + 21 * o) (by rw [p2]; first | exact hkb | exact hkt) (by omega) (t := (D na (55 + c))) hpc hpc8) (by assumption) (by assumption) rfl rfl (Nat.le_of_ble_eq_true rfl) (Nat.le_of_ble_eq_true rfl) (Nat.le_of_ble_eq_true rfl) (Nat.le_of_ble_eq_true rfl) (Nat.le_of_ble_eq_true rfl) ?_
          rintro _ ⟨w, hw, rfl⟩
          refine x_pop dX1_layCrate_164 rfl ?_
          refine x_iinc dX1_layCrate_165 x_get_9_6 (Nat.le_of_ble_eq_true rfl) rfl x_set_9_6 ?_
          refine x_goto (t := 19) dX1_layCrate_168 rfl ?_
          refine x_forget 7 (x_forget 8 ?_)
          refine ih _ ?_ ?_ ?_ ?_ ?_ ?_
          · intro o2 k2 g1 g2
            rw [x_up_n (by omega), x_up_n (by omega)]
            by_cases e : o2 = o
            · rw [e]; exact pk k2 (by omega) g2
            · exact p1 o2 k2 (by omega) g2
          · rw [x_up_n (by omega), x_up_s, p2]; rfl
          · intro j g
            rw [x_up_n (by omega), x_up_n (by omega)]
            exact p3 j g
          · rw [x_up_n (by omega), x_up_n (by omega)]; exact p4
          · rw [x_up_s]; exact hw
          · intro j g1 g2 g3 g4
            rw [x_up_n g4, x_up_n g2]
            exact p6 j g1 g2 g3 g4
        | succ e ihe =>
          intro d p1 pk p2 p7 p3 p4 p5 p6
          have hkt := s_ok_towns hko hG1 hG2 q4 hpc hpc8 (C := C) (k - o)
          have hlk := (s_tn hkt hpc hpc8).1
          refine x_iload dX1_layCrate_108 x_get_9_8 ?_
          refine x_iload dX1_layCrate_110 x_get_9_4 ?_
          refine r_icmp_gt (t := 154) dX1_layCrate_112 rfl ⟨by omega, by omega⟩ ⟨by omega, by omega⟩ (fun hc112 => absurd hc112 (by omega)) (fun hc112 => ?_)
          refine x_aload_n dX1_layCrate_115 x_get_9_0 ?_
          refine x_getR dX1_layCrate_116 fX_1_15 (by assumption) (by assumption) (by rfl) ?_
          refine x_iload dX1_layCrate_119 x_get_9_7 ?_
          refine x_iload dX1_layCrate_121 x_get_9_8 ?_
          refine x_iadd dX1_layCrate_123 ?_
          refine x_aload_n dX1_layCrate_124 x_get_9_0 ?_
          refine x_getR dX1_layCrate_125 fX_1_32 (by assumption) (by assumption) (by rfl) ?_
          refine x_getR dX1_layCrate_128 fX_1_45 (by assumption) (by assumption) (by rfl) ?_
          refine x_iconst dX1_layCrate_131 ?_
          refine x_iload dX1_layCrate_132 x_get_9_5 ?_
          refine x_iadd dX1_layCrate_134 ?_
          refine x_iald dX1_layCrate_135 (by assumption) (by assumption) (by omega) (by omega) (by decide) ?_
          rw [p7]
          refine x_iast dX1_layCrate_136 (by assumption) (by assumption) (by omega) (by omega) (by decide) ?_
          refine x_aload_n dX1_layCrate_137 x_get_9_0 ?_
          refine x_getR dX1_layCrate_138 fX_1_32 (by assumption) (by assumption) (by rfl) ?_
          refine x_aload_n dX1_layCrate_141 x_get_9_1 ?_
          refine x_iload dX1_layCrate_142 x_get_9_5 ?_
          refine x_callV (As := [_, _]) dX1_layCrate_144 w_1_84 (c9_passTown hl hS7 hL (ldG_of hG (fun j h1 h2 => by rw [x_up_n (by omega)]; exact p6 j (by omega) (by omega) (by omega) (by omega)) (by rw [x_up_n (by omega)]; exact p5)) (by omega) (B := B + 21 * o + 21 * (k - o : Nat)) (by rw [x_up_n (by omega), p7]; exact hkt) (by omega) (t := (D na (55 + c))) hpc hpc8) (by assumption) (by assumption) rfl rfl (Nat.le_of_ble_eq_true rfl) (Nat.le_of_ble_eq_true rfl) (Nat.le_of_ble_eq_true rfl) (Nat.le_of_ble_eq_true rfl) (Nat.le_of_ble_eq_true rfl) ?_
          rintro _ ⟨w, hw, rfl⟩
          refine x_pop dX1_layCrate_147 rfl ?_
          refine x_iinc dX1_layCrate_148 x_get_9_8 (Nat.le_of_ble_eq_true rfl) rfl x_set_9_8 ?_
          refine x_goto (t := 108) dX1_layCrate_151 rfl ?_
          refine ihe (k + 1) (by omega) (by omega) (by omega) _ ?_ ?_ ?_ ?_ ?_ ?_ ?_ ?_
          · intro o2 k2 g1 g2
            rw [x_up_n (by omega), x_up_n (by omega), x_up_s, x_u1_n (by omega)]
            exact p1 o2 k2 g1 g2
          · intro k2 g1 g2
            rw [x_up_n (by omega), x_up_n (by omega), x_up_s]
            by_cases e : k2 = k
            · rw [e, x_u1_s, y_crs, if_neg (by omega)]
            · rw [x_u1_n (by omega)]; exact pk k2 (by omega) g2
          · rw [x_up_n (by omega), x_up_n (by omega), x_up_n (by omega)]; exact p2
          · rw [x_up_n (by omega), x_up_s, x_up_n (by omega), p7, show k + 1 - o = (k - o) + 1 by omega]; rfl
          · intro j g
            rw [x_up_n (by omega), x_up_n (by omega), x_up_s, x_u1_n (by omega)]
            exact p3 j g
          · rw [x_up_n (by omega), x_up_n (by omega), x_up_s]; exact m_ok_u1 p4 hlk.1 hlk.2
          · rw [x_up_s]; exact hw
          · intro j g1 g2 g3 g4
            rw [x_up_n g4, x_up_n g3, x_up_n g1]
            exact p6 j g1 g2 g3 g4
      have l4 : ∀ d : xM, (∀ o2 k : Nat, o2 < o → k ≤ last → d (co + 2) ((c * 10 + o2) * 31 + k) = y_crs G C (D na) (fun k => D (co + 1) (D na (55 + c) * 31 + k)) (D na (55 + c)) c o2 k) → (∀ k2 : Nat, k2 < o → k2 ≤ last → d (co + 2) (((c * 10 + (o : Int)) * 31) + k2) = y_crs G C (D na) (fun k => D (co + 1) (D na (55 + c) * 31 + k)) (D na (55 + c)) c o k2) → d (co + 6) = s_towns G C (D na) (D na (55 + c)) o → d (co + 8) = s_opn (s_towns G C (D na) (D na (55 + c)) o) c → (∀ j : Int, j < c * 310 ∨ c * 310 + 310 ≤ j → d (co + 2) j = D (co + 2) j) → (∀ j, 0 ≤ d (co + 2) j ∧ d (co + 2) j ≤ 9999) → (∀ j, x_r (d (la + 12) j)) → (∀ j, j ≠ co + 2 → j ≠ co + 6 → j ≠ co + 8 → j ≠ la + 12 → d j = D j) → x_W (X, l, yX1_layCrate, cX1_layCrate, 9, none, x_room 6 0 0, 0, 0, (.inl none), N, sh, (fun d => (∀ o k : Nat, o < 10 → k ≤ last → d (co + 2) ((c * 10 + o) * 31 + k) = y_crs G C (D na) (fun k => D (co + 1) (D na (55 + c) * 31 + k)) (D na (55 + c)) c o k) ∧ (∀ j : Int, j < c * 310 ∨ c * 310 + 310 ≤ j → d (co + 2) j = D (co + 2) j) ∧ (∀ j, 0 ≤ d (co + 2) j ∧ d (co + 2) j ≤ 9999) ∧ (∀ j, x_r (d (la + 12) j)) ∧ (∀ j, j ≠ co + 2 → j ≠ co + 6 → j ≠ co + 8 → j ≠ la + 12 → d j = D j)), false, []) 108 [some (.ref (x_b X + co)), some (.ref (x_b X + la)), some (.ref (x_b X + nr)), some (.int (xI c)), some (.int (xI (last : Int))), some (.int (xI (D na (55 + c)))), some (.int (xI (o : Int))), some (.int (xI ((c * 10 + (o : Int)) * 31))), some (.int (xI (o : Int)))] [] 0 0 false N sh d := by
        intro d p1 pk p2 p7 p3 p4 p5 p6
        by_cases hol : o ≤ last + 1
        · exact l3 o (Nat.le_refl _) hol d p1 pk p2 (by rw [Nat.sub_self]; exact p7) p3 p4 p5 p6
        · refine x_iload dX1_layCrate_108 x_get_9_8 ?_
          refine x_iload dX1_layCrate_110 x_get_9_4 ?_
          refine r_icmp_gt (t := 154) dX1_layCrate_112 rfl ⟨by omega, by omega⟩ ⟨by omega, by omega⟩ (fun hc112 => ?_) (fun hc112 => absurd hc112 (by omega))
          refine x_aload_n dX1_layCrate_154 x_get_9_0 ?_
          refine x_getR dX1_layCrate_155 fX_1_28 (by assumption) (by assumption) (by rfl) ?_
          refine x_aload_n dX1_layCrate_158 x_get_9_1 ?_
          refine x_iload dX1_layCrate_159 x_get_9_5 ?_
          refine x_callV (As := [_, _]) dX1_layCrate_161 w_1_84 (c9_passTown hl hS5 hL (ldG_of hG (fun j h1 h2 => p6 j (by omega) (by omega) (by omega) (by omega)) p5) (by omega) (B := B + 21 * o) (by rw [p2]; first | exact hkb | exact hkt) (by omega) (t := (D na (55 + c))) hpc hpc8) (by assumption) (by assumption) rfl rfl (Nat.le_of_ble_eq_true rfl) (Nat.le_of_ble_eq_true rfl) (Nat.le_of_ble_eq_true rfl) (Nat.le_of_ble_eq_true rfl) (Nat.le_of_ble_eq_true rfl) ?_
          rintro _ ⟨w, hw, rfl⟩
          refine x_pop dX1_layCrate_164 rfl ?_
          refine x_iinc dX1_layCrate_165 x_get_9_6 (Nat.le_of_ble_eq_true rfl) rfl x_set_9_6 ?_
          refine x_goto (t := 19) dX1_layCrate_168 rfl ?_
          refine x_forget 7 (x_forget 8 ?_)
          refine ih _ ?_ ?_ ?_ ?_ ?_ ?_
          · intro o2 k2 g1 g2
            rw [x_up_n (by omega), x_up_n (by omega)]
            by_cases e : o2 = o
            · rw [e]; exact pk k2 (by omega) g2
            · exact p1 o2 k2 (by omega) g2
          · rw [x_up_n (by omega), x_up_s, p2]; rfl
          · intro j g
            rw [x_up_n (by omega), x_up_n (by omega)]
            exact p3 j g
          · rw [x_up_n (by omega), x_up_n (by omega)]; exact p4
          · rw [x_up_s]; exact hw
          · intro j g1 g2 g3 g4
            rw [x_up_n g4, x_up_n g2]
            exact p6 j g1 g2 g3 g4
      have tl : ∀ k : Nat, (k = o ∨ last < k) → k ≤ o → ∀ d : xM, (∀ o2 k : Nat, o2 < o → k ≤ last → d (co + 2) ((c * 10 + o2) * 31 + k) = y_crs G C (D na) (fun k => D (co + 1) (D na (55 + c) * 31 + k)) (D na (55 + c)) c o2 k) → (∀ k2 : Nat, k2 < k → k2 ≤ last → d (co + 2) (((c * 10 + (o : Int)) * 31) + k2) = y_crs G C (D na) (fun k => D (co + 1) (D na (55 + c) * 31 + k)) (D na (55 + c)) c o k2) → d (co + 6) = s_towns G C (D na) (D na (55 + c)) o → (∀ j : Int, j < c * 310 ∨ c * 310 + 310 ≤ j → d (co + 2) j = D (co + 2) j) → (∀ j, 0 ≤ d (co + 2) j ∧ d (co + 2) j ≤ 9999) → (∀ j, x_r (d (la + 12) j)) → (∀ j, j ≠ co + 2 → j ≠ co + 6 → j ≠ co + 8 → j ≠ la + 12 → d j = D j) → x_W (X, l, yX1_layCrate, cX1_layCrate, 9, none, x_room 6 0 0, 0, 0, (.inl none), N, sh, (fun d => (∀ o k : Nat, o < 10 → k ≤ last → d (co + 2) ((c * 10 + o) * 31 + k) = y_crs G C (D na) (fun k => D (co + 1) (D na (55 + c) * 31 + k)) (D na (55 + c)) c o k) ∧ (∀ j : Int, j < c * 310 ∨ c * 310 + 310 ≤ j → d (co + 2) j = D (co + 2) j) ∧ (∀ j, 0 ≤ d (co + 2) j ∧ d (co + 2) j ≤ 9999) ∧ (∀ j, x_r (d (la + 12) j)) ∧ (∀ j, j ≠ co + 2 → j ≠ co + 6 → j ≠ co + 8 → j ≠ la + 12 → d j = D j)), false, []) 84 [some (.ref (x_b X + co)), some (.ref (x_b X + la)), some (.ref (x_b X + nr)), some (.int (xI c)), some (.int (xI (last : Int))), some (.int (xI (D na (55 + c)))), some (.int (xI (o : Int))), some (.int (xI ((c * 10 + (o : Int)) * 31))), none] [] 0 0 false N sh d := by
        intro k hkc hko2 d p1 pk p2 p3 p4 p5 p6
        refine x_aload_n dX1_layCrate_84 x_get_9_0 ?_
        refine x_getR dX1_layCrate_85 fX_1_32 (by assumption) (by assumption) (by rfl) ?_
        refine x_aload_n dX1_layCrate_88 x_get_9_0 ?_
        refine x_getR dX1_layCrate_89 fX_1_28 (by assumption) (by assumption) (by rfl) ?_
        refine x_callV (As := [_]) dX1_layCrate_92 w_1_35 (c9_take2 hl hS7 hS5) (by assumption) (by assumption) rfl rfl (Nat.le_of_ble_eq_true rfl) (Nat.le_of_ble_eq_true rfl) (Nat.le_of_ble_eq_true rfl) (Nat.le_of_ble_eq_true rfl) (Nat.le_of_ble_eq_true rfl) ?_
        intro d2 hd2
        obtain rfl := Eq.symm hd2
        rw [p2]
        refine x_aload_n dX1_layCrate_95 x_get_9_0 ?_
        refine x_getR dX1_layCrate_96 fX_1_32 (by assumption) (by assumption) (by rfl) ?_
        refine x_iload_n dX1_layCrate_99 x_get_9_3 ?_
        refine x_callV (As := [_]) dX1_layCrate_100 w_1_80 (c9_unpack hl hS7 (B := B + 21 * o) (by omega) (by rw [x_up_s]; exact hkb) h0 h1 (by rw [x_up_s, hpo]; exact hpc)) (by assumption) (by assumption) rfl rfl (Nat.le_of_ble_eq_true rfl) (Nat.le_of_ble_eq_true rfl) (Nat.le_of_ble_eq_true rfl) (Nat.le_of_ble_eq_true rfl) (Nat.le_of_ble_eq_true rfl) ?_
        intro d3 hd3
        obtain rfl := Eq.symm hd3
        rw [x_up_s, x_up_up]
        refine x_pop dX1_layCrate_103 rfl ?_
        refine x_iload dX1_layCrate_104 x_get_9_6 ?_
        refine x_istore dX1_layCrate_106 (Nat.le_of_ble_eq_true rfl) rfl x_set_9_8 ?_
        exact l4 _ (by first | (intro o2 k2 g1 g2; rw [x_up_n (by omega)]; exact p1 o2 k2 g1 g2)) (by intro k2 g1 g2; rw [x_up_n (by omega)]; exact pk k2 (by omega) g2) (by rw [x_up_n (by omega)]; exact p2) x_up_s (by intro j g; rw [x_up_n (by omega)]; exact p3 j g) (by rw [x_up_n (by omega)]; exact p4) (by rw [x_up_n (by omega)]; exact p5) (by intro j g1 g2 g3 g4; rw [x_up_n g3]; exact p6 j g1 g2 g3 g4)
      have l2 : ∀ k : Nat, k ≤ o → k ≤ last + 1 → ∀ d : xM, (∀ o2 k : Nat, o2 < o → k ≤ last → d (co + 2) ((c * 10 + o2) * 31 + k) = y_crs G C (D na) (fun k => D (co + 1) (D na (55 + c) * 31 + k)) (D na (55 + c)) c o2 k) → (∀ k2 : Nat, k2 < k → k2 ≤ last → d (co + 2) (((c * 10 + (o : Int)) * 31) + k2) = y_crs G C (D na) (fun k => D (co + 1) (D na (55 + c) * 31 + k)) (D na (55 + c)) c o k2) → d (co + 6) = s_towns G C (D na) (D na (55 + c)) o → (∀ j : Int, j < c * 310 ∨ c * 310 + 310 ≤ j → d (co + 2) j = D (co + 2) j) → (∀ j, 0 ≤ d (co + 2) j ∧ d (co + 2) j ≤ 9999) → (∀ j, x_r (d (la + 12) j)) → (∀ j, j ≠ co + 2 → j ≠ co + 6 → j ≠ co + 8 → j ≠ la + 12 → d j = D j) → x_W (X, l, yX1_layCrate, cX1_layCrate, 9, none, x_room 6 0 0, 0, 0, (.inl none), N, sh, (fun d => (∀ o k : Nat, o < 10 → k ≤ last → d (co + 2) ((c * 10 + o) * 31 + k) = y_crs G C (D na) (fun k => D (co + 1) (D na (55 + c) * 31 + k)) (D na (55 + c)) c o k) ∧ (∀ j : Int, j < c * 310 ∨ c * 310 + 310 ≤ j → d (co + 2) j = D (co + 2) j) ∧ (∀ j, 0 ≤ d (co + 2) j ∧ d (co + 2) j ≤ 9999) ∧ (∀ j, x_r (d (la + 12) j)) ∧ (∀ j, j ≠ co + 2 → j ≠ co + 6 → j ≠ co + 8 → j ≠ la + 12 → d j = D j)), false, []) 41 [some (.ref (x_b X + co)), some (.ref (x_b X + la)), some (.ref (x_b X + nr)), some (.int (xI c)), some (.int (xI (last : Int))), some (.int (xI (D na (55 + c)))), some (.int (xI (o : Int))), some (.int (xI ((c * 10 + (o : Int)) * 31))), some (.int (xI (k : Int)))] [] 0 0 false N sh d := by
        intro k hko2 hkl
        obtain ⟨e, he⟩ : ∃ e, k + e = o := ⟨o - k, by omega⟩
        induction e generalizing k with
        | zero =>
          intro d p1 pk p2 p3 p4 p5 p6
          refine x_iload dX1_layCrate_41 x_get_9_8 ?_
          refine x_iload dX1_layCrate_43 x_get_9_6 ?_
          refine r_icmp_ge (t := 84) dX1_layCrate_45 rfl ⟨by omega, by omega⟩ ⟨by omega, by omega⟩ (fun hc45 => ?_) (fun hc45 => absurd hc45 (by omega))
          refine x_forget 8 ?_
          exact tl k (by omega) (by omega) d p1 pk p2 p3 p4 p5 p6
        | succ e ihe =>
          intro d p1 pk p2 p3 p4 p5 p6
          have hpl := b1 ((D na (55 + c)) * 31 + k)
          refine x_iload dX1_layCrate_41 x_get_9_8 ?_
          refine x_iload dX1_layCrate_43 x_get_9_6 ?_
          refine r_icmp_ge (t := 84) dX1_layCrate_45 rfl ⟨by omega, by omega⟩ ⟨by omega, by omega⟩ (fun hc45 => absurd hc45 (by omega)) (fun hc45 => ?_)
          refine x_iload dX1_layCrate_48 x_get_9_8 ?_
          refine x_iload dX1_layCrate_50 x_get_9_4 ?_
          refine r_icmp_gt (t := 84) dX1_layCrate_52 rfl ⟨by omega, by omega⟩ ⟨by omega, by omega⟩ (fun hc52 => ?_) (fun hc52 => ?_)
          · refine x_forget 8 ?_
            exact tl k (by omega) (by omega) d p1 pk p2 p3 p4 p5 p6
          · refine x_aload_n dX1_layCrate_55 x_get_9_0 ?_
            refine x_getR dX1_layCrate_56 fX_1_15 (by assumption) (by assumption) (by rfl) ?_
            refine x_iload dX1_layCrate_59 x_get_9_7 ?_
            refine x_iload dX1_layCrate_61 x_get_9_8 ?_
            refine x_iadd dX1_layCrate_63 ?_
            refine x_aload_n dX1_layCrate_64 x_get_9_0 ?_
            refine x_getR dX1_layCrate_65 fX_1_11 (by assumption) (by assumption) (by rfl) ?_
            refine x_iload dX1_layCrate_68 x_get_9_5 ?_
            refine x_bipush dX1_layCrate_70 rfl ?_
            refine x_imul dX1_layCrate_72 ?_
            refine x_iload dX1_layCrate_73 x_get_9_8 ?_
            refine x_iadd dX1_layCrate_75 ?_
            refine x_iald dX1_layCrate_76 (by assumption) (by assumption) (by omega) (by omega) (by decide) ?_
            rw [p6 (co + 1) (by omega) (by omega) (by omega) (by omega)]
            refine x_iast dX1_layCrate_77 (by assumption) (by assumption) (by omega) (by omega) (by decide) ?_
            refine x_iinc dX1_layCrate_78 x_get_9_8 (Nat.le_of_ble_eq_true rfl) rfl x_set_9_8 ?_
            refine x_goto (t := 41) dX1_layCrate_81 rfl ?_
            refine ihe (k + 1) (by omega) (by omega) (by omega) _ ?_ ?_ ?_ ?_ ?_ ?_ ?_
            · intro o2 k2 g1 g2
              rw [x_up_s, x_u1_n (by omega)]
              exact p1 o2 k2 g1 g2
            · intro k2 g1 g2
              rw [x_up_s]
              by_cases e : k2 = k
              · rw [e, x_u1_s, y_crs, if_pos (by omega)]
              · rw [x_u1_n (by omega)]; exact pk k2 (by omega) g2
            · rw [x_up_n (by omega)]; exact p2
            · intro j g
              rw [x_up_s, x_u1_n (by omega)]
              exact p3 j g
            · rw [x_up_s]; exact m_ok_u1 p4 hpl.1 hpl.2
            · rw [x_up_n (by omega)]; exact p5
            · intro j g1 g2 g3 g4
              rw [x_up_n g1]
              exact p6 j g1 g2 g3 g4
      refine x_iload dX1_layCrate_19 x_get_9_6 ?_
      refine x_bipush dX1_layCrate_21 rfl ?_
      refine r_icmp_ge (t := 171) dX1_layCrate_23 rfl ⟨by omega, by omega⟩ ⟨by omega, by omega⟩ (fun hc23 => absurd hc23 (by omega)) (fun hc23 => ?_)
      refine x_iload_n dX1_layCrate_26 x_get_9_3 ?_
      refine x_bipush dX1_layCrate_27 rfl ?_
      refine x_imul dX1_layCrate_29 ?_
      refine x_iload dX1_layCrate_30 x_get_9_6 ?_
      refine x_iadd dX1_layCrate_32 ?_
      refine x_bipush dX1_layCrate_33 rfl ?_
      refine x_imul dX1_layCrate_35 ?_
      refine x_istore dX1_layCrate_36 (Nat.le_of_ble_eq_true rfl) rfl x_set_9_7 ?_
      refine x_iconst dX1_layCrate_38 ?_
      refine x_istore dX1_layCrate_39 (Nat.le_of_ble_eq_true rfl) rfl x_set_9_8 ?_
      exact l2 0 (Nat.zero_le _) (Nat.zero_le _) d p1 (fun k2 g => by omega) p2 p3 p4 p5 p6
  refine x_aload_n dX1_layCrate_0 x_get_9_0 ?_
  refine x_getR dX1_layCrate_1 fX_1_18 (by assumption) (by assumption) (by rfl) ?_
  refine x_iload_n dX1_layCrate_4 x_get_9_3 ?_
  refine x_iald dX1_layCrate_5 (by assumption) (by assumption) (by omega) (by omega) (by decide) ?_
  rw [hwh]
  refine x_istore dX1_layCrate_6 (Nat.le_of_ble_eq_true rfl) rfl x_set_9_5 ?_
  refine x_aload_n dX1_layCrate_8 x_get_9_0 ?_
  refine x_getR dX1_layCrate_9 fX_1_28 (by assumption) (by assumption) (by rfl) ?_
  refine x_aload_n dX1_layCrate_12 x_get_9_2 ?_
  refine x_callV (As := [_]) dX1_layCrate_13 w_1_35 (c9_take2 hl hS5 hs) (by assumption) (by assumption) rfl rfl (Nat.le_of_ble_eq_true rfl) (Nat.le_of_ble_eq_true rfl) (Nat.le_of_ble_eq_true rfl) (Nat.le_of_ble_eq_true rfl) (Nat.le_of_ble_eq_true rfl) ?_
  intro d hd
  obtain rfl := Eq.symm hd
  refine x_iconst dX1_layCrate_16 ?_
  refine x_istore dX1_layCrate_17 (Nat.le_of_ble_eq_true rfl) rfl x_set_9_6 ?_
  refine hloop 0 (Nat.zero_le _) _ ?_ ?_ ?_ ?_ ?_ ?_
  · intro o2 k g1 g2; omega
  · rw [x_up_s]; rfl
  · intro j g; rw [x_up_n (by omega)]
  · rw [x_up_n (by omega)]; exact b2
  · rw [x_up_n (by omega)]; exact ldG_w hG
  · intro j g1 g2 g3 g4; exact x_up_n g2
end C43
