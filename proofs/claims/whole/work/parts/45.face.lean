section C45
/-! ===== the class itself: its cells ===== -/
def is_X (N : Nat) (sh : xS) (la lb : Nat) : Prop := 61 < N ∧ sh 0 = .inr (11, [1 + 3, 0, la + 3, 33 + 3, 35 + 3, 37 + 3, 39 + 3, 0, 43 + 3, 45 + 3, 47 + 3, 51 + 3, 60 + 3, 61 + 3, 0]) ∧ sh 1 = .inr (5, [2 + 3, 0, 0, 0, 0, 0, 0, lb + 3, 0, 0]) ∧ sh 2 = .inl (1, 700) ∧ is_L N sh la ∧ is_L N sh lb ∧ is_St N sh 33 34 ∧ is_St N sh 35 36 ∧ is_Ac N sh 37 38 ∧ is_Se N sh 39 ∧ is_St N sh 43 44 ∧ is_Ac N sh 45 46 ∧ is_Se N sh 47 ∧ is_Co N sh 51 ∧ sh 60 = .inr (2, [0]) ∧ sh 61 = .inl (0, 3) ∧ ((la = 3 ∧ lb = 18) ∨ (la = 18 ∧ lb = 3))
def k_row (T C : Nat) (f : Int → Int) : Prop := s_ok (161 * f 0) f ∧ f 0 ≤ 999 ∧ ∀ c : Int, 0 ≤ c → c < C → f (55 + c) = -1 ∨ (0 ≤ f (55 + c) ∧ f (55 + c) < T)
/-- what every question needs -/
def cq (N : Nat) (sh : xS) (D : xM) (la lb T C W : Nat) (G : Ldt) : Prop := is_X N sh la lb ∧ ldG D la T C G ∧ rd D (la + 3) W T ∧ k_row T C (D 34) ∧ co_ok D 51
/-- only what is tried has changed -/
def sc (la : Nat) (D d : xM) : Prop := (∀ j, j ≠ 36 → j ≠ la + 12 → (j < 52 ∨ 60 < j) → d j = D j) ∧ (∀ j, x_r (d (la + 12) j)) ∧ co_ok d 51
theorem sc_refl {D : xM} {la T C : Nat} {G : Ldt} (hG : ldG D la T C G) (hco : co_ok D 51) : sc la D D := ⟨fun _ _ _ _ => rfl, ldG_w hG, hco⟩
theorem co_ok_of {D d : xM} {co : Nat} (h : co_ok D co) (hf : ∀ j, co + 1 ≤ j → j ≤ co + 4 → d j = D j) : co_ok d co := by
  unfold co_ok
  rw [hf (co + 1) (by omega) (by omega), hf (co + 2) (by omega) (by omega), hf (co + 3) (by omega) (by omega), hf (co + 4) (by omega) (by omega)]
  exact h
theorem sc_w {D d : xM} {la : Nat} (h : sc la D d) (hla : la = 3 ∨ la = 18) {w : Int → Int} (hw : ∀ j, x_r (w j)) : sc la D (x_up d (la + 12) w) :=
  ⟨fun j a b c => by rw [x_up_n b]; exact h.1 j a b c, by rw [x_up_s]; exact hw, co_ok_of h.2.2 (fun j a b => x_up_n (by omega))⟩
theorem sc_36 {D d : xM} {la : Nat} (h : sc la D d) (hla : la = 3 ∨ la = 18) {w : Int → Int} : sc la D (x_up d 36 w) :=
  ⟨fun j a b c => by rw [x_up_n a]; exact h.1 j a b c, by rw [x_up_n (by omega)]; exact h.2.1, co_ok_of h.2.2 (fun j a b => x_up_n (by omega))⟩
theorem sc_60 {D d : xM} {la : Nat} (h : sc la D d) (hla : la = 3 ∨ la = 18) {w : Int → Int} : sc la D (x_up d 60 w) :=
  ⟨fun j a b c => by rw [x_up_n (by omega)]; exact h.1 j a b c, by rw [x_up_n (by omega)]; exact h.2.1, co_ok_of h.2.2 (fun j a b => x_up_n (by omega))⟩
def o_i (z : Int) : x_O := .inl (some (.int (xI z)))
theorem tw_NSE : x_tw RX11 156 160 x_NSE 13 x_rxN := ⟨⟨by decide +kernel, by decide +kernel, by decide +kernel, by decide +kernel⟩, by decide +kernel, (x_in 910 (by decide +kernel) rfl), (x_in 101 (by decide +kernel) rfl), by decide +kernel, by decide +kernel, x_at_NSE⟩
theorem tw_IAE : x_tw RX11 89 93 x_IAE 7 Bundle.six := ⟨⟨by decide +kernel, by decide +kernel, by decide +kernel, by decide +kernel⟩, by decide +kernel, (x_in 596 (by decide +kernel) rfl), (x_in 94 (by decide +kernel) rfl), by decide +kernel, by decide +kernel, x_at_IAE⟩
def q_count (T C W : Nat) (f : Int → Int) (ac se tp r0 r1 r2 : Int) (w : Int) : x_O :=
  if w = 0 then o_i T else if w = 1 then o_i W else if w = 2 then o_i C else if w = 3 then o_i (f 0) else if w = 4 then o_i (x_sum (fun i => f (1 + i)) T) else if w = 5 then o_i (x_sum (fun i => f (9 + i)) T) else if w = 6 then o_i (x_sum (fun i => f (17 + i)) T)
  else if w = 7 then o_i (s_bits (fun c => s_lies f c) C : Nat) else if w = 8 then o_i (s_bits (fun c => s_mov f c) C : Nat) else if w = 9 then o_i (s_bits (fun c => s_gone f c) C : Nat) else if w = 10 then o_i ac else if w = 11 then o_i se else if w = 12 then o_i tp else if w = 13 then o_i r0 else if w = 14 then o_i r1 else if w = 15 then o_i r2 else .inr x_NSE
def q_town (T C : Nat) (G : Ldt) (f : Int → Int) (t w : Int) : x_O :=
  if 0 ≤ t ∧ t < T then (if w = 0 then o_i (f (1 + t)) else if w = 1 then o_i (f (9 + t)) else if w = 2 then o_i (G.1 t) else if w = 3 then o_i (G.2.1 t) else if w = 4 then o_i (f (17 + t)) else if w = 5 then o_i (G.2.2 f t) else if w = 6 then o_i (s_bits (fun c => s_in f t c) C : Nat) else .inr x_NSE) else .inr x_NSE
theorem ldG_mk {D : xM} {la T C : Nat} {G : Ldt} (h : ldG D la T C G) : D (la + 1) = G.1 := by
  obtain ⟨n, -, rfl⟩ := h
  rfl
theorem ldG_st {D : xM} {la T C : Nat} {G : Ldt} (h : ldG D la T C G) : D (la + 2) = G.2.1 := by
  obtain ⟨n, -, rfl⟩ := h
  rfl
theorem c7_oddsG {X : xC} {l : Launch} (hl : l.stackTraces = false) {N : Nat} {sh : xS} {D : xM} {r a : Nat} (hs : is_St N sh r a) {la T C : Nat} (hL : is_L N sh la) {G : Ldt} (hG : ldG D la T C G) (hsep : a < la ∨ la + 13 < a) {B : Int} (hk : s_ok B (D a)) (hB : B ≤ 900000) {t : Int} (h0 : 0 ≤ t) (h1 : t < 8) : x_M X l yX7_odds cX7_odds 6 (some .int) 3 0 0 [.ref (x_b X + (la + 10)), .ref (x_b X + la), .ref (x_b X + r), .int (xI t)] false N sh D (.inl (some (.int (xI (G.2.2 (D a) t))))) false N sh (fun d => ∃ w, d = x_up D (la + 12) w ∧ ∀ j, x_r (w j)) := by
  obtain ⟨n, ⟨q1, q2, q3, q4, q5, q6, q7, q8, q9⟩, rfl⟩ := hG
  exact c7_odds hl hs (is_L_ld hL) (is_L_ru hL) (by omega) hk h0 h1 q3 q4 q5 q6 (fun j => ⟨by have := q7 j; omega, by have := q7 j; omega⟩) (fun j => ⟨by have := q8 j; omega, by have := q8 j; omega⟩) q9 (by omega)
def q_crate (C : Nat) (f : Int → Int) (c w : Int) : x_O :=
  if 0 ≤ c ∧ c < C then (if w = 0 then o_i (f (25 + c)) else if w = 1 then o_i (f (35 + c)) else if w = 2 then o_i (f (45 + c)) else if w = 3 then o_i (f (55 + c)) else if w = 4 then o_i (f (65 + c)) else .inr x_NSE) else .inr x_NSE
theorem w_11_138 : x_cv RX11 138 yX9_sum cX9_sum 5 (some .int) 9 2 := ⟨⟨_, rfl, rfl⟩, (x_in 896 (by decide +kernel) rfl), (x_in 541 (by decide +kernel) rfl), (x_in 542 (by decide +kernel) rfl), (x_in 85 (by decide +kernel) rfl), (x_in 543 (by decide +kernel) rfl), by decide, ⟨by decide +kernel, by decide +kernel, by decide +kernel⟩⟩
theorem w_11_142 : x_cv RX11 142 yX9_closedBits cX9_closedBits 4 (some .int) 9 1 := ⟨⟨_, rfl, rfl⟩, (x_in 897 (by decide +kernel) rfl), (x_in 898 (by decide +kernel) rfl), (x_in 899 (by decide +kernel) rfl), (x_in 85 (by decide +kernel) rfl), (x_in 900 (by decide +kernel) rfl), by decide, ⟨by decide +kernel, by decide +kernel, by decide +kernel⟩⟩
theorem w_11_146 : x_cv RX11 146 yX9_movingBits cX9_movingBits 4 (some .int) 9 1 := ⟨⟨_, rfl, rfl⟩, (x_in 902 (by decide +kernel) rfl), (x_in 903 (by decide +kernel) rfl), (x_in 904 (by decide +kernel) rfl), (x_in 85 (by decide +kernel) rfl), (x_in 905 (by decide +kernel) rfl), by decide, ⟨by decide +kernel, by decide +kernel, by decide +kernel⟩⟩
theorem w_11_149 : x_cv RX11 149 yX9_goneBits cX9_goneBits 4 (some .int) 9 1 := ⟨⟨_, rfl, rfl⟩, (x_in 906 (by decide +kernel) rfl), (x_in 907 (by decide +kernel) rfl), (x_in 908 (by decide +kernel) rfl), (x_in 85 (by decide +kernel) rfl), (x_in 909 (by decide +kernel) rfl), by decide, ⟨by decide +kernel, by decide +kernel, by decide +kernel⟩⟩
theorem w_11_161 : x_cv RX11 161 yX11_needTown cX11_needTown 2 (none) 11 1 := ⟨⟨_, rfl, rfl⟩, (x_in 933 (by decide +kernel) rfl), (x_in 935 (by decide +kernel) rfl), (x_in 11 (by decide +kernel) rfl), (x_in 80 (by decide +kernel) rfl), (x_in 936 (by decide +kernel) rfl), by decide, ⟨by decide +kernel, by decide +kernel, by decide +kernel⟩⟩
theorem w_11_174 : x_cv RX11 174 yX7_odds cX7_odds 6 (some .int) 7 3 := ⟨⟨_, rfl, rfl⟩, (x_in 938 (by decide +kernel) rfl), (x_in 465 (by decide +kernel) rfl), (x_in 466 (by decide +kernel) rfl), (x_in 84 (by decide +kernel) rfl), (x_in 467 (by decide +kernel) rfl), by decide, ⟨by decide +kernel, by decide +kernel, by decide +kernel⟩⟩
theorem w_11_180 : x_cv RX11 180 yX9_bitsIn cX9_bitsIn 5 (some .int) 9 2 := ⟨⟨_, rfl, rfl⟩, (x_in 939 (by decide +kernel) rfl), (x_in 469 (by decide +kernel) rfl), (x_in 470 (by decide +kernel) rfl), (x_in 85 (by decide +kernel) rfl), (x_in 471 (by decide +kernel) rfl), by decide, ⟨by decide +kernel, by decide +kernel, by decide +kernel⟩⟩
theorem w_11_185 : x_cv RX11 185 yX11_needCrate cX11_needCrate 2 (none) 11 1 := ⟨⟨_, rfl, rfl⟩, (x_in 948 (by decide +kernel) rfl), (x_in 950 (by decide +kernel) rfl), (x_in 12 (by decide +kernel) rfl), (x_in 80 (by decide +kernel) rfl), (x_in 951 (by decide +kernel) rfl), by decide, ⟨by decide +kernel, by decide +kernel, by decide +kernel⟩⟩
theorem c11_nTown {X : xC} {l : Launch} (hl : l.stackTraces = false) {N : Nat} {sh : xS} {D : xM} {la lb T C W : Nat} {G : Ldt} (hq : cq N sh D la lb T C W G) {t : Int} (h0 : 0 ≤ t) (h1 : t < T) : x_M X l yX11_needTown cX11_needTown 2 (none) 1 0 0 [.ref (x_b X + 0), .int (xI t)] false N sh D (.inl none) false N sh (x_is (D)) := by
  obtain ⟨hX, hG, hR, ⟨hk, hd9, hpl⟩, hco⟩ := id hq
  obtain ⟨hN, x0, x1, x2, xla, xlb, x33, x35, x37, x39, x43, x45, x47, x51, x60, x61, hll⟩ := id hX
  have hla : la = 3 ∨ la = 18 := by omega
  have n0 : 0 < N := by omega
  have n1 : 1 < N := by omega
  have n2 : 2 < N := by omega
  have n33 : 33 < N := by omega
  have n34 : 34 < N := by omega
  have n35 : 35 < N := by omega
  have n36 : 36 < N := by omega
  have n37 : 37 < N := by omega
  have n38 : 38 < N := by omega
  have n39 : 39 < N := by omega
  have n40 : 40 < N := by omega
  have n41 : 41 < N := by omega
  have n42 : 42 < N := by omega
  have n43 : 43 < N := by omega
  have n45 : 45 < N := by omega
  have n47 : 47 < N := by omega
  have n51 : 51 < N := by omega
  have n60 : 60 < N := by omega
  have n61 : 61 < N := by omega
  have x33a := x33.2.1
  have x34 := x33.2.2.2
  have x35a := x35.2.1
  have x36 := x35.2.2.2
  have x37a := x37.2.1
  have x38 := x37.2.2.2
  have x39a := x39.2.1
  have x43a := x43.2.1
  have x45a := x45.2.1
  have x47a := x47.2.1
  have x51a := x51.2.1
  have xla0 := xla.2.1
  have xla1 := xla.2.2.1
  have xla2 := xla.2.2.2.1
  have hlaN : la < N := by have := xla.1; omega
  have hlaN1 : la + 1 < N := by have := xla.1; omega
  have hlaN2 : la + 2 < N := by have := xla.1; omega
  have hlaN3 : la + 3 < N := by have := xla.1; omega
  have hlaN10 : la + 10 < N := by have := xla.1; omega
  have xru := (is_L_ru xla).2.1
  have xro := (is_L_ro xla).2.1
  obtain ⟨hG1, hG2, hG3⟩ := ldG_G hG
  obtain ⟨n0', ⟨gT, gTb, gC, gCb, -⟩, -⟩ := id hG
  obtain ⟨rW, rWb, rT, -, ro1, ro2, ro3, ro4, ro5, ro6⟩ := id hR
  have hd0 : 0 ≤ D 34 0 := ((hk 0).1 rfl).1
  have hB : 161 * D 34 0 ≤ 160839 := by omega
  have hsc := sc_refl hG hco
  refine x_ofW (by decide +kernel) hl (by simp [Value.category]) (by simp) ?_
  refine x_iload_n dX11_needTown_0 x_get_2_1 ?_
  refine r_if_lt (t := 15) dX11_needTown_1 rfl ⟨by omega, by omega⟩ (fun hc1 => absurd hc1 (by omega)) (fun hc1 => ?_)
  refine x_iload_n dX11_needTown_4 x_get_2_1 ?_
  refine x_aload_n dX11_needTown_5 x_get_2_0 ?_
  refine x_getR dX11_needTown_6 fX_11_23 (by assumption) (by assumption) (by rfl) ?_
  refine x_getI 0 dX11_needTown_9 fX_11_110 rfl (by assumption) (by assumption) (by rfl) ?_
  rw [gT]
  refine r_icmp_lt (t := 26) dX11_needTown_12 rfl ⟨by omega, by omega⟩ ⟨by omega, by omega⟩ (fun hc12 => ?_) (fun hc12 => absurd hc12 (by omega))
  exact x_vret dX11_needTown_26 rfl (Nat.le_of_ble_eq_true rfl) (Nat.le_of_ble_eq_true rfl) rfl rfl rfl rfl rfl
theorem c11_nTownT {X : xC} {l : Launch} (hl : l.stackTraces = false) {N : Nat} {sh : xS} {D : xM} {la lb T C W : Nat} {G : Ldt} (hq : cq N sh D la lb T C W G) {t : Int} (hr : x_r t) (hn : ¬ (0 ≤ t ∧ t < T)) : x_M X l yX11_needTown cX11_needTown 2 (none) 6 1 6 [.ref (x_b X + 0), .int (xI t)] false N sh D (.inr x_NSE) false N sh (x_is (D)) := by
  obtain ⟨hX, hG, hR, ⟨hk, hd9, hpl⟩, hco⟩ := id hq
  obtain ⟨hN, x0, x1, x2, xla, xlb, x33, x35, x37, x39, x43, x45, x47, x51, x60, x61, hll⟩ := id hX
  have hla : la = 3 ∨ la = 18 := by omega
  have n0 : 0 < N := by omega
  have n1 : 1 < N := by omega
  have n2 : 2 < N := by omega
  have n33 : 33 < N := by omega
  have n34 : 34 < N := by omega
  have n35 : 35 < N := by omega
  have n36 : 36 < N := by omega
  have n37 : 37 < N := by omega
  have n38 : 38 < N := by omega
  have n39 : 39 < N := by omega
  have n40 : 40 < N := by omega
  have n41 : 41 < N := by omega
  have n42 : 42 < N := by omega
  have n43 : 43 < N := by omega
  have n45 : 45 < N := by omega
  have n47 : 47 < N := by omega
  have n51 : 51 < N := by omega
  have n60 : 60 < N := by omega
  have n61 : 61 < N := by omega
  have x33a := x33.2.1
  have x34 := x33.2.2.2
  have x35a := x35.2.1
  have x36 := x35.2.2.2
  have x37a := x37.2.1
  have x38 := x37.2.2.2
  have x39a := x39.2.1
  have x43a := x43.2.1
  have x45a := x45.2.1
  have x47a := x47.2.1
  have x51a := x51.2.1
  have xla0 := xla.2.1
  have xla1 := xla.2.2.1
  have xla2 := xla.2.2.2.1
  have hlaN : la < N := by have := xla.1; omega
  have hlaN1 : la + 1 < N := by have := xla.1; omega
  have hlaN2 : la + 2 < N := by have := xla.1; omega
  have hlaN3 : la + 3 < N := by have := xla.1; omega
  have hlaN10 : la + 10 < N := by have := xla.1; omega
  have xru := (is_L_ru xla).2.1
  have xro := (is_L_ro xla).2.1
  obtain ⟨hG1, hG2, hG3⟩ := ldG_G hG
  obtain ⟨n0', ⟨gT, gTb, gC, gCb, -⟩, -⟩ := id hG
  obtain ⟨rW, rWb, rT, -, ro1, ro2, ro3, ro4, ro5, ro6⟩ := id hR
  have hd0 : 0 ≤ D 34 0 := ((hk 0).1 rfl).1
  have hB : 161 * D 34 0 ≤ 160839 := by omega
  have hsc := sc_refl hG hco
  refine x_ofW (by decide +kernel) hl (by simp [Value.category]) (by simp) ?_
  refine x_iload_n dX11_needTown_0 x_get_2_1 ?_
  refine r_if_lt (t := 15) dX11_needTown_1 rfl (by first | exact ⟨by omega, by omega⟩ | assumption | exact s_r hk (by omega) (by omega) (by omega)) (fun hc1 => ?_) (fun hc1 => ?_)
  · exact x_throwW 17 (by decide) tw_NSE rfl dX11_needTown_15 dX11_needTown_18 dX11_needTown_19 dX11_needTown_22 dX11_needTown_25 (Nat.le_of_ble_eq_true rfl) (Nat.le_of_ble_eq_true rfl) (Nat.le_of_ble_eq_true rfl) (Nat.le_of_ble_eq_true rfl) rfl rfl rfl rfl rfl rfl (Nat.le_of_ble_eq_true rfl) (Nat.le_of_ble_eq_true rfl)
  · refine x_iload_n dX11_needTown_4 x_get_2_1 ?_
    refine x_aload_n dX11_needTown_5 x_get_2_0 ?_
    refine x_getR dX11_needTown_6 fX_11_23 (by assumption) (by assumption) (by rfl) ?_
    refine x_getI 0 dX11_needTown_9 fX_11_110 rfl (by assumption) (by assumption) (by rfl) ?_
    rw [gT]
    refine r_icmp_lt (t := 26) dX11_needTown_12 rfl (by first | exact ⟨by omega, by omega⟩ | assumption | exact s_r hk (by omega) (by omega) (by omega)) (by first | exact ⟨by omega, by omega⟩ | assumption | exact s_r hk (by omega) (by omega) (by omega)) (fun hc12 => absurd hc12 (by omega)) (fun hc12 => ?_)
    exact x_throwW 17 (by decide) tw_NSE rfl dX11_needTown_15 dX11_needTown_18 dX11_needTown_19 dX11_needTown_22 dX11_needTown_25 (Nat.le_of_ble_eq_true rfl) (Nat.le_of_ble_eq_true rfl) (Nat.le_of_ble_eq_true rfl) (Nat.le_of_ble_eq_true rfl) rfl rfl rfl rfl rfl rfl (Nat.le_of_ble_eq_true rfl) (Nat.le_of_ble_eq_true rfl)
theorem c11_nCrate {X : xC} {l : Launch} (hl : l.stackTraces = false) {N : Nat} {sh : xS} {D : xM} {la lb T C W : Nat} {G : Ldt} (hq : cq N sh D la lb T C W G) {t : Int} (h0 : 0 ≤ t) (h1 : t < C) : x_M X l yX11_needCrate cX11_needCrate 2 (none) 1 0 0 [.ref (x_b X + 0), .int (xI t)] false N sh D (.inl none) false N sh (x_is (D)) := by
  obtain ⟨hX, hG, hR, ⟨hk, hd9, hpl⟩, hco⟩ := id hq
  obtain ⟨hN, x0, x1, x2, xla, xlb, x33, x35, x37, x39, x43, x45, x47, x51, x60, x61, hll⟩ := id hX
  have hla : la = 3 ∨ la = 18 := by omega
  have n0 : 0 < N := by omega
  have n1 : 1 < N := by omega
  have n2 : 2 < N := by omega
  have n33 : 33 < N := by omega
  have n34 : 34 < N := by omega
  have n35 : 35 < N := by omega
  have n36 : 36 < N := by omega
  have n37 : 37 < N := by omega
  have n38 : 38 < N := by omega
  have n39 : 39 < N := by omega
  have n40 : 40 < N := by omega
  have n41 : 41 < N := by omega
  have n42 : 42 < N := by omega
  have n43 : 43 < N := by omega
  have n45 : 45 < N := by omega
  have n47 : 47 < N := by omega
  have n51 : 51 < N := by omega
  have n60 : 60 < N := by omega
  have n61 : 61 < N := by omega
  have x33a := x33.2.1
  have x34 := x33.2.2.2
  have x35a := x35.2.1
  have x36 := x35.2.2.2
  have x37a := x37.2.1
  have x38 := x37.2.2.2
  have x39a := x39.2.1
  have x43a := x43.2.1
  have x45a := x45.2.1
  have x47a := x47.2.1
  have x51a := x51.2.1
  have xla0 := xla.2.1
  have xla1 := xla.2.2.1
  have xla2 := xla.2.2.2.1
  have hlaN : la < N := by have := xla.1; omega
  have hlaN1 : la + 1 < N := by have := xla.1; omega
  have hlaN2 : la + 2 < N := by have := xla.1; omega
  have hlaN3 : la + 3 < N := by have := xla.1; omega
  have hlaN10 : la + 10 < N := by have := xla.1; omega
  have xru := (is_L_ru xla).2.1
  have xro := (is_L_ro xla).2.1
  obtain ⟨hG1, hG2, hG3⟩ := ldG_G hG
  obtain ⟨n0', ⟨gT, gTb, gC, gCb, -⟩, -⟩ := id hG
  obtain ⟨rW, rWb, rT, -, ro1, ro2, ro3, ro4, ro5, ro6⟩ := id hR
  have hd0 : 0 ≤ D 34 0 := ((hk 0).1 rfl).1
  have hB : 161 * D 34 0 ≤ 160839 := by omega
  have hsc := sc_refl hG hco
  refine x_ofW (by decide +kernel) hl (by simp [Value.category]) (by simp) ?_
  refine x_iload_n dX11_needCrate_0 x_get_2_1 ?_
  refine r_if_lt (t := 15) dX11_needCrate_1 rfl ⟨by omega, by omega⟩ (fun hc1 => absurd hc1 (by omega)) (fun hc1 => ?_)
  refine x_iload_n dX11_needCrate_4 x_get_2_1 ?_
  refine x_aload_n dX11_needCrate_5 x_get_2_0 ?_
  refine x_getR dX11_needCrate_6 fX_11_23 (by assumption) (by assumption) (by rfl) ?_
  refine x_getI 1 dX11_needCrate_9 fX_11_132 rfl (by assumption) (by assumption) (by rfl) ?_
  rw [gC]
  refine r_icmp_lt (t := 26) dX11_needCrate_12 rfl ⟨by omega, by omega⟩ ⟨by omega, by omega⟩ (fun hc12 => ?_) (fun hc12 => absurd hc12 (by omega))
  exact x_vret dX11_needCrate_26 rfl (Nat.le_of_ble_eq_true rfl) (Nat.le_of_ble_eq_true rfl) rfl rfl rfl rfl rfl
theorem c11_nCrateT {X : xC} {l : Launch} (hl : l.stackTraces = false) {N : Nat} {sh : xS} {D : xM} {la lb T C W : Nat} {G : Ldt} (hq : cq N sh D la lb T C W G) {t : Int} (hr : x_r t) (hn : ¬ (0 ≤ t ∧ t < C)) : x_M X l yX11_needCrate cX11_needCrate 2 (none) 6 1 6 [.ref (x_b X + 0), .int (xI t)] false N sh D (.inr x_NSE) false N sh (x_is (D)) := by
  obtain ⟨hX, hG, hR, ⟨hk, hd9, hpl⟩, hco⟩ := id hq
  obtain ⟨hN, x0, x1, x2, xla, xlb, x33, x35, x37, x39, x43, x45, x47, x51, x60, x61, hll⟩ := id hX
  have hla : la = 3 ∨ la = 18 := by omega
  have n0 : 0 < N := by omega
  have n1 : 1 < N := by omega
  have n2 : 2 < N := by omega
  have n33 : 33 < N := by omega
  have n34 : 34 < N := by omega
  have n35 : 35 < N := by omega
  have n36 : 36 < N := by omega
  have n37 : 37 < N := by omega
  have n38 : 38 < N := by omega
  have n39 : 39 < N := by omega
  have n40 : 40 < N := by omega
  have n41 : 41 < N := by omega
  have n42 : 42 < N := by omega
  have n43 : 43 < N := by omega
  have n45 : 45 < N := by omega
  have n47 : 47 < N := by omega
  have n51 : 51 < N := by omega
  have n60 : 60 < N := by omega
  have n61 : 61 < N := by omega
  have x33a := x33.2.1
  have x34 := x33.2.2.2
  have x35a := x35.2.1
  have x36 := x35.2.2.2
  have x37a := x37.2.1
  have x38 := x37.2.2.2
  have x39a := x39.2.1
  have x43a := x43.2.1
  have x45a := x45.2.1
  have x47a := x47.2.1
  have x51a := x51.2.1
  have xla0 := xla.2.1
  have xla1 := xla.2.2.1
  have xla2 := xla.2.2.2.1
  have hlaN : la < N := by have := xla.1; omega
  have hlaN1 : la + 1 < N := by have := xla.1; omega
  have hlaN2 : la + 2 < N := by have := xla.1; omega
  have hlaN3 : la + 3 < N := by have := xla.1; omega
  have hlaN10 : la + 10 < N := by have := xla.1; omega
  have xru := (is_L_ru xla).2.1
  have xro := (is_L_ro xla).2.1
  obtain ⟨hG1, hG2, hG3⟩ := ldG_G hG
  obtain ⟨n0', ⟨gT, gTb, gC, gCb, -⟩, -⟩ := id hG
  obtain ⟨rW, rWb, rT, -, ro1, ro2, ro3, ro4, ro5, ro6⟩ := id hR
  have hd0 : 0 ≤ D 34 0 := ((hk 0).1 rfl).1
  have hB : 161 * D 34 0 ≤ 160839 := by omega
  have hsc := sc_refl hG hco
  refine x_ofW (by decide +kernel) hl (by simp [Value.category]) (by simp) ?_
  refine x_iload_n dX11_needCrate_0 x_get_2_1 ?_
  refine r_if_lt (t := 15) dX11_needCrate_1 rfl (by first | exact ⟨by omega, by omega⟩ | assumption | exact s_r hk (by omega) (by omega) (by omega)) (fun hc1 => ?_) (fun hc1 => ?_)
  · exact x_throwW 19 (by decide) tw_NSE rfl dX11_needCrate_15 dX11_needCrate_18 dX11_needCrate_19 dX11_needCrate_22 dX11_needCrate_25 (Nat.le_of_ble_eq_true rfl) (Nat.le_of_ble_eq_true rfl) (Nat.le_of_ble_eq_true rfl) (Nat.le_of_ble_eq_true rfl) rfl rfl rfl rfl rfl rfl (Nat.le_of_ble_eq_true rfl) (Nat.le_of_ble_eq_true rfl)
  · refine x_iload_n dX11_needCrate_4 x_get_2_1 ?_
    refine x_aload_n dX11_needCrate_5 x_get_2_0 ?_
    refine x_getR dX11_needCrate_6 fX_11_23 (by assumption) (by assumption) (by rfl) ?_
    refine x_getI 1 dX11_needCrate_9 fX_11_132 rfl (by assumption) (by assumption) (by rfl) ?_
    rw [gC]
    refine r_icmp_lt (t := 26) dX11_needCrate_12 rfl (by first | exact ⟨by omega, by omega⟩ | assumption | exact s_r hk (by omega) (by omega) (by omega)) (by first | exact ⟨by omega, by omega⟩ | assumption | exact s_r hk (by omega) (by omega) (by omega)) (fun hc12 => absurd hc12 (by omega)) (fun hc12 => ?_)
    exact x_throwW 19 (by decide) tw_NSE rfl dX11_needCrate_15 dX11_needCrate_18 dX11_needCrate_19 dX11_needCrate_22 dX11_needCrate_25 (Nat.le_of_ble_eq_true rfl) (Nat.le_of_ble_eq_true rfl) (Nat.le_of_ble_eq_true rfl) (Nat.le_of_ble_eq_true rfl) rfl rfl rfl rfl rfl rfl (Nat.le_of_ble_eq_true rfl) (Nat.le_of_ble_eq_true rfl)
theorem c11_nWay {X : xC} {l : Launch} (hl : l.stackTraces = false) {N : Nat} {sh : xS} {D : xM} {la lb T C W : Nat} {G : Ldt} (hq : cq N sh D la lb T C W G) {t : Int} (h0 : 0 ≤ t) (h1 : t < W) : x_M X l yX11_needWay cX11_needWay 2 (none) 1 0 0 [.ref (x_b X + 0), .int (xI t)] false N sh D (.inl none) false N sh (x_is (D)) := by
  obtain ⟨hX, hG, hR, ⟨hk, hd9, hpl⟩, hco⟩ := id hq
  obtain ⟨hN, x0, x1, x2, xla, xlb, x33, x35, x37, x39, x43, x45, x47, x51, x60, x61, hll⟩ := id hX
  have hla : la = 3 ∨ la = 18 := by omega
  have n0 : 0 < N := by omega
  have n1 : 1 < N := by omega
  have n2 : 2 < N := by omega
  have n33 : 33 < N := by omega
  have n34 : 34 < N := by omega
  have n35 : 35 < N := by omega
  have n36 : 36 < N := by omega
  have n37 : 37 < N := by omega
  have n38 : 38 < N := by omega
  have n39 : 39 < N := by omega
  have n40 : 40 < N := by omega
  have n41 : 41 < N := by omega
  have n42 : 42 < N := by omega
  have n43 : 43 < N := by omega
  have n45 : 45 < N := by omega
  have n47 : 47 < N := by omega
  have n51 : 51 < N := by omega
  have n60 : 60 < N := by omega
  have n61 : 61 < N := by omega
  have x33a := x33.2.1
  have x34 := x33.2.2.2
  have x35a := x35.2.1
  have x36 := x35.2.2.2
  have x37a := x37.2.1
  have x38 := x37.2.2.2
  have x39a := x39.2.1
  have x43a := x43.2.1
  have x45a := x45.2.1
  have x47a := x47.2.1
  have x51a := x51.2.1
  have xla0 := xla.2.1
  have xla1 := xla.2.2.1
  have xla2 := xla.2.2.2.1
  have hlaN : la < N := by have := xla.1; omega
  have hlaN1 : la + 1 < N := by have := xla.1; omega
  have hlaN2 : la + 2 < N := by have := xla.1; omega
  have hlaN3 : la + 3 < N := by have := xla.1; omega
  have hlaN10 : la + 10 < N := by have := xla.1; omega
  have xru := (is_L_ru xla).2.1
  have xro := (is_L_ro xla).2.1
  obtain ⟨hG1, hG2, hG3⟩ := ldG_G hG
  obtain ⟨n0', ⟨gT, gTb, gC, gCb, -⟩, -⟩ := id hG
  obtain ⟨rW, rWb, rT, -, ro1, ro2, ro3, ro4, ro5, ro6⟩ := id hR
  have hd0 : 0 ≤ D 34 0 := ((hk 0).1 rfl).1
  have hB : 161 * D 34 0 ≤ 160839 := by omega
  have hsc := sc_refl hG hco
  refine x_ofW (by decide +kernel) hl (by simp [Value.category]) (by simp) ?_
  refine x_iload_n dX11_needWay_0 x_get_2_1 ?_
  refine r_if_lt (t := 18) dX11_needWay_1 rfl ⟨by omega, by omega⟩ (fun hc1 => absurd hc1 (by omega)) (fun hc1 => ?_)
  refine x_iload_n dX11_needWay_4 x_get_2_1 ?_
  refine x_aload_n dX11_needWay_5 x_get_2_0 ?_
  refine x_getR dX11_needWay_6 fX_11_23 (by assumption) (by assumption) (by rfl) ?_
  refine x_getR dX11_needWay_9 fX_11_106 (by assumption) (by assumption) (by rfl) ?_
  refine x_getI 0 dX11_needWay_12 fX_11_129 rfl (by assumption) (by assumption) (by rfl) ?_
  rw [rW]
  refine r_icmp_lt (t := 29) dX11_needWay_15 rfl ⟨by omega, by omega⟩ ⟨by omega, by omega⟩ (fun hc15 => ?_) (fun hc15 => absurd hc15 (by omega))
  exact x_vret dX11_needWay_29 rfl (Nat.le_of_ble_eq_true rfl) (Nat.le_of_ble_eq_true rfl) rfl rfl rfl rfl rfl
theorem c11_nWayT {X : xC} {l : Launch} (hl : l.stackTraces = false) {N : Nat} {sh : xS} {D : xM} {la lb T C W : Nat} {G : Ldt} (hq : cq N sh D la lb T C W G) {t : Int} (hr : x_r t) (hn : ¬ (0 ≤ t ∧ t < W)) : x_M X l yX11_needWay cX11_needWay 2 (none) 6 1 6 [.ref (x_b X + 0), .int (xI t)] false N sh D (.inr x_NSE) false N sh (x_is (D)) := by
  obtain ⟨hX, hG, hR, ⟨hk, hd9, hpl⟩, hco⟩ := id hq
  obtain ⟨hN, x0, x1, x2, xla, xlb, x33, x35, x37, x39, x43, x45, x47, x51, x60, x61, hll⟩ := id hX
  have hla : la = 3 ∨ la = 18 := by omega
  have n0 : 0 < N := by omega
  have n1 : 1 < N := by omega
  have n2 : 2 < N := by omega
  have n33 : 33 < N := by omega
  have n34 : 34 < N := by omega
  have n35 : 35 < N := by omega
  have n36 : 36 < N := by omega
  have n37 : 37 < N := by omega
  have n38 : 38 < N := by omega
  have n39 : 39 < N := by omega
  have n40 : 40 < N := by omega
  have n41 : 41 < N := by omega
  have n42 : 42 < N := by omega
  have n43 : 43 < N := by omega
  have n45 : 45 < N := by omega
  have n47 : 47 < N := by omega
  have n51 : 51 < N := by omega
  have n60 : 60 < N := by omega
  have n61 : 61 < N := by omega
  have x33a := x33.2.1
  have x34 := x33.2.2.2
  have x35a := x35.2.1
  have x36 := x35.2.2.2
  have x37a := x37.2.1
  have x38 := x37.2.2.2
  have x39a := x39.2.1
  have x43a := x43.2.1
  have x45a := x45.2.1
  have x47a := x47.2.1
  have x51a := x51.2.1
  have xla0 := xla.2.1
  have xla1 := xla.2.2.1
  have xla2 := xla.2.2.2.1
  have hlaN : la < N := by have := xla.1; omega
  have hlaN1 : la + 1 < N := by have := xla.1; omega
  have hlaN2 : la + 2 < N := by have := xla.1; omega
  have hlaN3 : la + 3 < N := by have := xla.1; omega
  have hlaN10 : la + 10 < N := by have := xla.1; omega
  have xru := (is_L_ru xla).2.1
  have xro := (is_L_ro xla).2.1
  obtain ⟨hG1, hG2, hG3⟩ := ldG_G hG
  obtain ⟨n0', ⟨gT, gTb, gC, gCb, -⟩, -⟩ := id hG
  obtain ⟨rW, rWb, rT, -, ro1, ro2, ro3, ro4, ro5, ro6⟩ := id hR
  have hd0 : 0 ≤ D 34 0 := ((hk 0).1 rfl).1
  have hB : 161 * D 34 0 ≤ 160839 := by omega
  have hsc := sc_refl hG hco
  refine x_ofW (by decide +kernel) hl (by simp [Value.category]) (by simp) ?_
  refine x_iload_n dX11_needWay_0 x_get_2_1 ?_
  refine r_if_lt (t := 18) dX11_needWay_1 rfl (by first | exact ⟨by omega, by omega⟩ | assumption | exact s_r hk (by omega) (by omega) (by omega)) (fun hc1 => ?_) (fun hc1 => ?_)
  · exact x_throwW 21 (by decide) tw_NSE rfl dX11_needWay_18 dX11_needWay_21 dX11_needWay_22 dX11_needWay_25 dX11_needWay_28 (Nat.le_of_ble_eq_true rfl) (Nat.le_of_ble_eq_true rfl) (Nat.le_of_ble_eq_true rfl) (Nat.le_of_ble_eq_true rfl) rfl rfl rfl rfl rfl rfl (Nat.le_of_ble_eq_true rfl) (Nat.le_of_ble_eq_true rfl)
  · refine x_iload_n dX11_needWay_4 x_get_2_1 ?_
    refine x_aload_n dX11_needWay_5 x_get_2_0 ?_
    refine x_getR dX11_needWay_6 fX_11_23 (by assumption) (by assumption) (by rfl) ?_
    refine x_getR dX11_needWay_9 fX_11_106 (by assumption) (by assumption) (by rfl) ?_
    refine x_getI 0 dX11_needWay_12 fX_11_129 rfl (by assumption) (by assumption) (by rfl) ?_
    rw [rW]
    refine r_icmp_lt (t := 29) dX11_needWay_15 rfl (by first | exact ⟨by omega, by omega⟩ | assumption | exact s_r hk (by omega) (by omega) (by omega)) (by first | exact ⟨by omega, by omega⟩ | assumption | exact s_r hk (by omega) (by omega) (by omega)) (fun hc15 => absurd hc15 (by omega)) (fun hc15 => ?_)
    exact x_throwW 21 (by decide) tw_NSE rfl dX11_needWay_18 dX11_needWay_21 dX11_needWay_22 dX11_needWay_25 dX11_needWay_28 (Nat.le_of_ble_eq_true rfl) (Nat.le_of_ble_eq_true rfl) (Nat.le_of_ble_eq_true rfl) (Nat.le_of_ble_eq_true rfl) rfl rfl rfl rfl rfl rfl (Nat.le_of_ble_eq_true rfl) (Nat.le_of_ble_eq_true rfl)
theorem c11_nWhat {X : xC} {l : Launch} (hl : l.stackTraces = false) {N : Nat} {sh : xS} {D : xM} {w m : Int} (h0 : 0 ≤ w) (h1 : w ≤ m) (h2 : m < 1000) : x_M X l yX11_needWhat cX11_needWhat 2 (none) 1 0 0 [.int (xI w), .int (xI m)] false N sh D (.inl none) false N sh (x_is (D)) := by
  refine x_ofW (by decide +kernel) hl (by simp [Value.category]) (by simp) ?_
  refine x_iload_n dX11_needWhat_0 x_get_2_0 ?_
  refine r_if_lt (t := 9) dX11_needWhat_1 rfl ⟨by omega, by omega⟩ (fun hc1 => absurd hc1 (by omega)) (fun hc1 => ?_)
  refine x_iload_n dX11_needWhat_4 x_get_2_0 ?_
  refine x_iload_n dX11_needWhat_5 x_get_2_1 ?_
  refine r_icmp_le (t := 20) dX11_needWhat_6 rfl ⟨by omega, by omega⟩ ⟨by omega, by omega⟩ (fun hc6 => ?_) (fun hc6 => absurd hc6 (by omega))
  exact x_vret dX11_needWhat_20 rfl (Nat.le_of_ble_eq_true rfl) (Nat.le_of_ble_eq_true rfl) rfl rfl rfl rfl rfl
theorem c11_nWhatT {X : xC} {l : Launch} (hl : l.stackTraces = false) {N : Nat} {sh : xS} {D : xM} {w m : Int} (hr : x_r w) (hn : ¬ (0 ≤ w ∧ w ≤ m)) (h2 : m < 1000) (h3 : 0 ≤ m) : x_M X l yX11_needWhat cX11_needWhat 2 (none) 6 1 6 [.int (xI w), .int (xI m)] false N sh D (.inr x_NSE) false N sh (x_is (D)) := by
  obtain ⟨hr0, hr1⟩ := id hr
  refine x_ofW (by decide +kernel) hl (by simp [Value.category]) (by simp) ?_
  refine x_iload_n dX11_needWhat_0 x_get_2_0 ?_
  refine r_if_lt (t := 9) dX11_needWhat_1 rfl ⟨by omega, by omega⟩ (fun hc1 => ?_) (fun hc1 => ?_)
  · exact x_throwW 25 (by decide) tw_NSE rfl dX11_needWhat_9 dX11_needWhat_12 dX11_needWhat_13 dX11_needWhat_16 dX11_needWhat_19 (Nat.le_of_ble_eq_true rfl) (Nat.le_of_ble_eq_true rfl) (Nat.le_of_ble_eq_true rfl) (Nat.le_of_ble_eq_true rfl) rfl rfl rfl rfl rfl rfl (Nat.le_of_ble_eq_true rfl) (Nat.le_of_ble_eq_true rfl)
  · refine x_iload_n dX11_needWhat_4 x_get_2_0 ?_
    refine x_iload_n dX11_needWhat_5 x_get_2_1 ?_
    refine r_icmp_le (t := 20) dX11_needWhat_6 rfl ⟨by omega, by omega⟩ ⟨by omega, by omega⟩ (fun hc6 => absurd hc6 (by omega)) (fun hc6 => ?_)
    exact x_throwW 25 (by decide) tw_NSE rfl dX11_needWhat_9 dX11_needWhat_12 dX11_needWhat_13 dX11_needWhat_16 dX11_needWhat_19 (Nat.le_of_ble_eq_true rfl) (Nat.le_of_ble_eq_true rfl) (Nat.le_of_ble_eq_true rfl) (Nat.le_of_ble_eq_true rfl) rfl rfl rfl rfl rfl rfl (Nat.le_of_ble_eq_true rfl) (Nat.le_of_ble_eq_true rfl)
theorem c11_nIn {X : xC} {l : Launch} (hl : l.stackTraces = false) {N : Nat} {sh : xS} {D : xM} {w a b : Int} (h0 : a ≤ w) (h1 : w ≤ b) (h2 : b < 10000) (h3 : 0 ≤ a) : x_M X l yX11_needWithin cX11_needWithin 3 (none) 1 0 0 [.int (xI w), .int (xI a), .int (xI b)] false N sh D (.inl none) false N sh (x_is (D)) := by
  refine x_ofW (by decide +kernel) hl (by simp [Value.category]) (by simp) ?_
  refine x_iload_n dX11_needWithin_0 x_get_3_0 ?_
  refine x_iload_n dX11_needWithin_1 x_get_3_1 ?_
  refine r_icmp_lt (t := 10) dX11_needWithin_2 rfl ⟨by omega, by omega⟩ ⟨by omega, by omega⟩ (fun hc2 => absurd hc2 (by omega)) (fun hc2 => ?_)
  refine x_iload_n dX11_needWithin_5 x_get_3_0 ?_
  refine x_iload_n dX11_needWithin_6 x_get_3_2 ?_
  refine r_icmp_le (t := 21) dX11_needWithin_7 rfl ⟨by omega, by omega⟩ ⟨by omega, by omega⟩ (fun hc7 => ?_) (fun hc7 => absurd hc7 (by omega))
  exact x_vret dX11_needWithin_21 rfl (Nat.le_of_ble_eq_true rfl) (Nat.le_of_ble_eq_true rfl) rfl rfl rfl rfl rfl
theorem c11_nInT {X : xC} {l : Launch} (hl : l.stackTraces = false) {N : Nat} {sh : xS} {D : xM} {w a b : Int} (hr : x_r w) (hn : ¬ (a ≤ w ∧ w ≤ b)) (h2 : b < 10000) (h3 : 0 ≤ a) (h4 : 0 ≤ b) (h5 : a < 10000) : x_M X l yX11_needWithin cX11_needWithin 3 (none) 6 1 6 [.int (xI w), .int (xI a), .int (xI b)] false N sh D (.inr x_IAE) false N sh (x_is (D)) := by
  obtain ⟨hr0, hr1⟩ := id hr
  refine x_ofW (by decide +kernel) hl (by simp [Value.category]) (by simp) ?_
  refine x_iload_n dX11_needWithin_0 x_get_3_0 ?_
  refine x_iload_n dX11_needWithin_1 x_get_3_1 ?_
  refine r_icmp_lt (t := 10) dX11_needWithin_2 rfl ⟨by omega, by omega⟩ ⟨by omega, by omega⟩ (fun hc2 => ?_) (fun hc2 => ?_)
  · exact x_throwW 23 (by decide) tw_IAE rfl dX11_needWithin_10 dX11_needWithin_13 dX11_needWithin_14 dX11_needWithin_17 dX11_needWithin_20 (Nat.le_of_ble_eq_true rfl) (Nat.le_of_ble_eq_true rfl) (Nat.le_of_ble_eq_true rfl) (Nat.le_of_ble_eq_true rfl) rfl rfl rfl rfl rfl rfl (Nat.le_of_ble_eq_true rfl) (Nat.le_of_ble_eq_true rfl)
  · refine x_iload_n dX11_needWithin_5 x_get_3_0 ?_
    refine x_iload_n dX11_needWithin_6 x_get_3_2 ?_
    refine r_icmp_le (t := 21) dX11_needWithin_7 rfl ⟨by omega, by omega⟩ ⟨by omega, by omega⟩ (fun hc7 => absurd hc7 (by omega)) (fun hc7 => ?_)
    exact x_throwW 23 (by decide) tw_IAE rfl dX11_needWithin_10 dX11_needWithin_13 dX11_needWithin_14 dX11_needWithin_17 dX11_needWithin_20 (Nat.le_of_ble_eq_true rfl) (Nat.le_of_ble_eq_true rfl) (Nat.le_of_ble_eq_true rfl) (Nat.le_of_ble_eq_true rfl) rfl rfl rfl rfl rfl rfl (Nat.le_of_ble_eq_true rfl) (Nat.le_of_ble_eq_true rfl)
theorem c11_refuse {X : xC} {l : Launch} (hl : l.stackTraces = false) {N : Nat} {sh : xS} {D : xM} {la lb T C W : Nat} {G : Ldt} (hq : cq N sh D la lb T C W G) : x_M X l yX11_refuseAct cX11_refuseAct 1 (some .int) 1 0 0 [.ref (x_b X + 0)] false N sh D (.inl (some (.int (xI (-1))))) false N sh (x_is (x_up D 61 (x_u1 (D 61) 1 (D 61 1 + 1)))) := by
  obtain ⟨hX, hG, hR, ⟨hk, hd9, hpl⟩, hco⟩ := id hq
  obtain ⟨hN, x0, x1, x2, xla, xlb, x33, x35, x37, x39, x43, x45, x47, x51, x60, x61, hll⟩ := id hX
  have hla : la = 3 ∨ la = 18 := by omega
  have n0 : 0 < N := by omega
  have n1 : 1 < N := by omega
  have n2 : 2 < N := by omega
  have n33 : 33 < N := by omega
  have n34 : 34 < N := by omega
  have n35 : 35 < N := by omega
  have n36 : 36 < N := by omega
  have n37 : 37 < N := by omega
  have n38 : 38 < N := by omega
  have n39 : 39 < N := by omega
  have n40 : 40 < N := by omega
  have n41 : 41 < N := by omega
  have n42 : 42 < N := by omega
  have n43 : 43 < N := by omega
  have n45 : 45 < N := by omega
  have n47 : 47 < N := by omega
  have n51 : 51 < N := by omega
  have n60 : 60 < N := by omega
  have n61 : 61 < N := by omega
  have x33a := x33.2.1
  have x34 := x33.2.2.2
  have x35a := x35.2.1
  have x36 := x35.2.2.2
  have x37a := x37.2.1
  have x38 := x37.2.2.2
  have x39a := x39.2.1
  have x43a := x43.2.1
  have x45a := x45.2.1
  have x47a := x47.2.1
  have x51a := x51.2.1
  have xla0 := xla.2.1
  have xla1 := xla.2.2.1
  have xla2 := xla.2.2.2.1
  have hlaN : la < N := by have := xla.1; omega
  have hlaN1 : la + 1 < N := by have := xla.1; omega
  have hlaN2 : la + 2 < N := by have := xla.1; omega
  have hlaN3 : la + 3 < N := by have := xla.1; omega
  have hlaN10 : la + 10 < N := by have := xla.1; omega
  have xru := (is_L_ru xla).2.1
  have xro := (is_L_ro xla).2.1
  obtain ⟨hG1, hG2, hG3⟩ := ldG_G hG
  obtain ⟨n0', ⟨gT, gTb, gC, gCb, -⟩, -⟩ := id hG
  obtain ⟨rW, rWb, rT, -, ro1, ro2, ro3, ro4, ro5, ro6⟩ := id hR
  have hd0 : 0 ≤ D 34 0 := ((hk 0).1 rfl).1
  have hB : 161 * D 34 0 ≤ 160839 := by omega
  have hsc := sc_refl hG hco
  refine x_ofW (by decide +kernel) hl (by simp [Value.category]) (by simp) ?_
  refine x_aload_n dX11_refuseAct_0 x_get_1_0 ?_
  refine x_getR dX11_refuseAct_1 fX_11_78 (by assumption) (by assumption) (by rfl) ?_
  refine x_iconst dX11_refuseAct_4 ?_
  refine x_dup2 dX11_refuseAct_5 rfl rfl ?_
  refine x_iald dX11_refuseAct_6 (by assumption) (by assumption) (by omega) (by omega) (by decide) ?_
  refine x_iconst dX11_refuseAct_7 ?_
  refine x_iadd dX11_refuseAct_8 ?_
  refine x_iast dX11_refuseAct_9 (by assumption) (by assumption) (by omega) (by omega) (by decide) ?_
  refine x_iconst dX11_refuseAct_10 ?_
  exact x_iret dX11_refuseAct_11 rfl (Nat.le_of_ble_eq_true rfl) (Nat.le_of_ble_eq_true rfl) rfl rfl rfl rfl rfl
theorem c11_fault {X : xC} {l : Launch} (hl : l.stackTraces = false) {N : Nat} {sh : xS} {D : xM} {la lb T C W : Nat} {G : Ldt} (hq : cq N sh D la lb T C W G) : x_M X l yX11_fault cX11_fault 1 (some .int) 6 1 6 [.ref (x_b X + 0)] false N sh D (.inl (some (.int (xI (D 0 14))))) false N sh (sc la D) := by
  obtain ⟨hX, hG, hR, ⟨hk, hd9, hpl⟩, hco⟩ := id hq
  obtain ⟨hN, x0, x1, x2, xla, xlb, x33, x35, x37, x39, x43, x45, x47, x51, x60, x61, hll⟩ := id hX
  have hla : la = 3 ∨ la = 18 := by omega
  have n0 : 0 < N := by omega
  have n1 : 1 < N := by omega
  have n2 : 2 < N := by omega
  have n33 : 33 < N := by omega
  have n34 : 34 < N := by omega
  have n35 : 35 < N := by omega
  have n36 : 36 < N := by omega
  have n37 : 37 < N := by omega
  have n38 : 38 < N := by omega
  have n39 : 39 < N := by omega
  have n40 : 40 < N := by omega
  have n41 : 41 < N := by omega
  have n42 : 42 < N := by omega
  have n43 : 43 < N := by omega
  have n45 : 45 < N := by omega
  have n47 : 47 < N := by omega
  have n51 : 51 < N := by omega
  have n60 : 60 < N := by omega
  have n61 : 61 < N := by omega
  have x33a := x33.2.1
  have x34 := x33.2.2.2
  have x35a := x35.2.1
  have x36 := x35.2.2.2
  have x37a := x37.2.1
  have x38 := x37.2.2.2
  have x39a := x39.2.1
  have x43a := x43.2.1
  have x45a := x45.2.1
  have x47a := x47.2.1
  have x51a := x51.2.1
  have xla0 := xla.2.1
  have xla1 := xla.2.2.1
  have xla2 := xla.2.2.2.1
  have hlaN : la < N := by have := xla.1; omega
  have hlaN1 : la + 1 < N := by have := xla.1; omega
  have hlaN2 : la + 2 < N := by have := xla.1; omega
  have hlaN3 : la + 3 < N := by have := xla.1; omega
  have hlaN10 : la + 10 < N := by have := xla.1; omega
  have xru := (is_L_ru xla).2.1
  have xro := (is_L_ro xla).2.1
  obtain ⟨hG1, hG2, hG3⟩ := ldG_G hG
  obtain ⟨n0', ⟨gT, gTb, gC, gCb, -⟩, -⟩ := id hG
  obtain ⟨rW, rWb, rT, -, ro1, ro2, ro3, ro4, ro5, ro6⟩ := id hR
  have hd0 : 0 ≤ D 34 0 := ((hk 0).1 rfl).1
  have hB : 161 * D 34 0 ≤ 160839 := by omega
  have hsc := sc_refl hG hco
  refine x_ofW (by decide +kernel) hl (by simp [Value.category]) (by simp) ?_
  refine x_aload_n dX11_fault_0 x_get_1_0 ?_
  refine x_getI 14 dX11_fault_1 fX_11_82 rfl (by assumption) (by assumption) (by rfl) ?_
  exact x_iret dX11_fault_4 rfl (Nat.le_of_ble_eq_true rfl) (Nat.le_of_ble_eq_true rfl) rfl rfl rfl hsc rfl
theorem c11_count {X : xC} {l : Launch} (hl : l.stackTraces = false) {N : Nat} {sh : xS} {D : xM} {la lb T C W : Nat} {G : Ldt} (hq : cq N sh D la lb T C W G) {w : Int} (hw : x_r w) : x_M X l yX11_count cX11_count 2 (some .int) 6 1 6 [.ref (x_b X + 0), .int (xI w)] false N sh D (q_count T C W (D 34) (D 37 2) (D 39 3) (D 0 1) (D 61 0) (D 61 1) (D 61 2) w) false N sh (sc la D) := by
  obtain ⟨hX, hG, hR, ⟨hk, hd9, hpl⟩, hco⟩ := id hq
  obtain ⟨hN, x0, x1, x2, xla, xlb, x33, x35, x37, x39, x43, x45, x47, x51, x60, x61, hll⟩ := id hX
  have hla : la = 3 ∨ la = 18 := by omega
  have n0 : 0 < N := by omega
  have n1 : 1 < N := by omega
  have n2 : 2 < N := by omega
  have n33 : 33 < N := by omega
  have n34 : 34 < N := by omega
  have n35 : 35 < N := by omega
  have n36 : 36 < N := by omega
  have n37 : 37 < N := by omega
  have n38 : 38 < N := by omega
  have n39 : 39 < N := by omega
  have n40 : 40 < N := by omega
  have n41 : 41 < N := by omega
  have n42 : 42 < N := by omega
  have n43 : 43 < N := by omega
  have n45 : 45 < N := by omega
  have n47 : 47 < N := by omega
  have n51 : 51 < N := by omega
  have n60 : 60 < N := by omega
  have n61 : 61 < N := by omega
  have x33a := x33.2.1
  have x34 := x33.2.2.2
  have x35a := x35.2.1
  have x36 := x35.2.2.2
  have x37a := x37.2.1
  have x38 := x37.2.2.2
  have x39a := x39.2.1
  have x43a := x43.2.1
  have x45a := x45.2.1
  have x47a := x47.2.1
  have x51a := x51.2.1
  have xla0 := xla.2.1
  have xla1 := xla.2.2.1
  have xla2 := xla.2.2.2.1
  have hlaN : la < N := by have := xla.1; omega
  have hlaN1 : la + 1 < N := by have := xla.1; omega
  have hlaN2 : la + 2 < N := by have := xla.1; omega
  have hlaN3 : la + 3 < N := by have := xla.1; omega
  have hlaN10 : la + 10 < N := by have := xla.1; omega
  have xru := (is_L_ru xla).2.1
  have xro := (is_L_ro xla).2.1
  obtain ⟨hG1, hG2, hG3⟩ := ldG_G hG
  obtain ⟨n0', ⟨gT, gTb, gC, gCb, -⟩, -⟩ := id hG
  obtain ⟨rW, rWb, rT, -, ro1, ro2, ro3, ro4, ro5, ro6⟩ := id hR
  have hd0 : 0 ≤ D 34 0 := ((hk 0).1 rfl).1
  have hB : 161 * D 34 0 ≤ 160839 := by omega
  have hsc := sc_refl hG hco
  by_cases hin : 0 ≤ w ∧ w ≤ 15
  · have hc : w = 0 ∨ w = 1 ∨ w = 2 ∨ w = 3 ∨ w = 4 ∨ w = 5 ∨ w = 6 ∨ w = 7 ∨ w = 8 ∨ w = 9 ∨ w = 10 ∨ w = 11 ∨ w = 12 ∨ w = 13 ∨ w = 14 ∨ w = 15 := by omega
    rcases hc with rfl | rfl | rfl | rfl | rfl | rfl | rfl | rfl | rfl | rfl | rfl | rfl | rfl | rfl | rfl | rfl
    · refine x_ofW (by decide +kernel) hl (by simp [Value.category]) (by simp) ?_
      refine x_iload_n dX11_count_0 x_get_2_1 ?_
      refine x_tswIn (t := 80) dX11_count_1 (by decide) (by decide) rfl rfl ?_
      refine x_aload_n dX11_count_80 x_get_2_0 ?_
      refine x_getR dX11_count_81 fX_11_23 (by assumption) (by assumption) (by rfl) ?_
      refine x_getI 0 dX11_count_84 fX_11_110 rfl (by assumption) (by assumption) (by rfl) ?_
      first | rw [gT] | rw [gC] | rw [rW]
      exact x_iret dX11_count_87 rfl (Nat.le_of_ble_eq_true rfl) (Nat.le_of_ble_eq_true rfl) rfl rfl rfl hsc rfl
    · refine x_ofW (by decide +kernel) hl (by simp [Value.category]) (by simp) ?_
      refine x_iload_n dX11_count_0 x_get_2_1 ?_
      refine x_tswIn (t := 88) dX11_count_1 (by decide) (by decide) rfl rfl ?_
      refine x_aload_n dX11_count_88 x_get_2_0 ?_
      refine x_getR dX11_count_89 fX_11_23 (by assumption) (by assumption) (by rfl) ?_
      refine x_getR dX11_count_92 fX_11_106 (by assumption) (by assumption) (by rfl) ?_
      refine x_getI 0 dX11_count_95 fX_11_129 rfl (by assumption) (by assumption) (by rfl) ?_
      first | rw [gT] | rw [gC] | rw [rW]
      exact x_iret dX11_count_98 rfl (Nat.le_of_ble_eq_true rfl) (Nat.le_of_ble_eq_true rfl) rfl rfl rfl hsc rfl
    · refine x_ofW (by decide +kernel) hl (by simp [Value.category]) (by simp) ?_
      refine x_iload_n dX11_count_0 x_get_2_1 ?_
      refine x_tswIn (t := 99) dX11_count_1 (by decide) (by decide) rfl rfl ?_
      refine x_aload_n dX11_count_99 x_get_2_0 ?_
      refine x_getR dX11_count_100 fX_11_23 (by assumption) (by assumption) (by rfl) ?_
      refine x_getI 1 dX11_count_103 fX_11_132 rfl (by assumption) (by assumption) (by rfl) ?_
      first | rw [gT] | rw [gC] | rw [rW]
      exact x_iret dX11_count_106 rfl (Nat.le_of_ble_eq_true rfl) (Nat.le_of_ble_eq_true rfl) rfl rfl rfl hsc rfl
    · refine x_ofW (by decide +kernel) hl (by simp [Value.category]) (by simp) ?_
      refine x_iload_n dX11_count_0 x_get_2_1 ?_
      refine x_tswIn (t := 107) dX11_count_1 (by decide) (by decide) rfl rfl ?_
      refine x_aload_n dX11_count_107 x_get_2_0 ?_
      refine x_getR dX11_count_108 fX_11_30 (by assumption) (by assumption) (by rfl) ?_
      refine x_getR dX11_count_111 fX_11_135 (by assumption) (by assumption) (by rfl) ?_
      refine x_iconst dX11_count_114 ?_
      refine x_iald dX11_count_115 (by assumption) (by assumption) (by omega) (by omega) (by decide) ?_
      exact x_iret dX11_count_116 rfl (Nat.le_of_ble_eq_true rfl) (Nat.le_of_ble_eq_true rfl) rfl rfl rfl hsc rfl
    · refine x_ofW (by decide +kernel) hl (by simp [Value.category]) (by simp) ?_
      refine x_iload_n dX11_count_0 x_get_2_1 ?_
      refine x_tswIn (t := 117) dX11_count_1 (by decide) (by decide) rfl rfl ?_
      refine x_aload_n dX11_count_117 x_get_2_0 ?_
      refine x_getR dX11_count_118 fX_11_30 (by assumption) (by assumption) (by rfl) ?_
      refine x_iconst dX11_count_121 ?_
      refine x_aload_n dX11_count_122 x_get_2_0 ?_
      refine x_getR dX11_count_123 fX_11_23 (by assumption) (by assumption) (by rfl) ?_
      refine x_getI 0 dX11_count_126 fX_11_110 rfl (by assumption) (by assumption) (by rfl) ?_
      first | rw [gT] | rw [gC] | rw [rW]
      refine x_callV (As := [_, _]) dX11_count_129 w_11_138 (c9_sum hl x33 (by omega) (by omega)) (by assumption) (by assumption) rfl rfl (Nat.le_of_ble_eq_true rfl) (Nat.le_of_ble_eq_true rfl) (Nat.le_of_ble_eq_true rfl) (Nat.le_of_ble_eq_true rfl) (Nat.le_of_ble_eq_true rfl) ?_
      intro d hd
      obtain rfl := Eq.symm hd
      exact x_iret dX11_count_132 rfl (Nat.le_of_ble_eq_true rfl) (Nat.le_of_ble_eq_true rfl) rfl rfl rfl hsc rfl
    · refine x_ofW (by decide +kernel) hl (by simp [Value.category]) (by simp) ?_
      refine x_iload_n dX11_count_0 x_get_2_1 ?_
      refine x_tswIn (t := 133) dX11_count_1 (by decide) (by decide) rfl rfl ?_
      refine x_aload_n dX11_count_133 x_get_2_0 ?_
      refine x_getR dX11_count_134 fX_11_30 (by assumption) (by assumption) (by rfl) ?_
      refine x_bipush dX11_count_137 rfl ?_
      refine x_aload_n dX11_count_139 x_get_2_0 ?_
      refine x_getR dX11_count_140 fX_11_23 (by assumption) (by assumption) (by rfl) ?_
      refine x_getI 0 dX11_count_143 fX_11_110 rfl (by assumption) (by assumption) (by rfl) ?_
      first | rw [gT] | rw [gC] | rw [rW]
      refine x_callV (As := [_, _]) dX11_count_146 w_11_138 (c9_sum hl x33 (by omega) (by omega)) (by assumption) (by assumption) rfl rfl (Nat.le_of_ble_eq_true rfl) (Nat.le_of_ble_eq_true rfl) (Nat.le_of_ble_eq_true rfl) (Nat.le_of_ble_eq_true rfl) (Nat.le_of_ble_eq_true rfl) ?_
      intro d hd
      obtain rfl := Eq.symm hd
      exact x_iret dX11_count_149 rfl (Nat.le_of_ble_eq_true rfl) (Nat.le_of_ble_eq_true rfl) rfl rfl rfl hsc rfl
    · refine x_ofW (by decide +kernel) hl (by simp [Value.category]) (by simp) ?_
      refine x_iload_n dX11_count_0 x_get_2_1 ?_
      refine x_tswIn (t := 150) dX11_count_1 (by decide) (by decide) rfl rfl ?_
      refine x_aload_n dX11_count_150 x_get_2_0 ?_
      refine x_getR dX11_count_151 fX_11_30 (by assumption) (by assumption) (by rfl) ?_
      refine x_bipush dX11_count_154 rfl ?_
      refine x_aload_n dX11_count_156 x_get_2_0 ?_
      refine x_getR dX11_count_157 fX_11_23 (by assumption) (by assumption) (by rfl) ?_
      refine x_getI 0 dX11_count_160 fX_11_110 rfl (by assumption) (by assumption) (by rfl) ?_
      first | rw [gT] | rw [gC] | rw [rW]
      refine x_callV (As := [_, _]) dX11_count_163 w_11_138 (c9_sum hl x33 (by omega) (by omega)) (by assumption) (by assumption) rfl rfl (Nat.le_of_ble_eq_true rfl) (Nat.le_of_ble_eq_true rfl) (Nat.le_of_ble_eq_true rfl) (Nat.le_of_ble_eq_true rfl) (Nat.le_of_ble_eq_true rfl) ?_
      intro d hd
      obtain rfl := Eq.symm hd
      exact x_iret dX11_count_166 rfl (Nat.le_of_ble_eq_true rfl) (Nat.le_of_ble_eq_true rfl) rfl rfl rfl hsc rfl
    · refine x_ofW (by decide +kernel) hl (by simp [Value.category]) (by simp) ?_
      refine x_iload_n dX11_count_0 x_get_2_1 ?_
      refine x_tswIn (t := 167) dX11_count_1 (by decide) (by decide) rfl rfl ?_
      refine x_aload_n dX11_count_167 x_get_2_0 ?_
      refine x_getR dX11_count_168 fX_11_30 (by assumption) (by assumption) (by rfl) ?_
      refine x_aload_n dX11_count_171 x_get_2_0 ?_
      refine x_getR dX11_count_172 fX_11_23 (by assumption) (by assumption) (by rfl) ?_
      refine x_getI 1 dX11_count_175 fX_11_132 rfl (by assumption) (by assumption) (by rfl) ?_
      first | rw [gT] | rw [gC] | rw [rW]
      refine x_callV (As := [_]) dX11_count_178 w_11_142 (c9_closedBits hl x33 (B := 161 * D 34 0) (by omega) hk gCb) (by assumption) (by assumption) rfl rfl (Nat.le_of_ble_eq_true rfl) (Nat.le_of_ble_eq_true rfl) (Nat.le_of_ble_eq_true rfl) (Nat.le_of_ble_eq_true rfl) (Nat.le_of_ble_eq_true rfl) ?_
      intro d hd
      obtain rfl := Eq.symm hd
      exact x_iret dX11_count_181 rfl (Nat.le_of_ble_eq_true rfl) (Nat.le_of_ble_eq_true rfl) rfl rfl rfl hsc rfl
    · refine x_ofW (by decide +kernel) hl (by simp [Value.category]) (by simp) ?_
      refine x_iload_n dX11_count_0 x_get_2_1 ?_
      refine x_tswIn (t := 182) dX11_count_1 (by decide) (by decide) rfl rfl ?_
      refine x_aload_n dX11_count_182 x_get_2_0 ?_
      refine x_getR dX11_count_183 fX_11_30 (by assumption) (by assumption) (by rfl) ?_
      refine x_aload_n dX11_count_186 x_get_2_0 ?_
      refine x_getR dX11_count_187 fX_11_23 (by assumption) (by assumption) (by rfl) ?_
      refine x_getI 1 dX11_count_190 fX_11_132 rfl (by assumption) (by assumption) (by rfl) ?_
      first | rw [gT] | rw [gC] | rw [rW]
      refine x_callV (As := [_]) dX11_count_193 w_11_146 (c9_movingBits hl x33 (B := 161 * D 34 0) (by omega) hk gCb) (by assumption) (by assumption) rfl rfl (Nat.le_of_ble_eq_true rfl) (Nat.le_of_ble_eq_true rfl) (Nat.le_of_ble_eq_true rfl) (Nat.le_of_ble_eq_true rfl) (Nat.le_of_ble_eq_true rfl) ?_
      intro d hd
      obtain rfl := Eq.symm hd
      exact x_iret dX11_count_196 rfl (Nat.le_of_ble_eq_true rfl) (Nat.le_of_ble_eq_true rfl) rfl rfl rfl hsc rfl
    · refine x_ofW (by decide +kernel) hl (by simp [Value.category]) (by simp) ?_
      refine x_iload_n dX11_count_0 x_get_2_1 ?_
      refine x_tswIn (t := 197) dX11_count_1 (by decide) (by decide) rfl rfl ?_
      refine x_aload_n dX11_count_197 x_get_2_0 ?_
      refine x_getR dX11_count_198 fX_11_30 (by assumption) (by assumption) (by rfl) ?_
      refine x_aload_n dX11_count_201 x_get_2_0 ?_
      refine x_getR dX11_count_202 fX_11_23 (by assumption) (by assumption) (by rfl) ?_
      refine x_getI 1 dX11_count_205 fX_11_132 rfl (by assumption) (by assumption) (by rfl) ?_
      first | rw [gT] | rw [gC] | rw [rW]
      refine x_callV (As := [_]) dX11_count_208 w_11_149 (c9_goneBits hl x33 (B := 161 * D 34 0) (by omega) hk gCb) (by assumption) (by assumption) rfl rfl (Nat.le_of_ble_eq_true rfl) (Nat.le_of_ble_eq_true rfl) (Nat.le_of_ble_eq_true rfl) (Nat.le_of_ble_eq_true rfl) (Nat.le_of_ble_eq_true rfl) ?_
      intro d hd
      obtain rfl := Eq.symm hd
      exact x_iret dX11_count_211 rfl (Nat.le_of_ble_eq_true rfl) (Nat.le_of_ble_eq_true rfl) rfl rfl rfl hsc rfl
    · refine x_ofW (by decide +kernel) hl (by simp [Value.category]) (by simp) ?_
      refine x_iload_n dX11_count_0 x_get_2_1 ?_
      refine x_tswIn (t := 212) dX11_count_1 (by decide) (by decide) rfl rfl ?_
      refine x_aload_n dX11_count_212 x_get_2_0 ?_
      refine x_getR dX11_count_213 fX_11_40 (by assumption) (by assumption) (by rfl) ?_
      refine x_getI 2 dX11_count_216 fX_11_152 rfl (by assumption) (by assumption) (by rfl) ?_
      exact x_iret dX11_count_219 rfl (Nat.le_of_ble_eq_true rfl) (Nat.le_of_ble_eq_true rfl) rfl rfl rfl hsc rfl
    · refine x_ofW (by decide +kernel) hl (by simp [Value.category]) (by simp) ?_
      refine x_iload_n dX11_count_0 x_get_2_1 ?_
      refine x_tswIn (t := 220) dX11_count_1 (by decide) (by decide) rfl rfl ?_
      refine x_aload_n dX11_count_220 x_get_2_0 ?_
      refine x_getR dX11_count_221 fX_11_47 (by assumption) (by assumption) (by rfl) ?_
      refine x_getI 3 dX11_count_224 fX_11_155 rfl (by assumption) (by assumption) (by rfl) ?_
      exact x_iret dX11_count_227 rfl (Nat.le_of_ble_eq_true rfl) (Nat.le_of_ble_eq_true rfl) rfl rfl rfl hsc rfl
    · refine x_ofW (by decide +kernel) hl (by simp [Value.category]) (by simp) ?_
      refine x_iload_n dX11_count_0 x_get_2_1 ?_
      refine x_tswIn (t := 228) dX11_count_1 (by decide) (by decide) rfl rfl ?_
      refine x_aload_n dX11_count_228 x_get_2_0 ?_
      refine x_getI 1 dX11_count_229 fX_11_16 rfl (by assumption) (by assumption) (by rfl) ?_
      exact x_iret dX11_count_232 rfl (Nat.le_of_ble_eq_true rfl) (Nat.le_of_ble_eq_true rfl) rfl rfl rfl hsc rfl
    · refine x_ofW (by decide +kernel) hl (by simp [Value.category]) (by simp) ?_
      refine x_iload_n dX11_count_0 x_get_2_1 ?_
      refine x_tswIn (t := 233) dX11_count_1 (by decide) (by decide) rfl rfl ?_
      refine x_aload_n dX11_count_233 x_get_2_0 ?_
      refine x_getR dX11_count_234 fX_11_78 (by assumption) (by assumption) (by rfl) ?_
      refine x_iconst dX11_count_237 ?_
      refine x_iald dX11_count_238 (by assumption) (by assumption) (by omega) (by omega) (by decide) ?_
      exact x_iret dX11_count_239 rfl (Nat.le_of_ble_eq_true rfl) (Nat.le_of_ble_eq_true rfl) rfl rfl rfl hsc rfl
    · refine x_ofW (by decide +kernel) hl (by simp [Value.category]) (by simp) ?_
      refine x_iload_n dX11_count_0 x_get_2_1 ?_
      refine x_tswIn (t := 240) dX11_count_1 (by decide) (by decide) rfl rfl ?_
      refine x_aload_n dX11_count_240 x_get_2_0 ?_
      refine x_getR dX11_count_241 fX_11_78 (by assumption) (by assumption) (by rfl) ?_
      refine x_iconst dX11_count_244 ?_
      refine x_iald dX11_count_245 (by assumption) (by assumption) (by omega) (by omega) (by decide) ?_
      exact x_iret dX11_count_246 rfl (Nat.le_of_ble_eq_true rfl) (Nat.le_of_ble_eq_true rfl) rfl rfl rfl hsc rfl
    · refine x_ofW (by decide +kernel) hl (by simp [Value.category]) (by simp) ?_
      refine x_iload_n dX11_count_0 x_get_2_1 ?_
      refine x_tswIn (t := 247) dX11_count_1 (by decide) (by decide) rfl rfl ?_
      refine x_aload_n dX11_count_247 x_get_2_0 ?_
      refine x_getR dX11_count_248 fX_11_78 (by assumption) (by assumption) (by rfl) ?_
      refine x_iconst dX11_count_251 ?_
      refine x_iald dX11_count_252 (by assumption) (by assumption) (by omega) (by omega) (by decide) ?_
      exact x_iret dX11_count_253 rfl (Nat.le_of_ble_eq_true rfl) (Nat.le_of_ble_eq_true rfl) rfl rfl rfl hsc rfl
  · have ho : q_count T C W (D 34) (D 37 2) (D 39 3) (D 0 1) (D 61 0) (D 61 1) (D 61 2) w = .inr x_NSE := by
      unfold q_count
      repeat rw [if_neg (by omega)]
    rw [ho]
    refine x_ofW (by decide +kernel) hl (by simp [Value.category]) (by simp) ?_
    refine x_iload_n dX11_count_0 x_get_2_1 ?_
    refine x_tswOut (t := 254) dX11_count_1 (by rw [x_n_of hw]; omega) rfl ?_
    exact x_throw 16 (by decide) tw_NSE rfl dX11_count_254 dX11_count_257 dX11_count_258 dX11_count_260 dX11_count_263 (Nat.le_of_ble_eq_true rfl) (Nat.le_of_ble_eq_true rfl) (Nat.le_of_ble_eq_true rfl) (Nat.le_of_ble_eq_true rfl) rfl rfl rfl rfl hsc rfl (Nat.le_of_ble_eq_true rfl) (Nat.le_of_ble_eq_true rfl)
theorem c11_town {X : xC} {l : Launch} (hl : l.stackTraces = false) {N : Nat} {sh : xS} {D : xM} {la lb T C W : Nat} {G : Ldt} (hq : cq N sh D la lb T C W G) {t w : Int} (ht : x_r t) (hw : x_r w) : x_M X l yX11_town cX11_town 3 (some .int) 7 1 6 [.ref (x_b X + 0), .int (xI t), .int (xI w)] false N sh D (q_town T C G (D 34) t w) false N sh (sc la D) := by
  obtain ⟨hX, hG, hR, ⟨hk, hd9, hpl⟩, hco⟩ := id hq
  obtain ⟨hN, x0, x1, x2, xla, xlb, x33, x35, x37, x39, x43, x45, x47, x51, x60, x61, hll⟩ := id hX
  have hla : la = 3 ∨ la = 18 := by omega
  have n0 : 0 < N := by omega
  have n1 : 1 < N := by omega
  have n2 : 2 < N := by omega
  have n33 : 33 < N := by omega
  have n34 : 34 < N := by omega
  have n35 : 35 < N := by omega
  have n36 : 36 < N := by omega
  have n37 : 37 < N := by omega
  have n38 : 38 < N := by omega
  have n39 : 39 < N := by omega
  have n40 : 40 < N := by omega
  have n41 : 41 < N := by omega
  have n42 : 42 < N := by omega
  have n43 : 43 < N := by omega
  have n45 : 45 < N := by omega
  have n47 : 47 < N := by omega
  have n51 : 51 < N := by omega
  have n60 : 60 < N := by omega
  have n61 : 61 < N := by omega
  have x33a := x33.2.1
  have x34 := x33.2.2.2
  have x35a := x35.2.1
  have x36 := x35.2.2.2
  have x37a := x37.2.1
  have x38 := x37.2.2.2
  have x39a := x39.2.1
  have x43a := x43.2.1
  have x45a := x45.2.1
  have x47a := x47.2.1
  have x51a := x51.2.1
  have xla0 := xla.2.1
  have xla1 := xla.2.2.1
  have xla2 := xla.2.2.2.1
  have hlaN : la < N := by have := xla.1; omega
  have hlaN1 : la + 1 < N := by have := xla.1; omega
  have hlaN2 : la + 2 < N := by have := xla.1; omega
  have hlaN3 : la + 3 < N := by have := xla.1; omega
  have hlaN10 : la + 10 < N := by have := xla.1; omega
  have xru := (is_L_ru xla).2.1
  have xro := (is_L_ro xla).2.1
  obtain ⟨hG1, hG2, hG3⟩ := ldG_G hG
  obtain ⟨n0', ⟨gT, gTb, gC, gCb, -⟩, -⟩ := id hG
  obtain ⟨rW, rWb, rT, -, ro1, ro2, ro3, ro4, ro5, ro6⟩ := id hR
  have hd0 : 0 ≤ D 34 0 := ((hk 0).1 rfl).1
  have hB : 161 * D 34 0 ≤ 160839 := by omega
  have hsc := sc_refl hG hco
  by_cases htn : 0 ≤ t ∧ t < T
  · obtain ⟨ht0, ht1⟩ := id htn
    by_cases hin : 0 ≤ w ∧ w ≤ 6
    · have hc : w = 0 ∨ w = 1 ∨ w = 2 ∨ w = 3 ∨ w = 4 ∨ w = 5 ∨ w = 6 := by omega
      unfold q_town
      rw [if_pos htn]
      rcases hc with rfl | rfl | rfl | rfl | rfl | rfl | rfl
      · refine x_ofW (by decide +kernel) hl (by simp [Value.category]) (by simp) ?_
        refine x_aload_n dX11_town_0 x_get_3_0 ?_
        refine x_iload_n dX11_town_1 x_get_3_1 ?_
        refine x_callV (As := [_]) dX11_town_2 w_11_161 (c11_nTown hl hq ht0 ht1) (by assumption) (by assumption) rfl rfl (Nat.le_of_ble_eq_true rfl) (Nat.le_of_ble_eq_true rfl) (Nat.le_of_ble_eq_true rfl) (Nat.le_of_ble_eq_true rfl) (Nat.le_of_ble_eq_true rfl) ?_
        intro d hd
        obtain rfl := Eq.symm hd
        refine x_iload_n dX11_town_5 x_get_3_2 ?_
        refine x_tswIn (t := 48) dX11_town_6 (by decide) (by decide) rfl rfl ?_
        refine x_aload_n dX11_town_48 x_get_3_0 ?_
        refine x_getR dX11_town_49 fX_11_30 (by assumption) (by assumption) (by rfl) ?_
        refine x_getR dX11_town_52 fX_11_135 (by assumption) (by assumption) (by rfl) ?_
        refine x_iconst dX11_town_55 ?_
        refine x_iload_n dX11_town_56 x_get_3_1 ?_
        refine x_iadd dX11_town_57 ?_
        refine x_iald dX11_town_58 (by assumption) (by assumption) (by omega) (by omega) (by decide) ?_
        exact x_iret dX11_town_59 rfl (Nat.le_of_ble_eq_true rfl) (Nat.le_of_ble_eq_true rfl) rfl rfl rfl hsc rfl
      · refine x_ofW (by decide +kernel) hl (by simp [Value.category]) (by simp) ?_
        refine x_aload_n dX11_town_0 x_get_3_0 ?_
        refine x_iload_n dX11_town_1 x_get_3_1 ?_
        refine x_callV (As := [_]) dX11_town_2 w_11_161 (c11_nTown hl hq ht0 ht1) (by assumption) (by assumption) rfl rfl (Nat.le_of_ble_eq_true rfl) (Nat.le_of_ble_eq_true rfl) (Nat.le_of_ble_eq_true rfl) (Nat.le_of_ble_eq_true rfl) (Nat.le_of_ble_eq_true rfl) ?_
        intro d hd
        obtain rfl := Eq.symm hd
        refine x_iload_n dX11_town_5 x_get_3_2 ?_
        refine x_tswIn (t := 60) dX11_town_6 (by decide) (by decide) rfl rfl ?_
        refine x_aload_n dX11_town_60 x_get_3_0 ?_
        refine x_getR dX11_town_61 fX_11_30 (by assumption) (by assumption) (by rfl) ?_
        refine x_getR dX11_town_64 fX_11_135 (by assumption) (by assumption) (by rfl) ?_
        refine x_bipush dX11_town_67 rfl ?_
        refine x_iload_n dX11_town_69 x_get_3_1 ?_
        refine x_iadd dX11_town_70 ?_
        refine x_iald dX11_town_71 (by assumption) (by assumption) (by omega) (by omega) (by decide) ?_
        exact x_iret dX11_town_72 rfl (Nat.le_of_ble_eq_true rfl) (Nat.le_of_ble_eq_true rfl) rfl rfl rfl hsc rfl
      · refine x_ofW (by decide +kernel) hl (by simp [Value.category]) (by simp) ?_
        refine x_aload_n dX11_town_0 x_get_3_0 ?_
        refine x_iload_n dX11_town_1 x_get_3_1 ?_
        refine x_callV (As := [_]) dX11_town_2 w_11_161 (c11_nTown hl hq ht0 ht1) (by assumption) (by assumption) rfl rfl (Nat.le_of_ble_eq_true rfl) (Nat.le_of_ble_eq_true rfl) (Nat.le_of_ble_eq_true rfl) (Nat.le_of_ble_eq_true rfl) (Nat.le_of_ble_eq_true rfl) ?_
        intro d hd
        obtain rfl := Eq.symm hd
        refine x_iload_n dX11_town_5 x_get_3_2 ?_
        refine x_tswIn (t := 73) dX11_town_6 (by decide) (by decide) rfl rfl ?_
        refine x_aload_n dX11_town_73 x_get_3_0 ?_
        refine x_getR dX11_town_74 fX_11_23 (by assumption) (by assumption) (by rfl) ?_
        refine x_getR dX11_town_77 fX_11_164 (by assumption) (by assumption) (by rfl) ?_
        refine x_iload_n dX11_town_80 x_get_3_1 ?_
        refine x_iald dX11_town_81 (by assumption) (by assumption) (by omega) (by omega) (by decide) ?_
        exact x_iret dX11_town_82 rfl (Nat.le_of_ble_eq_true rfl) (Nat.le_of_ble_eq_true rfl) (by rw [ldG_mk hG]; rfl) rfl rfl hsc rfl
      · refine x_ofW (by decide +kernel) hl (by simp [Value.category]) (by simp) ?_
        refine x_aload_n dX11_town_0 x_get_3_0 ?_
        refine x_iload_n dX11_town_1 x_get_3_1 ?_
        refine x_callV (As := [_]) dX11_town_2 w_11_161 (c11_nTown hl hq ht0 ht1) (by assumption) (by assumption) rfl rfl (Nat.le_of_ble_eq_true rfl) (Nat.le_of_ble_eq_true rfl) (Nat.le_of_ble_eq_true rfl) (Nat.le_of_ble_eq_true rfl) (Nat.le_of_ble_eq_true rfl) ?_
        intro d hd
        obtain rfl := Eq.symm hd
        refine x_iload_n dX11_town_5 x_get_3_2 ?_
        refine x_tswIn (t := 83) dX11_town_6 (by decide) (by decide) rfl rfl ?_
        refine x_aload_n dX11_town_83 x_get_3_0 ?_
        refine x_getR dX11_town_84 fX_11_23 (by assumption) (by assumption) (by rfl) ?_
        refine x_getR dX11_town_87 fX_11_167 (by assumption) (by assumption) (by rfl) ?_
        refine x_iload_n dX11_town_90 x_get_3_1 ?_
        refine x_iald dX11_town_91 (by assumption) (by assumption) (by omega) (by omega) (by decide) ?_
        exact x_iret dX11_town_92 rfl (Nat.le_of_ble_eq_true rfl) (Nat.le_of_ble_eq_true rfl) (by rw [ldG_st hG]; rfl) rfl rfl hsc rfl
      · refine x_ofW (by decide +kernel) hl (by simp [Value.category]) (by simp) ?_
        refine x_aload_n dX11_town_0 x_get_3_0 ?_
        refine x_iload_n dX11_town_1 x_get_3_1 ?_
        refine x_callV (As := [_]) dX11_town_2 w_11_161 (c11_nTown hl hq ht0 ht1) (by assumption) (by assumption) rfl rfl (Nat.le_of_ble_eq_true rfl) (Nat.le_of_ble_eq_true rfl) (Nat.le_of_ble_eq_true rfl) (Nat.le_of_ble_eq_true rfl) (Nat.le_of_ble_eq_true rfl) ?_
        intro d hd
        obtain rfl := Eq.symm hd
        refine x_iload_n dX11_town_5 x_get_3_2 ?_
        refine x_tswIn (t := 93) dX11_town_6 (by decide) (by decide) rfl rfl ?_
        refine x_aload_n dX11_town_93 x_get_3_0 ?_
        refine x_getR dX11_town_94 fX_11_30 (by assumption) (by assumption) (by rfl) ?_
        refine x_getR dX11_town_97 fX_11_135 (by assumption) (by assumption) (by rfl) ?_
        refine x_bipush dX11_town_100 rfl ?_
        refine x_iload_n dX11_town_102 x_get_3_1 ?_
        refine x_iadd dX11_town_103 ?_
        refine x_iald dX11_town_104 (by assumption) (by assumption) (by omega) (by omega) (by decide) ?_
        exact x_iret dX11_town_105 rfl (Nat.le_of_ble_eq_true rfl) (Nat.le_of_ble_eq_true rfl) rfl rfl rfl hsc rfl
      · refine x_ofW (by decide +kernel) hl (by simp [Value.category]) (by simp) ?_
        refine x_aload_n dX11_town_0 x_get_3_0 ?_
        refine x_iload_n dX11_town_1 x_get_3_1 ?_
        refine x_callV (As := [_]) dX11_town_2 w_11_161 (c11_nTown hl hq ht0 ht1) (by assumption) (by assumption) rfl rfl (Nat.le_of_ble_eq_true rfl) (Nat.le_of_ble_eq_true rfl) (Nat.le_of_ble_eq_true rfl) (Nat.le_of_ble_eq_true rfl) (Nat.le_of_ble_eq_true rfl) ?_
        intro d hd
        obtain rfl := Eq.symm hd
        refine x_iload_n dX11_town_5 x_get_3_2 ?_
        refine x_tswIn (t := 106) dX11_town_6 (by decide) (by decide) rfl rfl ?_
        refine x_aload_n dX11_town_106 x_get_3_0 ?_
        refine x_getR dX11_town_107 fX_11_23 (by assumption) (by assumption) (by rfl) ?_
        refine x_getR dX11_town_110 fX_11_170 (by assumption) (by assumption) (by rfl) ?_
        refine x_aload_n dX11_town_113 x_get_3_0 ?_
        refine x_getR dX11_town_114 fX_11_23 (by assumption) (by assumption) (by rfl) ?_
        refine x_aload_n dX11_town_117 x_get_3_0 ?_
        refine x_getR dX11_town_118 fX_11_30 (by assumption) (by assumption) (by rfl) ?_
        refine x_iload_n dX11_town_121 x_get_3_1 ?_
        refine x_callV (As := [_, _, _]) dX11_town_122 w_11_174 (c7_oddsG hl x33 xla hG (Or.inr (by omega)) hk (by omega) ht0 (by omega)) (by assumption) (by assumption) rfl rfl (Nat.le_of_ble_eq_true rfl) (Nat.le_of_ble_eq_true rfl) (Nat.le_of_ble_eq_true rfl) (Nat.le_of_ble_eq_true rfl) (Nat.le_of_ble_eq_true rfl) ?_
        rintro _ ⟨w, rfl, hw⟩
        exact x_iret dX11_town_125 rfl (Nat.le_of_ble_eq_true rfl) (Nat.le_of_ble_eq_true rfl) rfl rfl rfl (sc_w hsc hla hw) rfl
      · refine x_ofW (by decide +kernel) hl (by simp [Value.category]) (by simp) ?_
        refine x_aload_n dX11_town_0 x_get_3_0 ?_
        refine x_iload_n dX11_town_1 x_get_3_1 ?_
        refine x_callV (As := [_]) dX11_town_2 w_11_161 (c11_nTown hl hq ht0 ht1) (by assumption) (by assumption) rfl rfl (Nat.le_of_ble_eq_true rfl) (Nat.le_of_ble_eq_true rfl) (Nat.le_of_ble_eq_true rfl) (Nat.le_of_ble_eq_true rfl) (Nat.le_of_ble_eq_true rfl) ?_
        intro d hd
        obtain rfl := Eq.symm hd
        refine x_iload_n dX11_town_5 x_get_3_2 ?_
        refine x_tswIn (t := 126) dX11_town_6 (by decide) (by decide) rfl rfl ?_
        refine x_aload_n dX11_town_126 x_get_3_0 ?_
        refine x_getR dX11_town_127 fX_11_30 (by assumption) (by assumption) (by rfl) ?_
        refine x_aload_n dX11_town_130 x_get_3_0 ?_
        refine x_getR dX11_town_131 fX_11_23 (by assumption) (by assumption) (by rfl) ?_
        refine x_getI 1 dX11_town_134 fX_11_132 rfl (by assumption) (by assumption) (by rfl) ?_
        rw [gC]
        refine x_iload_n dX11_town_137 x_get_3_1 ?_
        refine x_callV (As := [_, _]) dX11_town_138 w_11_180 (c9_bitsIn hl x33 (B := 161 * D 34 0) (by omega) hk gCb ⟨by omega, by omega⟩) (by assumption) (by assumption) rfl rfl (Nat.le_of_ble_eq_true rfl) (Nat.le_of_ble_eq_true rfl) (Nat.le_of_ble_eq_true rfl) (Nat.le_of_ble_eq_true rfl) (Nat.le_of_ble_eq_true rfl) ?_
        intro d hd
        obtain rfl := Eq.symm hd
        exact x_iret dX11_town_141 rfl (Nat.le_of_ble_eq_true rfl) (Nat.le_of_ble_eq_true rfl) rfl rfl rfl hsc rfl
    · have ho : q_town T C G (D 34) t w = .inr x_NSE := by
        unfold q_town
        rw [if_pos htn]
        repeat rw [if_neg (by omega)]
      rw [ho]
      refine x_ofW (by decide +kernel) hl (by simp [Value.category]) (by simp) ?_
      refine x_aload_n dX11_town_0 x_get_3_0 ?_
      refine x_iload_n dX11_town_1 x_get_3_1 ?_
      refine x_callV (As := [_]) dX11_town_2 w_11_161 (c11_nTown hl hq ht0 ht1) (by assumption) (by assumption) rfl rfl (Nat.le_of_ble_eq_true rfl) (Nat.le_of_ble_eq_true rfl) (Nat.le_of_ble_eq_true rfl) (Nat.le_of_ble_eq_true rfl) (Nat.le_of_ble_eq_true rfl) ?_
      intro d hd
      obtain rfl := Eq.symm hd
      refine x_iload_n dX11_town_5 x_get_3_2 ?_
      refine x_tswOut (t := 142) dX11_town_6 (by rw [x_n_of hw]; omega) rfl ?_
      exact x_throw 18 (by decide) tw_NSE rfl dX11_town_142 dX11_town_145 dX11_town_146 dX11_town_148 dX11_town_151 (Nat.le_of_ble_eq_true rfl) (Nat.le_of_ble_eq_true rfl) (Nat.le_of_ble_eq_true rfl) (Nat.le_of_ble_eq_true rfl) rfl rfl rfl rfl hsc rfl (Nat.le_of_ble_eq_true rfl) (Nat.le_of_ble_eq_true rfl)
  · unfold q_town
    rw [if_neg htn]
    refine x_ofW (by decide +kernel) hl (by simp [Value.category]) (by simp) ?_
    refine x_aload_n dX11_town_0 x_get_3_0 ?_
    refine x_iload_n dX11_town_1 x_get_3_1 ?_
    exact x_callVT (As := [_]) dX11_town_2 w_11_161 (c11_nTownT hl hq ht htn) (by assumption) (by assumption) rfl rfl (Nat.le_of_ble_eq_true rfl) (Nat.le_of_ble_eq_true rfl) (Nat.le_of_ble_eq_true rfl) (Nat.le_of_ble_eq_true rfl) (Nat.le_of_ble_eq_true rfl) rfl rfl rfl rfl (fun d hd => by obtain rfl := Eq.symm hd; exact hsc) rfl (Nat.le_of_ble_eq_true rfl) (Nat.le_of_ble_eq_true rfl)
theorem c11_crate {X : xC} {l : Launch} (hl : l.stackTraces = false) {N : Nat} {sh : xS} {D : xM} {la lb T C W : Nat} {G : Ldt} (hq : cq N sh D la lb T C W G) {t w : Int} (ht : x_r t) (hw : x_r w) : x_M X l yX11_crate cX11_crate 3 (some .int) 7 1 6 [.ref (x_b X + 0), .int (xI t), .int (xI w)] false N sh D (q_crate C (D 34) t w) false N sh (sc la D) := by
  obtain ⟨hX, hG, hR, ⟨hk, hd9, hpl⟩, hco⟩ := id hq
  obtain ⟨hN, x0, x1, x2, xla, xlb, x33, x35, x37, x39, x43, x45, x47, x51, x60, x61, hll⟩ := id hX
  have hla : la = 3 ∨ la = 18 := by omega
  have n0 : 0 < N := by omega
  have n1 : 1 < N := by omega
  have n2 : 2 < N := by omega
  have n33 : 33 < N := by omega
  have n34 : 34 < N := by omega
  have n35 : 35 < N := by omega
  have n36 : 36 < N := by omega
  have n37 : 37 < N := by omega
  have n38 : 38 < N := by omega
  have n39 : 39 < N := by omega
  have n40 : 40 < N := by omega
  have n41 : 41 < N := by omega
  have n42 : 42 < N := by omega
  have n43 : 43 < N := by omega
  have n45 : 45 < N := by omega
  have n47 : 47 < N := by omega
  have n51 : 51 < N := by omega
  have n60 : 60 < N := by omega
  have n61 : 61 < N := by omega
  have x33a := x33.2.1
  have x34 := x33.2.2.2
  have x35a := x35.2.1
  have x36 := x35.2.2.2
  have x37a := x37.2.1
  have x38 := x37.2.2.2
  have x39a := x39.2.1
  have x43a := x43.2.1
  have x45a := x45.2.1
  have x47a := x47.2.1
  have x51a := x51.2.1
  have xla0 := xla.2.1
  have xla1 := xla.2.2.1
  have xla2 := xla.2.2.2.1
  have hlaN : la < N := by have := xla.1; omega
  have hlaN1 : la + 1 < N := by have := xla.1; omega
  have hlaN2 : la + 2 < N := by have := xla.1; omega
  have hlaN3 : la + 3 < N := by have := xla.1; omega
  have hlaN10 : la + 10 < N := by have := xla.1; omega
  have xru := (is_L_ru xla).2.1
  have xro := (is_L_ro xla).2.1
  obtain ⟨hG1, hG2, hG3⟩ := ldG_G hG
  obtain ⟨n0', ⟨gT, gTb, gC, gCb, -⟩, -⟩ := id hG
  obtain ⟨rW, rWb, rT, -, ro1, ro2, ro3, ro4, ro5, ro6⟩ := id hR
  have hd0 : 0 ≤ D 34 0 := ((hk 0).1 rfl).1
  have hB : 161 * D 34 0 ≤ 160839 := by omega
  have hsc := sc_refl hG hco
  by_cases htn : 0 ≤ t ∧ t < C
  · obtain ⟨ht0, ht1⟩ := id htn
    by_cases hin : 0 ≤ w ∧ w ≤ 4
    · have hc : w = 0 ∨ w = 1 ∨ w = 2 ∨ w = 3 ∨ w = 4 := by omega
      unfold q_crate
      rw [if_pos htn]
      rcases hc with rfl | rfl | rfl | rfl | rfl
      · refine x_ofW (by decide +kernel) hl (by simp [Value.category]) (by simp) ?_
        refine x_aload_n dX11_crate_0 x_get_3_0 ?_
        refine x_iload_n dX11_crate_1 x_get_3_1 ?_
        refine x_callV (As := [_]) dX11_crate_2 w_11_185 (c11_nCrate hl hq ht0 ht1) (by assumption) (by assumption) rfl rfl (Nat.le_of_ble_eq_true rfl) (Nat.le_of_ble_eq_true rfl) (Nat.le_of_ble_eq_true rfl) (Nat.le_of_ble_eq_true rfl) (Nat.le_of_ble_eq_true rfl) ?_
        intro d hd
        obtain rfl := Eq.symm hd
        refine x_iload_n dX11_crate_5 x_get_3_2 ?_
        refine x_tswIn (t := 40) dX11_crate_6 (by decide) (by decide) rfl rfl ?_
        refine x_aload_n dX11_crate_40 x_get_3_0 ?_
        refine x_getR dX11_crate_41 fX_11_30 (by assumption) (by assumption) (by rfl) ?_
        refine x_getR dX11_crate_44 fX_11_135 (by assumption) (by assumption) (by rfl) ?_
        refine x_bipush dX11_crate_47 rfl ?_
        refine x_iload_n dX11_crate_49 x_get_3_1 ?_
        refine x_iadd dX11_crate_50 ?_
        refine x_iald dX11_crate_51 (by assumption) (by assumption) (by omega) (by omega) (by decide) ?_
        exact x_iret dX11_crate_52 rfl (Nat.le_of_ble_eq_true rfl) (Nat.le_of_ble_eq_true rfl) rfl rfl rfl hsc rfl
      · refine x_ofW (by decide +kernel) hl (by simp [Value.category]) (by simp) ?_
        refine x_aload_n dX11_crate_0 x_get_3_0 ?_
        refine x_iload_n dX11_crate_1 x_get_3_1 ?_
        refine x_callV (As := [_]) dX11_crate_2 w_11_185 (c11_nCrate hl hq ht0 ht1) (by assumption) (by assumption) rfl rfl (Nat.le_of_ble_eq_true rfl) (Nat.le_of_ble_eq_true rfl) (Nat.le_of_ble_eq_true rfl) (Nat.le_of_ble_eq_true rfl) (Nat.le_of_ble_eq_true rfl) ?_
        intro d hd
        obtain rfl := Eq.symm hd
        refine x_iload_n dX11_crate_5 x_get_3_2 ?_
        refine x_tswIn (t := 53) dX11_crate_6 (by decide) (by decide) rfl rfl ?_
        refine x_aload_n dX11_crate_53 x_get_3_0 ?_
        refine x_getR dX11_crate_54 fX_11_30 (by assumption) (by assumption) (by rfl) ?_
        refine x_getR dX11_crate_57 fX_11_135 (by assumption) (by assumption) (by rfl) ?_
        refine x_bipush dX11_crate_60 rfl ?_
        refine x_iload_n dX11_crate_62 x_get_3_1 ?_
        refine x_iadd dX11_crate_63 ?_
        refine x_iald dX11_crate_64 (by assumption) (by assumption) (by omega) (by omega) (by decide) ?_
        exact x_iret dX11_crate_65 rfl (Nat.le_of_ble_eq_true rfl) (Nat.le_of_ble_eq_true rfl) rfl rfl rfl hsc rfl
      · refine x_ofW (by decide +kernel) hl (by simp [Value.category]) (by simp) ?_
        refine x_aload_n dX11_crate_0 x_get_3_0 ?_
        refine x_iload_n dX11_crate_1 x_get_3_1 ?_
        refine x_callV (As := [_]) dX11_crate_2 w_11_185 (c11_nCrate hl hq ht0 ht1) (by assumption) (by assumption) rfl rfl (Nat.le_of_ble_eq_true rfl) (Nat.le_of_ble_eq_true rfl) (Nat.le_of_ble_eq_true rfl) (Nat.le_of_ble_eq_true rfl) (Nat.le_of_ble_eq_true rfl) ?_
        intro d hd
        obtain rfl := Eq.symm hd
        refine x_iload_n dX11_crate_5 x_get_3_2 ?_
        refine x_tswIn (t := 66) dX11_crate_6 (by decide) (by decide) rfl rfl ?_
        refine x_aload_n dX11_crate_66 x_get_3_0 ?_
        refine x_getR dX11_crate_67 fX_11_30 (by assumption) (by assumption) (by rfl) ?_
        refine x_getR dX11_crate_70 fX_11_135 (by assumption) (by assumption) (by rfl) ?_
        refine x_bipush dX11_crate_73 rfl ?_
        refine x_iload_n dX11_crate_75 x_get_3_1 ?_
        refine x_iadd dX11_crate_76 ?_
        refine x_iald dX11_crate_77 (by assumption) (by assumption) (by omega) (by omega) (by decide) ?_
        exact x_iret dX11_crate_78 rfl (Nat.le_of_ble_eq_true rfl) (Nat.le_of_ble_eq_true rfl) rfl rfl rfl hsc rfl
      · refine x_ofW (by decide +kernel) hl (by simp [Value.category]) (by simp) ?_
        refine x_aload_n dX11_crate_0 x_get_3_0 ?_
        refine x_iload_n dX11_crate_1 x_get_3_1 ?_
        refine x_callV (As := [_]) dX11_crate_2 w_11_185 (c11_nCrate hl hq ht0 ht1) (by assumption) (by assumption) rfl rfl (Nat.le_of_ble_eq_true rfl) (Nat.le_of_ble_eq_true rfl) (Nat.le_of_ble_eq_true rfl) (Nat.le_of_ble_eq_true rfl) (Nat.le_of_ble_eq_true rfl) ?_
        intro d hd
        obtain rfl := Eq.symm hd
        refine x_iload_n dX11_crate_5 x_get_3_2 ?_
        refine x_tswIn (t := 79) dX11_crate_6 (by decide) (by decide) rfl rfl ?_
        refine x_aload_n dX11_crate_79 x_get_3_0 ?_
        refine x_getR dX11_crate_80 fX_11_30 (by assumption) (by assumption) (by rfl) ?_
        refine x_getR dX11_crate_83 fX_11_135 (by assumption) (by assumption) (by rfl) ?_
        refine x_bipush dX11_crate_86 rfl ?_
        refine x_iload_n dX11_crate_88 x_get_3_1 ?_
        refine x_iadd dX11_crate_89 ?_
        refine x_iald dX11_crate_90 (by assumption) (by assumption) (by omega) (by omega) (by decide) ?_
        exact x_iret dX11_crate_91 rfl (Nat.le_of_ble_eq_true rfl) (Nat.le_of_ble_eq_true rfl) rfl rfl rfl hsc rfl
      · refine x_ofW (by decide +kernel) hl (by simp [Value.category]) (by simp) ?_
        refine x_aload_n dX11_crate_0 x_get_3_0 ?_
        refine x_iload_n dX11_crate_1 x_get_3_1 ?_
        refine x_callV (As := [_]) dX11_crate_2 w_11_185 (c11_nCrate hl hq ht0 ht1) (by assumption) (by assumption) rfl rfl (Nat.le_of_ble_eq_true rfl) (Nat.le_of_ble_eq_true rfl) (Nat.le_of_ble_eq_true rfl) (Nat.le_of_ble_eq_true rfl) (Nat.le_of_ble_eq_true rfl) ?_
        intro d hd
        obtain rfl := Eq.symm hd
        refine x_iload_n dX11_crate_5 x_get_3_2 ?_
        refine x_tswIn (t := 92) dX11_crate_6 (by decide) (by decide) rfl rfl ?_
        refine x_aload_n dX11_crate_92 x_get_3_0 ?_
        refine x_getR dX11_crate_93 fX_11_30 (by assumption) (by assumption) (by rfl) ?_
        refine x_getR dX11_crate_96 fX_11_135 (by assumption) (by assumption) (by rfl) ?_
        refine x_bipush dX11_crate_99 rfl ?_
        refine x_iload_n dX11_crate_101 x_get_3_1 ?_
        refine x_iadd dX11_crate_102 ?_
        refine x_iald dX11_crate_103 (by assumption) (by assumption) (by omega) (by omega) (by decide) ?_
        exact x_iret dX11_crate_104 rfl (Nat.le_of_ble_eq_true rfl) (Nat.le_of_ble_eq_true rfl) rfl rfl rfl hsc rfl
    · have ho : q_crate C (D 34) t w = .inr x_NSE := by
        unfold q_crate
        rw [if_pos htn]
        repeat rw [if_neg (by omega)]
      rw [ho]
      refine x_ofW (by decide +kernel) hl (by simp [Value.category]) (by simp) ?_
      refine x_aload_n dX11_crate_0 x_get_3_0 ?_
      refine x_iload_n dX11_crate_1 x_get_3_1 ?_
      refine x_callV (As := [_]) dX11_crate_2 w_11_185 (c11_nCrate hl hq ht0 ht1) (by assumption) (by assumption) rfl rfl (Nat.le_of_ble_eq_true rfl) (Nat.le_of_ble_eq_true rfl) (Nat.le_of_ble_eq_true rfl) (Nat.le_of_ble_eq_true rfl) (Nat.le_of_ble_eq_true rfl) ?_
      intro d hd
      obtain rfl := Eq.symm hd
      refine x_iload_n dX11_crate_5 x_get_3_2 ?_
      refine x_tswOut (t := 105) dX11_crate_6 (by rw [x_n_of hw]; omega) rfl ?_
      exact x_throw 20 (by decide) tw_NSE rfl dX11_crate_105 dX11_crate_108 dX11_crate_109 dX11_crate_111 dX11_crate_114 (Nat.le_of_ble_eq_true rfl) (Nat.le_of_ble_eq_true rfl) (Nat.le_of_ble_eq_true rfl) (Nat.le_of_ble_eq_true rfl) rfl rfl rfl rfl hsc rfl (Nat.le_of_ble_eq_true rfl) (Nat.le_of_ble_eq_true rfl)
  · unfold q_crate
    rw [if_neg htn]
    refine x_ofW (by decide +kernel) hl (by simp [Value.category]) (by simp) ?_
    refine x_aload_n dX11_crate_0 x_get_3_0 ?_
    refine x_iload_n dX11_crate_1 x_get_3_1 ?_
    exact x_callVT (As := [_]) dX11_crate_2 w_11_185 (c11_nCrateT hl hq ht htn) (by assumption) (by assumption) rfl rfl (Nat.le_of_ble_eq_true rfl) (Nat.le_of_ble_eq_true rfl) (Nat.le_of_ble_eq_true rfl) (Nat.le_of_ble_eq_true rfl) (Nat.le_of_ble_eq_true rfl) rfl rfl rfl rfl (fun d hd => by obtain rfl := Eq.symm hd; exact hsc) rfl (Nat.le_of_ble_eq_true rfl) (Nat.le_of_ble_eq_true rfl)
end C45
