section C9B
def d_next (z : Int) : Int := z * 1103515245 + 12345
def d_val (z n : Int) : Int := x_an (x_ur z 16) 32767 % n
theorem x_an_in (a : Int) : 0 ≤ x_an a 32767 ∧ x_an a 32767 ≤ 32767 := by
  have h : x_an a 32767 = ((((xI a).toBitVec.toNat &&& 32767 : Nat)) : Int) := by
    unfold x_an
    have e : (xI a &&& xI 32767) = xI (((xI a).toBitVec.toNat &&& 32767 : Nat) : Int) := by
      rw [xI_nat]
      apply Int32.toBitVec_inj.mp
      have e2 : (xI 32767) = Int32.ofNat 32767 := xI_nat 32767
      rw [e2]
      apply BitVec.eq_of_toNat_eq
      simp
    rw [e]
    exact x_n_nat (Nat.lt_of_le_of_lt Nat.and_le_right (by decide))
  rw [h]
  have : (xI a).toBitVec.toNat &&& 32767 ≤ 32767 := Nat.and_le_right
  omega
theorem x_rm_nn {a b : Int} (ha : 0 ≤ a) (h2 : a < 2147483648) (hb : 0 < b) (h3 : b < 2147483648) : x_rm a b = a % b := by
  have h := x_dv_nn ha h2 hb h3
  have e : xI a / xI b = xI (a / b) := by rw [← h]; unfold x_dv; rw [xI_toInt]
  unfold x_rm
  rw [e, ← xI_mul, ← xI_sub]
  have e2 : a - a / b * b = a % b := by rw [Int.emod_def, Int.mul_comm b]
  rw [e2]
  have h4 := Int.emod_nonneg a (show b ≠ 0 by omega)
  have h5 := Int.emod_lt_of_pos a hb
  exact x_n_of ⟨by omega, by omega⟩
theorem d_val_rm {z n : Int} (h0 : 0 < n) (h1 : n < 1000) : d_val z n = x_rm (x_an (x_ur z 16) 32767) n := by
  have := x_an_in (x_ur z 16)
  rw [x_rm_nn (by omega) (by omega) h0 (by omega)]
  rfl
theorem d_val_in (z : Int) {n : Int} (h0 : 0 < n) : 0 ≤ d_val (d_next z) n ∧ d_val (d_next z) n < n := ⟨Int.emod_nonneg _ (by omega), Int.emod_lt_of_pos _ h0⟩
theorem x_up4 {D : xM} {a b : Nat} {f f2 w w2 : Int → Int} : x_up (x_up (x_up (x_up D a f) b w) a f2) b w2 = x_up (x_up D a f2) b w2 := by
  funext j
  unfold x_up
  split
  · rfl
  · split <;> rfl
theorem x_upa {D : xM} {a b : Nat} {f w : Int → Int} (h : a ≠ b) : x_up (x_up D a f) b w a = f := by rw [x_up_n h, x_up_s]
theorem ldG_w {D : xM} {la T C : Nat} {G : Ldt} (h : ldG D la T C G) : ∀ j, x_r (D (la + 12) j) := by
  obtain ⟨n, h, -⟩ := h
  exact h.2.2.2.2.2.2.2.2
/-- the towns' plays by draws: the row, the seed -/
def s_drawn1 (G : Ldt) (p : (Int → Int) × Int) (t : Int) : (Int → Int) × Int := (s_stl (s_add p.1 (1 + t) (G.1 t)) t (G.2.1 t) (d_val (d_next p.2) 12 < G.2.2 (s_add p.1 (1 + t) (G.1 t)) t), d_next p.2)
def s_drawns (G : Ldt) (f : Int → Int) (s : Int) : Nat → (Int → Int) × Int
  | 0 => (f, s)
  | n + 1 => s_drawn1 G (s_drawns G f s n) n
def s_drawn (G : Ldt) (T C : Nat) (f : Int → Int) (s : Int) : (Int → Int) × Int := (s_tick (s_drawns G (s_mv f C) s T).1, (s_drawns G (s_mv f C) s T).2)
theorem s_ok_drawns {B : Int} {f : Int → Int} (h : s_ok B f) {G : Ldt} (hG1 : ∀ j, 0 ≤ G.1 j ∧ G.1 j ≤ 20) (hG2 : ∀ j, 0 ≤ G.2.1 j ∧ G.2.1 j ≤ 20) (s : Int) : ∀ n : Nat, n ≤ 8 → s_ok (B + 20 * n) (s_drawns G f s n).1
  | 0, _ => by simpa [s_drawns] using h
  | n + 1, hn => by
    have h1 := s_ok_drawns h hG1 hG2 s n (by omega)
    have h2 := s_ok_stl (s_ok_add h1 (c := 1 + (n : Int)) (by omega) (by omega) (hG1 n).1) (t := (n : Int)) (by omega) (by omega) (hG2 n).1 (hG2 n).2 (d_val (d_next (s_drawns G f s n).2) 12 < G.2.2 (s_add (s_drawns G f s n).1 (1 + (n : Int)) (G.1 n)) n)
    exact s_ok_le (by push_cast; omega) h2
theorem s_ok_drawn {B : Int} {f : Int → Int} (h : s_ok B f) {G : Ldt} (hG1 : ∀ j, 0 ≤ G.1 j ∧ G.1 j ≤ 20) (hG2 : ∀ j, 0 ≤ G.2.1 j ∧ G.2.1 j ≤ 20) (s : Int) {T C : Nat} (hT : T ≤ 8) (hC : C ≤ 10) : s_ok (B + 161) (s_drawn G T C f s).1 :=
  s_ok_le (by omega) (s_ok_tick (s_ok_drawns (s_ok_mv h C hC) hG1 hG2 s T hT))
theorem k_RX2_13 : Cond.constant RX2 13 (xI (1103515245)) ∈ x_T := (x_in 1248 (by decide +kernel) rfl)
theorem w_9_64 : x_cv RX9 64 yX7_odds cX7_odds 6 (some .int) 7 3 := ⟨⟨_, rfl, rfl⟩, (x_in 464 (by decide +kernel) rfl), (x_in 465 (by decide +kernel) rfl), (x_in 466 (by decide +kernel) rfl), (x_in 84 (by decide +kernel) rfl), (x_in 467 (by decide +kernel) rfl), by decide, ⟨by decide +kernel, by decide +kernel, by decide +kernel⟩⟩
theorem w_9_73 : x_cv RX9 73 yX9_settle cX9_settle 5 (none) 9 3 := ⟨⟨_, rfl, rfl⟩, (x_in 490 (by decide +kernel) rfl), (x_in 491 (by decide +kernel) rfl), (x_in 492 (by decide +kernel) rfl), (x_in 85 (by decide +kernel) rfl), (x_in 493 (by decide +kernel) rfl), by decide, ⟨by decide +kernel, by decide +kernel, by decide +kernel⟩⟩
theorem w_9_81 : x_cv RX9 81 yX9_moveCrates cX9_moveCrates 3 (none) 9 1 := ⟨⟨_, rfl, rfl⟩, (x_in 446 (by decide +kernel) rfl), (x_in 447 (by decide +kernel) rfl), (x_in 448 (by decide +kernel) rfl), (x_in 85 (by decide +kernel) rfl), (x_in 449 (by decide +kernel) rfl), by decide, ⟨by decide +kernel, by decide +kernel, by decide +kernel⟩⟩
theorem w_9_87 : x_cv RX9 87 yX9_play cX9_play 4 (some .boolean) 9 2 := ⟨⟨_, rfl, rfl⟩, (x_in 453 (by decide +kernel) rfl), (x_in 454 (by decide +kernel) rfl), (x_in 455 (by decide +kernel) rfl), (x_in 85 (by decide +kernel) rfl), (x_in 456 (by decide +kernel) rfl), by decide, ⟨by decide +kernel, by decide +kernel, by decide +kernel⟩⟩
theorem w_9_91 : x_cv RX9 91 yX9_passDay cX9_passDay 3 (none) 9 1 := ⟨⟨_, rfl, rfl⟩, (x_in 442 (by decide +kernel) rfl), (x_in 443 (by decide +kernel) rfl), (x_in 444 (by decide +kernel) rfl), (x_in 85 (by decide +kernel) rfl), (x_in 445 (by decide +kernel) rfl), by decide, ⟨by decide +kernel, by decide +kernel, by decide +kernel⟩⟩
theorem w_9_95 : x_cv RX9 95 yX2_draw cX2_draw 2 (some .int) 2 1 := ⟨⟨_, rfl, rfl⟩, (x_in 1257 (by decide +kernel) rfl), (x_in 1245 (by decide +kernel) rfl), (x_in 1246 (by decide +kernel) rfl), (x_in 89 (by decide +kernel) rfl), (x_in 1247 (by decide +kernel) rfl), by decide, ⟨by decide +kernel, by decide +kernel, by decide +kernel⟩⟩
theorem c2_draw {X : xC} {l : Launch} (hl : l.stackTraces = false) {N : Nat} {sh : xS} {D : xM} {q : Nat} (hq : q < N) (hsq : sh q = .inr (2, [0])) {n : Int} (h0 : 0 < n) (h1 : n < 1000) : x_M X l yX2_draw cX2_draw 2 (some .int) 1 0 0 [.ref (x_b X + q), .int (xI n)] false N sh D (.inl (some (.int (xI (d_val (d_next (D q 0)) n))))) false N sh (x_is (x_up D q (x_u1 (D q) 0 (d_next (D q 0))))) := by
  refine x_ofW (by decide +kernel) hl (by simp [Value.category]) (by simp) ?_
  refine x_aload_n dX2_draw_0 x_get_2_0 ?_
  refine x_aload_n dX2_draw_1 x_get_2_0 ?_
  refine x_getI 0 dX2_draw_2 fX_2_7 rfl (by assumption) (by assumption) (by rfl) ?_
  refine x_ldc (z := 1103515245) dX2_draw_5 k_RX2_13 ?_
  refine x_imul dX2_draw_7 ?_
  refine x_sipush dX2_draw_8 rfl ?_
  refine x_iadd dX2_draw_11 ?_
  refine x_putI 0 dX2_draw_12 fX_2_7 rfl tX_2_0 (by assumption) (by assumption) (by rfl) ?_
  refine x_iload_n dX2_draw_15 x_get_2_1 ?_
  refine r_if_gt (t := 23) dX2_draw_16 rfl ⟨by omega, by omega⟩ (fun hc16 => ?_) (fun hc16 => absurd hc16 (by omega))
  refine x_aload_n dX2_draw_23 x_get_2_0 ?_
  refine x_getI 0 dX2_draw_24 fX_2_7 rfl (by assumption) (by assumption) (by rfl) ?_
  rw [x_up_s, x_u1_s]
  refine x_bipush dX2_draw_27 rfl ?_
  refine x_iushr dX2_draw_29 ?_
  refine x_sipush dX2_draw_30 rfl ?_
  refine x_iand dX2_draw_33 ?_
  refine x_iload_n dX2_draw_34 x_get_2_1 ?_
  refine x_irem dX2_draw_35 (by rw [← xI_0, xI_eq, x_n0, x_n_of ⟨by omega, by omega⟩]; omega) ?_
  exact x_iret dX2_draw_36 rfl (Nat.le_of_ble_eq_true rfl) (Nat.le_of_ble_eq_true rfl) (by rw [d_val_rm h0 h1]; rfl) rfl rfl rfl rfl
theorem c9_play {X : xC} {l : Launch} (hl : l.stackTraces = false) {N : Nat} {sh : xS} {D : xM} {r a : Nat} (hs : is_St N sh r a) {la T C : Nat} (hL : is_L N sh la) {G : Ldt} (hG : ldG D la T C G) (hsep : a < la ∨ la + 13 < a) {B : Int} (hk : s_ok B (D a)) (hB : B ≤ 900000) {t : Int} (h0 : 0 ≤ t) (h1 : t < 8) : x_M X l yX9_play cX9_play 4 (some .boolean) 4 0 0 [.ref (x_b X + r), .ref (x_b X + la), .int (xI t)] false N sh D (.inl (some (.int (xI (x_B (p_win G (D a) t)))))) false N sh (fun d => ∃ w, (∀ j, x_r (w j)) ∧ d = x_up (x_up D a (s_play G (D a) t)) (la + 12) w) := by
  obtain ⟨hrN, hr, haN, ha⟩ := id hs
  obtain ⟨hruN, hru, -⟩ := is_L_ru hL
  obtain ⟨hlaN, hla, hmk, hst, -⟩ := id hL
  have hmkN : la + 1 < N := by omega
  have hstN : la + 2 < N := by omega
  have hlaN1 : la < N := by omega
  obtain ⟨hG1, hG2, hG3⟩ := ldG_G hG
  have ht := s_tn hk h0 h1
  have hm := hG1 t
  have hsk := hG2 t
  obtain ⟨n, hld, hGe⟩ := id hG
  have hmkE : D (la + 1) = G.1 := by rw [← hGe]; rfl
  have hstE : D (la + 2) = G.2.1 := by rw [← hGe]; rfl
  have hk1 : s_ok B (s_add (D a) (1 + t) (G.1 t)) := s_ok_add hk (by omega) (by omega) hm.1
  have hodds : o_odds (D (la + 10) 3) (D (la + 10) 4) (D (la + 11)) n (D (la + 1)) (D (la + 2)) C = G.2.2 := by rw [← hGe]; rfl
  obtain ⟨q1, q2, q3, q4, q5, q6, q7, q8, q9⟩ := hld
  refine x_ofW (by decide +kernel) hl (by simp [Value.category]) (by simp) ?_
  have tail : ∀ (w : Int → Int), (∀ j, x_r (w j)) → x_W (X, l, yX9_play, cX9_play, 4, some .boolean, x_room 4 0 0, 0, 0, (.inl (some (.int (xI (x_B (p_win G (D a) t)))))), N, sh, (fun d => ∃ w, (∀ j, x_r (w j)) ∧ d = x_up (x_up D a (s_play G (D a) t)) (la + 12) w), false, []) 33 [some (.ref (x_b X + r)), some (.ref (x_b X + la)), some (.int (xI t)), none] [.int (xI (x_B (p_win G (D a) t)))] 0 0 false N sh (x_up (x_up D a (s_add (D a) (1 + t) (G.1 t))) (la + 12) w) := by
    intro w hw
    refine x_istore_n dX9_play_33 (Nat.le_of_ble_eq_true rfl) rfl x_set_4_3 ?_
    refine x_aload_n dX9_play_34 x_get_4_0 ?_
    refine x_iload_n dX9_play_35 x_get_4_2 ?_
    refine x_aload_n dX9_play_36 x_get_4_1 ?_
    refine x_getR dX9_play_37 fX_9_70 (by assumption) (by assumption) (by rfl) ?_
    refine x_iload_n dX9_play_40 x_get_4_2 ?_
    refine x_iald dX9_play_41 (by assumption) (by assumption) (by omega) (by omega) (by decide) ?_
    rw [x_up_n (show la + 2 ≠ la + 12 by omega), x_up_n (show la + 2 ≠ a by omega), hstE]
    refine x_iload_n dX9_play_42 x_get_4_3 ?_
    refine x_callV (As := [_, _, _]) dX9_play_43 w_9_73 (c9_settle hl hs (B := B) (by omega) (by rw [x_up_n (by omega), x_up_s]; exact hk1) h0 h1 (k := G.2.1 t) (by omega) (by omega)) (by assumption) (by assumption) rfl rfl (Nat.le_of_ble_eq_true rfl) (Nat.le_of_ble_eq_true rfl) (Nat.le_of_ble_eq_true rfl) (Nat.le_of_ble_eq_true rfl) (Nat.le_of_ble_eq_true rfl) ?_
    rintro _ rfl
    refine x_iload_n dX9_play_46 x_get_4_3 ?_
    exact x_zret dX9_play_47 rfl (by unfold x_B; split <;> omega) (Nat.le_of_ble_eq_true rfl) (Nat.le_of_ble_eq_true rfl) rfl rfl rfl ⟨w, hw, (by show _ = _; rw [x_up_n (show a ≠ la + 12 by omega), x_up_s, x_up_up2, x_up_comm (show la + 12 ≠ a by omega)]; rfl)⟩ rfl
  refine x_aload_n dX9_play_0 x_get_4_0 ?_
  refine x_iconst dX9_play_1 ?_
  refine x_iload_n dX9_play_2 x_get_4_2 ?_
  refine x_iadd dX9_play_3 ?_
  refine x_aload_n dX9_play_4 x_get_4_1 ?_
  refine x_getR dX9_play_5 fX_9_55 (by assumption) (by assumption) (by rfl) ?_
  refine x_iload_n dX9_play_8 x_get_4_2 ?_
  refine x_iald dX9_play_9 (by assumption) (by assumption) (by omega) (by omega) (by decide) ?_
  refine x_callV (As := [_, _]) dX9_play_10 w_9_44 (c9_addTo hl hs (by omega) (by omega) (by omega) (by omega) (by rw [hmkE]; omega) (by rw [hmkE]; omega)) (by assumption) (by assumption) rfl rfl (Nat.le_of_ble_eq_true rfl) (Nat.le_of_ble_eq_true rfl) (Nat.le_of_ble_eq_true rfl) (Nat.le_of_ble_eq_true rfl) (Nat.le_of_ble_eq_true rfl) ?_
  rintro _ rfl
  rw [hmkE]
  have E : ∀ j, ¬ j = a → x_up D a (s_add (D a) (1 + t) (G.1 t)) j = D j := fun j hj => x_up_n hj
  refine x_aload_n dX9_play_13 x_get_4_1 ?_
  refine x_getR dX9_play_14 fX_9_60 (by assumption) (by assumption) (by rfl) ?_
  refine x_aload_n dX9_play_17 x_get_4_1 ?_
  refine x_aload_n dX9_play_18 x_get_4_0 ?_
  refine x_iload_n dX9_play_19 x_get_4_2 ?_
  refine x_callV (As := [_, _, _]) dX9_play_20 w_9_64 (c7_odds hl hs (is_L_ld hL) (is_L_ru hL) (B := B) (by omega) (by rw [x_up_s]; exact hk1) h0 h1 (C := C) (by rw [E _ (by omega)]; exact q3) q4 (n := n) (by rw [E _ (by omega)]; exact q5) (by unfold is_rule at q6 ⊢; rw [E _ (by omega), E _ (by omega)]; exact q6) (by rw [E _ (by omega)]; exact fun j => ⟨by have := q7 j; omega, by have := q7 j; omega⟩) (by rw [E _ (by omega)]; exact fun j => ⟨by have := q8 j; omega, by have := q8 j; omega⟩) (by rw [E _ (by omega)]; exact q9) (by omega)) (by assumption) (by assumption) rfl rfl (Nat.le_of_ble_eq_true rfl) (Nat.le_of_ble_eq_true rfl) (Nat.le_of_ble_eq_true rfl) (Nat.le_of_ble_eq_true rfl) (Nat.le_of_ble_eq_true rfl) ?_
  rintro _ ⟨w, rfl, hw⟩
  rw [E _ (show ¬ la + 10 = a by omega), E _ (show ¬ la + 11 = a by omega), E _ (show ¬ la + 1 = a by omega), E _ (show ¬ la + 2 = a by omega), hodds, x_up_s]
  have hoi := hG3 (s_add (D a) (1 + t) (G.1 t)) t
  refine x_bipush dX9_play_23 rfl ?_
  refine r_icmp_lt (t := 32) dX9_play_25 rfl ⟨by omega, by omega⟩ ⟨by omega, by omega⟩ (fun hc25 => ?_) (fun hc25 => ?_)
  · refine x_iconst dX9_play_32 ?_
    refine x_as_is (b := x_B (p_win G (D a) t)) ?_ (tail w hw)
    first | (rw [x_B, if_pos (by first | assumption | omega)]; done) | (rw [x_B, if_neg (by first | assumption | omega)]; done)
  · refine x_iconst dX9_play_28 ?_
    refine x_goto (t := 33) dX9_play_29 rfl ?_
    refine x_as_is (b := x_B (p_win G (D a) t)) ?_ (tail w hw)
    first | (rw [x_B, if_pos (by first | assumption | omega)]; done) | (rw [x_B, if_neg (by first | assumption | omega)]; done)
theorem c9_passDay {X : xC} {l : Launch} (hl : l.stackTraces = false) {N : Nat} {sh : xS} {D : xM} {r a : Nat} (hs : is_St N sh r a) {la T C : Nat} (hL : is_L N sh la) {G : Ldt} (hG : ldG D la T C G) (hsep : a < la ∨ la + 13 < a) {B : Int} (hk : s_ok B (D a)) (hB : B ≤ 800000) : x_M X l yX9_passDay cX9_passDay 3 (none) 5 0 0 [.ref (x_b X + r), .ref (x_b X + la)] false N sh D (.inl none) false N sh (fun d => ∃ w, (∀ j, x_r (w j)) ∧ d = x_up (x_up D a (s_day G T C (D a))) (la + 12) w) := by
  obtain ⟨hrN, hr, haN, ha⟩ := id hs
  obtain ⟨hruN, hru, -⟩ := is_L_ru hL
  obtain ⟨hlaN, hla, hmk, hst, -⟩ := id hL
  have hmkN : la + 1 < N := by omega
  have hstN : la + 2 < N := by omega
  have hlaN1 : la < N := by omega
  obtain ⟨hG1, hG2, hG3⟩ := ldG_G hG
  have hne : a ≠ la + 12 := by omega
  obtain ⟨n0, ⟨q1, q2, q3, q4, -⟩, -⟩ := id hG
  have hk0 := s_ok_mv hk C q4
  have hB0 : 0 ≤ B := by have := (hk 0).1 rfl; omega
  refine x_ofW (by decide +kernel) hl (by simp [Value.category]) (by simp) ?_
  have hloop : ∀ i : Nat, i ≤ T → ∀ w : Int → Int, (∀ j, x_r (w j)) → x_W (X, l, yX9_passDay, cX9_passDay, 3, none, x_room 5 0 0, 0, 0, (.inl none), N, sh, (fun d => ∃ w, (∀ j, x_r (w j)) ∧ d = x_up (x_up D a (s_day G T C (D a))) (la + 12) w), false, []) 10 [some (.ref (x_b X + r)), some (.ref (x_b X + la)), some (.int (xI i))] [] 0 0 false N sh (x_up (x_up D a (s_plays G (s_mv (D a) C) i)) (la + 12) w) := by
    refine x_down T ?_ ?_
    · intro w hw
      refine x_iload_n dX9_passDay_10 x_get_3_2 ?_
      refine x_aload_n dX9_passDay_11 x_get_3_1 ?_
      refine x_getI 0 dX9_passDay_12 fX_9_84 rfl (by assumption) (by assumption) (by rfl) ?_
      rw [x_up_n (show la ≠ la + 12 by omega), x_up_n (show la ≠ a by omega), q1]
      refine r_icmp_ge (t := 31) dX9_passDay_15 rfl ⟨by omega, by omega⟩ ⟨by omega, by omega⟩ (fun hc15 => ?_) (fun hc15 => absurd hc15 (by omega))
      refine x_aload_n dX9_passDay_31 x_get_3_0 ?_
      refine x_getR dX9_passDay_32 fX_9_11 (by assumption) (by assumption) (by rfl) ?_
      refine x_iconst dX9_passDay_35 ?_
      refine x_dup2 dX9_passDay_36 rfl rfl ?_
      refine x_iald dX9_passDay_37 (by assumption) (by assumption) (by omega) (by omega) (by decide) ?_
      refine x_iconst dX9_passDay_38 ?_
      refine x_iadd dX9_passDay_39 ?_
      refine x_iast dX9_passDay_40 (by assumption) (by assumption) (by omega) (by omega) (by decide) ?_
      exact x_vret dX9_passDay_41 rfl (Nat.le_of_ble_eq_true rfl) (Nat.le_of_ble_eq_true rfl) rfl rfl rfl ⟨w, hw, (by show _ = _; rw [x_up_n (show a ≠ la + 12 by omega), x_up_s, x_up_up2, x_up_comm (show la + 12 ≠ a by omega)]; rfl)⟩ rfl
    · intro i hi ih
      intro w hw
      have hki := s_ok_plays hk0 hG1 hG2 i (by omega)
      refine x_iload_n dX9_passDay_10 x_get_3_2 ?_
      refine x_aload_n dX9_passDay_11 x_get_3_1 ?_
      refine x_getI 0 dX9_passDay_12 fX_9_84 rfl (by assumption) (by assumption) (by rfl) ?_
      rw [x_up_n (show la ≠ la + 12 by omega), x_up_n (show la ≠ a by omega), q1]
      refine r_icmp_ge (t := 31) dX9_passDay_15 rfl ⟨by omega, by omega⟩ ⟨by omega, by omega⟩ (fun hc15 => absurd hc15 (by omega)) (fun hc15 => ?_)
      refine x_aload_n dX9_passDay_18 x_get_3_0 ?_
      refine x_aload_n dX9_passDay_19 x_get_3_1 ?_
      refine x_iload_n dX9_passDay_20 x_get_3_2 ?_
      refine x_callV (As := [_, _]) dX9_passDay_21 w_9_87 (c9_play hl hs hL (ldG_sk (ldG_up hG hsep) hw) hsep (B := B + 20 * i) (by rw [x_upa hne]; exact hki) (by omega) (t := (i : Int)) (by omega) (by omega)) (by assumption) (by assumption) rfl rfl (Nat.le_of_ble_eq_true rfl) (Nat.le_of_ble_eq_true rfl) (Nat.le_of_ble_eq_true rfl) (Nat.le_of_ble_eq_true rfl) (Nat.le_of_ble_eq_true rfl) ?_
      rintro _ ⟨w2, hw2, rfl⟩
      simp only [x_up4, x_upa hne]
      refine x_pop dX9_passDay_24 rfl ?_
      refine x_iinc dX9_passDay_25 x_get_3_2 (Nat.le_of_ble_eq_true rfl) rfl x_set_3_2 ?_
      refine x_goto (t := 10) dX9_passDay_28 rfl ?_
      exact ih _ hw2
  refine x_aload_n dX9_passDay_0 x_get_3_0 ?_
  refine x_aload_n dX9_passDay_1 x_get_3_1 ?_
  refine x_getI 1 dX9_passDay_2 fX_9_77 rfl (by assumption) (by assumption) (by rfl) ?_
  rw [q3]
  refine x_callV (As := [_]) dX9_passDay_5 w_9_81 (c9_moveCrates hl hs (B := B) (by omega) hk q4) (by assumption) (by assumption) rfl rfl (Nat.le_of_ble_eq_true rfl) (Nat.le_of_ble_eq_true rfl) (Nat.le_of_ble_eq_true rfl) (Nat.le_of_ble_eq_true rfl) (Nat.le_of_ble_eq_true rfl) ?_
  rintro _ rfl
  refine x_iconst dX9_passDay_8 ?_
  refine x_istore_n dX9_passDay_9 (Nat.le_of_ble_eq_true rfl) rfl x_set_3_2 ?_
  refine x_mem (D' := x_up (x_up D a (s_mv (D a) C)) (la + 12) (D (la + 12))) (by rw [x_up_comm hne, x_up_id]) ?_
  exact hloop 0 (Nat.zero_le _) _ (ldG_w hG)
theorem c9_passDays {X : xC} {l : Launch} (hl : l.stackTraces = false) {N : Nat} {sh : xS} {D : xM} {r a : Nat} (hs : is_St N sh r a) {la T C : Nat} (hL : is_L N sh la) {G : Ldt} (hG : ldG D la T C G) (hsep : a < la ∨ la + 13 < a) {B : Int} (hk : s_ok B (D a)) {n : Nat} (hB : B + 161 * n ≤ 800000) : x_M X l yX9_passDays cX9_passDays 4 (none) 6 0 0 [.ref (x_b X + r), .ref (x_b X + la), .int (xI n)] false N sh D (.inl none) false N sh (fun d => ∃ w, (∀ j, x_r (w j)) ∧ d = x_up (x_up D a (s_days G T C (D a) n)) (la + 12) w) := by
  obtain ⟨hrN, hr, haN, ha⟩ := id hs
  obtain ⟨hruN, hru, -⟩ := is_L_ru hL
  obtain ⟨hlaN, hla, hmk, hst, -⟩ := id hL
  have hmkN : la + 1 < N := by omega
  have hstN : la + 2 < N := by omega
  have hlaN1 : la < N := by omega
  obtain ⟨hG1, hG2, hG3⟩ := ldG_G hG
  have hne : a ≠ la + 12 := by omega
  obtain ⟨n0, ⟨q1, q2, q3, q4, -⟩, -⟩ := id hG
  have hk0 := s_ok_mv hk C q4
  have hB0 : 0 ≤ B := by have := (hk 0).1 rfl; omega
  refine x_ofW (by decide +kernel) hl (by simp [Value.category]) (by simp) ?_
  have hloop : ∀ i : Nat, i ≤ n → ∀ w : Int → Int, (∀ j, x_r (w j)) → x_W (X, l, yX9_passDays, cX9_passDays, 4, none, x_room 6 0 0, 0, 0, (.inl none), N, sh, (fun d => ∃ w, (∀ j, x_r (w j)) ∧ d = x_up (x_up D a (s_days G T C (D a) n)) (la + 12) w), false, []) 2 [some (.ref (x_b X + r)), some (.ref (x_b X + la)), some (.int (xI n)), some (.int (xI i))] [] 0 0 false N sh (x_up (x_up D a (s_days G T C (D a) i)) (la + 12) w) := by
    refine x_down n ?_ ?_
    · intro w hw
      refine x_iload_n dX9_passDays_2 x_get_4_3 ?_
      refine x_iload_n dX9_passDays_3 x_get_4_2 ?_
      refine r_icmp_ge (t := 18) dX9_passDays_4 rfl ⟨by omega, by omega⟩ ⟨by omega, by omega⟩ (fun hc4 => ?_) (fun hc4 => absurd hc4 (by omega))
      exact x_vret dX9_passDays_18 rfl (Nat.le_of_ble_eq_true rfl) (Nat.le_of_ble_eq_true rfl) rfl rfl rfl ⟨w, hw, rfl⟩ rfl
    · intro i hi ih
      intro w hw
      have hki := s_ok_days hk hG1 hG2 q2 q4 i
      refine x_iload_n dX9_passDays_2 x_get_4_3 ?_
      refine x_iload_n dX9_passDays_3 x_get_4_2 ?_
      refine r_icmp_ge (t := 18) dX9_passDays_4 rfl ⟨by omega, by omega⟩ ⟨by omega, by omega⟩ (fun hc4 => absurd hc4 (by omega)) (fun hc4 => ?_)
      refine x_aload_n dX9_passDays_7 x_get_4_0 ?_
      refine x_aload_n dX9_passDays_8 x_get_4_1 ?_
      refine x_callV (As := [_]) dX9_passDays_9 w_9_91 (c9_passDay hl hs hL (ldG_sk (ldG_up hG hsep) hw) hsep (B := B + 161 * i) (by rw [x_upa hne]; exact hki) (by omega)) (by assumption) (by assumption) rfl rfl (Nat.le_of_ble_eq_true rfl) (Nat.le_of_ble_eq_true rfl) (Nat.le_of_ble_eq_true rfl) (Nat.le_of_ble_eq_true rfl) (Nat.le_of_ble_eq_true rfl) ?_
      rintro _ ⟨w2, hw2, rfl⟩
      simp only [x_up4, x_upa hne]
      refine x_iinc dX9_passDays_12 x_get_4_3 (Nat.le_of_ble_eq_true rfl) rfl x_set_4_3 ?_
      refine x_goto (t := 2) dX9_passDays_15 rfl ?_
      exact ih _ hw2
  refine x_iconst dX9_passDays_0 ?_
  refine x_istore_n dX9_passDays_1 (Nat.le_of_ble_eq_true rfl) rfl x_set_4_3 ?_
  refine x_mem (D' := x_up (x_up D a (D a)) (la + 12) (D (la + 12))) (by rw [x_up_id, x_up_id]) ?_
  exact hloop 0 (Nat.zero_le _) _ (ldG_w hG)
theorem c9_wonIn {X : xC} {l : Launch} (hl : l.stackTraces = false) {N : Nat} {sh : xS} {D : xM} {r a : Nat} (hs : is_St N sh r a) {la T C : Nat} (hL : is_L N sh la) {G : Ldt} (hG : ldG D la T C G) (hsep : a < la ∨ la + 13 < a) {B : Int} (hk : s_ok B (D a)) {n : Nat} (hB : B + 161 * n ≤ 800000) : x_M X l yX9_wonIn cX9_wonIn 4 (some .int) 6 0 0 [.ref (x_b X + r), .ref (x_b X + la), .int (xI n)] false N sh D (.inl (some (.int (xI (x_sum (fun i => s_days G T C (D a) n (17 + i)) T))))) false N sh (fun d => ∃ w, (∀ j, x_r (w j)) ∧ d = x_up (x_up D a (s_days G T C (D a) n)) (la + 12) w) := by
  obtain ⟨hrN, hr, haN, ha⟩ := id hs
  obtain ⟨hruN, hru, -⟩ := is_L_ru hL
  obtain ⟨hlaN, hla, hmk, hst, -⟩ := id hL
  have hmkN : la + 1 < N := by omega
  have hstN : la + 2 < N := by omega
  have hlaN1 : la < N := by omega
  obtain ⟨hG1, hG2, hG3⟩ := ldG_G hG
  have hne : a ≠ la + 12 := by omega
  obtain ⟨n0, ⟨q1, q2, q3, q4, -⟩, -⟩ := id hG
  have hk0 := s_ok_mv hk C q4
  have hB0 : 0 ≤ B := by have := (hk 0).1 rfl; omega
  refine x_ofW (by decide +kernel) hl (by simp [Value.category]) (by simp) ?_
  have hloop : ∀ i : Nat, i ≤ n → ∀ w : Int → Int, (∀ j, x_r (w j)) → x_W (X, l, yX9_wonIn, cX9_wonIn, 4, some .int, x_room 6 0 0, 0, 0, (.inl (some (.int (xI (x_sum (fun i => s_days G T C (D a) n (17 + i)) T))))), N, sh, (fun d => ∃ w, (∀ j, x_r (w j)) ∧ d = x_up (x_up D a (s_days G T C (D a) n)) (la + 12) w), false, []) 2 [some (.ref (x_b X + r)), some (.ref (x_b X + la)), some (.int (xI n)), some (.int (xI i))] [] 0 0 false N sh (x_up (x_up D a (s_days G T C (D a) i)) (la + 12) w) := by
    refine x_down n ?_ ?_
    · intro w hw
      refine x_iload_n dX9_wonIn_2 x_get_4_3 ?_
      refine x_iload_n dX9_wonIn_3 x_get_4_2 ?_
      refine r_icmp_ge (t := 18) dX9_wonIn_4 rfl ⟨by omega, by omega⟩ ⟨by omega, by omega⟩ (fun hc4 => ?_) (fun hc4 => absurd hc4 (by omega))
      refine x_aload_n dX9_wonIn_18 x_get_4_0 ?_
      refine x_bipush dX9_wonIn_19 rfl ?_
      refine x_aload_n dX9_wonIn_21 x_get_4_1 ?_
      refine x_getI 0 dX9_wonIn_22 fX_9_84 rfl (by assumption) (by assumption) (by rfl) ?_
      rw [x_up_n (show la ≠ la + 12 by omega), x_up_n (show la ≠ a by omega), q1]
      refine x_callV (As := [_, _]) dX9_wonIn_25 w_9_52 (c9_sum hl hs (by omega) (by omega)) (by assumption) (by assumption) rfl rfl (Nat.le_of_ble_eq_true rfl) (Nat.le_of_ble_eq_true rfl) (Nat.le_of_ble_eq_true rfl) (Nat.le_of_ble_eq_true rfl) (Nat.le_of_ble_eq_true rfl) ?_
      rintro _ rfl
      exact x_iret dX9_wonIn_28 rfl (Nat.le_of_ble_eq_true rfl) (Nat.le_of_ble_eq_true rfl) (by simp only [x_upa hne]) rfl rfl ⟨w, hw, rfl⟩ rfl
    · intro i hi ih
      intro w hw
      have hki := s_ok_days hk hG1 hG2 q2 q4 i
      refine x_iload_n dX9_wonIn_2 x_get_4_3 ?_
      refine x_iload_n dX9_wonIn_3 x_get_4_2 ?_
      refine r_icmp_ge (t := 18) dX9_wonIn_4 rfl ⟨by omega, by omega⟩ ⟨by omega, by omega⟩ (fun hc4 => absurd hc4 (by omega)) (fun hc4 => ?_)
      refine x_aload_n dX9_wonIn_7 x_get_4_0 ?_
      refine x_aload_n dX9_wonIn_8 x_get_4_1 ?_
      refine x_callV (As := [_]) dX9_wonIn_9 w_9_91 (c9_passDay hl hs hL (ldG_sk (ldG_up hG hsep) hw) hsep (B := B + 161 * i) (by rw [x_upa hne]; exact hki) (by omega)) (by assumption) (by assumption) rfl rfl (Nat.le_of_ble_eq_true rfl) (Nat.le_of_ble_eq_true rfl) (Nat.le_of_ble_eq_true rfl) (Nat.le_of_ble_eq_true rfl) (Nat.le_of_ble_eq_true rfl) ?_
      rintro _ ⟨w2, hw2, rfl⟩
      simp only [x_up4, x_upa hne]
      refine x_iinc dX9_wonIn_12 x_get_4_3 (Nat.le_of_ble_eq_true rfl) rfl x_set_4_3 ?_
      refine x_goto (t := 2) dX9_wonIn_15 rfl ?_
      exact ih _ hw2
  refine x_iconst dX9_wonIn_0 ?_
  refine x_istore_n dX9_wonIn_1 (Nat.le_of_ble_eq_true rfl) rfl x_set_4_3 ?_
  refine x_mem (D' := x_up (x_up D a (D a)) (la + 12) (D (la + 12))) (by rw [x_up_id, x_up_id]) ?_
  exact hloop 0 (Nat.zero_le _) _ (ldG_w hG)
theorem c9_passTown {X : xC} {l : Launch} (hl : l.stackTraces = false) {N : Nat} {sh : xS} {D : xM} {r a : Nat} (hs : is_St N sh r a) {la T C : Nat} (hL : is_L N sh la) {G : Ldt} (hG : ldG D la T C G) (hsep : a < la ∨ la + 13 < a) {B : Int} (hk : s_ok B (D a)) (hB : B ≤ 800000) {t : Int} (h0 : 0 ≤ t) (h1 : t < 8) : x_M X l yX9_passTown cX9_passTown 4 (some .boolean) 5 0 0 [.ref (x_b X + r), .ref (x_b X + la), .int (xI t)] false N sh D (.inl (some (.int (xI (x_B (p_twin G C (D a) t)))))) false N sh (fun d => ∃ w, (∀ j, x_r (w j)) ∧ d = x_up (x_up D a (s_town G C (D a) t)) (la + 12) w) := by
  obtain ⟨hrN, hr, haN, ha⟩ := id hs
  obtain ⟨hruN, hru, -⟩ := is_L_ru hL
  obtain ⟨hlaN, hla, hmk, hst, -⟩ := id hL
  have hmkN : la + 1 < N := by omega
  have hstN : la + 2 < N := by omega
  have hlaN1 : la < N := by omega
  obtain ⟨hG1, hG2, hG3⟩ := ldG_G hG
  have hne : a ≠ la + 12 := by omega
  obtain ⟨n0, ⟨q1, q2, q3, q4, -⟩, -⟩ := id hG
  have hk0 := s_ok_mv hk C q4
  have hB0 : 0 ≤ B := by have := (hk 0).1 rfl; omega
  refine x_ofW (by decide +kernel) hl (by simp [Value.category]) (by simp) ?_
  refine x_aload_n dX9_passTown_0 x_get_4_0 ?_
  refine x_aload_n dX9_passTown_1 x_get_4_1 ?_
  refine x_getI 1 dX9_passTown_2 fX_9_77 rfl (by assumption) (by assumption) (by rfl) ?_
  rw [q3]
  refine x_callV (As := [_]) dX9_passTown_5 w_9_81 (c9_moveCrates hl hs (B := B) (by omega) hk q4) (by assumption) (by assumption) rfl rfl (Nat.le_of_ble_eq_true rfl) (Nat.le_of_ble_eq_true rfl) (Nat.le_of_ble_eq_true rfl) (Nat.le_of_ble_eq_true rfl) (Nat.le_of_ble_eq_true rfl) ?_
  rintro _ rfl
  refine x_aload_n dX9_passTown_8 x_get_4_0 ?_
  refine x_aload_n dX9_passTown_9 x_get_4_1 ?_
  refine x_iload_n dX9_passTown_10 x_get_4_2 ?_
  refine x_callV (As := [_, _]) dX9_passTown_11 w_9_87 (c9_play hl hs hL (ldG_up hG hsep) hsep (B := B) (by rw [x_up_s]; exact hk0) (by omega) h0 h1) (by assumption) (by assumption) rfl rfl (Nat.le_of_ble_eq_true rfl) (Nat.le_of_ble_eq_true rfl) (Nat.le_of_ble_eq_true rfl) (Nat.le_of_ble_eq_true rfl) (Nat.le_of_ble_eq_true rfl) ?_
  rintro _ ⟨w, hw, rfl⟩
  simp only [x_up_s, x_up_up]
  refine x_istore_n dX9_passTown_14 (Nat.le_of_ble_eq_true rfl) rfl x_set_4_3 ?_
  refine x_aload_n dX9_passTown_15 x_get_4_0 ?_
  refine x_getR dX9_passTown_16 fX_9_11 (by assumption) (by assumption) (by rfl) ?_
  refine x_iconst dX9_passTown_19 ?_
  refine x_dup2 dX9_passTown_20 rfl rfl ?_
  refine x_iald dX9_passTown_21 (by assumption) (by assumption) (by omega) (by omega) (by decide) ?_
  refine x_iconst dX9_passTown_22 ?_
  refine x_iadd dX9_passTown_23 ?_
  refine x_iast dX9_passTown_24 (by assumption) (by assumption) (by omega) (by omega) (by decide) ?_
  refine x_iload_n dX9_passTown_25 x_get_4_3 ?_
  exact x_zret dX9_passTown_26 rfl (by unfold x_B; split <;> omega) (Nat.le_of_ble_eq_true rfl) (Nat.le_of_ble_eq_true rfl) rfl rfl rfl ⟨w, hw, (by show _ = _; rw [x_up_n (show a ≠ la + 12 by omega), x_up_s, x_up_up2, x_up_comm (show la + 12 ≠ a by omega)]; rfl)⟩ rfl
theorem c9_passDraws {X : xC} {l : Launch} (hl : l.stackTraces = false) {N : Nat} {sh : xS} {D : xM} {r a : Nat} (hs : is_St N sh r a) {la T C : Nat} (hL : is_L N sh la) {G : Ldt} (hG : ldG D la T C G) (hsep : a < la ∨ la + 13 < a) {B : Int} (hk : s_ok B (D a)) {q : Nat} (hqN : q < N) (hsq : sh q = .inr (2, [0])) (hsep2 : q < la ∨ la + 13 < q) (hqa : q ≠ a) (hB : B ≤ 800000) : x_M X l yX9_passDayByDraws cX9_passDayByDraws 5 (none) 5 0 0 [.ref (x_b X + r), .ref (x_b X + la), .ref (x_b X + q)] false N sh D (.inl none) false N sh (fun d => ∃ w, (∀ j, x_r (w j)) ∧ d = x_up (x_up (x_up D q (x_u1 (D q) 0 (s_drawn G T C (D a) (D q 0)).2)) a (s_drawn G T C (D a) (D q 0)).1) (la + 12) w) := by
  obtain ⟨hrN, hr, haN, ha⟩ := id hs
  obtain ⟨hruN, hru, -⟩ := is_L_ru hL
  obtain ⟨hlaN, hla, hmk, hst, -⟩ := id hL
  have hmkN : la + 1 < N := by omega
  have hstN : la + 2 < N := by omega
  have hlaN1 : la < N := by omega
  obtain ⟨hG1, hG2, hG3⟩ := ldG_G hG
  have hne : a ≠ la + 12 := by omega
  obtain ⟨n0, ⟨q1, q2, q3, q4, -⟩, -⟩ := id hG
  have hk0 := s_ok_mv hk C q4
  have hB0 : 0 ≤ B := by have := (hk 0).1 rfl; omega
  refine x_ofW (by decide +kernel) hl (by simp [Value.category]) (by simp) ?_
  obtain ⟨n1, hld1, hGe⟩ := id hG
  have hmkE : D (la + 1) = G.1 := by rw [← hGe]; rfl
  have hstE : D (la + 2) = G.2.1 := by rw [← hGe]; rfl
  obtain ⟨-, -, -, -, r5, r6, r7, r8, -⟩ := hld1
  have hodds : o_odds (D (la + 10) 3) (D (la + 10) 4) (D (la + 11)) n1 (D (la + 1)) (D (la + 2)) C = G.2.2 := by rw [← hGe]; rfl
  have E : ∀ (j : Nat) (s : Int) (f w : Int → Int), ¬ j = q → ¬ j = a → ¬ j = la + 12 → x_up (x_up (x_up D q (x_u1 (D q) 0 s)) a f) (la + 12) w j = D j := fun j s f w e1 e2 e3 => by rw [x_up_n e3, x_up_n e2, x_up_n e1]
  have Eq0 : ∀ (s : Int) (f w : Int → Int), x_up (x_up (x_up D q (x_u1 (D q) 0 s)) a f) (la + 12) w q = x_u1 (D q) 0 s := fun s f w => by rw [x_up_n (by omega), x_up_n hqa, x_up_s]
  have Ua : ∀ (s : Int) (f f2 w : Int → Int), x_up (x_up (x_up (x_up D q (x_u1 (D q) 0 s)) a f) (la + 12) w) a f2 = x_up (x_up (x_up D q (x_u1 (D q) 0 s)) a f2) (la + 12) w := fun s f f2 w => by rw [x_up_up2, x_up_comm (show la + 12 ≠ a by omega)]
  have Uq : ∀ (s : Int) (f w h : Int → Int), x_up (x_up (x_up (x_up D q (x_u1 (D q) 0 s)) a f) (la + 12) w) q h = x_up (x_up (x_up D q h) a f) (la + 12) w := fun s f w h => by rw [x_up_up3, x_up_comm (show la + 12 ≠ q by omega), x_up_comm (show a ≠ q by omega)]
  have hks : ∀ i : Nat, i ≤ 8 → s_ok (B + 20 * i) (s_drawns G (s_mv (D a) C) (D q 0) i).1 := fun i hi => s_ok_drawns hk0 hG1 hG2 _ i hi
  have hloop : ∀ i : Nat, i ≤ T → ∀ w : Int → Int, (∀ j, x_r (w j)) → x_W (X, l, yX9_passDayByDraws, cX9_passDayByDraws, 5, none, x_room 5 0 0, 0, 0, (.inl none), N, sh, (fun d => ∃ w, (∀ j, x_r (w j)) ∧ d = x_up (x_up (x_up D q (x_u1 (D q) 0 (s_drawn G T C (D a) (D q 0)).2)) a (s_drawn G T C (D a) (D q 0)).1) (la + 12) w), false, []) 10 [some (.ref (x_b X + r)), some (.ref (x_b X + la)), some (.ref (x_b X + q)), some (.int (xI i)), none] [] 0 0 false N sh (x_up (x_up (x_up D q (x_u1 (D q) 0 (s_drawns G (s_mv (D a) C) (D q 0) i).2)) a (s_drawns G (s_mv (D a) C) (D q 0) i).1) (la + 12) w) := by
    refine x_down T ?_ ?_
    · intro w hw
      refine x_iload_n dX9_passDayByDraws_10 x_get_5_3 ?_
      refine x_aload_n dX9_passDayByDraws_11 x_get_5_1 ?_
      refine x_getI 0 dX9_passDayByDraws_12 fX_9_84 rfl (by assumption) (by assumption) (by rfl) ?_
      rw [E la _ _ _ (by omega) (by omega) (by omega), q1]
      refine r_icmp_ge (t := 76) dX9_passDayByDraws_15 rfl ⟨by omega, by omega⟩ ⟨by omega, by omega⟩ (fun hc15 => ?_) (fun hc15 => absurd hc15 (by omega))
      refine x_aload_n dX9_passDayByDraws_76 x_get_5_0 ?_
      refine x_getR dX9_passDayByDraws_77 fX_9_11 (by assumption) (by assumption) (by rfl) ?_
      refine x_iconst dX9_passDayByDraws_80 ?_
      refine x_dup2 dX9_passDayByDraws_81 rfl rfl ?_
      refine x_iald dX9_passDayByDraws_82 (by assumption) (by assumption) (by omega) (by omega) (by decide) ?_
      refine x_iconst dX9_passDayByDraws_83 ?_
      refine x_iadd dX9_passDayByDraws_84 ?_
      refine x_iast dX9_passDayByDraws_85 (by assumption) (by assumption) (by omega) (by omega) (by decide) ?_
      exact x_vret dX9_passDayByDraws_86 rfl (Nat.le_of_ble_eq_true rfl) (Nat.le_of_ble_eq_true rfl) rfl rfl rfl ⟨w, hw, (by show _ = _; rw [x_up_n (show a ≠ la + 12 by omega), x_up_s, x_up_up2, x_up_comm (show la + 12 ≠ a by omega)]; rfl)⟩ rfl
    · intro i hi ih w hw
      have hki := hks i (by omega)
      have ht := s_tn (t := (i : Int)) hki (by omega) (by omega)
      have hm := hG1 i
      have hk1 : s_ok (B + 20 * i) (s_add (s_drawns G (s_mv (D a) C) (D q 0) i).1 (1 + i) (G.1 i)) := s_ok_add hki (by omega) (by omega) hm.1
      have tail : ∀ w2 : Int → Int, (∀ j, x_r (w2 j)) → x_W (X, l, yX9_passDayByDraws, cX9_passDayByDraws, 5, none, x_room 5 0 0, 0, 0, (.inl none), N, sh, (fun d => ∃ w, (∀ j, x_r (w j)) ∧ d = x_up (x_up (x_up D q (x_u1 (D q) 0 (s_drawn G T C (D a) (D q 0)).2)) a (s_drawn G T C (D a) (D q 0)).1) (la + 12) w), false, []) 55 [some (.ref (x_b X + r)), some (.ref (x_b X + la)), some (.ref (x_b X + q)), some (.int (xI i)), none] [.int (xI (x_B (d_val (d_next (s_drawns G (s_mv (D a) C) (D q 0) i).2) 12 < G.2.2 (s_add (s_drawns G (s_mv (D a) C) (D q 0) i).1 (1 + i) (G.1 i)) i)))] 0 0 false N sh (x_up (x_up (x_up D q (x_u1 (D q) 0 (d_next (s_drawns G (s_mv (D a) C) (D q 0) i).2))) a (s_add (s_drawns G (s_mv (D a) C) (D q 0) i).1 (1 + i) (G.1 i))) (la + 12) w2) := by
        intro w2 hw2
        refine x_istore dX9_passDayByDraws_55 (Nat.le_of_ble_eq_true rfl) rfl x_set_5_4 ?_
        refine x_aload_n dX9_passDayByDraws_57 x_get_5_0 ?_
        refine x_iload_n dX9_passDayByDraws_58 x_get_5_3 ?_
        refine x_aload_n dX9_passDayByDraws_59 x_get_5_1 ?_
        refine x_getR dX9_passDayByDraws_60 fX_9_70 (by assumption) (by assumption) (by rfl) ?_
        refine x_iload_n dX9_passDayByDraws_63 x_get_5_3 ?_
        refine x_iald dX9_passDayByDraws_64 (by assumption) (by assumption) (by omega) (by omega) (by decide) ?_
        first | rw [E la _ _ _ (by omega) (by omega) (by omega), q1] | rw [E (la + 1) _ _ _ (by omega) (by omega) (by omega), hmkE] | rw [E (la + 2) _ _ _ (by omega) (by omega) (by omega), hstE]
        refine x_iload dX9_passDayByDraws_65 x_get_5_4 ?_
        refine x_callV (As := [_, _, _]) dX9_passDayByDraws_67 w_9_73 (c9_settle hl hs (B := B + 20 * i) (by omega) (by rw [x_upa hne]; exact hk1) (t := (i : Int)) (by omega) (by omega) (k := G.2.1 i) (hG2 _).1 (hG2 _).2) (by assumption) (by assumption) rfl rfl (Nat.le_of_ble_eq_true rfl) (Nat.le_of_ble_eq_true rfl) (Nat.le_of_ble_eq_true rfl) (Nat.le_of_ble_eq_true rfl) (Nat.le_of_ble_eq_true rfl) ?_
        rintro _ rfl
        rw [x_upa hne, Ua]
        refine x_iinc dX9_passDayByDraws_70 x_get_5_3 (Nat.le_of_ble_eq_true rfl) rfl x_set_5_3 ?_
        refine x_goto (t := 10) dX9_passDayByDraws_73 rfl ?_
        refine x_forget 4 ?_
        exact ih _ hw2
      refine x_iload_n dX9_passDayByDraws_10 x_get_5_3 ?_
      refine x_aload_n dX9_passDayByDraws_11 x_get_5_1 ?_
      refine x_getI 0 dX9_passDayByDraws_12 fX_9_84 rfl (by assumption) (by assumption) (by rfl) ?_
      first | rw [E la _ _ _ (by omega) (by omega) (by omega), q1] | rw [E (la + 1) _ _ _ (by omega) (by omega) (by omega), hmkE] | rw [E (la + 2) _ _ _ (by omega) (by omega) (by omega), hstE]
      refine r_icmp_ge (t := 76) dX9_passDayByDraws_15 rfl ⟨by omega, by omega⟩ ⟨by omega, by omega⟩ (fun hc15 => absurd hc15 (by omega)) (fun hc15 => ?_)
      refine x_aload_n dX9_passDayByDraws_18 x_get_5_0 ?_
      refine x_iconst dX9_passDayByDraws_19 ?_
      refine x_iload_n dX9_passDayByDraws_20 x_get_5_3 ?_
      refine x_iadd dX9_passDayByDraws_21 ?_
      refine x_aload_n dX9_passDayByDraws_22 x_get_5_1 ?_
      refine x_getR dX9_passDayByDraws_23 fX_9_55 (by assumption) (by assumption) (by rfl) ?_
      refine x_iload_n dX9_passDayByDraws_26 x_get_5_3 ?_
      refine x_iald dX9_passDayByDraws_27 (by assumption) (by assumption) (by omega) (by omega) (by decide) ?_
      first | rw [E la _ _ _ (by omega) (by omega) (by omega), q1] | rw [E (la + 1) _ _ _ (by omega) (by omega) (by omega), hmkE] | rw [E (la + 2) _ _ _ (by omega) (by omega) (by omega), hstE]
      refine x_callV (As := [_, _]) dX9_passDayByDraws_28 w_9_44 (c9_addTo hl hs (by omega) (by omega) (by rw [x_upa hne]; omega) (by rw [x_upa hne]; omega) (by omega) (by omega)) (by assumption) (by assumption) rfl rfl (Nat.le_of_ble_eq_true rfl) (Nat.le_of_ble_eq_true rfl) (Nat.le_of_ble_eq_true rfl) (Nat.le_of_ble_eq_true rfl) (Nat.le_of_ble_eq_true rfl) ?_
      rintro _ rfl
      rw [x_upa hne, Ua]
      refine x_aload_n dX9_passDayByDraws_31 x_get_5_2 ?_
      refine x_bipush dX9_passDayByDraws_32 rfl ?_
      refine x_callV (As := [_]) dX9_passDayByDraws_34 w_9_95 (c2_draw hl hqN hsq (by omega) (by omega)) (by assumption) (by assumption) rfl rfl (Nat.le_of_ble_eq_true rfl) (Nat.le_of_ble_eq_true rfl) (Nat.le_of_ble_eq_true rfl) (Nat.le_of_ble_eq_true rfl) (Nat.le_of_ble_eq_true rfl) ?_
      rintro _ rfl
      rw [Eq0, x_u1_s, Uq, x_u1_u1]
      refine x_aload_n dX9_passDayByDraws_37 x_get_5_1 ?_
      refine x_getR dX9_passDayByDraws_38 fX_9_60 (by assumption) (by assumption) (by rfl) ?_
      refine x_aload_n dX9_passDayByDraws_41 x_get_5_1 ?_
      refine x_aload_n dX9_passDayByDraws_42 x_get_5_0 ?_
      refine x_iload_n dX9_passDayByDraws_43 x_get_5_3 ?_
      refine x_callV (As := [_, _, _]) dX9_passDayByDraws_44 w_9_64 (c7_odds hl hs (is_L_ld hL) (is_L_ru hL) (B := B + 20 * i) (by omega) (by rw [x_upa hne]; exact hk1) (t := (i : Int)) (by omega) (by omega) (C := C) (by rw [E _ _ _ _ (by omega) (by omega) (by omega)]; exact q3) q4 (n := n1) (by rw [E _ _ _ _ (by omega) (by omega) (by omega)]; exact r5) (by unfold is_rule at r6 ⊢; rw [E _ _ _ _ (by omega) (by omega) (by omega), E _ _ _ _ (by omega) (by omega) (by omega)]; exact r6) (by rw [E _ _ _ _ (by omega) (by omega) (by omega)]; exact fun j => ⟨by have := r7 j; omega, by have := r7 j; omega⟩) (by rw [E _ _ _ _ (by omega) (by omega) (by omega)]; exact fun j => ⟨by have := r8 j; omega, by have := r8 j; omega⟩) (by rw [x_up_s]; exact hw) (by omega)) (by assumption) (by assumption) rfl rfl (Nat.le_of_ble_eq_true rfl) (Nat.le_of_ble_eq_true rfl) (Nat.le_of_ble_eq_true rfl) (Nat.le_of_ble_eq_true rfl) (Nat.le_of_ble_eq_true rfl) ?_
      rintro _ ⟨w2, rfl, hw2⟩
      rw [E _ _ _ _ (show ¬ la + 10 = q by omega) (show ¬ la + 10 = a by omega) (show ¬ la + 10 = la + 12 by omega), E _ _ _ _ (show ¬ la + 11 = q by omega) (show ¬ la + 11 = a by omega) (show ¬ la + 11 = la + 12 by omega), E _ _ _ _ (show ¬ la + 1 = q by omega) (show ¬ la + 1 = a by omega) (show ¬ la + 1 = la + 12 by omega), E _ _ _ _ (show ¬ la + 2 = q by omega) (show ¬ la + 2 = a by omega) (show ¬ la + 2 = la + 12 by omega), hodds, x_upa hne, x_up_up]
      have hoi := hG3 (s_add (s_drawns G (s_mv (D a) C) (D q 0) i).1 (1 + i) (G.1 i)) i
      have hdi := d_val_in (s_drawns G (s_mv (D a) C) (D q 0) i).2 (n := 12) (by decide)
      refine r_icmp_ge (t := 54) dX9_passDayByDraws_47 rfl ⟨by omega, by omega⟩ ⟨by omega, by omega⟩ (fun hc47 => ?_) (fun hc47 => ?_)
      · refine x_iconst dX9_passDayByDraws_54 ?_
        refine x_as_is (b := x_B (d_val (d_next (s_drawns G (s_mv (D a) C) (D q 0) i).2) 12 < G.2.2 (s_add (s_drawns G (s_mv (D a) C) (D q 0) i).1 (1 + i) (G.1 i)) i)) (by first | (rw [x_B, if_pos (by first | assumption | omega)]; done) | (rw [x_B, if_neg (by first | assumption | omega)]; done)) ?_
        exact tail w2 hw2
      · refine x_iconst dX9_passDayByDraws_50 ?_
        refine x_goto (t := 55) dX9_passDayByDraws_51 rfl ?_
        refine x_as_is (b := x_B (d_val (d_next (s_drawns G (s_mv (D a) C) (D q 0) i).2) 12 < G.2.2 (s_add (s_drawns G (s_mv (D a) C) (D q 0) i).1 (1 + i) (G.1 i)) i)) (by first | (rw [x_B, if_pos (by first | assumption | omega)]; done) | (rw [x_B, if_neg (by first | assumption | omega)]; done)) ?_
        exact tail w2 hw2
  refine x_aload_n dX9_passDayByDraws_0 x_get_5_0 ?_
  refine x_aload_n dX9_passDayByDraws_1 x_get_5_1 ?_
  refine x_getI 1 dX9_passDayByDraws_2 fX_9_77 rfl (by assumption) (by assumption) (by rfl) ?_
  rw [q3]
  refine x_callV (As := [_]) dX9_passDayByDraws_5 w_9_81 (c9_moveCrates hl hs (B := B) (by omega) hk q4) (by assumption) (by assumption) rfl rfl (Nat.le_of_ble_eq_true rfl) (Nat.le_of_ble_eq_true rfl) (Nat.le_of_ble_eq_true rfl) (Nat.le_of_ble_eq_true rfl) (Nat.le_of_ble_eq_true rfl) ?_
  rintro _ rfl
  refine x_iconst dX9_passDayByDraws_8 ?_
  refine x_istore_n dX9_passDayByDraws_9 (Nat.le_of_ble_eq_true rfl) rfl x_set_5_3 ?_
  refine x_mem (D' := (x_up (x_up (x_up D q (x_u1 (D q) 0 (D q 0))) a (s_mv (D a) C)) (la + 12) (D (la + 12)))) (by rw [x_u1_id, x_up_id, x_up_comm hne, x_up_id]) ?_
  exact hloop 0 (Nat.zero_le _) _ (ldG_w hG)
end C9B
