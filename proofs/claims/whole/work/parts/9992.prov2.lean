section C9992
/-! ===== province: a text well told ===== -/
theorem m_81 {x y : Int} (h1 : 0 ≤ x ∧ x ≤ 9) (h2 : 0 ≤ y ∧ y ≤ 9) : 0 ≤ x * y ∧ x * y ≤ 81 := ⟨Int.mul_nonneg h1.1 h2.1, by
  have := Int.mul_le_mul h1.2 h2.2 h2.1 (by decide : (0 : Int) ≤ 9)
  omega⟩
theorem pv_fin {N : Nat} {sh : xS} {D : xM} {la lb T C W n : Nat} {G : Ldt} {b : Int → Int} {S : Tx} {d d7 : xM} (hq : cq N sh D la lb T C W G) (hs : sv lb S.1) (ho : so b n S) (hfr : ∀ j, j ≠ 0 → j < lb ∨ lb + 14 < j → S.1 j = D j)
    (d0 : d 0 = x_u1 (x_u1 (D 0) 1 0) 14 (-1)) (dn : ∀ j, j ≠ 0 → j ≠ 1 → j ≠ lb + 10 → j ≠ lb + 11 → d j = S.1 j) (d3 : d (lb + 10) 3 = x_B (S.2.isSome = true)) (du : ru_is d lb (S.2.getD []))
    (e0 : d7 0 = x_u1 (d 0) 7 0) (e34 : d7 34 = d (lb + 14)) (eA : acts d7 37 38 []) (eS : seen d7 39 []) (e3 : d7 (lb + 3) = x_u1 (d (lb + 3)) 1 (S.1 lb 0).toNat)
    (e8 : d7 (lb + 3 + 5) = m_fw 1000000 (d (lb + 3 + 1)) (d (lb + 3 + 2)) (d (lb + 3 + 3)) (S.1 (lb + 3) 0).toNat (S.1 lb 0).toNat) (e9 : d7 (lb + 3 + 6) = m_fw 1000000 (d (lb + 3 + 1)) (d (lb + 3 + 2)) (fun w => d (lb + 3 + 3) w * d (lb + 3 + 4) w) (S.1 (lb + 3) 0).toNat (S.1 lb 0).toNat)
    (en : ∀ j, j ≠ 0 → j ≠ 34 → j ≠ 37 → j ≠ 39 → j ≠ lb + 3 → j ≠ lb + 3 + 5 → j ≠ lb + 3 + 6 → d7 j = d j) : pvq N sh D la lb S d7 := by
  obtain ⟨hX, hG, hR, hK, hco⟩ := hq
  have hll : (la = 3 ∧ lb = 18) ∨ (la = 18 ∧ lb = 3) := hX.2.2.2.2.2.2.2.2.2.2.2.2.2.2.2.2
  have hlb : lb = 3 ∨ lb = 18 := by omega
  obtain ⟨⟨⟨v1, v2⟩, ⟨v3, v4⟩, T0, v5⟩, ⟨w1, w2, w3, W0, T1, w4⟩, o1, o2, o3, o4⟩ := hs
  have f : ∀ j, lb ≤ j → j ≤ lb + 14 → j ≠ lb + 3 → j ≠ lb + 3 + 5 → j ≠ lb + 3 + 6 → j ≠ lb + 10 → j ≠ lb + 11 → d7 j = S.1 j := fun j a1 a2 a3 a4 a5 a6 a7 => by rw [en j (by omega) (by omega) (by omega) (by omega) a3 a4 a5]; exact dn j (by omega) (by omega) a6 a7
  have g10 : d7 (lb + 10) = d (lb + 10) := en _ (by omega) (by omega) (by omega) (by omega) (by omega) (by omega) (by omega)
  have g11 : d7 (lb + 11) = d (lb + 11) := en _ (by omega) (by omega) (by omega) (by omega) (by omega) (by omega) (by omega)
  have q1 := dn (lb + 3 + 1) (by omega) (by omega) (by omega) (by omega)
  have q2 := dn (lb + 3 + 2) (by omega) (by omega) (by omega) (by omega)
  have q3 := dn (lb + 3 + 3) (by omega) (by omega) (by omega) (by omega)
  have q4 := dn (lb + 3 + 4) (by omega) (by omega) (by omega) (by omega)
  rw [q1, q2, q3] at e8
  rw [q1, q2, q3, q4] at e9
  rw [dn (lb + 3) (by omega) (by omega) (by omega) (by omega)] at e3
  rw [dn (lb + 14) (by omega) (by omega) (by omega) (by omega)] at e34
  obtain ⟨b1, b2, b3, b4⟩ := rd_w v5
  have hz := so_get ho
  refine ⟨⟨d7 (lb + 11), fun i hi => by rw [g11]; exact du.2.1 i hi, sw_X hX, ?_, ?_, ?_, ?_⟩, e34, eA, eS, by rw [e0, d0], fun j a1 a2 => f j (by omega) (by omega) (by omega) (by omega) (by omega) (by omega) (by omega), e8, e9, ?_⟩
  · refine ⟨(S.2.getD []).length, ⟨by rw [f lb (by omega) (by omega) (by omega) (by omega) (by omega) (by omega) (by omega)]; exact v1, v2, by rw [f lb (by omega) (by omega) (by omega) (by omega) (by omega) (by omega) (by omega)]; exact v3, v4, by rw [g10]; exact du.1, ⟨⟨by rw [g10, d3]; exact x_B_01 _, by rw [g10, du.2.2.1]; exact x_B_01 _⟩, du.2.2.2, ?_, trivial⟩, by rw [f (lb + 1) (by omega) (by omega) (by omega) (by omega) (by omega) (by omega) (by omega)]; exact w1, by rw [f (lb + 2) (by omega) (by omega) (by omega) (by omega) (by omega) (by omega) (by omega)]; exact w2, by rw [f (lb + 12) (by omega) (by omega) (by omega) (by omega) (by omega) (by omega) (by omega)]; exact w3⟩, ?_⟩
    · intro j j0 j1
      obtain ⟨i, rfl⟩ := Int.eq_ofNat_of_zero_le j0
      have hi : i < (S.2.getD []).length := by omega
      rw [g11, du.2.1 i hi]
      have hm : (S.2.getD []).getD i 0 ∈ S.2.getD [] := by
        rw [List.getD_eq_getElem?_getD, List.getElem?_eq_getElem hi]
        exact List.getElem_mem hi
      have := hz _ hm
      unfold s_in2 at this
      exact ⟨⟨by omega, by omega⟩, by omega⟩
    · unfold l_dt
      rw [f (lb + 1) (by omega) (by omega) (by omega) (by omega) (by omega) (by omega) (by omega), f (lb + 2) (by omega) (by omega) (by omega) (by omega) (by omega) (by omega) (by omega), g10, d3, du.2.2.1]
  · obtain ⟨r1, r2, r3, r4, r5, r6, r7, r8, r9, r10⟩ := v5
    refine ⟨by rw [e3, x_u1_n (by decide)]; exact r1, r2, by rw [e3, x_u1_s], v2, by rw [f _ (by omega) (by omega) (by omega) (by omega) (by omega) (by omega) (by omega)]; exact r5, by rw [f _ (by omega) (by omega) (by omega) (by omega) (by omega) (by omega) (by omega)]; exact r6, by rw [f _ (by omega) (by omega) (by omega) (by omega) (by omega) (by omega) (by omega)]; exact r7, by rw [f _ (by omega) (by omega) (by omega) (by omega) (by omega) (by omega) (by omega)]; exact r8, ?_, ?_⟩
    · rw [e8]
      exact m_ok_m (m_ok_ways (by decide) (fun j => ⟨(b3 j).1, by have := b3 j; omega⟩) _) _ _
    · rw [e9]
      exact m_ok_m (m_ok_ways (by decide) (fun j => by have := m_81 (b3 j) (b4 j); exact ⟨this.1, by omega⟩) _) _ _
  · rw [e34]
    have z0 := o2 0 (Or.inl rfl)
    refine ⟨by rw [z0]; exact o1, by omega, fun c c0 c1 => Or.inr (o3 c c0 c1)⟩
  · exact co_ok_of hco (fun j a1 a2 => by rw [en j (by omega) (by omega) (by omega) (by omega) (by omega) (by omega) (by omega), dn j (by omega) (by omega) (by omega) (by omega)]; exact hfr j (by omega) (by omega))
  · intro j a1 a2 a3 a4 a5 a6
    rw [en j a1 a3 a4 a5 (by omega) (by omega) (by omega), dn j a1 a2 (by omega) (by omega)]
    exact hfr j a1 a6
theorem w_11_113 : x_cv RX11 113 yX6_measure cX6_measure 4 (none) 6 1 := ⟨⟨_, rfl, rfl⟩, (x_in 871 (by decide +kernel) rfl), (x_in 872 (by decide +kernel) rfl), (x_in 873 (by decide +kernel) rfl), (x_in 83 (by decide +kernel) rfl), (x_in 874 (by decide +kernel) rfl), by decide, ⟨by decide +kernel, by decide +kernel, by decide +kernel⟩⟩
theorem w_11_125 : x_cv RX11 125 yX0_clear cX0_clear 1 (none) 0 0 := ⟨⟨_, rfl, rfl⟩, (x_in 884 (by decide +kernel) rfl), (x_in 885 (by decide +kernel) rfl), (x_in 886 (by decide +kernel) rfl), (x_in 86 (by decide +kernel) rfl), (x_in 887 (by decide +kernel) rfl), by decide, ⟨by decide +kernel, by decide +kernel, by decide +kernel⟩⟩
set_option maxHeartbeats 4000000 in
theorem c11_prov {X : xC} {l : Launch} (hl : l.stackTraces = false) {N : Nat} {sh : xS} {D : xM} {la lb T C W : Nat} {G : Ldt} (hq : cq N sh D la lb T C W G) {n k : Nat} (hk7 : k ≤ 700) (hkt : D 0 1 = k) (hnk : n ≤ k) (hbt : ∀ j, -128 ≤ D 2 j ∧ D 2 j ≤ 127) (hlw : lw D lb) {z : Tx × Nat} (hz : r_all (D 2) n lb (pv0 D) = .inr z) : x_M X l yX11_province cX11_province 3 (some .int) 53 1 6 [.ref (x_b X + 0), .int (xI (n : Int))] false N sh D (o_i 0) false N (x_sw sh la lb) (pvq N sh D la lb z.1) := by
  obtain ⟨hX, hG, hR, ⟨hk, hd9, hpl⟩, hco⟩ := id hq
  obtain ⟨hN, x0, x1, x2, xla, xlb, x33, x35, x37, x39, x43, x45, x47, x51, x60, x61, hll⟩ := id hX
  have hla : la = 3 ∨ la = 18 := by omega
  have n0 : 0 < N := by omega
  have n1 : 1 < N := by omega
  have n2 : 2 < N := by omega
  have n33 : 33 < N := by omega
  have n34 : 34 < N := by omega
  have n35 : 35 < N := by omega
  have n36 : 36 < N := by omega
  have n37 : 37 < N := by omega
  have n38 : 38 < N := by omega
  have n39 : 39 < N := by omega
  have n40 : 40 < N := by omega
  have n41 : 41 < N := by omega
  have n42 : 42 < N := by omega
  have n43 : 43 < N := by omega
  have n45 : 45 < N := by omega
  have n47 : 47 < N := by omega
  have n51 : 51 < N := by omega
  have n60 : 60 < N := by omega
  have n61 : 61 < N := by omega
  have x33a := x33.2.1
  have x34 := x33.2.2.2
  have x35a := x35.2.1
  have x36 := x35.2.2.2
  have x37a := x37.2.1
  have x38 := x37.2.2.2
  have x39a := x39.2.1
  have x43a := x43.2.1
  have x45a := x45.2.1
  have x47a := x47.2.1
  have x51a := x51.2.1
  have xla0 := xla.2.1
  have xla1 := xla.2.2.1
  have xla2 := xla.2.2.2.1
  have hlaN : la < N := by have := xla.1; omega
  have hlaN1 : la + 1 < N := by have := xla.1; omega
  have hlaN2 : la + 2 < N := by have := xla.1; omega
  have hlaN3 : la + 3 < N := by have := xla.1; omega
  have hlaN10 : la + 10 < N := by have := xla.1; omega
  have xru := (is_L_ru xla).2.1
  have xro := (is_L_ro xla).2.1
  obtain ⟨hG1, hG2, hG3⟩ := ldG_G hG
  obtain ⟨n0', ⟨gT, gTb, gC, gCb, -⟩, -⟩ := id hG
  obtain ⟨rW, rWb, rT, -, ro1, ro2, ro3, ro4, ro5, ro6⟩ := id hR
  have hd0 : 0 ≤ D 34 0 := ((hk 0).1 rfl).1
  have hB : 161 * D 34 0 ≤ 160839 := by omega
  have hsc := sc_refl hG hco
  have hlb : 3 ≤ lb := by omega
  obtain ⟨P, hP⟩ : ∃ P, P = pv0 D := ⟨_, rfl⟩
  have P0 : P 0 = x_u1 (D 0) 1 0 := by rw [hP]; exact x_up_s
  have Pn : ∀ j, j ≠ 0 → P j = D j := fun j hj => by rw [hP]; exact x_up_n hj
  have hlwP : lw P lb := by
    obtain ⟨w1, w2, w3, W1, T1, w4⟩ := hlw
    exact ⟨by rw [Pn _ (by omega)]; exact w1, by rw [Pn _ (by omega)]; exact w2, by rw [Pn _ (by omega)]; exact w3, W1, T1, rd_cg (fun j _ _ => Pn j (by omega)) w4⟩
  have c1 := r5_read (X := X) (l := l) hl (n := n) (is_X_rd hX) hlb xlb (by omega) (by rw [Pn 2 (by decide)]; exact hbt) hlwP
  rw [Pn 2 (by decide)] at c1
  have hso : so (D 2) n z.1 := so_txt 700 _ 0 z (Nat.zero_le _) (fun L hL => by cases hL) hz
  rw [← hP] at hz
  rw [hz] at c1
  have yX := sw_X hX
  obtain ⟨-, y0, y1, y2, ylb, yla, y33, y35, y37, y39, y43, y45, y47, y51, y60, y61, -⟩ := id yX
  have yl0 := ylb.2.1
  have nlb : lb < N := by have := ylb.1; omega
  have nlb3 : lb + 3 < N := by have := ylb.1; omega
  have nlb13 : lb + 13 < N := by have := ylb.1; omega
  have yro := (is_L_ro ylb).2.1
  have yst := (is_L_st ylb).2.1
  have y33a := y33.2.1
  have y37a := y37.2.1
  have y39a := y39.2.1
  have g98 : ∀ d : xM, sv lb z.1.1 → (∀ j, j ≠ 0 → j < lb ∨ lb + 14 < j → z.1.1 j = D j) → d 0 = x_u1 (x_u1 (D 0) 1 0) 14 (-1) → (∀ j, j ≠ 0 → j ≠ 1 → j ≠ lb + 10 → j ≠ lb + 11 → d j = z.1.1 j) → d (lb + 10) 3 = x_B (z.1.2.isSome = true) → ru_is d lb (z.1.2.getD []) → x_W (X, l, yX11_province, cX11_province, 3, (some .int), x_room 53 1 6, 1, 6, (o_i 0), N, (x_sw sh la lb), (pvq N sh D la lb z.1), false, []) 98 [some (.ref (x_b X + 0)), some (.int (xI (n : Int))), some (.ref (x_b X + lb))] [] 0 0 false N (x_sw sh la lb) d := by
    intro d hsv hfr d0 dn d3 du
    obtain ⟨⟨⟨v1, v2⟩, ⟨v3, v4⟩, T0, v5⟩, -⟩ := id hsv
    have hT : d lb 0 = ((z.1.1 lb 0).toNat : Nat) := by rw [dn lb (by omega) (by omega) (by omega) (by omega)]; exact v1
    have hrd : rd d (lb + 3) (z.1.1 (lb + 3) 0).toNat T0 := rd_cg (fun j a b => dn j (by omega) (by omega) (by omega) (by omega)) v5
    obtain ⟨r1, r2, r3, r4, r5, r6, r7, r8, r9, r10⟩ := hrd
    refine x_aload_n dX11_province_98 x_get_3_0 ?_
    refine x_getR dX11_province_99 fX_11_23 (by assumption) (by assumption) (by rfl) ?_
    refine x_getR dX11_province_102 fX_11_106 (by assumption) (by assumption) (by rfl) ?_
    refine x_aload_n dX11_province_105 x_get_3_0 ?_
    refine x_getR dX11_province_106 fX_11_23 (by assumption) (by assumption) (by rfl) ?_
    refine x_getI 0 dX11_province_109 fX_11_110 rfl (by assumption) (by assumption) (by rfl) ?_
    rw [hT]
    refine x_callV (As := [_]) dX11_province_112 w_11_113 (c6_measure hl (is_L_ro ylb) r1 r2 r5 r6 r7 r8 v2) (by assumption) (by assumption) rfl rfl (Nat.le_of_ble_eq_true rfl) (Nat.le_of_ble_eq_true rfl) (Nat.le_of_ble_eq_true rfl) (Nat.le_of_ble_eq_true rfl) (Nat.le_of_ble_eq_true rfl) ?_
    intro m3 hm3
    refine x_aload_n dX11_province_115 x_get_3_0 ?_
    refine x_getR dX11_province_116 fX_11_30 (by assumption) (by assumption) (by rfl) ?_
    refine x_aload_n dX11_province_119 x_get_3_0 ?_
    refine x_getR dX11_province_120 fX_11_23 (by assumption) (by assumption) (by rfl) ?_
    refine x_getR dX11_province_123 fX_11_118 (by assumption) (by assumption) (by rfl) ?_
    refine x_callV (As := [_]) dX11_province_126 w_11_121 (c9_take2 hl y33 (is_L_st ylb)) (by assumption) (by assumption) rfl rfl (Nat.le_of_ble_eq_true rfl) (Nat.le_of_ble_eq_true rfl) (Nat.le_of_ble_eq_true rfl) (Nat.le_of_ble_eq_true rfl) (Nat.le_of_ble_eq_true rfl) ?_
    intro m4 hm4
    refine x_aload_n dX11_province_129 x_get_3_0 ?_
    refine x_getR dX11_province_130 fX_11_40 (by assumption) (by assumption) (by rfl) ?_
    refine x_callV (As := []) dX11_province_133 w_11_125 (c0_clear hl y37) (by assumption) (by assumption) rfl rfl (Nat.le_of_ble_eq_true rfl) (Nat.le_of_ble_eq_true rfl) (Nat.le_of_ble_eq_true rfl) (Nat.le_of_ble_eq_true rfl) (Nat.le_of_ble_eq_true rfl) ?_
    rintro m5 ⟨hA5, hm5⟩
    refine x_aload_n dX11_province_136 x_get_3_0 ?_
    refine x_getR dX11_province_137 fX_11_47 (by assumption) (by assumption) (by rfl) ?_
    refine x_callV (As := []) dX11_province_140 w_11_128 (c8_clear hl y39) (by assumption) (by assumption) rfl rfl (Nat.le_of_ble_eq_true rfl) (Nat.le_of_ble_eq_true rfl) (Nat.le_of_ble_eq_true rfl) (Nat.le_of_ble_eq_true rfl) (Nat.le_of_ble_eq_true rfl) ?_
    rintro m6 ⟨hS6, hm6⟩
    refine x_aload_n dX11_province_143 x_get_3_0 ?_
    refine x_iconst dX11_province_144 ?_
    refine x_putZ 7 dX11_province_145 fX_11_51 rfl tX_11_7 (by assumption) (by assumption) (by rfl) (by omega) ?_
    have m4n : ∀ j, j ≠ 34 → j ≠ lb + 3 → j ≠ lb + 3 + 5 → j ≠ lb + 3 + 6 → m4 j = d j := fun j a b c e => by rw [hm4, x_up_n a, hm3, x_up_n e, x_up_n c, x_up_n b]
    have m6n : ∀ j, j ≠ 37 → j ≠ 39 → m6 j = m4 j := fun j a b => by rw [hm6 j b, hm5 j a]
    have m43 : ∀ j, j ≠ 34 → m4 j = m3 j := fun j a => by rw [hm4, x_up_n a]
    have e60 : m6 0 = d 0 := by rw [m6n 0 (by decide) (by decide), m4n 0 (by decide) (by omega) (by omega) (by omega)]
    have hfin := pv_fin (d7 := x_up m6 0 (x_u1 (m6 0) 7 0)) hq hsv hso hfr d0 dn d3 du (by rw [x_up_s, e60]) (by rw [x_up_n (by decide), m6n 34 (by decide) (by decide), hm4, x_up_s, hm3, x_up_n (by omega), x_up_n (by omega), x_up_n (by omega)]) (acts_same hA5 (by rw [x_up_n (by decide), hm6 37 (by decide)]) (by rw [x_up_n (by decide), hm6 38 (by decide)])) (seen_same hS6 (x_up_n (by decide)) (x_up_n (by decide)) (x_up_n (by decide)) (x_up_n (by decide))) (by rw [x_up_n (by omega), m6n _ (by omega) (by omega), m43 _ (by omega), hm3, x_up_n (by omega), x_up_n (by omega), x_up_s]) (by rw [x_up_n (by omega), m6n _ (by omega) (by omega), m43 _ (by omega), hm3, x_up_n (by omega), x_up_s]) (by rw [x_up_n (by omega), m6n _ (by omega) (by omega), m43 _ (by omega), hm3, x_up_s]) (fun j a1 a2 a3 a4 a5 a6 a7 => by rw [x_up_n a1, m6n j a3 a4]; exact m4n j a2 a5 a6 a7)
    refine x_iconst dX11_province_148 ?_
    exact x_iret dX11_province_149 rfl (Nat.le_of_ble_eq_true rfl) (Nat.le_of_ble_eq_true rfl) rfl rfl rfl hfin rfl
  refine x_ofW (by decide +kernel) hl (by simp [Value.category]) (by simp) ?_
  refine x_iload_n dX11_province_0 x_get_3_1 ?_
  refine r_if_lt (t := 12) dX11_province_1 rfl ⟨by omega, by omega⟩ (fun hc1 => absurd hc1 (by omega)) (fun hc1 => ?_)
  refine x_iload_n dX11_province_4 x_get_3_1 ?_
  refine x_aload_n dX11_province_5 x_get_3_0 ?_
  refine x_getI 1 dX11_province_6 fX_11_16 rfl (by assumption) (by assumption) (by rfl) ?_
  first | rw [hkt] | (show x_W _ _ _ _ _ _ _ _ _ (pv0 D); rw [← hP]) | rw [h9] | rw [f0] | (rw [x_up_n (by decide), h8]) | skip
  refine r_icmp_le (t := 22) dX11_province_9 rfl ⟨by omega, by omega⟩ ⟨by omega, by omega⟩ (fun hc9 => ?_) (fun hc9 => absurd hc9 (by omega))
  refine x_aload_n dX11_province_22 x_get_3_0 ?_
  refine x_iconst dX11_province_23 ?_
  refine x_putI 1 dX11_province_24 fX_11_16 rfl tX_11_1 (by assumption) (by assumption) (by rfl) ?_
  first | rw [hkt] | (show x_W _ _ _ _ _ _ _ _ _ (pv0 D); rw [← hP]) | rw [h9] | rw [f0] | (rw [x_up_n (by decide), h8]) | skip
  refine x_aload_n dX11_province_27 x_get_3_0 ?_
  refine x_getR dX11_province_28 fX_11_10 (by assumption) (by assumption) (by rfl) ?_
  refine x_iload_n dX11_province_31 x_get_3_1 ?_
  refine x_callV (As := [_]) dX11_province_32 w_11_96 (c1) (by assumption) (by assumption) rfl rfl (Nat.le_of_ble_eq_true rfl) (Nat.le_of_ble_eq_true rfl) (Nat.le_of_ble_eq_true rfl) (Nat.le_of_ble_eq_true rfl) (Nat.le_of_ble_eq_true rfl) ?_
  intro d2 hd2
  obtain ⟨⟨hs2, hb2, hc2, h8, h9⟩, hsv, hfr⟩ := hd2
  have f0 : d2 0 = x_u1 (D 0) 1 0 := by rw [hc2.1 0 (by decide) (by omega) (by omega), hfr 0 (by omega)]; exact P0
  refine x_aload_n dX11_province_35 x_get_3_0 ?_
  refine x_aload_n dX11_province_36 x_get_3_0 ?_
  refine x_getR dX11_province_37 fX_11_10 (by assumption) (by assumption) (by rfl) ?_
  refine x_getI 9 dX11_province_40 fX_11_99 rfl (by assumption) (by assumption) (by rfl) ?_
  first | rw [hkt] | (show x_W _ _ _ _ _ _ _ _ _ (pv0 D); rw [← hP]) | rw [h9] | rw [f0] | (rw [x_up_n (by decide), h8]) | skip
  refine x_putI 14 dX11_province_43 fX_11_82 rfl tX_11_14 (by assumption) (by assumption) (by rfl) ?_
  first | rw [hkt] | (show x_W _ _ _ _ _ _ _ _ _ (pv0 D); rw [← hP]) | rw [h9] | rw [f0] | (rw [x_up_n (by decide), h8]) | skip
  refine x_aload_n dX11_province_46 x_get_3_0 ?_
  refine x_getR dX11_province_47 fX_11_10 (by assumption) (by assumption) (by rfl) ?_
  refine x_getI 8 dX11_province_50 fX_11_102 rfl (by assumption) (by assumption) (by rfl) ?_
  first | rw [hkt] | (show x_W _ _ _ _ _ _ _ _ _ (pv0 D); rw [← hP]) | rw [h9] | rw [f0] | (rw [x_up_n (by decide), h8]) | skip
  refine r_if_eq (t := 74) dX11_province_53 rfl ⟨by omega, by omega⟩ (fun hc53 => ?_) (fun hc53 => absurd hc53 (by omega))
  refine x_aload_n dX11_province_74 x_get_3_0 ?_
  refine x_getR dX11_province_75 fX_11_10 (by assumption) (by assumption) (by rfl) ?_
  refine x_getR dX11_province_78 fX_11_105 (by assumption) (by assumption) (by rfl) ?_
  refine x_astore_n dX11_province_81 (Nat.le_of_ble_eq_true rfl) rfl x_set_3_2 ?_
  refine x_aload_n dX11_province_82 x_get_3_0 ?_
  refine x_getR dX11_province_83 fX_11_10 (by assumption) (by assumption) (by rfl) ?_
  refine x_aload_n dX11_province_86 x_get_3_0 ?_
  refine x_getR dX11_province_87 fX_11_23 n0 (by first | exact x0 | (rw [x_sp_n (by decide)]; exact x0)) (by rfl) ?_
  refine x_putR dX11_province_90 fX_11_105 tX_5_7 (Or.inl ⟨_, rfl⟩) n1 x1 (Nat.le_of_ble_eq_true rfl) ?_
  refine x_aload_n dX11_province_93 x_get_3_0 ?_
  refine x_aload_n dX11_province_94 x_get_3_2 ?_
  refine x_putR dX11_province_95 fX_11_23 tX_11_2 (Or.inl ⟨_, rfl⟩) n0 (by rw [x_sp_n (by decide)]; exact x0) (Nat.le_of_ble_eq_true rfl) ?_
  exact g98 _ hsv (fun j a b => by rw [hfr j b]; exact Pn j a) (by rw [x_up_s]) (fun j a b c e => by rw [x_up_n a]; exact hc2.1 j b c e) (by rw [x_up_n (by omega)]; exact hc2.2.1) (by have hu := hc2.2.2; unfold ru_is at hu ⊢; rw [x_up_n (by omega), x_up_n (by omega)]; exact hu)
end C9992
