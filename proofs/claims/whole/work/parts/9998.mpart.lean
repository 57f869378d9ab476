section M9998
/-! ===== the Model's yard: parts, depth ===== -/
def zc : List Int → Nat
  | [] => 0
  | s :: K => (if s = 0 then 1 else 0) + zc K
def fk : List Bool → (Int → Int) → Prop
  | [], _ => True
  | f :: F, w => w ((F.length : Int) + 1) = (if f = true then 1 else 0) ∧ fk F w
theorem fk_cg : ∀ {F : List Bool} {w w' : Int → Int}, fk F w → (∀ i : Int, 1 ≤ i → i ≤ F.length → w' i = w i) → fk F w'
  | [], _, _, _, _ => trivial
  | f :: F, w, w', h, e => ⟨by rw [e _ (by omega) (by rw [List.length_cons]; omega)]; exact h.1, fk_cg h.2 (fun i h1 h2 => e i h1 (by rw [List.length_cons]; omega))⟩
/-- all that an expression leaves alone -/
def fx (D d : xM) : Prop := d 62 14 = 0 → D 62 14 = 0 ∧ d 62 15 = D 62 15
theorem fx_eq {D d : xM} (h1 : d 62 14 = D 62 14) (h2 : d 62 15 = D 62 15) : fx D d := fun h => ⟨h1.symm.trans h, h2⟩
theorem fx_no {D d : xM} (h : d 62 14 ≠ 0) : fx D d := fun e => absurd e h
theorem fx_tr {D d e : xM} (h : fx D d) (h2 : fx d e) : fx D e := fun z => ⟨(h (h2 z).1).1, (h2 z).2.trans (h (h2 z).1).2⟩
def xf (D d : xM) : Prop := (∀ j, j ≠ 62 → j ≠ 79 → j ≠ 80 → j ≠ 81 → d j = D j) ∧ (∀ i, i ≠ 14 → i ≠ 15 → (i < 18 ∨ 24 < i) → i ≠ 29 → i ≠ 30 → i ≠ 31 → d 62 i = D 62 i) ∧ fx D d
theorem xf_rf {D : xM} : xf D D := ⟨fun _ _ _ _ _ => rfl, fun _ _ _ _ _ _ _ => rfl, fx_eq rfl rfl⟩
theorem xf_tr {D d e : xM} (h : xf D d) (h2 : xf d e) : xf D e := ⟨fun j a b c x => by rw [h2.1 j a b c x]; exact h.1 j a b c x, fun i a b c x y z => by rw [h2.2.1 i a b c x y z]; exact h.2.1 i a b c x y z, fx_tr h.2.2 h2.2.2⟩
theorem xf_gf {D d : xM} (h : gf D d) : xf D d := ⟨fun j a _ _ _ => h.1 j a, fun i _ _ c _ _ _ => h.2 i c, fx_eq (h.2 14 (by decide)) (h.2 15 (by decide))⟩
theorem xf_yf {D d : xM} (h : yf D d) : xf D d := ⟨fun j a b c _ => h.1 j a b c, fun i _ _ _ x y _ => h.2 i x y, fx_eq (h.2 14 (by decide) (by decide)) (h.2 15 (by decide) (by decide))⟩
theorem xf_mwf {D : xM} {w s : Int} (hw : w ≠ 0 := by decide) : xf D (mwf w s D) := ⟨fun j a _ _ _ => x_up_n a, fun i a b _ _ _ _ => by unfold mwf; rw [x_up_s, x_u1_n b, x_u1_n a], fx_no (by rw [mwf_14]; exact hw)⟩
/-- the Model's yard stands as t -/
def ym (b : Int → Int) (n : Nat) (t : Ys) (D : xM) : Prop := gs b n t.2.1 D ∧ D 62 14 = 0 ∧ yk t.2.2.1 (cod t.2.2.2.1) D ∧ D 62 31 = t.2.2.2.2.length ∧ fk t.2.2.2.2 (D 81) ∧ ((cod t.2.2.2.1).length + t.2.2.1.length + 8 ≤ 2 * t.2.1 ∧ t.2.2.1.length ≤ t.2.1) ∧ (t.2.2.2.2.length = zc t.2.2.1 + 1 ∧ t.2.2.2.2.length ≤ 6)
/-- a fault, and all still safe -/
def yx (b : Int → Int) (n : Nat) (z : Int × Nat) (D : xM) : Prop := D 62 14 = z.1 ∧ D 62 15 = (tS b n z.2 : Nat) ∧ ∃ K C : List Int, yk K C D ∧ C.length + K.length ≤ 1398 ∧ K.length ≤ 700
def yp (b : Int → Int) (n : Nat) (r : Yr) (D d : xM) : Prop := match r with
  | .inl z => yx b n z d ∧ xf D d
  | .inr t => ym b n t d ∧ xf D d
theorem mwf_yk {K C : List Int} {D : xM} {w s : Int} (h : yk K C D) : yk K C (mwf w s D) := by
  unfold yk mwf at *
  rw [x_up_s, x_u1_n (by decide), x_u1_n (by decide), x_u1_n (by decide), x_u1_n (by decide), x_up_n (by decide), x_up_n (by decide)]
  exact h
theorem ym_wr {b : Int → Int} {n q : Nat} {w : Int} {t : Ys} {D : xM} (h : ym b n t D) : yx b n (w, q) (mwf w (tS b n q : Nat) D) := by
  obtain ⟨h1, h2, h3, h4, h5, h6, h7⟩ := h
  have hq := h1.2.1
  have hn := h1.1.2.1
  refine ⟨mwf_14, by unfold mwf; rw [x_up_s, x_u1_s], _, _, mwf_yk h3, by omega, by omega⟩
theorem kw_vs {b : Int → Int} {n q : Nat} : (r_vs b n q = -16 ↔ ¬ (0 ≤ kw b n q ∧ kw b n q ≤ 5)) ∧ (¬ r_vs b n q = -16 → 0 ≤ kw b n q ∧ kw b n q ≤ 5 ∧ -1 - r_vs b n q = kw b n q) := by
  have k0 := kw_eq (b := b) (n := n) (q := q) (k := 0) (by decide)
  have k1 := kw_eq (b := b) (n := n) (q := q) (k := 1) (by decide)
  have k2 := kw_eq (b := b) (n := n) (q := q) (k := 2) (by decide)
  have k3 := kw_eq (b := b) (n := n) (q := q) (k := 3) (by decide)
  have k4 := kw_eq (b := b) (n := n) (q := q) (k := 4) (by decide)
  have k5 := kw_eq (b := b) (n := n) (q := q) (k := 5) (by decide)
  unfold r_vs
  by_cases a0 : tW b n q 8
  · have := k0.mpr a0; rw [if_pos a0]; omega
  rw [if_neg a0]
  by_cases a1 : tW b n q 9
  · have := k1.mpr a1; rw [if_pos a1]; omega
  rw [if_neg a1]
  by_cases a2 : tW b n q 10
  · have := k2.mpr a2; rw [if_pos a2]; omega
  rw [if_neg a2]
  by_cases a3 : tW b n q 11
  · have := k3.mpr a3; rw [if_pos a3]; omega
  rw [if_neg a3]
  by_cases a4 : tW b n q 12
  · have := k4.mpr a4; rw [if_pos a4]; omega
  rw [if_neg a4]
  by_cases a5 : tW b n q 13
  · have := k5.mpr a5; rw [if_pos a5]; omega
  rw [if_neg a5]
  have b0 : ¬ kw b n q = ((0 : Nat) : Int) := fun h => a0 (k0.mp h)
  have b1 : ¬ kw b n q = ((1 : Nat) : Int) := fun h => a1 (k1.mp h)
  have b2 : ¬ kw b n q = ((2 : Nat) : Int) := fun h => a2 (k2.mp h)
  have b3 : ¬ kw b n q = ((3 : Nat) : Int) := fun h => a3 (k3.mp h)
  have b4 : ¬ kw b n q = ((4 : Nat) : Int) := fun h => a4 (k4.mp h)
  have b5 : ¬ kw b n q = ((5 : Nat) : Int) := fun h => a5 (k5.mp h)
  omega
theorem w_12_204 : x_cv RX12 204 yX12_knownWord cX12_knownWord 2 (some .int) 12 0 := ⟨⟨_, rfl, rfl⟩, (x_in 1575 (by decide +kernel) rfl), (x_in 1577 (by decide +kernel) rfl), (x_in 22 (by decide +kernel) rfl), (x_in 90 (by decide +kernel) rfl), (x_in 1578 (by decide +kernel) rfl), by decide, ⟨by decide +kernel, by decide +kernel, by decide +kernel⟩⟩
theorem w_12_211 : x_cv RX12 211 yX12_isSign cX12_isSign 2 (some .boolean) 12 1 := ⟨⟨_, rfl, rfl⟩, (x_in 1626 (by decide +kernel) rfl), (x_in 1628 (by decide +kernel) rfl), (x_in 33 (by decide +kernel) rfl), (x_in 90 (by decide +kernel) rfl), (x_in 1629 (by decide +kernel) rfl), by decide, ⟨by decide +kernel, by decide +kernel, by decide +kernel⟩⟩
set_option maxHeartbeats 4000000 in
theorem m_part {X : xC} {l : Launch} (hl : l.stackTraces = false) {N : Nat} {sh : xS} {D : xM} (hM : is_Md N sh) {b : Int → Int} {n : Nat} {m q : Nat} {K O : List Int} {F : List Bool} (hy : ym b n (m, q, K, O, F) D) : x_M X l yX12_part cX12_part 2 (none) 3 0 0 [.ref (x_b X + 62)] false N sh D (.inl none) false N sh (yp b n (y_prt b n q K O F) D) := by
  have s62 := md_62 hM
  have n62 : 62 < N := md_n hM (by decide)
  obtain ⟨hg, h14, hk, h31, hfk, ⟨hb1, hb2⟩, hb3, hb4⟩ := id hy
  have hg : gs b n q D := hg
  have hk : yk K (cod O) D := hk
  have h31 : D 62 31 = (F.length : Nat) := h31
  have hfk : fk F (D 81) := hfk
  have hb1 : (cod O).length + K.length + 8 ≤ 2 * q := hb1
  have hb2 : K.length ≤ q := hb2
  have hb3 : F.length = zc K + 1 := hb3
  have hb4 : F.length ≤ 6 := hb4
  obtain ⟨ht, hqn, g18, g20, g19, g21, g22, g23, g24⟩ := id hg
  obtain ⟨t1, t2, t3⟩ := id ht
  obtain ⟨e0, e1, e2⟩ := tE_in (b := b) hqn
  have hki := tK_in (b := b) (n := n) (q := q)
  obtain ⟨s0, s1, s2, s3, s4, s5⟩ := m_so_w (b := b) (n := n) (q := q)
  unfold y_prt
  have fin : ∀ (v : Int) (d : xM), ¬ tK b n q = 0 → ((cod [v]).length = 2) → gs b n (tE b n q) d → xf D d → d 62 14 = 0 → yk K (cod (O ++ [v])) d → d 62 31 = D 62 31 → d 81 = D 81 → yp b n (.inr (0, tE b n q, K, O ++ [v], F)) D d := by
    intro v d hk0 hc hgd hxd hd14 hkd hd31 hd81
    have hup := tE_w hqn hk0
    refine ⟨⟨hgd, hd14, hkd, by rw [hd31]; exact h31, by rw [hd81]; exact hfk, ⟨?_, by show K.length ≤ tE b n q; omega⟩, hb3, hb4⟩, hxd⟩
    show (cod (O ++ [v])).length + K.length + 8 ≤ 2 * tE b n q
    rw [cod_app, List.length_append, hc]
    omega
  by_cases h3 : tK b n q = 3
  · rw [if_pos h3]
    have hup := tE_w hqn (show ¬ tK b n q = 0 by omega)
    have f19 : D 62 19 = 2 := by rw [g19]; exact s2.mpr h3
    by_cases hL : tL b n q
    · rw [if_pos hL]
      have hL2 : 4 < ((tE b n q : Nat) : Int) - (tS b n q : Nat) := hL
      have hkw := mwf_yk (w := 2) (s := (tS b n q : Nat)) hk
      refine x_ofW (by decide +kernel) hl (by simp [Value.category]) (by simp) ?_
      refine x_aload_n dX12_part_0 x_get_2_0 ?_
      refine x_callV (As := []) dX12_part_1 w_12_176 (m_good hl hM h14) (by assumption) (by assumption) rfl rfl (Nat.le_of_ble_eq_true rfl) (Nat.le_of_ble_eq_true rfl) (Nat.le_of_ble_eq_true rfl) (Nat.le_of_ble_eq_true rfl) (Nat.le_of_ble_eq_true rfl) ?_
      intro d hd
      obtain rfl := Eq.symm hd
      refine r_if_ne (t := 8) dX12_part_4 rfl ⟨by omega, by omega⟩ (fun hc4 => ?_) (fun hc4 => absurd hc4 (by omega))
      refine x_aload_n dX12_part_8 x_get_2_0 ?_
      refine x_getI 19 dX12_part_9 fX_12_150 rfl n62 s62 (by rfl) ?_
      try simp (disch := decide) only [x_up_s, x_up_n, x_up_up, x_u1_s, x_u1_n, f19, g21]
      refine x_iconst dX12_part_12 ?_
      refine r_icmp_ne (t := 45) dX12_part_13 rfl ⟨by omega, by omega⟩ ⟨by omega, by omega⟩ (fun hc13 => absurd hc13 (by omega)) (fun hc13 => ?_)
      refine x_aload_n dX12_part_16 x_get_2_0 ?_
      refine x_getI 21 dX12_part_17 fX_12_160 rfl n62 s62 (by rfl) ?_
      try simp (disch := decide) only [x_up_s, x_up_n, x_up_up, x_u1_s, x_u1_n, f19, g21]
      refine x_iconst dX12_part_20 ?_
      refine r_icmp_le (t := 29) dX12_part_21 rfl ⟨by omega, by omega⟩ ⟨by omega, by omega⟩ (fun hc21 => absurd hc21 (by omega)) (fun hc21 => ?_)
      refine x_aload_n dX12_part_24 x_get_2_0 ?_
      refine x_iconst dX12_part_25 ?_
      refine x_callV (As := [_]) dX12_part_26 w_12_183 (m_wrong hl hM hg h14) (by assumption) (by assumption) rfl rfl (Nat.le_of_ble_eq_true rfl) (Nat.le_of_ble_eq_true rfl) (Nat.le_of_ble_eq_true rfl) (Nat.le_of_ble_eq_true rfl) (Nat.le_of_ble_eq_true rfl) ?_
      intro d hd
      obtain rfl := Eq.symm hd
      refine x_aload_n dX12_part_29 x_get_2_0 ?_
      refine x_iconst dX12_part_30 ?_
      refine x_callV (As := [_]) dX12_part_31 w_12_201 (m_puts hl hM hkw (by omega)) (by assumption) (by assumption) rfl rfl (Nat.le_of_ble_eq_true rfl) (Nat.le_of_ble_eq_true rfl) (Nat.le_of_ble_eq_true rfl) (Nat.le_of_ble_eq_true rfl) (Nat.le_of_ble_eq_true rfl) ?_
      rintro d2 ⟨hd2, hf2⟩
      refine x_aload_n dX12_part_34 x_get_2_0 ?_
      refine x_aload_n dX12_part_35 x_get_2_0 ?_
      refine x_getI 22 dX12_part_36 fX_12_144 rfl n62 s62 (by rfl) ?_
      try simp (disch := decide) only [x_up_s, x_up_n, x_up_up, x_u1_s, x_u1_n, f19, g21]
      refine x_callV (As := [_]) dX12_part_39 w_12_201 (m_puts hl hM hd2 (by rw [List.length_append, List.length_singleton]; omega)) (by assumption) (by assumption) rfl rfl (Nat.le_of_ble_eq_true rfl) (Nat.le_of_ble_eq_true rfl) (Nat.le_of_ble_eq_true rfl) (Nat.le_of_ble_eq_true rfl) (Nat.le_of_ble_eq_true rfl) ?_
      rintro d3 ⟨hd3, hf3⟩
      have hf4 := yf_tr hf2 hf3
      have hb14 : d3 62 14 = 2 := by rw [hf4.2 14 (by decide) (by decide)]; exact mwf_14
      refine x_goto (t := 90) dX12_part_42 rfl ?_
      refine x_aload_n dX12_part_90 x_get_2_0 ?_
      refine x_callV (As := []) dX12_part_91 w_12_176 (m_goodF hl hM hb14 (by decide)) (by assumption) (by assumption) rfl rfl (Nat.le_of_ble_eq_true rfl) (Nat.le_of_ble_eq_true rfl) (Nat.le_of_ble_eq_true rfl) (Nat.le_of_ble_eq_true rfl) (Nat.le_of_ble_eq_true rfl) ?_
      intro d hd
      obtain rfl := Eq.symm hd
      refine r_if_eq (t := 101) dX12_part_94 rfl ⟨by omega, by omega⟩ (fun hc94 => ?_) (fun hc94 => absurd hc94 (by omega))
      exact x_vret dX12_part_101 rfl (Nat.le_of_ble_eq_true rfl) (Nat.le_of_ble_eq_true rfl) rfl rfl rfl ⟨⟨hb14, by rw [hf4.2 15 (by decide) (by decide)]; unfold mwf; rw [x_up_s, x_u1_s], _, _, hd3, by rw [List.length_append, List.length_append, List.length_singleton, List.length_singleton]; omega, by omega⟩, xf_tr xf_mwf (xf_yf hf4)⟩ rfl
    · rw [if_neg hL]
      have v1 := g22 h3 hL
      have hv := tV_in h3
      have hL2 : ¬ 4 < ((tE b n q : Nat) : Int) - (tS b n q : Nat) := hL
      have hcd : cod [tV b n q] = [1, tV b n q] := by rw [cod_c, if_pos hv.1]; rfl
      refine x_ofW (by decide +kernel) hl (by simp [Value.category]) (by simp) ?_
      refine x_aload_n dX12_part_0 x_get_2_0 ?_
      refine x_callV (As := []) dX12_part_1 w_12_176 (m_good hl hM h14) (by assumption) (by assumption) rfl rfl (Nat.le_of_ble_eq_true rfl) (Nat.le_of_ble_eq_true rfl) (Nat.le_of_ble_eq_true rfl) (Nat.le_of_ble_eq_true rfl) (Nat.le_of_ble_eq_true rfl) ?_
      intro d hd
      obtain rfl := Eq.symm hd
      refine r_if_ne (t := 8) dX12_part_4 rfl ⟨by omega, by omega⟩ (fun hc4 => ?_) (fun hc4 => absurd hc4 (by omega))
      refine x_aload_n dX12_part_8 x_get_2_0 ?_
      refine x_getI 19 dX12_part_9 fX_12_150 rfl n62 s62 (by rfl) ?_
      try simp (disch := decide) only [x_up_s, x_up_n, x_up_up, x_u1_s, x_u1_n, f19, g21, v2]
      refine x_iconst dX12_part_12 ?_
      refine r_icmp_ne (t := 45) dX12_part_13 rfl ⟨by omega, by omega⟩ ⟨by omega, by omega⟩ (fun hc13 => absurd hc13 (by omega)) (fun hc13 => ?_)
      refine x_aload_n dX12_part_16 x_get_2_0 ?_
      refine x_getI 21 dX12_part_17 fX_12_160 rfl n62 s62 (by rfl) ?_
      try simp (disch := decide) only [x_up_s, x_up_n, x_up_up, x_u1_s, x_u1_n, f19, g21, v2]
      refine x_iconst dX12_part_20 ?_
      refine r_icmp_le (t := 29) dX12_part_21 rfl ⟨by omega, by omega⟩ ⟨by omega, by omega⟩ (fun hc21 => ?_) (fun hc21 => absurd hc21 (by omega))
      refine x_aload_n dX12_part_29 x_get_2_0 ?_
      refine x_iconst dX12_part_30 ?_
      refine x_callV (As := [_]) dX12_part_31 w_12_201 (m_puts hl hM hk (by omega)) (by assumption) (by assumption) rfl rfl (Nat.le_of_ble_eq_true rfl) (Nat.le_of_ble_eq_true rfl) (Nat.le_of_ble_eq_true rfl) (Nat.le_of_ble_eq_true rfl) (Nat.le_of_ble_eq_true rfl) ?_
      rintro d2 ⟨hd2, hf2⟩
      have v2 : d2 62 22 = tV b n q := by rw [hf2.2 22 (by decide) (by decide)]; exact v1
      refine x_aload_n dX12_part_34 x_get_2_0 ?_
      refine x_aload_n dX12_part_35 x_get_2_0 ?_
      refine x_getI 22 dX12_part_36 fX_12_144 rfl n62 s62 (by rfl) ?_
      try simp (disch := decide) only [x_up_s, x_up_n, x_up_up, x_u1_s, x_u1_n, f19, g21, v2]
      refine x_callV (As := [_]) dX12_part_39 w_12_201 (m_puts hl hM hd2 (by rw [List.length_append, List.length_singleton]; omega)) (by assumption) (by assumption) rfl rfl (Nat.le_of_ble_eq_true rfl) (Nat.le_of_ble_eq_true rfl) (Nat.le_of_ble_eq_true rfl) (Nat.le_of_ble_eq_true rfl) (Nat.le_of_ble_eq_true rfl) ?_
      rintro d3 ⟨hd3, hf3⟩
      have hf4 := yf_tr hf2 hf3
      have hg3 := yf_gs hg hf4
      have hb14 : d3 62 14 = 0 := by rw [hf4.2 14 (by decide) (by decide)]; exact h14
      refine x_goto (t := 90) dX12_part_42 rfl ?_
      refine x_aload_n dX12_part_90 x_get_2_0 ?_
      refine x_callV (As := []) dX12_part_91 w_12_176 (m_good hl hM hb14) (by assumption) (by assumption) rfl rfl (Nat.le_of_ble_eq_true rfl) (Nat.le_of_ble_eq_true rfl) (Nat.le_of_ble_eq_true rfl) (Nat.le_of_ble_eq_true rfl) (Nat.le_of_ble_eq_true rfl) ?_
      intro d hd
      obtain rfl := Eq.symm hd
      refine r_if_eq (t := 101) dX12_part_94 rfl ⟨by omega, by omega⟩ (fun hc94 => absurd hc94 (by omega)) (fun hc94 => ?_)
      refine x_aload_n dX12_part_97 x_get_2_0 ?_
      refine x_callV (As := []) dX12_part_98 w_12_180 (m_goes hl hM hg3.1 e2 hg3.2.2.1) (by assumption) (by assumption) rfl rfl (Nat.le_of_ble_eq_true rfl) (Nat.le_of_ble_eq_true rfl) (Nat.le_of_ble_eq_true rfl) (Nat.le_of_ble_eq_true rfl) (Nat.le_of_ble_eq_true rfl) ?_
      rintro d4 ⟨hg4, hgf4⟩
      have hk4 := gf_yk hd3 hgf4
      exact x_vret dX12_part_101 rfl (Nat.le_of_ble_eq_true rfl) (Nat.le_of_ble_eq_true rfl) rfl rfl rfl (fin _ d4 (by omega) (by rw [hcd]; rfl) hg4 (xf_tr (xf_yf hf4) (xf_gf hgf4)) (by rw [hgf4.2 14 (by decide)]; exact hb14) (by rw [cod_app, hcd]; simpa [List.append_assoc] using hk4) (by rw [hgf4.2 31 (by decide)]; exact hf4.2 31 (by decide) (by decide)) (by rw [hgf4.1 81 (by decide)]; exact hf4.1 81 (by decide) (by decide) (by decide))) rfl
  · rw [if_neg h3]
    by_cases h2 : tK b n q = 2
    · rw [if_pos h2]
      have hup := tE_w hqn (show ¬ tK b n q = 0 by omega)
      have f19 : D 62 19 = 1 := by rw [g19]; exact s1.mpr h2
      have hkn := m_known (X := X) (l := l) hl hM hg
      have hvi := kw_vs (b := b) (n := n) (q := q)
      have hki2 := kw_in (b := b) (n := n) (q := q)
      by_cases h5 : r_vs b n q = -16
      · rw [if_pos h5]
        have hno := hvi.1.mp h5
        have hkw := mwf_yk (w := 3) (s := (tS b n q : Nat)) hk
        refine x_ofW (by decide +kernel) hl (by simp [Value.category]) (by simp) ?_
        refine x_aload_n dX12_part_0 x_get_2_0 ?_
        refine x_callV (As := []) dX12_part_1 w_12_176 (m_good hl hM h14) (by assumption) (by assumption) rfl rfl (Nat.le_of_ble_eq_true rfl) (Nat.le_of_ble_eq_true rfl) (Nat.le_of_ble_eq_true rfl) (Nat.le_of_ble_eq_true rfl) (Nat.le_of_ble_eq_true rfl) ?_
        intro d hd
        obtain rfl := Eq.symm hd
        refine r_if_ne (t := 8) dX12_part_4 rfl ⟨by omega, by omega⟩ (fun hc4 => ?_) (fun hc4 => absurd hc4 (by omega))
        refine x_aload_n dX12_part_8 x_get_2_0 ?_
        refine x_getI 19 dX12_part_9 fX_12_150 rfl n62 s62 (by rfl) ?_
        try simp (disch := decide) only [x_up_s, x_up_n, x_up_up, x_u1_s, x_u1_n, f19]
        refine x_iconst dX12_part_12 ?_
        refine r_icmp_ne (t := 45) dX12_part_13 rfl ⟨by omega, by omega⟩ ⟨by omega, by omega⟩ (fun hc13 => ?_) (fun hc13 => absurd hc13 (by omega))
        refine x_aload_n dX12_part_45 x_get_2_0 ?_
        refine x_getI 19 dX12_part_46 fX_12_150 rfl n62 s62 (by rfl) ?_
        try simp (disch := decide) only [x_up_s, x_up_n, x_up_up, x_u1_s, x_u1_n, f19]
        refine x_iconst dX12_part_49 ?_
        refine r_icmp_ne (t := 85) dX12_part_50 rfl ⟨by omega, by omega⟩ ⟨by omega, by omega⟩ (fun hc50 => absurd hc50 (by omega)) (fun hc50 => ?_)
        refine x_aload_n dX12_part_53 x_get_2_0 ?_
        refine x_callV (As := []) dX12_part_54 w_12_204 (hkn) (by assumption) (by assumption) rfl rfl (Nat.le_of_ble_eq_true rfl) (Nat.le_of_ble_eq_true rfl) (Nat.le_of_ble_eq_true rfl) (Nat.le_of_ble_eq_true rfl) (Nat.le_of_ble_eq_true rfl) ?_
        intro d hd
        obtain rfl := Eq.symm hd
        refine x_istore_n dX12_part_57 (Nat.le_of_ble_eq_true rfl) rfl x_set_2_1 ?_
        refine x_iload_n dX12_part_58 x_get_2_1 ?_
        refine r_if_lt (t := 67) dX12_part_59 rfl ⟨by omega, by omega⟩ (fun hc59 => ?_) (fun hc59 => ?_)
        · refine x_aload_n dX12_part_67 x_get_2_0 ?_
          refine x_iconst dX12_part_68 ?_
          refine x_callV (As := [_]) dX12_part_69 w_12_183 (m_wrong hl hM hg h14) (by assumption) (by assumption) rfl rfl (Nat.le_of_ble_eq_true rfl) (Nat.le_of_ble_eq_true rfl) (Nat.le_of_ble_eq_true rfl) (Nat.le_of_ble_eq_true rfl) (Nat.le_of_ble_eq_true rfl) ?_
          intro d hd
          obtain rfl := Eq.symm hd
          refine x_aload_n dX12_part_72 x_get_2_0 ?_
          refine x_iconst dX12_part_73 ?_
          refine x_callV (As := [_]) dX12_part_74 w_12_201 (m_puts hl hM hkw (by omega)) (by assumption) (by assumption) rfl rfl (Nat.le_of_ble_eq_true rfl) (Nat.le_of_ble_eq_true rfl) (Nat.le_of_ble_eq_true rfl) (Nat.le_of_ble_eq_true rfl) (Nat.le_of_ble_eq_true rfl) ?_
          rintro d2 ⟨hd2, hf2⟩
          refine x_aload_n dX12_part_77 x_get_2_0 ?_
          refine x_iload_n dX12_part_78 x_get_2_1 ?_
          refine x_callV (As := [_]) dX12_part_79 w_12_201 (m_puts hl hM hd2 (by rw [List.length_append, List.length_singleton]; omega)) (by assumption) (by assumption) rfl rfl (Nat.le_of_ble_eq_true rfl) (Nat.le_of_ble_eq_true rfl) (Nat.le_of_ble_eq_true rfl) (Nat.le_of_ble_eq_true rfl) (Nat.le_of_ble_eq_true rfl) ?_
          rintro d3 ⟨hd3, hf3⟩
          have hf4 := yf_tr hf2 hf3
          have hb14 : d3 62 14 = 3 := by rw [hf4.2 14 (by decide) (by decide)]; exact mwf_14
          refine x_goto (t := 90) dX12_part_82 rfl ?_
          refine x_aload_n dX12_part_90 x_get_2_0 ?_
          refine x_callV (As := []) dX12_part_91 w_12_176 (m_goodF hl hM hb14 (by decide)) (by assumption) (by assumption) rfl rfl (Nat.le_of_ble_eq_true rfl) (Nat.le_of_ble_eq_true rfl) (Nat.le_of_ble_eq_true rfl) (Nat.le_of_ble_eq_true rfl) (Nat.le_of_ble_eq_true rfl) ?_
          intro d hd
          obtain rfl := Eq.symm hd
          refine r_if_eq (t := 101) dX12_part_94 rfl ⟨by omega, by omega⟩ (fun hc94 => ?_) (fun hc94 => absurd hc94 (by omega))
          exact x_vret dX12_part_101 rfl (Nat.le_of_ble_eq_true rfl) (Nat.le_of_ble_eq_true rfl) rfl rfl rfl ⟨⟨hb14, by rw [hf4.2 15 (by decide) (by decide)]; unfold mwf; rw [x_up_s, x_u1_s], _, _, hd3, by rw [List.length_append, List.length_append, List.length_singleton, List.length_singleton]; omega, by omega⟩, xf_tr xf_mwf (xf_yf hf4)⟩ rfl
        · refine x_iload_n dX12_part_62 x_get_2_1 ?_
          refine x_iconst dX12_part_63 ?_
          refine r_icmp_le (t := 72) dX12_part_64 rfl ⟨by omega, by omega⟩ ⟨by omega, by omega⟩ (fun hc64 => absurd hc64 (by omega)) (fun hc64 => ?_)
          refine x_aload_n dX12_part_67 x_get_2_0 ?_
          refine x_iconst dX12_part_68 ?_
          refine x_callV (As := [_]) dX12_part_69 w_12_183 (m_wrong hl hM hg h14) (by assumption) (by assumption) rfl rfl (Nat.le_of_ble_eq_true rfl) (Nat.le_of_ble_eq_true rfl) (Nat.le_of_ble_eq_true rfl) (Nat.le_of_ble_eq_true rfl) (Nat.le_of_ble_eq_true rfl) ?_
          intro d hd
          obtain rfl := Eq.symm hd
          refine x_aload_n dX12_part_72 x_get_2_0 ?_
          refine x_iconst dX12_part_73 ?_
          refine x_callV (As := [_]) dX12_part_74 w_12_201 (m_puts hl hM hkw (by omega)) (by assumption) (by assumption) rfl rfl (Nat.le_of_ble_eq_true rfl) (Nat.le_of_ble_eq_true rfl) (Nat.le_of_ble_eq_true rfl) (Nat.le_of_ble_eq_true rfl) (Nat.le_of_ble_eq_true rfl) ?_
          rintro d2 ⟨hd2, hf2⟩
          refine x_aload_n dX12_part_77 x_get_2_0 ?_
          refine x_iload_n dX12_part_78 x_get_2_1 ?_
          refine x_callV (As := [_]) dX12_part_79 w_12_201 (m_puts hl hM hd2 (by rw [List.length_append, List.length_singleton]; omega)) (by assumption) (by assumption) rfl rfl (Nat.le_of_ble_eq_true rfl) (Nat.le_of_ble_eq_true rfl) (Nat.le_of_ble_eq_true rfl) (Nat.le_of_ble_eq_true rfl) (Nat.le_of_ble_eq_true rfl) ?_
          rintro d3 ⟨hd3, hf3⟩
          have hf4 := yf_tr hf2 hf3
          have hb14 : d3 62 14 = 3 := by rw [hf4.2 14 (by decide) (by decide)]; exact mwf_14
          refine x_goto (t := 90) dX12_part_82 rfl ?_
          refine x_aload_n dX12_part_90 x_get_2_0 ?_
          refine x_callV (As := []) dX12_part_91 w_12_176 (m_goodF hl hM hb14 (by decide)) (by assumption) (by assumption) rfl rfl (Nat.le_of_ble_eq_true rfl) (Nat.le_of_ble_eq_true rfl) (Nat.le_of_ble_eq_true rfl) (Nat.le_of_ble_eq_true rfl) (Nat.le_of_ble_eq_true rfl) ?_
          intro d hd
          obtain rfl := Eq.symm hd
          refine r_if_eq (t := 101) dX12_part_94 rfl ⟨by omega, by omega⟩ (fun hc94 => ?_) (fun hc94 => absurd hc94 (by omega))
          exact x_vret dX12_part_101 rfl (Nat.le_of_ble_eq_true rfl) (Nat.le_of_ble_eq_true rfl) rfl rfl rfl ⟨⟨hb14, by rw [hf4.2 15 (by decide) (by decide)]; unfold mwf; rw [x_up_s, x_u1_s], _, _, hd3, by rw [List.length_append, List.length_append, List.length_singleton, List.length_singleton]; omega, by omega⟩, xf_tr xf_mwf (xf_yf hf4)⟩ rfl
      · rw [if_neg h5]
        obtain ⟨u1, u2, u3⟩ := hvi.2 h5
        have hcd : cod [r_vs b n q] = [2, kw b n q] := by rw [cod_c, if_neg (by omega), if_pos (by omega), u3]; rfl
        refine x_ofW (by decide +kernel) hl (by simp [Value.category]) (by simp) ?_
        refine x_aload_n dX12_part_0 x_get_2_0 ?_
        refine x_callV (As := []) dX12_part_1 w_12_176 (m_good hl hM h14) (by assumption) (by assumption) rfl rfl (Nat.le_of_ble_eq_true rfl) (Nat.le_of_ble_eq_true rfl) (Nat.le_of_ble_eq_true rfl) (Nat.le_of_ble_eq_true rfl) (Nat.le_of_ble_eq_true rfl) ?_
        intro d hd
        obtain rfl := Eq.symm hd
        refine r_if_ne (t := 8) dX12_part_4 rfl ⟨by omega, by omega⟩ (fun hc4 => ?_) (fun hc4 => absurd hc4 (by omega))
        refine x_aload_n dX12_part_8 x_get_2_0 ?_
        refine x_getI 19 dX12_part_9 fX_12_150 rfl n62 s62 (by rfl) ?_
        try simp (disch := decide) only [x_up_s, x_up_n, x_up_up, x_u1_s, x_u1_n, f19]
        refine x_iconst dX12_part_12 ?_
        refine r_icmp_ne (t := 45) dX12_part_13 rfl ⟨by omega, by omega⟩ ⟨by omega, by omega⟩ (fun hc13 => ?_) (fun hc13 => absurd hc13 (by omega))
        refine x_aload_n dX12_part_45 x_get_2_0 ?_
        refine x_getI 19 dX12_part_46 fX_12_150 rfl n62 s62 (by rfl) ?_
        try simp (disch := decide) only [x_up_s, x_up_n, x_up_up, x_u1_s, x_u1_n, f19]
        refine x_iconst dX12_part_49 ?_
        refine r_icmp_ne (t := 85) dX12_part_50 rfl ⟨by omega, by omega⟩ ⟨by omega, by omega⟩ (fun hc50 => absurd hc50 (by omega)) (fun hc50 => ?_)
        refine x_aload_n dX12_part_53 x_get_2_0 ?_
        refine x_callV (As := []) dX12_part_54 w_12_204 (hkn) (by assumption) (by assumption) rfl rfl (Nat.le_of_ble_eq_true rfl) (Nat.le_of_ble_eq_true rfl) (Nat.le_of_ble_eq_true rfl) (Nat.le_of_ble_eq_true rfl) (Nat.le_of_ble_eq_true rfl) ?_
        intro d hd
        obtain rfl := Eq.symm hd
        refine x_istore_n dX12_part_57 (Nat.le_of_ble_eq_true rfl) rfl x_set_2_1 ?_
        refine x_iload_n dX12_part_58 x_get_2_1 ?_
        refine r_if_lt (t := 67) dX12_part_59 rfl ⟨by omega, by omega⟩ (fun hc59 => absurd hc59 (by omega)) (fun hc59 => ?_)
        refine x_iload_n dX12_part_62 x_get_2_1 ?_
        refine x_iconst dX12_part_63 ?_
        refine r_icmp_le (t := 72) dX12_part_64 rfl ⟨by omega, by omega⟩ ⟨by omega, by omega⟩ (fun hc64 => ?_) (fun hc64 => absurd hc64 (by omega))
        refine x_aload_n dX12_part_72 x_get_2_0 ?_
        refine x_iconst dX12_part_73 ?_
        refine x_callV (As := [_]) dX12_part_74 w_12_201 (m_puts hl hM hk (by omega)) (by assumption) (by assumption) rfl rfl (Nat.le_of_ble_eq_true rfl) (Nat.le_of_ble_eq_true rfl) (Nat.le_of_ble_eq_true rfl) (Nat.le_of_ble_eq_true rfl) (Nat.le_of_ble_eq_true rfl) ?_
        rintro d2 ⟨hd2, hf2⟩
        refine x_aload_n dX12_part_77 x_get_2_0 ?_
        refine x_iload_n dX12_part_78 x_get_2_1 ?_
        refine x_callV (As := [_]) dX12_part_79 w_12_201 (m_puts hl hM hd2 (by rw [List.length_append, List.length_singleton]; omega)) (by assumption) (by assumption) rfl rfl (Nat.le_of_ble_eq_true rfl) (Nat.le_of_ble_eq_true rfl) (Nat.le_of_ble_eq_true rfl) (Nat.le_of_ble_eq_true rfl) (Nat.le_of_ble_eq_true rfl) ?_
        rintro d3 ⟨hd3, hf3⟩
        have hf4 := yf_tr hf2 hf3
        have hg3 := yf_gs hg hf4
        have hb14 : d3 62 14 = 0 := by rw [hf4.2 14 (by decide) (by decide)]; exact h14
        refine x_goto (t := 90) dX12_part_82 rfl ?_
        refine x_aload_n dX12_part_90 x_get_2_0 ?_
        refine x_callV (As := []) dX12_part_91 w_12_176 (m_good hl hM hb14) (by assumption) (by assumption) rfl rfl (Nat.le_of_ble_eq_true rfl) (Nat.le_of_ble_eq_true rfl) (Nat.le_of_ble_eq_true rfl) (Nat.le_of_ble_eq_true rfl) (Nat.le_of_ble_eq_true rfl) ?_
        intro d hd
        obtain rfl := Eq.symm hd
        refine r_if_eq (t := 101) dX12_part_94 rfl ⟨by omega, by omega⟩ (fun hc94 => absurd hc94 (by omega)) (fun hc94 => ?_)
        refine x_aload_n dX12_part_97 x_get_2_0 ?_
        refine x_callV (As := []) dX12_part_98 w_12_180 (m_goes hl hM hg3.1 e2 hg3.2.2.1) (by assumption) (by assumption) rfl rfl (Nat.le_of_ble_eq_true rfl) (Nat.le_of_ble_eq_true rfl) (Nat.le_of_ble_eq_true rfl) (Nat.le_of_ble_eq_true rfl) (Nat.le_of_ble_eq_true rfl) ?_
        rintro d4 ⟨hg4, hgf4⟩
        have hk4 := gf_yk hd3 hgf4
        exact x_vret dX12_part_101 rfl (Nat.le_of_ble_eq_true rfl) (Nat.le_of_ble_eq_true rfl) rfl rfl rfl (fin _ d4 (by omega) (by rw [hcd]; rfl) hg4 (xf_tr (xf_yf hf4) (xf_gf hgf4)) (by rw [hgf4.2 14 (by decide)]; exact hb14) (by rw [cod_app, hcd]; simpa [List.append_assoc] using hk4) (by rw [hgf4.2 31 (by decide)]; exact hf4.2 31 (by decide) (by decide)) (by rw [hgf4.1 81 (by decide)]; exact hf4.1 81 (by decide) (by decide) (by decide))) rfl
    · rw [if_neg h2]
      refine x_ofW (by decide +kernel) hl (by simp [Value.category]) (by simp) ?_
      refine x_aload_n dX12_part_0 x_get_2_0 ?_
      refine x_callV (As := []) dX12_part_1 w_12_176 (m_good hl hM h14) (by assumption) (by assumption) rfl rfl (Nat.le_of_ble_eq_true rfl) (Nat.le_of_ble_eq_true rfl) (Nat.le_of_ble_eq_true rfl) (Nat.le_of_ble_eq_true rfl) (Nat.le_of_ble_eq_true rfl) ?_
      intro d hd
      obtain rfl := Eq.symm hd
      refine r_if_ne (t := 8) dX12_part_4 rfl ⟨by omega, by omega⟩ (fun hc4 => ?_) (fun hc4 => absurd hc4 (by omega))
      refine x_aload_n dX12_part_8 x_get_2_0 ?_
      refine x_getI 19 dX12_part_9 fX_12_150 rfl n62 s62 (by rfl) ?_
      try simp (disch := decide) only [x_up_s, x_up_n, x_up_up, x_u1_s, x_u1_n, g19]
      refine x_iconst dX12_part_12 ?_
      refine r_icmp_ne (t := 45) dX12_part_13 rfl ⟨by omega, by omega⟩ ⟨by omega, by omega⟩ (fun hc13 => ?_) (fun hc13 => absurd hc13 (fun h => h3 (s2.mp (by omega))))
      refine x_aload_n dX12_part_45 x_get_2_0 ?_
      refine x_getI 19 dX12_part_46 fX_12_150 rfl n62 s62 (by rfl) ?_
      try simp (disch := decide) only [x_up_s, x_up_n, x_up_up, x_u1_s, x_u1_n, g19]
      refine x_iconst dX12_part_49 ?_
      refine r_icmp_ne (t := 85) dX12_part_50 rfl ⟨by omega, by omega⟩ ⟨by omega, by omega⟩ (fun hc50 => ?_) (fun hc50 => absurd hc50 (fun h => h2 (s1.mp (by omega))))
      refine x_aload_n dX12_part_85 x_get_2_0 ?_
      refine x_iconst dX12_part_86 ?_
      refine x_callV (As := [_]) dX12_part_87 w_12_183 (m_wrong hl hM hg h14) (by assumption) (by assumption) rfl rfl (Nat.le_of_ble_eq_true rfl) (Nat.le_of_ble_eq_true rfl) (Nat.le_of_ble_eq_true rfl) (Nat.le_of_ble_eq_true rfl) (Nat.le_of_ble_eq_true rfl) ?_
      intro d hd
      obtain rfl := Eq.symm hd
      refine x_aload_n dX12_part_90 x_get_2_0 ?_
      refine x_callV (As := []) dX12_part_91 w_12_176 (m_goodF hl hM mwf_14 (by decide)) (by assumption) (by assumption) rfl rfl (Nat.le_of_ble_eq_true rfl) (Nat.le_of_ble_eq_true rfl) (Nat.le_of_ble_eq_true rfl) (Nat.le_of_ble_eq_true rfl) (Nat.le_of_ble_eq_true rfl) ?_
      intro d hd
      obtain rfl := Eq.symm hd
      refine r_if_eq (t := 101) dX12_part_94 rfl ⟨by omega, by omega⟩ (fun hc94 => ?_) (fun hc94 => absurd hc94 (by omega))
      exact x_vret dX12_part_101 rfl (Nat.le_of_ble_eq_true rfl) (Nat.le_of_ble_eq_true rfl) rfl rfl rfl ⟨ym_wr hy, xf_mwf⟩ rfl
theorem m_partF {X : xC} {l : Launch} (hl : l.stackTraces = false) {N : Nat} {sh : xS} {D : xM} (hM : is_Md N sh) {k : Int} (h14 : D 62 14 = k) (hk : 1 ≤ k ∧ k ≤ 5) : x_M X l yX12_part cX12_part 2 (none) 3 0 0 [.ref (x_b X + 62)] false N sh D (.inl none) false N sh (x_is (D)) := by
  have s62 := md_62 hM
  have n62 : 62 < N := md_n hM (by decide)
  refine x_ofW (by decide +kernel) hl (by simp [Value.category]) (by simp) ?_
  refine x_aload_n dX12_part_0 x_get_2_0 ?_
  refine x_callV (As := []) dX12_part_1 w_12_176 (m_goodF hl hM h14 hk) (by assumption) (by assumption) rfl rfl (Nat.le_of_ble_eq_true rfl) (Nat.le_of_ble_eq_true rfl) (Nat.le_of_ble_eq_true rfl) (Nat.le_of_ble_eq_true rfl) (Nat.le_of_ble_eq_true rfl) ?_
  intro d hd
  obtain rfl := Eq.symm hd
  refine r_if_ne (t := 8) dX12_part_4 rfl ⟨by omega, by omega⟩ (fun hc4 => absurd hc4 (by omega)) (fun hc4 => ?_)
  exact x_vret dX12_part_7 rfl (Nat.le_of_ble_eq_true rfl) (Nat.le_of_ble_eq_true rfl) rfl rfl rfl rfl rfl
theorem m_deeperT {X : xC} {l : Launch} (hl : l.stackTraces = false) {N : Nat} {sh : xS} {D : xM} (hM : is_Md N sh) {b : Int → Int} {n q : Nat} {F : List Bool} (hg : gs b n q D) (h14 : D 62 14 = 0) (h31 : D 62 31 = (F.length : Nat)) (hfk : fk F (D 81)) (h6 : F.length < 6) : x_M X l yX12_deeper cX12_deeper 1 (none) 1 0 0 [.ref (x_b X + 62)] false N sh D (.inl none) false N sh (fun d => d 62 31 = ((F.length : Nat) : Int) + 1 ∧ fk (false :: F) (d 81) ∧ (∀ j, j ≠ 62 → j ≠ 81 → d j = D j) ∧ ∀ i, i ≠ 31 → d 62 i = D 62 i) := by
  have s62 := md_62 hM
  have n62 : 62 < N := md_n hM (by decide)
  have s81 := md_81 hM
  have n81 : 81 < N := md_n hM (by decide)
  refine x_ofW (by decide +kernel) hl (by simp [Value.category]) (by simp) ?_
  refine x_aload_n dX12_deeper_0 x_get_1_0 ?_
  refine x_getI 31 dX12_deeper_1 fX_12_208 rfl n62 s62 (by rfl) ?_
  try simp (disch := decide) only [x_up_s, x_up_n, x_up_up, x_u1_s, x_u1_n, h31]
  refine x_bipush dX12_deeper_4 rfl ?_
  refine r_icmp_ge (t := 30) dX12_deeper_6 rfl ⟨by omega, by omega⟩ ⟨by omega, by omega⟩ (fun hc6 => absurd hc6 (by omega)) (fun hc6 => ?_)
  refine x_aload_n dX12_deeper_9 x_get_1_0 ?_
  refine x_dup dX12_deeper_10 rfl ?_
  refine x_getI 31 dX12_deeper_11 fX_12_208 rfl n62 s62 (by rfl) ?_
  try simp (disch := decide) only [x_up_s, x_up_n, x_up_up, x_u1_s, x_u1_n, h31]
  refine x_iconst dX12_deeper_14 ?_
  refine x_iadd dX12_deeper_15 ?_
  refine x_putI 31 dX12_deeper_16 fX_12_208 rfl tX_12_31 n62 s62 (by rfl) ?_
  try simp (disch := decide) only [x_up_s, x_up_n, x_up_up, x_u1_s, x_u1_n, h31]
  refine x_aload_n dX12_deeper_19 x_get_1_0 ?_
  refine x_getR dX12_deeper_20 fX_12_71 n62 s62 (by rfl) ?_
  refine x_aload_n dX12_deeper_23 x_get_1_0 ?_
  refine x_getI 31 dX12_deeper_24 fX_12_208 rfl n62 s62 (by rfl) ?_
  try simp (disch := decide) only [x_up_s, x_up_n, x_up_up, x_u1_s, x_u1_n, h31]
  refine x_iconst dX12_deeper_27 ?_
  refine x_zast dX12_deeper_28 n81 s81 (by omega) (by omega) (by decide) (by omega) ?_
  try simp (disch := decide) only [x_up_s, x_up_n, x_up_up, x_u1_s, x_u1_n, h31]
  exact x_vret dX12_deeper_29 rfl (Nat.le_of_ble_eq_true rfl) (Nat.le_of_ble_eq_true rfl) rfl rfl rfl ⟨by rw [x_up_n (by decide), x_up_s, x_u1_s], ⟨by rw [x_up_s, x_u1_s]; rfl, fk_cg hfk (fun i a1 a2 => by rw [x_up_s, x_u1_n (by omega)])⟩, fun j a b => by rw [x_up_n b, x_up_n a], fun i a => by rw [x_up_n (by decide), x_up_s, x_u1_n a]⟩ rfl
theorem m_deeperN {X : xC} {l : Launch} (hl : l.stackTraces = false) {N : Nat} {sh : xS} {D : xM} (hM : is_Md N sh) {b : Int → Int} {n q : Nat} {F : List Bool} (hg : gs b n q D) (h14 : D 62 14 = 0) (h31 : D 62 31 = (F.length : Nat)) (hfk : fk F (D 81)) (h6 : F.length = 6) : x_M X l yX12_deeper cX12_deeper 1 (none) 1 0 0 [.ref (x_b X + 62)] false N sh D (.inl none) false N sh (x_is (mwf (if tK b n q = 3 ∨ tK b n q = 2 ∨ tM b n q 40 then 2 else 1) (tS b n q : Nat) D)) := by
  have s62 := md_62 hM
  have n62 : 62 < N := md_n hM (by decide)
  have s81 := md_81 hM
  have n81 : 81 < N := md_n hM (by decide)
  obtain ⟨ht, hqn, g18, g20, g19, g21, g22, g23, g24⟩ := id hg
  have hki := tK_in (b := b) (n := n) (q := q)
  obtain ⟨s0, s1, s2, s3, s4, s5⟩ := m_so_w (b := b) (n := n) (q := q)
  have h31' : D 62 31 = 6 := by rw [h31, h6]; rfl
  by_cases h3 : tK b n q = 3
  · have f := s2.mpr h3
    rw [show (if tK b n q = 3 ∨ tK b n q = 2 ∨ tM b n q 40 then (2 : Int) else 1) = 2 from if_pos (Or.inl h3)]
    refine x_ofW (by decide +kernel) hl (by simp [Value.category]) (by simp) ?_
    refine x_aload_n dX12_deeper_0 x_get_1_0 ?_
    refine x_getI 31 dX12_deeper_1 fX_12_208 rfl n62 s62 (by rfl) ?_
    try simp (disch := decide) only [x_up_s, x_up_n, x_up_up, x_u1_s, x_u1_n, h31', g19]
    refine x_bipush dX12_deeper_4 rfl ?_
    refine r_icmp_ge (t := 30) dX12_deeper_6 rfl ⟨by omega, by omega⟩ ⟨by omega, by omega⟩ (fun hc6 => ?_) (fun hc6 => absurd hc6 (by omega))
    refine x_aload_n dX12_deeper_30 x_get_1_0 ?_
    refine x_aload_n dX12_deeper_31 x_get_1_0 ?_
    refine x_getI 19 dX12_deeper_32 fX_12_150 rfl n62 s62 (by rfl) ?_
    try simp (disch := decide) only [x_up_s, x_up_n, x_up_up, x_u1_s, x_u1_n, h31', g19]
    refine x_iconst dX12_deeper_35 ?_
    refine r_icmp_eq (t := 56) dX12_deeper_36 rfl ⟨by omega, by omega⟩ ⟨by omega, by omega⟩ (fun hc36 => ?_) (fun hc36 => absurd hc36 (by omega))
    refine x_iconst dX12_deeper_56 ?_
    refine x_goto (t := 61) dX12_deeper_57 rfl ?_
    refine x_callV (As := [_]) dX12_deeper_61 w_12_183 (m_wrong hl hM hg h14) (by assumption) (by assumption) rfl rfl (Nat.le_of_ble_eq_true rfl) (Nat.le_of_ble_eq_true rfl) (Nat.le_of_ble_eq_true rfl) (Nat.le_of_ble_eq_true rfl) (Nat.le_of_ble_eq_true rfl) ?_
    intro d hd
    obtain rfl := Eq.symm hd
    exact x_vret dX12_deeper_64 rfl (Nat.le_of_ble_eq_true rfl) (Nat.le_of_ble_eq_true rfl) rfl rfl rfl rfl rfl
  · have f : ¬ m_so (tK b n q) = 2 := fun h => h3 (s2.mp h)
    by_cases h2 : tK b n q = 2
    · have f2 := s1.mpr h2
      rw [show (if tK b n q = 3 ∨ tK b n q = 2 ∨ tM b n q 40 then (2 : Int) else 1) = 2 from if_pos (Or.inr (Or.inl h2))]
      refine x_ofW (by decide +kernel) hl (by simp [Value.category]) (by simp) ?_
      refine x_aload_n dX12_deeper_0 x_get_1_0 ?_
      refine x_getI 31 dX12_deeper_1 fX_12_208 rfl n62 s62 (by rfl) ?_
      try simp (disch := decide) only [x_up_s, x_up_n, x_up_up, x_u1_s, x_u1_n, h31', g19]
      refine x_bipush dX12_deeper_4 rfl ?_
      refine r_icmp_ge (t := 30) dX12_deeper_6 rfl ⟨by omega, by omega⟩ ⟨by omega, by omega⟩ (fun hc6 => ?_) (fun hc6 => absurd hc6 (by omega))
      refine x_aload_n dX12_deeper_30 x_get_1_0 ?_
      refine x_aload_n dX12_deeper_31 x_get_1_0 ?_
      refine x_getI 19 dX12_deeper_32 fX_12_150 rfl n62 s62 (by rfl) ?_
      try simp (disch := decide) only [x_up_s, x_up_n, x_up_up, x_u1_s, x_u1_n, h31', g19]
      refine x_iconst dX12_deeper_35 ?_
      refine r_icmp_eq (t := 56) dX12_deeper_36 rfl ⟨by omega, by omega⟩ ⟨by omega, by omega⟩ (fun hc36 => absurd hc36 (by omega)) (fun hc36 => ?_)
      refine x_aload_n dX12_deeper_39 x_get_1_0 ?_
      refine x_getI 19 dX12_deeper_40 fX_12_150 rfl n62 s62 (by rfl) ?_
      try simp (disch := decide) only [x_up_s, x_up_n, x_up_up, x_u1_s, x_u1_n, h31', g19]
      refine x_iconst dX12_deeper_43 ?_
      refine r_icmp_eq (t := 56) dX12_deeper_44 rfl ⟨by omega, by omega⟩ ⟨by omega, by omega⟩ (fun hc44 => ?_) (fun hc44 => absurd hc44 (by omega))
      refine x_iconst dX12_deeper_56 ?_
      refine x_goto (t := 61) dX12_deeper_57 rfl ?_
      refine x_callV (As := [_]) dX12_deeper_61 w_12_183 (m_wrong hl hM hg h14) (by assumption) (by assumption) rfl rfl (Nat.le_of_ble_eq_true rfl) (Nat.le_of_ble_eq_true rfl) (Nat.le_of_ble_eq_true rfl) (Nat.le_of_ble_eq_true rfl) (Nat.le_of_ble_eq_true rfl) ?_
      intro d hd
      obtain rfl := Eq.symm hd
      exact x_vret dX12_deeper_64 rfl (Nat.le_of_ble_eq_true rfl) (Nat.le_of_ble_eq_true rfl) rfl rfl rfl rfl rfl
    · have f2 : ¬ m_so (tK b n q) = 1 := fun h => h2 (s1.mp h)
      by_cases h4 : tM b n q 40
      · skip
        rw [show (if tK b n q = 3 ∨ tK b n q = 2 ∨ tM b n q 40 then (2 : Int) else 1) = 2 from if_pos (Or.inr (Or.inr h4))]
        refine x_ofW (by decide +kernel) hl (by simp [Value.category]) (by simp) ?_
        refine x_aload_n dX12_deeper_0 x_get_1_0 ?_
        refine x_getI 31 dX12_deeper_1 fX_12_208 rfl n62 s62 (by rfl) ?_
        try simp (disch := decide) only [x_up_s, x_up_n, x_up_up, x_u1_s, x_u1_n, h31', g19]
        refine x_bipush dX12_deeper_4 rfl ?_
        refine r_icmp_ge (t := 30) dX12_deeper_6 rfl ⟨by omega, by omega⟩ ⟨by omega, by omega⟩ (fun hc6 => ?_) (fun hc6 => absurd hc6 (by omega))
        refine x_aload_n dX12_deeper_30 x_get_1_0 ?_
        refine x_aload_n dX12_deeper_31 x_get_1_0 ?_
        refine x_getI 19 dX12_deeper_32 fX_12_150 rfl n62 s62 (by rfl) ?_
        try simp (disch := decide) only [x_up_s, x_up_n, x_up_up, x_u1_s, x_u1_n, h31', g19]
        refine x_iconst dX12_deeper_35 ?_
        refine r_icmp_eq (t := 56) dX12_deeper_36 rfl ⟨by omega, by omega⟩ ⟨by omega, by omega⟩ (fun hc36 => absurd hc36 (by omega)) (fun hc36 => ?_)
        refine x_aload_n dX12_deeper_39 x_get_1_0 ?_
        refine x_getI 19 dX12_deeper_40 fX_12_150 rfl n62 s62 (by rfl) ?_
        try simp (disch := decide) only [x_up_s, x_up_n, x_up_up, x_u1_s, x_u1_n, h31', g19]
        refine x_iconst dX12_deeper_43 ?_
        refine r_icmp_eq (t := 56) dX12_deeper_44 rfl ⟨by omega, by omega⟩ ⟨by omega, by omega⟩ (fun hc44 => absurd hc44 (by omega)) (fun hc44 => ?_)
        refine x_aload_n dX12_deeper_47 x_get_1_0 ?_
        refine x_bipush dX12_deeper_48 rfl ?_
        refine x_callV (As := [_]) dX12_deeper_50 w_12_211 (m_sign hl hM hg ⟨by decide, by decide⟩) (by assumption) (by assumption) rfl rfl (Nat.le_of_ble_eq_true rfl) (Nat.le_of_ble_eq_true rfl) (Nat.le_of_ble_eq_true rfl) (Nat.le_of_ble_eq_true rfl) (Nat.le_of_ble_eq_true rfl) ?_
        intro d hd
        obtain rfl := Eq.symm hd
        refine b_ifeq (t := 60) dX12_deeper_53 rfl (fun hc53 => absurd hc53 (fun hh => hh h4)) (fun hc53 => ?_)
        refine x_iconst dX12_deeper_56 ?_
        refine x_goto (t := 61) dX12_deeper_57 rfl ?_
        refine x_callV (As := [_]) dX12_deeper_61 w_12_183 (m_wrong hl hM hg h14) (by assumption) (by assumption) rfl rfl (Nat.le_of_ble_eq_true rfl) (Nat.le_of_ble_eq_true rfl) (Nat.le_of_ble_eq_true rfl) (Nat.le_of_ble_eq_true rfl) (Nat.le_of_ble_eq_true rfl) ?_
        intro d hd
        obtain rfl := Eq.symm hd
        exact x_vret dX12_deeper_64 rfl (Nat.le_of_ble_eq_true rfl) (Nat.le_of_ble_eq_true rfl) rfl rfl rfl rfl rfl
      · skip
        rw [show (if tK b n q = 3 ∨ tK b n q = 2 ∨ tM b n q 40 then (2 : Int) else 1) = 1 from if_neg (fun h => h.elim h3 (fun h => h.elim h2 h4))]
        refine x_ofW (by decide +kernel) hl (by simp [Value.category]) (by simp) ?_
        refine x_aload_n dX12_deeper_0 x_get_1_0 ?_
        refine x_getI 31 dX12_deeper_1 fX_12_208 rfl n62 s62 (by rfl) ?_
        try simp (disch := decide) only [x_up_s, x_up_n, x_up_up, x_u1_s, x_u1_n, h31', g19]
        refine x_bipush dX12_deeper_4 rfl ?_
        refine r_icmp_ge (t := 30) dX12_deeper_6 rfl ⟨by omega, by omega⟩ ⟨by omega, by omega⟩ (fun hc6 => ?_) (fun hc6 => absurd hc6 (by omega))
        refine x_aload_n dX12_deeper_30 x_get_1_0 ?_
        refine x_aload_n dX12_deeper_31 x_get_1_0 ?_
        refine x_getI 19 dX12_deeper_32 fX_12_150 rfl n62 s62 (by rfl) ?_
        try simp (disch := decide) only [x_up_s, x_up_n, x_up_up, x_u1_s, x_u1_n, h31', g19]
        refine x_iconst dX12_deeper_35 ?_
        refine r_icmp_eq (t := 56) dX12_deeper_36 rfl ⟨by omega, by omega⟩ ⟨by omega, by omega⟩ (fun hc36 => absurd hc36 (by omega)) (fun hc36 => ?_)
        refine x_aload_n dX12_deeper_39 x_get_1_0 ?_
        refine x_getI 19 dX12_deeper_40 fX_12_150 rfl n62 s62 (by rfl) ?_
        try simp (disch := decide) only [x_up_s, x_up_n, x_up_up, x_u1_s, x_u1_n, h31', g19]
        refine x_iconst dX12_deeper_43 ?_
        refine r_icmp_eq (t := 56) dX12_deeper_44 rfl ⟨by omega, by omega⟩ ⟨by omega, by omega⟩ (fun hc44 => absurd hc44 (by omega)) (fun hc44 => ?_)
        refine x_aload_n dX12_deeper_47 x_get_1_0 ?_
        refine x_bipush dX12_deeper_48 rfl ?_
        refine x_callV (As := [_]) dX12_deeper_50 w_12_211 (m_sign hl hM hg ⟨by decide, by decide⟩) (by assumption) (by assumption) rfl rfl (Nat.le_of_ble_eq_true rfl) (Nat.le_of_ble_eq_true rfl) (Nat.le_of_ble_eq_true rfl) (Nat.le_of_ble_eq_true rfl) (Nat.le_of_ble_eq_true rfl) ?_
        intro d hd
        obtain rfl := Eq.symm hd
        refine b_ifeq (t := 60) dX12_deeper_53 rfl (fun hc53 => ?_) (fun hc53 => absurd hc53 (h4))
        refine x_iconst dX12_deeper_60 ?_
        refine x_callV (As := [_]) dX12_deeper_61 w_12_183 (m_wrong hl hM hg h14) (by assumption) (by assumption) rfl rfl (Nat.le_of_ble_eq_true rfl) (Nat.le_of_ble_eq_true rfl) (Nat.le_of_ble_eq_true rfl) (Nat.le_of_ble_eq_true rfl) (Nat.le_of_ble_eq_true rfl) ?_
        intro d hd
        obtain rfl := Eq.symm hd
        exact x_vret dX12_deeper_64 rfl (Nat.le_of_ble_eq_true rfl) (Nat.le_of_ble_eq_true rfl) rfl rfl rfl rfl rfl
end M9998
