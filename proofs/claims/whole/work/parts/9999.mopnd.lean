section M9999
/-! ===== the Model's operand ===== -/
theorem ym_mk {b : Int → Int} {n m q : Nat} {K O : List Int} {F : List Bool} {d : xM} (hg : gs b n q d) (h14 : d 62 14 = 0) (hk : yk K (cod O) d) (h31 : d 62 31 = (F.length : Nat)) (hf : fk F (d 81)) (hb : (cod O).length + K.length + 8 ≤ 2 * q) (hb2 : K.length ≤ q) (hz : F.length = zc K + 1) (h6 : F.length ≤ 6) : ym b n (m, q, K, O, F) d := ⟨hg, h14, hk, h31, hf, ⟨hb, hb2⟩, hz, h6⟩
def yq (b : Int → Int) (n : Nat) (s : Ys) (D d : xM) : Prop := xf D d ∧ ((∃ t : Ys, Rc b n s (.inr t) ∧ t.1 = 0 ∧ ym b n t d) ∨ ∃ z : Int × Nat, Rc b n s (.inl z) ∧ (1 ≤ z.1 ∧ z.1 ≤ 5) ∧ yx b n z d)
theorem y1_k {b : Int → Int} {n : Nat} {s : Ys} {z : Int × Nat} (h : y1 b n s = .inl z) : 1 ≤ z.1 ∧ z.1 ≤ 5 := by
  unfold y1 at h
  by_cases h1 : s.1 = 20
  · rw [if_pos h1] at h; cases h
  rw [if_neg h1] at h
  by_cases h2 : s.1 = 0
  · rw [if_pos h2] at h
    unfold y_lop at h
    repeat' split at h
    all_goals first | (cases h; done) | (cases h; (first | (show (1 : Int) ≤ 1 ∧ (1 : Int) ≤ 5; decide) | (show (1 : Int) ≤ 2 ∧ (2 : Int) ≤ 5; decide) | (show (1 : Int) ≤ 3 ∧ (3 : Int) ≤ 5; decide)))
  rw [if_neg h2] at h
  by_cases h3 : 2 ≤ s.1 ∧ tW b n s.2.1 7
  · rw [if_pos h3] at h
    split at h
    · cases h; (first | (show (1 : Int) ≤ 1 ∧ (1 : Int) ≤ 5; decide) | (show (1 : Int) ≤ 2 ∧ (2 : Int) ≤ 5; decide) | (show (1 : Int) ≤ 3 ∧ (3 : Int) ≤ 5; decide))
    · cases h
  rw [if_neg h3] at h
  by_cases h4 : tM b n s.2.1 40
  · rw [if_pos h4] at h
    unfold y_opn at h
    by_cases h5 : s.2.2.2.2.length < 6
    · rw [if_pos h5] at h; cases h
    · rw [if_neg h5] at h
      cases h
      show 1 ≤ (if _ then (2 : Int) else 1) ∧ (if _ then (2 : Int) else 1) ≤ 5
      split <;> decide
  · rw [if_neg h4] at h
    unfold y_prt at h
    repeat' split at h
    all_goals first | (cases h; done) | (cases h; (first | (show (1 : Int) ≤ 1 ∧ (1 : Int) ≤ 5; decide) | (show (1 : Int) ≤ 2 ∧ (2 : Int) ≤ 5; decide) | (show (1 : Int) ≤ 3 ∧ (3 : Int) ≤ 5; decide)))
theorem w_12_214 : x_cv RX12 214 yX12_waitsFor cX12_waitsFor 2 (none) 12 1 := ⟨⟨_, rfl, rfl⟩, (x_in 1634 (by decide +kernel) rfl), (x_in 1636 (by decide +kernel) rfl), (x_in 35 (by decide +kernel) rfl), (x_in 90 (by decide +kernel) rfl), (x_in 1637 (by decide +kernel) rfl), by decide, ⟨by decide +kernel, by decide +kernel, by decide +kernel⟩⟩
theorem w_12_217 : x_cv RX12 217 yX12_deeper cX12_deeper 1 (none) 12 0 := ⟨⟨_, rfl, rfl⟩, (x_in 1622 (by decide +kernel) rfl), (x_in 1624 (by decide +kernel) rfl), (x_in 32 (by decide +kernel) rfl), (x_in 90 (by decide +kernel) rfl), (x_in 1625 (by decide +kernel) rfl), by decide, ⟨by decide +kernel, by decide +kernel, by decide +kernel⟩⟩
theorem w_12_220 : x_cv RX12 220 yX12_part cX12_part 2 (none) 12 0 := ⟨⟨_, rfl, rfl⟩, (x_in 1638 (by decide +kernel) rfl), (x_in 1640 (by decide +kernel) rfl), (x_in 36 (by decide +kernel) rfl), (x_in 90 (by decide +kernel) rfl), (x_in 1641 (by decide +kernel) rfl), by decide, ⟨by decide +kernel, by decide +kernel, by decide +kernel⟩⟩
set_option maxHeartbeats 8000000 in
theorem m_operand {X : xC} {l : Launch} (hl : l.stackTraces = false) {N : Nat} {sh : xS} {D : xM} (hM : is_Md N sh) {b : Int → Int} {n q : Nat} {K O : List Int} {F : List Bool} {mn : Int} (hmn : mn = 0 ∨ mn = 1) (hy : ym b n ((if mn = 1 then 2 else 1, q, K, O, F) : Ys) D) : x_M X l yX12_operand cX12_operand 5 (none) 4 0 0 [.ref (x_b X + 62), .int (xI mn)] false N sh D (.inl none) false N sh (yq b n ((if mn = 1 then 2 else 1, q, K, O, F) : Ys) D) := by
  have s62 := md_62 hM
  have n62 : 62 < N := md_n hM (by decide)
  obtain ⟨s, hs⟩ : ∃ s : Ys, s = ((if mn = 1 then 2 else 1, q, K, O, F) : Ys) := ⟨_, rfl⟩
  rw [← hs] at hy ⊢
  have f120 : ∀ (z : Int × Nat) (d : xM) (o2 o3 o4 : Option Value), Rc b n s (.inl z) → (1 ≤ z.1 ∧ z.1 ≤ 5) → yx b n z d → xf D d → x_W (X, l, yX12_operand, cX12_operand, 5, none, x_room 4 0 0, 0, 0, (.inl none), N, sh, (yq b n s D), false, []) 120 [some (.ref (x_b X + 62)), some (.int (xI mn)), o2, o3, o4] [] 0 0 false N sh d := by
    intro z d o2 o3 o4 hrc hzk hyx hxf
    refine x_aload_n dX12_operand_120 x_get_5_0 ?_
    refine x_callV (As := []) dX12_operand_121 w_12_220 (m_partF hl hM hyx.1 hzk) (by assumption) (by assumption) rfl rfl (Nat.le_of_ble_eq_true rfl) (Nat.le_of_ble_eq_true rfl) (Nat.le_of_ble_eq_true rfl) (Nat.le_of_ble_eq_true rfl) (Nat.le_of_ble_eq_true rfl) ?_
    intro d hd
    obtain rfl := Eq.symm hd
    exact x_vret dX12_operand_124 rfl (Nat.le_of_ble_eq_true rfl) (Nat.le_of_ble_eq_true rfl) rfl rfl rfl ⟨hxf, Or.inr ⟨z, hrc, hzk, hyx⟩⟩ rfl
  have f4 : ∀ (z : Int × Nat) (d : xM) (o2 o4 : Option Value) (mo : Int), (mo = 0 ∨ mo = 1) → Rc b n s (.inl z) → (1 ≤ z.1 ∧ z.1 ≤ 5) → yx b n z d → xf D d → x_W (X, l, yX12_operand, cX12_operand, 5, none, x_room 4 0 0, 0, 0, (.inl none), N, sh, (yq b n s D), false, []) 4 [some (.ref (x_b X + 62)), some (.int (xI mn)), o2, some (.int (xI mo)), o4] [] 0 0 false N sh d := by
    intro z d o2 o4 mo hmo hrc hzk hyx hxf
    rcases hmo with rfl | rfl
    · skip
      refine x_iload_n dX12_operand_4 x_get_5_3 ?_
      refine r_if_eq (t := 120) dX12_operand_5 rfl ⟨by omega, by omega⟩ (fun hc5 => ?_) (fun hc5 => absurd hc5 (by omega))
      exact f120 z _ _ _ _ hrc hzk hyx hxf
    · skip
      refine x_iload_n dX12_operand_4 x_get_5_3 ?_
      refine r_if_eq (t := 120) dX12_operand_5 rfl ⟨by omega, by omega⟩ (fun hc5 => absurd hc5 (by omega)) (fun hc5 => ?_)
      refine x_aload_n dX12_operand_8 x_get_5_0 ?_
      refine x_callV (As := []) dX12_operand_9 w_12_176 (m_goodF hl hM hyx.1 hzk) (by assumption) (by assumption) rfl rfl (Nat.le_of_ble_eq_true rfl) (Nat.le_of_ble_eq_true rfl) (Nat.le_of_ble_eq_true rfl) (Nat.le_of_ble_eq_true rfl) (Nat.le_of_ble_eq_true rfl) ?_
      intro d hd
      obtain rfl := Eq.symm hd
      refine r_if_eq (t := 120) dX12_operand_12 rfl ⟨by omega, by omega⟩ (fun hc12 => ?_) (fun hc12 => absurd hc12 (by omega))
      exact f120 z _ _ _ _ hrc hzk hyx hxf
  have f18 : ∀ (z : Int × Nat) (d : xM) (nf : Int) (o3 o4 : Option Value), Rc b n s (.inl z) → (1 ≤ z.1 ∧ z.1 ≤ 5) → yx b n z d → xf D d → x_W (X, l, yX12_operand, cX12_operand, 5, none, x_room 4 0 0, 0, 0, (.inl none), N, sh, (yq b n s D), false, []) 18 [some (.ref (x_b X + 62)), some (.int (xI mn)), some (.int (xI nf)), o3, o4] [] 0 0 false N sh d := by
    intro z d nf o3 o4 hrc hzk hyx hxf
    refine x_aload_n dX12_operand_18 x_get_5_0 ?_
    refine x_callV (As := []) dX12_operand_19 w_12_176 (m_goodF hl hM hyx.1 hzk) (by assumption) (by assumption) rfl rfl (Nat.le_of_ble_eq_true rfl) (Nat.le_of_ble_eq_true rfl) (Nat.le_of_ble_eq_true rfl) (Nat.le_of_ble_eq_true rfl) (Nat.le_of_ble_eq_true rfl) ?_
    intro d hd
    obtain rfl := Eq.symm hd
    refine r_if_eq (t := 75) dX12_operand_22 rfl ⟨by omega, by omega⟩ (fun hc22 => ?_) (fun hc22 => absurd hc22 (by omega))
    refine x_aload_n dX12_operand_75 x_get_5_0 ?_
    refine x_callV (As := []) dX12_operand_76 w_12_176 (m_goodF hl hM hyx.1 hzk) (by assumption) (by assumption) rfl rfl (Nat.le_of_ble_eq_true rfl) (Nat.le_of_ble_eq_true rfl) (Nat.le_of_ble_eq_true rfl) (Nat.le_of_ble_eq_true rfl) (Nat.le_of_ble_eq_true rfl) ?_
    intro d hd
    obtain rfl := Eq.symm hd
    refine r_if_eq (t := 95) dX12_operand_79 rfl ⟨by omega, by omega⟩ (fun hc79 => ?_) (fun hc79 => absurd hc79 (by omega))
    refine x_iconst dX12_operand_95 ?_
    refine x_istore_n dX12_operand_96 (Nat.le_of_ble_eq_true rfl) rfl x_set_5_3 ?_
    refine x_iload_n dX12_operand_97 x_get_5_3 ?_
    refine r_if_eq (t := 117) dX12_operand_98 rfl ⟨by omega, by omega⟩ (fun hc98 => ?_) (fun hc98 => absurd hc98 (by omega))
    refine x_goto (t := 4) dX12_operand_117 rfl ?_
    exact f4 z _ _ _ 0 (Or.inl rfl) hrc hzk hyx hxf
  have g18 : ∀ (k m q1 : Nat) (i nf : Int) (K1 O1 : List Int) (F1 : List Bool) (d : xM), n - q1 < k → ((m = 1 ∧ nf = 0 ∧ i = 0) ∨ ((m : Int) = 2 + i ∧ nf = 1 ∧ 0 ≤ i ∧ i ≤ 6)) → ym b n (m, q1, K1, O1, F1) d → xf D d → Rc b n s (.inr (m, q1, K1, O1, F1)) → x_W (X, l, yX12_operand, cX12_operand, 5, none, x_room 4 0 0, 0, 0, (.inl none), N, sh, (yq b n s D), false, []) 18 [some (.ref (x_b X + 62)), some (.int (xI mn)), some (.int (xI nf)), some (.int (xI 1)), some (.int (xI i))] [] 0 0 false N sh d := by
    intro k
    induction k with
    | zero => intro m q1 i nf K1 O1 F1 d h; exact absurd h (Nat.not_lt_zero _)
    | succ k ih =>
      intro m q1 i nf K1 O1 F1 d hk0 hmi hyd hxf hrc
      obtain ⟨hg, h14, hk, h31, hfk, ⟨hb1, hb2⟩, hb3, hb4⟩ := id hyd
      have hg : gs b n q1 d := hg
      have hk : yk K1 (cod O1) d := hk
      have h31 : d 62 31 = (F1.length : Nat) := h31
      have hfk : fk F1 (d 81) := hfk
      have hb1 : (cod O1).length + K1.length + 8 ≤ 2 * q1 := hb1
      have hb2 : K1.length ≤ q1 := hb2
      have hb3 : F1.length = zc K1 + 1 := hb3
      have hb4 : F1.length ≤ 6 := hb4
      obtain ⟨ht, hqn, g18, g20, g19, g21, g22, g23, g24⟩ := id hg
      obtain ⟨t1, t2, t3⟩ := id ht
      obtain ⟨e0, e1, e2⟩ := tE_in (b := b) hqn
      have hki := tK_in (b := b) (n := n) (q := q1)
      obtain ⟨s0, s1, s2, s3, s4, s5⟩ := m_so_w (b := b) (n := n) (q := q1)
      have g75 : ¬ (2 ≤ m ∧ tW b n q1 7) → x_W (X, l, yX12_operand, cX12_operand, 5, none, x_room 4 0 0, 0, 0, (.inl none), N, sh, (yq b n s D), false, []) 75 [some (.ref (x_b X + 62)), some (.int (xI mn)), some (.int (xI nf)), some (.int (xI 1)), some (.int (xI i))] [] 0 0 false N sh d := by
        intro hnt
        have hom : om b n m q1 := by
          rcases hmi with h | h
          · exact Or.inl h.1
          · exact Or.inr ⟨by omega, by omega, fun hw => hnt ⟨by omega, hw⟩⟩
        have hy1 := y1_om (K := K1) (O := O1) (F := F1) hom
        by_cases h40 : tM b n q1 40
        · rw [if_pos h40] at hy1
          unfold y_opn at hy1
          have hup := tM_up hqn h40
          by_cases h6 : F1.length < 6
          · rw [if_pos h6] at hy1
            refine x_aload_n dX12_operand_75 x_get_5_0 ?_
            refine x_callV (As := []) dX12_operand_76 w_12_176 (m_good hl hM h14) (by assumption) (by assumption) rfl rfl (Nat.le_of_ble_eq_true rfl) (Nat.le_of_ble_eq_true rfl) (Nat.le_of_ble_eq_true rfl) (Nat.le_of_ble_eq_true rfl) (Nat.le_of_ble_eq_true rfl) ?_
            intro d hd
            obtain rfl := Eq.symm hd
            refine r_if_eq (t := 95) dX12_operand_79 rfl ⟨by omega, by omega⟩ (fun hc79 => absurd hc79 (by omega)) (fun hc79 => ?_)
            refine x_aload_n dX12_operand_82 x_get_5_0 ?_
            refine x_bipush dX12_operand_83 rfl ?_
            refine x_callV (As := [_]) dX12_operand_85 w_12_211 (m_sign hl hM hg ⟨by decide, by decide⟩) (by assumption) (by assumption) rfl rfl (Nat.le_of_ble_eq_true rfl) (Nat.le_of_ble_eq_true rfl) (Nat.le_of_ble_eq_true rfl) (Nat.le_of_ble_eq_true rfl) (Nat.le_of_ble_eq_true rfl) ?_
            intro d hd
            obtain rfl := Eq.symm hd
            refine b_ifeq (t := 95) dX12_operand_88 rfl (fun hc88 => absurd hc88 (fun hh => hh h40)) (fun hc88 => ?_)
            refine x_iconst dX12_operand_91 ?_
            refine x_goto (t := 96) dX12_operand_92 rfl ?_
            refine x_istore_n dX12_operand_96 (Nat.le_of_ble_eq_true rfl) rfl x_set_5_3 ?_
            refine x_iload_n dX12_operand_97 x_get_5_3 ?_
            refine r_if_eq (t := 117) dX12_operand_98 rfl ⟨by omega, by omega⟩ (fun hc98 => absurd hc98 (by omega)) (fun hc98 => ?_)
            refine x_aload_n dX12_operand_101 x_get_5_0 ?_
            refine x_bipush dX12_operand_102 rfl ?_
            refine x_callV (As := [_]) dX12_operand_104 w_12_214 (m_wait hl hM hk (by omega) (s := 0) (v := 14) (Or.inl rfl) rfl) (by assumption) (by assumption) rfl rfl (Nat.le_of_ble_eq_true rfl) (Nat.le_of_ble_eq_true rfl) (Nat.le_of_ble_eq_true rfl) (Nat.le_of_ble_eq_true rfl) (Nat.le_of_ble_eq_true rfl) ?_
            rintro d1 ⟨hk1, hf1⟩
            have hg1 := yf_gs hg hf1
            have h141 : d1 62 14 = 0 := by rw [hf1.2 14 (by decide) (by decide)]; exact h14
            refine x_aload_n dX12_operand_107 x_get_5_0 ?_
            refine x_callV (As := []) dX12_operand_108 w_12_180 (m_goes hl hM hg1.1 e2 hg1.2.2.1) (by assumption) (by assumption) rfl rfl (Nat.le_of_ble_eq_true rfl) (Nat.le_of_ble_eq_true rfl) (Nat.le_of_ble_eq_true rfl) (Nat.le_of_ble_eq_true rfl) (Nat.le_of_ble_eq_true rfl) ?_
            rintro d2 ⟨hg2, hgf2⟩
            have hk2 := gf_yk hk1 hgf2
            have h142 : d2 62 14 = 0 := by rw [hgf2.2 14 (by decide)]; exact h141
            have h312 : d2 62 31 = (F1.length : Nat) := by rw [hgf2.2 31 (by decide), hf1.2 31 (by decide) (by decide)]; exact h31
            have h812 : d2 81 = d 81 := by rw [hgf2.1 81 (by decide), hf1.1 81 (by decide) (by decide) (by decide)]
            have hxf2 : xf D d2 := xf_tr hxf (xf_tr (xf_yf hf1) (xf_gf hgf2))
            have hlc : (0 :: K1 : List Int).length = K1.length + 1 := List.length_cons
            have hlc2 : (-9 :: K1 : List Int).length = K1.length + 1 := List.length_cons
            refine x_aload_n dX12_operand_111 x_get_5_0 ?_
            refine x_callV (As := []) dX12_operand_112 w_12_217 (m_deeperT hl hM hg2 h142 h312 (by rw [h812]; exact hfk) h6) (by assumption) (by assumption) rfl rfl (Nat.le_of_ble_eq_true rfl) (Nat.le_of_ble_eq_true rfl) (Nat.le_of_ble_eq_true rfl) (Nat.le_of_ble_eq_true rfl) (Nat.le_of_ble_eq_true rfl) ?_
            rintro d3 ⟨x1, x2, x3, x4⟩
            have hgf3 : gs b n (tE b n q1) d3 := by
              unfold gs mtp at hg2 ⊢
              rw [x4 17 (by decide), x3 70 (by decide) (by decide), x4 18 (by decide), x4 19 (by decide), x4 20 (by decide), x4 21 (by decide), x4 22 (by decide), x4 23 (by decide), x4 24 (by decide)]
              exact hg2
            have hk3 : yk (0 :: K1) (cod O1) d3 := by
              unfold yk at hk2 ⊢
              rw [x4 30 (by decide), x4 29 (by decide), x3 80 (by decide) (by decide), x3 79 (by decide) (by decide)]
              exact hk2
            have hym3 : ym b n (2, tE b n q1, 0 :: K1, O1, false :: F1) d3 := ym_mk hgf3 (by rw [x4 14 (by decide)]; exact h142) hk3 (by rw [x1, List.length_cons]; push_cast; rfl) x2 (by rw [hlc]; omega) (by rw [hlc]; omega) (by rw [List.length_cons]; show F1.length + 1 = (if (0 : Int) = 0 then 1 else 0) + zc K1 + 1; rw [if_pos rfl]; omega) (by rw [List.length_cons]; omega)
            have hxf3 : xf D d3 := xf_tr hxf2 ⟨fun j a b c e => x3 j a e, fun i a b c e f g => x4 i g, fx_eq (x4 14 (by decide)) (x4 15 (by decide))⟩
            have h143 : d3 62 14 = 0 := hym3.2.1
            refine x_iconst dX12_operand_115 ?_
            refine x_istore_n dX12_operand_116 (Nat.le_of_ble_eq_true rfl) rfl x_set_5_2 ?_
            refine x_goto (t := 4) dX12_operand_117 rfl ?_
            refine x_iload_n dX12_operand_4 x_get_5_3 ?_
            refine r_if_eq (t := 120) dX12_operand_5 rfl ⟨by omega, by omega⟩ (fun hc5 => absurd hc5 (by omega)) (fun hc5 => ?_)
            refine x_aload_n dX12_operand_8 x_get_5_0 ?_
            refine x_callV (As := []) dX12_operand_9 w_12_176 (m_good hl hM h143) (by assumption) (by assumption) rfl rfl (Nat.le_of_ble_eq_true rfl) (Nat.le_of_ble_eq_true rfl) (Nat.le_of_ble_eq_true rfl) (Nat.le_of_ble_eq_true rfl) (Nat.le_of_ble_eq_true rfl) ?_
            intro d hd
            obtain rfl := Eq.symm hd
            refine r_if_eq (t := 120) dX12_operand_12 rfl ⟨by omega, by omega⟩ (fun hc12 => absurd hc12 (by omega)) (fun hc12 => ?_)
            refine x_iconst dX12_operand_15 ?_
            refine x_istore dX12_operand_16 (Nat.le_of_ble_eq_true rfl) rfl x_set_5_4 ?_
            exact ih 2 _ 0 1 _ _ _ _ (by omega) (Or.inr ⟨by decide, rfl, by decide, by decide⟩) hym3 hxf3 (rc_tr hrc (rc_s hy1 rc_rf))
          · rw [if_neg h6] at hy1
            have h6e : F1.length = 6 := by omega
            refine x_aload_n dX12_operand_75 x_get_5_0 ?_
            refine x_callV (As := []) dX12_operand_76 w_12_176 (m_good hl hM h14) (by assumption) (by assumption) rfl rfl (Nat.le_of_ble_eq_true rfl) (Nat.le_of_ble_eq_true rfl) (Nat.le_of_ble_eq_true rfl) (Nat.le_of_ble_eq_true rfl) (Nat.le_of_ble_eq_true rfl) ?_
            intro d hd
            obtain rfl := Eq.symm hd
            refine r_if_eq (t := 95) dX12_operand_79 rfl ⟨by omega, by omega⟩ (fun hc79 => absurd hc79 (by omega)) (fun hc79 => ?_)
            refine x_aload_n dX12_operand_82 x_get_5_0 ?_
            refine x_bipush dX12_operand_83 rfl ?_
            refine x_callV (As := [_]) dX12_operand_85 w_12_211 (m_sign hl hM hg ⟨by decide, by decide⟩) (by assumption) (by assumption) rfl rfl (Nat.le_of_ble_eq_true rfl) (Nat.le_of_ble_eq_true rfl) (Nat.le_of_ble_eq_true rfl) (Nat.le_of_ble_eq_true rfl) (Nat.le_of_ble_eq_true rfl) ?_
            intro d hd
            obtain rfl := Eq.symm hd
            refine b_ifeq (t := 95) dX12_operand_88 rfl (fun hc88 => absurd hc88 (fun hh => hh h40)) (fun hc88 => ?_)
            refine x_iconst dX12_operand_91 ?_
            refine x_goto (t := 96) dX12_operand_92 rfl ?_
            refine x_istore_n dX12_operand_96 (Nat.le_of_ble_eq_true rfl) rfl x_set_5_3 ?_
            refine x_iload_n dX12_operand_97 x_get_5_3 ?_
            refine r_if_eq (t := 117) dX12_operand_98 rfl ⟨by omega, by omega⟩ (fun hc98 => absurd hc98 (by omega)) (fun hc98 => ?_)
            refine x_aload_n dX12_operand_101 x_get_5_0 ?_
            refine x_bipush dX12_operand_102 rfl ?_
            refine x_callV (As := [_]) dX12_operand_104 w_12_214 (m_wait hl hM hk (by omega) (s := 0) (v := 14) (Or.inl rfl) rfl) (by assumption) (by assumption) rfl rfl (Nat.le_of_ble_eq_true rfl) (Nat.le_of_ble_eq_true rfl) (Nat.le_of_ble_eq_true rfl) (Nat.le_of_ble_eq_true rfl) (Nat.le_of_ble_eq_true rfl) ?_
            rintro d1 ⟨hk1, hf1⟩
            have hg1 := yf_gs hg hf1
            have h141 : d1 62 14 = 0 := by rw [hf1.2 14 (by decide) (by decide)]; exact h14
            refine x_aload_n dX12_operand_107 x_get_5_0 ?_
            refine x_callV (As := []) dX12_operand_108 w_12_180 (m_goes hl hM hg1.1 e2 hg1.2.2.1) (by assumption) (by assumption) rfl rfl (Nat.le_of_ble_eq_true rfl) (Nat.le_of_ble_eq_true rfl) (Nat.le_of_ble_eq_true rfl) (Nat.le_of_ble_eq_true rfl) (Nat.le_of_ble_eq_true rfl) ?_
            rintro d2 ⟨hg2, hgf2⟩
            have hk2 := gf_yk hk1 hgf2
            have h142 : d2 62 14 = 0 := by rw [hgf2.2 14 (by decide)]; exact h141
            have h312 : d2 62 31 = (F1.length : Nat) := by rw [hgf2.2 31 (by decide), hf1.2 31 (by decide) (by decide)]; exact h31
            have h812 : d2 81 = d 81 := by rw [hgf2.1 81 (by decide), hf1.1 81 (by decide) (by decide) (by decide)]
            have hxf2 : xf D d2 := xf_tr hxf (xf_tr (xf_yf hf1) (xf_gf hgf2))
            have hlc : (0 :: K1 : List Int).length = K1.length + 1 := List.length_cons
            have hlc2 : (-9 :: K1 : List Int).length = K1.length + 1 := List.length_cons
            refine x_aload_n dX12_operand_111 x_get_5_0 ?_
            refine x_callV (As := []) dX12_operand_112 w_12_217 (m_deeperN hl hM hg2 h142 h312 (by rw [h812]; exact hfk) h6e) (by assumption) (by assumption) rfl rfl (Nat.le_of_ble_eq_true rfl) (Nat.le_of_ble_eq_true rfl) (Nat.le_of_ble_eq_true rfl) (Nat.le_of_ble_eq_true rfl) (Nat.le_of_ble_eq_true rfl) ?_
            rintro d3 hd3
            have hyx3 : yx b n (if tK b n (tE b n q1) = 3 ∨ tK b n (tE b n q1) = 2 ∨ tM b n (tE b n q1) 40 then 2 else 1, tE b n q1) d3 := by
              subst hd3
              exact ⟨mwf_14, by unfold mwf; rw [x_up_s, x_u1_s], _, _, mwf_yk hk2, by rw [hlc]; omega, by rw [hlc]; omega⟩
            have hxf3 : xf D d3 := by subst hd3; exact xf_tr hxf2 (xf_mwf (by split <;> decide))
            refine x_iconst dX12_operand_115 ?_
            refine x_istore_n dX12_operand_116 (Nat.le_of_ble_eq_true rfl) rfl x_set_5_2 ?_
            refine x_goto (t := 4) dX12_operand_117 rfl ?_
            exact f4 _ _ _ _ 1 (Or.inr rfl) (rc_tr hrc (rc_i hy1)) (y1_k hy1) hyx3 hxf3
        · rw [if_neg h40] at hy1
          refine x_aload_n dX12_operand_75 x_get_5_0 ?_
          refine x_callV (As := []) dX12_operand_76 w_12_176 (m_good hl hM h14) (by assumption) (by assumption) rfl rfl (Nat.le_of_ble_eq_true rfl) (Nat.le_of_ble_eq_true rfl) (Nat.le_of_ble_eq_true rfl) (Nat.le_of_ble_eq_true rfl) (Nat.le_of_ble_eq_true rfl) ?_
          intro d hd
          obtain rfl := Eq.symm hd
          refine r_if_eq (t := 95) dX12_operand_79 rfl ⟨by omega, by omega⟩ (fun hc79 => absurd hc79 (by omega)) (fun hc79 => ?_)
          refine x_aload_n dX12_operand_82 x_get_5_0 ?_
          refine x_bipush dX12_operand_83 rfl ?_
          refine x_callV (As := [_]) dX12_operand_85 w_12_211 (m_sign hl hM hg ⟨by decide, by decide⟩) (by assumption) (by assumption) rfl rfl (Nat.le_of_ble_eq_true rfl) (Nat.le_of_ble_eq_true rfl) (Nat.le_of_ble_eq_true rfl) (Nat.le_of_ble_eq_true rfl) (Nat.le_of_ble_eq_true rfl) ?_
          intro d hd
          obtain rfl := Eq.symm hd
          refine b_ifeq (t := 95) dX12_operand_88 rfl (fun hc88 => ?_) (fun hc88 => absurd hc88 (h40))
          refine x_iconst dX12_operand_95 ?_
          refine x_istore_n dX12_operand_96 (Nat.le_of_ble_eq_true rfl) rfl x_set_5_3 ?_
          refine x_iload_n dX12_operand_97 x_get_5_3 ?_
          refine r_if_eq (t := 117) dX12_operand_98 rfl ⟨by omega, by omega⟩ (fun hc98 => ?_) (fun hc98 => absurd hc98 (by omega))
          refine x_goto (t := 4) dX12_operand_117 rfl ?_
          refine x_iload_n dX12_operand_4 x_get_5_3 ?_
          refine r_if_eq (t := 120) dX12_operand_5 rfl ⟨by omega, by omega⟩ (fun hc5 => ?_) (fun hc5 => absurd hc5 (by omega))
          refine x_aload_n dX12_operand_120 x_get_5_0 ?_
          refine x_callV (As := []) dX12_operand_121 w_12_220 (m_part hl hM hyd) (by assumption) (by assumption) rfl rfl (Nat.le_of_ble_eq_true rfl) (Nat.le_of_ble_eq_true rfl) (Nat.le_of_ble_eq_true rfl) (Nat.le_of_ble_eq_true rfl) (Nat.le_of_ble_eq_true rfl) ?_
          intro d2 hd2
          have hyq2 : yq b n s D d2 := by
            rcases hpr : y_prt b n q1 K1 O1 F1 with z | t
            · rw [hpr] at hd2 hy1
              exact ⟨xf_tr hxf hd2.2, Or.inr ⟨z, rc_tr hrc (rc_i hy1), y1_k hy1, hd2.1⟩⟩
            · have ht0 : t.1 = 0 := by
                unfold y_prt at hpr
                repeat' split at hpr
                all_goals first | (cases hpr; rfl) | cases hpr
              rw [hpr] at hd2 hy1
              exact ⟨xf_tr hxf hd2.2, Or.inl ⟨t, rc_tr hrc (rc_s hy1 rc_rf), ht0, hd2.1⟩⟩
          exact x_vret dX12_operand_124 rfl (Nat.le_of_ble_eq_true rfl) (Nat.le_of_ble_eq_true rfl) rfl rfl rfl hyq2 rfl
      rcases hmi with ⟨rfl, rfl, rfl⟩ | ⟨hm2, rfl, hi0, hi6⟩
      · skip
        refine x_aload_n dX12_operand_18 x_get_5_0 ?_
        refine x_callV (As := []) dX12_operand_19 w_12_176 (m_good hl hM h14) (by assumption) (by assumption) rfl rfl (Nat.le_of_ble_eq_true rfl) (Nat.le_of_ble_eq_true rfl) (Nat.le_of_ble_eq_true rfl) (Nat.le_of_ble_eq_true rfl) (Nat.le_of_ble_eq_true rfl) ?_
        intro d hd
        obtain rfl := Eq.symm hd
        refine r_if_eq (t := 75) dX12_operand_22 rfl ⟨by omega, by omega⟩ (fun hc22 => absurd hc22 (by omega)) (fun hc22 => ?_)
        refine x_iload_n dX12_operand_25 x_get_5_2 ?_
        refine r_if_eq (t := 75) dX12_operand_26 rfl ⟨by omega, by omega⟩ (fun hc26 => ?_) (fun hc26 => absurd hc26 (by omega))
        exact g75 (fun h => absurd h.1 (by decide))
      · have hkn := m_known (X := X) (l := l) hl hM hg
        have hkw := kw_eq (b := b) (n := n) (q := q1) (k := 14) (by decide)
        have hkin := kw_in (b := b) (n := n) (q := q1)
        by_cases hw : tW b n q1 7
        · have hkw2 : kw b n q1 = 14 := hkw.mpr hw
          have hup := tW_up hqn hw
          rw [hkw2] at hkn
          by_cases hi : i = 6
          · have hy1 : y1 b n (m, q1, K1, O1, F1) = .inl (2, q1) := by
              unfold y1
              rw [if_neg (by show ¬ m = 20; omega), if_neg (by show ¬ m = 0; omega), if_pos ⟨by show 2 ≤ m; omega, hw⟩, if_pos (by show m = 8; omega)]
            have hyx1 : yx b n (2, q1) (mwf 2 (tS b n q1 : Nat) d) := ym_wr hyd
            refine x_aload_n dX12_operand_18 x_get_5_0 ?_
            refine x_callV (As := []) dX12_operand_19 w_12_176 (m_good hl hM h14) (by assumption) (by assumption) rfl rfl (Nat.le_of_ble_eq_true rfl) (Nat.le_of_ble_eq_true rfl) (Nat.le_of_ble_eq_true rfl) (Nat.le_of_ble_eq_true rfl) (Nat.le_of_ble_eq_true rfl) ?_
            intro d hd
            obtain rfl := Eq.symm hd
            refine r_if_eq (t := 75) dX12_operand_22 rfl ⟨by omega, by omega⟩ (fun hc22 => absurd hc22 (by omega)) (fun hc22 => ?_)
            refine x_iload_n dX12_operand_25 x_get_5_2 ?_
            refine r_if_eq (t := 75) dX12_operand_26 rfl ⟨by omega, by omega⟩ (fun hc26 => absurd hc26 (by omega)) (fun hc26 => ?_)
            refine x_aload_n dX12_operand_29 x_get_5_0 ?_
            refine x_callV (As := []) dX12_operand_30 w_12_204 (hkn) (by assumption) (by assumption) rfl rfl (Nat.le_of_ble_eq_true rfl) (Nat.le_of_ble_eq_true rfl) (Nat.le_of_ble_eq_true rfl) (Nat.le_of_ble_eq_true rfl) (Nat.le_of_ble_eq_true rfl) ?_
            intro d hd
            obtain rfl := Eq.symm hd
            refine x_bipush dX12_operand_33 rfl ?_
            refine r_icmp_ne (t := 75) dX12_operand_35 rfl ⟨by decide, by decide⟩ ⟨by decide, by decide⟩ (fun hc35 => absurd hc35 (by decide)) (fun hc35 => ?_)
            refine x_iload dX12_operand_38 x_get_5_4 ?_
            refine x_bipush dX12_operand_40 rfl ?_
            refine r_icmp_ne (t := 50) dX12_operand_42 rfl ⟨by omega, by omega⟩ ⟨by omega, by omega⟩ (fun hc42 => absurd hc42 (by omega)) (fun hc42 => ?_)
            refine x_aload_n dX12_operand_45 x_get_5_0 ?_
            refine x_iconst dX12_operand_46 ?_
            refine x_callV (As := [_]) dX12_operand_47 w_12_183 (m_wrong hl hM hg h14) (by assumption) (by assumption) rfl rfl (Nat.le_of_ble_eq_true rfl) (Nat.le_of_ble_eq_true rfl) (Nat.le_of_ble_eq_true rfl) (Nat.le_of_ble_eq_true rfl) (Nat.le_of_ble_eq_true rfl) ?_
            intro d hd
            obtain rfl := Eq.symm hd
            refine x_iinc dX12_operand_50 x_get_5_4 (Nat.le_of_ble_eq_true rfl) rfl x_set_5_4 ?_
            refine x_aload_n dX12_operand_53 x_get_5_0 ?_
            refine x_callV (As := []) dX12_operand_54 w_12_176 (m_goodF hl hM mwf_14 (by decide)) (by assumption) (by assumption) rfl rfl (Nat.le_of_ble_eq_true rfl) (Nat.le_of_ble_eq_true rfl) (Nat.le_of_ble_eq_true rfl) (Nat.le_of_ble_eq_true rfl) (Nat.le_of_ble_eq_true rfl) ?_
            intro d hd
            obtain rfl := Eq.symm hd
            refine r_if_ne (t := 63) dX12_operand_57 rfl ⟨by omega, by omega⟩ (fun hc57 => absurd hc57 (by omega)) (fun hc57 => ?_)
            refine x_goto (t := 18) dX12_operand_60 rfl ?_
            exact f18 _ _ _ _ _ (rc_tr hrc (rc_i hy1)) (by show (1 : Int) ≤ 2 ∧ (2 : Int) ≤ 5; decide) hyx1 (xf_tr hxf xf_mwf)
          · have hy1 : y1 b n (m, q1, K1, O1, F1) = .inr (m + 1, tE b n q1, -9 :: K1, O1, F1) := by
              unfold y1
              rw [if_neg (by show ¬ m = 20; omega), if_neg (by show ¬ m = 0; omega), if_pos ⟨by show 2 ≤ m; omega, hw⟩, if_neg (by show ¬ m = 8; omega)]
            refine x_aload_n dX12_operand_18 x_get_5_0 ?_
            refine x_callV (As := []) dX12_operand_19 w_12_176 (m_good hl hM h14) (by assumption) (by assumption) rfl rfl (Nat.le_of_ble_eq_true rfl) (Nat.le_of_ble_eq_true rfl) (Nat.le_of_ble_eq_true rfl) (Nat.le_of_ble_eq_true rfl) (Nat.le_of_ble_eq_true rfl) ?_
            intro d hd
            obtain rfl := Eq.symm hd
            refine r_if_eq (t := 75) dX12_operand_22 rfl ⟨by omega, by omega⟩ (fun hc22 => absurd hc22 (by omega)) (fun hc22 => ?_)
            refine x_iload_n dX12_operand_25 x_get_5_2 ?_
            refine r_if_eq (t := 75) dX12_operand_26 rfl ⟨by omega, by omega⟩ (fun hc26 => absurd hc26 (by omega)) (fun hc26 => ?_)
            refine x_aload_n dX12_operand_29 x_get_5_0 ?_
            refine x_callV (As := []) dX12_operand_30 w_12_204 (hkn) (by assumption) (by assumption) rfl rfl (Nat.le_of_ble_eq_true rfl) (Nat.le_of_ble_eq_true rfl) (Nat.le_of_ble_eq_true rfl) (Nat.le_of_ble_eq_true rfl) (Nat.le_of_ble_eq_true rfl) ?_
            intro d hd
            obtain rfl := Eq.symm hd
            refine x_bipush dX12_operand_33 rfl ?_
            refine r_icmp_ne (t := 75) dX12_operand_35 rfl ⟨by decide, by decide⟩ ⟨by decide, by decide⟩ (fun hc35 => absurd hc35 (by decide)) (fun hc35 => ?_)
            refine x_iload dX12_operand_38 x_get_5_4 ?_
            refine x_bipush dX12_operand_40 rfl ?_
            refine r_icmp_ne (t := 50) dX12_operand_42 rfl ⟨by omega, by omega⟩ ⟨by omega, by omega⟩ (fun hc42 => ?_) (fun hc42 => absurd hc42 (by omega))
            refine x_iinc dX12_operand_50 x_get_5_4 (Nat.le_of_ble_eq_true rfl) rfl x_set_5_4 ?_
            refine x_aload_n dX12_operand_53 x_get_5_0 ?_
            refine x_callV (As := []) dX12_operand_54 w_12_176 (m_good hl hM h14) (by assumption) (by assumption) rfl rfl (Nat.le_of_ble_eq_true rfl) (Nat.le_of_ble_eq_true rfl) (Nat.le_of_ble_eq_true rfl) (Nat.le_of_ble_eq_true rfl) (Nat.le_of_ble_eq_true rfl) ?_
            intro d hd
            obtain rfl := Eq.symm hd
            refine r_if_ne (t := 63) dX12_operand_57 rfl ⟨by omega, by omega⟩ (fun hc57 => ?_) (fun hc57 => absurd hc57 (by omega))
            refine x_aload_n dX12_operand_63 x_get_5_0 ?_
            refine x_iconst dX12_operand_64 ?_
            refine x_callV (As := [_]) dX12_operand_65 w_12_214 (m_wait hl hM hk (by omega) (s := -9) (v := 3) (Or.inr ⟨by decide, by decide⟩) rfl) (by assumption) (by assumption) rfl rfl (Nat.le_of_ble_eq_true rfl) (Nat.le_of_ble_eq_true rfl) (Nat.le_of_ble_eq_true rfl) (Nat.le_of_ble_eq_true rfl) (Nat.le_of_ble_eq_true rfl) ?_
            rintro d1 ⟨hk1, hf1⟩
            have hg1 := yf_gs hg hf1
            have h141 : d1 62 14 = 0 := by rw [hf1.2 14 (by decide) (by decide)]; exact h14
            refine x_aload_n dX12_operand_68 x_get_5_0 ?_
            refine x_callV (As := []) dX12_operand_69 w_12_180 (m_goes hl hM hg1.1 e2 hg1.2.2.1) (by assumption) (by assumption) rfl rfl (Nat.le_of_ble_eq_true rfl) (Nat.le_of_ble_eq_true rfl) (Nat.le_of_ble_eq_true rfl) (Nat.le_of_ble_eq_true rfl) (Nat.le_of_ble_eq_true rfl) ?_
            rintro d2 ⟨hg2, hgf2⟩
            have hk2 := gf_yk hk1 hgf2
            have h142 : d2 62 14 = 0 := by rw [hgf2.2 14 (by decide)]; exact h141
            have h312 : d2 62 31 = (F1.length : Nat) := by rw [hgf2.2 31 (by decide), hf1.2 31 (by decide) (by decide)]; exact h31
            have h812 : d2 81 = d 81 := by rw [hgf2.1 81 (by decide), hf1.1 81 (by decide) (by decide) (by decide)]
            have hxf2 : xf D d2 := xf_tr hxf (xf_tr (xf_yf hf1) (xf_gf hgf2))
            have hlc : (0 :: K1 : List Int).length = K1.length + 1 := List.length_cons
            have hlc2 : (-9 :: K1 : List Int).length = K1.length + 1 := List.length_cons
            have hym2 : ym b n (m + 1, tE b n q1, -9 :: K1, O1, F1) d2 := ym_mk hg2 h142 hk2 h312 (by rw [h812]; exact hfk) (by rw [hlc2]; omega) (by rw [hlc2]; omega) (by show F1.length = (if (-9 : Int) = 0 then 1 else 0) + zc K1 + 1; rw [if_neg (by decide)]; omega) hb4
            refine x_goto (t := 18) dX12_operand_72 rfl ?_
            exact ih (m + 1) _ (i + 1) 1 _ _ _ _ (by omega) (Or.inr ⟨by push_cast; omega, rfl, by omega, by omega⟩) hym2 hxf2 (rc_tr hrc (rc_s hy1 rc_rf))
        · have hkw2 : ¬ kw b n q1 = 14 := fun h => hw (hkw.mp h)
          refine x_aload_n dX12_operand_18 x_get_5_0 ?_
          refine x_callV (As := []) dX12_operand_19 w_12_176 (m_good hl hM h14) (by assumption) (by assumption) rfl rfl (Nat.le_of_ble_eq_true rfl) (Nat.le_of_ble_eq_true rfl) (Nat.le_of_ble_eq_true rfl) (Nat.le_of_ble_eq_true rfl) (Nat.le_of_ble_eq_true rfl) ?_
          intro d hd
          obtain rfl := Eq.symm hd
          refine r_if_eq (t := 75) dX12_operand_22 rfl ⟨by omega, by omega⟩ (fun hc22 => absurd hc22 (by omega)) (fun hc22 => ?_)
          refine x_iload_n dX12_operand_25 x_get_5_2 ?_
          refine r_if_eq (t := 75) dX12_operand_26 rfl ⟨by omega, by omega⟩ (fun hc26 => absurd hc26 (by omega)) (fun hc26 => ?_)
          refine x_aload_n dX12_operand_29 x_get_5_0 ?_
          refine x_callV (As := []) dX12_operand_30 w_12_204 (hkn) (by assumption) (by assumption) rfl rfl (Nat.le_of_ble_eq_true rfl) (Nat.le_of_ble_eq_true rfl) (Nat.le_of_ble_eq_true rfl) (Nat.le_of_ble_eq_true rfl) (Nat.le_of_ble_eq_true rfl) ?_
          intro d hd
          obtain rfl := Eq.symm hd
          refine x_bipush dX12_operand_33 rfl ?_
          refine r_icmp_ne (t := 75) dX12_operand_35 rfl ⟨by omega, by omega⟩ ⟨by omega, by omega⟩ (fun hc35 => ?_) (fun hc35 => absurd hc35 (by omega))
          exact g75 (fun h => hw h.2)
  refine x_ofW (by decide +kernel) hl (by simp [Value.category]) (by simp) ?_
  have h14s : D 62 14 = 0 := hy.2.1
  have hsq := hy.1.2.1
  rcases hmn with rfl | rfl
  · have hs1 : s = (1, q, K, O, F) := by rw [hs, if_neg (by decide)]
    refine x_iload_n dX12_operand_0 x_get_5_1 ?_
    refine x_istore_n dX12_operand_1 (Nat.le_of_ble_eq_true rfl) rfl x_set_5_2 ?_
    refine x_iconst dX12_operand_2 ?_
    refine x_istore_n dX12_operand_3 (Nat.le_of_ble_eq_true rfl) rfl x_set_5_3 ?_
    refine x_iload_n dX12_operand_4 x_get_5_3 ?_
    refine r_if_eq (t := 120) dX12_operand_5 rfl ⟨by omega, by omega⟩ (fun hc5 => absurd hc5 (by omega)) (fun hc5 => ?_)
    refine x_aload_n dX12_operand_8 x_get_5_0 ?_
    refine x_callV (As := []) dX12_operand_9 w_12_176 (m_good hl hM h14s) (by assumption) (by assumption) rfl rfl (Nat.le_of_ble_eq_true rfl) (Nat.le_of_ble_eq_true rfl) (Nat.le_of_ble_eq_true rfl) (Nat.le_of_ble_eq_true rfl) (Nat.le_of_ble_eq_true rfl) ?_
    intro d hd
    obtain rfl := Eq.symm hd
    refine r_if_eq (t := 120) dX12_operand_12 rfl ⟨by omega, by omega⟩ (fun hc12 => absurd hc12 (by omega)) (fun hc12 => ?_)
    refine x_iconst dX12_operand_15 ?_
    refine x_istore dX12_operand_16 (Nat.le_of_ble_eq_true rfl) rfl x_set_5_4 ?_
    exact g18 (n - q + 1) 1 q 0 0 K O F D (by omega) (Or.inl ⟨rfl, rfl, rfl⟩) (by rw [← hs1]; exact hy) xf_rf (by rw [hs1]; exact rc_rf)
  · have hs1 : s = (2, q, K, O, F) := by rw [hs, if_pos rfl]
    refine x_iload_n dX12_operand_0 x_get_5_1 ?_
    refine x_istore_n dX12_operand_1 (Nat.le_of_ble_eq_true rfl) rfl x_set_5_2 ?_
    refine x_iconst dX12_operand_2 ?_
    refine x_istore_n dX12_operand_3 (Nat.le_of_ble_eq_true rfl) rfl x_set_5_3 ?_
    refine x_iload_n dX12_operand_4 x_get_5_3 ?_
    refine r_if_eq (t := 120) dX12_operand_5 rfl ⟨by omega, by omega⟩ (fun hc5 => absurd hc5 (by omega)) (fun hc5 => ?_)
    refine x_aload_n dX12_operand_8 x_get_5_0 ?_
    refine x_callV (As := []) dX12_operand_9 w_12_176 (m_good hl hM h14s) (by assumption) (by assumption) rfl rfl (Nat.le_of_ble_eq_true rfl) (Nat.le_of_ble_eq_true rfl) (Nat.le_of_ble_eq_true rfl) (Nat.le_of_ble_eq_true rfl) (Nat.le_of_ble_eq_true rfl) ?_
    intro d hd
    obtain rfl := Eq.symm hd
    refine r_if_eq (t := 120) dX12_operand_12 rfl ⟨by omega, by omega⟩ (fun hc12 => absurd hc12 (by omega)) (fun hc12 => ?_)
    refine x_iconst dX12_operand_15 ?_
    refine x_istore dX12_operand_16 (Nat.le_of_ble_eq_true rfl) rfl x_set_5_4 ?_
    exact g18 (n - q + 1) 2 q 0 1 K O F D (by omega) (Or.inr ⟨rfl, rfl, by decide, by decide⟩) (by rw [← hs1]; exact hy) xf_rf (by rw [hs1]; exact rc_rf)
end M9999
