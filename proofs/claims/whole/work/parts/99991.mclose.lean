section M99991
/-! ===== the Model's expression ===== -/
theorem dr0 : ∀ {K O : List Int}, (0 : Int) ∈ K → ∃ K', (dr 0 K O).1 = 0 :: K'
  | [], O, h => by cases h
  | s :: K, O, h => by
    rw [dr_c]
    by_cases hs : s = 0 ∨ sr s < 0
    · rw [if_pos hs]
      exact ⟨K, by rw [hs.resolve_right (Nat.not_lt_zero _)]⟩
    · rw [if_neg hs]
      refine dr0 ?_
      rw [List.mem_cons] at h
      exact h.resolve_left (fun e => hs (Or.inl e.symm))
theorem zc_dr {p : Nat} : ∀ {K O : List Int}, zc (dr p K O).1 = zc K
  | [], O => rfl
  | s :: K, O => by
    rw [dr_c]
    by_cases hs : s = 0 ∨ sr s < p
    · rw [if_pos hs]
    · rw [if_neg hs, zc_dr (K := K)]
      show zc K = (if s = 0 then 1 else 0) + zc K
      rw [if_neg (fun e => hs (Or.inl e)), Nat.zero_add]
theorem zc_pos : ∀ {K : List Int}, (0 : Int) ∈ K → 1 ≤ zc K
  | [], h => by cases h
  | s :: K, h => by
    show 1 ≤ (if s = 0 then 1 else 0) + zc K
    by_cases hs : s = 0
    · rw [if_pos hs]; omega
    · rw [List.mem_cons] at h
      have := zc_pos (h.resolve_left (fun e => hs e.symm))
      omega
theorem dc_le {p : Nat} : ∀ {K C : List Int}, (dc p K C).1.length ≤ K.length
  | [], C => Nat.le_refl _
  | s :: K, C => by
    rw [dc_c]
    split
    · exact Nat.le_refl _
    · have := dc_le (p := p) (K := K) (C := C ++ [op_c s])
      rw [List.length_cons]; omega
theorem y1_q {b : Int → Int} {n : Nat} {s t : Ys} (hq : s.2.1 ≤ n) (h : y1 b n s = .inr t) : s.2.1 ≤ t.2.1 ∧ t.2.1 ≤ n := by
  have he := tE_in (b := b) hq
  have he2 : s.2.1 ≤ tE b n s.2.1 ∧ tE b n s.2.1 ≤ n := ⟨by omega, he.2.2⟩
  unfold y1 at h
  by_cases h1 : s.1 = 20
  · rw [if_pos h1] at h; cases h; exact ⟨Nat.le_refl _, hq⟩
  rw [if_neg h1] at h
  by_cases h2 : s.1 = 0
  · rw [if_pos h2] at h
    unfold y_lop at h
    repeat' split at h
    all_goals first | (cases h; done) | (cases h; exact he2) | (cases h; exact ⟨Nat.le_refl _, hq⟩)
  rw [if_neg h2] at h
  by_cases h3 : 2 ≤ s.1 ∧ tW b n s.2.1 7
  · rw [if_pos h3] at h
    split at h
    · cases h
    · cases h; exact he2
  rw [if_neg h3] at h
  by_cases h4 : tM b n s.2.1 40
  · rw [if_pos h4] at h
    unfold y_opn at h
    split at h
    · cases h; exact he2
    · cases h
  · rw [if_neg h4] at h
    unfold y_prt at h
    repeat' split at h
    all_goals first | (cases h; done) | (cases h; exact he2)
theorem rc_q {b : Int → Int} {n : Nat} {s t : Ys} (hq : s.2.1 ≤ n) (h : Rc b n s (.inr t)) : s.2.1 ≤ t.2.1 ∧ t.2.1 ≤ n := by
  obtain ⟨k, hk⟩ := h
  induction k generalizing s with
  | zero => cases hk; exact ⟨Nat.le_refl _, hq⟩
  | succ k ih =>
    rcases hy : y1 b n s with z | u
    · rw [rn_i hy] at hk; cases hk
    · rw [rn_r hy] at hk
      have h1 := y1_q hq hy
      have h2 := ih h1.2 hk
      exact ⟨by omega, h2.2⟩
theorem xf_81 {d : xM} {w : Int → Int} : xf d (x_up d 81 w) := ⟨fun j _ _ _ a => x_up_n a, fun i _ _ _ _ _ _ => by rw [x_up_n (by decide)], fx_eq (by rw [x_up_n (by decide)]) (by rw [x_up_n (by decide)])⟩
theorem gs_81 {b : Int → Int} {n q : Nat} {d : xM} {w : Int → Int} (h : gs b n q d) : gs b n q (x_up d 81 w) := by
  unfold gs mtp at h ⊢
  rw [x_up_n (by decide), x_up_n (by decide)]
  exact h
theorem yk_81 {K C : List Int} {d : xM} {w : Int → Int} (h : yk K C d) : yk K C (x_up d 81 w) := by
  unfold yk at h ⊢
  rw [x_up_n (by decide), x_up_n (by decide), x_up_n (by decide)]
  exact h
theorem fk_hd {f : Bool} {F : List Bool} {w : Int → Int} {v : Bool} (h : fk (f :: F) w) : fk (v :: F) (x_u1 w ((f :: F).length : Nat) (if v = true then 1 else 0)) := by
  refine ⟨?_, fk_cg h.2 (fun i a b => x_u1_n (by rw [List.length_cons]; omega))⟩
  rw [show (((f :: F).length : Nat) : Int) = (F.length : Int) + 1 by rw [List.length_cons]; push_cast; rfl, x_u1_s]
/-- what reading an expression has done -/
def ye (b : Int → Int) (n : Nat) (s : Ys) (D d : xM) : Prop := xf D d ∧ ((∃ (q : Nat) (K O : List Int) (f : Bool), Rc b n s (.inr (20, q, K, O, [f])) ∧ gs b n q d ∧ d 62 14 = 0 ∧ d 62 29 = (((dc 0 K (cod O)).2 ++ [0]).length : Nat) ∧ ecl ((dc 0 K (cod O)).2 ++ [0]) (d 79) ∧ ((dc 0 K (cod O)).2 ++ [0]).length ≤ 1400 ∧ vk K) ∨ ∃ z : Int × Nat, Rc b n s (.inl z) ∧ (1 ≤ z.1 ∧ z.1 ≤ 5) ∧ d 62 14 = z.1 ∧ d 62 15 = (tS b n z.2 : Nat))
theorem w_12_223 : x_cv RX12 223 yX12_drops cX12_drops 2 (none) 12 1 := ⟨⟨_, rfl, rfl⟩, (x_in 1646 (by decide +kernel) rfl), (x_in 1648 (by decide +kernel) rfl), (x_in 38 (by decide +kernel) rfl), (x_in 90 (by decide +kernel) rfl), (x_in 1649 (by decide +kernel) rfl), by decide, ⟨by decide +kernel, by decide +kernel, by decide +kernel⟩⟩
set_option maxHeartbeats 4000000 in
theorem m_closes {X : xC} {l : Launch} (hl : l.stackTraces = false) {N : Nat} {sh : xS} {D : xM} (hM : is_Md N sh) {b : Int → Int} {n : Nat} {m q : Nat} {K O : List Int} {F : List Bool} (hy : ym b n (m, q, K, O, F) D) (h0 : (0 : Int) ∈ K) (hk0 : ¬ tK b n q = 0) : x_M X l yX12_closes cX12_closes 1 (none) 2 0 0 [.ref (x_b X + 62)] false N sh D (.inl none) false N sh (fun d => ym b n (0, tE b n q, (dr 0 K O).1.tail, (dr 0 K O).2, F.tail) d ∧ xf D d) := by
  have s62 := md_62 hM
  have n62 : 62 < N := md_n hM (by decide)
  obtain ⟨hg, h14, hk, h31, hfk, ⟨hb1, hb2⟩, hb3, hb4⟩ := id hy
  have hg : gs b n q D := hg
  have hk : yk K (cod O) D := hk
  have h31 : D 62 31 = (F.length : Nat) := h31
  have hfk : fk F (D 81) := hfk
  have hb1 : (cod O).length + K.length + 8 ≤ 2 * q := hb1
  have hb2 : K.length ≤ q := hb2
  have hb3 : F.length = zc K + 1 := hb3
  have hb4 : F.length ≤ 6 := hb4
  obtain ⟨ht, hqn, g18, g20, g19, g21, g22, g23, g24⟩ := id hg
  obtain ⟨t1, t2, t3⟩ := id ht
  obtain ⟨e0, e1, e2⟩ := tE_in (b := b) hqn
  have hki := tK_in (b := b) (n := n) (q := q)
  obtain ⟨s0, s1, s2, s3, s4, s5⟩ := m_so_w (b := b) (n := n) (q := q)
  have hq7 : q ≤ 700 := Nat.le_trans hqn t2
  have hup := tE_w hqn hk0
  have hzp := zc_pos h0
  obtain ⟨K', hK'⟩ := dr0 (O := O) h0
  have hzd := zc_dr (p := 0) (K := K) (O := O)
  have hdc := dc_dr (p := 0) (K := K) (O := O) hk.2.2.2.2
  have hlen := dc_len (p := 0) (K := K) (C := cod O)
  have hle := dc_le (p := 0) (K := K) (C := cod O)
  rw [hdc] at hlen hle
  have hlen : (cod (dr 0 K O).2).length + (dr 0 K O).1.length = (cod O).length + K.length := hlen
  have hle : (dr 0 K O).1.length ≤ K.length := hle
  rw [hK', List.length_cons] at hlen hle
  rw [hK'] at hzd
  have hzd : (if (0 : Int) = 0 then 1 else 0) + zc K' = zc K := hzd
  rw [if_pos rfl] at hzd
  cases F with
  | nil => exact absurd hb3 (by simp)
  | cons f F0 =>
  have hk : yk K (cod O) D := hk
  have hb1 : (cod O).length + K.length + 8 ≤ 2 * q := hb1
  have hb2 : K.length ≤ q := hb2
  have h31 : D 62 31 = ((f :: F0).length : Nat) := h31
  have hfk : fk (f :: F0) (D 81) := hfk
  have hb3 : (f :: F0).length = zc K + 1 := hb3
  have hb4 : (f :: F0).length ≤ 6 := hb4
  rw [List.length_cons] at hb3 hb4 h31
  rw [hK']
  refine x_ofW (by decide +kernel) hl (by simp [Value.category]) (by simp) ?_
  refine x_aload_n dX12_closes_0 x_get_1_0 ?_
  refine x_iconst dX12_closes_1 ?_
  refine x_callV (As := [_]) dX12_closes_2 w_12_223 (m_drops hl hM hk (by omega) (by omega) (p := 0) (by decide)) (by assumption) (by assumption) rfl rfl (Nat.le_of_ble_eq_true rfl) (Nat.le_of_ble_eq_true rfl) (Nat.le_of_ble_eq_true rfl) (Nat.le_of_ble_eq_true rfl) (Nat.le_of_ble_eq_true rfl) ?_
  rintro d1 ⟨hk1, hf1⟩
  rw [hdc, hK'] at hk1
  have hk1 : yk (0 :: K') (cod (dr 0 K O).2) d1 := hk1
  have e30 : d1 62 30 = (K'.length : Int) + 1 := by rw [hk1.1, List.length_cons]; push_cast; rfl
  have e31 : d1 62 31 = (F0.length : Int) + 1 := by rw [hf1.2 31 (by decide) (by decide), h31]; push_cast; rfl
  have hi1 : (K'.length : Int) + 1 - 1 = (K'.length : Nat) := by omega
  have hi2 : (F0.length : Int) + 1 - 1 = (F0.length : Nat) := by omega
  refine x_aload_n dX12_closes_5 x_get_1_0 ?_
  refine x_dup dX12_closes_6 rfl ?_
  refine x_getI 30 dX12_closes_7 fX_12_192 rfl n62 s62 (by rfl) ?_
  try simp (disch := decide) only [x_up_s, x_up_n, x_up_up, x_u1_s, x_u1_n, e30, e31, hi1, hi2]
  refine x_iconst dX12_closes_10 ?_
  refine x_isub dX12_closes_11 ?_
  refine x_putI 30 dX12_closes_12 fX_12_192 rfl tX_12_30 n62 s62 (by rfl) ?_
  try simp (disch := decide) only [x_up_s, x_up_n, x_up_up, x_u1_s, x_u1_n, e30, e31, hi1, hi2]
  refine x_aload_n dX12_closes_15 x_get_1_0 ?_
  refine x_dup dX12_closes_16 rfl ?_
  refine x_getI 31 dX12_closes_17 fX_12_208 rfl n62 s62 (by rfl) ?_
  try simp (disch := decide) only [x_up_s, x_up_n, x_up_up, x_u1_s, x_u1_n, e30, e31, hi1, hi2]
  refine x_iconst dX12_closes_20 ?_
  refine x_isub dX12_closes_21 ?_
  refine x_putI 31 dX12_closes_22 fX_12_208 rfl tX_12_31 n62 s62 (by rfl) ?_
  try simp (disch := decide) only [x_up_s, x_up_n, x_up_up, x_u1_s, x_u1_n, e30, e31, hi1, hi2]
  generalize hd2 : x_up d1 62 _ = d2
  have hd2 := hd2.symm
  have hg2 : gs b n q d2 := by
    have h := yf_gs hg hf1
    unfold gs mtp at h ⊢
    rw [hd2, x_up_s, x_up_n (by decide)]
    simp (disch := decide) only [x_u1_n]
    exact h
  have hk2 : yk K' (cod (dr 0 K O).2) d2 := by
    obtain ⟨a1, a2, a3, a4, a5⟩ := hk1
    refine ⟨?_, ?_, ?_, ?_, vk_t a5⟩
    · rw [hd2, x_up_s, x_u1_n (by decide), x_u1_s]
    · rw [hd2, x_up_n (by decide)]; exact a2.2
    · rw [hd2, x_up_s, x_u1_n (by decide), x_u1_n (by decide)]; exact a3
    · rw [hd2, x_up_n (by decide)]; exact a4
  have e31b : d2 62 31 = (F0.length : Nat) := by rw [hd2, x_up_s, x_u1_s]
  have e14b : d2 62 14 = 0 := by rw [hd2, x_up_s, x_u1_n (by decide), x_u1_n (by decide), hf1.2 14 (by decide) (by decide)]; exact h14
  have e81b : d2 81 = D 81 := by rw [hd2, x_up_n (by decide)]; exact hf1.1 81 (by decide) (by decide) (by decide)
  have hx2 : xf D d2 := xf_tr (xf_yf hf1) (by rw [hd2]; exact ⟨fun j a _ _ _ => x_up_n a, fun i _ _ _ _ y z => by rw [x_up_s, x_u1_n z, x_u1_n y], fx_eq (by rw [x_up_s, x_u1_n (by decide), x_u1_n (by decide)]) (by rw [x_up_s, x_u1_n (by decide), x_u1_n (by decide)])⟩)
  refine x_aload_n dX12_closes_25 x_get_1_0 ?_
  refine x_callV (As := []) dX12_closes_26 w_12_180 (m_goes hl hM hg2.1 e2 hg2.2.2.1) (by assumption) (by assumption) rfl rfl (Nat.le_of_ble_eq_true rfl) (Nat.le_of_ble_eq_true rfl) (Nat.le_of_ble_eq_true rfl) (Nat.le_of_ble_eq_true rfl) (Nat.le_of_ble_eq_true rfl) ?_
  rintro d3 ⟨hg3, hgf3⟩
  have hym3 : ym b n (0, tE b n q, K', (dr 0 K O).2, F0) d3 := ym_mk hg3 (by rw [hgf3.2 14 (by decide)]; exact e14b) (gf_yk hk2 hgf3) (by rw [hgf3.2 31 (by decide)]; exact e31b) (by rw [hgf3.1 81 (by decide), e81b]; exact hfk.2) (by omega) (by omega) (by omega) (by omega)
  exact x_vret dX12_closes_29 rfl (Nat.le_of_ble_eq_true rfl) (Nat.le_of_ble_eq_true rfl) rfl rfl rfl ⟨hym3, xf_tr hx2 (xf_gf hgf3)⟩ rfl
end M99991
