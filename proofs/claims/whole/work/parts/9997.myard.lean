section M9997
/-! ===== the Model's yard: what waits, what is put ===== -/
def op_w (s : Int) : Int := if s = 0 then 14 else op_c s
def wk : List Int → (Int → Int) → Prop
  | [], _ => True
  | s :: K, w => w (K.length : Nat) = op_w s ∧ wk K w
theorem wk_cg : ∀ {K : List Int} {w w' : Int → Int}, wk K w → (∀ i : Nat, i < K.length → w' i = w i) → wk K w'
  | [], _, _, _, _ => trivial
  | s :: K, w, w', h, e => ⟨by rw [e K.length (by simp)]; exact h.1, wk_cg h.2 (fun i hi => e i (by simp; omega))⟩
theorem wk_push {K : List Int} {w : Int → Int} {s : Int} (h : wk K w) : wk (s :: K) (x_u1 w (K.length : Nat) (op_w s)) := ⟨x_u1_s, wk_cg h (fun i hi => x_u1_n (by omega))⟩
def vk (K : List Int) : Prop := ∀ s ∈ K, s = 0 ∨ (-15 ≤ s ∧ s ≤ -7)
theorem vk_c {K : List Int} {s : Int} (h : vk K) (hs : s = 0 ∨ (-15 ≤ s ∧ s ≤ -7)) : vk (s :: K) := fun x hx => by
  rw [List.mem_cons] at hx
  rcases hx with rfl | hx
  · exact hs
  · exact h x hx
theorem vk_t {K : List Int} {s : Int} (h : vk (s :: K)) : vk K := fun x hx => h x (List.mem_cons_of_mem _ hx)
def ecl (C : List Int) (cf : Int → Int) : Prop := ∀ i : Nat, i < C.length → cf i = C.getD i 0
theorem ecl_add {C : List Int} {cf : Int → Int} {v : Int} (h : ecl C cf) : ecl (C ++ [v]) (x_u1 cf (C.length : Nat) v) := by
  intro i hi
  rw [List.length_append, List.length_singleton] at hi
  by_cases he : i = C.length
  · subst he; rw [x_u1_s]; simp [List.getD]
  · rw [x_u1_n (by omega), h i (by omega)]
    simp [List.getD, List.getElem?_append_left (show i < C.length by omega)]
/-- what waits is K, what was put is C -/
def yk (K C : List Int) (D : xM) : Prop := D 62 30 = K.length ∧ wk K (D 80) ∧ D 62 29 = C.length ∧ ecl C (D 79) ∧ vk K
def yf (D d : xM) : Prop := (∀ j, j ≠ 62 → j ≠ 79 → j ≠ 80 → d j = D j) ∧ ∀ i, i ≠ 29 → i ≠ 30 → d 62 i = D 62 i
theorem yf_rf {D : xM} : yf D D := ⟨fun _ _ _ _ => rfl, fun _ _ _ => rfl⟩
theorem yf_tr {D d e : xM} (h : yf D d) (h2 : yf d e) : yf D e := ⟨fun j a b c => by rw [h2.1 j a b c]; exact h.1 j a b c, fun i a b => by rw [h2.2 i a b]; exact h.2 i a b⟩
theorem yf_gs {b : Int → Int} {n q : Nat} {D d : xM} (h : gs b n q D) (hf : yf D d) : gs b n q d := by
  unfold gs mtp at h ⊢
  rw [hf.2 17 (by decide) (by decide), hf.1 70 (by decide) (by decide) (by decide), hf.2 18 (by decide) (by decide), hf.2 19 (by decide) (by decide), hf.2 20 (by decide) (by decide), hf.2 21 (by decide) (by decide), hf.2 22 (by decide) (by decide), hf.2 23 (by decide) (by decide), hf.2 24 (by decide) (by decide)]
  exact h
theorem gf_yk {K C : List Int} {D d : xM} (h : yk K C D) (hf : gf D d) : yk K C d := by
  unfold yk at h ⊢
  rw [hf.2 30 (by decide), hf.2 29 (by decide), hf.1 80 (by decide), hf.1 79 (by decide)]
  exact h
def dc (p : Nat) : List Int → List Int → List Int × List Int
  | [], C => ([], C)
  | s :: K, C => if s = 0 ∨ sr s < p then (s :: K, C) else dc p K (C ++ [op_c s])
theorem dc_c {p : Nat} {s : Int} {K C : List Int} : dc p (s :: K) C = if s = 0 ∨ sr s < p then (s :: K, C) else dc p K (C ++ [op_c s]) := rfl
def cod : List Int → List Int
  | [] => []
  | s :: L => (if 0 ≤ s then [1, s] else if -6 ≤ s then [2, -1 - s] else [op_c s]) ++ cod L
theorem cod_c {s : Int} {L : List Int} : cod (s :: L) = (if 0 ≤ s then [1, s] else if -6 ≤ s then [2, -1 - s] else [op_c s]) ++ cod L := rfl
theorem cod_app : ∀ {L M : List Int}, cod (L ++ M) = cod L ++ cod M
  | [], M => rfl
  | s :: L, M => by rw [List.cons_append, cod_c, cod_c, cod_app, List.append_assoc]
theorem cod_op {s : Int} (h : s < -6) : cod [s] = [op_c s] := by rw [cod_c, if_neg (by omega), if_neg (by omega)]; rfl
theorem dc_dr {p : Nat} : ∀ {K O : List Int}, vk K → dc p K (cod O) = ((dr p K O).1, cod (dr p K O).2)
  | [], O, _ => rfl
  | s :: K, O, h => by
    rw [dc_c, dr_c]
    by_cases hs : s = 0 ∨ sr s < p
    · rw [if_pos hs, if_pos hs]
    · rw [if_neg hs, if_neg hs]
      have h7 : s < -6 := by
        rcases h s List.mem_cons_self with h0 | h0
        · exact absurd (Or.inl h0) hs
        · omega
      have h2 := dc_dr (p := p) (K := K) (O := O ++ [s]) (vk_t h)
      rw [cod_app, cod_op h7] at h2
      exact h2
theorem dc_len {p : Nat} : ∀ {K C : List Int}, (dc p K C).2.length + (dc p K C).1.length = C.length + K.length
  | [], C => rfl
  | s :: K, C => by
    rw [dc_c]
    split
    · rfl
    · rw [dc_len (K := K) (C := C ++ [op_c s])]; simp; omega
theorem dc_vk {p : Nat} : ∀ {K C : List Int}, vk K → vk (dc p K C).1
  | [], C, h => h
  | s :: K, C, h => by
    rw [dc_c]
    split
    · exact h
    · exact dc_vk (vk_t h)
theorem op_w_in {s : Int} (h : s = 0 ∨ (-15 ≤ s ∧ s ≤ -7)) : (s = 0 → op_w s = 14) ∧ (¬ s = 0 → op_w s = op_c s ∧ 3 ≤ op_c s ∧ op_c s ≤ 11) := by
  unfold op_w op_c
  refine ⟨fun e => if_pos e, fun e => ?_⟩
  rw [if_neg e]
  refine ⟨rfl, ?_⟩
  repeat' split
  all_goals omega
theorem w_12_195 : x_cs RX12 195 yX12_isOpen cX12_isOpen 1 (some .boolean) 1 := ⟨(x_in 1650 (by decide +kernel) rfl), (x_in 1651 (by decide +kernel) rfl), (x_in 90 (by decide +kernel) rfl), (x_in 1652 (by decide +kernel) rfl), by decide, ⟨by decide +kernel, by decide +kernel, by decide +kernel⟩⟩
theorem w_12_198 : x_cs RX12 198 yX12_strength cX12_strength 1 (some .int) 1 := ⟨(x_in 1653 (by decide +kernel) rfl), (x_in 1654 (by decide +kernel) rfl), (x_in 90 (by decide +kernel) rfl), (x_in 1655 (by decide +kernel) rfl), by decide, ⟨by decide +kernel, by decide +kernel, by decide +kernel⟩⟩
theorem w_12_201 : x_cv RX12 201 yX12_puts cX12_puts 2 (none) 12 1 := ⟨⟨_, rfl, rfl⟩, (x_in 1642 (by decide +kernel) rfl), (x_in 1644 (by decide +kernel) rfl), (x_in 37 (by decide +kernel) rfl), (x_in 90 (by decide +kernel) rfl), (x_in 1645 (by decide +kernel) rfl), by decide, ⟨by decide +kernel, by decide +kernel, by decide +kernel⟩⟩
theorem yk_put {K C : List Int} {D : xM} {v : Int} (h : yk K C D) : yk K (C ++ [v]) (x_up (x_up D 79 (x_u1 (D 79) (C.length : Nat) v)) 62 (x_u1 (D 62) 29 ((C.length : Nat) + 1))) := by
  obtain ⟨h1, h2, h3, h4, h5⟩ := h
  refine ⟨by rw [x_up_s, x_u1_n (by decide)]; exact h1, by rw [x_up_n (by decide), x_up_n (by decide)]; exact h2, by rw [x_up_s, x_u1_s, List.length_append, List.length_singleton]; push_cast; rfl, by rw [x_up_n (by decide), x_up_s]; exact ecl_add h4, h5⟩
theorem yf_put {D : xM} {c v w : Int} : yf D (x_up (x_up D 79 (x_u1 (D 79) c v)) 62 (x_u1 (D 62) 29 w)) := ⟨fun j a b c => by rw [x_up_n a, x_up_n b], fun i a b => by rw [x_up_s, x_u1_n a]⟩
theorem yk_wait {K C : List Int} {D : xM} {s : Int} (h : yk K C D) (hs : s = 0 ∨ (-15 ≤ s ∧ s ≤ -7)) : yk (s :: K) C (x_up (x_up D 80 (x_u1 (D 80) (K.length : Nat) (op_w s))) 62 (x_u1 (D 62) 30 ((K.length : Nat) + 1))) := by
  obtain ⟨h1, h2, h3, h4, h5⟩ := h
  refine ⟨by rw [x_up_s, x_u1_s, List.length_cons]; push_cast; rfl, by rw [x_up_n (by decide), x_up_s]; exact wk_push h2, by rw [x_up_s, x_u1_n (by decide)]; exact h3, by rw [x_up_n (by decide), x_up_n (by decide)]; exact h4, vk_c h5 hs⟩
theorem yf_wait {D : xM} {c v w : Int} : yf D (x_up (x_up D 80 (x_u1 (D 80) c v)) 62 (x_u1 (D 62) 30 w)) := ⟨fun j a b c => by rw [x_up_n a, x_up_n c], fun i a b => by rw [x_up_s, x_u1_n b]⟩

theorem m_puts0 {X : xC} {l : Launch} (hl : l.stackTraces = false) {N : Nat} {sh : xS} {D : xM} (hM : is_Md N sh) {c : Nat} (h29 : D 62 29 = c) (hc : c < 1400) {v : Int} : x_M X l yX12_puts cX12_puts 2 (none) 0 0 0 [.ref (x_b X + 62), .int (xI v)] false N sh D (.inl none) false N sh (x_is (x_up (x_up D 79 (x_u1 (D 79) (c : Nat) v)) 62 (x_u1 (D 62) 29 ((c : Nat) + 1)))) := by
  have s62 := md_62 hM
  have n62 : 62 < N := md_n hM (by decide)
  have s79 := md_79 hM
  have n79 : 79 < N := md_n hM (by decide)
  refine x_ofW (by decide +kernel) hl (by simp [Value.category]) (by simp) ?_
  refine x_aload_n dX12_puts_0 x_get_2_0 ?_
  refine x_getR dX12_puts_1 fX_12_65 n62 s62 (by rfl) ?_
  refine x_aload_n dX12_puts_4 x_get_2_0 ?_
  refine x_getI 29 dX12_puts_5 fX_12_189 rfl n62 s62 (by rfl) ?_
  try simp (disch := decide) only [x_up_s, x_up_n, x_up_up, x_u1_s, x_u1_n, h29]
  refine x_iload_n dX12_puts_8 x_get_2_1 ?_
  refine x_iast dX12_puts_9 n79 s79 (by omega) (by omega) (by decide) ?_
  try simp (disch := decide) only [x_up_s, x_up_n, x_up_up, x_u1_s, x_u1_n, h29]
  refine x_aload_n dX12_puts_10 x_get_2_0 ?_
  refine x_dup dX12_puts_11 rfl ?_
  refine x_getI 29 dX12_puts_12 fX_12_189 rfl n62 s62 (by rfl) ?_
  try simp (disch := decide) only [x_up_s, x_up_n, x_up_up, x_u1_s, x_u1_n, h29]
  refine x_iconst dX12_puts_15 ?_
  refine x_iadd dX12_puts_16 ?_
  refine x_putI 29 dX12_puts_17 fX_12_189 rfl tX_12_29 n62 s62 (by rfl) ?_
  try simp (disch := decide) only [x_up_s, x_up_n, x_up_up, x_u1_s, x_u1_n, h29]
  exact x_vret dX12_puts_20 rfl (Nat.le_of_ble_eq_true rfl) (Nat.le_of_ble_eq_true rfl) rfl rfl rfl rfl rfl
theorem m_puts {X : xC} {l : Launch} (hl : l.stackTraces = false) {N : Nat} {sh : xS} {D : xM} (hM : is_Md N sh) {K C : List Int} (hy : yk K C D) (hc : C.length < 1400) {v : Int} : x_M X l yX12_puts cX12_puts 2 (none) 0 0 0 [.ref (x_b X + 62), .int (xI v)] false N sh D (.inl none) false N sh (fun d => yk K (C ++ [v]) d ∧ yf D d) := by
  exact x_M_post (m_puts0 hl hM hy.2.2.1 hc) rfl (fun d hd => by subst hd; exact ⟨yk_put hy, yf_put⟩)
theorem m_wait0 {X : xC} {l : Launch} (hl : l.stackTraces = false) {N : Nat} {sh : xS} {D : xM} (hM : is_Md N sh) {c : Nat} (h30 : D 62 30 = c) (hc : c < 950) {v : Int} : x_M X l yX12_waitsFor cX12_waitsFor 2 (none) 0 0 0 [.ref (x_b X + 62), .int (xI v)] false N sh D (.inl none) false N sh (x_is (x_up (x_up D 80 (x_u1 (D 80) (c : Nat) v)) 62 (x_u1 (D 62) 30 ((c : Nat) + 1)))) := by
  have s62 := md_62 hM
  have n62 : 62 < N := md_n hM (by decide)
  have s80 := md_80 hM
  have n80 : 80 < N := md_n hM (by decide)
  refine x_ofW (by decide +kernel) hl (by simp [Value.category]) (by simp) ?_
  refine x_aload_n dX12_waitsFor_0 x_get_2_0 ?_
  refine x_getR dX12_waitsFor_1 fX_12_68 n62 s62 (by rfl) ?_
  refine x_aload_n dX12_waitsFor_4 x_get_2_0 ?_
  refine x_getI 30 dX12_waitsFor_5 fX_12_192 rfl n62 s62 (by rfl) ?_
  try simp (disch := decide) only [x_up_s, x_up_n, x_up_up, x_u1_s, x_u1_n, h30]
  refine x_iload_n dX12_waitsFor_8 x_get_2_1 ?_
  refine x_iast dX12_waitsFor_9 n80 s80 (by omega) (by omega) (by decide) ?_
  try simp (disch := decide) only [x_up_s, x_up_n, x_up_up, x_u1_s, x_u1_n, h30]
  refine x_aload_n dX12_waitsFor_10 x_get_2_0 ?_
  refine x_dup dX12_waitsFor_11 rfl ?_
  refine x_getI 30 dX12_waitsFor_12 fX_12_192 rfl n62 s62 (by rfl) ?_
  try simp (disch := decide) only [x_up_s, x_up_n, x_up_up, x_u1_s, x_u1_n, h30]
  refine x_iconst dX12_waitsFor_15 ?_
  refine x_iadd dX12_waitsFor_16 ?_
  refine x_putI 30 dX12_waitsFor_17 fX_12_192 rfl tX_12_30 n62 s62 (by rfl) ?_
  try simp (disch := decide) only [x_up_s, x_up_n, x_up_up, x_u1_s, x_u1_n, h30]
  exact x_vret dX12_waitsFor_20 rfl (Nat.le_of_ble_eq_true rfl) (Nat.le_of_ble_eq_true rfl) rfl rfl rfl rfl rfl
theorem m_wait {X : xC} {l : Launch} (hl : l.stackTraces = false) {N : Nat} {sh : xS} {D : xM} (hM : is_Md N sh) {K C : List Int} (hy : yk K C D) (hc : K.length < 950) {s v : Int} (hs : s = 0 ∨ (-15 ≤ s ∧ s ≤ -7)) (hv : op_w s = v) : x_M X l yX12_waitsFor cX12_waitsFor 2 (none) 0 0 0 [.ref (x_b X + 62), .int (xI v)] false N sh D (.inl none) false N sh (fun d => yk (s :: K) C d ∧ yf D d) := by
  subst hv
  exact x_M_post (m_wait0 hl hM hy.1 hc) rfl (fun d hd => by subst hd; exact ⟨yk_wait hy hs, yf_wait⟩)
theorem m_isOpen {X : xC} {l : Launch} (hl : l.stackTraces = false) {N : Nat} {sh : xS} {D : xM} {s : Int} (hs : s = 0 ∨ (-15 ≤ s ∧ s ≤ -7)) : x_M X l yX12_isOpen cX12_isOpen 1 (some .boolean) 0 0 0 [.int (xI (op_w s))] false N sh D (.inl (some (.int (xI (x_B (s = 0)))))) false N sh (x_is (D)) := by
  obtain ⟨o1, o2⟩ := op_w_in hs
  by_cases h0 : s = 0
  · have e := o1 h0
    rw [x_B, if_pos h0, e]
    refine x_ofW (by decide +kernel) hl (by simp [Value.category]) (by simp) ?_
    refine x_iload_n dX12_isOpen_0 x_get_1_0 ?_
    refine x_bipush dX12_isOpen_1 rfl ?_
    refine r_icmp_lt (t := 10) dX12_isOpen_3 rfl ⟨by decide, by decide⟩ ⟨by decide, by decide⟩ (fun hc3 => absurd hc3 (by decide)) (fun hc3 => ?_)
    refine x_iconst dX12_isOpen_6 ?_
    refine x_goto (t := 11) dX12_isOpen_7 rfl ?_
    exact x_zret dX12_isOpen_11 rfl (by omega) (Nat.le_of_ble_eq_true rfl) (Nat.le_of_ble_eq_true rfl) rfl rfl rfl rfl rfl
  · obtain ⟨e, e1, e2⟩ := o2 h0
    rw [x_B, if_neg h0, e]
    refine x_ofW (by decide +kernel) hl (by simp [Value.category]) (by simp) ?_
    refine x_iload_n dX12_isOpen_0 x_get_1_0 ?_
    refine x_bipush dX12_isOpen_1 rfl ?_
    refine r_icmp_lt (t := 10) dX12_isOpen_3 rfl ⟨by omega, by omega⟩ ⟨by omega, by omega⟩ (fun hc3 => ?_) (fun hc3 => absurd hc3 (by omega))
    refine x_iconst dX12_isOpen_10 ?_
    exact x_zret dX12_isOpen_11 rfl (by omega) (Nat.le_of_ble_eq_true rfl) (Nat.le_of_ble_eq_true rfl) rfl rfl rfl rfl rfl
theorem m_strength {X : xC} {l : Launch} (hl : l.stackTraces = false) {N : Nat} {sh : xS} {D : xM} {s : Int} (hs : -15 ≤ s ∧ s ≤ -7) : x_M X l yX12_strength cX12_strength 1 (some .int) 0 0 0 [.int (xI (op_c s))] false N sh D (.inl (some (.int (xI (((sr s : Nat) : Int)))))) false N sh (x_is (D)) := by
  have hc : s = -7 ∨ s = -8 ∨ s = -9 ∨ s = -10 ∨ s = -11 ∨ s = -12 ∨ s = -13 ∨ s = -14 ∨ s = -15 := by omega
  rcases hc with rfl | rfl | rfl | rfl | rfl | rfl | rfl | rfl | rfl
  · show x_M X l yX12_strength cX12_strength 1 (some .int) 0 0 0 [.int (xI 5)] false N sh D _ false N sh _
    refine x_ofW (by decide +kernel) hl (by simp [Value.category]) (by simp) ?_
    refine x_iload_n dX12_strength_0 x_get_1_0 ?_
    refine x_iconst dX12_strength_1 ?_
    refine r_icmp_ne (t := 9) dX12_strength_2 rfl ⟨by decide, by decide⟩ ⟨by decide, by decide⟩ (fun hc2 => absurd hc2 (by decide)) (fun hc2 => ?_)
    refine x_iconst dX12_strength_5 ?_
    refine x_goto (t := 61) dX12_strength_6 rfl ?_
    exact x_iret dX12_strength_61 rfl (Nat.le_of_ble_eq_true rfl) (Nat.le_of_ble_eq_true rfl) rfl rfl rfl rfl rfl
  · show x_M X l yX12_strength cX12_strength 1 (some .int) 0 0 0 [.int (xI 4)] false N sh D _ false N sh _
    refine x_ofW (by decide +kernel) hl (by simp [Value.category]) (by simp) ?_
    refine x_iload_n dX12_strength_0 x_get_1_0 ?_
    refine x_iconst dX12_strength_1 ?_
    refine r_icmp_ne (t := 9) dX12_strength_2 rfl ⟨by decide, by decide⟩ ⟨by decide, by decide⟩ (fun hc2 => ?_) (fun hc2 => absurd hc2 (by decide))
    refine x_iload_n dX12_strength_9 x_get_1_0 ?_
    refine x_iconst dX12_strength_10 ?_
    refine r_icmp_ne (t := 18) dX12_strength_11 rfl ⟨by decide, by decide⟩ ⟨by decide, by decide⟩ (fun hc11 => absurd hc11 (by decide)) (fun hc11 => ?_)
    refine x_iconst dX12_strength_14 ?_
    refine x_goto (t := 61) dX12_strength_15 rfl ?_
    exact x_iret dX12_strength_61 rfl (Nat.le_of_ble_eq_true rfl) (Nat.le_of_ble_eq_true rfl) rfl rfl rfl rfl rfl
  · show x_M X l yX12_strength cX12_strength 1 (some .int) 0 0 0 [.int (xI 3)] false N sh D _ false N sh _
    refine x_ofW (by decide +kernel) hl (by simp [Value.category]) (by simp) ?_
    refine x_iload_n dX12_strength_0 x_get_1_0 ?_
    refine x_iconst dX12_strength_1 ?_
    refine r_icmp_ne (t := 9) dX12_strength_2 rfl ⟨by decide, by decide⟩ ⟨by decide, by decide⟩ (fun hc2 => ?_) (fun hc2 => absurd hc2 (by decide))
    refine x_iload_n dX12_strength_9 x_get_1_0 ?_
    refine x_iconst dX12_strength_10 ?_
    refine r_icmp_ne (t := 18) dX12_strength_11 rfl ⟨by decide, by decide⟩ ⟨by decide, by decide⟩ (fun hc11 => ?_) (fun hc11 => absurd hc11 (by decide))
    refine x_iload_n dX12_strength_18 x_get_1_0 ?_
    refine x_iconst dX12_strength_19 ?_
    refine r_icmp_ne (t := 27) dX12_strength_20 rfl ⟨by decide, by decide⟩ ⟨by decide, by decide⟩ (fun hc20 => absurd hc20 (by decide)) (fun hc20 => ?_)
    refine x_iconst dX12_strength_23 ?_
    refine x_goto (t := 61) dX12_strength_24 rfl ?_
    exact x_iret dX12_strength_61 rfl (Nat.le_of_ble_eq_true rfl) (Nat.le_of_ble_eq_true rfl) rfl rfl rfl rfl rfl
  · show x_M X l yX12_strength cX12_strength 1 (some .int) 0 0 0 [.int (xI 6)] false N sh D _ false N sh _
    refine x_ofW (by decide +kernel) hl (by simp [Value.category]) (by simp) ?_
    refine x_iload_n dX12_strength_0 x_get_1_0 ?_
    refine x_iconst dX12_strength_1 ?_
    refine r_icmp_ne (t := 9) dX12_strength_2 rfl ⟨by decide, by decide⟩ ⟨by decide, by decide⟩ (fun hc2 => ?_) (fun hc2 => absurd hc2 (by decide))
    refine x_iload_n dX12_strength_9 x_get_1_0 ?_
    refine x_iconst dX12_strength_10 ?_
    refine r_icmp_ne (t := 18) dX12_strength_11 rfl ⟨by decide, by decide⟩ ⟨by decide, by decide⟩ (fun hc11 => ?_) (fun hc11 => absurd hc11 (by decide))
    refine x_iload_n dX12_strength_18 x_get_1_0 ?_
    refine x_iconst dX12_strength_19 ?_
    refine r_icmp_ne (t := 27) dX12_strength_20 rfl ⟨by decide, by decide⟩ ⟨by decide, by decide⟩ (fun hc20 => ?_) (fun hc20 => absurd hc20 (by decide))
    refine x_iload_n dX12_strength_27 x_get_1_0 ?_
    refine x_bipush dX12_strength_28 rfl ?_
    refine r_icmp_eq (t := 39) dX12_strength_30 rfl ⟨by decide, by decide⟩ ⟨by decide, by decide⟩ (fun hc30 => ?_) (fun hc30 => absurd hc30 (by decide))
    refine x_iconst dX12_strength_39 ?_
    refine x_goto (t := 61) dX12_strength_40 rfl ?_
    exact x_iret dX12_strength_61 rfl (Nat.le_of_ble_eq_true rfl) (Nat.le_of_ble_eq_true rfl) rfl rfl rfl rfl rfl
  · show x_M X l yX12_strength cX12_strength 1 (some .int) 0 0 0 [.int (xI 7)] false N sh D _ false N sh _
    refine x_ofW (by decide +kernel) hl (by simp [Value.category]) (by simp) ?_
    refine x_iload_n dX12_strength_0 x_get_1_0 ?_
    refine x_iconst dX12_strength_1 ?_
    refine r_icmp_ne (t := 9) dX12_strength_2 rfl ⟨by decide, by decide⟩ ⟨by decide, by decide⟩ (fun hc2 => ?_) (fun hc2 => absurd hc2 (by decide))
    refine x_iload_n dX12_strength_9 x_get_1_0 ?_
    refine x_iconst dX12_strength_10 ?_
    refine r_icmp_ne (t := 18) dX12_strength_11 rfl ⟨by decide, by decide⟩ ⟨by decide, by decide⟩ (fun hc11 => ?_) (fun hc11 => absurd hc11 (by decide))
    refine x_iload_n dX12_strength_18 x_get_1_0 ?_
    refine x_iconst dX12_strength_19 ?_
    refine r_icmp_ne (t := 27) dX12_strength_20 rfl ⟨by decide, by decide⟩ ⟨by decide, by decide⟩ (fun hc20 => ?_) (fun hc20 => absurd hc20 (by decide))
    refine x_iload_n dX12_strength_27 x_get_1_0 ?_
    refine x_bipush dX12_strength_28 rfl ?_
    refine r_icmp_eq (t := 39) dX12_strength_30 rfl ⟨by decide, by decide⟩ ⟨by decide, by decide⟩ (fun hc30 => absurd hc30 (by decide)) (fun hc30 => ?_)
    refine x_iload_n dX12_strength_33 x_get_1_0 ?_
    refine x_bipush dX12_strength_34 rfl ?_
    refine r_icmp_ne (t := 43) dX12_strength_36 rfl ⟨by decide, by decide⟩ ⟨by decide, by decide⟩ (fun hc36 => absurd hc36 (by decide)) (fun hc36 => ?_)
    refine x_iconst dX12_strength_39 ?_
    refine x_goto (t := 61) dX12_strength_40 rfl ?_
    exact x_iret dX12_strength_61 rfl (Nat.le_of_ble_eq_true rfl) (Nat.le_of_ble_eq_true rfl) rfl rfl rfl rfl rfl
  · show x_M X l yX12_strength cX12_strength 1 (some .int) 0 0 0 [.int (xI 8)] false N sh D _ false N sh _
    refine x_ofW (by decide +kernel) hl (by simp [Value.category]) (by simp) ?_
    refine x_iload_n dX12_strength_0 x_get_1_0 ?_
    refine x_iconst dX12_strength_1 ?_
    refine r_icmp_ne (t := 9) dX12_strength_2 rfl ⟨by decide, by decide⟩ ⟨by decide, by decide⟩ (fun hc2 => ?_) (fun hc2 => absurd hc2 (by decide))
    refine x_iload_n dX12_strength_9 x_get_1_0 ?_
    refine x_iconst dX12_strength_10 ?_
    refine r_icmp_ne (t := 18) dX12_strength_11 rfl ⟨by decide, by decide⟩ ⟨by decide, by decide⟩ (fun hc11 => ?_) (fun hc11 => absurd hc11 (by decide))
    refine x_iload_n dX12_strength_18 x_get_1_0 ?_
    refine x_iconst dX12_strength_19 ?_
    refine r_icmp_ne (t := 27) dX12_strength_20 rfl ⟨by decide, by decide⟩ ⟨by decide, by decide⟩ (fun hc20 => ?_) (fun hc20 => absurd hc20 (by decide))
    refine x_iload_n dX12_strength_27 x_get_1_0 ?_
    refine x_bipush dX12_strength_28 rfl ?_
    refine r_icmp_eq (t := 39) dX12_strength_30 rfl ⟨by decide, by decide⟩ ⟨by decide, by decide⟩ (fun hc30 => absurd hc30 (by decide)) (fun hc30 => ?_)
    refine x_iload_n dX12_strength_33 x_get_1_0 ?_
    refine x_bipush dX12_strength_34 rfl ?_
    refine r_icmp_ne (t := 43) dX12_strength_36 rfl ⟨by decide, by decide⟩ ⟨by decide, by decide⟩ (fun hc36 => ?_) (fun hc36 => absurd hc36 (by decide))
    refine x_iload_n dX12_strength_43 x_get_1_0 ?_
    refine x_bipush dX12_strength_44 rfl ?_
    refine r_icmp_eq (t := 55) dX12_strength_46 rfl ⟨by decide, by decide⟩ ⟨by decide, by decide⟩ (fun hc46 => ?_) (fun hc46 => absurd hc46 (by decide))
    refine x_iconst dX12_strength_55 ?_
    refine x_goto (t := 61) dX12_strength_56 rfl ?_
    exact x_iret dX12_strength_61 rfl (Nat.le_of_ble_eq_true rfl) (Nat.le_of_ble_eq_true rfl) rfl rfl rfl rfl rfl
  · show x_M X l yX12_strength cX12_strength 1 (some .int) 0 0 0 [.int (xI 9)] false N sh D _ false N sh _
    refine x_ofW (by decide +kernel) hl (by simp [Value.category]) (by simp) ?_
    refine x_iload_n dX12_strength_0 x_get_1_0 ?_
    refine x_iconst dX12_strength_1 ?_
    refine r_icmp_ne (t := 9) dX12_strength_2 rfl ⟨by decide, by decide⟩ ⟨by decide, by decide⟩ (fun hc2 => ?_) (fun hc2 => absurd hc2 (by decide))
    refine x_iload_n dX12_strength_9 x_get_1_0 ?_
    refine x_iconst dX12_strength_10 ?_
    refine r_icmp_ne (t := 18) dX12_strength_11 rfl ⟨by decide, by decide⟩ ⟨by decide, by decide⟩ (fun hc11 => ?_) (fun hc11 => absurd hc11 (by decide))
    refine x_iload_n dX12_strength_18 x_get_1_0 ?_
    refine x_iconst dX12_strength_19 ?_
    refine r_icmp_ne (t := 27) dX12_strength_20 rfl ⟨by decide, by decide⟩ ⟨by decide, by decide⟩ (fun hc20 => ?_) (fun hc20 => absurd hc20 (by decide))
    refine x_iload_n dX12_strength_27 x_get_1_0 ?_
    refine x_bipush dX12_strength_28 rfl ?_
    refine r_icmp_eq (t := 39) dX12_strength_30 rfl ⟨by decide, by decide⟩ ⟨by decide, by decide⟩ (fun hc30 => absurd hc30 (by decide)) (fun hc30 => ?_)
    refine x_iload_n dX12_strength_33 x_get_1_0 ?_
    refine x_bipush dX12_strength_34 rfl ?_
    refine r_icmp_ne (t := 43) dX12_strength_36 rfl ⟨by decide, by decide⟩ ⟨by decide, by decide⟩ (fun hc36 => ?_) (fun hc36 => absurd hc36 (by decide))
    refine x_iload_n dX12_strength_43 x_get_1_0 ?_
    refine x_bipush dX12_strength_44 rfl ?_
    refine r_icmp_eq (t := 55) dX12_strength_46 rfl ⟨by decide, by decide⟩ ⟨by decide, by decide⟩ (fun hc46 => absurd hc46 (by decide)) (fun hc46 => ?_)
    refine x_iload_n dX12_strength_49 x_get_1_0 ?_
    refine x_bipush dX12_strength_50 rfl ?_
    refine r_icmp_ne (t := 59) dX12_strength_52 rfl ⟨by decide, by decide⟩ ⟨by decide, by decide⟩ (fun hc52 => absurd hc52 (by decide)) (fun hc52 => ?_)
    refine x_iconst dX12_strength_55 ?_
    refine x_goto (t := 61) dX12_strength_56 rfl ?_
    exact x_iret dX12_strength_61 rfl (Nat.le_of_ble_eq_true rfl) (Nat.le_of_ble_eq_true rfl) rfl rfl rfl rfl rfl
  · show x_M X l yX12_strength cX12_strength 1 (some .int) 0 0 0 [.int (xI 10)] false N sh D _ false N sh _
    refine x_ofW (by decide +kernel) hl (by simp [Value.category]) (by simp) ?_
    refine x_iload_n dX12_strength_0 x_get_1_0 ?_
    refine x_iconst dX12_strength_1 ?_
    refine r_icmp_ne (t := 9) dX12_strength_2 rfl ⟨by decide, by decide⟩ ⟨by decide, by decide⟩ (fun hc2 => ?_) (fun hc2 => absurd hc2 (by decide))
    refine x_iload_n dX12_strength_9 x_get_1_0 ?_
    refine x_iconst dX12_strength_10 ?_
    refine r_icmp_ne (t := 18) dX12_strength_11 rfl ⟨by decide, by decide⟩ ⟨by decide, by decide⟩ (fun hc11 => ?_) (fun hc11 => absurd hc11 (by decide))
    refine x_iload_n dX12_strength_18 x_get_1_0 ?_
    refine x_iconst dX12_strength_19 ?_
    refine r_icmp_ne (t := 27) dX12_strength_20 rfl ⟨by decide, by decide⟩ ⟨by decide, by decide⟩ (fun hc20 => ?_) (fun hc20 => absurd hc20 (by decide))
    refine x_iload_n dX12_strength_27 x_get_1_0 ?_
    refine x_bipush dX12_strength_28 rfl ?_
    refine r_icmp_eq (t := 39) dX12_strength_30 rfl ⟨by decide, by decide⟩ ⟨by decide, by decide⟩ (fun hc30 => absurd hc30 (by decide)) (fun hc30 => ?_)
    refine x_iload_n dX12_strength_33 x_get_1_0 ?_
    refine x_bipush dX12_strength_34 rfl ?_
    refine r_icmp_ne (t := 43) dX12_strength_36 rfl ⟨by decide, by decide⟩ ⟨by decide, by decide⟩ (fun hc36 => ?_) (fun hc36 => absurd hc36 (by decide))
    refine x_iload_n dX12_strength_43 x_get_1_0 ?_
    refine x_bipush dX12_strength_44 rfl ?_
    refine r_icmp_eq (t := 55) dX12_strength_46 rfl ⟨by decide, by decide⟩ ⟨by decide, by decide⟩ (fun hc46 => absurd hc46 (by decide)) (fun hc46 => ?_)
    refine x_iload_n dX12_strength_49 x_get_1_0 ?_
    refine x_bipush dX12_strength_50 rfl ?_
    refine r_icmp_ne (t := 59) dX12_strength_52 rfl ⟨by decide, by decide⟩ ⟨by decide, by decide⟩ (fun hc52 => ?_) (fun hc52 => absurd hc52 (by decide))
    refine x_bipush dX12_strength_59 rfl ?_
    exact x_iret dX12_strength_61 rfl (Nat.le_of_ble_eq_true rfl) (Nat.le_of_ble_eq_true rfl) rfl rfl rfl rfl rfl
  · show x_M X l yX12_strength cX12_strength 1 (some .int) 0 0 0 [.int (xI 11)] false N sh D _ false N sh _
    refine x_ofW (by decide +kernel) hl (by simp [Value.category]) (by simp) ?_
    refine x_iload_n dX12_strength_0 x_get_1_0 ?_
    refine x_iconst dX12_strength_1 ?_
    refine r_icmp_ne (t := 9) dX12_strength_2 rfl ⟨by decide, by decide⟩ ⟨by decide, by decide⟩ (fun hc2 => ?_) (fun hc2 => absurd hc2 (by decide))
    refine x_iload_n dX12_strength_9 x_get_1_0 ?_
    refine x_iconst dX12_strength_10 ?_
    refine r_icmp_ne (t := 18) dX12_strength_11 rfl ⟨by decide, by decide⟩ ⟨by decide, by decide⟩ (fun hc11 => ?_) (fun hc11 => absurd hc11 (by decide))
    refine x_iload_n dX12_strength_18 x_get_1_0 ?_
    refine x_iconst dX12_strength_19 ?_
    refine r_icmp_ne (t := 27) dX12_strength_20 rfl ⟨by decide, by decide⟩ ⟨by decide, by decide⟩ (fun hc20 => ?_) (fun hc20 => absurd hc20 (by decide))
    refine x_iload_n dX12_strength_27 x_get_1_0 ?_
    refine x_bipush dX12_strength_28 rfl ?_
    refine r_icmp_eq (t := 39) dX12_strength_30 rfl ⟨by decide, by decide⟩ ⟨by decide, by decide⟩ (fun hc30 => absurd hc30 (by decide)) (fun hc30 => ?_)
    refine x_iload_n dX12_strength_33 x_get_1_0 ?_
    refine x_bipush dX12_strength_34 rfl ?_
    refine r_icmp_ne (t := 43) dX12_strength_36 rfl ⟨by decide, by decide⟩ ⟨by decide, by decide⟩ (fun hc36 => ?_) (fun hc36 => absurd hc36 (by decide))
    refine x_iload_n dX12_strength_43 x_get_1_0 ?_
    refine x_bipush dX12_strength_44 rfl ?_
    refine r_icmp_eq (t := 55) dX12_strength_46 rfl ⟨by decide, by decide⟩ ⟨by decide, by decide⟩ (fun hc46 => absurd hc46 (by decide)) (fun hc46 => ?_)
    refine x_iload_n dX12_strength_49 x_get_1_0 ?_
    refine x_bipush dX12_strength_50 rfl ?_
    refine r_icmp_ne (t := 59) dX12_strength_52 rfl ⟨by decide, by decide⟩ ⟨by decide, by decide⟩ (fun hc52 => ?_) (fun hc52 => absurd hc52 (by decide))
    refine x_bipush dX12_strength_59 rfl ?_
    exact x_iret dX12_strength_61 rfl (Nat.le_of_ble_eq_true rfl) (Nat.le_of_ble_eq_true rfl) rfl rfl rfl rfl rfl
set_option maxHeartbeats 4000000 in
theorem m_drops {X : xC} {l : Launch} (hl : l.stackTraces = false) {N : Nat} {sh : xS} {D : xM} (hM : is_Md N sh) {K C : List Int} (hy : yk K C D) (hb : C.length + K.length ≤ 1400) (hkb : K.length ≤ 900) {p : Nat} (hp : p ≤ 6) : x_M X l yX12_drops cX12_drops 2 (none) 1 0 0 [.ref (x_b X + 62), .int (xI (p : Int))] false N sh D (.inl none) false N sh (fun d => yk (dc p K C).1 (dc p K C).2 d ∧ yf D d) := by
  have s62 := md_62 hM
  have n62 : 62 < N := md_n hM (by decide)
  have s80 := md_80 hM
  have n80 : 80 < N := md_n hM (by decide)
  have gL : ∀ (K1 C1 : List Int) (d : xM), yk K1 C1 d → C1.length + K1.length ≤ 1400 → K1.length ≤ 900 → dc p K C = dc p K1 C1 → yf D d → x_W (X, l, yX12_drops, cX12_drops, 2, none, x_room 1 0 0, 0, 0, (.inl none), N, sh, (fun d => yk (dc p K C).1 (dc p K C).2 d ∧ yf D d), false, []) 0 [some (.ref (x_b X + 62)), some (.int (xI (p : Int)))] [] 0 0 false N sh d := by
    intro K1
    induction K1 with
    | nil =>
      intro C1 d hyd hb1 hkb1 hX hf
      have h30 : d 62 30 = 0 := hyd.1
      refine x_aload_n dX12_drops_0 x_get_2_0 ?_
      refine x_getI 30 dX12_drops_1 fX_12_192 rfl n62 s62 (by rfl) ?_
      try simp (disch := decide) only [x_up_s, x_up_n, x_up_up, x_u1_s, x_u1_n, h30]
      refine r_if_le (t := 68) dX12_drops_4 rfl ⟨by omega, by omega⟩ (fun hc4 => ?_) (fun hc4 => absurd hc4 (by omega))
      exact x_vret dX12_drops_68 rfl (Nat.le_of_ble_eq_true rfl) (Nat.le_of_ble_eq_true rfl) rfl rfl rfl ⟨by rw [hX]; exact hyd, hf⟩ rfl
    | cons s K1 ih =>
      intro C1 d hyd hb1 hkb1 hX hf
      obtain ⟨h1, ⟨h2, h2b⟩, h3, h4, h5⟩ := id hyd
      have h1' : d 62 30 = (K1.length : Int) + 1 := by rw [h1, List.length_cons]; push_cast; rfl
      rw [List.length_cons] at hb1 hkb1
      have hs := h5 s List.mem_cons_self
      have hi : (K1.length : Int) + 1 - 1 = (K1.length : Nat) := by omega
      rw [dc_c] at hX
      by_cases h0 : s = 0
      · rw [if_pos (Or.inl h0)] at hX
        refine x_aload_n dX12_drops_0 x_get_2_0 ?_
        refine x_getI 30 dX12_drops_1 fX_12_192 rfl n62 s62 (by rfl) ?_
        try simp (disch := decide) only [x_up_s, x_up_n, x_up_up, x_u1_s, x_u1_n, h1', hi, h2]
        refine r_if_le (t := 68) dX12_drops_4 rfl ⟨by omega, by omega⟩ (fun hc4 => absurd hc4 (by omega)) (fun hc4 => ?_)
        refine x_aload_n dX12_drops_7 x_get_2_0 ?_
        refine x_getR dX12_drops_8 fX_12_68 n62 s62 (by rfl) ?_
        refine x_aload_n dX12_drops_11 x_get_2_0 ?_
        refine x_getI 30 dX12_drops_12 fX_12_192 rfl n62 s62 (by rfl) ?_
        try simp (disch := decide) only [x_up_s, x_up_n, x_up_up, x_u1_s, x_u1_n, h1', hi, h2]
        refine x_iconst dX12_drops_15 ?_
        refine x_isub dX12_drops_16 ?_
        refine x_iald dX12_drops_17 n80 s80 (by omega) (by omega) (by decide) ?_
        try simp (disch := decide) only [x_up_s, x_up_n, x_up_up, x_u1_s, x_u1_n, h1', hi, h2]
        refine x_callS (As := [_]) dX12_drops_18 w_12_195 (m_isOpen hl hs) rfl rfl (Nat.le_of_ble_eq_true rfl) (Nat.le_of_ble_eq_true rfl) (Nat.le_of_ble_eq_true rfl) (Nat.le_of_ble_eq_true rfl) (Nat.le_of_ble_eq_true rfl) ?_
        intro d hd
        obtain rfl := Eq.symm hd
        refine b_ifne (t := 68) dX12_drops_21 rfl (fun hc21 => ?_) (fun hc21 => absurd hc21 (fun hh => hh h0))
        exact x_vret dX12_drops_68 rfl (Nat.le_of_ble_eq_true rfl) (Nat.le_of_ble_eq_true rfl) rfl rfl rfl ⟨by rw [hX]; exact hyd, hf⟩ rfl
      · have hs2 : -15 ≤ s ∧ s ≤ -7 := by omega
        have how := ((op_w_in hs).2 h0).1
        have hsr : sr s ≤ 6 := by unfold sr; repeat' split
                                  all_goals omega
        by_cases hl2 : sr s < p
        · rw [if_pos (Or.inr hl2)] at hX
          refine x_aload_n dX12_drops_0 x_get_2_0 ?_
          refine x_getI 30 dX12_drops_1 fX_12_192 rfl n62 s62 (by rfl) ?_
          try simp (disch := decide) only [x_up_s, x_up_n, x_up_up, x_u1_s, x_u1_n, h1', hi, h2]
          refine r_if_le (t := 68) dX12_drops_4 rfl ⟨by omega, by omega⟩ (fun hc4 => absurd hc4 (by omega)) (fun hc4 => ?_)
          refine x_aload_n dX12_drops_7 x_get_2_0 ?_
          refine x_getR dX12_drops_8 fX_12_68 n62 s62 (by rfl) ?_
          refine x_aload_n dX12_drops_11 x_get_2_0 ?_
          refine x_getI 30 dX12_drops_12 fX_12_192 rfl n62 s62 (by rfl) ?_
          try simp (disch := decide) only [x_up_s, x_up_n, x_up_up, x_u1_s, x_u1_n, h1', hi, h2]
          refine x_iconst dX12_drops_15 ?_
          refine x_isub dX12_drops_16 ?_
          refine x_iald dX12_drops_17 n80 s80 (by omega) (by omega) (by decide) ?_
          try simp (disch := decide) only [x_up_s, x_up_n, x_up_up, x_u1_s, x_u1_n, h1', hi, h2]
          refine x_callS (As := [_]) dX12_drops_18 w_12_195 (m_isOpen hl hs) rfl rfl (Nat.le_of_ble_eq_true rfl) (Nat.le_of_ble_eq_true rfl) (Nat.le_of_ble_eq_true rfl) (Nat.le_of_ble_eq_true rfl) (Nat.le_of_ble_eq_true rfl) ?_
          intro d hd
          obtain rfl := Eq.symm hd
          refine b_ifne (t := 68) dX12_drops_21 rfl (fun hc21 => absurd hc21 (h0)) (fun hc21 => ?_)
          refine x_aload_n dX12_drops_24 x_get_2_0 ?_
          refine x_getR dX12_drops_25 fX_12_68 n62 s62 (by rfl) ?_
          refine x_aload_n dX12_drops_28 x_get_2_0 ?_
          refine x_getI 30 dX12_drops_29 fX_12_192 rfl n62 s62 (by rfl) ?_
          try simp (disch := decide) only [x_up_s, x_up_n, x_up_up, x_u1_s, x_u1_n, h1', hi, h2]
          refine x_iconst dX12_drops_32 ?_
          refine x_isub dX12_drops_33 ?_
          refine x_iald dX12_drops_34 n80 s80 (by omega) (by omega) (by decide) ?_
          try simp (disch := decide) only [x_up_s, x_up_n, x_up_up, x_u1_s, x_u1_n, h1', hi, h2]
          rw [how]
          refine x_callS (As := [_]) dX12_drops_35 w_12_198 (m_strength hl hs2) rfl rfl (Nat.le_of_ble_eq_true rfl) (Nat.le_of_ble_eq_true rfl) (Nat.le_of_ble_eq_true rfl) (Nat.le_of_ble_eq_true rfl) (Nat.le_of_ble_eq_true rfl) ?_
          intro d hd
          obtain rfl := Eq.symm hd
          refine x_iload_n dX12_drops_38 x_get_2_1 ?_
          refine r_icmp_lt (t := 68) dX12_drops_39 rfl ⟨by omega, by omega⟩ ⟨by omega, by omega⟩ (fun hc39 => ?_) (fun hc39 => absurd hc39 (by omega))
          exact x_vret dX12_drops_68 rfl (Nat.le_of_ble_eq_true rfl) (Nat.le_of_ble_eq_true rfl) rfl rfl rfl ⟨by rw [hX]; exact hyd, hf⟩ rfl
        · rw [if_neg (fun e => e.elim h0 hl2)] at hX
          have hyk : yk K1 C1 (x_up d 62 (x_u1 (d 62) 30 (K1.length : Nat))) := by
            refine ⟨by rw [x_up_s, x_u1_s], by rw [x_up_n (by decide)]; exact h2b, by rw [x_up_s, x_u1_n (by decide)]; exact h3, by rw [x_up_n (by decide)]; exact h4, vk_t h5⟩
          have hyf : yf d (x_up d 62 (x_u1 (d 62) 30 (K1.length : Nat))) := ⟨fun j a b c => by rw [x_up_n a], fun i a b => by rw [x_up_s, x_u1_n b]⟩
          refine x_aload_n dX12_drops_0 x_get_2_0 ?_
          refine x_getI 30 dX12_drops_1 fX_12_192 rfl n62 s62 (by rfl) ?_
          try simp (disch := decide) only [x_up_s, x_up_n, x_up_up, x_u1_s, x_u1_n, h1', hi, h2]
          refine r_if_le (t := 68) dX12_drops_4 rfl ⟨by omega, by omega⟩ (fun hc4 => absurd hc4 (by omega)) (fun hc4 => ?_)
          refine x_aload_n dX12_drops_7 x_get_2_0 ?_
          refine x_getR dX12_drops_8 fX_12_68 n62 s62 (by rfl) ?_
          refine x_aload_n dX12_drops_11 x_get_2_0 ?_
          refine x_getI 30 dX12_drops_12 fX_12_192 rfl n62 s62 (by rfl) ?_
          try simp (disch := decide) only [x_up_s, x_up_n, x_up_up, x_u1_s, x_u1_n, h1', hi, h2]
          refine x_iconst dX12_drops_15 ?_
          refine x_isub dX12_drops_16 ?_
          refine x_iald dX12_drops_17 n80 s80 (by omega) (by omega) (by decide) ?_
          try simp (disch := decide) only [x_up_s, x_up_n, x_up_up, x_u1_s, x_u1_n, h1', hi, h2]
          refine x_callS (As := [_]) dX12_drops_18 w_12_195 (m_isOpen hl hs) rfl rfl (Nat.le_of_ble_eq_true rfl) (Nat.le_of_ble_eq_true rfl) (Nat.le_of_ble_eq_true rfl) (Nat.le_of_ble_eq_true rfl) (Nat.le_of_ble_eq_true rfl) ?_
          intro d hd
          obtain rfl := Eq.symm hd
          refine b_ifne (t := 68) dX12_drops_21 rfl (fun hc21 => absurd hc21 (h0)) (fun hc21 => ?_)
          refine x_aload_n dX12_drops_24 x_get_2_0 ?_
          refine x_getR dX12_drops_25 fX_12_68 n62 s62 (by rfl) ?_
          refine x_aload_n dX12_drops_28 x_get_2_0 ?_
          refine x_getI 30 dX12_drops_29 fX_12_192 rfl n62 s62 (by rfl) ?_
          try simp (disch := decide) only [x_up_s, x_up_n, x_up_up, x_u1_s, x_u1_n, h1', hi, h2]
          refine x_iconst dX12_drops_32 ?_
          refine x_isub dX12_drops_33 ?_
          refine x_iald dX12_drops_34 n80 s80 (by omega) (by omega) (by decide) ?_
          try simp (disch := decide) only [x_up_s, x_up_n, x_up_up, x_u1_s, x_u1_n, h1', hi, h2]
          rw [how]
          refine x_callS (As := [_]) dX12_drops_35 w_12_198 (m_strength hl hs2) rfl rfl (Nat.le_of_ble_eq_true rfl) (Nat.le_of_ble_eq_true rfl) (Nat.le_of_ble_eq_true rfl) (Nat.le_of_ble_eq_true rfl) (Nat.le_of_ble_eq_true rfl) ?_
          intro d hd
          obtain rfl := Eq.symm hd
          refine x_iload_n dX12_drops_38 x_get_2_1 ?_
          refine r_icmp_lt (t := 68) dX12_drops_39 rfl ⟨by omega, by omega⟩ ⟨by omega, by omega⟩ (fun hc39 => absurd hc39 (by omega)) (fun hc39 => ?_)
          refine x_aload_n dX12_drops_42 x_get_2_0 ?_
          refine x_dup dX12_drops_43 rfl ?_
          refine x_getI 30 dX12_drops_44 fX_12_192 rfl n62 s62 (by rfl) ?_
          try simp (disch := decide) only [x_up_s, x_up_n, x_up_up, x_u1_s, x_u1_n, h1', hi, h2]
          refine x_iconst dX12_drops_47 ?_
          refine x_isub dX12_drops_48 ?_
          refine x_putI 30 dX12_drops_49 fX_12_192 rfl tX_12_30 n62 s62 (by rfl) ?_
          try simp (disch := decide) only [x_up_s, x_up_n, x_up_up, x_u1_s, x_u1_n, h1', hi, h2]
          refine x_aload_n dX12_drops_52 x_get_2_0 ?_
          refine x_aload_n dX12_drops_53 x_get_2_0 ?_
          refine x_getR dX12_drops_54 fX_12_68 n62 s62 (by rfl) ?_
          refine x_aload_n dX12_drops_57 x_get_2_0 ?_
          refine x_getI 30 dX12_drops_58 fX_12_192 rfl n62 s62 (by rfl) ?_
          try simp (disch := decide) only [x_up_s, x_up_n, x_up_up, x_u1_s, x_u1_n, h1', hi, h2]
          refine x_iald dX12_drops_61 n80 s80 (by omega) (by omega) (by decide) ?_
          try simp (disch := decide) only [x_up_s, x_up_n, x_up_up, x_u1_s, x_u1_n, h1', hi, h2]
          rw [how]
          refine x_callV (As := [_]) dX12_drops_62 w_12_201 (m_puts hl hM hyk (by omega)) (by assumption) (by assumption) rfl rfl (Nat.le_of_ble_eq_true rfl) (Nat.le_of_ble_eq_true rfl) (Nat.le_of_ble_eq_true rfl) (Nat.le_of_ble_eq_true rfl) (Nat.le_of_ble_eq_true rfl) ?_
          rintro d2 ⟨hd2, hf2⟩
          refine x_goto (t := 0) dX12_drops_65 rfl ?_
          exact ih _ _ hd2 (by rw [List.length_append, List.length_singleton]; omega) (by omega) hX (yf_tr hf (yf_tr hyf hf2))
  refine x_ofW (by decide +kernel) hl (by simp [Value.category]) (by simp) ?_
  exact gL K C D hy hb hkb rfl yf_rf
theorem m_isOpened {X : xC} {l : Launch} (hl : l.stackTraces = false) {N : Nat} {sh : xS} {D : xM} (hM : is_Md N sh) {K C : List Int} (hy : yk K C D) (hkb : K.length ≤ 900) : x_M X l yX12_isOpened cX12_isOpened 2 (some .boolean) 1 0 0 [.ref (x_b X + 62)] false N sh D (.inl (some (.int (xI (x_B (0 ∈ K)))))) false N sh (x_is (D)) := by
  have s62 := md_62 hM
  have n62 : 62 < N := md_n hM (by decide)
  have s80 := md_80 hM
  have n80 : 80 < N := md_n hM (by decide)
  obtain ⟨h1, h2, h3, h4, h5⟩ := id hy
  have gL : ∀ (K1 : List Int), wk K1 (D 80) → vk K1 → K1.length ≤ 900 → ((0 : Int) ∈ K ↔ 0 ∈ K1) → x_W (X, l, yX12_isOpened, cX12_isOpened, 2, (some .boolean), x_room 1 0 0, 0, 0, (.inl (some (.int (xI (x_B (0 ∈ K)))))), N, sh, (x_is (D)), false, []) 7 [some (.ref (x_b X + 62)), some (.int (xI ((K1.length : Int) - 1)))] [] 0 0 false N sh D := by
    intro K1
    induction K1 with
    | nil =>
      intro w v hk hX
      show x_W (X, l, yX12_isOpened, cX12_isOpened, 2, (some .boolean), x_room 1 0 0, 0, 0, (.inl (some (.int (xI (x_B (0 ∈ K)))))), N, sh, (x_is (D)), false, []) 7 [some (.ref (x_b X + 62)), some (.int (xI (0 - 1)))] [] 0 0 false N sh D
      refine x_iload_n dX12_isOpened_7 x_get_2_1 ?_
      refine r_if_lt (t := 29) dX12_isOpened_8 rfl ⟨by omega, by omega⟩ (fun hc8 => ?_) (fun hc8 => absurd hc8 (by omega))
      refine x_iload_n dX12_isOpened_29 x_get_2_1 ?_
      refine r_if_lt (t := 37) dX12_isOpened_30 rfl ⟨by omega, by omega⟩ (fun hc30 => ?_) (fun hc30 => absurd hc30 (by omega))
      refine x_iconst dX12_isOpened_37 ?_
      exact x_zret dX12_isOpened_38 rfl (by omega) (Nat.le_of_ble_eq_true rfl) (Nat.le_of_ble_eq_true rfl) (by rw [x_B, if_neg (fun h => by cases hX.mp h)]) rfl rfl rfl rfl
    | cons s K1 ih =>
      intro w v hk hX
      have hs := v s List.mem_cons_self
      rw [List.length_cons] at hk
      have hi : (((s :: K1).length : Nat) : Int) - 1 = (K1.length : Nat) := by rw [List.length_cons]; omega
      rw [hi]
      have h2 := w.1
      by_cases h0 : s = 0
      · have hin : (0 : Int) ∈ K := hX.mpr (by rw [h0]; exact List.mem_cons_self)
        refine x_iload_n dX12_isOpened_7 x_get_2_1 ?_
        refine r_if_lt (t := 29) dX12_isOpened_8 rfl ⟨by omega, by omega⟩ (fun hc8 => absurd hc8 (by omega)) (fun hc8 => ?_)
        refine x_aload_n dX12_isOpened_11 x_get_2_0 ?_
        refine x_getR dX12_isOpened_12 fX_12_68 n62 s62 (by rfl) ?_
        refine x_iload_n dX12_isOpened_15 x_get_2_1 ?_
        refine x_iald dX12_isOpened_16 n80 s80 (by omega) (by omega) (by decide) ?_
        try simp (disch := decide) only [x_up_s, x_up_n, x_up_up, x_u1_s, x_u1_n, h2]
        refine x_callS (As := [_]) dX12_isOpened_17 w_12_195 (m_isOpen hl hs) rfl rfl (Nat.le_of_ble_eq_true rfl) (Nat.le_of_ble_eq_true rfl) (Nat.le_of_ble_eq_true rfl) (Nat.le_of_ble_eq_true rfl) (Nat.le_of_ble_eq_true rfl) ?_
        intro d hd
        obtain rfl := Eq.symm hd
        refine b_ifne (t := 29) dX12_isOpened_20 rfl (fun hc20 => ?_) (fun hc20 => absurd hc20 (fun hh => hh h0))
        refine x_iload_n dX12_isOpened_29 x_get_2_1 ?_
        refine r_if_lt (t := 37) dX12_isOpened_30 rfl ⟨by omega, by omega⟩ (fun hc30 => absurd hc30 (by omega)) (fun hc30 => ?_)
        refine x_iconst dX12_isOpened_33 ?_
        refine x_goto (t := 38) dX12_isOpened_34 rfl ?_
        exact x_zret dX12_isOpened_38 rfl (by omega) (Nat.le_of_ble_eq_true rfl) (Nat.le_of_ble_eq_true rfl) (by rw [x_B, if_pos hin]) rfl rfl rfl rfl
      · have hX2 : (0 : Int) ∈ K ↔ 0 ∈ K1 := by rw [hX, List.mem_cons]; exact ⟨fun h => h.resolve_left (fun e => h0 e.symm), Or.inr⟩
        refine x_iload_n dX12_isOpened_7 x_get_2_1 ?_
        refine r_if_lt (t := 29) dX12_isOpened_8 rfl ⟨by omega, by omega⟩ (fun hc8 => absurd hc8 (by omega)) (fun hc8 => ?_)
        refine x_aload_n dX12_isOpened_11 x_get_2_0 ?_
        refine x_getR dX12_isOpened_12 fX_12_68 n62 s62 (by rfl) ?_
        refine x_iload_n dX12_isOpened_15 x_get_2_1 ?_
        refine x_iald dX12_isOpened_16 n80 s80 (by omega) (by omega) (by decide) ?_
        try simp (disch := decide) only [x_up_s, x_up_n, x_up_up, x_u1_s, x_u1_n, h2]
        refine x_callS (As := [_]) dX12_isOpened_17 w_12_195 (m_isOpen hl hs) rfl rfl (Nat.le_of_ble_eq_true rfl) (Nat.le_of_ble_eq_true rfl) (Nat.le_of_ble_eq_true rfl) (Nat.le_of_ble_eq_true rfl) (Nat.le_of_ble_eq_true rfl) ?_
        intro d hd
        obtain rfl := Eq.symm hd
        refine b_ifne (t := 29) dX12_isOpened_20 rfl (fun hc20 => absurd hc20 (h0)) (fun hc20 => ?_)
        refine x_iinc dX12_isOpened_23 x_get_2_1 (Nat.le_of_ble_eq_true rfl) rfl x_set_2_1 ?_
        refine x_goto (t := 7) dX12_isOpened_26 rfl ?_
        exact ih w.2 (vk_t v) (by omega) hX2
  refine x_ofW (by decide +kernel) hl (by simp [Value.category]) (by simp) ?_
  refine x_aload_n dX12_isOpened_0 x_get_2_0 ?_
  refine x_getI 30 dX12_isOpened_1 fX_12_192 rfl n62 s62 (by rfl) ?_
  try simp (disch := decide) only [x_up_s, x_up_n, x_up_up, x_u1_s, x_u1_n, h1]
  refine x_iconst dX12_isOpened_4 ?_
  refine x_isub dX12_isOpened_5 ?_
  refine x_istore_n dX12_isOpened_6 (Nat.le_of_ble_eq_true rfl) rfl x_set_2_1 ?_
  exact gL K h2 h5 hkb Iff.rfl
end M9997
