section M71
/-! ===== the Model's acts ===== -/
def mact (T C : Nat) (D : xM) (L : List (Int → Int)) : Prop := D 62 44 = L.length ∧ L.length ≤ 40 ∧ ∀ (k : Nat) (g : Int → Int), L[k]? = some g → mr T C g (D 83) (85 * (k : Int))
theorem mact_of {T C : Nat} {D d : xM} {L : List (Int → Int)} (h : mact T C D L) (h1 : d 62 44 = D 62 44) (h2 : d 83 = D 83) : mact T C d L := by
  unfold mact at h ⊢
  rw [h1, h2]
  exact h
/-- an act's frame -/
def am (D d : xM) : Prop := (∀ j, j ≠ 62 → j ≠ 82 → j ≠ 83 → j ≠ 84 → j ≠ 85 → d j = D j) ∧ (∀ i, i ≠ 0 → i ≠ 44 → i ≠ 47 → d 62 i = D 62 i) ∧ d 62 0 = 0 ∧ ∀ j, x_r (d 84 j)
theorem am_mq {N : Nat} {sh : xS} {D d : xM} {T C W : Nat} {G : Ldt} (h : mq N sh D T C W G) (hw : am D d) : mq N sh d T C W G := mq_of h (fun i _ _ => hw.2.1 i (by omega) (by omega) (by omega)) (fun j a b => hw.1 j (by omega) (by omega) (by omega) (by omega) (by omega))
theorem mr_sh {T C : Nat} (hT : T ≤ 8) (hC : C ≤ 10) {f F H : Int → Int} {b b' : Int} (h : mr T C f F b) (hh : ∀ i, 0 ≤ i → i < 85 → H (b' + i) = F (b + i)) : mr T C f H b' := by
  intro i hi
  have := lv_in hT hC hi
  rw [hh i this.1 this.2]
  exact h i hi
theorem mact_keep {T C : Nat} (hT : T ≤ 8) (hC : C ≤ 10) {D d : xM} {L : List (Int → Int)} {f A : Int → Int} {n : Nat} (h : mact T C D L) (hn : n = if L.length = 40 then 39 else L.length) (hA : if L.length = 40 then A = x_cpy (D 83) (D 83) 85 0 3315 else A = D 83) (hf : mr T C f (D 82) 0) (h83 : d 83 = x_cpy (D 82) A 0 (85 * (n : Int)) 85) (h44 : d 62 44 = (n : Int) + 1) : mact T C d (l_keep L f) := by
  obtain ⟨h1, h2, h3⟩ := h
  have hl : (l_keep L f).length = n + 1 := by
    unfold l_keep
    by_cases hc : L.length = 40
    · rw [if_pos hc] at hn ⊢
      simp [hc, hn]
    · rw [if_neg hc] at hn ⊢
      simp [hn]
  refine ⟨by rw [h44, hl]; push_cast; rfl, by rw [hl]; by_cases hc : L.length = 40 <;> simp [hc] at hn <;> omega, fun k g hg => ?_⟩
  rw [h83]
  have hk : k < n + 1 := by
    have := (List.getElem?_eq_some_iff.mp hg).1
    rwa [hl] at this
  by_cases hkn : k = n
  · subst hkn
    have hgf : g = f := by
      unfold l_keep at hg
      by_cases hc : L.length = 40
      · rw [if_pos hc] at hg hn
        rw [List.getElem?_append_right (by simp [hc, hn])] at hg
        simp [hc, hn] at hg
        exact hg.symm
      · rw [if_neg hc] at hg hn
        rw [List.getElem?_append_right (by omega)] at hg
        simp [hn] at hg
        exact hg.symm
    rw [hgf]
    exact mr_cpy hT hC hf
  · by_cases hc : L.length = 40
    · rw [if_pos hc] at hn hA
      have hg2 : L[k + 1]? = some g := by
        unfold l_keep at hg
        rw [if_pos hc, List.getElem?_append_left (by simp [hc]; omega)] at hg
        rw [← hg]
        simp
      refine mr_sh hT hC (h3 (k + 1) g hg2) (fun i h0 h1 => ?_)
      rw [x_cpy_out (by omega), hA]
      have := x_cpy_in (F := D 83) (G := D 83) (sp := 85) (dp := 0) (k := 3315) (i := 85 * (k : Int) + i) (by omega) (by omega)
      rw [Int.zero_add] at this
      rw [this]
      congr 1
      push_cast
      omega
    · rw [if_neg hc] at hn hA
      have hg2 : L[k]? = some g := by
        unfold l_keep at hg
        rw [if_neg hc, List.getElem?_append_left (by omega)] at hg
        exact hg
      refine mr_sh hT hC (h3 k g hg2) (fun i h0 h1 => ?_)
      rw [x_cpy_out (by omega), hA]
set_option maxHeartbeats 8000000 in
theorem m_keeps {X : xC} {l : Launch} (hl : l.stackTraces = false) {N : Nat} {sh : xS} {D : xM} {T C W : Nat} {G : Ldt} (hq : mq N sh D T C W G) {f : Int → Int} (hr : mr T C f (D 82) 0) {L : List (Int → Int)} (hA : mact T C D L) : x_M X l yX12_keeps cX12_keeps 2 (none) 2 0 0 [.ref (x_b X + 62)] false N sh D (.inl none) false N sh (fun d => (∀ j, j ≠ 62 → j ≠ 83 → d j = D j) ∧ (∀ i, i ≠ 44 → d 62 i = D 62 i) ∧ mact T C d (l_keep L f)) := by
  obtain ⟨hM, hT, hTb, hW, hWb, hC, hCb, hmk, ⟨hG1, hG2, hG3⟩, hod⟩ := id hq
  have s62 := md_62 hM
  have n62 : 62 < N := md_n hM (by decide)
  have s83 := md_83 hM
  have n83 : 83 < N := md_n hM (by decide)
  have s82 := md_82 hM
  have n82 : 82 < N := md_n hM (by decide)
  obtain ⟨ha1, ha2, ha3⟩ := id hA
  have two : ∀ (A : Int → Int) (n : Nat), n = (if L.length = 40 then 39 else L.length) → (if L.length = 40 then A = x_cpy (D 83) (D 83) 85 0 3315 else A = D 83) → ∀ d : xM, (∀ j, j ≠ 62 → j ≠ 83 → d j = D j) → (∀ i, i ≠ 44 → d 62 i = D 62 i) → d 62 44 = (n : Int) → d 83 = A → ∀ o : Option Value, x_W (X, l, yX12_keeps, cX12_keeps, 2, none, x_room 2 0 0, 0, 0, (.inl none), N, sh, (fun d => (∀ j, j ≠ 62 → j ≠ 83 → d j = D j) ∧ (∀ i, i ≠ 44 → d 62 i = D 62 i) ∧ mact T C d (l_keep L f)), false, []) 50 [some (.ref (x_b X + 62)), o] [] 0 0 false N sh d := by
    intro A n hn hAA d hd1 hd2 hd3 hd4 o
    have hn40 : n < 40 := by split at hn <;> omega
    have hloop : ∀ k : Nat, k ≤ 85 → x_W (X, l, yX12_keeps, cX12_keeps, 2, none, x_room 2 0 0, 0, 0, (.inl none), N, sh, (fun d => (∀ j, j ≠ 62 → j ≠ 83 → d j = D j) ∧ (∀ i, i ≠ 44 → d 62 i = D 62 i) ∧ mact T C d (l_keep L f)), false, []) 52 [some (.ref (x_b X + 62)), some (.int (xI (k : Int)))] [] 0 0 false N sh (x_up d 83 (x_cpy (D 82) A 0 (85 * (n : Int)) ((k : Nat) : Int))) := by
      refine x_down 85 ?_ ?_
      · refine x_iload_n dX12_keeps_52 x_get_2_1 ?_
        refine x_bipush dX12_keeps_53 rfl ?_
        refine r_icmp_ge (t := 84) dX12_keeps_55 rfl ⟨by omega, by omega⟩ ⟨by omega, by omega⟩ (fun hc55 => ?_) (fun hc55 => absurd hc55 (by omega))
        refine x_aload_n dX12_keeps_84 x_get_2_0 ?_
        refine x_dup dX12_keeps_85 rfl ?_
        refine x_getI 44 dX12_keeps_86 fX_12_294 rfl n62 s62 (by rfl) ?_
        try simp (disch := decide) only [x_up_s, x_up_n, x_up_up, x_u1_s, x_u1_n, hd3]
        refine x_iconst dX12_keeps_89 ?_
        refine x_iadd dX12_keeps_90 ?_
        refine x_putI 44 dX12_keeps_91 fX_12_294 rfl tX_12_44 n62 s62 (by rfl) ?_
        exact x_vret dX12_keeps_94 rfl (Nat.le_of_ble_eq_true rfl) (Nat.le_of_ble_eq_true rfl) rfl rfl rfl ⟨fun j a b => by rw [x_up_n a, x_up_n b]; exact hd1 j a b, fun i a => by rw [x_up_s, x_u1_n a, x_up_n (by decide)]; exact hd2 i a, mact_keep hTb hCb hA hn hAA hr (by rw [x_up_n (by decide), x_up_s]; rfl) (by rw [x_up_s, x_u1_s])⟩ rfl
      · intro k hk ih
        have e82 : d 82 = D 82 := hd1 82 (by decide) (by decide)
        rw [← x_cpy_s, Int.zero_add] at ih
        refine x_iload_n dX12_keeps_52 x_get_2_1 ?_
        refine x_bipush dX12_keeps_53 rfl ?_
        refine r_icmp_ge (t := 84) dX12_keeps_55 rfl ⟨by omega, by omega⟩ ⟨by omega, by omega⟩ (fun hc55 => absurd hc55 (by omega)) (fun hc55 => ?_)
        refine x_aload_n dX12_keeps_58 x_get_2_0 ?_
        refine x_getR dX12_keeps_59 fX_12_78 n62 s62 (by rfl) ?_
        refine x_bipush dX12_keeps_62 rfl ?_
        refine x_aload_n dX12_keeps_64 x_get_2_0 ?_
        refine x_getI 44 dX12_keeps_65 fX_12_294 rfl n62 s62 (by rfl) ?_
        try simp (disch := decide) only [x_up_s, x_up_n, x_up_up, x_u1_s, x_u1_n, hd3, e82]
        refine x_imul dX12_keeps_68 ?_
        refine x_iload_n dX12_keeps_69 x_get_2_1 ?_
        refine x_iadd dX12_keeps_70 ?_
        refine x_aload_n dX12_keeps_71 x_get_2_0 ?_
        refine x_getR dX12_keeps_72 fX_12_75 n62 s62 (by rfl) ?_
        refine x_iload_n dX12_keeps_75 x_get_2_1 ?_
        refine x_iald dX12_keeps_76 n82 s82 (by omega) (by omega) (by decide) ?_
        try simp (disch := decide) only [x_up_s, x_up_n, x_up_up, x_u1_s, x_u1_n, hd3, e82]
        refine x_iast dX12_keeps_77 n83 s83 (by omega) (by omega) (by decide) ?_
        try simp (disch := decide) only [x_up_s, x_up_n, x_up_up, x_u1_s, x_u1_n, hd3, e82]
        refine x_iinc dX12_keeps_78 x_get_2_1 (Nat.le_of_ble_eq_true rfl) rfl x_set_2_1 ?_
        refine x_goto (t := 52) dX12_keeps_81 rfl ?_
        exact ih
    refine x_iconst dX12_keeps_50 ?_
    refine x_istore_n dX12_keeps_51 (Nat.le_of_ble_eq_true rfl) rfl x_set_2_1 ?_
    refine x_mem (show d = x_up d 83 (x_cpy (D 82) A 0 (85 * (n : Int)) ((0 : Nat) : Int)) by rw [x_cpy_0, ← hd4, x_up_id]) (hloop 0 (Nat.zero_le _))
  by_cases h40 : L.length = 40
  · have one : ∀ i : Nat, i ≤ 3315 → x_W (X, l, yX12_keeps, cX12_keeps, 2, none, x_room 2 0 0, 0, 0, (.inl none), N, sh, (fun d => (∀ j, j ≠ 62 → j ≠ 83 → d j = D j) ∧ (∀ i, i ≠ 44 → d 62 i = D 62 i) ∧ mact T C d (l_keep L f)), false, []) 12 [some (.ref (x_b X + 62)), some (.int (xI ((i : Int) + 85)))] [] 0 0 false N sh (x_up D 83 (x_cpy (D 83) (D 83) 85 0 ((i : Nat) : Int))) := by
      refine x_down 3315 ?_ ?_
      · refine x_iload_n dX12_keeps_12 x_get_2_1 ?_
        refine x_sipush dX12_keeps_13 rfl ?_
        refine r_icmp_ge (t := 40) dX12_keeps_16 rfl ⟨by omega, by omega⟩ ⟨by omega, by omega⟩ (fun hc16 => ?_) (fun hc16 => absurd hc16 (by omega))
        refine x_aload_n dX12_keeps_40 x_get_2_0 ?_
        refine x_dup dX12_keeps_41 rfl ?_
        refine x_getI 44 dX12_keeps_42 fX_12_294 rfl n62 s62 (by rfl) ?_
        try simp (disch := decide) only [x_up_s, x_up_n, x_up_up, x_u1_s, x_u1_n, ha1, h40]
        refine x_iconst dX12_keeps_45 ?_
        refine x_isub dX12_keeps_46 ?_
        refine x_putI 44 dX12_keeps_47 fX_12_294 rfl tX_12_44 n62 s62 (by rfl) ?_
        refine two (x_cpy (D 83) (D 83) 85 0 ((3315 : Nat) : Int)) 39 (by rw [if_pos h40]) (by rw [if_pos h40]; rfl) _ (fun j a b => by rw [x_up_n a, x_up_n b]) (fun i a => by rw [x_up_s, x_u1_n a, x_up_n (by decide)]) ?_ (by rw [x_up_n (by decide), x_up_s]) _
        rw [x_up_s, x_u1_s]
        try rw [h40]
        rfl
      · intro i hi ih
        have e : (x_cpy (D 83) (D 83) 85 0 ((i : Nat) : Int)) ((i : Int) + 85) = D 83 (85 + (i : Int)) := by rw [x_cpy_out (by omega), Int.add_comm]
        rw [← x_cpy_s, Int.zero_add] at ih
        have ei : (i : Int) + 85 - 85 = (i : Int) := by omega
        refine x_iload_n dX12_keeps_12 x_get_2_1 ?_
        refine x_sipush dX12_keeps_13 rfl ?_
        refine r_icmp_ge (t := 40) dX12_keeps_16 rfl ⟨by omega, by omega⟩ ⟨by omega, by omega⟩ (fun hc16 => absurd hc16 (by omega)) (fun hc16 => ?_)
        refine x_aload_n dX12_keeps_19 x_get_2_0 ?_
        refine x_getR dX12_keeps_20 fX_12_78 n62 s62 (by rfl) ?_
        refine x_iload_n dX12_keeps_23 x_get_2_1 ?_
        refine x_bipush dX12_keeps_24 rfl ?_
        refine x_isub dX12_keeps_26 ?_
        rw [ei]
        refine x_aload_n dX12_keeps_27 x_get_2_0 ?_
        refine x_getR dX12_keeps_28 fX_12_78 n62 s62 (by rfl) ?_
        refine x_iload_n dX12_keeps_31 x_get_2_1 ?_
        refine x_iald dX12_keeps_32 n83 s83 (by omega) (by omega) (by decide) ?_
        try simp (disch := decide) only [x_up_s, x_up_n, x_up_up, x_u1_s, x_u1_n, e]
        refine x_iast dX12_keeps_33 n83 s83 (by omega) (by omega) (by decide) ?_
        try simp (disch := decide) only [x_up_s, x_up_n, x_up_up, x_u1_s, x_u1_n, e]
        refine x_iinc dX12_keeps_34 x_get_2_1 (Nat.le_of_ble_eq_true rfl) rfl x_set_2_1 ?_
        refine x_goto (t := 12) dX12_keeps_37 rfl ?_
        rw [show (i : Int) + 85 + 1 = ((i + 1 : Nat) : Int) + 85 by push_cast; omega]
        exact ih
    refine x_ofW (by decide +kernel) hl (by simp [Value.category]) (by simp) ?_
    refine x_aload_n dX12_keeps_0 x_get_2_0 ?_
    refine x_getI 44 dX12_keeps_1 fX_12_294 rfl n62 s62 (by rfl) ?_
    try simp (disch := decide) only [x_up_s, x_up_n, x_up_up, x_u1_s, x_u1_n, ha1, h40]
    refine x_bipush dX12_keeps_4 rfl ?_
    refine r_icmp_ne (t := 50) dX12_keeps_6 rfl ⟨by omega, by omega⟩ ⟨by omega, by omega⟩ (fun hc6 => absurd hc6 (by omega)) (fun hc6 => ?_)
    refine x_bipush dX12_keeps_9 rfl ?_
    refine x_istore_n dX12_keeps_11 (Nat.le_of_ble_eq_true rfl) rfl x_set_2_1 ?_
    refine x_mem (show D = x_up D 83 (x_cpy (D 83) (D 83) 85 0 ((0 : Nat) : Int)) by rw [x_cpy_0, x_up_id]) (one 0 (Nat.zero_le _))
  · refine x_ofW (by decide +kernel) hl (by simp [Value.category]) (by simp) ?_
    refine x_aload_n dX12_keeps_0 x_get_2_0 ?_
    refine x_getI 44 dX12_keeps_1 fX_12_294 rfl n62 s62 (by rfl) ?_
    try simp (disch := decide) only [x_up_s, x_up_n, x_up_up, x_u1_s, x_u1_n, ha1]
    refine x_bipush dX12_keeps_4 rfl ?_
    refine r_icmp_ne (t := 50) dX12_keeps_6 rfl ⟨by omega, by omega⟩ ⟨by omega, by omega⟩ (fun hc6 => ?_) (fun hc6 => absurd hc6 (by omega))
    exact two (D 83) L.length (by rw [if_neg h40]) (by rw [if_neg h40]) D (fun _ _ _ => rfl) (fun _ _ => rfl) ha1 rfl _
theorem m_refuses {X : xC} {l : Launch} (hl : l.stackTraces = false) {N : Nat} {sh : xS} {D : xM} (hM : is_Md N sh) {w : Int} (h0 : 0 ≤ w) (h1 : w < 3) : x_M X l yX12_refuses cX12_refuses 2 (some .int) 1 0 0 [.ref (x_b X + 62), .int (xI w)] false N sh D (.inl (some (.int (xI (-1))))) false N sh (x_is (x_up D 71 (x_u1 (D 71) w (D 71 w + 1)))) := by
  have s62 := md_62 hM
  have n62 : 62 < N := md_n hM (by decide)
  have s71 := md_71 hM
  have n71 : 71 < N := md_n hM (by decide)
  refine x_ofW (by decide +kernel) hl (by simp [Value.category]) (by simp) ?_
  refine x_aload_n dX12_refuses_0 x_get_2_0 ?_
  refine x_getR dX12_refuses_1 fX_12_41 n62 s62 (by rfl) ?_
  refine x_iload_n dX12_refuses_4 x_get_2_1 ?_
  refine x_dup2 dX12_refuses_5 rfl rfl ?_
  refine x_iald dX12_refuses_6 n71 s71 (by omega) (by omega) (by decide) ?_
  try simp (disch := decide) only [x_up_s, x_up_n, x_up_up, x_u1_s, x_u1_n]
  refine x_iconst dX12_refuses_7 ?_
  refine x_iadd dX12_refuses_8 ?_
  refine x_iast dX12_refuses_9 n71 s71 (by omega) (by omega) (by decide) ?_
  try simp (disch := decide) only [x_up_s, x_up_n, x_up_up, x_u1_s, x_u1_n]
  refine x_iconst dX12_refuses_10 ?_
  exact x_iret dX12_refuses_11 rfl (Nat.le_of_ble_eq_true rfl) (Nat.le_of_ble_eq_true rfl) rfl rfl rfl rfl rfl
theorem m_undo0 {X : xC} {l : Launch} (hl : l.stackTraces = false) {N : Nat} {sh : xS} {D : xM} {T C W : Nat} {G : Ldt} (hq : mq N sh D T C W G) {B : Int} {f : Int → Int} (hk : s_ok B f) (hB : B ≤ 200000) (hr : mr T C f (D 82) 0) (hv84 : ∀ j, x_r (D 84 j)) (hA : mact T C D []) : x_M X l yX12_undo cX12_undo 2 (some .int) 2 0 0 [.ref (x_b X + 62)] false N sh D (.inl (some (.int (xI (-1))))) false N sh (fun d => ms D d ∧ d 62 0 = 0) := by
  obtain ⟨hM, hT, hTb, hW, hWb, hC, hCb, hmk, ⟨hG1, hG2, hG3⟩, hod⟩ := id hq
  have s62 := md_62 hM
  have n62 : 62 < N := md_n hM (by decide)
  have s82 := md_82 hM
  have n82 : 82 < N := md_n hM (by decide)
  have s83 := md_83 hM
  have n83 : 83 < N := md_n hM (by decide)
  have ha1 : D 62 44 = 0 := hA.1
  refine x_ofW (by decide +kernel) hl (by simp [Value.category]) (by simp) ?_
  refine x_aload_n dX12_undo_0 x_get_2_0 ?_
  refine x_iconst dX12_undo_1 ?_
  refine x_putI 0 dX12_undo_2 fX_12_117 rfl tX_12_0 n62 s62 (by rfl) ?_
  have z0 := m_go0 hq hr hv84
  generalize x_up D 62 (x_u1 (D 62) 0 0) = d0 at z0 ⊢
  obtain ⟨q0, t0, ms0, r0, v0⟩ := z0
  have h44 : d0 62 44 = 0 := by rw [ms0.2.1 44 (by decide) (by decide) (by decide)]; exact ha1
  refine x_aload_n dX12_undo_5 x_get_2_0 ?_
  refine x_getI 44 dX12_undo_6 fX_12_294 rfl n62 s62 (by rfl) ?_
  try simp (disch := decide) only [x_up_s, x_up_n, x_up_up, x_u1_s, x_u1_n, h44]
  refine r_if_ne (t := 14) dX12_undo_9 rfl ⟨by omega, by omega⟩ (fun hc9 => absurd hc9 (by omega)) (fun hc9 => ?_)
  refine x_iconst dX12_undo_12 ?_
  exact x_iret dX12_undo_13 rfl (Nat.le_of_ble_eq_true rfl) (Nat.le_of_ble_eq_true rfl) rfl rfl rfl ⟨ms0, t0⟩ rfl
theorem m_undo {X : xC} {l : Launch} (hl : l.stackTraces = false) {N : Nat} {sh : xS} {D : xM} {T C W : Nat} {G : Ldt} (hq : mq N sh D T C W G) {B : Int} {f : Int → Int} (hk : s_ok B f) (hB : B ≤ 200000) (hr : mr T C f (D 82) 0) (hv84 : ∀ j, x_r (D 84 j)) {L : List (Int → Int)} {g : Int → Int} (hA : mact T C D (L ++ [g])) : x_M X l yX12_undo cX12_undo 2 (some .int) 2 0 0 [.ref (x_b X + 62)] false N sh D (.inl (some (.int (xI ((L.length : Int)))))) false N sh (fun d => am D d ∧ mr T C g (d 82) 0 ∧ mact T C d L) := by
  obtain ⟨hM, hT, hTb, hW, hWb, hC, hCb, hmk, ⟨hG1, hG2, hG3⟩, hod⟩ := id hq
  have s62 := md_62 hM
  have n62 : 62 < N := md_n hM (by decide)
  have s82 := md_82 hM
  have n82 : 82 < N := md_n hM (by decide)
  have s83 := md_83 hM
  have n83 : 83 < N := md_n hM (by decide)
  obtain ⟨ha1, ha2, ha3⟩ := id hA
  have ha1 : D 62 44 = (L.length : Int) + 1 := by rw [ha1]; simp
  have ha2 : L.length + 1 ≤ 40 := by simpa using ha2
  have hg := ha3 L.length g (by simp)
  refine x_ofW (by decide +kernel) hl (by simp [Value.category]) (by simp) ?_
  refine x_aload_n dX12_undo_0 x_get_2_0 ?_
  refine x_iconst dX12_undo_1 ?_
  refine x_putI 0 dX12_undo_2 fX_12_117 rfl tX_12_0 n62 s62 (by rfl) ?_
  have z0 := m_go0 hq hr hv84
  have d0_all : ∀ j, j ≠ 62 → j ≠ 82 → (x_up D 62 (x_u1 (D 62) 0 0)) j = D j := fun j a _ => x_up_n a
  have ms0_56 : (x_up D 62 (x_u1 (D 62) 0 0)) 62 56 = D 62 56 := by rw [x_up_s, x_u1_n (by decide)]
  generalize x_up D 62 (x_u1 (D 62) 0 0) = d0 at z0 d0_all ms0_56 ⊢
  obtain ⟨q0, t0, ms0, r0, v0⟩ := z0
  have h44 : d0 62 44 = (L.length : Int) + 1 := by rw [ms0.2.1 44 (by decide) (by decide) (by decide)]; exact ha1
  have h83 : d0 83 = D 83 := ms0.1 83 (by decide) (by decide) (by decide) (by decide) (by decide)
  refine x_aload_n dX12_undo_5 x_get_2_0 ?_
  refine x_getI 44 dX12_undo_6 fX_12_294 rfl n62 s62 (by rfl) ?_
  try simp (disch := decide) only [x_up_s, x_up_n, x_up_up, x_u1_s, x_u1_n, h44]
  refine r_if_ne (t := 14) dX12_undo_9 rfl ⟨by omega, by omega⟩ (fun hc9 => ?_) (fun hc9 => absurd hc9 (by omega))
  refine x_aload_n dX12_undo_14 x_get_2_0 ?_
  refine x_dup dX12_undo_15 rfl ?_
  refine x_getI 44 dX12_undo_16 fX_12_294 rfl n62 s62 (by rfl) ?_
  try simp (disch := decide) only [x_up_s, x_up_n, x_up_up, x_u1_s, x_u1_n, h44]
  refine x_iconst dX12_undo_19 ?_
  refine x_isub dX12_undo_20 ?_
  refine x_putI 44 dX12_undo_21 fX_12_294 rfl tX_12_44 n62 s62 (by rfl) ?_
  rw [show (L.length : Int) + 1 - 1 = (L.length : Int) by omega]
  have k44 : (x_up d0 62 (x_u1 (d0 62) 44 (L.length : Int))) 62 44 = (L.length : Int) := by rw [x_up_s, x_u1_s]
  have k62 : ∀ i, i ≠ 0 → i ≠ 44 → i ≠ 47 → (x_up d0 62 (x_u1 (d0 62) 44 (L.length : Int))) 62 i = D 62 i := fun i a b c => by
    rw [x_up_s, x_u1_n b]
    by_cases h56 : i = 56
    · subst h56; exact ms0_56
    · exact ms0.2.1 i a c h56
  have k0 : (x_up d0 62 (x_u1 (d0 62) 44 (L.length : Int))) 62 0 = 0 := by rw [x_up_s, x_u1_n (by decide)]; exact t0
  have kj : ∀ j, j ≠ 62 → (x_up d0 62 (x_u1 (d0 62) 44 (L.length : Int))) j = d0 j := fun j a => x_up_n a
  generalize x_up d0 62 (x_u1 (d0 62) 44 (L.length : Int)) = d1 at k44 k62 k0 kj ⊢
  have e83 : d1 83 = D 83 := by rw [kj 83 (by decide)]; exact h83
  have hloop : ∀ k : Nat, k ≤ 85 → x_W (X, l, yX12_undo, cX12_undo, 2, (some .int), x_room 2 0 0, 0, 0, (.inl (some (.int (xI ((L.length : Int)))))), N, sh, (fun d => am D d ∧ mr T C g (d 82) 0 ∧ mact T C d L), false, []) 26 [some (.ref (x_b X + 62)), some (.int (xI (k : Int)))] [] 0 0 false N sh (x_up d1 82 (x_cpy (D 83) (d1 82) (85 * (L.length : Int)) 0 ((k : Nat) : Int))) := by
    refine x_down 85 ?_ ?_
    · refine x_iload_n dX12_undo_26 x_get_2_1 ?_
      refine x_bipush dX12_undo_27 rfl ?_
      refine r_icmp_ge (t := 58) dX12_undo_29 rfl ⟨by omega, by omega⟩ ⟨by omega, by omega⟩ (fun hc29 => ?_) (fun hc29 => absurd hc29 (by omega))
      refine x_aload_n dX12_undo_58 x_get_2_0 ?_
      refine x_getI 44 dX12_undo_59 fX_12_294 rfl n62 s62 (by rfl) ?_
      try simp (disch := decide) only [x_up_s, x_up_n, x_up_up, x_u1_s, x_u1_n, k44]
      exact x_iret dX12_undo_62 rfl (Nat.le_of_ble_eq_true rfl) (Nat.le_of_ble_eq_true rfl) rfl rfl rfl ⟨⟨fun j a b c e g => by rw [x_up_n b, kj j a]; exact d0_all j a b, fun i a b c => by rw [x_up_n (by decide)]; exact k62 i a b c, by rw [x_up_n (by decide)]; exact k0, by rw [x_up_n (by decide), kj 84 (by decide)]; exact v0⟩, by rw [x_up_s]; exact mr_cpy hTb hCb hg, ⟨by rw [x_up_n (by decide)]; exact k44, by omega, fun k h hh => by
      rw [x_up_n (by decide), e83]
      exact ha3 k h (by rw [List.getElem?_append_left ((List.getElem?_eq_some_iff.mp hh).1)]; exact hh)⟩⟩ rfl
    · intro k hk ih
      rw [← x_cpy_s, Int.zero_add] at ih
      refine x_iload_n dX12_undo_26 x_get_2_1 ?_
      refine x_bipush dX12_undo_27 rfl ?_
      refine r_icmp_ge (t := 58) dX12_undo_29 rfl ⟨by omega, by omega⟩ ⟨by omega, by omega⟩ (fun hc29 => absurd hc29 (by omega)) (fun hc29 => ?_)
      refine x_aload_n dX12_undo_32 x_get_2_0 ?_
      refine x_getR dX12_undo_33 fX_12_75 n62 s62 (by rfl) ?_
      refine x_iload_n dX12_undo_36 x_get_2_1 ?_
      refine x_aload_n dX12_undo_37 x_get_2_0 ?_
      refine x_getR dX12_undo_38 fX_12_78 n62 s62 (by rfl) ?_
      refine x_bipush dX12_undo_41 rfl ?_
      refine x_aload_n dX12_undo_43 x_get_2_0 ?_
      refine x_getI 44 dX12_undo_44 fX_12_294 rfl n62 s62 (by rfl) ?_
      try simp (disch := decide) only [x_up_s, x_up_n, x_up_up, x_u1_s, x_u1_n, k44, e83]
      refine x_imul dX12_undo_47 ?_
      refine x_iload_n dX12_undo_48 x_get_2_1 ?_
      refine x_iadd dX12_undo_49 ?_
      refine x_iald dX12_undo_50 n83 s83 (by omega) (by omega) (by decide) ?_
      try simp (disch := decide) only [x_up_s, x_up_n, x_up_up, x_u1_s, x_u1_n, k44, e83]
      refine x_iast dX12_undo_51 n82 s82 (by omega) (by omega) (by decide) ?_
      try simp (disch := decide) only [x_up_s, x_up_n, x_up_up, x_u1_s, x_u1_n, k44, e83]
      refine x_iinc dX12_undo_52 x_get_2_1 (Nat.le_of_ble_eq_true rfl) rfl x_set_2_1 ?_
      refine x_goto (t := 26) dX12_undo_55 rfl ?_
      exact ih
  refine x_iconst dX12_undo_24 ?_
  refine x_istore_n dX12_undo_25 (Nat.le_of_ble_eq_true rfl) rfl x_set_2_1 ?_
  refine x_mem (show d1 = x_up d1 82 (x_cpy (D 83) (d1 82) (85 * (L.length : Int)) 0 ((0 : Nat) : Int)) by rw [x_cpy_0, x_up_id]) (hloop 0 (Nat.zero_le _))
end M71
