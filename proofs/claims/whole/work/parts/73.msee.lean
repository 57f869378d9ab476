section M73
/-! ===== the Model: what is seen, the image, the tape ===== -/
def msl (F : Int → Int) (S : List (Int × Int × Int)) : Prop := ∀ (k : Nat) (p : Int × Int × Int), S[k]? = some p → F (3 * (k : Int)) = p.1 ∧ F (3 * (k : Int) + 1) = p.2.1 ∧ F (3 * (k : Int) + 2) = p.2.2
def msee (D : xM) (S : List (Int × Int × Int)) : Prop := D 62 52 = S.length ∧ S.length ≤ 8 ∧ msl (D 90) S
theorem msee_of {D d : xM} {S : List (Int × Int × Int)} (h : msee D S) (h1 : d 62 52 = D 62 52) (h2 : d 90 = D 90) : msee d S := by
  unfold msee at h ⊢
  rw [h1, h2]
  exact h
theorem msl_add {F : Int → Int} {S : List (Int × Int × Int)} (h : msl F S) {t n u : Int} : msl (x_u1 (x_u1 (x_u1 F (3 * (S.length : Int)) t) (3 * (S.length : Int) + 1) n) (3 * (S.length : Int) + 2) u) (S ++ [(t, n, u)]) := by
  intro k p hp
  by_cases hk : k < S.length
  · rw [List.getElem?_append_left hk] at hp
    rw [x_u1_n (by omega), x_u1_n (by omega), x_u1_n (by omega), x_u1_n (by omega), x_u1_n (by omega), x_u1_n (by omega), x_u1_n (by omega), x_u1_n (by omega), x_u1_n (by omega)]
    exact h k p hp
  · have hk2 : k = S.length := by
      have := (List.getElem?_eq_some_iff.mp hp).1
      simp at this
      omega
    subst hk2
    simp at hp
    subst hp
    refine ⟨?_, ?_, ?_⟩
    · rw [x_u1_n (by omega), x_u1_n (by omega), x_u1_s]
    · rw [x_u1_n (by omega), x_u1_s]
    · rw [x_u1_s]
def mim (T C : Nat) (D : xM) (fi : Int → Int) (Li : List (Int → Int)) (Si : List (Int × Int × Int)) : Prop := D 62 57 = 1 ∧ mr T C fi (D 93) 0 ∧ (D 62 58 = Li.length ∧ Li.length ≤ 40 ∧ ∀ (k : Nat) (g : Int → Int), Li[k]? = some g → mr T C g (D 94) (85 * (k : Int))) ∧ D 62 59 = Si.length ∧ Si.length ≤ 8 ∧ msl (D 95) Si
def tm4 (f : Int → Int) (k z : Int) : Nat → Int → Int
  | 0 => f
  | j + 1 => x_u1 (tm4 f k z j) (k + j) (x_an (x_sr z (24 - 8 * j)) 255)
theorem tm4_s {f : Int → Int} {k z : Int} {j : Nat} : tm4 f k z (j + 1) = x_u1 (tm4 f k z j) (k + j) (x_an (x_sr z (24 - 8 * j)) 255) := rfl
def tm20 (f : Int → Int) (k a b c d e : Int) : Int → Int := tm4 (tm4 (tm4 (tm4 (tm4 f k a 4) (k + 4) b 4) (k + 8) c 4) (k + 12) d 4) (k + 16) e 4
theorem w_12_123 : x_cv RX12 123 yX12_lays cX12_lays 3 (none) 12 1 := ⟨⟨_, rfl, rfl⟩, (x_in 1541 (by decide +kernel) rfl), (x_in 1543 (by decide +kernel) rfl), (x_in 16 (by decide +kernel) rfl), (x_in 90 (by decide +kernel) rfl), (x_in 1544 (by decide +kernel) rfl), by decide, ⟨by decide +kernel, by decide +kernel, by decide +kernel⟩⟩
theorem w_12_290 : x_cv RX12 290 yX12_copies cX12_copies 4 (none) 12 2 := ⟨⟨_, rfl, rfl⟩, (x_in 1668 (by decide +kernel) rfl), (x_in 1670 (by decide +kernel) rfl), (x_in 42 (by decide +kernel) rfl), (x_in 90 (by decide +kernel) rfl), (x_in 1671 (by decide +kernel) rfl), by decide, ⟨by decide +kernel, by decide +kernel, by decide +kernel⟩⟩
theorem m_see {X : xC} {l : Launch} (hl : l.stackTraces = false) {N : Nat} {sh : xS} {D : xM} {T C W : Nat} {G : Ldt} (hq : mq N sh D T C W G) {B : Int} {f : Int → Int} (hk : s_ok B f) (hB : B ≤ 200000) (hr : mr T C f (D 82) 0) (hv84 : ∀ j, x_r (D 84 j)) {S : List (Int × Int × Int)} (hS : msee D S) {t n u : Int} (ht0 : 0 ≤ t) (ht1 : t < T) (h8 : S.length < 8) (hn0 : 0 ≤ n) (hn1 : n ≤ 30) (hu0 : 0 ≤ u) (hu1 : u ≤ 9999) : x_M X l yX12_see cX12_see 4 (some .int) 4 0 0 [.ref (x_b X + 62), .int (xI t), .int (xI n), .int (xI u)] false N sh D (.inl (some (.int (xI ((S.length : Int) + 1))))) false N sh (fun d => (∀ j, j ≠ 62 → j ≠ 90 → d j = D j) ∧ (∀ i, i ≠ 0 → i ≠ 52 → d 62 i = D 62 i) ∧ d 62 0 = 0 ∧ msee d (S ++ [(t, n, u)])) := by
  obtain ⟨hM, hT, hTb, hW, hWb, hC, hCb, hmk, ⟨hG1, hG2, hG3⟩, hod⟩ := id hq
  have s62 := md_62 hM
  have n62 : 62 < N := md_n hM (by decide)
  have s90 := md_90 hM
  have n90 : 90 < N := md_n hM (by decide)
  refine x_ofW (by decide +kernel) hl (by simp [Value.category]) (by simp) ?_
  refine x_aload_n dX12_see_0 x_get_4_0 ?_
  refine x_iconst dX12_see_1 ?_
  refine x_putI 0 dX12_see_2 fX_12_117 rfl tX_12_0 n62 s62 (by rfl) ?_
  have z0 := m_go0 hq hr hv84
  have g1 : ∀ j, j ≠ 62 → (x_up D 62 (x_u1 (D 62) 0 0)) j = D j := fun j a => x_up_n a
  have g2 : ∀ i, i ≠ 0 → (x_up D 62 (x_u1 (D 62) 0 0)) 62 i = D 62 i := fun i a => by rw [x_up_s, x_u1_n a]
  generalize x_up D 62 (x_u1 (D 62) 0 0) = d0 at z0 g1 g2 ⊢
  obtain ⟨q0, t0, ms0, r0, v0⟩ := z0
  have h52 : d0 62 52 = (S.length : Int) := by rw [g2 52 (by decide)]; exact hS.1
  have h90 : d0 90 = D 90 := g1 90 (by decide)
  refine x_aload_n dX12_see_5 x_get_4_0 ?_
  refine x_iload_n dX12_see_6 x_get_4_1 ?_
  refine x_callV (As := [_]) dX12_see_7 w_12_362 (m_isTownT hl q0 t0 ⟨ht0, ht1⟩) (by assumption) (by assumption) rfl rfl (Nat.le_of_ble_eq_true rfl) (Nat.le_of_ble_eq_true rfl) (Nat.le_of_ble_eq_true rfl) (Nat.le_of_ble_eq_true rfl) (Nat.le_of_ble_eq_true rfl) ?_
  intro dz hdz
  obtain rfl := Eq.symm hdz
  refine r_if_ne (t := 15) dX12_see_10 rfl ⟨by omega, by omega⟩ (fun hc10 => ?_) (fun hc10 => absurd hc10 (by omega))
  refine x_aload_n dX12_see_15 x_get_4_0 ?_
  refine x_getI 52 dX12_see_16 fX_12_297 rfl n62 s62 (by rfl) ?_
  try simp (disch := decide) only [x_up_s, x_up_n, x_up_up, x_u1_s, x_u1_n, h52, h90]
  refine x_bipush dX12_see_19 rfl ?_
  refine r_icmp_eq (t := 45) dX12_see_21 rfl ⟨by omega, by omega⟩ ⟨by omega, by omega⟩ (fun hc21 => absurd hc21 (by omega)) (fun hc21 => ?_)
  refine x_iload_n dX12_see_24 x_get_4_2 ?_
  refine x_iconst dX12_see_25 ?_
  refine x_bipush dX12_see_26 rfl ?_
  refine x_callS (As := [_, _, _]) dX12_see_28 w_12_346 (m_withinT hl ⟨by omega, by omega⟩ ⟨by decide, by decide⟩ ⟨by decide, by decide⟩ ⟨hn0, hn1⟩) rfl rfl (Nat.le_of_ble_eq_true rfl) (Nat.le_of_ble_eq_true rfl) (Nat.le_of_ble_eq_true rfl) (Nat.le_of_ble_eq_true rfl) (Nat.le_of_ble_eq_true rfl) ?_
  intro dz hdz
  obtain rfl := Eq.symm hdz
  refine r_if_eq (t := 45) dX12_see_31 rfl ⟨by omega, by omega⟩ (fun hc31 => absurd hc31 (by omega)) (fun hc31 => ?_)
  refine x_iload_n dX12_see_34 x_get_4_3 ?_
  refine x_iconst dX12_see_35 ?_
  refine x_sipush dX12_see_36 rfl ?_
  refine x_callS (As := [_, _, _]) dX12_see_39 w_12_346 (m_withinT hl ⟨by omega, by omega⟩ ⟨by decide, by decide⟩ ⟨by decide, by decide⟩ ⟨hu0, hu1⟩) rfl rfl (Nat.le_of_ble_eq_true rfl) (Nat.le_of_ble_eq_true rfl) (Nat.le_of_ble_eq_true rfl) (Nat.le_of_ble_eq_true rfl) (Nat.le_of_ble_eq_true rfl) ?_
  intro dz hdz
  obtain rfl := Eq.symm hdz
  refine r_if_ne (t := 51) dX12_see_42 rfl ⟨by omega, by omega⟩ (fun hc42 => ?_) (fun hc42 => absurd hc42 (by omega))
  refine x_aload_n dX12_see_51 x_get_4_0 ?_
  refine x_getR dX12_see_52 fX_12_99 n62 s62 (by rfl) ?_
  refine x_iconst dX12_see_55 ?_
  refine x_aload_n dX12_see_56 x_get_4_0 ?_
  refine x_getI 52 dX12_see_57 fX_12_297 rfl n62 s62 (by rfl) ?_
  try simp (disch := decide) only [x_up_s, x_up_n, x_up_up, x_u1_s, x_u1_n, h52, h90]
  refine x_imul dX12_see_60 ?_
  refine x_iload_n dX12_see_61 x_get_4_1 ?_
  refine x_iast dX12_see_62 n90 s90 (by omega) (by omega) (by decide) ?_
  try simp (disch := decide) only [x_up_s, x_up_n, x_up_up, x_u1_s, x_u1_n, h52, h90]
  refine x_aload_n dX12_see_63 x_get_4_0 ?_
  refine x_getR dX12_see_64 fX_12_99 n62 s62 (by rfl) ?_
  refine x_iconst dX12_see_67 ?_
  refine x_aload_n dX12_see_68 x_get_4_0 ?_
  refine x_getI 52 dX12_see_69 fX_12_297 rfl n62 s62 (by rfl) ?_
  try simp (disch := decide) only [x_up_s, x_up_n, x_up_up, x_u1_s, x_u1_n, h52, h90]
  refine x_imul dX12_see_72 ?_
  refine x_iconst dX12_see_73 ?_
  refine x_iadd dX12_see_74 ?_
  refine x_iload_n dX12_see_75 x_get_4_2 ?_
  refine x_iast dX12_see_76 n90 s90 (by omega) (by omega) (by decide) ?_
  try simp (disch := decide) only [x_up_s, x_up_n, x_up_up, x_u1_s, x_u1_n, h52, h90]
  refine x_aload_n dX12_see_77 x_get_4_0 ?_
  refine x_getR dX12_see_78 fX_12_99 n62 s62 (by rfl) ?_
  refine x_iconst dX12_see_81 ?_
  refine x_aload_n dX12_see_82 x_get_4_0 ?_
  refine x_getI 52 dX12_see_83 fX_12_297 rfl n62 s62 (by rfl) ?_
  try simp (disch := decide) only [x_up_s, x_up_n, x_up_up, x_u1_s, x_u1_n, h52, h90]
  refine x_imul dX12_see_86 ?_
  refine x_iconst dX12_see_87 ?_
  refine x_iadd dX12_see_88 ?_
  refine x_iload_n dX12_see_89 x_get_4_3 ?_
  refine x_iast dX12_see_90 n90 s90 (by omega) (by omega) (by decide) ?_
  try simp (disch := decide) only [x_up_s, x_up_n, x_up_up, x_u1_s, x_u1_n, h52, h90]
  refine x_aload_n dX12_see_91 x_get_4_0 ?_
  refine x_dup dX12_see_92 rfl ?_
  refine x_getI 52 dX12_see_93 fX_12_297 rfl n62 s62 (by rfl) ?_
  try simp (disch := decide) only [x_up_s, x_up_n, x_up_up, x_u1_s, x_u1_n, h52, h90]
  refine x_iconst dX12_see_96 ?_
  refine x_iadd dX12_see_97 ?_
  refine x_putI 52 dX12_see_98 fX_12_297 rfl tX_12_52 n62 s62 (by rfl) ?_
  try simp (disch := decide) only [x_up_s, x_up_n, x_up_up, x_u1_s, x_u1_n, h52, h90]
  refine x_aload_n dX12_see_101 x_get_4_0 ?_
  refine x_getI 52 dX12_see_102 fX_12_297 rfl n62 s62 (by rfl) ?_
  try simp (disch := decide) only [x_up_s, x_up_n, x_up_up, x_u1_s, x_u1_n, h52, h90]
  exact x_iret dX12_see_105 rfl (Nat.le_of_ble_eq_true rfl) (Nat.le_of_ble_eq_true rfl) rfl rfl rfl ⟨fun j a b => by simp (disch := assumption) only [x_up_n]; exact g1 j a, fun i a b => by rw [x_up_s, x_u1_n b]; exact g2 i a, by rw [x_up_s, x_u1_n (by decide)]; exact t0, by rw [x_up_s, x_u1_s]; simp, by simp; omega, by rw [x_up_n (by decide), x_up_s]; exact msl_add hS.2.2⟩ rfl
theorem m_seeR {X : xC} {l : Launch} (hl : l.stackTraces = false) {N : Nat} {sh : xS} {D : xM} {T C W : Nat} {G : Ldt} (hq : mq N sh D T C W G) {B : Int} {f : Int → Int} (hk : s_ok B f) (hB : B ≤ 200000) (hr : mr T C f (D 82) 0) (hv84 : ∀ j, x_r (D 84 j)) {S : List (Int × Int × Int)} (hS : msee D S) {t n u : Int} (hnr : x_r n) (hur : x_r u) (ht0 : 0 ≤ t) (ht1 : t < T) (h8 : ¬ (S.length < 8 ∧ (0 ≤ n ∧ n ≤ 30) ∧ (0 ≤ u ∧ u ≤ 9999))) : x_M X l yX12_see cX12_see 4 (some .int) 4 0 0 [.ref (x_b X + 62), .int (xI t), .int (xI n), .int (xI u)] false N sh D (.inl (some (.int (xI (-1))))) false N sh (x_is (m_rf 2 D)) := by
  obtain ⟨hM, hT, hTb, hW, hWb, hC, hCb, hmk, ⟨hG1, hG2, hG3⟩, hod⟩ := id hq
  have s62 := md_62 hM
  have n62 : 62 < N := md_n hM (by decide)
  have s90 := md_90 hM
  have n90 : 90 < N := md_n hM (by decide)
  have hS8 := hS.2.1
  by_cases hl8 : S.length = 8
  · refine x_ofW (by decide +kernel) hl (by simp [Value.category]) (by simp) ?_
    refine x_aload_n dX12_see_0 x_get_4_0 ?_
    refine x_iconst dX12_see_1 ?_
    refine x_putI 0 dX12_see_2 fX_12_117 rfl tX_12_0 n62 s62 (by rfl) ?_
    have z0 := m_go0 hq hr hv84
    generalize hd0 : x_up D 62 (x_u1 (D 62) 0 0) = d0 at z0 ⊢
    obtain ⟨q0, t0, ms0, r0, v0⟩ := z0
    have e71 : d0 71 = D 71 := by rw [← hd0, x_up_n (by decide)]
    have h52 : d0 62 52 = (S.length : Int) := by rw [← hd0, x_up_s, x_u1_n (by decide)]; exact hS.1
    refine x_aload_n dX12_see_5 x_get_4_0 ?_
    refine x_iload_n dX12_see_6 x_get_4_1 ?_
    refine x_callV (As := [_]) dX12_see_7 w_12_362 (m_isTownT hl q0 t0 ⟨ht0, ht1⟩) (by assumption) (by assumption) rfl rfl (Nat.le_of_ble_eq_true rfl) (Nat.le_of_ble_eq_true rfl) (Nat.le_of_ble_eq_true rfl) (Nat.le_of_ble_eq_true rfl) (Nat.le_of_ble_eq_true rfl) ?_
    intro dz hdz
    obtain rfl := Eq.symm hdz
    refine r_if_ne (t := 15) dX12_see_10 rfl ⟨by omega, by omega⟩ (fun hc10 => ?_) (fun hc10 => absurd hc10 (by omega))
    refine x_aload_n dX12_see_15 x_get_4_0 ?_
    refine x_getI 52 dX12_see_16 fX_12_297 rfl n62 s62 (by rfl) ?_
    try simp (disch := decide) only [x_up_s, x_up_n, x_up_up, x_u1_s, x_u1_n, h52]
    refine x_bipush dX12_see_19 rfl ?_
    refine r_icmp_eq (t := 45) dX12_see_21 rfl ⟨by omega, by omega⟩ ⟨by omega, by omega⟩ (fun hc21 => ?_) (fun hc21 => absurd hc21 (by omega))
    refine x_aload_n dX12_see_45 x_get_4_0 ?_
    refine x_iconst dX12_see_46 ?_
    refine x_callV (As := [_]) dX12_see_47 w_12_371 (m_refuses hl q0.1 (w := 2) (by decide) (by decide)) (by assumption) (by assumption) rfl rfl (Nat.le_of_ble_eq_true rfl) (Nat.le_of_ble_eq_true rfl) (Nat.le_of_ble_eq_true rfl) (Nat.le_of_ble_eq_true rfl) (Nat.le_of_ble_eq_true rfl) ?_
    intro dz hdz
    obtain rfl := Eq.symm hdz
    exact x_iret dX12_see_50 rfl (Nat.le_of_ble_eq_true rfl) (Nat.le_of_ble_eq_true rfl) rfl rfl rfl (by show _ = _; unfold m_rf; rw [e71, hd0]) rfl
  · by_cases hn : 0 ≤ n ∧ n ≤ 30
    · refine x_ofW (by decide +kernel) hl (by simp [Value.category]) (by simp) ?_
      refine x_aload_n dX12_see_0 x_get_4_0 ?_
      refine x_iconst dX12_see_1 ?_
      refine x_putI 0 dX12_see_2 fX_12_117 rfl tX_12_0 n62 s62 (by rfl) ?_
      have z0 := m_go0 hq hr hv84
      generalize hd0 : x_up D 62 (x_u1 (D 62) 0 0) = d0 at z0 ⊢
      obtain ⟨q0, t0, ms0, r0, v0⟩ := z0
      have e71 : d0 71 = D 71 := by rw [← hd0, x_up_n (by decide)]
      have h52 : d0 62 52 = (S.length : Int) := by rw [← hd0, x_up_s, x_u1_n (by decide)]; exact hS.1
      refine x_aload_n dX12_see_5 x_get_4_0 ?_
      refine x_iload_n dX12_see_6 x_get_4_1 ?_
      refine x_callV (As := [_]) dX12_see_7 w_12_362 (m_isTownT hl q0 t0 ⟨ht0, ht1⟩) (by assumption) (by assumption) rfl rfl (Nat.le_of_ble_eq_true rfl) (Nat.le_of_ble_eq_true rfl) (Nat.le_of_ble_eq_true rfl) (Nat.le_of_ble_eq_true rfl) (Nat.le_of_ble_eq_true rfl) ?_
      intro dz hdz
      obtain rfl := Eq.symm hdz
      refine r_if_ne (t := 15) dX12_see_10 rfl ⟨by omega, by omega⟩ (fun hc10 => ?_) (fun hc10 => absurd hc10 (by omega))
      refine x_aload_n dX12_see_15 x_get_4_0 ?_
      refine x_getI 52 dX12_see_16 fX_12_297 rfl n62 s62 (by rfl) ?_
      try simp (disch := decide) only [x_up_s, x_up_n, x_up_up, x_u1_s, x_u1_n, h52]
      refine x_bipush dX12_see_19 rfl ?_
      refine r_icmp_eq (t := 45) dX12_see_21 rfl ⟨by omega, by omega⟩ ⟨by omega, by omega⟩ (fun hc21 => absurd hc21 (by omega)) (fun hc21 => ?_)
      refine x_iload_n dX12_see_24 x_get_4_2 ?_
      refine x_iconst dX12_see_25 ?_
      refine x_bipush dX12_see_26 rfl ?_
      refine x_callS (As := [_, _, _]) dX12_see_28 w_12_346 (m_withinT hl hnr ⟨by decide, by decide⟩ ⟨by decide, by decide⟩ hn) rfl rfl (Nat.le_of_ble_eq_true rfl) (Nat.le_of_ble_eq_true rfl) (Nat.le_of_ble_eq_true rfl) (Nat.le_of_ble_eq_true rfl) (Nat.le_of_ble_eq_true rfl) ?_
      intro dz hdz
      obtain rfl := Eq.symm hdz
      refine r_if_eq (t := 45) dX12_see_31 rfl ⟨by omega, by omega⟩ (fun hc31 => absurd hc31 (by omega)) (fun hc31 => ?_)
      refine x_iload_n dX12_see_34 x_get_4_3 ?_
      refine x_iconst dX12_see_35 ?_
      refine x_sipush dX12_see_36 rfl ?_
      refine x_callS (As := [_, _, _]) dX12_see_39 w_12_346 (m_withinF hl hur ⟨by decide, by decide⟩ ⟨by decide, by decide⟩ (fun hh => h8 ⟨by omega, hn, hh⟩)) rfl rfl (Nat.le_of_ble_eq_true rfl) (Nat.le_of_ble_eq_true rfl) (Nat.le_of_ble_eq_true rfl) (Nat.le_of_ble_eq_true rfl) (Nat.le_of_ble_eq_true rfl) ?_
      intro dz hdz
      obtain rfl := Eq.symm hdz
      refine r_if_ne (t := 51) dX12_see_42 rfl ⟨by omega, by omega⟩ (fun hc42 => absurd hc42 (by omega)) (fun hc42 => ?_)
      refine x_aload_n dX12_see_45 x_get_4_0 ?_
      refine x_iconst dX12_see_46 ?_
      refine x_callV (As := [_]) dX12_see_47 w_12_371 (m_refuses hl q0.1 (w := 2) (by decide) (by decide)) (by assumption) (by assumption) rfl rfl (Nat.le_of_ble_eq_true rfl) (Nat.le_of_ble_eq_true rfl) (Nat.le_of_ble_eq_true rfl) (Nat.le_of_ble_eq_true rfl) (Nat.le_of_ble_eq_true rfl) ?_
      intro dz hdz
      obtain rfl := Eq.symm hdz
      exact x_iret dX12_see_50 rfl (Nat.le_of_ble_eq_true rfl) (Nat.le_of_ble_eq_true rfl) rfl rfl rfl (by show _ = _; unfold m_rf; rw [e71, hd0]) rfl
    · refine x_ofW (by decide +kernel) hl (by simp [Value.category]) (by simp) ?_
      refine x_aload_n dX12_see_0 x_get_4_0 ?_
      refine x_iconst dX12_see_1 ?_
      refine x_putI 0 dX12_see_2 fX_12_117 rfl tX_12_0 n62 s62 (by rfl) ?_
      have z0 := m_go0 hq hr hv84
      generalize hd0 : x_up D 62 (x_u1 (D 62) 0 0) = d0 at z0 ⊢
      obtain ⟨q0, t0, ms0, r0, v0⟩ := z0
      have e71 : d0 71 = D 71 := by rw [← hd0, x_up_n (by decide)]
      have h52 : d0 62 52 = (S.length : Int) := by rw [← hd0, x_up_s, x_u1_n (by decide)]; exact hS.1
      refine x_aload_n dX12_see_5 x_get_4_0 ?_
      refine x_iload_n dX12_see_6 x_get_4_1 ?_
      refine x_callV (As := [_]) dX12_see_7 w_12_362 (m_isTownT hl q0 t0 ⟨ht0, ht1⟩) (by assumption) (by assumption) rfl rfl (Nat.le_of_ble_eq_true rfl) (Nat.le_of_ble_eq_true rfl) (Nat.le_of_ble_eq_true rfl) (Nat.le_of_ble_eq_true rfl) (Nat.le_of_ble_eq_true rfl) ?_
      intro dz hdz
      obtain rfl := Eq.symm hdz
      refine r_if_ne (t := 15) dX12_see_10 rfl ⟨by omega, by omega⟩ (fun hc10 => ?_) (fun hc10 => absurd hc10 (by omega))
      refine x_aload_n dX12_see_15 x_get_4_0 ?_
      refine x_getI 52 dX12_see_16 fX_12_297 rfl n62 s62 (by rfl) ?_
      try simp (disch := decide) only [x_up_s, x_up_n, x_up_up, x_u1_s, x_u1_n, h52]
      refine x_bipush dX12_see_19 rfl ?_
      refine r_icmp_eq (t := 45) dX12_see_21 rfl ⟨by omega, by omega⟩ ⟨by omega, by omega⟩ (fun hc21 => absurd hc21 (by omega)) (fun hc21 => ?_)
      refine x_iload_n dX12_see_24 x_get_4_2 ?_
      refine x_iconst dX12_see_25 ?_
      refine x_bipush dX12_see_26 rfl ?_
      refine x_callS (As := [_, _, _]) dX12_see_28 w_12_346 (m_withinF hl hnr ⟨by decide, by decide⟩ ⟨by decide, by decide⟩ hn) rfl rfl (Nat.le_of_ble_eq_true rfl) (Nat.le_of_ble_eq_true rfl) (Nat.le_of_ble_eq_true rfl) (Nat.le_of_ble_eq_true rfl) (Nat.le_of_ble_eq_true rfl) ?_
      intro dz hdz
      obtain rfl := Eq.symm hdz
      refine r_if_eq (t := 45) dX12_see_31 rfl ⟨by omega, by omega⟩ (fun hc31 => ?_) (fun hc31 => absurd hc31 (by omega))
      refine x_aload_n dX12_see_45 x_get_4_0 ?_
      refine x_iconst dX12_see_46 ?_
      refine x_callV (As := [_]) dX12_see_47 w_12_371 (m_refuses hl q0.1 (w := 2) (by decide) (by decide)) (by assumption) (by assumption) rfl rfl (Nat.le_of_ble_eq_true rfl) (Nat.le_of_ble_eq_true rfl) (Nat.le_of_ble_eq_true rfl) (Nat.le_of_ble_eq_true rfl) (Nat.le_of_ble_eq_true rfl) ?_
      intro dz hdz
      obtain rfl := Eq.symm hdz
      exact x_iret dX12_see_50 rfl (Nat.le_of_ble_eq_true rfl) (Nat.le_of_ble_eq_true rfl) rfl rfl rfl (by show _ = _; unfold m_rf; rw [e71, hd0]) rfl
theorem m_seeT {X : xC} {l : Launch} (hl : l.stackTraces = false) {N : Nat} {sh : xS} {D : xM} {T C W : Nat} {G : Ldt} (hq : mq N sh D T C W G) {B : Int} {f : Int → Int} (hk : s_ok B f) (hB : B ≤ 200000) (hr : mr T C f (D 82) 0) (hv84 : ∀ j, x_r (D 84 j)) {t n u : Int} (htr : x_r t) (ht : ¬ (0 ≤ t ∧ t < T)) : x_M X l yX12_see cX12_see 4 (some .int) 4 0 0 [.ref (x_b X + 62), .int (xI t), .int (xI n), .int (xI u)] false N sh D (.inl (some (.int (xI (0))))) false N sh (fun d => ms D d ∧ d 62 0 = 1) := by
  obtain ⟨hM, hT, hTb, hW, hWb, hC, hCb, hmk, ⟨hG1, hG2, hG3⟩, hod⟩ := id hq
  have s62 := md_62 hM
  have n62 : 62 < N := md_n hM (by decide)
  have s90 := md_90 hM
  have n90 : 90 < N := md_n hM (by decide)
  refine x_ofW (by decide +kernel) hl (by simp [Value.category]) (by simp) ?_
  refine x_aload_n dX12_see_0 x_get_4_0 ?_
  refine x_iconst dX12_see_1 ?_
  refine x_putI 0 dX12_see_2 fX_12_117 rfl tX_12_0 n62 s62 (by rfl) ?_
  have z0 := m_go0 hq hr hv84
  generalize x_up D 62 (x_u1 (D 62) 0 0) = d0 at z0 ⊢
  obtain ⟨q0, t0, ms0, r0, v0⟩ := z0
  refine x_aload_n dX12_see_5 x_get_4_0 ?_
  refine x_iload_n dX12_see_6 x_get_4_1 ?_
  refine x_callV (As := [_]) dX12_see_7 w_12_362 (m_isTownF hl q0 t0 htr ht) (by assumption) (by assumption) rfl rfl (Nat.le_of_ble_eq_true rfl) (Nat.le_of_ble_eq_true rfl) (Nat.le_of_ble_eq_true rfl) (Nat.le_of_ble_eq_true rfl) (Nat.le_of_ble_eq_true rfl) ?_
  intro dz hdz
  obtain rfl := Eq.symm hdz
  refine r_if_ne (t := 15) dX12_see_10 rfl ⟨by omega, by omega⟩ (fun hc10 => absurd hc10 (by omega)) (fun hc10 => ?_)
  refine x_iconst dX12_see_13 ?_
  exact x_iret dX12_see_14 rfl (Nat.le_of_ble_eq_true rfl) (Nat.le_of_ble_eq_true rfl) rfl rfl rfl ⟨ms_thr ms0, by rw [x_up_s, x_u1_s]⟩ rfl
theorem m_forget {X : xC} {l : Launch} (hl : l.stackTraces = false) {N : Nat} {sh : xS} {D : xM} (hM : is_Md N sh) : x_M X l yX12_forget cX12_forget 1 (none) 4 0 0 [.ref (x_b X + 62)] false N sh D (.inl none) false N sh (x_is (x_up D 62 (x_u1 (x_u1 (D 62) 0 0) 52 0))) := by
  have s62 := md_62 hM
  have n62 : 62 < N := md_n hM (by decide)
  refine x_ofW (by decide +kernel) hl (by simp [Value.category]) (by simp) ?_
  refine x_aload_n dX12_forget_0 x_get_1_0 ?_
  refine x_iconst dX12_forget_1 ?_
  refine x_putI 0 dX12_forget_2 fX_12_117 rfl tX_12_0 n62 s62 (by rfl) ?_
  refine x_aload_n dX12_forget_5 x_get_1_0 ?_
  refine x_iconst dX12_forget_6 ?_
  refine x_putI 52 dX12_forget_7 fX_12_297 rfl tX_12_52 n62 s62 (by rfl) ?_
  exact x_vret dX12_forget_10 rfl (Nat.le_of_ble_eq_true rfl) (Nat.le_of_ble_eq_true rfl) rfl rfl rfl (by show _ = _; rw [x_up_s, x_up_up]) rfl
set_option maxHeartbeats 8000000 in
theorem m_image {X : xC} {l : Launch} (hl : l.stackTraces = false) {N : Nat} {sh : xS} {D : xM} {T C W : Nat} {G : Ldt} (hq : mq N sh D T C W G) {B : Int} {f : Int → Int} (hk : s_ok B f) (hB : B ≤ 200000) (hr : mr T C f (D 82) 0) (hv84 : ∀ j, x_r (D 84 j)) {L : List (Int → Int)} (hA : mact T C D L) {S : List (Int × Int × Int)} (hS : msee D S) : x_M X l yX12_image cX12_image 2 (none) 4 0 0 [.ref (x_b X + 62)] false N sh D (.inl none) false N sh (fun d => (∀ j, j ≠ 62 → j ≠ 93 → j ≠ 94 → j ≠ 95 → d j = D j) ∧ (∀ i, i ≠ 0 → i ≠ 57 → i ≠ 58 → i ≠ 59 → d 62 i = D 62 i) ∧ d 62 0 = 0 ∧ mim T C d f L S) := by
  obtain ⟨hM, hT, hTb, hW, hWb, hC, hCb, hmk, ⟨hG1, hG2, hG3⟩, hod⟩ := id hq
  have s62 := md_62 hM
  have n62 : 62 < N := md_n hM (by decide)
  have s93 := md_93 hM
  have n93 : 93 < N := md_n hM (by decide)
  have s82 := md_82 hM
  have n82 : 82 < N := md_n hM (by decide)
  have s83 := md_83 hM
  have n83 : 83 < N := md_n hM (by decide)
  have s94 := md_94 hM
  have n94 : 94 < N := md_n hM (by decide)
  have s90 := md_90 hM
  have n90 : 90 < N := md_n hM (by decide)
  have s95 := md_95 hM
  have n95 : 95 < N := md_n hM (by decide)
  refine x_ofW (by decide +kernel) hl (by simp [Value.category]) (by simp) ?_
  have hloop : ∀ k : Nat, k ≤ 85 → x_W (X, l, yX12_image, cX12_image, 2, none, x_room 4 0 0, 0, 0, (.inl none), N, sh, (fun d => (∀ j, j ≠ 62 → j ≠ 93 → j ≠ 94 → j ≠ 95 → d j = D j) ∧ (∀ i, i ≠ 0 → i ≠ 57 → i ≠ 58 → i ≠ 59 → d 62 i = D 62 i) ∧ d 62 0 = 0 ∧ mim T C d f L S), false, []) 28 [some (.ref (x_b X + 62)), some (.int (xI (k : Int)))] [] 0 0 false N sh (x_up (x_up D 62 (x_u1 (x_u1 (x_u1 (x_u1 (D 62) 0 0) 57 1) 58 (D 62 44)) 59 (D 62 52))) 93 (x_cpy (D 82) (D 93) 0 0 ((k : Nat) : Int))) := by
    refine x_down 85 ?_ ?_
    · refine x_iload_n dX12_image_28 x_get_2_1 ?_
      refine x_bipush dX12_image_29 rfl ?_
      refine r_icmp_ge (t := 52) dX12_image_31 rfl ⟨by omega, by omega⟩ ⟨by omega, by omega⟩ (fun hc31 => ?_) (fun hc31 => absurd hc31 (by omega))
      refine x_aload_n dX12_image_52 x_get_2_0 ?_
      refine x_aload_n dX12_image_53 x_get_2_0 ?_
      refine x_getR dX12_image_54 fX_12_78 n62 s62 (by rfl) ?_
      refine x_aload_n dX12_image_57 x_get_2_0 ?_
      refine x_getR dX12_image_58 fX_12_111 n62 s62 (by rfl) ?_
      refine x_callV (As := [_, _]) dX12_image_61 w_12_290 (m_copies hl hM (qa := 83) (qb := 94) n83 n94 s83 s94 (by decide) (by decide)) (by assumption) (by assumption) rfl rfl (Nat.le_of_ble_eq_true rfl) (Nat.le_of_ble_eq_true rfl) (Nat.le_of_ble_eq_true rfl) (Nat.le_of_ble_eq_true rfl) (Nat.le_of_ble_eq_true rfl) ?_
      rintro d1 hd1
      refine x_aload_n dX12_image_64 x_get_2_0 ?_
      refine x_aload_n dX12_image_65 x_get_2_0 ?_
      refine x_getR dX12_image_66 fX_12_99 n62 s62 (by rfl) ?_
      refine x_aload_n dX12_image_69 x_get_2_0 ?_
      refine x_getR dX12_image_70 fX_12_114 n62 s62 (by rfl) ?_
      refine x_callV (As := [_, _]) dX12_image_73 w_12_290 (m_copies hl hM (qa := 90) (qb := 95) n90 n95 s90 s95 (by decide) (by decide)) (by assumption) (by assumption) rfl rfl (Nat.le_of_ble_eq_true rfl) (Nat.le_of_ble_eq_true rfl) (Nat.le_of_ble_eq_true rfl) (Nat.le_of_ble_eq_true rfl) (Nat.le_of_ble_eq_true rfl) ?_
      rintro d2 hd2
      have k62 : d2 62 = (x_u1 (x_u1 (x_u1 (x_u1 (D 62) 0 0) 57 1) 58 (D 62 44)) 59 (D 62 52)) := by rw [hd2, x_up_n (by decide), hd1, x_up_n (by decide), x_up_n (by decide), x_up_s]
      exact x_vret dX12_image_76 rfl (Nat.le_of_ble_eq_true rfl) (Nat.le_of_ble_eq_true rfl) rfl rfl rfl ⟨fun j a b c e => by rw [hd2, x_up_n e, hd1, x_up_n c, x_up_n b, x_up_n a], fun i a b c e => by rw [k62, x_u1_n e, x_u1_n c, x_u1_n b, x_u1_n a], by rw [k62, x_u1_n (by decide), x_u1_n (by decide), x_u1_n (by decide), x_u1_s], by rw [k62, x_u1_n (by decide), x_u1_n (by decide), x_u1_s], by rw [hd2, x_up_n (by decide), hd1, x_up_n (by decide), x_up_s]; exact mr_cpy hTb hCb hr, ⟨by rw [k62, x_u1_n (by decide), x_u1_s]; exact hA.1, hA.2.1, by rw [hd2, x_up_n (by decide), hd1, x_up_s, x_up_n (by decide), x_up_n (by decide)]; exact hA.2.2⟩, by rw [k62, x_u1_s]; exact hS.1, hS.2.1, by rw [hd2, x_up_s, hd1, x_up_n (by decide), x_up_n (by decide), x_up_n (by decide)]; exact hS.2.2⟩ rfl
    · intro k hk ih
      rw [← x_cpy_s, Int.zero_add] at ih
      refine x_iload_n dX12_image_28 x_get_2_1 ?_
      refine x_bipush dX12_image_29 rfl ?_
      refine r_icmp_ge (t := 52) dX12_image_31 rfl ⟨by omega, by omega⟩ ⟨by omega, by omega⟩ (fun hc31 => absurd hc31 (by omega)) (fun hc31 => ?_)
      refine x_aload_n dX12_image_34 x_get_2_0 ?_
      refine x_getR dX12_image_35 fX_12_108 n62 s62 (by rfl) ?_
      refine x_iload_n dX12_image_38 x_get_2_1 ?_
      refine x_aload_n dX12_image_39 x_get_2_0 ?_
      refine x_getR dX12_image_40 fX_12_75 n62 s62 (by rfl) ?_
      refine x_iload_n dX12_image_43 x_get_2_1 ?_
      refine x_iald dX12_image_44 n82 s82 (by omega) (by omega) (by decide) ?_
      try simp (disch := decide) only [x_up_s, x_up_n, x_up_up, x_u1_s, x_u1_n]
      refine x_iast dX12_image_45 n93 s93 (by omega) (by omega) (by decide) ?_
      try simp (disch := decide) only [x_up_s, x_up_n, x_up_up, x_u1_s, x_u1_n]
      refine x_iinc dX12_image_46 x_get_2_1 (Nat.le_of_ble_eq_true rfl) rfl x_set_2_1 ?_
      refine x_goto (t := 28) dX12_image_49 rfl ?_
      exact ih
  refine x_aload_n dX12_image_0 x_get_2_0 ?_
  refine x_iconst dX12_image_1 ?_
  refine x_putI 0 dX12_image_2 fX_12_117 rfl tX_12_0 n62 s62 (by rfl) ?_
  try simp (disch := decide) only [x_up_s, x_up_n, x_up_up, x_u1_s, x_u1_n]
  refine x_aload_n dX12_image_5 x_get_2_0 ?_
  refine x_iconst dX12_image_6 ?_
  refine x_putZ 57 dX12_image_7 fX_12_300 rfl tX_12_57 n62 s62 (by rfl) (Or.inr rfl) ?_
  try simp (disch := decide) only [x_up_s, x_up_n, x_up_up, x_u1_s, x_u1_n]
  refine x_aload_n dX12_image_10 x_get_2_0 ?_
  refine x_aload_n dX12_image_11 x_get_2_0 ?_
  refine x_getI 44 dX12_image_12 fX_12_294 rfl n62 s62 (by rfl) ?_
  try simp (disch := decide) only [x_up_s, x_up_n, x_up_up, x_u1_s, x_u1_n]
  refine x_putI 58 dX12_image_15 fX_12_446 rfl tX_12_58 n62 s62 (by rfl) ?_
  try simp (disch := decide) only [x_up_s, x_up_n, x_up_up, x_u1_s, x_u1_n]
  refine x_aload_n dX12_image_18 x_get_2_0 ?_
  refine x_aload_n dX12_image_19 x_get_2_0 ?_
  refine x_getI 52 dX12_image_20 fX_12_297 rfl n62 s62 (by rfl) ?_
  try simp (disch := decide) only [x_up_s, x_up_n, x_up_up, x_u1_s, x_u1_n]
  refine x_putI 59 dX12_image_23 fX_12_449 rfl tX_12_59 n62 s62 (by rfl) ?_
  try simp (disch := decide) only [x_up_s, x_up_n, x_up_up, x_u1_s, x_u1_n]
  refine x_iconst dX12_image_26 ?_
  refine x_istore_n dX12_image_27 (Nat.le_of_ble_eq_true rfl) rfl x_set_2_1 ?_
  refine x_mem (show _ = x_up (x_up D 62 (x_u1 (x_u1 (x_u1 (x_u1 (D 62) 0 0) 57 1) 58 (D 62 44)) 59 (D 62 52))) 93 (x_cpy (D 82) (D 93) 0 0 ((0 : Nat) : Int)) from ?_) (hloop 0 (Nat.zero_le _))
  rw [x_cpy_0]
  funext q
  by_cases hq93 : q = 93
  · subst hq93; rw [x_up_s, x_up_n (by decide)]
  · rw [x_up_n hq93]
theorem m_restore0 {X : xC} {l : Launch} (hl : l.stackTraces = false) {N : Nat} {sh : xS} {D : xM} {T C W : Nat} {G : Ldt} (hq : mq N sh D T C W G) {B : Int} {f : Int → Int} (hk : s_ok B f) (hB : B ≤ 200000) (hr : mr T C f (D 82) 0) (hv84 : ∀ j, x_r (D 84 j)) (hi : D 62 57 = 0) : x_M X l yX12_restore cX12_restore 2 (some .boolean) 4 0 0 [.ref (x_b X + 62)] false N sh D (.inl (some (.int (xI (0))))) false N sh (fun d => ms D d ∧ d 62 0 = 0) := by
  obtain ⟨hM, hT, hTb, hW, hWb, hC, hCb, hmk, ⟨hG1, hG2, hG3⟩, hod⟩ := id hq
  have s62 := md_62 hM
  have n62 : 62 < N := md_n hM (by decide)
  have s82 := md_82 hM
  have n82 : 82 < N := md_n hM (by decide)
  have s93 := md_93 hM
  have n93 : 93 < N := md_n hM (by decide)
  have s94 := md_94 hM
  have n94 : 94 < N := md_n hM (by decide)
  have s83 := md_83 hM
  have n83 : 83 < N := md_n hM (by decide)
  have s95 := md_95 hM
  have n95 : 95 < N := md_n hM (by decide)
  have s90 := md_90 hM
  have n90 : 90 < N := md_n hM (by decide)
  refine x_ofW (by decide +kernel) hl (by simp [Value.category]) (by simp) ?_
  refine x_aload_n dX12_restore_0 x_get_2_0 ?_
  refine x_iconst dX12_restore_1 ?_
  refine x_putI 0 dX12_restore_2 fX_12_117 rfl tX_12_0 n62 s62 (by rfl) ?_
  have z0 := m_go0 hq hr hv84
  generalize x_up D 62 (x_u1 (D 62) 0 0) = d0 at z0 ⊢
  obtain ⟨q0, t0, ms0, r0, v0⟩ := z0
  have h57 : d0 62 57 = 0 := by rw [ms0.2.1 57 (by decide) (by decide) (by decide)]; exact hi
  refine x_aload_n dX12_restore_5 x_get_2_0 ?_
  refine x_getI 57 dX12_restore_6 fX_12_300 rfl n62 s62 (by rfl) ?_
  try simp (disch := decide) only [x_up_s, x_up_n, x_up_up, x_u1_s, x_u1_n, h57]
  refine r_if_ne (t := 14) dX12_restore_9 rfl ⟨by omega, by omega⟩ (fun hc9 => absurd hc9 (by omega)) (fun hc9 => ?_)
  refine x_iconst dX12_restore_12 ?_
  exact x_zret dX12_restore_13 rfl (by omega) (Nat.le_of_ble_eq_true rfl) (Nat.le_of_ble_eq_true rfl) rfl rfl rfl ⟨ms0, t0⟩ rfl
set_option maxHeartbeats 8000000 in
theorem m_restore {X : xC} {l : Launch} (hl : l.stackTraces = false) {N : Nat} {sh : xS} {D : xM} {T C W : Nat} {G : Ldt} (hq : mq N sh D T C W G) {B : Int} {f : Int → Int} (hk : s_ok B f) (hB : B ≤ 200000) (hr : mr T C f (D 82) 0) (hv84 : ∀ j, x_r (D 84 j)) {fi : Int → Int} {Li : List (Int → Int)} {Si : List (Int × Int × Int)} (hi : mim T C D fi Li Si) : x_M X l yX12_restore cX12_restore 2 (some .boolean) 4 0 0 [.ref (x_b X + 62)] false N sh D (.inl (some (.int (xI (1))))) false N sh (fun d => (∀ j, j ≠ 62 → j ≠ 82 → j ≠ 83 → j ≠ 90 → d j = D j) ∧ (∀ i, i ≠ 0 → i ≠ 44 → i ≠ 52 → d 62 i = D 62 i) ∧ d 62 0 = 0 ∧ mr T C fi (d 82) 0 ∧ mact T C d Li ∧ msee d Si) := by
  obtain ⟨hM, hT, hTb, hW, hWb, hC, hCb, hmk, ⟨hG1, hG2, hG3⟩, hod⟩ := id hq
  have s62 := md_62 hM
  have n62 : 62 < N := md_n hM (by decide)
  have s82 := md_82 hM
  have n82 : 82 < N := md_n hM (by decide)
  have s93 := md_93 hM
  have n93 : 93 < N := md_n hM (by decide)
  have s94 := md_94 hM
  have n94 : 94 < N := md_n hM (by decide)
  have s83 := md_83 hM
  have n83 : 83 < N := md_n hM (by decide)
  have s95 := md_95 hM
  have n95 : 95 < N := md_n hM (by decide)
  have s90 := md_90 hM
  have n90 : 90 < N := md_n hM (by decide)
  obtain ⟨i1, i2, ⟨i3, i4, i5⟩, i6, i7, i8⟩ := hi
  refine x_ofW (by decide +kernel) hl (by simp [Value.category]) (by simp) ?_
  have hloop : ∀ k : Nat, k ≤ 85 → x_W (X, l, yX12_restore, cX12_restore, 2, (some .boolean), x_room 4 0 0, 0, 0, (.inl (some (.int (xI (1))))), N, sh, (fun d => (∀ j, j ≠ 62 → j ≠ 82 → j ≠ 83 → j ≠ 90 → d j = D j) ∧ (∀ i, i ≠ 0 → i ≠ 44 → i ≠ 52 → d 62 i = D 62 i) ∧ d 62 0 = 0 ∧ mr T C fi (d 82) 0 ∧ mact T C d Li ∧ msee d Si), false, []) 32 [some (.ref (x_b X + 62)), some (.int (xI (k : Int)))] [] 0 0 false N sh (x_up (x_up D 62 (x_u1 (x_u1 (x_u1 (D 62) 0 0) 44 (D 62 58)) 52 (D 62 59))) 82 (x_cpy (D 93) (D 82) 0 0 ((k : Nat) : Int))) := by
    refine x_down 85 ?_ ?_
    · refine x_iload_n dX12_restore_32 x_get_2_1 ?_
      refine x_bipush dX12_restore_33 rfl ?_
      refine r_icmp_ge (t := 56) dX12_restore_35 rfl ⟨by omega, by omega⟩ ⟨by omega, by omega⟩ (fun hc35 => ?_) (fun hc35 => absurd hc35 (by omega))
      refine x_aload_n dX12_restore_56 x_get_2_0 ?_
      refine x_aload_n dX12_restore_57 x_get_2_0 ?_
      refine x_getR dX12_restore_58 fX_12_111 n62 s62 (by rfl) ?_
      refine x_aload_n dX12_restore_61 x_get_2_0 ?_
      refine x_getR dX12_restore_62 fX_12_78 n62 s62 (by rfl) ?_
      refine x_callV (As := [_, _]) dX12_restore_65 w_12_290 (m_copies hl hM (qa := 94) (qb := 83) n94 n83 s94 s83 (by decide) (by decide)) (by assumption) (by assumption) rfl rfl (Nat.le_of_ble_eq_true rfl) (Nat.le_of_ble_eq_true rfl) (Nat.le_of_ble_eq_true rfl) (Nat.le_of_ble_eq_true rfl) (Nat.le_of_ble_eq_true rfl) ?_
      rintro d1 hd1
      refine x_aload_n dX12_restore_68 x_get_2_0 ?_
      refine x_aload_n dX12_restore_69 x_get_2_0 ?_
      refine x_getR dX12_restore_70 fX_12_114 n62 s62 (by rfl) ?_
      refine x_aload_n dX12_restore_73 x_get_2_0 ?_
      refine x_getR dX12_restore_74 fX_12_99 n62 s62 (by rfl) ?_
      refine x_callV (As := [_, _]) dX12_restore_77 w_12_290 (m_copies hl hM (qa := 95) (qb := 90) n95 n90 s95 s90 (by decide) (by decide)) (by assumption) (by assumption) rfl rfl (Nat.le_of_ble_eq_true rfl) (Nat.le_of_ble_eq_true rfl) (Nat.le_of_ble_eq_true rfl) (Nat.le_of_ble_eq_true rfl) (Nat.le_of_ble_eq_true rfl) ?_
      rintro d2 hd2
      have k62 : d2 62 = (x_u1 (x_u1 (x_u1 (D 62) 0 0) 44 (D 62 58)) 52 (D 62 59)) := by rw [hd2, x_up_n (by decide), hd1, x_up_n (by decide), x_up_n (by decide), x_up_s]
      refine x_iconst dX12_restore_80 ?_
      exact x_zret dX12_restore_81 rfl (by omega) (Nat.le_of_ble_eq_true rfl) (Nat.le_of_ble_eq_true rfl) rfl rfl rfl ⟨fun j a b c e => by rw [hd2, x_up_n e, hd1, x_up_n c, x_up_n b, x_up_n a], fun i a b c => by rw [k62, x_u1_n c, x_u1_n b, x_u1_n a], by rw [k62, x_u1_n (by decide), x_u1_n (by decide), x_u1_s], by rw [hd2, x_up_n (by decide), hd1, x_up_n (by decide), x_up_s]; exact mr_cpy hTb hCb i2, ⟨by rw [k62, x_u1_n (by decide), x_u1_s]; exact i3, i4, by rw [hd2, x_up_n (by decide), hd1, x_up_s, x_up_n (by decide), x_up_n (by decide)]; exact i5⟩, by rw [k62, x_u1_s]; exact i6, i7, by rw [hd2, x_up_s, hd1, x_up_n (by decide), x_up_n (by decide), x_up_n (by decide)]; exact i8⟩ rfl
    · intro k hk ih
      rw [← x_cpy_s, Int.zero_add] at ih
      refine x_iload_n dX12_restore_32 x_get_2_1 ?_
      refine x_bipush dX12_restore_33 rfl ?_
      refine r_icmp_ge (t := 56) dX12_restore_35 rfl ⟨by omega, by omega⟩ ⟨by omega, by omega⟩ (fun hc35 => absurd hc35 (by omega)) (fun hc35 => ?_)
      refine x_aload_n dX12_restore_38 x_get_2_0 ?_
      refine x_getR dX12_restore_39 fX_12_75 n62 s62 (by rfl) ?_
      refine x_iload_n dX12_restore_42 x_get_2_1 ?_
      refine x_aload_n dX12_restore_43 x_get_2_0 ?_
      refine x_getR dX12_restore_44 fX_12_108 n62 s62 (by rfl) ?_
      refine x_iload_n dX12_restore_47 x_get_2_1 ?_
      refine x_iald dX12_restore_48 n93 s93 (by omega) (by omega) (by decide) ?_
      try simp (disch := decide) only [x_up_s, x_up_n, x_up_up, x_u1_s, x_u1_n]
      refine x_iast dX12_restore_49 n82 s82 (by omega) (by omega) (by decide) ?_
      try simp (disch := decide) only [x_up_s, x_up_n, x_up_up, x_u1_s, x_u1_n]
      refine x_iinc dX12_restore_50 x_get_2_1 (Nat.le_of_ble_eq_true rfl) rfl x_set_2_1 ?_
      refine x_goto (t := 32) dX12_restore_53 rfl ?_
      exact ih
  refine x_aload_n dX12_restore_0 x_get_2_0 ?_
  refine x_iconst dX12_restore_1 ?_
  refine x_putI 0 dX12_restore_2 fX_12_117 rfl tX_12_0 n62 s62 (by rfl) ?_
  try simp (disch := decide) only [x_up_s, x_up_n, x_up_up, x_u1_s, x_u1_n, i1]
  refine x_aload_n dX12_restore_5 x_get_2_0 ?_
  refine x_getI 57 dX12_restore_6 fX_12_300 rfl n62 s62 (by rfl) ?_
  try simp (disch := decide) only [x_up_s, x_up_n, x_up_up, x_u1_s, x_u1_n, i1]
  refine r_if_ne (t := 14) dX12_restore_9 rfl ⟨by omega, by omega⟩ (fun hc9 => ?_) (fun hc9 => absurd hc9 (by omega))
  refine x_aload_n dX12_restore_14 x_get_2_0 ?_
  refine x_aload_n dX12_restore_15 x_get_2_0 ?_
  refine x_getI 58 dX12_restore_16 fX_12_446 rfl n62 s62 (by rfl) ?_
  try simp (disch := decide) only [x_up_s, x_up_n, x_up_up, x_u1_s, x_u1_n, i1]
  refine x_putI 44 dX12_restore_19 fX_12_294 rfl tX_12_44 n62 s62 (by rfl) ?_
  try simp (disch := decide) only [x_up_s, x_up_n, x_up_up, x_u1_s, x_u1_n, i1]
  refine x_aload_n dX12_restore_22 x_get_2_0 ?_
  refine x_aload_n dX12_restore_23 x_get_2_0 ?_
  refine x_getI 59 dX12_restore_24 fX_12_449 rfl n62 s62 (by rfl) ?_
  try simp (disch := decide) only [x_up_s, x_up_n, x_up_up, x_u1_s, x_u1_n, i1]
  refine x_putI 52 dX12_restore_27 fX_12_297 rfl tX_12_52 n62 s62 (by rfl) ?_
  try simp (disch := decide) only [x_up_s, x_up_n, x_up_up, x_u1_s, x_u1_n, i1]
  refine x_iconst dX12_restore_30 ?_
  refine x_istore_n dX12_restore_31 (Nat.le_of_ble_eq_true rfl) rfl x_set_2_1 ?_
  refine x_mem (show _ = x_up (x_up D 62 (x_u1 (x_u1 (x_u1 (D 62) 0 0) 44 (D 62 58)) 52 (D 62 59))) 82 (x_cpy (D 93) (D 82) 0 0 ((0 : Nat) : Int)) from ?_) (hloop 0 (Nat.zero_le _))
  rw [x_cpy_0]
  funext q
  by_cases hq82 : q = 82
  · subst hq82; rw [x_up_s, x_up_n (by decide)]
  · rw [x_up_n hq82]
theorem m_lays {X : xC} {l : Launch} (hl : l.stackTraces = false) {N : Nat} {sh : xS} {D : xM} (hM : is_Md N sh) {k z : Int} (hk0 : 0 ≤ k) (hk1 : k + 4 ≤ 700) (hkt : D 62 13 = k) : x_M X l yX12_lays cX12_lays 3 (none) 1 0 0 [.ref (x_b X + 62), .int (xI z)] false N sh D (.inl none) false N sh (x_is (x_up (x_up D 70 (tm4 (D 70) k z 4)) 62 (x_u1 (D 62) 13 (k + 4)))) := by
  have s62 := md_62 hM
  have n62 : 62 < N := md_n hM (by decide)
  have s70 := md_70 hM
  have n70 : 70 < N := md_n hM (by decide)
  have hloop : ∀ j : Nat, j ≤ 4 → x_W (X, l, yX12_lays, cX12_lays, 3, none, x_room 1 0 0, 0, 0, (.inl none), N, sh, (x_is (x_up (x_up D 70 (tm4 (D 70) k z 4)) 62 (x_u1 (D 62) 13 (k + 4)))), false, []) 3 [some (.ref (x_b X + 62)), some (.int (xI z)), some (.int (xI (24 - 8 * (j : Int))))] [] 0 0 false N sh (x_up (x_up D 70 (tm4 (D 70) k z (j : Nat))) 62 (x_u1 (D 62) 13 (k + (j : Nat)))) := by
    refine x_down 4 ?_ ?_
    · refine x_iload_n dX12_lays_3 x_get_3_2 ?_
      refine r_if_lt (t := 39) dX12_lays_4 rfl ⟨by omega, by omega⟩ (fun hc4 => ?_) (fun hc4 => absurd hc4 (by omega))
      exact x_vret dX12_lays_39 rfl (Nat.le_of_ble_eq_true rfl) (Nat.le_of_ble_eq_true rfl) rfl rfl rfl rfl rfl
    · intro j hj ih
      refine x_iload_n dX12_lays_3 x_get_3_2 ?_
      refine r_if_lt (t := 39) dX12_lays_4 rfl ⟨by omega, by omega⟩ (fun hc4 => absurd hc4 (by omega)) (fun hc4 => ?_)
      refine x_aload_n dX12_lays_7 x_get_3_0 ?_
      refine x_getR dX12_lays_8 fX_12_35 n62 s62 (by rfl) ?_
      refine x_aload_n dX12_lays_11 x_get_3_0 ?_
      refine x_getI 13 dX12_lays_12 fX_12_120 rfl n62 s62 (by rfl) ?_
      try simp (disch := decide) only [x_up_s, x_up_n, x_u1_s, x_up_up, x_u1_u1]
      refine x_iload_n dX12_lays_15 x_get_3_1 ?_
      refine x_iload_n dX12_lays_16 x_get_3_2 ?_
      refine x_ishr dX12_lays_17 ?_
      refine x_sipush dX12_lays_18 rfl ?_
      refine x_iand dX12_lays_21 ?_
      refine x_iast dX12_lays_22 n70 s70 (by omega) (by omega) (by decide) ?_
      try simp (disch := decide) only [x_up_s, x_up_n, x_u1_s, x_up_up, x_u1_u1]
      refine x_aload_n dX12_lays_23 x_get_3_0 ?_
      refine x_dup dX12_lays_24 rfl ?_
      refine x_getI 13 dX12_lays_25 fX_12_120 rfl n62 s62 (by rfl) ?_
      try simp (disch := decide) only [x_up_s, x_up_n, x_u1_s, x_up_up, x_u1_u1]
      refine x_iconst dX12_lays_28 ?_
      refine x_iadd dX12_lays_29 ?_
      refine x_putI 13 dX12_lays_30 fX_12_120 rfl tX_12_13 n62 s62 (by rfl) ?_
      try simp (disch := decide) only [x_up_s, x_up_n, x_u1_s, x_up_up, x_u1_u1]
      refine x_mem (show _ = (x_up (x_up D 70 (tm4 (D 70) k z (j + 1 : Nat))) 62 (x_u1 (D 62) 13 (k + (j + 1 : Nat)))) from ?_) ?_
      · rw [tm4_s, show (((j + 1 : Nat) : Int)) = (j : Int) + 1 by push_cast; rfl, ← Int.add_assoc]
        simp (disch := decide) only [x_up_s, x_up_n, x_up_up, x_up_up2, x_u1_u1]
      refine x_iinc dX12_lays_33 x_get_3_2 (Nat.le_of_ble_eq_true rfl) rfl x_set_3_2 ?_
      refine x_goto (t := 3) dX12_lays_36 rfl ?_
      rw [show (24 - 8 * (j : Int) + (-8)) = 24 - 8 * ((j + 1 : Nat) : Int) by push_cast; omega]
      exact ih
  refine x_ofW (by decide +kernel) hl (by simp [Value.category]) (by simp) ?_
  refine x_bipush dX12_lays_0 rfl ?_
  refine x_istore_n dX12_lays_2 (Nat.le_of_ble_eq_true rfl) rfl x_set_3_2 ?_
  refine x_mem (show D = (x_up (x_up D 70 (tm4 (D 70) k z (0 : Nat))) 62 (x_u1 (D 62) 13 (k + (0 : Nat)))) from ?_) (hloop 0 (Nat.zero_le _))
  show D = x_up (x_up D 70 (D 70)) 62 (x_u1 (D 62) 13 (k + 0))
  rw [x_up_id, Int.add_zero, ← hkt, x_u1_id, x_up_id]
set_option maxHeartbeats 8000000 in
theorem m_feed {X : xC} {l : Launch} (hl : l.stackTraces = false) {N : Nat} {sh : xS} {D : xM} (hM : is_Md N sh) {k : Nat} {z1 z2 z3 z4 z5 : Int} (hk1 : k + 20 ≤ 700) (hkt : D 62 13 = k) : x_M X l yX12_feed cX12_feed 6 (some .int) 4 0 0 [.ref (x_b X + 62), .int (xI z1), .int (xI z2), .int (xI z3), .int (xI z4), .int (xI z5)] false N sh D (.inl (some (.int (xI ((k : Int) + 20))))) false N sh (fun d => d 70 = tm20 (D 70) k z1 z2 z3 z4 z5 ∧ d 62 = x_u1 (x_u1 (D 62) 0 0) 13 ((k : Int) + 20) ∧ ∀ j, j ≠ 62 → j ≠ 70 → d j = D j) := by
  have s62 := md_62 hM
  have n62 : 62 < N := md_n hM (by decide)
  refine x_ofW (by decide +kernel) hl (by simp [Value.category]) (by simp) ?_
  refine x_aload_n dX12_feed_0 x_get_6_0 ?_
  refine x_iconst dX12_feed_1 ?_
  refine x_putI 0 dX12_feed_2 fX_12_117 rfl tX_12_0 n62 s62 (by rfl) ?_
  have kt0 : (x_up D 62 (x_u1 (D 62) 0 0)) 62 13 = k := by rw [x_up_s, x_u1_n (by decide)]; exact hkt
  have f0 : ∀ j, j ≠ 62 → j ≠ 70 → (x_up D 62 (x_u1 (D 62) 0 0)) j = D j := fun j a _ => x_up_n a
  have t0 : (x_up D 62 (x_u1 (D 62) 0 0)) 70 = D 70 := x_up_n (by decide)
  have o0 : (x_up D 62 (x_u1 (D 62) 0 0)) 62 = x_u1 (D 62) 0 0 := x_up_s
  generalize x_up D 62 (x_u1 (D 62) 0 0) = d0 at kt0 f0 t0 o0 ⊢
  refine x_aload_n dX12_feed_5 x_get_6_0 ?_
  refine x_getI 13 dX12_feed_6 fX_12_120 rfl n62 s62 (by rfl) ?_
  try simp (disch := decide) only [x_up_s, x_up_n, x_up_up, x_u1_s, x_u1_n, kt0]
  refine x_bipush dX12_feed_9 rfl ?_
  refine x_iadd dX12_feed_11 ?_
  refine x_sipush dX12_feed_12 rfl ?_
  refine r_icmp_le (t := 20) dX12_feed_15 rfl ⟨by omega, by omega⟩ ⟨by omega, by omega⟩ (fun hc15 => ?_) (fun hc15 => absurd hc15 (by omega))
  refine x_aload_n dX12_feed_20 x_get_6_0 ?_
  refine x_iload_n dX12_feed_21 x_get_6_1 ?_
  refine x_callV (As := [_]) dX12_feed_22 w_12_123 (m_lays hl hM (k := (k : Int)) (by omega) (by omega) kt0) (by assumption) (by assumption) rfl rfl (Nat.le_of_ble_eq_true rfl) (Nat.le_of_ble_eq_true rfl) (Nat.le_of_ble_eq_true rfl) (Nat.le_of_ble_eq_true rfl) (Nat.le_of_ble_eq_true rfl) ?_
  rintro d1 hd1
  have o1 : d1 62 = x_u1 (x_u1 (D 62) 0 0) 13 ((k : Int) + 4) := by
    rw [hd1, x_up_s, o0]
  have k1 : d1 62 13 = (k : Int) + 4 := by rw [o1, x_u1_s]
  have t1 : d1 70 = tm4 (d0 70) (k : Int) z1 4 := by rw [hd1, x_up_n (by decide), x_up_s]
  have f1 : ∀ j, j ≠ 62 → j ≠ 70 → d1 j = D j := fun j a b => by rw [hd1, x_up_n a, x_up_n b, f0 j a b]
  refine x_aload_n dX12_feed_25 x_get_6_0 ?_
  refine x_iload_n dX12_feed_26 x_get_6_2 ?_
  refine x_callV (As := [_]) dX12_feed_27 w_12_123 (m_lays hl hM (k := ((k : Int) + 4)) (by omega) (by omega) k1) (by assumption) (by assumption) rfl rfl (Nat.le_of_ble_eq_true rfl) (Nat.le_of_ble_eq_true rfl) (Nat.le_of_ble_eq_true rfl) (Nat.le_of_ble_eq_true rfl) (Nat.le_of_ble_eq_true rfl) ?_
  rintro d2 hd2
  have o2 : d2 62 = x_u1 (x_u1 (D 62) 0 0) 13 ((k : Int) + 8) := by
    rw [hd2, x_up_s, o1, x_u1_u1, show ((k : Int) + 4) + 4 = (k : Int) + 8 by omega]
  have k2 : d2 62 13 = (k : Int) + 8 := by rw [o2, x_u1_s]
  have t2 : d2 70 = tm4 (d1 70) ((k : Int) + 4) z2 4 := by rw [hd2, x_up_n (by decide), x_up_s]
  have f2 : ∀ j, j ≠ 62 → j ≠ 70 → d2 j = D j := fun j a b => by rw [hd2, x_up_n a, x_up_n b, f1 j a b]
  refine x_aload_n dX12_feed_30 x_get_6_0 ?_
  refine x_iload_n dX12_feed_31 x_get_6_3 ?_
  refine x_callV (As := [_]) dX12_feed_32 w_12_123 (m_lays hl hM (k := ((k : Int) + 8)) (by omega) (by omega) k2) (by assumption) (by assumption) rfl rfl (Nat.le_of_ble_eq_true rfl) (Nat.le_of_ble_eq_true rfl) (Nat.le_of_ble_eq_true rfl) (Nat.le_of_ble_eq_true rfl) (Nat.le_of_ble_eq_true rfl) ?_
  rintro d3 hd3
  have o3 : d3 62 = x_u1 (x_u1 (D 62) 0 0) 13 ((k : Int) + 12) := by
    rw [hd3, x_up_s, o2, x_u1_u1, show ((k : Int) + 8) + 4 = (k : Int) + 12 by omega]
  have k3 : d3 62 13 = (k : Int) + 12 := by rw [o3, x_u1_s]
  have t3 : d3 70 = tm4 (d2 70) ((k : Int) + 8) z3 4 := by rw [hd3, x_up_n (by decide), x_up_s]
  have f3 : ∀ j, j ≠ 62 → j ≠ 70 → d3 j = D j := fun j a b => by rw [hd3, x_up_n a, x_up_n b, f2 j a b]
  refine x_aload_n dX12_feed_35 x_get_6_0 ?_
  refine x_iload dX12_feed_36 x_get_6_4 ?_
  refine x_callV (As := [_]) dX12_feed_38 w_12_123 (m_lays hl hM (k := ((k : Int) + 12)) (by omega) (by omega) k3) (by assumption) (by assumption) rfl rfl (Nat.le_of_ble_eq_true rfl) (Nat.le_of_ble_eq_true rfl) (Nat.le_of_ble_eq_true rfl) (Nat.le_of_ble_eq_true rfl) (Nat.le_of_ble_eq_true rfl) ?_
  rintro d4 hd4
  have o4 : d4 62 = x_u1 (x_u1 (D 62) 0 0) 13 ((k : Int) + 16) := by
    rw [hd4, x_up_s, o3, x_u1_u1, show ((k : Int) + 12) + 4 = (k : Int) + 16 by omega]
  have k4 : d4 62 13 = (k : Int) + 16 := by rw [o4, x_u1_s]
  have t4 : d4 70 = tm4 (d3 70) ((k : Int) + 12) z4 4 := by rw [hd4, x_up_n (by decide), x_up_s]
  have f4 : ∀ j, j ≠ 62 → j ≠ 70 → d4 j = D j := fun j a b => by rw [hd4, x_up_n a, x_up_n b, f3 j a b]
  refine x_aload_n dX12_feed_41 x_get_6_0 ?_
  refine x_iload dX12_feed_42 x_get_6_5 ?_
  refine x_callV (As := [_]) dX12_feed_44 w_12_123 (m_lays hl hM (k := ((k : Int) + 16)) (by omega) (by omega) k4) (by assumption) (by assumption) rfl rfl (Nat.le_of_ble_eq_true rfl) (Nat.le_of_ble_eq_true rfl) (Nat.le_of_ble_eq_true rfl) (Nat.le_of_ble_eq_true rfl) (Nat.le_of_ble_eq_true rfl) ?_
  rintro d5 hd5
  have o5 : d5 62 = x_u1 (x_u1 (D 62) 0 0) 13 ((k : Int) + 20) := by
    rw [hd5, x_up_s, o4, x_u1_u1, show ((k : Int) + 16) + 4 = (k : Int) + 20 by omega]
  have k5 : d5 62 13 = (k : Int) + 20 := by rw [o5, x_u1_s]
  have t5 : d5 70 = tm4 (d4 70) ((k : Int) + 16) z5 4 := by rw [hd5, x_up_n (by decide), x_up_s]
  have f5 : ∀ j, j ≠ 62 → j ≠ 70 → d5 j = D j := fun j a b => by rw [hd5, x_up_n a, x_up_n b, f4 j a b]
  skip
  refine x_aload_n dX12_feed_47 x_get_6_0 ?_
  refine x_getI 13 dX12_feed_48 fX_12_120 rfl n62 s62 (by rfl) ?_
  try simp (disch := decide) only [x_up_s, x_up_n, x_up_up, x_u1_s, x_u1_n, k5]
  exact x_iret dX12_feed_51 rfl (Nat.le_of_ble_eq_true rfl) (Nat.le_of_ble_eq_true rfl) rfl rfl rfl ⟨by rw [t5, t4, t3, t2, t1, t0]; rfl, o5, f5⟩ rfl
theorem m_feedR {X : xC} {l : Launch} (hl : l.stackTraces = false) {N : Nat} {sh : xS} {D : xM} (hM : is_Md N sh) {k : Nat} {z1 z2 z3 z4 z5 : Int} (hk7 : k ≤ 700) (hk1 : ¬ k + 20 ≤ 700) (hkt : D 62 13 = k) : x_M X l yX12_feed cX12_feed 6 (some .int) 4 0 0 [.ref (x_b X + 62), .int (xI z1), .int (xI z2), .int (xI z3), .int (xI z4), .int (xI z5)] false N sh D (.inl (some (.int (xI (-1))))) false N sh (x_is (x_up D 62 (x_u1 (D 62) 0 0))) := by
  have s62 := md_62 hM
  have n62 : 62 < N := md_n hM (by decide)
  refine x_ofW (by decide +kernel) hl (by simp [Value.category]) (by simp) ?_
  refine x_aload_n dX12_feed_0 x_get_6_0 ?_
  refine x_iconst dX12_feed_1 ?_
  refine x_putI 0 dX12_feed_2 fX_12_117 rfl tX_12_0 n62 s62 (by rfl) ?_
  try simp (disch := decide) only [x_up_s, x_up_n, x_up_up, x_u1_s, x_u1_n, hkt]
  refine x_aload_n dX12_feed_5 x_get_6_0 ?_
  refine x_getI 13 dX12_feed_6 fX_12_120 rfl n62 s62 (by rfl) ?_
  try simp (disch := decide) only [x_up_s, x_up_n, x_up_up, x_u1_s, x_u1_n, hkt]
  refine x_bipush dX12_feed_9 rfl ?_
  refine x_iadd dX12_feed_11 ?_
  refine x_sipush dX12_feed_12 rfl ?_
  refine r_icmp_le (t := 20) dX12_feed_15 rfl ⟨by omega, by omega⟩ ⟨by omega, by omega⟩ (fun hc15 => absurd hc15 (by omega)) (fun hc15 => ?_)
  refine x_iconst dX12_feed_18 ?_
  exact x_iret dX12_feed_19 rfl (Nat.le_of_ble_eq_true rfl) (Nat.le_of_ble_eq_true rfl) rfl rfl rfl rfl rfl
theorem m_fault {X : xC} {l : Launch} (hl : l.stackTraces = false) {N : Nat} {sh : xS} {D : xM} (hM : is_Md N sh) : x_M X l yX12_fault cX12_fault 1 (some .int) 4 0 0 [.ref (x_b X + 62)] false N sh D (.inl (some (.int (xI (D 62 15))))) false N sh (x_is (x_up D 62 (x_u1 (D 62) 0 0))) := by
  have s62 := md_62 hM
  have n62 : 62 < N := md_n hM (by decide)
  refine x_ofW (by decide +kernel) hl (by simp [Value.category]) (by simp) ?_
  refine x_aload_n dX12_fault_0 x_get_1_0 ?_
  refine x_iconst dX12_fault_1 ?_
  refine x_putI 0 dX12_fault_2 fX_12_117 rfl tX_12_0 n62 s62 (by rfl) ?_
  try simp (disch := decide) only [x_up_s, x_up_n, x_up_up, x_u1_s, x_u1_n]
  refine x_aload_n dX12_fault_5 x_get_1_0 ?_
  refine x_getI 15 dX12_fault_6 fX_12_38 rfl n62 s62 (by rfl) ?_
  try simp (disch := decide) only [x_up_s, x_up_n, x_up_up, x_u1_s, x_u1_n]
  exact x_iret dX12_fault_9 rfl (Nat.le_of_ble_eq_true rfl) (Nat.le_of_ble_eq_true rfl) rfl rfl rfl rfl rfl
end M73
