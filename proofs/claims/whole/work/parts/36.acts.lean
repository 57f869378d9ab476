section C36
/-! the acts that can be undone: rows, in a ring -/
def is_Ac (N : Nat) (sh : xS) (ac kp : Nat) : Prop := ac < N ∧ sh ac = .inr (0, [kp + 3, 0, 0]) ∧ kp < N ∧ sh kp = .inl (0, 3400)
def acts (D : xM) (ac kp : Nat) (L : List (Int → Int)) : Prop := ∃ o : Nat, o < 40 ∧ D ac 1 = o ∧ D ac 2 = L.length ∧ L.length ≤ 40 ∧ ∀ (k : Nat) (f : Int → Int), L[k]? = some f → ∀ i : Int, 0 ≤ i → i < 85 → D kp ((((o + k) % 40 : Nat) : Int) * 85 + i) = f i
def l_keep (L : List (Int → Int)) (f : Int → Int) : List (Int → Int) := if L.length = 40 then L.tail ++ [f] else L ++ [f]
theorem l_keep_len {L : List (Int → Int)} {f : Int → Int} (h : L.length ≤ 40) : (l_keep L f).length ≤ 40 := by
  unfold l_keep
  split <;> simp <;> omega
theorem acts_keep {d : xM} {ac kp : Nat} {L : List (Int → Int)} {f K : Int → Int} {o : Nat} (ho : o < 40) (hl : L.length ≤ 40) (hL : ∀ (k : Nat) (f : Int → Int), L[k]? = some f → ∀ i : Int, 0 ≤ i → i < 85 → K ((((o + k) % 40 : Nat) : Int) * 85 + i) = f i)
    (h1 : d ac 1 = if L.length = 40 then (((o + 1) % 40 : Nat) : Int) else o) (h2 : d ac 2 = if L.length = 40 then (40 : Int) else L.length + 1) (h3 : d kp = x_cpy f K 0 ((((o + L.length) % 40 : Nat) : Int) * 85) 85) : acts d ac kp (l_keep L f) := by
  unfold l_keep
  by_cases hc : L.length = 40
  · rw [if_pos hc] at h1 h2 ⊢
    refine ⟨(o + 1) % 40, Nat.mod_lt _ (by decide), h1, ?_, by simp; omega, ?_⟩
    · rw [h2]; simp [hc]
    · intro k g hg i hi0 hi1
      rw [h3, x_cpy, hc]
      by_cases hk : k < 39
      · have hk2 : k < L.tail.length := by simp; omega
        rw [List.getElem?_append_left hk2, List.getElem?_tail] at hg
        rw [if_neg (by omega), ← hL (k + 1) g hg i hi0 hi1]
        congr 1
        omega
      · have hk2 : L.tail.length = 39 := by simp; omega
        rw [List.getElem?_append_right (by omega), hk2] at hg
        have hk3 : k = 39 := by
          have := (List.getElem?_eq_some_iff.mp hg).1
          simp at this
          omega
        subst hk3
        simp at hg
        subst hg
        rw [if_pos (by omega)]
        congr 1
        omega
  · rw [if_neg hc] at h1 h2 ⊢
    refine ⟨o, ho, h1, ?_, by simp; omega, ?_⟩
    · rw [h2]; simp
    · intro k g hg i hi0 hi1
      rw [h3, x_cpy]
      by_cases hk : k < L.length
      · rw [List.getElem?_append_left hk] at hg
        rw [if_neg (by omega), ← hL k g hg i hi0 hi1]
      · rw [List.getElem?_append_right (by omega)] at hg
        have hk3 : k = L.length := by
          have := (List.getElem?_eq_some_iff.mp hg).1
          simp at this
          omega
        subst hk3
        simp at hg
        subst hg
        rw [if_pos (by omega)]
        congr 1
        omega
theorem acts_drop {D d : xM} {ac kp : Nat} {L : List (Int → Int)} {f : Int → Int} (h : acts D ac kp (L ++ [f])) (h1 : d ac 1 = D ac 1) (h2 : d ac 2 = D ac 2 - 1) (h3 : d kp = D kp) : acts d ac kp L := by
  obtain ⟨o, a1, a2, a3, a4, a5⟩ := h
  rw [List.length_append] at a3 a4
  simp only [List.length_cons, List.length_nil] at a3 a4
  refine ⟨o, a1, by rw [h1]; exact a2, by rw [h2, a3]; push_cast; omega, by omega, fun k g hg => ?_⟩
  rw [h3]
  exact a5 k g (by rw [List.getElem?_append_left (List.getElem?_eq_some_iff.mp hg).1]; exact hg)
/-! what was seen -/
def is_Se (N : Nat) (sh : xS) (se : Nat) : Prop := se + 3 < N ∧ sh se = .inr (8, [se + 1 + 3, se + 2 + 3, se + 3 + 3, 0]) ∧ sh (se + 1) = .inl (0, 8) ∧ sh (se + 2) = .inl (0, 8) ∧ sh (se + 3) = .inl (0, 8)
def seen (D : xM) (se : Nat) (S : List (Int × Int × Int)) : Prop := D se 3 = S.length ∧ S.length ≤ 8 ∧ ∀ (k : Nat) (p : Int × Int × Int), S[k]? = some p → D (se + 1) k = p.1 ∧ D (se + 2) k = p.2.1 ∧ D (se + 3) k = p.2.2
def x_mx (f : Int → Int) : Nat → Int
  | 0 => 0
  | n + 1 => max (x_mx f n) (f n)
theorem seen_add {D : xM} {se : Nat} {S : List (Int × Int × Int)} (g1 : D se 3 = S.length) (g2 : S.length ≤ 8) (g3 : ∀ (k : Nat) (p : Int × Int × Int), S[k]? = some p → D (se + 1) k = p.1 ∧ D (se + 2) k = p.2.1 ∧ D (se + 3) k = p.2.2) (hl : S.length < 8) {t n u : Int} {g : Int → Int} (hg : g 3 = S.length + 1) :
    (fun d => seen d se (S ++ [(t, n, u)]) ∧ ∀ j, j < se ∨ se + 3 < j → d j = D j) (x_up (x_up (x_up (x_up D (se + 1) (x_u1 (D (se + 1)) S.length t)) (se + 2) (x_u1 (D (se + 2)) S.length n)) (se + 3) (x_u1 (D (se + 3)) S.length u)) se g) := by
  refine ⟨⟨?_, ?_, ?_⟩, ?_⟩
  · rw [x_up_s, hg]; simp
  · simp; omega
  · intro k p hp
    rw [x_up_n (by omega), x_up_n (by omega), x_up_n (by omega), x_up_s, x_up_n (by omega), x_up_n (by omega), x_up_s, x_up_n (by omega), x_up_s]
    by_cases hk : k < S.length
    · rw [List.getElem?_append_left hk] at hp
      rw [x_u1_n (by omega), x_u1_n (by omega), x_u1_n (by omega)]
      exact g3 k p hp
    · rw [List.getElem?_append_right (by omega)] at hp
      have hk3 : k = S.length := by
        have := (List.getElem?_eq_some_iff.mp hp).1
        simp at this
        omega
      subst hk3
      simp at hp
      subst hp
      exact ⟨x_u1_s, x_u1_s, x_u1_s⟩
  · intro j hj
    rw [x_up_n (by omega), x_up_n (by omega), x_up_n (by omega), x_up_n (by omega)]
theorem w_0_27 : Cond.methodLink RX0 27 arraycopyName ∈ x_T ∧ Cond.native arraycopyName ∈ x_T ∧ Cond.static arraycopyName ∈ x_T ∧ Cond.initialized "java/lang/System" ∈ x_T := ⟨(x_in 435 (by decide +kernel) rfl), (x_in 437 (by decide +kernel) rfl), (x_in 436 (by decide +kernel) rfl), (x_in 100 (by decide +kernel) rfl)⟩
theorem w_8_25 : x_mw RX8 25 Lib.Math.max.name Lib.Math.max.code 2 := ⟨(x_in 1160 (by decide +kernel) rfl), (x_in 451 (by decide +kernel) rfl), (x_in 95 (by decide +kernel) rfl), (x_in 452 (by decide +kernel) rfl)⟩
theorem w_8_31 : Cond.methodLink RX8 31 arraycopyName ∈ x_T ∧ Cond.native arraycopyName ∈ x_T ∧ Cond.static arraycopyName ∈ x_T ∧ Cond.initialized "java/lang/System" ∈ x_T := ⟨(x_in 583 (by decide +kernel) rfl), (x_in 437 (by decide +kernel) rfl), (x_in 436 (by decide +kernel) rfl), (x_in 100 (by decide +kernel) rfl)⟩
theorem c0_clear {X : xC} {l : Launch} (hl : l.stackTraces = false) {N : Nat} {sh : xS} {D : xM} {ac kp : Nat} (hA : is_Ac N sh ac kp) : x_M X l yX0_clear cX0_clear 1 (none) 1 0 0 [.ref (x_b X + ac)] false N sh D (.inl none) false N sh (fun d => acts d ac kp [] ∧ ∀ j, j ≠ ac → d j = D j) := by
  obtain ⟨hacN, hac, hkpN, hkp⟩ := id hA
  refine x_ofW (by decide +kernel) hl (by simp [Value.category]) (by simp) ?_
  refine x_aload_n dX0_clear_0 x_get_1_0 ?_
  refine x_iconst dX0_clear_1 ?_
  refine x_putI 1 dX0_clear_2 fX_0_17 rfl tX_0_1 (by assumption) (by assumption) (by rfl) ?_
  refine x_aload_n dX0_clear_5 x_get_1_0 ?_
  refine x_iconst dX0_clear_6 ?_
  refine x_putI 2 dX0_clear_7 fX_0_21 rfl tX_0_2 (by assumption) (by assumption) (by rfl) ?_
  exact x_vret dX0_clear_10 rfl (Nat.le_of_ble_eq_true rfl) (Nat.le_of_ble_eq_true rfl) rfl rfl rfl ⟨⟨0, by decide, by rw [x_up_up, x_up_s, x_up_s, x_u1_n (by decide), x_u1_s]; rfl, by rw [x_up_up, x_up_s, x_u1_s]; rfl, by decide, fun k f h => by simp at h⟩, fun j hj => by rw [x_up_n hj, x_up_n hj]⟩ rfl
theorem c0_keep {X : xC} {l : Launch} (hl : l.stackTraces = false) {N : Nat} {sh : xS} {D : xM} {ac kp : Nat} (hA : is_Ac N sh ac kp) {r a : Nat} (hs : is_St N sh r a) {L : List (Int → Int)} (hL : acts D ac kp L) (hn : a ≠ ac ∧ a ≠ kp ∧ r ≠ ac ∧ ac ≠ kp) : x_M X l yX0_keep cX0_keep 3 (none) 1 0 0 [.ref (x_b X + ac), .ref (x_b X + r)] false N sh D (.inl none) false N sh (fun d => acts d ac kp (l_keep L (D a)) ∧ ∀ j, j ≠ ac → j ≠ kp → d j = D j) := by
  obtain ⟨hacN, hac, hkpN, hkp⟩ := id hA
  obtain ⟨hrN, hr, haN, ha⟩ := id hs
  obtain ⟨n1, n2, n3, n4⟩ := hn
  obtain ⟨o, o1, o2, o3, o4, o5⟩ := hL
  refine x_ofW (by decide +kernel) hl (by simp [Value.category]) (by simp) ?_
  have tail : ∀ g : Int → Int, (g 1 = if L.length = 40 then (((o + 1) % 40 : Nat) : Int) else o) → (g 2 = if L.length = 40 then (40 : Int) else L.length + 1) → x_W (X, l, yX0_keep, cX0_keep, 3, none, x_room 1 0 0, 0, 0, (.inl none), N, sh, (fun d => acts d ac kp (l_keep L (D a)) ∧ ∀ j, j ≠ ac → j ≠ kp → d j = D j), false, []) 48 [some (.ref (x_b X + ac)), some (.ref (x_b X + r)), some (.int (xI (((o + L.length) % 40 : Nat) : Int)))] [] 0 0 false N sh (x_up D ac g) := by
    intro g hg1 hg2
    refine x_aload_n dX0_keep_48 x_get_3_1 ?_
    refine x_getR dX0_keep_49 fX_0_24 (by assumption) (by assumption) (by rfl) ?_
    refine x_iconst dX0_keep_52 ?_
    refine x_aload_n dX0_keep_53 x_get_3_0 ?_
    refine x_getR dX0_keep_54 fX_0_11 (by assumption) (by assumption) (by rfl) ?_
    refine x_iload_n dX0_keep_57 x_get_3_2 ?_
    refine x_bipush dX0_keep_58 rfl ?_
    refine x_imul dX0_keep_60 ?_
    refine x_bipush dX0_keep_61 rfl ?_
    refine x_copy dX0_keep_63 w_0_27 (by assumption) (by assumption) (by assumption) (by assumption) (by decide) (by omega) (by decide) (by omega) (by omega) (by decide) (by decide) (Nat.le_of_ble_eq_true rfl) (Nat.le_of_ble_eq_true rfl) ?_
    exact x_vret dX0_keep_66 rfl (Nat.le_of_ble_eq_true rfl) (Nat.le_of_ble_eq_true rfl) rfl rfl rfl ⟨acts_keep (K := D kp) o1 o4 o5 (by rw [x_up_n n4, x_up_s]; exact hg1) (by rw [x_up_n n4, x_up_s]; exact hg2) (by rw [x_up_s, x_up_n n1, x_up_n (Ne.symm n4)]), fun j h1 h2 => by rw [x_up_n h2, x_up_n h1]⟩ rfl
  refine x_aload_n dX0_keep_0 x_get_3_0 ?_
  refine x_getI 1 dX0_keep_1 fX_0_17 rfl (by assumption) (by assumption) (by rfl) ?_
  refine x_aload_n dX0_keep_4 x_get_3_0 ?_
  refine x_getI 2 dX0_keep_5 fX_0_21 rfl (by assumption) (by assumption) (by rfl) ?_
  refine x_iadd dX0_keep_8 ?_
  refine x_bipush dX0_keep_9 rfl ?_
  refine x_irem dX0_keep_11 (by decide) ?_
  refine x_as_is (b := (((o + L.length) % 40 : Nat) : Int)) (by rw [o2, o3, x_rm_nn (by omega) (by omega) (by omega) (by omega)]; push_cast; rfl) ?_
  refine x_istore_n dX0_keep_12 (Nat.le_of_ble_eq_true rfl) rfl x_set_3_2 ?_
  refine x_aload_n dX0_keep_13 x_get_3_0 ?_
  refine x_getI 2 dX0_keep_14 fX_0_21 rfl (by assumption) (by assumption) (by rfl) ?_
  refine x_bipush dX0_keep_17 rfl ?_
  refine r_icmp_ne (t := 38) dX0_keep_19 rfl ⟨by omega, by omega⟩ ⟨by omega, by omega⟩ (fun hc19 => ?_) (fun hc19 => ?_)
  · refine x_aload_n dX0_keep_38 x_get_3_0 ?_
    refine x_dup dX0_keep_39 rfl ?_
    refine x_getI 2 dX0_keep_40 fX_0_21 rfl (by assumption) (by assumption) (by rfl) ?_
    refine x_iconst dX0_keep_43 ?_
    refine x_iadd dX0_keep_44 ?_
    refine x_putI 2 dX0_keep_45 fX_0_21 rfl tX_0_2 (by assumption) (by assumption) (by rfl) ?_
    refine tail _ ?_ ?_ <;> first | (rw [x_u1_s, if_pos (by omega)]; done) | (rw [x_u1_n (by decide), if_pos (by omega)]; omega) | (rw [x_u1_n (by decide), if_neg (by omega)]; exact o2) | (rw [x_u1_s, if_neg (by omega), o3])
  · refine x_aload_n dX0_keep_22 x_get_3_0 ?_
    refine x_aload_n dX0_keep_23 x_get_3_0 ?_
    refine x_getI 1 dX0_keep_24 fX_0_17 rfl (by assumption) (by assumption) (by rfl) ?_
    refine x_iconst dX0_keep_27 ?_
    refine x_iadd dX0_keep_28 ?_
    refine x_bipush dX0_keep_29 rfl ?_
    refine x_irem dX0_keep_31 (by decide) ?_
    refine x_as_is (b := (((o + 1) % 40 : Nat) : Int)) (by rw [o2, x_rm_nn (by omega) (by omega) (by omega) (by omega)]; push_cast; rfl) ?_
    refine x_putI 1 dX0_keep_32 fX_0_17 rfl tX_0_1 (by assumption) (by assumption) (by rfl) ?_
    refine x_goto (t := 48) dX0_keep_35 rfl ?_
    refine tail _ ?_ ?_ <;> first | (rw [x_u1_s, if_pos (by omega)]; done) | (rw [x_u1_n (by decide), if_pos (by omega)]; omega) | (rw [x_u1_n (by decide), if_neg (by omega)]; exact o2) | (rw [x_u1_s, if_neg (by omega), o3])
theorem c0_back {X : xC} {l : Launch} (hl : l.stackTraces = false) {N : Nat} {sh : xS} {D : xM} {ac kp : Nat} (hA : is_Ac N sh ac kp) {r a : Nat} (hs : is_St N sh r a) {L : List (Int → Int)} {f : Int → Int} (hL : acts D ac kp (L ++ [f])) (hn : a ≠ ac ∧ a ≠ kp ∧ r ≠ ac ∧ ac ≠ kp) : x_M X l yX0_takeBack cX0_takeBack 3 (none) 1 0 0 [.ref (x_b X + ac), .ref (x_b X + r)] false N sh D (.inl none) false N sh (fun d => acts d ac kp L ∧ d a = f ∧ ∀ j, j ≠ ac → j ≠ a → d j = D j) := by
  obtain ⟨hacN, hac, hkpN, hkp⟩ := id hA
  obtain ⟨hrN, hr, haN, ha⟩ := id hs
  obtain ⟨n1, n2, n3, n4⟩ := hn
  obtain ⟨o, o1, o2, o3, o4, o5⟩ := id hL
  have e1 : (L ++ [f]).length = L.length + 1 := by simp
  rw [e1] at o3 o4
  have o6 := o5 L.length f (by simp)
  refine x_ofW (by decide +kernel) hl (by simp [Value.category]) (by simp) ?_
  refine x_aload_n dX0_takeBack_0 x_get_3_0 ?_
  refine x_getI 2 dX0_takeBack_1 fX_0_21 rfl (by assumption) (by assumption) (by rfl) ?_
  refine r_if_le (t := 48) dX0_takeBack_4 rfl ⟨by omega, by omega⟩ (fun hc4 => absurd hc4 (by omega)) (fun hc4 => ?_)
  refine x_aload_n dX0_takeBack_7 x_get_3_0 ?_
  refine x_dup dX0_takeBack_8 rfl ?_
  refine x_getI 2 dX0_takeBack_9 fX_0_21 rfl (by assumption) (by assumption) (by rfl) ?_
  refine x_iconst dX0_takeBack_12 ?_
  refine x_isub dX0_takeBack_13 ?_
  refine x_putI 2 dX0_takeBack_14 fX_0_21 rfl tX_0_2 (by assumption) (by assumption) (by rfl) ?_
  refine x_aload_n dX0_takeBack_17 x_get_3_0 ?_
  refine x_getI 1 dX0_takeBack_18 fX_0_17 rfl (by assumption) (by assumption) (by rfl) ?_
  first | rw [x_up_s, x_u1_n (by decide), o2] | rw [x_up_s, x_u1_s, o3]
  refine x_aload_n dX0_takeBack_21 x_get_3_0 ?_
  refine x_getI 2 dX0_takeBack_22 fX_0_21 rfl (by assumption) (by assumption) (by rfl) ?_
  first | rw [x_up_s, x_u1_n (by decide), o2] | rw [x_up_s, x_u1_s, o3]
  refine x_iadd dX0_takeBack_25 ?_
  refine x_bipush dX0_takeBack_26 rfl ?_
  refine x_irem dX0_takeBack_28 (by decide) ?_
  refine x_as_is (b := (((o + L.length) % 40 : Nat) : Int)) (by rw [x_rm_nn (by omega) (by omega) (by omega) (by omega)]; push_cast; omega) ?_
  refine x_istore_n dX0_takeBack_29 (Nat.le_of_ble_eq_true rfl) rfl x_set_3_2 ?_
  refine x_aload_n dX0_takeBack_30 x_get_3_0 ?_
  refine x_getR dX0_takeBack_31 fX_0_11 (by assumption) (by assumption) (by rfl) ?_
  refine x_iload_n dX0_takeBack_34 x_get_3_2 ?_
  refine x_bipush dX0_takeBack_35 rfl ?_
  refine x_imul dX0_takeBack_37 ?_
  refine x_aload_n dX0_takeBack_38 x_get_3_1 ?_
  refine x_getR dX0_takeBack_39 fX_0_24 (by assumption) (by assumption) (by rfl) ?_
  refine x_iconst dX0_takeBack_42 ?_
  refine x_bipush dX0_takeBack_43 rfl ?_
  refine x_copy dX0_takeBack_45 w_0_27 (by assumption) (by assumption) (by assumption) (by assumption) (by omega) (by decide) (by decide) (by omega) (by omega) (by decide) (by decide) (Nat.le_of_ble_eq_true rfl) (Nat.le_of_ble_eq_true rfl) ?_
  refine x_rng f ha (fun j h0 h1 => by rw [x_up_s, x_cpy, if_pos ⟨by omega, by omega⟩, x_up_n (Ne.symm n4), ← o6 j h0 (by omega)]; congr 1; omega) ?_
  rw [x_up_up]
  exact x_vret dX0_takeBack_48 rfl (Nat.le_of_ble_eq_true rfl) (Nat.le_of_ble_eq_true rfl) rfl rfl rfl ⟨acts_drop hL (by rw [x_up_n (Ne.symm n1), x_up_s, x_u1_n (by decide)]) (by rw [x_up_n (Ne.symm n1), x_up_s, x_u1_s, o3]) (by rw [x_up_n (Ne.symm n2), x_up_n (Ne.symm n4)]), x_up_s, fun j h1 h2 => by rw [x_up_n h2, x_up_n h1]⟩ rfl
theorem c0_take {X : xC} {l : Launch} (hl : l.stackTraces = false) {N : Nat} {sh : xS} {D : xM} {ac kp : Nat} (hA : is_Ac N sh ac kp) {ac2 kp2 : Nat} (hA2 : is_Ac N sh ac2 kp2) {L : List (Int → Int)} (hL : acts D ac2 kp2 L) (hn : ac ≠ ac2 ∧ ac ≠ kp2 ∧ kp ≠ kp2 ∧ ac ≠ kp ∧ kp ≠ ac2) : x_M X l yX0_take cX0_take 2 (none) 1 0 0 [.ref (x_b X + ac), .ref (x_b X + ac2)] false N sh D (.inl none) false N sh (fun d => acts d ac kp L ∧ ∀ j, j ≠ ac → j ≠ kp → d j = D j) := by
  obtain ⟨hacN, hac, hkpN, hkp⟩ := id hA
  obtain ⟨hacN2, hac2, hkpN2, hkp2⟩ := id hA2
  obtain ⟨n1, n2, n3, n4, n5⟩ := hn
  obtain ⟨o, o1, o2, o3, o4, o5⟩ := hL
  refine x_ofW (by decide +kernel) hl (by simp [Value.category]) (by simp) ?_
  refine x_aload_n dX0_take_0 x_get_2_0 ?_
  refine x_aload_n dX0_take_1 x_get_2_1 ?_
  refine x_getI 1 dX0_take_2 fX_0_17 rfl (by assumption) (by assumption) (by rfl) ?_
  refine x_putI 1 dX0_take_5 fX_0_17 rfl tX_0_1 (by assumption) (by assumption) (by rfl) ?_
  refine x_aload_n dX0_take_8 x_get_2_0 ?_
  refine x_aload_n dX0_take_9 x_get_2_1 ?_
  refine x_getI 2 dX0_take_10 fX_0_21 rfl (by assumption) (by assumption) (by rfl) ?_
  rw [x_up_n (Ne.symm n1)]
  refine x_putI 2 dX0_take_13 fX_0_21 rfl tX_0_2 (by assumption) (by assumption) (by rfl) ?_
  refine x_aload_n dX0_take_16 x_get_2_1 ?_
  refine x_getR dX0_take_17 fX_0_11 (by assumption) (by assumption) (by rfl) ?_
  refine x_iconst dX0_take_20 ?_
  refine x_aload_n dX0_take_21 x_get_2_0 ?_
  refine x_getR dX0_take_22 fX_0_11 (by assumption) (by assumption) (by rfl) ?_
  refine x_iconst dX0_take_25 ?_
  refine x_aload_n dX0_take_26 x_get_2_0 ?_
  refine x_getR dX0_take_27 fX_0_11 (by assumption) (by assumption) (by rfl) ?_
  refine x_alen dX0_take_30 (by assumption) (by assumption) (by decide) ?_
  refine x_copy dX0_take_31 w_0_27 (by assumption) (by assumption) (by assumption) (by assumption) (by decide) (by decide) (by decide) (by decide) (by decide) (by decide) (by decide) (Nat.le_of_ble_eq_true rfl) (Nat.le_of_ble_eq_true rfl) ?_
  refine x_rng (D kp2) hkp (fun j h0 h1 => by rw [x_up_s, x_cpy, if_pos ⟨by omega, by omega⟩, x_up_n (Ne.symm n2), x_up_n (Ne.symm n2)]; congr 1; omega) ?_
  rw [x_up_up]
  exact x_vret dX0_take_34 rfl (Nat.le_of_ble_eq_true rfl) (Nat.le_of_ble_eq_true rfl) rfl rfl rfl ⟨⟨o, o1, by rw [x_up_n n4, x_up_up, x_up_s, x_up_s, x_u1_n (by decide), x_u1_s, o2], by rw [x_up_n n4, x_up_up, x_up_s, x_u1_s, o3], o4, by rw [x_up_s]; exact o5⟩, fun j h1 h2 => by rw [x_up_n h2, x_up_n h1, x_up_n h1]⟩ rfl
theorem c8_clear {X : xC} {l : Launch} (hl : l.stackTraces = false) {N : Nat} {sh : xS} {D : xM} {se : Nat} (hE : is_Se N sh se) : x_M X l yX8_clear cX8_clear 1 (none) 1 0 0 [.ref (x_b X + se)] false N sh D (.inl none) false N sh (fun d => seen d se [] ∧ ∀ j, j ≠ se → d j = D j) := by
  obtain ⟨hse3, hse, hs1, hs2, hs3⟩ := id hE
  have hseN : se < N := by omega
  have hs1N : se + 1 < N := by omega
  have hs2N : se + 2 < N := by omega
  have hs3N : se + 3 < N := by omega
  refine x_ofW (by decide +kernel) hl (by simp [Value.category]) (by simp) ?_
  refine x_aload_n dX8_clear_0 x_get_1_0 ?_
  refine x_iconst dX8_clear_1 ?_
  refine x_putI 3 dX8_clear_2 fX_8_21 rfl tX_8_3 (by assumption) (by assumption) (by rfl) ?_
  exact x_vret dX8_clear_5 rfl (Nat.le_of_ble_eq_true rfl) (Nat.le_of_ble_eq_true rfl) rfl rfl rfl ⟨⟨by rw [x_up_s, x_u1_s]; rfl, by decide, fun k p h => by simp at h⟩, fun j hj => x_up_n hj⟩ rfl
theorem c8_add {X : xC} {l : Launch} (hl : l.stackTraces = false) {N : Nat} {sh : xS} {D : xM} {se : Nat} (hE : is_Se N sh se) {S : List (Int × Int × Int)} (hS : seen D se S) (hl8 : S.length < 8) {t n u : Int} : x_M X l yX8_add cX8_add 4 (none) 1 0 0 [.ref (x_b X + se), .int (xI t), .int (xI n), .int (xI u)] false N sh D (.inl none) false N sh (fun d => seen d se (S ++ [(t, n, u)]) ∧ ∀ j, j < se ∨ se + 3 < j → d j = D j) := by
  obtain ⟨hse3, hse, hs1, hs2, hs3⟩ := id hE
  have hseN : se < N := by omega
  have hs1N : se + 1 < N := by omega
  have hs2N : se + 2 < N := by omega
  have hs3N : se + 3 < N := by omega
  obtain ⟨g1, g2, g3⟩ := hS
  refine x_ofW (by decide +kernel) hl (by simp [Value.category]) (by simp) ?_
  refine x_aload_n dX8_add_0 x_get_4_0 ?_
  refine x_getI 3 dX8_add_1 fX_8_21 rfl (by assumption) (by assumption) (by rfl) ?_
  refine x_bipush dX8_add_4 rfl ?_
  refine r_icmp_ge (t := 49) dX8_add_6 rfl ⟨by omega, by omega⟩ ⟨by omega, by omega⟩ (fun hc6 => absurd hc6 (by omega)) (fun hc6 => ?_)
  refine x_aload_n dX8_add_9 x_get_4_0 ?_
  refine x_getR dX8_add_10 fX_8_9 (by assumption) (by assumption) (by rfl) ?_
  refine x_aload_n dX8_add_13 x_get_4_0 ?_
  try rw [g1]
  refine x_getI 3 dX8_add_14 fX_8_21 rfl (by assumption) (by assumption) (by rfl) ?_
  refine x_iload_n dX8_add_17 x_get_4_1 ?_
  refine x_iast dX8_add_18 (by assumption) (by assumption) (by omega) (by omega) (by decide) ?_
  refine x_aload_n dX8_add_19 x_get_4_0 ?_
  refine x_getR dX8_add_20 fX_8_15 (by assumption) (by assumption) (by rfl) ?_
  refine x_aload_n dX8_add_23 x_get_4_0 ?_
  refine x_getI 3 dX8_add_24 fX_8_21 rfl (by assumption) (by assumption) (by rfl) ?_
  simp (disch := omega) only [x_up_n, x_up_s]
  try rw [g1]
  refine x_iload_n dX8_add_27 x_get_4_2 ?_
  refine x_iast dX8_add_28 (by assumption) (by assumption) (by omega) (by omega) (by decide) ?_
  refine x_aload_n dX8_add_29 x_get_4_0 ?_
  refine x_getR dX8_add_30 fX_8_18 (by assumption) (by assumption) (by rfl) ?_
  refine x_aload_n dX8_add_33 x_get_4_0 ?_
  refine x_getI 3 dX8_add_34 fX_8_21 rfl (by assumption) (by assumption) (by rfl) ?_
  simp (disch := omega) only [x_up_n, x_up_s]
  try rw [g1]
  refine x_iload_n dX8_add_37 x_get_4_3 ?_
  refine x_iast dX8_add_38 (by assumption) (by assumption) (by omega) (by omega) (by decide) ?_
  refine x_aload_n dX8_add_39 x_get_4_0 ?_
  refine x_dup dX8_add_40 rfl ?_
  refine x_getI 3 dX8_add_41 fX_8_21 rfl (by assumption) (by assumption) (by rfl) ?_
  simp (disch := omega) only [x_up_n, x_up_s]
  try rw [g1]
  refine x_iconst dX8_add_44 ?_
  refine x_iadd dX8_add_45 ?_
  refine x_putI 3 dX8_add_46 fX_8_21 rfl tX_8_3 (by assumption) (by assumption) (by rfl) ?_
  exact x_vret dX8_add_49 rfl (Nat.le_of_ble_eq_true rfl) (Nat.le_of_ble_eq_true rfl) rfl rfl rfl (seen_add g1 g2 g3 hl8 (by first | (rw [x_u1_s]; done) | (rw [x_u1_s, g1]))) rfl
theorem c8_last {X : xC} {l : Launch} (hl : l.stackTraces = false) {N : Nat} {sh : xS} {D : xM} {se : Nat} (hE : is_Se N sh se) {n : Nat} (hn : D se 3 = n) (hn8 : n ≤ 8) (hr : ∀ j : Int, 0 ≤ j → j < n → 0 ≤ D (se + 2) j ∧ D (se + 2) j ≤ 30) : x_M X l yX8_lastDay cX8_lastDay 3 (some .int) 1 0 0 [.ref (x_b X + se)] false N sh D (.inl (some (.int (xI (x_mx (D (se + 2)) n))))) false N sh (x_is (D)) := by
  obtain ⟨hse3, hse, hs1, hs2, hs3⟩ := id hE
  have hseN : se < N := by omega
  have hs1N : se + 1 < N := by omega
  have hs2N : se + 2 < N := by omega
  have hs3N : se + 3 < N := by omega
  have hmx : ∀ i : Nat, i ≤ n → 0 ≤ x_mx (D (se + 2)) i ∧ x_mx (D (se + 2)) i ≤ 30 := by
    intro i
    induction i with
    | zero => intro _; simp [x_mx]
    | succ i ih => intro hi; have h1 := ih (by omega); have h2 := hr i (by omega) (by omega); unfold x_mx; omega
  refine x_ofW (by decide +kernel) hl (by simp [Value.category]) (by simp) ?_
  have hloop : ∀ i : Nat, i ≤ n → x_W (X, l, yX8_lastDay, cX8_lastDay, 3, some .int, x_room 1 0 0, 0, 0, (.inl (some (.int (xI (x_mx (D (se + 2)) n))))), N, sh, (x_is (D)), false, []) 4 [some (.ref (x_b X + se)), some (.int (xI (x_mx (D (se + 2)) i))), some (.int (xI i))] [] 0 0 false N sh D := by
    refine x_down n ?_ ?_
    · refine x_iload_n dX8_lastDay_4 x_get_3_2 ?_
      refine x_aload_n dX8_lastDay_5 x_get_3_0 ?_
      refine x_getI 3 dX8_lastDay_6 fX_8_21 rfl (by assumption) (by assumption) (by rfl) ?_
      rw [hn]
      refine r_icmp_ge (t := 29) dX8_lastDay_9 rfl ⟨by omega, by omega⟩ ⟨by omega, by omega⟩ (fun hc9 => ?_) (fun hc9 => absurd hc9 (by omega))
      refine x_iload_n dX8_lastDay_29 x_get_3_1 ?_
      exact x_iret dX8_lastDay_30 rfl (Nat.le_of_ble_eq_true rfl) (Nat.le_of_ble_eq_true rfl) rfl rfl rfl rfl rfl
    · intro i hi ih
      have h1 := hmx i (by omega)
      have h2 := hr i (by omega) (by omega)
      refine x_iload_n dX8_lastDay_4 x_get_3_2 ?_
      refine x_aload_n dX8_lastDay_5 x_get_3_0 ?_
      refine x_getI 3 dX8_lastDay_6 fX_8_21 rfl (by assumption) (by assumption) (by rfl) ?_
      rw [hn]
      refine r_icmp_ge (t := 29) dX8_lastDay_9 rfl ⟨by omega, by omega⟩ ⟨by omega, by omega⟩ (fun hc9 => absurd hc9 (by omega)) (fun hc9 => ?_)
      refine x_iload_n dX8_lastDay_12 x_get_3_1 ?_
      refine x_aload_n dX8_lastDay_13 x_get_3_0 ?_
      refine x_getR dX8_lastDay_14 fX_8_15 (by assumption) (by assumption) (by rfl) ?_
      refine x_iload_n dX8_lastDay_17 x_get_3_2 ?_
      refine x_iald dX8_lastDay_18 (by assumption) (by assumption) (by omega) (by omega) (by decide) ?_
      refine r_max dX8_lastDay_19 w_8_25 ⟨by omega, by omega⟩ ⟨by omega, by omega⟩ (Nat.le_of_ble_eq_true rfl) (Nat.le_of_ble_eq_true rfl) (Nat.le_of_ble_eq_true rfl) (Nat.le_of_ble_eq_true rfl) ?_
      refine x_istore_n dX8_lastDay_22 (Nat.le_of_ble_eq_true rfl) rfl x_set_3_1 ?_
      refine x_iinc dX8_lastDay_23 x_get_3_2 (Nat.le_of_ble_eq_true rfl) rfl x_set_3_2 ?_
      refine x_goto (t := 4) dX8_lastDay_26 rfl ?_
      exact ih
  refine x_iconst dX8_lastDay_0 ?_
  refine x_istore_n dX8_lastDay_1 (Nat.le_of_ble_eq_true rfl) rfl x_set_3_1 ?_
  refine x_iconst dX8_lastDay_2 ?_
  refine x_istore_n dX8_lastDay_3 (Nat.le_of_ble_eq_true rfl) rfl x_set_3_2 ?_
  exact hloop 0 (Nat.zero_le _)
theorem c8_take {X : xC} {l : Launch} (hl : l.stackTraces = false) {N : Nat} {sh : xS} {D : xM} {se : Nat} (hE : is_Se N sh se) {se2 : Nat} (hE2 : is_Se N sh se2) {S : List (Int × Int × Int)} (hS : seen D se2 S) (hne : se + 3 < se2 ∨ se2 + 3 < se) : x_M X l yX8_take cX8_take 2 (none) 1 0 0 [.ref (x_b X + se), .ref (x_b X + se2)] false N sh D (.inl none) false N sh (fun d => seen d se S ∧ ∀ j, j < se ∨ se + 3 < j → d j = D j) := by
  obtain ⟨hse3, hse, hs1, hs2, hs3⟩ := id hE
  have hseN : se < N := by omega
  have hs1N : se + 1 < N := by omega
  have hs2N : se + 2 < N := by omega
  have hs3N : se + 3 < N := by omega
  obtain ⟨jse3, jse, js1, js2, js3⟩ := id hE2
  have jseN : se2 < N := by omega
  have js1N : se2 + 1 < N := by omega
  have js2N : se2 + 2 < N := by omega
  have js3N : se2 + 3 < N := by omega
  obtain ⟨g1, g2, g3⟩ := hS
  refine x_ofW (by decide +kernel) hl (by simp [Value.category]) (by simp) ?_
  refine x_aload_n dX8_take_0 x_get_2_0 ?_
  refine x_aload_n dX8_take_1 x_get_2_1 ?_
  refine x_getI 3 dX8_take_2 fX_8_21 rfl (by assumption) (by assumption) (by rfl) ?_
  refine x_putI 3 dX8_take_5 fX_8_21 rfl tX_8_3 (by assumption) (by assumption) (by rfl) ?_
  refine x_aload_n dX8_take_8 x_get_2_1 ?_
  refine x_getR dX8_take_9 fX_8_9 (by assumption) (by assumption) (by rfl) ?_
  refine x_iconst dX8_take_12 ?_
  refine x_aload_n dX8_take_13 x_get_2_0 ?_
  refine x_getR dX8_take_14 fX_8_9 (by assumption) (by assumption) (by rfl) ?_
  refine x_iconst dX8_take_17 ?_
  refine x_bipush dX8_take_18 rfl ?_
  refine x_copy dX8_take_20 w_8_31 (by assumption) (by assumption) (by assumption) (by assumption) (by decide) (by decide) (by decide) (by decide) (by decide) (by decide) (by decide) (Nat.le_of_ble_eq_true rfl) (Nat.le_of_ble_eq_true rfl) ?_
  refine x_rng (D (se2 + 1)) hs1 (fun j h0 h1 => by rw [x_up_s, x_cpy, if_pos ⟨by omega, by omega⟩]; simp (disch := omega) only [x_up_n]; congr 1; omega) ?_
  rw [x_up_up]
  refine x_aload_n dX8_take_23 x_get_2_1 ?_
  refine x_getR dX8_take_24 fX_8_15 (by assumption) (by assumption) (by rfl) ?_
  refine x_iconst dX8_take_27 ?_
  refine x_aload_n dX8_take_28 x_get_2_0 ?_
  refine x_getR dX8_take_29 fX_8_15 (by assumption) (by assumption) (by rfl) ?_
  refine x_iconst dX8_take_32 ?_
  refine x_bipush dX8_take_33 rfl ?_
  refine x_copy dX8_take_35 w_8_31 (by assumption) (by assumption) (by assumption) (by assumption) (by decide) (by decide) (by decide) (by decide) (by decide) (by decide) (by decide) (Nat.le_of_ble_eq_true rfl) (Nat.le_of_ble_eq_true rfl) ?_
  refine x_rng (D (se2 + 2)) hs2 (fun j h0 h1 => by rw [x_up_s, x_cpy, if_pos ⟨by omega, by omega⟩]; simp (disch := omega) only [x_up_n]; congr 1; omega) ?_
  rw [x_up_up]
  refine x_aload_n dX8_take_38 x_get_2_1 ?_
  refine x_getR dX8_take_39 fX_8_18 (by assumption) (by assumption) (by rfl) ?_
  refine x_iconst dX8_take_42 ?_
  refine x_aload_n dX8_take_43 x_get_2_0 ?_
  refine x_getR dX8_take_44 fX_8_18 (by assumption) (by assumption) (by rfl) ?_
  refine x_iconst dX8_take_47 ?_
  refine x_bipush dX8_take_48 rfl ?_
  refine x_copy dX8_take_50 w_8_31 (by assumption) (by assumption) (by assumption) (by assumption) (by decide) (by decide) (by decide) (by decide) (by decide) (by decide) (by decide) (Nat.le_of_ble_eq_true rfl) (Nat.le_of_ble_eq_true rfl) ?_
  refine x_rng (D (se2 + 3)) hs3 (fun j h0 h1 => by rw [x_up_s, x_cpy, if_pos ⟨by omega, by omega⟩]; simp (disch := omega) only [x_up_n]; congr 1; omega) ?_
  rw [x_up_up]
  exact x_vret dX8_take_53 rfl (Nat.le_of_ble_eq_true rfl) (Nat.le_of_ble_eq_true rfl) rfl rfl rfl ⟨⟨by simp (disch := omega) only [x_up_n, x_up_s, x_u1_s]; exact g1, g2, fun k p hp => by simp (disch := omega) only [x_up_n, x_up_s]; exact g3 k p hp⟩, fun j hj => by simp (disch := omega) only [x_up_n]⟩ rfl
end C36
