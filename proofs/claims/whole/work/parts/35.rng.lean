section XRG
theorem arrV_ext {cI : ClassId} {n : Nat} {f g : Nat → Value} (h : ∀ j, j < n → f j = g j) : arrV cI n f = arrV cI n g := by
  unfold arrV
  congr 2
  funext j
  exact h j.val j.isLt
theorem x_P_r1 {X : xC} {g : Bool} {N : Nat} {sh : xS} {D : xM} {H : Heap} {q t len : Nat} {f : Int → Int} (hs : sh q = .inl (t, len)) (hf : ∀ j : Int, 0 ≤ j → j < len → D q j = f j) (h : x_P X g N sh D H) : x_P X g N sh (x_up D q f) H := by
  refine ⟨fun k e he => ?_, h.2⟩
  have hk := (x_wl_inv he).1
  have he2 := (x_wl_inv he).2
  subst he2
  have h0 := h.1 k (x_b X + k, x_el X sh D k) (x_wl_at hk)
  by_cases hkq : k = q
  · subst hkq
    have e1 : x_el X sh D k = (if t = 3 then .inl (x_cA X 3, len, .inr (.inl (fun j => xL (D k j)))) else .inl (x_cA X t, len, .inl (fun j => xI (D k j)))) := by unfold x_el; rw [hs]
    have e2 : x_el X sh (x_up D k f) k = (if t = 3 then .inl (x_cA X 3, len, .inr (.inl (fun j => xL (f j)))) else .inl (x_cA X t, len, .inl (fun j => xI (f j)))) := by unfold x_el; rw [hs, x_up_s]
    rw [e1] at h0
    rw [e2]
    by_cases ht : t = 3
    · rw [if_pos ht] at h0 ⊢
      have h1 : H[x_b X + k]? = some (vp_cell (x_cA X 3) (len, .inr (.inl (fun j => xL (D k j))))) := h0
      show H[x_b X + k]? = some (vp_cell (x_cA X 3) (len, .inr (.inl (fun j => xL (f j)))))
      rw [h1, vp_cell_l, vp_cell_l]
      congr 1
      exact arrV_ext (fun j hj => by rw [hf j (by omega) (by omega)])
    · rw [if_neg ht] at h0 ⊢
      have h1 : H[x_b X + k]? = some (vp_cell (x_cA X t) (len, .inl (fun j => xI (D k j)))) := h0
      show H[x_b X + k]? = some (vp_cell (x_cA X t) (len, .inl (fun j => xI (f j))))
      rw [h1, vp_cell_i, vp_cell_i]
      congr 1
      exact arrV_ext (fun j hj => by rw [hf j (by omega) (by omega)])
  · rw [x_el_up_n hkq]
    exact h0
/-- what lies beyond an array's end says nothing -/
theorem x_rng {Z : x_Z} {pc : Nat} {L : List (Option Value)} {st : List Value} {k n : Nat} {g : Bool} {N : Nat} {sh : xS} {D : xM} {q t len : Nat} (f : Int → Int) (hs : sh q = .inl (t, len)) (hf : ∀ j : Int, 0 ≤ j → j < len → D q j = f j) (kk : x_W Z pc L st k n g N sh (x_up D q f)) : x_W Z pc L st k n g N sh D := by
  intro p e s m args below meth c H locs ls C hl hP hS
  exact kk p e s m args below meth c H locs ls C hl (x_P_r1 hs hf hP) hS
/-! the first of some -/
def x_first (p : Nat → Prop) [DecidablePred p] : Nat → Int
  | 0 => -1
  | n + 1 => if x_first p n = -1 then (if p n then (n : Int) else -1) else x_first p n
theorem x_first_none {p : Nat → Prop} [DecidablePred p] : ∀ {n : Nat}, (∀ j, j < n → ¬ p j) → x_first p n = -1
  | 0, _ => rfl
  | n + 1, h => by
    rw [x_first, x_first_none (fun j hj => h j (by omega)), if_pos rfl, if_neg (h n (by omega))]
theorem x_first_hit {p : Nat → Prop} [DecidablePred p] : ∀ {n i : Nat}, (∀ j, j < i → ¬ p j) → p i → i < n → x_first p n = i
  | 0, i, _, _, h => by omega
  | n + 1, i, h1, h2, h3 => by
    by_cases hi : i < n
    · rw [x_first, x_first_hit h1 h2 hi, if_neg (by omega)]
    · have : i = n := by omega
      subst this
      rw [x_first, x_first_none h1, if_pos rfl, if_pos h2]
theorem x_first_cases (p : Nat → Prop) [DecidablePred p] : ∀ n : Nat, (x_first p n = -1 ∧ ∀ j, j < n → ¬ p j) ∨ ∃ i : Nat, i < n ∧ x_first p n = i ∧ p i ∧ ∀ j, j < i → ¬ p j
  | 0 => Or.inl ⟨rfl, fun j hj => by omega⟩
  | n + 1 => by
    rcases x_first_cases p n with ⟨h1, h2⟩ | ⟨i, h1, h2, h3, h4⟩
    · by_cases hp : p n
      · exact Or.inr ⟨n, by omega, x_first_hit h2 hp (by omega), hp, h2⟩
      · refine Or.inl ⟨?_, ?_⟩
        · rw [x_first, h1, if_pos rfl, if_neg hp]
        · intro j hj
          by_cases h : j = n
          · rw [h]; exact hp
          · exact h2 j (by omega)
    · exact Or.inr ⟨i, by omega, x_first_hit h4 h3 (by omega), h3, h4⟩
theorem c9_clear2 {X : xC} {l : Launch} (hl : l.stackTraces = false) {N : Nat} {sh : xS} {D : xM} {r a : Nat} (hs : is_St N sh r a) : x_M X l yX9_clear cX9_clear 2 (none) 1 0 0 [.ref (x_b X + r)] false N sh D (.inl none) false N sh (x_is (x_up D a (fun _ => 0))) := by
  obtain ⟨hrN, hr, haN, ha⟩ := id hs
  refine x_ofW (by decide +kernel) hl (by simp [Value.category]) (by simp) ?_
  have hloop : ∀ i : Nat, i ≤ 85 → ∀ w : Int → Int, (∀ j : Int, 0 ≤ j → j < i → w j = 0) → x_W (X, l, yX9_clear, cX9_clear, 2, none, x_room 1 0 0, 0, 0, (.inl none), N, sh, (x_is (x_up D a (fun _ => 0))), false, []) 2 [some (.ref (x_b X + r)), some (.int (xI i))] [] 0 0 false N sh (x_up D a w) := by
    refine x_down 85 ?_ ?_
    · intro w hw
      refine x_iload_n dX9_clear_2 x_get_2_1 ?_
      refine x_bipush dX9_clear_3 rfl ?_
      refine r_icmp_ge (t := 21) dX9_clear_5 rfl ⟨by omega, by omega⟩ ⟨by omega, by omega⟩ (fun hc5 => ?_) (fun hc5 => absurd hc5 (by omega))
      refine x_rng (fun _ => 0) ha (fun j h0 h1 => by rw [x_up_s]; exact hw j h0 h1) ?_
      rw [x_up_up]
      exact x_vret dX9_clear_21 rfl (Nat.le_of_ble_eq_true rfl) (Nat.le_of_ble_eq_true rfl) rfl rfl rfl rfl rfl
    · intro i hi ih
      intro w hw
      refine x_iload_n dX9_clear_2 x_get_2_1 ?_
      refine x_bipush dX9_clear_3 rfl ?_
      refine r_icmp_ge (t := 21) dX9_clear_5 rfl ⟨by omega, by omega⟩ ⟨by omega, by omega⟩ (fun hc5 => absurd hc5 (by omega)) (fun hc5 => ?_)
      refine x_aload_n dX9_clear_8 x_get_2_0 ?_
      refine x_getR dX9_clear_9 fX_9_11 (by assumption) (by assumption) (by rfl) ?_
      refine x_iload_n dX9_clear_12 x_get_2_1 ?_
      refine x_iconst dX9_clear_13 ?_
      refine x_iastU dX9_clear_14 (by assumption) (by assumption) (by omega) (by omega) (by decide) ?_
      refine x_iinc dX9_clear_15 x_get_2_1 (Nat.le_of_ble_eq_true rfl) rfl x_set_2_1 ?_
      refine x_goto (t := 2) dX9_clear_18 rfl ?_
      refine ih _ (fun j a b => ?_)
      by_cases h : j = i
      · rw [h]; exact x_u1_s
      · rw [x_u1_n h]; exact hw j a (by omega)
  refine x_mem (x_up_id (k := a)).symm ?_
  refine x_iconst dX9_clear_0 ?_
  refine x_istore_n dX9_clear_1 (Nat.le_of_ble_eq_true rfl) rfl x_set_2_1 ?_
  exact hloop 0 (Nat.zero_le _) _ (fun j a b => by omega)
theorem c9_take2 {X : xC} {l : Launch} (hl : l.stackTraces = false) {N : Nat} {sh : xS} {D : xM} {r a : Nat} (hs : is_St N sh r a) {r2 a2 : Nat} (hs2 : is_St N sh r2 a2) : x_M X l yX9_take cX9_take 2 (none) 1 0 0 [.ref (x_b X + r), .ref (x_b X + r2)] false N sh D (.inl none) false N sh (x_is (x_up D a (D a2))) := by
  obtain ⟨hrN, hr, haN, ha⟩ := id hs
  obtain ⟨hrN2, hr2, haN2, ha2⟩ := hs2
  refine x_ofW (by decide +kernel) hl (by simp [Value.category]) (by simp) ?_
  refine x_aload_n dX9_take_0 x_get_2_1 ?_
  refine x_getR dX9_take_1 fX_9_11 (by assumption) (by assumption) (by rfl) ?_
  refine x_iconst dX9_take_4 ?_
  refine x_aload_n dX9_take_5 x_get_2_0 ?_
  refine x_getR dX9_take_6 fX_9_11 (by assumption) (by assumption) (by rfl) ?_
  refine x_iconst dX9_take_9 ?_
  refine x_bipush dX9_take_10 rfl ?_
  refine x_copy dX9_take_12 w_9_15 (by assumption) (by assumption) (by assumption) (by assumption) (by decide) (by decide) (by decide) (by decide) (by decide) (by decide) (by decide) (Nat.le_of_ble_eq_true rfl) (Nat.le_of_ble_eq_true rfl) ?_
  refine x_rng (D a2) ha (fun j h0 h1 => by rw [x_up_s, x_cpy, if_pos ⟨by omega, by omega⟩]; congr 1; omega) ?_
  rw [x_up_up]
  exact x_vret dX9_take_15 rfl (Nat.le_of_ble_eq_true rfl) (Nat.le_of_ble_eq_true rfl) rfl rfl rfl rfl rfl
end XRG
