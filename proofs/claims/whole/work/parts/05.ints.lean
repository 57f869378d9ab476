section XLB
/-! locals by their places: none where nothing is known -/
def x_as : Nat → List (Option Value) → List (Nat × Value)
  | _, [] => []
  | i, none :: r => x_as (i + 1) r
  | i, some v :: r => (i, v) :: x_as (i + 1) r
theorem x_as_mem : ∀ {L : List (Option Value)} {i : Nat} {q : Nat × Value}, q ∈ x_as i L ↔ ∃ j, q.1 = i + j ∧ L[j]? = some (some q.2)
  | [], i, q => by simp [x_as]
  | none :: r, i, q => by
    rw [x_as, x_as_mem]
    constructor
    · rintro ⟨j, h1, h2⟩
      exact ⟨j + 1, by omega, by simpa using h2⟩
    · rintro ⟨j, h1, h2⟩
      cases j with
      | zero => simp at h2
      | succ j => exact ⟨j, by omega, by simpa using h2⟩
  | some v :: r, i, q => by
    rw [x_as, List.mem_cons, x_as_mem]
    constructor
    · rintro (h | ⟨j, h1, h2⟩)
      · subst h
        exact ⟨0, rfl, rfl⟩
      · exact ⟨j + 1, by omega, by simpa using h2⟩
    · rintro ⟨j, h1, h2⟩
      cases j with
      | zero =>
        simp at h2
        left
        obtain ⟨a, b⟩ := q
        simp at h1 h2
        rw [h1, h2]
      | succ j => exact Or.inr ⟨j, by omega, by simpa using h2⟩
def x_lv (ls : Array Slot) (nL : Nat) (L : List (Option Value)) : Prop := lv_has ls nL (x_as 0 L)
theorem x_lv_at {ls : Array Slot} {nL : Nat} {L : List (Option Value)} (h : x_lv ls nL L) {i : Nat} {v : Value} (hv : L[i]? = some (some v)) : ls[i]? = some (.val v) :=
  h.2.2 (i, v) (x_as_mem.mpr ⟨i, by simp, hv⟩)
/-- the slot ahead holds no long -/
def x_no2 (L : List (Option Value)) (i : Nat) : Bool := match i with
  | 0 => true
  | j + 1 => match L[j]? with
    | some (some v) => v.category == 1
    | _ => true
theorem x_lv_set {ls : Array Slot} {nL : Nat} {L : List (Option Value)} {i : Nat} {v : Value} (h2 : x_no2 L i = true) (h : lv_has ls nL ((i, v) :: (x_as 0 L).filter (fun q => !(q.1 == i) && !(q.1 + 1 == i && q.2.category == 2)))) : x_lv ls nL (L.set i (some v)) := by
  refine ⟨h.1, h.2.1, fun q hq => ?_⟩
  obtain ⟨j, h1, h3⟩ := x_as_mem.mp hq
  obtain ⟨a, w⟩ := q
  simp only [Nat.zero_add] at h1
  subst h1
  by_cases hj : a = i
  · subst hj
    have hl : a < L.length := by
      have := (List.getElem?_eq_some_iff.mp h3).1
      simpa using this
    rw [List.getElem?_set_self hl] at h3
    simp at h3
    subst h3
    exact h.2.2 _ List.mem_cons_self
  · rw [List.getElem?_set_ne (Ne.symm hj)] at h3
    refine h.2.2 _ (List.mem_cons_of_mem _ (List.mem_filter.mpr ⟨x_as_mem.mpr ⟨a, by simp, h3⟩, ?_⟩))
    simp only [Bool.and_eq_true, Bool.not_eq_true', beq_eq_false_iff_ne, ne_eq, hj, not_false_eq_true, true_and]
    by_cases hk : a + 1 = i
    · subst hk
      simp only [x_no2, h3] at h2
      have : w.category = 1 := by simpa using h2
      simp [this]
    · simp [hk]
theorem x_lv_set2 {ls : Array Slot} {nL : Nat} {L : List (Option Value)} {i : Nat} {v : Value} (h2 : x_no2 L i = true) (h : lv_has ls nL ((i, v) :: (x_as 0 L).filter (fun q => !(q.1 == i) && (!(q.1 == i + 1) && !(q.1 + 1 == i && q.2.category == 2))))) : x_lv ls nL ((L.set i (some v)).set (i + 1) none) := by
  refine ⟨h.1, h.2.1, fun q hq => ?_⟩
  obtain ⟨j, h1, h3⟩ := x_as_mem.mp hq
  obtain ⟨a, w⟩ := q
  simp only [Nat.zero_add] at h1
  subst h1
  by_cases hj1 : a = i + 1
  · subst hj1
    by_cases hl : i + 1 < (L.set i (some v)).length
    · rw [List.getElem?_set_self hl] at h3
      simp at h3
    · rw [List.getElem?_eq_none (by rw [List.length_set]; omega)] at h3
      simp at h3
  rw [List.getElem?_set_ne (Ne.symm hj1)] at h3
  by_cases hj : a = i
  · subst hj
    have hl : a < L.length := by
      have := (List.getElem?_eq_some_iff.mp h3).1
      simpa using this
    rw [List.getElem?_set_self hl] at h3
    simp at h3
    subst h3
    exact h.2.2 _ List.mem_cons_self
  · rw [List.getElem?_set_ne (Ne.symm hj)] at h3
    refine h.2.2 _ (List.mem_cons_of_mem _ (List.mem_filter.mpr ⟨x_as_mem.mpr ⟨a, by simp, h3⟩, ?_⟩))
    simp only [Bool.and_eq_true, Bool.not_eq_true', beq_eq_false_iff_ne, ne_eq, hj, hj1, not_false_eq_true, true_and]
    by_cases hk : a + 1 = i
    · subst hk
      simp only [x_no2, h3] at h2
      have : w.category = 1 := by simpa using h2
      simp [this]
    · simp [hk]
theorem x_lv_forget {ls : Array Slot} {nL : Nat} {L L' : List (Option Value)} (h : x_lv ls nL L) (hs : ∀ (i : Nat) (v : Value), L'[i]? = some (some v) → L[i]? = some (some v)) : x_lv ls nL L' := by
  refine ⟨h.1, h.2.1, fun q hq => ?_⟩
  obtain ⟨j, h1, h3⟩ := x_as_mem.mp hq
  obtain ⟨a, w⟩ := q
  simp only [Nat.zero_add] at h1
  subst h1
  exact x_lv_at h (hs _ _ h3)
/-! ints -/
theorem xI_toInt (v : Int32) : xI v.toInt = v := Int32.ofInt_toInt v
theorem xI_add (a b : Int) : xI (a + b) = xI a + xI b := Int32.ofInt_add a b
theorem xI_sub (a b : Int) : xI (a - b) = xI a - xI b := Int32.ofInt_sub a b
theorem xI_mul (a b : Int) : xI (a * b) = xI a * xI b := Int32.ofInt_mul a b
/-- within an int's range -/
def x_r (z : Int) : Prop := -2147483648 ≤ z ∧ z < 2147483648
def x_n (z : Int) : Int := (xI z).toInt
theorem x_n_r (z : Int) : x_r (x_n z) := ⟨Int32.le_toInt _, Int32.toInt_lt _⟩
theorem x_n_of {z : Int} (h : x_r z) : x_n z = z := Int32.toInt_ofInt_of_le h.1 h.2
theorem xI_n (z : Int) : xI (x_n z) = xI z := xI_toInt _
theorem xI_lt {a b : Int} : xI a < xI b ↔ x_n a < x_n b := Int32.lt_iff_toInt_lt
theorem xI_le {a b : Int} : xI a ≤ xI b ↔ x_n a ≤ x_n b := Int32.le_iff_toInt_le
theorem xI_eq {a b : Int} : xI a = xI b ↔ x_n a = x_n b := ⟨fun h => by unfold x_n; rw [h], fun h => by rw [← xI_n a, ← xI_n b, h]⟩
theorem x_r0 : x_r 0 := ⟨by decide, by decide⟩
theorem x_n0 : x_n 0 = 0 := x_n_of x_r0
theorem xI_0 : xI 0 = 0 := rfl
theorem x_in_of {z : Int} {n : Nat} (h0 : 0 ≤ z) (hn : z < n) (hb : n ≤ 2147483647) : vp_in (xI z) n ∧ (xI z).toNatClampNeg = z.toNat := by
  have hr : x_r z := ⟨by omega, by omega⟩
  have ht : (xI z).toInt = z := x_n_of hr
  refine ⟨vp_in_iff.mpr (by rw [ht]; exact ⟨h0, hn⟩), ?_⟩
  unfold Int32.toNatClampNeg
  rw [ht]
end XLB
