section M86
/-! ===== the shortest: one round at a time ===== -/
theorem n_min1 {g : Int → Int} (h : ∀ x, 0 ≤ g x) (m a b : Int) : ∀ x, 0 ≤ m_min1 g m a b x := by
  intro x
  have h1 := h (a * 8 + b)
  have h2 := h (a * 8 + m)
  have h3 := h (m * 8 + b)
  unfold m_min1 x_u1
  split
  · omega
  · exact h x
theorem n_b {g : Int → Int} (h : ∀ x, 0 ≤ g x) (m a : Int) : ∀ b : Nat, ∀ x, 0 ≤ m_b g m a b x
  | 0 => h
  | b + 1 => n_min1 (n_b h m a b) m a b
theorem n_a {g : Int → Int} (h : ∀ x, 0 ≤ g x) (m : Int) (T : Nat) : ∀ a : Nat, ∀ x, 0 ≤ m_a g m T a x
  | 0 => h
  | a + 1 => n_b (n_a h m T a) m a T
theorem n_m {g : Int → Int} (h : ∀ x, 0 ≤ g x) (T : Nat) : ∀ m : Nat, ∀ x, 0 ≤ m_m g T m x
  | 0 => h
  | m + 1 => n_a (n_m h T m) m T T
theorem m_b_at {g : Int → Int} (hg : ∀ x, 0 ≤ g x) {m a : Nat} (hm : m < 8) (ha : a < 8) : ∀ b : Nat, b ≤ 8 → ∀ i j : Nat, i < 8 → j < 8 → m_b g m a b ((i : Int) * 8 + j) = if i = a ∧ j < b then min (g ((i : Int) * 8 + j)) (g ((i : Int) * 8 + m) + g ((m : Int) * 8 + j)) else g ((i : Int) * 8 + j)
  | 0, _, i, j, _, _ => by rw [if_neg (by omega)]; rfl
  | b + 1, hb, i, j, hi, hj => by
    have ih := m_b_at hg hm ha b (by omega)
    rw [m_b_s]
    unfold m_min1
    by_cases h : i = a ∧ j = b
    · obtain ⟨h1, h2⟩ := h
      subst h1; subst h2
      rw [x_u1_s, if_pos (by omega), ih i j hi hj, if_neg (by omega), ih m j hm hj, if_neg (by omega)]
      have e : m_b g m i j ((i : Int) * 8 + m) = g ((i : Int) * 8 + m) := by
        rw [ih i m hi hm]
        have h2 := hg ((m : Int) * 8 + m)
        split
        · omega
        · rfl
      rw [e]
    · rw [x_u1_n (by omega), ih i j hi hj]
      by_cases h2 : i = a ∧ j < b
      · rw [if_pos h2, if_pos (by omega)]
      · rw [if_neg h2, if_neg (by omega)]
theorem m_a_at {g : Int → Int} (hg : ∀ x, 0 ≤ g x) {m T : Nat} (hm : m < 8) (hT : T ≤ 8) : ∀ a : Nat, a ≤ 8 → ∀ i j : Nat, i < 8 → j < 8 → m_a g m T a ((i : Int) * 8 + j) = if i < a ∧ j < T then min (g ((i : Int) * 8 + j)) (g ((i : Int) * 8 + m) + g ((m : Int) * 8 + j)) else g ((i : Int) * 8 + j)
  | 0, _, i, j, _, _ => by rw [if_neg (by omega)]; rfl
  | a + 1, ha, i, j, hi, hj => by
    have ih := m_a_at hg hm hT a (by omega)
    rw [m_a_s, m_b_at (n_a hg m T a) hm (by omega) T hT i j hi hj]
    by_cases h : i = a ∧ j < T
    · obtain ⟨h1, h2⟩ := h
      subst h1
      rw [if_pos (by omega), if_pos (by omega), ih i j hi hj, if_neg (by omega), ih i m hi hm, if_neg (by omega)]
      have e : m_a g m T i ((m : Int) * 8 + j) = g ((m : Int) * 8 + j) := by
        rw [ih m j hm hj]
        have h2 := hg ((m : Int) * 8 + m)
        split
        · omega
        · rfl
      rw [e]
    · rw [if_neg h, ih i j hi hj]
      by_cases h2 : i < a ∧ j < T
      · rw [if_pos h2, if_pos (by omega)]
      · rw [if_neg h2, if_neg (by omega)]
section FW
variable {g : Int → Int} {T : Nat}
theorem m_m_at (hg : ∀ x, 0 ≤ g x) (hT : T ≤ 8) {k : Nat} (hk : k < T) {i j : Nat} (hi : i < T) (hj : j < T) : m_m g T (k + 1) ((i : Int) * 8 + j) = min (m_m g T k ((i : Int) * 8 + j)) (m_m g T k ((i : Int) * 8 + k) + m_m g T k ((k : Int) * 8 + j)) := by
  rw [m_m_s, m_a_at (n_m hg T k) (by omega) hT T hT i j (by omega) (by omega), if_pos ⟨hi, hj⟩]
theorem m_m_tri (hg : ∀ x, 0 ≤ g x) (hT : T ≤ 8) : ∀ k : Nat, k ≤ T → ∀ m : Nat, m < k → ∀ i j : Nat, i < T → j < T → m_m g T k ((i : Int) * 8 + j) ≤ m_m g T k ((i : Int) * 8 + m) + m_m g T k ((m : Int) * 8 + j)
  | 0, _, m, hm, _, _, _, _ => absurd hm (by omega)
  | k + 1, hk, m, hm, i, j, hi, hj => by
    have ih := m_m_tri hg hT k (by omega)
    have nn := n_m hg T k
    rw [m_m_at hg hT (by omega) hi hj, m_m_at hg hT (by omega) hi (by omega), m_m_at hg hT (by omega) (by omega) hj]
    by_cases hmk : m = k
    · subst hmk
      have a1 := nn ((m : Int) * 8 + m)
      omega
    · have b1 := ih m (by omega) i j hi hj
      have b2 := ih m (by omega) k j (by omega) hj
      have b3 := ih m (by omega) i k hi (by omega)
      have c1 := nn ((m : Int) * 8 + k)
      have c2 := nn ((k : Int) * 8 + m)
      omega
theorem m_m_le (hg : ∀ x, 0 ≤ g x) (hT : T ≤ 8) : ∀ k : Nat, k ≤ T → ∀ i j : Nat, i < T → j < T → m_m g T k ((i : Int) * 8 + j) ≤ g ((i : Int) * 8 + j)
  | 0, _, _, _, _, _ => Int.le_refl _
  | k + 1, hk, i, j, hi, hj => by
    have ih := m_m_le hg hT k (by omega) i j hi hj
    rw [m_m_at hg hT (by omega) hi hj]
    omega
theorem m_m_0 (hg : ∀ x, 0 ≤ g x) (hT : T ≤ 8) {k : Nat} (hk : k ≤ T) {i : Nat} (hi : i < T) (h0 : g ((i : Int) * 8 + i) = 0) : m_m g T k ((i : Int) * 8 + i) = 0 := by
  have h1 := m_m_le hg hT k hk i i hi hi
  have h2 := n_m hg T k ((i : Int) * 8 + i)
  omega
theorem m_m_sym (hg : ∀ x, 0 ≤ g x) (hT : T ≤ 8) (hs : ∀ i j : Nat, i < T → j < T → g ((i : Int) * 8 + j) = g ((j : Int) * 8 + i)) : ∀ k : Nat, k ≤ T → ∀ i j : Nat, i < T → j < T → m_m g T k ((i : Int) * 8 + j) = m_m g T k ((j : Int) * 8 + i)
  | 0, _, i, j, hi, hj => hs i j hi hj
  | k + 1, hk, i, j, hi, hj => by
    have ih := m_m_sym hg hT hs k (by omega)
    rw [m_m_at hg hT (by omega) hi hj, m_m_at hg hT (by omega) hj hi, ih i j hi hj, ih i k hi (by omega), ih k j (by omega) hj, Int.add_comm (m_m g T k ((k : Int) * 8 + i))]
/-- each that is not endless has a first edge -/
theorem m_m_edge {F : Int} (hg : ∀ x, 0 ≤ g x) (hT : T ≤ 8) (h0 : ∀ i : Nat, i < T → g ((i : Int) * 8 + i) = 0) : ∀ k : Nat, k ≤ T → ∀ i j : Nat, i < T → j < T → i ≠ j → m_m g T k ((i : Int) * 8 + j) < F → ∃ s : Nat, s < T ∧ s ≠ i ∧ g ((i : Int) * 8 + s) < F ∧ g ((i : Int) * 8 + s) + m_m g T k ((s : Int) * 8 + j) ≤ m_m g T k ((i : Int) * 8 + j)
  | 0, _, i, j, hi, hj, hij, hF => ⟨j, hj, fun h => hij h.symm, hF, by
    show g _ + g _ ≤ g _
    rw [h0 j hj]
    omega⟩
  | k + 1, hk, i, j, hi, hj, hij, hF => by
    have ih := m_m_edge hg hT h0 (F := F) k (by omega)
    have nn := n_m hg T k
    have e := m_m_at hg hT (k := k) (by omega) hi hj
    by_cases hc : m_m g T k ((i : Int) * 8 + j) ≤ m_m g T k ((i : Int) * 8 + k) + m_m g T k ((k : Int) * 8 + j)
    · obtain ⟨s, s1, s2, s3, s4⟩ := ih i j hi hj hij (by omega)
      refine ⟨s, s1, s2, s3, ?_⟩
      have e2 := m_m_at hg hT (k := k) (by omega) s1 hj
      omega
    · have hik : i ≠ k := by
        intro h
        subst h
        have := nn ((i : Int) * 8 + i)
        omega
      have c1 := nn ((k : Int) * 8 + j)
      obtain ⟨s, s1, s2, s3, s4⟩ := ih i k hi (by omega) hik (by omega)
      refine ⟨s, s1, s2, s3, ?_⟩
      have e2 := m_m_at hg hT (k := k) (by omega) s1 hj
      omega
/-- two such, that differ in what endless is -/
abbrev f_rl (F F' B x y : Int) : Prop := (x = y ∧ x ≤ B) ∨ (x = F ∧ y = F')
theorem m_m_two {g' : Int → Int} {F F' B : Int} (hg : m_ok F g) (hg' : m_ok F' g') (hT : T ≤ 8) (hB0 : 0 ≤ B) (hBF : B * 256 < F) (hBF' : B * 256 < F') (h : ∀ i j : Nat, i < T → j < T → f_rl F F' B (g ((i : Int) * 8 + j)) (g' ((i : Int) * 8 + j))) : ∀ k : Nat, k ≤ T → ∀ i j : Nat, i < T → j < T → f_rl F F' (B * 2 ^ k) (m_m g T k ((i : Int) * 8 + j)) (m_m g' T k ((i : Int) * 8 + j))
  | 0, _, i, j, hi, hj => by
    have := h i j hi hj
    show f_rl F F' (B * 2 ^ 0) (g _) (g' _)
    rw [Int.pow_zero, Int.mul_one]
    exact this
  | k + 1, hk, i, j, hi, hj => by
    have ih := m_m_two hg hg' hT hB0 hBF hBF' h k (by omega)
    have o1 := m_ok_m hg T k
    have o2 := m_ok_m hg' T k
    rw [m_m_at (fun x => (hg x).1) hT (by omega) hi hj, m_m_at (fun x => (hg' x).1) hT (by omega) hi hj]
    have p1 := ih i j hi hj
    have p2 := ih i k hi (by omega)
    have p3 := ih k j (by omega) hj
    have a1 := o1 ((i : Int) * 8 + j)
    have a2 := o1 ((i : Int) * 8 + k)
    have a3 := o1 ((k : Int) * 8 + j)
    have b1 := o2 ((i : Int) * 8 + j)
    have b2 := o2 ((i : Int) * 8 + k)
    have b3 := o2 ((k : Int) * 8 + j)
    have hpw : B * 2 ^ (k + 1) = 2 * (B * 2 ^ k) := by rw [Int.pow_succ]; rw [← Int.mul_assoc]; omega
    have hle : B * 2 ^ (k + 1) ≤ B * 256 := by
      refine Int.mul_le_mul_of_nonneg_left ?_ hB0
      have : (2 : Int) ^ (k + 1) ≤ 2 ^ 8 := by
        have h2 : 2 ^ (k + 1) ≤ 2 ^ 8 := Nat.pow_le_pow_right (by decide) (by omega)
        exact_mod_cast h2
      simpa using this
    have hnn : 0 ≤ B * 2 ^ k := Int.mul_nonneg hB0 (Int.le_of_lt (Int.pow_pos (by decide)))
    generalize B * 2 ^ (k + 1) = P at *
    generalize B * 2 ^ k = Q at *
    unfold f_rl at *
    omega
end FW
theorem m_ways_wb {F : Int} {one two v : Int → Int} : ∀ W : Nat, m_ways F one two v W = m_wb F one two v (-1) W
  | 0 => rfl
  | W + 1 => by rw [m_wb_s, if_neg (by omega), ← m_ways_wb W]; rfl
theorem m_wb_two {F F' B : Int} {one two v : Int → Int} {but : Int} (hv : ∀ j, 0 ≤ v j ∧ v j ≤ B) : ∀ (W : Nat) (x : Int), f_rl F F' B (m_wb F one two v but W x) (m_wb F' one two v but W x)
  | 0, x => by
    have := hv 0
    show f_rl F F' B (m_ini F x) (m_ini F' x)
    unfold m_ini
    by_cases h : x / 8 = x % 8
    · rw [if_pos h, if_pos h]; exact Or.inl ⟨rfl, by omega⟩
    · rw [if_neg h, if_neg h]; exact Or.inr ⟨rfl, rfl⟩
  | W + 1, x => by
    have ih := m_wb_two (F := F) (F' := F') (one := one) (two := two) (but := but) hv W x
    rw [m_wb_s, m_wb_s]
    by_cases hb : (W : Int) = but
    · rw [if_pos hb, if_pos hb]; exact ih
    · rw [if_neg hb, if_neg hb]
      unfold m_set x_u1
      have := hv W
      by_cases h1 : x = two W * 8 + one W
      · rw [if_pos h1, if_pos h1]; exact Or.inl ⟨rfl, by omega⟩
      · rw [if_neg h1, if_neg h1]
        by_cases h2 : x = one W * 8 + two W
        · rw [if_pos h2, if_pos h2]; exact Or.inl ⟨rfl, by omega⟩
        · rw [if_neg h2, if_neg h2]; exact ih
/-- the class's and the Model's tell the same -/
theorem m_fw_M {one two v : Int → Int} {W T : Nat} (hT : T ≤ 8) (hv : ∀ j, 0 ≤ v j ∧ v j ≤ 81) {a b : Int} (ha0 : 0 ≤ a) (ha1 : a < T) (hb0 : 0 ≤ b) (hb1 : b < T) : f_rl 1000000 99999 20736 (m_fw 1000000 one two v W T (a * 8 + b)) (f_M one two v (-1) W T (a * 8 + b)) := by
  obtain ⟨i, rfl⟩ := Int.eq_ofNat_of_zero_le ha0
  obtain ⟨j, rfl⟩ := Int.eq_ofNat_of_zero_le hb0
  unfold m_fw f_M
  rw [m_ways_wb]
  have h := m_m_two (T := T) (m_ok_wb (F := 1000000) (by decide) (one := one) (two := two) (but := -1) (fun j => by have := hv j; omega) W) (m_ok_wb (F := 99999) (by decide) (one := one) (two := two) (but := -1) (fun j => by have := hv j; omega) W) hT (B := 81) (by decide) (by decide) (by decide) (fun i j _ _ => m_wb_two hv W _) T (Nat.le_refl _) i j (by omega) (by omega)
  have hle : (81 : Int) * 2 ^ T ≤ 20736 := by
    have h2 : 2 ^ T ≤ 2 ^ 8 := Nat.pow_le_pow_right (by decide) hT
    have h3 : (2 : Int) ^ T ≤ 2 ^ 8 := by exact_mod_cast h2
    have h4 : (2 : Int) ^ 8 = 256 := by decide
    omega
  rcases h with ⟨h1, h2⟩ | h
  · exact Or.inl ⟨h1, by omega⟩
  · exact Or.inr h
theorem e_none_M {one two v : Int → Int} {W T : Nat} (hT : T ≤ 8) (hv : ∀ j, 0 ≤ v j ∧ v j ≤ 81) {a b : Int} (ha0 : 0 ≤ a) (ha1 : a < T) (hb0 : 0 ≤ b) (hb1 : b < T) : e_none 1000000 (m_fw 1000000 one two v W T (a * 8 + b)) = e_none 99999 (f_M one two v (-1) W T (a * 8 + b)) := by
  unfold e_none
  rcases m_fw_M (W := W) (one := one) (two := two) hT hv ha0 ha1 hb0 hb1 with ⟨h1, h2⟩ | ⟨h1, h2⟩
  · rw [← h1, if_pos (by omega), if_pos (by omega)]
  · rw [h1, h2, if_neg (by decide), if_neg (by decide)]
/-- the middle of the ways -/
theorem x_mx_rl {x y : Int → Int} : ∀ n : Nat, (∀ o : Nat, o < n → f_rl 1000000 99999 20736 (x o) (y o) ∧ 0 ≤ x o) → f_rl 1000000 99999 20736 (x_mx x n) (x_mx y n) ∧ 0 ≤ x_mx x n
  | 0, _ => ⟨Or.inl ⟨rfl, by show (0 : Int) ≤ _; decide⟩, Int.le_refl _⟩
  | n + 1, h => by
    have ih := x_mx_rl n (fun o ho => h o (by omega))
    have h1 := h n (by omega)
    unfold x_mx
    unfold f_rl at *
    omega
theorem e_mid_M {days days' : Int → Int} {T : Nat} (h : ∀ a b : Nat, a < T → b < T → f_rl 1000000 99999 20736 (days ((a : Int) * 8 + b)) (days' ((a : Int) * 8 + b)) ∧ 0 ≤ days ((a : Int) * 8 + b)) : ∀ t : Nat, t ≤ T → (e_mid 1000000 days T t).1 = (e_mid 99999 days' T t).1 ∧ f_rl 1000000 99999 20736 (e_mid 1000000 days T t).2 (e_mid 99999 days' T t).2
  | 0, _ => ⟨rfl, Or.inr ⟨rfl, rfl⟩⟩
  | t + 1, ht => by
    obtain ⟨i1, i2⟩ := e_mid_M h t (by omega)
    have hx := x_mx_rl (x := fun o => days ((t : Int) * 8 + o)) (y := fun o => days' ((t : Int) * 8 + o)) T (fun o ho => h t o (by omega) ho)
    unfold e_mid
    by_cases hc : x_mx (fun o => days ((t : Int) * 8 + o)) T < (e_mid 1000000 days T t).2
    · rw [if_pos hc, if_pos (by unfold f_rl at *; omega)]
      exact ⟨rfl, hx.1⟩
    · rw [if_neg hc, if_neg (by unfold f_rl at *; omega)]
      exact ⟨i1, i2⟩

end M86
