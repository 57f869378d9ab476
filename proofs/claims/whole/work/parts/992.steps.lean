section C992
/-! ===== no more steps than bytes ===== -/
abbrev r_len (n : Nat) (f : Nat → Rs (List Int)) : Prop := ∀ q L q', q ≤ n → f q = .inr (L, q') → q + L.length ≤ q' ∧ q' ≤ n
theorem r_bd_inr {α β : Type} {r : Rs α} {k : α → Nat → Rs β} {z : β × Nat} (h : r_bd r k = .inr z) : ∃ y : α × Nat, r = .inr y ∧ k y.1 y.2 = .inr z := by
  cases r with
  | inl y => exact absurd h (by show ¬ (Sum.inl y : Rs β) = .inr z; intro hh; cases hh)
  | inr y => exact ⟨y, rfl, h⟩
theorem r_lp_len {n : Nat} {op : Nat → Prop} [DecidablePred op] {st : Nat → Int} {nx : Nat → Nat} {sub : Nat → Rs (List Int)} (hs : r_len n sub) (hop : ∀ q, q ≤ n → op q → q < nx q ∧ nx q ≤ n) : ∀ (k : Nat) (L : List Int) (q : Nat) (L' : List Int) (q' : Nat), q ≤ n → r_lp op st nx sub k L q = .inr (L', q') → ∃ M : List Int, L' = L ++ M ∧ q + M.length ≤ q' ∧ q' ≤ n
  | 0, L, q, L', q', hq, h => by
    cases h
    exact ⟨[], by simp, by simp, hq⟩
  | k + 1, L, q, L', q', hq, h => by
    rw [r_lp_s] at h
    by_cases ho : op q
    · rw [if_pos ho] at h
      obtain ⟨y, y1, y2⟩ := r_bd_inr h
      obtain ⟨n1, n2⟩ := hop q hq ho
      obtain ⟨b1, b2⟩ := hs _ y.1 y.2 n2 y1
      obtain ⟨M, m1, m2, m3⟩ := r_lp_len hs hop k _ _ L' q' b2 y2
      refine ⟨y.1 ++ [st q] ++ M, by rw [m1]; simp, ?_, m3⟩
      simp
      omega
    · rw [if_neg ho] at h
      cases h
      exact ⟨[], by simp, by simp, hq⟩

end C992
