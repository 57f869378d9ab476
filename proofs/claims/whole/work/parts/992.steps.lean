section C992
/-! ===== no more steps than bytes ===== -/
abbrev r_len (n : Nat) (f : Nat → Rs (List Int)) : Prop := ∀ q L q', q ≤ n → f q = .inr (L, q') → q + L.length ≤ q' ∧ q' ≤ n
theorem r_bd_inr {α β : Type} {r : Rs α} {k : α → Nat → Rs β} {z : β × Nat} (h : r_bd r k = .inr z) : ∃ y : α × Nat, r = .inr y ∧ k y.1 y.2 = .inr z := by
  cases r with
  | inl y => exact absurd h (by show ¬ (Sum.inl y : Rs β) = .inr z; intro hh; cases hh)
  | inr y => exact ⟨y, rfl, h⟩
theorem r_lp_len {n : Nat} {op : Nat → Prop} [DecidablePred op] {st : Nat → Int} {nx : Nat → Nat} {sub : Nat → Rs (List Int)} (hs : r_len n sub) (hop : ∀ q, q ≤ n → op q → q < nx q ∧ nx q ≤ n) : ∀ (k : Nat) (L : List Int) (q : Nat) (L' : List Int) (q' : Nat), q ≤ n → r_lp op st nx sub k L q = .inr (L', q') → ∃ M : List Int, L' = L ++ M ∧ q + M.length ≤ q' ∧ q' ≤ n
  | 0, L, q, L', q', hq, h => by
    cases h
    exact ⟨[], by simp, by simp, hq⟩
  | k + 1, L, q, L', q', hq, h => by
    rw [r_lp_s] at h
    by_cases ho : op q
    · rw [if_pos ho] at h
      obtain ⟨y, y1, y2⟩ := r_bd_inr h
      obtain ⟨n1, n2⟩ := hop q hq ho
      obtain ⟨b1, b2⟩ := hs _ y.1 y.2 n2 y1
      obtain ⟨M, m1, m2, m3⟩ := r_lp_len hs hop k _ _ L' q' b2 y2
      refine ⟨y.1 ++ [st q] ++ M, by rw [m1]; simp, ?_, m3⟩
      simp
      omega
    · rw [if_neg ho] at h
      cases h
      exact ⟨[], by simp, by simp, hq⟩
theorem tE_w {b : Int → Int} {n q : Nat} (hq : q ≤ n) (h : ¬ tK b n q = 0) : q < tE b n q ∧ tE b n q ≤ n := ⟨tE_up hq h, (tE_in hq).2.2⟩
theorem r_prt_len {b : Int → Int} {n : Nat} {ex : Nat → Rs (List Int)} (he : r_len n ex) : r_len n (r_prt b n ex) := by
  intro q L q' hq h
  unfold r_prt at h
  by_cases h1 : tM b n q 40
  · rw [if_pos h1] at h
    obtain ⟨y, y1, y2⟩ := r_bd_inr h
    obtain ⟨a1, a2⟩ := tE_w hq (show ¬ tK b n q = 0 by rw [h1.1]; decide)
    obtain ⟨b1, b2⟩ := he _ y.1 y.2 a2 y1
    by_cases h2 : tM b n y.2 41
    · rw [if_pos h2] at y2
      obtain ⟨c1, c2⟩ := tE_w b2 (show ¬ tK b n y.2 = 0 by rw [h2.1]; decide)
      cases y2
      exact ⟨by omega, c2⟩
    · rw [if_neg h2] at y2; cases y2
  · rw [if_neg h1] at h
    by_cases h2 : ¬ tK b n q = 3 ∧ ¬ tK b n q = 2
    · rw [if_pos h2] at h; cases h
    · rw [if_neg h2] at h
      obtain ⟨a1, a2⟩ := tE_w hq (show ¬ tK b n q = 0 by omega)
      by_cases h3 : tK b n q = 3 ∧ tL b n q
      · rw [if_pos h3] at h; cases h
      · rw [if_neg h3] at h
        by_cases h4 : tK b n q = 3
        · rw [if_pos h4] at h
          cases h
          exact ⟨by simp; omega, a2⟩
        · rw [if_neg h4] at h
          by_cases h5 : r_vs b n q = -16
          · rw [if_pos h5] at h; cases h
          · rw [if_neg h5] at h
            cases h
            exact ⟨by simp; omega, a2⟩
theorem r_lps_len {n : Nat} {op : Nat → Prop} [DecidablePred op] {st : Nat → Int} {nx : Nat → Nat} {sub : Nat → Rs (List Int)} {k : Nat} (hs : r_len n sub) (hop : ∀ q, q ≤ n → op q → q < nx q ∧ nx q ≤ n) : r_len n (fun q => r_bd (sub q) (fun L q1 => r_lp op st nx sub k L q1)) := by
  intro q L q' hq h
  obtain ⟨y, y1, y2⟩ := r_bd_inr h
  obtain ⟨b1, b2⟩ := hs _ y.1 y.2 hq y1
  obtain ⟨M, m1, m2, m3⟩ := r_lp_len hs hop k _ _ L q' b2 y2
  subst m1
  rw [List.length_append]
  exact ⟨by omega, m3⟩
theorem tM_up {b : Int → Int} {n q : Nat} {c : Int} (hq : q ≤ n) (h : tM b n q c) : q < tE b n q ∧ tE b n q ≤ n := tE_w hq (by rw [h.1]; decide)
theorem tW_up {b : Int → Int} {n q j : Nat} (hq : q ≤ n) (h : tW b n q j) : q < tE b n q ∧ tE b n q ≤ n := tE_w hq (by rw [h.1]; decide)
theorem r_prd_len {b : Int → Int} {n : Nat} {ex : Nat → Rs (List Int)} (he : r_len n ex) : r_len n (r_prd b n ex) := r_lps_len (r_prt_len he) (fun _ hq h => h.elim (tM_up hq) (tM_up hq))
theorem r_sum_len {b : Int → Int} {n : Nat} {ex : Nat → Rs (List Int)} (he : r_len n ex) : r_len n (r_sum b n ex) := r_lps_len (r_prd_len he) (fun _ hq h => h.elim (tM_up hq) (tM_up hq))
theorem r_tst_len {b : Int → Int} {n : Nat} {ex : Nat → Rs (List Int)} (he : r_len n ex) : r_len n (r_tst b n ex) := by
  intro q L q' hq h
  obtain ⟨y, y1, y2⟩ := r_bd_inr h
  obtain ⟨b1, b2⟩ := r_sum_len he _ y.1 y.2 hq y1
  by_cases hc : ¬ tM b n y.2 60 ∧ ¬ tM b n y.2 61
  · rw [if_pos hc] at y2
    cases y2
    exact ⟨b1, b2⟩
  · rw [if_neg hc] at y2
    have hup : y.2 < tE b n y.2 ∧ tE b n y.2 ≤ n := by
      by_cases h6 : tM b n y.2 60
      · exact tM_up b2 h6
      · by_cases h7 : tM b n y.2 61
        · exact tM_up b2 h7
        · exact absurd ⟨h6, h7⟩ hc
    obtain ⟨x, x1, x2⟩ := r_bd_inr y2
    obtain ⟨c1, c2⟩ := r_sum_len he _ x.1 x.2 hup.2 x1
    cases x2
    refine ⟨?_, c2⟩
    rw [List.length_append, List.length_append, List.length_singleton]
    omega
theorem r_nc_in {b : Int → Int} {n : Nat} : ∀ k q : Nat, q ≤ n → q + (r_nc b n k q).1 ≤ (r_nc b n k q).2 ∧ (r_nc b n k q).2 ≤ n ∧ (r_nc b n k q).1 ≤ k
  | 0, q, hq => ⟨Nat.le_refl _, hq, Nat.le_refl _⟩
  | k + 1, q, hq => by
    unfold r_nc
    by_cases h : tW b n q 7
    · rw [if_pos h]
      obtain ⟨a1, a2⟩ := tW_up hq h
      have ih := r_nc_in (b := b) (n := n) k _ a2
      show q + ((r_nc b n k (tE b n q)).1 + 1) ≤ (r_nc b n k (tE b n q)).2 ∧ (r_nc b n k (tE b n q)).2 ≤ n ∧ (r_nc b n k (tE b n q)).1 + 1 ≤ k + 1
      omega
    · rw [if_neg h]
      exact ⟨Nat.le_refl _, hq, Nat.zero_le _⟩
theorem r_not_len {b : Int → Int} {n : Nat} {ex : Nat → Rs (List Int)} (he : r_len n ex) : r_len n (r_not b n ex) := by
  intro q L q' hq h
  obtain ⟨a1, a2, a3⟩ := r_nc_in (b := b) (n := n) 6 q hq
  unfold r_not at h
  by_cases hc : (r_nc b n 6 q).1 = 6 ∧ tW b n (r_nc b n 6 q).2 7
  · rw [if_pos hc] at h; cases h
  · rw [if_neg hc] at h
    obtain ⟨y, y1, y2⟩ := r_bd_inr h
    obtain ⟨b1, b2⟩ := r_tst_len he _ y.1 y.2 a2 y1
    cases y2
    refine ⟨?_, b2⟩
    rw [List.length_append, List.length_replicate]
    omega
theorem r_and_len {b : Int → Int} {n : Nat} {ex : Nat → Rs (List Int)} (he : r_len n ex) : r_len n (r_and b n ex) := r_lps_len (r_not_len he) (fun _ hq h => tW_up hq h)
theorem r_exp_len {b : Int → Int} {n : Nat} : ∀ d : Nat, r_len n (r_exp b n d)
  | 0 => fun q L q' hq h => by cases h
  | d + 1 => r_lps_len (r_and_len (r_exp_len d)) (fun _ hq h => tW_up hq h)

end C992
