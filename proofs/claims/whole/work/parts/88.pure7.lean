section M88
/-! ===== thief, level, sending: the class's choice and the Model's ===== -/
theorem x_sum_hi {F : Int → Int} {C : Nat} (h : ∀ i : Nat, C ≤ i → F i = 0) : ∀ n : Nat, x_sum F (C + n) = x_sum F C
  | 0 => rfl
  | n + 1 => by rw [show C + (n + 1) = (C + n) + 1 from rfl, x_sum_s, x_sum_hi h n, h _ (by omega)]; omega
theorem b_sub0 {m s : Nat} : b_sub m s = 0 ↔ ∀ c, m.testBit c = true → s.testBit c = true := by
  constructor
  · intro h c hc
    have h1 : (b_sub m s).testBit c = false := by rw [h]; simp
    rw [b_sub_bit, hc] at h1
    simpa using h1
  · intro h
    apply Nat.eq_of_testBit_eq
    intro i
    rw [b_sub_bit]
    cases hi : m.testBit i with
    | false => simp
    | true => rw [h i hi]; simp
theorem s_pop_cn (m : Nat) : s_pop m = cn (fun c => m.testBit c = true) 10 := by
  have key : ∀ k : Nat, (if m.testBit k = true then 1 else 0) = m / 2 ^ k % 2 := by
    intro k
    rw [Nat.testBit_eq_decide_div_mod_eq]
    by_cases h : m / 2 ^ k % 2 = 1
    · rw [if_pos (decide_eq_true h), h]
    · rw [if_neg (fun hh => h (of_decide_eq_true hh))]
      omega
  have e : cn (fun c => m.testBit c = true) 10 = 0 + m / 2 ^ 0 % 2 + m / 2 ^ 1 % 2 + m / 2 ^ 2 % 2 + m / 2 ^ 3 % 2 + m / 2 ^ 4 % 2 + m / 2 ^ 5 % 2 + m / 2 ^ 6 % 2 + m / 2 ^ 7 % 2 + m / 2 ^ 8 % 2 + m / 2 ^ 9 % 2 := by
    simp only [cn, key]
  rw [e]
  rfl
theorem l_un_bit {f : Int → Int} {m c : Nat} : ∀ k : Nat, (l_un f m k).testBit c = true ↔ (m.testBit c = true ∧ ¬ (c < k ∧ f (35 + (c : Int)) = 1))
  | 0 => by
    show m.testBit c = true ↔ _
    constructor
    · intro h; exact ⟨h, fun hh => absurd hh.1 (by omega)⟩
    · exact fun h => h.1
  | k + 1 => by
    have ih := l_un_bit (f := f) (m := m) (c := c) k
    rw [l_un_s]
    split
    · next h =>
      rw [b_sub1, ih]
      constructor
      · rintro ⟨⟨h1, h2⟩, h3⟩; exact ⟨h1, fun hh => h2 ⟨by omega, hh.2⟩⟩
      · rintro ⟨h1, h2⟩
        refine ⟨⟨h1, fun hh => h2 ⟨by omega, hh.2⟩⟩, fun hck => ?_⟩
        subst hck
        exact h2 ⟨by omega, h⟩
    · next h =>
      rw [ih]
      constructor
      · rintro ⟨h1, h2⟩
        refine ⟨h1, fun hh => ?_⟩
        by_cases hck : c = k
        · subst hck; exact h hh.2
        · exact h2 ⟨by omega, hh.2⟩
      · rintro ⟨h1, h2⟩; exact ⟨h1, fun hh => h2 ⟨by omega, hh.2⟩⟩
section PK
variable {B : Int} {f : Int → Int} {C : Nat}
theorem lo_bit {m : Nat} (hm : m < 2 ^ C) {c : Nat} (h : m.testBit c = true) : c < C := by
  refine Decidable.byContradiction (fun hc => ?_)
  have : m < 2 ^ c := Nat.lt_of_lt_of_le hm (Nat.pow_le_pow_right (by decide) (by omega))
  rw [Nat.testBit_lt_two_pow this] at h
  exact absurd h (by decide)
theorem p2_le (hC : C ≤ 10) : 2 ^ C ≤ 1024 := Nat.pow_le_pow_right (n := 2) (by decide) hC
theorem l_un_luck (hk : s_ok B f) (hC : C ≤ 10) {m : Nat} (hm : m < 2 ^ C) : l_un f m C = k_luck f m := by
  have h2 := p2_le hC
  apply Nat.eq_of_testBit_eq
  intro c
  have : (l_un f m C).testBit c = true ↔ (k_luck f m).testBit c = true := by
    rw [l_un_bit, k_luck_bit (by omega)]
    constructor
    · rintro ⟨h1, h3⟩
      have hc := lo_bit hm h1
      have := (s_cr hk (c := (c : Int)) (by omega) (by omega)).2.1
      exact ⟨h1, by omega⟩
    · rintro ⟨h1, h3⟩
      exact ⟨h1, fun hh => by omega⟩
  cases h : (k_luck f m).testBit c with
  | true => exact this.mpr h
  | false =>
    cases h4 : (l_un f m C).testBit c with
    | false => rfl
    | true => rw [this.mp h4] at h; exact absurd h (by decide)
theorem g_of_10 (hC : C ≤ 10) {m : Nat} (hm : m < 2 ^ C) (bl : Int) : g_of f m bl C = g_of f m bl 10 := by
  unfold g_of
  have := x_sum_hi (F := fun c => if m.testBit c.toNat = true ∧ f (35 + c) = bl then f (25 + c) else 0) (C := C) (fun i hi => by
    refine if_neg (fun hh => ?_)
    have h1 := hh.1
    rw [Int.toNat_natCast] at h1
    have := lo_bit hm h1
    omega) (10 - C)
  rw [show C + (10 - C) = 10 by omega] at this
  exact this.symm
theorem g_of_lk (hC : C ≤ 10) {m : Nat} (hm : m < 2 ^ C) : g_of f m 0 C = k_sum f (k_luck f m) := by
  have h2 := p2_le hC
  rw [g_of_10 hC hm]
  unfold g_of k_sum
  refine x_sum_congr (fun c hc => ?_)
  rw [Int.toNat_natCast]
  by_cases h : m.testBit c = true ∧ f (35 + (c : Int)) = 0
  · rw [if_pos h, if_pos ((k_luck_bit (by omega)).mpr h)]
  · rw [if_neg h, if_neg (fun hh => h ((k_luck_bit (by omega)).mp hh))]
theorem g_of_ul (hk : s_ok B f) (hC : C ≤ 10) {m : Nat} (hm : m < 2 ^ C) : g_of f m 1 C = k_sum f (b_sub m (k_luck f m)) := by
  have h2 := p2_le hC
  rw [g_of_10 hC hm]
  unfold g_of k_sum
  refine x_sum_congr (fun c hc => ?_)
  rw [Int.toNat_natCast]
  have hcr := (s_cr hk (c := (c : Int)) (by omega) (by omega)).2.1
  have hb : (b_sub m (k_luck f m)).testBit c = true ↔ (m.testBit c = true ∧ f (35 + (c : Int)) = 1) := by
    rw [b_sub_bit, Bool.and_eq_true, Bool.not_eq_true']
    have hl := k_luck_bit (f := f) (m := m) (c := c) (by omega)
    constructor
    · rintro ⟨h1, h3⟩
      refine ⟨h1, ?_⟩
      have : ¬ f (35 + (c : Int)) = 0 := fun h0 => by rw [hl.mpr ⟨h1, h0⟩] at h3; exact absurd h3 (by decide)
      omega
    · rintro ⟨h1, h3⟩
      refine ⟨h1, ?_⟩
      cases h4 : (k_luck f m).testBit c with
      | false => rfl
      | true => have := (hl.mp h4).2; omega
  by_cases h : m.testBit c = true ∧ f (35 + (c : Int)) = 1
  · rw [if_pos h, if_pos (hb.mpr h)]
  · rw [if_neg h, if_neg (fun hh => h (hb.mp hh))]
theorem k_luck_id {m th : Nat} (hm : m < 1024) (hth : th < 1024) (h : b_sub m (k_luck f th) = 0) : k_luck f m = m := (k_luck_m hm).mpr (fun c hc => ((k_luck_bit hth).mp (b_sub0.mp h c hc)).2)
theorem k_sum_0 : k_sum f 0 = 0 := by
  unfold k_sum
  have := x_sum_hi (F := fun c => if (0 : Nat).testBit c.toNat = true then f (25 + c) else 0) (C := 0) (fun i _ => by simp) 10
  simpa [x_sum] using this
/-- the thief -/
theorem f_thf_k (hC : C ≤ 10) {ca : Int} {A : Nat} (hA : A < 2 ^ C) : ∀ n : Nat, n ≤ 2 ^ C → f_thf f ca C (k_luck f A) n = (k_stl f ca (k_luck f A) n).1 ∧ (k_stl f ca (k_luck f A) n).2 = k_sum f (k_stl f ca (k_luck f A) n).1 ∧ g_of f (k_stl f ca (k_luck f A) n).1 0 C = k_sum f (k_stl f ca (k_luck f A) n).1
  | 0, _ => by
    refine ⟨rfl, k_sum_0.symm, ?_⟩
    show g_of f 0 0 C = k_sum f 0
    have h0 : (0 : Nat) < 2 ^ C := Nat.pow_pos (by decide)
    rw [g_of_lk hC h0, (k_luck_0 (by decide)).mpr (fun c hc => by simp at hc)]
  | n + 1, hn => by
    have h2 := p2_le hC
    obtain ⟨i1, i2, i3⟩ := f_thf_k hC (ca := ca) hA n (by omega)
    rw [f_thf_s, k_stl_s, i1, i3, i2]
    by_cases hb : b_sub n (k_luck f A) = 0
    · have e : g_of f n 0 C = k_sum f n := by
        rw [g_of_lk hC (by omega), k_luck_id (by omega) (by omega) hb]
      rw [e]
      by_cases hc : b_sub n (k_luck f A) = 0 ∧ k_sum f n ≤ ca ∧ (k_sum f (k_stl f ca (k_luck f A) n).1 < k_sum f n ∨ (k_sum f n = k_sum f (k_stl f ca (k_luck f A) n).1 ∧ s_pop n < s_pop (k_stl f ca (k_luck f A) n).1))
      · rw [if_pos hc, if_pos (by omega)]
        exact ⟨rfl, rfl, e⟩
      · rw [if_neg hc, if_neg (by omega)]
        exact ⟨rfl, i2, i3⟩
    · rw [if_neg (fun h => hb h.1), if_neg (fun h => hb h.1)]
      exact ⟨rfl, i2, i3⟩
theorem f_thf_hi {ca : Int} {al : Nat} : ∀ n : Nat, f_thf f ca C al (al + 1 + n) = f_thf f ca C al (al + 1)
  | 0 => rfl
  | n + 1 => by
    rw [show al + 1 + (n + 1) = (al + 1 + n) + 1 from rfl, f_thf_s, if_neg (fun h => by have := b_sub0_le h.1; omega)]
    exact f_thf_hi n
theorem q_thief_M (hk : s_ok B f) (hC : C ≤ 10) {ca : Int} {A : Nat} (hA : A < 2 ^ C) : (k_stl f ca (k_luck f A) (2 ^ C)).1 = f_thf f ca C (l_un f A C) (l_un f A C + 1) := by
  rw [l_un_luck hk hC hA]
  have h1 := f_thf_k hC (f := f) (ca := ca) hA (2 ^ C) (Nat.le_refl _)
  rw [← h1.1]
  have hl : k_luck f A ≤ A := by rw [← l_un_luck hk hC hA]; exact l_un_le C
  have h2 := f_thf_hi (f := f) (C := C) (ca := ca) (al := k_luck f A) (2 ^ C - (k_luck f A + 1))
  rw [show k_luck f A + 1 + (2 ^ C - (k_luck f A + 1)) = 2 ^ C by omega] at h2
  exact h2
/-- the level -/
theorem k_diff_o (hk : s_ok B f) (hC : C ≤ 10) {t : Int} {m : Nat} (hm : m < 2 ^ C) : k_diff f t m = o_by f t C m := by
  unfold k_diff o_by
  rw [g_of_lk hC hm, g_of_ul hk hC hm]
  dsimp only
  split <;> split <;> omega
theorem f_lev_k (hk : s_ok B f) (hC : C ≤ 10) {t : Int} {A : Nat} : ∀ n : Nat, n ≤ 2 ^ C → f_lev f t C A n = (k_lev f t A n).1 ∧ (k_lev f t A n).2 = o_by f t C (k_lev f t A n).1
  | 0, _ => ⟨rfl, k_diff_o hk hC (Nat.pow_pos (by decide))⟩
  | n + 1, hn => by
    obtain ⟨i1, i2⟩ := f_lev_k hk hC (t := t) (A := A) n (by omega)
    rw [f_lev_s, k_lev_s, i1, i2, k_diff_o hk hC (by omega)]
    by_cases hc : b_sub n A = 0 ∧ (o_by f t C n < o_by f t C (k_lev f t A n).1 ∨ (o_by f t C n = o_by f t C (k_lev f t A n).1 ∧ s_pop n < s_pop (k_lev f t A n).1))
    · rw [if_pos hc, if_pos (by omega)]
      exact ⟨rfl, rfl⟩
    · rw [if_neg hc, if_neg (by omega)]
      exact ⟨rfl, i2⟩
theorem f_lev_hi {t : Int} {al : Nat} : ∀ n : Nat, f_lev f t C al (al + 1 + n) = f_lev f t C al (al + 1)
  | 0 => rfl
  | n + 1 => by
    rw [show al + 1 + (n + 1) = (al + 1 + n) + 1 from rfl, f_lev_s, if_neg (fun h => by have := b_sub0_le h.1; omega)]
    exact f_lev_hi n
theorem q_level_M (hk : s_ok B f) (hC : C ≤ 10) {t : Int} {A : Nat} (hA : A < 2 ^ C) : (k_lev f t A (2 ^ C)).1 = f_lev f t C A (A + 1) := by
  rw [← (f_lev_k hk hC (t := t) (A := A) (2 ^ C) (Nat.le_refl _)).1]
  have h2 := f_lev_hi (f := f) (C := C) (t := t) (al := A) (2 ^ C - (A + 1))
  rw [show A + 1 + (2 ^ C - (A + 1)) = 2 ^ C by omega] at h2
  exact h2
/-- the sending -/
theorem k_snd_min {lk : Int → Int} {t wa : Int} {sd : Nat} : ∀ n : Nat, n ≤ 1024 → (k_snd f lk t wa C sd n = (-1, 11) ∧ ∀ m, m < n → ¬ (b_sub m sd = 0 ∧ wa ≤ k_at f lk t m C)) ∨ ∃ b : Nat, b < n ∧ k_snd f lk t wa C sd n = ((b : Int), (s_pop b : Int)) ∧ (b_sub b sd = 0 ∧ wa ≤ k_at f lk t b C) ∧ ∀ m, m < n → (b_sub m sd = 0 ∧ wa ≤ k_at f lk t m C) → (s_pop b < s_pop m ∨ (s_pop b = s_pop m ∧ b ≤ m))
  | 0, _ => Or.inl ⟨rfl, fun m hm => absurd hm (by omega)⟩
  | n + 1, hn => by
    have hp := s_pop_le n (by omega)
    rw [k_snd_s]
    rcases k_snd_min (lk := lk) (t := t) (wa := wa) (sd := sd) n (by omega) with ⟨h1, h2⟩ | ⟨b, b1, b2, b3, b4⟩
    · rw [h1]
      by_cases hc : b_sub n sd = 0 ∧ wa ≤ k_at f lk t n C
      · rw [if_pos ⟨hc.1, by show (s_pop n : Int) < 11; omega, hc.2⟩]
        refine Or.inr ⟨n, by omega, rfl, hc, fun m hm hP => ?_⟩
        by_cases hmn : m = n
        · subst hmn; exact Or.inr ⟨rfl, Nat.le_refl _⟩
        · exact absurd hP (h2 m (by omega))
      · rw [if_neg (fun h => hc ⟨h.1, h.2.2⟩)]
        refine Or.inl ⟨rfl, fun m hm => ?_⟩
        by_cases hmn : m = n
        · subst hmn; exact hc
        · exact h2 m (by omega)
    · rw [b2]
      by_cases hc : b_sub n sd = 0 ∧ (s_pop n : Int) < (s_pop b : Int) ∧ wa ≤ k_at f lk t n C
      · rw [if_pos hc]
        refine Or.inr ⟨n, by omega, rfl, ⟨hc.1, hc.2.2⟩, fun m hm hP => ?_⟩
        by_cases hmn : m = n
        · subst hmn; exact Or.inr ⟨rfl, Nat.le_refl _⟩
        · have := b4 m (by omega) hP
          have := hc.2.1
          exact Or.inl (by omega)
      · rw [if_neg hc]
        refine Or.inr ⟨b, by omega, rfl, b3, fun m hm hP => ?_⟩
        by_cases hmn : m = n
        · subst hmn
          have : ¬ (s_pop m : Int) < (s_pop b : Int) := fun h => hc ⟨hP.1, h, hP.2⟩
          omega
        · exact b4 m (by omega) hP
theorem f_snd_min {lk : Int → Int} {t wa : Int} {al : Nat} : ∀ n : Nat, (f_snd f lk t wa C al n = -1 ∧ ∀ m, m < n → ¬ (b_sub m al = 0 ∧ wa ≤ k_cs f lk t m C)) ∨ ∃ b : Nat, b < n ∧ f_snd f lk t wa C al n = (b : Int) ∧ (b_sub b al = 0 ∧ wa ≤ k_cs f lk t b C) ∧ ∀ m, m < n → (b_sub m al = 0 ∧ wa ≤ k_cs f lk t m C) → (s_pop b < s_pop m ∨ (s_pop b = s_pop m ∧ b ≤ m))
  | 0 => Or.inl ⟨rfl, fun m hm => absurd hm (by omega)⟩
  | n + 1 => by
    rw [f_snd_s]
    rcases f_snd_min (lk := lk) (t := t) (wa := wa) (al := al) n with ⟨h1, h2⟩ | ⟨b, b1, b2, b3, b4⟩
    · rw [h1]
      by_cases hc : b_sub n al = 0 ∧ wa ≤ k_cs f lk t n C
      · rw [if_pos ⟨hc.1, Or.inl rfl, hc.2⟩]
        refine Or.inr ⟨n, by omega, rfl, hc, fun m hm hP => ?_⟩
        by_cases hmn : m = n
        · subst hmn; exact Or.inr ⟨rfl, Nat.le_refl _⟩
        · exact absurd hP (h2 m (by omega))
      · rw [if_neg (fun h => hc ⟨h.1, h.2.2⟩)]
        refine Or.inl ⟨rfl, fun m hm => ?_⟩
        by_cases hmn : m = n
        · subst hmn; exact hc
        · exact h2 m (by omega)
    · rw [b2, Int.toNat_natCast]
      by_cases hc : b_sub n al = 0 ∧ s_pop n < s_pop b ∧ wa ≤ k_cs f lk t n C
      · rw [if_pos ⟨hc.1, Or.inr hc.2.1, hc.2.2⟩]
        refine Or.inr ⟨n, by omega, rfl, ⟨hc.1, hc.2.2⟩, fun m hm hP => ?_⟩
        by_cases hmn : m = n
        · subst hmn; exact Or.inr ⟨rfl, Nat.le_refl _⟩
        · have := b4 m (by omega) hP
          have := hc.2.1
          exact Or.inl (by omega)
      · rw [if_neg (fun h => by
          rcases h.2.1 with h0 | h0
          · omega
          · exact hc ⟨h.1, h0, h.2.2⟩)]
        refine Or.inr ⟨b, by omega, rfl, b3, fun m hm hP => ?_⟩
        by_cases hmn : m = n
        · subst hmn
          have : ¬ s_pop m < s_pop b := fun h => hc ⟨hP.1, h, hP.2⟩
          omega
        · exact b4 m (by omega) hP
theorem q_send_M {T : Nat} (hk : s_ok B f) (hC : C ≤ 10) (hpl : pl_ok T C f) {lk lk' : Int → Int} {t wa : Int} (hlk : ∀ a : Int, 0 ≤ a → a < T → f_rl 1000000 99999 20736 (lk (a * 8 + t)) (lk' (a * 8 + t)) ∧ 0 ≤ lk (a * 8 + t)) : (k_snd f lk t wa C (k_luck f (s_bits (fun c => s_lies f c) C)) (2 ^ C)).1 = f_snd f lk' t wa C (s_bits (fun c : Nat => s_lies f (c : Int) ∧ f (35 + (c : Int)) = 0 ∧ lk' (f (55 + (c : Int)) * 8 + t) < 99999) C) ((s_bits (fun c : Nat => s_lies f (c : Int) ∧ f (35 + (c : Int)) = 0 ∧ lk' (f (55 + (c : Int)) * 8 + t) < 99999) C) + 1) := by
  have h2 := p2_le hC
  have hsl := s_bits_lt (fun c => s_lies f c) C
  have hal := s_bits_lt (fun c : Nat => s_lies f (c : Int) ∧ f (35 + (c : Int)) = 0 ∧ lk' (f (55 + (c : Int)) * 8 + t) < 99999) C
  have hsd : ∀ c, (k_luck f (s_bits (fun c => s_lies f c) C)).testBit c = true → c < C ∧ s_lies f c ∧ f (35 + (c : Int)) = 0 := by
    intro c hc
    obtain ⟨a1, a2⟩ := (k_luck_bit (by omega)).mp hc
    obtain ⟨a3, a4⟩ := s_bits_bit a1
    exact ⟨a4, a3, a2⟩
  have hab : ∀ c, (s_bits (fun c : Nat => s_lies f (c : Int) ∧ f (35 + (c : Int)) = 0 ∧ lk' (f (55 + (c : Int)) * 8 + t) < 99999) C).testBit c = true ↔ ((k_luck f (s_bits (fun c => s_lies f c) C)).testBit c = true ∧ lk' (f (55 + (c : Int)) * 8 + t) < 99999) := by
    intro c
    constructor
    · intro hc
      obtain ⟨⟨a1, a2, a3⟩, a4⟩ := s_bits_bit hc
      exact ⟨(k_luck_bit (by omega)).mpr ⟨s_bits_set a1 a4, a2⟩, a3⟩
    · rintro ⟨hc, h3⟩
      obtain ⟨a1, a2, a3⟩ := hsd c hc
      exact s_bits_set ⟨a2, a3, h3⟩ a1
  generalize hal' : s_bits (fun c : Nat => s_lies f (c : Int) ∧ f (35 + (c : Int)) = 0 ∧ lk' (f (55 + (c : Int)) * 8 + t) < 99999) C = al at *
  generalize hsd' : k_luck f (s_bits (fun c => s_lies f c) C) = sd at *
  have hsdl : sd < 1024 := by rw [← hsd']; exact k_luck_lt _ _
  have hrel : ∀ c : Nat, sd.testBit c = true → f_rl 1000000 99999 20736 (lk (f (55 + (c : Int)) * 8 + t)) (lk' (f (55 + (c : Int)) * 8 + t)) ∧ 0 ≤ lk (f (55 + (c : Int)) * 8 + t) := by
    intro c hc
    obtain ⟨a1, a2, a3⟩ := hsd c hc
    have b1 := (s_cr hk (c := (c : Int)) (by omega) (by omega)).2.2.2.2.1
    have b2 := hpl (c : Int) (by omega) (by omega)
    have b3 := a2.1
    have b4 := a2.2
    exact hlk _ (by omega) (by omega)
  have hat : ∀ m, b_sub m sd = 0 → k_at f lk t m C = k_cs f lk' t m C := by
    intro m hm
    unfold k_at k_cs
    refine x_sum_congr (fun c hc => ?_)
    unfold k_at1 k_cm
    rw [Int.toNat_natCast]
    by_cases hb : m.testBit c = true
    · rw [if_pos hb, if_pos hb]
      have hr := hrel c (b_sub0.mp hm c hb)
      obtain ⟨hr1, hr2⟩ := hr
      rcases hr1 with ⟨e1, e2⟩ | ⟨e1, e2⟩
      · have e0 : e_none 1000000 (lk (f (55 + (c : Int)) * 8 + t)) = lk (f (55 + (c : Int)) * 8 + t) := if_pos (by omega)
        have n1 : ¬ lk (f (55 + (c : Int)) * 8 + t) = -1 := by omega
        have n2 : ¬ 99999 ≤ lk (f (55 + (c : Int)) * 8 + t) := by omega
        rw [e0, ← e1, if_neg n1, if_neg n2]
      · have e0 : e_none 1000000 (lk (f (55 + (c : Int)) * 8 + t)) = -1 := if_neg (by omega)
        rw [e0, if_pos rfl, e2, if_pos (Int.le_refl _)]
    · rw [if_neg hb, if_neg hb]
  have hcs : ∀ m, b_sub m sd = 0 → k_cs f lk' t m C = k_cs f lk' t (m &&& al) C := by
    intro m hm
    unfold k_cs
    refine x_sum_congr (fun c hc => ?_)
    rw [Int.toNat_natCast]
    have hma : (m &&& al).testBit c = true ↔ (m.testBit c = true ∧ al.testBit c = true) := by rw [Nat.testBit_and, Bool.and_eq_true]
    by_cases hb : m.testBit c = true
    · rw [if_pos hb]
      by_cases ha : al.testBit c = true
      · rw [if_pos (hma.mpr ⟨hb, ha⟩)]
      · rw [if_neg (fun h => ha (hma.mp h).2)]
        unfold k_cm
        have : ¬ lk' (f (55 + (c : Int)) * 8 + t) < 99999 := fun h => ha ((hab c).mpr ⟨b_sub0.mp hm c hb, h⟩)
        rw [if_pos (by omega)]
    · rw [if_neg hb, if_neg (fun h => hb (hma.mp h).1)]
  have hin : ∀ m, b_sub m al = 0 → b_sub m sd = 0 := fun m hm => b_sub0.mpr (fun c hc => ((hab c).mp (b_sub0.mp hm c hc)).1)
  have hna : ∀ m, b_sub (m &&& al) al = 0 := fun m => b_sub0.mpr (fun c hc => by rw [Nat.testBit_and, Bool.and_eq_true] at hc; exact hc.2)
  have hsd2 : ∀ m, b_sub m sd = 0 → m < 2 ^ C := by
    intro m hm
    refine Nat.lt_pow_two_of_testBit m (fun i hi => ?_)
    cases hb : m.testBit i with
    | false => rfl
    | true => have := (hsd i (b_sub0.mp hm i hb)).1; omega
  rcases k_snd_min (f := f) (C := C) (lk := lk) (t := t) (wa := wa) (sd := sd) (2 ^ C) h2 with ⟨h3, h4⟩ | ⟨b, b1, b2, b3, b4⟩
  · rw [h3]
    rcases f_snd_min (f := f) (C := C) (lk := lk') (t := t) (wa := wa) (al := al) (al + 1) with ⟨g3, g4⟩ | ⟨e, e1, e2, e3, e4⟩
    · rw [g3]
    · exfalso
      exact h4 e (hsd2 e (hin e e3.1)) ⟨hin e e3.1, by rw [hat e (hin e e3.1)]; exact e3.2⟩
  · rw [b2]
    have hP : b_sub (b &&& al) al = 0 ∧ wa ≤ k_cs f lk' t (b &&& al) C := ⟨hna b, by rw [← hcs b b3.1, ← hat b b3.1]; exact b3.2⟩
    have hle : b &&& al < al + 1 := by have : b &&& al ≤ al := Nat.and_le_right; omega
    rcases f_snd_min (f := f) (C := C) (lk := lk') (t := t) (wa := wa) (al := al) (al + 1) with ⟨g3, g4⟩ | ⟨e, e1, e2, e3, e4⟩
    · exact absurd hP (g4 _ hle)
    · rw [e2]
      have q1 := e4 _ hle hP
      have q2 := b4 e (hsd2 e (hin e e3.1)) ⟨hin e e3.1, by rw [hat e (hin e e3.1)]; exact e3.2⟩
      have hpop : s_pop (b &&& al) ≤ s_pop b := by
        rw [s_pop_cn, s_pop_cn]
        exact cn_le (fun c _ hc => by rw [Nat.testBit_and, Bool.and_eq_true] at hc; exact hc.1)
      have hbe : b &&& al = b := by
        refine Decidable.byContradiction (fun hne => ?_)
        have hx : ∃ c, c < 10 ∧ b.testBit c = true ∧ ¬ (b &&& al).testBit c = true := by
          refine Decidable.byContradiction (fun hno => hne ?_)
          apply Nat.eq_of_testBit_eq
          intro i
          cases hbi : b.testBit i with
          | false => rw [Nat.testBit_and, hbi]; rfl
          | true =>
            cases hai : (b &&& al).testBit i with
            | true => rfl
            | false => exact absurd ⟨i, by have := lo_bit (C := C) (hsd2 b b3.1) hbi; omega, hbi, by rw [hai]; decide⟩ hno
        have : s_pop (b &&& al) < s_pop b := by
          rw [s_pop_cn, s_pop_cn]
          exact cn_lt (fun c _ hc => by rw [Nat.testBit_and, Bool.and_eq_true] at hc; exact hc.1) hx
        omega
      rw [hbe] at q1
      show (b : Int) = e
      omega
end PK

end M88
