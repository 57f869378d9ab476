section P78
/-! ===== the hold: the least harm of a row, crate by crate ===== -/
theorem tb_lt {m c : Nat} (hm : m < 1024) (h : m.testBit c = true) : c < 10 := by
  by_cases hc : c < 10
  · exact hc
  · exfalso
    have : m < 2 ^ c := Nat.lt_of_lt_of_le hm (Nat.le_trans (by decide : 1024 ≤ 2 ^ 10) (Nat.pow_le_pow_right (by decide) (by omega)))
    rw [Nat.testBit_lt_two_pow this] at h
    cases h
theorem tb_ne {m : Nat} (h : ¬ m = 0) : ∃ c, m.testBit c = true := Nat.exists_testBit_of_ne_zero h
theorem k_luck_bit {f : Int → Int} {m c : Nat} (hm : m < 1024) : (k_luck f m).testBit c = true ↔ (m.testBit c = true ∧ f (35 + c) = 0) := by
  constructor
  · intro h
    exact (s_bits_bit (p := fun c => m.testBit c = true ∧ f (35 + c) = 0) h).1
  · intro h
    exact s_bits_set (p := fun c => m.testBit c = true ∧ f (35 + c) = 0) h (tb_lt hm h.1)
theorem k_luck_0 {f : Int → Int} {m : Nat} (hm : m < 1024) : k_luck f m = 0 ↔ ∀ c, m.testBit c = true → ¬ f (35 + (c : Int)) = 0 := by
  constructor
  · intro h c hc hf
    have := (k_luck_bit (f := f) (c := c) hm).mpr ⟨hc, hf⟩
    rw [h] at this
    simp at this
  · intro h
    apply Nat.eq_of_testBit_eq
    intro c
    rw [Nat.zero_testBit]
    cases hb : (k_luck f m).testBit c with
    | false => rfl
    | true =>
      have := (k_luck_bit hm).mp hb
      exact absurd this.2 (h c this.1)
theorem k_luck_m {f : Int → Int} {m : Nat} (hm : m < 1024) : k_luck f m = m ↔ ∀ c, m.testBit c = true → f (35 + (c : Int)) = 0 := by
  constructor
  · intro h c hc
    rw [← h] at hc
    exact ((k_luck_bit hm).mp hc).2
  · intro h
    apply Nat.eq_of_testBit_eq
    intro c
    cases hb : m.testBit c with
    | true => exact (k_luck_bit hm).mpr ⟨hb, h c hb⟩
    | false =>
      cases hb2 : (k_luck f m).testBit c with
      | false => rfl
      | true => rw [((k_luck_bit hm).mp hb2).1] at hb; cases hb
theorem k_mixed_iff {f : Int → Int} {m : Nat} (hm : m < 1024) : k_mixed f m ↔ ((∃ c, m.testBit c = true ∧ f (35 + (c : Int)) = 0) ∧ ∃ c, m.testBit c = true ∧ ¬ f (35 + (c : Int)) = 0) := by
  unfold k_mixed
  rw [k_luck_0 hm, k_luck_m hm]
  constructor
  · rintro ⟨h1, h2⟩
    refine ⟨?_, ?_⟩
    · apply Classical.byContradiction
      intro hn
      exact h1 (fun c hc hf => hn ⟨c, hc, hf⟩)
    · apply Classical.byContradiction
      intro hn
      exact h2 (fun c hc => Classical.byContradiction (fun hf => hn ⟨c, hc, hf⟩))
  · rintro ⟨⟨c, hc, hf⟩, ⟨d, hd, hg⟩⟩
    exact ⟨fun h => h c hc hf, fun h => hg (h d hd)⟩
theorem k_lst_le {f : Int → Int} {m : Nat} : ∀ {n c : Nat}, c < n → m.testBit c = true → k_lst f m n ≤ f (25 + (c : Int))
  | 0, c, h, _ => by omega
  | n + 1, c, h, hb => by
    rw [k_lst_s]
    by_cases hc : c = n
    · subst hc; rw [if_pos hb]; omega
    · have := k_lst_le (f := f) (m := m) (n := n) (c := c) (by omega) hb
      split <;> omega
theorem k_lst_ex {f : Int → Int} {m : Nat} : ∀ n : Nat, k_lst f m n = 99 ∨ ∃ c, c < n ∧ m.testBit c = true ∧ k_lst f m n = f (25 + (c : Int))
  | 0 => Or.inl rfl
  | n + 1 => by
    have ih := k_lst_ex (f := f) (m := m) n
    rw [k_lst_s]
    by_cases hb : m.testBit n = true
    · rw [if_pos hb]
      by_cases hle : k_lst f m n ≤ f (25 + (n : Int))
      · rw [Int.min_eq_left hle]
        rcases ih with h | ⟨c, h1, h2, h3⟩
        · exact Or.inl h
        · exact Or.inr ⟨c, by omega, h2, h3⟩
      · rw [Int.min_eq_right (by omega)]
        exact Or.inr ⟨n, by omega, hb, rfl⟩
    · rw [if_neg hb]
      rcases ih with h | ⟨c, h1, h2, h3⟩
      · exact Or.inl h
      · exact Or.inr ⟨c, by omega, h2, h3⟩
theorem k_least_le {f : Int → Int} {m c : Nat} (hm : m < 1024) (h : m.testBit c = true) : k_least f m ≤ f (25 + (c : Int)) := k_lst_le (tb_lt hm h) h
theorem k_least_ex {B : Int} {f : Int → Int} (hk : s_ok B f) {m : Nat} (hm : m < 1024) (h0 : ¬ m = 0) : ∃ c, m.testBit c = true ∧ k_least f m = f (25 + (c : Int)) := by
  rcases k_lst_ex (f := f) (m := m) 10 with h | ⟨c, -, h2, h3⟩
  · obtain ⟨c, hc⟩ := tb_ne h0
    have h1 := tb_lt hm hc
    have h2 := (s_cr hk (c := (c : Int)) (by omega) (by omega)).1
    have h3 := k_least_le (f := f) hm hc
    unfold k_least at h3 ⊢
    exact ⟨c, hc, by omega⟩
  · exact ⟨c, h2, h3⟩
theorem b_sub1 {m c d : Nat} : (b_sub m (2 ^ c)).testBit d = true ↔ (m.testBit d = true ∧ ¬ d = c) := by
  rw [b_sub_bit, Nat.testBit_two_pow]
  by_cases h : c = d
  · simp [h]
  · have : ¬ d = c := fun hh => h hh.symm
    simp [h, this]
theorem b_sub_lt {m s : Nat} (hm : m < 1024) : b_sub m s < 1024 := Nat.lt_of_le_of_lt b_sub_le hm
theorem k_least_mono {B : Int} {f : Int → Int} (hk : s_ok B f) {m c : Nat} (hm : m < 1024) (h0 : ¬ b_sub m (2 ^ c) = 0) : k_least f m ≤ k_least f (b_sub m (2 ^ c)) := by
  obtain ⟨d, hd, he⟩ := k_least_ex hk (b_sub_lt hm) h0
  rw [he]
  exact k_least_le hm (b_sub1.mp hd).1
/-- what a crate of a sort meets, all the others being of one sort -/
theorem k_behind_uni {f : Int → Int} {c : Int} {m : Nat} (hm : m < 1024) (h0 : ¬ m = 0) (hx : ¬ k_mixed f m) {d : Nat} (hd : m.testBit d = true) (hs : (f (35 + c) = 0 ∨ f (35 + c) = 1) ∧ (f (35 + (d : Int)) = 0 ∨ f (35 + (d : Int)) = 1)) : k_behind f c m = if f (35 + c) = f (35 + (d : Int)) then 0 else min (f (25 + c)) (k_least f m) := by
  unfold k_behind
  rw [if_neg (by intro h; rcases h with h | h; exact h0 h; exact hx h)]
  have hl : (¬ k_luck f m = 0) ↔ f (35 + (d : Int)) = 0 := by
    rw [k_luck_0 hm]
    constructor
    · intro h
      apply Classical.byContradiction
      intro hn
      refine h (fun e he hf => ?_)
      exact hx ((k_mixed_iff hm).mpr ⟨⟨e, he, hf⟩, ⟨d, hd, hn⟩⟩)
    · intro hf h
      exact h d hd hf
  by_cases hc : f (35 + c) = f (35 + (d : Int))
  · rw [if_pos hc, if_pos (by rw [hl, hc])]
  · rw [if_neg hc, if_neg (by rw [hl]; omega)]
theorem k_behind_0 {f : Int → Int} {c : Int} : k_behind f c 0 = 0 := by
  unfold k_behind
  rw [if_pos (Or.inl rfl)]
  unfold k_harm
  split
  · next h => exact absurd (by decide +kernel : k_luck (fun _ => 0) 0 = 0) (by intro _; exact h.2 (by
      apply Nat.eq_of_testBit_eq
      intro i
      cases hb : (k_luck f 0).testBit i with
      | false => simp
      | true => have := ((k_luck_bit (m := 0) (by decide)).mp hb).1; simp at this))
  · rfl
section KB
variable {B : Int} {f : Int → Int} (hk : s_ok B f)
theorem k_sort (hk : s_ok B f) {c : Int} (h0 : 0 ≤ c) (h1 : c < 10) : f (35 + c) = 0 ∨ f (35 + c) = 1 := (s_cr hk h0 h1).2.1
/-- whichever crate comes first, there is as much harm -/
theorem k_mix_ge (hk : s_ok B f) {m d : Nat} (hm : m < 1024) (hx : k_mixed f m) (hd : m.testBit d = true) : k_least f m ≤ k_behind f (d : Int) (b_sub m (2 ^ d)) := by
  have hd10 := tb_lt hm hd
  obtain ⟨⟨x, hx1, hx2⟩, ⟨y, hy1, hy2⟩⟩ := (k_mixed_iff hm).mp hx
  have hne : ¬ b_sub m (2 ^ d) = 0 := by
    intro h
    have h1 : ∀ e, m.testBit e = true → e = d := fun e he => Classical.byContradiction (fun hn => by
      have := b_sub1.mpr ⟨he, hn⟩
      rw [h] at this
      simp at this)
    have e1 := h1 x hx1
    have e2 := h1 y hy1
    rw [e1] at hx2
    rw [e2] at hy2
    exact hy2 hx2
  have hmono := k_least_mono hk hm hne
  by_cases hmx : k_mixed f (b_sub m (2 ^ d))
  · unfold k_behind
    rw [if_pos (Or.inr hmx)]
    unfold k_harm
    rw [if_pos hmx]
    exact hmono
  · obtain ⟨e, he⟩ := tb_ne hne
    have he10 := tb_lt (b_sub_lt hm) he
    have hs := k_sort hk (c := (d : Int)) (by omega) (by omega)
    have hs2 := k_sort hk (c := (e : Int)) (by omega) (by omega)
    rw [k_behind_uni (b_sub_lt hm) hne hmx he ⟨hs, hs2⟩]
    have hdd := k_least_le (f := f) hm hd
    rw [if_neg ?_]
    · omega
    · intro heq
      -- then all are of one sort
      have hall : ∀ z, m.testBit z = true → f (35 + (z : Int)) = f (35 + (e : Int)) := by
        intro z hz
        by_cases hzd : z = d
        · rw [hzd]; exact heq
        · have hz2 := b_sub1.mpr ⟨hz, hzd⟩
          have hz10 := tb_lt hm hz
          have hsz := k_sort hk (c := (z : Int)) (by omega) (by omega)
          apply Classical.byContradiction
          intro hn
          apply hmx
          rw [k_mixed_iff (b_sub_lt hm)]
          by_cases hz0 : f (35 + (z : Int)) = 0
          · exact ⟨⟨z, hz2, hz0⟩, ⟨e, he, by omega⟩⟩
          · exact ⟨⟨e, he, by omega⟩, ⟨z, hz2, hz0⟩⟩
      have e1 := hall x hx1
      have e2 := hall y hy1
      rw [hx2] at e1
      rw [← e1] at e2
      exact hy2 e2
/-- of two sorts one crate of a given sort may come first without more harm -/
theorem k_mix_ex (hk : s_ok B f) {m : Nat} (hm : m < 1024) (hx : k_mixed f m) {s : Int} (hs : s = 0 ∨ s = 1) : ∃ d, m.testBit d = true ∧ f (35 + (d : Int)) = s ∧ k_behind f (d : Int) (b_sub m (2 ^ d)) = k_least f m := by
  obtain ⟨⟨x, hx1, hx2⟩, ⟨y, hy1, hy2⟩⟩ := (k_mixed_iff hm).mp hx
  have hm0 : ¬ m = 0 := by intro h; rw [h] at hx1; simp at hx1
  obtain ⟨a, ha1, ha2⟩ := k_least_ex hk hm hm0
  have hy10 := tb_lt hm hy1
  have hsy := k_sort hk (c := (y : Int)) (by omega) (by omega)
  -- one of the sort, one of the other
  obtain ⟨u, hu1, hu2⟩ : ∃ u, m.testBit u = true ∧ f (35 + (u : Int)) = s := by
    rcases hs with h | h
    · exact ⟨x, hx1, by rw [h]; exact hx2⟩
    · exact ⟨y, hy1, by omega⟩
  obtain ⟨v, hv1, hv2⟩ : ∃ v, m.testBit v = true ∧ ¬ f (35 + (v : Int)) = s := by
    rcases hs with h | h
    · exact ⟨y, hy1, by rw [h]; exact hy2⟩
    · exact ⟨x, hx1, by omega⟩
  have hu10 := tb_lt hm hu1
  have hv10 := tb_lt hm hv1
  have hsu := k_sort hk (c := (u : Int)) (by omega) (by omega)
  have hsv := k_sort hk (c := (v : Int)) (by omega) (by omega)
  by_cases hone : ∃ w, m.testBit w = true ∧ f (35 + (w : Int)) = s ∧ ¬ w = u
  · -- two of the sort: take one that isn't the least
    obtain ⟨w, hw1, hw2, hw3⟩ := hone
    have key : ∀ d e : Nat, m.testBit d = true → f (35 + (d : Int)) = s → m.testBit e = true → f (35 + (e : Int)) = s → ¬ e = d → ¬ a = d → k_behind f (d : Int) (b_sub m (2 ^ d)) = k_least f m := by
      intro d e hd1 hd2 he1 he2 hed had
      have hvd : ¬ v = d := by intro h; rw [h] at hv2; exact hv2 hd2
      have hmx : k_mixed f (b_sub m (2 ^ d)) := by
        rw [k_mixed_iff (b_sub_lt hm)]
        have b1 := b_sub1.mpr ⟨he1, hed⟩
        have b2 := b_sub1.mpr ⟨hv1, hvd⟩
        rcases hs with h | h
        · exact ⟨⟨e, b1, by omega⟩, ⟨v, b2, by omega⟩⟩
        · exact ⟨⟨v, b2, by omega⟩, ⟨e, b1, by omega⟩⟩
      have hne : ¬ b_sub m (2 ^ d) = 0 := by intro h; have b1 := b_sub1.mpr ⟨he1, hed⟩; rw [h] at b1; simp at b1
      have h1 := k_least_mono hk hm hne
      have h2 := k_least_le (f := f) (b_sub_lt hm) (b_sub1.mpr ⟨ha1, had⟩)
      unfold k_behind
      rw [if_pos (Or.inr hmx)]
      unfold k_harm
      rw [if_pos hmx]
      omega
    by_cases hau : a = u
    · exact ⟨w, hw1, hw2, key w u hw1 hw2 hu1 hu2 (fun h => hw3 h.symm) (fun h => hw3 (h.symm.trans hau))⟩
    · exact ⟨u, hu1, hu2, key u w hu1 hu2 hw1 hw2 hw3 hau⟩
  · -- the only one of its sort
    refine ⟨u, hu1, hu2, ?_⟩
    have hvu : ¬ v = u := by intro h; rw [h] at hv2; exact hv2 hu2
    have b2 := b_sub1.mpr ⟨hv1, hvu⟩
    have hne : ¬ b_sub m (2 ^ u) = 0 := by intro h; rw [h] at b2; simp at b2
    have hmx : ¬ k_mixed f (b_sub m (2 ^ u)) := by
      intro h
      obtain ⟨⟨p, hp1, hp2⟩, ⟨q, hq1, hq2⟩⟩ := (k_mixed_iff (b_sub_lt hm)).mp h
      obtain ⟨p1, p2⟩ := b_sub1.mp hp1
      obtain ⟨q1, q2⟩ := b_sub1.mp hq1
      have hq10 := tb_lt hm q1
      have hsq := k_sort hk (c := (q : Int)) (by omega) (by omega)
      rcases hs with h | h
      · exact hone ⟨p, p1, by omega, p2⟩
      · exact hone ⟨q, q1, by omega, q2⟩
    rw [k_behind_uni (b_sub_lt hm) hne hmx b2 ⟨hsu, hsv⟩, if_neg (by omega)]
    have h1 := k_least_mono hk hm hne
    have h3 := k_least_le (f := f) hm hu1
    by_cases hau : a = u
    · rw [hau] at ha2
      omega
    · have h2 := k_least_le (f := f) (b_sub_lt hm) (b_sub1.mpr ⟨ha1, hau⟩)
      omega
/-- the rest of the row behind c: it begins with some crate -/
theorem kb_ge (hk : s_ok B f) {c : Int} (hc0 : 0 ≤ c) (hc1 : c < 10) {m d : Nat} (hm : m < 1024) (hd : m.testBit d = true) : k_behind f c m ≤ k_btw f c d + k_behind f (d : Int) (b_sub m (2 ^ d)) := by
  have hd10 := tb_lt hm hd
  have hm0 : ¬ m = 0 := by intro h; rw [h] at hd; simp at hd
  have hb1 := k_btw_in hk hc0 hc1 (d := (d : Int)) (by omega) (by omega)
  have hb2 := k_behind_in hk (c := (d : Int)) (by omega) (by omega) (b_sub m (2 ^ d))
  have hsc := k_sort hk hc0 hc1
  have hsd := k_sort hk (c := (d : Int)) (by omega) (by omega)
  by_cases hx : k_mixed f m
  · have h1 := k_mix_ge hk hm hx hd
    have h2 : k_behind f c m = k_least f m := by
      unfold k_behind
      rw [if_pos (Or.inr hx)]
      unfold k_harm
      rw [if_pos hx]
    omega
  · rw [k_behind_uni hm hm0 hx hd ⟨hsc, hsd⟩]
    have h3 := k_least_le (f := f) hm hd
    by_cases hcd : f (35 + c) = f (35 + (d : Int))
    · rw [if_pos hcd]; omega
    · rw [if_neg hcd]
      unfold k_btw at hb1 ⊢
      rw [if_neg hcd] at hb1 ⊢
      omega
theorem kb_ex (hk : s_ok B f) {c : Int} (hc0 : 0 ≤ c) (hc1 : c < 10) {m : Nat} (hm : m < 1024) (hm0 : ¬ m = 0) : ∃ d, m.testBit d = true ∧ k_btw f c d + k_behind f (d : Int) (b_sub m (2 ^ d)) = k_behind f c m := by
  have hsc := k_sort hk hc0 hc1
  by_cases hx : k_mixed f m
  · obtain ⟨d, h1, h2, h3⟩ := k_mix_ex hk hm hx hsc
    refine ⟨d, h1, ?_⟩
    have h4 : k_behind f c m = k_least f m := by
      unfold k_behind
      rw [if_pos (Or.inr hx)]
      unfold k_harm
      rw [if_pos hx]
    have h5 : k_btw f c d = 0 := if_pos h2.symm
    omega
  · obtain ⟨d, h1, h2⟩ := k_least_ex hk hm hm0
    have hd10 := tb_lt hm h1
    have hsd := k_sort hk (c := (d : Int)) (by omega) (by omega)
    refine ⟨d, h1, ?_⟩
    rw [k_behind_uni hm hm0 hx h1 ⟨hsc, hsd⟩]
    have h3 : k_behind f (d : Int) (b_sub m (2 ^ d)) = 0 := by
      by_cases hr : b_sub m (2 ^ d) = 0
      · rw [hr]; exact k_behind_0
      · obtain ⟨e, he⟩ := tb_ne hr
        have he10 := tb_lt (b_sub_lt hm) he
        have hse := k_sort hk (c := (e : Int)) (by omega) (by omega)
        have hmx : ¬ k_mixed f (b_sub m (2 ^ d)) := by
          intro h
          obtain ⟨⟨p, hp1, hp2⟩, ⟨q, hq1, hq2⟩⟩ := (k_mixed_iff (b_sub_lt hm)).mp h
          exact hx ((k_mixed_iff hm).mpr ⟨⟨p, (b_sub1.mp hp1).1, hp2⟩, ⟨q, (b_sub1.mp hq1).1, hq2⟩⟩)
        rw [k_behind_uni (b_sub_lt hm) hr hmx he ⟨hsd, hse⟩, if_pos]
        apply Classical.byContradiction
        intro hn
        have he1 := (b_sub1.mp he).1
        apply hx
        rw [k_mixed_iff hm]
        by_cases hz0 : f (35 + (d : Int)) = 0
        · exact ⟨⟨d, h1, hz0⟩, ⟨e, he1, by omega⟩⟩
        · exact ⟨⟨e, he1, by omega⟩, ⟨d, h1, hz0⟩⟩
    rw [h3]
    unfold k_btw
    by_cases hcd : f (35 + c) = f (35 + (d : Int))
    · rw [if_pos hcd, if_pos hcd]; rfl
    · rw [if_neg hcd, if_neg hcd, h2]; omega
theorem kh_ge (hk : s_ok B f) {m d : Nat} (hm : m < 1024) (hd : m.testBit d = true) : k_harm f m ≤ k_behind f (d : Int) (b_sub m (2 ^ d)) := by
  have hd10 := tb_lt hm hd
  have hb2 := k_behind_in hk (c := (d : Int)) (by omega) (by omega) (b_sub m (2 ^ d))
  unfold k_harm
  by_cases hx : k_mixed f m
  · rw [if_pos hx]; exact k_mix_ge hk hm hx hd
  · rw [if_neg hx]; exact hb2.1
theorem kh_ex (hk : s_ok B f) {m : Nat} (hm : m < 1024) (hm0 : ¬ m = 0) : ∃ d, m.testBit d = true ∧ k_behind f (d : Int) (b_sub m (2 ^ d)) = k_harm f m := by
  by_cases hx : k_mixed f m
  · obtain ⟨d, h1, -, h3⟩ := k_mix_ex hk hm hx (s := 0) (Or.inl rfl)
    refine ⟨d, h1, ?_⟩
    rw [h3]
    unfold k_harm
    rw [if_pos hx]
  · obtain ⟨c, hc⟩ := tb_ne hm0
    have hc10 := tb_lt hm hc
    obtain ⟨d, h1, h2⟩ := kb_ex hk (c := (c : Int)) (by omega) (by omega) hm hm0
    have hd10 := tb_lt hm h1
    have hsc := k_sort hk (c := (c : Int)) (by omega) (by omega)
    rw [k_behind_uni hm hm0 hx hc ⟨hsc, hsc⟩, if_pos rfl] at h2
    have hb1 := k_btw_in hk (c := (c : Int)) (by omega) (by omega) (d := (d : Int)) (by omega) (by omega)
    have hb2 := k_behind_in hk (c := (d : Int)) (by omega) (by omega) (b_sub m (2 ^ d))
    refine ⟨d, h1, ?_⟩
    unfold k_harm
    rw [if_neg hx]
    omega
end KB
end P78
