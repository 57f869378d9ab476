section C999
/-! ===== the steps of an expression: their range, the height of the pile ===== -/
def hgt (cap : Int) : Int → List Int → Option Int
  | h, [] => some h
  | h, s :: L => if -6 ≤ s then (if h < cap then hgt cap (h + 1) L else none) else if s = -9 then (if 1 ≤ h then hgt cap h L else none) else (if 2 ≤ h then hgt cap (h - 1) L else none)
theorem hgt_c {cap h s : Int} {L : List Int} : hgt cap h (s :: L) = if -6 ≤ s then (if h < cap then hgt cap (h + 1) L else none) else if s = -9 then (if 1 ≤ h then hgt cap h L else none) else (if 2 ≤ h then hgt cap (h - 1) L else none) := rfl
theorem hgt_app {cap : Int} {M : List Int} : ∀ (L : List Int) (h g : Int), hgt cap h L = some g → hgt cap h (L ++ M) = hgt cap g M
  | [], h, g, e => by cases e; rfl
  | s :: L, h, g, e => by
    rw [List.cons_append, hgt_c]
    rw [hgt_c] at e
    by_cases h1 : -6 ≤ s
    · rw [if_pos h1] at e ⊢
      by_cases h2 : h < cap
      · rw [if_pos h2] at e ⊢; exact hgt_app L _ g e
      · rw [if_neg h2] at e; cases e
    · rw [if_neg h1] at e ⊢
      by_cases h3 : s = -9
      · rw [if_pos h3] at e ⊢
        by_cases h2 : 1 ≤ h
        · rw [if_pos h2] at e ⊢; exact hgt_app L _ g e
        · rw [if_neg h2] at e; cases e
      · rw [if_neg h3] at e ⊢
        by_cases h2 : 2 ≤ h
        · rw [if_pos h2] at e ⊢; exact hgt_app L _ g e
        · rw [if_neg h2] at e; cases e
def sg (k : Nat) (L : List Int) : Prop := ∀ h cap : Int, 0 ≤ h → h + k ≤ cap → hgt cap h L = some (h + 1)
theorem sg_le {k m : Nat} {L : List Int} (hk : k ≤ m) (h : sg k L) : sg m L := fun a c h0 h1 => h a c h0 (by omega)
theorem sg_atom {s : Int} (hs : -6 ≤ s) : sg 1 [s] := by
  intro h cap h0 h1
  rw [hgt_c, if_pos hs, if_pos (by omega)]
  rfl
theorem sg_bin {k m : Nat} {L M : List Int} {s : Int} (h1 : sg k L) (h2 : sg m M) (hk : m + 1 ≤ k) (hs : s < -6) (hs2 : ¬ s = -9) : sg k (L ++ M ++ [s]) := by
  intro h cap h0 hc
  rw [List.append_assoc, hgt_app L h _ (h1 h cap h0 hc), hgt_app M (h + 1) _ (h2 (h + 1) cap (by omega) (by omega)), hgt_c, if_neg (by omega), if_neg hs2, if_pos (by omega)]
  show some (h + 1 + 1 - 1) = _
  congr 1
  omega
theorem sg_not {k : Nat} {L : List Int} (h1 : sg k L) : ∀ i : Nat, sg k (L ++ List.replicate i (-9))
  | 0 => by rw [List.replicate_zero, List.append_nil]; exact h1
  | i + 1 => by
    intro h cap h0 hc
    rw [List.replicate_succ', ← List.append_assoc, hgt_app _ h _ (sg_not h1 i h cap h0 hc), hgt_c, if_neg (by decide), if_pos rfl, if_pos (by omega)]
    rfl
abbrev s_in2 (s : Int) : Prop := -15 ≤ s ∧ s < 100000
def r_sg (k : Nat) (f : Nat → Rs (List Int)) : Prop := ∀ q L q', f q = .inr (L, q') → (∀ s ∈ L, s_in2 s) ∧ sg k L
theorem sin_bin {L M : List Int} {s : Int} (h1 : ∀ s ∈ L, s_in2 s) (h2 : ∀ s ∈ M, s_in2 s) (h3 : s_in2 s) : ∀ x ∈ L ++ M ++ [s], s_in2 x := by
  intro x hx
  rw [List.mem_append, List.mem_append, List.mem_singleton] at hx
  rcases hx with (hx | hx) | hx
  · exact h1 x hx
  · exact h2 x hx
  · subst hx; exact h3
theorem r_lp_sg {m : Nat} {op : Nat → Prop} [DecidablePred op] {st : Nat → Int} {nx : Nat → Nat} {sub : Nat → Rs (List Int)} (hs : r_sg m sub) (hst : ∀ q, s_in2 (st q) ∧ st q < -6 ∧ ¬ st q = -9) : ∀ (k : Nat) (L : List Int) (q : Nat) (L' : List Int) (q' : Nat), (∀ s ∈ L, s_in2 s) → sg (m + 1) L → r_lp op st nx sub k L q = .inr (L', q') → (∀ s ∈ L', s_in2 s) ∧ sg (m + 1) L'
  | 0, L, q, L', q', a1, a2, h => by cases h; exact ⟨a1, a2⟩
  | k + 1, L, q, L', q', a1, a2, h => by
    rw [r_lp_s] at h
    by_cases ho : op q
    · rw [if_pos ho] at h
      obtain ⟨y, y1, y2⟩ := r_bd_inr h
      obtain ⟨b1, b2⟩ := hs _ y.1 y.2 y1
      obtain ⟨c1, c2, c3⟩ := hst q
      exact r_lp_sg hs hst k _ _ L' q' (sin_bin a1 b1 c1) (sg_bin a2 b2 (Nat.le_refl _) c2 c3) y2
    · rw [if_neg ho] at h
      cases h
      exact ⟨a1, a2⟩
theorem r_vs_2 {b : Int → Int} {n q : Nat} : r_vs b n q = -16 ∨ (-6 ≤ r_vs b n q ∧ r_vs b n q ≤ -1) := by
  unfold r_vs
  repeat' split
  all_goals omega
theorem sg_1 {m : Nat} {s : Int} (hm : 1 ≤ m) (h : -6 ≤ s ∧ s < 100000) : (∀ x ∈ [s], s_in2 x) ∧ sg m [s] := ⟨fun x hx => by rw [List.mem_singleton] at hx; subst hx; unfold s_in2; omega, sg_le hm (sg_atom h.1)⟩
theorem sg_prt {b : Int → Int} {n m : Nat} {ex : Nat → Rs (List Int)} (hm : 1 ≤ m) (he : r_sg m ex) : r_sg m (r_prt b n ex) := by
  intro q L q' h
  unfold r_prt at h
  by_cases h1 : tM b n q 40
  · rw [if_pos h1] at h
    obtain ⟨y, y1, y2⟩ := r_bd_inr h
    by_cases h2 : tM b n y.2 41
    · rw [if_pos h2] at y2
      cases y2
      exact he _ y.1 y.2 y1
    · rw [if_neg h2] at y2; cases y2
  · rw [if_neg h1] at h
    by_cases h2 : ¬ tK b n q = 3 ∧ ¬ tK b n q = 2
    · rw [if_pos h2] at h; cases h
    · rw [if_neg h2] at h
      by_cases h3 : tK b n q = 3 ∧ tL b n q
      · rw [if_pos h3] at h; cases h
      · rw [if_neg h3] at h
        by_cases h4 : tK b n q = 3
        · rw [if_pos h4] at h
          cases h
          exact sg_1 hm (by have := tV_in h4; omega)
        · rw [if_neg h4] at h
          by_cases h5 : r_vs b n q = -16
          · rw [if_pos h5] at h; cases h
          · rw [if_neg h5] at h
            cases h
            exact sg_1 hm (by have := r_vs_2 (b := b) (n := n) (q := q); omega)
theorem sg_lps {m : Nat} {op : Nat → Prop} [DecidablePred op] {st : Nat → Int} {nx : Nat → Nat} {sub : Nat → Rs (List Int)} {k : Nat} (hs : r_sg m sub) (hst : ∀ q, s_in2 (st q) ∧ st q < -6 ∧ ¬ st q = -9) : r_sg (m + 1) (fun q => r_bd (sub q) (fun L q1 => r_lp op st nx sub k L q1)) := by
  intro q L q' h
  obtain ⟨y, y1, y2⟩ := r_bd_inr h
  obtain ⟨b1, b2⟩ := hs _ y.1 y.2 y1
  exact r_lp_sg hs hst k _ _ L q' b1 (sg_le (by omega) b2) y2
theorem st_2 {p : Prop} [Decidable p] {x y : Int} (hx : s_in2 x ∧ x < -6 ∧ ¬ x = -9) (hy : s_in2 y ∧ y < -6 ∧ ¬ y = -9) : s_in2 (if p then x else y) ∧ (if p then x else y) < -6 ∧ ¬ (if p then x else y) = -9 := by
  by_cases h : p
  · rw [if_pos h]; exact hx
  · rw [if_neg h]; exact hy
theorem sg_prd {b : Int → Int} {n m : Nat} {ex : Nat → Rs (List Int)} (hm : 1 ≤ m) (he : r_sg m ex) : r_sg (m + 1) (r_prd b n ex) := sg_lps (sg_prt hm he) (fun _ => st_2 (by decide) (by decide))
theorem sg_sum {b : Int → Int} {n m : Nat} {ex : Nat → Rs (List Int)} (hm : 1 ≤ m) (he : r_sg m ex) : r_sg (m + 2) (r_sum b n ex) := sg_lps (sg_prd hm he) (fun _ => st_2 (by decide) (by decide))
theorem sg_tst {b : Int → Int} {n m : Nat} {ex : Nat → Rs (List Int)} (hm : 1 ≤ m) (he : r_sg m ex) : r_sg (m + 3) (r_tst b n ex) := by
  intro q L q' h
  unfold r_tst at h
  obtain ⟨y, y1, y2⟩ := r_bd_inr h
  obtain ⟨b1, b2⟩ := sg_sum hm he _ y.1 y.2 y1
  by_cases hc : ¬ tM b n y.2 60 ∧ ¬ tM b n y.2 61
  · rw [if_pos hc] at y2; cases y2
    exact ⟨b1, sg_le (by omega) b2⟩
  · rw [if_neg hc] at y2
    obtain ⟨x, x1, x2⟩ := r_bd_inr y2
    obtain ⟨c1, c2⟩ := sg_sum hm he _ x.1 x.2 x1
    have hst := st_2 (p := tM b n y.2 60) (x := -10) (y := -11) (by decide) (by decide)
    cases x2
    exact ⟨sin_bin b1 c1 hst.1, sg_bin (sg_le (by omega) b2) c2 (by omega) hst.2.1 hst.2.2⟩
theorem sg_nt {b : Int → Int} {n m : Nat} {ex : Nat → Rs (List Int)} (hm : 1 ≤ m) (he : r_sg m ex) : r_sg (m + 3) (r_not b n ex) := by
  intro q L q' h
  unfold r_not at h
  by_cases hc : (r_nc b n 6 q).1 = 6 ∧ tW b n (r_nc b n 6 q).2 7
  · rw [if_pos hc] at h; cases h
  · rw [if_neg hc] at h
    obtain ⟨y, y1, y2⟩ := r_bd_inr h
    obtain ⟨b1, b2⟩ := sg_tst hm he _ y.1 y.2 y1
    cases y2
    refine ⟨fun s hs => ?_, sg_not b2 _⟩
    rw [List.mem_append, List.mem_replicate] at hs
    rcases hs with hs | hs
    · exact b1 s hs
    · rw [hs.2]; decide
theorem sg_and {b : Int → Int} {n m : Nat} {ex : Nat → Rs (List Int)} (hm : 1 ≤ m) (he : r_sg m ex) : r_sg (m + 4) (r_and b n ex) := sg_lps (sg_nt hm he) (fun _ => by decide)
theorem sg_exp {b : Int → Int} {n : Nat} : ∀ d : Nat, r_sg (5 * d + 1) (r_exp b n d)
  | 0 => fun q L q' h => by cases h
  | d + 1 => by
    have h := sg_lps (op := fun q => tW b n q 15) (st := fun _ => -7) (nx := tE b n) (k := 700) (sg_and (b := b) (n := n) (by omega) (sg_exp (b := b) (n := n) d)) (fun _ => by decide)
    exact h
theorem wf_go {ss : Int → Int} : ∀ (L : List Int) (p : Nat) (h g : Int), hgt 40 h L = some g → (∀ i : Nat, i < L.length → ss ((p + i : Nat) : Int) = L.getD i 0) → o_len ss p = h → (∀ i : Nat, p ≤ i → i < p + L.length → (-6 ≤ ss i → o_len ss i < 40) ∧ (ss i = -9 → 1 ≤ o_len ss i) ∧ (ss i < -6 → ¬ ss i = -9 → 2 ≤ o_len ss i)) ∧ o_len ss (p + L.length) = g
  | [], p, h, g, e, hs, ho => by
    cases e
    exact ⟨fun i h1 h2 => absurd h2 (by simp; omega), ho⟩
  | s :: L, p, h, g, e, hs, ho => by
    have h0 : ss (p : Nat) = s := by have := hs 0 (by simp); simpa using this
    have ht : ∀ i : Nat, i < L.length → ss ((p + 1 + i : Nat) : Int) = L.getD i 0 := by
      intro i hi
      have := hs (i + 1) (by simp; omega)
      rw [show p + 1 + i = p + (i + 1) by omega, this]
      rfl
    have hl : o_len ss (p + 1) = o_len ss p + (if -6 ≤ ss p then 1 else if ss p = -9 then 0 else -1) := rfl
    rw [h0, ho] at hl
    rw [hgt_c] at e
    have key : ∀ g1 : Int, hgt 40 g1 L = some g → o_len ss (p + 1) = g1 → ((-6 ≤ ss p → o_len ss p < 40) ∧ (ss p = -9 → 1 ≤ o_len ss p) ∧ (ss p < -6 → ¬ ss p = -9 → 2 ≤ o_len ss p)) → (∀ i : Nat, p ≤ i → i < p + (s :: L).length → (-6 ≤ ss i → o_len ss i < 40) ∧ (ss i = -9 → 1 ≤ o_len ss i) ∧ (ss i < -6 → ¬ ss i = -9 → 2 ≤ o_len ss i)) ∧ o_len ss (p + (s :: L).length) = g := by
      intro g1 e1 e2 hp
      obtain ⟨u1, u2⟩ := wf_go L (p + 1) g1 g e1 ht e2
      refine ⟨fun i a1 a2 => ?_, ?_⟩
      · by_cases hi : i = p
        · subst hi; exact hp
        · exact u1 i (by omega) (by rw [List.length_cons] at a2; omega)
      · rw [List.length_cons, show p + (L.length + 1) = p + 1 + L.length by omega]; exact u2
    by_cases h1 : -6 ≤ s
    · rw [if_pos h1] at e hl
      by_cases h2 : h < 40
      · rw [if_pos h2] at e
        exact key _ e hl (by rw [h0, ho]; omega)
      · rw [if_neg h2] at e; cases e
    · rw [if_neg h1] at e hl
      by_cases h3 : s = -9
      · rw [if_pos h3] at e hl
        by_cases h2 : 1 ≤ h
        · rw [if_pos h2] at e
          exact key _ e (by omega) (by rw [h0, ho]; omega)
        · rw [if_neg h2] at e; cases e
      · rw [if_neg h3] at e hl
        by_cases h2 : 2 ≤ h
        · rw [if_pos h2] at e
          exact key _ e (by omega) (by rw [h0, ho]; omega)
        · rw [if_neg h2] at e; cases e
theorem wf_of {ss : Int → Int} {L : List Int} {k : Nat} (hk : k ≤ 40) (h : sg k L) (hs : ∀ i : Nat, i < L.length → ss (i : Nat) = L.getD i 0) : wf ss L.length := by
  obtain ⟨u1, u2⟩ := wf_go L 0 0 1 (h 0 40 (by decide) (by omega)) (fun i hi => by rw [Nat.zero_add]; exact hs i hi) rfl
  rw [Nat.zero_add] at u2
  exact ⟨fun i hi => u1 i (Nat.zero_le _) (by omega), u2⟩
/-- the rule told is an expression read -/
def so (b : Int → Int) (n : Nat) (S : Tx) : Prop := ∀ L, S.2 = some L → ∃ q q', q ≤ n ∧ r_exp b n 6 q = .inr (L, q')
theorem so_ln1 {b : Int → Int} {n lb q q2 : Nat} {S S2 : Tx} (hq : q ≤ n) (hv : so b n S) (h : r_ln1 b n lb S q = .inr (S2, q2)) : so b n S2 := by
  unfold r_ln1 at h
  by_cases h1 : tW b n q 1
  · rw [if_pos h1] at h
    obtain ⟨y, y1, y2⟩ := r_bd_inr h
    cases y2
    exact hv
  rw [if_neg h1] at h
  by_cases h2 : tW b n q 2
  · rw [if_pos h2] at h
    obtain ⟨y, y1, y2⟩ := r_bd_inr h
    cases y2
    exact hv
  rw [if_neg h2] at h
  by_cases h3 : tW b n q 3 ∨ tW b n q 4
  · rw [if_pos h3] at h
    obtain ⟨y, y1, y2⟩ := r_bd_inr h
    cases y2
    exact hv
  rw [if_neg h3] at h
  by_cases h6 : tW b n q 6
  · rw [if_pos h6] at h
    unfold r_ods at h
    by_cases ht : S.2.isSome = true
    · rw [if_pos ht] at h; cases h
    · rw [if_neg ht] at h
      obtain ⟨y, y1, y2⟩ := r_bd_inr h
      cases y2
      intro L hL
      cases hL
      exact ⟨_, _, (tE_in hq).2.2, y1⟩
  · rw [if_neg h6] at h; cases h
theorem so_get {b : Int → Int} {n : Nat} {S : Tx} (h : so b n S) : ∀ s ∈ S.2.getD [], s_in2 s := by
  intro s hs
  cases hh : S.2 with
  | none => rw [hh] at hs; cases hs
  | some L =>
    rw [hh] at hs
    obtain ⟨q, q', -, h1⟩ := h L hh
    exact (sg_exp 6 q L q' h1).1 s hs

end C999
