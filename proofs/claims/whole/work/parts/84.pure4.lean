section M84
/-! ===== the next day that tells: unlike rows, counted ===== -/
abbrev v_V (G : Ldt) (T C : Nat) (f : Int → Int) (g k t : Nat) : Int := s_or G T C f ((g / 10 : Nat) : Int) (g % 10) k (1 + (t : Int))
abbrev v_lk (G : Ldt) (T C : Nat) (f : Int → Int) (k i j : Nat) : Prop := ∀ t : Nat, t < T → v_V G T C f i k t = v_V G T C f j k t
def c_g (P : Nat → Prop) [DecidablePred P] (lk : Nat → Nat → Prop) [∀ i j, Decidable (lk i j)] : Nat → Int
  | 0 => 0
  | i + 1 => c_g P lk i + x_B (P i ∧ ∀ j : Nat, j < i → P j → ¬ lk i j)
def c_l (L : Nat → Nat) (lk : Nat → Nat → Prop) [∀ i j, Decidable (lk i j)] : Nat → Int
  | 0 => 0
  | a + 1 => c_l L lk a + x_B (∀ b : Nat, b < a → ¬ lk (L a) (L b))
theorem c_l_s {L : Nat → Nat} {lk : Nat → Nat → Prop} [∀ i j, Decidable (lk i j)] {a : Nat} : c_l L lk (a + 1) = c_l L lk a + x_B (∀ b : Nat, b < a → ¬ lk (L a) (L b)) := rfl
theorem c_l_cg {L L' : Nat → Nat} {lk : Nat → Nat → Prop} [∀ i j, Decidable (lk i j)] : ∀ {n : Nat}, (∀ a, a < n → L a = L' a) → c_l L lk n = c_l L' lk n
  | 0, _ => rfl
  | n + 1, h => by
    rw [c_l_s, c_l_s, c_l_cg (fun a ha => h a (by omega)), x_B_congr (q := ∀ b : Nat, b < n → ¬ lk (L' n) (L' b))]
    constructor
    · intro h1 b hb; rw [← h n (by omega), ← h b (by omega)]; exact h1 b hb
    · intro h1 b hb; rw [h n (by omega), h b (by omega)]; exact h1 b hb
abbrev g_l (P : Nat → Prop) [DecidablePred P] (n : Nat) : List Nat := (List.range n).filter (fun g => decide (P g))
theorem g_l_s {P : Nat → Prop} [DecidablePred P] {n : Nat} : g_l P (n + 1) = if P n then g_l P n ++ [n] else g_l P n := by
  unfold g_l
  rw [List.range_succ, List.filter_append]
  by_cases h : P n
  · rw [if_pos h]; simp [h]
  · rw [if_neg h]; simp [h]
theorem g_l_mem {P : Nat → Prop} [DecidablePred P] {n j : Nat} : j ∈ g_l P n ↔ (j < n ∧ P j) := by
  unfold g_l
  rw [List.mem_filter, List.mem_range, decide_eq_true_iff]
theorem g_l_len {P : Nat → Prop} [DecidablePred P] {n : Nat} : (g_l P n).length ≤ n := by
  have := List.length_filter_le (fun g => decide (P g)) (List.range n)
  rwa [List.length_range] at this
theorem c_l_g {P : Nat → Prop} [DecidablePred P] {lk : Nat → Nat → Prop} [∀ i j, Decidable (lk i j)] : ∀ n : Nat, c_l (fun a => (g_l P n).getD a 0) lk (g_l P n).length = c_g P lk n
  | 0 => rfl
  | n + 1 => by
    have ih := c_l_g (P := P) (lk := lk) n
    rw [c_g]
    by_cases h : P n
    · have e : g_l P (n + 1) = g_l P n ++ [n] := by rw [g_l_s, if_pos h]
      rw [e]
      generalize hl : g_l P n = l at ih ⊢
      rw [List.length_append, List.length_singleton, c_l_s, ← ih]
      congr 1
      · exact c_l_cg (fun a ha => by simp [List.getD, List.getElem?_append_left ha])
      · refine x_B_congr ?_
        have en : (l ++ [n]).getD l.length 0 = n := by simp [List.getD]
        have hmem : ∀ j, j ∈ l ↔ (j < n ∧ P j) := fun j => by rw [← hl]; exact g_l_mem
        constructor
        · intro h1
          refine ⟨h, fun j hj hpj hlk => ?_⟩
          obtain ⟨b, hb, hbe⟩ := List.getElem_of_mem ((hmem j).mpr ⟨hj, hpj⟩)
          have := h1 b hb
          rw [en] at this
          apply this
          have e2 : (l ++ [n]).getD b 0 = j := by simp [List.getD, List.getElem?_append_left hb, List.getElem?_eq_getElem hb, hbe]
          rw [e2]
          exact hlk
        · rintro ⟨-, h1⟩ b hb
          have hm := (hmem l[b]).mp (List.getElem_mem hb)
          have e2 : (l ++ [n]).getD b 0 = l[b] := by simp [List.getD, List.getElem?_append_left hb, List.getElem?_eq_getElem hb]
          rw [en, e2]
          exact h1 l[b] hm.1 hm.2
    · have e : g_l P (n + 1) = g_l P n := by rw [g_l_s, if_neg h]
      rw [e, ih, x_B, if_neg (fun hh => h hh.1)]
      omega
theorem c_g_cg {P Q : Nat → Prop} [DecidablePred P] [DecidablePred Q] {lk : Nat → Nat → Prop} [∀ i j, Decidable (lk i j)] : ∀ {n : Nat}, (∀ i, i < n → (P i ↔ Q i)) → c_g P lk n = c_g Q lk n
  | 0, _ => rfl
  | n + 1, h => by
    rw [c_g, c_g, c_g_cg (fun i hi => h i (by omega))]
    congr 1
    refine x_B_congr ?_
    constructor
    · rintro ⟨h1, h2⟩; exact ⟨(h n (by omega)).mp h1, fun j hj hq => h2 j hj ((h j (by omega)).mpr hq)⟩
    · rintro ⟨h1, h2⟩; exact ⟨(h n (by omega)).mpr h1, fun j hj hq => h2 j hj ((h j (by omega)).mp hq)⟩
section ZN
variable {B : Int} {G : Ldt} {C T : Nat} {f : Int → Int} {S : List (Int × Int × Int)}
abbrev z_pn (G : Ldt) (T C : Nat) (f : Int → Int) (k i : Nat) : Prop := s_or G T C f ((i / 10 : Nat) : Int) (i % 10) k (1 + f (55 + ((i / 10 : Nat) : Int))) = s_days G T C f k (1 + f (55 + ((i / 10 : Nat) : Int)))
theorem z_is_pl (hk : s_ok B f) (hC : C ≤ 10) (hpl : pl_ok T C f) {i : Nat} (h : z_is T C G f S i) : i / 10 < C ∧ f (65 + ((i / 10 : Nat) : Int)) = 0 ∧ 0 ≤ f (55 + ((i / 10 : Nat) : Int)) ∧ f (55 + ((i / 10 : Nat) : Int)) < T := by
  have h1 := h.1
  have a1 := (s_cr hk (c := ((i / 10 : Nat) : Int)) (by omega) (by omega)).2.2.2.2.1
  have a2 := hpl ((i / 10 : Nat) : Int) (by omega) (by omega)
  have a3 := h.2.1.1
  have a4 := h.2.1.2
  omega
theorem v_off (hG : gO G C) (hk : s_ok B f) (hT : T ≤ 8) (hC : C ≤ 10) (hpl : pl_ok T C f) {i k t : Nat} (h : z_is T C G f S i) (ht : t < T) (hn : ¬ (t : Int) = f (55 + ((i / 10 : Nat) : Int))) : v_V G T C f i k t = s_days G T C f k (1 + (t : Int)) := by
  obtain ⟨b1, b2, b3, b4⟩ := z_is_pl hk hC hpl h
  have := z_luck_eq hG hT hC (c := i / 10) (by omega) b2 b3 b4 (o := i % 10) (k := k) ht
  unfold v_V
  rw [← this]
  unfold z_luck
  rw [if_neg hn]
theorem v_lk_iff (hG : gO G C) (hk : s_ok B f) (hT : T ≤ 8) (hC : C ≤ 10) (hpl : pl_ok T C f) {i j k : Nat} (hi : z_is T C G f S i) (hj : z_is T C G f S j) : v_lk G T C f k i j ↔ ((z_pn G T C f k i ∧ z_pn G T C f k j) ∨ (¬ z_pn G T C f k i ∧ f (55 + ((j / 10 : Nat) : Int)) = f (55 + ((i / 10 : Nat) : Int)) ∧ s_or G T C f ((j / 10 : Nat) : Int) (j % 10) k (1 + f (55 + ((j / 10 : Nat) : Int))) = s_or G T C f ((i / 10 : Nat) : Int) (i % 10) k (1 + f (55 + ((i / 10 : Nat) : Int))))) := by
  obtain ⟨a1, a2, a3, a4⟩ := z_is_pl hk hC hpl hi
  obtain ⟨b1, b2, b3, b4⟩ := z_is_pl hk hC hpl hj
  have oi := fun t ht hn => v_off hG hk hT hC hpl (k := k) (t := t) hi ht hn
  have oj := fun t ht hn => v_off hG hk hT hC hpl (k := k) (t := t) hj ht hn
  unfold z_pn
  generalize hpi : f (55 + ((i / 10 : Nat) : Int)) = pi at *
  generalize hpj : f (55 + ((j / 10 : Nat) : Int)) = pj at *
  obtain ⟨p, rfl⟩ := Int.eq_ofNat_of_zero_le a3
  obtain ⟨q, rfl⟩ := Int.eq_ofNat_of_zero_le b3
  constructor
  · intro h
    by_cases hpq : (q : Int) = p
    · have hq : q = p := by omega
      subst hq
      have hp := h q (by omega)
      by_cases hpn : s_or G T C f ((i / 10 : Nat) : Int) (i % 10) k (1 + (q : Int)) = s_days G T C f k (1 + (q : Int))
      · exact Or.inl ⟨hpn, (Eq.symm hp).trans hpn⟩
      · exact Or.inr ⟨hpn, rfl, hp.symm⟩
    · have h1 := h p (by omega)
      have h2 := h q (by omega)
      rw [oj p (by omega) (by omega)] at h1
      rw [oi q (by omega) (by omega)] at h2
      exact Or.inl ⟨h1, h2.symm⟩
  · intro h t ht
    rcases h with ⟨h1, h2⟩ | ⟨-, h2, h3⟩
    · have e1 : v_V G T C f i k t = s_days G T C f k (1 + (t : Int)) := by
        by_cases htp : (t : Int) = p
        · have : t = p := by omega
          subst this; exact h1
        · exact oi t ht htp
      have e2 : v_V G T C f j k t = s_days G T C f k (1 + (t : Int)) := by
        by_cases htp : (t : Int) = q
        · have : t = q := by omega
          subst this; exact h2
        · exact oj t ht htp
      rw [e1, e2]
    · have hq : q = p := by omega
      subst hq
      by_cases htp : (t : Int) = q
      · have : t = q := by omega
        subst this; exact h3.symm
      · rw [oi t ht htp, oj t ht htp]
theorem z_cr_at (hG : gO G C) (hk : s_ok B f) (hT : T ≤ 8) (hC : C ≤ 10) (hpl : pl_ok T C f) {i k : Nat} (hk30 : k ≤ 30) (hi : z_is T C G f S i) : z_cr T C G f ((i : Int) * 31 + k) = s_or G T C f ((i / 10 : Nat) : Int) (i % 10) k (1 + f (55 + ((i / 10 : Nat) : Int))) ∧ z_wh f ((i : Int) / 10) = f (55 + ((i / 10 : Nat) : Int)) ∧ z_pa T C G f (z_wh f ((i : Int) / 10) * 31 + k) = s_days G T C f k (1 + f (55 + ((i / 10 : Nat) : Int))) := by
  obtain ⟨a1, a2, a3, a4⟩ := z_is_pl hk hC hpl hi
  have ed : (i : Int) / 10 = ((i / 10 : Nat) : Int) := by omega
  obtain ⟨p, hp⟩ := Int.eq_ofNat_of_zero_le a3
  refine ⟨?_, ?_, ?_⟩
  · unfold z_cr
    have q1 : ((i : Int) * 31 + k) / 310 = ((i / 10 : Nat) : Int) := by omega
    have q2 : ((((i : Int) * 31 + k) / 31) % 10).toNat = i % 10 := by omega
    have q3 : (((i : Int) * 31 + k) % 31).toNat = k := by omega
    rw [q1, q2, q3]
    have := z_luck_eq hG hT hC (c := i / 10) (by omega) a2 a3 a4 (o := i % 10) (k := k) (t := p) (by omega)
    unfold z_luck at this
    rw [if_pos (by omega)] at this
    rw [← hp] at this
    exact this
  · rw [ed]; rfl
  · unfold z_pa z_wh
    rw [ed, hp]
    have q3 : (((p : Int) * 31 + k) % 31).toNat = k := by omega
    have q4 : ((p : Int) * 31 + k) / 31 = p := by omega
    rw [q3, q4]
theorem z_n_eq (hG : gO G C) (hk : s_ok B f) (hT : T ≤ 8) (hC : C ≤ 10) (hpl : pl_ok T C f) {k : Nat} (hk30 : k ≤ 30) : ∀ n : Nat, c_g (z_is T C G f S) (v_lk G T C f k) n = (u_st (z_pa T C G f) (z_cr T C G f) (z_wh f) (z_fi T C G f S) k n).1 + (u_st (z_pa T C G f) (z_cr T C G f) (z_wh f) (z_fi T C G f S) k n).2 ∧ (u_st (z_pa T C G f) (z_cr T C G f) (z_wh f) (z_fi T C G f S) k n).1 = x_B (∃ j : Nat, j < n ∧ (z_is T C G f S j ∧ z_pn G T C f k j))
  | 0 => by
    refine ⟨rfl, ?_⟩
    rw [x_B, if_neg (by rintro ⟨j, h, -⟩; omega)]
    rfl
  | n + 1 => by
    obtain ⟨ih1, ih2⟩ := z_n_eq hG hk hT hC hpl hk30 n
    have hfi : ∀ j : Nat, z_fi T C G f S j = x_B (z_is T C G f S j) := fun j => by unfold z_fi; rw [Int.toNat_natCast]
    rw [c_g, u_st_s, hfi]
    by_cases hz : z_is T C G f S n
    · obtain ⟨c1, c2, c3⟩ := z_cr_at hG hk hT hC hpl hk30 hz
      rw [show x_B (z_is T C G f S n) = 1 from if_pos hz, if_neg (by decide)]
      have hcp : (z_cr T C G f ((n : Int) * 31 + k) = z_pa T C G f (z_wh f ((n : Int) / 10) * 31 + k)) ↔ z_pn G T C f k n := by rw [c1, c3]
      by_cases hp : z_pn G T C f k n
      · rw [if_pos (hcp.mpr hp)]
        refine ⟨?_, ?_⟩
        · rw [ih1, ih2]
          by_cases hex : ∃ j : Nat, j < n ∧ (z_is T C G f S j ∧ z_pn G T C f k j)
          · rw [show x_B (∃ j : Nat, j < n ∧ (z_is T C G f S j ∧ z_pn G T C f k j)) = 1 from if_pos hex]
            rw [x_B, if_neg]
            · omega
            · rintro ⟨-, h2⟩
              obtain ⟨j, j1, j2, j3⟩ := hex
              exact h2 j j1 j2 ((v_lk_iff hG hk hT hC hpl hz j2).mpr (Or.inl ⟨hp, j3⟩))
          · rw [show x_B (∃ j : Nat, j < n ∧ (z_is T C G f S j ∧ z_pn G T C f k j)) = 0 from if_neg hex]
            rw [x_B, if_pos]
            · omega
            · refine ⟨hz, fun j hj hzj hl => ?_⟩
              rcases (v_lk_iff hG hk hT hC hpl hz hzj).mp hl with ⟨-, h2⟩ | ⟨h1, -⟩
              · exact hex ⟨j, hj, hzj, h2⟩
              · exact h1 hp
        · rw [x_B, if_pos ⟨n, by omega, hz, hp⟩]
      · rw [if_neg (fun h => hp (hcp.mp h))]
        have hnew : u_new (z_fi T C G f S) (z_wh f) (z_cr T C G f) k n ↔ (z_is T C G f S n ∧ ∀ j : Nat, j < n → z_is T C G f S j → ¬ v_lk G T C f k n j) := by
          constructor
          · intro h
            refine ⟨hz, fun j hj hzj hl => ?_⟩
            obtain ⟨d1, d2, d3⟩ := z_cr_at hG hk hT hC hpl hk30 hzj
            rcases (v_lk_iff hG hk hT hC hpl hz hzj).mp hl with ⟨h1, -⟩ | ⟨-, h2, h3⟩
            · exact hp h1
            · refine h j hj ⟨?_, by rw [d2, c2]; exact h2, by rw [d1, c1]; exact h3⟩
              rw [hfi, x_B, if_pos hzj]; decide
          · rintro ⟨-, h⟩ j hj ⟨g1, g2, g3⟩
            have hzj : z_is T C G f S j := by rw [hfi, x_B_ne0] at g1; exact g1
            obtain ⟨d1, d2, d3⟩ := z_cr_at hG hk hT hC hpl hk30 hzj
            rw [d2, c2] at g2
            rw [d1, c1] at g3
            exact h j hj hzj ((v_lk_iff hG hk hT hC hpl hz hzj).mpr (Or.inr ⟨hp, g2, g3⟩))
        have hex : (∃ j : Nat, j < n + 1 ∧ (z_is T C G f S j ∧ z_pn G T C f k j)) ↔ ∃ j : Nat, j < n ∧ (z_is T C G f S j ∧ z_pn G T C f k j) := by
          constructor
          · rintro ⟨j, j1, j2, j3⟩
            by_cases hjn : j = n
            · subst hjn; exact absurd j3 hp
            · exact ⟨j, by omega, j2, j3⟩
          · rintro ⟨j, j1, j2⟩; exact ⟨j, by omega, j2⟩
        rw [x_B_congr hex]
        by_cases hu : u_new (z_fi T C G f S) (z_wh f) (z_cr T C G f) k n
        · rw [if_pos hu, x_B, if_pos (hnew.mp hu), ih1]
          exact ⟨by show _ = (u_st _ _ _ _ _ n).1 + ((u_st _ _ _ _ _ n).2 + 1); omega, ih2⟩
        · rw [if_neg hu, x_B, if_neg (fun h => hu (hnew.mpr h)), ih1]
          exact ⟨by omega, ih2⟩
    · rw [show x_B (z_is T C G f S n) = 0 from if_neg hz, if_pos rfl, x_B, if_neg (fun h => hz h.1), ih1]
      refine ⟨by omega, ?_⟩
      rw [ih2]
      refine x_B_congr ?_
      constructor
      · rintro ⟨j, j1, j2⟩; exact ⟨j, by omega, j2⟩
      · rintro ⟨j, j1, j2⟩
        by_cases hjn : j = n
        · subst hjn; exact absurd j2.1 hz
        · exact ⟨j, by omega, j2⟩
theorem c_g_hi {P : Nat → Prop} [DecidablePred P] {lk : Nat → Nat → Prop} [∀ i j, Decidable (lk i j)] {a : Nat} (h : ∀ i, a ≤ i → ¬ P i) : ∀ b : Nat, c_g P lk (a + b) = c_g P lk a
  | 0 => rfl
  | b + 1 => by
    rw [show a + (b + 1) = (a + b) + 1 from rfl, c_g, c_g_hi h b, x_B, if_neg (fun hh => h _ (by omega) hh.1)]
    omega
theorem c_l_zn (hG : gO G C) (hk : s_ok B f) (hT : T ≤ 8) (hC : C ≤ 10) (hpl : pl_ok T C f) (hS : s_sn T S) {k : Nat} (hk30 : k ≤ 30) : c_l (fun a => (g_l (v_gs G T C f S) (10 * C)).getD a 0) (v_lk G T C f k) (g_l (v_gs G T C f S) (10 * C)).length = z_n T C G f S k := by
  rw [c_l_g, c_g_cg (Q := z_is T C G f S) (fun i hi => v_gs_iff hG hT hC hk hpl hS hi)]
  have h1 := c_g_hi (P := z_is T C G f S) (lk := v_lk G T C f k) (a := 10 * C) (fun i hi h => absurd h.1 (by omega)) (100 - 10 * C)
  rw [show 10 * C + (100 - 10 * C) = 100 by omega] at h1
  rw [← h1]
  exact (z_n_eq hG hk hT hC hpl hk30 100).1
end ZN

end M84
