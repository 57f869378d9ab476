section M87
/-! ===== the ways: the class's answers and the Model's ===== -/
def wy_ok (W T : Nat) (one two span : Int → Int) : Prop := ∀ w : Nat, w < W → (0 ≤ one w ∧ one w < T) ∧ (0 ≤ two w ∧ two w < T) ∧ ¬ one w = two w ∧ 1 ≤ span w ∧ ∀ v : Nat, v < W → ((one v = one w ∧ two v = two w) ∨ (one v = two w ∧ two v = one w)) → v = w
theorem e_oth_iff {one two : Int → Int} {w i j : Int} (hj : 0 ≤ j) (h : ¬ one w = two w) : e_oth one two w i = j ↔ ((one w = i ∧ two w = j) ∨ (two w = i ∧ one w = j)) := by
  unfold e_oth
  by_cases h1 : one w = i
  · rw [if_pos h1]
    constructor
    · intro h2; exact Or.inl ⟨h1, h2⟩
    · rintro (⟨-, h2⟩ | ⟨h2, h3⟩)
      · exact h2
      · omega
  · rw [if_neg h1]
    by_cases h2 : two w = i
    · rw [if_pos h2]
      constructor
      · intro h3; exact Or.inr ⟨h2, h3⟩
      · rintro (⟨h3, -⟩ | ⟨-, h3⟩)
        · exact absurd h3 h1
        · exact h3
    · rw [if_neg h2]
      constructor
      · intro h3; omega
      · rintro (⟨h3, -⟩ | ⟨h3, -⟩)
        · exact absurd h3 h1
        · exact absurd h3 h2
section WY
variable {W T : Nat} {one two span : Int → Int}
theorem wb_at (h : wy_ok W T one two span) (hT : T ≤ 8) {F but : Int} {v : Int → Int} : ∀ n : Nat, n ≤ W → ∀ i j : Nat, i < 8 → j < 8 → ¬ i = j → (∃ w : Nat, w < n ∧ ¬ (w : Int) = but ∧ e_oth one two w i = j ∧ m_wb F one two v but n ((i : Int) * 8 + j) = v w) ∨ ((∀ w : Nat, w < n → ¬ (w : Int) = but → ¬ e_oth one two w i = j) ∧ m_wb F one two v but n ((i : Int) * 8 + j) = F)
  | 0, _, i, j, hi, hj, hij => Or.inr ⟨fun w hw => absurd hw (by omega), by
    show m_ini F _ = F
    unfold m_ini
    rw [if_neg (by omega)]⟩
  | n + 1, hn, i, j, hi, hj, hij => by
    obtain ⟨⟨a0, a1⟩, ⟨b0, b1⟩, hne, -, -⟩ := h n (by omega)
    have ho := e_oth_iff (one := one) (two := two) (w := (n : Int)) (i := (i : Int)) (j := (j : Int)) (by omega) hne
    have ih := wb_at h hT (F := F) (but := but) (v := v) n (by omega) i j hi hj hij
    rw [m_wb_s]
    by_cases hb : (n : Int) = but
    · rw [if_pos hb]
      rcases ih with ⟨w, w1, w2, w3, w4⟩ | ⟨h1, h2⟩
      · exact Or.inl ⟨w, by omega, w2, w3, w4⟩
      · refine Or.inr ⟨fun w hw hwb => ?_, h2⟩
        exact h1 w (by omega) hwb
    · rw [if_neg hb]
      by_cases hc : (one n = i ∧ two n = j) ∨ (two n = i ∧ one n = j)
      · refine Or.inl ⟨n, by omega, hb, ho.mpr hc, ?_⟩
        unfold m_set x_u1
        by_cases h2 : (i : Int) * 8 + j = two n * 8 + one n
        · rw [if_pos h2]
        · rw [if_neg h2, if_pos (by omega)]
      · have e : m_set one two (v n) (m_wb F one two v but n) n ((i : Int) * 8 + j) = m_wb F one two v but n ((i : Int) * 8 + j) := by
          unfold m_set
          rw [x_u1_n (by omega), x_u1_n (by omega)]
        rw [e]
        rcases ih with ⟨w, w1, w2, w3, w4⟩ | ⟨h1, h2⟩
        · exact Or.inl ⟨w, by omega, w2, w3, w4⟩
        · refine Or.inr ⟨fun w hw hwb ho2 => ?_, h2⟩
          by_cases hwn : w = n
          · subst hwn; exact hc (ho.mp ho2)
          · exact h1 w (by omega) hwb ho2
theorem wb_dg (h : wy_ok W T one two span) (hT : T ≤ 8) {F but : Int} {v : Int → Int} {i : Nat} (hi : i < 8) : ∀ n : Nat, n ≤ W → m_wb F one two v but n ((i : Int) * 8 + i) = 0
  | 0, _ => by
    show m_ini F _ = 0
    unfold m_ini
    rw [if_pos (by omega)]
  | n + 1, hn => by
    obtain ⟨⟨a0, a1⟩, ⟨b0, b1⟩, hne, -, -⟩ := h n (by omega)
    have ih := wb_dg h hT (F := F) (but := but) (v := v) hi n (by omega)
    rw [m_wb_s]
    split
    · exact ih
    · unfold m_set
      rw [x_u1_n (by omega), x_u1_n (by omega)]
      exact ih
theorem f_M_nn (hs : ∀ j, 0 ≤ span j ∧ span j ≤ 9) {but : Int} : ∀ x, 0 ≤ m_wb 99999 one two span but W x := fun x => (m_ok_wb (F := 99999) (by decide) (fun j => by have := hs j; omega) W x).1
theorem f_M_fin (hT : T ≤ 8) (hs : ∀ j, 0 ≤ span j ∧ span j ≤ 9) {but : Int} {i j : Nat} (hi : i < T) (hj : j < T) (hf : f_M one two span but W T ((i : Int) * 8 + j) < 99999) : f_M one two span but W T ((i : Int) * 8 + j) ≤ 2304 := by
  have ho := m_ok_wb (F := 99999) (by decide) (one := one) (two := two) (but := but) (v := span) (fun j => by have := hs j; omega) W
  have h := m_m_two (T := T) ho ho hT (B := 9) (by decide) (by decide) (by decide) (fun i j _ _ => m_wb_two hs W _) T (Nat.le_refl _) i j hi hj
  have hle : (9 : Int) * 2 ^ T ≤ 2304 := by
    have h2 : 2 ^ T ≤ 2 ^ 8 := Nat.pow_le_pow_right (by decide) hT
    have h3 : (2 : Int) ^ T ≤ 2 ^ 8 := by exact_mod_cast h2
    have h4 : (2 : Int) ^ 8 = 256 := by decide
    omega
  rcases h with ⟨h1, h2⟩ | ⟨h1, h2⟩
  · exact Int.le_trans h2 hle
  · exfalso
    have h3 : f_M one two span but W T ((i : Int) * 8 + j) = 99999 := h1
    omega
theorem f_M_tri (hT : T ≤ 8) (hs : ∀ j, 0 ≤ span j ∧ span j ≤ 9) {but : Int} {i s j : Nat} (hi : i < T) (hs2 : s < T) (hj : j < T) : f_M one two span but W T ((i : Int) * 8 + j) ≤ f_M one two span but W T ((i : Int) * 8 + s) + f_M one two span but W T ((s : Int) * 8 + j) := m_m_tri (f_M_nn hs) hT T (Nat.le_refl _) s hs2 i j hi hj
theorem f_M_0 (h : wy_ok W T one two span) (hT : T ≤ 8) (hs : ∀ j, 0 ≤ span j ∧ span j ≤ 9) {but : Int} {i : Nat} (hi : i < T) : f_M one two span but W T ((i : Int) * 8 + i) = 0 := m_m_0 (f_M_nn hs) hT (Nat.le_refl _) hi (wb_dg h hT (by omega) W (Nat.le_refl _))
theorem f_M_edge (h : wy_ok W T one two span) (hT : T ≤ 8) (hs : ∀ j, 0 ≤ span j ∧ span j ≤ 9) {but : Int} {i j : Nat} (hi : i < T) (hj : j < T) (hij : i ≠ j) (hf : f_M one two span but W T ((i : Int) * 8 + j) < 99999) : ∃ s w : Nat, s < T ∧ s ≠ i ∧ w < W ∧ ¬ (w : Int) = but ∧ e_oth one two w i = s ∧ span w + f_M one two span but W T ((s : Int) * 8 + j) = f_M one two span but W T ((i : Int) * 8 + j) := by
  obtain ⟨s, s1, s2, s3, s4⟩ := m_m_edge (F := 99999) (f_M_nn hs) hT (fun i hi => wb_dg h hT (by omega) W (Nat.le_refl _)) T (Nat.le_refl _) i j hi hj hij hf
  rcases wb_at h hT (F := 99999) (but := but) (v := span) W (Nat.le_refl _) i s (by omega) (by omega) (fun hh => s2 hh.symm) with ⟨w, w1, w2, w3, w4⟩ | ⟨-, h2⟩
  · refine ⟨s, w, s1, s2, w1, w2, w3, ?_⟩
    have t1 := f_M_tri (W := W) (one := one) (two := two) (but := but) hT hs hi s1 hj
    have t2 := m_m_le (f_M_nn (W := W) (one := one) (two := two) (but := but) hs) hT T (Nat.le_refl _) i s hi s1
    have t2' : f_M one two span but W T ((i : Int) * 8 + s) ≤ m_wb 99999 one two span but W ((i : Int) * 8 + s) := t2
    have s4' : m_wb 99999 one two span but W ((i : Int) * 8 + s) + f_M one two span but W T ((s : Int) * 8 + j) ≤ f_M one two span but W T ((i : Int) * 8 + j) := s4
    omega
  · omega
theorem f_M_way (h : wy_ok W T one two span) (hT : T ≤ 8) (hs : ∀ j, 0 ≤ span j ∧ span j ≤ 9) {but : Int} {i j w : Nat} (hi : i < T) (hj : j < T) (hij : i ≠ j) (hw : w < W) (hb : ¬ (w : Int) = but) (ho : e_oth one two w i = j) : f_M one two span but W T ((i : Int) * 8 + j) ≤ 9 := by
  have t2 := m_m_le (f_M_nn (W := W) (one := one) (two := two) (but := but) hs) hT T (Nat.le_refl _) i j hi hj
  have t2' : f_M one two span but W T ((i : Int) * 8 + j) ≤ m_wb 99999 one two span but W ((i : Int) * 8 + j) := t2
  rcases wb_at h hT (F := 99999) (but := but) (v := span) W (Nat.le_refl _) i j (by omega) (by omega) hij with ⟨w, w1, w2, w3, w4⟩ | ⟨h1, -⟩
  · have := hs w
    omega
  · exact absurd ho (h1 w hw hb)
/-- how many are nearer -/
def cn (p : Nat → Prop) [DecidablePred p] : Nat → Nat
  | 0 => 0
  | n + 1 => cn p n + (if p n then 1 else 0)
theorem cn_le {p q : Nat → Prop} [DecidablePred p] [DecidablePred q] : ∀ {n : Nat}, (∀ t, t < n → p t → q t) → cn p n ≤ cn q n
  | 0, _ => Nat.le_refl _
  | n + 1, h => by
    have ih := cn_le (p := p) (q := q) (n := n) (fun t ht => h t (by omega))
    have h1 := h n (by omega)
    unfold cn
    by_cases hp : p n
    · rw [if_pos hp, if_pos (h1 hp)]; omega
    · rw [if_neg hp]; omega
theorem cn_lt {p q : Nat → Prop} [DecidablePred p] [DecidablePred q] : ∀ {n : Nat}, (∀ t, t < n → p t → q t) → (∃ t, t < n ∧ q t ∧ ¬ p t) → cn p n < cn q n
  | 0, _, ⟨t, ht, _⟩ => absurd ht (by omega)
  | n + 1, h, ⟨t, ht, hq, hp⟩ => by
    have hle := cn_le (p := p) (q := q) (n := n) (fun t ht => h t (by omega))
    have h1 := h n (by omega)
    unfold cn
    by_cases htn : t = n
    · subst htn
      rw [if_neg hp, if_pos hq]; omega
    · have ih := cn_lt (p := p) (q := q) (n := n) (fun t ht => h t (by omega)) ⟨t, by omega, hq, hp⟩
      by_cases hpn : p n
      · rw [if_pos hpn, if_pos (h1 hpn)]; omega
      · rw [if_neg hpn]; omega
theorem cn_tt : ∀ n : Nat, cn (fun _ => True) n = n
  | 0 => rfl
  | n + 1 => by unfold cn; rw [cn_tt n]; simp
abbrev rk (M : Int → Int) (T b a : Nat) : Nat := cn (fun t => M ((t : Int) * 8 + b) < M ((a : Int) * 8 + b)) T
theorem rk_lt {M : Int → Int} {T b a : Nat} (ha : a < T) : rk M T b a < T := by
  have := cn_lt (p := fun t => M ((t : Int) * 8 + b) < M ((a : Int) * 8 + b)) (q := fun _ => True) (n := T) (fun _ _ _ => trivial) ⟨a, ha, trivial, Int.lt_irrefl _⟩
  rwa [cn_tt] at this
theorem rk_dn {M : Int → Int} {T b a s : Nat} (hs : s < T) (h : M ((s : Int) * 8 + b) < M ((a : Int) * 8 + b)) : rk M T b s < rk M T b a := cn_lt (fun t _ ht => Int.lt_trans ht h) ⟨s, hs, h, Int.lt_irrefl _⟩
theorem x_first_cg {p q : Nat → Prop} [DecidablePred p] [DecidablePred q] {n : Nat} (h : ∀ t, t < n → (p t ↔ q t)) : x_first p n = x_first q n := by
  rcases x_first_cases p n with ⟨h1, h2⟩ | ⟨i, h1, h2, h3, h4⟩
  · rcases x_first_cases q n with ⟨g1, g2⟩ | ⟨j, g1, g2, g3, g4⟩
    · rw [h1, g1]
    · exact absurd ((h j g1).mpr g3) (h2 j g1)
  · rcases x_first_cases q n with ⟨g1, g2⟩ | ⟨j, g1, g2, g3, g4⟩
    · exact absurd ((h i h1).mp h3) (g2 i h1)
    · rw [h2, g2]
      have a1 : ¬ j < i := fun hh => h4 j hh ((h j g1).mpr g3)
      have a2 : ¬ i < j := fun hh => g4 i hh ((h i h1).mp h3)
      omega
theorem x_next_in (h : wy_ok W T one two span) (hT : T ≤ 8) (hs : ∀ j, 0 ≤ span j ∧ span j ≤ 9) {s b : Nat} (hs1 : s < T) (hb1 : b < T) (hsb : ¬ s = b) (hf : f_M one two span (-1) W T ((s : Int) * 8 + b) < 99999) : ∃ t : Nat, t < T ∧ x_next one two span (f_M one two span (-1) W T) W T s b = t ∧ f_M one two span (-1) W T ((t : Int) * 8 + b) < f_M one two span (-1) W T ((s : Int) * 8 + b) := by
  rcases x_first_cases (fun t => ¬ (t : Int) = (s : Int) ∧ ∃ w : Nat, w < W ∧ (e_oth one two w (s : Int) = (t : Int) ∧ span w + f_M one two span (-1) W T ((t : Int) * 8 + b) = f_M one two span (-1) W T ((s : Int) * 8 + b))) T with ⟨h1, h2⟩ | ⟨i, h1, h2, h3, h4⟩
  · exfalso
    obtain ⟨t, w, t1, t2, w1, w2, w3, w4⟩ := f_M_edge h hT hs hs1 hb1 hsb hf
    exact h2 t t1 ⟨by omega, w, w1, w3, w4⟩
  · refine ⟨i, h1, h2, ?_⟩
    obtain ⟨-, w, w1, w2, w3⟩ := h3
    have := (h w w1).2.2.2.1
    omega
theorem x_next_st (h : wy_ok W T one two span) (hT : T ≤ 8) (hs : ∀ j, 0 ≤ span j ∧ span j ≤ 9) : ∀ s b : Int, 0 ≤ s → s < T → 0 ≤ b → b < T → ¬ s = b → (f_M one two span (-1) W T) (s * 8 + b) < 99999 → (0 ≤ x_next one two span (f_M one two span (-1) W T) W T s b ∧ x_next one two span (f_M one two span (-1) W T) W T s b < T) ∧ (f_M one two span (-1) W T) (x_next one two span (f_M one two span (-1) W T) W T s b * 8 + b) < 99999 := by
  intro s b s0 s1 b0 b1 hsb hf
  obtain ⟨i, rfl⟩ := Int.eq_ofNat_of_zero_le s0
  obtain ⟨j, rfl⟩ := Int.eq_ofNat_of_zero_le b0
  obtain ⟨t, t1, t2, t3⟩ := x_next_in h hT hs (s := i) (b := j) (by omega) (by omega) (by omega) hf
  rw [t2]
  exact ⟨⟨by omega, by omega⟩, Int.lt_trans t3 hf⟩
theorem e_step_x (h : wy_ok W T one two span) (hT : T ≤ 8) (hs : ∀ j, 0 ≤ span j ∧ span j ≤ 9) {a b : Nat} (ha : a < T) (hb : b < T) (hab : ¬ a = b) (hf : f_M one two span (-1) W T ((a : Int) * 8 + b) < 99999) : e_step one two span (m_fw 1000000 one two span W T) W T a b = x_next one two span (f_M one two span (-1) W T) W T a b := by
  unfold e_step x_next
  rw [if_neg (by omega)]
  refine x_first_cg (fun t ht => ?_)
  have r1 := m_fw_M (W := W) (T := T) (one := one) (two := two) (v := span) hT (fun j => by have := hs j; omega) (a := (a : Int)) (b := (b : Int)) (by omega) (by omega) (by omega) (by omega)
  have r2 := m_fw_M (W := W) (T := T) (one := one) (two := two) (v := span) hT (fun j => by have := hs j; omega) (a := (t : Int)) (b := (b : Int)) (by omega) (by omega) (by omega) (by omega)
  have key : ∀ w : Nat, (span w + m_fw 1000000 one two span W T ((t : Int) * 8 + b) = m_fw 1000000 one two span W T ((a : Int) * 8 + b) ↔ span w + f_M one two span (-1) W T ((t : Int) * 8 + b) = f_M one two span (-1) W T ((a : Int) * 8 + b)) := by
    intro w
    have := hs w
    unfold f_rl at r1 r2
    generalize f_M one two span (-1) W T ((t : Int) * 8 + b) = y2 at *
    generalize f_M one two span (-1) W T ((a : Int) * 8 + b) = y1 at *
    constructor <;> intro hh <;> omega
  unfold e_btw
  rcases x_first_cases (fun w => e_oth one two w (a : Int) = (t : Int)) W with ⟨h1, h2⟩ | ⟨w, h1, h2, h3, h4⟩
  · rw [h1]
    constructor
    · rintro ⟨hh, -⟩; exact absurd rfl hh
    · rintro ⟨-, w, w1, w2, -⟩; exact absurd w2 (h2 w w1)
  · rw [h2]
    obtain ⟨⟨a0, a1⟩, ⟨b0, b1⟩, hne, hsp, huq⟩ := h w h1
    have o1 := (e_oth_iff (one := one) (two := two) (w := (w : Int)) (i := (a : Int)) (j := (t : Int)) (by omega) hne).mp h3
    constructor
    · rintro ⟨-, hh⟩
      exact ⟨by omega, w, h1, h3, (key w).mp hh⟩
    · rintro ⟨-, v, v1, v2, v3⟩
      have o2 := (e_oth_iff (one := one) (two := two) (w := (v : Int)) (i := (a : Int)) (j := (t : Int)) (by omega) (h v v1).2.2.1).mp v2
      have hvw : v = w := huq v v1 (by omega)
      subst hvw
      exact ⟨by omega, (key v).mpr v3⟩
theorem x_wk_rk (h : wy_ok W T one two span) (hT : T ≤ 8) (hs : ∀ j, 0 ≤ span j ∧ span j ≤ 9) {b : Nat} (hb : b < T) : ∀ (n a : Nat), a < T → f_M one two span (-1) W T ((a : Int) * 8 + b) < 99999 → rk (f_M one two span (-1) W T) T b a < n → ¬ (x_wk (fun s => x_next one two span (f_M one two span (-1) W T) W T s b) b n a).2 = 0
  | 0, a, ha, hf, hr => absurd hr (by omega)
  | n + 1, a, ha, hf, hr => by
    unfold x_wk
    by_cases hab : (a : Int) = b
    · rw [if_pos hab]; exact Nat.succ_ne_zero n
    · rw [if_neg hab]
      obtain ⟨t, t1, t2, t3⟩ := x_next_in h hT hs ha hb (by omega) hf
      rw [t2]
      have := rk_dn (T := T) t1 t3
      exact x_wk_rk h hT hs hb n t t1 (Int.lt_trans t3 hf) (by omega)
theorem x_wk_e (h : wy_ok W T one two span) (hT : T ≤ 8) (hs : ∀ j, 0 ≤ span j ∧ span j ≤ 9) {b : Nat} (hb : b < T) : ∀ (n a : Nat), a < T → f_M one two span (-1) W T ((a : Int) * 8 + b) < 99999 → (e_walk (fun s => e_step one two span (m_fw 1000000 one two span W T) W T s b) n a = -1 ∧ ¬ (x_wk (fun s => x_next one two span (f_M one two span (-1) W T) W T s b) b n a).2 = 0) ∨ ((x_wk (fun s => x_next one two span (f_M one two span (-1) W T) W T s b) b n a).2 = 0 ∧ e_walk (fun s => e_step one two span (m_fw 1000000 one two span W T) W T s b) n a = (x_wk (fun s => x_next one two span (f_M one two span (-1) W T) W T s b) b n a).1 ∧ 0 ≤ (x_wk (fun s => x_next one two span (f_M one two span (-1) W T) W T s b) b n a).1)
  | 0, a, ha, hf => Or.inr ⟨rfl, rfl, by show (0 : Int) ≤ a; omega⟩
  | n + 1, a, ha, hf => by
    unfold x_wk e_walk
    by_cases hab : (a : Int) = b
    · have e : e_step one two span (m_fw 1000000 one two span W T) W T a b = -1 := by unfold e_step; rw [if_pos hab]
      rw [if_pos hab, if_pos e]
      exact Or.inl ⟨rfl, Nat.succ_ne_zero n⟩
    · obtain ⟨t, t1, t2, t3⟩ := x_next_in h hT hs ha hb (by omega) hf
      have e : e_step one two span (m_fw 1000000 one two span W T) W T a b = t := by rw [e_step_x h hT hs ha hb (by omega) hf, t2]
      rw [if_neg hab, if_neg (by rw [e]; omega)]
      show (e_walk _ n (e_step one two span (m_fw 1000000 one two span W T) W T a b) = -1 ∧ _) ∨ _
      rw [e, t2]
      exact x_wk_e h hT hs hb n t t1 (Int.lt_trans t3 hf)
/-- the towns along the shortest -/
theorem q_row_M (h : wy_ok W T one two span) (hT : T ≤ 8) (hs : ∀ j, 0 ≤ span j ∧ span j ≤ 9) {a b i : Int} : q_row T W one two span (m_fw 1000000 one two span W T) a b i = q_2t T a b (if 0 ≤ i ∧ (f_M one two span (-1) W T) (a * 8 + b) < 99999 then (if (x_wk (fun s => x_next one two span (f_M one two span (-1) W T) W T s b) b i.toNat a).2 = 0 then o_i (x_wk (fun s => x_next one two span (f_M one two span (-1) W T) W T s b) b i.toNat a).1 else .inr x_NSE) else .inr x_NSE) := by
  unfold q_row q_2t
  by_cases ha : 0 ≤ a ∧ a < T
  · rw [if_pos ha, if_pos ha]
    by_cases hb : 0 ≤ b ∧ b < T
    · rw [if_pos hb, if_pos hb]
      obtain ⟨x, rfl⟩ := Int.eq_ofNat_of_zero_le ha.1
      obtain ⟨y, rfl⟩ := Int.eq_ofNat_of_zero_le hb.1
      have r1 := m_fw_M (W := W) (T := T) (one := one) (two := two) (v := span) hT (fun j => by have := hs j; omega) ha.1 ha.2 hb.1 hb.2
      unfold f_rl at r1
      have e : e_along one two span (m_fw 1000000 one two span W T) W T x y i = if i < 0 ∨ 8 ≤ i ∨ 1000000 ≤ m_fw 1000000 one two span W T ((x : Int) * 8 + y) then -1 else e_walk (fun s => e_step one two span (m_fw 1000000 one two span W T) W T s y) i.toNat x := rfl
      rw [e]
      by_cases hc : 0 ≤ i ∧ f_M one two span (-1) W T ((x : Int) * 8 + y) < 99999
      · rw [if_pos hc]
        by_cases h8 : 8 ≤ i
        · rw [if_pos (Or.inr (Or.inl h8)), if_pos rfl]
          rw [if_neg (x_wk_rk h hT hs (by omega) i.toNat x (by omega) hc.2 (by have := rk_lt (M := f_M one two span (-1) W T) (T := T) (b := y) (a := x) (by omega); omega))]
        · rw [if_neg (c := i < 0 ∨ 8 ≤ i ∨ 1000000 ≤ m_fw 1000000 one two span W T ((x : Int) * 8 + y)) (by generalize f_M one two span (-1) W T ((x : Int) * 8 + y) = z at *; omega)]
          rcases x_wk_e h hT hs (b := y) (by omega) i.toNat x (by omega) hc.2 with ⟨h1, h2⟩ | ⟨h1, h2, h3⟩
          · rw [if_pos h1, if_neg h2]
          · rw [if_pos h1, h2, if_neg (by omega)]
      · rw [if_neg hc, if_pos (c := i < 0 ∨ 8 ≤ i ∨ 1000000 ≤ m_fw 1000000 one two span W T ((x : Int) * 8 + y)) (by generalize f_M one two span (-1) W T ((x : Int) * 8 + y) = z at *; omega), if_pos rfl]
    · rw [if_neg hb, if_neg hb]
  · rw [if_neg ha, if_neg ha]
/-- a bridge -/
theorem pe_bit {n : Int} {c : Nat} : (p_ends one two n).testBit c = true ↔ (c = (one n).toNat ∨ c = (two n).toNat) := by
  unfold p_ends
  rw [Nat.testBit_or, Nat.testBit_two_pow, Nat.testBit_two_pow, Bool.or_eq_true, decide_eq_true_iff, decide_eq_true_iff]
  constructor <;> rintro (h | h) <;> first | exact Or.inl h.symm | exact Or.inr h.symm
theorem nd_ne {x y : Nat} : ¬ x &&& y = 0 ↔ ∃ c, x.testBit c = true ∧ y.testBit c = true := by
  constructor
  · intro h
    obtain ⟨c, hc⟩ := Nat.exists_testBit_of_ne_zero h
    rw [Nat.testBit_and, Bool.and_eq_true] at hc
    exact ⟨c, hc⟩
  · rintro ⟨c, h1, h2⟩ h0
    have : (x &&& y).testBit c = true := by rw [Nat.testBit_and, h1, h2]; rfl
    rw [h0] at this
    simp at this
theorem pw_s {way : Int} {r n : Nat} : p_rw one two way r (n + 1) = if ¬ (n : Int) = way ∧ ¬ p_rw one two way r n &&& p_ends one two n = 0 then p_rw one two way r n ||| p_ends one two n else p_rw one two way r n := rfl
theorem pw_mono1 {way : Int} {r n c : Nat} (h : (p_rw one two way r n).testBit c = true) : (p_rw one two way r (n + 1)).testBit c = true := by
  rw [pw_s]
  split
  · rw [Nat.testBit_or, h]; rfl
  · exact h
theorem pw_mono {way : Int} {r c : Nat} (h : r.testBit c = true) : ∀ n : Nat, (p_rw one two way r n).testBit c = true
  | 0 => h
  | n + 1 => pw_mono1 (pw_mono h n)
theorem pw_in {way : Int} {r i j v : Nat} (hv : ¬ (v : Int) = way) (h : r.testBit i = true) (h1 : (i = (one v).toNat ∧ j = (two v).toNat) ∨ (i = (two v).toNat ∧ j = (one v).toNat)) : ∀ n : Nat, v < n → (p_rw one two way r n).testBit j = true
  | 0, hn => absurd hn (by omega)
  | n + 1, hn => by
    by_cases hvn : v = n
    · subst hvn
      rw [pw_s, if_pos ⟨hv, nd_ne.mpr ⟨i, pw_mono h v, pe_bit.mpr (by omega)⟩⟩, Nat.testBit_or, Bool.or_eq_true]
      exact Or.inr (pe_bit.mpr (by omega))
    · exact pw_mono1 (pw_in hv h h1 n (by omega))
theorem pw_snd {way : Int} {r : Nat} {P : Nat → Prop} (hr : ∀ c, r.testBit c = true → P c) : ∀ n : Nat, (∀ v : Nat, v < n → ¬ (v : Int) = way → (P (one v).toNat ↔ P (two v).toNat)) → ∀ c, (p_rw one two way r n).testBit c = true → P c
  | 0, _, c, h => hr c h
  | n + 1, hcl, c, h => by
    have ih := pw_snd hr n (fun v hv => hcl v (by omega))
    rw [pw_s] at h
    by_cases hc : ¬ (n : Int) = way ∧ ¬ p_rw one two way r n &&& p_ends one two n = 0
    · rw [if_pos hc, Nat.testBit_or, Bool.or_eq_true] at h
      obtain ⟨h1, h2⟩ := hc
      obtain ⟨d, d1, d2⟩ := nd_ne.mp h2
      have hP := ih d d1
      have hcl2 := hcl n (by omega) h1
      have both : P (one n).toNat ∧ P (two n).toNat := by
        rcases pe_bit.mp d2 with hd | hd
        · subst hd; exact ⟨hP, hcl2.mp hP⟩
        · subst hd; exact ⟨hcl2.mpr hP, hP⟩
      rcases h with h | h
      · exact ih c h
      · rcases pe_bit.mp h with hd | hd
        · subst hd; exact both.1
        · subst hd; exact both.2
    · rw [if_neg hc] at h
      exact ih c h
theorem pr_mono {way : Int} {r c : Nat} {k : Nat} (h : (p_rr one two way W r k).testBit c = true) : ∀ n : Nat, (p_rr one two way W r (k + n)).testBit c = true
  | 0 => h
  | n + 1 => pw_mono (pr_mono h n) W
theorem pr_snd {way : Int} {r : Nat} {P : Nat → Prop} (hr : ∀ c, r.testBit c = true → P c) (hcl : ∀ v : Nat, v < W → ¬ (v : Int) = way → (P (one v).toNat ↔ P (two v).toNat)) : ∀ k : Nat, ∀ c, (p_rr one two way W r k).testBit c = true → P c
  | 0, c, h => hr c h
  | k + 1, c, h => pw_snd (pr_snd hr hcl k) W hcl c h
theorem pr_all (h : wy_ok W T one two span) (hT : T ≤ 8) (hs : ∀ j, 0 ≤ span j ∧ span j ≤ 9) {way : Int} {r b : Nat} (hb : b < T) : ∀ (n k s : Nat), s < T → f_M one two span way W T ((s : Int) * 8 + b) < 99999 → rk (f_M one two span way W T) T b s ≤ n → (p_rr one two way W r k).testBit s = true → k + n ≤ T → (p_rr one two way W r T).testBit b = true
  | n, k, s, hs1, hf, hr, hbit, hkn => by
    by_cases hsb : s = b
    · subst hsb
      have := pr_mono hbit (T - k)
      rwa [show k + (T - k) = T by omega] at this
    · obtain ⟨t, w, t1, t2, w1, w2, w3, w4⟩ := f_M_edge h hT hs hs1 hb hsb hf
      have hsp := (h w w1).2.2.2.1
      have hlt : f_M one two span way W T ((t : Int) * 8 + b) < f_M one two span way W T ((s : Int) * 8 + b) := by omega
      have hdn := rk_dn (T := T) t1 hlt
      match n, hr, hkn with
      | 0, hr, hkn => omega
      | n + 1, hr, hkn =>
        refine pr_all h hT hs hb n (k + 1) t t1 (Int.lt_trans hlt hf) (by omega) ?_ (by omega)
        have o := (e_oth_iff (one := one) (two := two) (w := (w : Int)) (i := (s : Int)) (j := (t : Int)) (by omega) (h w w1).2.2.1).mp w3
        exact pw_in w2 hbit (by omega) W w1
theorem p_rr_M (h : wy_ok W T one two span) (hT : T ≤ 8) (hs : ∀ j, 0 ≤ span j ∧ span j ≤ 9) {w : Nat} (hw : w < W) : (p_rr one two w W (2 ^ (one w).toNat) T &&& 2 ^ (two w).toNat = 0) ↔ 99999 ≤ f_M one two span w W T (one w * 8 + two w) := by
  obtain ⟨⟨a0, a1⟩, ⟨b0, b1⟩, hne, -, -⟩ := h w hw
  obtain ⟨o, ho⟩ := Int.eq_ofNat_of_zero_le a0
  obtain ⟨u, hu⟩ := Int.eq_ofNat_of_zero_le b0
  rw [ho, hu, Int.toNat_natCast, Int.toNat_natCast]
  have hoT : o < T := by omega
  have huT : u < T := by omega
  have hb : (p_rr one two w W (2 ^ o) T &&& 2 ^ u = 0) ↔ ¬ (p_rr one two w W (2 ^ o) T).testBit u = true := by
    constructor
    · intro h0 h1
      exact (nd_ne.mpr ⟨u, h1, by rw [Nat.testBit_two_pow, decide_eq_true_iff]⟩) h0
    · intro h1
      refine Decidable.byContradiction (fun h0 => ?_)
      obtain ⟨c, c1, c2⟩ := nd_ne.mp h0
      rw [Nat.testBit_two_pow, decide_eq_true_iff] at c2
      subst c2
      exact h1 c1
  rw [hb]
  constructor
  · intro h1
    refine Decidable.byContradiction (fun h2 => h1 ?_)
    exact pr_all h hT hs (way := (w : Int)) (r := 2 ^ o) huT (rk (f_M one two span w W T) T u o) 0 o hoT (by omega) (Nat.le_refl _) (by show (2 ^ o).testBit o = true; rw [Nat.testBit_two_pow, decide_eq_true_iff]) (by have := rk_lt (M := f_M one two span w W T) (T := T) (b := u) (a := o) hoT; omega)
  · intro h1 h2
    have := pr_snd (W := W) (way := (w : Int)) (r := 2 ^ o) (P := fun c => c < T ∧ f_M one two span w W T ((o : Int) * 8 + c) < 99999) (fun c hc => by
      rw [Nat.testBit_two_pow, decide_eq_true_iff] at hc
      subst hc
      exact ⟨hoT, by rw [f_M_0 h hT hs hoT]; decide⟩) (fun v hv hvw => by
      obtain ⟨⟨c0, c1⟩, ⟨d0, d1⟩, hne2, -, -⟩ := h v hv
      obtain ⟨x, hx⟩ := Int.eq_ofNat_of_zero_le c0
      obtain ⟨y, hy⟩ := Int.eq_ofNat_of_zero_le d0
      rw [hx, hy, Int.toNat_natCast, Int.toNat_natCast]
      have e1 := f_M_way h hT hs (but := (w : Int)) (i := x) (j := y) (by omega) (by omega) (by omega) hv hvw ((e_oth_iff (by omega) hne2).mpr (Or.inl ⟨hx, hy⟩))
      have e2 := f_M_way h hT hs (but := (w : Int)) (i := y) (j := x) (by omega) (by omega) (by omega) hv hvw ((e_oth_iff (by omega) hne2).mpr (Or.inr ⟨hy, hx⟩))
      have t1 := f_M_tri (W := W) (one := one) (two := two) (but := (w : Int)) hT hs hoT (show x < T by omega) (show y < T by omega)
      have t2 := f_M_tri (W := W) (one := one) (two := two) (but := (w : Int)) hT hs hoT (show y < T by omega) (show x < T by omega)
      constructor
      · rintro ⟨-, g2⟩
        have := f_M_fin hT hs hoT (show x < T by omega) g2
        exact ⟨by omega, by omega⟩
      · rintro ⟨-, g2⟩
        have := f_M_fin hT hs hoT (show y < T by omega) g2
        exact ⟨by omega, by omega⟩) T u h2
    omega
end WY

end M87
