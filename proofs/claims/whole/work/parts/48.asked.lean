section C48
def q_2t (T : Nat) (a b : Int) (o : x_O) : x_O := if 0 ≤ a ∧ a < T then (if 0 ≤ b ∧ b < T then o else .inr x_NSE) else .inr x_NSE
def q_row (T W : Nat) (one two span days : Int → Int) (a b i : Int) : x_O := q_2t T a b (if e_along one two span days W T a b i = -1 then .inr x_NSE else o_i (e_along one two span days W T a b i))
def q_1t (T : Nat) (a : Int) (o : x_O) : x_O := if 0 ≤ a ∧ a < T then o else .inr x_NSE
def q_hold (T C : Nat) (f : Int → Int) (t i : Int) : x_O := q_1t T t (if i = -1 then o_i (k_harm f (s_bits (fun c => s_in f t c) C)) else if 0 ≤ i ∧ i < (s_pop (s_bits (fun c => s_in f t c) C) : Nat) then o_i (k_holdn f (i.toNat + 1) (s_bits (fun c => s_in f t c) C) (k_harm f (s_bits (fun c => s_in f t c) C)) (-1)) else .inr x_NSE)
def q_sendg (T C : Nat) (f lk : Int → Int) (t wa : Int) : x_O := q_1t T t (if 1 ≤ wa ∧ wa ≤ 999 then o_i (k_snd f lk t wa C (k_luck f (s_bits (fun c => s_lies f c) C)) (2 ^ C)).1 else .inr x_IAE)
def q_thief (T C : Nat) (f : Int → Int) (t ca : Int) : x_O := q_1t T t (if 0 ≤ ca ∧ ca ≤ 999 then o_i (((k_stl f ca (k_luck f (s_bits (fun c => s_in f t c) C)) (2 ^ C)).1 : Nat) : Int) else .inr x_IAE)
def q_level (T C : Nat) (f : Int → Int) (t : Int) : x_O := q_1t T t (o_i (((k_lev f t (s_bits (fun c => s_in f t c) C) (2 ^ C)).1 : Nat) : Int))
def q_thrower (g tw goal n : Int) : x_O := if 0 ≤ g ∧ g ≤ 20 then (if 0 ≤ tw ∧ tw ≤ 12 then (if 1 ≤ goal ∧ goal ≤ 20 then (if 0 ≤ n ∧ n ≤ 7 then o_i (t_goal tw goal n.toNat g) else .inr x_IAE) else .inr x_IAE) else .inr x_IAE) else .inr x_IAE
def q_stop (g tw n w : Int) : x_O := if 0 ≤ w ∧ w ≤ 1 then (if 0 ≤ g ∧ g ≤ 20 then (if 0 ≤ tw ∧ tw ≤ 12 then (if 1 ≤ n ∧ n ≤ 7 then o_i (if w = 0 then t_best tw n.toNat g else x_B (g * t_pow n.toNat < t_best tw n.toNat g)) else .inr x_IAE) else .inr x_IAE) else .inr x_IAE) else .inr x_NSE
/-- what was seen is as told -/
def s_sn (T : Nat) (S : List (Int × Int × Int)) : Prop := ∀ p ∈ S, (0 ≤ p.1 ∧ p.1 < T) ∧ (0 ≤ p.2.1 ∧ p.2.1 ≤ 30) ∧ (0 ≤ p.2.2 ∧ p.2.2 ≤ 9999)
theorem seen_at {D : xM} {se T : Nat} {S : List (Int × Int × Int)} (h : seen D se S) (hs : s_sn T S) (hT : T ≤ 8) {j : Nat} (hj : j < S.length) : D (se + 1) j = (S[j]).1 ∧ D (se + 2) j = (S[j]).2.1 ∧ D (se + 3) j = (S[j]).2.2 ∧ (0 ≤ (S[j]).1 ∧ (S[j]).1 < T) ∧ (0 ≤ (S[j]).2.1 ∧ (S[j]).2.1 ≤ 30) ∧ (0 ≤ (S[j]).2.2 ∧ (S[j]).2.2 ≤ 9999) := by
  have h1 := h.2.2 j S[j] (List.getElem?_eq_getElem hj)
  have h2 := hs S[j] (List.getElem_mem hj)
  exact ⟨h1.1, h1.2.1, h1.2.2, h2⟩
theorem seen_ok {D : xM} {se T : Nat} {S : List (Int × Int × Int)} (h : seen D se S) (hs : s_sn T S) (hT : T ≤ 8) : se_ok D se S.length := by
  refine ⟨h.1, h.2.1, fun j h0 h1 => ?_⟩
  obtain ⟨k, rfl⟩ := Int.eq_ofNat_of_zero_le h0
  have hk : k < S.length := by omega
  obtain ⟨a1, a2, a3, b1, b2, b3⟩ := seen_at h hs hT hk
  rw [a1, a2, a3]
  exact ⟨⟨b1.1, by omega⟩, b2, b3⟩
theorem seen_mx {D : xM} {se T : Nat} {S : List (Int × Int × Int)} (h : seen D se S) (hs : s_sn T S) (hT : T ≤ 8) : ∀ n : Nat, n ≤ S.length → (0 ≤ x_mx (D (se + 2)) n ∧ x_mx (D (se + 2)) n ≤ 30) ∧ ∀ j : Nat, j < n → D (se + 2) j ≤ x_mx (D (se + 2)) n
  | 0, _ => ⟨by simp [x_mx], fun j hj => by omega⟩
  | n + 1, hn => by
    obtain ⟨⟨a, b⟩, c⟩ := seen_mx h hs hT n (by omega)
    obtain ⟨-, a2, -, -, b2, -⟩ := seen_at h hs hT (j := n) (by omega)
    rw [x_mx]
    refine ⟨⟨by omega, by omega⟩, fun j hj => ?_⟩
    by_cases hjn : j = n
    · subst hjn; omega
    · have := c j (by omega); omega
/-! what is opened, by the days themselves -/
def z_luck (T C : Nat) (G : Ldt) (f : Int → Int) (c o : Nat) (t : Int) (k : Nat) : Int := if t = f (55 + c) then y_crs G C f (fun k => s_days G T C f k (1 + f (55 + c))) (f (55 + c)) c o k else s_days G T C f k (1 + t)
abbrev z_pl (T C : Nat) (G : Ldt) (f : Int → Int) (S : List (Int × Int × Int)) : Prop := ∀ p ∈ S, s_days G T C f p.2.1.toNat (1 + p.1) = p.2.2
abbrev z_is (T C : Nat) (G : Ldt) (f : Int → Int) (S : List (Int × Int × Int)) (i : Nat) : Prop := i / 10 < C ∧ s_lies f (i / 10 : Nat) ∧ ∀ p ∈ S, z_luck T C G f (i / 10) (i % 10) p.1 p.2.1.toNat = p.2.2
theorem y_crs_congr {G : Ldt} {C : Nat} {f : Int → Int} {p q : Nat → Int} {t : Int} {c : Int} {o k : Nat} (h : k < o → p k = q k) : y_crs G C f p t c o k = y_crs G C f q t c o k := by
  unfold y_crs
  split
  · next hh => exact h hh
  · rfl
theorem z_is_iff {D : xM} {se T C : Nat} {G : Ldt} {f pl : Int → Int} {S : List (Int × Int × Int)} (h : seen D se S) (hs : s_sn T S) (hT : T ≤ 8) {last : Nat} (hpl : ∀ t k : Nat, t < T → k ≤ last → pl ((t : Int) * 31 + k) = s_days G T C f k (1 + (t : Int))) (hf : ∀ c : Int, 0 ≤ c → c < C → f (55 + c) = -1 ∨ (0 ≤ f (55 + c) ∧ f (55 + c) < T)) (hls : ∀ j : Nat, j < S.length → D (se + 2) j ≤ last) (i : Nat) : y_is G C f pl (D (se + 1)) (D (se + 2)) (D (se + 3)) S.length i ↔ z_is T C G f S i := by
  constructor
  · rintro ⟨h1, h2, h3⟩
    refine ⟨h1, h2, fun p hp => ?_⟩
    obtain ⟨j, hj, rfl⟩ := List.getElem_of_mem hp
    have h4 := h3 j hj
    obtain ⟨a1, a2, a3, b1, b2, b3⟩ := seen_at h hs hT hj
    have h5 := hls j hj
    obtain ⟨p1, p2⟩ : 0 ≤ f (55 + ((i / 10 : Nat) : Int)) ∧ f (55 + ((i / 10 : Nat) : Int)) < T := by
      have := hf (i / 10 : Nat) (by omega) (by omega)
      have := h2.1
      omega
    obtain ⟨tt, ht⟩ := Int.eq_ofNat_of_zero_le p1
    obtain ⟨ts, hts⟩ := Int.eq_ofNat_of_zero_le b1.1
    obtain ⟨ks, hks⟩ := Int.eq_ofNat_of_zero_le b2.1
    rw [a1, a2, a3] at h4
    rw [a2] at h5
    rw [← h4]
    unfold z_luck
    by_cases hc : (S[j]).1 = f (55 + ((i / 10 : Nat) : Int))
    · rw [if_pos hc, if_pos hc]
      refine y_crs_congr (fun hk => ?_)
      rw [ht, hks, Int.toNat_natCast]
      exact (hpl tt ks (by omega) (by omega)).symm
    · rw [if_neg hc, if_neg hc, hts, hks, Int.toNat_natCast]
      exact (hpl ts ks (by omega) (by omega)).symm
  · rintro ⟨h1, h2, h3⟩
    refine ⟨h1, h2, fun j hj => ?_⟩
    have h4 := h3 _ (List.getElem_mem hj)
    obtain ⟨a1, a2, a3, b1, b2, b3⟩ := seen_at h hs hT hj
    have h5 := hls j hj
    obtain ⟨p1, p2⟩ : 0 ≤ f (55 + ((i / 10 : Nat) : Int)) ∧ f (55 + ((i / 10 : Nat) : Int)) < T := by
      have := hf (i / 10 : Nat) (by omega) (by omega)
      have := h2.1
      omega
    obtain ⟨tt, ht⟩ := Int.eq_ofNat_of_zero_le p1
    obtain ⟨ts, hts⟩ := Int.eq_ofNat_of_zero_le b1.1
    obtain ⟨ks, hks⟩ := Int.eq_ofNat_of_zero_le b2.1
    rw [a1, a2, a3, ← h4]
    rw [a2] at h5
    unfold z_luck
    by_cases hc : (S[j]).1 = f (55 + ((i / 10 : Nat) : Int))
    · rw [if_pos hc, if_pos hc]
      refine y_crs_congr (fun hk => ?_)
      rw [ht, hks, Int.toNat_natCast]
      exact hpl tt ks (by omega) (by omega)
    · rw [if_neg hc, if_neg hc, hts, hks, Int.toNat_natCast]
      exact hpl ts ks (by omega) (by omega)
theorem z_pl_iff {D : xM} {se T C : Nat} {G : Ldt} {f pl : Int → Int} {S : List (Int × Int × Int)} (h : seen D se S) (hs : s_sn T S) (hT : T ≤ 8) {last : Nat} (hpl : ∀ t k : Nat, t < T → k ≤ last → pl ((t : Int) * 31 + k) = s_days G T C f k (1 + (t : Int))) (hls : ∀ j : Nat, j < S.length → D (se + 2) j ≤ last) : u_pfit pl (D (se + 1)) (D (se + 2)) (D (se + 3)) S.length ↔ z_pl T C G f S := by
  have key : ∀ (j : Nat) (hj : j < S.length), pl (D (se + 1) j * 31 + D (se + 2) j) = s_days G T C f (S[j]).2.1.toNat (1 + (S[j]).1) ∧ D (se + 3) j = (S[j]).2.2 := by
    intro j hj
    obtain ⟨a1, a2, a3, b1, b2, b3⟩ := seen_at h hs hT hj
    have h5 := hls j hj
    obtain ⟨ts, hts⟩ := Int.eq_ofNat_of_zero_le b1.1
    obtain ⟨ks, hks⟩ := Int.eq_ofNat_of_zero_le b2.1
    rw [a2] at h5
    rw [a1, a2, a3, hts, hks, Int.toNat_natCast]
    exact ⟨hpl ts ks (by omega) (by omega), rfl⟩
  constructor
  · intro h3 p hp
    obtain ⟨j, hj, rfl⟩ := List.getElem_of_mem hp
    have := key j hj
    rw [← this.1, ← this.2]
    exact h3 j hj
  · intro h3 j hj
    have := key j hj
    rw [this.1, this.2]
    exact h3 _ (List.getElem_mem hj)
def q_opened (T C : Nat) (G : Ldt) (f : Int → Int) (S : List (Int × Int × Int)) (w : Int) : x_O := if 0 ≤ w ∧ w ≤ 2 then o_i (if w = 2 then x_B (z_pl T C G f S) else if w = 0 then x_sum (fun i => x_B (z_is T C G f S i.toNat)) 100 else x_first (fun i => z_is T C G f S i) 100) else .inr x_NSE
def z_cr (T C : Nat) (G : Ldt) (f : Int → Int) : Int → Int := fun j => y_crs G C f (fun k => s_days G T C f k (1 + f (55 + j / 310))) (f (55 + j / 310)) (j / 310) ((j / 31) % 10).toNat (j % 31).toNat
def z_pa (T C : Nat) (G : Ldt) (f : Int → Int) : Int → Int := fun j => s_days G T C f (j % 31).toNat (1 + j / 31)
def z_wh (f : Int → Int) : Int → Int := fun j => f (55 + j)
def z_fi (T C : Nat) (G : Ldt) (f : Int → Int) (S : List (Int × Int × Int)) : Int → Int := fun j => x_B (z_is T C G f S j.toNat)
def z_n (T C : Nat) (G : Ldt) (f : Int → Int) (S : List (Int × Int × Int)) (day : Int) : Int := (u_st (z_pa T C G f) (z_cr T C G f) (z_wh f) (z_fi T C G f S) day 100).1 + (u_st (z_pa T C G f) (z_cr T C G f) (z_wh f) (z_fi T C G f S) day 100).2
def l_next (T C : Nat) (G : Ldt) (f : Int → Int) (S : List (Int × Int × Int)) : Nat → Int × Int
  | 0 => (-1, 0)
  | k + 1 => if (l_next T C G f S k).2 < z_n T C G f S k then ((k : Int), z_n T C G f S k) else l_next T C G f S k
theorem l_next_s {T C : Nat} {G : Ldt} {f : Int → Int} {S : List (Int × Int × Int)} {k : Nat} : l_next T C G f S (k + 1) = if (l_next T C G f S k).2 < z_n T C G f S k then ((k : Int), z_n T C G f S k) else l_next T C G f S k := rfl
def q_next (T C : Nat) (G : Ldt) (f : Int → Int) (S : List (Int × Int × Int)) (w : Int) : x_O := if 0 ≤ w ∧ w ≤ 1 then o_i (if w = 0 then (l_next T C G f S 31).1 else (l_next T C G f S 31).2) else .inr x_NSE
theorem u_st_congr {pl cr wh fi pl2 cr2 wh2 fi2 : Int → Int} {day : Int} (h1 : ∀ i : Nat, i < 100 → fi i = fi2 i) (h2 : ∀ i : Nat, i < 100 → ¬ fi i = 0 → cr ((i : Int) * 31 + day) = cr2 ((i : Int) * 31 + day) ∧ wh ((i : Int) / 10) = wh2 ((i : Int) / 10) ∧ pl (wh ((i : Int) / 10) * 31 + day) = pl2 (wh2 ((i : Int) / 10) * 31 + day)) : ∀ n : Nat, n ≤ 100 → u_st pl cr wh fi day n = u_st pl2 cr2 wh2 fi2 day n
  | 0, _ => rfl
  | n + 1, hn => by
    have ih := u_st_congr h1 h2 n (by omega)
    have e1 := h1 n (by omega)
    rw [u_st_s, u_st_s, ih, e1]
    by_cases hf : fi2 n = 0
    · rw [if_pos hf, if_pos hf]
    rw [if_neg hf, if_neg hf]
    obtain ⟨e2, e3, e4⟩ := h2 n (by omega) (by rw [e1]; exact hf)
    by_cases hc : cr ((n : Int) * 31 + day) = pl (wh ((n : Int) / 10) * 31 + day)
    · rw [if_pos hc, if_pos (by rw [← e2, ← e4]; exact hc)]
    have hc2 : ¬ cr2 ((n : Int) * 31 + day) = pl2 (wh2 ((n : Int) / 10) * 31 + day) := by rw [← e2, ← e4]; exact hc
    rw [if_neg hc, if_neg hc2]
    have hn2 : u_new fi wh cr day n ↔ u_new fi2 wh2 cr2 day n := by
      constructor
      · intro hh j hj hx
        obtain ⟨x1, x2, x3⟩ := hx
        have x0 : ¬ fi j = 0 := by rw [h1 j (by omega)]; exact x1
        obtain ⟨y1, y2, y3⟩ := h2 j (by omega) x0
        exact hh j hj ⟨x0, by rw [y2, e3]; exact x2, by rw [y1, e2]; exact x3⟩
      · intro hh j hj hx
        obtain ⟨x1, x2, x3⟩ := hx
        obtain ⟨y1, y2, y3⟩ := h2 j (by omega) x1
        exact hh j hj ⟨by rw [← h1 j (by omega)]; exact x1, by rw [← y2, ← e3]; exact x2, by rw [← y1, ← e2]; exact x3⟩
    by_cases hq : u_new fi wh cr day n
    · rw [if_pos hq, if_pos (hn2.mp hq)]
    · rw [if_neg hq, if_neg (fun h => hq (hn2.mpr h))]
theorem u_st_in {pl cr wh fi : Int → Int} {day : Int} : ∀ n : Nat, (0 ≤ (u_st pl cr wh fi day n).1 ∧ (u_st pl cr wh fi day n).1 ≤ 1) ∧ 0 ≤ (u_st pl cr wh fi day n).2 ∧ (u_st pl cr wh fi day n).2 ≤ n
  | 0 => by simp [u_st]
  | n + 1 => by
    have := u_st_in (pl := pl) (cr := cr) (wh := wh) (fi := fi) (day := day) n
    rw [u_st_s]
    push_cast
    split
    · omega
    split
    · simp only; omega
    split
    · simp only; omega
    · omega
theorem z_n_in (T C : Nat) (G : Ldt) (f : Int → Int) (S : List (Int × Int × Int)) (day : Int) : 0 ≤ z_n T C G f S day ∧ z_n T C G f S day ≤ 101 := by
  have := u_st_in (pl := z_pa T C G f) (cr := z_cr T C G f) (wh := z_wh f) (fi := z_fi T C G f S) (day := day) 100
  unfold z_n
  omega
theorem l_next_in (T C : Nat) (G : Ldt) (f : Int → Int) (S : List (Int × Int × Int)) : ∀ k : Nat, k ≤ 31 → 0 ≤ (l_next T C G f S k).2 ∧ (l_next T C G f S k).2 ≤ 101
  | 0, _ => by simp [l_next]
  | k + 1, hk => by
    have h1 := l_next_in T C G f S k (by omega)
    have h2 := z_n_in T C G f S k
    rw [l_next_s]
    split
    · exact h2
    · exact h1
theorem x_sum_congr {f g : Int → Int} : ∀ {n : Nat}, (∀ i : Nat, i < n → f i = g i) → x_sum f n = x_sum g n
  | 0, _ => rfl
  | n + 1, h => by rw [x_sum_s, x_sum_s, x_sum_congr (fun i hi => h i (by omega)), h n (by omega)]
theorem x_first_congr {p q : Nat → Prop} [DecidablePred p] [DecidablePred q] : ∀ {n : Nat}, (∀ i : Nat, i < n → (p i ↔ q i)) → x_first p n = x_first q n
  | 0, _ => rfl
  | n + 1, h => by
    have ih := x_first_congr (p := p) (q := q) (n := n) (fun i hi => h i (by omega))
    have h1 := h n (by omega)
    rw [x_first, x_first, ih]
    by_cases hp : p n
    · rw [if_pos hp, if_pos (h1.mp hp)]
    · rw [if_neg hp, if_neg (fun hq => hp (h1.mpr hq))]
theorem x_B_ne0 {p : Prop} [Decidable p] : (¬ x_B p = 0) = p := by
  unfold x_B
  by_cases h : p
  · rw [if_pos h]; simp [h]
  · rw [if_neg h]; simp [h]
theorem e_walk_in {step : Int → Int} (h : ∀ s, -1 ≤ step s ∧ step s < 8) : ∀ (n : Nat) (a : Int), -1 ≤ a ∧ a < 8 → -1 ≤ e_walk step n a ∧ e_walk step n a < 8
  | 0, a, ha => ha
  | n + 1, a, ha => by
    unfold e_walk
    first
      | (split
         · exact ⟨by decide, by decide⟩
         · exact e_walk_in h n _ (h a))
      | exact e_walk_in h n _ (h a)
theorem e_along_r (one two span days : Int → Int) {W T : Nat} (hT : T ≤ 8) {a : Int} (ha : a < 8 ∧ 0 ≤ a) (t i : Int) : x_r (e_along one two span days W T a t i) := by
  unfold e_along
  split
  · exact ⟨by decide, by decide⟩
  · have := e_walk_in (step := fun s => e_step one two span days W T s t) (fun s => by have := e_step_in one two span days W T s t; omega) i.toNat a ⟨by omega, by omega⟩
    exact ⟨by omega, by omega⟩
theorem z_ust {d1 d2 : xM} {T C : Nat} {G : Ldt} {f : Int → Int} {S : List (Int × Int × Int)} (hpl : ∀ c : Int, 0 ≤ c → c < C → f (55 + c) = -1 ∨ (0 ≤ f (55 + c) ∧ f (55 + c) < T)) (e1 : ∀ t k : Nat, t < T → k ≤ 30 → d1 (51 + 1) ((t : Int) * 31 + k) = s_days G T C f k (1 + (t : Int)))
    (g1 : ∀ c2 : Nat, c2 < C → s_lies f (c2 : Nat) → (d2 (51 + 3) ((c2 : Nat) : Int) = f (55 + (c2 : Nat)) ∧ ∀ o k : Nat, o < 10 → k ≤ 30 → d2 (51 + 2) ((((c2 : Nat) : Int) * 10 + o) * 31 + k) = y_crs G C f (fun k => (d1 (51 + 1)) (f (55 + (c2 : Nat)) * 31 + k)) (f (55 + (c2 : Nat))) (c2 : Nat) o k))
    (g2 : ∀ i : Nat, i < 100 → d2 (51 + 4) i = x_B (z_is T C G f S i)) (hp : d2 (51 + 1) = d1 (51 + 1)) {day : Int} (h0 : 0 ≤ day) (h1 : day ≤ 30) : u_st (d2 (51 + 1)) (d2 (51 + 2)) (d2 (51 + 3)) (d2 (51 + 4)) day 100 = u_st (z_pa T C G f) (z_cr T C G f) (z_wh f) (z_fi T C G f S) day 100 := by
  refine u_st_congr (fun i hi => by rw [g2 i hi]; unfold z_fi; rw [Int.toNat_natCast]) (fun i hi hn => ?_) 100 (Nat.le_refl _)
  rw [g2 i hi] at hn
  have hz : z_is T C G f S i := by rw [x_B_ne0] at hn; exact hn
  obtain ⟨hz1, hz2, -⟩ := hz
  obtain ⟨k, rfl⟩ := Int.eq_ofNat_of_zero_le h0
  obtain ⟨w1, w2⟩ := g1 (i / 10) hz1 hz2
  have hw := w2 (i % 10) k (by omega) (by omega)
  obtain ⟨p1, p2⟩ : 0 ≤ f (55 + ((i / 10 : Nat) : Int)) ∧ f (55 + ((i / 10 : Nat) : Int)) < T := by
    have := hpl (i / 10 : Nat) (by omega) (by omega)
    have := hz2.1
    omega
  have ei : (((i / 10 : Nat) : Int) * 10 + ((i % 10 : Nat) : Int)) = (i : Int) := by omega
  rw [ei] at hw
  have ed : (i : Int) / 10 = ((i / 10 : Nat) : Int) := by omega
  obtain ⟨tt, ht⟩ := Int.eq_ofNat_of_zero_le p1
  refine ⟨?_, ?_, ?_⟩
  · rw [hw]
    unfold z_cr
    have q1 : ((i : Int) * 31 + k) / 310 = ((i / 10 : Nat) : Int) := by omega
    have q2 : ((((i : Int) * 31 + k) / 31) % 10).toNat = i % 10 := by omega
    have q3 : (((i : Int) * 31 + k) % 31).toNat = k := by omega
    rw [q1, q2, q3]
    refine y_crs_congr (fun hk => ?_)
    rw [ht]
    exact e1 tt k (by omega) (by omega)
  · rw [ed, w1]; rfl
  · rw [ed, w1, hp, ht, e1 tt k (by omega) (by omega)]
    unfold z_pa z_wh
    rw [ht]
    have q3 : (((tt : Int) * 31 + k) % 31).toNat = k := by omega
    have q4 : ((tt : Int) * 31 + k) / 31 = tt := by omega
    rw [q3, q4]
theorem w_11_128 : x_cv RX11 128 yX8_clear cX8_clear 1 (none) 8 0 := ⟨⟨_, rfl, rfl⟩, (x_in 567 (by decide +kernel) rfl), (x_in 568 (by decide +kernel) rfl), (x_in 569 (by decide +kernel) rfl), (x_in 87 (by decide +kernel) rfl), (x_in 570 (by decide +kernel) rfl), by decide, ⟨by decide +kernel, by decide +kernel, by decide +kernel⟩⟩
theorem w_11_201 : x_cv RX11 201 yX11_needWay cX11_needWay 2 (none) 11 1 := ⟨⟨_, rfl, rfl⟩, (x_in 961 (by decide +kernel) rfl), (x_in 963 (by decide +kernel) rfl), (x_in 13 (by decide +kernel) rfl), (x_in 80 (by decide +kernel) rfl), (x_in 964 (by decide +kernel) rfl), by decide, ⟨by decide +kernel, by decide +kernel, by decide +kernel⟩⟩
theorem w_11_268 : x_cv RX11 268 yX6_shortest cX6_shortest 4 (some .int) 6 2 := ⟨⟨_, rfl, rfl⟩, (x_in 1040 (by decide +kernel) rfl), (x_in 1041 (by decide +kernel) rfl), (x_in 1042 (by decide +kernel) rfl), (x_in 83 (by decide +kernel) rfl), (x_in 1043 (by decide +kernel) rfl), by decide, ⟨by decide +kernel, by decide +kernel, by decide +kernel⟩⟩
theorem w_11_271 : x_cv RX11 271 yX6_tightest cX6_tightest 4 (some .int) 6 2 := ⟨⟨_, rfl, rfl⟩, (x_in 1051 (by decide +kernel) rfl), (x_in 1052 (by decide +kernel) rfl), (x_in 1053 (by decide +kernel) rfl), (x_in 83 (by decide +kernel) rfl), (x_in 1054 (by decide +kernel) rfl), by decide, ⟨by decide +kernel, by decide +kernel, by decide +kernel⟩⟩
theorem w_11_274 : x_cv RX11 274 yX6_along cX6_along 6 (some .int) 6 3 := ⟨⟨_, rfl, rfl⟩, (x_in 1279 (by decide +kernel) rfl), (x_in 1280 (by decide +kernel) rfl), (x_in 1281 (by decide +kernel) rfl), (x_in 83 (by decide +kernel) rfl), (x_in 1282 (by decide +kernel) rfl), by decide, ⟨by decide +kernel, by decide +kernel, by decide +kernel⟩⟩
theorem w_11_280 : x_cv RX11 280 yX6_middle cX6_middle 6 (some .int) 6 0 := ⟨⟨_, rfl, rfl⟩, (x_in 557 (by decide +kernel) rfl), (x_in 558 (by decide +kernel) rfl), (x_in 559 (by decide +kernel) rfl), (x_in 83 (by decide +kernel) rfl), (x_in 560 (by decide +kernel) rfl), by decide, ⟨by decide +kernel, by decide +kernel, by decide +kernel⟩⟩
theorem w_11_283 : x_cv RX11 283 yX6_parts cX6_parts 6 (some .boolean) 6 1 := ⟨⟨_, rfl, rfl⟩, (x_in 1296 (by decide +kernel) rfl), (x_in 1297 (by decide +kernel) rfl), (x_in 1298 (by decide +kernel) rfl), (x_in 83 (by decide +kernel) rfl), (x_in 1299 (by decide +kernel) rfl), by decide, ⟨by decide +kernel, by decide +kernel, by decide +kernel⟩⟩
theorem w_11_286 : x_cs RX11 286 yX4_toSend cX4_toSend 9 (some .int) 4 := ⟨(x_in 1062 (by decide +kernel) rfl), (x_in 1063 (by decide +kernel) rfl), (x_in 103 (by decide +kernel) rfl), (x_in 1064 (by decide +kernel) rfl), by decide, ⟨by decide +kernel, by decide +kernel, by decide +kernel⟩⟩
theorem w_11_292 : x_cs RX11 292 yX4_toSteal cX4_toSteal 10 (some .int) 4 := ⟨(x_in 1265 (by decide +kernel) rfl), (x_in 1266 (by decide +kernel) rfl), (x_in 103 (by decide +kernel) rfl), (x_in 1267 (by decide +kernel) rfl), by decide, ⟨by decide +kernel, by decide +kernel, by decide +kernel⟩⟩
theorem w_11_295 : x_cs RX11 295 yX4_toLevel cX4_toLevel 9 (some .int) 3 := ⟨(x_in 1323 (by decide +kernel) rfl), (x_in 1324 (by decide +kernel) rfl), (x_in 103 (by decide +kernel) rfl), (x_in 1325 (by decide +kernel) rfl), by decide, ⟨by decide +kernel, by decide +kernel, by decide +kernel⟩⟩
theorem w_11_298 : x_cs RX11 298 yX4_leastHarm cX4_leastHarm 2 (some .int) 2 := ⟨(x_in 1082 (by decide +kernel) rfl), (x_in 1083 (by decide +kernel) rfl), (x_in 103 (by decide +kernel) rfl), (x_in 1084 (by decide +kernel) rfl), by decide, ⟨by decide +kernel, by decide +kernel, by decide +kernel⟩⟩
theorem w_11_309 : x_cs RX11 309 yX4_inHold cX4_inHold 8 (some .int) 3 := ⟨(x_in 1094 (by decide +kernel) rfl), (x_in 1095 (by decide +kernel) rfl), (x_in 103 (by decide +kernel) rfl), (x_in 1096 (by decide +kernel) rfl), by decide, ⟨by decide +kernel, by decide +kernel, by decide +kernel⟩⟩
theorem w_11_313 : x_csn RX11 313 yX10_toGoal cX10_toGoal 4 (some .int) 4 := ⟨⟨"LuckCrates", x_inw 1114 (by decide +kernel) rfl⟩, (x_in 1115 (by decide +kernel) rfl), (x_in 104 (by decide +kernel) rfl), (x_in 1116 (by decide +kernel) rfl), by decide, ⟨by decide +kernel, by decide +kernel, by decide +kernel⟩⟩
theorem w_11_319 : x_cs RX11 319 yX10_power cX10_power 3 (some .int) 1 := ⟨(x_in 1132 (by decide +kernel) rfl), (x_in 1118 (by decide +kernel) rfl), (x_in 104 (by decide +kernel) rfl), (x_in 1119 (by decide +kernel) rfl), by decide, ⟨by decide +kernel, by decide +kernel, by decide +kernel⟩⟩
theorem w_11_322 : x_csn RX11 322 yX10_best cX10_best 5 (some .int) 3 := ⟨⟨"LuckCrates", x_inw 1133 (by decide +kernel) rfl⟩, (x_in 1134 (by decide +kernel) rfl), (x_in 104 (by decide +kernel) rfl), (x_in 1135 (by decide +kernel) rfl), by decide, ⟨by decide +kernel, by decide +kernel, by decide +kernel⟩⟩
theorem w_11_325 : x_cv RX11 325 yX8_add cX8_add 4 (none) 8 3 := ⟨⟨_, rfl, rfl⟩, (x_in 1145 (by decide +kernel) rfl), (x_in 1146 (by decide +kernel) rfl), (x_in 1147 (by decide +kernel) rfl), (x_in 87 (by decide +kernel) rfl), (x_in 1148 (by decide +kernel) rfl), by decide, ⟨by decide +kernel, by decide +kernel, by decide +kernel⟩⟩
theorem w_11_328 : x_cv RX11 328 yX8_lastDay cX8_lastDay 3 (some .int) 8 0 := ⟨⟨_, rfl, rfl⟩, (x_in 1156 (by decide +kernel) rfl), (x_in 1157 (by decide +kernel) rfl), (x_in 1158 (by decide +kernel) rfl), (x_in 87 (by decide +kernel) rfl), (x_in 1159 (by decide +kernel) rfl), by decide, ⟨by decide +kernel, by decide +kernel, by decide +kernel⟩⟩
theorem w_11_331 : x_cv RX11 331 yX1_layPlain cX1_layPlain 6 (none) 1 3 := ⟨⟨_, rfl, rfl⟩, (x_in 1161 (by decide +kernel) rfl), (x_in 1162 (by decide +kernel) rfl), (x_in 1163 (by decide +kernel) rfl), (x_in 88 (by decide +kernel) rfl), (x_in 1164 (by decide +kernel) rfl), by decide, ⟨by decide +kernel, by decide +kernel, by decide +kernel⟩⟩
theorem w_11_335 : x_cv RX11 335 yX1_plainFits cX1_plainFits 3 (some .boolean) 1 1 := ⟨⟨_, rfl, rfl⟩, (x_in 1167 (by decide +kernel) rfl), (x_in 1168 (by decide +kernel) rfl), (x_in 1169 (by decide +kernel) rfl), (x_in 88 (by decide +kernel) rfl), (x_in 1170 (by decide +kernel) rfl), by decide, ⟨by decide +kernel, by decide +kernel, by decide +kernel⟩⟩
theorem w_11_339 : x_cv RX11 339 yX1_layAll cX1_layAll 7 (none) 1 4 := ⟨⟨_, rfl, rfl⟩, (x_in 1171 (by decide +kernel) rfl), (x_in 1172 (by decide +kernel) rfl), (x_in 1173 (by decide +kernel) rfl), (x_in 88 (by decide +kernel) rfl), (x_in 1174 (by decide +kernel) rfl), by decide, ⟨by decide +kernel, by decide +kernel, by decide +kernel⟩⟩
theorem w_11_343 : x_cv RX11 343 yX1_held cX1_held 3 (some .int) 1 0 := ⟨⟨_, rfl, rfl⟩, (x_in 1186 (by decide +kernel) rfl), (x_in 1187 (by decide +kernel) rfl), (x_in 1188 (by decide +kernel) rfl), (x_in 88 (by decide +kernel) rfl), (x_in 1189 (by decide +kernel) rfl), by decide, ⟨by decide +kernel, by decide +kernel, by decide +kernel⟩⟩
theorem w_11_345 : x_cv RX11 345 yX1_first cX1_first 2 (some .int) 1 0 := ⟨⟨_, rfl, rfl⟩, (x_in 1190 (by decide +kernel) rfl), (x_in 1191 (by decide +kernel) rfl), (x_in 1192 (by decide +kernel) rfl), (x_in 88 (by decide +kernel) rfl), (x_in 1193 (by decide +kernel) rfl), by decide, ⟨by decide +kernel, by decide +kernel, by decide +kernel⟩⟩
theorem w_11_348 : x_cv RX11 348 yX1_unlikeOn cX1_unlikeOn 5 (some .int) 1 1 := ⟨⟨_, rfl, rfl⟩, (x_in 1201 (by decide +kernel) rfl), (x_in 1202 (by decide +kernel) rfl), (x_in 1203 (by decide +kernel) rfl), (x_in 88 (by decide +kernel) rfl), (x_in 1204 (by decide +kernel) rfl), by decide, ⟨by decide +kernel, by decide +kernel, by decide +kernel⟩⟩
theorem c11_far {X : xC} {l : Launch} (hl : l.stackTraces = false) {N : Nat} {sh : xS} {D : xM} {la lb T C W : Nat} {G : Ldt} (hq : cq N sh D la lb T C W G) {a b : Int} (har : x_r a) (hbr : x_r b) : x_M X l yX11_far cX11_far 3 (some .int) 7 1 6 [.ref (x_b X + 0), .int (xI a), .int (xI b)] false N sh D (q_2t T a b (o_i (e_none 1000000 (D (la + 3 + 5) (a * 8 + b))))) false N sh (sc la D) := by
  obtain ⟨hX, hG, hR, ⟨hk, hd9, hpl⟩, hco⟩ := id hq
  obtain ⟨hN, x0, x1, x2, xla, xlb, x33, x35, x37, x39, x43, x45, x47, x51, x60, x61, hll⟩ := id hX
  have hla : la = 3 ∨ la = 18 := by omega
  have n0 : 0 < N := by omega
  have n1 : 1 < N := by omega
  have n2 : 2 < N := by omega
  have n33 : 33 < N := by omega
  have n34 : 34 < N := by omega
  have n35 : 35 < N := by omega
  have n36 : 36 < N := by omega
  have n37 : 37 < N := by omega
  have n38 : 38 < N := by omega
  have n39 : 39 < N := by omega
  have n40 : 40 < N := by omega
  have n41 : 41 < N := by omega
  have n42 : 42 < N := by omega
  have n43 : 43 < N := by omega
  have n45 : 45 < N := by omega
  have n47 : 47 < N := by omega
  have n51 : 51 < N := by omega
  have n60 : 60 < N := by omega
  have n61 : 61 < N := by omega
  have x33a := x33.2.1
  have x34 := x33.2.2.2
  have x35a := x35.2.1
  have x36 := x35.2.2.2
  have x37a := x37.2.1
  have x38 := x37.2.2.2
  have x39a := x39.2.1
  have x43a := x43.2.1
  have x45a := x45.2.1
  have x47a := x47.2.1
  have x51a := x51.2.1
  have xla0 := xla.2.1
  have xla1 := xla.2.2.1
  have xla2 := xla.2.2.2.1
  have hlaN : la < N := by have := xla.1; omega
  have hlaN1 : la + 1 < N := by have := xla.1; omega
  have hlaN2 : la + 2 < N := by have := xla.1; omega
  have hlaN3 : la + 3 < N := by have := xla.1; omega
  have hlaN10 : la + 10 < N := by have := xla.1; omega
  have xru := (is_L_ru xla).2.1
  have xro := (is_L_ro xla).2.1
  obtain ⟨hG1, hG2, hG3⟩ := ldG_G hG
  obtain ⟨n0', ⟨gT, gTb, gC, gCb, -⟩, -⟩ := id hG
  obtain ⟨rW, rWb, rT, -, ro1, ro2, ro3, ro4, ro5, ro6⟩ := id hR
  have hd0 : 0 ≤ D 34 0 := ((hk 0).1 rfl).1
  have hB : 161 * D 34 0 ≤ 160839 := by omega
  have hsc := sc_refl hG hco
  unfold q_2t
  by_cases ha : 0 ≤ a ∧ a < T
  · rw [if_pos ha]
    obtain ⟨ha0, ha1⟩ := id ha
    by_cases hb : 0 ≤ b ∧ b < T
    · rw [if_pos hb]
      obtain ⟨hb0, hb1⟩ := id hb
      refine x_ofW (by decide +kernel) hl (by simp [Value.category]) (by simp) ?_
      refine x_aload_n dX11_far_0 x_get_3_0 ?_
      refine x_iload_n dX11_far_1 x_get_3_1 ?_
      refine x_callV (As := [_]) dX11_far_2 w_11_161 (c11_nTown hl hq ha0 ha1) (by assumption) (by assumption) rfl rfl (Nat.le_of_ble_eq_true rfl) (Nat.le_of_ble_eq_true rfl) (Nat.le_of_ble_eq_true rfl) (Nat.le_of_ble_eq_true rfl) (Nat.le_of_ble_eq_true rfl) ?_
      intro d hd
      obtain rfl := Eq.symm hd
      refine x_aload_n dX11_far_5 x_get_3_0 ?_
      refine x_iload_n dX11_far_6 x_get_3_2 ?_
      refine x_callV (As := [_]) dX11_far_7 w_11_161 (c11_nTown hl hq hb0 hb1) (by assumption) (by assumption) rfl rfl (Nat.le_of_ble_eq_true rfl) (Nat.le_of_ble_eq_true rfl) (Nat.le_of_ble_eq_true rfl) (Nat.le_of_ble_eq_true rfl) (Nat.le_of_ble_eq_true rfl) ?_
      intro d hd
      obtain rfl := Eq.symm hd
      refine x_aload_n dX11_far_10 x_get_3_0 ?_
      refine x_getR dX11_far_11 fX_11_23 (by assumption) (by assumption) (by rfl) ?_
      refine x_getR dX11_far_14 fX_11_106 (by assumption) (by assumption) (by rfl) ?_
      refine x_iload_n dX11_far_17 x_get_3_1 ?_
      refine x_iload_n dX11_far_18 x_get_3_2 ?_
      refine x_callV (As := [_, _]) dX11_far_19 w_11_268 (c6_far hl (is_L_ro xla) hR ha0 (by omega) hb0 (by omega)) (by assumption) (by assumption) rfl rfl (Nat.le_of_ble_eq_true rfl) (Nat.le_of_ble_eq_true rfl) (Nat.le_of_ble_eq_true rfl) (Nat.le_of_ble_eq_true rfl) (Nat.le_of_ble_eq_true rfl) ?_
      intro d hd
      obtain rfl := Eq.symm hd
      exact x_iret dX11_far_22 rfl (Nat.le_of_ble_eq_true rfl) (Nat.le_of_ble_eq_true rfl) rfl rfl rfl hsc rfl
    · rw [if_neg hb]
      refine x_ofW (by decide +kernel) hl (by simp [Value.category]) (by simp) ?_
      refine x_aload_n dX11_far_0 x_get_3_0 ?_
      refine x_iload_n dX11_far_1 x_get_3_1 ?_
      refine x_callV (As := [_]) dX11_far_2 w_11_161 (c11_nTown hl hq ha0 ha1) (by assumption) (by assumption) rfl rfl (Nat.le_of_ble_eq_true rfl) (Nat.le_of_ble_eq_true rfl) (Nat.le_of_ble_eq_true rfl) (Nat.le_of_ble_eq_true rfl) (Nat.le_of_ble_eq_true rfl) ?_
      intro d hd
      obtain rfl := Eq.symm hd
      refine x_aload_n dX11_far_5 x_get_3_0 ?_
      refine x_iload_n dX11_far_6 x_get_3_2 ?_
      exact x_callVT (As := [_]) dX11_far_7 w_11_161 (c11_nTownT hl hq hbr hb) (by assumption) (by assumption) rfl rfl (Nat.le_of_ble_eq_true rfl) (Nat.le_of_ble_eq_true rfl) (Nat.le_of_ble_eq_true rfl) (Nat.le_of_ble_eq_true rfl) (Nat.le_of_ble_eq_true rfl) rfl rfl rfl rfl (fun d hd => by obtain rfl := Eq.symm hd; exact hsc) rfl (Nat.le_of_ble_eq_true rfl) (Nat.le_of_ble_eq_true rfl)
  · rw [if_neg ha]
    refine x_ofW (by decide +kernel) hl (by simp [Value.category]) (by simp) ?_
    refine x_aload_n dX11_far_0 x_get_3_0 ?_
    refine x_iload_n dX11_far_1 x_get_3_1 ?_
    exact x_callVT (As := [_]) dX11_far_2 w_11_161 (c11_nTownT hl hq har ha) (by assumption) (by assumption) rfl rfl (Nat.le_of_ble_eq_true rfl) (Nat.le_of_ble_eq_true rfl) (Nat.le_of_ble_eq_true rfl) (Nat.le_of_ble_eq_true rfl) (Nat.le_of_ble_eq_true rfl) rfl rfl rfl rfl (fun d hd => by obtain rfl := Eq.symm hd; exact hsc) rfl (Nat.le_of_ble_eq_true rfl) (Nat.le_of_ble_eq_true rfl)
theorem c11_leak {X : xC} {l : Launch} (hl : l.stackTraces = false) {N : Nat} {sh : xS} {D : xM} {la lb T C W : Nat} {G : Ldt} (hq : cq N sh D la lb T C W G) {a b : Int} (har : x_r a) (hbr : x_r b) : x_M X l yX11_leak cX11_leak 3 (some .int) 7 1 6 [.ref (x_b X + 0), .int (xI a), .int (xI b)] false N sh D (q_2t T a b (o_i (e_none 1000000 (D (la + 3 + 6) (a * 8 + b))))) false N sh (sc la D) := by
  obtain ⟨hX, hG, hR, ⟨hk, hd9, hpl⟩, hco⟩ := id hq
  obtain ⟨hN, x0, x1, x2, xla, xlb, x33, x35, x37, x39, x43, x45, x47, x51, x60, x61, hll⟩ := id hX
  have hla : la = 3 ∨ la = 18 := by omega
  have n0 : 0 < N := by omega
  have n1 : 1 < N := by omega
  have n2 : 2 < N := by omega
  have n33 : 33 < N := by omega
  have n34 : 34 < N := by omega
  have n35 : 35 < N := by omega
  have n36 : 36 < N := by omega
  have n37 : 37 < N := by omega
  have n38 : 38 < N := by omega
  have n39 : 39 < N := by omega
  have n40 : 40 < N := by omega
  have n41 : 41 < N := by omega
  have n42 : 42 < N := by omega
  have n43 : 43 < N := by omega
  have n45 : 45 < N := by omega
  have n47 : 47 < N := by omega
  have n51 : 51 < N := by omega
  have n60 : 60 < N := by omega
  have n61 : 61 < N := by omega
  have x33a := x33.2.1
  have x34 := x33.2.2.2
  have x35a := x35.2.1
  have x36 := x35.2.2.2
  have x37a := x37.2.1
  have x38 := x37.2.2.2
  have x39a := x39.2.1
  have x43a := x43.2.1
  have x45a := x45.2.1
  have x47a := x47.2.1
  have x51a := x51.2.1
  have xla0 := xla.2.1
  have xla1 := xla.2.2.1
  have xla2 := xla.2.2.2.1
  have hlaN : la < N := by have := xla.1; omega
  have hlaN1 : la + 1 < N := by have := xla.1; omega
  have hlaN2 : la + 2 < N := by have := xla.1; omega
  have hlaN3 : la + 3 < N := by have := xla.1; omega
  have hlaN10 : la + 10 < N := by have := xla.1; omega
  have xru := (is_L_ru xla).2.1
  have xro := (is_L_ro xla).2.1
  obtain ⟨hG1, hG2, hG3⟩ := ldG_G hG
  obtain ⟨n0', ⟨gT, gTb, gC, gCb, -⟩, -⟩ := id hG
  obtain ⟨rW, rWb, rT, -, ro1, ro2, ro3, ro4, ro5, ro6⟩ := id hR
  have hd0 : 0 ≤ D 34 0 := ((hk 0).1 rfl).1
  have hB : 161 * D 34 0 ≤ 160839 := by omega
  have hsc := sc_refl hG hco
  unfold q_2t
  by_cases ha : 0 ≤ a ∧ a < T
  · rw [if_pos ha]
    obtain ⟨ha0, ha1⟩ := id ha
    by_cases hb : 0 ≤ b ∧ b < T
    · rw [if_pos hb]
      obtain ⟨hb0, hb1⟩ := id hb
      refine x_ofW (by decide +kernel) hl (by simp [Value.category]) (by simp) ?_
      refine x_aload_n dX11_leak_0 x_get_3_0 ?_
      refine x_iload_n dX11_leak_1 x_get_3_1 ?_
      refine x_callV (As := [_]) dX11_leak_2 w_11_161 (c11_nTown hl hq ha0 ha1) (by assumption) (by assumption) rfl rfl (Nat.le_of_ble_eq_true rfl) (Nat.le_of_ble_eq_true rfl) (Nat.le_of_ble_eq_true rfl) (Nat.le_of_ble_eq_true rfl) (Nat.le_of_ble_eq_true rfl) ?_
      intro d hd
      obtain rfl := Eq.symm hd
      refine x_aload_n dX11_leak_5 x_get_3_0 ?_
      refine x_iload_n dX11_leak_6 x_get_3_2 ?_
      refine x_callV (As := [_]) dX11_leak_7 w_11_161 (c11_nTown hl hq hb0 hb1) (by assumption) (by assumption) rfl rfl (Nat.le_of_ble_eq_true rfl) (Nat.le_of_ble_eq_true rfl) (Nat.le_of_ble_eq_true rfl) (Nat.le_of_ble_eq_true rfl) (Nat.le_of_ble_eq_true rfl) ?_
      intro d hd
      obtain rfl := Eq.symm hd
      refine x_aload_n dX11_leak_10 x_get_3_0 ?_
      refine x_getR dX11_leak_11 fX_11_23 (by assumption) (by assumption) (by rfl) ?_
      refine x_getR dX11_leak_14 fX_11_106 (by assumption) (by assumption) (by rfl) ?_
      refine x_iload_n dX11_leak_17 x_get_3_1 ?_
      refine x_iload_n dX11_leak_18 x_get_3_2 ?_
      refine x_callV (As := [_, _]) dX11_leak_19 w_11_271 (c6_leak hl (is_L_ro xla) hR ha0 (by omega) hb0 (by omega)) (by assumption) (by assumption) rfl rfl (Nat.le_of_ble_eq_true rfl) (Nat.le_of_ble_eq_true rfl) (Nat.le_of_ble_eq_true rfl) (Nat.le_of_ble_eq_true rfl) (Nat.le_of_ble_eq_true rfl) ?_
      intro d hd
      obtain rfl := Eq.symm hd
      exact x_iret dX11_leak_22 rfl (Nat.le_of_ble_eq_true rfl) (Nat.le_of_ble_eq_true rfl) rfl rfl rfl hsc rfl
    · rw [if_neg hb]
      refine x_ofW (by decide +kernel) hl (by simp [Value.category]) (by simp) ?_
      refine x_aload_n dX11_leak_0 x_get_3_0 ?_
      refine x_iload_n dX11_leak_1 x_get_3_1 ?_
      refine x_callV (As := [_]) dX11_leak_2 w_11_161 (c11_nTown hl hq ha0 ha1) (by assumption) (by assumption) rfl rfl (Nat.le_of_ble_eq_true rfl) (Nat.le_of_ble_eq_true rfl) (Nat.le_of_ble_eq_true rfl) (Nat.le_of_ble_eq_true rfl) (Nat.le_of_ble_eq_true rfl) ?_
      intro d hd
      obtain rfl := Eq.symm hd
      refine x_aload_n dX11_leak_5 x_get_3_0 ?_
      refine x_iload_n dX11_leak_6 x_get_3_2 ?_
      exact x_callVT (As := [_]) dX11_leak_7 w_11_161 (c11_nTownT hl hq hbr hb) (by assumption) (by assumption) rfl rfl (Nat.le_of_ble_eq_true rfl) (Nat.le_of_ble_eq_true rfl) (Nat.le_of_ble_eq_true rfl) (Nat.le_of_ble_eq_true rfl) (Nat.le_of_ble_eq_true rfl) rfl rfl rfl rfl (fun d hd => by obtain rfl := Eq.symm hd; exact hsc) rfl (Nat.le_of_ble_eq_true rfl) (Nat.le_of_ble_eq_true rfl)
  · rw [if_neg ha]
    refine x_ofW (by decide +kernel) hl (by simp [Value.category]) (by simp) ?_
    refine x_aload_n dX11_leak_0 x_get_3_0 ?_
    refine x_iload_n dX11_leak_1 x_get_3_1 ?_
    exact x_callVT (As := [_]) dX11_leak_2 w_11_161 (c11_nTownT hl hq har ha) (by assumption) (by assumption) rfl rfl (Nat.le_of_ble_eq_true rfl) (Nat.le_of_ble_eq_true rfl) (Nat.le_of_ble_eq_true rfl) (Nat.le_of_ble_eq_true rfl) (Nat.le_of_ble_eq_true rfl) rfl rfl rfl rfl (fun d hd => by obtain rfl := Eq.symm hd; exact hsc) rfl (Nat.le_of_ble_eq_true rfl) (Nat.le_of_ble_eq_true rfl)
theorem c11_hub {X : xC} {l : Launch} (hl : l.stackTraces = false) {N : Nat} {sh : xS} {D : xM} {la lb T C W : Nat} {G : Ldt} (hq : cq N sh D la lb T C W G) : x_M X l yX11_hub cX11_hub 1 (some .int) 7 1 6 [.ref (x_b X + 0)] false N sh D (o_i (e_mid 1000000 (D (la + 3 + 5)) T T).1) false N sh (sc la D) := by
  obtain ⟨hX, hG, hR, ⟨hk, hd9, hpl⟩, hco⟩ := id hq
  obtain ⟨hN, x0, x1, x2, xla, xlb, x33, x35, x37, x39, x43, x45, x47, x51, x60, x61, hll⟩ := id hX
  have hla : la = 3 ∨ la = 18 := by omega
  have n0 : 0 < N := by omega
  have n1 : 1 < N := by omega
  have n2 : 2 < N := by omega
  have n33 : 33 < N := by omega
  have n34 : 34 < N := by omega
  have n35 : 35 < N := by omega
  have n36 : 36 < N := by omega
  have n37 : 37 < N := by omega
  have n38 : 38 < N := by omega
  have n39 : 39 < N := by omega
  have n40 : 40 < N := by omega
  have n41 : 41 < N := by omega
  have n42 : 42 < N := by omega
  have n43 : 43 < N := by omega
  have n45 : 45 < N := by omega
  have n47 : 47 < N := by omega
  have n51 : 51 < N := by omega
  have n60 : 60 < N := by omega
  have n61 : 61 < N := by omega
  have x33a := x33.2.1
  have x34 := x33.2.2.2
  have x35a := x35.2.1
  have x36 := x35.2.2.2
  have x37a := x37.2.1
  have x38 := x37.2.2.2
  have x39a := x39.2.1
  have x43a := x43.2.1
  have x45a := x45.2.1
  have x47a := x47.2.1
  have x51a := x51.2.1
  have xla0 := xla.2.1
  have xla1 := xla.2.2.1
  have xla2 := xla.2.2.2.1
  have hlaN : la < N := by have := xla.1; omega
  have hlaN1 : la + 1 < N := by have := xla.1; omega
  have hlaN2 : la + 2 < N := by have := xla.1; omega
  have hlaN3 : la + 3 < N := by have := xla.1; omega
  have hlaN10 : la + 10 < N := by have := xla.1; omega
  have xru := (is_L_ru xla).2.1
  have xro := (is_L_ro xla).2.1
  obtain ⟨hG1, hG2, hG3⟩ := ldG_G hG
  obtain ⟨n0', ⟨gT, gTb, gC, gCb, -⟩, -⟩ := id hG
  obtain ⟨rW, rWb, rT, -, ro1, ro2, ro3, ro4, ro5, ro6⟩ := id hR
  have hd0 : 0 ≤ D 34 0 := ((hk 0).1 rfl).1
  have hB : 161 * D 34 0 ≤ 160839 := by omega
  have hsc := sc_refl hG hco
  skip
  refine x_ofW (by decide +kernel) hl (by simp [Value.category]) (by simp) ?_
  refine x_aload_n dX11_hub_0 x_get_1_0 ?_
  refine x_getR dX11_hub_1 fX_11_23 (by assumption) (by assumption) (by rfl) ?_
  refine x_getR dX11_hub_4 fX_11_106 (by assumption) (by assumption) (by rfl) ?_
  refine x_callV (As := []) dX11_hub_7 w_11_280 (c6_mid hl (is_L_ro xla) hR) (by assumption) (by assumption) rfl rfl (Nat.le_of_ble_eq_true rfl) (Nat.le_of_ble_eq_true rfl) (Nat.le_of_ble_eq_true rfl) (Nat.le_of_ble_eq_true rfl) (Nat.le_of_ble_eq_true rfl) ?_
  intro d hd
  obtain rfl := Eq.symm hd
  exact x_iret dX11_hub_10 rfl (Nat.le_of_ble_eq_true rfl) (Nat.le_of_ble_eq_true rfl) rfl rfl rfl hsc rfl
theorem c11_bridge {X : xC} {l : Launch} (hl : l.stackTraces = false) {N : Nat} {sh : xS} {D : xM} {la lb T C W : Nat} {G : Ldt} (hq : cq N sh D la lb T C W G) {w : Int} (hwr : x_r w) : x_M X l yX11_bridge cX11_bridge 2 (some .boolean) 7 1 6 [.ref (x_b X + 0), .int (xI w)] false N sh D (q_1t W w (o_i (x_B (p_rr (D (la + 3 + 1)) (D (la + 3 + 2)) w W (2 ^ (D (la + 3 + 1) w).toNat) T &&& 2 ^ (D (la + 3 + 2) w).toNat = 0)))) false N sh (sc la D) := by
  obtain ⟨hX, hG, hR, ⟨hk, hd9, hpl⟩, hco⟩ := id hq
  obtain ⟨hN, x0, x1, x2, xla, xlb, x33, x35, x37, x39, x43, x45, x47, x51, x60, x61, hll⟩ := id hX
  have hla : la = 3 ∨ la = 18 := by omega
  have n0 : 0 < N := by omega
  have n1 : 1 < N := by omega
  have n2 : 2 < N := by omega
  have n33 : 33 < N := by omega
  have n34 : 34 < N := by omega
  have n35 : 35 < N := by omega
  have n36 : 36 < N := by omega
  have n37 : 37 < N := by omega
  have n38 : 38 < N := by omega
  have n39 : 39 < N := by omega
  have n40 : 40 < N := by omega
  have n41 : 41 < N := by omega
  have n42 : 42 < N := by omega
  have n43 : 43 < N := by omega
  have n45 : 45 < N := by omega
  have n47 : 47 < N := by omega
  have n51 : 51 < N := by omega
  have n60 : 60 < N := by omega
  have n61 : 61 < N := by omega
  have x33a := x33.2.1
  have x34 := x33.2.2.2
  have x35a := x35.2.1
  have x36 := x35.2.2.2
  have x37a := x37.2.1
  have x38 := x37.2.2.2
  have x39a := x39.2.1
  have x43a := x43.2.1
  have x45a := x45.2.1
  have x47a := x47.2.1
  have x51a := x51.2.1
  have xla0 := xla.2.1
  have xla1 := xla.2.2.1
  have xla2 := xla.2.2.2.1
  have hlaN : la < N := by have := xla.1; omega
  have hlaN1 : la + 1 < N := by have := xla.1; omega
  have hlaN2 : la + 2 < N := by have := xla.1; omega
  have hlaN3 : la + 3 < N := by have := xla.1; omega
  have hlaN10 : la + 10 < N := by have := xla.1; omega
  have xru := (is_L_ru xla).2.1
  have xro := (is_L_ro xla).2.1
  obtain ⟨hG1, hG2, hG3⟩ := ldG_G hG
  obtain ⟨n0', ⟨gT, gTb, gC, gCb, -⟩, -⟩ := id hG
  obtain ⟨rW, rWb, rT, -, ro1, ro2, ro3, ro4, ro5, ro6⟩ := id hR
  have hd0 : 0 ≤ D 34 0 := ((hk 0).1 rfl).1
  have hB : 161 * D 34 0 ≤ 160839 := by omega
  have hsc := sc_refl hG hco
  unfold q_1t
  by_cases hw : 0 ≤ w ∧ w < W
  · rw [if_pos hw]
    obtain ⟨hw0, hw1⟩ := id hw
    refine x_ofW (by decide +kernel) hl (by simp [Value.category]) (by simp) ?_
    refine x_aload_n dX11_bridge_0 x_get_2_0 ?_
    refine x_iload_n dX11_bridge_1 x_get_2_1 ?_
    refine x_callV (As := [_]) dX11_bridge_2 w_11_201 (c11_nWay hl hq hw0 hw1) (by assumption) (by assumption) rfl rfl (Nat.le_of_ble_eq_true rfl) (Nat.le_of_ble_eq_true rfl) (Nat.le_of_ble_eq_true rfl) (Nat.le_of_ble_eq_true rfl) (Nat.le_of_ble_eq_true rfl) ?_
    intro d hd
    obtain rfl := Eq.symm hd
    refine x_aload_n dX11_bridge_5 x_get_2_0 ?_
    refine x_getR dX11_bridge_6 fX_11_23 (by assumption) (by assumption) (by rfl) ?_
    refine x_getR dX11_bridge_9 fX_11_106 (by assumption) (by assumption) (by rfl) ?_
    refine x_iload_n dX11_bridge_12 x_get_2_1 ?_
    refine x_callV (As := [_]) dX11_bridge_13 w_11_283 (c6_parts hl (is_L_ro xla) hR hw0 (by omega)) (by assumption) (by assumption) rfl rfl (Nat.le_of_ble_eq_true rfl) (Nat.le_of_ble_eq_true rfl) (Nat.le_of_ble_eq_true rfl) (Nat.le_of_ble_eq_true rfl) (Nat.le_of_ble_eq_true rfl) ?_
    intro d hd
    obtain rfl := Eq.symm hd
    exact x_zret dX11_bridge_16 rfl (x_B_01 _) (Nat.le_of_ble_eq_true rfl) (Nat.le_of_ble_eq_true rfl) rfl rfl rfl hsc rfl
  · rw [if_neg hw]
    refine x_ofW (by decide +kernel) hl (by simp [Value.category]) (by simp) ?_
    refine x_aload_n dX11_bridge_0 x_get_2_0 ?_
    refine x_iload_n dX11_bridge_1 x_get_2_1 ?_
    exact x_callVT (As := [_]) dX11_bridge_2 w_11_201 (c11_nWayT hl hq hwr hw) (by assumption) (by assumption) rfl rfl (Nat.le_of_ble_eq_true rfl) (Nat.le_of_ble_eq_true rfl) (Nat.le_of_ble_eq_true rfl) (Nat.le_of_ble_eq_true rfl) (Nat.le_of_ble_eq_true rfl) rfl rfl rfl rfl (fun d hd => by obtain rfl := Eq.symm hd; exact hsc) rfl (Nat.le_of_ble_eq_true rfl) (Nat.le_of_ble_eq_true rfl)
theorem c11_row {X : xC} {l : Launch} (hl : l.stackTraces = false) {N : Nat} {sh : xS} {D : xM} {la lb T C W : Nat} {G : Ldt} (hq : cq N sh D la lb T C W G) {a b : Int} (har : x_r a) (hbr : x_r b) {i : Int} (hir : x_r i) : x_M X l yX11_row cX11_row 5 (some .int) 7 1 6 [.ref (x_b X + 0), .int (xI a), .int (xI b), .int (xI i)] false N sh D (q_row T W (D (la + 3 + 1)) (D (la + 3 + 2)) (D (la + 3 + 3)) (D (la + 3 + 5)) a b i) false N sh (sc la D) := by
  obtain ⟨hX, hG, hR, ⟨hk, hd9, hpl⟩, hco⟩ := id hq
  obtain ⟨hN, x0, x1, x2, xla, xlb, x33, x35, x37, x39, x43, x45, x47, x51, x60, x61, hll⟩ := id hX
  have hla : la = 3 ∨ la = 18 := by omega
  have n0 : 0 < N := by omega
  have n1 : 1 < N := by omega
  have n2 : 2 < N := by omega
  have n33 : 33 < N := by omega
  have n34 : 34 < N := by omega
  have n35 : 35 < N := by omega
  have n36 : 36 < N := by omega
  have n37 : 37 < N := by omega
  have n38 : 38 < N := by omega
  have n39 : 39 < N := by omega
  have n40 : 40 < N := by omega
  have n41 : 41 < N := by omega
  have n42 : 42 < N := by omega
  have n43 : 43 < N := by omega
  have n45 : 45 < N := by omega
  have n47 : 47 < N := by omega
  have n51 : 51 < N := by omega
  have n60 : 60 < N := by omega
  have n61 : 61 < N := by omega
  have x33a := x33.2.1
  have x34 := x33.2.2.2
  have x35a := x35.2.1
  have x36 := x35.2.2.2
  have x37a := x37.2.1
  have x38 := x37.2.2.2
  have x39a := x39.2.1
  have x43a := x43.2.1
  have x45a := x45.2.1
  have x47a := x47.2.1
  have x51a := x51.2.1
  have xla0 := xla.2.1
  have xla1 := xla.2.2.1
  have xla2 := xla.2.2.2.1
  have hlaN : la < N := by have := xla.1; omega
  have hlaN1 : la + 1 < N := by have := xla.1; omega
  have hlaN2 : la + 2 < N := by have := xla.1; omega
  have hlaN3 : la + 3 < N := by have := xla.1; omega
  have hlaN10 : la + 10 < N := by have := xla.1; omega
  have xru := (is_L_ru xla).2.1
  have xro := (is_L_ro xla).2.1
  obtain ⟨hG1, hG2, hG3⟩ := ldG_G hG
  obtain ⟨n0', ⟨gT, gTb, gC, gCb, -⟩, -⟩ := id hG
  obtain ⟨rW, rWb, rT, -, ro1, ro2, ro3, ro4, ro5, ro6⟩ := id hR
  have hd0 : 0 ≤ D 34 0 := ((hk 0).1 rfl).1
  have hB : 161 * D 34 0 ≤ 160839 := by omega
  have hsc := sc_refl hG hco
  unfold q_row q_2t
  by_cases ha : 0 ≤ a ∧ a < T
  · rw [if_pos ha]
    obtain ⟨ha0, ha1⟩ := id ha
    by_cases hb : 0 ≤ b ∧ b < T
    · rw [if_pos hb]
      obtain ⟨hb0, hb1⟩ := id hb
      have hai : x_r (e_along (D (la + 3 + 1)) (D (la + 3 + 2)) (D (la + 3 + 3)) (D (la + 3 + 5)) W T a b i) := e_along_r _ _ _ _ gTb (by omega) _ _
      by_cases hal : (e_along (D (la + 3 + 1)) (D (la + 3 + 2)) (D (la + 3 + 3)) (D (la + 3 + 5)) W T a b i) = -1
      · rw [if_pos hal]
        refine x_ofW (by decide +kernel) hl (by simp [Value.category]) (by simp) ?_
        refine x_aload_n dX11_row_0 x_get_5_0 ?_
        refine x_iload_n dX11_row_1 x_get_5_1 ?_
        refine x_callV (As := [_]) dX11_row_2 w_11_161 (c11_nTown hl hq ha0 ha1) (by assumption) (by assumption) rfl rfl (Nat.le_of_ble_eq_true rfl) (Nat.le_of_ble_eq_true rfl) (Nat.le_of_ble_eq_true rfl) (Nat.le_of_ble_eq_true rfl) (Nat.le_of_ble_eq_true rfl) ?_
        intro d hd
        obtain rfl := Eq.symm hd
        refine x_aload_n dX11_row_5 x_get_5_0 ?_
        refine x_iload_n dX11_row_6 x_get_5_2 ?_
        refine x_callV (As := [_]) dX11_row_7 w_11_161 (c11_nTown hl hq hb0 hb1) (by assumption) (by assumption) rfl rfl (Nat.le_of_ble_eq_true rfl) (Nat.le_of_ble_eq_true rfl) (Nat.le_of_ble_eq_true rfl) (Nat.le_of_ble_eq_true rfl) (Nat.le_of_ble_eq_true rfl) ?_
        intro d hd
        obtain rfl := Eq.symm hd
        refine x_aload_n dX11_row_10 x_get_5_0 ?_
        refine x_getR dX11_row_11 fX_11_23 (by assumption) (by assumption) (by rfl) ?_
        refine x_getR dX11_row_14 fX_11_106 (by assumption) (by assumption) (by rfl) ?_
        refine x_iload_n dX11_row_17 x_get_5_1 ?_
        refine x_iload_n dX11_row_18 x_get_5_2 ?_
        refine x_iload_n dX11_row_19 x_get_5_3 ?_
        refine x_callV (As := [_, _, _]) dX11_row_20 w_11_274 (c6_along hl (is_L_ro xla) hR ha0 (by omega) hb0 (by omega) hir) (by assumption) (by assumption) rfl rfl (Nat.le_of_ble_eq_true rfl) (Nat.le_of_ble_eq_true rfl) (Nat.le_of_ble_eq_true rfl) (Nat.le_of_ble_eq_true rfl) (Nat.le_of_ble_eq_true rfl) ?_
        intro d hd
        obtain rfl := Eq.symm hd
        refine x_istore dX11_row_23 (Nat.le_of_ble_eq_true rfl) rfl x_set_5_4 ?_
        refine x_iload dX11_row_25 x_get_5_4 ?_
        refine x_iconst dX11_row_27 ?_
        refine r_icmp_ne (t := 42) dX11_row_28 rfl hai ⟨by decide, by decide⟩ (fun hc28 => absurd hc28 (fun h => h hal)) (fun hc28 => ?_)
        exact x_throwW 27 (by decide) tw_NSE rfl dX11_row_31 dX11_row_34 dX11_row_35 dX11_row_38 dX11_row_41 (Nat.le_of_ble_eq_true rfl) (Nat.le_of_ble_eq_true rfl) (Nat.le_of_ble_eq_true rfl) (Nat.le_of_ble_eq_true rfl) rfl rfl rfl rfl hsc rfl (Nat.le_of_ble_eq_true rfl) (Nat.le_of_ble_eq_true rfl)
      · rw [if_neg hal]
        refine x_ofW (by decide +kernel) hl (by simp [Value.category]) (by simp) ?_
        refine x_aload_n dX11_row_0 x_get_5_0 ?_
        refine x_iload_n dX11_row_1 x_get_5_1 ?_
        refine x_callV (As := [_]) dX11_row_2 w_11_161 (c11_nTown hl hq ha0 ha1) (by assumption) (by assumption) rfl rfl (Nat.le_of_ble_eq_true rfl) (Nat.le_of_ble_eq_true rfl) (Nat.le_of_ble_eq_true rfl) (Nat.le_of_ble_eq_true rfl) (Nat.le_of_ble_eq_true rfl) ?_
        intro d hd
        obtain rfl := Eq.symm hd
        refine x_aload_n dX11_row_5 x_get_5_0 ?_
        refine x_iload_n dX11_row_6 x_get_5_2 ?_
        refine x_callV (As := [_]) dX11_row_7 w_11_161 (c11_nTown hl hq hb0 hb1) (by assumption) (by assumption) rfl rfl (Nat.le_of_ble_eq_true rfl) (Nat.le_of_ble_eq_true rfl) (Nat.le_of_ble_eq_true rfl) (Nat.le_of_ble_eq_true rfl) (Nat.le_of_ble_eq_true rfl) ?_
        intro d hd
        obtain rfl := Eq.symm hd
        refine x_aload_n dX11_row_10 x_get_5_0 ?_
        refine x_getR dX11_row_11 fX_11_23 (by assumption) (by assumption) (by rfl) ?_
        refine x_getR dX11_row_14 fX_11_106 (by assumption) (by assumption) (by rfl) ?_
        refine x_iload_n dX11_row_17 x_get_5_1 ?_
        refine x_iload_n dX11_row_18 x_get_5_2 ?_
        refine x_iload_n dX11_row_19 x_get_5_3 ?_
        refine x_callV (As := [_, _, _]) dX11_row_20 w_11_274 (c6_along hl (is_L_ro xla) hR ha0 (by omega) hb0 (by omega) hir) (by assumption) (by assumption) rfl rfl (Nat.le_of_ble_eq_true rfl) (Nat.le_of_ble_eq_true rfl) (Nat.le_of_ble_eq_true rfl) (Nat.le_of_ble_eq_true rfl) (Nat.le_of_ble_eq_true rfl) ?_
        intro d hd
        obtain rfl := Eq.symm hd
        refine x_istore dX11_row_23 (Nat.le_of_ble_eq_true rfl) rfl x_set_5_4 ?_
        refine x_iload dX11_row_25 x_get_5_4 ?_
        refine x_iconst dX11_row_27 ?_
        refine r_icmp_ne (t := 42) dX11_row_28 rfl hai ⟨by decide, by decide⟩ (fun hc28 => ?_) (fun hc28 => absurd hc28 (hal))
        refine x_iload dX11_row_42 x_get_5_4 ?_
        exact x_iret dX11_row_44 rfl (Nat.le_of_ble_eq_true rfl) (Nat.le_of_ble_eq_true rfl) rfl rfl rfl hsc rfl
    · rw [if_neg hb]
      refine x_ofW (by decide +kernel) hl (by simp [Value.category]) (by simp) ?_
      refine x_aload_n dX11_row_0 x_get_5_0 ?_
      refine x_iload_n dX11_row_1 x_get_5_1 ?_
      refine x_callV (As := [_]) dX11_row_2 w_11_161 (c11_nTown hl hq ha0 ha1) (by assumption) (by assumption) rfl rfl (Nat.le_of_ble_eq_true rfl) (Nat.le_of_ble_eq_true rfl) (Nat.le_of_ble_eq_true rfl) (Nat.le_of_ble_eq_true rfl) (Nat.le_of_ble_eq_true rfl) ?_
      intro d hd
      obtain rfl := Eq.symm hd
      refine x_aload_n dX11_row_5 x_get_5_0 ?_
      refine x_iload_n dX11_row_6 x_get_5_2 ?_
      exact x_callVT (As := [_]) dX11_row_7 w_11_161 (c11_nTownT hl hq hbr hb) (by assumption) (by assumption) rfl rfl (Nat.le_of_ble_eq_true rfl) (Nat.le_of_ble_eq_true rfl) (Nat.le_of_ble_eq_true rfl) (Nat.le_of_ble_eq_true rfl) (Nat.le_of_ble_eq_true rfl) rfl rfl rfl rfl (fun d hd => by obtain rfl := Eq.symm hd; exact hsc) rfl (Nat.le_of_ble_eq_true rfl) (Nat.le_of_ble_eq_true rfl)
  · rw [if_neg ha]
    refine x_ofW (by decide +kernel) hl (by simp [Value.category]) (by simp) ?_
    refine x_aload_n dX11_row_0 x_get_5_0 ?_
    refine x_iload_n dX11_row_1 x_get_5_1 ?_
    exact x_callVT (As := [_]) dX11_row_2 w_11_161 (c11_nTownT hl hq har ha) (by assumption) (by assumption) rfl rfl (Nat.le_of_ble_eq_true rfl) (Nat.le_of_ble_eq_true rfl) (Nat.le_of_ble_eq_true rfl) (Nat.le_of_ble_eq_true rfl) (Nat.le_of_ble_eq_true rfl) rfl rfl rfl rfl (fun d hd => by obtain rfl := Eq.symm hd; exact hsc) rfl (Nat.le_of_ble_eq_true rfl) (Nat.le_of_ble_eq_true rfl)
theorem c11_sending {X : xC} {l : Launch} (hl : l.stackTraces = false) {N : Nat} {sh : xS} {D : xM} {la lb T C W : Nat} {G : Ldt} (hq : cq N sh D la lb T C W G) {t wa : Int} (htr : x_r t) (hnr : x_r wa) : x_M X l yX11_sending cX11_sending 3 (some .int) 7 1 6 [.ref (x_b X + 0), .int (xI t), .int (xI wa)] false N sh D (q_sendg T C (D 34) (D (la + 3 + 6)) t wa) false N sh (sc la D) := by
  obtain ⟨hX, hG, hR, ⟨hk, hd9, hpl⟩, hco⟩ := id hq
  obtain ⟨hN, x0, x1, x2, xla, xlb, x33, x35, x37, x39, x43, x45, x47, x51, x60, x61, hll⟩ := id hX
  have hla : la = 3 ∨ la = 18 := by omega
  have n0 : 0 < N := by omega
  have n1 : 1 < N := by omega
  have n2 : 2 < N := by omega
  have n33 : 33 < N := by omega
  have n34 : 34 < N := by omega
  have n35 : 35 < N := by omega
  have n36 : 36 < N := by omega
  have n37 : 37 < N := by omega
  have n38 : 38 < N := by omega
  have n39 : 39 < N := by omega
  have n40 : 40 < N := by omega
  have n41 : 41 < N := by omega
  have n42 : 42 < N := by omega
  have n43 : 43 < N := by omega
  have n45 : 45 < N := by omega
  have n47 : 47 < N := by omega
  have n51 : 51 < N := by omega
  have n60 : 60 < N := by omega
  have n61 : 61 < N := by omega
  have x33a := x33.2.1
  have x34 := x33.2.2.2
  have x35a := x35.2.1
  have x36 := x35.2.2.2
  have x37a := x37.2.1
  have x38 := x37.2.2.2
  have x39a := x39.2.1
  have x43a := x43.2.1
  have x45a := x45.2.1
  have x47a := x47.2.1
  have x51a := x51.2.1
  have xla0 := xla.2.1
  have xla1 := xla.2.2.1
  have xla2 := xla.2.2.2.1
  have hlaN : la < N := by have := xla.1; omega
  have hlaN1 : la + 1 < N := by have := xla.1; omega
  have hlaN2 : la + 2 < N := by have := xla.1; omega
  have hlaN3 : la + 3 < N := by have := xla.1; omega
  have hlaN10 : la + 10 < N := by have := xla.1; omega
  have xru := (is_L_ru xla).2.1
  have xro := (is_L_ro xla).2.1
  obtain ⟨hG1, hG2, hG3⟩ := ldG_G hG
  obtain ⟨n0', ⟨gT, gTb, gC, gCb, -⟩, -⟩ := id hG
  obtain ⟨rW, rWb, rT, -, ro1, ro2, ro3, ro4, ro5, ro6⟩ := id hR
  have hd0 : 0 ≤ D 34 0 := ((hk 0).1 rfl).1
  have hB : 161 * D 34 0 ≤ 160839 := by omega
  have hsc := sc_refl hG hco
  unfold q_sendg q_1t
  by_cases ht : 0 ≤ t ∧ t < T
  · rw [if_pos ht]
    obtain ⟨ht0, ht1⟩ := id ht
    by_cases hn : 1 ≤ wa ∧ wa ≤ 999
    · rw [if_pos hn]
      obtain ⟨hn0, hn1⟩ := id hn
      refine x_ofW (by decide +kernel) hl (by simp [Value.category]) (by simp) ?_
      refine x_aload_n dX11_sending_0 x_get_3_0 ?_
      refine x_iload_n dX11_sending_1 x_get_3_1 ?_
      refine x_callV (As := [_]) dX11_sending_2 w_11_161 (c11_nTown hl hq ht0 ht1) (by assumption) (by assumption) rfl rfl (Nat.le_of_ble_eq_true rfl) (Nat.le_of_ble_eq_true rfl) (Nat.le_of_ble_eq_true rfl) (Nat.le_of_ble_eq_true rfl) (Nat.le_of_ble_eq_true rfl) ?_
      intro d hd
      obtain rfl := Eq.symm hd
      refine x_iload_n dX11_sending_5 x_get_3_2 ?_
      refine x_iconst dX11_sending_6 ?_
      refine x_sipush dX11_sending_7 rfl ?_
      refine x_callS (As := [_, _, _]) dX11_sending_10 w_11_232 (c11_nIn hl hn0 hn1 (by decide) (by decide)) rfl rfl (Nat.le_of_ble_eq_true rfl) (Nat.le_of_ble_eq_true rfl) (Nat.le_of_ble_eq_true rfl) (Nat.le_of_ble_eq_true rfl) (Nat.le_of_ble_eq_true rfl) ?_
      intro d hd
      obtain rfl := Eq.symm hd
      refine x_aload_n dX11_sending_13 x_get_3_0 ?_
      refine x_getR dX11_sending_14 fX_11_23 (by assumption) (by assumption) (by rfl) ?_
      refine x_aload_n dX11_sending_17 x_get_3_0 ?_
      refine x_getR dX11_sending_18 fX_11_30 (by assumption) (by assumption) (by rfl) ?_
      refine x_iload_n dX11_sending_21 x_get_3_1 ?_
      refine x_iload_n dX11_sending_22 x_get_3_2 ?_
      refine x_callS (As := [_, _, _, _]) dX11_sending_23 w_11_286 (c4_send hl x33 (B := 161 * D 34 0) (by omega) hk xla gC gCb hR ht0 (by omega) hnr) rfl rfl (Nat.le_of_ble_eq_true rfl) (Nat.le_of_ble_eq_true rfl) (Nat.le_of_ble_eq_true rfl) (Nat.le_of_ble_eq_true rfl) (Nat.le_of_ble_eq_true rfl) ?_
      intro d hd
      obtain rfl := Eq.symm hd
      exact x_iret dX11_sending_26 rfl (Nat.le_of_ble_eq_true rfl) (Nat.le_of_ble_eq_true rfl) rfl rfl rfl hsc rfl
    · rw [if_neg hn]
      refine x_ofW (by decide +kernel) hl (by simp [Value.category]) (by simp) ?_
      refine x_aload_n dX11_sending_0 x_get_3_0 ?_
      refine x_iload_n dX11_sending_1 x_get_3_1 ?_
      refine x_callV (As := [_]) dX11_sending_2 w_11_161 (c11_nTown hl hq ht0 ht1) (by assumption) (by assumption) rfl rfl (Nat.le_of_ble_eq_true rfl) (Nat.le_of_ble_eq_true rfl) (Nat.le_of_ble_eq_true rfl) (Nat.le_of_ble_eq_true rfl) (Nat.le_of_ble_eq_true rfl) ?_
      intro d hd
      obtain rfl := Eq.symm hd
      refine x_iload_n dX11_sending_5 x_get_3_2 ?_
      refine x_iconst dX11_sending_6 ?_
      refine x_sipush dX11_sending_7 rfl ?_
      exact x_callST (As := [_, _, _]) dX11_sending_10 w_11_232 (c11_nInT hl hnr hn (by decide) (by decide) (by decide) (by decide)) rfl rfl (Nat.le_of_ble_eq_true rfl) (Nat.le_of_ble_eq_true rfl) (Nat.le_of_ble_eq_true rfl) (Nat.le_of_ble_eq_true rfl) (Nat.le_of_ble_eq_true rfl) rfl rfl rfl rfl (fun d hd => by obtain rfl := Eq.symm hd; exact hsc) rfl (Nat.le_of_ble_eq_true rfl) (Nat.le_of_ble_eq_true rfl)
  · rw [if_neg ht]
    refine x_ofW (by decide +kernel) hl (by simp [Value.category]) (by simp) ?_
    refine x_aload_n dX11_sending_0 x_get_3_0 ?_
    refine x_iload_n dX11_sending_1 x_get_3_1 ?_
    exact x_callVT (As := [_]) dX11_sending_2 w_11_161 (c11_nTownT hl hq htr ht) (by assumption) (by assumption) rfl rfl (Nat.le_of_ble_eq_true rfl) (Nat.le_of_ble_eq_true rfl) (Nat.le_of_ble_eq_true rfl) (Nat.le_of_ble_eq_true rfl) (Nat.le_of_ble_eq_true rfl) rfl rfl rfl rfl (fun d hd => by obtain rfl := Eq.symm hd; exact hsc) rfl (Nat.le_of_ble_eq_true rfl) (Nat.le_of_ble_eq_true rfl)
theorem c11_thief {X : xC} {l : Launch} (hl : l.stackTraces = false) {N : Nat} {sh : xS} {D : xM} {la lb T C W : Nat} {G : Ldt} (hq : cq N sh D la lb T C W G) {t ca : Int} (htr : x_r t) (hnr : x_r ca) : x_M X l yX11_thief cX11_thief 3 (some .int) 7 1 6 [.ref (x_b X + 0), .int (xI t), .int (xI ca)] false N sh D (q_thief T C (D 34) t ca) false N sh (sc la D) := by
  obtain ⟨hX, hG, hR, ⟨hk, hd9, hpl⟩, hco⟩ := id hq
  obtain ⟨hN, x0, x1, x2, xla, xlb, x33, x35, x37, x39, x43, x45, x47, x51, x60, x61, hll⟩ := id hX
  have hla : la = 3 ∨ la = 18 := by omega
  have n0 : 0 < N := by omega
  have n1 : 1 < N := by omega
  have n2 : 2 < N := by omega
  have n33 : 33 < N := by omega
  have n34 : 34 < N := by omega
  have n35 : 35 < N := by omega
  have n36 : 36 < N := by omega
  have n37 : 37 < N := by omega
  have n38 : 38 < N := by omega
  have n39 : 39 < N := by omega
  have n40 : 40 < N := by omega
  have n41 : 41 < N := by omega
  have n42 : 42 < N := by omega
  have n43 : 43 < N := by omega
  have n45 : 45 < N := by omega
  have n47 : 47 < N := by omega
  have n51 : 51 < N := by omega
  have n60 : 60 < N := by omega
  have n61 : 61 < N := by omega
  have x33a := x33.2.1
  have x34 := x33.2.2.2
  have x35a := x35.2.1
  have x36 := x35.2.2.2
  have x37a := x37.2.1
  have x38 := x37.2.2.2
  have x39a := x39.2.1
  have x43a := x43.2.1
  have x45a := x45.2.1
  have x47a := x47.2.1
  have x51a := x51.2.1
  have xla0 := xla.2.1
  have xla1 := xla.2.2.1
  have xla2 := xla.2.2.2.1
  have hlaN : la < N := by have := xla.1; omega
  have hlaN1 : la + 1 < N := by have := xla.1; omega
  have hlaN2 : la + 2 < N := by have := xla.1; omega
  have hlaN3 : la + 3 < N := by have := xla.1; omega
  have hlaN10 : la + 10 < N := by have := xla.1; omega
  have xru := (is_L_ru xla).2.1
  have xro := (is_L_ro xla).2.1
  obtain ⟨hG1, hG2, hG3⟩ := ldG_G hG
  obtain ⟨n0', ⟨gT, gTb, gC, gCb, -⟩, -⟩ := id hG
  obtain ⟨rW, rWb, rT, -, ro1, ro2, ro3, ro4, ro5, ro6⟩ := id hR
  have hd0 : 0 ≤ D 34 0 := ((hk 0).1 rfl).1
  have hB : 161 * D 34 0 ≤ 160839 := by omega
  have hsc := sc_refl hG hco
  unfold q_thief q_1t
  by_cases ht : 0 ≤ t ∧ t < T
  · rw [if_pos ht]
    obtain ⟨ht0, ht1⟩ := id ht
    by_cases hn : 0 ≤ ca ∧ ca ≤ 999
    · rw [if_pos hn]
      obtain ⟨hn0, hn1⟩ := id hn
      refine x_ofW (by decide +kernel) hl (by simp [Value.category]) (by simp) ?_
      refine x_aload_n dX11_thief_0 x_get_3_0 ?_
      refine x_iload_n dX11_thief_1 x_get_3_1 ?_
      refine x_callV (As := [_]) dX11_thief_2 w_11_161 (c11_nTown hl hq ht0 ht1) (by assumption) (by assumption) rfl rfl (Nat.le_of_ble_eq_true rfl) (Nat.le_of_ble_eq_true rfl) (Nat.le_of_ble_eq_true rfl) (Nat.le_of_ble_eq_true rfl) (Nat.le_of_ble_eq_true rfl) ?_
      intro d hd
      obtain rfl := Eq.symm hd
      refine x_iload_n dX11_thief_5 x_get_3_2 ?_
      refine x_iconst dX11_thief_6 ?_
      refine x_sipush dX11_thief_7 rfl ?_
      refine x_callS (As := [_, _, _]) dX11_thief_10 w_11_232 (c11_nIn hl hn0 hn1 (by decide) (by decide)) rfl rfl (Nat.le_of_ble_eq_true rfl) (Nat.le_of_ble_eq_true rfl) (Nat.le_of_ble_eq_true rfl) (Nat.le_of_ble_eq_true rfl) (Nat.le_of_ble_eq_true rfl) ?_
      intro d hd
      obtain rfl := Eq.symm hd
      refine x_aload_n dX11_thief_13 x_get_3_0 ?_
      refine x_getR dX11_thief_14 fX_11_23 (by assumption) (by assumption) (by rfl) ?_
      refine x_aload_n dX11_thief_17 x_get_3_0 ?_
      refine x_getR dX11_thief_18 fX_11_30 (by assumption) (by assumption) (by rfl) ?_
      refine x_iload_n dX11_thief_21 x_get_3_1 ?_
      refine x_iload_n dX11_thief_22 x_get_3_2 ?_
      refine x_callS (As := [_, _, _, _]) dX11_thief_23 w_11_292 (c4_steal hl x33 (B := 161 * D 34 0) (by omega) hk xla gC gCb ht0 (by omega) hnr) rfl rfl (Nat.le_of_ble_eq_true rfl) (Nat.le_of_ble_eq_true rfl) (Nat.le_of_ble_eq_true rfl) (Nat.le_of_ble_eq_true rfl) (Nat.le_of_ble_eq_true rfl) ?_
      intro d hd
      obtain rfl := Eq.symm hd
      exact x_iret dX11_thief_26 rfl (Nat.le_of_ble_eq_true rfl) (Nat.le_of_ble_eq_true rfl) rfl rfl rfl hsc rfl
    · rw [if_neg hn]
      refine x_ofW (by decide +kernel) hl (by simp [Value.category]) (by simp) ?_
      refine x_aload_n dX11_thief_0 x_get_3_0 ?_
      refine x_iload_n dX11_thief_1 x_get_3_1 ?_
      refine x_callV (As := [_]) dX11_thief_2 w_11_161 (c11_nTown hl hq ht0 ht1) (by assumption) (by assumption) rfl rfl (Nat.le_of_ble_eq_true rfl) (Nat.le_of_ble_eq_true rfl) (Nat.le_of_ble_eq_true rfl) (Nat.le_of_ble_eq_true rfl) (Nat.le_of_ble_eq_true rfl) ?_
      intro d hd
      obtain rfl := Eq.symm hd
      refine x_iload_n dX11_thief_5 x_get_3_2 ?_
      refine x_iconst dX11_thief_6 ?_
      refine x_sipush dX11_thief_7 rfl ?_
      exact x_callST (As := [_, _, _]) dX11_thief_10 w_11_232 (c11_nInT hl hnr hn (by decide) (by decide) (by decide) (by decide)) rfl rfl (Nat.le_of_ble_eq_true rfl) (Nat.le_of_ble_eq_true rfl) (Nat.le_of_ble_eq_true rfl) (Nat.le_of_ble_eq_true rfl) (Nat.le_of_ble_eq_true rfl) rfl rfl rfl rfl (fun d hd => by obtain rfl := Eq.symm hd; exact hsc) rfl (Nat.le_of_ble_eq_true rfl) (Nat.le_of_ble_eq_true rfl)
  · rw [if_neg ht]
    refine x_ofW (by decide +kernel) hl (by simp [Value.category]) (by simp) ?_
    refine x_aload_n dX11_thief_0 x_get_3_0 ?_
    refine x_iload_n dX11_thief_1 x_get_3_1 ?_
    exact x_callVT (As := [_]) dX11_thief_2 w_11_161 (c11_nTownT hl hq htr ht) (by assumption) (by assumption) rfl rfl (Nat.le_of_ble_eq_true rfl) (Nat.le_of_ble_eq_true rfl) (Nat.le_of_ble_eq_true rfl) (Nat.le_of_ble_eq_true rfl) (Nat.le_of_ble_eq_true rfl) rfl rfl rfl rfl (fun d hd => by obtain rfl := Eq.symm hd; exact hsc) rfl (Nat.le_of_ble_eq_true rfl) (Nat.le_of_ble_eq_true rfl)
theorem c11_level {X : xC} {l : Launch} (hl : l.stackTraces = false) {N : Nat} {sh : xS} {D : xM} {la lb T C W : Nat} {G : Ldt} (hq : cq N sh D la lb T C W G) {t : Int} (htr : x_r t) : x_M X l yX11_level cX11_level 2 (some .int) 7 1 6 [.ref (x_b X + 0), .int (xI t)] false N sh D (q_level T C (D 34) t) false N sh (sc la D) := by
  obtain ⟨hX, hG, hR, ⟨hk, hd9, hpl⟩, hco⟩ := id hq
  obtain ⟨hN, x0, x1, x2, xla, xlb, x33, x35, x37, x39, x43, x45, x47, x51, x60, x61, hll⟩ := id hX
  have hla : la = 3 ∨ la = 18 := by omega
  have n0 : 0 < N := by omega
  have n1 : 1 < N := by omega
  have n2 : 2 < N := by omega
  have n33 : 33 < N := by omega
  have n34 : 34 < N := by omega
  have n35 : 35 < N := by omega
  have n36 : 36 < N := by omega
  have n37 : 37 < N := by omega
  have n38 : 38 < N := by omega
  have n39 : 39 < N := by omega
  have n40 : 40 < N := by omega
  have n41 : 41 < N := by omega
  have n42 : 42 < N := by omega
  have n43 : 43 < N := by omega
  have n45 : 45 < N := by omega
  have n47 : 47 < N := by omega
  have n51 : 51 < N := by omega
  have n60 : 60 < N := by omega
  have n61 : 61 < N := by omega
  have x33a := x33.2.1
  have x34 := x33.2.2.2
  have x35a := x35.2.1
  have x36 := x35.2.2.2
  have x37a := x37.2.1
  have x38 := x37.2.2.2
  have x39a := x39.2.1
  have x43a := x43.2.1
  have x45a := x45.2.1
  have x47a := x47.2.1
  have x51a := x51.2.1
  have xla0 := xla.2.1
  have xla1 := xla.2.2.1
  have xla2 := xla.2.2.2.1
  have hlaN : la < N := by have := xla.1; omega
  have hlaN1 : la + 1 < N := by have := xla.1; omega
  have hlaN2 : la + 2 < N := by have := xla.1; omega
  have hlaN3 : la + 3 < N := by have := xla.1; omega
  have hlaN10 : la + 10 < N := by have := xla.1; omega
  have xru := (is_L_ru xla).2.1
  have xro := (is_L_ro xla).2.1
  obtain ⟨hG1, hG2, hG3⟩ := ldG_G hG
  obtain ⟨n0', ⟨gT, gTb, gC, gCb, -⟩, -⟩ := id hG
  obtain ⟨rW, rWb, rT, -, ro1, ro2, ro3, ro4, ro5, ro6⟩ := id hR
  have hd0 : 0 ≤ D 34 0 := ((hk 0).1 rfl).1
  have hB : 161 * D 34 0 ≤ 160839 := by omega
  have hsc := sc_refl hG hco
  unfold q_level q_1t
  by_cases ht : 0 ≤ t ∧ t < T
  · rw [if_pos ht]
    obtain ⟨ht0, ht1⟩ := id ht
    refine x_ofW (by decide +kernel) hl (by simp [Value.category]) (by simp) ?_
    refine x_aload_n dX11_level_0 x_get_2_0 ?_
    refine x_iload_n dX11_level_1 x_get_2_1 ?_
    refine x_callV (As := [_]) dX11_level_2 w_11_161 (c11_nTown hl hq ht0 ht1) (by assumption) (by assumption) rfl rfl (Nat.le_of_ble_eq_true rfl) (Nat.le_of_ble_eq_true rfl) (Nat.le_of_ble_eq_true rfl) (Nat.le_of_ble_eq_true rfl) (Nat.le_of_ble_eq_true rfl) ?_
    intro d hd
    obtain rfl := Eq.symm hd
    refine x_aload_n dX11_level_5 x_get_2_0 ?_
    refine x_getR dX11_level_6 fX_11_23 (by assumption) (by assumption) (by rfl) ?_
    refine x_aload_n dX11_level_9 x_get_2_0 ?_
    refine x_getR dX11_level_10 fX_11_30 (by assumption) (by assumption) (by rfl) ?_
    refine x_iload_n dX11_level_13 x_get_2_1 ?_
    refine x_callS (As := [_, _, _]) dX11_level_14 w_11_295 (c4_level hl x33 (B := 161 * D 34 0) (by omega) hk xla gC gCb ht0 (by omega)) rfl rfl (Nat.le_of_ble_eq_true rfl) (Nat.le_of_ble_eq_true rfl) (Nat.le_of_ble_eq_true rfl) (Nat.le_of_ble_eq_true rfl) (Nat.le_of_ble_eq_true rfl) ?_
    intro d hd
    obtain rfl := Eq.symm hd
    exact x_iret dX11_level_17 rfl (Nat.le_of_ble_eq_true rfl) (Nat.le_of_ble_eq_true rfl) rfl rfl rfl hsc rfl
  · rw [if_neg ht]
    refine x_ofW (by decide +kernel) hl (by simp [Value.category]) (by simp) ?_
    refine x_aload_n dX11_level_0 x_get_2_0 ?_
    refine x_iload_n dX11_level_1 x_get_2_1 ?_
    exact x_callVT (As := [_]) dX11_level_2 w_11_161 (c11_nTownT hl hq htr ht) (by assumption) (by assumption) rfl rfl (Nat.le_of_ble_eq_true rfl) (Nat.le_of_ble_eq_true rfl) (Nat.le_of_ble_eq_true rfl) (Nat.le_of_ble_eq_true rfl) (Nat.le_of_ble_eq_true rfl) rfl rfl rfl rfl (fun d hd => by obtain rfl := Eq.symm hd; exact hsc) rfl (Nat.le_of_ble_eq_true rfl) (Nat.le_of_ble_eq_true rfl)
theorem c11_hold {X : xC} {l : Launch} (hl : l.stackTraces = false) {N : Nat} {sh : xS} {D : xM} {la lb T C W : Nat} {G : Ldt} (hq : cq N sh D la lb T C W G) {t i : Int} (htr : x_r t) (hir : x_r i) : x_M X l yX11_hold cX11_hold 4 (some .int) 8 1 6 [.ref (x_b X + 0), .int (xI t), .int (xI i)] false N sh D (q_hold T C (D 34) t i) false N sh (sc la D) := by
  obtain ⟨hX, hG, hR, ⟨hk, hd9, hpl⟩, hco⟩ := id hq
  obtain ⟨hN, x0, x1, x2, xla, xlb, x33, x35, x37, x39, x43, x45, x47, x51, x60, x61, hll⟩ := id hX
  have hla : la = 3 ∨ la = 18 := by omega
  have n0 : 0 < N := by omega
  have n1 : 1 < N := by omega
  have n2 : 2 < N := by omega
  have n33 : 33 < N := by omega
  have n34 : 34 < N := by omega
  have n35 : 35 < N := by omega
  have n36 : 36 < N := by omega
  have n37 : 37 < N := by omega
  have n38 : 38 < N := by omega
  have n39 : 39 < N := by omega
  have n40 : 40 < N := by omega
  have n41 : 41 < N := by omega
  have n42 : 42 < N := by omega
  have n43 : 43 < N := by omega
  have n45 : 45 < N := by omega
  have n47 : 47 < N := by omega
  have n51 : 51 < N := by omega
  have n60 : 60 < N := by omega
  have n61 : 61 < N := by omega
  have x33a := x33.2.1
  have x34 := x33.2.2.2
  have x35a := x35.2.1
  have x36 := x35.2.2.2
  have x37a := x37.2.1
  have x38 := x37.2.2.2
  have x39a := x39.2.1
  have x43a := x43.2.1
  have x45a := x45.2.1
  have x47a := x47.2.1
  have x51a := x51.2.1
  have xla0 := xla.2.1
  have xla1 := xla.2.2.1
  have xla2 := xla.2.2.2.1
  have hlaN : la < N := by have := xla.1; omega
  have hlaN1 : la + 1 < N := by have := xla.1; omega
  have hlaN2 : la + 2 < N := by have := xla.1; omega
  have hlaN3 : la + 3 < N := by have := xla.1; omega
  have hlaN10 : la + 10 < N := by have := xla.1; omega
  have xru := (is_L_ru xla).2.1
  have xro := (is_L_ro xla).2.1
  obtain ⟨hG1, hG2, hG3⟩ := ldG_G hG
  obtain ⟨n0', ⟨gT, gTb, gC, gCb, -⟩, -⟩ := id hG
  obtain ⟨rW, rWb, rT, -, ro1, ro2, ro3, ro4, ro5, ro6⟩ := id hR
  have hd0 : 0 ≤ D 34 0 := ((hk 0).1 rfl).1
  have hB : 161 * D 34 0 ≤ 160839 := by omega
  have hsc := sc_refl hG hco
  obtain ⟨hir0, hir1⟩ := id hir
  unfold q_hold q_1t
  by_cases ht : 0 ≤ t ∧ t < T
  · rw [if_pos ht]
    obtain ⟨ht0, ht1⟩ := id ht
    have hbi : (s_bits (fun c => s_in (D 34) t c) C) < 1024 := s_bits_10 gCb
    have hpo := s_pop_le (s_bits (fun c => s_in (D 34) t c) C) hbi
    by_cases h1 : i = -1
    · rw [if_pos h1]
      refine x_ofW (by decide +kernel) hl (by simp [Value.category]) (by simp) ?_
      refine x_aload_n dX11_hold_0 x_get_4_0 ?_
      refine x_iload_n dX11_hold_1 x_get_4_1 ?_
      refine x_callV (As := [_]) dX11_hold_2 w_11_161 (c11_nTown hl hq ht0 ht1) (by assumption) (by assumption) rfl rfl (Nat.le_of_ble_eq_true rfl) (Nat.le_of_ble_eq_true rfl) (Nat.le_of_ble_eq_true rfl) (Nat.le_of_ble_eq_true rfl) (Nat.le_of_ble_eq_true rfl) ?_
      intro d hd
      obtain rfl := Eq.symm hd
      refine x_aload_n dX11_hold_5 x_get_4_0 ?_
      refine x_getR dX11_hold_6 fX_11_30 (by assumption) (by assumption) (by rfl) ?_
      refine x_aload_n dX11_hold_9 x_get_4_0 ?_
      refine x_getR dX11_hold_10 fX_11_23 (by assumption) (by assumption) (by rfl) ?_
      refine x_getI 1 dX11_hold_13 fX_11_132 rfl (by assumption) (by assumption) (by rfl) ?_
      rw [gC]
      refine x_iload_n dX11_hold_16 x_get_4_1 ?_
      refine x_callV (As := [_, _]) dX11_hold_17 w_11_180 (c9_bitsIn hl x33 (B := 161 * D 34 0) (by omega) hk gCb htr) (by assumption) (by assumption) rfl rfl (Nat.le_of_ble_eq_true rfl) (Nat.le_of_ble_eq_true rfl) (Nat.le_of_ble_eq_true rfl) (Nat.le_of_ble_eq_true rfl) (Nat.le_of_ble_eq_true rfl) ?_
      intro dz hdz
      obtain rfl := Eq.symm hdz
      refine x_istore_n dX11_hold_20 (Nat.le_of_ble_eq_true rfl) rfl x_set_4_3 ?_
      refine x_iload_n dX11_hold_21 x_get_4_2 ?_
      refine x_iconst dX11_hold_22 ?_
      refine r_icmp_ne (t := 35) dX11_hold_23 rfl ⟨by omega, by omega⟩ ⟨by omega, by omega⟩ (fun hc23 => absurd hc23 (by omega)) (fun hc23 => ?_)
      refine x_aload_n dX11_hold_26 x_get_4_0 ?_
      refine x_getR dX11_hold_27 fX_11_30 (by assumption) (by assumption) (by rfl) ?_
      refine x_iload_n dX11_hold_30 x_get_4_3 ?_
      refine x_callS (As := [_, _]) dX11_hold_31 w_11_298 (c4_harm hl x33 (B := 161 * D 34 0) (by omega) hk hbi) rfl rfl (Nat.le_of_ble_eq_true rfl) (Nat.le_of_ble_eq_true rfl) (Nat.le_of_ble_eq_true rfl) (Nat.le_of_ble_eq_true rfl) (Nat.le_of_ble_eq_true rfl) ?_
      intro dz hdz
      obtain rfl := Eq.symm hdz
      exact x_iret dX11_hold_34 rfl (Nat.le_of_ble_eq_true rfl) (Nat.le_of_ble_eq_true rfl) rfl rfl rfl hsc rfl
    · rw [if_neg h1]
      by_cases h2 : 0 ≤ i ∧ i < (s_pop (s_bits (fun c => s_in (D 34) t c) C) : Nat)
      · rw [if_pos h2]
        obtain ⟨j, rfl⟩ := Int.eq_ofNat_of_zero_le h2.1
        rw [Int.toNat_natCast]
        refine x_ofW (by decide +kernel) hl (by simp [Value.category]) (by simp) ?_
        refine x_aload_n dX11_hold_0 x_get_4_0 ?_
        refine x_iload_n dX11_hold_1 x_get_4_1 ?_
        refine x_callV (As := [_]) dX11_hold_2 w_11_161 (c11_nTown hl hq ht0 ht1) (by assumption) (by assumption) rfl rfl (Nat.le_of_ble_eq_true rfl) (Nat.le_of_ble_eq_true rfl) (Nat.le_of_ble_eq_true rfl) (Nat.le_of_ble_eq_true rfl) (Nat.le_of_ble_eq_true rfl) ?_
        intro d hd
        obtain rfl := Eq.symm hd
        refine x_aload_n dX11_hold_5 x_get_4_0 ?_
        refine x_getR dX11_hold_6 fX_11_30 (by assumption) (by assumption) (by rfl) ?_
        refine x_aload_n dX11_hold_9 x_get_4_0 ?_
        refine x_getR dX11_hold_10 fX_11_23 (by assumption) (by assumption) (by rfl) ?_
        refine x_getI 1 dX11_hold_13 fX_11_132 rfl (by assumption) (by assumption) (by rfl) ?_
        rw [gC]
        refine x_iload_n dX11_hold_16 x_get_4_1 ?_
        refine x_callV (As := [_, _]) dX11_hold_17 w_11_180 (c9_bitsIn hl x33 (B := 161 * D 34 0) (by omega) hk gCb htr) (by assumption) (by assumption) rfl rfl (Nat.le_of_ble_eq_true rfl) (Nat.le_of_ble_eq_true rfl) (Nat.le_of_ble_eq_true rfl) (Nat.le_of_ble_eq_true rfl) (Nat.le_of_ble_eq_true rfl) ?_
        intro dz hdz
        obtain rfl := Eq.symm hdz
        refine x_istore_n dX11_hold_20 (Nat.le_of_ble_eq_true rfl) rfl x_set_4_3 ?_
        refine x_iload_n dX11_hold_21 x_get_4_2 ?_
        refine x_iconst dX11_hold_22 ?_
        refine r_icmp_ne (t := 35) dX11_hold_23 rfl ⟨by omega, by omega⟩ ⟨by omega, by omega⟩ (fun hc23 => ?_) (fun hc23 => absurd hc23 (by omega))
        refine x_iload_n dX11_hold_35 x_get_4_2 ?_
        refine r_if_lt (t := 47) dX11_hold_36 rfl ⟨by omega, by omega⟩ (fun hc36 => absurd hc36 (by omega)) (fun hc36 => ?_)
        refine x_iload_n dX11_hold_39 x_get_4_2 ?_
        refine x_iload_n dX11_hold_40 x_get_4_3 ?_
        refine x_callS (As := [_]) dX11_hold_41 w_11_302 (cJ_bitCount hl hbi) rfl rfl (Nat.le_of_ble_eq_true rfl) (Nat.le_of_ble_eq_true rfl) (Nat.le_of_ble_eq_true rfl) (Nat.le_of_ble_eq_true rfl) (Nat.le_of_ble_eq_true rfl) ?_
        intro dz hdz
        obtain rfl := Eq.symm hdz
        refine r_icmp_lt (t := 58) dX11_hold_44 rfl ⟨by omega, by omega⟩ ⟨by omega, by omega⟩ (fun hc44 => ?_) (fun hc44 => absurd hc44 (by omega))
        refine x_aload_n dX11_hold_58 x_get_4_0 ?_
        refine x_getR dX11_hold_59 fX_11_30 (by assumption) (by assumption) (by rfl) ?_
        refine x_iload_n dX11_hold_62 x_get_4_3 ?_
        refine x_iload_n dX11_hold_63 x_get_4_2 ?_
        refine x_callS (As := [_, _, _]) dX11_hold_64 w_11_309 (c4_hold hl x33 (B := 161 * D 34 0) (by omega) hk hbi (i := j) (by omega)) rfl rfl (Nat.le_of_ble_eq_true rfl) (Nat.le_of_ble_eq_true rfl) (Nat.le_of_ble_eq_true rfl) (Nat.le_of_ble_eq_true rfl) (Nat.le_of_ble_eq_true rfl) ?_
        intro dz hdz
        obtain rfl := Eq.symm hdz
        exact x_iret dX11_hold_67 rfl (Nat.le_of_ble_eq_true rfl) (Nat.le_of_ble_eq_true rfl) rfl rfl rfl hsc rfl
      · rw [if_neg h2]
        refine x_ofW (by decide +kernel) hl (by simp [Value.category]) (by simp) ?_
        refine x_aload_n dX11_hold_0 x_get_4_0 ?_
        refine x_iload_n dX11_hold_1 x_get_4_1 ?_
        refine x_callV (As := [_]) dX11_hold_2 w_11_161 (c11_nTown hl hq ht0 ht1) (by assumption) (by assumption) rfl rfl (Nat.le_of_ble_eq_true rfl) (Nat.le_of_ble_eq_true rfl) (Nat.le_of_ble_eq_true rfl) (Nat.le_of_ble_eq_true rfl) (Nat.le_of_ble_eq_true rfl) ?_
        intro d hd
        obtain rfl := Eq.symm hd
        refine x_aload_n dX11_hold_5 x_get_4_0 ?_
        refine x_getR dX11_hold_6 fX_11_30 (by assumption) (by assumption) (by rfl) ?_
        refine x_aload_n dX11_hold_9 x_get_4_0 ?_
        refine x_getR dX11_hold_10 fX_11_23 (by assumption) (by assumption) (by rfl) ?_
        refine x_getI 1 dX11_hold_13 fX_11_132 rfl (by assumption) (by assumption) (by rfl) ?_
        rw [gC]
        refine x_iload_n dX11_hold_16 x_get_4_1 ?_
        refine x_callV (As := [_, _]) dX11_hold_17 w_11_180 (c9_bitsIn hl x33 (B := 161 * D 34 0) (by omega) hk gCb htr) (by assumption) (by assumption) rfl rfl (Nat.le_of_ble_eq_true rfl) (Nat.le_of_ble_eq_true rfl) (Nat.le_of_ble_eq_true rfl) (Nat.le_of_ble_eq_true rfl) (Nat.le_of_ble_eq_true rfl) ?_
        intro dz hdz
        obtain rfl := Eq.symm hdz
        refine x_istore_n dX11_hold_20 (Nat.le_of_ble_eq_true rfl) rfl x_set_4_3 ?_
        refine x_iload_n dX11_hold_21 x_get_4_2 ?_
        refine x_iconst dX11_hold_22 ?_
        refine r_icmp_ne (t := 35) dX11_hold_23 rfl ⟨by omega, by omega⟩ ⟨by omega, by omega⟩ (fun hc23 => ?_) (fun hc23 => absurd hc23 (by omega))
        refine x_iload_n dX11_hold_35 x_get_4_2 ?_
        refine r_if_lt (t := 47) dX11_hold_36 rfl ⟨by omega, by omega⟩ (fun hc36 => ?_) (fun hc36 => ?_)
        · exact x_throwW 24 (by decide) tw_NSE rfl dX11_hold_47 dX11_hold_50 dX11_hold_51 dX11_hold_54 dX11_hold_57 (Nat.le_of_ble_eq_true rfl) (Nat.le_of_ble_eq_true rfl) (Nat.le_of_ble_eq_true rfl) (Nat.le_of_ble_eq_true rfl) rfl rfl rfl rfl hsc rfl (Nat.le_of_ble_eq_true rfl) (Nat.le_of_ble_eq_true rfl)
        · refine x_iload_n dX11_hold_39 x_get_4_2 ?_
          refine x_iload_n dX11_hold_40 x_get_4_3 ?_
          refine x_callS (As := [_]) dX11_hold_41 w_11_302 (cJ_bitCount hl hbi) rfl rfl (Nat.le_of_ble_eq_true rfl) (Nat.le_of_ble_eq_true rfl) (Nat.le_of_ble_eq_true rfl) (Nat.le_of_ble_eq_true rfl) (Nat.le_of_ble_eq_true rfl) ?_
          intro dz hdz
          obtain rfl := Eq.symm hdz
          refine r_icmp_lt (t := 58) dX11_hold_44 rfl ⟨by omega, by omega⟩ ⟨by omega, by omega⟩ (fun hc44 => absurd hc44 (by omega)) (fun hc44 => ?_)
          exact x_throwW 24 (by decide) tw_NSE rfl dX11_hold_47 dX11_hold_50 dX11_hold_51 dX11_hold_54 dX11_hold_57 (Nat.le_of_ble_eq_true rfl) (Nat.le_of_ble_eq_true rfl) (Nat.le_of_ble_eq_true rfl) (Nat.le_of_ble_eq_true rfl) rfl rfl rfl rfl hsc rfl (Nat.le_of_ble_eq_true rfl) (Nat.le_of_ble_eq_true rfl)
  · rw [if_neg ht]
    refine x_ofW (by decide +kernel) hl (by simp [Value.category]) (by simp) ?_
    refine x_aload_n dX11_hold_0 x_get_4_0 ?_
    refine x_iload_n dX11_hold_1 x_get_4_1 ?_
    exact x_callVT (As := [_]) dX11_hold_2 w_11_161 (c11_nTownT hl hq htr ht) (by assumption) (by assumption) rfl rfl (Nat.le_of_ble_eq_true rfl) (Nat.le_of_ble_eq_true rfl) (Nat.le_of_ble_eq_true rfl) (Nat.le_of_ble_eq_true rfl) (Nat.le_of_ble_eq_true rfl) rfl rfl rfl rfl (fun d hd => by obtain rfl := Eq.symm hd; exact hsc) rfl (Nat.le_of_ble_eq_true rfl) (Nat.le_of_ble_eq_true rfl)
theorem c11_thrower {X : xC} {l : Launch} (hl : l.stackTraces = false) {N : Nat} {sh : xS} {D : xM} {la lb T C W : Nat} {G : Ldt} (hq : cq N sh D la lb T C W G) {g tw goal n : Int} (hgr : x_r g) (htr : x_r tw) (har : x_r goal) (hnr : x_r n) : x_M X l yX11_thrower cX11_thrower 5 (some .int) 10 1 6 [.ref (x_b X + 0), .int (xI g), .int (xI tw), .int (xI goal), .int (xI n)] false N sh D (q_thrower g tw goal n) false N sh (sc la D) := by
  obtain ⟨hX, hG, hR, ⟨hk, hd9, hpl⟩, hco⟩ := id hq
  obtain ⟨hN, x0, x1, x2, xla, xlb, x33, x35, x37, x39, x43, x45, x47, x51, x60, x61, hll⟩ := id hX
  have hla : la = 3 ∨ la = 18 := by omega
  have n0 : 0 < N := by omega
  have n1 : 1 < N := by omega
  have n2 : 2 < N := by omega
  have n33 : 33 < N := by omega
  have n34 : 34 < N := by omega
  have n35 : 35 < N := by omega
  have n36 : 36 < N := by omega
  have n37 : 37 < N := by omega
  have n38 : 38 < N := by omega
  have n39 : 39 < N := by omega
  have n40 : 40 < N := by omega
  have n41 : 41 < N := by omega
  have n42 : 42 < N := by omega
  have n43 : 43 < N := by omega
  have n45 : 45 < N := by omega
  have n47 : 47 < N := by omega
  have n51 : 51 < N := by omega
  have n60 : 60 < N := by omega
  have n61 : 61 < N := by omega
  have x33a := x33.2.1
  have x34 := x33.2.2.2
  have x35a := x35.2.1
  have x36 := x35.2.2.2
  have x37a := x37.2.1
  have x38 := x37.2.2.2
  have x39a := x39.2.1
  have x43a := x43.2.1
  have x45a := x45.2.1
  have x47a := x47.2.1
  have x51a := x51.2.1
  have xla0 := xla.2.1
  have xla1 := xla.2.2.1
  have xla2 := xla.2.2.2.1
  have hlaN : la < N := by have := xla.1; omega
  have hlaN1 : la + 1 < N := by have := xla.1; omega
  have hlaN2 : la + 2 < N := by have := xla.1; omega
  have hlaN3 : la + 3 < N := by have := xla.1; omega
  have hlaN10 : la + 10 < N := by have := xla.1; omega
  have xru := (is_L_ru xla).2.1
  have xro := (is_L_ro xla).2.1
  obtain ⟨hG1, hG2, hG3⟩ := ldG_G hG
  obtain ⟨n0', ⟨gT, gTb, gC, gCb, -⟩, -⟩ := id hG
  obtain ⟨rW, rWb, rT, -, ro1, ro2, ro3, ro4, ro5, ro6⟩ := id hR
  have hd0 : 0 ≤ D 34 0 := ((hk 0).1 rfl).1
  have hB : 161 * D 34 0 ≤ 160839 := by omega
  have hsc := sc_refl hG hco
  unfold q_thrower
  by_cases hg : 0 ≤ g ∧ g ≤ 20
  · rw [if_pos hg]
    obtain ⟨hg0, hg1⟩ := id hg
    by_cases ht : 0 ≤ tw ∧ tw ≤ 12
    · rw [if_pos ht]
      obtain ⟨ht0, ht1⟩ := id ht
      by_cases ha : 1 ≤ goal ∧ goal ≤ 20
      · rw [if_pos ha]
        obtain ⟨ha0, ha1⟩ := id ha
        by_cases hn : 0 ≤ n ∧ n ≤ 7
        · rw [if_pos hn]
          obtain ⟨hn0, hn1⟩ := id hn
          obtain ⟨m, rfl⟩ := Int.eq_ofNat_of_zero_le hn0
          rw [Int.toNat_natCast]
          have hgo : x_M X l yX10_toGoal cX10_toGoal 4 (some .int) (m + 2) 0 0 [.int (xI g), .int (xI tw), .int (xI goal), .int (xI ((m : Nat) : Int))] false N sh D (.inl (some (.int (xI (t_goal tw goal m g))))) false N sh (x_is D) := (c10_goal hl ht0 ht1 ha0 ha1 m (by omega) g hg0 (by omega))
          refine x_ofW (by decide +kernel) hl (by simp [Value.category]) (by simp) ?_
          refine x_iload_n dX11_thrower_0 x_get_5_1 ?_
          refine x_iconst dX11_thrower_1 ?_
          refine x_bipush dX11_thrower_2 rfl ?_
          refine x_callS (As := [_, _, _]) dX11_thrower_4 w_11_232 (c11_nIn hl hg0 hg1 (by decide) (by decide)) rfl rfl (Nat.le_of_ble_eq_true rfl) (Nat.le_of_ble_eq_true rfl) (Nat.le_of_ble_eq_true rfl) (Nat.le_of_ble_eq_true rfl) (Nat.le_of_ble_eq_true rfl) ?_
          intro d hd
          obtain rfl := Eq.symm hd
          refine x_iload_n dX11_thrower_7 x_get_5_2 ?_
          refine x_iconst dX11_thrower_8 ?_
          refine x_bipush dX11_thrower_9 rfl ?_
          refine x_callS (As := [_, _, _]) dX11_thrower_11 w_11_232 (c11_nIn hl ht0 ht1 (by decide) (by decide)) rfl rfl (Nat.le_of_ble_eq_true rfl) (Nat.le_of_ble_eq_true rfl) (Nat.le_of_ble_eq_true rfl) (Nat.le_of_ble_eq_true rfl) (Nat.le_of_ble_eq_true rfl) ?_
          intro d hd
          obtain rfl := Eq.symm hd
          refine x_iload_n dX11_thrower_14 x_get_5_3 ?_
          refine x_iconst dX11_thrower_15 ?_
          refine x_bipush dX11_thrower_16 rfl ?_
          refine x_callS (As := [_, _, _]) dX11_thrower_18 w_11_232 (c11_nIn hl ha0 ha1 (by decide) (by decide)) rfl rfl (Nat.le_of_ble_eq_true rfl) (Nat.le_of_ble_eq_true rfl) (Nat.le_of_ble_eq_true rfl) (Nat.le_of_ble_eq_true rfl) (Nat.le_of_ble_eq_true rfl) ?_
          intro d hd
          obtain rfl := Eq.symm hd
          refine x_iload dX11_thrower_21 x_get_5_4 ?_
          refine x_iconst dX11_thrower_23 ?_
          refine x_bipush dX11_thrower_24 rfl ?_
          refine x_callS (As := [_, _, _]) dX11_thrower_26 w_11_232 (c11_nIn hl hn0 hn1 (by decide) (by decide)) rfl rfl (Nat.le_of_ble_eq_true rfl) (Nat.le_of_ble_eq_true rfl) (Nat.le_of_ble_eq_true rfl) (Nat.le_of_ble_eq_true rfl) (Nat.le_of_ble_eq_true rfl) ?_
          intro d hd
          obtain rfl := Eq.symm hd
          refine x_iload_n dX11_thrower_29 x_get_5_1 ?_
          refine x_iload_n dX11_thrower_30 x_get_5_2 ?_
          refine x_iload_n dX11_thrower_31 x_get_5_3 ?_
          refine x_iload dX11_thrower_32 x_get_5_4 ?_
          refine x_callSN (As := [_, _, _, _]) dX11_thrower_34 w_11_313 (hgo) rfl rfl (Nat.le_of_ble_eq_true rfl) (show m + 2 + 1 ≤ 10 by omega) (show 64 * (m + 2) + 60 ≤ 64 * 10 by omega) (Nat.le_of_ble_eq_true rfl) (Nat.le_of_ble_eq_true rfl) ?_
          intro dz hdz
          obtain rfl := Eq.symm hdz
          exact x_iret dX11_thrower_37 rfl (Nat.le_of_ble_eq_true rfl) (Nat.le_of_ble_eq_true rfl) rfl rfl rfl hsc rfl
        · rw [if_neg hn]
          refine x_ofW (by decide +kernel) hl (by simp [Value.category]) (by simp) ?_
          refine x_iload_n dX11_thrower_0 x_get_5_1 ?_
          refine x_iconst dX11_thrower_1 ?_
          refine x_bipush dX11_thrower_2 rfl ?_
          refine x_callS (As := [_, _, _]) dX11_thrower_4 w_11_232 (c11_nIn hl hg0 hg1 (by decide) (by decide)) rfl rfl (Nat.le_of_ble_eq_true rfl) (Nat.le_of_ble_eq_true rfl) (Nat.le_of_ble_eq_true rfl) (Nat.le_of_ble_eq_true rfl) (Nat.le_of_ble_eq_true rfl) ?_
          intro d hd
          obtain rfl := Eq.symm hd
          refine x_iload_n dX11_thrower_7 x_get_5_2 ?_
          refine x_iconst dX11_thrower_8 ?_
          refine x_bipush dX11_thrower_9 rfl ?_
          refine x_callS (As := [_, _, _]) dX11_thrower_11 w_11_232 (c11_nIn hl ht0 ht1 (by decide) (by decide)) rfl rfl (Nat.le_of_ble_eq_true rfl) (Nat.le_of_ble_eq_true rfl) (Nat.le_of_ble_eq_true rfl) (Nat.le_of_ble_eq_true rfl) (Nat.le_of_ble_eq_true rfl) ?_
          intro d hd
          obtain rfl := Eq.symm hd
          refine x_iload_n dX11_thrower_14 x_get_5_3 ?_
          refine x_iconst dX11_thrower_15 ?_
          refine x_bipush dX11_thrower_16 rfl ?_
          refine x_callS (As := [_, _, _]) dX11_thrower_18 w_11_232 (c11_nIn hl ha0 ha1 (by decide) (by decide)) rfl rfl (Nat.le_of_ble_eq_true rfl) (Nat.le_of_ble_eq_true rfl) (Nat.le_of_ble_eq_true rfl) (Nat.le_of_ble_eq_true rfl) (Nat.le_of_ble_eq_true rfl) ?_
          intro d hd
          obtain rfl := Eq.symm hd
          refine x_iload dX11_thrower_21 x_get_5_4 ?_
          refine x_iconst dX11_thrower_23 ?_
          refine x_bipush dX11_thrower_24 rfl ?_
          exact x_callST (As := [_, _, _]) dX11_thrower_26 w_11_232 (c11_nInT hl hnr hn (by decide) (by decide) (by decide) (by decide)) rfl rfl (Nat.le_of_ble_eq_true rfl) (Nat.le_of_ble_eq_true rfl) (Nat.le_of_ble_eq_true rfl) (Nat.le_of_ble_eq_true rfl) (Nat.le_of_ble_eq_true rfl) rfl rfl rfl rfl (fun d hd => by obtain rfl := Eq.symm hd; exact hsc) rfl (Nat.le_of_ble_eq_true rfl) (Nat.le_of_ble_eq_true rfl)
      · rw [if_neg ha]
        refine x_ofW (by decide +kernel) hl (by simp [Value.category]) (by simp) ?_
        refine x_iload_n dX11_thrower_0 x_get_5_1 ?_
        refine x_iconst dX11_thrower_1 ?_
        refine x_bipush dX11_thrower_2 rfl ?_
        refine x_callS (As := [_, _, _]) dX11_thrower_4 w_11_232 (c11_nIn hl hg0 hg1 (by decide) (by decide)) rfl rfl (Nat.le_of_ble_eq_true rfl) (Nat.le_of_ble_eq_true rfl) (Nat.le_of_ble_eq_true rfl) (Nat.le_of_ble_eq_true rfl) (Nat.le_of_ble_eq_true rfl) ?_
        intro d hd
        obtain rfl := Eq.symm hd
        refine x_iload_n dX11_thrower_7 x_get_5_2 ?_
        refine x_iconst dX11_thrower_8 ?_
        refine x_bipush dX11_thrower_9 rfl ?_
        refine x_callS (As := [_, _, _]) dX11_thrower_11 w_11_232 (c11_nIn hl ht0 ht1 (by decide) (by decide)) rfl rfl (Nat.le_of_ble_eq_true rfl) (Nat.le_of_ble_eq_true rfl) (Nat.le_of_ble_eq_true rfl) (Nat.le_of_ble_eq_true rfl) (Nat.le_of_ble_eq_true rfl) ?_
        intro d hd
        obtain rfl := Eq.symm hd
        refine x_iload_n dX11_thrower_14 x_get_5_3 ?_
        refine x_iconst dX11_thrower_15 ?_
        refine x_bipush dX11_thrower_16 rfl ?_
        exact x_callST (As := [_, _, _]) dX11_thrower_18 w_11_232 (c11_nInT hl har ha (by decide) (by decide) (by decide) (by decide)) rfl rfl (Nat.le_of_ble_eq_true rfl) (Nat.le_of_ble_eq_true rfl) (Nat.le_of_ble_eq_true rfl) (Nat.le_of_ble_eq_true rfl) (Nat.le_of_ble_eq_true rfl) rfl rfl rfl rfl (fun d hd => by obtain rfl := Eq.symm hd; exact hsc) rfl (Nat.le_of_ble_eq_true rfl) (Nat.le_of_ble_eq_true rfl)
    · rw [if_neg ht]
      refine x_ofW (by decide +kernel) hl (by simp [Value.category]) (by simp) ?_
      refine x_iload_n dX11_thrower_0 x_get_5_1 ?_
      refine x_iconst dX11_thrower_1 ?_
      refine x_bipush dX11_thrower_2 rfl ?_
      refine x_callS (As := [_, _, _]) dX11_thrower_4 w_11_232 (c11_nIn hl hg0 hg1 (by decide) (by decide)) rfl rfl (Nat.le_of_ble_eq_true rfl) (Nat.le_of_ble_eq_true rfl) (Nat.le_of_ble_eq_true rfl) (Nat.le_of_ble_eq_true rfl) (Nat.le_of_ble_eq_true rfl) ?_
      intro d hd
      obtain rfl := Eq.symm hd
      refine x_iload_n dX11_thrower_7 x_get_5_2 ?_
      refine x_iconst dX11_thrower_8 ?_
      refine x_bipush dX11_thrower_9 rfl ?_
      exact x_callST (As := [_, _, _]) dX11_thrower_11 w_11_232 (c11_nInT hl htr ht (by decide) (by decide) (by decide) (by decide)) rfl rfl (Nat.le_of_ble_eq_true rfl) (Nat.le_of_ble_eq_true rfl) (Nat.le_of_ble_eq_true rfl) (Nat.le_of_ble_eq_true rfl) (Nat.le_of_ble_eq_true rfl) rfl rfl rfl rfl (fun d hd => by obtain rfl := Eq.symm hd; exact hsc) rfl (Nat.le_of_ble_eq_true rfl) (Nat.le_of_ble_eq_true rfl)
  · rw [if_neg hg]
    refine x_ofW (by decide +kernel) hl (by simp [Value.category]) (by simp) ?_
    refine x_iload_n dX11_thrower_0 x_get_5_1 ?_
    refine x_iconst dX11_thrower_1 ?_
    refine x_bipush dX11_thrower_2 rfl ?_
    exact x_callST (As := [_, _, _]) dX11_thrower_4 w_11_232 (c11_nInT hl hgr hg (by decide) (by decide) (by decide) (by decide)) rfl rfl (Nat.le_of_ble_eq_true rfl) (Nat.le_of_ble_eq_true rfl) (Nat.le_of_ble_eq_true rfl) (Nat.le_of_ble_eq_true rfl) (Nat.le_of_ble_eq_true rfl) rfl rfl rfl rfl (fun d hd => by obtain rfl := Eq.symm hd; exact hsc) rfl (Nat.le_of_ble_eq_true rfl) (Nat.le_of_ble_eq_true rfl)
theorem c11_stop {X : xC} {l : Launch} (hl : l.stackTraces = false) {N : Nat} {sh : xS} {D : xM} {la lb T C W : Nat} {G : Ldt} (hq : cq N sh D la lb T C W G) {g tw n w : Int} (hgr : x_r g) (htr : x_r tw) (hnr : x_r n) (hwr : x_r w) : x_M X l yX11_stop cX11_stop 7 (some .int) 10 1 6 [.ref (x_b X + 0), .int (xI g), .int (xI tw), .int (xI n), .int (xI w)] false N sh D (q_stop g tw n w) false N sh (sc la D) := by
  obtain ⟨hX, hG, hR, ⟨hk, hd9, hpl⟩, hco⟩ := id hq
  obtain ⟨hN, x0, x1, x2, xla, xlb, x33, x35, x37, x39, x43, x45, x47, x51, x60, x61, hll⟩ := id hX
  have hla : la = 3 ∨ la = 18 := by omega
  have n0 : 0 < N := by omega
  have n1 : 1 < N := by omega
  have n2 : 2 < N := by omega
  have n33 : 33 < N := by omega
  have n34 : 34 < N := by omega
  have n35 : 35 < N := by omega
  have n36 : 36 < N := by omega
  have n37 : 37 < N := by omega
  have n38 : 38 < N := by omega
  have n39 : 39 < N := by omega
  have n40 : 40 < N := by omega
  have n41 : 41 < N := by omega
  have n42 : 42 < N := by omega
  have n43 : 43 < N := by omega
  have n45 : 45 < N := by omega
  have n47 : 47 < N := by omega
  have n51 : 51 < N := by omega
  have n60 : 60 < N := by omega
  have n61 : 61 < N := by omega
  have x33a := x33.2.1
  have x34 := x33.2.2.2
  have x35a := x35.2.1
  have x36 := x35.2.2.2
  have x37a := x37.2.1
  have x38 := x37.2.2.2
  have x39a := x39.2.1
  have x43a := x43.2.1
  have x45a := x45.2.1
  have x47a := x47.2.1
  have x51a := x51.2.1
  have xla0 := xla.2.1
  have xla1 := xla.2.2.1
  have xla2 := xla.2.2.2.1
  have hlaN : la < N := by have := xla.1; omega
  have hlaN1 : la + 1 < N := by have := xla.1; omega
  have hlaN2 : la + 2 < N := by have := xla.1; omega
  have hlaN3 : la + 3 < N := by have := xla.1; omega
  have hlaN10 : la + 10 < N := by have := xla.1; omega
  have xru := (is_L_ru xla).2.1
  have xro := (is_L_ro xla).2.1
  obtain ⟨hG1, hG2, hG3⟩ := ldG_G hG
  obtain ⟨n0', ⟨gT, gTb, gC, gCb, -⟩, -⟩ := id hG
  obtain ⟨rW, rWb, rT, -, ro1, ro2, ro3, ro4, ro5, ro6⟩ := id hR
  have hd0 : 0 ≤ D 34 0 := ((hk 0).1 rfl).1
  have hB : 161 * D 34 0 ≤ 160839 := by omega
  have hsc := sc_refl hG hco
  unfold q_stop
  by_cases hw : 0 ≤ w ∧ w ≤ 1
  · rw [if_pos hw]
    obtain ⟨hw0, hw1⟩ := id hw
    by_cases hg : 0 ≤ g ∧ g ≤ 20
    · rw [if_pos hg]
      obtain ⟨hg0, hg1⟩ := id hg
      by_cases ht : 0 ≤ tw ∧ tw ≤ 12
      · rw [if_pos ht]
        obtain ⟨ht0, ht1⟩ := id ht
        by_cases hn : 1 ≤ n ∧ n ≤ 7
        · rw [if_pos hn]
          obtain ⟨hn0, hn1⟩ := id hn
          obtain ⟨m, rfl⟩ := Int.eq_ofNat_of_zero_le (show 0 ≤ n by omega)
          rw [Int.toNat_natCast]
          have hgo : x_M X l yX10_best cX10_best 5 (some .int) (m + 2) 0 0 [.int (xI g), .int (xI tw), .int (xI ((m : Nat) : Int))] false N sh D (.inl (some (.int (xI (t_best tw m g))))) false N sh (x_is D) := (c10_best hl ht0 ht1 m (by omega) g hg0 (by omega))
          have hp1 := t_pow_pos m
          have hp2 := t_pow_le m (by omega)
          have hb := t_best_in ht0 ht1 m g hg0
          have hb2 : (g + m) * t_pow m ≤ 27 * t_pow m := Int.mul_le_mul_of_nonneg_right (by omega) (by omega)
          have hb3 : 0 ≤ g * t_pow m := Int.mul_nonneg hg0 (by omega)
          have hb4 : g * t_pow m ≤ 20 * t_pow m := Int.mul_le_mul_of_nonneg_right (by omega) (by omega)
          refine x_ofW (by decide +kernel) hl (by simp [Value.category]) (by simp) ?_
          refine x_iload dX11_stop_0 x_get_7_4 ?_
          refine x_iconst dX11_stop_2 ?_
          refine x_callS (As := [_, _]) dX11_stop_3 w_11_245 (c11_nWhat hl hw0 hw1 (by decide)) rfl rfl (Nat.le_of_ble_eq_true rfl) (Nat.le_of_ble_eq_true rfl) (Nat.le_of_ble_eq_true rfl) (Nat.le_of_ble_eq_true rfl) (Nat.le_of_ble_eq_true rfl) ?_
          intro d hd
          obtain rfl := Eq.symm hd
          refine x_iload_n dX11_stop_6 x_get_7_1 ?_
          refine x_iconst dX11_stop_7 ?_
          refine x_bipush dX11_stop_8 rfl ?_
          refine x_callS (As := [_, _, _]) dX11_stop_10 w_11_232 (c11_nIn hl hg0 hg1 (by decide) (by decide)) rfl rfl (Nat.le_of_ble_eq_true rfl) (Nat.le_of_ble_eq_true rfl) (Nat.le_of_ble_eq_true rfl) (Nat.le_of_ble_eq_true rfl) (Nat.le_of_ble_eq_true rfl) ?_
          intro d hd
          obtain rfl := Eq.symm hd
          refine x_iload_n dX11_stop_13 x_get_7_2 ?_
          refine x_iconst dX11_stop_14 ?_
          refine x_bipush dX11_stop_15 rfl ?_
          refine x_callS (As := [_, _, _]) dX11_stop_17 w_11_232 (c11_nIn hl ht0 ht1 (by decide) (by decide)) rfl rfl (Nat.le_of_ble_eq_true rfl) (Nat.le_of_ble_eq_true rfl) (Nat.le_of_ble_eq_true rfl) (Nat.le_of_ble_eq_true rfl) (Nat.le_of_ble_eq_true rfl) ?_
          intro d hd
          obtain rfl := Eq.symm hd
          refine x_iload_n dX11_stop_20 x_get_7_3 ?_
          refine x_iconst dX11_stop_21 ?_
          refine x_bipush dX11_stop_22 rfl ?_
          refine x_callS (As := [_, _, _]) dX11_stop_24 w_11_232 (c11_nIn hl hn0 hn1 (by decide) (by decide)) rfl rfl (Nat.le_of_ble_eq_true rfl) (Nat.le_of_ble_eq_true rfl) (Nat.le_of_ble_eq_true rfl) (Nat.le_of_ble_eq_true rfl) (Nat.le_of_ble_eq_true rfl) ?_
          intro d hd
          obtain rfl := Eq.symm hd
          refine x_iload_n dX11_stop_27 x_get_7_1 ?_
          refine x_iload_n dX11_stop_28 x_get_7_3 ?_
          refine x_callS (As := [_]) dX11_stop_29 w_11_319 (c10_power hl (n := m) (by omega)) rfl rfl (Nat.le_of_ble_eq_true rfl) (Nat.le_of_ble_eq_true rfl) (Nat.le_of_ble_eq_true rfl) (Nat.le_of_ble_eq_true rfl) (Nat.le_of_ble_eq_true rfl) ?_
          intro d hd
          obtain rfl := Eq.symm hd
          refine x_imul dX11_stop_32 ?_
          refine x_istore dX11_stop_33 (Nat.le_of_ble_eq_true rfl) rfl x_set_7_5 ?_
          refine x_iload_n dX11_stop_35 x_get_7_1 ?_
          refine x_iload_n dX11_stop_36 x_get_7_2 ?_
          refine x_iload_n dX11_stop_37 x_get_7_3 ?_
          refine x_callSN (As := [_, _, _]) dX11_stop_38 w_11_322 (hgo) rfl rfl (Nat.le_of_ble_eq_true rfl) (show m + 2 + 1 ≤ 10 by omega) (show 64 * (m + 2) + 60 ≤ 64 * 10 by omega) (Nat.le_of_ble_eq_true rfl) (Nat.le_of_ble_eq_true rfl) ?_
          intro dz hdz
          obtain rfl := Eq.symm hdz
          refine x_istore dX11_stop_41 (Nat.le_of_ble_eq_true rfl) rfl x_set_7_6 ?_
          refine x_iload dX11_stop_43 x_get_7_4 ?_
          refine r_if_ne (t := 51) dX11_stop_45 rfl ⟨by omega, by omega⟩ (fun hc45 => ?_) (fun hc45 => ?_)
          · refine x_iload dX11_stop_51 x_get_7_6 ?_
            refine x_iload dX11_stop_53 x_get_7_5 ?_
            refine r_icmp_le (t := 62) dX11_stop_55 rfl ⟨by omega, by omega⟩ ⟨by omega, by omega⟩ (fun hc55 => ?_) (fun hc55 => ?_)
            · refine x_iconst dX11_stop_62 ?_
              exact x_iret dX11_stop_63 rfl (Nat.le_of_ble_eq_true rfl) (Nat.le_of_ble_eq_true rfl) (by rw [if_neg hc45]; first | (rw [x_B, if_pos (by omega)]; rfl) | (rw [x_B, if_neg (by omega)]; rfl)) rfl rfl hsc rfl
            · refine x_iconst dX11_stop_58 ?_
              refine x_goto (t := 63) dX11_stop_59 rfl ?_
              exact x_iret dX11_stop_63 rfl (Nat.le_of_ble_eq_true rfl) (Nat.le_of_ble_eq_true rfl) (by rw [if_neg hc45]; first | (rw [x_B, if_pos (by omega)]; rfl) | (rw [x_B, if_neg (by omega)]; rfl)) rfl rfl hsc rfl
          · refine x_iload dX11_stop_48 x_get_7_6 ?_
            exact x_iret dX11_stop_50 rfl (Nat.le_of_ble_eq_true rfl) (Nat.le_of_ble_eq_true rfl) (by rw [if_pos hc45]; rfl) rfl rfl hsc rfl
        · rw [if_neg hn]
          refine x_ofW (by decide +kernel) hl (by simp [Value.category]) (by simp) ?_
          refine x_iload dX11_stop_0 x_get_7_4 ?_
          refine x_iconst dX11_stop_2 ?_
          refine x_callS (As := [_, _]) dX11_stop_3 w_11_245 (c11_nWhat hl hw0 hw1 (by decide)) rfl rfl (Nat.le_of_ble_eq_true rfl) (Nat.le_of_ble_eq_true rfl) (Nat.le_of_ble_eq_true rfl) (Nat.le_of_ble_eq_true rfl) (Nat.le_of_ble_eq_true rfl) ?_
          intro d hd
          obtain rfl := Eq.symm hd
          refine x_iload_n dX11_stop_6 x_get_7_1 ?_
          refine x_iconst dX11_stop_7 ?_
          refine x_bipush dX11_stop_8 rfl ?_
          refine x_callS (As := [_, _, _]) dX11_stop_10 w_11_232 (c11_nIn hl hg0 hg1 (by decide) (by decide)) rfl rfl (Nat.le_of_ble_eq_true rfl) (Nat.le_of_ble_eq_true rfl) (Nat.le_of_ble_eq_true rfl) (Nat.le_of_ble_eq_true rfl) (Nat.le_of_ble_eq_true rfl) ?_
          intro d hd
          obtain rfl := Eq.symm hd
          refine x_iload_n dX11_stop_13 x_get_7_2 ?_
          refine x_iconst dX11_stop_14 ?_
          refine x_bipush dX11_stop_15 rfl ?_
          refine x_callS (As := [_, _, _]) dX11_stop_17 w_11_232 (c11_nIn hl ht0 ht1 (by decide) (by decide)) rfl rfl (Nat.le_of_ble_eq_true rfl) (Nat.le_of_ble_eq_true rfl) (Nat.le_of_ble_eq_true rfl) (Nat.le_of_ble_eq_true rfl) (Nat.le_of_ble_eq_true rfl) ?_
          intro d hd
          obtain rfl := Eq.symm hd
          refine x_iload_n dX11_stop_20 x_get_7_3 ?_
          refine x_iconst dX11_stop_21 ?_
          refine x_bipush dX11_stop_22 rfl ?_
          exact x_callST (As := [_, _, _]) dX11_stop_24 w_11_232 (c11_nInT hl hnr hn (by decide) (by decide) (by decide) (by decide)) rfl rfl (Nat.le_of_ble_eq_true rfl) (Nat.le_of_ble_eq_true rfl) (Nat.le_of_ble_eq_true rfl) (Nat.le_of_ble_eq_true rfl) (Nat.le_of_ble_eq_true rfl) rfl rfl rfl rfl (fun d hd => by obtain rfl := Eq.symm hd; exact hsc) rfl (Nat.le_of_ble_eq_true rfl) (Nat.le_of_ble_eq_true rfl)
      · rw [if_neg ht]
        refine x_ofW (by decide +kernel) hl (by simp [Value.category]) (by simp) ?_
        refine x_iload dX11_stop_0 x_get_7_4 ?_
        refine x_iconst dX11_stop_2 ?_
        refine x_callS (As := [_, _]) dX11_stop_3 w_11_245 (c11_nWhat hl hw0 hw1 (by decide)) rfl rfl (Nat.le_of_ble_eq_true rfl) (Nat.le_of_ble_eq_true rfl) (Nat.le_of_ble_eq_true rfl) (Nat.le_of_ble_eq_true rfl) (Nat.le_of_ble_eq_true rfl) ?_
        intro d hd
        obtain rfl := Eq.symm hd
        refine x_iload_n dX11_stop_6 x_get_7_1 ?_
        refine x_iconst dX11_stop_7 ?_
        refine x_bipush dX11_stop_8 rfl ?_
        refine x_callS (As := [_, _, _]) dX11_stop_10 w_11_232 (c11_nIn hl hg0 hg1 (by decide) (by decide)) rfl rfl (Nat.le_of_ble_eq_true rfl) (Nat.le_of_ble_eq_true rfl) (Nat.le_of_ble_eq_true rfl) (Nat.le_of_ble_eq_true rfl) (Nat.le_of_ble_eq_true rfl) ?_
        intro d hd
        obtain rfl := Eq.symm hd
        refine x_iload_n dX11_stop_13 x_get_7_2 ?_
        refine x_iconst dX11_stop_14 ?_
        refine x_bipush dX11_stop_15 rfl ?_
        exact x_callST (As := [_, _, _]) dX11_stop_17 w_11_232 (c11_nInT hl htr ht (by decide) (by decide) (by decide) (by decide)) rfl rfl (Nat.le_of_ble_eq_true rfl) (Nat.le_of_ble_eq_true rfl) (Nat.le_of_ble_eq_true rfl) (Nat.le_of_ble_eq_true rfl) (Nat.le_of_ble_eq_true rfl) rfl rfl rfl rfl (fun d hd => by obtain rfl := Eq.symm hd; exact hsc) rfl (Nat.le_of_ble_eq_true rfl) (Nat.le_of_ble_eq_true rfl)
    · rw [if_neg hg]
      refine x_ofW (by decide +kernel) hl (by simp [Value.category]) (by simp) ?_
      refine x_iload dX11_stop_0 x_get_7_4 ?_
      refine x_iconst dX11_stop_2 ?_
      refine x_callS (As := [_, _]) dX11_stop_3 w_11_245 (c11_nWhat hl hw0 hw1 (by decide)) rfl rfl (Nat.le_of_ble_eq_true rfl) (Nat.le_of_ble_eq_true rfl) (Nat.le_of_ble_eq_true rfl) (Nat.le_of_ble_eq_true rfl) (Nat.le_of_ble_eq_true rfl) ?_
      intro d hd
      obtain rfl := Eq.symm hd
      refine x_iload_n dX11_stop_6 x_get_7_1 ?_
      refine x_iconst dX11_stop_7 ?_
      refine x_bipush dX11_stop_8 rfl ?_
      exact x_callST (As := [_, _, _]) dX11_stop_10 w_11_232 (c11_nInT hl hgr hg (by decide) (by decide) (by decide) (by decide)) rfl rfl (Nat.le_of_ble_eq_true rfl) (Nat.le_of_ble_eq_true rfl) (Nat.le_of_ble_eq_true rfl) (Nat.le_of_ble_eq_true rfl) (Nat.le_of_ble_eq_true rfl) rfl rfl rfl rfl (fun d hd => by obtain rfl := Eq.symm hd; exact hsc) rfl (Nat.le_of_ble_eq_true rfl) (Nat.le_of_ble_eq_true rfl)
  · rw [if_neg hw]
    refine x_ofW (by decide +kernel) hl (by simp [Value.category]) (by simp) ?_
    refine x_iload dX11_stop_0 x_get_7_4 ?_
    refine x_iconst dX11_stop_2 ?_
    exact x_callST (As := [_, _]) dX11_stop_3 w_11_245 (c11_nWhatT hl hwr hw (by decide) (by decide)) rfl rfl (Nat.le_of_ble_eq_true rfl) (Nat.le_of_ble_eq_true rfl) (Nat.le_of_ble_eq_true rfl) (Nat.le_of_ble_eq_true rfl) (Nat.le_of_ble_eq_true rfl) rfl rfl rfl rfl (fun d hd => by obtain rfl := Eq.symm hd; exact hsc) rfl (Nat.le_of_ble_eq_true rfl) (Nat.le_of_ble_eq_true rfl)
theorem c11_see {X : xC} {l : Launch} (hl : l.stackTraces = false) {N : Nat} {sh : xS} {D : xM} {la lb T C W : Nat} {G : Ldt} (hq : cq N sh D la lb T C W G) {S : List (Int × Int × Int)} (hS : seen D 39 S) {t n u : Int} (ht0 : 0 ≤ t) (ht1 : t < T) (h8 : S.length < 8) (hn0 : 0 ≤ n) (hn1 : n ≤ 30) (hu0 : 0 ≤ u) (hu1 : u ≤ 9999) : x_M X l yX11_see cX11_see 4 (some .int) 7 1 6 [.ref (x_b X + 0), .int (xI t), .int (xI n), .int (xI u)] false N sh D (o_i ((S.length : Int) + 1)) false N sh (fun d => seen d 39 (S ++ [(t, n, u)]) ∧ ∀ j, j < 39 ∨ 42 < j → d j = D j) := by
  obtain ⟨hX, hG, hR, ⟨hk, hd9, hpl⟩, hco⟩ := id hq
  obtain ⟨hN, x0, x1, x2, xla, xlb, x33, x35, x37, x39, x43, x45, x47, x51, x60, x61, hll⟩ := id hX
  have hla : la = 3 ∨ la = 18 := by omega
  have n0 : 0 < N := by omega
  have n1 : 1 < N := by omega
  have n2 : 2 < N := by omega
  have n33 : 33 < N := by omega
  have n34 : 34 < N := by omega
  have n35 : 35 < N := by omega
  have n36 : 36 < N := by omega
  have n37 : 37 < N := by omega
  have n38 : 38 < N := by omega
  have n39 : 39 < N := by omega
  have n40 : 40 < N := by omega
  have n41 : 41 < N := by omega
  have n42 : 42 < N := by omega
  have n43 : 43 < N := by omega
  have n45 : 45 < N := by omega
  have n47 : 47 < N := by omega
  have n51 : 51 < N := by omega
  have n60 : 60 < N := by omega
  have n61 : 61 < N := by omega
  have x33a := x33.2.1
  have x34 := x33.2.2.2
  have x35a := x35.2.1
  have x36 := x35.2.2.2
  have x37a := x37.2.1
  have x38 := x37.2.2.2
  have x39a := x39.2.1
  have x43a := x43.2.1
  have x45a := x45.2.1
  have x47a := x47.2.1
  have x51a := x51.2.1
  have xla0 := xla.2.1
  have xla1 := xla.2.2.1
  have xla2 := xla.2.2.2.1
  have hlaN : la < N := by have := xla.1; omega
  have hlaN1 : la + 1 < N := by have := xla.1; omega
  have hlaN2 : la + 2 < N := by have := xla.1; omega
  have hlaN3 : la + 3 < N := by have := xla.1; omega
  have hlaN10 : la + 10 < N := by have := xla.1; omega
  have xru := (is_L_ru xla).2.1
  have xro := (is_L_ro xla).2.1
  obtain ⟨hG1, hG2, hG3⟩ := ldG_G hG
  obtain ⟨n0', ⟨gT, gTb, gC, gCb, -⟩, -⟩ := id hG
  obtain ⟨rW, rWb, rT, -, ro1, ro2, ro3, ro4, ro5, ro6⟩ := id hR
  have hd0 : 0 ≤ D 34 0 := ((hk 0).1 rfl).1
  have hB : 161 * D 34 0 ≤ 160839 := by omega
  have hsc := sc_refl hG hco
  have hS3 := hS.1
  refine x_ofW (by decide +kernel) hl (by simp [Value.category]) (by simp) ?_
  refine x_aload_n dX11_see_0 x_get_4_0 ?_
  refine x_iload_n dX11_see_1 x_get_4_1 ?_
  refine x_callV (As := [_]) dX11_see_2 w_11_161 (c11_nTown hl hq ht0 ht1) (by assumption) (by assumption) rfl rfl (Nat.le_of_ble_eq_true rfl) (Nat.le_of_ble_eq_true rfl) (Nat.le_of_ble_eq_true rfl) (Nat.le_of_ble_eq_true rfl) (Nat.le_of_ble_eq_true rfl) ?_
  intro d hd
  obtain rfl := Eq.symm hd
  refine x_aload_n dX11_see_5 x_get_4_0 ?_
  refine x_getR dX11_see_6 fX_11_47 (by assumption) (by assumption) (by rfl) ?_
  refine x_getI 3 dX11_see_9 fX_11_155 rfl (by assumption) (by assumption) (by rfl) ?_
  first | rw [hS3] | rw [show d 39 3 = (S.length : Int) + 1 by rw [hd1.1]; simp]
  refine x_bipush dX11_see_12 rfl ?_
  refine r_icmp_ge (t := 38) dX11_see_14 rfl ⟨by omega, by omega⟩ ⟨by omega, by omega⟩ (fun hc14 => absurd hc14 (by omega)) (fun hc14 => ?_)
  refine x_iload_n dX11_see_17 x_get_4_2 ?_
  refine r_if_lt (t := 38) dX11_see_18 rfl ⟨by omega, by omega⟩ (fun hc18 => absurd hc18 (by omega)) (fun hc18 => ?_)
  refine x_iload_n dX11_see_21 x_get_4_2 ?_
  refine x_bipush dX11_see_22 rfl ?_
  refine r_icmp_gt (t := 38) dX11_see_24 rfl ⟨by omega, by omega⟩ ⟨by omega, by omega⟩ (fun hc24 => absurd hc24 (by omega)) (fun hc24 => ?_)
  refine x_iload_n dX11_see_27 x_get_4_3 ?_
  refine r_if_lt (t := 38) dX11_see_28 rfl ⟨by omega, by omega⟩ (fun hc28 => absurd hc28 (by omega)) (fun hc28 => ?_)
  refine x_iload_n dX11_see_31 x_get_4_3 ?_
  refine x_sipush dX11_see_32 rfl ?_
  refine r_icmp_le (t := 50) dX11_see_35 rfl ⟨by omega, by omega⟩ ⟨by omega, by omega⟩ (fun hc35 => ?_) (fun hc35 => absurd hc35 (by omega))
  refine x_aload_n dX11_see_50 x_get_4_0 ?_
  refine x_getR dX11_see_51 fX_11_47 (by assumption) (by assumption) (by rfl) ?_
  refine x_iload_n dX11_see_54 x_get_4_1 ?_
  refine x_iload_n dX11_see_55 x_get_4_2 ?_
  refine x_iload_n dX11_see_56 x_get_4_3 ?_
  refine x_callV (As := [_, _, _]) dX11_see_57 w_11_325 (c8_add hl x39 hS h8) (by assumption) (by assumption) rfl rfl (Nat.le_of_ble_eq_true rfl) (Nat.le_of_ble_eq_true rfl) (Nat.le_of_ble_eq_true rfl) (Nat.le_of_ble_eq_true rfl) (Nat.le_of_ble_eq_true rfl) ?_
  rintro d ⟨hd1, hd2⟩
  refine x_aload_n dX11_see_60 x_get_4_0 ?_
  refine x_getR dX11_see_61 fX_11_47 (by assumption) (by assumption) (by rfl) ?_
  refine x_getI 3 dX11_see_64 fX_11_155 rfl (by assumption) (by assumption) (by rfl) ?_
  first | rw [hS3] | rw [show d 39 3 = (S.length : Int) + 1 by rw [hd1.1]; simp]
  exact x_iret dX11_see_67 rfl (Nat.le_of_ble_eq_true rfl) (Nat.le_of_ble_eq_true rfl) rfl rfl rfl ⟨hd1, hd2⟩ rfl
theorem c11_seeR {X : xC} {l : Launch} (hl : l.stackTraces = false) {N : Nat} {sh : xS} {D : xM} {la lb T C W : Nat} {G : Ldt} (hq : cq N sh D la lb T C W G) {S : List (Int × Int × Int)} (hS : seen D 39 S) {t n u : Int} (hnr : x_r n) (hur : x_r u) (ht0 : 0 ≤ t) (ht1 : t < T) (h8 : ¬ (S.length < 8 ∧ (0 ≤ n ∧ n ≤ 30) ∧ (0 ≤ u ∧ u ≤ 9999))) : x_M X l yX11_see cX11_see 4 (some .int) 7 1 6 [.ref (x_b X + 0), .int (xI t), .int (xI n), .int (xI u)] false N sh D (o_i (-1)) false N sh (x_is (x_up D 61 (x_u1 (D 61) 2 (D 61 2 + 1)))) := by
  obtain ⟨hX, hG, hR, ⟨hk, hd9, hpl⟩, hco⟩ := id hq
  obtain ⟨hN, x0, x1, x2, xla, xlb, x33, x35, x37, x39, x43, x45, x47, x51, x60, x61, hll⟩ := id hX
  have hla : la = 3 ∨ la = 18 := by omega
  have n0 : 0 < N := by omega
  have n1 : 1 < N := by omega
  have n2 : 2 < N := by omega
  have n33 : 33 < N := by omega
  have n34 : 34 < N := by omega
  have n35 : 35 < N := by omega
  have n36 : 36 < N := by omega
  have n37 : 37 < N := by omega
  have n38 : 38 < N := by omega
  have n39 : 39 < N := by omega
  have n40 : 40 < N := by omega
  have n41 : 41 < N := by omega
  have n42 : 42 < N := by omega
  have n43 : 43 < N := by omega
  have n45 : 45 < N := by omega
  have n47 : 47 < N := by omega
  have n51 : 51 < N := by omega
  have n60 : 60 < N := by omega
  have n61 : 61 < N := by omega
  have x33a := x33.2.1
  have x34 := x33.2.2.2
  have x35a := x35.2.1
  have x36 := x35.2.2.2
  have x37a := x37.2.1
  have x38 := x37.2.2.2
  have x39a := x39.2.1
  have x43a := x43.2.1
  have x45a := x45.2.1
  have x47a := x47.2.1
  have x51a := x51.2.1
  have xla0 := xla.2.1
  have xla1 := xla.2.2.1
  have xla2 := xla.2.2.2.1
  have hlaN : la < N := by have := xla.1; omega
  have hlaN1 : la + 1 < N := by have := xla.1; omega
  have hlaN2 : la + 2 < N := by have := xla.1; omega
  have hlaN3 : la + 3 < N := by have := xla.1; omega
  have hlaN10 : la + 10 < N := by have := xla.1; omega
  have xru := (is_L_ru xla).2.1
  have xro := (is_L_ro xla).2.1
  obtain ⟨hG1, hG2, hG3⟩ := ldG_G hG
  obtain ⟨n0', ⟨gT, gTb, gC, gCb, -⟩, -⟩ := id hG
  obtain ⟨rW, rWb, rT, -, ro1, ro2, ro3, ro4, ro5, ro6⟩ := id hR
  have hd0 : 0 ≤ D 34 0 := ((hk 0).1 rfl).1
  have hB : 161 * D 34 0 ≤ 160839 := by omega
  have hsc := sc_refl hG hco
  obtain ⟨hnr0, hnr1⟩ := id hnr
  obtain ⟨hur0, hur1⟩ := id hur
  have hS3 := hS.1
  have hS8 := hS.2.1
  refine x_ofW (by decide +kernel) hl (by simp [Value.category]) (by simp) ?_
  refine x_aload_n dX11_see_0 x_get_4_0 ?_
  refine x_iload_n dX11_see_1 x_get_4_1 ?_
  refine x_callV (As := [_]) dX11_see_2 w_11_161 (c11_nTown hl hq ht0 ht1) (by assumption) (by assumption) rfl rfl (Nat.le_of_ble_eq_true rfl) (Nat.le_of_ble_eq_true rfl) (Nat.le_of_ble_eq_true rfl) (Nat.le_of_ble_eq_true rfl) (Nat.le_of_ble_eq_true rfl) ?_
  intro d hd
  obtain rfl := Eq.symm hd
  refine x_aload_n dX11_see_5 x_get_4_0 ?_
  refine x_getR dX11_see_6 fX_11_47 (by assumption) (by assumption) (by rfl) ?_
  refine x_getI 3 dX11_see_9 fX_11_155 rfl (by assumption) (by assumption) (by rfl) ?_
  rw [hS3]
  refine x_bipush dX11_see_12 rfl ?_
  refine r_icmp_ge (t := 38) dX11_see_14 rfl ⟨by omega, by omega⟩ ⟨by omega, by omega⟩ (fun hc14 => ?_) (fun hc14 => ?_)
  · refine x_aload_n dX11_see_38 x_get_4_0 ?_
    refine x_getR dX11_see_39 fX_11_78 (by assumption) (by assumption) (by rfl) ?_
    refine x_iconst dX11_see_42 ?_
    refine x_dup2 dX11_see_43 rfl rfl ?_
    refine x_iald dX11_see_44 (by assumption) (by assumption) (by omega) (by omega) (by decide) ?_
    refine x_iconst dX11_see_45 ?_
    refine x_iadd dX11_see_46 ?_
    refine x_iast dX11_see_47 (by assumption) (by assumption) (by omega) (by omega) (by decide) ?_
    refine x_iconst dX11_see_48 ?_
    exact x_iret dX11_see_49 rfl (Nat.le_of_ble_eq_true rfl) (Nat.le_of_ble_eq_true rfl) rfl rfl rfl rfl rfl
  · refine x_iload_n dX11_see_17 x_get_4_2 ?_
    refine r_if_lt (t := 38) dX11_see_18 rfl ⟨by omega, by omega⟩ (fun hc18 => ?_) (fun hc18 => ?_)
    · refine x_aload_n dX11_see_38 x_get_4_0 ?_
      refine x_getR dX11_see_39 fX_11_78 (by assumption) (by assumption) (by rfl) ?_
      refine x_iconst dX11_see_42 ?_
      refine x_dup2 dX11_see_43 rfl rfl ?_
      refine x_iald dX11_see_44 (by assumption) (by assumption) (by omega) (by omega) (by decide) ?_
      refine x_iconst dX11_see_45 ?_
      refine x_iadd dX11_see_46 ?_
      refine x_iast dX11_see_47 (by assumption) (by assumption) (by omega) (by omega) (by decide) ?_
      refine x_iconst dX11_see_48 ?_
      exact x_iret dX11_see_49 rfl (Nat.le_of_ble_eq_true rfl) (Nat.le_of_ble_eq_true rfl) rfl rfl rfl rfl rfl
    · refine x_iload_n dX11_see_21 x_get_4_2 ?_
      refine x_bipush dX11_see_22 rfl ?_
      refine r_icmp_gt (t := 38) dX11_see_24 rfl ⟨by omega, by omega⟩ ⟨by omega, by omega⟩ (fun hc24 => ?_) (fun hc24 => ?_)
      · refine x_aload_n dX11_see_38 x_get_4_0 ?_
        refine x_getR dX11_see_39 fX_11_78 (by assumption) (by assumption) (by rfl) ?_
        refine x_iconst dX11_see_42 ?_
        refine x_dup2 dX11_see_43 rfl rfl ?_
        refine x_iald dX11_see_44 (by assumption) (by assumption) (by omega) (by omega) (by decide) ?_
        refine x_iconst dX11_see_45 ?_
        refine x_iadd dX11_see_46 ?_
        refine x_iast dX11_see_47 (by assumption) (by assumption) (by omega) (by omega) (by decide) ?_
        refine x_iconst dX11_see_48 ?_
        exact x_iret dX11_see_49 rfl (Nat.le_of_ble_eq_true rfl) (Nat.le_of_ble_eq_true rfl) rfl rfl rfl rfl rfl
      · refine x_iload_n dX11_see_27 x_get_4_3 ?_
        refine r_if_lt (t := 38) dX11_see_28 rfl ⟨by omega, by omega⟩ (fun hc28 => ?_) (fun hc28 => ?_)
        · refine x_aload_n dX11_see_38 x_get_4_0 ?_
          refine x_getR dX11_see_39 fX_11_78 (by assumption) (by assumption) (by rfl) ?_
          refine x_iconst dX11_see_42 ?_
          refine x_dup2 dX11_see_43 rfl rfl ?_
          refine x_iald dX11_see_44 (by assumption) (by assumption) (by omega) (by omega) (by decide) ?_
          refine x_iconst dX11_see_45 ?_
          refine x_iadd dX11_see_46 ?_
          refine x_iast dX11_see_47 (by assumption) (by assumption) (by omega) (by omega) (by decide) ?_
          refine x_iconst dX11_see_48 ?_
          exact x_iret dX11_see_49 rfl (Nat.le_of_ble_eq_true rfl) (Nat.le_of_ble_eq_true rfl) rfl rfl rfl rfl rfl
        · refine x_iload_n dX11_see_31 x_get_4_3 ?_
          refine x_sipush dX11_see_32 rfl ?_
          refine r_icmp_le (t := 50) dX11_see_35 rfl ⟨by omega, by omega⟩ ⟨by omega, by omega⟩ (fun hc35 => absurd hc35 (by omega)) (fun hc35 => ?_)
          refine x_aload_n dX11_see_38 x_get_4_0 ?_
          refine x_getR dX11_see_39 fX_11_78 (by assumption) (by assumption) (by rfl) ?_
          refine x_iconst dX11_see_42 ?_
          refine x_dup2 dX11_see_43 rfl rfl ?_
          refine x_iald dX11_see_44 (by assumption) (by assumption) (by omega) (by omega) (by decide) ?_
          refine x_iconst dX11_see_45 ?_
          refine x_iadd dX11_see_46 ?_
          refine x_iast dX11_see_47 (by assumption) (by assumption) (by omega) (by omega) (by decide) ?_
          refine x_iconst dX11_see_48 ?_
          exact x_iret dX11_see_49 rfl (Nat.le_of_ble_eq_true rfl) (Nat.le_of_ble_eq_true rfl) rfl rfl rfl rfl rfl
theorem c11_seeT {X : xC} {l : Launch} (hl : l.stackTraces = false) {N : Nat} {sh : xS} {D : xM} {la lb T C W : Nat} {G : Ldt} (hq : cq N sh D la lb T C W G) {t n u : Int} (htr : x_r t) (ht : ¬ (0 ≤ t ∧ t < T)) : x_M X l yX11_see cX11_see 4 (some .int) 7 1 6 [.ref (x_b X + 0), .int (xI t), .int (xI n), .int (xI u)] false N sh D (.inr x_NSE) false N sh (sc la D) := by
  obtain ⟨hX, hG, hR, ⟨hk, hd9, hpl⟩, hco⟩ := id hq
  obtain ⟨hN, x0, x1, x2, xla, xlb, x33, x35, x37, x39, x43, x45, x47, x51, x60, x61, hll⟩ := id hX
  have hla : la = 3 ∨ la = 18 := by omega
  have n0 : 0 < N := by omega
  have n1 : 1 < N := by omega
  have n2 : 2 < N := by omega
  have n33 : 33 < N := by omega
  have n34 : 34 < N := by omega
  have n35 : 35 < N := by omega
  have n36 : 36 < N := by omega
  have n37 : 37 < N := by omega
  have n38 : 38 < N := by omega
  have n39 : 39 < N := by omega
  have n40 : 40 < N := by omega
  have n41 : 41 < N := by omega
  have n42 : 42 < N := by omega
  have n43 : 43 < N := by omega
  have n45 : 45 < N := by omega
  have n47 : 47 < N := by omega
  have n51 : 51 < N := by omega
  have n60 : 60 < N := by omega
  have n61 : 61 < N := by omega
  have x33a := x33.2.1
  have x34 := x33.2.2.2
  have x35a := x35.2.1
  have x36 := x35.2.2.2
  have x37a := x37.2.1
  have x38 := x37.2.2.2
  have x39a := x39.2.1
  have x43a := x43.2.1
  have x45a := x45.2.1
  have x47a := x47.2.1
  have x51a := x51.2.1
  have xla0 := xla.2.1
  have xla1 := xla.2.2.1
  have xla2 := xla.2.2.2.1
  have hlaN : la < N := by have := xla.1; omega
  have hlaN1 : la + 1 < N := by have := xla.1; omega
  have hlaN2 : la + 2 < N := by have := xla.1; omega
  have hlaN3 : la + 3 < N := by have := xla.1; omega
  have hlaN10 : la + 10 < N := by have := xla.1; omega
  have xru := (is_L_ru xla).2.1
  have xro := (is_L_ro xla).2.1
  obtain ⟨hG1, hG2, hG3⟩ := ldG_G hG
  obtain ⟨n0', ⟨gT, gTb, gC, gCb, -⟩, -⟩ := id hG
  obtain ⟨rW, rWb, rT, -, ro1, ro2, ro3, ro4, ro5, ro6⟩ := id hR
  have hd0 : 0 ≤ D 34 0 := ((hk 0).1 rfl).1
  have hB : 161 * D 34 0 ≤ 160839 := by omega
  have hsc := sc_refl hG hco
  refine x_ofW (by decide +kernel) hl (by simp [Value.category]) (by simp) ?_
  refine x_aload_n dX11_see_0 x_get_4_0 ?_
  refine x_iload_n dX11_see_1 x_get_4_1 ?_
  exact x_callVT (As := [_]) dX11_see_2 w_11_161 (c11_nTownT hl hq htr ht) (by assumption) (by assumption) rfl rfl (Nat.le_of_ble_eq_true rfl) (Nat.le_of_ble_eq_true rfl) (Nat.le_of_ble_eq_true rfl) (Nat.le_of_ble_eq_true rfl) (Nat.le_of_ble_eq_true rfl) rfl rfl rfl rfl (fun d hd => by obtain rfl := Eq.symm hd; exact hsc) rfl (Nat.le_of_ble_eq_true rfl) (Nat.le_of_ble_eq_true rfl)
theorem c11_forget {X : xC} {l : Launch} (hl : l.stackTraces = false) {N : Nat} {sh : xS} {D : xM} {la lb T C W : Nat} {G : Ldt} (hq : cq N sh D la lb T C W G) : x_M X l yX11_forget cX11_forget 1 (none) 7 1 6 [.ref (x_b X + 0)] false N sh D (.inl none) false N sh (fun d => seen d 39 [] ∧ ∀ j, j ≠ 39 → d j = D j) := by
  obtain ⟨hX, hG, hR, ⟨hk, hd9, hpl⟩, hco⟩ := id hq
  obtain ⟨hN, x0, x1, x2, xla, xlb, x33, x35, x37, x39, x43, x45, x47, x51, x60, x61, hll⟩ := id hX
  have hla : la = 3 ∨ la = 18 := by omega
  have n0 : 0 < N := by omega
  have n1 : 1 < N := by omega
  have n2 : 2 < N := by omega
  have n33 : 33 < N := by omega
  have n34 : 34 < N := by omega
  have n35 : 35 < N := by omega
  have n36 : 36 < N := by omega
  have n37 : 37 < N := by omega
  have n38 : 38 < N := by omega
  have n39 : 39 < N := by omega
  have n40 : 40 < N := by omega
  have n41 : 41 < N := by omega
  have n42 : 42 < N := by omega
  have n43 : 43 < N := by omega
  have n45 : 45 < N := by omega
  have n47 : 47 < N := by omega
  have n51 : 51 < N := by omega
  have n60 : 60 < N := by omega
  have n61 : 61 < N := by omega
  have x33a := x33.2.1
  have x34 := x33.2.2.2
  have x35a := x35.2.1
  have x36 := x35.2.2.2
  have x37a := x37.2.1
  have x38 := x37.2.2.2
  have x39a := x39.2.1
  have x43a := x43.2.1
  have x45a := x45.2.1
  have x47a := x47.2.1
  have x51a := x51.2.1
  have xla0 := xla.2.1
  have xla1 := xla.2.2.1
  have xla2 := xla.2.2.2.1
  have hlaN : la < N := by have := xla.1; omega
  have hlaN1 : la + 1 < N := by have := xla.1; omega
  have hlaN2 : la + 2 < N := by have := xla.1; omega
  have hlaN3 : la + 3 < N := by have := xla.1; omega
  have hlaN10 : la + 10 < N := by have := xla.1; omega
  have xru := (is_L_ru xla).2.1
  have xro := (is_L_ro xla).2.1
  obtain ⟨hG1, hG2, hG3⟩ := ldG_G hG
  obtain ⟨n0', ⟨gT, gTb, gC, gCb, -⟩, -⟩ := id hG
  obtain ⟨rW, rWb, rT, -, ro1, ro2, ro3, ro4, ro5, ro6⟩ := id hR
  have hd0 : 0 ≤ D 34 0 := ((hk 0).1 rfl).1
  have hB : 161 * D 34 0 ≤ 160839 := by omega
  have hsc := sc_refl hG hco
  refine x_ofW (by decide +kernel) hl (by simp [Value.category]) (by simp) ?_
  refine x_aload_n dX11_forget_0 x_get_1_0 ?_
  refine x_getR dX11_forget_1 fX_11_47 (by assumption) (by assumption) (by rfl) ?_
  refine x_callV (As := []) dX11_forget_4 w_11_128 (c8_clear hl x39) (by assumption) (by assumption) rfl rfl (Nat.le_of_ble_eq_true rfl) (Nat.le_of_ble_eq_true rfl) (Nat.le_of_ble_eq_true rfl) (Nat.le_of_ble_eq_true rfl) (Nat.le_of_ble_eq_true rfl) ?_
  rintro d hd
  exact x_vret dX11_forget_7 rfl (Nat.le_of_ble_eq_true rfl) (Nat.le_of_ble_eq_true rfl) rfl rfl rfl hd rfl
theorem c11_opened {X : xC} {l : Launch} (hl : l.stackTraces = false) {N : Nat} {sh : xS} {D : xM} {la lb T C W : Nat} {G : Ldt} (hq : cq N sh D la lb T C W G) {S : List (Int × Int × Int)} (hS : seen D 39 S) (hSs : s_sn T S) {w : Int} (hwr : x_r w) : x_M X l yX11_opened cX11_opened 3 (some .int) 9 1 6 [.ref (x_b X + 0), .int (xI w)] false N sh D (q_opened T C G (D 34) S w) false N sh (sc la D) := by
  obtain ⟨hX, hG, hR, ⟨hk, hd9, hpl⟩, hco⟩ := id hq
  obtain ⟨hN, x0, x1, x2, xla, xlb, x33, x35, x37, x39, x43, x45, x47, x51, x60, x61, hll⟩ := id hX
  have hla : la = 3 ∨ la = 18 := by omega
  have n0 : 0 < N := by omega
  have n1 : 1 < N := by omega
  have n2 : 2 < N := by omega
  have n33 : 33 < N := by omega
  have n34 : 34 < N := by omega
  have n35 : 35 < N := by omega
  have n36 : 36 < N := by omega
  have n37 : 37 < N := by omega
  have n38 : 38 < N := by omega
  have n39 : 39 < N := by omega
  have n40 : 40 < N := by omega
  have n41 : 41 < N := by omega
  have n42 : 42 < N := by omega
  have n43 : 43 < N := by omega
  have n45 : 45 < N := by omega
  have n47 : 47 < N := by omega
  have n51 : 51 < N := by omega
  have n60 : 60 < N := by omega
  have n61 : 61 < N := by omega
  have x33a := x33.2.1
  have x34 := x33.2.2.2
  have x35a := x35.2.1
  have x36 := x35.2.2.2
  have x37a := x37.2.1
  have x38 := x37.2.2.2
  have x39a := x39.2.1
  have x43a := x43.2.1
  have x45a := x45.2.1
  have x47a := x47.2.1
  have x51a := x51.2.1
  have xla0 := xla.2.1
  have xla1 := xla.2.2.1
  have xla2 := xla.2.2.2.1
  have hlaN : la < N := by have := xla.1; omega
  have hlaN1 : la + 1 < N := by have := xla.1; omega
  have hlaN2 : la + 2 < N := by have := xla.1; omega
  have hlaN3 : la + 3 < N := by have := xla.1; omega
  have hlaN10 : la + 10 < N := by have := xla.1; omega
  have xru := (is_L_ru xla).2.1
  have xro := (is_L_ro xla).2.1
  obtain ⟨hG1, hG2, hG3⟩ := ldG_G hG
  obtain ⟨n0', ⟨gT, gTb, gC, gCb, -⟩, -⟩ := id hG
  obtain ⟨rW, rWb, rT, -, ro1, ro2, ro3, ro4, ro5, ro6⟩ := id hR
  have hd0 : 0 ≤ D 34 0 := ((hk 0).1 rfl).1
  have hB : 161 * D 34 0 ≤ 160839 := by omega
  have hsc := sc_refl hG hco
  unfold q_opened
  by_cases hw : 0 ≤ w ∧ w ≤ 2
  · rw [if_pos hw]
    obtain ⟨hw0, hw1⟩ := id hw
    have hse := seen_ok hS hSs gTb
    obtain ⟨⟨hm0, hm1⟩, hmx⟩ := seen_mx hS hSs gTb S.length (Nat.le_refl _)
    obtain ⟨last, hlast⟩ := Int.eq_ofNat_of_zero_le hm0
    have hl30 : last ≤ 30 := by omega
    have hls : ∀ j : Nat, j < S.length → D (39 + 2) j ≤ last := fun j hj => by have := hmx j hj; omega
    refine x_ofW (by decide +kernel) hl (by simp [Value.category]) (by simp) ?_
    refine x_iload_n dX11_opened_0 x_get_3_1 ?_
    refine x_iconst dX11_opened_1 ?_
    refine x_callS (As := [_, _]) dX11_opened_2 w_11_245 (c11_nWhat hl hw0 hw1 (by decide)) rfl rfl (Nat.le_of_ble_eq_true rfl) (Nat.le_of_ble_eq_true rfl) (Nat.le_of_ble_eq_true rfl) (Nat.le_of_ble_eq_true rfl) (Nat.le_of_ble_eq_true rfl) ?_
    intro d hd
    obtain rfl := Eq.symm hd
    refine x_aload_n dX11_opened_5 x_get_3_0 ?_
    refine x_getR dX11_opened_6 fX_11_47 (by assumption) (by assumption) (by rfl) ?_
    refine x_callV (As := []) dX11_opened_9 w_11_328 (c8_last hl x39 (n := S.length) hse.1 hse.2.1 (fun j a b => (hse.2.2 j a b).2.1)) (by assumption) (by assumption) rfl rfl (Nat.le_of_ble_eq_true rfl) (Nat.le_of_ble_eq_true rfl) (Nat.le_of_ble_eq_true rfl) (Nat.le_of_ble_eq_true rfl) (Nat.le_of_ble_eq_true rfl) ?_
    intro dz hdz
    obtain rfl := Eq.symm hdz
    rw [hlast]
    refine x_istore_n dX11_opened_12 (Nat.le_of_ble_eq_true rfl) rfl x_set_3_2 ?_
    refine x_aload_n dX11_opened_13 x_get_3_0 ?_
    refine x_getR dX11_opened_14 fX_11_67 (by assumption) (by assumption) (by rfl) ?_
    refine x_aload_n dX11_opened_17 x_get_3_0 ?_
    refine x_getR dX11_opened_18 fX_11_23 (by assumption) (by assumption) (by rfl) ?_
    refine x_aload_n dX11_opened_21 x_get_3_0 ?_
    refine x_getR dX11_opened_22 fX_11_30 (by assumption) (by assumption) (by rfl) ?_
    refine x_iload_n dX11_opened_25 x_get_3_2 ?_
    refine x_callV (As := [_, _, _]) dX11_opened_26 w_11_331 (c1_plain hl x51 hco x33 xla hG (Or.inr (by omega)) (Or.inr (by omega)) (Or.inl (by omega)) (B := 161 * D 34 0) hk (by omega) hl30) (by assumption) (by assumption) rfl rfl (Nat.le_of_ble_eq_true rfl) (Nat.le_of_ble_eq_true rfl) (Nat.le_of_ble_eq_true rfl) (Nat.le_of_ble_eq_true rfl) (Nat.le_of_ble_eq_true rfl) ?_
    rintro d1 ⟨e1, e2, e3, e4⟩
    have hcd1 : sc la D d1 := ⟨fun j a b c => e4 j (by omega) (by omega) b, e3, e2⟩
    have f34 : d1 34 = D 34 := e4 34 (by decide) (by decide) (by omega)
    have f40 : ∀ j, 39 ≤ j → j ≤ 42 → d1 j = D j := fun j a b => e4 j (by omega) (by omega) (by omega)
    have hse1 : se_ok d1 39 S.length := by
      obtain ⟨s1, s2, s3⟩ := id hse
      refine ⟨by rw [f40 39 (by decide) (by decide)]; exact s1, s2, fun j a b => ?_⟩
      rw [f40 (39 + 1) (by decide) (by decide), f40 (39 + 2) (by decide) (by decide), f40 (39 + 3) (by decide) (by decide)]
      exact s3 j a b
    refine x_iload_n dX11_opened_29 x_get_3_1 ?_
    refine x_iconst dX11_opened_30 ?_
    refine r_icmp_ne (t := 54) dX11_opened_31 rfl ⟨by omega, by omega⟩ ⟨by omega, by omega⟩ (fun hc31 => ?_) (fun hc31 => ?_)
    · refine x_aload_n dX11_opened_54 x_get_3_0 ?_
      refine x_getR dX11_opened_55 fX_11_67 (by assumption) (by assumption) (by rfl) ?_
      refine x_aload_n dX11_opened_58 x_get_3_0 ?_
      refine x_getR dX11_opened_59 fX_11_23 (by assumption) (by assumption) (by rfl) ?_
      refine x_aload_n dX11_opened_62 x_get_3_0 ?_
      refine x_getR dX11_opened_63 fX_11_30 (by assumption) (by assumption) (by rfl) ?_
      refine x_aload_n dX11_opened_66 x_get_3_0 ?_
      refine x_getR dX11_opened_67 fX_11_47 (by assumption) (by assumption) (by rfl) ?_
      refine x_iload_n dX11_opened_70 x_get_3_2 ?_
      refine x_callV (As := [_, _, _, _]) dX11_opened_71 w_11_339 (c1_all hl x51 e2 x33 xla (ldG_sc hG hcd1 hla) (Or.inr (by omega)) (Or.inr (by omega)) (Or.inl (by omega)) (B := 161 * D 34 0) (by rw [f34]; exact hk) (by omega) x39 hse1 (Or.inl (by omega)) (Or.inr (by omega)) hl30 (by rw [f40 (39 + 2) (by decide) (by decide)]; exact hls)) (by assumption) (by assumption) rfl rfl (Nat.le_of_ble_eq_true rfl) (Nat.le_of_ble_eq_true rfl) (Nat.le_of_ble_eq_true rfl) (Nat.le_of_ble_eq_true rfl) (Nat.le_of_ble_eq_true rfl) ?_
      rintro d2 ⟨g1, g2, g3, g4, g5⟩
      have hcd2 : sc la D d2 := ⟨fun j a b c => (g5 j (by omega) (by omega) (by omega) (by omega) (by omega) b).trans (e4 j (by omega) (by omega) b), g4, g3⟩
      have hz : ∀ i, y_is G C (d1 34) (d1 (51 + 1)) (d1 (39 + 1)) (d1 (39 + 2)) (d1 (39 + 3)) S.length i ↔ z_is T C G (D 34) S i := by
        intro i
        rw [f34, f40 (39 + 1) (by decide) (by decide), f40 (39 + 2) (by decide) (by decide), f40 (39 + 3) (by decide) (by decide)]
        exact z_is_iff hS hSs gTb e1 hpl hls i
      refine x_iload_n dX11_opened_74 x_get_3_1 ?_
      refine r_if_ne (t := 88) dX11_opened_75 rfl ⟨by omega, by omega⟩ (fun hc75 => ?_) (fun hc75 => ?_)
      · refine x_aload_n dX11_opened_88 x_get_3_0 ?_
        refine x_getR dX11_opened_89 fX_11_67 (by assumption) (by assumption) (by rfl) ?_
        refine x_callV (As := []) dX11_opened_92 w_11_345 (c1_first hl x51 g3) (by assumption) (by assumption) rfl rfl (Nat.le_of_ble_eq_true rfl) (Nat.le_of_ble_eq_true rfl) (Nat.le_of_ble_eq_true rfl) (Nat.le_of_ble_eq_true rfl) (Nat.le_of_ble_eq_true rfl) ?_
        intro dz hdz
        obtain rfl := Eq.symm hdz
        refine x_as_is (b := x_first (fun i => z_is T C G (D 34) S i) 100) (x_first_congr (fun i hi => by rw [g2 i hi, x_B_ne0]; exact hz i)) ?_
        exact x_iret dX11_opened_95 rfl (Nat.le_of_ble_eq_true rfl) (Nat.le_of_ble_eq_true rfl) (by rw [if_neg hc31]; first | (rw [if_pos hc75]; rfl) | (rw [if_neg hc75]; rfl)) rfl rfl hcd2 rfl
      · refine x_aload_n dX11_opened_78 x_get_3_0 ?_
        refine x_getR dX11_opened_79 fX_11_67 (by assumption) (by assumption) (by rfl) ?_
        refine x_callV (As := []) dX11_opened_82 w_11_343 (c1_held hl x51 g3) (by assumption) (by assumption) rfl rfl (Nat.le_of_ble_eq_true rfl) (Nat.le_of_ble_eq_true rfl) (Nat.le_of_ble_eq_true rfl) (Nat.le_of_ble_eq_true rfl) (Nat.le_of_ble_eq_true rfl) ?_
        intro dz hdz
        obtain rfl := Eq.symm hdz
        refine x_as_is (b := x_sum (fun i => x_B (z_is T C G (D 34) S i.toNat)) 100) (x_sum_congr (fun i hi => by rw [g2 i hi, Int.toNat_natCast, x_B_congr (hz i)])) ?_
        refine x_goto (t := 95) dX11_opened_85 rfl ?_
        exact x_iret dX11_opened_95 rfl (Nat.le_of_ble_eq_true rfl) (Nat.le_of_ble_eq_true rfl) (by rw [if_neg hc31]; first | (rw [if_pos hc75]; rfl) | (rw [if_neg hc75]; rfl)) rfl rfl hcd2 rfl
    · refine x_aload_n dX11_opened_34 x_get_3_0 ?_
      refine x_getR dX11_opened_35 fX_11_67 (by assumption) (by assumption) (by rfl) ?_
      refine x_aload_n dX11_opened_38 x_get_3_0 ?_
      refine x_getR dX11_opened_39 fX_11_47 (by assumption) (by assumption) (by rfl) ?_
      refine x_callV (As := [_]) dX11_opened_42 w_11_335 (c1_pfit hl x51 e2 x39 hse1) (by assumption) (by assumption) rfl rfl (Nat.le_of_ble_eq_true rfl) (Nat.le_of_ble_eq_true rfl) (Nat.le_of_ble_eq_true rfl) (Nat.le_of_ble_eq_true rfl) (Nat.le_of_ble_eq_true rfl) ?_
      intro dz hdz
      obtain rfl := Eq.symm hdz
      rw [x_B_congr (show u_pfit (d1 (51 + 1)) (d1 (39 + 1)) (d1 (39 + 2)) (d1 (39 + 3)) S.length ↔ z_pl T C G (D 34) S by rw [f40 (39 + 1) (by decide) (by decide), f40 (39 + 2) (by decide) (by decide), f40 (39 + 3) (by decide) (by decide)]; exact z_pl_iff hS hSs gTb e1 hls)]
      refine b_ifeq (t := 52) dX11_opened_45 rfl (fun hc45 => ?_) (fun hc45 => ?_)
      · refine x_iconst dX11_opened_52 ?_
        exact x_iret dX11_opened_53 rfl (Nat.le_of_ble_eq_true rfl) (Nat.le_of_ble_eq_true rfl) (by rw [if_pos hc31]; first | (rw [x_B, if_pos hc45]; rfl) | (rw [x_B, if_neg hc45]; rfl)) rfl rfl hcd1 rfl
      · refine x_iconst dX11_opened_48 ?_
        refine x_goto (t := 53) dX11_opened_49 rfl ?_
        exact x_iret dX11_opened_53 rfl (Nat.le_of_ble_eq_true rfl) (Nat.le_of_ble_eq_true rfl) (by rw [if_pos hc31]; first | (rw [x_B, if_pos hc45]; rfl) | (rw [x_B, if_neg hc45]; rfl)) rfl rfl hcd1 rfl
  · rw [if_neg hw]
    refine x_ofW (by decide +kernel) hl (by simp [Value.category]) (by simp) ?_
    refine x_iload_n dX11_opened_0 x_get_3_1 ?_
    refine x_iconst dX11_opened_1 ?_
    exact x_callST (As := [_, _]) dX11_opened_2 w_11_245 (c11_nWhatT hl hwr hw (by decide) (by decide)) rfl rfl (Nat.le_of_ble_eq_true rfl) (Nat.le_of_ble_eq_true rfl) (Nat.le_of_ble_eq_true rfl) (Nat.le_of_ble_eq_true rfl) (Nat.le_of_ble_eq_true rfl) rfl rfl rfl rfl (fun d hd => by obtain rfl := Eq.symm hd; exact hsc) rfl (Nat.le_of_ble_eq_true rfl) (Nat.le_of_ble_eq_true rfl)
theorem c11_next {X : xC} {l : Launch} (hl : l.stackTraces = false) {N : Nat} {sh : xS} {D : xM} {la lb T C W : Nat} {G : Ldt} (hq : cq N sh D la lb T C W G) {S : List (Int × Int × Int)} (hS : seen D 39 S) (hSs : s_sn T S) {w : Int} (hwr : x_r w) : x_M X l yX11_next cX11_next 6 (some .int) 9 1 6 [.ref (x_b X + 0), .int (xI w)] false N sh D (q_next T C G (D 34) S w) false N sh (sc la D) := by
  obtain ⟨hX, hG, hR, ⟨hk, hd9, hpl⟩, hco⟩ := id hq
  obtain ⟨hN, x0, x1, x2, xla, xlb, x33, x35, x37, x39, x43, x45, x47, x51, x60, x61, hll⟩ := id hX
  have hla : la = 3 ∨ la = 18 := by omega
  have n0 : 0 < N := by omega
  have n1 : 1 < N := by omega
  have n2 : 2 < N := by omega
  have n33 : 33 < N := by omega
  have n34 : 34 < N := by omega
  have n35 : 35 < N := by omega
  have n36 : 36 < N := by omega
  have n37 : 37 < N := by omega
  have n38 : 38 < N := by omega
  have n39 : 39 < N := by omega
  have n40 : 40 < N := by omega
  have n41 : 41 < N := by omega
  have n42 : 42 < N := by omega
  have n43 : 43 < N := by omega
  have n45 : 45 < N := by omega
  have n47 : 47 < N := by omega
  have n51 : 51 < N := by omega
  have n60 : 60 < N := by omega
  have n61 : 61 < N := by omega
  have x33a := x33.2.1
  have x34 := x33.2.2.2
  have x35a := x35.2.1
  have x36 := x35.2.2.2
  have x37a := x37.2.1
  have x38 := x37.2.2.2
  have x39a := x39.2.1
  have x43a := x43.2.1
  have x45a := x45.2.1
  have x47a := x47.2.1
  have x51a := x51.2.1
  have xla0 := xla.2.1
  have xla1 := xla.2.2.1
  have xla2 := xla.2.2.2.1
  have hlaN : la < N := by have := xla.1; omega
  have hlaN1 : la + 1 < N := by have := xla.1; omega
  have hlaN2 : la + 2 < N := by have := xla.1; omega
  have hlaN3 : la + 3 < N := by have := xla.1; omega
  have hlaN10 : la + 10 < N := by have := xla.1; omega
  have xru := (is_L_ru xla).2.1
  have xro := (is_L_ro xla).2.1
  obtain ⟨hG1, hG2, hG3⟩ := ldG_G hG
  obtain ⟨n0', ⟨gT, gTb, gC, gCb, -⟩, -⟩ := id hG
  obtain ⟨rW, rWb, rT, -, ro1, ro2, ro3, ro4, ro5, ro6⟩ := id hR
  have hd0 : 0 ≤ D 34 0 := ((hk 0).1 rfl).1
  have hB : 161 * D 34 0 ≤ 160839 := by omega
  have hsc := sc_refl hG hco
  unfold q_next
  by_cases hw : 0 ≤ w ∧ w ≤ 1
  · rw [if_pos hw]
    obtain ⟨hw0, hw1⟩ := id hw
    have hse := seen_ok hS hSs gTb
    have hls : ∀ j : Nat, j < S.length → D (39 + 2) j ≤ ((30 : Nat) : Int) := fun j hj => by have := (seen_at hS hSs gTb hj).2.1; have := (seen_at hS hSs gTb hj).2.2.2.2.1; omega
    have hloop : ∀ k : Nat, k ≤ 31 → ∀ d : xM, sc la D d → (∀ day : Int, 0 ≤ day → day ≤ 30 → (u_st (d (51 + 1)) (d (51 + 2)) (d (51 + 3)) (d (51 + 4)) day 100).1 + (u_st (d (51 + 1)) (d (51 + 2)) (d (51 + 3)) (d (51 + 4)) day 100).2 = z_n T C G (D 34) S day) → x_W (X, l, yX11_next, cX11_next, 6, (some .int), x_room 9 1 6, 1, 6, (o_i (if w = 0 then (l_next T C G (D 34) S 31).1 else (l_next T C G (D 34) S 31).2)), N, sh, (sc la D), false, []) 50 [some (.ref (x_b X + 0)), some (.int (xI w)), some (.int (xI (l_next T C G (D 34) S k).1)), some (.int (xI (l_next T C G (D 34) S k).2)), some (.int (xI (k : Int))), none] [] 0 0 false N sh d := by
      refine x_down 31 ?_ ?_
      · intro d hcd hu
        refine x_iload dX11_next_50 x_get_6_4 ?_
        refine x_bipush dX11_next_52 rfl ?_
        refine r_icmp_gt (t := 86) dX11_next_54 rfl ⟨by omega, by omega⟩ ⟨by omega, by omega⟩ (fun hc54 => ?_) (fun hc54 => absurd hc54 (by omega))
        refine x_iload_n dX11_next_86 x_get_6_1 ?_
        refine r_if_ne (t := 94) dX11_next_87 rfl ⟨by omega, by omega⟩ (fun hc87 => ?_) (fun hc87 => ?_)
        · refine x_iload_n dX11_next_94 x_get_6_3 ?_
          exact x_iret dX11_next_95 rfl (Nat.le_of_ble_eq_true rfl) (Nat.le_of_ble_eq_true rfl) (by first | (rw [if_pos hc87]; rfl) | (rw [if_neg hc87]; rfl)) rfl rfl hcd rfl
        · refine x_iload_n dX11_next_90 x_get_6_2 ?_
          refine x_goto (t := 95) dX11_next_91 rfl ?_
          exact x_iret dX11_next_95 rfl (Nat.le_of_ble_eq_true rfl) (Nat.le_of_ble_eq_true rfl) (by first | (rw [if_pos hc87]; rfl) | (rw [if_neg hc87]; rfl)) rfl rfl hcd rfl
      · intro k hk2 ih d hcd hu
        have hl1 := l_next_in T C G (D 34) S k (by omega)
        have hl2 := z_n_in T C G (D 34) S k
        refine x_iload dX11_next_50 x_get_6_4 ?_
        refine x_bipush dX11_next_52 rfl ?_
        refine r_icmp_gt (t := 86) dX11_next_54 rfl ⟨by omega, by omega⟩ ⟨by omega, by omega⟩ (fun hc54 => absurd hc54 (by omega)) (fun hc54 => ?_)
        refine x_aload_n dX11_next_57 x_get_6_0 ?_
        refine x_getR dX11_next_58 fX_11_67 (by assumption) (by assumption) (by rfl) ?_
        refine x_iload dX11_next_61 x_get_6_4 ?_
        refine x_callV (As := [_]) dX11_next_63 w_11_348 (c1_unlike hl x51 hcd.2.2 (day := (k : Int)) (by omega) (by omega)) (by assumption) (by assumption) rfl rfl (Nat.le_of_ble_eq_true rfl) (Nat.le_of_ble_eq_true rfl) (Nat.le_of_ble_eq_true rfl) (Nat.le_of_ble_eq_true rfl) (Nat.le_of_ble_eq_true rfl) ?_
        intro dz hdz
        obtain rfl := Eq.symm hdz
        rw [hu (k : Int) (by omega) (by omega)]
        refine x_istore dX11_next_66 (Nat.le_of_ble_eq_true rfl) rfl x_set_6_5 ?_
        refine x_iload dX11_next_68 x_get_6_5 ?_
        refine x_iload_n dX11_next_70 x_get_6_3 ?_
        refine r_icmp_le (t := 80) dX11_next_71 rfl ⟨by omega, by omega⟩ ⟨by omega, by omega⟩ (fun hc71 => ?_) (fun hc71 => ?_)
        · refine x_iinc dX11_next_80 x_get_6_4 (Nat.le_of_ble_eq_true rfl) rfl x_set_6_4 ?_
          refine x_goto (t := 50) dX11_next_83 rfl ?_
          refine x_forget 5 ?_
          have e := l_next_s (T := T) (C := C) (G := G) (f := D 34) (S := S) (k := k)
          first | (rw [if_pos (by omega)] at e; rw [e] at ih; exact ih d hcd hu) | (rw [if_neg (by omega)] at e; rw [e] at ih; exact ih d hcd hu)
        · refine x_iload dX11_next_74 x_get_6_4 ?_
          refine x_istore_n dX11_next_76 (Nat.le_of_ble_eq_true rfl) rfl x_set_6_2 ?_
          refine x_iload dX11_next_77 x_get_6_5 ?_
          refine x_istore_n dX11_next_79 (Nat.le_of_ble_eq_true rfl) rfl x_set_6_3 ?_
          refine x_iinc dX11_next_80 x_get_6_4 (Nat.le_of_ble_eq_true rfl) rfl x_set_6_4 ?_
          refine x_goto (t := 50) dX11_next_83 rfl ?_
          refine x_forget 5 ?_
          have e := l_next_s (T := T) (C := C) (G := G) (f := D 34) (S := S) (k := k)
          first | (rw [if_pos (by omega)] at e; rw [e] at ih; exact ih d hcd hu) | (rw [if_neg (by omega)] at e; rw [e] at ih; exact ih d hcd hu)
    refine x_ofW (by decide +kernel) hl (by simp [Value.category]) (by simp) ?_
    refine x_iload_n dX11_next_0 x_get_6_1 ?_
    refine x_iconst dX11_next_1 ?_
    refine x_callS (As := [_, _]) dX11_next_2 w_11_245 (c11_nWhat hl hw0 hw1 (by decide)) rfl rfl (Nat.le_of_ble_eq_true rfl) (Nat.le_of_ble_eq_true rfl) (Nat.le_of_ble_eq_true rfl) (Nat.le_of_ble_eq_true rfl) (Nat.le_of_ble_eq_true rfl) ?_
    intro d hd
    obtain rfl := Eq.symm hd
    refine x_aload_n dX11_next_5 x_get_6_0 ?_
    refine x_getR dX11_next_6 fX_11_67 (by assumption) (by assumption) (by rfl) ?_
    refine x_aload_n dX11_next_9 x_get_6_0 ?_
    refine x_getR dX11_next_10 fX_11_23 (by assumption) (by assumption) (by rfl) ?_
    refine x_aload_n dX11_next_13 x_get_6_0 ?_
    refine x_getR dX11_next_14 fX_11_30 (by assumption) (by assumption) (by rfl) ?_
    refine x_bipush dX11_next_17 rfl ?_
    refine x_callV (As := [_, _, _]) dX11_next_19 w_11_331 (c1_plain hl x51 hco x33 xla hG (Or.inr (by omega)) (Or.inr (by omega)) (Or.inl (by omega)) (B := 161 * D 34 0) hk (by omega) (last := 30) (by decide)) (by assumption) (by assumption) rfl rfl (Nat.le_of_ble_eq_true rfl) (Nat.le_of_ble_eq_true rfl) (Nat.le_of_ble_eq_true rfl) (Nat.le_of_ble_eq_true rfl) (Nat.le_of_ble_eq_true rfl) ?_
    rintro d1 ⟨e1, e2, e3, e4⟩
    have hcd1 : sc la D d1 := ⟨fun j a b c => e4 j (by omega) (by omega) b, e3, e2⟩
    have f34 : d1 34 = D 34 := e4 34 (by decide) (by decide) (by omega)
    have f40 : ∀ j, 39 ≤ j → j ≤ 42 → d1 j = D j := fun j a b => e4 j (by omega) (by omega) (by omega)
    have hse1 : se_ok d1 39 S.length := by
      obtain ⟨s1, s2, s3⟩ := id hse
      refine ⟨by rw [f40 39 (by decide) (by decide)]; exact s1, s2, fun j a b => ?_⟩
      rw [f40 (39 + 1) (by decide) (by decide), f40 (39 + 2) (by decide) (by decide), f40 (39 + 3) (by decide) (by decide)]
      exact s3 j a b
    refine x_aload_n dX11_next_22 x_get_6_0 ?_
    refine x_getR dX11_next_23 fX_11_67 (by assumption) (by assumption) (by rfl) ?_
    refine x_aload_n dX11_next_26 x_get_6_0 ?_
    refine x_getR dX11_next_27 fX_11_23 (by assumption) (by assumption) (by rfl) ?_
    refine x_aload_n dX11_next_30 x_get_6_0 ?_
    refine x_getR dX11_next_31 fX_11_30 (by assumption) (by assumption) (by rfl) ?_
    refine x_aload_n dX11_next_34 x_get_6_0 ?_
    refine x_getR dX11_next_35 fX_11_47 (by assumption) (by assumption) (by rfl) ?_
    refine x_bipush dX11_next_38 rfl ?_
    refine x_callV (As := [_, _, _, _]) dX11_next_40 w_11_339 (c1_all hl x51 e2 x33 xla (ldG_sc hG hcd1 hla) (Or.inr (by omega)) (Or.inr (by omega)) (Or.inl (by omega)) (B := 161 * D 34 0) (by rw [f34]; exact hk) (by omega) x39 hse1 (Or.inl (by omega)) (Or.inr (by omega)) (last := 30) (by decide) (by rw [f40 (39 + 2) (by decide) (by decide)]; exact hls)) (by assumption) (by assumption) rfl rfl (Nat.le_of_ble_eq_true rfl) (Nat.le_of_ble_eq_true rfl) (Nat.le_of_ble_eq_true rfl) (Nat.le_of_ble_eq_true rfl) (Nat.le_of_ble_eq_true rfl) ?_
    rintro d2 ⟨g1, g2, g3, g4, g5⟩
    have hcd2 : sc la D d2 := ⟨fun j a b c => (g5 j (by omega) (by omega) (by omega) (by omega) (by omega) b).trans (e4 j (by omega) (by omega) b), g4, g3⟩
    have hz : ∀ i, y_is G C (d1 34) (d1 (51 + 1)) (d1 (39 + 1)) (d1 (39 + 2)) (d1 (39 + 3)) S.length i ↔ z_is T C G (D 34) S i := by
      intro i
      rw [f34, f40 (39 + 1) (by decide) (by decide), f40 (39 + 2) (by decide) (by decide), f40 (39 + 3) (by decide) (by decide)]
      exact z_is_iff hS hSs gTb e1 hpl hls i
    rw [f34] at g1
    have hu : ∀ day : Int, 0 ≤ day → day ≤ 30 → (u_st (d2 (51 + 1)) (d2 (51 + 2)) (d2 (51 + 3)) (d2 (51 + 4)) day 100).1 + (u_st (d2 (51 + 1)) (d2 (51 + 2)) (d2 (51 + 3)) (d2 (51 + 4)) day 100).2 = z_n T C G (D 34) S day := by
      intro day h0 h1
      have := z_ust hpl e1 g1 (fun i hi => by rw [g2 i hi, x_B_congr (hz i)]) (show d2 (51 + 1) = d1 (51 + 1) from g5 _ (by decide) (by decide) (by decide) (by decide) (by decide) (by omega)) h0 h1
      unfold z_n
      rw [this]
    refine x_iconst dX11_next_43 ?_
    refine x_istore_n dX11_next_44 (Nat.le_of_ble_eq_true rfl) rfl x_set_6_2 ?_
    refine x_iconst dX11_next_45 ?_
    refine x_istore_n dX11_next_46 (Nat.le_of_ble_eq_true rfl) rfl x_set_6_3 ?_
    refine x_iconst dX11_next_47 ?_
    refine x_istore dX11_next_48 (Nat.le_of_ble_eq_true rfl) rfl x_set_6_4 ?_
    exact hloop 0 (Nat.zero_le _) d2 hcd2 hu
  · rw [if_neg hw]
    refine x_ofW (by decide +kernel) hl (by simp [Value.category]) (by simp) ?_
    refine x_iload_n dX11_next_0 x_get_6_1 ?_
    refine x_iconst dX11_next_1 ?_
    exact x_callST (As := [_, _]) dX11_next_2 w_11_245 (c11_nWhatT hl hwr hw (by decide) (by decide)) rfl rfl (Nat.le_of_ble_eq_true rfl) (Nat.le_of_ble_eq_true rfl) (Nat.le_of_ble_eq_true rfl) (Nat.le_of_ble_eq_true rfl) (Nat.le_of_ble_eq_true rfl) rfl rfl rfl rfl (fun d hd => by obtain rfl := Eq.symm hd; exact hsc) rfl (Nat.le_of_ble_eq_true rfl) (Nat.le_of_ble_eq_true rfl)
end C48
