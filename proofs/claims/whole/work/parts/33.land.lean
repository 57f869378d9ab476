section LD
/-! ===== a land, its cells one behind the other; what it says of a day ===== -/
def is_L (N : Nat) (sh : xS) (la : Nat) : Prop := la + 15 ≤ N ∧ sh la = .inr (3, [0, 0, la + 1 + 3, la + 2 + 3, la + 3 + 3, la + 10 + 3, la + 13 + 3]) ∧ sh (la + 1) = .inl (0, 8) ∧ sh (la + 2) = .inl (0, 8)
  ∧ sh (la + 3) = .inr (6, [0, 0, la + 4 + 3, la + 5 + 3, la + 6 + 3, la + 7 + 3, la + 8 + 3, la + 9 + 3]) ∧ (sh (la + 4) = .inl (0, 12) ∧ sh (la + 5) = .inl (0, 12) ∧ sh (la + 6) = .inl (0, 12) ∧ sh (la + 7) = .inl (0, 12) ∧ sh (la + 8) = .inl (0, 64) ∧ sh (la + 9) = .inl (0, 64))
  ∧ sh (la + 10) = .inr (7, [la + 11 + 3, la + 12 + 3, 0, 0, 0]) ∧ sh (la + 11) = .inl (0, 700) ∧ sh (la + 12) = .inl (0, 40) ∧ sh (la + 13) = .inr (9, [la + 14 + 3]) ∧ sh (la + 14) = .inl (0, 85)
theorem is_L_ld {N : Nat} {sh : xS} {la : Nat} (h : is_L N sh la) : is_Ld N sh la (la + 1) (la + 2) (la + 3) (la + 10) (la + 13) := ⟨by have := h.1; omega, h.2.1, by have := h.1; omega, h.2.2.1, by have := h.1; omega, h.2.2.2.1⟩
theorem is_L_ru {N : Nat} {sh : xS} {la : Nat} (h : is_L N sh la) : is_Ru N sh (la + 10) (la + 11) (la + 12) := ⟨by have := h.1; omega, h.2.2.2.2.2.2.1, by have := h.1; omega, h.2.2.2.2.2.2.2.1, by have := h.1; omega, h.2.2.2.2.2.2.2.2.1⟩
theorem is_L_st {N : Nat} {sh : xS} {la : Nat} (h : is_L N sh la) : is_St N sh (la + 13) (la + 14) := ⟨by have := h.1; omega, h.2.2.2.2.2.2.2.2.2.1, by have := h.1; omega, h.2.2.2.2.2.2.2.2.2.2⟩
/-- makes, stakes, odds -/
abbrev Ldt : Type := (Int → Int) × (Int → Int) × ((Int → Int) → Int → Int)
def l_dt (D : xM) (la C n : Nat) : Ldt := (D (la + 1), D (la + 2), o_odds (D (la + 10) 3) (D (la + 10) 4) (D (la + 11)) n (D (la + 1)) (D (la + 2)) C)
def ld (D : xM) (la T C n : Nat) : Prop := D la 0 = T ∧ T ≤ 8 ∧ D la 1 = C ∧ C ≤ 10 ∧ D (la + 10) 2 = n ∧ is_rule D (la + 10) (la + 11) n ∧ (∀ j, 0 ≤ D (la + 1) j ∧ D (la + 1) j ≤ 20) ∧ (∀ j, 0 ≤ D (la + 2) j ∧ D (la + 2) j ≤ 20) ∧ (∀ j, x_r (D (la + 12) j))
def ldG (D : xM) (la T C : Nat) (G : Ldt) : Prop := ∃ n, ld D la T C n ∧ l_dt D la C n = G
theorem ld_same {D d : xM} {la T C n : Nat} (h : ld D la T C n) (h0 : d la = D la) (h1 : d (la + 1) = D (la + 1)) (h2 : d (la + 2) = D (la + 2)) (h3 : d (la + 10) = D (la + 10)) (h4 : d (la + 11) = D (la + 11)) (h5 : ∀ j, x_r (d (la + 12) j)) : ld d la T C n := by
  obtain ⟨a1, a2, a3, a4, a5, a6, a7, a8, a9⟩ := h
  refine ⟨by rw [h0]; exact a1, a2, by rw [h0]; exact a3, a4, by rw [h3]; exact a5, ?_, by rw [h1]; exact a7, by rw [h2]; exact a8, h5⟩
  unfold is_rule at a6 ⊢
  rw [h3, h4]
  exact a6
theorem l_dt_same {D d : xM} {la C n : Nat} (h1 : d (la + 1) = D (la + 1)) (h2 : d (la + 2) = D (la + 2)) (h3 : d (la + 10) = D (la + 10)) (h4 : d (la + 11) = D (la + 11)) : l_dt d la C n = l_dt D la C n := by
  unfold l_dt
  rw [h1, h2, h3, h4]
theorem ldG_up {D : xM} {la T C : Nat} {G : Ldt} (h : ldG D la T C G) {a : Nat} {f : Int → Int} (ha : a < la ∨ la + 13 < a) : ldG (x_up D a f) la T C G := by
  obtain ⟨n, h1, h2⟩ := h
  refine ⟨n, ld_same h1 (x_up_n (by omega)) (x_up_n (by omega)) (x_up_n (by omega)) (x_up_n (by omega)) (x_up_n (by omega)) (by rw [x_up_n (by omega)]; exact h1.2.2.2.2.2.2.2.2), ?_⟩
  rw [← h2]
  exact l_dt_same (x_up_n (by omega)) (x_up_n (by omega)) (x_up_n (by omega)) (x_up_n (by omega))
theorem ldG_sk {D : xM} {la T C : Nat} {G : Ldt} (h : ldG D la T C G) {f : Int → Int} (hf : ∀ j, x_r (f j)) : ldG (x_up D (la + 12) f) la T C G := by
  obtain ⟨n, h1, h2⟩ := h
  refine ⟨n, ld_same h1 (x_up_n (by omega)) (x_up_n (by omega)) (x_up_n (by omega)) (x_up_n (by omega)) (x_up_n (by omega)) (by rw [x_up_s]; exact hf), ?_⟩
  rw [← h2]
  exact l_dt_same (x_up_n (by omega)) (x_up_n (by omega)) (x_up_n (by omega)) (x_up_n (by omega))
theorem ldG_G {D : xM} {la T C : Nat} {G : Ldt} (h : ldG D la T C G) : (∀ j, 0 ≤ G.1 j ∧ G.1 j ≤ 20) ∧ (∀ j, 0 ≤ G.2.1 j ∧ G.2.1 j ≤ 20) ∧ ∀ f t, 0 ≤ G.2.2 f t ∧ G.2.2 f t ≤ 12 := by
  obtain ⟨n, ⟨-, -, -, -, -, -, a7, a8, -⟩, rfl⟩ := h
  exact ⟨a7, a8, fun f t => o_odds_in _ _ _ _ _ _ _ _ _⟩
/-- a town's play; its win -/
abbrev p_win (G : Ldt) (f : Int → Int) (t : Int) : Prop := 7 ≤ G.2.2 (s_add f (1 + t) (G.1 t)) t
def s_play (G : Ldt) (f : Int → Int) (t : Int) : Int → Int := s_stl (s_add f (1 + t) (G.1 t)) t (G.2.1 t) (p_win G f t)
def s_plays (G : Ldt) (f : Int → Int) : Nat → Int → Int
  | 0 => f
  | n + 1 => s_play G (s_plays G f n) n
def s_tick (f : Int → Int) : Int → Int := x_u1 f 0 (f 0 + 1)
def s_day (G : Ldt) (T C : Nat) (f : Int → Int) : Int → Int := s_tick (s_plays G (s_mv f C) T)
def s_days (G : Ldt) (T C : Nat) (f : Int → Int) : Nat → Int → Int
  | 0 => f
  | n + 1 => s_day G T C (s_days G T C f n)
def s_town (G : Ldt) (C : Nat) (f : Int → Int) (t : Int) : Int → Int := s_tick (s_play G (s_mv f C) t)
abbrev p_twin (G : Ldt) (C : Nat) (f : Int → Int) (t : Int) : Prop := p_win G (s_mv f C) t
theorem s_ok_play {B : Int} {f : Int → Int} (h : s_ok B f) {G : Ldt} (hG1 : ∀ j, 0 ≤ G.1 j ∧ G.1 j ≤ 20) (hG2 : ∀ j, 0 ≤ G.2.1 j ∧ G.2.1 j ≤ 20) {t : Int} (h0 : 0 ≤ t) (h1 : t < 8) : s_ok (B + 20) (s_play G f t) :=
  s_ok_stl (s_ok_add h (by omega) (by omega) (hG1 t).1) h0 h1 (hG2 t).1 (hG2 t).2 _
theorem s_ok_plays {B : Int} {f : Int → Int} (h : s_ok B f) {G : Ldt} (hG1 : ∀ j, 0 ≤ G.1 j ∧ G.1 j ≤ 20) (hG2 : ∀ j, 0 ≤ G.2.1 j ∧ G.2.1 j ≤ 20) : ∀ n : Nat, n ≤ 8 → s_ok (B + 20 * n) (s_plays G f n)
  | 0, _ => by simpa [s_plays] using h
  | n + 1, hn => by
    have := s_ok_play (s_ok_plays h hG1 hG2 n (by omega)) hG1 hG2 (t := n) (by omega) (by omega)
    exact s_ok_le (by push_cast; omega) this
theorem s_ok_tick {B : Int} {f : Int → Int} (h : s_ok B f) : s_ok (B + 1) (s_tick f) := by
  refine s_ok_u1 (s_ok_le (by omega) h) ?_
  have := (h 0).1 rfl
  refine ⟨fun _ => ⟨by omega, by omega⟩, fun a => by omega, fun a => by omega, fun a => by omega, fun a => by omega, fun a => by omega, fun a => by omega⟩
theorem s_ok_day {B : Int} {f : Int → Int} (h : s_ok B f) {G : Ldt} (hG1 : ∀ j, 0 ≤ G.1 j ∧ G.1 j ≤ 20) (hG2 : ∀ j, 0 ≤ G.2.1 j ∧ G.2.1 j ≤ 20) {T C : Nat} (hT : T ≤ 8) (hC : C ≤ 10) : s_ok (B + 161) (s_day G T C f) :=
  s_ok_le (by omega) (s_ok_tick (s_ok_plays (s_ok_mv h C hC) hG1 hG2 T hT))
theorem s_ok_days {B : Int} {f : Int → Int} (h : s_ok B f) {G : Ldt} (hG1 : ∀ j, 0 ≤ G.1 j ∧ G.1 j ≤ 20) (hG2 : ∀ j, 0 ≤ G.2.1 j ∧ G.2.1 j ≤ 20) {T C : Nat} (hT : T ≤ 8) (hC : C ≤ 10) : ∀ n : Nat, s_ok (B + 161 * n) (s_days G T C f n)
  | 0 => by simpa [s_days] using h
  | n + 1 => s_ok_le (by push_cast; omega) (s_ok_day (s_ok_days h hG1 hG2 hT hC n) hG1 hG2 hT hC)
theorem s_ok_town {B : Int} {f : Int → Int} (h : s_ok B f) {G : Ldt} (hG1 : ∀ j, 0 ≤ G.1 j ∧ G.1 j ≤ 20) (hG2 : ∀ j, 0 ≤ G.2.1 j ∧ G.2.1 j ≤ 20) {C : Nat} (hC : C ≤ 10) {t : Int} (h0 : 0 ≤ t) (h1 : t < 8) : s_ok (B + 21) (s_town G C f t) :=
  s_ok_le (by omega) (s_ok_tick (s_ok_play (s_ok_mv h C hC) hG1 hG2 h0 h1))
end LD
