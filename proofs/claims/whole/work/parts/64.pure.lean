section P64
/-! ===== a town never feels what the others do ===== -/
theorem s_bits_cg {p q : Nat → Prop} [DecidablePred p] [DecidablePred q] : ∀ {n : Nat}, (∀ c, c < n → (p c ↔ q c)) → s_bits p n = s_bits q n
  | 0, _ => rfl
  | n + 1, h => by
    have ih := s_bits_cg (p := p) (q := q) (n := n) (fun c hc => h c (by omega))
    have h1 := h n (by omega)
    rw [s_bits, s_bits, ih]
    by_cases hp : p n
    · rw [if_pos hp, if_pos (h1.mp hp)]
    · rw [if_neg hp, if_neg (fun hq => hp (h1.mpr hq))]
def ag (t : Int) (f g : Int → Int) : Prop := f 0 = g 0 ∧ f (1 + t) = g (1 + t) ∧ f (9 + t) = g (9 + t) ∧ f (17 + t) = g (17 + t) ∧ ∀ i, 25 ≤ i → f i = g i
def gO (G : Ldt) (C : Nat) : Prop := ∃ (told asks : Int) (ss : Int → Int) (n : Nat), ∀ f t, G.2.2 f t = o_odds told asks ss n G.1 G.2.1 C f t
theorem ag_rf {t : Int} {f : Int → Int} : ag t f f := ⟨rfl, rfl, rfl, rfl, fun _ _ => rfl⟩
theorem ag_tr {t : Int} {f g h : Int → Int} (a : ag t f g) (b : ag t g h) : ag t f h := ⟨a.1.trans b.1, a.2.1.trans b.2.1, a.2.2.1.trans b.2.2.1, a.2.2.2.1.trans b.2.2.2.1, fun i hi => (a.2.2.2.2 i hi).trans (b.2.2.2.2 i hi)⟩
theorem ag_sy {t : Int} {f g : Int → Int} (a : ag t f g) : ag t g f := ⟨a.1.symm, a.2.1.symm, a.2.2.1.symm, a.2.2.2.1.symm, fun i hi => (a.2.2.2.2 i hi).symm⟩
theorem u1_cg {f g : Int → Int} {i j v : Int} (h : f j = g j) : x_u1 f i v j = x_u1 g i v j := by
  unfold x_u1
  split
  · rfl
  · exact h
theorem ag_u1 {t : Int} {f g : Int → Int} (a : ag t f g) {i v w : Int} (hv : v = w) : ag t (x_u1 f i v) (x_u1 g i w) := by
  subst hv
  exact ⟨u1_cg a.1, u1_cg a.2.1, u1_cg a.2.2.1, u1_cg a.2.2.2.1, fun i hi => u1_cg (a.2.2.2.2 i hi)⟩
theorem ag_odds {G : Ldt} {C : Nat} (hG : gO G C) {t : Int} {f g : Int → Int} (a : ag t f g) : G.2.2 f t = G.2.2 g t := by
  obtain ⟨told, asks, ss, n, h⟩ := hG
  rw [h, h]
  unfold o_odds
  have hb : s_bits (fun c => s_in f t c) C = s_bits (fun c => s_in g t c) C := s_bits_cg (fun c _ => by
    have e1 := a.2.2.2.2 (55 + (c : Int)) (by omega)
    have e2 := a.2.2.2.2 (65 + (c : Int)) (by omega)
    constructor
    · rintro ⟨x, y⟩; exact ⟨by rw [← e1]; exact x, by rw [← e2]; exact y⟩
    · rintro ⟨x, y⟩; exact ⟨by rw [e1]; exact x, by rw [e2]; exact y⟩)
  have hv : ∀ cr : Int, o_val G.1 G.2.1 f cr t = o_val G.1 G.2.1 g cr t := fun cr => by
    funext s
    unfold o_val
    rw [a.1, a.2.1, a.2.2.1]
  rw [hb, hv, a.2.1, a.2.2.1]
theorem ag_mv1 {t : Int} {f g : Int → Int} (a : ag t f g) {c : Int} (hc : 0 ≤ c) : ag t (s_mv1 f c) (s_mv1 g c) := by
  have e1 := a.2.2.2.2 (65 + c) (by omega)
  have e2 := a.2.2.2.2 (45 + c) (by omega)
  have e3 := a.2.2.2.2 (25 + c) (by omega)
  have e4 := a.2.2.2.2 (75 + c) (by omega)
  unfold s_mv1
  rw [e1, e2, e3, e4]
  split
  · split
    · refine ag_u1 (ag_u1 a rfl) ?_
      rw [x_u1_n (by omega), x_u1_n (by omega), e1]
    · exact ag_u1 a (by rw [e1])
  · exact a
theorem ag_mv {t : Int} {f g : Int → Int} (a : ag t f g) : ∀ n : Nat, ag t (s_mv f n) (s_mv g n)
  | 0 => a
  | n + 1 => ag_mv1 (ag_mv a n) (by omega)
theorem ag_play {G : Ldt} {C : Nat} (hG : gO G C) {t : Int} {f g : Int → Int} (a : ag t f g) : ag t (s_play G f t) (s_play G g t) ∧ (p_win G f t ↔ p_win G g t) := by
  have h1 : ag t (s_add f (1 + t) (G.1 t)) (s_add g (1 + t) (G.1 t)) := ag_u1 a (by rw [a.2.1])
  have hw : p_win G f t ↔ p_win G g t := by
    unfold p_win
    rw [ag_odds hG h1]
  refine ⟨?_, hw⟩
  unfold s_play s_stl
  have h2 : ag t (if p_win G f t then s_win (s_add f (1 + t) (G.1 t)) t (G.2.1 t) else s_los (s_add f (1 + t) (G.1 t)) t (G.2.1 t)) (if p_win G g t then s_win (s_add g (1 + t) (G.1 t)) t (G.2.1 t) else s_los (s_add g (1 + t) (G.1 t)) t (G.2.1 t)) := by
    by_cases hp : p_win G f t
    · rw [if_pos hp, if_pos (hw.mp hp)]
      unfold s_win
      refine ag_u1 (ag_u1 h1 (by rw [h1.2.2.2.1])) ?_
      rw [x_u1_n (by omega), x_u1_n (by omega), h1.2.1]
    · rw [if_neg hp, if_neg (fun h => hp (hw.mpr h))]
      unfold s_los
      refine ag_u1 (ag_u1 h1 (by rw [h1.2.2.2.1])) ?_
      rw [x_u1_n (by omega), x_u1_n (by omega), h1.2.1]
  generalize (if p_win G f t then s_win (s_add f (1 + t) (G.1 t)) t (G.2.1 t) else s_los (s_add f (1 + t) (G.1 t)) t (G.2.1 t)) = u at h2
  generalize (if p_win G g t then s_win (s_add g (1 + t) (G.1 t)) t (G.2.1 t) else s_los (s_add g (1 + t) (G.1 t)) t (G.2.1 t)) = v at h2
  unfold s_evn
  refine ag_u1 (ag_u1 h2 (by rw [h2.2.1, h2.2.2.1])) ?_
  rw [x_u1_n (by omega), x_u1_n (by omega), h2.2.1, h2.2.2.1]
theorem ag_other {G : Ldt} {t t' : Int} {f : Int → Int} (h0 : 0 ≤ t) (h1 : t < 8) (h2 : 0 ≤ t') (h3 : t' < 8) (hn : t' ≠ t) : ag t (s_play G f t') f :=
  ⟨s_play_keep (by omega) (by omega) (by omega), s_play_keep (by omega) (by omega) (by omega), s_play_keep (by omega) (by omega) (by omega), s_play_keep (by omega) (by omega) (by omega), fun i hi => s_play_keep (by omega) (by omega) (by omega)⟩
theorem ag_plays {G : Ldt} {C : Nat} (hG : gO G C) {t : Nat} (ht : t < 8) {f : Int → Int} : ∀ n : Nat, n ≤ 8 → ag t (s_plays G f n) (if t < n then s_play G f t else f)
  | 0, _ => by rw [if_neg (by omega)]; exact ag_rf
  | n + 1, hn => by
    have ih := ag_plays hG ht (f := f) n (by omega)
    rw [s_plays]
    by_cases h : n = t
    · subst h
      rw [if_neg (by omega)] at ih
      rw [if_pos (by omega)]
      exact (ag_play hG ih).1
    · have h1 := ag_other (G := G) (f := s_plays G f n) (t := (t : Int)) (t' := (n : Int)) (by omega) (by omega) (by omega) (by omega) (by omega)
      refine ag_tr h1 ?_
      by_cases h2 : t < n
      · rw [if_pos h2] at ih
        rw [if_pos (by omega)]
        exact ih
      · rw [if_neg h2] at ih
        rw [if_neg (by omega)]
        exact ih
theorem w_p_iff {G : Ldt} {C : Nat} (hG : gO G C) {t : Nat} (ht : t < 8) {f : Int → Int} : w_p G f t ↔ p_win G f t := by
  have h := ag_plays hG ht (f := f) t (by omega)
  rw [if_neg (by omega)] at h
  exact (ag_play hG h).2
theorem ag_tick {t : Int} {f g : Int → Int} (a : ag t f g) : ag t (s_tick f) (s_tick g) := ag_u1 a (by rw [a.1])
theorem ag_day {G : Ldt} {C T : Nat} (hG : gO G C) {t : Nat} (ht : t < T) (hT : T ≤ 8) {f g : Int → Int} (a : ag t f g) : ag t (s_day G T C f) (s_town G C g t) := by
  unfold s_day s_town
  refine ag_tick ?_
  have h := ag_plays hG (t := t) (by omega) (f := s_mv f C) T hT
  rw [if_pos ht] at h
  exact ag_tr h (ag_play hG (ag_mv a C)).1
theorem ag_days {G : Ldt} {C T : Nat} (hG : gO G C) {t : Nat} (ht : t < T) (hT : T ≤ 8) {f g : Int → Int} (a : ag t f g) : ∀ n : Nat, ag t (s_days G T C f n) (s_towns G C g t n)
  | 0 => a
  | n + 1 => ag_day hG ht hT (ag_days hG ht hT a n)
theorem w_p_days {G : Ldt} {C T : Nat} (hG : gO G C) {t : Nat} (ht : t < T) (hT : T ≤ 8) {f : Int → Int} (n : Nat) : w_p G (s_mv (s_days G T C f n) C) t ↔ p_twin G C (s_towns G C f t n) t := by
  rw [w_p_iff hG (by omega)]
  exact (ag_play hG (ag_mv (ag_days hG ht hT ag_rf n) C)).2
theorem s_days_t {G : Ldt} {C T : Nat} (hG : gO G C) {t : Nat} (ht : t < T) (hT : T ≤ 8) {f : Int → Int} (n : Nat) : s_days G T C f n (1 + (t : Int)) = s_towns G C f t n (1 + (t : Int)) ∧ s_days G T C f n (9 + (t : Int)) = s_towns G C f t n (9 + (t : Int)) ∧ s_days G T C f n (17 + (t : Int)) = s_towns G C f t n (17 + (t : Int)) ∧ G.2.2 (s_days G T C f n) t = G.2.2 (s_towns G C f t n) t := by
  have h := ag_days hG ht hT (f := f) ag_rf n
  exact ⟨h.2.1, h.2.2.1, h.2.2.2.1, ag_odds hG h⟩
end P64
