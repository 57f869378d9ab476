section P67
/-! a draw: the bits 16 to 30 -/
theorem sr_ur (v : Int32) : (v >>> (xI 16 &&& 31)) &&& xI 32767 = ((v.toUInt32 >>> ((xI 16).toUInt32 &&& Int32.toUInt32 31)).toInt32) &&& xI 32767 := by
  have e1 : (xI 16 &&& 31) = (16 : Int32) := by decide
  have e2 : ((xI 16).toUInt32 &&& Int32.toUInt32 31) = (16 : UInt32) := by decide
  have e3 : xI 32767 = (32767 : Int32) := by decide
  rw [e1, e2, e3]
  apply Int32.toBitVec_inj.mp
  simp only [Int32.toBitVec_and, Int32.toBitVec_shiftRight, UInt32.toBitVec_toInt32, UInt32.toBitVec_shiftRight, Int32.toBitVec_toUInt32]
  apply BitVec.eq_of_getLsbD_eq
  intro i hi
  by_cases h : i < 15
  · have : i = 0 ∨ i = 1 ∨ i = 2 ∨ i = 3 ∨ i = 4 ∨ i = 5 ∨ i = 6 ∨ i = 7 ∨ i = 8 ∨ i = 9 ∨ i = 10 ∨ i = 11 ∨ i = 12 ∨ i = 13 ∨ i = 14 := by omega
    rcases this with rfl | rfl | rfl | rfl | rfl | rfl | rfl | rfl | rfl | rfl | rfl | rfl | rfl | rfl | rfl <;> simp [BitVec.getLsbD_sshiftRight, BitVec.getLsbD_ushiftRight, BitVec.getElem_sshiftRight]
  · have h15 : (Int32.toBitVec 32767).getLsbD i = false := by
      have : i = 15 ∨ i = 16 ∨ i = 17 ∨ i = 18 ∨ i = 19 ∨ i = 20 ∨ i = 21 ∨ i = 22 ∨ i = 23 ∨ i = 24 ∨ i = 25 ∨ i = 26 ∨ i = 27 ∨ i = 28 ∨ i = 29 ∨ i = 30 ∨ i = 31 := by omega
      rcases this with rfl | rfl | rfl | rfl | rfl | rfl | rfl | rfl | rfl | rfl | rfl | rfl | rfl | rfl | rfl | rfl | rfl <;> decide
    rw [BitVec.getLsbD_and, BitVec.getLsbD_and, h15, Bool.and_false, Bool.and_false]
theorem d_sr (z : Int) : x_an (x_sr z 16) 32767 = x_an (x_ur z 16) 32767 := by
  unfold x_an x_sr x_ur
  rw [xI_toInt, xI_toInt, sr_ur]
/-! a crate that is gone: its grains say nothing -/
def ae (c : Int) (f g : Int → Int) : Prop := (∀ i, i ≠ 25 + c → f i = g i) ∧ f (55 + c) = -1 ∧ f (65 + c) = 0
theorem ae_u1 {c : Int} {f g : Int → Int} (h : ae c f g) {i v w : Int} (h1 : i ≠ 55 + c) (h2 : i ≠ 65 + c) (hv : v = w) : ae c (x_u1 f i v) (x_u1 g i w) := by
  subst hv
  exact ⟨fun j hj => u1_cg (h.1 j hj), by rw [x_u1_n (by omega)]; exact h.2.1, by rw [x_u1_n (by omega)]; exact h.2.2⟩
theorem ae_lose {c : Int} {f : Int → Int} (h : f (65 + c) = 0) : ae c (s_lose f c) (x_u1 f (55 + c) (-1)) := by
  unfold s_lose
  refine ⟨fun i hi => ?_, by rw [x_u1_n (by omega), x_u1_s], by rw [x_u1_s]⟩
  by_cases h1 : i = 65 + c
  · subst h1; rw [x_u1_s, x_u1_n (by omega), h]
  · rw [x_u1_n h1]
    by_cases h2 : i = 55 + c
    · subst h2; rw [x_u1_s, x_u1_s]
    · rw [x_u1_n h2, x_u1_n hi, x_u1_n h2]
theorem ae_opn {c n : Int} {f g : Int → Int} (h : ae c f g) (hc0 : 0 ≤ c) (hc1 : c < 10) (hn0 : 0 ≤ n) (hn1 : n < 10) (hn : n ≠ c) (hp0 : -1 ≤ f (55 + n)) (hp1 : f (55 + n) ≤ 7) : ae c (s_opn f n) (s_opn g n) := by
  have e1 := h.1 (35 + n) (by omega)
  have e2 := h.1 (55 + n) (by omega)
  have e3 := h.1 (25 + n) (by omega)
  unfold s_opn s_lose s_add
  rw [← e1, ← e2, ← e3]
  have hi : ∀ k : Int, k = 9 ∨ k = 1 → k + f (55 + n) ≠ 55 + c ∧ k + f (55 + n) ≠ 65 + c ∧ k + f (55 + n) ≠ 25 + c := fun k hk => by omega
  have hk := hi (if f (35 + n) = 1 then 9 else 1) (by split <;> simp)
  refine ae_u1 (ae_u1 (ae_u1 (ae_u1 h hk.1 hk.2.1 ?_) (by omega) (by omega) rfl) (by omega) (by omega) rfl) (by omega) (by omega) rfl
  rw [h.1 _ hk.2.2]
theorem ae_opall {c : Int} {f g : Int → Int} (h : ae c f g) (hc0 : 0 ≤ c) (hc1 : c < 10) {B : Int} (hk : s_ok B f) : ∀ n : Nat, n ≤ 10 → ae c (s_opall f n) (s_opall g n)
  | 0, _ => h
  | n + 1, hn => by
    have ih := ae_opall h hc0 hc1 hk n (by omega)
    have hkn := s_ok_opall hk n (by omega)
    rw [s_opall_s, s_opall_s]
    by_cases hnc : (n : Int) = c
    · rw [hnc]
      rw [if_neg (fun hl => hl.1 ih.2.1), if_neg (fun hl => hl.1 (by rw [← ih.1 (55 + c) (by omega)]; exact ih.2.1))]
      exact ih
    · have e1 := ih.1 (55 + (n : Int)) (by omega)
      have e2 := ih.1 (65 + (n : Int)) (by omega)
      by_cases hl : s_lies (s_opall f n) n
      · rw [if_pos hl, if_pos ⟨by rw [← e1]; exact hl.1, by rw [← e2]; exact hl.2⟩]
        have := (s_cr hkn (c := (n : Int)) (by omega) (by omega)).2.2.2.1
        exact ae_opn ih hc0 hc1 (by omega) (by omega) hnc this.1 this.2
      · rw [if_neg hl, if_neg (fun h2 => hl ⟨by rw [e1]; exact h2.1, by rw [e2]; exact h2.2⟩)]
        exact ih
theorem ae_mv {c : Int} {f g : Int → Int} (h : ae c f g) (hc0 : 0 ≤ c) (hc1 : c < 10) : ∀ n : Nat, n ≤ 10 → ae c (s_mv f n) (s_mv g n)
  | 0, _ => h
  | n + 1, hn => by
    have ih := ae_mv h hc0 hc1 n (by omega)
    rw [s_mv, s_mv]
    by_cases hnc : (n : Int) = c
    · rw [hnc]
      unfold s_mv1
      rw [if_neg (by rw [ih.2.2]; decide), if_neg (by rw [← ih.1 (65 + c) (by omega), ih.2.2]; decide)]
      exact ih
    · have e1 := ih.1 (65 + (n : Int)) (by omega)
      have e2 := ih.1 (45 + (n : Int)) (by omega)
      have e3 := ih.1 (25 + (n : Int)) (by omega)
      have e4 := ih.1 (75 + (n : Int)) (by omega)
      unfold s_mv1
      rw [e1, e2, e3, e4]
      split
      · split
        · refine ae_u1 (ae_u1 ih (by omega) (by omega) rfl) (by omega) (by omega) ?_
          rw [x_u1_n (by omega), x_u1_n (by omega), e1]
        · exact ae_u1 ih (by omega) (by omega) (by rw [e1])
      · exact ih
theorem ae_play {G : Ldt} {C : Nat} (hG : gO G C) {c : Int} {f g : Int → Int} (h : ae c f g) (hc0 : 0 ≤ c) (hc1 : c < 10) (hC : C ≤ 10) {t : Int} (ht0 : 0 ≤ t) (ht1 : t < 8) : ae c (s_play G f t) (s_play G g t) := by
  have hO : ∀ u v : Int → Int, ae c u v → G.2.2 u t = G.2.2 v t := by
    intro u v huv
    obtain ⟨told, asks, ss, n, hh⟩ := hG
    rw [hh, hh]
    unfold o_odds
    have hb : s_bits (fun c => s_in u t c) C = s_bits (fun c => s_in v t c) C := s_bits_cg (fun i hi => by
      have e1 := huv.1 (55 + (i : Int)) (by omega)
      have e2 := huv.1 (65 + (i : Int)) (by omega)
      constructor
      · rintro ⟨x, y⟩; exact ⟨by rw [← e1]; exact x, by rw [← e2]; exact y⟩
      · rintro ⟨x, y⟩; exact ⟨by rw [e1]; exact x, by rw [e2]; exact y⟩)
    have hv : ∀ cr : Int, o_val G.1 G.2.1 u cr t = o_val G.1 G.2.1 v cr t := fun cr => by
      funext s
      unfold o_val
      rw [huv.1 0 (by omega), huv.1 (1 + t) (by omega), huv.1 (9 + t) (by omega)]
    rw [hb, hv, huv.1 (1 + t) (by omega), huv.1 (9 + t) (by omega)]
  have h1 : ae c (s_add f (1 + t) (G.1 t)) (s_add g (1 + t) (G.1 t)) := ae_u1 h (by omega) (by omega) (by rw [h.1 (1 + t) (by omega)])
  have hw : p_win G f t ↔ p_win G g t := by
    unfold p_win
    rw [hO _ _ h1]
  unfold s_play s_stl
  have a1 := h1.1 (1 + t) (by omega)
  have a17 := h1.1 (17 + t) (by omega)
  have h2 : ae c (if p_win G f t then s_win (s_add f (1 + t) (G.1 t)) t (G.2.1 t) else s_los (s_add f (1 + t) (G.1 t)) t (G.2.1 t)) (if p_win G g t then s_win (s_add g (1 + t) (G.1 t)) t (G.2.1 t) else s_los (s_add g (1 + t) (G.1 t)) t (G.2.1 t)) := by
    by_cases hp : p_win G f t
    · rw [if_pos hp, if_pos (hw.mp hp)]
      unfold s_win
      refine ae_u1 (ae_u1 h1 (by omega) (by omega) (by rw [a17])) (by omega) (by omega) ?_
      rw [x_u1_n (by omega), x_u1_n (by omega), a1]
    · rw [if_neg hp, if_neg (fun h => hp (hw.mpr h))]
      unfold s_los
      refine ae_u1 (ae_u1 h1 (by omega) (by omega) (by rw [a17])) (by omega) (by omega) ?_
      rw [x_u1_n (by omega), x_u1_n (by omega), a1]
  generalize (if p_win G f t then s_win (s_add f (1 + t) (G.1 t)) t (G.2.1 t) else s_los (s_add f (1 + t) (G.1 t)) t (G.2.1 t)) = u at h2
  generalize (if p_win G g t then s_win (s_add g (1 + t) (G.1 t)) t (G.2.1 t) else s_los (s_add g (1 + t) (G.1 t)) t (G.2.1 t)) = v at h2
  have b1 := h2.1 (1 + t) (by omega)
  have b9 := h2.1 (9 + t) (by omega)
  unfold s_evn
  refine ae_u1 (ae_u1 h2 (by omega) (by omega) (by rw [b1, b9])) (by omega) (by omega) ?_
  rw [x_u1_n (by omega), x_u1_n (by omega), b1, b9]
theorem ae_plays {G : Ldt} {C : Nat} (hG : gO G C) {c : Int} {f g : Int → Int} (h : ae c f g) (hc0 : 0 ≤ c) (hc1 : c < 10) (hC : C ≤ 10) : ∀ n : Nat, n ≤ 8 → ae c (s_plays G f n) (s_plays G g n)
  | 0, _ => h
  | n + 1, hn => ae_play hG (ae_plays hG h hc0 hc1 hC n (by omega)) hc0 hc1 hC (by omega) (by omega)
theorem ae_days {G : Ldt} {C T : Nat} (hG : gO G C) {c : Int} {f g : Int → Int} (h : ae c f g) (hc0 : 0 ≤ c) (hc1 : c < 10) (hC : C ≤ 10) (hT : T ≤ 8) : ∀ n : Nat, ae c (s_days G T C f n) (s_days G T C g n)
  | 0 => h
  | n + 1 => by
    have h1 := ae_plays hG (ae_mv (ae_days hG h hc0 hc1 hC hT n) hc0 hc1 C hC) hc0 hc1 hC T hT
    exact ae_u1 h1 (by omega) (by omega) (by rw [h1.1 0 (by omega)])
theorem v_wo_ae {G : Ldt} {C T : Nat} (hG : gO G C) {c : Int} {f : Int → Int} (hc0 : 0 ≤ c) (hc1 : c < 10) (hC : C ≤ 10) (hT : T ≤ 8) {B : Int} (hk : s_ok B f) (h65 : f (65 + c) = 0) : v_won T (s_days G T C (s_opall (x_u1 f (55 + c) (-1)) C) 30) = v_wo T C G f c := by
  have h := ae_days (T := T) hG (ae_opall (ae_lose h65) hc0 hc1 (s_ok_lose hk hc0 hc1) C hC) hc0 hc1 hC hT 30
  unfold v_wo v_won
  refine x_sum_congr (fun i hi => ?_)
  exact (h.1 (17 + (i : Int)) (by omega)).symm
/-! where crates lie -/
def pl_ok (T C : Nat) (f : Int → Int) : Prop := ∀ c : Int, 0 ≤ c → c < C → f (55 + c) = -1 ∨ (0 ≤ f (55 + c) ∧ f (55 + c) < T)
theorem pl_u1 {T C : Nat} {f : Int → Int} (h : pl_ok T C f) (hC : C ≤ 10) {i v : Int} (hi : i < 55 ∨ 65 ≤ i) : pl_ok T C (x_u1 f i v) := fun c h0 h1 => by rw [x_u1_n (by omega)]; exact h c h0 h1
theorem pl_gone {T C : Nat} {f : Int → Int} (h : pl_ok T C f) {c : Int} : pl_ok T C (x_u1 f (55 + c) (-1)) := fun e h0 h1 => by
  by_cases he : e = c
  · subst he; rw [x_u1_s]; exact Or.inl rfl
  · rw [x_u1_n (by omega)]; exact h e h0 h1
theorem pl_opn {T C : Nat} {f : Int → Int} (h : pl_ok T C f) (hT : T ≤ 8) (hC : C ≤ 10) {c : Int} (hc0 : 0 ≤ c) (hc1 : c < C) (hp : ¬ f (55 + c) = -1) : pl_ok T C (s_opn f c) := by
  have h1 := h c hc0 hc1
  unfold s_opn s_lose s_add
  refine pl_u1 (pl_gone (pl_u1 (pl_u1 h hC ?_) hC (by omega))) hC (by omega)
  split <;> omega
theorem pl_opall {T C : Nat} {f : Int → Int} (h : pl_ok T C f) (hT : T ≤ 8) (hC : C ≤ 10) : ∀ n : Nat, n ≤ C → pl_ok T C (s_opall f n)
  | 0, _ => h
  | n + 1, hn => by
    have ih := pl_opall h hT hC n (by omega)
    rw [s_opall_s]
    by_cases hl : s_lies (s_opall f n) n
    · rw [if_pos hl]; exact pl_opn ih hT hC (by omega) (by omega) hl.1
    · rw [if_neg hl]; exact ih
/-! a game: what the other one gives comes to this one alone -/
theorem v_game_ag {G : Ldt} {C T : Nat} (hG : gO G C) (hT : T ≤ 8) {f : Int → Int} {t u : Nat} (ht : t < T) (hu : u < T) (hne : ¬ (t : Int) = u) {a b : Int} : s_days G T C (x_u1 (x_u1 f (1 + (t : Int)) a) (1 + (u : Int)) b) 10 (17 + (t : Int)) = s_towns G C (x_u1 f (1 + (t : Int)) a) t 10 (17 + (t : Int)) := by
  have h : ag (t : Int) (x_u1 (x_u1 f (1 + (t : Int)) a) (1 + (u : Int)) b) (x_u1 f (1 + (t : Int)) a) := ⟨x_u1_n (by omega), x_u1_n (by omega), x_u1_n (by omega), x_u1_n (by omega), fun i hi => x_u1_n (by omega)⟩
  exact (ag_days hG ht hT h 10).2.2.2.1
/-! to lend: the most, or the least rest -/
def l_lnd (P : Nat → Prop) [DecidablePred P] (L : Nat) : Nat → Int
  | 0 => 0
  | v + 1 => if P (L - v) then (v : Int) else l_lnd P L v
theorem l_lnd_s {P : Nat → Prop} [DecidablePred P] {L v : Nat} : l_lnd P L (v + 1) = if P (L - v) then (v : Int) else l_lnd P L v := rfl
theorem l_lnd_no {P : Nat → Prop} [DecidablePred P] {L : Nat} (h : ∀ j, j < L → ¬ P j) : ∀ v : Nat, v ≤ L + 1 → l_lnd P L v = 0
  | 0, _ => rfl
  | v + 1, hv => by
    rw [l_lnd_s]
    by_cases h0 : v = 0
    · subst h0
      split <;> rfl
    · rw [if_neg (h (L - v) (by omega))]
      exact l_lnd_no h v (by omega)
theorem l_lnd_hit {P : Nat → Prop} [DecidablePred P] {L i : Nat} (hi : i < L) (hp : P i) (h : ∀ j, j < i → ¬ P j) : ∀ v : Nat, L - i < v → v ≤ L + 1 → l_lnd P L v = (L : Int) - i
  | 0, h1, _ => by omega
  | v + 1, h1, hv => by
    rw [l_lnd_s]
    by_cases h0 : v = L - i
    · rw [if_pos (by rw [h0, show L - (L - i) = i by omega]; exact hp)]
      omega
    · rw [if_neg (h (L - v) (by omega))]
      exact l_lnd_hit hi hp h v (by omega) (by omega)
theorem l_lnd_eq {P : Nat → Prop} [DecidablePred P] {L : Nat} : l_lnd P L (L + 1) = (fun z : Int => if z = -1 then 0 else (L : Int) - z) (x_first P L) := by
  rcases x_first_cases P L with ⟨h1, h2⟩ | ⟨i, h1, h2, h3, h4⟩
  · rw [h1, l_lnd_no h2 _ (Nat.le_refl _)]; rfl
  · rw [h2, l_lnd_hit h1 h3 h4 _ (by omega) (Nat.le_refl _)]
    dsimp only
    rw [if_neg (by omega)]
end P67
