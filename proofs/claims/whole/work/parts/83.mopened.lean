section M83
/-! ===== an opening is felt in its town alone ===== -/
def ax (t c : Int) (f g : Int → Int) : Prop := f 0 = g 0 ∧ f (1 + t) = g (1 + t) ∧ f (9 + t) = g (9 + t) ∧ f (17 + t) = g (17 + t) ∧ (∀ i, 25 ≤ i → i ≠ 25 + c → i ≠ 55 + c → i ≠ 65 + c → f i = g i) ∧ f (65 + c) = 0 ∧ g (65 + c) = 0 ∧ ¬ f (55 + c) = t ∧ ¬ g (55 + c) = t
theorem ax_u1 {t c : Int} {f g : Int → Int} (h : ax t c f g) {i v w : Int} (h1 : i ≠ 55 + c) (h2 : i ≠ 65 + c) (hv : v = w) : ax t c (x_u1 f i v) (x_u1 g i w) := by
  subst hv
  obtain ⟨a1, a2, a3, a4, a5, a6, a7, a8, a9⟩ := h
  exact ⟨u1_cg a1, u1_cg a2, u1_cg a3, u1_cg a4, fun j x y z w => u1_cg (a5 j x y z w), by rw [x_u1_n (by omega)]; exact a6, by rw [x_u1_n (by omega)]; exact a7, by rw [x_u1_n (by omega)]; exact a8, by rw [x_u1_n (by omega)]; exact a9⟩
theorem ax_odds {G : Ldt} {C : Nat} (hG : gO G C) {t c : Int} {f g : Int → Int} (h : ax t c f g) (hc0 : 0 ≤ c) (hc1 : c < 10) (hC : C ≤ 10) : G.2.2 f t = G.2.2 g t := by
  obtain ⟨a1, a2, a3, a4, a5, a6, a7, a8, a9⟩ := h
  obtain ⟨told, asks, ss, n, hh⟩ := hG
  rw [hh, hh]
  unfold o_odds
  have hb : s_bits (fun c => s_in f t c) C = s_bits (fun c => s_in g t c) C := s_bits_cg (fun e he => by
    by_cases hec : (e : Int) = c
    · constructor
      · rintro ⟨x, -⟩; rw [hec] at x; exact absurd x a8
      · rintro ⟨x, -⟩; rw [hec] at x; exact absurd x a9
    · have e1 := a5 (55 + (e : Int)) (by omega) (by omega) (by omega) (by omega)
      have e2 := a5 (65 + (e : Int)) (by omega) (by omega) (by omega) (by omega)
      constructor
      · rintro ⟨x, y⟩; exact ⟨by rw [← e1]; exact x, by rw [← e2]; exact y⟩
      · rintro ⟨x, y⟩; exact ⟨by rw [e1]; exact x, by rw [e2]; exact y⟩)
  have hv : ∀ cr : Int, o_val G.1 G.2.1 f cr t = o_val G.1 G.2.1 g cr t := fun cr => by
    funext s
    unfold o_val
    rw [a1, a2, a3]
  rw [hb, hv, a2, a3]
theorem ax_mv {t c : Int} {f g : Int → Int} (h : ax t c f g) (hc0 : 0 ≤ c) (hc1 : c < 10) : ∀ n : Nat, n ≤ 10 → ax t c (s_mv f n) (s_mv g n)
  | 0, _ => h
  | n + 1, hn => by
    have ih := ax_mv h hc0 hc1 n (by omega)
    obtain ⟨a1, a2, a3, a4, a5, a6, a7, a8, a9⟩ := id ih
    rw [s_mv, s_mv]
    by_cases hnc : (n : Int) = c
    · rw [hnc]
      unfold s_mv1
      rw [if_neg (by omega), if_neg (by omega)]
      exact ih
    · have e1 := a5 (65 + (n : Int)) (by omega) (by omega) (by omega) (by omega)
      have e2 := a5 (45 + (n : Int)) (by omega) (by omega) (by omega) (by omega)
      have e3 := a5 (25 + (n : Int)) (by omega) (by omega) (by omega) (by omega)
      have e4 := a5 (75 + (n : Int)) (by omega) (by omega) (by omega) (by omega)
      unfold s_mv1
      rw [e1, e2, e3, e4]
      split
      · split
        · refine ax_u1 (ax_u1 ih (by omega) (by omega) rfl) (by omega) (by omega) ?_
          rw [x_u1_n (by omega), x_u1_n (by omega), e1]
        · exact ax_u1 ih (by omega) (by omega) (by rw [e1])
      · exact ih
theorem ax_play {G : Ldt} {C : Nat} (hG : gO G C) {t c : Int} {f g : Int → Int} (h : ax t c f g) (hc0 : 0 ≤ c) (hc1 : c < 10) (hC : C ≤ 10) (ht0 : 0 ≤ t) (ht1 : t < 8) : ax t c (s_play G f t) (s_play G g t) := by
  have h1 : ax t c (s_add f (1 + t) (G.1 t)) (s_add g (1 + t) (G.1 t)) := ax_u1 h (by omega) (by omega) (by rw [h.2.1])
  have hw : p_win G f t ↔ p_win G g t := by
    unfold p_win
    rw [ax_odds hG h1 hc0 hc1 hC]
  unfold s_play s_stl
  have h2 : ax t c (if p_win G f t then s_win (s_add f (1 + t) (G.1 t)) t (G.2.1 t) else s_los (s_add f (1 + t) (G.1 t)) t (G.2.1 t)) (if p_win G g t then s_win (s_add g (1 + t) (G.1 t)) t (G.2.1 t) else s_los (s_add g (1 + t) (G.1 t)) t (G.2.1 t)) := by
    by_cases hp : p_win G f t
    · rw [if_pos hp, if_pos (hw.mp hp)]
      unfold s_win
      refine ax_u1 (ax_u1 h1 (by omega) (by omega) (by rw [h1.2.2.2.1])) (by omega) (by omega) ?_
      rw [x_u1_n (by omega), x_u1_n (by omega), h1.2.1]
    · rw [if_neg hp, if_neg (fun h => hp (hw.mpr h))]
      unfold s_los
      refine ax_u1 (ax_u1 h1 (by omega) (by omega) (by rw [h1.2.2.2.1])) (by omega) (by omega) ?_
      rw [x_u1_n (by omega), x_u1_n (by omega), h1.2.1]
  generalize (if p_win G f t then s_win (s_add f (1 + t) (G.1 t)) t (G.2.1 t) else s_los (s_add f (1 + t) (G.1 t)) t (G.2.1 t)) = u at h2
  generalize (if p_win G g t then s_win (s_add g (1 + t) (G.1 t)) t (G.2.1 t) else s_los (s_add g (1 + t) (G.1 t)) t (G.2.1 t)) = v at h2
  unfold s_evn
  refine ax_u1 (ax_u1 h2 (by omega) (by omega) (by rw [h2.2.1, h2.2.2.1])) (by omega) (by omega) ?_
  rw [x_u1_n (by omega), x_u1_n (by omega), h2.2.1, h2.2.2.1]
theorem ax_keep {t c : Int} {f g f' g' : Int → Int} (h : ax t c f g) (ht0 : 0 ≤ t) (ht1 : t < 8) (hc0 : 0 ≤ c) (hf : ∀ j, j ≤ 0 ∨ 25 ≤ j ∨ j = 1 + t ∨ j = 9 + t ∨ j = 17 + t → f' j = f j) (hg : ∀ j, j ≤ 0 ∨ 25 ≤ j ∨ j = 1 + t ∨ j = 9 + t ∨ j = 17 + t → g' j = g j) : ax t c f' g' := by
  obtain ⟨a1, a2, a3, a4, a5, a6, a7, a8, a9⟩ := h
  refine ⟨by rw [hf 0 (by omega), hg 0 (by omega)]; exact a1, by rw [hf (1 + t) (by omega), hg (1 + t) (by omega)]; exact a2, by rw [hf (9 + t) (by omega), hg (9 + t) (by omega)]; exact a3, by rw [hf (17 + t) (by omega), hg (17 + t) (by omega)]; exact a4, fun i x y z w => by rw [hf i (by omega), hg i (by omega)]; exact a5 i x y z w, by rw [hf (65 + c) (by omega)]; exact a6, by rw [hg (65 + c) (by omega)]; exact a7, by rw [hf (55 + c) (by omega)]; exact a8, by rw [hg (55 + c) (by omega)]; exact a9⟩
theorem ax_plays {G : Ldt} {C : Nat} (hG : gO G C) {t c : Int} {f g : Int → Int} (h : ax t c f g) (hc0 : 0 ≤ c) (hc1 : c < 10) (hC : C ≤ 10) (ht0 : 0 ≤ t) (ht1 : t < 8) : ∀ n : Nat, n ≤ 8 → ax t c (s_plays G f n) (s_plays G g n)
  | 0, _ => h
  | n + 1, hn => by
    have ih := ax_plays hG h hc0 hc1 hC ht0 ht1 n (by omega)
    rw [s_plays, s_plays]
    by_cases hnt : (n : Int) = t
    · rw [hnt]; exact ax_play hG ih hc0 hc1 hC ht0 ht1
    · exact ax_keep ih ht0 ht1 hc0 (fun j hj => s_play_keep (by omega) (by omega) (by omega)) (fun j hj => s_play_keep (by omega) (by omega) (by omega))
theorem ax_days {G : Ldt} {C T : Nat} (hG : gO G C) {t c : Int} {f g : Int → Int} (h : ax t c f g) (hc0 : 0 ≤ c) (hc1 : c < 10) (hC : C ≤ 10) (hT : T ≤ 8) (ht0 : 0 ≤ t) (ht1 : t < 8) : ∀ n : Nat, ax t c (s_days G T C f n) (s_days G T C g n)
  | 0 => h
  | n + 1 => by
    have h1 := ax_plays hG (ax_mv (ax_days hG h hc0 hc1 hC hT ht0 ht1 n) hc0 hc1 C hC) hc0 hc1 hC ht0 ht1 T hT
    exact ax_u1 h1 (by omega) (by omega) (by rw [h1.1])
theorem s_days_add {G : Ldt} {T C : Nat} {f : Int → Int} {a : Nat} : ∀ b : Nat, s_days G T C f (a + b) = s_days G T C (s_days G T C f a) b
  | 0 => rfl
  | b + 1 => by
    show s_day G T C (s_days G T C f (a + b)) = s_day G T C (s_days G T C (s_days G T C f a) b)
    rw [s_days_add b]
theorem s_oq_lo {G : Ldt} {T C : Nat} {f : Int → Int} {c : Int} {o : Nat} : ∀ k : Nat, k ≤ o → s_oq G T C f c o k = s_days G T C f k
  | 0, _ => rfl
  | k + 1, hk => by
    have e : s_or G T C f c o k = s_oq G T C f c o k := if_neg (by omega)
    rw [s_oq_s, e, s_oq_lo k (by omega)]
    rfl
theorem s_or_m1 {G : Ldt} {T C : Nat} {f : Int → Int} {o : Nat} (k : Nat) : s_or G T C f (-1) o k = s_days G T C f k := by
  have e : ∀ k, s_or G T C f (-1) o k = s_oq G T C f (-1) o k := fun k => if_neg (fun h => h.1 rfl)
  rw [e]
  induction k with
  | zero => rfl
  | succ k ih => rw [s_oq_s, e, ih]; rfl
theorem s_or_hi {G : Ldt} {T C : Nat} {f : Int → Int} {c : Int} (hc : 0 ≤ c) {o : Nat} : ∀ d : Nat, s_or G T C f c o (o + d) = s_days G T C (s_opn (s_days G T C f o) c) d
  | 0 => by
    unfold s_or
    rw [if_pos ⟨by omega, by omega⟩, Nat.add_zero, s_oq_lo o (Nat.le_refl _)]
    rfl
  | d + 1 => by
    have e : s_or G T C f c o (o + (d + 1)) = s_oq G T C f c o (o + d + 1) := if_neg (by omega)
    rw [e, s_oq_s, s_or_hi hc d]
    rfl
theorem s_days_keep {G : Ldt} {T C : Nat} (hT : T ≤ 8) (hC : C ≤ 10) {f : Int → Int} {j : Int} (h : (35 ≤ j ∧ j < 65) ∨ 75 ≤ j) : ∀ n : Nat, s_days G T C f n j = f j
  | 0 => rfl
  | n + 1 => by
    show s_day G T C (s_days G T C f n) j = _
    rw [s_day_keep hT hC h]
    exact s_days_keep hT hC h n
theorem s_days_z {G : Ldt} {T C : Nat} (hT : T ≤ 8) (hC : C ≤ 10) {f : Int → Int} {c : Int} (hc0 : 0 ≤ c) (hc1 : c < 10) (h : f (65 + c) = 0) : ∀ n : Nat, s_days G T C f n (65 + c) = 0
  | 0 => h
  | n + 1 => s_day_z hT hC hc0 hc1 (s_days_z hT hC hc0 hc1 h n)
theorem ag_opn {t c : Int} {f g : Int → Int} (h : ag t f g) (hc0 : 0 ≤ c) (hp : f (55 + c) = t) (ht0 : 0 ≤ t) (ht1 : t < 8) : ag t (s_opn f c) (s_opn g c) := by
  have e1 := h.2.2.2.2 (35 + c) (by omega)
  have e2 := h.2.2.2.2 (55 + c) (by omega)
  have e3 := h.2.2.2.2 (25 + c) (by omega)
  unfold s_opn s_lose s_add
  rw [← e1, ← e2, ← e3, hp]
  refine ag_u1 (ag_u1 (ag_u1 (ag_u1 h ?_) rfl) rfl) rfl
  split
  · rw [h.2.2.1]
  · rw [h.2.1]
/-- how it is with an opening: in the crate's town by that town alone, else as without -/
theorem z_luck_eq {G : Ldt} {C T : Nat} (hG : gO G C) (hT : T ≤ 8) (hC : C ≤ 10) {f : Int → Int} {c : Nat} (hc : c < 10) (hz : f (65 + (c : Int)) = 0) (hp0 : 0 ≤ f (55 + (c : Int))) (hp1 : f (55 + (c : Int)) < T) {o k t : Nat} (ht : t < T) : z_luck T C G f c o (t : Int) k = s_or G T C f (c : Int) o k (1 + (t : Int)) := by
  obtain ⟨p, hp⟩ := Int.eq_ofNat_of_zero_le hp0
  unfold z_luck
  by_cases hko : k < o
  · have e : s_or G T C f (c : Int) o k = s_days G T C f k := by
      unfold s_or
      rw [if_neg (by omega), s_oq_lo k (by omega)]
    rw [e]
    split
    · next h => unfold y_crs; rw [if_pos hko, ← h]
    · rfl
  · obtain ⟨d, rfl⟩ : ∃ d, k = o + d := ⟨k - o, by omega⟩
    rw [s_or_hi (by omega)]
    have hpl : s_days G T C f o (55 + (c : Int)) = f (55 + (c : Int)) := s_days_keep hT hC (by omega) o
    by_cases htp : (t : Int) = f (55 + (c : Int))
    · rw [if_pos htp]
      unfold y_crs
      rw [if_neg (by omega), Nat.add_sub_cancel_left, ← htp]
      have h1 : ag (t : Int) (s_opn (s_days G T C f o) (c : Int)) (s_opn (s_towns G C f t o) (c : Int)) := ag_opn (ag_days hG ht hT ag_rf o) (by omega) (by rw [hpl, htp]) (by omega) (by omega)
      exact (ag_days hG ht hT h1 d).2.1.symm
    · rw [if_neg htp, s_days_add]
      have hz2 := s_days_z hT hC (G := G) (c := (c : Int)) (by omega) (by omega) hz o
      have h1 : ax (t : Int) (c : Int) (s_days G T C f o) (s_opn (s_days G T C f o) (c : Int)) := by
        generalize s_days G T C f o = g at hpl hz2
        have hk : ∀ j : Int, (j = 0 ∨ j = 1 + (t : Int) ∨ j = 9 + (t : Int) ∨ j = 17 + (t : Int) ∨ (25 ≤ j ∧ j ≠ 25 + (c : Int) ∧ j ≠ 55 + (c : Int) ∧ j ≠ 65 + (c : Int))) → s_opn g (c : Int) j = g j := by
          intro j hj
          unfold s_opn s_lose s_add
          rw [hpl]
          rw [x_u1_n (by omega), x_u1_n (by omega), x_u1_n (by omega)]
          split
          · rw [x_u1_n (by omega)]
          · rw [x_u1_n (by omega)]
        refine ⟨(hk 0 (by omega)).symm, (hk _ (by omega)).symm, (hk _ (by omega)).symm, (hk _ (by omega)).symm, fun i a1 a2 a3 a4 => (hk i (by omega)).symm, hz2, ?_, by omega, ?_⟩
        · unfold s_opn s_lose
          rw [x_u1_s]
        · unfold s_opn s_lose
          rw [x_u1_n (by omega), x_u1_s]
          omega
      exact (ax_days hG h1 (by omega) (by omega) hC hT (by omega) (by omega) d).2.1
abbrev v_gs (G : Ldt) (T C : Nat) (f : Int → Int) (S : List (Int × Int × Int)) (g : Nat) : Prop := s_lies f ((g / 10 : Nat) : Int) ∧ v_seen G T C f ((g / 10 : Nat) : Int) (g % 10) S
theorem v_gs_iff {B : Int} {G : Ldt} {C T : Nat} (hG : gO G C) (hT : T ≤ 8) (hC : C ≤ 10) {f : Int → Int} (hk : s_ok B f) (hpl : pl_ok T C f) {S : List (Int × Int × Int)} (hS : s_sn T S) {g : Nat} (hg : g < 10 * C) : v_gs G T C f S g ↔ z_is T C G f S g := by
  have hcC : g / 10 < C := by omega
  have key : s_lies f ((g / 10 : Nat) : Int) → ∀ p ∈ S, z_luck T C G f (g / 10) (g % 10) p.1 p.2.1.toNat = s_or G T C f ((g / 10 : Nat) : Int) (g % 10) p.2.1.toNat (1 + p.1) := by
    intro hl p hp
    have a1 := (s_cr hk (c := ((g / 10 : Nat) : Int)) (by omega) (by omega)).2.2.2.2.1
    have a2 := hpl ((g / 10 : Nat) : Int) (by omega) (by omega)
    have a3 := hl.1
    have a4 := hl.2
    obtain ⟨⟨b1, b2⟩, -, -⟩ := hS p hp
    obtain ⟨t, ht⟩ := Int.eq_ofNat_of_zero_le b1
    rw [ht]
    exact z_luck_eq hG hT hC (by omega) (by omega) (by omega) (by omega) (by omega)
  constructor
  · rintro ⟨h1, h2⟩
    exact ⟨hcC, h1, fun p hp => by rw [key h1 p hp]; exact h2 p hp⟩
  · rintro ⟨-, h1, h2⟩
    exact ⟨h1, fun p hp => by rw [← key h1 p hp]; exact h2 p hp⟩
theorem v_pl_iff {G : Ldt} {C T : Nat} {f : Int → Int} {S : List (Int × Int × Int)} : v_seen G T C f (-1) 0 S ↔ z_pl T C G f S := by
  constructor
  · intro h p hp
    have := h p hp
    rw [s_or_m1] at this
    exact this
  · intro h p hp
    rw [s_or_m1]
    exact h p hp
theorem w_12_417 : x_cv RX12 417 yX12_isSeen cX12_isSeen 5 (some .boolean) 12 2 := ⟨⟨_, rfl, rfl⟩, (x_in 1922 (by decide +kernel) rfl), (x_in 1924 (by decide +kernel) rfl), (x_in 71 (by decide +kernel) rfl), (x_in 90 (by decide +kernel) rfl), (x_in 1925 (by decide +kernel) rfl), by decide, ⟨by decide +kernel, by decide +kernel, by decide +kernel⟩⟩
theorem w_12_420 : x_cv RX12 420 yX12_isGuess cX12_isGuess 2 (some .boolean) 12 1 := ⟨⟨_, rfl, rfl⟩, (x_in 1926 (by decide +kernel) rfl), (x_in 1928 (by decide +kernel) rfl), (x_in 72 (by decide +kernel) rfl), (x_in 90 (by decide +kernel) rfl), (x_in 1929 (by decide +kernel) rfl), by decide, ⟨by decide +kernel, by decide +kernel, by decide +kernel⟩⟩
theorem m_isGuess {X : xC} {l : Launch} (hl : l.stackTraces = false) {N : Nat} {sh : xS} {D : xM} {T C W : Nat} {G : Ldt} (hq : mq N sh D T C W G) {B : Int} {f : Int → Int} (hk : s_ok B f) (hB : B ≤ 200000) (hr : mr T C f (D 82) 0) (hv84 : ∀ j, x_r (D 84 j)) {S : List (Int × Int × Int)} (hS : msee D S) (hSs : s_sn T S) (hpl : pl_ok T C f) {g : Nat} (hg : g < 10 * C) : x_M X l yX12_isGuess cX12_isGuess 2 (some .boolean) 7 0 0 [.ref (x_b X + 62), .int (xI (g : Int))] false N sh D (.inl (some (.int (xI (x_B (v_gs G T C f S g)))))) false N sh (fun d => ms D d ∧ d 62 0 = D 62 0 ∧ (∀ j, j ≠ 62 → j ≠ 82 → j ≠ 84 → j ≠ 85 → j ≠ 91 → d j = D j) ∧ (v_gs G T C f S g → lk_ok G T C f ((g / 10 : Nat) : Int) (g % 10) 31 (d 91))) := by
  obtain ⟨hM, hT, hTb, hW, hWb, hC, hCb, hmk, ⟨hG1, hG2, hG3⟩, hod⟩ := id hq
  have s62 := md_62 hM
  have n62 : 62 < N := md_n hM (by decide)
  refine x_ofW (by decide +kernel) hl (by simp [Value.category]) (by simp) ?_
  refine x_aload_n dX12_isGuess_0 x_get_2_0 ?_
  refine x_iconst dX12_isGuess_1 ?_
  refine x_iload_n dX12_isGuess_2 x_get_2_1 ?_
  refine x_bipush dX12_isGuess_3 rfl ?_
  refine x_idiv dX12_isGuess_5 (by decide) ?_
  refine x_as_is (show x_dv (g : Int) 10 = ((g / 10 : Nat) : Int) by rw [x_dv_nn (by omega) (by omega) (by decide) (by decide)]; omega) ?_
  refine x_callV (As := [_, _]) dX12_isGuess_6 w_12_308 (m_lies hl hq hk (by omega) (Or.inl rfl) hr (c := ((g / 10 : Nat) : Int)) (by omega) (by omega)) (by assumption) (by assumption) rfl rfl (Nat.le_of_ble_eq_true rfl) (Nat.le_of_ble_eq_true rfl) (Nat.le_of_ble_eq_true rfl) (Nat.le_of_ble_eq_true rfl) (Nat.le_of_ble_eq_true rfl) ?_
  intro dz hdz
  obtain rfl := Eq.symm hdz
  refine b_ifeq (t := 31) dX12_isGuess_9 rfl (fun hc9 => ?_) (fun hc9 => ?_)
  · refine x_iconst dX12_isGuess_31 ?_
    exact x_zret dX12_isGuess_32 rfl (by omega) (Nat.le_of_ble_eq_true rfl) (Nat.le_of_ble_eq_true rfl) (by first | (rw [x_B, if_pos (And.intro hc9 hc24)]; done) | (rw [x_B, if_neg (fun h => hc24 h.2)]; done) | (rw [x_B, if_neg (fun h => hc9 h.1)]; done)) rfl rfl (by first | exact ⟨h1, h2, h3, fun _ => h4⟩ | exact ⟨ms_rf hv84, rfl, fun _ _ _ _ _ _ => rfl, fun h => absurd h.1 hc9⟩) rfl
  · refine x_aload_n dX12_isGuess_12 x_get_2_0 ?_
    refine x_iload_n dX12_isGuess_13 x_get_2_1 ?_
    refine x_bipush dX12_isGuess_14 rfl ?_
    refine x_idiv dX12_isGuess_16 (by decide) ?_
    refine x_as_is (show x_dv (g : Int) 10 = ((g / 10 : Nat) : Int) by rw [x_dv_nn (by omega) (by omega) (by decide) (by decide)]; omega) ?_
    refine x_iload_n dX12_isGuess_17 x_get_2_1 ?_
    refine x_bipush dX12_isGuess_18 rfl ?_
    refine x_irem dX12_isGuess_20 (by decide) ?_
    refine x_as_is (show x_rm (g : Int) 10 = ((g % 10 : Nat) : Int) by rw [x_rm_nn (by omega) (by omega) (by decide) (by decide)]; omega) ?_
    refine x_callV (As := [_, _]) dX12_isGuess_21 w_12_417 (m_isSeen hl hq hk hB hr hv84 hS hSs (c := ((g / 10 : Nat) : Int)) (o := g % 10) (by omega) (Or.inr ⟨by omega, by omega, hc9⟩) hpl) (by assumption) (by assumption) rfl rfl (Nat.le_of_ble_eq_true rfl) (Nat.le_of_ble_eq_true rfl) (Nat.le_of_ble_eq_true rfl) (Nat.le_of_ble_eq_true rfl) (Nat.le_of_ble_eq_true rfl) ?_
    rintro d1 ⟨h1, h2, h3, h4⟩
    refine b_ifeq (t := 31) dX12_isGuess_24 rfl (fun hc24 => ?_) (fun hc24 => ?_)
    · refine x_iconst dX12_isGuess_31 ?_
      exact x_zret dX12_isGuess_32 rfl (by omega) (Nat.le_of_ble_eq_true rfl) (Nat.le_of_ble_eq_true rfl) (by first | (rw [x_B, if_pos (And.intro hc9 hc24)]; done) | (rw [x_B, if_neg (fun h => hc24 h.2)]; done) | (rw [x_B, if_neg (fun h => hc9 h.1)]; done)) rfl rfl (by first | exact ⟨h1, h2, h3, fun _ => h4⟩ | exact ⟨ms_rf hv84, rfl, fun _ _ _ _ _ _ => rfl, fun h => absurd h.1 hc9⟩) rfl
    · refine x_iconst dX12_isGuess_27 ?_
      refine x_goto (t := 32) dX12_isGuess_28 rfl ?_
      exact x_zret dX12_isGuess_32 rfl (by omega) (Nat.le_of_ble_eq_true rfl) (Nat.le_of_ble_eq_true rfl) (by first | (rw [x_B, if_pos (And.intro hc9 hc24)]; done) | (rw [x_B, if_neg (fun h => hc24 h.2)]; done) | (rw [x_B, if_neg (fun h => hc9 h.1)]; done)) rfl rfl (by first | exact ⟨h1, h2, h3, fun _ => h4⟩ | exact ⟨ms_rf hv84, rfl, fun _ _ _ _ _ _ => rfl, fun h => absurd h.1 hc9⟩) rfl
set_option maxHeartbeats 16000000 in
theorem m_opened {X : xC} {l : Launch} (hl : l.stackTraces = false) {N : Nat} {sh : xS} {D : xM} {T C W : Nat} {G : Ldt} (hq : mq N sh D T C W G) {B : Int} {f : Int → Int} (hk : s_ok B f) (hB : B ≤ 200000) (hr : mr T C f (D 82) 0) (hv84 : ∀ j, x_r (D 84 j)) {S : List (Int × Int × Int)} (hS : msee D S) (hSs : s_sn T S) (hpl : pl_ok T C f) {w : Int} (hwr : x_r w) : x_M X l yX12_opened cX12_opened 5 (some .int) 8 0 0 [.ref (x_b X + 62), .int (xI w)] false N sh D (m_r (q_opened T C G f S w)) false N sh (fun d => ms D d ∧ d 62 0 = m_k 1 (q_opened T C G f S w)) := by
  obtain ⟨hM, hT, hTb, hW, hWb, hC, hCb, hmk, ⟨hG1, hG2, hG3⟩, hod⟩ := id hq
  have s62 := md_62 hM
  have n62 : 62 < N := md_n hM (by decide)
  obtain ⟨hwr0, hwr1⟩ := id hwr
  have hO := mq_gO hq
  unfold q_opened
  by_cases hw : 0 ≤ w ∧ w ≤ 2
  · rw [if_pos hw]
    obtain ⟨hw0, hw1⟩ := id hw
    rw [m_r_i, m_k_i]
    by_cases hw2 : w = 2
    · rw [if_pos hw2]
      refine x_ofW (by decide +kernel) hl (by simp [Value.category]) (by simp) ?_
      refine x_aload_n dX12_opened_0 x_get_5_0 ?_
      refine x_iconst dX12_opened_1 ?_
      refine x_putI 0 dX12_opened_2 fX_12_117 rfl tX_12_0 n62 s62 (by rfl) ?_
      have z0 := m_go0 hq hr hv84
      generalize x_up D 62 (x_u1 (D 62) 0 0) = d0 at z0 ⊢
      obtain ⟨q0, t0, ms0, r0, v0⟩ := z0
      refine x_aload_n dX12_opened_5 x_get_5_0 ?_
      refine x_iload_n dX12_opened_6 x_get_5_1 ?_
      refine x_iconst dX12_opened_7 ?_
      refine x_callV (As := [_, _]) dX12_opened_8 w_12_365 (m_isWhatT hl q0.1 t0 hwr ⟨by decide, by decide⟩ hw) (by assumption) (by assumption) rfl rfl (Nat.le_of_ble_eq_true rfl) (Nat.le_of_ble_eq_true rfl) (Nat.le_of_ble_eq_true rfl) (Nat.le_of_ble_eq_true rfl) (Nat.le_of_ble_eq_true rfl) ?_
      intro dz hdz
      obtain rfl := Eq.symm hdz
      refine r_if_ne (t := 16) dX12_opened_11 rfl ⟨by omega, by omega⟩ (fun hc11 => ?_) (fun hc11 => absurd hc11 (by omega))
      refine x_iload_n dX12_opened_16 x_get_5_1 ?_
      refine x_iconst dX12_opened_17 ?_
      refine r_icmp_ne (t := 36) dX12_opened_18 rfl ⟨by omega, by omega⟩ ⟨by omega, by omega⟩ (fun hc18 => absurd hc18 (by omega)) (fun hc18 => ?_)
      refine x_aload_n dX12_opened_21 x_get_5_0 ?_
      refine x_iconst dX12_opened_22 ?_
      refine x_iconst dX12_opened_23 ?_
      refine x_callV (As := [_, _]) dX12_opened_24 w_12_417 (m_isSeen hl q0 hk hB r0 v0 (msee_of hS (ms0.2.1 52 (by decide) (by decide) (by decide)) (ms0.1 90 (by decide) (by decide) (by decide) (by decide) (by decide))) hSs (c := -1) (o := 0) (by decide) (Or.inl rfl) hpl) (by assumption) (by assumption) rfl rfl (Nat.le_of_ble_eq_true rfl) (Nat.le_of_ble_eq_true rfl) (Nat.le_of_ble_eq_true rfl) (Nat.le_of_ble_eq_true rfl) (Nat.le_of_ble_eq_true rfl) ?_
      rintro d1 ⟨h1, h2, h3, h4⟩
      rw [x_B_congr v_pl_iff]
      refine b_ifeq (t := 34) dX12_opened_27 rfl (fun hc27 => ?_) (fun hc27 => ?_)
      · refine x_iconst dX12_opened_34 ?_
        exact x_iret dX12_opened_35 rfl (Nat.le_of_ble_eq_true rfl) (Nat.le_of_ble_eq_true rfl) (by first | (rw [x_B, if_pos hc27]; done) | (rw [x_B, if_neg hc27]; done)) rfl rfl ⟨ms_tr ms0 h1, by rw [h2]; exact t0⟩ rfl
      · refine x_iconst dX12_opened_30 ?_
        refine x_goto (t := 35) dX12_opened_31 rfl ?_
        exact x_iret dX12_opened_35 rfl (Nat.le_of_ble_eq_true rfl) (Nat.le_of_ble_eq_true rfl) (by first | (rw [x_B, if_pos hc27]; done) | (rw [x_B, if_neg hc27]; done)) rfl rfl ⟨ms_tr ms0 h1, by rw [h2]; exact t0⟩ rfl
    · rw [if_neg hw2]
      refine x_ofW (by decide +kernel) hl (by simp [Value.category]) (by simp) ?_
      refine x_aload_n dX12_opened_0 x_get_5_0 ?_
      refine x_iconst dX12_opened_1 ?_
      refine x_putI 0 dX12_opened_2 fX_12_117 rfl tX_12_0 n62 s62 (by rfl) ?_
      have z0 := m_go0 hq hr hv84
      generalize x_up D 62 (x_u1 (D 62) 0 0) = d0 at z0 ⊢
      obtain ⟨q0, t0, ms0, r0, v0⟩ := z0
      have hloop : ∀ g : Nat, g ≤ 10 * C → ∀ d : xM, ms d0 d → d 62 0 = 0 → x_W (X, l, yX12_opened, cX12_opened, 5, (some .int), x_room 8 0 0, 0, 0, (.inl (some (.int (xI ((if w = 0 then x_sum (fun i : Int => x_B (z_is T C G f S i.toNat)) 100 else x_first (fun i => z_is T C G f S i) 100)))))), N, sh, (fun d => ms D d ∧ d 62 0 = 0), false, []) 43 [some (.ref (x_b X + 62)), some (.int (xI w)), some (.int (xI (x_sum (fun i : Int => x_B (z_is T C G f S i.toNat)) g))), some (.int (xI (x_first (fun i => z_is T C G f S i) g))), some (.int (xI (g : Int)))] [] 0 0 false N sh d := by
        refine x_down (10 * C) ?_ ?_
        · intro d hm ht
          have hC1 : d 62 3 = C := (ms_mq q0 hm).2.2.2.2.2.1
          have hno : ∀ i : Nat, 10 * C ≤ i → ¬ z_is T C G f S i := fun i hi h => absurd h.1 (by omega)
          have hs : ∀ n : Nat, x_sum (fun i : Int => x_B (z_is T C G f S i.toNat)) (10 * C + n) = x_sum (fun i : Int => x_B (z_is T C G f S i.toNat)) (10 * C) := by
            intro n
            induction n with
            | zero => rfl
            | succ n ih =>
              rw [show 10 * C + (n + 1) = (10 * C + n) + 1 from rfl, x_sum_s, ih, Int.toNat_natCast, x_B, if_neg (hno _ (by omega))]
              omega
          have hf : ∀ n : Nat, x_first (fun i => z_is T C G f S i) (10 * C + n) = x_first (fun i => z_is T C G f S i) (10 * C) := by
            intro n
            induction n with
            | zero => rfl
            | succ n ih =>
              rw [show 10 * C + (n + 1) = (10 * C + n) + 1 from rfl, x_first, ih]
              split
              · next h => rw [if_neg (hno _ (by omega)), h]
              · rfl
          have hs1 := hs (100 - 10 * C)
          have hf1 := hf (100 - 10 * C)
          rw [show 10 * C + (100 - 10 * C) = 100 by omega] at hs1 hf1
          rw [← hs1, ← hf1]
          refine x_iload dX12_opened_43 x_get_5_4 ?_
          refine x_bipush dX12_opened_45 rfl ?_
          refine x_aload_n dX12_opened_47 x_get_5_0 ?_
          refine x_getI 3 dX12_opened_48 fX_12_287 rfl n62 s62 (by rfl) ?_
          try simp (disch := decide) only [x_up_s, x_up_n, x_up_up, x_u1_s, x_u1_n, hC1]
          refine x_imul dX12_opened_51 ?_
          refine r_icmp_ge (t := 84) dX12_opened_52 rfl ⟨by omega, by omega⟩ ⟨by omega, by omega⟩ (fun hc52 => ?_) (fun hc52 => absurd hc52 (by omega))
          refine x_iload_n dX12_opened_84 x_get_5_1 ?_
          refine r_if_ne (t := 92) dX12_opened_85 rfl ⟨by omega, by omega⟩ (fun hc85 => ?_) (fun hc85 => ?_)
          · refine x_iload_n dX12_opened_92 x_get_5_3 ?_
            exact x_iret dX12_opened_93 rfl (Nat.le_of_ble_eq_true rfl) (Nat.le_of_ble_eq_true rfl) (by first | (rw [if_pos hc85]; done) | (rw [if_neg hc85]; done)) rfl rfl ⟨ms_tr ms0 hm, ht⟩ rfl
          · refine x_iload_n dX12_opened_88 x_get_5_2 ?_
            refine x_goto (t := 93) dX12_opened_89 rfl ?_
            exact x_iret dX12_opened_93 rfl (Nat.le_of_ble_eq_true rfl) (Nat.le_of_ble_eq_true rfl) (by first | (rw [if_pos hc85]; done) | (rw [if_neg hc85]; done)) rfl rfl ⟨ms_tr ms0 hm, ht⟩ rfl
        · intro g hg ih d hm ht
          have qd := ms_mq q0 hm
          have hC1 : d 62 3 = C := qd.2.2.2.2.2.1
          have hS1 : msee d S := msee_of (msee_of hS (ms0.2.1 52 (by decide) (by decide) (by decide)) (ms0.1 90 (by decide) (by decide) (by decide) (by decide) (by decide))) (hm.2.1 52 (by decide) (by decide) (by decide)) (hm.1 90 (by decide) (by decide) (by decide) (by decide) (by decide))
          have hiff := v_gs_iff hO hTb hCb hk hpl hSs hg
          have hfi := x_first_in (fun i => z_is T C G f S i) g
          have e1 : x_sum (fun i : Int => x_B (z_is T C G f S i.toNat)) (g + 1) = x_sum (fun i : Int => x_B (z_is T C G f S i.toNat)) g + x_B (z_is T C G f S g) := by rw [x_sum_s, Int.toNat_natCast]
          have e2 : x_first (fun i => z_is T C G f S i) (g + 1) = if x_first (fun i => z_is T C G f S i) g = -1 then (if z_is T C G f S g then (g : Int) else -1) else x_first (fun i => z_is T C G f S i) g := rfl
          have e3 : ¬ z_is T C G f S g → x_first (fun i => z_is T C G f S i) (g + 1) = x_first (fun i => z_is T C G f S i) g := fun h => by
            rw [e2, if_neg h]
            split
            · next hh => exact hh.symm
            · rfl
          refine x_iload dX12_opened_43 x_get_5_4 ?_
          refine x_bipush dX12_opened_45 rfl ?_
          refine x_aload_n dX12_opened_47 x_get_5_0 ?_
          refine x_getI 3 dX12_opened_48 fX_12_287 rfl n62 s62 (by rfl) ?_
          try simp (disch := decide) only [x_up_s, x_up_n, x_up_up, x_u1_s, x_u1_n, hC1]
          refine x_imul dX12_opened_51 ?_
          refine r_icmp_ge (t := 84) dX12_opened_52 rfl ⟨by omega, by omega⟩ ⟨by omega, by omega⟩ (fun hc52 => absurd hc52 (by omega)) (fun hc52 => ?_)
          refine x_aload_n dX12_opened_55 x_get_5_0 ?_
          refine x_iload dX12_opened_56 x_get_5_4 ?_
          refine x_callV (As := [_]) dX12_opened_58 w_12_420 (m_isGuess hl qd hk hB (ms_mr hTb hCb hm r0) hm.2.2.2 hS1 hSs hpl hg) (by assumption) (by assumption) rfl rfl (Nat.le_of_ble_eq_true rfl) (Nat.le_of_ble_eq_true rfl) (Nat.le_of_ble_eq_true rfl) (Nat.le_of_ble_eq_true rfl) (Nat.le_of_ble_eq_true rfl) ?_
          rintro d2 ⟨h1, h2, h3, -⟩
          rw [x_B_congr hiff]
          have hm2 := ms_tr hm h1
          have ht2 : d2 62 0 = 0 := by rw [h2]; exact ht
          refine b_ifne (t := 67) dX12_opened_61 rfl (fun hc61 => ?_) (fun hc61 => ?_)
          · refine x_iinc dX12_opened_67 x_get_5_2 (Nat.le_of_ble_eq_true rfl) rfl x_set_5_2 ?_
            refine x_iload_n dX12_opened_70 x_get_5_3 ?_
            refine x_iconst dX12_opened_71 ?_
            refine r_icmp_ne (t := 78) dX12_opened_72 rfl ⟨by omega, by omega⟩ ⟨by omega, by omega⟩ (fun hc72 => ?_) (fun hc72 => ?_)
            · refine x_iinc dX12_opened_78 x_get_5_4 (Nat.le_of_ble_eq_true rfl) rfl x_set_5_4 ?_
              refine x_goto (t := 43) dX12_opened_81 rfl ?_
              first | (rw [x_B, if_pos hc61] at e1; rw [if_pos hc72, if_pos hc61] at e2; rw [e1, e2] at ih; exact ih d2 hm2 ht2) | (rw [x_B, if_pos hc61] at e1; rw [if_neg hc72] at e2; rw [e1, e2] at ih; exact ih d2 hm2 ht2) | (rw [x_B, if_neg hc61, Int.add_zero] at e1; rw [e1, e3 hc61] at ih; exact ih d2 hm2 ht2)
            · refine x_iload dX12_opened_75 x_get_5_4 ?_
              refine x_istore_n dX12_opened_77 (Nat.le_of_ble_eq_true rfl) rfl x_set_5_3 ?_
              refine x_iinc dX12_opened_78 x_get_5_4 (Nat.le_of_ble_eq_true rfl) rfl x_set_5_4 ?_
              refine x_goto (t := 43) dX12_opened_81 rfl ?_
              first | (rw [x_B, if_pos hc61] at e1; rw [if_pos hc72, if_pos hc61] at e2; rw [e1, e2] at ih; exact ih d2 hm2 ht2) | (rw [x_B, if_pos hc61] at e1; rw [if_neg hc72] at e2; rw [e1, e2] at ih; exact ih d2 hm2 ht2) | (rw [x_B, if_neg hc61, Int.add_zero] at e1; rw [e1, e3 hc61] at ih; exact ih d2 hm2 ht2)
          · refine x_goto (t := 78) dX12_opened_64 rfl ?_
            refine x_iinc dX12_opened_78 x_get_5_4 (Nat.le_of_ble_eq_true rfl) rfl x_set_5_4 ?_
            refine x_goto (t := 43) dX12_opened_81 rfl ?_
            first | (rw [x_B, if_pos hc61] at e1; rw [if_pos hc72, if_pos hc61] at e2; rw [e1, e2] at ih; exact ih d2 hm2 ht2) | (rw [x_B, if_pos hc61] at e1; rw [if_neg hc72] at e2; rw [e1, e2] at ih; exact ih d2 hm2 ht2) | (rw [x_B, if_neg hc61, Int.add_zero] at e1; rw [e1, e3 hc61] at ih; exact ih d2 hm2 ht2)
      refine x_aload_n dX12_opened_5 x_get_5_0 ?_
      refine x_iload_n dX12_opened_6 x_get_5_1 ?_
      refine x_iconst dX12_opened_7 ?_
      refine x_callV (As := [_, _]) dX12_opened_8 w_12_365 (m_isWhatT hl q0.1 t0 hwr ⟨by decide, by decide⟩ hw) (by assumption) (by assumption) rfl rfl (Nat.le_of_ble_eq_true rfl) (Nat.le_of_ble_eq_true rfl) (Nat.le_of_ble_eq_true rfl) (Nat.le_of_ble_eq_true rfl) (Nat.le_of_ble_eq_true rfl) ?_
      intro dz hdz
      obtain rfl := Eq.symm hdz
      refine r_if_ne (t := 16) dX12_opened_11 rfl ⟨by omega, by omega⟩ (fun hc11 => ?_) (fun hc11 => absurd hc11 (by omega))
      refine x_iload_n dX12_opened_16 x_get_5_1 ?_
      refine x_iconst dX12_opened_17 ?_
      refine r_icmp_ne (t := 36) dX12_opened_18 rfl ⟨by omega, by omega⟩ ⟨by omega, by omega⟩ (fun hc18 => ?_) (fun hc18 => absurd hc18 (by omega))
      refine x_iconst dX12_opened_36 ?_
      refine x_istore_n dX12_opened_37 (Nat.le_of_ble_eq_true rfl) rfl x_set_5_2 ?_
      refine x_iconst dX12_opened_38 ?_
      refine x_istore_n dX12_opened_39 (Nat.le_of_ble_eq_true rfl) rfl x_set_5_3 ?_
      refine x_iconst dX12_opened_40 ?_
      refine x_istore dX12_opened_41 (Nat.le_of_ble_eq_true rfl) rfl x_set_5_4 ?_
      exact hloop 0 (Nat.zero_le _) d0 (ms_rf v0) t0
  · rw [if_neg hw]
    refine x_ofW (by decide +kernel) hl (by simp [Value.category]) (by simp) ?_
    refine x_aload_n dX12_opened_0 x_get_5_0 ?_
    refine x_iconst dX12_opened_1 ?_
    refine x_putI 0 dX12_opened_2 fX_12_117 rfl tX_12_0 n62 s62 (by rfl) ?_
    have z0 := m_go0 hq hr hv84
    generalize x_up D 62 (x_u1 (D 62) 0 0) = d0 at z0 ⊢
    obtain ⟨q0, t0, ms0, r0, v0⟩ := z0
    refine x_aload_n dX12_opened_5 x_get_5_0 ?_
    refine x_iload_n dX12_opened_6 x_get_5_1 ?_
    refine x_iconst dX12_opened_7 ?_
    refine x_callV (As := [_, _]) dX12_opened_8 w_12_365 (m_isWhatF hl q0.1 t0 hwr ⟨by decide, by decide⟩ hw) (by assumption) (by assumption) rfl rfl (Nat.le_of_ble_eq_true rfl) (Nat.le_of_ble_eq_true rfl) (Nat.le_of_ble_eq_true rfl) (Nat.le_of_ble_eq_true rfl) (Nat.le_of_ble_eq_true rfl) ?_
    intro dz hdz
    obtain rfl := Eq.symm hdz
    refine r_if_ne (t := 16) dX12_opened_11 rfl ⟨by omega, by omega⟩ (fun hc11 => absurd hc11 (by omega)) (fun hc11 => ?_)
    refine x_iconst dX12_opened_14 ?_
    exact x_iret dX12_opened_15 rfl (Nat.le_of_ble_eq_true rfl) (Nat.le_of_ble_eq_true rfl) rfl rfl rfl ⟨ms_thr ms0, by rw [x_up_s, x_u1_s, m_k_N]⟩ rfl
end M83
