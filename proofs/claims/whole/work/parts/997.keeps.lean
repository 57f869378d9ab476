section C997
/-! ===== the text: what a line keeps ===== -/
def lw (D : xM) (lb : Nat) : Prop := (∀ j, 0 ≤ D (lb + 1) j ∧ D (lb + 1) j ≤ 20) ∧ (∀ j, 0 ≤ D (lb + 2) j ∧ D (lb + 2) j ≤ 20) ∧ (∀ j, x_r (D (lb + 12) j)) ∧ ∃ W T : Nat, rd D (lb + 3) W T
/-- what a text read so far holds -/
def sv (lb : Nat) (S : xM) : Prop := svn lb S ∧ lw S lb ∧ s_ok 0 (S (lb + 14)) ∧ (∀ i : Int, (i = 0 ∨ (17 ≤ i ∧ i < 25) ∨ 65 ≤ i) → S (lb + 14) i = 0) ∧ (∀ c : Int, 0 ≤ c → c < ((S lb 1).toNat : Nat) → 0 ≤ S (lb + 14) (55 + c) ∧ S (lb + 14) (55 + c) < ((S lb 0).toNat : Nat)) ∧ wy_ok (S (lb + 3) 0).toNat (S lb 0).toNat (S (lb + 3 + 1)) (S (lb + 3 + 2)) (S (lb + 3 + 3))
theorem r_num_in {b : Int → Int} {n q : Nat} {lo hi : Int} {z : Int × Nat} (h : r_num b n lo hi q = .inr z) : lo ≤ z.1 ∧ z.1 ≤ hi := by
  unfold r_num at h
  by_cases h3 : tK b n q = 3
  · rw [if_pos h3] at h
    by_cases h4 : ¬ tL b n q ∧ lo ≤ tV b n q ∧ tV b n q ≤ hi
    · rw [if_pos h4] at h
      cases h
      exact h4.2
    · rw [if_neg h4] at h; cases h
  · rw [if_neg h3] at h; cases h
theorem r_plc_v {b : Int → Int} {n T q : Nat} {z : Int × Nat} (h : r_plc b n T q = .inr z) : z.1 = tV b n q ∧ (tK b n q = 3 ∧ ¬ tL b n q ∧ tV b n q < T) := by
  unfold r_plc at h
  by_cases h3 : tK b n q = 3
  · rw [if_pos h3] at h
    by_cases h4 : tL b n q
    · rw [if_pos h4] at h; cases h
    · rw [if_neg h4] at h
      by_cases h5 : tV b n q < T
      · rw [if_pos h5] at h; cases h; exact ⟨rfl, h3, h4, h5⟩
      · rw [if_neg h5] at h; cases h
  · rw [if_neg h3] at h; cases h
theorem rd_w {D : xM} {ro W T : Nat} (h : rd D ro W T) : (∀ j, 0 ≤ D (ro + 1) j ∧ D (ro + 1) j ≤ 7) ∧ (∀ j, 0 ≤ D (ro + 2) j ∧ D (ro + 2) j ≤ 7) ∧ (∀ j, 0 ≤ D (ro + 3) j ∧ D (ro + 3) j ≤ 9) ∧ (∀ j, 0 ≤ D (ro + 4) j ∧ D (ro + 4) j ≤ 9) := ⟨h.2.2.2.2.1, h.2.2.2.2.2.1, h.2.2.2.2.2.2.1, h.2.2.2.2.2.2.2.1⟩
theorem u1_in {f : Int → Int} {lo hi i v : Int} (h : ∀ j, lo ≤ f j ∧ f j ≤ hi) (hv : lo ≤ v ∧ v ≤ hi) : ∀ j, lo ≤ x_u1 f i v j ∧ x_u1 f i v j ≤ hi := by
  intro j
  by_cases hj : j = i
  · subst hj; rw [x_u1_s]; exact hv
  · rw [x_u1_n hj]; exact h j
theorem sv_tn {lb : Nat} {S : xM} (h : sv lb S) {v : Int × Int × Int × Int} (hT : (S lb 0).toNat < 8) (a1 : 0 ≤ v.1 ∧ v.1 ≤ 999) (a2 : 0 ≤ v.2.1 ∧ v.2.1 ≤ 999) (a3 : 0 ≤ v.2.2.1 ∧ v.2.2.1 ≤ 20) (a4 : 0 ≤ v.2.2.2 ∧ v.2.2.2 ≤ 20) : sv lb (x_tn lb (S lb 0).toNat v S) := by
  obtain ⟨⟨⟨v1, v2⟩, ⟨v3, v4⟩, T0, v5⟩, ⟨w1, w2, w3, W0, T1, w4⟩, o1, o2, o3, o4⟩ := h
  obtain ⟨T, hTT⟩ : ∃ T, T = (S lb 0).toNat := ⟨_, rfl⟩
  rw [← hTT] at v1 v2 hT o3 o4 ⊢
  obtain ⟨E, hE⟩ : ∃ E, E = x_tn lb T v S := ⟨_, rfl⟩
  have e0 : E lb = x_u1 (S lb) 0 (T + 1) := by rw [hE]; unfold x_tn; rw [x_up_s]
  have e1 : E (lb + 1) = x_u1 (S (lb + 1)) T v.2.2.1 := by rw [hE]; unfold x_tn; rw [x_up_n (by omega), x_up_n (by omega), x_up_s]
  have e2 : E (lb + 2) = x_u1 (S (lb + 2)) T v.2.2.2 := by rw [hE]; unfold x_tn; rw [x_up_n (by omega), x_up_s]
  have e14 : E (lb + 14) = x_u1 (x_u1 (S (lb + 14)) (1 + T) v.1) (9 + T) v.2.1 := by rw [hE]; unfold x_tn; rw [x_up_n (by omega), x_up_n (by omega), x_up_n (by omega), x_up_s]
  have en : ∀ j, j ≠ lb → j ≠ lb + 1 → j ≠ lb + 2 → j ≠ lb + 14 → E j = S j := fun j b1 b2 b3 b4 => by rw [hE]; unfold x_tn; rw [x_up_n b1, x_up_n b3, x_up_n b2, x_up_n b4]
  rw [← hE]
  have t0 : (E lb 0).toNat = T + 1 := by rw [e0, x_u1_s]; omega
  have t1 : E lb 1 = S lb 1 := by rw [e0, x_u1_n (by decide)]
  have t3 : E (lb + 3) = S (lb + 3) := en _ (by omega) (by omega) (by omega) (by omega)
  refine ⟨⟨⟨by rw [t0, e0, x_u1_s]; push_cast; rfl, by omega⟩, ⟨by rw [t1]; exact v3, by rw [t1]; exact v4⟩, T0, ?_⟩, ⟨by rw [e1]; exact u1_in w1 a3, by rw [e2]; exact u1_in w2 a4, by rw [en (lb + 12) (by omega) (by omega) (by omega) (by omega)]; exact w3, W0, T1, rd_cg (fun j b1 b2 => en j (by omega) (by omega) (by omega) (by omega)) w4⟩, ?_, ?_, ?_, ?_⟩
  · rw [t3]; exact rd_cg (fun j b1 b2 => en j (by omega) (by omega) (by omega) (by omega)) v5
  · rw [e14]
    refine s_ok_u1 (s_ok_u1 o1 ?_) ?_ <;> (unfold s_okv; omega)
  · intro i hi
    rw [e14, x_u1_n (by omega), x_u1_n (by omega)]
    exact o2 i hi
  · intro c c0 c1
    rw [t1] at c1
    rw [t0, e14, x_u1_n (by omega), x_u1_n (by omega)]
    have := o3 c c0 c1
    push_cast
    omega
  · rw [t0, t3, en (lb + 3 + 1) (by omega) (by omega) (by omega) (by omega), en (lb + 3 + 2) (by omega) (by omega) (by omega) (by omega), en (lb + 3 + 3) (by omega) (by omega) (by omega) (by omega)]
    intro w hw
    obtain ⟨p1, p2, p3, p4, p5⟩ := o4 w hw
    exact ⟨⟨p1.1, by push_cast; omega⟩, ⟨p2.1, by push_cast; omega⟩, p3, p4, p5⟩
theorem sv_cr {lb : Nat} {S : xM} (h : sv lb S) {ba : Prop} [Decidable ba] {v : Int × Int × Int} (hC : (S lb 1).toNat < 10) (a1 : 0 ≤ v.1 ∧ v.1 ≤ 99) (a2 : 0 ≤ v.2.1 ∧ v.2.1 < ((S lb 0).toNat : Nat)) (a3 : v.2.2 = 0 ∨ v.2.2 = 1) : sv lb (x_cr lb (S lb 1).toNat ba v S) := by
  obtain ⟨⟨⟨v1, v2⟩, ⟨v3, v4⟩, T0, v5⟩, ⟨w1, w2, w3, W0, T1, w4⟩, o1, o2, o3, o4⟩ := h
  obtain ⟨C, hCC⟩ : ∃ C, C = (S lb 1).toNat := ⟨_, rfl⟩
  rw [← hCC] at v3 v4 hC o3 ⊢
  obtain ⟨E, hE⟩ : ∃ E, E = x_cr lb C ba v S := ⟨_, rfl⟩
  have hb : x_B ba = 0 ∨ x_B ba = 1 := x_B_01 ba
  have e0 : E lb = x_u1 (S lb) 1 (C + 1) := by rw [hE]; unfold x_cr; rw [x_up_s]
  have e14 : E (lb + 14) = x_u1 (x_u1 (x_u1 (x_u1 (S (lb + 14)) (25 + C) v.1) (35 + C) (x_B ba)) (55 + C) v.2.1) (45 + C) v.2.2 := by rw [hE]; unfold x_cr; rw [x_up_n (by omega), x_up_s]
  have en : ∀ j, j ≠ lb → j ≠ lb + 14 → E j = S j := fun j b1 b4 => by rw [hE]; unfold x_cr; rw [x_up_n b1, x_up_n b4]
  rw [← hE]
  have t0 : (E lb 1).toNat = C + 1 := by rw [e0, x_u1_s]; omega
  have t1 : E lb 0 = S lb 0 := by rw [e0, x_u1_n (by decide)]
  have t3 : E (lb + 3) = S (lb + 3) := en _ (by omega) (by omega)
  refine ⟨⟨⟨by rw [t1]; exact v1, by rw [t1]; exact v2⟩, ⟨by rw [t0, e0, x_u1_s]; push_cast; rfl, by omega⟩, T0, ?_⟩, ⟨by rw [en (lb + 1) (by omega) (by omega)]; exact w1, by rw [en (lb + 2) (by omega) (by omega)]; exact w2, by rw [en (lb + 12) (by omega) (by omega)]; exact w3, W0, T1, rd_cg (fun j b1 b2 => en j (by omega) (by omega)) w4⟩, ?_, ?_, ?_, ?_⟩
  · rw [t3]; exact rd_cg (fun j b1 b2 => en j (by omega) (by omega)) v5
  · rw [e14]
    refine s_ok_u1 (s_ok_u1 (s_ok_u1 (s_ok_u1 o1 ?_) ?_) ?_) ?_ <;> (unfold s_okv; omega)
  · intro i hi
    rw [e14, x_u1_n (by omega), x_u1_n (by omega), x_u1_n (by omega), x_u1_n (by omega)]
    exact o2 i hi
  · intro c c0 c1
    rw [t0] at c1
    push_cast at c1
    rw [t1, e14, x_u1_n (by omega)]
    by_cases hc : c = C
    · subst hc
      rw [x_u1_s]
      exact a2
    · rw [x_u1_n (by omega), x_u1_n (by omega), x_u1_n (by omega)]
      exact o3 c c0 (by omega)
  · rw [t1, t3, en (lb + 3 + 1) (by omega) (by omega), en (lb + 3 + 2) (by omega) (by omega), en (lb + 3 + 3) (by omega) (by omega)]
    exact o4
theorem sv_wy {lb : Nat} {S : xM} (h : sv lb S) {v : Int × Int × Int × Int} (hW : (S (lb + 3) 0).toNat < 12) (a1 : 0 ≤ v.1 ∧ v.1 < ((S lb 0).toNat : Nat)) (a2 : 0 ≤ v.2.1 ∧ v.2.1 < ((S lb 0).toNat : Nat)) (a3 : 1 ≤ v.2.2.1 ∧ v.2.2.1 ≤ 9) (a4 : 0 ≤ v.2.2.2 ∧ v.2.2.2 ≤ 9) (a5 : ¬ v.2.1 = v.1) (a6 : e_btw (S (lb + 3 + 1)) (S (lb + 3 + 2)) (S (lb + 3) 0).toNat v.1 v.2.1 = -1) : sv lb (x_wy lb (S (lb + 3) 0).toNat v S) := by
  obtain ⟨⟨⟨v1, v2⟩, ⟨v3, v4⟩, T0, v5⟩, ⟨w1, w2, w3, W0, T1, w4⟩, o1, o2, o3, o4⟩ := h
  obtain ⟨W, hWW⟩ : ∃ W, W = (S (lb + 3) 0).toNat := ⟨_, rfl⟩
  rw [← hWW] at v5 hW a6 o4 ⊢
  obtain ⟨E, hE⟩ : ∃ E, E = x_wy lb W v S := ⟨_, rfl⟩
  have e3 : E (lb + 3) = x_u1 (S (lb + 3)) 0 (W + 1) := by rw [hE]; unfold x_wy; rw [x_up_s]
  have e4 : E (lb + 3 + 1) = x_u1 (S (lb + 3 + 1)) W v.1 := by rw [hE]; unfold x_wy; rw [x_up_n (by omega), x_up_n (by omega), x_up_n (by omega), x_up_n (by omega), x_up_s]
  have e5 : E (lb + 3 + 2) = x_u1 (S (lb + 3 + 2)) W v.2.1 := by rw [hE]; unfold x_wy; rw [x_up_n (by omega), x_up_n (by omega), x_up_n (by omega), x_up_s]
  have e6 : E (lb + 3 + 3) = x_u1 (S (lb + 3 + 3)) W v.2.2.1 := by rw [hE]; unfold x_wy; rw [x_up_n (by omega), x_up_n (by omega), x_up_s]
  have e7 : E (lb + 3 + 4) = x_u1 (S (lb + 3 + 4)) W v.2.2.2 := by rw [hE]; unfold x_wy; rw [x_up_n (by omega), x_up_s]
  have en : ∀ j, j < lb + 3 ∨ lb + 7 < j → E j = S j := fun j b1 => by rw [hE]; unfold x_wy; rw [x_up_n (by omega), x_up_n (by omega), x_up_n (by omega), x_up_n (by omega), x_up_n (by omega)]
  rw [← hE]
  have t0 : (E (lb + 3) 0).toNat = W + 1 := by rw [e3, x_u1_s]; omega
  have t1 : E lb = S lb := en _ (by omega)
  obtain ⟨b1, b2, b3, b4⟩ := rd_w v5
  have hrd : rd E (lb + 3) (W + 1) T0 := by
    obtain ⟨r1, r2, r3, r4, -, -, -, -, r9, r10⟩ := v5
    refine ⟨by rw [e3, x_u1_s]; push_cast; rfl, by omega, by rw [e3, x_u1_n (by decide)]; exact r3, r4, by rw [e4]; exact u1_in b1 ⟨a1.1, by omega⟩, by rw [e5]; exact u1_in b2 ⟨a2.1, by omega⟩, by rw [e6]; exact u1_in b3 ⟨by omega, a3.2⟩, by rw [e7]; exact u1_in b4 a4, ?_, ?_⟩
    · rw [en (lb + 3 + 5) (by omega)]; exact r9
    · rw [en (lb + 3 + 6) (by omega)]; exact r10
  refine ⟨⟨⟨by rw [t1]; exact v1, by rw [t1]; exact v2⟩, ⟨by rw [t1]; exact v3, by rw [t1]; exact v4⟩, T0, by rw [t0]; exact hrd⟩, ⟨by rw [en (lb + 1) (by omega)]; exact w1, by rw [en (lb + 2) (by omega)]; exact w2, by rw [en (lb + 12) (by omega)]; exact w3, W + 1, T0, hrd⟩, by rw [en (lb + 14) (by omega)]; exact o1, by rw [en (lb + 14) (by omega)]; exact o2, by rw [en (lb + 14) (by omega), t1]; exact o3, ?_⟩
  rw [t0, t1, e4, e5, e6]
  have hno : ∀ u : Nat, u < W → ¬ ((S (lb + 3 + 1) u = v.1 ∧ S (lb + 3 + 2) u = v.2.1) ∨ (S (lb + 3 + 1) u = v.2.1 ∧ S (lb + 3 + 2) u = v.1)) := by
    intro u hu hh
    obtain ⟨p1, p2, p3, p4, p5⟩ := o4 u hu
    rcases x_first_cases (fun w : Nat => e_oth (S (lb + 3 + 1)) (S (lb + 3 + 2)) w v.1 = v.2.1) W with ⟨-, h2⟩ | ⟨i, h1, h2, -⟩
    · refine h2 u hu ?_
      exact (e_oth_iff a2.1 p3).mpr (by omega)
    · unfold e_btw at a6; omega
  have hcl : ∀ (f : Int → Int) (u : Nat) (y : Int), u < W → x_u1 f W y u = f u := fun f u y hu => x_u1_n (by omega)
  intro w hw
  by_cases hwW : w = W
  · subst hwW
    rw [x_u1_s, x_u1_s, x_u1_s]
    refine ⟨a1, a2, fun h => a5 h.symm, a3.1, ?_⟩
    intro u hu hh
    by_cases huW : u = w
    · exact huW
    · rw [hcl _ u _ (by omega), hcl _ u _ (by omega)] at hh
      exact absurd hh (hno u (by omega))
  · rw [hcl _ w _ (by omega), hcl _ w _ (by omega), hcl _ w _ (by omega)]
    obtain ⟨p1, p2, p3, p4, p5⟩ := o4 w (by omega)
    refine ⟨p1, p2, p3, p4, ?_⟩
    intro u hu hh
    by_cases huW : u = W
    · subst huW
      rw [x_u1_s, x_u1_s] at hh
      exact absurd (show _ ∨ _ by omega) (hno w (by omega))
    · rw [hcl _ u _ (by omega), hcl _ u _ (by omega)] at hh
      exact p5 u (by omega) hh
theorem r_ln1_ok {b : Int → Int} {n lb q q2 : Nat} {S S2 : Tx} (hlb : 3 ≤ lb) (hv : sv lb S.1) (h : r_ln1 b n lb S q = .inr (S2, q2)) : sv lb S2.1 ∧ ∀ j, j < lb ∨ lb + 14 < j → S2.1 j = S.1 j := by
  unfold r_ln1 at h
  by_cases h1 : tW b n q 1
  · rw [if_pos h1] at h
    obtain ⟨y, y1, y2⟩ := r_bd_inr h
    cases y2
    unfold r_twn at y1
    by_cases h8 : 8 ≤ (S.1 lb 0).toNat
    · rw [if_pos h8] at y1; cases y1
    rw [if_neg h8] at y1
    obtain ⟨p1, f1, g1⟩ := r_bd_inr y1
    obtain ⟨p2, f2, g2⟩ := r_bd_inr g1
    obtain ⟨p3, f3, g3⟩ := r_bd_inr g2
    obtain ⟨p4, f4, g4⟩ := r_bd_inr g3
    cases g4
    exact ⟨sv_tn hv (by omega) (r_num_in f1) (r_num_in f2) (r_num_in f3) (r_num_in f4), (x_tn_rl hlb).2.2⟩
  rw [if_neg h1] at h
  by_cases h2 : tW b n q 2
  · rw [if_pos h2] at h
    obtain ⟨y, y1, y2⟩ := r_bd_inr h
    cases y2
    unfold r_way at y1
    by_cases h8 : 12 ≤ (S.1 (lb + 3) 0).toNat
    · rw [if_pos h8] at y1; cases y1
    rw [if_neg h8] at y1
    obtain ⟨p1, f1, g1⟩ := r_bd_inr y1
    by_cases hj : r_jn b n (S.1 lb 0).toNat (S.1 (lb + 3) 0).toNat (S.1 (lb + 3 + 1)) (S.1 (lb + 3 + 2)) p1.1 p1.2
    · rw [if_pos hj] at g1; cases g1
    rw [if_neg hj] at g1
    obtain ⟨p2, f2, g2⟩ := r_bd_inr g1
    obtain ⟨p3, f3, g3⟩ := r_bd_inr g2
    obtain ⟨p4, f4, g4⟩ := r_bd_inr g3
    cases g4
    obtain ⟨k1, k2⟩ := r_plc_v f2
    refine ⟨sv_wy hv (by omega) (r_plc_in f1) (r_plc_in f2) (r_num_in f3) (r_num_in f4) ?_ ?_, (x_wy_rl hlb).2.2⟩
    · show ¬ p2.1 = p1.1
      rw [k1]; exact fun hh => hj ⟨k2, Or.inl hh⟩
    · show e_btw _ _ _ p1.1 p2.1 = -1
      rw [k1]
      exact Decidable.byContradiction fun hh => hj ⟨k2, Or.inr hh⟩
  rw [if_neg h2] at h
  by_cases h3 : tW b n q 3 ∨ tW b n q 4
  · rw [if_pos h3] at h
    obtain ⟨y, y1, y2⟩ := r_bd_inr h
    cases y2
    unfold r_crt at y1
    by_cases h8 : 10 ≤ (S.1 lb 1).toNat
    · rw [if_pos h8] at y1; cases y1
    rw [if_neg h8] at y1
    obtain ⟨p1, f1, g1⟩ := r_bd_inr y1
    obtain ⟨p2, f2, g2⟩ := r_bd_inr g1
    cases g2
    exact ⟨sv_cr hv (by omega) (r_num_in f1) (r_plc_in f2) (x_B_01 _), (x_cr_rl hlb).2.2⟩
  rw [if_neg h3] at h
  by_cases h6 : tW b n q 6
  · rw [if_pos h6] at h
    unfold r_ods at h
    by_cases ht : S.2.isSome = true
    · rw [if_pos ht] at h; cases h
    · rw [if_neg ht] at h
      obtain ⟨y, y1, y2⟩ := r_bd_inr h
      cases y2
      exact ⟨hv, fun _ _ => rfl⟩
  · rw [if_neg h6] at h; cases h
theorem r_lin_inr {b : Int → Int} {n lb q : Nat} {S : Tx} {z : Tx × Nat} (h : r_lin b n lb S q = .inr z) : ∃ q1, r_ln1 b n lb S q = .inr (z.1, q1) ∧ tM b n q1 59 ∧ z.2 = tE b n q1 := by
  obtain ⟨y, y1, y2⟩ := r_bd_inr h
  by_cases hm : tM b n y.2 59
  · rw [if_pos hm] at y2; cases y2; exact ⟨y.2, y1, hm, rfl⟩
  · rw [if_neg hm] at y2; cases y2
def r_txt (b : Int → Int) (n lb : Nat) : Nat → Tx → Nat → Rs Tx
  | 0, S, q => .inr (S, q)
  | k + 1, S, q => if tK b n q = 0 then .inr (S, q) else r_bd (r_lin b n lb S q) (fun S2 q2 => r_txt b n lb k S2 q2)
theorem r_txt_s {b : Int → Int} {n lb k q : Nat} {S : Tx} : r_txt b n lb (k + 1) S q = if tK b n q = 0 then .inr (S, q) else r_bd (r_lin b n lb S q) (fun S2 q2 => r_txt b n lb k S2 q2) := rfl
/-! faults have kinds -/
abbrev r_kd {α : Type} (r : Rs α) : Prop := ∀ z : Int × Nat, r = .inl z → 1 ≤ z.1 ∧ z.1 ≤ 5
theorem kd_i {α : Type} {w : Int} {q : Nat} (h : 1 ≤ w ∧ w ≤ 5) : r_kd (Sum.inl (w, q) : Rs α) := fun z hz => by cases hz; exact h
theorem kd_r {α : Type} {v : α × Nat} : r_kd (Sum.inr v : Rs α) := fun z hz => by cases hz
theorem kd_if {α : Type} {p : Prop} [Decidable p] {r s : Rs α} (h1 : r_kd r) (h2 : r_kd s) : r_kd (if p then r else s) := by
  by_cases h : p
  · rw [if_pos h]; exact h1
  · rw [if_neg h]; exact h2
theorem kd_bd {α β : Type} {r : Rs α} {k : α → Nat → Rs β} (h1 : r_kd r) (h2 : ∀ y q, r_kd (k y q)) : r_kd (r_bd r k) := by
  cases r with
  | inl y => intro z hz; cases hz; exact h1 y rfl
  | inr y => exact h2 y.1 y.2
theorem kd_num {b : Int → Int} {n q : Nat} {lo hi : Int} : r_kd (r_num b n lo hi q) := kd_if (kd_if kd_r (kd_i (by decide))) (kd_i (by decide))
theorem kd_plc {b : Int → Int} {n T q : Nat} : r_kd (r_plc b n T q) := kd_if (kd_if (kd_i (by decide)) (kd_if kd_r (kd_i (by decide)))) (kd_i (by decide))
theorem kd_lp {op : Nat → Prop} [DecidablePred op] {st : Nat → Int} {nx : Nat → Nat} {sub : Nat → Rs (List Int)} (h : ∀ q, r_kd (sub q)) : ∀ (k : Nat) (L : List Int) (q : Nat), r_kd (r_lp op st nx sub k L q)
  | 0, _, _ => kd_r
  | k + 1, L, q => by rw [r_lp_s]; exact kd_if (kd_bd (h _) (fun y q => kd_lp h k _ _)) kd_r
theorem kd_prt {b : Int → Int} {n : Nat} {ex : Nat → Rs (List Int)} (h : ∀ q, r_kd (ex q)) (q : Nat) : r_kd (r_prt b n ex q) := kd_if (kd_bd (h _) (fun _ _ => kd_if kd_r (kd_i (by decide)))) (kd_if (kd_i (by decide)) (kd_if (kd_i (by decide)) (kd_if kd_r (kd_if (kd_i (by decide)) kd_r))))
theorem kd_prd {b : Int → Int} {n : Nat} {ex : Nat → Rs (List Int)} (h : ∀ q, r_kd (ex q)) (q : Nat) : r_kd (r_prd b n ex q) := kd_bd (kd_prt h q) (fun _ _ => kd_lp (kd_prt h) _ _ _)
theorem kd_sum {b : Int → Int} {n : Nat} {ex : Nat → Rs (List Int)} (h : ∀ q, r_kd (ex q)) (q : Nat) : r_kd (r_sum b n ex q) := kd_bd (kd_prd h q) (fun _ _ => kd_lp (kd_prd h) _ _ _)
theorem kd_tst {b : Int → Int} {n : Nat} {ex : Nat → Rs (List Int)} (h : ∀ q, r_kd (ex q)) (q : Nat) : r_kd (r_tst b n ex q) := kd_bd (kd_sum h q) (fun _ _ => kd_if kd_r (kd_bd (kd_sum h _) (fun _ _ => kd_r)))
theorem kd_not {b : Int → Int} {n : Nat} {ex : Nat → Rs (List Int)} (h : ∀ q, r_kd (ex q)) (q : Nat) : r_kd (r_not b n ex q) := kd_if (kd_i (by decide)) (kd_bd (kd_tst h _) (fun _ _ => kd_r))
theorem kd_and {b : Int → Int} {n : Nat} {ex : Nat → Rs (List Int)} (h : ∀ q, r_kd (ex q)) (q : Nat) : r_kd (r_and b n ex q) := kd_bd (kd_not h q) (fun _ _ => kd_lp (kd_not h) _ _ _)
theorem kd_exp {b : Int → Int} {n : Nat} : ∀ (d q : Nat), r_kd (r_exp b n d q)
  | 0, q => by intro z hz; cases hz; show 1 ≤ (if _ then (2 : Int) else 1) ∧ (if _ then (2 : Int) else 1) ≤ 5; split <;> decide
  | d + 1, q => kd_bd (kd_and (kd_exp d) q) (fun _ _ => kd_lp (kd_and (kd_exp d)) _ _ _)
theorem kd_ln1 {b : Int → Int} {n lb q : Nat} {S : Tx} : r_kd (r_ln1 b n lb S q) := kd_if (kd_bd (kd_if (kd_i (by decide)) (kd_bd kd_num (fun _ _ => kd_bd kd_num (fun _ _ => kd_bd kd_num (fun _ _ => kd_bd kd_num (fun _ _ => kd_r)))))) (fun _ _ => kd_r)) (kd_if (kd_bd (kd_if (kd_i (by decide)) (kd_bd kd_plc (fun _ _ => kd_if (kd_i (by decide)) (kd_bd kd_plc (fun _ _ => kd_bd kd_num (fun _ _ => kd_bd kd_num (fun _ _ => kd_r))))))) (fun _ _ => kd_r)) (kd_if (kd_bd (kd_if (kd_i (by decide)) (kd_bd kd_num (fun _ _ => kd_bd kd_plc (fun _ _ => kd_r)))) (fun _ _ => kd_r)) (kd_if (kd_if (kd_i (by decide)) (kd_bd (kd_exp _ _) (fun _ _ => kd_r))) (kd_i (by decide)))))
theorem kd_lin {b : Int → Int} {n lb q : Nat} {S : Tx} : r_kd (r_lin b n lb S q) := kd_bd kd_ln1 (fun _ _ => kd_if kd_r (kd_i (by decide)))
theorem kd_txt {b : Int → Int} {n lb : Nat} : ∀ (k : Nat) (S : Tx) (q : Nat), r_kd (r_txt b n lb k S q)
  | 0, _, _ => kd_r
  | k + 1, S, q => by rw [r_txt_s]; exact kd_if kd_r (kd_bd kd_lin (fun _ _ => kd_txt k _ _))

end C997
