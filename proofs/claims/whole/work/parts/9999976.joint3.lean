section L76
/-! ===== class and Model side by side: a text that was read ===== -/
theorem sv_txt {b : Int → Int} {n lb : Nat} (hlb : 3 ≤ lb) : ∀ (k : Nat) (S : Tx) (q : Nat) (z : Tx × Nat), sv lb S.1 → r_txt b n lb k S q = .inr z → sv lb z.1.1
  | 0, S, q, z, hv, h => by cases h; exact hv
  | k + 1, S, q, z, hv, h => by
    rw [r_txt_s] at h
    by_cases h0 : tK b n q = 0
    · rw [if_pos h0] at h; cases h; exact hv
    · rw [if_neg h0] at h
      obtain ⟨y, h1, h2⟩ := r_bd_inr h
      obtain ⟨q1, e1, -, -⟩ := r_lin_inr h1
      exact sv_txt hlb k y.1 y.2 z (r_ln1_ok hlb hv e1).1 h2
theorem md_sw {N : Nat} {sh : xS} {la lb : Nat} (h : is_Md N sh) : is_Md N (x_sw sh la lb) := by
  unfold is_Md at h ⊢
  simp (disch := decide) only [x_sw_n]
  exact h
theorem lw_pv0 {D : xM} {lb : Nat} (h : lw D lb) (hlb : 3 ≤ lb) : lw (pv0 D) lb := lw_fr h (fun j a b => x_up_n (by omega))
theorem jq_provF {sh : xS} {D d1 d : xM} {la lb T C W : Nat} {G : Ldt} {L : List (Int → Int)} {S : List (Int × Int × Int)} (h : jq sh D la lb T C W G L S) {q : x_O} {n : Nat} {z : Int × Nat} (h0 : d1 0 = x_u1 (x_u1 (D 0) 1 0) 14 (tS (D 2) n z.2 : Nat)) (h61 : d1 61 = x_u1 (D 61) 0 (D 61 0 + 1)) (hlw : lw d1 lb) (hf : ∀ j, j ≠ 0 → j ≠ 1 → j ≠ 61 → (j < lb ∨ lb + 14 < j) → d1 j = D j) (hm : pvf (D 2) n z (outw q d1) d) : jq sh d la lb T C W G L S := by
  have hll := jq_ll h
  obtain ⟨m1, m2, ⟨m3, m4, m5⟩, m6⟩ := hm
  have o62 : outw q d1 62 = D 62 := by rw [outw_n (by decide)]; exact hf 62 (by decide) (by decide) (by decide) (by omega)
  have o71 : outw q d1 71 = D 71 := by rw [outw_n (by decide)]; exact hf 71 (by decide) (by decide) (by decide) (by omega)
  rw [o71] at m2
  have e62 : ∀ i, i ≠ 0 → i ≠ 13 → (i < 14 ∨ 31 < i) → d 62 i = D 62 i := fun i a b c => by rw [m6 i a b c, o62]
  have el : ∀ j, j < 62 → d j = d1 j := fun j a => by rw [m1 j (by omega) (by omega) (by omega), outw_n (by omega)]
  have ej : ∀ j, j ≠ 0 → j ≠ 1 → j ≠ 61 → (j < lb ∨ lb + 14 < j) → j ≠ 62 → j ≠ 71 → (j < 72 ∨ 81 < j) → j ≠ 96 → d j = D j := fun j a b c e f g i k => by rw [m1 j f g i, outw_n k]; exact hf j a b c e
  have e0 : d 0 = x_u1 (x_u1 (D 0) 1 0) 14 (tS (D 2) n z.2 : Nat) := by rw [el 0 (by decide)]; exact h0
  obtain ⟨a1, a2, a3, a4, a5, a6, a7, a8, a9, a10, a11, a12, a13⟩ := h
  refine ⟨cq_fr a1 (fun j x y => ej j (by omega) (by omega) (by omega) (by omega) (by omega) (by omega) (by omega) (by omega)) ?_ ?_ ?_, mq_of a2 (fun i x y => e62 i (by omega) (by omega) (by omega)) (fun j x y => ej j (by omega) (by omega) (by omega) (by omega) (by omega) (by omega) (by omega) (by omega)), a3, ?_, ?_, ⟨acts_fr a6.1 (ej 37 (by decide) (by decide) (by decide) (by omega) (by decide) (by decide) (by decide) (by decide)) (ej 38 (by decide) (by decide) (by decide) (by omega) (by decide) (by decide) (by decide) (by decide)), mact_fr a6.2.1 (e62 44 (by decide) (by decide) (by decide)) (ej 83 (by decide) (by decide) (by decide) (by omega) (by decide) (by decide) (by decide) (by decide)), a6.2.2⟩, ⟨seen_fr a7.1 (fun j x y => ej j (by omega) (by omega) (by omega) (by omega) (by omega) (by omega) (by omega) (by omega)), msee_fr a7.2.1 (e62 52 (by decide) (by decide) (by decide)) (ej 90 (by decide) (by decide) (by decide) (by omega) (by decide) (by decide) (by decide) (by decide)), a7.2.2⟩, ?_, lw_fr hlw (fun j x y => el j (by omega)), ?_, ?_, wsq_fr a12 (fun j x y => ej j (by omega) (by omega) (by omega) (by omega) (by omega) (by omega) (by omega) (by omega)) (fun j x y => ej j (by omega) (by omega) (by omega) (by omega) (by omega) (by omega) (by omega) (by omega)), ?_⟩
  · obtain ⟨n, h1, h2⟩ := a1.2.1
    rw [ej (la + 12) (by omega) (by omega) (by omega) (by omega) (by omega) (by omega) (by omega) (by omega)]; exact h1.2.2.2.2.2.2.2.2
  · rw [ej 34 (by decide) (by decide) (by decide) (by omega) (by decide) (by decide) (by decide) (by decide)]; exact a1.2.2.2.1
  · exact co_ok_of a1.2.2.2.2 (fun j x y => ej j (by omega) (by omega) (by omega) (by omega) (by omega) (by omega) (by omega) (by omega))
  · rw [ej 34 (by decide) (by decide) (by decide) (by omega) (by decide) (by decide) (by decide) (by decide), ej 82 (by decide) (by decide) (by decide) (by omega) (by decide) (by decide) (by decide) (by decide)]; exact a4
  · rw [ej 84 (by decide) (by decide) (by decide) (by omega) (by decide) (by decide) (by decide) (by decide)]; exact a5
  · have e2 := ej 2 (by decide) (by decide) (by decide) (by omega) (by decide) (by decide) (by decide) (by decide)
    have e70 := ej 70 (by decide) (by decide) (by decide) (by omega) (by decide) (by decide) (by decide) (by decide)
    refine ⟨⟨0, by decide, by rw [e0, x_u1_n (by decide), x_u1_s]; rfl, m4⟩, by rw [e2]; exact a8.2.1, by rw [e2, e70]; exact a8.2.2⟩
  · rw [e0, x_u1_s, m5]
  · unfold rfq at a11 ⊢
    rw [el 61 (by decide), h61, m2]
    refine ⟨by rw [x_u1_s, x_u1_s, a11.1], by rw [x_u1_n (by decide), x_u1_n (by decide)]; exact a11.2.1, by rw [x_u1_n (by decide), x_u1_n (by decide)]; exact a11.2.2⟩
  · exact imq_fr a13 (by rw [e0, x_u1_n (by decide), x_u1_n (by decide)]) (fun j x y => ej j (by omega) (by omega) (by omega) (by omega) (by omega) (by omega) (by omega) (by omega)) (fun i x y => e62 i (by omega) (by omega) (by omega)) (fun j x y => ej j (by omega) (by omega) (by omega) (by omega) (by omega) (by omega) (by omega) (by omega))
theorem jq_prov {sh : xS} {D d1 d : xM} {la lb T C W : Nat} {G : Ldt} {L : List (Int → Int)} {S : List (Int × Int × Int)} (h : jq sh D la lb T C W G L S) {q : x_O} {n : Nat} {b : Int → Int} {z : Tx × Nat} (hz : r_all b n lb (pv0 D) = .inr z) (hp : pvq 97 sh D la lb z.1 d1) (hm : pvg 97 (x_sw sh la lb) lb z.1 (outw q d1) d) : ∃ G' : Ldt, jq (x_sw sh la lb) d lb la (z.1.1 lb 0).toNat (z.1.1 lb 1).toNat (z.1.1 (lb + 3) 0).toNat G' [] [] := by
  have hll := jq_ll h
  obtain ⟨⟨ss, p1, p2⟩, p3, p4, p5, p6, p7, p8, p9, p10⟩ := hp
  obtain ⟨m1, m2, m3, ⟨n0, n13, n15, n44, n52, n57⟩, m4⟩ := hm
  have el : ∀ j, j < 62 → d j = d1 j := fun j a => by rw [m4 j (Or.inl a), outw_n (by omega)]
  have eh : ∀ j, j = 70 ∨ j = 71 ∨ (82 < j ∧ j ≠ 96) → d j = D j := fun j a => by
    rw [m4 j (by omega), outw_n (by omega)]
    exact p10 j (by omega) (by omega) (by omega) (by omega) (by omega) (by omega)
  have ea : ∀ j, la ≤ j → j ≤ la + 14 → d j = D j := fun j a c => by rw [el j (by omega)]; exact p10 j (by omega) (by omega) (by omega) (by omega) (by omega) (by omega)
  obtain ⟨a1, a2, a3, a4, a5, a6, a7, a8, a9, a10, a11, a12, a13⟩ := h
  have hsv := sv_txt (by omega) 700 _ 0 z (sv_clr (lw_pv0 a9 (by omega))) hz
  have e0 : d 0 = x_u1 (x_u1 (x_u1 (D 0) 1 0) 14 (-1)) 7 0 := by rw [el 0 (by decide)]; exact p6
  have w1 : d (lb + 3 + 1) = z.1.1 (lb + 3 + 1) := by rw [el _ (by omega)]; exact p7 _ (by omega) (by omega)
  have w2 : d (lb + 3 + 2) = z.1.1 (lb + 3 + 2) := by rw [el _ (by omega)]; exact p7 _ (by omega) (by omega)
  have w3 : d (lb + 3 + 3) = z.1.1 (lb + 3 + 3) := by rw [el _ (by omega)]; exact p7 _ (by omega) (by omega)
  have w4 : d (lb + 3 + 4) = z.1.1 (lb + 3 + 4) := by rw [el _ (by omega)]; exact p7 _ (by omega) (by omega)
  have w5 : d (lb + 3 + 5) = d1 (lb + 3 + 5) := el _ (by omega)
  have w6 : d (lb + 3 + 6) = d1 (lb + 3 + 6) := el _ (by omega)
  refine ⟨_, cq_fr p2 (fun j x y => el j (by omega)) ?_ ?_ ?_, m1 ss p1, ?_, ?_, ?_, ⟨acts_fr p4 (el 37 (by decide)) (el 38 (by decide)), ⟨n44, by decide, fun k g hg => by simp at hg⟩, fun g hg => by cases hg⟩, ⟨seen_fr p5 (fun j x y => el j (by omega)), ⟨n52, by decide, fun k g hg => by simp at hg⟩, fun g hg => by cases hg⟩, ?_, ?_, ?_, ?_, ?_, ?_⟩
  · obtain ⟨n, h1, h2⟩ := p2.2.1
    rw [el (lb + 12) (by omega)]; exact h1.2.2.2.2.2.2.2.2
  · rw [el 34 (by decide)]; exact p2.2.2.2.1
  · exact co_ok_of p2.2.2.2.2 (fun j x y => el j (by omega))
  · rw [x_sw_n (by decide) (by decide)]; exact a3
  · rw [el 34 (by decide), p3]; exact m3
  · rw [eh 84 (by decide)]; exact a5
  · have e2 : d 2 = D 2 := by rw [el 2 (by decide)]; exact p10 2 (by decide) (by decide) (by decide) (by decide) (by decide) (by omega)
    refine ⟨⟨0, by decide, by rw [e0, x_u1_n (by decide), x_u1_n (by decide), x_u1_s]; rfl, n13⟩, by rw [e2]; exact a8.2.1, by rw [e2, eh 70 (by decide)]; exact a8.2.2⟩
  · obtain ⟨n, h1, h2⟩ := a1.2.1
    refine ⟨by rw [ea _ (by omega) (by omega)]; exact h1.2.2.2.2.2.2.1, by rw [ea _ (by omega) (by omega)]; exact h1.2.2.2.2.2.2.2.1, by rw [ea _ (by omega) (by omega)]; exact h1.2.2.2.2.2.2.2.2, W, T, rd_cg (fun j x y => ea j (by omega) (by omega)) a1.2.2.1⟩
  · rw [e0, x_u1_n (by decide), x_u1_s, n15]
  · unfold rfq
    rw [el 61 (by decide), p10 61 (by decide) (by decide) (by decide) (by decide) (by decide) (by omega), eh 71 (by decide)]; exact a11
  · unfold wsq
    rw [w1, w2, w3, w4, w5, w6]
    exact ⟨m2, hsv.2.2.2.2.2, Or.inr ⟨p8, p9⟩⟩
  · exact Or.inl ⟨by rw [e0, x_u1_s], n57⟩
end L76
