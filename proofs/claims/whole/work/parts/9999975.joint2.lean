section L75
/-! ===== class and Model side by side: what an act, a text, an image leaves ===== -/
theorem m_rf_0 {k : Int} {D : xM} : m_rf k D 62 0 = 0 := by unfold m_rf; rw [x_up_n (by decide), x_up_s, x_u1_s]
theorem m_rf_96 {k : Int} {D : xM} : m_rf k D 96 = D 96 := by unfold m_rf; rw [x_up_n (by decide), x_up_n (by decide)]
theorem o_i_t {z : Int} {E : String} (h : (.inr E : x_O) = o_i z) : False := by unfold o_i at h; cases h
theorem eo_in {W T : Nat} {one two span : Int → Int} (h : wy_ok W T one two span) {w t : Int} (hw0 : 0 ≤ w) (hw1 : w < W) (hn : ¬ e_oth one two w t = -1) : 0 ≤ e_oth one two w t ∧ e_oth one two w t < T := by
  obtain ⟨m, rfl⟩ := Int.eq_ofNat_of_zero_le hw0
  obtain ⟨a, b, -⟩ := h m (by omega)
  unfold e_oth at hn ⊢
  by_cases h1 : one m = t
  · rw [if_pos h1]; exact b
  · rw [if_neg h1] at hn ⊢
    by_cases h2 : two m = t
    · rw [if_pos h2]; exact a
    · rw [if_neg h2] at hn; exact absurd rfl hn
/-- cells that both sides leave alone -/
theorem jq_mk {sh : xS} {D d1 d : xM} {la lb T C W : Nat} {G : Ldt} {L : List (Int → Int)} {S : List (Int × Int × Int)} (h : jq sh D la lb T C W G L S) (ej : ∀ j, j < 62 → j ≠ 0 → j ≠ 1 → j ≠ 2 → j ≠ 34 → (j < 37 ∨ 50 < j) → j ≠ 61 → d j = D j) {L' : List (Int → Int)} {S' : List (Int × Int × Int)} (e62 : ∀ i : Int, 1 ≤ i → i ≤ 4 → d 62 i = D 62 i) (eM : ∀ j, 63 ≤ j → j ≤ 69 → d j = D j) (hmr : mr T C (d 34) (d 82) 0) (h84 : ∀ j, x_r (d 84 j)) (hac : acq T C d L') (hse : seq T d S') (htp : tpq d) (hfl : d 0 14 = d 62 15) (hrf : rfq d) (him : imq T C d) (hk : k_row T C (d 34)) : jq sh d la lb T C W G L' S' := by
  have hll := jq_ll h
  obtain ⟨a1, a2, a3, a4, a5, a6, a7, a8, a9, a10, a11, a12, a13⟩ := h
  refine ⟨cq_fr a1 (fun j x y => ej j (by omega) (by omega) (by omega) (by omega) (by omega) (by omega) (by omega)) ?_ hk ?_, mq_of a2 e62 eM, a3, hmr, h84, hac, hse, htp, lw_fr a9 (fun j x y => ej j (by omega) (by omega) (by omega) (by omega) (by omega) (by omega) (by omega)), hfl, hrf, wsq_fr a12 (fun j x y => ej j (by omega) (by omega) (by omega) (by omega) (by omega) (by omega) (by omega)) (fun j x y => eM j (by omega) (by omega)), him⟩
  · obtain ⟨n, h1, h2⟩ := a1.2.1
    rw [ej (la + 12) (by omega) (by omega) (by omega) (by omega) (by omega) (by omega) (by omega)]; exact h1.2.2.2.2.2.2.2.2
  · exact co_ok_of a1.2.2.2.2 (fun j x y => ej j (by omega) (by omega) (by omega) (by omega) (by omega) (by omega) (by omega))
theorem jq_see {sh : xS} {D d1 d : xM} {la lb T C W : Nat} {G : Ldt} {L : List (Int → Int)} {S : List (Int × Int × Int)} (h : jq sh D la lb T C W G L S) {q : x_O} {p : Int × Int × Int} (hp : (0 ≤ p.1 ∧ p.1 < T) ∧ (0 ≤ p.2.1 ∧ p.2.1 ≤ 30) ∧ (0 ≤ p.2.2 ∧ p.2.2 ≤ 9999)) (hS : seen d1 39 (S ++ [p])) (hf : ∀ j, j < 39 ∨ 42 < j → d1 j = D j) (hm : (∀ j, j ≠ 62 → j ≠ 90 → d j = outw q d1 j) ∧ (∀ i, i ≠ 0 → i ≠ 52 → d 62 i = outw q d1 62 i) ∧ d 62 0 = 0 ∧ msee d (S ++ [p])) : jq sh d la lb T C W G L (S ++ [p]) := by
  have hll := jq_ll h
  have ej : ∀ j, j < 39 ∨ 42 < j → j ≠ 62 → j ≠ 90 → j ≠ 96 → d j = D j := fun j a b c e => by rw [hm.1 j b c, outw_n e]; exact hf j a
  have e62 : ∀ i, i ≠ 0 → i ≠ 52 → d 62 i = D 62 i := fun i a b => by rw [hm.2.1 i a b, outw_n (by decide), hf 62 (by omega)]
  have es : ∀ j, 39 ≤ j → j ≤ 42 → d j = d1 j := fun j a b => by rw [hm.1 j (by omega) (by omega), outw_n (by omega)]
  have hk : k_row T C (D 34) := h.1.2.2.2.1
  refine jq_mk (d1 := d1) h (fun j a _ _ _ _ b c => ej j (by omega) (by omega) (by omega) (by omega)) (fun i a b => e62 i (by omega) (by omega)) (fun j a b => ej j (by omega) (by omega) (by omega) (by omega)) ?_ ?_ ?_ ?_ ?_ ?_ ?_ ?_ ?_
  · rw [ej 34 (by decide) (by decide) (by decide) (by decide), ej 82 (by decide) (by decide) (by decide) (by decide)]; exact h.2.2.2.1
  · rw [ej 84 (by decide) (by decide) (by decide) (by decide)]; exact h.2.2.2.2.1
  · have h6 := h.2.2.2.2.2.1
    exact ⟨acts_fr h6.1 (ej 37 (by decide) (by decide) (by decide) (by decide)) (ej 38 (by decide) (by decide) (by decide) (by decide)), mact_fr h6.2.1 (e62 44 (by decide) (by decide)) (ej 83 (by decide) (by decide) (by decide) (by decide)), h6.2.2⟩
  · refine ⟨seen_fr hS (fun j a b => es j a (by omega)), hm.2.2.2, fun x hx => ?_⟩
    rcases List.mem_append.mp hx with hx | hx
    · exact h.2.2.2.2.2.2.1.2.2 x hx
    · rw [List.mem_singleton.mp hx]; exact hp
  · have e0 := ej 0 (by decide) (by decide) (by decide) (by decide)
    exact tpq_fr h.2.2.2.2.2.2.2.1 (by rw [e0]) (e62 13 (by decide) (by decide)) (ej 2 (by decide) (by decide) (by decide) (by decide)) (ej 70 (by decide) (by decide) (by decide) (by decide))
  · rw [ej 0 (by decide) (by decide) (by decide) (by decide), e62 15 (by decide) (by decide)]; exact h.2.2.2.2.2.2.2.2.2.1
  · unfold rfq
    rw [ej 61 (by decide) (by decide) (by decide) (by decide), ej 71 (by decide) (by decide) (by decide) (by decide)]; exact h.2.2.2.2.2.2.2.2.2.2.1
  · have e0 := ej 0 (by decide) (by decide) (by decide) (by decide)
    exact imq_fr h.2.2.2.2.2.2.2.2.2.2.2.2 (by rw [e0]) (fun j a b => ej j (by omega) (by omega) (by omega) (by omega)) (fun i a b => e62 i (by omega) (by omega)) (fun j a b => ej j (by omega) (by omega) (by omega) (by omega))
  · rw [ej 34 (by decide) (by decide) (by decide) (by decide)]; exact hk
theorem jq_forget {sh : xS} {D d1 d : xM} {la lb T C W : Nat} {G : Ldt} {L : List (Int → Int)} {S : List (Int × Int × Int)} (h : jq sh D la lb T C W G L S) (hS : seen d1 39 []) (hf : ∀ j, j ≠ 39 → d1 j = D j) (hd : d = x_up d1 62 (x_u1 (x_u1 (d1 62) 0 0) 52 0)) : jq sh d la lb T C W G L [] := by
  have hll := jq_ll h
  have ej : ∀ j, j ≠ 39 → j ≠ 62 → d j = D j := fun j a b => by rw [hd, x_up_n b]; exact hf j a
  have e62 : ∀ i, i ≠ 0 → i ≠ 52 → d 62 i = D 62 i := fun i a b => by rw [hd, x_up_s, x_u1_n b, x_u1_n a, hf 62 (by decide)]
  have hk : k_row T C (D 34) := h.1.2.2.2.1
  refine jq_mk (d1 := d1) h (fun j a _ _ _ _ b c => ej j (by omega) (by omega)) (fun i a b => e62 i (by omega) (by omega)) (fun j a b => ej j (by omega) (by omega)) ?_ ?_ ?_ ?_ ?_ ?_ ?_ ?_ ?_
  · rw [ej 34 (by decide) (by decide), ej 82 (by decide) (by decide)]; exact h.2.2.2.1
  · rw [ej 84 (by decide) (by decide)]; exact h.2.2.2.2.1
  · have h6 := h.2.2.2.2.2.1
    exact ⟨acts_fr h6.1 (ej 37 (by decide) (by decide)) (ej 38 (by decide) (by decide)), mact_fr h6.2.1 (e62 44 (by decide) (by decide)) (ej 83 (by decide) (by decide)), h6.2.2⟩
  · refine ⟨seen_fr hS (fun j a b => by rw [hd, x_up_n (by omega)]), ⟨by rw [hd, x_up_s, x_u1_s]; rfl, by decide, fun k p hp => by simp at hp⟩, fun x hx => by cases hx⟩
  · have e0 := ej 0 (by decide) (by decide)
    exact tpq_fr h.2.2.2.2.2.2.2.1 (by rw [e0]) (e62 13 (by decide) (by decide)) (ej 2 (by decide) (by decide)) (ej 70 (by decide) (by decide))
  · rw [ej 0 (by decide) (by decide), e62 15 (by decide) (by decide)]; exact h.2.2.2.2.2.2.2.2.2.1
  · unfold rfq
    rw [ej 61 (by decide) (by decide), ej 71 (by decide) (by decide)]; exact h.2.2.2.2.2.2.2.2.2.2.1
  · have e0 := ej 0 (by decide) (by decide)
    exact imq_fr h.2.2.2.2.2.2.2.2.2.2.2.2 (by rw [e0]) (fun j a b => ej j (by omega) (by omega)) (fun i a b => e62 i (by omega) (by omega)) (fun j a b => ej j (by omega) (by omega))
  · rw [ej 34 (by decide) (by decide)]; exact hk
theorem jq_image {sh : xS} {D d1 d : xM} {la lb T C W : Nat} {G : Ldt} {L : List (Int → Int)} {S : List (Int × Int × Int)} (h : jq sh D la lb T C W G L S) (h44 : d1 44 = D 34) (hA : acts d1 45 46 L) (hS : seen d1 47 S) (h0 : d1 0 = x_u1 (D 0) 7 1) (hf : ∀ j, j ≠ 0 → (j < 43 ∨ 50 < j) → d1 j = D j) (hm : (∀ j, j ≠ 62 → j ≠ 93 → j ≠ 94 → j ≠ 95 → d j = d1 j) ∧ (∀ i, i ≠ 0 → i ≠ 57 → i ≠ 58 → i ≠ 59 → d 62 i = d1 62 i) ∧ d 62 0 = 0 ∧ mim T C d (D 34) L S) : jq sh d la lb T C W G L S := by
  have hll := jq_ll h
  have ej : ∀ j, j ≠ 0 → (j < 43 ∨ 50 < j) → j ≠ 62 → j ≠ 93 → j ≠ 94 → j ≠ 95 → d j = D j := fun j a b c e f g => by rw [hm.1 j c e f g]; exact hf j a b
  have e62 : ∀ i, i ≠ 0 → i ≠ 57 → i ≠ 58 → i ≠ 59 → d 62 i = D 62 i := fun i a b c e => by rw [hm.2.1 i a b c e, hf 62 (by decide) (by decide)]
  have e0 : d 0 = x_u1 (D 0) 7 1 := by rw [hm.1 0 (by decide) (by decide) (by decide) (by decide)]; exact h0
  have hk : k_row T C (D 34) := h.1.2.2.2.1
  refine jq_mk (d1 := d1) h (fun j a a0 _ _ _ b c => ej j a0 (by omega) (by omega) (by omega) (by omega) (by omega)) (fun i a b => e62 i (by omega) (by omega) (by omega) (by omega)) (fun j a b => ej j (by omega) (by omega) (by omega) (by omega) (by omega) (by omega)) ?_ ?_ ?_ ?_ ?_ ?_ ?_ ?_ ?_
  · rw [ej 34 (by decide) (by decide) (by decide) (by decide) (by decide) (by decide), ej 82 (by decide) (by decide) (by decide) (by decide) (by decide) (by decide)]; exact h.2.2.2.1
  · rw [ej 84 (by decide) (by decide) (by decide) (by decide) (by decide) (by decide)]; exact h.2.2.2.2.1
  · have h6 := h.2.2.2.2.2.1
    exact ⟨acts_fr h6.1 (ej 37 (by decide) (by decide) (by decide) (by decide) (by decide) (by decide)) (ej 38 (by decide) (by decide) (by decide) (by decide) (by decide) (by decide)), mact_fr h6.2.1 (e62 44 (by decide) (by decide) (by decide) (by decide)) (ej 83 (by decide) (by decide) (by decide) (by decide) (by decide) (by decide)), h6.2.2⟩
  · have h7 := h.2.2.2.2.2.2.1
    exact ⟨seen_fr h7.1 (fun j a b => ej j (by omega) (by omega) (by omega) (by omega) (by omega) (by omega)), msee_fr h7.2.1 (e62 52 (by decide) (by decide) (by decide) (by decide)) (ej 90 (by decide) (by decide) (by decide) (by decide) (by decide) (by decide)), h7.2.2⟩
  · exact tpq_fr h.2.2.2.2.2.2.2.1 (by rw [e0, x_u1_n (by decide)]) (e62 13 (by decide) (by decide) (by decide) (by decide)) (ej 2 (by decide) (by decide) (by decide) (by decide) (by decide) (by decide)) (ej 70 (by decide) (by decide) (by decide) (by decide) (by decide) (by decide))
  · rw [e0, x_u1_n (by decide), e62 15 (by decide) (by decide) (by decide) (by decide)]; exact h.2.2.2.2.2.2.2.2.2.1
  · unfold rfq
    rw [ej 61 (by decide) (by decide) (by decide) (by decide) (by decide) (by decide), ej 71 (by decide) (by decide) (by decide) (by decide) (by decide) (by decide)]; exact h.2.2.2.2.2.2.2.2.2.2.1
  · have e44 : d 44 = D 34 := by rw [hm.1 44 (by decide) (by decide) (by decide) (by decide)]; exact h44
    refine Or.inr ⟨by rw [e0, x_u1_s], L, S, acts_fr hA (hm.1 45 (by decide) (by decide) (by decide) (by decide)) (hm.1 46 (by decide) (by decide) (by decide) (by decide)), seen_fr hS (fun j a b => hm.1 j (by omega) (by omega) (by omega) (by omega)), by rw [e44]; exact hm.2.2.2, h.2.2.2.2.2.1.2.2, h.2.2.2.2.2.2.1.2.2, by rw [e44]; exact hk⟩
  · rw [ej 34 (by decide) (by decide) (by decide) (by decide) (by decide) (by decide)]; exact hk
theorem jq_restore {sh : xS} {D d1 d : xM} {la lb T C W : Nat} {G : Ldt} {L : List (Int → Int)} {S : List (Int × Int × Int)} (h : jq sh D la lb T C W G L S) {Li : List (Int → Int)} {Si : List (Int × Int × Int)} (hLi : ∀ g ∈ Li, k_row T C g) (hSi : s_sn T Si) (hk : k_row T C (D 44)) (h34 : d1 34 = D 44) (hA : acts d1 37 38 Li) (hS : seen d1 39 Si) (hf : ∀ j, j ≠ 34 → (j < 37 ∨ 42 < j) → d1 j = D j) (hm : (∀ j, j ≠ 62 → j ≠ 82 → j ≠ 83 → j ≠ 90 → d j = d1 j) ∧ (∀ i, i ≠ 0 → i ≠ 44 → i ≠ 52 → d 62 i = d1 62 i) ∧ d 62 0 = 0 ∧ mr T C (D 44) (d 82) 0 ∧ mact T C d Li ∧ msee d Si) : jq sh d la lb T C W G Li Si := by
  have hll := jq_ll h
  have ej : ∀ j, j ≠ 34 → (j < 37 ∨ 42 < j) → j ≠ 62 → j ≠ 82 → j ≠ 83 → j ≠ 90 → d j = D j := fun j a b c e f g => by rw [hm.1 j c e f g]; exact hf j a b
  have e62 : ∀ i, i ≠ 0 → i ≠ 44 → i ≠ 52 → d 62 i = D 62 i := fun i a b c => by rw [hm.2.1 i a b c, hf 62 (by decide) (by decide)]
  have e34 : d 34 = D 44 := by rw [hm.1 34 (by decide) (by decide) (by decide) (by decide)]; exact h34
  refine jq_mk (d1 := d1) h (fun j a a0 _ _ a4 b c => ej j a4 (by omega) (by omega) (by omega) (by omega) (by omega)) (fun i a b => e62 i (by omega) (by omega) (by omega)) (fun j a b => ej j (by omega) (by omega) (by omega) (by omega) (by omega) (by omega)) (by rw [e34]; exact hm.2.2.2.1) ?_ ⟨acts_fr hA (hm.1 37 (by decide) (by decide) (by decide) (by decide)) (hm.1 38 (by decide) (by decide) (by decide) (by decide)), hm.2.2.2.2.1, hLi⟩ ⟨seen_fr hS (fun j a b => hm.1 j (by omega) (by omega) (by omega) (by omega)), hm.2.2.2.2.2, hSi⟩ ?_ ?_ ?_ ?_ (by rw [e34]; exact hk)
  · rw [ej 84 (by decide) (by decide) (by decide) (by decide) (by decide) (by decide)]; exact h.2.2.2.2.1
  · have e0 := ej 0 (by decide) (by decide) (by decide) (by decide) (by decide) (by decide)
    exact tpq_fr h.2.2.2.2.2.2.2.1 (by rw [e0]) (e62 13 (by decide) (by decide) (by decide)) (ej 2 (by decide) (by decide) (by decide) (by decide) (by decide) (by decide)) (ej 70 (by decide) (by decide) (by decide) (by decide) (by decide) (by decide))
  · rw [ej 0 (by decide) (by decide) (by decide) (by decide) (by decide) (by decide), e62 15 (by decide) (by decide) (by decide)]; exact h.2.2.2.2.2.2.2.2.2.1
  · unfold rfq
    rw [ej 61 (by decide) (by decide) (by decide) (by decide) (by decide) (by decide), ej 71 (by decide) (by decide) (by decide) (by decide) (by decide) (by decide)]; exact h.2.2.2.2.2.2.2.2.2.2.1
  · have e0 := ej 0 (by decide) (by decide) (by decide) (by decide) (by decide) (by decide)
    exact imq_fr h.2.2.2.2.2.2.2.2.2.2.2.2 (by rw [e0]) (fun j a b => ej j (by omega) (by omega) (by omega) (by omega) (by omega) (by omega)) (fun i a b => e62 i (by omega) (by omega) (by omega)) (fun j a b => ej j (by omega) (by omega) (by omega) (by omega) (by omega) (by omega))
/-! the tape -/
theorem bmod_v (x : Int) (m : Nat) : Int.bmod x m = if x % m < (m + 1) / 2 then x % m else x % m - m := rfl
theorem an255 (a : Int32) : (a &&& 255).toInt = a.toInt % 256 := by
  have h1 : (a &&& 255).toBitVec.toNat = a.toBitVec.toNat % 256 := by
    rw [Int32.toBitVec_and, BitVec.toNat_and]
    exact Nat.and_two_pow_sub_one_eq_mod _ 8
  have h2 : (a &&& 255).toInt = ((a &&& 255).toBitVec.toNat : Int) := by
    rw [← Int32.toInt_toBitVec]
    refine BitVec.toInt_eq_toNat_of_lt ?_
    rw [h1]
    have := Nat.mod_lt a.toBitVec.toNat (show 256 > 0 by decide)
    omega
  have h3 : a.toInt = Int.bmod (a.toBitVec.toNat : Int) 4294967296 := by rw [← Int32.toInt_toBitVec]; exact BitVec.toInt_eq_toNat_bmod _
  have h4 : a.toBitVec.toNat < 4294967296 := a.toBitVec.isLt
  rw [h2, h1, h3, bmod_v]
  split <;> omega
theorem by_an (v : Int) : (-128 ≤ x_by (x_by v) ∧ x_by (x_by v) ≤ 127) ∧ x_an v 255 = (if x_by (x_by v) < 0 then x_by (x_by v) + 256 else x_by (x_by v)) := by
  have e1 : ∀ u : Int, x_by u = (xI u).toInt.bmod 256 := fun u => by
    unfold x_by
    rw [Int8.toInt_toInt32, Int32.toInt_toInt8]
  have e2 : x_by (x_by v) = (xI v).toInt.bmod 256 := by
    rw [e1 (x_by v)]
    have : xI (x_by v) = (xI v).toInt8.toInt32 := xI_toInt _
    rw [this, Int8.toInt_toInt32, Int32.toInt_toInt8]
    exact Int.bmod_bmod ..
  have e3 : x_an v 255 = (xI v).toInt % 256 := an255 (xI v)
  rw [e2, e3, bmod_v]
  split <;> omega
def tprel (f g : Int → Int) : Prop := (∀ j, -128 ≤ f j ∧ f j ≤ 127) ∧ ∀ i : Nat, i < 700 → g i = ub f i
theorem tprel_4 {f g : Int → Int} {k z : Int} (h : tprel f g) : ∀ j : Nat, tprel (tp4 f k z j) (tm4 g k z j)
  | 0 => h
  | j + 1 => by
    have ih := tprel_4 (k := k) (z := z) h j
    obtain ⟨b1, b2⟩ := by_an (x_sr z (24 - 8 * j))
    rw [tp4_s, tm4_s]
    refine ⟨fun i => ?_, fun i hi => ?_⟩
    · by_cases e : i = k + j
      · rw [e, x_u1_s]; exact b1
      · rw [x_u1_n e]; exact ih.1 i
    · unfold ub
      by_cases e : ((i : Nat) : Int) = k + j
      · rw [e, x_u1_s, x_u1_s]; exact b2
      · rw [x_u1_n e, x_u1_n e]; exact ih.2 i hi
theorem jq_feed {sh : xS} {D d1 d : xM} {la lb T C W : Nat} {G : Ldt} {L : List (Int → Int)} {S : List (Int × Int × Int)} (h : jq sh D la lb T C W G L S) {k : Nat} {z1 z2 z3 z4 z5 : Int} (hk : k + 20 ≤ 700) (h2 : d1 2 = tp20 (D 2) k z1 z2 z3 z4 z5) (h0 : d1 0 = x_u1 (D 0) 1 ((k : Int) + 20)) (hf : ∀ j, j ≠ 0 → j ≠ 2 → d1 j = D j) (m70 : d 70 = tm20 (d1 70) k z1 z2 z3 z4 z5) (m62 : d 62 = x_u1 (x_u1 (d1 62) 0 0) 13 ((k : Int) + 20)) (hm : ∀ j, j ≠ 62 → j ≠ 70 → d j = d1 j) : jq sh d la lb T C W G L S := by
  have hll := jq_ll h
  have ej : ∀ j, j ≠ 0 → j ≠ 2 → j ≠ 62 → j ≠ 70 → d j = D j := fun j a b c e => by rw [hm j c e]; exact hf j a b
  have e62 : ∀ i, i ≠ 0 → i ≠ 13 → d 62 i = D 62 i := fun i a b => by rw [m62, x_u1_n b, x_u1_n a, hf 62 (by decide) (by decide)]
  have e0 : d 0 = x_u1 (D 0) 1 ((k : Int) + 20) := by rw [hm 0 (by decide) (by decide)]; exact h0
  have hkr : k_row T C (D 34) := h.1.2.2.2.1
  refine jq_mk (d1 := d1) h (fun j a a0 _ a2 _ b c => ej j a0 a2 (by omega) (by omega)) (fun i a b => e62 i (by omega) (by omega)) (fun j a b => ej j (by omega) (by omega) (by omega) (by omega)) ?_ ?_ ?_ ?_ ?_ ?_ ?_ ?_ ?_
  · rw [ej 34 (by decide) (by decide) (by decide) (by decide), ej 82 (by decide) (by decide) (by decide) (by decide)]; exact h.2.2.2.1
  · rw [ej 84 (by decide) (by decide) (by decide) (by decide)]; exact h.2.2.2.2.1
  · have h6 := h.2.2.2.2.2.1
    exact ⟨acts_fr h6.1 (ej 37 (by decide) (by decide) (by decide) (by decide)) (ej 38 (by decide) (by decide) (by decide) (by decide)), mact_fr h6.2.1 (e62 44 (by decide) (by decide)) (ej 83 (by decide) (by decide) (by decide) (by decide)), h6.2.2⟩
  · have h7 := h.2.2.2.2.2.2.1
    exact ⟨seen_fr h7.1 (fun j a b => ej j (by omega) (by omega) (by omega) (by omega)), msee_fr h7.2.1 (e62 52 (by decide) (by decide)) (ej 90 (by decide) (by decide) (by decide) (by decide)), h7.2.2⟩
  · have h8 := h.2.2.2.2.2.2.2.1
    have hr : tprel (D 2) (D 70) := ⟨h8.2.1, h8.2.2⟩
    have hr := tprel_4 (k := k + 16) (z := z5) (tprel_4 (k := k + 12) (z := z4) (tprel_4 (k := k + 8) (z := z3) (tprel_4 (k := k + 4) (z := z2) (tprel_4 (k := k) (z := z1) hr 4) 4) 4) 4) 4
    have e2 : d 2 = tp20 (D 2) k z1 z2 z3 z4 z5 := by rw [hm 2 (by decide) (by decide)]; exact h2
    have e70 : d 70 = tm20 (D 70) k z1 z2 z3 z4 z5 := by rw [m70, hf 70 (by decide) (by decide)]
    refine ⟨⟨k + 20, hk, by rw [e0, x_u1_s]; push_cast; rfl, by rw [m62, x_u1_s]; push_cast; rfl⟩, by rw [e2]; exact hr.1, by rw [e2, e70]; exact hr.2⟩
  · rw [e0, x_u1_n (by decide), e62 15 (by decide) (by decide)]; exact h.2.2.2.2.2.2.2.2.2.1
  · unfold rfq
    rw [ej 61 (by decide) (by decide) (by decide) (by decide), ej 71 (by decide) (by decide) (by decide) (by decide)]; exact h.2.2.2.2.2.2.2.2.2.2.1
  · exact imq_fr h.2.2.2.2.2.2.2.2.2.2.2.2 (by rw [e0, x_u1_n (by decide)]) (fun j a b => ej j (by omega) (by omega) (by omega) (by omega)) (fun i a b => e62 i (by omega) (by omega)) (fun j a b => ej j (by omega) (by omega) (by omega) (by omega))
  · rw [ej 34 (by decide) (by decide) (by decide) (by decide)]; exact hkr
/-- only whether it threw -/
theorem ms_0 {D : xM} {v : Int} (h : ∀ j, x_r (D 84 j)) : ms D (x_up D 62 (x_u1 (D 62) 0 v)) := ⟨fun j a _ _ _ _ => x_up_n a, fun i a _ _ => by rw [x_up_s, x_u1_n a], fun i _ => by rw [x_up_n (by decide)], by rw [x_up_n (by decide)]; exact h⟩
end L75
