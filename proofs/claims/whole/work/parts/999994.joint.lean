section L4
/-! ===== class and Model side by side ===== -/
def imq (T C : Nat) (D : xM) : Prop := (D 0 7 = 0 ∧ D 62 57 = 0) ∨ (D 0 7 = 1 ∧ ∃ (Li : List (Int → Int)) (Si : List (Int × Int × Int)), acts D 45 46 Li ∧ seen D 47 Si ∧ mim T C D (D 44) Li Si ∧ (∀ g ∈ Li, k_row T C g) ∧ s_sn T Si ∧ k_row T C (D 44))
def wsq (D : xM) (la W T : Nat) : Prop := mwy D W (D (la + 3 + 1)) (D (la + 3 + 2)) (D (la + 3 + 3)) (D (la + 3 + 4)) ∧ wy_ok W T (D (la + 3 + 1)) (D (la + 3 + 2)) (D (la + 3 + 3)) ∧ (T = 0 ∨ (D (la + 3 + 5) = m_fw 1000000 (D (la + 3 + 1)) (D (la + 3 + 2)) (D (la + 3 + 3)) W T ∧ D (la + 3 + 6) = m_fw 1000000 (D (la + 3 + 1)) (D (la + 3 + 2)) (fun w => D (la + 3 + 3) w * D (la + 3 + 4) w) W T))
def tpq (D : xM) : Prop := (∃ k : Nat, k ≤ 700 ∧ D 0 1 = k ∧ D 62 13 = k) ∧ (∀ j, -128 ≤ D 2 j ∧ D 2 j ≤ 127) ∧ ∀ i : Nat, i < 700 → D 70 i = ub (D 2) i
def acq (T C : Nat) (D : xM) (L : List (Int → Int)) : Prop := acts D 37 38 L ∧ mact T C D L ∧ ∀ g ∈ L, k_row T C g
def seq (T : Nat) (D : xM) (S : List (Int × Int × Int)) : Prop := seen D 39 S ∧ msee D S ∧ s_sn T S
def rfq (D : xM) : Prop := D 61 0 = D 71 0 ∧ D 61 1 = D 71 1 ∧ D 61 2 = D 71 2
/-- class and Model hold the same -/
def jq (sh : xS) (D : xM) (la lb T C W : Nat) (G : Ldt) (L : List (Int → Int)) (S : List (Int × Int × Int)) : Prop :=
  cq 97 sh D la lb T C W G ∧ mq 97 sh D T C W G ∧ sh 96 = .inl (3, 1) ∧ mr T C (D 34) (D 82) 0 ∧ (∀ j, x_r (D 84 j)) ∧ acq T C D L ∧ seq T D S ∧ tpq D ∧ lw D lb ∧ D 0 14 = D 62 15 ∧ rfq D ∧ wsq D la W T ∧ imq T C D
theorem jq_ll {sh : xS} {D : xM} {la lb T C W : Nat} {G : Ldt} {L : List (Int → Int)} {S : List (Int × Int × Int)} (h : jq sh D la lb T C W G L S) : (la = 3 ∧ lb = 18) ∨ (la = 18 ∧ lb = 3) := h.1.1.2.2.2.2.2.2.2.2.2.2.2.2.2.2.2.2
theorem cq_fr {N : Nat} {sh : xS} {D d : xM} {la lb T C W : Nat} {G : Ldt} (h : cq N sh D la lb T C W G) (e : ∀ j, la ≤ j → j ≤ la + 11 → d j = D j) (h12 : ∀ j, x_r (d (la + 12) j)) (h34 : k_row T C (d 34)) (hco : co_ok d 51) : cq N sh d la lb T C W G := by
  obtain ⟨hX, ⟨n, h1, h2⟩, hR, hK, hc⟩ := h
  refine ⟨hX, ⟨n, ld_same h1 (e _ (by omega) (by omega)) (e _ (by omega) (by omega)) (e _ (by omega) (by omega)) (e _ (by omega) (by omega)) (e _ (by omega) (by omega)) h12, ?_⟩, rd_cg (fun j a b => e j (by omega) (by omega)) hR, h34, hco⟩
  rw [← h2]
  exact l_dt_same (e _ (by omega) (by omega)) (e _ (by omega) (by omega)) (e _ (by omega) (by omega)) (e _ (by omega) (by omega))
theorem acts_fr {D d : xM} {a b : Nat} {L : List (Int → Int)} (h : acts D a b L) (e1 : d a = D a) (e2 : d b = D b) : acts d a b L := by
  unfold acts at h ⊢
  rw [e1, e2]
  exact h
theorem mact_fr {T C : Nat} {D d : xM} {L : List (Int → Int)} (h : mact T C D L) (e1 : d 62 44 = D 62 44) (e2 : d 83 = D 83) : mact T C d L := by
  unfold mact at h ⊢
  rw [e1, e2]
  exact h
theorem seen_fr {D d : xM} {s : Nat} {S : List (Int × Int × Int)} (h : seen D s S) (e : ∀ j, s ≤ j → j ≤ s + 3 → d j = D j) : seen d s S := by
  unfold seen at h ⊢
  rw [e s (by omega) (by omega), e (s + 1) (by omega) (by omega), e (s + 2) (by omega) (by omega), e (s + 3) (by omega) (by omega)]
  exact h
theorem msee_fr {D d : xM} {S : List (Int × Int × Int)} (h : msee D S) (e1 : d 62 52 = D 62 52) (e2 : d 90 = D 90) : msee d S := by
  unfold msee at h ⊢
  rw [e1, e2]
  exact h
theorem tpq_fr {D d : xM} (h : tpq D) (e1 : d 0 1 = D 0 1) (e2 : d 62 13 = D 62 13) (e3 : d 2 = D 2) (e4 : d 70 = D 70) : tpq d := by
  unfold tpq at h ⊢
  rw [e1, e2, e3, e4]
  exact h
theorem lw_fr {D d : xM} {lb : Nat} (h : lw D lb) (e : ∀ j, lb ≤ j → j ≤ lb + 12 → d j = D j) : lw d lb := by
  obtain ⟨a1, a2, a3, W, T, a4⟩ := h
  exact ⟨by rw [e _ (by omega) (by omega)]; exact a1, by rw [e _ (by omega) (by omega)]; exact a2, by rw [e _ (by omega) (by omega)]; exact a3, W, T, rd_cg (fun j a b => e j (by omega) (by omega)) a4⟩
theorem wsq_fr {D d : xM} {la W T : Nat} (h : wsq D la W T) (e : ∀ j, la + 3 < j → j ≤ la + 9 → d j = D j) (e2 : ∀ j, 65 ≤ j → j ≤ 68 → d j = D j) : wsq d la W T := by
  unfold wsq mwy at h ⊢
  rw [e (la + 3 + 1) (by omega) (by omega), e (la + 3 + 2) (by omega) (by omega), e (la + 3 + 3) (by omega) (by omega), e (la + 3 + 4) (by omega) (by omega), e (la + 3 + 5) (by omega) (by omega), e (la + 3 + 6) (by omega) (by omega), e2 65 (by omega) (by omega), e2 66 (by omega) (by omega), e2 67 (by omega) (by omega), e2 68 (by omega) (by omega)]
  exact h
theorem imq_fr {T C : Nat} {D d : xM} (h : imq T C D) (e0 : d 0 7 = D 0 7) (e : ∀ j, 43 ≤ j → j ≤ 50 → d j = D j) (e2 : ∀ i : Int, 57 ≤ i → i ≤ 59 → d 62 i = D 62 i) (e3 : ∀ j, 93 ≤ j → j ≤ 95 → d j = D j) : imq T C d := by
  rcases h with ⟨a, b⟩ | ⟨a, Li, Si, b1, b2, b3, b4, b5, b6⟩
  · exact Or.inl ⟨e0.trans a, (e2 57 (by decide) (by decide)).trans b⟩
  · refine Or.inr ⟨e0.trans a, Li, Si, acts_fr b1 (e 45 (by decide) (by decide)) (e 46 (by decide) (by decide)), seen_fr b2 (fun j x y => e j (by omega) (by omega)), ?_, b4, b5, by rw [e 44 (by decide) (by decide)]; exact b6⟩
    unfold mim at b3 ⊢
    rw [e 44 (by decide) (by decide), e2 57 (by decide) (by decide), e2 58 (by decide) (by decide), e2 59 (by decide) (by decide), e3 93 (by decide) (by decide), e3 94 (by decide) (by decide), e3 95 (by decide) (by decide)]
    exact b3
theorem mr_fr2 {T C : Nat} {f g g' : Int → Int} (h : mr T C f g 0) (hT : T ≤ 8) (hC : C ≤ 10) (e : ∀ i : Int, i < 85 → g' i = g i) : mr T C f g' 0 := by
  intro i hi
  have h1 := h i hi
  have hb : i < 85 := by unfold lv at hi; omega
  rw [Int.zero_add] at h1 ⊢
  rw [e i hb]
  exact h1
/-- the row has changed, or not; the acts too -/
theorem jq_act {sh : xS} {D d : xM} {la lb T C W : Nat} {G : Ldt} {L L' : List (Int → Int)} {S : List (Int × Int × Int)} (h : jq sh D la lb T C W G L S) (hj : ∀ j, j ≠ 34 → j ≠ 36 → j ≠ 37 → j ≠ 38 → j ≠ la + 12 → (j < 52 ∨ 60 < j) → j ≠ 62 → (j < 82 ∨ 89 < j) → j ≠ 91 → j ≠ 92 → j ≠ 96 → d j = D j) (h12 : ∀ j, x_r (d (la + 12) j)) (hco : co_ok d 51) (h62 : ∀ i, i ≠ 0 → i ≠ 44 → i ≠ 47 → i ≠ 56 → d 62 i = D 62 i) (hmr : mr T C (d 34) (d 82) 0) (h84 : ∀ j, x_r (d 84 j)) (hac : acq T C d L') (hk : k_row T C (d 34)) : jq sh d la lb T C W G L' S := by
  have hll := jq_ll h
  obtain ⟨a1, a2, a3, a4, a5, a6, a7, a8, a9, a10, a11, a12, a13⟩ := h
  have ej : ∀ j, j ≠ 34 → j ≠ 36 → j ≠ 37 → j ≠ 38 → j ≠ la + 12 → j < 52 ∨ (60 < j ∧ j ≠ 62 ∧ j < 82) ∨ j = 90 ∨ (92 < j ∧ j ≠ 96) → d j = D j := fun j b1 b2 b3 b4 b5 b6 => hj j b1 b2 b3 b4 b5 (by omega) (by omega) (by omega) (by omega) (by omega) (by omega)
  refine ⟨cq_fr a1 (fun j x y => ej j (by omega) (by omega) (by omega) (by omega) (by omega) (by omega)) h12 hk hco, mq_of a2 (fun i x y => h62 i (by omega) (by omega) (by omega) (by omega)) (fun j x y => ej j (by omega) (by omega) (by omega) (by omega) (by omega) (by omega)), a3, hmr, h84, hac, ⟨seen_fr a7.1 (fun j x y => ej j (by omega) (by omega) (by omega) (by omega) (by omega) (by omega)), msee_fr a7.2.1 (h62 52 (by decide) (by decide) (by decide) (by decide)) (ej 90 (by decide) (by decide) (by decide) (by decide) (by omega) (by omega)), a7.2.2⟩, ?_, ?_, ?_, ?_, ?_, ?_⟩
  · have e0 := ej 0 (by decide) (by decide) (by decide) (by decide) (by omega) (by omega)
    exact tpq_fr a8 (by rw [e0]) (h62 13 (by decide) (by decide) (by decide) (by decide)) (ej 2 (by decide) (by decide) (by decide) (by decide) (by omega) (by omega)) (ej 70 (by decide) (by decide) (by decide) (by decide) (by omega) (by omega))
  · exact lw_fr a9 (fun j x y => ej j (by omega) (by omega) (by omega) (by omega) (by omega) (by omega))
  · rw [ej 0 (by decide) (by decide) (by decide) (by decide) (by omega) (by omega), h62 15 (by decide) (by decide) (by decide) (by decide)]; exact a10
  · unfold rfq
    rw [ej 61 (by decide) (by decide) (by decide) (by decide) (by omega) (by omega), ej 71 (by decide) (by decide) (by decide) (by decide) (by omega) (by omega)]; exact a11
  · exact wsq_fr a12 (fun j x y => ej j (by omega) (by omega) (by omega) (by omega) (by omega) (by omega)) (fun j x y => ej j (by omega) (by omega) (by omega) (by omega) (by omega) (by omega))
  · have e0 := ej 0 (by decide) (by decide) (by decide) (by decide) (by omega) (by omega)
    exact imq_fr a13 (by rw [e0]) (fun j x y => ej j (by omega) (by omega) (by omega) (by omega) (by omega) (by omega)) (fun i x y => h62 i (by omega) (by omega) (by omega) (by omega)) (fun j x y => ej j (by omega) (by omega) (by omega) (by omega) (by omega) (by omega))
/-- a question leaves all as it was -/
theorem jq_ask {sh : xS} {D d1 d : xM} {la lb T C W : Nat} {G : Ldt} {L : List (Int → Int)} {S : List (Int × Int × Int)} {q : x_O} (h : jq sh D la lb T C W G L S) (hs : sc la D d1) (hm : ms (outw q d1) d) : jq sh d la lb T C W G L S := by
  have hll := jq_ll h
  have hT : T ≤ 8 := h.2.1.2.2.1
  have hC : C ≤ 10 := h.2.1.2.2.2.2.2.2.1
  have e1 : ∀ j, j ≠ 36 → j ≠ la + 12 → (j < 52 ∨ 60 < j) → j ≠ 96 → outw q d1 j = D j := fun j a b c e => by rw [outw_n e]; exact hs.1 j a b c
  have e2 : ∀ j, j < 62 → d j = outw q d1 j := fun j a => hm.1 j (by omega) (by omega) (by omega) (by omega) (by omega)
  refine jq_act (L' := L) h (fun j b1 b2 b3 b4 b5 b6 b7 b8 b9 b10 b11 => ?_) ?_ ?_ ?_ ?_ hm.2.2.2 ?_ ?_
  · rw [hm.1 j b7 (by omega) (by omega) b9 b10]; exact e1 j b2 b5 b6 b11
  · rw [e2 (la + 12) (by omega), outw_n (by omega)]; exact hs.2.1
  · exact co_ok_of hs.2.2 (fun j a b => by rw [e2 j (by omega), outw_n (by omega)])
  · intro i a b c e
    rw [hm.2.1 i a c e, e1 62 (by decide) (by omega) (by omega) (by decide)]
  · rw [e2 34 (by decide), e1 34 (by decide) (by omega) (by omega) (by decide)]
    exact mr_fr2 h.2.2.2.1 hT hC (fun i hi => by rw [hm.2.2.1 i hi, e1 82 (by decide) (by omega) (by omega) (by decide)])
  · have h6 := h.2.2.2.2.2.1
    refine ⟨acts_fr h6.1 ?_ ?_, mact_fr h6.2.1 ?_ ?_, h6.2.2⟩
    · rw [e2 37 (by decide)]; exact e1 37 (by decide) (by omega) (by omega) (by decide)
    · rw [e2 38 (by decide)]; exact e1 38 (by decide) (by omega) (by omega) (by decide)
    · rw [hm.2.1 44 (by decide) (by decide) (by decide), e1 62 (by decide) (by omega) (by omega) (by decide)]
    · rw [hm.1 83 (by decide) (by decide) (by omega) (by decide) (by decide)]; exact e1 83 (by decide) (by omega) (by omega) (by decide)
  · rw [e2 34 (by decide), e1 34 (by decide) (by omega) (by omega) (by decide)]
    exact h.1.2.2.2.1
/-- what holds of the Model once the class has answered -/
theorem jq_out {sh : xS} {D d1 : xM} {la lb T C W : Nat} {G : Ldt} {L : List (Int → Int)} {S : List (Int × Int × Int)} {q : x_O} (h : jq sh D la lb T C W G L S) (hj : ∀ j, 62 ≤ j → d1 j = D j) : mq 97 sh (outw q d1) T C W G ∧ mr T C (D 34) (outw q d1 82) 0 ∧ (∀ j, x_r (outw q d1 84 j)) ∧ mact T C (outw q d1) L ∧ msee (outw q d1) S ∧ mwy (outw q d1) W (D (la + 3 + 1)) (D (la + 3 + 2)) (D (la + 3 + 3)) (D (la + 3 + 4)) ∧ outw q d1 62 = D 62 ∧ outw q d1 71 = D 71 ∧ outw q d1 70 = D 70 := by
  have e : ∀ j, 62 ≤ j → j ≠ 96 → outw q d1 j = D j := fun j a b => by rw [outw_n b]; exact hj j a
  have e62 := e 62 (by decide) (by decide)
  refine ⟨mq_of h.2.1 (fun i _ _ => by rw [e62]) (fun j a b => e j (by omega) (by omega)), by rw [e 82 (by decide) (by decide)]; exact h.2.2.2.1, by rw [e 84 (by decide) (by decide)]; exact h.2.2.2.2.1, mact_fr h.2.2.2.2.2.1.2.1 (by rw [e62]) (e 83 (by decide) (by decide)), msee_fr h.2.2.2.2.2.2.1.2.1 (by rw [e62]) (e 90 (by decide) (by decide)), ?_, e62, e 71 (by decide) (by decide), e 70 (by decide) (by decide)⟩
  have h12 := h.2.2.2.2.2.2.2.2.2.2.2.1.1
  unfold mwy at h12 ⊢
  rw [e 65 (by decide) (by decide), e 66 (by decide) (by decide), e 67 (by decide) (by decide), e 68 (by decide) (by decide)]
  exact h12
theorem sc_62 {la : Nat} {D d : xM} (hla : la ≤ 18) (h : sc la D d) : ∀ j, 62 ≤ j → d j = D j := fun j a => h.1 j (by omega) (by omega) (by omega)
/-- an act's row and its acts -/
theorem jq_did {sh : xS} {D d1 d : xM} {la lb T C W : Nat} {G : Ldt} {L L' : List (Int → Int)} {S : List (Int × Int × Int)} {q : x_O} {f : Int → Int} (h : jq sh D la lb T C W G L S) (h34 : d1 34 = f) (hA : acts d1 37 38 L') (hac : ac la D d1) (hm : am (outw q d1) d) (hmr : mr T C f (d 82) 0) (hmA : mact T C d L') (hk : k_row T C f) (hL : ∀ g ∈ L', k_row T C g) : jq sh d la lb T C W G L' S := by
  have hll := jq_ll h
  have e1 : ∀ j, j ≠ 34 → j ≠ 37 → j ≠ 38 → j ≠ la + 12 → j ≠ 96 → outw q d1 j = D j := fun j a b c e f => by rw [outw_n f]; exact hac.1 j a b c e
  have e2 : ∀ j, j < 62 → d j = outw q d1 j := fun j a => hm.1 j (by omega) (by omega) (by omega) (by omega) (by omega)
  have e34 : d 34 = f := by rw [e2 34 (by decide), outw_n (by decide)]; exact h34
  refine jq_act (L' := L') h (fun j b1 b2 b3 b4 b5 b6 b7 b8 b9 b10 b11 => ?_) ?_ ?_ ?_ (by rw [e34]; exact hmr) hm.2.2.2 ⟨acts_fr hA ?_ ?_, hmA, hL⟩ (by rw [e34]; exact hk)
  · rw [hm.1 j b7 (by omega) (by omega) (by omega) (by omega)]; exact e1 j b1 b3 b4 b5 b11
  · rw [e2 (la + 12) (by omega), outw_n (by omega)]; exact hac.2
  · exact co_ok_of h.1.2.2.2.2 (fun j a b => by rw [e2 j (by omega)]; exact e1 j (by omega) (by omega) (by omega) (by omega) (by omega))
  · intro i a b c e
    rw [hm.2.1 i a b c, e1 62 (by decide) (by decide) (by decide) (by omega) (by decide)]
  · rw [e2 37 (by decide), outw_n (by decide)]
  · rw [e2 38 (by decide), outw_n (by decide)]
/-- an act that was refused -/
theorem jq_not {sh : xS} {D d : xM} {la lb T C W : Nat} {G : Ldt} {L : List (Int → Int)} {S : List (Int × Int × Int)} {q : x_O} {k : Int} (h : jq sh D la lb T C W G L S) (hd : d = m_rf k (outw q (x_up D 61 (x_u1 (D 61) k (D 61 k + 1))))) (hk : k = 1 ∨ k = 2) : jq sh d la lb T C W G L S := by
  have hll := jq_ll h
  have e96 : ∀ j, j ≠ 61 → j ≠ 96 → outw q (x_up D 61 (x_u1 (D 61) k (D 61 k + 1))) j = D j := fun j a b => by rw [outw_n b, x_up_n a]
  have ej : ∀ j, j ≠ 61 → j ≠ 62 → j ≠ 71 → j ≠ 96 → d j = D j := fun j a b c e => by rw [hd]; unfold m_rf; rw [x_up_n c, x_up_n b]; exact e96 j a e
  have e62 : d 62 = x_u1 (D 62) 0 0 := by rw [hd]; unfold m_rf; rw [x_up_n (by decide), x_up_s, e96 62 (by decide) (by decide)]
  have e61 : d 61 = x_u1 (D 61) k (D 61 k + 1) := by rw [hd]; unfold m_rf; rw [x_up_n (by decide), x_up_n (by decide), outw_n (by decide), x_up_s]
  have e71 : d 71 = x_u1 (D 71) k (D 71 k + 1) := by rw [hd]; unfold m_rf; rw [x_up_s, e96 71 (by decide) (by decide)]
  have i62 : ∀ i, i ≠ 0 → d 62 i = D 62 i := fun i a => by rw [e62, x_u1_n a]
  obtain ⟨a1, a2, a3, a4, a5, a6, a7, a8, a9, a10, a11, a12, a13⟩ := h
  refine ⟨cq_fr a1 (fun j x y => ej j (by omega) (by omega) (by omega) (by omega)) ?_ ?_ ?_, mq_of a2 (fun i x y => i62 i (by omega)) (fun j x y => ej j (by omega) (by omega) (by omega) (by omega)), a3, ?_, ?_, ⟨acts_fr a6.1 (ej 37 (by decide) (by decide) (by decide) (by decide)) (ej 38 (by decide) (by decide) (by decide) (by decide)), mact_fr a6.2.1 (i62 44 (by decide)) (ej 83 (by decide) (by decide) (by decide) (by decide)), a6.2.2⟩, ⟨seen_fr a7.1 (fun j x y => ej j (by omega) (by omega) (by omega) (by omega)), msee_fr a7.2.1 (i62 52 (by decide)) (ej 90 (by decide) (by decide) (by decide) (by decide)), a7.2.2⟩, ?_, lw_fr a9 (fun j x y => ej j (by omega) (by omega) (by omega) (by omega)), ?_, ?_, wsq_fr a12 (fun j x y => ej j (by omega) (by omega) (by omega) (by omega)) (fun j x y => ej j (by omega) (by omega) (by omega) (by omega)), ?_⟩
  · obtain ⟨n, h1, h2⟩ := a1.2.1
    rw [ej (la + 12) (by omega) (by omega) (by omega) (by omega)]; exact h1.2.2.2.2.2.2.2.2
  · rw [ej 34 (by decide) (by decide) (by decide) (by decide)]; exact a1.2.2.2.1
  · exact co_ok_of a1.2.2.2.2 (fun j x y => ej j (by omega) (by omega) (by omega) (by omega))
  · rw [ej 34 (by decide) (by decide) (by decide) (by decide), ej 82 (by decide) (by decide) (by decide) (by decide)]; exact a4
  · rw [ej 84 (by decide) (by decide) (by decide) (by decide)]; exact a5
  · have e0 := ej 0 (by decide) (by decide) (by decide) (by decide)
    exact tpq_fr a8 (by rw [e0]) (i62 13 (by decide)) (ej 2 (by decide) (by decide) (by decide) (by decide)) (ej 70 (by decide) (by decide) (by decide) (by decide))
  · rw [ej 0 (by decide) (by decide) (by decide) (by decide), i62 15 (by decide)]; exact a10
  · unfold rfq at a11 ⊢
    rw [e61, e71]
    unfold x_u1
    rcases hk with rfl | rfl
    · refine ⟨a11.1, ?_, a11.2.2⟩
      show D 61 1 + 1 = D 71 1 + 1
      rw [a11.2.1]
    · refine ⟨a11.1, a11.2.1, ?_⟩
      show D 61 2 + 1 = D 71 2 + 1
      rw [a11.2.2]
  · have e0 := ej 0 (by decide) (by decide) (by decide) (by decide)
    exact imq_fr a13 (by rw [e0]) (fun j x y => ej j (by omega) (by omega) (by omega) (by omega)) (fun i x y => i62 i (by omega)) (fun j x y => ej j (by omega) (by omega) (by omega) (by omega))
/-! rows stay rows -/
theorem pl_row {T C : Nat} {f : Int → Int} (h : k_row T C f) : pl_ok T C f := h.2.2
theorem row_B {T C : Nat} {f : Int → Int} (h : k_row T C f) : s_ok (161 * f 0) f ∧ 161 * f 0 ≤ 200000 := ⟨h.1, by have := h.2.1; omega⟩
theorem s_evn_0 {f : Int → Int} {t : Int} (h0 : 0 ≤ t) : s_evn f t 0 = f 0 := by
  unfold s_evn
  dsimp only
  rw [x_u1_n (by omega), x_u1_n (by omega)]
theorem s_win_0 {f : Int → Int} {t k : Int} (h0 : 0 ≤ t) : s_win f t k 0 = f 0 := by
  unfold s_win
  dsimp only
  rw [x_u1_n (by omega), x_u1_n (by omega)]
theorem s_los_0 {f : Int → Int} {t k : Int} (h0 : 0 ≤ t) : s_los f t k 0 = f 0 := by
  unfold s_los s_add
  rw [x_u1_n (by omega), x_u1_n (by omega)]
theorem s_play_0 {G : Ldt} {f : Int → Int} {t : Int} (h0 : 0 ≤ t) : s_play G f t 0 = f 0 := by
  have e : s_add f (1 + t) (G.1 t) 0 = f 0 := by unfold s_add; rw [x_u1_n (by omega)]
  unfold s_play s_stl
  rw [s_evn_0 h0]
  split
  · rw [s_win_0 h0]; exact e
  · rw [s_los_0 h0]; exact e
theorem s_mv1_z0 {f : Int → Int} {c : Int} (h0 : 0 ≤ c) : s_mv1 f c 0 = f 0 := by
  unfold s_mv1
  split
  · dsimp only
    split
    · rw [x_u1_n (by omega), x_u1_n (by omega)]
    · rw [x_u1_n (by omega)]
  · rfl
theorem s_mv_z0 {f : Int → Int} : ∀ n : Nat, s_mv f n 0 = f 0
  | 0 => rfl
  | n + 1 => by rw [s_mv, s_mv1_z0 (by omega)]; exact s_mv_z0 n
theorem s_plays_0 {G : Ldt} {f : Int → Int} : ∀ n : Nat, s_plays G f n 0 = f 0
  | 0 => rfl
  | n + 1 => by rw [s_plays, s_play_0 (by omega)]; exact s_plays_0 n
theorem s_days_z0 {G : Ldt} {T C : Nat} {f : Int → Int} : ∀ n : Nat, s_days G T C f n 0 = f 0 + n
  | 0 => by show f 0 = _; simp
  | n + 1 => by
    rw [s_days]
    unfold s_day s_tick
    rw [x_u1_s, s_plays_0, s_mv_z0, s_days_z0 n]
    push_cast
    omega
theorem row_days {T C n : Nat} {G : Ldt} {f : Int → Int} (h : k_row T C f) (hG : gG G) (hT : T ≤ 8) (hC : C ≤ 10) (hn : f 0 + n ≤ 999) : k_row T C (s_days G T C f n) := by
  obtain ⟨h1, h2, h3⟩ := h
  refine ⟨?_, by rw [s_days_z0]; exact hn, fun c c0 c1 => by rw [s_days_keep hT hC (by omega) n]; exact h3 c c0 c1⟩
  rw [s_days_z0]
  exact s_ok_le (by omega) (s_ok_days h1 hG.1 hG.2.1 hT hC n)
theorem row_u1 {T C : Nat} {f : Int → Int} (h : k_row T C f) {i v : Int} (hi : i ≠ 0) (hv : s_okv (161 * f 0) i v) (hp : ∀ c : Int, 0 ≤ c → c < C → i = 55 + c → v = -1 ∨ (0 ≤ v ∧ v < T)) : k_row T C (x_u1 f i v) := by
  obtain ⟨h1, h2, h3⟩ := h
  have e : x_u1 f i v 0 = f 0 := x_u1_n (Ne.symm hi)
  refine ⟨by rw [e]; exact s_ok_u1 h1 hv, by rw [e]; exact h2, fun c c0 c1 => ?_⟩
  by_cases hc : i = 55 + c
  · rw [← hc, x_u1_s]; exact hp c c0 c1 hc
  · rw [x_u1_n (Ne.symm hc)]; exact h3 c c0 c1
theorem row_send {T C : Nat} {f : Int → Int} (h : k_row T C f) (hT : T ≤ 8) (hC : C ≤ 10) {c g s q : Int} (hc0 : 0 ≤ c) (hc1 : c < C) (hg : 0 ≤ g ∧ g < T) (hs : 0 ≤ s ∧ s ≤ 9) (hq : 0 ≤ q ∧ q ≤ 9) : k_row T C (s_send f c g s q) := by
  unfold s_send
  refine row_u1 (row_u1 (row_u1 h (by omega) ?_ (fun e e0 e1 ee => Or.inr hg)) (by omega) ?_ (fun e e0 e1 ee => absurd ee (by omega))) (by omega) ?_ (fun e e0 e1 ee => absurd ee (by omega))
  all_goals (unfold s_okv; omega)
theorem row_cat {T C : Nat} {f : Int → Int} (h : k_row T C f) (hC : C ≤ 10) {c b : Int} (hc0 : 0 ≤ c) (hc1 : c < C) (hb : b = 0 ∨ b = 1) : k_row T C (x_u1 f (45 + c) b) := row_u1 h (by omega) (by unfold s_okv; omega) (fun e e0 e1 ee => absurd ee (by omega))
theorem row_lose {T C : Nat} {f : Int → Int} (h : k_row T C f) (hC : C ≤ 10) {c : Int} (hc0 : 0 ≤ c) (hc1 : c < C) : k_row T C (s_lose f c) := by
  unfold s_lose
  refine row_u1 (row_u1 (row_u1 h (by omega) ?_ (fun e e0 e1 ee => absurd ee (by omega))) (by omega) ?_ (fun e e0 e1 ee => Or.inl rfl)) (by omega) ?_ (fun e e0 e1 ee => absurd ee (by omega))
  all_goals (unfold s_okv; omega)
theorem row_opn {T C : Nat} {f : Int → Int} (h : k_row T C f) (hT : T ≤ 8) (hC : C ≤ 10) {c : Int} (hc0 : 0 ≤ c) (hc1 : c < C) (hp : ¬ f (55 + c) = -1) : k_row T C (s_opn f c) := by
  have h5 := (h.2.2 c hc0 hc1).resolve_left hp
  have h6 := s_cr h.1 hc0 (by omega)
  unfold s_opn s_add
  refine row_lose (row_u1 h ?_ ?_ (fun e e0 e1 ee => absurd ee (by split <;> omega))) hC hc0 hc1
  · split <;> omega
  · have h7 := h.1 ((if f (35 + c) = 1 then 9 else 1) + f (55 + c))
    split at h7
    · next hx => rw [if_pos hx]; unfold s_okv at h7 ⊢; omega
    · next hx => rw [if_neg hx]; unfold s_okv at h7 ⊢; omega
theorem row_pour {T C : Nat} {f : Int → Int} (h : k_row T C f) (hC : C ≤ 10) {c e : Int} (hc0 : 0 ≤ c) (hc1 : c < C) (he0 : 0 ≤ e) (he1 : e < C) : k_row T C (s_pour f c e) := by
  have h6 := s_cr h.1 hc0 (by omega)
  have h7 := s_cr h.1 he0 (by omega)
  unfold s_pour
  refine row_lose ?_ hC he0 he1
  split
  · refine row_u1 h (by omega) ?_ (fun e e0 e1 ee => absurd ee (by omega))
    unfold s_okv; omega
  · refine row_u1 (row_u1 h (by omega) ?_ (fun e e0 e1 ee => absurd ee (by omega))) (by omega) ?_ (fun e e0 e1 ee => absurd ee (by omega))
    · split <;> (unfold s_okv; omega)
    · split <;> (unfold s_okv; omega)
theorem row_keep {T C : Nat} {L : List (Int → Int)} {f : Int → Int} (hL : ∀ g ∈ L, k_row T C g) (hf : k_row T C f) : ∀ g ∈ l_keep L f, k_row T C g := by
  intro g hg
  unfold l_keep at hg
  split at hg
  · rcases List.mem_append.mp hg with h | h
    · exact hL g (List.mem_of_mem_tail h)
    · rw [List.mem_singleton.mp h]; exact hf
  · rcases List.mem_append.mp hg with h | h
    · exact hL g h
    · rw [List.mem_singleton.mp h]; exact hf
end L4
