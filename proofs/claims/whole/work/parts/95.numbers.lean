section C95
/-! ===== Reader: numbers and places, in one form ===== -/
theorem x_M_post {X : xC} {l : Launch} {y : MethodName} {cc : ByteArray} {nL : Nat} {rt : Option FieldType} {d mc ms : Nat} {As : List Value} {g : Bool} {N : Nat} {sh : xS} {D : xM} {o o' : x_O} {g' : Bool} {N' : Nat} {sh' : xS} {P P' : xM → Prop} (h : x_M X l y cc nL rt d mc ms As g N sh D o g' N' sh' P) (ho : o = o') (hp : ∀ D2, P D2 → P' D2) : x_M X l y cc nL rt d mc ms As g N sh D o' g' N' sh' P' := by
  subst ho
  intro p e a1 a2 a3 s m args below a4 a5 a6 a7
  obtain ⟨n, oc, h1, h2, h3, h4⟩ := h p e a1 a2 a3 s m args below a4 a5 a6 a7
  refine ⟨n, oc, h1, h2, h3, ?_⟩
  rcases h4 with ⟨⟨v, D2, b1, b2, b3, b4, b5⟩, b6⟩ | ⟨q, c1, E, ce, L, ⟨D2, c2, c3, c4, c5⟩, c6⟩
  · exact Or.inl ⟨⟨v, D2, b1, b2, hp D2 b3, b4, b5⟩, b6⟩
  · exact Or.inr ⟨q, c1, E, ce, L, ⟨D2, c2, hp D2 c3, c4, c5⟩, c6⟩
abbrev Rz : Type := (Int × Nat) ⊕ (Int × Nat)
def r_num (b : Int → Int) (n : Nat) (lo hi : Int) (q : Nat) : Rz := if tK b n q = 3 then (if ¬ tL b n q ∧ lo ≤ tV b n q ∧ tV b n q ≤ hi then .inr (tV b n q, tE b n q) else .inl (2, q)) else .inl (1, q)
def r_plc (b : Int → Int) (n T q : Nat) : Rz := if tK b n q = 3 then (if tL b n q then .inl (2, q) else if tV b n q < T then .inr (tV b n q, tE b n q) else .inl (3, q)) else .inl (1, q)
def r_ok (r : Rz) : Int := match r with
  | .inl _ => 0
  | .inr _ => 1
/-- what it has done: a fault told, or a value taken -/
def r_ps (n : Nat) (r : Rz) (D d : xM) : Prop := match r with
  | .inl z => (∀ j, j ≠ 1 → d j = D j) ∧ (∀ i, i < 2 ∨ i = 7 → d 1 i = D 1 i) ∧ d 1 8 = z.1 ∧ d 1 9 = (tS (D 2) n z.2 : Nat)
  | .inr z => rs d n z.2 ∧ r1 D d ∧ d 1 6 = z.1
theorem r_fl_ps {n q : Nat} {w : Int} {D d : xM} (h : d = r_fl w n q D) : r_ps n (.inl (w, q)) D d := by
  subst h
  refine ⟨fun j hj => x_up_n hj, fun i hi => ?_, ?_, ?_⟩
  · show (x_up D 1 _) 1 i = _
    rw [x_up_s, x_u1_n (by omega), x_u1_n (by omega)]
  · show (x_up D 1 _) 1 8 = w
    rw [x_up_s, x_u1_n (by decide), x_u1_s]
  · show (x_up D 1 _) 1 9 = _
    rw [x_up_s, x_u1_s]
theorem r5_num {X : xC} {l : Launch} (hl : l.stackTraces = false) {N : Nat} {sh : xS} {D : xM} {lb n q : Nat} (hR : is_Rd N sh lb) (hs : rs D n q) {a b : Int} (ha : x_r a) (hb : x_r b) : x_M X l yX5_readNumber cX5_readNumber 3 (some .boolean) 2 0 0 [.ref (x_b X + 1), .int (xI a), .int (xI b)] false N sh D (.inl (some (.int (xI (r_ok (r_num (D 2) n a b q)))))) false N sh (r_ps n (r_num (D 2) n a b q) D) := by
  unfold r_num
  by_cases h3 : tK (D 2) n q = 3
  · rw [if_pos h3]
    by_cases hm : ¬ tL (D 2) n q ∧ a ≤ tV (D 2) n q ∧ tV (D 2) n q ≤ b
    · rw [if_pos hm]
      exact r5_readNumberT hl hR hs ha hb ⟨h3, hm⟩
    · rw [if_neg hm]
      exact x_M_post (r5_readNumberF2 hl hR hs ha hb h3 (fun h => hm h.2)) rfl (fun d hd => r_fl_ps hd)
  · rw [if_neg h3]
    exact x_M_post (r5_readNumberF1 hl hR hs ha hb h3) rfl (fun d hd => r_fl_ps hd)
theorem r5_plc {X : xC} {l : Launch} (hl : l.stackTraces = false) {N : Nat} {sh : xS} {D : xM} {lb n q : Nat} (hR : is_Rd N sh lb) (hs : rs D n q) (hL : is_L N sh lb) {T : Nat} (hT : D lb 0 = T) (hT8 : T ≤ 8) : x_M X l yX5_readPlace cX5_readPlace 1 (some .boolean) 2 0 0 [.ref (x_b X + 1)] false N sh D (.inl (some (.int (xI (r_ok (r_plc (D 2) n T q)))))) false N sh (r_ps n (r_plc (D 2) n T q) D) := by
  unfold r_plc
  by_cases h3 : tK (D 2) n q = 3
  · rw [if_pos h3]
    by_cases hm : tL (D 2) n q
    · rw [if_pos hm]
      exact x_M_post (r5_readPlaceF2 hl hR hs hL hT hT8 h3 hm) rfl (fun d hd => r_fl_ps hd)
    · rw [if_neg hm]
      by_cases hv : tV (D 2) n q < T
      · rw [if_pos hv]
        exact r5_readPlaceT hl hR hs hL hT hT8 ⟨h3, hm, hv⟩
      · rw [if_neg hv]
        exact x_M_post (r5_readPlaceF3 hl hR hs hL hT hT8 h3 hm hv) rfl (fun d hd => r_fl_ps hd)
  · rw [if_neg h3]
    exact x_M_post (r5_readPlaceF1 hl hR hs hL hT hT8 h3) rfl (fun d hd => r_fl_ps hd)
end C95
