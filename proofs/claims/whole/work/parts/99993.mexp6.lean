section M99993
/-! ===== the Model's expression is the class's ===== -/
def mep (b : Int → Int) (n : Nat) (r : Rs (List Int)) (D d : xM) : Prop := xf D d ∧ match r with
  | .inl z => (1 ≤ z.1 ∧ z.1 ≤ 5) ∧ d 62 14 = z.1 ∧ d 62 15 = (tS b n z.2 : Nat)
  | .inr w => gs b n w.2 d ∧ d 62 14 = 0 ∧ d 62 29 = ((cod w.1 ++ [0]).length : Nat) ∧ ecl (cod w.1 ++ [0]) (d 79) ∧ (cod w.1 ++ [0]).length ≤ 1400
theorem y1_20 {b : Int → Int} {n q : Nat} {K O : List Int} {F : List Bool} : y1 b n (20, q, K, O, F) = .inr (20, q, K, O, F) := if_pos rfl
theorem ye_exp {b : Int → Int} {n q : Nat} {D d : xM} (hn : n ≤ 700) (hq : q ≤ n) (h : ye b n (2, q, [], [], [false]) D d) : mep b n (r_exp b n 6 q) D d := by
  obtain ⟨hxf, h⟩ := h
  obtain ⟨yl, yr⟩ := yd_all (b := b) hn hq
  refine ⟨hxf, ?_⟩
  obtain ⟨r, hr⟩ : ∃ r, r_exp b n 6 q = r := ⟨_, rfl⟩
  rw [hr]
  cases r with
  | inl z =>
    have hz := yl z hr
    rcases h with ⟨q1, K, O, f, r1, _⟩ | ⟨w, r1, r2, r3, r4⟩
    · exact (rc_ir hz r1 y1_20).elim
    · have e := rc_ii hz r1
      rw [e]
      exact ⟨r2, r3, r4⟩
  | inr w =>
    obtain ⟨L, q'⟩ := w
    obtain ⟨P, O, f, hOP, hpn, hrc⟩ := yr L q' hr
    rcases h with ⟨q1, K, O2, f2, r1, g1, g2, g3, g4, g5, g6⟩ | ⟨w, r1, r2, r3, r4⟩
    · have e := rc_rr hrc r1 y1_20 y1_20
      rw [Prod.mk.injEq, Prod.mk.injEq, Prod.mk.injEq, Prod.mk.injEq] at e
      obtain ⟨-, e1, e2, e3, -⟩ := e
      have hd := dc_dr (p := 0) (K := K) (O := O2) g6
      have hp := dr_pend (p := 0) (K := []) (fun s K' e => by cases e) P O (pn_le (Nat.zero_le _) hpn)
      rw [List.append_nil, e2, e3] at hp
      rw [hp] at hd
      have hc : (dc 0 K (cod O2)).2 = cod L := by rw [hd, ← hOP, e2, e3]
      rw [hc] at g3 g4 g5
      rw [← e1] at g1
      exact ⟨g1, g2, g3, g4, g5⟩
    · exact (rc_ir r1 hrc y1_20).elim
theorem m_exp6 {X : xC} {l : Launch} (hl : l.stackTraces = false) {N : Nat} {sh : xS} {D : xM} (hM : is_Md N sh) {b : Int → Int} {n q : Nat} (hg : gs b n q D) (h14 : D 62 14 = 0) (h29 : D 62 29 = 0) (hq4 : 4 ≤ q) : x_M X l yX12_expression cX12_expression 3 (none) 5 0 0 [.ref (x_b X + 62)] false N sh D (.inl none) false N sh (mep b n (r_exp b n 6 q) D) := x_M_post (m_expr hl hM hg h14 h29 hq4) rfl (fun d h => ye_exp hg.1.2.1 hg.2.1 h)
end M99993
