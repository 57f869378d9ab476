section C991
/-! ===== the rule that is being read ===== -/
theorem ru_add {D : xM} {lb : Nat} {L : List Int} (h : ru_is D lb L) (hn : L.length < 700) {s : Int} : ru_is (x_up (x_up D (lb + 11) (x_u1 (D (lb + 11)) (L.length : Nat) s)) (lb + 10) (x_u1 (x_u1 (D (lb + 10)) 2 ((L.length : Nat) + 1)) 4 (x_B (D (lb + 10) 4 = 1 ∨ s = -6)))) lb (L ++ [s]) := by
  obtain ⟨h1, h2, h3, h4⟩ := h
  refine ⟨?_, ?_, ?_, ?_⟩
  · rw [x_up_s, x_u1_n (by decide), x_u1_s, List.length_append, List.length_singleton]; push_cast; rfl
  · intro i hi
    rw [x_up_n (by omega), x_up_s]
    rw [List.length_append, List.length_singleton] at hi
    by_cases he : i = L.length
    · subst he
      rw [x_u1_s]
      simp [List.getD]
    · rw [x_u1_n (by omega), h2 i (by omega)]
      simp [List.getD, List.getElem?_append_left (show i < L.length by omega)]
  · rw [x_up_s, x_u1_s]
    refine x_B_congr ?_
    rw [h3, List.mem_append, List.mem_singleton]
    constructor
    · rintro (hh | hh)
      · refine Or.inl ?_
        unfold x_B at hh
        split at hh
        · assumption
        · exact absurd hh (by decide)
      · exact Or.inr hh.symm
    · rintro (hh | hh)
      · exact Or.inl (by rw [x_B, if_pos hh])
      · exact Or.inr hh.symm
  · rw [List.length_append, List.length_singleton]; omega
def r2 (lb : Nat) (D d : xM) : Prop := (∀ j, j ≠ 1 → j ≠ lb + 10 → j ≠ lb + 11 → d j = D j) ∧ (∀ i, i < 2 ∨ 6 < i → d 1 i = D 1 i) ∧ d (lb + 10) 3 = D (lb + 10) 3
theorem r2_rf {lb : Nat} {D : xM} : r2 lb D D := ⟨fun _ _ _ _ => rfl, fun _ _ => rfl, rfl⟩
theorem r2_tr {lb : Nat} {D d e : xM} (h : r2 lb D d) (h2 : r2 lb d e) : r2 lb D e := ⟨fun j a b c => by rw [h2.1 j a b c]; exact h.1 j a b c, fun i a => by rw [h2.2.1 i a]; exact h.2.1 i a, by rw [h2.2.2]; exact h.2.2⟩
theorem r2_r1 {lb : Nat} (hlb : 3 ≤ lb) {D d : xM} (h : r1 D d) : r2 lb D d := ⟨fun j a _ _ => h.1 j a, h.2, by rw [h.1 (lb + 10) (by omega)]⟩
theorem ru_r1 {lb : Nat} (hlb : 3 ≤ lb) {D d : xM} {L : List Int} (h : r1 D d) (hu : ru_is D lb L) : ru_is d lb L := by
  unfold ru_is at hu ⊢
  rw [h.1 (lb + 10) (by omega), h.1 (lb + 11) (by omega)]
  exact hu
/-- what reading an expression's part has done -/
def r_px (n lb : Nat) (L0 : List Int) (r : Rs (List Int)) (D d : xM) : Prop := match r with
  | .inl z => (∀ j, j ≠ 1 → j ≠ lb + 10 → j ≠ lb + 11 → d j = D j) ∧ (∀ i, i < 2 ∨ i = 7 → d 1 i = D 1 i) ∧ d 1 8 = z.1 ∧ d 1 9 = (tS (D 2) n z.2 : Nat)
  | .inr z => rs d n z.2 ∧ r2 lb D d ∧ ru_is d lb (L0 ++ z.1)

end C991
