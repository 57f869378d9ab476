section C44
theorem y_ifc {p q : Prop} [Decidable p] [Decidable q] {a b : Int} (h : p ↔ q) : (if p then a else b) = (if q then a else b) := by
  by_cases hp : p
  · rw [if_pos hp, if_pos (h.mp hp)]
  · rw [if_neg hp, if_neg (fun hq => hp (h.mpr hq))]
theorem x_B_congr {p q : Prop} [Decidable p] [Decidable q] (h : p ↔ q) : x_B p = x_B q := by
  unfold x_B
  by_cases hp : p
  · rw [if_pos hp, if_pos (h.mp hp)]
  · rw [if_neg hp, if_neg (fun hq => hp (h.mpr hq))]
abbrev y_fit (G : Ldt) (C : Nat) (f pl sT sD sL : Int → Int) (n : Nat) (c o : Nat) : Prop := ∀ j : Nat, j < n → (if sT j = f (55 + c) then y_crs G C f (fun k => pl (f (55 + c) * 31 + k)) (f (55 + c)) c o (sD j).toNat else pl (sT j * 31 + sD j)) = sL j
abbrev y_is (G : Ldt) (C : Nat) (f pl sT sD sL : Int → Int) (n : Nat) (i : Nat) : Prop := i / 10 < C ∧ s_lies f (i / 10 : Nat) ∧ y_fit G C f pl sT sD sL n (i / 10) (i % 10)
theorem y_fit_iff {d : xM} {co : Nat} {G : Ldt} {C : Nat} {f pl sT sD sL : Int → Int} {n last c o i : Nat} (h1 : d (co + 1) = pl) (h3 : d (co + 3) c = f (55 + c)) (h2 : ∀ k : Nat, k ≤ last → d (co + 2) (((c : Int) * 10 + o) * 31 + k) = y_crs G C f (fun k => pl (f (55 + c) * 31 + k)) (f (55 + c)) c o k) (hs : ∀ j : Nat, j < n → 0 ≤ sD j ∧ sD j ≤ last) (hi : i = c * 10 + o) (ho : o < 10) : u_cfit (d (co + 1)) (d (co + 2)) (d (co + 3)) sT sD sL n i ↔ y_fit G C f pl sT sD sL n c o := by
  have hic : (i : Int) / 10 = c := by omega
  unfold u_cfit y_fit
  rw [hic, h1, h3]
  refine forall_congr' (fun j => forall_congr' (fun hj => ?_))
  obtain ⟨a, b⟩ := hs j hj
  have e : d (co + 2) ((i : Int) * 31 + sD j) = y_crs G C f (fun k => pl (f (55 + c) * 31 + k)) (f (55 + c)) c o (sD j).toNat := by
    rw [← h2 (sD j).toNat (by omega)]
    congr 1
    omega
  rw [e]
theorem y_end {i C : Nat} {z : Int} {P : Prop} [Decidable P] (h : z = if i / 10 < C then x_B (i / 10 < C ∧ P) else 0) : z = x_B (i / 10 < C ∧ P) := by
  rw [h]
  by_cases hc : i / 10 < C
  · rw [if_pos hc]
  · rw [if_neg hc, x_B, if_neg (fun hh => hc hh.1)]
theorem x_B_01 (p : Prop) [Decidable p] : x_B p = 0 ∨ x_B p = 1 := by unfold x_B; split <;> simp
theorem x_01 {f : Int → Int} (h : ∀ j, f j = 0 ∨ f j = 1) {i v : Int} (hv : v = 0 ∨ v = 1) : ∀ j, x_u1 f i v j = 0 ∨ x_u1 f i v j = 1 := by
  intro j
  unfold x_u1
  split
  · exact hv
  · exact h j
theorem w_1_68 : x_cv RX1 68 yX9_lies cX9_lies 2 (some .boolean) 9 1 := ⟨⟨_, rfl, rfl⟩, (x_in 1175 (by decide +kernel) rfl), (x_in 507 (by decide +kernel) rfl), (x_in 508 (by decide +kernel) rfl), (x_in 85 (by decide +kernel) rfl), (x_in 509 (by decide +kernel) rfl), by decide, ⟨by decide +kernel, by decide +kernel, by decide +kernel⟩⟩
theorem w_1_72 : x_cv RX1 72 yX1_layCrate cX1_layCrate 9 (none) 1 4 := ⟨⟨_, rfl, rfl⟩, (x_in 1176 (by decide +kernel) rfl), (x_in 1177 (by decide +kernel) rfl), (x_in 1178 (by decide +kernel) rfl), (x_in 88 (by decide +kernel) rfl), (x_in 1179 (by decide +kernel) rfl), by decide, ⟨by decide +kernel, by decide +kernel, by decide +kernel⟩⟩
theorem w_1_76 : x_cv RX1 76 yX1_courseFits cX1_courseFits 6 (some .boolean) 1 2 := ⟨⟨_, rfl, rfl⟩, (x_in 1182 (by decide +kernel) rfl), (x_in 1183 (by decide +kernel) rfl), (x_in 1184 (by decide +kernel) rfl), (x_in 88 (by decide +kernel) rfl), (x_in 1185 (by decide +kernel) rfl), by decide, ⟨by decide +kernel, by decide +kernel, by decide +kernel⟩⟩
theorem w_3_46 : x_cv RX3 46 yX6_clear cX6_clear 1 (none) 6 0 := ⟨⟨_, rfl, rfl⟩, (x_in 671 (by decide +kernel) rfl), (x_in 672 (by decide +kernel) rfl), (x_in 673 (by decide +kernel) rfl), (x_in 83 (by decide +kernel) rfl), (x_in 674 (by decide +kernel) rfl), by decide, ⟨by decide +kernel, by decide +kernel, by decide +kernel⟩⟩
theorem w_3_49 : x_cv RX3 49 yX7_clear cX7_clear 1 (none) 7 0 := ⟨⟨_, rfl, rfl⟩, (x_in 675 (by decide +kernel) rfl), (x_in 676 (by decide +kernel) rfl), (x_in 677 (by decide +kernel) rfl), (x_in 84 (by decide +kernel) rfl), (x_in 678 (by decide +kernel) rfl), by decide, ⟨by decide +kernel, by decide +kernel, by decide +kernel⟩⟩
theorem w_3_50 : x_cv RX3 50 yX9_clear cX9_clear 2 (none) 9 0 := ⟨⟨_, rfl, rfl⟩, (x_in 679 (by decide +kernel) rfl), (x_in 680 (by decide +kernel) rfl), (x_in 681 (by decide +kernel) rfl), (x_in 85 (by decide +kernel) rfl), (x_in 682 (by decide +kernel) rfl), by decide, ⟨by decide +kernel, by decide +kernel, by decide +kernel⟩⟩
theorem c1_all {X : xC} {l : Launch} (hl : l.stackTraces = false) {N : Nat} {sh : xS} {D : xM} {co : Nat} (hco : is_Co N sh co) (hok : co_ok D co) {nr na : Nat} (hs : is_St N sh nr na) {la T C : Nat} (hL : is_L N sh la) {G : Ldt} (hG : ldG D la T C G) (hsep : na < la ∨ la + 14 < na) (hsc : co + 8 < la ∨ la + 14 < co) (hnc : na < co ∨ co + 8 < na) {B : Int} (hk : s_ok B (D na)) (hB : B ≤ 700000) {se n : Nat} (hE : is_Se N sh se) (hse : se_ok D se n) (hec : se + 3 < co ∨ co + 8 < se) (hel : se + 3 < la ∨ la + 14 < se) {last : Nat} (hl30 : last ≤ 30) (hls : ∀ j : Nat, j < n → D (se + 2) j ≤ last) : x_M X l yX1_layAll cX1_layAll 7 (none) 7 0 0 [.ref (x_b X + co), .ref (x_b X + la), .ref (x_b X + nr), .ref (x_b X + se), .int (xI (last : Int))] false N sh D (.inl none) false N sh (fun d => (∀ c2 : Nat, c2 < C → s_lies (D na) (c2 : Nat) → (d (co + 3) ((c2 : Nat) : Int) = D na (55 + (c2 : Nat)) ∧ ∀ o k : Nat, o < 10 → k ≤ last → d (co + 2) ((((c2 : Nat) : Int) * 10 + o) * 31 + k) = y_crs G C (D na) (fun k => (D (co + 1)) (D na (55 + (c2 : Nat)) * 31 + k)) (D na (55 + (c2 : Nat))) (c2 : Nat) o k)) ∧ (∀ i : Nat, i < 100 → d (co + 4) i = x_B (y_is G C (D na) (D (co + 1)) (D (se + 1)) (D (se + 2)) (D (se + 3)) n i)) ∧ co_ok d co ∧ (∀ j, x_r (d (la + 12) j)) ∧ (∀ j, j ≠ co + 2 → j ≠ co + 3 → j ≠ co + 4 → j ≠ co + 6 → j ≠ co + 8 → j ≠ la + 12 → d j = D j)) := by
  obtain ⟨hco8, hc0, hk1, hk2, hk3, hk4, hS5, hS7⟩ := id hco
  have hcoN : co < N := by omega
  have hcN1 : co + 1 < N := by omega
  have hcN2 : co + 2 < N := by omega
  have hcN3 : co + 3 < N := by omega
  have hcN4 : co + 4 < N := by omega
  obtain ⟨hcN5, hk5, hcN6, hk6⟩ := id hS5
  obtain ⟨hcN7, hk7, hcN8, hk8⟩ := id hS7
  obtain ⟨b1, b2, b3, b4⟩ := id hok
  obtain ⟨hrN, hr, haN, ha⟩ := id hs
  obtain ⟨hlaN0, hla, -⟩ := id hL
  have hlaN : la < N := by omega
  obtain ⟨hG1, hG2, hG3⟩ := ldG_G hG
  obtain ⟨n0, ⟨q1, q2, q3, q4, -⟩, -⟩ := id hG
  have hB0 : 0 ≤ B := by have := (hk 0).1 rfl; omega
  obtain ⟨hse3, hse0, hs1, hs2, hs3⟩ := id hE
  have hseN : se < N := by omega
  have hs1N : se + 1 < N := by omega
  have hs2N : se + 2 < N := by omega
  have hs3N : se + 3 < N := by omega
  obtain ⟨e0, e1, e2⟩ := id hse
  refine x_ofW (by decide +kernel) hl (by simp [Value.category]) (by simp) ?_
  have hsd : ∀ j : Nat, j < n → 0 ≤ (D (se + 2)) j ∧ (D (se + 2)) j ≤ last := fun j hj => ⟨(e2 j (by omega) (by omega)).2.1.1, hls j hj⟩
  have hloop : ∀ c : Nat, c ≤ C → ∀ d : xM, (∀ c2 : Nat, c2 < c → s_lies (D na) (c2 : Nat) → (d (co + 3) ((c2 : Nat) : Int) = D na (55 + (c2 : Nat)) ∧ ∀ o k : Nat, o < 10 → k ≤ last → d (co + 2) ((((c2 : Nat) : Int) * 10 + o) * 31 + k) = y_crs G C (D na) (fun k => (D (co + 1)) (D na (55 + (c2 : Nat)) * 31 + k)) (D na (55 + (c2 : Nat))) (c2 : Nat) o k)) → (∀ i : Nat, i < 100 → d (co + 4) i = if i / 10 < c then x_B (y_is G C (D na) (D (co + 1)) (D (se + 1)) (D (se + 2)) (D (se + 3)) n i) else 0) → co_ok d co → (∀ j, x_r (d (la + 12) j)) → (∀ j, j ≠ co + 2 → j ≠ co + 3 → j ≠ co + 4 → j ≠ co + 6 → j ≠ co + 8 → j ≠ la + 12 → d j = D j) → x_W (X, l, yX1_layAll, cX1_layAll, 7, none, x_room 7 0 0, 0, 0, (.inl none), N, sh, (fun d => (∀ c2 : Nat, c2 < C → s_lies (D na) (c2 : Nat) → (d (co + 3) ((c2 : Nat) : Int) = D na (55 + (c2 : Nat)) ∧ ∀ o k : Nat, o < 10 → k ≤ last → d (co + 2) ((((c2 : Nat) : Int) * 10 + o) * 31 + k) = y_crs G C (D na) (fun k => (D (co + 1)) (D na (55 + (c2 : Nat)) * 31 + k)) (D na (55 + (c2 : Nat))) (c2 : Nat) o k)) ∧ (∀ i : Nat, i < 100 → d (co + 4) i = x_B (y_is G C (D na) (D (co + 1)) (D (se + 1)) (D (se + 2)) (D (se + 3)) n i)) ∧ co_ok d co ∧ (∀ j, x_r (d (la + 12) j)) ∧ (∀ j, j ≠ co + 2 → j ≠ co + 3 → j ≠ co + 4 → j ≠ co + 6 → j ≠ co + 8 → j ≠ la + 12 → d j = D j)), false, []) 27 [some (.ref (x_b X + co)), some (.ref (x_b X + la)), some (.ref (x_b X + nr)), some (.ref (x_b X + se)), some (.int (xI (last : Int))), some (.int (xI (c : Int))), none] [] 0 0 false N sh d := by
    refine x_down C ?_ ?_
    · intro d p1 p2 p3 p4 p5
      refine x_iload dX1_layAll_27 x_get_7_5 ?_
      refine x_aload_n dX1_layAll_29 x_get_7_1 ?_
      refine x_getI 1 dX1_layAll_30 fX_1_65 rfl (by assumption) (by assumption) (by rfl) ?_
      rw [p5 la (by omega) (by omega) (by omega) (by omega) (by omega) (by omega), q3]
      refine r_icmp_ge (t := 117) dX1_layAll_33 rfl ⟨by omega, by omega⟩ ⟨by omega, by omega⟩ (fun hc33 => ?_) (fun hc33 => absurd hc33 (by omega))
      exact x_vret dX1_layAll_117 rfl (Nat.le_of_ble_eq_true rfl) (Nat.le_of_ble_eq_true rfl) rfl rfl rfl ⟨p1, fun i hi => y_end (p2 i hi), p3, p4, p5⟩ rfl
    · intro c hc ih d p1 p2 p3 p4 p5
      have ena : d na = D na := p5 na (by omega) (by omega) (by omega) (by omega) (by omega) (by omega)
      have ec1 : d (co + 1) = D (co + 1) := p5 _ (by omega) (by omega) (by omega) (by omega) (by omega) (by omega)
      have hkd : s_ok B (d na) := by rw [ena]; exact hk
      obtain ⟨g1, g2, g3, g4⟩ := id p3
      have nx : ∀ d : xM, (∀ c2 : Nat, c2 < (c + 1) → s_lies (D na) (c2 : Nat) → (d (co + 3) ((c2 : Nat) : Int) = D na (55 + (c2 : Nat)) ∧ ∀ o k : Nat, o < 10 → k ≤ last → d (co + 2) ((((c2 : Nat) : Int) * 10 + o) * 31 + k) = y_crs G C (D na) (fun k => (D (co + 1)) (D na (55 + (c2 : Nat)) * 31 + k)) (D na (55 + (c2 : Nat))) (c2 : Nat) o k)) → (∀ i : Nat, i < 100 → d (co + 4) i = if i / 10 < (c + 1) then x_B (y_is G C (D na) (D (co + 1)) (D (se + 1)) (D (se + 2)) (D (se + 3)) n i) else 0) → co_ok d co → (∀ j, x_r (d (la + 12) j)) → (∀ j, j ≠ co + 2 → j ≠ co + 3 → j ≠ co + 4 → j ≠ co + 6 → j ≠ co + 8 → j ≠ la + 12 → d j = D j) → x_W (X, l, yX1_layAll, cX1_layAll, 7, none, x_room 7 0 0, 0, 0, (.inl none), N, sh, (fun d => (∀ c2 : Nat, c2 < C → s_lies (D na) (c2 : Nat) → (d (co + 3) ((c2 : Nat) : Int) = D na (55 + (c2 : Nat)) ∧ ∀ o k : Nat, o < 10 → k ≤ last → d (co + 2) ((((c2 : Nat) : Int) * 10 + o) * 31 + k) = y_crs G C (D na) (fun k => (D (co + 1)) (D na (55 + (c2 : Nat)) * 31 + k)) (D na (55 + (c2 : Nat))) (c2 : Nat) o k)) ∧ (∀ i : Nat, i < 100 → d (co + 4) i = x_B (y_is G C (D na) (D (co + 1)) (D (se + 1)) (D (se + 2)) (D (se + 3)) n i)) ∧ co_ok d co ∧ (∀ j, x_r (d (la + 12) j)) ∧ (∀ j, j ≠ co + 2 → j ≠ co + 3 → j ≠ co + 4 → j ≠ co + 6 → j ≠ co + 8 → j ≠ la + 12 → d j = D j)), false, []) 111 [some (.ref (x_b X + co)), some (.ref (x_b X + la)), some (.ref (x_b X + nr)), some (.ref (x_b X + se)), some (.int (xI (last : Int))), some (.int (xI (c : Int))), none] [] 0 0 false N sh d := by
        intro d p1 p2 p3 p4 p5
        refine x_iinc dX1_layAll_111 x_get_7_5 (Nat.le_of_ble_eq_true rfl) rfl x_set_7_5 ?_
        refine x_goto (t := 27) dX1_layAll_114 rfl ?_
        exact ih d p1 p2 p3 p4 p5
      have l2 : s_lies (D na) (c : Nat) → ∀ e : Nat, e ≤ 10 → ∀ d : xM, (∀ c2 : Nat, c2 < (c + 1) → s_lies (D na) (c2 : Nat) → (d (co + 3) ((c2 : Nat) : Int) = D na (55 + (c2 : Nat)) ∧ ∀ o k : Nat, o < 10 → k ≤ last → d (co + 2) ((((c2 : Nat) : Int) * 10 + o) * 31 + k) = y_crs G C (D na) (fun k => (D (co + 1)) (D na (55 + (c2 : Nat)) * 31 + k)) (D na (55 + (c2 : Nat))) (c2 : Nat) o k)) → (∀ i2 : Nat, i2 < 100 → d (co + 4) i2 = if i2 / 10 < c ∨ (i2 / 10 = c ∧ i2 < c * 10 + (10 - e)) then x_B (y_is G C (D na) (D (co + 1)) (D (se + 1)) (D (se + 2)) (D (se + 3)) n i2) else 0) → co_ok d co → (∀ j, x_r (d (la + 12) j)) → (∀ j, j ≠ co + 2 → j ≠ co + 3 → j ≠ co + 4 → j ≠ co + 6 → j ≠ co + 8 → j ≠ la + 12 → d j = D j) → x_W (X, l, yX1_layAll, cX1_layAll, 7, none, x_room 7 0 0, 0, 0, (.inl none), N, sh, (fun d => (∀ c2 : Nat, c2 < C → s_lies (D na) (c2 : Nat) → (d (co + 3) ((c2 : Nat) : Int) = D na (55 + (c2 : Nat)) ∧ ∀ o k : Nat, o < 10 → k ≤ last → d (co + 2) ((((c2 : Nat) : Int) * 10 + o) * 31 + k) = y_crs G C (D na) (fun k => (D (co + 1)) (D na (55 + (c2 : Nat)) * 31 + k)) (D na (55 + (c2 : Nat))) (c2 : Nat) o k)) ∧ (∀ i : Nat, i < 100 → d (co + 4) i = x_B (y_is G C (D na) (D (co + 1)) (D (se + 1)) (D (se + 2)) (D (se + 3)) n i)) ∧ co_ok d co ∧ (∀ j, x_r (d (la + 12) j)) ∧ (∀ j, j ≠ co + 2 → j ≠ co + 3 → j ≠ co + 4 → j ≠ co + 6 → j ≠ co + 8 → j ≠ la + 12 → d j = D j)), false, []) 79 [some (.ref (x_b X + co)), some (.ref (x_b X + la)), some (.ref (x_b X + nr)), some (.ref (x_b X + se)), some (.int (xI (last : Int))), some (.int (xI (c : Int))), some (.int (xI ((c * 10 + (10 - e) : Nat) : Int)))] [] 0 0 false N sh d := by
        intro hlie e
        induction e with
        | zero =>
          intro _ d p1 p2 p3 p4 p5
          refine x_iload dX1_layAll_79 x_get_7_6 ?_
          refine x_iload dX1_layAll_81 x_get_7_5 ?_
          refine x_iconst dX1_layAll_83 ?_
          refine x_iadd dX1_layAll_84 ?_
          refine x_bipush dX1_layAll_85 rfl ?_
          refine x_imul dX1_layAll_87 ?_
          refine r_icmp_ge (t := 111) dX1_layAll_88 rfl ⟨by omega, by omega⟩ ⟨by omega, by omega⟩ (fun hc88 => ?_) (fun hc88 => absurd hc88 (by omega))
          refine x_forget 6 ?_
          exact nx d p1 (fun i hi => by rw [p2 i hi]; exact y_ifc (by omega)) p3 p4 p5
        | succ e ihe =>
          intro he d p1 p2 p3 p4 p5
          have hse2 : se_ok d se n := by
            unfold se_ok
            rw [p5 se (by omega) (by omega) (by omega) (by omega) (by omega) (by omega), p5 (se + 1) (by omega) (by omega) (by omega) (by omega) (by omega) (by omega), p5 (se + 2) (by omega) (by omega) (by omega) (by omega) (by omega) (by omega), p5 (se + 3) (by omega) (by omega) (by omega) (by omega) (by omega) (by omega)]
            exact hse
          obtain ⟨r1, r2⟩ := p1 c (by omega) hlie
          have hiff : u_cfit (d (co + 1)) (d (co + 2)) (d (co + 3)) (d (se + 1)) (d (se + 2)) (d (se + 3)) n ((c * 10 + (10 - (e + 1)) : Nat) : Int) ↔ y_is G C (D na) (D (co + 1)) (D (se + 1)) (D (se + 2)) (D (se + 3)) n (c * 10 + (10 - (e + 1))) := by
            rw [p5 (se + 1) (by omega) (by omega) (by omega) (by omega) (by omega) (by omega), p5 (se + 2) (by omega) (by omega) (by omega) (by omega) (by omega) (by omega), p5 (se + 3) (by omega) (by omega) (by omega) (by omega) (by omega) (by omega)]
            have e1 : (c * 10 + (10 - (e + 1))) / 10 = c := by omega
            have e2 : (c * 10 + (10 - (e + 1))) % 10 = 10 - (e + 1) := by omega
            unfold y_is
            rw [e1, e2, y_fit_iff (p5 (co + 1) (by omega) (by omega) (by omega) (by omega) (by omega) (by omega)) r1 (fun k hk => r2 _ k (by omega) hk) hsd rfl (by omega)]
            exact ⟨fun h => ⟨hc, hlie, h⟩, fun h => h.2.2⟩
          refine x_iload dX1_layAll_79 x_get_7_6 ?_
          refine x_iload dX1_layAll_81 x_get_7_5 ?_
          refine x_iconst dX1_layAll_83 ?_
          refine x_iadd dX1_layAll_84 ?_
          refine x_bipush dX1_layAll_85 rfl ?_
          refine x_imul dX1_layAll_87 ?_
          refine r_icmp_ge (t := 111) dX1_layAll_88 rfl ⟨by omega, by omega⟩ ⟨by omega, by omega⟩ (fun hc88 => absurd hc88 (by omega)) (fun hc88 => ?_)
          refine x_aload_n dX1_layAll_91 x_get_7_0 ?_
          refine x_getR dX1_layAll_92 fX_1_21 (by assumption) (by assumption) (by rfl) ?_
          refine x_iload dX1_layAll_95 x_get_7_6 ?_
          refine x_aload_n dX1_layAll_97 x_get_7_0 ?_
          refine x_iload dX1_layAll_98 x_get_7_6 ?_
          refine x_aload_n dX1_layAll_100 x_get_7_3 ?_
          refine x_callV (As := [_, _]) dX1_layAll_101 w_1_76 (c1_cfit hl hco p3 hE hse2 (by omega) (by omega)) (by assumption) (by assumption) rfl rfl (Nat.le_of_ble_eq_true rfl) (Nat.le_of_ble_eq_true rfl) (Nat.le_of_ble_eq_true rfl) (Nat.le_of_ble_eq_true rfl) (Nat.le_of_ble_eq_true rfl) ?_
          intro d hd
          obtain rfl := Eq.symm hd
          refine x_zast dX1_layAll_104 (by assumption) (by assumption) (by omega) (by omega) (by decide) (x_B_01 _) ?_
          refine x_iinc dX1_layAll_105 x_get_7_6 (Nat.le_of_ble_eq_true rfl) rfl x_set_7_6 ?_
          refine x_goto (t := 79) dX1_layAll_108 rfl ?_
          have ihx := ihe (by omega)
          rw [show c * 10 + (10 - e) = c * 10 + (10 - (e + 1)) + 1 by omega] at ihx
          refine ihx _ ?_ ?_ ?_ ?_ ?_
          · intro c2 h1 h2
            rw [x_up_n (by omega), x_up_n (by omega)]
            exact p1 c2 h1 h2
          · intro i2 h2
            rw [x_up_s]
            by_cases e : i2 = c * 10 + (10 - (e + 1))
            · rw [e, x_u1_s, if_pos (by omega)]
              exact x_B_congr hiff
            · rw [x_u1_n (by omega), p2 i2 h2]
              exact y_ifc (by omega)
          · exact ⟨by rw [x_up_n (by omega)]; exact p3.1, by rw [x_up_n (by omega)]; exact p3.2.1, by rw [x_up_n (by omega)]; exact p3.2.2.1, by rw [x_up_s]; exact x_01 p3.2.2.2 (x_B_01 _)⟩
          · rw [x_up_n (by omega)]; exact p4
          · intro j a1 a2 a3 a4 a5 a6
            rw [x_up_n a3]
            exact p5 j a1 a2 a3 a4 a5 a6
      have H : s_lies (D na) (c : Nat) → x_M X l yX1_layCrate cX1_layCrate 9 none 6 0 0 [.ref (x_b X + co), .ref (x_b X + la), .ref (x_b X + nr), .int (xI (c : Int)), .int (xI (last : Int))] false N sh (x_up d (co + 3) (x_u1 (d (co + 3)) (c : Int) (D na (55 + (c : Int))))) (.inl none) false N sh (fun d2 => (∀ o k : Nat, o < 10 → k ≤ last → d2 (co + 2) (((c : Int) * 10 + o) * 31 + k) = y_crs G C (D na) (fun k => (D (co + 1)) (D na (55 + (c : Nat)) * 31 + k)) (D na (55 + (c : Nat))) (c : Nat) o k) ∧ (∀ j : Int, j < (c : Int) * 310 ∨ (c : Int) * 310 + 310 ≤ j → d2 (co + 2) j = d (co + 2) j) ∧ (∀ j, 0 ≤ d2 (co + 2) j ∧ d2 (co + 2) j ≤ 9999) ∧ (∀ j, x_r (d2 (la + 12) j)) ∧ (∀ j, j ≠ co + 2 → j ≠ co + 6 → j ≠ co + 8 → j ≠ la + 12 → d2 j = (x_up d (co + 3) (x_u1 (d (co + 3)) (c : Int) (D na (55 + (c : Int))))) j)) := by
        intro hlie
        have hpl : 0 ≤ D na (55 + (c : Int)) := by
          have h1 := (s_cr hk (c := (c : Int)) (by omega) (by omega)).2.2.2.1
          have h2 := hlie.1
          omega
        have hp7 := (s_cr hk (c := (c : Int)) (by omega) (by omega)).2.2.2.1.2
        have h := c1_crate (X := X) hl hco (D := (x_up d (co + 3) (x_u1 (d (co + 3)) (c : Int) (D na (55 + (c : Int)))))) ⟨by rw [x_up_n (by omega)]; exact g1, by rw [x_up_n (by omega)]; exact g2, by rw [x_up_s]; exact m_ok_u1 g3 hpl hp7, by rw [x_up_n (by omega)]; exact g4⟩ hs hL (ldG_of hG (fun j a1 a2 => by rw [x_up_n (by omega)]; exact p5 j (by omega) (by omega) (by omega) (by omega) (by omega) (by omega)) (by rw [x_up_n (by omega)]; exact p4)) hsep hsc hnc (B := B) (by rw [x_up_n (by omega)]; exact hkd) hB hl30 (c := (c : Int)) (by omega) (by omega) (by rw [x_up_s, x_u1_s, x_up_n (by omega), ena]) (by rw [x_up_n (by omega), ena]; exact hpl)
        rw [x_up_n (show na ≠ co + 3 by omega), ena, x_up_n (show co + 1 ≠ co + 3 by omega), ec1, x_up_n (show co + 2 ≠ co + 3 by omega)] at h
        exact h
      refine x_iload dX1_layAll_27 x_get_7_5 ?_
      refine x_aload_n dX1_layAll_29 x_get_7_1 ?_
      refine x_getI 1 dX1_layAll_30 fX_1_65 rfl (by assumption) (by assumption) (by rfl) ?_
      first | rw [p5 la (by omega) (by omega) (by omega) (by omega) (by omega) (by omega), q3] | rw [ena]
      refine r_icmp_ge (t := 117) dX1_layAll_33 rfl ⟨by omega, by omega⟩ ⟨by omega, by omega⟩ (fun hc33 => absurd hc33 (by omega)) (fun hc33 => ?_)
      refine x_aload_n dX1_layAll_36 x_get_7_2 ?_
      refine x_iload dX1_layAll_37 x_get_7_5 ?_
      refine x_callV (As := [_]) dX1_layAll_39 w_1_68 (c9_lies hl hs (B := B) (by omega) hkd (c := (c : Int)) (by omega) (by omega)) (by assumption) (by assumption) rfl rfl (Nat.le_of_ble_eq_true rfl) (Nat.le_of_ble_eq_true rfl) (Nat.le_of_ble_eq_true rfl) (Nat.le_of_ble_eq_true rfl) (Nat.le_of_ble_eq_true rfl) ?_
      intro d1 hd1
      obtain rfl := Eq.symm hd1
      rw [ena]
      refine b_ifeq (t := 111) dX1_layAll_42 rfl (fun hc42 => ?_) (fun hc42 => ?_)
      · exact nx d (fun c2 h1 h2 => by
          by_cases e : c2 = c
          · subst e; exact absurd h2 hc42
          · exact p1 c2 (by omega) h2) (fun i hi => by
          rw [p2 i hi]
          by_cases e : i / 10 = c
          · rw [if_neg (by omega), if_pos (by omega), x_B, if_neg (fun hh => hc42 (by have := hh.2.1; rw [e] at this; exact this))]
          · exact y_ifc (by omega)) p3 p4 p5
      · refine x_aload_n dX1_layAll_45 x_get_7_0 ?_
        refine x_getR dX1_layAll_46 fX_1_18 (by assumption) (by assumption) (by rfl) ?_
        refine x_iload dX1_layAll_49 x_get_7_5 ?_
        refine x_aload_n dX1_layAll_51 x_get_7_2 ?_
        refine x_getR dX1_layAll_52 fX_1_45 (by assumption) (by assumption) (by rfl) ?_
        refine x_bipush dX1_layAll_55 rfl ?_
        refine x_iload dX1_layAll_57 x_get_7_5 ?_
        refine x_iadd dX1_layAll_59 ?_
        refine x_iald dX1_layAll_60 (by assumption) (by assumption) (by omega) (by omega) (by decide) ?_
        first | rw [p5 la (by omega) (by omega) (by omega) (by omega) (by omega) (by omega), q3] | rw [ena]
        refine x_iast dX1_layAll_61 (by assumption) (by assumption) (by omega) (by omega) (by decide) ?_
        refine x_aload_n dX1_layAll_62 x_get_7_0 ?_
        refine x_aload_n dX1_layAll_63 x_get_7_1 ?_
        refine x_aload_n dX1_layAll_64 x_get_7_2 ?_
        refine x_iload dX1_layAll_65 x_get_7_5 ?_
        refine x_iload dX1_layAll_67 x_get_7_4 ?_
        refine x_callV (As := [_, _, _, _]) dX1_layAll_69 w_1_72 (H hc42) (by assumption) (by assumption) rfl rfl (Nat.le_of_ble_eq_true rfl) (Nat.le_of_ble_eq_true rfl) (Nat.le_of_ble_eq_true rfl) (Nat.le_of_ble_eq_true rfl) (Nat.le_of_ble_eq_true rfl) ?_
        rintro d2 ⟨s1, s2, s3, s4, s5⟩
        refine x_iload dX1_layAll_72 x_get_7_5 ?_
        refine x_bipush dX1_layAll_74 rfl ?_
        refine x_imul dX1_layAll_76 ?_
        refine x_istore dX1_layAll_77 (Nat.le_of_ble_eq_true rfl) rfl x_set_7_6 ?_
        have l2x := l2 hc42 10 (Nat.le_refl _)
        rw [show c * 10 + (10 - 10) = c * 10 by omega] at l2x
        refine l2x d2 ?_ ?_ ?_ ?_ ?_
        · intro c2 h1 h2
          rw [s5 (co + 3) (by omega) (by omega) (by omega) (by omega), x_up_s]
          by_cases e : c2 = c
          · rw [e, x_u1_s]
            exact ⟨rfl, s1⟩
          · rw [x_u1_n (by omega)]
            obtain ⟨u1, u2⟩ := p1 c2 (by omega) h2
            refine ⟨u1, fun o k ho hk2 => ?_⟩
            rw [s2 _ (by omega)]
            exact u2 o k ho hk2
        · intro i2 h2
          rw [s5 (co + 4) (by omega) (by omega) (by omega) (by omega), x_up_n (by omega), p2 i2 h2]
          exact y_ifc (by omega)
        · refine ⟨?_, s3, ?_, ?_⟩
          · rw [s5 (co + 1) (by omega) (by omega) (by omega) (by omega), x_up_n (by omega)]; exact g1
          · rw [s5 (co + 3) (by omega) (by omega) (by omega) (by omega), x_up_s]
            have h1 := (s_cr hk (c := (c : Int)) (by omega) (by omega)).2.2.2.1
            exact m_ok_u1 g3 (by have h2 := hc42.1; omega) h1.2
          · rw [s5 (co + 4) (by omega) (by omega) (by omega) (by omega), x_up_n (by omega)]; exact g4
        · exact s4
        · intro j a1 a2 a3 a4 a5 a6
          rw [s5 j a1 a4 a5 a6, x_up_n a2]
          exact p5 j a1 a2 a3 a4 a5 a6
  have l1 : ∀ i : Nat, i ≤ 100 → ∀ d : xM, (∀ j : Int, 0 ≤ j → j < i → d (co + 4) j = 0) → co_ok d co → (∀ j, x_r (d (la + 12) j)) → (∀ j, j ≠ co + 2 → j ≠ co + 3 → j ≠ co + 4 → j ≠ co + 6 → j ≠ co + 8 → j ≠ la + 12 → d j = D j) → x_W (X, l, yX1_layAll, cX1_layAll, 7, none, x_room 7 0 0, 0, 0, (.inl none), N, sh, (fun d => (∀ c2 : Nat, c2 < C → s_lies (D na) (c2 : Nat) → (d (co + 3) ((c2 : Nat) : Int) = D na (55 + (c2 : Nat)) ∧ ∀ o k : Nat, o < 10 → k ≤ last → d (co + 2) ((((c2 : Nat) : Int) * 10 + o) * 31 + k) = y_crs G C (D na) (fun k => (D (co + 1)) (D na (55 + (c2 : Nat)) * 31 + k)) (D na (55 + (c2 : Nat))) (c2 : Nat) o k)) ∧ (∀ i : Nat, i < 100 → d (co + 4) i = x_B (y_is G C (D na) (D (co + 1)) (D (se + 1)) (D (se + 2)) (D (se + 3)) n i)) ∧ co_ok d co ∧ (∀ j, x_r (d (la + 12) j)) ∧ (∀ j, j ≠ co + 2 → j ≠ co + 3 → j ≠ co + 4 → j ≠ co + 6 → j ≠ co + 8 → j ≠ la + 12 → d j = D j)), false, []) 3 [some (.ref (x_b X + co)), some (.ref (x_b X + la)), some (.ref (x_b X + nr)), some (.ref (x_b X + se)), some (.int (xI (last : Int))), some (.int (xI (i : Int))), none] [] 0 0 false N sh d := by
    refine x_down 100 ?_ ?_
    · intro d p2 p3 p4 p5
      refine x_iload dX1_layAll_3 x_get_7_5 ?_
      refine x_bipush dX1_layAll_5 rfl ?_
      refine r_icmp_ge (t := 24) dX1_layAll_7 rfl ⟨by omega, by omega⟩ ⟨by omega, by omega⟩ (fun hc7 => ?_) (fun hc7 => absurd hc7 (by omega))
      refine x_iconst dX1_layAll_24 ?_
      refine x_istore dX1_layAll_25 (Nat.le_of_ble_eq_true rfl) rfl x_set_7_5 ?_
      exact hloop 0 (Nat.zero_le _) d (fun c2 h => by omega) (fun i hi => by rw [p2 i (by omega) (by omega), if_neg (by omega)]) p3 p4 p5
    · intro i hi ih d p2 p3 p4 p5
      refine x_iload dX1_layAll_3 x_get_7_5 ?_
      refine x_bipush dX1_layAll_5 rfl ?_
      refine r_icmp_ge (t := 24) dX1_layAll_7 rfl ⟨by omega, by omega⟩ ⟨by omega, by omega⟩ (fun hc7 => absurd hc7 (by omega)) (fun hc7 => ?_)
      refine x_aload_n dX1_layAll_10 x_get_7_0 ?_
      refine x_getR dX1_layAll_11 fX_1_21 (by assumption) (by assumption) (by rfl) ?_
      refine x_iload dX1_layAll_14 x_get_7_5 ?_
      refine x_iconst dX1_layAll_16 ?_
      refine x_zast dX1_layAll_17 (by assumption) (by assumption) (by omega) (by omega) (by decide) (Or.inl rfl) ?_
      refine x_iinc dX1_layAll_18 x_get_7_5 (Nat.le_of_ble_eq_true rfl) rfl x_set_7_5 ?_
      refine x_goto (t := 3) dX1_layAll_21 rfl ?_
      refine ih _ ?_ ?_ ?_ ?_
      · intro j h1 h2
        rw [x_up_s]
        by_cases e : j = i
        · rw [e, x_u1_s]
        · rw [x_u1_n e]; exact p2 j h1 (by omega)
      · exact ⟨by rw [x_up_n (by omega)]; exact p3.1, by rw [x_up_n (by omega)]; exact p3.2.1, by rw [x_up_n (by omega)]; exact p3.2.2.1, by rw [x_up_s]; exact x_01 p3.2.2.2 (Or.inl rfl)⟩
      · rw [x_up_n (by omega)]; exact p4
      · intro j a1 a2 a3 a4 a5 a6
        rw [x_up_n a3]
        exact p5 j a1 a2 a3 a4 a5 a6
  refine x_iconst dX1_layAll_0 ?_
  refine x_istore dX1_layAll_1 (Nat.le_of_ble_eq_true rfl) rfl x_set_7_5 ?_
  exact l1 0 (Nat.zero_le _) D (fun j a b => by omega) hok (ldG_w hG) (fun j _ _ _ _ _ _ => rfl)
theorem c3_clear {X : xC} {l : Launch} (hl : l.stackTraces = false) {N : Nat} {sh : xS} {D : xM} {la : Nat} (hL : is_L N sh la) : x_M X l yX3_clear cX3_clear 1 (none) 2 0 0 [.ref (x_b X + la)] false N sh D (.inl none) false N sh (x_is (x_up (x_up (x_up (x_up D la (x_u1 (x_u1 (D la) 0 0) 1 0)) (la + 3) (x_u1 (x_u1 (D (la + 3)) 0 0) 1 0)) (la + 10) (x_u1 (x_u1 (x_u1 (D (la + 10)) 2 0) 3 0) 4 0)) (la + 14) (fun _ => 0))) := by
  obtain ⟨hlN, hl0, hl1, hl2, hlro, -, hlru, -, -, hlst, hlce⟩ := id hL
  have hlaN : la < N := by omega
  have hlN1 : la + 1 < N := by omega
  have hlN2 : la + 2 < N := by omega
  have hlN3 : la + 3 < N := by omega
  have hlN10 : la + 10 < N := by omega
  have hlN13 : la + 13 < N := by omega
  have hlN14 : la + 14 < N := by omega
  refine x_ofW (by decide +kernel) hl (by simp [Value.category]) (by simp) ?_
  refine x_aload_n dX3_clear_0 x_get_1_0 ?_
  refine x_iconst dX3_clear_1 ?_
  refine x_putI 0 dX3_clear_2 fX_3_9 rfl tX_3_0 (by assumption) (by assumption) (by rfl) ?_
  refine x_aload_n dX3_clear_5 x_get_1_0 ?_
  refine x_iconst dX3_clear_6 ?_
  refine x_putI 1 dX3_clear_7 fX_3_15 rfl tX_3_1 (by assumption) (by assumption) (by rfl) ?_
  refine x_aload_n dX3_clear_10 x_get_1_0 ?_
  refine x_getR dX3_clear_11 fX_3_28 (by assumption) (by assumption) (by rfl) ?_
  refine x_callV (As := []) dX3_clear_14 w_3_46 (c6_clear hl (is_L_ro hL)) (by assumption) (by assumption) rfl rfl (Nat.le_of_ble_eq_true rfl) (Nat.le_of_ble_eq_true rfl) (Nat.le_of_ble_eq_true rfl) (Nat.le_of_ble_eq_true rfl) (Nat.le_of_ble_eq_true rfl) ?_
  intro d hd
  obtain rfl := Eq.symm hd
  simp (disch := omega) only [x_up_up, x_up_n, x_up_s]
  refine x_aload_n dX3_clear_17 x_get_1_0 ?_
  refine x_getR dX3_clear_18 fX_3_35 (by assumption) (by assumption) (by rfl) ?_
  refine x_callV (As := []) dX3_clear_21 w_3_49 (c7_clear hl (is_L_ru hL)) (by assumption) (by assumption) rfl rfl (Nat.le_of_ble_eq_true rfl) (Nat.le_of_ble_eq_true rfl) (Nat.le_of_ble_eq_true rfl) (Nat.le_of_ble_eq_true rfl) (Nat.le_of_ble_eq_true rfl) ?_
  intro d hd
  obtain rfl := Eq.symm hd
  simp (disch := omega) only [x_up_up, x_up_n, x_up_s]
  refine x_aload_n dX3_clear_24 x_get_1_0 ?_
  refine x_getR dX3_clear_25 fX_3_42 (by assumption) (by assumption) (by rfl) ?_
  refine x_callV (As := []) dX3_clear_28 w_3_50 (c9_clear2 hl (is_L_st hL)) (by assumption) (by assumption) rfl rfl (Nat.le_of_ble_eq_true rfl) (Nat.le_of_ble_eq_true rfl) (Nat.le_of_ble_eq_true rfl) (Nat.le_of_ble_eq_true rfl) (Nat.le_of_ble_eq_true rfl) ?_
  intro d hd
  obtain rfl := Eq.symm hd
  exact x_vret dX3_clear_31 rfl (Nat.le_of_ble_eq_true rfl) (Nat.le_of_ble_eq_true rfl) rfl rfl rfl rfl rfl
theorem c3_town {X : xC} {l : Launch} (hl : l.stackTraces = false) {N : Nat} {sh : xS} {D : xM} {la : Nat} (hL : is_L N sh la) {T : Nat} (hT : D la 0 = T) (hT1 : T < 8) {a b c e : Int} : x_M X l yX3_addTown cX3_addTown 5 (none) 1 0 0 [.ref (x_b X + la), .int (xI a), .int (xI b), .int (xI c), .int (xI e)] false N sh D (.inl none) false N sh (x_is (x_up (x_up (x_up (x_up D (la + 14) (x_u1 (x_u1 (D (la + 14)) (1 + T) a) (9 + T) b)) (la + 1) (x_u1 (D (la + 1)) T c)) (la + 2) (x_u1 (D (la + 2)) T e)) la (x_u1 (D la) 0 (T + 1)))) := by
  obtain ⟨hlN, hl0, hl1, hl2, hlro, -, hlru, -, -, hlst, hlce⟩ := id hL
  have hlaN : la < N := by omega
  have hlN1 : la + 1 < N := by omega
  have hlN2 : la + 2 < N := by omega
  have hlN3 : la + 3 < N := by omega
  have hlN10 : la + 10 < N := by omega
  have hlN13 : la + 13 < N := by omega
  have hlN14 : la + 14 < N := by omega
  refine x_ofW (by decide +kernel) hl (by simp [Value.category]) (by simp) ?_
  refine x_aload_n dX3_addTown_0 x_get_5_0 ?_
  refine x_getI 0 dX3_addTown_1 fX_3_9 rfl (by assumption) (by assumption) (by rfl) ?_
  try simp (disch := omega) only [x_up_up, x_up_n, x_up_s, hT]
  refine x_bipush dX3_addTown_4 rfl ?_
  refine r_icmp_ge (t := 71) dX3_addTown_6 rfl ⟨by omega, by omega⟩ ⟨by omega, by omega⟩ (fun hc6 => absurd hc6 (by omega)) (fun hc6 => ?_)
  refine x_aload_n dX3_addTown_9 x_get_5_0 ?_
  refine x_getR dX3_addTown_10 fX_3_42 (by assumption) (by assumption) (by rfl) ?_
  refine x_getR dX3_addTown_13 fX_3_51 (by assumption) (by assumption) (by rfl) ?_
  refine x_iconst dX3_addTown_16 ?_
  refine x_aload_n dX3_addTown_17 x_get_5_0 ?_
  refine x_getI 0 dX3_addTown_18 fX_3_9 rfl (by assumption) (by assumption) (by rfl) ?_
  try simp (disch := omega) only [x_up_up, x_up_n, x_up_s, hT]
  refine x_iadd dX3_addTown_21 ?_
  refine x_iload_n dX3_addTown_22 x_get_5_1 ?_
  refine x_iast dX3_addTown_23 (by assumption) (by assumption) (by omega) (by omega) (by decide) ?_
  refine x_aload_n dX3_addTown_24 x_get_5_0 ?_
  refine x_getR dX3_addTown_25 fX_3_42 (by assumption) (by assumption) (by rfl) ?_
  refine x_getR dX3_addTown_28 fX_3_51 (by assumption) (by assumption) (by rfl) ?_
  refine x_bipush dX3_addTown_31 rfl ?_
  refine x_aload_n dX3_addTown_33 x_get_5_0 ?_
  refine x_getI 0 dX3_addTown_34 fX_3_9 rfl (by assumption) (by assumption) (by rfl) ?_
  try simp (disch := omega) only [x_up_up, x_up_n, x_up_s, hT]
  refine x_iadd dX3_addTown_37 ?_
  refine x_iload_n dX3_addTown_38 x_get_5_2 ?_
  refine x_iast dX3_addTown_39 (by assumption) (by assumption) (by omega) (by omega) (by decide) ?_
  try simp (disch := omega) only [x_up_up, x_up_n, x_up_s, hT]
  refine x_aload_n dX3_addTown_40 x_get_5_0 ?_
  refine x_getR dX3_addTown_41 fX_3_18 (by assumption) (by assumption) (by rfl) ?_
  refine x_aload_n dX3_addTown_44 x_get_5_0 ?_
  refine x_getI 0 dX3_addTown_45 fX_3_9 rfl (by assumption) (by assumption) (by rfl) ?_
  try simp (disch := omega) only [x_up_up, x_up_n, x_up_s, hT]
  refine x_iload_n dX3_addTown_48 x_get_5_3 ?_
  refine x_iast dX3_addTown_49 (by assumption) (by assumption) (by omega) (by omega) (by decide) ?_
  refine x_aload_n dX3_addTown_50 x_get_5_0 ?_
  refine x_getR dX3_addTown_51 fX_3_22 (by assumption) (by assumption) (by rfl) ?_
  refine x_aload_n dX3_addTown_54 x_get_5_0 ?_
  refine x_getI 0 dX3_addTown_55 fX_3_9 rfl (by assumption) (by assumption) (by rfl) ?_
  try simp (disch := omega) only [x_up_up, x_up_n, x_up_s, hT]
  refine x_iload dX3_addTown_58 x_get_5_4 ?_
  refine x_iast dX3_addTown_60 (by assumption) (by assumption) (by omega) (by omega) (by decide) ?_
  refine x_aload_n dX3_addTown_61 x_get_5_0 ?_
  refine x_dup dX3_addTown_62 rfl ?_
  refine x_getI 0 dX3_addTown_63 fX_3_9 rfl (by assumption) (by assumption) (by rfl) ?_
  try simp (disch := omega) only [x_up_up, x_up_n, x_up_s, hT]
  refine x_iconst dX3_addTown_66 ?_
  refine x_iadd dX3_addTown_67 ?_
  refine x_putI 0 dX3_addTown_68 fX_3_9 rfl tX_3_0 (by assumption) (by assumption) (by rfl) ?_
  exact x_vret dX3_addTown_71 rfl (Nat.le_of_ble_eq_true rfl) (Nat.le_of_ble_eq_true rfl) rfl rfl rfl (by show _ = _; simp (disch := omega) only [x_up_n, x_up_s]) rfl
theorem c3_crate {X : xC} {l : Launch} (hl : l.stackTraces = false) {N : Nat} {sh : xS} {D : xM} {la : Nat} (hL : is_L N sh la) {C : Nat} (hC : D la 1 = C) (hC1 : C < 10) {a b : Int} {p q : Prop} [Decidable p] [Decidable q] : x_M X l yX3_addCrate cX3_addCrate 5 (none) 1 0 0 [.ref (x_b X + la), .int (xI a), .int (xI (x_B p)), .int (xI b), .int (xI (x_B q))] false N sh D (.inl none) false N sh (x_is (x_up (x_up D (la + 14) (x_u1 (x_u1 (x_u1 (x_u1 (D (la + 14)) (25 + C) a) (35 + C) (x_B p)) (55 + C) b) (45 + C) (x_B q))) la (x_u1 (D la) 1 (C + 1)))) := by
  obtain ⟨hlN, hl0, hl1, hl2, hlro, -, hlru, -, -, hlst, hlce⟩ := id hL
  have hlaN : la < N := by omega
  have hlN1 : la + 1 < N := by omega
  have hlN2 : la + 2 < N := by omega
  have hlN3 : la + 3 < N := by omega
  have hlN10 : la + 10 < N := by omega
  have hlN13 : la + 13 < N := by omega
  have hlN14 : la + 14 < N := by omega
  refine x_ofW (by decide +kernel) hl (by simp [Value.category]) (by simp) ?_
  have t2 : x_W (X, l, yX3_addCrate, cX3_addCrate, 5, none, x_room 1 0 0, 0, 0, (.inl none), N, sh, (x_is (x_up (x_up D (la + 14) (x_u1 (x_u1 (x_u1 (x_u1 (D (la + 14)) (25 + C) a) (35 + C) (x_B p)) (55 + C) b) (45 + C) (x_B q))) la (x_u1 (D la) 1 (C + 1)))), false, []) 90 [some (.ref (x_b X + la)), some (.int (xI a)), some (.int (xI (x_B p))), some (.int (xI b)), some (.int (xI (x_B q)))] [] 0 0 false N sh (x_up D (la + 14) (x_u1 (x_u1 (x_u1 (x_u1 (D (la + 14)) (25 + C) a) (35 + C) (x_B p)) (55 + C) b) (45 + C) (x_B q))) := by
    refine x_aload_n dX3_addCrate_90 x_get_5_0 ?_
    refine x_dup dX3_addCrate_91 rfl ?_
    refine x_getI 1 dX3_addCrate_92 fX_3_15 rfl (by assumption) (by assumption) (by rfl) ?_
    try simp (disch := omega) only [x_up_up, x_up_n, x_up_s, hC]
    refine x_iconst dX3_addCrate_95 ?_
    refine x_iadd dX3_addCrate_96 ?_
    refine x_putI 1 dX3_addCrate_97 fX_3_15 rfl tX_3_1 (by assumption) (by assumption) (by rfl) ?_
    exact x_vret dX3_addCrate_100 rfl (Nat.le_of_ble_eq_true rfl) (Nat.le_of_ble_eq_true rfl) rfl rfl rfl (by show _ = _; simp (disch := omega) only [x_up_n, x_up_s]) rfl
  have t1 : x_W (X, l, yX3_addCrate, cX3_addCrate, 5, none, x_room 1 0 0, 0, 0, (.inl none), N, sh, (x_is (x_up (x_up D (la + 14) (x_u1 (x_u1 (x_u1 (x_u1 (D (la + 14)) (25 + C) a) (35 + C) (x_B p)) (55 + C) b) (45 + C) (x_B q))) la (x_u1 (D la) 1 (C + 1)))), false, []) 49 [some (.ref (x_b X + la)), some (.int (xI a)), some (.int (xI (x_B p))), some (.int (xI b)), some (.int (xI (x_B q)))] [] 0 0 false N sh (x_up D (la + 14) (x_u1 (x_u1 (D (la + 14)) (25 + C) a) (35 + C) (x_B p))) := by
    refine x_aload_n dX3_addCrate_49 x_get_5_0 ?_
    refine x_getR dX3_addCrate_50 fX_3_42 (by assumption) (by assumption) (by rfl) ?_
    refine x_getR dX3_addCrate_53 fX_3_51 (by assumption) (by assumption) (by rfl) ?_
    refine x_bipush dX3_addCrate_56 rfl ?_
    refine x_aload_n dX3_addCrate_58 x_get_5_0 ?_
    refine x_getI 1 dX3_addCrate_59 fX_3_15 rfl (by assumption) (by assumption) (by rfl) ?_
    try simp (disch := omega) only [x_up_up, x_up_n, x_up_s, hC]
    refine x_iadd dX3_addCrate_62 ?_
    refine x_iload_n dX3_addCrate_63 x_get_5_3 ?_
    refine x_iast dX3_addCrate_64 (by assumption) (by assumption) (by omega) (by omega) (by decide) ?_
    try simp (disch := omega) only [x_up_up, x_up_n, x_up_s, hC]
    refine x_aload_n dX3_addCrate_65 x_get_5_0 ?_
    refine x_getR dX3_addCrate_66 fX_3_42 (by assumption) (by assumption) (by rfl) ?_
    refine x_getR dX3_addCrate_69 fX_3_51 (by assumption) (by assumption) (by rfl) ?_
    refine x_bipush dX3_addCrate_72 rfl ?_
    refine x_aload_n dX3_addCrate_74 x_get_5_0 ?_
    refine x_getI 1 dX3_addCrate_75 fX_3_15 rfl (by assumption) (by assumption) (by rfl) ?_
    try simp (disch := omega) only [x_up_up, x_up_n, x_up_s, hC]
    refine x_iadd dX3_addCrate_78 ?_
    refine x_iload dX3_addCrate_79 x_get_5_4 ?_
    refine b_ifeq (t := 88) dX3_addCrate_81 rfl (fun hc81 => ?_) (fun hc81 => ?_)
    · refine x_iconst dX3_addCrate_88 ?_
      refine x_as_is (b := x_B q) (by first | (rw [x_B, if_pos hc81]; done) | (rw [x_B, if_neg hc81]; done)) ?_
      refine x_iast dX3_addCrate_89 (by assumption) (by assumption) (by omega) (by omega) (by decide) ?_
      try simp (disch := omega) only [x_up_up, x_up_n, x_up_s, hC]
      exact t2
    · refine x_iconst dX3_addCrate_84 ?_
      refine x_goto (t := 89) dX3_addCrate_85 rfl ?_
      refine x_as_is (b := x_B q) (by first | (rw [x_B, if_pos hc81]; done) | (rw [x_B, if_neg hc81]; done)) ?_
      refine x_iast dX3_addCrate_89 (by assumption) (by assumption) (by omega) (by omega) (by decide) ?_
      try simp (disch := omega) only [x_up_up, x_up_n, x_up_s, hC]
      exact t2
  refine x_aload_n dX3_addCrate_0 x_get_5_0 ?_
  refine x_getI 1 dX3_addCrate_1 fX_3_15 rfl (by assumption) (by assumption) (by rfl) ?_
  try simp (disch := omega) only [x_up_up, x_up_n, x_up_s, hC]
  refine x_bipush dX3_addCrate_4 rfl ?_
  refine r_icmp_ge (t := 100) dX3_addCrate_6 rfl ⟨by omega, by omega⟩ ⟨by omega, by omega⟩ (fun hc6 => absurd hc6 (by omega)) (fun hc6 => ?_)
  refine x_aload_n dX3_addCrate_9 x_get_5_0 ?_
  refine x_getR dX3_addCrate_10 fX_3_42 (by assumption) (by assumption) (by rfl) ?_
  refine x_getR dX3_addCrate_13 fX_3_51 (by assumption) (by assumption) (by rfl) ?_
  refine x_bipush dX3_addCrate_16 rfl ?_
  refine x_aload_n dX3_addCrate_18 x_get_5_0 ?_
  refine x_getI 1 dX3_addCrate_19 fX_3_15 rfl (by assumption) (by assumption) (by rfl) ?_
  try simp (disch := omega) only [x_up_up, x_up_n, x_up_s, hC]
  refine x_iadd dX3_addCrate_22 ?_
  refine x_iload_n dX3_addCrate_23 x_get_5_1 ?_
  refine x_iast dX3_addCrate_24 (by assumption) (by assumption) (by omega) (by omega) (by decide) ?_
  try simp (disch := omega) only [x_up_up, x_up_n, x_up_s, hC]
  refine x_aload_n dX3_addCrate_25 x_get_5_0 ?_
  refine x_getR dX3_addCrate_26 fX_3_42 (by assumption) (by assumption) (by rfl) ?_
  refine x_getR dX3_addCrate_29 fX_3_51 (by assumption) (by assumption) (by rfl) ?_
  refine x_bipush dX3_addCrate_32 rfl ?_
  refine x_aload_n dX3_addCrate_34 x_get_5_0 ?_
  refine x_getI 1 dX3_addCrate_35 fX_3_15 rfl (by assumption) (by assumption) (by rfl) ?_
  try simp (disch := omega) only [x_up_up, x_up_n, x_up_s, hC]
  refine x_iadd dX3_addCrate_38 ?_
  refine x_iload_n dX3_addCrate_39 x_get_5_2 ?_
  refine b_ifeq (t := 47) dX3_addCrate_40 rfl (fun hc40 => ?_) (fun hc40 => ?_)
  · refine x_iconst dX3_addCrate_47 ?_
    refine x_as_is (b := x_B p) (by first | (rw [x_B, if_pos hc40]; done) | (rw [x_B, if_neg hc40]; done)) ?_
    refine x_iast dX3_addCrate_48 (by assumption) (by assumption) (by omega) (by omega) (by decide) ?_
    try simp (disch := omega) only [x_up_up, x_up_n, x_up_s, hC]
    exact t1
  · refine x_iconst dX3_addCrate_43 ?_
    refine x_goto (t := 48) dX3_addCrate_44 rfl ?_
    refine x_as_is (b := x_B p) (by first | (rw [x_B, if_pos hc40]; done) | (rw [x_B, if_neg hc40]; done)) ?_
    refine x_iast dX3_addCrate_48 (by assumption) (by assumption) (by omega) (by omega) (by decide) ?_
    try simp (disch := omega) only [x_up_up, x_up_n, x_up_s, hC]
    exact t1
end C44
