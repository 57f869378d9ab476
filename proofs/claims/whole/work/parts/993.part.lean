section C993
/-! ===== Reader: the parts of an expression ===== -/
theorem x_rm1 {d dep : Nat} (h : d ≤ dep) : d + 1 ≤ dep + 1 := Nat.succ_le_succ h
theorem x_rm2 {d dep : Nat} (h : d ≤ dep) : 64 * d + 60 ≤ 64 * (dep + 1) := by omega
/-- the Reader stands at q, what was read of the rule is L0 ++ L -/
def rz (n lb : Nat) (L0 : List Int) (D : xM) (q : Nat) (L : List Int) (d : xM) : Prop := rs d n q ∧ r2 lb D d ∧ ru_is d lb (L0 ++ L)
def Cx (X : xC) (l : Launch) (N : Nat) (sh : xS) (lb n : Nat) (y : MethodName) (cc : ByteArray) (nL dep : Nat) (deep : Int) (f : (Int → Int) → Nat → Rs (List Int)) : Prop := ∀ (D : xM) (q : Nat) (L0 : List Int), rs D n q → ru_is D lb L0 → L0.length ≤ q → x_M X l y cc nL (some .boolean) dep 0 0 [.ref (x_b X + 1), .int (xI deep)] false N sh D (.inl (some (.int (xI (r_o (f (D 2) q)))))) false N sh (r_px n lb L0 (f (D 2) q) D)
theorem rz_0 {n lb q : Nat} {L0 : List Int} {D : xM} (hs : rs D n q) (hu : ru_is D lb L0) : rz n lb L0 D q [] D := ⟨hs, r2_rf, by rw [List.append_nil]; exact hu⟩
theorem rz_2 {n lb q : Nat} {L0 L : List Int} {D d : xM} (hlb : 3 ≤ lb) (h : rz n lb L0 D q L d) : d 2 = D 2 := h.2.1.1 2 (by decide) (by omega) (by omega)
theorem rz_k {n lb q : Nat} {L0 L : List Int} {D d : xM} (hlb : 3 ≤ lb) (h : rz n lb L0 D q L d) : d 1 4 = tK (D 2) n q ∧ (tK (D 2) n q = 3 → d 1 5 = tV (D 2) n q) := by
  have e := rz_2 hlb h
  have h1 := h.1.2.2.2.2.1
  have h2 := h.1.2.2.2.2.2
  rw [e] at h1 h2
  exact ⟨h1, h2⟩
theorem r_px_tr {n lb : Nat} {z : Int × Nat} {L0 L1 : List Int} {D d e : xM} (hlb : 3 ≤ lb) (h : r2 lb D d) (h2 : r_px n lb L1 (.inl z) d e) : r_px n lb L0 (.inl z) D e := by
  obtain ⟨a1, a2, a3, a4⟩ := h2
  refine ⟨fun j x y w => by rw [a1 j x y w]; exact h.1 j x y w, fun i hi => by rw [a2 i hi]; exact h.2.1 i (by omega), a3, ?_⟩
  rw [h.1 2 (by decide) (by omega) (by omega)] at a4
  exact a4
theorem z5_mark {X : xC} {l : Launch} (hl : l.stackTraces = false) {N : Nat} {sh : xS} {D d : xM} {lb n q : Nat} {L0 L : List Int} (hR : is_Rd N sh lb) (hlb : 3 ≤ lb) (hz : rz n lb L0 D q L d) {c : Int} (hc : x_r c) : x_M X l yX5_isMark cX5_isMark 2 (some .boolean) 0 0 0 [.ref (x_b X + 1), .int (xI c)] false N sh d (.inl (some (.int (xI (x_B (tM (D 2) n q c)))))) false N sh (x_is d) := by
  have h := r5_isMark (X := X) (l := l) hl hR hz.1 hc
  rw [rz_2 hlb hz] at h
  exact h
theorem z5_word {X : xC} {l : Launch} (hl : l.stackTraces = false) {N : Nat} {sh : xS} {D d : xM} {lb n q : Nat} {L0 L : List Int} (hR : is_Rd N sh lb) (hlb : 3 ≤ lb) (hz : rz n lb L0 D q L d) {j : Nat} (h1 : 1 ≤ j) (h2 : j ≤ 15) : x_M X l yX5_isWord cX5_isWord 3 (some .boolean) 4 0 0 [.ref (x_b X + 1), .ref (x_k X j)] false N sh d (.inl (some (.int (xI (x_B (tW (D 2) n q j)))))) false N sh (x_is d) := by
  have h := r5_isWord (X := X) (l := l) hl hR hz.1 h1 h2
  rw [rz_2 hlb hz] at h
  exact h
theorem z5_long {X : xC} {l : Launch} (hl : l.stackTraces = false) {N : Nat} {sh : xS} {D d : xM} {lb n q : Nat} {L0 L : List Int} (hR : is_Rd N sh lb) (hlb : 3 ≤ lb) (hz : rz n lb L0 D q L d) : x_M X l yX5_isTooLong cX5_isTooLong 1 (some .boolean) 0 0 0 [.ref (x_b X + 1)] false N sh d (.inl (some (.int (xI (x_B (tL (D 2) n q)))))) false N sh (x_is d) := by
  have h := r5_isTooLong (X := X) (l := l) hl hR hz.1
  rw [rz_2 hlb hz] at h
  exact h
theorem z5_vs {X : xC} {l : Launch} (hl : l.stackTraces = false) {N : Nat} {sh : xS} {D d : xM} {lb n q : Nat} {L0 L : List Int} (hR : is_Rd N sh lb) (hlb : 3 ≤ lb) (hz : rz n lb L0 D q L d) : x_M X l yX5_valueStep cX5_valueStep 1 (some .int) 5 0 0 [.ref (x_b X + 1)] false N sh d (.inl (some (.int (xI (r_vs (D 2) n q))))) false N sh (x_is d) := by
  have h := r5_valueStep (X := X) (l := l) hl hR hz.1
  rw [rz_2 hlb hz] at h
  exact h
theorem z5_fail {X : xC} {l : Launch} (hl : l.stackTraces = false) {N : Nat} {sh : xS} {D d : xM} {lb n q : Nat} {L0 L : List Int} (hR : is_Rd N sh lb) (hlb : 3 ≤ lb) (hz : rz n lb L0 D q L d) {w : Int} : x_M X l yX5_fail cX5_fail 2 (some .boolean) 0 0 0 [.ref (x_b X + 1), .int (xI w)] false N sh d (.inl (some (.int (xI (0))))) false N sh (r_px n lb L0 (.inl (w, q)) D) := by
  refine x_M_post (r5_fail (X := X) (l := l) hl hR hz.1) rfl (fun e he => ?_)
  obtain ⟨a1, a2, a3, a4⟩ := r_fl_ps he
  exact r_px_tr (L1 := L0) hlb hz.2.1 ⟨fun j hj _ _ => a1 j hj, a2, a3, a4⟩
theorem rz_r1 {n lb q q2 : Nat} {L0 L : List Int} {D d e : xM} (hlb : 3 ≤ lb) (hz : rz n lb L0 D q L d) (h1 : rs e n q2) (h2 : r1 d e) : rz n lb L0 D q2 L e := ⟨h1, r2_tr hz.2.1 (r2_r1 hlb h2), ru_r1 hlb h2 hz.2.2⟩
theorem z5_adv {X : xC} {l : Launch} (hl : l.stackTraces = false) {N : Nat} {sh : xS} {D d : xM} {lb n q : Nat} {L0 L : List Int} (hR : is_Rd N sh lb) (hlb : 3 ≤ lb) (hz : rz n lb L0 D q L d) : x_M X l yX5_advance cX5_advance 1 (none) 1 0 0 [.ref (x_b X + 1)] false N sh d (.inl none) false N sh (rz n lb L0 D (tE (D 2) n q) L) := by
  refine x_M_post (c5_advance (X := X) (l := l) hl hR hz.1.1 hz.1.2.2.2.1 (tE_in hz.1.2.1).2.2) rfl (fun e he => ?_)
  obtain ⟨g1, g2, g3⟩ := ad_rs hz.1.1 (tE_in hz.1.2.1).2.2 he
  rw [rz_2 hlb hz] at g1
  exact rz_r1 hlb hz g1 g2
theorem z5_signT {X : xC} {l : Launch} (hl : l.stackTraces = false) {N : Nat} {sh : xS} {D d : xM} {lb n q : Nat} {L0 L : List Int} (hR : is_Rd N sh lb) (hlb : 3 ≤ lb) (hz : rz n lb L0 D q L d) {c : Int} (hc : x_r c) (hm : tM (D 2) n q c) : x_M X l yX5_readSign cX5_readSign 2 (some .boolean) 2 0 0 [.ref (x_b X + 1), .int (xI c)] false N sh d (.inl (some (.int (xI (1))))) false N sh (rz n lb L0 D (tE (D 2) n q) L) := by
  have e2 := rz_2 hlb hz
  rw [← e2] at hm
  refine x_M_post (r5_readSignT (X := X) (l := l) hl hR hz.1 hc hm) rfl (fun e he => ?_)
  rw [e2] at he
  exact rz_r1 hlb hz he.1 he.2.1
theorem z5_signF {X : xC} {l : Launch} (hl : l.stackTraces = false) {N : Nat} {sh : xS} {D d : xM} {lb n q : Nat} {L0 L : List Int} (hR : is_Rd N sh lb) (hlb : 3 ≤ lb) (hz : rz n lb L0 D q L d) {c : Int} (hc : x_r c) (hm : ¬ tM (D 2) n q c) : x_M X l yX5_readSign cX5_readSign 2 (some .boolean) 2 0 0 [.ref (x_b X + 1), .int (xI c)] false N sh d (.inl (some (.int (xI (0))))) false N sh (r_px n lb L0 (.inl (1, q)) D) := by
  have e2 := rz_2 hlb hz
  rw [← e2] at hm
  refine x_M_post (r5_readSignF (X := X) (l := l) hl hR hz.1 hc hm) rfl (fun e he => ?_)
  obtain ⟨a1, a2, a3, a4⟩ := r_fl_ps he
  exact r_px_tr (L1 := L0) hlb hz.2.1 ⟨fun j hj _ _ => a1 j hj, a2, a3, a4⟩
theorem z5_add {X : xC} {l : Launch} (hl : l.stackTraces = false) {N : Nat} {sh : xS} {D d : xM} {lb n q : Nat} {L0 L : List Int} (hR : is_Rd N sh lb) (hlb : 3 ≤ lb) (hz : rz n lb L0 D q L d) (hL : is_L N sh lb) {s : Int} (hs : x_r s) (hn : L0.length + L.length < 700) : x_M X l yX7_add cX7_add 2 (none) 1 0 0 [.ref (x_b X + (lb + 10)), .int (xI s)] false N sh d (.inl none) false N sh (rz n lb L0 D q (L ++ [s])) := by
  have hu := hz.2.2
  have ha : d (lb + 10) 4 = 0 ∨ d (lb + 10) 4 = 1 := by
    rw [hu.2.2.1]; unfold x_B; split
    · exact Or.inr rfl
    · exact Or.inl rfl
  have hn2 : (L0 ++ L).length < 700 := by rw [List.length_append]; exact hn
  refine x_M_post (c7_add (X := X) (l := l) hl (is_L_ru hL) (n := (L0 ++ L).length) hu.1 hn2 ha hs (by omega)) rfl (fun e he => ?_)
  have hA := ru_add hu hn2 (s := s)
  subst he
  refine ⟨rs_of hz.1 (by rw [x_up_n (by omega), x_up_n (by omega)]) (by rw [x_up_n (by omega), x_up_n (by omega)]), ?_, by rw [← List.append_assoc]; exact hA⟩
  refine r2_tr hz.2.1 ⟨fun j a b c => by rw [x_up_n b, x_up_n c], fun i _ => by rw [x_up_n (by omega), x_up_n (by omega)], ?_⟩
  rw [x_up_s, x_u1_n (by decide), x_u1_n (by decide)]
theorem z5_sub {X : xC} {l : Launch} {N : Nat} {sh : xS} {D d : xM} {lb n q : Nat} {L0 L : List Int} {y : MethodName} {cc : ByteArray} {nL dep : Nat} {deep : Int} {f : (Int → Int) → Nat → Rs (List Int)} (h : Cx X l N sh lb n y cc nL dep deep f) (hlb : 3 ≤ lb) (hz : rz n lb L0 D q L d) (hn : L0.length + L.length ≤ q) : x_M X l y cc nL (some .boolean) dep 0 0 [.ref (x_b X + 1), .int (xI deep)] false N sh d (.inl (some (.int (xI (r_o (f (D 2) q)))))) false N sh (r_px n lb L0 (r_bd (f (D 2) q) (fun M q2 => .inr (L ++ M, q2))) D) := by
  have h1 := h d q (L0 ++ L) hz.1 hz.2.2 (by rw [List.length_append]; exact hn)
  rw [rz_2 hlb hz] at h1
  refine x_M_post h1 rfl (fun e he => ?_)
  rcases hf : f (D 2) q with z | z
  · rw [hf] at he
    exact r_px_tr hlb hz.2.1 he
  · rw [hf] at he
    obtain ⟨b1, b2, b3⟩ := he
    exact ⟨b1, r2_tr hz.2.1 b2, by rw [← List.append_assoc]; exact b3⟩
theorem r_vs_in {b : Int → Int} {n q : Nat} : -16 ≤ r_vs b n q ∧ r_vs b n q ≤ -1 := by
  unfold r_vs
  repeat' split
  all_goals omega
theorem w_5_117 : x_cv RX5 117 yX5_readSign cX5_readSign 2 (some .boolean) 5 1 := ⟨⟨_, rfl, rfl⟩, (x_in 851 (by decide +kernel) rfl), (x_in 852 (by decide +kernel) rfl), (x_in 853 (by decide +kernel) rfl), (x_in 81 (by decide +kernel) rfl), (x_in 854 (by decide +kernel) rfl), by decide, ⟨by decide +kernel, by decide +kernel, by decide +kernel⟩⟩
theorem w_5_172 : x_cv RX5 172 yX5_readExpr cX5_readExpr 3 (some .boolean) 5 1 := ⟨⟨_, rfl, rfl⟩, (x_in 818 (by decide +kernel) rfl), (x_in 820 (by decide +kernel) rfl), (x_in 4 (by decide +kernel) rfl), (x_in 81 (by decide +kernel) rfl), (x_in 821 (by decide +kernel) rfl), by decide, ⟨by decide +kernel, by decide +kernel, by decide +kernel⟩⟩
theorem w_5_183 : x_cv RX5 183 yX7_add cX7_add 2 (none) 7 1 := ⟨⟨_, rfl, rfl⟩, (x_in 865 (by decide +kernel) rfl), (x_in 866 (by decide +kernel) rfl), (x_in 867 (by decide +kernel) rfl), (x_in 84 (by decide +kernel) rfl), (x_in 868 (by decide +kernel) rfl), by decide, ⟨by decide +kernel, by decide +kernel, by decide +kernel⟩⟩
theorem w_5_205 : x_cv RX5 205 yX5_valueStep cX5_valueStep 1 (some .int) 5 0 := ⟨⟨_, rfl, rfl⟩, (x_in 855 (by decide +kernel) rfl), (x_in 856 (by decide +kernel) rfl), (x_in 857 (by decide +kernel) rfl), (x_in 81 (by decide +kernel) rfl), (x_in 858 (by decide +kernel) rfl), by decide, ⟨by decide +kernel, by decide +kernel, by decide +kernel⟩⟩
set_option maxHeartbeats 4000000 in
theorem z5_part {X : xC} {l : Launch} (hl : l.stackTraces = false) {N : Nat} {sh : xS} {lb n : Nat} (hR : is_Rd N sh lb) (hlb : 3 ≤ lb) (hL : is_L N sh lb) {dep : Nat} (hdep : 6 ≤ dep) {deep : Int} (hdr : x_r deep) {ex : (Int → Int) → Nat → Rs (List Int)} (hex : Cx X l N sh lb n yX5_readExpr cX5_readExpr 3 dep (deep + 1) ex) : Cx X l N sh lb n yX5_readPart cX5_readPart 3 (dep + 1) deep (fun b => r_prt b n (ex b)) := by
  obtain ⟨hRN, x1, x2⟩ := id hR
  have n1 : 1 < N := by omega
  have xl := hL.2.1
  have nl : lb < N := by have := hL.1; omega
  have xru := (is_L_ru hL).2.1
  have nru : lb + 10 < N := by have := hL.1; omega
  intro D q L0 hs hu h0
  have hz0 := rz_0 hs hu
  have hqn := hs.2.1
  have hn7 := hs.1.2.1
  have hki := tK_in (b := D 2) (n := n) (q := q)
  show x_M X l yX5_readPart cX5_readPart 3 (some .boolean) (dep + 1) 0 0 [.ref (x_b X + 1), .int (xI deep)] false N sh D (.inl (some (.int (xI (r_o (r_prt (D 2) n (ex (D 2)) q)))))) false N sh (r_px n lb L0 (r_prt (D 2) n (ex (D 2)) q) D)
  by_cases hm : tM (D 2) n q 40
  · have hX : r_prt (D 2) n (ex (D 2)) q = r_bd (ex (D 2) (tE (D 2) n q)) (fun L q1 => if tM (D 2) n q1 41 then .inr (L, tE (D 2) n q1) else .inl (1, q1)) := by unfold r_prt; rw [if_pos hm]
    have hup := tM_up hqn hm
    refine x_ofW (by decide +kernel) hl (by simp [Value.category]) (by simp) ?_
    refine x_aload_n dX5_readPart_0 x_get_3_0 ?_
    refine x_bipush dX5_readPart_1 rfl ?_
    refine x_callV (As := [_]) dX5_readPart_3 w_5_175 (z5_mark hl hR hlb hz0 ⟨by decide, by decide⟩) (by assumption) (by assumption) rfl rfl (by first | exact Nat.le_of_ble_eq_true rfl | exact x_rm1 (by omega) | exact x_rm2 (by omega)) (by first | exact Nat.le_of_ble_eq_true rfl | exact x_rm1 (by omega) | exact x_rm2 (by omega)) (by first | exact Nat.le_of_ble_eq_true rfl | exact x_rm1 (by omega) | exact x_rm2 (by omega)) (by first | exact Nat.le_of_ble_eq_true rfl | exact x_rm1 (by omega) | exact x_rm2 (by omega)) (by first | exact Nat.le_of_ble_eq_true rfl | exact x_rm1 (by omega) | exact x_rm2 (by omega)) ?_
    intro d hd
    obtain rfl := Eq.symm hd
    refine b_ifeq (t := 38) dX5_readPart_6 rfl (fun hc6 => absurd hc6 (fun hh => hh hm)) (fun hc6 => ?_)
    refine x_aload_n dX5_readPart_9 x_get_3_0 ?_
    refine x_callV (As := []) dX5_readPart_10 w_5_56 (z5_adv hl hR hlb hz0) (by assumption) (by assumption) rfl rfl (by first | exact Nat.le_of_ble_eq_true rfl | exact x_rm1 (by omega) | exact x_rm2 (by omega)) (by first | exact Nat.le_of_ble_eq_true rfl | exact x_rm1 (by omega) | exact x_rm2 (by omega)) (by first | exact Nat.le_of_ble_eq_true rfl | exact x_rm1 (by omega) | exact x_rm2 (by omega)) (by first | exact Nat.le_of_ble_eq_true rfl | exact x_rm1 (by omega) | exact x_rm2 (by omega)) (by first | exact Nat.le_of_ble_eq_true rfl | exact x_rm1 (by omega) | exact x_rm2 (by omega)) ?_
    intro d1 z1
    have c1 := z5_sub hex hlb z1 (by simp; omega)
    refine x_aload_n dX5_readPart_13 x_get_3_0 ?_
    refine x_iload_n dX5_readPart_14 x_get_3_1 ?_
    refine x_iconst dX5_readPart_15 ?_
    refine x_iadd dX5_readPart_16 ?_
    rcases hf : ex (D 2) (tE (D 2) n q) with z | z
    · rw [hf] at c1 hX
      refine x_callV (As := [_]) dX5_readPart_17 w_5_172 (c1) (by assumption) (by assumption) rfl rfl (by first | exact Nat.le_of_ble_eq_true rfl | exact x_rm1 (by omega) | exact x_rm2 (by omega)) (by first | exact Nat.le_of_ble_eq_true rfl | exact x_rm1 (by omega) | exact x_rm2 (by omega)) (by first | exact Nat.le_of_ble_eq_true rfl | exact x_rm1 (by omega) | exact x_rm2 (by omega)) (by first | exact Nat.le_of_ble_eq_true rfl | exact x_rm1 (by omega) | exact x_rm2 (by omega)) (by first | exact Nat.le_of_ble_eq_true rfl | exact x_rm1 (by omega) | exact x_rm2 (by omega)) ?_
      intro d2 hd2
      refine r_if_eq (t := 36) dX5_readPart_20 rfl ⟨by show (-2147483648 : Int) ≤ 0; decide, by show (0 : Int) < 2147483648; decide⟩ (fun hc20 => ?_) (fun hc20 => absurd hc20 (by show ¬ ¬ ((0 : Int) = 0); decide))
      refine x_iconst dX5_readPart_36 ?_
      exact x_zret dX5_readPart_37 rfl (by omega) (by first | exact Nat.le_of_ble_eq_true rfl | exact x_rm1 (by omega) | exact x_rm2 (by omega)) (by first | exact Nat.le_of_ble_eq_true rfl | exact x_rm1 (by omega) | exact x_rm2 (by omega)) (by rw [hX]; rfl) rfl rfl (by rw [hX]; exact hd2) rfl
    · rw [hf] at c1 hX
      have hXi : r_prt (D 2) n (ex (D 2)) q = (if tM (D 2) n z.2 41 then .inr (z.1, tE (D 2) n z.2) else .inl (1, z.2)) := hX
      by_cases hm2 : tM (D 2) n z.2 41
      · rw [if_pos hm2] at hXi
        refine x_callV (As := [_]) dX5_readPart_17 w_5_172 (c1) (by assumption) (by assumption) rfl rfl (by first | exact Nat.le_of_ble_eq_true rfl | exact x_rm1 (by omega) | exact x_rm2 (by omega)) (by first | exact Nat.le_of_ble_eq_true rfl | exact x_rm1 (by omega) | exact x_rm2 (by omega)) (by first | exact Nat.le_of_ble_eq_true rfl | exact x_rm1 (by omega) | exact x_rm2 (by omega)) (by first | exact Nat.le_of_ble_eq_true rfl | exact x_rm1 (by omega) | exact x_rm2 (by omega)) (by first | exact Nat.le_of_ble_eq_true rfl | exact x_rm1 (by omega) | exact x_rm2 (by omega)) ?_
        intro d2 hd2
        have z2 : rz n lb L0 D z.2 z.1 d2 := by have h9 : rz n lb L0 D z.2 ([] ++ z.1) d2 := hd2; rwa [List.nil_append] at h9
        refine r_if_eq (t := 36) dX5_readPart_20 rfl ⟨by show (-2147483648 : Int) ≤ 1; decide, by show (1 : Int) < 2147483648; decide⟩ (fun hc20 => absurd hc20 (by show ¬ ((1 : Int) = 0); decide)) (fun hc20 => ?_)
        refine x_aload_n dX5_readPart_23 x_get_3_0 ?_
        refine x_bipush dX5_readPart_24 rfl ?_
        refine x_callV (As := [_]) dX5_readPart_26 w_5_117 (z5_signT hl hR hlb z2 ⟨by decide, by decide⟩ hm2) (by assumption) (by assumption) rfl rfl (by first | exact Nat.le_of_ble_eq_true rfl | exact x_rm1 (by omega) | exact x_rm2 (by omega)) (by first | exact Nat.le_of_ble_eq_true rfl | exact x_rm1 (by omega) | exact x_rm2 (by omega)) (by first | exact Nat.le_of_ble_eq_true rfl | exact x_rm1 (by omega) | exact x_rm2 (by omega)) (by first | exact Nat.le_of_ble_eq_true rfl | exact x_rm1 (by omega) | exact x_rm2 (by omega)) (by first | exact Nat.le_of_ble_eq_true rfl | exact x_rm1 (by omega) | exact x_rm2 (by omega)) ?_
        intro d3 z3
        refine r_if_eq (t := 36) dX5_readPart_29 rfl ⟨by show (-2147483648 : Int) ≤ 1; decide, by show (1 : Int) < 2147483648; decide⟩ (fun hc29 => absurd hc29 (by show ¬ ((1 : Int) = 0); decide)) (fun hc29 => ?_)
        refine x_iconst dX5_readPart_32 ?_
        refine x_goto (t := 37) dX5_readPart_33 rfl ?_
        exact x_zret dX5_readPart_37 rfl (by omega) (by first | exact Nat.le_of_ble_eq_true rfl | exact x_rm1 (by omega) | exact x_rm2 (by omega)) (by first | exact Nat.le_of_ble_eq_true rfl | exact x_rm1 (by omega) | exact x_rm2 (by omega)) (by rw [hXi]; rfl) rfl rfl (by rw [hXi]; exact z3) rfl
      · rw [if_neg hm2] at hXi
        refine x_callV (As := [_]) dX5_readPart_17 w_5_172 (c1) (by assumption) (by assumption) rfl rfl (by first | exact Nat.le_of_ble_eq_true rfl | exact x_rm1 (by omega) | exact x_rm2 (by omega)) (by first | exact Nat.le_of_ble_eq_true rfl | exact x_rm1 (by omega) | exact x_rm2 (by omega)) (by first | exact Nat.le_of_ble_eq_true rfl | exact x_rm1 (by omega) | exact x_rm2 (by omega)) (by first | exact Nat.le_of_ble_eq_true rfl | exact x_rm1 (by omega) | exact x_rm2 (by omega)) (by first | exact Nat.le_of_ble_eq_true rfl | exact x_rm1 (by omega) | exact x_rm2 (by omega)) ?_
        intro d2 hd2
        have z2 : rz n lb L0 D z.2 z.1 d2 := by have h9 : rz n lb L0 D z.2 ([] ++ z.1) d2 := hd2; rwa [List.nil_append] at h9
        refine r_if_eq (t := 36) dX5_readPart_20 rfl ⟨by show (-2147483648 : Int) ≤ 1; decide, by show (1 : Int) < 2147483648; decide⟩ (fun hc20 => absurd hc20 (by show ¬ ((1 : Int) = 0); decide)) (fun hc20 => ?_)
        refine x_aload_n dX5_readPart_23 x_get_3_0 ?_
        refine x_bipush dX5_readPart_24 rfl ?_
        refine x_callV (As := [_]) dX5_readPart_26 w_5_117 (z5_signF hl hR hlb z2 ⟨by decide, by decide⟩ hm2) (by assumption) (by assumption) rfl rfl (by first | exact Nat.le_of_ble_eq_true rfl | exact x_rm1 (by omega) | exact x_rm2 (by omega)) (by first | exact Nat.le_of_ble_eq_true rfl | exact x_rm1 (by omega) | exact x_rm2 (by omega)) (by first | exact Nat.le_of_ble_eq_true rfl | exact x_rm1 (by omega) | exact x_rm2 (by omega)) (by first | exact Nat.le_of_ble_eq_true rfl | exact x_rm1 (by omega) | exact x_rm2 (by omega)) (by first | exact Nat.le_of_ble_eq_true rfl | exact x_rm1 (by omega) | exact x_rm2 (by omega)) ?_
        intro d3 z3
        refine r_if_eq (t := 36) dX5_readPart_29 rfl ⟨by show (-2147483648 : Int) ≤ 0; decide, by show (0 : Int) < 2147483648; decide⟩ (fun hc29 => ?_) (fun hc29 => absurd hc29 (by show ¬ ¬ ((0 : Int) = 0); decide))
        refine x_iconst dX5_readPart_36 ?_
        exact x_zret dX5_readPart_37 rfl (by omega) (by first | exact Nat.le_of_ble_eq_true rfl | exact x_rm1 (by omega) | exact x_rm2 (by omega)) (by first | exact Nat.le_of_ble_eq_true rfl | exact x_rm1 (by omega) | exact x_rm2 (by omega)) (by rw [hXi]; rfl) rfl rfl (by rw [hXi]; exact z3) rfl
  · have hX : r_prt (D 2) n (ex (D 2)) q = (if ¬ tK (D 2) n q = 3 ∧ ¬ tK (D 2) n q = 2 then .inl (1, q)
      else if tK (D 2) n q = 3 ∧ tL (D 2) n q then .inl (2, q)
      else if tK (D 2) n q = 3 then .inr ([tV (D 2) n q], tE (D 2) n q)
      else if r_vs (D 2) n q = -16 then .inl (3, q) else .inr ([r_vs (D 2) n q], tE (D 2) n q)) := by unfold r_prt; rw [if_neg hm]
    obtain ⟨k4, k5⟩ := rz_k hlb hz0
    have hvr := r_vs_in (b := D 2) (n := n) (q := q)
    have g113 : ∀ s : Int, x_r s → ¬ tK (D 2) n q = 0 → r_prt (D 2) n (ex (D 2)) q = .inr ([s], tE (D 2) n q) → x_W (X, l, yX5_readPart, cX5_readPart, 3, (some .boolean), x_room (dep + 1) 0 0, 0, 0, (.inl (some (.int (xI (r_o (r_prt (D 2) n (ex (D 2)) q)))))), N, sh, (r_px n lb L0 (r_prt (D 2) n (ex (D 2)) q) D), false, []) 113 [some (.ref (x_b X + 1)), some (.int (xI deep)), some (.int (xI s))] [] 0 0 false N sh D := by
      intro s hsr hk0 hX
      have hup := tE_w hqn hk0
      refine x_aload_n dX5_readPart_113 x_get_3_0 ?_
      refine x_getR dX5_readPart_114 fX_5_37 (by assumption) (by assumption) (by rfl) ?_
      refine x_getR dX5_readPart_117 fX_5_162 (by assumption) (by assumption) (by rfl) ?_
      refine x_iload_n dX5_readPart_120 x_get_3_2 ?_
      refine x_callV (As := [_]) dX5_readPart_121 w_5_183 (z5_add hl hR hlb hz0 hL hsr (by simp; omega)) (by assumption) (by assumption) rfl rfl (by first | exact Nat.le_of_ble_eq_true rfl | exact x_rm1 (by omega) | exact x_rm2 (by omega)) (by first | exact Nat.le_of_ble_eq_true rfl | exact x_rm1 (by omega) | exact x_rm2 (by omega)) (by first | exact Nat.le_of_ble_eq_true rfl | exact x_rm1 (by omega) | exact x_rm2 (by omega)) (by first | exact Nat.le_of_ble_eq_true rfl | exact x_rm1 (by omega) | exact x_rm2 (by omega)) (by first | exact Nat.le_of_ble_eq_true rfl | exact x_rm1 (by omega) | exact x_rm2 (by omega)) ?_
      intro d1 z1
      refine x_aload_n dX5_readPart_124 x_get_3_0 ?_
      refine x_callV (As := []) dX5_readPart_125 w_5_56 (z5_adv hl hR hlb z1) (by assumption) (by assumption) rfl rfl (by first | exact Nat.le_of_ble_eq_true rfl | exact x_rm1 (by omega) | exact x_rm2 (by omega)) (by first | exact Nat.le_of_ble_eq_true rfl | exact x_rm1 (by omega) | exact x_rm2 (by omega)) (by first | exact Nat.le_of_ble_eq_true rfl | exact x_rm1 (by omega) | exact x_rm2 (by omega)) (by first | exact Nat.le_of_ble_eq_true rfl | exact x_rm1 (by omega) | exact x_rm2 (by omega)) (by first | exact Nat.le_of_ble_eq_true rfl | exact x_rm1 (by omega) | exact x_rm2 (by omega)) ?_
      intro d2 z2
      refine x_iconst dX5_readPart_128 ?_
      exact x_zret dX5_readPart_129 rfl (by omega) (by first | exact Nat.le_of_ble_eq_true rfl | exact x_rm1 (by omega) | exact x_rm2 (by omega)) (by first | exact Nat.le_of_ble_eq_true rfl | exact x_rm1 (by omega) | exact x_rm2 (by omega)) (by rw [hX]; rfl) rfl rfl (by rw [hX]; exact z2) rfl
    refine x_ofW (by decide +kernel) hl (by simp [Value.category]) (by simp) ?_
    by_cases h1 : ¬ tK (D 2) n q = 3 ∧ ¬ tK (D 2) n q = 2
    · rw [if_pos h1] at hX
      obtain ⟨h1a, h1b⟩ := id h1
      refine x_aload_n dX5_readPart_0 x_get_3_0 ?_
      refine x_bipush dX5_readPart_1 rfl ?_
      refine x_callV (As := [_]) dX5_readPart_3 w_5_175 (z5_mark hl hR hlb hz0 ⟨by decide, by decide⟩) (by assumption) (by assumption) rfl rfl (by first | exact Nat.le_of_ble_eq_true rfl | exact x_rm1 (by omega) | exact x_rm2 (by omega)) (by first | exact Nat.le_of_ble_eq_true rfl | exact x_rm1 (by omega) | exact x_rm2 (by omega)) (by first | exact Nat.le_of_ble_eq_true rfl | exact x_rm1 (by omega) | exact x_rm2 (by omega)) (by first | exact Nat.le_of_ble_eq_true rfl | exact x_rm1 (by omega) | exact x_rm2 (by omega)) (by first | exact Nat.le_of_ble_eq_true rfl | exact x_rm1 (by omega) | exact x_rm2 (by omega)) ?_
      intro d hd
      obtain rfl := Eq.symm hd
      refine b_ifeq (t := 38) dX5_readPart_6 rfl (fun hc6 => ?_) (fun hc6 => absurd hc6 (hm))
      refine x_aload_n dX5_readPart_38 x_get_3_0 ?_
      refine x_getI 4 dX5_readPart_39 fX_5_25 rfl (by assumption) (by assumption) (by rfl) ?_
      first | rw [k4] | rw [k5 h3]
      refine x_iconst dX5_readPart_42 ?_
      refine r_icmp_eq (t := 60) dX5_readPart_43 rfl ⟨by omega, by omega⟩ ⟨by omega, by omega⟩ (fun hc43 => absurd hc43 (by omega)) (fun hc43 => ?_)
      refine x_aload_n dX5_readPart_46 x_get_3_0 ?_
      refine x_getI 4 dX5_readPart_47 fX_5_25 rfl (by assumption) (by assumption) (by rfl) ?_
      first | rw [k4] | rw [k5 h3]
      refine x_iconst dX5_readPart_50 ?_
      refine r_icmp_eq (t := 60) dX5_readPart_51 rfl ⟨by omega, by omega⟩ ⟨by omega, by omega⟩ (fun hc51 => absurd hc51 (by omega)) (fun hc51 => ?_)
      refine x_aload_n dX5_readPart_54 x_get_3_0 ?_
      refine x_iconst dX5_readPart_55 ?_
      refine x_callV (As := [_]) dX5_readPart_56 w_5_113 (z5_fail hl hR hlb hz0) (by assumption) (by assumption) rfl rfl (by first | exact Nat.le_of_ble_eq_true rfl | exact x_rm1 (by omega) | exact x_rm2 (by omega)) (by first | exact Nat.le_of_ble_eq_true rfl | exact x_rm1 (by omega) | exact x_rm2 (by omega)) (by first | exact Nat.le_of_ble_eq_true rfl | exact x_rm1 (by omega) | exact x_rm2 (by omega)) (by first | exact Nat.le_of_ble_eq_true rfl | exact x_rm1 (by omega) | exact x_rm2 (by omega)) (by first | exact Nat.le_of_ble_eq_true rfl | exact x_rm1 (by omega) | exact x_rm2 (by omega)) ?_
      intro d1 hd1
      exact x_zret dX5_readPart_59 rfl (by omega) (by first | exact Nat.le_of_ble_eq_true rfl | exact x_rm1 (by omega) | exact x_rm2 (by omega)) (by first | exact Nat.le_of_ble_eq_true rfl | exact x_rm1 (by omega) | exact x_rm2 (by omega)) (by rw [hX]; rfl) rfl rfl (by rw [hX]; exact hd1) rfl
    · rw [if_neg h1] at hX
      by_cases h3 : tK (D 2) n q = 3
      · by_cases hlo : tL (D 2) n q
        · rw [if_pos ⟨h3, hlo⟩] at hX
          refine x_aload_n dX5_readPart_0 x_get_3_0 ?_
          refine x_bipush dX5_readPart_1 rfl ?_
          refine x_callV (As := [_]) dX5_readPart_3 w_5_175 (z5_mark hl hR hlb hz0 ⟨by decide, by decide⟩) (by assumption) (by assumption) rfl rfl (by first | exact Nat.le_of_ble_eq_true rfl | exact x_rm1 (by omega) | exact x_rm2 (by omega)) (by first | exact Nat.le_of_ble_eq_true rfl | exact x_rm1 (by omega) | exact x_rm2 (by omega)) (by first | exact Nat.le_of_ble_eq_true rfl | exact x_rm1 (by omega) | exact x_rm2 (by omega)) (by first | exact Nat.le_of_ble_eq_true rfl | exact x_rm1 (by omega) | exact x_rm2 (by omega)) (by first | exact Nat.le_of_ble_eq_true rfl | exact x_rm1 (by omega) | exact x_rm2 (by omega)) ?_
          intro d hd
          obtain rfl := Eq.symm hd
          refine b_ifeq (t := 38) dX5_readPart_6 rfl (fun hc6 => ?_) (fun hc6 => absurd hc6 (hm))
          refine x_aload_n dX5_readPart_38 x_get_3_0 ?_
          refine x_getI 4 dX5_readPart_39 fX_5_25 rfl (by assumption) (by assumption) (by rfl) ?_
          first | rw [k4] | rw [k5 h3]
          refine x_iconst dX5_readPart_42 ?_
          refine r_icmp_eq (t := 60) dX5_readPart_43 rfl ⟨by omega, by omega⟩ ⟨by omega, by omega⟩ (fun hc43 => ?_) (fun hc43 => absurd hc43 (by omega))
          refine x_aload_n dX5_readPart_60 x_get_3_0 ?_
          refine x_getI 4 dX5_readPart_61 fX_5_25 rfl (by assumption) (by assumption) (by rfl) ?_
          first | rw [k4] | rw [k5 h3]
          refine x_iconst dX5_readPart_64 ?_
          refine r_icmp_ne (t := 81) dX5_readPart_65 rfl ⟨by omega, by omega⟩ ⟨by omega, by omega⟩ (fun hc65 => absurd hc65 (by omega)) (fun hc65 => ?_)
          refine x_aload_n dX5_readPart_68 x_get_3_0 ?_
          refine x_callV (As := []) dX5_readPart_69 w_5_70 (z5_long hl hR hlb hz0) (by assumption) (by assumption) rfl rfl (by first | exact Nat.le_of_ble_eq_true rfl | exact x_rm1 (by omega) | exact x_rm2 (by omega)) (by first | exact Nat.le_of_ble_eq_true rfl | exact x_rm1 (by omega) | exact x_rm2 (by omega)) (by first | exact Nat.le_of_ble_eq_true rfl | exact x_rm1 (by omega) | exact x_rm2 (by omega)) (by first | exact Nat.le_of_ble_eq_true rfl | exact x_rm1 (by omega) | exact x_rm2 (by omega)) (by first | exact Nat.le_of_ble_eq_true rfl | exact x_rm1 (by omega) | exact x_rm2 (by omega)) ?_
          intro d hd
          obtain rfl := Eq.symm hd
          refine b_ifeq (t := 81) dX5_readPart_72 rfl (fun hc72 => absurd hc72 (fun hh => hh hlo)) (fun hc72 => ?_)
          refine x_aload_n dX5_readPart_75 x_get_3_0 ?_
          refine x_iconst dX5_readPart_76 ?_
          refine x_callV (As := [_]) dX5_readPart_77 w_5_113 (z5_fail hl hR hlb hz0) (by assumption) (by assumption) rfl rfl (by first | exact Nat.le_of_ble_eq_true rfl | exact x_rm1 (by omega) | exact x_rm2 (by omega)) (by first | exact Nat.le_of_ble_eq_true rfl | exact x_rm1 (by omega) | exact x_rm2 (by omega)) (by first | exact Nat.le_of_ble_eq_true rfl | exact x_rm1 (by omega) | exact x_rm2 (by omega)) (by first | exact Nat.le_of_ble_eq_true rfl | exact x_rm1 (by omega) | exact x_rm2 (by omega)) (by first | exact Nat.le_of_ble_eq_true rfl | exact x_rm1 (by omega) | exact x_rm2 (by omega)) ?_
          intro d1 hd1
          exact x_zret dX5_readPart_80 rfl (by omega) (by first | exact Nat.le_of_ble_eq_true rfl | exact x_rm1 (by omega) | exact x_rm2 (by omega)) (by first | exact Nat.le_of_ble_eq_true rfl | exact x_rm1 (by omega) | exact x_rm2 (by omega)) (by rw [hX]; rfl) rfl rfl (by rw [hX]; exact hd1) rfl
        · rw [if_neg (fun h => hlo h.2), if_pos h3] at hX
          have hv := tV_in h3
          refine x_aload_n dX5_readPart_0 x_get_3_0 ?_
          refine x_bipush dX5_readPart_1 rfl ?_
          refine x_callV (As := [_]) dX5_readPart_3 w_5_175 (z5_mark hl hR hlb hz0 ⟨by decide, by decide⟩) (by assumption) (by assumption) rfl rfl (by first | exact Nat.le_of_ble_eq_true rfl | exact x_rm1 (by omega) | exact x_rm2 (by omega)) (by first | exact Nat.le_of_ble_eq_true rfl | exact x_rm1 (by omega) | exact x_rm2 (by omega)) (by first | exact Nat.le_of_ble_eq_true rfl | exact x_rm1 (by omega) | exact x_rm2 (by omega)) (by first | exact Nat.le_of_ble_eq_true rfl | exact x_rm1 (by omega) | exact x_rm2 (by omega)) (by first | exact Nat.le_of_ble_eq_true rfl | exact x_rm1 (by omega) | exact x_rm2 (by omega)) ?_
          intro d hd
          obtain rfl := Eq.symm hd
          refine b_ifeq (t := 38) dX5_readPart_6 rfl (fun hc6 => ?_) (fun hc6 => absurd hc6 (hm))
          refine x_aload_n dX5_readPart_38 x_get_3_0 ?_
          refine x_getI 4 dX5_readPart_39 fX_5_25 rfl (by assumption) (by assumption) (by rfl) ?_
          first | rw [k4] | rw [k5 h3]
          refine x_iconst dX5_readPart_42 ?_
          refine r_icmp_eq (t := 60) dX5_readPart_43 rfl ⟨by omega, by omega⟩ ⟨by omega, by omega⟩ (fun hc43 => ?_) (fun hc43 => absurd hc43 (by omega))
          refine x_aload_n dX5_readPart_60 x_get_3_0 ?_
          refine x_getI 4 dX5_readPart_61 fX_5_25 rfl (by assumption) (by assumption) (by rfl) ?_
          first | rw [k4] | rw [k5 h3]
          refine x_iconst dX5_readPart_64 ?_
          refine r_icmp_ne (t := 81) dX5_readPart_65 rfl ⟨by omega, by omega⟩ ⟨by omega, by omega⟩ (fun hc65 => absurd hc65 (by omega)) (fun hc65 => ?_)
          refine x_aload_n dX5_readPart_68 x_get_3_0 ?_
          refine x_callV (As := []) dX5_readPart_69 w_5_70 (z5_long hl hR hlb hz0) (by assumption) (by assumption) rfl rfl (by first | exact Nat.le_of_ble_eq_true rfl | exact x_rm1 (by omega) | exact x_rm2 (by omega)) (by first | exact Nat.le_of_ble_eq_true rfl | exact x_rm1 (by omega) | exact x_rm2 (by omega)) (by first | exact Nat.le_of_ble_eq_true rfl | exact x_rm1 (by omega) | exact x_rm2 (by omega)) (by first | exact Nat.le_of_ble_eq_true rfl | exact x_rm1 (by omega) | exact x_rm2 (by omega)) (by first | exact Nat.le_of_ble_eq_true rfl | exact x_rm1 (by omega) | exact x_rm2 (by omega)) ?_
          intro d hd
          obtain rfl := Eq.symm hd
          refine b_ifeq (t := 81) dX5_readPart_72 rfl (fun hc72 => ?_) (fun hc72 => absurd hc72 (hlo))
          refine x_aload_n dX5_readPart_81 x_get_3_0 ?_
          refine x_getI 4 dX5_readPart_82 fX_5_25 rfl (by assumption) (by assumption) (by rfl) ?_
          first | rw [k4] | rw [k5 h3]
          refine x_iconst dX5_readPart_85 ?_
          refine r_icmp_ne (t := 96) dX5_readPart_86 rfl ⟨by omega, by omega⟩ ⟨by omega, by omega⟩ (fun hc86 => absurd hc86 (by omega)) (fun hc86 => ?_)
          refine x_aload_n dX5_readPart_89 x_get_3_0 ?_
          refine x_getI 5 dX5_readPart_90 fX_5_28 rfl (by assumption) (by assumption) (by rfl) ?_
          first | rw [k4] | rw [k5 h3]
          refine x_goto (t := 100) dX5_readPart_93 rfl ?_
          refine x_istore_n dX5_readPart_100 (by first | exact Nat.le_of_ble_eq_true rfl | exact x_rm1 (by omega) | exact x_rm2 (by omega)) rfl x_set_3_2 ?_
          refine x_iload_n dX5_readPart_101 x_get_3_2 ?_
          refine x_bipush dX5_readPart_102 rfl ?_
          refine r_icmp_ne (t := 113) dX5_readPart_104 rfl ⟨by omega, by omega⟩ ⟨by omega, by omega⟩ (fun hc104 => ?_) (fun hc104 => absurd hc104 (by omega))
          exact g113 _ ⟨by omega, by omega⟩ (by omega) hX
      · rw [if_neg (fun h => h3 h.1), if_neg h3] at hX
        by_cases hv : r_vs (D 2) n q = -16
        · rw [if_pos hv] at hX
          refine x_aload_n dX5_readPart_0 x_get_3_0 ?_
          refine x_bipush dX5_readPart_1 rfl ?_
          refine x_callV (As := [_]) dX5_readPart_3 w_5_175 (z5_mark hl hR hlb hz0 ⟨by decide, by decide⟩) (by assumption) (by assumption) rfl rfl (by first | exact Nat.le_of_ble_eq_true rfl | exact x_rm1 (by omega) | exact x_rm2 (by omega)) (by first | exact Nat.le_of_ble_eq_true rfl | exact x_rm1 (by omega) | exact x_rm2 (by omega)) (by first | exact Nat.le_of_ble_eq_true rfl | exact x_rm1 (by omega) | exact x_rm2 (by omega)) (by first | exact Nat.le_of_ble_eq_true rfl | exact x_rm1 (by omega) | exact x_rm2 (by omega)) (by first | exact Nat.le_of_ble_eq_true rfl | exact x_rm1 (by omega) | exact x_rm2 (by omega)) ?_
          intro d hd
          obtain rfl := Eq.symm hd
          refine b_ifeq (t := 38) dX5_readPart_6 rfl (fun hc6 => ?_) (fun hc6 => absurd hc6 (hm))
          refine x_aload_n dX5_readPart_38 x_get_3_0 ?_
          refine x_getI 4 dX5_readPart_39 fX_5_25 rfl (by assumption) (by assumption) (by rfl) ?_
          first | rw [k4] | rw [k5 h3]
          refine x_iconst dX5_readPart_42 ?_
          refine r_icmp_eq (t := 60) dX5_readPart_43 rfl ⟨by omega, by omega⟩ ⟨by omega, by omega⟩ (fun hc43 => absurd hc43 (by omega)) (fun hc43 => ?_)
          refine x_aload_n dX5_readPart_46 x_get_3_0 ?_
          refine x_getI 4 dX5_readPart_47 fX_5_25 rfl (by assumption) (by assumption) (by rfl) ?_
          first | rw [k4] | rw [k5 h3]
          refine x_iconst dX5_readPart_50 ?_
          refine r_icmp_eq (t := 60) dX5_readPart_51 rfl ⟨by omega, by omega⟩ ⟨by omega, by omega⟩ (fun hc51 => ?_) (fun hc51 => absurd hc51 (by omega))
          refine x_aload_n dX5_readPart_60 x_get_3_0 ?_
          refine x_getI 4 dX5_readPart_61 fX_5_25 rfl (by assumption) (by assumption) (by rfl) ?_
          first | rw [k4] | rw [k5 h3]
          refine x_iconst dX5_readPart_64 ?_
          refine r_icmp_ne (t := 81) dX5_readPart_65 rfl ⟨by omega, by omega⟩ ⟨by omega, by omega⟩ (fun hc65 => ?_) (fun hc65 => absurd hc65 (by omega))
          refine x_aload_n dX5_readPart_81 x_get_3_0 ?_
          refine x_getI 4 dX5_readPart_82 fX_5_25 rfl (by assumption) (by assumption) (by rfl) ?_
          first | rw [k4] | rw [k5 h3]
          refine x_iconst dX5_readPart_85 ?_
          refine r_icmp_ne (t := 96) dX5_readPart_86 rfl ⟨by omega, by omega⟩ ⟨by omega, by omega⟩ (fun hc86 => ?_) (fun hc86 => absurd hc86 (by omega))
          refine x_aload_n dX5_readPart_96 x_get_3_0 ?_
          refine x_callV (As := []) dX5_readPart_97 w_5_205 (z5_vs hl hR hlb hz0) (by assumption) (by assumption) rfl rfl (by first | exact Nat.le_of_ble_eq_true rfl | exact x_rm1 (by omega) | exact x_rm2 (by omega)) (by first | exact Nat.le_of_ble_eq_true rfl | exact x_rm1 (by omega) | exact x_rm2 (by omega)) (by first | exact Nat.le_of_ble_eq_true rfl | exact x_rm1 (by omega) | exact x_rm2 (by omega)) (by first | exact Nat.le_of_ble_eq_true rfl | exact x_rm1 (by omega) | exact x_rm2 (by omega)) (by first | exact Nat.le_of_ble_eq_true rfl | exact x_rm1 (by omega) | exact x_rm2 (by omega)) ?_
          intro d hd
          obtain rfl := Eq.symm hd
          refine x_istore_n dX5_readPart_100 (by first | exact Nat.le_of_ble_eq_true rfl | exact x_rm1 (by omega) | exact x_rm2 (by omega)) rfl x_set_3_2 ?_
          refine x_iload_n dX5_readPart_101 x_get_3_2 ?_
          refine x_bipush dX5_readPart_102 rfl ?_
          refine r_icmp_ne (t := 113) dX5_readPart_104 rfl ⟨by omega, by omega⟩ ⟨by omega, by omega⟩ (fun hc104 => absurd hc104 (by omega)) (fun hc104 => ?_)
          refine x_aload_n dX5_readPart_107 x_get_3_0 ?_
          refine x_iconst dX5_readPart_108 ?_
          refine x_callV (As := [_]) dX5_readPart_109 w_5_113 (z5_fail hl hR hlb hz0) (by assumption) (by assumption) rfl rfl (by first | exact Nat.le_of_ble_eq_true rfl | exact x_rm1 (by omega) | exact x_rm2 (by omega)) (by first | exact Nat.le_of_ble_eq_true rfl | exact x_rm1 (by omega) | exact x_rm2 (by omega)) (by first | exact Nat.le_of_ble_eq_true rfl | exact x_rm1 (by omega) | exact x_rm2 (by omega)) (by first | exact Nat.le_of_ble_eq_true rfl | exact x_rm1 (by omega) | exact x_rm2 (by omega)) (by first | exact Nat.le_of_ble_eq_true rfl | exact x_rm1 (by omega) | exact x_rm2 (by omega)) ?_
          intro d1 hd1
          exact x_zret dX5_readPart_112 rfl (by omega) (by first | exact Nat.le_of_ble_eq_true rfl | exact x_rm1 (by omega) | exact x_rm2 (by omega)) (by first | exact Nat.le_of_ble_eq_true rfl | exact x_rm1 (by omega) | exact x_rm2 (by omega)) (by rw [hX]; rfl) rfl rfl (by rw [hX]; exact hd1) rfl
        · rw [if_neg hv] at hX
          refine x_aload_n dX5_readPart_0 x_get_3_0 ?_
          refine x_bipush dX5_readPart_1 rfl ?_
          refine x_callV (As := [_]) dX5_readPart_3 w_5_175 (z5_mark hl hR hlb hz0 ⟨by decide, by decide⟩) (by assumption) (by assumption) rfl rfl (by first | exact Nat.le_of_ble_eq_true rfl | exact x_rm1 (by omega) | exact x_rm2 (by omega)) (by first | exact Nat.le_of_ble_eq_true rfl | exact x_rm1 (by omega) | exact x_rm2 (by omega)) (by first | exact Nat.le_of_ble_eq_true rfl | exact x_rm1 (by omega) | exact x_rm2 (by omega)) (by first | exact Nat.le_of_ble_eq_true rfl | exact x_rm1 (by omega) | exact x_rm2 (by omega)) (by first | exact Nat.le_of_ble_eq_true rfl | exact x_rm1 (by omega) | exact x_rm2 (by omega)) ?_
          intro d hd
          obtain rfl := Eq.symm hd
          refine b_ifeq (t := 38) dX5_readPart_6 rfl (fun hc6 => ?_) (fun hc6 => absurd hc6 (hm))
          refine x_aload_n dX5_readPart_38 x_get_3_0 ?_
          refine x_getI 4 dX5_readPart_39 fX_5_25 rfl (by assumption) (by assumption) (by rfl) ?_
          first | rw [k4] | rw [k5 h3]
          refine x_iconst dX5_readPart_42 ?_
          refine r_icmp_eq (t := 60) dX5_readPart_43 rfl ⟨by omega, by omega⟩ ⟨by omega, by omega⟩ (fun hc43 => absurd hc43 (by omega)) (fun hc43 => ?_)
          refine x_aload_n dX5_readPart_46 x_get_3_0 ?_
          refine x_getI 4 dX5_readPart_47 fX_5_25 rfl (by assumption) (by assumption) (by rfl) ?_
          first | rw [k4] | rw [k5 h3]
          refine x_iconst dX5_readPart_50 ?_
          refine r_icmp_eq (t := 60) dX5_readPart_51 rfl ⟨by omega, by omega⟩ ⟨by omega, by omega⟩ (fun hc51 => ?_) (fun hc51 => absurd hc51 (by omega))
          refine x_aload_n dX5_readPart_60 x_get_3_0 ?_
          refine x_getI 4 dX5_readPart_61 fX_5_25 rfl (by assumption) (by assumption) (by rfl) ?_
          first | rw [k4] | rw [k5 h3]
          refine x_iconst dX5_readPart_64 ?_
          refine r_icmp_ne (t := 81) dX5_readPart_65 rfl ⟨by omega, by omega⟩ ⟨by omega, by omega⟩ (fun hc65 => ?_) (fun hc65 => absurd hc65 (by omega))
          refine x_aload_n dX5_readPart_81 x_get_3_0 ?_
          refine x_getI 4 dX5_readPart_82 fX_5_25 rfl (by assumption) (by assumption) (by rfl) ?_
          first | rw [k4] | rw [k5 h3]
          refine x_iconst dX5_readPart_85 ?_
          refine r_icmp_ne (t := 96) dX5_readPart_86 rfl ⟨by omega, by omega⟩ ⟨by omega, by omega⟩ (fun hc86 => ?_) (fun hc86 => absurd hc86 (by omega))
          refine x_aload_n dX5_readPart_96 x_get_3_0 ?_
          refine x_callV (As := []) dX5_readPart_97 w_5_205 (z5_vs hl hR hlb hz0) (by assumption) (by assumption) rfl rfl (by first | exact Nat.le_of_ble_eq_true rfl | exact x_rm1 (by omega) | exact x_rm2 (by omega)) (by first | exact Nat.le_of_ble_eq_true rfl | exact x_rm1 (by omega) | exact x_rm2 (by omega)) (by first | exact Nat.le_of_ble_eq_true rfl | exact x_rm1 (by omega) | exact x_rm2 (by omega)) (by first | exact Nat.le_of_ble_eq_true rfl | exact x_rm1 (by omega) | exact x_rm2 (by omega)) (by first | exact Nat.le_of_ble_eq_true rfl | exact x_rm1 (by omega) | exact x_rm2 (by omega)) ?_
          intro d hd
          obtain rfl := Eq.symm hd
          refine x_istore_n dX5_readPart_100 (by first | exact Nat.le_of_ble_eq_true rfl | exact x_rm1 (by omega) | exact x_rm2 (by omega)) rfl x_set_3_2 ?_
          refine x_iload_n dX5_readPart_101 x_get_3_2 ?_
          refine x_bipush dX5_readPart_102 rfl ?_
          refine r_icmp_ne (t := 113) dX5_readPart_104 rfl ⟨by omega, by omega⟩ ⟨by omega, by omega⟩ (fun hc104 => ?_) (fun hc104 => absurd hc104 (by omega))
          exact g113 _ ⟨by omega, by omega⟩ (by omega) hX
end C993
