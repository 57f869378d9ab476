section C996
/-! ===== Reader: a line ===== -/
abbrev Tx : Type := xM × Option (List Int)
def cl (lb : Nat) (S : Tx) (d : xM) : Prop := (∀ j, j ≠ 1 → j ≠ lb + 10 → j ≠ lb + 11 → d j = S.1 j) ∧ d (lb + 10) 3 = x_B (S.2.isSome = true) ∧ ru_is d lb (S.2.getD [])
def ra (b : Int → Int) (n lb : Nat) (S : Tx) (q : Nat) (d : xM) : Prop := rs d n q ∧ d 2 = b ∧ cl lb S d ∧ d 1 8 = 0 ∧ d 1 9 = -1
def rfa (b : Int → Int) (n lb : Nat) (S1 : xM) (z : Int × Nat) (d : xM) : Prop := (∀ j, j ≠ 1 → j ≠ lb + 10 → j ≠ lb + 11 → d j = S1 j) ∧ d 1 8 = z.1 ∧ d 1 9 = (tS b n z.2 : Nat)
def rp_1 (b : Int → Int) (n lb : Nat) (S : Tx) (r : Rs Tx) (d : xM) : Prop := match r with
  | .inl z => rfa b n lb S.1 z d
  | .inr z => ra b n lb z.1 z.2 d
def r_ods (b : Int → Int) (n : Nat) (S : Tx) (q : Nat) : Rs Tx := if S.2.isSome = true then .inl (5, q) else r_bd (r_exp b n 6 (tE b n q)) (fun L q1 => .inr ((S.1, some L), q1))
/-- a line but for its end -/
def r_ln1 (b : Int → Int) (n lb : Nat) (S : Tx) (q : Nat) : Rs Tx :=
  if tW b n q 1 then r_bd (r_twn b n (S.1 lb 0).toNat q) (fun v q1 => .inr ((x_tn lb (S.1 lb 0).toNat v S.1, S.2), q1))
  else if tW b n q 2 then r_bd (r_way b n (S.1 lb 0).toNat (S.1 (lb + 3) 0).toNat (S.1 (lb + 3 + 1)) (S.1 (lb + 3 + 2)) q) (fun v q1 => .inr ((x_wy lb (S.1 (lb + 3) 0).toNat v S.1, S.2), q1))
  else if tW b n q 3 ∨ tW b n q 4 then r_bd (r_crt b n (S.1 lb 0).toNat (S.1 lb 1).toNat q) (fun v q1 => .inr ((x_cr lb (S.1 lb 1).toNat (tW b n q 4) v S.1, S.2), q1))
  else if tW b n q 6 then r_ods b n S q
  else .inl (1, q)
def r_lin (b : Int → Int) (n lb : Nat) (S : Tx) (q : Nat) : Rs Tx := r_bd (r_ln1 b n lb S q) (fun S2 q2 => if tM b n q2 59 then .inr (S2, tE b n q2) else .inl (1, q2))
def rpl (b : Int → Int) (n lb : Nat) (S : Tx) (q : Nat) (r : Rs Tx) (d : xM) : Prop := match r with
  | .inl z => ∃ S1 : Tx, (S1 = S ∨ ∃ q1, r_ln1 b n lb S q = .inr (S1, q1)) ∧ rfa b n lb S1.1 z d
  | .inr z => ra b n lb z.1 z.2 d
def svn (lb : Nat) (S : xM) : Prop := (S lb 0 = ((S lb 0).toNat : Nat) ∧ (S lb 0).toNat ≤ 8) ∧ (S lb 1 = ((S lb 1).toNat : Nat) ∧ (S lb 1).toNat ≤ 10) ∧ ∃ T0 : Nat, rd S (lb + 3) (S (lb + 3) 0).toNat T0
theorem rfa_fl {n lb q : Nat} {w : Int} {S : Tx} {D d : xM} (hc : cl lb S D) (h : d = r_fl w n q D) : rfa (D 2) n lb S.1 (w, q) d := by
  obtain ⟨a1, a2, a3, a4⟩ := r_fl_ps h
  exact ⟨fun j x y z => (a1 j x).trans (hc.1 j x y z), a3, a4⟩
theorem rfa_pf {n lb : Nat} {S : Tx} {z : Int × Nat} {D d : xM} (hc : cl lb S D) (h : r_pf n z D d) : rfa (D 2) n lb S.1 z d := ⟨fun j x y w => (h.1 j x).trans (hc.1 j x y w), h.2.2.1, h.2.2.2⟩
theorem cl_of {lb : Nat} {S : Tx} {D d : xM} {S1 : xM} (hc : cl lb S D) (h1 : ∀ j, j ≠ 1 → j ≠ lb + 10 → j ≠ lb + 11 → d j = S1 j) (h2 : d (lb + 10) = D (lb + 10)) (h3 : d (lb + 11) = D (lb + 11)) : cl lb (S1, S.2) d := by
  refine ⟨h1, by rw [h2]; exact hc.2.1, ?_⟩
  have hu := hc.2.2
  unfold ru_is at hu ⊢
  rw [h2, h3]
  exact hu
theorem ra_r1 {b : Int → Int} {n lb q q2 : Nat} {S : Tx} {D d : xM} (hlb : 3 ≤ lb) (h : ra b n lb S q D) (h1 : rs d n q2) (h2 : r1 D d) : ra b n lb S q2 d := by
  obtain ⟨a1, a2, a3, a4, a5⟩ := h
  refine ⟨h1, by rw [h2.1 2 (by decide)]; exact a2, ?_, by rw [h2.2 8 (by decide)]; exact a4, by rw [h2.2 9 (by decide)]; exact a5⟩
  exact cl_of a3 (fun j x y z => (h2.1 j x).trans (a3.1 j x y z)) (h2.1 _ (by omega)) (h2.1 _ (by omega))
theorem x_tn_cg {lb : Nat} {T : Nat} {v : Int × Int × Int × Int} {D S : xM} (hlb : 3 ≤ lb) (h : ∀ j, j ≠ 1 → j ≠ lb + 10 → j ≠ lb + 11 → D j = S j) : ∀ j, j ≠ 1 → j ≠ lb + 10 → j ≠ lb + 11 → x_tn lb T v D j = x_tn lb T v S j := by
  intro j a b c
  unfold x_tn
  rw [h (lb + 14) (by omega) (by omega) (by omega), h (lb + 1) (by omega) (by omega) (by omega), h (lb + 2) (by omega) (by omega) (by omega), h (lb) (by omega) (by omega) (by omega)]
  unfold x_up
  rw [h j a b c]
theorem x_tn_rl {lb : Nat} {T : Nat} {v : Int × Int × Int × Int} {D : xM} (hlb : 3 ≤ lb) : x_tn lb T v D (lb + 10) = D (lb + 10) ∧ x_tn lb T v D (lb + 11) = D (lb + 11) ∧ ∀ j, j < lb ∨ lb + 14 < j → x_tn lb T v D j = D j := by
  refine ⟨by unfold x_tn; rw [x_up_n (by omega), x_up_n (by omega), x_up_n (by omega), x_up_n (by omega)], by unfold x_tn; rw [x_up_n (by omega), x_up_n (by omega), x_up_n (by omega), x_up_n (by omega)], fun j hj => by unfold x_tn; rw [x_up_n (by omega), x_up_n (by omega), x_up_n (by omega), x_up_n (by omega)]⟩
theorem x_cr_cg {lb : Nat} {C : Nat} {ba : Prop} [Decidable ba] {v : Int × Int × Int} {D S : xM} (hlb : 3 ≤ lb) (h : ∀ j, j ≠ 1 → j ≠ lb + 10 → j ≠ lb + 11 → D j = S j) : ∀ j, j ≠ 1 → j ≠ lb + 10 → j ≠ lb + 11 → x_cr lb C ba v D j = x_cr lb C ba v S j := by
  intro j a b c
  unfold x_cr
  rw [h (lb + 14) (by omega) (by omega) (by omega), h (lb) (by omega) (by omega) (by omega)]
  unfold x_up
  rw [h j a b c]
theorem x_cr_rl {lb : Nat} {C : Nat} {ba : Prop} [Decidable ba] {v : Int × Int × Int} {D : xM} (hlb : 3 ≤ lb) : x_cr lb C ba v D (lb + 10) = D (lb + 10) ∧ x_cr lb C ba v D (lb + 11) = D (lb + 11) ∧ ∀ j, j < lb ∨ lb + 14 < j → x_cr lb C ba v D j = D j := by
  refine ⟨by unfold x_cr; rw [x_up_n (by omega), x_up_n (by omega)], by unfold x_cr; rw [x_up_n (by omega), x_up_n (by omega)], fun j hj => by unfold x_cr; rw [x_up_n (by omega), x_up_n (by omega)]⟩
theorem x_wy_cg {lb : Nat} {W : Nat} {v : Int × Int × Int × Int} {D S : xM} (hlb : 3 ≤ lb) (h : ∀ j, j ≠ 1 → j ≠ lb + 10 → j ≠ lb + 11 → D j = S j) : ∀ j, j ≠ 1 → j ≠ lb + 10 → j ≠ lb + 11 → x_wy lb W v D j = x_wy lb W v S j := by
  intro j a b c
  unfold x_wy
  rw [h (lb + 3 + 1) (by omega) (by omega) (by omega), h (lb + 3 + 2) (by omega) (by omega) (by omega), h (lb + 3 + 3) (by omega) (by omega) (by omega), h (lb + 3 + 4) (by omega) (by omega) (by omega), h (lb + 3) (by omega) (by omega) (by omega)]
  unfold x_up
  rw [h j a b c]
theorem x_wy_rl {lb : Nat} {W : Nat} {v : Int × Int × Int × Int} {D : xM} (hlb : 3 ≤ lb) : x_wy lb W v D (lb + 10) = D (lb + 10) ∧ x_wy lb W v D (lb + 11) = D (lb + 11) ∧ ∀ j, j < lb ∨ lb + 14 < j → x_wy lb W v D j = D j := by
  refine ⟨by unfold x_wy; rw [x_up_n (by omega), x_up_n (by omega), x_up_n (by omega), x_up_n (by omega), x_up_n (by omega)], by unfold x_wy; rw [x_up_n (by omega), x_up_n (by omega), x_up_n (by omega), x_up_n (by omega), x_up_n (by omega)], fun j hj => by unfold x_wy; rw [x_up_n (by omega), x_up_n (by omega), x_up_n (by omega), x_up_n (by omega), x_up_n (by omega)]⟩
theorem ra_up {b : Int → Int} {n lb q q2 : Nat} {S : Tx} {D d S1 : xM} {F : xM} (hlb : 3 ≤ lb) (h : ra b n lb S q D) (h1 : rs d n q2) (h2 : ∀ j, j ≠ 1 → d j = F j) (h3 : ∀ i, i < 2 ∨ 6 < i → d 1 i = D 1 i) (f1 : ∀ j, j ≠ 1 → j ≠ lb + 10 → j ≠ lb + 11 → F j = S1 j) (f2 : F (lb + 10) = D (lb + 10) ∧ F (lb + 11) = D (lb + 11) ∧ ∀ j, j < lb ∨ lb + 14 < j → F j = D j) : ra b n lb (S1, S.2) q2 d := by
  obtain ⟨a1, a2, a3, a4, a5⟩ := h
  refine ⟨h1, by rw [h2 2 (by decide), f2.2.2 2 (by omega)]; exact a2, ?_, by rw [h3 8 (by decide)]; exact a4, by rw [h3 9 (by decide)]; exact a5⟩
  exact cl_of a3 (fun j x y z => (h2 j x).trans (f1 j x y z)) (by rw [h2 _ (by omega)]; exact f2.1) (by rw [h2 _ (by omega)]; exact f2.2.1)
theorem rd_cg {ro W T : Nat} {D S : xM} (h : ∀ j, ro ≤ j → j ≤ ro + 6 → D j = S j) (hr : rd S ro W T) : rd D ro W T := by
  unfold rd at hr ⊢
  rw [h ro (by omega) (by omega), h (ro + 1) (by omega) (by omega), h (ro + 2) (by omega) (by omega), h (ro + 3) (by omega) (by omega), h (ro + 4) (by omega) (by omega), h (ro + 5) (by omega) (by omega), h (ro + 6) (by omega) (by omega)]
  exact hr
theorem w_5_104 : x_cv RX5 104 yX5_readCrate cX5_readCrate 5 (some .boolean) 5 1 := ⟨⟨_, rfl, rfl⟩, (x_in 804 (by decide +kernel) rfl), (x_in 805 (by decide +kernel) rfl), (x_in 806 (by decide +kernel) rfl), (x_in 81 (by decide +kernel) rfl), (x_in 807 (by decide +kernel) rfl), by decide, ⟨by decide +kernel, by decide +kernel, by decide +kernel⟩⟩
theorem w_5_110 : x_cv RX5 110 yX5_readOdds cX5_readOdds 1 (some .boolean) 5 0 := ⟨⟨_, rfl, rfl⟩, (x_in 814 (by decide +kernel) rfl), (x_in 815 (by decide +kernel) rfl), (x_in 816 (by decide +kernel) rfl), (x_in 81 (by decide +kernel) rfl), (x_in 817 (by decide +kernel) rfl), by decide, ⟨by decide +kernel, by decide +kernel, by decide +kernel⟩⟩
theorem w_5_92 : x_cv RX5 92 yX5_readTown cX5_readTown 4 (some .boolean) 5 0 := ⟨⟨_, rfl, rfl⟩, (x_in 757 (by decide +kernel) rfl), (x_in 758 (by decide +kernel) rfl), (x_in 759 (by decide +kernel) rfl), (x_in 81 (by decide +kernel) rfl), (x_in 760 (by decide +kernel) rfl), by decide, ⟨by decide +kernel, by decide +kernel, by decide +kernel⟩⟩
theorem w_5_97 : x_cv RX5 97 yX5_readWay cX5_readWay 4 (some .boolean) 5 0 := ⟨⟨_, rfl, rfl⟩, (x_in 774 (by decide +kernel) rfl), (x_in 775 (by decide +kernel) rfl), (x_in 776 (by decide +kernel) rfl), (x_in 81 (by decide +kernel) rfl), (x_in 777 (by decide +kernel) rfl), by decide, ⟨by decide +kernel, by decide +kernel, by decide +kernel⟩⟩
set_option maxHeartbeats 4000000 in
theorem r5_odds {X : xC} {l : Launch} (hl : l.stackTraces = false) {N : Nat} {sh : xS} {D : xM} {lb n q : Nat} {b : Int → Int} {S : Tx} (hR : is_Rd N sh lb) (hlb : 3 ≤ lb) (hL : is_L N sh lb) (hra : ra b n lb S q D) : x_M X l yX5_readOdds cX5_readOdds 1 (some .boolean) 50 0 0 [.ref (x_b X + 1)] false N sh D (.inl (some (.int (xI (r_o (r_ods b n S q)))))) false N sh (rp_1 b n lb S (r_ods b n S q)) := by
  obtain ⟨hRN, x1, x2⟩ := id hR
  have n1 : 1 < N := by omega
  have xl := hL.2.1
  have nl : lb < N := by have := hL.1; omega
  have xru := (is_L_ru hL).2.1
  have nru : lb + 10 < N := by have := hL.1; omega
  obtain ⟨hs, rfl, hc, h8, h9⟩ := id hra
  have hqn := hs.2.1
  have hn7 := hs.1.2.1
  by_cases ht : S.2.isSome = true
  · have hX : r_ods (D 2) n S q = .inl (5, q) := if_pos ht
    have k3 : D (lb + 10) 3 = 1 := by rw [hc.2.1, x_B, if_pos ht]
    refine x_ofW (by decide +kernel) hl (by simp [Value.category]) (by simp) ?_
    refine x_aload_n dX5_readOdds_0 x_get_1_0 ?_
    refine x_getR dX5_readOdds_1 fX_5_37 (by assumption) (by assumption) (by rfl) ?_
    refine x_getR dX5_readOdds_4 fX_5_162 (by assumption) (by assumption) (by rfl) ?_
    refine x_getI 3 dX5_readOdds_7 fX_5_166 rfl (by assumption) (by assumption) (by rfl) ?_
    rw [k3]
    refine r_if_eq (t := 19) dX5_readOdds_10 rfl ⟨by omega, by omega⟩ (fun hc10 => absurd hc10 (by omega)) (fun hc10 => ?_)
    refine x_aload_n dX5_readOdds_13 x_get_1_0 ?_
    refine x_iconst dX5_readOdds_14 ?_
    refine x_callV (As := [_]) dX5_readOdds_15 w_5_113 (r5_fail hl hR hs) (by assumption) (by assumption) rfl rfl (Nat.le_of_ble_eq_true rfl) (Nat.le_of_ble_eq_true rfl) (Nat.le_of_ble_eq_true rfl) (Nat.le_of_ble_eq_true rfl) (Nat.le_of_ble_eq_true rfl) ?_
    intro d hd
    obtain rfl := Eq.symm hd
    exact x_zret dX5_readOdds_18 rfl (by omega) (Nat.le_of_ble_eq_true rfl) (Nat.le_of_ble_eq_true rfl) (by rw [hX]; rfl) rfl rfl (by rw [hX]; exact rfa_fl hc rfl) rfl
  · have hX : r_ods (D 2) n S q = r_bd (r_exp (D 2) n 6 (tE (D 2) n q)) (fun L q1 => .inr ((S.1, some L), q1)) := if_neg ht
    have k3 : D (lb + 10) 3 = 0 := by rw [hc.2.1, x_B, if_neg ht]
    have hS : S.2.getD [] = [] := by cases hh : S.2 with
      | none => rfl
      | some v => rw [hh] at ht; exact absurd rfl ht
    have hu := hc.2.2
    rw [hS] at hu
    obtain ⟨DD, hDD⟩ : ∃ DD, DD = x_up D (lb + 10) (x_u1 (D (lb + 10)) 3 1) := ⟨_, rfl⟩
    have f1 : ∀ j, j ≠ lb + 10 → DD j = D j := fun j hj => by rw [hDD, x_up_n hj]
    have f2 : ∀ i, i ≠ 3 → DD (lb + 10) i = D (lb + 10) i := fun i hi => by rw [hDD, x_up_s, x_u1_n hi]
    have f3 : DD (lb + 10) 3 = 1 := by rw [hDD, x_up_s, x_u1_s]
    have hs2 : rs DD n q := rs_of hs (f1 1 (by omega)) (f1 2 (by omega))
    have hu2 : ru_is DD lb [] := by
      unfold ru_is at hu ⊢
      rw [f1 (lb + 11) (by omega), f2 2 (by decide), f2 4 (by decide)]
      exact hu
    have hz0 := rz_0 hs2 hu2
    have e2 : DD 2 = D 2 := f1 2 (by omega)
    have e0 : (6 : Int) - ((6 : Nat) : Int) = 0 := by decide
    have hex := z5_expr (X := X) (l := l) (n := n) hl hR hlb hL 6 (by decide)
    rw [e0] at hex
    refine x_ofW (by decide +kernel) hl (by simp [Value.category]) (by simp) ?_
    refine x_aload_n dX5_readOdds_0 x_get_1_0 ?_
    refine x_getR dX5_readOdds_1 fX_5_37 (by assumption) (by assumption) (by rfl) ?_
    refine x_getR dX5_readOdds_4 fX_5_162 (by assumption) (by assumption) (by rfl) ?_
    refine x_getI 3 dX5_readOdds_7 fX_5_166 rfl (by assumption) (by assumption) (by rfl) ?_
    first | rw [k3] | rw [← hDD]
    refine r_if_eq (t := 19) dX5_readOdds_10 rfl ⟨by omega, by omega⟩ (fun hc10 => ?_) (fun hc10 => absurd hc10 (by omega))
    refine x_aload_n dX5_readOdds_19 x_get_1_0 ?_
    refine x_getR dX5_readOdds_20 fX_5_37 (by assumption) (by assumption) (by rfl) ?_
    refine x_getR dX5_readOdds_23 fX_5_162 (by assumption) (by assumption) (by rfl) ?_
    refine x_iconst dX5_readOdds_26 ?_
    refine x_putZ 3 dX5_readOdds_27 fX_5_166 rfl tX_7_3 (by assumption) (by assumption) (by rfl) (by omega) ?_
    first | rw [k3] | rw [← hDD]
    refine x_aload_n dX5_readOdds_30 x_get_1_0 ?_
    refine x_callV (As := []) dX5_readOdds_31 w_5_56 (z5_adv hl hR hlb hz0) (by assumption) (by assumption) rfl rfl (Nat.le_of_ble_eq_true rfl) (Nat.le_of_ble_eq_true rfl) (Nat.le_of_ble_eq_true rfl) (Nat.le_of_ble_eq_true rfl) (Nat.le_of_ble_eq_true rfl) ?_
    intro d1 z1
    have c1 := z5_sub hex hlb z1 (by simp)
    rw [e2] at c1
    refine x_aload_n dX5_readOdds_34 x_get_1_0 ?_
    refine x_iconst dX5_readOdds_35 ?_
    rcases hf : r_exp (D 2) n 6 (tE (D 2) n q) with z | z
    · rw [hf] at c1 hX
      refine x_callV (As := [_]) dX5_readOdds_36 w_5_172 (c1) (by assumption) (by assumption) rfl rfl (Nat.le_of_ble_eq_true rfl) (Nat.le_of_ble_eq_true rfl) (Nat.le_of_ble_eq_true rfl) (Nat.le_of_ble_eq_true rfl) (Nat.le_of_ble_eq_true rfl) ?_
      intro d2 hd2
      obtain ⟨a1, a2, a3, a4⟩ := id hd2
      rw [e2] at a4
      exact x_zret dX5_readOdds_39 rfl (Or.inl rfl) (Nat.le_of_ble_eq_true rfl) (Nat.le_of_ble_eq_true rfl) (by rw [hX]; rfl) rfl rfl (by rw [hX]; exact ⟨fun j x y z => (a1 j x y z).trans ((f1 j y).trans (hc.1 j x y z)), a3, a4⟩) rfl
    · rw [hf] at c1 hX
      refine x_callV (As := [_]) dX5_readOdds_36 w_5_172 (c1) (by assumption) (by assumption) rfl rfl (Nat.le_of_ble_eq_true rfl) (Nat.le_of_ble_eq_true rfl) (Nat.le_of_ble_eq_true rfl) (Nat.le_of_ble_eq_true rfl) (Nat.le_of_ble_eq_true rfl) ?_
      intro d2 hd2
      obtain ⟨a1, a2, a3⟩ := id hd2
      exact x_zret dX5_readOdds_39 rfl (Or.inr rfl) (Nat.le_of_ble_eq_true rfl) (Nat.le_of_ble_eq_true rfl) (by rw [hX]; rfl) rfl rfl (by rw [hX]; exact ⟨a1, (a2.1 2 (by decide) (by omega) (by omega)).trans e2, ⟨fun j x y z => (a2.1 j x y z).trans ((f1 j y).trans (hc.1 j x y z)), a2.2.2.trans f3, a3⟩, (a2.2.1 8 (by decide)).trans ((congrFun (f1 1 (by omega)) 8).trans h8), (a2.2.1 9 (by decide)).trans ((congrFun (f1 1 (by omega)) 9).trans h9)⟩) rfl
set_option maxHeartbeats 4000000 in
theorem r5_line {X : xC} {l : Launch} (hl : l.stackTraces = false) {N : Nat} {sh : xS} {D : xM} {lb n q : Nat} {b : Int → Int} {S : Tx} (hR : is_Rd N sh lb) (hlb : 3 ≤ lb) (hL : is_L N sh lb) (hra : ra b n lb S q D) (hv : svn lb S.1) : x_M X l yX5_readLine cX5_readLine 2 (some .boolean) 51 0 0 [.ref (x_b X + 1)] false N sh D (.inl (some (.int (xI (r_o (r_lin b n lb S q)))))) false N sh (rpl b n lb S q (r_lin b n lb S q)) := by
  obtain ⟨hRN, x1, x2⟩ := id hR
  have n1 : 1 < N := by omega
  have xl := hL.2.1
  have nl : lb < N := by have := hL.1; omega
  have xru := (is_L_ru hL).2.1
  have nru : lb + 10 < N := by have := hL.1; omega
  obtain ⟨hs, rfl, hc, h8, h9⟩ := id hra
  have hqn := hs.2.1
  have hn7 := hs.1.2.1
  obtain ⟨⟨v1, v2⟩, ⟨v3, v4⟩, T0, v5⟩ := hv
  have hT : D lb 0 = ((S.1 lb 0).toNat : Nat) := by rw [hc.1 lb (by omega) (by omega) (by omega)]; exact v1
  have hC : D lb 1 = ((S.1 lb 1).toNat : Nat) := by rw [hc.1 lb (by omega) (by omega) (by omega)]; exact v3
  have hrd : rd D (lb + 3) (S.1 (lb + 3) 0).toNat T0 := rd_cg (fun j a b => hc.1 j (by omega) (by omega) (by omega)) v5
  have g89F : ∀ (z : Int × Nat) (d : xM), r_ln1 (D 2) n lb S q = .inl z → rfa (D 2) n lb S.1 z d → x_W (X, l, yX5_readLine, cX5_readLine, 2, (some .boolean), x_room 51 0 0, 0, 0, (.inl (some (.int (xI (r_o (r_lin (D 2) n lb S q)))))), N, sh, (rpl (D 2) n lb S q (r_lin (D 2) n lb S q)), false, []) 89 [some (.ref (x_b X + 1)), some (.int (xI 0))] [] 0 0 false N sh d := by
    intro z d hX1 hd
    have hX : r_lin (D 2) n lb S q = .inl z := by unfold r_lin; rw [hX1]; rfl
    refine x_iload_n dX5_readLine_89 x_get_2_1 ?_
    refine r_if_eq (t := 106) dX5_readLine_90 rfl ⟨by omega, by omega⟩ (fun hc90 => ?_) (fun hc90 => absurd hc90 (by omega))
    refine x_iconst dX5_readLine_106 ?_
    exact x_zret dX5_readLine_107 rfl (by omega) (Nat.le_of_ble_eq_true rfl) (Nat.le_of_ble_eq_true rfl) (by rw [hX]; rfl) rfl rfl (by rw [hX]; exact ⟨S, Or.inl rfl, hd⟩) rfl
  have g89T : ∀ (z : Tx × Nat) (d : xM), r_ln1 (D 2) n lb S q = .inr z → ra (D 2) n lb z.1 z.2 d → x_W (X, l, yX5_readLine, cX5_readLine, 2, (some .boolean), x_room 51 0 0, 0, 0, (.inl (some (.int (xI (r_o (r_lin (D 2) n lb S q)))))), N, sh, (rpl (D 2) n lb S q (r_lin (D 2) n lb S q)), false, []) 89 [some (.ref (x_b X + 1)), some (.int (xI 1))] [] 0 0 false N sh d := by
    intro z d hX1 hd
    have hX0 : r_lin (D 2) n lb S q = (if tM (D 2) n z.2 59 then .inr (z.1, tE (D 2) n z.2) else .inl (1, z.2)) := by unfold r_lin; rw [hX1]; rfl
    obtain ⟨ds, de, dc, d8, d9⟩ := id hd
    by_cases hm : tM (D 2) n z.2 59
    · have hX := hX0.trans (if_pos hm)
      have hm2 : tM (d 2) n z.2 59 := by rw [de]; exact hm
      have c1 := r5_readSignT (X := X) (l := l) hl hR ds (c := 59) ⟨by decide, by decide⟩ hm2
      rw [de] at c1
      refine x_iload_n dX5_readLine_89 x_get_2_1 ?_
      refine r_if_eq (t := 106) dX5_readLine_90 rfl ⟨by omega, by omega⟩ (fun hc90 => absurd hc90 (by omega)) (fun hc90 => ?_)
      refine x_aload_n dX5_readLine_93 x_get_2_0 ?_
      refine x_bipush dX5_readLine_94 rfl ?_
      refine x_callV (As := [_]) dX5_readLine_96 w_5_117 (c1) (by assumption) (by assumption) rfl rfl (Nat.le_of_ble_eq_true rfl) (Nat.le_of_ble_eq_true rfl) (Nat.le_of_ble_eq_true rfl) (Nat.le_of_ble_eq_true rfl) (Nat.le_of_ble_eq_true rfl) ?_
      intro d3 hd3
      refine r_if_eq (t := 106) dX5_readLine_99 rfl ⟨by show (-2147483648 : Int) ≤ 1; decide, by show (1 : Int) < 2147483648; decide⟩ (fun hc99 => absurd hc99 (by show ¬ ((1 : Int) = 0); decide)) (fun hc99 => ?_)
      refine x_iconst dX5_readLine_102 ?_
      refine x_goto (t := 107) dX5_readLine_103 rfl ?_
      exact x_zret dX5_readLine_107 rfl (by omega) (Nat.le_of_ble_eq_true rfl) (Nat.le_of_ble_eq_true rfl) (by rw [hX]; rfl) rfl rfl (by rw [hX]; exact ra_r1 hlb hd hd3.1 hd3.2.1) rfl
    · have hX := hX0.trans (if_neg hm)
      have hm2 : ¬ tM (d 2) n z.2 59 := by rw [de]; exact hm
      have c1 := r5_readSignF (X := X) (l := l) hl hR ds (c := 59) ⟨by decide, by decide⟩ hm2
      refine x_iload_n dX5_readLine_89 x_get_2_1 ?_
      refine r_if_eq (t := 106) dX5_readLine_90 rfl ⟨by omega, by omega⟩ (fun hc90 => absurd hc90 (by omega)) (fun hc90 => ?_)
      refine x_aload_n dX5_readLine_93 x_get_2_0 ?_
      refine x_bipush dX5_readLine_94 rfl ?_
      refine x_callV (As := [_]) dX5_readLine_96 w_5_117 (c1) (by assumption) (by assumption) rfl rfl (Nat.le_of_ble_eq_true rfl) (Nat.le_of_ble_eq_true rfl) (Nat.le_of_ble_eq_true rfl) (Nat.le_of_ble_eq_true rfl) (Nat.le_of_ble_eq_true rfl) ?_
      intro d3 hd3
      have w3 := rfa_fl dc hd3
      rw [de] at w3
      refine r_if_eq (t := 106) dX5_readLine_99 rfl ⟨by show (-2147483648 : Int) ≤ 0; decide, by show (0 : Int) < 2147483648; decide⟩ (fun hc99 => ?_) (fun hc99 => absurd hc99 (by show ¬ ¬ ((0 : Int) = 0); decide))
      refine x_iconst dX5_readLine_106 ?_
      exact x_zret dX5_readLine_107 rfl (by omega) (Nat.le_of_ble_eq_true rfl) (Nat.le_of_ble_eq_true rfl) (by rw [hX]; rfl) rfl rfl (by rw [hX]; exact ⟨z.1, Or.inr ⟨z.2, hX1⟩, w3⟩) rfl
  by_cases h1 : tW (D 2) n q 1
  · skip
    have hX1 : r_ln1 (D 2) n lb S q = r_bd (r_twn (D 2) n (S.1 lb 0).toNat q) (fun v q1 => .inr ((x_tn lb (S.1 lb 0).toNat v S.1, S.2), q1)) := if_pos h1
    obtain ⟨r0, hf⟩ : ∃ r, r_twn (D 2) n (S.1 lb 0).toNat q = r := ⟨_, rfl⟩
    have c1 := r5_town (X := X) (l := l) hl hR hs hL hlb hT v2
    rw [hf] at c1 hX1
    refine x_ofW (by decide +kernel) hl (by simp [Value.category]) (by simp) ?_
    rcases r0 with z | z
    · skip
      refine x_aload_n dX5_readLine_0 x_get_2_0 ?_
      refine x_ldcS (j := 1) dX5_readLine_1 (by decide) rfl rfl ?_
      refine x_callV (As := [_]) dX5_readLine_3 w_5_88 (r5_isWord hl hR hs (by decide) (by decide)) (by assumption) (by assumption) rfl rfl (Nat.le_of_ble_eq_true rfl) (Nat.le_of_ble_eq_true rfl) (Nat.le_of_ble_eq_true rfl) (Nat.le_of_ble_eq_true rfl) (Nat.le_of_ble_eq_true rfl) ?_
      intro d hd
      obtain rfl := Eq.symm hd
      refine b_ifeq (t := 17) dX5_readLine_6 rfl (fun hc6 => absurd hc6 (fun hh => hh h1)) (fun hc6 => ?_)
      refine x_aload_n dX5_readLine_9 x_get_2_0 ?_
      refine x_callV (As := []) dX5_readLine_10 w_5_92 (c1) (by assumption) (by assumption) rfl rfl (Nat.le_of_ble_eq_true rfl) (Nat.le_of_ble_eq_true rfl) (Nat.le_of_ble_eq_true rfl) (Nat.le_of_ble_eq_true rfl) (Nat.le_of_ble_eq_true rfl) ?_
      intro d2 hd2
      refine x_istore_n dX5_readLine_13 (Nat.le_of_ble_eq_true rfl) rfl x_set_2_1 ?_
      refine x_goto (t := 89) dX5_readLine_14 rfl ?_
      exact g89F _ _ hX1 (rfa_pf hc hd2)
    · skip
      refine x_aload_n dX5_readLine_0 x_get_2_0 ?_
      refine x_ldcS (j := 1) dX5_readLine_1 (by decide) rfl rfl ?_
      refine x_callV (As := [_]) dX5_readLine_3 w_5_88 (r5_isWord hl hR hs (by decide) (by decide)) (by assumption) (by assumption) rfl rfl (Nat.le_of_ble_eq_true rfl) (Nat.le_of_ble_eq_true rfl) (Nat.le_of_ble_eq_true rfl) (Nat.le_of_ble_eq_true rfl) (Nat.le_of_ble_eq_true rfl) ?_
      intro d hd
      obtain rfl := Eq.symm hd
      refine b_ifeq (t := 17) dX5_readLine_6 rfl (fun hc6 => absurd hc6 (fun hh => hh h1)) (fun hc6 => ?_)
      refine x_aload_n dX5_readLine_9 x_get_2_0 ?_
      refine x_callV (As := []) dX5_readLine_10 w_5_92 (c1) (by assumption) (by assumption) rfl rfl (Nat.le_of_ble_eq_true rfl) (Nat.le_of_ble_eq_true rfl) (Nat.le_of_ble_eq_true rfl) (Nat.le_of_ble_eq_true rfl) (Nat.le_of_ble_eq_true rfl) ?_
      intro d2 hd2
      refine x_istore_n dX5_readLine_13 (Nat.le_of_ble_eq_true rfl) rfl x_set_2_1 ?_
      refine x_goto (t := 89) dX5_readLine_14 rfl ?_
      exact g89T _ _ hX1 (ra_up hlb hra hd2.1 hd2.2.1 hd2.2.2 (x_tn_cg hlb hc.1) (x_tn_rl hlb))
  · by_cases h2 : tW (D 2) n q 2
    · skip
      have hX1 : r_ln1 (D 2) n lb S q = r_bd (r_way (D 2) n (S.1 lb 0).toNat (S.1 (lb + 3) 0).toNat (S.1 (lb + 3 + 1)) (S.1 (lb + 3 + 2)) q) (fun v q1 => .inr ((x_wy lb (S.1 (lb + 3) 0).toNat v S.1, S.2), q1)) := (if_neg h1).trans (if_pos h2)
      obtain ⟨r0, hf⟩ : ∃ r, r_way (D 2) n (S.1 lb 0).toNat (S.1 (lb + 3) 0).toNat (S.1 (lb + 3 + 1)) (S.1 (lb + 3 + 2)) q = r := ⟨_, rfl⟩
      have c1 := r5_way (X := X) (l := l) hl hR hs hL hlb hT v2 hrd
      rw [hc.1 (lb + 3 + 1) (by omega) (by omega) (by omega), hc.1 (lb + 3 + 2) (by omega) (by omega) (by omega)] at c1
      rw [hf] at c1 hX1
      refine x_ofW (by decide +kernel) hl (by simp [Value.category]) (by simp) ?_
      rcases r0 with z | z
      · skip
        refine x_aload_n dX5_readLine_0 x_get_2_0 ?_
        refine x_ldcS (j := 1) dX5_readLine_1 (by decide) rfl rfl ?_
        refine x_callV (As := [_]) dX5_readLine_3 w_5_88 (r5_isWord hl hR hs (by decide) (by decide)) (by assumption) (by assumption) rfl rfl (Nat.le_of_ble_eq_true rfl) (Nat.le_of_ble_eq_true rfl) (Nat.le_of_ble_eq_true rfl) (Nat.le_of_ble_eq_true rfl) (Nat.le_of_ble_eq_true rfl) ?_
        intro d hd
        obtain rfl := Eq.symm hd
        refine b_ifeq (t := 17) dX5_readLine_6 rfl (fun hc6 => ?_) (fun hc6 => absurd hc6 (h1))
        refine x_aload_n dX5_readLine_17 x_get_2_0 ?_
        refine x_ldcS (j := 2) dX5_readLine_18 (by decide) rfl rfl ?_
        refine x_callV (As := [_]) dX5_readLine_20 w_5_88 (r5_isWord hl hR hs (by decide) (by decide)) (by assumption) (by assumption) rfl rfl (Nat.le_of_ble_eq_true rfl) (Nat.le_of_ble_eq_true rfl) (Nat.le_of_ble_eq_true rfl) (Nat.le_of_ble_eq_true rfl) (Nat.le_of_ble_eq_true rfl) ?_
        intro d hd
        obtain rfl := Eq.symm hd
        refine b_ifeq (t := 34) dX5_readLine_23 rfl (fun hc23 => absurd hc23 (fun hh => hh h2)) (fun hc23 => ?_)
        refine x_aload_n dX5_readLine_26 x_get_2_0 ?_
        refine x_callV (As := []) dX5_readLine_27 w_5_97 (c1) (by assumption) (by assumption) rfl rfl (Nat.le_of_ble_eq_true rfl) (Nat.le_of_ble_eq_true rfl) (Nat.le_of_ble_eq_true rfl) (Nat.le_of_ble_eq_true rfl) (Nat.le_of_ble_eq_true rfl) ?_
        intro d2 hd2
        refine x_istore_n dX5_readLine_30 (Nat.le_of_ble_eq_true rfl) rfl x_set_2_1 ?_
        refine x_goto (t := 89) dX5_readLine_31 rfl ?_
        exact g89F _ _ hX1 (rfa_pf hc hd2)
      · skip
        refine x_aload_n dX5_readLine_0 x_get_2_0 ?_
        refine x_ldcS (j := 1) dX5_readLine_1 (by decide) rfl rfl ?_
        refine x_callV (As := [_]) dX5_readLine_3 w_5_88 (r5_isWord hl hR hs (by decide) (by decide)) (by assumption) (by assumption) rfl rfl (Nat.le_of_ble_eq_true rfl) (Nat.le_of_ble_eq_true rfl) (Nat.le_of_ble_eq_true rfl) (Nat.le_of_ble_eq_true rfl) (Nat.le_of_ble_eq_true rfl) ?_
        intro d hd
        obtain rfl := Eq.symm hd
        refine b_ifeq (t := 17) dX5_readLine_6 rfl (fun hc6 => ?_) (fun hc6 => absurd hc6 (h1))
        refine x_aload_n dX5_readLine_17 x_get_2_0 ?_
        refine x_ldcS (j := 2) dX5_readLine_18 (by decide) rfl rfl ?_
        refine x_callV (As := [_]) dX5_readLine_20 w_5_88 (r5_isWord hl hR hs (by decide) (by decide)) (by assumption) (by assumption) rfl rfl (Nat.le_of_ble_eq_true rfl) (Nat.le_of_ble_eq_true rfl) (Nat.le_of_ble_eq_true rfl) (Nat.le_of_ble_eq_true rfl) (Nat.le_of_ble_eq_true rfl) ?_
        intro d hd
        obtain rfl := Eq.symm hd
        refine b_ifeq (t := 34) dX5_readLine_23 rfl (fun hc23 => absurd hc23 (fun hh => hh h2)) (fun hc23 => ?_)
        refine x_aload_n dX5_readLine_26 x_get_2_0 ?_
        refine x_callV (As := []) dX5_readLine_27 w_5_97 (c1) (by assumption) (by assumption) rfl rfl (Nat.le_of_ble_eq_true rfl) (Nat.le_of_ble_eq_true rfl) (Nat.le_of_ble_eq_true rfl) (Nat.le_of_ble_eq_true rfl) (Nat.le_of_ble_eq_true rfl) ?_
        intro d2 hd2
        refine x_istore_n dX5_readLine_30 (Nat.le_of_ble_eq_true rfl) rfl x_set_2_1 ?_
        refine x_goto (t := 89) dX5_readLine_31 rfl ?_
        exact g89T _ _ hX1 (ra_up hlb hra hd2.1 hd2.2.1 hd2.2.2 (x_wy_cg hlb hc.1) (x_wy_rl hlb))
    · by_cases h3 : tW (D 2) n q 3 ∨ tW (D 2) n q 4
      · skip
        by_cases h4 : tW (D 2) n q 3
        · skip
          have hX1 : r_ln1 (D 2) n lb S q = r_bd (r_crt (D 2) n (S.1 lb 0).toNat (S.1 lb 1).toNat q) (fun v q1 => .inr ((x_cr lb (S.1 lb 1).toNat (tW (D 2) n q 4) v S.1, S.2), q1)) := (if_neg h1).trans ((if_neg h2).trans (if_pos h3))
          obtain ⟨r0, hf⟩ : ∃ r, r_crt (D 2) n (S.1 lb 0).toNat (S.1 lb 1).toNat q = r := ⟨_, rfl⟩
          have c1 := r5_crate (X := X) (l := l) hl hR hs hL hlb hT v2 hC v4 (ba := tW (D 2) n q 4)
          rw [hf] at c1 hX1
          refine x_ofW (by decide +kernel) hl (by simp [Value.category]) (by simp) ?_
          rcases r0 with z | z
          · skip
            refine x_aload_n dX5_readLine_0 x_get_2_0 ?_
            refine x_ldcS (j := 1) dX5_readLine_1 (by decide) rfl rfl ?_
            refine x_callV (As := [_]) dX5_readLine_3 w_5_88 (r5_isWord hl hR hs (by decide) (by decide)) (by assumption) (by assumption) rfl rfl (Nat.le_of_ble_eq_true rfl) (Nat.le_of_ble_eq_true rfl) (Nat.le_of_ble_eq_true rfl) (Nat.le_of_ble_eq_true rfl) (Nat.le_of_ble_eq_true rfl) ?_
            intro d hd
            obtain rfl := Eq.symm hd
            refine b_ifeq (t := 17) dX5_readLine_6 rfl (fun hc6 => ?_) (fun hc6 => absurd hc6 (h1))
            refine x_aload_n dX5_readLine_17 x_get_2_0 ?_
            refine x_ldcS (j := 2) dX5_readLine_18 (by decide) rfl rfl ?_
            refine x_callV (As := [_]) dX5_readLine_20 w_5_88 (r5_isWord hl hR hs (by decide) (by decide)) (by assumption) (by assumption) rfl rfl (Nat.le_of_ble_eq_true rfl) (Nat.le_of_ble_eq_true rfl) (Nat.le_of_ble_eq_true rfl) (Nat.le_of_ble_eq_true rfl) (Nat.le_of_ble_eq_true rfl) ?_
            intro d hd
            obtain rfl := Eq.symm hd
            refine b_ifeq (t := 34) dX5_readLine_23 rfl (fun hc23 => ?_) (fun hc23 => absurd hc23 (h2))
            refine x_aload_n dX5_readLine_34 x_get_2_0 ?_
            refine x_ldcS (j := 3) dX5_readLine_35 (by decide) rfl rfl ?_
            refine x_callV (As := [_]) dX5_readLine_37 w_5_88 (r5_isWord hl hR hs (by decide) (by decide)) (by assumption) (by assumption) rfl rfl (Nat.le_of_ble_eq_true rfl) (Nat.le_of_ble_eq_true rfl) (Nat.le_of_ble_eq_true rfl) (Nat.le_of_ble_eq_true rfl) (Nat.le_of_ble_eq_true rfl) ?_
            intro d hd
            obtain rfl := Eq.symm hd
            refine b_ifne (t := 52) dX5_readLine_40 rfl (fun hc40 => ?_) (fun hc40 => absurd hc40 (fun hh => hh h4))
            refine x_aload_n dX5_readLine_52 x_get_2_0 ?_
            refine x_aload_n dX5_readLine_53 x_get_2_0 ?_
            refine x_ldcS (j := 4) dX5_readLine_54 (by decide) rfl rfl ?_
            refine x_callV (As := [_]) dX5_readLine_56 w_5_88 (r5_isWord hl hR hs (by decide) (by decide)) (by assumption) (by assumption) rfl rfl (Nat.le_of_ble_eq_true rfl) (Nat.le_of_ble_eq_true rfl) (Nat.le_of_ble_eq_true rfl) (Nat.le_of_ble_eq_true rfl) (Nat.le_of_ble_eq_true rfl) ?_
            intro d hd
            obtain rfl := Eq.symm hd
            refine x_callV (As := [_]) dX5_readLine_59 w_5_104 (c1) (by assumption) (by assumption) rfl rfl (Nat.le_of_ble_eq_true rfl) (Nat.le_of_ble_eq_true rfl) (Nat.le_of_ble_eq_true rfl) (Nat.le_of_ble_eq_true rfl) (Nat.le_of_ble_eq_true rfl) ?_
            intro d2 hd2
            refine x_istore_n dX5_readLine_62 (Nat.le_of_ble_eq_true rfl) rfl x_set_2_1 ?_
            refine x_goto (t := 89) dX5_readLine_63 rfl ?_
            exact g89F _ _ hX1 (rfa_pf hc hd2)
          · skip
            refine x_aload_n dX5_readLine_0 x_get_2_0 ?_
            refine x_ldcS (j := 1) dX5_readLine_1 (by decide) rfl rfl ?_
            refine x_callV (As := [_]) dX5_readLine_3 w_5_88 (r5_isWord hl hR hs (by decide) (by decide)) (by assumption) (by assumption) rfl rfl (Nat.le_of_ble_eq_true rfl) (Nat.le_of_ble_eq_true rfl) (Nat.le_of_ble_eq_true rfl) (Nat.le_of_ble_eq_true rfl) (Nat.le_of_ble_eq_true rfl) ?_
            intro d hd
            obtain rfl := Eq.symm hd
            refine b_ifeq (t := 17) dX5_readLine_6 rfl (fun hc6 => ?_) (fun hc6 => absurd hc6 (h1))
            refine x_aload_n dX5_readLine_17 x_get_2_0 ?_
            refine x_ldcS (j := 2) dX5_readLine_18 (by decide) rfl rfl ?_
            refine x_callV (As := [_]) dX5_readLine_20 w_5_88 (r5_isWord hl hR hs (by decide) (by decide)) (by assumption) (by assumption) rfl rfl (Nat.le_of_ble_eq_true rfl) (Nat.le_of_ble_eq_true rfl) (Nat.le_of_ble_eq_true rfl) (Nat.le_of_ble_eq_true rfl) (Nat.le_of_ble_eq_true rfl) ?_
            intro d hd
            obtain rfl := Eq.symm hd
            refine b_ifeq (t := 34) dX5_readLine_23 rfl (fun hc23 => ?_) (fun hc23 => absurd hc23 (h2))
            refine x_aload_n dX5_readLine_34 x_get_2_0 ?_
            refine x_ldcS (j := 3) dX5_readLine_35 (by decide) rfl rfl ?_
            refine x_callV (As := [_]) dX5_readLine_37 w_5_88 (r5_isWord hl hR hs (by decide) (by decide)) (by assumption) (by assumption) rfl rfl (Nat.le_of_ble_eq_true rfl) (Nat.le_of_ble_eq_true rfl) (Nat.le_of_ble_eq_true rfl) (Nat.le_of_ble_eq_true rfl) (Nat.le_of_ble_eq_true rfl) ?_
            intro d hd
            obtain rfl := Eq.symm hd
            refine b_ifne (t := 52) dX5_readLine_40 rfl (fun hc40 => ?_) (fun hc40 => absurd hc40 (fun hh => hh h4))
            refine x_aload_n dX5_readLine_52 x_get_2_0 ?_
            refine x_aload_n dX5_readLine_53 x_get_2_0 ?_
            refine x_ldcS (j := 4) dX5_readLine_54 (by decide) rfl rfl ?_
            refine x_callV (As := [_]) dX5_readLine_56 w_5_88 (r5_isWord hl hR hs (by decide) (by decide)) (by assumption) (by assumption) rfl rfl (Nat.le_of_ble_eq_true rfl) (Nat.le_of_ble_eq_true rfl) (Nat.le_of_ble_eq_true rfl) (Nat.le_of_ble_eq_true rfl) (Nat.le_of_ble_eq_true rfl) ?_
            intro d hd
            obtain rfl := Eq.symm hd
            refine x_callV (As := [_]) dX5_readLine_59 w_5_104 (c1) (by assumption) (by assumption) rfl rfl (Nat.le_of_ble_eq_true rfl) (Nat.le_of_ble_eq_true rfl) (Nat.le_of_ble_eq_true rfl) (Nat.le_of_ble_eq_true rfl) (Nat.le_of_ble_eq_true rfl) ?_
            intro d2 hd2
            refine x_istore_n dX5_readLine_62 (Nat.le_of_ble_eq_true rfl) rfl x_set_2_1 ?_
            refine x_goto (t := 89) dX5_readLine_63 rfl ?_
            exact g89T _ _ hX1 (ra_up hlb hra hd2.1 hd2.2.1 hd2.2.2 (x_cr_cg hlb hc.1) (x_cr_rl hlb))
        · have h5 : tW (D 2) n q 4 := h3.resolve_left h4
          have hX1 : r_ln1 (D 2) n lb S q = r_bd (r_crt (D 2) n (S.1 lb 0).toNat (S.1 lb 1).toNat q) (fun v q1 => .inr ((x_cr lb (S.1 lb 1).toNat (tW (D 2) n q 4) v S.1, S.2), q1)) := (if_neg h1).trans ((if_neg h2).trans (if_pos h3))
          obtain ⟨r0, hf⟩ : ∃ r, r_crt (D 2) n (S.1 lb 0).toNat (S.1 lb 1).toNat q = r := ⟨_, rfl⟩
          have c1 := r5_crate (X := X) (l := l) hl hR hs hL hlb hT v2 hC v4 (ba := tW (D 2) n q 4)
          rw [hf] at c1 hX1
          refine x_ofW (by decide +kernel) hl (by simp [Value.category]) (by simp) ?_
          rcases r0 with z | z
          · skip
            refine x_aload_n dX5_readLine_0 x_get_2_0 ?_
            refine x_ldcS (j := 1) dX5_readLine_1 (by decide) rfl rfl ?_
            refine x_callV (As := [_]) dX5_readLine_3 w_5_88 (r5_isWord hl hR hs (by decide) (by decide)) (by assumption) (by assumption) rfl rfl (Nat.le_of_ble_eq_true rfl) (Nat.le_of_ble_eq_true rfl) (Nat.le_of_ble_eq_true rfl) (Nat.le_of_ble_eq_true rfl) (Nat.le_of_ble_eq_true rfl) ?_
            intro d hd
            obtain rfl := Eq.symm hd
            refine b_ifeq (t := 17) dX5_readLine_6 rfl (fun hc6 => ?_) (fun hc6 => absurd hc6 (h1))
            refine x_aload_n dX5_readLine_17 x_get_2_0 ?_
            refine x_ldcS (j := 2) dX5_readLine_18 (by decide) rfl rfl ?_
            refine x_callV (As := [_]) dX5_readLine_20 w_5_88 (r5_isWord hl hR hs (by decide) (by decide)) (by assumption) (by assumption) rfl rfl (Nat.le_of_ble_eq_true rfl) (Nat.le_of_ble_eq_true rfl) (Nat.le_of_ble_eq_true rfl) (Nat.le_of_ble_eq_true rfl) (Nat.le_of_ble_eq_true rfl) ?_
            intro d hd
            obtain rfl := Eq.symm hd
            refine b_ifeq (t := 34) dX5_readLine_23 rfl (fun hc23 => ?_) (fun hc23 => absurd hc23 (h2))
            refine x_aload_n dX5_readLine_34 x_get_2_0 ?_
            refine x_ldcS (j := 3) dX5_readLine_35 (by decide) rfl rfl ?_
            refine x_callV (As := [_]) dX5_readLine_37 w_5_88 (r5_isWord hl hR hs (by decide) (by decide)) (by assumption) (by assumption) rfl rfl (Nat.le_of_ble_eq_true rfl) (Nat.le_of_ble_eq_true rfl) (Nat.le_of_ble_eq_true rfl) (Nat.le_of_ble_eq_true rfl) (Nat.le_of_ble_eq_true rfl) ?_
            intro d hd
            obtain rfl := Eq.symm hd
            refine b_ifne (t := 52) dX5_readLine_40 rfl (fun hc40 => absurd hc40 (h4)) (fun hc40 => ?_)
            refine x_aload_n dX5_readLine_43 x_get_2_0 ?_
            refine x_ldcS (j := 4) dX5_readLine_44 (by decide) rfl rfl ?_
            refine x_callV (As := [_]) dX5_readLine_46 w_5_88 (r5_isWord hl hR hs (by decide) (by decide)) (by assumption) (by assumption) rfl rfl (Nat.le_of_ble_eq_true rfl) (Nat.le_of_ble_eq_true rfl) (Nat.le_of_ble_eq_true rfl) (Nat.le_of_ble_eq_true rfl) (Nat.le_of_ble_eq_true rfl) ?_
            intro d hd
            obtain rfl := Eq.symm hd
            refine b_ifeq (t := 66) dX5_readLine_49 rfl (fun hc49 => absurd hc49 (fun hh => hh h5)) (fun hc49 => ?_)
            refine x_aload_n dX5_readLine_52 x_get_2_0 ?_
            refine x_aload_n dX5_readLine_53 x_get_2_0 ?_
            refine x_ldcS (j := 4) dX5_readLine_54 (by decide) rfl rfl ?_
            refine x_callV (As := [_]) dX5_readLine_56 w_5_88 (r5_isWord hl hR hs (by decide) (by decide)) (by assumption) (by assumption) rfl rfl (Nat.le_of_ble_eq_true rfl) (Nat.le_of_ble_eq_true rfl) (Nat.le_of_ble_eq_true rfl) (Nat.le_of_ble_eq_true rfl) (Nat.le_of_ble_eq_true rfl) ?_
            intro d hd
            obtain rfl := Eq.symm hd
            refine x_callV (As := [_]) dX5_readLine_59 w_5_104 (c1) (by assumption) (by assumption) rfl rfl (Nat.le_of_ble_eq_true rfl) (Nat.le_of_ble_eq_true rfl) (Nat.le_of_ble_eq_true rfl) (Nat.le_of_ble_eq_true rfl) (Nat.le_of_ble_eq_true rfl) ?_
            intro d2 hd2
            refine x_istore_n dX5_readLine_62 (Nat.le_of_ble_eq_true rfl) rfl x_set_2_1 ?_
            refine x_goto (t := 89) dX5_readLine_63 rfl ?_
            exact g89F _ _ hX1 (rfa_pf hc hd2)
          · skip
            refine x_aload_n dX5_readLine_0 x_get_2_0 ?_
            refine x_ldcS (j := 1) dX5_readLine_1 (by decide) rfl rfl ?_
            refine x_callV (As := [_]) dX5_readLine_3 w_5_88 (r5_isWord hl hR hs (by decide) (by decide)) (by assumption) (by assumption) rfl rfl (Nat.le_of_ble_eq_true rfl) (Nat.le_of_ble_eq_true rfl) (Nat.le_of_ble_eq_true rfl) (Nat.le_of_ble_eq_true rfl) (Nat.le_of_ble_eq_true rfl) ?_
            intro d hd
            obtain rfl := Eq.symm hd
            refine b_ifeq (t := 17) dX5_readLine_6 rfl (fun hc6 => ?_) (fun hc6 => absurd hc6 (h1))
            refine x_aload_n dX5_readLine_17 x_get_2_0 ?_
            refine x_ldcS (j := 2) dX5_readLine_18 (by decide) rfl rfl ?_
            refine x_callV (As := [_]) dX5_readLine_20 w_5_88 (r5_isWord hl hR hs (by decide) (by decide)) (by assumption) (by assumption) rfl rfl (Nat.le_of_ble_eq_true rfl) (Nat.le_of_ble_eq_true rfl) (Nat.le_of_ble_eq_true rfl) (Nat.le_of_ble_eq_true rfl) (Nat.le_of_ble_eq_true rfl) ?_
            intro d hd
            obtain rfl := Eq.symm hd
            refine b_ifeq (t := 34) dX5_readLine_23 rfl (fun hc23 => ?_) (fun hc23 => absurd hc23 (h2))
            refine x_aload_n dX5_readLine_34 x_get_2_0 ?_
            refine x_ldcS (j := 3) dX5_readLine_35 (by decide) rfl rfl ?_
            refine x_callV (As := [_]) dX5_readLine_37 w_5_88 (r5_isWord hl hR hs (by decide) (by decide)) (by assumption) (by assumption) rfl rfl (Nat.le_of_ble_eq_true rfl) (Nat.le_of_ble_eq_true rfl) (Nat.le_of_ble_eq_true rfl) (Nat.le_of_ble_eq_true rfl) (Nat.le_of_ble_eq_true rfl) ?_
            intro d hd
            obtain rfl := Eq.symm hd
            refine b_ifne (t := 52) dX5_readLine_40 rfl (fun hc40 => absurd hc40 (h4)) (fun hc40 => ?_)
            refine x_aload_n dX5_readLine_43 x_get_2_0 ?_
            refine x_ldcS (j := 4) dX5_readLine_44 (by decide) rfl rfl ?_
            refine x_callV (As := [_]) dX5_readLine_46 w_5_88 (r5_isWord hl hR hs (by decide) (by decide)) (by assumption) (by assumption) rfl rfl (Nat.le_of_ble_eq_true rfl) (Nat.le_of_ble_eq_true rfl) (Nat.le_of_ble_eq_true rfl) (Nat.le_of_ble_eq_true rfl) (Nat.le_of_ble_eq_true rfl) ?_
            intro d hd
            obtain rfl := Eq.symm hd
            refine b_ifeq (t := 66) dX5_readLine_49 rfl (fun hc49 => absurd hc49 (fun hh => hh h5)) (fun hc49 => ?_)
            refine x_aload_n dX5_readLine_52 x_get_2_0 ?_
            refine x_aload_n dX5_readLine_53 x_get_2_0 ?_
            refine x_ldcS (j := 4) dX5_readLine_54 (by decide) rfl rfl ?_
            refine x_callV (As := [_]) dX5_readLine_56 w_5_88 (r5_isWord hl hR hs (by decide) (by decide)) (by assumption) (by assumption) rfl rfl (Nat.le_of_ble_eq_true rfl) (Nat.le_of_ble_eq_true rfl) (Nat.le_of_ble_eq_true rfl) (Nat.le_of_ble_eq_true rfl) (Nat.le_of_ble_eq_true rfl) ?_
            intro d hd
            obtain rfl := Eq.symm hd
            refine x_callV (As := [_]) dX5_readLine_59 w_5_104 (c1) (by assumption) (by assumption) rfl rfl (Nat.le_of_ble_eq_true rfl) (Nat.le_of_ble_eq_true rfl) (Nat.le_of_ble_eq_true rfl) (Nat.le_of_ble_eq_true rfl) (Nat.le_of_ble_eq_true rfl) ?_
            intro d2 hd2
            refine x_istore_n dX5_readLine_62 (Nat.le_of_ble_eq_true rfl) rfl x_set_2_1 ?_
            refine x_goto (t := 89) dX5_readLine_63 rfl ?_
            exact g89T _ _ hX1 (ra_up hlb hra hd2.1 hd2.2.1 hd2.2.2 (x_cr_cg hlb hc.1) (x_cr_rl hlb))
      · have h4 : ¬ tW (D 2) n q 3 := fun h => h3 (Or.inl h)
        have h5 : ¬ tW (D 2) n q 4 := fun h => h3 (Or.inr h)
        by_cases h6 : tW (D 2) n q 6
        · skip
          have hX1 : r_ln1 (D 2) n lb S q = r_ods (D 2) n S q := (if_neg h1).trans ((if_neg h2).trans ((if_neg h3).trans (if_pos h6)))
          obtain ⟨r0, hf⟩ : ∃ r, r_ods (D 2) n S q = r := ⟨_, rfl⟩
          have c1 := r5_odds (X := X) (l := l) hl hR hlb hL hra
          rw [hf] at c1 hX1
          refine x_ofW (by decide +kernel) hl (by simp [Value.category]) (by simp) ?_
          rcases r0 with z | z
          · skip
            refine x_aload_n dX5_readLine_0 x_get_2_0 ?_
            refine x_ldcS (j := 1) dX5_readLine_1 (by decide) rfl rfl ?_
            refine x_callV (As := [_]) dX5_readLine_3 w_5_88 (r5_isWord hl hR hs (by decide) (by decide)) (by assumption) (by assumption) rfl rfl (Nat.le_of_ble_eq_true rfl) (Nat.le_of_ble_eq_true rfl) (Nat.le_of_ble_eq_true rfl) (Nat.le_of_ble_eq_true rfl) (Nat.le_of_ble_eq_true rfl) ?_
            intro d hd
            obtain rfl := Eq.symm hd
            refine b_ifeq (t := 17) dX5_readLine_6 rfl (fun hc6 => ?_) (fun hc6 => absurd hc6 (h1))
            refine x_aload_n dX5_readLine_17 x_get_2_0 ?_
            refine x_ldcS (j := 2) dX5_readLine_18 (by decide) rfl rfl ?_
            refine x_callV (As := [_]) dX5_readLine_20 w_5_88 (r5_isWord hl hR hs (by decide) (by decide)) (by assumption) (by assumption) rfl rfl (Nat.le_of_ble_eq_true rfl) (Nat.le_of_ble_eq_true rfl) (Nat.le_of_ble_eq_true rfl) (Nat.le_of_ble_eq_true rfl) (Nat.le_of_ble_eq_true rfl) ?_
            intro d hd
            obtain rfl := Eq.symm hd
            refine b_ifeq (t := 34) dX5_readLine_23 rfl (fun hc23 => ?_) (fun hc23 => absurd hc23 (h2))
            refine x_aload_n dX5_readLine_34 x_get_2_0 ?_
            refine x_ldcS (j := 3) dX5_readLine_35 (by decide) rfl rfl ?_
            refine x_callV (As := [_]) dX5_readLine_37 w_5_88 (r5_isWord hl hR hs (by decide) (by decide)) (by assumption) (by assumption) rfl rfl (Nat.le_of_ble_eq_true rfl) (Nat.le_of_ble_eq_true rfl) (Nat.le_of_ble_eq_true rfl) (Nat.le_of_ble_eq_true rfl) (Nat.le_of_ble_eq_true rfl) ?_
            intro d hd
            obtain rfl := Eq.symm hd
            refine b_ifne (t := 52) dX5_readLine_40 rfl (fun hc40 => absurd hc40 (h4)) (fun hc40 => ?_)
            refine x_aload_n dX5_readLine_43 x_get_2_0 ?_
            refine x_ldcS (j := 4) dX5_readLine_44 (by decide) rfl rfl ?_
            refine x_callV (As := [_]) dX5_readLine_46 w_5_88 (r5_isWord hl hR hs (by decide) (by decide)) (by assumption) (by assumption) rfl rfl (Nat.le_of_ble_eq_true rfl) (Nat.le_of_ble_eq_true rfl) (Nat.le_of_ble_eq_true rfl) (Nat.le_of_ble_eq_true rfl) (Nat.le_of_ble_eq_true rfl) ?_
            intro d hd
            obtain rfl := Eq.symm hd
            refine b_ifeq (t := 66) dX5_readLine_49 rfl (fun hc49 => ?_) (fun hc49 => absurd hc49 (h5))
            refine x_aload_n dX5_readLine_66 x_get_2_0 ?_
            refine x_ldcS (j := 6) dX5_readLine_67 (by decide) rfl rfl ?_
            refine x_callV (As := [_]) dX5_readLine_69 w_5_88 (r5_isWord hl hR hs (by decide) (by decide)) (by assumption) (by assumption) rfl rfl (Nat.le_of_ble_eq_true rfl) (Nat.le_of_ble_eq_true rfl) (Nat.le_of_ble_eq_true rfl) (Nat.le_of_ble_eq_true rfl) (Nat.le_of_ble_eq_true rfl) ?_
            intro d hd
            obtain rfl := Eq.symm hd
            refine b_ifeq (t := 83) dX5_readLine_72 rfl (fun hc72 => absurd hc72 (fun hh => hh h6)) (fun hc72 => ?_)
            refine x_aload_n dX5_readLine_75 x_get_2_0 ?_
            refine x_callV (As := []) dX5_readLine_76 w_5_110 (c1) (by assumption) (by assumption) rfl rfl (Nat.le_of_ble_eq_true rfl) (Nat.le_of_ble_eq_true rfl) (Nat.le_of_ble_eq_true rfl) (Nat.le_of_ble_eq_true rfl) (Nat.le_of_ble_eq_true rfl) ?_
            intro d2 hd2
            refine x_istore_n dX5_readLine_79 (Nat.le_of_ble_eq_true rfl) rfl x_set_2_1 ?_
            refine x_goto (t := 89) dX5_readLine_80 rfl ?_
            exact g89F _ _ hX1 hd2
          · skip
            refine x_aload_n dX5_readLine_0 x_get_2_0 ?_
            refine x_ldcS (j := 1) dX5_readLine_1 (by decide) rfl rfl ?_
            refine x_callV (As := [_]) dX5_readLine_3 w_5_88 (r5_isWord hl hR hs (by decide) (by decide)) (by assumption) (by assumption) rfl rfl (Nat.le_of_ble_eq_true rfl) (Nat.le_of_ble_eq_true rfl) (Nat.le_of_ble_eq_true rfl) (Nat.le_of_ble_eq_true rfl) (Nat.le_of_ble_eq_true rfl) ?_
            intro d hd
            obtain rfl := Eq.symm hd
            refine b_ifeq (t := 17) dX5_readLine_6 rfl (fun hc6 => ?_) (fun hc6 => absurd hc6 (h1))
            refine x_aload_n dX5_readLine_17 x_get_2_0 ?_
            refine x_ldcS (j := 2) dX5_readLine_18 (by decide) rfl rfl ?_
            refine x_callV (As := [_]) dX5_readLine_20 w_5_88 (r5_isWord hl hR hs (by decide) (by decide)) (by assumption) (by assumption) rfl rfl (Nat.le_of_ble_eq_true rfl) (Nat.le_of_ble_eq_true rfl) (Nat.le_of_ble_eq_true rfl) (Nat.le_of_ble_eq_true rfl) (Nat.le_of_ble_eq_true rfl) ?_
            intro d hd
            obtain rfl := Eq.symm hd
            refine b_ifeq (t := 34) dX5_readLine_23 rfl (fun hc23 => ?_) (fun hc23 => absurd hc23 (h2))
            refine x_aload_n dX5_readLine_34 x_get_2_0 ?_
            refine x_ldcS (j := 3) dX5_readLine_35 (by decide) rfl rfl ?_
            refine x_callV (As := [_]) dX5_readLine_37 w_5_88 (r5_isWord hl hR hs (by decide) (by decide)) (by assumption) (by assumption) rfl rfl (Nat.le_of_ble_eq_true rfl) (Nat.le_of_ble_eq_true rfl) (Nat.le_of_ble_eq_true rfl) (Nat.le_of_ble_eq_true rfl) (Nat.le_of_ble_eq_true rfl) ?_
            intro d hd
            obtain rfl := Eq.symm hd
            refine b_ifne (t := 52) dX5_readLine_40 rfl (fun hc40 => absurd hc40 (h4)) (fun hc40 => ?_)
            refine x_aload_n dX5_readLine_43 x_get_2_0 ?_
            refine x_ldcS (j := 4) dX5_readLine_44 (by decide) rfl rfl ?_
            refine x_callV (As := [_]) dX5_readLine_46 w_5_88 (r5_isWord hl hR hs (by decide) (by decide)) (by assumption) (by assumption) rfl rfl (Nat.le_of_ble_eq_true rfl) (Nat.le_of_ble_eq_true rfl) (Nat.le_of_ble_eq_true rfl) (Nat.le_of_ble_eq_true rfl) (Nat.le_of_ble_eq_true rfl) ?_
            intro d hd
            obtain rfl := Eq.symm hd
            refine b_ifeq (t := 66) dX5_readLine_49 rfl (fun hc49 => ?_) (fun hc49 => absurd hc49 (h5))
            refine x_aload_n dX5_readLine_66 x_get_2_0 ?_
            refine x_ldcS (j := 6) dX5_readLine_67 (by decide) rfl rfl ?_
            refine x_callV (As := [_]) dX5_readLine_69 w_5_88 (r5_isWord hl hR hs (by decide) (by decide)) (by assumption) (by assumption) rfl rfl (Nat.le_of_ble_eq_true rfl) (Nat.le_of_ble_eq_true rfl) (Nat.le_of_ble_eq_true rfl) (Nat.le_of_ble_eq_true rfl) (Nat.le_of_ble_eq_true rfl) ?_
            intro d hd
            obtain rfl := Eq.symm hd
            refine b_ifeq (t := 83) dX5_readLine_72 rfl (fun hc72 => absurd hc72 (fun hh => hh h6)) (fun hc72 => ?_)
            refine x_aload_n dX5_readLine_75 x_get_2_0 ?_
            refine x_callV (As := []) dX5_readLine_76 w_5_110 (c1) (by assumption) (by assumption) rfl rfl (Nat.le_of_ble_eq_true rfl) (Nat.le_of_ble_eq_true rfl) (Nat.le_of_ble_eq_true rfl) (Nat.le_of_ble_eq_true rfl) (Nat.le_of_ble_eq_true rfl) ?_
            intro d2 hd2
            refine x_istore_n dX5_readLine_79 (Nat.le_of_ble_eq_true rfl) rfl x_set_2_1 ?_
            refine x_goto (t := 89) dX5_readLine_80 rfl ?_
            exact g89T _ _ hX1 hd2
        · have hX1 : r_ln1 (D 2) n lb S q = .inl (1, q) := (if_neg h1).trans ((if_neg h2).trans ((if_neg h3).trans (if_neg h6)))
          refine x_ofW (by decide +kernel) hl (by simp [Value.category]) (by simp) ?_
          refine x_aload_n dX5_readLine_0 x_get_2_0 ?_
          refine x_ldcS (j := 1) dX5_readLine_1 (by decide) rfl rfl ?_
          refine x_callV (As := [_]) dX5_readLine_3 w_5_88 (r5_isWord hl hR hs (by decide) (by decide)) (by assumption) (by assumption) rfl rfl (Nat.le_of_ble_eq_true rfl) (Nat.le_of_ble_eq_true rfl) (Nat.le_of_ble_eq_true rfl) (Nat.le_of_ble_eq_true rfl) (Nat.le_of_ble_eq_true rfl) ?_
          intro d hd
          obtain rfl := Eq.symm hd
          refine b_ifeq (t := 17) dX5_readLine_6 rfl (fun hc6 => ?_) (fun hc6 => absurd hc6 (h1))
          refine x_aload_n dX5_readLine_17 x_get_2_0 ?_
          refine x_ldcS (j := 2) dX5_readLine_18 (by decide) rfl rfl ?_
          refine x_callV (As := [_]) dX5_readLine_20 w_5_88 (r5_isWord hl hR hs (by decide) (by decide)) (by assumption) (by assumption) rfl rfl (Nat.le_of_ble_eq_true rfl) (Nat.le_of_ble_eq_true rfl) (Nat.le_of_ble_eq_true rfl) (Nat.le_of_ble_eq_true rfl) (Nat.le_of_ble_eq_true rfl) ?_
          intro d hd
          obtain rfl := Eq.symm hd
          refine b_ifeq (t := 34) dX5_readLine_23 rfl (fun hc23 => ?_) (fun hc23 => absurd hc23 (h2))
          refine x_aload_n dX5_readLine_34 x_get_2_0 ?_
          refine x_ldcS (j := 3) dX5_readLine_35 (by decide) rfl rfl ?_
          refine x_callV (As := [_]) dX5_readLine_37 w_5_88 (r5_isWord hl hR hs (by decide) (by decide)) (by assumption) (by assumption) rfl rfl (Nat.le_of_ble_eq_true rfl) (Nat.le_of_ble_eq_true rfl) (Nat.le_of_ble_eq_true rfl) (Nat.le_of_ble_eq_true rfl) (Nat.le_of_ble_eq_true rfl) ?_
          intro d hd
          obtain rfl := Eq.symm hd
          refine b_ifne (t := 52) dX5_readLine_40 rfl (fun hc40 => absurd hc40 (h4)) (fun hc40 => ?_)
          refine x_aload_n dX5_readLine_43 x_get_2_0 ?_
          refine x_ldcS (j := 4) dX5_readLine_44 (by decide) rfl rfl ?_
          refine x_callV (As := [_]) dX5_readLine_46 w_5_88 (r5_isWord hl hR hs (by decide) (by decide)) (by assumption) (by assumption) rfl rfl (Nat.le_of_ble_eq_true rfl) (Nat.le_of_ble_eq_true rfl) (Nat.le_of_ble_eq_true rfl) (Nat.le_of_ble_eq_true rfl) (Nat.le_of_ble_eq_true rfl) ?_
          intro d hd
          obtain rfl := Eq.symm hd
          refine b_ifeq (t := 66) dX5_readLine_49 rfl (fun hc49 => ?_) (fun hc49 => absurd hc49 (h5))
          refine x_aload_n dX5_readLine_66 x_get_2_0 ?_
          refine x_ldcS (j := 6) dX5_readLine_67 (by decide) rfl rfl ?_
          refine x_callV (As := [_]) dX5_readLine_69 w_5_88 (r5_isWord hl hR hs (by decide) (by decide)) (by assumption) (by assumption) rfl rfl (Nat.le_of_ble_eq_true rfl) (Nat.le_of_ble_eq_true rfl) (Nat.le_of_ble_eq_true rfl) (Nat.le_of_ble_eq_true rfl) (Nat.le_of_ble_eq_true rfl) ?_
          intro d hd
          obtain rfl := Eq.symm hd
          refine b_ifeq (t := 83) dX5_readLine_72 rfl (fun hc72 => ?_) (fun hc72 => absurd hc72 (h6))
          refine x_aload_n dX5_readLine_83 x_get_2_0 ?_
          refine x_iconst dX5_readLine_84 ?_
          refine x_callV (As := [_]) dX5_readLine_85 w_5_113 (r5_fail hl hR hs) (by assumption) (by assumption) rfl rfl (Nat.le_of_ble_eq_true rfl) (Nat.le_of_ble_eq_true rfl) (Nat.le_of_ble_eq_true rfl) (Nat.le_of_ble_eq_true rfl) (Nat.le_of_ble_eq_true rfl) ?_
          intro d hd
          obtain rfl := Eq.symm hd
          refine x_istore_n dX5_readLine_88 (Nat.le_of_ble_eq_true rfl) rfl x_set_2_1 ?_
          exact g89F _ _ hX1 (rfa_fl hc rfl)
end C996
