section C46
theorem ldG_sc {D d : xM} {la T C : Nat} {G : Ldt} (hG : ldG D la T C G) (h : sc la D d) (hla : la = 3 ∨ la = 18) : ldG d la T C G := ldG_of hG (fun j a b => h.1 j (by omega) (by omega) (by omega)) h.2.1
theorem sc_34 {D d : xM} {la : Nat} (h : sc la D d) (hla : la = 3 ∨ la = 18) : d 34 = D 34 := h.1 34 (by decide) (by omega) (by decide)
theorem sc_la {D d : xM} {la : Nat} (h : sc la D d) (hla : la = 3 ∨ la = 18) : d la = D la := h.1 la (by omega) (by omega) (by omega)
def q_then (T C : Nat) (G : Ldt) (f : Int → Int) (t n w : Int) : x_O := if 0 ≤ t ∧ t < T then (if 0 ≤ w ∧ w ≤ 3 then (if 0 ≤ n ∧ n ≤ 60 then (if w = 0 then o_i (s_towns G C f t n.toNat (1 + t)) else if w = 1 then o_i (s_towns G C f t n.toNat (9 + t)) else if w = 2 then o_i (s_towns G C f t n.toNat (17 + t)) else o_i (G.2.2 (s_towns G C f t n.toNat) t)) else .inr x_IAE) else .inr x_NSE) else .inr x_NSE
def q_even (T C : Nat) (G : Ldt) (f : Int → Int) (t : Int) : x_O := if 0 ≤ t ∧ t < T then o_i (x_first (fun k => s_towns G C f t k (1 + t) = s_towns G C f t k (9 + t)) 61) else .inr x_NSE
def v_out (C : Nat) (G : Ldt) (f : Int → Int) (t : Int) : Int := (fun z : Int => if z = -1 then -1 else z + 1) (x_first (fun k => ¬ p_twin G C (s_towns G C f t k) t) 60)
def q_out (T C : Nat) (G : Ldt) (f : Int → Int) (t : Int) : x_O := if 0 ≤ t ∧ t < T then o_i (v_out C G f t) else .inr x_NSE
def l_best (r : Int → Int) : Nat → Int × Int
  | 0 => (-1, 0)
  | t + 1 => if (l_best r t).1 = -1 ∨ (l_best r t).2 < r (17 + t) then ((t : Int), r (17 + t)) else l_best r t
theorem l_best_s {r : Int → Int} {t : Nat} : l_best r (t + 1) = if (l_best r t).1 = -1 ∨ (l_best r t).2 < r (17 + t) then ((t : Int), r (17 + t)) else l_best r t := rfl
def q_lucky (T C : Nat) (G : Ldt) (f : Int → Int) (n : Int) : x_O := if 0 ≤ n ∧ n ≤ 60 then o_i (l_best (s_days G T C f n.toNat) T).1 else .inr x_IAE
def l_str (C : Nat) (G : Ldt) (f : Int → Int) (t : Int) : Nat → Int × Int
  | 0 => (0, 0)
  | n + 1 => if p_twin G C (s_towns G C f t n) t then (max (l_str C G f t n).1 ((l_str C G f t n).2 + 1), (l_str C G f t n).2 + 1) else (max (l_str C G f t n).1 0, 0)
theorem l_str_s {C : Nat} {G : Ldt} {f : Int → Int} {t : Int} {n : Nat} : l_str C G f t (n + 1) = if p_twin G C (s_towns G C f t n) t then (max (l_str C G f t n).1 ((l_str C G f t n).2 + 1), (l_str C G f t n).2 + 1) else (max (l_str C G f t n).1 0, 0) := rfl
theorem l_str_in (C : Nat) (G : Ldt) (f : Int → Int) (t : Int) : ∀ n : Nat, 0 ≤ (l_str C G f t n).1 ∧ (l_str C G f t n).1 ≤ n ∧ 0 ≤ (l_str C G f t n).2 ∧ (l_str C G f t n).2 ≤ n
  | 0 => by simp [l_str]
  | n + 1 => by
    have := l_str_in C G f t n
    rw [l_str_s]
    push_cast
    split <;> simp only <;> omega
def q_streak (T C : Nat) (G : Ldt) (f : Int → Int) (t n : Int) : x_O := if 0 ≤ t ∧ t < T then (if 0 ≤ n ∧ n ≤ 60 then o_i (l_str C G f t n.toNat).1 else .inr x_IAE) else .inr x_NSE
def v_won (T : Nat) (r : Int → Int) : Int := x_sum (fun i => r (17 + i)) T
def l_day (T C : Nat) (G : Ldt) (f : Int → Int) : Nat → Int × Int
  | 0 => (0, 0)
  | i + 1 => if (l_day T C G f i).1 = 0 ∨ (l_day T C G f i).2 < v_won T (s_days G T C f (i + 1)) - v_won T (s_days G T C f i) then (((i + 1 : Nat) : Int), v_won T (s_days G T C f (i + 1)) - v_won T (s_days G T C f i)) else l_day T C G f i
theorem l_day_s {T C : Nat} {G : Ldt} {f : Int → Int} {i : Nat} : l_day T C G f (i + 1) = if (l_day T C G f i).1 = 0 ∨ (l_day T C G f i).2 < v_won T (s_days G T C f (i + 1)) - v_won T (s_days G T C f i) then (((i + 1 : Nat) : Int), v_won T (s_days G T C f (i + 1)) - v_won T (s_days G T C f i)) else l_day T C G f i := rfl
def q_day (T C : Nat) (G : Ldt) (f : Int → Int) (n w : Int) : x_O := if 0 ≤ w ∧ w ≤ 1 then (if 1 ≤ n ∧ n ≤ 60 then o_i (if w = 0 then (l_day T C G f n.toNat).1 else (l_day T C G f n.toNat).2) else .inr x_IAE) else .inr x_NSE
def q_pooled (T C : Nat) (G : Ldt) (f : Int → Int) (n : Int) : x_O := if 1 ≤ n ∧ n ≤ 60 then o_i (v_won T (s_days G T C (s_share f T) n.toNat) - v_won T (s_days G T C f n.toNat)) else .inr x_IAE
theorem v_won_in {B : Int} {f : Int → Int} (h : s_ok B f) (hB0 : 0 ≤ B) {T : Nat} (hT : T ≤ 8) : -(8 * B) ≤ v_won T f ∧ v_won T f ≤ 8 * B := by
  have key : ∀ n : Nat, n ≤ 8 → -((n : Int) * B) ≤ x_sum (fun i => f (17 + i)) n ∧ x_sum (fun i => f (17 + i)) n ≤ (n : Int) * B := by
    intro n
    induction n with
    | zero => intro _; simp [x_sum]
    | succ n ih =>
      intro hn
      have h1 := ih (by omega)
      have h2 := (s_tn h (t := (n : Int)) (by omega) (by omega)).2.2
      rw [x_sum]
      push_cast
      rw [Int.add_mul, Int.one_mul]
      omega
  have h1 := key T hT
  have h2 : (T : Int) * B ≤ 8 * B := Int.mul_le_mul_of_nonneg_right (by omega) hB0
  unfold v_won
  omega
theorem l_best_in {r : Int → Int} {M : Int} (hM : 0 ≤ M) (h : ∀ t : Int, 0 ≤ t → t < 8 → -M ≤ r (17 + t) ∧ r (17 + t) ≤ M) : ∀ t : Nat, t ≤ 8 → -1 ≤ (l_best r t).1 ∧ (l_best r t).1 < 8 ∧ -M ≤ (l_best r t).2 ∧ (l_best r t).2 ≤ M
  | 0, _ => by simp [l_best]; omega
  | t + 1, ht => by
    have h1 := l_best_in hM h t (by omega)
    have h2 := h t (by omega) (by omega)
    rw [l_best_s]
    split
    · simp only; omega
    · exact h1
theorem w_11_121 : x_cv RX11 121 yX9_take cX9_take 2 (none) 9 1 := ⟨⟨_, rfl, rfl⟩, (x_in 522 (by decide +kernel) rfl), (x_in 523 (by decide +kernel) rfl), (x_in 524 (by decide +kernel) rfl), (x_in 85 (by decide +kernel) rfl), (x_in 525 (by decide +kernel) rfl), by decide, ⟨by decide +kernel, by decide +kernel, by decide +kernel⟩⟩
theorem w_11_197 : x_cv RX11 197 yX9_passDays cX9_passDays 4 (none) 9 2 := ⟨⟨_, rfl, rfl⟩, (x_in 438 (by decide +kernel) rfl), (x_in 439 (by decide +kernel) rfl), (x_in 440 (by decide +kernel) rfl), (x_in 85 (by decide +kernel) rfl), (x_in 441 (by decide +kernel) rfl), by decide, ⟨by decide +kernel, by decide +kernel, by decide +kernel⟩⟩
theorem w_11_232 : x_cs RX11 232 yX11_needWithin cX11_needWithin 3 (none) 3 := ⟨(x_in 1004 (by decide +kernel) rfl), (x_in 1005 (by decide +kernel) rfl), (x_in 80 (by decide +kernel) rfl), (x_in 1006 (by decide +kernel) rfl), by decide, ⟨by decide +kernel, by decide +kernel, by decide +kernel⟩⟩
theorem w_11_236 : x_cv RX11 236 yX9_passTown cX9_passTown 4 (some .boolean) 9 2 := ⟨⟨_, rfl, rfl⟩, (x_in 1008 (by decide +kernel) rfl), (x_in 1009 (by decide +kernel) rfl), (x_in 1010 (by decide +kernel) rfl), (x_in 85 (by decide +kernel) rfl), (x_in 1011 (by decide +kernel) rfl), by decide, ⟨by decide +kernel, by decide +kernel, by decide +kernel⟩⟩
theorem w_11_240 : x_mw RX11 240 Lib.Math.max.name Lib.Math.max.code 2 := ⟨(x_in 1307 (by decide +kernel) rfl), (x_in 451 (by decide +kernel) rfl), (x_in 95 (by decide +kernel) rfl), (x_in 452 (by decide +kernel) rfl)⟩
theorem c9_share0 {X : xC} {l : Launch} (hl : l.stackTraces = false) {N : Nat} {sh : xS} {D : xM} {r a : Nat} (hs : is_St N sh r a) : x_M X l yX9_share cX9_share 5 (none) 2 0 0 [.ref (x_b X + r), .int (xI ((0 : Nat) : Int))] false N sh D (.inl none) false N sh (x_is (D)) := by
  refine x_ofW (by decide +kernel) hl (by simp [Value.category]) (by simp) ?_
  refine x_iload_n dX9_share_0 x_get_5_1 ?_
  refine r_if_gt (t := 5) dX9_share_1 rfl ⟨by omega, by omega⟩ (fun hc1 => absurd hc1 (by omega)) (fun hc1 => ?_)
  exact x_vret dX9_share_4 rfl (Nat.le_of_ble_eq_true rfl) (Nat.le_of_ble_eq_true rfl) rfl rfl rfl rfl rfl
theorem c11_then {X : xC} {l : Launch} (hl : l.stackTraces = false) {N : Nat} {sh : xS} {D : xM} {la lb T C W : Nat} {G : Ldt} (hq : cq N sh D la lb T C W G) {t n w : Int} (htr : x_r t) (hnr : x_r n) (hwr : x_r w) : x_M X l yX11_then cX11_then 5 (some .int) 7 1 6 [.ref (x_b X + 0), .int (xI t), .int (xI n), .int (xI w)] false N sh D (q_then T C G (D 34) t n w) false N sh (sc la D) := by
  obtain ⟨hX, hG, hR, ⟨hk, hd9, hpl⟩, hco⟩ := id hq
  obtain ⟨hN, x0, x1, x2, xla, xlb, x33, x35, x37, x39, x43, x45, x47, x51, x60, x61, hll⟩ := id hX
  have hla : la = 3 ∨ la = 18 := by omega
  have n0 : 0 < N := by omega
  have n1 : 1 < N := by omega
  have n2 : 2 < N := by omega
  have n33 : 33 < N := by omega
  have n34 : 34 < N := by omega
  have n35 : 35 < N := by omega
  have n36 : 36 < N := by omega
  have n37 : 37 < N := by omega
  have n38 : 38 < N := by omega
  have n39 : 39 < N := by omega
  have n40 : 40 < N := by omega
  have n41 : 41 < N := by omega
  have n42 : 42 < N := by omega
  have n43 : 43 < N := by omega
  have n45 : 45 < N := by omega
  have n47 : 47 < N := by omega
  have n51 : 51 < N := by omega
  have n60 : 60 < N := by omega
  have n61 : 61 < N := by omega
  have x33a := x33.2.1
  have x34 := x33.2.2.2
  have x35a := x35.2.1
  have x36 := x35.2.2.2
  have x37a := x37.2.1
  have x38 := x37.2.2.2
  have x39a := x39.2.1
  have x43a := x43.2.1
  have x45a := x45.2.1
  have x47a := x47.2.1
  have x51a := x51.2.1
  have xla0 := xla.2.1
  have xla1 := xla.2.2.1
  have xla2 := xla.2.2.2.1
  have hlaN : la < N := by have := xla.1; omega
  have hlaN1 : la + 1 < N := by have := xla.1; omega
  have hlaN2 : la + 2 < N := by have := xla.1; omega
  have hlaN3 : la + 3 < N := by have := xla.1; omega
  have hlaN10 : la + 10 < N := by have := xla.1; omega
  have xru := (is_L_ru xla).2.1
  have xro := (is_L_ro xla).2.1
  obtain ⟨hG1, hG2, hG3⟩ := ldG_G hG
  obtain ⟨n0', ⟨gT, gTb, gC, gCb, -⟩, -⟩ := id hG
  obtain ⟨rW, rWb, rT, -, ro1, ro2, ro3, ro4, ro5, ro6⟩ := id hR
  have hd0 : 0 ≤ D 34 0 := ((hk 0).1 rfl).1
  have hB : 161 * D 34 0 ≤ 160839 := by omega
  have hsc := sc_refl hG hco
  obtain ⟨hwr0, hwr1⟩ := id hwr
  unfold q_then
  by_cases ht : 0 ≤ t ∧ t < T
  · rw [if_pos ht]
    obtain ⟨ht0, ht1⟩ := id ht
    by_cases hw : 0 ≤ w ∧ w ≤ 3
    · rw [if_pos hw]
      obtain ⟨hw0, hw1⟩ := id hw
      by_cases hn : 0 ≤ n ∧ n ≤ 60
      · rw [if_pos hn]
        obtain ⟨hn0, hn1⟩ := id hn
        obtain ⟨m, rfl⟩ := Int.eq_ofNat_of_zero_le hn0
        rw [Int.toNat_natCast]
        have hloop : ∀ k : Nat, k ≤ m → ∀ d : xM, sc la D d → d 36 = s_towns G C (D 34) t k → x_W (X, l, yX11_then, cX11_then, 5, (some .int), x_room 7 1 6, 1, 6, (if w = 0 then o_i (s_towns G C (D 34) t m (1 + t)) else if w = 1 then o_i (s_towns G C (D 34) t m (9 + t)) else if w = 2 then o_i (s_towns G C (D 34) t m (17 + t)) else o_i (G.2.2 (s_towns G C (D 34) t m) t)), N, sh, (sc la D), false, []) 45 [some (.ref (x_b X + 0)), some (.int (xI t)), some (.int (xI (m : Int))), some (.int (xI w)), some (.int (xI (k : Int)))] [] 0 0 false N sh d := by
          refine x_down m ?_ ?_
          · intro d hcd hrow
            refine x_iload dX11_then_45 x_get_5_4 ?_
            refine x_iload_n dX11_then_47 x_get_5_2 ?_
            refine r_icmp_ge (t := 70) dX11_then_48 rfl ⟨by omega, by omega⟩ ⟨by omega, by omega⟩ (fun hc48 => ?_) (fun hc48 => absurd hc48 (by omega))
            refine x_iload_n dX11_then_70 x_get_5_3 ?_
            have hc : w = 0 ∨ w = 1 ∨ w = 2 ∨ w = 3 := by omega
            rcases hc with rfl | rfl | rfl | rfl
            · refine x_tswIn (t := 96) dX11_then_71 (by decide) (by decide) rfl rfl ?_
              refine x_aload_n dX11_then_96 x_get_5_0 ?_
              refine x_getR dX11_then_97 fX_11_34 (by assumption) (by assumption) (by rfl) ?_
              refine x_getR dX11_then_100 fX_11_135 (by assumption) (by assumption) (by rfl) ?_
              refine x_iconst dX11_then_103 ?_
              refine x_iload_n dX11_then_104 x_get_5_1 ?_
              refine x_iadd dX11_then_105 ?_
              refine x_iald dX11_then_106 (by assumption) (by assumption) (by omega) (by omega) (by decide) ?_
              rw [hrow]
              exact x_iret dX11_then_107 rfl (Nat.le_of_ble_eq_true rfl) (Nat.le_of_ble_eq_true rfl) rfl rfl rfl hcd rfl
            · refine x_tswIn (t := 108) dX11_then_71 (by decide) (by decide) rfl rfl ?_
              refine x_aload_n dX11_then_108 x_get_5_0 ?_
              refine x_getR dX11_then_109 fX_11_34 (by assumption) (by assumption) (by rfl) ?_
              refine x_getR dX11_then_112 fX_11_135 (by assumption) (by assumption) (by rfl) ?_
              refine x_bipush dX11_then_115 rfl ?_
              refine x_iload_n dX11_then_117 x_get_5_1 ?_
              refine x_iadd dX11_then_118 ?_
              refine x_iald dX11_then_119 (by assumption) (by assumption) (by omega) (by omega) (by decide) ?_
              rw [hrow]
              exact x_iret dX11_then_120 rfl (Nat.le_of_ble_eq_true rfl) (Nat.le_of_ble_eq_true rfl) rfl rfl rfl hcd rfl
            · refine x_tswIn (t := 121) dX11_then_71 (by decide) (by decide) rfl rfl ?_
              refine x_aload_n dX11_then_121 x_get_5_0 ?_
              refine x_getR dX11_then_122 fX_11_34 (by assumption) (by assumption) (by rfl) ?_
              refine x_getR dX11_then_125 fX_11_135 (by assumption) (by assumption) (by rfl) ?_
              refine x_bipush dX11_then_128 rfl ?_
              refine x_iload_n dX11_then_130 x_get_5_1 ?_
              refine x_iadd dX11_then_131 ?_
              refine x_iald dX11_then_132 (by assumption) (by assumption) (by omega) (by omega) (by decide) ?_
              rw [hrow]
              exact x_iret dX11_then_133 rfl (Nat.le_of_ble_eq_true rfl) (Nat.le_of_ble_eq_true rfl) rfl rfl rfl hcd rfl
            · refine x_tswOut (t := 134) dX11_then_71 (by decide) rfl ?_
              refine x_aload_n dX11_then_134 x_get_5_0 ?_
              refine x_getR dX11_then_135 fX_11_23 (by assumption) (by assumption) (by rfl) ?_
              refine x_getR dX11_then_138 fX_11_170 (by assumption) (by assumption) (by rfl) ?_
              refine x_aload_n dX11_then_141 x_get_5_0 ?_
              refine x_getR dX11_then_142 fX_11_23 (by assumption) (by assumption) (by rfl) ?_
              refine x_aload_n dX11_then_145 x_get_5_0 ?_
              refine x_getR dX11_then_146 fX_11_34 (by assumption) (by assumption) (by rfl) ?_
              refine x_iload_n dX11_then_149 x_get_5_1 ?_
              refine x_callV (As := [_, _, _]) dX11_then_150 w_11_174 (c7_oddsG hl x35 xla (ldG_sc hG hcd hla) (Or.inr (by omega)) (B := 161 * D 34 0 + 21 * (m : Nat)) (by rw [hrow]; exact s_ok_towns hk hG1 hG2 gCb ht0 (by omega) m) (by omega) ht0 (by omega)) (by assumption) (by assumption) rfl rfl (Nat.le_of_ble_eq_true rfl) (Nat.le_of_ble_eq_true rfl) (Nat.le_of_ble_eq_true rfl) (Nat.le_of_ble_eq_true rfl) (Nat.le_of_ble_eq_true rfl) ?_
              rintro _ ⟨w, rfl, hw⟩
              rw [hrow]
              exact x_iret dX11_then_153 rfl (Nat.le_of_ble_eq_true rfl) (Nat.le_of_ble_eq_true rfl) rfl rfl rfl (sc_w hcd hla hw) rfl
          · intro k hk2 ih d hcd hrow
            refine x_iload dX11_then_45 x_get_5_4 ?_
            refine x_iload_n dX11_then_47 x_get_5_2 ?_
            refine r_icmp_ge (t := 70) dX11_then_48 rfl ⟨by omega, by omega⟩ ⟨by omega, by omega⟩ (fun hc48 => absurd hc48 (by omega)) (fun hc48 => ?_)
            refine x_aload_n dX11_then_51 x_get_5_0 ?_
            refine x_getR dX11_then_52 fX_11_34 (by assumption) (by assumption) (by rfl) ?_
            refine x_aload_n dX11_then_55 x_get_5_0 ?_
            refine x_getR dX11_then_56 fX_11_23 (by assumption) (by assumption) (by rfl) ?_
            refine x_iload_n dX11_then_59 x_get_5_1 ?_
            refine x_callV (As := [_, _]) dX11_then_60 w_11_236 (c9_passTown hl x35 xla (ldG_sc hG hcd hla) (Or.inr (by omega)) (B := 161 * D 34 0 + 21 * (k : Nat)) (by rw [hrow]; exact s_ok_towns hk hG1 hG2 gCb ht0 (by omega) k) (by omega) (t := t) ht0 (by omega)) (by assumption) (by assumption) rfl rfl (Nat.le_of_ble_eq_true rfl) (Nat.le_of_ble_eq_true rfl) (Nat.le_of_ble_eq_true rfl) (Nat.le_of_ble_eq_true rfl) (Nat.le_of_ble_eq_true rfl) ?_
            rintro _ ⟨w2, hw, rfl⟩
            refine x_pop dX11_then_63 rfl ?_
            refine x_iinc dX11_then_64 x_get_5_4 (Nat.le_of_ble_eq_true rfl) rfl x_set_5_4 ?_
            refine x_goto (t := 45) dX11_then_67 rfl ?_
            exact ih _ (sc_w (sc_36 hcd hla) hla hw) (by rw [x_up_n (by omega), x_up_s, hrow]; rfl)
        refine x_ofW (by decide +kernel) hl (by simp [Value.category]) (by simp) ?_
        refine x_aload_n dX11_then_0 x_get_5_0 ?_
        refine x_iload_n dX11_then_1 x_get_5_1 ?_
        refine x_callV (As := [_]) dX11_then_2 w_11_161 (c11_nTown hl hq ht0 ht1) (by assumption) (by assumption) rfl rfl (Nat.le_of_ble_eq_true rfl) (Nat.le_of_ble_eq_true rfl) (Nat.le_of_ble_eq_true rfl) (Nat.le_of_ble_eq_true rfl) (Nat.le_of_ble_eq_true rfl) ?_
        intro d hd
        obtain rfl := Eq.symm hd
        refine x_iload_n dX11_then_5 x_get_5_3 ?_
        refine r_if_lt (t := 14) dX11_then_6 rfl ⟨by omega, by omega⟩ (fun hc6 => absurd hc6 (by omega)) (fun hc6 => ?_)
        refine x_iload_n dX11_then_9 x_get_5_3 ?_
        refine x_iconst dX11_then_10 ?_
        refine r_icmp_le (t := 24) dX11_then_11 rfl ⟨by omega, by omega⟩ ⟨by omega, by omega⟩ (fun hc11 => ?_) (fun hc11 => absurd hc11 (by omega))
        refine x_iload_n dX11_then_24 x_get_5_2 ?_
        refine x_iconst dX11_then_25 ?_
        refine x_bipush dX11_then_26 rfl ?_
        refine x_callS (As := [_, _, _]) dX11_then_28 w_11_232 (c11_nIn hl hn0 hn1 (by decide) (by decide)) rfl rfl (Nat.le_of_ble_eq_true rfl) (Nat.le_of_ble_eq_true rfl) (Nat.le_of_ble_eq_true rfl) (Nat.le_of_ble_eq_true rfl) (Nat.le_of_ble_eq_true rfl) ?_
        intro d hd
        obtain rfl := Eq.symm hd
        refine x_aload_n dX11_then_31 x_get_5_0 ?_
        refine x_getR dX11_then_32 fX_11_34 (by assumption) (by assumption) (by rfl) ?_
        refine x_aload_n dX11_then_35 x_get_5_0 ?_
        refine x_getR dX11_then_36 fX_11_30 (by assumption) (by assumption) (by rfl) ?_
        refine x_callV (As := [_]) dX11_then_39 w_11_121 (c9_take2 hl x35 x33) (by assumption) (by assumption) rfl rfl (Nat.le_of_ble_eq_true rfl) (Nat.le_of_ble_eq_true rfl) (Nat.le_of_ble_eq_true rfl) (Nat.le_of_ble_eq_true rfl) (Nat.le_of_ble_eq_true rfl) ?_
        intro d hd
        obtain rfl := Eq.symm hd
        refine x_iconst dX11_then_42 ?_
        refine x_istore dX11_then_43 (Nat.le_of_ble_eq_true rfl) rfl x_set_5_4 ?_
        exact hloop 0 (Nat.zero_le _) _ (sc_36 hsc hla) (by rw [x_up_s]; rfl)
      · rw [if_neg hn]
        refine x_ofW (by decide +kernel) hl (by simp [Value.category]) (by simp) ?_
        refine x_aload_n dX11_then_0 x_get_5_0 ?_
        refine x_iload_n dX11_then_1 x_get_5_1 ?_
        refine x_callV (As := [_]) dX11_then_2 w_11_161 (c11_nTown hl hq ht0 ht1) (by assumption) (by assumption) rfl rfl (Nat.le_of_ble_eq_true rfl) (Nat.le_of_ble_eq_true rfl) (Nat.le_of_ble_eq_true rfl) (Nat.le_of_ble_eq_true rfl) (Nat.le_of_ble_eq_true rfl) ?_
        intro d hd
        obtain rfl := Eq.symm hd
        refine x_iload_n dX11_then_5 x_get_5_3 ?_
        refine r_if_lt (t := 14) dX11_then_6 rfl ⟨by omega, by omega⟩ (fun hc6 => absurd hc6 (by omega)) (fun hc6 => ?_)
        refine x_iload_n dX11_then_9 x_get_5_3 ?_
        refine x_iconst dX11_then_10 ?_
        refine r_icmp_le (t := 24) dX11_then_11 rfl ⟨by omega, by omega⟩ ⟨by omega, by omega⟩ (fun hc11 => ?_) (fun hc11 => absurd hc11 (by omega))
        refine x_iload_n dX11_then_24 x_get_5_2 ?_
        refine x_iconst dX11_then_25 ?_
        refine x_bipush dX11_then_26 rfl ?_
        exact x_callST (As := [_, _, _]) dX11_then_28 w_11_232 (c11_nInT hl hnr hn (by decide) (by decide) (by decide) (by decide)) rfl rfl (Nat.le_of_ble_eq_true rfl) (Nat.le_of_ble_eq_true rfl) (Nat.le_of_ble_eq_true rfl) (Nat.le_of_ble_eq_true rfl) (Nat.le_of_ble_eq_true rfl) rfl rfl rfl rfl (fun d hd => by obtain rfl := Eq.symm hd; exact hsc) rfl (Nat.le_of_ble_eq_true rfl) (Nat.le_of_ble_eq_true rfl)
    · rw [if_neg hw]
      refine x_ofW (by decide +kernel) hl (by simp [Value.category]) (by simp) ?_
      refine x_aload_n dX11_then_0 x_get_5_0 ?_
      refine x_iload_n dX11_then_1 x_get_5_1 ?_
      refine x_callV (As := [_]) dX11_then_2 w_11_161 (c11_nTown hl hq ht0 ht1) (by assumption) (by assumption) rfl rfl (Nat.le_of_ble_eq_true rfl) (Nat.le_of_ble_eq_true rfl) (Nat.le_of_ble_eq_true rfl) (Nat.le_of_ble_eq_true rfl) (Nat.le_of_ble_eq_true rfl) ?_
      intro d hd
      obtain rfl := Eq.symm hd
      refine x_iload_n dX11_then_5 x_get_5_3 ?_
      refine r_if_lt (t := 14) dX11_then_6 rfl ⟨by omega, by omega⟩ (fun hc6 => ?_) (fun hc6 => ?_)
      · exact x_throw 22 (by decide) tw_NSE rfl dX11_then_14 dX11_then_17 dX11_then_18 dX11_then_20 dX11_then_23 (Nat.le_of_ble_eq_true rfl) (Nat.le_of_ble_eq_true rfl) (Nat.le_of_ble_eq_true rfl) (Nat.le_of_ble_eq_true rfl) rfl rfl rfl rfl hsc rfl (Nat.le_of_ble_eq_true rfl) (Nat.le_of_ble_eq_true rfl)
      · refine x_iload_n dX11_then_9 x_get_5_3 ?_
        refine x_iconst dX11_then_10 ?_
        refine r_icmp_le (t := 24) dX11_then_11 rfl ⟨by omega, by omega⟩ ⟨by omega, by omega⟩ (fun hc11 => absurd hc11 (by omega)) (fun hc11 => ?_)
        exact x_throw 22 (by decide) tw_NSE rfl dX11_then_14 dX11_then_17 dX11_then_18 dX11_then_20 dX11_then_23 (Nat.le_of_ble_eq_true rfl) (Nat.le_of_ble_eq_true rfl) (Nat.le_of_ble_eq_true rfl) (Nat.le_of_ble_eq_true rfl) rfl rfl rfl rfl hsc rfl (Nat.le_of_ble_eq_true rfl) (Nat.le_of_ble_eq_true rfl)
  · rw [if_neg ht]
    refine x_ofW (by decide +kernel) hl (by simp [Value.category]) (by simp) ?_
    refine x_aload_n dX11_then_0 x_get_5_0 ?_
    refine x_iload_n dX11_then_1 x_get_5_1 ?_
    exact x_callVT (As := [_]) dX11_then_2 w_11_161 (c11_nTownT hl hq htr ht) (by assumption) (by assumption) rfl rfl (Nat.le_of_ble_eq_true rfl) (Nat.le_of_ble_eq_true rfl) (Nat.le_of_ble_eq_true rfl) (Nat.le_of_ble_eq_true rfl) (Nat.le_of_ble_eq_true rfl) rfl rfl rfl rfl (fun d hd => by obtain rfl := Eq.symm hd; exact hsc) rfl (Nat.le_of_ble_eq_true rfl) (Nat.le_of_ble_eq_true rfl)
theorem c11_even {X : xC} {l : Launch} (hl : l.stackTraces = false) {N : Nat} {sh : xS} {D : xM} {la lb T C W : Nat} {G : Ldt} (hq : cq N sh D la lb T C W G) {t : Int} (htr : x_r t) : x_M X l yX11_even cX11_even 3 (some .int) 7 1 6 [.ref (x_b X + 0), .int (xI t)] false N sh D (q_even T C G (D 34) t) false N sh (sc la D) := by
  obtain ⟨hX, hG, hR, ⟨hk, hd9, hpl⟩, hco⟩ := id hq
  obtain ⟨hN, x0, x1, x2, xla, xlb, x33, x35, x37, x39, x43, x45, x47, x51, x60, x61, hll⟩ := id hX
  have hla : la = 3 ∨ la = 18 := by omega
  have n0 : 0 < N := by omega
  have n1 : 1 < N := by omega
  have n2 : 2 < N := by omega
  have n33 : 33 < N := by omega
  have n34 : 34 < N := by omega
  have n35 : 35 < N := by omega
  have n36 : 36 < N := by omega
  have n37 : 37 < N := by omega
  have n38 : 38 < N := by omega
  have n39 : 39 < N := by omega
  have n40 : 40 < N := by omega
  have n41 : 41 < N := by omega
  have n42 : 42 < N := by omega
  have n43 : 43 < N := by omega
  have n45 : 45 < N := by omega
  have n47 : 47 < N := by omega
  have n51 : 51 < N := by omega
  have n60 : 60 < N := by omega
  have n61 : 61 < N := by omega
  have x33a := x33.2.1
  have x34 := x33.2.2.2
  have x35a := x35.2.1
  have x36 := x35.2.2.2
  have x37a := x37.2.1
  have x38 := x37.2.2.2
  have x39a := x39.2.1
  have x43a := x43.2.1
  have x45a := x45.2.1
  have x47a := x47.2.1
  have x51a := x51.2.1
  have xla0 := xla.2.1
  have xla1 := xla.2.2.1
  have xla2 := xla.2.2.2.1
  have hlaN : la < N := by have := xla.1; omega
  have hlaN1 : la + 1 < N := by have := xla.1; omega
  have hlaN2 : la + 2 < N := by have := xla.1; omega
  have hlaN3 : la + 3 < N := by have := xla.1; omega
  have hlaN10 : la + 10 < N := by have := xla.1; omega
  have xru := (is_L_ru xla).2.1
  have xro := (is_L_ro xla).2.1
  obtain ⟨hG1, hG2, hG3⟩ := ldG_G hG
  obtain ⟨n0', ⟨gT, gTb, gC, gCb, -⟩, -⟩ := id hG
  obtain ⟨rW, rWb, rT, -, ro1, ro2, ro3, ro4, ro5, ro6⟩ := id hR
  have hd0 : 0 ≤ D 34 0 := ((hk 0).1 rfl).1
  have hB : 161 * D 34 0 ≤ 160839 := by omega
  have hsc := sc_refl hG hco
  unfold q_even
  by_cases ht : 0 ≤ t ∧ t < T
  · rw [if_pos ht]
    obtain ⟨ht0, ht1⟩ := id ht
    have hloop : ∀ k : Nat, k ≤ 61 → ∀ d : xM, (∀ j : Nat, j < k → ¬ s_towns G C (D 34) t j (1 + t) = s_towns G C (D 34) t j (9 + t)) → sc la D d → d 36 = s_towns G C (D 34) t k → x_W (X, l, yX11_even, cX11_even, 3, (some .int), x_room 7 1 6, 1, 6, (o_i (x_first (fun k => s_towns G C (D 34) t k (1 + t) = s_towns G C (D 34) t k (9 + t)) 61)), N, sh, (sc la D), false, []) 18 [some (.ref (x_b X + 0)), some (.int (xI t)), some (.int (xI (k : Int)))] [] 0 0 false N sh d := by
      refine x_down 61 ?_ ?_
      · intro d hp hcd hrow
        refine x_iload_n dX11_even_18 x_get_3_2 ?_
        refine x_bipush dX11_even_19 rfl ?_
        refine r_icmp_gt (t := 71) dX11_even_21 rfl ⟨by omega, by omega⟩ ⟨by omega, by omega⟩ (fun hc21 => ?_) (fun hc21 => absurd hc21 (by omega))
        refine x_iconst dX11_even_71 ?_
        exact x_iret dX11_even_72 rfl (Nat.le_of_ble_eq_true rfl) (Nat.le_of_ble_eq_true rfl) (by rw [x_first_none hp]; rfl) rfl rfl hcd rfl
      · intro k hk2 ih d hp hcd hrow
        have htk := s_tn (s_ok_towns hk hG1 hG2 gCb ht0 (by omega) k) (t := t) ht0 (by omega)
        refine x_iload_n dX11_even_18 x_get_3_2 ?_
        refine x_bipush dX11_even_19 rfl ?_
        refine r_icmp_gt (t := 71) dX11_even_21 rfl ⟨by omega, by omega⟩ ⟨by omega, by omega⟩ (fun hc21 => absurd hc21 (by omega)) (fun hc21 => ?_)
        refine x_aload_n dX11_even_24 x_get_3_0 ?_
        refine x_getR dX11_even_25 fX_11_34 (by assumption) (by assumption) (by rfl) ?_
        refine x_getR dX11_even_28 fX_11_135 (by assumption) (by assumption) (by rfl) ?_
        refine x_iconst dX11_even_31 ?_
        refine x_iload_n dX11_even_32 x_get_3_1 ?_
        refine x_iadd dX11_even_33 ?_
        refine x_iald dX11_even_34 (by assumption) (by assumption) (by omega) (by omega) (by decide) ?_
        rw [hrow]
        refine x_aload_n dX11_even_35 x_get_3_0 ?_
        refine x_getR dX11_even_36 fX_11_34 (by assumption) (by assumption) (by rfl) ?_
        refine x_getR dX11_even_39 fX_11_135 (by assumption) (by assumption) (by rfl) ?_
        refine x_bipush dX11_even_42 rfl ?_
        refine x_iload_n dX11_even_44 x_get_3_1 ?_
        refine x_iadd dX11_even_45 ?_
        refine x_iald dX11_even_46 (by assumption) (by assumption) (by omega) (by omega) (by decide) ?_
        rw [hrow]
        refine r_icmp_ne (t := 52) dX11_even_47 rfl ⟨by omega, by omega⟩ ⟨by omega, by omega⟩ (fun hc47 => ?_) (fun hc47 => ?_)
        · refine x_aload_n dX11_even_52 x_get_3_0 ?_
          refine x_getR dX11_even_53 fX_11_34 (by assumption) (by assumption) (by rfl) ?_
          refine x_aload_n dX11_even_56 x_get_3_0 ?_
          refine x_getR dX11_even_57 fX_11_23 (by assumption) (by assumption) (by rfl) ?_
          refine x_iload_n dX11_even_60 x_get_3_1 ?_
          refine x_callV (As := [_, _]) dX11_even_61 w_11_236 (c9_passTown hl x35 xla (ldG_sc hG hcd hla) (Or.inr (by omega)) (B := 161 * D 34 0 + 21 * (k : Nat)) (by rw [hrow]; exact s_ok_towns hk hG1 hG2 gCb ht0 (by omega) k) (by omega) (t := t) ht0 (by omega)) (by assumption) (by assumption) rfl rfl (Nat.le_of_ble_eq_true rfl) (Nat.le_of_ble_eq_true rfl) (Nat.le_of_ble_eq_true rfl) (Nat.le_of_ble_eq_true rfl) (Nat.le_of_ble_eq_true rfl) ?_
          rintro _ ⟨w2, hw, rfl⟩
          refine x_pop dX11_even_64 rfl ?_
          refine x_iinc dX11_even_65 x_get_3_2 (Nat.le_of_ble_eq_true rfl) rfl x_set_3_2 ?_
          refine x_goto (t := 18) dX11_even_68 rfl ?_
          refine ih _ (fun j hj => ?_) (sc_w (sc_36 hcd hla) hla hw) (by rw [x_up_n (by omega), x_up_s, hrow]; rfl)
          by_cases h : j = k
          · rw [h]; exact hc47
          · exact hp j (by omega)
        · refine x_iload_n dX11_even_50 x_get_3_2 ?_
          exact x_iret dX11_even_51 rfl (Nat.le_of_ble_eq_true rfl) (Nat.le_of_ble_eq_true rfl) (by rw [x_first_hit hp hc47 hk2]; rfl) rfl rfl hcd rfl
    refine x_ofW (by decide +kernel) hl (by simp [Value.category]) (by simp) ?_
    refine x_aload_n dX11_even_0 x_get_3_0 ?_
    refine x_iload_n dX11_even_1 x_get_3_1 ?_
    refine x_callV (As := [_]) dX11_even_2 w_11_161 (c11_nTown hl hq ht0 ht1) (by assumption) (by assumption) rfl rfl (Nat.le_of_ble_eq_true rfl) (Nat.le_of_ble_eq_true rfl) (Nat.le_of_ble_eq_true rfl) (Nat.le_of_ble_eq_true rfl) (Nat.le_of_ble_eq_true rfl) ?_
    intro d hd
    obtain rfl := Eq.symm hd
    refine x_aload_n dX11_even_5 x_get_3_0 ?_
    refine x_getR dX11_even_6 fX_11_34 (by assumption) (by assumption) (by rfl) ?_
    refine x_aload_n dX11_even_9 x_get_3_0 ?_
    refine x_getR dX11_even_10 fX_11_30 (by assumption) (by assumption) (by rfl) ?_
    refine x_callV (As := [_]) dX11_even_13 w_11_121 (c9_take2 hl x35 x33) (by assumption) (by assumption) rfl rfl (Nat.le_of_ble_eq_true rfl) (Nat.le_of_ble_eq_true rfl) (Nat.le_of_ble_eq_true rfl) (Nat.le_of_ble_eq_true rfl) (Nat.le_of_ble_eq_true rfl) ?_
    intro d hd
    obtain rfl := Eq.symm hd
    refine x_iconst dX11_even_16 ?_
    refine x_istore_n dX11_even_17 (Nat.le_of_ble_eq_true rfl) rfl x_set_3_2 ?_
    exact hloop 0 (Nat.zero_le _) _ (fun j hj => by omega) (sc_36 hsc hla) (by rw [x_up_s]; rfl)
  · rw [if_neg ht]
    refine x_ofW (by decide +kernel) hl (by simp [Value.category]) (by simp) ?_
    refine x_aload_n dX11_even_0 x_get_3_0 ?_
    refine x_iload_n dX11_even_1 x_get_3_1 ?_
    exact x_callVT (As := [_]) dX11_even_2 w_11_161 (c11_nTownT hl hq htr ht) (by assumption) (by assumption) rfl rfl (Nat.le_of_ble_eq_true rfl) (Nat.le_of_ble_eq_true rfl) (Nat.le_of_ble_eq_true rfl) (Nat.le_of_ble_eq_true rfl) (Nat.le_of_ble_eq_true rfl) rfl rfl rfl rfl (fun d hd => by obtain rfl := Eq.symm hd; exact hsc) rfl (Nat.le_of_ble_eq_true rfl) (Nat.le_of_ble_eq_true rfl)
theorem c11_out {X : xC} {l : Launch} (hl : l.stackTraces = false) {N : Nat} {sh : xS} {D : xM} {la lb T C W : Nat} {G : Ldt} (hq : cq N sh D la lb T C W G) {t : Int} (htr : x_r t) : x_M X l yX11_out cX11_out 3 (some .int) 7 1 6 [.ref (x_b X + 0), .int (xI t)] false N sh D (q_out T C G (D 34) t) false N sh (sc la D) := by
  obtain ⟨hX, hG, hR, ⟨hk, hd9, hpl⟩, hco⟩ := id hq
  obtain ⟨hN, x0, x1, x2, xla, xlb, x33, x35, x37, x39, x43, x45, x47, x51, x60, x61, hll⟩ := id hX
  have hla : la = 3 ∨ la = 18 := by omega
  have n0 : 0 < N := by omega
  have n1 : 1 < N := by omega
  have n2 : 2 < N := by omega
  have n33 : 33 < N := by omega
  have n34 : 34 < N := by omega
  have n35 : 35 < N := by omega
  have n36 : 36 < N := by omega
  have n37 : 37 < N := by omega
  have n38 : 38 < N := by omega
  have n39 : 39 < N := by omega
  have n40 : 40 < N := by omega
  have n41 : 41 < N := by omega
  have n42 : 42 < N := by omega
  have n43 : 43 < N := by omega
  have n45 : 45 < N := by omega
  have n47 : 47 < N := by omega
  have n51 : 51 < N := by omega
  have n60 : 60 < N := by omega
  have n61 : 61 < N := by omega
  have x33a := x33.2.1
  have x34 := x33.2.2.2
  have x35a := x35.2.1
  have x36 := x35.2.2.2
  have x37a := x37.2.1
  have x38 := x37.2.2.2
  have x39a := x39.2.1
  have x43a := x43.2.1
  have x45a := x45.2.1
  have x47a := x47.2.1
  have x51a := x51.2.1
  have xla0 := xla.2.1
  have xla1 := xla.2.2.1
  have xla2 := xla.2.2.2.1
  have hlaN : la < N := by have := xla.1; omega
  have hlaN1 : la + 1 < N := by have := xla.1; omega
  have hlaN2 : la + 2 < N := by have := xla.1; omega
  have hlaN3 : la + 3 < N := by have := xla.1; omega
  have hlaN10 : la + 10 < N := by have := xla.1; omega
  have xru := (is_L_ru xla).2.1
  have xro := (is_L_ro xla).2.1
  obtain ⟨hG1, hG2, hG3⟩ := ldG_G hG
  obtain ⟨n0', ⟨gT, gTb, gC, gCb, -⟩, -⟩ := id hG
  obtain ⟨rW, rWb, rT, -, ro1, ro2, ro3, ro4, ro5, ro6⟩ := id hR
  have hd0 : 0 ≤ D 34 0 := ((hk 0).1 rfl).1
  have hB : 161 * D 34 0 ≤ 160839 := by omega
  have hsc := sc_refl hG hco
  unfold q_out
  by_cases ht : 0 ≤ t ∧ t < T
  · rw [if_pos ht]
    obtain ⟨ht0, ht1⟩ := id ht
    have hloop : ∀ k : Nat, k ≤ 60 → ∀ d : xM, (∀ j : Nat, j < k → ¬ ¬ p_twin G C (s_towns G C (D 34) t j) t) → sc la D d → d 36 = s_towns G C (D 34) t k → x_W (X, l, yX11_out, cX11_out, 3, (some .int), x_room 7 1 6, 1, 6, (o_i (v_out C G (D 34) t)), N, sh, (sc la D), false, []) 18 [some (.ref (x_b X + 0)), some (.int (xI t)), some (.int (xI ((k : Int) + 1)))] [] 0 0 false N sh d := by
      refine x_down 60 ?_ ?_
      · intro d hp hcd hrow
        refine x_iload_n dX11_out_18 x_get_3_2 ?_
        refine x_bipush dX11_out_19 rfl ?_
        refine r_icmp_gt (t := 47) dX11_out_21 rfl ⟨by omega, by omega⟩ ⟨by omega, by omega⟩ (fun hc21 => ?_) (fun hc21 => absurd hc21 (by omega))
        refine x_iconst dX11_out_47 ?_
        exact x_iret dX11_out_48 rfl (Nat.le_of_ble_eq_true rfl) (Nat.le_of_ble_eq_true rfl) (by unfold v_out; rw [x_first_none hp]; rfl) rfl rfl hcd rfl
      · intro k hk2 ih d hp hcd hrow
        refine x_iload_n dX11_out_18 x_get_3_2 ?_
        refine x_bipush dX11_out_19 rfl ?_
        refine r_icmp_gt (t := 47) dX11_out_21 rfl ⟨by omega, by omega⟩ ⟨by omega, by omega⟩ (fun hc21 => absurd hc21 (by omega)) (fun hc21 => ?_)
        refine x_aload_n dX11_out_24 x_get_3_0 ?_
        refine x_getR dX11_out_25 fX_11_34 (by assumption) (by assumption) (by rfl) ?_
        refine x_aload_n dX11_out_28 x_get_3_0 ?_
        refine x_getR dX11_out_29 fX_11_23 (by assumption) (by assumption) (by rfl) ?_
        refine x_iload_n dX11_out_32 x_get_3_1 ?_
        refine x_callV (As := [_, _]) dX11_out_33 w_11_236 (c9_passTown hl x35 xla (ldG_sc hG hcd hla) (Or.inr (by omega)) (B := 161 * D 34 0 + 21 * (k : Nat)) (by rw [hrow]; exact s_ok_towns hk hG1 hG2 gCb ht0 (by omega) k) (by omega) (t := t) ht0 (by omega)) (by assumption) (by assumption) rfl rfl (Nat.le_of_ble_eq_true rfl) (Nat.le_of_ble_eq_true rfl) (Nat.le_of_ble_eq_true rfl) (Nat.le_of_ble_eq_true rfl) (Nat.le_of_ble_eq_true rfl) ?_
        rintro _ ⟨w2, hw, rfl⟩
        rw [hrow]
        refine b_ifne (t := 41) dX11_out_36 rfl (fun hc36 => ?_) (fun hc36 => ?_)
        · refine x_iinc dX11_out_41 x_get_3_2 (Nat.le_of_ble_eq_true rfl) rfl x_set_3_2 ?_
          refine x_goto (t := 18) dX11_out_44 rfl ?_
          refine ih _ (fun j hj => ?_) (sc_w (sc_36 hcd hla) hla hw) (by rw [x_up_n (by omega), x_up_s]; rfl)
          by_cases h : j = k
          · rw [h]; exact fun hh => hh hc36
          · exact hp j (by omega)
        · refine x_iload_n dX11_out_39 x_get_3_2 ?_
          exact x_iret dX11_out_40 rfl (Nat.le_of_ble_eq_true rfl) (Nat.le_of_ble_eq_true rfl) (by unfold v_out; rw [x_first_hit hp hc36 hk2]; show _ = o_i _; dsimp only; rw [if_neg (by omega)]; try rfl) rfl rfl (sc_w (sc_36 hcd hla) hla hw) rfl
    refine x_ofW (by decide +kernel) hl (by simp [Value.category]) (by simp) ?_
    refine x_aload_n dX11_out_0 x_get_3_0 ?_
    refine x_iload_n dX11_out_1 x_get_3_1 ?_
    refine x_callV (As := [_]) dX11_out_2 w_11_161 (c11_nTown hl hq ht0 ht1) (by assumption) (by assumption) rfl rfl (Nat.le_of_ble_eq_true rfl) (Nat.le_of_ble_eq_true rfl) (Nat.le_of_ble_eq_true rfl) (Nat.le_of_ble_eq_true rfl) (Nat.le_of_ble_eq_true rfl) ?_
    intro d hd
    obtain rfl := Eq.symm hd
    refine x_aload_n dX11_out_5 x_get_3_0 ?_
    refine x_getR dX11_out_6 fX_11_34 (by assumption) (by assumption) (by rfl) ?_
    refine x_aload_n dX11_out_9 x_get_3_0 ?_
    refine x_getR dX11_out_10 fX_11_30 (by assumption) (by assumption) (by rfl) ?_
    refine x_callV (As := [_]) dX11_out_13 w_11_121 (c9_take2 hl x35 x33) (by assumption) (by assumption) rfl rfl (Nat.le_of_ble_eq_true rfl) (Nat.le_of_ble_eq_true rfl) (Nat.le_of_ble_eq_true rfl) (Nat.le_of_ble_eq_true rfl) (Nat.le_of_ble_eq_true rfl) ?_
    intro d hd
    obtain rfl := Eq.symm hd
    refine x_iconst dX11_out_16 ?_
    refine x_istore_n dX11_out_17 (Nat.le_of_ble_eq_true rfl) rfl x_set_3_2 ?_
    exact hloop 0 (Nat.zero_le _) _ (fun j hj => by omega) (sc_36 hsc hla) (by rw [x_up_s]; rfl)
  · rw [if_neg ht]
    refine x_ofW (by decide +kernel) hl (by simp [Value.category]) (by simp) ?_
    refine x_aload_n dX11_out_0 x_get_3_0 ?_
    refine x_iload_n dX11_out_1 x_get_3_1 ?_
    exact x_callVT (As := [_]) dX11_out_2 w_11_161 (c11_nTownT hl hq htr ht) (by assumption) (by assumption) rfl rfl (Nat.le_of_ble_eq_true rfl) (Nat.le_of_ble_eq_true rfl) (Nat.le_of_ble_eq_true rfl) (Nat.le_of_ble_eq_true rfl) (Nat.le_of_ble_eq_true rfl) rfl rfl rfl rfl (fun d hd => by obtain rfl := Eq.symm hd; exact hsc) rfl (Nat.le_of_ble_eq_true rfl) (Nat.le_of_ble_eq_true rfl)
theorem c11_streak {X : xC} {l : Launch} (hl : l.stackTraces = false) {N : Nat} {sh : xS} {D : xM} {la lb T C W : Nat} {G : Ldt} (hq : cq N sh D la lb T C W G) {t n : Int} (htr : x_r t) (hnr : x_r n) : x_M X l yX11_streak cX11_streak 6 (some .int) 7 1 6 [.ref (x_b X + 0), .int (xI t), .int (xI n)] false N sh D (q_streak T C G (D 34) t n) false N sh (sc la D) := by
  obtain ⟨hX, hG, hR, ⟨hk, hd9, hpl⟩, hco⟩ := id hq
  obtain ⟨hN, x0, x1, x2, xla, xlb, x33, x35, x37, x39, x43, x45, x47, x51, x60, x61, hll⟩ := id hX
  have hla : la = 3 ∨ la = 18 := by omega
  have n0 : 0 < N := by omega
  have n1 : 1 < N := by omega
  have n2 : 2 < N := by omega
  have n33 : 33 < N := by omega
  have n34 : 34 < N := by omega
  have n35 : 35 < N := by omega
  have n36 : 36 < N := by omega
  have n37 : 37 < N := by omega
  have n38 : 38 < N := by omega
  have n39 : 39 < N := by omega
  have n40 : 40 < N := by omega
  have n41 : 41 < N := by omega
  have n42 : 42 < N := by omega
  have n43 : 43 < N := by omega
  have n45 : 45 < N := by omega
  have n47 : 47 < N := by omega
  have n51 : 51 < N := by omega
  have n60 : 60 < N := by omega
  have n61 : 61 < N := by omega
  have x33a := x33.2.1
  have x34 := x33.2.2.2
  have x35a := x35.2.1
  have x36 := x35.2.2.2
  have x37a := x37.2.1
  have x38 := x37.2.2.2
  have x39a := x39.2.1
  have x43a := x43.2.1
  have x45a := x45.2.1
  have x47a := x47.2.1
  have x51a := x51.2.1
  have xla0 := xla.2.1
  have xla1 := xla.2.2.1
  have xla2 := xla.2.2.2.1
  have hlaN : la < N := by have := xla.1; omega
  have hlaN1 : la + 1 < N := by have := xla.1; omega
  have hlaN2 : la + 2 < N := by have := xla.1; omega
  have hlaN3 : la + 3 < N := by have := xla.1; omega
  have hlaN10 : la + 10 < N := by have := xla.1; omega
  have xru := (is_L_ru xla).2.1
  have xro := (is_L_ro xla).2.1
  obtain ⟨hG1, hG2, hG3⟩ := ldG_G hG
  obtain ⟨n0', ⟨gT, gTb, gC, gCb, -⟩, -⟩ := id hG
  obtain ⟨rW, rWb, rT, -, ro1, ro2, ro3, ro4, ro5, ro6⟩ := id hR
  have hd0 : 0 ≤ D 34 0 := ((hk 0).1 rfl).1
  have hB : 161 * D 34 0 ≤ 160839 := by omega
  have hsc := sc_refl hG hco
  unfold q_streak
  by_cases ht : 0 ≤ t ∧ t < T
  · rw [if_pos ht]
    obtain ⟨ht0, ht1⟩ := id ht
    by_cases hn : 0 ≤ n ∧ n ≤ 60
    · rw [if_pos hn]
      obtain ⟨hn0, hn1⟩ := id hn
      obtain ⟨m, rfl⟩ := Int.eq_ofNat_of_zero_le hn0
      rw [Int.toNat_natCast]
      have hloop : ∀ k : Nat, k ≤ m → ∀ d : xM, sc la D d → d 36 = s_towns G C (D 34) t k → x_W (X, l, yX11_streak, cX11_streak, 6, (some .int), x_room 7 1 6, 1, 6, (o_i (l_str C G (D 34) t m).1), N, sh, (sc la D), false, []) 31 [some (.ref (x_b X + 0)), some (.int (xI t)), some (.int (xI (m : Int))), some (.int (xI (l_str C G (D 34) t k).1)), some (.int (xI (l_str C G (D 34) t k).2)), some (.int (xI (k : Int)))] [] 0 0 false N sh d := by
        refine x_down m ?_ ?_
        · intro d hcd hrow
          refine x_iload dX11_streak_31 x_get_6_5 ?_
          refine x_iload_n dX11_streak_33 x_get_6_2 ?_
          refine r_icmp_ge (t := 75) dX11_streak_34 rfl ⟨by omega, by omega⟩ ⟨by omega, by omega⟩ (fun hc34 => ?_) (fun hc34 => absurd hc34 (by omega))
          refine x_iload_n dX11_streak_75 x_get_6_3 ?_
          exact x_iret dX11_streak_76 rfl (Nat.le_of_ble_eq_true rfl) (Nat.le_of_ble_eq_true rfl) rfl rfl rfl hcd rfl
        · intro k hk2 ih d hcd hrow
          have hli := l_str_in C G (D 34) t k
          rw [l_str_s] at ih
          refine x_iload dX11_streak_31 x_get_6_5 ?_
          refine x_iload_n dX11_streak_33 x_get_6_2 ?_
          refine r_icmp_ge (t := 75) dX11_streak_34 rfl ⟨by omega, by omega⟩ ⟨by omega, by omega⟩ (fun hc34 => absurd hc34 (by omega)) (fun hc34 => ?_)
          refine x_aload_n dX11_streak_37 x_get_6_0 ?_
          refine x_getR dX11_streak_38 fX_11_34 (by assumption) (by assumption) (by rfl) ?_
          refine x_aload_n dX11_streak_41 x_get_6_0 ?_
          refine x_getR dX11_streak_42 fX_11_23 (by assumption) (by assumption) (by rfl) ?_
          refine x_iload_n dX11_streak_45 x_get_6_1 ?_
          refine x_callV (As := [_, _]) dX11_streak_46 w_11_236 (c9_passTown hl x35 xla (ldG_sc hG hcd hla) (Or.inr (by omega)) (B := 161 * D 34 0 + 21 * (k : Nat)) (by rw [hrow]; exact s_ok_towns hk hG1 hG2 gCb ht0 (by omega) k) (by omega) (t := t) ht0 (by omega)) (by assumption) (by assumption) rfl rfl (Nat.le_of_ble_eq_true rfl) (Nat.le_of_ble_eq_true rfl) (Nat.le_of_ble_eq_true rfl) (Nat.le_of_ble_eq_true rfl) (Nat.le_of_ble_eq_true rfl) ?_
          rintro _ ⟨w2, hw, rfl⟩
          rw [hrow]
          refine b_ifeq (t := 59) dX11_streak_49 rfl (fun hc49 => ?_) (fun hc49 => ?_)
          · refine x_iconst dX11_streak_59 ?_
            refine x_istore dX11_streak_60 (Nat.le_of_ble_eq_true rfl) rfl x_set_6_4 ?_
            refine x_iload_n dX11_streak_62 x_get_6_3 ?_
            refine x_iload dX11_streak_63 x_get_6_4 ?_
            refine r_max dX11_streak_65 w_11_240 ⟨by omega, by omega⟩ ⟨by omega, by omega⟩ (Nat.le_of_ble_eq_true rfl) (Nat.le_of_ble_eq_true rfl) (Nat.le_of_ble_eq_true rfl) (Nat.le_of_ble_eq_true rfl) ?_
            refine x_istore_n dX11_streak_68 (Nat.le_of_ble_eq_true rfl) rfl x_set_6_3 ?_
            refine x_iinc dX11_streak_69 x_get_6_5 (Nat.le_of_ble_eq_true rfl) rfl x_set_6_5 ?_
            refine x_goto (t := 31) dX11_streak_72 rfl ?_
            first | (rw [if_pos hc49] at ih; exact ih _ (sc_w (sc_36 hcd hla) hla hw) (by rw [x_up_n (by omega), x_up_s]; rfl)) | (rw [if_neg hc49] at ih; exact ih _ (sc_w (sc_36 hcd hla) hla hw) (by rw [x_up_n (by omega), x_up_s]; rfl))
          · refine x_iload dX11_streak_52 x_get_6_4 ?_
            refine x_iconst dX11_streak_54 ?_
            refine x_iadd dX11_streak_55 ?_
            refine x_goto (t := 60) dX11_streak_56 rfl ?_
            refine x_istore dX11_streak_60 (Nat.le_of_ble_eq_true rfl) rfl x_set_6_4 ?_
            refine x_iload_n dX11_streak_62 x_get_6_3 ?_
            refine x_iload dX11_streak_63 x_get_6_4 ?_
            refine r_max dX11_streak_65 w_11_240 ⟨by omega, by omega⟩ ⟨by omega, by omega⟩ (Nat.le_of_ble_eq_true rfl) (Nat.le_of_ble_eq_true rfl) (Nat.le_of_ble_eq_true rfl) (Nat.le_of_ble_eq_true rfl) ?_
            refine x_istore_n dX11_streak_68 (Nat.le_of_ble_eq_true rfl) rfl x_set_6_3 ?_
            refine x_iinc dX11_streak_69 x_get_6_5 (Nat.le_of_ble_eq_true rfl) rfl x_set_6_5 ?_
            refine x_goto (t := 31) dX11_streak_72 rfl ?_
            first | (rw [if_pos hc49] at ih; exact ih _ (sc_w (sc_36 hcd hla) hla hw) (by rw [x_up_n (by omega), x_up_s]; rfl)) | (rw [if_neg hc49] at ih; exact ih _ (sc_w (sc_36 hcd hla) hla hw) (by rw [x_up_n (by omega), x_up_s]; rfl))
      refine x_ofW (by decide +kernel) hl (by simp [Value.category]) (by simp) ?_
      refine x_aload_n dX11_streak_0 x_get_6_0 ?_
      refine x_iload_n dX11_streak_1 x_get_6_1 ?_
      refine x_callV (As := [_]) dX11_streak_2 w_11_161 (c11_nTown hl hq ht0 ht1) (by assumption) (by assumption) rfl rfl (Nat.le_of_ble_eq_true rfl) (Nat.le_of_ble_eq_true rfl) (Nat.le_of_ble_eq_true rfl) (Nat.le_of_ble_eq_true rfl) (Nat.le_of_ble_eq_true rfl) ?_
      intro d hd
      obtain rfl := Eq.symm hd
      refine x_iload_n dX11_streak_5 x_get_6_2 ?_
      refine x_iconst dX11_streak_6 ?_
      refine x_bipush dX11_streak_7 rfl ?_
      refine x_callS (As := [_, _, _]) dX11_streak_9 w_11_232 (c11_nIn hl hn0 hn1 (by decide) (by decide)) rfl rfl (Nat.le_of_ble_eq_true rfl) (Nat.le_of_ble_eq_true rfl) (Nat.le_of_ble_eq_true rfl) (Nat.le_of_ble_eq_true rfl) (Nat.le_of_ble_eq_true rfl) ?_
      intro d hd
      obtain rfl := Eq.symm hd
      refine x_aload_n dX11_streak_12 x_get_6_0 ?_
      refine x_getR dX11_streak_13 fX_11_34 (by assumption) (by assumption) (by rfl) ?_
      refine x_aload_n dX11_streak_16 x_get_6_0 ?_
      refine x_getR dX11_streak_17 fX_11_30 (by assumption) (by assumption) (by rfl) ?_
      refine x_callV (As := [_]) dX11_streak_20 w_11_121 (c9_take2 hl x35 x33) (by assumption) (by assumption) rfl rfl (Nat.le_of_ble_eq_true rfl) (Nat.le_of_ble_eq_true rfl) (Nat.le_of_ble_eq_true rfl) (Nat.le_of_ble_eq_true rfl) (Nat.le_of_ble_eq_true rfl) ?_
      intro d hd
      obtain rfl := Eq.symm hd
      refine x_iconst dX11_streak_23 ?_
      refine x_istore_n dX11_streak_24 (Nat.le_of_ble_eq_true rfl) rfl x_set_6_3 ?_
      refine x_iconst dX11_streak_25 ?_
      refine x_istore dX11_streak_26 (Nat.le_of_ble_eq_true rfl) rfl x_set_6_4 ?_
      refine x_iconst dX11_streak_28 ?_
      refine x_istore dX11_streak_29 (Nat.le_of_ble_eq_true rfl) rfl x_set_6_5 ?_
      exact hloop 0 (Nat.zero_le _) _ (sc_36 hsc hla) (by rw [x_up_s]; rfl)
    · rw [if_neg hn]
      refine x_ofW (by decide +kernel) hl (by simp [Value.category]) (by simp) ?_
      refine x_aload_n dX11_streak_0 x_get_6_0 ?_
      refine x_iload_n dX11_streak_1 x_get_6_1 ?_
      refine x_callV (As := [_]) dX11_streak_2 w_11_161 (c11_nTown hl hq ht0 ht1) (by assumption) (by assumption) rfl rfl (Nat.le_of_ble_eq_true rfl) (Nat.le_of_ble_eq_true rfl) (Nat.le_of_ble_eq_true rfl) (Nat.le_of_ble_eq_true rfl) (Nat.le_of_ble_eq_true rfl) ?_
      intro d hd
      obtain rfl := Eq.symm hd
      refine x_iload_n dX11_streak_5 x_get_6_2 ?_
      refine x_iconst dX11_streak_6 ?_
      refine x_bipush dX11_streak_7 rfl ?_
      exact x_callST (As := [_, _, _]) dX11_streak_9 w_11_232 (c11_nInT hl hnr hn (by decide) (by decide) (by decide) (by decide)) rfl rfl (Nat.le_of_ble_eq_true rfl) (Nat.le_of_ble_eq_true rfl) (Nat.le_of_ble_eq_true rfl) (Nat.le_of_ble_eq_true rfl) (Nat.le_of_ble_eq_true rfl) rfl rfl rfl rfl (fun d hd => by obtain rfl := Eq.symm hd; exact hsc) rfl (Nat.le_of_ble_eq_true rfl) (Nat.le_of_ble_eq_true rfl)
  · rw [if_neg ht]
    refine x_ofW (by decide +kernel) hl (by simp [Value.category]) (by simp) ?_
    refine x_aload_n dX11_streak_0 x_get_6_0 ?_
    refine x_iload_n dX11_streak_1 x_get_6_1 ?_
    exact x_callVT (As := [_]) dX11_streak_2 w_11_161 (c11_nTownT hl hq htr ht) (by assumption) (by assumption) rfl rfl (Nat.le_of_ble_eq_true rfl) (Nat.le_of_ble_eq_true rfl) (Nat.le_of_ble_eq_true rfl) (Nat.le_of_ble_eq_true rfl) (Nat.le_of_ble_eq_true rfl) rfl rfl rfl rfl (fun d hd => by obtain rfl := Eq.symm hd; exact hsc) rfl (Nat.le_of_ble_eq_true rfl) (Nat.le_of_ble_eq_true rfl)
theorem c11_lucky {X : xC} {l : Launch} (hl : l.stackTraces = false) {N : Nat} {sh : xS} {D : xM} {la lb T C W : Nat} {G : Ldt} (hq : cq N sh D la lb T C W G) {n : Int} (hnr : x_r n) : x_M X l yX11_luckiest cX11_luckiest 6 (some .int) 8 1 6 [.ref (x_b X + 0), .int (xI n)] false N sh D (q_lucky T C G (D 34) n) false N sh (sc la D) := by
  obtain ⟨hX, hG, hR, ⟨hk, hd9, hpl⟩, hco⟩ := id hq
  obtain ⟨hN, x0, x1, x2, xla, xlb, x33, x35, x37, x39, x43, x45, x47, x51, x60, x61, hll⟩ := id hX
  have hla : la = 3 ∨ la = 18 := by omega
  have n0 : 0 < N := by omega
  have n1 : 1 < N := by omega
  have n2 : 2 < N := by omega
  have n33 : 33 < N := by omega
  have n34 : 34 < N := by omega
  have n35 : 35 < N := by omega
  have n36 : 36 < N := by omega
  have n37 : 37 < N := by omega
  have n38 : 38 < N := by omega
  have n39 : 39 < N := by omega
  have n40 : 40 < N := by omega
  have n41 : 41 < N := by omega
  have n42 : 42 < N := by omega
  have n43 : 43 < N := by omega
  have n45 : 45 < N := by omega
  have n47 : 47 < N := by omega
  have n51 : 51 < N := by omega
  have n60 : 60 < N := by omega
  have n61 : 61 < N := by omega
  have x33a := x33.2.1
  have x34 := x33.2.2.2
  have x35a := x35.2.1
  have x36 := x35.2.2.2
  have x37a := x37.2.1
  have x38 := x37.2.2.2
  have x39a := x39.2.1
  have x43a := x43.2.1
  have x45a := x45.2.1
  have x47a := x47.2.1
  have x51a := x51.2.1
  have xla0 := xla.2.1
  have xla1 := xla.2.2.1
  have xla2 := xla.2.2.2.1
  have hlaN : la < N := by have := xla.1; omega
  have hlaN1 : la + 1 < N := by have := xla.1; omega
  have hlaN2 : la + 2 < N := by have := xla.1; omega
  have hlaN3 : la + 3 < N := by have := xla.1; omega
  have hlaN10 : la + 10 < N := by have := xla.1; omega
  have xru := (is_L_ru xla).2.1
  have xro := (is_L_ro xla).2.1
  obtain ⟨hG1, hG2, hG3⟩ := ldG_G hG
  obtain ⟨n0', ⟨gT, gTb, gC, gCb, -⟩, -⟩ := id hG
  obtain ⟨rW, rWb, rT, -, ro1, ro2, ro3, ro4, ro5, ro6⟩ := id hR
  have hd0 : 0 ≤ D 34 0 := ((hk 0).1 rfl).1
  have hB : 161 * D 34 0 ≤ 160839 := by omega
  have hsc := sc_refl hG hco
  unfold q_lucky
  by_cases hn : 0 ≤ n ∧ n ≤ 60
  · rw [if_pos hn]
    obtain ⟨hn0, hn1⟩ := id hn
    obtain ⟨m, rfl⟩ := Int.eq_ofNat_of_zero_le hn0
    rw [Int.toNat_natCast]
    have hkm := s_ok_days hk hG1 hG2 gTb gCb m
    have hbi := l_best_in (r := (s_days G T C (D 34) m)) (M := 200000) (by decide) (fun t a b => by have := (s_tn hkm a b).2.2; omega)
    have hloop : ∀ k : Nat, k ≤ T → ∀ d : xM, sc la D d → d 36 = (s_days G T C (D 34) m) → x_W (X, l, yX11_luckiest, cX11_luckiest, 6, (some .int), x_room 8 1 6, 1, 6, (o_i (l_best (s_days G T C (D 34) m) T).1), N, sh, (sc la D), false, []) 37 [some (.ref (x_b X + 0)), some (.int (xI (m : Int))), some (.int (xI (l_best (s_days G T C (D 34) m) k).1)), some (.int (xI (l_best (s_days G T C (D 34) m) k).2)), some (.int (xI (k : Int))), none] [] 0 0 false N sh d := by
      refine x_down T ?_ ?_
      · intro d hcd hrow
        refine x_iload dX11_luckiest_37 x_get_6_4 ?_
        refine x_aload_n dX11_luckiest_39 x_get_6_0 ?_
        refine x_getR dX11_luckiest_40 fX_11_23 (by assumption) (by assumption) (by rfl) ?_
        refine x_getI 0 dX11_luckiest_43 fX_11_110 rfl (by assumption) (by assumption) (by rfl) ?_
        rw [sc_la hcd hla, gT]
        refine r_icmp_ge (t := 87) dX11_luckiest_46 rfl ⟨by omega, by omega⟩ ⟨by omega, by omega⟩ (fun hc46 => ?_) (fun hc46 => absurd hc46 (by omega))
        refine x_iload_n dX11_luckiest_87 x_get_6_2 ?_
        exact x_iret dX11_luckiest_88 rfl (Nat.le_of_ble_eq_true rfl) (Nat.le_of_ble_eq_true rfl) rfl rfl rfl hcd rfl
      · intro k hk2 ih d hcd hrow
        have hli := hbi k (by omega)
        have hwk := (s_tn hkm (t := (k : Int)) (by omega) (by omega)).2.2
        rw [l_best_s] at ih
        refine x_iload dX11_luckiest_37 x_get_6_4 ?_
        refine x_aload_n dX11_luckiest_39 x_get_6_0 ?_
        refine x_getR dX11_luckiest_40 fX_11_23 (by assumption) (by assumption) (by rfl) ?_
        refine x_getI 0 dX11_luckiest_43 fX_11_110 rfl (by assumption) (by assumption) (by rfl) ?_
        first | rw [sc_la hcd hla, gT] | rw [hrow]
        refine r_icmp_ge (t := 87) dX11_luckiest_46 rfl ⟨by omega, by omega⟩ ⟨by omega, by omega⟩ (fun hc46 => absurd hc46 (by omega)) (fun hc46 => ?_)
        refine x_aload_n dX11_luckiest_49 x_get_6_0 ?_
        refine x_getR dX11_luckiest_50 fX_11_34 (by assumption) (by assumption) (by rfl) ?_
        refine x_getR dX11_luckiest_53 fX_11_135 (by assumption) (by assumption) (by rfl) ?_
        refine x_bipush dX11_luckiest_56 rfl ?_
        refine x_iload dX11_luckiest_58 x_get_6_4 ?_
        refine x_iadd dX11_luckiest_60 ?_
        refine x_iald dX11_luckiest_61 (by assumption) (by assumption) (by omega) (by omega) (by decide) ?_
        first | rw [sc_la hcd hla, gT] | rw [hrow]
        refine x_istore dX11_luckiest_62 (Nat.le_of_ble_eq_true rfl) rfl x_set_6_5 ?_
        refine x_iload_n dX11_luckiest_64 x_get_6_2 ?_
        refine x_iconst dX11_luckiest_65 ?_
        refine r_icmp_eq (t := 75) dX11_luckiest_66 rfl ⟨by omega, by omega⟩ ⟨by omega, by omega⟩ (fun hc66 => ?_) (fun hc66 => ?_)
        · refine x_iload dX11_luckiest_75 x_get_6_4 ?_
          refine x_istore_n dX11_luckiest_77 (Nat.le_of_ble_eq_true rfl) rfl x_set_6_2 ?_
          refine x_iload dX11_luckiest_78 x_get_6_5 ?_
          refine x_istore_n dX11_luckiest_80 (Nat.le_of_ble_eq_true rfl) rfl x_set_6_3 ?_
          refine x_iinc dX11_luckiest_81 x_get_6_4 (Nat.le_of_ble_eq_true rfl) rfl x_set_6_4 ?_
          refine x_goto (t := 37) dX11_luckiest_84 rfl ?_
          refine x_forget 5 ?_
          first | (rw [if_pos (by omega)] at ih; exact ih d hcd hrow) | (rw [if_neg (by omega)] at ih; exact ih d hcd hrow)
        · refine x_iload dX11_luckiest_69 x_get_6_5 ?_
          refine x_iload_n dX11_luckiest_71 x_get_6_3 ?_
          refine r_icmp_le (t := 81) dX11_luckiest_72 rfl ⟨by omega, by omega⟩ ⟨by omega, by omega⟩ (fun hc72 => ?_) (fun hc72 => ?_)
          · refine x_iinc dX11_luckiest_81 x_get_6_4 (Nat.le_of_ble_eq_true rfl) rfl x_set_6_4 ?_
            refine x_goto (t := 37) dX11_luckiest_84 rfl ?_
            refine x_forget 5 ?_
            first | (rw [if_pos (by omega)] at ih; exact ih d hcd hrow) | (rw [if_neg (by omega)] at ih; exact ih d hcd hrow)
          · refine x_iload dX11_luckiest_75 x_get_6_4 ?_
            refine x_istore_n dX11_luckiest_77 (Nat.le_of_ble_eq_true rfl) rfl x_set_6_2 ?_
            refine x_iload dX11_luckiest_78 x_get_6_5 ?_
            refine x_istore_n dX11_luckiest_80 (Nat.le_of_ble_eq_true rfl) rfl x_set_6_3 ?_
            refine x_iinc dX11_luckiest_81 x_get_6_4 (Nat.le_of_ble_eq_true rfl) rfl x_set_6_4 ?_
            refine x_goto (t := 37) dX11_luckiest_84 rfl ?_
            refine x_forget 5 ?_
            first | (rw [if_pos (by omega)] at ih; exact ih d hcd hrow) | (rw [if_neg (by omega)] at ih; exact ih d hcd hrow)
    refine x_ofW (by decide +kernel) hl (by simp [Value.category]) (by simp) ?_
    refine x_iload_n dX11_luckiest_0 x_get_6_1 ?_
    refine x_iconst dX11_luckiest_1 ?_
    refine x_bipush dX11_luckiest_2 rfl ?_
    refine x_callS (As := [_, _, _]) dX11_luckiest_4 w_11_232 (c11_nIn hl hn0 hn1 (by decide) (by decide)) rfl rfl (Nat.le_of_ble_eq_true rfl) (Nat.le_of_ble_eq_true rfl) (Nat.le_of_ble_eq_true rfl) (Nat.le_of_ble_eq_true rfl) (Nat.le_of_ble_eq_true rfl) ?_
    intro d hd
    obtain rfl := Eq.symm hd
    refine x_aload_n dX11_luckiest_7 x_get_6_0 ?_
    refine x_getR dX11_luckiest_8 fX_11_34 (by assumption) (by assumption) (by rfl) ?_
    refine x_aload_n dX11_luckiest_11 x_get_6_0 ?_
    refine x_getR dX11_luckiest_12 fX_11_30 (by assumption) (by assumption) (by rfl) ?_
    refine x_callV (As := [_]) dX11_luckiest_15 w_11_121 (c9_take2 hl x35 x33) (by assumption) (by assumption) rfl rfl (Nat.le_of_ble_eq_true rfl) (Nat.le_of_ble_eq_true rfl) (Nat.le_of_ble_eq_true rfl) (Nat.le_of_ble_eq_true rfl) (Nat.le_of_ble_eq_true rfl) ?_
    intro d hd
    obtain rfl := Eq.symm hd
    refine x_aload_n dX11_luckiest_18 x_get_6_0 ?_
    refine x_getR dX11_luckiest_19 fX_11_34 (by assumption) (by assumption) (by rfl) ?_
    refine x_aload_n dX11_luckiest_22 x_get_6_0 ?_
    refine x_getR dX11_luckiest_23 fX_11_23 (by assumption) (by assumption) (by rfl) ?_
    refine x_iload_n dX11_luckiest_26 x_get_6_1 ?_
    refine x_callV (As := [_, _]) dX11_luckiest_27 w_11_197 (c9_passDays hl x35 xla (ldG_sc hG (sc_36 hsc hla) hla) (Or.inr (by omega)) (B := 161 * D 34 0) (by rw [x_up_s]; exact hk) (n := m) (by omega)) (by assumption) (by assumption) rfl rfl (Nat.le_of_ble_eq_true rfl) (Nat.le_of_ble_eq_true rfl) (Nat.le_of_ble_eq_true rfl) (Nat.le_of_ble_eq_true rfl) (Nat.le_of_ble_eq_true rfl) ?_
    rintro _ ⟨w, hw, rfl⟩
    rw [x_up_s, x_up_up]
    refine x_iconst dX11_luckiest_30 ?_
    refine x_istore_n dX11_luckiest_31 (Nat.le_of_ble_eq_true rfl) rfl x_set_6_2 ?_
    refine x_iconst dX11_luckiest_32 ?_
    refine x_istore_n dX11_luckiest_33 (Nat.le_of_ble_eq_true rfl) rfl x_set_6_3 ?_
    refine x_iconst dX11_luckiest_34 ?_
    refine x_istore dX11_luckiest_35 (Nat.le_of_ble_eq_true rfl) rfl x_set_6_4 ?_
    exact hloop 0 (Nat.zero_le _) _ (sc_w (sc_36 hsc hla) hla hw) (by rw [x_up_n (by omega), x_up_s])
  · rw [if_neg hn]
    refine x_ofW (by decide +kernel) hl (by simp [Value.category]) (by simp) ?_
    refine x_iload_n dX11_luckiest_0 x_get_6_1 ?_
    refine x_iconst dX11_luckiest_1 ?_
    refine x_bipush dX11_luckiest_2 rfl ?_
    exact x_callST (As := [_, _, _]) dX11_luckiest_4 w_11_232 (c11_nInT hl hnr hn (by decide) (by decide) (by decide) (by decide)) rfl rfl (Nat.le_of_ble_eq_true rfl) (Nat.le_of_ble_eq_true rfl) (Nat.le_of_ble_eq_true rfl) (Nat.le_of_ble_eq_true rfl) (Nat.le_of_ble_eq_true rfl) rfl rfl rfl rfl (fun d hd => by obtain rfl := Eq.symm hd; exact hsc) rfl (Nat.le_of_ble_eq_true rfl) (Nat.le_of_ble_eq_true rfl)
end C46
