section L6
/-! ===== the law's questions: what both sides answer ===== -/
theorem w_L_127 : x_cv RL 127 yX12_thrown cX12_thrown 1 (some .int) 12 0 := ⟨⟨_, rfl, rfl⟩, (x_in 1533 (by decide +kernel) rfl), (x_in 1534 (by decide +kernel) rfl), (x_in 1535 (by decide +kernel) rfl), (x_in 90 (by decide +kernel) rfl), (x_in 1536 (by decide +kernel) rfl), by decide, ⟨by decide +kernel, by decide +kernel, by decide +kernel⟩⟩
abbrev zL (X : xC) (l : Launch) (nm : String) (hh : List (Nat × Nat × Nat × Nat)) : x_Z := (X, l, ⟨RL, nm, "([I)Z"⟩, cL_law, 7, some .boolean, room_1, 601024, 7293034, .inl (some (.int (xI 1))), 0, (fun _ => .inl (0, 0)), (fun _ => True), false, hh)
/-- the law's loop goes on -/
def Kn (X : xC) (l : Launch) (nm : String) (hh : List (Nat × Nat × Nat × Nat)) (i : Int) (k n : Nat) : Prop := ∀ (sh : xS) (d : xM) (la lb T C W : Nat) (G : Ldt) (L : List (Int → Int)) (S : List (Int × Int × Int)), jq sh d la lb T C W G L S → x_W (zL X l nm hh) 2520 [some (.ref (xsc X)), some (.ref (x_b X + 0)), some (.ref (x_b X + 62)), some (.ref (x_b X + 96)), some (.int (xI i)), none, none] [] k n false 97 sh d
theorem ls_fg {a b c d e f g : Option Value} : ∀ (i : Nat) (v : Value), ([a, b, c, d, e, none, none] : List (Option Value))[i]? = some (some v) → ([a, b, c, d, e, f, g] : List (Option Value))[i]? = some (some v)
  | 0, v, h => h
  | 1, v, h => h
  | 2, v, h => h
  | 3, v, h => h
  | 4, v, h => h
  | 5, v, h => by simp at h
  | 6, v, h => by simp at h
  | i + 7, v, h => by simp at h
theorem x_lc_s (a : Int) : x_lc a a = 0 := by
  unfold x_lc lg_cmp
  rw [if_neg (by rw [gt_iff_lt, Int64.lt_iff_toInt_lt]; omega), if_pos rfl]
  rfl
theorem x_Il_v (z : Int) : x_Il (m_v (o_i z)) = x_Il z := by
  show (xI ((xI z).toInt)).toInt64.toInt = (xI z).toInt64.toInt
  rw [xI_toInt]
theorem outw_96 {z : Int} {d : xM} : outw (o_i z) d 96 0 = x_Il z := by rw [outw_i, x_up_s, x_u1_s]
theorem o_B_N {q : x_O} (h : o_okN q) : o_okB q := h.elim Or.inl (fun h => Or.inr (Or.inl h))
theorem o_B_I {q : x_O} (h : o_okI q) : o_okB q := h.elim Or.inl (fun h => Or.inr (Or.inr h))
theorem q_tail {X : xC} {l : Launch} {nm : String} {hh : List (Nat × Nat × Nat × Nat)} (hl : l.stackTraces = false) {sh : xS} {d3 : xM} {la lb T C W : Nat} {G : Ldt} {L : List (Int → Int)} {S : List (Int × Int × Int)} (hJ : jq sh d3 la lb T C W G L S) {q : x_O} {e : Int} (hO : o_okB q) (he : e = 1 ∨ e = 2) (h0 : d3 62 0 = m_k e q) (h96 : ∀ z, q = o_i z → d3 96 0 = x_Il z) {i : Int} {k n : Nat} (hk : k ≤ 601024) (hn : n ≤ 7293034) (hK : Kn X l nm hh i k n) {r : Nat} {go : Int}
    (e0 : decode cL_law r = .ok (.istore 6, 2)) (e1 : decode cL_law (r + 2) = .ok (.aload_n 2, 1)) (e2 : decode cL_law (r + 2 + 1) = .ok (.invokevirtual 127, 3)) (e3 : decode cL_law (r + 2 + 1 + 3) = .ok (.iload 5, 2)) (e4 : decode cL_law (r + 2 + 1 + 3 + 2) = .ok (.if_icmp .eq 5, 3)) (e5 : decode cL_law (r + 13) = .ok (.iload 5, 2)) (e6 : decode cL_law (r + 13 + 2) = .ok (.ifCond .ne 15, 3)) (e7 : decode cL_law (r + 13 + 2 + 3) = .ok (.aload_n 3, 1)) (e8 : decode cL_law (r + 13 + 2 + 3 + 1) = .ok (.iconst 0, 1)) (e9 : decode cL_law (r + 13 + 2 + 3 + 1 + 1) = .ok (.laload, 1)) (e10 : decode cL_law (r + 13 + 2 + 3 + 1 + 1 + 1) = .ok (.iload 6, 2)) (e11 : decode cL_law (r + 13 + 2 + 3 + 1 + 1 + 1 + 2) = .ok (.i2l, 1)) (e12 : decode cL_law (r + 13 + 2 + 3 + 1 + 1 + 1 + 2 + 1) = .ok (.lcmp, 1)) (e13 : decode cL_law (r + 13 + 2 + 3 + 1 + 1 + 1 + 2 + 1 + 1) = .ok (.ifCond .eq 5, 3)) (e14 : decode cL_law (r + 30) = .ok (.goto go, 3)) (hgo : ((r + 30 : Nat) : Int) + go = (2520 : Nat)) :
    x_W (zL X l nm hh) r [some (.ref (xsc X)), some (.ref (x_b X + 0)), some (.ref (x_b X + 62)), some (.ref (x_b X + 96)), some (.int (xI i)), some (.int (xI (m_k e q))), none] [.int (xI (m_v q))] k n false 97 sh d3 := by
  have hMd := hJ.2.1.1
  have s62 := md_62 hMd
  have ht := m_thrown (X := X) (l := l) hl hMd (D := d3)
  rw [h0] at ht
  have g30 : ∀ f g : Option Value, x_W (zL X l nm hh) (r + 30) [some (.ref (xsc X)), some (.ref (x_b X + 0)), some (.ref (x_b X + 62)), some (.ref (x_b X + 96)), some (.int (xI i)), f, g] [] k n false 97 sh d3 := by
    intro f g
    refine x_goto (t := 2520) e14 hgo ?_
    exact x_lcl ls_fg (hK _ _ _ _ _ _ _ _ _ _ hJ)
  refine x_istore e0 (Nat.le_of_ble_eq_true rfl) rfl x_set_7_6 ?_
  refine x_aload_n e1 x_get_7_2 ?_
  refine x_callV (As := []) e2 w_L_127 ht (by decide) s62 rfl rfl (Nat.le_of_ble_eq_true rfl) (Nat.le_of_ble_eq_true rfl) (Nat.le_of_ble_eq_true rfl) (show k + 0 ≤ 601024 from hk) (show n + 0 ≤ 7293034 from hn) ?_
  intro d hd
  obtain rfl := Eq.symm hd
  refine x_iload e3 x_get_7_5 ?_
  refine x_icmp_eq (t := r + 13) e4 (by omega) (fun _ => ?_) (fun h => absurd rfl h)
  refine x_iload e5 x_get_7_5 ?_
  rcases hO with ⟨z, rfl⟩ | rfl | rfl
  · have h9 := h96 z rfl
    refine x_if_ne (t := r + 30) e6 (by omega) (fun _ => g30 _ _) (fun _ => ?_)
    refine x_aload_n e7 x_get_7_3 ?_
    refine x_iconst e8 ?_
    refine x_lald e9 (by decide) hJ.2.2.1 (by decide) (by decide) (by decide) ?_
    refine x_iload e10 x_get_7_6 ?_
    refine x_i2l e11 ?_
    refine x_lcmp e12 ?_
    rw [h9, x_Il_v, x_lc_s]
    exact x_if_eq (t := r + 30) e13 (by omega) (fun _ => g30 _ _) (fun h => absurd x_n0 h)
  · refine x_if_ne (t := r + 30) e6 (by omega) (fun _ => g30 _ _) (fun h => absurd h ?_)
    rw [m_k_N]
    decide
  · refine x_if_ne (t := r + 30) e6 (by omega) (fun _ => g30 _ _) (fun h => absurd h ?_)
    rw [m_k_I]
    rcases he with rfl | rfl <;> decide
/-! the ways' answers -/
section E
variable {D : xM} {la W T : Nat}
theorem eq_far (h : wsq D la W T) (hT : T ≤ 8) {a b : Int} : q_2t T a b (o_i (e_none 99999 ((f_M (D (la + 3 + 1)) (D (la + 3 + 2)) (D (la + 3 + 3)) (-1) W T) (a * 8 + b)))) = q_2t T a b (o_i (e_none 1000000 (D (la + 3 + 5) (a * 8 + b)))) := by
  unfold q_2t
  by_cases h1 : 0 ≤ a ∧ a < T
  · rw [if_pos h1, if_pos h1]
    by_cases h2 : 0 ≤ b ∧ b < T
    · rw [if_pos h2, if_pos h2, ((h.2.2.resolve_left (by omega)).1)]
      rw [e_none_M hT (fun j => ⟨(h.1.2.2.2.1 j).1, by have := h.1.2.2.2.1 j; omega⟩) h1.1 h1.2 h2.1 h2.2]
    · rw [if_neg h2, if_neg h2]
  · rw [if_neg h1, if_neg h1]
theorem mul_81 (h : wsq D la W T) (j : Int) : 0 ≤ D (la + 3 + 3) j * D (la + 3 + 4) j ∧ D (la + 3 + 3) j * D (la + 3 + 4) j ≤ 81 := m_81 (h.1.2.2.2.1 j) (h.1.2.2.2.2 j)
theorem eq_leak (h : wsq D la W T) (hT : T ≤ 8) {a b : Int} : q_2t T a b (o_i (e_none 99999 ((f_M (D (la + 3 + 1)) (D (la + 3 + 2)) (fun w => D (la + 3 + 3) w * D (la + 3 + 4) w) (-1) W T) (a * 8 + b)))) = q_2t T a b (o_i (e_none 1000000 (D (la + 3 + 6) (a * 8 + b)))) := by
  unfold q_2t
  by_cases h1 : 0 ≤ a ∧ a < T
  · rw [if_pos h1, if_pos h1]
    by_cases h2 : 0 ≤ b ∧ b < T
    · rw [if_pos h2, if_pos h2, ((h.2.2.resolve_left (by omega)).2)]
      rw [e_none_M hT (mul_81 h) h1.1 h1.2 h2.1 h2.2]
    · rw [if_neg h2, if_neg h2]
  · rw [if_neg h1, if_neg h1]
theorem fw_pos {one two v : Int → Int} (hv : ∀ j, 0 ≤ v j ∧ v j ≤ 81) (x : Int) : 0 ≤ m_fw 1000000 one two v W T x := (m_ok_m (m_ok_ways (by decide) (fun j => ⟨(hv j).1, by have := hv j; omega⟩) _) _ _ x).1
theorem eq_hub (h : wsq D la W T) (hT : T ≤ 8) : o_i (e_mid 99999 (f_M (D (la + 3 + 1)) (D (la + 3 + 2)) (D (la + 3 + 3)) (-1) W T) T T).1 = o_i (e_mid 1000000 (D (la + 3 + 5)) T T).1 := by
  by_cases h0 : T = 0
  · subst h0; rfl
  · rw [(h.2.2.resolve_left h0).1]
    have hv : ∀ j, 0 ≤ D (la + 3 + 3) j ∧ D (la + 3 + 3) j ≤ 81 := fun j => ⟨(h.1.2.2.2.1 j).1, by have := h.1.2.2.2.1 j; omega⟩
    rw [(e_mid_M (fun a b ha hb => ⟨m_fw_M hT hv (by omega) (by omega) (by omega) (by omega), fw_pos hv _⟩) T (Nat.le_refl _)).1]
theorem eq_bridge (h : wsq D la W T) (hT : T ≤ 8) {w : Int} : q_1t W w (o_i (x_B (99999 ≤ (f_M (D (la + 3 + 1)) (D (la + 3 + 2)) (D (la + 3 + 3)) w W T) (D (la + 3 + 1) w * 8 + D (la + 3 + 2) w)))) = q_1t W w (o_i (x_B (p_rr (D (la + 3 + 1)) (D (la + 3 + 2)) w W (2 ^ (D (la + 3 + 1) w).toNat) T &&& 2 ^ (D (la + 3 + 2) w).toNat = 0))) := by
  unfold q_1t
  by_cases h1 : 0 ≤ w ∧ w < W
  · rw [if_pos h1, if_pos h1]
    obtain ⟨m, rfl⟩ := Int.eq_ofNat_of_zero_le h1.1
    have hp := p_rr_M h.2.1 hT h.1.2.2.2.1 (w := m) (by omega)
    congr 1
    unfold x_B
    by_cases hx : 99999 ≤ f_M (D (la + 3 + 1)) (D (la + 3 + 2)) (D (la + 3 + 3)) m W T (D (la + 3 + 1) m * 8 + D (la + 3 + 2) m)
    · rw [if_pos hx, if_pos (hp.mpr hx)]
    · rw [if_neg hx, if_neg (fun hy => hx (hp.mp hy))]
  · rw [if_neg h1, if_neg h1]
theorem eq_row (h : wsq D la W T) (hT : T ≤ 8) {a b i : Int} : q_2t T a b (if 0 ≤ i ∧ (f_M (D (la + 3 + 1)) (D (la + 3 + 2)) (D (la + 3 + 3)) (-1) W T) (a * 8 + b) < 99999 then (if (x_wk (fun s => x_next (D (la + 3 + 1)) (D (la + 3 + 2)) (D (la + 3 + 3)) (f_M (D (la + 3 + 1)) (D (la + 3 + 2)) (D (la + 3 + 3)) (-1) W T) W T s b) b i.toNat a).2 = 0 then o_i (x_wk (fun s => x_next (D (la + 3 + 1)) (D (la + 3 + 2)) (D (la + 3 + 3)) (f_M (D (la + 3 + 1)) (D (la + 3 + 2)) (D (la + 3 + 3)) (-1) W T) W T s b) b i.toNat a).1 else .inr x_NSE) else .inr x_NSE) = q_row T W (D (la + 3 + 1)) (D (la + 3 + 2)) (D (la + 3 + 3)) (D (la + 3 + 5)) a b i := by
  by_cases h0 : T = 0
  · subst h0
    unfold q_row q_2t
    rw [if_neg (by omega), if_neg (by omega)]
  · rw [(h.2.2.resolve_left h0).1]
    exact (q_row_M h.2.1 hT h.1.2.2.2.1).symm
theorem eq_send {B : Int} {f : Int → Int} {C : Nat} (h : wsq D la W T) (hT : T ≤ 8) (hk : s_ok B f) (hC : C ≤ 10) (hpl : pl_ok T C f) {t wa : Int} : q_1t T t (if 1 ≤ wa ∧ wa ≤ 999 then o_i (f_snd f (f_M (D (la + 3 + 1)) (D (la + 3 + 2)) (fun w => D (la + 3 + 3) w * D (la + 3 + 4) w) (-1) W T) t wa C (s_bits (fun c : Nat => s_lies f (c : Int) ∧ f (35 + (c : Int)) = 0 ∧ (f_M (D (la + 3 + 1)) (D (la + 3 + 2)) (fun w => D (la + 3 + 3) w * D (la + 3 + 4) w) (-1) W T) (f (55 + (c : Int)) * 8 + t) < 99999) C) ((s_bits (fun c : Nat => s_lies f (c : Int) ∧ f (35 + (c : Int)) = 0 ∧ (f_M (D (la + 3 + 1)) (D (la + 3 + 2)) (fun w => D (la + 3 + 3) w * D (la + 3 + 4) w) (-1) W T) (f (55 + (c : Int)) * 8 + t) < 99999) C) + 1)) else .inr x_IAE) = q_sendg T C f (D (la + 3 + 6)) t wa := by
  unfold q_sendg q_1t
  by_cases h1 : 0 ≤ t ∧ t < T
  · rw [if_pos h1, if_pos h1, (h.2.2.resolve_left (by omega)).2]
    rw [q_send_M hk hC hpl (fun a a0 a1 => ⟨m_fw_M hT (mul_81 h) a0 a1 h1.1 h1.2, fw_pos (mul_81 h) _⟩)]
  · rw [if_neg h1, if_neg h1]
theorem eq_thief {B : Int} {f : Int → Int} {C : Nat} (hk : s_ok B f) (hC : C ≤ 10) {t ca : Int} : q_1t T t (if 0 ≤ ca ∧ ca ≤ 999 then o_i ((f_thf f ca C (l_un f (s_bits (fun c => s_in f t c) C) C) (l_un f (s_bits (fun c => s_in f t c) C) C + 1) : Nat) : Int) else .inr x_IAE) = q_thief T C f t ca := by
  unfold q_thief
  rw [q_thief_M hk hC (s_bits_lt _ C)]
theorem eq_level {B : Int} {f : Int → Int} {C : Nat} (hk : s_ok B f) (hC : C ≤ 10) {t : Int} : q_1t T t (o_i ((f_lev f t C (s_bits (fun c => s_in f t c) C) ((s_bits (fun c => s_in f t c) C) + 1) : Nat) : Int)) = q_level T C f t := by
  unfold q_level
  rw [q_level_M hk hC (s_bits_lt _ C)]
end E
/-! the counts of both sides -/
theorem eq_count {sh : xS} {D : xM} {la lb T C W : Nat} {G : Ldt} {L : List (Int → Int)} {S : List (Int × Int × Int)} (h : jq sh D la lb T C W G L S) {w : Int} : q_count T C W (D 34) (D 62 44) (D 62 52) (D 62 13) (D 71 0) (D 71 1) (D 71 2) w = q_count T C W (D 34) (D 37 2) (D 39 3) (D 0 1) (D 61 0) (D 61 1) (D 61 2) w := by
  obtain ⟨a1, a2, a3, a4, a5, a6, a7, ⟨⟨k, b1, b2, b3⟩, b4⟩, a9, a10, a11, a12, a13⟩ := h
  obtain ⟨o, c1, c2, c3, c4⟩ := a6.1
  rw [a6.2.1.1, a7.2.1.1, b3, ← a11.1, ← a11.2.1, ← a11.2.2, c3, a7.1.1, b2]
/-! shapes of the answers -/
theorem ok_ifN {p : Prop} [Decidable p] {a b : x_O} (h1 : o_okN a) (h2 : o_okN b) : o_okN (if p then a else b) := by
  split
  · exact h1
  · exact h2
theorem ok_ifI {p : Prop} [Decidable p] {a b : x_O} (h1 : o_okI a) (h2 : o_okI b) : o_okI (if p then a else b) := by
  split
  · exact h1
  · exact h2
theorem ok_ifB {p : Prop} [Decidable p] {a b : x_O} (h1 : o_okB a) (h2 : o_okB b) : o_okB (if p then a else b) := by
  split
  · exact h1
  · exact h2
theorem ok_count {T C W : Nat} {G : Ldt} {f : Int → Int} {ac se tp r0 r1 r2 w : Int} : o_okN (q_count T C W f ac se tp r0 r1 r2 w) := by
  unfold q_count
  repeat' (first | exact Or.inl ⟨_, rfl⟩ | exact Or.inr rfl | exact Or.inr (Or.inl rfl) | exact Or.inr (Or.inr rfl) | refine ok_ifN ?_ ?_)
theorem ok_town {T C W : Nat} {G : Ldt} {f : Int → Int} {t w : Int} : o_okN (q_town T C G f t w) := by
  unfold q_town
  repeat' (first | exact Or.inl ⟨_, rfl⟩ | exact Or.inr rfl | exact Or.inr (Or.inl rfl) | exact Or.inr (Or.inr rfl) | refine ok_ifN ?_ ?_)
theorem ok_crate {T C W : Nat} {G : Ldt} {f : Int → Int} {c w : Int} : o_okN (q_crate C f c w) := by
  unfold q_crate
  repeat' (first | exact Or.inl ⟨_, rfl⟩ | exact Or.inr rfl | exact Or.inr (Or.inl rfl) | exact Or.inr (Or.inr rfl) | refine ok_ifN ?_ ?_)
theorem ok_then {T C W : Nat} {G : Ldt} {f : Int → Int} {t n w : Int} : o_okB (q_then T C G f t n w) := by
  unfold q_then
  repeat' (first | exact Or.inl ⟨_, rfl⟩ | exact Or.inr rfl | exact Or.inr (Or.inl rfl) | exact Or.inr (Or.inr rfl) | refine ok_ifB ?_ ?_)
theorem ok_even {T C W : Nat} {G : Ldt} {f : Int → Int} {t : Int} : o_okN (q_even T C G f t) := by
  unfold q_even
  repeat' (first | exact Or.inl ⟨_, rfl⟩ | exact Or.inr rfl | exact Or.inr (Or.inl rfl) | exact Or.inr (Or.inr rfl) | refine ok_ifN ?_ ?_)
theorem ok_out {T C W : Nat} {G : Ldt} {f : Int → Int} {t : Int} : o_okN (q_out T C G f t) := by
  unfold q_out
  repeat' (first | exact Or.inl ⟨_, rfl⟩ | exact Or.inr rfl | exact Or.inr (Or.inl rfl) | exact Or.inr (Or.inr rfl) | refine ok_ifN ?_ ?_)
theorem ok_streak {T C W : Nat} {G : Ldt} {f : Int → Int} {t n : Int} : o_okB (q_streak T C G f t n) := by
  unfold q_streak
  repeat' (first | exact Or.inl ⟨_, rfl⟩ | exact Or.inr rfl | exact Or.inr (Or.inl rfl) | exact Or.inr (Or.inr rfl) | refine ok_ifB ?_ ?_)
theorem ok_lucky {T C W : Nat} {G : Ldt} {f : Int → Int} {n : Int} : o_okI (q_lucky T C G f n) := by
  unfold q_lucky
  repeat' (first | exact Or.inl ⟨_, rfl⟩ | exact Or.inr rfl | exact Or.inr (Or.inl rfl) | exact Or.inr (Or.inr rfl) | refine ok_ifI ?_ ?_)
theorem ok_day {T C W : Nat} {G : Ldt} {f : Int → Int} {n w : Int} : o_okB (q_day T C G f n w) := by
  unfold q_day
  repeat' (first | exact Or.inl ⟨_, rfl⟩ | exact Or.inr rfl | exact Or.inr (Or.inl rfl) | exact Or.inr (Or.inr rfl) | refine ok_ifB ?_ ?_)
theorem ok_pooled {T C W : Nat} {G : Ldt} {f : Int → Int} {n : Int} : o_okI (q_pooled T C G f n) := by
  unfold q_pooled
  repeat' (first | exact Or.inl ⟨_, rfl⟩ | exact Or.inr rfl | exact Or.inr (Or.inl rfl) | exact Or.inr (Or.inr rfl) | refine ok_ifI ?_ ?_)
theorem ok_lend {T C W : Nat} {G : Ldt} {f : Int → Int} {t : Int} : o_okN (q_lend T G f t) := by
  unfold q_lend
  repeat' (first | exact Or.inl ⟨_, rfl⟩ | exact Or.inr rfl | exact Or.inr (Or.inl rfl) | exact Or.inr (Or.inr rfl) | refine ok_ifN ?_ ?_)
theorem ok_game {T C W : Nat} {G : Ldt} {f : Int → Int} {t u w : Int} : o_okB (q_game T C G f t u w) := by
  unfold q_game
  repeat' (first | exact Or.inl ⟨_, rfl⟩ | exact Or.inr rfl | exact Or.inr (Or.inl rfl) | exact Or.inr (Or.inr rfl) | refine ok_ifB ?_ ?_)
theorem ok_years {T C W : Nat} {G : Ldt} {f : Int → Int} {s n w : Int} : o_okB (q_years T C G f s n w) := by
  unfold q_years
  repeat' (first | exact Or.inl ⟨_, rfl⟩ | exact Or.inr rfl | exact Or.inr (Or.inl rfl) | exact Or.inr (Or.inr rfl) | refine ok_ifB ?_ ?_)
theorem ok_2t {T C W : Nat} {G : Ldt} {f : Int → Int} {a b z : Int} : o_okN (q_2t T a b (o_i z)) := by
  unfold q_2t
  repeat' (first | exact Or.inl ⟨_, rfl⟩ | exact Or.inr rfl | exact Or.inr (Or.inl rfl) | exact Or.inr (Or.inr rfl) | refine ok_ifN ?_ ?_)
theorem ok_row {T C W : Nat} {G : Ldt} {f : Int → Int} {one two span days : Int → Int} {a b i : Int} : o_okN (q_row T W one two span days a b i) := by
  unfold q_row q_2t
  repeat' (first | exact Or.inl ⟨_, rfl⟩ | exact Or.inr rfl | exact Or.inr (Or.inl rfl) | exact Or.inr (Or.inr rfl) | refine ok_ifN ?_ ?_)
theorem ok_1t {T C W : Nat} {G : Ldt} {f : Int → Int} {a z : Int} : o_okN (q_1t T a (o_i z)) := by
  unfold q_1t
  repeat' (first | exact Or.inl ⟨_, rfl⟩ | exact Or.inr rfl | exact Or.inr (Or.inl rfl) | exact Or.inr (Or.inr rfl) | refine ok_ifN ?_ ?_)
theorem ok_sendg {T C W : Nat} {G : Ldt} {f : Int → Int} {lk : Int → Int} {t wa : Int} : o_okB (q_sendg T C f lk t wa) := by
  unfold q_sendg q_1t
  repeat' (first | exact Or.inl ⟨_, rfl⟩ | exact Or.inr rfl | exact Or.inr (Or.inl rfl) | exact Or.inr (Or.inr rfl) | refine ok_ifB ?_ ?_)
theorem ok_thief {T C W : Nat} {G : Ldt} {f : Int → Int} {t ca : Int} : o_okB (q_thief T C f t ca) := by
  unfold q_thief q_1t
  repeat' (first | exact Or.inl ⟨_, rfl⟩ | exact Or.inr rfl | exact Or.inr (Or.inl rfl) | exact Or.inr (Or.inr rfl) | refine ok_ifB ?_ ?_)
theorem ok_level {T C W : Nat} {G : Ldt} {f : Int → Int} {t : Int} : o_okN (q_level T C f t) := by
  unfold q_level q_1t
  repeat' (first | exact Or.inl ⟨_, rfl⟩ | exact Or.inr rfl | exact Or.inr (Or.inl rfl) | exact Or.inr (Or.inr rfl) | refine ok_ifN ?_ ?_)
theorem ok_hold {T C W : Nat} {G : Ldt} {f : Int → Int} {t i : Int} : o_okN (q_hold T C f t i) := by
  unfold q_hold q_1t
  repeat' (first | exact Or.inl ⟨_, rfl⟩ | exact Or.inr rfl | exact Or.inr (Or.inl rfl) | exact Or.inr (Or.inr rfl) | refine ok_ifN ?_ ?_)
theorem ok_thrower {T C W : Nat} {G : Ldt} {f : Int → Int} {g tw goal n : Int} : o_okI (q_thrower g tw goal n) := by
  unfold q_thrower
  repeat' (first | exact Or.inl ⟨_, rfl⟩ | exact Or.inr rfl | exact Or.inr (Or.inl rfl) | exact Or.inr (Or.inr rfl) | refine ok_ifI ?_ ?_)
theorem ok_stop {T C W : Nat} {G : Ldt} {f : Int → Int} {g tw n w : Int} : o_okB (q_stop g tw n w) := by
  unfold q_stop
  repeat' (first | exact Or.inl ⟨_, rfl⟩ | exact Or.inr rfl | exact Or.inr (Or.inl rfl) | exact Or.inr (Or.inr rfl) | refine ok_ifB ?_ ?_)
theorem ok_opened {T C W : Nat} {G : Ldt} {f : Int → Int} {S : List (Int × Int × Int)} {w : Int} : o_okN (q_opened T C G f S w) := by
  unfold q_opened
  repeat' (first | exact Or.inl ⟨_, rfl⟩ | exact Or.inr rfl | exact Or.inr (Or.inl rfl) | exact Or.inr (Or.inr rfl) | refine ok_ifN ?_ ?_)
theorem ok_next {T C W : Nat} {G : Ldt} {f : Int → Int} {S : List (Int × Int × Int)} {w : Int} : o_okN (q_next T C G f S w) := by
  unfold q_next
  repeat' (first | exact Or.inl ⟨_, rfl⟩ | exact Or.inr rfl | exact Or.inr (Or.inl rfl) | exact Or.inr (Or.inr rfl) | refine ok_ifN ?_ ?_)
theorem ok_1tB {W : Nat} {a : Int} {p : Prop} [Decidable p] : (∃ z : Int, (z = 0 ∨ z = 1) ∧ q_1t W a (o_i (x_B p)) = o_i z) ∨ q_1t W a (o_i (x_B p)) = .inr x_NSE := by
  unfold q_1t
  split
  · exact Or.inl ⟨_, x_B_01 _, rfl⟩
  · exact Or.inr rfl
end L6
