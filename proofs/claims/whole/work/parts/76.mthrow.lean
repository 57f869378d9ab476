section M76
/-! ===== the Model's throws ===== -/
theorem t_goal_ge {tw goal g : Int} (h : goal ≤ g) : ∀ k : Nat, t_goal tw goal k g = t_pow k
  | 0 => if_pos h
  | k + 1 => if_pos h
theorem t_goal_lo {tw goal g : Int} (h : ¬ goal ≤ g) {k : Nat} (h2 : g ≤ 0 ∨ k = 0) : t_goal tw goal k g = 0 := by
  cases k with
  | zero => exact if_neg h
  | succ k =>
    show (if goal ≤ g then _ else if g ≤ 0 then 0 else _) = 0
    rw [if_neg h, if_pos (by omega)]
theorem t_goal_st {tw goal g : Int} (h : ¬ goal ≤ g) (h2 : ¬ g ≤ 0) {k : Nat} : t_goal tw goal (k + 1) g = tw * t_goal tw goal k (g + 1) + (12 - tw) * t_goal tw goal k (g - 1) := by
  show (if goal ≤ g then _ else if g ≤ 0 then 0 else _) = _
  rw [if_neg h, if_neg h2]
theorem ms_89 {D d : xM} (h : ms D d) {F : Int → Int} : ms D (x_up d 89 F) := ⟨fun j a b c e g => by rw [x_up_n (by omega)]; exact h.1 j a b c e g, fun i a b c => by rw [x_up_n (by decide)]; exact h.2.1 i a b c, fun i hi => by rw [x_up_n (by decide)]; exact h.2.2.1 i hi, by rw [x_up_n (by decide)]; exact h.2.2.2⟩
def tb_g (tw goal : Int) (k g : Nat) (A : Int → Int) : Prop := ∀ k' g' : Nat, g' < 30 → (k' < k ∨ (k' = k ∧ g' < g)) → A (30 * (k' : Int) + g') = t_goal tw goal k' g'
theorem tb_g_u1 {tw goal : Int} {k g : Nat} {A : Int → Int} (hg : g < 30) (h : tb_g tw goal k g A) : tb_g tw goal k (g + 1) (x_u1 A (30 * (k : Int) + g) (t_goal tw goal k g)) := by
  intro k' g' hg' hh
  by_cases he : k' = k ∧ g' = g
  · obtain ⟨rfl, rfl⟩ := he
    rw [x_u1_s]
  · rw [x_u1_n (by omega)]
    exact h k' g' hg' (by omega)
def tb_b (tw : Int) (k g : Nat) (A : Int → Int) : Prop := ∀ k' g' : Nat, g' + k' < 29 → (k' < k ∨ (k' = k ∧ g' < g)) → A (30 * (k' : Int) + g') = t_best tw k' g'
theorem tb_b_u1 {tw : Int} {k g : Nat} {A : Int → Int} (hg : g < 30) (h : tb_b tw k g A) : tb_b tw k (g + 1) (x_u1 A (30 * (k : Int) + g) (t_best tw k g)) := by
  intro k' g' hg' hh
  by_cases he : k' = k ∧ g' = g
  · obtain ⟨rfl, rfl⟩ := he
    rw [x_u1_s]
  · rw [x_u1_n (by omega)]
    exact h k' g' hg' (by omega)
theorem t_best_lo {tw g : Int} (hg : 0 ≤ g) {k : Nat} (h : g = 0 ∨ k = 0) : t_best tw k g = g * t_pow k := by
  cases k with
  | zero => rfl
  | succ k =>
    show (if g ≤ 0 then _ else _) = _
    rw [if_pos (by omega)]
theorem t_best_st {tw g : Int} (h : ¬ g ≤ 0) {k : Nat} : t_best tw (k + 1) g = max (g * t_pow (k + 1)) (tw * t_best tw k (g + 1) + (12 - tw) * t_best tw k (g - 1)) := by
  show (if g ≤ 0 then _ else _) = _
  rw [if_neg h]
def t_fl (m gg k x : Nat) (X : Int) : Int := if k = m ∧ gg < x then X else 0
theorem t_fl_end {m gg k : Nat} {X : Int} (h1 : m ≤ 7) (h2 : gg ≤ 20) : t_fl m gg k (29 - k) X = if k + 1 = m + 1 then X else 0 := by
  unfold t_fl
  by_cases hkm : k = m
  · rw [if_pos ⟨hkm, by omega⟩, if_pos (by omega)]
  · rw [if_neg (fun h => hkm h.1), if_neg (by omega)]
theorem t_fl_0 {m gg k : Nat} {X : Int} : t_fl m gg k 0 X = 0 := if_neg (by omega)
theorem t_fl_hit {m gg k x : Nat} {X z : Int} (h1 : k = m) (h2 : gg = x) (hX : X = z) : t_fl m gg k (x + 1) X = z := by
  unfold t_fl
  rw [if_pos ⟨h1, by omega⟩, hX]
theorem t_fl_no {m gg k x : Nat} {X : Int} (h : ¬ (k = m ∧ gg = x)) : t_fl m gg k (x + 1) X = t_fl m gg k x X := by
  unfold t_fl
  by_cases hh : k = m ∧ gg < x
  · rw [if_pos hh, if_pos ⟨hh.1, by omega⟩]
  · rw [if_neg hh, if_neg (by omega)]
theorem t_mul_in {w x y p : Int} (h0 : 0 ≤ w) (h1 : w ≤ 12) (hx0 : 0 ≤ x) (hx1 : x ≤ p) (hy0 : 0 ≤ y) (hy1 : y ≤ p) : 0 ≤ w * x + (12 - w) * y ∧ w * x + (12 - w) * y ≤ 12 * p := by
  have a1 : 0 ≤ w * x := Int.mul_nonneg h0 hx0
  have a2 : 0 ≤ (12 - w) * y := Int.mul_nonneg (by omega) hy0
  have a3 : w * x ≤ w * p := Int.mul_le_mul_of_nonneg_left hx1 h0
  have a4 : (12 - w) * y ≤ (12 - w) * p := Int.mul_le_mul_of_nonneg_left hy1 (by omega)
  have a5 : w * p + (12 - w) * p = 12 * p := by rw [← Int.add_mul]; congr 1; omega
  omega
theorem w_12_414 : x_cs RX12 414 yX12_power cX12_power 3 (some .int) 1 := ⟨(x_in 1903 (by decide +kernel) rfl), (x_in 1904 (by decide +kernel) rfl), (x_in 90 (by decide +kernel) rfl), (x_in 1905 (by decide +kernel) rfl), by decide, ⟨by decide +kernel, by decide +kernel, by decide +kernel⟩⟩
theorem m_power {X : xC} {l : Launch} (hl : l.stackTraces = false) {N : Nat} {sh : xS} {D : xM} {n : Nat} (hn : n ≤ 100) : x_M X l yX12_power cX12_power 3 (some .int) 1 0 0 [.int (xI (n : Int))] false N sh D (.inl (some (.int (xI (t_pow n))))) false N sh (x_is (D)) := by
  have hloop : ∀ k : Nat, k ≤ n → x_W (X, l, yX12_power, cX12_power, 3, (some .int), x_room 1 0 0, 0, 0, (.inl (some (.int (xI (t_pow n))))), N, sh, (x_is (D)), false, []) 4 [some (.int (xI (n : Int))), some (.int (xI (t_pow k))), some (.int (xI (k : Int)))] [] 0 0 false N sh D := by
    refine x_down n ?_ ?_
    · refine x_iload_n dX12_power_4 x_get_3_2 ?_
      refine x_iload_n dX12_power_5 x_get_3_0 ?_
      refine r_icmp_ge (t := 20) dX12_power_6 rfl ⟨by omega, by omega⟩ ⟨by omega, by omega⟩ (fun hc6 => ?_) (fun hc6 => absurd hc6 (by omega))
      refine x_iload_n dX12_power_20 x_get_3_1 ?_
      exact x_iret dX12_power_21 rfl (Nat.le_of_ble_eq_true rfl) (Nat.le_of_ble_eq_true rfl) rfl rfl rfl rfl rfl
    · intro k hk ih
      rw [show t_pow (k + 1) = 12 * t_pow k from Int.mul_comm _ _] at ih
      refine x_iload_n dX12_power_4 x_get_3_2 ?_
      refine x_iload_n dX12_power_5 x_get_3_0 ?_
      refine r_icmp_ge (t := 20) dX12_power_6 rfl ⟨by omega, by omega⟩ ⟨by omega, by omega⟩ (fun hc6 => absurd hc6 (by omega)) (fun hc6 => ?_)
      refine x_bipush dX12_power_9 rfl ?_
      refine x_iload_n dX12_power_11 x_get_3_1 ?_
      refine x_imul dX12_power_12 ?_
      refine x_istore_n dX12_power_13 (Nat.le_of_ble_eq_true rfl) rfl x_set_3_1 ?_
      refine x_iinc dX12_power_14 x_get_3_2 (Nat.le_of_ble_eq_true rfl) rfl x_set_3_2 ?_
      refine x_goto (t := 4) dX12_power_17 rfl ?_
      exact ih
  refine x_ofW (by decide +kernel) hl (by simp [Value.category]) (by simp) ?_
  refine x_iconst dX12_power_0 ?_
  refine x_istore_n dX12_power_1 (Nat.le_of_ble_eq_true rfl) rfl x_set_3_1 ?_
  refine x_iconst dX12_power_2 ?_
  refine x_istore_n dX12_power_3 (Nat.le_of_ble_eq_true rfl) rfl x_set_3_2 ?_
  exact hloop 0 (Nat.zero_le _)
set_option maxHeartbeats 8000000 in
theorem m_thrower {X : xC} {l : Launch} (hl : l.stackTraces = false) {N : Nat} {sh : xS} {D : xM} {T C W : Nat} {G : Ldt} (hq : mq N sh D T C W G) {B : Int} {f : Int → Int} (hk : s_ok B f) (hB : B ≤ 200000) (hr : mr T C f (D 82) 0) (hv84 : ∀ j, x_r (D 84 j)) {g tw goal n : Int} (hgr : x_r g) (htr : x_r tw) (har : x_r goal) (hnr : x_r n) : x_M X l yX12_thrower cX12_thrower 8 (some .int) 4 0 0 [.ref (x_b X + 62), .int (xI g), .int (xI tw), .int (xI goal), .int (xI n)] false N sh D (m_r (q_thrower g tw goal n)) false N sh (fun d => ms D d ∧ d 62 0 = m_k 1 (q_thrower g tw goal n)) := by
  obtain ⟨hM, hT, hTb, hW, hWb, hC, hCb, hmk, ⟨hG1, hG2, hG3⟩, hod⟩ := id hq
  have s62 := md_62 hM
  have n62 : 62 < N := md_n hM (by decide)
  have s89 := md_89 hM
  have n89 : 89 < N := md_n hM (by decide)
  unfold q_thrower
  by_cases hg : 0 ≤ g ∧ g ≤ 20
  · rw [if_pos hg]
    obtain ⟨hg0, hg1⟩ := id hg
    by_cases ht : 0 ≤ tw ∧ tw ≤ 12
    · rw [if_pos ht]
      obtain ⟨ht0, ht1⟩ := id ht
      by_cases ha : 1 ≤ goal ∧ goal ≤ 20
      · rw [if_pos ha]
        obtain ⟨ha0, ha1⟩ := id ha
        by_cases hn : 0 ≤ n ∧ n ≤ 7
        · rw [if_pos hn]
          obtain ⟨hn0, hn1⟩ := id hn
          obtain ⟨m, rfl⟩ := Int.eq_ofNat_of_zero_le hn0
          obtain ⟨gg, rfl⟩ := Int.eq_ofNat_of_zero_le hg0
          rw [Int.toNat_natCast]
          rw [m_r_i, m_k_i]
          refine x_ofW (by decide +kernel) hl (by simp [Value.category]) (by simp) ?_
          refine x_aload_n dX12_thrower_0 x_get_8_0 ?_
          refine x_iconst dX12_thrower_1 ?_
          refine x_putI 0 dX12_thrower_2 fX_12_117 rfl tX_12_0 n62 s62 (by rfl) ?_
          have z0 := m_go0 hq hr hv84
          generalize x_up D 62 (x_u1 (D 62) 0 0) = d0 at z0 ⊢
          obtain ⟨q0, t0, ms0, r0, v0⟩ := z0
          have hloop : ∀ k : Nat, k ≤ m + 1 → ∀ A : Int → Int, tb_g tw goal k 0 A → ∀ o6 o7 : Option Value, x_W (X, l, yX12_thrower, cX12_thrower, 8, (some .int), x_room 4 0 0, 0, 0, (.inl (some (.int (xI ((t_goal tw goal m (gg : Int))))))), N, sh, (fun d => ms D d ∧ d 62 0 = 0), false, []) 64 [some (.ref (x_b X + 62)), some (.int (xI (gg : Int))), some (.int (xI tw)), some (.int (xI goal)), some (.int (xI (m : Int))), some (.int (xI (k : Int))), o6, o7] [] 0 0 false N sh (x_up d0 89 A) := by
            refine x_down (m + 1) ?_ ?_
            · intro A hA o6 o7
              have e := hA m gg (by omega) (by omega)
              refine x_iload dX12_thrower_64 x_get_8_5 ?_
              refine x_iload dX12_thrower_66 x_get_8_4 ?_
              refine r_icmp_gt (t := 173) dX12_thrower_68 rfl ⟨by omega, by omega⟩ ⟨by omega, by omega⟩ (fun hc68 => ?_) (fun hc68 => absurd hc68 (by omega))
              refine x_aload_n dX12_thrower_173 x_get_8_0 ?_
              refine x_getR dX12_thrower_174 fX_12_96 n62 s62 (by rfl) ?_
              refine x_bipush dX12_thrower_177 rfl ?_
              refine x_iload dX12_thrower_179 x_get_8_4 ?_
              refine x_imul dX12_thrower_181 ?_
              refine x_iload_n dX12_thrower_182 x_get_8_1 ?_
              refine x_iadd dX12_thrower_183 ?_
              refine x_iald dX12_thrower_184 n89 s89 (by omega) (by omega) (by decide) ?_
              try simp (disch := decide) only [x_up_s, x_up_n, x_up_up, x_u1_s, x_u1_n, e]
              exact x_iret dX12_thrower_185 rfl (Nat.le_of_ble_eq_true rfl) (Nat.le_of_ble_eq_true rfl) rfl rfl rfl ⟨ms_tr ms0 (ms_89 (ms_rf v0)), by rw [x_up_n (by decide)]; exact t0⟩ rfl
            · intro k hk2 ih A hA o6 o7
              have inner : ∀ x : Nat, x ≤ 30 → ∀ A : Int → Int, tb_g tw goal k x A → ∀ o7 : Option Value, x_W (X, l, yX12_thrower, cX12_thrower, 8, (some .int), x_room 4 0 0, 0, 0, (.inl (some (.int (xI ((t_goal tw goal m (gg : Int))))))), N, sh, (fun d => ms D d ∧ d 62 0 = 0), false, []) 74 [some (.ref (x_b X + 62)), some (.int (xI (gg : Int))), some (.int (xI tw)), some (.int (xI goal)), some (.int (xI (m : Int))), some (.int (xI (k : Int))), some (.int (xI (x : Int))), o7] [] 0 0 false N sh (x_up d0 89 A) := by
                refine x_down 30 ?_ ?_
                · intro A hA o7
                  refine x_iload dX12_thrower_74 x_get_8_6 ?_
                  refine x_bipush dX12_thrower_76 rfl ?_
                  refine r_icmp_ge (t := 167) dX12_thrower_78 rfl ⟨by omega, by omega⟩ ⟨by omega, by omega⟩ (fun hc78 => ?_) (fun hc78 => absurd hc78 (by omega))
                  refine x_iinc dX12_thrower_167 x_get_8_5 (Nat.le_of_ble_eq_true rfl) rfl x_set_8_5 ?_
                  refine x_goto (t := 64) dX12_thrower_170 rfl ?_
                  exact ih A (fun k2 g2 hg hh => hA k2 g2 hg (by omega)) _ _
                · intro x hx ih2 A hA o7
                  have hst := tb_g_u1 hx hA
                  have ih3 := ih2 _ hst
                  by_cases c1 : goal ≤ (x : Int)
                  · rw [t_goal_ge c1] at ih3
                    refine x_iload dX12_thrower_74 x_get_8_6 ?_
                    refine x_bipush dX12_thrower_76 rfl ?_
                    refine r_icmp_ge (t := 167) dX12_thrower_78 rfl ⟨by omega, by omega⟩ ⟨by omega, by omega⟩ (fun hc78 => absurd hc78 (by omega)) (fun hc78 => ?_)
                    refine x_bipush dX12_thrower_81 rfl ?_
                    refine x_iload dX12_thrower_83 x_get_8_5 ?_
                    refine x_imul dX12_thrower_85 ?_
                    refine x_iload dX12_thrower_86 x_get_8_6 ?_
                    refine x_iadd dX12_thrower_88 ?_
                    refine x_istore dX12_thrower_89 (Nat.le_of_ble_eq_true rfl) rfl x_set_8_7 ?_
                    refine x_iload dX12_thrower_91 x_get_8_6 ?_
                    refine x_iload_n dX12_thrower_93 x_get_8_3 ?_
                    refine r_icmp_lt (t := 112) dX12_thrower_94 rfl ⟨by omega, by omega⟩ ⟨by omega, by omega⟩ (fun hc94 => absurd hc94 (by omega)) (fun hc94 => ?_)
                    refine x_aload_n dX12_thrower_97 x_get_8_0 ?_
                    refine x_getR dX12_thrower_98 fX_12_96 n62 s62 (by rfl) ?_
                    refine x_iload dX12_thrower_101 x_get_8_7 ?_
                    refine x_iload dX12_thrower_103 x_get_8_5 ?_
                    refine x_callS (As := [_]) dX12_thrower_105 w_12_414 (m_power hl (n := k) (by omega)) rfl rfl (Nat.le_of_ble_eq_true rfl) (Nat.le_of_ble_eq_true rfl) (Nat.le_of_ble_eq_true rfl) (Nat.le_of_ble_eq_true rfl) (Nat.le_of_ble_eq_true rfl) ?_
                    intro dz hdz
                    obtain rfl := Eq.symm hdz
                    refine x_iast dX12_thrower_108 n89 s89 (by omega) (by omega) (by decide) ?_
                    try simp (disch := decide) only [x_up_s, x_up_n, x_up_up, x_u1_s, x_u1_n]
                    refine x_goto (t := 161) dX12_thrower_109 rfl ?_
                    refine x_iinc dX12_thrower_161 x_get_8_6 (Nat.le_of_ble_eq_true rfl) rfl x_set_8_6 ?_
                    refine x_goto (t := 74) dX12_thrower_164 rfl ?_
                    exact ih3 _
                  · by_cases c2 : x = 0 ∨ k = 0
                    · rw [t_goal_lo c1 (by omega)] at ih3
                      refine x_iload dX12_thrower_74 x_get_8_6 ?_
                      refine x_bipush dX12_thrower_76 rfl ?_
                      refine r_icmp_ge (t := 167) dX12_thrower_78 rfl ⟨by omega, by omega⟩ ⟨by omega, by omega⟩ (fun hc78 => absurd hc78 (by omega)) (fun hc78 => ?_)
                      refine x_bipush dX12_thrower_81 rfl ?_
                      refine x_iload dX12_thrower_83 x_get_8_5 ?_
                      refine x_imul dX12_thrower_85 ?_
                      refine x_iload dX12_thrower_86 x_get_8_6 ?_
                      refine x_iadd dX12_thrower_88 ?_
                      refine x_istore dX12_thrower_89 (Nat.le_of_ble_eq_true rfl) rfl x_set_8_7 ?_
                      refine x_iload dX12_thrower_91 x_get_8_6 ?_
                      refine x_iload_n dX12_thrower_93 x_get_8_3 ?_
                      refine r_icmp_lt (t := 112) dX12_thrower_94 rfl ⟨by omega, by omega⟩ ⟨by omega, by omega⟩ (fun hc94 => ?_) (fun hc94 => absurd hc94 (by omega))
                      refine x_aload_n dX12_thrower_112 x_get_8_0 ?_
                      refine x_getR dX12_thrower_113 fX_12_96 n62 s62 (by rfl) ?_
                      refine x_iload dX12_thrower_116 x_get_8_7 ?_
                      refine x_iload dX12_thrower_118 x_get_8_6 ?_
                      refine r_if_eq (t := 128) dX12_thrower_120 rfl ⟨by omega, by omega⟩ (fun hc120 => ?_) (fun hc120 => ?_)
                      · refine x_iconst dX12_thrower_128 ?_
                        refine x_goto (t := 160) dX12_thrower_129 rfl ?_
                        refine x_iast dX12_thrower_160 n89 s89 (by omega) (by omega) (by decide) ?_
                        try simp (disch := decide) only [x_up_s, x_up_n, x_up_up, x_u1_s, x_u1_n]
                        refine x_iinc dX12_thrower_161 x_get_8_6 (Nat.le_of_ble_eq_true rfl) rfl x_set_8_6 ?_
                        refine x_goto (t := 74) dX12_thrower_164 rfl ?_
                        exact ih3 _
                      · refine x_iload dX12_thrower_123 x_get_8_5 ?_
                        refine r_if_ne (t := 132) dX12_thrower_125 rfl ⟨by omega, by omega⟩ (fun hc125 => absurd hc125 (by omega)) (fun hc125 => ?_)
                        refine x_iconst dX12_thrower_128 ?_
                        refine x_goto (t := 160) dX12_thrower_129 rfl ?_
                        refine x_iast dX12_thrower_160 n89 s89 (by omega) (by omega) (by decide) ?_
                        try simp (disch := decide) only [x_up_s, x_up_n, x_up_up, x_u1_s, x_u1_n]
                        refine x_iinc dX12_thrower_161 x_get_8_6 (Nat.le_of_ble_eq_true rfl) rfl x_set_8_6 ?_
                        refine x_goto (t := 74) dX12_thrower_164 rfl ?_
                        exact ih3 _
                    · obtain ⟨k2, rfl⟩ : ∃ k2, k = k2 + 1 := ⟨k - 1, by omega⟩
                      rw [t_goal_st c1 (by omega)] at ih3
                      have r1 := hA k2 (x + 1) (by omega) (by omega)
                      have r2 := hA k2 (x - 1) (by omega) (by omega)
                      rw [show ((x + 1 : Nat) : Int) = (x : Int) + 1 by push_cast; rfl] at r1
                      rw [show ((x - 1 : Nat) : Int) = (x : Int) - 1 by omega] at r2
                      have i1 : 30 * ((k2 + 1 : Nat) : Int) + (x : Int) - 29 = 30 * (k2 : Int) + ((x : Int) + 1) := by push_cast; omega
                      have i2 : 30 * ((k2 + 1 : Nat) : Int) + (x : Int) - 31 = 30 * (k2 : Int) + ((x : Int) - 1) := by push_cast; omega
                      refine x_iload dX12_thrower_74 x_get_8_6 ?_
                      refine x_bipush dX12_thrower_76 rfl ?_
                      refine r_icmp_ge (t := 167) dX12_thrower_78 rfl ⟨by omega, by omega⟩ ⟨by omega, by omega⟩ (fun hc78 => absurd hc78 (by omega)) (fun hc78 => ?_)
                      refine x_bipush dX12_thrower_81 rfl ?_
                      refine x_iload dX12_thrower_83 x_get_8_5 ?_
                      refine x_imul dX12_thrower_85 ?_
                      refine x_iload dX12_thrower_86 x_get_8_6 ?_
                      refine x_iadd dX12_thrower_88 ?_
                      refine x_istore dX12_thrower_89 (Nat.le_of_ble_eq_true rfl) rfl x_set_8_7 ?_
                      refine x_iload dX12_thrower_91 x_get_8_6 ?_
                      refine x_iload_n dX12_thrower_93 x_get_8_3 ?_
                      refine r_icmp_lt (t := 112) dX12_thrower_94 rfl ⟨by omega, by omega⟩ ⟨by omega, by omega⟩ (fun hc94 => ?_) (fun hc94 => absurd hc94 (by omega))
                      refine x_aload_n dX12_thrower_112 x_get_8_0 ?_
                      refine x_getR dX12_thrower_113 fX_12_96 n62 s62 (by rfl) ?_
                      refine x_iload dX12_thrower_116 x_get_8_7 ?_
                      refine x_iload dX12_thrower_118 x_get_8_6 ?_
                      refine r_if_eq (t := 128) dX12_thrower_120 rfl ⟨by omega, by omega⟩ (fun hc120 => absurd hc120 (by omega)) (fun hc120 => ?_)
                      refine x_iload dX12_thrower_123 x_get_8_5 ?_
                      refine r_if_ne (t := 132) dX12_thrower_125 rfl ⟨by omega, by omega⟩ (fun hc125 => ?_) (fun hc125 => absurd hc125 (by omega))
                      refine x_iload_n dX12_thrower_132 x_get_8_2 ?_
                      refine x_aload_n dX12_thrower_133 x_get_8_0 ?_
                      refine x_getR dX12_thrower_134 fX_12_96 n62 s62 (by rfl) ?_
                      refine x_iload dX12_thrower_137 x_get_8_7 ?_
                      refine x_bipush dX12_thrower_139 rfl ?_
                      refine x_isub dX12_thrower_141 ?_
                      rw [i1]
                      refine x_iald dX12_thrower_142 n89 s89 (by omega) (by omega) (by decide) ?_
                      try simp (disch := decide) only [x_up_s, x_up_n, x_up_up, x_u1_s, x_u1_n, r1, r2]
                      refine x_imul dX12_thrower_143 ?_
                      refine x_bipush dX12_thrower_144 rfl ?_
                      refine x_iload_n dX12_thrower_146 x_get_8_2 ?_
                      refine x_isub dX12_thrower_147 ?_
                      refine x_aload_n dX12_thrower_148 x_get_8_0 ?_
                      refine x_getR dX12_thrower_149 fX_12_96 n62 s62 (by rfl) ?_
                      refine x_iload dX12_thrower_152 x_get_8_7 ?_
                      refine x_bipush dX12_thrower_154 rfl ?_
                      refine x_isub dX12_thrower_156 ?_
                      rw [i2]
                      refine x_iald dX12_thrower_157 n89 s89 (by omega) (by omega) (by decide) ?_
                      try simp (disch := decide) only [x_up_s, x_up_n, x_up_up, x_u1_s, x_u1_n, r1, r2]
                      refine x_imul dX12_thrower_158 ?_
                      refine x_iadd dX12_thrower_159 ?_
                      refine x_iast dX12_thrower_160 n89 s89 (by omega) (by omega) (by decide) ?_
                      try simp (disch := decide) only [x_up_s, x_up_n, x_up_up, x_u1_s, x_u1_n, r1, r2]
                      refine x_iinc dX12_thrower_161 x_get_8_6 (Nat.le_of_ble_eq_true rfl) rfl x_set_8_6 ?_
                      refine x_goto (t := 74) dX12_thrower_164 rfl ?_
                      exact ih3 _
              refine x_iload dX12_thrower_64 x_get_8_5 ?_
              refine x_iload dX12_thrower_66 x_get_8_4 ?_
              refine r_icmp_gt (t := 173) dX12_thrower_68 rfl ⟨by omega, by omega⟩ ⟨by omega, by omega⟩ (fun hc68 => absurd hc68 (by omega)) (fun hc68 => ?_)
              refine x_iconst dX12_thrower_71 ?_
              refine x_istore dX12_thrower_72 (Nat.le_of_ble_eq_true rfl) rfl x_set_8_6 ?_
              exact inner 0 (Nat.zero_le _) A hA _
          refine x_aload_n dX12_thrower_5 x_get_8_0 ?_
          refine x_iload_n dX12_thrower_6 x_get_8_1 ?_
          refine x_iconst dX12_thrower_7 ?_
          refine x_bipush dX12_thrower_8 rfl ?_
          refine x_callS (As := [_, _, _]) dX12_thrower_10 w_12_346 (m_withinT hl hgr ⟨by decide, by decide⟩ ⟨by decide, by decide⟩ hg) rfl rfl (Nat.le_of_ble_eq_true rfl) (Nat.le_of_ble_eq_true rfl) (Nat.le_of_ble_eq_true rfl) (Nat.le_of_ble_eq_true rfl) (Nat.le_of_ble_eq_true rfl) ?_
          intro dz hdz
          obtain rfl := Eq.symm hdz
          refine r_if_eq (t := 51) dX12_thrower_13 rfl ⟨by omega, by omega⟩ (fun hc13 => absurd hc13 (by omega)) (fun hc13 => ?_)
          refine x_iload_n dX12_thrower_16 x_get_8_2 ?_
          refine x_iconst dX12_thrower_17 ?_
          refine x_bipush dX12_thrower_18 rfl ?_
          refine x_callS (As := [_, _, _]) dX12_thrower_20 w_12_346 (m_withinT hl htr ⟨by decide, by decide⟩ ⟨by decide, by decide⟩ ht) rfl rfl (Nat.le_of_ble_eq_true rfl) (Nat.le_of_ble_eq_true rfl) (Nat.le_of_ble_eq_true rfl) (Nat.le_of_ble_eq_true rfl) (Nat.le_of_ble_eq_true rfl) ?_
          intro dz hdz
          obtain rfl := Eq.symm hdz
          refine r_if_eq (t := 51) dX12_thrower_23 rfl ⟨by omega, by omega⟩ (fun hc23 => absurd hc23 (by omega)) (fun hc23 => ?_)
          refine x_iload_n dX12_thrower_26 x_get_8_3 ?_
          refine x_iconst dX12_thrower_27 ?_
          refine x_bipush dX12_thrower_28 rfl ?_
          refine x_callS (As := [_, _, _]) dX12_thrower_30 w_12_346 (m_withinT hl har ⟨by decide, by decide⟩ ⟨by decide, by decide⟩ ha) rfl rfl (Nat.le_of_ble_eq_true rfl) (Nat.le_of_ble_eq_true rfl) (Nat.le_of_ble_eq_true rfl) (Nat.le_of_ble_eq_true rfl) (Nat.le_of_ble_eq_true rfl) ?_
          intro dz hdz
          obtain rfl := Eq.symm hdz
          refine r_if_eq (t := 51) dX12_thrower_33 rfl ⟨by omega, by omega⟩ (fun hc33 => absurd hc33 (by omega)) (fun hc33 => ?_)
          refine x_iload dX12_thrower_36 x_get_8_4 ?_
          refine x_iconst dX12_thrower_38 ?_
          refine x_bipush dX12_thrower_39 rfl ?_
          refine x_callS (As := [_, _, _]) dX12_thrower_41 w_12_346 (m_withinT hl hnr ⟨by decide, by decide⟩ ⟨by decide, by decide⟩ hn) rfl rfl (Nat.le_of_ble_eq_true rfl) (Nat.le_of_ble_eq_true rfl) (Nat.le_of_ble_eq_true rfl) (Nat.le_of_ble_eq_true rfl) (Nat.le_of_ble_eq_true rfl) ?_
          intro dz hdz
          obtain rfl := Eq.symm hdz
          refine r_if_eq (t := 51) dX12_thrower_44 rfl ⟨by omega, by omega⟩ (fun hc44 => absurd hc44 (by omega)) (fun hc44 => ?_)
          refine x_iconst dX12_thrower_47 ?_
          refine x_goto (t := 52) dX12_thrower_48 rfl ?_
          refine x_iconst dX12_thrower_52 ?_
          refine x_callV (As := [_, _]) dX12_thrower_53 w_12_274 (m_rightT hl q0.1 t0) (by assumption) (by assumption) rfl rfl (Nat.le_of_ble_eq_true rfl) (Nat.le_of_ble_eq_true rfl) (Nat.le_of_ble_eq_true rfl) (Nat.le_of_ble_eq_true rfl) (Nat.le_of_ble_eq_true rfl) ?_
          intro dz hdz
          obtain rfl := Eq.symm hdz
          refine r_if_ne (t := 61) dX12_thrower_56 rfl ⟨by omega, by omega⟩ (fun hc56 => ?_) (fun hc56 => absurd hc56 (by omega))
          refine x_iconst dX12_thrower_61 ?_
          refine x_istore dX12_thrower_62 (Nat.le_of_ble_eq_true rfl) rfl x_set_8_5 ?_
          refine x_mem (x_up_id (k := 89)).symm ?_
          exact hloop 0 (Nat.zero_le _) (d0 89) (fun k2 g2 _ hh => by omega) _ _
        · rw [if_neg hn]
          refine x_ofW (by decide +kernel) hl (by simp [Value.category]) (by simp) ?_
          refine x_aload_n dX12_thrower_0 x_get_8_0 ?_
          refine x_iconst dX12_thrower_1 ?_
          refine x_putI 0 dX12_thrower_2 fX_12_117 rfl tX_12_0 n62 s62 (by rfl) ?_
          have z0 := m_go0 hq hr hv84
          generalize x_up D 62 (x_u1 (D 62) 0 0) = d0 at z0 ⊢
          obtain ⟨q0, t0, ms0, r0, v0⟩ := z0
          refine x_aload_n dX12_thrower_5 x_get_8_0 ?_
          refine x_iload_n dX12_thrower_6 x_get_8_1 ?_
          refine x_iconst dX12_thrower_7 ?_
          refine x_bipush dX12_thrower_8 rfl ?_
          refine x_callS (As := [_, _, _]) dX12_thrower_10 w_12_346 (m_withinT hl hgr ⟨by decide, by decide⟩ ⟨by decide, by decide⟩ hg) rfl rfl (Nat.le_of_ble_eq_true rfl) (Nat.le_of_ble_eq_true rfl) (Nat.le_of_ble_eq_true rfl) (Nat.le_of_ble_eq_true rfl) (Nat.le_of_ble_eq_true rfl) ?_
          intro dz hdz
          obtain rfl := Eq.symm hdz
          refine r_if_eq (t := 51) dX12_thrower_13 rfl ⟨by omega, by omega⟩ (fun hc13 => absurd hc13 (by omega)) (fun hc13 => ?_)
          refine x_iload_n dX12_thrower_16 x_get_8_2 ?_
          refine x_iconst dX12_thrower_17 ?_
          refine x_bipush dX12_thrower_18 rfl ?_
          refine x_callS (As := [_, _, _]) dX12_thrower_20 w_12_346 (m_withinT hl htr ⟨by decide, by decide⟩ ⟨by decide, by decide⟩ ht) rfl rfl (Nat.le_of_ble_eq_true rfl) (Nat.le_of_ble_eq_true rfl) (Nat.le_of_ble_eq_true rfl) (Nat.le_of_ble_eq_true rfl) (Nat.le_of_ble_eq_true rfl) ?_
          intro dz hdz
          obtain rfl := Eq.symm hdz
          refine r_if_eq (t := 51) dX12_thrower_23 rfl ⟨by omega, by omega⟩ (fun hc23 => absurd hc23 (by omega)) (fun hc23 => ?_)
          refine x_iload_n dX12_thrower_26 x_get_8_3 ?_
          refine x_iconst dX12_thrower_27 ?_
          refine x_bipush dX12_thrower_28 rfl ?_
          refine x_callS (As := [_, _, _]) dX12_thrower_30 w_12_346 (m_withinT hl har ⟨by decide, by decide⟩ ⟨by decide, by decide⟩ ha) rfl rfl (Nat.le_of_ble_eq_true rfl) (Nat.le_of_ble_eq_true rfl) (Nat.le_of_ble_eq_true rfl) (Nat.le_of_ble_eq_true rfl) (Nat.le_of_ble_eq_true rfl) ?_
          intro dz hdz
          obtain rfl := Eq.symm hdz
          refine r_if_eq (t := 51) dX12_thrower_33 rfl ⟨by omega, by omega⟩ (fun hc33 => absurd hc33 (by omega)) (fun hc33 => ?_)
          refine x_iload dX12_thrower_36 x_get_8_4 ?_
          refine x_iconst dX12_thrower_38 ?_
          refine x_bipush dX12_thrower_39 rfl ?_
          refine x_callS (As := [_, _, _]) dX12_thrower_41 w_12_346 (m_withinF hl hnr ⟨by decide, by decide⟩ ⟨by decide, by decide⟩ hn) rfl rfl (Nat.le_of_ble_eq_true rfl) (Nat.le_of_ble_eq_true rfl) (Nat.le_of_ble_eq_true rfl) (Nat.le_of_ble_eq_true rfl) (Nat.le_of_ble_eq_true rfl) ?_
          intro dz hdz
          obtain rfl := Eq.symm hdz
          refine r_if_eq (t := 51) dX12_thrower_44 rfl ⟨by omega, by omega⟩ (fun hc44 => ?_) (fun hc44 => absurd hc44 (by omega))
          refine x_iconst dX12_thrower_51 ?_
          refine x_iconst dX12_thrower_52 ?_
          refine x_callV (As := [_, _]) dX12_thrower_53 w_12_274 (m_rightF hl q0.1 t0 (by decide) (by decide)) (by assumption) (by assumption) rfl rfl (Nat.le_of_ble_eq_true rfl) (Nat.le_of_ble_eq_true rfl) (Nat.le_of_ble_eq_true rfl) (Nat.le_of_ble_eq_true rfl) (Nat.le_of_ble_eq_true rfl) ?_
          intro dz hdz
          obtain rfl := Eq.symm hdz
          refine r_if_ne (t := 61) dX12_thrower_56 rfl ⟨by omega, by omega⟩ (fun hc56 => absurd hc56 (by omega)) (fun hc56 => ?_)
          refine x_iconst dX12_thrower_59 ?_
          exact x_iret dX12_thrower_60 rfl (Nat.le_of_ble_eq_true rfl) (Nat.le_of_ble_eq_true rfl) rfl rfl rfl ⟨ms_thr ms0, by rw [x_up_s, x_u1_s, m_k_I]⟩ rfl
      · rw [if_neg ha]
        refine x_ofW (by decide +kernel) hl (by simp [Value.category]) (by simp) ?_
        refine x_aload_n dX12_thrower_0 x_get_8_0 ?_
        refine x_iconst dX12_thrower_1 ?_
        refine x_putI 0 dX12_thrower_2 fX_12_117 rfl tX_12_0 n62 s62 (by rfl) ?_
        have z0 := m_go0 hq hr hv84
        generalize x_up D 62 (x_u1 (D 62) 0 0) = d0 at z0 ⊢
        obtain ⟨q0, t0, ms0, r0, v0⟩ := z0
        refine x_aload_n dX12_thrower_5 x_get_8_0 ?_
        refine x_iload_n dX12_thrower_6 x_get_8_1 ?_
        refine x_iconst dX12_thrower_7 ?_
        refine x_bipush dX12_thrower_8 rfl ?_
        refine x_callS (As := [_, _, _]) dX12_thrower_10 w_12_346 (m_withinT hl hgr ⟨by decide, by decide⟩ ⟨by decide, by decide⟩ hg) rfl rfl (Nat.le_of_ble_eq_true rfl) (Nat.le_of_ble_eq_true rfl) (Nat.le_of_ble_eq_true rfl) (Nat.le_of_ble_eq_true rfl) (Nat.le_of_ble_eq_true rfl) ?_
        intro dz hdz
        obtain rfl := Eq.symm hdz
        refine r_if_eq (t := 51) dX12_thrower_13 rfl ⟨by omega, by omega⟩ (fun hc13 => absurd hc13 (by omega)) (fun hc13 => ?_)
        refine x_iload_n dX12_thrower_16 x_get_8_2 ?_
        refine x_iconst dX12_thrower_17 ?_
        refine x_bipush dX12_thrower_18 rfl ?_
        refine x_callS (As := [_, _, _]) dX12_thrower_20 w_12_346 (m_withinT hl htr ⟨by decide, by decide⟩ ⟨by decide, by decide⟩ ht) rfl rfl (Nat.le_of_ble_eq_true rfl) (Nat.le_of_ble_eq_true rfl) (Nat.le_of_ble_eq_true rfl) (Nat.le_of_ble_eq_true rfl) (Nat.le_of_ble_eq_true rfl) ?_
        intro dz hdz
        obtain rfl := Eq.symm hdz
        refine r_if_eq (t := 51) dX12_thrower_23 rfl ⟨by omega, by omega⟩ (fun hc23 => absurd hc23 (by omega)) (fun hc23 => ?_)
        refine x_iload_n dX12_thrower_26 x_get_8_3 ?_
        refine x_iconst dX12_thrower_27 ?_
        refine x_bipush dX12_thrower_28 rfl ?_
        refine x_callS (As := [_, _, _]) dX12_thrower_30 w_12_346 (m_withinF hl har ⟨by decide, by decide⟩ ⟨by decide, by decide⟩ ha) rfl rfl (Nat.le_of_ble_eq_true rfl) (Nat.le_of_ble_eq_true rfl) (Nat.le_of_ble_eq_true rfl) (Nat.le_of_ble_eq_true rfl) (Nat.le_of_ble_eq_true rfl) ?_
        intro dz hdz
        obtain rfl := Eq.symm hdz
        refine r_if_eq (t := 51) dX12_thrower_33 rfl ⟨by omega, by omega⟩ (fun hc33 => ?_) (fun hc33 => absurd hc33 (by omega))
        refine x_iconst dX12_thrower_51 ?_
        refine x_iconst dX12_thrower_52 ?_
        refine x_callV (As := [_, _]) dX12_thrower_53 w_12_274 (m_rightF hl q0.1 t0 (by decide) (by decide)) (by assumption) (by assumption) rfl rfl (Nat.le_of_ble_eq_true rfl) (Nat.le_of_ble_eq_true rfl) (Nat.le_of_ble_eq_true rfl) (Nat.le_of_ble_eq_true rfl) (Nat.le_of_ble_eq_true rfl) ?_
        intro dz hdz
        obtain rfl := Eq.symm hdz
        refine r_if_ne (t := 61) dX12_thrower_56 rfl ⟨by omega, by omega⟩ (fun hc56 => absurd hc56 (by omega)) (fun hc56 => ?_)
        refine x_iconst dX12_thrower_59 ?_
        exact x_iret dX12_thrower_60 rfl (Nat.le_of_ble_eq_true rfl) (Nat.le_of_ble_eq_true rfl) rfl rfl rfl ⟨ms_thr ms0, by rw [x_up_s, x_u1_s, m_k_I]⟩ rfl
    · rw [if_neg ht]
      refine x_ofW (by decide +kernel) hl (by simp [Value.category]) (by simp) ?_
      refine x_aload_n dX12_thrower_0 x_get_8_0 ?_
      refine x_iconst dX12_thrower_1 ?_
      refine x_putI 0 dX12_thrower_2 fX_12_117 rfl tX_12_0 n62 s62 (by rfl) ?_
      have z0 := m_go0 hq hr hv84
      generalize x_up D 62 (x_u1 (D 62) 0 0) = d0 at z0 ⊢
      obtain ⟨q0, t0, ms0, r0, v0⟩ := z0
      refine x_aload_n dX12_thrower_5 x_get_8_0 ?_
      refine x_iload_n dX12_thrower_6 x_get_8_1 ?_
      refine x_iconst dX12_thrower_7 ?_
      refine x_bipush dX12_thrower_8 rfl ?_
      refine x_callS (As := [_, _, _]) dX12_thrower_10 w_12_346 (m_withinT hl hgr ⟨by decide, by decide⟩ ⟨by decide, by decide⟩ hg) rfl rfl (Nat.le_of_ble_eq_true rfl) (Nat.le_of_ble_eq_true rfl) (Nat.le_of_ble_eq_true rfl) (Nat.le_of_ble_eq_true rfl) (Nat.le_of_ble_eq_true rfl) ?_
      intro dz hdz
      obtain rfl := Eq.symm hdz
      refine r_if_eq (t := 51) dX12_thrower_13 rfl ⟨by omega, by omega⟩ (fun hc13 => absurd hc13 (by omega)) (fun hc13 => ?_)
      refine x_iload_n dX12_thrower_16 x_get_8_2 ?_
      refine x_iconst dX12_thrower_17 ?_
      refine x_bipush dX12_thrower_18 rfl ?_
      refine x_callS (As := [_, _, _]) dX12_thrower_20 w_12_346 (m_withinF hl htr ⟨by decide, by decide⟩ ⟨by decide, by decide⟩ ht) rfl rfl (Nat.le_of_ble_eq_true rfl) (Nat.le_of_ble_eq_true rfl) (Nat.le_of_ble_eq_true rfl) (Nat.le_of_ble_eq_true rfl) (Nat.le_of_ble_eq_true rfl) ?_
      intro dz hdz
      obtain rfl := Eq.symm hdz
      refine r_if_eq (t := 51) dX12_thrower_23 rfl ⟨by omega, by omega⟩ (fun hc23 => ?_) (fun hc23 => absurd hc23 (by omega))
      refine x_iconst dX12_thrower_51 ?_
      refine x_iconst dX12_thrower_52 ?_
      refine x_callV (As := [_, _]) dX12_thrower_53 w_12_274 (m_rightF hl q0.1 t0 (by decide) (by decide)) (by assumption) (by assumption) rfl rfl (Nat.le_of_ble_eq_true rfl) (Nat.le_of_ble_eq_true rfl) (Nat.le_of_ble_eq_true rfl) (Nat.le_of_ble_eq_true rfl) (Nat.le_of_ble_eq_true rfl) ?_
      intro dz hdz
      obtain rfl := Eq.symm hdz
      refine r_if_ne (t := 61) dX12_thrower_56 rfl ⟨by omega, by omega⟩ (fun hc56 => absurd hc56 (by omega)) (fun hc56 => ?_)
      refine x_iconst dX12_thrower_59 ?_
      exact x_iret dX12_thrower_60 rfl (Nat.le_of_ble_eq_true rfl) (Nat.le_of_ble_eq_true rfl) rfl rfl rfl ⟨ms_thr ms0, by rw [x_up_s, x_u1_s, m_k_I]⟩ rfl
  · rw [if_neg hg]
    refine x_ofW (by decide +kernel) hl (by simp [Value.category]) (by simp) ?_
    refine x_aload_n dX12_thrower_0 x_get_8_0 ?_
    refine x_iconst dX12_thrower_1 ?_
    refine x_putI 0 dX12_thrower_2 fX_12_117 rfl tX_12_0 n62 s62 (by rfl) ?_
    have z0 := m_go0 hq hr hv84
    generalize x_up D 62 (x_u1 (D 62) 0 0) = d0 at z0 ⊢
    obtain ⟨q0, t0, ms0, r0, v0⟩ := z0
    refine x_aload_n dX12_thrower_5 x_get_8_0 ?_
    refine x_iload_n dX12_thrower_6 x_get_8_1 ?_
    refine x_iconst dX12_thrower_7 ?_
    refine x_bipush dX12_thrower_8 rfl ?_
    refine x_callS (As := [_, _, _]) dX12_thrower_10 w_12_346 (m_withinF hl hgr ⟨by decide, by decide⟩ ⟨by decide, by decide⟩ hg) rfl rfl (Nat.le_of_ble_eq_true rfl) (Nat.le_of_ble_eq_true rfl) (Nat.le_of_ble_eq_true rfl) (Nat.le_of_ble_eq_true rfl) (Nat.le_of_ble_eq_true rfl) ?_
    intro dz hdz
    obtain rfl := Eq.symm hdz
    refine r_if_eq (t := 51) dX12_thrower_13 rfl ⟨by omega, by omega⟩ (fun hc13 => ?_) (fun hc13 => absurd hc13 (by omega))
    refine x_iconst dX12_thrower_51 ?_
    refine x_iconst dX12_thrower_52 ?_
    refine x_callV (As := [_, _]) dX12_thrower_53 w_12_274 (m_rightF hl q0.1 t0 (by decide) (by decide)) (by assumption) (by assumption) rfl rfl (Nat.le_of_ble_eq_true rfl) (Nat.le_of_ble_eq_true rfl) (Nat.le_of_ble_eq_true rfl) (Nat.le_of_ble_eq_true rfl) (Nat.le_of_ble_eq_true rfl) ?_
    intro dz hdz
    obtain rfl := Eq.symm hdz
    refine r_if_ne (t := 61) dX12_thrower_56 rfl ⟨by omega, by omega⟩ (fun hc56 => absurd hc56 (by omega)) (fun hc56 => ?_)
    refine x_iconst dX12_thrower_59 ?_
    exact x_iret dX12_thrower_60 rfl (Nat.le_of_ble_eq_true rfl) (Nat.le_of_ble_eq_true rfl) rfl rfl rfl ⟨ms_thr ms0, by rw [x_up_s, x_u1_s, m_k_I]⟩ rfl
set_option maxHeartbeats 16000000 in
theorem m_stop {X : xC} {l : Launch} (hl : l.stackTraces = false) {N : Nat} {sh : xS} {D : xM} {T C W : Nat} {G : Ldt} (hq : mq N sh D T C W G) {B : Int} {f : Int → Int} (hk : s_ok B f) (hB : B ≤ 200000) (hr : mr T C f (D 82) 0) (hv84 : ∀ j, x_r (D 84 j)) {g tw n w : Int} (hgr : x_r g) (htr : x_r tw) (hnr : x_r n) (hwr : x_r w) : x_M X l yX12_stop cX12_stop 11 (some .int) 4 0 0 [.ref (x_b X + 62), .int (xI g), .int (xI tw), .int (xI n), .int (xI w)] false N sh D (m_r (q_stop g tw n w)) false N sh (fun d => ms D d ∧ d 62 0 = m_k 2 (q_stop g tw n w)) := by
  obtain ⟨hM, hT, hTb, hW, hWb, hC, hCb, hmk, ⟨hG1, hG2, hG3⟩, hod⟩ := id hq
  have s62 := md_62 hM
  have n62 : 62 < N := md_n hM (by decide)
  have s89 := md_89 hM
  have n89 : 89 < N := md_n hM (by decide)
  obtain ⟨hwr0, hwr1⟩ := id hwr
  unfold q_stop
  by_cases hw : 0 ≤ w ∧ w ≤ 1
  · rw [if_pos hw]
    obtain ⟨hw0, hw1⟩ := id hw
    by_cases hg : 0 ≤ g ∧ g ≤ 20
    · rw [if_pos hg]
      obtain ⟨hg0, hg1⟩ := id hg
      by_cases ht : 0 ≤ tw ∧ tw ≤ 12
      · rw [if_pos ht]
        obtain ⟨ht0, ht1⟩ := id ht
        by_cases hn : 1 ≤ n ∧ n ≤ 7
        · rw [if_pos hn]
          obtain ⟨hn0, hn1⟩ := id hn
          obtain ⟨m, rfl⟩ := Int.eq_ofNat_of_zero_le (show 0 ≤ n by omega)
          obtain ⟨gg, rfl⟩ := Int.eq_ofNat_of_zero_le hg0
          rw [Int.toNat_natCast]
          rw [m_r_i, m_k_i]
          refine x_ofW (by decide +kernel) hl (by simp [Value.category]) (by simp) ?_
          refine x_aload_n dX12_stop_0 x_get_11_0 ?_
          refine x_iconst dX12_stop_1 ?_
          refine x_putI 0 dX12_stop_2 fX_12_117 rfl tX_12_0 n62 s62 (by rfl) ?_
          have z0 := m_go0 hq hr hv84
          generalize x_up D 62 (x_u1 (D 62) 0 0) = d0 at z0 ⊢
          obtain ⟨q0, t0, ms0, r0, v0⟩ := z0
          have hloop : ∀ k : Nat, k ≤ m + 1 → ∀ A : Int → Int, tb_b tw k 0 A → ∀ o7 o8 o9 o10 : Option Value, x_W (X, l, yX12_stop, cX12_stop, 11, (some .int), x_room 4 0 0, 0, 0, (.inl (some (.int (xI ((if w = 0 then t_best tw m (gg : Int) else (x_B ((gg : Int) * t_pow m < t_best tw m (gg : Int))))))))), N, sh, (fun d => ms D d ∧ d 62 0 = 0), false, []) 66 [some (.ref (x_b X + 62)), some (.int (xI (gg : Int))), some (.int (xI tw)), some (.int (xI (m : Int))), some (.int (xI w)), some (.int (xI (if k = m + 1 then (x_B ((gg : Int) * t_pow m < t_best tw m (gg : Int))) else 0))), some (.int (xI (k : Int))), o7, o8, o9, o10] [] 0 0 false N sh (x_up d0 89 A) := by
            refine x_down (m + 1) ?_ ?_
            · intro A hA o7 o8 o9 o10
              have e := hA m gg (by omega) (by omega)
              rw [if_pos rfl]
              refine x_iload dX12_stop_66 x_get_11_6 ?_
              refine x_iload_n dX12_stop_68 x_get_11_3 ?_
              refine r_icmp_gt (t := 208) dX12_stop_69 rfl ⟨by omega, by omega⟩ ⟨by omega, by omega⟩ (fun hc69 => ?_) (fun hc69 => absurd hc69 (by omega))
              refine x_iload dX12_stop_208 x_get_11_4 ?_
              refine r_if_ne (t := 227) dX12_stop_210 rfl ⟨by omega, by omega⟩ (fun hc210 => ?_) (fun hc210 => ?_)
              · refine x_iload dX12_stop_227 x_get_11_5 ?_
                refine b_ifeq (t := 236) dX12_stop_229 rfl (fun hc229 => ?_) (fun hc229 => ?_)
                · refine x_iconst dX12_stop_236 ?_
                  exact x_iret dX12_stop_237 rfl (Nat.le_of_ble_eq_true rfl) (Nat.le_of_ble_eq_true rfl) (by first | (rw [if_pos hc210]; done) | (rw [if_neg hc210, x_B, if_pos hc229]; done) | (rw [if_neg hc210, x_B, if_neg hc229]; done)) rfl rfl ⟨ms_tr ms0 (ms_89 (ms_rf v0)), by rw [x_up_n (by decide)]; exact t0⟩ rfl
                · refine x_iconst dX12_stop_232 ?_
                  refine x_goto (t := 237) dX12_stop_233 rfl ?_
                  exact x_iret dX12_stop_237 rfl (Nat.le_of_ble_eq_true rfl) (Nat.le_of_ble_eq_true rfl) (by first | (rw [if_pos hc210]; done) | (rw [if_neg hc210, x_B, if_pos hc229]; done) | (rw [if_neg hc210, x_B, if_neg hc229]; done)) rfl rfl ⟨ms_tr ms0 (ms_89 (ms_rf v0)), by rw [x_up_n (by decide)]; exact t0⟩ rfl
              · refine x_aload_n dX12_stop_213 x_get_11_0 ?_
                refine x_getR dX12_stop_214 fX_12_96 n62 s62 (by rfl) ?_
                refine x_bipush dX12_stop_217 rfl ?_
                refine x_iload_n dX12_stop_219 x_get_11_3 ?_
                refine x_imul dX12_stop_220 ?_
                refine x_iload_n dX12_stop_221 x_get_11_1 ?_
                refine x_iadd dX12_stop_222 ?_
                refine x_iald dX12_stop_223 n89 s89 (by omega) (by omega) (by decide) ?_
                try simp (disch := decide) only [x_up_s, x_up_n, x_up_up, x_u1_s, x_u1_n, e]
                refine x_goto (t := 237) dX12_stop_224 rfl ?_
                exact x_iret dX12_stop_237 rfl (Nat.le_of_ble_eq_true rfl) (Nat.le_of_ble_eq_true rfl) (by first | (rw [if_pos hc210]; done) | (rw [if_neg hc210, x_B, if_pos hc229]; done) | (rw [if_neg hc210, x_B, if_neg hc229]; done)) rfl rfl ⟨ms_tr ms0 (ms_89 (ms_rf v0)), by rw [x_up_n (by decide)]; exact t0⟩ rfl
            · intro k hk2 ih A hA o7 o8 o9 o10
              rw [show (if k = m + 1 then (x_B ((gg : Int) * t_pow m < t_best tw m (gg : Int))) else 0) = 0 from if_neg (by omega)]
              have hpw := t_pow_le k (by omega)
              have hpp := t_pow_pos k
              have inner : ∀ x : Nat, x ≤ 29 - k → ∀ A : Int → Int, tb_b tw k x A → ∀ o8 o9 o10 : Option Value, x_W (X, l, yX12_stop, cX12_stop, 11, (some .int), x_room 4 0 0, 0, 0, (.inl (some (.int (xI ((if w = 0 then t_best tw m (gg : Int) else (x_B ((gg : Int) * t_pow m < t_best tw m (gg : Int))))))))), N, sh, (fun d => ms D d ∧ d 62 0 = 0), false, []) 75 [some (.ref (x_b X + 62)), some (.int (xI (gg : Int))), some (.int (xI tw)), some (.int (xI (m : Int))), some (.int (xI w)), some (.int (xI (t_fl m gg k x (x_B ((gg : Int) * t_pow m < t_best tw m (gg : Int)))))), some (.int (xI (k : Int))), some (.int (xI (x : Int))), o8, o9, o10] [] 0 0 false N sh (x_up d0 89 A) := by
                refine x_down (29 - k) ?_ ?_
                · intro A hA o8 o9 o10
                  refine x_iload dX12_stop_75 x_get_11_7 ?_
                  refine x_bipush dX12_stop_77 rfl ?_
                  refine x_iload dX12_stop_79 x_get_11_6 ?_
                  refine x_isub dX12_stop_81 ?_
                  refine r_icmp_ge (t := 202) dX12_stop_82 rfl ⟨by omega, by omega⟩ ⟨by omega, by omega⟩ (fun hc82 => ?_) (fun hc82 => absurd hc82 (by omega))
                  refine x_iinc dX12_stop_202 x_get_11_6 (Nat.le_of_ble_eq_true rfl) rfl x_set_11_6 ?_
                  refine x_goto (t := 66) dX12_stop_205 rfl ?_
                  rw [t_fl_end (by omega) (by omega)]
                  exact ih A (fun k2 g2 hg hh => hA k2 g2 hg (by omega)) _ _ _ _
                · intro x hx ih2 A hA o8 o9 o10
                  have hst := tb_b_u1 (by omega) hA
                  have ih3 := ih2 _ hst
                  have hs0 : 0 ≤ (x : Int) * t_pow k := Int.mul_nonneg (by omega) (by omega)
                  have hs1 : (x : Int) * t_pow k ≤ 29 * t_pow k := Int.mul_le_mul_of_nonneg_right (by omega) (by omega)
                  by_cases c2 : x = 0 ∨ k = 0
                  · have htb := t_best_lo (tw := tw) (g := (x : Int)) (by omega) (k := k) (by omega)
                    rw [htb] at ih3
                    have tail : ∀ (fl v8 v9 v10 : Int) (A2 : Int → Int), (∀ o8 o9 o10 : Option Value, x_W (X, l, yX12_stop, cX12_stop, 11, (some .int), x_room 4 0 0, 0, 0, (.inl (some (.int (xI ((if w = 0 then t_best tw m (gg : Int) else (x_B ((gg : Int) * t_pow m < t_best tw m (gg : Int))))))))), N, sh, (fun d => ms D d ∧ d 62 0 = 0), false, []) 75 [some (.ref (x_b X + 62)), some (.int (xI (gg : Int))), some (.int (xI tw)), some (.int (xI (m : Int))), some (.int (xI w)), some (.int (xI fl)), some (.int (xI ((k : Nat) : Int))), some (.int (xI ((x + 1 : Nat) : Int))), o8, o9, o10] [] 0 0 false N sh (x_up d0 89 A2)) → x_W (X, l, yX12_stop, cX12_stop, 11, (some .int), x_room 4 0 0, 0, 0, (.inl (some (.int (xI ((if w = 0 then t_best tw m (gg : Int) else (x_B ((gg : Int) * t_pow m < t_best tw m (gg : Int))))))))), N, sh, (fun d => ms D d ∧ d 62 0 = 0), false, []) 196 [some (.ref (x_b X + 62)), some (.int (xI (gg : Int))), some (.int (xI tw)), some (.int (xI (m : Int))), some (.int (xI w)), some (.int (xI fl)), some (.int (xI ((k : Nat) : Int))), some (.int (xI (x : Int))), some (.int (xI v8)), some (.int (xI v9)), some (.int (xI v10))] [] 0 0 false N sh (x_up d0 89 A2) := by
                      intro fl v8 v9 v10 A2 kk
                      refine x_iinc dX12_stop_196 x_get_11_7 (Nat.le_of_ble_eq_true rfl) rfl x_set_11_7 ?_
                      refine x_goto (t := 75) dX12_stop_199 rfl ?_
                      exact kk _ _ _
                    refine x_iload dX12_stop_75 x_get_11_7 ?_
                    refine x_bipush dX12_stop_77 rfl ?_
                    refine x_iload dX12_stop_79 x_get_11_6 ?_
                    refine x_isub dX12_stop_81 ?_
                    refine r_icmp_ge (t := 202) dX12_stop_82 rfl ⟨by omega, by omega⟩ ⟨by omega, by omega⟩ (fun hc82 => absurd hc82 (by omega)) (fun hc82 => ?_)
                    refine x_bipush dX12_stop_85 rfl ?_
                    refine x_iload dX12_stop_87 x_get_11_6 ?_
                    refine x_imul dX12_stop_89 ?_
                    refine x_iload dX12_stop_90 x_get_11_7 ?_
                    refine x_iadd dX12_stop_92 ?_
                    refine x_istore dX12_stop_93 (Nat.le_of_ble_eq_true rfl) rfl x_set_11_8 ?_
                    refine x_iload dX12_stop_95 x_get_11_7 ?_
                    refine x_iload dX12_stop_97 x_get_11_6 ?_
                    refine x_callS (As := [_]) dX12_stop_99 w_12_414 (m_power hl (n := k) (by omega)) rfl rfl (Nat.le_of_ble_eq_true rfl) (Nat.le_of_ble_eq_true rfl) (Nat.le_of_ble_eq_true rfl) (Nat.le_of_ble_eq_true rfl) (Nat.le_of_ble_eq_true rfl) ?_
                    intro dz hdz
                    obtain rfl := Eq.symm hdz
                    refine x_imul dX12_stop_102 ?_
                    refine x_istore dX12_stop_103 (Nat.le_of_ble_eq_true rfl) rfl x_set_11_9 ?_
                    refine x_iload dX12_stop_105 x_get_11_7 ?_
                    refine r_if_eq (t := 115) dX12_stop_107 rfl ⟨by omega, by omega⟩ (fun hc107 => ?_) (fun hc107 => ?_)
                    · refine x_iconst dX12_stop_115 ?_
                      refine x_goto (t := 147) dX12_stop_116 rfl ?_
                      refine x_istore dX12_stop_147 (Nat.le_of_ble_eq_true rfl) rfl x_set_11_10 ?_
                      refine x_aload_n dX12_stop_149 x_get_11_0 ?_
                      refine x_getR dX12_stop_150 fX_12_96 n62 s62 (by rfl) ?_
                      refine x_iload dX12_stop_153 x_get_11_8 ?_
                      refine x_iload dX12_stop_155 x_get_11_10 ?_
                      refine x_iload dX12_stop_157 x_get_11_9 ?_
                      refine r_icmp_le (t := 167) dX12_stop_159 rfl ⟨by omega, by omega⟩ ⟨by omega, by omega⟩ (fun hc159 => ?_) (fun hc159 => absurd hc159 (by omega))
                      refine x_iload dX12_stop_167 x_get_11_9 ?_
                      refine x_iast dX12_stop_169 n89 s89 (by omega) (by omega) (by decide) ?_
                      try simp (disch := decide) only [x_up_s, x_up_n, x_up_up, x_u1_s, x_u1_n]
                      refine x_iload dX12_stop_170 x_get_11_6 ?_
                      refine x_iload_n dX12_stop_172 x_get_11_3 ?_
                      refine r_icmp_ne (t := 196) dX12_stop_173 rfl ⟨by omega, by omega⟩ ⟨by omega, by omega⟩ (fun hc173 => ?_) (fun hc173 => ?_)
                      · first
                          | (have hfl : (t_fl m gg k (x + 1) (x_B ((gg : Int) * t_pow m < t_best tw m (gg : Int)))) = 1 := t_fl_hit (by omega) (by omega) (by rw [show gg = x by omega, show m = k by omega, x_B, if_pos (by omega)]); rw [hfl] at ih3; exact tail _ _ _ _ _ ih3)
                          | (have hfl : (t_fl m gg k (x + 1) (x_B ((gg : Int) * t_pow m < t_best tw m (gg : Int)))) = 0 := t_fl_hit (by omega) (by omega) (by rw [show gg = x by omega, show m = k by omega, x_B, if_neg (by omega)]); rw [hfl] at ih3; exact tail _ _ _ _ _ ih3)
                          | (have hfl : (t_fl m gg k (x + 1) (x_B ((gg : Int) * t_pow m < t_best tw m (gg : Int)))) = (t_fl m gg k x (x_B ((gg : Int) * t_pow m < t_best tw m (gg : Int)))) := t_fl_no (by omega); rw [hfl] at ih3; exact tail _ _ _ _ _ ih3)
                      · refine x_iload dX12_stop_176 x_get_11_7 ?_
                        refine x_iload_n dX12_stop_178 x_get_11_1 ?_
                        refine r_icmp_ne (t := 196) dX12_stop_179 rfl ⟨by omega, by omega⟩ ⟨by omega, by omega⟩ (fun hc179 => ?_) (fun hc179 => ?_)
                        · first
                            | (have hfl : (t_fl m gg k (x + 1) (x_B ((gg : Int) * t_pow m < t_best tw m (gg : Int)))) = 1 := t_fl_hit (by omega) (by omega) (by rw [show gg = x by omega, show m = k by omega, x_B, if_pos (by omega)]); rw [hfl] at ih3; exact tail _ _ _ _ _ ih3)
                            | (have hfl : (t_fl m gg k (x + 1) (x_B ((gg : Int) * t_pow m < t_best tw m (gg : Int)))) = 0 := t_fl_hit (by omega) (by omega) (by rw [show gg = x by omega, show m = k by omega, x_B, if_neg (by omega)]); rw [hfl] at ih3; exact tail _ _ _ _ _ ih3)
                            | (have hfl : (t_fl m gg k (x + 1) (x_B ((gg : Int) * t_pow m < t_best tw m (gg : Int)))) = (t_fl m gg k x (x_B ((gg : Int) * t_pow m < t_best tw m (gg : Int)))) := t_fl_no (by omega); rw [hfl] at ih3; exact tail _ _ _ _ _ ih3)
                        · refine x_iload dX12_stop_182 x_get_11_10 ?_
                          refine x_iload dX12_stop_184 x_get_11_9 ?_
                          refine r_icmp_le (t := 193) dX12_stop_186 rfl ⟨by omega, by omega⟩ ⟨by omega, by omega⟩ (fun hc186 => ?_) (fun hc186 => ?_)
                          · refine x_iconst dX12_stop_193 ?_
                            refine x_istore dX12_stop_194 (Nat.le_of_ble_eq_true rfl) rfl x_set_11_5 ?_
                            first
                              | (have hfl : (t_fl m gg k (x + 1) (x_B ((gg : Int) * t_pow m < t_best tw m (gg : Int)))) = 1 := t_fl_hit (by omega) (by omega) (by rw [show gg = x by omega, show m = k by omega, x_B, if_pos (by omega)]); rw [hfl] at ih3; exact tail _ _ _ _ _ ih3)
                              | (have hfl : (t_fl m gg k (x + 1) (x_B ((gg : Int) * t_pow m < t_best tw m (gg : Int)))) = 0 := t_fl_hit (by omega) (by omega) (by rw [show gg = x by omega, show m = k by omega, x_B, if_neg (by omega)]); rw [hfl] at ih3; exact tail _ _ _ _ _ ih3)
                              | (have hfl : (t_fl m gg k (x + 1) (x_B ((gg : Int) * t_pow m < t_best tw m (gg : Int)))) = (t_fl m gg k x (x_B ((gg : Int) * t_pow m < t_best tw m (gg : Int)))) := t_fl_no (by omega); rw [hfl] at ih3; exact tail _ _ _ _ _ ih3)
                          · refine x_iconst dX12_stop_189 ?_
                            refine x_goto (t := 194) dX12_stop_190 rfl ?_
                            refine x_istore dX12_stop_194 (Nat.le_of_ble_eq_true rfl) rfl x_set_11_5 ?_
                            first
                              | (have hfl : (t_fl m gg k (x + 1) (x_B ((gg : Int) * t_pow m < t_best tw m (gg : Int)))) = 1 := t_fl_hit (by omega) (by omega) (by rw [show gg = x by omega, show m = k by omega, x_B, if_pos (by omega)]); rw [hfl] at ih3; exact tail _ _ _ _ _ ih3)
                              | (have hfl : (t_fl m gg k (x + 1) (x_B ((gg : Int) * t_pow m < t_best tw m (gg : Int)))) = 0 := t_fl_hit (by omega) (by omega) (by rw [show gg = x by omega, show m = k by omega, x_B, if_neg (by omega)]); rw [hfl] at ih3; exact tail _ _ _ _ _ ih3)
                              | (have hfl : (t_fl m gg k (x + 1) (x_B ((gg : Int) * t_pow m < t_best tw m (gg : Int)))) = (t_fl m gg k x (x_B ((gg : Int) * t_pow m < t_best tw m (gg : Int)))) := t_fl_no (by omega); rw [hfl] at ih3; exact tail _ _ _ _ _ ih3)
                    · refine x_iload dX12_stop_110 x_get_11_6 ?_
                      refine r_if_ne (t := 119) dX12_stop_112 rfl ⟨by omega, by omega⟩ (fun hc112 => absurd hc112 (by omega)) (fun hc112 => ?_)
                      refine x_iconst dX12_stop_115 ?_
                      refine x_goto (t := 147) dX12_stop_116 rfl ?_
                      refine x_istore dX12_stop_147 (Nat.le_of_ble_eq_true rfl) rfl x_set_11_10 ?_
                      refine x_aload_n dX12_stop_149 x_get_11_0 ?_
                      refine x_getR dX12_stop_150 fX_12_96 n62 s62 (by rfl) ?_
                      refine x_iload dX12_stop_153 x_get_11_8 ?_
                      refine x_iload dX12_stop_155 x_get_11_10 ?_
                      refine x_iload dX12_stop_157 x_get_11_9 ?_
                      refine r_icmp_le (t := 167) dX12_stop_159 rfl ⟨by omega, by omega⟩ ⟨by omega, by omega⟩ (fun hc159 => ?_) (fun hc159 => absurd hc159 (by omega))
                      refine x_iload dX12_stop_167 x_get_11_9 ?_
                      refine x_iast dX12_stop_169 n89 s89 (by omega) (by omega) (by decide) ?_
                      try simp (disch := decide) only [x_up_s, x_up_n, x_up_up, x_u1_s, x_u1_n]
                      refine x_iload dX12_stop_170 x_get_11_6 ?_
                      refine x_iload_n dX12_stop_172 x_get_11_3 ?_
                      refine r_icmp_ne (t := 196) dX12_stop_173 rfl ⟨by omega, by omega⟩ ⟨by omega, by omega⟩ (fun hc173 => ?_) (fun hc173 => ?_)
                      · first
                          | (have hfl : (t_fl m gg k (x + 1) (x_B ((gg : Int) * t_pow m < t_best tw m (gg : Int)))) = 1 := t_fl_hit (by omega) (by omega) (by rw [show gg = x by omega, show m = k by omega, x_B, if_pos (by omega)]); rw [hfl] at ih3; exact tail _ _ _ _ _ ih3)
                          | (have hfl : (t_fl m gg k (x + 1) (x_B ((gg : Int) * t_pow m < t_best tw m (gg : Int)))) = 0 := t_fl_hit (by omega) (by omega) (by rw [show gg = x by omega, show m = k by omega, x_B, if_neg (by omega)]); rw [hfl] at ih3; exact tail _ _ _ _ _ ih3)
                          | (have hfl : (t_fl m gg k (x + 1) (x_B ((gg : Int) * t_pow m < t_best tw m (gg : Int)))) = (t_fl m gg k x (x_B ((gg : Int) * t_pow m < t_best tw m (gg : Int)))) := t_fl_no (by omega); rw [hfl] at ih3; exact tail _ _ _ _ _ ih3)
                      · refine x_iload dX12_stop_176 x_get_11_7 ?_
                        refine x_iload_n dX12_stop_178 x_get_11_1 ?_
                        refine r_icmp_ne (t := 196) dX12_stop_179 rfl ⟨by omega, by omega⟩ ⟨by omega, by omega⟩ (fun hc179 => ?_) (fun hc179 => ?_)
                        · first
                            | (have hfl : (t_fl m gg k (x + 1) (x_B ((gg : Int) * t_pow m < t_best tw m (gg : Int)))) = 1 := t_fl_hit (by omega) (by omega) (by rw [show gg = x by omega, show m = k by omega, x_B, if_pos (by omega)]); rw [hfl] at ih3; exact tail _ _ _ _ _ ih3)
                            | (have hfl : (t_fl m gg k (x + 1) (x_B ((gg : Int) * t_pow m < t_best tw m (gg : Int)))) = 0 := t_fl_hit (by omega) (by omega) (by rw [show gg = x by omega, show m = k by omega, x_B, if_neg (by omega)]); rw [hfl] at ih3; exact tail _ _ _ _ _ ih3)
                            | (have hfl : (t_fl m gg k (x + 1) (x_B ((gg : Int) * t_pow m < t_best tw m (gg : Int)))) = (t_fl m gg k x (x_B ((gg : Int) * t_pow m < t_best tw m (gg : Int)))) := t_fl_no (by omega); rw [hfl] at ih3; exact tail _ _ _ _ _ ih3)
                        · refine x_iload dX12_stop_182 x_get_11_10 ?_
                          refine x_iload dX12_stop_184 x_get_11_9 ?_
                          refine r_icmp_le (t := 193) dX12_stop_186 rfl ⟨by omega, by omega⟩ ⟨by omega, by omega⟩ (fun hc186 => ?_) (fun hc186 => ?_)
                          · refine x_iconst dX12_stop_193 ?_
                            refine x_istore dX12_stop_194 (Nat.le_of_ble_eq_true rfl) rfl x_set_11_5 ?_
                            first
                              | (have hfl : (t_fl m gg k (x + 1) (x_B ((gg : Int) * t_pow m < t_best tw m (gg : Int)))) = 1 := t_fl_hit (by omega) (by omega) (by rw [show gg = x by omega, show m = k by omega, x_B, if_pos (by omega)]); rw [hfl] at ih3; exact tail _ _ _ _ _ ih3)
                              | (have hfl : (t_fl m gg k (x + 1) (x_B ((gg : Int) * t_pow m < t_best tw m (gg : Int)))) = 0 := t_fl_hit (by omega) (by omega) (by rw [show gg = x by omega, show m = k by omega, x_B, if_neg (by omega)]); rw [hfl] at ih3; exact tail _ _ _ _ _ ih3)
                              | (have hfl : (t_fl m gg k (x + 1) (x_B ((gg : Int) * t_pow m < t_best tw m (gg : Int)))) = (t_fl m gg k x (x_B ((gg : Int) * t_pow m < t_best tw m (gg : Int)))) := t_fl_no (by omega); rw [hfl] at ih3; exact tail _ _ _ _ _ ih3)
                          · refine x_iconst dX12_stop_189 ?_
                            refine x_goto (t := 194) dX12_stop_190 rfl ?_
                            refine x_istore dX12_stop_194 (Nat.le_of_ble_eq_true rfl) rfl x_set_11_5 ?_
                            first
                              | (have hfl : (t_fl m gg k (x + 1) (x_B ((gg : Int) * t_pow m < t_best tw m (gg : Int)))) = 1 := t_fl_hit (by omega) (by omega) (by rw [show gg = x by omega, show m = k by omega, x_B, if_pos (by omega)]); rw [hfl] at ih3; exact tail _ _ _ _ _ ih3)
                              | (have hfl : (t_fl m gg k (x + 1) (x_B ((gg : Int) * t_pow m < t_best tw m (gg : Int)))) = 0 := t_fl_hit (by omega) (by omega) (by rw [show gg = x by omega, show m = k by omega, x_B, if_neg (by omega)]); rw [hfl] at ih3; exact tail _ _ _ _ _ ih3)
                              | (have hfl : (t_fl m gg k (x + 1) (x_B ((gg : Int) * t_pow m < t_best tw m (gg : Int)))) = (t_fl m gg k x (x_B ((gg : Int) * t_pow m < t_best tw m (gg : Int)))) := t_fl_no (by omega); rw [hfl] at ih3; exact tail _ _ _ _ _ ih3)
                  · obtain ⟨k2, rfl⟩ : ∃ k2, k = k2 + 1 := ⟨k - 1, by omega⟩
                    have htb := t_best_st (tw := tw) (g := (x : Int)) (by omega) (k := k2)
                    rw [htb] at ih3
                    have r1 := hA k2 (x + 1) (by omega) (by omega)
                    have r2 := hA k2 (x - 1) (by omega) (by omega)
                    rw [show ((x + 1 : Nat) : Int) = (x : Int) + 1 by push_cast; rfl] at r1
                    rw [show ((x - 1 : Nat) : Int) = (x : Int) - 1 by omega] at r2
                    have i1 : 30 * ((k2 + 1 : Nat) : Int) + (x : Int) - 29 = 30 * (k2 : Int) + ((x : Int) + 1) := by push_cast; omega
                    have i2 : 30 * ((k2 + 1 : Nat) : Int) + (x : Int) - 31 = 30 * (k2 : Int) + ((x : Int) - 1) := by push_cast; omega
                    have b1 := t_best_in ht0 ht1 k2 ((x : Int) + 1) (by omega)
                    have b2 := t_best_in ht0 ht1 k2 ((x : Int) - 1) (by omega)
                    have p2 := t_pow_pos k2
                    have p3 : t_pow (k2 + 1) = t_pow k2 * 12 := rfl
                    have c3 : ((x : Int) + 1 + k2) * t_pow k2 ≤ 30 * t_pow k2 := Int.mul_le_mul_of_nonneg_right (by omega) (by omega)
                    have c4 : ((x : Int) - 1 + k2) * t_pow k2 ≤ 30 * t_pow k2 := Int.mul_le_mul_of_nonneg_right (by omega) (by omega)
                    have hgo := t_mul_in ht0 ht1 (x := t_best tw k2 ((x : Int) + 1)) (y := t_best tw k2 ((x : Int) - 1)) (p := 30 * t_pow k2) (by omega) (by omega) (by omega) (by omega)
                    have tail : ∀ (fl v8 v9 v10 : Int) (A2 : Int → Int), (∀ o8 o9 o10 : Option Value, x_W (X, l, yX12_stop, cX12_stop, 11, (some .int), x_room 4 0 0, 0, 0, (.inl (some (.int (xI ((if w = 0 then t_best tw m (gg : Int) else (x_B ((gg : Int) * t_pow m < t_best tw m (gg : Int))))))))), N, sh, (fun d => ms D d ∧ d 62 0 = 0), false, []) 75 [some (.ref (x_b X + 62)), some (.int (xI (gg : Int))), some (.int (xI tw)), some (.int (xI (m : Int))), some (.int (xI w)), some (.int (xI fl)), some (.int (xI (((k2 + 1) : Nat) : Int))), some (.int (xI ((x + 1 : Nat) : Int))), o8, o9, o10] [] 0 0 false N sh (x_up d0 89 A2)) → x_W (X, l, yX12_stop, cX12_stop, 11, (some .int), x_room 4 0 0, 0, 0, (.inl (some (.int (xI ((if w = 0 then t_best tw m (gg : Int) else (x_B ((gg : Int) * t_pow m < t_best tw m (gg : Int))))))))), N, sh, (fun d => ms D d ∧ d 62 0 = 0), false, []) 196 [some (.ref (x_b X + 62)), some (.int (xI (gg : Int))), some (.int (xI tw)), some (.int (xI (m : Int))), some (.int (xI w)), some (.int (xI fl)), some (.int (xI (((k2 + 1) : Nat) : Int))), some (.int (xI (x : Int))), some (.int (xI v8)), some (.int (xI v9)), some (.int (xI v10))] [] 0 0 false N sh (x_up d0 89 A2) := by
                      intro fl v8 v9 v10 A2 kk
                      refine x_iinc dX12_stop_196 x_get_11_7 (Nat.le_of_ble_eq_true rfl) rfl x_set_11_7 ?_
                      refine x_goto (t := 75) dX12_stop_199 rfl ?_
                      exact kk _ _ _
                    refine x_iload dX12_stop_75 x_get_11_7 ?_
                    refine x_bipush dX12_stop_77 rfl ?_
                    refine x_iload dX12_stop_79 x_get_11_6 ?_
                    refine x_isub dX12_stop_81 ?_
                    refine r_icmp_ge (t := 202) dX12_stop_82 rfl ⟨by omega, by omega⟩ ⟨by omega, by omega⟩ (fun hc82 => absurd hc82 (by omega)) (fun hc82 => ?_)
                    refine x_bipush dX12_stop_85 rfl ?_
                    refine x_iload dX12_stop_87 x_get_11_6 ?_
                    refine x_imul dX12_stop_89 ?_
                    refine x_iload dX12_stop_90 x_get_11_7 ?_
                    refine x_iadd dX12_stop_92 ?_
                    refine x_istore dX12_stop_93 (Nat.le_of_ble_eq_true rfl) rfl x_set_11_8 ?_
                    refine x_iload dX12_stop_95 x_get_11_7 ?_
                    refine x_iload dX12_stop_97 x_get_11_6 ?_
                    refine x_callS (As := [_]) dX12_stop_99 w_12_414 (m_power hl (n := k2 + 1) (by omega)) rfl rfl (Nat.le_of_ble_eq_true rfl) (Nat.le_of_ble_eq_true rfl) (Nat.le_of_ble_eq_true rfl) (Nat.le_of_ble_eq_true rfl) (Nat.le_of_ble_eq_true rfl) ?_
                    intro dz hdz
                    obtain rfl := Eq.symm hdz
                    refine x_imul dX12_stop_102 ?_
                    refine x_istore dX12_stop_103 (Nat.le_of_ble_eq_true rfl) rfl x_set_11_9 ?_
                    refine x_iload dX12_stop_105 x_get_11_7 ?_
                    refine r_if_eq (t := 115) dX12_stop_107 rfl ⟨by omega, by omega⟩ (fun hc107 => absurd hc107 (by omega)) (fun hc107 => ?_)
                    refine x_iload dX12_stop_110 x_get_11_6 ?_
                    refine r_if_ne (t := 119) dX12_stop_112 rfl ⟨by omega, by omega⟩ (fun hc112 => ?_) (fun hc112 => absurd hc112 (by omega))
                    refine x_iload_n dX12_stop_119 x_get_11_2 ?_
                    refine x_aload_n dX12_stop_120 x_get_11_0 ?_
                    refine x_getR dX12_stop_121 fX_12_96 n62 s62 (by rfl) ?_
                    refine x_iload dX12_stop_124 x_get_11_8 ?_
                    refine x_bipush dX12_stop_126 rfl ?_
                    refine x_isub dX12_stop_128 ?_
                    rw [i1]
                    refine x_iald dX12_stop_129 n89 s89 (by omega) (by omega) (by decide) ?_
                    try simp (disch := decide) only [x_up_s, x_up_n, x_up_up, x_u1_s, x_u1_n, r1, r2]
                    refine x_imul dX12_stop_130 ?_
                    refine x_bipush dX12_stop_131 rfl ?_
                    refine x_iload_n dX12_stop_133 x_get_11_2 ?_
                    refine x_isub dX12_stop_134 ?_
                    refine x_aload_n dX12_stop_135 x_get_11_0 ?_
                    refine x_getR dX12_stop_136 fX_12_96 n62 s62 (by rfl) ?_
                    refine x_iload dX12_stop_139 x_get_11_8 ?_
                    refine x_bipush dX12_stop_141 rfl ?_
                    refine x_isub dX12_stop_143 ?_
                    rw [i2]
                    refine x_iald dX12_stop_144 n89 s89 (by omega) (by omega) (by decide) ?_
                    try simp (disch := decide) only [x_up_s, x_up_n, x_up_up, x_u1_s, x_u1_n, r1, r2]
                    refine x_imul dX12_stop_145 ?_
                    refine x_iadd dX12_stop_146 ?_
                    generalize hGo : tw * t_best tw k2 ((x : Int) + 1) + (12 - tw) * t_best tw k2 ((x : Int) - 1) = go at hgo htb ih3 ⊢
                    refine x_istore dX12_stop_147 (Nat.le_of_ble_eq_true rfl) rfl x_set_11_10 ?_
                    refine x_aload_n dX12_stop_149 x_get_11_0 ?_
                    refine x_getR dX12_stop_150 fX_12_96 n62 s62 (by rfl) ?_
                    refine x_iload dX12_stop_153 x_get_11_8 ?_
                    refine x_iload dX12_stop_155 x_get_11_10 ?_
                    refine x_iload dX12_stop_157 x_get_11_9 ?_
                    refine r_icmp_le (t := 167) dX12_stop_159 rfl ⟨by omega, by omega⟩ ⟨by omega, by omega⟩ (fun hc159 => ?_) (fun hc159 => ?_)
                    · rw [Int.max_eq_left (by omega)] at ih3 htb
                      refine x_iload dX12_stop_167 x_get_11_9 ?_
                      refine x_iast dX12_stop_169 n89 s89 (by omega) (by omega) (by decide) ?_
                      try simp (disch := decide) only [x_up_s, x_up_n, x_up_up, x_u1_s, x_u1_n, r1, r2]
                      refine x_iload dX12_stop_170 x_get_11_6 ?_
                      refine x_iload_n dX12_stop_172 x_get_11_3 ?_
                      refine r_icmp_ne (t := 196) dX12_stop_173 rfl ⟨by omega, by omega⟩ ⟨by omega, by omega⟩ (fun hc173 => ?_) (fun hc173 => ?_)
                      · first
                          | (have hfl : (t_fl m gg (k2 + 1) (x + 1) (x_B ((gg : Int) * t_pow m < t_best tw m (gg : Int)))) = 1 := t_fl_hit (by omega) (by omega) (by rw [show gg = x by omega, show m = (k2 + 1) by omega, x_B, if_pos (by omega)]); rw [hfl] at ih3; exact tail _ _ _ _ _ ih3)
                          | (have hfl : (t_fl m gg (k2 + 1) (x + 1) (x_B ((gg : Int) * t_pow m < t_best tw m (gg : Int)))) = 0 := t_fl_hit (by omega) (by omega) (by rw [show gg = x by omega, show m = (k2 + 1) by omega, x_B, if_neg (by omega)]); rw [hfl] at ih3; exact tail _ _ _ _ _ ih3)
                          | (have hfl : (t_fl m gg (k2 + 1) (x + 1) (x_B ((gg : Int) * t_pow m < t_best tw m (gg : Int)))) = (t_fl m gg (k2 + 1) x (x_B ((gg : Int) * t_pow m < t_best tw m (gg : Int)))) := t_fl_no (by omega); rw [hfl] at ih3; exact tail _ _ _ _ _ ih3)
                      · refine x_iload dX12_stop_176 x_get_11_7 ?_
                        refine x_iload_n dX12_stop_178 x_get_11_1 ?_
                        refine r_icmp_ne (t := 196) dX12_stop_179 rfl ⟨by omega, by omega⟩ ⟨by omega, by omega⟩ (fun hc179 => ?_) (fun hc179 => ?_)
                        · first
                            | (have hfl : (t_fl m gg (k2 + 1) (x + 1) (x_B ((gg : Int) * t_pow m < t_best tw m (gg : Int)))) = 1 := t_fl_hit (by omega) (by omega) (by rw [show gg = x by omega, show m = (k2 + 1) by omega, x_B, if_pos (by omega)]); rw [hfl] at ih3; exact tail _ _ _ _ _ ih3)
                            | (have hfl : (t_fl m gg (k2 + 1) (x + 1) (x_B ((gg : Int) * t_pow m < t_best tw m (gg : Int)))) = 0 := t_fl_hit (by omega) (by omega) (by rw [show gg = x by omega, show m = (k2 + 1) by omega, x_B, if_neg (by omega)]); rw [hfl] at ih3; exact tail _ _ _ _ _ ih3)
                            | (have hfl : (t_fl m gg (k2 + 1) (x + 1) (x_B ((gg : Int) * t_pow m < t_best tw m (gg : Int)))) = (t_fl m gg (k2 + 1) x (x_B ((gg : Int) * t_pow m < t_best tw m (gg : Int)))) := t_fl_no (by omega); rw [hfl] at ih3; exact tail _ _ _ _ _ ih3)
                        · refine x_iload dX12_stop_182 x_get_11_10 ?_
                          refine x_iload dX12_stop_184 x_get_11_9 ?_
                          refine r_icmp_le (t := 193) dX12_stop_186 rfl ⟨by omega, by omega⟩ ⟨by omega, by omega⟩ (fun hc186 => ?_) (fun hc186 => ?_)
                          · refine x_iconst dX12_stop_193 ?_
                            refine x_istore dX12_stop_194 (Nat.le_of_ble_eq_true rfl) rfl x_set_11_5 ?_
                            first
                              | (have hfl : (t_fl m gg (k2 + 1) (x + 1) (x_B ((gg : Int) * t_pow m < t_best tw m (gg : Int)))) = 1 := t_fl_hit (by omega) (by omega) (by rw [show gg = x by omega, show m = (k2 + 1) by omega, x_B, if_pos (by omega)]); rw [hfl] at ih3; exact tail _ _ _ _ _ ih3)
                              | (have hfl : (t_fl m gg (k2 + 1) (x + 1) (x_B ((gg : Int) * t_pow m < t_best tw m (gg : Int)))) = 0 := t_fl_hit (by omega) (by omega) (by rw [show gg = x by omega, show m = (k2 + 1) by omega, x_B, if_neg (by omega)]); rw [hfl] at ih3; exact tail _ _ _ _ _ ih3)
                              | (have hfl : (t_fl m gg (k2 + 1) (x + 1) (x_B ((gg : Int) * t_pow m < t_best tw m (gg : Int)))) = (t_fl m gg (k2 + 1) x (x_B ((gg : Int) * t_pow m < t_best tw m (gg : Int)))) := t_fl_no (by omega); rw [hfl] at ih3; exact tail _ _ _ _ _ ih3)
                          · refine x_iconst dX12_stop_189 ?_
                            refine x_goto (t := 194) dX12_stop_190 rfl ?_
                            refine x_istore dX12_stop_194 (Nat.le_of_ble_eq_true rfl) rfl x_set_11_5 ?_
                            first
                              | (have hfl : (t_fl m gg (k2 + 1) (x + 1) (x_B ((gg : Int) * t_pow m < t_best tw m (gg : Int)))) = 1 := t_fl_hit (by omega) (by omega) (by rw [show gg = x by omega, show m = (k2 + 1) by omega, x_B, if_pos (by omega)]); rw [hfl] at ih3; exact tail _ _ _ _ _ ih3)
                              | (have hfl : (t_fl m gg (k2 + 1) (x + 1) (x_B ((gg : Int) * t_pow m < t_best tw m (gg : Int)))) = 0 := t_fl_hit (by omega) (by omega) (by rw [show gg = x by omega, show m = (k2 + 1) by omega, x_B, if_neg (by omega)]); rw [hfl] at ih3; exact tail _ _ _ _ _ ih3)
                              | (have hfl : (t_fl m gg (k2 + 1) (x + 1) (x_B ((gg : Int) * t_pow m < t_best tw m (gg : Int)))) = (t_fl m gg (k2 + 1) x (x_B ((gg : Int) * t_pow m < t_best tw m (gg : Int)))) := t_fl_no (by omega); rw [hfl] at ih3; exact tail _ _ _ _ _ ih3)
                    · rw [Int.max_eq_right (by omega)] at ih3 htb
                      refine x_iload dX12_stop_162 x_get_11_10 ?_
                      refine x_goto (t := 169) dX12_stop_164 rfl ?_
                      refine x_iast dX12_stop_169 n89 s89 (by omega) (by omega) (by decide) ?_
                      try simp (disch := decide) only [x_up_s, x_up_n, x_up_up, x_u1_s, x_u1_n, r1, r2]
                      refine x_iload dX12_stop_170 x_get_11_6 ?_
                      refine x_iload_n dX12_stop_172 x_get_11_3 ?_
                      refine r_icmp_ne (t := 196) dX12_stop_173 rfl ⟨by omega, by omega⟩ ⟨by omega, by omega⟩ (fun hc173 => ?_) (fun hc173 => ?_)
                      · first
                          | (have hfl : (t_fl m gg (k2 + 1) (x + 1) (x_B ((gg : Int) * t_pow m < t_best tw m (gg : Int)))) = 1 := t_fl_hit (by omega) (by omega) (by rw [show gg = x by omega, show m = (k2 + 1) by omega, x_B, if_pos (by omega)]); rw [hfl] at ih3; exact tail _ _ _ _ _ ih3)
                          | (have hfl : (t_fl m gg (k2 + 1) (x + 1) (x_B ((gg : Int) * t_pow m < t_best tw m (gg : Int)))) = 0 := t_fl_hit (by omega) (by omega) (by rw [show gg = x by omega, show m = (k2 + 1) by omega, x_B, if_neg (by omega)]); rw [hfl] at ih3; exact tail _ _ _ _ _ ih3)
                          | (have hfl : (t_fl m gg (k2 + 1) (x + 1) (x_B ((gg : Int) * t_pow m < t_best tw m (gg : Int)))) = (t_fl m gg (k2 + 1) x (x_B ((gg : Int) * t_pow m < t_best tw m (gg : Int)))) := t_fl_no (by omega); rw [hfl] at ih3; exact tail _ _ _ _ _ ih3)
                      · refine x_iload dX12_stop_176 x_get_11_7 ?_
                        refine x_iload_n dX12_stop_178 x_get_11_1 ?_
                        refine r_icmp_ne (t := 196) dX12_stop_179 rfl ⟨by omega, by omega⟩ ⟨by omega, by omega⟩ (fun hc179 => ?_) (fun hc179 => ?_)
                        · first
                            | (have hfl : (t_fl m gg (k2 + 1) (x + 1) (x_B ((gg : Int) * t_pow m < t_best tw m (gg : Int)))) = 1 := t_fl_hit (by omega) (by omega) (by rw [show gg = x by omega, show m = (k2 + 1) by omega, x_B, if_pos (by omega)]); rw [hfl] at ih3; exact tail _ _ _ _ _ ih3)
                            | (have hfl : (t_fl m gg (k2 + 1) (x + 1) (x_B ((gg : Int) * t_pow m < t_best tw m (gg : Int)))) = 0 := t_fl_hit (by omega) (by omega) (by rw [show gg = x by omega, show m = (k2 + 1) by omega, x_B, if_neg (by omega)]); rw [hfl] at ih3; exact tail _ _ _ _ _ ih3)
                            | (have hfl : (t_fl m gg (k2 + 1) (x + 1) (x_B ((gg : Int) * t_pow m < t_best tw m (gg : Int)))) = (t_fl m gg (k2 + 1) x (x_B ((gg : Int) * t_pow m < t_best tw m (gg : Int)))) := t_fl_no (by omega); rw [hfl] at ih3; exact tail _ _ _ _ _ ih3)
                        · refine x_iload dX12_stop_182 x_get_11_10 ?_
                          refine x_iload dX12_stop_184 x_get_11_9 ?_
                          refine r_icmp_le (t := 193) dX12_stop_186 rfl ⟨by omega, by omega⟩ ⟨by omega, by omega⟩ (fun hc186 => ?_) (fun hc186 => ?_)
                          · refine x_iconst dX12_stop_193 ?_
                            refine x_istore dX12_stop_194 (Nat.le_of_ble_eq_true rfl) rfl x_set_11_5 ?_
                            first
                              | (have hfl : (t_fl m gg (k2 + 1) (x + 1) (x_B ((gg : Int) * t_pow m < t_best tw m (gg : Int)))) = 1 := t_fl_hit (by omega) (by omega) (by rw [show gg = x by omega, show m = (k2 + 1) by omega, x_B, if_pos (by omega)]); rw [hfl] at ih3; exact tail _ _ _ _ _ ih3)
                              | (have hfl : (t_fl m gg (k2 + 1) (x + 1) (x_B ((gg : Int) * t_pow m < t_best tw m (gg : Int)))) = 0 := t_fl_hit (by omega) (by omega) (by rw [show gg = x by omega, show m = (k2 + 1) by omega, x_B, if_neg (by omega)]); rw [hfl] at ih3; exact tail _ _ _ _ _ ih3)
                              | (have hfl : (t_fl m gg (k2 + 1) (x + 1) (x_B ((gg : Int) * t_pow m < t_best tw m (gg : Int)))) = (t_fl m gg (k2 + 1) x (x_B ((gg : Int) * t_pow m < t_best tw m (gg : Int)))) := t_fl_no (by omega); rw [hfl] at ih3; exact tail _ _ _ _ _ ih3)
                          · refine x_iconst dX12_stop_189 ?_
                            refine x_goto (t := 194) dX12_stop_190 rfl ?_
                            refine x_istore dX12_stop_194 (Nat.le_of_ble_eq_true rfl) rfl x_set_11_5 ?_
                            first
                              | (have hfl : (t_fl m gg (k2 + 1) (x + 1) (x_B ((gg : Int) * t_pow m < t_best tw m (gg : Int)))) = 1 := t_fl_hit (by omega) (by omega) (by rw [show gg = x by omega, show m = (k2 + 1) by omega, x_B, if_pos (by omega)]); rw [hfl] at ih3; exact tail _ _ _ _ _ ih3)
                              | (have hfl : (t_fl m gg (k2 + 1) (x + 1) (x_B ((gg : Int) * t_pow m < t_best tw m (gg : Int)))) = 0 := t_fl_hit (by omega) (by omega) (by rw [show gg = x by omega, show m = (k2 + 1) by omega, x_B, if_neg (by omega)]); rw [hfl] at ih3; exact tail _ _ _ _ _ ih3)
                              | (have hfl : (t_fl m gg (k2 + 1) (x + 1) (x_B ((gg : Int) * t_pow m < t_best tw m (gg : Int)))) = (t_fl m gg (k2 + 1) x (x_B ((gg : Int) * t_pow m < t_best tw m (gg : Int)))) := t_fl_no (by omega); rw [hfl] at ih3; exact tail _ _ _ _ _ ih3)
              refine x_iload dX12_stop_66 x_get_11_6 ?_
              refine x_iload_n dX12_stop_68 x_get_11_3 ?_
              refine r_icmp_gt (t := 208) dX12_stop_69 rfl ⟨by omega, by omega⟩ ⟨by omega, by omega⟩ (fun hc69 => absurd hc69 (by omega)) (fun hc69 => ?_)
              refine x_iconst dX12_stop_72 ?_
              refine x_istore dX12_stop_73 (Nat.le_of_ble_eq_true rfl) rfl x_set_11_7 ?_
              have hi := inner 0 (Nat.zero_le _) A hA
              rw [t_fl_0] at hi
              exact hi _ _ _
          refine x_aload_n dX12_stop_5 x_get_11_0 ?_
          refine x_iload dX12_stop_6 x_get_11_4 ?_
          refine x_iconst dX12_stop_8 ?_
          refine x_callV (As := [_, _]) dX12_stop_9 w_12_365 (m_isWhatT hl q0.1 t0 hwr ⟨by decide, by decide⟩ hw) (by assumption) (by assumption) rfl rfl (Nat.le_of_ble_eq_true rfl) (Nat.le_of_ble_eq_true rfl) (Nat.le_of_ble_eq_true rfl) (Nat.le_of_ble_eq_true rfl) (Nat.le_of_ble_eq_true rfl) ?_
          intro dz hdz
          obtain rfl := Eq.symm hdz
          refine r_if_eq (t := 58) dX12_stop_12 rfl ⟨by omega, by omega⟩ (fun hc12 => absurd hc12 (by omega)) (fun hc12 => ?_)
          refine x_aload_n dX12_stop_15 x_get_11_0 ?_
          refine x_iload_n dX12_stop_16 x_get_11_1 ?_
          refine x_iconst dX12_stop_17 ?_
          refine x_bipush dX12_stop_18 rfl ?_
          refine x_callS (As := [_, _, _]) dX12_stop_20 w_12_346 (m_withinT hl hgr ⟨by decide, by decide⟩ ⟨by decide, by decide⟩ hg) rfl rfl (Nat.le_of_ble_eq_true rfl) (Nat.le_of_ble_eq_true rfl) (Nat.le_of_ble_eq_true rfl) (Nat.le_of_ble_eq_true rfl) (Nat.le_of_ble_eq_true rfl) ?_
          intro dz hdz
          obtain rfl := Eq.symm hdz
          refine r_if_eq (t := 50) dX12_stop_23 rfl ⟨by omega, by omega⟩ (fun hc23 => absurd hc23 (by omega)) (fun hc23 => ?_)
          refine x_iload_n dX12_stop_26 x_get_11_2 ?_
          refine x_iconst dX12_stop_27 ?_
          refine x_bipush dX12_stop_28 rfl ?_
          refine x_callS (As := [_, _, _]) dX12_stop_30 w_12_346 (m_withinT hl htr ⟨by decide, by decide⟩ ⟨by decide, by decide⟩ ht) rfl rfl (Nat.le_of_ble_eq_true rfl) (Nat.le_of_ble_eq_true rfl) (Nat.le_of_ble_eq_true rfl) (Nat.le_of_ble_eq_true rfl) (Nat.le_of_ble_eq_true rfl) ?_
          intro dz hdz
          obtain rfl := Eq.symm hdz
          refine r_if_eq (t := 50) dX12_stop_33 rfl ⟨by omega, by omega⟩ (fun hc33 => absurd hc33 (by omega)) (fun hc33 => ?_)
          refine x_iload_n dX12_stop_36 x_get_11_3 ?_
          refine x_iconst dX12_stop_37 ?_
          refine x_bipush dX12_stop_38 rfl ?_
          refine x_callS (As := [_, _, _]) dX12_stop_40 w_12_346 (m_withinT hl hnr ⟨by decide, by decide⟩ ⟨by decide, by decide⟩ hn) rfl rfl (Nat.le_of_ble_eq_true rfl) (Nat.le_of_ble_eq_true rfl) (Nat.le_of_ble_eq_true rfl) (Nat.le_of_ble_eq_true rfl) (Nat.le_of_ble_eq_true rfl) ?_
          intro dz hdz
          obtain rfl := Eq.symm hdz
          refine r_if_eq (t := 50) dX12_stop_43 rfl ⟨by omega, by omega⟩ (fun hc43 => absurd hc43 (by omega)) (fun hc43 => ?_)
          refine x_iconst dX12_stop_46 ?_
          refine x_goto (t := 51) dX12_stop_47 rfl ?_
          refine x_iconst dX12_stop_51 ?_
          refine x_callV (As := [_, _]) dX12_stop_52 w_12_274 (m_rightT hl q0.1 t0) (by assumption) (by assumption) rfl rfl (Nat.le_of_ble_eq_true rfl) (Nat.le_of_ble_eq_true rfl) (Nat.le_of_ble_eq_true rfl) (Nat.le_of_ble_eq_true rfl) (Nat.le_of_ble_eq_true rfl) ?_
          intro dz hdz
          obtain rfl := Eq.symm hdz
          refine r_if_ne (t := 60) dX12_stop_55 rfl ⟨by omega, by omega⟩ (fun hc55 => ?_) (fun hc55 => absurd hc55 (by omega))
          refine x_iconst dX12_stop_60 ?_
          refine x_istore dX12_stop_61 (Nat.le_of_ble_eq_true rfl) rfl x_set_11_5 ?_
          refine x_iconst dX12_stop_63 ?_
          refine x_istore dX12_stop_64 (Nat.le_of_ble_eq_true rfl) rfl x_set_11_6 ?_
          refine x_mem (x_up_id (k := 89)).symm ?_
          have hl0 := hloop 0 (Nat.zero_le _) (d0 89) (fun k2 g2 _ hh => by omega)
          rw [show (if 0 = m + 1 then (x_B ((gg : Int) * t_pow m < t_best tw m (gg : Int))) else 0) = 0 from if_neg (by omega)] at hl0
          exact hl0 _ _ _ _
        · rw [if_neg hn]
          refine x_ofW (by decide +kernel) hl (by simp [Value.category]) (by simp) ?_
          refine x_aload_n dX12_stop_0 x_get_11_0 ?_
          refine x_iconst dX12_stop_1 ?_
          refine x_putI 0 dX12_stop_2 fX_12_117 rfl tX_12_0 n62 s62 (by rfl) ?_
          have z0 := m_go0 hq hr hv84
          generalize x_up D 62 (x_u1 (D 62) 0 0) = d0 at z0 ⊢
          obtain ⟨q0, t0, ms0, r0, v0⟩ := z0
          refine x_aload_n dX12_stop_5 x_get_11_0 ?_
          refine x_iload dX12_stop_6 x_get_11_4 ?_
          refine x_iconst dX12_stop_8 ?_
          refine x_callV (As := [_, _]) dX12_stop_9 w_12_365 (m_isWhatT hl q0.1 t0 hwr ⟨by decide, by decide⟩ hw) (by assumption) (by assumption) rfl rfl (Nat.le_of_ble_eq_true rfl) (Nat.le_of_ble_eq_true rfl) (Nat.le_of_ble_eq_true rfl) (Nat.le_of_ble_eq_true rfl) (Nat.le_of_ble_eq_true rfl) ?_
          intro dz hdz
          obtain rfl := Eq.symm hdz
          refine r_if_eq (t := 58) dX12_stop_12 rfl ⟨by omega, by omega⟩ (fun hc12 => absurd hc12 (by omega)) (fun hc12 => ?_)
          refine x_aload_n dX12_stop_15 x_get_11_0 ?_
          refine x_iload_n dX12_stop_16 x_get_11_1 ?_
          refine x_iconst dX12_stop_17 ?_
          refine x_bipush dX12_stop_18 rfl ?_
          refine x_callS (As := [_, _, _]) dX12_stop_20 w_12_346 (m_withinT hl hgr ⟨by decide, by decide⟩ ⟨by decide, by decide⟩ hg) rfl rfl (Nat.le_of_ble_eq_true rfl) (Nat.le_of_ble_eq_true rfl) (Nat.le_of_ble_eq_true rfl) (Nat.le_of_ble_eq_true rfl) (Nat.le_of_ble_eq_true rfl) ?_
          intro dz hdz
          obtain rfl := Eq.symm hdz
          refine r_if_eq (t := 50) dX12_stop_23 rfl ⟨by omega, by omega⟩ (fun hc23 => absurd hc23 (by omega)) (fun hc23 => ?_)
          refine x_iload_n dX12_stop_26 x_get_11_2 ?_
          refine x_iconst dX12_stop_27 ?_
          refine x_bipush dX12_stop_28 rfl ?_
          refine x_callS (As := [_, _, _]) dX12_stop_30 w_12_346 (m_withinT hl htr ⟨by decide, by decide⟩ ⟨by decide, by decide⟩ ht) rfl rfl (Nat.le_of_ble_eq_true rfl) (Nat.le_of_ble_eq_true rfl) (Nat.le_of_ble_eq_true rfl) (Nat.le_of_ble_eq_true rfl) (Nat.le_of_ble_eq_true rfl) ?_
          intro dz hdz
          obtain rfl := Eq.symm hdz
          refine r_if_eq (t := 50) dX12_stop_33 rfl ⟨by omega, by omega⟩ (fun hc33 => absurd hc33 (by omega)) (fun hc33 => ?_)
          refine x_iload_n dX12_stop_36 x_get_11_3 ?_
          refine x_iconst dX12_stop_37 ?_
          refine x_bipush dX12_stop_38 rfl ?_
          refine x_callS (As := [_, _, _]) dX12_stop_40 w_12_346 (m_withinF hl hnr ⟨by decide, by decide⟩ ⟨by decide, by decide⟩ hn) rfl rfl (Nat.le_of_ble_eq_true rfl) (Nat.le_of_ble_eq_true rfl) (Nat.le_of_ble_eq_true rfl) (Nat.le_of_ble_eq_true rfl) (Nat.le_of_ble_eq_true rfl) ?_
          intro dz hdz
          obtain rfl := Eq.symm hdz
          refine r_if_eq (t := 50) dX12_stop_43 rfl ⟨by omega, by omega⟩ (fun hc43 => ?_) (fun hc43 => absurd hc43 (by omega))
          refine x_iconst dX12_stop_50 ?_
          refine x_iconst dX12_stop_51 ?_
          refine x_callV (As := [_, _]) dX12_stop_52 w_12_274 (m_rightF hl q0.1 t0 (by decide) (by decide)) (by assumption) (by assumption) rfl rfl (Nat.le_of_ble_eq_true rfl) (Nat.le_of_ble_eq_true rfl) (Nat.le_of_ble_eq_true rfl) (Nat.le_of_ble_eq_true rfl) (Nat.le_of_ble_eq_true rfl) ?_
          intro dz hdz
          obtain rfl := Eq.symm hdz
          refine r_if_ne (t := 60) dX12_stop_55 rfl ⟨by omega, by omega⟩ (fun hc55 => absurd hc55 (by omega)) (fun hc55 => ?_)
          refine x_iconst dX12_stop_58 ?_
          exact x_iret dX12_stop_59 rfl (Nat.le_of_ble_eq_true rfl) (Nat.le_of_ble_eq_true rfl) rfl rfl rfl ⟨ms_thr ms0, by rw [x_up_s, x_u1_s, m_k_I]⟩ rfl
      · rw [if_neg ht]
        refine x_ofW (by decide +kernel) hl (by simp [Value.category]) (by simp) ?_
        refine x_aload_n dX12_stop_0 x_get_11_0 ?_
        refine x_iconst dX12_stop_1 ?_
        refine x_putI 0 dX12_stop_2 fX_12_117 rfl tX_12_0 n62 s62 (by rfl) ?_
        have z0 := m_go0 hq hr hv84
        generalize x_up D 62 (x_u1 (D 62) 0 0) = d0 at z0 ⊢
        obtain ⟨q0, t0, ms0, r0, v0⟩ := z0
        refine x_aload_n dX12_stop_5 x_get_11_0 ?_
        refine x_iload dX12_stop_6 x_get_11_4 ?_
        refine x_iconst dX12_stop_8 ?_
        refine x_callV (As := [_, _]) dX12_stop_9 w_12_365 (m_isWhatT hl q0.1 t0 hwr ⟨by decide, by decide⟩ hw) (by assumption) (by assumption) rfl rfl (Nat.le_of_ble_eq_true rfl) (Nat.le_of_ble_eq_true rfl) (Nat.le_of_ble_eq_true rfl) (Nat.le_of_ble_eq_true rfl) (Nat.le_of_ble_eq_true rfl) ?_
        intro dz hdz
        obtain rfl := Eq.symm hdz
        refine r_if_eq (t := 58) dX12_stop_12 rfl ⟨by omega, by omega⟩ (fun hc12 => absurd hc12 (by omega)) (fun hc12 => ?_)
        refine x_aload_n dX12_stop_15 x_get_11_0 ?_
        refine x_iload_n dX12_stop_16 x_get_11_1 ?_
        refine x_iconst dX12_stop_17 ?_
        refine x_bipush dX12_stop_18 rfl ?_
        refine x_callS (As := [_, _, _]) dX12_stop_20 w_12_346 (m_withinT hl hgr ⟨by decide, by decide⟩ ⟨by decide, by decide⟩ hg) rfl rfl (Nat.le_of_ble_eq_true rfl) (Nat.le_of_ble_eq_true rfl) (Nat.le_of_ble_eq_true rfl) (Nat.le_of_ble_eq_true rfl) (Nat.le_of_ble_eq_true rfl) ?_
        intro dz hdz
        obtain rfl := Eq.symm hdz
        refine r_if_eq (t := 50) dX12_stop_23 rfl ⟨by omega, by omega⟩ (fun hc23 => absurd hc23 (by omega)) (fun hc23 => ?_)
        refine x_iload_n dX12_stop_26 x_get_11_2 ?_
        refine x_iconst dX12_stop_27 ?_
        refine x_bipush dX12_stop_28 rfl ?_
        refine x_callS (As := [_, _, _]) dX12_stop_30 w_12_346 (m_withinF hl htr ⟨by decide, by decide⟩ ⟨by decide, by decide⟩ ht) rfl rfl (Nat.le_of_ble_eq_true rfl) (Nat.le_of_ble_eq_true rfl) (Nat.le_of_ble_eq_true rfl) (Nat.le_of_ble_eq_true rfl) (Nat.le_of_ble_eq_true rfl) ?_
        intro dz hdz
        obtain rfl := Eq.symm hdz
        refine r_if_eq (t := 50) dX12_stop_33 rfl ⟨by omega, by omega⟩ (fun hc33 => ?_) (fun hc33 => absurd hc33 (by omega))
        refine x_iconst dX12_stop_50 ?_
        refine x_iconst dX12_stop_51 ?_
        refine x_callV (As := [_, _]) dX12_stop_52 w_12_274 (m_rightF hl q0.1 t0 (by decide) (by decide)) (by assumption) (by assumption) rfl rfl (Nat.le_of_ble_eq_true rfl) (Nat.le_of_ble_eq_true rfl) (Nat.le_of_ble_eq_true rfl) (Nat.le_of_ble_eq_true rfl) (Nat.le_of_ble_eq_true rfl) ?_
        intro dz hdz
        obtain rfl := Eq.symm hdz
        refine r_if_ne (t := 60) dX12_stop_55 rfl ⟨by omega, by omega⟩ (fun hc55 => absurd hc55 (by omega)) (fun hc55 => ?_)
        refine x_iconst dX12_stop_58 ?_
        exact x_iret dX12_stop_59 rfl (Nat.le_of_ble_eq_true rfl) (Nat.le_of_ble_eq_true rfl) rfl rfl rfl ⟨ms_thr ms0, by rw [x_up_s, x_u1_s, m_k_I]⟩ rfl
    · rw [if_neg hg]
      refine x_ofW (by decide +kernel) hl (by simp [Value.category]) (by simp) ?_
      refine x_aload_n dX12_stop_0 x_get_11_0 ?_
      refine x_iconst dX12_stop_1 ?_
      refine x_putI 0 dX12_stop_2 fX_12_117 rfl tX_12_0 n62 s62 (by rfl) ?_
      have z0 := m_go0 hq hr hv84
      generalize x_up D 62 (x_u1 (D 62) 0 0) = d0 at z0 ⊢
      obtain ⟨q0, t0, ms0, r0, v0⟩ := z0
      refine x_aload_n dX12_stop_5 x_get_11_0 ?_
      refine x_iload dX12_stop_6 x_get_11_4 ?_
      refine x_iconst dX12_stop_8 ?_
      refine x_callV (As := [_, _]) dX12_stop_9 w_12_365 (m_isWhatT hl q0.1 t0 hwr ⟨by decide, by decide⟩ hw) (by assumption) (by assumption) rfl rfl (Nat.le_of_ble_eq_true rfl) (Nat.le_of_ble_eq_true rfl) (Nat.le_of_ble_eq_true rfl) (Nat.le_of_ble_eq_true rfl) (Nat.le_of_ble_eq_true rfl) ?_
      intro dz hdz
      obtain rfl := Eq.symm hdz
      refine r_if_eq (t := 58) dX12_stop_12 rfl ⟨by omega, by omega⟩ (fun hc12 => absurd hc12 (by omega)) (fun hc12 => ?_)
      refine x_aload_n dX12_stop_15 x_get_11_0 ?_
      refine x_iload_n dX12_stop_16 x_get_11_1 ?_
      refine x_iconst dX12_stop_17 ?_
      refine x_bipush dX12_stop_18 rfl ?_
      refine x_callS (As := [_, _, _]) dX12_stop_20 w_12_346 (m_withinF hl hgr ⟨by decide, by decide⟩ ⟨by decide, by decide⟩ hg) rfl rfl (Nat.le_of_ble_eq_true rfl) (Nat.le_of_ble_eq_true rfl) (Nat.le_of_ble_eq_true rfl) (Nat.le_of_ble_eq_true rfl) (Nat.le_of_ble_eq_true rfl) ?_
      intro dz hdz
      obtain rfl := Eq.symm hdz
      refine r_if_eq (t := 50) dX12_stop_23 rfl ⟨by omega, by omega⟩ (fun hc23 => ?_) (fun hc23 => absurd hc23 (by omega))
      refine x_iconst dX12_stop_50 ?_
      refine x_iconst dX12_stop_51 ?_
      refine x_callV (As := [_, _]) dX12_stop_52 w_12_274 (m_rightF hl q0.1 t0 (by decide) (by decide)) (by assumption) (by assumption) rfl rfl (Nat.le_of_ble_eq_true rfl) (Nat.le_of_ble_eq_true rfl) (Nat.le_of_ble_eq_true rfl) (Nat.le_of_ble_eq_true rfl) (Nat.le_of_ble_eq_true rfl) ?_
      intro dz hdz
      obtain rfl := Eq.symm hdz
      refine r_if_ne (t := 60) dX12_stop_55 rfl ⟨by omega, by omega⟩ (fun hc55 => absurd hc55 (by omega)) (fun hc55 => ?_)
      refine x_iconst dX12_stop_58 ?_
      exact x_iret dX12_stop_59 rfl (Nat.le_of_ble_eq_true rfl) (Nat.le_of_ble_eq_true rfl) rfl rfl rfl ⟨ms_thr ms0, by rw [x_up_s, x_u1_s, m_k_I]⟩ rfl
  · rw [if_neg hw]
    refine x_ofW (by decide +kernel) hl (by simp [Value.category]) (by simp) ?_
    refine x_aload_n dX12_stop_0 x_get_11_0 ?_
    refine x_iconst dX12_stop_1 ?_
    refine x_putI 0 dX12_stop_2 fX_12_117 rfl tX_12_0 n62 s62 (by rfl) ?_
    have z0 := m_go0 hq hr hv84
    generalize x_up D 62 (x_u1 (D 62) 0 0) = d0 at z0 ⊢
    obtain ⟨q0, t0, ms0, r0, v0⟩ := z0
    refine x_aload_n dX12_stop_5 x_get_11_0 ?_
    refine x_iload dX12_stop_6 x_get_11_4 ?_
    refine x_iconst dX12_stop_8 ?_
    refine x_callV (As := [_, _]) dX12_stop_9 w_12_365 (m_isWhatF hl q0.1 t0 hwr ⟨by decide, by decide⟩ hw) (by assumption) (by assumption) rfl rfl (Nat.le_of_ble_eq_true rfl) (Nat.le_of_ble_eq_true rfl) (Nat.le_of_ble_eq_true rfl) (Nat.le_of_ble_eq_true rfl) (Nat.le_of_ble_eq_true rfl) ?_
    intro dz hdz
    obtain rfl := Eq.symm hdz
    refine r_if_eq (t := 58) dX12_stop_12 rfl ⟨by omega, by omega⟩ (fun hc12 => ?_) (fun hc12 => absurd hc12 (by omega))
    refine x_iconst dX12_stop_58 ?_
    exact x_iret dX12_stop_59 rfl (Nat.le_of_ble_eq_true rfl) (Nat.le_of_ble_eq_true rfl) rfl rfl rfl ⟨ms_thr ms0, by rw [x_up_s, x_u1_s, m_k_N]⟩ rfl
end M76
