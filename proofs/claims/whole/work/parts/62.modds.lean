section M62
theorem op_c_in {s : Int} (h0 : -15 ≤ s) (h1 : s < -6) (h2 : ¬ s = -9) : 4 ≤ op_c s ∧ op_c s ≤ 11 := by
  unfold op_c
  rw [if_neg h2]
  split
  · omega
  split <;> omega
theorem o_run_s {ss val : Int → Int} {i : Nat} : o_run ss val (i + 1) = o_st val (o_run ss val i) (ss i) := rfl
theorem w_12_304 : x_cs RX12 304 yX12_works cX12_works 3 (some .int) 3 := ⟨(x_in 1737 (by decide +kernel) rfl), (x_in 1738 (by decide +kernel) rfl), (x_in 90 (by decide +kernel) rfl), (x_in 1739 (by decide +kernel) rfl), by decide, ⟨by decide +kernel, by decide +kernel, by decide +kernel⟩⟩
theorem w_12_314 : x_cv RX12 314 yX12_lyingIn cX12_lyingIn 5 (some .int) 12 2 := ⟨⟨_, rfl, rfl⟩, (x_in 1726 (by decide +kernel) rfl), (x_in 1728 (by decide +kernel) rfl), (x_in 51 (by decide +kernel) rfl), (x_in 90 (by decide +kernel) rfl), (x_in 1729 (by decide +kernel) rfl), by decide, ⟨by decide +kernel, by decide +kernel, by decide +kernel⟩⟩
theorem w_12_317 : x_cs RX12 317 yX12_bits cX12_bits 3 (some .int) 1 := ⟨(x_in 1730 (by decide +kernel) rfl), (x_in 1731 (by decide +kernel) rfl), (x_in 90 (by decide +kernel) rfl), (x_in 1732 (by decide +kernel) rfl), by decide, ⟨by decide +kernel, by decide +kernel, by decide +kernel⟩⟩
theorem w_12_320 : x_cv RX12 320 yX12_reckons cX12_reckons 5 (some .int) 12 1 := ⟨⟨_, rfl, rfl⟩, (x_in 1733 (by decide +kernel) rfl), (x_in 1735 (by decide +kernel) rfl), (x_in 52 (by decide +kernel) rfl), (x_in 90 (by decide +kernel) rfl), (x_in 1736 (by decide +kernel) rfl), by decide, ⟨by decide +kernel, by decide +kernel, by decide +kernel⟩⟩
set_option maxHeartbeats 8000000 in
theorem m_reckons {X : xC} {l : Launch} (hl : l.stackTraces = false) {N : Nat} {sh : xS} {D : xM} (hM : is_Md N sh) {ss : Int → Int} {p n : Nat} (he : enc (D 69) ss p n) (hw : wf ss n) (hv : ∀ s, x_r (D 84 s)) : x_M X l yX12_reckons cX12_reckons 5 (some .int) 2 0 0 [.ref (x_b X + 62), .int (xI (p : Int))] false N sh D (.inl (some (.int (xI (((o_run ss (fun s => D 84 (-1 - s)) n)).headD 0))))) false N sh (fun d => ∃ w, d = x_up D 85 w) := by
  have s62 := md_62 hM
  have n62 : 62 < N := md_n hM (by decide)
  have s69 := md_69 hM
  have n69 : 69 < N := md_n hM (by decide)
  have s85 := md_85 hM
  have n85 : 85 < N := md_n hM (by decide)
  have s84 := md_84 hM
  have n84 : 84 < N := md_n hM (by decide)
  obtain ⟨e1, e2, e3, e4⟩ := id he
  have hln := o_run_len (val := (fun s => D 84 (-1 - s))) hw
  have hrr := o_run_r (val := (fun s => D 84 (-1 - s))) e4 (fun s => hv _)
  have hloop : ∀ i : Nat, i ≤ n → ∀ w : Int → Int, o_rep w (o_run ss (fun s => D 84 (-1 - s)) i) → x_W (X, l, yX12_reckons, cX12_reckons, 5, (some .int), x_room 2 0 0, 0, 0, (.inl (some (.int (xI (((o_run ss (fun s => D 84 (-1 - s)) n)).headD 0))))), N, sh, (fun d => ∃ w, d = x_up D 85 w), false, []) 4 [some (.ref (x_b X + 62)), some (.int (xI (p : Int))), some (.int (xI ((((o_run ss (fun s => D 84 (-1 - s)) i)).length : Nat) : Int))), some (.int (xI ((cd ss p i : Nat) : Int))), none] [] 0 0 false N sh (x_up D 85 w) := by
    refine x_down n ?_ ?_
    · intro w hw2
      refine x_aload_n dX12_reckons_4 x_get_5_0 ?_
      refine x_getR dX12_reckons_5 fX_12_32 n62 s62 (by rfl) ?_
      refine x_iload_n dX12_reckons_8 x_get_5_3 ?_
      refine x_iald dX12_reckons_9 n69 s69 (by omega) (by omega) (by decide) ?_
      try simp (disch := decide) only [x_up_s, x_up_n, x_up_up, x_u1_s, x_u1_n, e2]
      refine r_if_eq (t := 143) dX12_reckons_10 rfl ⟨by omega, by omega⟩ (fun hc10 => ?_) (fun hc10 => absurd hc10 (by omega))
      refine x_aload_n dX12_reckons_143 x_get_5_0 ?_
      refine x_getR dX12_reckons_144 fX_12_84 n62 s62 (by rfl) ?_
      refine x_iconst dX12_reckons_147 ?_
      refine x_iald dX12_reckons_148 n85 s85 (by decide) (by decide) (by decide) ?_
      try simp (disch := decide) only [x_up_s, x_up_n, x_up_up, x_u1_s, x_u1_n, e2]
      have hl1 := hln n (Nat.le_refl _)
      rw [hw.2] at hl1
      have hx : w 0 = ((o_run ss (fun s => D 84 (-1 - s)) n)).headD 0 := by
        generalize (o_run ss (fun s => D 84 (-1 - s)) n) = lst at hw2 hl1 ⊢
        match lst, hl1, hw2 with
        | [], hl1, _ => simp at hl1
        | [v], _, hw2 => exact o_rep_top hw2
        | a :: c :: r, hl1, _ => simp only [List.length_cons] at hl1; omega
      exact x_iret dX12_reckons_149 rfl (Nat.le_of_ble_eq_true rfl) (Nat.le_of_ble_eq_true rfl) (by rw [hx]) rfl rfl ⟨w, rfl⟩ rfl
    · intro i hi ih w hw2
      obtain ⟨c1, c2, c3⟩ := e1 i hi
      obtain ⟨f1, f2, f3⟩ := hw.1 i hi
      obtain ⟨hsr, hs15⟩ := e4 i hi
      have hl1 := hln i (by omega)
      have hlr := hrr i (by omega)
      have hl40 := hw2.1
      have hcl := cd_lt (ss := ss) (p := p) hi
      rw [o_run_s, cd_s] at ih
      generalize hcd : cd ss p i = k at c1 c2 c3 hcl ih ⊢
      generalize hss : ss i = s at c1 c2 c3 f1 f2 f3 hsr hs15 hcl ih
      generalize hlst : (o_run ss (fun s => D 84 (-1 - s)) i) = lst at hw2 hl1 hlr hl40 ih ⊢
      rw [← hl1] at f1 f2 f3
      by_cases a1 : -6 ≤ s
      · rw [if_pos a1] at hcl ih
        have hlt := f1 a1
        have hst : o_st (fun s => D 84 (-1 - s)) lst s = (if 0 ≤ s then s else D 84 (-1 - s)) :: lst := by
          unfold o_st
          rw [if_pos a1, if_pos (by omega)]
        rw [hst] at ih
        by_cases a2 : 0 ≤ s
        · rw [if_pos a2] at ih
          obtain ⟨g1, g2⟩ := c1 a2
          refine x_aload_n dX12_reckons_4 x_get_5_0 ?_
          refine x_getR dX12_reckons_5 fX_12_32 n62 s62 (by rfl) ?_
          refine x_iload_n dX12_reckons_8 x_get_5_3 ?_
          refine x_iald dX12_reckons_9 n69 s69 (by omega) (by omega) (by decide) ?_
          try simp (disch := decide) only [x_up_s, x_up_n, x_up_up, x_u1_s, x_u1_n, g1, g2]
          refine r_if_eq (t := 143) dX12_reckons_10 rfl ⟨by omega, by omega⟩ (fun hc10 => absurd hc10 (by omega)) (fun hc10 => ?_)
          refine x_aload_n dX12_reckons_13 x_get_5_0 ?_
          refine x_getR dX12_reckons_14 fX_12_32 n62 s62 (by rfl) ?_
          refine x_iload_n dX12_reckons_17 x_get_5_3 ?_
          refine x_iald dX12_reckons_18 n69 s69 (by omega) (by omega) (by decide) ?_
          try simp (disch := decide) only [x_up_s, x_up_n, x_up_up, x_u1_s, x_u1_n, g1, g2]
          refine x_istore dX12_reckons_19 (Nat.le_of_ble_eq_true rfl) rfl x_set_5_4 ?_
          refine x_iinc dX12_reckons_21 x_get_5_3 (Nat.le_of_ble_eq_true rfl) rfl x_set_5_3 ?_
          refine x_iload dX12_reckons_24 x_get_5_4 ?_
          refine x_iconst dX12_reckons_26 ?_
          refine r_icmp_eq (t := 36) dX12_reckons_27 rfl ⟨by omega, by omega⟩ ⟨by omega, by omega⟩ (fun hc27 => ?_) (fun hc27 => absurd hc27 (by omega))
          refine x_aload_n dX12_reckons_36 x_get_5_0 ?_
          refine x_getR dX12_reckons_37 fX_12_84 n62 s62 (by rfl) ?_
          refine x_iload_n dX12_reckons_40 x_get_5_2 ?_
          refine x_iload dX12_reckons_41 x_get_5_4 ?_
          refine x_iconst dX12_reckons_43 ?_
          refine r_icmp_ne (t := 56) dX12_reckons_44 rfl ⟨by omega, by omega⟩ ⟨by omega, by omega⟩ (fun hc44 => absurd hc44 (by omega)) (fun hc44 => ?_)
          refine x_aload_n dX12_reckons_47 x_get_5_0 ?_
          refine x_getR dX12_reckons_48 fX_12_32 n62 s62 (by rfl) ?_
          refine x_iload_n dX12_reckons_51 x_get_5_3 ?_
          refine x_iald dX12_reckons_52 n69 s69 (by omega) (by omega) (by decide) ?_
          try simp (disch := decide) only [x_up_s, x_up_n, x_up_up, x_u1_s, x_u1_n, g1, g2]
          refine x_goto (t := 67) dX12_reckons_53 rfl ?_
          refine x_iast dX12_reckons_67 n85 s85 (by omega) (by omega) (by decide) ?_
          try simp (disch := decide) only [x_up_s, x_up_n, x_up_up, x_u1_s, x_u1_n, g1, g2]
          refine x_iinc dX12_reckons_68 x_get_5_3 (Nat.le_of_ble_eq_true rfl) rfl x_set_5_3 ?_
          refine x_iinc dX12_reckons_71 x_get_5_2 (Nat.le_of_ble_eq_true rfl) rfl x_set_5_2 ?_
          refine x_goto (t := 140) dX12_reckons_74 rfl ?_
          refine x_goto (t := 4) dX12_reckons_140 rfl ?_
          refine x_forget 4 ?_
          have hp := o_rep_push hw2 (by omega) s
          have q1 : ((lst.length : Nat) : Int) + 1 = (((s :: lst).length : Nat) : Int) := by simp
          have q2 : ((k : Nat) : Int) + 1 + 1 = (((k + 2 : Nat)) : Int) := by omega
          rw [q1, q2]
          exact ih _ hp
        · rw [if_neg a2] at ih
          obtain ⟨g1, g2⟩ := c2 a1 (by omega)
          refine x_aload_n dX12_reckons_4 x_get_5_0 ?_
          refine x_getR dX12_reckons_5 fX_12_32 n62 s62 (by rfl) ?_
          refine x_iload_n dX12_reckons_8 x_get_5_3 ?_
          refine x_iald dX12_reckons_9 n69 s69 (by omega) (by omega) (by decide) ?_
          try simp (disch := decide) only [x_up_s, x_up_n, x_up_up, x_u1_s, x_u1_n, g1, g2]
          refine r_if_eq (t := 143) dX12_reckons_10 rfl ⟨by omega, by omega⟩ (fun hc10 => absurd hc10 (by omega)) (fun hc10 => ?_)
          refine x_aload_n dX12_reckons_13 x_get_5_0 ?_
          refine x_getR dX12_reckons_14 fX_12_32 n62 s62 (by rfl) ?_
          refine x_iload_n dX12_reckons_17 x_get_5_3 ?_
          refine x_iald dX12_reckons_18 n69 s69 (by omega) (by omega) (by decide) ?_
          try simp (disch := decide) only [x_up_s, x_up_n, x_up_up, x_u1_s, x_u1_n, g1, g2]
          refine x_istore dX12_reckons_19 (Nat.le_of_ble_eq_true rfl) rfl x_set_5_4 ?_
          refine x_iinc dX12_reckons_21 x_get_5_3 (Nat.le_of_ble_eq_true rfl) rfl x_set_5_3 ?_
          refine x_iload dX12_reckons_24 x_get_5_4 ?_
          refine x_iconst dX12_reckons_26 ?_
          refine r_icmp_eq (t := 36) dX12_reckons_27 rfl ⟨by omega, by omega⟩ ⟨by omega, by omega⟩ (fun hc27 => absurd hc27 (by omega)) (fun hc27 => ?_)
          refine x_iload dX12_reckons_30 x_get_5_4 ?_
          refine x_iconst dX12_reckons_32 ?_
          refine r_icmp_ne (t := 77) dX12_reckons_33 rfl ⟨by omega, by omega⟩ ⟨by omega, by omega⟩ (fun hc33 => absurd hc33 (by omega)) (fun hc33 => ?_)
          refine x_aload_n dX12_reckons_36 x_get_5_0 ?_
          refine x_getR dX12_reckons_37 fX_12_84 n62 s62 (by rfl) ?_
          refine x_iload_n dX12_reckons_40 x_get_5_2 ?_
          refine x_iload dX12_reckons_41 x_get_5_4 ?_
          refine x_iconst dX12_reckons_43 ?_
          refine r_icmp_ne (t := 56) dX12_reckons_44 rfl ⟨by omega, by omega⟩ ⟨by omega, by omega⟩ (fun hc44 => ?_) (fun hc44 => absurd hc44 (by omega))
          refine x_aload_n dX12_reckons_56 x_get_5_0 ?_
          refine x_getR dX12_reckons_57 fX_12_81 n62 s62 (by rfl) ?_
          refine x_aload_n dX12_reckons_60 x_get_5_0 ?_
          refine x_getR dX12_reckons_61 fX_12_32 n62 s62 (by rfl) ?_
          refine x_iload_n dX12_reckons_64 x_get_5_3 ?_
          refine x_iald dX12_reckons_65 n69 s69 (by omega) (by omega) (by decide) ?_
          try simp (disch := decide) only [x_up_s, x_up_n, x_up_up, x_u1_s, x_u1_n, g1, g2]
          refine x_iald dX12_reckons_66 n84 s84 (by omega) (by omega) (by decide) ?_
          try simp (disch := decide) only [x_up_s, x_up_n, x_up_up, x_u1_s, x_u1_n, g1, g2]
          refine x_iast dX12_reckons_67 n85 s85 (by omega) (by omega) (by decide) ?_
          try simp (disch := decide) only [x_up_s, x_up_n, x_up_up, x_u1_s, x_u1_n, g1, g2]
          refine x_iinc dX12_reckons_68 x_get_5_3 (Nat.le_of_ble_eq_true rfl) rfl x_set_5_3 ?_
          refine x_iinc dX12_reckons_71 x_get_5_2 (Nat.le_of_ble_eq_true rfl) rfl x_set_5_2 ?_
          refine x_goto (t := 140) dX12_reckons_74 rfl ?_
          refine x_goto (t := 4) dX12_reckons_140 rfl ?_
          refine x_forget 4 ?_
          have hp := o_rep_push hw2 (by omega) (D 84 (-1 - s))
          have q1 : ((lst.length : Nat) : Int) + 1 = ((((D 84 (-1 - s)) :: lst).length : Nat) : Int) := by simp
          have q2 : ((k : Nat) : Int) + 1 + 1 = (((k + 2 : Nat)) : Int) := by omega
          rw [q1, q2]
          exact ih _ hp
      · rw [if_neg a1] at hcl ih
        have g1 := c3 (by omega)
        by_cases a2 : s = -9
        · have hlt := f2 a2
          subst a2
          have g1 : D 69 ((k : Nat) : Int) = 3 := g1
          match lst, hw2, hl1, hlr, hl40, hlt, ih with
          | [], _, _, _, _, hlt, _ => simp at hlt
          | x :: r, hw2, hl1, hlr, hl40, hlt, ih =>
            have hx := o_rep_top hw2
            have hxr := hlr x List.mem_cons_self
            have hst : o_st (fun s => D 84 (-1 - s)) (x :: r) (-9) = x_B (x = 0) :: r := rfl
            rw [hst] at ih
            have hs := o_rep_set hw2 (x_B (x = 0))
            have hxl : ((x :: r).length : Int) = (r.length : Int) + 1 := by simp
            have hbn : 0 ≤ ((x :: r).length : Int) - 1 ∧ ((x :: r).length : Int) - 1 < 950 := by omega
            generalize hL : ((x :: r).length : Int) = Lx at hx hs hbn ih ⊢
            refine x_aload_n dX12_reckons_4 x_get_5_0 ?_
            refine x_getR dX12_reckons_5 fX_12_32 n62 s62 (by rfl) ?_
            refine x_iload_n dX12_reckons_8 x_get_5_3 ?_
            refine x_iald dX12_reckons_9 n69 s69 (by omega) (by omega) (by decide) ?_
            try simp (disch := decide) only [x_up_s, x_up_n, x_up_up, x_u1_s, x_u1_n, g1, hx]
            refine r_if_eq (t := 143) dX12_reckons_10 rfl ⟨by omega, by omega⟩ (fun hc10 => absurd hc10 (by omega)) (fun hc10 => ?_)
            refine x_aload_n dX12_reckons_13 x_get_5_0 ?_
            refine x_getR dX12_reckons_14 fX_12_32 n62 s62 (by rfl) ?_
            refine x_iload_n dX12_reckons_17 x_get_5_3 ?_
            refine x_iald dX12_reckons_18 n69 s69 (by omega) (by omega) (by decide) ?_
            try simp (disch := decide) only [x_up_s, x_up_n, x_up_up, x_u1_s, x_u1_n, g1, hx]
            refine x_istore dX12_reckons_19 (Nat.le_of_ble_eq_true rfl) rfl x_set_5_4 ?_
            refine x_iinc dX12_reckons_21 x_get_5_3 (Nat.le_of_ble_eq_true rfl) rfl x_set_5_3 ?_
            refine x_iload dX12_reckons_24 x_get_5_4 ?_
            refine x_iconst dX12_reckons_26 ?_
            refine r_icmp_eq (t := 36) dX12_reckons_27 rfl ⟨by omega, by omega⟩ ⟨by omega, by omega⟩ (fun hc27 => absurd hc27 (by omega)) (fun hc27 => ?_)
            refine x_iload dX12_reckons_30 x_get_5_4 ?_
            refine x_iconst dX12_reckons_32 ?_
            refine r_icmp_ne (t := 77) dX12_reckons_33 rfl ⟨by omega, by omega⟩ ⟨by omega, by omega⟩ (fun hc33 => ?_) (fun hc33 => absurd hc33 (by omega))
            refine x_iload dX12_reckons_77 x_get_5_4 ?_
            refine x_iconst dX12_reckons_79 ?_
            refine r_icmp_ne (t := 110) dX12_reckons_80 rfl ⟨by omega, by omega⟩ ⟨by omega, by omega⟩ (fun hc80 => absurd hc80 (by omega)) (fun hc80 => ?_)
            refine x_aload_n dX12_reckons_83 x_get_5_0 ?_
            refine x_getR dX12_reckons_84 fX_12_84 n62 s62 (by rfl) ?_
            refine x_iload_n dX12_reckons_87 x_get_5_2 ?_
            refine x_iconst dX12_reckons_88 ?_
            refine x_isub dX12_reckons_89 ?_
            refine x_aload_n dX12_reckons_90 x_get_5_0 ?_
            refine x_getR dX12_reckons_91 fX_12_84 n62 s62 (by rfl) ?_
            refine x_iload_n dX12_reckons_94 x_get_5_2 ?_
            refine x_iconst dX12_reckons_95 ?_
            refine x_isub dX12_reckons_96 ?_
            refine x_iald dX12_reckons_97 n85 s85 (by omega) (by omega) (by decide) ?_
            try simp (disch := decide) only [x_up_s, x_up_n, x_up_up, x_u1_s, x_u1_n, g1, hx]
            refine r_if_ne (t := 105) dX12_reckons_98 rfl hxr (fun hc98 => ?_) (fun hc98 => ?_)
            · refine x_iconst dX12_reckons_105 ?_
              refine x_iast dX12_reckons_106 n85 s85 (by omega) (by omega) (by decide) ?_
              try simp (disch := decide) only [x_up_s, x_up_n, x_up_up, x_u1_s, x_u1_n, g1, hx]
              refine x_goto (t := 140) dX12_reckons_107 rfl ?_
              refine x_goto (t := 4) dX12_reckons_140 rfl ?_
              refine x_forget 4 ?_
              have q2 : ((k : Nat) : Int) + 1 = (((k + 1 : Nat)) : Int) := by omega
              rw [q2]
              have ih2 := ih _ hs
              first | (rw [x_B, if_pos hc98] at ih2; exact ih2) | (rw [x_B, if_neg hc98] at ih2; exact ih2)
            · refine x_iconst dX12_reckons_101 ?_
              refine x_goto (t := 106) dX12_reckons_102 rfl ?_
              refine x_iast dX12_reckons_106 n85 s85 (by omega) (by omega) (by decide) ?_
              try simp (disch := decide) only [x_up_s, x_up_n, x_up_up, x_u1_s, x_u1_n, g1, hx]
              refine x_goto (t := 140) dX12_reckons_107 rfl ?_
              refine x_goto (t := 4) dX12_reckons_140 rfl ?_
              refine x_forget 4 ?_
              have q2 : ((k : Nat) : Int) + 1 = (((k + 1 : Nat)) : Int) := by omega
              rw [q2]
              have ih2 := ih _ hs
              first | (rw [x_B, if_pos hc98] at ih2; exact ih2) | (rw [x_B, if_neg hc98] at ih2; exact ih2)
        · have hlt := f3 (by omega) a2
          have hop := op_c_in hs15 (by omega) a2
          match lst, hw2, hl1, hlr, hl40, hlt, ih with
          | [], _, _, _, _, hlt, _ => simp at hlt
          | [x], _, _, _, _, hlt, _ => simp at hlt
          | y :: x :: r, hw2, hl1, hlr, hl40, hlt, ih =>
            have hx := o_rep_top hw2
            have hy := o_rep_2nd hw2
            have hxr := hlr x (List.mem_cons_of_mem _ List.mem_cons_self)
            have hyr := hlr y List.mem_cons_self
            have hst : o_st (fun s => D 84 (-1 - s)) (y :: x :: r) s = j_op s x y :: r := by
              unfold o_st
              rw [if_neg a1, if_neg a2]
            rw [hst] at ih
            have hs := o_rep_set (o_rep_pop hw2) (j_op s x y)
            have hLL : (((x :: r).length : Nat) : Int) - 1 = (((y :: x :: r).length : Nat) : Int) + -1 - 1 := by simp only [List.length_cons]; push_cast; omega
            have hL2 : (((j_op s x y :: r).length : Nat) : Int) = (((y :: x :: r).length : Nat) : Int) + -1 := by simp only [List.length_cons]; push_cast; omega
            rw [hLL] at hs
            have hbn : 2 ≤ (((y :: x :: r).length : Nat) : Int) := by simp only [List.length_cons]; push_cast; omega
            have hbm : (((y :: x :: r).length : Nat) : Int) ≤ 40 := by omega
            generalize hL : (((y :: x :: r).length : Nat) : Int) = Lx at hx hy hs hL2 hbn hbm ih ⊢
            have hx : w (Lx + -1) = y := by rw [show Lx + -1 = Lx - 1 by omega]; exact hx
            have hy : w (Lx + -1 - 1) = x := by rw [show Lx + -1 - 1 = Lx - 2 by omega]; exact hy
            refine x_aload_n dX12_reckons_4 x_get_5_0 ?_
            refine x_getR dX12_reckons_5 fX_12_32 n62 s62 (by rfl) ?_
            refine x_iload_n dX12_reckons_8 x_get_5_3 ?_
            refine x_iald dX12_reckons_9 n69 s69 (by omega) (by omega) (by decide) ?_
            try simp (disch := decide) only [x_up_s, x_up_n, x_up_up, x_u1_s, x_u1_n, g1, hx, hy]
            refine r_if_eq (t := 143) dX12_reckons_10 rfl ⟨by omega, by omega⟩ (fun hc10 => absurd hc10 (by omega)) (fun hc10 => ?_)
            refine x_aload_n dX12_reckons_13 x_get_5_0 ?_
            refine x_getR dX12_reckons_14 fX_12_32 n62 s62 (by rfl) ?_
            refine x_iload_n dX12_reckons_17 x_get_5_3 ?_
            refine x_iald dX12_reckons_18 n69 s69 (by omega) (by omega) (by decide) ?_
            try simp (disch := decide) only [x_up_s, x_up_n, x_up_up, x_u1_s, x_u1_n, g1, hx, hy]
            refine x_istore dX12_reckons_19 (Nat.le_of_ble_eq_true rfl) rfl x_set_5_4 ?_
            refine x_iinc dX12_reckons_21 x_get_5_3 (Nat.le_of_ble_eq_true rfl) rfl x_set_5_3 ?_
            refine x_iload dX12_reckons_24 x_get_5_4 ?_
            refine x_iconst dX12_reckons_26 ?_
            refine r_icmp_eq (t := 36) dX12_reckons_27 rfl ⟨by omega, by omega⟩ ⟨by omega, by omega⟩ (fun hc27 => absurd hc27 (by omega)) (fun hc27 => ?_)
            refine x_iload dX12_reckons_30 x_get_5_4 ?_
            refine x_iconst dX12_reckons_32 ?_
            refine r_icmp_ne (t := 77) dX12_reckons_33 rfl ⟨by omega, by omega⟩ ⟨by omega, by omega⟩ (fun hc33 => ?_) (fun hc33 => absurd hc33 (by omega))
            refine x_iload dX12_reckons_77 x_get_5_4 ?_
            refine x_iconst dX12_reckons_79 ?_
            refine r_icmp_ne (t := 110) dX12_reckons_80 rfl ⟨by omega, by omega⟩ ⟨by omega, by omega⟩ (fun hc80 => ?_) (fun hc80 => absurd hc80 (by omega))
            refine x_iinc dX12_reckons_110 x_get_5_2 (Nat.le_of_ble_eq_true rfl) rfl x_set_5_2 ?_
            refine x_aload_n dX12_reckons_113 x_get_5_0 ?_
            refine x_getR dX12_reckons_114 fX_12_84 n62 s62 (by rfl) ?_
            refine x_iload_n dX12_reckons_117 x_get_5_2 ?_
            refine x_iconst dX12_reckons_118 ?_
            refine x_isub dX12_reckons_119 ?_
            refine x_iload dX12_reckons_120 x_get_5_4 ?_
            refine x_aload_n dX12_reckons_122 x_get_5_0 ?_
            refine x_getR dX12_reckons_123 fX_12_84 n62 s62 (by rfl) ?_
            refine x_iload_n dX12_reckons_126 x_get_5_2 ?_
            refine x_iconst dX12_reckons_127 ?_
            refine x_isub dX12_reckons_128 ?_
            refine x_iald dX12_reckons_129 n85 s85 (by omega) (by omega) (by decide) ?_
            try simp (disch := decide) only [x_up_s, x_up_n, x_up_up, x_u1_s, x_u1_n, g1, hx, hy]
            refine x_aload_n dX12_reckons_130 x_get_5_0 ?_
            refine x_getR dX12_reckons_131 fX_12_84 n62 s62 (by rfl) ?_
            refine x_iload_n dX12_reckons_134 x_get_5_2 ?_
            refine x_iald dX12_reckons_135 n85 s85 (by omega) (by omega) (by decide) ?_
            try simp (disch := decide) only [x_up_s, x_up_n, x_up_up, x_u1_s, x_u1_n, g1, hx, hy]
            refine x_callS (As := [_, _, _]) dX12_reckons_136 w_12_304 (m_works hl (s := s) hxr hyr rfl (by omega)) rfl rfl (Nat.le_of_ble_eq_true rfl) (Nat.le_of_ble_eq_true rfl) (Nat.le_of_ble_eq_true rfl) (Nat.le_of_ble_eq_true rfl) (Nat.le_of_ble_eq_true rfl) ?_
            intro dz hdz
            obtain rfl := Eq.symm hdz
            refine x_iast dX12_reckons_139 n85 s85 (by omega) (by omega) (by decide) ?_
            try simp (disch := decide) only [x_up_s, x_up_n, x_up_up, x_u1_s, x_u1_n, g1, hx, hy]
            refine x_goto (t := 4) dX12_reckons_140 rfl ?_
            refine x_forget 4 ?_
            have q2 : ((k : Nat) : Int) + 1 = (((k + 1 : Nat)) : Int) := by omega
            rw [q2]
            have ih2 := ih _ hs
            rw [hL2] at ih2
            exact ih2
  refine x_ofW (by decide +kernel) hl (by simp [Value.category]) (by simp) ?_
  refine x_iconst dX12_reckons_0 ?_
  refine x_istore_n dX12_reckons_1 (Nat.le_of_ble_eq_true rfl) rfl x_set_5_2 ?_
  refine x_iload_n dX12_reckons_2 x_get_5_1 ?_
  refine x_istore_n dX12_reckons_3 (Nat.le_of_ble_eq_true rfl) rfl x_set_5_3 ?_
  refine x_mem (x_up_id (k := 85)).symm ?_
  exact hloop 0 (Nat.zero_le _) (D 85) ⟨by simp [o_run], fun k v h => by simp [o_run] at h⟩
theorem m_told {mk sk f g : Int → Int} {cr t : Int} {s : Int} (h0 : -6 ≤ s) (h1 : s < 0) : x_u1 (x_u1 (x_u1 (x_u1 (x_u1 (x_u1 g 0 (f (1 + t))) 1 (f (9 + t))) 2 (sk t)) 3 (mk t)) 4 (f 0)) 5 cr (-1 - s) = o_val mk sk f cr t s := by
  have h : s = -1 ∨ s = -2 ∨ s = -3 ∨ s = -4 ∨ s = -5 ∨ s = -6 := by omega
  rcases h with rfl | rfl | rfl | rfl | rfl | rfl <;> rfl
/-- odds were asked: told and pile -/
def m_od (D d : xM) : Prop := ∃ v w, d = x_up (x_up D 84 v) 85 w
theorem m_od_rf {D : xM} : m_od D D := ⟨D 84, D 85, by rw [x_up_id, x_up_id]⟩
theorem m_od_n {D d : xM} (h : m_od D d) {j : Nat} (h1 : j ≠ 84) (h2 : j ≠ 85) : d j = D j := by
  obtain ⟨v, w, rfl⟩ := h
  rw [x_up_n h2, x_up_n h1]
theorem m_od_mq {N : Nat} {sh : xS} {D d : xM} {T C W : Nat} {G : Ldt} (h : mq N sh D T C W G) (hw : m_od D d) : mq N sh d T C W G := mq_of h (fun i _ _ => by rw [m_od_n hw (by decide) (by decide)]) (fun j a b => m_od_n hw (by omega) (by omega))
theorem x_u1_r {g : Int → Int} {i v : Int} (h : ∀ j, x_r (g j)) (hv : x_r v) : ∀ j, x_r (x_u1 g i v j) := by
  intro j
  unfold x_u1
  split
  · exact hv
  · exact h j
set_option maxHeartbeats 4000000 in
theorem m_oddsOf {X : xC} {l : Launch} (hl : l.stackTraces = false) {N : Nat} {sh : xS} {D : xM} {T C W : Nat} {G : Ldt} (hq : mq N sh D T C W G) {B : Int} {f : Int → Int} (hk : s_ok B f) (hB : B ≤ 1000000) {b : Int} (hb : b = 0 ∨ b = 85) (hr : mr T C f (D 82) b) {t : Int} (h0 : 0 ≤ t) (h1 : t < T) (hv84 : ∀ j, x_r (D 84 j)) : x_M X l yX12_oddsOf cX12_oddsOf 5 (some .int) 3 0 0 [.ref (x_b X + 62), .int (xI b), .int (xI t)] false N sh D (.inl (some (.int (xI (G.2.2 f t))))) false N sh (fun d => m_od D d ∧ ∀ j, x_r (d 84 j)) := by
  obtain ⟨hM, hT, hTb, hW, hWb, hC, hCb, hmk, ⟨hG1, hG2, hG3⟩, hod⟩ := id hq
  have s62 := md_62 hM
  have n62 : 62 < N := md_n hM (by decide)
  have s82 := md_82 hM
  have n82 : 82 < N := md_n hM (by decide)
  have s84 := md_84 hM
  have n84 : 84 < N := md_n hM (by decide)
  have s64 := md_64 hM
  have n64 : 64 < N := md_n hM (by decide)
  have s63 := md_63 hM
  have n63 : 63 < N := md_n hM (by decide)
  have htn := s_tn hk (t := t) h0 (by omega)
  obtain ⟨hm63, hm64⟩ := hmk t h0 h1
  have hg1 := hG1 t
  have hg2 := hG2 t
  have e1 : D 82 (b + 1 + t) = f (1 + t) := mr_t hr rfl (by decide) (by omega) (by omega)
  have e9 : D 82 (b + 9 + t) = f (9 + t) := mr_t hr rfl (by decide) (by omega) (by omega)
  have e0 : D 82 (b + 0) = f 0 := by rw [Int.add_zero]; exact mr_0 hr rfl
  have h00 : x_r (f 0) := s_r hk hB (by decide) (by decide)
  obtain ⟨told, asks, ss, n, hGo, hcase⟩ := hod
  rw [hGo]
  rcases hcase with ⟨ht0, hat⟩ | ⟨ht0, pp, hat, he, hwf, has⟩
  · rw [o_odds, if_pos ht0]
    refine x_ofW (by decide +kernel) hl (by simp [Value.category]) (by simp) ?_
    refine x_aload_n dX12_oddsOf_0 x_get_5_0 ?_
    refine x_getR dX12_oddsOf_1 fX_12_75 n62 s62 (by rfl) ?_
    refine x_iload_n dX12_oddsOf_4 x_get_5_1 ?_
    refine x_iconst dX12_oddsOf_5 ?_
    refine x_iadd dX12_oddsOf_6 ?_
    refine x_iload_n dX12_oddsOf_7 x_get_5_2 ?_
    refine x_iadd dX12_oddsOf_8 ?_
    refine x_iald dX12_oddsOf_9 n82 s82 (by omega) (by omega) (by decide) ?_
    try simp (disch := decide) only [x_up_s, x_up_n, x_up_up, x_u1_s, x_u1_n, e1, e9, hat]
    refine x_istore_n dX12_oddsOf_10 (Nat.le_of_ble_eq_true rfl) rfl x_set_5_3 ?_
    refine x_aload_n dX12_oddsOf_11 x_get_5_0 ?_
    refine x_getR dX12_oddsOf_12 fX_12_75 n62 s62 (by rfl) ?_
    refine x_iload_n dX12_oddsOf_15 x_get_5_1 ?_
    refine x_bipush dX12_oddsOf_16 rfl ?_
    refine x_iadd dX12_oddsOf_18 ?_
    refine x_iload_n dX12_oddsOf_19 x_get_5_2 ?_
    refine x_iadd dX12_oddsOf_20 ?_
    refine x_iald dX12_oddsOf_21 n82 s82 (by omega) (by omega) (by decide) ?_
    try simp (disch := decide) only [x_up_s, x_up_n, x_up_up, x_u1_s, x_u1_n, e1, e9, hat]
    refine x_istore dX12_oddsOf_22 (Nat.le_of_ble_eq_true rfl) rfl x_set_5_4 ?_
    refine x_aload_n dX12_oddsOf_24 x_get_5_0 ?_
    refine x_getI 4 dX12_oddsOf_25 fX_12_9 rfl n62 s62 (by rfl) ?_
    try simp (disch := decide) only [x_up_s, x_up_n, x_up_up, x_u1_s, x_u1_n, e1, e9, hat]
    refine x_iconst dX12_oddsOf_28 ?_
    refine r_icmp_ne (t := 52) dX12_oddsOf_29 rfl ⟨by omega, by omega⟩ ⟨by omega, by omega⟩ (fun hc29 => absurd hc29 (by omega)) (fun hc29 => ?_)
    refine x_bipush dX12_oddsOf_32 rfl ?_
    refine x_iload_n dX12_oddsOf_34 x_get_5_3 ?_
    refine x_bipush dX12_oddsOf_35 rfl ?_
    refine x_idiv dX12_oddsOf_37 (by decide) ?_
    refine x_as_is (x_dv_nn (by omega) (by omega) (by decide) (by decide)) ?_
    refine x_iadd dX12_oddsOf_38 ?_
    refine x_iload dX12_oddsOf_39 x_get_5_4 ?_
    refine x_bipush dX12_oddsOf_41 rfl ?_
    refine x_idiv dX12_oddsOf_43 (by decide) ?_
    refine x_as_is (x_dv_nn (by omega) (by omega) (by decide) (by decide)) ?_
    refine x_isub dX12_oddsOf_44 ?_
    refine x_iconst dX12_oddsOf_45 ?_
    refine x_bipush dX12_oddsOf_46 rfl ?_
    refine x_callS (As := [_, _, _]) dX12_oddsOf_48 w_12_311 (m_kept hl (o_cl (6 + f (1 + t) / 10 - f (9 + t) / 10)) ⟨by omega, by omega⟩ ⟨by decide, by decide⟩ ⟨by decide, by decide⟩ (by decide) (by unfold o_cl; omega)) rfl rfl (Nat.le_of_ble_eq_true rfl) (Nat.le_of_ble_eq_true rfl) (Nat.le_of_ble_eq_true rfl) (Nat.le_of_ble_eq_true rfl) (Nat.le_of_ble_eq_true rfl) ?_
    intro dz hdz
    obtain rfl := Eq.symm hdz
    exact x_iret dX12_oddsOf_51 rfl (Nat.le_of_ble_eq_true rfl) (Nat.le_of_ble_eq_true rfl) rfl rfl rfl ⟨m_od_rf, hv84⟩ rfl
  · rw [o_odds, if_neg ht0]
    have hpp : pp < 1400 := Nat.lt_of_le_of_lt (cd_le (ss := ss) (p := pp) (i := 0) (Nat.zero_le n)) he.2.2.1
    have hlb := s_bits_10 (p := fun c => s_in f t c) hCb
    have hlp := s_pop_le _ hlb
    refine x_ofW (by decide +kernel) hl (by simp [Value.category]) (by simp) ?_
    refine x_aload_n dX12_oddsOf_0 x_get_5_0 ?_
    refine x_getR dX12_oddsOf_1 fX_12_75 n62 s62 (by rfl) ?_
    refine x_iload_n dX12_oddsOf_4 x_get_5_1 ?_
    refine x_iconst dX12_oddsOf_5 ?_
    refine x_iadd dX12_oddsOf_6 ?_
    refine x_iload_n dX12_oddsOf_7 x_get_5_2 ?_
    refine x_iadd dX12_oddsOf_8 ?_
    refine x_iald dX12_oddsOf_9 n82 s82 (by omega) (by omega) (by decide) ?_
    try simp (disch := decide) only [x_up_s, x_up_n, x_up_up, x_u1_s, x_u1_n, e1, e9, e0, hat, hm63, hm64]
    refine x_istore_n dX12_oddsOf_10 (Nat.le_of_ble_eq_true rfl) rfl x_set_5_3 ?_
    refine x_aload_n dX12_oddsOf_11 x_get_5_0 ?_
    refine x_getR dX12_oddsOf_12 fX_12_75 n62 s62 (by rfl) ?_
    refine x_iload_n dX12_oddsOf_15 x_get_5_1 ?_
    refine x_bipush dX12_oddsOf_16 rfl ?_
    refine x_iadd dX12_oddsOf_18 ?_
    refine x_iload_n dX12_oddsOf_19 x_get_5_2 ?_
    refine x_iadd dX12_oddsOf_20 ?_
    refine x_iald dX12_oddsOf_21 n82 s82 (by omega) (by omega) (by decide) ?_
    try simp (disch := decide) only [x_up_s, x_up_n, x_up_up, x_u1_s, x_u1_n, e1, e9, e0, hat, hm63, hm64]
    refine x_istore dX12_oddsOf_22 (Nat.le_of_ble_eq_true rfl) rfl x_set_5_4 ?_
    refine x_aload_n dX12_oddsOf_24 x_get_5_0 ?_
    refine x_getI 4 dX12_oddsOf_25 fX_12_9 rfl n62 s62 (by rfl) ?_
    try simp (disch := decide) only [x_up_s, x_up_n, x_up_up, x_u1_s, x_u1_n, e1, e9, e0, hat, hm63, hm64]
    refine x_iconst dX12_oddsOf_28 ?_
    refine r_icmp_ne (t := 52) dX12_oddsOf_29 rfl ⟨by omega, by omega⟩ ⟨by omega, by omega⟩ (fun hc29 => ?_) (fun hc29 => absurd hc29 (by omega))
    refine x_aload_n dX12_oddsOf_52 x_get_5_0 ?_
    refine x_getR dX12_oddsOf_53 fX_12_81 n62 s62 (by rfl) ?_
    refine x_iconst dX12_oddsOf_56 ?_
    refine x_iload_n dX12_oddsOf_57 x_get_5_3 ?_
    refine x_iast dX12_oddsOf_58 n84 s84 (by omega) (by omega) (by decide) ?_
    try simp (disch := decide) only [x_up_s, x_up_n, x_up_up, x_u1_s, x_u1_n, e1, e9, e0, hat, hm63, hm64]
    refine x_aload_n dX12_oddsOf_59 x_get_5_0 ?_
    refine x_getR dX12_oddsOf_60 fX_12_81 n62 s62 (by rfl) ?_
    refine x_iconst dX12_oddsOf_63 ?_
    refine x_iload dX12_oddsOf_64 x_get_5_4 ?_
    refine x_iast dX12_oddsOf_66 n84 s84 (by omega) (by omega) (by decide) ?_
    try simp (disch := decide) only [x_up_s, x_up_n, x_up_up, x_u1_s, x_u1_n, e1, e9, e0, hat, hm63, hm64]
    refine x_aload_n dX12_oddsOf_67 x_get_5_0 ?_
    refine x_getR dX12_oddsOf_68 fX_12_81 n62 s62 (by rfl) ?_
    refine x_iconst dX12_oddsOf_71 ?_
    refine x_aload_n dX12_oddsOf_72 x_get_5_0 ?_
    refine x_getR dX12_oddsOf_73 fX_12_17 n62 s62 (by rfl) ?_
    refine x_iload_n dX12_oddsOf_76 x_get_5_2 ?_
    refine x_iald dX12_oddsOf_77 n64 s64 (by omega) (by omega) (by decide) ?_
    try simp (disch := decide) only [x_up_s, x_up_n, x_up_up, x_u1_s, x_u1_n, e1, e9, e0, hat, hm63, hm64]
    refine x_iast dX12_oddsOf_78 n84 s84 (by omega) (by omega) (by decide) ?_
    try simp (disch := decide) only [x_up_s, x_up_n, x_up_up, x_u1_s, x_u1_n, e1, e9, e0, hat, hm63, hm64]
    refine x_aload_n dX12_oddsOf_79 x_get_5_0 ?_
    refine x_getR dX12_oddsOf_80 fX_12_81 n62 s62 (by rfl) ?_
    refine x_iconst dX12_oddsOf_83 ?_
    refine x_aload_n dX12_oddsOf_84 x_get_5_0 ?_
    refine x_getR dX12_oddsOf_85 fX_12_13 n62 s62 (by rfl) ?_
    refine x_iload_n dX12_oddsOf_88 x_get_5_2 ?_
    refine x_iald dX12_oddsOf_89 n63 s63 (by omega) (by omega) (by decide) ?_
    try simp (disch := decide) only [x_up_s, x_up_n, x_up_up, x_u1_s, x_u1_n, e1, e9, e0, hat, hm63, hm64]
    refine x_iast dX12_oddsOf_90 n84 s84 (by omega) (by omega) (by decide) ?_
    try simp (disch := decide) only [x_up_s, x_up_n, x_up_up, x_u1_s, x_u1_n, e1, e9, e0, hat, hm63, hm64]
    refine x_aload_n dX12_oddsOf_91 x_get_5_0 ?_
    refine x_getR dX12_oddsOf_92 fX_12_81 n62 s62 (by rfl) ?_
    refine x_iconst dX12_oddsOf_95 ?_
    refine x_aload_n dX12_oddsOf_96 x_get_5_0 ?_
    refine x_getR dX12_oddsOf_97 fX_12_75 n62 s62 (by rfl) ?_
    refine x_iload_n dX12_oddsOf_100 x_get_5_1 ?_
    refine x_iconst dX12_oddsOf_101 ?_
    refine x_iadd dX12_oddsOf_102 ?_
    refine x_iald dX12_oddsOf_103 n82 s82 (by omega) (by omega) (by decide) ?_
    try simp (disch := decide) only [x_up_s, x_up_n, x_up_up, x_u1_s, x_u1_n, e1, e9, e0, hat, hm63, hm64]
    refine x_iast dX12_oddsOf_104 n84 s84 (by omega) (by omega) (by decide) ?_
    try simp (disch := decide) only [x_up_s, x_up_n, x_up_up, x_u1_s, x_u1_n, e1, e9, e0, hat, hm63, hm64]
    refine x_aload_n dX12_oddsOf_105 x_get_5_0 ?_
    refine x_getR dX12_oddsOf_106 fX_12_81 n62 s62 (by rfl) ?_
    refine x_iconst dX12_oddsOf_109 ?_
    refine x_aload_n dX12_oddsOf_110 x_get_5_0 ?_
    refine x_iload_n dX12_oddsOf_111 x_get_5_1 ?_
    refine x_iload_n dX12_oddsOf_112 x_get_5_2 ?_
    refine x_callV (As := [_, _]) dX12_oddsOf_113 w_12_314 (m_lyingIn hl (mq_of hq (fun i _ _ => by rw [x_up_n (by decide)]) (fun j a b => x_up_n (by omega)) : mq N sh (x_up D 84 (x_u1 (x_u1 (x_u1 (x_u1 (x_u1 (D 84) 0 (f (1 + t))) 1 (f (9 + t))) 2 (G.2.1 t)) 3 (G.1 t)) 4 (f 0))) T C W G) hk hB hb (by rw [x_up_n (by decide)]; exact hr) h0 (by omega)) (by assumption) (by assumption) rfl rfl (Nat.le_of_ble_eq_true rfl) (Nat.le_of_ble_eq_true rfl) (Nat.le_of_ble_eq_true rfl) (Nat.le_of_ble_eq_true rfl) (Nat.le_of_ble_eq_true rfl) ?_
    intro dz hdz
    obtain rfl := Eq.symm hdz
    refine x_callS (As := [_]) dX12_oddsOf_116 w_12_317 (m_bits hl hlb) rfl rfl (Nat.le_of_ble_eq_true rfl) (Nat.le_of_ble_eq_true rfl) (Nat.le_of_ble_eq_true rfl) (Nat.le_of_ble_eq_true rfl) (Nat.le_of_ble_eq_true rfl) ?_
    intro dz hdz
    obtain rfl := Eq.symm hdz
    refine x_iast dX12_oddsOf_119 n84 s84 (by omega) (by omega) (by decide) ?_
    try simp (disch := decide) only [x_up_s, x_up_n, x_up_up, x_u1_s, x_u1_n, e1, e9, e0, hat, hm63, hm64]
    have htv : ∀ j, x_r ((x_u1 (x_u1 (x_u1 (x_u1 (x_u1 (x_u1 (D 84) 0 (f (1 + t))) 1 (f (9 + t))) 2 (G.2.1 t)) 3 (G.1 t)) 4 (f 0)) 5 ((s_pop (s_bits (fun c => s_in f t c) C) : Nat) : Int)) j) := x_u1_r (x_u1_r (x_u1_r (x_u1_r (x_u1_r (x_u1_r hv84 ⟨by omega, by omega⟩) ⟨by omega, by omega⟩) ⟨by omega, by omega⟩) ⟨by omega, by omega⟩) h00) ⟨by omega, by omega⟩
    have hrun : o_run ss (fun s => (x_u1 (x_u1 (x_u1 (x_u1 (x_u1 (x_u1 (D 84) 0 (f (1 + t))) 1 (f (9 + t))) 2 (G.2.1 t)) 3 (G.1 t)) 4 (f 0)) 5 ((s_pop (s_bits (fun c => s_in f t c) C) : Nat) : Int)) (-1 - s)) n = o_run ss (o_val G.1 G.2.1 f (if asks = 0 then 0 else ((s_pop (s_bits (fun c => s_in f t c) C) : Nat) : Int)) t) n := by
      refine o_run_cg (fun i hi a1 a2 => ?_) n (Nat.le_refl _)
      rw [m_told (mk := G.1) (sk := G.2.1) a1 a2]
      by_cases ha : asks = 0
      · have := has ha i hi
        rw [if_pos ha]
        unfold o_val
        rw [if_neg this, if_neg this]
      · rw [if_neg ha]
    refine x_aload_n dX12_oddsOf_120 x_get_5_0 ?_
    refine x_aload_n dX12_oddsOf_121 x_get_5_0 ?_
    refine x_getI 4 dX12_oddsOf_122 fX_12_9 rfl n62 s62 (by rfl) ?_
    try simp (disch := decide) only [x_up_s, x_up_n, x_up_up, x_u1_s, x_u1_n, e1, e9, e0, hat, hm63, hm64]
    refine x_callV (As := [_]) dX12_oddsOf_125 w_12_320 (m_reckons hl hM (D := x_up D 84 (x_u1 (x_u1 (x_u1 (x_u1 (x_u1 (x_u1 (D 84) 0 (f (1 + t))) 1 (f (9 + t))) 2 (G.2.1 t)) 3 (G.1 t)) 4 (f 0)) 5 ((s_pop (s_bits (fun c => s_in f t c) C) : Nat) : Int))) (by rw [x_up_n (by decide)]; exact he) hwf (by rw [x_up_s]; exact htv)) (by assumption) (by assumption) rfl rfl (Nat.le_of_ble_eq_true rfl) (Nat.le_of_ble_eq_true rfl) (Nat.le_of_ble_eq_true rfl) (Nat.le_of_ble_eq_true rfl) (Nat.le_of_ble_eq_true rfl) ?_
    rintro d ⟨w, hd⟩
    rw [x_up_s, hrun]
    have hrs : x_r ((o_run ss (o_val G.1 G.2.1 f (if asks = 0 then 0 else ((s_pop (s_bits (fun c => s_in f t c) C) : Nat) : Int)) t) n).headD 0) := by
      rw [← hrun]
      exact o_head_r (fun j a b => by obtain ⟨k, rfl⟩ := Int.eq_ofNat_of_zero_le a; exact he.2.2.2 k (by omega)) (fun s => htv _) n (Nat.le_refl _)
    refine x_iconst dX12_oddsOf_128 ?_
    refine x_bipush dX12_oddsOf_129 rfl ?_
    refine x_callS (As := [_, _, _]) dX12_oddsOf_131 w_12_311 (m_kept hl (o_cl ((o_run ss (o_val G.1 G.2.1 f (if asks = 0 then 0 else ((s_pop (s_bits (fun c => s_in f t c) C) : Nat) : Int)) t) n).headD 0)) hrs ⟨by decide, by decide⟩ ⟨by decide, by decide⟩ (by decide) (by unfold o_cl; omega)) rfl rfl (Nat.le_of_ble_eq_true rfl) (Nat.le_of_ble_eq_true rfl) (Nat.le_of_ble_eq_true rfl) (Nat.le_of_ble_eq_true rfl) (Nat.le_of_ble_eq_true rfl) ?_
    intro dz hdz
    obtain rfl := Eq.symm hdz
    exact x_iret dX12_oddsOf_134 rfl (Nat.le_of_ble_eq_true rfl) (Nat.le_of_ble_eq_true rfl) rfl rfl rfl ⟨⟨_, w, hd⟩, by rw [hd, x_up_n (by decide), x_up_s]; exact htv⟩ rfl
end M62
