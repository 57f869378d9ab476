section L8
/-! ===== the law's cases: acts and the rest ===== -/
theorem w_L_116 : x_cv RL 116 yX11_feed cX11_feed 6 (some .int) 11 5 := ⟨⟨_, rfl, rfl⟩, (x_in 411 (by decide +kernel) rfl), (x_in 412 (by decide +kernel) rfl), (x_in 413 (by decide +kernel) rfl), (x_in 80 (by decide +kernel) rfl), (x_in 414 (by decide +kernel) rfl), by decide, ⟨by decide +kernel, by decide +kernel, by decide +kernel⟩⟩
theorem w_L_120 : x_cv RL 120 yX12_feed cX12_feed 6 (some .int) 12 5 := ⟨⟨_, rfl, rfl⟩, (x_in 1537 (by decide +kernel) rfl), (x_in 1538 (by decide +kernel) rfl), (x_in 1539 (by decide +kernel) rfl), (x_in 90 (by decide +kernel) rfl), (x_in 1540 (by decide +kernel) rfl), by decide, ⟨by decide +kernel, by decide +kernel, by decide +kernel⟩⟩
theorem w_L_126 : x_cv RL 126 yX12_province cX12_province 3 (some .int) 12 1 := ⟨⟨_, rfl, rfl⟩, (x_in 1545 (by decide +kernel) rfl), (x_in 1546 (by decide +kernel) rfl), (x_in 1547 (by decide +kernel) rfl), (x_in 90 (by decide +kernel) rfl), (x_in 1548 (by decide +kernel) rfl), by decide, ⟨by decide +kernel, by decide +kernel, by decide +kernel⟩⟩
theorem w_L_131 : x_cv RL 131 yX11_fault cX11_fault 1 (some .int) 11 0 := ⟨⟨_, rfl, rfl⟩, (x_in 419 (by decide +kernel) rfl), (x_in 420 (by decide +kernel) rfl), (x_in 421 (by decide +kernel) rfl), (x_in 80 (by decide +kernel) rfl), (x_in 422 (by decide +kernel) rfl), by decide, ⟨by decide +kernel, by decide +kernel, by decide +kernel⟩⟩
theorem w_L_134 : x_cv RL 134 yX12_fault cX12_fault 1 (some .int) 12 0 := ⟨⟨_, rfl, rfl⟩, (x_in 1672 (by decide +kernel) rfl), (x_in 1673 (by decide +kernel) rfl), (x_in 1674 (by decide +kernel) rfl), (x_in 90 (by decide +kernel) rfl), (x_in 1675 (by decide +kernel) rfl), by decide, ⟨by decide +kernel, by decide +kernel, by decide +kernel⟩⟩
theorem w_L_145 : x_cv RL 145 yX11_days cX11_days 2 (some .int) 11 1 := ⟨⟨_, rfl, rfl⟩, (x_in 423 (by decide +kernel) rfl), (x_in 424 (by decide +kernel) rfl), (x_in 425 (by decide +kernel) rfl), (x_in 80 (by decide +kernel) rfl), (x_in 426 (by decide +kernel) rfl), by decide, ⟨by decide +kernel, by decide +kernel, by decide +kernel⟩⟩
theorem w_L_148 : x_cv RL 148 yX12_days cX12_days 3 (some .int) 12 1 := ⟨⟨_, rfl, rfl⟩, (x_in 1748 (by decide +kernel) rfl), (x_in 1749 (by decide +kernel) rfl), (x_in 1750 (by decide +kernel) rfl), (x_in 90 (by decide +kernel) rfl), (x_in 1751 (by decide +kernel) rfl), by decide, ⟨by decide +kernel, by decide +kernel, by decide +kernel⟩⟩
theorem w_L_151 : x_cv RL 151 yX12_send cX12_send 3 (some .int) 12 2 := ⟨⟨_, rfl, rfl⟩, (x_in 1779 (by decide +kernel) rfl), (x_in 1780 (by decide +kernel) rfl), (x_in 1781 (by decide +kernel) rfl), (x_in 90 (by decide +kernel) rfl), (x_in 1782 (by decide +kernel) rfl), by decide, ⟨by decide +kernel, by decide +kernel, by decide +kernel⟩⟩
theorem w_L_154 : x_cv RL 154 yX12_open cX12_open 3 (some .int) 12 1 := ⟨⟨_, rfl, rfl⟩, (x_in 1791 (by decide +kernel) rfl), (x_in 1792 (by decide +kernel) rfl), (x_in 1793 (by decide +kernel) rfl), (x_in 90 (by decide +kernel) rfl), (x_in 1794 (by decide +kernel) rfl), by decide, ⟨by decide +kernel, by decide +kernel, by decide +kernel⟩⟩
theorem w_L_158 : x_cv RL 158 yX12_cat cX12_cat 4 (some .boolean) 12 2 := ⟨⟨_, rfl, rfl⟩, (x_in 1799 (by decide +kernel) rfl), (x_in 1800 (by decide +kernel) rfl), (x_in 1801 (by decide +kernel) rfl), (x_in 90 (by decide +kernel) rfl), (x_in 1802 (by decide +kernel) rfl), by decide, ⟨by decide +kernel, by decide +kernel, by decide +kernel⟩⟩
theorem w_L_161 : x_cv RL 161 yX12_mix cX12_mix 6 (some .int) 12 2 := ⟨⟨_, rfl, rfl⟩, (x_in 1803 (by decide +kernel) rfl), (x_in 1804 (by decide +kernel) rfl), (x_in 1805 (by decide +kernel) rfl), (x_in 90 (by decide +kernel) rfl), (x_in 1806 (by decide +kernel) rfl), by decide, ⟨by decide +kernel, by decide +kernel, by decide +kernel⟩⟩
theorem w_L_162 : x_cv RL 162 yX11_undo cX11_undo 1 (some .int) 11 0 := ⟨⟨_, rfl, rfl⟩, (x_in 494 (by decide +kernel) rfl), (x_in 495 (by decide +kernel) rfl), (x_in 496 (by decide +kernel) rfl), (x_in 80 (by decide +kernel) rfl), (x_in 497 (by decide +kernel) rfl), by decide, ⟨by decide +kernel, by decide +kernel, by decide +kernel⟩⟩
theorem w_L_165 : x_cv RL 165 yX12_undo cX12_undo 2 (some .int) 12 0 := ⟨⟨_, rfl, rfl⟩, (x_in 1676 (by decide +kernel) rfl), (x_in 1677 (by decide +kernel) rfl), (x_in 1678 (by decide +kernel) rfl), (x_in 90 (by decide +kernel) rfl), (x_in 1679 (by decide +kernel) rfl), by decide, ⟨by decide +kernel, by decide +kernel, by decide +kernel⟩⟩
theorem w_L_200 : x_cv RL 200 yX12_see cX12_see 4 (some .int) 12 3 := ⟨⟨_, rfl, rfl⟩, (x_in 1910 (by decide +kernel) rfl), (x_in 1911 (by decide +kernel) rfl), (x_in 1912 (by decide +kernel) rfl), (x_in 90 (by decide +kernel) rfl), (x_in 1913 (by decide +kernel) rfl), by decide, ⟨by decide +kernel, by decide +kernel, by decide +kernel⟩⟩
theorem w_L_201 : x_cv RL 201 yX11_forget cX11_forget 1 (none) 11 0 := ⟨⟨_, rfl, rfl⟩, (x_in 563 (by decide +kernel) rfl), (x_in 564 (by decide +kernel) rfl), (x_in 565 (by decide +kernel) rfl), (x_in 80 (by decide +kernel) rfl), (x_in 566 (by decide +kernel) rfl), by decide, ⟨by decide +kernel, by decide +kernel, by decide +kernel⟩⟩
theorem w_L_204 : x_cv RL 204 yX12_forget cX12_forget 1 (none) 12 0 := ⟨⟨_, rfl, rfl⟩, (x_in 1914 (by decide +kernel) rfl), (x_in 1915 (by decide +kernel) rfl), (x_in 1916 (by decide +kernel) rfl), (x_in 90 (by decide +kernel) rfl), (x_in 1917 (by decide +kernel) rfl), by decide, ⟨by decide +kernel, by decide +kernel, by decide +kernel⟩⟩
theorem w_L_214 : x_cv RL 214 yX11_missed cX11_missed 5 (some .int) 11 0 := ⟨⟨_, rfl, rfl⟩, (x_in 502 (by decide +kernel) rfl), (x_in 503 (by decide +kernel) rfl), (x_in 504 (by decide +kernel) rfl), (x_in 80 (by decide +kernel) rfl), (x_in 505 (by decide +kernel) rfl), by decide, ⟨by decide +kernel, by decide +kernel, by decide +kernel⟩⟩
theorem w_L_217 : x_cv RL 217 yX12_missed cX12_missed 5 (some .int) 12 0 := ⟨⟨_, rfl, rfl⟩, (x_in 1942 (by decide +kernel) rfl), (x_in 1943 (by decide +kernel) rfl), (x_in 1944 (by decide +kernel) rfl), (x_in 90 (by decide +kernel) rfl), (x_in 1945 (by decide +kernel) rfl), by decide, ⟨by decide +kernel, by decide +kernel, by decide +kernel⟩⟩
theorem w_L_230 : x_cv RL 230 yX11_hub cX11_hub 1 (some .int) 11 0 := ⟨⟨_, rfl, rfl⟩, (x_in 553 (by decide +kernel) rfl), (x_in 554 (by decide +kernel) rfl), (x_in 555 (by decide +kernel) rfl), (x_in 80 (by decide +kernel) rfl), (x_in 556 (by decide +kernel) rfl), by decide, ⟨by decide +kernel, by decide +kernel, by decide +kernel⟩⟩
theorem w_L_233 : x_cv RL 233 yX12_hub cX12_hub 6 (some .int) 12 0 := ⟨⟨_, rfl, rfl⟩, (x_in 1875 (by decide +kernel) rfl), (x_in 1876 (by decide +kernel) rfl), (x_in 1877 (by decide +kernel) rfl), (x_in 90 (by decide +kernel) rfl), (x_in 1878 (by decide +kernel) rfl), by decide, ⟨by decide +kernel, by decide +kernel, by decide +kernel⟩⟩
theorem w_L_249 : x_cv RL 249 yX11_spoilt cX11_spoilt 3 (some .int) 11 0 := ⟨⟨_, rfl, rfl⟩, (x_in 544 (by decide +kernel) rfl), (x_in 545 (by decide +kernel) rfl), (x_in 546 (by decide +kernel) rfl), (x_in 80 (by decide +kernel) rfl), (x_in 547 (by decide +kernel) rfl), by decide, ⟨by decide +kernel, by decide +kernel, by decide +kernel⟩⟩
theorem w_L_252 : x_cv RL 252 yX12_spoilt cX12_spoilt 4 (some .int) 12 0 := ⟨⟨_, rfl, rfl⟩, (x_in 1883 (by decide +kernel) rfl), (x_in 1884 (by decide +kernel) rfl), (x_in 1885 (by decide +kernel) rfl), (x_in 90 (by decide +kernel) rfl), (x_in 1886 (by decide +kernel) rfl), by decide, ⟨by decide +kernel, by decide +kernel, by decide +kernel⟩⟩
theorem w_L_253 : x_cv RL 253 yX11_image cX11_image 1 (none) 11 0 := ⟨⟨_, rfl, rfl⟩, (x_in 571 (by decide +kernel) rfl), (x_in 572 (by decide +kernel) rfl), (x_in 573 (by decide +kernel) rfl), (x_in 80 (by decide +kernel) rfl), (x_in 574 (by decide +kernel) rfl), by decide, ⟨by decide +kernel, by decide +kernel, by decide +kernel⟩⟩
theorem w_L_256 : x_cv RL 256 yX12_image cX12_image 2 (none) 12 0 := ⟨⟨_, rfl, rfl⟩, (x_in 1987 (by decide +kernel) rfl), (x_in 1988 (by decide +kernel) rfl), (x_in 1989 (by decide +kernel) rfl), (x_in 90 (by decide +kernel) rfl), (x_in 1990 (by decide +kernel) rfl), by decide, ⟨by decide +kernel, by decide +kernel, by decide +kernel⟩⟩
theorem w_L_257 : x_cv RL 257 yX11_restore cX11_restore 1 (some .boolean) 11 0 := ⟨⟨_, rfl, rfl⟩, (x_in 584 (by decide +kernel) rfl), (x_in 585 (by decide +kernel) rfl), (x_in 586 (by decide +kernel) rfl), (x_in 80 (by decide +kernel) rfl), (x_in 587 (by decide +kernel) rfl), by decide, ⟨by decide +kernel, by decide +kernel, by decide +kernel⟩⟩
theorem w_L_261 : x_cv RL 261 yX12_restore cX12_restore 2 (some .boolean) 12 0 := ⟨⟨_, rfl, rfl⟩, (x_in 1991 (by decide +kernel) rfl), (x_in 1992 (by decide +kernel) rfl), (x_in 1993 (by decide +kernel) rfl), (x_in 90 (by decide +kernel) rfl), (x_in 1994 (by decide +kernel) rfl), by decide, ⟨by decide +kernel, by decide +kernel, by decide +kernel⟩⟩
theorem ws_L_149 : x_csh RL 149 yL_send cL_send 5 (some .int) [(0, 10, 13, 18)] 4 := ⟨(x_in 954 (by decide +kernel) rfl), (x_in 955 (by decide +kernel) rfl), (x_in 79 (by decide +kernel) rfl), (x_in 956 (by decide +kernel) rfl), by decide, ⟨by decide +kernel, by decide +kernel, by decide +kernel⟩⟩
theorem ws_L_152 : x_csh RL 152 yL_open cL_open 4 (some .int) [(0, 9, 12, 18)] 3 := ⟨(x_in 967 (by decide +kernel) rfl), (x_in 968 (by decide +kernel) rfl), (x_in 79 (by decide +kernel) rfl), (x_in 969 (by decide +kernel) rfl), by decide, ⟨by decide +kernel, by decide +kernel, by decide +kernel⟩⟩
theorem ws_L_159 : x_csh RL 159 yL_mix cL_mix 5 (some .int) [(0, 10, 13, 18)] 4 := ⟨(x_in 982 (by decide +kernel) rfl), (x_in 983 (by decide +kernel) rfl), (x_in 79 (by decide +kernel) rfl), (x_in 984 (by decide +kernel) rfl), by decide, ⟨by decide +kernel, by decide +kernel, by decide +kernel⟩⟩
theorem ws_L_198 : x_csh RL 198 yL_see cL_see 6 (some .int) [(0, 12, 15, 18)] 5 := ⟨(x_in 1138 (by decide +kernel) rfl), (x_in 1139 (by decide +kernel) rfl), (x_in 79 (by decide +kernel) rfl), (x_in 1140 (by decide +kernel) rfl), by decide, ⟨by decide +kernel, by decide +kernel, by decide +kernel⟩⟩
theorem ws_L_155 : x_csh RL 155 yL_cat cL_cat 5 (some .int) [(0, 17, 20, 18)] 4 := ⟨(x_in 974 (by decide +kernel) rfl), (x_in 975 (by decide +kernel) rfl), (x_in 79 (by decide +kernel) rfl), (x_in 976 (by decide +kernel) rfl), by decide, ⟨by decide +kernel, by decide +kernel, by decide +kernel⟩⟩
theorem ws_L_121 : x_csh RL 121 yL_province cL_province 4 (some .int) [(0, 9, 12, 13)] 3 := ⟨(x_in 588 (by decide +kernel) rfl), (x_in 589 (by decide +kernel) rfl), (x_in 79 (by decide +kernel) rfl), (x_in 590 (by decide +kernel) rfl), by decide, ⟨by decide +kernel, by decide +kernel, by decide +kernel⟩⟩
theorem u1_u1 {f : Int → Int} {i a b : Int} : x_u1 (x_u1 f i a) i b = x_u1 f i b := by
  funext j
  unfold x_u1
  split <;> rfl
set_option maxHeartbeats 2000000 in
theorem lc_send {X : xC} {l : Launch} {nm : String} {hh : List (Nat × Nat × Nat × Nat)} (hl : l.stackTraces = false) {sh : xS} {D : xM} {la lb T C W : Nat} {G : Ldt} {L : List (Int → Int)} {S : List (Int × Int × Int)} (h : jq sh D la lb T C W G L S) {i : Int} {k n : Nat} (hi0 : 0 ≤ i) (hi : i + 6 ≤ xsl X) (hs : xsl X ≤ 3072) (hk : k + 1 ≤ 601024) (hn : n + 6 ≤ 7293034) (hK : Kn X l nm hh i (k + 1) (n + 6)) : x_W (zL X l nm hh) 579 [some (.ref (xsc X)), some (.ref (x_b X + 0)), some (.ref (x_b X + 62)), some (.ref (x_b X + 96)), some (.int (xI i)), none, none] [] k n false 97 sh D := by
  have hll := jq_ll h
  have hq := h.1
  have s0 := h.1.1.2.1
  have hMd := h.2.1.1
  have s62 := md_62 hMd
  have so := h.2.2.1
  have hrow : k_row T C (D 34) := h.1.2.2.2.1
  obtain ⟨hsk, hsB⟩ := row_B hrow
  have hT : T ≤ 8 := h.2.1.2.2.1
  have hC : C ≤ 10 := h.2.1.2.2.2.2.2.2.1
  have hA := h.2.2.2.2.2.1.1
  have hL := h.2.2.2.2.2.1.2.2
  have hS := h.2.2.2.2.2.2.1.1
  have hlw := h.2.2.2.2.2.2.2.2.1
  have hws := h.2.2.2.2.2.2.2.2.2.2.2.1
  by_cases hv : (0 ≤ (xsv X (i + 1)) ∧ (xsv X (i + 1)) < C) ∧ (0 ≤ (xsv X (i + 2)) ∧ (xsv X (i + 2)) < W)
  · by_cases hok : s_lies (D 34) (xsv X (i + 1)) ∧ ¬ e_oth (D (la + 3 + 1)) (D (la + 3 + 2)) (xsv X (i + 2)) (D 34 (55 + (xsv X (i + 1)))) = -1
    · skip
      have hc := c11_send (X := X) (l := l) hl hq hA (c := (xsv X (i + 1))) (w := (xsv X (i + 2))) hv.1.1 hv.1.2 hv.2.1 hv.2.2 hok.1 hok.2
      have hw := wr_send hl (by decide) s0 so (Or.inl ⟨_, rfl⟩) hc
      refine x_aload_n dL_law_579 x_get_7_1 ?_
      refine x_aload_n dL_law_580 x_get_7_0 ?_
      refine x_iload dL_law_581 x_get_7_4 ?_
      refine x_iconst dL_law_583 ?_
      refine x_iadd dL_law_584 ?_
      refine x_slz dL_law_585 (by omega) (by omega) hs ?_
      refine x_aload_n dL_law_586 x_get_7_0 ?_
      refine x_iload dL_law_587 x_get_7_4 ?_
      refine x_iconst dL_law_589 ?_
      refine x_iadd dL_law_590 ?_
      refine x_slz dL_law_591 (by omega) (by omega) hs ?_
      refine x_aload_n dL_law_592 x_get_7_3 ?_
      refine x_callSH (As := [_, _, _, _]) dL_law_593 ws_L_149 hw rfl rfl (Nat.le_of_ble_eq_true rfl) (Nat.le_of_ble_eq_true rfl) (Nat.le_of_ble_eq_true rfl) hk hn ?_
      rintro _ ⟨d1, ⟨h34, hA1, hac⟩, rfl⟩
      obtain ⟨m1, m2, m3, m4, m5, m6, m7, m8, m9⟩ := jq_out (d1 := d1) (q := o_i (e_oth (D (la + 3 + 1)) (D (la + 3 + 2)) (xsv X (i + 2)) (D 34 (55 + (xsv X (i + 1)))))) h (fun j a => hac.1 j (by omega) (by omega) (by omega) (by omega))
      have hm := m_send (X := X) (l := l) hl m1 hsk hsB m2 m3 m4 m6 (c := (xsv X (i + 1))) (w := (xsv X (i + 2))) hv.1.1 hv.1.2 hv.2.1 hv.2.2 hok.1 hok.2
      rw [← m_r_i] at hm
      refine x_istore dL_law_596 (Nat.le_of_ble_eq_true rfl) rfl x_set_7_5 ?_
      refine x_aload_n dL_law_598 x_get_7_2 ?_
      refine x_aload_n dL_law_599 x_get_7_0 ?_
      refine x_iload dL_law_600 x_get_7_4 ?_
      refine x_iconst dL_law_602 ?_
      refine x_iadd dL_law_603 ?_
      refine x_slz dL_law_604 (by omega) (by omega) hs ?_
      refine x_aload_n dL_law_605 x_get_7_0 ?_
      refine x_iload dL_law_606 x_get_7_4 ?_
      refine x_iconst dL_law_608 ?_
      refine x_iadd dL_law_609 ?_
      refine x_slz dL_law_610 (by omega) (by omega) hs ?_
      refine x_callV (As := [_, _]) dL_law_611 w_L_151 hm (by decide) s62 rfl rfl (Nat.le_of_ble_eq_true rfl) (Nat.le_of_ble_eq_true rfl) (Nat.le_of_ble_eq_true rfl) (show _ + 0 ≤ 601024 from hk) (show _ + 0 ≤ 7293034 from hn) ?_
      rintro d3 ⟨ham, hmr, hmA⟩
      exact q_tail hl (jq_did h h34 hA1 hac ham hmr hmA (row_send hrow hT hC hv.1.1 hv.1.2 (eo_in hws.2.1 hv.2.1 hv.2.2 hok.2) (hws.1.2.2.2.1 _) (hws.1.2.2.2.2 _)) (row_keep hL hrow)) (Or.inl ⟨_, rfl⟩) (Or.inl rfl) ham.2.2.1 (fun z hz => by rw [ham.1 96 (by decide) (by decide) (by decide) (by decide) (by decide), hz]; exact outw_96) hk hn hK dL_law_614 dL_law_616 dL_law_617 dL_law_620 dL_law_622 dL_law_627 dL_law_629 dL_law_632 dL_law_633 dL_law_634 dL_law_635 dL_law_637 dL_law_638 dL_law_639 dL_law_644 (by decide)
    · skip
      have hc := c11_sendR (X := X) (l := l) hl hq (c := (xsv X (i + 1))) (w := (xsv X (i + 2))) hv.1.1 hv.1.2 hv.2.1 hv.2.2 hok
      have hw := wr_send hl (by decide) s0 so (Or.inl ⟨_, rfl⟩) hc
      refine x_aload_n dL_law_579 x_get_7_1 ?_
      refine x_aload_n dL_law_580 x_get_7_0 ?_
      refine x_iload dL_law_581 x_get_7_4 ?_
      refine x_iconst dL_law_583 ?_
      refine x_iadd dL_law_584 ?_
      refine x_slz dL_law_585 (by omega) (by omega) hs ?_
      refine x_aload_n dL_law_586 x_get_7_0 ?_
      refine x_iload dL_law_587 x_get_7_4 ?_
      refine x_iconst dL_law_589 ?_
      refine x_iadd dL_law_590 ?_
      refine x_slz dL_law_591 (by omega) (by omega) hs ?_
      refine x_aload_n dL_law_592 x_get_7_3 ?_
      refine x_callSH (As := [_, _, _, _]) dL_law_593 ws_L_149 hw rfl rfl (Nat.le_of_ble_eq_true rfl) (Nat.le_of_ble_eq_true rfl) (Nat.le_of_ble_eq_true rfl) hk hn ?_
      rintro _ ⟨d1, hd1, rfl⟩
      obtain ⟨m1, m2, m3, m4, m5, m6, m7, m8, m9⟩ := jq_out (d1 := d1) (q := o_i (-1)) h (fun j a => by rw [hd1]; exact x_up_n (by omega))
      have hm := m_sendR (X := X) (l := l) hl m1 hsk hsB m2 m3 m6 (c := (xsv X (i + 1))) (w := (xsv X (i + 2))) hv.1.1 hv.1.2 hv.2.1 hv.2.2 hok
      rw [← m_r_i] at hm
      refine x_istore dL_law_596 (Nat.le_of_ble_eq_true rfl) rfl x_set_7_5 ?_
      refine x_aload_n dL_law_598 x_get_7_2 ?_
      refine x_aload_n dL_law_599 x_get_7_0 ?_
      refine x_iload dL_law_600 x_get_7_4 ?_
      refine x_iconst dL_law_602 ?_
      refine x_iadd dL_law_603 ?_
      refine x_slz dL_law_604 (by omega) (by omega) hs ?_
      refine x_aload_n dL_law_605 x_get_7_0 ?_
      refine x_iload dL_law_606 x_get_7_4 ?_
      refine x_iconst dL_law_608 ?_
      refine x_iadd dL_law_609 ?_
      refine x_slz dL_law_610 (by omega) (by omega) hs ?_
      refine x_callV (As := [_, _]) dL_law_611 w_L_151 hm (by decide) s62 rfl rfl (Nat.le_of_ble_eq_true rfl) (Nat.le_of_ble_eq_true rfl) (Nat.le_of_ble_eq_true rfl) (show _ + 0 ≤ 601024 from hk) (show _ + 0 ≤ 7293034 from hn) ?_
      intro d3 hd3
      exact q_tail hl (jq_not (q := o_i (-1)) (k := 1) h (by rw [hd3, hd1]) (Or.inl rfl)) (Or.inl ⟨_, rfl⟩) (Or.inl rfl) (by rw [hd3]; exact m_rf_0) (fun z hz => by rw [hd3, m_rf_96, hz]; exact outw_96) hk hn hK dL_law_614 dL_law_616 dL_law_617 dL_law_620 dL_law_622 dL_law_627 dL_law_629 dL_law_632 dL_law_633 dL_law_634 dL_law_635 dL_law_637 dL_law_638 dL_law_639 dL_law_644 (by decide)
  · skip
    have hc := c11_sendT (X := X) (l := l) hl hq (c := (xsv X (i + 1))) (w := (xsv X (i + 2))) xsv_r xsv_r hv
    have hw := wr_send hl (by decide) s0 so (Or.inr rfl) hc
    refine x_aload_n dL_law_579 x_get_7_1 ?_
    refine x_aload_n dL_law_580 x_get_7_0 ?_
    refine x_iload dL_law_581 x_get_7_4 ?_
    refine x_iconst dL_law_583 ?_
    refine x_iadd dL_law_584 ?_
    refine x_slz dL_law_585 (by omega) (by omega) hs ?_
    refine x_aload_n dL_law_586 x_get_7_0 ?_
    refine x_iload dL_law_587 x_get_7_4 ?_
    refine x_iconst dL_law_589 ?_
    refine x_iadd dL_law_590 ?_
    refine x_slz dL_law_591 (by omega) (by omega) hs ?_
    refine x_aload_n dL_law_592 x_get_7_3 ?_
    refine x_callSH (As := [_, _, _, _]) dL_law_593 ws_L_149 hw rfl rfl (Nat.le_of_ble_eq_true rfl) (Nat.le_of_ble_eq_true rfl) (Nat.le_of_ble_eq_true rfl) hk hn ?_
    rintro _ ⟨d1, hd1, rfl⟩
    obtain ⟨m1, m2, m3, m4, m5, m6, m7, m8, m9⟩ := jq_out (q := .inr x_NSE) h (sc_62 (by omega) hd1)
    have hm := m_sendT (X := X) (l := l) hl m1 hsk hsB m2 m3 (c := (xsv X (i + 1))) (w := (xsv X (i + 2))) xsv_r xsv_r hv
    rw [← m_r_N] at hm
    refine x_istore dL_law_596 (Nat.le_of_ble_eq_true rfl) rfl x_set_7_5 ?_
    refine x_aload_n dL_law_598 x_get_7_2 ?_
    refine x_aload_n dL_law_599 x_get_7_0 ?_
    refine x_iload dL_law_600 x_get_7_4 ?_
    refine x_iconst dL_law_602 ?_
    refine x_iadd dL_law_603 ?_
    refine x_slz dL_law_604 (by omega) (by omega) hs ?_
    refine x_aload_n dL_law_605 x_get_7_0 ?_
    refine x_iload dL_law_606 x_get_7_4 ?_
    refine x_iconst dL_law_608 ?_
    refine x_iadd dL_law_609 ?_
    refine x_slz dL_law_610 (by omega) (by omega) hs ?_
    refine x_callV (As := [_, _]) dL_law_611 w_L_151 hm (by decide) s62 rfl rfl (Nat.le_of_ble_eq_true rfl) (Nat.le_of_ble_eq_true rfl) (Nat.le_of_ble_eq_true rfl) (show _ + 0 ≤ 601024 from hk) (show _ + 0 ≤ 7293034 from hn) ?_
    rintro d3 ⟨hms, h0⟩
    exact q_tail hl (jq_ask h hd1 hms) (Or.inr (Or.inl rfl)) (Or.inl rfl) (h0.trans (m_k_N 1).symm) (fun z hz => (o_i_t hz).elim) hk hn hK dL_law_614 dL_law_616 dL_law_617 dL_law_620 dL_law_622 dL_law_627 dL_law_629 dL_law_632 dL_law_633 dL_law_634 dL_law_635 dL_law_637 dL_law_638 dL_law_639 dL_law_644 (by decide)
set_option maxHeartbeats 2000000 in
theorem lc_open {X : xC} {l : Launch} {nm : String} {hh : List (Nat × Nat × Nat × Nat)} (hl : l.stackTraces = false) {sh : xS} {D : xM} {la lb T C W : Nat} {G : Ldt} {L : List (Int → Int)} {S : List (Int × Int × Int)} (h : jq sh D la lb T C W G L S) {i : Int} {k n : Nat} (hi0 : 0 ≤ i) (hi : i + 6 ≤ xsl X) (hs : xsl X ≤ 3072) (hk : k + 1 ≤ 601024) (hn : n + 6 ≤ 7293034) (hK : Kn X l nm hh i (k + 1) (n + 6)) : x_W (zL X l nm hh) 647 [some (.ref (xsc X)), some (.ref (x_b X + 0)), some (.ref (x_b X + 62)), some (.ref (x_b X + 96)), some (.int (xI i)), none, none] [] k n false 97 sh D := by
  have hll := jq_ll h
  have hq := h.1
  have s0 := h.1.1.2.1
  have hMd := h.2.1.1
  have s62 := md_62 hMd
  have so := h.2.2.1
  have hrow : k_row T C (D 34) := h.1.2.2.2.1
  obtain ⟨hsk, hsB⟩ := row_B hrow
  have hT : T ≤ 8 := h.2.1.2.2.1
  have hC : C ≤ 10 := h.2.1.2.2.2.2.2.2.1
  have hA := h.2.2.2.2.2.1.1
  have hL := h.2.2.2.2.2.1.2.2
  have hS := h.2.2.2.2.2.2.1.1
  have hlw := h.2.2.2.2.2.2.2.2.1
  have hws := h.2.2.2.2.2.2.2.2.2.2.2.1
  by_cases hv : 0 ≤ (xsv X (i + 1)) ∧ (xsv X (i + 1)) < C
  · by_cases hok : s_lies (D 34) (xsv X (i + 1))
    · skip
      have hc := c11_open (X := X) (l := l) hl hq hA (c := (xsv X (i + 1))) hv.1 hv.2 hok
      have hw := wr_open hl (by decide) s0 so (Or.inl ⟨_, rfl⟩) hc
      refine x_aload_n dL_law_647 x_get_7_1 ?_
      refine x_aload_n dL_law_648 x_get_7_0 ?_
      refine x_iload dL_law_649 x_get_7_4 ?_
      refine x_iconst dL_law_651 ?_
      refine x_iadd dL_law_652 ?_
      refine x_slz dL_law_653 (by omega) (by omega) hs ?_
      refine x_aload_n dL_law_654 x_get_7_3 ?_
      refine x_callSH (As := [_, _, _]) dL_law_655 ws_L_152 hw rfl rfl (Nat.le_of_ble_eq_true rfl) (Nat.le_of_ble_eq_true rfl) (Nat.le_of_ble_eq_true rfl) hk hn ?_
      rintro _ ⟨d1, ⟨h34, hA1, hac⟩, rfl⟩
      obtain ⟨m1, m2, m3, m4, m5, m6, m7, m8, m9⟩ := jq_out (d1 := d1) (q := o_i (D 34 (25 + (xsv X (i + 1))))) h (fun j a => hac.1 j (by omega) (by omega) (by omega) (by omega))
      have hm := m_open (X := X) (l := l) hl m1 hsk hsB m2 m3 m4  (c := (xsv X (i + 1))) hv.1 hv.2 (pl_row hrow) hok
      rw [← m_r_i] at hm
      refine x_istore dL_law_658 (Nat.le_of_ble_eq_true rfl) rfl x_set_7_5 ?_
      refine x_aload_n dL_law_660 x_get_7_2 ?_
      refine x_aload_n dL_law_661 x_get_7_0 ?_
      refine x_iload dL_law_662 x_get_7_4 ?_
      refine x_iconst dL_law_664 ?_
      refine x_iadd dL_law_665 ?_
      refine x_slz dL_law_666 (by omega) (by omega) hs ?_
      refine x_callV (As := [_]) dL_law_667 w_L_154 hm (by decide) s62 rfl rfl (Nat.le_of_ble_eq_true rfl) (Nat.le_of_ble_eq_true rfl) (Nat.le_of_ble_eq_true rfl) (show _ + 0 ≤ 601024 from hk) (show _ + 0 ≤ 7293034 from hn) ?_
      rintro d3 ⟨ham, hmr, hmA⟩
      exact q_tail hl (jq_did h h34 hA1 hac ham hmr hmA (row_opn hrow hT hC hv.1 hv.2 hok.1) (row_keep hL hrow)) (Or.inl ⟨_, rfl⟩) (Or.inl rfl) ham.2.2.1 (fun z hz => by rw [ham.1 96 (by decide) (by decide) (by decide) (by decide) (by decide), hz]; exact outw_96) hk hn hK dL_law_670 dL_law_672 dL_law_673 dL_law_676 dL_law_678 dL_law_683 dL_law_685 dL_law_688 dL_law_689 dL_law_690 dL_law_691 dL_law_693 dL_law_694 dL_law_695 dL_law_700 (by decide)
    · skip
      have hc := c11_openR (X := X) (l := l) hl hq (c := (xsv X (i + 1))) hv.1 hv.2 hok
      have hw := wr_open hl (by decide) s0 so (Or.inl ⟨_, rfl⟩) hc
      refine x_aload_n dL_law_647 x_get_7_1 ?_
      refine x_aload_n dL_law_648 x_get_7_0 ?_
      refine x_iload dL_law_649 x_get_7_4 ?_
      refine x_iconst dL_law_651 ?_
      refine x_iadd dL_law_652 ?_
      refine x_slz dL_law_653 (by omega) (by omega) hs ?_
      refine x_aload_n dL_law_654 x_get_7_3 ?_
      refine x_callSH (As := [_, _, _]) dL_law_655 ws_L_152 hw rfl rfl (Nat.le_of_ble_eq_true rfl) (Nat.le_of_ble_eq_true rfl) (Nat.le_of_ble_eq_true rfl) hk hn ?_
      rintro _ ⟨d1, hd1, rfl⟩
      obtain ⟨m1, m2, m3, m4, m5, m6, m7, m8, m9⟩ := jq_out (d1 := d1) (q := o_i (-1)) h (fun j a => by rw [hd1]; exact x_up_n (by omega))
      have hm := m_openR (X := X) (l := l) hl m1 hsk hsB m2 m3  (c := (xsv X (i + 1))) hv.1 hv.2 hok
      rw [← m_r_i] at hm
      refine x_istore dL_law_658 (Nat.le_of_ble_eq_true rfl) rfl x_set_7_5 ?_
      refine x_aload_n dL_law_660 x_get_7_2 ?_
      refine x_aload_n dL_law_661 x_get_7_0 ?_
      refine x_iload dL_law_662 x_get_7_4 ?_
      refine x_iconst dL_law_664 ?_
      refine x_iadd dL_law_665 ?_
      refine x_slz dL_law_666 (by omega) (by omega) hs ?_
      refine x_callV (As := [_]) dL_law_667 w_L_154 hm (by decide) s62 rfl rfl (Nat.le_of_ble_eq_true rfl) (Nat.le_of_ble_eq_true rfl) (Nat.le_of_ble_eq_true rfl) (show _ + 0 ≤ 601024 from hk) (show _ + 0 ≤ 7293034 from hn) ?_
      intro d3 hd3
      exact q_tail hl (jq_not (q := o_i (-1)) (k := 1) h (by rw [hd3, hd1]) (Or.inl rfl)) (Or.inl ⟨_, rfl⟩) (Or.inl rfl) (by rw [hd3]; exact m_rf_0) (fun z hz => by rw [hd3, m_rf_96, hz]; exact outw_96) hk hn hK dL_law_670 dL_law_672 dL_law_673 dL_law_676 dL_law_678 dL_law_683 dL_law_685 dL_law_688 dL_law_689 dL_law_690 dL_law_691 dL_law_693 dL_law_694 dL_law_695 dL_law_700 (by decide)
  · skip
    have hc := c11_openT (X := X) (l := l) hl hq (c := (xsv X (i + 1))) xsv_r hv
    have hw := wr_open hl (by decide) s0 so (Or.inr rfl) hc
    refine x_aload_n dL_law_647 x_get_7_1 ?_
    refine x_aload_n dL_law_648 x_get_7_0 ?_
    refine x_iload dL_law_649 x_get_7_4 ?_
    refine x_iconst dL_law_651 ?_
    refine x_iadd dL_law_652 ?_
    refine x_slz dL_law_653 (by omega) (by omega) hs ?_
    refine x_aload_n dL_law_654 x_get_7_3 ?_
    refine x_callSH (As := [_, _, _]) dL_law_655 ws_L_152 hw rfl rfl (Nat.le_of_ble_eq_true rfl) (Nat.le_of_ble_eq_true rfl) (Nat.le_of_ble_eq_true rfl) hk hn ?_
    rintro _ ⟨d1, hd1, rfl⟩
    obtain ⟨m1, m2, m3, m4, m5, m6, m7, m8, m9⟩ := jq_out (q := .inr x_NSE) h (sc_62 (by omega) hd1)
    have hm := m_openT (X := X) (l := l) hl m1 hsk hsB m2 m3 (c := (xsv X (i + 1))) xsv_r hv
    rw [← m_r_N] at hm
    refine x_istore dL_law_658 (Nat.le_of_ble_eq_true rfl) rfl x_set_7_5 ?_
    refine x_aload_n dL_law_660 x_get_7_2 ?_
    refine x_aload_n dL_law_661 x_get_7_0 ?_
    refine x_iload dL_law_662 x_get_7_4 ?_
    refine x_iconst dL_law_664 ?_
    refine x_iadd dL_law_665 ?_
    refine x_slz dL_law_666 (by omega) (by omega) hs ?_
    refine x_callV (As := [_]) dL_law_667 w_L_154 hm (by decide) s62 rfl rfl (Nat.le_of_ble_eq_true rfl) (Nat.le_of_ble_eq_true rfl) (Nat.le_of_ble_eq_true rfl) (show _ + 0 ≤ 601024 from hk) (show _ + 0 ≤ 7293034 from hn) ?_
    rintro d3 ⟨hms, h0⟩
    exact q_tail hl (jq_ask h hd1 hms) (Or.inr (Or.inl rfl)) (Or.inl rfl) (h0.trans (m_k_N 1).symm) (fun z hz => (o_i_t hz).elim) hk hn hK dL_law_670 dL_law_672 dL_law_673 dL_law_676 dL_law_678 dL_law_683 dL_law_685 dL_law_688 dL_law_689 dL_law_690 dL_law_691 dL_law_693 dL_law_694 dL_law_695 dL_law_700 (by decide)
set_option maxHeartbeats 2000000 in
theorem lc_mix {X : xC} {l : Launch} {nm : String} {hh : List (Nat × Nat × Nat × Nat)} (hl : l.stackTraces = false) {sh : xS} {D : xM} {la lb T C W : Nat} {G : Ldt} {L : List (Int → Int)} {S : List (Int × Int × Int)} (h : jq sh D la lb T C W G L S) {i : Int} {k n : Nat} (hi0 : 0 ≤ i) (hi : i + 6 ≤ xsl X) (hs : xsl X ≤ 3072) (hk : k + 1 ≤ 601024) (hn : n + 6 ≤ 7293034) (hK : Kn X l nm hh i (k + 1) (n + 6)) : x_W (zL X l nm hh) 794 [some (.ref (xsc X)), some (.ref (x_b X + 0)), some (.ref (x_b X + 62)), some (.ref (x_b X + 96)), some (.int (xI i)), none, none] [] k n false 97 sh D := by
  have hll := jq_ll h
  have hq := h.1
  have s0 := h.1.1.2.1
  have hMd := h.2.1.1
  have s62 := md_62 hMd
  have so := h.2.2.1
  have hrow : k_row T C (D 34) := h.1.2.2.2.1
  obtain ⟨hsk, hsB⟩ := row_B hrow
  have hT : T ≤ 8 := h.2.1.2.2.1
  have hC : C ≤ 10 := h.2.1.2.2.2.2.2.2.1
  have hA := h.2.2.2.2.2.1.1
  have hL := h.2.2.2.2.2.1.2.2
  have hS := h.2.2.2.2.2.2.1.1
  have hlw := h.2.2.2.2.2.2.2.2.1
  have hws := h.2.2.2.2.2.2.2.2.2.2.2.1
  by_cases hv : (0 ≤ (xsv X (i + 1)) ∧ (xsv X (i + 1)) < C) ∧ (0 ≤ (xsv X (i + 2)) ∧ (xsv X (i + 2)) < C)
  · by_cases hok : ¬ (xsv X (i + 1)) = (xsv X (i + 2)) ∧ s_lies (D 34) (xsv X (i + 1)) ∧ s_lies (D 34) (xsv X (i + 2)) ∧ D 34 (55 + (xsv X (i + 1))) = D 34 (55 + (xsv X (i + 2)))
    · skip
      have hc := c11_mix (X := X) (l := l) hl hq hA (c := (xsv X (i + 1))) (e := (xsv X (i + 2))) hv.1.1 hv.1.2 hv.2.1 hv.2.2 hok.1 hok.2.1 hok.2.2.1 hok.2.2.2
      have hw := wr_mix hl (by decide) s0 so (Or.inl ⟨_, rfl⟩) hc
      refine x_aload_n dL_law_794 x_get_7_1 ?_
      refine x_aload_n dL_law_795 x_get_7_0 ?_
      refine x_iload dL_law_796 x_get_7_4 ?_
      refine x_iconst dL_law_798 ?_
      refine x_iadd dL_law_799 ?_
      refine x_slz dL_law_800 (by omega) (by omega) hs ?_
      refine x_aload_n dL_law_801 x_get_7_0 ?_
      refine x_iload dL_law_802 x_get_7_4 ?_
      refine x_iconst dL_law_804 ?_
      refine x_iadd dL_law_805 ?_
      refine x_slz dL_law_806 (by omega) (by omega) hs ?_
      refine x_aload_n dL_law_807 x_get_7_3 ?_
      refine x_callSH (As := [_, _, _, _]) dL_law_808 ws_L_159 hw rfl rfl (Nat.le_of_ble_eq_true rfl) (Nat.le_of_ble_eq_true rfl) (Nat.le_of_ble_eq_true rfl) hk hn ?_
      rintro _ ⟨d1, ⟨h34, hA1, hac⟩, rfl⟩
      obtain ⟨m1, m2, m3, m4, m5, m6, m7, m8, m9⟩ := jq_out (d1 := d1) (q := o_i (s_pour (D 34) (xsv X (i + 1)) (xsv X (i + 2)) (25 + (xsv X (i + 1))))) h (fun j a => hac.1 j (by omega) (by omega) (by omega) (by omega))
      have hm := m_mix (X := X) (l := l) hl m1 hsk hsB m2 m3 m4  (c := (xsv X (i + 1))) (e := (xsv X (i + 2))) hv.1.1 hv.1.2 hv.2.1 hv.2.2 hok.1 hok.2.1 hok.2.2.1 hok.2.2.2
      rw [← m_r_i] at hm
      refine x_istore dL_law_811 (Nat.le_of_ble_eq_true rfl) rfl x_set_7_5 ?_
      refine x_aload_n dL_law_813 x_get_7_2 ?_
      refine x_aload_n dL_law_814 x_get_7_0 ?_
      refine x_iload dL_law_815 x_get_7_4 ?_
      refine x_iconst dL_law_817 ?_
      refine x_iadd dL_law_818 ?_
      refine x_slz dL_law_819 (by omega) (by omega) hs ?_
      refine x_aload_n dL_law_820 x_get_7_0 ?_
      refine x_iload dL_law_821 x_get_7_4 ?_
      refine x_iconst dL_law_823 ?_
      refine x_iadd dL_law_824 ?_
      refine x_slz dL_law_825 (by omega) (by omega) hs ?_
      refine x_callV (As := [_, _]) dL_law_826 w_L_161 hm (by decide) s62 rfl rfl (Nat.le_of_ble_eq_true rfl) (Nat.le_of_ble_eq_true rfl) (Nat.le_of_ble_eq_true rfl) (show _ + 0 ≤ 601024 from hk) (show _ + 0 ≤ 7293034 from hn) ?_
      rintro d3 ⟨ham, hmr, hmA⟩
      exact q_tail hl (jq_did h h34 hA1 hac ham hmr hmA (row_pour hrow hC hv.1.1 hv.1.2 hv.2.1 hv.2.2) (row_keep hL hrow)) (Or.inl ⟨_, rfl⟩) (Or.inl rfl) ham.2.2.1 (fun z hz => by rw [ham.1 96 (by decide) (by decide) (by decide) (by decide) (by decide), hz]; exact outw_96) hk hn hK dL_law_829 dL_law_831 dL_law_832 dL_law_835 dL_law_837 dL_law_842 dL_law_844 dL_law_847 dL_law_848 dL_law_849 dL_law_850 dL_law_852 dL_law_853 dL_law_854 dL_law_859 (by decide)
    · skip
      have hc := c11_mixR (X := X) (l := l) hl hq (c := (xsv X (i + 1))) (e := (xsv X (i + 2))) hv.1.1 hv.1.2 hv.2.1 hv.2.2 hok
      have hw := wr_mix hl (by decide) s0 so (Or.inl ⟨_, rfl⟩) hc
      refine x_aload_n dL_law_794 x_get_7_1 ?_
      refine x_aload_n dL_law_795 x_get_7_0 ?_
      refine x_iload dL_law_796 x_get_7_4 ?_
      refine x_iconst dL_law_798 ?_
      refine x_iadd dL_law_799 ?_
      refine x_slz dL_law_800 (by omega) (by omega) hs ?_
      refine x_aload_n dL_law_801 x_get_7_0 ?_
      refine x_iload dL_law_802 x_get_7_4 ?_
      refine x_iconst dL_law_804 ?_
      refine x_iadd dL_law_805 ?_
      refine x_slz dL_law_806 (by omega) (by omega) hs ?_
      refine x_aload_n dL_law_807 x_get_7_3 ?_
      refine x_callSH (As := [_, _, _, _]) dL_law_808 ws_L_159 hw rfl rfl (Nat.le_of_ble_eq_true rfl) (Nat.le_of_ble_eq_true rfl) (Nat.le_of_ble_eq_true rfl) hk hn ?_
      rintro _ ⟨d1, hd1, rfl⟩
      obtain ⟨m1, m2, m3, m4, m5, m6, m7, m8, m9⟩ := jq_out (d1 := d1) (q := o_i (-1)) h (fun j a => by rw [hd1]; exact x_up_n (by omega))
      have hm := m_mixR (X := X) (l := l) hl m1 hsk hsB m2 m3  (c := (xsv X (i + 1))) (e := (xsv X (i + 2))) hv.1.1 hv.1.2 hv.2.1 hv.2.2 hok
      rw [← m_r_i] at hm
      refine x_istore dL_law_811 (Nat.le_of_ble_eq_true rfl) rfl x_set_7_5 ?_
      refine x_aload_n dL_law_813 x_get_7_2 ?_
      refine x_aload_n dL_law_814 x_get_7_0 ?_
      refine x_iload dL_law_815 x_get_7_4 ?_
      refine x_iconst dL_law_817 ?_
      refine x_iadd dL_law_818 ?_
      refine x_slz dL_law_819 (by omega) (by omega) hs ?_
      refine x_aload_n dL_law_820 x_get_7_0 ?_
      refine x_iload dL_law_821 x_get_7_4 ?_
      refine x_iconst dL_law_823 ?_
      refine x_iadd dL_law_824 ?_
      refine x_slz dL_law_825 (by omega) (by omega) hs ?_
      refine x_callV (As := [_, _]) dL_law_826 w_L_161 hm (by decide) s62 rfl rfl (Nat.le_of_ble_eq_true rfl) (Nat.le_of_ble_eq_true rfl) (Nat.le_of_ble_eq_true rfl) (show _ + 0 ≤ 601024 from hk) (show _ + 0 ≤ 7293034 from hn) ?_
      intro d3 hd3
      exact q_tail hl (jq_not (q := o_i (-1)) (k := 1) h (by rw [hd3, hd1]) (Or.inl rfl)) (Or.inl ⟨_, rfl⟩) (Or.inl rfl) (by rw [hd3]; exact m_rf_0) (fun z hz => by rw [hd3, m_rf_96, hz]; exact outw_96) hk hn hK dL_law_829 dL_law_831 dL_law_832 dL_law_835 dL_law_837 dL_law_842 dL_law_844 dL_law_847 dL_law_848 dL_law_849 dL_law_850 dL_law_852 dL_law_853 dL_law_854 dL_law_859 (by decide)
  · skip
    have hc := c11_mixT (X := X) (l := l) hl hq (c := (xsv X (i + 1))) (e := (xsv X (i + 2))) xsv_r xsv_r hv
    have hw := wr_mix hl (by decide) s0 so (Or.inr rfl) hc
    refine x_aload_n dL_law_794 x_get_7_1 ?_
    refine x_aload_n dL_law_795 x_get_7_0 ?_
    refine x_iload dL_law_796 x_get_7_4 ?_
    refine x_iconst dL_law_798 ?_
    refine x_iadd dL_law_799 ?_
    refine x_slz dL_law_800 (by omega) (by omega) hs ?_
    refine x_aload_n dL_law_801 x_get_7_0 ?_
    refine x_iload dL_law_802 x_get_7_4 ?_
    refine x_iconst dL_law_804 ?_
    refine x_iadd dL_law_805 ?_
    refine x_slz dL_law_806 (by omega) (by omega) hs ?_
    refine x_aload_n dL_law_807 x_get_7_3 ?_
    refine x_callSH (As := [_, _, _, _]) dL_law_808 ws_L_159 hw rfl rfl (Nat.le_of_ble_eq_true rfl) (Nat.le_of_ble_eq_true rfl) (Nat.le_of_ble_eq_true rfl) hk hn ?_
    rintro _ ⟨d1, hd1, rfl⟩
    obtain ⟨m1, m2, m3, m4, m5, m6, m7, m8, m9⟩ := jq_out (q := .inr x_NSE) h (sc_62 (by omega) hd1)
    have hm := m_mixT (X := X) (l := l) hl m1 hsk hsB m2 m3 (c := (xsv X (i + 1))) (e := (xsv X (i + 2))) xsv_r xsv_r hv
    rw [← m_r_N] at hm
    refine x_istore dL_law_811 (Nat.le_of_ble_eq_true rfl) rfl x_set_7_5 ?_
    refine x_aload_n dL_law_813 x_get_7_2 ?_
    refine x_aload_n dL_law_814 x_get_7_0 ?_
    refine x_iload dL_law_815 x_get_7_4 ?_
    refine x_iconst dL_law_817 ?_
    refine x_iadd dL_law_818 ?_
    refine x_slz dL_law_819 (by omega) (by omega) hs ?_
    refine x_aload_n dL_law_820 x_get_7_0 ?_
    refine x_iload dL_law_821 x_get_7_4 ?_
    refine x_iconst dL_law_823 ?_
    refine x_iadd dL_law_824 ?_
    refine x_slz dL_law_825 (by omega) (by omega) hs ?_
    refine x_callV (As := [_, _]) dL_law_826 w_L_161 hm (by decide) s62 rfl rfl (Nat.le_of_ble_eq_true rfl) (Nat.le_of_ble_eq_true rfl) (Nat.le_of_ble_eq_true rfl) (show _ + 0 ≤ 601024 from hk) (show _ + 0 ≤ 7293034 from hn) ?_
    rintro d3 ⟨hms, h0⟩
    exact q_tail hl (jq_ask h hd1 hms) (Or.inr (Or.inl rfl)) (Or.inl rfl) (h0.trans (m_k_N 1).symm) (fun z hz => (o_i_t hz).elim) hk hn hK dL_law_829 dL_law_831 dL_law_832 dL_law_835 dL_law_837 dL_law_842 dL_law_844 dL_law_847 dL_law_848 dL_law_849 dL_law_850 dL_law_852 dL_law_853 dL_law_854 dL_law_859 (by decide)
set_option maxHeartbeats 2000000 in
theorem lc_see {X : xC} {l : Launch} {nm : String} {hh : List (Nat × Nat × Nat × Nat)} (hl : l.stackTraces = false) {sh : xS} {D : xM} {la lb T C W : Nat} {G : Ldt} {L : List (Int → Int)} {S : List (Int × Int × Int)} (h : jq sh D la lb T C W G L S) {i : Int} {k n : Nat} (hi0 : 0 ≤ i) (hi : i + 6 ≤ xsl X) (hs : xsl X ≤ 3072) (hk : k + 1 ≤ 601024) (hn : n + 6 ≤ 7293034) (hK : Kn X l nm hh i (k + 1) (n + 6)) : x_W (zL X l nm hh) 1579 [some (.ref (xsc X)), some (.ref (x_b X + 0)), some (.ref (x_b X + 62)), some (.ref (x_b X + 96)), some (.int (xI i)), none, none] [] k n false 97 sh D := by
  have hll := jq_ll h
  have hq := h.1
  have s0 := h.1.1.2.1
  have hMd := h.2.1.1
  have s62 := md_62 hMd
  have so := h.2.2.1
  have hrow : k_row T C (D 34) := h.1.2.2.2.1
  obtain ⟨hsk, hsB⟩ := row_B hrow
  have hT : T ≤ 8 := h.2.1.2.2.1
  have hC : C ≤ 10 := h.2.1.2.2.2.2.2.2.1
  have hA := h.2.2.2.2.2.1.1
  have hL := h.2.2.2.2.2.1.2.2
  have hS := h.2.2.2.2.2.2.1.1
  have hlw := h.2.2.2.2.2.2.2.2.1
  have hws := h.2.2.2.2.2.2.2.2.2.2.2.1
  by_cases hv : 0 ≤ (xsv X (i + 1)) ∧ (xsv X (i + 1)) < T
  · by_cases hok : S.length < 8 ∧ (0 ≤ (xsv X (i + 2)) ∧ (xsv X (i + 2)) ≤ 30) ∧ (0 ≤ (xsv X (i + 3)) ∧ (xsv X (i + 3)) ≤ 9999)
    · skip
      have hc := c11_see (X := X) (l := l) hl hq hS (t := (xsv X (i + 1))) (n := (xsv X (i + 2))) (u := (xsv X (i + 3))) hv.1 hv.2 hok.1 hok.2.1.1 hok.2.1.2 hok.2.2.1 hok.2.2.2
      have hw := wr_see hl (by decide) s0 so (Or.inl ⟨_, rfl⟩) hc
      refine x_aload_n dL_law_1579 x_get_7_1 ?_
      refine x_aload_n dL_law_1580 x_get_7_0 ?_
      refine x_iload dL_law_1581 x_get_7_4 ?_
      refine x_iconst dL_law_1583 ?_
      refine x_iadd dL_law_1584 ?_
      refine x_slz dL_law_1585 (by omega) (by omega) hs ?_
      refine x_aload_n dL_law_1586 x_get_7_0 ?_
      refine x_iload dL_law_1587 x_get_7_4 ?_
      refine x_iconst dL_law_1589 ?_
      refine x_iadd dL_law_1590 ?_
      refine x_slz dL_law_1591 (by omega) (by omega) hs ?_
      refine x_aload_n dL_law_1592 x_get_7_0 ?_
      refine x_iload dL_law_1593 x_get_7_4 ?_
      refine x_iconst dL_law_1595 ?_
      refine x_iadd dL_law_1596 ?_
      refine x_slz dL_law_1597 (by omega) (by omega) hs ?_
      refine x_aload_n dL_law_1598 x_get_7_3 ?_
      refine x_callSH (As := [_, _, _, _, _]) dL_law_1599 ws_L_198 hw rfl rfl (Nat.le_of_ble_eq_true rfl) (Nat.le_of_ble_eq_true rfl) (Nat.le_of_ble_eq_true rfl) hk hn ?_
      rintro _ ⟨d1, ⟨hS1, hf1⟩, rfl⟩
      obtain ⟨m1, m2, m3, m4, m5, m6, m7, m8, m9⟩ := jq_out (d1 := d1) (q := o_i ((S.length : Int) + 1)) h (fun j a => hf1 j (by omega))
      have hm := m_see (X := X) (l := l) hl m1 hsk hsB m2 m3 m5 (t := (xsv X (i + 1))) (n := (xsv X (i + 2))) (u := (xsv X (i + 3))) hv.1 hv.2 hok.1 hok.2.1.1 hok.2.1.2 hok.2.2.1 hok.2.2.2
      rw [← m_r_i] at hm
      refine x_istore dL_law_1602 (Nat.le_of_ble_eq_true rfl) rfl x_set_7_5 ?_
      refine x_aload_n dL_law_1604 x_get_7_2 ?_
      refine x_aload_n dL_law_1605 x_get_7_0 ?_
      refine x_iload dL_law_1606 x_get_7_4 ?_
      refine x_iconst dL_law_1608 ?_
      refine x_iadd dL_law_1609 ?_
      refine x_slz dL_law_1610 (by omega) (by omega) hs ?_
      refine x_aload_n dL_law_1611 x_get_7_0 ?_
      refine x_iload dL_law_1612 x_get_7_4 ?_
      refine x_iconst dL_law_1614 ?_
      refine x_iadd dL_law_1615 ?_
      refine x_slz dL_law_1616 (by omega) (by omega) hs ?_
      refine x_aload_n dL_law_1617 x_get_7_0 ?_
      refine x_iload dL_law_1618 x_get_7_4 ?_
      refine x_iconst dL_law_1620 ?_
      refine x_iadd dL_law_1621 ?_
      refine x_slz dL_law_1622 (by omega) (by omega) hs ?_
      refine x_callV (As := [_, _, _]) dL_law_1623 w_L_200 hm (by decide) s62 rfl rfl (Nat.le_of_ble_eq_true rfl) (Nat.le_of_ble_eq_true rfl) (Nat.le_of_ble_eq_true rfl) (show _ + 0 ≤ 601024 from hk) (show _ + 0 ≤ 7293034 from hn) ?_
      intro d3 hd3
      exact q_tail hl (jq_see h ⟨hv, hok.2.1, hok.2.2⟩ hS1 hf1 hd3) (Or.inl ⟨_, rfl⟩) (Or.inl rfl) hd3.2.2.1 (fun z hz => by rw [hd3.1 96 (by decide) (by decide), hz]; exact outw_96) hk hn hK dL_law_1626 dL_law_1628 dL_law_1629 dL_law_1632 dL_law_1634 dL_law_1639 dL_law_1641 dL_law_1644 dL_law_1645 dL_law_1646 dL_law_1647 dL_law_1649 dL_law_1650 dL_law_1651 dL_law_1656 (by decide)
    · skip
      have hc := c11_seeR (X := X) (l := l) hl hq hS (t := (xsv X (i + 1))) (n := (xsv X (i + 2))) (u := (xsv X (i + 3))) xsv_r xsv_r hv.1 hv.2 hok
      have hw := wr_see hl (by decide) s0 so (Or.inl ⟨_, rfl⟩) hc
      refine x_aload_n dL_law_1579 x_get_7_1 ?_
      refine x_aload_n dL_law_1580 x_get_7_0 ?_
      refine x_iload dL_law_1581 x_get_7_4 ?_
      refine x_iconst dL_law_1583 ?_
      refine x_iadd dL_law_1584 ?_
      refine x_slz dL_law_1585 (by omega) (by omega) hs ?_
      refine x_aload_n dL_law_1586 x_get_7_0 ?_
      refine x_iload dL_law_1587 x_get_7_4 ?_
      refine x_iconst dL_law_1589 ?_
      refine x_iadd dL_law_1590 ?_
      refine x_slz dL_law_1591 (by omega) (by omega) hs ?_
      refine x_aload_n dL_law_1592 x_get_7_0 ?_
      refine x_iload dL_law_1593 x_get_7_4 ?_
      refine x_iconst dL_law_1595 ?_
      refine x_iadd dL_law_1596 ?_
      refine x_slz dL_law_1597 (by omega) (by omega) hs ?_
      refine x_aload_n dL_law_1598 x_get_7_3 ?_
      refine x_callSH (As := [_, _, _, _, _]) dL_law_1599 ws_L_198 hw rfl rfl (Nat.le_of_ble_eq_true rfl) (Nat.le_of_ble_eq_true rfl) (Nat.le_of_ble_eq_true rfl) hk hn ?_
      rintro _ ⟨d1, hd1, rfl⟩
      obtain ⟨m1, m2, m3, m4, m5, m6, m7, m8, m9⟩ := jq_out (d1 := d1) (q := o_i (-1)) h (fun j a => by rw [hd1]; exact x_up_n (by omega))
      have hm := m_seeR (X := X) (l := l) hl m1 hsk hsB m2 m3 m5  (t := (xsv X (i + 1))) (n := (xsv X (i + 2))) (u := (xsv X (i + 3))) xsv_r xsv_r hv.1 hv.2 hok
      rw [← m_r_i] at hm
      refine x_istore dL_law_1602 (Nat.le_of_ble_eq_true rfl) rfl x_set_7_5 ?_
      refine x_aload_n dL_law_1604 x_get_7_2 ?_
      refine x_aload_n dL_law_1605 x_get_7_0 ?_
      refine x_iload dL_law_1606 x_get_7_4 ?_
      refine x_iconst dL_law_1608 ?_
      refine x_iadd dL_law_1609 ?_
      refine x_slz dL_law_1610 (by omega) (by omega) hs ?_
      refine x_aload_n dL_law_1611 x_get_7_0 ?_
      refine x_iload dL_law_1612 x_get_7_4 ?_
      refine x_iconst dL_law_1614 ?_
      refine x_iadd dL_law_1615 ?_
      refine x_slz dL_law_1616 (by omega) (by omega) hs ?_
      refine x_aload_n dL_law_1617 x_get_7_0 ?_
      refine x_iload dL_law_1618 x_get_7_4 ?_
      refine x_iconst dL_law_1620 ?_
      refine x_iadd dL_law_1621 ?_
      refine x_slz dL_law_1622 (by omega) (by omega) hs ?_
      refine x_callV (As := [_, _, _]) dL_law_1623 w_L_200 hm (by decide) s62 rfl rfl (Nat.le_of_ble_eq_true rfl) (Nat.le_of_ble_eq_true rfl) (Nat.le_of_ble_eq_true rfl) (show _ + 0 ≤ 601024 from hk) (show _ + 0 ≤ 7293034 from hn) ?_
      intro d3 hd3
      exact q_tail hl (jq_not (q := o_i (-1)) (k := 2) h (by rw [hd3, hd1]) (Or.inr rfl)) (Or.inl ⟨_, rfl⟩) (Or.inl rfl) (by rw [hd3]; exact m_rf_0) (fun z hz => by rw [hd3, m_rf_96, hz]; exact outw_96) hk hn hK dL_law_1626 dL_law_1628 dL_law_1629 dL_law_1632 dL_law_1634 dL_law_1639 dL_law_1641 dL_law_1644 dL_law_1645 dL_law_1646 dL_law_1647 dL_law_1649 dL_law_1650 dL_law_1651 dL_law_1656 (by decide)
  · skip
    have hc := c11_seeT (X := X) (l := l) hl hq (t := (xsv X (i + 1))) (n := (xsv X (i + 2))) (u := (xsv X (i + 3))) xsv_r hv
    have hw := wr_see hl (by decide) s0 so (Or.inr rfl) hc
    refine x_aload_n dL_law_1579 x_get_7_1 ?_
    refine x_aload_n dL_law_1580 x_get_7_0 ?_
    refine x_iload dL_law_1581 x_get_7_4 ?_
    refine x_iconst dL_law_1583 ?_
    refine x_iadd dL_law_1584 ?_
    refine x_slz dL_law_1585 (by omega) (by omega) hs ?_
    refine x_aload_n dL_law_1586 x_get_7_0 ?_
    refine x_iload dL_law_1587 x_get_7_4 ?_
    refine x_iconst dL_law_1589 ?_
    refine x_iadd dL_law_1590 ?_
    refine x_slz dL_law_1591 (by omega) (by omega) hs ?_
    refine x_aload_n dL_law_1592 x_get_7_0 ?_
    refine x_iload dL_law_1593 x_get_7_4 ?_
    refine x_iconst dL_law_1595 ?_
    refine x_iadd dL_law_1596 ?_
    refine x_slz dL_law_1597 (by omega) (by omega) hs ?_
    refine x_aload_n dL_law_1598 x_get_7_3 ?_
    refine x_callSH (As := [_, _, _, _, _]) dL_law_1599 ws_L_198 hw rfl rfl (Nat.le_of_ble_eq_true rfl) (Nat.le_of_ble_eq_true rfl) (Nat.le_of_ble_eq_true rfl) hk hn ?_
    rintro _ ⟨d1, hd1, rfl⟩
    obtain ⟨m1, m2, m3, m4, m5, m6, m7, m8, m9⟩ := jq_out (q := .inr x_NSE) h (sc_62 (by omega) hd1)
    have hm := m_seeT (X := X) (l := l) hl m1 hsk hsB m2 m3 (t := (xsv X (i + 1))) (n := (xsv X (i + 2))) (u := (xsv X (i + 3))) xsv_r hv
    rw [← m_r_N] at hm
    refine x_istore dL_law_1602 (Nat.le_of_ble_eq_true rfl) rfl x_set_7_5 ?_
    refine x_aload_n dL_law_1604 x_get_7_2 ?_
    refine x_aload_n dL_law_1605 x_get_7_0 ?_
    refine x_iload dL_law_1606 x_get_7_4 ?_
    refine x_iconst dL_law_1608 ?_
    refine x_iadd dL_law_1609 ?_
    refine x_slz dL_law_1610 (by omega) (by omega) hs ?_
    refine x_aload_n dL_law_1611 x_get_7_0 ?_
    refine x_iload dL_law_1612 x_get_7_4 ?_
    refine x_iconst dL_law_1614 ?_
    refine x_iadd dL_law_1615 ?_
    refine x_slz dL_law_1616 (by omega) (by omega) hs ?_
    refine x_aload_n dL_law_1617 x_get_7_0 ?_
    refine x_iload dL_law_1618 x_get_7_4 ?_
    refine x_iconst dL_law_1620 ?_
    refine x_iadd dL_law_1621 ?_
    refine x_slz dL_law_1622 (by omega) (by omega) hs ?_
    refine x_callV (As := [_, _, _]) dL_law_1623 w_L_200 hm (by decide) s62 rfl rfl (Nat.le_of_ble_eq_true rfl) (Nat.le_of_ble_eq_true rfl) (Nat.le_of_ble_eq_true rfl) (show _ + 0 ≤ 601024 from hk) (show _ + 0 ≤ 7293034 from hn) ?_
    rintro d3 ⟨hms, h0⟩
    exact q_tail hl (jq_ask h hd1 hms) (Or.inr (Or.inl rfl)) (Or.inl rfl) (h0.trans (m_k_N 1).symm) (fun z hz => (o_i_t hz).elim) hk hn hK dL_law_1626 dL_law_1628 dL_law_1629 dL_law_1632 dL_law_1634 dL_law_1639 dL_law_1641 dL_law_1644 dL_law_1645 dL_law_1646 dL_law_1647 dL_law_1649 dL_law_1650 dL_law_1651 dL_law_1656 (by decide)
set_option maxHeartbeats 2000000 in
theorem lc_cat {X : xC} {l : Launch} {nm : String} {hh : List (Nat × Nat × Nat × Nat)} (hl : l.stackTraces = false) {sh : xS} {D : xM} {la lb T C W : Nat} {G : Ldt} {L : List (Int → Int)} {S : List (Int × Int × Int)} (h : jq sh D la lb T C W G L S) {i : Int} {k n : Nat} (hi0 : 0 ≤ i) (hi : i + 6 ≤ xsl X) (hs : xsl X ≤ 3072) (hk : k + 1 ≤ 601024) (hn : n + 6 ≤ 7293034) (hK : Kn X l nm hh i (k + 1) (n + 6)) : x_W (zL X l nm hh) 703 [some (.ref (xsc X)), some (.ref (x_b X + 0)), some (.ref (x_b X + 62)), some (.ref (x_b X + 96)), some (.int (xI i)), none, none] [] k n false 97 sh D := by
  have hll := jq_ll h
  have hq := h.1
  have s0 := h.1.1.2.1
  have hMd := h.2.1.1
  have s62 := md_62 hMd
  have so := h.2.2.1
  have hrow : k_row T C (D 34) := h.1.2.2.2.1
  obtain ⟨hsk, hsB⟩ := row_B hrow
  have hT : T ≤ 8 := h.2.1.2.2.1
  have hC : C ≤ 10 := h.2.1.2.2.2.2.2.2.1
  have hA := h.2.2.2.2.2.1.1
  have hL := h.2.2.2.2.2.1.2.2
  have hS := h.2.2.2.2.2.2.1.1
  have hlw := h.2.2.2.2.2.2.2.2.1
  have hws := h.2.2.2.2.2.2.2.2.2.2.2.1
  by_cases hb0 : (xsv X (i + 2)) = 0
  · skip
    by_cases hv : 0 ≤ (xsv X (i + 1)) ∧ (xsv X (i + 1)) < C
    · by_cases hok : ¬ s_gone (D 34) (xsv X (i + 1)) ∧ ¬ D 34 (45 + (xsv X (i + 1))) = 0
      · skip
        have hc := c11_cat (X := X) (l := l) hl hq hA (c := (xsv X (i + 1))) (b := 0) hv.1 hv.2 (Or.inl rfl) hok.1 hok.2
        have hw := wr_cat hl (by decide) s0 so (Or.inl ⟨_, Or.inr rfl, rfl⟩) hc
        refine x_aload_n dL_law_703 x_get_7_1 ?_
        refine x_aload_n dL_law_704 x_get_7_0 ?_
        refine x_iload dL_law_705 x_get_7_4 ?_
        refine x_iconst dL_law_707 ?_
        refine x_iadd dL_law_708 ?_
        refine x_slz dL_law_709 (by omega) (by omega) hs ?_
        refine x_aload_n dL_law_710 x_get_7_0 ?_
        refine x_iload dL_law_711 x_get_7_4 ?_
        refine x_iconst dL_law_713 ?_
        refine x_iadd dL_law_714 ?_
        refine x_slz dL_law_715 (by omega) (by omega) hs ?_
        refine r_if_eq (t := 723) dL_law_716 rfl xsv_r (fun hc716 => ?_) (fun hc716 => absurd hc716 (by omega))
        refine x_iconst dL_law_723 ?_
        refine x_aload_n dL_law_724 x_get_7_3 ?_
        refine x_callSH (As := [_, _, _, _]) dL_law_725 ws_L_155 hw rfl rfl (Nat.le_of_ble_eq_true rfl) (Nat.le_of_ble_eq_true rfl) (Nat.le_of_ble_eq_true rfl) hk hn ?_
        rintro _ ⟨d1, ⟨h34, hA1, hac⟩, rfl⟩
        obtain ⟨m1, m2, m3, m4, m5, m6, m7, m8, m9⟩ := jq_out (d1 := d1) (q := o_i (1)) h (fun j a => hac.1 j (by omega) (by omega) (by omega) (by omega))
        have hm := m_cat (X := X) (l := l) hl m1 hsk hsB m2 m3 m4  (c := (xsv X (i + 1))) (v := 0) hv.1 hv.2 (Or.inl rfl) hok.1 hok.2
        rw [← m_r_i] at hm
        refine x_istore dL_law_728 (Nat.le_of_ble_eq_true rfl) rfl x_set_7_5 ?_
        refine x_aload_n dL_law_730 x_get_7_2 ?_
        refine x_aload_n dL_law_731 x_get_7_0 ?_
        refine x_iload dL_law_732 x_get_7_4 ?_
        refine x_iconst dL_law_734 ?_
        refine x_iadd dL_law_735 ?_
        refine x_slz dL_law_736 (by omega) (by omega) hs ?_
        refine x_aload_n dL_law_737 x_get_7_0 ?_
        refine x_iload dL_law_738 x_get_7_4 ?_
        refine x_iconst dL_law_740 ?_
        refine x_iadd dL_law_741 ?_
        refine x_slz dL_law_742 (by omega) (by omega) hs ?_
        refine r_if_eq (t := 750) dL_law_743 rfl xsv_r (fun hc743 => ?_) (fun hc743 => absurd hc743 (by omega))
        refine x_iconst dL_law_750 ?_
        refine x_callV (As := [_, _]) dL_law_751 w_L_158 hm (by decide) s62 rfl rfl (Nat.le_of_ble_eq_true rfl) (Nat.le_of_ble_eq_true rfl) (Nat.le_of_ble_eq_true rfl) (show _ + 0 ≤ 601024 from hk) (show _ + 0 ≤ 7293034 from hn) ?_
        rintro d3 ⟨ham, hmr, hmA⟩
        exact q_tailB hl (jq_did h h34 hA1 hac ham hmr hmA (row_cat hrow hC hv.1 hv.2 (Or.inl rfl)) (row_keep hL hrow)) (Or.inl ⟨_, Or.inr rfl, rfl⟩) ham.2.2.1 (fun z hz => by rw [ham.1 96 (by decide) (by decide) (by decide) (by decide) (by decide), hz]; exact outw_96) hk hn hK dL_law_754 dL_law_756 dL_law_757 dL_law_760 dL_law_762 dL_law_767 dL_law_769 dL_law_772 dL_law_773 dL_law_774 dL_law_775 dL_law_777 dL_law_780 dL_law_781 dL_law_784 dL_law_785 dL_law_786 dL_law_791 (by decide)
      · skip
        have hc := c11_catR (X := X) (l := l) hl hq (c := (xsv X (i + 1))) (b := 0) hv.1 hv.2 (Or.inl rfl) hok
        have hw := wr_cat hl (by decide) s0 so (Or.inl ⟨_, Or.inl rfl, rfl⟩) hc
        refine x_aload_n dL_law_703 x_get_7_1 ?_
        refine x_aload_n dL_law_704 x_get_7_0 ?_
        refine x_iload dL_law_705 x_get_7_4 ?_
        refine x_iconst dL_law_707 ?_
        refine x_iadd dL_law_708 ?_
        refine x_slz dL_law_709 (by omega) (by omega) hs ?_
        refine x_aload_n dL_law_710 x_get_7_0 ?_
        refine x_iload dL_law_711 x_get_7_4 ?_
        refine x_iconst dL_law_713 ?_
        refine x_iadd dL_law_714 ?_
        refine x_slz dL_law_715 (by omega) (by omega) hs ?_
        refine r_if_eq (t := 723) dL_law_716 rfl xsv_r (fun hc716 => ?_) (fun hc716 => absurd hc716 (by omega))
        refine x_iconst dL_law_723 ?_
        refine x_aload_n dL_law_724 x_get_7_3 ?_
        refine x_callSH (As := [_, _, _, _]) dL_law_725 ws_L_155 hw rfl rfl (Nat.le_of_ble_eq_true rfl) (Nat.le_of_ble_eq_true rfl) (Nat.le_of_ble_eq_true rfl) hk hn ?_
        rintro _ ⟨d1, hd1, rfl⟩
        obtain ⟨m1, m2, m3, m4, m5, m6, m7, m8, m9⟩ := jq_out (d1 := d1) (q := o_i 0) h (fun j a => by rw [hd1]; exact x_up_n (by omega))
        have hm := m_catR (X := X) (l := l) hl m1 hsk hsB m2 m3  (c := (xsv X (i + 1))) (v := 0) hv.1 hv.2 (Or.inl rfl) hok
        rw [← m_r_i] at hm
        refine x_istore dL_law_728 (Nat.le_of_ble_eq_true rfl) rfl x_set_7_5 ?_
        refine x_aload_n dL_law_730 x_get_7_2 ?_
        refine x_aload_n dL_law_731 x_get_7_0 ?_
        refine x_iload dL_law_732 x_get_7_4 ?_
        refine x_iconst dL_law_734 ?_
        refine x_iadd dL_law_735 ?_
        refine x_slz dL_law_736 (by omega) (by omega) hs ?_
        refine x_aload_n dL_law_737 x_get_7_0 ?_
        refine x_iload dL_law_738 x_get_7_4 ?_
        refine x_iconst dL_law_740 ?_
        refine x_iadd dL_law_741 ?_
        refine x_slz dL_law_742 (by omega) (by omega) hs ?_
        refine r_if_eq (t := 750) dL_law_743 rfl xsv_r (fun hc743 => ?_) (fun hc743 => absurd hc743 (by omega))
        refine x_iconst dL_law_750 ?_
        refine x_callV (As := [_, _]) dL_law_751 w_L_158 hm (by decide) s62 rfl rfl (Nat.le_of_ble_eq_true rfl) (Nat.le_of_ble_eq_true rfl) (Nat.le_of_ble_eq_true rfl) (show _ + 0 ≤ 601024 from hk) (show _ + 0 ≤ 7293034 from hn) ?_
        intro d3 hd3
        exact q_tailB hl (jq_not (q := o_i 0) (k := 1) h (by rw [hd3, hd1]) (Or.inl rfl)) (Or.inl ⟨_, Or.inl rfl, rfl⟩) (by rw [hd3]; exact m_rf_0) (fun z hz => by rw [hd3, m_rf_96, hz]; exact outw_96) hk hn hK dL_law_754 dL_law_756 dL_law_757 dL_law_760 dL_law_762 dL_law_767 dL_law_769 dL_law_772 dL_law_773 dL_law_774 dL_law_775 dL_law_777 dL_law_780 dL_law_781 dL_law_784 dL_law_785 dL_law_786 dL_law_791 (by decide)
    · skip
      have hc := c11_catT (X := X) (l := l) hl hq (c := (xsv X (i + 1))) (b := 0) xsv_r hv
      have hw := wr_cat hl (by decide) s0 so (Or.inr rfl) hc
      refine x_aload_n dL_law_703 x_get_7_1 ?_
      refine x_aload_n dL_law_704 x_get_7_0 ?_
      refine x_iload dL_law_705 x_get_7_4 ?_
      refine x_iconst dL_law_707 ?_
      refine x_iadd dL_law_708 ?_
      refine x_slz dL_law_709 (by omega) (by omega) hs ?_
      refine x_aload_n dL_law_710 x_get_7_0 ?_
      refine x_iload dL_law_711 x_get_7_4 ?_
      refine x_iconst dL_law_713 ?_
      refine x_iadd dL_law_714 ?_
      refine x_slz dL_law_715 (by omega) (by omega) hs ?_
      refine r_if_eq (t := 723) dL_law_716 rfl xsv_r (fun hc716 => ?_) (fun hc716 => absurd hc716 (by omega))
      refine x_iconst dL_law_723 ?_
      refine x_aload_n dL_law_724 x_get_7_3 ?_
      refine x_callSH (As := [_, _, _, _]) dL_law_725 ws_L_155 hw rfl rfl (Nat.le_of_ble_eq_true rfl) (Nat.le_of_ble_eq_true rfl) (Nat.le_of_ble_eq_true rfl) hk hn ?_
      rintro _ ⟨d1, hd1, rfl⟩
      obtain ⟨m1, m2, m3, m4, m5, m6, m7, m8, m9⟩ := jq_out (q := .inr x_NSE) h (sc_62 (by omega) hd1)
      have hm := m_catT (X := X) (l := l) hl m1 hsk hsB m2 m3 (c := (xsv X (i + 1))) (b := 0) xsv_r hv
      rw [← m_r_N] at hm
      refine x_istore dL_law_728 (Nat.le_of_ble_eq_true rfl) rfl x_set_7_5 ?_
      refine x_aload_n dL_law_730 x_get_7_2 ?_
      refine x_aload_n dL_law_731 x_get_7_0 ?_
      refine x_iload dL_law_732 x_get_7_4 ?_
      refine x_iconst dL_law_734 ?_
      refine x_iadd dL_law_735 ?_
      refine x_slz dL_law_736 (by omega) (by omega) hs ?_
      refine x_aload_n dL_law_737 x_get_7_0 ?_
      refine x_iload dL_law_738 x_get_7_4 ?_
      refine x_iconst dL_law_740 ?_
      refine x_iadd dL_law_741 ?_
      refine x_slz dL_law_742 (by omega) (by omega) hs ?_
      refine r_if_eq (t := 750) dL_law_743 rfl xsv_r (fun hc743 => ?_) (fun hc743 => absurd hc743 (by omega))
      refine x_iconst dL_law_750 ?_
      refine x_callV (As := [_, _]) dL_law_751 w_L_158 hm (by decide) s62 rfl rfl (Nat.le_of_ble_eq_true rfl) (Nat.le_of_ble_eq_true rfl) (Nat.le_of_ble_eq_true rfl) (show _ + 0 ≤ 601024 from hk) (show _ + 0 ≤ 7293034 from hn) ?_
      rintro d3 ⟨hms, h0⟩
      exact q_tailB hl (jq_ask h hd1 hms) (Or.inr rfl) (h0.trans (m_k_N 1).symm) (fun z hz => (o_i_t hz).elim) hk hn hK dL_law_754 dL_law_756 dL_law_757 dL_law_760 dL_law_762 dL_law_767 dL_law_769 dL_law_772 dL_law_773 dL_law_774 dL_law_775 dL_law_777 dL_law_780 dL_law_781 dL_law_784 dL_law_785 dL_law_786 dL_law_791 (by decide)
  · skip
    by_cases hv : 0 ≤ (xsv X (i + 1)) ∧ (xsv X (i + 1)) < C
    · by_cases hok : ¬ s_gone (D 34) (xsv X (i + 1)) ∧ ¬ D 34 (45 + (xsv X (i + 1))) = 1
      · skip
        have hc := c11_cat (X := X) (l := l) hl hq hA (c := (xsv X (i + 1))) (b := 1) hv.1 hv.2 (Or.inr rfl) hok.1 hok.2
        have hw := wr_cat hl (by decide) s0 so (Or.inl ⟨_, Or.inr rfl, rfl⟩) hc
        refine x_aload_n dL_law_703 x_get_7_1 ?_
        refine x_aload_n dL_law_704 x_get_7_0 ?_
        refine x_iload dL_law_705 x_get_7_4 ?_
        refine x_iconst dL_law_707 ?_
        refine x_iadd dL_law_708 ?_
        refine x_slz dL_law_709 (by omega) (by omega) hs ?_
        refine x_aload_n dL_law_710 x_get_7_0 ?_
        refine x_iload dL_law_711 x_get_7_4 ?_
        refine x_iconst dL_law_713 ?_
        refine x_iadd dL_law_714 ?_
        refine x_slz dL_law_715 (by omega) (by omega) hs ?_
        refine r_if_eq (t := 723) dL_law_716 rfl xsv_r (fun hc716 => absurd hc716 (by omega)) (fun hc716 => ?_)
        refine x_iconst dL_law_719 ?_
        refine x_goto (t := 724) dL_law_720 rfl ?_
        refine x_aload_n dL_law_724 x_get_7_3 ?_
        refine x_callSH (As := [_, _, _, _]) dL_law_725 ws_L_155 hw rfl rfl (Nat.le_of_ble_eq_true rfl) (Nat.le_of_ble_eq_true rfl) (Nat.le_of_ble_eq_true rfl) hk hn ?_
        rintro _ ⟨d1, ⟨h34, hA1, hac⟩, rfl⟩
        obtain ⟨m1, m2, m3, m4, m5, m6, m7, m8, m9⟩ := jq_out (d1 := d1) (q := o_i (1)) h (fun j a => hac.1 j (by omega) (by omega) (by omega) (by omega))
        have hm := m_cat (X := X) (l := l) hl m1 hsk hsB m2 m3 m4  (c := (xsv X (i + 1))) (v := 1) hv.1 hv.2 (Or.inr rfl) hok.1 hok.2
        rw [← m_r_i] at hm
        refine x_istore dL_law_728 (Nat.le_of_ble_eq_true rfl) rfl x_set_7_5 ?_
        refine x_aload_n dL_law_730 x_get_7_2 ?_
        refine x_aload_n dL_law_731 x_get_7_0 ?_
        refine x_iload dL_law_732 x_get_7_4 ?_
        refine x_iconst dL_law_734 ?_
        refine x_iadd dL_law_735 ?_
        refine x_slz dL_law_736 (by omega) (by omega) hs ?_
        refine x_aload_n dL_law_737 x_get_7_0 ?_
        refine x_iload dL_law_738 x_get_7_4 ?_
        refine x_iconst dL_law_740 ?_
        refine x_iadd dL_law_741 ?_
        refine x_slz dL_law_742 (by omega) (by omega) hs ?_
        refine r_if_eq (t := 750) dL_law_743 rfl xsv_r (fun hc743 => absurd hc743 (by omega)) (fun hc743 => ?_)
        refine x_iconst dL_law_746 ?_
        refine x_goto (t := 751) dL_law_747 rfl ?_
        refine x_callV (As := [_, _]) dL_law_751 w_L_158 hm (by decide) s62 rfl rfl (Nat.le_of_ble_eq_true rfl) (Nat.le_of_ble_eq_true rfl) (Nat.le_of_ble_eq_true rfl) (show _ + 0 ≤ 601024 from hk) (show _ + 0 ≤ 7293034 from hn) ?_
        rintro d3 ⟨ham, hmr, hmA⟩
        exact q_tailB hl (jq_did h h34 hA1 hac ham hmr hmA (row_cat hrow hC hv.1 hv.2 (Or.inr rfl)) (row_keep hL hrow)) (Or.inl ⟨_, Or.inr rfl, rfl⟩) ham.2.2.1 (fun z hz => by rw [ham.1 96 (by decide) (by decide) (by decide) (by decide) (by decide), hz]; exact outw_96) hk hn hK dL_law_754 dL_law_756 dL_law_757 dL_law_760 dL_law_762 dL_law_767 dL_law_769 dL_law_772 dL_law_773 dL_law_774 dL_law_775 dL_law_777 dL_law_780 dL_law_781 dL_law_784 dL_law_785 dL_law_786 dL_law_791 (by decide)
      · skip
        have hc := c11_catR (X := X) (l := l) hl hq (c := (xsv X (i + 1))) (b := 1) hv.1 hv.2 (Or.inr rfl) hok
        have hw := wr_cat hl (by decide) s0 so (Or.inl ⟨_, Or.inl rfl, rfl⟩) hc
        refine x_aload_n dL_law_703 x_get_7_1 ?_
        refine x_aload_n dL_law_704 x_get_7_0 ?_
        refine x_iload dL_law_705 x_get_7_4 ?_
        refine x_iconst dL_law_707 ?_
        refine x_iadd dL_law_708 ?_
        refine x_slz dL_law_709 (by omega) (by omega) hs ?_
        refine x_aload_n dL_law_710 x_get_7_0 ?_
        refine x_iload dL_law_711 x_get_7_4 ?_
        refine x_iconst dL_law_713 ?_
        refine x_iadd dL_law_714 ?_
        refine x_slz dL_law_715 (by omega) (by omega) hs ?_
        refine r_if_eq (t := 723) dL_law_716 rfl xsv_r (fun hc716 => absurd hc716 (by omega)) (fun hc716 => ?_)
        refine x_iconst dL_law_719 ?_
        refine x_goto (t := 724) dL_law_720 rfl ?_
        refine x_aload_n dL_law_724 x_get_7_3 ?_
        refine x_callSH (As := [_, _, _, _]) dL_law_725 ws_L_155 hw rfl rfl (Nat.le_of_ble_eq_true rfl) (Nat.le_of_ble_eq_true rfl) (Nat.le_of_ble_eq_true rfl) hk hn ?_
        rintro _ ⟨d1, hd1, rfl⟩
        obtain ⟨m1, m2, m3, m4, m5, m6, m7, m8, m9⟩ := jq_out (d1 := d1) (q := o_i 0) h (fun j a => by rw [hd1]; exact x_up_n (by omega))
        have hm := m_catR (X := X) (l := l) hl m1 hsk hsB m2 m3  (c := (xsv X (i + 1))) (v := 1) hv.1 hv.2 (Or.inr rfl) hok
        rw [← m_r_i] at hm
        refine x_istore dL_law_728 (Nat.le_of_ble_eq_true rfl) rfl x_set_7_5 ?_
        refine x_aload_n dL_law_730 x_get_7_2 ?_
        refine x_aload_n dL_law_731 x_get_7_0 ?_
        refine x_iload dL_law_732 x_get_7_4 ?_
        refine x_iconst dL_law_734 ?_
        refine x_iadd dL_law_735 ?_
        refine x_slz dL_law_736 (by omega) (by omega) hs ?_
        refine x_aload_n dL_law_737 x_get_7_0 ?_
        refine x_iload dL_law_738 x_get_7_4 ?_
        refine x_iconst dL_law_740 ?_
        refine x_iadd dL_law_741 ?_
        refine x_slz dL_law_742 (by omega) (by omega) hs ?_
        refine r_if_eq (t := 750) dL_law_743 rfl xsv_r (fun hc743 => absurd hc743 (by omega)) (fun hc743 => ?_)
        refine x_iconst dL_law_746 ?_
        refine x_goto (t := 751) dL_law_747 rfl ?_
        refine x_callV (As := [_, _]) dL_law_751 w_L_158 hm (by decide) s62 rfl rfl (Nat.le_of_ble_eq_true rfl) (Nat.le_of_ble_eq_true rfl) (Nat.le_of_ble_eq_true rfl) (show _ + 0 ≤ 601024 from hk) (show _ + 0 ≤ 7293034 from hn) ?_
        intro d3 hd3
        exact q_tailB hl (jq_not (q := o_i 0) (k := 1) h (by rw [hd3, hd1]) (Or.inl rfl)) (Or.inl ⟨_, Or.inl rfl, rfl⟩) (by rw [hd3]; exact m_rf_0) (fun z hz => by rw [hd3, m_rf_96, hz]; exact outw_96) hk hn hK dL_law_754 dL_law_756 dL_law_757 dL_law_760 dL_law_762 dL_law_767 dL_law_769 dL_law_772 dL_law_773 dL_law_774 dL_law_775 dL_law_777 dL_law_780 dL_law_781 dL_law_784 dL_law_785 dL_law_786 dL_law_791 (by decide)
    · skip
      have hc := c11_catT (X := X) (l := l) hl hq (c := (xsv X (i + 1))) (b := 1) xsv_r hv
      have hw := wr_cat hl (by decide) s0 so (Or.inr rfl) hc
      refine x_aload_n dL_law_703 x_get_7_1 ?_
      refine x_aload_n dL_law_704 x_get_7_0 ?_
      refine x_iload dL_law_705 x_get_7_4 ?_
      refine x_iconst dL_law_707 ?_
      refine x_iadd dL_law_708 ?_
      refine x_slz dL_law_709 (by omega) (by omega) hs ?_
      refine x_aload_n dL_law_710 x_get_7_0 ?_
      refine x_iload dL_law_711 x_get_7_4 ?_
      refine x_iconst dL_law_713 ?_
      refine x_iadd dL_law_714 ?_
      refine x_slz dL_law_715 (by omega) (by omega) hs ?_
      refine r_if_eq (t := 723) dL_law_716 rfl xsv_r (fun hc716 => absurd hc716 (by omega)) (fun hc716 => ?_)
      refine x_iconst dL_law_719 ?_
      refine x_goto (t := 724) dL_law_720 rfl ?_
      refine x_aload_n dL_law_724 x_get_7_3 ?_
      refine x_callSH (As := [_, _, _, _]) dL_law_725 ws_L_155 hw rfl rfl (Nat.le_of_ble_eq_true rfl) (Nat.le_of_ble_eq_true rfl) (Nat.le_of_ble_eq_true rfl) hk hn ?_
      rintro _ ⟨d1, hd1, rfl⟩
      obtain ⟨m1, m2, m3, m4, m5, m6, m7, m8, m9⟩ := jq_out (q := .inr x_NSE) h (sc_62 (by omega) hd1)
      have hm := m_catT (X := X) (l := l) hl m1 hsk hsB m2 m3 (c := (xsv X (i + 1))) (b := 1) xsv_r hv
      rw [← m_r_N] at hm
      refine x_istore dL_law_728 (Nat.le_of_ble_eq_true rfl) rfl x_set_7_5 ?_
      refine x_aload_n dL_law_730 x_get_7_2 ?_
      refine x_aload_n dL_law_731 x_get_7_0 ?_
      refine x_iload dL_law_732 x_get_7_4 ?_
      refine x_iconst dL_law_734 ?_
      refine x_iadd dL_law_735 ?_
      refine x_slz dL_law_736 (by omega) (by omega) hs ?_
      refine x_aload_n dL_law_737 x_get_7_0 ?_
      refine x_iload dL_law_738 x_get_7_4 ?_
      refine x_iconst dL_law_740 ?_
      refine x_iadd dL_law_741 ?_
      refine x_slz dL_law_742 (by omega) (by omega) hs ?_
      refine r_if_eq (t := 750) dL_law_743 rfl xsv_r (fun hc743 => absurd hc743 (by omega)) (fun hc743 => ?_)
      refine x_iconst dL_law_746 ?_
      refine x_goto (t := 751) dL_law_747 rfl ?_
      refine x_callV (As := [_, _]) dL_law_751 w_L_158 hm (by decide) s62 rfl rfl (Nat.le_of_ble_eq_true rfl) (Nat.le_of_ble_eq_true rfl) (Nat.le_of_ble_eq_true rfl) (show _ + 0 ≤ 601024 from hk) (show _ + 0 ≤ 7293034 from hn) ?_
      rintro d3 ⟨hms, h0⟩
      exact q_tailB hl (jq_ask h hd1 hms) (Or.inr rfl) (h0.trans (m_k_N 1).symm) (fun z hz => (o_i_t hz).elim) hk hn hK dL_law_754 dL_law_756 dL_law_757 dL_law_760 dL_law_762 dL_law_767 dL_law_769 dL_law_772 dL_law_773 dL_law_774 dL_law_775 dL_law_777 dL_law_780 dL_law_781 dL_law_784 dL_law_785 dL_law_786 dL_law_791 (by decide)
set_option maxHeartbeats 2000000 in
theorem lc_province {X : xC} {l : Launch} {nm : String} {hh : List (Nat × Nat × Nat × Nat)} (hl : l.stackTraces = false) {sh : xS} {D : xM} {la lb T C W : Nat} {G : Ldt} {L : List (Int → Int)} {S : List (Int × Int × Int)} (h : jq sh D la lb T C W G L S) {i : Int} {k n : Nat} (hi0 : 0 ≤ i) (hi : i + 6 ≤ xsl X) (hs : xsl X ≤ 3072) (hk : k + 1 ≤ 601024) (hn : n + 6 ≤ 7293034) (hK : Kn X l nm hh i (k + 1) (n + 6)) : x_W (zL X l nm hh) 293 [some (.ref (xsc X)), some (.ref (x_b X + 0)), some (.ref (x_b X + 62)), some (.ref (x_b X + 96)), some (.int (xI i)), none, none] [] k n false 97 sh D := by
  have hll := jq_ll h
  have hq := h.1
  have s0 := h.1.1.2.1
  have hMd := h.2.1.1
  have s62 := md_62 hMd
  have so := h.2.2.1
  have hrow : k_row T C (D 34) := h.1.2.2.2.1
  obtain ⟨hsk, hsB⟩ := row_B hrow
  have hT : T ≤ 8 := h.2.1.2.2.1
  have hC : C ≤ 10 := h.2.1.2.2.2.2.2.2.1
  have hA := h.2.2.2.2.2.1.1
  have hL := h.2.2.2.2.2.1.2.2
  have hS := h.2.2.2.2.2.2.1.1
  have hlw := h.2.2.2.2.2.2.2.2.1
  have hws := h.2.2.2.2.2.2.2.2.2.2.2.1
  obtain ⟨⟨kt, k1, k2, k3⟩, kb, ku⟩ := h.2.2.2.2.2.2.2.1
  by_cases hv : 0 ≤ (xsv X (i + 1)) ∧ (xsv X (i + 1)) ≤ kt
  · obtain ⟨m, hme⟩ := Int.eq_ofNat_of_zero_le hv.1
    have hmk : m ≤ kt := by omega
    obtain ⟨r, hr⟩ : ∃ r, r_all (D 2) m lb (pv0 D) = r := ⟨_, rfl⟩
    cases r with
    | inl z =>
      have hc := c11_provF (X := X) (l := l) hl hq k1 k2 hmk kb hlw hr
      rw [← hme] at hc
      have hw := wr_province hl (by decide) s0 so (Or.inl ⟨_, rfl⟩) hc
      refine x_aload_n dL_law_293 x_get_7_1 ?_
      refine x_aload_n dL_law_294 x_get_7_0 ?_
      refine x_iload dL_law_295 x_get_7_4 ?_
      refine x_iconst dL_law_297 ?_
      refine x_iadd dL_law_298 ?_
      refine x_slz dL_law_299 (by omega) (by omega) hs ?_
      refine x_aload_n dL_law_300 x_get_7_3 ?_
      refine x_callSH (As := [_, _, _]) dL_law_301 ws_L_121 hw rfl rfl (Nat.le_of_ble_eq_true rfl) (Nat.le_of_ble_eq_true rfl) (Nat.le_of_ble_eq_true rfl) hk hn ?_
      rintro _ ⟨d1, ⟨f0, f61, flw, ffr⟩, rfl⟩
      obtain ⟨m1, m2, m3, m4, m5, m6, m7, m8, m9⟩ := jq_out (d1 := d1) (q := o_i z.1) h (fun j a => ffr j (by omega) (by omega) (by omega) (by omega))
      have hm := m_prov (X := X) (l := l) hl hMd (b := D 2) (n := m) (lb := lb) (R := (.inl z)) (k := kt) (D := outw (o_i z.1) d1) (by omega) k1 (by rw [m7]; exact k3) hmk (fun i hi => ⟨by rw [m9]; exact ku i hi, kb i⟩) (Dc := pv0 D) (lw_pv0 hlw (by omega)) hr.symm
      rw [← hme, show pvo (.inl z) = z.1 from rfl, ← m_r_i] at hm
      refine x_istore dL_law_304 (Nat.le_of_ble_eq_true rfl) rfl x_set_7_5 ?_
      refine x_aload_n dL_law_306 x_get_7_2 ?_
      refine x_aload_n dL_law_307 x_get_7_0 ?_
      refine x_iload dL_law_308 x_get_7_4 ?_
      refine x_iconst dL_law_310 ?_
      refine x_iadd dL_law_311 ?_
      refine x_slz dL_law_312 (by omega) (by omega) hs ?_
      refine x_callV (As := [_]) dL_law_313 w_L_126 hm (by decide) s62 rfl rfl (Nat.le_of_ble_eq_true rfl) (Nat.le_of_ble_eq_true rfl) (Nat.le_of_ble_eq_true rfl) (show _ + 0 ≤ 601024 from hk) (show _ + 0 ≤ 7293034 from hn) ?_
      intro d3 hd3
      have hd3 : pvf (D 2) m z (outw (o_i z.1) d1) d3 := hd3
      exact q_tail hl (jq_provF h f0 f61 flw ffr hd3) (Or.inl ⟨_, rfl⟩) (Or.inl rfl) hd3.2.2.1.1 (fun y hy => by rw [hd3.1 96 (by decide) (by decide) (by decide), hy]; exact outw_96) hk hn hK dL_law_316 dL_law_318 dL_law_319 dL_law_322 dL_law_324 dL_law_329 dL_law_331 dL_law_334 dL_law_335 dL_law_336 dL_law_337 dL_law_339 dL_law_340 dL_law_341 dL_law_346 (by decide)
    | inr z =>
      have so2 : x_sw sh la lb 96 = .inl (3, 1) := by rw [x_sw_n (by decide) (by decide)]; exact so
      have s62 := md_62 (md_sw (la := la) (lb := lb) hMd)
      have hc := c11_prov (X := X) (l := l) hl hq k1 k2 hmk kb hlw hr
      rw [← hme] at hc
      have hw := wr_province hl (by decide) s0 so2 (Or.inl ⟨_, rfl⟩) hc
      refine x_aload_n dL_law_293 x_get_7_1 ?_
      refine x_aload_n dL_law_294 x_get_7_0 ?_
      refine x_iload dL_law_295 x_get_7_4 ?_
      refine x_iconst dL_law_297 ?_
      refine x_iadd dL_law_298 ?_
      refine x_slz dL_law_299 (by omega) (by omega) hs ?_
      refine x_aload_n dL_law_300 x_get_7_3 ?_
      refine x_callSH (As := [_, _, _]) dL_law_301 ws_L_121 hw rfl rfl (Nat.le_of_ble_eq_true rfl) (Nat.le_of_ble_eq_true rfl) (Nat.le_of_ble_eq_true rfl) hk hn ?_
      rintro _ ⟨d1, hp, rfl⟩
      have p10 := hp.2.2.2.2.2.2.2.2
      have e62 : outw (o_i 0) d1 62 = D 62 := by rw [outw_n (by decide)]; exact p10 62 (by decide) (by decide) (by decide) (by decide) (by decide) (by omega)
      have e70 : outw (o_i 0) d1 70 = D 70 := by rw [outw_n (by decide)]; exact p10 70 (by decide) (by decide) (by decide) (by decide) (by decide) (by omega)
      have hm := m_prov (X := X) (l := l) hl (md_sw (la := la) (lb := lb) hMd) (b := D 2) (n := m) (lb := lb) (R := (.inr z)) (k := kt) (D := outw (o_i 0) d1) (by omega) k1 (by rw [e62]; exact k3) hmk (fun i hi => ⟨by rw [e70]; exact ku i hi, kb i⟩) (Dc := pv0 D) (lw_pv0 hlw (by omega)) hr.symm
      rw [← hme, show pvo (.inr z) = 0 from rfl, ← m_r_i] at hm
      refine x_istore dL_law_304 (Nat.le_of_ble_eq_true rfl) rfl x_set_7_5 ?_
      refine x_aload_n dL_law_306 x_get_7_2 ?_
      refine x_aload_n dL_law_307 x_get_7_0 ?_
      refine x_iload dL_law_308 x_get_7_4 ?_
      refine x_iconst dL_law_310 ?_
      refine x_iadd dL_law_311 ?_
      refine x_slz dL_law_312 (by omega) (by omega) hs ?_
      refine x_callV (As := [_]) dL_law_313 w_L_126 hm (by decide) s62 rfl rfl (Nat.le_of_ble_eq_true rfl) (Nat.le_of_ble_eq_true rfl) (Nat.le_of_ble_eq_true rfl) (show _ + 0 ≤ 601024 from hk) (show _ + 0 ≤ 7293034 from hn) ?_
      intro d3 hd3
      have hd3 : pvg 97 (x_sw sh la lb) lb z.1 (outw (o_i 0) d1) d3 := hd3
      obtain ⟨G2, hJ⟩ := jq_prov h hr hp hd3
      exact q_tail hl hJ (Or.inl ⟨_, rfl⟩) (Or.inl rfl) hd3.2.2.2.1.1 (fun y hy => by rw [hd3.2.2.2.2 96 (by decide), hy]; exact outw_96) hk hn hK dL_law_316 dL_law_318 dL_law_319 dL_law_322 dL_law_324 dL_law_329 dL_law_331 dL_law_334 dL_law_335 dL_law_336 dL_law_337 dL_law_339 dL_law_340 dL_law_341 dL_law_346 (by decide)
  · skip
    have hc := c11_provT (X := X) (l := l) hl hq (n := (xsv X (i + 1))) xsv_r k1 k2 hv
    have hw := wr_province hl (by decide) s0 so (Or.inr rfl) hc
    refine x_aload_n dL_law_293 x_get_7_1 ?_
    refine x_aload_n dL_law_294 x_get_7_0 ?_
    refine x_iload dL_law_295 x_get_7_4 ?_
    refine x_iconst dL_law_297 ?_
    refine x_iadd dL_law_298 ?_
    refine x_slz dL_law_299 (by omega) (by omega) hs ?_
    refine x_aload_n dL_law_300 x_get_7_3 ?_
    refine x_callSH (As := [_, _, _]) dL_law_301 ws_L_121 hw rfl rfl (Nat.le_of_ble_eq_true rfl) (Nat.le_of_ble_eq_true rfl) (Nat.le_of_ble_eq_true rfl) hk hn ?_
    rintro d1 ⟨d2, hd2, hd0⟩
    have hd1 : sc la D d1 := by rw [hd0, outw_t]; exact hd2
    obtain ⟨m1, m2, m3, m4, m5, m6, m7, m8, m9⟩ := jq_out (d1 := d1) (q := .inr x_IAE) h (sc_62 (by omega) hd1)
    simp only [outw_t] at m1 m2 m3 m4 m5 m6 m7 m8 m9
    have hm := m_provT (X := X) (l := l) hl hMd (D := d1) k1 (by rw [m7]; exact k3) (n := (xsv X (i + 1))) xsv_r hv
    rw [← m_r_I, u1_u1] at hm
    refine x_istore dL_law_304 (Nat.le_of_ble_eq_true rfl) rfl x_set_7_5 ?_
    refine x_aload_n dL_law_306 x_get_7_2 ?_
    refine x_aload_n dL_law_307 x_get_7_0 ?_
    refine x_iload dL_law_308 x_get_7_4 ?_
    refine x_iconst dL_law_310 ?_
    refine x_iadd dL_law_311 ?_
    refine x_slz dL_law_312 (by omega) (by omega) hs ?_
    refine x_callV (As := [_]) dL_law_313 w_L_126 hm (by decide) s62 rfl rfl (Nat.le_of_ble_eq_true rfl) (Nat.le_of_ble_eq_true rfl) (Nat.le_of_ble_eq_true rfl) (show _ + 0 ≤ 601024 from hk) (show _ + 0 ≤ 7293034 from hn) ?_
    intro d3 hd3
    have hms : ms (outw (.inr x_IAE) d1) d3 := by rw [outw_t, hd3]; exact ms_0 m3
    have h0 : d3 62 0 = 1 := by rw [hd3, x_up_s, x_u1_s]
    exact q_tail hl (jq_ask h hd1 hms) (Or.inr (Or.inr rfl)) (Or.inl rfl) (h0.trans (m_k_I 1).symm) (fun z hz => (o_i_t hz).elim) hk hn hK dL_law_316 dL_law_318 dL_law_319 dL_law_322 dL_law_324 dL_law_329 dL_law_331 dL_law_334 dL_law_335 dL_law_336 dL_law_337 dL_law_339 dL_law_340 dL_law_341 dL_law_346 (by decide)
set_option maxHeartbeats 2000000 in
theorem lc_feed {X : xC} {l : Launch} {nm : String} {hh : List (Nat × Nat × Nat × Nat)} (hl : l.stackTraces = false) {sh : xS} {D : xM} {la lb T C W : Nat} {G : Ldt} {L : List (Int → Int)} {S : List (Int × Int × Int)} (h : jq sh D la lb T C W G L S) {i : Int} {k n : Nat} (hi0 : 0 ≤ i) (hi : i + 6 ≤ xsl X) (hs : xsl X ≤ 3072) (hk : k + 1 ≤ 601024) (hn : n + 6 ≤ 7293034) (hK : Kn X l nm hh i (k + 1) (n + 6)) : x_W (zL X l nm hh) 220 [some (.ref (xsc X)), some (.ref (x_b X + 0)), some (.ref (x_b X + 62)), some (.ref (x_b X + 96)), some (.int (xI i)), none, none] [] k n false 97 sh D := by
  have hll := jq_ll h
  have hq := h.1
  have s0 := h.1.1.2.1
  have hMd := h.2.1.1
  have s62 := md_62 hMd
  have so := h.2.2.1
  have hrow : k_row T C (D 34) := h.1.2.2.2.1
  obtain ⟨hsk, hsB⟩ := row_B hrow
  have hT : T ≤ 8 := h.2.1.2.2.1
  have hC : C ≤ 10 := h.2.1.2.2.2.2.2.2.1
  have hA := h.2.2.2.2.2.1.1
  have hL := h.2.2.2.2.2.1.2.2
  have hS := h.2.2.2.2.2.2.1.1
  have hlw := h.2.2.2.2.2.2.2.2.1
  have hws := h.2.2.2.2.2.2.2.2.2.2.2.1
  obtain ⟨⟨kt, k1, k2, k3⟩, kb, ku⟩ := h.2.2.2.2.2.2.2.1
  by_cases hv : kt + 20 ≤ 700
  · skip
    have hc := c11_feed (X := X) (l := l) hl hq (k := kt) (z1 := (xsv X (i + 1))) (z2 := (xsv X (i + 2))) (z3 := (xsv X (i + 3))) (z4 := (xsv X (i + 4))) (z5 := (xsv X (i + 5))) hv k2
    refine x_aload_n dL_law_220 x_get_7_1 ?_
    refine x_aload_n dL_law_221 x_get_7_0 ?_
    refine x_iload dL_law_222 x_get_7_4 ?_
    refine x_iconst dL_law_224 ?_
    refine x_iadd dL_law_225 ?_
    refine x_slz dL_law_226 (by omega) (by omega) hs ?_
    refine x_aload_n dL_law_227 x_get_7_0 ?_
    refine x_iload dL_law_228 x_get_7_4 ?_
    refine x_iconst dL_law_230 ?_
    refine x_iadd dL_law_231 ?_
    refine x_slz dL_law_232 (by omega) (by omega) hs ?_
    refine x_aload_n dL_law_233 x_get_7_0 ?_
    refine x_iload dL_law_234 x_get_7_4 ?_
    refine x_iconst dL_law_236 ?_
    refine x_iadd dL_law_237 ?_
    refine x_slz dL_law_238 (by omega) (by omega) hs ?_
    refine x_aload_n dL_law_239 x_get_7_0 ?_
    refine x_iload dL_law_240 x_get_7_4 ?_
    refine x_iconst dL_law_242 ?_
    refine x_iadd dL_law_243 ?_
    refine x_slz dL_law_244 (by omega) (by omega) hs ?_
    refine x_aload_n dL_law_245 x_get_7_0 ?_
    refine x_iload dL_law_246 x_get_7_4 ?_
    refine x_iconst dL_law_248 ?_
    refine x_iadd dL_law_249 ?_
    refine x_slz dL_law_250 (by omega) (by omega) hs ?_
    refine x_callV (As := [_, _, _, _, _]) dL_law_251 w_L_116 hc (by decide) s0 rfl rfl (Nat.le_of_ble_eq_true rfl) (Nat.le_of_ble_eq_true rfl) (Nat.le_of_ble_eq_true rfl) hk hn ?_
    rintro d1 ⟨f2, f0, ff⟩
    obtain ⟨m1, m2, m3, m4, m5, m6, m7, m8, m9⟩ := jq_out (d1 := d1) (q := .inr x_NSE) h (fun j a => ff j (by omega) (by omega))
    simp only [outw_t] at m1 m2 m3 m4 m5 m6 m7 m8 m9
    have hm := m_feed (X := X) (l := l) hl hMd (D := d1) (k := kt) (z1 := (xsv X (i + 1))) (z2 := (xsv X (i + 2))) (z3 := (xsv X (i + 3))) (z4 := (xsv X (i + 4))) (z5 := (xsv X (i + 5))) hv (by rw [m7]; exact k3)
    refine x_aload_n dL_law_254 x_get_7_2 ?_
    refine x_aload_n dL_law_255 x_get_7_0 ?_
    refine x_iload dL_law_256 x_get_7_4 ?_
    refine x_iconst dL_law_258 ?_
    refine x_iadd dL_law_259 ?_
    refine x_slz dL_law_260 (by omega) (by omega) hs ?_
    refine x_aload_n dL_law_261 x_get_7_0 ?_
    refine x_iload dL_law_262 x_get_7_4 ?_
    refine x_iconst dL_law_264 ?_
    refine x_iadd dL_law_265 ?_
    refine x_slz dL_law_266 (by omega) (by omega) hs ?_
    refine x_aload_n dL_law_267 x_get_7_0 ?_
    refine x_iload dL_law_268 x_get_7_4 ?_
    refine x_iconst dL_law_270 ?_
    refine x_iadd dL_law_271 ?_
    refine x_slz dL_law_272 (by omega) (by omega) hs ?_
    refine x_aload_n dL_law_273 x_get_7_0 ?_
    refine x_iload dL_law_274 x_get_7_4 ?_
    refine x_iconst dL_law_276 ?_
    refine x_iadd dL_law_277 ?_
    refine x_slz dL_law_278 (by omega) (by omega) hs ?_
    refine x_aload_n dL_law_279 x_get_7_0 ?_
    refine x_iload dL_law_280 x_get_7_4 ?_
    refine x_iconst dL_law_282 ?_
    refine x_iadd dL_law_283 ?_
    refine x_slz dL_law_284 (by omega) (by omega) hs ?_
    refine x_callV (As := [_, _, _, _, _]) dL_law_285 w_L_120 hm (by decide) s62 rfl rfl (Nat.le_of_ble_eq_true rfl) (Nat.le_of_ble_eq_true rfl) (Nat.le_of_ble_eq_true rfl) (show _ + 0 ≤ 601024 from hk) (show _ + 0 ≤ 7293034 from hn) ?_
    rintro d3 ⟨g70, g62, gf3⟩
    refine x_icmp_eq (t := 2520) dL_law_288 rfl (fun hc288 => ?_) (fun hc288 => absurd hc288 (fun hh => hh rfl))
    exact hK _ _ _ _ _ _ _ _ _ _ (jq_feed h hv f2 f0 ff g70 g62 gf3)
  · skip
    have hc := c11_feedR (X := X) (l := l) hl hq (k := kt) (z1 := (xsv X (i + 1))) (z2 := (xsv X (i + 2))) (z3 := (xsv X (i + 3))) (z4 := (xsv X (i + 4))) (z5 := (xsv X (i + 5))) k1 hv k2
    refine x_aload_n dL_law_220 x_get_7_1 ?_
    refine x_aload_n dL_law_221 x_get_7_0 ?_
    refine x_iload dL_law_222 x_get_7_4 ?_
    refine x_iconst dL_law_224 ?_
    refine x_iadd dL_law_225 ?_
    refine x_slz dL_law_226 (by omega) (by omega) hs ?_
    refine x_aload_n dL_law_227 x_get_7_0 ?_
    refine x_iload dL_law_228 x_get_7_4 ?_
    refine x_iconst dL_law_230 ?_
    refine x_iadd dL_law_231 ?_
    refine x_slz dL_law_232 (by omega) (by omega) hs ?_
    refine x_aload_n dL_law_233 x_get_7_0 ?_
    refine x_iload dL_law_234 x_get_7_4 ?_
    refine x_iconst dL_law_236 ?_
    refine x_iadd dL_law_237 ?_
    refine x_slz dL_law_238 (by omega) (by omega) hs ?_
    refine x_aload_n dL_law_239 x_get_7_0 ?_
    refine x_iload dL_law_240 x_get_7_4 ?_
    refine x_iconst dL_law_242 ?_
    refine x_iadd dL_law_243 ?_
    refine x_slz dL_law_244 (by omega) (by omega) hs ?_
    refine x_aload_n dL_law_245 x_get_7_0 ?_
    refine x_iload dL_law_246 x_get_7_4 ?_
    refine x_iconst dL_law_248 ?_
    refine x_iadd dL_law_249 ?_
    refine x_slz dL_law_250 (by omega) (by omega) hs ?_
    refine x_callV (As := [_, _, _, _, _]) dL_law_251 w_L_116 hc (by decide) s0 rfl rfl (Nat.le_of_ble_eq_true rfl) (Nat.le_of_ble_eq_true rfl) (Nat.le_of_ble_eq_true rfl) hk hn ?_
    intro d1 hd1
    obtain ⟨m1, m2, m3, m4, m5, m6, m7, m8, m9⟩ := jq_out (d1 := d1) (q := .inr x_NSE) h (sc_62 (by omega) hd1)
    simp only [outw_t] at m1 m2 m3 m4 m5 m6 m7 m8 m9
    have hm := m_feedR (X := X) (l := l) hl hMd (D := d1) (k := kt) (z1 := (xsv X (i + 1))) (z2 := (xsv X (i + 2))) (z3 := (xsv X (i + 3))) (z4 := (xsv X (i + 4))) (z5 := (xsv X (i + 5))) k1 hv (by rw [m7]; exact k3)
    refine x_aload_n dL_law_254 x_get_7_2 ?_
    refine x_aload_n dL_law_255 x_get_7_0 ?_
    refine x_iload dL_law_256 x_get_7_4 ?_
    refine x_iconst dL_law_258 ?_
    refine x_iadd dL_law_259 ?_
    refine x_slz dL_law_260 (by omega) (by omega) hs ?_
    refine x_aload_n dL_law_261 x_get_7_0 ?_
    refine x_iload dL_law_262 x_get_7_4 ?_
    refine x_iconst dL_law_264 ?_
    refine x_iadd dL_law_265 ?_
    refine x_slz dL_law_266 (by omega) (by omega) hs ?_
    refine x_aload_n dL_law_267 x_get_7_0 ?_
    refine x_iload dL_law_268 x_get_7_4 ?_
    refine x_iconst dL_law_270 ?_
    refine x_iadd dL_law_271 ?_
    refine x_slz dL_law_272 (by omega) (by omega) hs ?_
    refine x_aload_n dL_law_273 x_get_7_0 ?_
    refine x_iload dL_law_274 x_get_7_4 ?_
    refine x_iconst dL_law_276 ?_
    refine x_iadd dL_law_277 ?_
    refine x_slz dL_law_278 (by omega) (by omega) hs ?_
    refine x_aload_n dL_law_279 x_get_7_0 ?_
    refine x_iload dL_law_280 x_get_7_4 ?_
    refine x_iconst dL_law_282 ?_
    refine x_iadd dL_law_283 ?_
    refine x_slz dL_law_284 (by omega) (by omega) hs ?_
    refine x_callV (As := [_, _, _, _, _]) dL_law_285 w_L_120 hm (by decide) s62 rfl rfl (Nat.le_of_ble_eq_true rfl) (Nat.le_of_ble_eq_true rfl) (Nat.le_of_ble_eq_true rfl) (show _ + 0 ≤ 601024 from hk) (show _ + 0 ≤ 7293034 from hn) ?_
    intro d3 hd3
    have hms : ms (outw (.inr x_NSE) d1) d3 := by rw [outw_t, hd3]; exact ms_0 m3
    refine x_icmp_eq (t := 2520) dL_law_288 rfl (fun hc288 => ?_) (fun hc288 => absurd hc288 (fun hh => hh rfl))
    exact hK _ _ _ _ _ _ _ _ _ _ (jq_ask h hd1 hms)
set_option maxHeartbeats 2000000 in
theorem lc_fault {X : xC} {l : Launch} {nm : String} {hh : List (Nat × Nat × Nat × Nat)} (hl : l.stackTraces = false) {sh : xS} {D : xM} {la lb T C W : Nat} {G : Ldt} {L : List (Int → Int)} {S : List (Int × Int × Int)} (h : jq sh D la lb T C W G L S) {i : Int} {k n : Nat} (hi0 : 0 ≤ i) (hi : i + 6 ≤ xsl X) (hs : xsl X ≤ 3072) (hk : k + 1 ≤ 601024) (hn : n + 6 ≤ 7293034) (hK : Kn X l nm hh i (k + 1) (n + 6)) : x_W (zL X l nm hh) 349 [some (.ref (xsc X)), some (.ref (x_b X + 0)), some (.ref (x_b X + 62)), some (.ref (x_b X + 96)), some (.int (xI i)), none, none] [] k n false 97 sh D := by
  have hll := jq_ll h
  have hq := h.1
  have s0 := h.1.1.2.1
  have hMd := h.2.1.1
  have s62 := md_62 hMd
  have so := h.2.2.1
  have hrow : k_row T C (D 34) := h.1.2.2.2.1
  obtain ⟨hsk, hsB⟩ := row_B hrow
  have hT : T ≤ 8 := h.2.1.2.2.1
  have hC : C ≤ 10 := h.2.1.2.2.2.2.2.2.1
  have hA := h.2.2.2.2.2.1.1
  have hL := h.2.2.2.2.2.1.2.2
  have hS := h.2.2.2.2.2.2.1.1
  have hlw := h.2.2.2.2.2.2.2.2.1
  have hws := h.2.2.2.2.2.2.2.2.2.2.2.1
  have hc := c11_fault (X := X) (l := l) hl hq
  refine x_aload_n dL_law_349 x_get_7_1 ?_
  refine x_callV (As := []) dL_law_350 w_L_131 hc (by decide) s0 rfl rfl (Nat.le_of_ble_eq_true rfl) (Nat.le_of_ble_eq_true rfl) (Nat.le_of_ble_eq_true rfl) hk hn ?_
  intro d1 hd1
  obtain ⟨m1, m2, m3, m4, m5, m6, m7, m8, m9⟩ := jq_out (d1 := d1) (q := .inr x_NSE) h (sc_62 (by omega) hd1)
  simp only [outw_t] at m1 m2 m3 m4 m5 m6 m7 m8 m9
  have hm := m_fault (X := X) (l := l) hl hMd (D := d1)
  rw [show d1 62 15 = D 0 14 by rw [m7]; exact h.2.2.2.2.2.2.2.2.2.1.symm] at hm
  refine x_aload_n dL_law_353 x_get_7_2 ?_
  refine x_callV (As := []) dL_law_354 w_L_134 hm (by decide) s62 rfl rfl (Nat.le_of_ble_eq_true rfl) (Nat.le_of_ble_eq_true rfl) (Nat.le_of_ble_eq_true rfl) (show _ + 0 ≤ 601024 from hk) (show _ + 0 ≤ 7293034 from hn) ?_
  intro d3 hd3
  have hms : ms (outw (.inr x_NSE) d1) d3 := by rw [outw_t, hd3]; exact ms_0 m3
  refine x_icmp_eq (t := 2520) dL_law_357 rfl (fun hc357 => ?_) (fun hc357 => absurd hc357 (fun hh => hh rfl))
  exact hK _ _ _ _ _ _ _ _ _ _ (jq_ask h hd1 hms)
set_option maxHeartbeats 2000000 in
theorem lc_days {X : xC} {l : Launch} {nm : String} {hh : List (Nat × Nat × Nat × Nat)} (hl : l.stackTraces = false) {sh : xS} {D : xM} {la lb T C W : Nat} {G : Ldt} {L : List (Int → Int)} {S : List (Int × Int × Int)} (h : jq sh D la lb T C W G L S) {i : Int} {k n : Nat} (hi0 : 0 ≤ i) (hi : i + 6 ≤ xsl X) (hs : xsl X ≤ 3072) (hk : k + 1 ≤ 601024) (hn : n + 6 ≤ 7293034) (hK : Kn X l nm hh i (k + 1) (n + 6)) : x_W (zL X l nm hh) 554 [some (.ref (xsc X)), some (.ref (x_b X + 0)), some (.ref (x_b X + 62)), some (.ref (x_b X + 96)), some (.int (xI i)), none, none] [] k n false 97 sh D := by
  have hll := jq_ll h
  have hq := h.1
  have s0 := h.1.1.2.1
  have hMd := h.2.1.1
  have s62 := md_62 hMd
  have so := h.2.2.1
  have hrow : k_row T C (D 34) := h.1.2.2.2.1
  obtain ⟨hsk, hsB⟩ := row_B hrow
  have hT : T ≤ 8 := h.2.1.2.2.1
  have hC : C ≤ 10 := h.2.1.2.2.2.2.2.2.1
  have hA := h.2.2.2.2.2.1.1
  have hL := h.2.2.2.2.2.1.2.2
  have hS := h.2.2.2.2.2.2.1.1
  have hlw := h.2.2.2.2.2.2.2.2.1
  have hws := h.2.2.2.2.2.2.2.2.2.2.2.1
  by_cases hv : 1 ≤ (xsv X (i + 1)) ∧ (xsv X (i + 1)) ≤ 30 ∧ D 34 0 + (xsv X (i + 1)) ≤ 999
  · obtain ⟨m, hme⟩ := Int.eq_ofNat_of_zero_le (show 0 ≤ (xsv X (i + 1)) by omega)
    have hc := c11_days (X := X) (l := l) hl hq hA (n := m) (by omega) (by omega) (by omega)
    rw [← hme] at hc
    refine x_aload_n dL_law_554 x_get_7_1 ?_
    refine x_aload_n dL_law_555 x_get_7_0 ?_
    refine x_iload dL_law_556 x_get_7_4 ?_
    refine x_iconst dL_law_558 ?_
    refine x_iadd dL_law_559 ?_
    refine x_slz dL_law_560 (by omega) (by omega) hs ?_
    refine x_callV (As := [_]) dL_law_561 w_L_145 hc (by decide) s0 rfl rfl (Nat.le_of_ble_eq_true rfl) (Nat.le_of_ble_eq_true rfl) (Nat.le_of_ble_eq_true rfl) hk hn ?_
    rintro d1 ⟨h34, hA1, hac⟩
    obtain ⟨m1, m2, m3, m4, m5, m6, m7, m8, m9⟩ := jq_out (d1 := d1) (q := .inr x_NSE) h (fun j a => hac.1 j (by omega) (by omega) (by omega) (by omega))
    simp only [outw_t] at m1 m2 m3 m4 m5 m6 m7 m8 m9
    have hm := m_days (X := X) (l := l) hl m1 hsk hsB m2 m3 m4 (n := m) (by omega) (by omega) (by omega)
    rw [← hme] at hm
    refine x_aload_n dL_law_564 x_get_7_2 ?_
    refine x_aload_n dL_law_565 x_get_7_0 ?_
    refine x_iload dL_law_566 x_get_7_4 ?_
    refine x_iconst dL_law_568 ?_
    refine x_iadd dL_law_569 ?_
    refine x_slz dL_law_570 (by omega) (by omega) hs ?_
    refine x_callV (As := [_]) dL_law_571 w_L_148 hm (by decide) s62 rfl rfl (Nat.le_of_ble_eq_true rfl) (Nat.le_of_ble_eq_true rfl) (Nat.le_of_ble_eq_true rfl) (show _ + 0 ≤ 601024 from hk) (show _ + 0 ≤ 7293034 from hn) ?_
    rintro d3 ⟨ham, hmr, hmA⟩
    refine x_icmp_eq (t := 2520) dL_law_574 rfl (fun hc574 => ?_) (fun hc574 => absurd hc574 (fun hh => hh rfl))
    exact hK _ _ _ _ _ _ _ _ _ _ (jq_did (q := .inr x_NSE) h h34 hA1 hac ham hmr hmA (row_days hrow h.2.1.2.2.2.2.2.2.2.2.1 hT hC (by omega)) (row_keep hL hrow))
  · skip
    have hc := c11_daysR (X := X) (l := l) hl hq (n := (xsv X (i + 1))) xsv_r hv
    refine x_aload_n dL_law_554 x_get_7_1 ?_
    refine x_aload_n dL_law_555 x_get_7_0 ?_
    refine x_iload dL_law_556 x_get_7_4 ?_
    refine x_iconst dL_law_558 ?_
    refine x_iadd dL_law_559 ?_
    refine x_slz dL_law_560 (by omega) (by omega) hs ?_
    refine x_callV (As := [_]) dL_law_561 w_L_145 hc (by decide) s0 rfl rfl (Nat.le_of_ble_eq_true rfl) (Nat.le_of_ble_eq_true rfl) (Nat.le_of_ble_eq_true rfl) hk hn ?_
    intro d1 hd1
    obtain ⟨m1, m2, m3, m4, m5, m6, m7, m8, m9⟩ := jq_out (d1 := d1) (q := .inr x_NSE) h (fun j a => by rw [hd1]; exact x_up_n (by omega))
    simp only [outw_t] at m1 m2 m3 m4 m5 m6 m7 m8 m9
    have hm := m_daysR (X := X) (l := l) hl m1 hsk hsB m2 m3 (n := (xsv X (i + 1))) xsv_r hv
    refine x_aload_n dL_law_564 x_get_7_2 ?_
    refine x_aload_n dL_law_565 x_get_7_0 ?_
    refine x_iload dL_law_566 x_get_7_4 ?_
    refine x_iconst dL_law_568 ?_
    refine x_iadd dL_law_569 ?_
    refine x_slz dL_law_570 (by omega) (by omega) hs ?_
    refine x_callV (As := [_]) dL_law_571 w_L_148 hm (by decide) s62 rfl rfl (Nat.le_of_ble_eq_true rfl) (Nat.le_of_ble_eq_true rfl) (Nat.le_of_ble_eq_true rfl) (show _ + 0 ≤ 601024 from hk) (show _ + 0 ≤ 7293034 from hn) ?_
    intro d3 hd3
    refine x_icmp_eq (t := 2520) dL_law_574 rfl (fun hc574 => ?_) (fun hc574 => absurd hc574 (fun hh => hh rfl))
    exact hK _ _ _ _ _ _ _ _ _ _ (jq_not (q := .inr x_NSE) (k := 1) h (by rw [hd3, hd1]; rfl) (Or.inl rfl))
set_option maxHeartbeats 2000000 in
theorem lc_undo {X : xC} {l : Launch} {nm : String} {hh : List (Nat × Nat × Nat × Nat)} (hl : l.stackTraces = false) {sh : xS} {D : xM} {la lb T C W : Nat} {G : Ldt} {L : List (Int → Int)} {S : List (Int × Int × Int)} (h : jq sh D la lb T C W G L S) {i : Int} {k n : Nat} (hi0 : 0 ≤ i) (hi : i + 6 ≤ xsl X) (hs : xsl X ≤ 3072) (hk : k + 1 ≤ 601024) (hn : n + 6 ≤ 7293034) (hK : Kn X l nm hh i (k + 1) (n + 6)) : x_W (zL X l nm hh) 862 [some (.ref (xsc X)), some (.ref (x_b X + 0)), some (.ref (x_b X + 62)), some (.ref (x_b X + 96)), some (.int (xI i)), none, none] [] k n false 97 sh D := by
  have hll := jq_ll h
  have hq := h.1
  have s0 := h.1.1.2.1
  have hMd := h.2.1.1
  have s62 := md_62 hMd
  have so := h.2.2.1
  have hrow : k_row T C (D 34) := h.1.2.2.2.1
  obtain ⟨hsk, hsB⟩ := row_B hrow
  have hT : T ≤ 8 := h.2.1.2.2.1
  have hC : C ≤ 10 := h.2.1.2.2.2.2.2.2.1
  have hA := h.2.2.2.2.2.1.1
  have hL := h.2.2.2.2.2.1.2.2
  have hS := h.2.2.2.2.2.2.1.1
  have hlw := h.2.2.2.2.2.2.2.2.1
  have hws := h.2.2.2.2.2.2.2.2.2.2.2.1
  rcases L.eq_nil_or_concat with hL0 | ⟨L', f, hL0⟩
  · subst hL0
    have hc := c11_undo0 (X := X) (l := l) hl hq hA
    refine x_aload_n dL_law_862 x_get_7_1 ?_
    refine x_callV (As := []) dL_law_863 w_L_162 hc (by decide) s0 rfl rfl (Nat.le_of_ble_eq_true rfl) (Nat.le_of_ble_eq_true rfl) (Nat.le_of_ble_eq_true rfl) hk hn ?_
    intro d1 hd1
    obtain ⟨m1, m2, m3, m4, m5, m6, m7, m8, m9⟩ := jq_out (d1 := d1) (q := .inr x_NSE) h (sc_62 (by omega) hd1)
    simp only [outw_t] at m1 m2 m3 m4 m5 m6 m7 m8 m9
    have hm := m_undo0 (X := X) (l := l) hl m1 hsk hsB m2 m3 m4
    refine x_aload_n dL_law_866 x_get_7_2 ?_
    refine x_callV (As := []) dL_law_867 w_L_165 hm (by decide) s62 rfl rfl (Nat.le_of_ble_eq_true rfl) (Nat.le_of_ble_eq_true rfl) (Nat.le_of_ble_eq_true rfl) (show _ + 0 ≤ 601024 from hk) (show _ + 0 ≤ 7293034 from hn) ?_
    rintro d3 ⟨hms, h0⟩
    refine x_icmp_eq (t := 2520) dL_law_870 rfl (fun hc870 => ?_) (fun hc870 => absurd hc870 (fun hh => hh rfl))
    exact hK _ _ _ _ _ _ _ _ _ _ (jq_ask (q := .inr x_NSE) h hd1 hms)
  · rw [List.concat_eq_append] at hL0
    subst hL0
    have hf : k_row T C f := hL f (List.mem_append_right _ List.mem_cons_self)
    have hx12 : ∀ j, x_r (D (la + 12) j) := by
      obtain ⟨n0, h1, h2⟩ := hq.2.1
      exact h1.2.2.2.2.2.2.2.2
    have hc := c11_undo (X := X) (l := l) hl hq hA
    refine x_aload_n dL_law_862 x_get_7_1 ?_
    refine x_callV (As := []) dL_law_863 w_L_162 hc (by decide) s0 rfl rfl (Nat.le_of_ble_eq_true rfl) (Nat.le_of_ble_eq_true rfl) (Nat.le_of_ble_eq_true rfl) hk hn ?_
    rintro d1 ⟨h34, hA1, hf1⟩
    have hac : ac la D d1 := ⟨fun j a b c e => hf1 j b a, by rw [hf1 (la + 12) (by omega) (by omega)]; exact hx12⟩
    obtain ⟨m1, m2, m3, m4, m5, m6, m7, m8, m9⟩ := jq_out (d1 := d1) (q := .inr x_NSE) h (fun j a => hf1 j (by omega) (by omega))
    simp only [outw_t] at m1 m2 m3 m4 m5 m6 m7 m8 m9
    have hm := m_undo (X := X) (l := l) hl m1 hsk hsB m2 m3 m4
    refine x_aload_n dL_law_866 x_get_7_2 ?_
    refine x_callV (As := []) dL_law_867 w_L_165 hm (by decide) s62 rfl rfl (Nat.le_of_ble_eq_true rfl) (Nat.le_of_ble_eq_true rfl) (Nat.le_of_ble_eq_true rfl) (show _ + 0 ≤ 601024 from hk) (show _ + 0 ≤ 7293034 from hn) ?_
    rintro d3 ⟨ham, hmr, hmA⟩
    refine x_icmp_eq (t := 2520) dL_law_870 rfl (fun hc870 => ?_) (fun hc870 => absurd hc870 (fun hh => hh rfl))
    exact hK _ _ _ _ _ _ _ _ _ _ (jq_did (q := .inr x_NSE) h h34 hA1 hac ham hmr hmA hf (fun g hg => hL g (List.mem_append_left _ hg)))
set_option maxHeartbeats 2000000 in
theorem lc_forget {X : xC} {l : Launch} {nm : String} {hh : List (Nat × Nat × Nat × Nat)} (hl : l.stackTraces = false) {sh : xS} {D : xM} {la lb T C W : Nat} {G : Ldt} {L : List (Int → Int)} {S : List (Int × Int × Int)} (h : jq sh D la lb T C W G L S) {i : Int} {k n : Nat} (hi0 : 0 ≤ i) (hi : i + 6 ≤ xsl X) (hs : xsl X ≤ 3072) (hk : k + 1 ≤ 601024) (hn : n + 6 ≤ 7293034) (hK : Kn X l nm hh i (k + 1) (n + 6)) : x_W (zL X l nm hh) 1659 [some (.ref (xsc X)), some (.ref (x_b X + 0)), some (.ref (x_b X + 62)), some (.ref (x_b X + 96)), some (.int (xI i)), none, none] [] k n false 97 sh D := by
  have hll := jq_ll h
  have hq := h.1
  have s0 := h.1.1.2.1
  have hMd := h.2.1.1
  have s62 := md_62 hMd
  have so := h.2.2.1
  have hrow : k_row T C (D 34) := h.1.2.2.2.1
  obtain ⟨hsk, hsB⟩ := row_B hrow
  have hT : T ≤ 8 := h.2.1.2.2.1
  have hC : C ≤ 10 := h.2.1.2.2.2.2.2.2.1
  have hA := h.2.2.2.2.2.1.1
  have hL := h.2.2.2.2.2.1.2.2
  have hS := h.2.2.2.2.2.2.1.1
  have hlw := h.2.2.2.2.2.2.2.2.1
  have hws := h.2.2.2.2.2.2.2.2.2.2.2.1
  have hc := c11_forget (X := X) (l := l) hl hq
  refine x_aload_n dL_law_1659 x_get_7_1 ?_
  refine x_callV (As := []) dL_law_1660 w_L_201 hc (by decide) s0 rfl rfl (Nat.le_of_ble_eq_true rfl) (Nat.le_of_ble_eq_true rfl) (Nat.le_of_ble_eq_true rfl) hk hn ?_
  rintro d1 ⟨hS1, hf1⟩
  have hm := m_forget (X := X) (l := l) hl hMd (D := d1)
  refine x_aload_n dL_law_1663 x_get_7_2 ?_
  refine x_callV (As := []) dL_law_1664 w_L_204 hm (by decide) s62 rfl rfl (Nat.le_of_ble_eq_true rfl) (Nat.le_of_ble_eq_true rfl) (Nat.le_of_ble_eq_true rfl) (show _ + 0 ≤ 601024 from hk) (show _ + 0 ≤ 7293034 from hn) ?_
  intro d3 hd3
  refine x_goto (t := 2520) dL_law_1667 rfl ?_
  exact hK _ _ _ _ _ _ _ _ _ _ (jq_forget h hS1 hf1 hd3)
set_option maxHeartbeats 2000000 in
theorem lc_missed {X : xC} {l : Launch} {nm : String} {hh : List (Nat × Nat × Nat × Nat)} (hl : l.stackTraces = false) {sh : xS} {D : xM} {la lb T C W : Nat} {G : Ldt} {L : List (Int → Int)} {S : List (Int × Int × Int)} (h : jq sh D la lb T C W G L S) {i : Int} {k n : Nat} (hi0 : 0 ≤ i) (hi : i + 6 ≤ xsl X) (hs : xsl X ≤ 3072) (hk : k + 1 ≤ 601024) (hn : n + 6 ≤ 7293034) (hK : Kn X l nm hh i (k + 1) (n + 6)) : x_W (zL X l nm hh) 1838 [some (.ref (xsc X)), some (.ref (x_b X + 0)), some (.ref (x_b X + 62)), some (.ref (x_b X + 96)), some (.int (xI i)), none, none] [] k n false 97 sh D := by
  have hll := jq_ll h
  have hq := h.1
  have s0 := h.1.1.2.1
  have hMd := h.2.1.1
  have s62 := md_62 hMd
  have so := h.2.2.1
  have hrow : k_row T C (D 34) := h.1.2.2.2.1
  obtain ⟨hsk, hsB⟩ := row_B hrow
  have hT : T ≤ 8 := h.2.1.2.2.1
  have hC : C ≤ 10 := h.2.1.2.2.2.2.2.2.1
  have hA := h.2.2.2.2.2.1.1
  have hL := h.2.2.2.2.2.1.2.2
  have hS := h.2.2.2.2.2.2.1.1
  have hlw := h.2.2.2.2.2.2.2.2.1
  have hws := h.2.2.2.2.2.2.2.2.2.2.2.1
  have hc := c11_missed (X := X) (l := l) hl hq
  refine x_aload_n dL_law_1838 x_get_7_1 ?_
  refine x_callV (As := []) dL_law_1839 w_L_214 hc (by decide) s0 rfl rfl (Nat.le_of_ble_eq_true rfl) (Nat.le_of_ble_eq_true rfl) (Nat.le_of_ble_eq_true rfl) hk hn ?_
  intro d1 hd1
  obtain ⟨m1, m2, m3, m4, m5, m6, m7, m8, m9⟩ := jq_out (d1 := d1) (q := .inr x_NSE) h (sc_62 (by omega) hd1)
  simp only [outw_t] at m1 m2 m3 m4 m5 m6 m7 m8 m9
  have hm := m_missed (X := X) (l := l) hl m1 hsk hsB m2 m3 (pl_row hrow)
  rw [m_r_i] at hm
  refine x_aload_n dL_law_1842 x_get_7_2 ?_
  refine x_callV (As := []) dL_law_1843 w_L_217 hm (by decide) s62 rfl rfl (Nat.le_of_ble_eq_true rfl) (Nat.le_of_ble_eq_true rfl) (Nat.le_of_ble_eq_true rfl) (show _ + 0 ≤ 601024 from hk) (show _ + 0 ≤ 7293034 from hn) ?_
  rintro d3 ⟨hms, h0⟩
  refine x_icmp_eq (t := 2520) dL_law_1846 rfl (fun hc1846 => ?_) (fun hc1846 => absurd hc1846 (fun hh => hh rfl))
  exact hK _ _ _ _ _ _ _ _ _ _ (jq_ask (q := .inr x_NSE) h hd1 hms)
set_option maxHeartbeats 2000000 in
theorem lc_hub {X : xC} {l : Launch} {nm : String} {hh : List (Nat × Nat × Nat × Nat)} (hl : l.stackTraces = false) {sh : xS} {D : xM} {la lb T C W : Nat} {G : Ldt} {L : List (Int → Int)} {S : List (Int × Int × Int)} (h : jq sh D la lb T C W G L S) {i : Int} {k n : Nat} (hi0 : 0 ≤ i) (hi : i + 6 ≤ xsl X) (hs : xsl X ≤ 3072) (hk : k + 1 ≤ 601024) (hn : n + 6 ≤ 7293034) (hK : Kn X l nm hh i (k + 1) (n + 6)) : x_W (zL X l nm hh) 2159 [some (.ref (xsc X)), some (.ref (x_b X + 0)), some (.ref (x_b X + 62)), some (.ref (x_b X + 96)), some (.int (xI i)), none, none] [] k n false 97 sh D := by
  have hll := jq_ll h
  have hq := h.1
  have s0 := h.1.1.2.1
  have hMd := h.2.1.1
  have s62 := md_62 hMd
  have so := h.2.2.1
  have hrow : k_row T C (D 34) := h.1.2.2.2.1
  obtain ⟨hsk, hsB⟩ := row_B hrow
  have hT : T ≤ 8 := h.2.1.2.2.1
  have hC : C ≤ 10 := h.2.1.2.2.2.2.2.2.1
  have hA := h.2.2.2.2.2.1.1
  have hL := h.2.2.2.2.2.1.2.2
  have hS := h.2.2.2.2.2.2.1.1
  have hlw := h.2.2.2.2.2.2.2.2.1
  have hws := h.2.2.2.2.2.2.2.2.2.2.2.1
  have hc := c11_hub (X := X) (l := l) hl hq
  refine x_aload_n dL_law_2159 x_get_7_1 ?_
  refine x_callV (As := []) dL_law_2160 w_L_230 hc (by decide) s0 rfl rfl (Nat.le_of_ble_eq_true rfl) (Nat.le_of_ble_eq_true rfl) (Nat.le_of_ble_eq_true rfl) hk hn ?_
  intro d1 hd1
  obtain ⟨m1, m2, m3, m4, m5, m6, m7, m8, m9⟩ := jq_out (d1 := d1) (q := .inr x_NSE) h (sc_62 (by omega) hd1)
  simp only [outw_t] at m1 m2 m3 m4 m5 m6 m7 m8 m9
  have hm := m_hub (X := X) (l := l) hl m1 hsk hsB m2 m3 m6
  rw [eq_hub hws hT, m_r_i] at hm
  refine x_aload_n dL_law_2163 x_get_7_2 ?_
  refine x_callV (As := []) dL_law_2164 w_L_233 hm (by decide) s62 rfl rfl (Nat.le_of_ble_eq_true rfl) (Nat.le_of_ble_eq_true rfl) (Nat.le_of_ble_eq_true rfl) (show _ + 0 ≤ 601024 from hk) (show _ + 0 ≤ 7293034 from hn) ?_
  rintro d3 ⟨hms, h0⟩
  refine x_icmp_eq (t := 2520) dL_law_2167 rfl (fun hc2167 => ?_) (fun hc2167 => absurd hc2167 (fun hh => hh rfl))
  exact hK _ _ _ _ _ _ _ _ _ _ (jq_ask (q := .inr x_NSE) h hd1 hms)
set_option maxHeartbeats 2000000 in
theorem lc_spoilt {X : xC} {l : Launch} {nm : String} {hh : List (Nat × Nat × Nat × Nat)} (hl : l.stackTraces = false) {sh : xS} {D : xM} {la lb T C W : Nat} {G : Ldt} {L : List (Int → Int)} {S : List (Int × Int × Int)} (h : jq sh D la lb T C W G L S) {i : Int} {k n : Nat} (hi0 : 0 ≤ i) (hi : i + 6 ≤ xsl X) (hs : xsl X ≤ 3072) (hk : k + 1 ≤ 601024) (hn : n + 6 ≤ 7293034) (hK : Kn X l nm hh i (k + 1) (n + 6)) : x_W (zL X l nm hh) 2483 [some (.ref (xsc X)), some (.ref (x_b X + 0)), some (.ref (x_b X + 62)), some (.ref (x_b X + 96)), some (.int (xI i)), none, none] [] k n false 97 sh D := by
  have hll := jq_ll h
  have hq := h.1
  have s0 := h.1.1.2.1
  have hMd := h.2.1.1
  have s62 := md_62 hMd
  have so := h.2.2.1
  have hrow : k_row T C (D 34) := h.1.2.2.2.1
  obtain ⟨hsk, hsB⟩ := row_B hrow
  have hT : T ≤ 8 := h.2.1.2.2.1
  have hC : C ≤ 10 := h.2.1.2.2.2.2.2.2.1
  have hA := h.2.2.2.2.2.1.1
  have hL := h.2.2.2.2.2.1.2.2
  have hS := h.2.2.2.2.2.2.1.1
  have hlw := h.2.2.2.2.2.2.2.2.1
  have hws := h.2.2.2.2.2.2.2.2.2.2.2.1
  have hc := c11_spoilt (X := X) (l := l) hl hq
  refine x_aload_n dL_law_2483 x_get_7_1 ?_
  refine x_callV (As := []) dL_law_2484 w_L_249 hc (by decide) s0 rfl rfl (Nat.le_of_ble_eq_true rfl) (Nat.le_of_ble_eq_true rfl) (Nat.le_of_ble_eq_true rfl) hk hn ?_
  intro d1 hd1
  obtain ⟨m1, m2, m3, m4, m5, m6, m7, m8, m9⟩ := jq_out (d1 := d1) (q := .inr x_NSE) h (sc_62 (by omega) hd1)
  simp only [outw_t] at m1 m2 m3 m4 m5 m6 m7 m8 m9
  have hm := m_spoilt (X := X) (l := l) hl m1 hsk hsB m2 m3
  rw [m_r_i] at hm
  refine x_aload_n dL_law_2487 x_get_7_2 ?_
  refine x_callV (As := []) dL_law_2488 w_L_252 hm (by decide) s62 rfl rfl (Nat.le_of_ble_eq_true rfl) (Nat.le_of_ble_eq_true rfl) (Nat.le_of_ble_eq_true rfl) (show _ + 0 ≤ 601024 from hk) (show _ + 0 ≤ 7293034 from hn) ?_
  rintro d3 ⟨hms, h0⟩
  refine x_icmp_eq (t := 2520) dL_law_2491 rfl (fun hc2491 => ?_) (fun hc2491 => absurd hc2491 (fun hh => hh rfl))
  exact hK _ _ _ _ _ _ _ _ _ _ (jq_ask (q := .inr x_NSE) h hd1 hms)
set_option maxHeartbeats 2000000 in
theorem lc_image {X : xC} {l : Launch} {nm : String} {hh : List (Nat × Nat × Nat × Nat)} (hl : l.stackTraces = false) {sh : xS} {D : xM} {la lb T C W : Nat} {G : Ldt} {L : List (Int → Int)} {S : List (Int × Int × Int)} (h : jq sh D la lb T C W G L S) {i : Int} {k n : Nat} (hi0 : 0 ≤ i) (hi : i + 6 ≤ xsl X) (hs : xsl X ≤ 3072) (hk : k + 1 ≤ 601024) (hn : n + 6 ≤ 7293034) (hK : Kn X l nm hh i (k + 1) (n + 6)) : x_W (zL X l nm hh) 2496 [some (.ref (xsc X)), some (.ref (x_b X + 0)), some (.ref (x_b X + 62)), some (.ref (x_b X + 96)), some (.int (xI i)), none, none] [] k n false 97 sh D := by
  have hll := jq_ll h
  have hq := h.1
  have s0 := h.1.1.2.1
  have hMd := h.2.1.1
  have s62 := md_62 hMd
  have so := h.2.2.1
  have hrow : k_row T C (D 34) := h.1.2.2.2.1
  obtain ⟨hsk, hsB⟩ := row_B hrow
  have hT : T ≤ 8 := h.2.1.2.2.1
  have hC : C ≤ 10 := h.2.1.2.2.2.2.2.2.1
  have hA := h.2.2.2.2.2.1.1
  have hL := h.2.2.2.2.2.1.2.2
  have hS := h.2.2.2.2.2.2.1.1
  have hlw := h.2.2.2.2.2.2.2.2.1
  have hws := h.2.2.2.2.2.2.2.2.2.2.2.1
  have hc := c11_image (X := X) (l := l) hl hq hA hS
  refine x_aload_n dL_law_2496 x_get_7_1 ?_
  refine x_callV (As := []) dL_law_2497 w_L_253 hc (by decide) s0 rfl rfl (Nat.le_of_ble_eq_true rfl) (Nat.le_of_ble_eq_true rfl) (Nat.le_of_ble_eq_true rfl) hk hn ?_
  rintro d1 ⟨h44, hA1, hS1, f0, ff⟩
  obtain ⟨m1, m2, m3, m4, m5, m6, m7, m8, m9⟩ := jq_out (d1 := d1) (q := .inr x_NSE) h (fun j a => ff j (by omega) (by omega))
  simp only [outw_t] at m1 m2 m3 m4 m5 m6 m7 m8 m9
  have hm := m_image (X := X) (l := l) hl m1 hsk hsB m2 m3 m4 m5
  refine x_aload_n dL_law_2500 x_get_7_2 ?_
  refine x_callV (As := []) dL_law_2501 w_L_256 hm (by decide) s62 rfl rfl (Nat.le_of_ble_eq_true rfl) (Nat.le_of_ble_eq_true rfl) (Nat.le_of_ble_eq_true rfl) (show _ + 0 ≤ 601024 from hk) (show _ + 0 ≤ 7293034 from hn) ?_
  intro d3 hd3
  refine x_goto (t := 2520) dL_law_2504 rfl ?_
  exact hK _ _ _ _ _ _ _ _ _ _ (jq_image h h44 hA1 hS1 f0 ff hd3)
set_option maxHeartbeats 2000000 in
theorem lc_restore {X : xC} {l : Launch} {nm : String} {hh : List (Nat × Nat × Nat × Nat)} (hl : l.stackTraces = false) {sh : xS} {D : xM} {la lb T C W : Nat} {G : Ldt} {L : List (Int → Int)} {S : List (Int × Int × Int)} (h : jq sh D la lb T C W G L S) {i : Int} {k n : Nat} (hi0 : 0 ≤ i) (hi : i + 6 ≤ xsl X) (hs : xsl X ≤ 3072) (hk : k + 1 ≤ 601024) (hn : n + 6 ≤ 7293034) (hK : Kn X l nm hh i (k + 1) (n + 6)) : x_W (zL X l nm hh) 2507 [some (.ref (xsc X)), some (.ref (x_b X + 0)), some (.ref (x_b X + 62)), some (.ref (x_b X + 96)), some (.int (xI i)), none, none] [] k n false 97 sh D := by
  have hll := jq_ll h
  have hq := h.1
  have s0 := h.1.1.2.1
  have hMd := h.2.1.1
  have s62 := md_62 hMd
  have so := h.2.2.1
  have hrow : k_row T C (D 34) := h.1.2.2.2.1
  obtain ⟨hsk, hsB⟩ := row_B hrow
  have hT : T ≤ 8 := h.2.1.2.2.1
  have hC : C ≤ 10 := h.2.1.2.2.2.2.2.2.1
  have hA := h.2.2.2.2.2.1.1
  have hL := h.2.2.2.2.2.1.2.2
  have hS := h.2.2.2.2.2.2.1.1
  have hlw := h.2.2.2.2.2.2.2.2.1
  have hws := h.2.2.2.2.2.2.2.2.2.2.2.1
  rcases h.2.2.2.2.2.2.2.2.2.2.2.2 with ⟨i1, i2⟩ | ⟨i1, Li, Si, i3, i4, i5, i6, i7, i8⟩
  · skip
    have hc := c11_restore0 (X := X) (l := l) hl hq i1
    refine x_aload_n dL_law_2507 x_get_7_1 ?_
    refine x_callV (As := []) dL_law_2508 w_L_257 hc (by decide) s0 rfl rfl (Nat.le_of_ble_eq_true rfl) (Nat.le_of_ble_eq_true rfl) (Nat.le_of_ble_eq_true rfl) hk hn ?_
    intro d1 hd1
    obtain ⟨m1, m2, m3, m4, m5, m6, m7, m8, m9⟩ := jq_out (d1 := d1) (q := .inr x_NSE) h (sc_62 (by omega) hd1)
    simp only [outw_t] at m1 m2 m3 m4 m5 m6 m7 m8 m9
    have hm := m_restore0 (X := X) (l := l) hl m1 hsk hsB m2 m3 (by rw [m7]; exact i2)
    refine x_aload_n dL_law_2511 x_get_7_2 ?_
    refine x_callV (As := []) dL_law_2512 w_L_261 hm (by decide) s62 rfl rfl (Nat.le_of_ble_eq_true rfl) (Nat.le_of_ble_eq_true rfl) (Nat.le_of_ble_eq_true rfl) (show _ + 0 ≤ 601024 from hk) (show _ + 0 ≤ 7293034 from hn) ?_
    rintro d3 ⟨hms, h0⟩
    refine x_icmp_eq (t := 2520) dL_law_2515 rfl (fun hc2515 => ?_) (fun hc2515 => absurd hc2515 (fun hh => hh rfl))
    exact hK _ _ _ _ _ _ _ _ _ _ (jq_ask (q := .inr x_NSE) h hd1 hms)
  · skip
    have hc := c11_restore (X := X) (l := l) hl hq i1 i3 i4
    refine x_aload_n dL_law_2507 x_get_7_1 ?_
    refine x_callV (As := []) dL_law_2508 w_L_257 hc (by decide) s0 rfl rfl (Nat.le_of_ble_eq_true rfl) (Nat.le_of_ble_eq_true rfl) (Nat.le_of_ble_eq_true rfl) hk hn ?_
    rintro d1 ⟨h34, hA1, hS1, ff⟩
    obtain ⟨m1, m2, m3, m4, m5, m6, m7, m8, m9⟩ := jq_out (d1 := d1) (q := .inr x_NSE) h (fun j a => ff j (by omega) (by omega))
    simp only [outw_t] at m1 m2 m3 m4 m5 m6 m7 m8 m9
    have i5b : mim T C d1 (D 44) Li Si := by
      unfold mim at i5 ⊢
      rw [ff 62 (by decide) (by decide), ff 93 (by decide) (by decide), ff 94 (by decide) (by decide), ff 95 (by decide) (by decide)]
      exact i5
    have hm := m_restore (X := X) (l := l) hl m1 hsk hsB m2 m3 i5b
    refine x_aload_n dL_law_2511 x_get_7_2 ?_
    refine x_callV (As := []) dL_law_2512 w_L_261 hm (by decide) s62 rfl rfl (Nat.le_of_ble_eq_true rfl) (Nat.le_of_ble_eq_true rfl) (Nat.le_of_ble_eq_true rfl) (show _ + 0 ≤ 601024 from hk) (show _ + 0 ≤ 7293034 from hn) ?_
    intro d3 hd3
    refine x_icmp_eq (t := 2520) dL_law_2515 rfl (fun hc2515 => ?_) (fun hc2515 => absurd hc2515 (fun hh => hh rfl))
    exact hK _ _ _ _ _ _ _ _ _ _ (jq_restore h i6 i7 i8 h34 hA1 hS1 ff hd3)
end L8
