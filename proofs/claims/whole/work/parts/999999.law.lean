section L9
/-! ===== the law: its loop, its start ===== -/
theorem w_L_112 : x_ci RL 112 yX11_init cX11_init 1 0 := ⟨(x_in 107 (by decide +kernel) rfl), (x_in 108 (by decide +kernel) rfl), rfl, (x_in 80 (by decide +kernel) rfl), (x_in 109 (by decide +kernel) rfl), by decide, ⟨by decide +kernel, by decide +kernel, by decide +kernel⟩⟩
theorem w_L_115 : x_ci RL 115 yX12_init cX12_init 1 0 := ⟨(x_in 1339 (by decide +kernel) rfl), (x_in 1340 (by decide +kernel) rfl), rfl, (x_in 90 (by decide +kernel) rfl), (x_in 1341 (by decide +kernel) rfl), by decide, ⟨by decide +kernel, by decide +kernel, by decide +kernel⟩⟩
theorem mk_L_8 : x_mk RL 8 11 [1, 0, 1, 1, 1, 1, 1, 0, 1, 1, 1, 1, 1, 1, 0] := ⟨(RX11, TX11, 15), tyX11, rfl, uX_11, tyX11_ok, (x_in 105 (by decide +kernel) rfl), (x_in 106 (by decide +kernel) rfl), (x_in 80 (by decide +kernel) rfl), rfl, by
  intro b j hj
  have hj : j < 15 := hj
  rcases (show j = 0 ∨ j = 1 ∨ j = 2 ∨ j = 3 ∨ j = 4 ∨ j = 5 ∨ j = 6 ∨ j = 7 ∨ j = 8 ∨ j = 9 ∨ j = 10 ∨ j = 11 ∨ j = 12 ∨ j = 13 ∨ j = 14 by omega) with rfl | rfl | rfl | rfl | rfl | rfl | rfl | rfl | rfl | rfl | rfl | rfl | rfl | rfl | rfl <;> rfl⟩
theorem mk_L_113 : x_mk RL 113 12 [0, 0, 0, 0, 0, 1, 1, 1, 1, 1, 1, 1, 1, 0, 0, 0, 1, 0, 0, 0, 0, 0, 0, 0, 2, 0, 0, 0, 0, 0, 0, 0, 1, 1, 1, 1, 1, 1, 1, 1, 1, 1, 1, 1, 0, 1, 1, 0, 1, 1, 1, 1, 0, 1, 1, 1, 0, 0, 0, 0, 1, 1, 1] := ⟨(RX12, TX12, 63), tyX12, rfl, uX_12, tyX12_ok, (x_in 1337 (by decide +kernel) rfl), (x_in 1338 (by decide +kernel) rfl), (x_in 90 (by decide +kernel) rfl), rfl, by
  intro b j hj
  have hj : j < 63 := hj
  rcases (show j = 0 ∨ j = 1 ∨ j = 2 ∨ j = 3 ∨ j = 4 ∨ j = 5 ∨ j = 6 ∨ j = 7 ∨ j = 8 ∨ j = 9 ∨ j = 10 ∨ j = 11 ∨ j = 12 ∨ j = 13 ∨ j = 14 ∨ j = 15 ∨ j = 16 ∨ j = 17 ∨ j = 18 ∨ j = 19 ∨ j = 20 ∨ j = 21 ∨ j = 22 ∨ j = 23 ∨ j = 24 ∨ j = 25 ∨ j = 26 ∨ j = 27 ∨ j = 28 ∨ j = 29 ∨ j = 30 ∨ j = 31 ∨ j = 32 ∨ j = 33 ∨ j = 34 ∨ j = 35 ∨ j = 36 ∨ j = 37 ∨ j = 38 ∨ j = 39 ∨ j = 40 ∨ j = 41 ∨ j = 42 ∨ j = 43 ∨ j = 44 ∨ j = 45 ∨ j = 46 ∨ j = 47 ∨ j = 48 ∨ j = 49 ∨ j = 50 ∨ j = 51 ∨ j = 52 ∨ j = 53 ∨ j = 54 ∨ j = 55 ∨ j = 56 ∨ j = 57 ∨ j = 58 ∨ j = 59 ∨ j = 60 ∨ j = 61 ∨ j = 62 by omega) with rfl | rfl | rfl | rfl | rfl | rfl | rfl | rfl | rfl | rfl | rfl | rfl | rfl | rfl | rfl | rfl | rfl | rfl | rfl | rfl | rfl | rfl | rfl | rfl | rfl | rfl | rfl | rfl | rfl | rfl | rfl | rfl | rfl | rfl | rfl | rfl | rfl | rfl | rfl | rfl | rfl | rfl | rfl | rfl | rfl | rfl | rfl | rfl | rfl | rfl | rfl | rfl | rfl | rfl | rfl | rfl | rfl | rfl | rfl | rfl | rfl | rfl | rfl <;> rfl⟩
def shF : xS := x_sp (shK (x_sp (sh11 (x_sp (fun _ => .inl (0, 0)) 0 (.inr (11, [1, 0, 1, 1, 1, 1, 1, 0, 1, 1, 1, 1, 1, 1, 0]))) 0) 62 (.inr (12, [0, 0, 0, 0, 0, 1, 1, 1, 1, 1, 1, 1, 1, 0, 0, 0, 1, 0, 0, 0, 0, 0, 0, 0, 2, 0, 0, 0, 0, 0, 0, 0, 1, 1, 1, 1, 1, 1, 1, 1, 1, 1, 1, 1, 0, 1, 1, 0, 1, 1, 1, 1, 0, 1, 1, 1, 0, 0, 0, 0, 1, 1, 1]))) md_ks) 96 (.inl (3, 1))
set_option maxRecDepth 20000 in
theorem shF_X : is_X 97 shF 18 3 := by
  unfold is_X is_L is_St is_Ac is_Se is_Co
  unfold is_St
  repeat' apply And.intro
  all_goals first | decide +kernel | exact Or.inr ⟨rfl, rfl⟩
set_option maxRecDepth 20000 in
theorem shF_M : is_Md 97 shF := by
  unfold is_Md
  repeat' apply And.intro
  all_goals decide +kernel
theorem shF_96 : shF 96 = .inl (3, 1) := by decide +kernel
theorem z_k : k_row 0 0 (fun _ => 0) := ⟨fun i => by show s_okv (161 * 0) i 0; unfold s_okv; omega, by decide, fun c a b => absurd b (by show ¬ c < 0; omega)⟩
theorem x_r_0 : x_r 0 := ⟨by decide, by decide⟩
theorem z_rd {D : xM} {ro : Nat} (h : ∀ j, ro ≤ j → j ≤ ro + 6 → D j = fun _ => 0) : rd D ro 0 0 := by
  have e : ∀ j, ro ≤ j → j ≤ ro + 6 → ∀ i, D j i = 0 := fun j a b i => by rw [h j a b]
  refine ⟨e ro (by omega) (by omega) 0, by decide, e ro (by omega) (by omega) 1, by decide, ?_, ?_, ?_, ?_, ?_, ?_⟩
  · intro j; rw [e (ro + 1) (by omega) (by omega)]; decide
  · intro j; rw [e (ro + 2) (by omega) (by omega)]; decide
  · intro j; rw [e (ro + 3) (by omega) (by omega)]; decide
  · intro j; rw [e (ro + 4) (by omega) (by omega)]; decide
  · intro j; rw [e (ro + 5) (by omega) (by omega)]; decide
  · intro j; rw [e (ro + 6) (by omega) (by omega)]; decide
theorem jq_init {D : xM} (h0 : D 0 1 = 0 ∧ D 0 7 = 0 ∧ D 0 14 = -1) (hz : ∀ j, 1 < j → j < 62 → D j = fun _ => 0) (h62 : ∀ i : Int, i ≠ 4 → i ≠ 15 → D 62 i = 0) (h4 : D 62 4 = -1) (h15 : D 62 15 = -1) (hm : ∀ j, 62 < j → j < 96 → D j = fun _ => 0) : jq shF D 18 3 0 0 0 (l_dt D 18 0 0) [] [] := by
  have ez : ∀ j, 1 < j → j < 62 → ∀ i, D j i = 0 := fun j a b i => by rw [hz j a b]
  have em : ∀ j, 62 < j → j < 96 → ∀ i, D j i = 0 := fun j a b i => by rw [hm j a b]
  have hld : ldG D 18 0 0 (l_dt D 18 0 0) := by
    refine ⟨0, ⟨ez 18 (by decide) (by decide) 0, by decide, ez 18 (by decide) (by decide) 1, by decide, ez (18 + 10) (by decide) (by decide) 2, ⟨⟨Or.inl (ez (18 + 10) (by decide) (by decide) _), Or.inl (ez (18 + 10) (by decide) (by decide) _)⟩, by decide, fun j a b => absurd b (by show ¬ j < 0; omega), trivial⟩, fun j => by rw [ez (18 + 1) (by decide) (by decide)]; decide, fun j => by rw [ez (18 + 2) (by decide) (by decide)]; decide, fun j => by rw [ez (18 + 12) (by decide) (by decide)]; exact x_r_0⟩, rfl⟩
  have hco : co_ok D 51 := by
    refine ⟨fun j => ?_, fun j => ?_, fun j => ?_, fun j => ?_⟩
    · rw [ez (51 + 1) (by decide) (by decide)]; decide
    · rw [ez (51 + 2) (by decide) (by decide)]; decide
    · rw [ez (51 + 3) (by decide) (by decide)]; decide
    · exact Or.inl (ez (51 + 4) (by decide) (by decide) j)
  have hk : k_row 0 0 (D 34) := by rw [hz 34 (by decide) (by decide)]; exact z_k
  refine ⟨⟨shF_X, hld, z_rd (fun j a b => hz j (by omega) (by omega)), hk, hco⟩, ⟨shF_M, h62 1 (by decide) (by decide), by decide, h62 2 (by decide) (by decide), by decide, h62 3 (by decide) (by decide), by decide, fun t a b => absurd b (by show ¬ t < 0; omega), ldG_G hld, ?_⟩, shF_96, ?_, ?_, ⟨?_, ?_, fun g hg => by cases hg⟩, ⟨?_, ?_, fun g hg => by cases hg⟩, ?_, ?_, ?_, ?_, ?_, ?_⟩
  · exact ⟨_, _, _, _, fun f t => rfl, Or.inl ⟨ez (18 + 10) (by decide) (by decide) _, h4⟩⟩
  · intro i _
    rw [em 82 (by decide) (by decide), ez 34 (by decide) (by decide)]
  · intro j; rw [em 84 (by decide) (by decide)]; exact x_r_0
  · exact ⟨0, by decide, ez 37 (by decide) (by decide) _, ez 37 (by decide) (by decide) _, by decide, fun k f hf => by simp at hf⟩
  · exact ⟨h62 44 (by decide) (by decide), by decide, fun k f hf => by simp at hf⟩
  · exact ⟨ez 39 (by decide) (by decide) _, by decide, fun k f hf => by simp at hf⟩
  · exact ⟨h62 52 (by decide) (by decide), by decide, fun k f hf => by simp at hf⟩
  · refine ⟨⟨0, by decide, h0.1, h62 13 (by decide) (by decide)⟩, fun j => by rw [ez 2 (by decide) (by decide)]; decide, fun i hi => ?_⟩
    rw [em 70 (by decide) (by decide)]
    simp [ub, hz 2 (by decide) (by decide)]
  · refine ⟨fun j => ?_, fun j => ?_, fun j => ?_, 0, 0, z_rd (fun j a b => hz j (by omega) (by omega))⟩
    · rw [ez (3 + 1) (by decide) (by decide)]; decide
    · rw [ez (3 + 2) (by decide) (by decide)]; decide
    · rw [ez (3 + 12) (by decide) (by decide)]; exact x_r_0
  · rw [h0.2.2, h15]
  · exact ⟨by rw [ez 61 (by decide) (by decide), em 71 (by decide) (by decide)], by rw [ez 61 (by decide) (by decide), em 71 (by decide) (by decide)], by rw [ez 61 (by decide) (by decide), em 71 (by decide) (by decide)]⟩
  · refine ⟨⟨fun w a b => absurd b (by show ¬ w < 0; omega), fun j => ?_, fun j => ?_, fun j => ?_, fun j => ?_⟩, fun w hw => absurd hw (Nat.not_lt_zero w), Or.inl rfl⟩
    · rw [ez (18 + 3 + 1) (by decide) (by decide)]; decide
    · rw [ez (18 + 3 + 2) (by decide) (by decide)]; decide
    · rw [ez (18 + 3 + 3) (by decide) (by decide)]; decide
    · rw [ez (18 + 3 + 4) (by decide) (by decide)]; decide
  · exact Or.inl ⟨h0.2.1, h62 57 (by decide) (by decide)⟩
theorem x_gF {Z : x_Z} {pc : Nat} {L : List (Option Value)} {st : List Value} {k n : Nat} {N : Nat} {sh : xS} {D : xM} (kk : x_W Z pc L st k n false N sh D) : x_W Z pc L st k n true N sh D := by
  intro p e s m args below meth c H locs ls C hl hP hS
  exact kk p e s m args below meth c H locs ls C hl ⟨hP.1, fun h => by cases h⟩ hS
theorem an63 (a : Int32) : (a &&& 63).toInt = a.toInt % 64 := by
  have h1 : (a &&& 63).toBitVec.toNat = a.toBitVec.toNat % 64 := by
    rw [Int32.toBitVec_and, BitVec.toNat_and]
    exact Nat.and_two_pow_sub_one_eq_mod _ 6
  have h2 : (a &&& 63).toInt = ((a &&& 63).toBitVec.toNat : Int) := by
    rw [← Int32.toInt_toBitVec]
    refine BitVec.toInt_eq_toNat_of_lt ?_
    rw [h1]
    have := Nat.mod_lt a.toBitVec.toNat (show 64 > 0 by decide)
    omega
  have h3 : a.toInt = Int.bmod (a.toBitVec.toNat : Int) 4294967296 := by rw [← Int32.toInt_toBitVec]; exact BitVec.toInt_eq_toNat_bmod _
  have h4 : a.toBitVec.toNat < 4294967296 := a.toBitVec.isLt
  rw [h2, h1, h3, bmod_v]
  split <;> omega
theorem x_an_63 (v : Int) : 0 ≤ x_an v 63 ∧ x_an v 63 ≤ 63 := by
  have h : x_an v 63 = (xI v).toInt % 64 := an63 (xI v)
  omega
set_option maxHeartbeats 4000000 in
theorem law_loop {X : xC} {l : Launch} {nm : String} {hh : List (Nat × Nat × Nat × Nat)} (hl : l.stackTraces = false) (hs : xsl X ≤ 3072) : ∀ (r i k n : Nat) (sh : xS) (D : xM) (la lb T C W : Nat) (G : Ldt) (L : List (Int → Int)) (S : List (Int × Int × Int)), jq sh D la lb T C W G L S → xsl X < i + 6 * r + 6 → i ≤ 3078 → k + r ≤ 601024 → n + 6 * r ≤ 7293034 → x_W (zL X l nm hh) 23 [some (.ref (xsc X)), some (.ref (x_b X + 0)), some (.ref (x_b X + 62)), some (.ref (x_b X + 96)), some (.int (xI ((i : Nat) : Int))), none, none] [] k n false 97 sh D := by
  intro r
  induction r with
  | zero =>
    intro i k n sh D la lb T C W G L S hJ h1 h2 h3 h4
    refine x_iload dL_law_23 x_get_7_4 ?_
    refine x_aload_n dL_law_25 x_get_7_0 ?_
    refine x_slen (Z := zL X l nm hh) dL_law_26 ?_
    refine x_bipush dL_law_27 rfl ?_
    refine x_isub dL_law_29 ?_
    show x_W (zL X l nm hh) (29 + 1) _ (.int (xI (((xsl X : Nat) : Int) - 6)) :: .int (xI ((i : Nat) : Int)) :: []) k n false 97 sh D
    refine r_icmp_gt (t := 2526) dL_law_30 rfl ⟨by omega, by omega⟩ ⟨by omega, by omega⟩ (fun _ => ?_) (fun h => absurd h (by omega))
    refine x_iconst dL_law_2526 ?_
    exact x_retL dL_law_2527 rfl (Or.inr rfl) (show k ≤ 601024 by omega) (show n ≤ 7293034 by omega) rfl rfl trivial rfl
  | succ r ih =>
    intro i k n sh D la lb T C W G L S hJ h1 h2 h3 h4
    refine x_iload dL_law_23 x_get_7_4 ?_
    refine x_aload_n dL_law_25 x_get_7_0 ?_
    refine x_slen (Z := zL X l nm hh) dL_law_26 ?_
    refine x_bipush dL_law_27 rfl ?_
    refine x_isub dL_law_29 ?_
    show x_W (zL X l nm hh) (29 + 1) _ (.int (xI (((xsl X : Nat) : Int) - 6)) :: .int (xI ((i : Nat) : Int)) :: []) k n false 97 sh D
    refine r_icmp_gt (t := 2526) dL_law_30 rfl ⟨by omega, by omega⟩ ⟨by omega, by omega⟩ (fun _ => ?_) (fun hc => ?_)
    · refine x_iconst dL_law_2526 ?_
      exact x_retL dL_law_2527 rfl (Or.inr rfl) (show k ≤ 601024 by omega) (show n ≤ 7293034 by omega) rfl rfl trivial rfl
    have hi0 : (0 : Int) ≤ ((i : Nat) : Int) := by omega
    have hi6 : ((i : Nat) : Int) + 6 ≤ xsl X := by omega
    have hK : Kn X l nm hh ((i : Nat) : Int) (k + 1) (n + 6) := by
      intro sh2 d2 la2 lb2 T2 C2 W2 G2 L2 S2 hJ2
      refine x_iinc dL_law_2520 x_get_7_4 (Nat.le_of_ble_eq_true rfl) rfl x_set_7_4 ?_
      refine x_goto (t := 23) dL_law_2523 rfl ?_
      rw [show ((i : Nat) : Int) + 6 = ((i + 6 : Nat) : Int) by push_cast; rfl]
      exact ih (i + 6) (k + 1) (n + 6) sh2 d2 la2 lb2 T2 C2 W2 G2 L2 S2 hJ2 (by omega) (by omega) (by omega) (by omega)
    refine x_aload_n dL_law_33 x_get_7_0 ?_
    refine x_iload dL_law_34 x_get_7_4 ?_
    refine x_slz dL_law_36 hi0 (by omega) hs ?_
    refine x_bipush dL_law_37 rfl ?_
    refine x_iand dL_law_39 ?_
    have hc2 := x_an_63 (xsv X ((i : Nat) : Int))
    generalize x_an (xsv X ((i : Nat) : Int)) 63 = w at hc2 ⊢
    by_cases h40 : w ≤ 40
    · rcases (show w = 0 ∨ w = 1 ∨ w = 2 ∨ w = 3 ∨ w = 4 ∨ w = 5 ∨ w = 6 ∨ w = 7 ∨ w = 8 ∨ w = 9 ∨ w = 10 ∨ w = 11 ∨ w = 12 ∨ w = 13 ∨ w = 14 ∨ w = 15 ∨ w = 16 ∨ w = 17 ∨ w = 18 ∨ w = 19 ∨ w = 20 ∨ w = 21 ∨ w = 22 ∨ w = 23 ∨ w = 24 ∨ w = 25 ∨ w = 26 ∨ w = 27 ∨ w = 28 ∨ w = 29 ∨ w = 30 ∨ w = 31 ∨ w = 32 ∨ w = 33 ∨ w = 34 ∨ w = 35 ∨ w = 36 ∨ w = 37 ∨ w = 38 ∨ w = 39 ∨ w = 40 by omega) with rfl | rfl | rfl | rfl | rfl | rfl | rfl | rfl | rfl | rfl | rfl | rfl | rfl | rfl | rfl | rfl | rfl | rfl | rfl | rfl | rfl | rfl | rfl | rfl | rfl | rfl | rfl | rfl | rfl | rfl | rfl | rfl | rfl | rfl | rfl | rfl | rfl | rfl | rfl | rfl | rfl
      · refine x_tswIn (t := 220) dL_law_40 (by decide) (by decide) rfl rfl ?_
        exact lc_feed hl hJ hi0 hi6 hs (by omega) (by omega) hK
      · refine x_tswIn (t := 293) dL_law_40 (by decide) (by decide) rfl rfl ?_
        exact lc_province hl hJ hi0 hi6 hs (by omega) (by omega) hK
      · refine x_tswIn (t := 349) dL_law_40 (by decide) (by decide) rfl rfl ?_
        exact lc_fault hl hJ hi0 hi6 hs (by omega) (by omega) hK
      · refine x_tswIn (t := 362) dL_law_40 (by decide) (by decide) rfl rfl ?_
        exact lc_count hl hJ hi0 hi6 hs (by omega) (by omega) hK
      · refine x_tswIn (t := 418) dL_law_40 (by decide) (by decide) rfl rfl ?_
        exact lc_town hl hJ hi0 hi6 hs (by omega) (by omega) hK
      · refine x_tswIn (t := 486) dL_law_40 (by decide) (by decide) rfl rfl ?_
        exact lc_crate hl hJ hi0 hi6 hs (by omega) (by omega) hK
      · refine x_tswIn (t := 554) dL_law_40 (by decide) (by decide) rfl rfl ?_
        exact lc_days hl hJ hi0 hi6 hs (by omega) (by omega) hK
      · refine x_tswIn (t := 579) dL_law_40 (by decide) (by decide) rfl rfl ?_
        exact lc_send hl hJ hi0 hi6 hs (by omega) (by omega) hK
      · refine x_tswIn (t := 647) dL_law_40 (by decide) (by decide) rfl rfl ?_
        exact lc_open hl hJ hi0 hi6 hs (by omega) (by omega) hK
      · refine x_tswIn (t := 703) dL_law_40 (by decide) (by decide) rfl rfl ?_
        exact lc_cat hl hJ hi0 hi6 hs (by omega) (by omega) hK
      · refine x_tswIn (t := 794) dL_law_40 (by decide) (by decide) rfl rfl ?_
        exact lc_mix hl hJ hi0 hi6 hs (by omega) (by omega) hK
      · refine x_tswIn (t := 862) dL_law_40 (by decide) (by decide) rfl rfl ?_
        exact lc_undo hl hJ hi0 hi6 hs (by omega) (by omega) hK
      · refine x_tswIn (t := 875) dL_law_40 (by decide) (by decide) rfl rfl ?_
        exact lc_then hl hJ hi0 hi6 hs (by omega) (by omega) hK
      · refine x_tswIn (t := 955) dL_law_40 (by decide) (by decide) rfl rfl ?_
        exact lc_even hl hJ hi0 hi6 hs (by omega) (by omega) hK
      · refine x_tswIn (t := 1011) dL_law_40 (by decide) (by decide) rfl rfl ?_
        exact lc_out hl hJ hi0 hi6 hs (by omega) (by omega) hK
      · refine x_tswIn (t := 1067) dL_law_40 (by decide) (by decide) rfl rfl ?_
        exact lc_luckiest hl hJ hi0 hi6 hs (by omega) (by omega) hK
      · refine x_tswIn (t := 1123) dL_law_40 (by decide) (by decide) rfl rfl ?_
        exact lc_far hl hJ hi0 hi6 hs (by omega) (by omega) hK
      · refine x_tswIn (t := 1191) dL_law_40 (by decide) (by decide) rfl rfl ?_
        exact lc_leak hl hJ hi0 hi6 hs (by omega) (by omega) hK
      · refine x_tswIn (t := 1259) dL_law_40 (by decide) (by decide) rfl rfl ?_
        exact lc_sending hl hJ hi0 hi6 hs (by omega) (by omega) hK
      · refine x_tswIn (t := 1327) dL_law_40 (by decide) (by decide) rfl rfl ?_
        exact lc_hold hl hJ hi0 hi6 hs (by omega) (by omega) hK
      · refine x_tswIn (t := 1395) dL_law_40 (by decide) (by decide) rfl rfl ?_
        exact lc_thrower hl hJ hi0 hi6 hs (by omega) (by omega) hK
      · refine x_tswIn (t := 1487) dL_law_40 (by decide) (by decide) rfl rfl ?_
        exact lc_stop hl hJ hi0 hi6 hs (by omega) (by omega) hK
      · refine x_tswIn (t := 1579) dL_law_40 (by decide) (by decide) rfl rfl ?_
        exact lc_see hl hJ hi0 hi6 hs (by omega) (by omega) hK
      · refine x_tswIn (t := 1659) dL_law_40 (by decide) (by decide) rfl rfl ?_
        exact lc_forget hl hJ hi0 hi6 hs (by omega) (by omega) hK
      · refine x_tswIn (t := 1670) dL_law_40 (by decide) (by decide) rfl rfl ?_
        exact lc_opened hl hJ hi0 hi6 hs (by omega) (by omega) hK
      · refine x_tswIn (t := 1726) dL_law_40 (by decide) (by decide) rfl rfl ?_
        exact lc_next hl hJ hi0 hi6 hs (by omega) (by omega) hK
      · refine x_tswIn (t := 1782) dL_law_40 (by decide) (by decide) rfl rfl ?_
        exact lc_pooled hl hJ hi0 hi6 hs (by omega) (by omega) hK
      · refine x_tswIn (t := 1838) dL_law_40 (by decide) (by decide) rfl rfl ?_
        exact lc_missed hl hJ hi0 hi6 hs (by omega) (by omega) hK
      · refine x_tswIn (t := 1851) dL_law_40 (by decide) (by decide) rfl rfl ?_
        exact lc_game hl hJ hi0 hi6 hs (by omega) (by omega) hK
      · refine x_tswIn (t := 1931) dL_law_40 (by decide) (by decide) rfl rfl ?_
        exact lc_years hl hJ hi0 hi6 hs (by omega) (by omega) hK
      · refine x_tswIn (t := 2011) dL_law_40 (by decide) (by decide) rfl rfl ?_
        exact lc_thief hl hJ hi0 hi6 hs (by omega) (by omega) hK
      · refine x_tswIn (t := 2079) dL_law_40 (by decide) (by decide) rfl rfl ?_
        exact lc_row hl hJ hi0 hi6 hs (by omega) (by omega) hK
      · refine x_tswIn (t := 2159) dL_law_40 (by decide) (by decide) rfl rfl ?_
        exact lc_hub hl hJ hi0 hi6 hs (by omega) (by omega) hK
      · refine x_tswIn (t := 2172) dL_law_40 (by decide) (by decide) rfl rfl ?_
        exact lc_bridge hl hJ hi0 hi6 hs (by omega) (by omega) hK
      · refine x_tswIn (t := 2235) dL_law_40 (by decide) (by decide) rfl rfl ?_
        exact lc_streak hl hJ hi0 hi6 hs (by omega) (by omega) hK
      · refine x_tswIn (t := 2303) dL_law_40 (by decide) (by decide) rfl rfl ?_
        exact lc_day hl hJ hi0 hi6 hs (by omega) (by omega) hK
      · refine x_tswIn (t := 2371) dL_law_40 (by decide) (by decide) rfl rfl ?_
        exact lc_level hl hJ hi0 hi6 hs (by omega) (by omega) hK
      · refine x_tswIn (t := 2427) dL_law_40 (by decide) (by decide) rfl rfl ?_
        exact lc_lend hl hJ hi0 hi6 hs (by omega) (by omega) hK
      · refine x_tswIn (t := 2483) dL_law_40 (by decide) (by decide) rfl rfl ?_
        exact lc_spoilt hl hJ hi0 hi6 hs (by omega) (by omega) hK
      · refine x_tswIn (t := 2496) dL_law_40 (by decide) (by decide) rfl rfl ?_
        exact lc_image hl hJ hi0 hi6 hs (by omega) (by omega) hK
      · refine x_tswIn (t := 2507) dL_law_40 (by decide) (by decide) rfl rfl ?_
        exact lc_restore hl hJ hi0 hi6 hs (by omega) (by omega) hK
    · refine x_tswOut (t := 2520) dL_law_40 (Or.inr (by rw [x_n_of ⟨by omega, by omega⟩]; omega)) rfl ?_
      exact x_widen (k' := k + 1) (n' := n + 6) (by omega) (by omega) (hK _ _ _ _ _ _ _ _ _ _ hJ)
set_option maxHeartbeats 4000000 in
theorem law_all {X : xC} {l : Launch} {nm : String} {hh : List (Nat × Nat × Nat × Nat)} (hl : l.stackTraces = false) (hs : xsl X ≤ 3072) : x_W (zL X l nm hh) 0 [some (.ref (xsc X)), none, none, none, none, none, none] [] 0 0 true 0 (fun _ => .inl (0, 0)) (fun _ _ => 0) := by
  refine x_new (len := 15) dL_law_0 mk_L_8 rfl (Nat.le_of_ble_eq_true rfl) (Nat.le_of_ble_eq_true rfl) ?_
  refine x_dup dL_law_3 rfl ?_
  refine x_callI (As := []) dL_law_4 w_L_112 (i11 hl x_sp_s x_up_s) rfl rfl (Nat.le_of_ble_eq_true rfl) (Nat.le_of_ble_eq_true rfl) (Nat.le_of_ble_eq_true rfl) (Nat.le_of_ble_eq_true rfl) (Nat.le_of_ble_eq_true rfl) ?_
  intro d hd
  show x_W (zL X l nm hh) (4 + 3) _ _ _ _ true 62 _ d
  refine x_astore_n dL_law_7 (Nat.le_of_ble_eq_true rfl) rfl x_set_7_1 ?_
  refine x_new (len := 63) dL_law_8 mk_L_113 rfl (Nat.le_of_ble_eq_true rfl) (Nat.le_of_ble_eq_true rfl) ?_
  refine x_dup dL_law_11 rfl ?_
  refine x_callI (As := []) dL_law_12 w_L_115 (i12 hl x_sp_s x_up_s) rfl rfl (Nat.le_of_ble_eq_true rfl) (Nat.le_of_ble_eq_true rfl) (Nat.le_of_ble_eq_true rfl) (Nat.le_of_ble_eq_true rfl) (Nat.le_of_ble_eq_true rfl) ?_
  intro d2 hd2
  show x_W (zL X l nm hh) (12 + 3) _ _ _ _ true 96 _ d2
  refine x_astore_n dL_law_15 (Nat.le_of_ble_eq_true rfl) rfl x_set_7_2 ?_
  refine x_iconst dL_law_16 ?_
  refine x_newa (len := 1) dL_law_17 rfl (t := 3) rfl arc_long (Nat.le_of_ble_eq_true rfl) (Nat.le_of_ble_eq_true rfl) (Nat.le_of_ble_eq_true rfl) ?_
  refine x_astore_n dL_law_19 (Nat.le_of_ble_eq_true rfl) rfl x_set_7_3 ?_
  refine x_iconst dL_law_20 ?_
  refine x_istore dL_law_21 (Nat.le_of_ble_eq_true rfl) rfl x_set_7_4 ?_
  refine x_gF ?_
  obtain ⟨-, e0, ez⟩ := hd
  obtain ⟨f1, f62, fz⟩ := hd2
  have g1 : ∀ j, j < 62 → d2 j = d j := fun j a => by rw [f1 j a]; exact x_up_n (show j ≠ 62 by omega)
  refine law_loop hl hs 513 0 97 62015 shF _ 18 3 0 0 0 _ [] [] (jq_init (D := x_up d2 96 (fun _ => 0)) ⟨?_, ?_, ?_⟩ ?_ ?_ ?_ ?_ ?_) (by omega) (by omega) (by omega) (by omega)
  · rw [x_up_n (by decide), g1 0 (by decide), e0]; rfl
  · rw [x_up_n (by decide), g1 0 (by decide), e0]; rfl
  · rw [x_up_n (by decide), g1 0 (by decide), e0]; rfl
  · intro j a b
    rw [x_up_n (by omega), g1 j b]
    exact ez j (by omega) b (by omega)
  · intro i a b
    rw [x_up_n (by decide)]
    have f62 : d2 62 = _ := f62
    rw [f62]
    unfold x_u1
    repeat' split
    all_goals first | rfl | omega
  · rw [x_up_n (by decide)]
    have f62 : d2 62 = _ := f62
    rw [f62]; rfl
  · rw [x_up_n (by decide)]
    have f62 : d2 62 = _ := f62
    rw [f62]; rfl
  · intro j a b
    rw [x_up_n (by omega)]
    exact fz j a b (by omega)
end L9
