section M99999
/-! ===== the Model's province ===== -/
theorem w_12_278 : x_cv RX12 278 yX12_line cX12_line 2 (none) 12 0 := ⟨⟨_, rfl, rfl⟩, (x_in 1571 (by decide +kernel) rfl), (x_in 1573 (by decide +kernel) rfl), (x_in 21 (by decide +kernel) rfl), (x_in 90 (by decide +kernel) rfl), (x_in 1574 (by decide +kernel) rfl), by decide, ⟨by decide +kernel, by decide +kernel, by decide +kernel⟩⟩
theorem cod_1 {s : Int} : (cod [s]).length = if -6 ≤ s then 2 else 1 := by
  rw [cod_c]
  by_cases h1 : 0 ≤ s
  · rw [if_pos h1, if_pos (by omega)]; rfl
  · rw [if_neg h1]
    by_cases h2 : -6 ≤ s
    · rw [if_pos h2, if_pos h2]; rfl
    · rw [if_neg h2, if_neg h2]; rfl
theorem gD_i {L : List Int} {i : Nat} (h : i < L.length) : L.getD i 0 = L[i] := by rw [List.getD_eq_getElem?_getD, List.getElem?_eq_getElem h]; rfl
theorem cd_cod {ss : Int → Int} {L : List Int} (hs : ∀ i : Nat, i < L.length → ss (i : Nat) = L.getD i 0) : ∀ i : Nat, i ≤ L.length → cd ss 0 i = (cod (L.take i)).length
  | 0, _ => by rw [List.take_zero]; rfl
  | i + 1, h => by
    rw [cd_s, cd_cod hs i (by omega), List.take_succ_eq_append_getElem (by omega), cod_app, List.length_append, cod_1, hs i (by omega), gD_i (by omega)]
theorem ecl_at {A B : List Int} {cf : Int → Int} (h : ecl (A ++ B) cf) {i : Nat} (hi : i < B.length) : cf ((A.length + i : Nat) : Int) = B.getD i 0 := by
  rw [h (A.length + i) (by rw [List.length_append]; omega), List.getD_eq_getElem?_getD, List.getElem?_append_right (by omega), Nat.add_sub_cancel_left, ← List.getD_eq_getElem?_getD]
theorem enc_of {cf ss : Int → Int} {L : List Int} (h : ecl (cod L ++ [0]) cf) (hs : ∀ i : Nat, i < L.length → ss (i : Nat) = L.getD i 0) (hl : (cod L ++ [0]).length ≤ 1400) (h2 : ∀ s ∈ L, s_in2 s) : enc cf ss 0 L.length := by
  have hlen : (cod L ++ [0]).length = (cod L).length + 1 := by rw [List.length_append]; rfl
  have hc := cd_cod hs
  have hn : cd ss 0 L.length = (cod L).length := by rw [hc _ (Nat.le_refl _), List.take_length]
  refine ⟨fun i hi => ?_, ?_, ?_, fun i hi => ?_⟩
  · have hsp : cod L ++ [0] = cod (L.take i) ++ ((if 0 ≤ L[i] then [1, L[i]] else if -6 ≤ L[i] then [2, -1 - L[i]] else [op_c L[i]]) ++ (cod (L.drop (i + 1)) ++ [0])) := by
      have e : L = L.take i ++ (L[i] :: L.drop (i + 1)) := by rw [← List.drop_eq_getElem_cons hi, List.take_append_drop]
      rw [← List.append_assoc, ← List.append_assoc]
      congr 1
      rw [List.append_assoc, ← cod_c, ← cod_app, ← e]
    rw [hsp] at h
    have hv : ss (i : Nat) = L[i] := by rw [hs i hi, gD_i hi]
    rw [hv, hc i (by omega)]
    have c0 : cf ((cod (L.take i)).length : Nat) = _ := ecl_at h (i := 0) (by split <;> (try split) <;> (rw [List.length_append]; simp only [List.length_cons]; omega))
    have c1 : cf (((cod (L.take i)).length : Nat) + 1 : Int) = _ := ecl_at h (i := 1) (by split <;> (try split) <;> (rw [List.length_append, List.length_append]; simp only [List.length_cons, List.length_nil]; omega))
    refine ⟨fun a => ?_, fun a c => ?_, fun a => ?_⟩
    · rw [if_pos a] at c0 c1
      exact ⟨c0, c1⟩
    · rw [if_neg (by omega), if_pos a] at c0 c1
      exact ⟨c0, c1⟩
    · rw [if_neg (by omega), if_neg (by omega)] at c0
      exact c0
  · rw [hn]
    exact ecl_at h (i := 0) (by decide)
  · rw [hn]; omega
  · have := h2 _ (List.getElem_mem hi)
    rw [hs i hi, gD_i hi]
    unfold s_in2 at this
    exact ⟨⟨by omega, by omega⟩, this.1⟩
/-- the days' land that a text tells -/
abbrev ldS (lb : Nat) (S : Tx) (ss : Int → Int) : Ldt := (S.1 (lb + 1), S.1 (lb + 2), o_odds (x_B (S.2.isSome = true)) (x_B (-6 ∈ S.2.getD [])) ss (S.2.getD []).length (S.1 (lb + 1)) (S.1 (lb + 2)) (S.1 lb 1).toNat)
abbrev ssS (S : Tx) (ss : Int → Int) : Prop := ∀ i : Nat, i < (S.2.getD []).length → ss i = (S.2.getD []).getD i 0
/-- what the Model holds of a text told well -/
def pvg (N : Nat) (sh : xS) (lb : Nat) (S : Tx) (D d : xM) : Prop :=
  (∀ ss : Int → Int, ssS S ss → mq N sh d (S.1 lb 0).toNat (S.1 lb 1).toNat (S.1 (lb + 3) 0).toNat (ldS lb S ss)) ∧ mwy d (S.1 (lb + 3) 0).toNat (S.1 (lb + 3 + 1)) (S.1 (lb + 3 + 2)) (S.1 (lb + 3 + 3)) (S.1 (lb + 3 + 4)) ∧ mr (S.1 lb 0).toNat (S.1 lb 1).toNat (S.1 (lb + 14)) (d 82) 0
  ∧ (d 62 0 = 0 ∧ d 62 13 = 0 ∧ d 62 15 = -1 ∧ d 62 44 = 0 ∧ d 62 52 = 0 ∧ d 62 57 = 0) ∧ ∀ j, j < 62 ∨ j = 70 ∨ j = 71 ∨ 82 < j → d j = D j
def pvf (b : Int → Int) (n : Nat) (z : Int × Nat) (D d : xM) : Prop := (∀ j, j ≠ 62 → j ≠ 71 → (j < 72 ∨ 81 < j) → d j = D j) ∧ d 71 = x_u1 (D 71) 0 (D 71 0 + 1) ∧ (d 62 0 = 0 ∧ d 62 13 = 0 ∧ d 62 15 = (tS b n z.2 : Nat)) ∧ ∀ i, i ≠ 0 → i ≠ 13 → (i < 14 ∨ 31 < i) → d 62 i = D 62 i
def pvp (N : Nat) (sh : xS) (b : Int → Int) (n lb : Nat) (r : Rs Tx) (D d : xM) : Prop := match r with
  | .inl z => pvf b n z D d
  | .inr w => pvg N sh lb w.1 D d
def pvo (r : Rs Tx) : Int := match r with
  | .inl z => z.1
  | .inr _ => 0
/-- how the Model begins to read -/
def pvi (n : Nat) (D d : xM) : Prop := (∀ j, j ≠ 62 → j ≠ 78 → d j = D j) ∧ (d 62 0 = 0 ∧ d 62 13 = 0 ∧ d 62 14 = 0 ∧ d 62 15 = -1 ∧ d 62 17 = (n : Int)) ∧ ∀ i, i ≠ 0 → i ≠ 13 → (i < 14 ∨ 31 < i) → d 62 i = D 62 i
theorem pv_mq {N : Nat} {sh : xS} {b : Int → Int} {n lb : Nat} {S : Tx} {d e : xM} (hM : is_Md N sh) (hv : sv lb S.1) (ho : so b n S) (hm : ml lb S d) (e1 : e 62 1 = d 62 25) (e2 : e 62 2 = d 62 26) (e3 : e 62 3 = d 62 27) (e4 : e 62 4 = d 62 28) (e63 : e 63 = d 72) (e64 : e 64 = d 73) (e69 : e 69 = d 79) {ss : Int → Int} (hs : ssS S ss) : mq N sh e (S.1 lb 0).toNat (S.1 lb 1).toNat (S.1 (lb + 3) 0).toNat (ldS lb S ss) := by
  obtain ⟨⟨a1, a2, a3⟩, a4, a5, a6, a7⟩ := hm
  obtain ⟨⟨⟨v1, v2⟩, ⟨v3, v4⟩, T0, v5⟩, ⟨w1, w2, w3, W0, T1, w4⟩, -⟩ := id hv
  refine ⟨hM, e1.trans a1, v2, e2.trans a2, v5.2.1, e3.trans a3, v4, by rw [e63, e64]; exact a4, ⟨w1, w2, fun f t => o_odds_in _ _ _ _ _ _ _ _ _⟩, ?_⟩
  refine ⟨_, _, _, _, fun f t => rfl, ?_⟩
  obtain ⟨o, hoS⟩ : ∃ o, S.2 = o := ⟨_, rfl⟩
  have hz := so_get ho
  unfold od at a7
  rw [hoS] at a7 hz
  unfold ssS at hs
  rw [hoS] at hs ⊢
  cases o with
  | none => exact Or.inl ⟨rfl, e4.trans a7.1⟩
  | some L =>
    refine Or.inr ⟨by show ¬ (1 : Int) = 0; decide, 0, e4.trans a7.1, ?_, ?_, ?_⟩
    · rw [e69]; exact enc_of a7.2.2.1 hs a7.2.2.2 hz
    · obtain ⟨q, q', hq, hx⟩ := ho L hoS
      exact wf_of (by decide) (sg_exp 6 q L q' hx).2 hs
    · intro hx i hi h6
      have hn : ¬ (-6 : Int) ∈ L := by
        intro hin
        have : x_B ((-6 : Int) ∈ L) = 1 := if_pos hin
        rw [show (some L : Option (List Int)).getD [] = L from rfl] at hx
        omega
      refine hn ?_
      have h7 : ss (i : Nat) = L.getD i 0 := hs i hi
      have hi : i < L.length := hi
      rw [h7, gD_i hi] at h6
      rw [← h6]
      exact List.getElem_mem hi
theorem m_provT {X : xC} {l : Launch} (hl : l.stackTraces = false) {N : Nat} {sh : xS} {D : xM} (hM : is_Md N sh) {k : Nat} (hk7 : k ≤ 700) (hkt : D 62 13 = (k : Int)) {n : Int} (hnr : x_r n) (h : ¬ (0 ≤ n ∧ n ≤ k)) : x_M X l yX12_province cX12_province 3 (some .int) 8 0 0 [.ref (x_b X + 62), .int (xI n)] false N sh D (.inl (some (.int (xI (0))))) false N sh (x_is (x_up D 62 (x_u1 (x_u1 (D 62) 0 0) 0 1))) := by
  obtain ⟨r1, r2⟩ := hnr
  have s62 := md_62 hM
  have n62 : 62 < N := md_n hM (by decide)
  have s78 := md_78 hM
  have n78 : 78 < N := md_n hM (by decide)
  have s71 := md_71 hM
  have n71 : 71 < N := md_n hM (by decide)
  have s72 := md_72 hM
  have n72 : 72 < N := md_n hM (by decide)
  have s63 := md_63 hM
  have n63 : 63 < N := md_n hM (by decide)
  have s73 := md_73 hM
  have n73 : 73 < N := md_n hM (by decide)
  have s64 := md_64 hM
  have n64 : 64 < N := md_n hM (by decide)
  have s74 := md_74 hM
  have n74 : 74 < N := md_n hM (by decide)
  have s65 := md_65 hM
  have n65 : 65 < N := md_n hM (by decide)
  have s75 := md_75 hM
  have n75 : 75 < N := md_n hM (by decide)
  have s66 := md_66 hM
  have n66 : 66 < N := md_n hM (by decide)
  have s76 := md_76 hM
  have n76 : 76 < N := md_n hM (by decide)
  have s67 := md_67 hM
  have n67 : 67 < N := md_n hM (by decide)
  have s77 := md_77 hM
  have n77 : 77 < N := md_n hM (by decide)
  have s68 := md_68 hM
  have n68 : 68 < N := md_n hM (by decide)
  have s79 := md_79 hM
  have n79 : 79 < N := md_n hM (by decide)
  have s69 := md_69 hM
  have n69 : 69 < N := md_n hM (by decide)
  have s82 := md_82 hM
  have n82 : 82 < N := md_n hM (by decide)
  refine x_ofW (by decide +kernel) hl (by simp [Value.category]) (by simp) ?_
  refine x_aload_n dX12_province_0 x_get_3_0 ?_
  refine x_iconst dX12_province_1 ?_
  refine x_putI 0 dX12_province_2 fX_12_117 rfl tX_12_0 n62 s62 (by rfl) ?_
  try simp (disch := decide) only [x_up_s, x_up_n, x_up_up, x_u1_s, x_u1_n, hkt]
  refine x_aload_n dX12_province_5 x_get_3_0 ?_
  refine x_iload_n dX12_province_6 x_get_3_1 ?_
  refine r_if_lt (t := 22) dX12_province_7 rfl ⟨by omega, by omega⟩ (fun hc7 => ?_) (fun hc7 => ?_)
  · refine x_iconst dX12_province_22 ?_
    refine x_iconst dX12_province_23 ?_
    have hrF := m_rightF (X := X) (l := l) hl hM (D := x_up D 62 (x_u1 (D 62) 0 0)) (w := 1) (by rw [x_up_s, x_u1_s]) (by decide) (by decide)
    refine x_callV (As := [_, _]) dX12_province_24 w_12_274 (hrF) (by assumption) (by assumption) rfl rfl (Nat.le_of_ble_eq_true rfl) (Nat.le_of_ble_eq_true rfl) (Nat.le_of_ble_eq_true rfl) (Nat.le_of_ble_eq_true rfl) (Nat.le_of_ble_eq_true rfl) ?_
    intro d hd
    obtain rfl := Eq.symm hd
    refine r_if_ne (t := 32) dX12_province_27 rfl ⟨by omega, by omega⟩ (fun hc27 => absurd hc27 (by omega)) (fun hc27 => ?_)
    refine x_iconst dX12_province_30 ?_
    exact x_iret dX12_province_31 rfl (Nat.le_of_ble_eq_true rfl) (Nat.le_of_ble_eq_true rfl) rfl rfl rfl (show _ = _ by rw [x_up_up, x_up_s]) rfl
  · refine x_iload_n dX12_province_10 x_get_3_1 ?_
    refine x_aload_n dX12_province_11 x_get_3_0 ?_
    refine x_getI 13 dX12_province_12 fX_12_120 rfl n62 s62 (by rfl) ?_
    try simp (disch := decide) only [x_up_s, x_up_n, x_up_up, x_u1_s, x_u1_n, hkt]
    refine r_icmp_gt (t := 22) dX12_province_15 rfl ⟨by omega, by omega⟩ ⟨by omega, by omega⟩ (fun hc15 => ?_) (fun hc15 => absurd hc15 (by omega))
    refine x_iconst dX12_province_22 ?_
    refine x_iconst dX12_province_23 ?_
    have hrF := m_rightF (X := X) (l := l) hl hM (D := x_up D 62 (x_u1 (D 62) 0 0)) (w := 1) (by rw [x_up_s, x_u1_s]) (by decide) (by decide)
    refine x_callV (As := [_, _]) dX12_province_24 w_12_274 (hrF) (by assumption) (by assumption) rfl rfl (Nat.le_of_ble_eq_true rfl) (Nat.le_of_ble_eq_true rfl) (Nat.le_of_ble_eq_true rfl) (Nat.le_of_ble_eq_true rfl) (Nat.le_of_ble_eq_true rfl) ?_
    intro d hd
    obtain rfl := Eq.symm hd
    refine r_if_ne (t := 32) dX12_province_27 rfl ⟨by omega, by omega⟩ (fun hc27 => absurd hc27 (by omega)) (fun hc27 => ?_)
    refine x_iconst dX12_province_30 ?_
    exact x_iret dX12_province_31 rfl (Nat.le_of_ble_eq_true rfl) (Nat.le_of_ble_eq_true rfl) rfl rfl rfl (show _ = _ by rw [x_up_up, x_up_s]) rfl
set_option maxHeartbeats 4000000 in
theorem pv_f {X : xC} {l : Launch} (hl : l.stackTraces = false) {N : Nat} {sh : xS} {D : xM} (hM : is_Md N sh) {b : Int → Int} {n lb : Nat} {R : Rs Tx} {z : Int × Nat} {d1 d : xM} (hi : pvi n D d1) (hf : fz b n z d1 d) (hR : R = .inl z) : x_W (X, l, yX12_province, cX12_province, 3, (some .int), x_room 8 0 0, 0, 0, (.inl (some (.int (xI (pvo R))))), N, sh, (pvp N sh b n lb R D), false, []) 93 [some (.ref (x_b X + 62)), some (.int (xI (n : Int))), none] [] 0 0 false N sh d := by
  have s62 := md_62 hM
  have n62 : 62 < N := md_n hM (by decide)
  have s78 := md_78 hM
  have n78 : 78 < N := md_n hM (by decide)
  have s71 := md_71 hM
  have n71 : 71 < N := md_n hM (by decide)
  have s72 := md_72 hM
  have n72 : 72 < N := md_n hM (by decide)
  have s63 := md_63 hM
  have n63 : 63 < N := md_n hM (by decide)
  have s73 := md_73 hM
  have n73 : 73 < N := md_n hM (by decide)
  have s64 := md_64 hM
  have n64 : 64 < N := md_n hM (by decide)
  have s74 := md_74 hM
  have n74 : 74 < N := md_n hM (by decide)
  have s65 := md_65 hM
  have n65 : 65 < N := md_n hM (by decide)
  have s75 := md_75 hM
  have n75 : 75 < N := md_n hM (by decide)
  have s66 := md_66 hM
  have n66 : 66 < N := md_n hM (by decide)
  have s76 := md_76 hM
  have n76 : 76 < N := md_n hM (by decide)
  have s67 := md_67 hM
  have n67 : 67 < N := md_n hM (by decide)
  have s77 := md_77 hM
  have n77 : 77 < N := md_n hM (by decide)
  have s68 := md_68 hM
  have n68 : 68 < N := md_n hM (by decide)
  have s79 := md_79 hM
  have n79 : 79 < N := md_n hM (by decide)
  have s69 := md_69 hM
  have n69 : 69 < N := md_n hM (by decide)
  have s82 := md_82 hM
  have n82 : 82 < N := md_n hM (by decide)
  subst hR
  have hf14 : d 62 14 = z.1 := hf.2.2.1
  have h71 : d 71 = D 71 := by rw [hf.1.1 71 (by decide) (by decide)]; exact hi.1 71 (by decide) (by decide)
  refine x_aload_n dX12_province_93 x_get_3_0 ?_
  refine x_callV (As := []) dX12_province_94 w_12_176 (m_goodF hl hM hf14 hf.2.1) (by assumption) (by assumption) rfl rfl (Nat.le_of_ble_eq_true rfl) (Nat.le_of_ble_eq_true rfl) (Nat.le_of_ble_eq_true rfl) (Nat.le_of_ble_eq_true rfl) (Nat.le_of_ble_eq_true rfl) ?_
  intro d hd
  obtain rfl := Eq.symm hd
  refine r_if_eq (t := 114) dX12_province_97 rfl ⟨by omega, by omega⟩ (fun hc97 => ?_) (fun hc97 => absurd hc97 (by omega))
  refine x_aload_n dX12_province_114 x_get_3_0 ?_
  refine x_callV (As := []) dX12_province_115 w_12_176 (m_goodF hl hM hf14 hf.2.1) (by assumption) (by assumption) rfl rfl (Nat.le_of_ble_eq_true rfl) (Nat.le_of_ble_eq_true rfl) (Nat.le_of_ble_eq_true rfl) (Nat.le_of_ble_eq_true rfl) (Nat.le_of_ble_eq_true rfl) ?_
  intro d hd
  obtain rfl := Eq.symm hd
  refine r_if_ne (t := 136) dX12_province_118 rfl ⟨by omega, by omega⟩ (fun hc118 => absurd hc118 (by omega)) (fun hc118 => ?_)
  refine x_aload_n dX12_province_121 x_get_3_0 ?_
  refine x_getR dX12_province_122 fX_12_41 n62 s62 (by rfl) ?_
  refine x_iconst dX12_province_125 ?_
  refine x_dup2 dX12_province_126 rfl rfl ?_
  refine x_iald dX12_province_127 n71 s71 (by omega) (by omega) (by decide) ?_
  try simp (disch := decide) only [x_up_s, x_up_n, x_up_up, x_u1_s, x_u1_n, hf14, h71]
  refine x_iconst dX12_province_128 ?_
  refine x_iadd dX12_province_129 ?_
  refine x_iast dX12_province_130 n71 s71 (by omega) (by omega) (by decide) ?_
  try simp (disch := decide) only [x_up_s, x_up_n, x_up_up, x_u1_s, x_u1_n, hf14, h71]
  refine x_aload_n dX12_province_131 x_get_3_0 ?_
  refine x_getI 14 dX12_province_132 fX_12_173 rfl n62 s62 (by rfl) ?_
  try simp (disch := decide) only [x_up_s, x_up_n, x_up_up, x_u1_s, x_u1_n, hf14, h71]
  exact x_iret dX12_province_135 rfl (Nat.le_of_ble_eq_true rfl) (Nat.le_of_ble_eq_true rfl) rfl rfl rfl (show pvf b n z D _ from ⟨fun j a c e => by rw [x_up_n c, hf.1.1 j a e]; exact hi.1 j a (by omega), by rw [x_up_s], ⟨by rw [x_up_n (by decide), hf.1.2.1 0 (by decide) (by decide) (by decide)]; exact hi.2.1.1, by rw [x_up_n (by decide), hf.1.2.1 13 (by decide) (by decide) (by decide)]; exact hi.2.1.2.1, by rw [x_up_n (by decide)]; exact hf.2.2.2⟩, fun i a c e => by rw [x_up_n (by decide), hf.1.2.1 i (by omega) (by omega) (by omega)]; exact hi.2.2 i a c e⟩) rfl
set_option maxHeartbeats 4000000 in
theorem pv_g252 {X : xC} {l : Launch} (hl : l.stackTraces = false) {N : Nat} {sh : xS} {D : xM} (hM : is_Md N sh) {b : Int → Int} {n lb : Nat} {R : Rs Tx} {S : Tx} {q : Nat} {e : xM} {o2 : Option Value} (e0 : e 62 0 = 0) (e13 : e 62 13 = 0) (e15 : e 62 15 = -1) (hmq : ∀ ss : Int → Int, ssS S ss → mq N sh e (S.1 lb 0).toNat (S.1 lb 1).toNat (S.1 (lb + 3) 0).toNat (ldS lb S ss)) (hmw : mwy e (S.1 (lb + 3) 0).toNat (S.1 (lb + 3 + 1)) (S.1 (lb + 3 + 2)) (S.1 (lb + 3 + 3)) (S.1 (lb + 3 + 4))) (hmr : mr (S.1 lb 0).toNat (S.1 lb 1).toNat (S.1 (lb + 14)) (e 78) 0) (hfr : ∀ j, j < 62 ∨ j = 70 ∨ j = 71 ∨ 82 < j → e j = D j) (hR : R = .inr (S, q)) (hv : sv lb S.1) : x_W (X, l, yX12_province, cX12_province, 3, (some .int), x_room 8 0 0, 0, 0, (.inl (some (.int (xI (pvo R))))), N, sh, (pvp N sh b n lb R D), false, []) 252 [some (.ref (x_b X + 62)), some (.int (xI (n : Int))), o2] [] 0 0 false N sh e := by
  have s62 := md_62 hM
  have n62 : 62 < N := md_n hM (by decide)
  have s78 := md_78 hM
  have n78 : 78 < N := md_n hM (by decide)
  have s71 := md_71 hM
  have n71 : 71 < N := md_n hM (by decide)
  have s72 := md_72 hM
  have n72 : 72 < N := md_n hM (by decide)
  have s63 := md_63 hM
  have n63 : 63 < N := md_n hM (by decide)
  have s73 := md_73 hM
  have n73 : 73 < N := md_n hM (by decide)
  have s64 := md_64 hM
  have n64 : 64 < N := md_n hM (by decide)
  have s74 := md_74 hM
  have n74 : 74 < N := md_n hM (by decide)
  have s65 := md_65 hM
  have n65 : 65 < N := md_n hM (by decide)
  have s75 := md_75 hM
  have n75 : 75 < N := md_n hM (by decide)
  have s66 := md_66 hM
  have n66 : 66 < N := md_n hM (by decide)
  have s76 := md_76 hM
  have n76 : 76 < N := md_n hM (by decide)
  have s67 := md_67 hM
  have n67 : 67 < N := md_n hM (by decide)
  have s77 := md_77 hM
  have n77 : 77 < N := md_n hM (by decide)
  have s68 := md_68 hM
  have n68 : 68 < N := md_n hM (by decide)
  have s79 := md_79 hM
  have n79 : 79 < N := md_n hM (by decide)
  have s69 := md_69 hM
  have n69 : 69 < N := md_n hM (by decide)
  have s82 := md_82 hM
  have n82 : 82 < N := md_n hM (by decide)
  subst hR
  have hloop : ∀ k : Nat, k ≤ 85 → x_W (X, l, yX12_province, cX12_province, 3, (some .int), x_room 8 0 0, 0, 0, (.inl (some (.int (xI (pvo (.inr (S, q))))))), N, sh, (pvp N sh b n lb (.inr (S, q)) D), false, []) 254 [some (.ref (x_b X + 62)), some (.int (xI (n : Int))), some (.int (xI (k : Int)))] [] 0 0 false N sh (x_up e 82 (x_cpy (e 78) (e 82) 0 0 ((k : Nat) : Int))) := by
    refine x_down 85 ?_ ?_
    · refine x_iload_n dX12_province_254 x_get_3_2 ?_
      refine x_bipush dX12_province_255 rfl ?_
      refine r_icmp_ge (t := 278) dX12_province_257 rfl ⟨by omega, by omega⟩ ⟨by omega, by omega⟩ (fun hc257 => ?_) (fun hc257 => absurd hc257 (by omega))
      refine x_aload_n dX12_province_278 x_get_3_0 ?_
      refine x_iconst dX12_province_279 ?_
      refine x_putI 44 dX12_province_280 fX_12_294 rfl tX_12_44 n62 s62 (by rfl) ?_
      try simp (disch := decide) only [x_up_s, x_up_n, x_up_up, x_u1_s, x_u1_n]
      refine x_aload_n dX12_province_283 x_get_3_0 ?_
      refine x_iconst dX12_province_284 ?_
      refine x_putI 52 dX12_province_285 fX_12_297 rfl tX_12_52 n62 s62 (by rfl) ?_
      try simp (disch := decide) only [x_up_s, x_up_n, x_up_up, x_u1_s, x_u1_n]
      refine x_aload_n dX12_province_288 x_get_3_0 ?_
      refine x_iconst dX12_province_289 ?_
      refine x_putZ 57 dX12_province_290 fX_12_300 rfl tX_12_57 n62 s62 (by rfl) (Or.inl rfl) ?_
      try simp (disch := decide) only [x_up_s, x_up_n, x_up_up, x_u1_s, x_u1_n]
      refine x_iconst dX12_province_293 ?_
      exact x_iret dX12_province_294 rfl (Nat.le_of_ble_eq_true rfl) (Nat.le_of_ble_eq_true rfl) rfl rfl rfl (by
        obtain ⟨E, hE⟩ : ∃ E, E = x_up (x_up e 82 (x_cpy (e 78) (e 82) 0 0 ((85 : Nat) : Int))) 62 (x_u1 (x_u1 (x_u1 (e 62) 44 0) 52 0) 57 0) := ⟨_, rfl⟩
        refine (show pvg N sh lb S D _ from ?_)
        have k62 : E 62 = x_u1 (x_u1 (x_u1 (e 62) 44 0) 52 0) 57 0 := by rw [hE, x_up_s]
        have kj : ∀ j, j ≠ 62 → j ≠ 82 → E j = e j := fun j a c => by rw [hE, x_up_n a, x_up_n c]
        have ki : ∀ i : Int, i ≠ 44 → i ≠ 52 → i ≠ 57 → E 62 i = e 62 i := fun i a c f => by rw [k62, x_u1_n f, x_u1_n c, x_u1_n a]
        have hgoal : pvg N sh lb S D E := by
          refine ⟨fun ss hs => mq_of (hmq ss hs) (fun i a c => ki i (by omega) (by omega) (by omega)) (fun j a c => kj j (by omega) (by omega)), ?_, ?_, ⟨(ki 0 (by decide) (by decide) (by decide)).trans e0, (ki 13 (by decide) (by decide) (by decide)).trans e13, (ki 15 (by decide) (by decide) (by decide)).trans e15, by rw [k62, x_u1_n (by decide), x_u1_n (by decide), x_u1_s], by rw [k62, x_u1_n (by decide), x_u1_s], by rw [k62, x_u1_s]⟩, fun j hj => by rw [kj j (by omega) (by omega)]; exact hfr j hj⟩
          · unfold mwy at hmw ⊢
            rw [kj 65 (by decide) (by decide), kj 66 (by decide) (by decide), kj 67 (by decide) (by decide), kj 68 (by decide) (by decide)]
            exact hmw
          · rw [show E 82 = x_cpy (e 78) (e 82) 0 0 85 by rw [hE, x_up_n (by decide), x_up_s]; rfl]
            exact mr_cpy hv.1.1.2 hv.1.2.1.2 hmr
        rw [hE] at hgoal
        exact hgoal) rfl
    · intro k hk ih
      rw [← x_cpy_s, Int.zero_add] at ih
      refine x_iload_n dX12_province_254 x_get_3_2 ?_
      refine x_bipush dX12_province_255 rfl ?_
      refine r_icmp_ge (t := 278) dX12_province_257 rfl ⟨by omega, by omega⟩ ⟨by omega, by omega⟩ (fun hc257 => absurd hc257 (by omega)) (fun hc257 => ?_)
      refine x_aload_n dX12_province_260 x_get_3_0 ?_
      refine x_getR dX12_province_261 fX_12_75 n62 s62 (by rfl) ?_
      refine x_iload_n dX12_province_264 x_get_3_2 ?_
      refine x_aload_n dX12_province_265 x_get_3_0 ?_
      refine x_getR dX12_province_266 fX_12_62 n62 s62 (by rfl) ?_
      refine x_iload_n dX12_province_269 x_get_3_2 ?_
      refine x_iald dX12_province_270 n78 s78 (by omega) (by omega) (by decide) ?_
      try simp (disch := decide) only [x_up_s, x_up_n, x_up_up, x_u1_s, x_u1_n]
      refine x_iast dX12_province_271 n82 s82 (by omega) (by omega) (by decide) ?_
      try simp (disch := decide) only [x_up_s, x_up_n, x_up_up, x_u1_s, x_u1_n]
      refine x_iinc dX12_province_272 x_get_3_2 (Nat.le_of_ble_eq_true rfl) rfl x_set_3_2 ?_
      refine x_goto (t := 254) dX12_province_275 rfl ?_
      exact ih
  refine x_iconst dX12_province_252 ?_
  refine x_istore_n dX12_province_253 (Nat.le_of_ble_eq_true rfl) rfl x_set_3_2 ?_
  refine x_mem (show _ = x_up e 82 (x_cpy (e 78) (e 82) 0 0 ((0 : Nat) : Int)) from ?_) (hloop 0 (Nat.zero_le _))
  rw [x_cpy_0]
  funext r
  by_cases hr82 : r = 82
  · subst hr82; rw [x_up_s]
  · rw [x_up_n hr82]
set_option maxHeartbeats 4000000 in
theorem pv_g {X : xC} {l : Launch} (hl : l.stackTraces = false) {N : Nat} {sh : xS} {D : xM} (hM : is_Md N sh) {b : Int → Int} {n lb : Nat} {R : Rs Tx} {S : Tx} {q : Nat} {d1 d : xM} (hi : pvi n D d1) (hlf : lf d1 d) (h14 : d 62 14 = 0) (hm : ml lb S d) (hv : sv lb S.1) (ho : so b n S) (hR : R = .inr (S, q)) : x_W (X, l, yX12_province, cX12_province, 3, (some .int), x_room 8 0 0, 0, 0, (.inl (some (.int (xI (pvo R))))), N, sh, (pvp N sh b n lb R D), false, []) 114 [some (.ref (x_b X + 62)), some (.int (xI (n : Int))), none] [] 0 0 false N sh d := by
  have s62 := md_62 hM
  have n62 : 62 < N := md_n hM (by decide)
  have s78 := md_78 hM
  have n78 : 78 < N := md_n hM (by decide)
  have s71 := md_71 hM
  have n71 : 71 < N := md_n hM (by decide)
  have s72 := md_72 hM
  have n72 : 72 < N := md_n hM (by decide)
  have s63 := md_63 hM
  have n63 : 63 < N := md_n hM (by decide)
  have s73 := md_73 hM
  have n73 : 73 < N := md_n hM (by decide)
  have s64 := md_64 hM
  have n64 : 64 < N := md_n hM (by decide)
  have s74 := md_74 hM
  have n74 : 74 < N := md_n hM (by decide)
  have s65 := md_65 hM
  have n65 : 65 < N := md_n hM (by decide)
  have s75 := md_75 hM
  have n75 : 75 < N := md_n hM (by decide)
  have s66 := md_66 hM
  have n66 : 66 < N := md_n hM (by decide)
  have s76 := md_76 hM
  have n76 : 76 < N := md_n hM (by decide)
  have s67 := md_67 hM
  have n67 : 67 < N := md_n hM (by decide)
  have s77 := md_77 hM
  have n77 : 77 < N := md_n hM (by decide)
  have s68 := md_68 hM
  have n68 : 68 < N := md_n hM (by decide)
  have s79 := md_79 hM
  have n79 : 79 < N := md_n hM (by decide)
  have s69 := md_69 hM
  have n69 : 69 < N := md_n hM (by decide)
  have s82 := md_82 hM
  have n82 : 82 < N := md_n hM (by decide)
  obtain ⟨E, hE⟩ : ∃ E, E = x_up d 62 (x_u1 (x_u1 (x_u1 (x_u1 (d 62) 1 (d 62 25)) 2 (d 62 26)) 3 (d 62 27)) 4 (d 62 28)) := ⟨_, rfl⟩
  have E62 : E 62 = x_u1 (x_u1 (x_u1 (x_u1 (d 62) 1 (d 62 25)) 2 (d 62 26)) 3 (d 62 27)) 4 (d 62 28) := by rw [hE, x_up_s]
  have Ej : ∀ j, j ≠ 62 → E j = d j := fun j a => by rw [hE, x_up_n a]
  have h15 : d 62 15 = -1 := (hlf.2.2 h14).2.trans hi.2.1.2.2.2.1
  have h0 : d 62 0 = 0 := (hlf.2.1 0 (by decide) (by decide) (by decide)).trans hi.2.1.1
  have h13 : d 62 13 = 0 := (hlf.2.1 13 (by decide) (by decide) (by decide)).trans hi.2.1.2.1
  refine x_aload_n dX12_province_114 x_get_3_0 ?_
  refine x_callV (As := []) dX12_province_115 w_12_176 (m_good hl hM h14) (by assumption) (by assumption) rfl rfl (Nat.le_of_ble_eq_true rfl) (Nat.le_of_ble_eq_true rfl) (Nat.le_of_ble_eq_true rfl) (Nat.le_of_ble_eq_true rfl) (Nat.le_of_ble_eq_true rfl) ?_
  intro d hd
  obtain rfl := Eq.symm hd
  refine r_if_ne (t := 136) dX12_province_118 rfl ⟨by omega, by omega⟩ (fun hc118 => ?_) (fun hc118 => absurd hc118 (by omega))
  refine x_aload_n dX12_province_136 x_get_3_0 ?_
  refine x_aload_n dX12_province_137 x_get_3_0 ?_
  refine x_getI 25 dX12_province_138 fX_12_236 rfl n62 s62 (by rfl) ?_
  try simp (disch := decide) only [x_up_s, x_up_n, x_up_up, x_u1_s, x_u1_n]
  refine x_putI 1 dX12_province_141 fX_12_281 rfl tX_12_1 n62 s62 (by rfl) ?_
  try simp (disch := decide) only [x_up_s, x_up_n, x_up_up, x_u1_s, x_u1_n]
  refine x_aload_n dX12_province_144 x_get_3_0 ?_
  refine x_aload_n dX12_province_145 x_get_3_0 ?_
  refine x_getI 26 dX12_province_146 fX_12_243 rfl n62 s62 (by rfl) ?_
  try simp (disch := decide) only [x_up_s, x_up_n, x_up_up, x_u1_s, x_u1_n]
  refine x_putI 2 dX12_province_149 fX_12_284 rfl tX_12_2 n62 s62 (by rfl) ?_
  try simp (disch := decide) only [x_up_s, x_up_n, x_up_up, x_u1_s, x_u1_n]
  refine x_aload_n dX12_province_152 x_get_3_0 ?_
  refine x_aload_n dX12_province_153 x_get_3_0 ?_
  refine x_getI 27 dX12_province_154 fX_12_253 rfl n62 s62 (by rfl) ?_
  try simp (disch := decide) only [x_up_s, x_up_n, x_up_up, x_u1_s, x_u1_n]
  refine x_putI 3 dX12_province_157 fX_12_287 rfl tX_12_3 n62 s62 (by rfl) ?_
  try simp (disch := decide) only [x_up_s, x_up_n, x_up_up, x_u1_s, x_u1_n]
  refine x_aload_n dX12_province_160 x_get_3_0 ?_
  refine x_aload_n dX12_province_161 x_get_3_0 ?_
  refine x_getI 28 dX12_province_162 fX_12_265 rfl n62 s62 (by rfl) ?_
  try simp (disch := decide) only [x_up_s, x_up_n, x_up_up, x_u1_s, x_u1_n]
  refine x_putI 4 dX12_province_165 fX_12_9 rfl tX_12_4 n62 s62 (by rfl) ?_
  try simp (disch := decide) only [x_up_s, x_up_n, x_up_up, x_u1_s, x_u1_n]
  rw [← hE]
  refine x_aload_n dX12_province_168 x_get_3_0 ?_
  refine x_aload_n dX12_province_169 x_get_3_0 ?_
  refine x_getR dX12_province_170 fX_12_44 n62 s62 (by rfl) ?_
  refine x_aload_n dX12_province_173 x_get_3_0 ?_
  refine x_getR dX12_province_174 fX_12_13 n62 s62 (by rfl) ?_
  refine x_callV (As := [_, _]) dX12_province_177 w_12_290 (m_copies hl hM (qa := 72) (qb := 63) n72 n63 s72 s63 (by decide) (by decide)) (by assumption) (by assumption) rfl rfl (Nat.le_of_ble_eq_true rfl) (Nat.le_of_ble_eq_true rfl) (Nat.le_of_ble_eq_true rfl) (Nat.le_of_ble_eq_true rfl) (Nat.le_of_ble_eq_true rfl) ?_
  intro c0 hc0
  refine x_aload_n dX12_province_180 x_get_3_0 ?_
  refine x_aload_n dX12_province_181 x_get_3_0 ?_
  refine x_getR dX12_province_182 fX_12_47 n62 s62 (by rfl) ?_
  refine x_aload_n dX12_province_185 x_get_3_0 ?_
  refine x_getR dX12_province_186 fX_12_17 n62 s62 (by rfl) ?_
  refine x_callV (As := [_, _]) dX12_province_189 w_12_290 (m_copies hl hM (qa := 73) (qb := 64) n73 n64 s73 s64 (by decide) (by decide)) (by assumption) (by assumption) rfl rfl (Nat.le_of_ble_eq_true rfl) (Nat.le_of_ble_eq_true rfl) (Nat.le_of_ble_eq_true rfl) (Nat.le_of_ble_eq_true rfl) (Nat.le_of_ble_eq_true rfl) ?_
  intro c1 hc1
  refine x_aload_n dX12_province_192 x_get_3_0 ?_
  refine x_aload_n dX12_province_193 x_get_3_0 ?_
  refine x_getR dX12_province_194 fX_12_50 n62 s62 (by rfl) ?_
  refine x_aload_n dX12_province_197 x_get_3_0 ?_
  refine x_getR dX12_province_198 fX_12_20 n62 s62 (by rfl) ?_
  refine x_callV (As := [_, _]) dX12_province_201 w_12_290 (m_copies hl hM (qa := 74) (qb := 65) n74 n65 s74 s65 (by decide) (by decide)) (by assumption) (by assumption) rfl rfl (Nat.le_of_ble_eq_true rfl) (Nat.le_of_ble_eq_true rfl) (Nat.le_of_ble_eq_true rfl) (Nat.le_of_ble_eq_true rfl) (Nat.le_of_ble_eq_true rfl) ?_
  intro c2 hc2
  refine x_aload_n dX12_province_204 x_get_3_0 ?_
  refine x_aload_n dX12_province_205 x_get_3_0 ?_
  refine x_getR dX12_province_206 fX_12_53 n62 s62 (by rfl) ?_
  refine x_aload_n dX12_province_209 x_get_3_0 ?_
  refine x_getR dX12_province_210 fX_12_23 n62 s62 (by rfl) ?_
  refine x_callV (As := [_, _]) dX12_province_213 w_12_290 (m_copies hl hM (qa := 75) (qb := 66) n75 n66 s75 s66 (by decide) (by decide)) (by assumption) (by assumption) rfl rfl (Nat.le_of_ble_eq_true rfl) (Nat.le_of_ble_eq_true rfl) (Nat.le_of_ble_eq_true rfl) (Nat.le_of_ble_eq_true rfl) (Nat.le_of_ble_eq_true rfl) ?_
  intro c3 hc3
  refine x_aload_n dX12_province_216 x_get_3_0 ?_
  refine x_aload_n dX12_province_217 x_get_3_0 ?_
  refine x_getR dX12_province_218 fX_12_56 n62 s62 (by rfl) ?_
  refine x_aload_n dX12_province_221 x_get_3_0 ?_
  refine x_getR dX12_province_222 fX_12_26 n62 s62 (by rfl) ?_
  refine x_callV (As := [_, _]) dX12_province_225 w_12_290 (m_copies hl hM (qa := 76) (qb := 67) n76 n67 s76 s67 (by decide) (by decide)) (by assumption) (by assumption) rfl rfl (Nat.le_of_ble_eq_true rfl) (Nat.le_of_ble_eq_true rfl) (Nat.le_of_ble_eq_true rfl) (Nat.le_of_ble_eq_true rfl) (Nat.le_of_ble_eq_true rfl) ?_
  intro c4 hc4
  refine x_aload_n dX12_province_228 x_get_3_0 ?_
  refine x_aload_n dX12_province_229 x_get_3_0 ?_
  refine x_getR dX12_province_230 fX_12_59 n62 s62 (by rfl) ?_
  refine x_aload_n dX12_province_233 x_get_3_0 ?_
  refine x_getR dX12_province_234 fX_12_29 n62 s62 (by rfl) ?_
  refine x_callV (As := [_, _]) dX12_province_237 w_12_290 (m_copies hl hM (qa := 77) (qb := 68) n77 n68 s77 s68 (by decide) (by decide)) (by assumption) (by assumption) rfl rfl (Nat.le_of_ble_eq_true rfl) (Nat.le_of_ble_eq_true rfl) (Nat.le_of_ble_eq_true rfl) (Nat.le_of_ble_eq_true rfl) (Nat.le_of_ble_eq_true rfl) ?_
  intro c5 hc5
  refine x_aload_n dX12_province_240 x_get_3_0 ?_
  refine x_aload_n dX12_province_241 x_get_3_0 ?_
  refine x_getR dX12_province_242 fX_12_65 n62 s62 (by rfl) ?_
  refine x_aload_n dX12_province_245 x_get_3_0 ?_
  refine x_getR dX12_province_246 fX_12_32 n62 s62 (by rfl) ?_
  refine x_callV (As := [_, _]) dX12_province_249 w_12_290 (m_copies hl hM (qa := 79) (qb := 69) n79 n69 s79 s69 (by decide) (by decide)) (by assumption) (by assumption) rfl rfl (Nat.le_of_ble_eq_true rfl) (Nat.le_of_ble_eq_true rfl) (Nat.le_of_ble_eq_true rfl) (Nat.le_of_ble_eq_true rfl) (Nat.le_of_ble_eq_true rfl) ?_
  intro c6 hc6
  have cj : ∀ j, j ≠ 63 → j ≠ 64 → j ≠ 65 → j ≠ 66 → j ≠ 67 → j ≠ 68 → j ≠ 69 → c6 j = E j := fun j a1 a2 a3 a4 a5 a6 a7 => by rw [hc6, x_up_n a7, hc5, x_up_n a6, hc4, x_up_n a5, hc3, x_up_n a4, hc2, x_up_n a3, hc1, x_up_n a2, hc0, x_up_n a1]
  have s63 : c6 63 = d 72 := by rw [hc6, x_up_n (by decide), hc5, x_up_n (by decide), hc4, x_up_n (by decide), hc3, x_up_n (by decide), hc2, x_up_n (by decide), hc1, x_up_n (by decide), hc0, x_up_s]; exact Ej 72 (by decide)
  have s64 : c6 64 = d 73 := by rw [hc6, x_up_n (by decide), hc5, x_up_n (by decide), hc4, x_up_n (by decide), hc3, x_up_n (by decide), hc2, x_up_n (by decide), hc1, x_up_s, hc0, x_up_n (by decide)]; exact Ej 73 (by decide)
  have s65 : c6 65 = d 74 := by rw [hc6, x_up_n (by decide), hc5, x_up_n (by decide), hc4, x_up_n (by decide), hc3, x_up_n (by decide), hc2, x_up_s, hc1, x_up_n (by decide), hc0, x_up_n (by decide)]; exact Ej 74 (by decide)
  have s66 : c6 66 = d 75 := by rw [hc6, x_up_n (by decide), hc5, x_up_n (by decide), hc4, x_up_n (by decide), hc3, x_up_s, hc2, x_up_n (by decide), hc1, x_up_n (by decide), hc0, x_up_n (by decide)]; exact Ej 75 (by decide)
  have s67 : c6 67 = d 76 := by rw [hc6, x_up_n (by decide), hc5, x_up_n (by decide), hc4, x_up_s, hc3, x_up_n (by decide), hc2, x_up_n (by decide), hc1, x_up_n (by decide), hc0, x_up_n (by decide)]; exact Ej 76 (by decide)
  have s68 : c6 68 = d 77 := by rw [hc6, x_up_n (by decide), hc5, x_up_s, hc4, x_up_n (by decide), hc3, x_up_n (by decide), hc2, x_up_n (by decide), hc1, x_up_n (by decide), hc0, x_up_n (by decide)]; exact Ej 77 (by decide)
  have s69 : c6 69 = d 79 := by rw [hc6, x_up_s, hc5, x_up_n (by decide), hc4, x_up_n (by decide), hc3, x_up_n (by decide), hc2, x_up_n (by decide), hc1, x_up_n (by decide), hc0, x_up_n (by decide)]; exact Ej 79 (by decide)
  have c62 : c6 62 = x_u1 (x_u1 (x_u1 (x_u1 (d 62) 1 (d 62 25)) 2 (d 62 26)) 3 (d 62 27)) 4 (d 62 28) := by rw [cj 62 (by decide) (by decide) (by decide) (by decide) (by decide) (by decide) (by decide)]; exact E62
  have ci : ∀ i : Int, i ≠ 1 → i ≠ 2 → i ≠ 3 → i ≠ 4 → c6 62 i = d 62 i := fun i a1 a2 a3 a4 => by rw [c62, x_u1_n a4, x_u1_n a3, x_u1_n a2, x_u1_n a1]
  obtain ⟨T0, hrd⟩ := hv.1.2.2
  refine pv_g252 hl hM ((ci 0 (by decide) (by decide) (by decide) (by decide)).trans h0) ((ci 13 (by decide) (by decide) (by decide) (by decide)).trans h13) ((ci 15 (by decide) (by decide) (by decide) (by decide)).trans h15) (fun ss hs => pv_mq hM hv ho hm (by rw [c62, x_u1_n (by decide), x_u1_n (by decide), x_u1_n (by decide), x_u1_s]) (by rw [c62, x_u1_n (by decide), x_u1_n (by decide), x_u1_s]) (by rw [c62, x_u1_n (by decide), x_u1_s]) (by rw [c62, x_u1_s]) s63 s64 s69 hs) ⟨by rw [s65, s66, s67, s68]; exact hm.2.2.1, hrd.2.2.2.2.1, hrd.2.2.2.2.2.1, hrd.2.2.2.2.2.2.1, hrd.2.2.2.2.2.2.2.1⟩ (by rw [cj 78 (by decide) (by decide) (by decide) (by decide) (by decide) (by decide) (by decide), Ej 78 (by decide)]; exact hm.2.2.2.1) (fun j hj => ?_) hR hv
  rw [cj j (by omega) (by omega) (by omega) (by omega) (by omega) (by omega) (by omega), Ej j (by omega), hlf.1 j (by omega) (by omega)]
  exact hi.1 j (by omega) (by omega)
set_option maxHeartbeats 4000000 in
theorem pv_loop {X : xC} {l : Launch} (hl : l.stackTraces = false) {N : Nat} {sh : xS} {D : xM} (hM : is_Md N sh) {b : Int → Int} {n lb : Nat} {R : Rs Tx} {d1 : xM} (hlb : 3 ≤ lb) (hi : pvi n D d1) (hso : ∀ w, R = .inr w → so b n w.1) : ∀ (k : Nat) (S : Tx) (q : Nat) (d : xM), n ≤ q + k → ml lb S d → gs b n q d → d 62 14 = 0 → lf d1 d → sv lb S.1 → R = r_txt b n lb k S q → x_W (X, l, yX12_province, cX12_province, 3, (some .int), x_room 8 0 0, 0, 0, (.inl (some (.int (xI (pvo R))))), N, sh, (pvp N sh b n lb R D), false, []) 93 [some (.ref (x_b X + 62)), some (.int (xI (n : Int))), none] [] 0 0 false N sh d := by
  have s62 := md_62 hM
  have n62 : 62 < N := md_n hM (by decide)
  have s78 := md_78 hM
  have n78 : 78 < N := md_n hM (by decide)
  have s71 := md_71 hM
  have n71 : 71 < N := md_n hM (by decide)
  have s72 := md_72 hM
  have n72 : 72 < N := md_n hM (by decide)
  have s63 := md_63 hM
  have n63 : 63 < N := md_n hM (by decide)
  have s73 := md_73 hM
  have n73 : 73 < N := md_n hM (by decide)
  have s64 := md_64 hM
  have n64 : 64 < N := md_n hM (by decide)
  have s74 := md_74 hM
  have n74 : 74 < N := md_n hM (by decide)
  have s65 := md_65 hM
  have n65 : 65 < N := md_n hM (by decide)
  have s75 := md_75 hM
  have n75 : 75 < N := md_n hM (by decide)
  have s66 := md_66 hM
  have n66 : 66 < N := md_n hM (by decide)
  have s76 := md_76 hM
  have n76 : 76 < N := md_n hM (by decide)
  have s67 := md_67 hM
  have n67 : 67 < N := md_n hM (by decide)
  have s77 := md_77 hM
  have n77 : 77 < N := md_n hM (by decide)
  have s68 := md_68 hM
  have n68 : 68 < N := md_n hM (by decide)
  have s79 := md_79 hM
  have n79 : 79 < N := md_n hM (by decide)
  have s69 := md_69 hM
  have n69 : 69 < N := md_n hM (by decide)
  have s82 := md_82 hM
  have n82 : 82 < N := md_n hM (by decide)
  have gE : ∀ (S : Tx) (q : Nat) (d : xM), ml lb S d → gs b n q d → d 62 14 = 0 → lf d1 d → sv lb S.1 → tK b n q = 0 → R = .inr (S, q) → x_W (X, l, yX12_province, cX12_province, 3, (some .int), x_room 8 0 0, 0, 0, (.inl (some (.int (xI (pvo R))))), N, sh, (pvp N sh b n lb R D), false, []) 93 [some (.ref (x_b X + 62)), some (.int (xI (n : Int))), none] [] 0 0 false N sh d := by
    intro S q d hm hg h14 hlf hv h0 hR
    have f19 : d 62 19 = 0 := by rw [hg.2.2.2.2.1, h0]; rfl
    refine x_aload_n dX12_province_93 x_get_3_0 ?_
    refine x_callV (As := []) dX12_province_94 w_12_176 (m_good hl hM h14) (by assumption) (by assumption) rfl rfl (Nat.le_of_ble_eq_true rfl) (Nat.le_of_ble_eq_true rfl) (Nat.le_of_ble_eq_true rfl) (Nat.le_of_ble_eq_true rfl) (Nat.le_of_ble_eq_true rfl) ?_
    intro d hd
    obtain rfl := Eq.symm hd
    refine r_if_eq (t := 114) dX12_province_97 rfl ⟨by omega, by omega⟩ (fun hc97 => absurd hc97 (by omega)) (fun hc97 => ?_)
    refine x_aload_n dX12_province_100 x_get_3_0 ?_
    refine x_getI 19 dX12_province_101 fX_12_150 rfl n62 s62 (by rfl) ?_
    try simp (disch := decide) only [x_up_s, x_up_n, x_up_up, x_u1_s, x_u1_n, f19]
    refine r_if_eq (t := 114) dX12_province_104 rfl ⟨by omega, by omega⟩ (fun hc104 => ?_) (fun hc104 => absurd hc104 (by omega))
    exact pv_g hl hM hi hlf h14 hm hv (hso _ hR) hR
  intro k
  induction k with
  | zero =>
    intro S q d hk hm hg h14 hlf hv hR
    have h0 : tK b n q = 0 := by
      by_cases h0 : tK b n q = 0
      · exact h0
      · have a1 := tK_pos h0
        have a2 := (tE_in (b := b) hg.2.1).1
        exact absurd a1 (by omega)
    exact gE S q d hm hg h14 hlf hv h0 hR
  | succ k ih =>
    intro S q d hk hm hg h14 hlf hv hR
    rw [r_txt_s] at hR
    by_cases h0 : tK b n q = 0
    · rw [if_pos h0] at hR
      exact gE S q d hm hg h14 hlf hv h0 hR
    rw [if_neg h0] at hR
    obtain ⟨f0, f1, f2, f3, f4, f5⟩ := m_so_w (b := b) (n := n) (q := q)
    have f19 : d 62 19 = m_so (tK b n q) := hg.2.2.2.2.1
    have f19n : ¬ m_so (tK b n q) = 0 := fun h => h0 (f0.mp h)
    have hln := ml_line (X := X) (l := l) hl hM hv hm hg h14
    obtain ⟨r, hr⟩ : ∃ r, r_lin b n lb S q = r := ⟨_, rfl⟩
    rw [hr] at hln hR
    cases r with
    | inl z =>
      refine x_aload_n dX12_province_93 x_get_3_0 ?_
      refine x_callV (As := []) dX12_province_94 w_12_176 (m_good hl hM h14) (by assumption) (by assumption) rfl rfl (Nat.le_of_ble_eq_true rfl) (Nat.le_of_ble_eq_true rfl) (Nat.le_of_ble_eq_true rfl) (Nat.le_of_ble_eq_true rfl) (Nat.le_of_ble_eq_true rfl) ?_
      intro d hd
      obtain rfl := Eq.symm hd
      refine r_if_eq (t := 114) dX12_province_97 rfl ⟨by omega, by omega⟩ (fun hc97 => absurd hc97 (by omega)) (fun hc97 => ?_)
      refine x_aload_n dX12_province_100 x_get_3_0 ?_
      refine x_getI 19 dX12_province_101 fX_12_150 rfl n62 s62 (by rfl) ?_
      try simp (disch := decide) only [x_up_s, x_up_n, x_up_up, x_u1_s, x_u1_n, f19]
      refine r_if_eq (t := 114) dX12_province_104 rfl ⟨by omega, by omega⟩ (fun hc104 => absurd hc104 (by omega)) (fun hc104 => ?_)
      refine x_aload_n dX12_province_107 x_get_3_0 ?_
      refine x_callV (As := []) dX12_province_108 w_12_278 (hln) (by assumption) (by assumption) rfl rfl (Nat.le_of_ble_eq_true rfl) (Nat.le_of_ble_eq_true rfl) (Nat.le_of_ble_eq_true rfl) (Nat.le_of_ble_eq_true rfl) (Nat.le_of_ble_eq_true rfl) ?_
      intro d2 hd2
      refine x_goto (t := 93) dX12_province_111 rfl ?_
      exact pv_f hl hM hi (show fz b n z d1 d2 from ⟨lf_tr hlf hd2.1, hd2.2⟩) hR
    | inr w =>
      obtain ⟨S2, q2⟩ := w
      obtain ⟨u1, u2⟩ := r_lin_q hg.2.1 hr
      obtain ⟨q1, e1, e2, e3⟩ := r_lin_inr hr
      have hv2 := (r_ln1_ok hlb hv e1).1
      have u1 : q < q2 := u1
      refine x_aload_n dX12_province_93 x_get_3_0 ?_
      refine x_callV (As := []) dX12_province_94 w_12_176 (m_good hl hM h14) (by assumption) (by assumption) rfl rfl (Nat.le_of_ble_eq_true rfl) (Nat.le_of_ble_eq_true rfl) (Nat.le_of_ble_eq_true rfl) (Nat.le_of_ble_eq_true rfl) (Nat.le_of_ble_eq_true rfl) ?_
      intro d hd
      obtain rfl := Eq.symm hd
      refine r_if_eq (t := 114) dX12_province_97 rfl ⟨by omega, by omega⟩ (fun hc97 => absurd hc97 (by omega)) (fun hc97 => ?_)
      refine x_aload_n dX12_province_100 x_get_3_0 ?_
      refine x_getI 19 dX12_province_101 fX_12_150 rfl n62 s62 (by rfl) ?_
      try simp (disch := decide) only [x_up_s, x_up_n, x_up_up, x_u1_s, x_u1_n, f19]
      refine r_if_eq (t := 114) dX12_province_104 rfl ⟨by omega, by omega⟩ (fun hc104 => absurd hc104 (by omega)) (fun hc104 => ?_)
      refine x_aload_n dX12_province_107 x_get_3_0 ?_
      refine x_callV (As := []) dX12_province_108 w_12_278 (hln) (by assumption) (by assumption) rfl rfl (Nat.le_of_ble_eq_true rfl) (Nat.le_of_ble_eq_true rfl) (Nat.le_of_ble_eq_true rfl) (Nat.le_of_ble_eq_true rfl) (Nat.le_of_ble_eq_true rfl) ?_
      intro d2 hd2
      refine x_goto (t := 93) dX12_province_111 rfl ?_
      exact ih S2 q2 d2 (by omega) hd2.2.2.2 hd2.2.1 hd2.2.2.1 (lf_tr hlf hd2.1) hv2 hR
set_option maxHeartbeats 4000000 in
theorem m_prov {X : xC} {l : Launch} (hl : l.stackTraces = false) {N : Nat} {sh : xS} {D : xM} (hM : is_Md N sh) {b : Int → Int} {n lb : Nat} {R : Rs Tx} {k : Nat} (hlb : 3 ≤ lb) (hk7 : k ≤ 700) (hkt : D 62 13 = (k : Int)) (hnk : n ≤ k) (hb : ∀ i : Nat, i < 700 → D 70 i = ub b i ∧ -128 ≤ b i ∧ b i ≤ 127) {Dc : xM} (hlw : lw Dc lb) (hR : R = r_all b n lb Dc) : x_M X l yX12_province cX12_province 3 (some .int) 8 0 0 [.ref (x_b X + 62), .int (xI (n : Int))] false N sh D (.inl (some (.int (xI (pvo R))))) false N sh (pvp N sh b n lb R D) := by
  have s62 := md_62 hM
  have n62 : 62 < N := md_n hM (by decide)
  have s78 := md_78 hM
  have n78 : 78 < N := md_n hM (by decide)
  have s71 := md_71 hM
  have n71 : 71 < N := md_n hM (by decide)
  have s72 := md_72 hM
  have n72 : 72 < N := md_n hM (by decide)
  have s63 := md_63 hM
  have n63 : 63 < N := md_n hM (by decide)
  have s73 := md_73 hM
  have n73 : 73 < N := md_n hM (by decide)
  have s64 := md_64 hM
  have n64 : 64 < N := md_n hM (by decide)
  have s74 := md_74 hM
  have n74 : 74 < N := md_n hM (by decide)
  have s65 := md_65 hM
  have n65 : 65 < N := md_n hM (by decide)
  have s75 := md_75 hM
  have n75 : 75 < N := md_n hM (by decide)
  have s66 := md_66 hM
  have n66 : 66 < N := md_n hM (by decide)
  have s76 := md_76 hM
  have n76 : 76 < N := md_n hM (by decide)
  have s67 := md_67 hM
  have n67 : 67 < N := md_n hM (by decide)
  have s77 := md_77 hM
  have n77 : 77 < N := md_n hM (by decide)
  have s68 := md_68 hM
  have n68 : 68 < N := md_n hM (by decide)
  have s79 := md_79 hM
  have n79 : 79 < N := md_n hM (by decide)
  have s69 := md_69 hM
  have n69 : 69 < N := md_n hM (by decide)
  have s82 := md_82 hM
  have n82 : 82 < N := md_n hM (by decide)
  have hso : ∀ w, R = .inr w → so b n w.1 := fun w hw => so_txt 700 (clr lb Dc, none) 0 w (Nat.zero_le _) (fun L hL => by cases hL) (hR.symm.trans hw)
  have hsv := sv_clr hlw
  have g89 : ∀ d : xM, pvi n D d → d 62 18 = 0 → d 62 25 = 0 → d 62 26 = 0 → d 62 27 = 0 → d 62 28 = -1 → d 62 29 = 0 → d 78 0 = 0 → x_W (X, l, yX12_province, cX12_province, 3, (some .int), x_room 8 0 0, 0, 0, (.inl (some (.int (xI (pvo R))))), N, sh, (pvp N sh b n lb R D), false, []) 89 [some (.ref (x_b X + 62)), some (.int (xI (n : Int))), none] [] 0 0 false N sh d := by
    intro d hi h18 h25 h26 h27 h28 h29 h78
    have hml : ml lb (clr lb Dc, none) d := by
      have z0 : clr lb Dc lb 0 = 0 := by unfold clr; rw [x_up_n (by omega), x_up_n (by omega), x_up_n (by omega), x_up_s, x_u1_n (by decide), x_u1_s]
      have z1 : clr lb Dc lb 1 = 0 := by unfold clr; rw [x_up_n (by omega), x_up_n (by omega), x_up_n (by omega), x_up_s, x_u1_s]
      have z3 : clr lb Dc (lb + 3) 0 = 0 := by unfold clr; rw [x_up_n (by omega), x_up_n (by omega), x_up_s, x_u1_n (by decide), x_u1_s]
      have z14 : clr lb Dc (lb + 14) = fun _ => 0 := by unfold clr; rw [x_up_s]
      unfold ml
      simp only [z0, z1, z3, z14]
      refine ⟨⟨h25, h26, h27⟩, fun t a c => absurd c (by show ¬ t < 0; omega), fun t a c => absurd c (by show ¬ t < 0; omega), fun i hlv => ?_, h28, h29⟩
      have hi0 : i = 0 := by
        unfold lv at hlv
        have e0 : ((Int.toNat 0 : Nat) : Int) = 0 := rfl
        rw [e0] at hlv
        omega
      rw [hi0]
      exact h78
    have htp : mtp b n d := ⟨hi.2.1.2.2.2.2, by omega, by rw [hi.1 70 (by decide) (by decide)]; exact hb⟩
    refine x_aload_n dX12_province_89 x_get_3_0 ?_
    refine x_callV (As := []) dX12_province_90 w_12_180 (m_goes hl hM htp (q := 0) (Nat.zero_le _) h18) (by assumption) (by assumption) rfl rfl (Nat.le_of_ble_eq_true rfl) (Nat.le_of_ble_eq_true rfl) (Nat.le_of_ble_eq_true rfl) (Nat.le_of_ble_eq_true rfl) (Nat.le_of_ble_eq_true rfl) ?_
    rintro d2 ⟨hg2, hf2⟩
    exact pv_loop hl hM hlb hi hso 700 _ 0 d2 (by omega) (ml_gf hml hf2) hg2 (by rw [hf2.2 14 (by decide)]; exact hi.2.1.2.2.1) (lf_gf hf2) hsv hR
  refine x_ofW (by decide +kernel) hl (by simp [Value.category]) (by simp) ?_
  refine x_aload_n dX12_province_0 x_get_3_0 ?_
  refine x_iconst dX12_province_1 ?_
  refine x_putI 0 dX12_province_2 fX_12_117 rfl tX_12_0 n62 s62 (by rfl) ?_
  try simp (disch := decide) only [x_up_s, x_up_n, x_up_up, x_u1_s, x_u1_n, hkt]
  refine x_aload_n dX12_province_5 x_get_3_0 ?_
  refine x_iload_n dX12_province_6 x_get_3_1 ?_
  refine r_if_lt (t := 22) dX12_province_7 rfl ⟨by omega, by omega⟩ (fun hc7 => absurd hc7 (by omega)) (fun hc7 => ?_)
  refine x_iload_n dX12_province_10 x_get_3_1 ?_
  refine x_aload_n dX12_province_11 x_get_3_0 ?_
  refine x_getI 13 dX12_province_12 fX_12_120 rfl n62 s62 (by rfl) ?_
  try simp (disch := decide) only [x_up_s, x_up_n, x_up_up, x_u1_s, x_u1_n, hkt]
  refine r_icmp_gt (t := 22) dX12_province_15 rfl ⟨by omega, by omega⟩ ⟨by omega, by omega⟩ (fun hc15 => absurd hc15 (by omega)) (fun hc15 => ?_)
  refine x_iconst dX12_province_18 ?_
  refine x_goto (t := 23) dX12_province_19 rfl ?_
  refine x_iconst dX12_province_23 ?_
  have hrT := m_rightT (X := X) (l := l) hl hM (D := x_up D 62 (x_u1 (D 62) 0 0)) (w := 1) (by rw [x_up_s, x_u1_s])
  refine x_callV (As := [_, _]) dX12_province_24 w_12_274 (hrT) (by assumption) (by assumption) rfl rfl (Nat.le_of_ble_eq_true rfl) (Nat.le_of_ble_eq_true rfl) (Nat.le_of_ble_eq_true rfl) (Nat.le_of_ble_eq_true rfl) (Nat.le_of_ble_eq_true rfl) ?_
  intro d hd
  obtain rfl := Eq.symm hd
  refine r_if_ne (t := 32) dX12_province_27 rfl ⟨by omega, by omega⟩ (fun hc27 => ?_) (fun hc27 => absurd hc27 (by omega))
  refine x_aload_n dX12_province_32 x_get_3_0 ?_
  refine x_iconst dX12_province_33 ?_
  refine x_putI 13 dX12_province_34 fX_12_120 rfl tX_12_13 n62 s62 (by rfl) ?_
  try simp (disch := decide) only [x_up_s, x_up_n, x_up_up, x_u1_s, x_u1_n, hkt]
  refine x_aload_n dX12_province_37 x_get_3_0 ?_
  refine x_iconst dX12_province_38 ?_
  refine x_putI 15 dX12_province_39 fX_12_38 rfl tX_12_15 n62 s62 (by rfl) ?_
  try simp (disch := decide) only [x_up_s, x_up_n, x_up_up, x_u1_s, x_u1_n, hkt]
  refine x_aload_n dX12_province_42 x_get_3_0 ?_
  refine x_iconst dX12_province_43 ?_
  refine x_putI 14 dX12_province_44 fX_12_173 rfl tX_12_14 n62 s62 (by rfl) ?_
  try simp (disch := decide) only [x_up_s, x_up_n, x_up_up, x_u1_s, x_u1_n, hkt]
  refine x_aload_n dX12_province_47 x_get_3_0 ?_
  refine x_iload_n dX12_province_48 x_get_3_1 ?_
  refine x_putI 17 dX12_province_49 fX_12_127 rfl tX_12_17 n62 s62 (by rfl) ?_
  try simp (disch := decide) only [x_up_s, x_up_n, x_up_up, x_u1_s, x_u1_n, hkt]
  refine x_aload_n dX12_province_52 x_get_3_0 ?_
  refine x_iconst dX12_province_53 ?_
  refine x_putI 18 dX12_province_54 fX_12_130 rfl tX_12_18 n62 s62 (by rfl) ?_
  try simp (disch := decide) only [x_up_s, x_up_n, x_up_up, x_u1_s, x_u1_n, hkt]
  refine x_aload_n dX12_province_57 x_get_3_0 ?_
  refine x_iconst dX12_province_58 ?_
  refine x_putI 25 dX12_province_59 fX_12_236 rfl tX_12_25 n62 s62 (by rfl) ?_
  try simp (disch := decide) only [x_up_s, x_up_n, x_up_up, x_u1_s, x_u1_n, hkt]
  refine x_aload_n dX12_province_62 x_get_3_0 ?_
  refine x_iconst dX12_province_63 ?_
  refine x_putI 26 dX12_province_64 fX_12_243 rfl tX_12_26 n62 s62 (by rfl) ?_
  try simp (disch := decide) only [x_up_s, x_up_n, x_up_up, x_u1_s, x_u1_n, hkt]
  refine x_aload_n dX12_province_67 x_get_3_0 ?_
  refine x_iconst dX12_province_68 ?_
  refine x_putI 27 dX12_province_69 fX_12_253 rfl tX_12_27 n62 s62 (by rfl) ?_
  try simp (disch := decide) only [x_up_s, x_up_n, x_up_up, x_u1_s, x_u1_n, hkt]
  refine x_aload_n dX12_province_72 x_get_3_0 ?_
  refine x_iconst dX12_province_73 ?_
  refine x_putI 28 dX12_province_74 fX_12_265 rfl tX_12_28 n62 s62 (by rfl) ?_
  try simp (disch := decide) only [x_up_s, x_up_n, x_up_up, x_u1_s, x_u1_n, hkt]
  refine x_aload_n dX12_province_77 x_get_3_0 ?_
  refine x_getR dX12_province_78 fX_12_62 n62 s62 (by rfl) ?_
  refine x_iconst dX12_province_81 ?_
  refine x_iconst dX12_province_82 ?_
  refine x_iast dX12_province_83 n78 s78 (by omega) (by omega) (by decide) ?_
  try simp (disch := decide) only [x_up_s, x_up_n, x_up_up, x_u1_s, x_u1_n, hkt]
  refine x_aload_n dX12_province_84 x_get_3_0 ?_
  refine x_iconst dX12_province_85 ?_
  refine x_putI 29 dX12_province_86 fX_12_189 rfl tX_12_29 n62 s62 (by rfl) ?_
  try simp (disch := decide) only [x_up_s, x_up_n, x_up_up, x_u1_s, x_u1_n, hkt]
  refine g89 _ ⟨fun j a c => ?_, ⟨?_, ?_, ?_, ?_, ?_⟩, fun i a c e => ?_⟩ ?_ ?_ ?_ ?_ ?_ ?_ ?_
  all_goals (try simp (disch := first | decide | assumption) only [x_up_s, x_up_n, x_u1_s, x_u1_n])
  · repeat rw [x_u1_n (by omega)]
end M99999
