section M9993
/-! ===== the Model's words: letters packed ===== -/
theorem xL_nat (n : Nat) : xL (n : Int) = Int64.ofNat n := by first | rfl | exact Int64.ofInt_eq_ofNat ..
theorem x_l5 : (xI 5).toInt64 &&& 63 = 5 := by decide +kernel
theorem x_ic : ∀ c : Nat, c < 128 → (xI (c : Int)).toInt64 = xL (c : Int) := by decide +kernel
theorem xL_of {z : Int} (h0 : -9223372036854775808 ≤ z) (h1 : z < 9223372036854775808) : (xL z).toInt = z := Int64.toInt_ofInt_of_le h0 h1
theorem xL_sho {w c : Nat} (hw : w < 2 ^ 40) (hc : c < 32) : (xL (w : Int) <<< (5 : Int64)) ||| xL (c : Int) = xL ((32 * w + c : Nat) : Int) := by
  rw [xL_nat, xL_nat, xL_nat]
  apply Int64.toBitVec_inj.mp
  rw [Int64.toBitVec_or, Int64.toBitVec_shiftLeft]
  have e5 : (5 : Int64).toBitVec.smod 64 = 5#64 := by decide
  rw [e5]
  apply BitVec.eq_of_toNat_eq
  simp only [Int64.toBitVec_ofNat', BitVec.toNat_or, BitVec.toNat_ofNat, BitVec.shiftLeft_eq', BitVec.toNat_shiftLeft]
  have h1 : w % 2 ^ 64 = w := Nat.mod_eq_of_lt (Nat.lt_of_lt_of_le hw (by decide))
  have h2 : c % 2 ^ 64 = c := Nat.mod_eq_of_lt (by omega)
  have h3 : (32 * w + c) % 2 ^ 64 = 32 * w + c := Nat.mod_eq_of_lt (by omega)
  have h5 : (5 % 2 ^ 64 : Nat) = 5 := by decide
  rw [h1, h2, h3, h5]
  have h4 : w <<< 5 = 32 * w := by rw [Nat.shiftLeft_eq]; omega
  have h6 : (w <<< 5) % 2 ^ 64 = w <<< 5 := Nat.mod_eq_of_lt (by rw [h4]; omega)
  rw [h6, ← Nat.shiftLeft_add_eq_or_of_lt (by omega), h4]
theorem x_pk1 {w c : Int} (hw0 : 0 ≤ w) (hw : w < 1099511627776) (hc0 : 0 ≤ c) (hc : c < 32) : x_lo (x_ll w 5) (x_Il c) = 32 * w + c := by
  obtain ⟨u, rfl⟩ := Int.eq_ofNat_of_zero_le hw0
  obtain ⟨v, rfl⟩ := Int.eq_ofNat_of_zero_le hc0
  unfold x_lo x_ll x_Il
  rw [xL_toInt, xL_toInt, x_l5, x_ic v (by omega), xL_sho (by omega) (by omega), xL_of (by omega) (by omega)]
  push_cast
  rfl
theorem x_pk0 : ∀ c : Nat, c < 128 → x_ls (x_Il (c : Int)) 96 = (c : Int) - 96 := by decide +kernel
theorem x_lc_0 {a b : Int} (ha0 : 0 ≤ a) (ha : a < 9223372036854775808) (hb0 : 0 ≤ b) (hb : b < 9223372036854775808) : (x_lc a b = 0 ↔ a = b) ∧ x_r (x_lc a b) := by
  unfold x_lc lg_cmp
  have e : xL a = xL b ↔ a = b := by
    constructor
    · intro h
      have h2 : (xL a).toInt = (xL b).toInt := by rw [h]
      rwa [xL_of (by omega) (by omega), xL_of (by omega) (by omega)] at h2
    · intro h; rw [h]
  by_cases h1 : xL a > xL b
  · rw [if_pos h1]
    refine ⟨⟨fun h => absurd h (by decide), fun h => ?_⟩, by decide, by decide⟩
    rw [e.mpr h] at h1
    exact absurd h1 (by rw [gt_iff_lt, Int64.lt_iff_toInt_lt]; omega)
  · rw [if_neg h1]
    by_cases h2 : xL a = xL b
    · rw [if_pos h2]; exact ⟨⟨fun _ => e.mp h2, fun _ => by decide⟩, by decide, by decide⟩
    · rw [if_neg h2]; exact ⟨⟨fun h => absurd h (by decide), fun h => absurd (e.mpr h) h2⟩, by decide, by decide⟩
/-- letters packed, the last first -/
def pkr : List Int → Int
  | [] => 0
  | c :: L => 32 * pkr L + (c - 96)
theorem pkr_c {c : Int} {L : List Int} : pkr (c :: L) = 32 * pkr L + (c - 96) := rfl
abbrev ltl (L : List Int) : Prop := ∀ c ∈ L, 97 ≤ c ∧ c ≤ 122
theorem pkr_0 : ∀ {L : List Int}, ltl L → 0 ≤ pkr L
  | [], _ => Int.le_refl _
  | c :: L, h => by
    have h1 := h c List.mem_cons_self
    have h2 := pkr_0 (L := L) (fun x hx => h x (List.mem_cons_of_mem _ hx))
    rw [pkr_c]; omega
theorem pkr_inj : ∀ {L M : List Int}, ltl L → ltl M → pkr L = pkr M → L = M
  | [], [], _, _, _ => rfl
  | [], c :: M, _, h2, e => by
    have h1 := h2 c List.mem_cons_self
    have h3 := pkr_0 (L := M) (fun x hx => h2 x (List.mem_cons_of_mem _ hx))
    rw [pkr_c] at e
    have e2 : (0 : Int) = 32 * pkr M + (c - 96) := e
    omega
  | c :: L, [], h2, _, e => by
    have h1 := h2 c List.mem_cons_self
    have h3 := pkr_0 (L := L) (fun x hx => h2 x (List.mem_cons_of_mem _ hx))
    rw [pkr_c] at e
    have e2 : 32 * pkr L + (c - 96) = (0 : Int) := e
    omega
  | c :: L, d :: M, h1, h2, e => by
    have a1 := h1 c List.mem_cons_self
    have a2 := h2 d List.mem_cons_self
    rw [pkr_c, pkr_c] at e
    have e1 : c = d := by omega
    have e2 : pkr L = pkr M := by omega
    rw [e1, pkr_inj (fun x hx => h1 x (List.mem_cons_of_mem _ hx)) (fun x hx => h2 x (List.mem_cons_of_mem _ hx)) e2]
def ltr (b : Int → Int) (s : Nat) : Nat → List Int
  | 0 => []
  | k + 1 => b ((s : Int) + k) :: ltr b s k
theorem ltr_s {b : Int → Int} {s k : Nat} : ltr b s (k + 1) = b ((s : Int) + k) :: ltr b s k := rfl
theorem ltr_len {b : Int → Int} {s : Nat} : ∀ k : Nat, (ltr b s k).length = k
  | 0 => rfl
  | k + 1 => by rw [ltr_s, List.length_cons, ltr_len k]
theorem ltr_lt {b : Int → Int} {s : Nat} : ∀ k : Nat, (∀ i : Nat, i < k → b_lt (b ((s : Int) + i))) → ltl (ltr b s k)
  | 0, _ => fun c hc => by cases hc
  | k + 1, h => fun c hc => by
    rw [ltr_s, List.mem_cons] at hc
    rcases hc with rfl | hc
    · exact h k (by omega)
    · exact ltr_lt k (fun i hi => h i (by omega)) c hc
theorem ltr_eq {b : Int → Int} {s : Nat} {L : List Int} : ∀ k : Nat, k ≤ L.length → (ltr b s k = (L.take k).reverse ↔ ∀ i : Nat, i < k → b ((s : Int) + i) = L.getD i 0)
  | 0, _ => ⟨fun _ i hi => absurd hi (Nat.not_lt_zero i), fun _ => rfl⟩
  | k + 1, hk => by
    have ih := ltr_eq (b := b) (s := s) (L := L) k (by omega)
    have e : (L.take (k + 1)).reverse = L.getD k 0 :: (L.take k).reverse := by
      rw [List.take_succ, List.getElem?_eq_getElem (by omega), List.reverse_append]
      simp [List.getD, List.getElem?_eq_getElem (show k < L.length by omega)]
    rw [ltr_s, e, List.cons.injEq, ih]
    constructor
    · rintro ⟨h1, h2⟩ i hi
      by_cases hik : i = k
      · subst hik; exact h1
      · exact h2 i (by omega)
    · intro h
      exact ⟨h k (by omega), fun i hi => h i (by omega)⟩
def t_wd (b : Int → Int) (s k : Nat) : Int := pkr (ltr b s (min k 7))
theorem pkr_ub {b : Int → Int} {s : Nat} : ∀ k : Nat, (∀ i : Nat, i < k → b_lt (b ((s : Int) + i))) → pkr (ltr b s k) < (32 : Int) ^ k
  | 0, _ => by show (0 : Int) < 32 ^ 0; decide
  | k + 1, h => by
    have ih := pkr_ub k (fun i hi => h i (by omega))
    have h1 := h k (by omega)
    rw [ltr_s, pkr_c, Int.pow_succ]
    generalize (32 : Int) ^ k = w at ih ⊢
    omega
theorem x_tx_lt : ∀ j : Nat, j ≤ 15 → ltl (x_tx j).reverse := by decide
theorem x_tx_7 : ∀ j : Nat, j ≤ 15 → (x_tx j).length ≤ 7 := by decide
/-- the packed word is the known word just where the letters are -/
theorem wd_iff {b : Int → Int} {s e j : Nat} (hj : j ≤ 15) (hse : s ≤ e) (h7 : e - s ≤ 7) (hl : ∀ i : Nat, i < e - s → b_lt (b ((s : Int) + i))) : pkr (x_tx j).reverse = t_wd b s (e - s) ↔ t_is b s e j := by
  unfold t_wd t_is
  rw [Nat.min_eq_left h7]
  constructor
  · intro h
    have h1 := pkr_inj (x_tx_lt j hj) (ltr_lt _ hl) h
    have h2 : (x_tx j).length = e - s := by
      have := congrArg List.length h1
      rw [List.length_reverse, ltr_len] at this
      exact this
    refine ⟨by omega, ?_⟩
    have h3 := (ltr_eq (b := b) (s := s) (L := x_tx j) (x_tx j).length (Nat.le_refl _)).mp (by rw [List.take_length, h2]; exact h1.symm)
    exact h3
  · rintro ⟨h1, h2⟩
    have h3 := (ltr_eq (b := b) (s := s) (L := x_tx j) (x_tx j).length (Nat.le_refl _)).mpr h2
    rw [List.take_length] at h3
    rw [show e - s = (x_tx j).length by omega, h3]
def wn (k : Nat) : Nat := [8, 9, 10, 11, 12, 13, 1, 2, 3, 4, 5, 6, 14, 15, 7].getD k 0
theorem wn_in : ∀ k : Nat, k < 15 → 1 ≤ wn k ∧ wn k ≤ 15 := by decide
theorem x_oL {a b : Int} (h : a = b) : (.inl (some (.long (xL a))) : x_O) = .inl (some (.long (xL b))) := by rw [h]
def sp1 (v c : Int) : Int := if c = 0 then v else 32 * v + (c - 96)
theorem k_RX12_163 : Cond.constantLong RX12 163 (xL (96)) ∈ x_T := (x_in 1585 (by decide +kernel) rfl)
theorem w_12_165 : x_cs RX12 165 yX12_spelled cX12_spelled 9 (some .long) 7 := ⟨(x_in 1582 (by decide +kernel) rfl), (x_in 1583 (by decide +kernel) rfl), (x_in 90 (by decide +kernel) rfl), (x_in 1584 (by decide +kernel) rfl), by decide, ⟨by decide +kernel, by decide +kernel, by decide +kernel⟩⟩
theorem m_spelled {X : xC} {l : Launch} (hl : l.stackTraces = false) {N : Nat} {sh : xS} {D : xM} {a b c d e f g : Int} (ha : 97 ≤ a ∧ a ≤ 122) (hb : 97 ≤ b ∧ b ≤ 122) (hc : c = 0 ∨ (97 ≤ c ∧ c ≤ 122)) (hd : d = 0 ∨ (97 ≤ d ∧ d ≤ 122)) (he : e = 0 ∨ (97 ≤ e ∧ e ≤ 122)) (hf : f = 0 ∨ (97 ≤ f ∧ f ≤ 122)) (hg : g = 0 ∨ (97 ≤ g ∧ g ≤ 122)) : x_M X l yX12_spelled cX12_spelled 9 (some .long) 0 0 0 [.int (xI a), .int (xI b), .int (xI c), .int (xI d), .int (xI e), .int (xI f), .int (xI g)] false N sh D (.inl (some (.long (xL (sp1 (sp1 (sp1 (sp1 (sp1 (32 * (a - 96) + (b - 96)) c) d) e) f) g))))) false N sh (x_is (D)) := by
  have hk := x_pk0 a.toNat (by omega)
  rw [show ((a.toNat : Nat) : Int) = a by omega] at hk
  have sp_in : ∀ v x B : Int, 0 ≤ v → v < B → (x = 0 ∨ (97 ≤ x ∧ x ≤ 122)) → 0 ≤ sp1 v x ∧ sp1 v x < 32 * B := by
    intro v x B h0 h1 hx
    unfold sp1
    split <;> omega
  have hst : ∀ v x : Int, 0 ≤ v → v < 1099511627776 → ¬ x = 0 → (x = 0 ∨ (97 ≤ x ∧ x ≤ 122)) → x_lo (x_ll v 5) (x_Il (x - 96)) = sp1 v x := by
    intro v x h0 h1 h2 h3
    rw [x_pk1 h0 h1 (by omega) (by omega), sp1, if_neg h2]
  have hs0 : ∀ v : Int, sp1 v 0 = v := fun v => by unfold sp1; rw [if_pos rfl]
  obtain ⟨v0, hv0⟩ : ∃ v, v = 32 * (a - 96) + (b - 96) := ⟨_, rfl⟩
  have h00 : x_lo (x_ll (x_ls (x_Il a) 96) 5) (x_Il (b - 96)) = v0 := by rw [hk, x_pk1 (by omega) (by omega) (by omega) (by omega), hv0]
  have r0 : 0 ≤ v0 ∧ v0 < 1024 := by omega
  rw [← hv0]
  obtain ⟨v1, hv1⟩ : ∃ v, v = sp1 v0 c := ⟨_, rfl⟩
  have r1 := sp_in v0 c _ r0.1 r0.2 hc
  rw [← hv1] at r1 ⊢
  obtain ⟨v2, hv2⟩ : ∃ v, v = sp1 v1 d := ⟨_, rfl⟩
  have r2 := sp_in v1 d _ r1.1 r1.2 hd
  rw [← hv2] at r2 ⊢
  obtain ⟨v3, hv3⟩ : ∃ v, v = sp1 v2 e := ⟨_, rfl⟩
  have r3 := sp_in v2 e _ r2.1 r2.2 he
  rw [← hv3] at r3 ⊢
  obtain ⟨v4, hv4⟩ : ∃ v, v = sp1 v3 f := ⟨_, rfl⟩
  have r4 := sp_in v3 f _ r3.1 r3.2 hf
  rw [← hv4] at r4 ⊢
  obtain ⟨v5, hv5⟩ : ∃ v, v = sp1 v4 g := ⟨_, rfl⟩
  have r5 := sp_in v4 g _ r4.1 r4.2 hg
  rw [← hv5] at r5 ⊢
  have g84 : x_W (X, l, yX12_spelled, cX12_spelled, 9, (some .long), x_room 0 0 0, 0, 0, (.inl (some (.long (xL (v5))))), N, sh, (x_is (D)), false, []) 84 [some (.int (xI a)), some (.int (xI b)), some (.int (xI c)), some (.int (xI d)), some (.int (xI e)), some (.int (xI f)), some (.int (xI g)), some (.long (xL v4)), none] [] 0 0 false N sh D := by
    by_cases hx : g = 0
    · have e : v5 = v4 := by rw [hv5, hx]; exact hs0 _
      rw [e]
      refine x_iload dX12_spelled_84 x_get_9_6 ?_
      refine r_if_eq (t := 102) dX12_spelled_86 rfl ⟨by omega, by omega⟩ (fun hc86 => ?_) (fun hc86 => absurd hc86 (by omega))
      refine x_lload dX12_spelled_102 x_get_9_7 ?_
      exact x_lret dX12_spelled_104 rfl (Nat.le_of_ble_eq_true rfl) (Nat.le_of_ble_eq_true rfl) rfl rfl rfl rfl rfl
    · have e := hst v4 g r4.1 (by omega) hx hg
      rw [← hv5] at e
      refine x_iload dX12_spelled_84 x_get_9_6 ?_
      refine r_if_eq (t := 102) dX12_spelled_86 rfl ⟨by omega, by omega⟩ (fun hc86 => absurd hc86 (by omega)) (fun hc86 => ?_)
      refine x_lload dX12_spelled_89 x_get_9_7 ?_
      refine x_iconst dX12_spelled_91 ?_
      refine x_lshl dX12_spelled_92 ?_
      refine x_iload dX12_spelled_93 x_get_9_6 ?_
      refine x_bipush dX12_spelled_95 rfl ?_
      refine x_isub dX12_spelled_97 ?_
      refine x_i2l dX12_spelled_98 ?_
      refine x_lor dX12_spelled_99 ?_
      rw [e]
      refine x_lstore dX12_spelled_100 (Nat.le_of_ble_eq_true rfl) rfl x_set2_9_7 ?_
      refine x_lload dX12_spelled_102 x_get_9_7 ?_
      exact x_lret dX12_spelled_104 rfl (Nat.le_of_ble_eq_true rfl) (Nat.le_of_ble_eq_true rfl) rfl rfl rfl rfl rfl
  have g66 : x_W (X, l, yX12_spelled, cX12_spelled, 9, (some .long), x_room 0 0 0, 0, 0, (.inl (some (.long (xL (v5))))), N, sh, (x_is (D)), false, []) 66 [some (.int (xI a)), some (.int (xI b)), some (.int (xI c)), some (.int (xI d)), some (.int (xI e)), some (.int (xI f)), some (.int (xI g)), some (.long (xL v3)), none] [] 0 0 false N sh D := by
    by_cases hx : f = 0
    · have e : v4 = v3 := by rw [hv4, hx]; exact hs0 _
      rw [e] at g84
      refine x_iload dX12_spelled_66 x_get_9_5 ?_
      refine r_if_eq (t := 84) dX12_spelled_68 rfl ⟨by omega, by omega⟩ (fun hc68 => ?_) (fun hc68 => absurd hc68 (by omega))
      exact g84
    · have e := hst v3 f r3.1 (by omega) hx hf
      rw [← hv4] at e
      refine x_iload dX12_spelled_66 x_get_9_5 ?_
      refine r_if_eq (t := 84) dX12_spelled_68 rfl ⟨by omega, by omega⟩ (fun hc68 => absurd hc68 (by omega)) (fun hc68 => ?_)
      refine x_lload dX12_spelled_71 x_get_9_7 ?_
      refine x_iconst dX12_spelled_73 ?_
      refine x_lshl dX12_spelled_74 ?_
      refine x_iload dX12_spelled_75 x_get_9_5 ?_
      refine x_bipush dX12_spelled_77 rfl ?_
      refine x_isub dX12_spelled_79 ?_
      refine x_i2l dX12_spelled_80 ?_
      refine x_lor dX12_spelled_81 ?_
      rw [e]
      refine x_lstore dX12_spelled_82 (Nat.le_of_ble_eq_true rfl) rfl x_set2_9_7 ?_
      exact g84
  have g48 : x_W (X, l, yX12_spelled, cX12_spelled, 9, (some .long), x_room 0 0 0, 0, 0, (.inl (some (.long (xL (v5))))), N, sh, (x_is (D)), false, []) 48 [some (.int (xI a)), some (.int (xI b)), some (.int (xI c)), some (.int (xI d)), some (.int (xI e)), some (.int (xI f)), some (.int (xI g)), some (.long (xL v2)), none] [] 0 0 false N sh D := by
    by_cases hx : e = 0
    · have e : v3 = v2 := by rw [hv3, hx]; exact hs0 _
      rw [e] at g66
      refine x_iload dX12_spelled_48 x_get_9_4 ?_
      refine r_if_eq (t := 66) dX12_spelled_50 rfl ⟨by omega, by omega⟩ (fun hc50 => ?_) (fun hc50 => absurd hc50 (by omega))
      exact g66
    · have e := hst v2 e r2.1 (by omega) hx he
      rw [← hv3] at e
      refine x_iload dX12_spelled_48 x_get_9_4 ?_
      refine r_if_eq (t := 66) dX12_spelled_50 rfl ⟨by omega, by omega⟩ (fun hc50 => absurd hc50 (by omega)) (fun hc50 => ?_)
      refine x_lload dX12_spelled_53 x_get_9_7 ?_
      refine x_iconst dX12_spelled_55 ?_
      refine x_lshl dX12_spelled_56 ?_
      refine x_iload dX12_spelled_57 x_get_9_4 ?_
      refine x_bipush dX12_spelled_59 rfl ?_
      refine x_isub dX12_spelled_61 ?_
      refine x_i2l dX12_spelled_62 ?_
      refine x_lor dX12_spelled_63 ?_
      rw [e]
      refine x_lstore dX12_spelled_64 (Nat.le_of_ble_eq_true rfl) rfl x_set2_9_7 ?_
      exact g66
  have g32 : x_W (X, l, yX12_spelled, cX12_spelled, 9, (some .long), x_room 0 0 0, 0, 0, (.inl (some (.long (xL (v5))))), N, sh, (x_is (D)), false, []) 32 [some (.int (xI a)), some (.int (xI b)), some (.int (xI c)), some (.int (xI d)), some (.int (xI e)), some (.int (xI f)), some (.int (xI g)), some (.long (xL v1)), none] [] 0 0 false N sh D := by
    by_cases hx : d = 0
    · have e : v2 = v1 := by rw [hv2, hx]; exact hs0 _
      rw [e] at g48
      refine x_iload_n dX12_spelled_32 x_get_9_3 ?_
      refine r_if_eq (t := 48) dX12_spelled_33 rfl ⟨by omega, by omega⟩ (fun hc33 => ?_) (fun hc33 => absurd hc33 (by omega))
      exact g48
    · have e := hst v1 d r1.1 (by omega) hx hd
      rw [← hv2] at e
      refine x_iload_n dX12_spelled_32 x_get_9_3 ?_
      refine r_if_eq (t := 48) dX12_spelled_33 rfl ⟨by omega, by omega⟩ (fun hc33 => absurd hc33 (by omega)) (fun hc33 => ?_)
      refine x_lload dX12_spelled_36 x_get_9_7 ?_
      refine x_iconst dX12_spelled_38 ?_
      refine x_lshl dX12_spelled_39 ?_
      refine x_iload_n dX12_spelled_40 x_get_9_3 ?_
      refine x_bipush dX12_spelled_41 rfl ?_
      refine x_isub dX12_spelled_43 ?_
      refine x_i2l dX12_spelled_44 ?_
      refine x_lor dX12_spelled_45 ?_
      rw [e]
      refine x_lstore dX12_spelled_46 (Nat.le_of_ble_eq_true rfl) rfl x_set2_9_7 ?_
      exact g48
  have g16 : x_W (X, l, yX12_spelled, cX12_spelled, 9, (some .long), x_room 0 0 0, 0, 0, (.inl (some (.long (xL (v5))))), N, sh, (x_is (D)), false, []) 16 [some (.int (xI a)), some (.int (xI b)), some (.int (xI c)), some (.int (xI d)), some (.int (xI e)), some (.int (xI f)), some (.int (xI g)), some (.long (xL v0)), none] [] 0 0 false N sh D := by
    by_cases hx : c = 0
    · have e : v1 = v0 := by rw [hv1, hx]; exact hs0 _
      rw [e] at g32
      refine x_iload_n dX12_spelled_16 x_get_9_2 ?_
      refine r_if_eq (t := 32) dX12_spelled_17 rfl ⟨by omega, by omega⟩ (fun hc17 => ?_) (fun hc17 => absurd hc17 (by omega))
      exact g32
    · have e := hst v0 c r0.1 (by omega) hx hc
      rw [← hv1] at e
      refine x_iload_n dX12_spelled_16 x_get_9_2 ?_
      refine r_if_eq (t := 32) dX12_spelled_17 rfl ⟨by omega, by omega⟩ (fun hc17 => absurd hc17 (by omega)) (fun hc17 => ?_)
      refine x_lload dX12_spelled_20 x_get_9_7 ?_
      refine x_iconst dX12_spelled_22 ?_
      refine x_lshl dX12_spelled_23 ?_
      refine x_iload_n dX12_spelled_24 x_get_9_2 ?_
      refine x_bipush dX12_spelled_25 rfl ?_
      refine x_isub dX12_spelled_27 ?_
      refine x_i2l dX12_spelled_28 ?_
      refine x_lor dX12_spelled_29 ?_
      rw [e]
      refine x_lstore dX12_spelled_30 (Nat.le_of_ble_eq_true rfl) rfl x_set2_9_7 ?_
      exact g32
  refine x_ofW (by decide +kernel) hl (by simp [Value.category]) (by simp) ?_
  refine x_iload_n dX12_spelled_0 x_get_9_0 ?_
  refine x_i2l dX12_spelled_1 ?_
  refine x_ldc2 (z := 96) dX12_spelled_2 k_RX12_163 ?_
  refine x_lsub dX12_spelled_5 ?_
  refine x_iconst dX12_spelled_6 ?_
  refine x_lshl dX12_spelled_7 ?_
  refine x_iload_n dX12_spelled_8 x_get_9_1 ?_
  refine x_bipush dX12_spelled_9 rfl ?_
  refine x_isub dX12_spelled_11 ?_
  refine x_i2l dX12_spelled_12 ?_
  refine x_lor dX12_spelled_13 ?_
  rw [h00]
  refine x_lstore dX12_spelled_14 (Nat.le_of_ble_eq_true rfl) rfl x_set2_9_7 ?_
  exact g16
set_option maxRecDepth 100000 in
theorem m_letters {X : xC} {l : Launch} (hl : l.stackTraces = false) {N : Nat} {sh : xS} {D : xM} {k : Nat} (hk : k < 15) : x_M X l yX12_letters cX12_letters 1 (some .long) 1 0 0 [.int (xI (k : Int))] false N sh D (.inl (some (.long (xL (pkr (x_tx (wn k)).reverse))))) false N sh (x_is (D)) := by
  have hc : k = 0 ∨ k = 1 ∨ k = 2 ∨ k = 3 ∨ k = 4 ∨ k = 5 ∨ k = 6 ∨ k = 7 ∨ k = 8 ∨ k = 9 ∨ k = 10 ∨ k = 11 ∨ k = 12 ∨ k = 13 ∨ k = 14 := by omega
  rcases hc with rfl | rfl | rfl | rfl | rfl | rfl | rfl | rfl | rfl | rfl | rfl | rfl | rfl | rfl | rfl
  · refine x_ofW (by decide +kernel) hl (by simp [Value.category]) (by simp) ?_
    refine x_iload_n dX12_letters_0 x_get_1_0 ?_
    refine x_tswIn (t := 72) dX12_letters_1 (by decide) (by decide) rfl rfl ?_
    refine x_bipush dX12_letters_72 rfl ?_
    refine x_bipush dX12_letters_74 rfl ?_
    refine x_bipush dX12_letters_76 rfl ?_
    refine x_bipush dX12_letters_78 rfl ?_
    refine x_iconst dX12_letters_80 ?_
    refine x_iconst dX12_letters_81 ?_
    refine x_iconst dX12_letters_82 ?_
    refine x_callS (As := [_, _, _, _, _, _, _]) dX12_letters_83 w_12_165 (m_spelled hl ⟨by decide, by decide⟩ ⟨by decide, by decide⟩ (by first | exact Or.inl rfl | exact Or.inr ⟨by decide, by decide⟩) (by first | exact Or.inl rfl | exact Or.inr ⟨by decide, by decide⟩) (by first | exact Or.inl rfl | exact Or.inr ⟨by decide, by decide⟩) (by first | exact Or.inl rfl | exact Or.inr ⟨by decide, by decide⟩) (by first | exact Or.inl rfl | exact Or.inr ⟨by decide, by decide⟩)) rfl rfl (Nat.le_of_ble_eq_true rfl) (Nat.le_of_ble_eq_true rfl) (Nat.le_of_ble_eq_true rfl) (Nat.le_of_ble_eq_true rfl) (Nat.le_of_ble_eq_true rfl) ?_
    intro d hd
    obtain rfl := Eq.symm hd
    exact x_lret dX12_letters_86 rfl (Nat.le_of_ble_eq_true rfl) (Nat.le_of_ble_eq_true rfl) (x_oL (by decide)) rfl rfl rfl rfl
  · refine x_ofW (by decide +kernel) hl (by simp [Value.category]) (by simp) ?_
    refine x_iload_n dX12_letters_0 x_get_1_0 ?_
    refine x_tswIn (t := 87) dX12_letters_1 (by decide) (by decide) rfl rfl ?_
    refine x_bipush dX12_letters_87 rfl ?_
    refine x_bipush dX12_letters_89 rfl ?_
    refine x_bipush dX12_letters_91 rfl ?_
    refine x_iconst dX12_letters_93 ?_
    refine x_iconst dX12_letters_94 ?_
    refine x_iconst dX12_letters_95 ?_
    refine x_iconst dX12_letters_96 ?_
    refine x_callS (As := [_, _, _, _, _, _, _]) dX12_letters_97 w_12_165 (m_spelled hl ⟨by decide, by decide⟩ ⟨by decide, by decide⟩ (by first | exact Or.inl rfl | exact Or.inr ⟨by decide, by decide⟩) (by first | exact Or.inl rfl | exact Or.inr ⟨by decide, by decide⟩) (by first | exact Or.inl rfl | exact Or.inr ⟨by decide, by decide⟩) (by first | exact Or.inl rfl | exact Or.inr ⟨by decide, by decide⟩) (by first | exact Or.inl rfl | exact Or.inr ⟨by decide, by decide⟩)) rfl rfl (Nat.le_of_ble_eq_true rfl) (Nat.le_of_ble_eq_true rfl) (Nat.le_of_ble_eq_true rfl) (Nat.le_of_ble_eq_true rfl) (Nat.le_of_ble_eq_true rfl) ?_
    intro d hd
    obtain rfl := Eq.symm hd
    exact x_lret dX12_letters_100 rfl (Nat.le_of_ble_eq_true rfl) (Nat.le_of_ble_eq_true rfl) (x_oL (by decide)) rfl rfl rfl rfl
  · refine x_ofW (by decide +kernel) hl (by simp [Value.category]) (by simp) ?_
    refine x_iload_n dX12_letters_0 x_get_1_0 ?_
    refine x_tswIn (t := 101) dX12_letters_1 (by decide) (by decide) rfl rfl ?_
    refine x_bipush dX12_letters_101 rfl ?_
    refine x_bipush dX12_letters_103 rfl ?_
    refine x_bipush dX12_letters_105 rfl ?_
    refine x_bipush dX12_letters_107 rfl ?_
    refine x_bipush dX12_letters_109 rfl ?_
    refine x_iconst dX12_letters_111 ?_
    refine x_iconst dX12_letters_112 ?_
    refine x_callS (As := [_, _, _, _, _, _, _]) dX12_letters_113 w_12_165 (m_spelled hl ⟨by decide, by decide⟩ ⟨by decide, by decide⟩ (by first | exact Or.inl rfl | exact Or.inr ⟨by decide, by decide⟩) (by first | exact Or.inl rfl | exact Or.inr ⟨by decide, by decide⟩) (by first | exact Or.inl rfl | exact Or.inr ⟨by decide, by decide⟩) (by first | exact Or.inl rfl | exact Or.inr ⟨by decide, by decide⟩) (by first | exact Or.inl rfl | exact Or.inr ⟨by decide, by decide⟩)) rfl rfl (Nat.le_of_ble_eq_true rfl) (Nat.le_of_ble_eq_true rfl) (Nat.le_of_ble_eq_true rfl) (Nat.le_of_ble_eq_true rfl) (Nat.le_of_ble_eq_true rfl) ?_
    intro d hd
    obtain rfl := Eq.symm hd
    exact x_lret dX12_letters_116 rfl (Nat.le_of_ble_eq_true rfl) (Nat.le_of_ble_eq_true rfl) (x_oL (by decide)) rfl rfl rfl rfl
  · refine x_ofW (by decide +kernel) hl (by simp [Value.category]) (by simp) ?_
    refine x_iload_n dX12_letters_0 x_get_1_0 ?_
    refine x_tswIn (t := 117) dX12_letters_1 (by decide) (by decide) rfl rfl ?_
    refine x_bipush dX12_letters_117 rfl ?_
    refine x_bipush dX12_letters_119 rfl ?_
    refine x_bipush dX12_letters_121 rfl ?_
    refine x_bipush dX12_letters_123 rfl ?_
    refine x_bipush dX12_letters_125 rfl ?_
    refine x_iconst dX12_letters_127 ?_
    refine x_iconst dX12_letters_128 ?_
    refine x_callS (As := [_, _, _, _, _, _, _]) dX12_letters_129 w_12_165 (m_spelled hl ⟨by decide, by decide⟩ ⟨by decide, by decide⟩ (by first | exact Or.inl rfl | exact Or.inr ⟨by decide, by decide⟩) (by first | exact Or.inl rfl | exact Or.inr ⟨by decide, by decide⟩) (by first | exact Or.inl rfl | exact Or.inr ⟨by decide, by decide⟩) (by first | exact Or.inl rfl | exact Or.inr ⟨by decide, by decide⟩) (by first | exact Or.inl rfl | exact Or.inr ⟨by decide, by decide⟩)) rfl rfl (Nat.le_of_ble_eq_true rfl) (Nat.le_of_ble_eq_true rfl) (Nat.le_of_ble_eq_true rfl) (Nat.le_of_ble_eq_true rfl) (Nat.le_of_ble_eq_true rfl) ?_
    intro d hd
    obtain rfl := Eq.symm hd
    exact x_lret dX12_letters_132 rfl (Nat.le_of_ble_eq_true rfl) (Nat.le_of_ble_eq_true rfl) (x_oL (by decide)) rfl rfl rfl rfl
  · refine x_ofW (by decide +kernel) hl (by simp [Value.category]) (by simp) ?_
    refine x_iload_n dX12_letters_0 x_get_1_0 ?_
    refine x_tswIn (t := 133) dX12_letters_1 (by decide) (by decide) rfl rfl ?_
    refine x_bipush dX12_letters_133 rfl ?_
    refine x_bipush dX12_letters_135 rfl ?_
    refine x_bipush dX12_letters_137 rfl ?_
    refine x_iconst dX12_letters_139 ?_
    refine x_iconst dX12_letters_140 ?_
    refine x_iconst dX12_letters_141 ?_
    refine x_iconst dX12_letters_142 ?_
    refine x_callS (As := [_, _, _, _, _, _, _]) dX12_letters_143 w_12_165 (m_spelled hl ⟨by decide, by decide⟩ ⟨by decide, by decide⟩ (by first | exact Or.inl rfl | exact Or.inr ⟨by decide, by decide⟩) (by first | exact Or.inl rfl | exact Or.inr ⟨by decide, by decide⟩) (by first | exact Or.inl rfl | exact Or.inr ⟨by decide, by decide⟩) (by first | exact Or.inl rfl | exact Or.inr ⟨by decide, by decide⟩) (by first | exact Or.inl rfl | exact Or.inr ⟨by decide, by decide⟩)) rfl rfl (Nat.le_of_ble_eq_true rfl) (Nat.le_of_ble_eq_true rfl) (Nat.le_of_ble_eq_true rfl) (Nat.le_of_ble_eq_true rfl) (Nat.le_of_ble_eq_true rfl) ?_
    intro d hd
    obtain rfl := Eq.symm hd
    exact x_lret dX12_letters_146 rfl (Nat.le_of_ble_eq_true rfl) (Nat.le_of_ble_eq_true rfl) (x_oL (by decide)) rfl rfl rfl rfl
  · refine x_ofW (by decide +kernel) hl (by simp [Value.category]) (by simp) ?_
    refine x_iload_n dX12_letters_0 x_get_1_0 ?_
    refine x_tswIn (t := 147) dX12_letters_1 (by decide) (by decide) rfl rfl ?_
    refine x_bipush dX12_letters_147 rfl ?_
    refine x_bipush dX12_letters_149 rfl ?_
    refine x_bipush dX12_letters_151 rfl ?_
    refine x_bipush dX12_letters_153 rfl ?_
    refine x_bipush dX12_letters_155 rfl ?_
    refine x_bipush dX12_letters_157 rfl ?_
    refine x_iconst dX12_letters_159 ?_
    refine x_callS (As := [_, _, _, _, _, _, _]) dX12_letters_160 w_12_165 (m_spelled hl ⟨by decide, by decide⟩ ⟨by decide, by decide⟩ (by first | exact Or.inl rfl | exact Or.inr ⟨by decide, by decide⟩) (by first | exact Or.inl rfl | exact Or.inr ⟨by decide, by decide⟩) (by first | exact Or.inl rfl | exact Or.inr ⟨by decide, by decide⟩) (by first | exact Or.inl rfl | exact Or.inr ⟨by decide, by decide⟩) (by first | exact Or.inl rfl | exact Or.inr ⟨by decide, by decide⟩)) rfl rfl (Nat.le_of_ble_eq_true rfl) (Nat.le_of_ble_eq_true rfl) (Nat.le_of_ble_eq_true rfl) (Nat.le_of_ble_eq_true rfl) (Nat.le_of_ble_eq_true rfl) ?_
    intro d hd
    obtain rfl := Eq.symm hd
    exact x_lret dX12_letters_163 rfl (Nat.le_of_ble_eq_true rfl) (Nat.le_of_ble_eq_true rfl) (x_oL (by decide)) rfl rfl rfl rfl
  · refine x_ofW (by decide +kernel) hl (by simp [Value.category]) (by simp) ?_
    refine x_iload_n dX12_letters_0 x_get_1_0 ?_
    refine x_tswIn (t := 164) dX12_letters_1 (by decide) (by decide) rfl rfl ?_
    refine x_bipush dX12_letters_164 rfl ?_
    refine x_bipush dX12_letters_166 rfl ?_
    refine x_bipush dX12_letters_168 rfl ?_
    refine x_bipush dX12_letters_170 rfl ?_
    refine x_iconst dX12_letters_172 ?_
    refine x_iconst dX12_letters_173 ?_
    refine x_iconst dX12_letters_174 ?_
    refine x_callS (As := [_, _, _, _, _, _, _]) dX12_letters_175 w_12_165 (m_spelled hl ⟨by decide, by decide⟩ ⟨by decide, by decide⟩ (by first | exact Or.inl rfl | exact Or.inr ⟨by decide, by decide⟩) (by first | exact Or.inl rfl | exact Or.inr ⟨by decide, by decide⟩) (by first | exact Or.inl rfl | exact Or.inr ⟨by decide, by decide⟩) (by first | exact Or.inl rfl | exact Or.inr ⟨by decide, by decide⟩) (by first | exact Or.inl rfl | exact Or.inr ⟨by decide, by decide⟩)) rfl rfl (Nat.le_of_ble_eq_true rfl) (Nat.le_of_ble_eq_true rfl) (Nat.le_of_ble_eq_true rfl) (Nat.le_of_ble_eq_true rfl) (Nat.le_of_ble_eq_true rfl) ?_
    intro d hd
    obtain rfl := Eq.symm hd
    exact x_lret dX12_letters_178 rfl (Nat.le_of_ble_eq_true rfl) (Nat.le_of_ble_eq_true rfl) (x_oL (by decide)) rfl rfl rfl rfl
  · refine x_ofW (by decide +kernel) hl (by simp [Value.category]) (by simp) ?_
    refine x_iload_n dX12_letters_0 x_get_1_0 ?_
    refine x_tswIn (t := 179) dX12_letters_1 (by decide) (by decide) rfl rfl ?_
    refine x_bipush dX12_letters_179 rfl ?_
    refine x_bipush dX12_letters_181 rfl ?_
    refine x_bipush dX12_letters_183 rfl ?_
    refine x_iconst dX12_letters_185 ?_
    refine x_iconst dX12_letters_186 ?_
    refine x_iconst dX12_letters_187 ?_
    refine x_iconst dX12_letters_188 ?_
    refine x_callS (As := [_, _, _, _, _, _, _]) dX12_letters_189 w_12_165 (m_spelled hl ⟨by decide, by decide⟩ ⟨by decide, by decide⟩ (by first | exact Or.inl rfl | exact Or.inr ⟨by decide, by decide⟩) (by first | exact Or.inl rfl | exact Or.inr ⟨by decide, by decide⟩) (by first | exact Or.inl rfl | exact Or.inr ⟨by decide, by decide⟩) (by first | exact Or.inl rfl | exact Or.inr ⟨by decide, by decide⟩) (by first | exact Or.inl rfl | exact Or.inr ⟨by decide, by decide⟩)) rfl rfl (Nat.le_of_ble_eq_true rfl) (Nat.le_of_ble_eq_true rfl) (Nat.le_of_ble_eq_true rfl) (Nat.le_of_ble_eq_true rfl) (Nat.le_of_ble_eq_true rfl) ?_
    intro d hd
    obtain rfl := Eq.symm hd
    exact x_lret dX12_letters_192 rfl (Nat.le_of_ble_eq_true rfl) (Nat.le_of_ble_eq_true rfl) (x_oL (by decide)) rfl rfl rfl rfl
  · refine x_ofW (by decide +kernel) hl (by simp [Value.category]) (by simp) ?_
    refine x_iload_n dX12_letters_0 x_get_1_0 ?_
    refine x_tswIn (t := 193) dX12_letters_1 (by decide) (by decide) rfl rfl ?_
    refine x_bipush dX12_letters_193 rfl ?_
    refine x_bipush dX12_letters_195 rfl ?_
    refine x_bipush dX12_letters_197 rfl ?_
    refine x_bipush dX12_letters_199 rfl ?_
    refine x_bipush dX12_letters_201 rfl ?_
    refine x_iconst dX12_letters_203 ?_
    refine x_iconst dX12_letters_204 ?_
    refine x_callS (As := [_, _, _, _, _, _, _]) dX12_letters_205 w_12_165 (m_spelled hl ⟨by decide, by decide⟩ ⟨by decide, by decide⟩ (by first | exact Or.inl rfl | exact Or.inr ⟨by decide, by decide⟩) (by first | exact Or.inl rfl | exact Or.inr ⟨by decide, by decide⟩) (by first | exact Or.inl rfl | exact Or.inr ⟨by decide, by decide⟩) (by first | exact Or.inl rfl | exact Or.inr ⟨by decide, by decide⟩) (by first | exact Or.inl rfl | exact Or.inr ⟨by decide, by decide⟩)) rfl rfl (Nat.le_of_ble_eq_true rfl) (Nat.le_of_ble_eq_true rfl) (Nat.le_of_ble_eq_true rfl) (Nat.le_of_ble_eq_true rfl) (Nat.le_of_ble_eq_true rfl) ?_
    intro d hd
    obtain rfl := Eq.symm hd
    exact x_lret dX12_letters_208 rfl (Nat.le_of_ble_eq_true rfl) (Nat.le_of_ble_eq_true rfl) (x_oL (by decide)) rfl rfl rfl rfl
  · refine x_ofW (by decide +kernel) hl (by simp [Value.category]) (by simp) ?_
    refine x_iload_n dX12_letters_0 x_get_1_0 ?_
    refine x_tswIn (t := 209) dX12_letters_1 (by decide) (by decide) rfl rfl ?_
    refine x_bipush dX12_letters_209 rfl ?_
    refine x_bipush dX12_letters_211 rfl ?_
    refine x_bipush dX12_letters_213 rfl ?_
    refine x_bipush dX12_letters_215 rfl ?_
    refine x_bipush dX12_letters_217 rfl ?_
    refine x_bipush dX12_letters_219 rfl ?_
    refine x_bipush dX12_letters_221 rfl ?_
    refine x_callS (As := [_, _, _, _, _, _, _]) dX12_letters_223 w_12_165 (m_spelled hl ⟨by decide, by decide⟩ ⟨by decide, by decide⟩ (by first | exact Or.inl rfl | exact Or.inr ⟨by decide, by decide⟩) (by first | exact Or.inl rfl | exact Or.inr ⟨by decide, by decide⟩) (by first | exact Or.inl rfl | exact Or.inr ⟨by decide, by decide⟩) (by first | exact Or.inl rfl | exact Or.inr ⟨by decide, by decide⟩) (by first | exact Or.inl rfl | exact Or.inr ⟨by decide, by decide⟩)) rfl rfl (Nat.le_of_ble_eq_true rfl) (Nat.le_of_ble_eq_true rfl) (Nat.le_of_ble_eq_true rfl) (Nat.le_of_ble_eq_true rfl) (Nat.le_of_ble_eq_true rfl) ?_
    intro d hd
    obtain rfl := Eq.symm hd
    exact x_lret dX12_letters_226 rfl (Nat.le_of_ble_eq_true rfl) (Nat.le_of_ble_eq_true rfl) (x_oL (by decide)) rfl rfl rfl rfl
  · refine x_ofW (by decide +kernel) hl (by simp [Value.category]) (by simp) ?_
    refine x_iload_n dX12_letters_0 x_get_1_0 ?_
    refine x_tswIn (t := 227) dX12_letters_1 (by decide) (by decide) rfl rfl ?_
    refine x_bipush dX12_letters_227 rfl ?_
    refine x_bipush dX12_letters_229 rfl ?_
    refine x_bipush dX12_letters_231 rfl ?_
    refine x_iconst dX12_letters_233 ?_
    refine x_iconst dX12_letters_234 ?_
    refine x_iconst dX12_letters_235 ?_
    refine x_iconst dX12_letters_236 ?_
    refine x_callS (As := [_, _, _, _, _, _, _]) dX12_letters_237 w_12_165 (m_spelled hl ⟨by decide, by decide⟩ ⟨by decide, by decide⟩ (by first | exact Or.inl rfl | exact Or.inr ⟨by decide, by decide⟩) (by first | exact Or.inl rfl | exact Or.inr ⟨by decide, by decide⟩) (by first | exact Or.inl rfl | exact Or.inr ⟨by decide, by decide⟩) (by first | exact Or.inl rfl | exact Or.inr ⟨by decide, by decide⟩) (by first | exact Or.inl rfl | exact Or.inr ⟨by decide, by decide⟩)) rfl rfl (Nat.le_of_ble_eq_true rfl) (Nat.le_of_ble_eq_true rfl) (Nat.le_of_ble_eq_true rfl) (Nat.le_of_ble_eq_true rfl) (Nat.le_of_ble_eq_true rfl) ?_
    intro d hd
    obtain rfl := Eq.symm hd
    exact x_lret dX12_letters_240 rfl (Nat.le_of_ble_eq_true rfl) (Nat.le_of_ble_eq_true rfl) (x_oL (by decide)) rfl rfl rfl rfl
  · refine x_ofW (by decide +kernel) hl (by simp [Value.category]) (by simp) ?_
    refine x_iload_n dX12_letters_0 x_get_1_0 ?_
    refine x_tswIn (t := 241) dX12_letters_1 (by decide) (by decide) rfl rfl ?_
    refine x_bipush dX12_letters_241 rfl ?_
    refine x_bipush dX12_letters_243 rfl ?_
    refine x_bipush dX12_letters_245 rfl ?_
    refine x_bipush dX12_letters_247 rfl ?_
    refine x_iconst dX12_letters_249 ?_
    refine x_iconst dX12_letters_250 ?_
    refine x_iconst dX12_letters_251 ?_
    refine x_callS (As := [_, _, _, _, _, _, _]) dX12_letters_252 w_12_165 (m_spelled hl ⟨by decide, by decide⟩ ⟨by decide, by decide⟩ (by first | exact Or.inl rfl | exact Or.inr ⟨by decide, by decide⟩) (by first | exact Or.inl rfl | exact Or.inr ⟨by decide, by decide⟩) (by first | exact Or.inl rfl | exact Or.inr ⟨by decide, by decide⟩) (by first | exact Or.inl rfl | exact Or.inr ⟨by decide, by decide⟩) (by first | exact Or.inl rfl | exact Or.inr ⟨by decide, by decide⟩)) rfl rfl (Nat.le_of_ble_eq_true rfl) (Nat.le_of_ble_eq_true rfl) (Nat.le_of_ble_eq_true rfl) (Nat.le_of_ble_eq_true rfl) (Nat.le_of_ble_eq_true rfl) ?_
    intro d hd
    obtain rfl := Eq.symm hd
    exact x_lret dX12_letters_255 rfl (Nat.le_of_ble_eq_true rfl) (Nat.le_of_ble_eq_true rfl) (x_oL (by decide)) rfl rfl rfl rfl
  · refine x_ofW (by decide +kernel) hl (by simp [Value.category]) (by simp) ?_
    refine x_iload_n dX12_letters_0 x_get_1_0 ?_
    refine x_tswIn (t := 256) dX12_letters_1 (by decide) (by decide) rfl rfl ?_
    refine x_bipush dX12_letters_256 rfl ?_
    refine x_bipush dX12_letters_258 rfl ?_
    refine x_bipush dX12_letters_260 rfl ?_
    refine x_iconst dX12_letters_262 ?_
    refine x_iconst dX12_letters_263 ?_
    refine x_iconst dX12_letters_264 ?_
    refine x_iconst dX12_letters_265 ?_
    refine x_callS (As := [_, _, _, _, _, _, _]) dX12_letters_266 w_12_165 (m_spelled hl ⟨by decide, by decide⟩ ⟨by decide, by decide⟩ (by first | exact Or.inl rfl | exact Or.inr ⟨by decide, by decide⟩) (by first | exact Or.inl rfl | exact Or.inr ⟨by decide, by decide⟩) (by first | exact Or.inl rfl | exact Or.inr ⟨by decide, by decide⟩) (by first | exact Or.inl rfl | exact Or.inr ⟨by decide, by decide⟩) (by first | exact Or.inl rfl | exact Or.inr ⟨by decide, by decide⟩)) rfl rfl (Nat.le_of_ble_eq_true rfl) (Nat.le_of_ble_eq_true rfl) (Nat.le_of_ble_eq_true rfl) (Nat.le_of_ble_eq_true rfl) (Nat.le_of_ble_eq_true rfl) ?_
    intro d hd
    obtain rfl := Eq.symm hd
    exact x_lret dX12_letters_269 rfl (Nat.le_of_ble_eq_true rfl) (Nat.le_of_ble_eq_true rfl) (x_oL (by decide)) rfl rfl rfl rfl
  · refine x_ofW (by decide +kernel) hl (by simp [Value.category]) (by simp) ?_
    refine x_iload_n dX12_letters_0 x_get_1_0 ?_
    refine x_tswIn (t := 270) dX12_letters_1 (by decide) (by decide) rfl rfl ?_
    refine x_bipush dX12_letters_270 rfl ?_
    refine x_bipush dX12_letters_272 rfl ?_
    refine x_iconst dX12_letters_274 ?_
    refine x_iconst dX12_letters_275 ?_
    refine x_iconst dX12_letters_276 ?_
    refine x_iconst dX12_letters_277 ?_
    refine x_iconst dX12_letters_278 ?_
    refine x_callS (As := [_, _, _, _, _, _, _]) dX12_letters_279 w_12_165 (m_spelled hl ⟨by decide, by decide⟩ ⟨by decide, by decide⟩ (by first | exact Or.inl rfl | exact Or.inr ⟨by decide, by decide⟩) (by first | exact Or.inl rfl | exact Or.inr ⟨by decide, by decide⟩) (by first | exact Or.inl rfl | exact Or.inr ⟨by decide, by decide⟩) (by first | exact Or.inl rfl | exact Or.inr ⟨by decide, by decide⟩) (by first | exact Or.inl rfl | exact Or.inr ⟨by decide, by decide⟩)) rfl rfl (Nat.le_of_ble_eq_true rfl) (Nat.le_of_ble_eq_true rfl) (Nat.le_of_ble_eq_true rfl) (Nat.le_of_ble_eq_true rfl) (Nat.le_of_ble_eq_true rfl) ?_
    intro d hd
    obtain rfl := Eq.symm hd
    exact x_lret dX12_letters_282 rfl (Nat.le_of_ble_eq_true rfl) (Nat.le_of_ble_eq_true rfl) (x_oL (by decide)) rfl rfl rfl rfl
  · refine x_ofW (by decide +kernel) hl (by simp [Value.category]) (by simp) ?_
    refine x_iload_n dX12_letters_0 x_get_1_0 ?_
    refine x_tswOut (t := 283) dX12_letters_1 (by decide) rfl ?_
    refine x_bipush dX12_letters_283 rfl ?_
    refine x_bipush dX12_letters_285 rfl ?_
    refine x_bipush dX12_letters_287 rfl ?_
    refine x_iconst dX12_letters_289 ?_
    refine x_iconst dX12_letters_290 ?_
    refine x_iconst dX12_letters_291 ?_
    refine x_iconst dX12_letters_292 ?_
    refine x_callS (As := [_, _, _, _, _, _, _]) dX12_letters_293 w_12_165 (m_spelled hl ⟨by decide, by decide⟩ ⟨by decide, by decide⟩ (by first | exact Or.inl rfl | exact Or.inr ⟨by decide, by decide⟩) (by first | exact Or.inl rfl | exact Or.inr ⟨by decide, by decide⟩) (by first | exact Or.inl rfl | exact Or.inr ⟨by decide, by decide⟩) (by first | exact Or.inl rfl | exact Or.inr ⟨by decide, by decide⟩) (by first | exact Or.inl rfl | exact Or.inr ⟨by decide, by decide⟩)) rfl rfl (Nat.le_of_ble_eq_true rfl) (Nat.le_of_ble_eq_true rfl) (Nat.le_of_ble_eq_true rfl) (Nat.le_of_ble_eq_true rfl) (Nat.le_of_ble_eq_true rfl) ?_
    intro d hd
    obtain rfl := Eq.symm hd
    exact x_lret dX12_letters_296 rfl (Nat.le_of_ble_eq_true rfl) (Nat.le_of_ble_eq_true rfl) (x_oL (by decide)) rfl rfl rfl rfl
end M9993
