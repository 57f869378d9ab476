section C40
/-! crates by bits -/
def b_sub (m s : Nat) : Nat := m ^^^ (m &&& s)
theorem b_sub_le {m s : Nat} : b_sub m s ≤ m := by
  have h : b_sub m s = m &&& (m ^^^ s) := by
    apply Nat.eq_of_testBit_eq
    intro i
    simp only [b_sub, Nat.testBit_xor, Nat.testBit_and]
    cases m.testBit i <;> cases s.testBit i <;> rfl
  rw [h]
  exact Nat.and_le_left
theorem b_sub_bit {m s i : Nat} : (b_sub m s).testBit i = (m.testBit i && !s.testBit i) := by
  simp only [b_sub, Nat.testBit_xor, Nat.testBit_and]
  cases m.testBit i <;> cases s.testBit i <;> rfl
theorem b_t {m c : Nat} : ((m &&& 2 ^ c : Nat) : Int) = 0 ↔ m.testBit c = false := by
  constructor
  · intro h0
    have h1 : m &&& 2 ^ c = 0 := by omega
    have h2 : (m &&& 2 ^ c).testBit c = m.testBit c := by
      rw [Nat.testBit_and, Nat.testBit_two_pow]
      simp
    rw [← h2, h1]
    simp
  · intro h0
    have h1 : m &&& 2 ^ c = 0 := by
      apply Nat.eq_of_testBit_eq
      intro i
      rw [Nat.testBit_and, Nat.testBit_two_pow, Nat.zero_testBit]
      by_cases h : c = i
      · subst h; rw [h0]; rfl
      · simp [h]
    rw [h1]
    rfl
theorem b_and {m c : Nat} (hm : m < 1024) (hc : c < 31) : x_an (m : Int) (x_sl 1 (c : Int)) = ((m &&& 2 ^ c : Nat) : Int) := by
  rw [x_sl1 c hc]
  exact x_an_nat (by omega)
theorem b_not {m s : Nat} (hm : m < 2147483648) : x_an (m : Int) (x_xo (s : Int) (-1)) = ((b_sub m s : Nat) : Int) := by
  have hb : b_sub m s < 2147483648 := Nat.lt_of_le_of_lt b_sub_le hm
  have e : xI (x_xo (s : Int) (-1)) = xI (s : Int) ^^^ xI (-1) := by unfold x_xo; rw [xI_toInt]
  unfold x_an
  rw [e]
  have h2 : xI (m : Int) &&& (xI (s : Int) ^^^ xI (-1)) = xI ((b_sub m s : Nat) : Int) := by
    rw [xI_nat, xI_nat, xI_nat]
    apply Int32.toBitVec_inj.mp
    apply BitVec.eq_of_getLsbD_eq
    intro i hi
    have e1 : (Int32.ofNat m).toBitVec = BitVec.ofNat 32 m := rfl
    have e2 : (Int32.ofNat s).toBitVec = BitVec.ofNat 32 s := rfl
    have e3 : (Int32.ofNat (b_sub m s)).toBitVec = BitVec.ofNat 32 (b_sub m s) := rfl
    have e4 : (xI (-1)).toBitVec = BitVec.allOnes 32 := by decide
    rw [Int32.toBitVec_and, Int32.toBitVec_xor, e1, e2, e3, e4]
    simp only [BitVec.getLsbD_and, BitVec.getLsbD_xor, BitVec.getLsbD_ofNat, BitVec.getLsbD_allOnes, b_sub_bit, hi, decide_true, Bool.true_and, Bool.xor_true]
  rw [h2]
  exact x_n_nat hb
theorem b_shl {C : Nat} (h : C ≤ 10) : x_sl 1 (C : Int) = ((2 ^ C : Nat) : Int) := x_sl1 C (by omega)
theorem b_2C {C : Nat} (h : C ≤ 10) : 2 ^ C ≤ 1024 := Nat.pow_le_pow_right (by decide) h
theorem s_bits_n {p : Nat → Prop} [DecidablePred p] {n : Nat} (h : ¬ p n) : s_bits p (n + 1) = s_bits p n := by
  show (if p n then s_bits p n + 2 ^ n else s_bits p n) = _
  rw [if_neg h]
def k_luck (f : Int → Int) (m : Nat) : Nat := s_bits (fun c => m.testBit c = true ∧ f (35 + c) = 0) 10
theorem k_luck_lt (f : Int → Int) (m : Nat) : k_luck f m < 1024 := s_bits_lt _ 10
def k_sum (f : Int → Int) (m : Nat) : Int := x_sum (fun c => if m.testBit c.toNat = true then f (25 + c) else 0) 10
def k_lst (f : Int → Int) (m : Nat) : Nat → Int
  | 0 => 99
  | c + 1 => if m.testBit c = true then min (k_lst f m c) (f (25 + c)) else k_lst f m c
def k_least (f : Int → Int) (m : Nat) : Int := k_lst f m 10
abbrev k_mixed (f : Int → Int) (m : Nat) : Prop := ¬ k_luck f m = 0 ∧ ¬ k_luck f m = m
def k_harm (f : Int → Int) (m : Nat) : Int := if k_mixed f m then k_least f m else 0
def k_btw (f : Int → Int) (c d : Int) : Int := if f (35 + c) = f (35 + d) then 0 else min (f (25 + c)) (f (25 + d))
def k_behind (f : Int → Int) (c : Int) (m : Nat) : Int := if m = 0 ∨ k_mixed f m then k_harm f m else if (¬ k_luck f m = 0 ↔ f (35 + c) = 0) then 0 else min (f (25 + c)) (k_least f m)
def k_last (f : Int → Int) (last c : Int) : Int := if last = -1 then 0 else k_btw f last c
def k_follow (f : Int → Int) (rest : Nat) (last al : Int) : Int := x_first (fun c => rest.testBit c = true ∧ k_last f last c + k_behind f c (b_sub rest (2 ^ c)) ≤ al) 10
def k_holdn (f : Int → Int) : Nat → Nat → Int → Int → Int
  | 0, _, _, last => last
  | n + 1, rest, al, last => if k_follow f rest last al = -1 then -1 else k_holdn f n (b_sub rest (2 ^ (k_follow f rest last al).toNat)) (al - k_last f last (k_follow f rest last al)) (k_follow f rest last al)
def k_diff (f : Int → Int) (t : Int) (m : Nat) : Int := (fun z : Int => if 0 ≤ z then z else 0 - z) (min 9999 (f (1 + t) + k_sum f (k_luck f m)) - min 9999 (f (9 + t) + k_sum f (b_sub m (k_luck f m))))
def k_lev (f : Int → Int) (t : Int) (th : Nat) : Nat → Nat × Int
  | 0 => (0, k_diff f t 0)
  | m + 1 => if b_sub m th = 0 ∧ (k_diff f t m < (k_lev f t th m).2 ∨ (k_diff f t m = (k_lev f t th m).2 ∧ s_pop m < s_pop (k_lev f t th m).1)) then (m, k_diff f t m) else k_lev f t th m
def k_stl (f : Int → Int) (ca : Int) (th : Nat) : Nat → Nat × Int
  | 0 => (0, 0)
  | m + 1 => if b_sub m th = 0 ∧ k_sum f m ≤ ca ∧ ((k_stl f ca th m).2 < k_sum f m ∨ (k_sum f m = (k_stl f ca th m).2 ∧ s_pop m < s_pop (k_stl f ca th m).1)) then (m, k_sum f m) else k_stl f ca th m
def k_at1 (f lk : Int → Int) (t : Int) (m : Nat) (c : Int) : Int := if m.testBit c.toNat = true then (if e_none 1000000 (lk (f (55 + c) * 8 + t)) = -1 then 0 else max 0 (f (25 + c) - (if f (45 + c) = 1 then 0 else e_none 1000000 (lk (f (55 + c) * 8 + t))))) else 0
def k_at (f lk : Int → Int) (t : Int) (m C : Nat) : Int := x_sum (k_at1 f lk t m) C
def k_snd (f lk : Int → Int) (t wa : Int) (C sd : Nat) : Nat → Int × Int
  | 0 => (-1, 11)
  | m + 1 => if b_sub m sd = 0 ∧ (s_pop m : Int) < (k_snd f lk t wa C sd m).2 ∧ wa ≤ k_at f lk t m C then ((m : Int), (s_pop m : Int)) else k_snd f lk t wa C sd m
theorem k_lev_s {f : Int → Int} {t : Int} {th m : Nat} : k_lev f t th (m + 1) = if b_sub m th = 0 ∧ (k_diff f t m < (k_lev f t th m).2 ∨ (k_diff f t m = (k_lev f t th m).2 ∧ s_pop m < s_pop (k_lev f t th m).1)) then (m, k_diff f t m) else k_lev f t th m := rfl
theorem k_stl_s {f : Int → Int} {ca : Int} {th m : Nat} : k_stl f ca th (m + 1) = if b_sub m th = 0 ∧ k_sum f m ≤ ca ∧ ((k_stl f ca th m).2 < k_sum f m ∨ (k_sum f m = (k_stl f ca th m).2 ∧ s_pop m < s_pop (k_stl f ca th m).1)) then (m, k_sum f m) else k_stl f ca th m := rfl
theorem k_snd_s {f lk : Int → Int} {t wa : Int} {C sd m : Nat} : k_snd f lk t wa C sd (m + 1) = if b_sub m sd = 0 ∧ (s_pop m : Int) < (k_snd f lk t wa C sd m).2 ∧ wa ≤ k_at f lk t m C then ((m : Int), (s_pop m : Int)) else k_snd f lk t wa C sd m := rfl
theorem k_lst_s {f : Int → Int} {m c : Nat} : k_lst f m (c + 1) = if m.testBit c = true then min (k_lst f m c) (f (25 + c)) else k_lst f m c := rfl
theorem x_sum_s {f : Int → Int} {n : Nat} : x_sum f (n + 1) = x_sum f n + f n := rfl
theorem s_pop_le : ∀ m : Nat, m < 1024 → s_pop m ≤ 10 := by decide +kernel
theorem k_sum_in {B : Int} {f : Int → Int} (h : s_ok B f) (m : Nat) : 0 ≤ k_sum f m ∧ k_sum f m ≤ 990 := by
  have := x_sum_le (f := fun c => if m.testBit c.toNat = true then f (25 + c) else 0) (M := 99) 10 (fun t a b => by
    have := (s_cr h a (by omega)).1
    split <;> omega)
  unfold k_sum
  omega
theorem k_lst_in {B : Int} {f : Int → Int} (h : s_ok B f) (m : Nat) : ∀ c : Nat, c ≤ 10 → 0 ≤ k_lst f m c ∧ k_lst f m c ≤ 99
  | 0, _ => by simp [k_lst]
  | c + 1, hc => by
    have h1 := k_lst_in h m c (by omega)
    have h2 := (s_cr h (c := (c : Int)) (by omega) (by omega)).1
    unfold k_lst
    split <;> omega
theorem k_harm_in {B : Int} {f : Int → Int} (h : s_ok B f) (m : Nat) : 0 ≤ k_harm f m ∧ k_harm f m ≤ 99 := by
  have := k_lst_in h m 10 (by decide)
  unfold k_harm k_least
  split <;> omega
theorem k_behind_in {B : Int} {f : Int → Int} (h : s_ok B f) {c : Int} (h0 : 0 ≤ c) (h1 : c < 10) (m : Nat) : 0 ≤ k_behind f c m ∧ k_behind f c m ≤ 99 := by
  have := k_lst_in h m 10 (by decide)
  have h2 := k_harm_in h m
  have h3 := (s_cr h h0 h1).1
  unfold k_behind k_least
  split
  · exact h2
  · split <;> omega
theorem k_btw_in {B : Int} {f : Int → Int} (h : s_ok B f) {c d : Int} (h0 : 0 ≤ c) (h1 : c < 10) (h2 : 0 ≤ d) (h3 : d < 10) : 0 ≤ k_btw f c d ∧ k_btw f c d ≤ 99 := by
  have a := (s_cr h h0 h1).1
  have b := (s_cr h h2 h3).1
  unfold k_btw
  split <;> omega
theorem k_diff_in {B : Int} {f : Int → Int} (h : s_ok B f) {t : Int} (h0 : 0 ≤ t) (h1 : t < 8) (m : Nat) : 0 ≤ k_diff f t m ∧ k_diff f t m ≤ 9999 := by
  have a := s_tn h h0 h1
  have b := k_sum_in h (k_luck f m)
  have c := k_sum_in h (b_sub m (k_luck f m))
  unfold k_diff
  dsimp only
  split <;> omega
theorem w_4_21 : x_cs RX4 21 yX4_luckBits cX4_luckBits 4 (some .int) 2 := ⟨(x_in 1066 (by decide +kernel) rfl), (x_in 1067 (by decide +kernel) rfl), (x_in 103 (by decide +kernel) rfl), (x_in 1068 (by decide +kernel) rfl), by decide, ⟨by decide +kernel, by decide +kernel, by decide +kernel⟩⟩
theorem w_4_65 : x_mw RX4 65 Lib.Math.min.name Lib.Math.min.code 2 := ⟨(x_in 1091 (by decide +kernel) rfl), (x_in 462 (by decide +kernel) rfl), (x_in 95 (by decide +kernel) rfl), (x_in 463 (by decide +kernel) rfl)⟩
theorem w_4_71 : x_cs RX4 71 yX4_isMixed cX4_isMixed 3 (some .boolean) 2 := ⟨(x_in 1085 (by decide +kernel) rfl), (x_in 1086 (by decide +kernel) rfl), (x_in 103 (by decide +kernel) rfl), (x_in 1087 (by decide +kernel) rfl), by decide, ⟨by decide +kernel, by decide +kernel, by decide +kernel⟩⟩
theorem w_4_75 : x_cs RX4 75 yX4_leastGrains cX4_leastGrains 4 (some .int) 2 := ⟨(x_in 1088 (by decide +kernel) rfl), (x_in 1089 (by decide +kernel) rfl), (x_in 103 (by decide +kernel) rfl), (x_in 1090 (by decide +kernel) rfl), by decide, ⟨by decide +kernel, by decide +kernel, by decide +kernel⟩⟩
theorem w_4_78 : x_cs RX4 78 yX4_leastHarm cX4_leastHarm 2 (some .int) 2 := ⟨(x_in 1097 (by decide +kernel) rfl), (x_in 1083 (by decide +kernel) rfl), (x_in 103 (by decide +kernel) rfl), (x_in 1084 (by decide +kernel) rfl), by decide, ⟨by decide +kernel, by decide +kernel, by decide +kernel⟩⟩
theorem w_4_81 : x_cs RX4 81 yX4_followingInHold cX4_followingInHold 6 (some .int) 4 := ⟨(x_in 1098 (by decide +kernel) rfl), (x_in 1099 (by decide +kernel) rfl), (x_in 103 (by decide +kernel) rfl), (x_in 1100 (by decide +kernel) rfl), by decide, ⟨by decide +kernel, by decide +kernel, by decide +kernel⟩⟩
theorem w_4_85 : x_cs RX4 85 yX4_harmBetween cX4_harmBetween 4 (some .int) 3 := ⟨(x_in 1101 (by decide +kernel) rfl), (x_in 1102 (by decide +kernel) rfl), (x_in 103 (by decide +kernel) rfl), (x_in 1103 (by decide +kernel) rfl), by decide, ⟨by decide +kernel, by decide +kernel, by decide +kernel⟩⟩
theorem w_4_88 : x_cs RX4 88 yX4_leastHarmBehind cX4_leastHarmBehind 5 (some .int) 3 := ⟨(x_in 1104 (by decide +kernel) rfl), (x_in 1105 (by decide +kernel) rfl), (x_in 103 (by decide +kernel) rfl), (x_in 1106 (by decide +kernel) rfl), by decide, ⟨by decide +kernel, by decide +kernel, by decide +kernel⟩⟩
theorem c4_luck {X : xC} {l : Launch} (hl : l.stackTraces = false) {N : Nat} {sh : xS} {D : xM} {r a : Nat} (hs : is_St N sh r a) {B : Int} (hB : B ≤ 1000000) (hk : s_ok B (D a)) {m : Nat} (hm : m < 1024) : x_M X l yX4_luckBits cX4_luckBits 4 (some .int) 1 0 0 [.ref (x_b X + r), .int (xI m)] false N sh D (.inl (some (.int (xI (((k_luck (D a) m : Nat) : Int)))))) false N sh (x_is (D)) := by
  obtain ⟨hrN, hr, haN, ha⟩ := id hs
  refine x_ofW (by decide +kernel) hl (by simp [Value.category]) (by simp) ?_
  have hloop : ∀ i : Nat, i ≤ 10 → x_W (X, l, yX4_luckBits, cX4_luckBits, 4, some .int, x_room 1 0 0, 0, 0, (.inl (some (.int (xI (((k_luck (D a) m : Nat) : Int)))))), N, sh, (x_is (D)), false, []) 4 [some (.ref (x_b X + r)), some (.int (xI m)), some (.int (xI ((s_bits (fun c : Nat => m.testBit c = true ∧ (D a) (35 + (c : Int)) = 0) i : Nat) : Int))), some (.int (xI i))] [] 0 0 false N sh D := by
    refine x_down 10 ?_ ?_
    · refine x_iload_n dX4_luckBits_4 x_get_4_3 ?_
      refine x_bipush dX4_luckBits_5 rfl ?_
      refine r_icmp_ge (t := 42) dX4_luckBits_7 rfl ⟨by omega, by omega⟩ ⟨by omega, by omega⟩ (fun hc7 => ?_) (fun hc7 => absurd hc7 (by omega))
      refine x_iload_n dX4_luckBits_42 x_get_4_2 ?_
      exact x_iret dX4_luckBits_43 rfl (Nat.le_of_ble_eq_true rfl) (Nat.le_of_ble_eq_true rfl) rfl rfl rfl rfl rfl
    · intro i hi ih
      refine x_iload_n dX4_luckBits_4 x_get_4_3 ?_
      refine x_bipush dX4_luckBits_5 rfl ?_
      refine r_icmp_ge (t := 42) dX4_luckBits_7 rfl (by first | exact ⟨by omega, by omega⟩ | exact s_r hk hB (by omega) (by omega)) (by first | exact ⟨by omega, by omega⟩ | exact s_r hk hB (by omega) (by omega)) (fun hc7 => absurd hc7 (by omega)) (fun hc7 => ?_)
      refine x_iload_n dX4_luckBits_10 x_get_4_1 ?_
      refine x_iconst dX4_luckBits_11 ?_
      refine x_iload_n dX4_luckBits_12 x_get_4_3 ?_
      refine x_ishl dX4_luckBits_13 ?_
      refine x_iand dX4_luckBits_14 ?_
      refine x_as_is (b_and hm (by omega)) ?_
      refine r_if_eq (t := 36) dX4_luckBits_15 rfl ⟨by omega, by have := @Nat.and_le_left m (2 ^ i); omega⟩ (fun hc15 => ?_) (fun hc15 => ?_)
      · refine x_iinc dX4_luckBits_36 x_get_4_3 (Nat.le_of_ble_eq_true rfl) rfl x_set_4_3 ?_
        refine x_goto (t := 4) dX4_luckBits_39 rfl ?_
        first
          | exact ih
          | (first | (rw [s_bits_n (fun h => absurd (And.left h) (by rw [b_t.mp hc15]; decide))] at ih; exact ih) | (rw [s_bits_n (fun h => hc27 (And.right h))] at ih; exact ih))
      · refine x_aload_n dX4_luckBits_18 x_get_4_0 ?_
        refine x_getR dX4_luckBits_19 fX_4_40 (by assumption) (by assumption) (by rfl) ?_
        refine x_bipush dX4_luckBits_22 rfl ?_
        refine x_iload_n dX4_luckBits_24 x_get_4_3 ?_
        refine x_iadd dX4_luckBits_25 ?_
        refine x_iald dX4_luckBits_26 (by assumption) (by assumption) (by omega) (by omega) (by decide) ?_
        refine r_if_ne (t := 36) dX4_luckBits_27 rfl (by first | exact ⟨by omega, by omega⟩ | exact s_r hk hB (by omega) (by omega)) (fun hc27 => ?_) (fun hc27 => ?_)
        · refine x_iinc dX4_luckBits_36 x_get_4_3 (Nat.le_of_ble_eq_true rfl) rfl x_set_4_3 ?_
          refine x_goto (t := 4) dX4_luckBits_39 rfl ?_
          first
            | exact ih
            | (first | (rw [s_bits_n (fun h => absurd (And.left h) (by rw [b_t.mp hc15]; decide))] at ih; exact ih) | (rw [s_bits_n (fun h => hc27 (And.right h))] at ih; exact ih))
        · refine x_iload_n dX4_luckBits_30 x_get_4_2 ?_
          refine x_iconst dX4_luckBits_31 ?_
          refine x_iload_n dX4_luckBits_32 x_get_4_3 ?_
          refine x_ishl dX4_luckBits_33 ?_
          refine x_ior dX4_luckBits_34 ?_
          refine x_as_is (s_bits_or (fun c : Nat => m.testBit c = true ∧ (D a) (35 + (c : Int)) = 0) (by omega) ⟨by have := mt b_t.mpr hc15; simpa using this, hc27⟩) ?_
          refine x_istore_n dX4_luckBits_35 (Nat.le_of_ble_eq_true rfl) rfl x_set_4_2 ?_
          refine x_iinc dX4_luckBits_36 x_get_4_3 (Nat.le_of_ble_eq_true rfl) rfl x_set_4_3 ?_
          refine x_goto (t := 4) dX4_luckBits_39 rfl ?_
          first
            | exact ih
            | (first | (rw [s_bits_n (fun h => absurd (And.left h) (by rw [b_t.mp hc15]; decide))] at ih; exact ih) | (rw [s_bits_n (fun h => hc27 (And.right h))] at ih; exact ih))
  refine x_iconst dX4_luckBits_0 ?_
  refine x_istore_n dX4_luckBits_1 (Nat.le_of_ble_eq_true rfl) rfl x_set_4_2 ?_
  refine x_iconst dX4_luckBits_2 ?_
  refine x_istore_n dX4_luckBits_3 (Nat.le_of_ble_eq_true rfl) rfl x_set_4_3 ?_
  exact hloop 0 (Nat.zero_le _)
theorem c4_sum {X : xC} {l : Launch} (hl : l.stackTraces = false) {N : Nat} {sh : xS} {D : xM} {r a : Nat} (hs : is_St N sh r a) {B : Int} (hB : B ≤ 1000000) (hk : s_ok B (D a)) {m : Nat} (hm : m < 1024) : x_M X l yX4_grainsOf cX4_grainsOf 4 (some .int) 1 0 0 [.ref (x_b X + r), .int (xI m)] false N sh D (.inl (some (.int (xI (k_sum (D a) m))))) false N sh (x_is (D)) := by
  obtain ⟨hrN, hr, haN, ha⟩ := id hs
  refine x_ofW (by decide +kernel) hl (by simp [Value.category]) (by simp) ?_
  have hloop : ∀ i : Nat, i ≤ 10 → x_W (X, l, yX4_grainsOf, cX4_grainsOf, 4, some .int, x_room 1 0 0, 0, 0, (.inl (some (.int (xI (k_sum (D a) m))))), N, sh, (x_is (D)), false, []) 4 [some (.ref (x_b X + r)), some (.int (xI m)), some (.int (xI (x_sum (fun c : Int => if m.testBit c.toNat = true then (D a) (25 + c) else 0) i))), some (.int (xI i))] [] 0 0 false N sh D := by
    refine x_down 10 ?_ ?_
    · refine x_iload_n dX4_grainsOf_4 x_get_4_3 ?_
      refine x_bipush dX4_grainsOf_5 rfl ?_
      refine r_icmp_ge (t := 40) dX4_grainsOf_7 rfl ⟨by omega, by omega⟩ ⟨by omega, by omega⟩ (fun hc7 => ?_) (fun hc7 => absurd hc7 (by omega))
      refine x_iload_n dX4_grainsOf_40 x_get_4_2 ?_
      exact x_iret dX4_grainsOf_41 rfl (Nat.le_of_ble_eq_true rfl) (Nat.le_of_ble_eq_true rfl) rfl rfl rfl rfl rfl
    · intro i hi ih
      refine x_iload_n dX4_grainsOf_4 x_get_4_3 ?_
      refine x_bipush dX4_grainsOf_5 rfl ?_
      refine r_icmp_ge (t := 40) dX4_grainsOf_7 rfl (by first | exact ⟨by omega, by omega⟩ | exact s_r hk hB (by omega) (by omega)) (by first | exact ⟨by omega, by omega⟩ | exact s_r hk hB (by omega) (by omega)) (fun hc7 => absurd hc7 (by omega)) (fun hc7 => ?_)
      refine x_iload_n dX4_grainsOf_10 x_get_4_2 ?_
      refine x_iload_n dX4_grainsOf_11 x_get_4_1 ?_
      refine x_iconst dX4_grainsOf_12 ?_
      refine x_iload_n dX4_grainsOf_13 x_get_4_3 ?_
      refine x_ishl dX4_grainsOf_14 ?_
      refine x_iand dX4_grainsOf_15 ?_
      refine x_as_is (b_and hm (by omega)) ?_
      refine r_if_eq (t := 31) dX4_grainsOf_16 rfl ⟨by omega, by have := @Nat.and_le_left m (2 ^ i); omega⟩ (fun hc16 => ?_) (fun hc16 => ?_)
      · refine x_iconst dX4_grainsOf_31 ?_
        refine x_iadd dX4_grainsOf_32 ?_
        refine x_istore_n dX4_grainsOf_33 (Nat.le_of_ble_eq_true rfl) rfl x_set_4_2 ?_
        refine x_iinc dX4_grainsOf_34 x_get_4_3 (Nat.le_of_ble_eq_true rfl) rfl x_set_4_3 ?_
        refine x_goto (t := 4) dX4_grainsOf_37 rfl ?_
        rw [x_sum_s, Int.toNat_natCast] at ih
        first | (rw [if_neg (by rw [b_t.mp hc16]; decide)] at ih; exact ih) | (rw [if_pos (by have := mt b_t.mpr hc16; simpa using this)] at ih; exact ih)
      · refine x_aload_n dX4_grainsOf_19 x_get_4_0 ?_
        refine x_getR dX4_grainsOf_20 fX_4_40 (by assumption) (by assumption) (by rfl) ?_
        refine x_bipush dX4_grainsOf_23 rfl ?_
        refine x_iload_n dX4_grainsOf_25 x_get_4_3 ?_
        refine x_iadd dX4_grainsOf_26 ?_
        refine x_iald dX4_grainsOf_27 (by assumption) (by assumption) (by omega) (by omega) (by decide) ?_
        refine x_goto (t := 32) dX4_grainsOf_28 rfl ?_
        refine x_iadd dX4_grainsOf_32 ?_
        refine x_istore_n dX4_grainsOf_33 (Nat.le_of_ble_eq_true rfl) rfl x_set_4_2 ?_
        refine x_iinc dX4_grainsOf_34 x_get_4_3 (Nat.le_of_ble_eq_true rfl) rfl x_set_4_3 ?_
        refine x_goto (t := 4) dX4_grainsOf_37 rfl ?_
        rw [x_sum_s, Int.toNat_natCast] at ih
        first | (rw [if_neg (by rw [b_t.mp hc16]; decide)] at ih; exact ih) | (rw [if_pos (by have := mt b_t.mpr hc16; simpa using this)] at ih; exact ih)
  refine x_iconst dX4_grainsOf_0 ?_
  refine x_istore_n dX4_grainsOf_1 (Nat.le_of_ble_eq_true rfl) rfl x_set_4_2 ?_
  refine x_iconst dX4_grainsOf_2 ?_
  refine x_istore_n dX4_grainsOf_3 (Nat.le_of_ble_eq_true rfl) rfl x_set_4_3 ?_
  exact hloop 0 (Nat.zero_le _)
theorem c4_least {X : xC} {l : Launch} (hl : l.stackTraces = false) {N : Nat} {sh : xS} {D : xM} {r a : Nat} (hs : is_St N sh r a) {B : Int} (hB : B ≤ 1000000) (hk : s_ok B (D a)) {m : Nat} (hm : m < 1024) : x_M X l yX4_leastGrains cX4_leastGrains 4 (some .int) 1 0 0 [.ref (x_b X + r), .int (xI m)] false N sh D (.inl (some (.int (xI (k_least (D a) m))))) false N sh (x_is (D)) := by
  obtain ⟨hrN, hr, haN, ha⟩ := id hs
  refine x_ofW (by decide +kernel) hl (by simp [Value.category]) (by simp) ?_
  have hloop : ∀ i : Nat, i ≤ 10 → x_W (X, l, yX4_leastGrains, cX4_leastGrains, 4, some .int, x_room 1 0 0, 0, 0, (.inl (some (.int (xI (k_least (D a) m))))), N, sh, (x_is (D)), false, []) 5 [some (.ref (x_b X + r)), some (.int (xI m)), some (.int (xI (k_lst (D a) m i))), some (.int (xI i))] [] 0 0 false N sh D := by
    refine x_down 10 ?_ ?_
    · refine x_iload_n dX4_leastGrains_5 x_get_4_3 ?_
      refine x_bipush dX4_leastGrains_6 rfl ?_
      refine r_icmp_ge (t := 43) dX4_leastGrains_8 rfl ⟨by omega, by omega⟩ ⟨by omega, by omega⟩ (fun hc8 => ?_) (fun hc8 => absurd hc8 (by omega))
      refine x_iload_n dX4_leastGrains_43 x_get_4_2 ?_
      exact x_iret dX4_leastGrains_44 rfl (Nat.le_of_ble_eq_true rfl) (Nat.le_of_ble_eq_true rfl) rfl rfl rfl rfl rfl
    · intro i hi ih
      have hli := k_lst_in hk m i (by omega)
      refine x_iload_n dX4_leastGrains_5 x_get_4_3 ?_
      refine x_bipush dX4_leastGrains_6 rfl ?_
      refine r_icmp_ge (t := 43) dX4_leastGrains_8 rfl (by first | exact ⟨by omega, by omega⟩ | exact s_r hk hB (by omega) (by omega)) (by first | exact ⟨by omega, by omega⟩ | exact s_r hk hB (by omega) (by omega)) (fun hc8 => absurd hc8 (by omega)) (fun hc8 => ?_)
      refine x_iload_n dX4_leastGrains_11 x_get_4_1 ?_
      refine x_iconst dX4_leastGrains_12 ?_
      refine x_iload_n dX4_leastGrains_13 x_get_4_3 ?_
      refine x_ishl dX4_leastGrains_14 ?_
      refine x_iand dX4_leastGrains_15 ?_
      refine x_as_is (b_and hm (by omega)) ?_
      refine r_if_eq (t := 35) dX4_leastGrains_16 rfl ⟨by omega, by have := @Nat.and_le_left m (2 ^ i); omega⟩ (fun hc16 => ?_) (fun hc16 => ?_)
      · refine x_iload_n dX4_leastGrains_35 x_get_4_2 ?_
        refine x_istore_n dX4_leastGrains_36 (Nat.le_of_ble_eq_true rfl) rfl x_set_4_2 ?_
        refine x_iinc dX4_leastGrains_37 x_get_4_3 (Nat.le_of_ble_eq_true rfl) rfl x_set_4_3 ?_
        refine x_goto (t := 5) dX4_leastGrains_40 rfl ?_
        rw [k_lst_s] at ih
        first | (rw [if_neg (by rw [b_t.mp hc16]; decide)] at ih; exact ih) | (rw [if_pos (by have := mt b_t.mpr hc16; simpa using this)] at ih; exact ih)
      · refine x_iload_n dX4_leastGrains_19 x_get_4_2 ?_
        refine x_aload_n dX4_leastGrains_20 x_get_4_0 ?_
        refine x_getR dX4_leastGrains_21 fX_4_40 (by assumption) (by assumption) (by rfl) ?_
        refine x_bipush dX4_leastGrains_24 rfl ?_
        refine x_iload_n dX4_leastGrains_26 x_get_4_3 ?_
        refine x_iadd dX4_leastGrains_27 ?_
        refine x_iald dX4_leastGrains_28 (by assumption) (by assumption) (by omega) (by omega) (by decide) ?_
        refine r_min dX4_leastGrains_29 w_4_65 (by first | exact ⟨by omega, by omega⟩ | exact s_r hk hB (by omega) (by omega)) (by first | exact ⟨by omega, by omega⟩ | exact s_r hk hB (by omega) (by omega)) (Nat.le_of_ble_eq_true rfl) (Nat.le_of_ble_eq_true rfl) (Nat.le_of_ble_eq_true rfl) (Nat.le_of_ble_eq_true rfl) ?_
        refine x_goto (t := 36) dX4_leastGrains_32 rfl ?_
        refine x_istore_n dX4_leastGrains_36 (Nat.le_of_ble_eq_true rfl) rfl x_set_4_2 ?_
        refine x_iinc dX4_leastGrains_37 x_get_4_3 (Nat.le_of_ble_eq_true rfl) rfl x_set_4_3 ?_
        refine x_goto (t := 5) dX4_leastGrains_40 rfl ?_
        rw [k_lst_s] at ih
        first | (rw [if_neg (by rw [b_t.mp hc16]; decide)] at ih; exact ih) | (rw [if_pos (by have := mt b_t.mpr hc16; simpa using this)] at ih; exact ih)
  refine x_bipush dX4_leastGrains_0 rfl ?_
  refine x_istore_n dX4_leastGrains_2 (Nat.le_of_ble_eq_true rfl) rfl x_set_4_2 ?_
  refine x_iconst dX4_leastGrains_3 ?_
  refine x_istore_n dX4_leastGrains_4 (Nat.le_of_ble_eq_true rfl) rfl x_set_4_3 ?_
  exact hloop 0 (Nat.zero_le _)
theorem c4_mixed {X : xC} {l : Launch} (hl : l.stackTraces = false) {N : Nat} {sh : xS} {D : xM} {r a : Nat} (hs : is_St N sh r a) {B : Int} (hB : B ≤ 1000000) (hk : s_ok B (D a)) {m : Nat} (hm : m < 1024) : x_M X l yX4_isMixed cX4_isMixed 3 (some .boolean) 2 0 0 [.ref (x_b X + r), .int (xI m)] false N sh D (.inl (some (.int (xI (x_B (k_mixed (D a) m)))))) false N sh (x_is (D)) := by
  have hlt := k_luck_lt (D a) m
  refine x_ofW (by decide +kernel) hl (by simp [Value.category]) (by simp) ?_
  refine x_aload_n dX4_isMixed_0 x_get_3_0 ?_
  refine x_iload_n dX4_isMixed_1 x_get_3_1 ?_
  refine x_callS (As := [_, _]) dX4_isMixed_2 w_4_21 (c4_luck hl hs hB hk hm) rfl rfl (Nat.le_of_ble_eq_true rfl) (Nat.le_of_ble_eq_true rfl) (Nat.le_of_ble_eq_true rfl) (Nat.le_of_ble_eq_true rfl) (Nat.le_of_ble_eq_true rfl) ?_
  intro d hd
  obtain rfl := Eq.symm hd
  refine x_istore_n dX4_isMixed_5 (Nat.le_of_ble_eq_true rfl) rfl x_set_3_2 ?_
  refine x_iload_n dX4_isMixed_6 x_get_3_2 ?_
  refine r_if_eq (t := 19) dX4_isMixed_7 rfl ⟨by omega, by omega⟩ (fun hc7 => ?_) (fun hc7 => ?_)
  · refine x_iconst dX4_isMixed_19 ?_
    exact x_zret dX4_isMixed_20 rfl (by omega) (Nat.le_of_ble_eq_true rfl) (Nat.le_of_ble_eq_true rfl) (by first | (rw [x_B, if_pos (by omega)]; done) | (rw [x_B, if_neg (by omega)]; done)) rfl rfl rfl rfl
  · refine x_iload_n dX4_isMixed_10 x_get_3_2 ?_
    refine x_iload_n dX4_isMixed_11 x_get_3_1 ?_
    refine r_icmp_eq (t := 19) dX4_isMixed_12 rfl ⟨by omega, by omega⟩ ⟨by omega, by omega⟩ (fun hc12 => ?_) (fun hc12 => ?_)
    · refine x_iconst dX4_isMixed_19 ?_
      exact x_zret dX4_isMixed_20 rfl (by omega) (Nat.le_of_ble_eq_true rfl) (Nat.le_of_ble_eq_true rfl) (by first | (rw [x_B, if_pos (by omega)]; done) | (rw [x_B, if_neg (by omega)]; done)) rfl rfl rfl rfl
    · refine x_iconst dX4_isMixed_15 ?_
      refine x_goto (t := 20) dX4_isMixed_16 rfl ?_
      exact x_zret dX4_isMixed_20 rfl (by omega) (Nat.le_of_ble_eq_true rfl) (Nat.le_of_ble_eq_true rfl) (by first | (rw [x_B, if_pos (by omega)]; done) | (rw [x_B, if_neg (by omega)]; done)) rfl rfl rfl rfl
theorem c4_harm {X : xC} {l : Launch} (hl : l.stackTraces = false) {N : Nat} {sh : xS} {D : xM} {r a : Nat} (hs : is_St N sh r a) {B : Int} (hB : B ≤ 1000000) (hk : s_ok B (D a)) {m : Nat} (hm : m < 1024) : x_M X l yX4_leastHarm cX4_leastHarm 2 (some .int) 3 0 0 [.ref (x_b X + r), .int (xI m)] false N sh D (.inl (some (.int (xI (k_harm (D a) m))))) false N sh (x_is (D)) := by
  refine x_ofW (by decide +kernel) hl (by simp [Value.category]) (by simp) ?_
  refine x_aload_n dX4_leastHarm_0 x_get_2_0 ?_
  refine x_iload_n dX4_leastHarm_1 x_get_2_1 ?_
  refine x_callS (As := [_, _]) dX4_leastHarm_2 w_4_71 (c4_mixed hl hs hB hk hm) rfl rfl (Nat.le_of_ble_eq_true rfl) (Nat.le_of_ble_eq_true rfl) (Nat.le_of_ble_eq_true rfl) (Nat.le_of_ble_eq_true rfl) (Nat.le_of_ble_eq_true rfl) ?_
  intro d hd
  obtain rfl := Eq.symm hd
  refine b_ifeq (t := 16) dX4_leastHarm_5 rfl (fun hc5 => ?_) (fun hc5 => ?_)
  · refine x_iconst dX4_leastHarm_16 ?_
    exact x_iret dX4_leastHarm_17 rfl (Nat.le_of_ble_eq_true rfl) (Nat.le_of_ble_eq_true rfl) (by first | (rw [k_harm, if_pos hc5]; done) | (rw [k_harm, if_neg hc5]; done)) rfl rfl rfl rfl
  · refine x_aload_n dX4_leastHarm_8 x_get_2_0 ?_
    refine x_iload_n dX4_leastHarm_9 x_get_2_1 ?_
    refine x_callS (As := [_, _]) dX4_leastHarm_10 w_4_75 (c4_least hl hs hB hk hm) rfl rfl (Nat.le_of_ble_eq_true rfl) (Nat.le_of_ble_eq_true rfl) (Nat.le_of_ble_eq_true rfl) (Nat.le_of_ble_eq_true rfl) (Nat.le_of_ble_eq_true rfl) ?_
    intro d hd
    obtain rfl := Eq.symm hd
    refine x_goto (t := 17) dX4_leastHarm_13 rfl ?_
    exact x_iret dX4_leastHarm_17 rfl (Nat.le_of_ble_eq_true rfl) (Nat.le_of_ble_eq_true rfl) (by first | (rw [k_harm, if_pos hc5]; done) | (rw [k_harm, if_neg hc5]; done)) rfl rfl rfl rfl
theorem c4_btw {X : xC} {l : Launch} (hl : l.stackTraces = false) {N : Nat} {sh : xS} {D : xM} {r a : Nat} (hs : is_St N sh r a) {B : Int} (hB : B ≤ 1000000) (hk : s_ok B (D a)) {c d : Int} (h0 : 0 ≤ c) (h1 : c < 10) (h2 : 0 ≤ d) (h3 : d < 10) : x_M X l yX4_harmBetween cX4_harmBetween 4 (some .int) 1 0 0 [.ref (x_b X + r), .int (xI c), .int (xI d)] false N sh D (.inl (some (.int (xI (k_btw (D a) c d))))) false N sh (x_is (D)) := by
  obtain ⟨hrN, hr, haN, ha⟩ := id hs
  refine x_ofW (by decide +kernel) hl (by simp [Value.category]) (by simp) ?_
  refine x_aload_n dX4_harmBetween_0 x_get_4_0 ?_
  refine x_getR dX4_harmBetween_1 fX_4_40 (by assumption) (by assumption) (by rfl) ?_
  refine x_bipush dX4_harmBetween_4 rfl ?_
  refine x_iload_n dX4_harmBetween_6 x_get_4_1 ?_
  refine x_iadd dX4_harmBetween_7 ?_
  refine x_iald dX4_harmBetween_8 (by assumption) (by assumption) (by omega) (by omega) (by decide) ?_
  refine x_aload_n dX4_harmBetween_9 x_get_4_0 ?_
  refine x_getR dX4_harmBetween_10 fX_4_40 (by assumption) (by assumption) (by rfl) ?_
  refine x_bipush dX4_harmBetween_13 rfl ?_
  refine x_iload_n dX4_harmBetween_15 x_get_4_2 ?_
  refine x_iadd dX4_harmBetween_16 ?_
  refine x_iald dX4_harmBetween_17 (by assumption) (by assumption) (by omega) (by omega) (by decide) ?_
  refine r_icmp_ne (t := 25) dX4_harmBetween_18 rfl (by first | exact ⟨by omega, by omega⟩ | exact s_r hk hB (by omega) (by omega)) (by first | exact ⟨by omega, by omega⟩ | exact s_r hk hB (by omega) (by omega)) (fun hc18 => ?_) (fun hc18 => ?_)
  · refine x_iconst dX4_harmBetween_25 ?_
    refine x_istore_n dX4_harmBetween_26 (Nat.le_of_ble_eq_true rfl) rfl x_set_4_3 ?_
    refine x_iload_n dX4_harmBetween_27 x_get_4_3 ?_
    refine r_if_eq (t := 35) dX4_harmBetween_28 rfl (by first | exact ⟨by omega, by omega⟩ | exact s_r hk hB (by omega) (by omega)) (fun hc28 => ?_) (fun hc28 => ?_)
    · refine x_aload_n dX4_harmBetween_35 x_get_4_0 ?_
      refine x_getR dX4_harmBetween_36 fX_4_40 (by assumption) (by assumption) (by rfl) ?_
      refine x_bipush dX4_harmBetween_39 rfl ?_
      refine x_iload_n dX4_harmBetween_41 x_get_4_1 ?_
      refine x_iadd dX4_harmBetween_42 ?_
      refine x_iald dX4_harmBetween_43 (by assumption) (by assumption) (by omega) (by omega) (by decide) ?_
      refine x_aload_n dX4_harmBetween_44 x_get_4_0 ?_
      refine x_getR dX4_harmBetween_45 fX_4_40 (by assumption) (by assumption) (by rfl) ?_
      refine x_bipush dX4_harmBetween_48 rfl ?_
      refine x_iload_n dX4_harmBetween_50 x_get_4_2 ?_
      refine x_iadd dX4_harmBetween_51 ?_
      refine x_iald dX4_harmBetween_52 (by assumption) (by assumption) (by omega) (by omega) (by decide) ?_
      refine r_min dX4_harmBetween_53 w_4_65 (by first | exact ⟨by omega, by omega⟩ | exact s_r hk hB (by omega) (by omega)) (by first | exact ⟨by omega, by omega⟩ | exact s_r hk hB (by omega) (by omega)) (Nat.le_of_ble_eq_true rfl) (Nat.le_of_ble_eq_true rfl) (Nat.le_of_ble_eq_true rfl) (Nat.le_of_ble_eq_true rfl) ?_
      exact x_iret dX4_harmBetween_56 rfl (Nat.le_of_ble_eq_true rfl) (Nat.le_of_ble_eq_true rfl) (by first | (rw [k_btw, if_pos (by omega)]; done) | (rw [k_btw, if_neg (by omega)]; done)) rfl rfl rfl rfl
    · refine x_iconst dX4_harmBetween_31 ?_
      refine x_goto (t := 56) dX4_harmBetween_32 rfl ?_
      exact x_iret dX4_harmBetween_56 rfl (Nat.le_of_ble_eq_true rfl) (Nat.le_of_ble_eq_true rfl) (by first | (rw [k_btw, if_pos (by omega)]; done) | (rw [k_btw, if_neg (by omega)]; done)) rfl rfl rfl rfl
  · refine x_iconst dX4_harmBetween_21 ?_
    refine x_goto (t := 26) dX4_harmBetween_22 rfl ?_
    refine x_istore_n dX4_harmBetween_26 (Nat.le_of_ble_eq_true rfl) rfl x_set_4_3 ?_
    refine x_iload_n dX4_harmBetween_27 x_get_4_3 ?_
    refine r_if_eq (t := 35) dX4_harmBetween_28 rfl (by first | exact ⟨by omega, by omega⟩ | exact s_r hk hB (by omega) (by omega)) (fun hc28 => ?_) (fun hc28 => ?_)
    · refine x_aload_n dX4_harmBetween_35 x_get_4_0 ?_
      refine x_getR dX4_harmBetween_36 fX_4_40 (by assumption) (by assumption) (by rfl) ?_
      refine x_bipush dX4_harmBetween_39 rfl ?_
      refine x_iload_n dX4_harmBetween_41 x_get_4_1 ?_
      refine x_iadd dX4_harmBetween_42 ?_
      refine x_iald dX4_harmBetween_43 (by assumption) (by assumption) (by omega) (by omega) (by decide) ?_
      refine x_aload_n dX4_harmBetween_44 x_get_4_0 ?_
      refine x_getR dX4_harmBetween_45 fX_4_40 (by assumption) (by assumption) (by rfl) ?_
      refine x_bipush dX4_harmBetween_48 rfl ?_
      refine x_iload_n dX4_harmBetween_50 x_get_4_2 ?_
      refine x_iadd dX4_harmBetween_51 ?_
      refine x_iald dX4_harmBetween_52 (by assumption) (by assumption) (by omega) (by omega) (by decide) ?_
      refine r_min dX4_harmBetween_53 w_4_65 (by first | exact ⟨by omega, by omega⟩ | exact s_r hk hB (by omega) (by omega)) (by first | exact ⟨by omega, by omega⟩ | exact s_r hk hB (by omega) (by omega)) (Nat.le_of_ble_eq_true rfl) (Nat.le_of_ble_eq_true rfl) (Nat.le_of_ble_eq_true rfl) (Nat.le_of_ble_eq_true rfl) ?_
      exact x_iret dX4_harmBetween_56 rfl (Nat.le_of_ble_eq_true rfl) (Nat.le_of_ble_eq_true rfl) (by first | (rw [k_btw, if_pos (by omega)]; done) | (rw [k_btw, if_neg (by omega)]; done)) rfl rfl rfl rfl
    · refine x_iconst dX4_harmBetween_31 ?_
      refine x_goto (t := 56) dX4_harmBetween_32 rfl ?_
      exact x_iret dX4_harmBetween_56 rfl (Nat.le_of_ble_eq_true rfl) (Nat.le_of_ble_eq_true rfl) (by first | (rw [k_btw, if_pos (by omega)]; done) | (rw [k_btw, if_neg (by omega)]; done)) rfl rfl rfl rfl
theorem c4_behind {X : xC} {l : Launch} (hl : l.stackTraces = false) {N : Nat} {sh : xS} {D : xM} {r a : Nat} (hs : is_St N sh r a) {B : Int} (hB : B ≤ 1000000) (hk : s_ok B (D a)) {c : Int} (h0 : 0 ≤ c) (h1 : c < 10) {m : Nat} (hm : m < 1024) : x_M X l yX4_leastHarmBehind cX4_leastHarmBehind 5 (some .int) 4 0 0 [.ref (x_b X + r), .int (xI c), .int (xI m)] false N sh D (.inl (some (.int (xI (k_behind (D a) c m))))) false N sh (x_is (D)) := by
  obtain ⟨hrN, hr, haN, ha⟩ := id hs
  have hlt := k_luck_lt (D a) m
  have hll := k_lst_in hk m 10 (by decide)
  obtain ⟨hg, hb, -⟩ := s_cr hk h0 h1
  have hln : k_least (D a) m = k_lst (D a) m 10 := rfl
  refine x_ofW (by decide +kernel) hl (by simp [Value.category]) (by simp) ?_
  refine x_iload_n dX4_leastHarmBehind_0 x_get_5_2 ?_
  refine r_if_eq (t := 12) dX4_leastHarmBehind_1 rfl (by first | exact ⟨by omega, by omega⟩ | exact s_r hk hB (by omega) (by omega)) (fun hc1 => ?_) (fun hc1 => ?_)
  · refine x_aload_n dX4_leastHarmBehind_12 x_get_5_0 ?_
    refine x_iload_n dX4_leastHarmBehind_13 x_get_5_2 ?_
    refine x_callS (As := [_, _]) dX4_leastHarmBehind_14 w_4_78 (c4_harm hl hs hB hk hm) rfl rfl (Nat.le_of_ble_eq_true rfl) (Nat.le_of_ble_eq_true rfl) (Nat.le_of_ble_eq_true rfl) (Nat.le_of_ble_eq_true rfl) (Nat.le_of_ble_eq_true rfl) ?_
    intro d hd
    obtain rfl := Eq.symm hd
    exact x_iret dX4_leastHarmBehind_17 rfl (Nat.le_of_ble_eq_true rfl) (Nat.le_of_ble_eq_true rfl) (by rw [k_behind, if_pos (by first | exact Or.inr hc9 | exact Or.inl (by omega))]) rfl rfl rfl rfl
  · refine x_aload_n dX4_leastHarmBehind_4 x_get_5_0 ?_
    refine x_iload_n dX4_leastHarmBehind_5 x_get_5_2 ?_
    refine x_callS (As := [_, _]) dX4_leastHarmBehind_6 w_4_71 (c4_mixed hl hs hB hk hm) rfl rfl (Nat.le_of_ble_eq_true rfl) (Nat.le_of_ble_eq_true rfl) (Nat.le_of_ble_eq_true rfl) (Nat.le_of_ble_eq_true rfl) (Nat.le_of_ble_eq_true rfl) ?_
    intro d hd
    obtain rfl := Eq.symm hd
    refine b_ifeq (t := 18) dX4_leastHarmBehind_9 rfl (fun hc9 => ?_) (fun hc9 => ?_)
    · refine x_aload_n dX4_leastHarmBehind_18 x_get_5_0 ?_
      refine x_iload_n dX4_leastHarmBehind_19 x_get_5_2 ?_
      refine x_callS (As := [_, _]) dX4_leastHarmBehind_20 w_4_21 (c4_luck hl hs hB hk hm) rfl rfl (Nat.le_of_ble_eq_true rfl) (Nat.le_of_ble_eq_true rfl) (Nat.le_of_ble_eq_true rfl) (Nat.le_of_ble_eq_true rfl) (Nat.le_of_ble_eq_true rfl) ?_
      intro d hd
      obtain rfl := Eq.symm hd
      refine r_if_eq (t := 30) dX4_leastHarmBehind_23 rfl (by first | exact ⟨by omega, by omega⟩ | exact s_r hk hB (by omega) (by omega)) (fun hc23 => ?_) (fun hc23 => ?_)
      · refine x_iconst dX4_leastHarmBehind_30 ?_
        refine x_istore_n dX4_leastHarmBehind_31 (Nat.le_of_ble_eq_true rfl) rfl x_set_5_3 ?_
        refine x_iload_n dX4_leastHarmBehind_32 x_get_5_3 ?_
        refine x_aload_n dX4_leastHarmBehind_33 x_get_5_0 ?_
        refine x_getR dX4_leastHarmBehind_34 fX_4_40 (by assumption) (by assumption) (by rfl) ?_
        refine x_bipush dX4_leastHarmBehind_37 rfl ?_
        refine x_iload_n dX4_leastHarmBehind_39 x_get_5_1 ?_
        refine x_iadd dX4_leastHarmBehind_40 ?_
        refine x_iald dX4_leastHarmBehind_41 (by assumption) (by assumption) (by omega) (by omega) (by decide) ?_
        refine r_if_ne (t := 49) dX4_leastHarmBehind_42 rfl (by first | exact ⟨by omega, by omega⟩ | exact s_r hk hB (by omega) (by omega)) (fun hc42 => ?_) (fun hc42 => ?_)
        · refine x_iconst dX4_leastHarmBehind_49 ?_
          refine r_icmp_ne (t := 57) dX4_leastHarmBehind_50 rfl (by first | exact ⟨by omega, by omega⟩ | exact s_r hk hB (by omega) (by omega)) (by first | exact ⟨by omega, by omega⟩ | exact s_r hk hB (by omega) (by omega)) (fun hc50 => ?_) (fun hc50 => ?_)
          · refine x_iconst dX4_leastHarmBehind_57 ?_
            refine x_istore dX4_leastHarmBehind_58 (Nat.le_of_ble_eq_true rfl) rfl x_set_5_4 ?_
            refine x_iload dX4_leastHarmBehind_60 x_get_5_4 ?_
            refine r_if_eq (t := 69) dX4_leastHarmBehind_62 rfl (by first | exact ⟨by omega, by omega⟩ | exact s_r hk hB (by omega) (by omega)) (fun hc62 => ?_) (fun hc62 => ?_)
            · refine x_aload_n dX4_leastHarmBehind_69 x_get_5_0 ?_
              refine x_getR dX4_leastHarmBehind_70 fX_4_40 (by assumption) (by assumption) (by rfl) ?_
              refine x_bipush dX4_leastHarmBehind_73 rfl ?_
              refine x_iload_n dX4_leastHarmBehind_75 x_get_5_1 ?_
              refine x_iadd dX4_leastHarmBehind_76 ?_
              refine x_iald dX4_leastHarmBehind_77 (by assumption) (by assumption) (by omega) (by omega) (by decide) ?_
              refine x_aload_n dX4_leastHarmBehind_78 x_get_5_0 ?_
              refine x_iload_n dX4_leastHarmBehind_79 x_get_5_2 ?_
              refine x_callS (As := [_, _]) dX4_leastHarmBehind_80 w_4_75 (c4_least hl hs hB hk hm) rfl rfl (Nat.le_of_ble_eq_true rfl) (Nat.le_of_ble_eq_true rfl) (Nat.le_of_ble_eq_true rfl) (Nat.le_of_ble_eq_true rfl) (Nat.le_of_ble_eq_true rfl) ?_
              intro d hd
              obtain rfl := Eq.symm hd
              refine r_min dX4_leastHarmBehind_83 w_4_65 (by first | exact ⟨by omega, by omega⟩ | exact s_r hk hB (by omega) (by omega)) (by first | exact ⟨by omega, by omega⟩ | exact s_r hk hB (by omega) (by omega)) (Nat.le_of_ble_eq_true rfl) (Nat.le_of_ble_eq_true rfl) (Nat.le_of_ble_eq_true rfl) (Nat.le_of_ble_eq_true rfl) ?_
              exact x_iret dX4_leastHarmBehind_86 rfl (Nat.le_of_ble_eq_true rfl) (Nat.le_of_ble_eq_true rfl) (by first
                | (rw [k_behind, if_neg (fun h => h.elim (fun e => by omega) hc9), if_pos (by constructor <;> intro _ <;> omega)]; done)
                | (rw [k_behind, if_neg (fun h => h.elim (fun e => by omega) hc9), if_neg (fun h => by first | (have := h.mp (by omega); omega) | (have := h.mpr (by omega); omega))]; done)) rfl rfl rfl rfl
            · refine x_iconst dX4_leastHarmBehind_65 ?_
              refine x_goto (t := 86) dX4_leastHarmBehind_66 rfl ?_
              exact x_iret dX4_leastHarmBehind_86 rfl (Nat.le_of_ble_eq_true rfl) (Nat.le_of_ble_eq_true rfl) (by first
                | (rw [k_behind, if_neg (fun h => h.elim (fun e => by omega) hc9), if_pos (by constructor <;> intro _ <;> omega)]; done)
                | (rw [k_behind, if_neg (fun h => h.elim (fun e => by omega) hc9), if_neg (fun h => by first | (have := h.mp (by omega); omega) | (have := h.mpr (by omega); omega))]; done)) rfl rfl rfl rfl
          · refine x_iconst dX4_leastHarmBehind_53 ?_
            refine x_goto (t := 58) dX4_leastHarmBehind_54 rfl ?_
            refine x_istore dX4_leastHarmBehind_58 (Nat.le_of_ble_eq_true rfl) rfl x_set_5_4 ?_
            refine x_iload dX4_leastHarmBehind_60 x_get_5_4 ?_
            refine r_if_eq (t := 69) dX4_leastHarmBehind_62 rfl (by first | exact ⟨by omega, by omega⟩ | exact s_r hk hB (by omega) (by omega)) (fun hc62 => ?_) (fun hc62 => ?_)
            · refine x_aload_n dX4_leastHarmBehind_69 x_get_5_0 ?_
              refine x_getR dX4_leastHarmBehind_70 fX_4_40 (by assumption) (by assumption) (by rfl) ?_
              refine x_bipush dX4_leastHarmBehind_73 rfl ?_
              refine x_iload_n dX4_leastHarmBehind_75 x_get_5_1 ?_
              refine x_iadd dX4_leastHarmBehind_76 ?_
              refine x_iald dX4_leastHarmBehind_77 (by assumption) (by assumption) (by omega) (by omega) (by decide) ?_
              refine x_aload_n dX4_leastHarmBehind_78 x_get_5_0 ?_
              refine x_iload_n dX4_leastHarmBehind_79 x_get_5_2 ?_
              refine x_callS (As := [_, _]) dX4_leastHarmBehind_80 w_4_75 (c4_least hl hs hB hk hm) rfl rfl (Nat.le_of_ble_eq_true rfl) (Nat.le_of_ble_eq_true rfl) (Nat.le_of_ble_eq_true rfl) (Nat.le_of_ble_eq_true rfl) (Nat.le_of_ble_eq_true rfl) ?_
              intro d hd
              obtain rfl := Eq.symm hd
              refine r_min dX4_leastHarmBehind_83 w_4_65 (by first | exact ⟨by omega, by omega⟩ | exact s_r hk hB (by omega) (by omega)) (by first | exact ⟨by omega, by omega⟩ | exact s_r hk hB (by omega) (by omega)) (Nat.le_of_ble_eq_true rfl) (Nat.le_of_ble_eq_true rfl) (Nat.le_of_ble_eq_true rfl) (Nat.le_of_ble_eq_true rfl) ?_
              exact x_iret dX4_leastHarmBehind_86 rfl (Nat.le_of_ble_eq_true rfl) (Nat.le_of_ble_eq_true rfl) (by first
                | (rw [k_behind, if_neg (fun h => h.elim (fun e => by omega) hc9), if_pos (by constructor <;> intro _ <;> omega)]; done)
                | (rw [k_behind, if_neg (fun h => h.elim (fun e => by omega) hc9), if_neg (fun h => by first | (have := h.mp (by omega); omega) | (have := h.mpr (by omega); omega))]; done)) rfl rfl rfl rfl
            · refine x_iconst dX4_leastHarmBehind_65 ?_
              refine x_goto (t := 86) dX4_leastHarmBehind_66 rfl ?_
              exact x_iret dX4_leastHarmBehind_86 rfl (Nat.le_of_ble_eq_true rfl) (Nat.le_of_ble_eq_true rfl) (by first
                | (rw [k_behind, if_neg (fun h => h.elim (fun e => by omega) hc9), if_pos (by constructor <;> intro _ <;> omega)]; done)
                | (rw [k_behind, if_neg (fun h => h.elim (fun e => by omega) hc9), if_neg (fun h => by first | (have := h.mp (by omega); omega) | (have := h.mpr (by omega); omega))]; done)) rfl rfl rfl rfl
        · refine x_iconst dX4_leastHarmBehind_45 ?_
          refine x_goto (t := 50) dX4_leastHarmBehind_46 rfl ?_
          refine r_icmp_ne (t := 57) dX4_leastHarmBehind_50 rfl (by first | exact ⟨by omega, by omega⟩ | exact s_r hk hB (by omega) (by omega)) (by first | exact ⟨by omega, by omega⟩ | exact s_r hk hB (by omega) (by omega)) (fun hc50 => ?_) (fun hc50 => ?_)
          · refine x_iconst dX4_leastHarmBehind_57 ?_
            refine x_istore dX4_leastHarmBehind_58 (Nat.le_of_ble_eq_true rfl) rfl x_set_5_4 ?_
            refine x_iload dX4_leastHarmBehind_60 x_get_5_4 ?_
            refine r_if_eq (t := 69) dX4_leastHarmBehind_62 rfl (by first | exact ⟨by omega, by omega⟩ | exact s_r hk hB (by omega) (by omega)) (fun hc62 => ?_) (fun hc62 => ?_)
            · refine x_aload_n dX4_leastHarmBehind_69 x_get_5_0 ?_
              refine x_getR dX4_leastHarmBehind_70 fX_4_40 (by assumption) (by assumption) (by rfl) ?_
              refine x_bipush dX4_leastHarmBehind_73 rfl ?_
              refine x_iload_n dX4_leastHarmBehind_75 x_get_5_1 ?_
              refine x_iadd dX4_leastHarmBehind_76 ?_
              refine x_iald dX4_leastHarmBehind_77 (by assumption) (by assumption) (by omega) (by omega) (by decide) ?_
              refine x_aload_n dX4_leastHarmBehind_78 x_get_5_0 ?_
              refine x_iload_n dX4_leastHarmBehind_79 x_get_5_2 ?_
              refine x_callS (As := [_, _]) dX4_leastHarmBehind_80 w_4_75 (c4_least hl hs hB hk hm) rfl rfl (Nat.le_of_ble_eq_true rfl) (Nat.le_of_ble_eq_true rfl) (Nat.le_of_ble_eq_true rfl) (Nat.le_of_ble_eq_true rfl) (Nat.le_of_ble_eq_true rfl) ?_
              intro d hd
              obtain rfl := Eq.symm hd
              refine r_min dX4_leastHarmBehind_83 w_4_65 (by first | exact ⟨by omega, by omega⟩ | exact s_r hk hB (by omega) (by omega)) (by first | exact ⟨by omega, by omega⟩ | exact s_r hk hB (by omega) (by omega)) (Nat.le_of_ble_eq_true rfl) (Nat.le_of_ble_eq_true rfl) (Nat.le_of_ble_eq_true rfl) (Nat.le_of_ble_eq_true rfl) ?_
              exact x_iret dX4_leastHarmBehind_86 rfl (Nat.le_of_ble_eq_true rfl) (Nat.le_of_ble_eq_true rfl) (by first
                | (rw [k_behind, if_neg (fun h => h.elim (fun e => by omega) hc9), if_pos (by constructor <;> intro _ <;> omega)]; done)
                | (rw [k_behind, if_neg (fun h => h.elim (fun e => by omega) hc9), if_neg (fun h => by first | (have := h.mp (by omega); omega) | (have := h.mpr (by omega); omega))]; done)) rfl rfl rfl rfl
            · refine x_iconst dX4_leastHarmBehind_65 ?_
              refine x_goto (t := 86) dX4_leastHarmBehind_66 rfl ?_
              exact x_iret dX4_leastHarmBehind_86 rfl (Nat.le_of_ble_eq_true rfl) (Nat.le_of_ble_eq_true rfl) (by first
                | (rw [k_behind, if_neg (fun h => h.elim (fun e => by omega) hc9), if_pos (by constructor <;> intro _ <;> omega)]; done)
                | (rw [k_behind, if_neg (fun h => h.elim (fun e => by omega) hc9), if_neg (fun h => by first | (have := h.mp (by omega); omega) | (have := h.mpr (by omega); omega))]; done)) rfl rfl rfl rfl
          · refine x_iconst dX4_leastHarmBehind_53 ?_
            refine x_goto (t := 58) dX4_leastHarmBehind_54 rfl ?_
            refine x_istore dX4_leastHarmBehind_58 (Nat.le_of_ble_eq_true rfl) rfl x_set_5_4 ?_
            refine x_iload dX4_leastHarmBehind_60 x_get_5_4 ?_
            refine r_if_eq (t := 69) dX4_leastHarmBehind_62 rfl (by first | exact ⟨by omega, by omega⟩ | exact s_r hk hB (by omega) (by omega)) (fun hc62 => ?_) (fun hc62 => ?_)
            · refine x_aload_n dX4_leastHarmBehind_69 x_get_5_0 ?_
              refine x_getR dX4_leastHarmBehind_70 fX_4_40 (by assumption) (by assumption) (by rfl) ?_
              refine x_bipush dX4_leastHarmBehind_73 rfl ?_
              refine x_iload_n dX4_leastHarmBehind_75 x_get_5_1 ?_
              refine x_iadd dX4_leastHarmBehind_76 ?_
              refine x_iald dX4_leastHarmBehind_77 (by assumption) (by assumption) (by omega) (by omega) (by decide) ?_
              refine x_aload_n dX4_leastHarmBehind_78 x_get_5_0 ?_
              refine x_iload_n dX4_leastHarmBehind_79 x_get_5_2 ?_
              refine x_callS (As := [_, _]) dX4_leastHarmBehind_80 w_4_75 (c4_least hl hs hB hk hm) rfl rfl (Nat.le_of_ble_eq_true rfl) (Nat.le_of_ble_eq_true rfl) (Nat.le_of_ble_eq_true rfl) (Nat.le_of_ble_eq_true rfl) (Nat.le_of_ble_eq_true rfl) ?_
              intro d hd
              obtain rfl := Eq.symm hd
              refine r_min dX4_leastHarmBehind_83 w_4_65 (by first | exact ⟨by omega, by omega⟩ | exact s_r hk hB (by omega) (by omega)) (by first | exact ⟨by omega, by omega⟩ | exact s_r hk hB (by omega) (by omega)) (Nat.le_of_ble_eq_true rfl) (Nat.le_of_ble_eq_true rfl) (Nat.le_of_ble_eq_true rfl) (Nat.le_of_ble_eq_true rfl) ?_
              exact x_iret dX4_leastHarmBehind_86 rfl (Nat.le_of_ble_eq_true rfl) (Nat.le_of_ble_eq_true rfl) (by first
                | (rw [k_behind, if_neg (fun h => h.elim (fun e => by omega) hc9), if_pos (by constructor <;> intro _ <;> omega)]; done)
                | (rw [k_behind, if_neg (fun h => h.elim (fun e => by omega) hc9), if_neg (fun h => by first | (have := h.mp (by omega); omega) | (have := h.mpr (by omega); omega))]; done)) rfl rfl rfl rfl
            · refine x_iconst dX4_leastHarmBehind_65 ?_
              refine x_goto (t := 86) dX4_leastHarmBehind_66 rfl ?_
              exact x_iret dX4_leastHarmBehind_86 rfl (Nat.le_of_ble_eq_true rfl) (Nat.le_of_ble_eq_true rfl) (by first
                | (rw [k_behind, if_neg (fun h => h.elim (fun e => by omega) hc9), if_pos (by constructor <;> intro _ <;> omega)]; done)
                | (rw [k_behind, if_neg (fun h => h.elim (fun e => by omega) hc9), if_neg (fun h => by first | (have := h.mp (by omega); omega) | (have := h.mpr (by omega); omega))]; done)) rfl rfl rfl rfl
      · refine x_iconst dX4_leastHarmBehind_26 ?_
        refine x_goto (t := 31) dX4_leastHarmBehind_27 rfl ?_
        refine x_istore_n dX4_leastHarmBehind_31 (Nat.le_of_ble_eq_true rfl) rfl x_set_5_3 ?_
        refine x_iload_n dX4_leastHarmBehind_32 x_get_5_3 ?_
        refine x_aload_n dX4_leastHarmBehind_33 x_get_5_0 ?_
        refine x_getR dX4_leastHarmBehind_34 fX_4_40 (by assumption) (by assumption) (by rfl) ?_
        refine x_bipush dX4_leastHarmBehind_37 rfl ?_
        refine x_iload_n dX4_leastHarmBehind_39 x_get_5_1 ?_
        refine x_iadd dX4_leastHarmBehind_40 ?_
        refine x_iald dX4_leastHarmBehind_41 (by assumption) (by assumption) (by omega) (by omega) (by decide) ?_
        refine r_if_ne (t := 49) dX4_leastHarmBehind_42 rfl (by first | exact ⟨by omega, by omega⟩ | exact s_r hk hB (by omega) (by omega)) (fun hc42 => ?_) (fun hc42 => ?_)
        · refine x_iconst dX4_leastHarmBehind_49 ?_
          refine r_icmp_ne (t := 57) dX4_leastHarmBehind_50 rfl (by first | exact ⟨by omega, by omega⟩ | exact s_r hk hB (by omega) (by omega)) (by first | exact ⟨by omega, by omega⟩ | exact s_r hk hB (by omega) (by omega)) (fun hc50 => ?_) (fun hc50 => ?_)
          · refine x_iconst dX4_leastHarmBehind_57 ?_
            refine x_istore dX4_leastHarmBehind_58 (Nat.le_of_ble_eq_true rfl) rfl x_set_5_4 ?_
            refine x_iload dX4_leastHarmBehind_60 x_get_5_4 ?_
            refine r_if_eq (t := 69) dX4_leastHarmBehind_62 rfl (by first | exact ⟨by omega, by omega⟩ | exact s_r hk hB (by omega) (by omega)) (fun hc62 => ?_) (fun hc62 => ?_)
            · refine x_aload_n dX4_leastHarmBehind_69 x_get_5_0 ?_
              refine x_getR dX4_leastHarmBehind_70 fX_4_40 (by assumption) (by assumption) (by rfl) ?_
              refine x_bipush dX4_leastHarmBehind_73 rfl ?_
              refine x_iload_n dX4_leastHarmBehind_75 x_get_5_1 ?_
              refine x_iadd dX4_leastHarmBehind_76 ?_
              refine x_iald dX4_leastHarmBehind_77 (by assumption) (by assumption) (by omega) (by omega) (by decide) ?_
              refine x_aload_n dX4_leastHarmBehind_78 x_get_5_0 ?_
              refine x_iload_n dX4_leastHarmBehind_79 x_get_5_2 ?_
              refine x_callS (As := [_, _]) dX4_leastHarmBehind_80 w_4_75 (c4_least hl hs hB hk hm) rfl rfl (Nat.le_of_ble_eq_true rfl) (Nat.le_of_ble_eq_true rfl) (Nat.le_of_ble_eq_true rfl) (Nat.le_of_ble_eq_true rfl) (Nat.le_of_ble_eq_true rfl) ?_
              intro d hd
              obtain rfl := Eq.symm hd
              refine r_min dX4_leastHarmBehind_83 w_4_65 (by first | exact ⟨by omega, by omega⟩ | exact s_r hk hB (by omega) (by omega)) (by first | exact ⟨by omega, by omega⟩ | exact s_r hk hB (by omega) (by omega)) (Nat.le_of_ble_eq_true rfl) (Nat.le_of_ble_eq_true rfl) (Nat.le_of_ble_eq_true rfl) (Nat.le_of_ble_eq_true rfl) ?_
              exact x_iret dX4_leastHarmBehind_86 rfl (Nat.le_of_ble_eq_true rfl) (Nat.le_of_ble_eq_true rfl) (by first
                | (rw [k_behind, if_neg (fun h => h.elim (fun e => by omega) hc9), if_pos (by constructor <;> intro _ <;> omega)]; done)
                | (rw [k_behind, if_neg (fun h => h.elim (fun e => by omega) hc9), if_neg (fun h => by first | (have := h.mp (by omega); omega) | (have := h.mpr (by omega); omega))]; done)) rfl rfl rfl rfl
            · refine x_iconst dX4_leastHarmBehind_65 ?_
              refine x_goto (t := 86) dX4_leastHarmBehind_66 rfl ?_
              exact x_iret dX4_leastHarmBehind_86 rfl (Nat.le_of_ble_eq_true rfl) (Nat.le_of_ble_eq_true rfl) (by first
                | (rw [k_behind, if_neg (fun h => h.elim (fun e => by omega) hc9), if_pos (by constructor <;> intro _ <;> omega)]; done)
                | (rw [k_behind, if_neg (fun h => h.elim (fun e => by omega) hc9), if_neg (fun h => by first | (have := h.mp (by omega); omega) | (have := h.mpr (by omega); omega))]; done)) rfl rfl rfl rfl
          · refine x_iconst dX4_leastHarmBehind_53 ?_
            refine x_goto (t := 58) dX4_leastHarmBehind_54 rfl ?_
            refine x_istore dX4_leastHarmBehind_58 (Nat.le_of_ble_eq_true rfl) rfl x_set_5_4 ?_
            refine x_iload dX4_leastHarmBehind_60 x_get_5_4 ?_
            refine r_if_eq (t := 69) dX4_leastHarmBehind_62 rfl (by first | exact ⟨by omega, by omega⟩ | exact s_r hk hB (by omega) (by omega)) (fun hc62 => ?_) (fun hc62 => ?_)
            · refine x_aload_n dX4_leastHarmBehind_69 x_get_5_0 ?_
              refine x_getR dX4_leastHarmBehind_70 fX_4_40 (by assumption) (by assumption) (by rfl) ?_
              refine x_bipush dX4_leastHarmBehind_73 rfl ?_
              refine x_iload_n dX4_leastHarmBehind_75 x_get_5_1 ?_
              refine x_iadd dX4_leastHarmBehind_76 ?_
              refine x_iald dX4_leastHarmBehind_77 (by assumption) (by assumption) (by omega) (by omega) (by decide) ?_
              refine x_aload_n dX4_leastHarmBehind_78 x_get_5_0 ?_
              refine x_iload_n dX4_leastHarmBehind_79 x_get_5_2 ?_
              refine x_callS (As := [_, _]) dX4_leastHarmBehind_80 w_4_75 (c4_least hl hs hB hk hm) rfl rfl (Nat.le_of_ble_eq_true rfl) (Nat.le_of_ble_eq_true rfl) (Nat.le_of_ble_eq_true rfl) (Nat.le_of_ble_eq_true rfl) (Nat.le_of_ble_eq_true rfl) ?_
              intro d hd
              obtain rfl := Eq.symm hd
              refine r_min dX4_leastHarmBehind_83 w_4_65 (by first | exact ⟨by omega, by omega⟩ | exact s_r hk hB (by omega) (by omega)) (by first | exact ⟨by omega, by omega⟩ | exact s_r hk hB (by omega) (by omega)) (Nat.le_of_ble_eq_true rfl) (Nat.le_of_ble_eq_true rfl) (Nat.le_of_ble_eq_true rfl) (Nat.le_of_ble_eq_true rfl) ?_
              exact x_iret dX4_leastHarmBehind_86 rfl (Nat.le_of_ble_eq_true rfl) (Nat.le_of_ble_eq_true rfl) (by first
                | (rw [k_behind, if_neg (fun h => h.elim (fun e => by omega) hc9), if_pos (by constructor <;> intro _ <;> omega)]; done)
                | (rw [k_behind, if_neg (fun h => h.elim (fun e => by omega) hc9), if_neg (fun h => by first | (have := h.mp (by omega); omega) | (have := h.mpr (by omega); omega))]; done)) rfl rfl rfl rfl
            · refine x_iconst dX4_leastHarmBehind_65 ?_
              refine x_goto (t := 86) dX4_leastHarmBehind_66 rfl ?_
              exact x_iret dX4_leastHarmBehind_86 rfl (Nat.le_of_ble_eq_true rfl) (Nat.le_of_ble_eq_true rfl) (by first
                | (rw [k_behind, if_neg (fun h => h.elim (fun e => by omega) hc9), if_pos (by constructor <;> intro _ <;> omega)]; done)
                | (rw [k_behind, if_neg (fun h => h.elim (fun e => by omega) hc9), if_neg (fun h => by first | (have := h.mp (by omega); omega) | (have := h.mpr (by omega); omega))]; done)) rfl rfl rfl rfl
        · refine x_iconst dX4_leastHarmBehind_45 ?_
          refine x_goto (t := 50) dX4_leastHarmBehind_46 rfl ?_
          refine r_icmp_ne (t := 57) dX4_leastHarmBehind_50 rfl (by first | exact ⟨by omega, by omega⟩ | exact s_r hk hB (by omega) (by omega)) (by first | exact ⟨by omega, by omega⟩ | exact s_r hk hB (by omega) (by omega)) (fun hc50 => ?_) (fun hc50 => ?_)
          · refine x_iconst dX4_leastHarmBehind_57 ?_
            refine x_istore dX4_leastHarmBehind_58 (Nat.le_of_ble_eq_true rfl) rfl x_set_5_4 ?_
            refine x_iload dX4_leastHarmBehind_60 x_get_5_4 ?_
            refine r_if_eq (t := 69) dX4_leastHarmBehind_62 rfl (by first | exact ⟨by omega, by omega⟩ | exact s_r hk hB (by omega) (by omega)) (fun hc62 => ?_) (fun hc62 => ?_)
            · refine x_aload_n dX4_leastHarmBehind_69 x_get_5_0 ?_
              refine x_getR dX4_leastHarmBehind_70 fX_4_40 (by assumption) (by assumption) (by rfl) ?_
              refine x_bipush dX4_leastHarmBehind_73 rfl ?_
              refine x_iload_n dX4_leastHarmBehind_75 x_get_5_1 ?_
              refine x_iadd dX4_leastHarmBehind_76 ?_
              refine x_iald dX4_leastHarmBehind_77 (by assumption) (by assumption) (by omega) (by omega) (by decide) ?_
              refine x_aload_n dX4_leastHarmBehind_78 x_get_5_0 ?_
              refine x_iload_n dX4_leastHarmBehind_79 x_get_5_2 ?_
              refine x_callS (As := [_, _]) dX4_leastHarmBehind_80 w_4_75 (c4_least hl hs hB hk hm) rfl rfl (Nat.le_of_ble_eq_true rfl) (Nat.le_of_ble_eq_true rfl) (Nat.le_of_ble_eq_true rfl) (Nat.le_of_ble_eq_true rfl) (Nat.le_of_ble_eq_true rfl) ?_
              intro d hd
              obtain rfl := Eq.symm hd
              refine r_min dX4_leastHarmBehind_83 w_4_65 (by first | exact ⟨by omega, by omega⟩ | exact s_r hk hB (by omega) (by omega)) (by first | exact ⟨by omega, by omega⟩ | exact s_r hk hB (by omega) (by omega)) (Nat.le_of_ble_eq_true rfl) (Nat.le_of_ble_eq_true rfl) (Nat.le_of_ble_eq_true rfl) (Nat.le_of_ble_eq_true rfl) ?_
              exact x_iret dX4_leastHarmBehind_86 rfl (Nat.le_of_ble_eq_true rfl) (Nat.le_of_ble_eq_true rfl) (by first
                | (rw [k_behind, if_neg (fun h => h.elim (fun e => by omega) hc9), if_pos (by constructor <;> intro _ <;> omega)]; done)
                | (rw [k_behind, if_neg (fun h => h.elim (fun e => by omega) hc9), if_neg (fun h => by first | (have := h.mp (by omega); omega) | (have := h.mpr (by omega); omega))]; done)) rfl rfl rfl rfl
            · refine x_iconst dX4_leastHarmBehind_65 ?_
              refine x_goto (t := 86) dX4_leastHarmBehind_66 rfl ?_
              exact x_iret dX4_leastHarmBehind_86 rfl (Nat.le_of_ble_eq_true rfl) (Nat.le_of_ble_eq_true rfl) (by first
                | (rw [k_behind, if_neg (fun h => h.elim (fun e => by omega) hc9), if_pos (by constructor <;> intro _ <;> omega)]; done)
                | (rw [k_behind, if_neg (fun h => h.elim (fun e => by omega) hc9), if_neg (fun h => by first | (have := h.mp (by omega); omega) | (have := h.mpr (by omega); omega))]; done)) rfl rfl rfl rfl
          · refine x_iconst dX4_leastHarmBehind_53 ?_
            refine x_goto (t := 58) dX4_leastHarmBehind_54 rfl ?_
            refine x_istore dX4_leastHarmBehind_58 (Nat.le_of_ble_eq_true rfl) rfl x_set_5_4 ?_
            refine x_iload dX4_leastHarmBehind_60 x_get_5_4 ?_
            refine r_if_eq (t := 69) dX4_leastHarmBehind_62 rfl (by first | exact ⟨by omega, by omega⟩ | exact s_r hk hB (by omega) (by omega)) (fun hc62 => ?_) (fun hc62 => ?_)
            · refine x_aload_n dX4_leastHarmBehind_69 x_get_5_0 ?_
              refine x_getR dX4_leastHarmBehind_70 fX_4_40 (by assumption) (by assumption) (by rfl) ?_
              refine x_bipush dX4_leastHarmBehind_73 rfl ?_
              refine x_iload_n dX4_leastHarmBehind_75 x_get_5_1 ?_
              refine x_iadd dX4_leastHarmBehind_76 ?_
              refine x_iald dX4_leastHarmBehind_77 (by assumption) (by assumption) (by omega) (by omega) (by decide) ?_
              refine x_aload_n dX4_leastHarmBehind_78 x_get_5_0 ?_
              refine x_iload_n dX4_leastHarmBehind_79 x_get_5_2 ?_
              refine x_callS (As := [_, _]) dX4_leastHarmBehind_80 w_4_75 (c4_least hl hs hB hk hm) rfl rfl (Nat.le_of_ble_eq_true rfl) (Nat.le_of_ble_eq_true rfl) (Nat.le_of_ble_eq_true rfl) (Nat.le_of_ble_eq_true rfl) (Nat.le_of_ble_eq_true rfl) ?_
              intro d hd
              obtain rfl := Eq.symm hd
              refine r_min dX4_leastHarmBehind_83 w_4_65 (by first | exact ⟨by omega, by omega⟩ | exact s_r hk hB (by omega) (by omega)) (by first | exact ⟨by omega, by omega⟩ | exact s_r hk hB (by omega) (by omega)) (Nat.le_of_ble_eq_true rfl) (Nat.le_of_ble_eq_true rfl) (Nat.le_of_ble_eq_true rfl) (Nat.le_of_ble_eq_true rfl) ?_
              exact x_iret dX4_leastHarmBehind_86 rfl (Nat.le_of_ble_eq_true rfl) (Nat.le_of_ble_eq_true rfl) (by first
                | (rw [k_behind, if_neg (fun h => h.elim (fun e => by omega) hc9), if_pos (by constructor <;> intro _ <;> omega)]; done)
                | (rw [k_behind, if_neg (fun h => h.elim (fun e => by omega) hc9), if_neg (fun h => by first | (have := h.mp (by omega); omega) | (have := h.mpr (by omega); omega))]; done)) rfl rfl rfl rfl
            · refine x_iconst dX4_leastHarmBehind_65 ?_
              refine x_goto (t := 86) dX4_leastHarmBehind_66 rfl ?_
              exact x_iret dX4_leastHarmBehind_86 rfl (Nat.le_of_ble_eq_true rfl) (Nat.le_of_ble_eq_true rfl) (by first
                | (rw [k_behind, if_neg (fun h => h.elim (fun e => by omega) hc9), if_pos (by constructor <;> intro _ <;> omega)]; done)
                | (rw [k_behind, if_neg (fun h => h.elim (fun e => by omega) hc9), if_neg (fun h => by first | (have := h.mp (by omega); omega) | (have := h.mpr (by omega); omega))]; done)) rfl rfl rfl rfl
    · refine x_aload_n dX4_leastHarmBehind_12 x_get_5_0 ?_
      refine x_iload_n dX4_leastHarmBehind_13 x_get_5_2 ?_
      refine x_callS (As := [_, _]) dX4_leastHarmBehind_14 w_4_78 (c4_harm hl hs hB hk hm) rfl rfl (Nat.le_of_ble_eq_true rfl) (Nat.le_of_ble_eq_true rfl) (Nat.le_of_ble_eq_true rfl) (Nat.le_of_ble_eq_true rfl) (Nat.le_of_ble_eq_true rfl) ?_
      intro d hd
      obtain rfl := Eq.symm hd
      exact x_iret dX4_leastHarmBehind_17 rfl (Nat.le_of_ble_eq_true rfl) (Nat.le_of_ble_eq_true rfl) (by rw [k_behind, if_pos (by first | exact Or.inr hc9 | exact Or.inl (by omega))]) rfl rfl rfl rfl
theorem c4_follow {X : xC} {l : Launch} (hl : l.stackTraces = false) {N : Nat} {sh : xS} {D : xM} {r a : Nat} (hs : is_St N sh r a) {B : Int} (hB : B ≤ 1000000) (hk : s_ok B (D a)) {m : Nat} (hm : m < 1024) {last al : Int} (hl0 : -1 ≤ last) (hl1 : last < 10) (ha0 : -1000 ≤ al) (ha1 : al ≤ 1000) : x_M X l yX4_followingInHold cX4_followingInHold 6 (some .int) 5 0 0 [.ref (x_b X + r), .int (xI m), .int (xI last), .int (xI al)] false N sh D (.inl (some (.int (xI (k_follow (D a) m last al))))) false N sh (x_is (D)) := by
  obtain ⟨hrN, hr, haN, ha⟩ := id hs
  refine x_ofW (by decide +kernel) hl (by simp [Value.category]) (by simp) ?_
  have hloop : ∀ i : Nat, i ≤ 10 → (∀ j : Nat, j < i → ¬ (m.testBit j = true ∧ k_last (D a) last ((j : Nat) : Int) + k_behind (D a) ((j : Nat) : Int) (b_sub m (2 ^ j)) ≤ al)) → x_W (X, l, yX4_followingInHold, cX4_followingInHold, 6, some .int, x_room 5 0 0, 0, 0, (.inl (some (.int (xI (k_follow (D a) m last al))))), N, sh, (x_is (D)), false, []) 3 [some (.ref (x_b X + r)), some (.int (xI m)), some (.int (xI last)), some (.int (xI al)), some (.int (xI i)), none] [] 0 0 false N sh D := by
    refine x_down 10 ?_ ?_
    · intro hp
      refine x_iload dX4_followingInHold_3 x_get_6_4 ?_
      refine x_bipush dX4_followingInHold_5 rfl ?_
      refine r_icmp_ge (t := 67) dX4_followingInHold_7 rfl ⟨by omega, by omega⟩ ⟨by omega, by omega⟩ (fun hc7 => ?_) (fun hc7 => absurd hc7 (by omega))
      refine x_iconst dX4_followingInHold_67 ?_
      exact x_iret dX4_followingInHold_68 rfl (Nat.le_of_ble_eq_true rfl) (Nat.le_of_ble_eq_true rfl) (by rw [k_follow, x_first_none hp]) rfl rfl rfl rfl
    · intro i hi ih hp
      have nx : ¬ (m.testBit i = true ∧ k_last (D a) last ((i : Nat) : Int) + k_behind (D a) ((i : Nat) : Int) (b_sub m (2 ^ i)) ≤ al) → x_W (X, l, yX4_followingInHold, cX4_followingInHold, 6, some .int, x_room 5 0 0, 0, 0, (.inl (some (.int (xI (k_follow (D a) m last al))))), N, sh, (x_is (D)), false, []) 61 [some (.ref (x_b X + r)), some (.int (xI m)), some (.int (xI last)), some (.int (xI al)), some (.int (xI i)), none] [] 0 0 false N sh D := by
        intro hn
        refine x_iinc dX4_followingInHold_61 x_get_6_4 (Nat.le_of_ble_eq_true rfl) rfl x_set_6_4 ?_
        refine x_goto (t := 3) dX4_followingInHold_64 rfl ?_
        refine ih (fun j hj => ?_)
        by_cases h : j = i
        · rw [h]; exact hn
        · exact hp j (by omega)
      have hbh := k_behind_in hk (c := (i : Int)) (by omega) (by omega) (b_sub m (2 ^ i))
      have hla : 0 ≤ k_last (D a) last i ∧ k_last (D a) last i ≤ 99 := by
        unfold k_last
        split
        · decide
        · exact k_btw_in hk (by omega) hl1 (by omega) (by omega)
      have tl : m.testBit i = true → x_W (X, l, yX4_followingInHold, cX4_followingInHold, 6, some .int, x_room 5 0 0, 0, 0, (.inl (some (.int (xI (k_follow (D a) m last al))))), N, sh, (x_is (D)), false, []) 35 [some (.ref (x_b X + r)), some (.int (xI m)), some (.int (xI last)), some (.int (xI al)), some (.int (xI i)), none] [.int (xI (k_last (D a) last i))] 0 0 false N sh D := by
        intro ht
        refine x_istore dX4_followingInHold_35 (Nat.le_of_ble_eq_true rfl) rfl x_set_6_5 ?_
        refine x_iload dX4_followingInHold_37 x_get_6_5 ?_
        refine x_aload_n dX4_followingInHold_39 x_get_6_0 ?_
        refine x_iload dX4_followingInHold_40 x_get_6_4 ?_
        refine x_iload_n dX4_followingInHold_42 x_get_6_1 ?_
        refine x_iconst dX4_followingInHold_43 ?_
        refine x_iload dX4_followingInHold_44 x_get_6_4 ?_
        refine x_ishl dX4_followingInHold_46 ?_
        refine x_as_is (x_sl1 i (by omega)) ?_
        refine x_iconst dX4_followingInHold_47 ?_
        refine x_ixor dX4_followingInHold_48 ?_
        refine x_iand dX4_followingInHold_49 ?_
        refine x_as_is (b_not (by omega)) ?_
        refine x_callS (As := [_, _, _]) dX4_followingInHold_50 w_4_88 (c4_behind hl hs hB hk (c := (i : Int)) (by omega) (by omega) (Nat.lt_of_le_of_lt b_sub_le hm)) rfl rfl (Nat.le_of_ble_eq_true rfl) (Nat.le_of_ble_eq_true rfl) (Nat.le_of_ble_eq_true rfl) (Nat.le_of_ble_eq_true rfl) (Nat.le_of_ble_eq_true rfl) ?_
        intro d hd
        obtain rfl := Eq.symm hd
        refine x_iadd dX4_followingInHold_53 ?_
        refine x_iload_n dX4_followingInHold_54 x_get_6_3 ?_
        refine r_icmp_gt (t := 61) dX4_followingInHold_55 rfl ⟨by omega, by omega⟩ ⟨by omega, by omega⟩ (fun hc55 => ?_) (fun hc55 => ?_)
        · refine x_forget 5 ?_
          exact nx (fun h => by have := h.2; omega)
        · refine x_iload dX4_followingInHold_58 x_get_6_4 ?_
          exact x_iret dX4_followingInHold_60 rfl (Nat.le_of_ble_eq_true rfl) (Nat.le_of_ble_eq_true rfl) (by rw [k_follow, x_first_hit hp ⟨ht, hc55⟩ hi]) rfl rfl rfl rfl
      refine x_iload dX4_followingInHold_3 x_get_6_4 ?_
      refine x_bipush dX4_followingInHold_5 rfl ?_
      refine r_icmp_ge (t := 67) dX4_followingInHold_7 rfl (by first | exact ⟨by omega, by omega⟩ | exact s_r hk hB (by omega) (by omega)) (by first | exact ⟨by omega, by omega⟩ | exact s_r hk hB (by omega) (by omega)) (fun hc7 => absurd hc7 (by omega)) (fun hc7 => ?_)
      refine x_iload_n dX4_followingInHold_10 x_get_6_1 ?_
      refine x_iconst dX4_followingInHold_11 ?_
      refine x_iload dX4_followingInHold_12 x_get_6_4 ?_
      refine x_ishl dX4_followingInHold_14 ?_
      refine x_iand dX4_followingInHold_15 ?_
      refine x_as_is (b_and hm (by omega)) ?_
      refine r_if_eq (t := 61) dX4_followingInHold_16 rfl ⟨by omega, by have := @Nat.and_le_left m (2 ^ i); omega⟩ (fun hc16 => ?_) (fun hc16 => ?_)
      · exact nx (fun h => by rw [b_t.mp hc16] at h; exact absurd h.1 (by decide))
      · refine x_iload_n dX4_followingInHold_19 x_get_6_2 ?_
        refine x_iconst dX4_followingInHold_20 ?_
        refine r_icmp_ne (t := 28) dX4_followingInHold_21 rfl (by first | exact ⟨by omega, by omega⟩ | exact s_r hk hB (by omega) (by omega)) (by first | exact ⟨by omega, by omega⟩ | exact s_r hk hB (by omega) (by omega)) (fun hc21 => ?_) (fun hc21 => ?_)
        · refine x_aload_n dX4_followingInHold_28 x_get_6_0 ?_
          refine x_iload_n dX4_followingInHold_29 x_get_6_2 ?_
          refine x_iload dX4_followingInHold_30 x_get_6_4 ?_
          refine x_callS (As := [_, _, _]) dX4_followingInHold_32 w_4_85 (c4_btw hl hs hB hk (by omega) hl1 (by omega) (by omega)) rfl rfl (Nat.le_of_ble_eq_true rfl) (Nat.le_of_ble_eq_true rfl) (Nat.le_of_ble_eq_true rfl) (Nat.le_of_ble_eq_true rfl) (Nat.le_of_ble_eq_true rfl) ?_
          intro d hd
          obtain rfl := Eq.symm hd
          refine x_as_is (b := k_last (D a) last i) (by first | (rw [k_last, if_pos (by omega)]; done) | (rw [k_last, if_neg (by omega)]; done)) ?_
          exact tl (by have := mt b_t.mpr hc16; simpa using this)
        · refine x_iconst dX4_followingInHold_24 ?_
          refine x_goto (t := 35) dX4_followingInHold_25 rfl ?_
          refine x_as_is (b := k_last (D a) last i) (by first | (rw [k_last, if_pos (by omega)]; done) | (rw [k_last, if_neg (by omega)]; done)) ?_
          exact tl (by have := mt b_t.mpr hc16; simpa using this)
  refine x_iconst dX4_followingInHold_0 ?_
  refine x_istore dX4_followingInHold_1 (Nat.le_of_ble_eq_true rfl) rfl x_set_6_4 ?_
  exact hloop 0 (Nat.zero_le _) (fun j hj => by omega)
theorem c4_hold {X : xC} {l : Launch} (hl : l.stackTraces = false) {N : Nat} {sh : xS} {D : xM} {r a : Nat} (hs : is_St N sh r a) {B : Int} (hB : B ≤ 1000000) (hk : s_ok B (D a)) {m : Nat} (hm : m < 1024) {i : Nat} (hi : i < 10) : x_M X l yX4_inHold cX4_inHold 8 (some .int) 6 0 0 [.ref (x_b X + r), .int (xI m), .int (xI i)] false N sh D (.inl (some (.int (xI (k_holdn (D a) (i + 1) m (k_harm (D a) m) (-1)))))) false N sh (x_is (D)) := by
  obtain ⟨hrN, hr, haN, ha⟩ := id hs
  refine x_ofW (by decide +kernel) hl (by simp [Value.category]) (by simp) ?_
  have hha := k_harm_in hk m
  have hloop : ∀ k : Nat, k ≤ i + 1 → ∀ (rest : Nat) (al last : Int), rest < 1024 → -99 * k ≤ al → al ≤ 99 → -1 ≤ last → last < 10 → k_holdn (D a) (i + 1 - k) rest al last = k_holdn (D a) (i + 1) m (k_harm (D a) m) (-1) → x_W (X, l, yX4_inHold, cX4_inHold, 8, some .int, x_room 6 0 0, 0, 0, (.inl (some (.int (xI (k_holdn (D a) (i + 1) m (k_harm (D a) m) (-1)))))), N, sh, (x_is (D)), false, []) 15 [some (.ref (x_b X + r)), some (.int (xI m)), some (.int (xI i)), some (.int (xI rest)), some (.int (xI al)), some (.int (xI last)), some (.int (xI k)), none] [] 0 0 false N sh D := by
    refine x_down (i + 1) ?_ ?_
    · intro rest al last h1 h2 h3 h4 h5 hw
      rw [Nat.sub_self] at hw
      refine x_iload dX4_inHold_15 x_get_8_6 ?_
      refine x_iload_n dX4_inHold_17 x_get_8_2 ?_
      refine r_icmp_gt (t := 82) dX4_inHold_18 rfl ⟨by omega, by omega⟩ ⟨by omega, by omega⟩ (fun hc18 => ?_) (fun hc18 => absurd hc18 (by omega))
      refine x_iload dX4_inHold_82 x_get_8_5 ?_
      exact x_iret dX4_inHold_84 rfl (Nat.le_of_ble_eq_true rfl) (Nat.le_of_ble_eq_true rfl) (by rw [← hw]; rfl) rfl rfl rfl rfl
    · intro k hk2 ih rest al last h1 h2 h3 h4 h5 hw
      rw [show i + 1 - k = (i + 1 - (k + 1)) + 1 by omega, k_holdn] at hw
      have hfo : -1 ≤ k_follow (D a) rest last al ∧ k_follow (D a) rest last al < 10 := x_first_in _ 10
      have hla : ¬ k_follow (D a) rest last al = -1 → 0 ≤ k_last (D a) last (k_follow (D a) rest last al) ∧ k_last (D a) last (k_follow (D a) rest last al) ≤ 99 := by
        intro hne
        unfold k_last
        split
        · decide
        · exact k_btw_in hk (by omega) h5 (by omega) (by omega)
      have tl : ¬ k_follow (D a) rest last al = -1 → x_W (X, l, yX4_inHold, cX4_inHold, 8, some .int, x_room 6 0 0, 0, 0, (.inl (some (.int (xI (k_holdn (D a) (i + 1) m (k_harm (D a) m) (-1)))))), N, sh, (x_is (D)), false, []) 60 [some (.ref (x_b X + r)), some (.int (xI m)), some (.int (xI i)), some (.int (xI rest)), some (.int (xI al)), some (.int (xI last)), some (.int (xI k)), some (.int (xI (k_follow (D a) rest last al)))] [.int (xI (k_last (D a) last (k_follow (D a) rest last al))), .int (xI al)] 0 0 false N sh D := by
        intro hne
        rw [if_neg hne] at hw
        have hlb := hla hne
        refine x_isub dX4_inHold_60 ?_
        refine x_istore dX4_inHold_61 (Nat.le_of_ble_eq_true rfl) rfl x_set_8_4 ?_
        refine x_iload_n dX4_inHold_63 x_get_8_3 ?_
        refine x_iconst dX4_inHold_64 ?_
        refine x_iload dX4_inHold_65 x_get_8_7 ?_
        refine x_ishl dX4_inHold_67 ?_
        refine x_as_is (x_sl1z (by omega) (by omega)) ?_
        refine x_iconst dX4_inHold_68 ?_
        refine x_ixor dX4_inHold_69 ?_
        refine x_iand dX4_inHold_70 ?_
        refine x_as_is (b_not (by omega)) ?_
        refine x_istore_n dX4_inHold_71 (Nat.le_of_ble_eq_true rfl) rfl x_set_8_3 ?_
        refine x_iload dX4_inHold_72 x_get_8_7 ?_
        refine x_istore dX4_inHold_74 (Nat.le_of_ble_eq_true rfl) rfl x_set_8_5 ?_
        refine x_iinc dX4_inHold_76 x_get_8_6 (Nat.le_of_ble_eq_true rfl) rfl x_set_8_6 ?_
        refine x_goto (t := 15) dX4_inHold_79 rfl ?_
        refine x_forget 7 ?_
        exact ih _ _ _ (Nat.lt_of_le_of_lt b_sub_le h1) (by push_cast; omega) (by omega) (by omega) (by omega) hw
      refine x_iload dX4_inHold_15 x_get_8_6 ?_
      refine x_iload_n dX4_inHold_17 x_get_8_2 ?_
      refine r_icmp_gt (t := 82) dX4_inHold_18 rfl ⟨by omega, by omega⟩ ⟨by omega, by omega⟩ (fun hc18 => absurd hc18 (by omega)) (fun hc18 => ?_)
      refine x_aload_n dX4_inHold_21 x_get_8_0 ?_
      refine x_iload_n dX4_inHold_22 x_get_8_3 ?_
      refine x_iload dX4_inHold_23 x_get_8_5 ?_
      refine x_iload dX4_inHold_25 x_get_8_4 ?_
      refine x_callS (As := [_, _, _, _]) dX4_inHold_27 w_4_81 (c4_follow hl hs hB hk h1 h4 h5 (by omega) (by omega)) rfl rfl (Nat.le_of_ble_eq_true rfl) (Nat.le_of_ble_eq_true rfl) (Nat.le_of_ble_eq_true rfl) (Nat.le_of_ble_eq_true rfl) (Nat.le_of_ble_eq_true rfl) ?_
      intro d hd
      obtain rfl := Eq.symm hd
      refine x_istore dX4_inHold_30 (Nat.le_of_ble_eq_true rfl) rfl x_set_8_7 ?_
      refine x_iload dX4_inHold_32 x_get_8_7 ?_
      refine x_iconst dX4_inHold_34 ?_
      refine r_icmp_ne (t := 40) dX4_inHold_35 rfl ⟨by omega, by omega⟩ ⟨by omega, by omega⟩ (fun hc35 => ?_) (fun hc35 => ?_)
      · refine x_iload dX4_inHold_40 x_get_8_4 ?_
        refine x_iload dX4_inHold_42 x_get_8_5 ?_
        refine x_iconst dX4_inHold_44 ?_
        refine r_icmp_ne (t := 52) dX4_inHold_45 rfl ⟨by omega, by omega⟩ ⟨by omega, by omega⟩ (fun hc45 => ?_) (fun hc45 => ?_)
        · refine x_aload_n dX4_inHold_52 x_get_8_0 ?_
          refine x_iload dX4_inHold_53 x_get_8_5 ?_
          refine x_iload dX4_inHold_55 x_get_8_7 ?_
          refine x_callS (As := [_, _, _]) dX4_inHold_57 w_4_85 (c4_btw hl hs hB hk (by omega) h5 (by omega) (by omega)) rfl rfl (Nat.le_of_ble_eq_true rfl) (Nat.le_of_ble_eq_true rfl) (Nat.le_of_ble_eq_true rfl) (Nat.le_of_ble_eq_true rfl) (Nat.le_of_ble_eq_true rfl) ?_
          intro d hd
          obtain rfl := Eq.symm hd
          refine x_as_is (b := k_last (D a) last (k_follow (D a) rest last al)) (by first | (rw [k_last, if_pos (by omega)]; done) | (rw [k_last, if_neg (by omega)]; done)) ?_
          exact tl hc35
        · refine x_iconst dX4_inHold_48 ?_
          refine x_goto (t := 60) dX4_inHold_49 rfl ?_
          refine x_as_is (b := k_last (D a) last (k_follow (D a) rest last al)) (by first | (rw [k_last, if_pos (by omega)]; done) | (rw [k_last, if_neg (by omega)]; done)) ?_
          exact tl hc35
      · refine x_iconst dX4_inHold_38 ?_
        exact x_iret dX4_inHold_39 rfl (Nat.le_of_ble_eq_true rfl) (Nat.le_of_ble_eq_true rfl) (by rw [if_pos hc35] at hw; rw [← hw]) rfl rfl rfl rfl
  refine x_iload_n dX4_inHold_0 x_get_8_1 ?_
  refine x_istore_n dX4_inHold_1 (Nat.le_of_ble_eq_true rfl) rfl x_set_8_3 ?_
  refine x_aload_n dX4_inHold_2 x_get_8_0 ?_
  refine x_iload_n dX4_inHold_3 x_get_8_1 ?_
  refine x_callS (As := [_, _]) dX4_inHold_4 w_4_78 (c4_harm hl hs hB hk hm) rfl rfl (Nat.le_of_ble_eq_true rfl) (Nat.le_of_ble_eq_true rfl) (Nat.le_of_ble_eq_true rfl) (Nat.le_of_ble_eq_true rfl) (Nat.le_of_ble_eq_true rfl) ?_
  intro d hd
  obtain rfl := Eq.symm hd
  refine x_istore dX4_inHold_7 (Nat.le_of_ble_eq_true rfl) rfl x_set_8_4 ?_
  refine x_iconst dX4_inHold_9 ?_
  refine x_istore dX4_inHold_10 (Nat.le_of_ble_eq_true rfl) rfl x_set_8_5 ?_
  refine x_iconst dX4_inHold_12 ?_
  refine x_istore dX4_inHold_13 (Nat.le_of_ble_eq_true rfl) rfl x_set_8_6 ?_
  exact hloop 0 (Nat.zero_le _) m _ _ hm (by omega) (by omega) (by omega) (by omega) rfl
end C40
