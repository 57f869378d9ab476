section XU
variable {Z : x_Z} {pc : Nat} {L : List (Option Value)} {st : List Value} {k n : Nat} {g : Bool} {N : Nat} {sh : xS} {D : xM}
theorem x_ialdU {q len : Nat} {i : Int} {f : Int → Int} (hd : decode (z_c Z) pc = .ok (.iaload, 1)) (hq : q < N) (hs : sh q = .inl (0, len)) (h0 : 0 ≤ i) (h1 : i < len) (hb : len ≤ 2147483647) (kk : x_W Z (pc + 1) L (.int (xI (f i)) :: st) k n g N sh (x_up D q f)) : x_W Z pc L (.int (xI i) :: .ref (x_b (z_X Z) + q) :: st) k n g N sh (x_up D q f) := x_iald hd hq hs h0 h1 hb (by rw [x_up_s]; exact kk)
theorem x_iastU {q len : Nat} {i v : Int} {f : Int → Int} (hd : decode (z_c Z) pc = .ok (.iastore, 1)) (hq : q < N) (hs : sh q = .inl (0, len)) (h0 : 0 ≤ i) (h1 : i < len) (hb : len ≤ 2147483647) (kk : x_W Z (pc + 1) L st k n g N sh (x_up D q (x_u1 f i v))) : x_W Z pc L (.int (xI v) :: .int (xI i) :: .ref (x_b (z_X Z) + q) :: st) k n g N sh (x_up D q f) := x_iast hd hq hs h0 h1 hb (by rw [x_up_s, x_up_up]; exact kk)

/-- just these cells -/
abbrev x_is (D' : xM) : xM → Prop := fun d => d = D'
end XU
/-! ===== what is meant: a state's row of cells ===== -/
section SP
def x_sum (f : Int → Int) : Nat → Int
  | 0 => 0
  | n + 1 => x_sum f n + f n
abbrev s_gone (f : Int → Int) (c : Int) : Prop := f (55 + c) = -1
abbrev s_mov (f : Int → Int) (c : Int) : Prop := 0 < f (65 + c)
abbrev s_lies (f : Int → Int) (c : Int) : Prop := ¬ f (55 + c) = -1 ∧ ¬ 0 < f (65 + c)
abbrev s_in (f : Int → Int) (t c : Int) : Prop := f (55 + c) = t ∧ f (65 + c) = 0
def s_add (f : Int → Int) (c q : Int) : Int → Int := x_u1 f c (min 9999 (f c + q))
def s_lose (f : Int → Int) (c : Int) : Int → Int := x_u1 (x_u1 (x_u1 f (25 + c) 0) (55 + c) (-1)) (65 + c) 0
def s_come (f : Int → Int) (c : Int) : Int := if f (45 + c) = 1 then f (25 + c) else max 0 (f (25 + c) - f (65 + c) * f (75 + c))
def s_steal (f : Int → Int) (c : Int) : Int → Int := if s_lies f c then s_lose f c else f
def s_opn (f : Int → Int) (c : Int) : Int → Int := s_lose (s_add f ((if f (35 + c) = 1 then 9 else 1) + f (55 + c)) (f (25 + c))) c
def s_pour (f : Int → Int) (c d : Int) : Int → Int := s_lose (if f (35 + c) = f (35 + d) then x_u1 f (25 + c) (min 99 (f (25 + c) + f (25 + d)))
  else x_u1 (x_u1 f (25 + c) (if 0 ≤ f (25 + c) - f (25 + d) then f (25 + c) - f (25 + d) else 0 - (f (25 + c) - f (25 + d)))) (35 + c) (if f (25 + c) < f (25 + d) then f (35 + d) else f (35 + c))) d
def s_sh (f : Int → Int) (u v : Int) : Nat → Int → Int
  | 0 => f
  | n + 1 => x_u1 (x_u1 (s_sh f u v n) (1 + n) u) (9 + n) v
def s_share (f : Int → Int) (T : Nat) : Int → Int := s_sh f (x_sum (fun i => f (1 + i)) T / T) (x_sum (fun i => f (9 + i)) T / T) T
def s_mv1 (f : Int → Int) (c : Int) : Int → Int := if 0 < f (65 + c) then (fun g : Int → Int => x_u1 g (65 + c) (g (65 + c) - 1)) (if f (45 + c) = 0 then x_u1 f (25 + c) (max 0 (f (25 + c) - f (75 + c))) else f) else f
def s_mv (f : Int → Int) : Nat → Int → Int
  | 0 => f
  | n + 1 => s_mv1 (s_mv f n) n
def s_evn (f : Int → Int) (t : Int) : Int → Int := (fun g : Int → Int => x_u1 g (9 + t) (g (9 + t) - min (f (1 + t)) (f (9 + t)))) (x_u1 f (1 + t) (f (1 + t) - min (f (1 + t)) (f (9 + t))))
def s_win (f : Int → Int) (t k : Int) : Int → Int := (fun g : Int → Int => x_u1 g (1 + t) (max 0 (g (1 + t) - k))) (x_u1 f (17 + t) (f (17 + t) + k))
def s_los (f : Int → Int) (t k : Int) : Int → Int := s_add (x_u1 f (17 + t) (f (17 + t) - k)) (1 + t) (k / 2)
def s_stl (f : Int → Int) (t k : Int) (w : Prop) [Decidable w] : Int → Int := s_evn (if w then s_win f t k else s_los f t k) t
/-- what a row's cell may hold -/
def s_okv (B i v : Int) : Prop := (i = 0 → 0 ≤ v ∧ v ≤ B) ∧ (1 ≤ i → i < 17 → 0 ≤ v ∧ v ≤ 9999) ∧ (17 ≤ i → i < 25 → -B ≤ v ∧ v ≤ B) ∧ (25 ≤ i → i < 35 → 0 ≤ v ∧ v ≤ 99) ∧ (35 ≤ i → i < 55 → v = 0 ∨ v = 1) ∧ (55 ≤ i → i < 65 → -1 ≤ v ∧ v ≤ 7) ∧ (65 ≤ i → i < 85 → 0 ≤ v ∧ v ≤ 9)
def s_ok (B : Int) (f : Int → Int) : Prop := ∀ i, s_okv B i (f i)
theorem s_ok_u1 {B i v : Int} {f : Int → Int} (h : s_ok B f) (hv : s_okv B i v) : s_ok B (x_u1 f i v) := by
  intro j
  by_cases hj : j = i
  · subst hj; rw [x_u1_s]; exact hv
  · rw [x_u1_n hj]; exact h j
theorem s_okv_le {B B' i v : Int} (hB : B ≤ B') (h : s_okv B i v) : s_okv B' i v := by
  obtain ⟨h0, h1, h2, h3⟩ := h
  exact ⟨fun a => by have := h0 a; omega, h1, fun a b => by have := h2 a b; omega, h3⟩
theorem s_ok_le {B B' : Int} {f : Int → Int} (hB : B ≤ B') (h : s_ok B f) : s_ok B' f := fun i => s_okv_le hB (h i)
theorem s_r {B i : Int} {f : Int → Int} (h : s_ok B f) (hB : B ≤ 1000000) (h0 : 0 ≤ i) (h1 : i < 85) : x_r (f i) := by
  obtain ⟨a0, a1, a2, a3, a4, a5, a6⟩ := h i
  by_cases c0 : i = 0
  · have := a0 c0; exact ⟨by omega, by omega⟩
  by_cases c1 : i < 17
  · have := a1 (by omega) c1; exact ⟨by omega, by omega⟩
  by_cases c2 : i < 25
  · have := a2 (by omega) c2; exact ⟨by omega, by omega⟩
  by_cases c3 : i < 35
  · have := a3 (by omega) c3; exact ⟨by omega, by omega⟩
  by_cases c4 : i < 55
  · rcases a4 (by omega) c4 with e | e <;> (rw [e]; exact ⟨by decide, by decide⟩)
  by_cases c5 : i < 65
  · have := a5 (by omega) c5; exact ⟨by omega, by omega⟩
  · have := a6 (by omega) h1; exact ⟨by omega, by omega⟩
theorem s_cr {B c : Int} {f : Int → Int} (h : s_ok B f) (h0 : 0 ≤ c) (h1 : c < 10) : (0 ≤ f (25 + c) ∧ f (25 + c) ≤ 99) ∧ (f (35 + c) = 0 ∨ f (35 + c) = 1) ∧ (f (45 + c) = 0 ∨ f (45 + c) = 1) ∧ (-1 ≤ f (55 + c) ∧ f (55 + c) ≤ 7) ∧ (0 ≤ f (65 + c) ∧ f (65 + c) ≤ 9) ∧ (0 ≤ f (75 + c) ∧ f (75 + c) ≤ 9) := by
  obtain ⟨-, -, -, a1, -, -, -⟩ := h (25 + c)
  obtain ⟨-, -, -, -, a2, -, -⟩ := h (35 + c)
  obtain ⟨-, -, -, -, a3, -, -⟩ := h (45 + c)
  obtain ⟨-, -, -, -, -, a4, -⟩ := h (55 + c)
  obtain ⟨-, -, -, -, -, -, a5⟩ := h (65 + c)
  obtain ⟨-, -, -, -, -, -, a6⟩ := h (75 + c)
  exact ⟨a1 (by omega) (by omega), a2 (by omega) (by omega), a3 (by omega) (by omega), a4 (by omega) (by omega), a5 (by omega) (by omega), a6 (by omega) (by omega)⟩
theorem s_tn {B t : Int} {f : Int → Int} (h : s_ok B f) (h0 : 0 ≤ t) (h1 : t < 8) : (0 ≤ f (1 + t) ∧ f (1 + t) ≤ 9999) ∧ (0 ≤ f (9 + t) ∧ f (9 + t) ≤ 9999) ∧ (-B ≤ f (17 + t) ∧ f (17 + t) ≤ B) := by
  obtain ⟨-, a1, -, -, -, -, -⟩ := h (1 + t)
  obtain ⟨-, a2, -, -, -, -, -⟩ := h (9 + t)
  obtain ⟨-, -, a3, -, -, -, -⟩ := h (17 + t)
  exact ⟨a1 (by omega) (by omega), a2 (by omega) (by omega), a3 (by omega) (by omega)⟩
theorem x_dv_nn {a b : Int} (ha : 0 ≤ a) (h2 : a < 2147483648) (hb : 0 < b) (h3 : b < 2147483648) : x_dv a b = a / b := by
  obtain ⟨m, rfl⟩ := Int.eq_ofNat_of_zero_le ha
  obtain ⟨d, rfl⟩ := Int.eq_ofNat_of_zero_le (Int.le_of_lt hb)
  unfold x_dv
  have e1 : xI ((m : Nat) : Int) = nI m := xI_nat m
  have e2 : xI ((d : Nat) : Int) = nI d := xI_nat d
  rw [e1, e2, pk_div (by omega) (by omega) (by omega), nI_toInt (Nat.lt_of_le_of_lt (Nat.div_le_self m d) (by omega))]
  exact Int.natCast_ediv m d
theorem x_sum_le {f : Int → Int} {M : Int} : ∀ T : Nat, (∀ t : Int, 0 ≤ t → t < T → 0 ≤ f t ∧ f t ≤ M) → 0 ≤ x_sum f T ∧ x_sum f T ≤ T * M
  | 0, _ => by simp [x_sum]
  | n + 1, h => by
    have ih := x_sum_le n (fun t a b => h t a (by push_cast; omega))
    have := h n (by omega) (by push_cast; omega)
    unfold x_sum
    push_cast
    rw [Int.add_mul, Int.one_mul]
    omega
theorem s_avg {f : Int → Int} (T : Nat) (h0 : T ≤ 8) (h1 : 0 < T) (h : ∀ t, 0 ≤ t → t < 8 → 0 ≤ f t ∧ f t ≤ 9999) : x_dv (x_sum f T) T = x_sum f T / T := by
  have := x_sum_le (M := 9999) T (fun t a b => h t a (by omega))
  exact x_dv_nn (by omega) (by omega) (by omega) (by omega)
theorem s_mul9 {x y : Int} (h1 : 0 ≤ x) (h2 : x ≤ 9) (h3 : 0 ≤ y) (h4 : y ≤ 9) : 0 ≤ x * y ∧ x * y ≤ 81 := by
  constructor
  · exact Int.mul_nonneg h1 h3
  · calc x * y ≤ 9 * y := Int.mul_le_mul_of_nonneg_right h2 h3
      _ ≤ 81 := by omega
theorem s_ok_mv1 {B : Int} {f : Int → Int} (h : s_ok B f) {c : Int} (h0 : 0 ≤ c) (h1 : c < 10) : s_ok B (s_mv1 f c) := by
  have hc := s_cr h h0 h1
  unfold s_mv1
  split
  · dsimp only
    have e : ∀ v, x_u1 f (25 + c) v (65 + c) = f (65 + c) := fun v => x_u1_n (by omega)
    split
    · refine s_ok_u1 (s_ok_u1 h ?_) ?_
      · unfold s_okv; omega
      · rw [e]; unfold s_okv; omega
    · refine s_ok_u1 h ?_
      unfold s_okv; omega
  · exact h
theorem s_ok_mv {B : Int} {f : Int → Int} (h : s_ok B f) : ∀ i : Nat, i ≤ 10 → s_ok B (s_mv f i)
  | 0, _ => h
  | n + 1, hn => s_ok_mv1 (s_ok_mv h n (by omega)) (by omega) (by omega)
theorem s_ok_lose {B : Int} {f : Int → Int} (h : s_ok B f) {c : Int} (h0 : 0 ≤ c) (h1 : c < 10) : s_ok B (s_lose f c) := by
  refine s_ok_u1 (s_ok_u1 (s_ok_u1 h ?_) ?_) ?_ <;> (unfold s_okv; omega)
theorem s_ok_add {B : Int} {f : Int → Int} (h : s_ok B f) {c q : Int} (h0 : 1 ≤ c) (h1 : c < 17) (h2 : 0 ≤ q) : s_ok B (s_add f c q) := by
  refine s_ok_u1 h ?_
  have := h c
  unfold s_okv at this ⊢
  omega
theorem s_ok_opn {B : Int} {f : Int → Int} (h : s_ok B f) {c : Int} (h0 : 0 ≤ c) (h1 : c < 10) (h2 : 0 ≤ f (55 + c)) : s_ok B (s_opn f c) := by
  have hc := s_cr h h0 h1
  refine s_ok_lose (s_ok_add h ?_ ?_ (by omega)) h0 h1
  · split <;> omega
  · split <;> omega
theorem s_ok_steal {B : Int} {f : Int → Int} (h : s_ok B f) {c : Int} (h0 : 0 ≤ c) (h1 : c < 10) : s_ok B (s_steal f c) := by
  unfold s_steal
  split
  · exact s_ok_lose h h0 h1
  · exact h
theorem s_ok_stl {B : Int} {f : Int → Int} (h : s_ok B f) {t k : Int} (h0 : 0 ≤ t) (h1 : t < 8) (h2 : 0 ≤ k) (h3 : k ≤ 20) (q : Prop) [Decidable q] : s_ok (B + 20) (s_stl f t k q) := by
  have hB : s_ok (B + 20) f := s_ok_le (by omega) h
  have ht := s_tn h h0 h1
  have ev : ∀ g : Int → Int, s_ok (B + 20) g → s_ok (B + 20) (s_evn g t) := by
    intro g hg
    have ht := s_tn hg h0 h1
    unfold s_evn
    dsimp only
    rw [x_u1_n (show 9 + t ≠ 1 + t by omega)]
    refine s_ok_u1 (s_ok_u1 hg ?_) ?_ <;> (unfold s_okv; omega)
  unfold s_stl
  apply ev
  split
  · unfold s_win
    dsimp only
    rw [x_u1_n (show 1 + t ≠ 17 + t by omega)]
    refine s_ok_u1 (s_ok_u1 hB ?_) ?_ <;> (unfold s_okv; omega)
  · unfold s_los
    refine s_ok_add (s_ok_u1 hB ?_) (by omega) (by omega) (by omega)
    unfold s_okv; omega
end SP
