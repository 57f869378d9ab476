section XU
variable {Z : x_Z} {pc : Nat} {L : List (Option Value)} {st : List Value} {k n : Nat} {g : Bool} {N : Nat} {sh : xS} {D : xM}
theorem x_ialdU {q len : Nat} {i : Int} {f : Int → Int} (hd : decode (z_c Z) pc = .ok (.iaload, 1)) (hq : q < N) (hs : sh q = .inl (0, len)) (h0 : 0 ≤ i) (h1 : i < len) (hb : len ≤ 2147483647) (kk : x_W Z (pc + 1) L (.int (xI (f i)) :: st) k n g N sh (x_up D q f)) : x_W Z pc L (.int (xI i) :: .ref (x_b (z_X Z) + q) :: st) k n g N sh (x_up D q f) := x_iald hd hq hs h0 h1 hb (by rw [x_up_s]; exact kk)
theorem x_iastU {q len : Nat} {i v : Int} {f : Int → Int} (hd : decode (z_c Z) pc = .ok (.iastore, 1)) (hq : q < N) (hs : sh q = .inl (0, len)) (h0 : 0 ≤ i) (h1 : i < len) (hb : len ≤ 2147483647) (kk : x_W Z (pc + 1) L st k n g N sh (x_up D q (x_u1 f i v))) : x_W Z pc L (.int (xI v) :: .int (xI i) :: .ref (x_b (z_X Z) + q) :: st) k n g N sh (x_up D q f) := x_iast hd hq hs h0 h1 hb (by rw [x_up_s, x_up_up]; exact kk)
theorem x_rI {f : Int → Int} (h : ∀ i, -100000 ≤ f i ∧ f i ≤ 100000) (i : Int) : x_r (f i) := ⟨by have := h i; omega, by have := h i; omega⟩
/-- just these cells -/
abbrev x_is (D' : xM) : xM → Prop := fun d => d = D'
end XU
/-! ===== what is meant: a state's row of cells ===== -/
section SP
def x_sum (f : Int → Int) : Nat → Int
  | 0 => 0
  | n + 1 => x_sum f n + f n
abbrev s_gone (f : Int → Int) (c : Int) : Prop := f (55 + c) = -1
abbrev s_mov (f : Int → Int) (c : Int) : Prop := 0 < f (65 + c)
abbrev s_lies (f : Int → Int) (c : Int) : Prop := ¬ f (55 + c) = -1 ∧ ¬ 0 < f (65 + c)
abbrev s_in (f : Int → Int) (t c : Int) : Prop := f (55 + c) = t ∧ f (65 + c) = 0
def s_add (f : Int → Int) (c q : Int) : Int → Int := x_u1 f c (min 9999 (f c + q))
def s_lose (f : Int → Int) (c : Int) : Int → Int := x_u1 (x_u1 (x_u1 f (25 + c) 0) (55 + c) (-1)) (65 + c) 0
def s_come (f : Int → Int) (c : Int) : Int := if f (45 + c) = 1 then f (25 + c) else max 0 (f (25 + c) - f (65 + c) * f (75 + c))
def s_steal (f : Int → Int) (c : Int) : Int → Int := if s_lies f c then s_lose f c else f
def s_opn (f : Int → Int) (c : Int) : Int → Int := s_lose (s_add f ((if f (35 + c) = 1 then 9 else 1) + f (55 + c)) (f (25 + c))) c
def s_pour (f : Int → Int) (c d : Int) : Int → Int := s_lose (if f (35 + c) = f (35 + d) then x_u1 f (25 + c) (min 99 (f (25 + c) + f (25 + d)))
  else x_u1 (x_u1 f (25 + c) (if 0 ≤ f (25 + c) - f (25 + d) then f (25 + c) - f (25 + d) else 0 - (f (25 + c) - f (25 + d)))) (35 + c) (if f (25 + c) < f (25 + d) then f (35 + d) else f (35 + c))) d
def s_sh (f : Int → Int) (u v : Int) : Nat → Int → Int
  | 0 => f
  | n + 1 => x_u1 (x_u1 (s_sh f u v n) (1 + n) u) (9 + n) v
def s_share (f : Int → Int) (T : Nat) : Int → Int := s_sh f (x_sum (fun i => f (1 + i)) T / T) (x_sum (fun i => f (9 + i)) T / T) T
def s_mv1 (f : Int → Int) (c : Int) : Int → Int := if 0 < f (65 + c) then (fun g : Int → Int => x_u1 g (65 + c) (g (65 + c) - 1)) (if f (45 + c) = 0 then x_u1 f (25 + c) (max 0 (f (25 + c) - f (75 + c))) else f) else f
def s_mv (f : Int → Int) : Nat → Int → Int
  | 0 => f
  | n + 1 => s_mv1 (s_mv f n) n
def s_evn (f : Int → Int) (t : Int) : Int → Int := (fun g : Int → Int => x_u1 g (9 + t) (g (9 + t) - min (f (1 + t)) (f (9 + t)))) (x_u1 f (1 + t) (f (1 + t) - min (f (1 + t)) (f (9 + t))))
def s_win (f : Int → Int) (t k : Int) : Int → Int := (fun g : Int → Int => x_u1 g (1 + t) (max 0 (g (1 + t) - k))) (x_u1 f (17 + t) (f (17 + t) + k))
def s_los (f : Int → Int) (t k : Int) : Int → Int := s_add (x_u1 f (17 + t) (f (17 + t) - k)) (1 + t) (k / 2)
def s_stl (f : Int → Int) (t k : Int) (w : Prop) [Decidable w] : Int → Int := s_evn (if w then s_win f t k else s_los f t k) t
/-- a row that is as it may be -/
def s_ok (f : Int → Int) : Prop := (∀ i, -100000 ≤ f i ∧ f i ≤ 100000) ∧ (∀ c, 0 ≤ c → c < 10 → (0 ≤ f (25 + c) ∧ f (25 + c) ≤ 99) ∧ (f (35 + c) = 0 ∨ f (35 + c) = 1) ∧ (f (45 + c) = 0 ∨ f (45 + c) = 1) ∧ (-1 ≤ f (55 + c) ∧ f (55 + c) ≤ 7) ∧ (0 ≤ f (65 + c) ∧ f (65 + c) ≤ 9) ∧ (0 ≤ f (75 + c) ∧ f (75 + c) ≤ 9)) ∧ (∀ t, 0 ≤ t → t < 8 → (0 ≤ f (1 + t) ∧ f (1 + t) ≤ 9999) ∧ (0 ≤ f (9 + t) ∧ f (9 + t) ≤ 9999))
end SP
