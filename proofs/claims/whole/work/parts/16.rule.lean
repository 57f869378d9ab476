section XR
theorem x_ldcw {Z : x_Z} {pc : Nat} {L : List (Option Value)} {st : List Value} {k n : Nat} {g : Bool} {N : Nat} {sh : xS} {D : xM} {i : Nat} {z : Int} (hd : decode (z_c Z) pc = .ok (.ldc_w i, 3)) (hw : Cond.constant (z_y Z).cls i (xI z) ∈ x_T) (kk : x_W Z (pc + 3) L (.int (xI z) :: st) k n g N sh D) : x_W Z pc L st k n g N sh D := by
  intro p e s m args below meth c H locs ls C hl hP hS
  exact lv_ldcw C.1 C.2.1 C.2.2.2.1 (C.2.2.2.2.1 _ hw) hd (kk p e s m args below meth c H locs ls C hl hP hS)
/-! ===== what a rule means ===== -/
def j_op (s a b : Int) : Int :=
  if s = -7 then x_B (¬ a = 0 ∨ ¬ b = 0) else if s = -8 then x_B (¬ a = 0 ∧ ¬ b = 0) else if s = -10 then x_B (a < b) else if s = -11 then x_B (a = b)
  else if s = -12 then x_n (a + b) else if s = -13 then x_n (a - b) else if s = -14 then x_n (a * b) else if b = 0 then 0 else x_dv a b
theorem x_r_dv (a b : Int) : x_r (x_dv a b) := ⟨Int32.le_toInt _, Int32.toInt_lt _⟩
theorem j_op_r (s a b : Int) : x_r (j_op s a b) := by
  unfold j_op
  repeat' split
  all_goals first | exact x_r_B _ | exact x_n_r _ | exact x_r0 | exact x_r_dv _ _
def o_val (mk sk f : Int → Int) (cr t s : Int) : Int := if s = -6 then cr else if s = -1 then f (1 + t) else if s = -2 then f (9 + t) else if s = -3 then sk t else if s = -4 then mk t else f 0
def o_st (val : Int → Int) (l : List Int) (s : Int) : List Int :=
  if -6 ≤ s then (if l.length < 40 then (if 0 ≤ s then s else val s) :: l else l)
  else if s = -9 then (match l with
    | x :: r => x_B (x = 0) :: r
    | [] => [])
  else match l with
    | b :: a :: r => j_op s a b :: r
    | l => l
def o_run (ss val : Int → Int) : Nat → List Int
  | 0 => []
  | n + 1 => o_st val (o_run ss val n) (ss n)
def o_cl (z : Int) : Int := max 0 (min 12 z)
def s_pop (m : Nat) : Nat := (List.range 10).foldl (fun a k => a + m / 2 ^ k % 2) 0
/-- the odds of town t: by the rule's steps, or by luck and bad luck alone -/
def o_odds (told asks : Int) (ss : Int → Int) (n : Nat) (mk sk : Int → Int) (C : Nat) (f : Int → Int) (t : Int) : Int :=
  if told = 0 then o_cl (6 + f (1 + t) / 10 - f (9 + t) / 10)
  else o_cl ((o_run ss (o_val mk sk f (if asks = 0 then 0 else (s_pop (s_bits (fun c => s_in f t c) C) : Nat)) t) n).headD 0)
theorem o_cl_in (z : Int) : 0 ≤ o_cl z ∧ o_cl z ≤ 12 := by unfold o_cl; omega
theorem o_odds_in (told asks : Int) (ss : Int → Int) (n : Nat) (mk sk : Int → Int) (C : Nat) (f : Int → Int) (t : Int) : 0 ≤ o_odds told asks ss n mk sk C f t ∧ o_odds told asks ss n mk sk C f t ≤ 12 := by
  unfold o_odds; split <;> exact o_cl_in _
/-- the stack of the machine holds the list, its last pushed first -/
def o_rep (g : Int → Int) (l : List Int) : Prop := l.length ≤ 40 ∧ ∀ (k : Nat) (v : Int), l[k]? = some v → g (l.length - 1 - k) = v
theorem o_rep_push {g : Int → Int} {l : List Int} (h : o_rep g l) (hl : l.length < 40) (v : Int) : o_rep (x_u1 g l.length v) (v :: l) := by
  refine ⟨by simp; omega, fun k w hw => ?_⟩
  cases k with
  | zero =>
    simp at hw
    subst hw
    simp only [List.length_cons]
    rw [show ((l.length + 1 : Nat) : Int) - 1 - ((0 : Nat) : Int) = l.length by omega]
    exact x_u1_s
  | succ k =>
    simp only [List.getElem?_cons_succ] at hw
    simp only [List.length_cons]
    rw [show ((l.length + 1 : Nat) : Int) - 1 - ((k + 1 : Nat) : Int) = l.length - 1 - k by omega, x_u1_n (by have := (List.getElem?_eq_some_iff.mp hw).1; omega)]
    exact h.2 k w hw
theorem o_rep_top {g : Int → Int} {x : Int} {r : List Int} (h : o_rep g (x :: r)) : g ((x :: r).length - 1) = x := by
  have := h.2 0 x rfl
  simpa using this
theorem o_rep_2nd {g : Int → Int} {x y : Int} {r : List Int} (h : o_rep g (x :: y :: r)) : g ((x :: y :: r).length - 2) = y := by
  have := h.2 1 y rfl
  rw [← this]
  congr 1
  simp only [List.length_cons]
  omega
theorem o_rep_set {g : Int → Int} {x : Int} {r : List Int} (h : o_rep g (x :: r)) (v : Int) : o_rep (x_u1 g ((x :: r).length - 1) v) (v :: r) := by
  refine ⟨by have := h.1; simpa using this, fun k w hw => ?_⟩
  cases k with
  | zero =>
    simp at hw
    subst hw
    simp only [List.length_cons]
    rw [show ((r.length + 1 : Nat) : Int) - 1 - ((0 : Nat) : Int) = ((r.length + 1 : Nat) : Int) - 1 by omega]
    exact x_u1_s
  | succ k =>
    simp only [List.getElem?_cons_succ] at hw
    have h1 := h.2 (k + 1) w (by simpa using hw)
    simp only [List.length_cons] at h1 ⊢
    rw [x_u1_n (by omega)]
    exact h1
theorem o_rep_pop {g : Int → Int} {x y : Int} {r : List Int} (h : o_rep g (x :: y :: r)) : o_rep g (y :: r) := by
  refine ⟨by have := h.1; simp at this ⊢; omega, fun k w hw => ?_⟩
  have h1 := h.2 (k + 1) w (by simpa using hw)
  rw [← h1]
  congr 1
  simp only [List.length_cons]
  omega
end XR
section XF
theorem x_forget {Z : x_Z} {pc : Nat} {L : List (Option Value)} {st : List Value} {k n : Nat} {g : Bool} {N : Nat} {sh : xS} {D : xM} (i : Nat) (kk : x_W Z pc (L.set i none) st k n g N sh D) : x_W Z pc L st k n g N sh D := by
  refine x_lcl (fun j v h => ?_) kk
  by_cases hj : j = i
  · subst hj
    by_cases hl : j < L.length
    · rw [List.getElem?_set_self hl] at h; cases h
    · rw [List.getElem?_eq_none (by rw [List.length_set]; omega)] at h; cases h
  · rw [List.getElem?_set_ne (Ne.symm hj)] at h; exact h
theorem x_up_up2 {D : xM} {a b : Nat} {f g h : Int → Int} : x_up (x_up (x_up D a f) b g) a h = x_up (x_up D b g) a h := by
  funext j
  unfold x_up
  split <;> rfl
theorem x_up_up3 {D : xM} {a b c : Nat} {f g e h : Int → Int} : x_up (x_up (x_up (x_up D a f) b g) c e) a h = x_up (x_up (x_up D b g) c e) a h := by
  funext j
  unfold x_up
  split <;> rfl
theorem x_up_comm {D : xM} {a b : Nat} {f g : Int → Int} (h : a ≠ b) : x_up (x_up D a f) b g = x_up (x_up D b g) a f := by
  funext j
  unfold x_up
  by_cases h1 : j = b
  · rw [if_pos h1, if_neg (by omega), if_pos h1]
  · rw [if_neg h1, if_neg h1]
theorem x_u1_u1 {f : Int → Int} {i v w : Int} : x_u1 (x_u1 f i v) i w = x_u1 f i w := by
  funext j
  unfold x_u1
  split <;> rfl
theorem j_7 (a b : Int) : j_op (-7) a b = x_B (¬ a = 0 ∨ ¬ b = 0) := rfl
theorem j_8 (a b : Int) : j_op (-8) a b = x_B (¬ a = 0 ∧ ¬ b = 0) := rfl
theorem j_10 (a b : Int) : j_op (-10) a b = x_B (a < b) := rfl
theorem j_11 (a b : Int) : j_op (-11) a b = x_B (a = b) := rfl
theorem j_12 (a b : Int) : j_op (-12) a b = x_n (a + b) := rfl
theorem j_13 (a b : Int) : j_op (-13) a b = x_n (a - b) := rfl
theorem j_14 (a b : Int) : j_op (-14) a b = x_n (a * b) := rfl
theorem j_15 (a b : Int) : j_op (-15) a b = if b = 0 then 0 else x_dv a b := rfl
theorem x_up_rr {f : Int → Int} (h : ∀ j, x_r (f j)) {i v : Int} (hv : x_r v) : ∀ j, x_r (x_u1 f i v j) := by
  intro j
  unfold x_u1
  split
  · exact hv
  · exact h j
end XF
