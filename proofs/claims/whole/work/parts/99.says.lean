section C99
/-! ===== what an expression says: by descent ===== -/
abbrev tM (b : Int → Int) (n q : Nat) (c : Int) : Prop := tK b n q = 4 ∧ b (tS b n q : Nat) = c
def r_lp (op : Nat → Prop) [DecidablePred op] (st : Nat → Int) (nx : Nat → Nat) (sub : Nat → Rs (List Int)) : Nat → List Int → Nat → Rs (List Int)
  | 0, L, q => .inr (L, q)
  | k + 1, L, q => if op q then r_bd (sub (nx q)) (fun L2 q2 => r_lp op st nx sub k (L ++ L2 ++ [st q]) q2) else .inr (L, q)
def r_prt (b : Int → Int) (n : Nat) (ex : Nat → Rs (List Int)) (q : Nat) : Rs (List Int) :=
  if tM b n q 40 then r_bd (ex (tE b n q)) (fun L q1 => if tM b n q1 41 then .inr (L, tE b n q1) else .inl (1, q1))
  else if ¬ tK b n q = 3 ∧ ¬ tK b n q = 2 then .inl (1, q)
  else if tK b n q = 3 ∧ tL b n q then .inl (2, q)
  else if tK b n q = 3 then .inr ([tV b n q], tE b n q)
  else if r_vs b n q = -16 then .inl (3, q) else .inr ([r_vs b n q], tE b n q)
def r_prd (b : Int → Int) (n : Nat) (ex : Nat → Rs (List Int)) (q : Nat) : Rs (List Int) := r_bd (r_prt b n ex q) (fun L q1 => r_lp (fun q => tM b n q 42 ∨ tM b n q 47) (fun q => if tM b n q 42 then -14 else -15) (tE b n) (r_prt b n ex) 700 L q1)
theorem r_lp_s {op : Nat → Prop} [DecidablePred op] {st : Nat → Int} {nx : Nat → Nat} {sub : Nat → Rs (List Int)} {k : Nat} {L : List Int} {q : Nat} : r_lp op st nx sub (k + 1) L q = if op q then r_bd (sub (nx q)) (fun L2 q2 => r_lp op st nx sub k (L ++ L2 ++ [st q]) q2) else .inr (L, q) := rfl
/-- the rule that is being read -/
def ru_is (D : xM) (lb : Nat) (L : List Int) : Prop := D (lb + 10) 2 = L.length ∧ (∀ i : Nat, i < L.length → D (lb + 11) i = L.getD i 0) ∧ D (lb + 10) 4 = x_B (-6 ∈ L) ∧ L.length ≤ 700

end C99
