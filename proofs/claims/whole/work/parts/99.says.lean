section C99
/-! ===== what an expression says: by descent ===== -/
abbrev tM (b : Int → Int) (n q : Nat) (c : Int) : Prop := tK b n q = 4 ∧ b (tS b n q : Nat) = c
def r_lp (op : Nat → Prop) [DecidablePred op] (st : Nat → Int) (nx : Nat → Nat) (sub : Nat → Rs (List Int)) : Nat → List Int → Nat → Rs (List Int)
  | 0, L, q => .inr (L, q)
  | k + 1, L, q => if op q then r_bd (sub (nx q)) (fun L2 q2 => r_lp op st nx sub k (L ++ L2 ++ [st q]) q2) else .inr (L, q)
def r_prt (b : Int → Int) (n : Nat) (ex : Nat → Rs (List Int)) (q : Nat) : Rs (List Int) :=
  if tM b n q 40 then r_bd (ex (tE b n q)) (fun L q1 => if tM b n q1 41 then .inr (L, tE b n q1) else .inl (1, q1))
  else if ¬ tK b n q = 3 ∧ ¬ tK b n q = 2 then .inl (1, q)
  else if tK b n q = 3 ∧ tL b n q then .inl (2, q)
  else if tK b n q = 3 then .inr ([tV b n q], tE b n q)
  else if r_vs b n q = -16 then .inl (3, q) else .inr ([r_vs b n q], tE b n q)
def r_prd (b : Int → Int) (n : Nat) (ex : Nat → Rs (List Int)) (q : Nat) : Rs (List Int) := r_bd (r_prt b n ex q) (fun L q1 => r_lp (fun q => tM b n q 42 ∨ tM b n q 47) (fun q => if tM b n q 42 then -14 else -15) (tE b n) (r_prt b n ex) 700 L q1)
theorem r_lp_s {op : Nat → Prop} [DecidablePred op] {st : Nat → Int} {nx : Nat → Nat} {sub : Nat → Rs (List Int)} {k : Nat} {L : List Int} {q : Nat} : r_lp op st nx sub (k + 1) L q = if op q then r_bd (sub (nx q)) (fun L2 q2 => r_lp op st nx sub k (L ++ L2 ++ [st q]) q2) else .inr (L, q) := rfl
def r_sum (b : Int → Int) (n : Nat) (ex : Nat → Rs (List Int)) (q : Nat) : Rs (List Int) := r_bd (r_prd b n ex q) (fun L q1 => r_lp (fun q => tM b n q 43 ∨ tM b n q 45) (fun q => if tM b n q 43 then -12 else -13) (tE b n) (r_prd b n ex) 700 L q1)
def r_tst (b : Int → Int) (n : Nat) (ex : Nat → Rs (List Int)) (q : Nat) : Rs (List Int) := r_bd (r_sum b n ex q) (fun L q1 => if ¬ tM b n q1 60 ∧ ¬ tM b n q1 61 then .inr (L, q1) else r_bd (r_sum b n ex (tE b n q1)) (fun L2 q2 => .inr (L ++ L2 ++ [if tM b n q1 60 then -10 else -11], q2)))
def r_nc (b : Int → Int) (n : Nat) : Nat → Nat → Nat × Nat
  | 0, q => (0, q)
  | k + 1, q => if tW b n q 7 then ((r_nc b n k (tE b n q)).1 + 1, (r_nc b n k (tE b n q)).2) else (0, q)
def r_not (b : Int → Int) (n : Nat) (ex : Nat → Rs (List Int)) (q : Nat) : Rs (List Int) := if (r_nc b n 6 q).1 = 6 ∧ tW b n (r_nc b n 6 q).2 7 then .inl (2, (r_nc b n 6 q).2) else r_bd (r_tst b n ex (r_nc b n 6 q).2) (fun L q1 => .inr (L ++ List.replicate (r_nc b n 6 q).1 (-9), q1))
def r_and (b : Int → Int) (n : Nat) (ex : Nat → Rs (List Int)) (q : Nat) : Rs (List Int) := r_bd (r_not b n ex q) (fun L q1 => r_lp (fun q => tW b n q 14) (fun _ => -8) (tE b n) (r_not b n ex) 700 L q1)
def r_exp (b : Int → Int) (n : Nat) : Nat → Nat → Rs (List Int)
  | 0, q => .inl (if tK b n q = 3 ∨ tK b n q = 2 ∨ tM b n q 40 then 2 else 1, q)
  | d + 1, q => r_bd (r_and b n (r_exp b n d) q) (fun L q1 => r_lp (fun q => tW b n q 15) (fun _ => -7) (tE b n) (r_and b n (r_exp b n d)) 700 L q1)
/-- the rule that is being read -/
def ru_is (D : xM) (lb : Nat) (L : List Int) : Prop := D (lb + 10) 2 = L.length ∧ (∀ i : Nat, i < L.length → D (lb + 11) i = L.getD i 0) ∧ D (lb + 10) 4 = x_B (-6 ∈ L) ∧ L.length ≤ 700

end C99
