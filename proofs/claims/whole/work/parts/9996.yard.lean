section C9996
/-! ===== the yard: the Model's way with expressions, and the descent ===== -/
abbrev Ys : Type := Nat × Nat × List Int × List Int × List Bool
abbrev Yr : Type := (Int × Nat) ⊕ Ys
def sr (s : Int) : Nat := if s = -7 then 1 else if s = -8 then 2 else if s = -9 then 3 else if s = -10 ∨ s = -11 then 4 else if s = -12 ∨ s = -13 then 5 else 6
def dr (p : Nat) : List Int → List Int → List Int × List Int
  | [], O => ([], O)
  | s :: K, O => if s = 0 ∨ sr s < p then (s :: K, O) else dr p K (O ++ [s])
theorem dr_c {p : Nat} {s : Int} {K O : List Int} : dr p (s :: K) O = if s = 0 ∨ sr s < p then (s :: K, O) else dr p K (O ++ [s]) := rfl
def y_prt (b : Int → Int) (n q : Nat) (K O : List Int) (F : List Bool) : Yr := if tK b n q = 3 then (if tL b n q then .inl (2, q) else .inr (0, tE b n q, K, O ++ [tV b n q], F)) else if tK b n q = 2 then (if r_vs b n q = -16 then .inl (3, q) else .inr (0, tE b n q, K, O ++ [r_vs b n q], F)) else .inl (1, q)
def y_opn (b : Int → Int) (n q : Nat) (K O : List Int) (F : List Bool) : Yr := if F.length < 6 then .inr (2, tE b n q, 0 :: K, O, false :: F) else .inl (if tK b n (tE b n q) = 3 ∨ tK b n (tE b n q) = 2 ∨ tM b n (tE b n q) 40 then 2 else 1, tE b n q)
def y_lop (b : Int → Int) (n q : Nat) (K O : List Int) (F : List Bool) : Yr :=
  if tW b n q 14 then .inr (2, tE b n q, -8 :: (dr 2 K O).1, (dr 2 K O).2, false :: F.tail)
  else if tW b n q 15 then .inr (2, tE b n q, -7 :: (dr 1 K O).1, (dr 1 K O).2, false :: F.tail)
  else if (tM b n q 60 ∨ tM b n q 61) ∧ F.headD false = false then .inr (1, tE b n q, (if tM b n q 60 then -10 else -11) :: (dr 4 K O).1, (dr 4 K O).2, true :: F.tail)
  else if tM b n q 43 ∨ tM b n q 45 then .inr (1, tE b n q, (if tM b n q 43 then -12 else -13) :: (dr 5 K O).1, (dr 5 K O).2, F)
  else if tM b n q 42 ∨ tM b n q 47 then .inr (1, tE b n q, (if tM b n q 42 then -14 else -15) :: (dr 6 K O).1, (dr 6 K O).2, F)
  else if tM b n q 41 ∧ 0 ∈ K then .inr (0, tE b n q, (dr 0 K O).1.tail, (dr 0 K O).2, F.tail)
  else if 1 < F.length then .inl (1, q) else .inr (20, q, K, O, F)
def y1 (b : Int → Int) (n : Nat) (s : Ys) : Yr :=
  if s.1 = 20 then .inr s
  else if s.1 = 0 then y_lop b n s.2.1 s.2.2.1 s.2.2.2.1 s.2.2.2.2
  else if 2 ≤ s.1 ∧ tW b n s.2.1 7 then (if s.1 = 8 then .inl (2, s.2.1) else .inr (s.1 + 1, tE b n s.2.1, -9 :: s.2.2.1, s.2.2.2.1, s.2.2.2.2))
  else if tM b n s.2.1 40 then y_opn b n s.2.1 s.2.2.1 s.2.2.2.1 s.2.2.2.2 else y_prt b n s.2.1 s.2.2.1 s.2.2.2.1 s.2.2.2.2
def rn (b : Int → Int) (n : Nat) : Nat → Ys → Yr
  | 0, s => .inr s
  | k + 1, s => match y1 b n s with
    | .inl z => .inl z
    | .inr t => rn b n k t
def Rc (b : Int → Int) (n : Nat) (s : Ys) (r : Yr) : Prop := ∃ k, rn b n k s = r
section YARD
variable {b : Int → Int} {n : Nat}
theorem rn_i {k : Nat} {s : Ys} {z : Int × Nat} (h : y1 b n s = .inl z) : rn b n (k + 1) s = .inl z := by show (match y1 b n s with | .inl z => Sum.inl z | .inr t => rn b n k t) = _; rw [h]
theorem rn_r {k : Nat} {s t : Ys} (h : y1 b n s = .inr t) : rn b n (k + 1) s = rn b n k t := by show (match y1 b n s with | .inl z => Sum.inl z | .inr t => rn b n k t) = _; rw [h]
theorem rn_add : ∀ (j k : Nat) (s : Ys), rn b n (j + k) s = match rn b n j s with
    | .inl z => .inl z
    | .inr t => rn b n k t
  | 0, k, s => by rw [Nat.zero_add]; rfl
  | j + 1, k, s => by
    rw [show j + 1 + k = (j + k) + 1 by omega]
    rcases h : y1 b n s with z | t
    · rw [rn_i h, rn_i h]
    · rw [rn_r h, rn_r h]; exact rn_add j k t
theorem rc_rf {s : Ys} : Rc b n s (.inr s) := ⟨0, rfl⟩
theorem rc_i {s : Ys} {z : Int × Nat} (h : y1 b n s = .inl z) : Rc b n s (.inl z) := ⟨1, rn_i h⟩
theorem rc_s {s t : Ys} {r : Yr} (h : y1 b n s = .inr t) (h2 : Rc b n t r) : Rc b n s r := by
  obtain ⟨k, hk⟩ := h2
  exact ⟨k + 1, by rw [rn_r h]; exact hk⟩
theorem rc_tr {s t : Ys} {r : Yr} (h : Rc b n s (.inr t)) (h2 : Rc b n t r) : Rc b n s r := by
  obtain ⟨j, hj⟩ := h
  obtain ⟨k, hk⟩ := h2
  exact ⟨j + k, by rw [rn_add, hj]; exact hk⟩
theorem rn_done {t : Ys} (ht : y1 b n t = .inr t) : ∀ k, rn b n k t = .inr t
  | 0 => rfl
  | k + 1 => by rw [rn_r ht]; exact rn_done ht k
theorem rc_ii {s : Ys} {z w : Int × Nat} (h : Rc b n s (.inl z)) (h2 : Rc b n s (.inl w)) : z = w := by
  obtain ⟨j, hj⟩ := h
  obtain ⟨k, hk⟩ := h2
  have e1 := rn_add (b := b) (n := n) j k s
  have e2 := rn_add (b := b) (n := n) k j s
  rw [hj] at e1
  rw [hk, Nat.add_comm k j, e1] at e2
  exact Sum.inl.inj e2
theorem rc_ir {s t : Ys} {z : Int × Nat} (h : Rc b n s (.inl z)) (h2 : Rc b n s (.inr t)) (ht : y1 b n t = .inr t) : False := by
  obtain ⟨j, hj⟩ := h
  obtain ⟨k, hk⟩ := h2
  have e1 := rn_add (b := b) (n := n) j k s
  have e2 := rn_add (b := b) (n := n) k j s
  rw [hj] at e1
  rw [hk, Nat.add_comm k j, e1] at e2
  have e3 : (Sum.inl z : Yr) = rn b n j t := e2
  rw [rn_done ht] at e3
  cases e3
theorem rc_rr {s t u : Ys} (h : Rc b n s (.inr t)) (h2 : Rc b n s (.inr u)) (ht : y1 b n t = .inr t) (hu : y1 b n u = .inr u) : t = u := by
  obtain ⟨j, hj⟩ := h
  obtain ⟨k, hk⟩ := h2
  have e1 := rn_add (b := b) (n := n) j k s
  have e2 := rn_add (b := b) (n := n) k j s
  rw [hj] at e1
  rw [hk, Nat.add_comm k j, e1] at e2
  have e3 : rn b n k t = rn b n j u := e2
  rw [rn_done ht, rn_done hu] at e3
  exact Sum.inr.inj e3
def tp (p : Nat) (K : List Int) : Prop := ∀ s K', K = s :: K' → s = 0 ∨ sr s < p
def pn (p : Nat) (P : List Int) : Prop := ∀ s ∈ P, s ≠ 0 ∧ p ≤ sr s
theorem pn_nil {p : Nat} : pn p [] := fun s hs => by cases hs
theorem tp_c {p : Nat} {s : Int} {K : List Int} (h : s = 0 ∨ sr s < p) : tp p (s :: K) := fun x K' e => by cases e; exact h
theorem tp_le {p p' : Nat} {K : List Int} (hp : p ≤ p') (h : tp p K) : tp p' K := fun s K' e => (h s K' e).imp id (fun x => by omega)
theorem pn_le {p p' : Nat} {P : List Int} (hp : p' ≤ p) (h : pn p P) : pn p' P := fun s hs => ⟨(h s hs).1, by have := (h s hs).2; omega⟩
theorem dr_pend {p : Nat} {K : List Int} (hK : tp p K) : ∀ (P O : List Int), pn p P → dr p (P ++ K) O = (K, O ++ P)
  | [], O, _ => by
    rw [List.nil_append, List.append_nil]
    cases K with
    | nil => rfl
    | cons s K' => rw [dr_c, if_pos (hK s K' rfl)]
  | s :: P, O, h => by
    have hs := h s List.mem_cons_self
    rw [List.cons_append, dr_c, if_neg (fun e => e.elim hs.1 (fun x => by have := hs.2; omega)), dr_pend hK P (O ++ [s]) (fun x hx => h x (List.mem_cons_of_mem _ hx)), List.append_assoc]
    rfl
/-- what a part of an expression brings about -/
def Sr (b : Int → Int) (n p : Nat) (Q : List Bool → Nat → Prop) (r : Rs (List Int)) (s : Ys) (K O : List Int) : Prop := match r with
  | .inl z => Rc b n s (.inl z)
  | .inr y => ∃ P O' F', pn p P ∧ O' ++ P = O ++ y.1 ∧ Q F' y.2 ∧ Rc b n s (.inr (0, y.2, P ++ K, O', F'))
def Sc (b : Int → Int) (n p : Nat) (mp : Nat → Nat → Prop) (Fi : List Bool) (Q : List Bool → Nat → Prop) (f : Nat → Rs (List Int)) : Prop := ∀ m q K O, mp m q → q ≤ n → tp p K → Sr b n p Q (f q) (m, q, K, O, Fi) K O
theorem Sr_pre {p : Nat} {Q : List Bool → Nat → Prop} {r : Rs (List Int)} {s t : Ys} {K O : List Int} (h : Rc b n s (.inr t)) (h2 : Sr b n p Q r t K O) : Sr b n p Q r s K O := by
  cases r with
  | inl z => exact rc_tr h h2
  | inr y => obtain ⟨P, O', F', a1, a2, a3, a4⟩ := h2; exact ⟨P, O', F', a1, a2, a3, rc_tr h a4⟩
abbrev om (b : Int → Int) (n m q : Nat) : Prop := m = 1 ∨ (2 ≤ m ∧ m ≤ 8 ∧ ¬ tW b n q 7)
theorem y1_om {m q : Nat} {K O : List Int} {F : List Bool} (h : om b n m q) : y1 b n (m, q, K, O, F) = if tM b n q 40 then y_opn b n q K O F else y_prt b n q K O F := by
  unfold y1
  rw [if_neg (by show ¬ m = 20; omega), if_neg (by show ¬ m = 0; omega), if_neg]
  rintro ⟨h1, h2⟩
  rcases h with h | h
  · have : 2 ≤ m := h1
    omega
  · exact h.2.2 h2
theorem y1_0 {q : Nat} {K O : List Int} {F : List Bool} : y1 b n (0, q, K, O, F) = y_lop b n q K O F := rfl
theorem tM_ne {q : Nat} {c c' : Int} (h : tM b n q c) (hc : c ≠ c') : ¬ tM b n q c' := fun h' => hc (h.2.symm.trans h'.2)
theorem tM_nW {q j : Nat} {c : Int} (h : tM b n q c) : ¬ tW b n q j := fun h' => by have := h.1; have := h'.1; omega
theorem lop_and {q : Nat} {K O : List Int} {F : List Bool} (h : tW b n q 14) : y_lop b n q K O F = .inr (2, tE b n q, -8 :: (dr 2 K O).1, (dr 2 K O).2, false :: F.tail) := if_pos h
theorem lop_or {q : Nat} {K O : List Int} {F : List Bool} (h : tW b n q 15) : y_lop b n q K O F = .inr (2, tE b n q, -7 :: (dr 1 K O).1, (dr 1 K O).2, false :: F.tail) := by
  unfold y_lop
  rw [if_neg (fun h2 => absurd (tW_inj (by decide) (by decide) h h2) (by decide)), if_pos h]
theorem lop_tst {q : Nat} {K O F0} (h : tM b n q 60 ∨ tM b n q 61) : y_lop b n q K O (false :: F0) = .inr (1, tE b n q, (if tM b n q 60 then -10 else -11) :: (dr 4 K O).1, (dr 4 K O).2, true :: F0) := by
  have hw : ∀ j, ¬ tW b n q j := fun j => h.elim (fun h => tM_nW h) (fun h => tM_nW h)
  unfold y_lop
  rw [if_neg (hw 14), if_neg (hw 15), if_pos ⟨h, rfl⟩]
  rfl
theorem lop_sum {q : Nat} {K O : List Int} {F : List Bool} (h : tM b n q 43 ∨ tM b n q 45) : y_lop b n q K O F = .inr (1, tE b n q, (if tM b n q 43 then -12 else -13) :: (dr 5 K O).1, (dr 5 K O).2, F) := by
  have hw : ∀ j, ¬ tW b n q j := fun j => h.elim (fun h => tM_nW h) (fun h => tM_nW h)
  have hc : ∀ c : Int, c ≠ 43 → c ≠ 45 → ¬ tM b n q c := fun c c1 c2 => h.elim (fun h => tM_ne h (Ne.symm c1)) (fun h => tM_ne h (Ne.symm c2))
  unfold y_lop
  rw [if_neg (hw 14), if_neg (hw 15), if_neg (fun e => e.1.elim (hc 60 (by decide) (by decide)) (hc 61 (by decide) (by decide))), if_pos h]
theorem lop_prd {q : Nat} {K O : List Int} {F : List Bool} (h : tM b n q 42 ∨ tM b n q 47) : y_lop b n q K O F = .inr (1, tE b n q, (if tM b n q 42 then -14 else -15) :: (dr 6 K O).1, (dr 6 K O).2, F) := by
  have hw : ∀ j, ¬ tW b n q j := fun j => h.elim (fun h => tM_nW h) (fun h => tM_nW h)
  have hc : ∀ c : Int, c ≠ 42 → c ≠ 47 → ¬ tM b n q c := fun c c1 c2 => h.elim (fun h => tM_ne h (Ne.symm c1)) (fun h => tM_ne h (Ne.symm c2))
  unfold y_lop
  rw [if_neg (hw 14), if_neg (hw 15), if_neg (fun e => e.1.elim (hc 60 (by decide) (by decide)) (hc 61 (by decide) (by decide))), if_neg (fun e => e.elim (hc 43 (by decide) (by decide)) (hc 45 (by decide) (by decide))), if_pos h]
theorem lop_cls {q : Nat} {K O : List Int} {F : List Bool} (h : tM b n q 41) (h0 : 0 ∈ K) : y_lop b n q K O F = .inr (0, tE b n q, (dr 0 K O).1.tail, (dr 0 K O).2, F.tail) := by
  have hc : ∀ c : Int, c ≠ 41 → ¬ tM b n q c := fun c c1 => tM_ne h (Ne.symm c1)
  unfold y_lop
  rw [if_neg (tM_nW h), if_neg (tM_nW h), if_neg (fun e => e.1.elim (hc 60 (by decide)) (hc 61 (by decide))), if_neg (fun e => e.elim (hc 43 (by decide)) (hc 45 (by decide))), if_neg (fun e => e.elim (hc 42 (by decide)) (hc 47 (by decide))), if_pos ⟨h, h0⟩]
/-- nothing of an expression follows -/
def nx0 (b : Int → Int) (n : Nat) (f : Bool) (q : Nat) : Prop := (((f = true ∨ (¬ tM b n q 60 ∧ ¬ tM b n q 61)) ∧ (¬ (tM b n q 42 ∨ tM b n q 47) ∧ ¬ (tM b n q 43 ∨ tM b n q 45))) ∧ ¬ tW b n q 14) ∧ ¬ tW b n q 15
theorem lop_end {q : Nat} {K O : List Int} {f : Bool} {F0 : List Bool} (h : nx0 b n f q) (h2 : ¬ (tM b n q 41 ∧ 0 ∈ K)) : y_lop b n q K O (f :: F0) = if 1 < (f :: F0).length then .inl (1, q) else .inr (20, q, K, O, f :: F0) := by
  obtain ⟨⟨⟨h3, h4, h5⟩, h6⟩, h7⟩ := h
  unfold y_lop
  rw [if_neg h6, if_neg h7, if_neg, if_neg h5, if_neg h4, if_neg h2]
  rintro ⟨e1, e2⟩
  have e3 : f = false := e2
  rcases h3 with h3 | h3
  · rw [h3] at e3; cases e3
  · exact e1.elim h3.1 h3.2
theorem yd_lp {p : Nat} {mp : Nat → Nat → Prop} {Fi : List Bool} {Q : List Bool → Nat → Prop} {op : Nat → Prop} [DecidablePred op] {st : Nat → Int} {sub : Nat → Rs (List Int)} (hs : Sc b n (p + 1) mp Fi Q sub) (hlen : r_len n sub) (hst : ∀ q, st q ≠ 0 ∧ sr (st q) = p) (hop : ∀ q, q ≤ n → op q → q < tE b n q ∧ tE b n q ≤ n)
    (hstep : ∀ q K O F', op q → Q F' q → ∃ m, mp m (tE b n q) ∧ y_lop b n q K O F' = .inr (m, tE b n q, st q :: (dr p K O).1, (dr p K O).2, Fi)) {K O : List Int} (hK : tp p K) : ∀ (k : Nat) (L P O1 : List Int) (F' : List Bool) (q : Nat), n ≤ q + k → q ≤ n → pn p P → O1 ++ P = O ++ L → Q F' q → Sr b n p (fun F q => Q F q ∧ ¬ op q) (r_lp op st (tE b n) sub k L q) (0, q, P ++ K, O1, F') K O
  | 0, L, P, O1, F', q, hk, hq, hP, hO, hQ => ⟨P, O1, F', hP, hO, ⟨hQ, fun h => by have := hop q hq h; omega⟩, rc_rf⟩
  | k + 1, L, P, O1, F', q, hk, hq, hP, hO, hQ => by
    rw [r_lp_s]
    by_cases ho : op q
    · rw [if_pos ho]
      obtain ⟨m, hm, hy⟩ := hstep q (P ++ K) O1 F' ho hQ
      rw [dr_pend hK P O1 hP] at hy
      have hup := hop q hq ho
      have h1 := hs m (tE b n q) (st q :: K) (O ++ L) hm hup.2 (tp_c (Or.inr (by have := (hst q).2; omega)))
      have hrc : Rc b n (0, q, P ++ K, O1, F') (.inr (m, tE b n q, st q :: K, O ++ L, Fi)) := by
        rw [← hO]
        exact rc_s (y1_0.trans hy) rc_rf
      refine Sr_pre hrc ?_
      rcases hf : sub (tE b n q) with z | y
      · rw [hf] at h1
        exact h1
      · rw [hf] at h1
        obtain ⟨P2, O2, F2, a1, a2, a3, a4⟩ := h1
        have hl := hlen _ y.1 y.2 hup.2 hf
        have h2 := yd_lp (O := O) hs hlen hst hop hstep hK k (L ++ y.1 ++ [st q]) (P2 ++ [st q]) O2 F2 y.2 (by omega) hl.2 (by
          intro s hs'
          rw [List.mem_append, List.mem_singleton] at hs'
          rcases hs' with hs' | hs'
          · exact pn_le (by omega) a1 s hs'
          · subst hs'; exact ⟨(hst q).1, by have := (hst q).2; omega⟩) (by rw [← List.append_assoc, a2]; simp [List.append_assoc]) a3
        rw [show (P2 ++ [st q]) ++ K = P2 ++ st q :: K by rw [List.append_assoc]; rfl] at h2
        exact Sr_pre a4 h2
    · rw [if_neg ho]
      exact ⟨P, O1, F', hP, hO, ⟨hQ, ho⟩, rc_rf⟩
theorem yd_lps {p : Nat} {mp : Nat → Nat → Prop} {Fi : List Bool} {Q : List Bool → Nat → Prop} {op : Nat → Prop} [DecidablePred op] {st : Nat → Int} {sub : Nat → Rs (List Int)} (hn : n ≤ 700) (hs : Sc b n (p + 1) mp Fi Q sub) (hlen : r_len n sub) (hst : ∀ q, st q ≠ 0 ∧ sr (st q) = p) (hop : ∀ q, q ≤ n → op q → q < tE b n q ∧ tE b n q ≤ n)
    (hstep : ∀ q K O F', op q → Q F' q → ∃ m, mp m (tE b n q) ∧ y_lop b n q K O F' = .inr (m, tE b n q, st q :: (dr p K O).1, (dr p K O).2, Fi)) : Sc b n p mp Fi (fun F q => Q F q ∧ ¬ op q) (fun q => r_bd (sub q) (fun L q1 => r_lp op st (tE b n) sub 700 L q1)) := by
  intro m q K O hm hq hK
  have h1 := hs m q K O hm hq (tp_le (by omega) hK)
  show Sr b n p _ (r_bd (sub q) _) _ K O
  rcases hf : sub q with z | y
  · rw [hf] at h1; exact h1
  · rw [hf] at h1
    obtain ⟨P, O1, F', a1, a2, a3, a4⟩ := h1
    have hl := hlen _ y.1 y.2 hq hf
    exact Sr_pre a4 (yd_lp hs hlen hst hop hstep hK 700 y.1 P O1 F' y.2 (by omega) hl.2 (pn_le (by omega) a1) a2 a3)
abbrev Qa (F : List Bool) : List Bool → Nat → Prop := fun F' _ => F' = F
abbrev o6 (b : Int → Int) (n q : Nat) : Prop := tM b n q 42 ∨ tM b n q 47
abbrev o5 (b : Int → Int) (n q : Nat) : Prop := tM b n q 43 ∨ tM b n q 45
theorem st_sr {p : Prop} [Decidable p] {x y : Int} {k : Nat} (hx : x ≠ 0 ∧ sr x = k) (hy : y ≠ 0 ∧ sr y = k) : (if p then x else y) ≠ 0 ∧ sr (if p then x else y) = k := by
  by_cases h : p
  · rw [if_pos h]; exact hx
  · rw [if_neg h]; exact hy
theorem yd_prd (hn : n ≤ 700) {ex : Nat → Rs (List Int)} {F : List Bool} (hl : r_len n (r_prt b n ex)) (h : Sc b n 7 (om b n) F (Qa F) (r_prt b n ex)) : Sc b n 6 (om b n) F (fun F' q => Qa F F' q ∧ ¬ o6 b n q) (r_prd b n ex) :=
  yd_lps hn h hl (fun _ => st_sr (by decide) (by decide)) (fun _ hq h => h.elim (tM_up hq) (tM_up hq)) (fun q K O F' ho hQ => ⟨1, Or.inl rfl, by rw [hQ]; exact lop_prd ho⟩)
theorem yd_sum (hn : n ≤ 700) {ex : Nat → Rs (List Int)} {F : List Bool} (hl : r_len n (r_prd b n ex)) (h : Sc b n 6 (om b n) F (fun F' q => Qa F F' q ∧ ¬ o6 b n q) (r_prd b n ex)) : Sc b n 5 (om b n) F (fun F' q => (Qa F F' q ∧ ¬ o6 b n q) ∧ ¬ o5 b n q) (r_sum b n ex) :=
  yd_lps hn h hl (fun _ => st_sr (by decide) (by decide)) (fun _ hq h => h.elim (tM_up hq) (tM_up hq)) (fun q K O F' ho hQ => ⟨1, Or.inl rfl, by rw [hQ.1]; exact lop_sum ho⟩)
abbrev Qt (b : Int → Int) (n : Nat) (F0 : List Bool) : List Bool → Nat → Prop := fun F' q => ∃ f : Bool, F' = f :: F0 ∧ (f = true ∨ (¬ tM b n q 60 ∧ ¬ tM b n q 61)) ∧ (¬ o6 b n q ∧ ¬ o5 b n q)
theorem yd_tst {ex : Nat → Rs (List Int)} {F0 : List Bool} (hl : r_len n (r_sum b n ex)) (h : ∀ f : Bool, Sc b n 5 (om b n) (f :: F0) (fun F' q => (Qa (f :: F0) F' q ∧ ¬ o6 b n q) ∧ ¬ o5 b n q) (r_sum b n ex)) : Sc b n 4 (om b n) (false :: F0) (Qt b n F0) (r_tst b n ex) := by
  intro m q K O hm hq hK
  have h1 := h false m q K O hm hq (tp_le (by omega) hK)
  unfold r_tst
  rcases hf : r_sum b n ex q with z | y
  · rw [hf] at h1; exact h1
  · rw [hf] at h1
    obtain ⟨P, O1, F', a1, a2, ⟨⟨a3, a5⟩, a6⟩, a4⟩ := h1
    have hl1 := hl _ y.1 y.2 hq hf
    have a3' : F' = false :: F0 := a3
    subst a3'
    show Sr b n 4 _ (if ¬ tM b n y.2 60 ∧ ¬ tM b n y.2 61 then _ else _) _ K O
    by_cases hc : ¬ tM b n y.2 60 ∧ ¬ tM b n y.2 61
    · rw [if_pos hc]
      exact ⟨P, O1, _, pn_le (by omega) a1, a2, ⟨false, rfl, Or.inr hc, a5, a6⟩, a4⟩
    · rw [if_neg hc]
      have ho : tM b n y.2 60 ∨ tM b n y.2 61 := by
        by_cases h6 : tM b n y.2 60
        · exact Or.inl h6
        · exact Or.inr (Decidable.byContradiction fun h7 => hc ⟨h6, h7⟩)
      have hup : y.2 < tE b n y.2 ∧ tE b n y.2 ≤ n := ho.elim (tM_up hl1.2) (tM_up hl1.2)
      have hst := st_sr (p := tM b n y.2 60) (x := -10) (y := -11) (k := 4) (by decide) (by decide)
      have hy := lop_tst (K := P ++ K) (O := O1) (F0 := F0) ho
      rw [dr_pend hK P O1 (pn_le (by omega) a1), a2] at hy
      have h2 := h true 1 (tE b n y.2) ((if tM b n y.2 60 then -10 else -11) :: K) (O ++ y.1) (Or.inl rfl) hup.2 (tp_c (Or.inr (by omega)))
      refine Sr_pre (rc_tr a4 (rc_s (y1_0.trans hy) rc_rf)) ?_
      rcases hf2 : r_sum b n ex (tE b n y.2) with z | x
      · rw [hf2] at h2; exact h2
      · rw [hf2] at h2
        obtain ⟨P2, O2, F2, b1, b2, ⟨⟨b3, b5⟩, b6⟩, b4⟩ := h2
        refine ⟨P2 ++ [if tM b n y.2 60 then -10 else -11], O2, F2, ?_, ?_, ⟨true, b3, Or.inl rfl, b5, b6⟩, ?_⟩
        · intro s hs'
          rw [List.mem_append, List.mem_singleton] at hs'
          rcases hs' with hs' | hs'
          · exact pn_le (by omega) b1 s hs'
          · subst hs'; exact ⟨hst.1, by omega⟩
        · rw [← List.append_assoc, b2]; simp [List.append_assoc]
        · rw [show (P2 ++ [if tM b n y.2 60 then (-10 : Int) else -11]) ++ K = P2 ++ (if tM b n y.2 60 then -10 else -11) :: K by rw [List.append_assoc]; rfl]
          exact b4
theorem r_nc_stop {b : Int → Int} {n : Nat} : ∀ k q : Nat, (r_nc b n k q).1 < k → ¬ tW b n (r_nc b n k q).2 7
  | 0, q, h => absurd h (Nat.not_lt_zero _)
  | k + 1, q, h => by
    by_cases hw : tW b n q 7
    · have e : r_nc b n (k + 1) q = ((r_nc b n k (tE b n q)).1 + 1, (r_nc b n k (tE b n q)).2) := if_pos hw
      rw [e] at h ⊢
      exact r_nc_stop k (tE b n q) (by have : (r_nc b n k (tE b n q)).1 + 1 < k + 1 := h; omega)
    · have e : r_nc b n (k + 1) q = (0, q) := if_neg hw
      rw [e]; exact hw
theorem yd_nc {F O : List _} : ∀ (k i q : Nat) (K : List Int), i + k = 6 → Rc b n (2 + i, q, K, O, F) (.inr (2 + i + (r_nc b n k q).1, (r_nc b n k q).2, List.replicate (r_nc b n k q).1 (-9) ++ K, O, F))
  | 0, i, q, K, hi => rc_rf
  | k + 1, i, q, K, hi => by
    by_cases hw : tW b n q 7
    · have e : r_nc b n (k + 1) q = ((r_nc b n k (tE b n q)).1 + 1, (r_nc b n k (tE b n q)).2) := if_pos hw
      have hy : y1 b n (2 + i, q, K, O, F) = .inr (2 + (i + 1), tE b n q, -9 :: K, O, F) := by
        unfold y1
        rw [if_neg (by show ¬ 2 + i = 20; omega), if_neg (by show ¬ 2 + i = 0; omega), if_pos ⟨by show 2 ≤ 2 + i; omega, hw⟩, if_neg (by show ¬ 2 + i = 8; omega)]
        rfl
      have ih := yd_nc (F := F) (O := O) k (i + 1) (tE b n q) (-9 :: K) (by omega)
      have h2 := rc_s hy ih
      rw [e]
      have e2 : List.replicate ((r_nc b n k (tE b n q)).1 + 1) (-9 : Int) ++ K = List.replicate (r_nc b n k (tE b n q)).1 (-9) ++ (-9 :: K) := by rw [List.replicate_succ', List.append_assoc]; rfl
      show Rc b n _ (.inr (2 + i + ((r_nc b n k (tE b n q)).1 + 1), _, List.replicate ((r_nc b n k (tE b n q)).1 + 1) (-9) ++ K, O, F))
      rw [e2, show 2 + i + ((r_nc b n k (tE b n q)).1 + 1) = 2 + (i + 1) + (r_nc b n k (tE b n q)).1 by omega]
      exact h2
    · have e : r_nc b n (k + 1) q = (0, q) := if_neg hw
      rw [e]; exact rc_rf
abbrev m2 : Nat → Nat → Prop := fun m _ => m = 2
theorem yd_not {ex : Nat → Rs (List Int)} {F0 : List Bool} (h : Sc b n 4 (om b n) (false :: F0) (Qt b n F0) (r_tst b n ex)) : Sc b n 3 m2 (false :: F0) (Qt b n F0) (r_not b n ex) := by
  intro m q K O hm hq hK
  have hm2 : m = 2 := hm
  subst hm2
  have h0 := yd_nc (b := b) (n := n) (F := false :: F0) (O := O) 6 0 q K rfl
  have hin := r_nc_in (b := b) (n := n) 6 q hq
  have hstop := r_nc_stop (b := b) (n := n) 6 q
  unfold r_not
  refine Sr_pre h0 ?_
  obtain ⟨i, q1, e⟩ : ∃ i q1, r_nc b n 6 q = (i, q1) := ⟨_, _, rfl⟩
  rw [e] at hin hstop ⊢
  obtain ⟨i1, i2, i3⟩ := hin
  have i1' : q + i ≤ q1 := i1
  have i2' : q1 ≤ n := i2
  have i3' : i ≤ 6 := i3
  have hs' : i < 6 → ¬ tW b n q1 7 := hstop
  show Sr b n 3 _ (if i = 6 ∧ tW b n q1 7 then .inl (2, q1) else r_bd (r_tst b n ex q1) (fun L q2 => .inr (L ++ List.replicate i (-9), q2))) (2 + 0 + i, q1, List.replicate i (-9) ++ K, O, false :: F0) K O
  by_cases hc : i = 6 ∧ tW b n q1 7
  · rw [if_pos hc]
    refine rc_i ?_
    unfold y1
    rw [if_neg (by show ¬ 2 + 0 + i = 20; omega), if_neg (by show ¬ 2 + 0 + i = 0; omega), if_pos ⟨by show 2 ≤ 2 + 0 + i; omega, hc.2⟩, if_pos (by show 2 + 0 + i = 8; omega)]
  · rw [if_neg hc]
    have hnw : ¬ tW b n q1 7 := fun hw => by
      by_cases h6 : i = 6
      · exact hc ⟨h6, hw⟩
      · exact hs' (by omega) hw
    have htp : tp 4 (List.replicate i (-9) ++ K) := by
      cases i with
      | zero => exact tp_le (by omega) hK
      | succ j => exact tp_c (Or.inr (by decide))
    have h1 := h (2 + 0 + i) q1 (List.replicate i (-9) ++ K) O (Or.inr ⟨by omega, by omega, hnw⟩) i2' htp
    rcases hf : r_tst b n ex q1 with z | y
    · rw [hf] at h1; exact h1
    · rw [hf] at h1
      obtain ⟨P, O1, F', a1, a2, a3, a4⟩ := h1
      refine ⟨P ++ List.replicate i (-9), O1, F', ?_, ?_, a3, ?_⟩
      · intro s hs2
        rw [List.mem_append, List.mem_replicate] at hs2
        rcases hs2 with hs2 | hs2
        · exact pn_le (by omega) a1 s hs2
        · rw [hs2.2]; decide
      · rw [← List.append_assoc, a2, List.append_assoc]
      · rw [List.append_assoc]; exact a4
theorem yd_and (hn : n ≤ 700) {ex : Nat → Rs (List Int)} {F0 : List Bool} (hl : r_len n (r_not b n ex)) (h : Sc b n 3 m2 (false :: F0) (Qt b n F0) (r_not b n ex)) : Sc b n 2 m2 (false :: F0) (fun F' q => Qt b n F0 F' q ∧ ¬ tW b n q 14) (r_and b n ex) :=
  yd_lps hn h hl (fun _ => by decide) (fun _ hq h => tW_up hq h) (fun q K O F' ho hQ => ⟨2, rfl, by obtain ⟨f, hf, -⟩ := hQ; rw [hf]; exact lop_and ho⟩)
theorem yd_exp1 (hn : n ≤ 700) {ex : Nat → Rs (List Int)} {F0 : List Bool} (hl : r_len n (r_and b n ex)) (h : Sc b n 2 m2 (false :: F0) (fun F' q => Qt b n F0 F' q ∧ ¬ tW b n q 14) (r_and b n ex)) : Sc b n 1 m2 (false :: F0) (fun F' q => (Qt b n F0 F' q ∧ ¬ tW b n q 14) ∧ ¬ tW b n q 15) (fun q => r_bd (r_and b n ex q) (fun L q1 => r_lp (fun q => tW b n q 15) (fun _ => -7) (tE b n) (r_and b n ex) 700 L q1)) :=
  yd_lps hn h hl (fun _ => by decide) (fun _ hq h => tW_up hq h) (fun q K O F' ho hQ => ⟨2, rfl, by obtain ⟨⟨f, hf, -⟩, -⟩ := hQ; rw [hf]; exact lop_or ho⟩)
abbrev Qe (b : Int → Int) (n : Nat) (F0 : List Bool) : List Bool → Nat → Prop := fun F' q => ∃ f : Bool, F' = f :: F0 ∧ nx0 b n f q
theorem yd_prt {d : Nat} {F : List Bool} (hF : F.length = 6 - d) (hd : d ≤ 5) (h : 0 < d → Sc b n 1 m2 (false :: F) (Qe b n F) (r_exp b n d)) (hl : r_len n (r_exp b n d)) : Sc b n 7 (om b n) F (Qa F) (r_prt b n (r_exp b n d)) := by
  intro m q K O hm hq hK
  have hy := y1_om (K := K) (O := O) (F := F) hm
  unfold r_prt
  by_cases h1 : tM b n q 40
  · rw [if_pos h1] at hy ⊢
    have hup := tM_up hq h1
    unfold y_opn at hy
    by_cases hd0 : d = 0
    · subst hd0
      rw [if_neg (by omega)] at hy
      exact rc_i hy
    · rw [if_pos (by omega)] at hy
      have h2 := h (by omega) 2 (tE b n q) (0 :: K) O rfl hup.2 (tp_c (Or.inl rfl))
      refine Sr_pre (rc_s hy rc_rf) ?_
      rcases hf : r_exp b n d (tE b n q) with z | y
      · rw [hf] at h2; exact h2
      · rw [hf] at h2
        obtain ⟨P, O1, F', a1, a2, ⟨f, rfl, a3⟩, a4⟩ := h2
        show Sr b n 7 _ (if tM b n y.2 41 then .inr (y.1, tE b n y.2) else .inl (1, y.2)) _ K O
        by_cases hc : tM b n y.2 41
        · rw [if_pos hc]
          have hz := lop_cls (K := P ++ 0 :: K) (O := O1) (F := f :: F) hc (by simp)
          rw [dr_pend (tp_c (Or.inl rfl)) P O1 (pn_le (by omega) a1), a2] at hz
          exact ⟨[], O ++ y.1, F, pn_nil, by rw [List.append_nil], rfl, rc_tr a4 (rc_s (y1_0.trans hz) rc_rf)⟩
        · rw [if_neg hc]
          have hz := lop_end (K := P ++ 0 :: K) (O := O1) (F0 := F) a3 (fun e => hc e.1)
          rw [if_pos (by rw [List.length_cons]; omega)] at hz
          exact rc_tr a4 (rc_i (y1_0.trans hz))
  · rw [if_neg h1] at hy ⊢
    unfold y_prt at hy
    by_cases h3 : tK b n q = 3
    · rw [if_neg (fun e => e.1 h3)]
      rw [if_pos h3] at hy
      by_cases h4 : tL b n q
      · rw [if_pos ⟨h3, h4⟩]
        rw [if_pos h4] at hy
        exact rc_i hy
      · rw [if_neg (fun e => h4 e.2), if_pos h3]
        rw [if_neg h4] at hy
        exact ⟨[], _, F, pn_nil, by rw [List.append_nil], rfl, rc_s hy rc_rf⟩
    · rw [if_neg h3] at hy
      by_cases h2 : tK b n q = 2
      · rw [if_neg (fun e => e.2 h2), if_neg (fun e => h3 e.1), if_neg h3]
        rw [if_pos h2] at hy
        by_cases h5 : r_vs b n q = -16
        · rw [if_pos h5] at hy ⊢
          exact rc_i hy
        · rw [if_neg h5] at hy ⊢
          exact ⟨[], _, F, pn_nil, by rw [List.append_nil], rfl, rc_s hy rc_rf⟩
      · rw [if_pos ⟨h3, h2⟩]
        rw [if_neg h2] at hy
        exact rc_i hy
theorem yd_exp (hn : n ≤ 700) : ∀ (d : Nat) (F0 : List Bool), d ≤ 5 → F0.length = 5 - d → Sc b n 1 m2 (false :: F0) (Qe b n F0) (r_exp b n (d + 1))
  | d, F0, hd, hF => by
    have hx : ∀ f : Bool, 0 < d → Sc b n 1 m2 (false :: (f :: F0)) (Qe b n (f :: F0)) (r_exp b n d) := by
      intro f h0
      cases d with
      | zero => exact absurd h0 (Nat.lt_irrefl 0)
      | succ e => exact yd_exp hn e (f :: F0) (by omega) (by rw [List.length_cons]; omega)
    have a1 : ∀ f : Bool, Sc b n 7 (om b n) (f :: F0) (Qa (f :: F0)) (r_prt b n (r_exp b n d)) := fun f => yd_prt (by rw [List.length_cons]; omega) hd (hx f) (r_exp_len d)
    have a2 := fun f => yd_prd hn (r_prt_len (r_exp_len d)) (a1 f)
    have a3 := fun f => yd_sum hn (r_prd_len (r_exp_len d)) (a2 f)
    have a4 := yd_tst (r_sum_len (r_exp_len d)) a3
    have a5 := yd_not a4
    have a6 := yd_and hn (r_not_len (r_exp_len d)) a5
    have a7 := yd_exp1 hn (r_and_len (r_exp_len d)) a6
    intro m q K O hm hq hK
    have h := a7 m q K O hm hq hK
    show Sr b n 1 (Qe b n F0) (r_bd (r_and b n (r_exp b n d) q) _) _ K O
    rcases hf : r_bd (r_and b n (r_exp b n d) q) (fun L q1 => r_lp (fun q => tW b n q 15) (fun _ => -7) (tE b n) (r_and b n (r_exp b n d)) 700 L q1) with z | y
    · have h' : Sr b n 1 _ (r_bd (r_and b n (r_exp b n d) q) (fun L q1 => r_lp (fun q => tW b n q 15) (fun _ => -7) (tE b n) (r_and b n (r_exp b n d)) 700 L q1)) _ K O := h
      rw [hf] at h'; exact h'
    · have h' : Sr b n 1 _ (r_bd (r_and b n (r_exp b n d) q) (fun L q1 => r_lp (fun q => tW b n q 15) (fun _ => -7) (tE b n) (r_and b n (r_exp b n d)) 700 L q1)) _ K O := h
      rw [hf] at h'
      obtain ⟨P, O1, F', b1, b2, ⟨⟨⟨f, b3, b4, b5⟩, b6⟩, b7⟩, b8⟩ := h'
      exact ⟨P, O1, F', b1, b2, ⟨f, b3, ⟨⟨b4, b5⟩, b6⟩, b7⟩, b8⟩
/-- the whole expression -/
theorem yd_all (hn : n ≤ 700) {q : Nat} (hq : q ≤ n) : (∀ z, r_exp b n 6 q = .inl z → Rc b n (2, q, [], [], [false]) (.inl z)) ∧ ∀ L q', r_exp b n 6 q = .inr (L, q') → ∃ P O f, O ++ P = L ∧ pn 1 P ∧ Rc b n (2, q, [], [], [false]) (.inr (20, q', P, O, [f])) := by
  have h := yd_exp (b := b) hn 5 [] (by decide) rfl 2 q [] [] rfl hq (fun s K' e => by cases e)
  constructor
  · intro z hz
    rw [hz] at h
    exact h
  · intro L q' hz
    rw [hz] at h
    obtain ⟨P, O1, F', a1, a2, ⟨f, rfl, a3⟩, a4⟩ := h
    rw [List.append_nil] at a4
    refine ⟨P, O1, f, a2, a1, rc_tr a4 (rc_s (y1_0.trans ((lop_end a3 (fun e => absurd rfl (a1 0 e.2).1)).trans (if_neg (by show ¬ 1 < 1; decide)))) rc_rf)⟩
end YARD

end C9996
