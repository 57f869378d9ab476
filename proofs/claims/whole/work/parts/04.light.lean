/-! ===== THE LIGHT LAYER: an abstract memory of Ints by cell numbers, one judgement over the machine's W ===== -/
section XLA
def xI (z : Int) : Int32 := Int32.ofInt z
def xL (z : Int) : Int64 := Int64.ofInt z
abbrev xM : Type := Nat → Int → Int
abbrev xS : Type := Nat → (Nat × Nat) ⊕ (Nat × List Nat)
/-- the run's context: the first cell's address; classes' numbers and slots; the array classes; the String constants' cells -/
abbrev xC : Type := Nat × va_G × (Nat → ClassId) × (Nat → Nat) × (Nat → Nat)
abbrev x_b (X : xC) : Nat := X.1
abbrev x_D (X : xC) : va_G := X.2.1
abbrev x_cA (X : xC) : Nat → ClassId := X.2.2.1
abbrev x_k (X : xC) : Nat → Nat := X.2.2.2.1
abbrev x_v (X : xC) : Nat → Nat := X.2.2.2.2
abbrev x_cl : List vw_C := [(RX0, TX0, 3), (RX1, TX1, 6), (RX2, TX2, 1), (RX3, TX3, 7), (RX9, TX9, 1), (RX5, TX5, 10), (RX6, TX6, 8), (RX7, TX7, 5), (RX8, TX8, 4), (RX9, TX9, 1), (RX9, TX9, 1), (RX11, TX11, 15), (RX12, TX12, 63)]
abbrev x_ty (X : xC) : List (ClassId × FieldType) := [(x_cA X 0, .int), (x_cA X 1, .byte), (x_cA X 2, .boolean), (x_cA X 3, .long)]
def x_fv (b : Nat) (q : Nat) (z : Int) : Value := match q with
  | 0 => .int (xI z)
  | 1 => .null
  | 2 => .long (xL z)
  | r + 3 => .ref (b + r)
def x_fs (b : Nat) (f : Int → Int) : Int → List Nat → List Value
  | _, [] => []
  | j, q :: r => x_fv b q (f j) :: x_fs b f (j + 1) r
def x_el (X : xC) (sh : xS) (D : xM) (k : Nat) : va_E := match sh k with
  | .inl (t, n) => if t = 3 then .inl (x_cA X 3, n, .inr (.inl (fun j => xL (D k j)))) else .inl (x_cA X t, n, .inl (fun j => xI (D k j)))
  | .inr (c, ks) => .inr (c, x_fs (x_b X) (D k) 0 ks)
def x_wl (X : xC) (N : Nat) (sh : xS) (D : xM) : va_W := (List.range N).map (fun k => (x_b X + k, x_el X sh D k))
def x_A (X : xC) : Nat → Prop := fun q => x_b X ≤ q
def x_P (X : xC) (g : Bool) (N : Nat) (sh : xS) (D : xM) (H : Heap) : Prop := va_P (x_D X) x_cl (x_wl X N sh D) H ∧ (g = true → H.size = x_b X + N)
theorem x_wl_at {X : xC} {N : Nat} {sh : xS} {D : xM} {k : Nat} (h : k < N) : (x_wl X N sh D)[k]? = some (x_b X + k, x_el X sh D k) := by
  simp [x_wl, h]
theorem x_wl_len {X : xC} {N : Nat} {sh : xS} {D : xM} : (x_wl X N sh D).length = N := by simp [x_wl]
theorem x_wl_inv {X : xC} {N : Nat} {sh : xS} {D : xM} {k : Nat} {q : Nat × va_E} (h : (x_wl X N sh D)[k]? = some q) : k < N ∧ q = (x_b X + k, x_el X sh D k) := by
  have hk : k < N := by
    have := (List.getElem?_eq_some_iff.mp h).1
    rwa [x_wl_len] at this
  rw [x_wl_at hk] at h
  exact ⟨hk, (Option.some.inj h).symm⟩
theorem x_wl_D {X : xC} {N : Nat} {sh : xS} {D : xM} : va_D (x_A X) (x_wl X N sh D) := by
  refine ⟨fun i j p q hp hq h => ?_, fun k q hq => ?_⟩
  · have h1 := (x_wl_inv hp).2
    have h2 := (x_wl_inv hq).2
    subst h1; subst h2
    simpa using h
  · have h1 := (x_wl_inv hq).2
    subst h1
    exact Nat.le_add_right _ _
/-- one cell of the world changed -/
def x_up (D : xM) (k : Nat) (f : Int → Int) : xM := fun j => if j = k then f else D j
def x_u1 (f : Int → Int) (i v : Int) : Int → Int := fun j => if j = i then v else f j
theorem x_up_s {D : xM} {k : Nat} {f : Int → Int} : x_up D k f k = f := if_pos rfl
theorem x_up_n {D : xM} {k j : Nat} {f : Int → Int} (h : j ≠ k) : x_up D k f j = D j := if_neg h
theorem x_u1_s {f : Int → Int} {i v : Int} : x_u1 f i v i = v := if_pos rfl
theorem x_u1_n {f : Int → Int} {i j v : Int} (h : j ≠ i) : x_u1 f i v j = f j := if_neg h
theorem x_up_up {D : xM} {k : Nat} {f g : Int → Int} : x_up (x_up D k f) k g = x_up D k g := by
  funext j; simp only [x_up]; split <;> rfl
theorem x_up_id {D : xM} {k : Nat} : x_up D k (D k) = D := by
  funext j; simp only [x_up]; split
  · next h => rw [h]
  · rfl
theorem x_wl_set {X : xC} {N : Nat} {sh sh' : xS} {D D' : xM} {k : Nat} {e : va_E} (he : e = x_el X sh' D' k) (ho : ∀ j, j < N → j ≠ k → x_el X sh' D' j = x_el X sh D j) : (x_wl X N sh D).set k (x_b X + k, e) = x_wl X N sh' D' := by
  apply List.ext_getElem?
  intro i
  by_cases hi : i < N
  · by_cases hk : i = k
    · subst hk
      rw [List.getElem?_set_self (by rw [x_wl_len]; exact hi), x_wl_at hi, he]
    · rw [List.getElem?_set_ne (Ne.symm hk), x_wl_at hi, x_wl_at hi, ho i hi hk]
  · have h1 : (x_wl X N sh' D')[i]? = none := List.getElem?_eq_none (by rw [x_wl_len]; omega)
    have h2 : ((x_wl X N sh D).set k (x_b X + k, e))[i]? = none := List.getElem?_eq_none (by rw [List.length_set, x_wl_len]; omega)
    rw [h1, h2]
theorem x_el_up_n {X : xC} {sh : xS} {D : xM} {k j : Nat} {f : Int → Int} (h : j ≠ k) : x_el X sh (x_up D k f) j = x_el X sh D j := by
  unfold x_el
  rw [x_up_n h]
theorem x_fs_at {b : Nat} {f : Int → Int} : ∀ {ks : List Nat} {i : Nat} {j : Int} {q : Nat}, ks[i]? = some q → (x_fs b f j ks)[i]? = some (x_fv b q (f (j + i)))
  | [], i, j, q, h => by simp at h
  | q0 :: r, 0, j, q, h => by
    simp at h
    subst h
    simp [x_fs]
  | q0 :: r, i + 1, j, q, h => by
    simp only [List.getElem?_cons_succ] at h
    have := x_fs_at (b := b) (f := f) (j := j + 1) h
    simp only [x_fs, List.getElem?_cons_succ, this]
    congr 3
    push_cast
    omega
theorem x_fs_len {b : Nat} {f : Int → Int} : ∀ {ks : List Nat} {j : Int}, (x_fs b f j ks).length = ks.length
  | [], j => rfl
  | q0 :: r, j => by simp [x_fs, x_fs_len]
end XLA
