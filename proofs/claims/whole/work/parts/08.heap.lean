section XLE
variable {Z : x_Z} {pc : Nat} {L : List (Option Value)} {st : List Value} {k n : Nat} {g : Bool} {N : Nat} {sh : xS} {D : xM}
/-- a field by its entry in a class's pool: its class's number, its own -/
def x_fld (own : String) (idx c j : Nat) : Prop := ∃ (q : vw_C) (ty : Nat → FieldType), x_cl[c]? = some q ∧ j < q.2.2 ∧ (∀ w ∈ u_ws q.1 q.2.1 q.2.2, w ∈ x_T) ∧ (∀ k, k < q.2.2 → parseFieldDescriptor (q.2.1 k).2.2.1 = some (ty k)) ∧ (∀ a, a < q.2.2 → ∀ b, b < q.2.2 → a ≠ b → (q.2.1 a).2.1 ≠ (q.2.1 b).2.1) ∧ Cond.fieldLink own idx (q.2.1 j).1 (q.2.1 j).2.1 (q.2.1 j).2.2.1 ∈ x_T
def x_fty (c j : Nat) (ty : FieldType) (fin : Bool) : Prop := ∀ q : vw_C, x_cl[c]? = some q → parseFieldDescriptor (q.2.1 j).2.2.1 = some ty ∧ (q.2.1 j).2.2.2 = fin ∧ (q.2.1 j).1 = q.1
theorem x_el_o {X : xC} {q c : Nat} {ks : List Nat} (hs : sh q = .inr (c, ks)) : x_el X sh D q = .inr (c, x_fs (x_b X) (D q) 0 ks) := by
  unfold x_el; rw [hs]
theorem x_el_i {X : xC} {q t len : Nat} (hs : sh q = .inl (t, len)) (ht : t ≠ 3) : x_el X sh D q = .inl (x_cA X t, len, .inl (fun j => xI (D q j))) := by
  unfold x_el; rw [hs]; exact if_neg ht
theorem x_el_l {X : xC} {q len : Nat} (hs : sh q = .inl (3, len)) : x_el X sh D q = .inl (x_cA X 3, len, .inr (.inl (fun j => xL (D q j)))) := by
  unfold x_el; rw [hs]; exact if_pos rfl
theorem x_getV {idx c j q : Nat} {ks : List Nat} {f : Nat} (hd : decode (z_c Z) pc = .ok (.getfield idx, 3)) (hf : x_fld (z_y Z).cls idx c j) (hq : q < N) (hs : sh q = .inr (c, ks)) (hj : ks[j]? = some f) (kk : x_W Z (pc + 3) L (x_fv (x_b (z_X Z)) f (D q j) :: st) k n g N sh D) : x_W Z pc L (.ref (x_b (z_X Z) + q) :: st) k n g N sh D := by
  intro p e s m args below meth c0 H locs ls C hl hP hS
  obtain ⟨⟨A, B, E⟩, ty, h1, h2, h3, h4, h5, h6⟩ := hf
  refine va_get C.1 C.2.1 C.2.2.2.2.1 h3 C.2.2.2.1 C.2.2.2.2.2.2.2.2.2.1.1 hP.1 q (he := by rw [x_wl_at hq, x_el_o hs]) h1 j h2 (C.2.2.2.2.1 _ h6) (fun _ h => h) (x_fs_at (b := x_b (z_X Z)) (f := D q) (j := 0) hj) hd ?_
  rw [Int.zero_add]
  exact kk p e s m args below meth c0 H locs ls C hl hP hS
theorem x_getI {idx c j q : Nat} {ks : List Nat} (z : Int) (hd : decode (z_c Z) pc = .ok (.getfield idx, 3)) (hf : x_fld (z_y Z).cls idx c j) (hz : ((j : Nat) : Int) = z) (hq : q < N) (hs : sh q = .inr (c, ks)) (hj : ks[j]? = some 0) (kk : x_W Z (pc + 3) L (.int (xI (D q z)) :: st) k n g N sh D) : x_W Z pc L (.ref (x_b (z_X Z) + q) :: st) k n g N sh D := by subst hz; exact x_getV hd hf hq hs hj kk
theorem x_getL {idx c j q : Nat} {ks : List Nat} (z : Int) (hd : decode (z_c Z) pc = .ok (.getfield idx, 3)) (hf : x_fld (z_y Z).cls idx c j) (hz : ((j : Nat) : Int) = z) (hq : q < N) (hs : sh q = .inr (c, ks)) (hj : ks[j]? = some 2) (kk : x_W Z (pc + 3) L (.long (xL (D q z)) :: st) k n g N sh D) : x_W Z pc L (.ref (x_b (z_X Z) + q) :: st) k n g N sh D := by subst hz; exact x_getV hd hf hq hs hj kk
theorem x_getR {idx c j q r : Nat} {ks : List Nat} (hd : decode (z_c Z) pc = .ok (.getfield idx, 3)) (hf : x_fld (z_y Z).cls idx c j) (hq : q < N) (hs : sh q = .inr (c, ks)) (hj : ks[j]? = some (r + 3)) (kk : x_W Z (pc + 3) L (.ref (x_b (z_X Z) + r) :: st) k n g N sh D) : x_W Z pc L (.ref (x_b (z_X Z) + q) :: st) k n g N sh D := x_getV hd hf hq hs hj kk
theorem x_fs_set {b : Nat} {F : Int → Int} : ∀ {ks : List Nat} {i f : Nat} {j : Int} {v : Int} {w : Value} {F' : Int → Int}, x_fv b f v = w → i < ks.length → F' (j + i) = v → (∀ z : Int, z ≠ j + i → F' z = F z) → (x_fs b F j ks).set i w = x_fs b F' j (ks.set i f)
  | [], i, f, j, v, w, F', h1, h2, _, _ => by simp at h2
  | q0 :: r, 0, f, j, v, w, F', h1, h2, h3, h4 => by
    simp only [x_fs, List.set_cons_zero]
    rw [← h1]
    have e : F' j = v := by simpa using h3
    rw [e]
    congr 1
    have : ∀ (ks : List Nat) (a : Int), j < a → x_fs b F a ks = x_fs b F' a ks := by
      intro ks
      induction ks with
      | nil => intro a _; rfl
      | cons x y ih =>
        intro a ha
        simp only [x_fs]
        rw [h4 a (by simp; omega), ih (a + 1) (by omega)]
    exact this r (j + 1) (by omega)
  | q0 :: r, i + 1, f, j, v, w, F', h1, h2, h3, h4 => by
    simp only [x_fs, List.set_cons_succ]
    rw [x_fs_set (j := j + 1) (F' := F') h1 (by simpa using h2) (by rw [← h3]; congr 1; push_cast; omega) (fun z hz => h4 z (by push_cast at hz ⊢; omega))]
    rw [h4 j (by push_cast; omega)]
def x_sp (sh : xS) (q : Nat) (e : (Nat × Nat) ⊕ (Nat × List Nat)) : xS := fun i => if i = q then e else sh i
theorem x_sp_s {q : Nat} {e : (Nat × Nat) ⊕ (Nat × List Nat)} : x_sp sh q e q = e := if_pos rfl
theorem x_sp_n {q i : Nat} {e : (Nat × Nat) ⊕ (Nat × List Nat)} (h : i ≠ q) : x_sp sh q e i = sh i := if_neg h
theorem x_el_sp_n {X : xC} {q i : Nat} {e : (Nat × Nat) ⊕ (Nat × List Nat)} {F : Int → Int} (h : i ≠ q) : x_el X (x_sp sh q e) (x_up D q F) i = x_el X sh D i := by
  unfold x_el; rw [x_sp_n h, x_up_n h]
theorem x_sp_id {q : Nat} {e : (Nat × Nat) ⊕ (Nat × List Nat)} (h : sh q = e) : x_sp sh q e = sh := by
  funext i; unfold x_sp; split
  · next hi => rw [hi, h]
  · rfl
/-- what is put: the cell's fields behind it -/
theorem x_putV {idx c j q : Nat} {ks : List Nat} {f : Nat} {v : Int} {ty : FieldType} {w : Value} (hd : decode (z_c Z) pc = .ok (.putfield idx, 3)) (hf : x_fld (z_y Z).cls idx c j) (ht : x_fty c j ty false) (hq : q < N) (hs : sh q = .inr (c, ks)) (hj : j < ks.length) (hw : x_fv (x_b (z_X Z)) f v = w) (hn : narrow ty w = w) (hfit : fits ty w = true)
    (kk : x_W Z (pc + 3) L st k n g N (x_sp sh q (.inr (c, ks.set j f))) (x_up D q (x_u1 (D q) j v))) : x_W Z pc L (w :: .ref (x_b (z_X Z) + q) :: st) k n g N sh D := by
  intro p e s m args below meth c0 H locs ls C hl hP hS
  obtain ⟨⟨A, B, E⟩, ty0, h1, h2, h3, h4, h5, h6⟩ := hf
  obtain ⟨t1, t2, t3⟩ := ht _ h1
  refine x0_put C.1 C.2.1 C.2.2.2.2.1 h3 ty0 h4 h5 C.2.2.2.1 C.2.2.2.2.2.2.2.2.2.1.1 hP.1 x_wl_D hS q (he := by rw [x_wl_at hq, x_el_o hs]) h1 j h2 (C.2.2.2.2.1 _ h6) (fun _ h => h) t2 t1 hn hfit (by rw [x_fs_len]; exact hj) hd (fun H1 locs1 a1 a2 a3 a4 => ?_)
  refine kk p e s m args below meth c0 H1 locs1 ls C hl ⟨?_, ?_⟩ a3
  · rw [x_wl_set (sh' := x_sp sh q (.inr (c, ks.set j f))) (D' := x_up D q (x_u1 (D q) j v)) ?_ (fun i _ hi => x_el_sp_n hi)] at a1
    · exact a1
    · rw [x_el_o x_sp_s, x_up_s]
      exact congrArg _ (congrArg _ (x_fs_set (j := 0) hw hj (by rw [Int.zero_add]; exact x_u1_s) (fun z hz => x_u1_n (by rw [Int.zero_add] at hz; exact hz))))
  · intro hg; rw [a4]; exact hP.2 hg
theorem x_putVF {idx c j q : Nat} {ks : List Nat} {f : Nat} {v : Int} {ty : FieldType} {w : Value} (hd : decode (z_c Z) pc = .ok (.putfield idx, 3)) (hf : x_fld (z_y Z).cls idx c j) (ht : x_fty c j ty true) (hc : ∀ q : vw_C, x_cl[c]? = some q → q.1 = (z_y Z).cls) (hi : (z_y Z).name = "<init>") (hq : q < N) (hs : sh q = .inr (c, ks)) (hj : j < ks.length) (hw : x_fv (x_b (z_X Z)) f v = w) (hn : narrow ty w = w) (hfit : fits ty w = true)
    (kk : x_W Z (pc + 3) L st k n g N (x_sp sh q (.inr (c, ks.set j f))) (x_up D q (x_u1 (D q) j v))) : x_W Z pc L (w :: .ref (x_b (z_X Z) + q) :: st) k n g N sh D := by
  intro p e s m args below meth c0 H locs ls C hl hP hS
  obtain ⟨⟨A, B, E⟩, ty0, h1, h2, h3, h4, h5, h6⟩ := hf
  obtain ⟨t1, t2, t3⟩ := ht _ h1
  have hA := hc _ h1
  refine x0_putF C.1 C.2.1 C.2.2.2.2.1 h3 ty0 h4 h5 C.2.2.2.1 C.2.2.2.2.2.2.2.2.2.1.1 hP.1 x_wl_D hS q (he := by rw [x_wl_at hq, x_el_o hs]) h1 j h2 (C.2.2.2.2.1 _ h6) (fun _ h => h) t2 (C.2.2.2.2.2.2.2.1.trans hi) (t3.trans hA) t1 hn hfit (by rw [x_fs_len]; exact hj) hd (fun H1 locs1 a1 a2 a3 a4 => ?_)
  refine kk p e s m args below meth c0 H1 locs1 ls C hl ⟨?_, ?_⟩ a3
  · rw [x_wl_set (sh' := x_sp sh q (.inr (c, ks.set j f))) (D' := x_up D q (x_u1 (D q) j v)) ?_ (fun i _ hi => x_el_sp_n hi)] at a1
    · exact a1
    · rw [x_el_o x_sp_s, x_up_s]
      exact congrArg _ (congrArg _ (x_fs_set (j := 0) hw hj (by rw [Int.zero_add]; exact x_u1_s) (fun z hz => x_u1_n (by rw [Int.zero_add] at hz; exact hz))))
  · intro hg; rw [a4]; exact hP.2 hg
theorem x_ks_id {ks : List Nat} {j f : Nat} (hj : ks[j]? = some f) : ks.set j f = ks := by
  apply List.ext_getElem?
  intro i
  by_cases h : i = j
  · subst h
    rw [List.getElem?_set_self (List.getElem?_eq_some_iff.mp hj).1, hj]
  · rw [List.getElem?_set_ne (Ne.symm h)]
theorem x_ks_lt {ks : List Nat} {j f : Nat} (hj : ks[j]? = some f) : j < ks.length := (List.getElem?_eq_some_iff.mp hj).1
theorem x_putI {idx c j q : Nat} {ks : List Nat} {v : Int} (z : Int) (hd : decode (z_c Z) pc = .ok (.putfield idx, 3)) (hf : x_fld (z_y Z).cls idx c j) (hz : ((j : Nat) : Int) = z) (ht : x_fty c j .int false) (hq : q < N) (hs : sh q = .inr (c, ks)) (hj : ks[j]? = some 0) (kk : x_W Z (pc + 3) L st k n g N sh (x_up D q (x_u1 (D q) z v))) : x_W Z pc L (.int (xI v) :: .ref (x_b (z_X Z) + q) :: st) k n g N sh D := by
  subst hz
  exact x_putV (f := 0) (v := v) hd hf ht hq hs (x_ks_lt hj) rfl rfl rfl (by rw [x_ks_id hj, x_sp_id hs]; exact kk)
theorem x_putZ {idx c j q : Nat} {ks : List Nat} {v : Int} (z : Int) (hd : decode (z_c Z) pc = .ok (.putfield idx, 3)) (hf : x_fld (z_y Z).cls idx c j) (hz : ((j : Nat) : Int) = z) (ht : x_fty c j .boolean false) (hq : q < N) (hs : sh q = .inr (c, ks)) (hj : ks[j]? = some 0) (hv : v = 0 ∨ v = 1) (kk : x_W Z (pc + 3) L st k n g N sh (x_up D q (x_u1 (D q) z v))) : x_W Z pc L (.int (xI v) :: .ref (x_b (z_X Z) + q) :: st) k n g N sh D := by
  subst hz
  exact x_putV (f := 0) (v := v) hd hf ht hq hs (x_ks_lt hj) rfl (by rcases hv with rfl | rfl <;> rfl) (by rcases hv with rfl | rfl <;> rfl) (by rw [x_ks_id hj, x_sp_id hs]; exact kk)
theorem x_putL {idx c j q : Nat} {ks : List Nat} {v : Int} (z : Int) (hd : decode (z_c Z) pc = .ok (.putfield idx, 3)) (hf : x_fld (z_y Z).cls idx c j) (hz : ((j : Nat) : Int) = z) (ht : x_fty c j .long false) (hq : q < N) (hs : sh q = .inr (c, ks)) (hj : ks[j]? = some 2) (kk : x_W Z (pc + 3) L st k n g N sh (x_up D q (x_u1 (D q) z v))) : x_W Z pc L (.long (xL v) :: .ref (x_b (z_X Z) + q) :: st) k n g N sh D := by
  subst hz
  exact x_putV (f := 2) (v := v) hd hf ht hq hs (x_ks_lt hj) rfl rfl rfl (by rw [x_ks_id hj, x_sp_id hs]; exact kk)
theorem x_u1_id {F : Int → Int} {i : Int} : x_u1 F i (F i) = F := by
  funext j; unfold x_u1; split
  · next h => rw [h]
  · rfl
theorem x_putR {idx c j q r : Nat} {ks : List Nat} {ty : FieldType} (hd : decode (z_c Z) pc = .ok (.putfield idx, 3)) (hf : x_fld (z_y Z).cls idx c j) (ht : x_fty c j ty false) (hty : (∃ t, ty = .object t) ∨ ∃ t, ty = .array t) (hq : q < N) (hs : sh q = .inr (c, ks)) (hj : j < ks.length) (kk : x_W Z (pc + 3) L st k n g N (x_sp sh q (.inr (c, ks.set j (r + 3)))) D) : x_W Z pc L (.ref (x_b (z_X Z) + r) :: .ref (x_b (z_X Z) + q) :: st) k n g N sh D :=
  x_putV (f := r + 3) (v := D q j) hd hf ht hq hs hj rfl (by rcases hty with ⟨t, rfl⟩ | ⟨t, rfl⟩ <;> rfl) (by rcases hty with ⟨t, rfl⟩ | ⟨t, rfl⟩ <;> rfl) (by rw [x_u1_id, x_up_id]; exact kk)
theorem x_putRF {idx c j q r : Nat} {ks : List Nat} {ty : FieldType} (hd : decode (z_c Z) pc = .ok (.putfield idx, 3)) (hf : x_fld (z_y Z).cls idx c j) (ht : x_fty c j ty true) (hty : (∃ t, ty = .object t) ∨ ∃ t, ty = .array t) (hc : ∀ q : vw_C, x_cl[c]? = some q → q.1 = (z_y Z).cls) (hi : (z_y Z).name = "<init>") (hq : q < N) (hs : sh q = .inr (c, ks)) (hj : j < ks.length) (kk : x_W Z (pc + 3) L st k n g N (x_sp sh q (.inr (c, ks.set j (r + 3)))) D) : x_W Z pc L (.ref (x_b (z_X Z) + r) :: .ref (x_b (z_X Z) + q) :: st) k n g N sh D :=
  x_putVF (f := r + 3) (v := D q j) hd hf ht hc hi hq hs hj rfl (by rcases hty with ⟨t, rfl⟩ | ⟨t, rfl⟩ <;> rfl) (by rcases hty with ⟨t, rfl⟩ | ⟨t, rfl⟩ <;> rfl) (by rw [x_u1_id, x_up_id]; exact kk)
/-! arrays -/
theorem x_iald {q len : Nat} {i : Int} (hd : decode (z_c Z) pc = .ok (.iaload, 1)) (hq : q < N) (hs : sh q = .inl (0, len)) (h0 : 0 ≤ i) (h1 : i < len) (hb : len ≤ 2147483647) (kk : x_W Z (pc + 1) L (.int (xI (D q i)) :: st) k n g N sh D) : x_W Z pc L (.int (xI i) :: .ref (x_b (z_X Z) + q) :: st) k n g N sh D := by
  intro p e s m args below meth c0 H locs ls C hl hP hS
  obtain ⟨a1, a2⟩ := x_in_of h0 h1 hb
  refine va_iald C.1 C.2.1 C.2.2.2.2.2.2.2.2.2.1.1 hP.1 q 0 (ha := by rw [x_wl_at hq, x_el_i hs (by decide)]) rfl a1 hd ?_
  rw [a2, Int.toNat_of_nonneg h0]
  exact kk p e s m args below meth c0 H locs ls C hl hP hS
theorem x_bald {q len : Nat} {i : Int} (hd : decode (z_c Z) pc = .ok (.baload, 1)) (hq : q < N) (hs : sh q = .inl (1, len)) (h0 : 0 ≤ i) (h1 : i < len) (hb : len ≤ 2147483647) (kk : x_W Z (pc + 1) L (.int (xI (D q i)) :: st) k n g N sh D) : x_W Z pc L (.int (xI i) :: .ref (x_b (z_X Z) + q) :: st) k n g N sh D := by
  intro p e s m args below meth c0 H locs ls C hl hP hS
  obtain ⟨a1, a2⟩ := x_in_of h0 h1 hb
  refine va_bald C.1 C.2.1 C.2.2.2.2.2.2.2.2.2.1.1 hP.1 q 1 (ha := by rw [x_wl_at hq, x_el_i hs (by decide)]) rfl a1 hd ?_
  rw [a2, Int.toNat_of_nonneg h0]
  exact kk p e s m args below meth c0 H locs ls C hl hP hS
theorem x_zald {q len : Nat} {i : Int} (hd : decode (z_c Z) pc = .ok (.baload, 1)) (hq : q < N) (hs : sh q = .inl (2, len)) (h0 : 0 ≤ i) (h1 : i < len) (hb : len ≤ 2147483647) (kk : x_W Z (pc + 1) L (.int (xI (D q i)) :: st) k n g N sh D) : x_W Z pc L (.int (xI i) :: .ref (x_b (z_X Z) + q) :: st) k n g N sh D := by
  intro p e s m args below meth c0 H locs ls C hl hP hS
  obtain ⟨a1, a2⟩ := x_in_of h0 h1 hb
  refine va_zald C.1 C.2.1 C.2.2.2.2.2.2.2.2.2.1.1 hP.1 q 2 (ha := by rw [x_wl_at hq, x_el_i hs (by decide)]) rfl a1 hd ?_
  rw [a2, Int.toNat_of_nonneg h0]
  exact kk p e s m args below meth c0 H locs ls C hl hP hS
theorem x_lald {q len : Nat} {i : Int} (hd : decode (z_c Z) pc = .ok (.laload, 1)) (hq : q < N) (hs : sh q = .inl (3, len)) (h0 : 0 ≤ i) (h1 : i < len) (hb : len ≤ 2147483647) (kk : x_W Z (pc + 1) L (.long (xL (D q i)) :: st) k n g N sh D) : x_W Z pc L (.int (xI i) :: .ref (x_b (z_X Z) + q) :: st) k n g N sh D := by
  intro p e s m args below meth c0 H locs ls C hl hP hS
  obtain ⟨a1, a2⟩ := x_in_of h0 h1 hb
  refine va_lald C.1 C.2.1 C.2.2.2.2.2.2.2.2.2.1.1 hP.1 q 3 (ha := by rw [x_wl_at hq, x_el_l hs]) rfl a1 hd ?_
  rw [a2, Int.toNat_of_nonneg h0]
  exact kk p e s m args below meth c0 H locs ls C hl hP hS
theorem x_upd_eq {F : Int → Int} {i v : Int} (h0 : 0 ≤ i) : upd (fun j : Nat => xI (F j)) i.toNat (xI v) = fun j : Nat => xI (x_u1 F i v j) := by
  funext j
  unfold upd x_u1
  by_cases h : j = i.toNat
  · subst h
    rw [if_pos rfl, if_pos (Int.toNat_of_nonneg h0)]
  · rw [if_neg h, if_neg (by omega)]
theorem x_updL_eq {F : Int → Int} {i v : Int} (h0 : 0 ≤ i) : vp_updL (fun j : Nat => xL (F j)) i.toNat (xL v) = fun j : Nat => xL (x_u1 F i v j) := by
  funext j
  unfold vp_updL x_u1
  by_cases h : j = i.toNat
  · subst h
    rw [if_pos rfl, if_pos (Int.toNat_of_nonneg h0)]
  · rw [if_neg h, if_neg (by omega)]
theorem x_iast {q len : Nat} {i v : Int} (hd : decode (z_c Z) pc = .ok (.iastore, 1)) (hq : q < N) (hs : sh q = .inl (0, len)) (h0 : 0 ≤ i) (h1 : i < len) (hb : len ≤ 2147483647) (kk : x_W Z (pc + 1) L st k n g N sh (x_up D q (x_u1 (D q) i v))) : x_W Z pc L (.int (xI v) :: .int (xI i) :: .ref (x_b (z_X Z) + q) :: st) k n g N sh D := by
  intro p e s m args below meth c0 H locs ls C hl hP hS
  obtain ⟨a1, a2⟩ := x_in_of h0 h1 hb
  refine x0_iast C.1 C.2.1 C.2.2.2.2.2.2.2.2.2.1.1 hP.1 x_wl_D hS q 0 (ha := by rw [x_wl_at hq, x_el_i hs (by decide)]) rfl a1 hd (fun H1 locs1 b1 b2 b3 b4 => ?_)
  refine kk p e s m args below meth c0 H1 locs1 ls C hl ⟨?_, fun hg => by rw [b4]; exact hP.2 hg⟩ b3
  rw [x_wl_set (sh' := sh) (D' := x_up D q (x_u1 (D q) i v)) (by rw [x_el_i hs (by decide), x_up_s, a2, x_upd_eq h0]) (fun j _ hj => x_el_up_n hj)] at b1
  exact b1
theorem x_bast {q len : Nat} {i v : Int} (hd : decode (z_c Z) pc = .ok (.bastore, 1)) (hq : q < N) (hs : sh q = .inl (1, len)) (h0 : 0 ≤ i) (h1 : i < len) (hb : len ≤ 2147483647) (kk : x_W Z (pc + 1) L st k n g N sh (x_up D q (x_u1 (D q) i (x_by v)))) : x_W Z pc L (.int (xI v) :: .int (xI i) :: .ref (x_b (z_X Z) + q) :: st) k n g N sh D := by
  intro p e s m args below meth c0 H locs ls C hl hP hS
  obtain ⟨a1, a2⟩ := x_in_of h0 h1 hb
  refine x0_bast C.1 C.2.1 C.2.2.2.2.2.2.2.2.2.1.1 hP.1 x_wl_D hS q 1 (ha := by rw [x_wl_at hq, x_el_i hs (by decide)]) rfl a1 hd (fun H1 locs1 b1 b2 b3 b4 => ?_)
  refine kk p e s m args below meth c0 H1 locs1 ls C hl ⟨?_, fun hg => by rw [b4]; exact hP.2 hg⟩ b3
  rw [x_wl_set (sh' := sh) (D' := x_up D q (x_u1 (D q) i (x_by v))) (by rw [x_el_i hs (by decide), x_up_s, a2, vp_nar_byte, ← x_upd_eq h0, x_by, xI_toInt]) (fun j _ hj => x_el_up_n hj)] at b1
  exact b1
theorem x_zast {q len : Nat} {i v : Int} (hd : decode (z_c Z) pc = .ok (.bastore, 1)) (hq : q < N) (hs : sh q = .inl (2, len)) (h0 : 0 ≤ i) (h1 : i < len) (hb : len ≤ 2147483647) (hv : v = 0 ∨ v = 1) (kk : x_W Z (pc + 1) L st k n g N sh (x_up D q (x_u1 (D q) i v))) : x_W Z pc L (.int (xI v) :: .int (xI i) :: .ref (x_b (z_X Z) + q) :: st) k n g N sh D := by
  intro p e s m args below meth c0 H locs ls C hl hP hS
  obtain ⟨a1, a2⟩ := x_in_of h0 h1 hb
  refine x0_zast C.1 C.2.1 C.2.2.2.2.2.2.2.2.2.1.1 hP.1 x_wl_D hS q 2 (ha := by rw [x_wl_at hq, x_el_i hs (by decide)]) rfl a1 hd (fun H1 locs1 b1 b2 b3 b4 => ?_)
  refine kk p e s m args below meth c0 H1 locs1 ls C hl ⟨?_, fun hg => by rw [b4]; exact hP.2 hg⟩ b3
  have hz : vp_nar .boolean (xI v) = xI v := by rcases hv with rfl | rfl <;> rfl
  rw [hz, x_wl_set (sh' := sh) (D' := x_up D q (x_u1 (D q) i v)) (by rw [x_el_i hs (by decide), x_up_s, a2, x_upd_eq h0]) (fun j _ hj => x_el_up_n hj)] at b1
  exact b1
theorem x_last {q len : Nat} {i v : Int} (hd : decode (z_c Z) pc = .ok (.lastore, 1)) (hq : q < N) (hs : sh q = .inl (3, len)) (h0 : 0 ≤ i) (h1 : i < len) (hb : len ≤ 2147483647) (kk : x_W Z (pc + 1) L st k n g N sh (x_up D q (x_u1 (D q) i v))) : x_W Z pc L (.long (xL v) :: .int (xI i) :: .ref (x_b (z_X Z) + q) :: st) k n g N sh D := by
  intro p e s m args below meth c0 H locs ls C hl hP hS
  obtain ⟨a1, a2⟩ := x_in_of h0 h1 hb
  refine x0_last C.1 C.2.1 C.2.2.2.2.2.2.2.2.2.1.1 hP.1 x_wl_D hS q 3 (ha := by rw [x_wl_at hq, x_el_l hs]) rfl a1 hd (fun H1 locs1 b1 b2 b3 b4 => ?_)
  refine kk p e s m args below meth c0 H1 locs1 ls C hl ⟨?_, fun hg => by rw [b4]; exact hP.2 hg⟩ b3
  rw [x_wl_set (sh' := sh) (D' := x_up D q (x_u1 (D q) i v)) (by rw [x_el_l hs, x_up_s, a2, x_updL_eq h0]) (fun j _ hj => x_el_up_n hj)] at b1
  exact b1
theorem x_alen {q t len : Nat} (hd : decode (z_c Z) pc = .ok (.arraylength, 1)) (hq : q < N) (hs : sh q = .inl (t, len)) (ht : t < 3) (kk : x_W Z (pc + 1) L (.int (xI len) :: st) k n g N sh D) : x_W Z pc L (.ref (x_b (z_X Z) + q) :: st) k n g N sh D := by
  intro p e s m args below meth c0 H locs ls C hl hP hS
  have hty : ∃ ty, (x_ty (z_X Z))[t]? = some (x_cA (z_X Z) t, ty) := by
    match t, ht with
    | 0, _ => exact ⟨_, rfl⟩
    | 1, _ => exact ⟨_, rfl⟩
    | 2, _ => exact ⟨_, rfl⟩
  obtain ⟨ty, hty⟩ := hty
  exact va_alen C.1 C.2.1 C.2.2.2.2.2.2.2.2.2.1.1 hP.1 q t (ha := by rw [x_wl_at hq, x_el_i hs (by omega)]) hty (v := xI len) (by first | rfl | exact (Int32.ofInt_eq_ofNat ..).symm | simp [xI, Int32.ofInt, Int32.ofNat]) hd (kk p e s m args below meth c0 H locs ls C hl hP hS)
end XLE
