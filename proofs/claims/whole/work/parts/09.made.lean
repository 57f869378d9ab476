section XLF
variable {Z : x_Z} {pc : Nat} {L : List (Option Value)} {st : List Value} {k n : Nat} {g : Bool} {N : Nat} {sh : xS} {D : xM}
theorem x_wl_push {X : xC} {sh' : xS} {D' : xM} {H H' : Heap} (hP : va_P (x_D X) x_cl (x_wl X N sh D) H) (ho : ∀ q, q < H.size → H'[q]? = H[q]?) (hs : ∀ j, j < N → x_el X sh' D' j = x_el X sh D j) (hn : va_at (x_D X) x_cl (x_b X + N, x_el X sh' D' N) H') : va_P (x_D X) x_cl (x_wl X (N + 1) sh' D') H' := by
  intro i q hq
  obtain ⟨h1, rfl⟩ := x_wl_inv hq
  by_cases hi : i = N
  · subst hi; exact hn
  · have hi : i < N := by omega
    rw [hs i hi]
    have h2 := hP i _ (x_wl_at hi)
    exact h2.kept (ho _ h2.lt)
/-- the defaults of an array's cells, as the abstract memory has them -/
theorem x_newa {atype : ArrayType} {ty : FieldType} {t len : Nat} (hd : decode (z_c Z) pc = .ok (.newarray atype, 2)) (ha : newarray.typeOf atype = ty) (hty : (x_ty (z_X Z))[t]? = some (x_cA (z_X Z) t, ty)) (hw : Cond.arrayClass ty ∈ x_T) (hlb : len ≤ 100000) (hR1 : k + 1 ≤ (z_R Z).cells) (hR2 : n + len ≤ (z_R Z).slots)
    (kk : x_W Z (pc + 2) L (.ref (x_b (z_X Z) + N) :: st) (k + 1) (n + len) true (N + 1) (x_sp sh N (.inl (t, len))) (x_up D N (fun _ => 0))) : x_W Z pc L (.int (xI len) :: st) k n true N sh D := by
  intro p e s m args below meth c0 H locs ls C hl hP hS
  subst ha
  have hz : H.size = x_b (z_X Z) + N := hP.2 rfl
  have hr : x_r (len : Int) := ⟨by omega, by omega⟩
  have ht : (xI (len : Int)).toInt = len := x_n_of hr
  have hb : len * componentBytes (newarray.typeOf atype) ≤ 536870912 := by
    have : componentBytes (newarray.typeOf atype) ≤ 8 := by cases atype <;> decide
    calc len * componentBytes (newarray.typeOf atype) ≤ len * 8 := Nat.mul_le_mul_left _ this
      _ ≤ 536870912 := by omega
  refine va_newaK C.1 C.2.1 (C.2.2.2.2.1 _ hw) rfl hd rfl (by rw [Int32.lt_iff_toInt_lt, ht]; show ¬ (len : Int) < (0 : Int32).toInt; rw [Int32.toInt_zero]; omega) (N := len) (by unfold Int32.toNatClampNeg; rw [ht]; rfl) hb hR1 hR2 hz (fun H' cA e1 z1 o1 hAr hNm => ?_)
  have hcA : cA = x_cA (z_X Z) t := by
    have h2 := (C.2.2.2.2.2.2.2.2.2.1.1.2 t _ hty).2
    cases atype <;> exact Option.some.inj (hNm.symm.trans h2)
  subst hcA
  have hP' : x_P (z_X Z) true (N + 1) (x_sp sh N (.inl (t, len))) (x_up D N (fun _ => 0)) H' := by
    refine ⟨x_wl_push hP.1 (fun q hq => o1 q (by omega)) (fun j hj => x_el_sp_n (by omega)) ?_, fun _ => by omega⟩
    by_cases h3 : t = 3
    · subst h3
      rw [x_el_l x_sp_s, x_up_s]
      show H'[_]? = some (vp_cell _ _)
      rw [vp_cell_l, e1]
      cases atype <;> first | rfl | (simp at hty; done) | (exfalso; revert hty; simp [newarray.typeOf])
    · rw [x_el_i x_sp_s h3, x_up_s]
      show H'[_]? = some (vp_cell _ _)
      rw [vp_cell_i, e1]
      have h4 : t < 4 := by
        have := (List.getElem?_eq_some_iff.mp hty).1
        simpa using this
      rcases (show t = 0 ∨ t = 1 ∨ t = 2 by omega) with rfl | rfl | rfl <;> (cases atype <;> first | rfl | (exfalso; revert hty; simp [newarray.typeOf]))
  exact kk p e s m args below meth c0 H' locs ls C hl hP' ⟨by have := hS.1; omega, fun q h1 h2 => (o1 q (by have := hS.1; omega)).trans (hS.2.1 q h1 h2), hS.2.2⟩
/-- a class that is made: its entry, its number, its fields' kinds at the start -/
def x_mk (own : String) (idx c : Nat) (ks : List Nat) : Prop := ∃ (q : vw_C) (ty : Nat → FieldType), x_cl[c]? = some q ∧ (∀ w ∈ u_ws q.1 q.2.1 q.2.2, w ∈ x_T) ∧ (∀ k, k < q.2.2 → parseFieldDescriptor (q.2.1 k).2.2.1 = some (ty k)) ∧ Cond.classLink own idx q.1 ∈ x_T ∧ Cond.instantiable q.1 q.2.2 ∈ x_T ∧ Cond.initialized q.1 ∈ x_T ∧ ks.length = q.2.2 ∧ (∀ b j, j < q.2.2 → defaultValue (ty j) = vp_V (x_fs b (fun _ => 0) 0 ks) j)
theorem x_new {idx c : Nat} {ks : List Nat} {len : Nat} (hd : decode (z_c Z) pc = .ok (.new idx, 3)) (hm : x_mk (z_y Z).cls idx c ks) (hlen : ks.length = len) (hR1 : k + 1 ≤ (z_R Z).cells) (hR2 : n + len ≤ (z_R Z).slots)
    (kk : x_W Z (pc + 3) L (.ref (x_b (z_X Z) + N) :: st) (k + 1) (n + len) true (N + 1) (x_sp sh N (.inr (c, ks))) (x_up D N (fun _ => 0))) : x_W Z pc L st k n true N sh D := by
  intro p e s m args below meth c0 H locs ls C hl hP hS
  obtain ⟨⟨A, B, E⟩, ty, h1, h2, h3, h4, h5, h6, h7, h8⟩ := hm
  have hz : H.size = x_b (z_X Z) + N := hP.2 rfl
  have hKn := C.2.2.2.2.2.2.2.2.2.1.1.1 c _ h1
  have hE : E = len := h7.symm.trans hlen
  subst hE
  refine W.newcK C.1 C.2.1 C.2.2.2.1 (C.2.2.2.2.1 _ h4) (C.2.2.2.2.1 _ h5) (C.2.2.2.2.1 _ h6) rfl hd hR1 hR2 hKn.2.1 hz (fun H' kC hkC e1 z1 o1 => ?_)
  have hP' : x_P (z_X Z) true (N + 1) (x_sp sh N (.inr (c, ks))) (x_up D N (fun _ => 0)) H' := by
    refine ⟨x_wl_push hP.1 (fun q hq => o1 q (by omega)) (fun j hj => x_el_sp_n (by omega)) ?_, fun _ => by omega⟩
    rw [x_el_o x_sp_s, x_up_s]
    exact ⟨_, h1, (u_born ty C.2.2.2.2.1 h2 hKn hkC e1 h3).to (fun j hj => h8 _ j hj)⟩
  exact kk p e s m args below meth c0 H' locs ls C hl hP' ⟨by have := hS.1; omega, fun q h1 h2 => (o1 q (by have := hS.1; omega)).trans (hS.2.1 q h1 h2), hS.2.2⟩
theorem x_objinit {idx q : Nat} (hd : decode (z_c Z) pc = .ok (.invokespecial idx, 3)) (h1 : Cond.methodLink (z_y Z).cls idx Lib.objectInit ∈ x_T) (h2 : Cond.instanceMethod Lib.objectInit ∈ x_T) (h3 : Cond.code Lib.objectInit ⟨#[0xb1]⟩ 1 none ∈ x_T) (hf : 1 ≤ (z_R Z).frames) (hr : (st.map fun v => v.category).sum + 12 ≤ (z_R Z).locals) (kk : x_W Z (pc + 3) L st k n g N sh D) : x_W Z pc L (.ref q :: st) k n g N sh D := by
  intro p e s m args below meth c0 H locs ls C hl hP hS
  exact W.objInit C.1 C.2.1 C.2.2.2.1 (C.2.2.2.2.1 _ h1) (C.2.2.2.2.1 _ h2) (C.2.2.2.2.1 _ h3) rfl (hl.1.trans C.2.2.1.symm) rfl hd hf (by show 2 * 0 + _ + 12 ≤ _; omega) (kk p e s m args below meth c0 H locs ls C hl hP hS)
/-! Math -/
def x_mw (own : String) (idx : Nat) (y : MethodName) (cc : ByteArray) (nL : Nat) : Prop := Cond.methodLink own idx y ∈ x_T ∧ Cond.static y ∈ x_T ∧ Cond.initialized "java/lang/Math" ∈ x_T ∧ Cond.code y cc nL (some .int) ∈ x_T
theorem x_max {idx : Nat} {a b : Int} (hd : decode (z_c Z) pc = .ok (.invokestatic idx, 3)) (hw : x_mw (z_y Z).cls idx Lib.Math.max.name Lib.Math.max.code 2) (hf : 1 ≤ (z_R Z).frames) (hr : (st.map fun v => v.category).sum + 13 ≤ (z_R Z).locals) (hc : k ≤ (z_R Z).cells) (hs : n ≤ (z_R Z).slots) (kk : x_W Z (pc + 3) L (.int (xI (if x_n a < x_n b then b else a)) :: st) k n g N sh D) : x_W Z pc L (.int (xI b) :: .int (xI a) :: st) k n g N sh D := by
  intro p e s m args below meth c0 H locs ls C hl hP hS
  refine va_mmax C.1 C.2.1 (C.2.2.1.trans hl.1.symm) C.2.2.2.1 (C.2.2.2.2.1 _ hw.1) (C.2.2.2.2.1 _ hw.2.1) (C.2.2.2.2.1 _ hw.2.2.1) (C.2.2.2.2.1 _ hw.2.2.2) hf hr hc hs hd ?_
  have h := kk p e s m args below meth c0 H locs ls C hl hP hS
  rw [apply_ite xI] at h
  simp only [xI_lt]
  exact h
theorem x_min {idx : Nat} {a b : Int} (hd : decode (z_c Z) pc = .ok (.invokestatic idx, 3)) (hw : x_mw (z_y Z).cls idx Lib.Math.min.name Lib.Math.min.code 2) (hf : 1 ≤ (z_R Z).frames) (hr : (st.map fun v => v.category).sum + 13 ≤ (z_R Z).locals) (hc : k ≤ (z_R Z).cells) (hs : n ≤ (z_R Z).slots) (kk : x_W Z (pc + 3) L (.int (xI (if x_n b < x_n a then b else a)) :: st) k n g N sh D) : x_W Z pc L (.int (xI b) :: .int (xI a) :: st) k n g N sh D := by
  intro p e s m args below meth c0 H locs ls C hl hP hS
  refine va_mmin C.1 C.2.1 (C.2.2.1.trans hl.1.symm) C.2.2.2.1 (C.2.2.2.2.1 _ hw.1) (C.2.2.2.2.1 _ hw.2.1) (C.2.2.2.2.1 _ hw.2.2.1) (C.2.2.2.2.1 _ hw.2.2.2) hf hr hc hs hd ?_
  have h := kk p e s m args below meth c0 H locs ls C hl hP hS
  rw [apply_ite xI] at h
  simp only [xI_lt]
  exact h
theorem x_abs {idx : Nat} {a : Int} (hd : decode (z_c Z) pc = .ok (.invokestatic idx, 3)) (hw : x_mw (z_y Z).cls idx Lib.Math.abs.name Lib.Math.abs.code 1) (hf : 1 ≤ (z_R Z).frames) (hr : (st.map fun v => v.category).sum + 13 ≤ (z_R Z).locals) (hc : k ≤ (z_R Z).cells) (hs : n ≤ (z_R Z).slots) (kk : x_W Z (pc + 3) L (.int (xI (if 0 ≤ x_n a then a else 0 - a)) :: st) k n g N sh D) : x_W Z pc L (.int (xI a) :: st) k n g N sh D := by
  intro p e s m args below meth c0 H locs ls C hl hP hS
  refine va_mabs C.1 C.2.1 (C.2.2.1.trans hl.1.symm) C.2.2.2.1 (C.2.2.2.2.1 _ hw.1) (C.2.2.2.2.1 _ hw.2.1) (C.2.2.2.2.1 _ hw.2.2.1) (C.2.2.2.2.1 _ hw.2.2.2) hf hr hc hs hd ?_
  have h := kk p e s m args below meth c0 H locs ls C hl hP hS
  rw [apply_ite xI, xI_sub] at h
  simp only [← xI_0, xI_le, x_n0]
  exact h
/-! System.arraycopy of ints, between two arrays or within one -/
def x_cpy (F G : Int → Int) (sp dp len : Int) : Int → Int := fun j => if dp ≤ j ∧ j < dp + len then F (sp + (j - dp)) else G j
theorem x_copy {idx q0 q1 n0 n1 : Nat} {sp dp len : Int} (hd : decode (z_c Z) pc = .ok (.invokestatic idx, 3)) (hw : Cond.methodLink (z_y Z).cls idx arraycopyName ∈ x_T ∧ Cond.native arraycopyName ∈ x_T ∧ Cond.static arraycopyName ∈ x_T ∧ Cond.initialized "java/lang/System" ∈ x_T) (hq0 : q0 < N) (hs0 : sh q0 = .inl (0, n0)) (hq1 : q1 < N) (hs1 : sh q1 = .inl (0, n1)) (h1 : 0 ≤ sp) (h2 : 0 ≤ dp) (h3 : 0 ≤ len) (h4 : sp + len ≤ n0) (h5 : dp + len ≤ n1) (hb0 : n0 ≤ 2147483647) (hb1 : n1 ≤ 2147483647) (hf : 1 ≤ (z_R Z).frames) (hr : (st.map fun v => v.category).sum + (nativeFrameWords "java/lang/System" "arraycopy" 5 + 11) ≤ (z_R Z).locals)
    (kk : x_W Z (pc + 3) L st k n false N sh (x_up D q1 (x_cpy (D q0) (D q1) sp dp len))) : x_W Z pc L (.int (xI len) :: .int (xI dp) :: .ref (x_b (z_X Z) + q1) :: .int (xI sp) :: .ref (x_b (z_X Z) + q0) :: st) k n false N sh D := by
  intro p e s m args below meth c0 H locs ls C hl hP hS
  have t1 : (xI sp).toInt = sp := x_n_of ⟨by omega, by omega⟩
  have t2 : (xI dp).toInt = dp := x_n_of ⟨by omega, by omega⟩
  have t3 : (xI len).toInt = len := x_n_of ⟨by omega, by omega⟩
  have c1 : (xI sp).toNatClampNeg = sp.toNat := by unfold Int32.toNatClampNeg; rw [t1]
  have c2 : (xI dp).toNatClampNeg = dp.toNat := by unfold Int32.toNatClampNeg; rw [t2]
  have c3 : (xI len).toNatClampNeg = len.toNat := by unfold Int32.toNatClampNeg; rw [t3]
  have ng : ∀ z : Int, 0 ≤ z → (xI z).toInt = z → ¬ xI z < 0 := fun z h e => by rw [Int32.lt_iff_toInt_lt, e, Int32.toInt_zero]; omega
  refine va_copyi C.1 C.2.1 (C.2.2.1.trans hl.1.symm) C.2.2.2.1 (C.2.2.2.2.1 _ hw.1) (C.2.2.2.2.1 _ hw.2.1) (C.2.2.2.2.1 _ hw.2.2.1) (C.2.2.2.2.1 _ hw.2.2.2) C.2.2.2.2.2.2.2.2.2.1.1 hP.1 x_wl_D hS q0 q1 0 0 (ty := .int) (ha0 := by rw [x_wl_at hq0, x_el_i hs0 (by decide)]) (ha1 := by rw [x_wl_at hq1, x_el_i hs1 (by decide)]) rfl rfl rfl (ng sp h1 t1) (ng dp h2 t2) (ng len h3 t3) (by rw [c1, c3]; omega) (by rw [c2, c3]; omega) (fun i _ => rfl) hf hr hd (fun H1 locs1 b1 b2 b3 => ?_)
  refine kk p e s m args below meth c0 H1 locs1 ls C hl ⟨?_, fun hg => by cases hg⟩ b3
  rw [x_wl_set (sh' := sh) (D' := x_up D q1 (x_cpy (D q0) (D q1) sp dp len)) ?_ (fun j _ hj => x_el_up_n hj)] at b1
  · exact b1
  · rw [x_el_i hs1 (by decide), x_up_s, c1, c2, c3]
    congr 4
    funext j
    unfold va_cpy x_cpy
    by_cases h : dp.toNat ≤ j ∧ j < dp.toNat + len.toNat
    · rw [if_pos h, if_pos (by omega)]; show xI (D q0 ((sp.toNat + (j - dp.toNat) : Nat) : Int)) = _; rw [show ((sp.toNat + (j - dp.toNat) : Nat) : Int) = sp + ((j : Int) - dp) by omega]
    · rw [if_neg h, if_neg (by omega)]
end XLF
