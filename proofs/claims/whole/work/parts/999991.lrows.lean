section L1
/-! ===== rows for the law: a throw that is caught, a call of a method with a table, the script, the end ===== -/
variable {Z : x_Z} {pc : Nat} {L : List (Option Value)} {st : List Value} {k n : Nat} {g : Bool} {N : Nat} {sh : xS} {D : xM}
theorem x_callVC {idx c q d mc ms nA : Nat} {ks : List Nat} {y : MethodName} {cc : ByteArray} {nL : Nat} {rt : Option FieldType} {As rest : List Value} {N1 : Nat} {sh1 : xS} {D1 : xM → Prop} {E name : String} (hd : decode (z_c Z) pc = .ok (.invokevirtual idx, 3)) (hc : x_cv (z_y Z).cls idx y cc nL rt c nA) (hM : x_M (z_X Z) (z_l Z) y cc nL rt d mc ms (.ref (x_b (z_X Z) + q) :: As) g N sh D (.inr E) false N1 sh1 D1) (hq : q < N) (hs : sh q = .inr (c, ks)) (hnA : As.length = nA) (hst : st = As.reverse ++ .ref (x_b (z_X Z) + q) :: rest) (hw : (rest.map fun v => v.category).sum ≤ 8) (hR1 : d + 1 ≤ (z_R Z).frames) (hR2 : 64 * d + 60 ≤ (z_R Z).locals) (hR3 : k + mc ≤ (z_R Z).cells) (hR4 : n + ms ≤ (z_R Z).slots)
    (pre : List ExceptionTableEntry) (x : ExceptionTableEntry) (suf : List ExceptionTableEntry) (hsplit : tableOf (z_h Z) = pre ++ x :: suf) (hpass : ∀ z ∈ pre, z.catchType ≠ 0 ∧ Cond.classLink (z_y Z).cls z.catchType x_NSE ∈ x_T ∧ E = x_IAE) (hx : covers x pc = true) (h0 : x.catchType ≠ 0) (hlink : Cond.classLink (z_y Z).cls x.catchType name ∈ x_T) (hcast : Cond.castable E name ∈ x_Tw)
    (kk : ∀ (q9 : Nat) D2, D1 D2 → x_W Z x.handlerPc L [.ref q9] (k + mc) (n + ms) false N1 sh1 D2) : x_W Z pc L st k n g N sh D := by
  intro p e s m args below meth c0 H locs ls C hl hP hS
  obtain ⟨⟨r, w0, w1⟩, w2, w3, w4, w5, w6, w7, w8, w9, w10⟩ := hc
  have hts := C.2.2.2.2.1
  have hE := C.2.2.2.2.2.2.2.2.2.1.2.1
  have hr := vx_runV (As := As) (rest := rest) (n := nA) (e := e) (below := below) (meth := meth) (locs := locs) (cells := k) (slots := n) ⟨C.1, C.2.1, C.2.2.1, C.2.2.2.1, hts⟩ hM ⟨callB_of nA hts (x_good w6) rfl rfl rfl (hts _ w5) (hts _ w2) ⟨w8, w9, w10⟩ ⟨hR1, by show 8 + (nL + 11) + 64 * d ≤ _; omega⟩, hts _ w3, hts _ w4⟩ ⟨x_blind, x_cellB C.2.2.2.2.2.2.2.2.2.1.1 hP hq hs w0 w1, x_pc C hP hS⟩ (g := F0 m pc ls st) rfl hnA hl.1 hst (lv_room hw) hd ⟨hR3, hR4⟩
  intro T hT Y
  rcases hr T hT Y with ⟨v', st₀, t, T', L0, h0', Y', hL, e1, e2, ⟨v2, D2, hv2, -⟩, st1⟩ | ⟨q9, st₀, t, T', L0, E', ce, h0', Y', hL, e1, e2, ⟨D2, h1, hF, h2, h3⟩, h4, h5, h6, st1⟩
  · cases hv2
  · cases h1
    have hS' : va_S (x_A (z_X Z)) s.heap T'.heap (locs ++ L0) := ⟨Nat.le_trans hS.1 (by rw [e1, ← h0']; exact h3.1), fun q h1 h2 => by rw [e1, h3.2 q (by rw [h0']; exact Nat.lt_of_lt_of_le h1 hS.1) h2, h0']; exact hS.2.1 q h1 h2, fun q hq => by
      rcases List.mem_append.mp hq with h | h
      · exact hS.2.2 q h
      · exact hL q h⟩
    have hK := kk q9 D2 hF p e s m args below meth c0 T'.heap (locs ++ L0) ls C hl (by rw [e1]; exact h2) hS'
    obtain ⟨t2, a1, b1⟩ := vx_catch (own := (z_y Z).cls) (name := name) (E := E) (ce := ce) (q := q9) (pc := pc) (rest := rest) C.2.2.2.1 pre x suf (by rw [C.2.2.2.2.2.2.2.2.1]; exact hsplit)
      (fun z hz => Or.inr ⟨(hpass z hz).1, x_NSE, hts _ (hpass z hz).2.1, by rw [(hpass z hz).2.2]; exact hE.2.2.2.2.1⟩) hx h0 (hts _ hlink) (x_wat hts hE (List.mem_filter.mp hcast).1 (Or.inr (List.mem_filter.mp hcast).2)) (by rw [e1]; exact h4) h5 h6 hK T' rfl Y'
    exact ⟨t2, Steps.trans st1 a1, b1⟩
/-- a static call's words, of a method with a table -/
def x_csh (own : String) (idx : Nat) (y : MethodName) (cc : ByteArray) (nL : Nat) (rt : Option FieldType) (hh : List (Nat × Nat × Nat × Nat)) (nA : Nat) : Prop := Cond.methodLink own idx y ∈ x_T ∧ Cond.static y ∈ x_T ∧ Cond.initialized y.cls ∈ x_T ∧ Cond.codeWith y cc nL rt hh ∈ x_T ∧ nL ≤ 40 ∧ (y.cls ≠ "java/lang/invoke/MethodHandle" ∧ y.cls ≠ "java/lang/invoke/VarHandle" ∧ (parseMethodDescriptor y.desc).map (fun d => d.parameters.length) = some nA)
theorem x_callSH {idx d mc ms nA : Nat} {y : MethodName} {cc : ByteArray} {nL : Nat} {rt : Option FieldType} {hh : List (Nat × Nat × Nat × Nat)} {As rest : List Value} {v : Option Value} {N1 : Nat} {sh1 : xS} {D1 : xM → Prop} (hd : decode (z_c Z) pc = .ok (.invokestatic idx, 3)) (hc : x_csh (z_y Z).cls idx y cc nL rt hh nA) (hM : x_MH (z_X Z) (z_l Z) y cc nL rt hh d mc ms As N sh D (.inl v) N1 sh1 D1) (hnA : As.length = nA) (hst : st = As.reverse ++ rest) (hw : (rest.map fun v => v.category).sum ≤ 8) (hR1 : d + 1 ≤ (z_R Z).frames) (hR2 : 64 * d + 60 ≤ (z_R Z).locals) (hR3 : k + mc ≤ (z_R Z).cells) (hR4 : n + ms ≤ (z_R Z).slots)
    (kk : ∀ D2, D1 D2 → x_W Z (pc + 3) L (v.toList ++ rest) (k + mc) (n + ms) false N1 sh1 D2) : x_W Z pc L st k n false N sh D := by
  intro p e s m args below meth c0 H locs ls C hl hP hS
  obtain ⟨w2, w3, w5, w6, w7, w8, w9, w10⟩ := hc
  have hts := C.2.2.2.2.1
  have cw : vx_CSW (z_R Z) s args (z_y Z).cls idx y cc nL rt hh (.codeWith y cc nL rt hh :: x_T) (x_room d mc ms) mc ms nA := ⟨⟨rfl, rfl, hR1, by show 8 + (nL + 11) + 64 * d ≤ _; omega, pay_in hts (x_good w6), List.mem_cons_self⟩, hts _ w6, hts _ w5, ⟨w8, w9⟩, fun sig h => by
    rw [h] at w10
    exact (Option.some.inj w10).symm, hts _ w2, hts _ w3⟩
  exact x_go (vx_runSW (As := As) (rest := rest) (n := nA) ⟨C.1, C.2.1, C.2.2.1, C.2.2.2.1, hts⟩ (x_M_met hM) cw ⟨x_blind, x_pc C hP hS⟩ rfl hnA hl.1 hst (lv_room hw) hd ⟨hR3, hR4⟩) hS (fun D2 H1 locs1 hF h1 h2 => kk D2 hF p e s m args below meth c0 H1 locs1 ls C hl h1 h2)
/-! the script: its cell, its length, its ints -/
abbrev xsc (X : xC) : Nat := x_k X 28
abbrev xsl (X : xC) : Nat := x_k X 29
def xsv (X : xC) (i : Int) : Int := x_n (x_v X (100 + i.toNat))
theorem xsv_r {X : xC} {i : Int} : x_r (xsv X i) := x_n_r _
theorem x_slen (hd : decode (z_c Z) pc = .ok (.arraylength, 1)) (kk : x_W Z (pc + 1) L (.int (xI (xsl (z_X Z))) :: st) k n g N sh D) : x_W Z pc L (.ref (xsc (z_X Z)) :: st) k n g N sh D := by
  intro p e s m args below meth c H locs ls C hl hP hS
  have hE := C.2.2.2.2.2.2.2.2.2.1.2.1.2.2.2.2.2.2.2
  exact va_tlen C.1 C.2.1 hE hS (v := xI (xsl (z_X Z))) (by first | rfl | exact (Int32.ofInt_eq_ofNat ..).symm | simp [xI, Int32.ofInt, Int32.ofNat]) hd (kk p e s m args below meth c H locs ls C hl hP hS)
theorem x_sld {i : Int} (hd : decode (z_c Z) pc = .ok (.iaload, 1)) (h0 : 0 ≤ i) (h1 : i < xsl (z_X Z)) (h2 : xsl (z_X Z) ≤ 3072) (kk : x_W Z (pc + 1) L (.int (xI (xsv (z_X Z) i)) :: st) k n g N sh D) : x_W Z pc L (.int (xI i) :: .ref (xsc (z_X Z)) :: st) k n g N sh D := by
  intro p e s m args below meth c H locs ls C hl hP hS
  have hE := C.2.2.2.2.2.2.2.2.2.1.2.1.2.2.2.2.2.2.2
  obtain ⟨a1, a2⟩ := x_in_of h0 h1 (by omega)
  exact va_ti C.1 C.2.1 hE hS a1 (v := .int (xI (xsv (z_X Z) i))) (by rw [a2]; unfold xsv; rw [xI_n]) hd (kk p e s m args below meth c H locs ls C hl hP hS)
/-- the law's end: of its cells nothing more is asked -/
theorem x_retL {a : Int} (hd : decode (z_c Z) pc = .ok (.ireturn, 1)) (hr : z_t Z = some .boolean) (hz : a = 0 ∨ a = 1) (hk : k ≤ z_m Z) (hn : n ≤ z_s Z) (ho : z_o Z = .inl (some (.int (xI a)))) (hN : z_N Z = 0) (hD : z_D Z D) (hg : z_g Z = false) : x_W Z pc L [.int (xI a)] k n g N sh D := by
  intro p e s m args below meth c H locs ls C hl hP hS
  have hP0 : x_P (z_X Z) false 0 (z_S Z) D H := ⟨fun i q hq => absurd (x_wl_inv hq).1 (Nat.not_lt_zero i), fun h => by cases h⟩
  rw [hN, hg]
  refine W.widen hk hn (vx_ret (W.zret C.1 C.2.1 (C.2.2.2.2.2.1.trans hr) ?_ (fun t ht _ => x_end ho hD hP0 hS args t ht) hS.2.2 hd C.2.2.2.2.2.2.1))
  rcases hz with rfl | rfl <;> rfl
/-! outcomes -/
abbrev o_okN (q : x_O) : Prop := (∃ z : Int, q = o_i z) ∨ q = .inr x_NSE
abbrev o_okI (q : x_O) : Prop := (∃ z : Int, q = o_i z) ∨ q = .inr x_IAE
abbrev o_okB (q : x_O) : Prop := (∃ z : Int, q = o_i z) ∨ q = .inr x_NSE ∨ q = .inr x_IAE
/-- what a call's answer leaves in the law's own row -/
def outw (q : x_O) (d : xM) : xM := match q with
  | .inl (some (.int v)) => x_up d 96 (x_u1 (d 96) 0 v.toInt64.toInt)
  | _ => d
theorem outw_i {z : Int} {d : xM} : outw (o_i z) d = x_up d 96 (x_u1 (d 96) 0 (x_Il z)) := rfl
theorem outw_t {E : String} {d : xM} : outw (.inr E) d = d := rfl
theorem outw_n {q : x_O} {d : xM} {j : Nat} (h : j ≠ 96) : outw q d j = d j := by
  unfold outw
  split
  · exact x_up_n h
  · rfl
def outp (q : x_O) (P : xM → Prop) (d : xM) : Prop := ∃ d2, P d2 ∧ d = outw q d2
end L1
