section XLG
/-! ===== contracts and calls ===== -/
def x_room (d mc ms : Nat) : Room := { frames := d, cells := mc, slots := ms, locals := 64 * d }
def x_Pc (X : xC) (g : Bool) (As : List Value) (N : Nat) (sh : xS) (D : xM) : Array Value → State → Prop := fun a U => a = As.toArray ∧ (x_K X U ∧ x_E X U U.heap ∧ x_b X ≤ U.heap.size) ∧ x_P X g N sh D U.heap
/-- the method y, called with As in these cells, ends so, with those cells -/
def x_M (X : xC) (l : Launch) (y : MethodName) (cc : ByteArray) (nL : Nat) (rt : Option FieldType) (d mc ms : Nat) (As : List Value) (g : Bool) (N : Nat) (sh : xS) (D : xM) (o : x_O) (g' : Bool) (N' : Nat) (sh' : xS) (D' : xM → Prop) : Prop :=
  vx_Met l y (.code y cc nL rt :: x_T) (x_room d mc ms) (x_Pc X g As N sh D) (x_Q X o g' N' sh' D') (x_XC X o g' N' sh' D') mc ms (x_A X)
def x_entry (As : List Value) (nL : Nat) : List (Option Value) := As.map some ++ List.replicate (nL - As.length) none
theorem x_entry_mem {q : Nat × Value} : ∀ {As : List Value} {r i : Nat}, (∀ v ∈ As, v.category = 1) → q ∈ x_as i (As.map some ++ List.replicate r none) → q ∈ lv_args i As
  | [], r, i, _, h => by
    exfalso
    obtain ⟨j, -, h2⟩ := x_as_mem.mp h
    simp [List.getElem?_replicate] at h2
  | v :: vs, r, i, hc, h => by
    simp only [List.map_cons, List.cons_append, x_as, List.mem_cons] at h
    have h1 : v.category = 1 := hc v List.mem_cons_self
    simp only [lv_args, List.mem_cons]
    rw [if_neg (by omega)]
    rcases h with h | h
    · exact Or.inl h
    · exact Or.inr (x_entry_mem (fun w hw => hc w (List.mem_cons_of_mem _ hw)) h)
theorem x_sl_len : ∀ {As : List Value}, (∀ v ∈ As, v.category = 1) → (lg_sl As).length = As.length
  | [], _ => rfl
  | v :: vs, hc => by
    have h1 : v.category = 1 := hc v List.mem_cons_self
    have ih := x_sl_len (As := vs) (fun w hw => hc w (List.mem_cons_of_mem _ hw))
    simp only [lg_sl, List.flatMap_cons, List.length_append] at ih ⊢
    rw [if_neg (by omega)]
    simp [ih]
    omega
theorem x_ofW {X : xC} {l : Launch} {y : MethodName} {cc : ByteArray} {nL : Nat} {rt : Option FieldType} {d mc ms : Nat} {As : List Value} {g : Bool} {N : Nat} {sh : xS} {D : xM} {o : x_O} {g' : Bool} {N' : Nat} {sh' : xS} {D' : xM → Prop} (hy : plainName y.cls = true) (hl : l.stackTraces = false) (hc : ∀ v ∈ As, v.category = 1) (hn : As.length ≤ nL)
    (h : x_W (X, l, y, cc, nL, rt, x_room d mc ms, mc, ms, o, N', sh', D', g', []) 0 (x_entry As nL) [] 0 0 g N sh D) : x_M X l y cc nL rt d mc ms As g N sh D o g' N' sh' D' := by
  refine vx_ofW hy rfl ?_
  intro p e s m args below meth c s₁ B hml hout hv
  obtain ⟨rfl, hK, hP⟩ := hv
  have hts := atoms_spec (ws := .code y cc nL rt :: x_T) B.pre
  rw [lg_entry_eq]
  have hlv := lv_entry As (n := nL) (by rw [x_sl_len hc]; exact hn)
  have hz : c.exceptionTable.toList = [] := List.eq_nil_iff_forall_not_mem.mpr hout
  exact h p e s m _ below meth c s.heap [] _ ⟨B.exec, B.bytes, hml, findClass_of_methodNamed B.named, fun w hw => hts w (List.mem_cons_of_mem _ hw), B.returns, B.notSynchronized, (name_of_methodNamed B.named B.method).1, by rw [hz]; rfl, hK, hl⟩ ⟨hlv.1, hlv.2.1, fun q hq => hlv.2.2 q (x_entry_mem hc hq)⟩ hP va_S.rf
/-- .. of a method with a table of handlers -/
def x_MH (X : xC) (l : Launch) (y : MethodName) (cc : ByteArray) (nL : Nat) (rt : Option FieldType) (hh : List (Nat × Nat × Nat × Nat)) (d mc ms : Nat) (As : List Value) (N : Nat) (sh : xS) (D : xM) (o : x_O) (N' : Nat) (sh' : xS) (D' : xM → Prop) : Prop :=
  vx_Met l y (.codeWith y cc nL rt hh :: x_T) (x_room d mc ms) (x_Pc X false As N sh D) (x_Q X o false N' sh' D') (x_XC X o false N' sh' D') mc ms (x_A X)
theorem x_ofWH {X : xC} {l : Launch} {y : MethodName} {cc : ByteArray} {nL : Nat} {rt : Option FieldType} {hh : List (Nat × Nat × Nat × Nat)} {d mc ms : Nat} {As : List Value} {N : Nat} {sh : xS} {D : xM} {o : x_O} {N' : Nat} {sh' : xS} {D' : xM → Prop} (hy : plainName y.cls = true) (hl : l.stackTraces = false) (hc : ∀ v ∈ As, v.category = 1) (hn : As.length ≤ nL)
    (h : x_W (X, l, y, cc, nL, rt, x_room d mc ms, mc, ms, o, N', sh', D', false, hh) 0 (x_entry As nL) [] 0 0 false N sh D) : x_MH X l y cc nL rt hh d mc ms As N sh D o N' sh' D' := by
  refine vx_ofWH hy rfl ?_
  intro p e s m args below meth c s₁ B hml hv
  obtain ⟨rfl, hK, hP⟩ := hv
  have hts := atoms_spec (ws := .codeWith y cc nL rt hh :: x_T) B.pre
  rw [lg_entry_eq]
  have hlv := lv_entry As (n := nL) (by rw [x_sl_len hc]; exact hn)
  exact h p e s m _ below meth c s.heap [] _ ⟨B.exec, B.bytes, hml, findClass_of_methodNamed B.named, fun w hw => hts w (List.mem_cons_of_mem _ hw), B.returns, B.notSynchronized, (name_of_methodNamed B.named B.method).1, vx_table (x := y) B (hts _ List.mem_cons_self), hK, hl⟩ ⟨hlv.1, hlv.2.1, fun q hq => hlv.2.2 q (x_entry_mem hc hq)⟩ hP va_S.rf
theorem x_M_met {X : xC} {l : Launch} {y : MethodName} {ws : List Cond} {rm : Room} {mc ms : Nat} {Pc : Array Value → State → Prop} {v : Option Value} {g' : Bool} {N' : Nat} {sh' : xS} {D' : xM → Prop} (h : vx_Met l y ws rm Pc (x_Q X (.inl v) g' N' sh' D') (x_XC X (.inl v) g' N' sh' D') mc ms (x_A X)) : Met l y ws rm Pc (x_Q X (.inl v) g' N' sh' D') mc ms (x_A X) := by
  intro p e ha hc hk s m args below hf happ hP hK
  obtain ⟨n, o, h1, h2, h3, h4⟩ := h p e ha hc hk s m args below hf happ hP hK
  refine ⟨n, o, h1, h2, h3, ?_⟩
  rcases h4 with h4 | ⟨q, -, E, ce, L, ⟨D5, h5, -⟩, -⟩
  · exact h4
  · cases h5
theorem x_blind {X : xC} {g : Bool} {As : List Value} {N : Nat} {sh : xS} {D : xM} : FrameBlind (x_Pc X g As N sh D) := by
  intro a U f mk h
  obtain ⟨h1, ⟨h2, h3, h4⟩, h5⟩ := h
  exact ⟨h1, ⟨va_K.moved (u := U) (U := U.calling f mk a) (Vm.Alike.refl U.vm) h2, x_E_same (s := U) (U := U.calling f mk a) rfl h3, h4⟩, h5⟩
theorem x_pc {Z : x_Z} {p : Program} {s : State} {m : MethodId} {args : Array Value} {meth : Method} {c : Code} {H : Heap} {locs : List Loc} {g : Bool} {As : List Value} {N : Nat} {sh : xS} {D : xM} (C : x_Cx Z p s m args meth c) (hP : x_P (z_X Z) g N sh D H) (hS : va_S (x_A (z_X Z)) s.heap H locs) : ∀ U : State, U.heap = H → s.WarmedH U.vm → x_Pc (z_X Z) g As N sh D As.toArray U := by
  intro U hU hW
  obtain ⟨h2, h3, h4⟩ := C.2.2.2.2.2.2.2.2.2.1
  refine ⟨rfl, ⟨va_K.moved hW.alike h2, ?_, ?_⟩, by rw [hU]; exact hP⟩
  · rw [hU]; exact x_E_kept hS.2.1 (x_E_warm hW h3)
  · rw [hU]; exact Nat.le_trans h4 hS.1
section Go
variable {p : Program} {l : Launch} {e : Env} {R : Room} {s : State} {m : MethodId} {args : Array Value} {below : List Frame} {meth : Method} {c : Code} {H : Heap} {locs : List Loc} {k n : Nat} {Q : State → Prop} {pc : Nat} {ls : Array Slot} {rest st0 : List Value} {a : Array Value} {mc ms : Nat} {X : xC} {v : Option Value} {g1 : Bool} {N1 : Nat} {sh1 : xS} {D1 : xM → Prop}
theorem x_go (hr : va_Run p l e R s m args below meth c H locs k n mc ms (F0 m pc ls st0) rest (x_Q X (.inl v) g1 N1 sh1 D1 a) (x_A X)) (hS : va_S (x_A X) s.heap H locs)
    (kk : ∀ (D2 : xM) (H1 : Heap) (locs1 : List Loc), D1 D2 → x_P X g1 N1 sh1 D2 H1 → va_S (x_A X) s.heap H1 locs1 → W p l e R s m args below meth c H1 locs1 (k + mc) (n + ms) Q (F0 m (pc + 3) ls (v.toList ++ rest))) : W p l e R s m args below meth c H locs k n Q (F0 m pc ls st0) := by
  intro T hT Y
  obtain ⟨v', st₀, t, T', L, h0, Y', hL, e1, e2, ⟨v2, D2, hv2, hv, hF, hp, hz, hk⟩, st⟩ := hr T hT Y
  cases hv2
  cases hv
  rw [h0] at hz hk
  obtain ⟨t2, a1, b1⟩ := kk D2 T'.heap (locs ++ L) hF (by rw [e1]; exact hp) ⟨Nat.le_trans hS.1 (by rw [e1]; exact hz), fun q h1 h2 => by rw [e1, hk q (Nat.lt_of_lt_of_le h1 hS.1) h2]; exact hS.2.1 q h1 h2, fun q hq => by
      rcases List.mem_append.mp hq with h | h
      · exact hS.2.2 q h
      · exact hL q h⟩ T' rfl Y'
  exact ⟨t2, st t2 a1, b1⟩
/-- the callee throws, and nothing here takes it -/
theorem x_thr {Z : x_Z} {E : String} (hh : z_h Z = []) (ho : z_o Z = .inr E) (hN : z_N Z = N1) (hs : z_S Z = sh1) (hD : ∀ D2, D1 D2 → z_D Z D2) (hg : z_g Z = false) (hk : k + mc ≤ z_m Z) (hn : n + ms ≤ z_s Z) (C : x_Cx Z p s m args meth c) (hr : vx_Run p l e R s m args below meth c H locs k n mc ms (F0 m pc ls st0) rest (x_Q (z_X Z) (.inr E) false N1 sh1 D1 a) (x_XC (z_X Z) (.inr E) false N1 sh1 D1) (x_A (z_X Z))) (hS : va_S (x_A (z_X Z)) s.heap H locs) :
    W p l e R s m args below meth c H locs k n (vx_MQ below (x_Q (z_X Z) (z_o Z) (z_g Z) (z_N Z) (z_S Z) (z_D Z)) (x_XC (z_X Z) (z_o Z) (z_g Z) (z_N Z) (z_S Z) (z_D Z)) args s (z_m Z) (z_s Z) (x_A (z_X Z))) (F0 m pc ls st0) := by
  rw [ho, hN, hs, hg]
  intro T hT Y
  rcases hr T hT Y with ⟨v', st₀, t, T', L, h0, Y', hL, e1, e2, ⟨v2, D2, hv2, -⟩, st⟩ | ⟨q, st₀, t, T', L, E', ce, h0, Y', hL, e1, e2, ⟨D2, h1, hF, h2, h3⟩, h4, h5, h6, st⟩
  · cases hv2
  · cases h1
    have hS' : va_S (x_A (z_X Z)) s.heap T'.heap (locs ++ L) := ⟨Nat.le_trans hS.1 (by rw [e1, ← h0]; exact h3.1), fun q h1 h2 => by rw [e1, h3.2 q (by rw [h0]; exact Nat.lt_of_lt_of_le h1 hS.1) h2, h0]; exact hS.2.1 q h1 h2, fun q hq => by
      rcases List.mem_append.mp hq with h | h
      · exact hS.2.2 q h
      · exact hL q h⟩
    have ht : c.exceptionTable.toList = [] := by rw [C.2.2.2.2.2.2.2.2.1, hh]; rfl
    obtain ⟨t2, a1, b1⟩ := vx_out (l := l) (p := p) (e := e) (R := R) (s := s) (m := m) (args := args) (below := below) (meth := meth) (c := c) (H := T'.heap) (locs := locs ++ L) (cells := k + mc) (slots := n + ms) (Qc := x_Q (z_X Z) (.inr E) false N1 sh1 (z_D Z)) (XC := x_XC (z_X Z) (.inr E) false N1 sh1 (z_D Z)) (mc := z_m Z) (ms := z_s Z) (free := x_A (z_X Z)) (pc := pc) (E := E) (ce := ce) (q := q) (ls := ls) (rest := rest)
      (by rw [ht]; intro x hx; cases hx) C.2.2.2.2.2.2.1 (by rw [e1]; exact h4) h5 h6 (fun t' ht' _ => ⟨D2, rfl, hD D2 hF, by rw [ht', e1]; exact h2, hS'.F ht'⟩) hS'.2.2 hk hn T' rfl Y'
    exact ⟨t2, Steps.trans st a1, b1⟩
end Go
section Call
variable {Z : x_Z} {pc : Nat} {L : List (Option Value)} {st : List Value} {k n : Nat} {g : Bool} {N : Nat} {sh : xS} {D : xM}
  {idx c q d mc ms nA : Nat} {ks : List Nat} {y : MethodName} {cc : ByteArray} {nL : Nat} {rt : Option FieldType} {As rest : List Value} {v : Option Value} {g1 : Bool} {N1 : Nat} {sh1 : xS} {D1 : xM → Prop} {E : String}
/-- a virtual call's words: entry, method, its class's number, how many arguments -/
def x_cv (own : String) (idx : Nat) (y : MethodName) (cc : ByteArray) (nL : Nat) (rt : Option FieldType) (c nA : Nat) : Prop := (∃ r : vw_C, x_cl[c]? = some r ∧ r.1 = y.cls) ∧ Cond.methodLink own idx y ∈ x_T ∧ Cond.instanceMethod y ∈ x_T ∧ Cond.selects y.cls y y ∈ x_T ∧ Cond.initialized y.cls ∈ x_T ∧ Cond.code y cc nL rt ∈ x_T ∧ nL ≤ 40 ∧ (y.cls ≠ "java/lang/invoke/MethodHandle" ∧ y.cls ≠ "java/lang/invoke/VarHandle" ∧ (parseMethodDescriptor y.desc).map (fun d => d.parameters.length) = some nA)
def x_cs (own : String) (idx : Nat) (y : MethodName) (cc : ByteArray) (nL : Nat) (rt : Option FieldType) (nA : Nat) : Prop := Cond.methodLink own idx y ∈ x_T ∧ Cond.static y ∈ x_T ∧ Cond.initialized y.cls ∈ x_T ∧ Cond.code y cc nL rt ∈ x_T ∧ nL ≤ 40 ∧ (y.cls ≠ "java/lang/invoke/MethodHandle" ∧ y.cls ≠ "java/lang/invoke/VarHandle" ∧ (parseMethodDescriptor y.desc).map (fun d => d.parameters.length) = some nA)
def x_csn (own : String) (idx : Nat) (y : MethodName) (cc : ByteArray) (nL : Nat) (rt : Option FieldType) (nA : Nat) : Prop := (∃ host, Cond.methodLinkNest own idx y host ∈ x_Tw) ∧ Cond.static y ∈ x_T ∧ Cond.initialized y.cls ∈ x_T ∧ Cond.code y cc nL rt ∈ x_T ∧ nL ≤ 40 ∧ (y.cls ≠ "java/lang/invoke/MethodHandle" ∧ y.cls ≠ "java/lang/invoke/VarHandle" ∧ (parseMethodDescriptor y.desc).map (fun d => d.parameters.length) = some nA)
def x_ci (own : String) (idx : Nat) (y : MethodName) (cc : ByteArray) (nL : Nat) (nA : Nat) : Prop := Cond.methodLink own idx y ∈ x_T ∧ Cond.instanceMethod y ∈ x_T ∧ y.name = "<init>" ∧ Cond.initialized y.cls ∈ x_T ∧ Cond.code y cc nL none ∈ x_T ∧ nL ≤ 40 ∧ (y.cls ≠ "java/lang/invoke/MethodHandle" ∧ y.cls ≠ "java/lang/invoke/VarHandle" ∧ (parseMethodDescriptor y.desc).map (fun d => d.parameters.length) = some nA)
def x_cin (own : String) (idx : Nat) (y : MethodName) (cc : ByteArray) (nL : Nat) (nA : Nat) : Prop := (∃ host, Cond.methodLinkNest own idx y host ∈ x_Tw) ∧ Cond.instanceMethod y ∈ x_T ∧ y.name = "<init>" ∧ Cond.initialized y.cls ∈ x_T ∧ Cond.code y cc nL none ∈ x_T ∧ nL ≤ 40 ∧ (y.cls ≠ "java/lang/invoke/MethodHandle" ∧ y.cls ≠ "java/lang/invoke/VarHandle" ∧ (parseMethodDescriptor y.desc).map (fun d => d.parameters.length) = some nA)
theorem x_good {w : Cond} (h : w ∈ x_T) : GoodIn x_T (w :: x_T) := fun u hu => by
  have hu : u ∈ x_T := (List.mem_cons.mp hu).elim (fun e => e ▸ h) id
  exact ⟨hu, good_of_word (List.mem_filter.mp hu).2⟩
theorem x_cellB {Z : x_Z} {s : State} {H : Heap} {r : vw_C} {y : MethodName} (hK : x_K (z_X Z) s) (hP : x_P (z_X Z) g N sh D H) (hq : q < N) (hs : sh q = .inr (c, ks)) (h1 : x_cl[c]? = some r) (h2 : r.1 = y.cls) : ∃ cellB : Cell, H[x_b (z_X Z) + q]? = some cellB ∧ cellB.vm.isStatics = false ∧ s.vm.findClass y.cls = some cellB.cls := by
  have h := va_recv (q0 := q) hK hP.1 h1 (by rw [x_wl_at hq, x_el_o hs])
  rw [h2] at h
  exact h
theorem x_callV (hd : decode (z_c Z) pc = .ok (.invokevirtual idx, 3)) (hc : x_cv (z_y Z).cls idx y cc nL rt c nA) (hM : x_M (z_X Z) (z_l Z) y cc nL rt d mc ms (.ref (x_b (z_X Z) + q) :: As) g N sh D (.inl v) g1 N1 sh1 D1) (hq : q < N) (hs : sh q = .inr (c, ks)) (hnA : As.length = nA) (hst : st = As.reverse ++ .ref (x_b (z_X Z) + q) :: rest) (hw : (rest.map fun v => v.category).sum ≤ 8) (hR1 : d + 1 ≤ (z_R Z).frames) (hR2 : 64 * d + 60 ≤ (z_R Z).locals) (hR3 : k + mc ≤ (z_R Z).cells) (hR4 : n + ms ≤ (z_R Z).slots)
    (kk : ∀ D2, D1 D2 → x_W Z (pc + 3) L (v.toList ++ rest) (k + mc) (n + ms) g1 N1 sh1 D2) : x_W Z pc L st k n g N sh D := by
  intro p e s m args below meth c0 H locs ls C hl hP hS
  obtain ⟨⟨r, w0, w1⟩, w2, w3, w4, w5, w6, w7, w8, w9, w10⟩ := hc
  have hts := C.2.2.2.2.1
  refine x_go (va_runV (As := As) (rest := rest) (n := nA) ⟨C.1, C.2.1, C.2.2.1, C.2.2.2.1, hts⟩ (x_M_met hM) ⟨callB_of nA hts (x_good w6) rfl rfl rfl (hts _ w5) (hts _ w2) ⟨w8, w9, w10⟩ ⟨hR1, by show 8 + (nL + 11) + 64 * d ≤ _; omega⟩, hts _ w3, hts _ w4⟩ ⟨x_blind, x_cellB C.2.2.2.2.2.2.2.2.2.1.1 hP hq hs w0 w1, x_pc C hP hS⟩ rfl hnA hl.1 hst (lv_room hw) hd ⟨hR3, hR4⟩) hS (fun D2 H1 locs1 hF h1 h2 => kk D2 hF p e s m args below meth c0 H1 locs1 ls C hl h1 h2)
theorem x_callS (hd : decode (z_c Z) pc = .ok (.invokestatic idx, 3)) (hc : x_cs (z_y Z).cls idx y cc nL rt nA) (hM : x_M (z_X Z) (z_l Z) y cc nL rt d mc ms As g N sh D (.inl v) g1 N1 sh1 D1) (hnA : As.length = nA) (hst : st = As.reverse ++ rest) (hw : (rest.map fun v => v.category).sum ≤ 8) (hR1 : d + 1 ≤ (z_R Z).frames) (hR2 : 64 * d + 60 ≤ (z_R Z).locals) (hR3 : k + mc ≤ (z_R Z).cells) (hR4 : n + ms ≤ (z_R Z).slots)
    (kk : ∀ D2, D1 D2 → x_W Z (pc + 3) L (v.toList ++ rest) (k + mc) (n + ms) g1 N1 sh1 D2) : x_W Z pc L st k n g N sh D := by
  intro p e s m args below meth c0 H locs ls C hl hP hS
  obtain ⟨w2, w3, w5, w6, w7, w8, w9, w10⟩ := hc
  have hts := C.2.2.2.2.1
  refine x_go (va_runS (As := As) (rest := rest) (n := nA) ⟨C.1, C.2.1, C.2.2.1, C.2.2.2.1, hts⟩ (x_M_met hM) ⟨callB_of nA hts (x_good w6) rfl rfl rfl (hts _ w5) (hts _ w2) ⟨w8, w9, w10⟩ ⟨hR1, by show 8 + (nL + 11) + 64 * d ≤ _; omega⟩, hts _ w3⟩ ⟨x_blind, x_pc C hP hS⟩ rfl hnA hl.1 hst (lv_room hw) hd ⟨hR3, hR4⟩) hS (fun D2 H1 locs1 hF h1 h2 => kk D2 hF p e s m args below meth c0 H1 locs1 ls C hl h1 h2)
theorem x_callSN (hd : decode (z_c Z) pc = .ok (.invokestatic idx, 3)) (hc : x_csn (z_y Z).cls idx y cc nL rt nA) (hM : x_M (z_X Z) (z_l Z) y cc nL rt d mc ms As g N sh D (.inl v) g1 N1 sh1 D1) (hnA : As.length = nA) (hst : st = As.reverse ++ rest) (hw : (rest.map fun v => v.category).sum ≤ 8) (hR1 : d + 1 ≤ (z_R Z).frames) (hR2 : 64 * d + 60 ≤ (z_R Z).locals) (hR3 : k + mc ≤ (z_R Z).cells) (hR4 : n + ms ≤ (z_R Z).slots)
    (kk : ∀ D2, D1 D2 → x_W Z (pc + 3) L (v.toList ++ rest) (k + mc) (n + ms) g1 N1 sh1 D2) : x_W Z pc L st k n g N sh D := by
  intro p e s m args below meth c0 H locs ls C hl hP hS
  obtain ⟨⟨host, w2⟩, w3, w5, w6, w7, w8, w9, w10⟩ := hc
  have hts := C.2.2.2.2.1
  refine x_go (va_runSN (As := As) (rest := rest) (n := nA) (host := host) ⟨C.1, C.2.1, C.2.2.1, C.2.2.2.1, hts⟩ (x_M_met hM) ⟨va_cnB nA hts (x_good w6) rfl rfl rfl (C.2.2.2.2.2.2.2.2.2.1.2.1.2.1 _ w2) (hts _ w5) ⟨w8, w9, w10⟩ ⟨hR1, by show 8 + (nL + 11) + 64 * d ≤ _; omega⟩, hts _ w3, trivial⟩ ⟨x_blind, x_pc C hP hS⟩ rfl hnA hl.1 hst (lv_room hw) hd ⟨hR3, hR4⟩) hS (fun D2 H1 locs1 hF h1 h2 => kk D2 hF p e s m args below meth c0 H1 locs1 ls C hl h1 h2)
theorem x_callI (hd : decode (z_c Z) pc = .ok (.invokespecial idx, 3)) (hc : x_ci (z_y Z).cls idx y cc nL nA) (hM : x_M (z_X Z) (z_l Z) y cc nL none d mc ms (.ref q :: As) g N sh D (.inl v) g1 N1 sh1 D1) (hnA : As.length = nA) (hst : st = As.reverse ++ .ref q :: rest) (hw : (rest.map fun v => v.category).sum ≤ 8) (hR1 : d + 1 ≤ (z_R Z).frames) (hR2 : 64 * d + 60 ≤ (z_R Z).locals) (hR3 : k + mc ≤ (z_R Z).cells) (hR4 : n + ms ≤ (z_R Z).slots)
    (kk : ∀ D2, D1 D2 → x_W Z (pc + 3) L (v.toList ++ rest) (k + mc) (n + ms) g1 N1 sh1 D2) : x_W Z pc L st k n g N sh D := by
  intro p e s m args below meth c0 H locs ls C hl hP hS
  obtain ⟨w2, w3, w4, w5, w6, w7, w8, w9, w10⟩ := hc
  have hts := C.2.2.2.2.1
  refine x_go (va_runI (As := As) (rest := rest) (n := nA) ⟨C.1, C.2.1, C.2.2.1, C.2.2.2.1, hts⟩ (x_M_met hM) ⟨callB_of nA hts (x_good w6) rfl rfl rfl (hts _ w5) (hts _ w2) ⟨w8, w9, w10⟩ ⟨hR1, by show 8 + (nL + 11) + 64 * d ≤ _; omega⟩, w4, hts _ w3⟩ ⟨x_blind, x_pc C hP hS⟩ rfl hnA hl.1 hst (lv_room hw) hd ⟨hR3, hR4⟩) hS (fun D2 H1 locs1 hF h1 h2 => kk D2 hF p e s m args below meth c0 H1 locs1 ls C hl h1 h2)
theorem x_callIN (hd : decode (z_c Z) pc = .ok (.invokespecial idx, 3)) (hc : x_cin (z_y Z).cls idx y cc nL nA) (hM : x_M (z_X Z) (z_l Z) y cc nL none d mc ms (.ref q :: As) g N sh D (.inl v) g1 N1 sh1 D1) (hnA : As.length = nA) (hst : st = As.reverse ++ .ref q :: rest) (hw : (rest.map fun v => v.category).sum ≤ 8) (hR1 : d + 1 ≤ (z_R Z).frames) (hR2 : 64 * d + 60 ≤ (z_R Z).locals) (hR3 : k + mc ≤ (z_R Z).cells) (hR4 : n + ms ≤ (z_R Z).slots)
    (kk : ∀ D2, D1 D2 → x_W Z (pc + 3) L (v.toList ++ rest) (k + mc) (n + ms) g1 N1 sh1 D2) : x_W Z pc L st k n g N sh D := by
  intro p e s m args below meth c0 H locs ls C hl hP hS
  obtain ⟨⟨host, w2⟩, w3, w4, w5, w6, w7, w8, w9, w10⟩ := hc
  have hts := C.2.2.2.2.1
  refine x_go (va_runIN (As := As) (rest := rest) (n := nA) (host := host) ⟨C.1, C.2.1, C.2.2.1, C.2.2.2.1, hts⟩ (x_M_met hM) ⟨va_cnB nA hts (x_good w6) rfl rfl rfl (C.2.2.2.2.2.2.2.2.2.1.2.1.2.1 _ w2) (hts _ w5) ⟨w8, w9, w10⟩ ⟨hR1, by show 8 + (nL + 11) + 64 * d ≤ _; omega⟩, w4, hts _ w3⟩ ⟨x_blind, x_pc C hP hS⟩ rfl hnA hl.1 hst (lv_room hw) hd ⟨hR3, hR4⟩) hS (fun D2 H1 locs1 hF h1 h2 => kk D2 hF p e s m args below meth c0 H1 locs1 ls C hl h1 h2)
/-! calls that throw, in a method that takes nothing -/
theorem x_callVT (hd : decode (z_c Z) pc = .ok (.invokevirtual idx, 3)) (hc : x_cv (z_y Z).cls idx y cc nL rt c nA) (hM : x_M (z_X Z) (z_l Z) y cc nL rt d mc ms (.ref (x_b (z_X Z) + q) :: As) g N sh D (.inr E) false N1 sh1 D1) (hq : q < N) (hs : sh q = .inr (c, ks)) (hnA : As.length = nA) (hst : st = As.reverse ++ .ref (x_b (z_X Z) + q) :: rest) (hw : (rest.map fun v => v.category).sum ≤ 8) (hR1 : d + 1 ≤ (z_R Z).frames) (hR2 : 64 * d + 60 ≤ (z_R Z).locals) (hR3 : k + mc ≤ (z_R Z).cells) (hR4 : n + ms ≤ (z_R Z).slots)
    (hh : z_h Z = []) (ho : z_o Z = .inr E) (hN : z_N Z = N1) (hS' : z_S Z = sh1) (hD : ∀ D2, D1 D2 → z_D Z D2) (hg : z_g Z = false) (hk : k + mc ≤ z_m Z) (hn : n + ms ≤ z_s Z) : x_W Z pc L st k n g N sh D := by
  intro p e s m args below meth c0 H locs ls C hl hP hS
  obtain ⟨⟨r, w0, w1⟩, w2, w3, w4, w5, w6, w7, w8, w9, w10⟩ := hc
  have hts := C.2.2.2.2.1
  exact x_thr hh ho hN hS' hD hg hk hn C (vx_runV (As := As) (rest := rest) (n := nA) ⟨C.1, C.2.1, C.2.2.1, C.2.2.2.1, hts⟩ hM ⟨callB_of nA hts (x_good w6) rfl rfl rfl (hts _ w5) (hts _ w2) ⟨w8, w9, w10⟩ ⟨hR1, by show 8 + (nL + 11) + 64 * d ≤ _; omega⟩, hts _ w3, hts _ w4⟩ ⟨x_blind, x_cellB C.2.2.2.2.2.2.2.2.2.1.1 hP hq hs w0 w1, x_pc C hP hS⟩ rfl hnA hl.1 hst (lv_room hw) hd ⟨hR3, hR4⟩) hS
theorem x_callST (hd : decode (z_c Z) pc = .ok (.invokestatic idx, 3)) (hc : x_cs (z_y Z).cls idx y cc nL rt nA) (hM : x_M (z_X Z) (z_l Z) y cc nL rt d mc ms As g N sh D (.inr E) false N1 sh1 D1) (hnA : As.length = nA) (hst : st = As.reverse ++ rest) (hw : (rest.map fun v => v.category).sum ≤ 8) (hR1 : d + 1 ≤ (z_R Z).frames) (hR2 : 64 * d + 60 ≤ (z_R Z).locals) (hR3 : k + mc ≤ (z_R Z).cells) (hR4 : n + ms ≤ (z_R Z).slots)
    (hh : z_h Z = []) (ho : z_o Z = .inr E) (hN : z_N Z = N1) (hS' : z_S Z = sh1) (hD : ∀ D2, D1 D2 → z_D Z D2) (hg : z_g Z = false) (hk : k + mc ≤ z_m Z) (hn : n + ms ≤ z_s Z) : x_W Z pc L st k n g N sh D := by
  intro p e s m args below meth c0 H locs ls C hl hP hS
  obtain ⟨w2, w3, w5, w6, w7, w8, w9, w10⟩ := hc
  have hts := C.2.2.2.2.1
  exact x_thr hh ho hN hS' hD hg hk hn C (vx_runS (As := As) (rest := rest) (n := nA) ⟨C.1, C.2.1, C.2.2.1, C.2.2.2.1, hts⟩ hM ⟨callB_of nA hts (x_good w6) rfl rfl rfl (hts _ w5) (hts _ w2) ⟨w8, w9, w10⟩ ⟨hR1, by show 8 + (nL + 11) + 64 * d ≤ _; omega⟩, hts _ w3⟩ ⟨x_blind, x_pc C hP hS⟩ rfl hnA hl.1 hst (lv_room hw) hd ⟨hR3, hR4⟩) hS
end Call
end XLG
