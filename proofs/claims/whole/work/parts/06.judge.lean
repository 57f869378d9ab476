section XLC
/-! the String constants: class, entry, text; their bytes -/
def x_str (i : Nat) : String × Nat × String := match i with
  | 0 => (RX11, 91, "the tape has not so many bytes")
  | 1 => (RX5, 86, "town")
  | 2 => (RX5, 95, "way")
  | 3 => (RX5, 100, "crate")
  | 4 => (RX5, 102, "ballast")
  | 5 => (RX5, 156, "cat")
  | 6 => (RX5, 108, "odds")
  | 7 => (RX5, 191, "not")
  | 8 => (RX5, 208, "luck")
  | 9 => (RX5, 210, "bad")
  | 10 => (RX5, 212, "stake")
  | 11 => (RX5, 214, "makes")
  | 12 => (RX5, 216, "day")
  | 13 => (RX5, 218, "crates")
  | 14 => (RX5, 189, "and")
  | 15 => (RX5, 181, "or")
  | 16 => (RX11, 158, "no such count")
  | 17 => (RX11, 380, "no such town")
  | 18 => (RX11, 183, "a town has no such thing")
  | 19 => (RX11, 384, "no such crate")
  | 20 => (RX11, 188, "a crate has no such thing")
  | 21 => (RX11, 382, "no such way")
  | 22 => (RX11, 230, "a town has no such thing then")
  | 23 => (RX11, 388, "a number is not as told")
  | 24 => (RX11, 307, "the hold has no such crate")
  | 25 => (RX11, 386, "there is no such thing to ask for")
  | 26 => (RX11, 351, "both towns are one")
  | _ => (RX11, 278, "the row has no such town")
def x_tx (i : Nat) : List Int := match i with
  | 1 => [116, 111, 119, 110]
  | 2 => [119, 97, 121]
  | 3 => [99, 114, 97, 116, 101]
  | 4 => [98, 97, 108, 108, 97, 115, 116]
  | 5 => [99, 97, 116]
  | 6 => [111, 100, 100, 115]
  | 7 => [110, 111, 116]
  | 8 => [108, 117, 99, 107]
  | 9 => [98, 97, 100]
  | 10 => [115, 116, 97, 107, 101]
  | 11 => [109, 97, 107, 101, 115]
  | 12 => [100, 97, 121]
  | 13 => [99, 114, 97, 116, 101, 115]
  | 14 => [97, 110, 100]
  | 15 => [111, 114]
  | _ => []
/-- words that are no good words but stay under warmer tables -/
def x_okw (w : Cond) : Bool := match w with
  | .methodLinkNest _ _ _ _ => true
  | .declares _ => true
  | .castable _ _ => true
  | _ => false
theorem x_okw_warm {w : Cond} (h : x_okw w = true) {s U : State} (hW : s.WarmedH U.vm) (hZ : va_Nw w s) : va_Nw w U := by
  cases w <;> first | (simp [x_okw] at h; done) | exact va_Nw.warmM hW hZ | exact va_Nw.warmD hW hZ | exact va_Nw.warmC hW hZ
theorem x_okw_same {w : Cond} (h : x_okw w = true) {s U : State} (hW : s.vm = U.vm) (hZ : va_Nw w s) : va_Nw w U := by
  cases w <;> first | (simp [x_okw] at h; done) | exact va_Nw.same rfl hW hZ
def x_T : List Cond := lw_tbl.filter goodWord
def x_Tw : List Cond := lw_tbl.filter x_okw
theorem x_in {w : Cond} (i : Nat) (h : lw_tbl[i]? = some w) (hg : goodWord w = true) : w ∈ x_T := List.mem_filter.mpr ⟨List.mem_of_getElem? h, hg⟩
theorem x_inw {w : Cond} (i : Nat) (h : lw_tbl[i]? = some w) (hg : x_okw w = true) : w ∈ x_Tw := List.mem_filter.mpr ⟨List.mem_of_getElem? h, hg⟩
def x_Sf (X : xC) (i : Nat) (U : State) (H : Heap) : Prop :=
  va_O "java/lang/String" (x_k X i) (x_A X) U H ∧ va_OF "java/lang/String" "coder" "B" (.int 0) (x_k X i) (x_A X) U H ∧ va_OF "java/lang/String" "value" "[B" (.ref (x_v X i)) (x_k X i) (x_A X) U H ∧ va_T .byte (x_v X i) (x_tx i).length (fun j => .int (xI ((x_tx i).getD j 0))) (x_A X) U H
def x_E (X : xC) (U : State) (H : Heap) : Prop :=
  (vx_Zq Bundle.tN "UNASSIGNED_STACK" Bundle.steD (x_A X) U H ∧ vx_Zq Bundle.tN "SUPPRESSED_SENTINEL" Bundle.listD (x_A X) U H) ∧ (∀ w ∈ x_Tw, va_Nw w U) ∧ (∀ i : Nat, i < 28 → vk_R (x_str i).1 (x_str i).2.1 (x_str i).2.2 (x_k X i) U) ∧ (∀ i : Nat, 1 ≤ i → i ≤ 15 → x_Sf X i U H) ∧
  va_Nc "java/lang/IllegalArgumentException" "java/util/NoSuchElementException" U ∧ va_Z "java/lang/String" "COMPACT_STRINGS" "Z" (.int 1) (x_A X) U H ∧ va_Zq "jdk/internal/util/Preconditions" "SIOOBE_FORMATTER" "Ljava/util/function/BiFunction;" (x_A X) U H ∧ va_T .int (x_k X 28) (x_k X 29) (fun j => .int (xI (x_v X (100 + j)))) (x_A X) U H
theorem x_E_warm {X : xC} {s U : State} {H : Heap} (hW : s.WarmedH U.vm) (h : x_E X s H) : x_E X U H := by
  obtain ⟨⟨h1, h2⟩, h3, h4, h5, h6, h7, h8, h9⟩ := h
  refine ⟨⟨vx_Zq.moved hW.alike h1, vx_Zq.moved hW.alike h2⟩, fun w hw => x_okw_warm (List.mem_filter.mp hw).2 hW (h3 w hw), fun i hi => vk_R.warm hW (h4 i hi), fun i a b => ?_, va_Nc.moved hW.alike h6, va_Z.moved hW.alike h7, va_Zq.moved hW.alike h8, va_T.moved hW.alike h9⟩
  obtain ⟨a1, a2, a3, a4⟩ := h5 i a b
  exact ⟨va_O.moved hW.alike a1, va_OF.moved hW.alike a2, va_OF.moved hW.alike a3, va_T.moved hW.alike a4⟩
theorem x_E_same {X : xC} {s U : State} {H : Heap} (hv : U.vm = s.vm) (h : x_E X s H) : x_E X U H := by
  have ha : s.vm.Alike U.vm := by rw [hv]; exact Vm.Alike.refl _
  obtain ⟨⟨h1, h2⟩, h3, h4, h5, h6, h7, h8, h9⟩ := h
  refine ⟨⟨vx_Zq.moved ha h1, vx_Zq.moved ha h2⟩, fun w hw => x_okw_same (List.mem_filter.mp hw).2 hv.symm (h3 w hw), fun i hi => vk_R.same hv (h4 i hi), fun i a b => ?_, va_Nc.moved ha h6, va_Z.moved ha h7, va_Zq.moved ha h8, va_T.moved ha h9⟩
  obtain ⟨a1, a2, a3, a4⟩ := h5 i a b
  exact ⟨va_O.moved ha a1, va_OF.moved ha a2, va_OF.moved ha a3, va_T.moved ha a4⟩
theorem x_E_kept {X : xC} {U : State} {H H1 : Heap} (hq : ∀ a : Nat, a < H.size → ¬ x_A X a → H1[a]? = H[a]?) (h : x_E X U H) : x_E X U H1 := by
  obtain ⟨⟨h1, h2⟩, h3, h4, h5, h6, h7, h8, h9⟩ := h
  refine ⟨⟨vx_Zq.kept h1 hq, vx_Zq.kept h2 hq⟩, h3, h4, fun i a b => ?_, h6, va_Z.kept h7 hq, va_Zq.kept h8 hq, h9.kept hq⟩
  obtain ⟨a1, a2, a3, a4⟩ := h5 i a b
  exact ⟨a1.kept hq, a2.kept hq, a3.kept hq, a4.kept hq⟩
/-! ===== the judgement ===== -/
/-- how a method ends: it returns, or it throws an exception of a class -/
abbrev x_O : Type := Option Value ⊕ String
/-- what is fixed in a method's walk: context, launch, the method (name, bytes, locals, result), its room, what it may make, how it shall end, with which cells, what they shall hold, and whether just these; its table of handlers -/
abbrev x_Z : Type := xC × Launch × MethodName × ByteArray × Nat × Option FieldType × Room × Nat × Nat × x_O × Nat × xS × (xM → Prop) × Bool × List (Nat × Nat × Nat × Nat)
abbrev z_X (Z : x_Z) : xC := Z.1
abbrev z_l (Z : x_Z) : Launch := Z.2.1
abbrev z_y (Z : x_Z) : MethodName := Z.2.2.1
abbrev z_c (Z : x_Z) : ByteArray := Z.2.2.2.1
abbrev z_L (Z : x_Z) : Nat := Z.2.2.2.2.1
abbrev z_t (Z : x_Z) : Option FieldType := Z.2.2.2.2.2.1
abbrev z_R (Z : x_Z) : Room := Z.2.2.2.2.2.2.1
abbrev z_m (Z : x_Z) : Nat := Z.2.2.2.2.2.2.2.1
abbrev z_s (Z : x_Z) : Nat := Z.2.2.2.2.2.2.2.2.1
abbrev z_o (Z : x_Z) : x_O := Z.2.2.2.2.2.2.2.2.2.1
abbrev z_N (Z : x_Z) : Nat := Z.2.2.2.2.2.2.2.2.2.2.1
abbrev z_S (Z : x_Z) : xS := Z.2.2.2.2.2.2.2.2.2.2.2.1
abbrev z_D (Z : x_Z) : xM → Prop := Z.2.2.2.2.2.2.2.2.2.2.2.2.1
abbrev z_g (Z : x_Z) : Bool := Z.2.2.2.2.2.2.2.2.2.2.2.2.2.1
abbrev z_h (Z : x_Z) : List (Nat × Nat × Nat × Nat) := Z.2.2.2.2.2.2.2.2.2.2.2.2.2.2
def x_Q (X : xC) (o : x_O) (g : Bool) (N : Nat) (sh : xS) (F : xM → Prop) : Array Value → State → Outcome → State → Prop := fun _ st oc t => ∃ (v : Option Value) (D : xM), o = .inl v ∧ oc = .returned v ∧ F D ∧ x_P X g N sh D t.heap ∧ va_F (x_A X) st t
def x_XC (X : xC) (o : x_O) (g : Bool) (N : Nat) (sh : xS) (F : xM → Prop) : String → State → State → Prop := fun E st t => ∃ D : xM, o = .inr E ∧ F D ∧ x_P X g N sh D t.heap ∧ va_F (x_A X) st t
def x_K (X : xC) (U : State) : Prop := va_K (x_D X) x_cl (x_ty X) U
/-- what holds in a method's walk: the machine, the code, the tables, the class that owns it, no table of handlers -/
def x_Cx (Z : x_Z) (p : Program) (s : State) (m : MethodId) (args : Array Value) (meth : Method) (c : Code) : Prop :=
  p.tables.exec = Jvm.exec ∧ c.code = z_c Z ∧ c.maxLocals = z_L Z ∧ s.vm.findClass (z_y Z).cls = some m.cls ∧ (∀ w ∈ x_T, w.before args s = true) ∧ meth.sig.returnType = z_t Z ∧ meth.locks = false ∧ meth.name = (z_y Z).name ∧ c.exceptionTable.toList = tableOf (z_h Z) ∧ (x_K (z_X Z) s ∧ x_E (z_X Z) s s.heap ∧ x_b (z_X Z) ≤ s.heap.size) ∧ (z_l Z).stackTraces = false
def x_W (Z : x_Z) (pc : Nat) (L : List (Option Value)) (st : List Value) (k n : Nat) (g : Bool) (N : Nat) (sh : xS) (D : xM) : Prop :=
  ∀ (p : Program) (e : Env) (s : State) (m : MethodId) (args : Array Value) (below : List Frame) (meth : Method) (c : Code) (H : Heap) (locs : List Loc) (ls : Array Slot), x_Cx Z p s m args meth c → x_lv ls (z_L Z) L → x_P (z_X Z) g N sh D H → va_S (x_A (z_X Z)) s.heap H locs →
    W p (z_l Z) e (z_R Z) s m args below meth c H locs k n (vx_MQ below (x_Q (z_X Z) (z_o Z) (z_g Z) (z_N Z) (z_S Z) (z_D Z)) (x_XC (z_X Z) (z_o Z) (z_g Z) (z_N Z) (z_S Z) (z_D Z)) args s (z_m Z) (z_s Z) (x_A (z_X Z))) (F0 m pc ls st)
end XLC
