section C91
/-! ===== the words' Strings ===== -/
section XST
variable {Z : x_Z} {pc : Nat} {L : List (Option Value)} {st : List Value} {k n : Nat} {g : Bool} {N : Nat} {sh : xS} {D : xM}
theorem x_ldcS {i j : Nat} (hd : decode (z_c Z) pc = .ok (.ldc i, 2)) (hj : j < 28) (h1 : (x_str j).1 = (z_y Z).cls) (h2 : (x_str j).2.1 = i) (kk : x_W Z (pc + 2) L (.ref (x_k (z_X Z) j) :: st) k n g N sh D) : x_W Z pc L st k n g N sh D := by
  intro p e s m args below meth c H locs ls C hl hP hS
  have hE := C.2.2.2.2.2.2.2.2.2.1.2.1.2.2.1 j hj
  rw [h1, h2] at hE
  exact va_ldcS C.1 C.2.1 C.2.2.2.1 hE hd (kk p e s m args below meth c H locs ls C hl hP hS)
theorem x_getSv {i j : Nat} (hd : decode (z_c Z) pc = .ok (.getfield i, 3)) (h1 : 1 ≤ j) (h2 : j ≤ 15) (hw : Cond.fieldLink (z_y Z).cls i "java/lang/String" "value" "[B" ∈ x_T) (kk : x_W Z (pc + 3) L (.ref (x_v (z_X Z) j) :: st) k n g N sh D) : x_W Z pc L (.ref (x_k (z_X Z) j) :: st) k n g N sh D := by
  intro p e s m args below meth c H locs ls C hl hP hS
  have hE := C.2.2.2.2.2.2.2.2.2.1.2.1.2.2.2.1 j h1 h2
  exact vk_getf C.1 C.2.1 hE.2.2.1 hS C.2.2.2.1 (C.2.2.2.2.1 _ hw) (fun _ h => h) hd (kk p e s m args below meth c H locs ls C hl hP hS)
theorem x_getSc {i j : Nat} (hd : decode (z_c Z) pc = .ok (.getfield i, 3)) (h1 : 1 ≤ j) (h2 : j ≤ 15) (hw : Cond.fieldLink (z_y Z).cls i "java/lang/String" "coder" "B" ∈ x_T) (kk : x_W Z (pc + 3) L (.int (xI 0) :: st) k n g N sh D) : x_W Z pc L (.ref (x_k (z_X Z) j) :: st) k n g N sh D := by
  intro p e s m args below meth c H locs ls C hl hP hS
  have hE := C.2.2.2.2.2.2.2.2.2.1.2.1.2.2.2.1 j h1 h2
  exact vk_getf C.1 C.2.1 hE.2.1 hS C.2.2.2.1 (C.2.2.2.2.1 _ hw) (fun _ h => h) hd (kk p e s m args below meth c H locs ls C hl hP hS)
theorem x_getCS {i : Nat} (hd : decode (z_c Z) pc = .ok (.getstatic i, 3)) (hw : Cond.fieldLink (z_y Z).cls i "java/lang/String" "COMPACT_STRINGS" "Z" ∈ x_T) (kk : x_W Z (pc + 3) L (.int (xI 1) :: st) k n g N sh D) : x_W Z pc L st k n g N sh D := by
  intro p e s m args below meth c H locs ls C hl hP hS
  have hE := C.2.2.2.2.2.2.2.2.2.1.2.1.2.2.2.2.2.1
  exact va_gets C.1 C.2.1 hE hS C.2.2.2.1 (C.2.2.2.2.1 _ hw) (fun _ h => h) hd (kk p e s m args below meth c H locs ls C hl hP hS)
theorem x_getFm {i : Nat} (hd : decode (z_c Z) pc = .ok (.getstatic i, 3)) (hw : Cond.fieldLink (z_y Z).cls i "jdk/internal/util/Preconditions" "SIOOBE_FORMATTER" "Ljava/util/function/BiFunction;" ∈ x_T) (kk : ∀ v : Value, v = .null ∨ (∃ t : Nat, v = .ref t) → x_W Z (pc + 3) L (v :: st) k n g N sh D) : x_W Z pc L st k n g N sh D := by
  intro p e s m args below meth c H locs ls C hl hP hS
  rcases C.2.2.2.2.2.2.2.2.2.1.2.1.2.2.2.2.2.2.1 with hE | ⟨t, hE⟩
  · exact va_gets C.1 C.2.1 hE hS C.2.2.2.1 (C.2.2.2.2.1 _ hw) (fun _ h => h) hd (kk _ (Or.inl rfl) p e s m args below meth c H locs ls C hl hP hS)
  · exact va_gets C.1 C.2.1 hE hS C.2.2.2.1 (C.2.2.2.2.1 _ hw) (fun _ h => h) hd (kk _ (Or.inr ⟨t, rfl⟩) p e s m args below meth c H locs ls C hl hP hS)
theorem x_alenT {j : Nat} (hd : decode (z_c Z) pc = .ok (.arraylength, 1)) (h1 : 1 ≤ j) (h2 : j ≤ 15) (kk : x_W Z (pc + 1) L (.int (xI (x_tx j).length) :: st) k n g N sh D) : x_W Z pc L (.ref (x_v (z_X Z) j) :: st) k n g N sh D := by
  intro p e s m args below meth c H locs ls C hl hP hS
  have hE := C.2.2.2.2.2.2.2.2.2.1.2.1.2.2.2.1 j h1 h2
  exact va_tlen C.1 C.2.1 hE.2.2.2 hS (v := xI (x_tx j).length) (by first | rfl | exact (Int32.ofInt_eq_ofNat ..).symm | simp [xI, Int32.ofInt, Int32.ofNat]) hd (kk p e s m args below meth c H locs ls C hl hP hS)
theorem x_tx_len : ∀ j : Nat, j ≤ 15 → (x_tx j).length ≤ 7 := by decide
theorem x_baldT {j : Nat} {i : Int} (hd : decode (z_c Z) pc = .ok (.baload, 1)) (h1 : 1 ≤ j) (h2 : j ≤ 15) (h3 : 0 ≤ i) (h4 : i < (x_tx j).length) (kk : x_W Z (pc + 1) L (.int (xI ((x_tx j).getD i.toNat 0)) :: st) k n g N sh D) : x_W Z pc L (.int (xI i) :: .ref (x_v (z_X Z) j) :: st) k n g N sh D := by
  intro p e s m args below meth c H locs ls C hl hP hS
  have hE := C.2.2.2.2.2.2.2.2.2.1.2.1.2.2.2.1 j h1 h2
  have hlen := x_tx_len j h2
  obtain ⟨a1, a2⟩ := x_in_of h3 h4 (by omega)
  exact va_tb C.1 C.2.1 hE.2.2.2 hS a1 (by rw [a2]) hd (kk p e s m args below meth c H locs ls C hl hP hS)
theorem x_nret {a : Int} {ty : FieldType} (hd : decode (z_c Z) pc = .ok (.ireturn, 1)) (hr : z_t Z = some ty) (hz : narrow ty (.int (xI a)) = .int (xI a)) (hk : k ≤ z_m Z) (hn : n ≤ z_s Z) (ho : z_o Z = .inl (some (.int (xI a)))) (hN : z_N Z = N) (hs : z_S Z = sh) (hD : z_D Z D) (hg : z_g Z = g) : x_W Z pc L [.int (xI a)] k n g N sh D := by
  intro p e s m args below meth c H locs ls C hl hP hS
  rw [hN, hs, hg]
  exact W.widen hk hn (vx_ret (W.zret C.1 C.2.1 (C.2.2.2.2.2.1.trans hr) hz (fun t ht _ => x_end ho hD hP hS args t ht) hS.2.2 hd C.2.2.2.2.2.2.1))
theorem x_i2c {a v : Int} (hd : decode (z_c Z) pc = .ok (.i2c, 1)) (hv : ((xI a).toUInt32 % 65536).toInt32 = xI v) (kk : x_W Z (pc + 1) L (.int (xI v) :: st) k n g N sh D) : x_W Z pc L (.int (xI a) :: st) k n g N sh D := by
  intro p e s m args below meth c H locs ls C hl hP hS
  exact lv_i2c C.1 C.2.1 hd hv (kk p e s m args below meth c H locs ls C hl hP hS)
def x_cvF (own : String) (idx : Nat) (y : MethodName) (cc : ByteArray) (nL : Nat) (rt : Option FieldType) (nA : Nat) : Prop := y.cls = "java/lang/String" ∧ Cond.methodLink own idx y ∈ x_T ∧ Cond.instanceMethod y ∈ x_T ∧ Cond.selects y.cls y y ∈ x_T ∧ Cond.initialized y.cls ∈ x_T ∧ Cond.code y cc nL rt ∈ x_T ∧ nL ≤ 40 ∧ (y.cls ≠ "java/lang/invoke/MethodHandle" ∧ y.cls ≠ "java/lang/invoke/VarHandle" ∧ (parseMethodDescriptor y.desc).map (fun d => d.parameters.length) = some nA)
theorem x_callVF {idx d mc ms nA j : Nat} {y : MethodName} {cc : ByteArray} {nL : Nat} {rt : Option FieldType} {As rest : List Value} {v : Option Value} {g1 : Bool} {N1 : Nat} {sh1 : xS} {D1 : xM → Prop} (hd : decode (z_c Z) pc = .ok (.invokevirtual idx, 3)) (hc : x_cvF (z_y Z).cls idx y cc nL rt nA) (hM : x_M (z_X Z) (z_l Z) y cc nL rt d mc ms (.ref (x_k (z_X Z) j) :: As) g N sh D (.inl v) g1 N1 sh1 D1) (h1 : 1 ≤ j) (h2 : j ≤ 15) (hnA : As.length = nA) (hst : st = As.reverse ++ .ref (x_k (z_X Z) j) :: rest) (hw : (rest.map fun v => v.category).sum ≤ 8) (hR1 : d + 1 ≤ (z_R Z).frames) (hR2 : 64 * d + 60 ≤ (z_R Z).locals) (hR3 : k + mc ≤ (z_R Z).cells) (hR4 : n + ms ≤ (z_R Z).slots)
    (kk : ∀ D2, D1 D2 → x_W Z (pc + 3) L (v.toList ++ rest) (k + mc) (n + ms) g1 N1 sh1 D2) : x_W Z pc L st k n g N sh D := by
  intro p e s m args below meth c0 H locs ls C hl hP hS
  obtain ⟨w1, w2, w3, w4, w5, w6, w7, w8, w9, w10⟩ := hc
  have hts := C.2.2.2.2.1
  have hO := (C.2.2.2.2.2.2.2.2.2.1.2.1.2.2.2.1 j h1 h2).1.kept hS.2.1
  have hcell : ∃ cellB : Cell, H[x_k (z_X Z) j]? = some cellB ∧ cellB.vm.isStatics = false ∧ s.vm.findClass y.cls = some cellB.cls := by
    obtain ⟨cell, a1, a2, a3, -⟩ := hO
    exact ⟨cell, a1, a2, by rw [w1]; exact a3⟩
  refine x_go (va_runV (As := As) (rest := rest) (n := nA) ⟨C.1, C.2.1, C.2.2.1, C.2.2.2.1, hts⟩ (x_M_met hM) ⟨callB_of nA hts (x_good w6) rfl rfl rfl (hts _ w5) (hts _ w2) ⟨w8, w9, w10⟩ ⟨hR1, by show 8 + (nL + 11) + 64 * d ≤ _; omega⟩, hts _ w3, hts _ w4⟩ ⟨x_blind, hcell, x_pc C hP hS⟩ rfl hnA hl.1 hst (lv_room hw) hd ⟨hR3, hR4⟩) hS (fun D2 H1 locs1 hF h1 h2 => kk D2 hF p e s m args below meth c0 H1 locs1 ls C hl h1 h2)
end XST

end C91
