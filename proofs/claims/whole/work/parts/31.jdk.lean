section CJ
set_option maxRecDepth 100000 in
theorem x_bc : ∀ m : Nat, m < 1024 → x_an ((((x_an ((x_an ((m : Int) - x_an (x_ur (m : Int) 1) 1431655765) 858993459 + x_an (x_ur ((m : Int) - x_an (x_ur (m : Int) 1) 1431655765) 2) 858993459) + x_ur (x_an ((m : Int) - x_an (x_ur (m : Int) 1) 1431655765) 858993459 + x_an (x_ur ((m : Int) - x_an (x_ur (m : Int) 1) 1431655765) 2) 858993459) 4) 252645135) + x_ur (x_an ((x_an ((m : Int) - x_an (x_ur (m : Int) 1) 1431655765) 858993459 + x_an (x_ur ((m : Int) - x_an (x_ur (m : Int) 1) 1431655765) 2) 858993459) + x_ur (x_an ((m : Int) - x_an (x_ur (m : Int) 1) 1431655765) 858993459 + x_an (x_ur ((m : Int) - x_an (x_ur (m : Int) 1) 1431655765) 2) 858993459) 4) 252645135) 8) + x_ur ((x_an ((x_an ((m : Int) - x_an (x_ur (m : Int) 1) 1431655765) 858993459 + x_an (x_ur ((m : Int) - x_an (x_ur (m : Int) 1) 1431655765) 2) 858993459) + x_ur (x_an ((m : Int) - x_an (x_ur (m : Int) 1) 1431655765) 858993459 + x_an (x_ur ((m : Int) - x_an (x_ur (m : Int) 1) 1431655765) 2) 858993459) 4) 252645135) + x_ur (x_an ((x_an ((m : Int) - x_an (x_ur (m : Int) 1) 1431655765) 858993459 + x_an (x_ur ((m : Int) - x_an (x_ur (m : Int) 1) 1431655765) 2) 858993459) + x_ur (x_an ((m : Int) - x_an (x_ur (m : Int) 1) 1431655765) 858993459 + x_an (x_ur ((m : Int) - x_an (x_ur (m : Int) 1) 1431655765) 2) 858993459) 4) 252645135) 8) 16)) 63 = (s_pop m : Nat) := by decide +kernel
theorem k_RJ6_265 : Cond.constant RJ6 265 (xI (1431655765)) ∈ x_T := (x_in 475 (by decide +kernel) rfl)
theorem k_RJ6_266 : Cond.constant RJ6 266 (xI (858993459)) ∈ x_T := (x_in 476 (by decide +kernel) rfl)
theorem k_RJ6_267 : Cond.constant RJ6 267 (xI (252645135)) ∈ x_T := (x_in 477 (by decide +kernel) rfl)
theorem cJ_bitCount {X : xC} {l : Launch} (hl : l.stackTraces = false) {g : Bool} {N : Nat} {sh : xS} {D : xM} {m : Nat} (h : m < 1024) : x_M X l yJ6_bitCount_0f7a4 cJ6_bitCount_0f7a4 1 (some .int) 1 0 0 [.int (xI (m : Int))] g N sh D (.inl (some (.int (xI ((s_pop m : Nat)))))) g N sh (x_is D) := by
  refine x_ofW (by decide +kernel) hl (by simp [Value.category]) (by simp) ?_
  refine x_iload_n dJ6_bitCount_0f7a4_0 x_get_1_0 ?_
  refine x_iload_n dJ6_bitCount_0f7a4_1 x_get_1_0 ?_
  refine x_iconst dJ6_bitCount_0f7a4_2 ?_
  refine x_iushr dJ6_bitCount_0f7a4_3 ?_
  refine x_ldcw (z := 1431655765) dJ6_bitCount_0f7a4_4 k_RJ6_265 ?_
  refine x_iand dJ6_bitCount_0f7a4_7 ?_
  refine x_isub dJ6_bitCount_0f7a4_8 ?_
  refine x_istore_n dJ6_bitCount_0f7a4_9 (Nat.le_of_ble_eq_true rfl) rfl x_set_1_0 ?_
  refine x_iload_n dJ6_bitCount_0f7a4_10 x_get_1_0 ?_
  refine x_ldcw (z := 858993459) dJ6_bitCount_0f7a4_11 k_RJ6_266 ?_
  refine x_iand dJ6_bitCount_0f7a4_14 ?_
  refine x_iload_n dJ6_bitCount_0f7a4_15 x_get_1_0 ?_
  refine x_iconst dJ6_bitCount_0f7a4_16 ?_
  refine x_iushr dJ6_bitCount_0f7a4_17 ?_
  refine x_ldcw (z := 858993459) dJ6_bitCount_0f7a4_18 k_RJ6_266 ?_
  refine x_iand dJ6_bitCount_0f7a4_21 ?_
  refine x_iadd dJ6_bitCount_0f7a4_22 ?_
  refine x_istore_n dJ6_bitCount_0f7a4_23 (Nat.le_of_ble_eq_true rfl) rfl x_set_1_0 ?_
  refine x_iload_n dJ6_bitCount_0f7a4_24 x_get_1_0 ?_
  refine x_iload_n dJ6_bitCount_0f7a4_25 x_get_1_0 ?_
  refine x_iconst dJ6_bitCount_0f7a4_26 ?_
  refine x_iushr dJ6_bitCount_0f7a4_27 ?_
  refine x_iadd dJ6_bitCount_0f7a4_28 ?_
  refine x_ldcw (z := 252645135) dJ6_bitCount_0f7a4_29 k_RJ6_267 ?_
  refine x_iand dJ6_bitCount_0f7a4_32 ?_
  refine x_istore_n dJ6_bitCount_0f7a4_33 (Nat.le_of_ble_eq_true rfl) rfl x_set_1_0 ?_
  refine x_iload_n dJ6_bitCount_0f7a4_34 x_get_1_0 ?_
  refine x_iload_n dJ6_bitCount_0f7a4_35 x_get_1_0 ?_
  refine x_bipush dJ6_bitCount_0f7a4_36 rfl ?_
  refine x_iushr dJ6_bitCount_0f7a4_38 ?_
  refine x_iadd dJ6_bitCount_0f7a4_39 ?_
  refine x_istore_n dJ6_bitCount_0f7a4_40 (Nat.le_of_ble_eq_true rfl) rfl x_set_1_0 ?_
  refine x_iload_n dJ6_bitCount_0f7a4_41 x_get_1_0 ?_
  refine x_iload_n dJ6_bitCount_0f7a4_42 x_get_1_0 ?_
  refine x_bipush dJ6_bitCount_0f7a4_43 rfl ?_
  refine x_iushr dJ6_bitCount_0f7a4_45 ?_
  refine x_iadd dJ6_bitCount_0f7a4_46 ?_
  refine x_istore_n dJ6_bitCount_0f7a4_47 (Nat.le_of_ble_eq_true rfl) rfl x_set_1_0 ?_
  refine x_iload_n dJ6_bitCount_0f7a4_48 x_get_1_0 ?_
  refine x_bipush dJ6_bitCount_0f7a4_49 rfl ?_
  refine x_iand dJ6_bitCount_0f7a4_51 ?_
  exact x_iret dJ6_bitCount_0f7a4_52 rfl (Nat.le_of_ble_eq_true rfl) (Nat.le_of_ble_eq_true rfl) (congrArg (fun z : Int => (Sum.inl (some (Value.int (xI z))) : x_O)) (x_bc m h).symm) rfl rfl rfl rfl
end CJ
