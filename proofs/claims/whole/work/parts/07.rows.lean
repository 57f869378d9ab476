section XLD
variable {Z : x_Z} {pc : Nat} {L L' : List (Option Value)} {st : List Value} {k n : Nat} {g : Bool} {N : Nat} {sh : xS} {D : xM}
def x_dv (a b : Int) : Int := (xI a / xI b).toInt
def x_rm (a b : Int) : Int := (xI a - xI a / xI b * xI b).toInt
def x_an (a b : Int) : Int := (xI a &&& xI b).toInt
def x_or (a b : Int) : Int := (xI a ||| xI b).toInt
def x_xo (a b : Int) : Int := (xI a ^^^ xI b).toInt
def x_sl (a b : Int) : Int := (xI a <<< (xI b &&& 31)).toInt
def x_sr (a b : Int) : Int := (xI a >>> (xI b &&& 31)).toInt
def x_ur (a b : Int) : Int := ((xI a).toUInt32 >>> ((xI b).toUInt32 &&& Int32.toUInt32 31)).toInt32.toInt
def x_by (a : Int) : Int := (xI a).toInt8.toInt32.toInt
def x_Il (a : Int) : Int := (xI a).toInt64.toInt
def x_ll (a b : Int) : Int := (xL a <<< ((xI b).toInt64 &&& 63)).toInt
def x_lo (a b : Int) : Int := (xL a ||| xL b).toInt
def x_ls (a b : Int) : Int := (xL a - xL b).toInt
def x_lc (a b : Int) : Int := (lg_cmp (xL a) (xL b)).toInt
theorem xL_toInt (v : Int64) : xL v.toInt = v := Int64.ofInt_toInt v
def x_B (c : Prop) [Decidable c] : Int := if c then 1 else 0
theorem x_iconst {i : Int} (hd : decode (z_c Z) pc = .ok (.iconst i, 1)) (kk : x_W Z (pc + 1) L (.int (xI i) :: st) k n g N sh D) : x_W Z pc L st k n g N sh D := by
  intro p e s m args below meth c H locs ls C hl hP hS
  exact lv_iconst C.1 C.2.1 hd rfl (kk p e s m args below meth c H locs ls C hl hP hS)
theorem x_bipush {i : Int} (hd : decode (z_c Z) pc = .ok (.bipush i, 2)) (hv : (Int8.ofInt i).toInt32 = xI i) (kk : x_W Z (pc + 2) L (.int (xI i) :: st) k n g N sh D) : x_W Z pc L st k n g N sh D := by
  intro p e s m args below meth c H locs ls C hl hP hS
  exact lv_bipush C.1 C.2.1 hd hv (kk p e s m args below meth c H locs ls C hl hP hS)
theorem x_sipush {i : Int} (hd : decode (z_c Z) pc = .ok (.sipush i, 3)) (hv : (Int16.ofInt i).toInt32 = xI i) (kk : x_W Z (pc + 3) L (.int (xI i) :: st) k n g N sh D) : x_W Z pc L st k n g N sh D := by
  intro p e s m args below meth c H locs ls C hl hP hS
  exact lv_sipush C.1 C.2.1 hd hv (kk p e s m args below meth c H locs ls C hl hP hS)
theorem x_lconst {i : Fin 2} {z : Int} (hd : decode (z_c Z) pc = .ok (.lconst i, 1)) (hv : Int64.ofNat (i : Nat) = xL z) (kk : x_W Z (pc + 1) L (.long (xL z) :: st) k n g N sh D) : x_W Z pc L st k n g N sh D := by
  intro p e s m args below meth c H locs ls C hl hP hS
  exact lv_lconst C.1 C.2.1 hd hv (kk p e s m args below meth c H locs ls C hl hP hS)
theorem x_ldc {i : Nat} {z : Int} (hd : decode (z_c Z) pc = .ok (.ldc i, 2)) (hw : Cond.constant (z_y Z).cls i (xI z) ∈ x_T) (kk : x_W Z (pc + 2) L (.int (xI z) :: st) k n g N sh D) : x_W Z pc L st k n g N sh D := by
  intro p e s m args below meth c H locs ls C hl hP hS
  exact lv_ldc C.1 C.2.1 C.2.2.2.1 (C.2.2.2.2.1 _ hw) hd (kk p e s m args below meth c H locs ls C hl hP hS)
theorem x_ldc2 {i : Nat} {z : Int} (hd : decode (z_c Z) pc = .ok (.ldc2_w i, 3)) (hw : Cond.constantLong (z_y Z).cls i (xL z) ∈ x_T) (kk : x_W Z (pc + 3) L (.long (xL z) :: st) k n g N sh D) : x_W Z pc L st k n g N sh D := by
  intro p e s m args below meth c H locs ls C hl hP hS
  exact lv_ldc2 C.1 C.2.1 C.2.2.2.1 (C.2.2.2.2.1 _ hw) hd (kk p e s m args below meth c H locs ls C hl hP hS)
theorem x_iload_n {j : Fin 4} {z : Int} (hd : decode (z_c Z) pc = .ok (.iload_n j, 1)) (hv : L[(j : Nat)]? = some (some (.int (xI z)))) (kk : x_W Z (pc + 1) L (.int (xI z) :: st) k n g N sh D) : x_W Z pc L st k n g N sh D := by
  intro p e s m args below meth c H locs ls C hl hP hS
  exact lv_iload_n C.1 C.2.1 hd rfl (x_lv_at hl hv) (kk p e s m args below meth c H locs ls C hl hP hS)
theorem x_iload {j : Nat} {z : Int} (hd : decode (z_c Z) pc = .ok (.iload j, 2)) (hv : L[j]? = some (some (.int (xI z)))) (kk : x_W Z (pc + 2) L (.int (xI z) :: st) k n g N sh D) : x_W Z pc L st k n g N sh D := by
  intro p e s m args below meth c H locs ls C hl hP hS
  exact lv_iload C.1 C.2.1 hd (x_lv_at hl hv) (kk p e s m args below meth c H locs ls C hl hP hS)
theorem x_lload_n {j : Fin 4} {z : Int} (hd : decode (z_c Z) pc = .ok (.lload_n j, 1)) (hv : L[(j : Nat)]? = some (some (.long (xL z)))) (kk : x_W Z (pc + 1) L (.long (xL z) :: st) k n g N sh D) : x_W Z pc L st k n g N sh D := by
  intro p e s m args below meth c H locs ls C hl hP hS
  exact lv_lload_n C.1 C.2.1 hd rfl (x_lv_at hl hv) (kk p e s m args below meth c H locs ls C hl hP hS)
theorem x_lload {j : Nat} {z : Int} (hd : decode (z_c Z) pc = .ok (.lload j, 2)) (hv : L[j]? = some (some (.long (xL z)))) (kk : x_W Z (pc + 2) L (.long (xL z) :: st) k n g N sh D) : x_W Z pc L st k n g N sh D := by
  intro p e s m args below meth c H locs ls C hl hP hS
  exact lv_lload C.1 C.2.1 hd (x_lv_at hl hv) (kk p e s m args below meth c H locs ls C hl hP hS)
theorem x_aload_n {j : Fin 4} {z : Nat} (hd : decode (z_c Z) pc = .ok (.aload_n j, 1)) (hv : L[(j : Nat)]? = some (some (.ref z))) (kk : x_W Z (pc + 1) L (.ref z :: st) k n g N sh D) : x_W Z pc L st k n g N sh D := by
  intro p e s m args below meth c H locs ls C hl hP hS
  exact lv_aload_n C.1 C.2.1 hd rfl (x_lv_at hl hv) (kk p e s m args below meth c H locs ls C hl hP hS)
theorem x_aload {j : Nat} {z : Nat} (hd : decode (z_c Z) pc = .ok (.aload j, 2)) (hv : L[j]? = some (some (.ref z))) (kk : x_W Z (pc + 2) L (.ref z :: st) k n g N sh D) : x_W Z pc L st k n g N sh D := by
  intro p e s m args below meth c H locs ls C hl hP hS
  exact lv_aload C.1 C.2.1 hd (x_lv_at hl hv) (kk p e s m args below meth c H locs ls C hl hP hS)
theorem x_istore_n {j : Fin 4} {z : Int} (hd : decode (z_c Z) pc = .ok (.istore_n j, 1)) (hn : (j : Nat) < z_L Z) (h2 : x_no2 L (j : Nat) = true) (hL : L.set (j : Nat) (some (.int (xI z))) = L') (kk : x_W Z (pc + 1) L' st k n g N sh D) : x_W Z pc L (.int (xI z) :: st) k n g N sh D := by
  intro p e s m args below meth c H locs ls C hl hP hS
  exact lv_istore_n C.1 C.2.1 hd rfl hl hn rfl (fun ls2 h => kk p e s m args below meth c H locs ls2 C (hL ▸ x_lv_set h2 h) hP hS)
theorem x_istore {j : Nat} {z : Int} (hd : decode (z_c Z) pc = .ok (.istore j, 2)) (hn : j < z_L Z) (h2 : x_no2 L j = true) (hL : L.set j (some (.int (xI z))) = L') (kk : x_W Z (pc + 2) L' st k n g N sh D) : x_W Z pc L (.int (xI z) :: st) k n g N sh D := by
  intro p e s m args below meth c H locs ls C hl hP hS
  exact lv_istore C.1 C.2.1 hd hl hn rfl (fun ls2 h => kk p e s m args below meth c H locs ls2 C (hL ▸ x_lv_set h2 h) hP hS)
theorem x_astore_n {j : Fin 4} {z : Nat} (hd : decode (z_c Z) pc = .ok (.astore_n j, 1)) (hn : (j : Nat) < z_L Z) (h2 : x_no2 L (j : Nat) = true) (hL : L.set (j : Nat) (some (.ref z)) = L') (kk : x_W Z (pc + 1) L' st k n g N sh D) : x_W Z pc L (.ref z :: st) k n g N sh D := by
  intro p e s m args below meth c H locs ls C hl hP hS
  exact lv_astore_n C.1 C.2.1 hd rfl hl hn rfl (fun ls2 h => kk p e s m args below meth c H locs ls2 C (hL ▸ x_lv_set h2 h) hP hS)
theorem x_astore {j : Nat} {z : Nat} (hd : decode (z_c Z) pc = .ok (.astore j, 2)) (hn : j < z_L Z) (h2 : x_no2 L j = true) (hL : L.set j (some (.ref z)) = L') (kk : x_W Z (pc + 2) L' st k n g N sh D) : x_W Z pc L (.ref z :: st) k n g N sh D := by
  intro p e s m args below meth c H locs ls C hl hP hS
  exact lv_astore C.1 C.2.1 hd hl hn rfl (fun ls2 h => kk p e s m args below meth c H locs ls2 C (hL ▸ x_lv_set h2 h) hP hS)
theorem x_lstore {j : Nat} {z : Int} (hd : decode (z_c Z) pc = .ok (.lstore j, 2)) (hn : j + 1 < z_L Z) (h2 : x_no2 L j = true) (hL : (L.set j (some (.long (xL z)))).set (j + 1) none = L') (kk : x_W Z (pc + 2) L' st k n g N sh D) : x_W Z pc L (.long (xL z) :: st) k n g N sh D := by
  intro p e s m args below meth c H locs ls C hl hP hS
  exact lv_lstore C.1 C.2.1 hd hl hn rfl (fun ls2 h => kk p e s m args below meth c H locs ls2 C (hL ▸ x_lv_set2 h2 h) hP hS)
theorem x_iinc {j : Nat} {i z : Int} (hd : decode (z_c Z) pc = .ok (.iinc j i, 3)) (hv : L[j]? = some (some (.int (xI z)))) (hn : j < z_L Z) (h2 : x_no2 L j = true) (hL : L.set j (some (.int (xI (z + i)))) = L') (kk : x_W Z (pc + 3) L' st k n g N sh D) : x_W Z pc L st k n g N sh D := by
  intro p e s m args below meth c H locs ls C hl hP hS
  obtain ⟨q, hq⟩ := List.getElem?_of_mem ((x_as_mem (q := (j, .int (xI z)))).mpr ⟨j, (Nat.zero_add j).symm, hv⟩)
  exact lv_iinc C.1 C.2.1 hd hl hq (xI_add z i).symm hn rfl (fun ls2 h => kk p e s m args below meth c H locs ls2 C (hL ▸ x_lv_set h2 h) hP hS)
theorem x_iadd {a b : Int} (hd : decode (z_c Z) pc = .ok (.iadd, 1)) (kk : x_W Z (pc + 1) L (.int (xI (a + b)) :: st) k n g N sh D) : x_W Z pc L (.int (xI b) :: .int (xI a) :: st) k n g N sh D := by
  intro p e s m args below meth c H locs ls C hl hP hS
  refine lv_iadd C.1 C.2.1 hd ?_
  have h := kk p e s m args below meth c H locs ls C hl hP hS
  rw [xI_add] at h
  exact h
theorem x_isub {a b : Int} (hd : decode (z_c Z) pc = .ok (.isub, 1)) (kk : x_W Z (pc + 1) L (.int (xI (a - b)) :: st) k n g N sh D) : x_W Z pc L (.int (xI b) :: .int (xI a) :: st) k n g N sh D := by
  intro p e s m args below meth c H locs ls C hl hP hS
  refine lv_isub C.1 C.2.1 hd ?_
  have h := kk p e s m args below meth c H locs ls C hl hP hS
  rw [xI_sub] at h
  exact h
theorem x_imul {a b : Int} (hd : decode (z_c Z) pc = .ok (.imul, 1)) (kk : x_W Z (pc + 1) L (.int (xI (a * b)) :: st) k n g N sh D) : x_W Z pc L (.int (xI b) :: .int (xI a) :: st) k n g N sh D := by
  intro p e s m args below meth c H locs ls C hl hP hS
  refine lv_imul C.1 C.2.1 hd ?_
  have h := kk p e s m args below meth c H locs ls C hl hP hS
  rw [xI_mul] at h
  exact h
theorem x_idiv {a b : Int} (hd : decode (z_c Z) pc = .ok (.idiv, 1)) (h0 : ¬ xI b = 0) (kk : x_W Z (pc + 1) L (.int (xI (x_dv a b)) :: st) k n g N sh D) : x_W Z pc L (.int (xI b) :: .int (xI a) :: st) k n g N sh D := by
  intro p e s m args below meth c H locs ls C hl hP hS
  refine lv_idiv C.1 C.2.1 hd h0 ?_
  have h := kk p e s m args below meth c H locs ls C hl hP hS
  rw [x_dv, xI_toInt] at h
  exact h
theorem x_irem {a b : Int} (hd : decode (z_c Z) pc = .ok (.irem, 1)) (h0 : ¬ xI b = 0) (kk : x_W Z (pc + 1) L (.int (xI (x_rm a b)) :: st) k n g N sh D) : x_W Z pc L (.int (xI b) :: .int (xI a) :: st) k n g N sh D := by
  intro p e s m args below meth c H locs ls C hl hP hS
  refine lv_irem C.1 C.2.1 hd h0 ?_
  have h := kk p e s m args below meth c H locs ls C hl hP hS
  rw [x_rm, xI_toInt] at h
  exact h
theorem x_iand {a b : Int} (hd : decode (z_c Z) pc = .ok (.iand, 1)) (kk : x_W Z (pc + 1) L (.int (xI (x_an a b)) :: st) k n g N sh D) : x_W Z pc L (.int (xI b) :: .int (xI a) :: st) k n g N sh D := by
  intro p e s m args below meth c H locs ls C hl hP hS
  refine lv_iand C.1 C.2.1 hd ?_
  have h := kk p e s m args below meth c H locs ls C hl hP hS
  rw [x_an, xI_toInt] at h
  exact h
theorem x_ior {a b : Int} (hd : decode (z_c Z) pc = .ok (.ior, 1)) (kk : x_W Z (pc + 1) L (.int (xI (x_or a b)) :: st) k n g N sh D) : x_W Z pc L (.int (xI b) :: .int (xI a) :: st) k n g N sh D := by
  intro p e s m args below meth c H locs ls C hl hP hS
  refine lv_ior C.1 C.2.1 hd ?_
  have h := kk p e s m args below meth c H locs ls C hl hP hS
  rw [x_or, xI_toInt] at h
  exact h
theorem x_ixor {a b : Int} (hd : decode (z_c Z) pc = .ok (.ixor, 1)) (kk : x_W Z (pc + 1) L (.int (xI (x_xo a b)) :: st) k n g N sh D) : x_W Z pc L (.int (xI b) :: .int (xI a) :: st) k n g N sh D := by
  intro p e s m args below meth c H locs ls C hl hP hS
  refine lv_ixor C.1 C.2.1 hd ?_
  have h := kk p e s m args below meth c H locs ls C hl hP hS
  rw [x_xo, xI_toInt] at h
  exact h
theorem x_ishl {a b : Int} (hd : decode (z_c Z) pc = .ok (.ishl, 1)) (kk : x_W Z (pc + 1) L (.int (xI (x_sl a b)) :: st) k n g N sh D) : x_W Z pc L (.int (xI b) :: .int (xI a) :: st) k n g N sh D := by
  intro p e s m args below meth c H locs ls C hl hP hS
  refine lv_ishl C.1 C.2.1 hd ?_
  have h := kk p e s m args below meth c H locs ls C hl hP hS
  rw [x_sl, xI_toInt] at h
  exact h
theorem x_ishr {a b : Int} (hd : decode (z_c Z) pc = .ok (.ishr, 1)) (kk : x_W Z (pc + 1) L (.int (xI (x_sr a b)) :: st) k n g N sh D) : x_W Z pc L (.int (xI b) :: .int (xI a) :: st) k n g N sh D := by
  intro p e s m args below meth c H locs ls C hl hP hS
  refine lv_ishr C.1 C.2.1 hd ?_
  have h := kk p e s m args below meth c H locs ls C hl hP hS
  rw [x_sr, xI_toInt] at h
  exact h
theorem x_iushr {a b : Int} (hd : decode (z_c Z) pc = .ok (.iushr, 1)) (kk : x_W Z (pc + 1) L (.int (xI (x_ur a b)) :: st) k n g N sh D) : x_W Z pc L (.int (xI b) :: .int (xI a) :: st) k n g N sh D := by
  intro p e s m args below meth c H locs ls C hl hP hS
  exact lv_iushr C.1 C.2.1 hd (v := xI (x_ur a b)) (by rw [x_ur, xI_toInt]) (kk p e s m args below meth c H locs ls C hl hP hS)
theorem x_i2b {a : Int} (hd : decode (z_c Z) pc = .ok (.i2b, 1)) (kk : x_W Z (pc + 1) L (.int (xI (x_by a)) :: st) k n g N sh D) : x_W Z pc L (.int (xI a) :: st) k n g N sh D := by
  intro p e s m args below meth c H locs ls C hl hP hS
  exact lv_i2b C.1 C.2.1 hd (v := xI (x_by a)) (by rw [x_by, xI_toInt]) (kk p e s m args below meth c H locs ls C hl hP hS)
theorem x_i2l {a : Int} (hd : decode (z_c Z) pc = .ok (.i2l, 1)) (kk : x_W Z (pc + 1) L (.long (xL (x_Il a)) :: st) k n g N sh D) : x_W Z pc L (.int (xI a) :: st) k n g N sh D := by
  intro p e s m args below meth c H locs ls C hl hP hS
  exact lv_i2l C.1 C.2.1 hd (v := xL (x_Il a)) (by rw [x_Il, xL_toInt]) (kk p e s m args below meth c H locs ls C hl hP hS)
theorem x_lshl {a b : Int} (hd : decode (z_c Z) pc = .ok (.lshl, 1)) (kk : x_W Z (pc + 1) L (.long (xL (x_ll a b)) :: st) k n g N sh D) : x_W Z pc L (.int (xI b) :: .long (xL a) :: st) k n g N sh D := by
  intro p e s m args below meth c H locs ls C hl hP hS
  exact lv_lshl C.1 C.2.1 hd (v := xL (x_ll a b)) (by rw [x_ll, xL_toInt]) (kk p e s m args below meth c H locs ls C hl hP hS)
theorem x_lor {a b : Int} (hd : decode (z_c Z) pc = .ok (.lor, 1)) (kk : x_W Z (pc + 1) L (.long (xL (x_lo a b)) :: st) k n g N sh D) : x_W Z pc L (.long (xL b) :: .long (xL a) :: st) k n g N sh D := by
  intro p e s m args below meth c H locs ls C hl hP hS
  refine lv_lor C.1 C.2.1 hd ?_
  have h := kk p e s m args below meth c H locs ls C hl hP hS
  rw [x_lo, xL_toInt] at h
  exact h
theorem x_lsub {a b : Int} (hd : decode (z_c Z) pc = .ok (.lsub, 1)) (kk : x_W Z (pc + 1) L (.long (xL (x_ls a b)) :: st) k n g N sh D) : x_W Z pc L (.long (xL b) :: .long (xL a) :: st) k n g N sh D := by
  intro p e s m args below meth c H locs ls C hl hP hS
  refine lv_lsub C.1 C.2.1 hd ?_
  have h := kk p e s m args below meth c H locs ls C hl hP hS
  rw [x_ls, xL_toInt] at h
  exact h
theorem x_lcmp {a b : Int} (hd : decode (z_c Z) pc = .ok (.lcmp, 1)) (kk : x_W Z (pc + 1) L (.int (xI (x_lc a b)) :: st) k n g N sh D) : x_W Z pc L (.long (xL b) :: .long (xL a) :: st) k n g N sh D := by
  intro p e s m args below meth c H locs ls C hl hP hS
  refine W.lcmp C.1 C.2.1 hd ?_
  have h := kk p e s m args below meth c H locs ls C hl hP hS
  rw [x_lc, xI_toInt] at h
  exact h
theorem x_dup {v : Value} (hd : decode (z_c Z) pc = .ok (.dup, 1)) (h1 : v.category = 1) (kk : x_W Z (pc + 1) L (v :: v :: st) k n g N sh D) : x_W Z pc L (v :: st) k n g N sh D := by
  intro p e s m args below meth c H locs ls C hl hP hS
  exact lv_dup C.1 C.2.1 hd h1 (kk p e s m args below meth c H locs ls C hl hP hS)
theorem x_pop {v : Value} (hd : decode (z_c Z) pc = .ok (.pop, 1)) (h1 : v.category = 1) (kk : x_W Z (pc + 1) L st k n g N sh D) : x_W Z pc L (v :: st) k n g N sh D := by
  intro p e s m args below meth c H locs ls C hl hP hS
  exact lv_pop C.1 C.2.1 hd h1 (kk p e s m args below meth c H locs ls C hl hP hS)
theorem x_dup2 {v u : Value} (hd : decode (z_c Z) pc = .ok (.dup2, 1)) (h1 : v.category = 1) (h2 : u.category = 1) (kk : x_W Z (pc + 1) L (v :: u :: v :: u :: st) k n g N sh D) : x_W Z pc L (v :: u :: st) k n g N sh D := by
  intro p e s m args below meth c H locs ls C hl hP hS
  exact lv_dup2_11 C.1 C.2.1 hd h1 h2 (kk p e s m args below meth c H locs ls C hl hP hS)
theorem x_goto {off : Int} {t : Nat} (hd : decode (z_c Z) pc = .ok (.goto off, 3)) (ht : (pc : Int) + off = (t : Int)) (kk : x_W Z t L st k n g N sh D) : x_W Z pc L st k n g N sh D := by
  intro p e s m args below meth c H locs ls C hl hP hS
  exact lv_goto C.1 C.2.1 hd ht (kk p e s m args below meth c H locs ls C hl hP hS)
theorem x_icmp_eq {a b : Int} {off : Int} {t : Nat} (hd : decode (z_c Z) pc = .ok (.if_icmp .eq off, 3)) (ht : (pc : Int) + off = (t : Int)) (kt : x_n a = x_n b → x_W Z t L st k n g N sh D) (kf : ¬ x_n a = x_n b → x_W Z (pc + 3) L st k n g N sh D) : x_W Z pc L (.int (xI b) :: .int (xI a) :: st) k n g N sh D := by
  intro p e s m args below meth c H locs ls C hl hP hS
  refine lv_icmp_eq C.1 C.2.1 hd ht (fun h => kt ?_ p e s m args below meth c H locs ls C hl hP hS) (fun h => kf ?_ p e s m args below meth c H locs ls C hl hP hS)
  all_goals (simp only [xI_eq, xI_lt, xI_le, Int.not_lt, Int.not_le, Classical.not_not] at h; exact h)
theorem r_icmp_eq {a b : Int} {off : Int} {t : Nat} (hd : decode (z_c Z) pc = .ok (.if_icmp .eq off, 3)) (ht : (pc : Int) + off = (t : Int)) (ha : x_r a) (hb : x_r b) (kt : a = b → x_W Z t L st k n g N sh D) (kf : ¬ a = b → x_W Z (pc + 3) L st k n g N sh D) : x_W Z pc L (.int (xI b) :: .int (xI a) :: st) k n g N sh D := by
  refine x_icmp_eq hd ht (fun h => kt ?_) (fun h => kf ?_)
  all_goals (rw [x_n_of ha, x_n_of hb] at h; exact h)
theorem x_if_eq {a : Int} {off : Int} {t : Nat} (hd : decode (z_c Z) pc = .ok (.ifCond .eq off, 3)) (ht : (pc : Int) + off = (t : Int)) (kt : x_n a = 0 → x_W Z t L st k n g N sh D) (kf : ¬ x_n a = 0 → x_W Z (pc + 3) L st k n g N sh D) : x_W Z pc L (.int (xI a) :: st) k n g N sh D := by
  intro p e s m args below meth c H locs ls C hl hP hS
  refine lv_if_eq C.1 C.2.1 hd ht (fun h => kt ?_ p e s m args below meth c H locs ls C hl hP hS) (fun h => kf ?_ p e s m args below meth c H locs ls C hl hP hS)
  all_goals (simp only [← xI_0, xI_eq, xI_lt, xI_le, x_n0, Int.not_lt, Int.not_le, Classical.not_not] at h; exact h)
theorem r_if_eq {a : Int} {off : Int} {t : Nat} (hd : decode (z_c Z) pc = .ok (.ifCond .eq off, 3)) (ht : (pc : Int) + off = (t : Int)) (ha : x_r a) (kt : a = 0 → x_W Z t L st k n g N sh D) (kf : ¬ a = 0 → x_W Z (pc + 3) L st k n g N sh D) : x_W Z pc L (.int (xI a) :: st) k n g N sh D := by
  refine x_if_eq hd ht (fun h => kt ?_) (fun h => kf ?_)
  all_goals (rw [x_n_of ha] at h; exact h)
theorem x_icmp_ne {a b : Int} {off : Int} {t : Nat} (hd : decode (z_c Z) pc = .ok (.if_icmp .ne off, 3)) (ht : (pc : Int) + off = (t : Int)) (kt : ¬ x_n a = x_n b → x_W Z t L st k n g N sh D) (kf : x_n a = x_n b → x_W Z (pc + 3) L st k n g N sh D) : x_W Z pc L (.int (xI b) :: .int (xI a) :: st) k n g N sh D := by
  intro p e s m args below meth c H locs ls C hl hP hS
  refine lv_icmp_ne C.1 C.2.1 hd ht (fun h => kt ?_ p e s m args below meth c H locs ls C hl hP hS) (fun h => kf ?_ p e s m args below meth c H locs ls C hl hP hS)
  all_goals (simp only [xI_eq, xI_lt, xI_le, Int.not_lt, Int.not_le, Classical.not_not] at h; exact h)
theorem r_icmp_ne {a b : Int} {off : Int} {t : Nat} (hd : decode (z_c Z) pc = .ok (.if_icmp .ne off, 3)) (ht : (pc : Int) + off = (t : Int)) (ha : x_r a) (hb : x_r b) (kt : ¬ a = b → x_W Z t L st k n g N sh D) (kf : a = b → x_W Z (pc + 3) L st k n g N sh D) : x_W Z pc L (.int (xI b) :: .int (xI a) :: st) k n g N sh D := by
  refine x_icmp_ne hd ht (fun h => kt ?_) (fun h => kf ?_)
  all_goals (rw [x_n_of ha, x_n_of hb] at h; exact h)
theorem x_if_ne {a : Int} {off : Int} {t : Nat} (hd : decode (z_c Z) pc = .ok (.ifCond .ne off, 3)) (ht : (pc : Int) + off = (t : Int)) (kt : ¬ x_n a = 0 → x_W Z t L st k n g N sh D) (kf : x_n a = 0 → x_W Z (pc + 3) L st k n g N sh D) : x_W Z pc L (.int (xI a) :: st) k n g N sh D := by
  intro p e s m args below meth c H locs ls C hl hP hS
  refine lv_if_ne C.1 C.2.1 hd ht (fun h => kt ?_ p e s m args below meth c H locs ls C hl hP hS) (fun h => kf ?_ p e s m args below meth c H locs ls C hl hP hS)
  all_goals (simp only [← xI_0, xI_eq, xI_lt, xI_le, x_n0, Int.not_lt, Int.not_le, Classical.not_not] at h; exact h)
theorem r_if_ne {a : Int} {off : Int} {t : Nat} (hd : decode (z_c Z) pc = .ok (.ifCond .ne off, 3)) (ht : (pc : Int) + off = (t : Int)) (ha : x_r a) (kt : ¬ a = 0 → x_W Z t L st k n g N sh D) (kf : a = 0 → x_W Z (pc + 3) L st k n g N sh D) : x_W Z pc L (.int (xI a) :: st) k n g N sh D := by
  refine x_if_ne hd ht (fun h => kt ?_) (fun h => kf ?_)
  all_goals (rw [x_n_of ha] at h; exact h)
theorem x_icmp_lt {a b : Int} {off : Int} {t : Nat} (hd : decode (z_c Z) pc = .ok (.if_icmp .lt off, 3)) (ht : (pc : Int) + off = (t : Int)) (kt : x_n a < x_n b → x_W Z t L st k n g N sh D) (kf : x_n b ≤ x_n a → x_W Z (pc + 3) L st k n g N sh D) : x_W Z pc L (.int (xI b) :: .int (xI a) :: st) k n g N sh D := by
  intro p e s m args below meth c H locs ls C hl hP hS
  refine lv_icmp_lt C.1 C.2.1 hd ht (fun h => kt ?_ p e s m args below meth c H locs ls C hl hP hS) (fun h => kf ?_ p e s m args below meth c H locs ls C hl hP hS)
  all_goals (simp only [xI_eq, xI_lt, xI_le, Int.not_lt, Int.not_le, Classical.not_not] at h; exact h)
theorem r_icmp_lt {a b : Int} {off : Int} {t : Nat} (hd : decode (z_c Z) pc = .ok (.if_icmp .lt off, 3)) (ht : (pc : Int) + off = (t : Int)) (ha : x_r a) (hb : x_r b) (kt : a < b → x_W Z t L st k n g N sh D) (kf : b ≤ a → x_W Z (pc + 3) L st k n g N sh D) : x_W Z pc L (.int (xI b) :: .int (xI a) :: st) k n g N sh D := by
  refine x_icmp_lt hd ht (fun h => kt ?_) (fun h => kf ?_)
  all_goals (rw [x_n_of ha, x_n_of hb] at h; exact h)
theorem x_if_lt {a : Int} {off : Int} {t : Nat} (hd : decode (z_c Z) pc = .ok (.ifCond .lt off, 3)) (ht : (pc : Int) + off = (t : Int)) (kt : x_n a < 0 → x_W Z t L st k n g N sh D) (kf : 0 ≤ x_n a → x_W Z (pc + 3) L st k n g N sh D) : x_W Z pc L (.int (xI a) :: st) k n g N sh D := by
  intro p e s m args below meth c H locs ls C hl hP hS
  refine lv_if_lt C.1 C.2.1 hd ht (fun h => kt ?_ p e s m args below meth c H locs ls C hl hP hS) (fun h => kf ?_ p e s m args below meth c H locs ls C hl hP hS)
  all_goals (simp only [← xI_0, xI_eq, xI_lt, xI_le, x_n0, Int.not_lt, Int.not_le, Classical.not_not] at h; exact h)
theorem r_if_lt {a : Int} {off : Int} {t : Nat} (hd : decode (z_c Z) pc = .ok (.ifCond .lt off, 3)) (ht : (pc : Int) + off = (t : Int)) (ha : x_r a) (kt : a < 0 → x_W Z t L st k n g N sh D) (kf : 0 ≤ a → x_W Z (pc + 3) L st k n g N sh D) : x_W Z pc L (.int (xI a) :: st) k n g N sh D := by
  refine x_if_lt hd ht (fun h => kt ?_) (fun h => kf ?_)
  all_goals (rw [x_n_of ha] at h; exact h)
theorem x_icmp_ge {a b : Int} {off : Int} {t : Nat} (hd : decode (z_c Z) pc = .ok (.if_icmp .ge off, 3)) (ht : (pc : Int) + off = (t : Int)) (kt : x_n b ≤ x_n a → x_W Z t L st k n g N sh D) (kf : x_n a < x_n b → x_W Z (pc + 3) L st k n g N sh D) : x_W Z pc L (.int (xI b) :: .int (xI a) :: st) k n g N sh D := by
  intro p e s m args below meth c H locs ls C hl hP hS
  refine lv_icmp_ge C.1 C.2.1 hd ht (fun h => kt ?_ p e s m args below meth c H locs ls C hl hP hS) (fun h => kf ?_ p e s m args below meth c H locs ls C hl hP hS)
  all_goals (simp only [xI_eq, xI_lt, xI_le, Int.not_lt, Int.not_le, Classical.not_not] at h; exact h)
theorem r_icmp_ge {a b : Int} {off : Int} {t : Nat} (hd : decode (z_c Z) pc = .ok (.if_icmp .ge off, 3)) (ht : (pc : Int) + off = (t : Int)) (ha : x_r a) (hb : x_r b) (kt : b ≤ a → x_W Z t L st k n g N sh D) (kf : a < b → x_W Z (pc + 3) L st k n g N sh D) : x_W Z pc L (.int (xI b) :: .int (xI a) :: st) k n g N sh D := by
  refine x_icmp_ge hd ht (fun h => kt ?_) (fun h => kf ?_)
  all_goals (rw [x_n_of ha, x_n_of hb] at h; exact h)
theorem x_if_ge {a : Int} {off : Int} {t : Nat} (hd : decode (z_c Z) pc = .ok (.ifCond .ge off, 3)) (ht : (pc : Int) + off = (t : Int)) (kt : 0 ≤ x_n a → x_W Z t L st k n g N sh D) (kf : x_n a < 0 → x_W Z (pc + 3) L st k n g N sh D) : x_W Z pc L (.int (xI a) :: st) k n g N sh D := by
  intro p e s m args below meth c H locs ls C hl hP hS
  refine lv_if_ge C.1 C.2.1 hd ht (fun h => kt ?_ p e s m args below meth c H locs ls C hl hP hS) (fun h => kf ?_ p e s m args below meth c H locs ls C hl hP hS)
  all_goals (simp only [← xI_0, xI_eq, xI_lt, xI_le, x_n0, Int.not_lt, Int.not_le, Classical.not_not] at h; exact h)
theorem r_if_ge {a : Int} {off : Int} {t : Nat} (hd : decode (z_c Z) pc = .ok (.ifCond .ge off, 3)) (ht : (pc : Int) + off = (t : Int)) (ha : x_r a) (kt : 0 ≤ a → x_W Z t L st k n g N sh D) (kf : a < 0 → x_W Z (pc + 3) L st k n g N sh D) : x_W Z pc L (.int (xI a) :: st) k n g N sh D := by
  refine x_if_ge hd ht (fun h => kt ?_) (fun h => kf ?_)
  all_goals (rw [x_n_of ha] at h; exact h)
theorem x_icmp_gt {a b : Int} {off : Int} {t : Nat} (hd : decode (z_c Z) pc = .ok (.if_icmp .gt off, 3)) (ht : (pc : Int) + off = (t : Int)) (kt : x_n b < x_n a → x_W Z t L st k n g N sh D) (kf : x_n a ≤ x_n b → x_W Z (pc + 3) L st k n g N sh D) : x_W Z pc L (.int (xI b) :: .int (xI a) :: st) k n g N sh D := by
  intro p e s m args below meth c H locs ls C hl hP hS
  refine lv_icmp_gt C.1 C.2.1 hd ht (fun h => kt ?_ p e s m args below meth c H locs ls C hl hP hS) (fun h => kf ?_ p e s m args below meth c H locs ls C hl hP hS)
  all_goals (simp only [xI_eq, xI_lt, xI_le, Int.not_lt, Int.not_le, Classical.not_not] at h; exact h)
theorem r_icmp_gt {a b : Int} {off : Int} {t : Nat} (hd : decode (z_c Z) pc = .ok (.if_icmp .gt off, 3)) (ht : (pc : Int) + off = (t : Int)) (ha : x_r a) (hb : x_r b) (kt : b < a → x_W Z t L st k n g N sh D) (kf : a ≤ b → x_W Z (pc + 3) L st k n g N sh D) : x_W Z pc L (.int (xI b) :: .int (xI a) :: st) k n g N sh D := by
  refine x_icmp_gt hd ht (fun h => kt ?_) (fun h => kf ?_)
  all_goals (rw [x_n_of ha, x_n_of hb] at h; exact h)
theorem x_if_gt {a : Int} {off : Int} {t : Nat} (hd : decode (z_c Z) pc = .ok (.ifCond .gt off, 3)) (ht : (pc : Int) + off = (t : Int)) (kt : 0 < x_n a → x_W Z t L st k n g N sh D) (kf : x_n a ≤ 0 → x_W Z (pc + 3) L st k n g N sh D) : x_W Z pc L (.int (xI a) :: st) k n g N sh D := by
  intro p e s m args below meth c H locs ls C hl hP hS
  refine lv_if_gt C.1 C.2.1 hd ht (fun h => kt ?_ p e s m args below meth c H locs ls C hl hP hS) (fun h => kf ?_ p e s m args below meth c H locs ls C hl hP hS)
  all_goals (simp only [← xI_0, xI_eq, xI_lt, xI_le, x_n0, Int.not_lt, Int.not_le, Classical.not_not] at h; exact h)
theorem r_if_gt {a : Int} {off : Int} {t : Nat} (hd : decode (z_c Z) pc = .ok (.ifCond .gt off, 3)) (ht : (pc : Int) + off = (t : Int)) (ha : x_r a) (kt : 0 < a → x_W Z t L st k n g N sh D) (kf : a ≤ 0 → x_W Z (pc + 3) L st k n g N sh D) : x_W Z pc L (.int (xI a) :: st) k n g N sh D := by
  refine x_if_gt hd ht (fun h => kt ?_) (fun h => kf ?_)
  all_goals (rw [x_n_of ha] at h; exact h)
theorem x_icmp_le {a b : Int} {off : Int} {t : Nat} (hd : decode (z_c Z) pc = .ok (.if_icmp .le off, 3)) (ht : (pc : Int) + off = (t : Int)) (kt : x_n a ≤ x_n b → x_W Z t L st k n g N sh D) (kf : x_n b < x_n a → x_W Z (pc + 3) L st k n g N sh D) : x_W Z pc L (.int (xI b) :: .int (xI a) :: st) k n g N sh D := by
  intro p e s m args below meth c H locs ls C hl hP hS
  refine lv_icmp_le C.1 C.2.1 hd ht (fun h => kt ?_ p e s m args below meth c H locs ls C hl hP hS) (fun h => kf ?_ p e s m args below meth c H locs ls C hl hP hS)
  all_goals (simp only [xI_eq, xI_lt, xI_le, Int.not_lt, Int.not_le, Classical.not_not] at h; exact h)
theorem r_icmp_le {a b : Int} {off : Int} {t : Nat} (hd : decode (z_c Z) pc = .ok (.if_icmp .le off, 3)) (ht : (pc : Int) + off = (t : Int)) (ha : x_r a) (hb : x_r b) (kt : a ≤ b → x_W Z t L st k n g N sh D) (kf : b < a → x_W Z (pc + 3) L st k n g N sh D) : x_W Z pc L (.int (xI b) :: .int (xI a) :: st) k n g N sh D := by
  refine x_icmp_le hd ht (fun h => kt ?_) (fun h => kf ?_)
  all_goals (rw [x_n_of ha, x_n_of hb] at h; exact h)
theorem x_if_le {a : Int} {off : Int} {t : Nat} (hd : decode (z_c Z) pc = .ok (.ifCond .le off, 3)) (ht : (pc : Int) + off = (t : Int)) (kt : x_n a ≤ 0 → x_W Z t L st k n g N sh D) (kf : 0 < x_n a → x_W Z (pc + 3) L st k n g N sh D) : x_W Z pc L (.int (xI a) :: st) k n g N sh D := by
  intro p e s m args below meth c H locs ls C hl hP hS
  refine lv_if_le C.1 C.2.1 hd ht (fun h => kt ?_ p e s m args below meth c H locs ls C hl hP hS) (fun h => kf ?_ p e s m args below meth c H locs ls C hl hP hS)
  all_goals (simp only [← xI_0, xI_eq, xI_lt, xI_le, x_n0, Int.not_lt, Int.not_le, Classical.not_not] at h; exact h)
theorem r_if_le {a : Int} {off : Int} {t : Nat} (hd : decode (z_c Z) pc = .ok (.ifCond .le off, 3)) (ht : (pc : Int) + off = (t : Int)) (ha : x_r a) (kt : a ≤ 0 → x_W Z t L st k n g N sh D) (kf : 0 < a → x_W Z (pc + 3) L st k n g N sh D) : x_W Z pc L (.int (xI a) :: st) k n g N sh D := by
  refine x_if_le hd ht (fun h => kt ?_) (fun h => kf ?_)
  all_goals (rw [x_n_of ha] at h; exact h)
theorem x_n_B (c : Prop) [Decidable c] : x_n (x_B c) = x_B c := by
  apply x_n_of; unfold x_B; split <;> exact ⟨by decide, by decide⟩
theorem x_r_B (c : Prop) [Decidable c] : x_r (x_B c) := by
  unfold x_B; split <;> exact ⟨by decide, by decide⟩
theorem b_ifeq {q : Prop} [Decidable q] {off : Int} {t : Nat} (hd : decode (z_c Z) pc = .ok (.ifCond .eq off, 3)) (ht : (pc : Int) + off = (t : Int)) (kt : ¬ q → x_W Z t L st k n g N sh D) (kf : q → x_W Z (pc + 3) L st k n g N sh D) : x_W Z pc L (.int (xI (x_B q)) :: st) k n g N sh D := by
  refine r_if_eq hd ht (x_r_B q) (fun h => kt ?_) (fun h => kf ?_)
  · intro hq; rw [x_B, if_pos hq] at h; cases h
  · apply Classical.byContradiction; intro hq; rw [x_B, if_neg hq] at h; exact h rfl
theorem b_ifne {q : Prop} [Decidable q] {off : Int} {t : Nat} (hd : decode (z_c Z) pc = .ok (.ifCond .ne off, 3)) (ht : (pc : Int) + off = (t : Int)) (kt : q → x_W Z t L st k n g N sh D) (kf : ¬ q → x_W Z (pc + 3) L st k n g N sh D) : x_W Z pc L (.int (xI (x_B q)) :: st) k n g N sh D := by
  refine r_if_ne hd ht (x_r_B q) (fun h => kt ?_) (fun h => kf ?_)
  · apply Classical.byContradiction; intro hq; rw [x_B, if_neg hq] at h; exact h rfl
  · intro hq; rw [x_B, if_pos hq] at h; cases h
theorem x_tswOut {dflt lo hi : Int} {offs : Array Int} {len : Nat} {a : Int} {t : Nat} (hd : decode (z_c Z) pc = .ok (.tableswitch dflt lo hi offs, len)) (h : x_n a < lo ∨ hi < x_n a) (ht : (pc : Int) + dflt = (t : Int)) (kk : x_W Z t L st k n g N sh D) : x_W Z pc L (.int (xI a) :: st) k n g N sh D := by
  intro p e s m args below meth c H locs ls C hl hP hS
  exact lv_tableOut C.1 C.2.1 hd h ht (kk p e s m args below meth c H locs ls C hl hP hS)
theorem x_tswIn {dflt lo hi : Int} {offs : Array Int} {len : Nat} {a : Int} {off : Int} {t : Nat} (hd : decode (z_c Z) pc = .ok (.tableswitch dflt lo hi offs, len)) (h1 : lo ≤ x_n a) (h2 : x_n a ≤ hi) (ho : offs[(x_n a - lo).toNat]? = some off) (ht : (pc : Int) + off = (t : Int)) (kk : x_W Z t L st k n g N sh D) : x_W Z pc L (.int (xI a) :: st) k n g N sh D := by
  intro p e s m args below meth c H locs ls C hl hP hS
  exact lv_tableIn C.1 C.2.1 hd (Int.not_lt.mpr h1) (Int.not_lt.mpr h2) ho ht (kk p e s m args below meth c H locs ls C hl hP hS)
theorem x_lsw {dflt : Int} {ps : Array (Int × Int)} {len : Nat} {a : Int} {off : Int} {t : Nat} (hd : decode (z_c Z) pc = .ok (.lookupswitch dflt ps, len)) (hp : (ps.toList.zip (ps.toList.drop 1)).all (fun (a, next) => a.1 < next.1) = true) (ho : Op.lookupswitch.offset ps.toList dflt (x_n a) = off) (ht : (pc : Int) + off = (t : Int)) (kk : x_W Z t L st k n g N sh D) : x_W Z pc L (.int (xI a) :: st) k n g N sh D := by
  intro p e s m args below meth c H locs ls C hl hP hS
  exact lv_lookup C.1 C.2.1 hd hp ho ht (kk p e s m args below meth c H locs ls C hl hP hS)
/-- a number on the stack gets a name -/
theorem x_top {a : Int} (kk : ∀ z : Int, z = a → x_W Z pc L (.int (xI z) :: st) k n g N sh D) : x_W Z pc L (.int (xI a) :: st) k n g N sh D := kk a rfl
theorem x_as_is {a b : Int} (h : a = b) (kk : x_W Z pc L (.int (xI b) :: st) k n g N sh D) : x_W Z pc L (.int (xI a) :: st) k n g N sh D := h ▸ kk
theorem x_nrm {a : Int} (kk : x_W Z pc L (.int (xI (x_n a)) :: st) k n g N sh D) : x_W Z pc L (.int (xI a) :: st) k n g N sh D := by rw [xI_n] at kk; exact kk
theorem x_mem {D' : xM} (h : D = D') (kk : x_W Z pc L st k n g N sh D') : x_W Z pc L st k n g N sh D := h ▸ kk
theorem x_lcl (h : ∀ (i : Nat) (v : Value), L'[i]? = some (some v) → L[i]? = some (some v)) (kk : x_W Z pc L' st k n g N sh D) : x_W Z pc L st k n g N sh D := by
  intro p e s m args below meth c H locs ls C hl hP hS
  exact kk p e s m args below meth c H locs ls C (x_lv_forget hl h) hP hS
theorem x_widen {k' n' : Nat} (h1 : k ≤ k') (h2 : n ≤ n') (kk : x_W Z pc L st k' n' g N sh D) : x_W Z pc L st k n g N sh D := by
  intro p e s m args below meth c H locs ls C hl hP hS
  exact W.widen h1 h2 (kk p e s m args below meth c H locs ls C hl hP hS)
theorem x_end {o : x_O} {s : State} {X : xC} {H : Heap} {locs : List Loc} {v : Option Value} {F : xM → Prop} (ho : o = .inl v) (hF : F D) (hP : x_P X g N sh D H) (hS : va_S (x_A X) s.heap H locs) (args : Array Value) (t : State) (ht : t.heap = H) : x_Q X o g N sh F args s (.returned v) t := ⟨v, D, ho, rfl, hF, ht ▸ hP, hS.F ht⟩
theorem x_iret {a : Int} (hd : decode (z_c Z) pc = .ok (.ireturn, 1)) (hr : z_t Z = some .int) (hk : k ≤ z_m Z) (hn : n ≤ z_s Z) (ho : z_o Z = .inl (some (.int (xI a)))) (hN : z_N Z = N) (hs : z_S Z = sh) (hD : z_D Z D) (hg : z_g Z = g) : x_W Z pc L [.int (xI a)] k n g N sh D := by
  intro p e s m args below meth c H locs ls C hl hP hS
  rw [hN, hs, hg]
  refine W.widen hk hn (vx_ret (W.iret C.1 C.2.1 (C.2.2.2.2.2.1.trans hr) (fun t ht _ => x_end ho hD hP hS args t ht) hS.2.2 hd C.2.2.2.2.2.2.1))
theorem x_zret {a : Int} (hd : decode (z_c Z) pc = .ok (.ireturn, 1)) (hr : z_t Z = some .boolean) (hz : a = 0 ∨ a = 1) (hk : k ≤ z_m Z) (hn : n ≤ z_s Z) (ho : z_o Z = .inl (some (.int (xI a)))) (hN : z_N Z = N) (hs : z_S Z = sh) (hD : z_D Z D) (hg : z_g Z = g) : x_W Z pc L [.int (xI a)] k n g N sh D := by
  intro p e s m args below meth c H locs ls C hl hP hS
  rw [hN, hs, hg]
  refine W.widen hk hn (vx_ret (W.zret C.1 C.2.1 (C.2.2.2.2.2.1.trans hr) ?_ (fun t ht _ => x_end ho hD hP hS args t ht) hS.2.2 hd C.2.2.2.2.2.2.1))
  rcases hz with rfl | rfl <;> rfl
theorem x_lret {a : Int} (hd : decode (z_c Z) pc = .ok (.lreturn, 1)) (hr : z_t Z = some .long) (hk : k ≤ z_m Z) (hn : n ≤ z_s Z) (ho : z_o Z = .inl (some (.long (xL a)))) (hN : z_N Z = N) (hs : z_S Z = sh) (hD : z_D Z D) (hg : z_g Z = g) : x_W Z pc L [.long (xL a)] k n g N sh D := by
  intro p e s m args below meth c H locs ls C hl hP hS
  rw [hN, hs, hg]
  refine W.widen hk hn (vx_ret (W.lret C.1 C.2.1 (C.2.2.2.2.2.1.trans hr) (fun t ht _ => x_end ho hD hP hS args t ht) hS.2.2 hd C.2.2.2.2.2.2.1))
theorem x_vret (hd : decode (z_c Z) pc = .ok (.return_, 1)) (hr : z_t Z = none) (hk : k ≤ z_m Z) (hn : n ≤ z_s Z) (ho : z_o Z = .inl none) (hN : z_N Z = N) (hs : z_S Z = sh) (hD : z_D Z D) (hg : z_g Z = g) : x_W Z pc L [] k n g N sh D := by
  intro p e s m args below meth c H locs ls C hl hP hS
  rw [hN, hs, hg]
  refine W.widen hk hn (vx_ret (W.vret C.1 C.2.1 (C.2.2.2.2.2.1.trans hr) (fun t ht _ => x_end ho hD hP hS args t ht) hS.2.2 hd C.2.2.2.2.2.2.1))
end XLD
