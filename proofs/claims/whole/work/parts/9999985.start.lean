section L85
/-! ===== the start: what the premises say of it ===== -/
def pmL : List Cond := flatC (.and given_1 narrow_1)
def str_p (i : Nat) : Nat := ([35, 69, 77, 84, 93, 104, 111, 119, 126, 134, 141, 150, 159, 166, 176, 183, 189, 206, 222, 250, 267, 296, 311, 344, 371, 401, 438, 460] : List Nat).getD i 0
def sr_p (i : Nat) : Nat := ([636, 704, 773, 802, 803, 808, 813, 834, 859, 860, 861, 862, 863, 864, 869, 870, 919, 937, 940, 952, 953, 965, 1003, 1007, 1093, 1131, 1227, 1288] : List Nat).getD i 0
theorem pm_ex : ∀ i : Nat, i < 28 → pmL[str_p i]? = some (.exactly (.string (x_str i).1 (x_str i).2.1) "java/lang/String") := by decide +kernel
theorem pm_sr : ∀ i : Nat, i < 28 → lw_tbl[sr_p i]? = some (.stringRef (x_str i).1 (x_str i).2.1 (x_str i).2.2) := by decide +kernel
theorem pm_co : ∀ i : Nat, i < 16 → 1 ≤ i → pmL[str_p i + 1]? = some (.eq (.field (.string (x_str i).1 (x_str i).2.1) "java/lang/String" "coder" "B") (.int 0)) := by decide +kernel
theorem pm_ar : ∀ i : Nat, i < 16 → 1 ≤ i → pmL[str_p i + 2]? = some (.arrayOf (.field (.string (x_str i).1 (x_str i).2.1) "java/lang/String" "value" "[B") .byte) := by decide +kernel
theorem pm_ln : ∀ i : Nat, i < 16 → 1 ≤ i → pmL[str_p i + 3]? = some (.eq (.length (.field (.string (x_str i).1 (x_str i).2.1) "java/lang/String" "value" "[B")) (.int (Int32.ofNat (x_tx i).length))) := by decide +kernel
theorem pm_el : ∀ i : Nat, i < 16 → ∀ j : Nat, j < (x_tx i).length → pmL[str_p i + 4 + j]? = some (.eq (.elem (.field (.string (x_str i).1 (x_str i).2.1) "java/lang/String" "value" "[B") (.int (Int32.ofNat j))) (.int (xI ((x_tx i).getD j 0)))) := by decide +kernel
theorem pm_t1 : pmL[4]? = some (Jvm.Cond.isRef (Jvm.Term.static "java/lang/Throwable" "UNASSIGNED_STACK" "[Ljava/lang/StackTraceElement;")) := by decide +kernel
theorem pm_t2 : pmL[5]? = some (Jvm.Cond.isRef (Jvm.Term.static "java/lang/Throwable" "SUPPRESSED_SENTINEL" "Ljava/util/List;")) := by decide +kernel
theorem pm_t3 : pmL[6]? = some (Jvm.Cond.eq (Jvm.Term.static "java/lang/String" "COMPACT_STRINGS" "Z") (Jvm.Term.int (1 : Int32))) := by decide +kernel
theorem pm_t4 : pmL[7]? = some (Jvm.Cond.isRef (Jvm.Term.static "jdk/internal/util/Preconditions" "SIOOBE_FORMATTER" "Ljava/util/function/BiFunction;")) := by decide +kernel
theorem pm_t5 : pmL[34]? = some (Jvm.Cond.not (Jvm.Cond.castable "java/lang/IllegalArgumentException" "java/util/NoSuchElementException")) := by decide +kernel
theorem pl_t1 : lw_tbl[623]? = some (.laysStatic "java/lang/Throwable" "UNASSIGNED_STACK" "[Ljava/lang/StackTraceElement;") := by decide +kernel
theorem pl_t2 : lw_tbl[625]? = some (.laysStatic "java/lang/Throwable" "SUPPRESSED_SENTINEL" "Ljava/util/List;") := by decide +kernel
theorem pl_t3 : lw_tbl[718]? = some (.laysStatic "java/lang/String" "COMPACT_STRINGS" "Z") := by decide +kernel
theorem pl_t4 : lw_tbl[734]? = some (.laysStatic "jdk/internal/util/Preconditions" "SIOOBE_FORMATTER" "Ljava/util/function/BiFunction;") := by decide +kernel
theorem pi_t : lw_tbl[91]? = some (.initialized "java/lang/Throwable") := by decide +kernel
theorem pi_s : lw_tbl[96]? = some (.initialized "java/lang/String") := by decide +kernel
theorem pi_p : lw_tbl[98]? = some (.initialized "jdk/internal/util/Preconditions") := by decide +kernel
theorem ins_0 : Cond.instantiable RX0 3 ∈ x_T := (x_in 286 (by decide +kernel) rfl)
theorem ins_1 : Cond.instantiable RX1 6 ∈ x_T := (x_in 327 (by decide +kernel) rfl)
theorem ins_2 : Cond.instantiable RX2 1 ∈ x_T := (x_in 355 (by decide +kernel) rfl)
theorem ins_3 : Cond.instantiable RX3 7 ∈ x_T := (x_in 120 (by decide +kernel) rfl)
theorem ins_5 : Cond.instantiable RX5 10 ∈ x_T := (x_in 114 (by decide +kernel) rfl)
theorem ins_6 : Cond.instantiable RX6 8 ∈ x_T := (x_in 126 (by decide +kernel) rfl)
theorem ins_7 : Cond.instantiable RX7 5 ∈ x_T := (x_in 163 (by decide +kernel) rfl)
theorem ins_8 : Cond.instantiable RX8 4 ∈ x_T := (x_in 303 (by decide +kernel) rfl)
theorem ins_9 : Cond.instantiable RX9 1 ∈ x_T := (x_in 186 (by decide +kernel) rfl)
theorem ins_11 : Cond.instantiable RX11 15 ∈ x_T := (x_in 106 (by decide +kernel) rfl)
theorem ins_12 : Cond.instantiable RX12 63 ∈ x_T := (x_in 1338 (by decide +kernel) rfl)
theorem arc_long : Cond.arrayClass .long ∈ x_T := (x_in 1995 (by decide +kernel) rfl)
theorem cl_ok : ∀ r ∈ x_cl, ∃ n : Nat, (∀ w ∈ u_ws r.1 r.2.1 r.2.2, w ∈ x_T) ∧ Cond.instantiable r.1 n ∈ x_T := (List.forall_mem_cons.mpr ⟨⟨_, uX_0, ins_0⟩, (List.forall_mem_cons.mpr ⟨⟨_, uX_1, ins_1⟩, (List.forall_mem_cons.mpr ⟨⟨_, uX_2, ins_2⟩, (List.forall_mem_cons.mpr ⟨⟨_, uX_3, ins_3⟩, (List.forall_mem_cons.mpr ⟨⟨_, uX_9, ins_9⟩, (List.forall_mem_cons.mpr ⟨⟨_, uX_5, ins_5⟩, (List.forall_mem_cons.mpr ⟨⟨_, uX_6, ins_6⟩, (List.forall_mem_cons.mpr ⟨⟨_, uX_7, ins_7⟩, (List.forall_mem_cons.mpr ⟨⟨_, uX_8, ins_8⟩, (List.forall_mem_cons.mpr ⟨⟨_, uX_9, ins_9⟩, (List.forall_mem_cons.mpr ⟨⟨_, uX_9, ins_9⟩, (List.forall_mem_cons.mpr ⟨⟨_, uX_11, ins_11⟩, (List.forall_mem_cons.mpr ⟨⟨_, uX_12, ins_12⟩, (fun _ h => absurd h List.not_mem_nil)⟩)⟩)⟩)⟩)⟩)⟩)⟩)⟩)⟩)⟩)⟩)⟩)⟩)
theorem okw_on {w : Cond} (h : x_okw w = true) : w.onTables = true := by
  cases w <;> first | rfl | (simp [x_okw] at h; done)
theorem xI_any (v : Int32) : ∃ m : Nat, xI (m : Int) = v := by
  by_cases h : 0 ≤ v.toInt
  · exact ⟨v.toInt.toNat, by rw [Int.toNat_of_nonneg h]; exact xI_toInt v⟩
  · have h2 := Int32.le_toInt v
    refine ⟨(v.toInt + 4294967296).toNat, ?_⟩
    rw [Int.toNat_of_nonneg (by omega), xI_add, xI_toInt, show xI 4294967296 = 0 by decide]
    exact Int32.add_zero v
theorem st_arr {s : State} {args : Array Value} {ty : FieldType} (hty : ty = .int ∨ ty = .byte ∨ ty = .boolean ∨ ty = .long) (h : (Cond.arrayClass ty).before args s = true) : ∃ cA : ClassId, ArrOfT s cA ty ∧ va_RA s cA ty := by
  obtain ⟨cA, kA, comp, h1, h2, h3⟩ := Cond.arrayClass_spec h
  refine ⟨cA, fun n z => ⟨fun k h => (by cases h), kA, h2, comp, h3⟩, ?_⟩
  rcases hty with rfl | rfl | rfl | rfl <;> exact h1
theorem st_X {s : State} {b L : Nat} {xs : Nat → Int32} (hL : L ≤ 3072) (hts : ∀ w ∈ lw_tbl, w.before #[Value.ref b] s = true) (hX : va_X b L xs s s.heap) (hb : b < s.heap.size) (hpre : (Cond.and given_1 narrow_1).before #[Value.ref b] s = true) : ∃ X : xC, x_b X = s.heap.size ∧ xsc X = b ∧ xsl X = L ∧ x_K X s ∧ x_E X s s.heap := by
  have hp := flat_of_before _ hpre
  have hm : ∀ {n : Nat} {c : Cond}, pmL[n]? = some c → c.before #[Value.ref b] s = true := fun h => hp _ (List.mem_of_getElem? h)
  have ht : ∀ {n : Nat} {c : Cond}, lw_tbl[n]? = some c → c.before #[Value.ref b] s = true := fun h => hts _ (List.mem_of_getElem? h)
  have htT : ∀ w ∈ x_T, w.before #[Value.ref b] s = true := fun w hw => hts w (List.mem_filter.mp hw).1
  have hA : ∀ a : Nat, a < s.heap.size → ¬ (fun q : Nat => s.heap.size ≤ q) a := fun a ha h => absurd ha (Nat.not_lt.mpr h)
  have hstr : ∀ i : Nat, ∃ q : Nat × Nat, (i < 28 → (Term.string (x_str i).1 (x_str i).2.1).eval #[Value.ref b] s none [] s = some (.ref q.1)) ∧ (1 ≤ i → i ≤ 15 → va_O "java/lang/String" q.1 (fun q => s.heap.size ≤ q) s s.heap ∧ va_OF "java/lang/String" "coder" "B" (.int 0) q.1 (fun q => s.heap.size ≤ q) s s.heap ∧ va_OF "java/lang/String" "value" "[B" (.ref q.2) q.1 (fun q => s.heap.size ≤ q) s s.heap ∧ va_T .byte q.2 (x_tx i).length (fun j => .int (xI ((x_tx i).getD j 0))) (fun q => s.heap.size ≤ q) s s.heap) := by
    intro i
    by_cases hi : i < 28
    · obtain ⟨a, c, cA, kA, q1, q2, q3, q4, q5, q6, -⟩ := Cond.exactly_spec (args := #[Value.ref b]) (first := s) (o := none) (s := s) (idx := []) (t := Term.string (x_str i).1 (x_str i).2.1) (cls := "java/lang/String") (hm (pm_ex i hi))
      by_cases h15 : 1 ≤ i ∧ i ≤ 15
      · have hlen := x_tx_len i h15.2
        obtain ⟨t, ht1, hT⟩ := va_Tof (f := fun j => .int (xI ((x_tx i).getD j 0))) (A := fun q => s.heap.size ≤ q) (show (x_tx i).length < 2 ^ 31 by omega) (hm (pm_ar i (by omega) h15.1)) (va_eqt (hm (pm_ln i (by omega) h15.1))) (fun j hj => va_eqt (hm (pm_el i (by omega) j hj))) hA
        exact ⟨(a, t), fun _ => q1, fun _ _ => ⟨⟨cA, q3, q5, by rw [q6]; exact q2, hA a (Array.getElem?_eq_some_iff.mp q3).1⟩, vk_OFof q1 (va_eqt (hm (pm_co i (by omega) h15.1))) hA, vk_OFof q1 ht1 hA, hT⟩⟩
      · exact ⟨(a, 0), fun _ => q1, fun h1 h2 => absurd ⟨h1, h2⟩ h15⟩
    · exact ⟨(0, 0), fun h => absurd h hi, fun h1 h2 => absurd (show i < 28 by omega) hi⟩
  obtain ⟨ad, had⟩ := Classical.axiomOfChoice hstr
  obtain ⟨nu, hnu⟩ := Classical.axiomOfChoice (fun j : Nat => xI_any (xs j))
  have hcl : ∀ c : Nat, ∃ q : ClassId × (Nat → Nat), ∀ r : vw_C, x_cl[c]? = some r → u_Kn s r.1 r.2.1 r.2.2 q.1 q.2 := by
    intro c
    cases hc : x_cl[c]? with
    | none => exact ⟨(0, fun _ => 0), fun r hr => by cases hr⟩
    | some r =>
      obtain ⟨n, h1, h2⟩ := cl_ok r (List.mem_of_getElem? hc)
      obtain ⟨cC, iS, h3⟩ := u_known htT h1 (htT _ h2)
      exact ⟨(cC, iS), fun r' hr => by cases hr; exact h3⟩
  obtain ⟨cd, hcd⟩ := Classical.axiomOfChoice hcl
  obtain ⟨c0, a0⟩ := st_arr (Or.inl rfl) (htT _ arc_int)
  obtain ⟨c1, a1⟩ := st_arr (Or.inr (Or.inl rfl)) (htT _ arc_byte)
  obtain ⟨c2, a2⟩ := st_arr (Or.inr (Or.inr (Or.inl rfl))) (htT _ arc_boolean)
  obtain ⟨c3, a3⟩ := st_arr (Or.inr (Or.inr (Or.inr rfl))) (htT _ arc_long)
  refine ⟨(s.heap.size, (fun c => (cd c).1, fun c => (cd c).2), (fun t => if t = 0 then c0 else if t = 1 then c1 else if t = 2 then c2 else c3), (fun i => if i < 28 then (ad i).1 else if i = 28 then b else L), (fun i => if i < 100 then (ad i).2 else nu (i - 100))), rfl, rfl, rfl, ?_, ?_⟩
  · refine ⟨fun c q h => hcd c q h, fun k q h => ?_⟩
    have hk : k < 4 := (List.getElem?_eq_some_iff.mp h).1
    rcases (show k = 0 ∨ k = 1 ∨ k = 2 ∨ k = 3 by omega) with rfl | rfl | rfl | rfl
    · cases h; exact a0
    · cases h; exact a1
    · cases h; exact a2
    · cases h; exact a3
  · refine ⟨⟨vx_Zqof (ht pl_t1) (ht pi_t) (hm pm_t1) hA, vx_Zqof (ht pl_t2) (ht pi_t) (hm pm_t2) hA⟩, fun w hw => va_Nw.of (okw_on (List.mem_filter.mp hw).2) (hts w (List.mem_filter.mp hw).1), fun i hi => ?_, fun i h1 h2 => ?_, va_Nc.of (hm pm_t5), va_Zof (ht pl_t3) (ht pi_s) (va_eqt (hm pm_t3)) hA, va_Zqof (ht pl_t4) (ht pi_p) (hm pm_t4) hA, ?_⟩
    · show vk_R _ _ _ (if i < 28 then (ad i).1 else if i = 28 then b else L) s
      rw [if_pos hi]
      exact vk_R.of (ht (pm_sr i hi)) ((had i).1 hi)
    · have h4 := (had i).2 h1 h2
      show va_O "java/lang/String" (if i < 28 then (ad i).1 else if i = 28 then b else L) _ s s.heap ∧ va_OF "java/lang/String" "coder" "B" (.int 0) (if i < 28 then (ad i).1 else if i = 28 then b else L) _ s s.heap ∧ va_OF "java/lang/String" "value" "[B" (.ref (if i < 100 then (ad i).2 else nu (i - 100))) (if i < 28 then (ad i).1 else if i = 28 then b else L) _ s s.heap ∧ va_T .byte (if i < 100 then (ad i).2 else nu (i - 100)) _ _ _ s s.heap
      rw [if_pos (by omega), if_pos (by omega)]
      exact h4
    · obtain ⟨scr, g1, g2, g3, g4, g5⟩ := hX
      refine ⟨scr, g1, g2, g3, Nat.le_of_eq g4.symm, by rw [g4]; rfl, fun j hj => ?_, hA b hb⟩
      rw [g5 j hj]
      show some (Value.int (xs j)) = some (Value.int (xI ((if 100 + j < 100 then (ad (100 + j)).2 else nu (100 + j - 100) : Nat) : Int)))
      rw [if_neg (by omega), Nat.add_sub_cancel_left, hnu j]
end L85
