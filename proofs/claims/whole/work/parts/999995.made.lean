section L5
/-! ===== constructors ===== -/
theorem w_1_27 : x_cin RX1 27 yX9_init cX9_init 1 0 := ⟨⟨"LuckCrates", x_inw 333 (by decide +kernel) rfl⟩, (x_in 188 (by decide +kernel) rfl), rfl, (x_in 85 (by decide +kernel) rfl), (x_in 189 (by decide +kernel) rfl), by decide, ⟨by decide +kernel, by decide +kernel, by decide +kernel⟩⟩
theorem w_3_27 : x_cin RX3 27 yX6_init cX6_init 1 0 := ⟨⟨"LuckCrates", x_inw 127 (by decide +kernel) rfl⟩, (x_in 128 (by decide +kernel) rfl), rfl, (x_in 83 (by decide +kernel) rfl), (x_in 129 (by decide +kernel) rfl), by decide, ⟨by decide +kernel, by decide +kernel, by decide +kernel⟩⟩
theorem w_3_34 : x_cin RX3 34 yX7_init cX7_init 1 0 := ⟨⟨"LuckCrates", x_inw 164 (by decide +kernel) rfl⟩, (x_in 165 (by decide +kernel) rfl), rfl, (x_in 84 (by decide +kernel) rfl), (x_in 166 (by decide +kernel) rfl), by decide, ⟨by decide +kernel, by decide +kernel, by decide +kernel⟩⟩
theorem w_3_41 : x_cin RX3 41 yX9_init cX9_init 1 0 := ⟨⟨"LuckCrates", x_inw 187 (by decide +kernel) rfl⟩, (x_in 188 (by decide +kernel) rfl), rfl, (x_in 85 (by decide +kernel) rfl), (x_in 189 (by decide +kernel) rfl), by decide, ⟨by decide +kernel, by decide +kernel, by decide +kernel⟩⟩
theorem w_5_36 : x_cin RX5 36 yX3_init cX3_init 1 0 := ⟨⟨"LuckCrates", x_inw 121 (by decide +kernel) rfl⟩, (x_in 122 (by decide +kernel) rfl), rfl, (x_in 82 (by decide +kernel) rfl), (x_in 123 (by decide +kernel) rfl), by decide, ⟨by decide +kernel, by decide +kernel, by decide +kernel⟩⟩
/-- an object being made: all ahead of it as it was, itself F, what it made all 0 (but for cell 1) -/
def zq (q N : Nat) (F : Int → Int) (D d : xM) : Prop := (∀ j, j < q → d j = D j) ∧ d q = F ∧ ∀ j, q < j → j < N → j ≠ 1 → d j = fun _ => 0
def zz (q N : Nat) (D d : xM) : Prop := (∀ j, j < q → d j = D j) ∧ ∀ j, q ≤ j → j < N → j ≠ 1 → d j = fun _ => 0
theorem zq_rf {q : Nat} {D : xM} {F : Int → Int} (h : D q = F) : zq q (q + 1) F D D := ⟨fun _ _ => rfl, h, fun j a b _ => absurd b (by omega)⟩
theorem zq_new {q N : Nat} {F : Int → Int} {D d : xM} (hq : q < N) (h : zq q N F D d) : zq q (N + 1) F D (x_up d N (fun _ => 0)) := by
  refine ⟨fun j a => by rw [x_up_n (by omega)]; exact h.1 j a, by rw [x_up_n (by omega)]; exact h.2.1, fun j a b c => ?_⟩
  by_cases e : j = N
  · rw [e, x_up_s]
  · rw [x_up_n e]; exact h.2.2 j a (by omega) c
theorem zq_put {q N : Nat} {F : Int → Int} {D d : xM} {i v : Int} (h : zq q N F D d) : zq q N (x_u1 F i v) D (x_up d q (x_u1 (d q) i v)) :=
  ⟨fun j a => by rw [x_up_n (by omega)]; exact h.1 j a, by rw [x_up_s, h.2.1], fun j a b c => by rw [x_up_n (by omega)]; exact h.2.2 j a b c⟩
theorem zq_in {q N M : Nat} {F : Int → Int} {D d e : xM} (hq : q < N) (h : zq q (N + 1) F D d) (h2 : zz N M d e) : zq q M F D e := by
  refine ⟨fun j a => by rw [h2.1 j (by omega)]; exact h.1 j a, by rw [h2.1 q hq]; exact h.2.1, fun j a b c => ?_⟩
  by_cases e : j < N
  · rw [h2.1 j e]; exact h.2.2 j a (by omega) c
  · exact h2.2 j (by omega) b c
theorem u1_z {i : Int} : x_u1 (fun _ => 0) i 0 = fun _ => 0 := by funext j; unfold x_u1; split <;> rfl
theorem zz_of {q N : Nat} {D d : xM} (h : zq q N (fun _ => 0) D d) : zz q N D d := ⟨h.1, fun j a b c => by
  by_cases e : j = q
  · rw [e]; exact h.2.1
  · exact h.2.2 j (by omega) b c⟩
theorem zz_1 {N : Nat} {F : Int → Int} {D d : xM} (h : zq 1 N F D d) : zz 1 N D d := ⟨h.1, fun j a b c => h.2.2 j (by omega) b c⟩
theorem ol_i : Cond.instanceMethod Lib.objectInit ∈ x_T := (x_in 111 (by decide +kernel) rfl)
theorem ol_c : Cond.code Lib.objectInit ⟨#[0xb1]⟩ 1 none ∈ x_T := (x_in 112 (by decide +kernel) rfl)
theorem ol_0 : Cond.methodLink RX0 3 Lib.objectInit ∈ x_T := (x_in 290 (by decide +kernel) rfl)
theorem ol_1 : Cond.methodLink RX1 5 Lib.objectInit ∈ x_T := (x_in 331 (by decide +kernel) rfl)
theorem ol_2 : Cond.methodLink RX2 1 Lib.objectInit ∈ x_T := (x_in 359 (by decide +kernel) rfl)
theorem ol_3 : Cond.methodLink RX3 3 Lib.objectInit ∈ x_T := (x_in 124 (by decide +kernel) rfl)
theorem ol_5 : Cond.methodLink RX5 3 Lib.objectInit ∈ x_T := (x_in 118 (by decide +kernel) rfl)
theorem ol_6 : Cond.methodLink RX6 3 Lib.objectInit ∈ x_T := (x_in 130 (by decide +kernel) rfl)
theorem ol_7 : Cond.methodLink RX7 3 Lib.objectInit ∈ x_T := (x_in 167 (by decide +kernel) rfl)
theorem ol_8 : Cond.methodLink RX8 3 Lib.objectInit ∈ x_T := (x_in 307 (by decide +kernel) rfl)
theorem ol_9 : Cond.methodLink RX9 5 Lib.objectInit ∈ x_T := (x_in 190 (by decide +kernel) rfl)
theorem ol_11 : Cond.methodLink RX11 1 Lib.objectInit ∈ x_T := (x_in 110 (by decide +kernel) rfl)
theorem ol_12 : Cond.methodLink RX12 1 Lib.objectInit ∈ x_T := (x_in 1342 (by decide +kernel) rfl)
theorem arc_int : Cond.arrayClass .int ∈ x_T := (x_in 161 (by decide +kernel) rfl)
def sh9 (sh : xS) (q : Nat) : xS := x_sp (x_sp sh (q + 1) (.inl (0, 85))) q (.inr (9, List.set [1] 0 ((q + 1) + 3)))
theorem sh9_n {sh : xS} {q j : Nat} (h : j < q) : sh9 sh q j = sh j := by
  unfold sh9
  simp (disch := omega) only [x_sp_n]
set_option maxHeartbeats 4000000 in
theorem i9 {X : xC} {l : Launch} (hl : l.stackTraces = false) {sh : xS} {D : xM} {q : Nat} (hs : sh q = .inr (9, [1])) (h0 : D q = fun _ => 0) : x_M X l yX9_init cX9_init 1 (none) 1 1 85 [.ref (x_b X + q)] true (q + 1) sh D (.inl none) true (q + 1 + 1) (sh9 sh q) (zz q (q + 1 + 1) D) := by
  refine x_ofW (by decide +kernel) hl (by simp [Value.category]) (by simp) ?_
  obtain ⟨e0, he0⟩ : ∃ e0, D = e0 := ⟨_, rfl⟩
  have z0 : zq q (q + 1) (fun _ => 0) D e0 := by rw [← he0]; exact zq_rf h0
  refine x_mem he0 ?_
  clear he0
  refine x_aload_n dX9_init_0 x_get_1_0 ?_
  refine x_objinit dX9_init_1 ol_9 ol_i ol_c (Nat.le_of_ble_eq_true rfl) (Nat.le_of_ble_eq_true rfl) ?_
  refine x_aload_n dX9_init_4 x_get_1_0 ?_
  refine x_bipush dX9_init_5 rfl ?_
  refine x_newa (len := 85) dX9_init_7 rfl (t := 0) rfl arc_int (Nat.le_of_ble_eq_true rfl) (Nat.le_of_ble_eq_true rfl) (Nat.le_of_ble_eq_true rfl) ?_
  have z1 := zq_new (by omega) z0
  generalize x_up e0 (q + 1) (fun _ => 0) = e1 at z1 ⊢
  refine x_putRF dX9_init_9 fX_9_11 tX_9_0 (Or.inr ⟨_, rfl⟩) (fun q h => by cases h; rfl) rfl (ks := [1]) (by omega) (by simp (disch := omega) only [x_sp_n, x_sp_s, hs] <;> rfl) (Nat.le_of_ble_eq_true rfl) ?_
  exact x_vret dX9_init_12 rfl (Nat.le_of_ble_eq_true rfl) (Nat.le_of_ble_eq_true rfl) rfl rfl rfl (zz_of z1) rfl
def sh0 (sh : xS) (q : Nat) : xS := x_sp (x_sp sh (q + 1) (.inl (0, 3400))) q (.inr (0, List.set [1, 0, 0] 0 ((q + 1) + 3)))
theorem sh0_n {sh : xS} {q j : Nat} (h : j < q) : sh0 sh q j = sh j := by
  unfold sh0
  simp (disch := omega) only [sh9_n, x_sp_n]
set_option maxHeartbeats 4000000 in
theorem i0 {X : xC} {l : Launch} (hl : l.stackTraces = false) {sh : xS} {D : xM} {q : Nat} (hs : sh q = .inr (0, [1, 0, 0])) (h0 : D q = fun _ => 0) : x_M X l yX0_init cX0_init 1 (none) 1 1 3400 [.ref (x_b X + q)] true (q + 1) sh D (.inl none) true (q + 1 + 1) (sh0 sh q) (zz q (q + 1 + 1) D) := by
  refine x_ofW (by decide +kernel) hl (by simp [Value.category]) (by simp) ?_
  obtain ⟨e0, he0⟩ : ∃ e0, D = e0 := ⟨_, rfl⟩
  have z0 : zq q (q + 1) (fun _ => 0) D e0 := by rw [← he0]; exact zq_rf h0
  refine x_mem he0 ?_
  clear he0
  refine x_aload_n dX0_init_0 x_get_1_0 ?_
  refine x_objinit dX0_init_1 ol_0 ol_i ol_c (Nat.le_of_ble_eq_true rfl) (Nat.le_of_ble_eq_true rfl) ?_
  refine x_aload_n dX0_init_4 x_get_1_0 ?_
  refine x_sipush dX0_init_5 rfl ?_
  refine x_newa (len := 3400) dX0_init_8 rfl (t := 0) rfl arc_int (Nat.le_of_ble_eq_true rfl) (Nat.le_of_ble_eq_true rfl) (Nat.le_of_ble_eq_true rfl) ?_
  have z1 := zq_new (by omega) z0
  generalize x_up e0 (q + 1) (fun _ => 0) = e1 at z1 ⊢
  refine x_putRF dX0_init_10 fX_0_11 tX_0_0 (Or.inr ⟨_, rfl⟩) (fun q h => by cases h; rfl) rfl (ks := [1, 0, 0]) (by omega) (by simp (disch := omega) only [sh9_n, x_sp_n, x_sp_s, hs] <;> rfl) (Nat.le_of_ble_eq_true rfl) ?_
  refine x_aload_n dX0_init_13 x_get_1_0 ?_
  refine x_iconst dX0_init_14 ?_
  refine x_putI 1 dX0_init_15 fX_0_17 rfl tX_0_1 (ks := [(q + 1) + 3, 0, 0]) (by omega) (by simp (disch := omega) only [sh9_n, x_sp_n, x_sp_s, hs] <;> rfl) (by rfl) ?_
  have z2 := zq_put (i := 1) (v := 0) z1
  rw [u1_z] at z2
  generalize x_up e1 q (x_u1 (e1 q) 1 0) = e2 at z2 ⊢
  refine x_aload_n dX0_init_18 x_get_1_0 ?_
  refine x_iconst dX0_init_19 ?_
  refine x_putI 2 dX0_init_20 fX_0_21 rfl tX_0_2 (ks := [(q + 1) + 3, 0, 0]) (by omega) (by simp (disch := omega) only [sh9_n, x_sp_n, x_sp_s, hs] <;> rfl) (by rfl) ?_
  have z3 := zq_put (i := 2) (v := 0) z2
  rw [u1_z] at z3
  generalize x_up e2 q (x_u1 (e2 q) 2 0) = e3 at z3 ⊢
  exact x_vret dX0_init_23 rfl (Nat.le_of_ble_eq_true rfl) (Nat.le_of_ble_eq_true rfl) rfl rfl rfl (zz_of z3) rfl
def sh8 (sh : xS) (q : Nat) : xS := x_sp (x_sp (x_sp (x_sp (x_sp (x_sp sh (q + 1) (.inl (0, 8))) q (.inr (8, List.set [1, 1, 1, 0] 0 ((q + 1) + 3)))) (q + 1 + 1) (.inl (0, 8))) q (.inr (8, List.set [(q + 1) + 3, 1, 1, 0] 1 ((q + 1 + 1) + 3)))) (q + 1 + 1 + 1) (.inl (0, 8))) q (.inr (8, List.set [(q + 1) + 3, (q + 1 + 1) + 3, 1, 0] 2 ((q + 1 + 1 + 1) + 3)))
theorem sh8_n {sh : xS} {q j : Nat} (h : j < q) : sh8 sh q j = sh j := by
  unfold sh8
  simp (disch := omega) only [sh9_n, sh0_n, x_sp_n]
set_option maxHeartbeats 4000000 in
theorem i8 {X : xC} {l : Launch} (hl : l.stackTraces = false) {sh : xS} {D : xM} {q : Nat} (hs : sh q = .inr (8, [1, 1, 1, 0])) (h0 : D q = fun _ => 0) : x_M X l yX8_init cX8_init 1 (none) 1 3 24 [.ref (x_b X + q)] true (q + 1) sh D (.inl none) true (q + 1 + 1 + 1 + 1) (sh8 sh q) (zz q (q + 1 + 1 + 1 + 1) D) := by
  refine x_ofW (by decide +kernel) hl (by simp [Value.category]) (by simp) ?_
  obtain ⟨e0, he0⟩ : ∃ e0, D = e0 := ⟨_, rfl⟩
  have z0 : zq q (q + 1) (fun _ => 0) D e0 := by rw [← he0]; exact zq_rf h0
  refine x_mem he0 ?_
  clear he0
  refine x_aload_n dX8_init_0 x_get_1_0 ?_
  refine x_objinit dX8_init_1 ol_8 ol_i ol_c (Nat.le_of_ble_eq_true rfl) (Nat.le_of_ble_eq_true rfl) ?_
  refine x_aload_n dX8_init_4 x_get_1_0 ?_
  refine x_bipush dX8_init_5 rfl ?_
  refine x_newa (len := 8) dX8_init_7 rfl (t := 0) rfl arc_int (Nat.le_of_ble_eq_true rfl) (Nat.le_of_ble_eq_true rfl) (Nat.le_of_ble_eq_true rfl) ?_
  have z1 := zq_new (by omega) z0
  generalize x_up e0 (q + 1) (fun _ => 0) = e1 at z1 ⊢
  refine x_putRF dX8_init_9 fX_8_9 tX_8_0 (Or.inr ⟨_, rfl⟩) (fun q h => by cases h; rfl) rfl (ks := [1, 1, 1, 0]) (by omega) (by simp (disch := omega) only [sh9_n, sh0_n, x_sp_n, x_sp_s, hs] <;> rfl) (Nat.le_of_ble_eq_true rfl) ?_
  refine x_aload_n dX8_init_12 x_get_1_0 ?_
  refine x_bipush dX8_init_13 rfl ?_
  refine x_newa (len := 8) dX8_init_15 rfl (t := 0) rfl arc_int (Nat.le_of_ble_eq_true rfl) (Nat.le_of_ble_eq_true rfl) (Nat.le_of_ble_eq_true rfl) ?_
  have z2 := zq_new (by omega) z1
  generalize x_up e1 (q + 1 + 1) (fun _ => 0) = e2 at z2 ⊢
  refine x_putRF dX8_init_17 fX_8_15 tX_8_1 (Or.inr ⟨_, rfl⟩) (fun q h => by cases h; rfl) rfl (ks := [(q + 1) + 3, 1, 1, 0]) (by omega) (by simp (disch := omega) only [sh9_n, sh0_n, x_sp_n, x_sp_s, hs] <;> rfl) (Nat.le_of_ble_eq_true rfl) ?_
  refine x_aload_n dX8_init_20 x_get_1_0 ?_
  refine x_bipush dX8_init_21 rfl ?_
  refine x_newa (len := 8) dX8_init_23 rfl (t := 0) rfl arc_int (Nat.le_of_ble_eq_true rfl) (Nat.le_of_ble_eq_true rfl) (Nat.le_of_ble_eq_true rfl) ?_
  have z3 := zq_new (by omega) z2
  generalize x_up e2 (q + 1 + 1 + 1) (fun _ => 0) = e3 at z3 ⊢
  refine x_putRF dX8_init_25 fX_8_18 tX_8_2 (Or.inr ⟨_, rfl⟩) (fun q h => by cases h; rfl) rfl (ks := [(q + 1) + 3, (q + 1 + 1) + 3, 1, 0]) (by omega) (by simp (disch := omega) only [sh9_n, sh0_n, x_sp_n, x_sp_s, hs] <;> rfl) (Nat.le_of_ble_eq_true rfl) ?_
  refine x_aload_n dX8_init_28 x_get_1_0 ?_
  refine x_iconst dX8_init_29 ?_
  refine x_putI 3 dX8_init_30 fX_8_21 rfl tX_8_3 (ks := [(q + 1) + 3, (q + 1 + 1) + 3, (q + 1 + 1 + 1) + 3, 0]) (by omega) (by simp (disch := omega) only [sh9_n, sh0_n, x_sp_n, x_sp_s, hs] <;> rfl) (by rfl) ?_
  have z4 := zq_put (i := 3) (v := 0) z3
  rw [u1_z] at z4
  generalize x_up e3 q (x_u1 (e3 q) 3 0) = e4 at z4 ⊢
  exact x_vret dX8_init_33 rfl (Nat.le_of_ble_eq_true rfl) (Nat.le_of_ble_eq_true rfl) rfl rfl rfl (zz_of z4) rfl
def sh2 (sh : xS) (q : Nat) : xS := sh
theorem sh2_n {sh : xS} {q j : Nat} (h : j < q) : sh2 sh q j = sh j := rfl
set_option maxHeartbeats 4000000 in
theorem i2 {X : xC} {l : Launch} (hl : l.stackTraces = false) {sh : xS} {D : xM} {q : Nat} (hs : sh q = .inr (2, [0])) (h0 : D q = fun _ => 0) : x_M X l yX2_init cX2_init 1 (none) 1 0 0 [.ref (x_b X + q)] true (q + 1) sh D (.inl none) true (q + 1) (sh2 sh q) (zz q (q + 1) D) := by
  refine x_ofW (by decide +kernel) hl (by simp [Value.category]) (by simp) ?_
  obtain ⟨e0, he0⟩ : ∃ e0, D = e0 := ⟨_, rfl⟩
  have z0 : zq q (q + 1) (fun _ => 0) D e0 := by rw [← he0]; exact zq_rf h0
  refine x_mem he0 ?_
  clear he0
  refine x_aload_n dX2_init_0 x_get_1_0 ?_
  refine x_objinit dX2_init_1 ol_2 ol_i ol_c (Nat.le_of_ble_eq_true rfl) (Nat.le_of_ble_eq_true rfl) ?_
  refine x_aload_n dX2_init_4 x_get_1_0 ?_
  refine x_iconst dX2_init_5 ?_
  refine x_putI 0 dX2_init_6 fX_2_7 rfl tX_2_0 (ks := [0]) (by omega) (by simp (disch := omega) only [sh9_n, sh0_n, sh8_n, x_sp_n, x_sp_s, hs] <;> rfl) (by rfl) ?_
  have z1 := zq_put (i := 0) (v := 0) z0
  rw [u1_z] at z1
  generalize x_up e0 q (x_u1 (e0 q) 0 0) = e1 at z1 ⊢
  exact x_vret dX2_init_9 rfl (Nat.le_of_ble_eq_true rfl) (Nat.le_of_ble_eq_true rfl) rfl rfl rfl (zz_of z1) rfl
def sh6 (sh : xS) (q : Nat) : xS := x_sp (x_sp (x_sp (x_sp (x_sp (x_sp (x_sp (x_sp (x_sp (x_sp (x_sp (x_sp sh (q + 1) (.inl (0, 12))) q (.inr (6, List.set [0, 0, 1, 1, 1, 1, 1, 1] 2 ((q + 1) + 3)))) (q + 1 + 1) (.inl (0, 12))) q (.inr (6, List.set [0, 0, (q + 1) + 3, 1, 1, 1, 1, 1] 3 ((q + 1 + 1) + 3)))) (q + 1 + 1 + 1) (.inl (0, 12))) q (.inr (6, List.set [0, 0, (q + 1) + 3, (q + 1 + 1) + 3, 1, 1, 1, 1] 4 ((q + 1 + 1 + 1) + 3)))) (q + 1 + 1 + 1 + 1) (.inl (0, 12))) q (.inr (6, List.set [0, 0, (q + 1) + 3, (q + 1 + 1) + 3, (q + 1 + 1 + 1) + 3, 1, 1, 1] 5 ((q + 1 + 1 + 1 + 1) + 3)))) (q + 1 + 1 + 1 + 1 + 1) (.inl (0, 64))) q (.inr (6, List.set [0, 0, (q + 1) + 3, (q + 1 + 1) + 3, (q + 1 + 1 + 1) + 3, (q + 1 + 1 + 1 + 1) + 3, 1, 1] 6 ((q + 1 + 1 + 1 + 1 + 1) + 3)))) (q + 1 + 1 + 1 + 1 + 1 + 1) (.inl (0, 64))) q (.inr (6, List.set [0, 0, (q + 1) + 3, (q + 1 + 1) + 3, (q + 1 + 1 + 1) + 3, (q + 1 + 1 + 1 + 1) + 3, (q + 1 + 1 + 1 + 1 + 1) + 3, 1] 7 ((q + 1 + 1 + 1 + 1 + 1 + 1) + 3)))
theorem sh6_n {sh : xS} {q j : Nat} (h : j < q) : sh6 sh q j = sh j := by
  unfold sh6
  simp (disch := omega) only [sh9_n, sh0_n, sh8_n, sh2_n, x_sp_n]
set_option maxHeartbeats 4000000 in
theorem i6 {X : xC} {l : Launch} (hl : l.stackTraces = false) {sh : xS} {D : xM} {q : Nat} (hs : sh q = .inr (6, [0, 0, 1, 1, 1, 1, 1, 1])) (h0 : D q = fun _ => 0) : x_M X l yX6_init cX6_init 1 (none) 1 6 176 [.ref (x_b X + q)] true (q + 1) sh D (.inl none) true (q + 1 + 1 + 1 + 1 + 1 + 1 + 1) (sh6 sh q) (zz q (q + 1 + 1 + 1 + 1 + 1 + 1 + 1) D) := by
  refine x_ofW (by decide +kernel) hl (by simp [Value.category]) (by simp) ?_
  obtain ⟨e0, he0⟩ : ∃ e0, D = e0 := ⟨_, rfl⟩
  have z0 : zq q (q + 1) (fun _ => 0) D e0 := by rw [← he0]; exact zq_rf h0
  refine x_mem he0 ?_
  clear he0
  refine x_aload_n dX6_init_0 x_get_1_0 ?_
  refine x_objinit dX6_init_1 ol_6 ol_i ol_c (Nat.le_of_ble_eq_true rfl) (Nat.le_of_ble_eq_true rfl) ?_
  refine x_aload_n dX6_init_4 x_get_1_0 ?_
  refine x_iconst dX6_init_5 ?_
  refine x_putI 0 dX6_init_6 fX_6_9 rfl tX_6_0 (ks := [0, 0, 1, 1, 1, 1, 1, 1]) (by omega) (by simp (disch := omega) only [sh9_n, sh0_n, sh8_n, sh2_n, x_sp_n, x_sp_s, hs] <;> rfl) (by rfl) ?_
  have z1 := zq_put (i := 0) (v := 0) z0
  rw [u1_z] at z1
  generalize x_up e0 q (x_u1 (e0 q) 0 0) = e1 at z1 ⊢
  refine x_aload_n dX6_init_9 x_get_1_0 ?_
  refine x_iconst dX6_init_10 ?_
  refine x_putI 1 dX6_init_11 fX_6_15 rfl tX_6_1 (ks := [0, 0, 1, 1, 1, 1, 1, 1]) (by omega) (by simp (disch := omega) only [sh9_n, sh0_n, sh8_n, sh2_n, x_sp_n, x_sp_s, hs] <;> rfl) (by rfl) ?_
  have z2 := zq_put (i := 1) (v := 0) z1
  rw [u1_z] at z2
  generalize x_up e1 q (x_u1 (e1 q) 1 0) = e2 at z2 ⊢
  refine x_aload_n dX6_init_14 x_get_1_0 ?_
  refine x_bipush dX6_init_15 rfl ?_
  refine x_newa (len := 12) dX6_init_17 rfl (t := 0) rfl arc_int (Nat.le_of_ble_eq_true rfl) (Nat.le_of_ble_eq_true rfl) (Nat.le_of_ble_eq_true rfl) ?_
  have z3 := zq_new (by omega) z2
  generalize x_up e2 (q + 1) (fun _ => 0) = e3 at z3 ⊢
  refine x_putRF dX6_init_19 fX_6_18 tX_6_2 (Or.inr ⟨_, rfl⟩) (fun q h => by cases h; rfl) rfl (ks := [0, 0, 1, 1, 1, 1, 1, 1]) (by omega) (by simp (disch := omega) only [sh9_n, sh0_n, sh8_n, sh2_n, x_sp_n, x_sp_s, hs] <;> rfl) (Nat.le_of_ble_eq_true rfl) ?_
  refine x_aload_n dX6_init_22 x_get_1_0 ?_
  refine x_bipush dX6_init_23 rfl ?_
  refine x_newa (len := 12) dX6_init_25 rfl (t := 0) rfl arc_int (Nat.le_of_ble_eq_true rfl) (Nat.le_of_ble_eq_true rfl) (Nat.le_of_ble_eq_true rfl) ?_
  have z4 := zq_new (by omega) z3
  generalize x_up e3 (q + 1 + 1) (fun _ => 0) = e4 at z4 ⊢
  refine x_putRF dX6_init_27 fX_6_22 tX_6_3 (Or.inr ⟨_, rfl⟩) (fun q h => by cases h; rfl) rfl (ks := [0, 0, (q + 1) + 3, 1, 1, 1, 1, 1]) (by omega) (by simp (disch := omega) only [sh9_n, sh0_n, sh8_n, sh2_n, x_sp_n, x_sp_s, hs] <;> rfl) (Nat.le_of_ble_eq_true rfl) ?_
  refine x_aload_n dX6_init_30 x_get_1_0 ?_
  refine x_bipush dX6_init_31 rfl ?_
  refine x_newa (len := 12) dX6_init_33 rfl (t := 0) rfl arc_int (Nat.le_of_ble_eq_true rfl) (Nat.le_of_ble_eq_true rfl) (Nat.le_of_ble_eq_true rfl) ?_
  have z5 := zq_new (by omega) z4
  generalize x_up e4 (q + 1 + 1 + 1) (fun _ => 0) = e5 at z5 ⊢
  refine x_putRF dX6_init_35 fX_6_25 tX_6_4 (Or.inr ⟨_, rfl⟩) (fun q h => by cases h; rfl) rfl (ks := [0, 0, (q + 1) + 3, (q + 1 + 1) + 3, 1, 1, 1, 1]) (by omega) (by simp (disch := omega) only [sh9_n, sh0_n, sh8_n, sh2_n, x_sp_n, x_sp_s, hs] <;> rfl) (Nat.le_of_ble_eq_true rfl) ?_
  refine x_aload_n dX6_init_38 x_get_1_0 ?_
  refine x_bipush dX6_init_39 rfl ?_
  refine x_newa (len := 12) dX6_init_41 rfl (t := 0) rfl arc_int (Nat.le_of_ble_eq_true rfl) (Nat.le_of_ble_eq_true rfl) (Nat.le_of_ble_eq_true rfl) ?_
  have z6 := zq_new (by omega) z5
  generalize x_up e5 (q + 1 + 1 + 1 + 1) (fun _ => 0) = e6 at z6 ⊢
  refine x_putRF dX6_init_43 fX_6_28 tX_6_5 (Or.inr ⟨_, rfl⟩) (fun q h => by cases h; rfl) rfl (ks := [0, 0, (q + 1) + 3, (q + 1 + 1) + 3, (q + 1 + 1 + 1) + 3, 1, 1, 1]) (by omega) (by simp (disch := omega) only [sh9_n, sh0_n, sh8_n, sh2_n, x_sp_n, x_sp_s, hs] <;> rfl) (Nat.le_of_ble_eq_true rfl) ?_
  refine x_aload_n dX6_init_46 x_get_1_0 ?_
  refine x_bipush dX6_init_47 rfl ?_
  refine x_newa (len := 64) dX6_init_49 rfl (t := 0) rfl arc_int (Nat.le_of_ble_eq_true rfl) (Nat.le_of_ble_eq_true rfl) (Nat.le_of_ble_eq_true rfl) ?_
  have z7 := zq_new (by omega) z6
  generalize x_up e6 (q + 1 + 1 + 1 + 1 + 1) (fun _ => 0) = e7 at z7 ⊢
  refine x_putRF dX6_init_51 fX_6_31 tX_6_6 (Or.inr ⟨_, rfl⟩) (fun q h => by cases h; rfl) rfl (ks := [0, 0, (q + 1) + 3, (q + 1 + 1) + 3, (q + 1 + 1 + 1) + 3, (q + 1 + 1 + 1 + 1) + 3, 1, 1]) (by omega) (by simp (disch := omega) only [sh9_n, sh0_n, sh8_n, sh2_n, x_sp_n, x_sp_s, hs] <;> rfl) (Nat.le_of_ble_eq_true rfl) ?_
  refine x_aload_n dX6_init_54 x_get_1_0 ?_
  refine x_bipush dX6_init_55 rfl ?_
  refine x_newa (len := 64) dX6_init_57 rfl (t := 0) rfl arc_int (Nat.le_of_ble_eq_true rfl) (Nat.le_of_ble_eq_true rfl) (Nat.le_of_ble_eq_true rfl) ?_
  have z8 := zq_new (by omega) z7
  generalize x_up e7 (q + 1 + 1 + 1 + 1 + 1 + 1) (fun _ => 0) = e8 at z8 ⊢
  refine x_putRF dX6_init_59 fX_6_34 tX_6_7 (Or.inr ⟨_, rfl⟩) (fun q h => by cases h; rfl) rfl (ks := [0, 0, (q + 1) + 3, (q + 1 + 1) + 3, (q + 1 + 1 + 1) + 3, (q + 1 + 1 + 1 + 1) + 3, (q + 1 + 1 + 1 + 1 + 1) + 3, 1]) (by omega) (by simp (disch := omega) only [sh9_n, sh0_n, sh8_n, sh2_n, x_sp_n, x_sp_s, hs] <;> rfl) (Nat.le_of_ble_eq_true rfl) ?_
  exact x_vret dX6_init_62 rfl (Nat.le_of_ble_eq_true rfl) (Nat.le_of_ble_eq_true rfl) rfl rfl rfl (zz_of z8) rfl
def sh7 (sh : xS) (q : Nat) : xS := x_sp (x_sp (x_sp (x_sp sh (q + 1) (.inl (0, 700))) q (.inr (7, List.set [1, 1, 0, 0, 0] 0 ((q + 1) + 3)))) (q + 1 + 1) (.inl (0, 40))) q (.inr (7, List.set [(q + 1) + 3, 1, 0, 0, 0] 1 ((q + 1 + 1) + 3)))
theorem sh7_n {sh : xS} {q j : Nat} (h : j < q) : sh7 sh q j = sh j := by
  unfold sh7
  simp (disch := omega) only [sh9_n, sh0_n, sh8_n, sh6_n, sh2_n, x_sp_n]
set_option maxHeartbeats 4000000 in
theorem i7 {X : xC} {l : Launch} (hl : l.stackTraces = false) {sh : xS} {D : xM} {q : Nat} (hs : sh q = .inr (7, [1, 1, 0, 0, 0])) (h0 : D q = fun _ => 0) : x_M X l yX7_init cX7_init 1 (none) 1 2 740 [.ref (x_b X + q)] true (q + 1) sh D (.inl none) true (q + 1 + 1 + 1) (sh7 sh q) (zz q (q + 1 + 1 + 1) D) := by
  refine x_ofW (by decide +kernel) hl (by simp [Value.category]) (by simp) ?_
  obtain ⟨e0, he0⟩ : ∃ e0, D = e0 := ⟨_, rfl⟩
  have z0 : zq q (q + 1) (fun _ => 0) D e0 := by rw [← he0]; exact zq_rf h0
  refine x_mem he0 ?_
  clear he0
  refine x_aload_n dX7_init_0 x_get_1_0 ?_
  refine x_objinit dX7_init_1 ol_7 ol_i ol_c (Nat.le_of_ble_eq_true rfl) (Nat.le_of_ble_eq_true rfl) ?_
  refine x_aload_n dX7_init_4 x_get_1_0 ?_
  refine x_sipush dX7_init_5 rfl ?_
  refine x_newa (len := 700) dX7_init_8 rfl (t := 0) rfl arc_int (Nat.le_of_ble_eq_true rfl) (Nat.le_of_ble_eq_true rfl) (Nat.le_of_ble_eq_true rfl) ?_
  have z1 := zq_new (by omega) z0
  generalize x_up e0 (q + 1) (fun _ => 0) = e1 at z1 ⊢
  refine x_putRF dX7_init_10 fX_7_9 tX_7_0 (Or.inr ⟨_, rfl⟩) (fun q h => by cases h; rfl) rfl (ks := [1, 1, 0, 0, 0]) (by omega) (by simp (disch := omega) only [sh9_n, sh0_n, sh8_n, sh6_n, sh2_n, x_sp_n, x_sp_s, hs] <;> rfl) (Nat.le_of_ble_eq_true rfl) ?_
  refine x_aload_n dX7_init_13 x_get_1_0 ?_
  refine x_bipush dX7_init_14 rfl ?_
  refine x_newa (len := 40) dX7_init_16 rfl (t := 0) rfl arc_int (Nat.le_of_ble_eq_true rfl) (Nat.le_of_ble_eq_true rfl) (Nat.le_of_ble_eq_true rfl) ?_
  have z2 := zq_new (by omega) z1
  generalize x_up e1 (q + 1 + 1) (fun _ => 0) = e2 at z2 ⊢
  refine x_putRF dX7_init_18 fX_7_15 tX_7_1 (Or.inr ⟨_, rfl⟩) (fun q h => by cases h; rfl) rfl (ks := [(q + 1) + 3, 1, 0, 0, 0]) (by omega) (by simp (disch := omega) only [sh9_n, sh0_n, sh8_n, sh6_n, sh2_n, x_sp_n, x_sp_s, hs] <;> rfl) (Nat.le_of_ble_eq_true rfl) ?_
  refine x_aload_n dX7_init_21 x_get_1_0 ?_
  refine x_iconst dX7_init_22 ?_
  refine x_putI 2 dX7_init_23 fX_7_18 rfl tX_7_2 (ks := [(q + 1) + 3, (q + 1 + 1) + 3, 0, 0, 0]) (by omega) (by simp (disch := omega) only [sh9_n, sh0_n, sh8_n, sh6_n, sh2_n, x_sp_n, x_sp_s, hs] <;> rfl) (by rfl) ?_
  have z3 := zq_put (i := 2) (v := 0) z2
  rw [u1_z] at z3
  generalize x_up e2 q (x_u1 (e2 q) 2 0) = e3 at z3 ⊢
  refine x_aload_n dX7_init_26 x_get_1_0 ?_
  refine x_iconst dX7_init_27 ?_
  refine x_putZ 3 dX7_init_28 fX_7_22 rfl tX_7_3 (ks := [(q + 1) + 3, (q + 1 + 1) + 3, 0, 0, 0]) (by omega) (by simp (disch := omega) only [sh9_n, sh0_n, sh8_n, sh6_n, sh2_n, x_sp_n, x_sp_s, hs] <;> rfl) (by rfl) (Or.inl rfl) ?_
  have z4 := zq_put (i := 3) (v := 0) z3
  rw [u1_z] at z4
  generalize x_up e3 q (x_u1 (e3 q) 3 0) = e4 at z4 ⊢
  refine x_aload_n dX7_init_31 x_get_1_0 ?_
  refine x_iconst dX7_init_32 ?_
  refine x_putZ 4 dX7_init_33 fX_7_26 rfl tX_7_4 (ks := [(q + 1) + 3, (q + 1 + 1) + 3, 0, 0, 0]) (by omega) (by simp (disch := omega) only [sh9_n, sh0_n, sh8_n, sh6_n, sh2_n, x_sp_n, x_sp_s, hs] <;> rfl) (by rfl) (Or.inl rfl) ?_
  have z5 := zq_put (i := 4) (v := 0) z4
  rw [u1_z] at z5
  generalize x_up e4 q (x_u1 (e4 q) 4 0) = e5 at z5 ⊢
  exact x_vret dX7_init_36 rfl (Nat.le_of_ble_eq_true rfl) (Nat.le_of_ble_eq_true rfl) rfl rfl rfl (zz_of z5) rfl
theorem mk_3_25 : x_mk RX3 25 6 [0, 0, 1, 1, 1, 1, 1, 1] := ⟨(RX6, TX6, 8), tyX6, rfl, uX_6, tyX6_ok, (x_in 125 (by decide +kernel) rfl), (x_in 126 (by decide +kernel) rfl), (x_in 83 (by decide +kernel) rfl), rfl, by
  intro b j hj
  have hj : j < 8 := hj
  rcases (show j = 0 ∨ j = 1 ∨ j = 2 ∨ j = 3 ∨ j = 4 ∨ j = 5 ∨ j = 6 ∨ j = 7 by omega) with rfl | rfl | rfl | rfl | rfl | rfl | rfl | rfl <;> rfl⟩
theorem mk_3_32 : x_mk RX3 32 7 [1, 1, 0, 0, 0] := ⟨(RX7, TX7, 5), tyX7, rfl, uX_7, tyX7_ok, (x_in 162 (by decide +kernel) rfl), (x_in 163 (by decide +kernel) rfl), (x_in 84 (by decide +kernel) rfl), rfl, by
  intro b j hj
  have hj : j < 5 := hj
  rcases (show j = 0 ∨ j = 1 ∨ j = 2 ∨ j = 3 ∨ j = 4 by omega) with rfl | rfl | rfl | rfl | rfl <;> rfl⟩
theorem mk_3_39 : x_mk RX3 39 9 [1] := ⟨(RX9, TX9, 1), tyX9, rfl, uX_9, tyX9_ok, (x_in 185 (by decide +kernel) rfl), (x_in 186 (by decide +kernel) rfl), (x_in 85 (by decide +kernel) rfl), rfl, by
  intro b j hj
  have hj : j < 1 := hj
  rcases (show j = 0 by omega) with rfl <;> rfl⟩
def sh3 (sh : xS) (q : Nat) : xS := x_sp (sh9 (x_sp (x_sp (sh7 (x_sp (x_sp (sh6 (x_sp (x_sp (x_sp (x_sp (x_sp sh (q + 1) (.inl (0, 8))) q (.inr (3, List.set [0, 0, 1, 1, 1, 1, 1] 2 ((q + 1) + 3)))) (q + 1 + 1) (.inl (0, 8))) q (.inr (3, List.set [0, 0, (q + 1) + 3, 1, 1, 1, 1] 3 ((q + 1 + 1) + 3)))) (q + 1 + 1 + 1) (.inr (6, [0, 0, 1, 1, 1, 1, 1, 1]))) (q + 1 + 1 + 1)) q (.inr (3, List.set [0, 0, (q + 1) + 3, (q + 1 + 1) + 3, 1, 1, 1] 4 ((q + 1 + 1 + 1) + 3)))) (q + 1 + 1 + 1 + 1 + 1 + 1 + 1 + 1 + 1 + 1) (.inr (7, [1, 1, 0, 0, 0]))) (q + 1 + 1 + 1 + 1 + 1 + 1 + 1 + 1 + 1 + 1)) q (.inr (3, List.set [0, 0, (q + 1) + 3, (q + 1 + 1) + 3, (q + 1 + 1 + 1) + 3, 1, 1] 5 ((q + 1 + 1 + 1 + 1 + 1 + 1 + 1 + 1 + 1 + 1) + 3)))) (q + 1 + 1 + 1 + 1 + 1 + 1 + 1 + 1 + 1 + 1 + 1 + 1 + 1) (.inr (9, [1]))) (q + 1 + 1 + 1 + 1 + 1 + 1 + 1 + 1 + 1 + 1 + 1 + 1 + 1)) q (.inr (3, List.set [0, 0, (q + 1) + 3, (q + 1 + 1) + 3, (q + 1 + 1 + 1) + 3, (q + 1 + 1 + 1 + 1 + 1 + 1 + 1 + 1 + 1 + 1) + 3, 1] 6 ((q + 1 + 1 + 1 + 1 + 1 + 1 + 1 + 1 + 1 + 1 + 1 + 1 + 1) + 3)))
theorem sh3_n {sh : xS} {q j : Nat} (h : j < q) : sh3 sh q j = sh j := by
  unfold sh3
  simp (disch := omega) only [sh9_n, sh0_n, sh8_n, sh6_n, sh7_n, sh2_n, x_sp_n]
set_option maxHeartbeats 4000000 in
theorem i3 {X : xC} {l : Launch} (hl : l.stackTraces = false) {sh : xS} {D : xM} {q : Nat} (hs : sh q = .inr (3, [0, 0, 1, 1, 1, 1, 1])) (h0 : D q = fun _ => 0) : x_M X l yX3_init cX3_init 1 (none) 2 14 1031 [.ref (x_b X + q)] true (q + 1) sh D (.inl none) true (q + 1 + 1 + 1 + 1 + 1 + 1 + 1 + 1 + 1 + 1 + 1 + 1 + 1 + 1 + 1) (sh3 sh q) (zz q (q + 1 + 1 + 1 + 1 + 1 + 1 + 1 + 1 + 1 + 1 + 1 + 1 + 1 + 1 + 1) D) := by
  refine x_ofW (by decide +kernel) hl (by simp [Value.category]) (by simp) ?_
  obtain ⟨e0, he0⟩ : ∃ e0, D = e0 := ⟨_, rfl⟩
  have z0 : zq q (q + 1) (fun _ => 0) D e0 := by rw [← he0]; exact zq_rf h0
  refine x_mem he0 ?_
  clear he0
  refine x_aload_n dX3_init_0 x_get_1_0 ?_
  refine x_objinit dX3_init_1 ol_3 ol_i ol_c (Nat.le_of_ble_eq_true rfl) (Nat.le_of_ble_eq_true rfl) ?_
  refine x_aload_n dX3_init_4 x_get_1_0 ?_
  refine x_iconst dX3_init_5 ?_
  refine x_putI 0 dX3_init_6 fX_3_9 rfl tX_3_0 (ks := [0, 0, 1, 1, 1, 1, 1]) (by omega) (by simp (disch := omega) only [sh9_n, sh0_n, sh8_n, sh6_n, sh7_n, sh2_n, x_sp_n, x_sp_s, hs] <;> rfl) (by rfl) ?_
  have z1 := zq_put (i := 0) (v := 0) z0
  rw [u1_z] at z1
  generalize x_up e0 q (x_u1 (e0 q) 0 0) = e1 at z1 ⊢
  refine x_aload_n dX3_init_9 x_get_1_0 ?_
  refine x_iconst dX3_init_10 ?_
  refine x_putI 1 dX3_init_11 fX_3_15 rfl tX_3_1 (ks := [0, 0, 1, 1, 1, 1, 1]) (by omega) (by simp (disch := omega) only [sh9_n, sh0_n, sh8_n, sh6_n, sh7_n, sh2_n, x_sp_n, x_sp_s, hs] <;> rfl) (by rfl) ?_
  have z2 := zq_put (i := 1) (v := 0) z1
  rw [u1_z] at z2
  generalize x_up e1 q (x_u1 (e1 q) 1 0) = e2 at z2 ⊢
  refine x_aload_n dX3_init_14 x_get_1_0 ?_
  refine x_bipush dX3_init_15 rfl ?_
  refine x_newa (len := 8) dX3_init_17 rfl (t := 0) rfl arc_int (Nat.le_of_ble_eq_true rfl) (Nat.le_of_ble_eq_true rfl) (Nat.le_of_ble_eq_true rfl) ?_
  have z3 := zq_new (by omega) z2
  generalize x_up e2 (q + 1) (fun _ => 0) = e3 at z3 ⊢
  refine x_putRF dX3_init_19 fX_3_18 tX_3_2 (Or.inr ⟨_, rfl⟩) (fun q h => by cases h; rfl) rfl (ks := [0, 0, 1, 1, 1, 1, 1]) (by omega) (by simp (disch := omega) only [sh9_n, sh0_n, sh8_n, sh6_n, sh7_n, sh2_n, x_sp_n, x_sp_s, hs] <;> rfl) (Nat.le_of_ble_eq_true rfl) ?_
  refine x_aload_n dX3_init_22 x_get_1_0 ?_
  refine x_bipush dX3_init_23 rfl ?_
  refine x_newa (len := 8) dX3_init_25 rfl (t := 0) rfl arc_int (Nat.le_of_ble_eq_true rfl) (Nat.le_of_ble_eq_true rfl) (Nat.le_of_ble_eq_true rfl) ?_
  have z4 := zq_new (by omega) z3
  generalize x_up e3 (q + 1 + 1) (fun _ => 0) = e4 at z4 ⊢
  refine x_putRF dX3_init_27 fX_3_22 tX_3_3 (Or.inr ⟨_, rfl⟩) (fun q h => by cases h; rfl) rfl (ks := [0, 0, (q + 1) + 3, 1, 1, 1, 1]) (by omega) (by simp (disch := omega) only [sh9_n, sh0_n, sh8_n, sh6_n, sh7_n, sh2_n, x_sp_n, x_sp_s, hs] <;> rfl) (Nat.le_of_ble_eq_true rfl) ?_
  refine x_aload_n dX3_init_30 x_get_1_0 ?_
  refine x_new (len := 8) dX3_init_31 mk_3_25 rfl (Nat.le_of_ble_eq_true rfl) (Nat.le_of_ble_eq_true rfl) ?_
  have zn5 : x_up e4 (q + 1 + 1 + 1) (fun _ => 0) (q + 1 + 1 + 1) = fun _ => 0 := x_up_s
  have z5 := zq_new (by omega) z4
  generalize x_up e4 (q + 1 + 1 + 1) (fun _ => 0) = e5 at z5 zn5 ⊢
  refine x_dup dX3_init_34 rfl ?_
  refine x_callIN (As := []) dX3_init_35 w_3_27 (i6 (D := e5) (q := q + 1 + 1 + 1) hl x_sp_s zn5) rfl rfl (Nat.le_of_ble_eq_true rfl) (Nat.le_of_ble_eq_true rfl) (Nat.le_of_ble_eq_true rfl) (Nat.le_of_ble_eq_true rfl) (Nat.le_of_ble_eq_true rfl) ?_
  intro e6 he6
  have z6 := zq_in (by omega) z5 he6
  refine x_putRF dX3_init_38 fX_3_28 tX_3_4 (Or.inl ⟨_, rfl⟩) (fun q h => by cases h; rfl) rfl (ks := [0, 0, (q + 1) + 3, (q + 1 + 1) + 3, 1, 1, 1]) (by omega) (by simp (disch := omega) only [sh9_n, sh0_n, sh8_n, sh6_n, sh7_n, sh2_n, x_sp_n, x_sp_s, hs] <;> rfl) (Nat.le_of_ble_eq_true rfl) ?_
  refine x_aload_n dX3_init_41 x_get_1_0 ?_
  refine x_new (len := 5) dX3_init_42 mk_3_32 rfl (Nat.le_of_ble_eq_true rfl) (Nat.le_of_ble_eq_true rfl) ?_
  have zn7 : x_up e6 (q + 1 + 1 + 1 + 1 + 1 + 1 + 1 + 1 + 1 + 1) (fun _ => 0) (q + 1 + 1 + 1 + 1 + 1 + 1 + 1 + 1 + 1 + 1) = fun _ => 0 := x_up_s
  have z7 := zq_new (by omega) z6
  generalize x_up e6 (q + 1 + 1 + 1 + 1 + 1 + 1 + 1 + 1 + 1 + 1) (fun _ => 0) = e7 at z7 zn7 ⊢
  refine x_dup dX3_init_45 rfl ?_
  refine x_callIN (As := []) dX3_init_46 w_3_34 (i7 (D := e7) (q := q + 1 + 1 + 1 + 1 + 1 + 1 + 1 + 1 + 1 + 1) hl x_sp_s zn7) rfl rfl (Nat.le_of_ble_eq_true rfl) (Nat.le_of_ble_eq_true rfl) (Nat.le_of_ble_eq_true rfl) (Nat.le_of_ble_eq_true rfl) (Nat.le_of_ble_eq_true rfl) ?_
  intro e8 he8
  have z8 := zq_in (by omega) z7 he8
  refine x_putRF dX3_init_49 fX_3_35 tX_3_5 (Or.inl ⟨_, rfl⟩) (fun q h => by cases h; rfl) rfl (ks := [0, 0, (q + 1) + 3, (q + 1 + 1) + 3, (q + 1 + 1 + 1) + 3, 1, 1]) (by omega) (by simp (disch := omega) only [sh9_n, sh0_n, sh8_n, sh6_n, sh7_n, sh2_n, x_sp_n, x_sp_s, hs] <;> rfl) (Nat.le_of_ble_eq_true rfl) ?_
  refine x_aload_n dX3_init_52 x_get_1_0 ?_
  refine x_new (len := 1) dX3_init_53 mk_3_39 rfl (Nat.le_of_ble_eq_true rfl) (Nat.le_of_ble_eq_true rfl) ?_
  have zn9 : x_up e8 (q + 1 + 1 + 1 + 1 + 1 + 1 + 1 + 1 + 1 + 1 + 1 + 1 + 1) (fun _ => 0) (q + 1 + 1 + 1 + 1 + 1 + 1 + 1 + 1 + 1 + 1 + 1 + 1 + 1) = fun _ => 0 := x_up_s
  have z9 := zq_new (by omega) z8
  generalize x_up e8 (q + 1 + 1 + 1 + 1 + 1 + 1 + 1 + 1 + 1 + 1 + 1 + 1 + 1) (fun _ => 0) = e9 at z9 zn9 ⊢
  refine x_dup dX3_init_56 rfl ?_
  refine x_callIN (As := []) dX3_init_57 w_3_41 (i9 (D := e9) (q := q + 1 + 1 + 1 + 1 + 1 + 1 + 1 + 1 + 1 + 1 + 1 + 1 + 1) hl x_sp_s zn9) rfl rfl (Nat.le_of_ble_eq_true rfl) (Nat.le_of_ble_eq_true rfl) (Nat.le_of_ble_eq_true rfl) (Nat.le_of_ble_eq_true rfl) (Nat.le_of_ble_eq_true rfl) ?_
  intro e10 he10
  have z10 := zq_in (by omega) z9 he10
  refine x_putRF dX3_init_60 fX_3_42 tX_3_6 (Or.inl ⟨_, rfl⟩) (fun q h => by cases h; rfl) rfl (ks := [0, 0, (q + 1) + 3, (q + 1 + 1) + 3, (q + 1 + 1 + 1) + 3, (q + 1 + 1 + 1 + 1 + 1 + 1 + 1 + 1 + 1 + 1) + 3, 1]) (by omega) (by simp (disch := omega) only [sh9_n, sh0_n, sh8_n, sh6_n, sh7_n, sh2_n, x_sp_n, x_sp_s, hs] <;> rfl) (Nat.le_of_ble_eq_true rfl) ?_
  exact x_vret dX3_init_63 rfl (Nat.le_of_ble_eq_true rfl) (Nat.le_of_ble_eq_true rfl) rfl rfl rfl (zz_of z10) rfl
theorem arc_boolean : Cond.arrayClass .boolean ∈ x_T := (x_in 353 (by decide +kernel) rfl)
theorem mk_1_25 : x_mk RX1 25 9 [1] := ⟨(RX9, TX9, 1), tyX9, rfl, uX_9, tyX9_ok, (x_in 332 (by decide +kernel) rfl), (x_in 186 (by decide +kernel) rfl), (x_in 85 (by decide +kernel) rfl), rfl, by
  intro b j hj
  have hj : j < 1 := hj
  rcases (show j = 0 by omega) with rfl <;> rfl⟩
def sh1 (sh : xS) (q : Nat) : xS := x_sp (sh9 (x_sp (x_sp (sh9 (x_sp (x_sp (x_sp (x_sp (x_sp (x_sp (x_sp (x_sp (x_sp sh (q + 1) (.inl (0, 248))) q (.inr (1, List.set [1, 1, 1, 1, 1, 1] 0 ((q + 1) + 3)))) (q + 1 + 1) (.inl (0, 3100))) q (.inr (1, List.set [(q + 1) + 3, 1, 1, 1, 1, 1] 1 ((q + 1 + 1) + 3)))) (q + 1 + 1 + 1) (.inl (0, 10))) q (.inr (1, List.set [(q + 1) + 3, (q + 1 + 1) + 3, 1, 1, 1, 1] 2 ((q + 1 + 1 + 1) + 3)))) (q + 1 + 1 + 1 + 1) (.inl (2, 100))) q (.inr (1, List.set [(q + 1) + 3, (q + 1 + 1) + 3, (q + 1 + 1 + 1) + 3, 1, 1, 1] 3 ((q + 1 + 1 + 1 + 1) + 3)))) (q + 1 + 1 + 1 + 1 + 1) (.inr (9, [1]))) (q + 1 + 1 + 1 + 1 + 1)) q (.inr (1, List.set [(q + 1) + 3, (q + 1 + 1) + 3, (q + 1 + 1 + 1) + 3, (q + 1 + 1 + 1 + 1) + 3, 1, 1] 4 ((q + 1 + 1 + 1 + 1 + 1) + 3)))) (q + 1 + 1 + 1 + 1 + 1 + 1 + 1) (.inr (9, [1]))) (q + 1 + 1 + 1 + 1 + 1 + 1 + 1)) q (.inr (1, List.set [(q + 1) + 3, (q + 1 + 1) + 3, (q + 1 + 1 + 1) + 3, (q + 1 + 1 + 1 + 1) + 3, (q + 1 + 1 + 1 + 1 + 1) + 3, 1] 5 ((q + 1 + 1 + 1 + 1 + 1 + 1 + 1) + 3)))
theorem sh1_n {sh : xS} {q j : Nat} (h : j < q) : sh1 sh q j = sh j := by
  unfold sh1
  simp (disch := omega) only [sh9_n, sh0_n, sh8_n, sh6_n, sh7_n, sh3_n, sh2_n, x_sp_n]
set_option maxHeartbeats 4000000 in
theorem i1 {X : xC} {l : Launch} (hl : l.stackTraces = false) {sh : xS} {D : xM} {q : Nat} (hs : sh q = .inr (1, [1, 1, 1, 1, 1, 1])) (h0 : D q = fun _ => 0) : x_M X l yX1_init cX1_init 1 (none) 2 8 3630 [.ref (x_b X + q)] true (q + 1) sh D (.inl none) true (q + 1 + 1 + 1 + 1 + 1 + 1 + 1 + 1 + 1) (sh1 sh q) (zz q (q + 1 + 1 + 1 + 1 + 1 + 1 + 1 + 1 + 1) D) := by
  refine x_ofW (by decide +kernel) hl (by simp [Value.category]) (by simp) ?_
  obtain ⟨e0, he0⟩ : ∃ e0, D = e0 := ⟨_, rfl⟩
  have z0 : zq q (q + 1) (fun _ => 0) D e0 := by rw [← he0]; exact zq_rf h0
  refine x_mem he0 ?_
  clear he0
  refine x_aload_n dX1_init_0 x_get_1_0 ?_
  refine x_objinit dX1_init_1 ol_1 ol_i ol_c (Nat.le_of_ble_eq_true rfl) (Nat.le_of_ble_eq_true rfl) ?_
  refine x_aload_n dX1_init_4 x_get_1_0 ?_
  refine x_sipush dX1_init_5 rfl ?_
  refine x_newa (len := 248) dX1_init_8 rfl (t := 0) rfl arc_int (Nat.le_of_ble_eq_true rfl) (Nat.le_of_ble_eq_true rfl) (Nat.le_of_ble_eq_true rfl) ?_
  have z1 := zq_new (by omega) z0
  generalize x_up e0 (q + 1) (fun _ => 0) = e1 at z1 ⊢
  refine x_putRF dX1_init_10 fX_1_11 tX_1_0 (Or.inr ⟨_, rfl⟩) (fun q h => by cases h; rfl) rfl (ks := [1, 1, 1, 1, 1, 1]) (by omega) (by simp (disch := omega) only [sh9_n, sh0_n, sh8_n, sh6_n, sh7_n, sh3_n, sh2_n, x_sp_n, x_sp_s, hs] <;> rfl) (Nat.le_of_ble_eq_true rfl) ?_
  refine x_aload_n dX1_init_13 x_get_1_0 ?_
  refine x_sipush dX1_init_14 rfl ?_
  refine x_newa (len := 3100) dX1_init_17 rfl (t := 0) rfl arc_int (Nat.le_of_ble_eq_true rfl) (Nat.le_of_ble_eq_true rfl) (Nat.le_of_ble_eq_true rfl) ?_
  have z2 := zq_new (by omega) z1
  generalize x_up e1 (q + 1 + 1) (fun _ => 0) = e2 at z2 ⊢
  refine x_putRF dX1_init_19 fX_1_15 tX_1_1 (Or.inr ⟨_, rfl⟩) (fun q h => by cases h; rfl) rfl (ks := [(q + 1) + 3, 1, 1, 1, 1, 1]) (by omega) (by simp (disch := omega) only [sh9_n, sh0_n, sh8_n, sh6_n, sh7_n, sh3_n, sh2_n, x_sp_n, x_sp_s, hs] <;> rfl) (Nat.le_of_ble_eq_true rfl) ?_
  refine x_aload_n dX1_init_22 x_get_1_0 ?_
  refine x_bipush dX1_init_23 rfl ?_
  refine x_newa (len := 10) dX1_init_25 rfl (t := 0) rfl arc_int (Nat.le_of_ble_eq_true rfl) (Nat.le_of_ble_eq_true rfl) (Nat.le_of_ble_eq_true rfl) ?_
  have z3 := zq_new (by omega) z2
  generalize x_up e2 (q + 1 + 1 + 1) (fun _ => 0) = e3 at z3 ⊢
  refine x_putRF dX1_init_27 fX_1_18 tX_1_2 (Or.inr ⟨_, rfl⟩) (fun q h => by cases h; rfl) rfl (ks := [(q + 1) + 3, (q + 1 + 1) + 3, 1, 1, 1, 1]) (by omega) (by simp (disch := omega) only [sh9_n, sh0_n, sh8_n, sh6_n, sh7_n, sh3_n, sh2_n, x_sp_n, x_sp_s, hs] <;> rfl) (Nat.le_of_ble_eq_true rfl) ?_
  refine x_aload_n dX1_init_30 x_get_1_0 ?_
  refine x_bipush dX1_init_31 rfl ?_
  refine x_newa (len := 100) dX1_init_33 rfl (t := 2) rfl arc_boolean (Nat.le_of_ble_eq_true rfl) (Nat.le_of_ble_eq_true rfl) (Nat.le_of_ble_eq_true rfl) ?_
  have z4 := zq_new (by omega) z3
  generalize x_up e3 (q + 1 + 1 + 1 + 1) (fun _ => 0) = e4 at z4 ⊢
  refine x_putRF dX1_init_35 fX_1_21 tX_1_3 (Or.inr ⟨_, rfl⟩) (fun q h => by cases h; rfl) rfl (ks := [(q + 1) + 3, (q + 1 + 1) + 3, (q + 1 + 1 + 1) + 3, 1, 1, 1]) (by omega) (by simp (disch := omega) only [sh9_n, sh0_n, sh8_n, sh6_n, sh7_n, sh3_n, sh2_n, x_sp_n, x_sp_s, hs] <;> rfl) (Nat.le_of_ble_eq_true rfl) ?_
  refine x_aload_n dX1_init_38 x_get_1_0 ?_
  refine x_new (len := 1) dX1_init_39 mk_1_25 rfl (Nat.le_of_ble_eq_true rfl) (Nat.le_of_ble_eq_true rfl) ?_
  have zn5 : x_up e4 (q + 1 + 1 + 1 + 1 + 1) (fun _ => 0) (q + 1 + 1 + 1 + 1 + 1) = fun _ => 0 := x_up_s
  have z5 := zq_new (by omega) z4
  generalize x_up e4 (q + 1 + 1 + 1 + 1 + 1) (fun _ => 0) = e5 at z5 zn5 ⊢
  refine x_dup dX1_init_42 rfl ?_
  refine x_callIN (As := []) dX1_init_43 w_1_27 (i9 (D := e5) (q := q + 1 + 1 + 1 + 1 + 1) hl x_sp_s zn5) rfl rfl (Nat.le_of_ble_eq_true rfl) (Nat.le_of_ble_eq_true rfl) (Nat.le_of_ble_eq_true rfl) (Nat.le_of_ble_eq_true rfl) (Nat.le_of_ble_eq_true rfl) ?_
  intro e6 he6
  have z6 := zq_in (by omega) z5 he6
  refine x_putRF dX1_init_46 fX_1_28 tX_1_4 (Or.inl ⟨_, rfl⟩) (fun q h => by cases h; rfl) rfl (ks := [(q + 1) + 3, (q + 1 + 1) + 3, (q + 1 + 1 + 1) + 3, (q + 1 + 1 + 1 + 1) + 3, 1, 1]) (by omega) (by simp (disch := omega) only [sh9_n, sh0_n, sh8_n, sh6_n, sh7_n, sh3_n, sh2_n, x_sp_n, x_sp_s, hs] <;> rfl) (Nat.le_of_ble_eq_true rfl) ?_
  refine x_aload_n dX1_init_49 x_get_1_0 ?_
  refine x_new (len := 1) dX1_init_50 mk_1_25 rfl (Nat.le_of_ble_eq_true rfl) (Nat.le_of_ble_eq_true rfl) ?_
  have zn7 : x_up e6 (q + 1 + 1 + 1 + 1 + 1 + 1 + 1) (fun _ => 0) (q + 1 + 1 + 1 + 1 + 1 + 1 + 1) = fun _ => 0 := x_up_s
  have z7 := zq_new (by omega) z6
  generalize x_up e6 (q + 1 + 1 + 1 + 1 + 1 + 1 + 1) (fun _ => 0) = e7 at z7 zn7 ⊢
  refine x_dup dX1_init_53 rfl ?_
  refine x_callIN (As := []) dX1_init_54 w_1_27 (i9 (D := e7) (q := q + 1 + 1 + 1 + 1 + 1 + 1 + 1) hl x_sp_s zn7) rfl rfl (Nat.le_of_ble_eq_true rfl) (Nat.le_of_ble_eq_true rfl) (Nat.le_of_ble_eq_true rfl) (Nat.le_of_ble_eq_true rfl) (Nat.le_of_ble_eq_true rfl) ?_
  intro e8 he8
  have z8 := zq_in (by omega) z7 he8
  refine x_putRF dX1_init_57 fX_1_32 tX_1_5 (Or.inl ⟨_, rfl⟩) (fun q h => by cases h; rfl) rfl (ks := [(q + 1) + 3, (q + 1 + 1) + 3, (q + 1 + 1 + 1) + 3, (q + 1 + 1 + 1 + 1) + 3, (q + 1 + 1 + 1 + 1 + 1) + 3, 1]) (by omega) (by simp (disch := omega) only [sh9_n, sh0_n, sh8_n, sh6_n, sh7_n, sh3_n, sh2_n, x_sp_n, x_sp_s, hs] <;> rfl) (Nat.le_of_ble_eq_true rfl) ?_
  exact x_vret dX1_init_60 rfl (Nat.le_of_ble_eq_true rfl) (Nat.le_of_ble_eq_true rfl) rfl rfl rfl (zz_of z8) rfl
theorem arc_byte : Cond.arrayClass .byte ∈ x_T := (x_in 160 (by decide +kernel) rfl)
theorem mk_5_34 : x_mk RX5 34 3 [0, 0, 1, 1, 1, 1, 1] := ⟨(RX3, TX3, 7), tyX3, rfl, uX_3, tyX3_ok, (x_in 119 (by decide +kernel) rfl), (x_in 120 (by decide +kernel) rfl), (x_in 82 (by decide +kernel) rfl), rfl, by
  intro b j hj
  have hj : j < 7 := hj
  rcases (show j = 0 ∨ j = 1 ∨ j = 2 ∨ j = 3 ∨ j = 4 ∨ j = 5 ∨ j = 6 by omega) with rfl | rfl | rfl | rfl | rfl | rfl | rfl <;> rfl⟩
def sh5 (sh : xS) (q : Nat) : xS := x_sp (sh3 (x_sp (x_sp (x_sp sh (1 + 1) (.inl (1, 700))) 1 (.inr (5, List.set [1, 0, 0, 0, 0, 0, 0, 1, 0, 0] 0 ((1 + 1) + 3)))) (1 + 1 + 1) (.inr (3, [0, 0, 1, 1, 1, 1, 1]))) (1 + 1 + 1)) 1 (.inr (5, List.set [(1 + 1) + 3, 0, 0, 0, 0, 0, 0, 1, 0, 0] 7 ((1 + 1 + 1) + 3)))
theorem sh5_n {sh : xS} {j : Nat} (h : j < 1) : sh5 sh 1 j = sh j := by
  unfold sh5
  simp (disch := omega) only [sh9_n, sh0_n, sh8_n, sh6_n, sh7_n, sh3_n, sh1_n, sh2_n, x_sp_n]
set_option maxHeartbeats 4000000 in
theorem i5 {X : xC} {l : Launch} (hl : l.stackTraces = false) {sh : xS} {D : xM} (hs : sh 1 = .inr (5, [1, 0, 0, 0, 0, 0, 0, 1, 0, 0])) (h0 : D 1 = fun _ => 0) : x_M X l yX5_init cX5_init 1 (none) 3 16 1738 [.ref (x_b X + 1)] true (1 + 1) sh D (.inl none) true (1 + 1 + 1 + 1 + 1 + 1 + 1 + 1 + 1 + 1 + 1 + 1 + 1 + 1 + 1 + 1 + 1 + 1) (sh5 sh 1) (zz 1 (1 + 1 + 1 + 1 + 1 + 1 + 1 + 1 + 1 + 1 + 1 + 1 + 1 + 1 + 1 + 1 + 1 + 1) D) := by
  refine x_ofW (by decide +kernel) hl (by simp [Value.category]) (by simp) ?_
  obtain ⟨e0, he0⟩ : ∃ e0, D = e0 := ⟨_, rfl⟩
  have z0 : zq 1 (1 + 1) (fun _ => 0) D e0 := by rw [← he0]; exact zq_rf h0
  refine x_mem he0 ?_
  clear he0
  refine x_aload_n dX5_init_0 x_get_1_0 ?_
  refine x_objinit dX5_init_1 ol_5 ol_i ol_c (Nat.le_of_ble_eq_true rfl) (Nat.le_of_ble_eq_true rfl) ?_
  refine x_aload_n dX5_init_4 x_get_1_0 ?_
  refine x_sipush dX5_init_5 rfl ?_
  refine x_newa (len := 700) dX5_init_8 rfl (t := 1) rfl arc_byte (Nat.le_of_ble_eq_true rfl) (Nat.le_of_ble_eq_true rfl) (Nat.le_of_ble_eq_true rfl) ?_
  have z1 := zq_new (by omega) z0
  generalize x_up e0 (1 + 1) (fun _ => 0) = e1 at z1 ⊢
  refine x_putRF dX5_init_10 fX_5_9 tX_5_0 (Or.inr ⟨_, rfl⟩) (fun q h => by cases h; rfl) rfl (ks := [1, 0, 0, 0, 0, 0, 0, 1, 0, 0]) (by omega) (by simp (disch := omega) only [sh9_n, sh0_n, sh8_n, sh6_n, sh7_n, sh3_n, sh1_n, sh2_n, x_sp_n, x_sp_s, hs] <;> rfl) (Nat.le_of_ble_eq_true rfl) ?_
  refine x_aload_n dX5_init_13 x_get_1_0 ?_
  refine x_iconst dX5_init_14 ?_
  refine x_putI 1 dX5_init_15 fX_5_15 rfl tX_5_1 (ks := [(1 + 1) + 3, 0, 0, 0, 0, 0, 0, 1, 0, 0]) (by omega) (by simp (disch := omega) only [sh9_n, sh0_n, sh8_n, sh6_n, sh7_n, sh3_n, sh1_n, sh2_n, x_sp_n, x_sp_s, hs] <;> rfl) (by rfl) ?_
  have z2 := zq_put (i := 1) (v := 0) z1
  generalize x_up e1 1 (x_u1 (e1 1) 1 0) = e2 at z2 ⊢
  refine x_aload_n dX5_init_18 x_get_1_0 ?_
  refine x_iconst dX5_init_19 ?_
  refine x_putI 2 dX5_init_20 fX_5_19 rfl tX_5_2 (ks := [(1 + 1) + 3, 0, 0, 0, 0, 0, 0, 1, 0, 0]) (by omega) (by simp (disch := omega) only [sh9_n, sh0_n, sh8_n, sh6_n, sh7_n, sh3_n, sh1_n, sh2_n, x_sp_n, x_sp_s, hs] <;> rfl) (by rfl) ?_
  have z3 := zq_put (i := 2) (v := 0) z2
  generalize x_up e2 1 (x_u1 (e2 1) 2 0) = e3 at z3 ⊢
  refine x_aload_n dX5_init_23 x_get_1_0 ?_
  refine x_iconst dX5_init_24 ?_
  refine x_putI 3 dX5_init_25 fX_5_22 rfl tX_5_3 (ks := [(1 + 1) + 3, 0, 0, 0, 0, 0, 0, 1, 0, 0]) (by omega) (by simp (disch := omega) only [sh9_n, sh0_n, sh8_n, sh6_n, sh7_n, sh3_n, sh1_n, sh2_n, x_sp_n, x_sp_s, hs] <;> rfl) (by rfl) ?_
  have z4 := zq_put (i := 3) (v := 0) z3
  generalize x_up e3 1 (x_u1 (e3 1) 3 0) = e4 at z4 ⊢
  refine x_aload_n dX5_init_28 x_get_1_0 ?_
  refine x_iconst dX5_init_29 ?_
  refine x_putI 4 dX5_init_30 fX_5_25 rfl tX_5_4 (ks := [(1 + 1) + 3, 0, 0, 0, 0, 0, 0, 1, 0, 0]) (by omega) (by simp (disch := omega) only [sh9_n, sh0_n, sh8_n, sh6_n, sh7_n, sh3_n, sh1_n, sh2_n, x_sp_n, x_sp_s, hs] <;> rfl) (by rfl) ?_
  have z5 := zq_put (i := 4) (v := 0) z4
  generalize x_up e4 1 (x_u1 (e4 1) 4 0) = e5 at z5 ⊢
  refine x_aload_n dX5_init_33 x_get_1_0 ?_
  refine x_iconst dX5_init_34 ?_
  refine x_putI 5 dX5_init_35 fX_5_28 rfl tX_5_5 (ks := [(1 + 1) + 3, 0, 0, 0, 0, 0, 0, 1, 0, 0]) (by omega) (by simp (disch := omega) only [sh9_n, sh0_n, sh8_n, sh6_n, sh7_n, sh3_n, sh1_n, sh2_n, x_sp_n, x_sp_s, hs] <;> rfl) (by rfl) ?_
  have z6 := zq_put (i := 5) (v := 0) z5
  generalize x_up e5 1 (x_u1 (e5 1) 5 0) = e6 at z6 ⊢
  refine x_aload_n dX5_init_38 x_get_1_0 ?_
  refine x_iconst dX5_init_39 ?_
  refine x_putI 6 dX5_init_40 fX_5_31 rfl tX_5_6 (ks := [(1 + 1) + 3, 0, 0, 0, 0, 0, 0, 1, 0, 0]) (by omega) (by simp (disch := omega) only [sh9_n, sh0_n, sh8_n, sh6_n, sh7_n, sh3_n, sh1_n, sh2_n, x_sp_n, x_sp_s, hs] <;> rfl) (by rfl) ?_
  have z7 := zq_put (i := 6) (v := 0) z6
  generalize x_up e6 1 (x_u1 (e6 1) 6 0) = e7 at z7 ⊢
  refine x_aload_n dX5_init_43 x_get_1_0 ?_
  refine x_new (len := 7) dX5_init_44 mk_5_34 rfl (Nat.le_of_ble_eq_true rfl) (Nat.le_of_ble_eq_true rfl) ?_
  have zn8 : x_up e7 (1 + 1 + 1) (fun _ => 0) (1 + 1 + 1) = fun _ => 0 := x_up_s
  have z8 := zq_new (by omega) z7
  generalize x_up e7 (1 + 1 + 1) (fun _ => 0) = e8 at z8 zn8 ⊢
  refine x_dup dX5_init_47 rfl ?_
  refine x_callIN (As := []) dX5_init_48 w_5_36 (i3 (D := e8) (q := 1 + 1 + 1) hl x_sp_s zn8) rfl rfl (Nat.le_of_ble_eq_true rfl) (Nat.le_of_ble_eq_true rfl) (Nat.le_of_ble_eq_true rfl) (Nat.le_of_ble_eq_true rfl) (Nat.le_of_ble_eq_true rfl) ?_
  intro e9 he9
  have z9 := zq_in (by omega) z8 he9
  refine x_putR dX5_init_51 fX_5_37 tX_5_7 (Or.inl ⟨_, rfl⟩) (ks := [(1 + 1) + 3, 0, 0, 0, 0, 0, 0, 1, 0, 0]) (by omega) (by simp (disch := omega) only [sh9_n, sh0_n, sh8_n, sh6_n, sh7_n, sh3_n, sh1_n, sh2_n, x_sp_n, x_sp_s, hs] <;> rfl) (Nat.le_of_ble_eq_true rfl) ?_
  refine x_aload_n dX5_init_54 x_get_1_0 ?_
  refine x_iconst dX5_init_55 ?_
  refine x_putI 8 dX5_init_56 fX_5_41 rfl tX_5_8 (ks := [(1 + 1) + 3, 0, 0, 0, 0, 0, 0, (1 + 1 + 1) + 3, 0, 0]) (by omega) (by simp (disch := omega) only [sh9_n, sh0_n, sh8_n, sh6_n, sh7_n, sh3_n, sh1_n, sh2_n, x_sp_n, x_sp_s, hs] <;> rfl) (by rfl) ?_
  have z10 := zq_put (i := 8) (v := 0) z9
  generalize x_up e9 1 (x_u1 (e9 1) 8 0) = e10 at z10 ⊢
  refine x_aload_n dX5_init_59 x_get_1_0 ?_
  refine x_iconst dX5_init_60 ?_
  refine x_putI 9 dX5_init_61 fX_5_44 rfl tX_5_9 (ks := [(1 + 1) + 3, 0, 0, 0, 0, 0, 0, (1 + 1 + 1) + 3, 0, 0]) (by omega) (by simp (disch := omega) only [sh9_n, sh0_n, sh8_n, sh6_n, sh7_n, sh3_n, sh1_n, sh2_n, x_sp_n, x_sp_s, hs] <;> rfl) (by rfl) ?_
  have z11 := zq_put (i := 9) (v := (-1)) z10
  generalize x_up e10 1 (x_u1 (e10 1) 9 (-1)) = e11 at z11 ⊢
  exact x_vret dX5_init_64 rfl (Nat.le_of_ble_eq_true rfl) (Nat.le_of_ble_eq_true rfl) rfl rfl rfl (zz_1 z11) rfl
end L5
