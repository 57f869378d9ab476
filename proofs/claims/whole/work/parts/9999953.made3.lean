section L53
/-! ===== constructors ===== -/
theorem x_shp {Z : x_Z} {pc : Nat} {L : List (Option Value)} {st : List Value} {k n : Nat} {g : Bool} {N : Nat} {sh sh' : xS} {D : xM} (h : ∀ j, j < N → sh j = sh' j) (kk : x_W Z pc L st k n g N sh' D) : x_W Z pc L st k n g N sh D := by
  intro p e s m args below meth c H locs ls C hl hP hS
  have hw : x_wl (z_X Z) N sh D = x_wl (z_X Z) N sh' D := by
    unfold x_wl
    refine List.map_congr_left (fun k hk => ?_)
    unfold x_el
    rw [h k (List.mem_range.mp hk)]
  exact kk p e s m args below meth c H locs ls C hl ⟨by rw [← hw]; exact hP.1, hP.2⟩ hS
def mdC (j : Nat) : (Nat × Nat) ⊕ (Nat × List Nat) := ([.inl (0, 8), .inl (0, 8), .inl (0, 12), .inl (0, 12), .inl (0, 12), .inl (0, 12), .inl (0, 1400), .inl (0, 700), .inl (0, 3), .inl (0, 8), .inl (0, 8), .inl (0, 12), .inl (0, 12), .inl (0, 12), .inl (0, 12), .inl (0, 85), .inl (0, 1400), .inl (0, 950), .inl (2, 9), .inl (0, 170), .inl (0, 3400), .inl (0, 6), .inl (0, 950), .inl (0, 64), .inl (0, 64), .inl (0, 10240), .inl (0, 240), .inl (0, 24), .inl (0, 248), .inl (0, 24800), .inl (0, 85), .inl (0, 3400), .inl (0, 24)] : List ((Nat × Nat) ⊕ (Nat × List Nat))).getD (j - 63) (.inl (0, 0))
def shK (sh : xS) (ks : List Nat) : xS := fun j => if j < 62 then sh j else if j = 62 then .inr (12, ks) else mdC j
theorem shK_lt {sh : xS} {ks : List Nat} {j : Nat} (h : j < 62) : shK sh ks j = sh j := if_pos h
theorem shK_62 {sh : xS} {ks : List Nat} : shK sh ks 62 = .inr (12, ks) := rfl
theorem shK_at {sh : xS} {ks : List Nat} {j : Nat} {e : (Nat × Nat) ⊕ (Nat × List Nat)} (h : 62 < j) (he : mdC j = e) : shK sh ks j = e := by
  unfold shK
  rw [if_neg (by omega), if_neg (by omega)]
  exact he
theorem shK_put {sh : xS} {ks ks' : List Nat} : x_sp (shK sh ks) 62 (.inr (12, ks')) = shK sh ks' := by
  funext j
  unfold x_sp shK
  by_cases h : j = 62
  · rw [if_pos h, h, if_neg (by decide), if_pos rfl]
  · rw [if_neg h, if_neg h, if_neg h]
set_option maxHeartbeats 4000000 in
theorem i12 {X : xC} {l : Launch} (hl : l.stackTraces = false) {sh : xS} {D : xM} (hs : sh 62 = .inr (12, [0, 0, 0, 0, 0, 1, 1, 1, 1, 1, 1, 1, 1, 0, 0, 0, 1, 0, 0, 0, 0, 0, 0, 0, 2, 0, 0, 0, 0, 0, 0, 0, 1, 1, 1, 1, 1, 1, 1, 1, 1, 1, 1, 1, 0, 1, 1, 0, 1, 1, 1, 1, 0, 1, 1, 1, 0, 0, 0, 0, 1, 1, 1])) (h0 : D 62 = fun _ => 0) : x_M X l yX12_init cX12_init 1 (none) 1 33 48390 [.ref (x_b X + 62)] true (62 + 1) sh D (.inl none) true (62 + 1 + 1 + 1 + 1 + 1 + 1 + 1 + 1 + 1 + 1 + 1 + 1 + 1 + 1 + 1 + 1 + 1 + 1 + 1 + 1 + 1 + 1 + 1 + 1 + 1 + 1 + 1 + 1 + 1 + 1 + 1 + 1 + 1 + 1) (shK sh md_ks) (zq 62 (62 + 1 + 1 + 1 + 1 + 1 + 1 + 1 + 1 + 1 + 1 + 1 + 1 + 1 + 1 + 1 + 1 + 1 + 1 + 1 + 1 + 1 + 1 + 1 + 1 + 1 + 1 + 1 + 1 + 1 + 1 + 1 + 1 + 1 + 1) (x_u1 (x_u1 (fun _ => 0) 4 (-1)) 15 (-1)) D) := by
  refine x_ofW (by decide +kernel) hl (by simp [Value.category]) (by simp) ?_
  obtain ⟨e0, he0⟩ : ∃ e0, D = e0 := ⟨_, rfl⟩
  have z0 : zq 62 (62 + 1) (fun _ => 0) D e0 := by rw [← he0]; exact zq_rf h0
  refine x_mem he0 ?_
  clear he0
  refine x_shp (sh' := shK sh [0, 0, 0, 0, 0, 1, 1, 1, 1, 1, 1, 1, 1, 0, 0, 0, 1, 0, 0, 0, 0, 0, 0, 0, 2, 0, 0, 0, 0, 0, 0, 0, 1, 1, 1, 1, 1, 1, 1, 1, 1, 1, 1, 1, 0, 1, 1, 0, 1, 1, 1, 1, 0, 1, 1, 1, 0, 0, 0, 0, 1, 1, 1]) (fun j hj => ?_) ?_
  · by_cases e : j = 62
    · rw [e, hs, shK_62]
    · rw [shK_lt (by omega)]
  refine x_aload_n dX12_init_0 x_get_1_0 ?_
  refine x_objinit dX12_init_1 ol_12 ol_i ol_c (Nat.le_of_ble_eq_true rfl) (Nat.le_of_ble_eq_true rfl) ?_
  refine x_aload_n dX12_init_4 x_get_1_0 ?_
  refine x_iconst dX12_init_5 ?_
  refine x_putI 4 dX12_init_6 fX_12_9 rfl tX_12_4 (by omega) shK_62 (by rfl) ?_
  have z1 := zq_put (i := 4) (v := (-1)) z0
  generalize x_up e0 62 (x_u1 (e0 62) 4 (-1)) = e1 at z1 ⊢
  refine x_aload_n dX12_init_9 x_get_1_0 ?_
  refine x_bipush dX12_init_10 rfl ?_
  refine x_newa (len := 8) dX12_init_12 rfl (t := 0) rfl arc_int (Nat.le_of_ble_eq_true rfl) (Nat.le_of_ble_eq_true rfl) (Nat.le_of_ble_eq_true rfl) ?_
  have z2 := zq_new (by omega) z1
  generalize x_up e1 (62 + 1) (fun _ => 0) = e2 at z2 ⊢
  rw [x_sp_id (show shK sh _ (62 + 1) = .inl (0, 8) from shK_at (by decide) rfl)]
  refine x_putRF dX12_init_14 fX_12_13 tX_12_5 (Or.inr ⟨_, rfl⟩) (fun q h => by cases h; rfl) rfl (by omega) shK_62 (Nat.le_of_ble_eq_true rfl) ?_
  rw [shK_put]
  refine x_aload_n dX12_init_17 x_get_1_0 ?_
  refine x_bipush dX12_init_18 rfl ?_
  refine x_newa (len := 8) dX12_init_20 rfl (t := 0) rfl arc_int (Nat.le_of_ble_eq_true rfl) (Nat.le_of_ble_eq_true rfl) (Nat.le_of_ble_eq_true rfl) ?_
  have z3 := zq_new (by omega) z2
  generalize x_up e2 (62 + 1 + 1) (fun _ => 0) = e3 at z3 ⊢
  rw [x_sp_id (show shK sh _ (62 + 1 + 1) = .inl (0, 8) from shK_at (by decide) rfl)]
  refine x_putRF dX12_init_22 fX_12_17 tX_12_6 (Or.inr ⟨_, rfl⟩) (fun q h => by cases h; rfl) rfl (by omega) shK_62 (Nat.le_of_ble_eq_true rfl) ?_
  rw [shK_put]
  refine x_aload_n dX12_init_25 x_get_1_0 ?_
  refine x_bipush dX12_init_26 rfl ?_
  refine x_newa (len := 12) dX12_init_28 rfl (t := 0) rfl arc_int (Nat.le_of_ble_eq_true rfl) (Nat.le_of_ble_eq_true rfl) (Nat.le_of_ble_eq_true rfl) ?_
  have z4 := zq_new (by omega) z3
  generalize x_up e3 (62 + 1 + 1 + 1) (fun _ => 0) = e4 at z4 ⊢
  rw [x_sp_id (show shK sh _ (62 + 1 + 1 + 1) = .inl (0, 12) from shK_at (by decide) rfl)]
  refine x_putRF dX12_init_30 fX_12_20 tX_12_7 (Or.inr ⟨_, rfl⟩) (fun q h => by cases h; rfl) rfl (by omega) shK_62 (Nat.le_of_ble_eq_true rfl) ?_
  rw [shK_put]
  refine x_aload_n dX12_init_33 x_get_1_0 ?_
  refine x_bipush dX12_init_34 rfl ?_
  refine x_newa (len := 12) dX12_init_36 rfl (t := 0) rfl arc_int (Nat.le_of_ble_eq_true rfl) (Nat.le_of_ble_eq_true rfl) (Nat.le_of_ble_eq_true rfl) ?_
  have z5 := zq_new (by omega) z4
  generalize x_up e4 (62 + 1 + 1 + 1 + 1) (fun _ => 0) = e5 at z5 ⊢
  rw [x_sp_id (show shK sh _ (62 + 1 + 1 + 1 + 1) = .inl (0, 12) from shK_at (by decide) rfl)]
  refine x_putRF dX12_init_38 fX_12_23 tX_12_8 (Or.inr ⟨_, rfl⟩) (fun q h => by cases h; rfl) rfl (by omega) shK_62 (Nat.le_of_ble_eq_true rfl) ?_
  rw [shK_put]
  refine x_aload_n dX12_init_41 x_get_1_0 ?_
  refine x_bipush dX12_init_42 rfl ?_
  refine x_newa (len := 12) dX12_init_44 rfl (t := 0) rfl arc_int (Nat.le_of_ble_eq_true rfl) (Nat.le_of_ble_eq_true rfl) (Nat.le_of_ble_eq_true rfl) ?_
  have z6 := zq_new (by omega) z5
  generalize x_up e5 (62 + 1 + 1 + 1 + 1 + 1) (fun _ => 0) = e6 at z6 ⊢
  rw [x_sp_id (show shK sh _ (62 + 1 + 1 + 1 + 1 + 1) = .inl (0, 12) from shK_at (by decide) rfl)]
  refine x_putRF dX12_init_46 fX_12_26 tX_12_9 (Or.inr ⟨_, rfl⟩) (fun q h => by cases h; rfl) rfl (by omega) shK_62 (Nat.le_of_ble_eq_true rfl) ?_
  rw [shK_put]
  refine x_aload_n dX12_init_49 x_get_1_0 ?_
  refine x_bipush dX12_init_50 rfl ?_
  refine x_newa (len := 12) dX12_init_52 rfl (t := 0) rfl arc_int (Nat.le_of_ble_eq_true rfl) (Nat.le_of_ble_eq_true rfl) (Nat.le_of_ble_eq_true rfl) ?_
  have z7 := zq_new (by omega) z6
  generalize x_up e6 (62 + 1 + 1 + 1 + 1 + 1 + 1) (fun _ => 0) = e7 at z7 ⊢
  rw [x_sp_id (show shK sh _ (62 + 1 + 1 + 1 + 1 + 1 + 1) = .inl (0, 12) from shK_at (by decide) rfl)]
  refine x_putRF dX12_init_54 fX_12_29 tX_12_10 (Or.inr ⟨_, rfl⟩) (fun q h => by cases h; rfl) rfl (by omega) shK_62 (Nat.le_of_ble_eq_true rfl) ?_
  rw [shK_put]
  refine x_aload_n dX12_init_57 x_get_1_0 ?_
  refine x_sipush dX12_init_58 rfl ?_
  refine x_newa (len := 1400) dX12_init_61 rfl (t := 0) rfl arc_int (Nat.le_of_ble_eq_true rfl) (Nat.le_of_ble_eq_true rfl) (Nat.le_of_ble_eq_true rfl) ?_
  have z8 := zq_new (by omega) z7
  generalize x_up e7 (62 + 1 + 1 + 1 + 1 + 1 + 1 + 1) (fun _ => 0) = e8 at z8 ⊢
  rw [x_sp_id (show shK sh _ (62 + 1 + 1 + 1 + 1 + 1 + 1 + 1) = .inl (0, 1400) from shK_at (by decide) rfl)]
  refine x_putRF dX12_init_63 fX_12_32 tX_12_11 (Or.inr ⟨_, rfl⟩) (fun q h => by cases h; rfl) rfl (by omega) shK_62 (Nat.le_of_ble_eq_true rfl) ?_
  rw [shK_put]
  refine x_aload_n dX12_init_66 x_get_1_0 ?_
  refine x_sipush dX12_init_67 rfl ?_
  refine x_newa (len := 700) dX12_init_70 rfl (t := 0) rfl arc_int (Nat.le_of_ble_eq_true rfl) (Nat.le_of_ble_eq_true rfl) (Nat.le_of_ble_eq_true rfl) ?_
  have z9 := zq_new (by omega) z8
  generalize x_up e8 (62 + 1 + 1 + 1 + 1 + 1 + 1 + 1 + 1) (fun _ => 0) = e9 at z9 ⊢
  rw [x_sp_id (show shK sh _ (62 + 1 + 1 + 1 + 1 + 1 + 1 + 1 + 1) = .inl (0, 700) from shK_at (by decide) rfl)]
  refine x_putRF dX12_init_72 fX_12_35 tX_12_12 (Or.inr ⟨_, rfl⟩) (fun q h => by cases h; rfl) rfl (by omega) shK_62 (Nat.le_of_ble_eq_true rfl) ?_
  rw [shK_put]
  refine x_aload_n dX12_init_75 x_get_1_0 ?_
  refine x_iconst dX12_init_76 ?_
  refine x_putI 15 dX12_init_77 fX_12_38 rfl tX_12_15 (by omega) shK_62 (by rfl) ?_
  have z10 := zq_put (i := 15) (v := (-1)) z9
  generalize x_up e9 62 (x_u1 (e9 62) 15 (-1)) = e10 at z10 ⊢
  refine x_aload_n dX12_init_80 x_get_1_0 ?_
  refine x_iconst dX12_init_81 ?_
  refine x_newa (len := 3) dX12_init_82 rfl (t := 0) rfl arc_int (Nat.le_of_ble_eq_true rfl) (Nat.le_of_ble_eq_true rfl) (Nat.le_of_ble_eq_true rfl) ?_
  have z11 := zq_new (by omega) z10
  generalize x_up e10 (62 + 1 + 1 + 1 + 1 + 1 + 1 + 1 + 1 + 1) (fun _ => 0) = e11 at z11 ⊢
  rw [x_sp_id (show shK sh _ (62 + 1 + 1 + 1 + 1 + 1 + 1 + 1 + 1 + 1) = .inl (0, 3) from shK_at (by decide) rfl)]
  refine x_putRF dX12_init_84 fX_12_41 tX_12_16 (Or.inr ⟨_, rfl⟩) (fun q h => by cases h; rfl) rfl (by omega) shK_62 (Nat.le_of_ble_eq_true rfl) ?_
  rw [shK_put]
  refine x_aload_n dX12_init_87 x_get_1_0 ?_
  refine x_bipush dX12_init_88 rfl ?_
  refine x_newa (len := 8) dX12_init_90 rfl (t := 0) rfl arc_int (Nat.le_of_ble_eq_true rfl) (Nat.le_of_ble_eq_true rfl) (Nat.le_of_ble_eq_true rfl) ?_
  have z12 := zq_new (by omega) z11
  generalize x_up e11 (62 + 1 + 1 + 1 + 1 + 1 + 1 + 1 + 1 + 1 + 1) (fun _ => 0) = e12 at z12 ⊢
  rw [x_sp_id (show shK sh _ (62 + 1 + 1 + 1 + 1 + 1 + 1 + 1 + 1 + 1 + 1) = .inl (0, 8) from shK_at (by decide) rfl)]
  refine x_putRF dX12_init_92 fX_12_44 tX_12_32 (Or.inr ⟨_, rfl⟩) (fun q h => by cases h; rfl) rfl (by omega) shK_62 (Nat.le_of_ble_eq_true rfl) ?_
  rw [shK_put]
  refine x_aload_n dX12_init_95 x_get_1_0 ?_
  refine x_bipush dX12_init_96 rfl ?_
  refine x_newa (len := 8) dX12_init_98 rfl (t := 0) rfl arc_int (Nat.le_of_ble_eq_true rfl) (Nat.le_of_ble_eq_true rfl) (Nat.le_of_ble_eq_true rfl) ?_
  have z13 := zq_new (by omega) z12
  generalize x_up e12 (62 + 1 + 1 + 1 + 1 + 1 + 1 + 1 + 1 + 1 + 1 + 1) (fun _ => 0) = e13 at z13 ⊢
  rw [x_sp_id (show shK sh _ (62 + 1 + 1 + 1 + 1 + 1 + 1 + 1 + 1 + 1 + 1 + 1) = .inl (0, 8) from shK_at (by decide) rfl)]
  refine x_putRF dX12_init_100 fX_12_47 tX_12_33 (Or.inr ⟨_, rfl⟩) (fun q h => by cases h; rfl) rfl (by omega) shK_62 (Nat.le_of_ble_eq_true rfl) ?_
  rw [shK_put]
  refine x_aload_n dX12_init_103 x_get_1_0 ?_
  refine x_bipush dX12_init_104 rfl ?_
  refine x_newa (len := 12) dX12_init_106 rfl (t := 0) rfl arc_int (Nat.le_of_ble_eq_true rfl) (Nat.le_of_ble_eq_true rfl) (Nat.le_of_ble_eq_true rfl) ?_
  have z14 := zq_new (by omega) z13
  generalize x_up e13 (62 + 1 + 1 + 1 + 1 + 1 + 1 + 1 + 1 + 1 + 1 + 1 + 1) (fun _ => 0) = e14 at z14 ⊢
  rw [x_sp_id (show shK sh _ (62 + 1 + 1 + 1 + 1 + 1 + 1 + 1 + 1 + 1 + 1 + 1 + 1) = .inl (0, 12) from shK_at (by decide) rfl)]
  refine x_putRF dX12_init_108 fX_12_50 tX_12_34 (Or.inr ⟨_, rfl⟩) (fun q h => by cases h; rfl) rfl (by omega) shK_62 (Nat.le_of_ble_eq_true rfl) ?_
  rw [shK_put]
  refine x_aload_n dX12_init_111 x_get_1_0 ?_
  refine x_bipush dX12_init_112 rfl ?_
  refine x_newa (len := 12) dX12_init_114 rfl (t := 0) rfl arc_int (Nat.le_of_ble_eq_true rfl) (Nat.le_of_ble_eq_true rfl) (Nat.le_of_ble_eq_true rfl) ?_
  have z15 := zq_new (by omega) z14
  generalize x_up e14 (62 + 1 + 1 + 1 + 1 + 1 + 1 + 1 + 1 + 1 + 1 + 1 + 1 + 1) (fun _ => 0) = e15 at z15 ⊢
  rw [x_sp_id (show shK sh _ (62 + 1 + 1 + 1 + 1 + 1 + 1 + 1 + 1 + 1 + 1 + 1 + 1 + 1) = .inl (0, 12) from shK_at (by decide) rfl)]
  refine x_putRF dX12_init_116 fX_12_53 tX_12_35 (Or.inr ⟨_, rfl⟩) (fun q h => by cases h; rfl) rfl (by omega) shK_62 (Nat.le_of_ble_eq_true rfl) ?_
  rw [shK_put]
  refine x_aload_n dX12_init_119 x_get_1_0 ?_
  refine x_bipush dX12_init_120 rfl ?_
  refine x_newa (len := 12) dX12_init_122 rfl (t := 0) rfl arc_int (Nat.le_of_ble_eq_true rfl) (Nat.le_of_ble_eq_true rfl) (Nat.le_of_ble_eq_true rfl) ?_
  have z16 := zq_new (by omega) z15
  generalize x_up e15 (62 + 1 + 1 + 1 + 1 + 1 + 1 + 1 + 1 + 1 + 1 + 1 + 1 + 1 + 1) (fun _ => 0) = e16 at z16 ⊢
  rw [x_sp_id (show shK sh _ (62 + 1 + 1 + 1 + 1 + 1 + 1 + 1 + 1 + 1 + 1 + 1 + 1 + 1 + 1) = .inl (0, 12) from shK_at (by decide) rfl)]
  refine x_putRF dX12_init_124 fX_12_56 tX_12_36 (Or.inr ⟨_, rfl⟩) (fun q h => by cases h; rfl) rfl (by omega) shK_62 (Nat.le_of_ble_eq_true rfl) ?_
  rw [shK_put]
  refine x_aload_n dX12_init_127 x_get_1_0 ?_
  refine x_bipush dX12_init_128 rfl ?_
  refine x_newa (len := 12) dX12_init_130 rfl (t := 0) rfl arc_int (Nat.le_of_ble_eq_true rfl) (Nat.le_of_ble_eq_true rfl) (Nat.le_of_ble_eq_true rfl) ?_
  have z17 := zq_new (by omega) z16
  generalize x_up e16 (62 + 1 + 1 + 1 + 1 + 1 + 1 + 1 + 1 + 1 + 1 + 1 + 1 + 1 + 1 + 1) (fun _ => 0) = e17 at z17 ⊢
  rw [x_sp_id (show shK sh _ (62 + 1 + 1 + 1 + 1 + 1 + 1 + 1 + 1 + 1 + 1 + 1 + 1 + 1 + 1 + 1) = .inl (0, 12) from shK_at (by decide) rfl)]
  refine x_putRF dX12_init_132 fX_12_59 tX_12_37 (Or.inr ⟨_, rfl⟩) (fun q h => by cases h; rfl) rfl (by omega) shK_62 (Nat.le_of_ble_eq_true rfl) ?_
  rw [shK_put]
  refine x_aload_n dX12_init_135 x_get_1_0 ?_
  refine x_bipush dX12_init_136 rfl ?_
  refine x_newa (len := 85) dX12_init_138 rfl (t := 0) rfl arc_int (Nat.le_of_ble_eq_true rfl) (Nat.le_of_ble_eq_true rfl) (Nat.le_of_ble_eq_true rfl) ?_
  have z18 := zq_new (by omega) z17
  generalize x_up e17 (62 + 1 + 1 + 1 + 1 + 1 + 1 + 1 + 1 + 1 + 1 + 1 + 1 + 1 + 1 + 1 + 1) (fun _ => 0) = e18 at z18 ⊢
  rw [x_sp_id (show shK sh _ (62 + 1 + 1 + 1 + 1 + 1 + 1 + 1 + 1 + 1 + 1 + 1 + 1 + 1 + 1 + 1 + 1) = .inl (0, 85) from shK_at (by decide) rfl)]
  refine x_putRF dX12_init_140 fX_12_62 tX_12_38 (Or.inr ⟨_, rfl⟩) (fun q h => by cases h; rfl) rfl (by omega) shK_62 (Nat.le_of_ble_eq_true rfl) ?_
  rw [shK_put]
  refine x_aload_n dX12_init_143 x_get_1_0 ?_
  refine x_sipush dX12_init_144 rfl ?_
  refine x_newa (len := 1400) dX12_init_147 rfl (t := 0) rfl arc_int (Nat.le_of_ble_eq_true rfl) (Nat.le_of_ble_eq_true rfl) (Nat.le_of_ble_eq_true rfl) ?_
  have z19 := zq_new (by omega) z18
  generalize x_up e18 (62 + 1 + 1 + 1 + 1 + 1 + 1 + 1 + 1 + 1 + 1 + 1 + 1 + 1 + 1 + 1 + 1 + 1) (fun _ => 0) = e19 at z19 ⊢
  rw [x_sp_id (show shK sh _ (62 + 1 + 1 + 1 + 1 + 1 + 1 + 1 + 1 + 1 + 1 + 1 + 1 + 1 + 1 + 1 + 1 + 1) = .inl (0, 1400) from shK_at (by decide) rfl)]
  refine x_putRF dX12_init_149 fX_12_65 tX_12_39 (Or.inr ⟨_, rfl⟩) (fun q h => by cases h; rfl) rfl (by omega) shK_62 (Nat.le_of_ble_eq_true rfl) ?_
  rw [shK_put]
  refine x_aload_n dX12_init_152 x_get_1_0 ?_
  refine x_sipush dX12_init_153 rfl ?_
  refine x_newa (len := 950) dX12_init_156 rfl (t := 0) rfl arc_int (Nat.le_of_ble_eq_true rfl) (Nat.le_of_ble_eq_true rfl) (Nat.le_of_ble_eq_true rfl) ?_
  have z20 := zq_new (by omega) z19
  generalize x_up e19 (62 + 1 + 1 + 1 + 1 + 1 + 1 + 1 + 1 + 1 + 1 + 1 + 1 + 1 + 1 + 1 + 1 + 1 + 1) (fun _ => 0) = e20 at z20 ⊢
  rw [x_sp_id (show shK sh _ (62 + 1 + 1 + 1 + 1 + 1 + 1 + 1 + 1 + 1 + 1 + 1 + 1 + 1 + 1 + 1 + 1 + 1 + 1) = .inl (0, 950) from shK_at (by decide) rfl)]
  refine x_putRF dX12_init_158 fX_12_68 tX_12_40 (Or.inr ⟨_, rfl⟩) (fun q h => by cases h; rfl) rfl (by omega) shK_62 (Nat.le_of_ble_eq_true rfl) ?_
  rw [shK_put]
  refine x_aload_n dX12_init_161 x_get_1_0 ?_
  refine x_bipush dX12_init_162 rfl ?_
  refine x_newa (len := 9) dX12_init_164 rfl (t := 2) rfl arc_boolean (Nat.le_of_ble_eq_true rfl) (Nat.le_of_ble_eq_true rfl) (Nat.le_of_ble_eq_true rfl) ?_
  have z21 := zq_new (by omega) z20
  generalize x_up e20 (62 + 1 + 1 + 1 + 1 + 1 + 1 + 1 + 1 + 1 + 1 + 1 + 1 + 1 + 1 + 1 + 1 + 1 + 1 + 1) (fun _ => 0) = e21 at z21 ⊢
  rw [x_sp_id (show shK sh _ (62 + 1 + 1 + 1 + 1 + 1 + 1 + 1 + 1 + 1 + 1 + 1 + 1 + 1 + 1 + 1 + 1 + 1 + 1 + 1) = .inl (2, 9) from shK_at (by decide) rfl)]
  refine x_putRF dX12_init_166 fX_12_71 tX_12_41 (Or.inr ⟨_, rfl⟩) (fun q h => by cases h; rfl) rfl (by omega) shK_62 (Nat.le_of_ble_eq_true rfl) ?_
  rw [shK_put]
  refine x_aload_n dX12_init_169 x_get_1_0 ?_
  refine x_sipush dX12_init_170 rfl ?_
  refine x_newa (len := 170) dX12_init_173 rfl (t := 0) rfl arc_int (Nat.le_of_ble_eq_true rfl) (Nat.le_of_ble_eq_true rfl) (Nat.le_of_ble_eq_true rfl) ?_
  have z22 := zq_new (by omega) z21
  generalize x_up e21 (62 + 1 + 1 + 1 + 1 + 1 + 1 + 1 + 1 + 1 + 1 + 1 + 1 + 1 + 1 + 1 + 1 + 1 + 1 + 1 + 1) (fun _ => 0) = e22 at z22 ⊢
  rw [x_sp_id (show shK sh _ (62 + 1 + 1 + 1 + 1 + 1 + 1 + 1 + 1 + 1 + 1 + 1 + 1 + 1 + 1 + 1 + 1 + 1 + 1 + 1 + 1) = .inl (0, 170) from shK_at (by decide) rfl)]
  refine x_putRF dX12_init_175 fX_12_75 tX_12_42 (Or.inr ⟨_, rfl⟩) (fun q h => by cases h; rfl) rfl (by omega) shK_62 (Nat.le_of_ble_eq_true rfl) ?_
  rw [shK_put]
  refine x_aload_n dX12_init_178 x_get_1_0 ?_
  refine x_sipush dX12_init_179 rfl ?_
  refine x_newa (len := 3400) dX12_init_182 rfl (t := 0) rfl arc_int (Nat.le_of_ble_eq_true rfl) (Nat.le_of_ble_eq_true rfl) (Nat.le_of_ble_eq_true rfl) ?_
  have z23 := zq_new (by omega) z22
  generalize x_up e22 (62 + 1 + 1 + 1 + 1 + 1 + 1 + 1 + 1 + 1 + 1 + 1 + 1 + 1 + 1 + 1 + 1 + 1 + 1 + 1 + 1 + 1) (fun _ => 0) = e23 at z23 ⊢
  rw [x_sp_id (show shK sh _ (62 + 1 + 1 + 1 + 1 + 1 + 1 + 1 + 1 + 1 + 1 + 1 + 1 + 1 + 1 + 1 + 1 + 1 + 1 + 1 + 1 + 1) = .inl (0, 3400) from shK_at (by decide) rfl)]
  refine x_putRF dX12_init_184 fX_12_78 tX_12_43 (Or.inr ⟨_, rfl⟩) (fun q h => by cases h; rfl) rfl (by omega) shK_62 (Nat.le_of_ble_eq_true rfl) ?_
  rw [shK_put]
  refine x_aload_n dX12_init_187 x_get_1_0 ?_
  refine x_bipush dX12_init_188 rfl ?_
  refine x_newa (len := 6) dX12_init_190 rfl (t := 0) rfl arc_int (Nat.le_of_ble_eq_true rfl) (Nat.le_of_ble_eq_true rfl) (Nat.le_of_ble_eq_true rfl) ?_
  have z24 := zq_new (by omega) z23
  generalize x_up e23 (62 + 1 + 1 + 1 + 1 + 1 + 1 + 1 + 1 + 1 + 1 + 1 + 1 + 1 + 1 + 1 + 1 + 1 + 1 + 1 + 1 + 1 + 1) (fun _ => 0) = e24 at z24 ⊢
  rw [x_sp_id (show shK sh _ (62 + 1 + 1 + 1 + 1 + 1 + 1 + 1 + 1 + 1 + 1 + 1 + 1 + 1 + 1 + 1 + 1 + 1 + 1 + 1 + 1 + 1 + 1) = .inl (0, 6) from shK_at (by decide) rfl)]
  refine x_putRF dX12_init_192 fX_12_81 tX_12_45 (Or.inr ⟨_, rfl⟩) (fun q h => by cases h; rfl) rfl (by omega) shK_62 (Nat.le_of_ble_eq_true rfl) ?_
  rw [shK_put]
  refine x_aload_n dX12_init_195 x_get_1_0 ?_
  refine x_sipush dX12_init_196 rfl ?_
  refine x_newa (len := 950) dX12_init_199 rfl (t := 0) rfl arc_int (Nat.le_of_ble_eq_true rfl) (Nat.le_of_ble_eq_true rfl) (Nat.le_of_ble_eq_true rfl) ?_
  have z25 := zq_new (by omega) z24
  generalize x_up e24 (62 + 1 + 1 + 1 + 1 + 1 + 1 + 1 + 1 + 1 + 1 + 1 + 1 + 1 + 1 + 1 + 1 + 1 + 1 + 1 + 1 + 1 + 1 + 1) (fun _ => 0) = e25 at z25 ⊢
  rw [x_sp_id (show shK sh _ (62 + 1 + 1 + 1 + 1 + 1 + 1 + 1 + 1 + 1 + 1 + 1 + 1 + 1 + 1 + 1 + 1 + 1 + 1 + 1 + 1 + 1 + 1 + 1) = .inl (0, 950) from shK_at (by decide) rfl)]
  refine x_putRF dX12_init_201 fX_12_84 tX_12_46 (Or.inr ⟨_, rfl⟩) (fun q h => by cases h; rfl) rfl (by omega) shK_62 (Nat.le_of_ble_eq_true rfl) ?_
  rw [shK_put]
  refine x_aload_n dX12_init_204 x_get_1_0 ?_
  refine x_bipush dX12_init_205 rfl ?_
  refine x_newa (len := 64) dX12_init_207 rfl (t := 0) rfl arc_int (Nat.le_of_ble_eq_true rfl) (Nat.le_of_ble_eq_true rfl) (Nat.le_of_ble_eq_true rfl) ?_
  have z26 := zq_new (by omega) z25
  generalize x_up e25 (62 + 1 + 1 + 1 + 1 + 1 + 1 + 1 + 1 + 1 + 1 + 1 + 1 + 1 + 1 + 1 + 1 + 1 + 1 + 1 + 1 + 1 + 1 + 1 + 1) (fun _ => 0) = e26 at z26 ⊢
  rw [x_sp_id (show shK sh _ (62 + 1 + 1 + 1 + 1 + 1 + 1 + 1 + 1 + 1 + 1 + 1 + 1 + 1 + 1 + 1 + 1 + 1 + 1 + 1 + 1 + 1 + 1 + 1 + 1) = .inl (0, 64) from shK_at (by decide) rfl)]
  refine x_putRF dX12_init_209 fX_12_87 tX_12_48 (Or.inr ⟨_, rfl⟩) (fun q h => by cases h; rfl) rfl (by omega) shK_62 (Nat.le_of_ble_eq_true rfl) ?_
  rw [shK_put]
  refine x_aload_n dX12_init_212 x_get_1_0 ?_
  refine x_bipush dX12_init_213 rfl ?_
  refine x_newa (len := 64) dX12_init_215 rfl (t := 0) rfl arc_int (Nat.le_of_ble_eq_true rfl) (Nat.le_of_ble_eq_true rfl) (Nat.le_of_ble_eq_true rfl) ?_
  have z27 := zq_new (by omega) z26
  generalize x_up e26 (62 + 1 + 1 + 1 + 1 + 1 + 1 + 1 + 1 + 1 + 1 + 1 + 1 + 1 + 1 + 1 + 1 + 1 + 1 + 1 + 1 + 1 + 1 + 1 + 1 + 1) (fun _ => 0) = e27 at z27 ⊢
  rw [x_sp_id (show shK sh _ (62 + 1 + 1 + 1 + 1 + 1 + 1 + 1 + 1 + 1 + 1 + 1 + 1 + 1 + 1 + 1 + 1 + 1 + 1 + 1 + 1 + 1 + 1 + 1 + 1 + 1) = .inl (0, 64) from shK_at (by decide) rfl)]
  refine x_putRF dX12_init_217 fX_12_90 tX_12_49 (Or.inr ⟨_, rfl⟩) (fun q h => by cases h; rfl) rfl (by omega) shK_62 (Nat.le_of_ble_eq_true rfl) ?_
  rw [shK_put]
  refine x_aload_n dX12_init_220 x_get_1_0 ?_
  refine x_sipush dX12_init_221 rfl ?_
  refine x_newa (len := 10240) dX12_init_224 rfl (t := 0) rfl arc_int (Nat.le_of_ble_eq_true rfl) (Nat.le_of_ble_eq_true rfl) (Nat.le_of_ble_eq_true rfl) ?_
  have z28 := zq_new (by omega) z27
  generalize x_up e27 (62 + 1 + 1 + 1 + 1 + 1 + 1 + 1 + 1 + 1 + 1 + 1 + 1 + 1 + 1 + 1 + 1 + 1 + 1 + 1 + 1 + 1 + 1 + 1 + 1 + 1 + 1) (fun _ => 0) = e28 at z28 ⊢
  rw [x_sp_id (show shK sh _ (62 + 1 + 1 + 1 + 1 + 1 + 1 + 1 + 1 + 1 + 1 + 1 + 1 + 1 + 1 + 1 + 1 + 1 + 1 + 1 + 1 + 1 + 1 + 1 + 1 + 1 + 1) = .inl (0, 10240) from shK_at (by decide) rfl)]
  refine x_putRF dX12_init_226 fX_12_93 tX_12_50 (Or.inr ⟨_, rfl⟩) (fun q h => by cases h; rfl) rfl (by omega) shK_62 (Nat.le_of_ble_eq_true rfl) ?_
  rw [shK_put]
  refine x_aload_n dX12_init_229 x_get_1_0 ?_
  refine x_sipush dX12_init_230 rfl ?_
  refine x_newa (len := 240) dX12_init_233 rfl (t := 0) rfl arc_int (Nat.le_of_ble_eq_true rfl) (Nat.le_of_ble_eq_true rfl) (Nat.le_of_ble_eq_true rfl) ?_
  have z29 := zq_new (by omega) z28
  generalize x_up e28 (62 + 1 + 1 + 1 + 1 + 1 + 1 + 1 + 1 + 1 + 1 + 1 + 1 + 1 + 1 + 1 + 1 + 1 + 1 + 1 + 1 + 1 + 1 + 1 + 1 + 1 + 1 + 1) (fun _ => 0) = e29 at z29 ⊢
  rw [x_sp_id (show shK sh _ (62 + 1 + 1 + 1 + 1 + 1 + 1 + 1 + 1 + 1 + 1 + 1 + 1 + 1 + 1 + 1 + 1 + 1 + 1 + 1 + 1 + 1 + 1 + 1 + 1 + 1 + 1 + 1) = .inl (0, 240) from shK_at (by decide) rfl)]
  refine x_putRF dX12_init_235 fX_12_96 tX_12_51 (Or.inr ⟨_, rfl⟩) (fun q h => by cases h; rfl) rfl (by omega) shK_62 (Nat.le_of_ble_eq_true rfl) ?_
  rw [shK_put]
  refine x_aload_n dX12_init_238 x_get_1_0 ?_
  refine x_bipush dX12_init_239 rfl ?_
  refine x_newa (len := 24) dX12_init_241 rfl (t := 0) rfl arc_int (Nat.le_of_ble_eq_true rfl) (Nat.le_of_ble_eq_true rfl) (Nat.le_of_ble_eq_true rfl) ?_
  have z30 := zq_new (by omega) z29
  generalize x_up e29 (62 + 1 + 1 + 1 + 1 + 1 + 1 + 1 + 1 + 1 + 1 + 1 + 1 + 1 + 1 + 1 + 1 + 1 + 1 + 1 + 1 + 1 + 1 + 1 + 1 + 1 + 1 + 1 + 1) (fun _ => 0) = e30 at z30 ⊢
  rw [x_sp_id (show shK sh _ (62 + 1 + 1 + 1 + 1 + 1 + 1 + 1 + 1 + 1 + 1 + 1 + 1 + 1 + 1 + 1 + 1 + 1 + 1 + 1 + 1 + 1 + 1 + 1 + 1 + 1 + 1 + 1 + 1) = .inl (0, 24) from shK_at (by decide) rfl)]
  refine x_putRF dX12_init_243 fX_12_99 tX_12_53 (Or.inr ⟨_, rfl⟩) (fun q h => by cases h; rfl) rfl (by omega) shK_62 (Nat.le_of_ble_eq_true rfl) ?_
  rw [shK_put]
  refine x_aload_n dX12_init_246 x_get_1_0 ?_
  refine x_sipush dX12_init_247 rfl ?_
  refine x_newa (len := 248) dX12_init_250 rfl (t := 0) rfl arc_int (Nat.le_of_ble_eq_true rfl) (Nat.le_of_ble_eq_true rfl) (Nat.le_of_ble_eq_true rfl) ?_
  have z31 := zq_new (by omega) z30
  generalize x_up e30 (62 + 1 + 1 + 1 + 1 + 1 + 1 + 1 + 1 + 1 + 1 + 1 + 1 + 1 + 1 + 1 + 1 + 1 + 1 + 1 + 1 + 1 + 1 + 1 + 1 + 1 + 1 + 1 + 1 + 1) (fun _ => 0) = e31 at z31 ⊢
  rw [x_sp_id (show shK sh _ (62 + 1 + 1 + 1 + 1 + 1 + 1 + 1 + 1 + 1 + 1 + 1 + 1 + 1 + 1 + 1 + 1 + 1 + 1 + 1 + 1 + 1 + 1 + 1 + 1 + 1 + 1 + 1 + 1 + 1) = .inl (0, 248) from shK_at (by decide) rfl)]
  refine x_putRF dX12_init_252 fX_12_102 tX_12_54 (Or.inr ⟨_, rfl⟩) (fun q h => by cases h; rfl) rfl (by omega) shK_62 (Nat.le_of_ble_eq_true rfl) ?_
  rw [shK_put]
  refine x_aload_n dX12_init_255 x_get_1_0 ?_
  refine x_sipush dX12_init_256 rfl ?_
  refine x_newa (len := 24800) dX12_init_259 rfl (t := 0) rfl arc_int (Nat.le_of_ble_eq_true rfl) (Nat.le_of_ble_eq_true rfl) (Nat.le_of_ble_eq_true rfl) ?_
  have z32 := zq_new (by omega) z31
  generalize x_up e31 (62 + 1 + 1 + 1 + 1 + 1 + 1 + 1 + 1 + 1 + 1 + 1 + 1 + 1 + 1 + 1 + 1 + 1 + 1 + 1 + 1 + 1 + 1 + 1 + 1 + 1 + 1 + 1 + 1 + 1 + 1) (fun _ => 0) = e32 at z32 ⊢
  rw [x_sp_id (show shK sh _ (62 + 1 + 1 + 1 + 1 + 1 + 1 + 1 + 1 + 1 + 1 + 1 + 1 + 1 + 1 + 1 + 1 + 1 + 1 + 1 + 1 + 1 + 1 + 1 + 1 + 1 + 1 + 1 + 1 + 1 + 1) = .inl (0, 24800) from shK_at (by decide) rfl)]
  refine x_putRF dX12_init_261 fX_12_105 tX_12_55 (Or.inr ⟨_, rfl⟩) (fun q h => by cases h; rfl) rfl (by omega) shK_62 (Nat.le_of_ble_eq_true rfl) ?_
  rw [shK_put]
  refine x_aload_n dX12_init_264 x_get_1_0 ?_
  refine x_bipush dX12_init_265 rfl ?_
  refine x_newa (len := 85) dX12_init_267 rfl (t := 0) rfl arc_int (Nat.le_of_ble_eq_true rfl) (Nat.le_of_ble_eq_true rfl) (Nat.le_of_ble_eq_true rfl) ?_
  have z33 := zq_new (by omega) z32
  generalize x_up e32 (62 + 1 + 1 + 1 + 1 + 1 + 1 + 1 + 1 + 1 + 1 + 1 + 1 + 1 + 1 + 1 + 1 + 1 + 1 + 1 + 1 + 1 + 1 + 1 + 1 + 1 + 1 + 1 + 1 + 1 + 1 + 1) (fun _ => 0) = e33 at z33 ⊢
  rw [x_sp_id (show shK sh _ (62 + 1 + 1 + 1 + 1 + 1 + 1 + 1 + 1 + 1 + 1 + 1 + 1 + 1 + 1 + 1 + 1 + 1 + 1 + 1 + 1 + 1 + 1 + 1 + 1 + 1 + 1 + 1 + 1 + 1 + 1 + 1) = .inl (0, 85) from shK_at (by decide) rfl)]
  refine x_putRF dX12_init_269 fX_12_108 tX_12_60 (Or.inr ⟨_, rfl⟩) (fun q h => by cases h; rfl) rfl (by omega) shK_62 (Nat.le_of_ble_eq_true rfl) ?_
  rw [shK_put]
  refine x_aload_n dX12_init_272 x_get_1_0 ?_
  refine x_sipush dX12_init_273 rfl ?_
  refine x_newa (len := 3400) dX12_init_276 rfl (t := 0) rfl arc_int (Nat.le_of_ble_eq_true rfl) (Nat.le_of_ble_eq_true rfl) (Nat.le_of_ble_eq_true rfl) ?_
  have z34 := zq_new (by omega) z33
  generalize x_up e33 (62 + 1 + 1 + 1 + 1 + 1 + 1 + 1 + 1 + 1 + 1 + 1 + 1 + 1 + 1 + 1 + 1 + 1 + 1 + 1 + 1 + 1 + 1 + 1 + 1 + 1 + 1 + 1 + 1 + 1 + 1 + 1 + 1) (fun _ => 0) = e34 at z34 ⊢
  rw [x_sp_id (show shK sh _ (62 + 1 + 1 + 1 + 1 + 1 + 1 + 1 + 1 + 1 + 1 + 1 + 1 + 1 + 1 + 1 + 1 + 1 + 1 + 1 + 1 + 1 + 1 + 1 + 1 + 1 + 1 + 1 + 1 + 1 + 1 + 1 + 1) = .inl (0, 3400) from shK_at (by decide) rfl)]
  refine x_putRF dX12_init_278 fX_12_111 tX_12_61 (Or.inr ⟨_, rfl⟩) (fun q h => by cases h; rfl) rfl (by omega) shK_62 (Nat.le_of_ble_eq_true rfl) ?_
  rw [shK_put]
  refine x_aload_n dX12_init_281 x_get_1_0 ?_
  refine x_bipush dX12_init_282 rfl ?_
  refine x_newa (len := 24) dX12_init_284 rfl (t := 0) rfl arc_int (Nat.le_of_ble_eq_true rfl) (Nat.le_of_ble_eq_true rfl) (Nat.le_of_ble_eq_true rfl) ?_
  have z35 := zq_new (by omega) z34
  generalize x_up e34 (62 + 1 + 1 + 1 + 1 + 1 + 1 + 1 + 1 + 1 + 1 + 1 + 1 + 1 + 1 + 1 + 1 + 1 + 1 + 1 + 1 + 1 + 1 + 1 + 1 + 1 + 1 + 1 + 1 + 1 + 1 + 1 + 1 + 1) (fun _ => 0) = e35 at z35 ⊢
  rw [x_sp_id (show shK sh _ (62 + 1 + 1 + 1 + 1 + 1 + 1 + 1 + 1 + 1 + 1 + 1 + 1 + 1 + 1 + 1 + 1 + 1 + 1 + 1 + 1 + 1 + 1 + 1 + 1 + 1 + 1 + 1 + 1 + 1 + 1 + 1 + 1 + 1) = .inl (0, 24) from shK_at (by decide) rfl)]
  refine x_putRF dX12_init_286 fX_12_114 tX_12_62 (Or.inr ⟨_, rfl⟩) (fun q h => by cases h; rfl) rfl (by omega) shK_62 (Nat.le_of_ble_eq_true rfl) ?_
  rw [shK_put]
  exact x_vret dX12_init_289 rfl (Nat.le_of_ble_eq_true rfl) (Nat.le_of_ble_eq_true rfl) rfl rfl rfl z35 rfl
end L53
