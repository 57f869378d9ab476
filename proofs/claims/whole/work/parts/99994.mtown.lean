section M99994
/-! ===== the Model's lines: towns ===== -/
theorem w_12_239 : x_cv RX12 239 yX12_number cX12_number 4 (some .int) 12 2 := ⟨⟨_, rfl, rfl⟩, (x_in 1594 (by decide +kernel) rfl), (x_in 1596 (by decide +kernel) rfl), (x_in 25 (by decide +kernel) rfl), (x_in 90 (by decide +kernel) rfl), (x_in 1597 (by decide +kernel) rfl), by decide, ⟨by decide +kernel, by decide +kernel, by decide +kernel⟩⟩
def lf (D d : xM) : Prop := (∀ j, j ≠ 62 → (j < 72 ∨ 81 < j) → d j = D j) ∧ (∀ i, i ≠ 14 → i ≠ 15 → (i < 18 ∨ 31 < i) → d 62 i = D 62 i) ∧ fx D d
theorem lf_rf {D : xM} : lf D D := ⟨fun _ _ _ => rfl, fun _ _ _ _ => rfl, fx_eq rfl rfl⟩
theorem lf_tr {D d e : xM} (h : lf D d) (h2 : lf d e) : lf D e := ⟨fun j a c => (h2.1 j a c).trans (h.1 j a c), fun i a c f => (h2.2.1 i a c f).trans (h.2.1 i a c f), fx_tr h.2.2 h2.2.2⟩
theorem lf_gf {D d : xM} (h : gf D d) : lf D d := ⟨fun j a _ => h.1 j a, fun i _ _ c => h.2 i (c.imp id (fun x => by omega)), fx_eq (h.2 14 (by decide)) (h.2 15 (by decide))⟩
theorem lf_mfa {b : Int → Int} {n : Nat} {D d : xM} {z : Int × Nat} (h : mfa b n D z d) (hz : 1 ≤ z.1 ∧ z.1 ≤ 5) : lf D d := ⟨fun j a _ => h.1 j a, fun i a c f => h.2.1 i a c (f.imp id (fun x => by omega)), fx_no (by rw [h.2.2.1]; omega)⟩
theorem lf_mwf {D : xM} {w s : Int} (hz : 1 ≤ w ∧ w ≤ 5) : lf D (mwf w s D) := ⟨fun j a _ => x_up_n a, fun i a c _ => by unfold mwf; rw [x_up_s, x_u1_n c, x_u1_n a], fx_no (by rw [mwf_14]; omega)⟩
theorem lf_xf {D d : xM} (h : xf D d) : lf D d := ⟨fun j a c => h.1 j a (by omega) (by omega) (by omega), fun i a c f => h.2.1 i a c (f.imp id (fun x => by omega)) (by omega) (by omega) (by omega), h.2.2⟩
theorem lf_up {D : xM} {j : Nat} {w : Int → Int} (h : 72 ≤ j ∧ j ≤ 81) : lf D (x_up D j w) := ⟨fun k a c => x_up_n (by omega), fun i _ _ _ => by rw [x_up_n (by omega)], fx_eq (by rw [x_up_n (by omega)]) (by rw [x_up_n (by omega)])⟩
theorem lf_62 {D : xM} {i : Int} {v : Int} (h : 18 ≤ i ∧ i ≤ 31) : lf D (x_up D 62 (x_u1 (D 62) i v)) := ⟨fun k a _ => x_up_n a, fun k _ _ c => by rw [x_up_s, x_u1_n (by omega)], fx_eq (by rw [x_up_s, x_u1_n (by omega)]) (by rw [x_up_s, x_u1_n (by omega)])⟩
theorem gf_trn {U d e : xM} (h : gf U d) (h2 : gf d e) : gf U e := ⟨fun j a => (h2.1 j a).trans (h.1 j a), fun i a => (h2.2 i a).trans (h.2 i a)⟩
theorem gf_up {U d : xM} {j : Nat} {i v : Int} (h : gf U d) (hj : j ≠ 62) : gf (x_up U j (x_u1 (U j) i v)) (x_up d j (x_u1 (d j) i v)) := by
  refine ⟨fun k hk => ?_, fun k hk => ?_⟩
  · by_cases e : k = j
    · rw [e, x_up_s, x_up_s, h.1 j hj]
    · rw [x_up_n e, x_up_n e]; exact h.1 k hk
  · rw [x_up_n (Ne.symm hj), x_up_n (Ne.symm hj)]; exact h.2 k hk
theorem gs_up {b : Int → Int} {n q : Nat} {d : xM} {j : Nat} {w : Int → Int} (h : gs b n q d) (hj : j ≠ 62) (hj2 : j ≠ 70) : gs b n q (x_up d j w) := by
  unfold gs mtp at h ⊢
  rw [x_up_n (Ne.symm hj), x_up_n (Ne.symm hj2)]
  exact h
def fz (b : Int → Int) (n : Nat) (z : Int × Nat) (D d : xM) : Prop := lf D d ∧ (1 ≤ z.1 ∧ z.1 ≤ 5) ∧ d 62 14 = z.1 ∧ d 62 15 = (tS b n z.2 : Nat)
theorem fz_up {b : Int → Int} {n : Nat} {z : Int × Nat} {D d : xM} {j : Nat} {w : Int → Int} (h : fz b n z D d) (hj : 72 ≤ j ∧ j ≤ 81) : fz b n z D (x_up d j w) := ⟨lf_tr h.1 (lf_up hj), h.2.1, by rw [x_up_n (by omega)]; exact h.2.2.1, by rw [x_up_n (by omega)]; exact h.2.2.2⟩
theorem fz_of {b : Int → Int} {n : Nat} {z : Int × Nat} {D d e : xM} (hl : lf D d) (h : mfa b n d z e) (hz : 1 ≤ z.1 ∧ z.1 ≤ 5) : fz b n z D e := ⟨lf_tr hl (lf_mfa h hz), hz, h.2.2.1, h.2.2.2⟩
theorem fz_wr {b : Int → Int} {n q : Nat} {w : Int} {D d : xM} (hl : lf D d) (hz : 1 ≤ w ∧ w ≤ 5) : fz b n (w, q) D (mwf w (tS b n q : Nat) d) := ⟨lf_tr hl (lf_mwf hz), hz, mwf_14, by unfold mwf; rw [x_up_s, x_u1_s]⟩
def od (S : Tx) (D : xM) : Prop := match S.2 with
  | none => D 62 28 = -1 ∧ D 62 29 = 0
  | some L => D 62 28 = 0 ∧ D 62 29 = ((cod L ++ [0]).length : Nat) ∧ ecl (cod L ++ [0]) (D 79) ∧ (cod L ++ [0]).length ≤ 1400
theorem od_of {S : Tx} {S1 : xM} {D d : xM} (h : od S D) (h28 : d 62 28 = D 62 28) (h29 : d 62 29 = D 62 29) (h79 : d 79 = D 79) : od (S1, S.2) d := by
  unfold od at h ⊢
  show match S.2 with
    | none => d 62 28 = -1 ∧ d 62 29 = 0
    | some L => d 62 28 = 0 ∧ d 62 29 = ((cod L ++ [0]).length : Nat) ∧ ecl (cod L ++ [0]) (d 79) ∧ (cod L ++ [0]).length ≤ 1400
  rw [h28, h29, h79]
  exact h
def ml (lb : Nat) (S : Tx) (D : xM) : Prop := (D 62 25 = ((S.1 lb 0).toNat : Nat) ∧ D 62 26 = ((S.1 (lb + 3) 0).toNat : Nat) ∧ D 62 27 = ((S.1 lb 1).toNat : Nat)) ∧ (∀ t : Int, 0 ≤ t → t < ((S.1 lb 0).toNat : Nat) → D 72 t = S.1 (lb + 1) t ∧ D 73 t = S.1 (lb + 2) t) ∧ (∀ w : Int, 0 ≤ w → w < ((S.1 (lb + 3) 0).toNat : Nat) → D 74 w = S.1 (lb + 3 + 1) w ∧ D 75 w = S.1 (lb + 3 + 2) w ∧ D 76 w = S.1 (lb + 3 + 3) w ∧ D 77 w = S.1 (lb + 3 + 4) w) ∧ mr (S.1 lb 0).toNat (S.1 lb 1).toNat (S.1 (lb + 14)) (D 78) 0 ∧ od S D
def mlp (b : Int → Int) (n lb : Nat) (r : Rs Tx) (D d : xM) : Prop := match r with
  | .inl z => fz b n z D d
  | .inr w => lf D d ∧ gs b n w.2 d ∧ d 62 14 = 0 ∧ ml lb w.1 d
theorem num_v {b : Int → Int} {n q : Nat} {lo hi : Int} {w : Int × Nat} {D : xM} (h : r_num b n lo hi q = .inr w) (hg : gs b n q D) : D 62 22 = w.1 := by
  unfold r_num at h
  by_cases h1 : tK b n q = 3
  · rw [if_pos h1] at h
    by_cases h2 : ¬ tL b n q ∧ lo ≤ tV b n q ∧ tV b n q ≤ hi
    · rw [if_pos h2] at h
      cases h
      exact hg.2.2.2.2.2.2.1 h1 h2.1
    · rw [if_neg h2] at h; cases h
  · rw [if_neg h1] at h; cases h
theorem ml_tn {lb T : Nat} {S : Tx} {D d : xM} {v1 v2 v3 v4 : Int} (hv : sv lb S.1) (hm : ml lb S D) (hT : T = (S.1 lb 0).toNat) (h8 : T < 8) (hg : gf (x_up (x_up (x_up (x_up (x_up D 78 (x_u1 (D 78) (1 + T) v1)) 78 (x_u1 ((x_up D 78 (x_u1 (D 78) (1 + T) v1)) 78) (9 + T) v2)) 78 (x_u1 ((x_up (x_up D 78 (x_u1 (D 78) (1 + T) v1)) 78 (x_u1 ((x_up D 78 (x_u1 (D 78) (1 + T) v1)) 78) (9 + T) v2)) 78) (17 + T) 0)) 72 (x_u1 (D 72) T v3)) 73 (x_u1 (D 73) T v4)) d) : ml lb (x_tn lb T (v1, v2, v3, v4) S.1, S.2) (x_up d 62 (x_u1 (d 62) 25 (T + 1))) := by
  obtain ⟨⟨m1, m2, m3⟩, m4, m5, m6, m7⟩ := hm
  rw [← hT] at m1 m4 m6
  have c0 : (x_tn lb T (v1, v2, v3, v4) S.1) lb 0 = (T : Int) + 1 := by unfold x_tn; rw [x_up_s, x_u1_s]
  have c0n : ((x_tn lb T (v1, v2, v3, v4) S.1) lb 0).toNat = T + 1 := by rw [c0]; omega
  have c1 : (x_tn lb T (v1, v2, v3, v4) S.1) lb 1 = S.1 lb 1 := by
    unfold x_tn
    rw [x_up_s, x_u1_n (by decide)]
  have c3 : ∀ k : Nat, k = 3 ∨ k = 4 ∨ k = 5 ∨ k = 6 ∨ k = 7 → (x_tn lb T (v1, v2, v3, v4) S.1) (lb + k) = S.1 (lb + k) := by
    intro k hk
    unfold x_tn
    rw [x_up_n (by omega), x_up_n (by omega), x_up_n (by omega), x_up_n (by omega)]
  have ce1 : (x_tn lb T (v1, v2, v3, v4) S.1) (lb + 1) = x_u1 (S.1 (lb + 1)) T v3 := by
    unfold x_tn
    rw [x_up_n (by omega), x_up_n (by omega), x_up_s]
  have ce2 : (x_tn lb T (v1, v2, v3, v4) S.1) (lb + 2) = x_u1 (S.1 (lb + 2)) T v4 := by
    unfold x_tn
    rw [x_up_n (by omega), x_up_s]
  have ce14 : (x_tn lb T (v1, v2, v3, v4) S.1) (lb + 14) = x_u1 (x_u1 (S.1 (lb + 14)) (1 + T) v1) (9 + T) v2 := by
    unfold x_tn
    rw [x_up_n (by omega), x_up_n (by omega), x_up_n (by omega), x_up_s]
  have d72 : d 72 = x_u1 (D 72) T v3 := by rw [hg.1 72 (by decide), x_up_n (by decide), x_up_s]
  have d73 : d 73 = x_u1 (D 73) T v4 := by rw [hg.1 73 (by decide), x_up_s]
  have d78 : d 78 = x_u1 (x_u1 (x_u1 (D 78) (1 + T) v1) (9 + T) v2) (17 + T) 0 := by rw [hg.1 78 (by decide), x_up_n (by decide), x_up_n (by decide), x_up_s, x_up_s, x_up_s]
  have dj : ∀ j : Nat, j = 74 ∨ j = 75 ∨ j = 76 ∨ j = 77 ∨ j = 79 → d j = D j := by
    intro j hj
    rw [hg.1 j (by omega), x_up_n (by omega), x_up_n (by omega), x_up_n (by omega), x_up_n (by omega), x_up_n (by omega)]
  have di : ∀ i : Int, 24 < i → d 62 i = D 62 i := by
    intro i hi
    rw [hg.2 i (Or.inr hi), x_up_n (by decide), x_up_n (by decide), x_up_n (by decide), x_up_n (by decide), x_up_n (by decide)]
  have hz := hv.2.2.2.1
  refine ⟨⟨?_, ?_, ?_⟩, ?_, ?_, ?_, ?_⟩
  · show _ = (((x_tn lb T (v1, v2, v3, v4) S.1) lb 0).toNat : Int)
    rw [c0n, x_up_s, x_u1_s]; push_cast; rfl
  · show _ = (((x_tn lb T (v1, v2, v3, v4) S.1) (lb + 3) 0).toNat : Int)
    rw [c3 3 (by decide), x_up_s, x_u1_n (by decide), di 26 (by decide)]; exact m2
  · show _ = (((x_tn lb T (v1, v2, v3, v4) S.1) lb 1).toNat : Int)
    rw [c1, x_up_s, x_u1_n (by decide), di 27 (by decide)]; exact m3
  · show ∀ t : Int, 0 ≤ t → t < (((x_tn lb T (v1, v2, v3, v4) S.1) lb 0).toNat : Nat) → _ = (x_tn lb T (v1, v2, v3, v4) S.1) (lb + 1) t ∧ _ = (x_tn lb T (v1, v2, v3, v4) S.1) (lb + 2) t
    rw [c0n, ce1, ce2, x_up_n (by decide), x_up_n (by decide), d72, d73]
    intro t h0 h1
    by_cases e : t = T
    · rw [e, x_u1_s, x_u1_s, x_u1_s, x_u1_s]; exact ⟨rfl, rfl⟩
    · rw [x_u1_n e, x_u1_n e, x_u1_n e, x_u1_n e]
      exact m4 t h0 (by omega)
  · show ∀ w : Int, 0 ≤ w → w < (((x_tn lb T (v1, v2, v3, v4) S.1) (lb + 3) 0).toNat : Nat) → _ = (x_tn lb T (v1, v2, v3, v4) S.1) (lb + 4) w ∧ _ = (x_tn lb T (v1, v2, v3, v4) S.1) (lb + 5) w ∧ _ = (x_tn lb T (v1, v2, v3, v4) S.1) (lb + 6) w ∧ _ = (x_tn lb T (v1, v2, v3, v4) S.1) (lb + 7) w
    rw [c3 3 (by decide), c3 4 (by decide), c3 5 (by decide), c3 6 (by decide), c3 7 (by decide), x_up_n (by decide), x_up_n (by decide), x_up_n (by decide), x_up_n (by decide), dj 74 (by decide), dj 75 (by decide), dj 76 (by decide), dj 77 (by decide)]
    exact m5
  · show mr (((x_tn lb T (v1, v2, v3, v4) S.1) lb 0).toNat) (((x_tn lb T (v1, v2, v3, v4) S.1) lb 1).toNat) ((x_tn lb T (v1, v2, v3, v4) S.1) (lb + 14)) _ 0
    rw [c0n, c1, ce14, x_up_n (by decide), d78]
    intro i hi
    rw [Int.zero_add]
    by_cases e3 : i = 17 + T
    · rw [e3, x_u1_s, x_u1_n (by omega), x_u1_n (by omega), hz (17 + T) (by omega)]
    rw [x_u1_n e3]
    by_cases e2 : i = 9 + T
    · rw [e2, x_u1_s, x_u1_s]
    rw [x_u1_n e2, x_u1_n e2]
    by_cases e1 : i = 1 + T
    · rw [e1, x_u1_s, x_u1_s]
    rw [x_u1_n e1, x_u1_n e1]
    have := m6 i (by unfold lv at hi ⊢; push_cast at hi; omega)
    rw [Int.zero_add] at this
    exact this
  · exact od_of m7 (by rw [x_up_s, x_u1_n (by decide)]; exact di 28 (by decide)) (by rw [x_up_s, x_u1_n (by decide)]; exact di 29 (by decide)) (by rw [x_up_n (by decide)]; exact dj 79 (by decide))
set_option maxHeartbeats 1500000 in
theorem tn_f100 {X : xC} {l : Launch} (hl : l.stackTraces = false) {N : Nat} {sh : xS} {D : xM} (hM : is_Md N sh) {b : Int → Int} {n lb T : Nat} {d : xM} (h8 : T < 8) {z : Int × Nat} (hf : fz b n z D d) : x_W (X, l, yX12_readsTown, cX12_readsTown, 2, none, x_room 3 0 0, 0, 0, (.inl none), N, sh, (mlp b n lb (.inl z) D), false, []) 100 [some (.ref (x_b X + 62)), some (.int (xI (T : Int)))] [] 0 0 false N sh d := by
  have s62 := md_62 hM
  have n62 : 62 < N := md_n hM (by decide)
  have s78 := md_78 hM
  have n78 : 78 < N := md_n hM (by decide)
  have s72 := md_72 hM
  have n72 : 72 < N := md_n hM (by decide)
  have s73 := md_73 hM
  have n73 : 73 < N := md_n hM (by decide)
  refine x_aload_n dX12_readsTown_100 x_get_2_0 ?_
  refine x_callV (As := []) dX12_readsTown_101 w_12_176 (m_goodF hl hM hf.2.2.1 hf.2.1) (by assumption) (by assumption) rfl rfl (Nat.le_of_ble_eq_true rfl) (Nat.le_of_ble_eq_true rfl) (Nat.le_of_ble_eq_true rfl) (Nat.le_of_ble_eq_true rfl) (Nat.le_of_ble_eq_true rfl) ?_
  intro d hd
  obtain rfl := Eq.symm hd
  refine r_if_eq (t := 117) dX12_readsTown_104 rfl ⟨by omega, by omega⟩ (fun hc104 => ?_) (fun hc104 => absurd hc104 (by omega))
  exact x_vret dX12_readsTown_117 rfl (Nat.le_of_ble_eq_true rfl) (Nat.le_of_ble_eq_true rfl) rfl rfl rfl hf rfl
set_option maxHeartbeats 1500000 in
theorem tn_f87 {X : xC} {l : Launch} (hl : l.stackTraces = false) {N : Nat} {sh : xS} {D : xM} (hM : is_Md N sh) {b : Int → Int} {n lb T : Nat} {d : xM} (h8 : T < 8) {z : Int × Nat} (hf : fz b n z D d) : x_W (X, l, yX12_readsTown, cX12_readsTown, 2, none, x_room 3 0 0, 0, 0, (.inl none), N, sh, (mlp b n lb (.inl z) D), false, []) 87 [some (.ref (x_b X + 62)), some (.int (xI (T : Int)))] [] 0 0 false N sh d := by
  have s62 := md_62 hM
  have n62 : 62 < N := md_n hM (by decide)
  have s78 := md_78 hM
  have n78 : 78 < N := md_n hM (by decide)
  have s72 := md_72 hM
  have n72 : 72 < N := md_n hM (by decide)
  have s73 := md_73 hM
  have n73 : 73 < N := md_n hM (by decide)
  refine x_aload_n dX12_readsTown_87 x_get_2_0 ?_
  refine x_getR dX12_readsTown_88 fX_12_47 n62 s62 (by rfl) ?_
  refine x_iload_n dX12_readsTown_91 x_get_2_1 ?_
  refine x_aload_n dX12_readsTown_92 x_get_2_0 ?_
  refine x_iconst dX12_readsTown_93 ?_
  refine x_bipush dX12_readsTown_94 rfl ?_
  refine x_callV (As := [_, _]) dX12_readsTown_96 w_12_239 (m_numberF hl hM hf.2.2.1 hf.2.1) (by assumption) (by assumption) rfl rfl (Nat.le_of_ble_eq_true rfl) (Nat.le_of_ble_eq_true rfl) (Nat.le_of_ble_eq_true rfl) (Nat.le_of_ble_eq_true rfl) (Nat.le_of_ble_eq_true rfl) ?_
  intro d hd
  obtain rfl := Eq.symm hd
  refine x_iast dX12_readsTown_99 n73 s73 (by omega) (by omega) (by decide) ?_
  try simp (disch := decide) only [x_up_s, x_up_n, x_up_up, x_u1_s, x_u1_n]
  exact tn_f100 hl hM h8 (fz_up hf (by decide))
set_option maxHeartbeats 1500000 in
theorem tn_f64 {X : xC} {l : Launch} (hl : l.stackTraces = false) {N : Nat} {sh : xS} {D : xM} (hM : is_Md N sh) {b : Int → Int} {n lb T : Nat} {d : xM} (h8 : T < 8) {z : Int × Nat} (hf : fz b n z D d) : x_W (X, l, yX12_readsTown, cX12_readsTown, 2, none, x_room 3 0 0, 0, 0, (.inl none), N, sh, (mlp b n lb (.inl z) D), false, []) 64 [some (.ref (x_b X + 62)), some (.int (xI (T : Int)))] [] 0 0 false N sh d := by
  have s62 := md_62 hM
  have n62 : 62 < N := md_n hM (by decide)
  have s78 := md_78 hM
  have n78 : 78 < N := md_n hM (by decide)
  have s72 := md_72 hM
  have n72 : 72 < N := md_n hM (by decide)
  have s73 := md_73 hM
  have n73 : 73 < N := md_n hM (by decide)
  have hf2 : fz b n z D (x_up d 78 (x_u1 (d 78) (17 + T) 0)) := fz_up hf (by decide)
  refine x_aload_n dX12_readsTown_64 x_get_2_0 ?_
  refine x_getR dX12_readsTown_65 fX_12_62 n62 s62 (by rfl) ?_
  refine x_bipush dX12_readsTown_68 rfl ?_
  refine x_iload_n dX12_readsTown_70 x_get_2_1 ?_
  refine x_iadd dX12_readsTown_71 ?_
  refine x_iconst dX12_readsTown_72 ?_
  refine x_iast dX12_readsTown_73 n78 s78 (by omega) (by omega) (by decide) ?_
  try simp (disch := decide) only [x_up_s, x_up_n, x_up_up, x_u1_s, x_u1_n]
  refine x_aload_n dX12_readsTown_74 x_get_2_0 ?_
  refine x_getR dX12_readsTown_75 fX_12_44 n62 s62 (by rfl) ?_
  refine x_iload_n dX12_readsTown_78 x_get_2_1 ?_
  refine x_aload_n dX12_readsTown_79 x_get_2_0 ?_
  refine x_iconst dX12_readsTown_80 ?_
  refine x_bipush dX12_readsTown_81 rfl ?_
  refine x_callV (As := [_, _]) dX12_readsTown_83 w_12_239 (m_numberF hl hM hf2.2.2.1 hf2.2.1) (by assumption) (by assumption) rfl rfl (Nat.le_of_ble_eq_true rfl) (Nat.le_of_ble_eq_true rfl) (Nat.le_of_ble_eq_true rfl) (Nat.le_of_ble_eq_true rfl) (Nat.le_of_ble_eq_true rfl) ?_
  intro d hd
  obtain rfl := Eq.symm hd
  refine x_iast dX12_readsTown_86 n72 s72 (by omega) (by omega) (by decide) ?_
  try simp (disch := decide) only [x_up_s, x_up_n, x_up_up, x_u1_s, x_u1_n]
  exact tn_f87 hl hM h8 (fz_up hf2 (by decide))
set_option maxHeartbeats 1500000 in
theorem tn_f47 {X : xC} {l : Launch} (hl : l.stackTraces = false) {N : Nat} {sh : xS} {D : xM} (hM : is_Md N sh) {b : Int → Int} {n lb T : Nat} {d : xM} (h8 : T < 8) {z : Int × Nat} (hf : fz b n z D d) : x_W (X, l, yX12_readsTown, cX12_readsTown, 2, none, x_room 3 0 0, 0, 0, (.inl none), N, sh, (mlp b n lb (.inl z) D), false, []) 47 [some (.ref (x_b X + 62)), some (.int (xI (T : Int)))] [] 0 0 false N sh d := by
  have s62 := md_62 hM
  have n62 : 62 < N := md_n hM (by decide)
  have s78 := md_78 hM
  have n78 : 78 < N := md_n hM (by decide)
  have s72 := md_72 hM
  have n72 : 72 < N := md_n hM (by decide)
  have s73 := md_73 hM
  have n73 : 73 < N := md_n hM (by decide)
  refine x_aload_n dX12_readsTown_47 x_get_2_0 ?_
  refine x_getR dX12_readsTown_48 fX_12_62 n62 s62 (by rfl) ?_
  refine x_bipush dX12_readsTown_51 rfl ?_
  refine x_iload_n dX12_readsTown_53 x_get_2_1 ?_
  refine x_iadd dX12_readsTown_54 ?_
  refine x_aload_n dX12_readsTown_55 x_get_2_0 ?_
  refine x_iconst dX12_readsTown_56 ?_
  refine x_sipush dX12_readsTown_57 rfl ?_
  refine x_callV (As := [_, _]) dX12_readsTown_60 w_12_239 (m_numberF hl hM hf.2.2.1 hf.2.1) (by assumption) (by assumption) rfl rfl (Nat.le_of_ble_eq_true rfl) (Nat.le_of_ble_eq_true rfl) (Nat.le_of_ble_eq_true rfl) (Nat.le_of_ble_eq_true rfl) (Nat.le_of_ble_eq_true rfl) ?_
  intro d hd
  obtain rfl := Eq.symm hd
  refine x_iast dX12_readsTown_63 n78 s78 (by omega) (by omega) (by decide) ?_
  try simp (disch := decide) only [x_up_s, x_up_n, x_up_up, x_u1_s, x_u1_n]
  exact tn_f64 hl hM h8 (fz_up hf (by decide))
theorem gs_25 {b : Int → Int} {n q : Nat} {d : xM} {i v : Int} (h : gs b n q d) (hi : 24 < i := by decide) : gs b n q (x_up d 62 (x_u1 (d 62) i v)) := by
  unfold gs mtp at h ⊢
  rw [x_up_s, x_up_n (by decide), x_u1_n (by omega), x_u1_n (by omega), x_u1_n (by omega), x_u1_n (by omega), x_u1_n (by omega), x_u1_n (by omega), x_u1_n (by omega), x_u1_n (by omega)]
  exact h
set_option maxHeartbeats 1500000 in
theorem tn_g100 {X : xC} {l : Launch} (hl : l.stackTraces = false) {N : Nat} {sh : xS} {D : xM} (hM : is_Md N sh) {b : Int → Int} {n lb T : Nat} {d : xM} (h8 : T < 8) {S : Tx} {R : Rs Tx} (hv : sv lb S.1) (hm : ml lb S D) (hT : T = (S.1 lb 0).toNat) {v1 : Int} {v2 : Int} {v3 : Int} {v4 : Int} {q4 : Nat} (hg : gs b n q4 d) (h14 : d 62 14 = 0) (hu : gf (x_up (x_up (x_up (x_up (x_up D 78 (x_u1 (D 78) (1 + T) v1)) 78 (x_u1 ((x_up D 78 (x_u1 (D 78) (1 + T) v1)) 78) (9 + T) v2)) 78 (x_u1 ((x_up (x_up D 78 (x_u1 (D 78) (1 + T) v1)) 78 (x_u1 ((x_up D 78 (x_u1 (D 78) (1 + T) v1)) 78) (9 + T) v2)) 78) (17 + T) 0)) 72 (x_u1 ((x_up (x_up (x_up D 78 (x_u1 (D 78) (1 + T) v1)) 78 (x_u1 ((x_up D 78 (x_u1 (D 78) (1 + T) v1)) 78) (9 + T) v2)) 78 (x_u1 ((x_up (x_up D 78 (x_u1 (D 78) (1 + T) v1)) 78 (x_u1 ((x_up D 78 (x_u1 (D 78) (1 + T) v1)) 78) (9 + T) v2)) 78) (17 + T) 0)) 72) T v3)) 73 (x_u1 ((x_up (x_up (x_up (x_up D 78 (x_u1 (D 78) (1 + T) v1)) 78 (x_u1 ((x_up D 78 (x_u1 (D 78) (1 + T) v1)) 78) (9 + T) v2)) 78 (x_u1 ((x_up (x_up D 78 (x_u1 (D 78) (1 + T) v1)) 78 (x_u1 ((x_up D 78 (x_u1 (D 78) (1 + T) v1)) 78) (9 + T) v2)) 78) (17 + T) 0)) 72 (x_u1 ((x_up (x_up (x_up D 78 (x_u1 (D 78) (1 + T) v1)) 78 (x_u1 ((x_up D 78 (x_u1 (D 78) (1 + T) v1)) 78) (9 + T) v2)) 78 (x_u1 ((x_up (x_up D 78 (x_u1 (D 78) (1 + T) v1)) 78 (x_u1 ((x_up D 78 (x_u1 (D 78) (1 + T) v1)) 78) (9 + T) v2)) 78) (17 + T) 0)) 72) T v3)) 73) T v4)) d) (hlf : lf D d) (hR : R = .inr ((x_tn lb T (v1, v2, v3, v4) S.1, S.2), q4)) : x_W (X, l, yX12_readsTown, cX12_readsTown, 2, none, x_room 3 0 0, 0, 0, (.inl none), N, sh, (mlp b n lb R D), false, []) 100 [some (.ref (x_b X + 62)), some (.int (xI (T : Int)))] [] 0 0 false N sh d := by
  have s62 := md_62 hM
  have n62 : 62 < N := md_n hM (by decide)
  have s78 := md_78 hM
  have n78 : 78 < N := md_n hM (by decide)
  have s72 := md_72 hM
  have n72 : 72 < N := md_n hM (by decide)
  have s73 := md_73 hM
  have n73 : 73 < N := md_n hM (by decide)
  have hu2 : gf (x_up (x_up (x_up (x_up (x_up D 78 (x_u1 (D 78) (1 + T) v1)) 78 (x_u1 ((x_up D 78 (x_u1 (D 78) (1 + T) v1)) 78) (9 + T) v2)) 78 (x_u1 ((x_up (x_up D 78 (x_u1 (D 78) (1 + T) v1)) 78 (x_u1 ((x_up D 78 (x_u1 (D 78) (1 + T) v1)) 78) (9 + T) v2)) 78) (17 + T) 0)) 72 (x_u1 (D 72) T v3)) 73 (x_u1 (D 73) T v4)) d := hu
  have h25 : d 62 25 = (T : Int) := by
    rw [hu.2 25 (by decide), x_up_n (by decide), x_up_n (by decide), x_up_n (by decide), x_up_n (by decide), x_up_n (by decide), hm.1.1, hT]
  rw [hR]
  refine x_aload_n dX12_readsTown_100 x_get_2_0 ?_
  refine x_callV (As := []) dX12_readsTown_101 w_12_176 (m_good hl hM h14) (by assumption) (by assumption) rfl rfl (Nat.le_of_ble_eq_true rfl) (Nat.le_of_ble_eq_true rfl) (Nat.le_of_ble_eq_true rfl) (Nat.le_of_ble_eq_true rfl) (Nat.le_of_ble_eq_true rfl) ?_
  intro d hd
  obtain rfl := Eq.symm hd
  refine r_if_eq (t := 117) dX12_readsTown_104 rfl ⟨by omega, by omega⟩ (fun hc104 => absurd hc104 (by omega)) (fun hc104 => ?_)
  refine x_aload_n dX12_readsTown_107 x_get_2_0 ?_
  refine x_dup dX12_readsTown_108 rfl ?_
  refine x_getI 25 dX12_readsTown_109 fX_12_236 rfl n62 s62 (by rfl) ?_
  try simp (disch := decide) only [x_up_s, x_up_n, x_up_up, x_u1_s, x_u1_n, h25]
  refine x_iconst dX12_readsTown_112 ?_
  refine x_iadd dX12_readsTown_113 ?_
  refine x_putI 25 dX12_readsTown_114 fX_12_236 rfl tX_12_25 n62 s62 (by rfl) ?_
  try simp (disch := decide) only [x_up_s, x_up_n, x_up_up, x_u1_s, x_u1_n, h25]
  exact x_vret dX12_readsTown_117 rfl (Nat.le_of_ble_eq_true rfl) (Nat.le_of_ble_eq_true rfl) rfl rfl rfl ⟨lf_tr hlf (lf_62 (by decide)), gs_25 hg, by rw [x_up_s, x_u1_n (by decide)]; exact h14, ml_tn hv hm hT h8 hu2⟩ rfl
set_option maxHeartbeats 1500000 in
theorem tn_g87 {X : xC} {l : Launch} (hl : l.stackTraces = false) {N : Nat} {sh : xS} {D : xM} (hM : is_Md N sh) {b : Int → Int} {n lb T : Nat} {d : xM} (h8 : T < 8) {S : Tx} {R : Rs Tx} (hv : sv lb S.1) (hm : ml lb S D) (hT : T = (S.1 lb 0).toNat) {v1 : Int} {v2 : Int} {v3 : Int} {q3 : Nat} (hg : gs b n q3 d) (h14 : d 62 14 = 0) (hu : gf (x_up (x_up (x_up (x_up D 78 (x_u1 (D 78) (1 + T) v1)) 78 (x_u1 ((x_up D 78 (x_u1 (D 78) (1 + T) v1)) 78) (9 + T) v2)) 78 (x_u1 ((x_up (x_up D 78 (x_u1 (D 78) (1 + T) v1)) 78 (x_u1 ((x_up D 78 (x_u1 (D 78) (1 + T) v1)) 78) (9 + T) v2)) 78) (17 + T) 0)) 72 (x_u1 ((x_up (x_up (x_up D 78 (x_u1 (D 78) (1 + T) v1)) 78 (x_u1 ((x_up D 78 (x_u1 (D 78) (1 + T) v1)) 78) (9 + T) v2)) 78 (x_u1 ((x_up (x_up D 78 (x_u1 (D 78) (1 + T) v1)) 78 (x_u1 ((x_up D 78 (x_u1 (D 78) (1 + T) v1)) 78) (9 + T) v2)) 78) (17 + T) 0)) 72) T v3)) d) (hlf : lf D d) (hR : R = r_bd (r_bd (r_num b n 0 20 q3) (fun v4 q4 => .inr ((v1, v2, v3, v4), q4))) (fun v q1 => .inr ((x_tn lb T v S.1, S.2), q1))) : x_W (X, l, yX12_readsTown, cX12_readsTown, 2, none, x_room 3 0 0, 0, 0, (.inl none), N, sh, (mlp b n lb R D), false, []) 87 [some (.ref (x_b X + 62)), some (.int (xI (T : Int)))] [] 0 0 false N sh d := by
  have s62 := md_62 hM
  have n62 : 62 < N := md_n hM (by decide)
  have s78 := md_78 hM
  have n78 : 78 < N := md_n hM (by decide)
  have s72 := md_72 hM
  have n72 : 72 < N := md_n hM (by decide)
  have s73 := md_73 hM
  have n73 : 73 < N := md_n hM (by decide)
  obtain ⟨r, hr⟩ : ∃ r, r_num b n 0 20 q3 = r := ⟨_, rfl⟩
  have hnum := m_number (X := X) (l := l) hl hM hg h14 (lo := 0) (hi := 20) ⟨by decide, by decide⟩ ⟨by decide, by decide⟩
  rw [hr] at hnum hR
  have hkd := kd_num (b := b) (n := n) (q := q3) (lo := 0) (hi := 20)
  cases r with
  | inl z =>
    rw [show R = .inl z from hR]
    refine x_aload_n dX12_readsTown_87 x_get_2_0 ?_
    refine x_getR dX12_readsTown_88 fX_12_47 n62 s62 (by rfl) ?_
    refine x_iload_n dX12_readsTown_91 x_get_2_1 ?_
    refine x_aload_n dX12_readsTown_92 x_get_2_0 ?_
    refine x_iconst dX12_readsTown_93 ?_
    refine x_bipush dX12_readsTown_94 rfl ?_
    refine x_callV (As := [_, _]) dX12_readsTown_96 w_12_239 (hnum) (by assumption) (by assumption) rfl rfl (Nat.le_of_ble_eq_true rfl) (Nat.le_of_ble_eq_true rfl) (Nat.le_of_ble_eq_true rfl) (Nat.le_of_ble_eq_true rfl) (Nat.le_of_ble_eq_true rfl) ?_
    intro d2 hp
    refine x_iast dX12_readsTown_99 n73 s73 (by omega) (by omega) (by decide) ?_
    try simp (disch := decide) only [x_up_s, x_up_n, x_up_up, x_u1_s, x_u1_n]
    exact tn_f100 hl hM h8 (fz_up (fz_of hlf hp (hkd z hr)) (by decide))
  | inr w =>
    obtain ⟨v4, q4⟩ := w
    have hvv := num_v hr hg
    rw [hvv] at hnum
    refine x_aload_n dX12_readsTown_87 x_get_2_0 ?_
    refine x_getR dX12_readsTown_88 fX_12_47 n62 s62 (by rfl) ?_
    refine x_iload_n dX12_readsTown_91 x_get_2_1 ?_
    refine x_aload_n dX12_readsTown_92 x_get_2_0 ?_
    refine x_iconst dX12_readsTown_93 ?_
    refine x_bipush dX12_readsTown_94 rfl ?_
    refine x_callV (As := [_, _]) dX12_readsTown_96 w_12_239 (hnum) (by assumption) (by assumption) rfl rfl (Nat.le_of_ble_eq_true rfl) (Nat.le_of_ble_eq_true rfl) (Nat.le_of_ble_eq_true rfl) (Nat.le_of_ble_eq_true rfl) (Nat.le_of_ble_eq_true rfl) ?_
    rintro d2 ⟨hp1, hp2⟩
    refine x_iast dX12_readsTown_99 n73 s73 (by omega) (by omega) (by decide) ?_
    try simp (disch := decide) only [x_up_s, x_up_n, x_up_up, x_u1_s, x_u1_n]
    exact tn_g100 hl hM h8 hv hm hT (gs_up hp1 (by decide) (by decide)) (by rw [x_up_n (by decide), hp2.2 14 (by decide)]; exact h14) (gf_up (j := 73) (gf_trn hu hp2) (by decide)) (lf_tr hlf (lf_tr (lf_gf hp2) (lf_up (by decide)))) hR
set_option maxHeartbeats 1500000 in
theorem tn_g64 {X : xC} {l : Launch} (hl : l.stackTraces = false) {N : Nat} {sh : xS} {D : xM} (hM : is_Md N sh) {b : Int → Int} {n lb T : Nat} {d : xM} (h8 : T < 8) {S : Tx} {R : Rs Tx} (hv : sv lb S.1) (hm : ml lb S D) (hT : T = (S.1 lb 0).toNat) {v1 : Int} {v2 : Int} {q2 : Nat} (hg : gs b n q2 d) (h14 : d 62 14 = 0) (hu : gf (x_up (x_up D 78 (x_u1 (D 78) (1 + T) v1)) 78 (x_u1 ((x_up D 78 (x_u1 (D 78) (1 + T) v1)) 78) (9 + T) v2)) d) (hlf : lf D d) (hR : R = r_bd (r_bd (r_num b n 0 20 q2) (fun v3 q3 => r_bd (r_num b n 0 20 q3) (fun v4 q4 => .inr ((v1, v2, v3, v4), q4)))) (fun v q1 => .inr ((x_tn lb T v S.1, S.2), q1))) : x_W (X, l, yX12_readsTown, cX12_readsTown, 2, none, x_room 3 0 0, 0, 0, (.inl none), N, sh, (mlp b n lb R D), false, []) 64 [some (.ref (x_b X + 62)), some (.int (xI (T : Int)))] [] 0 0 false N sh d := by
  have s62 := md_62 hM
  have n62 : 62 < N := md_n hM (by decide)
  have s78 := md_78 hM
  have n78 : 78 < N := md_n hM (by decide)
  have s72 := md_72 hM
  have n72 : 72 < N := md_n hM (by decide)
  have s73 := md_73 hM
  have n73 : 73 < N := md_n hM (by decide)
  have hg0 := hg
  have hg : gs b n q2 (x_up d 78 (x_u1 (d 78) (17 + T) 0)) := gs_up hg0 (by decide) (by decide)
  have h140 : (x_up d 78 (x_u1 (d 78) (17 + T) 0)) 62 14 = 0 := by rw [x_up_n (by decide)]; exact h14
  have hu0 := gf_up (j := 78) (i := 17 + T) (v := 0) hu (by decide)
  have hlf0 : lf D (x_up d 78 (x_u1 (d 78) (17 + T) 0)) := lf_tr hlf (lf_up (by decide))
  obtain ⟨r, hr⟩ : ∃ r, r_num b n 0 20 q2 = r := ⟨_, rfl⟩
  have hnum := m_number (X := X) (l := l) hl hM hg h140 (lo := 0) (hi := 20) ⟨by decide, by decide⟩ ⟨by decide, by decide⟩
  rw [hr] at hnum hR
  have hkd := kd_num (b := b) (n := n) (q := q2) (lo := 0) (hi := 20)
  cases r with
  | inl z =>
    rw [show R = .inl z from hR]
    refine x_aload_n dX12_readsTown_64 x_get_2_0 ?_
    refine x_getR dX12_readsTown_65 fX_12_62 n62 s62 (by rfl) ?_
    refine x_bipush dX12_readsTown_68 rfl ?_
    refine x_iload_n dX12_readsTown_70 x_get_2_1 ?_
    refine x_iadd dX12_readsTown_71 ?_
    refine x_iconst dX12_readsTown_72 ?_
    refine x_iast dX12_readsTown_73 n78 s78 (by omega) (by omega) (by decide) ?_
    try simp (disch := decide) only [x_up_s, x_up_n, x_up_up, x_u1_s, x_u1_n]
    refine x_aload_n dX12_readsTown_74 x_get_2_0 ?_
    refine x_getR dX12_readsTown_75 fX_12_44 n62 s62 (by rfl) ?_
    refine x_iload_n dX12_readsTown_78 x_get_2_1 ?_
    refine x_aload_n dX12_readsTown_79 x_get_2_0 ?_
    refine x_iconst dX12_readsTown_80 ?_
    refine x_bipush dX12_readsTown_81 rfl ?_
    refine x_callV (As := [_, _]) dX12_readsTown_83 w_12_239 (hnum) (by assumption) (by assumption) rfl rfl (Nat.le_of_ble_eq_true rfl) (Nat.le_of_ble_eq_true rfl) (Nat.le_of_ble_eq_true rfl) (Nat.le_of_ble_eq_true rfl) (Nat.le_of_ble_eq_true rfl) ?_
    intro d2 hp
    refine x_iast dX12_readsTown_86 n72 s72 (by omega) (by omega) (by decide) ?_
    try simp (disch := decide) only [x_up_s, x_up_n, x_up_up, x_u1_s, x_u1_n]
    exact tn_f87 hl hM h8 (fz_up (fz_of hlf0 hp (hkd z hr)) (by decide))
  | inr w =>
    obtain ⟨v3, q3⟩ := w
    have hvv := num_v hr hg
    rw [hvv] at hnum
    refine x_aload_n dX12_readsTown_64 x_get_2_0 ?_
    refine x_getR dX12_readsTown_65 fX_12_62 n62 s62 (by rfl) ?_
    refine x_bipush dX12_readsTown_68 rfl ?_
    refine x_iload_n dX12_readsTown_70 x_get_2_1 ?_
    refine x_iadd dX12_readsTown_71 ?_
    refine x_iconst dX12_readsTown_72 ?_
    refine x_iast dX12_readsTown_73 n78 s78 (by omega) (by omega) (by decide) ?_
    try simp (disch := decide) only [x_up_s, x_up_n, x_up_up, x_u1_s, x_u1_n]
    refine x_aload_n dX12_readsTown_74 x_get_2_0 ?_
    refine x_getR dX12_readsTown_75 fX_12_44 n62 s62 (by rfl) ?_
    refine x_iload_n dX12_readsTown_78 x_get_2_1 ?_
    refine x_aload_n dX12_readsTown_79 x_get_2_0 ?_
    refine x_iconst dX12_readsTown_80 ?_
    refine x_bipush dX12_readsTown_81 rfl ?_
    refine x_callV (As := [_, _]) dX12_readsTown_83 w_12_239 (hnum) (by assumption) (by assumption) rfl rfl (Nat.le_of_ble_eq_true rfl) (Nat.le_of_ble_eq_true rfl) (Nat.le_of_ble_eq_true rfl) (Nat.le_of_ble_eq_true rfl) (Nat.le_of_ble_eq_true rfl) ?_
    rintro d2 ⟨hp1, hp2⟩
    refine x_iast dX12_readsTown_86 n72 s72 (by omega) (by omega) (by decide) ?_
    try simp (disch := decide) only [x_up_s, x_up_n, x_up_up, x_u1_s, x_u1_n]
    exact tn_g87 hl hM h8 hv hm hT (gs_up hp1 (by decide) (by decide)) (by rw [x_up_n (by decide), hp2.2 14 (by decide)]; exact h140) (gf_up (j := 72) (gf_trn hu0 hp2) (by decide)) (lf_tr hlf0 (lf_tr (lf_gf hp2) (lf_up (by decide)))) hR
set_option maxHeartbeats 1500000 in
theorem tn_g47 {X : xC} {l : Launch} (hl : l.stackTraces = false) {N : Nat} {sh : xS} {D : xM} (hM : is_Md N sh) {b : Int → Int} {n lb T : Nat} {d : xM} (h8 : T < 8) {S : Tx} {R : Rs Tx} (hv : sv lb S.1) (hm : ml lb S D) (hT : T = (S.1 lb 0).toNat) {v1 : Int} {q1 : Nat} (hg : gs b n q1 d) (h14 : d 62 14 = 0) (hu : gf (x_up D 78 (x_u1 (D 78) (1 + T) v1)) d) (hlf : lf D d) (hR : R = r_bd (r_bd (r_num b n 0 999 q1) (fun v2 q2 => r_bd (r_num b n 0 20 q2) (fun v3 q3 => r_bd (r_num b n 0 20 q3) (fun v4 q4 => .inr ((v1, v2, v3, v4), q4))))) (fun v q1 => .inr ((x_tn lb T v S.1, S.2), q1))) : x_W (X, l, yX12_readsTown, cX12_readsTown, 2, none, x_room 3 0 0, 0, 0, (.inl none), N, sh, (mlp b n lb R D), false, []) 47 [some (.ref (x_b X + 62)), some (.int (xI (T : Int)))] [] 0 0 false N sh d := by
  have s62 := md_62 hM
  have n62 : 62 < N := md_n hM (by decide)
  have s78 := md_78 hM
  have n78 : 78 < N := md_n hM (by decide)
  have s72 := md_72 hM
  have n72 : 72 < N := md_n hM (by decide)
  have s73 := md_73 hM
  have n73 : 73 < N := md_n hM (by decide)
  obtain ⟨r, hr⟩ : ∃ r, r_num b n 0 999 q1 = r := ⟨_, rfl⟩
  have hnum := m_number (X := X) (l := l) hl hM hg h14 (lo := 0) (hi := 999) ⟨by decide, by decide⟩ ⟨by decide, by decide⟩
  rw [hr] at hnum hR
  have hkd := kd_num (b := b) (n := n) (q := q1) (lo := 0) (hi := 999)
  cases r with
  | inl z =>
    rw [show R = .inl z from hR]
    refine x_aload_n dX12_readsTown_47 x_get_2_0 ?_
    refine x_getR dX12_readsTown_48 fX_12_62 n62 s62 (by rfl) ?_
    refine x_bipush dX12_readsTown_51 rfl ?_
    refine x_iload_n dX12_readsTown_53 x_get_2_1 ?_
    refine x_iadd dX12_readsTown_54 ?_
    refine x_aload_n dX12_readsTown_55 x_get_2_0 ?_
    refine x_iconst dX12_readsTown_56 ?_
    refine x_sipush dX12_readsTown_57 rfl ?_
    refine x_callV (As := [_, _]) dX12_readsTown_60 w_12_239 (hnum) (by assumption) (by assumption) rfl rfl (Nat.le_of_ble_eq_true rfl) (Nat.le_of_ble_eq_true rfl) (Nat.le_of_ble_eq_true rfl) (Nat.le_of_ble_eq_true rfl) (Nat.le_of_ble_eq_true rfl) ?_
    intro d2 hp
    refine x_iast dX12_readsTown_63 n78 s78 (by omega) (by omega) (by decide) ?_
    try simp (disch := decide) only [x_up_s, x_up_n, x_up_up, x_u1_s, x_u1_n]
    exact tn_f64 hl hM h8 (fz_up (fz_of hlf hp (hkd z hr)) (by decide))
  | inr w =>
    obtain ⟨v2, q2⟩ := w
    have hvv := num_v hr hg
    rw [hvv] at hnum
    refine x_aload_n dX12_readsTown_47 x_get_2_0 ?_
    refine x_getR dX12_readsTown_48 fX_12_62 n62 s62 (by rfl) ?_
    refine x_bipush dX12_readsTown_51 rfl ?_
    refine x_iload_n dX12_readsTown_53 x_get_2_1 ?_
    refine x_iadd dX12_readsTown_54 ?_
    refine x_aload_n dX12_readsTown_55 x_get_2_0 ?_
    refine x_iconst dX12_readsTown_56 ?_
    refine x_sipush dX12_readsTown_57 rfl ?_
    refine x_callV (As := [_, _]) dX12_readsTown_60 w_12_239 (hnum) (by assumption) (by assumption) rfl rfl (Nat.le_of_ble_eq_true rfl) (Nat.le_of_ble_eq_true rfl) (Nat.le_of_ble_eq_true rfl) (Nat.le_of_ble_eq_true rfl) (Nat.le_of_ble_eq_true rfl) ?_
    rintro d2 ⟨hp1, hp2⟩
    refine x_iast dX12_readsTown_63 n78 s78 (by omega) (by omega) (by decide) ?_
    try simp (disch := decide) only [x_up_s, x_up_n, x_up_up, x_u1_s, x_u1_n]
    exact tn_g64 hl hM h8 hv hm hT (gs_up hp1 (by decide) (by decide)) (by rw [x_up_n (by decide), hp2.2 14 (by decide)]; exact h14) (gf_up (j := 78) (gf_trn hu hp2) (by decide)) (lf_tr hlf (lf_tr (lf_gf hp2) (lf_up (by decide)))) hR
set_option maxHeartbeats 1500000 in
theorem ml_town {X : xC} {l : Launch} (hl : l.stackTraces = false) {N : Nat} {sh : xS} {D : xM} (hM : is_Md N sh) {b : Int → Int} {n q lb : Nat} {S : Tx} (hv : sv lb S.1) (hm : ml lb S D) (hg : gs b n q D) (h14 : D 62 14 = 0) : x_M X l yX12_readsTown cX12_readsTown 2 (none) 3 0 0 [.ref (x_b X + 62)] false N sh D (.inl none) false N sh (mlp b n lb (r_bd (r_twn b n (S.1 lb 0).toNat q) (fun v q1 => .inr ((x_tn lb (S.1 lb 0).toNat v S.1, S.2), q1))) D) := by
  have s62 := md_62 hM
  have n62 : 62 < N := md_n hM (by decide)
  have s78 := md_78 hM
  have n78 : 78 < N := md_n hM (by decide)
  have s72 := md_72 hM
  have n72 : 72 < N := md_n hM (by decide)
  have s73 := md_73 hM
  have n73 : 73 < N := md_n hM (by decide)
  obtain ⟨T, hT⟩ : ∃ T, T = (S.1 lb 0).toNat := ⟨_, rfl⟩
  obtain ⟨R, hR⟩ : ∃ R, R = (r_bd (r_twn b n (S.1 lb 0).toNat q) (fun v q1 => .inr ((x_tn lb (S.1 lb 0).toNat v S.1, S.2), q1))) := ⟨_, rfl⟩
  rw [← hR]
  rw [← hT] at hR
  have h25 : D 62 25 = (T : Int) := by rw [hm.1.1, hT]
  have hT8 : T ≤ 8 := by rw [hT]; exact hv.1.1.2
  obtain ⟨e0, e1, e2⟩ := tE_in (b := b) hg.2.1
  refine x_ofW (by decide +kernel) hl (by simp [Value.category]) (by simp) ?_
  by_cases h8 : 8 ≤ T
  · have hR : R = .inl (2, q) := by rw [hR]; unfold r_twn; rw [if_pos h8]; rfl
    rw [hR]
    refine x_aload_n dX12_readsTown_0 x_get_2_0 ?_
    refine x_getI 25 dX12_readsTown_1 fX_12_236 rfl n62 s62 (by rfl) ?_
    try simp (disch := decide) only [x_up_s, x_up_n, x_up_up, x_u1_s, x_u1_n, h25]
    refine x_bipush dX12_readsTown_4 rfl ?_
    refine r_icmp_ne (t := 14) dX12_readsTown_6 rfl ⟨by omega, by omega⟩ ⟨by omega, by omega⟩ (fun hc6 => absurd hc6 (by omega)) (fun hc6 => ?_)
    refine x_aload_n dX12_readsTown_9 x_get_2_0 ?_
    refine x_iconst dX12_readsTown_10 ?_
    refine x_callV (As := [_]) dX12_readsTown_11 w_12_183 (m_wrong hl hM hg h14) (by assumption) (by assumption) rfl rfl (Nat.le_of_ble_eq_true rfl) (Nat.le_of_ble_eq_true rfl) (Nat.le_of_ble_eq_true rfl) (Nat.le_of_ble_eq_true rfl) (Nat.le_of_ble_eq_true rfl) ?_
    intro d hd
    obtain rfl := Eq.symm hd
    refine x_aload_n dX12_readsTown_14 x_get_2_0 ?_
    refine x_callV (As := []) dX12_readsTown_15 w_12_176 (m_goodF hl hM mwf_14 (by decide)) (by assumption) (by assumption) rfl rfl (Nat.le_of_ble_eq_true rfl) (Nat.le_of_ble_eq_true rfl) (Nat.le_of_ble_eq_true rfl) (Nat.le_of_ble_eq_true rfl) (Nat.le_of_ble_eq_true rfl) ?_
    intro d hd
    obtain rfl := Eq.symm hd
    refine r_if_ne (t := 22) dX12_readsTown_18 rfl ⟨by omega, by omega⟩ (fun hc18 => absurd hc18 (by omega)) (fun hc18 => ?_)
    exact x_vret dX12_readsTown_21 rfl (Nat.le_of_ble_eq_true rfl) (Nat.le_of_ble_eq_true rfl) rfl rfl rfl (fz_wr lf_rf (by decide)) rfl
  have h8 : T < 8 := by omega
  have hR : R = r_bd (r_bd (r_num b n 0 999 (tE b n q)) (fun v1 q1 => r_bd (r_num b n 0 999 q1) (fun v2 q2 => r_bd (r_num b n 0 20 q2) (fun v3 q3 => r_bd (r_num b n 0 20 q3) (fun v4 q4 => .inr ((v1, v2, v3, v4), q4)))))) (fun v q1 => .inr ((x_tn lb T v S.1, S.2), q1)) := by
    rw [hR]; unfold r_twn; rw [if_neg (by omega)]
  have hgo := m_goes (X := X) (l := l) hl hM hg.1 e2 hg.2.2.1
  refine x_aload_n dX12_readsTown_0 x_get_2_0 ?_
  refine x_getI 25 dX12_readsTown_1 fX_12_236 rfl n62 s62 (by rfl) ?_
  try simp (disch := decide) only [x_up_s, x_up_n, x_up_up, x_u1_s, x_u1_n, h25]
  refine x_bipush dX12_readsTown_4 rfl ?_
  refine r_icmp_ne (t := 14) dX12_readsTown_6 rfl ⟨by omega, by omega⟩ ⟨by omega, by omega⟩ (fun hc6 => ?_) (fun hc6 => absurd hc6 (by omega))
  refine x_aload_n dX12_readsTown_14 x_get_2_0 ?_
  refine x_callV (As := []) dX12_readsTown_15 w_12_176 (m_good hl hM h14) (by assumption) (by assumption) rfl rfl (Nat.le_of_ble_eq_true rfl) (Nat.le_of_ble_eq_true rfl) (Nat.le_of_ble_eq_true rfl) (Nat.le_of_ble_eq_true rfl) (Nat.le_of_ble_eq_true rfl) ?_
  intro d hd
  obtain rfl := Eq.symm hd
  refine r_if_ne (t := 22) dX12_readsTown_18 rfl ⟨by omega, by omega⟩ (fun hc18 => ?_) (fun hc18 => absurd hc18 (by omega))
  refine x_aload_n dX12_readsTown_22 x_get_2_0 ?_
  refine x_callV (As := []) dX12_readsTown_23 w_12_180 (hgo) (by assumption) (by assumption) rfl rfl (Nat.le_of_ble_eq_true rfl) (Nat.le_of_ble_eq_true rfl) (Nat.le_of_ble_eq_true rfl) (Nat.le_of_ble_eq_true rfl) (Nat.le_of_ble_eq_true rfl) ?_
  rintro d1 ⟨hg1, hgf1⟩
  have h141 : d1 62 14 = 0 := by rw [hgf1.2 14 (by decide)]; exact h14
  have h251 : d1 62 25 = (T : Int) := by rw [hgf1.2 25 (by decide)]; exact h25
  obtain ⟨r, hr⟩ : ∃ r, r_num b n 0 999 (tE b n q) = r := ⟨_, rfl⟩
  have hnum := m_number (X := X) (l := l) hl hM hg1 h141 (lo := 0) (hi := 999) ⟨by decide, by decide⟩ ⟨by decide, by decide⟩
  rw [hr] at hnum hR
  have hkd := kd_num (b := b) (n := n) (q := tE b n q) (lo := 0) (hi := 999)
  skip
  cases r with
  | inl z =>
    rw [show R = .inl z from hR]
    refine x_aload_n dX12_readsTown_26 x_get_2_0 ?_
    refine x_getI 25 dX12_readsTown_27 fX_12_236 rfl n62 s62 (by rfl) ?_
    try simp (disch := decide) only [x_up_s, x_up_n, x_up_up, x_u1_s, x_u1_n, h251]
    refine x_istore_n dX12_readsTown_30 (Nat.le_of_ble_eq_true rfl) rfl x_set_2_1 ?_
    refine x_aload_n dX12_readsTown_31 x_get_2_0 ?_
    refine x_getR dX12_readsTown_32 fX_12_62 n62 s62 (by rfl) ?_
    refine x_iconst dX12_readsTown_35 ?_
    refine x_iload_n dX12_readsTown_36 x_get_2_1 ?_
    refine x_iadd dX12_readsTown_37 ?_
    refine x_aload_n dX12_readsTown_38 x_get_2_0 ?_
    refine x_iconst dX12_readsTown_39 ?_
    refine x_sipush dX12_readsTown_40 rfl ?_
    refine x_callV (As := [_, _]) dX12_readsTown_43 w_12_239 (hnum) (by assumption) (by assumption) rfl rfl (Nat.le_of_ble_eq_true rfl) (Nat.le_of_ble_eq_true rfl) (Nat.le_of_ble_eq_true rfl) (Nat.le_of_ble_eq_true rfl) (Nat.le_of_ble_eq_true rfl) ?_
    intro d2 hp
    refine x_iast dX12_readsTown_46 n78 s78 (by omega) (by omega) (by decide) ?_
    try simp (disch := decide) only [x_up_s, x_up_n, x_up_up, x_u1_s, x_u1_n, h251]
    exact tn_f47 hl hM h8 (fz_up (fz_of (lf_gf hgf1) hp (hkd z hr)) (by decide))
  | inr w =>
    obtain ⟨v1, q1⟩ := w
    have hvv := num_v hr hg1
    rw [hvv] at hnum
    refine x_aload_n dX12_readsTown_26 x_get_2_0 ?_
    refine x_getI 25 dX12_readsTown_27 fX_12_236 rfl n62 s62 (by rfl) ?_
    try simp (disch := decide) only [x_up_s, x_up_n, x_up_up, x_u1_s, x_u1_n, h251]
    refine x_istore_n dX12_readsTown_30 (Nat.le_of_ble_eq_true rfl) rfl x_set_2_1 ?_
    refine x_aload_n dX12_readsTown_31 x_get_2_0 ?_
    refine x_getR dX12_readsTown_32 fX_12_62 n62 s62 (by rfl) ?_
    refine x_iconst dX12_readsTown_35 ?_
    refine x_iload_n dX12_readsTown_36 x_get_2_1 ?_
    refine x_iadd dX12_readsTown_37 ?_
    refine x_aload_n dX12_readsTown_38 x_get_2_0 ?_
    refine x_iconst dX12_readsTown_39 ?_
    refine x_sipush dX12_readsTown_40 rfl ?_
    refine x_callV (As := [_, _]) dX12_readsTown_43 w_12_239 (hnum) (by assumption) (by assumption) rfl rfl (Nat.le_of_ble_eq_true rfl) (Nat.le_of_ble_eq_true rfl) (Nat.le_of_ble_eq_true rfl) (Nat.le_of_ble_eq_true rfl) (Nat.le_of_ble_eq_true rfl) ?_
    rintro d2 ⟨hp1, hp2⟩
    refine x_iast dX12_readsTown_46 n78 s78 (by omega) (by omega) (by decide) ?_
    try simp (disch := decide) only [x_up_s, x_up_n, x_up_up, x_u1_s, x_u1_n, h251]
    exact tn_g47 hl hM h8 hv hm hT (gs_up hp1 (by decide) (by decide)) (by rw [x_up_n (by decide), hp2.2 14 (by decide)]; exact h141) (gf_up (j := 78) (gf_trn hgf1 hp2) (by decide)) (lf_tr (lf_gf hgf1) (lf_tr (lf_gf hp2) (lf_up (by decide)))) hR
end M99994
