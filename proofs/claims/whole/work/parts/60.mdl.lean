section M60
/-! ===== the Model: its cells, its numbers ===== -/
abbrev md_ks : List Nat := [0, 0, 0, 0, 0, 63 + 3, 64 + 3, 65 + 3, 66 + 3, 67 + 3, 68 + 3, 69 + 3, 70 + 3, 0, 0, 0, 71 + 3, 0, 0, 0, 0, 0, 0, 0, 2, 0, 0, 0, 0, 0, 0, 0, 72 + 3, 73 + 3, 74 + 3, 75 + 3, 76 + 3, 77 + 3, 78 + 3, 79 + 3, 80 + 3, 81 + 3, 82 + 3, 83 + 3, 0, 84 + 3, 85 + 3, 0, 86 + 3, 87 + 3, 88 + 3, 89 + 3, 0, 90 + 3, 91 + 3, 92 + 3, 0, 0, 0, 0, 93 + 3, 94 + 3, 95 + 3]
def is_Md (N : Nat) (sh : xS) : Prop := 95 < N ∧ sh 62 = .inr (12, md_ks) ∧ sh 63 = .inl (0, 8) ∧ sh 64 = .inl (0, 8) ∧ sh 65 = .inl (0, 12) ∧ sh 66 = .inl (0, 12) ∧ sh 67 = .inl (0, 12) ∧ sh 68 = .inl (0, 12) ∧ sh 69 = .inl (0, 1400) ∧ sh 70 = .inl (0, 700) ∧ sh 71 = .inl (0, 3) ∧ sh 72 = .inl (0, 8) ∧ sh 73 = .inl (0, 8) ∧ sh 74 = .inl (0, 12) ∧ sh 75 = .inl (0, 12) ∧ sh 76 = .inl (0, 12) ∧ sh 77 = .inl (0, 12) ∧ sh 78 = .inl (0, 85) ∧ sh 79 = .inl (0, 1400) ∧ sh 80 = .inl (0, 950) ∧ sh 81 = .inl (2, 9) ∧ sh 82 = .inl (0, 170) ∧ sh 83 = .inl (0, 3400) ∧ sh 84 = .inl (0, 6) ∧ sh 85 = .inl (0, 950) ∧ sh 86 = .inl (0, 64) ∧ sh 87 = .inl (0, 64) ∧ sh 88 = .inl (0, 10240) ∧ sh 89 = .inl (0, 240) ∧ sh 90 = .inl (0, 24) ∧ sh 91 = .inl (0, 248) ∧ sh 92 = .inl (0, 24800) ∧ sh 93 = .inl (0, 85) ∧ sh 94 = .inl (0, 3400) ∧ sh 95 = .inl (0, 24)
theorem md_62 {N : Nat} {sh : xS} (h : is_Md N sh) : sh 62 = .inr (12, md_ks) := h.2.1
theorem md_n {N : Nat} {sh : xS} (h : is_Md N sh) {q : Nat} (hq : q ≤ 95) : q < N := Nat.lt_of_le_of_lt hq h.1
theorem md_63 {N : Nat} {sh : xS} (h : is_Md N sh) : sh 63 = .inl (0, 8) := h.2.2.1
theorem md_64 {N : Nat} {sh : xS} (h : is_Md N sh) : sh 64 = .inl (0, 8) := h.2.2.2.1
theorem md_65 {N : Nat} {sh : xS} (h : is_Md N sh) : sh 65 = .inl (0, 12) := h.2.2.2.2.1
theorem md_66 {N : Nat} {sh : xS} (h : is_Md N sh) : sh 66 = .inl (0, 12) := h.2.2.2.2.2.1
theorem md_67 {N : Nat} {sh : xS} (h : is_Md N sh) : sh 67 = .inl (0, 12) := h.2.2.2.2.2.2.1
theorem md_68 {N : Nat} {sh : xS} (h : is_Md N sh) : sh 68 = .inl (0, 12) := h.2.2.2.2.2.2.2.1
theorem md_69 {N : Nat} {sh : xS} (h : is_Md N sh) : sh 69 = .inl (0, 1400) := h.2.2.2.2.2.2.2.2.1
theorem md_70 {N : Nat} {sh : xS} (h : is_Md N sh) : sh 70 = .inl (0, 700) := h.2.2.2.2.2.2.2.2.2.1
theorem md_71 {N : Nat} {sh : xS} (h : is_Md N sh) : sh 71 = .inl (0, 3) := h.2.2.2.2.2.2.2.2.2.2.1
theorem md_72 {N : Nat} {sh : xS} (h : is_Md N sh) : sh 72 = .inl (0, 8) := h.2.2.2.2.2.2.2.2.2.2.2.1
theorem md_73 {N : Nat} {sh : xS} (h : is_Md N sh) : sh 73 = .inl (0, 8) := h.2.2.2.2.2.2.2.2.2.2.2.2.1
theorem md_74 {N : Nat} {sh : xS} (h : is_Md N sh) : sh 74 = .inl (0, 12) := h.2.2.2.2.2.2.2.2.2.2.2.2.2.1
theorem md_75 {N : Nat} {sh : xS} (h : is_Md N sh) : sh 75 = .inl (0, 12) := h.2.2.2.2.2.2.2.2.2.2.2.2.2.2.1
theorem md_76 {N : Nat} {sh : xS} (h : is_Md N sh) : sh 76 = .inl (0, 12) := h.2.2.2.2.2.2.2.2.2.2.2.2.2.2.2.1
theorem md_77 {N : Nat} {sh : xS} (h : is_Md N sh) : sh 77 = .inl (0, 12) := h.2.2.2.2.2.2.2.2.2.2.2.2.2.2.2.2.1
theorem md_78 {N : Nat} {sh : xS} (h : is_Md N sh) : sh 78 = .inl (0, 85) := h.2.2.2.2.2.2.2.2.2.2.2.2.2.2.2.2.2.1
theorem md_79 {N : Nat} {sh : xS} (h : is_Md N sh) : sh 79 = .inl (0, 1400) := h.2.2.2.2.2.2.2.2.2.2.2.2.2.2.2.2.2.2.1
theorem md_80 {N : Nat} {sh : xS} (h : is_Md N sh) : sh 80 = .inl (0, 950) := h.2.2.2.2.2.2.2.2.2.2.2.2.2.2.2.2.2.2.2.1
theorem md_81 {N : Nat} {sh : xS} (h : is_Md N sh) : sh 81 = .inl (2, 9) := h.2.2.2.2.2.2.2.2.2.2.2.2.2.2.2.2.2.2.2.2.1
theorem md_82 {N : Nat} {sh : xS} (h : is_Md N sh) : sh 82 = .inl (0, 170) := h.2.2.2.2.2.2.2.2.2.2.2.2.2.2.2.2.2.2.2.2.2.1
theorem md_83 {N : Nat} {sh : xS} (h : is_Md N sh) : sh 83 = .inl (0, 3400) := h.2.2.2.2.2.2.2.2.2.2.2.2.2.2.2.2.2.2.2.2.2.2.1
theorem md_84 {N : Nat} {sh : xS} (h : is_Md N sh) : sh 84 = .inl (0, 6) := h.2.2.2.2.2.2.2.2.2.2.2.2.2.2.2.2.2.2.2.2.2.2.2.1
theorem md_85 {N : Nat} {sh : xS} (h : is_Md N sh) : sh 85 = .inl (0, 950) := h.2.2.2.2.2.2.2.2.2.2.2.2.2.2.2.2.2.2.2.2.2.2.2.2.1
theorem md_86 {N : Nat} {sh : xS} (h : is_Md N sh) : sh 86 = .inl (0, 64) := h.2.2.2.2.2.2.2.2.2.2.2.2.2.2.2.2.2.2.2.2.2.2.2.2.2.1
theorem md_87 {N : Nat} {sh : xS} (h : is_Md N sh) : sh 87 = .inl (0, 64) := h.2.2.2.2.2.2.2.2.2.2.2.2.2.2.2.2.2.2.2.2.2.2.2.2.2.2.1
theorem md_88 {N : Nat} {sh : xS} (h : is_Md N sh) : sh 88 = .inl (0, 10240) := h.2.2.2.2.2.2.2.2.2.2.2.2.2.2.2.2.2.2.2.2.2.2.2.2.2.2.2.1
theorem md_89 {N : Nat} {sh : xS} (h : is_Md N sh) : sh 89 = .inl (0, 240) := h.2.2.2.2.2.2.2.2.2.2.2.2.2.2.2.2.2.2.2.2.2.2.2.2.2.2.2.2.1
theorem md_90 {N : Nat} {sh : xS} (h : is_Md N sh) : sh 90 = .inl (0, 24) := h.2.2.2.2.2.2.2.2.2.2.2.2.2.2.2.2.2.2.2.2.2.2.2.2.2.2.2.2.2.1
theorem md_91 {N : Nat} {sh : xS} (h : is_Md N sh) : sh 91 = .inl (0, 248) := h.2.2.2.2.2.2.2.2.2.2.2.2.2.2.2.2.2.2.2.2.2.2.2.2.2.2.2.2.2.2.1
theorem md_92 {N : Nat} {sh : xS} (h : is_Md N sh) : sh 92 = .inl (0, 24800) := h.2.2.2.2.2.2.2.2.2.2.2.2.2.2.2.2.2.2.2.2.2.2.2.2.2.2.2.2.2.2.2.1
theorem md_93 {N : Nat} {sh : xS} (h : is_Md N sh) : sh 93 = .inl (0, 85) := h.2.2.2.2.2.2.2.2.2.2.2.2.2.2.2.2.2.2.2.2.2.2.2.2.2.2.2.2.2.2.2.2.1
theorem md_94 {N : Nat} {sh : xS} (h : is_Md N sh) : sh 94 = .inl (0, 3400) := h.2.2.2.2.2.2.2.2.2.2.2.2.2.2.2.2.2.2.2.2.2.2.2.2.2.2.2.2.2.2.2.2.2.1
theorem md_95 {N : Nat} {sh : xS} (h : is_Md N sh) : sh 95 = .inl (0, 24) := h.2.2.2.2.2.2.2.2.2.2.2.2.2.2.2.2.2.2.2.2.2.2.2.2.2.2.2.2.2.2.2.2.2.2
/-- the cells of a row that count -/
def lv (T C : Nat) (i : Int) : Prop := i = 0 ∨ (1 ≤ i ∧ i < 1 + T) ∨ (9 ≤ i ∧ i < 9 + T) ∨ (17 ≤ i ∧ i < 17 + T) ∨ (25 ≤ i ∧ i < 25 + C) ∨ (35 ≤ i ∧ i < 35 + C) ∨ (45 ≤ i ∧ i < 45 + C) ∨ (55 ≤ i ∧ i < 55 + C) ∨ (65 ≤ i ∧ i < 65 + C) ∨ (75 ≤ i ∧ i < 75 + C)
/-- the Model's row from b on is the row f -/
def mr (T C : Nat) (f g : Int → Int) (b : Int) : Prop := ∀ i, lv T C i → g (b + i) = f i
def m_fr (b : Int) (g0 g : Int → Int) : Prop := ∀ i, i < b ∨ b + 85 ≤ i → g i = g0 i
theorem m_fr_refl {b : Int} {g : Int → Int} : m_fr b g g := fun _ _ => rfl
theorem m_fr_u1 {b k v : Int} {g0 g : Int → Int} (h : m_fr b g0 g) (h0 : b ≤ k) (h1 : k < b + 85) : m_fr b g0 (x_u1 g k v) := fun i hi => by rw [x_u1_n (by omega)]; exact h i hi
theorem m_fr_tr {b : Int} {g0 g1 g2 : Int → Int} (h : m_fr b g0 g1) (h2 : m_fr b g1 g2) : m_fr b g0 g2 := fun i hi => by rw [h2 i hi, h i hi]
theorem mr_u1 {T C : Nat} {f g : Int → Int} {b : Int} (h : mr T C f g b) {k m v : Int} (hm : m = b + k) : mr T C (x_u1 f k v) (x_u1 g m v) b := by
  intro i hi
  subst hm
  by_cases hk : i = k
  · subst hk; rw [x_u1_s, x_u1_s]
  · rw [x_u1_n (by omega), x_u1_n hk]; exact h i hi
theorem mr_fr {T C : Nat} {f g g' : Int → Int} {b b' : Int} (h : mr T C f g b) (hT : T ≤ 8) (hC : C ≤ 10) (hb : (b = 0 ∧ b' = 85) ∨ (b = 85 ∧ b' = 0)) (hf : m_fr b' g g') : mr T C f g' b := by
  intro i hi
  rw [← h i hi]
  refine hf _ ?_
  have : 0 ≤ i ∧ i < 85 := by unfold lv at hi; omega
  omega
theorem mr_t {T C : Nat} {f g : Int → Int} {b : Int} (h : mr T C f g b) {k m t : Int} (hm : m = b + k) (hk : k = 1 ∨ k = 9 ∨ k = 17) (h0 : 0 ≤ t) (h1 : t < T) : g (m + t) = f (k + t) := by
  have := h (k + t) (by unfold lv; omega)
  rw [← this, hm, Int.add_assoc]
theorem mr_c {T C : Nat} {f g : Int → Int} {b : Int} (h : mr T C f g b) {k m c : Int} (hm : m = b + k) (hk : k = 25 ∨ k = 35 ∨ k = 45 ∨ k = 55 ∨ k = 65 ∨ k = 75) (h0 : 0 ≤ c) (h1 : c < C) : g (m + c) = f (k + c) := by
  have := h (k + c) (by unfold lv; omega)
  rw [← this, hm, Int.add_assoc]
theorem mr_0 {T C : Nat} {f g : Int → Int} {b m : Int} (h : mr T C f g b) (hm : m = b) : g m = f 0 := by
  have := h 0 (Or.inl rfl)
  rw [← this, hm, Int.add_zero]
theorem mr_cg {T C : Nat} {f f' g : Int → Int} {b : Int} (h : mr T C f g b) (hf : ∀ i, lv T C i → f' i = f i) : mr T C f' g b := fun i hi => by rw [h i hi, hf i hi]
/-! bits of a set -/
def m_bt (v : Nat) (k : Nat) : Int := if v.testBit k = true then 1 else 0
theorem m_sr0 : ∀ v : Nat, v < 1024 → x_an (x_sr (v : Int) 0) 1 = m_bt v 0 := by decide +kernel
theorem m_sr1 : ∀ v : Nat, v < 1024 → x_an (x_sr (v : Int) 1) 1 = m_bt v 1 := by decide +kernel
theorem m_sr2 : ∀ v : Nat, v < 1024 → x_an (x_sr (v : Int) 2) 1 = m_bt v 2 := by decide +kernel
theorem m_sr3 : ∀ v : Nat, v < 1024 → x_an (x_sr (v : Int) 3) 1 = m_bt v 3 := by decide +kernel
theorem m_sr4 : ∀ v : Nat, v < 1024 → x_an (x_sr (v : Int) 4) 1 = m_bt v 4 := by decide +kernel
theorem m_sr5 : ∀ v : Nat, v < 1024 → x_an (x_sr (v : Int) 5) 1 = m_bt v 5 := by decide +kernel
theorem m_sr6 : ∀ v : Nat, v < 1024 → x_an (x_sr (v : Int) 6) 1 = m_bt v 6 := by decide +kernel
theorem m_sr7 : ∀ v : Nat, v < 1024 → x_an (x_sr (v : Int) 7) 1 = m_bt v 7 := by decide +kernel
theorem m_sr8 : ∀ v : Nat, v < 1024 → x_an (x_sr (v : Int) 8) 1 = m_bt v 8 := by decide +kernel
theorem m_sr9 : ∀ v : Nat, v < 1024 → x_an (x_sr (v : Int) 9) 1 = m_bt v 9 := by decide +kernel
theorem m_sr {v k : Nat} (hv : v < 1024) (hk : k < 10) : x_an (x_sr (v : Int) (k : Int)) 1 = m_bt v k := by
  have : k = 0 ∨ k = 1 ∨ k = 2 ∨ k = 3 ∨ k = 4 ∨ k = 5 ∨ k = 6 ∨ k = 7 ∨ k = 8 ∨ k = 9 := by omega
  rcases this with rfl | rfl | rfl | rfl | rfl | rfl | rfl | rfl | rfl | rfl
  · exact m_sr0 v hv
  · exact m_sr1 v hv
  · exact m_sr2 v hv
  · exact m_sr3 v hv
  · exact m_sr4 v hv
  · exact m_sr5 v hv
  · exact m_sr6 v hv
  · exact m_sr7 v hv
  · exact m_sr8 v hv
  · exact m_sr9 v hv
def m_pop (v : Nat) : Nat → Int
  | 0 => 0
  | k + 1 => m_pop v k + m_bt v k
theorem m_pop_s {v k : Nat} : m_pop v (k + 1) = m_pop v k + m_bt v k := rfl
theorem m_pop_eq : ∀ v : Nat, v < 1024 → m_pop v 10 = (s_pop v : Nat) := by decide +kernel
theorem m_bt_in (v k : Nat) : 0 ≤ m_bt v k ∧ m_bt v k ≤ 1 := by unfold m_bt; split <;> omega
theorem m_bt_1 {v k : Nat} : m_bt v k = 1 ↔ v.testBit k = true := by unfold m_bt; split <;> simp [*]
theorem m_bt_0 {v k : Nat} : m_bt v k = 0 ↔ ¬ v.testBit k = true := by unfold m_bt; split <;> simp [*]
/-! how a call of the Model answers an outcome -/
def m_v (o : x_O) : Int := match o with
  | .inl (some (.int v)) => v.toInt
  | _ => 0
def m_k (e : Int) (o : x_O) : Int := match o with
  | .inr E => if E = x_NSE then 1 else e
  | _ => 0
def m_r (o : x_O) : x_O := .inl (some (.int (xI (m_v o))))
theorem m_r_i (z : Int) : m_r (o_i z) = .inl (some (.int (xI z))) := by
  unfold m_r m_v o_i
  simp only
  rw [xI_toInt]
theorem m_r_N : m_r (.inr x_NSE) = .inl (some (.int (xI 0))) := rfl
theorem m_r_I : m_r (.inr x_IAE) = .inl (some (.int (xI 0))) := rfl
theorem m_k_i (e z : Int) : m_k e (o_i z) = 0 := rfl
theorem m_k_N (e : Int) : m_k e (.inr x_NSE) = 1 := by simp [m_k]
theorem m_k_I (e : Int) : m_k e (.inr x_IAE) = e := by
  simp only [m_k]
  exact if_neg (by decide)
theorem m_thrown {X : xC} {l : Launch} (hl : l.stackTraces = false) {N : Nat} {sh : xS} {D : xM} (hM : is_Md N sh) : x_M X l yX12_thrown cX12_thrown 1 (some .int) 1 0 0 [.ref (x_b X + 62)] false N sh D (.inl (some (.int (xI (D 62 0))))) false N sh (x_is (D)) := by
  have s62 := md_62 hM
  have n62 : 62 < N := md_n hM (by decide)
  refine x_ofW (by decide +kernel) hl (by simp [Value.category]) (by simp) ?_
  refine x_aload_n dX12_thrown_0 x_get_1_0 ?_
  refine x_getI 0 dX12_thrown_1 fX_12_117 rfl n62 s62 (by rfl) ?_
  try simp (disch := decide) only [x_up_s, x_up_n, x_up_up, x_u1_s, x_u1_n]
  exact x_iret dX12_thrown_4 rfl (Nat.le_of_ble_eq_true rfl) (Nat.le_of_ble_eq_true rfl) rfl rfl rfl rfl rfl
theorem m_rightT {X : xC} {l : Launch} (hl : l.stackTraces = false) {N : Nat} {sh : xS} {D : xM} (hM : is_Md N sh) (h0 : D 62 0 = 0) {w : Int} : x_M X l yX12_right cX12_right 3 (some .boolean) 1 0 0 [.ref (x_b X + 62), .int (xI 1), .int (xI w)] false N sh D (.inl (some (.int (xI (1))))) false N sh (x_is (D)) := by
  have s62 := md_62 hM
  have n62 : 62 < N := md_n hM (by decide)
  refine x_ofW (by decide +kernel) hl (by simp [Value.category]) (by simp) ?_
  refine x_aload_n dX12_right_0 x_get_3_0 ?_
  refine x_getI 0 dX12_right_1 fX_12_117 rfl n62 s62 (by rfl) ?_
  try simp (disch := decide) only [x_up_s, x_up_n, x_up_up, x_u1_s, x_u1_n, h0]
  refine r_if_ne (t := 16) dX12_right_4 rfl ⟨by omega, by omega⟩ (fun hc4 => absurd hc4 (by omega)) (fun hc4 => ?_)
  refine x_iload_n dX12_right_7 x_get_3_1 ?_
  refine r_if_ne (t := 16) dX12_right_8 rfl ⟨by omega, by omega⟩ (fun hc8 => ?_) (fun hc8 => absurd hc8 (by omega))
  refine x_aload_n dX12_right_16 x_get_3_0 ?_
  refine x_getI 0 dX12_right_17 fX_12_117 rfl n62 s62 (by rfl) ?_
  try simp (disch := decide) only [x_up_s, x_up_n, x_up_up, x_u1_s, x_u1_n, h0]
  refine r_if_ne (t := 27) dX12_right_20 rfl ⟨by omega, by omega⟩ (fun hc20 => absurd hc20 (by omega)) (fun hc20 => ?_)
  refine x_iconst dX12_right_23 ?_
  refine x_goto (t := 28) dX12_right_24 rfl ?_
  exact x_zret dX12_right_28 rfl (by omega) (Nat.le_of_ble_eq_true rfl) (Nat.le_of_ble_eq_true rfl) rfl rfl rfl rfl rfl
theorem m_rightF {X : xC} {l : Launch} (hl : l.stackTraces = false) {N : Nat} {sh : xS} {D : xM} (hM : is_Md N sh) (h0 : D 62 0 = 0) {w : Int} (hw : 0 < w) (hw2 : w < 10) : x_M X l yX12_right cX12_right 3 (some .boolean) 1 0 0 [.ref (x_b X + 62), .int (xI 0), .int (xI w)] false N sh D (.inl (some (.int (xI (0))))) false N sh (x_is (x_up D 62 (x_u1 (D 62) 0 w))) := by
  have s62 := md_62 hM
  have n62 : 62 < N := md_n hM (by decide)
  refine x_ofW (by decide +kernel) hl (by simp [Value.category]) (by simp) ?_
  refine x_aload_n dX12_right_0 x_get_3_0 ?_
  refine x_getI 0 dX12_right_1 fX_12_117 rfl n62 s62 (by rfl) ?_
  try simp (disch := decide) only [x_up_s, x_up_n, x_up_up, x_u1_s, x_u1_n, h0]
  refine r_if_ne (t := 16) dX12_right_4 rfl ⟨by omega, by omega⟩ (fun hc4 => absurd hc4 (by omega)) (fun hc4 => ?_)
  refine x_iload_n dX12_right_7 x_get_3_1 ?_
  refine r_if_ne (t := 16) dX12_right_8 rfl ⟨by omega, by omega⟩ (fun hc8 => absurd hc8 (by omega)) (fun hc8 => ?_)
  refine x_aload_n dX12_right_11 x_get_3_0 ?_
  refine x_iload_n dX12_right_12 x_get_3_2 ?_
  refine x_putI 0 dX12_right_13 fX_12_117 rfl tX_12_0 n62 s62 (by rfl) ?_
  try simp (disch := decide) only [x_up_s, x_up_n, x_up_up, x_u1_s, x_u1_n, h0]
  refine x_aload_n dX12_right_16 x_get_3_0 ?_
  refine x_getI 0 dX12_right_17 fX_12_117 rfl n62 s62 (by rfl) ?_
  try simp (disch := decide) only [x_up_s, x_up_n, x_up_up, x_u1_s, x_u1_n, h0]
  refine r_if_ne (t := 27) dX12_right_20 rfl ⟨by omega, by omega⟩ (fun hc20 => ?_) (fun hc20 => absurd hc20 (by omega))
  refine x_iconst dX12_right_27 ?_
  exact x_zret dX12_right_28 rfl (by omega) (Nat.le_of_ble_eq_true rfl) (Nat.le_of_ble_eq_true rfl) rfl rfl rfl rfl rfl
theorem m_withinT {X : xC} {l : Launch} (hl : l.stackTraces = false) {N : Nat} {sh : xS} {D : xM} {v a b : Int} (hv : x_r v) (ha : x_r a) (hb : x_r b) (h : a ≤ v ∧ v ≤ b) : x_M X l yX12_within cX12_within 3 (some .boolean) 1 0 0 [.int (xI v), .int (xI a), .int (xI b)] false N sh D (.inl (some (.int (xI (1))))) false N sh (x_is (D)) := by
  obtain ⟨h0, h1⟩ := h
  refine x_ofW (by decide +kernel) hl (by simp [Value.category]) (by simp) ?_
  refine x_iload_n dX12_within_0 x_get_3_0 ?_
  refine x_iload_n dX12_within_1 x_get_3_1 ?_
  refine r_icmp_lt (t := 14) dX12_within_2 rfl (by assumption) (by assumption) (fun hc2 => absurd hc2 (by omega)) (fun hc2 => ?_)
  refine x_iload_n dX12_within_5 x_get_3_0 ?_
  refine x_iload_n dX12_within_6 x_get_3_2 ?_
  refine r_icmp_gt (t := 14) dX12_within_7 rfl (by assumption) (by assumption) (fun hc7 => absurd hc7 (by omega)) (fun hc7 => ?_)
  refine x_iconst dX12_within_10 ?_
  refine x_goto (t := 15) dX12_within_11 rfl ?_
  exact x_zret dX12_within_15 rfl (by omega) (Nat.le_of_ble_eq_true rfl) (Nat.le_of_ble_eq_true rfl) rfl rfl rfl rfl rfl
theorem m_withinF {X : xC} {l : Launch} (hl : l.stackTraces = false) {N : Nat} {sh : xS} {D : xM} {v a b : Int} (hv : x_r v) (ha : x_r a) (hb : x_r b) (h : ¬ (a ≤ v ∧ v ≤ b)) : x_M X l yX12_within cX12_within 3 (some .boolean) 1 0 0 [.int (xI v), .int (xI a), .int (xI b)] false N sh D (.inl (some (.int (xI (0))))) false N sh (x_is (D)) := by
  refine x_ofW (by decide +kernel) hl (by simp [Value.category]) (by simp) ?_
  refine x_iload_n dX12_within_0 x_get_3_0 ?_
  refine x_iload_n dX12_within_1 x_get_3_1 ?_
  refine r_icmp_lt (t := 14) dX12_within_2 rfl (by assumption) (by assumption) (fun hc2 => ?_) (fun hc2 => ?_)
  · refine x_iconst dX12_within_14 ?_
    exact x_zret dX12_within_15 rfl (by omega) (Nat.le_of_ble_eq_true rfl) (Nat.le_of_ble_eq_true rfl) rfl rfl rfl rfl rfl
  · refine x_iload_n dX12_within_5 x_get_3_0 ?_
    refine x_iload_n dX12_within_6 x_get_3_2 ?_
    refine r_icmp_gt (t := 14) dX12_within_7 rfl (by assumption) (by assumption) (fun hc7 => ?_) (fun hc7 => absurd hc7 (by omega))
    refine x_iconst dX12_within_14 ?_
    exact x_zret dX12_within_15 rfl (by omega) (Nat.le_of_ble_eq_true rfl) (Nat.le_of_ble_eq_true rfl) rfl rfl rfl rfl rfl
theorem m_kept {X : xC} {l : Launch} (hl : l.stackTraces = false) {N : Nat} {sh : xS} {D : xM} {v a b : Int} (z : Int) (hv : x_r v) (ha : x_r a) (hb : x_r b) (h : a ≤ b) (hz : max a (min b v) = z) : x_M X l yX12_kept cX12_kept 3 (some .int) 1 0 0 [.int (xI v), .int (xI a), .int (xI b)] false N sh D (.inl (some (.int (xI (z))))) false N sh (x_is (D)) := by
  refine x_ofW (by decide +kernel) hl (by simp [Value.category]) (by simp) ?_
  refine x_iload_n dX12_kept_0 x_get_3_0 ?_
  refine x_iload_n dX12_kept_1 x_get_3_1 ?_
  refine r_icmp_ge (t := 9) dX12_kept_2 rfl (by assumption) (by assumption) (fun hc2 => ?_) (fun hc2 => ?_)
  · refine x_iload_n dX12_kept_9 x_get_3_0 ?_
    refine x_iload_n dX12_kept_10 x_get_3_2 ?_
    refine r_icmp_le (t := 18) dX12_kept_11 rfl (by assumption) (by assumption) (fun hc11 => ?_) (fun hc11 => ?_)
    · refine x_iload_n dX12_kept_18 x_get_3_0 ?_
      exact x_iret dX12_kept_19 rfl (Nat.le_of_ble_eq_true rfl) (Nat.le_of_ble_eq_true rfl) (by first | (rw [← hz, show min b v = v by omega, show max a v = a by omega]; done) | (rw [← hz, show min b v = b by omega, show max a b = b by omega]; done) | (rw [← hz, show min b v = v by omega, show max a v = v by omega]; done)) rfl rfl rfl rfl
    · refine x_iload_n dX12_kept_14 x_get_3_2 ?_
      refine x_goto (t := 19) dX12_kept_15 rfl ?_
      exact x_iret dX12_kept_19 rfl (Nat.le_of_ble_eq_true rfl) (Nat.le_of_ble_eq_true rfl) (by first | (rw [← hz, show min b v = v by omega, show max a v = a by omega]; done) | (rw [← hz, show min b v = b by omega, show max a b = b by omega]; done) | (rw [← hz, show min b v = v by omega, show max a v = v by omega]; done)) rfl rfl rfl rfl
  · refine x_iload_n dX12_kept_5 x_get_3_1 ?_
    refine x_goto (t := 19) dX12_kept_6 rfl ?_
    exact x_iret dX12_kept_19 rfl (Nat.le_of_ble_eq_true rfl) (Nat.le_of_ble_eq_true rfl) (by first | (rw [← hz, show min b v = v by omega, show max a v = a by omega]; done) | (rw [← hz, show min b v = b by omega, show max a b = b by omega]; done) | (rw [← hz, show min b v = v by omega, show max a v = v by omega]; done)) rfl rfl rfl rfl
theorem m_lesser {X : xC} {l : Launch} (hl : l.stackTraces = false) {N : Nat} {sh : xS} {D : xM} {a b : Int} (ha : x_r a) (hb : x_r b) : x_M X l yX12_lesser cX12_lesser 2 (some .int) 1 0 0 [.int (xI a), .int (xI b)] false N sh D (.inl (some (.int (xI (min a b))))) false N sh (x_is (D)) := by
  refine x_ofW (by decide +kernel) hl (by simp [Value.category]) (by simp) ?_
  refine x_iload_n dX12_lesser_0 x_get_2_0 ?_
  refine x_iload_n dX12_lesser_1 x_get_2_1 ?_
  refine r_icmp_ge (t := 9) dX12_lesser_2 rfl (by assumption) (by assumption) (fun hc2 => ?_) (fun hc2 => ?_)
  · refine x_iload_n dX12_lesser_9 x_get_2_1 ?_
    exact x_iret dX12_lesser_10 rfl (Nat.le_of_ble_eq_true rfl) (Nat.le_of_ble_eq_true rfl) (by first | (rw [show min a b = a by omega]; done) | (rw [show min a b = b by omega]; done)) rfl rfl rfl rfl
  · refine x_iload_n dX12_lesser_5 x_get_2_0 ?_
    refine x_goto (t := 10) dX12_lesser_6 rfl ?_
    exact x_iret dX12_lesser_10 rfl (Nat.le_of_ble_eq_true rfl) (Nat.le_of_ble_eq_true rfl) (by first | (rw [show min a b = a by omega]; done) | (rw [show min a b = b by omega]; done)) rfl rfl rfl rfl
theorem m_copies {X : xC} {l : Launch} (hl : l.stackTraces = false) {N : Nat} {sh : xS} {D : xM} (hM : is_Md N sh) {qa qb len : Nat} (ha : qa < N) (hb : qb < N) (sa : sh qa = .inl (0, len)) (sb : sh qb = .inl (0, len)) (hlen : len ≤ 100000) (hne : qa ≠ qb) : x_M X l yX12_copies cX12_copies 4 (none) 1 0 0 [.ref (x_b X + 62), .ref (x_b X + qa), .ref (x_b X + qb)] false N sh D (.inl none) false N sh (x_is (x_up D qb (D qa))) := by
  have hloop : ∀ k : Nat, k ≤ len → x_W (X, l, yX12_copies, cX12_copies, 4, none, x_room 1 0 0, 0, 0, (.inl none), N, sh, (x_is (x_up D qb (D qa))), false, []) 2 [some (.ref (x_b X + 62)), some (.ref (x_b X + qa)), some (.ref (x_b X + qb)), some (.int (xI (k : Int)))] [] 0 0 false N sh (x_up D qb (fun j => if j < ((k : Nat) : Int) then D qa j else D qb j)) := by
    refine x_down len ?_ ?_
    · refine x_iload_n dX12_copies_2 x_get_4_3 ?_
      refine x_aload_n dX12_copies_3 x_get_4_1 ?_
      refine x_alen dX12_copies_4 ha sa (by decide) ?_
      refine r_icmp_ge (t := 20) dX12_copies_5 rfl ⟨by omega, by omega⟩ ⟨by omega, by omega⟩ (fun hc5 => ?_) (fun hc5 => absurd hc5 (by omega))
      refine x_rng (D qa) sb (fun j h0 h1 => ?_) ?_
      · rw [x_up_s, if_pos h1]
      rw [x_up_up]
      exact x_vret dX12_copies_20 rfl (Nat.le_of_ble_eq_true rfl) (Nat.le_of_ble_eq_true rfl) rfl rfl rfl rfl rfl
    · intro k hk ih
      refine x_iload_n dX12_copies_2 x_get_4_3 ?_
      refine x_aload_n dX12_copies_3 x_get_4_1 ?_
      refine x_alen dX12_copies_4 ha sa (by decide) ?_
      refine r_icmp_ge (t := 20) dX12_copies_5 rfl ⟨by omega, by omega⟩ ⟨by omega, by omega⟩ (fun hc5 => absurd hc5 (by omega)) (fun hc5 => ?_)
      refine x_aload_n dX12_copies_8 x_get_4_2 ?_
      refine x_iload_n dX12_copies_9 x_get_4_3 ?_
      refine x_aload_n dX12_copies_10 x_get_4_1 ?_
      refine x_iload_n dX12_copies_11 x_get_4_3 ?_
      refine x_iald dX12_copies_12 ha sa (by omega) (by omega) (by omega) ?_
      first | rw [x_up_n hne] | rw [x_up_s, x_up_up]
      refine x_iast dX12_copies_13 hb sb (by omega) (by omega) (by omega) ?_
      first | rw [x_up_n hne] | rw [x_up_s, x_up_up]
      refine x_iinc dX12_copies_14 x_get_4_3 (Nat.le_of_ble_eq_true rfl) rfl x_set_4_3 ?_
      refine x_goto (t := 2) dX12_copies_17 rfl ?_
      have e : x_u1 (fun j => if j < ((k : Nat) : Int) then D qa j else D qb j) (k : Int) (D qa (k : Int)) = (fun j => if j < ((k + 1 : Nat) : Int) then D qa j else D qb j) := by
        funext j
        simp only [x_u1]
        by_cases h1 : j = (k : Int)
        · rw [if_pos h1, if_pos (by push_cast; omega), h1]
        · rw [if_neg h1]
          by_cases h2 : j < (k : Int)
          · rw [if_pos h2, if_pos (by push_cast; omega)]
          · rw [if_neg h2, if_neg (by push_cast; omega)]
      rw [e]
      exact ih
  refine x_ofW (by decide +kernel) hl (by simp [Value.category]) (by simp) ?_
  refine x_iconst dX12_copies_0 ?_
  refine x_istore_n dX12_copies_1 (Nat.le_of_ble_eq_true rfl) rfl x_set_4_3 ?_
  refine x_rng (fun j => if j < ((0 : Nat) : Int) then D qa j else D qb j) sb (fun j h0 h1 => ?_) (hloop 0 (Nat.zero_le _))
  show _ = if j < ((0 : Nat) : Int) then D qa j else D qb j
  rw [if_neg (by omega)]
theorem m_bits {X : xC} {l : Launch} (hl : l.stackTraces = false) {N : Nat} {sh : xS} {D : xM} {v : Nat} (hv : v < 1024) : x_M X l yX12_bits cX12_bits 3 (some .int) 1 0 0 [.int (xI (v : Int))] false N sh D (.inl (some (.int (xI (((s_pop v : Nat) : Int)))))) false N sh (x_is (D)) := by
  have hloop : ∀ k : Nat, k ≤ 10 → x_W (X, l, yX12_bits, cX12_bits, 3, (some .int), x_room 1 0 0, 0, 0, (.inl (some (.int (xI (((s_pop v : Nat) : Int)))))), N, sh, (x_is (D)), false, []) 4 [some (.int (xI (v : Int))), some (.int (xI (m_pop v k))), some (.int (xI (k : Int)))] [] 0 0 false N sh D := by
    refine x_down 10 ?_ ?_
    · refine x_iload_n dX12_bits_4 x_get_3_2 ?_
      refine x_bipush dX12_bits_5 rfl ?_
      refine r_icmp_ge (t := 24) dX12_bits_7 rfl ⟨by omega, by omega⟩ ⟨by omega, by omega⟩ (fun hc7 => ?_) (fun hc7 => absurd hc7 (by omega))
      refine x_iload_n dX12_bits_24 x_get_3_1 ?_
      exact x_iret dX12_bits_25 rfl (Nat.le_of_ble_eq_true rfl) (Nat.le_of_ble_eq_true rfl) (by rw [m_pop_eq v hv]) rfl rfl rfl rfl
    · intro k hk ih
      rw [m_pop_s] at ih
      refine x_iload_n dX12_bits_4 x_get_3_2 ?_
      refine x_bipush dX12_bits_5 rfl ?_
      refine r_icmp_ge (t := 24) dX12_bits_7 rfl ⟨by omega, by omega⟩ ⟨by omega, by omega⟩ (fun hc7 => absurd hc7 (by omega)) (fun hc7 => ?_)
      refine x_iload_n dX12_bits_10 x_get_3_1 ?_
      refine x_iload_n dX12_bits_11 x_get_3_0 ?_
      refine x_iload_n dX12_bits_12 x_get_3_2 ?_
      refine x_ishr dX12_bits_13 ?_
      refine x_iconst dX12_bits_14 ?_
      refine x_iand dX12_bits_15 ?_
      rw [m_sr hv hk]
      refine x_iadd dX12_bits_16 ?_
      refine x_istore_n dX12_bits_17 (Nat.le_of_ble_eq_true rfl) rfl x_set_3_1 ?_
      refine x_iinc dX12_bits_18 x_get_3_2 (Nat.le_of_ble_eq_true rfl) rfl x_set_3_2 ?_
      refine x_goto (t := 4) dX12_bits_21 rfl ?_
      exact ih
  refine x_ofW (by decide +kernel) hl (by simp [Value.category]) (by simp) ?_
  refine x_iconst dX12_bits_0 ?_
  refine x_istore_n dX12_bits_1 (Nat.le_of_ble_eq_true rfl) rfl x_set_3_1 ?_
  refine x_iconst dX12_bits_2 ?_
  refine x_istore_n dX12_bits_3 (Nat.le_of_ble_eq_true rfl) rfl x_set_3_2 ?_
  exact hloop 0 (Nat.zero_le _)
end M60
