section M74
/-! ===== the Model's ways ===== -/
def m_wb (F : Int) (one two v : Int → Int) (but : Int) : Nat → Int → Int
  | 0 => m_ini F
  | w + 1 => if (w : Int) = but then m_wb F one two v but w else m_set one two (v w) (m_wb F one two v but w) w
theorem m_wb_s {F : Int} {one two v : Int → Int} {but : Int} {w : Nat} : m_wb F one two v but (w + 1) = if (w : Int) = but then m_wb F one two v but w else m_set one two (v w) (m_wb F one two v but w) w := rfl
theorem m_ok_wb {F : Int} (hF : 0 ≤ F) {one two v : Int → Int} {but : Int} (hv : ∀ j, 0 ≤ v j ∧ v j ≤ F) : ∀ w : Nat, m_ok F (m_wb F one two v but w)
  | 0 => m_ok_ini hF
  | w + 1 => by
    rw [m_wb_s]
    split
    · exact m_ok_wb hF hv w
    · exact m_ok_u1 (m_ok_u1 (m_ok_wb hF hv w) (hv _).1 (hv _).2) (hv _).1 (hv _).2
abbrev f_M (one two v : Int → Int) (but : Int) (W T : Nat) : Int → Int := m_m (m_wb 99999 one two v but W) T T
theorem m_b_s {g : Int → Int} {m a : Int} {b : Nat} : m_b g m a (b + 1) = m_min1 (m_b g m a b) m a b := rfl
theorem m_a_s {g : Int → Int} {m : Int} {T a : Nat} : m_a g m T (a + 1) = m_b (m_a g m T a) m a T := rfl
theorem m_m_s {g : Int → Int} {T m : Nat} : m_m g T (m + 1) = m_a (m_m g T m) m T T := rfl
theorem k_RX12_395 : Cond.constant RX12 395 (xI (99999)) ∈ x_T := (x_in 1851 (by decide +kernel) rfl)
set_option maxHeartbeats 8000000 in
theorem m_measures {X : xC} {l : Launch} (hl : l.stackTraces = false) {N : Nat} {sh : xS} {D : xM} {T C W : Nat} {G : Ldt} (hq : mq N sh D T C W G) {one two span loss : Int → Int} (hw : mwy D W one two span loss) {but : Int} (hbr : x_r but) : x_M X l yX12_measures cX12_measures 5 (none) 2 0 0 [.ref (x_b X + 62), .int (xI but)] false N sh D (.inl none) false N sh (fun d => d = x_up (x_up D 86 (f_M one two span but W T)) 87 (f_M one two (fun w => span w * loss w) but W T)) := by
  obtain ⟨hM, hT, hTb, hW, hWb, hC, hCb, hmk, ⟨hG1, hG2, hG3⟩, hod⟩ := id hq
  have s62 := md_62 hM
  have n62 : 62 < N := md_n hM (by decide)
  have s86 := md_86 hM
  have n86 : 86 < N := md_n hM (by decide)
  have s87 := md_87 hM
  have n87 : 87 < N := md_n hM (by decide)
  have s65 := md_65 hM
  have n65 : 65 < N := md_n hM (by decide)
  have s66 := md_66 hM
  have n66 : 66 < N := md_n hM (by decide)
  have s67 := md_67 hM
  have n67 : 67 < N := md_n hM (by decide)
  have s68 := md_68 hM
  have n68 : 68 < N := md_n hM (by decide)
  obtain ⟨hw1, hw2, hw3, hw4, hw5⟩ := hw
  have hv1 : ∀ j, 0 ≤ span j ∧ span j ≤ 99999 := fun j => by have := hw4 j; omega
  have hv2 : ∀ j, 0 ≤ span j * loss j ∧ span j * loss j ≤ 99999 := fun j => by have := s_mul9 (hw4 j).1 (hw4 j).2 (hw5 j).1 (hw5 j).2; omega
  have l3 : ∀ (F0 L0 : Int → Int), m_ok 99999 F0 → m_ok 99999 L0 → ∀ m a : Nat, m < T → a < T → (x_W (X, l, yX12_measures, cX12_measures, 5, none, x_room 2 0 0, 0, 0, (.inl none), N, sh, (fun d => d = x_up (x_up D 86 (f_M one two span but W T)) 87 (f_M one two (fun w => span w * loss w) but W T)), false, []) 306 [some (.ref (x_b X + 62)), some (.int (xI but)), some (.int (xI (m : Int))), some (.int (xI (a : Int))), some (.int (xI (T : Int)))] [] 0 0 false N sh (x_up (x_up D 86 (m_b F0 m a T)) 87 (m_b L0 m a T))) → ∀ b : Nat, b ≤ T → x_W (X, l, yX12_measures, cX12_measures, 5, none, x_room 2 0 0, 0, 0, (.inl none), N, sh, (fun d => d = x_up (x_up D 86 (f_M one two span but W T)) 87 (f_M one two (fun w => span w * loss w) but W T)), false, []) 189 [some (.ref (x_b X + 62)), some (.int (xI but)), some (.int (xI (m : Int))), some (.int (xI (a : Int))), some (.int (xI (b : Int)))] [] 0 0 false N sh (x_up (x_up D 86 (m_b F0 m a b)) 87 (m_b L0 m a b)) := by
    intro F0 L0 hF hL m a hm ha kk
    refine x_down T ?_ ?_
    · refine x_iload dX12_measures_189 x_get_5_4 ?_
      refine x_aload_n dX12_measures_191 x_get_5_0 ?_
      refine x_getI 1 dX12_measures_192 fX_12_281 rfl n62 s62 (by rfl) ?_
      try simp (disch := decide) only [x_up_s, x_up_n, x_up_up, x_up_up2, x_u1_s, hT]
      refine r_icmp_ge (t := 306) dX12_measures_195 rfl ⟨by omega, by omega⟩ ⟨by omega, by omega⟩ (fun hc195 => ?_) (fun hc195 => absurd hc195 (by omega))
      exact kk
    · intro b hb ih
      rw [m_b_s, m_b_s] at ih
      have hFb := m_ok_b hF (m : Int) (a : Int) b
      have hLb := m_ok_b hL (m : Int) (a : Int) b
      unfold m_min1 at ih
      generalize m_b F0 m a b = F1 at ih hFb ⊢
      generalize m_b L0 m a b = L1 at ih hLb ⊢
      have f1 := hFb ((a : Int) * 8 + b)
      have f2 := hFb ((a : Int) * 8 + m)
      have f3 := hFb ((m : Int) * 8 + b)
      have g1 := hLb ((a : Int) * 8 + b)
      have g2 := hLb ((a : Int) * 8 + m)
      have g3 := hLb ((m : Int) * 8 + b)
      refine x_iload dX12_measures_189 x_get_5_4 ?_
      refine x_aload_n dX12_measures_191 x_get_5_0 ?_
      refine x_getI 1 dX12_measures_192 fX_12_281 rfl n62 s62 (by rfl) ?_
      try simp (disch := decide) only [x_up_s, x_up_n, x_up_up, x_up_up2, x_u1_s, hT]
      refine r_icmp_ge (t := 306) dX12_measures_195 rfl ⟨by omega, by omega⟩ ⟨by omega, by omega⟩ (fun hc195 => absurd hc195 (by omega)) (fun hc195 => ?_)
      refine x_aload_n dX12_measures_198 x_get_5_0 ?_
      refine x_getR dX12_measures_199 fX_12_87 n62 s62 (by rfl) ?_
      refine x_bipush dX12_measures_202 rfl ?_
      refine x_iload_n dX12_measures_204 x_get_5_3 ?_
      refine x_imul dX12_measures_205 ?_
      refine x_iload dX12_measures_206 x_get_5_4 ?_
      refine x_iadd dX12_measures_208 ?_
      refine x_as_is (show 8 * (a : Int) + (b : Int) = (a : Int) * 8 + (b : Int) by omega) ?_
      refine x_aload_n dX12_measures_209 x_get_5_0 ?_
      refine x_getR dX12_measures_210 fX_12_87 n62 s62 (by rfl) ?_
      refine x_bipush dX12_measures_213 rfl ?_
      refine x_iload_n dX12_measures_215 x_get_5_3 ?_
      refine x_imul dX12_measures_216 ?_
      refine x_iload dX12_measures_217 x_get_5_4 ?_
      refine x_iadd dX12_measures_219 ?_
      refine x_as_is (show 8 * (a : Int) + (b : Int) = (a : Int) * 8 + (b : Int) by omega) ?_
      refine x_iald dX12_measures_220 n86 s86 (by omega) (by omega) (by decide) ?_
      try simp (disch := decide) only [x_up_s, x_up_n, x_up_up, x_up_up2, x_u1_s, hT]
      refine x_aload_n dX12_measures_221 x_get_5_0 ?_
      refine x_getR dX12_measures_222 fX_12_87 n62 s62 (by rfl) ?_
      refine x_bipush dX12_measures_225 rfl ?_
      refine x_iload_n dX12_measures_227 x_get_5_3 ?_
      refine x_imul dX12_measures_228 ?_
      refine x_iload_n dX12_measures_229 x_get_5_2 ?_
      refine x_iadd dX12_measures_230 ?_
      refine x_as_is (show 8 * (a : Int) + (m : Int) = (a : Int) * 8 + (m : Int) by omega) ?_
      refine x_iald dX12_measures_231 n86 s86 (by omega) (by omega) (by decide) ?_
      try simp (disch := decide) only [x_up_s, x_up_n, x_up_up, x_up_up2, x_u1_s, hT]
      refine x_aload_n dX12_measures_232 x_get_5_0 ?_
      refine x_getR dX12_measures_233 fX_12_87 n62 s62 (by rfl) ?_
      refine x_bipush dX12_measures_236 rfl ?_
      refine x_iload_n dX12_measures_238 x_get_5_2 ?_
      refine x_imul dX12_measures_239 ?_
      refine x_iload dX12_measures_240 x_get_5_4 ?_
      refine x_iadd dX12_measures_242 ?_
      refine x_as_is (show 8 * (m : Int) + (b : Int) = (m : Int) * 8 + (b : Int) by omega) ?_
      refine x_iald dX12_measures_243 n86 s86 (by omega) (by omega) (by decide) ?_
      try simp (disch := decide) only [x_up_s, x_up_n, x_up_up, x_up_up2, x_u1_s, hT]
      refine x_iadd dX12_measures_244 ?_
      refine x_callS (As := [_, _]) dX12_measures_245 w_12_323 (m_lesser hl ⟨by omega, by omega⟩ ⟨by omega, by omega⟩) rfl rfl (Nat.le_of_ble_eq_true rfl) (Nat.le_of_ble_eq_true rfl) (Nat.le_of_ble_eq_true rfl) (Nat.le_of_ble_eq_true rfl) (Nat.le_of_ble_eq_true rfl) ?_
      intro dz hdz
      obtain rfl := Eq.symm hdz
      refine x_iast dX12_measures_248 n86 s86 (by omega) (by omega) (by decide) ?_
      try simp (disch := decide) only [x_up_s, x_up_n, x_up_up, x_up_up2, x_u1_s, hT]
      refine x_aload_n dX12_measures_249 x_get_5_0 ?_
      refine x_getR dX12_measures_250 fX_12_90 n62 s62 (by rfl) ?_
      refine x_bipush dX12_measures_253 rfl ?_
      refine x_iload_n dX12_measures_255 x_get_5_3 ?_
      refine x_imul dX12_measures_256 ?_
      refine x_iload dX12_measures_257 x_get_5_4 ?_
      refine x_iadd dX12_measures_259 ?_
      refine x_as_is (show 8 * (a : Int) + (b : Int) = (a : Int) * 8 + (b : Int) by omega) ?_
      refine x_aload_n dX12_measures_260 x_get_5_0 ?_
      refine x_getR dX12_measures_261 fX_12_90 n62 s62 (by rfl) ?_
      refine x_bipush dX12_measures_264 rfl ?_
      refine x_iload_n dX12_measures_266 x_get_5_3 ?_
      refine x_imul dX12_measures_267 ?_
      refine x_iload dX12_measures_268 x_get_5_4 ?_
      refine x_iadd dX12_measures_270 ?_
      refine x_as_is (show 8 * (a : Int) + (b : Int) = (a : Int) * 8 + (b : Int) by omega) ?_
      refine x_iald dX12_measures_271 n87 s87 (by omega) (by omega) (by decide) ?_
      try simp (disch := decide) only [x_up_s, x_up_n, x_up_up, x_up_up2, x_u1_s, hT]
      refine x_aload_n dX12_measures_272 x_get_5_0 ?_
      refine x_getR dX12_measures_273 fX_12_90 n62 s62 (by rfl) ?_
      refine x_bipush dX12_measures_276 rfl ?_
      refine x_iload_n dX12_measures_278 x_get_5_3 ?_
      refine x_imul dX12_measures_279 ?_
      refine x_iload_n dX12_measures_280 x_get_5_2 ?_
      refine x_iadd dX12_measures_281 ?_
      refine x_as_is (show 8 * (a : Int) + (m : Int) = (a : Int) * 8 + (m : Int) by omega) ?_
      refine x_iald dX12_measures_282 n87 s87 (by omega) (by omega) (by decide) ?_
      try simp (disch := decide) only [x_up_s, x_up_n, x_up_up, x_up_up2, x_u1_s, hT]
      refine x_aload_n dX12_measures_283 x_get_5_0 ?_
      refine x_getR dX12_measures_284 fX_12_90 n62 s62 (by rfl) ?_
      refine x_bipush dX12_measures_287 rfl ?_
      refine x_iload_n dX12_measures_289 x_get_5_2 ?_
      refine x_imul dX12_measures_290 ?_
      refine x_iload dX12_measures_291 x_get_5_4 ?_
      refine x_iadd dX12_measures_293 ?_
      refine x_as_is (show 8 * (m : Int) + (b : Int) = (m : Int) * 8 + (b : Int) by omega) ?_
      refine x_iald dX12_measures_294 n87 s87 (by omega) (by omega) (by decide) ?_
      try simp (disch := decide) only [x_up_s, x_up_n, x_up_up, x_up_up2, x_u1_s, hT]
      refine x_iadd dX12_measures_295 ?_
      refine x_callS (As := [_, _]) dX12_measures_296 w_12_323 (m_lesser hl ⟨by omega, by omega⟩ ⟨by omega, by omega⟩) rfl rfl (Nat.le_of_ble_eq_true rfl) (Nat.le_of_ble_eq_true rfl) (Nat.le_of_ble_eq_true rfl) (Nat.le_of_ble_eq_true rfl) (Nat.le_of_ble_eq_true rfl) ?_
      intro dz hdz
      obtain rfl := Eq.symm hdz
      refine x_iast dX12_measures_299 n87 s87 (by omega) (by omega) (by decide) ?_
      try simp (disch := decide) only [x_up_s, x_up_n, x_up_up, x_up_up2, x_u1_s, hT]
      refine x_iinc dX12_measures_300 x_get_5_4 (Nat.le_of_ble_eq_true rfl) rfl x_set_5_4 ?_
      refine x_goto (t := 189) dX12_measures_303 rfl ?_
      exact ih
  have l2 : ∀ (F0 L0 : Int → Int), m_ok 99999 F0 → m_ok 99999 L0 → ∀ m : Nat, m < T → (∀ o4 : Option Value, x_W (X, l, yX12_measures, cX12_measures, 5, none, x_room 2 0 0, 0, 0, (.inl none), N, sh, (fun d => d = x_up (x_up D 86 (f_M one two span but W T)) 87 (f_M one two (fun w => span w * loss w) but W T)), false, []) 312 [some (.ref (x_b X + 62)), some (.int (xI but)), some (.int (xI (m : Int))), some (.int (xI (T : Int))), o4] [] 0 0 false N sh (x_up (x_up D 86 (m_a F0 m T T)) 87 (m_a L0 m T T))) → ∀ a : Nat, a ≤ T → ∀ o4 : Option Value, x_W (X, l, yX12_measures, cX12_measures, 5, none, x_room 2 0 0, 0, 0, (.inl none), N, sh, (fun d => d = x_up (x_up D 86 (f_M one two span but W T)) 87 (f_M one two (fun w => span w * loss w) but W T)), false, []) 178 [some (.ref (x_b X + 62)), some (.int (xI but)), some (.int (xI (m : Int))), some (.int (xI (a : Int))), o4] [] 0 0 false N sh (x_up (x_up D 86 (m_a F0 m T a)) 87 (m_a L0 m T a)) := by
    intro F0 L0 hF hL m hm kk
    refine x_down T ?_ ?_
    · intro o4
      refine x_iload_n dX12_measures_178 x_get_5_3 ?_
      refine x_aload_n dX12_measures_179 x_get_5_0 ?_
      refine x_getI 1 dX12_measures_180 fX_12_281 rfl n62 s62 (by rfl) ?_
      try simp (disch := decide) only [x_up_s, x_up_n, x_up_up, x_up_up2, x_u1_s, hT]
      refine r_icmp_ge (t := 312) dX12_measures_183 rfl ⟨by omega, by omega⟩ ⟨by omega, by omega⟩ (fun hc183 => ?_) (fun hc183 => absurd hc183 (by omega))
      exact kk _
    · intro a ha ih o4
      rw [m_a_s, m_a_s] at ih
      have kk3 : x_W (X, l, yX12_measures, cX12_measures, 5, none, x_room 2 0 0, 0, 0, (.inl none), N, sh, (fun d => d = x_up (x_up D 86 (f_M one two span but W T)) 87 (f_M one two (fun w => span w * loss w) but W T)), false, []) 306 [some (.ref (x_b X + 62)), some (.int (xI but)), some (.int (xI (m : Int))), some (.int (xI (a : Int))), some (.int (xI (T : Int)))] [] 0 0 false N sh (x_up (x_up D 86 (m_b (m_a F0 m T a) m a T)) 87 (m_b (m_a L0 m T a) m a T)) := by
        refine x_iinc dX12_measures_306 x_get_5_3 (Nat.le_of_ble_eq_true rfl) rfl x_set_5_3 ?_
        refine x_goto (t := 178) dX12_measures_309 rfl ?_
        exact ih _
      refine x_iload_n dX12_measures_178 x_get_5_3 ?_
      refine x_aload_n dX12_measures_179 x_get_5_0 ?_
      refine x_getI 1 dX12_measures_180 fX_12_281 rfl n62 s62 (by rfl) ?_
      try simp (disch := decide) only [x_up_s, x_up_n, x_up_up, x_up_up2, x_u1_s, hT]
      refine r_icmp_ge (t := 312) dX12_measures_183 rfl ⟨by omega, by omega⟩ ⟨by omega, by omega⟩ (fun hc183 => absurd hc183 (by omega)) (fun hc183 => ?_)
      refine x_iconst dX12_measures_186 ?_
      refine x_istore dX12_measures_187 (Nat.le_of_ble_eq_true rfl) rfl x_set_5_4 ?_
      exact l3 _ _ (m_ok_a hF (m : Int) T a) (m_ok_a hL (m : Int) T a) m a hm ha kk3 0 (Nat.zero_le _)
  have hF := m_ok_wb (F := 99999) (by decide) (one := one) (two := two) (but := but) hv1
  have hL := m_ok_wb (F := 99999) (by decide) (one := one) (two := two) (but := but) hv2
  have l1 : ∀ m : Nat, m ≤ T → ∀ o3 o4 : Option Value, x_W (X, l, yX12_measures, cX12_measures, 5, none, x_room 2 0 0, 0, 0, (.inl none), N, sh, (fun d => d = x_up (x_up D 86 (f_M one two span but W T)) 87 (f_M one two (fun w => span w * loss w) but W T)), false, []) 168 [some (.ref (x_b X + 62)), some (.int (xI but)), some (.int (xI (m : Int))), o3, o4] [] 0 0 false N sh (x_up (x_up D 86 (m_m (m_wb 99999 one two span but W) T m)) 87 (m_m (m_wb 99999 one two (fun w => span w * loss w) but W) T m)) := by
    refine x_down T ?_ ?_
    · intro o3 o4
      refine x_iload_n dX12_measures_168 x_get_5_2 ?_
      refine x_aload_n dX12_measures_169 x_get_5_0 ?_
      refine x_getI 1 dX12_measures_170 fX_12_281 rfl n62 s62 (by rfl) ?_
      try simp (disch := decide) only [x_up_s, x_up_n, x_up_up, x_up_up2, x_u1_s, hT]
      refine r_icmp_ge (t := 318) dX12_measures_173 rfl ⟨by omega, by omega⟩ ⟨by omega, by omega⟩ (fun hc173 => ?_) (fun hc173 => absurd hc173 (by omega))
      exact x_vret dX12_measures_318 rfl (Nat.le_of_ble_eq_true rfl) (Nat.le_of_ble_eq_true rfl) rfl rfl rfl rfl rfl
    · intro m hm ih o3 o4
      rw [m_m_s, m_m_s] at ih
      have kk2 : ∀ o4 : Option Value, x_W (X, l, yX12_measures, cX12_measures, 5, none, x_room 2 0 0, 0, 0, (.inl none), N, sh, (fun d => d = x_up (x_up D 86 (f_M one two span but W T)) 87 (f_M one two (fun w => span w * loss w) but W T)), false, []) 312 [some (.ref (x_b X + 62)), some (.int (xI but)), some (.int (xI (m : Int))), some (.int (xI (T : Int))), o4] [] 0 0 false N sh (x_up (x_up D 86 (m_a (m_m (m_wb 99999 one two span but W) T m) m T T)) 87 (m_a (m_m (m_wb 99999 one two (fun w => span w * loss w) but W) T m) m T T)) := by
        intro o4
        refine x_iinc dX12_measures_312 x_get_5_2 (Nat.le_of_ble_eq_true rfl) rfl x_set_5_2 ?_
        refine x_goto (t := 168) dX12_measures_315 rfl ?_
        exact ih _ _
      refine x_iload_n dX12_measures_168 x_get_5_2 ?_
      refine x_aload_n dX12_measures_169 x_get_5_0 ?_
      refine x_getI 1 dX12_measures_170 fX_12_281 rfl n62 s62 (by rfl) ?_
      try simp (disch := decide) only [x_up_s, x_up_n, x_up_up, x_up_up2, x_u1_s, hT]
      refine r_icmp_ge (t := 318) dX12_measures_173 rfl ⟨by omega, by omega⟩ ⟨by omega, by omega⟩ (fun hc173 => absurd hc173 (by omega)) (fun hc173 => ?_)
      refine x_iconst dX12_measures_176 ?_
      refine x_istore_n dX12_measures_177 (Nat.le_of_ble_eq_true rfl) rfl x_set_5_3 ?_
      exact l2 _ _ (m_ok_m (hF W) T m) (m_ok_m (hL W) T m) m hm kk2 0 (Nat.zero_le _) _
  have lw : ∀ w : Nat, w ≤ W → ∀ o3 o4 : Option Value, x_W (X, l, yX12_measures, cX12_measures, 5, none, x_room 2 0 0, 0, 0, (.inl none), N, sh, (fun d => d = x_up (x_up D 86 (f_M one two span but W T)) 87 (f_M one two (fun w => span w * loss w) but W T)), false, []) 52 [some (.ref (x_b X + 62)), some (.int (xI but)), some (.int (xI (w : Int))), o3, o4] [] 0 0 false N sh (x_up (x_up D 86 (m_wb 99999 one two span but w)) 87 (m_wb 99999 one two (fun w => span w * loss w) but w)) := by
    refine x_down W ?_ ?_
    · intro o3 o4
      refine x_iload_n dX12_measures_52 x_get_5_2 ?_
      refine x_aload_n dX12_measures_53 x_get_5_0 ?_
      refine x_getI 2 dX12_measures_54 fX_12_284 rfl n62 s62 (by rfl) ?_
      try simp (disch := decide) only [x_up_s, x_up_n, x_up_up, x_up_up2, x_u1_s, hW]
      refine r_icmp_ge (t := 166) dX12_measures_57 rfl ⟨by omega, by omega⟩ ⟨by omega, by omega⟩ (fun hc57 => ?_) (fun hc57 => absurd hc57 (by omega))
      refine x_iconst dX12_measures_166 ?_
      refine x_istore_n dX12_measures_167 (Nat.le_of_ble_eq_true rfl) rfl x_set_5_2 ?_
      exact l1 0 (Nat.zero_le _) _ _
    · intro w hw0 ih o3 o4
      rw [m_wb_s, m_wb_s] at ih
      obtain ⟨e65, e66, e67, e68⟩ := hw1 (w : Int) (by omega) (by omega)
      have a1 := hw2 (w : Int)
      have a2 := hw3 (w : Int)
      refine x_iload_n dX12_measures_52 x_get_5_2 ?_
      refine x_aload_n dX12_measures_53 x_get_5_0 ?_
      refine x_getI 2 dX12_measures_54 fX_12_284 rfl n62 s62 (by rfl) ?_
      try simp (disch := decide) only [x_up_s, x_up_n, x_up_up, x_up_up2, x_u1_s, hW, e65, e66, e67, e68]
      refine r_icmp_ge (t := 166) dX12_measures_57 rfl ⟨by omega, by omega⟩ ⟨by omega, by omega⟩ (fun hc57 => absurd hc57 (by omega)) (fun hc57 => ?_)
      refine x_iload_n dX12_measures_60 x_get_5_2 ?_
      refine x_iload_n dX12_measures_61 x_get_5_1 ?_
      refine r_icmp_ne (t := 68) dX12_measures_62 rfl ⟨by omega, by omega⟩ hbr (fun hc62 => ?_) (fun hc62 => ?_)
      · refine x_bipush dX12_measures_68 rfl ?_
        refine x_aload_n dX12_measures_70 x_get_5_0 ?_
        refine x_getR dX12_measures_71 fX_12_20 n62 s62 (by rfl) ?_
        refine x_iload_n dX12_measures_74 x_get_5_2 ?_
        refine x_iald dX12_measures_75 n65 s65 (by omega) (by omega) (by decide) ?_
        try simp (disch := decide) only [x_up_s, x_up_n, x_up_up, x_up_up2, x_u1_s, hW, e65, e66, e67, e68]
        refine x_imul dX12_measures_76 ?_
        refine x_aload_n dX12_measures_77 x_get_5_0 ?_
        refine x_getR dX12_measures_78 fX_12_23 n62 s62 (by rfl) ?_
        refine x_iload_n dX12_measures_81 x_get_5_2 ?_
        refine x_iald dX12_measures_82 n66 s66 (by omega) (by omega) (by decide) ?_
        try simp (disch := decide) only [x_up_s, x_up_n, x_up_up, x_up_up2, x_u1_s, hW, e65, e66, e67, e68]
        refine x_iadd dX12_measures_83 ?_
        refine x_as_is (show 8 * one (w : Int) + two (w : Int) = one (w : Int) * 8 + two (w : Int) by omega) ?_
        refine x_istore_n dX12_measures_84 (Nat.le_of_ble_eq_true rfl) rfl x_set_5_3 ?_
        refine x_bipush dX12_measures_85 rfl ?_
        refine x_aload_n dX12_measures_87 x_get_5_0 ?_
        refine x_getR dX12_measures_88 fX_12_23 n62 s62 (by rfl) ?_
        refine x_iload_n dX12_measures_91 x_get_5_2 ?_
        refine x_iald dX12_measures_92 n66 s66 (by omega) (by omega) (by decide) ?_
        try simp (disch := decide) only [x_up_s, x_up_n, x_up_up, x_up_up2, x_u1_s, hW, e65, e66, e67, e68]
        refine x_imul dX12_measures_93 ?_
        refine x_aload_n dX12_measures_94 x_get_5_0 ?_
        refine x_getR dX12_measures_95 fX_12_20 n62 s62 (by rfl) ?_
        refine x_iload_n dX12_measures_98 x_get_5_2 ?_
        refine x_iald dX12_measures_99 n65 s65 (by omega) (by omega) (by decide) ?_
        try simp (disch := decide) only [x_up_s, x_up_n, x_up_up, x_up_up2, x_u1_s, hW, e65, e66, e67, e68]
        refine x_iadd dX12_measures_100 ?_
        refine x_as_is (show 8 * two (w : Int) + one (w : Int) = two (w : Int) * 8 + one (w : Int) by omega) ?_
        refine x_istore dX12_measures_101 (Nat.le_of_ble_eq_true rfl) rfl x_set_5_4 ?_
        refine x_aload_n dX12_measures_103 x_get_5_0 ?_
        refine x_getR dX12_measures_104 fX_12_87 n62 s62 (by rfl) ?_
        refine x_iload_n dX12_measures_107 x_get_5_3 ?_
        refine x_aload_n dX12_measures_108 x_get_5_0 ?_
        refine x_getR dX12_measures_109 fX_12_26 n62 s62 (by rfl) ?_
        refine x_iload_n dX12_measures_112 x_get_5_2 ?_
        refine x_iald dX12_measures_113 n67 s67 (by omega) (by omega) (by decide) ?_
        try simp (disch := decide) only [x_up_s, x_up_n, x_up_up, x_up_up2, x_u1_s, hW, e65, e66, e67, e68]
        refine x_iast dX12_measures_114 n86 s86 (by omega) (by omega) (by decide) ?_
        try simp (disch := decide) only [x_up_s, x_up_n, x_up_up, x_up_up2, x_u1_s, hW, e65, e66, e67, e68]
        refine x_aload_n dX12_measures_115 x_get_5_0 ?_
        refine x_getR dX12_measures_116 fX_12_87 n62 s62 (by rfl) ?_
        refine x_iload dX12_measures_119 x_get_5_4 ?_
        refine x_aload_n dX12_measures_121 x_get_5_0 ?_
        refine x_getR dX12_measures_122 fX_12_26 n62 s62 (by rfl) ?_
        refine x_iload_n dX12_measures_125 x_get_5_2 ?_
        refine x_iald dX12_measures_126 n67 s67 (by omega) (by omega) (by decide) ?_
        try simp (disch := decide) only [x_up_s, x_up_n, x_up_up, x_up_up2, x_u1_s, hW, e65, e66, e67, e68]
        refine x_iast dX12_measures_127 n86 s86 (by omega) (by omega) (by decide) ?_
        try simp (disch := decide) only [x_up_s, x_up_n, x_up_up, x_up_up2, x_u1_s, hW, e65, e66, e67, e68]
        refine x_aload_n dX12_measures_128 x_get_5_0 ?_
        refine x_getR dX12_measures_129 fX_12_90 n62 s62 (by rfl) ?_
        refine x_iload_n dX12_measures_132 x_get_5_3 ?_
        refine x_aload_n dX12_measures_133 x_get_5_0 ?_
        refine x_getR dX12_measures_134 fX_12_26 n62 s62 (by rfl) ?_
        refine x_iload_n dX12_measures_137 x_get_5_2 ?_
        refine x_iald dX12_measures_138 n67 s67 (by omega) (by omega) (by decide) ?_
        try simp (disch := decide) only [x_up_s, x_up_n, x_up_up, x_up_up2, x_u1_s, hW, e65, e66, e67, e68]
        refine x_aload_n dX12_measures_139 x_get_5_0 ?_
        refine x_getR dX12_measures_140 fX_12_29 n62 s62 (by rfl) ?_
        refine x_iload_n dX12_measures_143 x_get_5_2 ?_
        refine x_iald dX12_measures_144 n68 s68 (by omega) (by omega) (by decide) ?_
        try simp (disch := decide) only [x_up_s, x_up_n, x_up_up, x_up_up2, x_u1_s, hW, e65, e66, e67, e68]
        refine x_imul dX12_measures_145 ?_
        refine x_iast dX12_measures_146 n87 s87 (by omega) (by omega) (by decide) ?_
        try simp (disch := decide) only [x_up_s, x_up_n, x_up_up, x_up_up2, x_u1_s, hW, e65, e66, e67, e68]
        refine x_aload_n dX12_measures_147 x_get_5_0 ?_
        refine x_getR dX12_measures_148 fX_12_90 n62 s62 (by rfl) ?_
        refine x_iload dX12_measures_151 x_get_5_4 ?_
        refine x_aload_n dX12_measures_153 x_get_5_0 ?_
        refine x_getR dX12_measures_154 fX_12_90 n62 s62 (by rfl) ?_
        refine x_iload_n dX12_measures_157 x_get_5_3 ?_
        refine x_iald dX12_measures_158 n87 s87 (by omega) (by omega) (by decide) ?_
        try simp (disch := decide) only [x_up_s, x_up_n, x_up_up, x_up_up2, x_u1_s, hW, e65, e66, e67, e68]
        refine x_iast dX12_measures_159 n87 s87 (by omega) (by omega) (by decide) ?_
        try simp (disch := decide) only [x_up_s, x_up_n, x_up_up, x_up_up2, x_u1_s, hW, e65, e66, e67, e68]
        refine x_iinc dX12_measures_160 x_get_5_2 (Nat.le_of_ble_eq_true rfl) rfl x_set_5_2 ?_
        refine x_goto (t := 52) dX12_measures_163 rfl ?_
        first | (rw [if_pos hc62, if_pos hc62] at ih; exact ih _ _) | (rw [if_neg hc62, if_neg hc62] at ih; exact ih _ _)
      · refine x_goto (t := 160) dX12_measures_65 rfl ?_
        refine x_iinc dX12_measures_160 x_get_5_2 (Nat.le_of_ble_eq_true rfl) rfl x_set_5_2 ?_
        refine x_goto (t := 52) dX12_measures_163 rfl ?_
        first | (rw [if_pos hc62, if_pos hc62] at ih; exact ih _ _) | (rw [if_neg hc62, if_neg hc62] at ih; exact ih _ _)
  have li : ∀ k : Nat, k ≤ 64 → ∀ o3 o4 : Option Value, x_W (X, l, yX12_measures, cX12_measures, 5, none, x_room 2 0 0, 0, 0, (.inl none), N, sh, (fun d => d = x_up (x_up D 86 (f_M one two span but W T)) 87 (f_M one two (fun w => span w * loss w) but W T)), false, []) 2 [some (.ref (x_b X + 62)), some (.int (xI but)), some (.int (xI (k : Int))), o3, o4] [] 0 0 false N sh (x_up (x_up D 86 (fun j => if j < ((k : Nat) : Int) then m_ini 99999 j else D 86 j)) 87 (fun j => if j < ((k : Nat) : Int) then m_ini 99999 j else D 87 j)) := by
    refine x_down 64 ?_ ?_
    · intro o3 o4
      refine x_iload_n dX12_measures_2 x_get_5_2 ?_
      refine x_bipush dX12_measures_3 rfl ?_
      refine r_icmp_ge (t := 50) dX12_measures_5 rfl ⟨by omega, by omega⟩ ⟨by omega, by omega⟩ (fun hc5 => ?_) (fun hc5 => absurd hc5 (by omega))
      refine x_rng (m_ini 99999) s87 (fun j h0 h1 => by rw [x_up_s, if_pos h1]) ?_
      rw [x_up_up]
      refine x_rng (m_ini 99999) s86 (fun j h0 h1 => by rw [x_up_n (by decide), x_up_s, if_pos h1]) ?_
      rw [x_up_up2]
      refine x_mem (x_up_comm (by decide)) ?_
      refine x_iconst dX12_measures_50 ?_
      refine x_istore_n dX12_measures_51 (Nat.le_of_ble_eq_true rfl) rfl x_set_5_2 ?_
      exact lw 0 (Nat.zero_le _) _ _
    · intro k hk ih o3 o4
      have e86 : x_u1 (fun j => if j < ((k : Nat) : Int) then m_ini 99999 j else D 86 j) (k : Int) (m_ini 99999 (k : Int)) = (fun j => if j < ((k + 1 : Nat) : Int) then m_ini 99999 j else D 86 j) := by
        funext j
        unfold x_u1
        by_cases h1 : j = (k : Int)
        · rw [if_pos h1, if_pos (by push_cast; omega), h1]
        · rw [if_neg h1]
          dsimp only
          by_cases h2 : j < (k : Int)
          · rw [if_pos h2, if_pos (by push_cast; omega)]
          · rw [if_neg h2, if_neg (by push_cast; omega)]
      have e87 : x_u1 (fun j => if j < ((k : Nat) : Int) then m_ini 99999 j else D 87 j) (k : Int) (m_ini 99999 (k : Int)) = (fun j => if j < ((k + 1 : Nat) : Int) then m_ini 99999 j else D 87 j) := by
        funext j
        unfold x_u1
        by_cases h1 : j = (k : Int)
        · rw [if_pos h1, if_pos (by push_cast; omega), h1]
        · rw [if_neg h1]
          dsimp only
          by_cases h2 : j < (k : Int)
          · rw [if_pos h2, if_pos (by push_cast; omega)]
          · rw [if_neg h2, if_neg (by push_cast; omega)]
      rw [← e86, ← e87] at ih
      refine x_iload_n dX12_measures_2 x_get_5_2 ?_
      refine x_bipush dX12_measures_3 rfl ?_
      refine r_icmp_ge (t := 50) dX12_measures_5 rfl ⟨by omega, by omega⟩ ⟨by omega, by omega⟩ (fun hc5 => absurd hc5 (by omega)) (fun hc5 => ?_)
      refine x_aload_n dX12_measures_8 x_get_5_0 ?_
      refine x_getR dX12_measures_9 fX_12_87 n62 s62 (by rfl) ?_
      refine x_iload_n dX12_measures_12 x_get_5_2 ?_
      refine x_iload_n dX12_measures_13 x_get_5_2 ?_
      refine x_bipush dX12_measures_14 rfl ?_
      refine x_idiv dX12_measures_16 (by decide) ?_
      refine x_as_is (x_dv_nn (by omega) (by omega) (by decide) (by decide)) ?_
      refine x_iload_n dX12_measures_17 x_get_5_2 ?_
      refine x_bipush dX12_measures_18 rfl ?_
      refine x_irem dX12_measures_20 (by decide) ?_
      refine x_as_is (x_rm_nn (by omega) (by omega) (by decide) (by decide)) ?_
      refine r_icmp_ne (t := 28) dX12_measures_21 rfl ⟨by omega, by omega⟩ ⟨by omega, by omega⟩ (fun hc21 => ?_) (fun hc21 => ?_)
      · refine x_ldcw (z := 99999) dX12_measures_28 k_RX12_395 ?_
        refine x_iast dX12_measures_31 n86 s86 (by omega) (by omega) (by decide) ?_
        try simp (disch := decide) only [x_up_s, x_up_n, x_up_up, x_up_up2, x_u1_s, x_u1_u1]
        refine x_aload_n dX12_measures_32 x_get_5_0 ?_
        refine x_getR dX12_measures_33 fX_12_90 n62 s62 (by rfl) ?_
        refine x_iload_n dX12_measures_36 x_get_5_2 ?_
        refine x_aload_n dX12_measures_37 x_get_5_0 ?_
        refine x_getR dX12_measures_38 fX_12_87 n62 s62 (by rfl) ?_
        refine x_iload_n dX12_measures_41 x_get_5_2 ?_
        refine x_iald dX12_measures_42 n86 s86 (by omega) (by omega) (by decide) ?_
        try simp (disch := decide) only [x_up_s, x_up_n, x_up_up, x_up_up2, x_u1_s, x_u1_u1]
        refine x_iast dX12_measures_43 n87 s87 (by omega) (by omega) (by decide) ?_
        try simp (disch := decide) only [x_up_s, x_up_n, x_up_up, x_up_up2, x_u1_s, x_u1_u1]
        refine x_iinc dX12_measures_44 x_get_5_2 (Nat.le_of_ble_eq_true rfl) rfl x_set_5_2 ?_
        refine x_goto (t := 2) dX12_measures_47 rfl ?_
        first | (rw [show m_ini 99999 (k : Int) = 0 from if_pos (by omega)] at ih; exact ih _ _) | (rw [show m_ini 99999 (k : Int) = 99999 from if_neg (by omega)] at ih; exact ih _ _)
      · refine x_iconst dX12_measures_24 ?_
        refine x_goto (t := 31) dX12_measures_25 rfl ?_
        refine x_iast dX12_measures_31 n86 s86 (by omega) (by omega) (by decide) ?_
        try simp (disch := decide) only [x_up_s, x_up_n, x_up_up, x_up_up2, x_u1_s, x_u1_u1]
        refine x_aload_n dX12_measures_32 x_get_5_0 ?_
        refine x_getR dX12_measures_33 fX_12_90 n62 s62 (by rfl) ?_
        refine x_iload_n dX12_measures_36 x_get_5_2 ?_
        refine x_aload_n dX12_measures_37 x_get_5_0 ?_
        refine x_getR dX12_measures_38 fX_12_87 n62 s62 (by rfl) ?_
        refine x_iload_n dX12_measures_41 x_get_5_2 ?_
        refine x_iald dX12_measures_42 n86 s86 (by omega) (by omega) (by decide) ?_
        try simp (disch := decide) only [x_up_s, x_up_n, x_up_up, x_up_up2, x_u1_s, x_u1_u1]
        refine x_iast dX12_measures_43 n87 s87 (by omega) (by omega) (by decide) ?_
        try simp (disch := decide) only [x_up_s, x_up_n, x_up_up, x_up_up2, x_u1_s, x_u1_u1]
        refine x_iinc dX12_measures_44 x_get_5_2 (Nat.le_of_ble_eq_true rfl) rfl x_set_5_2 ?_
        refine x_goto (t := 2) dX12_measures_47 rfl ?_
        first | (rw [show m_ini 99999 (k : Int) = 0 from if_pos (by omega)] at ih; exact ih _ _) | (rw [show m_ini 99999 (k : Int) = 99999 from if_neg (by omega)] at ih; exact ih _ _)
  refine x_ofW (by decide +kernel) hl (by simp [Value.category]) (by simp) ?_
  refine x_iconst dX12_measures_0 ?_
  refine x_istore_n dX12_measures_1 (Nat.le_of_ble_eq_true rfl) rfl x_set_5_2 ?_
  refine x_rng (fun j => if j < ((0 : Nat) : Int) then m_ini 99999 j else D 86 j) s86 (fun j h0 h1 => by rw [if_neg (by omega)]) ?_
  refine x_rng (fun j => if j < ((0 : Nat) : Int) then m_ini 99999 j else D 87 j) s87 (fun j h0 h1 => by rw [x_up_n (by decide), if_neg (by omega)]) ?_
  exact li 0 (Nat.zero_le _) _ _
theorem m_orNone {X : xC} {l : Launch} (hl : l.stackTraces = false) {N : Nat} {sh : xS} {D : xM} {v : Int} (hv : x_r v) : x_M X l yX12_orNone cX12_orNone 1 (some .int) 1 0 0 [.int (xI v)] false N sh D (.inl (some (.int (xI (e_none 99999 v))))) false N sh (x_is (D)) := by
  refine x_ofW (by decide +kernel) hl (by simp [Value.category]) (by simp) ?_
  refine x_iload_n dX12_orNone_0 x_get_1_0 ?_
  refine x_ldcw (z := 99999) dX12_orNone_1 k_RX12_395 ?_
  refine r_icmp_lt (t := 11) dX12_orNone_4 rfl hv ⟨by decide, by decide⟩ (fun hc4 => ?_) (fun hc4 => ?_)
  · refine x_iload_n dX12_orNone_11 x_get_1_0 ?_
    exact x_iret dX12_orNone_12 rfl (Nat.le_of_ble_eq_true rfl) (Nat.le_of_ble_eq_true rfl) (by unfold e_none; first | (rw [if_pos (by omega)]; done) | (rw [if_neg (by omega)]; done)) rfl rfl rfl rfl
  · refine x_iconst dX12_orNone_7 ?_
    refine x_goto (t := 12) dX12_orNone_8 rfl ?_
    exact x_iret dX12_orNone_12 rfl (Nat.le_of_ble_eq_true rfl) (Nat.le_of_ble_eq_true rfl) (by unfold e_none; first | (rw [if_pos (by omega)]; done) | (rw [if_neg (by omega)]; done)) rfl rfl rfl rfl
end M74
