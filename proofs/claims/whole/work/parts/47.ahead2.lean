section C47
theorem l_day_in {T C : Nat} {G : Ldt} {f : Int → Int} {M : Int} (hM : 0 ≤ M) (h : ∀ i : Nat, i ≤ 60 → -M ≤ v_won T (s_days G T C f i) ∧ v_won T (s_days G T C f i) ≤ M) : ∀ n : Nat, n ≤ 60 → 0 ≤ (l_day T C G f n).1 ∧ (l_day T C G f n).1 ≤ n ∧ -(2 * M) ≤ (l_day T C G f n).2 ∧ (l_day T C G f n).2 ≤ 2 * M
  | 0, _ => by simp [l_day]; omega
  | n + 1, hn => by
    have h1 := l_day_in hM h n (by omega)
    have h2 := h n (by omega)
    have h3 := h (n + 1) (by omega)
    rw [l_day_s]
    push_cast
    split
    · simp only; omega
    · omega
theorem x_sum_in {f : Int → Int} {M : Int} (h : ∀ i : Int, 0 ≤ i → i < 8 → 0 ≤ f i ∧ f i ≤ M) : ∀ n : Nat, n ≤ 8 → 0 ≤ x_sum f n ∧ x_sum f n ≤ n * M
  | 0, _ => by simp [x_sum]
  | n + 1, hn => by
    have h1 := x_sum_in h n (by omega)
    have h2 := h n (by omega) (by omega)
    rw [x_sum]
    push_cast
    rw [Int.add_mul, Int.one_mul]
    omega
theorem x_avg_in {f : Int → Int} {M : Int} (h : ∀ i : Int, 0 ≤ i → i < 8 → 0 ≤ f i ∧ f i ≤ M) {T : Nat} (hT : T ≤ 8) (h0 : 0 < T) : 0 ≤ x_sum f T / T ∧ x_sum f T / T ≤ M := by
  have h1 := x_sum_in h T hT
  have hp : (0 : Int) < T := by omega
  refine ⟨Int.ediv_nonneg h1.1 (by omega), ?_⟩
  exact Int.ediv_le_of_le_mul hp (by rw [Int.mul_comm]; exact h1.2)
theorem s_ok_sh {B : Int} {f : Int → Int} (h : s_ok B f) {u v : Int} (hu : 0 ≤ u ∧ u ≤ 9999) (hv : 0 ≤ v ∧ v ≤ 9999) : ∀ n : Nat, n ≤ 8 → s_ok B (s_sh f u v n)
  | 0, _ => h
  | n + 1, hn => by
    refine s_ok_u1 (s_ok_u1 (s_ok_sh h hu hv n (by omega)) ?_) ?_
    · exact ⟨fun a => by omega, fun _ _ => hu, fun a => by omega, fun a => by omega, fun a => by omega, fun a => by omega, fun a => by omega⟩
    · exact ⟨fun a => by omega, fun _ _ => hv, fun a => by omega, fun a => by omega, fun a => by omega, fun a => by omega, fun a => by omega⟩
theorem s_ok_share {B : Int} {f : Int → Int} (h : s_ok B f) {T : Nat} (hT : T ≤ 8) : s_ok B (s_share f T) := by
  unfold s_share
  rcases Nat.eq_zero_or_pos T with h0 | h0
  · subst h0; exact h
  · exact s_ok_sh h (x_avg_in (fun i a b => (s_tn h a b).1) hT h0) (x_avg_in (fun i a b => (s_tn h a b).2.1) hT h0) T hT
def s_opall (f : Int → Int) : Nat → Int → Int
  | 0 => f
  | n + 1 => if s_lies (s_opall f n) n then s_opn (s_opall f n) n else s_opall f n
theorem s_opall_s {f : Int → Int} {n : Nat} : s_opall f (n + 1) = if s_lies (s_opall f n) n then s_opn (s_opall f n) n else s_opall f n := rfl
theorem s_ok_opall {B : Int} {f : Int → Int} (h : s_ok B f) : ∀ n : Nat, n ≤ 10 → s_ok B (s_opall f n)
  | 0, _ => h
  | n + 1, hn => by
    have h1 := s_ok_opall h n (by omega)
    rw [s_opall_s]
    split
    · next hp =>
      have h2 := (s_cr h1 (c := (n : Int)) (by omega) (by omega)).2.2.2.1
      exact s_ok_opn h1 (by omega) (by omega) (by have := hp.1; omega)
    · exact h1
def v_wo (T C : Nat) (G : Ldt) (f : Int → Int) (c : Int) : Int := v_won T (s_days G T C (s_opall (s_lose f c) C) 30)
def l_miss (T C : Nat) (G : Ldt) (f : Int → Int) : Nat → Int × Int
  | 0 => (-1, 0)
  | c + 1 => if s_lies f c ∧ ((l_miss T C G f c).1 = -1 ∨ v_wo T C G f c < (l_miss T C G f c).2) then ((c : Int), v_wo T C G f c) else l_miss T C G f c
theorem l_miss_s {T C : Nat} {G : Ldt} {f : Int → Int} {c : Nat} : l_miss T C G f (c + 1) = if s_lies f c ∧ ((l_miss T C G f c).1 = -1 ∨ v_wo T C G f c < (l_miss T C G f c).2) then ((c : Int), v_wo T C G f c) else l_miss T C G f c := rfl
theorem l_miss_in {T C : Nat} {G : Ldt} {f : Int → Int} {M : Int} (hM : 0 ≤ M) (h : ∀ c : Nat, c < 10 → -M ≤ v_wo T C G f c ∧ v_wo T C G f c ≤ M) : ∀ n : Nat, n ≤ 10 → -1 ≤ (l_miss T C G f n).1 ∧ (l_miss T C G f n).1 < 10 ∧ -M ≤ (l_miss T C G f n).2 ∧ (l_miss T C G f n).2 ≤ M
  | 0, _ => by simp [l_miss]; omega
  | n + 1, hn => by
    have h1 := l_miss_in hM h n (by omega)
    have h2 := h n (by omega)
    rw [l_miss_s]
    split
    · simp only; omega
    · exact h1
def v_lend (G : Ldt) (f : Int → Int) (t : Int) : Int := if G.2.2 f t < 7 then -1 else (fun z : Int => if z = -1 then 0 else f (1 + t) - z) (x_first (fun r => 7 ≤ G.2.2 (x_u1 f (1 + t) r) t) (f (1 + t)).toNat)
def q_lend (T : Nat) (G : Ldt) (f : Int → Int) (t : Int) : x_O := if 0 ≤ t ∧ t < T then o_i (v_lend G f t) else .inr x_NSE
def v_game (C : Nat) (G : Ldt) (f : Int → Int) (t u x y : Int) : Int := s_towns G C (x_u1 f (1 + t) (min 9999 (f (1 + t) - x * (f (1 + t) / 10) + y * (f (1 + u) / 10)))) t 10 (17 + t)
abbrev p_rest (C : Nat) (G : Ldt) (f : Int → Int) (t u x y : Int) : Prop := v_game C G f t u (1 - x) y ≤ v_game C G f t u x y
def g_stp (C : Nat) (G : Ldt) (f : Int → Int) (t u : Int) (p : Int × Int) (x y : Int) : Int × Int := if p_rest C G f t u x y ∧ p_rest C G f u t y x then (p.1 + 1, if p.2 = -1 then 10 * x + y else p.2) else p
theorem g_stp_in {C : Nat} {G : Ldt} {f : Int → Int} {t u : Int} {p : Int × Int} {x y : Int} (h : -1 ≤ p.2 ∧ p.2 ≤ 11) (hx : x = 0 ∨ x = 1) (hy : y = 0 ∨ y = 1) : -1 ≤ (g_stp C G f t u p x y).2 ∧ (g_stp C G f t u p x y).2 ≤ 11 := by
  unfold g_stp
  split
  · simp only; split <;> omega
  · exact h
def l_game (C : Nat) (G : Ldt) (f : Int → Int) (t u : Int) : Int × Int := g_stp C G f t u (g_stp C G f t u (g_stp C G f t u (g_stp C G f t u (0, -1) 0 0) 0 1) 1 0) 1 1
def q_game (T C : Nat) (G : Ldt) (f : Int → Int) (t u w : Int) : x_O := if 0 ≤ t ∧ t < T then (if 0 ≤ u ∧ u < T then (if 0 ≤ w ∧ w ≤ 1 then (if t = u then .inr x_IAE else o_i (if w = 0 then (l_game C G f t u).1 else (l_game C G f t u).2)) else .inr x_NSE) else .inr x_NSE) else .inr x_NSE
def y_pre (C : Nat) (p : (Int → Int) × Int) : (Int → Int) × Int := if d_val (d_next p.2) 9 = 0 ∧ 0 < C then (s_steal p.1 (d_val (d_next (d_next p.2)) C), d_next (d_next p.2)) else (p.1, d_next p.2)
def y_st (T C : Nat) (G : Ldt) (f : Int → Int) (s : Int) : Nat → (Int → Int) × Int
  | 0 => (f, s)
  | n + 1 => s_drawn G T C (y_pre C (y_st T C G f s n)).1 (y_pre C (y_st T C G f s n)).2
theorem y_st_s {T C : Nat} {G : Ldt} {f : Int → Int} {s : Int} {n : Nat} : y_st T C G f s (n + 1) = s_drawn G T C (y_pre C (y_st T C G f s n)).1 (y_pre C (y_st T C G f s n)).2 := rfl
theorem s_ok_pre {B : Int} {C : Nat} {p : (Int → Int) × Int} (h : s_ok B p.1) (hC : C ≤ 10) : s_ok B (y_pre C p).1 := by
  unfold y_pre
  split
  · next hp =>
    have := d_val_in (d_next p.2) (n := (C : Int)) (by omega)
    exact s_ok_steal h (by omega) (by omega)
  · exact h
theorem s_ok_yst {B : Int} {f : Int → Int} (h : s_ok B f) {G : Ldt} (hG1 : ∀ j, 0 ≤ G.1 j ∧ G.1 j ≤ 20) (hG2 : ∀ j, 0 ≤ G.2.1 j ∧ G.2.1 j ≤ 20) {T C : Nat} (hT : T ≤ 8) (hC : C ≤ 10) (s : Int) : ∀ n : Nat, s_ok (B + 161 * n) (y_st T C G f s n).1
  | 0 => by simpa [y_st] using h
  | n + 1 => by
    rw [y_st_s]
    exact s_ok_le (by push_cast; omega) (s_ok_drawn (s_ok_pre (s_ok_yst h hG1 hG2 hT hC s n) hC) hG1 hG2 _ hT hC)
def v_years (T C : Nat) (p : Int → Int) (w : Int) : Int := if w = 0 then v_won T p else if w = 1 then x_sum (fun i => p (1 + i)) T else ((s_pop (s_bits (fun c => s_gone p c) C) : Nat) : Int)
def q_years (T C : Nat) (G : Ldt) (f : Int → Int) (s n w : Int) : x_O := if 0 ≤ w ∧ w ≤ 2 then (if 0 ≤ n ∧ n ≤ 60 then o_i (v_years T C (y_st T C G f s n.toNat).1 w) else .inr x_IAE) else .inr x_NSE
theorem s_come_in {B : Int} {f : Int → Int} (h : s_ok B f) {c : Int} (h0 : 0 ≤ c) (h1 : c < 10) : 0 ≤ s_come f c ∧ s_come f c ≤ 99 := by
  obtain ⟨⟨g1, g2⟩, -, -, -, ⟨t1, t2⟩, s1, s2⟩ := s_cr h h0 h1
  have hm := s_mul9 t1 t2 s1 s2
  unfold s_come
  split <;> omega
theorem c9_shareA {X : xC} {l : Launch} (hl : l.stackTraces = false) {N : Nat} {sh : xS} {D : xM} {r a : Nat} (hs : is_St N sh r a) {B : Int} (hB : B ≤ 1000000) (hk : s_ok B (D a)) {T : Nat} (h0 : T ≤ 8) : x_M X l yX9_share cX9_share 5 (none) 2 0 0 [.ref (x_b X + r), .int (xI T)] false N sh D (.inl none) false N sh (x_is (x_up D a (s_share (D a) T))) := by
  rcases Nat.eq_zero_or_pos T with h1 | h1
  · subst h1
    have e : x_up D a (s_share (D a) 0) = D := x_up_id
    rw [e]
    exact c9_share0 hl hs
  · exact c9_share hl hs hB hk h0 h1
theorem w_11_204 : x_cv RX11 204 yX9_lies cX9_lies 2 (some .boolean) 9 1 := ⟨⟨_, rfl, rfl⟩, (x_in 506 (by decide +kernel) rfl), (x_in 507 (by decide +kernel) rfl), (x_in 508 (by decide +kernel) rfl), (x_in 85 (by decide +kernel) rfl), (x_in 509 (by decide +kernel) rfl), by decide, ⟨by decide +kernel, by decide +kernel, by decide +kernel⟩⟩
theorem w_11_217 : x_cv RX11 217 yX9_unpack cX9_unpack 3 (some .int) 9 1 := ⟨⟨_, rfl, rfl⟩, (x_in 531 (by decide +kernel) rfl), (x_in 532 (by decide +kernel) rfl), (x_in 533 (by decide +kernel) rfl), (x_in 85 (by decide +kernel) rfl), (x_in 534 (by decide +kernel) rfl), by decide, ⟨by decide +kernel, by decide +kernel, by decide +kernel⟩⟩
theorem w_11_245 : x_cs RX11 245 yX11_needWhat cX11_needWhat 2 (none) 2 := ⟨(x_in 1128 (by decide +kernel) rfl), (x_in 1129 (by decide +kernel) rfl), (x_in 80 (by decide +kernel) rfl), (x_in 1130 (by decide +kernel) rfl), by decide, ⟨by decide +kernel, by decide +kernel, by decide +kernel⟩⟩
theorem w_11_248 : x_cv RX11 248 yX9_passDay cX9_passDay 3 (none) 9 1 := ⟨⟨_, rfl, rfl⟩, (x_in 1315 (by decide +kernel) rfl), (x_in 443 (by decide +kernel) rfl), (x_in 444 (by decide +kernel) rfl), (x_in 85 (by decide +kernel) rfl), (x_in 445 (by decide +kernel) rfl), by decide, ⟨by decide +kernel, by decide +kernel, by decide +kernel⟩⟩
theorem w_11_252 : x_cv RX11 252 yX9_wonIn cX9_wonIn 4 (some .int) 9 2 := ⟨⟨_, rfl, rfl⟩, (x_in 536 (by decide +kernel) rfl), (x_in 537 (by decide +kernel) rfl), (x_in 538 (by decide +kernel) rfl), (x_in 85 (by decide +kernel) rfl), (x_in 539 (by decide +kernel) rfl), by decide, ⟨by decide +kernel, by decide +kernel, by decide +kernel⟩⟩
theorem w_11_256 : x_cv RX11 256 yX9_share cX9_share 5 (none) 9 1 := ⟨⟨_, rfl, rfl⟩, (x_in 1216 (by decide +kernel) rfl), (x_in 1217 (by decide +kernel) rfl), (x_in 1218 (by decide +kernel) rfl), (x_in 85 (by decide +kernel) rfl), (x_in 1219 (by decide +kernel) rfl), by decide, ⟨by decide +kernel, by decide +kernel, by decide +kernel⟩⟩
theorem w_11_259 : x_cv RX11 259 yX11_wonWithout cX11_wonWithout 3 (some .int) 11 1 := ⟨⟨_, rfl, rfl⟩, (x_in 518 (by decide +kernel) rfl), (x_in 520 (by decide +kernel) rfl), (x_in 2 (by decide +kernel) rfl), (x_in 80 (by decide +kernel) rfl), (x_in 521 (by decide +kernel) rfl), by decide, ⟨by decide +kernel, by decide +kernel, by decide +kernel⟩⟩
theorem w_11_262 : x_cv RX11 262 yX9_isMoving cX9_isMoving 2 (some .boolean) 9 1 := ⟨⟨_, rfl, rfl⟩, (x_in 548 (by decide +kernel) rfl), (x_in 515 (by decide +kernel) rfl), (x_in 516 (by decide +kernel) rfl), (x_in 85 (by decide +kernel) rfl), (x_in 517 (by decide +kernel) rfl), by decide, ⟨by decide +kernel, by decide +kernel, by decide +kernel⟩⟩
theorem w_11_265 : x_cv RX11 265 yX9_grainsThatCome cX9_grainsThatCome 2 (some .int) 9 1 := ⟨⟨_, rfl, rfl⟩, (x_in 549 (by decide +kernel) rfl), (x_in 550 (by decide +kernel) rfl), (x_in 551 (by decide +kernel) rfl), (x_in 85 (by decide +kernel) rfl), (x_in 552 (by decide +kernel) rfl), by decide, ⟨by decide +kernel, by decide +kernel, by decide +kernel⟩⟩
theorem w_11_302 : x_cs RX11 302 yJ6_bitCount_0f7a4 cJ6_bitCount_0f7a4 1 (some .int) 1 := ⟨(x_in 1092 (by decide +kernel) rfl), (x_in 473 (by decide +kernel) rfl), (x_in 102 (by decide +kernel) rfl), (x_in 474 (by decide +kernel) rfl), by decide, ⟨by decide +kernel, by decide +kernel, by decide +kernel⟩⟩
theorem w_11_353 : x_cv RX11 353 yX11_rests cX11_rests 6 (some .boolean) 11 4 := ⟨⟨_, rfl, rfl⟩, (x_in 1228 (by decide +kernel) rfl), (x_in 1230 (by decide +kernel) rfl), (x_in 14 (by decide +kernel) rfl), (x_in 80 (by decide +kernel) rfl), (x_in 1231 (by decide +kernel) rfl), by decide, ⟨by decide +kernel, by decide +kernel, by decide +kernel⟩⟩
theorem w_11_360 : x_cv RX11 360 yX2_draw cX2_draw 2 (some .int) 2 1 := ⟨⟨_, rfl, rfl⟩, (x_in 1244 (by decide +kernel) rfl), (x_in 1245 (by decide +kernel) rfl), (x_in 1246 (by decide +kernel) rfl), (x_in 89 (by decide +kernel) rfl), (x_in 1247 (by decide +kernel) rfl), by decide, ⟨by decide +kernel, by decide +kernel, by decide +kernel⟩⟩
theorem w_11_363 : x_cv RX11 363 yX9_steal cX9_steal 2 (none) 9 1 := ⟨⟨_, rfl, rfl⟩, (x_in 1249 (by decide +kernel) rfl), (x_in 1250 (by decide +kernel) rfl), (x_in 1251 (by decide +kernel) rfl), (x_in 85 (by decide +kernel) rfl), (x_in 1252 (by decide +kernel) rfl), by decide, ⟨by decide +kernel, by decide +kernel, by decide +kernel⟩⟩
theorem w_11_366 : x_cv RX11 366 yX9_passDayByDraws cX9_passDayByDraws 5 (none) 9 2 := ⟨⟨_, rfl, rfl⟩, (x_in 1253 (by decide +kernel) rfl), (x_in 1254 (by decide +kernel) rfl), (x_in 1255 (by decide +kernel) rfl), (x_in 85 (by decide +kernel) rfl), (x_in 1256 (by decide +kernel) rfl), by decide, ⟨by decide +kernel, by decide +kernel, by decide +kernel⟩⟩
theorem w_11_390 : x_cv RX11 390 yX9_lose cX9_lose 2 (none) 9 1 := ⟨⟨_, rfl, rfl⟩, (x_in 527 (by decide +kernel) rfl), (x_in 528 (by decide +kernel) rfl), (x_in 529 (by decide +kernel) rfl), (x_in 85 (by decide +kernel) rfl), (x_in 530 (by decide +kernel) rfl), by decide, ⟨by decide +kernel, by decide +kernel, by decide +kernel⟩⟩
theorem w_11_393 : x_cv RX11 393 yX11_wonInGame cX11_wonInGame 8 (some .int) 11 4 := ⟨⟨_, rfl, rfl⟩, (x_in 1232 (by decide +kernel) rfl), (x_in 1234 (by decide +kernel) rfl), (x_in 15 (by decide +kernel) rfl), (x_in 80 (by decide +kernel) rfl), (x_in 1235 (by decide +kernel) rfl), by decide, ⟨by decide +kernel, by decide +kernel, by decide +kernel⟩⟩
theorem w_11_396 : x_mw RX11 396 Lib.Math.min.name Lib.Math.min.code 2 := ⟨(x_in 1236 (by decide +kernel) rfl), (x_in 462 (by decide +kernel) rfl), (x_in 95 (by decide +kernel) rfl), (x_in 463 (by decide +kernel) rfl)⟩
theorem c11_day {X : xC} {l : Launch} (hl : l.stackTraces = false) {N : Nat} {sh : xS} {D : xM} {la lb T C W : Nat} {G : Ldt} (hq : cq N sh D la lb T C W G) {n w : Int} (hnr : x_r n) (hwr : x_r w) : x_M X l yX11_day cX11_day 8 (some .int) 7 1 6 [.ref (x_b X + 0), .int (xI n), .int (xI w)] false N sh D (q_day T C G (D 34) n w) false N sh (sc la D) := by
  obtain ⟨hX, hG, hR, ⟨hk, hd9, hpl⟩, hco⟩ := id hq
  obtain ⟨hN, x0, x1, x2, xla, xlb, x33, x35, x37, x39, x43, x45, x47, x51, x60, x61, hll⟩ := id hX
  have hla : la = 3 ∨ la = 18 := by omega
  have n0 : 0 < N := by omega
  have n1 : 1 < N := by omega
  have n2 : 2 < N := by omega
  have n33 : 33 < N := by omega
  have n34 : 34 < N := by omega
  have n35 : 35 < N := by omega
  have n36 : 36 < N := by omega
  have n37 : 37 < N := by omega
  have n38 : 38 < N := by omega
  have n39 : 39 < N := by omega
  have n40 : 40 < N := by omega
  have n41 : 41 < N := by omega
  have n42 : 42 < N := by omega
  have n43 : 43 < N := by omega
  have n45 : 45 < N := by omega
  have n47 : 47 < N := by omega
  have n51 : 51 < N := by omega
  have n60 : 60 < N := by omega
  have n61 : 61 < N := by omega
  have x33a := x33.2.1
  have x34 := x33.2.2.2
  have x35a := x35.2.1
  have x36 := x35.2.2.2
  have x37a := x37.2.1
  have x38 := x37.2.2.2
  have x39a := x39.2.1
  have x43a := x43.2.1
  have x45a := x45.2.1
  have x47a := x47.2.1
  have x51a := x51.2.1
  have xla0 := xla.2.1
  have xla1 := xla.2.2.1
  have xla2 := xla.2.2.2.1
  have hlaN : la < N := by have := xla.1; omega
  have hlaN1 : la + 1 < N := by have := xla.1; omega
  have hlaN2 : la + 2 < N := by have := xla.1; omega
  have hlaN3 : la + 3 < N := by have := xla.1; omega
  have hlaN10 : la + 10 < N := by have := xla.1; omega
  have xru := (is_L_ru xla).2.1
  have xro := (is_L_ro xla).2.1
  obtain ⟨hG1, hG2, hG3⟩ := ldG_G hG
  obtain ⟨n0', ⟨gT, gTb, gC, gCb, -⟩, -⟩ := id hG
  obtain ⟨rW, rWb, rT, -, ro1, ro2, ro3, ro4, ro5, ro6⟩ := id hR
  have hd0 : 0 ≤ D 34 0 := ((hk 0).1 rfl).1
  have hB : 161 * D 34 0 ≤ 160839 := by omega
  have hsc := sc_refl hG hco
  obtain ⟨hwr0, hwr1⟩ := id hwr
  unfold q_day
  by_cases hw : 0 ≤ w ∧ w ≤ 1
  · rw [if_pos hw]
    obtain ⟨hw0, hw1⟩ := id hw
    by_cases hn : 1 ≤ n ∧ n ≤ 60
    · rw [if_pos hn]
      obtain ⟨hn0, hn1⟩ := id hn
      obtain ⟨m, rfl⟩ := Int.eq_ofNat_of_zero_le (show 0 ≤ n by omega)
      rw [Int.toNat_natCast]
      have hvw : ∀ i : Nat, i ≤ 60 → -2000000 ≤ v_won T (s_days G T C (D 34) i) ∧ v_won T (s_days G T C (D 34) i) ≤ 2000000 := fun i hi => by
        have := v_won_in (s_ok_days hk hG1 hG2 gTb gCb i) (by omega) gTb
        omega
      have hli := l_day_in (M := 2000000) (by decide) hvw
      have hloop : ∀ k : Nat, k ≤ m → ∀ d : xM, sc la D d → d 36 = s_days G T C (D 34) k → x_W (X, l, yX11_day, cX11_day, 8, (some .int), x_room 7 1 6, 1, 6, (o_i (if w = 0 then (l_day T C G (D 34) m).1 else (l_day T C G (D 34) m).2)), N, sh, (sc la D), false, []) 49 [some (.ref (x_b X + 0)), some (.int (xI (m : Int))), some (.int (xI w)), some (.int (xI (v_won T (s_days G T C (D 34) k)))), some (.int (xI (l_day T C G (D 34) k).1)), some (.int (xI (l_day T C G (D 34) k).2)), some (.int (xI ((k : Int) + 1))), none] [] 0 0 false N sh d := by
        refine x_down m ?_ ?_
        · intro d hcd hrow
          refine x_iload dX11_day_49 x_get_8_6 ?_
          refine x_iload_n dX11_day_51 x_get_8_1 ?_
          refine r_icmp_gt (t := 117) dX11_day_52 rfl ⟨by omega, by omega⟩ ⟨by omega, by omega⟩ (fun hc52 => ?_) (fun hc52 => absurd hc52 (by omega))
          refine x_iload_n dX11_day_117 x_get_8_2 ?_
          refine r_if_ne (t := 126) dX11_day_118 rfl ⟨by omega, by omega⟩ (fun hc118 => ?_) (fun hc118 => ?_)
          · refine x_iload dX11_day_126 x_get_8_5 ?_
            exact x_iret dX11_day_128 rfl (Nat.le_of_ble_eq_true rfl) (Nat.le_of_ble_eq_true rfl) (by first | (rw [if_pos hc118]; rfl) | (rw [if_neg hc118]; rfl)) rfl rfl hcd rfl
          · refine x_iload dX11_day_121 x_get_8_4 ?_
            refine x_goto (t := 128) dX11_day_123 rfl ?_
            exact x_iret dX11_day_128 rfl (Nat.le_of_ble_eq_true rfl) (Nat.le_of_ble_eq_true rfl) (by first | (rw [if_pos hc118]; rfl) | (rw [if_neg hc118]; rfl)) rfl rfl hcd rfl
        · intro k hk2 ih d hcd hrow
          have hl1 := hli k (by omega)
          have hv1 := hvw k (by omega)
          have hv2 := hvw (k + 1) (by omega)
          refine x_iload dX11_day_49 x_get_8_6 ?_
          refine x_iload_n dX11_day_51 x_get_8_1 ?_
          refine r_icmp_gt (t := 117) dX11_day_52 rfl ⟨by omega, by omega⟩ ⟨by omega, by omega⟩ (fun hc52 => absurd hc52 (by omega)) (fun hc52 => ?_)
          refine x_aload_n dX11_day_55 x_get_8_0 ?_
          refine x_getR dX11_day_56 fX_11_34 (by assumption) (by assumption) (by rfl) ?_
          refine x_aload_n dX11_day_59 x_get_8_0 ?_
          refine x_getR dX11_day_60 fX_11_23 (by assumption) (by assumption) (by rfl) ?_
          refine x_callV (As := [_]) dX11_day_63 w_11_248 (c9_passDay hl x35 xla (ldG_sc hG hcd hla) (Or.inr (by omega)) (B := 161 * D 34 0 + 161 * (k : Nat)) (by rw [hrow]; exact s_ok_days hk hG1 hG2 gTb gCb k) (by omega)) (by assumption) (by assumption) rfl rfl (Nat.le_of_ble_eq_true rfl) (Nat.le_of_ble_eq_true rfl) (Nat.le_of_ble_eq_true rfl) (Nat.le_of_ble_eq_true rfl) (Nat.le_of_ble_eq_true rfl) ?_
          rintro d2 ⟨w2, hw2, hd2⟩
          have hcd2 : sc la D d2 := by rw [hd2]; exact sc_w (sc_36 hcd hla) hla hw2
          have hrow2 : d2 36 = s_days G T C (D 34) (k + 1) := by rw [hd2, x_up_n (by omega), x_up_s, hrow]; rfl
          refine x_aload_n dX11_day_66 x_get_8_0 ?_
          refine x_getR dX11_day_67 fX_11_34 (by assumption) (by assumption) (by rfl) ?_
          refine x_bipush dX11_day_70 rfl ?_
          refine x_aload_n dX11_day_72 x_get_8_0 ?_
          refine x_getR dX11_day_73 fX_11_23 (by assumption) (by assumption) (by rfl) ?_
          refine x_getI 0 dX11_day_76 fX_11_110 rfl (by assumption) (by assumption) (by rfl) ?_
          rw [sc_la hcd2 hla, gT]
          refine x_callV (As := [_, _]) dX11_day_79 w_11_138 (c9_sum hl x35 (fr := 17) (T := T) (by decide) (by omega)) (by assumption) (by assumption) rfl rfl (Nat.le_of_ble_eq_true rfl) (Nat.le_of_ble_eq_true rfl) (Nat.le_of_ble_eq_true rfl) (Nat.le_of_ble_eq_true rfl) (Nat.le_of_ble_eq_true rfl) ?_
          intro dz hdz
          obtain rfl := Eq.symm hdz
          refine x_as_is (show x_sum (fun i => d2 36 (17 + i)) T = v_won T (s_days G T C (D 34) (k + 1)) by rw [hrow2]; rfl) ?_
          refine x_istore dX11_day_82 (Nat.le_of_ble_eq_true rfl) rfl x_set_8_7 ?_
          refine x_iload dX11_day_84 x_get_8_4 ?_
          refine r_if_eq (t := 98) dX11_day_86 rfl ⟨by omega, by omega⟩ (fun hc86 => ?_) (fun hc86 => ?_)
          · refine x_iload dX11_day_98 x_get_8_6 ?_
            refine x_istore dX11_day_100 (Nat.le_of_ble_eq_true rfl) rfl x_set_8_4 ?_
            refine x_iload dX11_day_102 x_get_8_7 ?_
            refine x_iload_n dX11_day_104 x_get_8_3 ?_
            refine x_isub dX11_day_105 ?_
            refine x_istore dX11_day_106 (Nat.le_of_ble_eq_true rfl) rfl x_set_8_5 ?_
            refine x_iload dX11_day_108 x_get_8_7 ?_
            refine x_istore_n dX11_day_110 (Nat.le_of_ble_eq_true rfl) rfl x_set_8_3 ?_
            refine x_iinc dX11_day_111 x_get_8_6 (Nat.le_of_ble_eq_true rfl) rfl x_set_8_6 ?_
            refine x_goto (t := 49) dX11_day_114 rfl ?_
            refine x_forget 7 ?_
            first | (have e := l_day_s (T := T) (C := C) (G := G) (f := D 34) (i := k); rw [if_pos (by omega)] at e; rw [e] at ih; exact ih d2 hcd2 hrow2) | (have e := l_day_s (T := T) (C := C) (G := G) (f := D 34) (i := k); rw [if_neg (by omega)] at e; rw [e] at ih; exact ih d2 hcd2 hrow2)
          · refine x_iload dX11_day_89 x_get_8_7 ?_
            refine x_iload_n dX11_day_91 x_get_8_3 ?_
            refine x_isub dX11_day_92 ?_
            refine x_iload dX11_day_93 x_get_8_5 ?_
            refine r_icmp_le (t := 108) dX11_day_95 rfl ⟨by omega, by omega⟩ ⟨by omega, by omega⟩ (fun hc95 => ?_) (fun hc95 => ?_)
            · refine x_iload dX11_day_108 x_get_8_7 ?_
              refine x_istore_n dX11_day_110 (Nat.le_of_ble_eq_true rfl) rfl x_set_8_3 ?_
              refine x_iinc dX11_day_111 x_get_8_6 (Nat.le_of_ble_eq_true rfl) rfl x_set_8_6 ?_
              refine x_goto (t := 49) dX11_day_114 rfl ?_
              refine x_forget 7 ?_
              first | (have e := l_day_s (T := T) (C := C) (G := G) (f := D 34) (i := k); rw [if_pos (by omega)] at e; rw [e] at ih; exact ih d2 hcd2 hrow2) | (have e := l_day_s (T := T) (C := C) (G := G) (f := D 34) (i := k); rw [if_neg (by omega)] at e; rw [e] at ih; exact ih d2 hcd2 hrow2)
            · refine x_iload dX11_day_98 x_get_8_6 ?_
              refine x_istore dX11_day_100 (Nat.le_of_ble_eq_true rfl) rfl x_set_8_4 ?_
              refine x_iload dX11_day_102 x_get_8_7 ?_
              refine x_iload_n dX11_day_104 x_get_8_3 ?_
              refine x_isub dX11_day_105 ?_
              refine x_istore dX11_day_106 (Nat.le_of_ble_eq_true rfl) rfl x_set_8_5 ?_
              refine x_iload dX11_day_108 x_get_8_7 ?_
              refine x_istore_n dX11_day_110 (Nat.le_of_ble_eq_true rfl) rfl x_set_8_3 ?_
              refine x_iinc dX11_day_111 x_get_8_6 (Nat.le_of_ble_eq_true rfl) rfl x_set_8_6 ?_
              refine x_goto (t := 49) dX11_day_114 rfl ?_
              refine x_forget 7 ?_
              first | (have e := l_day_s (T := T) (C := C) (G := G) (f := D 34) (i := k); rw [if_pos (by omega)] at e; rw [e] at ih; exact ih d2 hcd2 hrow2) | (have e := l_day_s (T := T) (C := C) (G := G) (f := D 34) (i := k); rw [if_neg (by omega)] at e; rw [e] at ih; exact ih d2 hcd2 hrow2)
      refine x_ofW (by decide +kernel) hl (by simp [Value.category]) (by simp) ?_
      refine x_iload_n dX11_day_0 x_get_8_2 ?_
      refine x_iconst dX11_day_1 ?_
      refine x_callS (As := [_, _]) dX11_day_2 w_11_245 (c11_nWhat hl hw0 hw1 (by decide)) rfl rfl (Nat.le_of_ble_eq_true rfl) (Nat.le_of_ble_eq_true rfl) (Nat.le_of_ble_eq_true rfl) (Nat.le_of_ble_eq_true rfl) (Nat.le_of_ble_eq_true rfl) ?_
      intro d hd
      obtain rfl := Eq.symm hd
      refine x_iload_n dX11_day_5 x_get_8_1 ?_
      refine x_iconst dX11_day_6 ?_
      refine x_bipush dX11_day_7 rfl ?_
      refine x_callS (As := [_, _, _]) dX11_day_9 w_11_232 (c11_nIn hl hn0 hn1 (by decide) (by decide)) rfl rfl (Nat.le_of_ble_eq_true rfl) (Nat.le_of_ble_eq_true rfl) (Nat.le_of_ble_eq_true rfl) (Nat.le_of_ble_eq_true rfl) (Nat.le_of_ble_eq_true rfl) ?_
      intro d hd
      obtain rfl := Eq.symm hd
      refine x_aload_n dX11_day_12 x_get_8_0 ?_
      refine x_getR dX11_day_13 fX_11_34 (by assumption) (by assumption) (by rfl) ?_
      refine x_aload_n dX11_day_16 x_get_8_0 ?_
      refine x_getR dX11_day_17 fX_11_30 (by assumption) (by assumption) (by rfl) ?_
      refine x_callV (As := [_]) dX11_day_20 w_11_121 (c9_take2 hl x35 x33) (by assumption) (by assumption) rfl rfl (Nat.le_of_ble_eq_true rfl) (Nat.le_of_ble_eq_true rfl) (Nat.le_of_ble_eq_true rfl) (Nat.le_of_ble_eq_true rfl) (Nat.le_of_ble_eq_true rfl) ?_
      rintro d1 hd1
      have hcd1 : sc la D d1 := by rw [hd1]; exact sc_36 hsc hla
      have hrow1 : d1 36 = D 34 := by rw [hd1, x_up_s]
      refine x_aload_n dX11_day_23 x_get_8_0 ?_
      refine x_getR dX11_day_24 fX_11_34 (by assumption) (by assumption) (by rfl) ?_
      refine x_bipush dX11_day_27 rfl ?_
      refine x_aload_n dX11_day_29 x_get_8_0 ?_
      refine x_getR dX11_day_30 fX_11_23 (by assumption) (by assumption) (by rfl) ?_
      refine x_getI 0 dX11_day_33 fX_11_110 rfl (by assumption) (by assumption) (by rfl) ?_
      rw [sc_la hcd1 hla, gT]
      refine x_callV (As := [_, _]) dX11_day_36 w_11_138 (c9_sum hl x35 (fr := 17) (T := T) (by decide) (by omega)) (by assumption) (by assumption) rfl rfl (Nat.le_of_ble_eq_true rfl) (Nat.le_of_ble_eq_true rfl) (Nat.le_of_ble_eq_true rfl) (Nat.le_of_ble_eq_true rfl) (Nat.le_of_ble_eq_true rfl) ?_
      intro dz hdz
      obtain rfl := Eq.symm hdz
      refine x_as_is (show x_sum (fun i => d1 36 (17 + i)) T = v_won T (s_days G T C (D 34) 0) by rw [hrow1]; rfl) ?_
      refine x_istore_n dX11_day_39 (Nat.le_of_ble_eq_true rfl) rfl x_set_8_3 ?_
      refine x_iconst dX11_day_40 ?_
      refine x_istore dX11_day_41 (Nat.le_of_ble_eq_true rfl) rfl x_set_8_4 ?_
      refine x_iconst dX11_day_43 ?_
      refine x_istore dX11_day_44 (Nat.le_of_ble_eq_true rfl) rfl x_set_8_5 ?_
      refine x_iconst dX11_day_46 ?_
      refine x_istore dX11_day_47 (Nat.le_of_ble_eq_true rfl) rfl x_set_8_6 ?_
      exact hloop 0 (Nat.zero_le _) d1 hcd1 hrow1
    · rw [if_neg hn]
      refine x_ofW (by decide +kernel) hl (by simp [Value.category]) (by simp) ?_
      refine x_iload_n dX11_day_0 x_get_8_2 ?_
      refine x_iconst dX11_day_1 ?_
      refine x_callS (As := [_, _]) dX11_day_2 w_11_245 (c11_nWhat hl hw0 hw1 (by decide)) rfl rfl (Nat.le_of_ble_eq_true rfl) (Nat.le_of_ble_eq_true rfl) (Nat.le_of_ble_eq_true rfl) (Nat.le_of_ble_eq_true rfl) (Nat.le_of_ble_eq_true rfl) ?_
      intro d hd
      obtain rfl := Eq.symm hd
      refine x_iload_n dX11_day_5 x_get_8_1 ?_
      refine x_iconst dX11_day_6 ?_
      refine x_bipush dX11_day_7 rfl ?_
      exact x_callST (As := [_, _, _]) dX11_day_9 w_11_232 (c11_nInT hl hnr hn (by decide) (by decide) (by decide) (by decide)) rfl rfl (Nat.le_of_ble_eq_true rfl) (Nat.le_of_ble_eq_true rfl) (Nat.le_of_ble_eq_true rfl) (Nat.le_of_ble_eq_true rfl) (Nat.le_of_ble_eq_true rfl) rfl rfl rfl rfl (fun d hd => by obtain rfl := Eq.symm hd; exact hsc) rfl (Nat.le_of_ble_eq_true rfl) (Nat.le_of_ble_eq_true rfl)
  · rw [if_neg hw]
    refine x_ofW (by decide +kernel) hl (by simp [Value.category]) (by simp) ?_
    refine x_iload_n dX11_day_0 x_get_8_2 ?_
    refine x_iconst dX11_day_1 ?_
    exact x_callST (As := [_, _]) dX11_day_2 w_11_245 (c11_nWhatT hl hwr hw (by decide) (by decide)) rfl rfl (Nat.le_of_ble_eq_true rfl) (Nat.le_of_ble_eq_true rfl) (Nat.le_of_ble_eq_true rfl) (Nat.le_of_ble_eq_true rfl) (Nat.le_of_ble_eq_true rfl) rfl rfl rfl rfl (fun d hd => by obtain rfl := Eq.symm hd; exact hsc) rfl (Nat.le_of_ble_eq_true rfl) (Nat.le_of_ble_eq_true rfl)
theorem c11_pooled {X : xC} {l : Launch} (hl : l.stackTraces = false) {N : Nat} {sh : xS} {D : xM} {la lb T C W : Nat} {G : Ldt} (hq : cq N sh D la lb T C W G) {n : Int} (hnr : x_r n) : x_M X l yX11_pooled cX11_pooled 3 (some .int) 8 1 6 [.ref (x_b X + 0), .int (xI n)] false N sh D (q_pooled T C G (D 34) n) false N sh (sc la D) := by
  obtain ⟨hX, hG, hR, ⟨hk, hd9, hpl⟩, hco⟩ := id hq
  obtain ⟨hN, x0, x1, x2, xla, xlb, x33, x35, x37, x39, x43, x45, x47, x51, x60, x61, hll⟩ := id hX
  have hla : la = 3 ∨ la = 18 := by omega
  have n0 : 0 < N := by omega
  have n1 : 1 < N := by omega
  have n2 : 2 < N := by omega
  have n33 : 33 < N := by omega
  have n34 : 34 < N := by omega
  have n35 : 35 < N := by omega
  have n36 : 36 < N := by omega
  have n37 : 37 < N := by omega
  have n38 : 38 < N := by omega
  have n39 : 39 < N := by omega
  have n40 : 40 < N := by omega
  have n41 : 41 < N := by omega
  have n42 : 42 < N := by omega
  have n43 : 43 < N := by omega
  have n45 : 45 < N := by omega
  have n47 : 47 < N := by omega
  have n51 : 51 < N := by omega
  have n60 : 60 < N := by omega
  have n61 : 61 < N := by omega
  have x33a := x33.2.1
  have x34 := x33.2.2.2
  have x35a := x35.2.1
  have x36 := x35.2.2.2
  have x37a := x37.2.1
  have x38 := x37.2.2.2
  have x39a := x39.2.1
  have x43a := x43.2.1
  have x45a := x45.2.1
  have x47a := x47.2.1
  have x51a := x51.2.1
  have xla0 := xla.2.1
  have xla1 := xla.2.2.1
  have xla2 := xla.2.2.2.1
  have hlaN : la < N := by have := xla.1; omega
  have hlaN1 : la + 1 < N := by have := xla.1; omega
  have hlaN2 : la + 2 < N := by have := xla.1; omega
  have hlaN3 : la + 3 < N := by have := xla.1; omega
  have hlaN10 : la + 10 < N := by have := xla.1; omega
  have xru := (is_L_ru xla).2.1
  have xro := (is_L_ro xla).2.1
  obtain ⟨hG1, hG2, hG3⟩ := ldG_G hG
  obtain ⟨n0', ⟨gT, gTb, gC, gCb, -⟩, -⟩ := id hG
  obtain ⟨rW, rWb, rT, -, ro1, ro2, ro3, ro4, ro5, ro6⟩ := id hR
  have hd0 : 0 ≤ D 34 0 := ((hk 0).1 rfl).1
  have hB : 161 * D 34 0 ≤ 160839 := by omega
  have hsc := sc_refl hG hco
  unfold q_pooled
  by_cases hn : 1 ≤ n ∧ n ≤ 60
  · rw [if_pos hn]
    obtain ⟨hn0, hn1⟩ := id hn
    obtain ⟨m, rfl⟩ := Int.eq_ofNat_of_zero_le (show 0 ≤ n by omega)
    rw [Int.toNat_natCast]
    refine x_ofW (by decide +kernel) hl (by simp [Value.category]) (by simp) ?_
    refine x_iload_n dX11_pooled_0 x_get_3_1 ?_
    refine x_iconst dX11_pooled_1 ?_
    refine x_bipush dX11_pooled_2 rfl ?_
    refine x_callS (As := [_, _, _]) dX11_pooled_4 w_11_232 (c11_nIn hl hn0 hn1 (by decide) (by decide)) rfl rfl (Nat.le_of_ble_eq_true rfl) (Nat.le_of_ble_eq_true rfl) (Nat.le_of_ble_eq_true rfl) (Nat.le_of_ble_eq_true rfl) (Nat.le_of_ble_eq_true rfl) ?_
    intro d hd
    obtain rfl := Eq.symm hd
    refine x_aload_n dX11_pooled_7 x_get_3_0 ?_
    refine x_getR dX11_pooled_8 fX_11_34 (by assumption) (by assumption) (by rfl) ?_
    refine x_aload_n dX11_pooled_11 x_get_3_0 ?_
    refine x_getR dX11_pooled_12 fX_11_30 (by assumption) (by assumption) (by rfl) ?_
    refine x_callV (As := [_]) dX11_pooled_15 w_11_121 (c9_take2 hl x35 x33) (by assumption) (by assumption) rfl rfl (Nat.le_of_ble_eq_true rfl) (Nat.le_of_ble_eq_true rfl) (Nat.le_of_ble_eq_true rfl) (Nat.le_of_ble_eq_true rfl) (Nat.le_of_ble_eq_true rfl) ?_
    rintro d1 hd1
    have hcd1 : sc la D d1 := by rw [hd1]; exact sc_36 hsc hla
    have hrow1 : d1 36 = D 34 := by rw [hd1, x_up_s]
    refine x_aload_n dX11_pooled_18 x_get_3_0 ?_
    refine x_getR dX11_pooled_19 fX_11_34 (by assumption) (by assumption) (by rfl) ?_
    refine x_aload_n dX11_pooled_22 x_get_3_0 ?_
    refine x_getR dX11_pooled_23 fX_11_23 (by assumption) (by assumption) (by rfl) ?_
    refine x_iload_n dX11_pooled_26 x_get_3_1 ?_
    refine x_callV (As := [_, _]) dX11_pooled_27 w_11_252 (c9_wonIn hl x35 xla (ldG_sc hG hcd1 hla) (Or.inr (by omega)) (B := 161 * D 34 0) (by rw [hrow1]; exact hk) (n := m) (by omega)) (by assumption) (by assumption) rfl rfl (Nat.le_of_ble_eq_true rfl) (Nat.le_of_ble_eq_true rfl) (Nat.le_of_ble_eq_true rfl) (Nat.le_of_ble_eq_true rfl) (Nat.le_of_ble_eq_true rfl) ?_
    rintro d2 ⟨w2, hw2, hd2⟩
    have hcd2 : sc la D d2 := by rw [hd2]; exact sc_w (sc_36 hcd1 hla) hla hw2
    refine x_as_is (show _ = v_won T (s_days G T C (D 34) m) by rw [hrow1]; rfl) ?_
    refine x_istore_n dX11_pooled_30 (Nat.le_of_ble_eq_true rfl) rfl x_set_3_2 ?_
    refine x_aload_n dX11_pooled_31 x_get_3_0 ?_
    refine x_getR dX11_pooled_32 fX_11_34 (by assumption) (by assumption) (by rfl) ?_
    refine x_aload_n dX11_pooled_35 x_get_3_0 ?_
    refine x_getR dX11_pooled_36 fX_11_30 (by assumption) (by assumption) (by rfl) ?_
    refine x_callV (As := [_]) dX11_pooled_39 w_11_121 (c9_take2 hl x35 x33) (by assumption) (by assumption) rfl rfl (Nat.le_of_ble_eq_true rfl) (Nat.le_of_ble_eq_true rfl) (Nat.le_of_ble_eq_true rfl) (Nat.le_of_ble_eq_true rfl) (Nat.le_of_ble_eq_true rfl) ?_
    rintro d3 hd3
    have hcd3 : sc la D d3 := by rw [hd3]; exact sc_36 hcd2 hla
    have hrow3 : d3 36 = D 34 := by rw [hd3, x_up_s, sc_34 hcd2 hla]
    refine x_aload_n dX11_pooled_42 x_get_3_0 ?_
    refine x_getR dX11_pooled_43 fX_11_34 (by assumption) (by assumption) (by rfl) ?_
    refine x_aload_n dX11_pooled_46 x_get_3_0 ?_
    refine x_getR dX11_pooled_47 fX_11_23 (by assumption) (by assumption) (by rfl) ?_
    refine x_getI 0 dX11_pooled_50 fX_11_110 rfl (by assumption) (by assumption) (by rfl) ?_
    rw [sc_la hcd3 hla, gT]
    refine x_callV (As := [_]) dX11_pooled_53 w_11_256 (c9_shareA hl x35 (B := 161 * D 34 0) (by omega) (by rw [hrow3]; exact hk) gTb) (by assumption) (by assumption) rfl rfl (Nat.le_of_ble_eq_true rfl) (Nat.le_of_ble_eq_true rfl) (Nat.le_of_ble_eq_true rfl) (Nat.le_of_ble_eq_true rfl) (Nat.le_of_ble_eq_true rfl) ?_
    rintro d4 hd4
    have hcd4 : sc la D d4 := by rw [hd4]; exact sc_36 hcd3 hla
    have hrow4 : d4 36 = s_share (D 34) T := by rw [hd4, x_up_s, hrow3]
    refine x_aload_n dX11_pooled_56 x_get_3_0 ?_
    refine x_getR dX11_pooled_57 fX_11_34 (by assumption) (by assumption) (by rfl) ?_
    refine x_aload_n dX11_pooled_60 x_get_3_0 ?_
    refine x_getR dX11_pooled_61 fX_11_23 (by assumption) (by assumption) (by rfl) ?_
    refine x_iload_n dX11_pooled_64 x_get_3_1 ?_
    refine x_callV (As := [_, _]) dX11_pooled_65 w_11_252 (c9_wonIn hl x35 xla (ldG_sc hG hcd4 hla) (Or.inr (by omega)) (B := 161 * D 34 0) (by rw [hrow4]; exact s_ok_share hk gTb) (n := m) (by omega)) (by assumption) (by assumption) rfl rfl (Nat.le_of_ble_eq_true rfl) (Nat.le_of_ble_eq_true rfl) (Nat.le_of_ble_eq_true rfl) (Nat.le_of_ble_eq_true rfl) (Nat.le_of_ble_eq_true rfl) ?_
    rintro d5 ⟨w5, hw5, hd5⟩
    have hcd5 : sc la D d5 := by rw [hd5]; exact sc_w (sc_36 hcd4 hla) hla hw5
    refine x_as_is (show _ = v_won T (s_days G T C (s_share (D 34) T) m) by rw [hrow4]; rfl) ?_
    refine x_iload_n dX11_pooled_68 x_get_3_2 ?_
    refine x_isub dX11_pooled_69 ?_
    exact x_iret dX11_pooled_70 rfl (Nat.le_of_ble_eq_true rfl) (Nat.le_of_ble_eq_true rfl) rfl rfl rfl hcd5 rfl
  · rw [if_neg hn]
    refine x_ofW (by decide +kernel) hl (by simp [Value.category]) (by simp) ?_
    refine x_iload_n dX11_pooled_0 x_get_3_1 ?_
    refine x_iconst dX11_pooled_1 ?_
    refine x_bipush dX11_pooled_2 rfl ?_
    exact x_callST (As := [_, _, _]) dX11_pooled_4 w_11_232 (c11_nInT hl hnr hn (by decide) (by decide) (by decide) (by decide)) rfl rfl (Nat.le_of_ble_eq_true rfl) (Nat.le_of_ble_eq_true rfl) (Nat.le_of_ble_eq_true rfl) (Nat.le_of_ble_eq_true rfl) (Nat.le_of_ble_eq_true rfl) rfl rfl rfl rfl (fun d hd => by obtain rfl := Eq.symm hd; exact hsc) rfl (Nat.le_of_ble_eq_true rfl) (Nat.le_of_ble_eq_true rfl)
theorem c11_without {X : xC} {l : Launch} (hl : l.stackTraces = false) {N : Nat} {sh : xS} {D : xM} {la lb T C W : Nat} {G : Ldt} (hq : cq N sh D la lb T C W G) {d0 : xM} (hcd0 : sc la D d0) {c : Int} (hc0 : 0 ≤ c) (hc1 : c < 10) : x_M X l yX11_wonWithout cX11_wonWithout 3 (some .int) 7 0 0 [.ref (x_b X + 0), .int (xI c)] false N sh d0 (.inl (some (.int (xI (v_wo T C G (D 34) c))))) false N sh (sc la D) := by
  obtain ⟨hX, hG, hR, ⟨hk, hd9, hpl⟩, hco⟩ := id hq
  obtain ⟨hN, x0, x1, x2, xla, xlb, x33, x35, x37, x39, x43, x45, x47, x51, x60, x61, hll⟩ := id hX
  have hla : la = 3 ∨ la = 18 := by omega
  have n0 : 0 < N := by omega
  have n1 : 1 < N := by omega
  have n2 : 2 < N := by omega
  have n33 : 33 < N := by omega
  have n34 : 34 < N := by omega
  have n35 : 35 < N := by omega
  have n36 : 36 < N := by omega
  have n37 : 37 < N := by omega
  have n38 : 38 < N := by omega
  have n39 : 39 < N := by omega
  have n40 : 40 < N := by omega
  have n41 : 41 < N := by omega
  have n42 : 42 < N := by omega
  have n43 : 43 < N := by omega
  have n45 : 45 < N := by omega
  have n47 : 47 < N := by omega
  have n51 : 51 < N := by omega
  have n60 : 60 < N := by omega
  have n61 : 61 < N := by omega
  have x33a := x33.2.1
  have x34 := x33.2.2.2
  have x35a := x35.2.1
  have x36 := x35.2.2.2
  have x37a := x37.2.1
  have x38 := x37.2.2.2
  have x39a := x39.2.1
  have x43a := x43.2.1
  have x45a := x45.2.1
  have x47a := x47.2.1
  have x51a := x51.2.1
  have xla0 := xla.2.1
  have xla1 := xla.2.2.1
  have xla2 := xla.2.2.2.1
  have hlaN : la < N := by have := xla.1; omega
  have hlaN1 : la + 1 < N := by have := xla.1; omega
  have hlaN2 : la + 2 < N := by have := xla.1; omega
  have hlaN3 : la + 3 < N := by have := xla.1; omega
  have hlaN10 : la + 10 < N := by have := xla.1; omega
  have xru := (is_L_ru xla).2.1
  have xro := (is_L_ro xla).2.1
  obtain ⟨hG1, hG2, hG3⟩ := ldG_G hG
  obtain ⟨n0', ⟨gT, gTb, gC, gCb, -⟩, -⟩ := id hG
  obtain ⟨rW, rWb, rT, -, ro1, ro2, ro3, ro4, ro5, ro6⟩ := id hR
  have hd0 : 0 ≤ D 34 0 := ((hk 0).1 rfl).1
  have hB : 161 * D 34 0 ≤ 160839 := by omega
  have hsc := sc_refl hG hco
  have hko := s_ok_opall (s_ok_lose hk hc0 hc1)
  have hloop : ∀ k : Nat, k ≤ C → ∀ d : xM, sc la D d → d 36 = s_opall (s_lose (D 34) c) k → x_W (X, l, yX11_wonWithout, cX11_wonWithout, 3, (some .int), x_room 7 0 0, 0, 0, (.inl (some (.int (xI (v_wo T C G (D 34) c))))), N, sh, (sc la D), false, []) 21 [some (.ref (x_b X + 0)), some (.int (xI c)), some (.int (xI (k : Int)))] [] 0 0 false N sh d := by
    refine x_down C ?_ ?_
    · intro d hcd hrow
      refine x_iload_n dX11_wonWithout_21 x_get_3_2 ?_
      refine x_aload_n dX11_wonWithout_22 x_get_3_0 ?_
      refine x_getR dX11_wonWithout_23 fX_11_23 (by assumption) (by assumption) (by rfl) ?_
      refine x_getI 1 dX11_wonWithout_26 fX_11_132 rfl (by assumption) (by assumption) (by rfl) ?_
      rw [sc_la hcd hla, gC]
      refine r_icmp_ge (t := 58) dX11_wonWithout_29 rfl ⟨by omega, by omega⟩ ⟨by omega, by omega⟩ (fun hc29 => ?_) (fun hc29 => absurd hc29 (by omega))
      refine x_aload_n dX11_wonWithout_58 x_get_3_0 ?_
      refine x_getR dX11_wonWithout_59 fX_11_34 (by assumption) (by assumption) (by rfl) ?_
      refine x_aload_n dX11_wonWithout_62 x_get_3_0 ?_
      refine x_getR dX11_wonWithout_63 fX_11_23 (by assumption) (by assumption) (by rfl) ?_
      refine x_bipush dX11_wonWithout_66 rfl ?_
      refine x_callV (As := [_, _]) dX11_wonWithout_68 w_11_252 (c9_wonIn hl x35 xla (ldG_sc hG hcd hla) (Or.inr (by omega)) (B := 161 * D 34 0) (by rw [hrow]; exact hko C gCb) (n := 30) (by omega)) (by assumption) (by assumption) rfl rfl (Nat.le_of_ble_eq_true rfl) (Nat.le_of_ble_eq_true rfl) (Nat.le_of_ble_eq_true rfl) (Nat.le_of_ble_eq_true rfl) (Nat.le_of_ble_eq_true rfl) ?_
      rintro d2 ⟨w2, hw2, hd2⟩
      have hcd2 : sc la D d2 := by rw [hd2]; exact sc_w (sc_36 hcd hla) hla hw2
      refine x_as_is (show _ = v_wo T C G (D 34) c by rw [hrow]; rfl) ?_
      exact x_iret dX11_wonWithout_71 rfl (Nat.le_of_ble_eq_true rfl) (Nat.le_of_ble_eq_true rfl) rfl rfl rfl hcd2 rfl
    · intro k hk2 ih d hcd hrow
      have hkk := hko k (by omega)
      rw [s_opall_s] at ih
      refine x_iload_n dX11_wonWithout_21 x_get_3_2 ?_
      refine x_aload_n dX11_wonWithout_22 x_get_3_0 ?_
      refine x_getR dX11_wonWithout_23 fX_11_23 (by assumption) (by assumption) (by rfl) ?_
      refine x_getI 1 dX11_wonWithout_26 fX_11_132 rfl (by assumption) (by assumption) (by rfl) ?_
      rw [sc_la hcd hla, gC]
      refine r_icmp_ge (t := 58) dX11_wonWithout_29 rfl ⟨by omega, by omega⟩ ⟨by omega, by omega⟩ (fun hc29 => absurd hc29 (by omega)) (fun hc29 => ?_)
      refine x_aload_n dX11_wonWithout_32 x_get_3_0 ?_
      refine x_getR dX11_wonWithout_33 fX_11_34 (by assumption) (by assumption) (by rfl) ?_
      refine x_iload_n dX11_wonWithout_36 x_get_3_2 ?_
      refine x_callV (As := [_]) dX11_wonWithout_37 w_11_204 (c9_lies hl x35 (B := 161 * D 34 0) (by omega) (by rw [hrow]; exact hkk) (c := (k : Int)) (by omega) (by omega)) (by assumption) (by assumption) rfl rfl (Nat.le_of_ble_eq_true rfl) (Nat.le_of_ble_eq_true rfl) (Nat.le_of_ble_eq_true rfl) (Nat.le_of_ble_eq_true rfl) (Nat.le_of_ble_eq_true rfl) ?_
      intro dz hdz
      obtain rfl := Eq.symm hdz
      rw [hrow]
      refine b_ifeq (t := 52) dX11_wonWithout_40 rfl (fun hc40 => ?_) (fun hc40 => ?_)
      · refine x_iinc dX11_wonWithout_52 x_get_3_2 (Nat.le_of_ble_eq_true rfl) rfl x_set_3_2 ?_
        refine x_goto (t := 21) dX11_wonWithout_55 rfl ?_
        first | (rw [if_pos hc40] at ih; exact ih d2 hcd2 hrow2) | (rw [if_neg hc40] at ih; exact ih d hcd hrow)
      · refine x_aload_n dX11_wonWithout_43 x_get_3_0 ?_
        refine x_getR dX11_wonWithout_44 fX_11_34 (by assumption) (by assumption) (by rfl) ?_
        refine x_iload_n dX11_wonWithout_47 x_get_3_2 ?_
        refine x_callV (As := [_]) dX11_wonWithout_48 w_11_217 (c9_unpack hl x35 (B := 161 * D 34 0) (by omega) (by rw [hrow]; exact hkk) (c := (k : Int)) (by omega) (by omega) (by rw [hrow]; have h2 := (s_cr hkk (c := (k : Int)) (by omega) (by omega)).2.2.2.1; have := hc40.1; omega)) (by assumption) (by assumption) rfl rfl (Nat.le_of_ble_eq_true rfl) (Nat.le_of_ble_eq_true rfl) (Nat.le_of_ble_eq_true rfl) (Nat.le_of_ble_eq_true rfl) (Nat.le_of_ble_eq_true rfl) ?_
        rintro d2 hd2
        have hcd2 : sc la D d2 := by rw [hd2]; exact sc_36 hcd hla
        have hrow2 : d2 36 = s_opn (s_opall (s_lose (D 34) c) k) k := by rw [hd2, x_up_s, hrow]
        refine x_pop dX11_wonWithout_51 rfl ?_
        refine x_iinc dX11_wonWithout_52 x_get_3_2 (Nat.le_of_ble_eq_true rfl) rfl x_set_3_2 ?_
        refine x_goto (t := 21) dX11_wonWithout_55 rfl ?_
        first | (rw [if_pos hc40] at ih; exact ih d2 hcd2 hrow2) | (rw [if_neg hc40] at ih; exact ih d hcd hrow)
  refine x_ofW (by decide +kernel) hl (by simp [Value.category]) (by simp) ?_
  refine x_aload_n dX11_wonWithout_0 x_get_3_0 ?_
  refine x_getR dX11_wonWithout_1 fX_11_34 (by assumption) (by assumption) (by rfl) ?_
  refine x_aload_n dX11_wonWithout_4 x_get_3_0 ?_
  refine x_getR dX11_wonWithout_5 fX_11_30 (by assumption) (by assumption) (by rfl) ?_
  refine x_callV (As := [_]) dX11_wonWithout_8 w_11_121 (c9_take2 hl x35 x33) (by assumption) (by assumption) rfl rfl (Nat.le_of_ble_eq_true rfl) (Nat.le_of_ble_eq_true rfl) (Nat.le_of_ble_eq_true rfl) (Nat.le_of_ble_eq_true rfl) (Nat.le_of_ble_eq_true rfl) ?_
  rintro d1 hd1
  have hcd1 : sc la D d1 := by rw [hd1]; exact sc_36 hcd0 hla
  have hrow1 : d1 36 = D 34 := by rw [hd1, x_up_s, sc_34 hcd0 hla]
  refine x_aload_n dX11_wonWithout_11 x_get_3_0 ?_
  refine x_getR dX11_wonWithout_12 fX_11_34 (by assumption) (by assumption) (by rfl) ?_
  refine x_iload_n dX11_wonWithout_15 x_get_3_1 ?_
  refine x_callV (As := [_]) dX11_wonWithout_16 w_11_390 (c9_lose hl x35 hc0 hc1) (by assumption) (by assumption) rfl rfl (Nat.le_of_ble_eq_true rfl) (Nat.le_of_ble_eq_true rfl) (Nat.le_of_ble_eq_true rfl) (Nat.le_of_ble_eq_true rfl) (Nat.le_of_ble_eq_true rfl) ?_
  rintro d2 hd2
  have hcd2 : sc la D d2 := by rw [hd2]; exact sc_36 hcd1 hla
  have hrow2 : d2 36 = s_lose (D 34) c := by rw [hd2, x_up_s, hrow1]
  refine x_iconst dX11_wonWithout_19 ?_
  refine x_istore_n dX11_wonWithout_20 (Nat.le_of_ble_eq_true rfl) rfl x_set_3_2 ?_
  exact hloop 0 (Nat.zero_le _) d2 hcd2 hrow2
theorem c11_missed {X : xC} {l : Launch} (hl : l.stackTraces = false) {N : Nat} {sh : xS} {D : xM} {la lb T C W : Nat} {G : Ldt} (hq : cq N sh D la lb T C W G) : x_M X l yX11_missed cX11_missed 5 (some .int) 8 1 6 [.ref (x_b X + 0)] false N sh D (o_i (l_miss T C G (D 34) C).1) false N sh (sc la D) := by
  obtain ⟨hX, hG, hR, ⟨hk, hd9, hpl⟩, hco⟩ := id hq
  obtain ⟨hN, x0, x1, x2, xla, xlb, x33, x35, x37, x39, x43, x45, x47, x51, x60, x61, hll⟩ := id hX
  have hla : la = 3 ∨ la = 18 := by omega
  have n0 : 0 < N := by omega
  have n1 : 1 < N := by omega
  have n2 : 2 < N := by omega
  have n33 : 33 < N := by omega
  have n34 : 34 < N := by omega
  have n35 : 35 < N := by omega
  have n36 : 36 < N := by omega
  have n37 : 37 < N := by omega
  have n38 : 38 < N := by omega
  have n39 : 39 < N := by omega
  have n40 : 40 < N := by omega
  have n41 : 41 < N := by omega
  have n42 : 42 < N := by omega
  have n43 : 43 < N := by omega
  have n45 : 45 < N := by omega
  have n47 : 47 < N := by omega
  have n51 : 51 < N := by omega
  have n60 : 60 < N := by omega
  have n61 : 61 < N := by omega
  have x33a := x33.2.1
  have x34 := x33.2.2.2
  have x35a := x35.2.1
  have x36 := x35.2.2.2
  have x37a := x37.2.1
  have x38 := x37.2.2.2
  have x39a := x39.2.1
  have x43a := x43.2.1
  have x45a := x45.2.1
  have x47a := x47.2.1
  have x51a := x51.2.1
  have xla0 := xla.2.1
  have xla1 := xla.2.2.1
  have xla2 := xla.2.2.2.1
  have hlaN : la < N := by have := xla.1; omega
  have hlaN1 : la + 1 < N := by have := xla.1; omega
  have hlaN2 : la + 2 < N := by have := xla.1; omega
  have hlaN3 : la + 3 < N := by have := xla.1; omega
  have hlaN10 : la + 10 < N := by have := xla.1; omega
  have xru := (is_L_ru xla).2.1
  have xro := (is_L_ro xla).2.1
  obtain ⟨hG1, hG2, hG3⟩ := ldG_G hG
  obtain ⟨n0', ⟨gT, gTb, gC, gCb, -⟩, -⟩ := id hG
  obtain ⟨rW, rWb, rT, -, ro1, ro2, ro3, ro4, ro5, ro6⟩ := id hR
  have hd0 : 0 ≤ D 34 0 := ((hk 0).1 rfl).1
  have hB : 161 * D 34 0 ≤ 160839 := by omega
  have hsc := sc_refl hG hco
  have hvw : ∀ c : Nat, c < 10 → -2000000 ≤ v_wo T C G (D 34) c ∧ v_wo T C G (D 34) c ≤ 2000000 := fun c hc => by
    have := v_won_in (s_ok_days (s_ok_opall (s_ok_lose hk (c := (c : Int)) (by omega) (by omega)) C gCb) hG1 hG2 gTb gCb 30) (by omega) gTb
    unfold v_wo
    omega
  have hli := l_miss_in (M := 2000000) (by decide) hvw
  have hloop : ∀ k : Nat, k ≤ C → ∀ d : xM, sc la D d → x_W (X, l, yX11_missed, cX11_missed, 5, (some .int), x_room 8 1 6, 1, 6, (o_i (l_miss T C G (D 34) C).1), N, sh, (sc la D), false, []) 6 [some (.ref (x_b X + 0)), some (.int (xI (l_miss T C G (D 34) k).1)), some (.int (xI (l_miss T C G (D 34) k).2)), some (.int (xI (k : Int))), none] [] 0 0 false N sh d := by
    refine x_down C ?_ ?_
    · intro d hcd
      refine x_iload_n dX11_missed_6 x_get_5_3 ?_
      refine x_aload_n dX11_missed_7 x_get_5_0 ?_
      refine x_getR dX11_missed_8 fX_11_23 (by assumption) (by assumption) (by rfl) ?_
      refine x_getI 1 dX11_missed_11 fX_11_132 rfl (by assumption) (by assumption) (by rfl) ?_
      rw [sc_la hcd hla, gC]
      refine r_icmp_ge (t := 57) dX11_missed_14 rfl ⟨by omega, by omega⟩ ⟨by omega, by omega⟩ (fun hc14 => ?_) (fun hc14 => absurd hc14 (by omega))
      refine x_iload_n dX11_missed_57 x_get_5_1 ?_
      exact x_iret dX11_missed_58 rfl (Nat.le_of_ble_eq_true rfl) (Nat.le_of_ble_eq_true rfl) rfl rfl rfl hcd rfl
    · intro k hk2 ih d hcd
      have hl1 := hli k (by omega)
      have hv1 := hvw k (by omega)
      rw [l_miss_s] at ih
      refine x_iload_n dX11_missed_6 x_get_5_3 ?_
      refine x_aload_n dX11_missed_7 x_get_5_0 ?_
      refine x_getR dX11_missed_8 fX_11_23 (by assumption) (by assumption) (by rfl) ?_
      refine x_getI 1 dX11_missed_11 fX_11_132 rfl (by assumption) (by assumption) (by rfl) ?_
      rw [sc_la hcd hla, gC]
      refine r_icmp_ge (t := 57) dX11_missed_14 rfl ⟨by omega, by omega⟩ ⟨by omega, by omega⟩ (fun hc14 => absurd hc14 (by omega)) (fun hc14 => ?_)
      refine x_aload_n dX11_missed_17 x_get_5_0 ?_
      refine x_getR dX11_missed_18 fX_11_30 (by assumption) (by assumption) (by rfl) ?_
      refine x_iload_n dX11_missed_21 x_get_5_3 ?_
      refine x_callV (As := [_]) dX11_missed_22 w_11_204 (c9_lies hl x33 (B := 161 * D 34 0) (by omega) (by rw [sc_34 hcd hla]; exact hk) (c := (k : Int)) (by omega) (by omega)) (by assumption) (by assumption) rfl rfl (Nat.le_of_ble_eq_true rfl) (Nat.le_of_ble_eq_true rfl) (Nat.le_of_ble_eq_true rfl) (Nat.le_of_ble_eq_true rfl) (Nat.le_of_ble_eq_true rfl) ?_
      intro dz hdz
      obtain rfl := Eq.symm hdz
      rw [sc_34 hcd hla]
      refine b_ifeq (t := 51) dX11_missed_25 rfl (fun hc25 => ?_) (fun hc25 => ?_)
      · refine x_iinc dX11_missed_51 x_get_5_3 (Nat.le_of_ble_eq_true rfl) rfl x_set_5_3 ?_
        refine x_goto (t := 6) dX11_missed_54 rfl ?_
        refine x_forget 4 ?_
        first | (rw [if_neg (fun h => hc25 h.1)] at ih; exact ih d hcd) | (rw [if_pos ⟨hc25, by omega⟩] at ih; exact ih d2 hcd2) | (rw [if_neg (fun h => absurd h.2 (by omega))] at ih; exact ih d2 hcd2)
      · refine x_aload_n dX11_missed_28 x_get_5_0 ?_
        refine x_iload_n dX11_missed_29 x_get_5_3 ?_
        refine x_callV (As := [_]) dX11_missed_30 w_11_259 (c11_without hl hq hcd (c := (k : Int)) (by omega) (by omega)) (by assumption) (by assumption) rfl rfl (Nat.le_of_ble_eq_true rfl) (Nat.le_of_ble_eq_true rfl) (Nat.le_of_ble_eq_true rfl) (Nat.le_of_ble_eq_true rfl) (Nat.le_of_ble_eq_true rfl) ?_
        rintro d2 hcd2
        refine x_istore dX11_missed_33 (Nat.le_of_ble_eq_true rfl) rfl x_set_5_4 ?_
        refine x_iload_n dX11_missed_35 x_get_5_1 ?_
        refine x_iconst dX11_missed_36 ?_
        refine r_icmp_eq (t := 46) dX11_missed_37 rfl ⟨by omega, by omega⟩ ⟨by omega, by omega⟩ (fun hc37 => ?_) (fun hc37 => ?_)
        · refine x_iload_n dX11_missed_46 x_get_5_3 ?_
          refine x_istore_n dX11_missed_47 (Nat.le_of_ble_eq_true rfl) rfl x_set_5_1 ?_
          refine x_iload dX11_missed_48 x_get_5_4 ?_
          refine x_istore_n dX11_missed_50 (Nat.le_of_ble_eq_true rfl) rfl x_set_5_2 ?_
          refine x_iinc dX11_missed_51 x_get_5_3 (Nat.le_of_ble_eq_true rfl) rfl x_set_5_3 ?_
          refine x_goto (t := 6) dX11_missed_54 rfl ?_
          refine x_forget 4 ?_
          first | (rw [if_neg (fun h => hc25 h.1)] at ih; exact ih d hcd) | (rw [if_pos ⟨hc25, by omega⟩] at ih; exact ih d2 hcd2) | (rw [if_neg (fun h => absurd h.2 (by omega))] at ih; exact ih d2 hcd2)
        · refine x_iload dX11_missed_40 x_get_5_4 ?_
          refine x_iload_n dX11_missed_42 x_get_5_2 ?_
          refine r_icmp_ge (t := 51) dX11_missed_43 rfl ⟨by omega, by omega⟩ ⟨by omega, by omega⟩ (fun hc43 => ?_) (fun hc43 => ?_)
          · refine x_iinc dX11_missed_51 x_get_5_3 (Nat.le_of_ble_eq_true rfl) rfl x_set_5_3 ?_
            refine x_goto (t := 6) dX11_missed_54 rfl ?_
            refine x_forget 4 ?_
            first | (rw [if_neg (fun h => hc25 h.1)] at ih; exact ih d hcd) | (rw [if_pos ⟨hc25, by omega⟩] at ih; exact ih d2 hcd2) | (rw [if_neg (fun h => absurd h.2 (by omega))] at ih; exact ih d2 hcd2)
          · refine x_iload_n dX11_missed_46 x_get_5_3 ?_
            refine x_istore_n dX11_missed_47 (Nat.le_of_ble_eq_true rfl) rfl x_set_5_1 ?_
            refine x_iload dX11_missed_48 x_get_5_4 ?_
            refine x_istore_n dX11_missed_50 (Nat.le_of_ble_eq_true rfl) rfl x_set_5_2 ?_
            refine x_iinc dX11_missed_51 x_get_5_3 (Nat.le_of_ble_eq_true rfl) rfl x_set_5_3 ?_
            refine x_goto (t := 6) dX11_missed_54 rfl ?_
            refine x_forget 4 ?_
            first | (rw [if_neg (fun h => hc25 h.1)] at ih; exact ih d hcd) | (rw [if_pos ⟨hc25, by omega⟩] at ih; exact ih d2 hcd2) | (rw [if_neg (fun h => absurd h.2 (by omega))] at ih; exact ih d2 hcd2)
  refine x_ofW (by decide +kernel) hl (by simp [Value.category]) (by simp) ?_
  refine x_iconst dX11_missed_0 ?_
  refine x_istore_n dX11_missed_1 (Nat.le_of_ble_eq_true rfl) rfl x_set_5_1 ?_
  refine x_iconst dX11_missed_2 ?_
  refine x_istore_n dX11_missed_3 (Nat.le_of_ble_eq_true rfl) rfl x_set_5_2 ?_
  refine x_iconst dX11_missed_4 ?_
  refine x_istore_n dX11_missed_5 (Nat.le_of_ble_eq_true rfl) rfl x_set_5_3 ?_
  exact hloop 0 (Nat.zero_le _) D hsc
set_option maxHeartbeats 8000000 in
theorem c11_lend {X : xC} {l : Launch} (hl : l.stackTraces = false) {N : Nat} {sh : xS} {D : xM} {la lb T C W : Nat} {G : Ldt} (hq : cq N sh D la lb T C W G) {t : Int} (htr : x_r t) : x_M X l yX11_lend cX11_lend 4 (some .int) 7 1 6 [.ref (x_b X + 0), .int (xI t)] false N sh D (q_lend T G (D 34) t) false N sh (sc la D) := by
  obtain ⟨hX, hG, hR, ⟨hk, hd9, hpl⟩, hco⟩ := id hq
  obtain ⟨hN, x0, x1, x2, xla, xlb, x33, x35, x37, x39, x43, x45, x47, x51, x60, x61, hll⟩ := id hX
  have hla : la = 3 ∨ la = 18 := by omega
  have n0 : 0 < N := by omega
  have n1 : 1 < N := by omega
  have n2 : 2 < N := by omega
  have n33 : 33 < N := by omega
  have n34 : 34 < N := by omega
  have n35 : 35 < N := by omega
  have n36 : 36 < N := by omega
  have n37 : 37 < N := by omega
  have n38 : 38 < N := by omega
  have n39 : 39 < N := by omega
  have n40 : 40 < N := by omega
  have n41 : 41 < N := by omega
  have n42 : 42 < N := by omega
  have n43 : 43 < N := by omega
  have n45 : 45 < N := by omega
  have n47 : 47 < N := by omega
  have n51 : 51 < N := by omega
  have n60 : 60 < N := by omega
  have n61 : 61 < N := by omega
  have x33a := x33.2.1
  have x34 := x33.2.2.2
  have x35a := x35.2.1
  have x36 := x35.2.2.2
  have x37a := x37.2.1
  have x38 := x37.2.2.2
  have x39a := x39.2.1
  have x43a := x43.2.1
  have x45a := x45.2.1
  have x47a := x47.2.1
  have x51a := x51.2.1
  have xla0 := xla.2.1
  have xla1 := xla.2.2.1
  have xla2 := xla.2.2.2.1
  have hlaN : la < N := by have := xla.1; omega
  have hlaN1 : la + 1 < N := by have := xla.1; omega
  have hlaN2 : la + 2 < N := by have := xla.1; omega
  have hlaN3 : la + 3 < N := by have := xla.1; omega
  have hlaN10 : la + 10 < N := by have := xla.1; omega
  have xru := (is_L_ru xla).2.1
  have xro := (is_L_ro xla).2.1
  obtain ⟨hG1, hG2, hG3⟩ := ldG_G hG
  obtain ⟨n0', ⟨gT, gTb, gC, gCb, -⟩, -⟩ := id hG
  obtain ⟨rW, rWb, rT, -, ro1, ro2, ro3, ro4, ro5, ro6⟩ := id hR
  have hd0 : 0 ≤ D 34 0 := ((hk 0).1 rfl).1
  have hB : 161 * D 34 0 ≤ 160839 := by omega
  have hsc := sc_refl hG hco
  unfold q_lend
  by_cases ht : 0 ≤ t ∧ t < T
  · rw [if_pos ht]
    obtain ⟨ht0, ht1⟩ := id ht
    have hlk := (s_tn hk (t := t) ht0 (by omega)).1
    obtain ⟨m, hm⟩ := Int.eq_ofNat_of_zero_le hlk.1
    have hm1 : m ≤ 9999 := by omega
    have hO := hG3 (D 34) t
    have hok : ∀ v : Int, 0 ≤ v → v ≤ 9999 → s_ok (161 * D 34 0) (x_u1 (D 34) (1 + t) v) := fun v a b => s_ok_u1 hk ⟨fun a => by omega, fun _ _ => ⟨by omega, by omega⟩, fun a => by omega, fun a => by omega, fun a => by omega, fun a => by omega, fun a => by omega⟩
    have hloop : ¬ G.2.2 (D 34) t < 7 → ∀ k : Nat, k ≤ m → ∀ (d : xM) (v : Int), (∀ j : Nat, j < k → ¬ 7 ≤ G.2.2 (x_u1 (D 34) (1 + t) (j : Nat)) t) → sc la D d → d 36 = x_u1 (D 34) (1 + t) v → x_W (X, l, yX11_lend, cX11_lend, 4, (some .int), x_room 7 1 6, 1, 6, (o_i (v_lend G (D 34) t)), N, sh, (sc la D), false, []) 56 [some (.ref (x_b X + 0)), some (.int (xI t)), some (.int (xI (m : Int))), some (.int (xI (k : Int)))] [] 0 0 false N sh d := by
      intro h7
      refine x_down m ?_ ?_
      · intro d v hp hcd hrow
        refine x_iload_n dX11_lend_56 x_get_4_3 ?_
        refine x_iload_n dX11_lend_57 x_get_4_2 ?_
        refine r_icmp_ge (t := 107) dX11_lend_58 rfl ⟨by omega, by omega⟩ ⟨by omega, by omega⟩ (fun hc58 => ?_) (fun hc58 => absurd hc58 (by omega))
        refine x_iconst dX11_lend_107 ?_
        exact x_iret dX11_lend_108 rfl (Nat.le_of_ble_eq_true rfl) (Nat.le_of_ble_eq_true rfl) (by unfold v_lend; rw [if_neg h7, hm, Int.toNat_natCast, x_first_none hp]; rfl) rfl rfl hcd rfl
      · intro k hk2 ih d v hp hcd hrow
        have hO2 := hG3 (x_u1 (D 34) (1 + t) (k : Nat)) t
        refine x_iload_n dX11_lend_56 x_get_4_3 ?_
        refine x_iload_n dX11_lend_57 x_get_4_2 ?_
        refine r_icmp_ge (t := 107) dX11_lend_58 rfl ⟨by omega, by omega⟩ ⟨by omega, by omega⟩ (fun hc58 => absurd hc58 (by omega)) (fun hc58 => ?_)
        refine x_aload_n dX11_lend_61 x_get_4_0 ?_
        refine x_getR dX11_lend_62 fX_11_34 (by assumption) (by assumption) (by rfl) ?_
        refine x_getR dX11_lend_65 fX_11_135 (by assumption) (by assumption) (by rfl) ?_
        refine x_iconst dX11_lend_68 ?_
        refine x_iload_n dX11_lend_69 x_get_4_1 ?_
        refine x_iadd dX11_lend_70 ?_
        refine x_iload_n dX11_lend_71 x_get_4_3 ?_
        refine x_iast dX11_lend_72 (by assumption) (by assumption) (by omega) (by omega) (by decide) ?_
        rw [hrow, x_u1_u1]
        have hcd1 : sc la D (x_up d 36 (x_u1 (D 34) (1 + t) (k : Nat))) := sc_36 hcd hla
        generalize hd1 : x_up d 36 (x_u1 (D 34) (1 + t) (k : Nat)) = d1 at hcd1 ⊢
        have hrow1 : d1 36 = x_u1 (D 34) (1 + t) (k : Nat) := by rw [← hd1, x_up_s]
        refine x_aload_n dX11_lend_73 x_get_4_0 ?_
        refine x_getR dX11_lend_74 fX_11_23 (by assumption) (by assumption) (by rfl) ?_
        refine x_getR dX11_lend_77 fX_11_170 (by assumption) (by assumption) (by rfl) ?_
        refine x_aload_n dX11_lend_80 x_get_4_0 ?_
        refine x_getR dX11_lend_81 fX_11_23 (by assumption) (by assumption) (by rfl) ?_
        refine x_aload_n dX11_lend_84 x_get_4_0 ?_
        refine x_getR dX11_lend_85 fX_11_34 (by assumption) (by assumption) (by rfl) ?_
        refine x_iload_n dX11_lend_88 x_get_4_1 ?_
        refine x_callV (As := [_, _, _]) dX11_lend_89 w_11_174 (c7_oddsG hl x35 xla (ldG_sc hG hcd1 hla) (Or.inr (by omega)) (B := 161 * D 34 0) (by rw [hrow1]; exact hok _ (by omega) (by omega)) (by omega) ht0 (by omega)) (by assumption) (by assumption) rfl rfl (Nat.le_of_ble_eq_true rfl) (Nat.le_of_ble_eq_true rfl) (Nat.le_of_ble_eq_true rfl) (Nat.le_of_ble_eq_true rfl) (Nat.le_of_ble_eq_true rfl) ?_
        rintro d2 ⟨w2, hd2, hw2⟩
        rw [hrow1]
        have hcd2 : sc la D d2 := by rw [hd2]; exact sc_w hcd1 hla hw2
        have hrow2 : d2 36 = x_u1 (D 34) (1 + t) (k : Nat) := by rw [hd2, x_up_n (by omega), hrow1]
        refine x_bipush dX11_lend_92 rfl ?_
        refine r_icmp_lt (t := 101) dX11_lend_94 rfl ⟨by omega, by omega⟩ ⟨by omega, by omega⟩ (fun hc94 => ?_) (fun hc94 => ?_)
        · refine x_iinc dX11_lend_101 x_get_4_3 (Nat.le_of_ble_eq_true rfl) rfl x_set_4_3 ?_
          refine x_goto (t := 56) dX11_lend_104 rfl ?_
          refine ih d2 _ (fun j hj => ?_) hcd2 hrow2
          by_cases h : j = k
          · rw [h]; omega
          · exact hp j (by omega)
        · refine x_iload_n dX11_lend_97 x_get_4_2 ?_
          refine x_iload_n dX11_lend_98 x_get_4_3 ?_
          refine x_isub dX11_lend_99 ?_
          exact x_iret dX11_lend_100 rfl (Nat.le_of_ble_eq_true rfl) (Nat.le_of_ble_eq_true rfl) (by unfold v_lend; rw [if_neg h7, hm, Int.toNat_natCast, x_first_hit hp hc94 hk2]; show _ = o_i _; dsimp only; rw [if_neg (by omega)]; try rfl) rfl rfl hcd2 rfl
    refine x_ofW (by decide +kernel) hl (by simp [Value.category]) (by simp) ?_
    refine x_aload_n dX11_lend_0 x_get_4_0 ?_
    refine x_iload_n dX11_lend_1 x_get_4_1 ?_
    refine x_callV (As := [_]) dX11_lend_2 w_11_161 (c11_nTown hl hq ht0 ht1) (by assumption) (by assumption) rfl rfl (Nat.le_of_ble_eq_true rfl) (Nat.le_of_ble_eq_true rfl) (Nat.le_of_ble_eq_true rfl) (Nat.le_of_ble_eq_true rfl) (Nat.le_of_ble_eq_true rfl) ?_
    intro d hd
    obtain rfl := Eq.symm hd
    refine x_aload_n dX11_lend_5 x_get_4_0 ?_
    refine x_getR dX11_lend_6 fX_11_23 (by assumption) (by assumption) (by rfl) ?_
    refine x_getR dX11_lend_9 fX_11_170 (by assumption) (by assumption) (by rfl) ?_
    refine x_aload_n dX11_lend_12 x_get_4_0 ?_
    refine x_getR dX11_lend_13 fX_11_23 (by assumption) (by assumption) (by rfl) ?_
    refine x_aload_n dX11_lend_16 x_get_4_0 ?_
    refine x_getR dX11_lend_17 fX_11_30 (by assumption) (by assumption) (by rfl) ?_
    refine x_iload_n dX11_lend_20 x_get_4_1 ?_
    refine x_callV (As := [_, _, _]) dX11_lend_21 w_11_174 (c7_oddsG hl x33 xla hG (Or.inr (by omega)) (B := 161 * D 34 0) hk (by omega) ht0 (by omega)) (by assumption) (by assumption) rfl rfl (Nat.le_of_ble_eq_true rfl) (Nat.le_of_ble_eq_true rfl) (Nat.le_of_ble_eq_true rfl) (Nat.le_of_ble_eq_true rfl) (Nat.le_of_ble_eq_true rfl) ?_
    rintro d0 ⟨w0, hd0w, hw0⟩
    have hcd0 : sc la D d0 := by rw [hd0w]; exact sc_w hsc hla hw0
    refine x_bipush dX11_lend_24 rfl ?_
    refine r_icmp_ge (t := 31) dX11_lend_26 rfl ⟨by omega, by omega⟩ ⟨by omega, by omega⟩ (fun hc26 => ?_) (fun hc26 => ?_)
    · refine x_aload_n dX11_lend_31 x_get_4_0 ?_
      refine x_getR dX11_lend_32 fX_11_34 (by assumption) (by assumption) (by rfl) ?_
      refine x_aload_n dX11_lend_35 x_get_4_0 ?_
      refine x_getR dX11_lend_36 fX_11_30 (by assumption) (by assumption) (by rfl) ?_
      refine x_callV (As := [_]) dX11_lend_39 w_11_121 (c9_take2 hl x35 x33) (by assumption) (by assumption) rfl rfl (Nat.le_of_ble_eq_true rfl) (Nat.le_of_ble_eq_true rfl) (Nat.le_of_ble_eq_true rfl) (Nat.le_of_ble_eq_true rfl) (Nat.le_of_ble_eq_true rfl) ?_
      rintro d1 hd1
      have hcd1 : sc la D d1 := by rw [hd1]; exact sc_36 hcd0 hla
      have hrow1 : d1 36 = x_u1 (D 34) (1 + t) (D 34 (1 + t)) := by rw [hd1, x_up_s, sc_34 hcd0 hla, x_u1_id]
      refine x_aload_n dX11_lend_42 x_get_4_0 ?_
      refine x_getR dX11_lend_43 fX_11_30 (by assumption) (by assumption) (by rfl) ?_
      refine x_getR dX11_lend_46 fX_11_135 (by assumption) (by assumption) (by rfl) ?_
      refine x_iconst dX11_lend_49 ?_
      refine x_iload_n dX11_lend_50 x_get_4_1 ?_
      refine x_iadd dX11_lend_51 ?_
      refine x_iald dX11_lend_52 (by assumption) (by assumption) (by omega) (by omega) (by decide) ?_
      rw [sc_34 hcd1 hla, hm]
      refine x_istore_n dX11_lend_53 (Nat.le_of_ble_eq_true rfl) rfl x_set_4_2 ?_
      refine x_iconst dX11_lend_54 ?_
      refine x_istore_n dX11_lend_55 (Nat.le_of_ble_eq_true rfl) rfl x_set_4_3 ?_
      exact hloop (by omega) 0 (Nat.zero_le _) d1 _ (fun j hj => by omega) hcd1 hrow1
    · refine x_iconst dX11_lend_29 ?_
      exact x_iret dX11_lend_30 rfl (Nat.le_of_ble_eq_true rfl) (Nat.le_of_ble_eq_true rfl) (by unfold v_lend; rw [if_pos hc26]; rfl) rfl rfl hcd0 rfl
  · rw [if_neg ht]
    refine x_ofW (by decide +kernel) hl (by simp [Value.category]) (by simp) ?_
    refine x_aload_n dX11_lend_0 x_get_4_0 ?_
    refine x_iload_n dX11_lend_1 x_get_4_1 ?_
    exact x_callVT (As := [_]) dX11_lend_2 w_11_161 (c11_nTownT hl hq htr ht) (by assumption) (by assumption) rfl rfl (Nat.le_of_ble_eq_true rfl) (Nat.le_of_ble_eq_true rfl) (Nat.le_of_ble_eq_true rfl) (Nat.le_of_ble_eq_true rfl) (Nat.le_of_ble_eq_true rfl) rfl rfl rfl rfl (fun d hd => by obtain rfl := Eq.symm hd; exact hsc) rfl (Nat.le_of_ble_eq_true rfl) (Nat.le_of_ble_eq_true rfl)
theorem c11_spoilt {X : xC} {l : Launch} (hl : l.stackTraces = false) {N : Nat} {sh : xS} {D : xM} {la lb T C W : Nat} {G : Ldt} (hq : cq N sh D la lb T C W G) : x_M X l yX11_spoilt cX11_spoilt 3 (some .int) 7 1 6 [.ref (x_b X + 0)] false N sh D (o_i ((s_bits (fun c => s_mov (D 34) c ∧ s_come (D 34) c = 0) C : Nat) : Int)) false N sh (sc la D) := by
  obtain ⟨hX, hG, hR, ⟨hk, hd9, hpl⟩, hco⟩ := id hq
  obtain ⟨hN, x0, x1, x2, xla, xlb, x33, x35, x37, x39, x43, x45, x47, x51, x60, x61, hll⟩ := id hX
  have hla : la = 3 ∨ la = 18 := by omega
  have n0 : 0 < N := by omega
  have n1 : 1 < N := by omega
  have n2 : 2 < N := by omega
  have n33 : 33 < N := by omega
  have n34 : 34 < N := by omega
  have n35 : 35 < N := by omega
  have n36 : 36 < N := by omega
  have n37 : 37 < N := by omega
  have n38 : 38 < N := by omega
  have n39 : 39 < N := by omega
  have n40 : 40 < N := by omega
  have n41 : 41 < N := by omega
  have n42 : 42 < N := by omega
  have n43 : 43 < N := by omega
  have n45 : 45 < N := by omega
  have n47 : 47 < N := by omega
  have n51 : 51 < N := by omega
  have n60 : 60 < N := by omega
  have n61 : 61 < N := by omega
  have x33a := x33.2.1
  have x34 := x33.2.2.2
  have x35a := x35.2.1
  have x36 := x35.2.2.2
  have x37a := x37.2.1
  have x38 := x37.2.2.2
  have x39a := x39.2.1
  have x43a := x43.2.1
  have x45a := x45.2.1
  have x47a := x47.2.1
  have x51a := x51.2.1
  have xla0 := xla.2.1
  have xla1 := xla.2.2.1
  have xla2 := xla.2.2.2.1
  have hlaN : la < N := by have := xla.1; omega
  have hlaN1 : la + 1 < N := by have := xla.1; omega
  have hlaN2 : la + 2 < N := by have := xla.1; omega
  have hlaN3 : la + 3 < N := by have := xla.1; omega
  have hlaN10 : la + 10 < N := by have := xla.1; omega
  have xru := (is_L_ru xla).2.1
  have xro := (is_L_ro xla).2.1
  obtain ⟨hG1, hG2, hG3⟩ := ldG_G hG
  obtain ⟨n0', ⟨gT, gTb, gC, gCb, -⟩, -⟩ := id hG
  obtain ⟨rW, rWb, rT, -, ro1, ro2, ro3, ro4, ro5, ro6⟩ := id hR
  have hd0 : 0 ≤ D 34 0 := ((hk 0).1 rfl).1
  have hB : 161 * D 34 0 ≤ 160839 := by omega
  have hsc := sc_refl hG hco
  have hloop : ∀ k : Nat, k ≤ C → x_W (X, l, yX11_spoilt, cX11_spoilt, 3, (some .int), x_room 7 1 6, 1, 6, (o_i ((s_bits (fun c => s_mov (D 34) c ∧ s_come (D 34) c = 0) C : Nat) : Int)), N, sh, (sc la D), false, []) 4 [some (.ref (x_b X + 0)), some (.int (xI ((s_bits (fun c => s_mov (D 34) c ∧ s_come (D 34) c = 0) k : Nat) : Int))), some (.int (xI (k : Int)))] [] 0 0 false N sh D := by
    refine x_down C ?_ ?_
    · refine x_iload_n dX11_spoilt_4 x_get_3_2 ?_
      refine x_aload_n dX11_spoilt_5 x_get_3_0 ?_
      refine x_getR dX11_spoilt_6 fX_11_23 (by assumption) (by assumption) (by rfl) ?_
      refine x_getI 1 dX11_spoilt_9 fX_11_132 rfl (by assumption) (by assumption) (by rfl) ?_
      rw [gC]
      refine r_icmp_ge (t := 49) dX11_spoilt_12 rfl ⟨by omega, by omega⟩ ⟨by omega, by omega⟩ (fun hc12 => ?_) (fun hc12 => absurd hc12 (by omega))
      refine x_iload_n dX11_spoilt_49 x_get_3_1 ?_
      exact x_iret dX11_spoilt_50 rfl (Nat.le_of_ble_eq_true rfl) (Nat.le_of_ble_eq_true rfl) rfl rfl rfl hsc rfl
    · intro k hk2 ih
      have hcm := s_come_in hk (c := (k : Int)) (by omega) (by omega)
      refine x_iload_n dX11_spoilt_4 x_get_3_2 ?_
      refine x_aload_n dX11_spoilt_5 x_get_3_0 ?_
      refine x_getR dX11_spoilt_6 fX_11_23 (by assumption) (by assumption) (by rfl) ?_
      refine x_getI 1 dX11_spoilt_9 fX_11_132 rfl (by assumption) (by assumption) (by rfl) ?_
      rw [gC]
      refine r_icmp_ge (t := 49) dX11_spoilt_12 rfl ⟨by omega, by omega⟩ ⟨by omega, by omega⟩ (fun hc12 => absurd hc12 (by omega)) (fun hc12 => ?_)
      refine x_aload_n dX11_spoilt_15 x_get_3_0 ?_
      refine x_getR dX11_spoilt_16 fX_11_30 (by assumption) (by assumption) (by rfl) ?_
      refine x_iload_n dX11_spoilt_19 x_get_3_2 ?_
      refine x_callV (As := [_]) dX11_spoilt_20 w_11_262 (c9_isMoving hl x33 (B := 161 * D 34 0) (by omega) hk (c := (k : Int)) (by omega) (by omega)) (by assumption) (by assumption) rfl rfl (Nat.le_of_ble_eq_true rfl) (Nat.le_of_ble_eq_true rfl) (Nat.le_of_ble_eq_true rfl) (Nat.le_of_ble_eq_true rfl) (Nat.le_of_ble_eq_true rfl) ?_
      intro dz hdz
      obtain rfl := Eq.symm hdz
      refine b_ifeq (t := 43) dX11_spoilt_23 rfl (fun hc23 => ?_) (fun hc23 => ?_)
      · refine x_iinc dX11_spoilt_43 x_get_3_2 (Nat.le_of_ble_eq_true rfl) rfl x_set_3_2 ?_
        refine x_goto (t := 4) dX11_spoilt_46 rfl ?_
        first | exact ih | (rw [s_bits_n (fun h => hc23 h.1)] at ih; exact ih) | (rw [s_bits_n (fun h => hc34 h.2)] at ih; exact ih)
      · refine x_aload_n dX11_spoilt_26 x_get_3_0 ?_
        refine x_getR dX11_spoilt_27 fX_11_30 (by assumption) (by assumption) (by rfl) ?_
        refine x_iload_n dX11_spoilt_30 x_get_3_2 ?_
        refine x_callV (As := [_]) dX11_spoilt_31 w_11_265 (c9_come hl x33 (B := 161 * D 34 0) (by omega) hk (c := (k : Int)) (by omega) (by omega)) (by assumption) (by assumption) rfl rfl (Nat.le_of_ble_eq_true rfl) (Nat.le_of_ble_eq_true rfl) (Nat.le_of_ble_eq_true rfl) (Nat.le_of_ble_eq_true rfl) (Nat.le_of_ble_eq_true rfl) ?_
        intro dz hdz
        obtain rfl := Eq.symm hdz
        refine r_if_ne (t := 43) dX11_spoilt_34 rfl ⟨by omega, by omega⟩ (fun hc34 => ?_) (fun hc34 => ?_)
        · refine x_iinc dX11_spoilt_43 x_get_3_2 (Nat.le_of_ble_eq_true rfl) rfl x_set_3_2 ?_
          refine x_goto (t := 4) dX11_spoilt_46 rfl ?_
          first | exact ih | (rw [s_bits_n (fun h => hc23 h.1)] at ih; exact ih) | (rw [s_bits_n (fun h => hc34 h.2)] at ih; exact ih)
        · refine x_iload_n dX11_spoilt_37 x_get_3_1 ?_
          refine x_iconst dX11_spoilt_38 ?_
          refine x_iload_n dX11_spoilt_39 x_get_3_2 ?_
          refine x_ishl dX11_spoilt_40 ?_
          refine x_ior dX11_spoilt_41 ?_
          refine x_as_is (s_bits_or (fun c => s_mov (D 34) c ∧ s_come (D 34) c = 0) (by omega) ⟨hc23, hc34⟩) ?_
          refine x_istore_n dX11_spoilt_42 (Nat.le_of_ble_eq_true rfl) rfl x_set_3_1 ?_
          refine x_iinc dX11_spoilt_43 x_get_3_2 (Nat.le_of_ble_eq_true rfl) rfl x_set_3_2 ?_
          refine x_goto (t := 4) dX11_spoilt_46 rfl ?_
          first | exact ih | (rw [s_bits_n (fun h => hc23 h.1)] at ih; exact ih) | (rw [s_bits_n (fun h => hc34 h.2)] at ih; exact ih)
  refine x_ofW (by decide +kernel) hl (by simp [Value.category]) (by simp) ?_
  refine x_iconst dX11_spoilt_0 ?_
  refine x_istore_n dX11_spoilt_1 (Nat.le_of_ble_eq_true rfl) rfl x_set_3_1 ?_
  refine x_iconst dX11_spoilt_2 ?_
  refine x_istore_n dX11_spoilt_3 (Nat.le_of_ble_eq_true rfl) rfl x_set_3_2 ?_
  exact hloop 0 (Nat.zero_le _)
theorem c11_inGame {X : xC} {l : Launch} (hl : l.stackTraces = false) {N : Nat} {sh : xS} {D : xM} {la lb T C W : Nat} {G : Ldt} (hq : cq N sh D la lb T C W G) {d0 : xM} (hcd0 : sc la D d0) {t u x y : Int} (ht0 : 0 ≤ t) (ht1 : t < T) (hu0 : 0 ≤ u) (hu1 : u < T) (hx : x = 0 ∨ x = 1) (hy : y = 0 ∨ y = 1) : x_M X l yX11_wonInGame cX11_wonInGame 8 (some .int) 6 0 0 [.ref (x_b X + 0), .int (xI t), .int (xI u), .int (xI x), .int (xI y)] false N sh d0 (.inl (some (.int (xI (v_game C G (D 34) t u x y))))) false N sh (sc la D) := by
  obtain ⟨hX, hG, hR, ⟨hk, hd9, hpl⟩, hco⟩ := id hq
  obtain ⟨hN, x0, x1, x2, xla, xlb, x33, x35, x37, x39, x43, x45, x47, x51, x60, x61, hll⟩ := id hX
  have hla : la = 3 ∨ la = 18 := by omega
  have n0 : 0 < N := by omega
  have n1 : 1 < N := by omega
  have n2 : 2 < N := by omega
  have n33 : 33 < N := by omega
  have n34 : 34 < N := by omega
  have n35 : 35 < N := by omega
  have n36 : 36 < N := by omega
  have n37 : 37 < N := by omega
  have n38 : 38 < N := by omega
  have n39 : 39 < N := by omega
  have n40 : 40 < N := by omega
  have n41 : 41 < N := by omega
  have n42 : 42 < N := by omega
  have n43 : 43 < N := by omega
  have n45 : 45 < N := by omega
  have n47 : 47 < N := by omega
  have n51 : 51 < N := by omega
  have n60 : 60 < N := by omega
  have n61 : 61 < N := by omega
  have x33a := x33.2.1
  have x34 := x33.2.2.2
  have x35a := x35.2.1
  have x36 := x35.2.2.2
  have x37a := x37.2.1
  have x38 := x37.2.2.2
  have x39a := x39.2.1
  have x43a := x43.2.1
  have x45a := x45.2.1
  have x47a := x47.2.1
  have x51a := x51.2.1
  have xla0 := xla.2.1
  have xla1 := xla.2.2.1
  have xla2 := xla.2.2.2.1
  have hlaN : la < N := by have := xla.1; omega
  have hlaN1 : la + 1 < N := by have := xla.1; omega
  have hlaN2 : la + 2 < N := by have := xla.1; omega
  have hlaN3 : la + 3 < N := by have := xla.1; omega
  have hlaN10 : la + 10 < N := by have := xla.1; omega
  have xru := (is_L_ru xla).2.1
  have xro := (is_L_ro xla).2.1
  obtain ⟨hG1, hG2, hG3⟩ := ldG_G hG
  obtain ⟨n0', ⟨gT, gTb, gC, gCb, -⟩, -⟩ := id hG
  obtain ⟨rW, rWb, rT, -, ro1, ro2, ro3, ro4, ro5, ro6⟩ := id hR
  have hd0 : 0 ≤ D 34 0 := ((hk 0).1 rfl).1
  have hB : 161 * D 34 0 ≤ 160839 := by omega
  have hsc := sc_refl hG hco
  have h34 := sc_34 hcd0 hla
  have ha := (s_tn hk (t := t) ht0 (by omega)).1
  have hb := (s_tn hk (t := u) hu0 (by omega)).1
  have hxa : 0 ≤ x * (D 34 (1 + t) / 10) ∧ x * (D 34 (1 + t) / 10) ≤ 999 := by rcases hx with h | h <;> rw [h] <;> omega
  have hyb : 0 ≤ y * (D 34 (1 + u) / 10) ∧ y * (D 34 (1 + u) / 10) ≤ 999 := by rcases hy with h | h <;> rw [h] <;> omega
  have hxd : x * (D 34 (1 + t) / 10) ≤ D 34 (1 + t) := by rcases hx with h | h <;> rw [h] <;> omega
  have hff : ∃ ff, ff = x_u1 (D 34) (1 + t) (min 9999 (D 34 (1 + t) - x * (D 34 (1 + t) / 10) + y * (D 34 (1 + u) / 10))) := ⟨_, rfl⟩
  obtain ⟨ff, hff⟩ := hff
  have hkf : s_ok (161 * D 34 0) ff := by
    rw [hff]
    exact s_ok_u1 hk ⟨fun a => by omega, fun _ _ => ⟨by omega, by omega⟩, fun a => by omega, fun a => by omega, fun a => by omega, fun a => by omega, fun a => by omega⟩
  have hloop : ∀ k : Nat, k ≤ 10 → ∀ d : xM, sc la D d → d 36 = s_towns G C ff t k → ∀ z5 z6 : Int, x_W (X, l, yX11_wonInGame, cX11_wonInGame, 8, (some .int), x_room 6 0 0, 0, 0, (.inl (some (.int (xI (v_game C G (D 34) t u x y))))), N, sh, (sc la D), false, []) 85 [some (.ref (x_b X + 0)), some (.int (xI t)), some (.int (xI u)), some (.int (xI x)), some (.int (xI y)), some (.int (xI z5)), some (.int (xI z6)), some (.int (xI (k : Int)))] [] 0 0 false N sh d := by
    refine x_down 10 ?_ ?_
    · intro d hcd hrow z5 z6
      refine x_iload dX11_wonInGame_85 x_get_8_7 ?_
      refine x_bipush dX11_wonInGame_87 rfl ?_
      refine r_icmp_ge (t := 111) dX11_wonInGame_89 rfl ⟨by omega, by omega⟩ ⟨by omega, by omega⟩ (fun hc89 => ?_) (fun hc89 => absurd hc89 (by omega))
      refine x_aload_n dX11_wonInGame_111 x_get_8_0 ?_
      refine x_getR dX11_wonInGame_112 fX_11_34 (by assumption) (by assumption) (by rfl) ?_
      refine x_getR dX11_wonInGame_115 fX_11_135 (by assumption) (by assumption) (by rfl) ?_
      refine x_bipush dX11_wonInGame_118 rfl ?_
      refine x_iload_n dX11_wonInGame_120 x_get_8_1 ?_
      refine x_iadd dX11_wonInGame_121 ?_
      refine x_iald dX11_wonInGame_122 (by assumption) (by assumption) (by omega) (by omega) (by decide) ?_
      rw [hrow, hff]
      exact x_iret dX11_wonInGame_123 rfl (Nat.le_of_ble_eq_true rfl) (Nat.le_of_ble_eq_true rfl) rfl rfl rfl hcd rfl
    · intro k hk2 ih d hcd hrow z5 z6
      refine x_iload dX11_wonInGame_85 x_get_8_7 ?_
      refine x_bipush dX11_wonInGame_87 rfl ?_
      refine r_icmp_ge (t := 111) dX11_wonInGame_89 rfl ⟨by omega, by omega⟩ ⟨by omega, by omega⟩ (fun hc89 => absurd hc89 (by omega)) (fun hc89 => ?_)
      refine x_aload_n dX11_wonInGame_92 x_get_8_0 ?_
      refine x_getR dX11_wonInGame_93 fX_11_34 (by assumption) (by assumption) (by rfl) ?_
      refine x_aload_n dX11_wonInGame_96 x_get_8_0 ?_
      refine x_getR dX11_wonInGame_97 fX_11_23 (by assumption) (by assumption) (by rfl) ?_
      refine x_iload_n dX11_wonInGame_100 x_get_8_1 ?_
      refine x_callV (As := [_, _]) dX11_wonInGame_101 w_11_236 (c9_passTown hl x35 xla (ldG_sc hG hcd hla) (Or.inr (by omega)) (B := 161 * D 34 0 + 21 * (k : Nat)) (by rw [hrow]; exact s_ok_towns hkf hG1 hG2 gCb ht0 (by omega) k) (by omega) (t := t) ht0 (by omega)) (by assumption) (by assumption) rfl rfl (Nat.le_of_ble_eq_true rfl) (Nat.le_of_ble_eq_true rfl) (Nat.le_of_ble_eq_true rfl) (Nat.le_of_ble_eq_true rfl) (Nat.le_of_ble_eq_true rfl) ?_
      rintro d2 ⟨w2, hw2, hd2⟩
      have hcd2 : sc la D d2 := by rw [hd2]; exact sc_w (sc_36 hcd hla) hla hw2
      have hrow2 : d2 36 = s_towns G C ff t (k + 1) := by rw [hd2, x_up_n (by omega), x_up_s, hrow]; rfl
      refine x_pop dX11_wonInGame_104 rfl ?_
      refine x_iinc dX11_wonInGame_105 x_get_8_7 (Nat.le_of_ble_eq_true rfl) rfl x_set_8_7 ?_
      refine x_goto (t := 85) dX11_wonInGame_108 rfl ?_
      exact ih d2 hcd2 hrow2 z5 z6
  refine x_ofW (by decide +kernel) hl (by simp [Value.category]) (by simp) ?_
  refine x_aload_n dX11_wonInGame_0 x_get_8_0 ?_
  refine x_getR dX11_wonInGame_1 fX_11_30 (by assumption) (by assumption) (by rfl) ?_
  refine x_getR dX11_wonInGame_4 fX_11_135 (by assumption) (by assumption) (by rfl) ?_
  refine x_iconst dX11_wonInGame_7 ?_
  refine x_iload_n dX11_wonInGame_8 x_get_8_1 ?_
  refine x_iadd dX11_wonInGame_9 ?_
  refine x_iald dX11_wonInGame_10 (by assumption) (by assumption) (by omega) (by omega) (by decide) ?_
  first | rw [h34] | rw [hrow1, ← hff]
  refine x_iload_n dX11_wonInGame_11 x_get_8_3 ?_
  refine x_aload_n dX11_wonInGame_12 x_get_8_0 ?_
  refine x_getR dX11_wonInGame_13 fX_11_30 (by assumption) (by assumption) (by rfl) ?_
  refine x_getR dX11_wonInGame_16 fX_11_135 (by assumption) (by assumption) (by rfl) ?_
  refine x_iconst dX11_wonInGame_19 ?_
  refine x_iload_n dX11_wonInGame_20 x_get_8_1 ?_
  refine x_iadd dX11_wonInGame_21 ?_
  refine x_iald dX11_wonInGame_22 (by assumption) (by assumption) (by omega) (by omega) (by decide) ?_
  first | rw [h34] | rw [hrow1, ← hff]
  refine x_bipush dX11_wonInGame_23 rfl ?_
  refine x_idiv dX11_wonInGame_25 (by decide) ?_
  refine x_as_is (x_dv_nn (by omega) (by omega) (by decide) (by decide)) ?_
  refine x_imul dX11_wonInGame_26 ?_
  refine x_isub dX11_wonInGame_27 ?_
  refine x_istore dX11_wonInGame_28 (Nat.le_of_ble_eq_true rfl) rfl x_set_8_5 ?_
  refine x_iload dX11_wonInGame_30 x_get_8_4 ?_
  refine x_aload_n dX11_wonInGame_32 x_get_8_0 ?_
  refine x_getR dX11_wonInGame_33 fX_11_30 (by assumption) (by assumption) (by rfl) ?_
  refine x_getR dX11_wonInGame_36 fX_11_135 (by assumption) (by assumption) (by rfl) ?_
  refine x_iconst dX11_wonInGame_39 ?_
  refine x_iload_n dX11_wonInGame_40 x_get_8_2 ?_
  refine x_iadd dX11_wonInGame_41 ?_
  refine x_iald dX11_wonInGame_42 (by assumption) (by assumption) (by omega) (by omega) (by decide) ?_
  first | rw [h34] | rw [hrow1, ← hff]
  refine x_bipush dX11_wonInGame_43 rfl ?_
  refine x_idiv dX11_wonInGame_45 (by decide) ?_
  refine x_as_is (x_dv_nn (by omega) (by omega) (by decide) (by decide)) ?_
  refine x_imul dX11_wonInGame_46 ?_
  refine x_istore dX11_wonInGame_47 (Nat.le_of_ble_eq_true rfl) rfl x_set_8_6 ?_
  refine x_aload_n dX11_wonInGame_49 x_get_8_0 ?_
  refine x_getR dX11_wonInGame_50 fX_11_34 (by assumption) (by assumption) (by rfl) ?_
  refine x_aload_n dX11_wonInGame_53 x_get_8_0 ?_
  refine x_getR dX11_wonInGame_54 fX_11_30 (by assumption) (by assumption) (by rfl) ?_
  refine x_callV (As := [_]) dX11_wonInGame_57 w_11_121 (c9_take2 hl x35 x33) (by assumption) (by assumption) rfl rfl (Nat.le_of_ble_eq_true rfl) (Nat.le_of_ble_eq_true rfl) (Nat.le_of_ble_eq_true rfl) (Nat.le_of_ble_eq_true rfl) (Nat.le_of_ble_eq_true rfl) ?_
  rintro d1 hd1
  have hcd1 : sc la D d1 := by rw [hd1]; exact sc_36 hcd0 hla
  have hrow1 : d1 36 = D 34 := by rw [hd1, x_up_s, h34]
  refine x_aload_n dX11_wonInGame_60 x_get_8_0 ?_
  refine x_getR dX11_wonInGame_61 fX_11_34 (by assumption) (by assumption) (by rfl) ?_
  refine x_getR dX11_wonInGame_64 fX_11_135 (by assumption) (by assumption) (by rfl) ?_
  refine x_iconst dX11_wonInGame_67 ?_
  refine x_iload_n dX11_wonInGame_68 x_get_8_1 ?_
  refine x_iadd dX11_wonInGame_69 ?_
  refine x_sipush dX11_wonInGame_70 rfl ?_
  refine x_iload dX11_wonInGame_73 x_get_8_5 ?_
  refine x_iload dX11_wonInGame_75 x_get_8_6 ?_
  refine x_iadd dX11_wonInGame_77 ?_
  refine r_min dX11_wonInGame_78 w_11_396 ⟨by omega, by omega⟩ ⟨by omega, by omega⟩ (Nat.le_of_ble_eq_true rfl) (Nat.le_of_ble_eq_true rfl) (Nat.le_of_ble_eq_true rfl) (Nat.le_of_ble_eq_true rfl) ?_
  refine x_iast dX11_wonInGame_81 (by assumption) (by assumption) (by omega) (by omega) (by decide) ?_
  first | rw [h34] | rw [hrow1, ← hff]
  refine x_iconst dX11_wonInGame_82 ?_
  refine x_istore dX11_wonInGame_83 (Nat.le_of_ble_eq_true rfl) rfl x_set_8_7 ?_
  have hcd2 : sc la D (x_up d1 36 ff) := sc_36 hcd1 hla
  exact hloop 0 (Nat.zero_le _) _ hcd2 (by rw [x_up_s]; rfl) _ _
theorem c11_rests {X : xC} {l : Launch} (hl : l.stackTraces = false) {N : Nat} {sh : xS} {D : xM} {la lb T C W : Nat} {G : Ldt} (hq : cq N sh D la lb T C W G) {d0 : xM} (hcd0 : sc la D d0) {t u x y : Int} (ht0 : 0 ≤ t) (ht1 : t < T) (hu0 : 0 ≤ u) (hu1 : u < T) (hx : x = 0 ∨ x = 1) (hy : y = 0 ∨ y = 1) : x_M X l yX11_rests cX11_rests 6 (some .boolean) 7 0 0 [.ref (x_b X + 0), .int (xI t), .int (xI u), .int (xI x), .int (xI y)] false N sh d0 (.inl (some (.int (xI (x_B (p_rest C G (D 34) t u x y)))))) false N sh (sc la D) := by
  obtain ⟨hX, hG, hR, ⟨hk, hd9, hpl⟩, hco⟩ := id hq
  obtain ⟨hN, x0, x1, x2, xla, xlb, x33, x35, x37, x39, x43, x45, x47, x51, x60, x61, hll⟩ := id hX
  have hla : la = 3 ∨ la = 18 := by omega
  have n0 : 0 < N := by omega
  have n1 : 1 < N := by omega
  have n2 : 2 < N := by omega
  have n33 : 33 < N := by omega
  have n34 : 34 < N := by omega
  have n35 : 35 < N := by omega
  have n36 : 36 < N := by omega
  have n37 : 37 < N := by omega
  have n38 : 38 < N := by omega
  have n39 : 39 < N := by omega
  have n40 : 40 < N := by omega
  have n41 : 41 < N := by omega
  have n42 : 42 < N := by omega
  have n43 : 43 < N := by omega
  have n45 : 45 < N := by omega
  have n47 : 47 < N := by omega
  have n51 : 51 < N := by omega
  have n60 : 60 < N := by omega
  have n61 : 61 < N := by omega
  have x33a := x33.2.1
  have x34 := x33.2.2.2
  have x35a := x35.2.1
  have x36 := x35.2.2.2
  have x37a := x37.2.1
  have x38 := x37.2.2.2
  have x39a := x39.2.1
  have x43a := x43.2.1
  have x45a := x45.2.1
  have x47a := x47.2.1
  have x51a := x51.2.1
  have xla0 := xla.2.1
  have xla1 := xla.2.2.1
  have xla2 := xla.2.2.2.1
  have hlaN : la < N := by have := xla.1; omega
  have hlaN1 : la + 1 < N := by have := xla.1; omega
  have hlaN2 : la + 2 < N := by have := xla.1; omega
  have hlaN3 : la + 3 < N := by have := xla.1; omega
  have hlaN10 : la + 10 < N := by have := xla.1; omega
  have xru := (is_L_ru xla).2.1
  have xro := (is_L_ro xla).2.1
  obtain ⟨hG1, hG2, hG3⟩ := ldG_G hG
  obtain ⟨n0', ⟨gT, gTb, gC, gCb, -⟩, -⟩ := id hG
  obtain ⟨rW, rWb, rT, -, ro1, ro2, ro3, ro4, ro5, ro6⟩ := id hR
  have hd0 : 0 ≤ D 34 0 := ((hk 0).1 rfl).1
  have hB : 161 * D 34 0 ≤ 160839 := by omega
  have hsc := sc_refl hG hco
  have hgr : ∀ x y : Int, (x = 0 ∨ x = 1) → (y = 0 ∨ y = 1) → x_r (v_game C G (D 34) t u x y) := by
    intro x y hx hy
    have ha := (s_tn hk (t := t) ht0 (by omega)).1
    have hb := (s_tn hk (t := u) hu0 (by omega)).1
    have hxd : x * (D 34 (1 + t) / 10) ≤ D 34 (1 + t) := by rcases hx with h | h <;> rw [h] <;> omega
    have hyb : 0 ≤ y * (D 34 (1 + u) / 10) := by rcases hy with h | h <;> rw [h] <;> omega
    have hkf := s_ok_towns (s_ok_u1 hk (i := 1 + t) (v := min 9999 (D 34 (1 + t) - x * (D 34 (1 + t) / 10) + y * (D 34 (1 + u) / 10))) ⟨fun a => by omega, fun _ _ => ⟨by omega, by omega⟩, fun a => by omega, fun a => by omega, fun a => by omega, fun a => by omega, fun a => by omega⟩) hG1 hG2 gCb ht0 (by omega) 10
    have := (s_tn hkf ht0 (by omega)).2.2
    exact ⟨by unfold v_game; omega, by unfold v_game; omega⟩
  have h1x : 1 - x = 0 ∨ 1 - x = 1 := by omega
  refine x_ofW (by decide +kernel) hl (by simp [Value.category]) (by simp) ?_
  refine x_aload_n dX11_rests_0 x_get_6_0 ?_
  refine x_iload_n dX11_rests_1 x_get_6_1 ?_
  refine x_iload_n dX11_rests_2 x_get_6_2 ?_
  refine x_iload_n dX11_rests_3 x_get_6_3 ?_
  refine x_iload dX11_rests_4 x_get_6_4 ?_
  refine x_callV (As := [_, _, _, _]) dX11_rests_6 w_11_393 (c11_inGame hl hq hcd0 ht0 ht1 hu0 hu1 hx hy) (by assumption) (by assumption) rfl rfl (Nat.le_of_ble_eq_true rfl) (Nat.le_of_ble_eq_true rfl) (Nat.le_of_ble_eq_true rfl) (Nat.le_of_ble_eq_true rfl) (Nat.le_of_ble_eq_true rfl) ?_
  rintro d1 hcd1
  refine x_istore dX11_rests_9 (Nat.le_of_ble_eq_true rfl) rfl x_set_6_5 ?_
  refine x_iload dX11_rests_11 x_get_6_5 ?_
  refine x_aload_n dX11_rests_13 x_get_6_0 ?_
  refine x_iload_n dX11_rests_14 x_get_6_1 ?_
  refine x_iload_n dX11_rests_15 x_get_6_2 ?_
  refine x_iconst dX11_rests_16 ?_
  refine x_iload_n dX11_rests_17 x_get_6_3 ?_
  refine x_isub dX11_rests_18 ?_
  refine x_iload dX11_rests_19 x_get_6_4 ?_
  refine x_callV (As := [_, _, _, _]) dX11_rests_21 w_11_393 (c11_inGame hl hq hcd1 ht0 ht1 hu0 hu1 h1x hy) (by assumption) (by assumption) rfl rfl (Nat.le_of_ble_eq_true rfl) (Nat.le_of_ble_eq_true rfl) (Nat.le_of_ble_eq_true rfl) (Nat.le_of_ble_eq_true rfl) (Nat.le_of_ble_eq_true rfl) ?_
  rintro d2 hcd2
  refine r_icmp_lt (t := 31) dX11_rests_24 rfl (hgr _ _ hx hy) (hgr _ _ h1x hy) (fun hc24 => ?_) (fun hc24 => ?_)
  · refine x_iconst dX11_rests_31 ?_
    exact x_zret dX11_rests_32 rfl (by omega) (Nat.le_of_ble_eq_true rfl) (Nat.le_of_ble_eq_true rfl) (by first | (rw [x_B, if_pos (by show _ ≤ _; omega)]; done) | (rw [x_B, if_neg (by show ¬ _ ≤ _; omega)]; done)) rfl rfl hcd2 rfl
  · refine x_iconst dX11_rests_27 ?_
    refine x_goto (t := 32) dX11_rests_28 rfl ?_
    exact x_zret dX11_rests_32 rfl (by omega) (Nat.le_of_ble_eq_true rfl) (Nat.le_of_ble_eq_true rfl) (by first | (rw [x_B, if_pos (by show _ ≤ _; omega)]; done) | (rw [x_B, if_neg (by show ¬ _ ≤ _; omega)]; done)) rfl rfl hcd2 rfl
theorem c11_game {X : xC} {l : Launch} (hl : l.stackTraces = false) {N : Nat} {sh : xS} {D : xM} {la lb T C W : Nat} {G : Ldt} (hq : cq N sh D la lb T C W G) {t u w : Int} (htr : x_r t) (hur : x_r u) (hwr : x_r w) : x_M X l yX11_game cX11_game 8 (some .int) 8 1 6 [.ref (x_b X + 0), .int (xI t), .int (xI u), .int (xI w)] false N sh D (q_game T C G (D 34) t u w) false N sh (sc la D) := by
  obtain ⟨hX, hG, hR, ⟨hk, hd9, hpl⟩, hco⟩ := id hq
  obtain ⟨hN, x0, x1, x2, xla, xlb, x33, x35, x37, x39, x43, x45, x47, x51, x60, x61, hll⟩ := id hX
  have hla : la = 3 ∨ la = 18 := by omega
  have n0 : 0 < N := by omega
  have n1 : 1 < N := by omega
  have n2 : 2 < N := by omega
  have n33 : 33 < N := by omega
  have n34 : 34 < N := by omega
  have n35 : 35 < N := by omega
  have n36 : 36 < N := by omega
  have n37 : 37 < N := by omega
  have n38 : 38 < N := by omega
  have n39 : 39 < N := by omega
  have n40 : 40 < N := by omega
  have n41 : 41 < N := by omega
  have n42 : 42 < N := by omega
  have n43 : 43 < N := by omega
  have n45 : 45 < N := by omega
  have n47 : 47 < N := by omega
  have n51 : 51 < N := by omega
  have n60 : 60 < N := by omega
  have n61 : 61 < N := by omega
  have x33a := x33.2.1
  have x34 := x33.2.2.2
  have x35a := x35.2.1
  have x36 := x35.2.2.2
  have x37a := x37.2.1
  have x38 := x37.2.2.2
  have x39a := x39.2.1
  have x43a := x43.2.1
  have x45a := x45.2.1
  have x47a := x47.2.1
  have x51a := x51.2.1
  have xla0 := xla.2.1
  have xla1 := xla.2.2.1
  have xla2 := xla.2.2.2.1
  have hlaN : la < N := by have := xla.1; omega
  have hlaN1 : la + 1 < N := by have := xla.1; omega
  have hlaN2 : la + 2 < N := by have := xla.1; omega
  have hlaN3 : la + 3 < N := by have := xla.1; omega
  have hlaN10 : la + 10 < N := by have := xla.1; omega
  have xru := (is_L_ru xla).2.1
  have xro := (is_L_ro xla).2.1
  obtain ⟨hG1, hG2, hG3⟩ := ldG_G hG
  obtain ⟨n0', ⟨gT, gTb, gC, gCb, -⟩, -⟩ := id hG
  obtain ⟨rW, rWb, rT, -, ro1, ro2, ro3, ro4, ro5, ro6⟩ := id hR
  have hd0 : 0 ≤ D 34 0 := ((hk 0).1 rfl).1
  have hB : 161 * D 34 0 ≤ 160839 := by omega
  have hsc := sc_refl hG hco
  obtain ⟨hwr0, hwr1⟩ := id hwr
  unfold q_game
  by_cases ht : 0 ≤ t ∧ t < T
  · rw [if_pos ht]
    obtain ⟨ht0, ht1⟩ := id ht
    by_cases hu : 0 ≤ u ∧ u < T
    · rw [if_pos hu]
      obtain ⟨hu0, hu1⟩ := id hu
      by_cases hw : 0 ≤ w ∧ w ≤ 1
      · rw [if_pos hw]
        obtain ⟨hw0, hw1⟩ := id hw
        by_cases htu : t = u
        · rw [if_pos htu]
          refine x_ofW (by decide +kernel) hl (by simp [Value.category]) (by simp) ?_
          refine x_aload_n dX11_game_0 x_get_8_0 ?_
          refine x_iload_n dX11_game_1 x_get_8_1 ?_
          refine x_callV (As := [_]) dX11_game_2 w_11_161 (c11_nTown hl hq ht0 ht1) (by assumption) (by assumption) rfl rfl (Nat.le_of_ble_eq_true rfl) (Nat.le_of_ble_eq_true rfl) (Nat.le_of_ble_eq_true rfl) (Nat.le_of_ble_eq_true rfl) (Nat.le_of_ble_eq_true rfl) ?_
          intro d hd
          obtain rfl := Eq.symm hd
          refine x_aload_n dX11_game_5 x_get_8_0 ?_
          refine x_iload_n dX11_game_6 x_get_8_2 ?_
          refine x_callV (As := [_]) dX11_game_7 w_11_161 (c11_nTown hl hq hu0 hu1) (by assumption) (by assumption) rfl rfl (Nat.le_of_ble_eq_true rfl) (Nat.le_of_ble_eq_true rfl) (Nat.le_of_ble_eq_true rfl) (Nat.le_of_ble_eq_true rfl) (Nat.le_of_ble_eq_true rfl) ?_
          intro d hd
          obtain rfl := Eq.symm hd
          refine x_iload_n dX11_game_10 x_get_8_3 ?_
          refine x_iconst dX11_game_11 ?_
          refine x_callS (As := [_, _]) dX11_game_12 w_11_245 (c11_nWhat hl hw0 hw1 (by decide)) rfl rfl (Nat.le_of_ble_eq_true rfl) (Nat.le_of_ble_eq_true rfl) (Nat.le_of_ble_eq_true rfl) (Nat.le_of_ble_eq_true rfl) (Nat.le_of_ble_eq_true rfl) ?_
          intro d hd
          obtain rfl := Eq.symm hd
          refine x_iload_n dX11_game_15 x_get_8_1 ?_
          refine x_iload_n dX11_game_16 x_get_8_2 ?_
          refine r_icmp_ne (t := 31) dX11_game_17 rfl ⟨by omega, by omega⟩ ⟨by omega, by omega⟩ (fun hc17 => absurd hc17 (by omega)) (fun hc17 => ?_)
          exact x_throwW 26 (by decide) tw_IAE rfl dX11_game_20 dX11_game_23 dX11_game_24 dX11_game_27 dX11_game_30 (Nat.le_of_ble_eq_true rfl) (Nat.le_of_ble_eq_true rfl) (Nat.le_of_ble_eq_true rfl) (Nat.le_of_ble_eq_true rfl) rfl rfl rfl rfl hsc rfl (Nat.le_of_ble_eq_true rfl) (Nat.le_of_ble_eq_true rfl)
        · rw [if_neg htu]
          have hin : ∀ (x y : Int), (x = 0 ∨ x = 1) → (y = 0 ∨ y = 1) → ∀ p : Int × Int, (-1 ≤ p.2 ∧ p.2 ≤ 11) → ∀ d : xM, sc la D d → (∀ d2 : xM, sc la D d2 → x_W (X, l, yX11_game, cX11_game, 8, (some .int), x_room 8 1 6, 1, 6, (o_i (if w = 0 then (l_game C G (D 34) t u).1 else (l_game C G (D 34) t u).2)), N, sh, (sc la D), false, []) 105 [some (.ref (x_b X + 0)), some (.int (xI t)), some (.int (xI u)), some (.int (xI w)), some (.int (xI (g_stp C G (D 34) t u p x y).1)), some (.int (xI (g_stp C G (D 34) t u p x y).2)), some (.int (xI x)), some (.int (xI y))] [] 0 0 false N sh d2) → x_W (X, l, yX11_game, cX11_game, 8, (some .int), x_room 8 1 6, 1, 6, (o_i (if w = 0 then (l_game C G (D 34) t u).1 else (l_game C G (D 34) t u).2)), N, sh, (sc la D), false, []) 55 [some (.ref (x_b X + 0)), some (.int (xI t)), some (.int (xI u)), some (.int (xI w)), some (.int (xI p.1)), some (.int (xI p.2)), some (.int (xI x)), some (.int (xI y))] [] 0 0 false N sh d := by
            intro x y hx hy p hp d hcd kk
            refine x_aload_n dX11_game_55 x_get_8_0 ?_
            refine x_iload_n dX11_game_56 x_get_8_1 ?_
            refine x_iload_n dX11_game_57 x_get_8_2 ?_
            refine x_iload dX11_game_58 x_get_8_6 ?_
            refine x_iload dX11_game_60 x_get_8_7 ?_
            refine x_callV (As := [_, _, _, _]) dX11_game_62 w_11_353 (c11_rests hl hq hcd ht0 ht1 hu0 hu1 hx hy) (by assumption) (by assumption) rfl rfl (Nat.le_of_ble_eq_true rfl) (Nat.le_of_ble_eq_true rfl) (Nat.le_of_ble_eq_true rfl) (Nat.le_of_ble_eq_true rfl) (Nat.le_of_ble_eq_true rfl) ?_
            rintro d1 hcd1
            refine b_ifeq (t := 105) dX11_game_65 rfl (fun hc65 => ?_) (fun hc65 => ?_)
            · first | (have e : g_stp C G (D 34) t u p x y = (p.1 + 1, 10 * x + y) := (by unfold g_stp; rw [if_pos ⟨hc65, hc78⟩, if_pos hc87]); rw [e] at kk; exact kk d2 hcd2) | (have e : g_stp C G (D 34) t u p x y = (p.1 + 1, p.2) := (by unfold g_stp; rw [if_pos ⟨hc65, hc78⟩, if_neg hc87]); rw [e] at kk; exact kk d2 hcd2) | (have e : g_stp C G (D 34) t u p x y = p := (by unfold g_stp; exact if_neg (fun h => hc78 h.2)); rw [e] at kk; exact kk d2 hcd2) | (have e : g_stp C G (D 34) t u p x y = p := (by unfold g_stp; exact if_neg (fun h => hc65 h.1)); rw [e] at kk; exact kk d1 hcd1)
            · refine x_aload_n dX11_game_68 x_get_8_0 ?_
              refine x_iload_n dX11_game_69 x_get_8_2 ?_
              refine x_iload_n dX11_game_70 x_get_8_1 ?_
              refine x_iload dX11_game_71 x_get_8_7 ?_
              refine x_iload dX11_game_73 x_get_8_6 ?_
              refine x_callV (As := [_, _, _, _]) dX11_game_75 w_11_353 (c11_rests hl hq hcd1 hu0 hu1 ht0 ht1 hy hx) (by assumption) (by assumption) rfl rfl (Nat.le_of_ble_eq_true rfl) (Nat.le_of_ble_eq_true rfl) (Nat.le_of_ble_eq_true rfl) (Nat.le_of_ble_eq_true rfl) (Nat.le_of_ble_eq_true rfl) ?_
              rintro d2 hcd2
              refine b_ifeq (t := 105) dX11_game_78 rfl (fun hc78 => ?_) (fun hc78 => ?_)
              · first | (have e : g_stp C G (D 34) t u p x y = (p.1 + 1, 10 * x + y) := (by unfold g_stp; rw [if_pos ⟨hc65, hc78⟩, if_pos hc87]); rw [e] at kk; exact kk d2 hcd2) | (have e : g_stp C G (D 34) t u p x y = (p.1 + 1, p.2) := (by unfold g_stp; rw [if_pos ⟨hc65, hc78⟩, if_neg hc87]); rw [e] at kk; exact kk d2 hcd2) | (have e : g_stp C G (D 34) t u p x y = p := (by unfold g_stp; exact if_neg (fun h => hc78 h.2)); rw [e] at kk; exact kk d2 hcd2) | (have e : g_stp C G (D 34) t u p x y = p := (by unfold g_stp; exact if_neg (fun h => hc65 h.1)); rw [e] at kk; exact kk d1 hcd1)
              · refine x_iinc dX11_game_81 x_get_8_4 (Nat.le_of_ble_eq_true rfl) rfl x_set_8_4 ?_
                refine x_iload dX11_game_84 x_get_8_5 ?_
                refine x_iconst dX11_game_86 ?_
                refine r_icmp_ne (t := 101) dX11_game_87 rfl ⟨by omega, by omega⟩ ⟨by omega, by omega⟩ (fun hc87 => ?_) (fun hc87 => ?_)
                · refine x_iload dX11_game_101 x_get_8_5 ?_
                  refine x_istore dX11_game_103 (Nat.le_of_ble_eq_true rfl) rfl x_set_8_5 ?_
                  first | (have e : g_stp C G (D 34) t u p x y = (p.1 + 1, 10 * x + y) := (by unfold g_stp; rw [if_pos ⟨hc65, hc78⟩, if_pos hc87]); rw [e] at kk; exact kk d2 hcd2) | (have e : g_stp C G (D 34) t u p x y = (p.1 + 1, p.2) := (by unfold g_stp; rw [if_pos ⟨hc65, hc78⟩, if_neg hc87]); rw [e] at kk; exact kk d2 hcd2) | (have e : g_stp C G (D 34) t u p x y = p := (by unfold g_stp; exact if_neg (fun h => hc78 h.2)); rw [e] at kk; exact kk d2 hcd2) | (have e : g_stp C G (D 34) t u p x y = p := (by unfold g_stp; exact if_neg (fun h => hc65 h.1)); rw [e] at kk; exact kk d1 hcd1)
                · refine x_bipush dX11_game_90 rfl ?_
                  refine x_iload dX11_game_92 x_get_8_6 ?_
                  refine x_imul dX11_game_94 ?_
                  refine x_iload dX11_game_95 x_get_8_7 ?_
                  refine x_iadd dX11_game_97 ?_
                  refine x_goto (t := 103) dX11_game_98 rfl ?_
                  refine x_istore dX11_game_103 (Nat.le_of_ble_eq_true rfl) rfl x_set_8_5 ?_
                  first | (have e : g_stp C G (D 34) t u p x y = (p.1 + 1, 10 * x + y) := (by unfold g_stp; rw [if_pos ⟨hc65, hc78⟩, if_pos hc87]); rw [e] at kk; exact kk d2 hcd2) | (have e : g_stp C G (D 34) t u p x y = (p.1 + 1, p.2) := (by unfold g_stp; rw [if_pos ⟨hc65, hc78⟩, if_neg hc87]); rw [e] at kk; exact kk d2 hcd2) | (have e : g_stp C G (D 34) t u p x y = p := (by unfold g_stp; exact if_neg (fun h => hc78 h.2)); rw [e] at kk; exact kk d2 hcd2) | (have e : g_stp C G (D 34) t u p x y = p := (by unfold g_stp; exact if_neg (fun h => hc65 h.1)); rw [e] at kk; exact kk d1 hcd1)
          refine x_ofW (by decide +kernel) hl (by simp [Value.category]) (by simp) ?_
          refine x_aload_n dX11_game_0 x_get_8_0 ?_
          refine x_iload_n dX11_game_1 x_get_8_1 ?_
          refine x_callV (As := [_]) dX11_game_2 w_11_161 (c11_nTown hl hq ht0 ht1) (by assumption) (by assumption) rfl rfl (Nat.le_of_ble_eq_true rfl) (Nat.le_of_ble_eq_true rfl) (Nat.le_of_ble_eq_true rfl) (Nat.le_of_ble_eq_true rfl) (Nat.le_of_ble_eq_true rfl) ?_
          intro d hd
          obtain rfl := Eq.symm hd
          refine x_aload_n dX11_game_5 x_get_8_0 ?_
          refine x_iload_n dX11_game_6 x_get_8_2 ?_
          refine x_callV (As := [_]) dX11_game_7 w_11_161 (c11_nTown hl hq hu0 hu1) (by assumption) (by assumption) rfl rfl (Nat.le_of_ble_eq_true rfl) (Nat.le_of_ble_eq_true rfl) (Nat.le_of_ble_eq_true rfl) (Nat.le_of_ble_eq_true rfl) (Nat.le_of_ble_eq_true rfl) ?_
          intro d hd
          obtain rfl := Eq.symm hd
          refine x_iload_n dX11_game_10 x_get_8_3 ?_
          refine x_iconst dX11_game_11 ?_
          refine x_callS (As := [_, _]) dX11_game_12 w_11_245 (c11_nWhat hl hw0 hw1 (by decide)) rfl rfl (Nat.le_of_ble_eq_true rfl) (Nat.le_of_ble_eq_true rfl) (Nat.le_of_ble_eq_true rfl) (Nat.le_of_ble_eq_true rfl) (Nat.le_of_ble_eq_true rfl) ?_
          intro d hd
          obtain rfl := Eq.symm hd
          refine x_iload_n dX11_game_15 x_get_8_1 ?_
          refine x_iload_n dX11_game_16 x_get_8_2 ?_
          refine r_icmp_ne (t := 31) dX11_game_17 rfl ⟨by omega, by omega⟩ ⟨by omega, by omega⟩ (fun hc17 => ?_) (fun hc17 => absurd hc17 (by omega))
          refine x_iconst dX11_game_31 ?_
          refine x_istore dX11_game_32 (Nat.le_of_ble_eq_true rfl) rfl x_set_8_4 ?_
          refine x_iconst dX11_game_34 ?_
          refine x_istore dX11_game_35 (Nat.le_of_ble_eq_true rfl) rfl x_set_8_5 ?_
          refine x_iconst dX11_game_37 ?_
          refine x_istore dX11_game_38 (Nat.le_of_ble_eq_true rfl) rfl x_set_8_6 ?_
          refine x_iload dX11_game_40 x_get_8_6 ?_
          refine x_iconst dX11_game_42 ?_
          refine r_icmp_gt (t := 117) dX11_game_43 rfl ⟨by omega, by omega⟩ ⟨by omega, by omega⟩ (fun hc43 => absurd hc43 (by omega)) (fun hc43 => ?_)
          refine x_iconst dX11_game_46 ?_
          refine x_istore dX11_game_47 (Nat.le_of_ble_eq_true rfl) rfl x_set_8_7 ?_
          refine x_iload dX11_game_49 x_get_8_7 ?_
          refine x_iconst dX11_game_51 ?_
          refine r_icmp_gt (t := 111) dX11_game_52 rfl ⟨by omega, by omega⟩ ⟨by omega, by omega⟩ (fun hc52 => absurd hc52 (by omega)) (fun hc52 => ?_)
          refine hin 0 0 (Or.inl rfl) (Or.inl rfl) (0, -1) ⟨by decide, by decide⟩ D hsc (fun d1 hd1 => ?_)
          refine x_iinc dX11_game_105 x_get_8_7 (Nat.le_of_ble_eq_true rfl) rfl x_set_8_7 ?_
          refine x_goto (t := 49) dX11_game_108 rfl ?_
          refine x_iload dX11_game_49 x_get_8_7 ?_
          refine x_iconst dX11_game_51 ?_
          refine r_icmp_gt (t := 111) dX11_game_52 rfl ⟨by omega, by omega⟩ ⟨by omega, by omega⟩ (fun hc52 => absurd hc52 (by omega)) (fun hc52 => ?_)
          refine hin 0 1 (Or.inl rfl) (Or.inr rfl) _ (g_stp_in ⟨by decide, by decide⟩ (Or.inl rfl) (Or.inl rfl)) d1 hd1 (fun d2 hd2 => ?_)
          refine x_iinc dX11_game_105 x_get_8_7 (Nat.le_of_ble_eq_true rfl) rfl x_set_8_7 ?_
          refine x_goto (t := 49) dX11_game_108 rfl ?_
          refine x_iload dX11_game_49 x_get_8_7 ?_
          refine x_iconst dX11_game_51 ?_
          refine r_icmp_gt (t := 111) dX11_game_52 rfl ⟨by omega, by omega⟩ ⟨by omega, by omega⟩ (fun hc52 => ?_) (fun hc52 => absurd hc52 (by omega))
          refine x_iinc dX11_game_111 x_get_8_6 (Nat.le_of_ble_eq_true rfl) rfl x_set_8_6 ?_
          refine x_goto (t := 40) dX11_game_114 rfl ?_
          refine x_iload dX11_game_40 x_get_8_6 ?_
          refine x_iconst dX11_game_42 ?_
          refine r_icmp_gt (t := 117) dX11_game_43 rfl ⟨by omega, by omega⟩ ⟨by omega, by omega⟩ (fun hc43 => absurd hc43 (by omega)) (fun hc43 => ?_)
          skip
          refine x_iconst dX11_game_46 ?_
          refine x_istore dX11_game_47 (Nat.le_of_ble_eq_true rfl) rfl x_set_8_7 ?_
          refine x_iload dX11_game_49 x_get_8_7 ?_
          refine x_iconst dX11_game_51 ?_
          refine r_icmp_gt (t := 111) dX11_game_52 rfl ⟨by omega, by omega⟩ ⟨by omega, by omega⟩ (fun hc52 => absurd hc52 (by omega)) (fun hc52 => ?_)
          refine hin 1 0 (Or.inr rfl) (Or.inl rfl) _ (g_stp_in (g_stp_in ⟨by decide, by decide⟩ (Or.inl rfl) (Or.inl rfl)) (Or.inl rfl) (Or.inr rfl)) d2 hd2 (fun d3 hd3 => ?_)
          refine x_iinc dX11_game_105 x_get_8_7 (Nat.le_of_ble_eq_true rfl) rfl x_set_8_7 ?_
          refine x_goto (t := 49) dX11_game_108 rfl ?_
          refine x_iload dX11_game_49 x_get_8_7 ?_
          refine x_iconst dX11_game_51 ?_
          refine r_icmp_gt (t := 111) dX11_game_52 rfl ⟨by omega, by omega⟩ ⟨by omega, by omega⟩ (fun hc52 => absurd hc52 (by omega)) (fun hc52 => ?_)
          refine hin 1 1 (Or.inr rfl) (Or.inr rfl) _ (g_stp_in (g_stp_in (g_stp_in ⟨by decide, by decide⟩ (Or.inl rfl) (Or.inl rfl)) (Or.inl rfl) (Or.inr rfl)) (Or.inr rfl) (Or.inl rfl)) d3 hd3 (fun d4 hd4 => ?_)
          refine x_iinc dX11_game_105 x_get_8_7 (Nat.le_of_ble_eq_true rfl) rfl x_set_8_7 ?_
          refine x_goto (t := 49) dX11_game_108 rfl ?_
          refine x_iload dX11_game_49 x_get_8_7 ?_
          refine x_iconst dX11_game_51 ?_
          refine r_icmp_gt (t := 111) dX11_game_52 rfl ⟨by omega, by omega⟩ ⟨by omega, by omega⟩ (fun hc52 => ?_) (fun hc52 => absurd hc52 (by omega))
          refine x_iinc dX11_game_111 x_get_8_6 (Nat.le_of_ble_eq_true rfl) rfl x_set_8_6 ?_
          refine x_goto (t := 40) dX11_game_114 rfl ?_
          refine x_iload dX11_game_40 x_get_8_6 ?_
          refine x_iconst dX11_game_42 ?_
          refine r_icmp_gt (t := 117) dX11_game_43 rfl ⟨by omega, by omega⟩ ⟨by omega, by omega⟩ (fun hc43 => ?_) (fun hc43 => absurd hc43 (by omega))
          refine x_iload_n dX11_game_117 x_get_8_3 ?_
          refine r_if_ne (t := 126) dX11_game_118 rfl ⟨by omega, by omega⟩ (fun hc118 => ?_) (fun hc118 => ?_)
          · refine x_iload dX11_game_126 x_get_8_5 ?_
            exact x_iret dX11_game_128 rfl (Nat.le_of_ble_eq_true rfl) (Nat.le_of_ble_eq_true rfl) (by first | (rw [if_pos hc118]; rfl) | (rw [if_neg hc118]; rfl)) rfl rfl hd4 rfl
          · refine x_iload dX11_game_121 x_get_8_4 ?_
            refine x_goto (t := 128) dX11_game_123 rfl ?_
            exact x_iret dX11_game_128 rfl (Nat.le_of_ble_eq_true rfl) (Nat.le_of_ble_eq_true rfl) (by first | (rw [if_pos hc118]; rfl) | (rw [if_neg hc118]; rfl)) rfl rfl hd4 rfl
      · rw [if_neg hw]
        refine x_ofW (by decide +kernel) hl (by simp [Value.category]) (by simp) ?_
        refine x_aload_n dX11_game_0 x_get_8_0 ?_
        refine x_iload_n dX11_game_1 x_get_8_1 ?_
        refine x_callV (As := [_]) dX11_game_2 w_11_161 (c11_nTown hl hq ht0 ht1) (by assumption) (by assumption) rfl rfl (Nat.le_of_ble_eq_true rfl) (Nat.le_of_ble_eq_true rfl) (Nat.le_of_ble_eq_true rfl) (Nat.le_of_ble_eq_true rfl) (Nat.le_of_ble_eq_true rfl) ?_
        intro d hd
        obtain rfl := Eq.symm hd
        refine x_aload_n dX11_game_5 x_get_8_0 ?_
        refine x_iload_n dX11_game_6 x_get_8_2 ?_
        refine x_callV (As := [_]) dX11_game_7 w_11_161 (c11_nTown hl hq hu0 hu1) (by assumption) (by assumption) rfl rfl (Nat.le_of_ble_eq_true rfl) (Nat.le_of_ble_eq_true rfl) (Nat.le_of_ble_eq_true rfl) (Nat.le_of_ble_eq_true rfl) (Nat.le_of_ble_eq_true rfl) ?_
        intro d hd
        obtain rfl := Eq.symm hd
        refine x_iload_n dX11_game_10 x_get_8_3 ?_
        refine x_iconst dX11_game_11 ?_
        exact x_callST (As := [_, _]) dX11_game_12 w_11_245 (c11_nWhatT hl hwr hw (by decide) (by decide)) rfl rfl (Nat.le_of_ble_eq_true rfl) (Nat.le_of_ble_eq_true rfl) (Nat.le_of_ble_eq_true rfl) (Nat.le_of_ble_eq_true rfl) (Nat.le_of_ble_eq_true rfl) rfl rfl rfl rfl (fun d hd => by obtain rfl := Eq.symm hd; exact hsc) rfl (Nat.le_of_ble_eq_true rfl) (Nat.le_of_ble_eq_true rfl)
    · rw [if_neg hu]
      refine x_ofW (by decide +kernel) hl (by simp [Value.category]) (by simp) ?_
      refine x_aload_n dX11_game_0 x_get_8_0 ?_
      refine x_iload_n dX11_game_1 x_get_8_1 ?_
      refine x_callV (As := [_]) dX11_game_2 w_11_161 (c11_nTown hl hq ht0 ht1) (by assumption) (by assumption) rfl rfl (Nat.le_of_ble_eq_true rfl) (Nat.le_of_ble_eq_true rfl) (Nat.le_of_ble_eq_true rfl) (Nat.le_of_ble_eq_true rfl) (Nat.le_of_ble_eq_true rfl) ?_
      intro d hd
      obtain rfl := Eq.symm hd
      refine x_aload_n dX11_game_5 x_get_8_0 ?_
      refine x_iload_n dX11_game_6 x_get_8_2 ?_
      exact x_callVT (As := [_]) dX11_game_7 w_11_161 (c11_nTownT hl hq hur hu) (by assumption) (by assumption) rfl rfl (Nat.le_of_ble_eq_true rfl) (Nat.le_of_ble_eq_true rfl) (Nat.le_of_ble_eq_true rfl) (Nat.le_of_ble_eq_true rfl) (Nat.le_of_ble_eq_true rfl) rfl rfl rfl rfl (fun d hd => by obtain rfl := Eq.symm hd; exact hsc) rfl (Nat.le_of_ble_eq_true rfl) (Nat.le_of_ble_eq_true rfl)
  · rw [if_neg ht]
    refine x_ofW (by decide +kernel) hl (by simp [Value.category]) (by simp) ?_
    refine x_aload_n dX11_game_0 x_get_8_0 ?_
    refine x_iload_n dX11_game_1 x_get_8_1 ?_
    exact x_callVT (As := [_]) dX11_game_2 w_11_161 (c11_nTownT hl hq htr ht) (by assumption) (by assumption) rfl rfl (Nat.le_of_ble_eq_true rfl) (Nat.le_of_ble_eq_true rfl) (Nat.le_of_ble_eq_true rfl) (Nat.le_of_ble_eq_true rfl) (Nat.le_of_ble_eq_true rfl) rfl rfl rfl rfl (fun d hd => by obtain rfl := Eq.symm hd; exact hsc) rfl (Nat.le_of_ble_eq_true rfl) (Nat.le_of_ble_eq_true rfl)
theorem c11_years {X : xC} {l : Launch} (hl : l.stackTraces = false) {N : Nat} {sh : xS} {D : xM} {la lb T C W : Nat} {G : Ldt} (hq : cq N sh D la lb T C W G) {s n w : Int} (hnr : x_r n) (hwr : x_r w) : x_M X l yX11_years cX11_years 5 (some .int) 7 1 6 [.ref (x_b X + 0), .int (xI s), .int (xI n), .int (xI w)] false N sh D (q_years T C G (D 34) s n w) false N sh (sc la D) := by
  obtain ⟨hX, hG, hR, ⟨hk, hd9, hpl⟩, hco⟩ := id hq
  obtain ⟨hN, x0, x1, x2, xla, xlb, x33, x35, x37, x39, x43, x45, x47, x51, x60, x61, hll⟩ := id hX
  have hla : la = 3 ∨ la = 18 := by omega
  have n0 : 0 < N := by omega
  have n1 : 1 < N := by omega
  have n2 : 2 < N := by omega
  have n33 : 33 < N := by omega
  have n34 : 34 < N := by omega
  have n35 : 35 < N := by omega
  have n36 : 36 < N := by omega
  have n37 : 37 < N := by omega
  have n38 : 38 < N := by omega
  have n39 : 39 < N := by omega
  have n40 : 40 < N := by omega
  have n41 : 41 < N := by omega
  have n42 : 42 < N := by omega
  have n43 : 43 < N := by omega
  have n45 : 45 < N := by omega
  have n47 : 47 < N := by omega
  have n51 : 51 < N := by omega
  have n60 : 60 < N := by omega
  have n61 : 61 < N := by omega
  have x33a := x33.2.1
  have x34 := x33.2.2.2
  have x35a := x35.2.1
  have x36 := x35.2.2.2
  have x37a := x37.2.1
  have x38 := x37.2.2.2
  have x39a := x39.2.1
  have x43a := x43.2.1
  have x45a := x45.2.1
  have x47a := x47.2.1
  have x51a := x51.2.1
  have xla0 := xla.2.1
  have xla1 := xla.2.2.1
  have xla2 := xla.2.2.2.1
  have hlaN : la < N := by have := xla.1; omega
  have hlaN1 : la + 1 < N := by have := xla.1; omega
  have hlaN2 : la + 2 < N := by have := xla.1; omega
  have hlaN3 : la + 3 < N := by have := xla.1; omega
  have hlaN10 : la + 10 < N := by have := xla.1; omega
  have xru := (is_L_ru xla).2.1
  have xro := (is_L_ro xla).2.1
  obtain ⟨hG1, hG2, hG3⟩ := ldG_G hG
  obtain ⟨n0', ⟨gT, gTb, gC, gCb, -⟩, -⟩ := id hG
  obtain ⟨rW, rWb, rT, -, ro1, ro2, ro3, ro4, ro5, ro6⟩ := id hR
  have hd0 : 0 ≤ D 34 0 := ((hk 0).1 rfl).1
  have hB : 161 * D 34 0 ≤ 160839 := by omega
  have hsc := sc_refl hG hco
  unfold q_years
  by_cases hw : 0 ≤ w ∧ w ≤ 2
  · rw [if_pos hw]
    obtain ⟨hw0, hw1⟩ := id hw
    by_cases hn : 0 ≤ n ∧ n ≤ 60
    · rw [if_pos hn]
      obtain ⟨hn0, hn1⟩ := id hn
      obtain ⟨m, rfl⟩ := Int.eq_ofNat_of_zero_le hn0
      rw [Int.toNat_natCast]
      have hko := fun k : Nat => s_ok_yst hk hG1 hG2 gTb gCb s k
      have hloop : ∀ k : Nat, k ≤ m → ∀ d : xM, sc la D d → d 36 = (y_st T C G (D 34) s k).1 → d 60 0 = (y_st T C G (D 34) s k).2 → x_W (X, l, yX11_years, cX11_years, 5, (some .int), x_room 7 1 6, 1, 6, (o_i (v_years T C (y_st T C G (D 34) s m).1 w)), N, sh, (sc la D), false, []) 34 [some (.ref (x_b X + 0)), some (.int (xI s)), some (.int (xI (m : Int))), some (.int (xI w)), some (.int (xI (k : Int)))] [] 0 0 false N sh d := by
        refine x_down m ?_ ?_
        · intro d hcd hrow hsd
          refine x_iload dX11_years_34 x_get_5_4 ?_
          refine x_iload_n dX11_years_36 x_get_5_2 ?_
          refine r_icmp_ge (t := 104) dX11_years_37 rfl ⟨by omega, by omega⟩ ⟨by omega, by omega⟩ (fun hc37 => ?_) (fun hc37 => absurd hc37 (by omega))
          refine x_iload_n dX11_years_104 x_get_5_3 ?_
          have hkm := hko m
          have hc : w = 0 ∨ w = 1 ∨ w = 2 := by omega
          rcases hc with rfl | rfl | rfl
          · refine x_lsw (off := 27) (t := 132) dX11_years_105 (by decide) (by decide +kernel) rfl ?_
            refine x_aload_n dX11_years_132 x_get_5_0 ?_
            refine x_getR dX11_years_133 fX_11_34 (by assumption) (by assumption) (by rfl) ?_
            refine x_bipush dX11_years_136 rfl ?_
            refine x_aload_n dX11_years_138 x_get_5_0 ?_
            refine x_getR dX11_years_139 fX_11_23 (by assumption) (by assumption) (by rfl) ?_
            refine x_getI 0 dX11_years_142 fX_11_110 rfl (by assumption) (by assumption) (by rfl) ?_
            first | rw [sc_la hcd hla, gT] | rw [sc_la hcd hla, gC]
            refine x_callV (As := [_, _]) dX11_years_145 w_11_138 (c9_sum hl x35 (fr := 17) (T := T) (by decide) (by omega)) (by assumption) (by assumption) rfl rfl (Nat.le_of_ble_eq_true rfl) (Nat.le_of_ble_eq_true rfl) (Nat.le_of_ble_eq_true rfl) (Nat.le_of_ble_eq_true rfl) (Nat.le_of_ble_eq_true rfl) ?_
            intro dz hdz
            obtain rfl := Eq.symm hdz
            rw [hrow]
            exact x_iret dX11_years_148 rfl (Nat.le_of_ble_eq_true rfl) (Nat.le_of_ble_eq_true rfl) rfl rfl rfl hcd rfl
          · refine x_lsw (off := 44) (t := 149) dX11_years_105 (by decide) (by decide +kernel) rfl ?_
            refine x_aload_n dX11_years_149 x_get_5_0 ?_
            refine x_getR dX11_years_150 fX_11_34 (by assumption) (by assumption) (by rfl) ?_
            refine x_iconst dX11_years_153 ?_
            refine x_aload_n dX11_years_154 x_get_5_0 ?_
            refine x_getR dX11_years_155 fX_11_23 (by assumption) (by assumption) (by rfl) ?_
            refine x_getI 0 dX11_years_158 fX_11_110 rfl (by assumption) (by assumption) (by rfl) ?_
            first | rw [sc_la hcd hla, gT] | rw [sc_la hcd hla, gC]
            refine x_callV (As := [_, _]) dX11_years_161 w_11_138 (c9_sum hl x35 (fr := 1) (T := T) (by decide) (by omega)) (by assumption) (by assumption) rfl rfl (Nat.le_of_ble_eq_true rfl) (Nat.le_of_ble_eq_true rfl) (Nat.le_of_ble_eq_true rfl) (Nat.le_of_ble_eq_true rfl) (Nat.le_of_ble_eq_true rfl) ?_
            intro dz hdz
            obtain rfl := Eq.symm hdz
            rw [hrow]
            exact x_iret dX11_years_164 rfl (Nat.le_of_ble_eq_true rfl) (Nat.le_of_ble_eq_true rfl) rfl rfl rfl hcd rfl
          · refine x_lsw (off := 60) (t := 165) dX11_years_105 (by decide) (by decide +kernel) rfl ?_
            refine x_aload_n dX11_years_165 x_get_5_0 ?_
            refine x_getR dX11_years_166 fX_11_34 (by assumption) (by assumption) (by rfl) ?_
            refine x_aload_n dX11_years_169 x_get_5_0 ?_
            refine x_getR dX11_years_170 fX_11_23 (by assumption) (by assumption) (by rfl) ?_
            refine x_getI 1 dX11_years_173 fX_11_132 rfl (by assumption) (by assumption) (by rfl) ?_
            first | rw [sc_la hcd hla, gT] | rw [sc_la hcd hla, gC]
            refine x_callV (As := [_]) dX11_years_176 w_11_149 (c9_goneBits hl x35 (B := 161 * D 34 0 + 161 * (m : Nat)) (by omega) (by rw [hrow]; exact hkm) gCb) (by assumption) (by assumption) rfl rfl (Nat.le_of_ble_eq_true rfl) (Nat.le_of_ble_eq_true rfl) (Nat.le_of_ble_eq_true rfl) (Nat.le_of_ble_eq_true rfl) (Nat.le_of_ble_eq_true rfl) ?_
            intro dz hdz
            obtain rfl := Eq.symm hdz
            rw [hrow]
            refine x_callS (As := [_]) dX11_years_179 w_11_302 (cJ_bitCount hl (s_bits_10 gCb)) rfl rfl (Nat.le_of_ble_eq_true rfl) (Nat.le_of_ble_eq_true rfl) (Nat.le_of_ble_eq_true rfl) (Nat.le_of_ble_eq_true rfl) (Nat.le_of_ble_eq_true rfl) ?_
            intro dz hdz
            obtain rfl := Eq.symm hdz
            exact x_iret dX11_years_182 rfl (Nat.le_of_ble_eq_true rfl) (Nat.le_of_ble_eq_true rfl) rfl rfl rfl hcd rfl
        · intro k hk2 ih d hcd hrow hsd
          have hkk := hko k
          have hps : ∀ d2 : xM, sc la D d2 → d2 36 = (y_pre C (y_st T C G (D 34) s k)).1 → d2 60 0 = (y_pre C (y_st T C G (D 34) s k)).2 → x_W (X, l, yX11_years, cX11_years, 5, (some .int), x_room 7 1 6, 1, 6, (o_i (v_years T C (y_st T C G (D 34) s m).1 w)), N, sh, (sc la D), false, []) 83 [some (.ref (x_b X + 0)), some (.int (xI s)), some (.int (xI (m : Int))), some (.int (xI w)), some (.int (xI (k : Int)))] [] 0 0 false N sh d2 := by
            intro d2 hcd2 hrow2 hsd2
            refine x_aload_n dX11_years_83 x_get_5_0 ?_
            refine x_getR dX11_years_84 fX_11_34 (by assumption) (by assumption) (by rfl) ?_
            refine x_aload_n dX11_years_87 x_get_5_0 ?_
            refine x_getR dX11_years_88 fX_11_23 (by assumption) (by assumption) (by rfl) ?_
            refine x_aload_n dX11_years_91 x_get_5_0 ?_
            refine x_getR dX11_years_92 fX_11_74 (by assumption) (by assumption) (by rfl) ?_
            refine x_callV (As := [_, _]) dX11_years_95 w_11_366 (c9_passDraws hl x35 xla (ldG_sc hG hcd2 hla) (Or.inr (by omega)) (B := 161 * D 34 0 + 161 * (k : Nat)) (by rw [hrow2]; exact s_ok_pre hkk gCb) n60 x60 (Or.inr (by omega)) (by decide) (by omega)) (by assumption) (by assumption) rfl rfl (Nat.le_of_ble_eq_true rfl) (Nat.le_of_ble_eq_true rfl) (Nat.le_of_ble_eq_true rfl) (Nat.le_of_ble_eq_true rfl) (Nat.le_of_ble_eq_true rfl) ?_
            rintro d3 ⟨w3, hw3, hd3⟩
            rw [hrow2, hsd2] at hd3
            refine x_iinc dX11_years_98 x_get_5_4 (Nat.le_of_ble_eq_true rfl) rfl x_set_5_4 ?_
            refine x_goto (t := 34) dX11_years_101 rfl ?_
            refine ih d3 (by rw [hd3]; exact sc_w (sc_36 (sc_60 hcd2 hla) hla) hla hw3) (by rw [hd3, x_up_n (by omega), x_up_s]; rfl) (by rw [hd3, x_up_n (by omega), x_up_n (by decide), x_up_s, x_u1_s]; rfl)
          refine x_iload dX11_years_34 x_get_5_4 ?_
          refine x_iload_n dX11_years_36 x_get_5_2 ?_
          refine r_icmp_ge (t := 104) dX11_years_37 rfl ⟨by omega, by omega⟩ ⟨by omega, by omega⟩ (fun hc37 => absurd hc37 (by omega)) (fun hc37 => ?_)
          refine x_aload_n dX11_years_40 x_get_5_0 ?_
          refine x_getR dX11_years_41 fX_11_74 (by assumption) (by assumption) (by rfl) ?_
          refine x_bipush dX11_years_44 rfl ?_
          refine x_callV (As := [_]) dX11_years_46 w_11_360 (c2_draw hl n60 x60 (n := 9) (by decide) (by decide)) (by assumption) (by assumption) rfl rfl (Nat.le_of_ble_eq_true rfl) (Nat.le_of_ble_eq_true rfl) (Nat.le_of_ble_eq_true rfl) (Nat.le_of_ble_eq_true rfl) (Nat.le_of_ble_eq_true rfl) ?_
          rintro d1 hd1
          have hcd1 : sc la D d1 := by rw [hd1]; exact sc_60 hcd hla
          have hr1 : d1 36 = (y_st T C G (D 34) s k).1 := by rw [hd1, x_up_n (by decide)]; exact hrow
          have hs1 : d1 60 0 = d_next (y_st T C G (D 34) s k).2 := by rw [hd1, x_up_s, x_u1_s, hsd]
          rw [hsd]
          have hdv := d_val_in (y_st T C G (D 34) s k).2 (n := 9) (by decide)
          refine r_if_ne (t := 83) dX11_years_49 rfl ⟨by omega, by omega⟩ (fun hc49 => ?_) (fun hc49 => ?_)
          · first | exact hps d3 hcd3 (by unfold y_pre; rw [if_pos ⟨hc49, by omega⟩]; exact hr3) (by unfold y_pre; rw [if_pos ⟨hc49, by omega⟩]; exact hs3) | exact hps d1 hcd1 (by unfold y_pre; rw [if_neg (fun h => absurd h.2 (by omega))]; exact hr1) (by unfold y_pre; rw [if_neg (fun h => absurd h.2 (by omega))]; exact hs1) | exact hps d1 hcd1 (by unfold y_pre; rw [if_neg (fun h => hc49 h.1)]; exact hr1) (by unfold y_pre; rw [if_neg (fun h => hc49 h.1)]; exact hs1)
          · refine x_aload_n dX11_years_52 x_get_5_0 ?_
            refine x_getR dX11_years_53 fX_11_23 (by assumption) (by assumption) (by rfl) ?_
            refine x_getI 1 dX11_years_56 fX_11_132 rfl (by assumption) (by assumption) (by rfl) ?_
            rw [sc_la hcd1 hla, gC]
            refine r_if_le (t := 83) dX11_years_59 rfl ⟨by omega, by omega⟩ (fun hc59 => ?_) (fun hc59 => ?_)
            · first | exact hps d3 hcd3 (by unfold y_pre; rw [if_pos ⟨hc49, by omega⟩]; exact hr3) (by unfold y_pre; rw [if_pos ⟨hc49, by omega⟩]; exact hs3) | exact hps d1 hcd1 (by unfold y_pre; rw [if_neg (fun h => absurd h.2 (by omega))]; exact hr1) (by unfold y_pre; rw [if_neg (fun h => absurd h.2 (by omega))]; exact hs1) | exact hps d1 hcd1 (by unfold y_pre; rw [if_neg (fun h => hc49 h.1)]; exact hr1) (by unfold y_pre; rw [if_neg (fun h => hc49 h.1)]; exact hs1)
            · refine x_aload_n dX11_years_62 x_get_5_0 ?_
              refine x_getR dX11_years_63 fX_11_34 (by assumption) (by assumption) (by rfl) ?_
              refine x_aload_n dX11_years_66 x_get_5_0 ?_
              refine x_getR dX11_years_67 fX_11_74 (by assumption) (by assumption) (by rfl) ?_
              refine x_aload_n dX11_years_70 x_get_5_0 ?_
              refine x_getR dX11_years_71 fX_11_23 (by assumption) (by assumption) (by rfl) ?_
              refine x_getI 1 dX11_years_74 fX_11_132 rfl (by assumption) (by assumption) (by rfl) ?_
              rw [sc_la hcd1 hla, gC]
              refine x_callV (As := [_]) dX11_years_77 w_11_360 (c2_draw hl n60 x60 (n := (C : Int)) (by omega) (by omega)) (by assumption) (by assumption) rfl rfl (Nat.le_of_ble_eq_true rfl) (Nat.le_of_ble_eq_true rfl) (Nat.le_of_ble_eq_true rfl) (Nat.le_of_ble_eq_true rfl) (Nat.le_of_ble_eq_true rfl) ?_
              rintro d2 hd2
              have hcd2 : sc la D d2 := by rw [hd2]; exact sc_60 hcd1 hla
              have hr2 : d2 36 = (y_st T C G (D 34) s k).1 := by rw [hd2, x_up_n (by decide)]; exact hr1
              have hs2 : d2 60 0 = d_next (d_next (y_st T C G (D 34) s k).2) := by rw [hd2, x_up_s, x_u1_s, hs1]
              rw [hs1]
              have hdw := d_val_in (d_next (y_st T C G (D 34) s k).2) (n := (C : Int)) (by omega)
              refine x_callV (As := [_]) dX11_years_80 w_11_363 (c9_steal hl x35 (B := 161 * D 34 0 + 161 * (k : Nat)) (by omega) (by rw [hr2]; exact hkk) (by omega) (by omega)) (by assumption) (by assumption) rfl rfl (Nat.le_of_ble_eq_true rfl) (Nat.le_of_ble_eq_true rfl) (Nat.le_of_ble_eq_true rfl) (Nat.le_of_ble_eq_true rfl) (Nat.le_of_ble_eq_true rfl) ?_
              rintro d3 hd3
              have hcd3 : sc la D d3 := by rw [hd3]; exact sc_36 hcd2 hla
              have hr3 : d3 36 = s_steal (y_st T C G (D 34) s k).1 (d_val (d_next (d_next (y_st T C G (D 34) s k).2)) C) := by rw [hd3, x_up_s, hr2]
              have hs3 : d3 60 0 = d_next (d_next (y_st T C G (D 34) s k).2) := by rw [hd3, x_up_n (by decide)]; exact hs2
              first | exact hps d3 hcd3 (by unfold y_pre; rw [if_pos ⟨hc49, by omega⟩]; exact hr3) (by unfold y_pre; rw [if_pos ⟨hc49, by omega⟩]; exact hs3) | exact hps d1 hcd1 (by unfold y_pre; rw [if_neg (fun h => absurd h.2 (by omega))]; exact hr1) (by unfold y_pre; rw [if_neg (fun h => absurd h.2 (by omega))]; exact hs1) | exact hps d1 hcd1 (by unfold y_pre; rw [if_neg (fun h => hc49 h.1)]; exact hr1) (by unfold y_pre; rw [if_neg (fun h => hc49 h.1)]; exact hs1)
      refine x_ofW (by decide +kernel) hl (by simp [Value.category]) (by simp) ?_
      refine x_iload_n dX11_years_0 x_get_5_3 ?_
      refine x_iconst dX11_years_1 ?_
      refine x_callS (As := [_, _]) dX11_years_2 w_11_245 (c11_nWhat hl hw0 hw1 (by decide)) rfl rfl (Nat.le_of_ble_eq_true rfl) (Nat.le_of_ble_eq_true rfl) (Nat.le_of_ble_eq_true rfl) (Nat.le_of_ble_eq_true rfl) (Nat.le_of_ble_eq_true rfl) ?_
      intro d hd
      obtain rfl := Eq.symm hd
      refine x_iload_n dX11_years_5 x_get_5_2 ?_
      refine x_iconst dX11_years_6 ?_
      refine x_bipush dX11_years_7 rfl ?_
      refine x_callS (As := [_, _, _]) dX11_years_9 w_11_232 (c11_nIn hl hn0 hn1 (by decide) (by decide)) rfl rfl (Nat.le_of_ble_eq_true rfl) (Nat.le_of_ble_eq_true rfl) (Nat.le_of_ble_eq_true rfl) (Nat.le_of_ble_eq_true rfl) (Nat.le_of_ble_eq_true rfl) ?_
      intro d hd
      obtain rfl := Eq.symm hd
      refine x_aload_n dX11_years_12 x_get_5_0 ?_
      refine x_getR dX11_years_13 fX_11_74 (by assumption) (by assumption) (by rfl) ?_
      refine x_iload_n dX11_years_16 x_get_5_1 ?_
      refine x_putI 0 dX11_years_17 fX_11_357 rfl tX_2_0 (by assumption) (by assumption) (by rfl) ?_
      refine x_aload_n dX11_years_20 x_get_5_0 ?_
      refine x_getR dX11_years_21 fX_11_34 (by assumption) (by assumption) (by rfl) ?_
      refine x_aload_n dX11_years_24 x_get_5_0 ?_
      refine x_getR dX11_years_25 fX_11_30 (by assumption) (by assumption) (by rfl) ?_
      refine x_callV (As := [_]) dX11_years_28 w_11_121 (c9_take2 hl x35 x33) (by assumption) (by assumption) rfl rfl (Nat.le_of_ble_eq_true rfl) (Nat.le_of_ble_eq_true rfl) (Nat.le_of_ble_eq_true rfl) (Nat.le_of_ble_eq_true rfl) (Nat.le_of_ble_eq_true rfl) ?_
      rintro d1 hd1
      have hcd1 : sc la D d1 := by rw [hd1]; exact sc_36 (sc_60 hsc hla) hla
      have hrow1 : d1 36 = D 34 := by rw [hd1, x_up_s, x_up_n (by decide)]
      have hs1 : d1 60 0 = s := by rw [hd1, x_up_n (by decide), x_up_s, x_u1_s]
      refine x_iconst dX11_years_31 ?_
      refine x_istore dX11_years_32 (Nat.le_of_ble_eq_true rfl) rfl x_set_5_4 ?_
      exact hloop 0 (Nat.zero_le _) d1 hcd1 hrow1 hs1
    · rw [if_neg hn]
      refine x_ofW (by decide +kernel) hl (by simp [Value.category]) (by simp) ?_
      refine x_iload_n dX11_years_0 x_get_5_3 ?_
      refine x_iconst dX11_years_1 ?_
      refine x_callS (As := [_, _]) dX11_years_2 w_11_245 (c11_nWhat hl hw0 hw1 (by decide)) rfl rfl (Nat.le_of_ble_eq_true rfl) (Nat.le_of_ble_eq_true rfl) (Nat.le_of_ble_eq_true rfl) (Nat.le_of_ble_eq_true rfl) (Nat.le_of_ble_eq_true rfl) ?_
      intro d hd
      obtain rfl := Eq.symm hd
      refine x_iload_n dX11_years_5 x_get_5_2 ?_
      refine x_iconst dX11_years_6 ?_
      refine x_bipush dX11_years_7 rfl ?_
      exact x_callST (As := [_, _, _]) dX11_years_9 w_11_232 (c11_nInT hl hnr hn (by decide) (by decide) (by decide) (by decide)) rfl rfl (Nat.le_of_ble_eq_true rfl) (Nat.le_of_ble_eq_true rfl) (Nat.le_of_ble_eq_true rfl) (Nat.le_of_ble_eq_true rfl) (Nat.le_of_ble_eq_true rfl) rfl rfl rfl rfl (fun d hd => by obtain rfl := Eq.symm hd; exact hsc) rfl (Nat.le_of_ble_eq_true rfl) (Nat.le_of_ble_eq_true rfl)
  · rw [if_neg hw]
    refine x_ofW (by decide +kernel) hl (by simp [Value.category]) (by simp) ?_
    refine x_iload_n dX11_years_0 x_get_5_3 ?_
    refine x_iconst dX11_years_1 ?_
    exact x_callST (As := [_, _]) dX11_years_2 w_11_245 (c11_nWhatT hl hwr hw (by decide) (by decide)) rfl rfl (Nat.le_of_ble_eq_true rfl) (Nat.le_of_ble_eq_true rfl) (Nat.le_of_ble_eq_true rfl) (Nat.le_of_ble_eq_true rfl) (Nat.le_of_ble_eq_true rfl) rfl rfl rfl rfl (fun d hd => by obtain rfl := Eq.symm hd; exact hsc) rfl (Nat.le_of_ble_eq_true rfl) (Nat.le_of_ble_eq_true rfl)
end C47
