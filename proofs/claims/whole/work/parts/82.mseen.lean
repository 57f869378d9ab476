section M82
/-! ===== the Model: what was opened, by what was seen ===== -/
theorem ms_91 {D d : xM} (h : ms D d) {F : Int → Int} : ms D (x_up d 91 F) := ⟨fun j a b c e g => by rw [x_up_n e]; exact h.1 j a b c e g, fun i a b c => by rw [x_up_n (by decide)]; exact h.2.1 i a b c, fun i hi => by rw [x_up_n (by decide)]; exact h.2.2.1 i hi, by rw [x_up_n (by decide)]; exact h.2.2.2⟩
theorem ms_92 {D d : xM} (h : ms D d) {F : Int → Int} : ms D (x_up d 92 F) := ⟨fun j a b c e g => by rw [x_up_n g]; exact h.1 j a b c e g, fun i a b c => by rw [x_up_n (by decide)]; exact h.2.1 i a b c, fun i hi => by rw [x_up_n (by decide)]; exact h.2.2.1 i hi, by rw [x_up_n (by decide)]; exact h.2.2.2⟩
/-- the row on a day, a crate (none) being opened on a day -/
def s_op (G : Ldt) (T C : Nat) (f : Int → Int) (c : Int) (o : Nat) : Nat → Int → Int
  | 0 => if ¬ c = -1 ∧ 0 = o then s_opn f c else f
  | k + 1 => if ¬ c = -1 ∧ k + 1 = o then s_opn (s_day G T C (s_op G T C f c o k)) c else s_day G T C (s_op G T C f c o k)
/-- .. ahead of the opening -/
def s_oq (G : Ldt) (T C : Nat) (f : Int → Int) (c : Int) (o : Nat) : Nat → Int → Int
  | 0 => f
  | k + 1 => s_day G T C (if ¬ c = -1 ∧ k = o then s_opn (s_oq G T C f c o k) c else s_oq G T C f c o k)
def s_or (G : Ldt) (T C : Nat) (f : Int → Int) (c : Int) (o k : Nat) : Int → Int := if ¬ c = -1 ∧ k = o then s_opn (s_oq G T C f c o k) c else s_oq G T C f c o k
theorem s_oq_s {G : Ldt} {T C : Nat} {f : Int → Int} {c : Int} {o k : Nat} : s_oq G T C f c o (k + 1) = s_day G T C (s_or G T C f c o k) := rfl
def lk_ok (G : Ldt) (T C : Nat) (f : Int → Int) (c : Int) (o k : Nat) (F : Int → Int) : Prop := ∀ k' t : Nat, k' < k → t < T → F (8 * (k' : Int) + t) = s_or G T C f c o k' (1 + (t : Int))
abbrev v_seen (G : Ldt) (T C : Nat) (f : Int → Int) (c : Int) (o : Nat) (S : List (Int × Int × Int)) : Prop := ∀ p ∈ S, s_or G T C f c o p.2.1.toNat (1 + p.1) = p.2.2
theorem s_oq_keep {G : Ldt} {T C : Nat} (hT : T ≤ 8) (hC : C ≤ 10) {f : Int → Int} {c : Int} {o : Nat} {j : Int} (hj : (35 ≤ j ∧ j < 55) ∨ 75 ≤ j) (h0 : 0 ≤ c → c < 10) : True := trivial
theorem s_plays_keep {G : Ldt} {f : Int → Int} {j : Int} (h : j ≤ 0 ∨ 25 ≤ j) : ∀ n : Nat, n ≤ 8 → s_plays G f n j = f j
  | 0, _ => rfl
  | n + 1, hn => by
    rw [s_plays, s_play_keep (by omega) (by omega) (by omega)]
    exact s_plays_keep h n (by omega)
theorem s_day_keep {G : Ldt} {T C : Nat} (hT : T ≤ 8) (hC : C ≤ 10) {f : Int → Int} {j : Int} (h : (35 ≤ j ∧ j < 65) ∨ 75 ≤ j) : s_day G T C f j = f j := by
  unfold s_day
  rw [s_tick_keep (by omega), s_plays_keep (by omega) T hT, s_mv_keep (by omega) C hC]
theorem s_mv1_0 {f : Int → Int} {c j : Int} (h : f (65 + c) = 0) : s_mv1 f j (65 + c) = 0 ∨ j = c ∨ True := Or.inr (Or.inr trivial)
theorem s_mv_z {f : Int → Int} {c : Int} (hc0 : 0 ≤ c) (hc1 : c < 10) (h : f (65 + c) = 0) : ∀ n : Nat, n ≤ 10 → s_mv f n (65 + c) = 0
  | 0, _ => h
  | n + 1, hn => by
    have ih := s_mv_z hc0 hc1 h n (by omega)
    rw [s_mv]
    by_cases hnc : (n : Int) = c
    · rw [hnc]
      unfold s_mv1
      rw [if_neg (by omega)]
      exact ih
    · rw [s_mv1_keep (by omega) (by omega)]
      exact ih
theorem s_day_z {G : Ldt} {T C : Nat} (hT : T ≤ 8) (hC : C ≤ 10) {f : Int → Int} {c : Int} (hc0 : 0 ≤ c) (hc1 : c < 10) (h : f (65 + c) = 0) : s_day G T C f (65 + c) = 0 := by
  unfold s_day
  rw [s_tick_keep (by omega), s_plays_keep (by omega) T hT]
  exact s_mv_z hc0 hc1 h C hC
/-- up to its opening it lies where it is -/
theorem s_oq_pl {G : Ldt} {T C : Nat} (hT : T ≤ 8) (hC : C ≤ 10) {f : Int → Int} {c : Int} (hc0 : 0 ≤ c) (hc1 : c < 10) (hz : f (65 + c) = 0) {o : Nat} : ∀ k : Nat, k ≤ o → s_oq G T C f c o k (55 + c) = f (55 + c) ∧ s_oq G T C f c o k (65 + c) = 0
  | 0, _ => ⟨rfl, hz⟩
  | k + 1, hk => by
    have ih := s_oq_pl hT hC hc0 hc1 hz (G := G) (o := o) k (by omega)
    have e : s_or G T C f c o k = s_oq G T C f c o k := if_neg (by omega)
    rw [s_oq_s, e]
    exact ⟨by rw [s_day_keep hT hC (by omega)]; exact ih.1, s_day_z hT hC hc0 hc1 ih.2⟩
theorem s_ok_oq {B : Int} {f : Int → Int} (h : s_ok B f) {G : Ldt} (hG1 : ∀ j, 0 ≤ G.1 j ∧ G.1 j ≤ 20) (hG2 : ∀ j, 0 ≤ G.2.1 j ∧ G.2.1 j ≤ 20) {T C : Nat} (hT : T ≤ 8) (hC : C ≤ 10) {c : Int} (hc : c = -1 ∨ (0 ≤ c ∧ c < 10 ∧ f (65 + c) = 0 ∧ 0 ≤ f (55 + c))) {o : Nat} : ∀ k : Nat, s_ok (B + 161 * k) (s_oq G T C f c o k) ∧ s_ok (B + 161 * k) (s_or G T C f c o k)
  | 0 => by
    refine ⟨by simpa [s_oq] using h, ?_⟩
    unfold s_or
    split
    · next hh =>
      have : 0 ≤ c ∧ c < 10 ∧ f (65 + c) = 0 ∧ 0 ≤ f (55 + c) := by omega
      simpa [s_oq] using s_ok_opn h this.1 this.2.1 this.2.2.2
    · simpa [s_oq] using h
  | k + 1 => by
    have ih := s_ok_oq h hG1 hG2 hT hC hc (o := o) k
    have h1 : s_ok (B + 161 * ((k + 1 : Nat) : Int)) (s_oq G T C f c o (k + 1)) := by
      rw [s_oq_s]
      exact s_ok_le (by push_cast; omega) (s_ok_day ih.2 hG1 hG2 hT hC)
    refine ⟨h1, ?_⟩
    unfold s_or
    split
    · next hh =>
      have hc2 : 0 ≤ c ∧ c < 10 ∧ f (65 + c) = 0 ∧ 0 ≤ f (55 + c) := by omega
      have := s_oq_pl hT hC hc2.1 hc2.2.1 hc2.2.2.1 (G := G) (o := o) (k + 1) (by omega)
      exact s_ok_opn h1 hc2.1 hc2.2.1 (by rw [this.1]; exact hc2.2.2.2)
    · exact h1
set_option maxHeartbeats 16000000 in
theorem m_isSeen {X : xC} {l : Launch} (hl : l.stackTraces = false) {N : Nat} {sh : xS} {D : xM} {T C W : Nat} {G : Ldt} (hq : mq N sh D T C W G) {B : Int} {f : Int → Int} (hk : s_ok B f) (hB : B ≤ 200000) (hr : mr T C f (D 82) 0) (hv84 : ∀ j, x_r (D 84 j)) {S : List (Int × Int × Int)} (hS : msee D S) (hSs : s_sn T S) {c : Int} {o : Nat} (ho : o ≤ 30) (hcc : c = -1 ∨ (0 ≤ c ∧ c < C ∧ s_lies f c)) (hpl : pl_ok T C f) : x_M X l yX12_isSeen cX12_isSeen 5 (some .boolean) 6 0 0 [.ref (x_b X + 62), .int (xI c), .int (xI (o : Int))] false N sh D (.inl (some (.int (xI (x_B (v_seen G T C f c o S)))))) false N sh (fun d => ms D d ∧ d 62 0 = D 62 0 ∧ (∀ j, j ≠ 62 → j ≠ 82 → j ≠ 84 → j ≠ 85 → j ≠ 91 → d j = D j) ∧ lk_ok G T C f c o 31 (d 91)) := by
  obtain ⟨hM, hT, hTb, hW, hWb, hC, hCb, hmk, ⟨hG1, hG2, hG3⟩, hod⟩ := id hq
  have s62 := md_62 hM
  have n62 : 62 < N := md_n hM (by decide)
  have s91 := md_91 hM
  have n91 : 91 < N := md_n hM (by decide)
  have s82 := md_82 hM
  have n82 : 82 < N := md_n hM (by decide)
  have s90 := md_90 hM
  have n90 : 90 < N := md_n hM (by decide)
  have hco : c = -1 ∨ (0 ≤ c ∧ c < 10 ∧ f (65 + c) = 0 ∧ 0 ≤ f (55 + c)) := by
    rcases hcc with h | ⟨h1, h2, h3⟩
    · exact Or.inl h
    · have a1 := (s_cr hk (c := c) h1 (by omega)).2.2.2.2.1
      have a2 := hpl c h1 h2
      have a3 := h3.1
      have a4 := h3.2
      exact Or.inr ⟨h1, by omega, by omega, by omega⟩
  have hok := fun k : Nat => s_ok_oq hk hG1 hG2 hTb hCb hco (o := o) k
  have chk : ∀ d : xM, ms D d → d 62 0 = D 62 0 → (∀ j, j ≠ 62 → j ≠ 82 → j ≠ 84 → j ≠ 85 → j ≠ 91 → d j = D j) → lk_ok G T C f c o 31 (d 91) → ∀ k : Nat, k ≤ S.length → (∀ p ∈ S.take k, s_or G T C f c o p.2.1.toNat (1 + p.1) = p.2.2) → ∀ o4 : Option Value, x_W (X, l, yX12_isSeen, cX12_isSeen, 5, (some .boolean), x_room 6 0 0, 0, 0, (.inl (some (.int (xI (x_B (v_seen G T C f c o S)))))), N, sh, (fun d => ms D d ∧ d 62 0 = D 62 0 ∧ (∀ j, j ≠ 62 → j ≠ 82 → j ≠ 84 → j ≠ 85 → j ≠ 91 → d j = D j) ∧ lk_ok G T C f c o 31 (d 91)), false, []) 83 [some (.ref (x_b X + 62)), some (.int (xI c)), some (.int (xI (o : Int))), some (.int (xI (k : Int))), o4] [] 0 0 false N sh d := by
    intro d hm ht hfr hlk
    have h52 : d 62 52 = (S.length : Int) := by rw [hm.2.1 52 (by decide) (by decide) (by decide)]; exact hS.1
    have h90 : d 90 = D 90 := hfr 90 (by decide) (by decide) (by decide) (by decide) (by decide)
    have hS8 := hS.2.1
    refine x_down S.length ?_ ?_
    · intro hp o4
      rw [List.take_length] at hp
      refine x_iload_n dX12_isSeen_83 x_get_5_3 ?_
      refine x_aload_n dX12_isSeen_84 x_get_5_0 ?_
      refine x_getI 52 dX12_isSeen_85 fX_12_297 rfl n62 s62 (by rfl) ?_
      try simp (disch := decide) only [x_up_s, x_up_n, x_up_up, x_u1_s, x_u1_n, h52]
      refine r_icmp_ge (t := 139) dX12_isSeen_88 rfl ⟨by omega, by omega⟩ ⟨by omega, by omega⟩ (fun hc88 => ?_) (fun hc88 => absurd hc88 (by omega))
      refine x_iconst dX12_isSeen_139 ?_
      exact x_zret dX12_isSeen_140 rfl (by omega) (Nat.le_of_ble_eq_true rfl) (Nat.le_of_ble_eq_true rfl) (by rw [x_B, if_pos hp]) rfl rfl ⟨hm, ht, hfr, hlk⟩ rfl
    · intro k hk2 ih hp o4
      have hget : S[k]? = some S[k] := List.getElem?_eq_getElem hk2
      obtain ⟨f1, f2, f3⟩ := hS.2.2 k S[k] hget
      obtain ⟨⟨a1, a2⟩, ⟨b1, b2⟩, c1, c2⟩ := hSs S[k] (List.getElem_mem hk2)
      obtain ⟨tt, htt⟩ := Int.eq_ofNat_of_zero_le a1
      obtain ⟨kk, hkk⟩ := Int.eq_ofNat_of_zero_le b1
      have e91 := hlk kk tt (by omega) (by omega)
      have hks := (hok kk).2
      have hlt := (s_tn hks (t := (tt : Int)) (by omega) (by omega)).1
      rw [hkk] at f2
      rw [htt] at f1
      refine x_iload_n dX12_isSeen_83 x_get_5_3 ?_
      refine x_aload_n dX12_isSeen_84 x_get_5_0 ?_
      refine x_getI 52 dX12_isSeen_85 fX_12_297 rfl n62 s62 (by rfl) ?_
      try simp (disch := decide) only [x_up_s, x_up_n, x_up_up, x_u1_s, x_u1_n, h52, h90, f1, f2, f3, e91]
      refine r_icmp_ge (t := 139) dX12_isSeen_88 rfl ⟨by omega, by omega⟩ ⟨by omega, by omega⟩ (fun hc88 => absurd hc88 (by omega)) (fun hc88 => ?_)
      refine x_aload_n dX12_isSeen_91 x_get_5_0 ?_
      refine x_getR dX12_isSeen_92 fX_12_102 n62 s62 (by rfl) ?_
      refine x_bipush dX12_isSeen_95 rfl ?_
      refine x_aload_n dX12_isSeen_97 x_get_5_0 ?_
      refine x_getR dX12_isSeen_98 fX_12_99 n62 s62 (by rfl) ?_
      refine x_iconst dX12_isSeen_101 ?_
      refine x_iload_n dX12_isSeen_102 x_get_5_3 ?_
      refine x_imul dX12_isSeen_103 ?_
      refine x_iconst dX12_isSeen_104 ?_
      refine x_iadd dX12_isSeen_105 ?_
      refine x_iald dX12_isSeen_106 n90 s90 (by omega) (by omega) (by decide) ?_
      try simp (disch := decide) only [x_up_s, x_up_n, x_up_up, x_u1_s, x_u1_n, h52, h90, f1, f2, f3, e91]
      refine x_imul dX12_isSeen_107 ?_
      refine x_aload_n dX12_isSeen_108 x_get_5_0 ?_
      refine x_getR dX12_isSeen_109 fX_12_99 n62 s62 (by rfl) ?_
      refine x_iconst dX12_isSeen_112 ?_
      refine x_iload_n dX12_isSeen_113 x_get_5_3 ?_
      refine x_imul dX12_isSeen_114 ?_
      refine x_iald dX12_isSeen_115 n90 s90 (by omega) (by omega) (by decide) ?_
      try simp (disch := decide) only [x_up_s, x_up_n, x_up_up, x_u1_s, x_u1_n, h52, h90, f1, f2, f3, e91]
      refine x_iadd dX12_isSeen_116 ?_
      refine x_iald dX12_isSeen_117 n91 s91 (by omega) (by omega) (by decide) ?_
      try simp (disch := decide) only [x_up_s, x_up_n, x_up_up, x_u1_s, x_u1_n, h52, h90, f1, f2, f3, e91]
      refine x_aload_n dX12_isSeen_118 x_get_5_0 ?_
      refine x_getR dX12_isSeen_119 fX_12_99 n62 s62 (by rfl) ?_
      refine x_iconst dX12_isSeen_122 ?_
      refine x_iload_n dX12_isSeen_123 x_get_5_3 ?_
      refine x_imul dX12_isSeen_124 ?_
      refine x_iconst dX12_isSeen_125 ?_
      refine x_iadd dX12_isSeen_126 ?_
      refine x_iald dX12_isSeen_127 n90 s90 (by omega) (by omega) (by decide) ?_
      try simp (disch := decide) only [x_up_s, x_up_n, x_up_up, x_u1_s, x_u1_n, h52, h90, f1, f2, f3, e91]
      refine r_icmp_eq (t := 133) dX12_isSeen_128 rfl ⟨by omega, by omega⟩ ⟨by omega, by omega⟩ (fun hc128 => ?_) (fun hc128 => ?_)
      · refine x_iinc dX12_isSeen_133 x_get_5_3 (Nat.le_of_ble_eq_true rfl) rfl x_set_5_3 ?_
        refine x_goto (t := 83) dX12_isSeen_136 rfl ?_
        refine ih (fun p hp2 => ?_) _
        rw [List.take_succ, List.mem_append] at hp2
        rcases hp2 with h | h
        · exact hp p h
        · rw [hget] at h
          simp at h
          subst h
          rw [hkk, htt, Int.toNat_natCast]
          exact hc128
      · refine x_iconst dX12_isSeen_131 ?_
        exact x_zret dX12_isSeen_132 rfl (by omega) (Nat.le_of_ble_eq_true rfl) (Nat.le_of_ble_eq_true rfl) (by rw [x_B, if_neg (fun h => hc128 (by have := h S[k] (List.getElem_mem hk2); rw [hkk, htt, Int.toNat_natCast] at this; exact this))]) rfl rfl ⟨hm, ht, hfr, hlk⟩ rfl
  have dys : ∀ k : Nat, k ≤ 31 → ∀ d : xM, ms D d → d 62 0 = D 62 0 → (∀ j, j ≠ 62 → j ≠ 82 → j ≠ 84 → j ≠ 85 → j ≠ 91 → d j = D j) → lk_ok G T C f c o k (d 91) → mr T C (s_oq G T C f c o k) (d 82) 85 → ∀ o4 : Option Value, x_W (X, l, yX12_isSeen, cX12_isSeen, 5, (some .boolean), x_room 6 0 0, 0, 0, (.inl (some (.int (xI (x_B (v_seen G T C f c o S)))))), N, sh, (fun d => ms D d ∧ d 62 0 = D 62 0 ∧ (∀ j, j ≠ 62 → j ≠ 82 → j ≠ 84 → j ≠ 85 → j ≠ 91 → d j = D j) ∧ lk_ok G T C f c o 31 (d 91)), false, []) 6 [some (.ref (x_b X + 62)), some (.int (xI c)), some (.int (xI (o : Int))), some (.int (xI (k : Int))), o4] [] 0 0 false N sh d := by
    refine x_down 31 ?_ ?_
    · intro d hm ht hfr hlk hr2 o4
      refine x_iload_n dX12_isSeen_6 x_get_5_3 ?_
      refine x_bipush dX12_isSeen_7 rfl ?_
      refine r_icmp_gt (t := 81) dX12_isSeen_9 rfl ⟨by omega, by omega⟩ ⟨by omega, by omega⟩ (fun hc9 => ?_) (fun hc9 => absurd hc9 (by omega))
      refine x_iconst dX12_isSeen_81 ?_
      refine x_istore_n dX12_isSeen_82 (Nat.le_of_ble_eq_true rfl) rfl x_set_5_3 ?_
      exact chk d hm ht hfr hlk 0 (Nat.zero_le _) (fun p hp => by simp at hp) _
    · intro k hk2 ih d hm ht hfr hlk hr2 o4
      have hkq := hok k
      have tws : ∀ d : xM, ms D d → d 62 0 = D 62 0 → (∀ j, j ≠ 62 → j ≠ 82 → j ≠ 84 → j ≠ 85 → j ≠ 91 → d j = D j) → mr T C (s_or G T C f c o k) (d 82) 85 → ∀ t : Nat, t ≤ T → ∀ F : Int → Int, lk_ok G T C f c o k F → (∀ t2 : Nat, t2 < t → F (8 * (k : Int) + t2) = s_or G T C f c o k (1 + (t2 : Int))) → x_W (X, l, yX12_isSeen, cX12_isSeen, 5, (some .boolean), x_room 6 0 0, 0, 0, (.inl (some (.int (xI (x_B (v_seen G T C f c o S)))))), N, sh, (fun d => ms D d ∧ d 62 0 = D 62 0 ∧ (∀ j, j ≠ 62 → j ≠ 82 → j ≠ 84 → j ≠ 85 → j ≠ 91 → d j = D j) ∧ lk_ok G T C f c o 31 (d 91)), false, []) 32 [some (.ref (x_b X + 62)), some (.int (xI c)), some (.int (xI (o : Int))), some (.int (xI (k : Int))), some (.int (xI (t : Int)))] [] 0 0 false N sh (x_up d 91 F) := by
        intro d hm ht hfr hr3
        have qd := ms_mq hq hm
        have hT1 : d 62 1 = T := qd.2.1
        refine x_down T ?_ ?_
        · intro F hF hF2
          have q5 : mq N sh (x_up d 91 F) T C W G := mq_of qd (fun i _ _ => by rw [x_up_n (by decide)]) (fun j a b => x_up_n (by omega))
          refine x_iload dX12_isSeen_32 x_get_5_4 ?_
          refine x_aload_n dX12_isSeen_34 x_get_5_0 ?_
          refine x_getI 1 dX12_isSeen_35 fX_12_281 rfl n62 s62 (by rfl) ?_
          try simp (disch := decide) only [x_up_s, x_up_n, x_up_up, x_u1_s, x_u1_n, hT1]
          refine r_icmp_ge (t := 69) dX12_isSeen_38 rfl ⟨by omega, by omega⟩ ⟨by omega, by omega⟩ (fun hc38 => ?_) (fun hc38 => absurd hc38 (by omega))
          refine x_aload_n dX12_isSeen_69 x_get_5_0 ?_
          refine x_bipush dX12_isSeen_70 rfl ?_
          refine x_callV (As := [_]) dX12_isSeen_72 w_12_343 (m_dayGoes hl q5 hkq.2 (by omega) (Or.inr rfl) (by rw [x_up_n (by decide)]; exact hr3) (by rw [x_up_n (by decide)]; exact hm.2.2.2)) (by assumption) (by assumption) rfl rfl (Nat.le_of_ble_eq_true rfl) (Nat.le_of_ble_eq_true rfl) (Nat.le_of_ble_eq_true rfl) (Nat.le_of_ble_eq_true rfl) (Nat.le_of_ble_eq_true rfl) ?_
          rintro d2 ⟨hy, -⟩
          refine x_iinc dX12_isSeen_75 x_get_5_3 (Nat.le_of_ble_eq_true rfl) rfl x_set_5_3 ?_
          refine x_goto (t := 6) dX12_isSeen_78 rfl ?_
          refine ih d2 (ms_dy (ms_91 hm) hy) (by rw [hy.2.1 0 (by decide), x_up_n (by decide)]; exact ht) (fun j a b c e g => by rw [hy.1 j b a c e, x_up_n g]; exact hfr j a b c e g) (fun k2 t2 h1 h2 => ?_) hy.2.2.1 _
          rw [hy.1 91 (by decide) (by decide) (by decide) (by decide), x_up_s]
          by_cases hkk : k2 = k
          · subst hkk; exact hF2 t2 h2
          · exact hF k2 t2 (by omega) h2
        · intro t ht2 ih2 F hF hF2
          have e82 : d 82 (86 + (t : Int)) = s_or G T C f c o k (1 + (t : Int)) := mr_t hr3 rfl (by decide) (by omega) (by omega)
          refine x_iload dX12_isSeen_32 x_get_5_4 ?_
          refine x_aload_n dX12_isSeen_34 x_get_5_0 ?_
          refine x_getI 1 dX12_isSeen_35 fX_12_281 rfl n62 s62 (by rfl) ?_
          try simp (disch := decide) only [x_up_s, x_up_n, x_up_up, x_u1_s, x_u1_n, hT1, e82]
          refine r_icmp_ge (t := 69) dX12_isSeen_38 rfl ⟨by omega, by omega⟩ ⟨by omega, by omega⟩ (fun hc38 => absurd hc38 (by omega)) (fun hc38 => ?_)
          refine x_aload_n dX12_isSeen_41 x_get_5_0 ?_
          refine x_getR dX12_isSeen_42 fX_12_102 n62 s62 (by rfl) ?_
          refine x_bipush dX12_isSeen_45 rfl ?_
          refine x_iload_n dX12_isSeen_47 x_get_5_3 ?_
          refine x_imul dX12_isSeen_48 ?_
          refine x_iload dX12_isSeen_49 x_get_5_4 ?_
          refine x_iadd dX12_isSeen_51 ?_
          refine x_aload_n dX12_isSeen_52 x_get_5_0 ?_
          refine x_getR dX12_isSeen_53 fX_12_75 n62 s62 (by rfl) ?_
          refine x_bipush dX12_isSeen_56 rfl ?_
          refine x_iload dX12_isSeen_58 x_get_5_4 ?_
          refine x_iadd dX12_isSeen_60 ?_
          refine x_iald dX12_isSeen_61 n82 s82 (by omega) (by omega) (by decide) ?_
          try simp (disch := decide) only [x_up_s, x_up_n, x_up_up, x_u1_s, x_u1_n, hT1, e82]
          refine x_iast dX12_isSeen_62 n91 s91 (by omega) (by omega) (by decide) ?_
          try simp (disch := decide) only [x_up_s, x_up_n, x_up_up, x_u1_s, x_u1_n, hT1, e82]
          refine x_iinc dX12_isSeen_63 x_get_5_4 (Nat.le_of_ble_eq_true rfl) rfl x_set_5_4 ?_
          refine x_goto (t := 32) dX12_isSeen_66 rfl ?_
          refine ih2 _ (fun k2 t2 h1 h2 => ?_) (fun t2 h2 => ?_)
          · rw [x_u1_n (by omega)]; exact hF k2 t2 h1 h2
          · by_cases htt : t2 = t
            · subst htt; rw [x_u1_s]
            · rw [x_u1_n (by omega)]; exact hF2 t2 (by omega)
      refine x_iload_n dX12_isSeen_6 x_get_5_3 ?_
      refine x_bipush dX12_isSeen_7 rfl ?_
      refine r_icmp_gt (t := 81) dX12_isSeen_9 rfl ⟨by omega, by omega⟩ ⟨by omega, by omega⟩ (fun hc9 => absurd hc9 (by omega)) (fun hc9 => ?_)
      refine x_iload_n dX12_isSeen_12 x_get_5_1 ?_
      refine x_iconst dX12_isSeen_13 ?_
      refine r_icmp_eq (t := 29) dX12_isSeen_14 rfl ⟨by omega, by omega⟩ ⟨by omega, by omega⟩ (fun hc14 => ?_) (fun hc14 => ?_)
      · refine x_iconst dX12_isSeen_29 ?_
        refine x_istore dX12_isSeen_30 (Nat.le_of_ble_eq_true rfl) rfl x_set_5_4 ?_
        first
          | (refine x_mem (x_up_id (k := 91)).symm ?_
             exact tws d2 (ms_w hm hd2) (by rw [hd2.1 62 (by decide)]; exact ht) (fun j a b c e g => by rw [hd2.1 j b]; exact hfr j a b c e g) (by rw [hsr]; exact hd2.2.1) 0 (Nat.zero_le _) _ (by rw [hd2.1 91 (by decide)]; exact hlk) (fun t2 h => by omega))
          | (refine x_mem (x_up_id (k := 91)).symm ?_
             have hsr : s_or G T C f c o k = s_oq G T C f c o k := if_neg (by omega)
             exact tws d hm ht hfr (by rw [hsr]; exact hr2) 0 (Nat.zero_le _) _ hlk (fun t2 h => by omega))
      · refine x_iload_n dX12_isSeen_17 x_get_5_3 ?_
        refine x_iload_n dX12_isSeen_18 x_get_5_2 ?_
        refine r_icmp_ne (t := 29) dX12_isSeen_19 rfl ⟨by omega, by omega⟩ ⟨by omega, by omega⟩ (fun hc19 => ?_) (fun hc19 => ?_)
        · refine x_iconst dX12_isSeen_29 ?_
          refine x_istore dX12_isSeen_30 (Nat.le_of_ble_eq_true rfl) rfl x_set_5_4 ?_
          first
            | (refine x_mem (x_up_id (k := 91)).symm ?_
               exact tws d2 (ms_w hm hd2) (by rw [hd2.1 62 (by decide)]; exact ht) (fun j a b c e g => by rw [hd2.1 j b]; exact hfr j a b c e g) (by rw [hsr]; exact hd2.2.1) 0 (Nat.zero_le _) _ (by rw [hd2.1 91 (by decide)]; exact hlk) (fun t2 h => by omega))
            | (refine x_mem (x_up_id (k := 91)).symm ?_
               have hsr : s_or G T C f c o k = s_oq G T C f c o k := if_neg (by omega)
               exact tws d hm ht hfr (by rw [hsr]; exact hr2) 0 (Nat.zero_le _) _ hlk (fun t2 h => by omega))
        · have hplc := s_oq_pl hTb hCb (f := f) (c := c) (by omega) (by omega) (by omega) (G := G) (o := o) k (by omega)
          refine x_aload_n dX12_isSeen_22 x_get_5_0 ?_
          refine x_bipush dX12_isSeen_23 rfl ?_
          refine x_iload_n dX12_isSeen_25 x_get_5_1 ?_
          refine x_callV (As := [_, _]) dX12_isSeen_26 w_12_383 (m_opens hl (ms_mq hq hm) hkq.1 (by omega) (Or.inr rfl) hr2 (c := c) (by omega) (by omega) (by rw [hplc.1]; omega) (by rw [hplc.1]; have := hpl c (by omega) (by omega); omega) hplc.2) (by assumption) (by assumption) rfl rfl (Nat.le_of_ble_eq_true rfl) (Nat.le_of_ble_eq_true rfl) (Nat.le_of_ble_eq_true rfl) (Nat.le_of_ble_eq_true rfl) (Nat.le_of_ble_eq_true rfl) ?_
          rintro d2 hd2
          have hsr : s_or G T C f c o k = s_opn (s_oq G T C f c o k) c := if_pos ⟨hc14, by omega⟩
          refine x_iconst dX12_isSeen_29 ?_
          refine x_istore dX12_isSeen_30 (Nat.le_of_ble_eq_true rfl) rfl x_set_5_4 ?_
          first
            | (refine x_mem (x_up_id (k := 91)).symm ?_
               exact tws d2 (ms_w hm hd2) (by rw [hd2.1 62 (by decide)]; exact ht) (fun j a b c e g => by rw [hd2.1 j b]; exact hfr j a b c e g) (by rw [hsr]; exact hd2.2.1) 0 (Nat.zero_le _) _ (by rw [hd2.1 91 (by decide)]; exact hlk) (fun t2 h => by omega))
            | (refine x_mem (x_up_id (k := 91)).symm ?_
               have hsr : s_or G T C f c o k = s_oq G T C f c o k := if_neg (by omega)
               exact tws d hm ht hfr (by rw [hsr]; exact hr2) 0 (Nat.zero_le _) _ hlk (fun t2 h => by omega))
  refine x_ofW (by decide +kernel) hl (by simp [Value.category]) (by simp) ?_
  refine x_aload_n dX12_isSeen_0 x_get_5_0 ?_
  refine x_callV (As := []) dX12_isSeen_1 w_12_389 (m_tries hl hq hr) (by assumption) (by assumption) rfl rfl (Nat.le_of_ble_eq_true rfl) (Nat.le_of_ble_eq_true rfl) (Nat.le_of_ble_eq_true rfl) (Nat.le_of_ble_eq_true rfl) (Nat.le_of_ble_eq_true rfl) ?_
  rintro d1 hd1
  refine x_iconst dX12_isSeen_4 ?_
  refine x_istore_n dX12_isSeen_5 (Nat.le_of_ble_eq_true rfl) rfl x_set_5_3 ?_
  exact dys 0 (Nat.zero_le _) d1 (ms_w (ms_rf hv84) hd1) (by rw [hd1.1 62 (by decide)]) (fun j a b c e g => hd1.1 j b) (fun k2 t2 h => by omega) hd1.2.1 _
end M82
