section XLH
/-! ===== a throw of the class's own ===== -/
def x_names : List String := ["java/lang/RuntimeException", "java/lang/Exception"]
def x_NSE : String := "java/util/NoSuchElementException"
def x_IAE : String := "java/lang/IllegalArgumentException"
def x_rxN : ByteArray := ⟨#[0x2a, 0x2b, 0xb7, 0x00, 0x0d, 0xb1]⟩
theorem x_at_NSE : ∀ w ∈ xq_at RX11 160 x_NSE 13 x_rxN x_names, w ∈ lw_tbl ∧ (goodWord w = true ∨ x_okw w = true) ∧ vx_ot w = true := by decide +kernel
theorem x_at_IAE : ∀ w ∈ xq_at RX11 93 x_IAE 7 Bundle.six x_names, w ∈ lw_tbl ∧ (goodWord w = true ∨ x_okw w = true) ∧ vx_ot w = true := by decide +kernel
/-- what a throw of the class E needs: the class's entry, its constructor's entry, words -/
def x_tw (own : String) (ik ic : Nat) (cls : String) (ix : Nat) (rx : ByteArray) : Prop := (decode rx 0 = .ok (.aload_n 0, 1) ∧ decode rx 1 = .ok (.aload_n 1, 1) ∧ decode rx 2 = .ok (.invokespecial ix, 3) ∧ decode rx 5 = .ok (.return_, 1)) ∧ Bundle.fit cls = true ∧ Cond.classLink own ik cls ∈ x_T ∧ Cond.initialized cls ∈ x_T ∧ vx_ot (.classLink own ik cls) = true ∧ vx_ot (.initialized cls) = true ∧ ∀ w ∈ xq_at own ic cls ix rx x_names, w ∈ lw_tbl ∧ (goodWord w = true ∨ x_okw w = true) ∧ vx_ot w = true
theorem x_wat {X : xC} {s : State} {args : Array Value} (hts : ∀ w ∈ x_T, w.before args s = true) (hE : x_E X s s.heap) {w : Cond} (h1 : w ∈ lw_tbl) (h2 : goodWord w = true ∨ x_okw w = true) : w.before args s = true := by
  rcases h2 with h | h
  · exact hts w (List.mem_filter.mpr ⟨h1, h⟩)
  · have h3 := hE.2.1 w (List.mem_filter.mpr ⟨h1, h⟩)
    cases w <;> first | (simp [x_okw] at h; done) | exact va_Nw.use rfl h3
theorem x_throw {Z : x_Z} {pc : Nat} {L : List (Option Value)} {st : List Value} {k n : Nat} {g : Bool} {N : Nat} {sh : xS} {D : xM} {ik ic : Nat} {cls : String} (i : Nat) (hi : i < 28) {ix : Nat} {rx : ByteArray} (hw : x_tw (z_y Z).cls ik ic cls ix rx) (hown : (x_str i).1 = (z_y Z).cls)
    (d0 : decode (z_c Z) pc = .ok (.new ik, 3)) (d3 : decode (z_c Z) (pc + 3) = .ok (.dup, 1)) (d4 : decode (z_c Z) (pc + 4) = .ok (.ldc (x_str i).2.1, 2)) (d6 : decode (z_c Z) (pc + 6) = .ok (.invokespecial ic, 3)) (d9 : decode (z_c Z) (pc + 9) = .ok (.athrow, 1))
    (hR1 : 5 < (z_R Z).frames) (hR2 : (st.map fun v => v.category).sum + 82 ≤ (z_R Z).locals) (hR3 : k + 1 ≤ (z_R Z).cells) (hR4 : n + 6 ≤ (z_R Z).slots)
    (hh : z_h Z = []) (ho : z_o Z = .inr cls) (hN : z_N Z = N) (hS' : z_S Z = sh) (hD : z_D Z D) (hg : z_g Z = false) (hk : k + 1 ≤ z_m Z) (hn : n + 6 ≤ z_s Z) : x_W Z pc L st k n g N sh D := by
  intro p e s m args below meth c0 H locs ls C hl hP hS
  obtain ⟨⟨r0, r1, r2, r5⟩, w1, w2, w3, w4, w5, w6⟩ := hw
  have hts := C.2.2.2.2.1
  have hE := C.2.2.2.2.2.2.2.2.2.1.2.1
  have hstr := hE.2.2.1 i hi
  rw [hown] at hstr
  have ht : c0.exceptionTable.toList = [] := by rw [C.2.2.2.2.2.2.2.2.1, hh]; rfl
  refine xq_throwS (names := x_names) (A := x_A (z_X Z)) C.1 C.2.1 C.2.2.2.2.2.2.2.2.2.2 r0 r1 r2 r5 C.2.2.2.1 w1 (by decide +kernel) (hts _ w2) (hts _ w3) hstr (fun w hw => x_wat hts hE (w6 w hw).1 (w6 w hw).2.1)
    (fun w hw => by rcases List.mem_cons.mp hw with rfl | hw; · exact w4
                    rcases List.mem_cons.mp hw with rfl | hw; · exact w5
                    exact (w6 w hw).2.2) hE.1.1 hE.1.2 hS (hl.1.trans C.2.2.1.symm) d0 d3 d4 d6 d9 (by rw [ht]; intro x hx; cases hx) hR1 hR2 hR3 hR4 C.2.2.2.2.2.2.1 (fun t _ h1 h2 => ?_) hS.2.2 hk hn
  rw [ho, hN, hS', hg]
  refine ⟨D, rfl, hD, ⟨?_, fun h => by cases h⟩, ?_, ?_⟩
  · exact hP.1.kept (fun j q hq => h2 _ ((hP.1 j q hq).lt))
  · exact Nat.le_trans hS.1 h1
  · intro q h3 h4
    rw [h2 q (Nat.lt_of_lt_of_le h3 hS.1)]
    exact hS.2.1 q h3 h4
theorem x_throwW {Z : x_Z} {pc : Nat} {L : List (Option Value)} {st : List Value} {k n : Nat} {g : Bool} {N : Nat} {sh : xS} {D : xM} {ik ic : Nat} {cls : String} (i : Nat) (hi : i < 28) {ix : Nat} {rx : ByteArray} (hw : x_tw (z_y Z).cls ik ic cls ix rx) (hown : (x_str i).1 = (z_y Z).cls)
    (d0 : decode (z_c Z) pc = .ok (.new ik, 3)) (d3 : decode (z_c Z) (pc + 3) = .ok (.dup, 1)) (d4 : decode (z_c Z) (pc + 4) = .ok (.ldc_w (x_str i).2.1, 3)) (d7 : decode (z_c Z) (pc + 7) = .ok (.invokespecial ic, 3)) (d10 : decode (z_c Z) (pc + 10) = .ok (.athrow, 1))
    (hR1 : 5 < (z_R Z).frames) (hR2 : (st.map fun v => v.category).sum + 82 ≤ (z_R Z).locals) (hR3 : k + 1 ≤ (z_R Z).cells) (hR4 : n + 6 ≤ (z_R Z).slots)
    (hh : z_h Z = []) (ho : z_o Z = .inr cls) (hN : z_N Z = N) (hS' : z_S Z = sh) (hD : z_D Z D) (hg : z_g Z = false) (hk : k + 1 ≤ z_m Z) (hn : n + 6 ≤ z_s Z) : x_W Z pc L st k n g N sh D := by
  intro p e s m args below meth c0 H locs ls C hl hP hS
  obtain ⟨⟨r0, r1, r2, r5⟩, w1, w2, w3, w4, w5, w6⟩ := hw
  have hts := C.2.2.2.2.1
  have hE := C.2.2.2.2.2.2.2.2.2.1.2.1
  have hstr := hE.2.2.1 i hi
  rw [hown] at hstr
  have ht : c0.exceptionTable.toList = [] := by rw [C.2.2.2.2.2.2.2.2.1, hh]; rfl
  refine xq_throwSW (names := x_names) (A := x_A (z_X Z)) C.1 C.2.1 C.2.2.2.2.2.2.2.2.2.2 r0 r1 r2 r5 C.2.2.2.1 w1 (by decide +kernel) (hts _ w2) (hts _ w3) hstr (fun w hw => x_wat hts hE (w6 w hw).1 (w6 w hw).2.1)
    (fun w hw => by rcases List.mem_cons.mp hw with rfl | hw; · exact w4
                    rcases List.mem_cons.mp hw with rfl | hw; · exact w5
                    exact (w6 w hw).2.2) hE.1.1 hE.1.2 hS (hl.1.trans C.2.2.1.symm) d0 d3 d4 d7 d10 (by rw [ht]; intro x hx; cases hx) hR1 hR2 hR3 hR4 C.2.2.2.2.2.2.1 (fun t _ h1 h2 => ?_) hS.2.2 hk hn
  rw [ho, hN, hS', hg]
  refine ⟨D, rfl, hD, ⟨?_, fun h => by cases h⟩, ?_, ?_⟩
  · exact hP.1.kept (fun j q hq => h2 _ ((hP.1 j q hq).lt))
  · exact Nat.le_trans hS.1 h1
  · intro q h3 h4
    rw [h2 q (Nat.lt_of_lt_of_le h3 hS.1)]
    exact hS.2.1 q h3 h4
end XLH
