section XB
theorem xI_nat (n : Nat) : xI (n : Int) = Int32.ofNat n := by first | rfl | exact Int32.ofInt_eq_ofNat ..
theorem x_n_nat {n : Nat} (h : n < 2147483648) : x_n (n : Int) = n := x_n_of ⟨by omega, by omega⟩
theorem xI_or (a b : Nat) : xI a ||| xI b = xI ((a ||| b : Nat) : Int) := by
  rw [xI_nat, xI_nat, xI_nat]
  apply Int32.toBitVec_inj.mp
  simp
theorem xI_and (a b : Nat) : xI a &&& xI b = xI ((a &&& b : Nat) : Int) := by
  rw [xI_nat, xI_nat, xI_nat]
  apply Int32.toBitVec_inj.mp
  simp
theorem xI_xor (a b : Nat) : xI a ^^^ xI b = xI ((a ^^^ b : Nat) : Int) := by
  rw [xI_nat, xI_nat, xI_nat]
  apply Int32.toBitVec_inj.mp
  simp
theorem x_or_nat {a b : Nat} (ha : a < 2147483648) (hb : b < 2147483648) : x_or a b = ((a ||| b : Nat) : Int) := by
  unfold x_or
  rw [xI_or]
  exact x_n_nat (Nat.or_lt_two_pow (n := 31) ha hb)
theorem x_an_nat {a b : Nat} (ha : a < 2147483648) : x_an a b = ((a &&& b : Nat) : Int) := by
  unfold x_an
  rw [xI_and]
  exact x_n_nat (Nat.lt_of_le_of_lt Nat.and_le_left ha)
theorem x_sl1 : ∀ c : Nat, c < 31 → x_sl 1 (c : Int) = ((2 ^ c : Nat) : Int) := by decide +kernel
/-- bits of the numbers below n that p names -/
def s_bits (p : Nat → Prop) [DecidablePred p] : Nat → Nat
  | 0 => 0
  | n + 1 => if p n then s_bits p n + 2 ^ n else s_bits p n
theorem s_bits_lt (p : Nat → Prop) [DecidablePred p] : ∀ n, s_bits p n < 2 ^ n
  | 0 => by simp [s_bits]
  | n + 1 => by
    have := s_bits_lt p n
    unfold s_bits
    rw [Nat.pow_succ]
    split <;> omega
theorem s_or_pow {b n : Nat} (h : b < 2 ^ n) : b ||| 2 ^ n = b + 2 ^ n := by
  rw [Nat.or_comm, Nat.add_comm]
  have := Nat.two_pow_add_eq_or_of_lt h 1
  simpa using this.symm
theorem s_bits_or (p : Nat → Prop) [DecidablePred p] {n : Nat} (hn : n < 31) (hp : p n) : x_or (s_bits p n : Int) (x_sl 1 (n : Int)) = (s_bits p (n + 1) : Int) := by
  have h1 := s_bits_lt p n
  have h2 : (2 : Nat) ^ n < 2147483648 := Nat.lt_of_lt_of_le (Nat.pow_lt_pow_right (by decide) hn) (by decide)
  rw [x_sl1 n hn, x_or_nat (by omega) h2, s_or_pow h1]
  show _ = ((if p n then s_bits p n + 2 ^ n else s_bits p n : Nat) : Int)
  rw [if_pos hp]
theorem s_bits_or0 (p : Nat → Prop) [DecidablePred p] {n : Nat} (hn : n < 31) (hp : ¬ p n) : x_or (s_bits p n : Int) 0 = (s_bits p (n + 1) : Int) := by
  have h1 := s_bits_lt p n
  have h2 : (2 : Nat) ^ n < 2147483648 := Nat.lt_of_lt_of_le (Nat.pow_lt_pow_right (by decide) hn) (by decide)
  have h3 := x_or_nat (a := s_bits p n) (b := 0) (by omega) (by omega)
  rw [Nat.or_zero] at h3
  rw [show (0 : Int) = ((0 : Nat) : Int) from rfl, h3]
  show _ = ((if p n then s_bits p n + 2 ^ n else s_bits p n : Nat) : Int)
  rw [if_neg hp]
end XB
