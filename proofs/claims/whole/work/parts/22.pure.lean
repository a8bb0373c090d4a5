/-! THE PURE PART: bits -/
theorem nat_of32 (x : Int) : ((Int32.ofInt x).toBitVec.toNat : Int) = x % 4294967296 := by
  show ((BitVec.ofInt 32 x).toNat : Int) = _
  rw [BitVec.toNat_ofInt]
  have := Int.emod_nonneg x (show (4294967296 : Int) ≠ 0 by decide)
  show ((x % 4294967296).toNat : Int) = _
  omega
theorem int_of32 {z : Int32} (h : z.toBitVec.toNat < 2147483648) : z.toInt = (z.toBitVec.toNat : Int) := by
  show z.toBitVec.toInt = _
  rw [BitVec.toInt_eq_toNat_of_lt (by omega)]
theorem band_nat (x y : Int) : (((Int32.ofInt x) &&& (Int32.ofInt y)).toBitVec.toNat : Int) = (((x % 4294967296).toNat &&& (y % 4294967296).toNat : Nat) : Int) := by
  have hx := nat_of32 x
  have hy := nat_of32 y
  rw [Int32.toBitVec_and, BitVec.toNat_and]
  rw [show (Int32.ofInt x).toBitVec.toNat = (x % 4294967296).toNat by omega, show (Int32.ofInt y).toBitVec.toNat = (y % 4294967296).toNat by omega]
/-- the lowest bits -/
theorem band_mask (x : Int) (n : Nat) (hn : n < 32) : band x (2 ^ n - 1) = x % 2 ^ n := by
  have hp : (2 : Int) ^ n ≤ 2147483648 := by
    have : (2 : Nat) ^ n ≤ 2 ^ 31 := Nat.pow_le_pow_right (by decide) (by omega)
    have h2 : ((2 ^ n : Nat) : Int) = (2 : Int) ^ n := by simp
    omega
  have h1 : (1 : Int) ≤ 2 ^ n := by
    have : (1 : Nat) ≤ 2 ^ n := Nat.one_le_two_pow
    have h2 : ((2 ^ n : Nat) : Int) = (2 : Int) ^ n := by simp
    omega
  have h2 : ((2 ^ n : Nat) : Int) = (2 : Int) ^ n := by simp
  have e := band_nat x (2 ^ n - 1)
  have e2 : (((2 : Int) ^ n - 1) % 4294967296).toNat = 2 ^ n - 1 := by
    rw [Int.emod_eq_of_lt (by omega) (by omega)]
    omega
  rw [e2, Nat.and_two_pow_sub_one_eq_mod] at e
  have e3 : (((x % 4294967296).toNat % 2 ^ n : Nat) : Int) = x % 2 ^ n := by
    have h0 := Int.emod_nonneg x (show (4294967296 : Int) ≠ 0 by decide)
    rw [Int.natCast_emod, h2, Int.toNat_of_nonneg h0]
    have hd : (2 : Int) ^ n ∣ 4294967296 := by
      have : (2 : Nat) ^ n ∣ 2 ^ 32 := Nat.pow_dvd_pow 2 (by omega)
      have := Int.natCast_dvd_natCast.mpr this
      simpa using this
    exact Int.emod_emod_of_dvd x hd
  rw [e3] at e
  have b0 := Int.emod_nonneg x (show (2 : Int) ^ n ≠ 0 by omega)
  have b1 := Int.emod_lt_of_pos x (show (0 : Int) < 2 ^ n by omega)
  unfold band
  rw [int_of32 (by omega), e]
theorem band1 (x : Int) : band x 1 = x % 2 := band_mask x 1 (by decide)
theorem band15 (x : Int) : band x 15 = x % 16 := band_mask x 4 (by decide)
theorem band63 (x : Int) : band x 63 = x % 64 := band_mask x 6 (by decide)
theorem band255 (x : Int) : band x 255 = x % 256 := band_mask x 8 (by decide)
theorem band65535 (x : Int) : band x 65535 = x % 65536 := band_mask x 16 (by decide)
/-- one bit -/
theorem nat_bit (a n : Nat) : a &&& 2 ^ n = (a / 2 ^ n % 2) * 2 ^ n := by
  apply Nat.eq_of_testBit_eq
  intro i
  rw [Nat.testBit_and, Nat.testBit_two_pow]
  have ht : a.testBit n = decide (a / 2 ^ n % 2 = 1) := Nat.testBit_eq_decide_div_mod_eq
  by_cases hb : a / 2 ^ n % 2 = 1
  · rw [hb, Nat.one_mul, Nat.testBit_two_pow]
    by_cases e : n = i
    · subst e; rw [ht]; simp [hb]
    · simp [e]
  · rw [show a / 2 ^ n % 2 = 0 by omega, Nat.zero_mul, Nat.zero_testBit]
    by_cases e : n = i
    · subst e; rw [ht]; simp [hb]
    · simp [e]
theorem band_bit (x : Int) (n : Nat) (hn : n < 31) : band x (2 ^ n) = x / 2 ^ n % 2 * 2 ^ n := by
  have hp : (2 : Int) ^ n ≤ 1073741824 := by
    have : (2 : Nat) ^ n ≤ 2 ^ 30 := Nat.pow_le_pow_right (by decide) (by omega)
    have h2 : ((2 ^ n : Nat) : Int) = (2 : Int) ^ n := by simp
    omega
  have h1 : (1 : Int) ≤ 2 ^ n := by
    have : (1 : Nat) ≤ 2 ^ n := Nat.one_le_two_pow
    have h2 : ((2 ^ n : Nat) : Int) = (2 : Int) ^ n := by simp
    omega
  have h2 : ((2 ^ n : Nat) : Int) = (2 : Int) ^ n := by simp
  have e := band_nat x (2 ^ n)
  have e2 : (((2 : Int) ^ n) % 4294967296).toNat = 2 ^ n := by
    rw [Int.emod_eq_of_lt (by omega) (by omega)]
    omega
  rw [e2, nat_bit] at e
  have h0 := Int.emod_nonneg x (show (4294967296 : Int) ≠ 0 by decide)
  have q : (((x % 4294967296).toNat / 2 ^ n % 2 : Nat) : Int) = x / 2 ^ n % 2 := by
    rw [Int.natCast_emod, Int.natCast_ediv, h2, Int.toNat_of_nonneg h0]
    have a1 := Int.mul_ediv_add_emod x 4294967296
    obtain ⟨k, hk⟩ : ∃ k : Int, (4294967296 : Int) = 2 ^ n * (2 * k) := by
      refine ⟨2 ^ (31 - n), ?_⟩
      rw [← Int.mul_assoc, Int.mul_comm ((2 : Int) ^ n) 2, Int.mul_assoc, ← Int.pow_add, show n + (31 - n) = 31 by omega]
      rfl
    have a2 : x = x % 4294967296 + 2 ^ n * (2 * k * (x / 4294967296)) := by rw [← Int.mul_assoc, ← hk]; omega
    have a3 : x / 2 ^ n = x % 4294967296 / 2 ^ n + 2 * k * (x / 4294967296) := by
      have : x / 2 ^ n = (x % 4294967296 + 2 ^ n * (2 * k * (x / 4294967296))) / 2 ^ n := by rw [← a2]
      rw [this, Int.add_mul_ediv_left _ _ (by omega)]
    rw [a3, Int.mul_assoc, Int.add_mul_emod_self_left]
    rfl
  rw [Int.natCast_mul, q, h2] at e
  have b0 := Int.emod_nonneg (x / 2 ^ n) (show (2 : Int) ≠ 0 by decide)
  have b1 := Int.emod_lt_of_pos (x / 2 ^ n) (show (0 : Int) < 2 by decide)
  unfold band
  rcases (show x / 2 ^ n % 2 = 0 ∨ x / 2 ^ n % 2 = 1 by omega) with hb | hb
  · rw [hb, Int.zero_mul] at e ⊢
    rw [int_of32 (by omega), e]
  · rw [hb, Int.one_mul] at e ⊢
    rw [int_of32 (by omega), e]
/-- shifts -/
theorem bshr_eq (x : Int) (n : Nat) (hx : -2147483648 ≤ x ∧ x < 2147483648) (hn : n < 32) : bshr x n = x / 2 ^ n := by
  unfold bshr
  have e : (Int32.ofInt (n : Int) &&& 31) = Int32.ofInt (n : Int) := by
    have := band_mask (n : Int) 5 (by decide)
    unfold band at this
    apply Int32.toInt_inj.mp
    have h31 : (31 : Int32) = Int32.ofInt (2 ^ 5 - 1) := by decide
    rw [h31, this, Int32.toInt_ofInt_of_le (by omega) (by omega)]
    show (n : Int) % 32 = n
    omega
  rw [e]
  have ex : (Int32.ofInt x).toInt = x := Int32.toInt_ofInt_of_le (by omega) (by omega)
  show ((Int32.ofInt x).toBitVec.sshiftRight' ((Int32.ofInt (n : Int)).toBitVec.smod 32)).toInt = _
  have es : ((Int32.ofInt (n : Int)).toBitVec.smod 32).toNat = n := by
    have : ∀ k : Nat, k < 32 → ((Int32.ofInt (k : Int)).toBitVec.smod 32).toNat = k := by decide
    exact this n hn
  rw [BitVec.sshiftRight', es, BitVec.toInt_sshiftRight]
  show (Int32.ofInt x).toInt >>> n = _
  rw [ex, Int.shiftRight_eq_div_pow]
  simp
theorem bshl_one (n : Nat) (hn : n < 31) : bshl 1 n = 2 ^ n := by
  have : ∀ k : Nat, k < 31 → bshl 1 k = 2 ^ k := by decide
  exact this n hn
