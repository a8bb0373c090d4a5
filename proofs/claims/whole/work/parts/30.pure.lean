/-! THE PURE PART: a smoothed number of the model -/
def smM (m : Mm) (t : Int) (l : Nat) (u v : Int) : Int :=
  ((wtM m t l ((u / 2 ^ l - 8) / 16) ((v / 2 ^ l - 8) / 16)) * ((16 - (u / 2 ^ l - 8) % 16) * (16 - (v / 2 ^ l - 8) % 16)) + (wtM m t l ((u / 2 ^ l - 8) / 16 + 1) ((v / 2 ^ l - 8) / 16)) * (((u / 2 ^ l - 8) % 16) * (16 - (v / 2 ^ l - 8) % 16))
    + (wtM m t l ((u / 2 ^ l - 8) / 16) ((v / 2 ^ l - 8) / 16 + 1)) * ((16 - (u / 2 ^ l - 8) % 16) * ((v / 2 ^ l - 8) % 16)) + (wtM m t l ((u / 2 ^ l - 8) / 16 + 1) ((v / 2 ^ l - 8) / 16 + 1)) * (((u / 2 ^ l - 8) % 16) * ((v / 2 ^ l - 8) % 16))).tdiv 256
theorem w64_i {x : Int} (h0 : -9223372036854775808 ≤ x) (h1 : x < 9223372036854775808) : w64 x = x := by unfold w64; omega
theorem pw5 : ∀ l : Nat, l < 5 → (1 : Int) ≤ 2 ^ l ∧ (2 : Int) ^ l ≤ 16 := by decide
theorem div_rng {a b n : Int} (hb : 1 ≤ b) (h0 : -n ≤ a) (h1 : a ≤ n) : -n ≤ a / b ∧ a / b ≤ n := by
  constructor
  · rw [Int.le_ediv_iff_mul_le (by omega)]
    have : -n * b ≤ -n * 1 ∨ n < 0 := by
      by_cases hn : n < 0
      · exact Or.inr hn
      · exact Or.inl (Int.mul_le_mul_of_nonpos_left (by omega) hb)
    omega
  · rcases Int.lt_or_le a 0 with q | q
    · have := Int.ediv_neg_of_neg_of_pos q (show 0 < b by omega)
      omega
    · have := Int.ediv_le_self b q
      omega
theorem mul_rng {a b A B : Int} (hA : 0 ≤ A) (a0 : -A ≤ a) (a1 : a ≤ A) (b0 : 0 ≤ b) (b1 : b ≤ B) : -(A * B) ≤ a * b ∧ a * b ≤ A * B := by
  have h1 : a * b ≤ A * b := Int.mul_le_mul_of_nonneg_right a1 b0
  have h2 : A * b ≤ A * B := Int.mul_le_mul_of_nonneg_left b1 hA
  have h3 : -A * b ≤ a * b := Int.mul_le_mul_of_nonneg_right a0 b0
  have h4 : -A * b = -(A * b) := Int.neg_mul _ _
  omega
