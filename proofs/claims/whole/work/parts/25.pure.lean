/-! THE PURE PART: where a texel lies, the model's way -/
def crv (x y w h : Int) : Nat → Int → Int → Int → Int
  | 0, n, _, _ => n
  | f + 1, n, bit, k =>
    if bshl 1 k < w ∨ bshl 1 k < h then
      crv x y w h f (if bshl 1 k < h then bor (if bshl 1 k < w then bor n (bshl (band (bshr x k) 1) bit) else n) (bshl (band (bshr y k) 1) (if bshl 1 k < w then w32 (bit + 1) else bit)) else (if bshl 1 k < w then bor n (bshl (band (bshr x k) 1) bit) else n))
        (if bshl 1 k < h then w32 ((if bshl 1 k < w then w32 (bit + 1) else bit) + 1) else (if bshl 1 k < w then w32 (bit + 1) else bit)) (w32 (k + 1))
    else n
theorem p_curve_s (x y w h' n bit k : Int) (h : Hq) : vp 243 9 [(0, x), (0, y), (0, w), (0, h'), (0, n), (0, bit), (0, k)] [] h = if bshl 1 k < w ∨ bshl 1 k < h' then vp 243 9 [(0, x), (0, y), (0, w), (0, h'), (0, if bshl 1 k < h' then bor (if bshl 1 k < w then bor n (bshl (band (bshr x k) 1) bit) else n) (bshl (band (bshr y k) 1) (if bshl 1 k < w then w32 (bit + 1) else bit)) else (if bshl 1 k < w then bor n (bshl (band (bshr x k) 1) bit) else n)), (0, if bshl 1 k < h' then w32 ((if bshl 1 k < w then w32 (bit + 1) else bit) + 1) else (if bshl 1 k < w then w32 (bit + 1) else bit)), (0, w32 (k + 1))] [] h else some (some (0, n), h) := by
  rw [e_X12_curve_9]
  by_cases h1 : bshl 1 k < w
  · rw [if_pos h1, if_neg (show ¬ bshl 1 k ≥ w by omega), if_pos (show bshl 1 k < w ∨ bshl 1 k < h' from Or.inl h1), if_pos h1, if_pos h1, e_X12_curve_50]
    by_cases h2 : bshl 1 k < h'
    · rw [if_neg (show ¬ bshl 1 k ≥ h' by omega), if_pos h2, if_pos h2]
    · rw [if_pos (show bshl 1 k ≥ h' by omega), if_neg h2, if_neg h2]
  · rw [if_neg h1]
    by_cases h2 : bshl 1 k < h'
    · rw [if_neg (show ¬ bshl 1 k ≥ h' by omega), if_pos (show bshl 1 k ≥ w by omega), if_pos (show bshl 1 k < w ∨ bshl 1 k < h' from Or.inr h2), if_pos h2, if_pos h2, if_neg h1, if_neg h1, e_X12_curve_50, if_neg (show ¬ bshl 1 k ≥ h' by omega)]
    · rw [if_pos (show bshl 1 k ≥ h' by omega), if_neg (show ¬ (bshl 1 k < w ∨ bshl 1 k < h') by omega)]
theorem p_curve_l (x y w h' : Int) (hw : w ≤ 16) (hh : h' ≤ 16) (h : Hq) : ∀ (f : Nat) (n bit : Int) (k : Nat), k + f = 4 → vp 243 9 [(0, x), (0, y), (0, w), (0, h'), (0, n), (0, bit), (0, (k : Int))] [] h = some (some (0, crv x y w h' f n bit k), h)
  | 0, n, bit, k, e => by
    have : k = 4 := by omega
    subst this
    have e4 : bshl 1 ((4 : Nat) : Int) = 16 := by decide
    rw [p_curve_s, if_neg (show ¬ (bshl 1 ((4 : Nat) : Int) < w ∨ bshl 1 ((4 : Nat) : Int) < h') by omega)]
    rfl
  | f + 1, n, bit, k, e => by
    rw [p_curve_s]
    unfold crv
    by_cases hc : bshl 1 (k : Int) < w ∨ bshl 1 (k : Int) < h'
    · rw [if_pos hc, if_pos hc, w32_i (x := (k : Int) + 1) (by omega) (by omega)]
      exact p_curve_l x y w h' hw hh h f _ _ (k + 1) (by omega)
    · rw [if_neg hc, if_neg hc]
theorem p_curve (x y w h' : Int) (hw : w ≤ 16) (hh : h' ≤ 16) (h : Hq) : vm 243 [(0, x), (0, y), (0, w), (0, h')] h = some (some (0, crv x y w h' 4 0 0 0), h) := by
  rw [e_X12_curve]
  exact p_curve_l x y w h' hw hh h 4 0 0 0 rfl
/-- how many places behind the first of its level -/
def bhd (o w h x y : Int) : Int := if o = 2 then crv x y w h 4 0 0 0 else if o = 0 ∨ w < 4 ∨ h < 4 then y * w + x else 16 * (y / 4 * (w / 4) + x / 4) + 4 * (y % 4) + x % 4
theorem p_behind_37 {h : Hq} {x y w h' o : Int} {z0 z1 z2 z7 : Vl} (x0 : 0 ≤ x) (x1 : x ≤ 300) (y0 : 0 ≤ y) (y1 : y ≤ 300) (w0 : 1 ≤ w) (w1 : w ≤ 16) (h0 : 1 ≤ h') (h1 : h' ≤ 16) : vp 244 37 [z0, z1, z2, (0, x), (0, y), (0, w), (0, h'), z7] [(0, o)] h = some (some (0, bhd o w h' x y), h) := by
  have m1 : 0 ≤ y * w := Int.mul_nonneg y0 (by omega)
  have m2 : y * w ≤ 300 * 16 := Int.mul_le_mul y1 w1 (by omega) (by omega)
  have r1 : w32 (w32 (y * w) + x) = y * w + x := by rw [w32_i (x := y * w) (by omega) (by omega), w32_i (by omega) (by omega)]
  rw [e_X12_behind_37, r1]
  unfold bhd
  by_cases o2 : o = 2
  · rw [if_neg (show ¬ o ≠ 2 by omega), if_pos o2, p_curve x y w h' w1 h1]
    rfl
  · rw [if_pos o2, if_neg o2]
    by_cases o0 : o = 0
    · rw [if_pos o0, if_pos (Or.inl o0)]
    · rw [if_neg o0]
      by_cases w4 : w < 4
      · rw [if_pos w4, if_pos (Or.inr (Or.inl w4))]
      · rw [if_neg w4]
        by_cases h4 : h' < 4
        · rw [if_neg (show ¬ h' ≥ 4 by omega), if_pos (Or.inr (Or.inr h4))]
        · rw [if_pos (show h' ≥ 4 by omega), if_neg (show ¬ (o = 0 ∨ w < 4 ∨ h' < 4) by omega)]
          rw [Int.tdiv_eq_ediv_of_nonneg y0, Int.tdiv_eq_ediv_of_nonneg x0, Int.tdiv_eq_ediv_of_nonneg (show 0 ≤ w by omega), Int.tmod_eq_emod_of_nonneg y0, Int.tmod_eq_emod_of_nonneg x0]
          have a1 : 0 ≤ y / 4 := by omega
          have a2 : y / 4 ≤ 75 := by omega
          have a3 : 0 ≤ w / 4 := by omega
          have a4 : w / 4 ≤ 4 := by omega
          have a5 : 0 ≤ y / 4 * (w / 4) := Int.mul_nonneg a1 a3
          have a6 : y / 4 * (w / 4) ≤ 75 * 4 := Int.mul_le_mul a2 a4 a3 (by omega)
          have a7 : 0 ≤ x / 4 ∧ x / 4 ≤ 75 := by omega
          rw [w32_i (x := y / 4) (by omega) (by omega), w32_i (x := w / 4) (by omega) (by omega), w32_i (x := x / 4) (by omega) (by omega), w32_i (x := y / 4 * (w / 4)) (by omega) (by omega), w32_i (x := y / 4 * (w / 4) + x / 4) (by omega) (by omega), w32_i (x := 16 * _) (by omega) (by omega), w32_i (x := 4 * (y % 4)) (by omega) (by omega), w32_i (x := 16 * (y / 4 * (w / 4) + x / 4) + 4 * (y % 4)) (by omega) (by omega), w32_i (by omega) (by omega)]
