/-! THE PURE PART: words -/
/-- a word of the class, five bits a letter, as the model has it, eight bits a letter -/
def cvr : Nat → Int → Int
  | 0, _ => 0
  | k + 1, w => 256 * cvr k (w / 32) + (if w % 32 = 0 then 0 else w % 32 + 96)
def p32 : Nat → Int
  | 0 => 1
  | k + 1 => 32 * p32 k
def p256 : Nat → Int
  | 0 => 1
  | k + 1 => 256 * p256 k
theorem cvr_s (k : Nat) (w : Int) : cvr (k + 1) w = 256 * cvr k (w / 32) + (if w % 32 = 0 then 0 else w % 32 + 96) := rfl
theorem p32_s (k : Nat) : p32 (k + 1) = 32 * p32 k := rfl
theorem dg_rng (w : Int) : 0 ≤ (if w % 32 = 0 then (0 : Int) else w % 32 + 96) ∧ (if w % 32 = 0 then (0 : Int) else w % 32 + 96) ≤ 127 := by
  split <;> omega
theorem p32_pos : ∀ k : Nat, 1 ≤ p32 k
  | 0 => by unfold p32; omega
  | k + 1 => by
    have := p32_pos k
    rw [p32_s]
    omega
theorem cvr_low : ∀ (k : Nat) (w : Int), 0 ≤ w → w < p32 k → cvr (k + 1) w = cvr k w
  | 0, w, h0, h1 => by
    rw [show w = 0 by unfold p32 at h1; omega]
    rfl
  | k + 1, w, h0, h1 => by
    rw [p32_s] at h1
    rw [cvr_s (k + 1), cvr_low k (w / 32) (by omega) (by omega), ← cvr_s k]
theorem cvr_add (k : Nat) {w d : Int} (d0 : 1 ≤ d) (d1 : d ≤ 26) : cvr (k + 1) (32 * w + d) = 256 * cvr k w + (d + 96) := by
  rw [cvr_s, show (32 * w + d) / 32 = w by omega, show (32 * w + d) % 32 = d by omega, if_neg (by omega)]
theorem cvr_rng : ∀ (k : Nat) (w : Int), 0 ≤ w → 0 ≤ cvr k w ∧ 2 * cvr k w < p256 k
  | 0, w, h0 => by unfold cvr p256; omega
  | k + 1, w, h0 => by
    have a := cvr_rng k (w / 32) (by omega)
    have b := dg_rng w
    rw [cvr_s, show p256 (k + 1) = 256 * p256 k from rfl]
    omega
theorem cvr_inj : ∀ (k : Nat) (w v : Int), 0 ≤ w → w < p32 k → 0 ≤ v → v < p32 k → cvr k w = cvr k v → w = v
  | 0, w, v, a, b, c, d, _ => by
    unfold p32 at b d
    omega
  | k + 1, w, v, a, b, c, d, e => by
    rw [p32_s] at b d
    rw [cvr_s, cvr_s] at e
    have q : cvr k (w / 32) = cvr k (v / 32) ∧ w % 32 = v % 32 := by
      generalize cvr k (w / 32) = x at *
      generalize cvr k (v / 32) = y at *
      by_cases z : w % 32 = 0
      · rw [if_pos z] at e
        by_cases z2 : v % 32 = 0
        · rw [if_pos z2] at e
          omega
        · rw [if_neg z2] at e
          omega
      · rw [if_neg z] at e
        by_cases z2 : v % 32 = 0
        · rw [if_pos z2] at e
          omega
        · rw [if_neg z2] at e
          omega
    have := cvr_inj k (w / 32) (v / 32) (by omega) (by omega) (by omega) (by omega) q.1
    omega
theorem CV_ex : ∃ f : Int → Int, ∀ w : Int, f w = cvr 8 w := ⟨cvr 8, fun _ => rfl⟩
noncomputable def CV (w : Int) : Int := Classical.choose CV_ex w
theorem CV_def (w : Int) : CV w = cvr 8 w := Classical.choose_spec CV_ex w
theorem CV_0 : CV 0 = 0 := by
  rw [CV_def]
  decide +kernel
theorem p32_8 : p32 8 = 1099511627776 := rfl
theorem CV_inj {w v : Int} (a : 0 ≤ w) (b : w < 1099511627776) (c : 0 ≤ v) (d : v < 1099511627776) : CV w = CV v ↔ w = v := by
  rw [CV_def, CV_def]
  constructor
  · exact cvr_inj 8 w v a (by rw [p32_8]; exact b) c (by rw [p32_8]; exact d)
  · intro h
    rw [h]
/-- one letter more -/
theorem p32_7 : p32 7 = 34359738368 := rfl
theorem p256_7 : p256 7 = 72057594037927936 := rfl
theorem CV_add {w d : Int} (w0 : 0 ≤ w) (w1 : w < 34359738368) (d0 : 1 ≤ d) (d1 : d ≤ 26) : CV (32 * w + d) = 256 * CV w + (d + 96) ∧ 0 ≤ CV w ∧ CV w < 36028797018963968 := by
  have l := cvr_low 7 w w0 (by rw [p32_7]; exact w1)
  have r := cvr_rng 7 w w0
  rw [p256_7] at r
  rw [CV_def, CV_def, cvr_add 7 d0 d1, l]
  exact ⟨rfl, by omega⟩
theorem lsh8 {a c : Int} (a0 : 0 ≤ a) (a1 : a < 36028797018963968) (c0 : 0 ≤ c) (c1 : c < 256) : lbor (lbshl a 8) c = 256 * a + c := by
  have ha := nat_of64 a
  have hc := nat_of64 c
  rw [Int.emod_eq_of_lt a0 (by omega)] at ha
  rw [Int.emod_eq_of_lt c0 (by omega)] at hc
  have hs : (Int64.ofInt a <<< ((Int32.ofInt 8).toInt64 &&& 63)).toBitVec.toNat = (Int64.ofInt a).toBitVec.toNat * 256 := by
    rw [show ((Int32.ofInt 8).toInt64 &&& 63) = (8 : Int64) by decide, Int64.toBitVec_shiftLeft, show (8 : Int64).toBitVec.smod 64 = 8#64 by decide]
    show ((Int64.ofInt a).toBitVec <<< (8 : Nat)).toNat = _
    rw [BitVec.toNat_shiftLeft, Nat.shiftLeft_eq]
    omega
  unfold lbor lbshl
  rw [Int64.ofInt_toInt]
  generalize Int64.ofInt a <<< ((Int32.ofInt 8).toInt64 &&& 63) = s at *
  have e : (s ||| Int64.ofInt c).toBitVec.toNat = (Int64.ofInt a).toBitVec.toNat * 256 + (Int64.ofInt c).toBitVec.toNat := by
    rw [Int64.toBitVec_or, BitVec.toNat_or, hs]
    have := Nat.shiftLeft_add_eq_or_of_lt (show (Int64.ofInt c).toBitVec.toNat < 2 ^ 8 by omega) (Int64.ofInt a).toBitVec.toNat
    rw [Nat.shiftLeft_eq] at this
    exact this.symm
  show (s ||| Int64.ofInt c).toBitVec.toInt = _
  rw [BitVec.toInt_eq_toNat_of_lt (by omega)]
  omega
def vocL : List Int := [3181829, 89, 486, 20594245, 21243335, 474565, 21668451909, 494, 52, 632645, 408622483, 206220, 75411, 2937011, 3409491, 646433427, 309907, 13089011, 214402707, 4820381875, 677123475, 24627347, 605939, 21278899, 123295923, 609752116, 3540400, 446253554]
def voc (i : Int) : Int := vocL.getD i.toNat 0
noncomputable def wm (i : Int) : Int := CV (voc i)
theorem voc_ok : ∀ a : Nat, a < 28 → (0 ≤ vocL.getD a 0 ∧ vocL.getD a 0 < 1099511627776) ∧ ∀ b : Nat, b < 28 → vocL.getD a 0 = vocL.getD b 0 → a = b := by decide +kernel
theorem voc_rng {i : Int} (h0 : 0 ≤ i) (h1 : i < 28) : 0 ≤ voc i ∧ voc i < 1099511627776 := (voc_ok i.toNat (by omega)).1
theorem voc_inj {i j : Int} (h0 : 0 ≤ i) (h1 : i < 28) (g0 : 0 ≤ j) (g1 : j < 28) (e : voc i = voc j) : i = j := by
  have := (voc_ok i.toNat (by omega)).2 j.toNat (by omega) e
  omega
theorem wm_0 : wm 0 = 426835667045 := by unfold wm; rw [CV_def]; decide +kernel
theorem wm_1 : wm 1 = 25209 := by unfold wm; rw [CV_def]; decide +kernel
theorem wm_2 : wm 2 = 28518 := by unfold wm; rw [CV_def]; decide +kernel
theorem wm_3 : wm 3 = 495874699877 := by unfold wm; rw [CV_def]; decide +kernel
theorem wm_4 : wm 4 = 499967946343 := by unfold wm; rw [CV_def]; decide +kernel
theorem wm_5 : wm 5 = 1852796517 := by unfold wm; rw [CV_def]; decide +kernel
theorem wm_6 : wm 6 = 32762665322771045 := by unfold wm; rw [CV_def]; decide +kernel
theorem wm_7 : wm 7 = 28526 := by unfold wm; rw [CV_def]; decide +kernel
theorem wm_8 : wm 8 = 24948 := by unfold wm; rw [CV_def]; decide +kernel
theorem wm_9 : wm 9 = 1936292453 := by unfold wm; rw [CV_def]; decide +kernel
theorem wm_10 : wm 10 = 119183033855091 := by unfold wm; rw [CV_def]; decide +kernel
theorem wm_11 : wm 11 = 1718185068 := by unfold wm; rw [CV_def]; decide +kernel
theorem wm_12 : wm 12 = 1651078259 := by unfold wm; rw [CV_def]; decide +kernel
theorem wm_13 : wm 13 = 422944466291 := by unfold wm; rw [CV_def]; decide +kernel
theorem wm_14 : wm 14 = 426952979059 := by unfold wm; rw [CV_def]; decide +kernel
theorem wm_15 : wm 15 = 126892383564915 := by unfold wm; rw [CV_def]; decide +kernel
theorem wm_16 : wm 16 = 1768846451 := by unfold wm; rw [CV_def]; decide +kernel
theorem wm_17 : wm 17 = 465725974387 := by unfold wm; rw [CV_def]; decide +kernel
theorem wm_18 : wm 18 = 112615911158899 := by unfold wm; rw [CV_def]; decide +kernel
theorem wm_19 : wm 19 = 28270047624193395 := by unfold wm; rw [CV_def]; decide +kernel
theorem wm_20 : wm 20 = 127979160431731 := by unfold wm; rw [CV_def]; decide +kernel
theorem wm_21 : wm 21 = 512970876019 := by unfold wm; rw [CV_def]; decide +kernel
theorem wm_22 : wm 22 = 1919907699 := by unfold wm; rw [CV_def]; decide +kernel
theorem wm_23 : wm 23 = 499984917875 := by unfold wm; rw [CV_def]; decide +kernel
theorem wm_24 : wm 24 = 109356082685299 := by unfold wm; rw [CV_def]; decide +kernel
theorem wm_25 : wm 25 = 125780002955636 := by unfold wm; rw [CV_def]; decide +kernel
theorem wm_26 : wm 26 = 427020086640 := by unfold wm; rw [CV_def]; decide +kernel
theorem wm_27 : wm 27 = 120299659095922 := by unfold wm; rw [CV_def]; decide +kernel
theorem FX.voc {m : Mm} (F : FX m) {i : Int} (h0 : 0 ≤ i) (h1 : i < 28) : m 5 i = voc i := by
  have hi : i = 0 ∨ i = 1 ∨ i = 2 ∨ i = 3 ∨ i = 4 ∨ i = 5 ∨ i = 6 ∨ i = 7 ∨ i = 8 ∨ i = 9 ∨ i = 10 ∨ i = 11 ∨ i = 12 ∨ i = 13 ∨ i = 14 ∨ i = 15 ∨ i = 16 ∨ i = 17 ∨ i = 18 ∨ i = 19 ∨ i = 20 ∨ i = 21 ∨ i = 22 ∨ i = 23 ∨ i = 24 ∨ i = 25 ∨ i = 26 ∨ i = 27 := by omega
  rcases hi with h | h | h | h | h | h | h | h | h | h | h | h | h | h | h | h | h | h | h | h | h | h | h | h | h | h | h | h <;> rw [h]
  · exact F.c5_0
  · exact F.c5_1
  · exact F.c5_2
  · exact F.c5_3
  · exact F.c5_4
  · exact F.c5_5
  · exact F.c5_6
  · exact F.c5_7
  · exact F.c5_8
  · exact F.c5_9
  · exact F.c5_10
  · exact F.c5_11
  · exact F.c5_12
  · exact F.c5_13
  · exact F.c5_14
  · exact F.c5_15
  · exact F.c5_16
  · exact F.c5_17
  · exact F.c5_18
  · exact F.c5_19
  · exact F.c5_20
  · exact F.c5_21
  · exact F.c5_22
  · exact F.c5_23
  · exact F.c5_24
  · exact F.c5_25
  · exact F.c5_26
  · exact F.c5_27
/-- comparing longs -/
theorem lc_e {a b : Int} (h : a = b) : (if a < b then (-1 : Int) else if a = b then 0 else 1) = 0 := by
  rw [if_neg (by omega), if_pos h]
theorem lc_n {a b : Int} (h : ¬ a = b) : (if a < b then (-1 : Int) else if a = b then 0 else 1) ≠ 0 := by
  by_cases z : a < b
  · rw [if_pos z]
    omega
  · rw [if_neg z, if_neg h]
    omega
