/-! THE PURE PART: tools -/
theorem stm_ap (m : Mm) (a i v o k : Int) : stm m a i v o k = if o = a ∧ k = i then v else m o k := rfl
theorem vx_some (t : Nat) (x : Int) (h : Hq) : vx (some (t, x), h) = x := (Eq.refl x).trans (Eq.refl x)
theorem kd_1 : kd 1 = (11, 12) := rfl
theorem kd_2 : kd 2 = (21, 900) := rfl
theorem kd_3 : kd 3 = (9, 6) := rfl
theorem kd_4 : kd 4 = (3, 10) := rfl
theorem kd_5 : kd 5 = (23, 28) := rfl
theorem kd_6 : kd 6 = (7, 6) := rfl
theorem kd_7 : kd 7 = (24, 6) := rfl
theorem kd_8 : kd 8 = (20, 400) := rfl
theorem kd_9 : kd 9 = (20, 400) := rfl
theorem kd_10 : kd 10 = (20, 400) := rfl
theorem kd_11 : kd 11 = (20, 400) := rfl
theorem kd_12 : kd 12 = (20, 400) := rfl
theorem kd_13 : kd 13 = (20, 400) := rfl
theorem kd_14 : kd 14 = (20, 6) := rfl
theorem kd_15 : kd 15 = (20, 6) := rfl
theorem kd_16 : kd 16 = (24, 12) := rfl
theorem kd_17 : kd 17 = (20, 400) := rfl
theorem kd_18 : kd 18 = (20, 400) := rfl
theorem kd_19 : kd 19 = (20, 400) := rfl
theorem kd_20 : kd 20 = (20, 400) := rfl
theorem kd_21 : kd 21 = (20, 400) := rfl
theorem kd_22 : kd 22 = (20, 400) := rfl
theorem kd_23 : kd 23 = (20, 400) := rfl
theorem kd_24 : kd 24 = (20, 400) := rfl
theorem kd_25 : kd 25 = (20, 400) := rfl
theorem kd_26 : kd 26 = (20, 400) := rfl
theorem kd_27 : kd 27 = (20, 400) := rfl
theorem kd_28 : kd 28 = (20, 400) := rfl
theorem kd_29 : kd 29 = (22, 2) := rfl
theorem kd_30 : kd 30 = (5, 12) := rfl
theorem kd_31 : kd 31 = (23, 6) := rfl
theorem kd_32 : kd 32 = (20, 6) := rfl
theorem kd_33 : kd 33 = (20, 6) := rfl
theorem kd_34 : kd 34 = (25, 4) := rfl
theorem kd_35 : kd 35 = (20, 300) := rfl
theorem kd_36 : kd 36 = (10, 12) := rfl
theorem kd_37 : kd 37 = (20, 6) := rfl
theorem kd_38 : kd 38 = (20, 5) := rfl
theorem kd_39 : kd 39 = (20, 5) := rfl
theorem kd_40 : kd 40 = (10, 12) := rfl
theorem kd_41 : kd 41 = (20, 6) := rfl
theorem kd_42 : kd 42 = (20, 5) := rfl
theorem kd_43 : kd 43 = (20, 5) := rfl
theorem kd_44 : kd 44 = (10, 12) := rfl
theorem kd_45 : kd 45 = (20, 6) := rfl
theorem kd_46 : kd 46 = (20, 5) := rfl
theorem kd_47 : kd 47 = (20, 5) := rfl
theorem kd_48 : kd 48 = (10, 12) := rfl
theorem kd_49 : kd 49 = (20, 6) := rfl
theorem kd_50 : kd 50 = (20, 5) := rfl
theorem kd_51 : kd 51 = (20, 5) := rfl
theorem kd_52 : kd 52 = (5, 12) := rfl
theorem kd_53 : kd 53 = (23, 6) := rfl
theorem kd_54 : kd 54 = (20, 6) := rfl
theorem kd_55 : kd 55 = (20, 6) := rfl
theorem kd_56 : kd 56 = (25, 4) := rfl
theorem kd_57 : kd 57 = (20, 300) := rfl
theorem kd_58 : kd 58 = (10, 12) := rfl
theorem kd_59 : kd 59 = (20, 6) := rfl
theorem kd_60 : kd 60 = (20, 5) := rfl
theorem kd_61 : kd 61 = (20, 5) := rfl
theorem kd_62 : kd 62 = (10, 12) := rfl
theorem kd_63 : kd 63 = (20, 6) := rfl
theorem kd_64 : kd 64 = (20, 5) := rfl
theorem kd_65 : kd 65 = (20, 5) := rfl
theorem kd_66 : kd 66 = (10, 12) := rfl
theorem kd_67 : kd 67 = (20, 6) := rfl
theorem kd_68 : kd 68 = (20, 5) := rfl
theorem kd_69 : kd 69 = (20, 5) := rfl
theorem kd_70 : kd 70 = (10, 12) := rfl
theorem kd_71 : kd 71 = (20, 6) := rfl
theorem kd_72 : kd 72 = (20, 5) := rfl
theorem kd_73 : kd 73 = (20, 5) := rfl
theorem kd_74 : kd 74 = (0, 4) := rfl
theorem kd_75 : kd 75 = (24, 21) := rfl
theorem kd_76 : kd 76 = (20, 21) := rfl
theorem kd_77 : kd 77 = (1, 7) := rfl
theorem kd_78 : kd 78 = (20, 32) := rfl
theorem kd_79 : kd 79 = (20, 32) := rfl
theorem kd_80 : kd 80 = (1, 7) := rfl
theorem kd_81 : kd 81 = (20, 32) := rfl
theorem kd_82 : kd 82 = (20, 32) := rfl
theorem kd_83 : kd 83 = (8, 3) := rfl
theorem kd_84 : kd 84 = (20, 2400) := rfl
theorem kd_85 : kd 85 = (2, 6) := rfl
theorem kd_86 : kd 86 = (4, 1) := rfl
theorem kd_87 : kd 87 = (20, 16) := rfl
theorem kd_88 : kd 88 = (12, 40) := rfl
theorem kd_89 : kd 89 = (20, 900) := rfl
theorem kd_90 : kd 90 = (20, 10) := rfl
theorem kd_91 : kd 91 = (23, 12) := rfl
theorem kd_92 : kd 92 = (23, 8) := rfl
theorem kd_93 : kd 93 = (20, 12) := rfl
theorem kd_94 : kd 94 = (20, 12) := rfl
theorem kd_95 : kd 95 = (20, 56) := rfl
theorem kd_96 : kd 96 = (20, 320) := rfl
theorem kd_97 : kd 97 = (20, 2400) := rfl
theorem kd_98 : kd 98 = (20, 2400) := rfl
theorem kd_99 : kd 99 = (20, 48000) := rfl
theorem kd_100 : kd 100 = (20, 48000) := rfl
theorem kd_101 : kd 101 = (20, 2400) := rfl
theorem kd_102 : kd 102 = (20, 2400) := rfl
theorem kd_103 : kd 103 = (20, 64) := rfl
theorem kd_104 : kd 104 = (20, 64) := rfl
theorem kd_105 : kd 105 = (20, 2400) := rfl
theorem kd_106 : kd 106 = (20, 4800) := rfl
theorem kd_107 : kd 107 = (20, 4800) := rfl
theorem kd_108 : kd 108 = (22, 2) := rfl
/-- small helpers, the model's -/
theorem p_isIn (v a b : Int) (h : Hq) : vm 165 [(0, v), (0, a), (0, b)] h = some (some (0, if a ≤ v ∧ v ≤ b then 1 else 0), h) := by
  rw [e_X12_isIn]
  by_cases h1 : v < a
  · rw [if_pos h1, if_neg (by omega)]
  · by_cases h2 : v > b
    · rw [if_neg h1, if_pos h2, if_neg (by omega)]
    · rw [if_neg h1, if_neg h2, if_pos (by omega)]
theorem p_greater (a b : Int) (h : Hq) : vm 166 [(0, a), (0, b)] h = some (some (0, max a b), h) := by
  rw [e_X12_greater]
  by_cases h1 : a ≤ b
  · rw [if_pos h1, Int.max_eq_right h1]
  · rw [if_neg h1, Int.max_eq_left (by omega)]
theorem p_lesser (a b : Int) (h : Hq) : vm 167 [(0, a), (0, b)] h = some (some (0, min a b), h) := by
  rw [e_X12_lesser]
  by_cases h1 : a ≥ b
  · rw [if_pos h1, Int.min_eq_right h1]
  · rw [if_neg h1, Int.min_eq_left (by omega)]
theorem p_truth (a : Int) (h : Hq) : vm 168 [(0, a)] h = some (some (0, if a = 0 then 0 else 1), h) := by
  rw [e_X12_truth]
  split <;> rfl
theorem w32_i {x : Int} (h0 : -2147483648 ≤ x) (h1 : x < 2147483648) : w32 x = x := by unfold w32; omega
theorem p_plus (a : Int) (h : Hq) (h0 : -2147483648 < a) (h1 : a < 2147483648) : vm 169 [(0, a)] h = some (some (0, (a.natAbs : Int)), h) := by
  rw [e_X12_plus]
  by_cases h2 : a ≥ 0
  · rw [if_pos h2, show ((a.natAbs : Nat) : Int) = a by omega]
  · rw [if_neg h2, w32_i (by omega) (by omega), show ((a.natAbs : Nat) : Int) = -a by omega]
theorem p_abs (a : Int) (h : Hq) (h0 : -2147483648 < a) (h1 : a < 2147483648) : vm 312 [(0, a)] h = some (some (0, (a.natAbs : Int)), h) := by
  rw [e_J9_abs_0f7a4]
  by_cases h2 : a ≥ 0
  · rw [if_pos h2, show ((a.natAbs : Nat) : Int) = a by omega]
  · rw [if_neg h2, w32_i (by omega) (by omega), show ((a.natAbs : Nat) : Int) = -a by omega]
theorem p_max (a b : Int) (h : Hq) : vm 313 [(0, a), (0, b)] h = some (some (0, max a b), h) := by
  rw [e_J9_max_7cf53]
  by_cases h1 : a < b
  · rw [if_pos h1, Int.max_eq_right (by omega)]
  · rw [if_neg h1, Int.max_eq_left (by omega)]
theorem p_min (a b : Int) (h : Hq) : vm 314 [(0, a), (0, b)] h = some (some (0, min a b), h) := by
  rw [e_J9_min_7cf53]
  by_cases h1 : a > b
  · rw [if_pos h1, Int.min_eq_right (by omega)]
  · rw [if_neg h1, Int.min_eq_left (by omega)]
/-- rounded down -/
theorem p_down (v by_ : Int) (h : Hq) (h0 : -1000000000 ≤ v) (h1 : v ≤ 1000000000) (hb : 0 < by_) (hb2 : by_ ≤ 1000000) : vm 170 [(0, v), (0, by_)] h = some (some (0, v / by_), h) := by
  rw [e_X12_down]
  by_cases h2 : v < 0
  · rw [if_pos h2, if_pos (by omega), w32_i (x := by_ - 1) (by omega) (by omega), w32_i (x := by_ - 1 - v) (by omega) (by omega)]
    have e : (by_ - 1 - v).tdiv by_ = -(v / by_) := by
      rw [Int.tdiv_eq_ediv_of_nonneg (by omega)]
      have a1 := Int.mul_ediv_add_emod v by_
      have a2 := Int.emod_nonneg v (show by_ ≠ 0 by omega)
      have a3 := Int.emod_lt_of_pos v hb
      rw [show by_ - 1 - v = (by_ - 1 - v % by_) + by_ * (-(v / by_)) by rw [Int.mul_neg]; omega, Int.add_mul_ediv_left _ _ (by omega), Int.ediv_eq_zero_of_lt (by omega) (by omega)]
      omega
    rw [e]
    have b1 : -1000000000 ≤ v / by_ := by
      have := Int.ediv_le_ediv hb (show -1000000000 * 1 ≤ v by omega)
      have b2 : v ≤ v / by_ := by
        rw [Int.le_ediv_iff_mul_le hb]
        have : v * by_ ≤ v * 1 := Int.mul_le_mul_of_nonpos_left (by omega) (by omega)
        omega
      omega
    have b2 : v / by_ < 0 := Int.ediv_neg_of_neg_of_pos h2 hb
    rw [w32_i (x := -(v / by_)) (by omega) (by omega), w32_i (by omega) (by omega), Int.neg_neg]
  · have b1 : 0 ≤ v / by_ := Int.ediv_nonneg (by omega) (by omega)
    have b2 : v / by_ ≤ v := Int.ediv_le_self _ (by omega)
    rw [if_neg h2, if_pos (by omega), Int.tdiv_eq_ediv_of_nonneg (by omega), w32_i (by omega) (by omega)]
theorem p_up (v by_ : Int) (h : Hq) (h0 : 0 ≤ v) (h1 : v ≤ 1000000000) (hb : 0 < by_) (hb2 : by_ ≤ 1000000) : vm 171 [(0, v), (0, by_)] h = some (some (0, (v + by_ - 1) / by_), h) := by
  have b1 : 0 ≤ (v + by_ - 1) / by_ := Int.ediv_nonneg (by omega) (by omega)
  have b2 : (v + by_ - 1) / by_ ≤ v + by_ - 1 := Int.ediv_le_self _ (by omega)
  rw [e_X12_up, if_pos (by omega), w32_i (x := v + by_) (by omega) (by omega), w32_i (x := v + by_ - 1) (by omega) (by omega), Int.tdiv_eq_ediv_of_nonneg (by omega), w32_i (by omega) (by omega)]
theorem p_rest (v by_ : Int) (h : Hq) (h0 : -1000000000 ≤ v) (h1 : v ≤ 1000000000) (hb : 0 < by_) (hb2 : by_ ≤ 1000000) : vm 262 [(0, v), (0, by_)] h = some (some (0, v % by_), h) := by
  rw [e_X12_rest, p_down v by_ h h0 h1 hb hb2]
  have a1 := Int.mul_ediv_add_emod v by_
  have a2 := Int.emod_nonneg v (show by_ ≠ 0 by omega)
  have a3 := Int.emod_lt_of_pos v hb
  show some (some (0, w32 (v - w32 (by_ * (v / by_)))), h) = _
  have a4 : v - by_ * (v / by_) = v % by_ := by omega
  have b1 : -1000000000 ≤ by_ * (v / by_) - 0 ∨ by_ * (v / by_) < 0 := by omega
  rw [w32_i (x := by_ * (v / by_)) (by omega) (by omega), a4, w32_i (by omega) (by omega)]
theorem p_within (v most : Int) (h : Hq) (h0 : 0 ≤ most) (h1 : most ≤ 1000000000) : vm 117 [(0, v), (0, most)] h = some (some (0, if -most ≤ v ∧ v ≤ most then 1 else 0), h) := by
  rw [e_X11_within, w32_i (by omega) (by omega)]
  by_cases h1 : v < -most
  · rw [if_pos h1, if_neg (by omega)]
  · by_cases h2 : v > most
    · rw [if_neg h1, if_pos h2, if_neg (by omega)]
    · rw [if_neg h1, if_neg h2, if_pos (by omega)]
