/-! THE PURE PART: curves of the class: finite facts -/
def alc (x y w h : Int) : Nat → Int → Int → Int → Int
  | 0, n, _, _ => n
  | f + 1, n, nx, bit =>
    alc x y w h f (if bit < h then (if band y bit = 0 then w32 ((if bit < w then (if band x bit = 0 then w32 (n + 0) else w32 (n + nx)) else n) + 0) else w32 ((if bit < w then (if band x bit = 0 then w32 (n + 0) else w32 (n + nx)) else n) + (if bit < w then w32 (nx * 2) else nx))) else (if bit < w then (if band x bit = 0 then w32 (n + 0) else w32 (n + nx)) else n))
      (if bit < h then w32 ((if bit < w then w32 (nx * 2) else nx) * 2) else (if bit < w then w32 (nx * 2) else nx)) (w32 (bit * 2))
theorem c_curve_s (x y w h' n nx bit : Int) (h : Hq) (hb : bit < 16) : vp 90 9 [(0, x), (0, y), (0, w), (0, h'), (0, n), (0, nx), (0, bit)] [] h = vp 90 9 [(0, x), (0, y), (0, w), (0, h'), (0, if bit < h' then (if band y bit = 0 then w32 ((if bit < w then (if band x bit = 0 then w32 (n + 0) else w32 (n + nx)) else n) + 0) else w32 ((if bit < w then (if band x bit = 0 then w32 (n + 0) else w32 (n + nx)) else n) + (if bit < w then w32 (nx * 2) else nx))) else (if bit < w then (if band x bit = 0 then w32 (n + 0) else w32 (n + nx)) else n)), (0, if bit < h' then w32 ((if bit < w then w32 (nx * 2) else nx) * 2) else (if bit < w then w32 (nx * 2) else nx)), (0, w32 (bit * 2))] [] h := by
  rw [e_X10_alongCurve_9, if_neg (by omega)]
  by_cases hw : bit < w
  · simp only [if_pos hw]
    rw [if_neg (by omega)]
    by_cases hx : band x bit = 0
    · simp only [if_pos hx]
      rw [e_X10_alongCurve_46]
      by_cases hh : bit < h'
      · simp only [if_pos hh]
        rw [if_neg (by omega)]
        by_cases hy : band y bit = 0
        · simp only [if_pos hy]
        · simp only [if_neg hy]
      · simp only [if_neg hh]
        rw [if_pos (by omega)]
    · simp only [if_neg hx]
      rw [e_X10_alongCurve_46]
      by_cases hh : bit < h'
      · simp only [if_pos hh]
        rw [if_neg (by omega)]
        by_cases hy : band y bit = 0
        · simp only [if_pos hy]
        · simp only [if_neg hy]
      · simp only [if_neg hh]
        rw [if_pos (by omega)]
  · simp only [if_neg hw]
    rw [if_pos (by omega), e_X10_alongCurve_46]
    by_cases hh : bit < h'
    · simp only [if_pos hh]
      rw [if_neg (by omega)]
      by_cases hy : band y bit = 0
      · simp only [if_pos hy]
      · simp only [if_neg hy]
    · simp only [if_neg hh]
      rw [if_pos (by omega)]
theorem c_curve (x y w h' : Int) (h : Hq) : vm 90 [(0, x), (0, y), (0, w), (0, h')] h = some (some (0, alc x y w h' 4 0 1 1), h) := by
  rw [e_X10_alongCurve, c_curve_s _ _ _ _ _ _ _ _ (by decide), c_curve_s _ _ _ _ _ _ _ _ (by decide), c_curve_s _ _ _ _ _ _ _ _ (by decide), c_curve_s _ _ _ _ _ _ _ _ (by decide), e_X10_alongCurve_9, if_pos (by decide)]
  rfl
def toc (p w h : Int) : Nat → Int → Int → Int → Int → Int
  | 0, x, y, _, _ => w32 (w32 (y * w) + x)
  | f + 1, x, y, nx, bit =>
    toc p w h f (if bit < w then (if band p nx = 0 then w32 (x + 0) else w32 (x + bit)) else x) (if bit < h then (if band p (if bit < w then w32 (nx * 2) else nx) = 0 then w32 (y + 0) else w32 (y + bit)) else y)
      (if bit < h then w32 ((if bit < w then w32 (nx * 2) else nx) * 2) else (if bit < w then w32 (nx * 2) else nx)) (w32 (bit * 2))
theorem c_onCurve_s (p w h' x y nx bit : Int) (h : Hq) (hb : bit < 16) : vp 93 11 [(0, p), (0, w), (0, h'), (0, x), (0, y), (0, nx), (0, bit)] [] h = vp 93 11 [(0, p), (0, w), (0, h'), (0, if bit < w then (if band p nx = 0 then w32 (x + 0) else w32 (x + bit)) else x), (0, if bit < h' then (if band p (if bit < w then w32 (nx * 2) else nx) = 0 then w32 (y + 0) else w32 (y + bit)) else y), (0, if bit < h' then w32 ((if bit < w then w32 (nx * 2) else nx) * 2) else (if bit < w then w32 (nx * 2) else nx)), (0, w32 (bit * 2))] [] h := by
  rw [e_X10_texelOnCurve_11, if_neg (by omega)]
  by_cases hw : bit < w
  · simp only [if_pos hw]
    rw [if_neg (by omega)]
    by_cases hx : band p nx = 0
    · simp only [if_pos hx]
      rw [e_X10_texelOnCurve_46]
      by_cases hh : bit < h'
      · simp only [if_pos hh]
        rw [if_neg (by omega)]
        by_cases hy : band p (w32 (nx * 2)) = 0
        · simp only [if_pos hy]
        · simp only [if_neg hy]
      · simp only [if_neg hh]
        rw [if_pos (by omega)]
    · simp only [if_neg hx]
      rw [e_X10_texelOnCurve_46]
      by_cases hh : bit < h'
      · simp only [if_pos hh]
        rw [if_neg (by omega)]
        by_cases hy : band p (w32 (nx * 2)) = 0
        · simp only [if_pos hy]
        · simp only [if_neg hy]
      · simp only [if_neg hh]
        rw [if_pos (by omega)]
  · simp only [if_neg hw]
    rw [if_pos (by omega), e_X10_texelOnCurve_46]
    by_cases hh : bit < h'
    · simp only [if_pos hh]
      rw [if_neg (by omega)]
      by_cases hy : band p nx = 0
      · simp only [if_pos hy]
      · simp only [if_neg hy]
    · simp only [if_neg hh]
      rw [if_pos (by omega)]
theorem c_onCurve (p w h' : Int) (h : Hq) : vm 93 [(0, p), (0, w), (0, h')] h = some (some (0, toc p w h' 4 0 0 1 1), h) := by
  rw [e_X10_texelOnCurve, c_onCurve_s _ _ _ _ _ _ _ _ (by decide), c_onCurve_s _ _ _ _ _ _ _ _ (by decide), c_onCurve_s _ _ _ _ _ _ _ _ (by decide), c_onCurve_s _ _ _ _ _ _ _ _ (by decide), e_X10_texelOnCurve_11, if_pos (by decide)]
  rfl
/-- the texel so many places behind the first -/
def tbd (o w h p : Int) : Int := if o = 1 ∧ 4 ≤ w ∧ 4 ≤ h then (p / 16 / (w / 4) * 4 + p % 16 / 4) * w + (p / 16 % (w / 4) * 4 + p % 4) else if o = 2 then toc p w h 4 0 0 1 1 else p
def al_ok (w h : Nat) : Bool := (List.range w).all (fun x => (List.range h).all (fun y => decide (alc x y w h 4 0 1 1 = crv x y w h 4 0 0 0)))
def in_ok (o w h : Nat) : Bool := (List.range w).all (fun x => (List.range h).all (fun y => decide (tbd o w h (bhd o w h x y) = (y : Int) * w + x)))
def out_ok (o w h : Nat) : Bool := (List.range (w * h)).all (fun p => decide ((0 ≤ tbd o w h p ∧ tbd o w h p < (w : Int) * h) ∧ bhd o w h (tbd o w h p % w) (tbd o w h p / w) = (p : Int)))
set_option maxRecDepth 100000 in
theorem al_all : sz5.all (fun w => sz5.all (fun h => al_ok w h)) = true := by decide +kernel
set_option maxRecDepth 100000 in
theorem in_all0 : sz5.all (fun w => sz5.all (fun h => in_ok 0 w h)) = true := by decide +kernel
set_option maxRecDepth 100000 in
theorem in_all1 : sz5.all (fun w => sz5.all (fun h => in_ok 1 w h)) = true := by decide +kernel
set_option maxRecDepth 100000 in
theorem in_all2 : sz5.all (fun w => sz5.all (fun h => in_ok 2 w h)) = true := by decide +kernel
set_option maxRecDepth 100000 in
theorem out_all0 : sz5.all (fun w => sz5.all (fun h => out_ok 0 w h)) = true := by decide +kernel
set_option maxRecDepth 100000 in
theorem out_all1 : sz5.all (fun w => sz5.all (fun h => out_ok 1 w h)) = true := by decide +kernel
set_option maxRecDepth 100000 in
theorem out_all2 : sz5.all (fun w => sz5.all (fun h => out_ok 2 w h)) = true := by decide +kernel
/-- a side's length -/
def SZ (w : Int) : Prop := ∃ a ∈ sz5, w = (a : Int)
theorem alc_crv {w h x y : Int} (hw : SZ w) (hh : SZ h) (x0 : 0 ≤ x) (x1 : x < w) (y0 : 0 ≤ y) (y1 : y < h) : alc x y w h 4 0 1 1 = crv x y w h 4 0 0 0 := by
  obtain ⟨a, ha, rfl⟩ := hw
  obtain ⟨b, hb, rfl⟩ := hh
  have h1 := List.all_eq_true.mp (List.all_eq_true.mp al_all a ha) b hb
  have h2 := List.all_eq_true.mp h1 x.toNat (List.mem_range.mpr (by omega))
  have h3 := List.all_eq_true.mp h2 y.toNat (List.mem_range.mpr (by omega))
  have h4 := of_decide_eq_true h3
  rw [Int.toNat_of_nonneg x0, Int.toNat_of_nonneg y0] at h4
  exact h4
theorem tbd_in {o w h x y : Int} (ho : 0 ≤ o ∧ o ≤ 2) (hw : SZ w) (hh : SZ h) (x0 : 0 ≤ x) (x1 : x < w) (y0 : 0 ≤ y) (y1 : y < h) : tbd o w h (bhd o w h x y) = y * w + x := by
  obtain ⟨a, ha, rfl⟩ := hw
  obtain ⟨b, hb, rfl⟩ := hh
  have key : ∀ q : Nat, sz5.all (fun w => sz5.all (fun h => in_ok q w h)) = true → tbd q a b (bhd q a b x y) = y * a + x := fun q hq => by
    have h1 := List.all_eq_true.mp (List.all_eq_true.mp hq a ha) b hb
    have h2 := List.all_eq_true.mp h1 x.toNat (List.mem_range.mpr (by omega))
    have h3 := List.all_eq_true.mp h2 y.toNat (List.mem_range.mpr (by omega))
    have h4 := of_decide_eq_true h3
    rw [Int.toNat_of_nonneg x0, Int.toNat_of_nonneg y0] at h4
    exact h4
  rcases (show o = 0 ∨ o = 1 ∨ o = 2 by omega) with rfl | rfl | rfl
  · exact key 0 in_all0
  · exact key 1 in_all1
  · exact key 2 in_all2
theorem tbd_out {o w h p : Int} (ho : 0 ≤ o ∧ o ≤ 2) (hw : SZ w) (hh : SZ h) (p0 : 0 ≤ p) (p1 : p < w * h) : (0 ≤ tbd o w h p ∧ tbd o w h p < w * h) ∧ bhd o w h (tbd o w h p % w) (tbd o w h p / w) = p := by
  obtain ⟨a, ha, rfl⟩ := hw
  obtain ⟨b, hb, rfl⟩ := hh
  have key : ∀ q : Nat, sz5.all (fun w => sz5.all (fun h => out_ok q w h)) = true → (0 ≤ tbd q a b p ∧ tbd q a b p < (a : Int) * b) ∧ bhd q a b (tbd q a b p % a) (tbd q a b p / a) = p := fun q hq => by
    have h1 := List.all_eq_true.mp (List.all_eq_true.mp hq a ha) b hb
    have h2 := List.all_eq_true.mp h1 p.toNat (List.mem_range.mpr (by rw [Int.toNat_lt p0, Int.natCast_mul]; exact p1))
    have h4 := of_decide_eq_true h2
    rw [Int.toNat_of_nonneg p0] at h4
    exact h4
  rcases (show o = 0 ∨ o = 1 ∨ o = 2 by omega) with rfl | rfl | rfl
  · exact key 0 out_all0
  · exact key 1 out_all1
  · exact key 2 out_all2
