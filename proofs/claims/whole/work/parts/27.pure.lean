/-! THE PURE PART: where texels lie: all sizes at once -/
def sz5 : List Nat := [1, 2, 4, 8, 16]
def bndOk (o w h : Nat) : Bool := (List.range w).all (fun x => (List.range h).all (fun y => let p := bhd (o : Int) (w : Int) (h : Int) (x : Int) (y : Int); decide (0 ≤ p ∧ p < (w : Int) * h)))
set_option maxRecDepth 100000 in
theorem bnd_ok0 : sz5.all (fun w => sz5.all (fun h => bndOk 0 w h)) = true := by decide +kernel
set_option maxRecDepth 100000 in
theorem bnd_ok1 : sz5.all (fun w => sz5.all (fun h => bndOk 1 w h)) = true := by decide +kernel
set_option maxRecDepth 100000 in
theorem bnd_ok2 : sz5.all (fun w => sz5.all (fun h => bndOk 2 w h)) = true := by decide +kernel
theorem bhd_rng {o w h x y : Int} (ho : 0 ≤ o ∧ o ≤ 2) (hw : ∃ a ∈ sz5, w = (a : Int)) (hh : ∃ a ∈ sz5, h = (a : Int)) (x0 : 0 ≤ x) (x1 : x < w) (y0 : 0 ≤ y) (y1 : y < h) : 0 ≤ bhd o w h x y ∧ bhd o w h x y < w * h := by
  obtain ⟨a, ha, rfl⟩ := hw
  obtain ⟨b, hb, rfl⟩ := hh
  have key : ∀ q : Nat, sz5.all (fun w => sz5.all (fun h => bndOk q w h)) = true → 0 ≤ bhd q a b x y ∧ bhd q a b x y < (a : Int) * b := fun q hq => by
    have h1 := List.all_eq_true.mp (List.all_eq_true.mp hq a ha) b hb
    have h2 := List.all_eq_true.mp h1 x.toNat (List.mem_range.mpr (by omega))
    have h3 := List.all_eq_true.mp h2 y.toNat (List.mem_range.mpr (by omega))
    have h4 := of_decide_eq_true h3
    rw [Int.toNat_of_nonneg x0, Int.toNat_of_nonneg y0] at h4
    exact h4
  rcases (show o = 0 ∨ o = 1 ∨ o = 2 by omega) with rfl | rfl | rfl
  · exact key 0 bnd_ok0
  · exact key 1 bnd_ok1
  · exact key 2 bnd_ok2
