/-! THE PURE PART: the rows of steps -/
theorem bnd {o : Option Rs} {r : Rs} {fF : Rs → Option Rs} (h : o = some r) : o.bind fF = fF r := by rw [h, Option.bind_some]
theorem le_T {a b : Int} (h : a ≤ b) : (a ≤ b) = True := eq_true h
theorem le_F {a b : Int} (h : ¬ a ≤ b) : (a ≤ b) = False := eq_false h
theorem lt_T {a b : Int} (h : a < b) : (a < b) = True := eq_true h
theorem lt_F {a b : Int} (h : ¬ a < b) : (a < b) = False := eq_false h
theorem ge_T {a b : Int} (h : a ≥ b) : (a ≥ b) = True := eq_true h
theorem ge_F {a b : Int} (h : ¬ a ≥ b) : (a ≥ b) = False := eq_false h
theorem gt_T {a b : Int} (h : a > b) : (a > b) = True := eq_true h
theorem gt_F {a b : Int} (h : ¬ a > b) : (a > b) = False := eq_false h
theorem eq_T {a b : Int} (h : a = b) : (a = b) = True := eq_true h
theorem eq_F {a b : Int} (h : ¬ a = b) : (a = b) = False := eq_false h
