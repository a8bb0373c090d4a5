theorem law_sp {P : Option Rs → Prop} {c : Prop} [Decidable c] {a b : Option Rs} (ha : P a) (hb : P b) : P (if c then a else b) := by
  by_cases q : c
  · rw [if_pos q]
    exact ha
  · rw [if_neg q]
    exact hb
/-- what a block of the law comes to -/
def BLK (i x3 : Int) (h : Hq) (X : Option Rs) : Prop := ∃ h' : Hq, h'.2 (-1) = h.2 (-1) ∧ INV (i + 1) h' ∧ X = vp 323 2128 [(2, -1), (2, 1), (2, 88), (0, x3)] [] h'
/-- the ints of a call lie in the script -/
def INS (x3 : Int) (h : Hq) : Prop := ∀ k : Int, 1 ≤ k → k ≤ 7 → ((-1 : Int) = -1 ∧ 0 ≤ w32 (x3 + k) ∧ w32 (x3 + k) < h.2 (-1) (-1))
section
variable {i x3 : Int} {h : Hq}
theorem law_b232 (O : OKC i 104 172 [(0, h.2 (-1) (w32 (x3 + 1))), (0, h.2 (-1) (w32 (x3 + 2))), (0, h.2 (-1) (w32 (x3 + 3))), (0, h.2 (-1) (w32 (x3 + 4))), (0, h.2 (-1) (w32 (x3 + 5)))] h) (g : INS x3 h) : BLK i x3 h (vp 323 232 [(2, -1), (2, 1), (2, 88), (0, x3)] [] h) := by
  obtain ⟨⟨vt, v⟩, h1, h2, r1, r2, k1, k2, I⟩ := O
  refine ⟨h2, k2, I, ?_⟩
  have g1 : INS x3 h1 := fun k a b => by rw [k1]; exact g k a b
  rw [← k1] at r2
  refine Eq.trans (e_L_law_232 _ _ _ _ _) ?_
  refine Eq.trans (if_pos (g 1 (by decide) (by decide))) ?_
  refine Eq.trans (if_pos (g 2 (by decide) (by decide))) ?_
  refine Eq.trans (if_pos (g 3 (by decide) (by decide))) ?_
  refine Eq.trans (if_pos (g 4 (by decide) (by decide))) ?_
  refine Eq.trans (if_pos (g 5 (by decide) (by decide))) ?_
  refine Eq.trans (if_pos (show (0 : Int) < 1 ∧ (kd 1).1 = 11 from ⟨by decide, by decide⟩)) ?_
  refine Eq.trans (bnd r1) ?_
  refine Eq.trans (if_pos (g1 1 (by decide) (by decide))) ?_
  refine Eq.trans (if_pos (g1 2 (by decide) (by decide))) ?_
  refine Eq.trans (if_pos (g1 3 (by decide) (by decide))) ?_
  refine Eq.trans (if_pos (g1 4 (by decide) (by decide))) ?_
  refine Eq.trans (if_pos (g1 5 (by decide) (by decide))) ?_
  refine Eq.trans (if_pos (show (0 : Int) < 88 ∧ (kd 88).1 = 12 from ⟨by decide, by decide⟩)) ?_
  refine Eq.trans (bnd r2) ?_
  exact if_pos rfl
theorem law_b295 (O : OKC i 106 174 [(0, h.2 (-1) (w32 (x3 + 1)))] h) (g : INS x3 h) : BLK i x3 h (vp 323 295 [(2, -1), (2, 1), (2, 88), (0, x3)] [] h) := by
  obtain ⟨⟨vt, v⟩, h1, h2, r1, r2, k1, k2, I⟩ := O
  refine ⟨h2, k2, I, ?_⟩
  have g1 : INS x3 h1 := fun k a b => by rw [k1]; exact g k a b
  rw [← k1] at r2
  refine Eq.trans (e_L_law_295 _ _ _ _ _) ?_
  refine Eq.trans (if_pos (g 1 (by decide) (by decide))) ?_
  refine Eq.trans (if_pos (show (0 : Int) < 1 ∧ (kd 1).1 = 11 from ⟨by decide, by decide⟩)) ?_
  refine Eq.trans (bnd r1) ?_
  refine Eq.trans (if_pos (g1 1 (by decide) (by decide))) ?_
  refine Eq.trans (if_pos (show (0 : Int) < 88 ∧ (kd 88).1 = 12 from ⟨by decide, by decide⟩)) ?_
  refine Eq.trans (bnd r2) ?_
  exact if_pos rfl
theorem law_b318 (O : OKC i 107 205 [] h) (g : INS x3 h) : BLK i x3 h (vp 323 318 [(2, -1), (2, 1), (2, 88), (0, x3)] [] h) := by
  obtain ⟨⟨vt, v⟩, h1, h2, r1, r2, k1, k2, I⟩ := O
  refine ⟨h2, k2, I, ?_⟩
  have g1 : INS x3 h1 := fun k a b => by rw [k1]; exact g k a b
  refine Eq.trans (e_L_law_318 _ _ _ _ _) ?_
  refine Eq.trans (if_pos (show (0 : Int) < 1 ∧ (kd 1).1 = 11 from ⟨by decide, by decide⟩)) ?_
  refine Eq.trans (bnd r1) ?_
  refine Eq.trans (if_pos (show (0 : Int) < 88 ∧ (kd 88).1 = 12 from ⟨by decide, by decide⟩)) ?_
  refine Eq.trans (bnd r2) ?_
  exact if_pos rfl
theorem law_b331 (O : OKC i 109 206 [(0, h.2 (-1) (w32 (x3 + 1)))] h) (g : INS x3 h) : BLK i x3 h (vp 323 331 [(2, -1), (2, 1), (2, 88), (0, x3)] [] h) := by
  obtain ⟨⟨vt, v⟩, h1, h2, r1, r2, k1, k2, I⟩ := O
  refine ⟨h2, k2, I, ?_⟩
  have g1 : INS x3 h1 := fun k a b => by rw [k1]; exact g k a b
  rw [← k1] at r2
  refine Eq.trans (e_L_law_331 _ _ _ _ _) ?_
  refine Eq.trans (if_pos (g 1 (by decide) (by decide))) ?_
  refine Eq.trans (if_pos (show (0 : Int) < 1 ∧ (kd 1).1 = 11 from ⟨by decide, by decide⟩)) ?_
  refine Eq.trans (bnd r1) ?_
  refine Eq.trans (if_pos (g1 1 (by decide) (by decide))) ?_
  refine Eq.trans (if_pos (show (0 : Int) < 88 ∧ (kd 88).1 = 12 from ⟨by decide, by decide⟩)) ?_
  refine Eq.trans (bnd r2) ?_
  exact if_pos rfl
theorem law_b354 (O : OKC i 110 215 [(0, h.2 (-1) (w32 (x3 + 1)))] h) (g : INS x3 h) : BLK i x3 h (vp 323 354 [(2, -1), (2, 1), (2, 88), (0, x3)] [] h) := by
  obtain ⟨⟨vt, v⟩, h1, h2, r1, r2, k1, k2, I⟩ := O
  refine ⟨h2, k2, I, ?_⟩
  have g1 : INS x3 h1 := fun k a b => by rw [k1]; exact g k a b
  rw [← k1] at r2
  refine Eq.trans (e_L_law_354 _ _ _ _ _) ?_
  refine Eq.trans (if_pos (g 1 (by decide) (by decide))) ?_
  refine Eq.trans (if_pos (show (0 : Int) < 1 ∧ (kd 1).1 = 11 from ⟨by decide, by decide⟩)) ?_
  refine Eq.trans (bnd r1) ?_
  refine Eq.trans (if_pos (g1 1 (by decide) (by decide))) ?_
  refine Eq.trans (if_pos (show (0 : Int) < 88 ∧ (kd 88).1 = 12 from ⟨by decide, by decide⟩)) ?_
  refine Eq.trans (bnd r2) ?_
  exact if_pos rfl
theorem law_b377 (O : OKC i 111 216 [(0, h.2 (-1) (w32 (x3 + 1)))] h) (g : INS x3 h) : BLK i x3 h (vp 323 377 [(2, -1), (2, 1), (2, 88), (0, x3)] [] h) := by
  obtain ⟨⟨vt, v⟩, h1, h2, r1, r2, k1, k2, I⟩ := O
  refine ⟨h2, k2, I, ?_⟩
  have g1 : INS x3 h1 := fun k a b => by rw [k1]; exact g k a b
  rw [← k1] at r2
  refine Eq.trans (e_L_law_377 _ _ _ _ _) ?_
  refine Eq.trans (if_pos (g 1 (by decide) (by decide))) ?_
  refine Eq.trans (if_pos (show (0 : Int) < 1 ∧ (kd 1).1 = 11 from ⟨by decide, by decide⟩)) ?_
  refine Eq.trans (bnd r1) ?_
  refine Eq.trans (if_pos (g1 1 (by decide) (by decide))) ?_
  refine Eq.trans (if_pos (show (0 : Int) < 88 ∧ (kd 88).1 = 12 from ⟨by decide, by decide⟩)) ?_
  refine Eq.trans (bnd r2) ?_
  exact if_pos rfl
theorem law_b400 (O : OKC i 112 217 [(0, h.2 (-1) (w32 (x3 + 1))), (0, h.2 (-1) (w32 (x3 + 2))), (0, h.2 (-1) (w32 (x3 + 3)))] h) (g : INS x3 h) : BLK i x3 h (vp 323 400 [(2, -1), (2, 1), (2, 88), (0, x3)] [] h) := by
  obtain ⟨⟨vt, v⟩, h1, h2, r1, r2, k1, k2, I⟩ := O
  refine ⟨h2, k2, I, ?_⟩
  have g1 : INS x3 h1 := fun k a b => by rw [k1]; exact g k a b
  rw [← k1] at r2
  refine Eq.trans (e_L_law_400 _ _ _ _ _) ?_
  refine Eq.trans (if_pos (g 1 (by decide) (by decide))) ?_
  refine Eq.trans (if_pos (g 2 (by decide) (by decide))) ?_
  refine Eq.trans (if_pos (g 3 (by decide) (by decide))) ?_
  refine Eq.trans (if_pos (show (0 : Int) < 1 ∧ (kd 1).1 = 11 from ⟨by decide, by decide⟩)) ?_
  refine Eq.trans (bnd r1) ?_
  refine Eq.trans (if_pos (g1 1 (by decide) (by decide))) ?_
  refine Eq.trans (if_pos (g1 2 (by decide) (by decide))) ?_
  refine Eq.trans (if_pos (g1 3 (by decide) (by decide))) ?_
  refine Eq.trans (if_pos (show (0 : Int) < 88 ∧ (kd 88).1 = 12 from ⟨by decide, by decide⟩)) ?_
  refine Eq.trans (bnd r2) ?_
  exact if_pos rfl
theorem law_b443 (O : OKC i 113 224 [(0, h.2 (-1) (w32 (x3 + 1))), (0, h.2 (-1) (w32 (x3 + 2))), (0, h.2 (-1) (w32 (x3 + 3))), (0, h.2 (-1) (w32 (x3 + 4)))] h) (g : INS x3 h) : BLK i x3 h (vp 323 443 [(2, -1), (2, 1), (2, 88), (0, x3)] [] h) := by
  obtain ⟨⟨vt, v⟩, h1, h2, r1, r2, k1, k2, I⟩ := O
  refine ⟨h2, k2, I, ?_⟩
  have g1 : INS x3 h1 := fun k a b => by rw [k1]; exact g k a b
  rw [← k1] at r2
  refine Eq.trans (e_L_law_443 _ _ _ _ _) ?_
  refine Eq.trans (if_pos (g 1 (by decide) (by decide))) ?_
  refine Eq.trans (if_pos (g 2 (by decide) (by decide))) ?_
  refine Eq.trans (if_pos (g 3 (by decide) (by decide))) ?_
  refine Eq.trans (if_pos (g 4 (by decide) (by decide))) ?_
  refine Eq.trans (if_pos (show (0 : Int) < 1 ∧ (kd 1).1 = 11 from ⟨by decide, by decide⟩)) ?_
  refine Eq.trans (bnd r1) ?_
  refine Eq.trans (if_pos (g1 1 (by decide) (by decide))) ?_
  refine Eq.trans (if_pos (g1 2 (by decide) (by decide))) ?_
  refine Eq.trans (if_pos (g1 3 (by decide) (by decide))) ?_
  refine Eq.trans (if_pos (g1 4 (by decide) (by decide))) ?_
  refine Eq.trans (if_pos (show (0 : Int) < 88 ∧ (kd 88).1 = 12 from ⟨by decide, by decide⟩)) ?_
  refine Eq.trans (bnd r2) ?_
  exact if_pos rfl
theorem law_b496 (O : OKC i 114 227 [(0, h.2 (-1) (w32 (x3 + 1))), (0, h.2 (-1) (w32 (x3 + 2))), (0, h.2 (-1) (w32 (x3 + 3))), (0, h.2 (-1) (w32 (x3 + 4)))] h) (g : INS x3 h) : BLK i x3 h (vp 323 496 [(2, -1), (2, 1), (2, 88), (0, x3)] [] h) := by
  obtain ⟨⟨vt, v⟩, h1, h2, r1, r2, k1, k2, I⟩ := O
  refine ⟨h2, k2, I, ?_⟩
  have g1 : INS x3 h1 := fun k a b => by rw [k1]; exact g k a b
  rw [← k1] at r2
  refine Eq.trans (e_L_law_496 _ _ _ _ _) ?_
  refine Eq.trans (if_pos (g 1 (by decide) (by decide))) ?_
  refine Eq.trans (if_pos (g 2 (by decide) (by decide))) ?_
  refine Eq.trans (if_pos (g 3 (by decide) (by decide))) ?_
  refine Eq.trans (if_pos (g 4 (by decide) (by decide))) ?_
  refine Eq.trans (if_pos (show (0 : Int) < 1 ∧ (kd 1).1 = 11 from ⟨by decide, by decide⟩)) ?_
  refine Eq.trans (bnd r1) ?_
  refine Eq.trans (if_pos (g1 1 (by decide) (by decide))) ?_
  refine Eq.trans (if_pos (g1 2 (by decide) (by decide))) ?_
  refine Eq.trans (if_pos (g1 3 (by decide) (by decide))) ?_
  refine Eq.trans (if_pos (g1 4 (by decide) (by decide))) ?_
  refine Eq.trans (if_pos (show (0 : Int) < 88 ∧ (kd 88).1 = 12 from ⟨by decide, by decide⟩)) ?_
  refine Eq.trans (bnd r2) ?_
  exact if_pos rfl
theorem law_b549 (O : OKC i 118 229 [(0, h.2 (-1) (w32 (x3 + 1))), (0, h.2 (-1) (w32 (x3 + 2)))] h) (g : INS x3 h) : BLK i x3 h (vp 323 549 [(2, -1), (2, 1), (2, 88), (0, x3)] [] h) := by
  obtain ⟨⟨vt, v⟩, h1, h2, r1, r2, k1, k2, I⟩ := O
  refine ⟨h2, k2, I, ?_⟩
  have g1 : INS x3 h1 := fun k a b => by rw [k1]; exact g k a b
  rw [← k1] at r2
  refine Eq.trans (e_L_law_549 _ _ _ _ _) ?_
  refine Eq.trans (if_pos (g 1 (by decide) (by decide))) ?_
  refine Eq.trans (if_pos (g 2 (by decide) (by decide))) ?_
  refine Eq.trans (if_pos (show (0 : Int) < 1 ∧ (kd 1).1 = 11 from ⟨by decide, by decide⟩)) ?_
  refine Eq.trans (bnd r1) ?_
  refine Eq.trans (if_pos (g1 1 (by decide) (by decide))) ?_
  refine Eq.trans (if_pos (g1 2 (by decide) (by decide))) ?_
  refine Eq.trans (if_pos (show (0 : Int) < 88 ∧ (kd 88).1 = 12 from ⟨by decide, by decide⟩)) ?_
  refine Eq.trans (bnd r2) ?_
  exact if_pos rfl
theorem law_b582 (O : OKC i 119 231 [(0, h.2 (-1) (w32 (x3 + 1))), (0, h.2 (-1) (w32 (x3 + 2)))] h) (g : INS x3 h) : BLK i x3 h (vp 323 582 [(2, -1), (2, 1), (2, 88), (0, x3)] [] h) := by
  obtain ⟨⟨vt, v⟩, h1, h2, r1, r2, k1, k2, I⟩ := O
  refine ⟨h2, k2, I, ?_⟩
  have g1 : INS x3 h1 := fun k a b => by rw [k1]; exact g k a b
  rw [← k1] at r2
  refine Eq.trans (e_L_law_582 _ _ _ _ _) ?_
  refine Eq.trans (if_pos (g 1 (by decide) (by decide))) ?_
  refine Eq.trans (if_pos (g 2 (by decide) (by decide))) ?_
  refine Eq.trans (if_pos (show (0 : Int) < 1 ∧ (kd 1).1 = 11 from ⟨by decide, by decide⟩)) ?_
  refine Eq.trans (bnd r1) ?_
  refine Eq.trans (if_pos (g1 1 (by decide) (by decide))) ?_
  refine Eq.trans (if_pos (g1 2 (by decide) (by decide))) ?_
  refine Eq.trans (if_pos (show (0 : Int) < 88 ∧ (kd 88).1 = 12 from ⟨by decide, by decide⟩)) ?_
  refine Eq.trans (bnd r2) ?_
  exact if_pos rfl
theorem law_b615 (O : OKC i 120 232 [(0, h.2 (-1) (w32 (x3 + 1)))] h) (g : INS x3 h) : BLK i x3 h (vp 323 615 [(2, -1), (2, 1), (2, 88), (0, x3)] [] h) := by
  obtain ⟨⟨vt, v⟩, h1, h2, r1, r2, k1, k2, I⟩ := O
  refine ⟨h2, k2, I, ?_⟩
  have g1 : INS x3 h1 := fun k a b => by rw [k1]; exact g k a b
  rw [← k1] at r2
  refine Eq.trans (e_L_law_615 _ _ _ _ _) ?_
  refine Eq.trans (if_pos (g 1 (by decide) (by decide))) ?_
  refine Eq.trans (if_pos (show (0 : Int) < 1 ∧ (kd 1).1 = 11 from ⟨by decide, by decide⟩)) ?_
  refine Eq.trans (bnd r1) ?_
  refine Eq.trans (if_pos (g1 1 (by decide) (by decide))) ?_
  refine Eq.trans (if_pos (show (0 : Int) < 88 ∧ (kd 88).1 = 12 from ⟨by decide, by decide⟩)) ?_
  refine Eq.trans (bnd r2) ?_
  refine Eq.trans (if_pos ?_) rfl
  rw [vx_some, vx_some, if_neg (Int.lt_irrefl _), if_pos rfl]
theorem law_b639 (O : OKC i 121 233 [(0, h.2 (-1) (w32 (x3 + 1))), (0, h.2 (-1) (w32 (x3 + 2))), (0, h.2 (-1) (w32 (x3 + 3)))] h) (g : INS x3 h) : BLK i x3 h (vp 323 639 [(2, -1), (2, 1), (2, 88), (0, x3)] [] h) := by
  obtain ⟨⟨vt, v⟩, h1, h2, r1, r2, k1, k2, I⟩ := O
  refine ⟨h2, k2, I, ?_⟩
  have g1 : INS x3 h1 := fun k a b => by rw [k1]; exact g k a b
  rw [← k1] at r2
  refine Eq.trans (e_L_law_639 _ _ _ _ _) ?_
  refine Eq.trans (if_pos (g 1 (by decide) (by decide))) ?_
  refine Eq.trans (if_pos (g 2 (by decide) (by decide))) ?_
  refine Eq.trans (if_pos (g 3 (by decide) (by decide))) ?_
  refine Eq.trans (if_pos (show (0 : Int) < 1 ∧ (kd 1).1 = 11 from ⟨by decide, by decide⟩)) ?_
  refine Eq.trans (bnd r1) ?_
  refine Eq.trans (if_pos (g1 1 (by decide) (by decide))) ?_
  refine Eq.trans (if_pos (g1 2 (by decide) (by decide))) ?_
  refine Eq.trans (if_pos (g1 3 (by decide) (by decide))) ?_
  refine Eq.trans (if_pos (show (0 : Int) < 88 ∧ (kd 88).1 = 12 from ⟨by decide, by decide⟩)) ?_
  refine Eq.trans (bnd r2) ?_
  exact if_pos rfl
theorem law_b682 (O : OKC i 122 230 [(0, h.2 (-1) (w32 (x3 + 1))), (0, h.2 (-1) (w32 (x3 + 2)))] h) (g : INS x3 h) : BLK i x3 h (vp 323 682 [(2, -1), (2, 1), (2, 88), (0, x3)] [] h) := by
  obtain ⟨⟨vt, v⟩, h1, h2, r1, r2, k1, k2, I⟩ := O
  refine ⟨h2, k2, I, ?_⟩
  have g1 : INS x3 h1 := fun k a b => by rw [k1]; exact g k a b
  rw [← k1] at r2
  refine Eq.trans (e_L_law_682 _ _ _ _ _) ?_
  refine Eq.trans (if_pos (g 1 (by decide) (by decide))) ?_
  refine Eq.trans (if_pos (g 2 (by decide) (by decide))) ?_
  refine Eq.trans (if_pos (show (0 : Int) < 1 ∧ (kd 1).1 = 11 from ⟨by decide, by decide⟩)) ?_
  refine Eq.trans (bnd r1) ?_
  refine Eq.trans (if_pos (g1 1 (by decide) (by decide))) ?_
  refine Eq.trans (if_pos (g1 2 (by decide) (by decide))) ?_
  refine Eq.trans (if_pos (show (0 : Int) < 88 ∧ (kd 88).1 = 12 from ⟨by decide, by decide⟩)) ?_
  refine Eq.trans (bnd r2) ?_
  exact if_pos rfl
theorem law_b715 (O : OKC i 123 220 [] h) (g : INS x3 h) : BLK i x3 h (vp 323 715 [(2, -1), (2, 1), (2, 88), (0, x3)] [] h) := by
  obtain ⟨⟨vt, v⟩, h1, h2, r1, r2, k1, k2, I⟩ := O
  refine ⟨h2, k2, I, ?_⟩
  have g1 : INS x3 h1 := fun k a b => by rw [k1]; exact g k a b
  refine Eq.trans (e_L_law_715 _ _ _ _ _) ?_
  refine Eq.trans (if_pos (show (0 : Int) < 1 ∧ (kd 1).1 = 11 from ⟨by decide, by decide⟩)) ?_
  refine Eq.trans (bnd r1) ?_
  refine Eq.trans (if_pos (show (0 : Int) < 88 ∧ (kd 88).1 = 12 from ⟨by decide, by decide⟩)) ?_
  refine Eq.trans (bnd r2) ?_
  exact if_pos rfl
theorem law_b728 (O : OKC i 127 241 [(0, h.2 (-1) (w32 (x3 + 1))), (0, h.2 (-1) (w32 (x3 + 2)))] h) (g : INS x3 h) : BLK i x3 h (vp 323 728 [(2, -1), (2, 1), (2, 88), (0, x3)] [] h) := by
  obtain ⟨⟨vt, v⟩, h1, h2, r1, r2, k1, k2, I⟩ := O
  refine ⟨h2, k2, I, ?_⟩
  have g1 : INS x3 h1 := fun k a b => by rw [k1]; exact g k a b
  rw [← k1] at r2
  refine Eq.trans (e_L_law_728 _ _ _ _ _) ?_
  refine Eq.trans (if_pos (g 1 (by decide) (by decide))) ?_
  refine Eq.trans (if_pos (g 2 (by decide) (by decide))) ?_
  refine Eq.trans (if_pos (show (0 : Int) < 1 ∧ (kd 1).1 = 11 from ⟨by decide, by decide⟩)) ?_
  refine Eq.trans (bnd r1) ?_
  refine Eq.trans (if_pos (g1 1 (by decide) (by decide))) ?_
  refine Eq.trans (if_pos (g1 2 (by decide) (by decide))) ?_
  refine Eq.trans (if_pos (show (0 : Int) < 88 ∧ (kd 88).1 = 12 from ⟨by decide, by decide⟩)) ?_
  refine Eq.trans (bnd r2) ?_
  exact if_pos rfl
theorem law_b761 (O : OKC i 128 242 [(0, h.2 (-1) (w32 (x3 + 1))), (0, h.2 (-1) (w32 (x3 + 2))), (0, h.2 (-1) (w32 (x3 + 3)))] h) (g : INS x3 h) : BLK i x3 h (vp 323 761 [(2, -1), (2, 1), (2, 88), (0, x3)] [] h) := by
  obtain ⟨⟨vt, v⟩, h1, h2, r1, r2, k1, k2, I⟩ := O
  refine ⟨h2, k2, I, ?_⟩
  have g1 : INS x3 h1 := fun k a b => by rw [k1]; exact g k a b
  rw [← k1] at r2
  refine Eq.trans (e_L_law_761 _ _ _ _ _) ?_
  refine Eq.trans (if_pos (g 1 (by decide) (by decide))) ?_
  refine Eq.trans (if_pos (g 2 (by decide) (by decide))) ?_
  refine Eq.trans (if_pos (g 3 (by decide) (by decide))) ?_
  refine Eq.trans (if_pos (show (0 : Int) < 1 ∧ (kd 1).1 = 11 from ⟨by decide, by decide⟩)) ?_
  refine Eq.trans (bnd r1) ?_
  refine Eq.trans (if_pos (g1 1 (by decide) (by decide))) ?_
  refine Eq.trans (if_pos (g1 2 (by decide) (by decide))) ?_
  refine Eq.trans (if_pos (g1 3 (by decide) (by decide))) ?_
  refine Eq.trans (if_pos (show (0 : Int) < 88 ∧ (kd 88).1 = 12 from ⟨by decide, by decide⟩)) ?_
  refine Eq.trans (bnd r2) ?_
  exact if_pos rfl
theorem law_b804 (O : OKC i 129 246 [(0, h.2 (-1) (w32 (x3 + 1))), (0, h.2 (-1) (w32 (x3 + 2))), (0, h.2 (-1) (w32 (x3 + 3))), (0, h.2 (-1) (w32 (x3 + 4)))] h) (g : INS x3 h) : BLK i x3 h (vp 323 804 [(2, -1), (2, 1), (2, 88), (0, x3)] [] h) := by
  obtain ⟨⟨vt, v⟩, h1, h2, r1, r2, k1, k2, I⟩ := O
  refine ⟨h2, k2, I, ?_⟩
  have g1 : INS x3 h1 := fun k a b => by rw [k1]; exact g k a b
  rw [← k1] at r2
  refine Eq.trans (e_L_law_804 _ _ _ _ _) ?_
  refine Eq.trans (if_pos (g 1 (by decide) (by decide))) ?_
  refine Eq.trans (if_pos (g 2 (by decide) (by decide))) ?_
  refine Eq.trans (if_pos (g 3 (by decide) (by decide))) ?_
  refine Eq.trans (if_pos (g 4 (by decide) (by decide))) ?_
  refine Eq.trans (if_pos (show (0 : Int) < 1 ∧ (kd 1).1 = 11 from ⟨by decide, by decide⟩)) ?_
  refine Eq.trans (bnd r1) ?_
  refine Eq.trans (if_pos (g1 1 (by decide) (by decide))) ?_
  refine Eq.trans (if_pos (g1 2 (by decide) (by decide))) ?_
  refine Eq.trans (if_pos (g1 3 (by decide) (by decide))) ?_
  refine Eq.trans (if_pos (g1 4 (by decide) (by decide))) ?_
  refine Eq.trans (if_pos (show (0 : Int) < 88 ∧ (kd 88).1 = 12 from ⟨by decide, by decide⟩)) ?_
  refine Eq.trans (bnd r2) ?_
  exact if_pos rfl
theorem law_b857 (O : OKC i 130 247 [(0, h.2 (-1) (w32 (x3 + 1))), (0, h.2 (-1) (w32 (x3 + 2))), (0, h.2 (-1) (w32 (x3 + 3)))] h) (g : INS x3 h) : BLK i x3 h (vp 323 857 [(2, -1), (2, 1), (2, 88), (0, x3)] [] h) := by
  obtain ⟨⟨vt, v⟩, h1, h2, r1, r2, k1, k2, I⟩ := O
  refine ⟨h2, k2, I, ?_⟩
  have g1 : INS x3 h1 := fun k a b => by rw [k1]; exact g k a b
  rw [← k1] at r2
  refine Eq.trans (e_L_law_857 _ _ _ _ _) ?_
  refine Eq.trans (if_pos (g 1 (by decide) (by decide))) ?_
  refine Eq.trans (if_pos (g 2 (by decide) (by decide))) ?_
  refine Eq.trans (if_pos (g 3 (by decide) (by decide))) ?_
  refine Eq.trans (if_pos (show (0 : Int) < 1 ∧ (kd 1).1 = 11 from ⟨by decide, by decide⟩)) ?_
  refine Eq.trans (bnd r1) ?_
  refine Eq.trans (if_pos (g1 1 (by decide) (by decide))) ?_
  refine Eq.trans (if_pos (g1 2 (by decide) (by decide))) ?_
  refine Eq.trans (if_pos (g1 3 (by decide) (by decide))) ?_
  refine Eq.trans (if_pos (show (0 : Int) < 88 ∧ (kd 88).1 = 12 from ⟨by decide, by decide⟩)) ?_
  refine Eq.trans (bnd r2) ?_
  exact if_pos rfl
theorem law_b900 (O : OKC i 131 250 [(0, h.2 (-1) (w32 (x3 + 1))), (0, h.2 (-1) (w32 (x3 + 2))), (0, h.2 (-1) (w32 (x3 + 3))), (0, h.2 (-1) (w32 (x3 + 4)))] h) (g : INS x3 h) : BLK i x3 h (vp 323 900 [(2, -1), (2, 1), (2, 88), (0, x3)] [] h) := by
  obtain ⟨⟨vt, v⟩, h1, h2, r1, r2, k1, k2, I⟩ := O
  refine ⟨h2, k2, I, ?_⟩
  have g1 : INS x3 h1 := fun k a b => by rw [k1]; exact g k a b
  rw [← k1] at r2
  refine Eq.trans (e_L_law_900 _ _ _ _ _) ?_
  refine Eq.trans (if_pos (g 1 (by decide) (by decide))) ?_
  refine Eq.trans (if_pos (g 2 (by decide) (by decide))) ?_
  refine Eq.trans (if_pos (g 3 (by decide) (by decide))) ?_
  refine Eq.trans (if_pos (g 4 (by decide) (by decide))) ?_
  refine Eq.trans (if_pos (show (0 : Int) < 1 ∧ (kd 1).1 = 11 from ⟨by decide, by decide⟩)) ?_
  refine Eq.trans (bnd r1) ?_
  refine Eq.trans (if_pos (g1 1 (by decide) (by decide))) ?_
  refine Eq.trans (if_pos (g1 2 (by decide) (by decide))) ?_
  refine Eq.trans (if_pos (g1 3 (by decide) (by decide))) ?_
  refine Eq.trans (if_pos (g1 4 (by decide) (by decide))) ?_
  refine Eq.trans (if_pos (show (0 : Int) < 88 ∧ (kd 88).1 = 12 from ⟨by decide, by decide⟩)) ?_
  refine Eq.trans (bnd r2) ?_
  exact if_pos rfl
theorem law_b953 (O : OKC i 132 257 [(0, h.2 (-1) (w32 (x3 + 1))), (0, h.2 (-1) (w32 (x3 + 2))), (0, h.2 (-1) (w32 (x3 + 3))), (0, h.2 (-1) (w32 (x3 + 4)))] h) (g : INS x3 h) : BLK i x3 h (vp 323 953 [(2, -1), (2, 1), (2, 88), (0, x3)] [] h) := by
  obtain ⟨⟨vt, v⟩, h1, h2, r1, r2, k1, k2, I⟩ := O
  refine ⟨h2, k2, I, ?_⟩
  have g1 : INS x3 h1 := fun k a b => by rw [k1]; exact g k a b
  rw [← k1] at r2
  refine Eq.trans (e_L_law_953 _ _ _ _ _) ?_
  refine Eq.trans (if_pos (g 1 (by decide) (by decide))) ?_
  refine Eq.trans (if_pos (g 2 (by decide) (by decide))) ?_
  refine Eq.trans (if_pos (g 3 (by decide) (by decide))) ?_
  refine Eq.trans (if_pos (g 4 (by decide) (by decide))) ?_
  refine Eq.trans (if_pos (show (0 : Int) < 1 ∧ (kd 1).1 = 11 from ⟨by decide, by decide⟩)) ?_
  refine Eq.trans (bnd r1) ?_
  refine Eq.trans (if_pos (g1 1 (by decide) (by decide))) ?_
  refine Eq.trans (if_pos (g1 2 (by decide) (by decide))) ?_
  refine Eq.trans (if_pos (g1 3 (by decide) (by decide))) ?_
  refine Eq.trans (if_pos (g1 4 (by decide) (by decide))) ?_
  refine Eq.trans (if_pos (show (0 : Int) < 88 ∧ (kd 88).1 = 12 from ⟨by decide, by decide⟩)) ?_
  refine Eq.trans (bnd r2) ?_
  exact if_pos rfl
theorem law_b1006 (O : OKC i 133 259 [(0, h.2 (-1) (w32 (x3 + 1))), (0, h.2 (-1) (w32 (x3 + 2))), (0, h.2 (-1) (w32 (x3 + 3))), (0, h.2 (-1) (w32 (x3 + 4)))] h) (g : INS x3 h) : BLK i x3 h (vp 323 1006 [(2, -1), (2, 1), (2, 88), (0, x3)] [] h) := by
  obtain ⟨⟨vt, v⟩, h1, h2, r1, r2, k1, k2, I⟩ := O
  refine ⟨h2, k2, I, ?_⟩
  have g1 : INS x3 h1 := fun k a b => by rw [k1]; exact g k a b
  rw [← k1] at r2
  refine Eq.trans (e_L_law_1006 _ _ _ _ _) ?_
  refine Eq.trans (if_pos (g 1 (by decide) (by decide))) ?_
  refine Eq.trans (if_pos (g 2 (by decide) (by decide))) ?_
  refine Eq.trans (if_pos (g 3 (by decide) (by decide))) ?_
  refine Eq.trans (if_pos (g 4 (by decide) (by decide))) ?_
  refine Eq.trans (if_pos (show (0 : Int) < 1 ∧ (kd 1).1 = 11 from ⟨by decide, by decide⟩)) ?_
  refine Eq.trans (bnd r1) ?_
  refine Eq.trans (if_pos (g1 1 (by decide) (by decide))) ?_
  refine Eq.trans (if_pos (g1 2 (by decide) (by decide))) ?_
  refine Eq.trans (if_pos (g1 3 (by decide) (by decide))) ?_
  refine Eq.trans (if_pos (g1 4 (by decide) (by decide))) ?_
  refine Eq.trans (if_pos (show (0 : Int) < 88 ∧ (kd 88).1 = 12 from ⟨by decide, by decide⟩)) ?_
  refine Eq.trans (bnd r2) ?_
  exact if_pos rfl
theorem law_b1059 (O : OKC i 134 260 [(0, h.2 (-1) (w32 (x3 + 1)))] h) (g : INS x3 h) : BLK i x3 h (vp 323 1059 [(2, -1), (2, 1), (2, 88), (0, x3)] [] h) := by
  obtain ⟨⟨vt, v⟩, h1, h2, r1, r2, k1, k2, I⟩ := O
  refine ⟨h2, k2, I, ?_⟩
  have g1 : INS x3 h1 := fun k a b => by rw [k1]; exact g k a b
  rw [← k1] at r2
  refine Eq.trans (e_L_law_1059 _ _ _ _ _) ?_
  refine Eq.trans (if_pos (g 1 (by decide) (by decide))) ?_
  refine Eq.trans (if_pos (show (0 : Int) < 1 ∧ (kd 1).1 = 11 from ⟨by decide, by decide⟩)) ?_
  refine Eq.trans (bnd r1) ?_
  refine Eq.trans (if_pos (g1 1 (by decide) (by decide))) ?_
  refine Eq.trans (if_pos (show (0 : Int) < 88 ∧ (kd 88).1 = 12 from ⟨by decide, by decide⟩)) ?_
  refine Eq.trans (bnd r2) ?_
  exact if_pos rfl
theorem law_b1082 (O : OKC i 136 264 [(0, h.2 (-1) (w32 (x3 + 1))), (0, h.2 (-1) (w32 (x3 + 2))), (0, h.2 (-1) (w32 (x3 + 3)))] h) (g : INS x3 h) : BLK i x3 h (vp 323 1082 [(2, -1), (2, 1), (2, 88), (0, x3)] [] h) := by
  obtain ⟨⟨vt, v⟩, h1, h2, r1, r2, k1, k2, I⟩ := O
  refine ⟨h2, k2, I, ?_⟩
  have g1 : INS x3 h1 := fun k a b => by rw [k1]; exact g k a b
  rw [← k1] at r2
  refine Eq.trans (e_L_law_1082 _ _ _ _ _) ?_
  refine Eq.trans (if_pos (g 1 (by decide) (by decide))) ?_
  refine Eq.trans (if_pos (g 2 (by decide) (by decide))) ?_
  refine Eq.trans (if_pos (g 3 (by decide) (by decide))) ?_
  refine Eq.trans (if_pos (show (0 : Int) < 1 ∧ (kd 1).1 = 11 from ⟨by decide, by decide⟩)) ?_
  refine Eq.trans (bnd r1) ?_
  refine Eq.trans (if_pos (g1 1 (by decide) (by decide))) ?_
  refine Eq.trans (if_pos (g1 2 (by decide) (by decide))) ?_
  refine Eq.trans (if_pos (g1 3 (by decide) (by decide))) ?_
  refine Eq.trans (if_pos (show (0 : Int) < 88 ∧ (kd 88).1 = 12 from ⟨by decide, by decide⟩)) ?_
  refine Eq.trans (bnd r2) ?_
  exact if_pos rfl
theorem law_b1125 (O : OKC i 138 267 [(0, h.2 (-1) (w32 (x3 + 1))), (0, h.2 (-1) (w32 (x3 + 2))), (0, h.2 (-1) (w32 (x3 + 3))), (0, h.2 (-1) (w32 (x3 + 4)))] h) (g : INS x3 h) : BLK i x3 h (vp 323 1125 [(2, -1), (2, 1), (2, 88), (0, x3)] [] h) := by
  obtain ⟨⟨vt, v⟩, h1, h2, r1, r2, k1, k2, I⟩ := O
  refine ⟨h2, k2, I, ?_⟩
  have g1 : INS x3 h1 := fun k a b => by rw [k1]; exact g k a b
  rw [← k1] at r2
  refine Eq.trans (e_L_law_1125 _ _ _ _ _) ?_
  refine Eq.trans (if_pos (g 1 (by decide) (by decide))) ?_
  refine Eq.trans (if_pos (g 2 (by decide) (by decide))) ?_
  refine Eq.trans (if_pos (g 3 (by decide) (by decide))) ?_
  refine Eq.trans (if_pos (g 4 (by decide) (by decide))) ?_
  refine Eq.trans (if_pos (show (0 : Int) < 1 ∧ (kd 1).1 = 11 from ⟨by decide, by decide⟩)) ?_
  refine Eq.trans (bnd r1) ?_
  refine Eq.trans (if_pos (g1 1 (by decide) (by decide))) ?_
  refine Eq.trans (if_pos (g1 2 (by decide) (by decide))) ?_
  refine Eq.trans (if_pos (g1 3 (by decide) (by decide))) ?_
  refine Eq.trans (if_pos (g1 4 (by decide) (by decide))) ?_
  refine Eq.trans (if_pos (show (0 : Int) < 88 ∧ (kd 88).1 = 12 from ⟨by decide, by decide⟩)) ?_
  refine Eq.trans (bnd r2) ?_
  exact if_pos rfl
theorem law_b1178 (O : OKC i 139 269 [(0, h.2 (-1) (w32 (x3 + 1))), (0, h.2 (-1) (w32 (x3 + 2))), (0, h.2 (-1) (w32 (x3 + 3))), (0, h.2 (-1) (w32 (x3 + 4)))] h) (g : INS x3 h) : BLK i x3 h (vp 323 1178 [(2, -1), (2, 1), (2, 88), (0, x3)] [] h) := by
  obtain ⟨⟨vt, v⟩, h1, h2, r1, r2, k1, k2, I⟩ := O
  refine ⟨h2, k2, I, ?_⟩
  have g1 : INS x3 h1 := fun k a b => by rw [k1]; exact g k a b
  rw [← k1] at r2
  refine Eq.trans (e_L_law_1178 _ _ _ _ _) ?_
  refine Eq.trans (if_pos (g 1 (by decide) (by decide))) ?_
  refine Eq.trans (if_pos (g 2 (by decide) (by decide))) ?_
  refine Eq.trans (if_pos (g 3 (by decide) (by decide))) ?_
  refine Eq.trans (if_pos (g 4 (by decide) (by decide))) ?_
  refine Eq.trans (if_pos (show (0 : Int) < 1 ∧ (kd 1).1 = 11 from ⟨by decide, by decide⟩)) ?_
  refine Eq.trans (bnd r1) ?_
  refine Eq.trans (if_pos (g1 1 (by decide) (by decide))) ?_
  refine Eq.trans (if_pos (g1 2 (by decide) (by decide))) ?_
  refine Eq.trans (if_pos (g1 3 (by decide) (by decide))) ?_
  refine Eq.trans (if_pos (g1 4 (by decide) (by decide))) ?_
  refine Eq.trans (if_pos (show (0 : Int) < 88 ∧ (kd 88).1 = 12 from ⟨by decide, by decide⟩)) ?_
  refine Eq.trans (bnd r2) ?_
  exact if_pos rfl
theorem law_b1231 (O : OKC i 140 272 [(0, h.2 (-1) (w32 (x3 + 1))), (0, h.2 (-1) (w32 (x3 + 2))), (0, h.2 (-1) (w32 (x3 + 3))), (0, h.2 (-1) (w32 (x3 + 4)))] h) (g : INS x3 h) : BLK i x3 h (vp 323 1231 [(2, -1), (2, 1), (2, 88), (0, x3)] [] h) := by
  obtain ⟨⟨vt, v⟩, h1, h2, r1, r2, k1, k2, I⟩ := O
  refine ⟨h2, k2, I, ?_⟩
  have g1 : INS x3 h1 := fun k a b => by rw [k1]; exact g k a b
  rw [← k1] at r2
  refine Eq.trans (e_L_law_1231 _ _ _ _ _) ?_
  refine Eq.trans (if_pos (g 1 (by decide) (by decide))) ?_
  refine Eq.trans (if_pos (g 2 (by decide) (by decide))) ?_
  refine Eq.trans (if_pos (g 3 (by decide) (by decide))) ?_
  refine Eq.trans (if_pos (g 4 (by decide) (by decide))) ?_
  refine Eq.trans (if_pos (show (0 : Int) < 1 ∧ (kd 1).1 = 11 from ⟨by decide, by decide⟩)) ?_
  refine Eq.trans (bnd r1) ?_
  refine Eq.trans (if_pos (g1 1 (by decide) (by decide))) ?_
  refine Eq.trans (if_pos (g1 2 (by decide) (by decide))) ?_
  refine Eq.trans (if_pos (g1 3 (by decide) (by decide))) ?_
  refine Eq.trans (if_pos (g1 4 (by decide) (by decide))) ?_
  refine Eq.trans (if_pos (show (0 : Int) < 88 ∧ (kd 88).1 = 12 from ⟨by decide, by decide⟩)) ?_
  refine Eq.trans (bnd r2) ?_
  exact if_pos rfl
theorem law_b1284 (O : OKC i 142 276 [(0, h.2 (-1) (w32 (x3 + 1))), (0, h.2 (-1) (w32 (x3 + 2))), (0, h.2 (-1) (w32 (x3 + 3))), (0, h.2 (-1) (w32 (x3 + 4))), (0, h.2 (-1) (w32 (x3 + 5)))] h) (g : INS x3 h) : BLK i x3 h (vp 323 1284 [(2, -1), (2, 1), (2, 88), (0, x3)] [] h) := by
  obtain ⟨⟨vt, v⟩, h1, h2, r1, r2, k1, k2, I⟩ := O
  refine ⟨h2, k2, I, ?_⟩
  have g1 : INS x3 h1 := fun k a b => by rw [k1]; exact g k a b
  rw [← k1] at r2
  refine Eq.trans (e_L_law_1284 _ _ _ _ _) ?_
  refine Eq.trans (if_pos (g 1 (by decide) (by decide))) ?_
  refine Eq.trans (if_pos (g 2 (by decide) (by decide))) ?_
  refine Eq.trans (if_pos (g 3 (by decide) (by decide))) ?_
  refine Eq.trans (if_pos (g 4 (by decide) (by decide))) ?_
  refine Eq.trans (if_pos (g 5 (by decide) (by decide))) ?_
  refine Eq.trans (if_pos (show (0 : Int) < 1 ∧ (kd 1).1 = 11 from ⟨by decide, by decide⟩)) ?_
  refine Eq.trans (bnd r1) ?_
  refine Eq.trans (if_pos (g1 1 (by decide) (by decide))) ?_
  refine Eq.trans (if_pos (g1 2 (by decide) (by decide))) ?_
  refine Eq.trans (if_pos (g1 3 (by decide) (by decide))) ?_
  refine Eq.trans (if_pos (g1 4 (by decide) (by decide))) ?_
  refine Eq.trans (if_pos (g1 5 (by decide) (by decide))) ?_
  refine Eq.trans (if_pos (show (0 : Int) < 88 ∧ (kd 88).1 = 12 from ⟨by decide, by decide⟩)) ?_
  refine Eq.trans (bnd r2) ?_
  exact if_pos rfl
theorem law_b1347 (O : OKC i 143 277 [(0, h.2 (-1) (w32 (x3 + 1))), (0, h.2 (-1) (w32 (x3 + 2))), (0, h.2 (-1) (w32 (x3 + 3))), (0, h.2 (-1) (w32 (x3 + 4))), (0, h.2 (-1) (w32 (x3 + 5))), (0, h.2 (-1) (w32 (x3 + 6))), (0, h.2 (-1) (w32 (x3 + 7)))] h) (g : INS x3 h) : BLK i x3 h (vp 323 1347 [(2, -1), (2, 1), (2, 88), (0, x3)] [] h) := by
  obtain ⟨⟨vt, v⟩, h1, h2, r1, r2, k1, k2, I⟩ := O
  refine ⟨h2, k2, I, ?_⟩
  have g1 : INS x3 h1 := fun k a b => by rw [k1]; exact g k a b
  rw [← k1] at r2
  refine Eq.trans (e_L_law_1347 _ _ _ _ _) ?_
  refine Eq.trans (if_pos (g 1 (by decide) (by decide))) ?_
  refine Eq.trans (if_pos (g 2 (by decide) (by decide))) ?_
  refine Eq.trans (if_pos (g 3 (by decide) (by decide))) ?_
  refine Eq.trans (if_pos (g 4 (by decide) (by decide))) ?_
  refine Eq.trans (if_pos (g 5 (by decide) (by decide))) ?_
  refine Eq.trans (if_pos (g 6 (by decide) (by decide))) ?_
  refine Eq.trans (if_pos (g 7 (by decide) (by decide))) ?_
  refine Eq.trans (if_pos (show (0 : Int) < 1 ∧ (kd 1).1 = 11 from ⟨by decide, by decide⟩)) ?_
  refine Eq.trans (bnd r1) ?_
  refine Eq.trans (if_pos (g1 1 (by decide) (by decide))) ?_
  refine Eq.trans (if_pos (g1 2 (by decide) (by decide))) ?_
  refine Eq.trans (if_pos (g1 3 (by decide) (by decide))) ?_
  refine Eq.trans (if_pos (g1 4 (by decide) (by decide))) ?_
  refine Eq.trans (if_pos (g1 5 (by decide) (by decide))) ?_
  refine Eq.trans (if_pos (g1 6 (by decide) (by decide))) ?_
  refine Eq.trans (if_pos (g1 7 (by decide) (by decide))) ?_
  refine Eq.trans (if_pos (show (0 : Int) < 88 ∧ (kd 88).1 = 12 from ⟨by decide, by decide⟩)) ?_
  refine Eq.trans (bnd r2) ?_
  exact if_pos rfl
theorem law_b1434 (O : OKC i 145 280 [(1, lbor (lbshl (h.2 (-1) (w32 (x3 + 1))) 32) (lband (h.2 (-1) (w32 (x3 + 2))) 4294967295)), (0, h.2 (-1) (w32 (x3 + 3))), (0, h.2 (-1) (w32 (x3 + 4)))] h) (g : INS x3 h) : BLK i x3 h (vp 323 1434 [(2, -1), (2, 1), (2, 88), (0, x3)] [] h) := by
  obtain ⟨⟨vt, v⟩, h1, h2, r1, r2, k1, k2, I⟩ := O
  refine ⟨h2, k2, I, ?_⟩
  have g1 : INS x3 h1 := fun k a b => by rw [k1]; exact g k a b
  rw [← k1] at r2
  refine Eq.trans (e_L_law_1434 _ _ _ _ _) ?_
  refine Eq.trans (if_pos (g 1 (by decide) (by decide))) ?_
  refine Eq.trans (if_pos (g 2 (by decide) (by decide))) ?_
  refine Eq.trans (if_pos (g 3 (by decide) (by decide))) ?_
  refine Eq.trans (if_pos (g 4 (by decide) (by decide))) ?_
  refine Eq.trans (if_pos (show (0 : Int) < 1 ∧ (kd 1).1 = 11 from ⟨by decide, by decide⟩)) ?_
  refine Eq.trans (bnd r1) ?_
  refine Eq.trans (if_pos (g1 1 (by decide) (by decide))) ?_
  refine Eq.trans (if_pos (g1 2 (by decide) (by decide))) ?_
  refine Eq.trans (if_pos (g1 3 (by decide) (by decide))) ?_
  refine Eq.trans (if_pos (g1 4 (by decide) (by decide))) ?_
  refine Eq.trans (if_pos (show (0 : Int) < 88 ∧ (kd 88).1 = 12 from ⟨by decide, by decide⟩)) ?_
  refine Eq.trans (bnd r2) ?_
  exact if_pos rfl
theorem law_b1507 (O : OKC i 146 285 [(0, h.2 (-1) (w32 (x3 + 1))), (0, h.2 (-1) (w32 (x3 + 2))), (0, h.2 (-1) (w32 (x3 + 3))), (0, h.2 (-1) (w32 (x3 + 4)))] h) (g : INS x3 h) : BLK i x3 h (vp 323 1507 [(2, -1), (2, 1), (2, 88), (0, x3)] [] h) := by
  obtain ⟨⟨vt, v⟩, h1, h2, r1, r2, k1, k2, I⟩ := O
  refine ⟨h2, k2, I, ?_⟩
  have g1 : INS x3 h1 := fun k a b => by rw [k1]; exact g k a b
  rw [← k1] at r2
  refine Eq.trans (e_L_law_1507 _ _ _ _ _) ?_
  refine Eq.trans (if_pos (g 1 (by decide) (by decide))) ?_
  refine Eq.trans (if_pos (g 2 (by decide) (by decide))) ?_
  refine Eq.trans (if_pos (g 3 (by decide) (by decide))) ?_
  refine Eq.trans (if_pos (g 4 (by decide) (by decide))) ?_
  refine Eq.trans (if_pos (show (0 : Int) < 1 ∧ (kd 1).1 = 11 from ⟨by decide, by decide⟩)) ?_
  refine Eq.trans (bnd r1) ?_
  refine Eq.trans (if_pos (g1 1 (by decide) (by decide))) ?_
  refine Eq.trans (if_pos (g1 2 (by decide) (by decide))) ?_
  refine Eq.trans (if_pos (g1 3 (by decide) (by decide))) ?_
  refine Eq.trans (if_pos (g1 4 (by decide) (by decide))) ?_
  refine Eq.trans (if_pos (show (0 : Int) < 88 ∧ (kd 88).1 = 12 from ⟨by decide, by decide⟩)) ?_
  refine Eq.trans (bnd r2) ?_
  refine Eq.trans (if_pos ?_) rfl
  rw [vx_some, vx_some, if_neg (Int.lt_irrefl _), if_pos rfl]
theorem law_b1561 (O : OKC i 147 286 [(0, h.2 (-1) (w32 (x3 + 1))), (0, h.2 (-1) (w32 (x3 + 2))), (0, h.2 (-1) (w32 (x3 + 3))), (0, h.2 (-1) (w32 (x3 + 4)))] h) (g : INS x3 h) : BLK i x3 h (vp 323 1561 [(2, -1), (2, 1), (2, 88), (0, x3)] [] h) := by
  obtain ⟨⟨vt, v⟩, h1, h2, r1, r2, k1, k2, I⟩ := O
  refine ⟨h2, k2, I, ?_⟩
  have g1 : INS x3 h1 := fun k a b => by rw [k1]; exact g k a b
  rw [← k1] at r2
  refine Eq.trans (e_L_law_1561 _ _ _ _ _) ?_
  refine Eq.trans (if_pos (g 1 (by decide) (by decide))) ?_
  refine Eq.trans (if_pos (g 2 (by decide) (by decide))) ?_
  refine Eq.trans (if_pos (g 3 (by decide) (by decide))) ?_
  refine Eq.trans (if_pos (g 4 (by decide) (by decide))) ?_
  refine Eq.trans (if_pos (show (0 : Int) < 1 ∧ (kd 1).1 = 11 from ⟨by decide, by decide⟩)) ?_
  refine Eq.trans (bnd r1) ?_
  refine Eq.trans (if_pos (g1 1 (by decide) (by decide))) ?_
  refine Eq.trans (if_pos (g1 2 (by decide) (by decide))) ?_
  refine Eq.trans (if_pos (g1 3 (by decide) (by decide))) ?_
  refine Eq.trans (if_pos (g1 4 (by decide) (by decide))) ?_
  refine Eq.trans (if_pos (show (0 : Int) < 88 ∧ (kd 88).1 = 12 from ⟨by decide, by decide⟩)) ?_
  refine Eq.trans (bnd r2) ?_
  exact if_pos rfl
theorem law_b1614 (O : OKC i 148 290 [(0, h.2 (-1) (w32 (x3 + 1))), (0, h.2 (-1) (w32 (x3 + 2))), (0, h.2 (-1) (w32 (x3 + 3))), (0, h.2 (-1) (w32 (x3 + 4)))] h) (g : INS x3 h) : BLK i x3 h (vp 323 1614 [(2, -1), (2, 1), (2, 88), (0, x3)] [] h) := by
  obtain ⟨⟨vt, v⟩, h1, h2, r1, r2, k1, k2, I⟩ := O
  refine ⟨h2, k2, I, ?_⟩
  have g1 : INS x3 h1 := fun k a b => by rw [k1]; exact g k a b
  rw [← k1] at r2
  refine Eq.trans (e_L_law_1614 _ _ _ _ _) ?_
  refine Eq.trans (if_pos (g 1 (by decide) (by decide))) ?_
  refine Eq.trans (if_pos (g 2 (by decide) (by decide))) ?_
  refine Eq.trans (if_pos (g 3 (by decide) (by decide))) ?_
  refine Eq.trans (if_pos (g 4 (by decide) (by decide))) ?_
  refine Eq.trans (if_pos (show (0 : Int) < 1 ∧ (kd 1).1 = 11 from ⟨by decide, by decide⟩)) ?_
  refine Eq.trans (bnd r1) ?_
  refine Eq.trans (if_pos (g1 1 (by decide) (by decide))) ?_
  refine Eq.trans (if_pos (g1 2 (by decide) (by decide))) ?_
  refine Eq.trans (if_pos (g1 3 (by decide) (by decide))) ?_
  refine Eq.trans (if_pos (g1 4 (by decide) (by decide))) ?_
  refine Eq.trans (if_pos (show (0 : Int) < 88 ∧ (kd 88).1 = 12 from ⟨by decide, by decide⟩)) ?_
  refine Eq.trans (bnd r2) ?_
  exact if_pos rfl
theorem law_b1667 (O : OKC i 149 292 [] h) (g : INS x3 h) : BLK i x3 h (vp 323 1667 [(2, -1), (2, 1), (2, 88), (0, x3)] [] h) := by
  obtain ⟨⟨vt, v⟩, h1, h2, r1, r2, k1, k2, I⟩ := O
  refine ⟨h2, k2, I, ?_⟩
  have g1 : INS x3 h1 := fun k a b => by rw [k1]; exact g k a b
  refine Eq.trans (e_L_law_1667 _ _ _ _ _) ?_
  refine Eq.trans (if_pos (show (0 : Int) < 1 ∧ (kd 1).1 = 11 from ⟨by decide, by decide⟩)) ?_
  refine Eq.trans (bnd r1) ?_
  refine Eq.trans (if_pos (show (0 : Int) < 88 ∧ (kd 88).1 = 12 from ⟨by decide, by decide⟩)) ?_
  refine Eq.trans (bnd r2) ?_
  exact if_pos rfl
theorem law_b1680 (O : OKC i 150 295 [(0, h.2 (-1) (w32 (x3 + 1))), (0, h.2 (-1) (w32 (x3 + 2))), (0, h.2 (-1) (w32 (x3 + 3)))] h) (g : INS x3 h) : BLK i x3 h (vp 323 1680 [(2, -1), (2, 1), (2, 88), (0, x3)] [] h) := by
  obtain ⟨⟨vt, v⟩, h1, h2, r1, r2, k1, k2, I⟩ := O
  refine ⟨h2, k2, I, ?_⟩
  have g1 : INS x3 h1 := fun k a b => by rw [k1]; exact g k a b
  rw [← k1] at r2
  refine Eq.trans (e_L_law_1680 _ _ _ _ _) ?_
  refine Eq.trans (if_pos (g 1 (by decide) (by decide))) ?_
  refine Eq.trans (if_pos (g 2 (by decide) (by decide))) ?_
  refine Eq.trans (if_pos (g 3 (by decide) (by decide))) ?_
  refine Eq.trans (if_pos (show (0 : Int) < 1 ∧ (kd 1).1 = 11 from ⟨by decide, by decide⟩)) ?_
  refine Eq.trans (bnd r1) ?_
  refine Eq.trans (if_pos (g1 1 (by decide) (by decide))) ?_
  refine Eq.trans (if_pos (g1 2 (by decide) (by decide))) ?_
  refine Eq.trans (if_pos (g1 3 (by decide) (by decide))) ?_
  refine Eq.trans (if_pos (show (0 : Int) < 88 ∧ (kd 88).1 = 12 from ⟨by decide, by decide⟩)) ?_
  refine Eq.trans (bnd r2) ?_
  exact if_pos rfl
theorem law_b1723 (O : OKC i 151 300 [(0, h.2 (-1) (w32 (x3 + 1))), (0, h.2 (-1) (w32 (x3 + 2)))] h) (g : INS x3 h) : BLK i x3 h (vp 323 1723 [(2, -1), (2, 1), (2, 88), (0, x3)] [] h) := by
  obtain ⟨⟨vt, v⟩, h1, h2, r1, r2, k1, k2, I⟩ := O
  refine ⟨h2, k2, I, ?_⟩
  have g1 : INS x3 h1 := fun k a b => by rw [k1]; exact g k a b
  rw [← k1] at r2
  refine Eq.trans (e_L_law_1723 _ _ _ _ _) ?_
  refine Eq.trans (if_pos (g 1 (by decide) (by decide))) ?_
  refine Eq.trans (if_pos (g 2 (by decide) (by decide))) ?_
  refine Eq.trans (if_pos (show (0 : Int) < 1 ∧ (kd 1).1 = 11 from ⟨by decide, by decide⟩)) ?_
  refine Eq.trans (bnd r1) ?_
  refine Eq.trans (if_pos (g1 1 (by decide) (by decide))) ?_
  refine Eq.trans (if_pos (g1 2 (by decide) (by decide))) ?_
  refine Eq.trans (if_pos (show (0 : Int) < 88 ∧ (kd 88).1 = 12 from ⟨by decide, by decide⟩)) ?_
  refine Eq.trans (bnd r2) ?_
  exact if_pos rfl
theorem law_b1756 (O : OKC i 152 298 [(0, h.2 (-1) (w32 (x3 + 1))), (0, h.2 (-1) (w32 (x3 + 2))), (0, h.2 (-1) (w32 (x3 + 3))), (0, h.2 (-1) (w32 (x3 + 4)))] h) (g : INS x3 h) : BLK i x3 h (vp 323 1756 [(2, -1), (2, 1), (2, 88), (0, x3)] [] h) := by
  obtain ⟨⟨vt, v⟩, h1, h2, r1, r2, k1, k2, I⟩ := O
  refine ⟨h2, k2, I, ?_⟩
  have g1 : INS x3 h1 := fun k a b => by rw [k1]; exact g k a b
  rw [← k1] at r2
  refine Eq.trans (e_L_law_1756 _ _ _ _ _) ?_
  refine Eq.trans (if_pos (g 1 (by decide) (by decide))) ?_
  refine Eq.trans (if_pos (g 2 (by decide) (by decide))) ?_
  refine Eq.trans (if_pos (g 3 (by decide) (by decide))) ?_
  refine Eq.trans (if_pos (g 4 (by decide) (by decide))) ?_
  refine Eq.trans (if_pos (show (0 : Int) < 1 ∧ (kd 1).1 = 11 from ⟨by decide, by decide⟩)) ?_
  refine Eq.trans (bnd r1) ?_
  refine Eq.trans (if_pos (g1 1 (by decide) (by decide))) ?_
  refine Eq.trans (if_pos (g1 2 (by decide) (by decide))) ?_
  refine Eq.trans (if_pos (g1 3 (by decide) (by decide))) ?_
  refine Eq.trans (if_pos (g1 4 (by decide) (by decide))) ?_
  refine Eq.trans (if_pos (show (0 : Int) < 88 ∧ (kd 88).1 = 12 from ⟨by decide, by decide⟩)) ?_
  refine Eq.trans (bnd r2) ?_
  exact if_pos rfl
theorem law_b1809 (O : OKC i 153 299 [(0, h.2 (-1) (w32 (x3 + 1))), (0, h.2 (-1) (w32 (x3 + 2))), (0, h.2 (-1) (w32 (x3 + 3)))] h) (g : INS x3 h) : BLK i x3 h (vp 323 1809 [(2, -1), (2, 1), (2, 88), (0, x3)] [] h) := by
  obtain ⟨⟨vt, v⟩, h1, h2, r1, r2, k1, k2, I⟩ := O
  refine ⟨h2, k2, I, ?_⟩
  have g1 : INS x3 h1 := fun k a b => by rw [k1]; exact g k a b
  rw [← k1] at r2
  refine Eq.trans (e_L_law_1809 _ _ _ _ _) ?_
  refine Eq.trans (if_pos (g 1 (by decide) (by decide))) ?_
  refine Eq.trans (if_pos (g 2 (by decide) (by decide))) ?_
  refine Eq.trans (if_pos (g 3 (by decide) (by decide))) ?_
  refine Eq.trans (if_pos (show (0 : Int) < 1 ∧ (kd 1).1 = 11 from ⟨by decide, by decide⟩)) ?_
  refine Eq.trans (bnd r1) ?_
  refine Eq.trans (if_pos (g1 1 (by decide) (by decide))) ?_
  refine Eq.trans (if_pos (g1 2 (by decide) (by decide))) ?_
  refine Eq.trans (if_pos (g1 3 (by decide) (by decide))) ?_
  refine Eq.trans (if_pos (show (0 : Int) < 88 ∧ (kd 88).1 = 12 from ⟨by decide, by decide⟩)) ?_
  refine Eq.trans (bnd r2) ?_
  exact if_pos rfl
theorem law_b1852 (O : OKC i 154 249 [(0, h.2 (-1) (w32 (x3 + 1))), (0, h.2 (-1) (w32 (x3 + 2))), (0, h.2 (-1) (w32 (x3 + 3))), (0, h.2 (-1) (w32 (x3 + 4)))] h) (g : INS x3 h) : BLK i x3 h (vp 323 1852 [(2, -1), (2, 1), (2, 88), (0, x3)] [] h) := by
  obtain ⟨⟨vt, v⟩, h1, h2, r1, r2, k1, k2, I⟩ := O
  refine ⟨h2, k2, I, ?_⟩
  have g1 : INS x3 h1 := fun k a b => by rw [k1]; exact g k a b
  rw [← k1] at r2
  refine Eq.trans (e_L_law_1852 _ _ _ _ _) ?_
  refine Eq.trans (if_pos (g 1 (by decide) (by decide))) ?_
  refine Eq.trans (if_pos (g 2 (by decide) (by decide))) ?_
  refine Eq.trans (if_pos (g 3 (by decide) (by decide))) ?_
  refine Eq.trans (if_pos (g 4 (by decide) (by decide))) ?_
  refine Eq.trans (if_pos (show (0 : Int) < 1 ∧ (kd 1).1 = 11 from ⟨by decide, by decide⟩)) ?_
  refine Eq.trans (bnd r1) ?_
  refine Eq.trans (if_pos (g1 1 (by decide) (by decide))) ?_
  refine Eq.trans (if_pos (g1 2 (by decide) (by decide))) ?_
  refine Eq.trans (if_pos (g1 3 (by decide) (by decide))) ?_
  refine Eq.trans (if_pos (g1 4 (by decide) (by decide))) ?_
  refine Eq.trans (if_pos (show (0 : Int) < 88 ∧ (kd 88).1 = 12 from ⟨by decide, by decide⟩)) ?_
  refine Eq.trans (bnd r2) ?_
  exact if_pos rfl
theorem law_b1905 (O : OKC i 155 271 [(0, h.2 (-1) (w32 (x3 + 1))), (0, h.2 (-1) (w32 (x3 + 2))), (0, h.2 (-1) (w32 (x3 + 3))), (0, h.2 (-1) (w32 (x3 + 4))), (0, h.2 (-1) (w32 (x3 + 5))), (0, h.2 (-1) (w32 (x3 + 6)))] h) (g : INS x3 h) : BLK i x3 h (vp 323 1905 [(2, -1), (2, 1), (2, 88), (0, x3)] [] h) := by
  obtain ⟨⟨vt, v⟩, h1, h2, r1, r2, k1, k2, I⟩ := O
  refine ⟨h2, k2, I, ?_⟩
  have g1 : INS x3 h1 := fun k a b => by rw [k1]; exact g k a b
  rw [← k1] at r2
  refine Eq.trans (e_L_law_1905 _ _ _ _ _) ?_
  refine Eq.trans (if_pos (g 1 (by decide) (by decide))) ?_
  refine Eq.trans (if_pos (g 2 (by decide) (by decide))) ?_
  refine Eq.trans (if_pos (g 3 (by decide) (by decide))) ?_
  refine Eq.trans (if_pos (g 4 (by decide) (by decide))) ?_
  refine Eq.trans (if_pos (g 5 (by decide) (by decide))) ?_
  refine Eq.trans (if_pos (g 6 (by decide) (by decide))) ?_
  refine Eq.trans (if_pos (show (0 : Int) < 1 ∧ (kd 1).1 = 11 from ⟨by decide, by decide⟩)) ?_
  refine Eq.trans (bnd r1) ?_
  refine Eq.trans (if_pos (g1 1 (by decide) (by decide))) ?_
  refine Eq.trans (if_pos (g1 2 (by decide) (by decide))) ?_
  refine Eq.trans (if_pos (g1 3 (by decide) (by decide))) ?_
  refine Eq.trans (if_pos (g1 4 (by decide) (by decide))) ?_
  refine Eq.trans (if_pos (g1 5 (by decide) (by decide))) ?_
  refine Eq.trans (if_pos (g1 6 (by decide) (by decide))) ?_
  refine Eq.trans (if_pos (show (0 : Int) < 88 ∧ (kd 88).1 = 12 from ⟨by decide, by decide⟩)) ?_
  refine Eq.trans (bnd r2) ?_
  exact if_pos rfl
theorem law_b1980 (O : OKC i 156 261 [(0, h.2 (-1) (w32 (x3 + 1)))] h) (g : INS x3 h) : BLK i x3 h (vp 323 1980 [(2, -1), (2, 1), (2, 88), (0, x3)] [] h) := by
  obtain ⟨⟨vt, v⟩, h1, h2, r1, r2, k1, k2, I⟩ := O
  refine ⟨h2, k2, I, ?_⟩
  have g1 : INS x3 h1 := fun k a b => by rw [k1]; exact g k a b
  rw [← k1] at r2
  refine Eq.trans (e_L_law_1980 _ _ _ _ _) ?_
  refine Eq.trans (if_pos (g 1 (by decide) (by decide))) ?_
  refine Eq.trans (if_pos (show (0 : Int) < 1 ∧ (kd 1).1 = 11 from ⟨by decide, by decide⟩)) ?_
  refine Eq.trans (bnd r1) ?_
  refine Eq.trans (if_pos (g1 1 (by decide) (by decide))) ?_
  refine Eq.trans (if_pos (show (0 : Int) < 88 ∧ (kd 88).1 = 12 from ⟨by decide, by decide⟩)) ?_
  refine Eq.trans (bnd r2) ?_
  exact if_pos rfl
theorem law_b2003 (O : OKC i 157 301 [(0, h.2 (-1) (w32 (x3 + 1)))] h) (g : INS x3 h) : BLK i x3 h (vp 323 2003 [(2, -1), (2, 1), (2, 88), (0, x3)] [] h) := by
  obtain ⟨⟨vt, v⟩, h1, h2, r1, r2, k1, k2, I⟩ := O
  refine ⟨h2, k2, I, ?_⟩
  have g1 : INS x3 h1 := fun k a b => by rw [k1]; exact g k a b
  rw [← k1] at r2
  refine Eq.trans (e_L_law_2003 _ _ _ _ _) ?_
  refine Eq.trans (if_pos (g 1 (by decide) (by decide))) ?_
  refine Eq.trans (if_pos (show (0 : Int) < 1 ∧ (kd 1).1 = 11 from ⟨by decide, by decide⟩)) ?_
  refine Eq.trans (bnd r1) ?_
  refine Eq.trans (if_pos (g1 1 (by decide) (by decide))) ?_
  refine Eq.trans (if_pos (show (0 : Int) < 88 ∧ (kd 88).1 = 12 from ⟨by decide, by decide⟩)) ?_
  refine Eq.trans (bnd r2) ?_
  exact if_pos rfl
theorem law_b2026 (O : OKC i 158 303 [(0, h.2 (-1) (w32 (x3 + 1))), (0, h.2 (-1) (w32 (x3 + 2)))] h) (g : INS x3 h) : BLK i x3 h (vp 323 2026 [(2, -1), (2, 1), (2, 88), (0, x3)] [] h) := by
  obtain ⟨⟨vt, v⟩, h1, h2, r1, r2, k1, k2, I⟩ := O
  refine ⟨h2, k2, I, ?_⟩
  have g1 : INS x3 h1 := fun k a b => by rw [k1]; exact g k a b
  rw [← k1] at r2
  refine Eq.trans (e_L_law_2026 _ _ _ _ _) ?_
  refine Eq.trans (if_pos (g 1 (by decide) (by decide))) ?_
  refine Eq.trans (if_pos (g 2 (by decide) (by decide))) ?_
  refine Eq.trans (if_pos (show (0 : Int) < 1 ∧ (kd 1).1 = 11 from ⟨by decide, by decide⟩)) ?_
  refine Eq.trans (bnd r1) ?_
  refine Eq.trans (if_pos (g1 1 (by decide) (by decide))) ?_
  refine Eq.trans (if_pos (g1 2 (by decide) (by decide))) ?_
  refine Eq.trans (if_pos (show (0 : Int) < 88 ∧ (kd 88).1 = 12 from ⟨by decide, by decide⟩)) ?_
  refine Eq.trans (bnd r2) ?_
  exact if_pos rfl
theorem law_b2059 (O : OKC i 159 305 [(0, h.2 (-1) (w32 (x3 + 1)))] h) (g : INS x3 h) : BLK i x3 h (vp 323 2059 [(2, -1), (2, 1), (2, 88), (0, x3)] [] h) := by
  obtain ⟨⟨vt, v⟩, h1, h2, r1, r2, k1, k2, I⟩ := O
  refine ⟨h2, k2, I, ?_⟩
  have g1 : INS x3 h1 := fun k a b => by rw [k1]; exact g k a b
  rw [← k1] at r2
  refine Eq.trans (e_L_law_2059 _ _ _ _ _) ?_
  refine Eq.trans (if_pos (g 1 (by decide) (by decide))) ?_
  refine Eq.trans (if_pos (show (0 : Int) < 1 ∧ (kd 1).1 = 11 from ⟨by decide, by decide⟩)) ?_
  refine Eq.trans (bnd r1) ?_
  refine Eq.trans (if_pos (g1 1 (by decide) (by decide))) ?_
  refine Eq.trans (if_pos (show (0 : Int) < 88 ∧ (kd 88).1 = 12 from ⟨by decide, by decide⟩)) ?_
  refine Eq.trans (bnd r2) ?_
  exact if_pos rfl
theorem law_b2082 (O : OKC i 160 306 [(0, h.2 (-1) (w32 (x3 + 1)))] h) (g : INS x3 h) : BLK i x3 h (vp 323 2082 [(2, -1), (2, 1), (2, 88), (0, x3)] [] h) := by
  obtain ⟨⟨vt, v⟩, h1, h2, r1, r2, k1, k2, I⟩ := O
  refine ⟨h2, k2, I, ?_⟩
  have g1 : INS x3 h1 := fun k a b => by rw [k1]; exact g k a b
  rw [← k1] at r2
  refine Eq.trans (e_L_law_2082 _ _ _ _ _) ?_
  refine Eq.trans (if_pos (g 1 (by decide) (by decide))) ?_
  refine Eq.trans (if_pos (show (0 : Int) < 1 ∧ (kd 1).1 = 11 from ⟨by decide, by decide⟩)) ?_
  refine Eq.trans (bnd r1) ?_
  refine Eq.trans (if_pos (g1 1 (by decide) (by decide))) ?_
  refine Eq.trans (if_pos (show (0 : Int) < 88 ∧ (kd 88).1 = 12 from ⟨by decide, by decide⟩)) ?_
  refine Eq.trans (bnd r2) ?_
  exact if_pos rfl
theorem law_b2105 (O : OKC i 162 308 [(0, h.2 (-1) (w32 (x3 + 1)))] h) (g : INS x3 h) : BLK i x3 h (vp 323 2105 [(2, -1), (2, 1), (2, 88), (0, x3)] [] h) := by
  obtain ⟨⟨vt, v⟩, h1, h2, r1, r2, k1, k2, I⟩ := O
  refine ⟨h2, k2, I, ?_⟩
  have g1 : INS x3 h1 := fun k a b => by rw [k1]; exact g k a b
  rw [← k1] at r2
  refine Eq.trans (e_L_law_2105 _ _ _ _ _) ?_
  refine Eq.trans (if_pos (g 1 (by decide) (by decide))) ?_
  refine Eq.trans (if_pos (show (0 : Int) < 1 ∧ (kd 1).1 = 11 from ⟨by decide, by decide⟩)) ?_
  refine Eq.trans (bnd r1) ?_
  refine Eq.trans (if_pos (g1 1 (by decide) (by decide))) ?_
  refine Eq.trans (if_pos (show (0 : Int) < 88 ∧ (kd 88).1 = 12 from ⟨by decide, by decide⟩)) ?_
  refine Eq.trans (bnd r2) ?_
  exact if_pos rfl
theorem law_disp (I : INV i h) (hi : i < 600) (g : INS x3 h) (x0 : 0 ≤ x3) (x1 : x3 < h.2 (-1) (-1)) (nx : ¬ x3 > w32 (h.2 (-1) (-1) - 8)) : BLK i x3 h (vp 323 18 [(2, -1), (2, 1), (2, 88), (0, x3)] [] h) := by
  have q := e_L_law_18 (-1) 1 88 x3 h
  rw [if_pos rfl, if_neg nx, if_pos (show (-1 : Int) = -1 ∧ 0 ≤ x3 ∧ x3 < h.2 (-1) (-1) from ⟨rfl, x0, x1⟩)] at q
  rw [q]
  refine law_sp (law_b232 (k_feed I hi) g) ?_
  refine law_sp (law_b295 (k_end I hi) g) ?_
  refine law_sp (law_b318 (k_bank I hi) g) ?_
  refine law_sp (law_b331 (k_fault I hi) g) ?_
  refine law_sp (law_b354 (k_kind I hi) g) ?_
  refine law_sp (law_b377 (k_length I hi) g) ?_
  refine law_sp (law_b400 (k_peek I hi) g) ?_
  refine law_sp (law_b443 (k_poke I hi (I.ou.2.1 _).1 (I.ou.2.1 _).2) g) ?_
  refine law_sp (law_b496 (k_put I hi (I.ou.2.1 _).1 (I.ou.2.1 _).2) g) ?_
  refine law_sp (law_b549 (k_convert I hi) g) ?_
  refine law_sp (law_b582 (k_unlike I hi) g) ?_
  refine law_sp (law_b615 (k_total I hi) g) ?_
  refine law_sp (law_b639 (k_find I hi (I.ou.2.1 _).2) g) ?_
  refine law_sp (law_b682 (k_loses I hi) g) ?_
  refine law_sp (law_b715 (k_undo I hi) g) ?_
  refine law_sp (law_b728 (k_texture I hi) g) ?_
  refine law_sp (law_b761 (k_level I hi) g) ?_
  refine law_sp (law_b804 (k_place I hi) g) ?_
  refine law_sp (law_b857 (k_at I hi) g) ?_
  refine law_sp (law_b900 (k_texel I hi) g) ?_
  refine law_sp (law_b953 (k_paint I hi (I.ou.2.1 _).1 (I.ou.2.1 _).2) g) ?_
  refine law_sp (law_b1006 (k_fill I hi) g) ?_
  refine law_sp (law_b1059 (k_make I hi) g) ?_
  refine law_sp (law_b1082 (k_wrap I hi) g) ?_
  refine law_sp (law_b1125 (k_nearest I hi) g) ?_
  refine law_sp (law_b1178 (k_smooth I hi) g) ?_
  refine law_sp (law_b1231 (k_blend I hi) g) ?_
  refine law_sp (law_b1284 (k_axis I hi) g) ?_
  refine law_sp (law_b1347 (k_filtered I hi) g) ?_
  refine law_sp (law_b1434 (k_unpack I hi) g) ?_
  refine law_sp (law_b1507 (k_pack I hi) g) ?_
  refine law_sp (law_b1561 (k_off I hi) g) ?_
  refine law_sp (law_b1614 (k_fetch I hi) g) ?_
  refine law_sp (law_b1667 (k_flush I hi) g) ?_
  refine law_sp (law_b1680 (k_walk I hi) g) ?_
  refine law_sp (law_b1723 (k_bestWalk I hi) g) ?_
  refine law_sp (law_b1756 (k_walkAs I hi) g) ?_
  refine law_sp (law_b1809 (k_bestOrder I hi) g) ?_
  refine law_sp (law_b1852 (k_moved I hi) g) ?_
  refine law_sp (law_b1905 (k_area I hi) g) ?_
  refine law_sp (law_b1980 (k_stale I hi) g) ?_
  refine law_sp (law_b2003 (k_leaves I hi) g) ?_
  refine law_sp (law_b2026 (k_hottest I hi (Int.le_of_lt_add_one (I.ou.2.1 _).2)) g) ?_
  refine law_sp (law_b2059 (k_image I hi) g) ?_
  refine law_sp (law_b2082 (k_back I hi) g) ?_
  refine law_sp (law_b2105 (k_about I hi) g) ?_
  exact ⟨h, rfl, I.up hi, rfl⟩
theorem law_loop {L : Int} (L0 : 0 ≤ L) (L1 : L ≤ 4096) : ∀ (n : Nat) (i : Int) (h : Hq), INV i h → h.2 (-1) (-1) = L → i ≤ 512 → 512 - i ≤ n → ∃ h' : Hq, vp 323 18 [(2, -1), (2, 1), (2, 88), (0, 8 * i)] [] h = some (some (0, 1), h') ∧ h'.1 ≤ 130 := by
  intro n
  induction n with
  | zero =>
    intro i h I hL i1 i2
    have ir := I.ir
    refine ⟨h, ?_, I.rn.2.2.1.2⟩
    refine Eq.trans (e_L_law_18 _ _ _ _ _) ?_
    rw [if_pos rfl, hL, if_pos (by rw [w32_i (by omega) (by omega)]; omega)]
  | succ n ih =>
    intro i h I hL i1 i2
    have ir := I.ir
    by_cases q : 8 * i > w32 (h.2 (-1) (-1) - 8)
    · refine ⟨h, ?_, I.rn.2.2.1.2⟩
      refine Eq.trans (e_L_law_18 _ _ _ _ _) ?_
      rw [if_pos rfl, if_pos q]
    · have q' := q
      rw [hL, w32_i (by omega) (by omega)] at q'
      obtain ⟨h', k, I', e⟩ := law_disp (x3 := 8 * i) I (by omega) (fun k k0 k1 => by
        rw [w32_i (by omega) (by omega), hL]
        exact ⟨rfl, by omega, by omega⟩) (by omega) (by rw [hL]; omega) q
      obtain ⟨h2, r, z⟩ := ih (i + 1) h' I' (by rw [k]; exact hL) (by omega) (by omega)
      refine ⟨h2, ?_, z⟩
      rw [e, e_L_law_2128, w32_i (by omega) (by omega), show 8 * i + 8 = 8 * (i + 1) by omega]
      exact r
end
