/-! THE PURE PART: the model's textures, level by level -/
def isT (m : Mm) (t : Int) : Prop := 0 ≤ t ∧ t < m 90 4
def isL (m : Mm) (t l : Int) : Prop := isT m t ∧ 0 ≤ l ∧ l < tex m t 4
theorem TXM.lv {m : Mm} (X : TXM m) {t : Int} (ht : isT m t) : 1 ≤ tex m t 4 ∧ tex m t 4 ≤ 5 ∧ 1 ≤ tex m t 2 ∧ tex m t 2 ≤ 16 ∧ 1 ≤ tex m t 3 ∧ tex m t 3 ≤ 16 := by
  obtain ⟨a, b, ha, hb, e1, e2, h1, h2⟩ := (X.2 t ht.1 ht.2).2.1
  have p : ∀ k : Nat, k ≤ 4 → (1 : Int) ≤ 2 ^ k ∧ (2 : Int) ^ k ≤ 16 := by decide
  have := p a ha
  have := p b hb
  omega
theorem isT.r {m : Mm} (X : TXM m) {t : Int} (ht : isT m t) : 0 ≤ t ∧ t < 4 := ⟨ht.1, by have := X.1; have := ht.2; omega⟩
theorem ifc {p q : Prop} [Decidable p] [Decidable q] (h : p ↔ q) : (if p then (1 : Int) else 0) = if q then 1 else 0 := by
  by_cases hp : p
  · rw [if_pos hp, if_pos (h.mp hp)]
  · rw [if_neg hp, if_neg (fun z => hp (h.mpr z))]
theorem if01 {p : Prop} [Decidable p] : (if p then (1 : Int) else 0) = 0 ∨ (if p then (1 : Int) else 0) = 1 := by
  by_cases hp : p
  · exact Or.inr (if_pos hp)
  · exact Or.inl (if_neg hp)
theorem p_isT {h : Hq} (F : FXM h.2) (X : TXM h.2) (t : Int) : vm 235 [(2, 88), (0, t)] h = some (some (0, if 0 ≤ t ∧ t < h.2 90 4 then 1 else 0), h) := by
  have X1 := X.1
  rw [e_X12_isTexture, if_pos g88, F.f13, if_pos ⟨rfl, by decide, by decide⟩, w32_i (x := h.2 90 4 - 1) (by omega) (by omega), p_isIn]
  show (if (if 0 ≤ t ∧ t ≤ h.2 90 4 - 1 then (1 : Int) else 0) = 0 ∨ (if 0 ≤ t ∧ t ≤ h.2 90 4 - 1 then (1 : Int) else 0) = 1 then some (some (0, (if 0 ≤ t ∧ t ≤ h.2 90 4 - 1 then (1 : Int) else 0)), h) else none) = _
  rw [if_pos if01, ifc (show (0 ≤ t ∧ t ≤ h.2 90 4 - 1) ↔ (0 ≤ t ∧ t < h.2 90 4) by omega)]
theorem p_isL {h : Hq} (F : FXM h.2) (X : TXM h.2) (t l : Int) : vm 236 [(2, 88), (0, t), (0, l)] h = some (some (0, if (0 ≤ t ∧ t < h.2 90 4) ∧ 0 ≤ l ∧ l < tex h.2 t 4 then 1 else 0), h) := by
  rw [e_X12_isLevel, if_pos g88, p_isT F X]
  by_cases ht : 0 ≤ t ∧ t < h.2 90 4
  · have T := isT.r X ht
    have Y := X.lv ht
    rw [if_pos ht]
    simp only [Option.bind_some, vx_some]
    rw [if_neg (show ¬ (1 : Int) = 0 by decide), if_pos g88, p_of F T.1 (by omega) (by decide) (by decide)]
    simp only [Option.bind_some, vx_some]
    rw [w32_i (x := tex h.2 t 4 - 1) (by omega) (by omega), p_isIn]
    by_cases hl : 0 ≤ l ∧ l < tex h.2 t 4
    · rw [if_pos (show 0 ≤ l ∧ l ≤ tex h.2 t 4 - 1 by omega), if_pos (show (0 ≤ t ∧ t < h.2 90 4) ∧ 0 ≤ l ∧ l < tex h.2 t 4 from ⟨ht, hl⟩)]; rfl
    · rw [if_neg (show ¬ (0 ≤ l ∧ l ≤ tex h.2 t 4 - 1) by omega), if_neg (show ¬ ((0 ≤ t ∧ t < h.2 90 4) ∧ 0 ≤ l ∧ l < tex h.2 t 4) from fun q => hl q.2)]; rfl
  · rw [if_neg ht, if_neg (fun q => ht q.1)]
    rfl
theorem p_wide {h : Hq} (F : FXM h.2) (X : TXM h.2) {t : Int} (ht : isT h.2 t) {l : Nat} (hl : l < 10) : vm 237 [(2, 88), (0, t), (0, (l : Int))] h = some (some (0, hv (tex h.2 t 2) l), h) := by
  have T := isT.r X ht
  have Y := X.lv ht
  rw [e_X12_wide, if_pos g88, p_of F T.1 (by omega) (by decide) (by decide)]
  simp only [Option.bind_some, vx_some]
  rw [p_halved _ l h (by omega) (by omega)]
  rfl
theorem p_high {h : Hq} (F : FXM h.2) (X : TXM h.2) {t : Int} (ht : isT h.2 t) {l : Nat} (hl : l < 10) : vm 238 [(2, 88), (0, t), (0, (l : Int))] h = some (some (0, hv (tex h.2 t 3) l), h) := by
  have T := isT.r X ht
  have Y := X.lv ht
  rw [e_X12_high, if_pos g88, p_of F T.1 (by omega) (by decide) (by decide)]
  simp only [Option.bind_some, vx_some]
  rw [p_halved _ l h (by omega) (by omega)]
  rfl
/-- the first place of a level -/
abbrev fst' (m : Mm) (t : Int) (l : Nat) : Int := tex m t 1 + plc (tex m t 2) (tex m t 3) l
theorem TXM.fs {m : Mm} (X : TXM m) {t : Int} (ht : isT m t) : 0 ≤ tex m t 1 ∧ tex m t 1 + plc (tex m t 2) (tex m t 3) (tex m t 4).toNat ≤ m 94 (tex m t 0) := (X.2 t ht.1 ht.2).2.2.1
theorem p_firstOf {h : Hq} (F : FXM h.2) (X : TXM h.2) {t : Int} (ht : isT h.2 t) {l : Nat} (hl : l ≤ 10) (hb : tex h.2 t 1 ≤ 1000000) : vm 239 [(2, 88), (0, t), (0, (l : Int))] h = some (some (0, fst' h.2 t l), h) := by
  have T := isT.r X ht
  have Y := X.lv ht
  have Z := X.fs ht
  have P := plc_rng (w := tex h.2 t 2) (h := tex h.2 t 3) (by omega) (by omega) (by omega) (by omega) l
  rw [e_X12_firstOf, if_pos g88, p_of F T.1 (by omega) (by decide) (by decide)]
  simp only [Option.bind_some, vx_some]
  rw [if_pos g88, p_of F T.1 (by omega) (by decide) (by decide)]
  simp only [Option.bind_some, vx_some]
  rw [if_pos g88, p_of F T.1 (by omega) (by decide) (by decide)]
  simp only [Option.bind_some, vx_some]
  rw [p_placesOf _ _ l h (by omega) (by omega) (by omega) (by omega) hl]
  show some (some (0, w32 (tex h.2 t 1 + plc (tex h.2 t 2) (tex h.2 t 3) l)), h) = _
  rw [w32_i (by omega) (by omega)]
