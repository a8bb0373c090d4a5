/-! THE PURE PART: the model's places and texels -/
/-- the model's stores -/
def KLM (m : Mm) : Prop := (0 ≤ m 90 3 ∧ m 90 3 ≤ 6) ∧ ∀ s : Int, 0 ≤ s → s < m 90 3 → (0 ≤ m 93 s ∧ m 93 s ≤ 11) ∧ (0 ≤ m 94 s ∧ m 94 s ≤ 400) ∧ (m 93 s ≤ 9 → 1 ≤ m 94 s) ∧ (10 ≤ m 93 s → m 94 s = 0)
theorem hv_sz : ∀ a, a ≤ 4 → ∀ l, l < 10 → ∃ b ∈ sz5, hv (2 ^ a) l = (b : Int) := by decide +kernel
theorem TXM.sz {m : Mm} (X : TXM m) {t : Int} (ht : isT m t) {l : Nat} (hl : l < 10) : (∃ b ∈ sz5, hv (tex m t 2) l = (b : Int)) ∧ ∃ b ∈ sz5, hv (tex m t 3) l = (b : Int) := by
  obtain ⟨a, b, ha, hb, e1, e2, h1, h2⟩ := (X.2 t ht.1 ht.2).2.1
  exact ⟨by rw [e1]; exact hv_sz a ha l hl, by rw [e2]; exact hv_sz b hb l hl⟩
/-- a texture's store, its first place -/
theorem TXM.st {m : Mm} (X : TXM m) (K : KLM m) {t : Int} (ht : isT m t) : (0 ≤ tex m t 0 ∧ tex m t 0 < m 90 3 ∧ tex m t 0 < 6) ∧ (1 ≤ m 93 (tex m t 0) ∧ m 93 (tex m t 0) ≤ 7) ∧ m 94 (tex m t 0) ≤ 400 := by
  have h := (X.2 t ht.1 ht.2).1
  have k := K.2 (tex m t 0) h.1 h.2.1
  have := K.1
  omega
theorem plc_mono {w h : Int} (w0 : 1 ≤ w) (w1 : w ≤ 16) (h0 : 1 ≤ h) (h1 : h ≤ 16) {a b : Nat} (hab : a ≤ b) : plc w h a ≤ plc w h b := by
  induction hab with
  | refl => exact Int.le_refl _
  | @step b _ ih =>
    have c := (hv_rng b w0 w1).1
    have d := (hv_rng b h0 h1).1
    have : 0 ≤ hv w b * hv h b := Int.mul_nonneg (by omega) (by omega)
    show _ ≤ plc w h b + hv w b * hv h b
    omega
/-- a level lies within its store -/
theorem TXM.lvl {m : Mm} (X : TXM m) (K : KLM m) {t : Int} (ht : isT m t) {l : Nat} (hl : (l : Int) < tex m t 4) : 0 ≤ fst' m t l ∧ fst' m t l + hv (tex m t 2) l * hv (tex m t 3) l ≤ m 94 (tex m t 0) ∧ fst' m t l + hv (tex m t 2) l * hv (tex m t 3) l ≤ 400 := by
  have Y := X.lv ht
  have S := X.st K ht
  have Z := X.fs ht
  have P := plc_rng (w := tex m t 2) (h := tex m t 3) (by omega) (by omega) (by omega) (by omega) l
  have Q := plc_mono (w := tex m t 2) (h := tex m t 3) (by omega) (by omega) (by omega) (by omega) (show l + 1 ≤ (tex m t 4).toNat by omega)
  have e : plc (tex m t 2) (tex m t 3) (l + 1) = plc (tex m t 2) (tex m t 3) l + hv (tex m t 2) l * hv (tex m t 3) l := rfl
  show 0 ≤ tex m t 1 + plc (tex m t 2) (tex m t 3) l ∧ tex m t 1 + plc (tex m t 2) (tex m t 3) l + _ ≤ _ ∧ tex m t 1 + plc (tex m t 2) (tex m t 3) l + _ ≤ _
  omega
/-- the place of a texel -/
def plM (m : Mm) (t : Int) (l : Nat) (x y : Int) : Int := fst' m t l + bhd (ordM m t) (hv (tex m t 2) l) (hv (tex m t 3) l) x y
def isX (m : Mm) (t : Int) (l : Nat) (x y : Int) : Prop := isT m t ∧ (l : Int) < tex m t 4 ∧ (0 ≤ x ∧ x < hv (tex m t 2) l) ∧ 0 ≤ y ∧ y < hv (tex m t 3) l
theorem plM_rng {m : Mm} (X : TXM m) (K : KLM m) (ha : -1 ≤ m 88 30 ∧ m 88 30 ≤ 2) {t : Int} {l : Nat} {x y : Int} (hx : isX m t l x y) : fst' m t l ≤ plM m t l x y ∧ plM m t l x y < fst' m t l + hv (tex m t 2) l * hv (tex m t 3) l ∧ 0 ≤ plM m t l x y ∧ plM m t l x y < m 94 (tex m t 0) ∧ plM m t l x y < 400 := by
  obtain ⟨ht, hl, ⟨x0, x1⟩, y0, y1⟩ := hx
  have Y := X.lv ht
  have Z := X.sz ht (show l < 10 by omega)
  have o := (X.2 t ht.1 ht.2).2.2.2.1
  have B := bhd_rng (o := ordM m t) (by unfold ordM; split <;> omega) Z.1 Z.2 x0 x1 y0 y1
  have V := X.lvl K ht hl
  unfold plM
  omega
theorem p_placeOf {h : Hq} (F : FXM h.2) (X : TXM h.2) (K : KLM h.2) (ha : -1 ≤ h.2 88 30 ∧ h.2 88 30 ≤ 2) {t : Int} {l : Nat} {x y : Int} (hx : isX h.2 t l x y) : vm 245 [(2, 88), (0, t), (0, (l : Int)), (0, x), (0, y)] h = some (some (0, plM h.2 t l x y), h) := by
  have R := plM_rng X K ha hx
  obtain ⟨ht, hl, ⟨x0, x1⟩, y0, y1⟩ := hx
  have Y := X.lv ht
  have V := X.lvl K ht hl
  have W := hv_rng (w := tex h.2 t 2) l (by omega) (by omega)
  have U := hv_rng (w := tex h.2 t 3) l (by omega) (by omega)
  have S := X.st K ht
  have Z := X.fs ht
  have P := plc_rng (w := tex h.2 t 2) (h := tex h.2 t 3) (by omega) (by omega) (by omega) (by omega) (tex h.2 t 4).toNat
  rw [e_X12_placeOf, if_pos g88, p_firstOf F X ht (by omega) (by omega)]
  simp only [Option.bind_some, vx_some]
  rw [if_pos g88, p_behind F X ht (by omega) x0 (by omega) y0 (by omega)]
  simp only [Option.bind_some, vx_some]
  rw [w32_i (by unfold plM at R; omega) (by unfold plM at R; omega)]
  rfl
theorem p_numberAt {h : Hq} (F : FXM h.2) {s p : Int} (s0 : 0 ≤ s) (s1 : s < 6) (p0 : 0 ≤ p) (p1 : p < 400) : vm 211 [(2, 88), (0, s), (0, p)] h = some (some (0, h.2 97 (400 * s + p)), h) := by
  rw [e_X12_numberAt, if_pos g88, F.f22, w32_i (x := 400 * s) (by omega) (by omega), w32_i (x := 400 * s + p) (by omega) (by omega), if_pos ⟨rfl, by omega, by show 400 * s + p < 2400; omega⟩]
/-- a texel's number -/
def txM (m : Mm) (t : Int) (l : Nat) (x y : Int) : Int := m 97 (400 * tex m t 0 + plM m t l x y)
theorem p_texelAt {h : Hq} (F : FXM h.2) (X : TXM h.2) (K : KLM h.2) (ha : -1 ≤ h.2 88 30 ∧ h.2 88 30 ≤ 2) {t : Int} {l : Nat} {x y : Int} (hx : isX h.2 t l x y) : vm 248 [(2, 88), (0, t), (0, (l : Int)), (0, x), (0, y)] h = some (some (0, txM h.2 t l x y), h) := by
  have R := plM_rng X K ha hx
  have ht := hx.1
  have T := isT.r X ht
  have S := X.st K ht
  rw [e_X12_texelAt, if_pos g88, p_of F T.1 (by omega) (by decide) (by decide)]
  simp only [Option.bind_some, vx_some]
  rw [if_pos g88, p_placeOf F X K ha hx]
  simp only [Option.bind_some, vx_some]
  rw [if_pos g88, p_numberAt F S.1.1 S.1.2.2 R.2.2.1 R.2.2.2.2]
  rfl
