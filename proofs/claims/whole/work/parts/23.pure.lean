/-! THE PURE PART: the fixed links, the model's textures -/
/-- the fields that never change: the model's -/
def FXM (m : Mm) : Prop := m 88 0 = 89 ∧ m 88 13 = 90 ∧ m 88 14 = 91 ∧ m 88 15 = 92 ∧ m 88 16 = 93 ∧ m 88 17 = 94 ∧ m 88 18 = 95 ∧ m 88 19 = 96 ∧ m 88 22 = 97 ∧ m 88 23 = 98 ∧ m 88 24 = 99 ∧ m 88 25 = 100 ∧ m 88 27 = 101 ∧ m 88 28 = 102 ∧ m 88 31 = 103 ∧ m 88 32 = 104 ∧ m 88 33 = 105 ∧ m 88 37 = 106 ∧ m 88 38 = 107 ∧ m 88 39 = 108
theorem FXM.f0 {m : Mm} (h : FXM m) : m 88 0 = 89 := h.1
theorem FXM.f13 {m : Mm} (h : FXM m) : m 88 13 = 90 := h.2.1
theorem FXM.f14 {m : Mm} (h : FXM m) : m 88 14 = 91 := h.2.2.1
theorem FXM.f15 {m : Mm} (h : FXM m) : m 88 15 = 92 := h.2.2.2.1
theorem FXM.f16 {m : Mm} (h : FXM m) : m 88 16 = 93 := h.2.2.2.2.1
theorem FXM.f17 {m : Mm} (h : FXM m) : m 88 17 = 94 := h.2.2.2.2.2.1
theorem FXM.f18 {m : Mm} (h : FXM m) : m 88 18 = 95 := h.2.2.2.2.2.2.1
theorem FXM.f19 {m : Mm} (h : FXM m) : m 88 19 = 96 := h.2.2.2.2.2.2.2.1
theorem FXM.f22 {m : Mm} (h : FXM m) : m 88 22 = 97 := h.2.2.2.2.2.2.2.2.1
theorem FXM.f23 {m : Mm} (h : FXM m) : m 88 23 = 98 := h.2.2.2.2.2.2.2.2.2.1
theorem FXM.f24 {m : Mm} (h : FXM m) : m 88 24 = 99 := h.2.2.2.2.2.2.2.2.2.2.1
theorem FXM.f25 {m : Mm} (h : FXM m) : m 88 25 = 100 := h.2.2.2.2.2.2.2.2.2.2.2.1
theorem FXM.f27 {m : Mm} (h : FXM m) : m 88 27 = 101 := h.2.2.2.2.2.2.2.2.2.2.2.2.1
theorem FXM.f28 {m : Mm} (h : FXM m) : m 88 28 = 102 := h.2.2.2.2.2.2.2.2.2.2.2.2.2.1
theorem FXM.f31 {m : Mm} (h : FXM m) : m 88 31 = 103 := h.2.2.2.2.2.2.2.2.2.2.2.2.2.2.1
theorem FXM.f32 {m : Mm} (h : FXM m) : m 88 32 = 104 := h.2.2.2.2.2.2.2.2.2.2.2.2.2.2.2.1
theorem FXM.f33 {m : Mm} (h : FXM m) : m 88 33 = 105 := h.2.2.2.2.2.2.2.2.2.2.2.2.2.2.2.2.1
theorem FXM.f37 {m : Mm} (h : FXM m) : m 88 37 = 106 := h.2.2.2.2.2.2.2.2.2.2.2.2.2.2.2.2.2.1
theorem FXM.f38 {m : Mm} (h : FXM m) : m 88 38 = 107 := h.2.2.2.2.2.2.2.2.2.2.2.2.2.2.2.2.2.2.1
theorem FXM.f39 {m : Mm} (h : FXM m) : m 88 39 = 108 := h.2.2.2.2.2.2.2.2.2.2.2.2.2.2.2.2.2.2.2
theorem g88 : (0 : Int) < 88 ∧ (kd 88).1 = 12 := ⟨by decide, rfl⟩
/-- halved so often, at least one; the places of the first so many levels -/
def hv (w : Int) (l : Nat) : Int := max 1 (w / 2 ^ l)
def plc (w h : Int) : Nat → Int
  | 0 => 0
  | l + 1 => plc w h l + hv w l * hv h l
theorem hv_rng {w : Int} (l : Nat) (h0 : 1 ≤ w) (h1 : w ≤ 16) : 1 ≤ hv w l ∧ hv w l ≤ 16 := by
  unfold hv
  have : w / 2 ^ l ≤ w := Int.ediv_le_self _ (by omega)
  omega
theorem plc_rng {w h : Int} (w0 : 1 ≤ w) (w1 : w ≤ 16) (h0 : 1 ≤ h) (h1 : h ≤ 16) : ∀ l : Nat, 0 ≤ plc w h l ∧ plc w h l ≤ 256 * l
  | 0 => ⟨Int.le_refl _, Int.le_refl _⟩
  | l + 1 => by
    obtain ⟨a, b⟩ := plc_rng w0 w1 h0 h1 l
    obtain ⟨c, d⟩ := hv_rng l w0 w1
    obtain ⟨e, f⟩ := hv_rng l h0 h1
    have g1 : 0 ≤ hv w l * hv h l := Int.mul_nonneg (by omega) (by omega)
    have g2 : hv w l * hv h l ≤ 16 * 16 := Int.mul_le_mul d f (by omega) (by omega)
    unfold plc
    omega
theorem p_halved (w : Int) (l : Nat) (h : Hq) (hw : -2147483648 ≤ w ∧ w < 2147483648) (hl : l < 32) : vm 198 [(0, w), (0, (l : Int))] h = some (some (0, hv w l), h) := by
  rw [e_X12_halved, bshr_eq w l hw hl, p_greater]
  rfl
theorem p_placesOf_5 (w h' : Int) (L : Nat) (h : Hq) (w0 : 1 ≤ w) (w1 : w ≤ 16) (h0 : 1 ≤ h') (h1 : h' ≤ 16) (hL : L ≤ 10) : ∀ k : Nat, ∀ l : Nat, l + k = L → vp 199 5 [(0, w), (0, h'), (0, (L : Int)), (0, plc w h' l), (0, (l : Int))] [] h = some (some (0, plc w h' L), h)
  | 0, l, e => by
    have : l = L := by omega
    subst this
    rw [e_X12_placesOf_5, if_pos (Int.le_refl _)]
  | k + 1, l, e => by
    rw [e_X12_placesOf_5, if_neg (by omega), p_halved w l h (by omega) (by omega)]
    show (vm 198 [(0, h'), (0, (l : Int))] h).bind _ = _
    rw [p_halved h' l h (by omega) (by omega)]
    show vp 199 5 [(0, w), (0, h'), (0, (L : Int)), (0, w32 (plc w h' l + w32 (hv w l * hv h' l))), (0, w32 ((l : Int) + 1))] [] h = _
    obtain ⟨a, b⟩ := plc_rng w0 w1 h0 h1 l
    obtain ⟨c, d⟩ := hv_rng l w0 w1
    obtain ⟨e1, f⟩ := hv_rng l h0 h1
    have g1 : 0 ≤ hv w l * hv h' l := Int.mul_nonneg (by omega) (by omega)
    have g2 : hv w l * hv h' l ≤ 16 * 16 := Int.mul_le_mul d f (by omega) (by omega)
    rw [w32_i (x := hv w l * hv h' l) (by omega) (by omega), w32_i (x := plc w h' l + hv w l * hv h' l) (by omega) (by omega), w32_i (x := (l : Int) + 1) (by omega) (by omega)]
    exact p_placesOf_5 w h' L h w0 w1 h0 h1 hL k (l + 1) (by omega)
theorem p_placesOf (w h' : Int) (L : Nat) (h : Hq) (w0 : 1 ≤ w) (w1 : w ≤ 16) (h0 : 1 ≤ h') (h1 : h' ≤ 16) (hL : L ≤ 10) : vm 199 [(0, w), (0, h'), (0, (L : Int))] h = some (some (0, plc w h' L), h) := by
  rw [e_X12_placesOf]
  exact p_placesOf_5 w h' L h w0 w1 h0 h1 hL L 0 (by omega)
/-- what the model holds of a texture -/
abbrev tex (m : Mm) (t w : Int) : Int := m 95 (7 * t + w)
theorem p_of {h : Hq} (F : FXM h.2) {t w : Int} (t0 : 0 ≤ t) (t1 : t < 8) (w0 : 0 ≤ w) (w1 : w < 7) : vm 234 [(2, 88), (0, t), (0, w)] h = some (some (0, tex h.2 t w), h) := by
  rw [e_X12_of, if_pos g88, F.f18, w32_i (x := 7 * t) (by omega) (by omega), w32_i (x := 7 * t + w) (by omega) (by omega), if_pos ⟨rfl, by omega, by show 7 * t + w < 56; omega⟩]
/-- the model's textures are such as can be told -/
def TXM (m : Mm) : Prop := (0 ≤ m 90 4 ∧ m 90 4 ≤ 4) ∧ ∀ t : Int, 0 ≤ t → t < m 90 4 → (0 ≤ tex m t 0 ∧ tex m t 0 < m 90 3 ∧ 1 ≤ m 93 (tex m t 0) ∧ m 93 (tex m t 0) ≤ 7) ∧ (∃ a b : Nat, a ≤ 4 ∧ b ≤ 4 ∧ tex m t 2 = 2 ^ a ∧ tex m t 3 = 2 ^ b ∧ 1 ≤ tex m t 4 ∧ tex m t 4 ≤ 1 + (max a b : Nat)) ∧ (0 ≤ tex m t 1 ∧ tex m t 1 + plc (tex m t 2) (tex m t 3) (tex m t 4).toNat ≤ m 94 (tex m t 0)) ∧ (0 ≤ tex m t 5 ∧ tex m t 5 ≤ 2) ∧ 0 ≤ tex m t 6 ∧ tex m t 6 ≤ 2
