/-! THE PURE PART: wrapped texels of the model -/
def wrp (k c n : Int) : Int := if k = 0 then c % n else if k = 1 then (if c < 0 then 0 else min c (n - 1)) else (if c % (2 * n) < n then c % (2 * n) else 2 * n - 1 - c % (2 * n))
theorem wrp_rng {k c n : Int} (n0 : 1 ≤ n) : 0 ≤ wrp k c n ∧ wrp k c n < n := by
  have a1 := Int.emod_nonneg c (show n ≠ 0 by omega)
  have a2 := Int.emod_lt_of_pos c (show 0 < n by omega)
  have a3 := Int.emod_nonneg c (show 2 * n ≠ 0 by omega)
  have a4 := Int.emod_lt_of_pos c (show 0 < 2 * n by omega)
  unfold wrp
  split
  · exact ⟨a1, a2⟩
  · split
    · split <;> omega
    · split <;> omega
theorem p_wrapped {h : Hq} (F : FXM h.2) (X : TXM h.2) {t c n : Int} (ht : isT h.2 t) (c0 : -1000000 ≤ c) (c1 : c ≤ 1000000) (n0 : 1 ≤ n) (n1 : n ≤ 16) : vm 263 [(2, 88), (0, t), (0, c), (0, n)] h = some (some (0, wrp (tex h.2 t 6) c n), h) := by
  have T := isT.r X ht
  have W := (X.2 t ht.1 ht.2).2.2.2.2
  have a3 := Int.emod_nonneg c (show 2 * n ≠ 0 by omega)
  have a4 := Int.emod_lt_of_pos c (show 0 < 2 * n by omega)
  rw [e_X12_wrapped, if_pos g88, p_of F T.1 (by omega) (by decide) (by decide)]
  simp only [Option.bind_some, vx_some]
  unfold wrp
  by_cases k0 : tex h.2 t 6 = 0
  · rw [if_neg (show ¬ tex h.2 t 6 ≠ 0 by omega), if_pos k0, p_rest c n h (by omega) (by omega) (by omega) (by omega)]
    rfl
  · rw [if_pos k0, if_neg k0, if_pos g88, p_of F T.1 (by omega) (by decide) (by decide)]
    simp only [Option.bind_some, vx_some]
    by_cases k1 : tex h.2 t 6 = 1
    · rw [if_neg (show ¬ tex h.2 t 6 ≠ 1 by omega), if_pos k1]
      by_cases hc : c < 0
      · rw [if_neg (show ¬ c ≥ 0 by omega), if_pos hc]
      · rw [if_pos (show c ≥ 0 by omega), if_neg hc, w32_i (x := n - 1) (by omega) (by omega), p_lesser]
        rfl
    · rw [if_pos k1, if_neg k1, w32_i (x := 2 * n) (by omega) (by omega), p_rest c (2 * n) h (by omega) (by omega) (by omega) (by omega)]
      simp only [Option.bind_some, vx_some]
      by_cases hm : c % (2 * n) < n
      · rw [if_neg (show ¬ c % (2 * n) ≥ n by omega), if_pos hm]
      · rw [if_pos (show c % (2 * n) ≥ n by omega), if_neg hm, w32_i (x := 2 * n - 1) (by omega) (by omega), w32_i (x := 2 * n - 1 - c % (2 * n)) (by omega) (by omega)]
/-- a wrapped texel's number -/
def wtM (m : Mm) (t : Int) (l : Nat) (x y : Int) : Int := txM m t l (wrp (tex m t 6) x (hv (tex m t 2) l)) (wrp (tex m t 6) y (hv (tex m t 3) l))
theorem isX_w {m : Mm} (X : TXM m) {t : Int} (ht : isT m t) {l : Nat} (hl : (l : Int) < tex m t 4) (x y : Int) : isX m t l (wrp (tex m t 6) x (hv (tex m t 2) l)) (wrp (tex m t 6) y (hv (tex m t 3) l)) := by
  have Y := X.lv ht
  exact ⟨ht, hl, wrp_rng (hv_rng l (by omega) (by omega)).1, wrp_rng (hv_rng l (by omega) (by omega)).1⟩
theorem p_wrappedTexel {h : Hq} (F : FXM h.2) (X : TXM h.2) (K : KLM h.2) (ha : -1 ≤ h.2 88 30 ∧ h.2 88 30 ≤ 2) {t : Int} {l : Nat} {x y : Int} (ht : isT h.2 t) (hl : (l : Int) < tex h.2 t 4) (x0 : -1000000 ≤ x) (x1 : x ≤ 1000000) (y0 : -1000000 ≤ y) (y1 : y ≤ 1000000) : vm 265 [(2, 88), (0, t), (0, (l : Int)), (0, x), (0, y)] h = some (some (0, wtM h.2 t l x y), h) := by
  have Y := X.lv ht
  have W := hv_rng (w := tex h.2 t 2) l (by omega) (by omega)
  have V := hv_rng (w := tex h.2 t 3) l (by omega) (by omega)
  rw [e_X12_wrappedTexel, if_pos g88, p_wide F X ht (by omega)]
  simp only [Option.bind_some, vx_some]
  rw [if_pos g88, p_wrapped F X ht x0 x1 W.1 W.2]
  simp only [Option.bind_some, vx_some]
  rw [if_pos g88, p_high F X ht (by omega)]
  simp only [Option.bind_some, vx_some]
  rw [if_pos g88, p_wrapped F X ht y0 y1 V.1 V.2]
  simp only [Option.bind_some, vx_some]
  rw [if_pos g88, p_texelAt F X K ha (isX_w X ht hl x y)]
  rfl
theorem p_isX {h : Hq} (F : FXM h.2) (X : TXM h.2) (t l x y : Int) : vm 240 [(2, 88), (0, t), (0, l), (0, x), (0, y)] h = some (some (0, if ((0 ≤ t ∧ t < h.2 90 4) ∧ 0 ≤ l ∧ l < tex h.2 t 4) ∧ (0 ≤ x ∧ x < hv (tex h.2 t 2) l.toNat) ∧ 0 ≤ y ∧ y < hv (tex h.2 t 3) l.toNat then 1 else 0), h) := by
  rw [e_X12_isTexel, if_pos g88, p_isL F X]
  simp only [Option.bind_some, vx_some]
  by_cases hl : (0 ≤ t ∧ t < h.2 90 4) ∧ 0 ≤ l ∧ l < tex h.2 t 4
  · have ht : isT h.2 t := hl.1
    have Y := X.lv ht
    obtain ⟨k, rfl⟩ : ∃ k : Nat, l = k := ⟨l.toNat, by omega⟩
    have W := hv_rng (w := tex h.2 t 2) k (by omega) (by omega)
    have V := hv_rng (w := tex h.2 t 3) k (by omega) (by omega)
    rw [if_pos hl, if_neg (show ¬ (1 : Int) = 0 by decide), if_pos g88, p_wide F X ht (by omega)]
    simp only [Option.bind_some, vx_some]
    rw [w32_i (x := hv (tex h.2 t 2) k - 1) (by omega) (by omega), p_isIn]
    simp only [Option.bind_some, vx_some]
    show _ = some (some (0, if ((0 ≤ t ∧ t < h.2 90 4) ∧ 0 ≤ (k : Int) ∧ (k : Int) < tex h.2 t 4) ∧ (0 ≤ x ∧ x < hv (tex h.2 t 2) k) ∧ 0 ≤ y ∧ y < hv (tex h.2 t 3) k then 1 else 0), h)
    by_cases hx : 0 ≤ x ∧ x < hv (tex h.2 t 2) k
    · rw [if_pos (show 0 ≤ x ∧ x ≤ hv (tex h.2 t 2) k - 1 by omega), if_neg (show ¬ (1 : Int) = 0 by decide), if_pos g88, p_high F X ht (by omega)]
      simp only [Option.bind_some, vx_some]
      rw [w32_i (x := hv (tex h.2 t 3) k - 1) (by omega) (by omega), p_isIn]
      simp only [Option.bind_some, vx_some]
      by_cases hy : 0 ≤ y ∧ y < hv (tex h.2 t 3) k
      · rw [if_pos (show 0 ≤ y ∧ y ≤ hv (tex h.2 t 3) k - 1 by omega), if_neg (show ¬ (1 : Int) = 0 by decide), if_pos ⟨hl, hx, hy⟩]
      · rw [if_neg (show ¬ (0 ≤ y ∧ y ≤ hv (tex h.2 t 3) k - 1) by omega), if_pos (show (0 : Int) = 0 from rfl), if_neg (fun q => hy q.2.2)]
    · rw [if_neg (show ¬ (0 ≤ x ∧ x ≤ hv (tex h.2 t 2) k - 1) by omega), if_pos (show (0 : Int) = 0 from rfl), if_neg (fun q => hx q.2.1)]
  · rw [if_neg hl, if_pos (show (0 : Int) = 0 from rfl), if_neg (fun q => hl q.1)]
