/-! THE PURE PART: texels of the model -/
/-- the order that holds: the one that is tried, else the texture's -/
def ordM (m : Mm) (t : Int) : Int := if m 88 30 = -1 then tex m t 5 else m 88 30
theorem p_behind {h : Hq} (F : FXM h.2) (X : TXM h.2) {t : Int} (ht : isT h.2 t) {l : Nat} (hl : l < 10) {x y : Int} (x0 : 0 ≤ x) (x1 : x ≤ 300) (y0 : 0 ≤ y) (y1 : y ≤ 300) : vm 244 [(2, 88), (0, t), (0, (l : Int)), (0, x), (0, y)] h = some (some (0, bhd (ordM h.2 t) (hv (tex h.2 t 2) l) (hv (tex h.2 t 3) l) x y), h) := by
  have T := isT.r X ht
  have Y := X.lv ht
  have W := hv_rng (w := tex h.2 t 2) l (by omega) (by omega)
  have V := hv_rng (w := tex h.2 t 3) l (by omega) (by omega)
  rw [e_X12_behind, if_pos g88, p_wide F X ht hl]
  simp only [Option.bind_some, vx_some]
  rw [if_pos g88, p_high F X ht hl]
  simp only [Option.bind_some, vx_some]
  rw [if_pos g88]
  unfold ordM
  by_cases ha : h.2 88 30 = -1
  · rw [if_pos ha, if_pos ha, if_pos g88, p_of F T.1 (by omega) (by decide) (by decide)]
    simp only [Option.bind_some, vx_some]
    exact p_behind_37 x0 x1 y0 y1 (by omega) (by omega) (by omega) (by omega)
  · rw [if_neg ha, if_neg ha, if_pos g88]
    exact p_behind_37 x0 x1 y0 y1 (by omega) (by omega) (by omega) (by omega)
