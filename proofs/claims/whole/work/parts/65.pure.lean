/-! THE PURE PART: what is made of the level below; stale -/
def inb (m : Mm) (t : Int) (l : Nat) (u v : Int) : Prop := (0 ≤ u ∧ u < hv (tex m t 2) l) ∧ 0 ≤ v ∧ v < hv (tex m t 3) l
noncomputable def bls (m : Mm) (t : Int) (l : Nat) (x y : Int) (r : Int → Int) : Nat → Int
  | 0 => 0
  | k + 1 => bls m t l x y r k + @ite Int (inb m t l (2 * x + (k : Int) % 2) (2 * y + (k : Int) / 2)) (Classical.propDecidable _) (r (plO m t (tex m t 5) l (2 * x + (k : Int) % 2) (2 * y + (k : Int) / 2))) 0
noncomputable def blc (m : Mm) (t : Int) (l : Nat) (x y : Int) : Nat → Int
  | 0 => 0
  | k + 1 => blc m t l x y k + @ite Int (inb m t l (2 * x + (k : Int) % 2) (2 * y + (k : Int) / 2)) (Classical.propDecidable _) 1 0
/-- made of the level l below -/
noncomputable def blV (m : Mm) (t : Int) (l : Nat) (x y : Int) (r : Int → Int) : Int := w32 ((bls m t l x y r 4).tdiv (blc m t l x y 4))
theorem bls_p {m : Mm} {t : Int} {l : Nat} {x y : Int} {r : Int → Int} {k : Nat} (h : inb m t l (2 * x + (k : Int) % 2) (2 * y + (k : Int) / 2)) : bls m t l x y r (k + 1) = bls m t l x y r k + r (plO m t (tex m t 5) l (2 * x + (k : Int) % 2) (2 * y + (k : Int) / 2)) ∧ blc m t l x y (k + 1) = blc m t l x y k + 1 := by
  constructor
  · show bls m t l x y r k + _ = _
    rw [if_pos h]
  · show blc m t l x y k + _ = _
    rw [if_pos h]
theorem bls_n {m : Mm} {t : Int} {l : Nat} {x y : Int} {r : Int → Int} {k : Nat} (h : ¬ inb m t l (2 * x + (k : Int) % 2) (2 * y + (k : Int) / 2)) : bls m t l x y r (k + 1) = bls m t l x y r k ∧ blc m t l x y (k + 1) = blc m t l x y k := by
  constructor
  · show bls m t l x y r k + _ = _
    rw [if_neg h, Int.add_zero]
  · show blc m t l x y k + _ = _
    rw [if_neg h, Int.add_zero]
/-- the numbers of a texture's row are within a million -/
def NB (m : Mm) (t : Int) (r : Int → Int) : Prop := ∀ p : Int, 0 ≤ p → p < m 94 (tex m t 0) → -1000000 ≤ r p ∧ r p ≤ 1000000
theorem bls_rng {m : Mm} (X : TXM m) (K : KLM m) {t : Int} (ht : isT m t) {l : Nat} (hl : (l : Int) < tex m t 4) {x y : Int} {r : Int → Int} (N : NB m t r) : ∀ k : Nat, (0 ≤ blc m t l x y k ∧ blc m t l x y k ≤ k) ∧ -(1000000 * blc m t l x y k) ≤ bls m t l x y r k ∧ bls m t l x y r k ≤ 1000000 * blc m t l x y k
  | 0 => by simp [bls, blc]
  | k + 1 => by
    have ih := bls_rng X K ht hl (x := x) (y := y) N k
    have W := X.wh ht hl
    by_cases h : inb m t l (2 * x + (k : Int) % 2) (2 * y + (k : Int) / 2)
    · have b := bls_p (r := r) h
      have Q := plO_rng X K W.2.2.2.2.2.1 W.2.2.2.2.2.2 (show isX m t l _ _ from ⟨ht, hl, h⟩)
      have n := N _ Q.2.2.1 Q.2.2.2.1
      rw [b.1, b.2]
      omega
    · have b := bls_n (r := r) h
      rw [b.1, b.2]
      omega
theorem hv_s (w : Int) (l : Nat) (w0 : 0 ≤ w) : hv w (l + 1) = max 1 (w / 2 ^ l / 2) := by
  unfold hv
  rw [Int.pow_succ, Int.ediv_ediv_of_nonneg (by
    have : (0 : Nat) < 2 ^ l := Nat.two_pow_pos l
    have h2 : ((2 ^ l : Nat) : Int) = (2 : Int) ^ l := by simp
    omega)]
theorem blc_1 {m : Mm} (X : TXM m) {t : Int} (ht : isT m t) {l : Nat} {x y : Int} (x0 : 0 ≤ x) (x1 : x < hv (tex m t 2) (l + 1)) (y0 : 0 ≤ y) (y1 : y < hv (tex m t 3) (l + 1)) : 1 ≤ blc m t l x y 4 := by
  have Y := X.lv ht
  rw [hv_s _ _ (by omega)] at x1 y1
  have h0 : inb m t l (2 * x + ((0 : Nat) : Int) % 2) (2 * y + ((0 : Nat) : Int) / 2) := by
    unfold inb hv
    omega
  have b0 := (bls_p (r := fun _ => 0) h0).2
  have mono : ∀ k : Nat, blc m t l x y k ≤ blc m t l x y (k + 1) := fun k => by
    by_cases h : inb m t l (2 * x + (k : Int) % 2) (2 * y + (k : Int) / 2)
    · rw [(bls_p (r := fun _ => 0) h).2]; omega
    · rw [(bls_n (r := fun _ => 0) h).2]; omega
  have m1 := mono 1
  have m2 := mono 2
  have m3 := mono 3
  have z : blc m t l x y 0 = 0 := rfl
  simp only [Nat.reduceAdd] at b0 m1 m2 m3
  omega
theorem tdiv_q {s c M : Int} (c1 : 1 ≤ c) (h0 : -(M * c) ≤ s) (h1 : s ≤ M * c) : -M ≤ s.tdiv c ∧ s.tdiv c ≤ M := by
  rw [tdv]
  split
  · have a := Int.ediv_le_of_le_mul (show 0 < c by omega) h1
    have b := Int.ediv_nonneg (show 0 ≤ s by omega) (show 0 ≤ c by omega)
    omega
  · have a := Int.ediv_le_of_le_mul (show 0 < c by omega) (show -s ≤ M * c by omega)
    have b := Int.ediv_nonneg (show 0 ≤ -s by omega) (show 0 ≤ c by omega)
    omega
theorem blV_rng {m : Mm} (X : TXM m) (K : KLM m) {t : Int} (ht : isT m t) {l : Nat} (hl : (l : Int) < tex m t 4) {x y : Int} (x0 : 0 ≤ x) (x1 : x < hv (tex m t 2) (l + 1)) (y0 : 0 ≤ y) (y1 : y < hv (tex m t 3) (l + 1)) {r : Int → Int} (N : NB m t r) : -1000000 ≤ blV m t l x y r ∧ blV m t l x y r ≤ 1000000 := by
  have b := bls_rng X K ht hl (x := x) (y := y) N 4
  have c := blc_1 X ht x0 x1 y0 y1
  have q := tdiv_q c b.2.1 b.2.2
  unfold blV
  rw [w32_i (by omega) (by omega)]
  exact q
theorem hv_100 {w x : Int} {l : Nat} (w0 : 1 ≤ w) (w1 : w ≤ 16) (h : x < hv w l) : x ≤ 100 := by
  have := hv_rng l w0 w1
  omega
theorem k2_m {k : Nat} : ((k : Nat) : Int).tmod 2 = (k : Int) % 2 := Int.tmod_eq_emod_of_nonneg (by omega)
theorem k2_d {k : Nat} (hk : k < 4) : w32 (((k : Nat) : Int).tdiv 2) = (k : Int) / 2 := by rw [Int.tdiv_eq_ediv_of_nonneg (by omega), w32_i (by omega) (by omega)]
theorem k2_x {x : Int} {k : Nat} (hk : k < 4) (x0 : 0 ≤ x) (x1 : x ≤ 100) : w32 (w32 (2 * x) + (k : Int) % 2) = 2 * x + (k : Int) % 2 := by rw [w32_i (x := 2 * x) (by omega) (by omega), w32_i (by omega) (by omega)]
theorem k2_y {y : Int} {k : Nat} (hk : k < 4) (y0 : 0 ≤ y) (y1 : y ≤ 100) : w32 (w32 (2 * y) + (k : Int) / 2) = 2 * y + (k : Int) / 2 := by rw [w32_i (x := 2 * y) (by omega) (by omega), w32_i (by omega) (by omega)]
theorem c_made14 {h : Hq} {T t : Int} (B : TB h.2 T t) (X : TXM h.2) (K : KLM h.2) (ht : isT h.2 t) {l : Nat} (hl : (l : Int) < tex h.2 t 4) {x y : Int} (x0 : 0 ≤ x) (x1 : x < hv (tex h.2 t 2) (l + 1)) (y0 : 0 ≤ y) (y1 : y < hv (tex h.2 t 3) (l + 1)) (N : NB h.2 t (h.2 (8 + tex h.2 t 0))) : ∀ (j k : Nat) (z1 z8 z9 : Vl), k + j = 4 → vp 101 14 [(2, T), z1, (0, x), (0, y), (0, (l : Int)), (0, bls h.2 t l x y (h.2 (8 + tex h.2 t 0)) k), (0, blc h.2 t l x y k), (0, (k : Int)), z8, z9] [] h = some (some (0, blV h.2 t l x y (h.2 (8 + tex h.2 t 0))), h) := by
  have RB := B.r
  have W := X.wh ht hl
  have X16 : x ≤ 100 ∧ y ≤ 100 := ⟨hv_100 (X.lv ht).2.2.1 (X.lv ht).2.2.2.1 x1, hv_100 (X.lv ht).2.2.2.2.1 (X.lv ht).2.2.2.2.2 y1⟩
  intro j
  induction j with
  | zero =>
    intro k z1 z8 z9 e
    have : k = 4 := by omega
    subst this
    have c := blc_1 X ht x0 x1 y0 y1
    clear x1 y1
    unfold blV
    generalize blc h.2 t l x y 4 = C at *
    generalize bls h.2 t l x y (h.2 (8 + tex h.2 t 0)) 4 = S at *
    show vp 101 14 [(2, T), z1, (0, x), (0, y), (0, (l : Int)), (0, S), (0, C), (0, (4 : Int)), z8, z9] [] h = _
    rw [e_X10_made_14]
    repeat first
      | (refine Eq.trans (if_pos ?_) ?_; · first | omega | (simp (disch := omega) only [Int.reduceLT, Int.reduceLE, Int.reduceEq, Int.reduceNe, Int.reduceNeg, Int.reduceAdd, Int.reduceSub, Int.reduceMul, Int.reduceGE, Int.reduceGT, Nat.reduceEqDiff, Nat.reduceAdd, and_true, true_and, and_self, not_true_eq_false, not_false_eq_true, ne_eq, and_false, false_and, or_false, or_true, false_or, true_or, vx_some, eq_self, ↓reduceIte, ite_t1, ite_t2, ite_t3, le_T, le_F, lt_T, lt_F, ge_T, ge_F, gt_T, gt_F, eq_T, eq_F, w32_i, kd_1, kd_2, kd_3, kd_4, kd_5, kd_6, kd_7, kd_14, kd_15, kd_16, kd_29, kd_34, kd_56, kd_74, kd_75, kd_76, kd_77, kd_78, kd_79, kd_80, kd_81, kd_82, kd_83, kd_84, kd_85, kd_86, kd_87, kd_88, kd_89, kd_90, kd_91, kd_92, kd_93, kd_94, kd_95, kd_96, kd_97, kd_98, kd_99, kd_100, kd_101, kd_102, kd_103, kd_104, kd_105, kd_106, kd_107, kd_108]; done))
      | (refine Eq.trans (if_neg ?_) ?_; · first | omega | (simp (disch := omega) only [Int.reduceLT, Int.reduceLE, Int.reduceEq, Int.reduceNe, Int.reduceNeg, Int.reduceAdd, Int.reduceSub, Int.reduceMul, Int.reduceGE, Int.reduceGT, Nat.reduceEqDiff, Nat.reduceAdd, and_true, true_and, and_self, not_true_eq_false, not_false_eq_true, ne_eq, and_false, false_and, or_false, or_true, false_or, true_or, vx_some, eq_self, ↓reduceIte, ite_t1, ite_t2, ite_t3, le_T, le_F, lt_T, lt_F, ge_T, ge_F, gt_T, gt_F, eq_T, eq_F, w32_i, kd_1, kd_2, kd_3, kd_4, kd_5, kd_6, kd_7, kd_14, kd_15, kd_16, kd_29, kd_34, kd_56, kd_74, kd_75, kd_76, kd_77, kd_78, kd_79, kd_80, kd_81, kd_82, kd_83, kd_84, kd_85, kd_86, kd_87, kd_88, kd_89, kd_90, kd_91, kd_92, kd_93, kd_94, kd_95, kd_96, kd_97, kd_98, kd_99, kd_100, kd_101, kd_102, kd_103, kd_104, kd_105, kd_106, kd_107, kd_108]; done))
      | (refine Eq.trans (bnd (r := ?_) ?_) ?_; rotate_left 1; (focus (simp (disch := omega) only [Int.reduceLT, Int.reduceLE, Int.reduceEq, Int.reduceNe, Int.reduceNeg, Int.reduceAdd, Int.reduceSub, Int.reduceMul, Int.reduceGE, Int.reduceGT, Nat.reduceEqDiff, Nat.reduceAdd, and_true, true_and, and_self, not_true_eq_false, not_false_eq_true, ne_eq, and_false, false_and, or_false, or_true, false_or, true_or, vx_some, eq_self, ↓reduceIte, ite_t1, ite_t2, ite_t3, le_T, le_F, lt_T, lt_F, ge_T, ge_F, gt_T, gt_F, eq_T, eq_F, w32_i, kd_1, kd_2, kd_3, kd_4, kd_5, kd_6, kd_7, kd_14, kd_15, kd_16, kd_29, kd_34, kd_56, kd_74, kd_75, kd_76, kd_77, kd_78, kd_79, kd_80, kd_81, kd_82, kd_83, kd_84, kd_85, kd_86, kd_87, kd_88, kd_89, kd_90, kd_91, kd_92, kd_93, kd_94, kd_95, kd_96, kd_97, kd_98, kd_99, kd_100, kd_101, kd_102, kd_103, kd_104, kd_105, kd_106, kd_107, kd_108]; exact rfl)); simp only [vx_some])
    all_goals first | rfl | (simp (disch := omega) only [Int.reduceLT, Int.reduceLE, Int.reduceEq, Int.reduceNe, Int.reduceNeg, Int.reduceAdd, Int.reduceSub, Int.reduceMul, Int.reduceGE, Int.reduceGT, Nat.reduceEqDiff, Nat.reduceAdd, and_true, true_and, and_self, not_true_eq_false, not_false_eq_true, ne_eq, and_false, false_and, or_false, or_true, false_or, true_or, vx_some, eq_self, ↓reduceIte, ite_t1, ite_t2, ite_t3, le_T, le_F, lt_T, lt_F, ge_T, ge_F, gt_T, gt_F, eq_T, eq_F, w32_i]; done)
  | succ j ih =>
    intro k z1 z8 z9 e
    have ih' := fun z1 z8 z9 => ih (k + 1) z1 z8 z9 (by omega)
    have b := bls_rng X K ht hl (x := x) (y := y) N (k + 1)
    clear x1 y1
    have hk4 : k < 4 := by omega
    have tm : ((k : Nat) : Int).tmod 2 = (k : Int) % 2 := k2_m
    have td : w32 (((k : Nat) : Int).tdiv 2) = (k : Int) / 2 := k2_d hk4
    have eu : w32 (w32 (2 * x) + (k : Int) % 2) = 2 * x + (k : Int) % 2 := k2_x hk4 x0 X16.1
    have ev : w32 (w32 (2 * y) + (k : Int) / 2) = 2 * y + (k : Int) / 2 := k2_y hk4 y0 X16.2
    have cH := c_hasTexel B hl W.2.2.1 (2 * x + (k : Int) % 2) (2 * y + (k : Int) / 2)
    refine Eq.trans (e_X10_made_14 _ _ _ _ _ _ _ _ _ _ _) ?_
    rw [tm, td, eu, ev]
    clear tm td eu ev
    by_cases z : inb h.2 t l (2 * x + (k : Int) % 2) (2 * y + (k : Int) / 2)
    · have bp := bls_p (r := h.2 (8 + tex h.2 t 0)) z
      rw [bp.1, bp.2] at ih' b
      rw [if_pos (by exact z)] at cH
      have cN := c_numberOf B X K (show isX h.2 t l _ _ from ⟨ht, hl, z⟩)
      clear bp
      generalize h.2 (8 + tex h.2 t 0) (plO h.2 t (tex h.2 t 5) l (2 * x + (k : Int) % 2) (2 * y + (k : Int) / 2)) = R at *
      generalize bls h.2 t l x y (h.2 (8 + tex h.2 t 0)) k = S at *
      generalize blc h.2 t l x y k = C at *
      generalize blV h.2 t l x y (h.2 (8 + tex h.2 t 0)) = V at *
      repeat first
        | (refine Eq.trans (if_pos ?_) ?_; · first | omega | (simp (disch := omega) only [B.k0, cH, cN, Int.reduceLT, Int.reduceLE, Int.reduceEq, Int.reduceNe, Int.reduceNeg, Int.reduceAdd, Int.reduceSub, Int.reduceMul, Int.reduceGE, Int.reduceGT, Nat.reduceEqDiff, Nat.reduceAdd, and_true, true_and, and_self, not_true_eq_false, not_false_eq_true, ne_eq, and_false, false_and, or_false, or_true, false_or, true_or, vx_some, eq_self, ↓reduceIte, ite_t1, ite_t2, ite_t3, le_T, le_F, lt_T, lt_F, ge_T, ge_F, gt_T, gt_F, eq_T, eq_F, w32_i, kd_1, kd_2, kd_3, kd_4, kd_5, kd_6, kd_7, kd_14, kd_15, kd_16, kd_29, kd_34, kd_56, kd_74, kd_75, kd_76, kd_77, kd_78, kd_79, kd_80, kd_81, kd_82, kd_83, kd_84, kd_85, kd_86, kd_87, kd_88, kd_89, kd_90, kd_91, kd_92, kd_93, kd_94, kd_95, kd_96, kd_97, kd_98, kd_99, kd_100, kd_101, kd_102, kd_103, kd_104, kd_105, kd_106, kd_107, kd_108]; done))
        | (refine Eq.trans (if_neg ?_) ?_; · first | omega | (simp (disch := omega) only [B.k0, cH, cN, Int.reduceLT, Int.reduceLE, Int.reduceEq, Int.reduceNe, Int.reduceNeg, Int.reduceAdd, Int.reduceSub, Int.reduceMul, Int.reduceGE, Int.reduceGT, Nat.reduceEqDiff, Nat.reduceAdd, and_true, true_and, and_self, not_true_eq_false, not_false_eq_true, ne_eq, and_false, false_and, or_false, or_true, false_or, true_or, vx_some, eq_self, ↓reduceIte, ite_t1, ite_t2, ite_t3, le_T, le_F, lt_T, lt_F, ge_T, ge_F, gt_T, gt_F, eq_T, eq_F, w32_i, kd_1, kd_2, kd_3, kd_4, kd_5, kd_6, kd_7, kd_14, kd_15, kd_16, kd_29, kd_34, kd_56, kd_74, kd_75, kd_76, kd_77, kd_78, kd_79, kd_80, kd_81, kd_82, kd_83, kd_84, kd_85, kd_86, kd_87, kd_88, kd_89, kd_90, kd_91, kd_92, kd_93, kd_94, kd_95, kd_96, kd_97, kd_98, kd_99, kd_100, kd_101, kd_102, kd_103, kd_104, kd_105, kd_106, kd_107, kd_108]; done))
        | (refine Eq.trans (bnd (r := ?_) ?_) ?_; rotate_left 1; (focus (simp (disch := omega) only [B.k0, cH, cN, Int.reduceLT, Int.reduceLE, Int.reduceEq, Int.reduceNe, Int.reduceNeg, Int.reduceAdd, Int.reduceSub, Int.reduceMul, Int.reduceGE, Int.reduceGT, Nat.reduceEqDiff, Nat.reduceAdd, and_true, true_and, and_self, not_true_eq_false, not_false_eq_true, ne_eq, and_false, false_and, or_false, or_true, false_or, true_or, vx_some, eq_self, ↓reduceIte, ite_t1, ite_t2, ite_t3, le_T, le_F, lt_T, lt_F, ge_T, ge_F, gt_T, gt_F, eq_T, eq_F, w32_i, kd_1, kd_2, kd_3, kd_4, kd_5, kd_6, kd_7, kd_14, kd_15, kd_16, kd_29, kd_34, kd_56, kd_74, kd_75, kd_76, kd_77, kd_78, kd_79, kd_80, kd_81, kd_82, kd_83, kd_84, kd_85, kd_86, kd_87, kd_88, kd_89, kd_90, kd_91, kd_92, kd_93, kd_94, kd_95, kd_96, kd_97, kd_98, kd_99, kd_100, kd_101, kd_102, kd_103, kd_104, kd_105, kd_106, kd_107, kd_108]; exact rfl)); simp only [vx_some])
      rw [w32_i (x := S + R) (by omega) (by omega), w32_i (x := C + 1) (by omega) (by omega), w32_i (x := (k : Int) + 1) (by omega) (by omega)]
      exact ih' _ _ _
    · have bp := bls_n (r := h.2 (8 + tex h.2 t 0)) z
      rw [bp.1, bp.2] at ih'
      rw [if_neg (by exact z)] at cH
      clear bp b
      generalize bls h.2 t l x y (h.2 (8 + tex h.2 t 0)) k = S at *
      generalize blc h.2 t l x y k = C at *
      generalize blV h.2 t l x y (h.2 (8 + tex h.2 t 0)) = V at *
      repeat first
        | (refine Eq.trans (if_pos ?_) ?_; · first | omega | (simp (disch := omega) only [B.k0, cH, Int.reduceLT, Int.reduceLE, Int.reduceEq, Int.reduceNe, Int.reduceNeg, Int.reduceAdd, Int.reduceSub, Int.reduceMul, Int.reduceGE, Int.reduceGT, Nat.reduceEqDiff, Nat.reduceAdd, and_true, true_and, and_self, not_true_eq_false, not_false_eq_true, ne_eq, and_false, false_and, or_false, or_true, false_or, true_or, vx_some, eq_self, ↓reduceIte, ite_t1, ite_t2, ite_t3, le_T, le_F, lt_T, lt_F, ge_T, ge_F, gt_T, gt_F, eq_T, eq_F, w32_i, kd_1, kd_2, kd_3, kd_4, kd_5, kd_6, kd_7, kd_14, kd_15, kd_16, kd_29, kd_34, kd_56, kd_74, kd_75, kd_76, kd_77, kd_78, kd_79, kd_80, kd_81, kd_82, kd_83, kd_84, kd_85, kd_86, kd_87, kd_88, kd_89, kd_90, kd_91, kd_92, kd_93, kd_94, kd_95, kd_96, kd_97, kd_98, kd_99, kd_100, kd_101, kd_102, kd_103, kd_104, kd_105, kd_106, kd_107, kd_108]; done))
        | (refine Eq.trans (if_neg ?_) ?_; · first | omega | (simp (disch := omega) only [B.k0, cH, Int.reduceLT, Int.reduceLE, Int.reduceEq, Int.reduceNe, Int.reduceNeg, Int.reduceAdd, Int.reduceSub, Int.reduceMul, Int.reduceGE, Int.reduceGT, Nat.reduceEqDiff, Nat.reduceAdd, and_true, true_and, and_self, not_true_eq_false, not_false_eq_true, ne_eq, and_false, false_and, or_false, or_true, false_or, true_or, vx_some, eq_self, ↓reduceIte, ite_t1, ite_t2, ite_t3, le_T, le_F, lt_T, lt_F, ge_T, ge_F, gt_T, gt_F, eq_T, eq_F, w32_i, kd_1, kd_2, kd_3, kd_4, kd_5, kd_6, kd_7, kd_14, kd_15, kd_16, kd_29, kd_34, kd_56, kd_74, kd_75, kd_76, kd_77, kd_78, kd_79, kd_80, kd_81, kd_82, kd_83, kd_84, kd_85, kd_86, kd_87, kd_88, kd_89, kd_90, kd_91, kd_92, kd_93, kd_94, kd_95, kd_96, kd_97, kd_98, kd_99, kd_100, kd_101, kd_102, kd_103, kd_104, kd_105, kd_106, kd_107, kd_108]; done))
        | (refine Eq.trans (bnd (r := ?_) ?_) ?_; rotate_left 1; (focus (simp (disch := omega) only [B.k0, cH, Int.reduceLT, Int.reduceLE, Int.reduceEq, Int.reduceNe, Int.reduceNeg, Int.reduceAdd, Int.reduceSub, Int.reduceMul, Int.reduceGE, Int.reduceGT, Nat.reduceEqDiff, Nat.reduceAdd, and_true, true_and, and_self, not_true_eq_false, not_false_eq_true, ne_eq, and_false, false_and, or_false, or_true, false_or, true_or, vx_some, eq_self, ↓reduceIte, ite_t1, ite_t2, ite_t3, le_T, le_F, lt_T, lt_F, ge_T, ge_F, gt_T, gt_F, eq_T, eq_F, w32_i, kd_1, kd_2, kd_3, kd_4, kd_5, kd_6, kd_7, kd_14, kd_15, kd_16, kd_29, kd_34, kd_56, kd_74, kd_75, kd_76, kd_77, kd_78, kd_79, kd_80, kd_81, kd_82, kd_83, kd_84, kd_85, kd_86, kd_87, kd_88, kd_89, kd_90, kd_91, kd_92, kd_93, kd_94, kd_95, kd_96, kd_97, kd_98, kd_99, kd_100, kd_101, kd_102, kd_103, kd_104, kd_105, kd_106, kd_107, kd_108]; exact rfl)); simp only [vx_some])
      rw [w32_i (x := (k : Int) + 1) (by omega) (by omega)]
      exact ih' _ _ _
theorem c_made {h : Hq} {T t : Int} (B : TB h.2 T t) (X : TXM h.2) (K : KLM h.2) (ht : isT h.2 t) {l : Nat} (hl : (l : Int) < tex h.2 t 4) {x y : Int} (x0 : 0 ≤ x) (x1 : x < hv (tex h.2 t 2) (l + 1)) (y0 : 0 ≤ y) (y1 : y < hv (tex h.2 t 3) (l + 1)) (N : NB h.2 t (h.2 (8 + tex h.2 t 0))) : vm 101 [(2, T), (0, ((l + 1 : Nat) : Int)), (0, x), (0, y)] h = some (some (0, blV h.2 t l x y (h.2 (8 + tex h.2 t 0))), h) := by
  have W := X.wh ht hl
  rw [e_X10_made, w32_i (by omega) (by omega), show ((l + 1 : Nat) : Int) - 1 = l by omega]
  exact c_made14 B X K ht hl x0 x1 y0 y1 N 4 0 _ _ _ rfl
theorem p_below9 {h : Hq} (F : FXM h.2) {t : Int} (X : TXM h.2) (K : KLM h.2) (O : h.2 88 30 = -1) (ht : isT h.2 t) {l : Nat} (hl : (l : Int) < tex h.2 t 4) {x y : Int} (x0 : 0 ≤ x) (x1 : x < hv (tex h.2 t 2) (l + 1)) (y0 : 0 ≤ y) (y1 : y < hv (tex h.2 t 3) (l + 1)) (N : NB h.2 t (fun p => h.2 97 (400 * tex h.2 t 0 + p))) : ∀ (j k : Nat) (z8 z9 : Vl), k + j = 4 → vp 252 9 [(2, 88), (0, t), (0, ((l + 1 : Nat) : Int)), (0, x), (0, y), (0, bls h.2 t l x y (fun p => h.2 97 (400 * tex h.2 t 0 + p)) k), (0, blc h.2 t l x y k), (0, (k : Int)), z8, z9] [] h = some (some (0, blV h.2 t l x y (fun p => h.2 97 (400 * tex h.2 t 0 + p))), h) := by
  have W := X.wh ht hl
  have X16 : x ≤ 100 ∧ y ≤ 100 := ⟨hv_100 (X.lv ht).2.2.1 (X.lv ht).2.2.2.1 x1, hv_100 (X.lv ht).2.2.2.2.1 (X.lv ht).2.2.2.2.2 y1⟩
  intro j
  induction j with
  | zero =>
    intro k z8 z9 e
    have : k = 4 := by omega
    subst this
    have c := blc_1 X ht x0 x1 y0 y1
    clear x1 y1
    unfold blV
    generalize blc h.2 t l x y 4 = C at *
    generalize bls h.2 t l x y (fun p => h.2 97 (400 * tex h.2 t 0 + p)) 4 = S at *
    show vp 252 9 [(2, 88), (0, t), (0, ((l + 1 : Nat) : Int)), (0, x), (0, y), (0, S), (0, C), (0, (4 : Int)), z8, z9] [] h = _
    refine Eq.trans (e_X12_below_9 _ _ _ _ _ _ _ _ _ _ _) ?_
    repeat first
      | (refine Eq.trans (if_pos ?_) ?_; · first | omega | (simp (disch := omega) only [Int.reduceLT, Int.reduceLE, Int.reduceEq, Int.reduceNe, Int.reduceNeg, Int.reduceAdd, Int.reduceSub, Int.reduceMul, Int.reduceGE, Int.reduceGT, Nat.reduceEqDiff, Nat.reduceAdd, and_true, true_and, and_self, not_true_eq_false, not_false_eq_true, ne_eq, and_false, false_and, or_false, or_true, false_or, true_or, vx_some, eq_self, ↓reduceIte, ite_t1, ite_t2, ite_t3, le_T, le_F, lt_T, lt_F, ge_T, ge_F, gt_T, gt_F, eq_T, eq_F, w32_i, kd_1, kd_2, kd_3, kd_4, kd_5, kd_6, kd_7, kd_14, kd_15, kd_16, kd_29, kd_34, kd_56, kd_74, kd_75, kd_76, kd_77, kd_78, kd_79, kd_80, kd_81, kd_82, kd_83, kd_84, kd_85, kd_86, kd_87, kd_88, kd_89, kd_90, kd_91, kd_92, kd_93, kd_94, kd_95, kd_96, kd_97, kd_98, kd_99, kd_100, kd_101, kd_102, kd_103, kd_104, kd_105, kd_106, kd_107, kd_108]; done))
      | (refine Eq.trans (if_neg ?_) ?_; · first | omega | (simp (disch := omega) only [Int.reduceLT, Int.reduceLE, Int.reduceEq, Int.reduceNe, Int.reduceNeg, Int.reduceAdd, Int.reduceSub, Int.reduceMul, Int.reduceGE, Int.reduceGT, Nat.reduceEqDiff, Nat.reduceAdd, and_true, true_and, and_self, not_true_eq_false, not_false_eq_true, ne_eq, and_false, false_and, or_false, or_true, false_or, true_or, vx_some, eq_self, ↓reduceIte, ite_t1, ite_t2, ite_t3, le_T, le_F, lt_T, lt_F, ge_T, ge_F, gt_T, gt_F, eq_T, eq_F, w32_i, kd_1, kd_2, kd_3, kd_4, kd_5, kd_6, kd_7, kd_14, kd_15, kd_16, kd_29, kd_34, kd_56, kd_74, kd_75, kd_76, kd_77, kd_78, kd_79, kd_80, kd_81, kd_82, kd_83, kd_84, kd_85, kd_86, kd_87, kd_88, kd_89, kd_90, kd_91, kd_92, kd_93, kd_94, kd_95, kd_96, kd_97, kd_98, kd_99, kd_100, kd_101, kd_102, kd_103, kd_104, kd_105, kd_106, kd_107, kd_108]; done))
      | (refine Eq.trans (bnd (r := ?_) ?_) ?_; rotate_left 1; (focus (simp (disch := omega) only [Int.reduceLT, Int.reduceLE, Int.reduceEq, Int.reduceNe, Int.reduceNeg, Int.reduceAdd, Int.reduceSub, Int.reduceMul, Int.reduceGE, Int.reduceGT, Nat.reduceEqDiff, Nat.reduceAdd, and_true, true_and, and_self, not_true_eq_false, not_false_eq_true, ne_eq, and_false, false_and, or_false, or_true, false_or, true_or, vx_some, eq_self, ↓reduceIte, ite_t1, ite_t2, ite_t3, le_T, le_F, lt_T, lt_F, ge_T, ge_F, gt_T, gt_F, eq_T, eq_F, w32_i, kd_1, kd_2, kd_3, kd_4, kd_5, kd_6, kd_7, kd_14, kd_15, kd_16, kd_29, kd_34, kd_56, kd_74, kd_75, kd_76, kd_77, kd_78, kd_79, kd_80, kd_81, kd_82, kd_83, kd_84, kd_85, kd_86, kd_87, kd_88, kd_89, kd_90, kd_91, kd_92, kd_93, kd_94, kd_95, kd_96, kd_97, kd_98, kd_99, kd_100, kd_101, kd_102, kd_103, kd_104, kd_105, kd_106, kd_107, kd_108]; exact rfl)); simp only [vx_some])
    all_goals first | rfl | (simp (disch := omega) only [Int.reduceLT, Int.reduceLE, Int.reduceEq, Int.reduceNe, Int.reduceNeg, Int.reduceAdd, Int.reduceSub, Int.reduceMul, Int.reduceGE, Int.reduceGT, Nat.reduceEqDiff, Nat.reduceAdd, and_true, true_and, and_self, not_true_eq_false, not_false_eq_true, ne_eq, and_false, false_and, or_false, or_true, false_or, true_or, vx_some, eq_self, ↓reduceIte, ite_t1, ite_t2, ite_t3, le_T, le_F, lt_T, lt_F, ge_T, ge_F, gt_T, gt_F, eq_T, eq_F, w32_i]; done)
  | succ j ih =>
    intro k z8 z9 e
    have ih' := fun z8 z9 => ih (k + 1) z8 z9 (by omega)
    have b := bls_rng X K ht hl (x := x) (y := y) N (k + 1)
    clear x1 y1
    have hk4 : k < 4 := by omega
    have tm : ((k : Nat) : Int).tmod 2 = (k : Int) % 2 := k2_m
    have td : w32 (((k : Nat) : Int).tdiv 2) = (k : Int) / 2 := k2_d hk4
    have eu : w32 (w32 (2 * x) + (k : Int) % 2) = 2 * x + (k : Int) % 2 := k2_x hk4 x0 X16.1
    have ev : w32 (w32 (2 * y) + (k : Int) / 2) = 2 * y + (k : Int) / 2 := k2_y hk4 y0 X16.2
    have el : w32 (((l + 1 : Nat) : Int) - 1) = l := by rw [w32_i (by omega) (by omega)]; omega
    have cH := p_isX F X t l (2 * x + (k : Int) % 2) (2 * y + (k : Int) / 2)
    rw [Int.toNat_natCast] at cH
    refine Eq.trans (e_X12_below_9 _ _ _ _ _ _ _ _ _ _ _) ?_
    rw [tm, td, eu, ev, el]
    clear tm td eu ev el
    by_cases z : inb h.2 t l (2 * x + (k : Int) % 2) (2 * y + (k : Int) / 2)
    · have bp := bls_p (r := fun p => h.2 97 (400 * tex h.2 t 0 + p)) z
      rw [bp.1, bp.2] at ih' b
      rw [if_pos (by exact ⟨⟨ht, by omega, hl⟩, z⟩)] at cH
      have cN := p_texelAt F X K (by omega) (show isX h.2 t l _ _ from ⟨ht, hl, z⟩)
      rw [txM_n O] at cN
      try dsimp only at ih' b
      clear bp
      generalize h.2 97 (400 * tex h.2 t 0 + plO h.2 t (tex h.2 t 5) l (2 * x + (k : Int) % 2) (2 * y + (k : Int) / 2)) = R at *
      generalize bls h.2 t l x y (fun p => h.2 97 (400 * tex h.2 t 0 + p)) k = S at *
      generalize blc h.2 t l x y k = C at *
      generalize blV h.2 t l x y (fun p => h.2 97 (400 * tex h.2 t 0 + p)) = V at *
      repeat first
        | (refine Eq.trans (if_pos ?_) ?_; · first | omega | (simp (disch := omega) only [cH, cN, Int.reduceLT, Int.reduceLE, Int.reduceEq, Int.reduceNe, Int.reduceNeg, Int.reduceAdd, Int.reduceSub, Int.reduceMul, Int.reduceGE, Int.reduceGT, Nat.reduceEqDiff, Nat.reduceAdd, and_true, true_and, and_self, not_true_eq_false, not_false_eq_true, ne_eq, and_false, false_and, or_false, or_true, false_or, true_or, vx_some, eq_self, ↓reduceIte, ite_t1, ite_t2, ite_t3, le_T, le_F, lt_T, lt_F, ge_T, ge_F, gt_T, gt_F, eq_T, eq_F, w32_i, kd_1, kd_2, kd_3, kd_4, kd_5, kd_6, kd_7, kd_14, kd_15, kd_16, kd_29, kd_34, kd_56, kd_74, kd_75, kd_76, kd_77, kd_78, kd_79, kd_80, kd_81, kd_82, kd_83, kd_84, kd_85, kd_86, kd_87, kd_88, kd_89, kd_90, kd_91, kd_92, kd_93, kd_94, kd_95, kd_96, kd_97, kd_98, kd_99, kd_100, kd_101, kd_102, kd_103, kd_104, kd_105, kd_106, kd_107, kd_108]; done))
        | (refine Eq.trans (if_neg ?_) ?_; · first | omega | (simp (disch := omega) only [cH, cN, Int.reduceLT, Int.reduceLE, Int.reduceEq, Int.reduceNe, Int.reduceNeg, Int.reduceAdd, Int.reduceSub, Int.reduceMul, Int.reduceGE, Int.reduceGT, Nat.reduceEqDiff, Nat.reduceAdd, and_true, true_and, and_self, not_true_eq_false, not_false_eq_true, ne_eq, and_false, false_and, or_false, or_true, false_or, true_or, vx_some, eq_self, ↓reduceIte, ite_t1, ite_t2, ite_t3, le_T, le_F, lt_T, lt_F, ge_T, ge_F, gt_T, gt_F, eq_T, eq_F, w32_i, kd_1, kd_2, kd_3, kd_4, kd_5, kd_6, kd_7, kd_14, kd_15, kd_16, kd_29, kd_34, kd_56, kd_74, kd_75, kd_76, kd_77, kd_78, kd_79, kd_80, kd_81, kd_82, kd_83, kd_84, kd_85, kd_86, kd_87, kd_88, kd_89, kd_90, kd_91, kd_92, kd_93, kd_94, kd_95, kd_96, kd_97, kd_98, kd_99, kd_100, kd_101, kd_102, kd_103, kd_104, kd_105, kd_106, kd_107, kd_108]; done))
        | (refine Eq.trans (bnd (r := ?_) ?_) ?_; rotate_left 1; (focus (simp (disch := omega) only [cH, cN, Int.reduceLT, Int.reduceLE, Int.reduceEq, Int.reduceNe, Int.reduceNeg, Int.reduceAdd, Int.reduceSub, Int.reduceMul, Int.reduceGE, Int.reduceGT, Nat.reduceEqDiff, Nat.reduceAdd, and_true, true_and, and_self, not_true_eq_false, not_false_eq_true, ne_eq, and_false, false_and, or_false, or_true, false_or, true_or, vx_some, eq_self, ↓reduceIte, ite_t1, ite_t2, ite_t3, le_T, le_F, lt_T, lt_F, ge_T, ge_F, gt_T, gt_F, eq_T, eq_F, w32_i, kd_1, kd_2, kd_3, kd_4, kd_5, kd_6, kd_7, kd_14, kd_15, kd_16, kd_29, kd_34, kd_56, kd_74, kd_75, kd_76, kd_77, kd_78, kd_79, kd_80, kd_81, kd_82, kd_83, kd_84, kd_85, kd_86, kd_87, kd_88, kd_89, kd_90, kd_91, kd_92, kd_93, kd_94, kd_95, kd_96, kd_97, kd_98, kd_99, kd_100, kd_101, kd_102, kd_103, kd_104, kd_105, kd_106, kd_107, kd_108]; exact rfl)); simp only [vx_some])
      rw [w32_i (x := S + R) (by omega) (by omega), w32_i (x := C + 1) (by omega) (by omega), w32_i (x := (k : Int) + 1) (by omega) (by omega)]
      exact ih' _ _
    · have bp := bls_n (r := fun p => h.2 97 (400 * tex h.2 t 0 + p)) z
      rw [bp.1, bp.2] at ih'
      rw [if_neg (by exact fun w => z w.2)] at cH
      clear bp b
      generalize bls h.2 t l x y (fun p => h.2 97 (400 * tex h.2 t 0 + p)) k = S at *
      generalize blc h.2 t l x y k = C at *
      generalize blV h.2 t l x y (fun p => h.2 97 (400 * tex h.2 t 0 + p)) = V at *
      repeat first
        | (refine Eq.trans (if_pos ?_) ?_; · first | omega | (simp (disch := omega) only [cH, Int.reduceLT, Int.reduceLE, Int.reduceEq, Int.reduceNe, Int.reduceNeg, Int.reduceAdd, Int.reduceSub, Int.reduceMul, Int.reduceGE, Int.reduceGT, Nat.reduceEqDiff, Nat.reduceAdd, and_true, true_and, and_self, not_true_eq_false, not_false_eq_true, ne_eq, and_false, false_and, or_false, or_true, false_or, true_or, vx_some, eq_self, ↓reduceIte, ite_t1, ite_t2, ite_t3, le_T, le_F, lt_T, lt_F, ge_T, ge_F, gt_T, gt_F, eq_T, eq_F, w32_i, kd_1, kd_2, kd_3, kd_4, kd_5, kd_6, kd_7, kd_14, kd_15, kd_16, kd_29, kd_34, kd_56, kd_74, kd_75, kd_76, kd_77, kd_78, kd_79, kd_80, kd_81, kd_82, kd_83, kd_84, kd_85, kd_86, kd_87, kd_88, kd_89, kd_90, kd_91, kd_92, kd_93, kd_94, kd_95, kd_96, kd_97, kd_98, kd_99, kd_100, kd_101, kd_102, kd_103, kd_104, kd_105, kd_106, kd_107, kd_108]; done))
        | (refine Eq.trans (if_neg ?_) ?_; · first | omega | (simp (disch := omega) only [cH, Int.reduceLT, Int.reduceLE, Int.reduceEq, Int.reduceNe, Int.reduceNeg, Int.reduceAdd, Int.reduceSub, Int.reduceMul, Int.reduceGE, Int.reduceGT, Nat.reduceEqDiff, Nat.reduceAdd, and_true, true_and, and_self, not_true_eq_false, not_false_eq_true, ne_eq, and_false, false_and, or_false, or_true, false_or, true_or, vx_some, eq_self, ↓reduceIte, ite_t1, ite_t2, ite_t3, le_T, le_F, lt_T, lt_F, ge_T, ge_F, gt_T, gt_F, eq_T, eq_F, w32_i, kd_1, kd_2, kd_3, kd_4, kd_5, kd_6, kd_7, kd_14, kd_15, kd_16, kd_29, kd_34, kd_56, kd_74, kd_75, kd_76, kd_77, kd_78, kd_79, kd_80, kd_81, kd_82, kd_83, kd_84, kd_85, kd_86, kd_87, kd_88, kd_89, kd_90, kd_91, kd_92, kd_93, kd_94, kd_95, kd_96, kd_97, kd_98, kd_99, kd_100, kd_101, kd_102, kd_103, kd_104, kd_105, kd_106, kd_107, kd_108]; done))
        | (refine Eq.trans (bnd (r := ?_) ?_) ?_; rotate_left 1; (focus (simp (disch := omega) only [cH, Int.reduceLT, Int.reduceLE, Int.reduceEq, Int.reduceNe, Int.reduceNeg, Int.reduceAdd, Int.reduceSub, Int.reduceMul, Int.reduceGE, Int.reduceGT, Nat.reduceEqDiff, Nat.reduceAdd, and_true, true_and, and_self, not_true_eq_false, not_false_eq_true, ne_eq, and_false, false_and, or_false, or_true, false_or, true_or, vx_some, eq_self, ↓reduceIte, ite_t1, ite_t2, ite_t3, le_T, le_F, lt_T, lt_F, ge_T, ge_F, gt_T, gt_F, eq_T, eq_F, w32_i, kd_1, kd_2, kd_3, kd_4, kd_5, kd_6, kd_7, kd_14, kd_15, kd_16, kd_29, kd_34, kd_56, kd_74, kd_75, kd_76, kd_77, kd_78, kd_79, kd_80, kd_81, kd_82, kd_83, kd_84, kd_85, kd_86, kd_87, kd_88, kd_89, kd_90, kd_91, kd_92, kd_93, kd_94, kd_95, kd_96, kd_97, kd_98, kd_99, kd_100, kd_101, kd_102, kd_103, kd_104, kd_105, kd_106, kd_107, kd_108]; exact rfl)); simp only [vx_some])
      rw [w32_i (x := (k : Int) + 1) (by omega) (by omega)]
      exact ih' _ _
theorem p_below {h : Hq} (F : FXM h.2) {t : Int} (X : TXM h.2) (K : KLM h.2) (O : h.2 88 30 = -1) (ht : isT h.2 t) {l : Nat} (hl : (l : Int) < tex h.2 t 4) {x y : Int} (x0 : 0 ≤ x) (x1 : x < hv (tex h.2 t 2) (l + 1)) (y0 : 0 ≤ y) (y1 : y < hv (tex h.2 t 3) (l + 1)) (N : NB h.2 t (fun p => h.2 97 (400 * tex h.2 t 0 + p))) : vm 252 [(2, 88), (0, t), (0, ((l + 1 : Nat) : Int)), (0, x), (0, y)] h = some (some (0, blV h.2 t l x y (fun p => h.2 97 (400 * tex h.2 t 0 + p))), h) := by
  rw [e_X12_below]
  exact p_below9 F X K O ht hl x0 x1 y0 y1 N 4 0 _ _ rfl
theorem ROWS.nb {m : Mm} (R : ROWS m) (X : TXM m) (K : KLM m) {t : Int} (ht : isT m t) : NB m t (fun p => m 97 (400 * tex m t 0 + p)) := fun p p0 p1 => (R.tx X K ht p0 p1).2
theorem bls_ext {m : Mm} (X : TXM m) (K : KLM m) {t : Int} (ht : isT m t) {l : Nat} (hl : (l : Int) < tex m t 4) {x y : Int} {r r' : Int → Int} (e : ∀ p : Int, 0 ≤ p → p < m 94 (tex m t 0) → r p = r' p) : ∀ k : Nat, bls m t l x y r k = bls m t l x y r' k
  | 0 => rfl
  | k + 1 => by
    have ih := bls_ext X K ht hl (x := x) (y := y) e k
    have W := X.wh ht hl
    by_cases h : inb m t l (2 * x + (k : Int) % 2) (2 * y + (k : Int) / 2)
    · have Q := plO_rng X K W.2.2.2.2.2.1 W.2.2.2.2.2.2 (show isX m t l _ _ from ⟨ht, hl, h⟩)
      rw [(bls_p (r := r) h).1, (bls_p (r := r') h).1, ih, e _ Q.2.2.1 Q.2.2.2.1]
    · rw [(bls_n (r := r) h).1, (bls_n (r := r') h).1, ih]
theorem blV_ext {m : Mm} (X : TXM m) (K : KLM m) {t : Int} (ht : isT m t) {l : Nat} (hl : (l : Int) < tex m t 4) {x y : Int} {r r' : Int → Int} (e : ∀ p : Int, 0 ≤ p → p < m 94 (tex m t 0) → r p = r' p) : blV m t l x y r = blV m t l x y r' := by
  unfold blV
  rw [bls_ext X K ht hl e 4]
