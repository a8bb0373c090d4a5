/-! THE PURE PART: fetch -/
def tyC (m : Mm) (x u : Int) : Mm := stm (stm (stm m 84 x (m 84 x + 1)) 83 1 (m 83 1 + u)) 83 2 (m 83 2 + (1 - u))
theorem c_count {n : Int} {m : Mm} (F : FX m) {x u : Int} (hu : u = 0 ∨ u = 1) (x0 : 0 ≤ x) (x1 : x < 2400) (a0 : 0 ≤ m 84 x) (a1 : m 84 x ≤ 600) (b0 : 0 ≤ m 83 1) (b1 : m 83 1 ≤ 600) (d0 : 0 ≤ m 83 2) (d1 : m 83 2 ≤ 600) : vm 61 [(2, 83), (0, x), (0, u)] (n, m) = some (none, (n, tyC m x u)) := by
  have c0 := F.c83_0
  have e1 : ∀ v : Int, stm m 84 x v 83 1 = m 83 1 := fun v => by rw [stm_ap, if_neg (by omega)]
  have e2 : ∀ v w : Int, stm (stm m 84 x v) 83 1 w 83 2 = m 83 2 := fun v w => by rw [stm_ap, if_neg (by omega), stm_ap, if_neg (by omega)]
  rw [e_X8_count]
  unfold tyC
  rcases hu with rfl | rfl
  · repeat first
      | (refine Eq.trans (if_pos ?_) ?_; · first | omega | (simp (disch := omega) only [c0, Int.reduceLT, Int.reduceLE, Int.reduceEq, Int.reduceNe, Int.reduceNeg, Int.reduceAdd, Int.reduceSub, Int.reduceMul, Int.reduceGE, Int.reduceGT, Nat.reduceEqDiff, Nat.reduceAdd, and_true, true_and, and_self, not_true_eq_false, not_false_eq_true, ne_eq, and_false, false_and, or_false, or_true, false_or, true_or, vx_some, eq_self, ↓reduceIte, ite_t1, ite_t2, ite_t3, le_T, le_F, lt_T, lt_F, ge_T, ge_F, gt_T, gt_F, eq_T, eq_F, w32_i, kd_1, kd_2, kd_3, kd_4, kd_5, kd_6, kd_7, kd_14, kd_15, kd_16, kd_29, kd_34, kd_56, kd_74, kd_75, kd_76, kd_77, kd_78, kd_79, kd_80, kd_81, kd_82, kd_83, kd_84, kd_85, kd_86, kd_87, kd_88, kd_89, kd_90, kd_91, kd_92, kd_93, kd_94, kd_95, kd_96, kd_97, kd_98, kd_99, kd_100, kd_101, kd_102, kd_103, kd_104, kd_105, kd_106, kd_107, kd_108]; done))
      | (refine Eq.trans (if_neg ?_) ?_; · first | omega | (simp (disch := omega) only [c0, Int.reduceLT, Int.reduceLE, Int.reduceEq, Int.reduceNe, Int.reduceNeg, Int.reduceAdd, Int.reduceSub, Int.reduceMul, Int.reduceGE, Int.reduceGT, Nat.reduceEqDiff, Nat.reduceAdd, and_true, true_and, and_self, not_true_eq_false, not_false_eq_true, ne_eq, and_false, false_and, or_false, or_true, false_or, true_or, vx_some, eq_self, ↓reduceIte, ite_t1, ite_t2, ite_t3, le_T, le_F, lt_T, lt_F, ge_T, ge_F, gt_T, gt_F, eq_T, eq_F, w32_i, kd_1, kd_2, kd_3, kd_4, kd_5, kd_6, kd_7, kd_14, kd_15, kd_16, kd_29, kd_34, kd_56, kd_74, kd_75, kd_76, kd_77, kd_78, kd_79, kd_80, kd_81, kd_82, kd_83, kd_84, kd_85, kd_86, kd_87, kd_88, kd_89, kd_90, kd_91, kd_92, kd_93, kd_94, kd_95, kd_96, kd_97, kd_98, kd_99, kd_100, kd_101, kd_102, kd_103, kd_104, kd_105, kd_106, kd_107, kd_108]; done))
      | (refine Eq.trans (bnd (r := ?_) ?_) ?_; rotate_left 1; (focus (simp (disch := omega) only [c0, Int.reduceLT, Int.reduceLE, Int.reduceEq, Int.reduceNe, Int.reduceNeg, Int.reduceAdd, Int.reduceSub, Int.reduceMul, Int.reduceGE, Int.reduceGT, Nat.reduceEqDiff, Nat.reduceAdd, and_true, true_and, and_self, not_true_eq_false, not_false_eq_true, ne_eq, and_false, false_and, or_false, or_true, false_or, true_or, vx_some, eq_self, ↓reduceIte, ite_t1, ite_t2, ite_t3, le_T, le_F, lt_T, lt_F, ge_T, ge_F, gt_T, gt_F, eq_T, eq_F, w32_i, kd_1, kd_2, kd_3, kd_4, kd_5, kd_6, kd_7, kd_14, kd_15, kd_16, kd_29, kd_34, kd_56, kd_74, kd_75, kd_76, kd_77, kd_78, kd_79, kd_80, kd_81, kd_82, kd_83, kd_84, kd_85, kd_86, kd_87, kd_88, kd_89, kd_90, kd_91, kd_92, kd_93, kd_94, kd_95, kd_96, kd_97, kd_98, kd_99, kd_100, kd_101, kd_102, kd_103, kd_104, kd_105, kd_106, kd_107, kd_108]; exact rfl)); simp only [vx_some])
    simp only [c0, e1, e2]
    rw [w32_i (x := m 84 x + 1) (by omega) (by omega), w32_i (x := m 83 1 + 0) (by omega) (by omega), w32_i (x := m 83 2 + 1) (by omega) (by omega)]
    rfl
  · repeat first
      | (refine Eq.trans (if_pos ?_) ?_; · first | omega | (simp (disch := omega) only [c0, Int.reduceLT, Int.reduceLE, Int.reduceEq, Int.reduceNe, Int.reduceNeg, Int.reduceAdd, Int.reduceSub, Int.reduceMul, Int.reduceGE, Int.reduceGT, Nat.reduceEqDiff, Nat.reduceAdd, and_true, true_and, and_self, not_true_eq_false, not_false_eq_true, ne_eq, and_false, false_and, or_false, or_true, false_or, true_or, vx_some, eq_self, ↓reduceIte, ite_t1, ite_t2, ite_t3, le_T, le_F, lt_T, lt_F, ge_T, ge_F, gt_T, gt_F, eq_T, eq_F, w32_i, kd_1, kd_2, kd_3, kd_4, kd_5, kd_6, kd_7, kd_14, kd_15, kd_16, kd_29, kd_34, kd_56, kd_74, kd_75, kd_76, kd_77, kd_78, kd_79, kd_80, kd_81, kd_82, kd_83, kd_84, kd_85, kd_86, kd_87, kd_88, kd_89, kd_90, kd_91, kd_92, kd_93, kd_94, kd_95, kd_96, kd_97, kd_98, kd_99, kd_100, kd_101, kd_102, kd_103, kd_104, kd_105, kd_106, kd_107, kd_108]; done))
      | (refine Eq.trans (if_neg ?_) ?_; · first | omega | (simp (disch := omega) only [c0, Int.reduceLT, Int.reduceLE, Int.reduceEq, Int.reduceNe, Int.reduceNeg, Int.reduceAdd, Int.reduceSub, Int.reduceMul, Int.reduceGE, Int.reduceGT, Nat.reduceEqDiff, Nat.reduceAdd, and_true, true_and, and_self, not_true_eq_false, not_false_eq_true, ne_eq, and_false, false_and, or_false, or_true, false_or, true_or, vx_some, eq_self, ↓reduceIte, ite_t1, ite_t2, ite_t3, le_T, le_F, lt_T, lt_F, ge_T, ge_F, gt_T, gt_F, eq_T, eq_F, w32_i, kd_1, kd_2, kd_3, kd_4, kd_5, kd_6, kd_7, kd_14, kd_15, kd_16, kd_29, kd_34, kd_56, kd_74, kd_75, kd_76, kd_77, kd_78, kd_79, kd_80, kd_81, kd_82, kd_83, kd_84, kd_85, kd_86, kd_87, kd_88, kd_89, kd_90, kd_91, kd_92, kd_93, kd_94, kd_95, kd_96, kd_97, kd_98, kd_99, kd_100, kd_101, kd_102, kd_103, kd_104, kd_105, kd_106, kd_107, kd_108]; done))
      | (refine Eq.trans (bnd (r := ?_) ?_) ?_; rotate_left 1; (focus (simp (disch := omega) only [c0, Int.reduceLT, Int.reduceLE, Int.reduceEq, Int.reduceNe, Int.reduceNeg, Int.reduceAdd, Int.reduceSub, Int.reduceMul, Int.reduceGE, Int.reduceGT, Nat.reduceEqDiff, Nat.reduceAdd, and_true, true_and, and_self, not_true_eq_false, not_false_eq_true, ne_eq, and_false, false_and, or_false, or_true, false_or, true_or, vx_some, eq_self, ↓reduceIte, ite_t1, ite_t2, ite_t3, le_T, le_F, lt_T, lt_F, ge_T, ge_F, gt_T, gt_F, eq_T, eq_F, w32_i, kd_1, kd_2, kd_3, kd_4, kd_5, kd_6, kd_7, kd_14, kd_15, kd_16, kd_29, kd_34, kd_56, kd_74, kd_75, kd_76, kd_77, kd_78, kd_79, kd_80, kd_81, kd_82, kd_83, kd_84, kd_85, kd_86, kd_87, kd_88, kd_89, kd_90, kd_91, kd_92, kd_93, kd_94, kd_95, kd_96, kd_97, kd_98, kd_99, kd_100, kd_101, kd_102, kd_103, kd_104, kd_105, kd_106, kd_107, kd_108]; exact rfl)); simp only [vx_some])
    simp only [c0, e1, e2]
    rw [w32_i (x := m 84 x + 1) (by omega) (by omega), w32_i (x := m 83 1 + 1) (by omega) (by omega), w32_i (x := m 83 2 + 0) (by omega) (by omega)]
    rfl
/-- the line of a place -/
theorem c_lineOf {h : Hq} {C : Int} (k1 : kd C = (1, 7)) (C0 : 0 < C) {s p : Int} (s0 : 0 ≤ s) (s1 : s < 6) (p0 : 0 ≤ p) (p1 : p < 400) (n0 : 1 ≤ h.2 C 4) (n1 : h.2 C 4 ≤ 16) : vm 10 [(2, C), (0, s), (0, p)] h = some (some (0, (400 * s + p) / h.2 C 4), h) := by
  have d := div_rng (a := 400 * s + p) (b := h.2 C 4) (n := 2400) n0 (by omega) (by omega)
  rw [e_X1_lineOf, w32_i (x := 400 * s) (by omega) (by omega), w32_i (x := 400 * s + p) (by omega) (by omega), Int.tdiv_eq_ediv_of_nonneg (by omega), w32_i (by omega) (by omega)]
  repeat first
    | (refine Eq.trans (if_pos ?_) ?_; · first | omega | (simp (disch := omega) only [k1, Int.reduceLT, Int.reduceLE, Int.reduceEq, Int.reduceNe, Int.reduceNeg, Int.reduceAdd, Int.reduceSub, Int.reduceMul, Int.reduceGE, Int.reduceGT, Nat.reduceEqDiff, Nat.reduceAdd, and_true, true_and, and_self, not_true_eq_false, not_false_eq_true, ne_eq, and_false, false_and, or_false, or_true, false_or, true_or, vx_some, eq_self, ↓reduceIte, ite_t1, ite_t2, ite_t3, le_T, le_F, lt_T, lt_F, ge_T, ge_F, gt_T, gt_F, eq_T, eq_F, w32_i, kd_1, kd_2, kd_3, kd_4, kd_5, kd_6, kd_7, kd_14, kd_15, kd_16, kd_29, kd_34, kd_56, kd_74, kd_75, kd_76, kd_77, kd_78, kd_79, kd_80, kd_81, kd_82, kd_83, kd_84, kd_85, kd_86, kd_87, kd_88, kd_89, kd_90, kd_91, kd_92, kd_93, kd_94, kd_95, kd_96, kd_97, kd_98, kd_99, kd_100, kd_101, kd_102, kd_103, kd_104, kd_105, kd_106, kd_107, kd_108]; done))
    | (refine Eq.trans (if_neg ?_) ?_; · first | omega | (simp (disch := omega) only [k1, Int.reduceLT, Int.reduceLE, Int.reduceEq, Int.reduceNe, Int.reduceNeg, Int.reduceAdd, Int.reduceSub, Int.reduceMul, Int.reduceGE, Int.reduceGT, Nat.reduceEqDiff, Nat.reduceAdd, and_true, true_and, and_self, not_true_eq_false, not_false_eq_true, ne_eq, and_false, false_and, or_false, or_true, false_or, true_or, vx_some, eq_self, ↓reduceIte, ite_t1, ite_t2, ite_t3, le_T, le_F, lt_T, lt_F, ge_T, ge_F, gt_T, gt_F, eq_T, eq_F, w32_i, kd_1, kd_2, kd_3, kd_4, kd_5, kd_6, kd_7, kd_14, kd_15, kd_16, kd_29, kd_34, kd_56, kd_74, kd_75, kd_76, kd_77, kd_78, kd_79, kd_80, kd_81, kd_82, kd_83, kd_84, kd_85, kd_86, kd_87, kd_88, kd_89, kd_90, kd_91, kd_92, kd_93, kd_94, kd_95, kd_96, kd_97, kd_98, kd_99, kd_100, kd_101, kd_102, kd_103, kd_104, kd_105, kd_106, kd_107, kd_108]; done))
    | (refine Eq.trans (bnd (r := ?_) ?_) ?_; rotate_left 1; (focus (simp (disch := omega) only [k1, Int.reduceLT, Int.reduceLE, Int.reduceEq, Int.reduceNe, Int.reduceNeg, Int.reduceAdd, Int.reduceSub, Int.reduceMul, Int.reduceGE, Int.reduceGT, Nat.reduceEqDiff, Nat.reduceAdd, and_true, true_and, and_self, not_true_eq_false, not_false_eq_true, ne_eq, and_false, false_and, or_false, or_true, false_or, true_or, vx_some, eq_self, ↓reduceIte, ite_t1, ite_t2, ite_t3, le_T, le_F, lt_T, lt_F, ge_T, ge_F, gt_T, gt_F, eq_T, eq_F, w32_i, kd_1, kd_2, kd_3, kd_4, kd_5, kd_6, kd_7, kd_14, kd_15, kd_16, kd_29, kd_34, kd_56, kd_74, kd_75, kd_76, kd_77, kd_78, kd_79, kd_80, kd_81, kd_82, kd_83, kd_84, kd_85, kd_86, kd_87, kd_88, kd_89, kd_90, kd_91, kd_92, kd_93, kd_94, kd_95, kd_96, kd_97, kd_98, kd_99, kd_100, kd_101, kd_102, kd_103, kd_104, kd_105, kd_106, kd_107, kd_108]; exact rfl)); simp only [vx_some])
  rfl
def lnM (m : Mm) (t : Int) (l : Nat) (x y : Int) : Int := (400 * tex m t 0 + plM m t l x y) / m 90 2
theorem lnM_rng {m : Mm} (X : TXM m) (K : KLM m) (ha : -1 ≤ m 88 30 ∧ m 88 30 ≤ 2) (n0 : 1 ≤ m 90 2) {t : Int} {l : Nat} {x y : Int} (hx : isX m t l x y) : 0 ≤ lnM m t l x y ∧ lnM m t l x y < 2400 := by
  have R := plM_rng X K ha hx
  have S := X.st K hx.1
  unfold lnM
  constructor
  · exact Int.ediv_nonneg (by omega) (by omega)
  · have := Int.ediv_le_self (m 90 2) (show 0 ≤ 400 * tex m t 0 + plM m t l x y by omega)
    omega
theorem p_lineOf {h : Hq} (F : FX h.2) (X : TXM h.2) (K : KLM h.2) (ha : -1 ≤ h.2 88 30 ∧ h.2 88 30 ≤ 2) (n0 : 1 ≤ h.2 90 2) {t : Int} {l : Nat} {x y : Int} (hx : isX h.2 t l x y) : vm 288 [(2, 88), (0, t), (0, (l : Int)), (0, x), (0, y)] h = some (some (0, lnM h.2 t l x y), h) := by
  have R := plM_rng X K ha hx
  have T := isT.r X hx.1
  have S := X.st K hx.1
  have L := lnM_rng X K ha n0 hx
  have c13 := F.c88_13
  unfold lnM at L
  rw [e_X12_lineOf]
  repeat first
    | (refine Eq.trans (if_pos ?_) ?_; · first | omega | (simp (disch := omega) only [p_of F.m T.1 (show t < 8 by omega), p_placeOf F.m X K ha hx, c13, Int.reduceLT, Int.reduceLE, Int.reduceEq, Int.reduceNe, Int.reduceNeg, Int.reduceAdd, Int.reduceSub, Int.reduceMul, Int.reduceGE, Int.reduceGT, Nat.reduceEqDiff, Nat.reduceAdd, and_true, true_and, and_self, not_true_eq_false, not_false_eq_true, ne_eq, and_false, false_and, or_false, or_true, false_or, true_or, vx_some, eq_self, ↓reduceIte, ite_t1, ite_t2, ite_t3, le_T, le_F, lt_T, lt_F, ge_T, ge_F, gt_T, gt_F, eq_T, eq_F, w32_i, kd_1, kd_2, kd_3, kd_4, kd_5, kd_6, kd_7, kd_14, kd_15, kd_16, kd_29, kd_34, kd_56, kd_74, kd_75, kd_76, kd_77, kd_78, kd_79, kd_80, kd_81, kd_82, kd_83, kd_84, kd_85, kd_86, kd_87, kd_88, kd_89, kd_90, kd_91, kd_92, kd_93, kd_94, kd_95, kd_96, kd_97, kd_98, kd_99, kd_100, kd_101, kd_102, kd_103, kd_104, kd_105, kd_106, kd_107, kd_108]; done))
    | (refine Eq.trans (if_neg ?_) ?_; · first | omega | (simp (disch := omega) only [p_of F.m T.1 (show t < 8 by omega), p_placeOf F.m X K ha hx, c13, Int.reduceLT, Int.reduceLE, Int.reduceEq, Int.reduceNe, Int.reduceNeg, Int.reduceAdd, Int.reduceSub, Int.reduceMul, Int.reduceGE, Int.reduceGT, Nat.reduceEqDiff, Nat.reduceAdd, and_true, true_and, and_self, not_true_eq_false, not_false_eq_true, ne_eq, and_false, false_and, or_false, or_true, false_or, true_or, vx_some, eq_self, ↓reduceIte, ite_t1, ite_t2, ite_t3, le_T, le_F, lt_T, lt_F, ge_T, ge_F, gt_T, gt_F, eq_T, eq_F, w32_i, kd_1, kd_2, kd_3, kd_4, kd_5, kd_6, kd_7, kd_14, kd_15, kd_16, kd_29, kd_34, kd_56, kd_74, kd_75, kd_76, kd_77, kd_78, kd_79, kd_80, kd_81, kd_82, kd_83, kd_84, kd_85, kd_86, kd_87, kd_88, kd_89, kd_90, kd_91, kd_92, kd_93, kd_94, kd_95, kd_96, kd_97, kd_98, kd_99, kd_100, kd_101, kd_102, kd_103, kd_104, kd_105, kd_106, kd_107, kd_108]; done))
    | (refine Eq.trans (bnd (r := ?_) ?_) ?_; rotate_left 1; (focus (simp (disch := omega) only [p_of F.m T.1 (show t < 8 by omega), p_placeOf F.m X K ha hx, c13, Int.reduceLT, Int.reduceLE, Int.reduceEq, Int.reduceNe, Int.reduceNeg, Int.reduceAdd, Int.reduceSub, Int.reduceMul, Int.reduceGE, Int.reduceGT, Nat.reduceEqDiff, Nat.reduceAdd, and_true, true_and, and_self, not_true_eq_false, not_false_eq_true, ne_eq, and_false, false_and, or_false, or_true, false_or, true_or, vx_some, eq_self, ↓reduceIte, ite_t1, ite_t2, ite_t3, le_T, le_F, lt_T, lt_F, ge_T, ge_F, gt_T, gt_F, eq_T, eq_F, w32_i, kd_1, kd_2, kd_3, kd_4, kd_5, kd_6, kd_7, kd_14, kd_15, kd_16, kd_29, kd_34, kd_56, kd_74, kd_75, kd_76, kd_77, kd_78, kd_79, kd_80, kd_81, kd_82, kd_83, kd_84, kd_85, kd_86, kd_87, kd_88, kd_89, kd_90, kd_91, kd_92, kd_93, kd_94, kd_95, kd_96, kd_97, kd_98, kd_99, kd_100, kd_101, kd_102, kd_103, kd_104, kd_105, kd_106, kd_107, kd_108]; exact rfl)); simp only [vx_some])
  simp only [c13]
  rw [w32_i (x := 400 * tex h.2 t 0) (by omega) (by omega), w32_i (x := 400 * tex h.2 t 0 + plM h.2 t l x y) (by omega) (by omega), Int.tdiv_eq_ediv_of_nonneg (by omega), w32_i (by omega) (by omega)]
  rfl
section
variable {m m' M M' : Mm} {C b x : Int}
theorem slM_cg (e90 : m' 90 = m 90) (e3 : m' 103 = m 103) (e4 : m' 104 = m 104) (b x : Int) : slM m' b x = slM m b x ∧ htM m' b x = htM m b x := by
  unfold slM htM
  rw [e90, e3, e4]
  exact ⟨rfl, rfl⟩
theorem hlM_cg (e90 : m' 90 = m 90) (e3 : m' 103 = m 103) (e4 : m' 104 = m 104) (e36 : m' 88 36 = m 88 36) (b x : Int) : hlM m' b x 103 = hlM m b x 103 ∧ hlM m' b x 104 = hlM m b x 104 := by
  have s := (slM_cg e90 e3 e4 b x).1
  constructor
  · funext q
    rw [hlM_l, hlM_l, s, e3]
  · funext q
    rw [hlM_t, hlM_t, s, e4, e36]
theorem BCa.cg (B : BCa m M C b) (h2 : m' C 2 = m C 2) (h3 : m' C 3 = m C 3) (h5 : m' C 5 = m C 5) (l1 : m' (C + 1) = m (C + 1)) (l2 : m' (C + 2) = m (C + 2)) (e0 : M' 90 0 = M 90 0) (e1 : M' 90 1 = M 90 1) (e3 : M' 103 = M 103) (e4 : M' 104 = M 104) (e36 : M' 88 36 = M 88 36) : BCa m' M' C b := by
  unfold BCa
  rw [h2, h3, h5, l1, l2, e0, e1, e3, e4, e36]
  exact B
theorem BCa.of {i : Int} (A : CAC i m) (Z : CSH m) : BCa m m 77 0 := ⟨⟨Z.2.2.2.1.1, Z.2.2.2.1.2.1⟩, ⟨Z.1, Z.2.1⟩, A.1⟩
theorem htM_01 (m : Mm) (b x : Int) : htM m b x = 0 ∨ htM m b x = 1 := by
  unfold htM
  split
  · exact Or.inl rfl
  · exact Or.inr rfl
end
