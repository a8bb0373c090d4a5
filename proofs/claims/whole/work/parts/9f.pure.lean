/-! THE PURE PART: the text: the fills' lines -/
section
variable {n : Int} {m M m' M' : Mm} {D f : Int}
theorem p_fl (F : FX M) (h20 : M 88 20 = f) (f0 : 0 ≤ f) (f1 : f ≤ 74) {j r : Int} (j0 : 1 ≤ j) (j1 : j ≤ 3) (z1 z2 z3 : Vl) (hr : vm 188 [(2, 88), (0, 0), (0, 9999)] (n, M) = some (some (0, r), (n, M'))) : vp 201 69 [(2, 88), z1, z2, z3, (0, j)] [] (n, M) = vp 201 69 [(2, 88), (9, 0), (9, 0), (9, 0), (0, j + 1)] [] (n, stm M' 96 (4 * f + j) r) := by
  have c19 := F.c88_19
  clear F
  refine Eq.trans (e_X12_fillLine_69 ..) ?_
  repeat first
    | (refine Eq.trans (if_pos ?_) ?_; · first | omega | (simp (disch := omega) only [hr, c19, h20, Int.reduceLT, Int.reduceLE, Int.reduceEq, Int.reduceNe, Int.reduceNeg, Int.reduceAdd, Int.reduceSub, Int.reduceMul, Int.reduceGE, Int.reduceGT, Nat.reduceEqDiff, Nat.reduceAdd, and_true, true_and, and_self, not_true_eq_false, not_false_eq_true, ne_eq, and_false, false_and, or_false, or_true, false_or, true_or, vx_some, eq_self, ↓reduceIte, ite_t1, ite_t2, ite_t3, le_T, le_F, lt_T, lt_F, ge_T, ge_F, gt_T, gt_F, eq_T, eq_F, w32_i, kd_1, kd_2, kd_3, kd_4, kd_5, kd_6, kd_7, kd_14, kd_15, kd_16, kd_29, kd_34, kd_56, kd_74, kd_75, kd_76, kd_77, kd_78, kd_79, kd_80, kd_81, kd_82, kd_83, kd_84, kd_85, kd_86, kd_87, kd_88, kd_89, kd_90, kd_91, kd_92, kd_93, kd_94, kd_95, kd_96, kd_97, kd_98, kd_99, kd_100, kd_101, kd_102, kd_103, kd_104, kd_105, kd_106, kd_107, kd_108]; done))
    | (refine Eq.trans (if_neg ?_) ?_; · first | omega | (simp (disch := omega) only [hr, c19, h20, Int.reduceLT, Int.reduceLE, Int.reduceEq, Int.reduceNe, Int.reduceNeg, Int.reduceAdd, Int.reduceSub, Int.reduceMul, Int.reduceGE, Int.reduceGT, Nat.reduceEqDiff, Nat.reduceAdd, and_true, true_and, and_self, not_true_eq_false, not_false_eq_true, ne_eq, and_false, false_and, or_false, or_true, false_or, true_or, vx_some, eq_self, ↓reduceIte, ite_t1, ite_t2, ite_t3, le_T, le_F, lt_T, lt_F, ge_T, ge_F, gt_T, gt_F, eq_T, eq_F, w32_i, kd_1, kd_2, kd_3, kd_4, kd_5, kd_6, kd_7, kd_14, kd_15, kd_16, kd_29, kd_34, kd_56, kd_74, kd_75, kd_76, kd_77, kd_78, kd_79, kd_80, kd_81, kd_82, kd_83, kd_84, kd_85, kd_86, kd_87, kd_88, kd_89, kd_90, kd_91, kd_92, kd_93, kd_94, kd_95, kd_96, kd_97, kd_98, kd_99, kd_100, kd_101, kd_102, kd_103, kd_104, kd_105, kd_106, kd_107, kd_108]; done))
    | (refine Eq.trans (bnd (r := ?_) ?_) ?_; rotate_left 1; (focus (simp (disch := omega) only [hr, c19, h20, Int.reduceLT, Int.reduceLE, Int.reduceEq, Int.reduceNe, Int.reduceNeg, Int.reduceAdd, Int.reduceSub, Int.reduceMul, Int.reduceGE, Int.reduceGT, Nat.reduceEqDiff, Nat.reduceAdd, and_true, true_and, and_self, not_true_eq_false, not_false_eq_true, ne_eq, and_false, false_and, or_false, or_true, false_or, true_or, vx_some, eq_self, ↓reduceIte, ite_t1, ite_t2, ite_t3, le_T, le_F, lt_T, lt_F, ge_T, ge_F, gt_T, gt_F, eq_T, eq_F, w32_i, kd_1, kd_2, kd_3, kd_4, kd_5, kd_6, kd_7, kd_14, kd_15, kd_16, kd_29, kd_34, kd_56, kd_74, kd_75, kd_76, kd_77, kd_78, kd_79, kd_80, kd_81, kd_82, kd_83, kd_84, kd_85, kd_86, kd_87, kd_88, kd_89, kd_90, kd_91, kd_92, kd_93, kd_94, kd_95, kd_96, kd_97, kd_98, kd_99, kd_100, kd_101, kd_102, kd_103, kd_104, kd_105, kd_106, kd_107, kd_108]; exact rfl)); simp only [vx_some])
  all_goals simp (disch := omega) only [c19, h20, w32_i]
theorem p_flE (h20 : M 88 20 = f) (f0 : 0 ≤ f) (f1 : f ≤ 74) (z1 z2 z3 : Vl) : vp 201 69 [(2, 88), z1, z2, z3, (0, 4)] [] (n, M) = some (none, (n, stm M 88 20 (f + 1))) := by
  rw [e_X12_fillLine_69]
  repeat first
    | (refine Eq.trans (if_pos ?_) ?_; · first | omega | (simp (disch := omega) only [Int.reduceLT, Int.reduceLE, Int.reduceEq, Int.reduceNe, Int.reduceNeg, Int.reduceAdd, Int.reduceSub, Int.reduceMul, Int.reduceGE, Int.reduceGT, Nat.reduceEqDiff, Nat.reduceAdd, and_true, true_and, and_self, not_true_eq_false, not_false_eq_true, ne_eq, and_false, false_and, or_false, or_true, false_or, true_or, vx_some, eq_self, ↓reduceIte, ite_t1, ite_t2, ite_t3, le_T, le_F, lt_T, lt_F, ge_T, ge_F, gt_T, gt_F, eq_T, eq_F, w32_i, kd_1, kd_2, kd_3, kd_4, kd_5, kd_6, kd_7, kd_14, kd_15, kd_16, kd_29, kd_34, kd_56, kd_74, kd_75, kd_76, kd_77, kd_78, kd_79, kd_80, kd_81, kd_82, kd_83, kd_84, kd_85, kd_86, kd_87, kd_88, kd_89, kd_90, kd_91, kd_92, kd_93, kd_94, kd_95, kd_96, kd_97, kd_98, kd_99, kd_100, kd_101, kd_102, kd_103, kd_104, kd_105, kd_106, kd_107, kd_108]; done))
    | (refine Eq.trans (if_neg ?_) ?_; · first | omega | (simp (disch := omega) only [Int.reduceLT, Int.reduceLE, Int.reduceEq, Int.reduceNe, Int.reduceNeg, Int.reduceAdd, Int.reduceSub, Int.reduceMul, Int.reduceGE, Int.reduceGT, Nat.reduceEqDiff, Nat.reduceAdd, and_true, true_and, and_self, not_true_eq_false, not_false_eq_true, ne_eq, and_false, false_and, or_false, or_true, false_or, true_or, vx_some, eq_self, ↓reduceIte, ite_t1, ite_t2, ite_t3, le_T, le_F, lt_T, lt_F, ge_T, ge_F, gt_T, gt_F, eq_T, eq_F, w32_i, kd_1, kd_2, kd_3, kd_4, kd_5, kd_6, kd_7, kd_14, kd_15, kd_16, kd_29, kd_34, kd_56, kd_74, kd_75, kd_76, kd_77, kd_78, kd_79, kd_80, kd_81, kd_82, kd_83, kd_84, kd_85, kd_86, kd_87, kd_88, kd_89, kd_90, kd_91, kd_92, kd_93, kd_94, kd_95, kd_96, kd_97, kd_98, kd_99, kd_100, kd_101, kd_102, kd_103, kd_104, kd_105, kd_106, kd_107, kd_108]; done))
    | (refine Eq.trans (bnd (r := ?_) ?_) ?_; rotate_left 1; (focus (simp (disch := omega) only [Int.reduceLT, Int.reduceLE, Int.reduceEq, Int.reduceNe, Int.reduceNeg, Int.reduceAdd, Int.reduceSub, Int.reduceMul, Int.reduceGE, Int.reduceGT, Nat.reduceEqDiff, Nat.reduceAdd, and_true, true_and, and_self, not_true_eq_false, not_false_eq_true, ne_eq, and_false, false_and, or_false, or_true, false_or, true_or, vx_some, eq_self, ↓reduceIte, ite_t1, ite_t2, ite_t3, le_T, le_F, lt_T, lt_F, ge_T, ge_F, gt_T, gt_F, eq_T, eq_F, w32_i, kd_1, kd_2, kd_3, kd_4, kd_5, kd_6, kd_7, kd_14, kd_15, kd_16, kd_29, kd_34, kd_56, kd_74, kd_75, kd_76, kd_77, kd_78, kd_79, kd_80, kd_81, kd_82, kd_83, kd_84, kd_85, kd_86, kd_87, kd_88, kd_89, kd_90, kd_91, kd_92, kd_93, kd_94, kd_95, kd_96, kd_97, kd_98, kd_99, kd_100, kd_101, kd_102, kd_103, kd_104, kd_105, kd_106, kd_107, kd_108]; exact rfl)); simp only [vx_some])
  all_goals simp (disch := omega) only [h20, w32_i]
/-- behind a fault -/
theorem d_fl69 : ∀ (r : Nat) (j : Int) (M : Mm) (z1 z2 z3 : Vl), j + r = 4 → 1 ≤ j → FX M → 1 ≤ M 88 8 → 0 ≤ M 88 20 → M 88 20 ≤ 74 → ∃ M', vp 201 69 [(2, 88), z1, z2, z3, (0, j)] [] (n, M) = some (none, (n, M')) ∧ FRq M M' ∧ M' 88 8 = M 88 8 ∧ M' 88 9 = M 88 9 := by
  intro r
  induction r with
  | zero =>
    intro j M z1 z2 z3 e j0 F b f0 f1
    have p := p_flE (n := n) (M := M) rfl f0 f1 z1 z2 z3
    rw [show j = 4 by omega]
    exact ⟨_, p, FRq.st M (by unfold MP; omega), by rw [stm_k (by omega)], by rw [stm_k (by omega)]⟩
  | succ r ih =>
    intro j M z1 z2 z3 e j0 F b f0 f1
    have p := p_fl (n := n) F rfl f0 f1 j0 (show j ≤ 3 by omega) z1 z2 z3 (d_number b 0 9999)
    have mp : MP 96 (4 * M 88 20 + j) := by unfold MP; omega
    obtain ⟨M', a1, a2, a3, a4⟩ := ih (j + 1) (stm M 96 (4 * M 88 20 + j) 0) (9, 0) (9, 0) (9, 0) (by omega) (by omega) ((FRq.st M mp).fx F) (by rw [stm_o (by omega)]; exact b) (by rw [stm_o (by omega)]; exact f0) (by rw [stm_o (by omega)]; exact f1)
    rw [stm_o (by omega)] at a3 a4
    exact ⟨M', by rw [p]; exact a1, (FRq.st M mp).tr a2, a3, a4⟩
theorem d_fl43 (F : FX M) (b : 1 ≤ M 88 8) (f0 : 0 ≤ M 88 20) (f1 : M 88 20 ≤ 74) (t : Int) (z1 z2 z4 : Vl) : ∃ M', vp 201 43 [(2, 88), z1, z2, (0, t), z4] [] (n, M) = some (none, (n, M')) ∧ FRq M M' ∧ M' 88 8 = M 88 8 ∧ M' 88 9 = M 88 9 := by
  have mp : MP 96 (4 * M 88 20) := by unfold MP; omega
  have c19 := F.c88_19
  obtain ⟨M', a1, a2, a3, a4⟩ := d_fl69 (n := n) 3 1 (stm M 96 (4 * M 88 20) t) (9, 0) (9, 0) (0, t) (by omega) (by omega) ((FRq.st M mp).fx F) (by rw [stm_o (by omega)]; exact b) (by rw [stm_o (by omega)]; exact f0) (by rw [stm_o (by omega)]; exact f1)
  rw [stm_o (by omega)] at a3 a4
  refine ⟨M', ?_, (FRq.st M mp).tr a2, a3, a4⟩
  rw [e_X12_fillLine_43]
  repeat first
    | (refine Eq.trans (if_pos ?_) ?_; · first | omega | (simp (disch := omega) only [d_isGood b, c19, Int.reduceLT, Int.reduceLE, Int.reduceEq, Int.reduceNe, Int.reduceNeg, Int.reduceAdd, Int.reduceSub, Int.reduceMul, Int.reduceGE, Int.reduceGT, Nat.reduceEqDiff, Nat.reduceAdd, and_true, true_and, and_self, not_true_eq_false, not_false_eq_true, ne_eq, and_false, false_and, or_false, or_true, false_or, true_or, vx_some, eq_self, ↓reduceIte, ite_t1, ite_t2, ite_t3, le_T, le_F, lt_T, lt_F, ge_T, ge_F, gt_T, gt_F, eq_T, eq_F, w32_i, kd_1, kd_2, kd_3, kd_4, kd_5, kd_6, kd_7, kd_14, kd_15, kd_16, kd_29, kd_34, kd_56, kd_74, kd_75, kd_76, kd_77, kd_78, kd_79, kd_80, kd_81, kd_82, kd_83, kd_84, kd_85, kd_86, kd_87, kd_88, kd_89, kd_90, kd_91, kd_92, kd_93, kd_94, kd_95, kd_96, kd_97, kd_98, kd_99, kd_100, kd_101, kd_102, kd_103, kd_104, kd_105, kd_106, kd_107, kd_108]; done))
    | (refine Eq.trans (if_neg ?_) ?_; · first | omega | (simp (disch := omega) only [d_isGood b, c19, Int.reduceLT, Int.reduceLE, Int.reduceEq, Int.reduceNe, Int.reduceNeg, Int.reduceAdd, Int.reduceSub, Int.reduceMul, Int.reduceGE, Int.reduceGT, Nat.reduceEqDiff, Nat.reduceAdd, and_true, true_and, and_self, not_true_eq_false, not_false_eq_true, ne_eq, and_false, false_and, or_false, or_true, false_or, true_or, vx_some, eq_self, ↓reduceIte, ite_t1, ite_t2, ite_t3, le_T, le_F, lt_T, lt_F, ge_T, ge_F, gt_T, gt_F, eq_T, eq_F, w32_i, kd_1, kd_2, kd_3, kd_4, kd_5, kd_6, kd_7, kd_14, kd_15, kd_16, kd_29, kd_34, kd_56, kd_74, kd_75, kd_76, kd_77, kd_78, kd_79, kd_80, kd_81, kd_82, kd_83, kd_84, kd_85, kd_86, kd_87, kd_88, kd_89, kd_90, kd_91, kd_92, kd_93, kd_94, kd_95, kd_96, kd_97, kd_98, kd_99, kd_100, kd_101, kd_102, kd_103, kd_104, kd_105, kd_106, kd_107, kd_108]; done))
    | (refine Eq.trans (bnd (r := ?_) ?_) ?_; rotate_left 1; (focus (simp (disch := omega) only [d_isGood b, c19, Int.reduceLT, Int.reduceLE, Int.reduceEq, Int.reduceNe, Int.reduceNeg, Int.reduceAdd, Int.reduceSub, Int.reduceMul, Int.reduceGE, Int.reduceGT, Nat.reduceEqDiff, Nat.reduceAdd, and_true, true_and, and_self, not_true_eq_false, not_false_eq_true, ne_eq, and_false, false_and, or_false, or_true, false_or, true_or, vx_some, eq_self, ↓reduceIte, ite_t1, ite_t2, ite_t3, le_T, le_F, lt_T, lt_F, ge_T, ge_F, gt_T, gt_F, eq_T, eq_F, w32_i, kd_1, kd_2, kd_3, kd_4, kd_5, kd_6, kd_7, kd_14, kd_15, kd_16, kd_29, kd_34, kd_56, kd_74, kd_75, kd_76, kd_77, kd_78, kd_79, kd_80, kd_81, kd_82, kd_83, kd_84, kd_85, kd_86, kd_87, kd_88, kd_89, kd_90, kd_91, kd_92, kd_93, kd_94, kd_95, kd_96, kd_97, kd_98, kd_99, kd_100, kd_101, kd_102, kd_103, kd_104, kd_105, kd_106, kd_107, kd_108]; exact rfl)); simp only [vx_some])
  all_goals simp (disch := omega) only [c19, w32_i]
  all_goals exact a1
theorem c_fl (hD : D = 30 ∨ D = 52) (F : FX m') (hp : m' 3 1 = D) (f0 : 0 ≤ f) (f1 : f ≤ 74) {j v : Int} (j0 : 1 ≤ j) (j1 : j ≤ 3) (z : Vl) (hv : m' 3 4 = v) (hr : vm 69 [(2, 3), (0, 0), (0, 9999)] (n, m) = some (some (0, 1), (n, m'))) : vp 81 74 [(2, 3), z, (0, 4 * f), (0, j)] [] (n, m) = vp 81 74 [(2, 3), (9, 0), (0, 4 * f), (0, j + 1)] [] (n, stm m' (D + 5) (4 * f + j) v) := by
  obtain ⟨k1, -, -, -, -, k6⟩ := plan_kd hD
  obtain ⟨-, -, -, -, p4⟩ := F.plan hD
  have D0 : 0 < D := by omega
  clear F
  refine Eq.trans (e_X9_tellsFill_74 ..) ?_
  repeat first
    | (refine Eq.trans (if_pos ?_) ?_; · first | omega | (simp (disch := omega) only [hr, hp, k1, p4, k6, Int.reduceLT, Int.reduceLE, Int.reduceEq, Int.reduceNe, Int.reduceNeg, Int.reduceAdd, Int.reduceSub, Int.reduceMul, Int.reduceGE, Int.reduceGT, Nat.reduceEqDiff, Nat.reduceAdd, and_true, true_and, and_self, not_true_eq_false, not_false_eq_true, ne_eq, and_false, false_and, or_false, or_true, false_or, true_or, vx_some, eq_self, ↓reduceIte, ite_t1, ite_t2, ite_t3, le_T, le_F, lt_T, lt_F, ge_T, ge_F, gt_T, gt_F, eq_T, eq_F, w32_i, kd_1, kd_2, kd_3, kd_4, kd_5, kd_6, kd_7, kd_14, kd_15, kd_16, kd_29, kd_34, kd_56, kd_74, kd_75, kd_76, kd_77, kd_78, kd_79, kd_80, kd_81, kd_82, kd_83, kd_84, kd_85, kd_86, kd_87, kd_88, kd_89, kd_90, kd_91, kd_92, kd_93, kd_94, kd_95, kd_96, kd_97, kd_98, kd_99, kd_100, kd_101, kd_102, kd_103, kd_104, kd_105, kd_106, kd_107, kd_108]; done))
    | (refine Eq.trans (if_neg ?_) ?_; · first | omega | (simp (disch := omega) only [hr, hp, k1, p4, k6, Int.reduceLT, Int.reduceLE, Int.reduceEq, Int.reduceNe, Int.reduceNeg, Int.reduceAdd, Int.reduceSub, Int.reduceMul, Int.reduceGE, Int.reduceGT, Nat.reduceEqDiff, Nat.reduceAdd, and_true, true_and, and_self, not_true_eq_false, not_false_eq_true, ne_eq, and_false, false_and, or_false, or_true, false_or, true_or, vx_some, eq_self, ↓reduceIte, ite_t1, ite_t2, ite_t3, le_T, le_F, lt_T, lt_F, ge_T, ge_F, gt_T, gt_F, eq_T, eq_F, w32_i, kd_1, kd_2, kd_3, kd_4, kd_5, kd_6, kd_7, kd_14, kd_15, kd_16, kd_29, kd_34, kd_56, kd_74, kd_75, kd_76, kd_77, kd_78, kd_79, kd_80, kd_81, kd_82, kd_83, kd_84, kd_85, kd_86, kd_87, kd_88, kd_89, kd_90, kd_91, kd_92, kd_93, kd_94, kd_95, kd_96, kd_97, kd_98, kd_99, kd_100, kd_101, kd_102, kd_103, kd_104, kd_105, kd_106, kd_107, kd_108]; done))
    | (refine Eq.trans (bnd (r := ?_) ?_) ?_; rotate_left 1; (focus (simp (disch := omega) only [hr, hp, k1, p4, k6, Int.reduceLT, Int.reduceLE, Int.reduceEq, Int.reduceNe, Int.reduceNeg, Int.reduceAdd, Int.reduceSub, Int.reduceMul, Int.reduceGE, Int.reduceGT, Nat.reduceEqDiff, Nat.reduceAdd, and_true, true_and, and_self, not_true_eq_false, not_false_eq_true, ne_eq, and_false, false_and, or_false, or_true, false_or, true_or, vx_some, eq_self, ↓reduceIte, ite_t1, ite_t2, ite_t3, le_T, le_F, lt_T, lt_F, ge_T, ge_F, gt_T, gt_F, eq_T, eq_F, w32_i, kd_1, kd_2, kd_3, kd_4, kd_5, kd_6, kd_7, kd_14, kd_15, kd_16, kd_29, kd_34, kd_56, kd_74, kd_75, kd_76, kd_77, kd_78, kd_79, kd_80, kd_81, kd_82, kd_83, kd_84, kd_85, kd_86, kd_87, kd_88, kd_89, kd_90, kd_91, kd_92, kd_93, kd_94, kd_95, kd_96, kd_97, kd_98, kd_99, kd_100, kd_101, kd_102, kd_103, kd_104, kd_105, kd_106, kd_107, kd_108]; exact rfl)); simp only [vx_some])
  all_goals simp (disch := omega) only [hp, p4, hv, w32_i]
theorem c_flN {j : Int} (x2 : Int) (j1 : j ≤ 3) (z : Vl) (hr : vm 69 [(2, 3), (0, 0), (0, 9999)] (n, m) = some (some (0, 0), (n, m'))) : vp 81 74 [(2, 3), z, (0, x2), (0, j)] [] (n, m) = some (some (0, 0), (n, m')) := by
  refine Eq.trans (e_X9_tellsFill_74 ..) ?_
  repeat first
    | (refine Eq.trans (if_pos ?_) ?_; · first | omega | (simp (disch := omega) only [hr, Int.reduceLT, Int.reduceLE, Int.reduceEq, Int.reduceNe, Int.reduceNeg, Int.reduceAdd, Int.reduceSub, Int.reduceMul, Int.reduceGE, Int.reduceGT, Nat.reduceEqDiff, Nat.reduceAdd, and_true, true_and, and_self, not_true_eq_false, not_false_eq_true, ne_eq, and_false, false_and, or_false, or_true, false_or, true_or, vx_some, eq_self, ↓reduceIte, ite_t1, ite_t2, ite_t3, le_T, le_F, lt_T, lt_F, ge_T, ge_F, gt_T, gt_F, eq_T, eq_F, w32_i, kd_1, kd_2, kd_3, kd_4, kd_5, kd_6, kd_7, kd_14, kd_15, kd_16, kd_29, kd_34, kd_56, kd_74, kd_75, kd_76, kd_77, kd_78, kd_79, kd_80, kd_81, kd_82, kd_83, kd_84, kd_85, kd_86, kd_87, kd_88, kd_89, kd_90, kd_91, kd_92, kd_93, kd_94, kd_95, kd_96, kd_97, kd_98, kd_99, kd_100, kd_101, kd_102, kd_103, kd_104, kd_105, kd_106, kd_107, kd_108]; done))
    | (refine Eq.trans (if_neg ?_) ?_; · first | omega | (simp (disch := omega) only [hr, Int.reduceLT, Int.reduceLE, Int.reduceEq, Int.reduceNe, Int.reduceNeg, Int.reduceAdd, Int.reduceSub, Int.reduceMul, Int.reduceGE, Int.reduceGT, Nat.reduceEqDiff, Nat.reduceAdd, and_true, true_and, and_self, not_true_eq_false, not_false_eq_true, ne_eq, and_false, false_and, or_false, or_true, false_or, true_or, vx_some, eq_self, ↓reduceIte, ite_t1, ite_t2, ite_t3, le_T, le_F, lt_T, lt_F, ge_T, ge_F, gt_T, gt_F, eq_T, eq_F, w32_i, kd_1, kd_2, kd_3, kd_4, kd_5, kd_6, kd_7, kd_14, kd_15, kd_16, kd_29, kd_34, kd_56, kd_74, kd_75, kd_76, kd_77, kd_78, kd_79, kd_80, kd_81, kd_82, kd_83, kd_84, kd_85, kd_86, kd_87, kd_88, kd_89, kd_90, kd_91, kd_92, kd_93, kd_94, kd_95, kd_96, kd_97, kd_98, kd_99, kd_100, kd_101, kd_102, kd_103, kd_104, kd_105, kd_106, kd_107, kd_108]; done))
    | (refine Eq.trans (bnd (r := ?_) ?_) ?_; rotate_left 1; (focus (simp (disch := omega) only [hr, Int.reduceLT, Int.reduceLE, Int.reduceEq, Int.reduceNe, Int.reduceNeg, Int.reduceAdd, Int.reduceSub, Int.reduceMul, Int.reduceGE, Int.reduceGT, Nat.reduceEqDiff, Nat.reduceAdd, and_true, true_and, and_self, not_true_eq_false, not_false_eq_true, ne_eq, and_false, false_and, or_false, or_true, false_or, true_or, vx_some, eq_self, ↓reduceIte, ite_t1, ite_t2, ite_t3, le_T, le_F, lt_T, lt_F, ge_T, ge_F, gt_T, gt_F, eq_T, eq_F, w32_i, kd_1, kd_2, kd_3, kd_4, kd_5, kd_6, kd_7, kd_14, kd_15, kd_16, kd_29, kd_34, kd_56, kd_74, kd_75, kd_76, kd_77, kd_78, kd_79, kd_80, kd_81, kd_82, kd_83, kd_84, kd_85, kd_86, kd_87, kd_88, kd_89, kd_90, kd_91, kd_92, kd_93, kd_94, kd_95, kd_96, kd_97, kd_98, kd_99, kd_100, kd_101, kd_102, kd_103, kd_104, kd_105, kd_106, kd_107, kd_108]; exact rfl)); simp only [vx_some])
  all_goals with_reducible rfl
theorem c_flE (hD : D = 30 ∨ D = 52) (hp : m 3 1 = D) (h7 : m D 7 = f) (f0 : 0 ≤ f) (f1 : f ≤ 74) (x2 : Int) (z : Vl) {b : Int} (hb : b = 0 ∨ b = 1) (hr : vm 68 [(2, 3)] (n, stm m D 7 (f + 1)) = some (some (0, b), (n, m'))) : vp 81 74 [(2, 3), z, (0, x2), (0, 4)] [] (n, m) = some (some (0, b), (n, m')) := by
  have k1 := (plan_kd hD).1
  have D0 : 0 < D := by omega
  have pm : vm 314 [(0, f + 1), (0, 75)] (n, m) = some (some (0, f + 1), (n, m)) := by rw [p_min, Int.min_eq_left (by omega)]
  refine Eq.trans (e_X9_tellsFill_74 ..) ?_
  repeat first
    | (refine Eq.trans (if_pos ?_) ?_; · first | omega | (simp (disch := omega) only [hp, k1, h7, pm, hr, Int.reduceLT, Int.reduceLE, Int.reduceEq, Int.reduceNe, Int.reduceNeg, Int.reduceAdd, Int.reduceSub, Int.reduceMul, Int.reduceGE, Int.reduceGT, Nat.reduceEqDiff, Nat.reduceAdd, and_true, true_and, and_self, not_true_eq_false, not_false_eq_true, ne_eq, and_false, false_and, or_false, or_true, false_or, true_or, vx_some, eq_self, ↓reduceIte, ite_t1, ite_t2, ite_t3, le_T, le_F, lt_T, lt_F, ge_T, ge_F, gt_T, gt_F, eq_T, eq_F, w32_i, kd_1, kd_2, kd_3, kd_4, kd_5, kd_6, kd_7, kd_14, kd_15, kd_16, kd_29, kd_34, kd_56, kd_74, kd_75, kd_76, kd_77, kd_78, kd_79, kd_80, kd_81, kd_82, kd_83, kd_84, kd_85, kd_86, kd_87, kd_88, kd_89, kd_90, kd_91, kd_92, kd_93, kd_94, kd_95, kd_96, kd_97, kd_98, kd_99, kd_100, kd_101, kd_102, kd_103, kd_104, kd_105, kd_106, kd_107, kd_108]; done))
    | (refine Eq.trans (if_neg ?_) ?_; · first | omega | (simp (disch := omega) only [hp, k1, h7, pm, hr, Int.reduceLT, Int.reduceLE, Int.reduceEq, Int.reduceNe, Int.reduceNeg, Int.reduceAdd, Int.reduceSub, Int.reduceMul, Int.reduceGE, Int.reduceGT, Nat.reduceEqDiff, Nat.reduceAdd, and_true, true_and, and_self, not_true_eq_false, not_false_eq_true, ne_eq, and_false, false_and, or_false, or_true, false_or, true_or, vx_some, eq_self, ↓reduceIte, ite_t1, ite_t2, ite_t3, le_T, le_F, lt_T, lt_F, ge_T, ge_F, gt_T, gt_F, eq_T, eq_F, w32_i, kd_1, kd_2, kd_3, kd_4, kd_5, kd_6, kd_7, kd_14, kd_15, kd_16, kd_29, kd_34, kd_56, kd_74, kd_75, kd_76, kd_77, kd_78, kd_79, kd_80, kd_81, kd_82, kd_83, kd_84, kd_85, kd_86, kd_87, kd_88, kd_89, kd_90, kd_91, kd_92, kd_93, kd_94, kd_95, kd_96, kd_97, kd_98, kd_99, kd_100, kd_101, kd_102, kd_103, kd_104, kd_105, kd_106, kd_107, kd_108]; done))
    | (refine Eq.trans (bnd (r := ?_) ?_) ?_; rotate_left 1; (focus (simp (disch := omega) only [hp, k1, h7, pm, hr, Int.reduceLT, Int.reduceLE, Int.reduceEq, Int.reduceNe, Int.reduceNeg, Int.reduceAdd, Int.reduceSub, Int.reduceMul, Int.reduceGE, Int.reduceGT, Nat.reduceEqDiff, Nat.reduceAdd, and_true, true_and, and_self, not_true_eq_false, not_false_eq_true, ne_eq, and_false, false_and, or_false, or_true, false_or, true_or, vx_some, eq_self, ↓reduceIte, ite_t1, ite_t2, ite_t3, le_T, le_F, lt_T, lt_F, ge_T, ge_F, gt_T, gt_F, eq_T, eq_F, w32_i, kd_1, kd_2, kd_3, kd_4, kd_5, kd_6, kd_7, kd_14, kd_15, kd_16, kd_29, kd_34, kd_56, kd_74, kd_75, kd_76, kd_77, kd_78, kd_79, kd_80, kd_81, kd_82, kd_83, kd_84, kd_85, kd_86, kd_87, kd_88, kd_89, kd_90, kd_91, kd_92, kd_93, kd_94, kd_95, kd_96, kd_97, kd_98, kd_99, kd_100, kd_101, kd_102, kd_103, kd_104, kd_105, kd_106, kd_107, kd_108]; exact rfl)); simp only [vx_some])
  all_goals with_reducible rfl
theorem PL.fill {m M m' M' : Mm} (hD : D = 30 ∨ D = 52) (P : PL m M D) (h7 : m D 7 = f) (f1 : f ≤ 74) (e : ∀ o q : Int, 30 ≤ o → ¬ (o = D ∧ q = 7) → ¬ (o = D + 5 ∧ 4 * f ≤ q) → m' o q = m o q) (g : ∀ o q : Int, ¬ (o = 88 ∧ ((3 ≤ q ∧ q ≤ 9) ∨ q = 12 ∨ q = 20)) → ¬ (o = 96 ∧ 4 * f ≤ q) → M' o q = M o q) (e7 : m' D 7 = f + 1) (g7 : M' 88 20 = f + 1) (en : ((M' 96 (4 * f) = m' (D + 5) (4 * f) ∧ M' 96 (4 * f + 1) = m' (D + 5) (4 * f + 1)) ∧ M' 96 (4 * f + 2) = m' (D + 5) (4 * f + 2) ∧ M' 96 (4 * f + 3) = m' (D + 5) (4 * f + 3)) ∧ (0 ≤ m' (D + 5) (4 * f) ∧ m' (D + 5) (4 * f) < m D 6) ∧ (0 ≤ m' (D + 5) (4 * f + 1) ∧ m' (D + 5) (4 * f + 1) ≤ 9999) ∧ (0 ≤ m' (D + 5) (4 * f + 2) ∧ m' (D + 5) (4 * f + 2) ≤ 9999) ∧ (0 ≤ m' (D + 5) (4 * f + 3) ∧ m' (D + 5) (4 * f + 3) ≤ 9999)) : PL m' M' D := by
  obtain ⟨a, b, c, d, h⟩ := P
  refine ⟨a.fr (e _ _ (by omega) (by omega) (by omega)) (e _ _ (by omega) (by omega) (by omega)) (fun k => e _ _ (by omega) (by omega) (by omega)) (fun k k0 k1 => e _ _ (by omega) (by omega) (by omega)) (g _ _ (by omega) (by omega)) (g _ _ (by omega) (by omega)) (fun k => g _ _ (by omega) (by omega)) (fun k => g _ _ (by omega) (by omega)), b.fr (e _ _ (by omega) (by omega) (by omega)) (fun k => e _ _ (by omega) (by omega) (by omega)) (fun k => e _ _ (by omega) (by omega) (by omega)) (fun k => g _ _ (by omega) (by omega)) (fun k => g _ _ (by omega) (by omega)), fun k k0 k1 => ?_, ⟨?_, fun k k0 k1 => ?_⟩, h.fr (fun q _ => e _ _ (by omega) (by omega) (by omega)) (g 88 21 (by omega) (by omega)) (fun q _ _ => g _ _ (by omega) (by omega))⟩
  · rw [e D 6 (by omega) (by omega) (by omega)] at k1
    exact (c k k0 k1).fr (Int.le_of_eq (e _ _ (by omega) (by omega) (by omega)).symm) (fun j _ _ => ⟨e _ _ (by omega) (by omega) (by omega), e _ _ (by omega) (by omega) (by omega)⟩) (fun o q h1 h2 => e _ _ (by omega) (by omega) (by omega)) (fun q _ _ => g _ _ (by omega) (by omega))
  · rw [e7, g7]
    have := d.1
    omega
  · have e6 : m' D 6 = m D 6 := e _ _ (by omega) (by omega) (by omega)
    rw [e6]
    by_cases z : k = f
    · rw [z]
      exact en
    · rw [e7] at k1
      have kf : k < f := by omega
      rw [e _ _ (by omega) (by omega) (by omega), e _ _ (by omega) (by omega) (by omega), e _ _ (by omega) (by omega) (by omega), e _ _ (by omega) (by omega) (by omega), g _ _ (by omega) (by omega), g _ _ (by omega) (by omega), g _ _ (by omega) (by omega), g _ _ (by omega) (by omega)]
      exact d.2 k k0 (by omega)
theorem tnm_rng (m : Mm) (D w : Int) (h0 : 0 ≤ m D 6) : tnm m D w = -1 ∨ (0 ≤ tnm m D w ∧ tnm m D w < m D 6) := by
  unfold tnm
  rcases fh_spec (fun k => m (D + 6 + 4 * k) 3) w (m D 6).toNat 0 (by omega) with a | a
  · exact Or.inl a.1
  · exact Or.inr (by omega)
theorem snm_rng (m : Mm) (D w : Int) (h0 : 0 ≤ m D 5) : snm m D w = -1 ∨ (0 ≤ snm m D w ∧ snm m D w < m D 5) := by
  unfold snm
  rcases fh_spec (m (D + 1)) w (m D 5).toNat 0 (by omega) with a | a
  · exact Or.inl a.1
  · exact Or.inr (by omega)
theorem BD.tr {m M M' : Mm} (B : BD m M) (e8 : M' 88 8 = M 88 8) (e9 : M' 88 9 = M 88 9) : BD m M' := by
  unfold BD at *
  rw [e8, e9]
  exact B
/-- a number token has a byte at least; so has a word -/
theorem GD.len (G : GD m M) : (M 88 5 = 1 ∨ M 88 5 = 2 ∨ M 88 5 = 3) → M 88 4 + 1 ≤ M 88 3 := by
  intro h
  rcases G.2.1.2.2 with w | w | w | w | w
  · omega
  · omega
  · omega
  · omega
  · have := w.2.2.1
    have := w.2.2.2.2.1
    omega
theorem GD.fill4 (G : GD m M) (k : m 4 9 = 11) : M 88 5 = 1 ∧ M 88 4 + 4 ≤ M 88 3 := by
  rcases G.2.1.2.2 with w | w | w | w | w
  · omega
  · omega
  · omega
  · omega
  · obtain ⟨a1, a2, a3, a4, a5, a6, a7, a8, a9, a10⟩ := w
    have e : voc (m 4 9) = m 4 7 := by
      rcases a8 with ⟨b1, b2⟩ | ⟨b1, b2⟩
      · omega
      · exact b2
    rw [k, show voc 11 = 206220 from rfl] at e
    refine ⟨a1, ?_⟩
    clear a6 a8
    rcases Int.lt_or_le 3 (M 88 7) with q | q
    · omega
    · have := a10 q
      omega
end
