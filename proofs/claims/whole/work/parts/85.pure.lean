/-! THE PURE PART: flush -/
def fil (m : Mm) (c a b v : Int) : Mm := fun o k => if o = c ∧ a ≤ k ∧ k < b then v else m o k
theorem fil_ap (m : Mm) (c a b v o k : Int) : fil m c a b v o k = if o = c ∧ a ≤ k ∧ k < b then v else m o k := rfl
theorem fil_nil (m : Mm) (c a v : Int) : fil m c a a v = m := by
  funext o k
  rw [fil_ap, if_neg (by omega)]
theorem fil_step (m : Mm) {c a b v : Int} (ab : a ≤ b) : stm (fil m c a b v) c b v = fil m c a (b + 1) v := by
  funext o k
  rw [stm_ap, fil_ap, fil_ap]
  by_cases z : o = c ∧ k = b
  · rw [if_pos z, if_pos (by omega)]
  · rw [if_neg z]
    by_cases y : o = c ∧ a ≤ k ∧ k < b
    · rw [if_pos y, if_pos (by omega)]
    · rw [if_neg y, if_neg (by omega)]
theorem c_fill5 {n : Int} {m : Mm} {c N v : Int} (c0 : 0 < c) (kc : kd c = (20, N)) (hN : N ≤ 100000) : ∀ k j : Nat, (j : Int) + k = N → vp 321 5 [(2, c), (0, v), (0, (j : Int)), (0, N)] [] (n, fil m c 0 j v) = some (none, (n, fil m c 0 N v)) := by
  intro k
  induction k with
  | zero =>
    intro j e
    rw [e_J7_fill_53178_5, if_pos (by omega), show (j : Int) = N by omega]
  | succ k ih =>
    intro j e
    have ih' := ih (j + 1) (by omega)
    rw [e_J7_fill_53178_5, if_neg (by omega), if_pos (by rw [kc]; exact ⟨c0, rfl, by omega, by omega⟩), w32_i (by omega) (by omega)]
    dsimp only
    rw [fil_step m (by omega)]
    exact ih'
theorem c_fill {n : Int} {m : Mm} {c N v : Int} (c0 : 0 < c) (kc : kd c = (20, N)) (N0 : 0 ≤ N) (hN : N ≤ 100000) : vm 321 [(2, c), (0, v)] (n, m) = some (none, (n, fil m c 0 N v)) := by
  have := c_fill5 (n := n) (m := m) (v := v) c0 kc hN N.toNat 0 (by omega)
  rw [show ((0 : Nat) : Int) = 0 from rfl, fil_nil] at this
  rw [e_J7_fill_53178, if_pos (by rw [kc]; exact ⟨by show (20 : Nat) ≤ 20; omega, by show (20 : Nat) ≤ 25; omega⟩), kc]
  exact this
def clC (m : Mm) (C : Int) : Mm := stm (stm (fil m (C + 1) 0 32 (-1)) C 5 0) C 6 0
theorem c_clear {n : Int} {m : Mm} {C : Int} (hC : C = 77 ∨ C = 80) (l0 : m C 0 = C + 1) : vm 9 [(2, C)] (n, m) = some (none, (n, clC m C)) := by
  have k1 : kd C = (1, 7) := by rcases hC with e | e <;> rw [e] <;> rfl
  have k2 : kd (C + 1) = (20, 32) := by rcases hC with e | e <;> rw [e] <;> rfl
  have ff := c_fill (n := n) (m := m) (v := -1) (show 0 < C + 1 by omega) k2 (by omega) (by omega)
  rw [e_X1_clear]
  repeat first
    | (refine Eq.trans (if_pos ?_) ?_; · first | omega | (simp (disch := omega) only [k1, l0, ff, Int.reduceLT, Int.reduceLE, Int.reduceEq, Int.reduceNe, Int.reduceNeg, Int.reduceAdd, Int.reduceSub, Int.reduceMul, Int.reduceGE, Int.reduceGT, Nat.reduceEqDiff, Nat.reduceAdd, and_true, true_and, and_self, not_true_eq_false, not_false_eq_true, ne_eq, and_false, false_and, or_false, or_true, false_or, true_or, vx_some, eq_self, ↓reduceIte, ite_t1, ite_t2, ite_t3, le_T, le_F, lt_T, lt_F, ge_T, ge_F, gt_T, gt_F, eq_T, eq_F, w32_i, kd_1, kd_2, kd_3, kd_4, kd_5, kd_6, kd_7, kd_14, kd_15, kd_16, kd_29, kd_34, kd_56, kd_74, kd_75, kd_76, kd_77, kd_78, kd_79, kd_80, kd_81, kd_82, kd_83, kd_84, kd_85, kd_86, kd_87, kd_88, kd_89, kd_90, kd_91, kd_92, kd_93, kd_94, kd_95, kd_96, kd_97, kd_98, kd_99, kd_100, kd_101, kd_102, kd_103, kd_104, kd_105, kd_106, kd_107, kd_108]; done))
    | (refine Eq.trans (if_neg ?_) ?_; · first | omega | (simp (disch := omega) only [k1, l0, ff, Int.reduceLT, Int.reduceLE, Int.reduceEq, Int.reduceNe, Int.reduceNeg, Int.reduceAdd, Int.reduceSub, Int.reduceMul, Int.reduceGE, Int.reduceGT, Nat.reduceEqDiff, Nat.reduceAdd, and_true, true_and, and_self, not_true_eq_false, not_false_eq_true, ne_eq, and_false, false_and, or_false, or_true, false_or, true_or, vx_some, eq_self, ↓reduceIte, ite_t1, ite_t2, ite_t3, le_T, le_F, lt_T, lt_F, ge_T, ge_F, gt_T, gt_F, eq_T, eq_F, w32_i, kd_1, kd_2, kd_3, kd_4, kd_5, kd_6, kd_7, kd_14, kd_15, kd_16, kd_29, kd_34, kd_56, kd_74, kd_75, kd_76, kd_77, kd_78, kd_79, kd_80, kd_81, kd_82, kd_83, kd_84, kd_85, kd_86, kd_87, kd_88, kd_89, kd_90, kd_91, kd_92, kd_93, kd_94, kd_95, kd_96, kd_97, kd_98, kd_99, kd_100, kd_101, kd_102, kd_103, kd_104, kd_105, kd_106, kd_107, kd_108]; done))
    | (refine Eq.trans (bnd (r := ?_) ?_) ?_; rotate_left 1; (focus (simp (disch := omega) only [k1, l0, ff, Int.reduceLT, Int.reduceLE, Int.reduceEq, Int.reduceNe, Int.reduceNeg, Int.reduceAdd, Int.reduceSub, Int.reduceMul, Int.reduceGE, Int.reduceGT, Nat.reduceEqDiff, Nat.reduceAdd, and_true, true_and, and_self, not_true_eq_false, not_false_eq_true, ne_eq, and_false, false_and, or_false, or_true, false_or, true_or, vx_some, eq_self, ↓reduceIte, ite_t1, ite_t2, ite_t3, le_T, le_F, lt_T, lt_F, ge_T, ge_F, gt_T, gt_F, eq_T, eq_F, w32_i, kd_1, kd_2, kd_3, kd_4, kd_5, kd_6, kd_7, kd_14, kd_15, kd_16, kd_29, kd_34, kd_56, kd_74, kd_75, kd_76, kd_77, kd_78, kd_79, kd_80, kd_81, kd_82, kd_83, kd_84, kd_85, kd_86, kd_87, kd_88, kd_89, kd_90, kd_91, kd_92, kd_93, kd_94, kd_95, kd_96, kd_97, kd_98, kd_99, kd_100, kd_101, kd_102, kd_103, kd_104, kd_105, kd_106, kd_107, kd_108]; exact rfl)); simp only [vx_some])
  rfl
theorem c_tclear {n : Int} {m : Mm} (F : FX m) : vm 60 [(2, 83)] (n, m) = some (none, (n, stm (stm (fil m 84 0 2400 0) 83 1 0) 83 2 0)) := by
  have c0 := F.c83_0
  have ff := c_fill (n := n) (m := m) (v := 0) (show 0 < (84 : Int) by omega) kd_84 (by omega) (by omega)
  rw [e_X8_clear]
  repeat first
    | (refine Eq.trans (if_pos ?_) ?_; · first | omega | (simp (disch := omega) only [c0, ff, Int.reduceLT, Int.reduceLE, Int.reduceEq, Int.reduceNe, Int.reduceNeg, Int.reduceAdd, Int.reduceSub, Int.reduceMul, Int.reduceGE, Int.reduceGT, Nat.reduceEqDiff, Nat.reduceAdd, and_true, true_and, and_self, not_true_eq_false, not_false_eq_true, ne_eq, and_false, false_and, or_false, or_true, false_or, true_or, vx_some, eq_self, ↓reduceIte, ite_t1, ite_t2, ite_t3, le_T, le_F, lt_T, lt_F, ge_T, ge_F, gt_T, gt_F, eq_T, eq_F, w32_i, kd_1, kd_2, kd_3, kd_4, kd_5, kd_6, kd_7, kd_14, kd_15, kd_16, kd_29, kd_34, kd_56, kd_74, kd_75, kd_76, kd_77, kd_78, kd_79, kd_80, kd_81, kd_82, kd_83, kd_84, kd_85, kd_86, kd_87, kd_88, kd_89, kd_90, kd_91, kd_92, kd_93, kd_94, kd_95, kd_96, kd_97, kd_98, kd_99, kd_100, kd_101, kd_102, kd_103, kd_104, kd_105, kd_106, kd_107, kd_108]; done))
    | (refine Eq.trans (if_neg ?_) ?_; · first | omega | (simp (disch := omega) only [c0, ff, Int.reduceLT, Int.reduceLE, Int.reduceEq, Int.reduceNe, Int.reduceNeg, Int.reduceAdd, Int.reduceSub, Int.reduceMul, Int.reduceGE, Int.reduceGT, Nat.reduceEqDiff, Nat.reduceAdd, and_true, true_and, and_self, not_true_eq_false, not_false_eq_true, ne_eq, and_false, false_and, or_false, or_true, false_or, true_or, vx_some, eq_self, ↓reduceIte, ite_t1, ite_t2, ite_t3, le_T, le_F, lt_T, lt_F, ge_T, ge_F, gt_T, gt_F, eq_T, eq_F, w32_i, kd_1, kd_2, kd_3, kd_4, kd_5, kd_6, kd_7, kd_14, kd_15, kd_16, kd_29, kd_34, kd_56, kd_74, kd_75, kd_76, kd_77, kd_78, kd_79, kd_80, kd_81, kd_82, kd_83, kd_84, kd_85, kd_86, kd_87, kd_88, kd_89, kd_90, kd_91, kd_92, kd_93, kd_94, kd_95, kd_96, kd_97, kd_98, kd_99, kd_100, kd_101, kd_102, kd_103, kd_104, kd_105, kd_106, kd_107, kd_108]; done))
    | (refine Eq.trans (bnd (r := ?_) ?_) ?_; rotate_left 1; (focus (simp (disch := omega) only [c0, ff, Int.reduceLT, Int.reduceLE, Int.reduceEq, Int.reduceNe, Int.reduceNeg, Int.reduceAdd, Int.reduceSub, Int.reduceMul, Int.reduceGE, Int.reduceGT, Nat.reduceEqDiff, Nat.reduceAdd, and_true, true_and, and_self, not_true_eq_false, not_false_eq_true, ne_eq, and_false, false_and, or_false, or_true, false_or, true_or, vx_some, eq_self, ↓reduceIte, ite_t1, ite_t2, ite_t3, le_T, le_F, lt_T, lt_F, ge_T, ge_F, gt_T, gt_F, eq_T, eq_F, w32_i, kd_1, kd_2, kd_3, kd_4, kd_5, kd_6, kd_7, kd_14, kd_15, kd_16, kd_29, kd_34, kd_56, kd_74, kd_75, kd_76, kd_77, kd_78, kd_79, kd_80, kd_81, kd_82, kd_83, kd_84, kd_85, kd_86, kd_87, kd_88, kd_89, kd_90, kd_91, kd_92, kd_93, kd_94, kd_95, kd_96, kd_97, kd_98, kd_99, kd_100, kd_101, kd_102, kd_103, kd_104, kd_105, kd_106, kd_107, kd_108]; exact rfl)); simp only [vx_some])
  rfl
theorem p_emp2 {n : Int} {m : Mm} (F : FX m) {R : Mm → Option (Option Vl × Hq)} (hR : (fun M => vp 287 23 [(2, 88), (0, 0)] [] (n, M)) = R) : ∀ k j : Nat, (j : Int) + k = 64 → vp 287 2 [(2, 88), (0, (j : Int))] [] (n, fil m 103 0 j (-1)) = R (fil m 103 0 64 (-1)) := by
  intro k
  induction k with
  | zero =>
    intro j e
    rw [e_X12_empties_2, if_pos (by omega), show (j : Int) = 64 by omega, ← hR]
  | succ k ih =>
    intro j e
    have ih' := ih (j + 1) (by omega)
    have e31 : fil m 103 0 j (-1) 88 31 = 103 := by rw [fil_ap, if_neg (by omega)]; exact F.c88_31
    rw [e_X12_empties_2]
    repeat first
      | (refine Eq.trans (if_pos ?_) ?_; · first | omega | (simp (disch := omega) only [e31, Int.reduceLT, Int.reduceLE, Int.reduceEq, Int.reduceNe, Int.reduceNeg, Int.reduceAdd, Int.reduceSub, Int.reduceMul, Int.reduceGE, Int.reduceGT, Nat.reduceEqDiff, Nat.reduceAdd, and_true, true_and, and_self, not_true_eq_false, not_false_eq_true, ne_eq, and_false, false_and, or_false, or_true, false_or, true_or, vx_some, eq_self, ↓reduceIte, ite_t1, ite_t2, ite_t3, le_T, le_F, lt_T, lt_F, ge_T, ge_F, gt_T, gt_F, eq_T, eq_F, w32_i, kd_1, kd_2, kd_3, kd_4, kd_5, kd_6, kd_7, kd_14, kd_15, kd_16, kd_29, kd_34, kd_56, kd_74, kd_75, kd_76, kd_77, kd_78, kd_79, kd_80, kd_81, kd_82, kd_83, kd_84, kd_85, kd_86, kd_87, kd_88, kd_89, kd_90, kd_91, kd_92, kd_93, kd_94, kd_95, kd_96, kd_97, kd_98, kd_99, kd_100, kd_101, kd_102, kd_103, kd_104, kd_105, kd_106, kd_107, kd_108]; done))
      | (refine Eq.trans (if_neg ?_) ?_; · first | omega | (simp (disch := omega) only [e31, Int.reduceLT, Int.reduceLE, Int.reduceEq, Int.reduceNe, Int.reduceNeg, Int.reduceAdd, Int.reduceSub, Int.reduceMul, Int.reduceGE, Int.reduceGT, Nat.reduceEqDiff, Nat.reduceAdd, and_true, true_and, and_self, not_true_eq_false, not_false_eq_true, ne_eq, and_false, false_and, or_false, or_true, false_or, true_or, vx_some, eq_self, ↓reduceIte, ite_t1, ite_t2, ite_t3, le_T, le_F, lt_T, lt_F, ge_T, ge_F, gt_T, gt_F, eq_T, eq_F, w32_i, kd_1, kd_2, kd_3, kd_4, kd_5, kd_6, kd_7, kd_14, kd_15, kd_16, kd_29, kd_34, kd_56, kd_74, kd_75, kd_76, kd_77, kd_78, kd_79, kd_80, kd_81, kd_82, kd_83, kd_84, kd_85, kd_86, kd_87, kd_88, kd_89, kd_90, kd_91, kd_92, kd_93, kd_94, kd_95, kd_96, kd_97, kd_98, kd_99, kd_100, kd_101, kd_102, kd_103, kd_104, kd_105, kd_106, kd_107, kd_108]; done))
      | (refine Eq.trans (bnd (r := ?_) ?_) ?_; rotate_left 1; (focus (simp (disch := omega) only [e31, Int.reduceLT, Int.reduceLE, Int.reduceEq, Int.reduceNe, Int.reduceNeg, Int.reduceAdd, Int.reduceSub, Int.reduceMul, Int.reduceGE, Int.reduceGT, Nat.reduceEqDiff, Nat.reduceAdd, and_true, true_and, and_self, not_true_eq_false, not_false_eq_true, ne_eq, and_false, false_and, or_false, or_true, false_or, true_or, vx_some, eq_self, ↓reduceIte, ite_t1, ite_t2, ite_t3, le_T, le_F, lt_T, lt_F, ge_T, ge_F, gt_T, gt_F, eq_T, eq_F, w32_i, kd_1, kd_2, kd_3, kd_4, kd_5, kd_6, kd_7, kd_14, kd_15, kd_16, kd_29, kd_34, kd_56, kd_74, kd_75, kd_76, kd_77, kd_78, kd_79, kd_80, kd_81, kd_82, kd_83, kd_84, kd_85, kd_86, kd_87, kd_88, kd_89, kd_90, kd_91, kd_92, kd_93, kd_94, kd_95, kd_96, kd_97, kd_98, kd_99, kd_100, kd_101, kd_102, kd_103, kd_104, kd_105, kd_106, kd_107, kd_108]; exact rfl)); simp only [vx_some])
    simp only [e31]
    rw [w32_i (by omega) (by omega), fil_step m (by omega)]
    exact ih'
theorem p_emp23 {n : Int} {m : Mm} (F : FX m) : ∀ k j : Nat, (j : Int) + k = 2400 → vp 287 23 [(2, 88), (0, (j : Int))] [] (n, fil m 105 0 j 0) = some (none, (n, stm (stm (stm (fil m 105 0 2400 0) 88 34 0) 88 35 0) 88 36 0)) := by
  intro k
  induction k with
  | zero =>
    intro j e
    rw [e_X12_empties_23, if_pos (by omega), show (j : Int) = 2400 by omega]
    repeat first
      | (refine Eq.trans (if_pos ?_) ?_; · first | omega | (simp (disch := omega) only [Int.reduceLT, Int.reduceLE, Int.reduceEq, Int.reduceNe, Int.reduceNeg, Int.reduceAdd, Int.reduceSub, Int.reduceMul, Int.reduceGE, Int.reduceGT, Nat.reduceEqDiff, Nat.reduceAdd, and_true, true_and, and_self, not_true_eq_false, not_false_eq_true, ne_eq, and_false, false_and, or_false, or_true, false_or, true_or, vx_some, eq_self, ↓reduceIte, ite_t1, ite_t2, ite_t3, le_T, le_F, lt_T, lt_F, ge_T, ge_F, gt_T, gt_F, eq_T, eq_F, w32_i, kd_1, kd_2, kd_3, kd_4, kd_5, kd_6, kd_7, kd_14, kd_15, kd_16, kd_29, kd_34, kd_56, kd_74, kd_75, kd_76, kd_77, kd_78, kd_79, kd_80, kd_81, kd_82, kd_83, kd_84, kd_85, kd_86, kd_87, kd_88, kd_89, kd_90, kd_91, kd_92, kd_93, kd_94, kd_95, kd_96, kd_97, kd_98, kd_99, kd_100, kd_101, kd_102, kd_103, kd_104, kd_105, kd_106, kd_107, kd_108]; done))
      | (refine Eq.trans (if_neg ?_) ?_; · first | omega | (simp (disch := omega) only [Int.reduceLT, Int.reduceLE, Int.reduceEq, Int.reduceNe, Int.reduceNeg, Int.reduceAdd, Int.reduceSub, Int.reduceMul, Int.reduceGE, Int.reduceGT, Nat.reduceEqDiff, Nat.reduceAdd, and_true, true_and, and_self, not_true_eq_false, not_false_eq_true, ne_eq, and_false, false_and, or_false, or_true, false_or, true_or, vx_some, eq_self, ↓reduceIte, ite_t1, ite_t2, ite_t3, le_T, le_F, lt_T, lt_F, ge_T, ge_F, gt_T, gt_F, eq_T, eq_F, w32_i, kd_1, kd_2, kd_3, kd_4, kd_5, kd_6, kd_7, kd_14, kd_15, kd_16, kd_29, kd_34, kd_56, kd_74, kd_75, kd_76, kd_77, kd_78, kd_79, kd_80, kd_81, kd_82, kd_83, kd_84, kd_85, kd_86, kd_87, kd_88, kd_89, kd_90, kd_91, kd_92, kd_93, kd_94, kd_95, kd_96, kd_97, kd_98, kd_99, kd_100, kd_101, kd_102, kd_103, kd_104, kd_105, kd_106, kd_107, kd_108]; done))
      | (refine Eq.trans (bnd (r := ?_) ?_) ?_; rotate_left 1; (focus (simp (disch := omega) only [Int.reduceLT, Int.reduceLE, Int.reduceEq, Int.reduceNe, Int.reduceNeg, Int.reduceAdd, Int.reduceSub, Int.reduceMul, Int.reduceGE, Int.reduceGT, Nat.reduceEqDiff, Nat.reduceAdd, and_true, true_and, and_self, not_true_eq_false, not_false_eq_true, ne_eq, and_false, false_and, or_false, or_true, false_or, true_or, vx_some, eq_self, ↓reduceIte, ite_t1, ite_t2, ite_t3, le_T, le_F, lt_T, lt_F, ge_T, ge_F, gt_T, gt_F, eq_T, eq_F, w32_i, kd_1, kd_2, kd_3, kd_4, kd_5, kd_6, kd_7, kd_14, kd_15, kd_16, kd_29, kd_34, kd_56, kd_74, kd_75, kd_76, kd_77, kd_78, kd_79, kd_80, kd_81, kd_82, kd_83, kd_84, kd_85, kd_86, kd_87, kd_88, kd_89, kd_90, kd_91, kd_92, kd_93, kd_94, kd_95, kd_96, kd_97, kd_98, kd_99, kd_100, kd_101, kd_102, kd_103, kd_104, kd_105, kd_106, kd_107, kd_108]; exact rfl)); simp only [vx_some])
    rfl
  | succ k ih =>
    intro j e
    have ih' := ih (j + 1) (by omega)
    have e31 : fil m 105 0 j 0 88 33 = 105 := by rw [fil_ap, if_neg (by omega)]; exact F.c88_33
    rw [e_X12_empties_23]
    repeat first
      | (refine Eq.trans (if_pos ?_) ?_; · first | omega | (simp (disch := omega) only [e31, Int.reduceLT, Int.reduceLE, Int.reduceEq, Int.reduceNe, Int.reduceNeg, Int.reduceAdd, Int.reduceSub, Int.reduceMul, Int.reduceGE, Int.reduceGT, Nat.reduceEqDiff, Nat.reduceAdd, and_true, true_and, and_self, not_true_eq_false, not_false_eq_true, ne_eq, and_false, false_and, or_false, or_true, false_or, true_or, vx_some, eq_self, ↓reduceIte, ite_t1, ite_t2, ite_t3, le_T, le_F, lt_T, lt_F, ge_T, ge_F, gt_T, gt_F, eq_T, eq_F, w32_i, kd_1, kd_2, kd_3, kd_4, kd_5, kd_6, kd_7, kd_14, kd_15, kd_16, kd_29, kd_34, kd_56, kd_74, kd_75, kd_76, kd_77, kd_78, kd_79, kd_80, kd_81, kd_82, kd_83, kd_84, kd_85, kd_86, kd_87, kd_88, kd_89, kd_90, kd_91, kd_92, kd_93, kd_94, kd_95, kd_96, kd_97, kd_98, kd_99, kd_100, kd_101, kd_102, kd_103, kd_104, kd_105, kd_106, kd_107, kd_108]; done))
      | (refine Eq.trans (if_neg ?_) ?_; · first | omega | (simp (disch := omega) only [e31, Int.reduceLT, Int.reduceLE, Int.reduceEq, Int.reduceNe, Int.reduceNeg, Int.reduceAdd, Int.reduceSub, Int.reduceMul, Int.reduceGE, Int.reduceGT, Nat.reduceEqDiff, Nat.reduceAdd, and_true, true_and, and_self, not_true_eq_false, not_false_eq_true, ne_eq, and_false, false_and, or_false, or_true, false_or, true_or, vx_some, eq_self, ↓reduceIte, ite_t1, ite_t2, ite_t3, le_T, le_F, lt_T, lt_F, ge_T, ge_F, gt_T, gt_F, eq_T, eq_F, w32_i, kd_1, kd_2, kd_3, kd_4, kd_5, kd_6, kd_7, kd_14, kd_15, kd_16, kd_29, kd_34, kd_56, kd_74, kd_75, kd_76, kd_77, kd_78, kd_79, kd_80, kd_81, kd_82, kd_83, kd_84, kd_85, kd_86, kd_87, kd_88, kd_89, kd_90, kd_91, kd_92, kd_93, kd_94, kd_95, kd_96, kd_97, kd_98, kd_99, kd_100, kd_101, kd_102, kd_103, kd_104, kd_105, kd_106, kd_107, kd_108]; done))
      | (refine Eq.trans (bnd (r := ?_) ?_) ?_; rotate_left 1; (focus (simp (disch := omega) only [e31, Int.reduceLT, Int.reduceLE, Int.reduceEq, Int.reduceNe, Int.reduceNeg, Int.reduceAdd, Int.reduceSub, Int.reduceMul, Int.reduceGE, Int.reduceGT, Nat.reduceEqDiff, Nat.reduceAdd, and_true, true_and, and_self, not_true_eq_false, not_false_eq_true, ne_eq, and_false, false_and, or_false, or_true, false_or, true_or, vx_some, eq_self, ↓reduceIte, ite_t1, ite_t2, ite_t3, le_T, le_F, lt_T, lt_F, ge_T, ge_F, gt_T, gt_F, eq_T, eq_F, w32_i, kd_1, kd_2, kd_3, kd_4, kd_5, kd_6, kd_7, kd_14, kd_15, kd_16, kd_29, kd_34, kd_56, kd_74, kd_75, kd_76, kd_77, kd_78, kd_79, kd_80, kd_81, kd_82, kd_83, kd_84, kd_85, kd_86, kd_87, kd_88, kd_89, kd_90, kd_91, kd_92, kd_93, kd_94, kd_95, kd_96, kd_97, kd_98, kd_99, kd_100, kd_101, kd_102, kd_103, kd_104, kd_105, kd_106, kd_107, kd_108]; exact rfl)); simp only [vx_some])
    simp only [e31]
    rw [w32_i (by omega) (by omega), fil_step m (by omega)]
    exact ih'
def emM (m : Mm) : Mm := stm (stm (stm (fil (fil m 103 0 64 (-1)) 105 0 2400 0) 88 34 0) 88 35 0) 88 36 0
theorem FX.fil {m : Mm} (F : FX m) {c a b v : Int} (hc : c = 103 ∨ c = 105 ∨ c = 78 ∨ c = 81 ∨ c = 84) : FX (fil m c a b v) := F.fr (fun o k q => by
  unfold FXP at q
  rw [fil_ap, if_neg (by omega)])
theorem p_empties {n : Int} {m : Mm} (F : FX m) : vm 287 [(2, 88)] (n, m) = some (none, (n, emM m)) := by
  have a := p_emp2 (n := n) F rfl 64 0 (by omega)
  have F2 : FX (fil m 103 0 64 (-1)) := F.fil (by omega)
  have b := p_emp23 (n := n) F2 2400 0 (by omega)
  rw [show ((0 : Nat) : Int) = 0 from rfl, fil_nil] at a b
  rw [e_X12_empties, a]
  exact b
section
variable {i : Int} {h : Hq}
theorem k_flush (I : INV i h) (hi : i < 600) : OKC i 149 292 [] h := by
  obtain ⟨n, m⟩ := h
  have F := I.fx
  have ir := I.ir
  have C2 := I.ca.2.1
  have Z := I.cs
  dsimp only at F C2 Z
  have f7 : m 1 7 = 77 := F.c1_7
  have l0 : m 77 0 = 78 := F.c77_0
  have cc := c_clear (n := n) (m := m) (C := 77) (Or.inl rfl) l0
  have g0 : ∀ o k : Int, o ≠ 78 → ¬ (o = 77 ∧ (k = 5 ∨ k = 6)) → clC m 77 o k = m o k := fun o k h1 h2 => by
    unfold clC
    rw [stm_ap, if_neg (by omega), stm_ap, if_neg (by omega), fil_ap, if_neg (by omega)]
  have y78 : ∀ k : Int, 0 ≤ k → k < 32 → clC m 77 78 k = -1 := fun k k0 k1 => by
    unfold clC
    rw [stm_ap, if_neg (by omega), stm_ap, if_neg (by omega), fil_ap, if_pos (by omega)]
  have y5 : clC m 77 77 5 = 0 := by
    unfold clC
    rw [stm_ap, if_neg (by omega), stm_same]
  have y6 : clC m 77 77 6 = 0 := by
    unfold clC
    rw [stm_same]
  generalize clC m 77 = m1 at *
  have F1 : FX m1 := F.fr (fun c k q => by unfold FXP at q; exact g0 c k (by omega) (by omega))
  have f19 : m1 1 9 = 83 := F1.c1_9
  have ct := c_tclear (n := n) F1
  have g1 : ∀ o k : Int, ¬ (o = 84 ∨ o = 78 ∨ (o = 77 ∧ (k = 5 ∨ k = 6)) ∨ (o = 83 ∧ (k = 1 ∨ k = 2))) → stm (stm (fil m1 84 0 2400 0) 83 1 0) 83 2 0 o k = m o k := fun o k hk => by
    rw [stm_ap, if_neg (by omega), stm_ap, if_neg (by omega), fil_ap, if_neg (by omega), g0 o k (by omega) (by omega)]
  have z78 : ∀ o k : Int, o = 77 ∨ o = 78 → stm (stm (fil m1 84 0 2400 0) 83 1 0) 83 2 0 o k = m1 o k := fun o k ho => by
    rw [stm_ap, if_neg (by omega), stm_ap, if_neg (by omega), fil_ap, if_neg (by omega)]
  have z84 : ∀ k : Int, 0 ≤ k → k < 2400 → stm (stm (fil m1 84 0 2400 0) 83 1 0) 83 2 0 84 k = 0 := fun k k0 k1 => by
    rw [stm_ap, if_neg (by omega), stm_ap, if_neg (by omega), fil_ap, if_pos (by omega)]
  have z1 : stm (stm (fil m1 84 0 2400 0) 83 1 0) 83 2 0 83 1 = 0 := by rw [stm_ap, if_neg (by omega), stm_same]
  have z2 : stm (stm (fil m1 84 0 2400 0) 83 1 0) 83 2 0 83 2 = 0 := stm_same _ _ _ _
  have run : vm 149 [(2, 1)] (n, m) = some (some (0, hct (m 103) 32), (n, stm (stm (fil m1 84 0 2400 0) 83 1 0) 83 2 0)) := by
    rw [e_X11_flush]
    repeat first
      | (refine Eq.trans (if_pos ?_) ?_; · first | omega | (simp (disch := omega) only [f7, cc, f19, ct, Int.reduceLT, Int.reduceLE, Int.reduceEq, Int.reduceNe, Int.reduceNeg, Int.reduceAdd, Int.reduceSub, Int.reduceMul, Int.reduceGE, Int.reduceGT, Nat.reduceEqDiff, Nat.reduceAdd, and_true, true_and, and_self, not_true_eq_false, not_false_eq_true, ne_eq, and_false, false_and, or_false, or_true, false_or, true_or, vx_some, eq_self, ↓reduceIte, ite_t1, ite_t2, ite_t3, le_T, le_F, lt_T, lt_F, ge_T, ge_F, gt_T, gt_F, eq_T, eq_F, w32_i, kd_1, kd_2, kd_3, kd_4, kd_5, kd_6, kd_7, kd_14, kd_15, kd_16, kd_29, kd_34, kd_56, kd_74, kd_75, kd_76, kd_77, kd_78, kd_79, kd_80, kd_81, kd_82, kd_83, kd_84, kd_85, kd_86, kd_87, kd_88, kd_89, kd_90, kd_91, kd_92, kd_93, kd_94, kd_95, kd_96, kd_97, kd_98, kd_99, kd_100, kd_101, kd_102, kd_103, kd_104, kd_105, kd_106, kd_107, kd_108]; done))
      | (refine Eq.trans (if_neg ?_) ?_; · first | omega | (simp (disch := omega) only [f7, cc, f19, ct, Int.reduceLT, Int.reduceLE, Int.reduceEq, Int.reduceNe, Int.reduceNeg, Int.reduceAdd, Int.reduceSub, Int.reduceMul, Int.reduceGE, Int.reduceGT, Nat.reduceEqDiff, Nat.reduceAdd, and_true, true_and, and_self, not_true_eq_false, not_false_eq_true, ne_eq, and_false, false_and, or_false, or_true, false_or, true_or, vx_some, eq_self, ↓reduceIte, ite_t1, ite_t2, ite_t3, le_T, le_F, lt_T, lt_F, ge_T, ge_F, gt_T, gt_F, eq_T, eq_F, w32_i, kd_1, kd_2, kd_3, kd_4, kd_5, kd_6, kd_7, kd_14, kd_15, kd_16, kd_29, kd_34, kd_56, kd_74, kd_75, kd_76, kd_77, kd_78, kd_79, kd_80, kd_81, kd_82, kd_83, kd_84, kd_85, kd_86, kd_87, kd_88, kd_89, kd_90, kd_91, kd_92, kd_93, kd_94, kd_95, kd_96, kd_97, kd_98, kd_99, kd_100, kd_101, kd_102, kd_103, kd_104, kd_105, kd_106, kd_107, kd_108]; done))
      | (refine Eq.trans (bnd (r := ?_) ?_) ?_; rotate_left 1; (focus (simp (disch := omega) only [f7, cc, f19, ct, Int.reduceLT, Int.reduceLE, Int.reduceEq, Int.reduceNe, Int.reduceNeg, Int.reduceAdd, Int.reduceSub, Int.reduceMul, Int.reduceGE, Int.reduceGT, Nat.reduceEqDiff, Nat.reduceAdd, and_true, true_and, and_self, not_true_eq_false, not_false_eq_true, ne_eq, and_false, false_and, or_false, or_true, false_or, true_or, vx_some, eq_self, ↓reduceIte, ite_t1, ite_t2, ite_t3, le_T, le_F, lt_T, lt_F, ge_T, ge_F, gt_T, gt_F, eq_T, eq_F, w32_i, kd_1, kd_2, kd_3, kd_4, kd_5, kd_6, kd_7, kd_14, kd_15, kd_16, kd_29, kd_34, kd_56, kd_74, kd_75, kd_76, kd_77, kd_78, kd_79, kd_80, kd_81, kd_82, kd_83, kd_84, kd_85, kd_86, kd_87, kd_88, kd_89, kd_90, kd_91, kd_92, kd_93, kd_94, kd_95, kd_96, kd_97, kd_98, kd_99, kd_100, kd_101, kd_102, kd_103, kd_104, kd_105, kd_106, kd_107, kd_108]; exact rfl)); simp only [vx_some])
    simp only [f7, C2]
  generalize stm (stm (fil m1 84 0 2400 0) 83 1 0) 83 2 0 = m2 at *
  have F2 : FX m2 := F.fr (fun c k q => by unfold FXP at q; exact g1 c k (by omega))
  have hd := p_held (h := (n, m2)) F2
  have em := p_empties (n := n) F2
  have e103 : m2 103 = m 103 := funext fun k => g1 103 k (by omega)
  have g2 : ∀ o k : Int, ¬ (o = 103 ∨ o = 105 ∨ (o = 88 ∧ 34 ≤ k ∧ k ≤ 36)) → emM m2 o k = m2 o k := fun o k hk => by
    unfold emM
    rw [stm_ap, if_neg (by omega), stm_ap, if_neg (by omega), stm_ap, if_neg (by omega), fil_ap, if_neg (by omega), fil_ap, if_neg (by omega)]
  have v103 : ∀ k : Int, 0 ≤ k → k < 64 → emM m2 103 k = -1 := fun k k0 k1 => by
    unfold emM
    rw [stm_ap, if_neg (by omega), stm_ap, if_neg (by omega), stm_ap, if_neg (by omega), fil_ap, if_neg (by omega), fil_ap, if_pos (by omega)]
  have v105 : ∀ k : Int, 0 ≤ k → k < 2400 → emM m2 105 k = 0 := fun k k0 k1 => by
    unfold emM
    rw [stm_ap, if_neg (by omega), stm_ap, if_neg (by omega), stm_ap, if_neg (by omega), fil_ap, if_pos (by omega)]
  have v34 : emM m2 88 34 = 0 := by
    unfold emM
    rw [stm_ap, if_neg (by omega), stm_ap, if_neg (by omega), stm_same]
  have v35 : emM m2 88 35 = 0 := by
    unfold emM
    rw [stm_ap, if_neg (by omega), stm_same]
  have v36 : emM m2 88 36 = 0 := by
    unfold emM
    rw [stm_same]
  dsimp only at hd
  rw [e103] at hd
  have run2 : vm 292 [(2, 88)] (n, m2) = some (some (0, hct (m 103) 32), (n, emM m2)) := by
    rw [e_X12_flush]
    repeat first
      | (refine Eq.trans (if_pos ?_) ?_; · first | omega | (simp (disch := omega) only [hd, em, Int.reduceLT, Int.reduceLE, Int.reduceEq, Int.reduceNe, Int.reduceNeg, Int.reduceAdd, Int.reduceSub, Int.reduceMul, Int.reduceGE, Int.reduceGT, Nat.reduceEqDiff, Nat.reduceAdd, and_true, true_and, and_self, not_true_eq_false, not_false_eq_true, ne_eq, and_false, false_and, or_false, or_true, false_or, true_or, vx_some, eq_self, ↓reduceIte, ite_t1, ite_t2, ite_t3, le_T, le_F, lt_T, lt_F, ge_T, ge_F, gt_T, gt_F, eq_T, eq_F, w32_i, kd_1, kd_2, kd_3, kd_4, kd_5, kd_6, kd_7, kd_14, kd_15, kd_16, kd_29, kd_34, kd_56, kd_74, kd_75, kd_76, kd_77, kd_78, kd_79, kd_80, kd_81, kd_82, kd_83, kd_84, kd_85, kd_86, kd_87, kd_88, kd_89, kd_90, kd_91, kd_92, kd_93, kd_94, kd_95, kd_96, kd_97, kd_98, kd_99, kd_100, kd_101, kd_102, kd_103, kd_104, kd_105, kd_106, kd_107, kd_108]; done))
      | (refine Eq.trans (if_neg ?_) ?_; · first | omega | (simp (disch := omega) only [hd, em, Int.reduceLT, Int.reduceLE, Int.reduceEq, Int.reduceNe, Int.reduceNeg, Int.reduceAdd, Int.reduceSub, Int.reduceMul, Int.reduceGE, Int.reduceGT, Nat.reduceEqDiff, Nat.reduceAdd, and_true, true_and, and_self, not_true_eq_false, not_false_eq_true, ne_eq, and_false, false_and, or_false, or_true, false_or, true_or, vx_some, eq_self, ↓reduceIte, ite_t1, ite_t2, ite_t3, le_T, le_F, lt_T, lt_F, ge_T, ge_F, gt_T, gt_F, eq_T, eq_F, w32_i, kd_1, kd_2, kd_3, kd_4, kd_5, kd_6, kd_7, kd_14, kd_15, kd_16, kd_29, kd_34, kd_56, kd_74, kd_75, kd_76, kd_77, kd_78, kd_79, kd_80, kd_81, kd_82, kd_83, kd_84, kd_85, kd_86, kd_87, kd_88, kd_89, kd_90, kd_91, kd_92, kd_93, kd_94, kd_95, kd_96, kd_97, kd_98, kd_99, kd_100, kd_101, kd_102, kd_103, kd_104, kd_105, kd_106, kd_107, kd_108]; done))
      | (refine Eq.trans (bnd (r := ?_) ?_) ?_; rotate_left 1; (focus (simp (disch := omega) only [hd, em, Int.reduceLT, Int.reduceLE, Int.reduceEq, Int.reduceNe, Int.reduceNeg, Int.reduceAdd, Int.reduceSub, Int.reduceMul, Int.reduceGE, Int.reduceGT, Nat.reduceEqDiff, Nat.reduceAdd, and_true, true_and, and_self, not_true_eq_false, not_false_eq_true, ne_eq, and_false, false_and, or_false, or_true, false_or, true_or, vx_some, eq_self, ↓reduceIte, ite_t1, ite_t2, ite_t3, le_T, le_F, lt_T, lt_F, ge_T, ge_F, gt_T, gt_F, eq_T, eq_F, w32_i, kd_1, kd_2, kd_3, kd_4, kd_5, kd_6, kd_7, kd_14, kd_15, kd_16, kd_29, kd_34, kd_56, kd_74, kd_75, kd_76, kd_77, kd_78, kd_79, kd_80, kd_81, kd_82, kd_83, kd_84, kd_85, kd_86, kd_87, kd_88, kd_89, kd_90, kd_91, kd_92, kd_93, kd_94, kd_95, kd_96, kd_97, kd_98, kd_99, kd_100, kd_101, kd_102, kd_103, kd_104, kd_105, kd_106, kd_107, kd_108]; exact rfl)); simp only [vx_some])
  generalize emM m2 = m6 at *
  have fr : ∀ o k : Int, ¬ (o = 78 ∨ o = 84 ∨ (o = 77 ∧ (k = 5 ∨ k = 6)) ∨ (o = 83 ∧ (k = 1 ∨ k = 2)) ∨ o = 105 ∨ o = 103 ∨ (o = 88 ∧ 34 ≤ k ∧ k ≤ 36)) → m6 o k = m o k := fun o k hk => by
    rw [g2 o k (by omega), g1 o k (by omega)]
  refine ⟨(0, hct (m 103) 32), (n, m2), (n, m6), run, run2, funext fun k => g1 (-1) k (by omega), funext fun k => fr (-1) k (by omega), ?_⟩
  refine ⟨F.fr (fun c k q => fr c k (by unfold FXP at q; omega)), I.sh.fr (fun c k q => fr c k (by unfold SHP at q; omega)), I.ro.fr (fun c k q => fr c k (by omega)) I.kl.1.2, ⟨I.rn.fr (fun c k q => fr c k (by omega)), I.ac.fr I.rn.2.1.1 (fun c k q => fr c k (by omega))⟩, I.im.fr (fun c k q => fr c k (by omega)) I.kl.1.2, ?_, ?_, I.tp.fr (fun c k q => fr c k (by omega)), I.fl.fr (fun c k q => fr c k (by omega)), I.ou.fr (fun c k q => fr c k (by omega)), by omega⟩
  · show CAC (i + 1) m6
    have e0 : m6 90 0 = m 90 0 := fr 90 0 (by omega)
    have e1 : m6 90 1 = m 90 1 := fr 90 1 (by omega)
    have e5 : m6 77 5 = 0 := by rw [g2 77 5 (by omega), z78 77 5 (by omega), y5]
    have e6 : m6 77 6 = 0 := by rw [g2 77 6 (by omega), z78 77 6 (by omega), y6]
    have Zz : CZ (m 90 0) (m 90 1) := ⟨Z.1, Z.2.1⟩
    have hz : ∀ n : Nat, n ≤ 32 → hct (m6 103) n = 0 := by
      intro n
      induction n with
      | zero => intro _; rfl
      | succ n ih =>
        intro hn
        unfold hct
        rw [ih (by omega), v103 n (by omega) (by omega)]
        rfl
    refine ⟨?_, by rw [e6, hz 32 (by omega)], by rw [e5]; omega, by rw [v36]; omega⟩
    rw [e0, e1]
    intro t j t0 t1 j0 j1
    have fs := Zz.fs t0 t1
    have z2 := Zz.2
    have zs := Zz.1
    rw [v103 (0 + 4 * t + j) (by omega) (by omega), g2 78 _ (by omega), z78 78 _ (by omega), y78 _ (by omega) (by omega)]
    exact ⟨rfl, by omega, fun w => absurd rfl w⟩
  · show TAL (i + 1) m6
    have e1 : m6 83 1 = 0 := by rw [g2 83 1 (by omega), z1]
    have e2 : m6 83 2 = 0 := by rw [g2 83 2 (by omega), z2]
    refine ⟨by rw [e1, v34], by rw [e2, v35], by rw [e1]; omega, by rw [e2]; omega, fun k k0 k1 => ?_⟩
    rw [g2 84 k (by omega), z84 k k0 k1, v105 k k0 k1]
    omega
end
