/-! THE PURE PART: the text: a token -/
/-- the token that is looked at: of the class, of the model -/
def TK (m M : Mm) : Prop := (m 4 3 = M 88 3 ∧ m 4 5 = M 88 4) ∧ (0 ≤ M 88 4 ∧ M 88 4 ≤ M 88 3 ∧ M 88 3 ≤ M 88 2) ∧ ((M 88 5 = 0 ∧ m 4 4 = 0 ∧ m 4 9 = -1 ∧ M 88 4 = M 88 2) ∨ (M 88 5 = 3 ∧ m 4 4 = 1 ∧ m 4 9 = -1 ∧ M 88 4 + 1 ≤ M 88 3) ∨ (M 88 5 = 4 ∧ m 4 4 = 4 ∧ m 4 9 = -1 ∧ M 88 4 + 1 ≤ M 88 3) ∨ (M 88 5 = 2 ∧ m 4 4 = 2 ∧ m 4 9 = -1 ∧ M 88 4 + 1 ≤ M 88 3 ∧ (m 4 6 = M 88 6 ∧ 0 ≤ M 88 6 ∧ M 88 6 ≤ 9999) ∧ isDg (hr M (M 88 3)) = 0) ∨ (M 88 5 = 1 ∧ m 4 4 = 3 ∧ M 88 3 = M 88 4 + M 88 7 ∧ m 4 8 = M 88 7 ∧ (1 ≤ M 88 7 ∧ M 88 7 ≤ 8) ∧ M 88 12 = CV (m 4 7) ∧ (0 ≤ m 4 7 ∧ m 4 7 < 1099511627776) ∧ KWj (m 4 7) 28 (m 4 9) ∧ isLt (hr M (M 88 3)) = 0 ∧ (M 88 7 ≤ 3 → m 4 7 < 32768)))
theorem p32_le8 : ∀ k : Nat, k ≤ 8 → p32 k ≤ 1099511627776 := by
  intro k hk
  have : ∀ a : Nat, a < 9 → p32 a ≤ 1099511627776 := by decide +kernel
  exact this k (by omega)
theorem p32_le3 : ∀ k : Nat, k ≤ 3 → p32 k ≤ 32768 := by
  intro k hk
  have : ∀ a : Nat, a < 4 → p32 a ≤ 32768 := by decide +kernel
  exact this k (by omega)
section
variable {n : Int} {m M : Mm} {p : Int}
def TKR (n : Int) (m M : Mm) (z : Vl) (p : Int) : Prop := ∃ m' M', vp 21 52 [(2, 4)] [] (n, m) = some (none, (n, m')) ∧ vp 178 0 [(2, 88), z] [] (n, M) = some (none, (n, M')) ∧ FRl m m' ∧ FRg M M' ∧ TK m' M' ∧ M' 88 4 = p ∧ (M' 88 5 = 2 → isDg (hr M p) = 1) ∧ (M' 88 5 = 1 → isLt (hr M p) = 1)
theorem tok_over {z : Vl} (T : TX m M) (h3 : m 4 3 = p) (g3 : M 88 3 = p) (p0 : 0 ≤ p) (p1 : p = M 88 2) : TKR n m M z p := by
  have t2 := T.2.2.1
  have t3 := T.2.2.2.1
  have hh : hr M p = -1 := (hr_def _ _).trans (if_neg (by omega))
  have he := p_here (n := n) T.1.2 (k := 0) (by omega) (by omega) t3.2
  rw [Int.add_zero, g3, hh] at he
  have g2 : FRg M (stm (stm (stm M 88 4 p) 88 12 0) 88 6 0) := fun o q h => by rw [stm_ap, if_neg (by omega), stm_ap, if_neg (by omega), stm_ap, if_neg (by omega)]
  have y3 : (stm (stm (stm M 88 4 p) 88 12 0) 88 6 0) 88 3 = p := by rw [stm_ap, if_neg (by omega), stm_ap, if_neg (by omega), stm_ap, if_neg (by omega)]; exact g3
  have he2 := p_here (n := n) (g2.fx T.1.2) (k := 0) (by omega) (by omega) (by rw [g2 88 2 (by omega)]; exact t3.2)
  rw [Int.add_zero, y3, hr_fr g2, hh] at he2
  have s3 : ∀ a b : Int, stm (stm m 4 5 a) 4 9 b 4 3 = p := fun a b => by rw [stm_ap, if_neg (by omega), stm_ap, if_neg (by omega)]; exact h3
  have s2 : ∀ a b : Int, stm (stm m 4 5 a) 4 9 b 4 2 = M 88 2 := fun a b => by rw [stm_ap, if_neg (by omega), stm_ap, if_neg (by omega)]; exact t2
  have w4 : (stm (stm (stm (stm M 88 4 p) 88 12 0) 88 6 0) 88 5 0) 88 4 = p := by rw [stm_ap, if_neg (by omega), stm_ap, if_neg (by omega), stm_ap, if_neg (by omega), stm_same]
  have w3 : (stm (stm (stm (stm M 88 4 p) 88 12 0) 88 6 0) 88 5 0) 88 3 = p := by rw [stm_ap, if_neg (by omega)]; exact y3
  have w2 : (stm (stm (stm (stm M 88 4 p) 88 12 0) 88 6 0) 88 5 0) 88 2 = M 88 2 := by rw [stm_ap, if_neg (by omega)]; exact g2 88 2 (by omega)
  have w5 : (stm (stm (stm (stm M 88 4 p) 88 12 0) 88 6 0) 88 5 0) 88 5 = 0 := stm_same _ _ _ _
  have v3 : (stm (stm (stm m 4 5 p) 4 9 (-1)) 4 4 0) 4 3 = p := by rw [stm_ap, if_neg (by omega)]; exact s3 _ _
  have v5 : (stm (stm (stm m 4 5 p) 4 9 (-1)) 4 4 0) 4 5 = p := by rw [stm_ap, if_neg (by omega), stm_ap, if_neg (by omega), stm_same]
  have v9 : (stm (stm (stm m 4 5 p) 4 9 (-1)) 4 4 0) 4 9 = -1 := by rw [stm_ap, if_neg (by omega), stm_same]
  have v4 : (stm (stm (stm m 4 5 p) 4 9 (-1)) 4 4 0) 4 4 = 0 := stm_same _ _ _ _
  refine ⟨stm (stm (stm m 4 5 p) 4 9 (-1)) 4 4 0, stm (stm (stm (stm M 88 4 p) 88 12 0) 88 6 0) 88 5 0, ?_, ?_, ?_, ?_, ?_, w4, fun w => ?_, fun w => ?_⟩
  · clear he he2 g2 y3 T w4 w3 w2 w5 v3 v5 v9 v4
    rw [e_X3_step_52]
    generalize M 88 2 = N at *
    repeat first
      | (refine Eq.trans (if_pos ?_) ?_; · first | omega | (simp (disch := omega) only [h3, s3, s2, Int.reduceLT, Int.reduceLE, Int.reduceEq, Int.reduceNe, Int.reduceNeg, Int.reduceAdd, Int.reduceSub, Int.reduceMul, Int.reduceGE, Int.reduceGT, Nat.reduceEqDiff, Nat.reduceAdd, and_true, true_and, and_self, not_true_eq_false, not_false_eq_true, ne_eq, and_false, false_and, or_false, or_true, false_or, true_or, vx_some, eq_self, ↓reduceIte, ite_t1, ite_t2, ite_t3, le_T, le_F, lt_T, lt_F, ge_T, ge_F, gt_T, gt_F, eq_T, eq_F, w32_i, kd_1, kd_2, kd_3, kd_4, kd_5, kd_6, kd_7, kd_14, kd_15, kd_16, kd_29, kd_34, kd_56, kd_74, kd_75, kd_76, kd_77, kd_78, kd_79, kd_80, kd_81, kd_82, kd_83, kd_84, kd_85, kd_86, kd_87, kd_88, kd_89, kd_90, kd_91, kd_92, kd_93, kd_94, kd_95, kd_96, kd_97, kd_98, kd_99, kd_100, kd_101, kd_102, kd_103, kd_104, kd_105, kd_106, kd_107, kd_108]; done))
      | (refine Eq.trans (if_neg ?_) ?_; · first | omega | (simp (disch := omega) only [h3, s3, s2, Int.reduceLT, Int.reduceLE, Int.reduceEq, Int.reduceNe, Int.reduceNeg, Int.reduceAdd, Int.reduceSub, Int.reduceMul, Int.reduceGE, Int.reduceGT, Nat.reduceEqDiff, Nat.reduceAdd, and_true, true_and, and_self, not_true_eq_false, not_false_eq_true, ne_eq, and_false, false_and, or_false, or_true, false_or, true_or, vx_some, eq_self, ↓reduceIte, ite_t1, ite_t2, ite_t3, le_T, le_F, lt_T, lt_F, ge_T, ge_F, gt_T, gt_F, eq_T, eq_F, w32_i, kd_1, kd_2, kd_3, kd_4, kd_5, kd_6, kd_7, kd_14, kd_15, kd_16, kd_29, kd_34, kd_56, kd_74, kd_75, kd_76, kd_77, kd_78, kd_79, kd_80, kd_81, kd_82, kd_83, kd_84, kd_85, kd_86, kd_87, kd_88, kd_89, kd_90, kd_91, kd_92, kd_93, kd_94, kd_95, kd_96, kd_97, kd_98, kd_99, kd_100, kd_101, kd_102, kd_103, kd_104, kd_105, kd_106, kd_107, kd_108]; done))
      | (refine Eq.trans (bnd (r := ?_) ?_) ?_; rotate_left 1; (focus (simp (disch := omega) only [h3, s3, s2, Int.reduceLT, Int.reduceLE, Int.reduceEq, Int.reduceNe, Int.reduceNeg, Int.reduceAdd, Int.reduceSub, Int.reduceMul, Int.reduceGE, Int.reduceGT, Nat.reduceEqDiff, Nat.reduceAdd, and_true, true_and, and_self, not_true_eq_false, not_false_eq_true, ne_eq, and_false, false_and, or_false, or_true, false_or, true_or, vx_some, eq_self, ↓reduceIte, ite_t1, ite_t2, ite_t3, le_T, le_F, lt_T, lt_F, ge_T, ge_F, gt_T, gt_F, eq_T, eq_F, w32_i, kd_1, kd_2, kd_3, kd_4, kd_5, kd_6, kd_7, kd_14, kd_15, kd_16, kd_29, kd_34, kd_56, kd_74, kd_75, kd_76, kd_77, kd_78, kd_79, kd_80, kd_81, kd_82, kd_83, kd_84, kd_85, kd_86, kd_87, kd_88, kd_89, kd_90, kd_91, kd_92, kd_93, kd_94, kd_95, kd_96, kd_97, kd_98, kd_99, kd_100, kd_101, kd_102, kd_103, kd_104, kd_105, kd_106, kd_107, kd_108]; exact rfl)); simp only [vx_some])
    all_goals simp only [h3]
  · clear g2 y3 T w4 w3 w2 w5 v3 v5 v9 v4 s3 s2
    refine Eq.trans (e_X12_goOn_0 ..) ?_
    repeat first
      | (refine Eq.trans (if_pos ?_) ?_; · first | omega | (simp (disch := omega) only [he, g3, he2, Int.reduceLT, Int.reduceLE, Int.reduceEq, Int.reduceNe, Int.reduceNeg, Int.reduceAdd, Int.reduceSub, Int.reduceMul, Int.reduceGE, Int.reduceGT, Nat.reduceEqDiff, Nat.reduceAdd, and_true, true_and, and_self, not_true_eq_false, not_false_eq_true, ne_eq, and_false, false_and, or_false, or_true, false_or, true_or, vx_some, eq_self, ↓reduceIte, ite_t1, ite_t2, ite_t3, le_T, le_F, lt_T, lt_F, ge_T, ge_F, gt_T, gt_F, eq_T, eq_F, w32_i, kd_1, kd_2, kd_3, kd_4, kd_5, kd_6, kd_7, kd_14, kd_15, kd_16, kd_29, kd_34, kd_56, kd_74, kd_75, kd_76, kd_77, kd_78, kd_79, kd_80, kd_81, kd_82, kd_83, kd_84, kd_85, kd_86, kd_87, kd_88, kd_89, kd_90, kd_91, kd_92, kd_93, kd_94, kd_95, kd_96, kd_97, kd_98, kd_99, kd_100, kd_101, kd_102, kd_103, kd_104, kd_105, kd_106, kd_107, kd_108]; done))
      | (refine Eq.trans (if_neg ?_) ?_; · first | omega | (simp (disch := omega) only [he, g3, he2, Int.reduceLT, Int.reduceLE, Int.reduceEq, Int.reduceNe, Int.reduceNeg, Int.reduceAdd, Int.reduceSub, Int.reduceMul, Int.reduceGE, Int.reduceGT, Nat.reduceEqDiff, Nat.reduceAdd, and_true, true_and, and_self, not_true_eq_false, not_false_eq_true, ne_eq, and_false, false_and, or_false, or_true, false_or, true_or, vx_some, eq_self, ↓reduceIte, ite_t1, ite_t2, ite_t3, le_T, le_F, lt_T, lt_F, ge_T, ge_F, gt_T, gt_F, eq_T, eq_F, w32_i, kd_1, kd_2, kd_3, kd_4, kd_5, kd_6, kd_7, kd_14, kd_15, kd_16, kd_29, kd_34, kd_56, kd_74, kd_75, kd_76, kd_77, kd_78, kd_79, kd_80, kd_81, kd_82, kd_83, kd_84, kd_85, kd_86, kd_87, kd_88, kd_89, kd_90, kd_91, kd_92, kd_93, kd_94, kd_95, kd_96, kd_97, kd_98, kd_99, kd_100, kd_101, kd_102, kd_103, kd_104, kd_105, kd_106, kd_107, kd_108]; done))
      | (refine Eq.trans (bnd (r := ?_) ?_) ?_; rotate_left 1; (focus (simp (disch := omega) only [he, g3, he2, Int.reduceLT, Int.reduceLE, Int.reduceEq, Int.reduceNe, Int.reduceNeg, Int.reduceAdd, Int.reduceSub, Int.reduceMul, Int.reduceGE, Int.reduceGT, Nat.reduceEqDiff, Nat.reduceAdd, and_true, true_and, and_self, not_true_eq_false, not_false_eq_true, ne_eq, and_false, false_and, or_false, or_true, false_or, true_or, vx_some, eq_self, ↓reduceIte, ite_t1, ite_t2, ite_t3, le_T, le_F, lt_T, lt_F, ge_T, ge_F, gt_T, gt_F, eq_T, eq_F, w32_i, kd_1, kd_2, kd_3, kd_4, kd_5, kd_6, kd_7, kd_14, kd_15, kd_16, kd_29, kd_34, kd_56, kd_74, kd_75, kd_76, kd_77, kd_78, kd_79, kd_80, kd_81, kd_82, kd_83, kd_84, kd_85, kd_86, kd_87, kd_88, kd_89, kd_90, kd_91, kd_92, kd_93, kd_94, kd_95, kd_96, kd_97, kd_98, kd_99, kd_100, kd_101, kd_102, kd_103, kd_104, kd_105, kd_106, kd_107, kd_108]; exact rfl)); simp only [vx_some])
    all_goals simp only [g3]
  · intro o q h
    rw [stm_ap, if_neg (by omega), stm_ap, if_neg (by omega), stm_ap, if_neg (by omega)]
  · intro o q h
    rw [stm_ap, if_neg (by omega)]
    exact g2 o q h
  · refine ⟨⟨by rw [v3, w3], by rw [v5, w4]⟩, by rw [w4, w3, w2]; omega, Or.inl ⟨w5, v4, v9, by rw [w4, w2]; exact p1⟩⟩
  · rw [w5] at w
    omega
  · rw [w5] at w
    omega
theorem tok_sign {z : Vl} (T : TX m M) (h3 : m 4 3 = p) (g3 : M 88 3 = p) (p0 : 0 ≤ p) (p1 : p < M 88 2) (x1 : ¬ hr M p = 32) (x2 : ¬ hr M p = 10) (x3 : isLt (hr M p) = 0) (x4 : isDg (hr M p) = 0) : TKR n m M z p := by
  have t1 := T.2.1
  have t2 := T.2.2.1
  have t3 := T.2.2.2.1
  have hh : hr M p = M 89 p := (hr_def _ _).trans (if_pos p1)
  have bt := T.bt p0 p1
  have he := p_here (n := n) T.1.2 (k := 0) (by omega) (by omega) t3.2
  rw [Int.add_zero, g3] at he
  have g2 : FRg M (stm (stm (stm M 88 4 p) 88 12 0) 88 6 0) := fun o q h => by rw [stm_ap, if_neg (by omega), stm_ap, if_neg (by omega), stm_ap, if_neg (by omega)]
  have f2 : FRl m (stm (stm m 4 5 p) 4 9 (-1)) := fun o q h => by rw [stm_ap, if_neg (by omega), stm_ap, if_neg (by omega)]
  have y3 : (stm (stm (stm M 88 4 p) 88 12 0) 88 6 0) 88 3 = p := by rw [stm_ap, if_neg (by omega), stm_ap, if_neg (by omega), stm_ap, if_neg (by omega)]; exact g3
  have he2 := p_here (n := n) (g2.fx T.1.2) (k := 0) (by omega) (by omega) (by rw [g2 88 2 (by omega)]; exact t3.2)
  rw [Int.add_zero, y3, hr_fr g2] at he2
  have il := p_isLt (hr M p) (n, stm (stm (stm M 88 4 p) 88 12 0) 88 6 0)
  have id := p_isDg (hr M p) (n, stm (stm (stm M 88 4 p) 88 12 0) 88 6 0)
  rw [x3] at il
  rw [x4] at id
  have s3 : ∀ a b : Int, stm (stm m 4 5 a) 4 9 b 4 3 = p := fun a b => by rw [stm_ap, if_neg (by omega), stm_ap, if_neg (by omega)]; exact h3
  have s2 : ∀ a b : Int, stm (stm m 4 5 a) 4 9 b 4 2 = M 88 2 := fun a b => by rw [stm_ap, if_neg (by omega), stm_ap, if_neg (by omega)]; exact t2
  have s1 : ∀ a b : Int, stm (stm m 4 5 a) 4 9 b 4 1 = 2 := fun a b => by rw [stm_ap, if_neg (by omega), stm_ap, if_neg (by omega)]; exact t1
  have s22 : ∀ a b : Int, stm (stm m 4 5 a) 4 9 b 2 p = m 2 p := fun a b => by rw [stm_ap, if_neg (by omega), stm_ap, if_neg (by omega)]
  have s33 : ∀ a b c : Int, stm (stm (stm m 4 5 a) 4 9 b) 4 4 c 4 3 = p := fun a b c => by rw [stm_ap, if_neg (by omega)]; exact s3 a b
  have y33 : ∀ c : Int, (stm (stm (stm (stm M 88 4 p) 88 12 0) 88 6 0) 88 5 c) 88 3 = p := fun c => by rw [stm_ap, if_neg (by omega)]; exact y3
  have ew : w32 (p + 1) = p + 1 := w32_i (by omega) (by omega)
  have cl := c_isLt (n := n) (T.fr f2 g2) (s3 _ _) p0
  rw [hr_fr g2, x3] at cl
  have cd := c_isDg (n := n) (T.fr f2 g2) (s3 _ _) p0
  rw [hr_fr g2, x4] at cd
  have main : ∃ s s' : Int, vp 21 52 [(2, 4)] [] (n, m) = some (none, (n, stm (stm (stm (stm m 4 5 p) 4 9 (-1)) 4 4 s) 4 3 (p + 1))) ∧ vp 178 0 [(2, 88), z] [] (n, M) = some (none, (n, stm (stm (stm (stm (stm M 88 4 p) 88 12 0) 88 6 0) 88 5 s') 88 3 (p + 1))) ∧ ((s = 1 ∧ s' = 3) ∨ (s = 4 ∧ s' = 4)) := by
    have c0 : 0 ≤ hr M p := by omega
    clear T g2 f2 y3
    by_cases sg : hr M p = 59
    · refine ⟨1, 3, ?_, ?_, Or.inl ⟨rfl, rfl⟩⟩
      · have b2 : m 2 p = 59 := by omega
        clear he he2 il id y33 hh bt x1 x2 x3 x4 sg
        refine Eq.trans (e_X3_step_52 ..) ?_
        generalize M 88 2 = N at *
        repeat first
          | (refine Eq.trans (if_pos ?_) ?_; · first | omega | (simp (disch := omega) only [h3, s3, s2, cl, cd, s1, s22, b2, Int.reduceLT, Int.reduceLE, Int.reduceEq, Int.reduceNe, Int.reduceNeg, Int.reduceAdd, Int.reduceSub, Int.reduceMul, Int.reduceGE, Int.reduceGT, Nat.reduceEqDiff, Nat.reduceAdd, and_true, true_and, and_self, not_true_eq_false, not_false_eq_true, ne_eq, and_false, false_and, or_false, or_true, false_or, true_or, vx_some, eq_self, ↓reduceIte, ite_t1, ite_t2, ite_t3, le_T, le_F, lt_T, lt_F, ge_T, ge_F, gt_T, gt_F, eq_T, eq_F, w32_i, kd_1, kd_2, kd_3, kd_4, kd_5, kd_6, kd_7, kd_14, kd_15, kd_16, kd_29, kd_34, kd_56, kd_74, kd_75, kd_76, kd_77, kd_78, kd_79, kd_80, kd_81, kd_82, kd_83, kd_84, kd_85, kd_86, kd_87, kd_88, kd_89, kd_90, kd_91, kd_92, kd_93, kd_94, kd_95, kd_96, kd_97, kd_98, kd_99, kd_100, kd_101, kd_102, kd_103, kd_104, kd_105, kd_106, kd_107, kd_108]; done))
          | (refine Eq.trans (if_neg ?_) ?_; · first | omega | (simp (disch := omega) only [h3, s3, s2, cl, cd, s1, s22, b2, Int.reduceLT, Int.reduceLE, Int.reduceEq, Int.reduceNe, Int.reduceNeg, Int.reduceAdd, Int.reduceSub, Int.reduceMul, Int.reduceGE, Int.reduceGT, Nat.reduceEqDiff, Nat.reduceAdd, and_true, true_and, and_self, not_true_eq_false, not_false_eq_true, ne_eq, and_false, false_and, or_false, or_true, false_or, true_or, vx_some, eq_self, ↓reduceIte, ite_t1, ite_t2, ite_t3, le_T, le_F, lt_T, lt_F, ge_T, ge_F, gt_T, gt_F, eq_T, eq_F, w32_i, kd_1, kd_2, kd_3, kd_4, kd_5, kd_6, kd_7, kd_14, kd_15, kd_16, kd_29, kd_34, kd_56, kd_74, kd_75, kd_76, kd_77, kd_78, kd_79, kd_80, kd_81, kd_82, kd_83, kd_84, kd_85, kd_86, kd_87, kd_88, kd_89, kd_90, kd_91, kd_92, kd_93, kd_94, kd_95, kd_96, kd_97, kd_98, kd_99, kd_100, kd_101, kd_102, kd_103, kd_104, kd_105, kd_106, kd_107, kd_108]; done))
          | (refine Eq.trans (bnd (r := ?_) ?_) ?_; rotate_left 1; (focus (simp (disch := omega) only [h3, s3, s2, cl, cd, s1, s22, b2, Int.reduceLT, Int.reduceLE, Int.reduceEq, Int.reduceNe, Int.reduceNeg, Int.reduceAdd, Int.reduceSub, Int.reduceMul, Int.reduceGE, Int.reduceGT, Nat.reduceEqDiff, Nat.reduceAdd, and_true, true_and, and_self, not_true_eq_false, not_false_eq_true, ne_eq, and_false, false_and, or_false, or_true, false_or, true_or, vx_some, eq_self, ↓reduceIte, ite_t1, ite_t2, ite_t3, le_T, le_F, lt_T, lt_F, ge_T, ge_F, gt_T, gt_F, eq_T, eq_F, w32_i, kd_1, kd_2, kd_3, kd_4, kd_5, kd_6, kd_7, kd_14, kd_15, kd_16, kd_29, kd_34, kd_56, kd_74, kd_75, kd_76, kd_77, kd_78, kd_79, kd_80, kd_81, kd_82, kd_83, kd_84, kd_85, kd_86, kd_87, kd_88, kd_89, kd_90, kd_91, kd_92, kd_93, kd_94, kd_95, kd_96, kd_97, kd_98, kd_99, kd_100, kd_101, kd_102, kd_103, kd_104, kd_105, kd_106, kd_107, kd_108]; exact rfl)); simp only [vx_some])
        all_goals simp only [h3, s33, ew]
      · clear s3 s2 s1 s22 s33 cl cd hh bt
        refine Eq.trans (e_X12_goOn_0 ..) ?_
        generalize hr M p = c at *
        repeat first
          | (refine Eq.trans (if_pos ?_) ?_; · first | omega | (simp (disch := omega) only [he, g3, he2, il, id, Int.reduceLT, Int.reduceLE, Int.reduceEq, Int.reduceNe, Int.reduceNeg, Int.reduceAdd, Int.reduceSub, Int.reduceMul, Int.reduceGE, Int.reduceGT, Nat.reduceEqDiff, Nat.reduceAdd, and_true, true_and, and_self, not_true_eq_false, not_false_eq_true, ne_eq, and_false, false_and, or_false, or_true, false_or, true_or, vx_some, eq_self, ↓reduceIte, ite_t1, ite_t2, ite_t3, le_T, le_F, lt_T, lt_F, ge_T, ge_F, gt_T, gt_F, eq_T, eq_F, w32_i, kd_1, kd_2, kd_3, kd_4, kd_5, kd_6, kd_7, kd_14, kd_15, kd_16, kd_29, kd_34, kd_56, kd_74, kd_75, kd_76, kd_77, kd_78, kd_79, kd_80, kd_81, kd_82, kd_83, kd_84, kd_85, kd_86, kd_87, kd_88, kd_89, kd_90, kd_91, kd_92, kd_93, kd_94, kd_95, kd_96, kd_97, kd_98, kd_99, kd_100, kd_101, kd_102, kd_103, kd_104, kd_105, kd_106, kd_107, kd_108]; done))
          | (refine Eq.trans (if_neg ?_) ?_; · first | omega | (simp (disch := omega) only [he, g3, he2, il, id, Int.reduceLT, Int.reduceLE, Int.reduceEq, Int.reduceNe, Int.reduceNeg, Int.reduceAdd, Int.reduceSub, Int.reduceMul, Int.reduceGE, Int.reduceGT, Nat.reduceEqDiff, Nat.reduceAdd, and_true, true_and, and_self, not_true_eq_false, not_false_eq_true, ne_eq, and_false, false_and, or_false, or_true, false_or, true_or, vx_some, eq_self, ↓reduceIte, ite_t1, ite_t2, ite_t3, le_T, le_F, lt_T, lt_F, ge_T, ge_F, gt_T, gt_F, eq_T, eq_F, w32_i, kd_1, kd_2, kd_3, kd_4, kd_5, kd_6, kd_7, kd_14, kd_15, kd_16, kd_29, kd_34, kd_56, kd_74, kd_75, kd_76, kd_77, kd_78, kd_79, kd_80, kd_81, kd_82, kd_83, kd_84, kd_85, kd_86, kd_87, kd_88, kd_89, kd_90, kd_91, kd_92, kd_93, kd_94, kd_95, kd_96, kd_97, kd_98, kd_99, kd_100, kd_101, kd_102, kd_103, kd_104, kd_105, kd_106, kd_107, kd_108]; done))
          | (refine Eq.trans (bnd (r := ?_) ?_) ?_; rotate_left 1; (focus (simp (disch := omega) only [he, g3, he2, il, id, Int.reduceLT, Int.reduceLE, Int.reduceEq, Int.reduceNe, Int.reduceNeg, Int.reduceAdd, Int.reduceSub, Int.reduceMul, Int.reduceGE, Int.reduceGT, Nat.reduceEqDiff, Nat.reduceAdd, and_true, true_and, and_self, not_true_eq_false, not_false_eq_true, ne_eq, and_false, false_and, or_false, or_true, false_or, true_or, vx_some, eq_self, ↓reduceIte, ite_t1, ite_t2, ite_t3, le_T, le_F, lt_T, lt_F, ge_T, ge_F, gt_T, gt_F, eq_T, eq_F, w32_i, kd_1, kd_2, kd_3, kd_4, kd_5, kd_6, kd_7, kd_14, kd_15, kd_16, kd_29, kd_34, kd_56, kd_74, kd_75, kd_76, kd_77, kd_78, kd_79, kd_80, kd_81, kd_82, kd_83, kd_84, kd_85, kd_86, kd_87, kd_88, kd_89, kd_90, kd_91, kd_92, kd_93, kd_94, kd_95, kd_96, kd_97, kd_98, kd_99, kd_100, kd_101, kd_102, kd_103, kd_104, kd_105, kd_106, kd_107, kd_108]; exact rfl)); simp only [vx_some])
        all_goals simp only [g3, y33, ew]
    · refine ⟨4, 4, ?_, ?_, Or.inr ⟨rfl, rfl⟩⟩
      · have b2 : ¬ m 2 p = 59 := by omega
        clear he he2 il id y33 hh bt x1 x2 x3 x4 sg
        refine Eq.trans (e_X3_step_52 ..) ?_
        generalize M 88 2 = N at *
        repeat first
          | (refine Eq.trans (if_pos ?_) ?_; · first | omega | (simp (disch := omega) only [h3, s3, s2, cl, cd, s1, s22, Int.reduceLT, Int.reduceLE, Int.reduceEq, Int.reduceNe, Int.reduceNeg, Int.reduceAdd, Int.reduceSub, Int.reduceMul, Int.reduceGE, Int.reduceGT, Nat.reduceEqDiff, Nat.reduceAdd, and_true, true_and, and_self, not_true_eq_false, not_false_eq_true, ne_eq, and_false, false_and, or_false, or_true, false_or, true_or, vx_some, eq_self, ↓reduceIte, ite_t1, ite_t2, ite_t3, le_T, le_F, lt_T, lt_F, ge_T, ge_F, gt_T, gt_F, eq_T, eq_F, w32_i, kd_1, kd_2, kd_3, kd_4, kd_5, kd_6, kd_7, kd_14, kd_15, kd_16, kd_29, kd_34, kd_56, kd_74, kd_75, kd_76, kd_77, kd_78, kd_79, kd_80, kd_81, kd_82, kd_83, kd_84, kd_85, kd_86, kd_87, kd_88, kd_89, kd_90, kd_91, kd_92, kd_93, kd_94, kd_95, kd_96, kd_97, kd_98, kd_99, kd_100, kd_101, kd_102, kd_103, kd_104, kd_105, kd_106, kd_107, kd_108]; done))
          | (refine Eq.trans (if_neg ?_) ?_; · first | omega | (simp (disch := omega) only [h3, s3, s2, cl, cd, s1, s22, Int.reduceLT, Int.reduceLE, Int.reduceEq, Int.reduceNe, Int.reduceNeg, Int.reduceAdd, Int.reduceSub, Int.reduceMul, Int.reduceGE, Int.reduceGT, Nat.reduceEqDiff, Nat.reduceAdd, and_true, true_and, and_self, not_true_eq_false, not_false_eq_true, ne_eq, and_false, false_and, or_false, or_true, false_or, true_or, vx_some, eq_self, ↓reduceIte, ite_t1, ite_t2, ite_t3, le_T, le_F, lt_T, lt_F, ge_T, ge_F, gt_T, gt_F, eq_T, eq_F, w32_i, kd_1, kd_2, kd_3, kd_4, kd_5, kd_6, kd_7, kd_14, kd_15, kd_16, kd_29, kd_34, kd_56, kd_74, kd_75, kd_76, kd_77, kd_78, kd_79, kd_80, kd_81, kd_82, kd_83, kd_84, kd_85, kd_86, kd_87, kd_88, kd_89, kd_90, kd_91, kd_92, kd_93, kd_94, kd_95, kd_96, kd_97, kd_98, kd_99, kd_100, kd_101, kd_102, kd_103, kd_104, kd_105, kd_106, kd_107, kd_108]; done))
          | (refine Eq.trans (bnd (r := ?_) ?_) ?_; rotate_left 1; (focus (simp (disch := omega) only [h3, s3, s2, cl, cd, s1, s22, Int.reduceLT, Int.reduceLE, Int.reduceEq, Int.reduceNe, Int.reduceNeg, Int.reduceAdd, Int.reduceSub, Int.reduceMul, Int.reduceGE, Int.reduceGT, Nat.reduceEqDiff, Nat.reduceAdd, and_true, true_and, and_self, not_true_eq_false, not_false_eq_true, ne_eq, and_false, false_and, or_false, or_true, false_or, true_or, vx_some, eq_self, ↓reduceIte, ite_t1, ite_t2, ite_t3, le_T, le_F, lt_T, lt_F, ge_T, ge_F, gt_T, gt_F, eq_T, eq_F, w32_i, kd_1, kd_2, kd_3, kd_4, kd_5, kd_6, kd_7, kd_14, kd_15, kd_16, kd_29, kd_34, kd_56, kd_74, kd_75, kd_76, kd_77, kd_78, kd_79, kd_80, kd_81, kd_82, kd_83, kd_84, kd_85, kd_86, kd_87, kd_88, kd_89, kd_90, kd_91, kd_92, kd_93, kd_94, kd_95, kd_96, kd_97, kd_98, kd_99, kd_100, kd_101, kd_102, kd_103, kd_104, kd_105, kd_106, kd_107, kd_108]; exact rfl)); simp only [vx_some])
        all_goals simp only [h3, s33, ew]
      · clear s3 s2 s1 s22 s33 cl cd hh bt
        refine Eq.trans (e_X12_goOn_0 ..) ?_
        generalize hr M p = c at *
        repeat first
          | (refine Eq.trans (if_pos ?_) ?_; · first | omega | (simp (disch := omega) only [he, g3, he2, il, id, Int.reduceLT, Int.reduceLE, Int.reduceEq, Int.reduceNe, Int.reduceNeg, Int.reduceAdd, Int.reduceSub, Int.reduceMul, Int.reduceGE, Int.reduceGT, Nat.reduceEqDiff, Nat.reduceAdd, and_true, true_and, and_self, not_true_eq_false, not_false_eq_true, ne_eq, and_false, false_and, or_false, or_true, false_or, true_or, vx_some, eq_self, ↓reduceIte, ite_t1, ite_t2, ite_t3, le_T, le_F, lt_T, lt_F, ge_T, ge_F, gt_T, gt_F, eq_T, eq_F, w32_i, kd_1, kd_2, kd_3, kd_4, kd_5, kd_6, kd_7, kd_14, kd_15, kd_16, kd_29, kd_34, kd_56, kd_74, kd_75, kd_76, kd_77, kd_78, kd_79, kd_80, kd_81, kd_82, kd_83, kd_84, kd_85, kd_86, kd_87, kd_88, kd_89, kd_90, kd_91, kd_92, kd_93, kd_94, kd_95, kd_96, kd_97, kd_98, kd_99, kd_100, kd_101, kd_102, kd_103, kd_104, kd_105, kd_106, kd_107, kd_108]; done))
          | (refine Eq.trans (if_neg ?_) ?_; · first | omega | (simp (disch := omega) only [he, g3, he2, il, id, Int.reduceLT, Int.reduceLE, Int.reduceEq, Int.reduceNe, Int.reduceNeg, Int.reduceAdd, Int.reduceSub, Int.reduceMul, Int.reduceGE, Int.reduceGT, Nat.reduceEqDiff, Nat.reduceAdd, and_true, true_and, and_self, not_true_eq_false, not_false_eq_true, ne_eq, and_false, false_and, or_false, or_true, false_or, true_or, vx_some, eq_self, ↓reduceIte, ite_t1, ite_t2, ite_t3, le_T, le_F, lt_T, lt_F, ge_T, ge_F, gt_T, gt_F, eq_T, eq_F, w32_i, kd_1, kd_2, kd_3, kd_4, kd_5, kd_6, kd_7, kd_14, kd_15, kd_16, kd_29, kd_34, kd_56, kd_74, kd_75, kd_76, kd_77, kd_78, kd_79, kd_80, kd_81, kd_82, kd_83, kd_84, kd_85, kd_86, kd_87, kd_88, kd_89, kd_90, kd_91, kd_92, kd_93, kd_94, kd_95, kd_96, kd_97, kd_98, kd_99, kd_100, kd_101, kd_102, kd_103, kd_104, kd_105, kd_106, kd_107, kd_108]; done))
          | (refine Eq.trans (bnd (r := ?_) ?_) ?_; rotate_left 1; (focus (simp (disch := omega) only [he, g3, he2, il, id, Int.reduceLT, Int.reduceLE, Int.reduceEq, Int.reduceNe, Int.reduceNeg, Int.reduceAdd, Int.reduceSub, Int.reduceMul, Int.reduceGE, Int.reduceGT, Nat.reduceEqDiff, Nat.reduceAdd, and_true, true_and, and_self, not_true_eq_false, not_false_eq_true, ne_eq, and_false, false_and, or_false, or_true, false_or, true_or, vx_some, eq_self, ↓reduceIte, ite_t1, ite_t2, ite_t3, le_T, le_F, lt_T, lt_F, ge_T, ge_F, gt_T, gt_F, eq_T, eq_F, w32_i, kd_1, kd_2, kd_3, kd_4, kd_5, kd_6, kd_7, kd_14, kd_15, kd_16, kd_29, kd_34, kd_56, kd_74, kd_75, kd_76, kd_77, kd_78, kd_79, kd_80, kd_81, kd_82, kd_83, kd_84, kd_85, kd_86, kd_87, kd_88, kd_89, kd_90, kd_91, kd_92, kd_93, kd_94, kd_95, kd_96, kd_97, kd_98, kd_99, kd_100, kd_101, kd_102, kd_103, kd_104, kd_105, kd_106, kd_107, kd_108]; exact rfl)); simp only [vx_some])
        all_goals simp only [g3, y33, ew]
  obtain ⟨s, s', r1, r2, hs⟩ := main
  have w2 : (stm (stm (stm (stm (stm M 88 4 p) 88 12 0) 88 6 0) 88 5 s') 88 3 (p + 1)) 88 2 = M 88 2 := by rw [stm_ap, if_neg (by omega), stm_ap, if_neg (by omega)]; exact g2 88 2 (by omega)
  have w3 : (stm (stm (stm (stm (stm M 88 4 p) 88 12 0) 88 6 0) 88 5 s') 88 3 (p + 1)) 88 3 = p + 1 := stm_same _ _ _ _
  have w4 : (stm (stm (stm (stm (stm M 88 4 p) 88 12 0) 88 6 0) 88 5 s') 88 3 (p + 1)) 88 4 = p := by rw [stm_ap, if_neg (by omega), stm_ap, if_neg (by omega), stm_ap, if_neg (by omega), stm_ap, if_neg (by omega), stm_same]
  have w5 : (stm (stm (stm (stm (stm M 88 4 p) 88 12 0) 88 6 0) 88 5 s') 88 3 (p + 1)) 88 5 = s' := by rw [stm_ap, if_neg (by omega), stm_same]
  have v3 : (stm (stm (stm (stm m 4 5 p) 4 9 (-1)) 4 4 s) 4 3 (p + 1)) 4 3 = p + 1 := stm_same _ _ _ _
  have v4 : (stm (stm (stm (stm m 4 5 p) 4 9 (-1)) 4 4 s) 4 3 (p + 1)) 4 4 = s := by rw [stm_ap, if_neg (by omega), stm_same]
  have v5 : (stm (stm (stm (stm m 4 5 p) 4 9 (-1)) 4 4 s) 4 3 (p + 1)) 4 5 = p := by rw [stm_ap, if_neg (by omega), stm_ap, if_neg (by omega), stm_ap, if_neg (by omega), stm_same]
  have v9 : (stm (stm (stm (stm m 4 5 p) 4 9 (-1)) 4 4 s) 4 3 (p + 1)) 4 9 = -1 := by rw [stm_ap, if_neg (by omega), stm_ap, if_neg (by omega), stm_same]
  refine ⟨_, _, r1, r2, fun o q h => ?_, fun o q h => ?_, ⟨⟨by rw [v3, w3], by rw [v5, w4]⟩, by rw [w4, w3, w2]; omega, ?_⟩, w4, fun w => ?_, fun w => ?_⟩
  · rw [stm_ap, if_neg (by omega), stm_ap, if_neg (by omega)]
    exact f2 o q h
  · rw [stm_ap, if_neg (by omega), stm_ap, if_neg (by omega)]
    exact g2 o q h
  · rw [v4, v9, w3, w4, w5]
    rcases hs with ⟨a, b⟩ | ⟨a, b⟩
    · exact Or.inr (Or.inl ⟨b, a, rfl, by omega⟩)
    · exact Or.inr (Or.inr (Or.inl ⟨b, a, rfl, by omega⟩))
  · rw [w5] at w
    omega
  · rw [w5] at w
    omega
theorem tok_word {z : Vl} (T : TX m M) (h3 : m 4 3 = p) (g3 : M 88 3 = p) (p0 : 0 ≤ p) (p1 : p < M 88 2) (x3 : isLt (hr M p) = 1) : TKR n m M z p := by
  have t2 := T.2.2.1
  have t3 := T.2.2.2.1
  have hc := isLt_1 x3
  have he := p_here (n := n) T.1.2 (k := 0) (by omega) (by omega) t3.2
  rw [Int.add_zero, g3] at he
  have g2 : FRg M (stm (stm (stm M 88 4 p) 88 12 0) 88 6 0) := fun o q h => by rw [stm_ap, if_neg (by omega), stm_ap, if_neg (by omega), stm_ap, if_neg (by omega)]
  have f2 : FRl m (stm (stm m 4 5 p) 4 9 (-1)) := fun o q h => by rw [stm_ap, if_neg (by omega), stm_ap, if_neg (by omega)]
  have f3 : FRl m (stm (stm (stm (stm m 4 5 p) 4 9 (-1)) 4 7 0) 4 8 0) := fun o q h => by
    rw [stm_ap, if_neg (by omega), stm_ap, if_neg (by omega)]
    exact f2 o q h
  have y3 : (stm (stm (stm M 88 4 p) 88 12 0) 88 6 0) 88 3 = p := by rw [stm_ap, if_neg (by omega), stm_ap, if_neg (by omega), stm_ap, if_neg (by omega)]; exact g3
  have y4 : (stm (stm (stm M 88 4 p) 88 12 0) 88 6 0) 88 4 = p := by rw [stm_ap, if_neg (by omega), stm_ap, if_neg (by omega), stm_same]
  have y12 : (stm (stm (stm M 88 4 p) 88 12 0) 88 6 0) 88 12 = 0 := by rw [stm_ap, if_neg (by omega), stm_same]
  have he2 := p_here (n := n) (g2.fx T.1.2) (k := 0) (by omega) (by omega) (by rw [g2 88 2 (by omega)]; exact t3.2)
  rw [Int.add_zero, y3, hr_fr g2] at he2
  have il := p_isLt (hr M p) (n, stm (stm (stm M 88 4 p) 88 12 0) 88 6 0)
  rw [x3] at il
  have s3 : ∀ a b : Int, stm (stm m 4 5 a) 4 9 b 4 3 = p := fun a b => by rw [stm_ap, if_neg (by omega), stm_ap, if_neg (by omega)]; exact h3
  have s2 : ∀ a b : Int, stm (stm m 4 5 a) 4 9 b 4 2 = M 88 2 := fun a b => by rw [stm_ap, if_neg (by omega), stm_ap, if_neg (by omega)]; exact t2
  have cl := c_isLt (n := n) (T.fr f2 g2) (s3 _ _) p0
  rw [hr_fr g2, x3] at cl
  have z3 : (stm (stm (stm (stm m 4 5 p) 4 9 (-1)) 4 7 0) 4 8 0) 4 3 = p := by rw [stm_ap, if_neg (by omega), stm_ap, if_neg (by omega)]; exact s3 _ _
  have z5 : (stm (stm (stm (stm m 4 5 p) 4 9 (-1)) 4 7 0) 4 8 0) 4 5 = p := by rw [stm_ap, if_neg (by omega), stm_ap, if_neg (by omega), stm_ap, if_neg (by omega), stm_same]
  have z9 : (stm (stm (stm (stm m 4 5 p) 4 9 (-1)) 4 7 0) 4 8 0) 4 9 = -1 := by rw [stm_ap, if_neg (by omega), stm_ap, if_neg (by omega), stm_same]
  have z7 : (stm (stm (stm (stm m 4 5 p) 4 9 (-1)) 4 7 0) 4 8 0) 4 7 = 0 := by rw [stm_ap, if_neg (by omega), stm_same]
  obtain ⟨k, m4, M', b1, b2, b3, b4, b5, b6, b7, b8, b9, b10, b11⟩ := wd_both (n := n) (M 88 2 - p).toNat 0 p _ _ (9, 0) (T.fr f3 g2) p0 (by rw [g2 88 2 (by omega)]; omega) (by rw [z3]; omega) (by rw [stm_same]; rfl) y3 (Or.inl ⟨by omega, by rw [y12, z7, CV_0], by rw [z7]; omega, by rw [z7]; decide⟩)
  rw [g2 88 2 (by omega)] at b1
  rw [hr_fr g2] at b8
  have k1 : 1 ≤ k := by
    rcases Nat.eq_zero_or_pos k with q | q
    · rw [q, show p + ((0 : Nat) : Int) = p by omega, x3] at b8
      omega
    · exact q
  have n2 : M' 88 2 = M 88 2 := by rw [b5 88 2 (by omega), g2 88 2 (by omega)]
  have hrM : ∀ q : Int, hr M' q = hr M q := fun q => by rw [hr_fr b5, hr_fr g2]
  have fin : ∃ m', vp 24 100 [(2, 4), (0, 0)] [] (n, m4) = some (none, (n, m')) ∧ (∀ o q : Int, ¬ (o = 4 ∧ q = 9) → m' o q = m4 o q) ∧ ((k ≤ 8 ∧ KWj (m4 4 7) 28 (m' 4 9)) ∨ (9 ≤ k ∧ m' 4 9 = -1)) := by
    by_cases k8 : k ≤ 8
    · rw [if_pos k8] at b10
      obtain ⟨m', c1, c2, c3⟩ := kw100 (n := n) 28 0 m4 (by omega) (by omega) ((f3.tr b4).fx T.1.1) b10 (Or.inl ⟨by rw [b6.2.2.2, z9], fun i i0 i1 => by omega⟩)
      exact ⟨m', c1, c2, Or.inl ⟨k8, c3⟩⟩
    · rw [if_neg k8] at b10
      exact ⟨m4, kw100n 28 0 m4 (by omega) (by omega) b10, fun _ _ _ => rfl, Or.inr ⟨by omega, by rw [b6.2.2.2, z9]⟩⟩
  obtain ⟨m', c1, c2, c3⟩ := fin
  refine ⟨m', M', ?_, ?_, ?_, g2.tr b5, ?_, by rw [b7.2.2, y4], fun w => ?_, fun _ => x3⟩
  · have w24 : vm 24 [(2, 4)] (n, stm (stm m 4 5 p) 4 9 (-1)) = some (none, (n, m')) := by
      rw [e_X3_readWord]
      repeat first
        | (refine Eq.trans (if_pos ?_) ?_; · first | omega | (simp (disch := omega) only [Int.reduceLT, Int.reduceLE, Int.reduceEq, Int.reduceNe, Int.reduceNeg, Int.reduceAdd, Int.reduceSub, Int.reduceMul, Int.reduceGE, Int.reduceGT, Nat.reduceEqDiff, Nat.reduceAdd, and_true, true_and, and_self, not_true_eq_false, not_false_eq_true, ne_eq, and_false, false_and, or_false, or_true, false_or, true_or, vx_some, eq_self, ↓reduceIte, ite_t1, ite_t2, ite_t3, le_T, le_F, lt_T, lt_F, ge_T, ge_F, gt_T, gt_F, eq_T, eq_F, w32_i, kd_1, kd_2, kd_3, kd_4, kd_5, kd_6, kd_7, kd_14, kd_15, kd_16, kd_29, kd_34, kd_56, kd_74, kd_75, kd_76, kd_77, kd_78, kd_79, kd_80, kd_81, kd_82, kd_83, kd_84, kd_85, kd_86, kd_87, kd_88, kd_89, kd_90, kd_91, kd_92, kd_93, kd_94, kd_95, kd_96, kd_97, kd_98, kd_99, kd_100, kd_101, kd_102, kd_103, kd_104, kd_105, kd_106, kd_107, kd_108]; done))
        | (refine Eq.trans (if_neg ?_) ?_; · first | omega | (simp (disch := omega) only [Int.reduceLT, Int.reduceLE, Int.reduceEq, Int.reduceNe, Int.reduceNeg, Int.reduceAdd, Int.reduceSub, Int.reduceMul, Int.reduceGE, Int.reduceGT, Nat.reduceEqDiff, Nat.reduceAdd, and_true, true_and, and_self, not_true_eq_false, not_false_eq_true, ne_eq, and_false, false_and, or_false, or_true, false_or, true_or, vx_some, eq_self, ↓reduceIte, ite_t1, ite_t2, ite_t3, le_T, le_F, lt_T, lt_F, ge_T, ge_F, gt_T, gt_F, eq_T, eq_F, w32_i, kd_1, kd_2, kd_3, kd_4, kd_5, kd_6, kd_7, kd_14, kd_15, kd_16, kd_29, kd_34, kd_56, kd_74, kd_75, kd_76, kd_77, kd_78, kd_79, kd_80, kd_81, kd_82, kd_83, kd_84, kd_85, kd_86, kd_87, kd_88, kd_89, kd_90, kd_91, kd_92, kd_93, kd_94, kd_95, kd_96, kd_97, kd_98, kd_99, kd_100, kd_101, kd_102, kd_103, kd_104, kd_105, kd_106, kd_107, kd_108]; done))
        | (refine Eq.trans (bnd (r := ?_) ?_) ?_; rotate_left 1; (focus (simp (disch := omega) only [Int.reduceLT, Int.reduceLE, Int.reduceEq, Int.reduceNe, Int.reduceNeg, Int.reduceAdd, Int.reduceSub, Int.reduceMul, Int.reduceGE, Int.reduceGT, Nat.reduceEqDiff, Nat.reduceAdd, and_true, true_and, and_self, not_true_eq_false, not_false_eq_true, ne_eq, and_false, false_and, or_false, or_true, false_or, true_or, vx_some, eq_self, ↓reduceIte, ite_t1, ite_t2, ite_t3, le_T, le_F, lt_T, lt_F, ge_T, ge_F, gt_T, gt_F, eq_T, eq_F, w32_i, kd_1, kd_2, kd_3, kd_4, kd_5, kd_6, kd_7, kd_14, kd_15, kd_16, kd_29, kd_34, kd_56, kd_74, kd_75, kd_76, kd_77, kd_78, kd_79, kd_80, kd_81, kd_82, kd_83, kd_84, kd_85, kd_86, kd_87, kd_88, kd_89, kd_90, kd_91, kd_92, kd_93, kd_94, kd_95, kd_96, kd_97, kd_98, kd_99, kd_100, kd_101, kd_102, kd_103, kd_104, kd_105, kd_106, kd_107, kd_108]; exact rfl)); simp only [vx_some])
      all_goals rw [← c1, ← b2]
    clear he he2 il b1 b2 b3 b4 b5 b6 b7 b8 b9 b10 b11 c1 c2 c3 T g2 f2 f3 y3 y4 y12 z3 z5 z9 z7 hrM n2 x3 hc
    rw [e_X3_step_52]
    generalize M 88 2 = N at *
    repeat first
      | (refine Eq.trans (if_pos ?_) ?_; · first | omega | (simp (disch := omega) only [h3, s3, s2, cl, w24, Int.reduceLT, Int.reduceLE, Int.reduceEq, Int.reduceNe, Int.reduceNeg, Int.reduceAdd, Int.reduceSub, Int.reduceMul, Int.reduceGE, Int.reduceGT, Nat.reduceEqDiff, Nat.reduceAdd, and_true, true_and, and_self, not_true_eq_false, not_false_eq_true, ne_eq, and_false, false_and, or_false, or_true, false_or, true_or, vx_some, eq_self, ↓reduceIte, ite_t1, ite_t2, ite_t3, le_T, le_F, lt_T, lt_F, ge_T, ge_F, gt_T, gt_F, eq_T, eq_F, w32_i, kd_1, kd_2, kd_3, kd_4, kd_5, kd_6, kd_7, kd_14, kd_15, kd_16, kd_29, kd_34, kd_56, kd_74, kd_75, kd_76, kd_77, kd_78, kd_79, kd_80, kd_81, kd_82, kd_83, kd_84, kd_85, kd_86, kd_87, kd_88, kd_89, kd_90, kd_91, kd_92, kd_93, kd_94, kd_95, kd_96, kd_97, kd_98, kd_99, kd_100, kd_101, kd_102, kd_103, kd_104, kd_105, kd_106, kd_107, kd_108]; done))
      | (refine Eq.trans (if_neg ?_) ?_; · first | omega | (simp (disch := omega) only [h3, s3, s2, cl, w24, Int.reduceLT, Int.reduceLE, Int.reduceEq, Int.reduceNe, Int.reduceNeg, Int.reduceAdd, Int.reduceSub, Int.reduceMul, Int.reduceGE, Int.reduceGT, Nat.reduceEqDiff, Nat.reduceAdd, and_true, true_and, and_self, not_true_eq_false, not_false_eq_true, ne_eq, and_false, false_and, or_false, or_true, false_or, true_or, vx_some, eq_self, ↓reduceIte, ite_t1, ite_t2, ite_t3, le_T, le_F, lt_T, lt_F, ge_T, ge_F, gt_T, gt_F, eq_T, eq_F, w32_i, kd_1, kd_2, kd_3, kd_4, kd_5, kd_6, kd_7, kd_14, kd_15, kd_16, kd_29, kd_34, kd_56, kd_74, kd_75, kd_76, kd_77, kd_78, kd_79, kd_80, kd_81, kd_82, kd_83, kd_84, kd_85, kd_86, kd_87, kd_88, kd_89, kd_90, kd_91, kd_92, kd_93, kd_94, kd_95, kd_96, kd_97, kd_98, kd_99, kd_100, kd_101, kd_102, kd_103, kd_104, kd_105, kd_106, kd_107, kd_108]; done))
      | (refine Eq.trans (bnd (r := ?_) ?_) ?_; rotate_left 1; (focus (simp (disch := omega) only [h3, s3, s2, cl, w24, Int.reduceLT, Int.reduceLE, Int.reduceEq, Int.reduceNe, Int.reduceNeg, Int.reduceAdd, Int.reduceSub, Int.reduceMul, Int.reduceGE, Int.reduceGT, Nat.reduceEqDiff, Nat.reduceAdd, and_true, true_and, and_self, not_true_eq_false, not_false_eq_true, ne_eq, and_false, false_and, or_false, or_true, false_or, true_or, vx_some, eq_self, ↓reduceIte, ite_t1, ite_t2, ite_t3, le_T, le_F, lt_T, lt_F, ge_T, ge_F, gt_T, gt_F, eq_T, eq_F, w32_i, kd_1, kd_2, kd_3, kd_4, kd_5, kd_6, kd_7, kd_14, kd_15, kd_16, kd_29, kd_34, kd_56, kd_74, kd_75, kd_76, kd_77, kd_78, kd_79, kd_80, kd_81, kd_82, kd_83, kd_84, kd_85, kd_86, kd_87, kd_88, kd_89, kd_90, kd_91, kd_92, kd_93, kd_94, kd_95, kd_96, kd_97, kd_98, kd_99, kd_100, kd_101, kd_102, kd_103, kd_104, kd_105, kd_106, kd_107, kd_108]; exact rfl)); simp only [vx_some])
    all_goals with_reducible rfl
  · clear cl s3 s2 b1 b2 b4 b5 b6 b7 b8 b9 b10 b11 c1 c2 c3 T g2 f2 f3 y3 y4 y12 z3 z5 z9 z7 hrM n2 x3
    refine Eq.trans (e_X12_goOn_0 ..) ?_
    generalize hr M p = c at *
    repeat first
      | (refine Eq.trans (if_pos ?_) ?_; · first | omega | (simp (disch := omega) only [he, g3, he2, il, Int.reduceLT, Int.reduceLE, Int.reduceEq, Int.reduceNe, Int.reduceNeg, Int.reduceAdd, Int.reduceSub, Int.reduceMul, Int.reduceGE, Int.reduceGT, Nat.reduceEqDiff, Nat.reduceAdd, and_true, true_and, and_self, not_true_eq_false, not_false_eq_true, ne_eq, and_false, false_and, or_false, or_true, false_or, true_or, vx_some, eq_self, ↓reduceIte, ite_t1, ite_t2, ite_t3, le_T, le_F, lt_T, lt_F, ge_T, ge_F, gt_T, gt_F, eq_T, eq_F, w32_i, kd_1, kd_2, kd_3, kd_4, kd_5, kd_6, kd_7, kd_14, kd_15, kd_16, kd_29, kd_34, kd_56, kd_74, kd_75, kd_76, kd_77, kd_78, kd_79, kd_80, kd_81, kd_82, kd_83, kd_84, kd_85, kd_86, kd_87, kd_88, kd_89, kd_90, kd_91, kd_92, kd_93, kd_94, kd_95, kd_96, kd_97, kd_98, kd_99, kd_100, kd_101, kd_102, kd_103, kd_104, kd_105, kd_106, kd_107, kd_108]; done))
      | (refine Eq.trans (if_neg ?_) ?_; · first | omega | (simp (disch := omega) only [he, g3, he2, il, Int.reduceLT, Int.reduceLE, Int.reduceEq, Int.reduceNe, Int.reduceNeg, Int.reduceAdd, Int.reduceSub, Int.reduceMul, Int.reduceGE, Int.reduceGT, Nat.reduceEqDiff, Nat.reduceAdd, and_true, true_and, and_self, not_true_eq_false, not_false_eq_true, ne_eq, and_false, false_and, or_false, or_true, false_or, true_or, vx_some, eq_self, ↓reduceIte, ite_t1, ite_t2, ite_t3, le_T, le_F, lt_T, lt_F, ge_T, ge_F, gt_T, gt_F, eq_T, eq_F, w32_i, kd_1, kd_2, kd_3, kd_4, kd_5, kd_6, kd_7, kd_14, kd_15, kd_16, kd_29, kd_34, kd_56, kd_74, kd_75, kd_76, kd_77, kd_78, kd_79, kd_80, kd_81, kd_82, kd_83, kd_84, kd_85, kd_86, kd_87, kd_88, kd_89, kd_90, kd_91, kd_92, kd_93, kd_94, kd_95, kd_96, kd_97, kd_98, kd_99, kd_100, kd_101, kd_102, kd_103, kd_104, kd_105, kd_106, kd_107, kd_108]; done))
      | (refine Eq.trans (bnd (r := ?_) ?_) ?_; rotate_left 1; (focus (simp (disch := omega) only [he, g3, he2, il, Int.reduceLT, Int.reduceLE, Int.reduceEq, Int.reduceNe, Int.reduceNeg, Int.reduceAdd, Int.reduceSub, Int.reduceMul, Int.reduceGE, Int.reduceGT, Nat.reduceEqDiff, Nat.reduceAdd, and_true, true_and, and_self, not_true_eq_false, not_false_eq_true, ne_eq, and_false, false_and, or_false, or_true, false_or, true_or, vx_some, eq_self, ↓reduceIte, ite_t1, ite_t2, ite_t3, le_T, le_F, lt_T, lt_F, ge_T, ge_F, gt_T, gt_F, eq_T, eq_F, w32_i, kd_1, kd_2, kd_3, kd_4, kd_5, kd_6, kd_7, kd_14, kd_15, kd_16, kd_29, kd_34, kd_56, kd_74, kd_75, kd_76, kd_77, kd_78, kd_79, kd_80, kd_81, kd_82, kd_83, kd_84, kd_85, kd_86, kd_87, kd_88, kd_89, kd_90, kd_91, kd_92, kd_93, kd_94, kd_95, kd_96, kd_97, kd_98, kd_99, kd_100, kd_101, kd_102, kd_103, kd_104, kd_105, kd_106, kd_107, kd_108]; exact rfl)); simp only [vx_some])
    all_goals first | exact b3 | (simp only [g3]; exact b3)
  · intro o q h
    rw [c2 o q (by omega), b4 o q h, f3 o q h]
  · refine ⟨⟨by rw [c2 4 3 (by omega), b6.1, b7.1], by rw [c2 4 5 (by omega), b6.2.2.1, b7.2.2, y4, z5]⟩, by rw [b7.2.2, y4, b7.1, n2]; omega, ?_⟩
    rw [c2 4 4 (by omega), c2 4 7 (by omega), c2 4 8 (by omega), b10, b11, b7.1, b7.2.2, y4, b7.2.1, b6.2.1, hrM]
    rcases c3 with ⟨k8, c3⟩ | ⟨k9, c3⟩
    · rw [if_pos k8, if_pos k8]
      rcases b9 with ⟨_, d1, d2, d3⟩ | d
      · have e8 := p32_le8 k k8
        refine Or.inr (Or.inr (Or.inr (Or.inr ⟨rfl, rfl, rfl, rfl, by omega, d1, by omega, c3, b8, fun w => ?_⟩)))
        have e3 := p32_le3 k (by omega)
        omega
      · omega
    · rw [if_neg (by omega), if_neg (by omega)]
      exact Or.inr (Or.inr (Or.inl ⟨rfl, rfl, c3, by omega⟩))
  · rw [b11] at w
    by_cases k8 : k ≤ 8
    · rw [if_pos k8] at w
      omega
    · rw [if_neg k8] at w
      omega
theorem tok_number {z : Vl} (T : TX m M) (h3 : m 4 3 = p) (g3 : M 88 3 = p) (p0 : 0 ≤ p) (p1 : p < M 88 2) (x3 : isLt (hr M p) = 0) (x4 : isDg (hr M p) = 1) : TKR n m M z p := by
  have t2 := T.2.2.1
  have t3 := T.2.2.2.1
  have hc := isDg_1 x4
  have he := p_here (n := n) T.1.2 (k := 0) (by omega) (by omega) t3.2
  rw [Int.add_zero, g3] at he
  have g2 : FRg M (stm (stm (stm M 88 4 p) 88 12 0) 88 6 0) := fun o q h => by rw [stm_ap, if_neg (by omega), stm_ap, if_neg (by omega), stm_ap, if_neg (by omega)]
  have f2 : FRl m (stm (stm m 4 5 p) 4 9 (-1)) := fun o q h => by rw [stm_ap, if_neg (by omega), stm_ap, if_neg (by omega)]
  have f3 : FRl m (stm (stm (stm m 4 5 p) 4 9 (-1)) 4 6 0) := fun o q h => by
    rw [stm_ap, if_neg (by omega)]
    exact f2 o q h
  have y3 : (stm (stm (stm M 88 4 p) 88 12 0) 88 6 0) 88 3 = p := by rw [stm_ap, if_neg (by omega), stm_ap, if_neg (by omega), stm_ap, if_neg (by omega)]; exact g3
  have y4 : (stm (stm (stm M 88 4 p) 88 12 0) 88 6 0) 88 4 = p := by rw [stm_ap, if_neg (by omega), stm_ap, if_neg (by omega), stm_same]
  have y6 : (stm (stm (stm M 88 4 p) 88 12 0) 88 6 0) 88 6 = 0 := stm_same _ _ _ _
  have he2 := p_here (n := n) (g2.fx T.1.2) (k := 0) (by omega) (by omega) (by rw [g2 88 2 (by omega)]; exact t3.2)
  rw [Int.add_zero, y3, hr_fr g2] at he2
  have il := p_isLt (hr M p) (n, stm (stm (stm M 88 4 p) 88 12 0) 88 6 0)
  rw [x3] at il
  have id := p_isDg (hr M p) (n, stm (stm (stm M 88 4 p) 88 12 0) 88 6 0)
  rw [x4] at id
  have s3 : ∀ a b : Int, stm (stm m 4 5 a) 4 9 b 4 3 = p := fun a b => by rw [stm_ap, if_neg (by omega), stm_ap, if_neg (by omega)]; exact h3
  have s2 : ∀ a b : Int, stm (stm m 4 5 a) 4 9 b 4 2 = M 88 2 := fun a b => by rw [stm_ap, if_neg (by omega), stm_ap, if_neg (by omega)]; exact t2
  have cl := c_isLt (n := n) (T.fr f2 g2) (s3 _ _) p0
  rw [hr_fr g2, x3] at cl
  have cd := c_isDg (n := n) (T.fr f2 g2) (s3 _ _) p0
  rw [hr_fr g2, x4] at cd
  have z3 : (stm (stm (stm m 4 5 p) 4 9 (-1)) 4 6 0) 4 3 = p := by rw [stm_ap, if_neg (by omega)]; exact s3 _ _
  have z5 : (stm (stm (stm m 4 5 p) 4 9 (-1)) 4 6 0) 4 5 = p := by rw [stm_ap, if_neg (by omega), stm_ap, if_neg (by omega), stm_same]
  have z9 : (stm (stm (stm m 4 5 p) 4 9 (-1)) 4 6 0) 4 9 = -1 := by rw [stm_ap, if_neg (by omega), stm_same]
  have z6 : (stm (stm (stm m 4 5 p) 4 9 (-1)) 4 6 0) 4 6 = 0 := stm_same _ _ _ _
  obtain ⟨k, m', M', s, b1, b2, b3, b4, b5, b6, b7, b8, b9, b10, b11⟩ := nm_both (n := n) (M 88 2 - p).toNat 0 p _ _ (T.fr f3 g2) p0 (by rw [g2 88 2 (by omega)]; omega) (by rw [z3]; omega) y3 (Or.inl ⟨by rw [y6, z6], by rw [z6]; omega, Or.inl ⟨rfl, z6⟩⟩)
  rw [g2 88 2 (by omega)] at b1
  rw [hr_fr g2] at b8 b11
  have k1 : 1 ≤ k := by
    rcases Nat.eq_zero_or_pos k with q | q
    · rw [q, show p + ((0 : Nat) : Int) = p by omega, x4] at b8
      omega
    · exact q
  have n2 : M' 88 2 = M 88 2 := by rw [b5 88 2 (by omega), g2 88 2 (by omega)]
  have hrM : ∀ q : Int, hr M' q = hr M q := fun q => by rw [hr_fr b5, hr_fr g2]
  refine ⟨m', M', ?_, ?_, f3.tr b4, g2.tr b5, ?_, by rw [b7.2, y4], fun _ => x4, fun w => ?_⟩
  · have w25 : vm 25 [(2, 4)] (n, stm (stm m 4 5 p) 4 9 (-1)) = some (none, (n, m')) := by
      rw [e_X3_readNumber]
      repeat first
        | (refine Eq.trans (if_pos ?_) ?_; · first | omega | (simp (disch := omega) only [Int.reduceLT, Int.reduceLE, Int.reduceEq, Int.reduceNe, Int.reduceNeg, Int.reduceAdd, Int.reduceSub, Int.reduceMul, Int.reduceGE, Int.reduceGT, Nat.reduceEqDiff, Nat.reduceAdd, and_true, true_and, and_self, not_true_eq_false, not_false_eq_true, ne_eq, and_false, false_and, or_false, or_true, false_or, true_or, vx_some, eq_self, ↓reduceIte, ite_t1, ite_t2, ite_t3, le_T, le_F, lt_T, lt_F, ge_T, ge_F, gt_T, gt_F, eq_T, eq_F, w32_i, kd_1, kd_2, kd_3, kd_4, kd_5, kd_6, kd_7, kd_14, kd_15, kd_16, kd_29, kd_34, kd_56, kd_74, kd_75, kd_76, kd_77, kd_78, kd_79, kd_80, kd_81, kd_82, kd_83, kd_84, kd_85, kd_86, kd_87, kd_88, kd_89, kd_90, kd_91, kd_92, kd_93, kd_94, kd_95, kd_96, kd_97, kd_98, kd_99, kd_100, kd_101, kd_102, kd_103, kd_104, kd_105, kd_106, kd_107, kd_108]; done))
        | (refine Eq.trans (if_neg ?_) ?_; · first | omega | (simp (disch := omega) only [Int.reduceLT, Int.reduceLE, Int.reduceEq, Int.reduceNe, Int.reduceNeg, Int.reduceAdd, Int.reduceSub, Int.reduceMul, Int.reduceGE, Int.reduceGT, Nat.reduceEqDiff, Nat.reduceAdd, and_true, true_and, and_self, not_true_eq_false, not_false_eq_true, ne_eq, and_false, false_and, or_false, or_true, false_or, true_or, vx_some, eq_self, ↓reduceIte, ite_t1, ite_t2, ite_t3, le_T, le_F, lt_T, lt_F, ge_T, ge_F, gt_T, gt_F, eq_T, eq_F, w32_i, kd_1, kd_2, kd_3, kd_4, kd_5, kd_6, kd_7, kd_14, kd_15, kd_16, kd_29, kd_34, kd_56, kd_74, kd_75, kd_76, kd_77, kd_78, kd_79, kd_80, kd_81, kd_82, kd_83, kd_84, kd_85, kd_86, kd_87, kd_88, kd_89, kd_90, kd_91, kd_92, kd_93, kd_94, kd_95, kd_96, kd_97, kd_98, kd_99, kd_100, kd_101, kd_102, kd_103, kd_104, kd_105, kd_106, kd_107, kd_108]; done))
        | (refine Eq.trans (bnd (r := ?_) ?_) ?_; rotate_left 1; (focus (simp (disch := omega) only [Int.reduceLT, Int.reduceLE, Int.reduceEq, Int.reduceNe, Int.reduceNeg, Int.reduceAdd, Int.reduceSub, Int.reduceMul, Int.reduceGE, Int.reduceGT, Nat.reduceEqDiff, Nat.reduceAdd, and_true, true_and, and_self, not_true_eq_false, not_false_eq_true, ne_eq, and_false, false_and, or_false, or_true, false_or, true_or, vx_some, eq_self, ↓reduceIte, ite_t1, ite_t2, ite_t3, le_T, le_F, lt_T, lt_F, ge_T, ge_F, gt_T, gt_F, eq_T, eq_F, w32_i, kd_1, kd_2, kd_3, kd_4, kd_5, kd_6, kd_7, kd_14, kd_15, kd_16, kd_29, kd_34, kd_56, kd_74, kd_75, kd_76, kd_77, kd_78, kd_79, kd_80, kd_81, kd_82, kd_83, kd_84, kd_85, kd_86, kd_87, kd_88, kd_89, kd_90, kd_91, kd_92, kd_93, kd_94, kd_95, kd_96, kd_97, kd_98, kd_99, kd_100, kd_101, kd_102, kd_103, kd_104, kd_105, kd_106, kd_107, kd_108]; exact rfl)); simp only [vx_some])
      exact b2
    clear he he2 il id b1 b2 b3 b4 b5 b6 b7 b8 b9 b10 b11 T g2 f2 f3 y3 y4 y6 z3 z5 z9 z6 hrM n2 x3 x4 hc
    rw [e_X3_step_52]
    generalize M 88 2 = N at *
    repeat first
      | (refine Eq.trans (if_pos ?_) ?_; · first | omega | (simp (disch := omega) only [h3, s3, s2, cl, cd, w25, Int.reduceLT, Int.reduceLE, Int.reduceEq, Int.reduceNe, Int.reduceNeg, Int.reduceAdd, Int.reduceSub, Int.reduceMul, Int.reduceGE, Int.reduceGT, Nat.reduceEqDiff, Nat.reduceAdd, and_true, true_and, and_self, not_true_eq_false, not_false_eq_true, ne_eq, and_false, false_and, or_false, or_true, false_or, true_or, vx_some, eq_self, ↓reduceIte, ite_t1, ite_t2, ite_t3, le_T, le_F, lt_T, lt_F, ge_T, ge_F, gt_T, gt_F, eq_T, eq_F, w32_i, kd_1, kd_2, kd_3, kd_4, kd_5, kd_6, kd_7, kd_14, kd_15, kd_16, kd_29, kd_34, kd_56, kd_74, kd_75, kd_76, kd_77, kd_78, kd_79, kd_80, kd_81, kd_82, kd_83, kd_84, kd_85, kd_86, kd_87, kd_88, kd_89, kd_90, kd_91, kd_92, kd_93, kd_94, kd_95, kd_96, kd_97, kd_98, kd_99, kd_100, kd_101, kd_102, kd_103, kd_104, kd_105, kd_106, kd_107, kd_108]; done))
      | (refine Eq.trans (if_neg ?_) ?_; · first | omega | (simp (disch := omega) only [h3, s3, s2, cl, cd, w25, Int.reduceLT, Int.reduceLE, Int.reduceEq, Int.reduceNe, Int.reduceNeg, Int.reduceAdd, Int.reduceSub, Int.reduceMul, Int.reduceGE, Int.reduceGT, Nat.reduceEqDiff, Nat.reduceAdd, and_true, true_and, and_self, not_true_eq_false, not_false_eq_true, ne_eq, and_false, false_and, or_false, or_true, false_or, true_or, vx_some, eq_self, ↓reduceIte, ite_t1, ite_t2, ite_t3, le_T, le_F, lt_T, lt_F, ge_T, ge_F, gt_T, gt_F, eq_T, eq_F, w32_i, kd_1, kd_2, kd_3, kd_4, kd_5, kd_6, kd_7, kd_14, kd_15, kd_16, kd_29, kd_34, kd_56, kd_74, kd_75, kd_76, kd_77, kd_78, kd_79, kd_80, kd_81, kd_82, kd_83, kd_84, kd_85, kd_86, kd_87, kd_88, kd_89, kd_90, kd_91, kd_92, kd_93, kd_94, kd_95, kd_96, kd_97, kd_98, kd_99, kd_100, kd_101, kd_102, kd_103, kd_104, kd_105, kd_106, kd_107, kd_108]; done))
      | (refine Eq.trans (bnd (r := ?_) ?_) ?_; rotate_left 1; (focus (simp (disch := omega) only [h3, s3, s2, cl, cd, w25, Int.reduceLT, Int.reduceLE, Int.reduceEq, Int.reduceNe, Int.reduceNeg, Int.reduceAdd, Int.reduceSub, Int.reduceMul, Int.reduceGE, Int.reduceGT, Nat.reduceEqDiff, Nat.reduceAdd, and_true, true_and, and_self, not_true_eq_false, not_false_eq_true, ne_eq, and_false, false_and, or_false, or_true, false_or, true_or, vx_some, eq_self, ↓reduceIte, ite_t1, ite_t2, ite_t3, le_T, le_F, lt_T, lt_F, ge_T, ge_F, gt_T, gt_F, eq_T, eq_F, w32_i, kd_1, kd_2, kd_3, kd_4, kd_5, kd_6, kd_7, kd_14, kd_15, kd_16, kd_29, kd_34, kd_56, kd_74, kd_75, kd_76, kd_77, kd_78, kd_79, kd_80, kd_81, kd_82, kd_83, kd_84, kd_85, kd_86, kd_87, kd_88, kd_89, kd_90, kd_91, kd_92, kd_93, kd_94, kd_95, kd_96, kd_97, kd_98, kd_99, kd_100, kd_101, kd_102, kd_103, kd_104, kd_105, kd_106, kd_107, kd_108]; exact rfl)); simp only [vx_some])
    all_goals with_reducible rfl
  · clear cl cd s3 s2 b1 b2 b4 b5 b6 b7 b8 b9 b10 b11 T g2 f2 f3 y3 y4 y6 z3 z5 z9 z6 hrM n2 x3 x4
    refine Eq.trans (e_X12_goOn_0 ..) ?_
    generalize hr M p = c at *
    repeat first
      | (refine Eq.trans (if_pos ?_) ?_; · first | omega | (simp (disch := omega) only [he, g3, he2, il, id, Int.reduceLT, Int.reduceLE, Int.reduceEq, Int.reduceNe, Int.reduceNeg, Int.reduceAdd, Int.reduceSub, Int.reduceMul, Int.reduceGE, Int.reduceGT, Nat.reduceEqDiff, Nat.reduceAdd, and_true, true_and, and_self, not_true_eq_false, not_false_eq_true, ne_eq, and_false, false_and, or_false, or_true, false_or, true_or, vx_some, eq_self, ↓reduceIte, ite_t1, ite_t2, ite_t3, le_T, le_F, lt_T, lt_F, ge_T, ge_F, gt_T, gt_F, eq_T, eq_F, w32_i, kd_1, kd_2, kd_3, kd_4, kd_5, kd_6, kd_7, kd_14, kd_15, kd_16, kd_29, kd_34, kd_56, kd_74, kd_75, kd_76, kd_77, kd_78, kd_79, kd_80, kd_81, kd_82, kd_83, kd_84, kd_85, kd_86, kd_87, kd_88, kd_89, kd_90, kd_91, kd_92, kd_93, kd_94, kd_95, kd_96, kd_97, kd_98, kd_99, kd_100, kd_101, kd_102, kd_103, kd_104, kd_105, kd_106, kd_107, kd_108]; done))
      | (refine Eq.trans (if_neg ?_) ?_; · first | omega | (simp (disch := omega) only [he, g3, he2, il, id, Int.reduceLT, Int.reduceLE, Int.reduceEq, Int.reduceNe, Int.reduceNeg, Int.reduceAdd, Int.reduceSub, Int.reduceMul, Int.reduceGE, Int.reduceGT, Nat.reduceEqDiff, Nat.reduceAdd, and_true, true_and, and_self, not_true_eq_false, not_false_eq_true, ne_eq, and_false, false_and, or_false, or_true, false_or, true_or, vx_some, eq_self, ↓reduceIte, ite_t1, ite_t2, ite_t3, le_T, le_F, lt_T, lt_F, ge_T, ge_F, gt_T, gt_F, eq_T, eq_F, w32_i, kd_1, kd_2, kd_3, kd_4, kd_5, kd_6, kd_7, kd_14, kd_15, kd_16, kd_29, kd_34, kd_56, kd_74, kd_75, kd_76, kd_77, kd_78, kd_79, kd_80, kd_81, kd_82, kd_83, kd_84, kd_85, kd_86, kd_87, kd_88, kd_89, kd_90, kd_91, kd_92, kd_93, kd_94, kd_95, kd_96, kd_97, kd_98, kd_99, kd_100, kd_101, kd_102, kd_103, kd_104, kd_105, kd_106, kd_107, kd_108]; done))
      | (refine Eq.trans (bnd (r := ?_) ?_) ?_; rotate_left 1; (focus (simp (disch := omega) only [he, g3, he2, il, id, Int.reduceLT, Int.reduceLE, Int.reduceEq, Int.reduceNe, Int.reduceNeg, Int.reduceAdd, Int.reduceSub, Int.reduceMul, Int.reduceGE, Int.reduceGT, Nat.reduceEqDiff, Nat.reduceAdd, and_true, true_and, and_self, not_true_eq_false, not_false_eq_true, ne_eq, and_false, false_and, or_false, or_true, false_or, true_or, vx_some, eq_self, ↓reduceIte, ite_t1, ite_t2, ite_t3, le_T, le_F, lt_T, lt_F, ge_T, ge_F, gt_T, gt_F, eq_T, eq_F, w32_i, kd_1, kd_2, kd_3, kd_4, kd_5, kd_6, kd_7, kd_14, kd_15, kd_16, kd_29, kd_34, kd_56, kd_74, kd_75, kd_76, kd_77, kd_78, kd_79, kd_80, kd_81, kd_82, kd_83, kd_84, kd_85, kd_86, kd_87, kd_88, kd_89, kd_90, kd_91, kd_92, kd_93, kd_94, kd_95, kd_96, kd_97, kd_98, kd_99, kd_100, kd_101, kd_102, kd_103, kd_104, kd_105, kd_106, kd_107, kd_108]; exact rfl)); simp only [vx_some])
    all_goals first | exact b3 | (simp only [g3]; exact b3)
  · refine ⟨⟨by rw [b6.1, b7.1], by rw [b6.2.1, b7.2, y4, z5]⟩, by rw [b7.2, y4, b7.1, n2]; omega, ?_⟩
    rw [b7.1, b7.2, y4, b6.2.2, z9, b10.1, b10.2, hrM]
    rcases b11 with q | ⟨q1, q2, q3⟩
    · exact Or.inr (Or.inr (Or.inl ⟨q, q, rfl, by omega⟩))
    · refine Or.inr (Or.inr (Or.inr (Or.inl ⟨q1, q1, rfl, by omega, ?_, b8⟩)))
      unfold NI at b9
      omega
  · rw [b10.2] at w
    omega
/-- both go on by a token -/
theorem step_both (T : TX m M) (e : m 4 3 = M 88 3) (q0 : 0 ≤ M 88 3) (q1 : M 88 3 ≤ M 88 2) : ∃ m' M', vm 21 [(2, 4)] (n, m) = some (none, (n, m')) ∧ vm 178 [(2, 88)] (n, M) = some (none, (n, M')) ∧ FRl m m' ∧ FRg M M' ∧ TK m' M' ∧ M 88 3 ≤ M' 88 4 ∧ (M' 88 5 = 2 → isDg (hr M (M 88 3)) = 0 → M 88 3 + 1 ≤ M' 88 4) ∧ (M' 88 5 = 1 → isLt (hr M (M 88 3)) = 0 → M 88 3 + 1 ≤ M' 88 4) := by
  obtain ⟨p, m1, M1, z1, a1, a2, a3, a4, a5, a6, a7, a8, a9⟩ := sk_both (n := n) (M 88 2 - M 88 3).toNat (M 88 3) m M (9, 0) T e rfl q0 (by omega)
  have T1 := T.fr a4 a5
  have n2 : M1 88 2 = M 88 2 := a5 88 2 (by omega)
  have tk : TKR n m1 M1 z1 p := by
    by_cases z : p = M 88 2
    · exact tok_over T1 a6 a7 (by omega) (by omega)
    · rcases isLt_01 (hr M1 p) with l | l
      · rcases isDg_01 (hr M1 p) with d | d
        · exact tok_sign T1 a6 a7 (by omega) (by omega) (by rw [hr_fr a5]; exact a8) (by rw [hr_fr a5]; exact a9) l d
        · exact tok_number T1 a6 a7 (by omega) (by omega) l d
      · exact tok_word T1 a6 a7 (by omega) (by omega) l
  obtain ⟨m', M', r1, r2, f1, f2, t1, t2, t3, t4⟩ := tk
  rw [hr_fr a5] at t3 t4
  refine ⟨m', M', ?_, ?_, a4.tr f1, a5.tr f2, t1, by omega, fun w d => ?_, fun w d => ?_⟩
  · rw [e_X3_step, a2]
    exact r1
  · rw [e_X12_goOn, a3]
    exact r2
  · have := t3 w
    by_cases y : p = M 88 3
    · rw [y, d] at this
      omega
    · omega
  · have := t4 w
    by_cases y : p = M 88 3
    · rw [y, d] at this
      omega
    · omega
end
