/-! THE PURE PART: the text: words and numbers -/
theorem hr_rng {m M : Mm} (T : TX m M) {q : Int} (q0 : 0 ≤ q) : -1 ≤ hr M q ∧ hr M q ≤ 255 := by
  unfold hr
  by_cases z : q < M 88 2
  · rw [if_pos z]
    have := T.bt q0 z
    omega
  · rw [if_neg z]
    omega
theorem isLt_1 {c : Int} (h : isLt c = 1) : 97 ≤ c ∧ c ≤ 122 := by
  unfold isLt at h
  by_cases z : 97 ≤ c ∧ c ≤ 122
  · exact z
  · rw [if_neg z] at h
    omega
theorem isDg_1 {c : Int} (h : isDg c = 1) : 48 ≤ c ∧ c ≤ 57 := by
  unfold isDg at h
  by_cases z : 48 ≤ c ∧ c ≤ 57
  · exact z
  · rw [if_neg z] at h
    omega
theorem isLt_01 (c : Int) : isLt c = 0 ∨ isLt c = 1 := by
  unfold isLt
  split
  · exact Or.inr rfl
  · exact Or.inl rfl
theorem isDg_01 (c : Int) : isDg c = 0 ∨ isDg c = 1 := by
  unfold isDg
  split
  · exact Or.inr rfl
  · exact Or.inl rfl
theorem hr_in {M : Mm} {q : Int} (h : 0 ≤ hr M q) : q < M 88 2 ∧ hr M q = M 89 q := by
  unfold hr at h ⊢
  by_cases z : q < M 88 2
  · rw [if_pos z]
    exact ⟨z, rfl⟩
  · rw [if_neg z] at h
    omega
section
variable {n : Int} {m M : Mm}
theorem c_letter {w c : Int} (w0 : 0 ≤ w) (w1 : w < 34359738368) (c0 : 97 ≤ c) (c1 : c ≤ 122) (h : Hq) : vm 19 [(1, w), (0, c)] h = some (some (1, 32 * w + (c - 96)), h) := by
  rw [e_X3_withLetter, w32_i (x := c - 97) (by omega) (by omega), w32_i (x := c - 97 + 1) (by omega) (by omega), w64_i (x := w * 32) (by omega) (by omega), w64_i (by omega) (by omega), show w * 32 + (c - 97 + 1) = 32 * w + (c - 96) by omega]
def WI (m M : Mm) (k : Nat) : Prop := (k ≤ 8 ∧ M 88 12 = CV (m 4 7) ∧ 0 ≤ m 4 7 ∧ m 4 7 < p32 k) ∨ 9 ≤ k
/-- both read a word -/
theorem wd_end {z : Vl} (T : TX m M) {p : Int} {k : Nat} (p0 : 0 ≤ p) (pk : p + k ≤ M 88 2) (h3 : m 4 3 = p + k) (h8 : m 4 8 = k) (g3 : M 88 3 = p) (W : WI m M k) (hl : isLt (hr M (p + k)) = 0) : ∃ (m' M' : Mm), vp 24 10 [(2, 4), z] [] (n, m) = vp 24 100 [(2, 4), (0, 0)] [] (n, m') ∧ vp 178 78 [(2, 88), (0, (k : Int))] [] (n, M) = some (none, (n, M')) ∧ m' = stm m 4 4 (if k ≤ 8 then 3 else 4) ∧ M' = stm (stm (stm M 88 5 (if k ≤ 8 then 1 else 4)) 88 7 (k : Int)) 88 3 (p + k) := by
  have t3 := T.2.2.2.1
  have cl := c_isLt (n := n) T h3 (by omega)
  rw [hl] at cl
  have he := p_here (n := n) T.1.2 (k := (k : Int)) (by omega) (by omega) t3.2
  rw [g3] at he
  have il := p_isLt (hr M (p + k)) (n, M)
  rw [hl] at il
  have e3 : ∀ a b : Int, stm (stm M 88 5 a) 88 7 b 88 3 = p := fun a b => by rw [stm_ap, if_neg (by omega), stm_ap, if_neg (by omega)]; exact g3
  have ew : w32 (p + k) = p + k := w32_i (by omega) (by omega)
  refine ⟨_, _, ?_, ?_, rfl, rfl⟩
  · clear he il e3 W T
    refine Eq.trans (e_X3_readWord_10 ..) ?_
    by_cases k8 : k ≤ 8
    · rw [if_pos k8]
      repeat first
        | (refine Eq.trans (if_pos ?_) ?_; · first | omega | (simp (disch := omega) only [cl, h8, Int.reduceLT, Int.reduceLE, Int.reduceEq, Int.reduceNe, Int.reduceNeg, Int.reduceAdd, Int.reduceSub, Int.reduceMul, Int.reduceGE, Int.reduceGT, Nat.reduceEqDiff, Nat.reduceAdd, and_true, true_and, and_self, not_true_eq_false, not_false_eq_true, ne_eq, and_false, false_and, or_false, or_true, false_or, true_or, vx_some, eq_self, ↓reduceIte, ite_t1, ite_t2, ite_t3, le_T, le_F, lt_T, lt_F, ge_T, ge_F, gt_T, gt_F, eq_T, eq_F, w32_i, kd_1, kd_2, kd_3, kd_4, kd_5, kd_6, kd_7, kd_14, kd_15, kd_16, kd_29, kd_34, kd_56, kd_74, kd_75, kd_76, kd_77, kd_78, kd_79, kd_80, kd_81, kd_82, kd_83, kd_84, kd_85, kd_86, kd_87, kd_88, kd_89, kd_90, kd_91, kd_92, kd_93, kd_94, kd_95, kd_96, kd_97, kd_98, kd_99, kd_100, kd_101, kd_102, kd_103, kd_104, kd_105, kd_106, kd_107, kd_108]; done))
        | (refine Eq.trans (if_neg ?_) ?_; · first | omega | (simp (disch := omega) only [cl, h8, Int.reduceLT, Int.reduceLE, Int.reduceEq, Int.reduceNe, Int.reduceNeg, Int.reduceAdd, Int.reduceSub, Int.reduceMul, Int.reduceGE, Int.reduceGT, Nat.reduceEqDiff, Nat.reduceAdd, and_true, true_and, and_self, not_true_eq_false, not_false_eq_true, ne_eq, and_false, false_and, or_false, or_true, false_or, true_or, vx_some, eq_self, ↓reduceIte, ite_t1, ite_t2, ite_t3, le_T, le_F, lt_T, lt_F, ge_T, ge_F, gt_T, gt_F, eq_T, eq_F, w32_i, kd_1, kd_2, kd_3, kd_4, kd_5, kd_6, kd_7, kd_14, kd_15, kd_16, kd_29, kd_34, kd_56, kd_74, kd_75, kd_76, kd_77, kd_78, kd_79, kd_80, kd_81, kd_82, kd_83, kd_84, kd_85, kd_86, kd_87, kd_88, kd_89, kd_90, kd_91, kd_92, kd_93, kd_94, kd_95, kd_96, kd_97, kd_98, kd_99, kd_100, kd_101, kd_102, kd_103, kd_104, kd_105, kd_106, kd_107, kd_108]; done))
        | (refine Eq.trans (bnd (r := ?_) ?_) ?_; rotate_left 1; (focus (simp (disch := omega) only [cl, h8, Int.reduceLT, Int.reduceLE, Int.reduceEq, Int.reduceNe, Int.reduceNeg, Int.reduceAdd, Int.reduceSub, Int.reduceMul, Int.reduceGE, Int.reduceGT, Nat.reduceEqDiff, Nat.reduceAdd, and_true, true_and, and_self, not_true_eq_false, not_false_eq_true, ne_eq, and_false, false_and, or_false, or_true, false_or, true_or, vx_some, eq_self, ↓reduceIte, ite_t1, ite_t2, ite_t3, le_T, le_F, lt_T, lt_F, ge_T, ge_F, gt_T, gt_F, eq_T, eq_F, w32_i, kd_1, kd_2, kd_3, kd_4, kd_5, kd_6, kd_7, kd_14, kd_15, kd_16, kd_29, kd_34, kd_56, kd_74, kd_75, kd_76, kd_77, kd_78, kd_79, kd_80, kd_81, kd_82, kd_83, kd_84, kd_85, kd_86, kd_87, kd_88, kd_89, kd_90, kd_91, kd_92, kd_93, kd_94, kd_95, kd_96, kd_97, kd_98, kd_99, kd_100, kd_101, kd_102, kd_103, kd_104, kd_105, kd_106, kd_107, kd_108]; exact rfl)); simp only [vx_some])
      all_goals rfl
    · rw [if_neg k8]
      repeat first
        | (refine Eq.trans (if_pos ?_) ?_; · first | omega | (simp (disch := omega) only [cl, h8, Int.reduceLT, Int.reduceLE, Int.reduceEq, Int.reduceNe, Int.reduceNeg, Int.reduceAdd, Int.reduceSub, Int.reduceMul, Int.reduceGE, Int.reduceGT, Nat.reduceEqDiff, Nat.reduceAdd, and_true, true_and, and_self, not_true_eq_false, not_false_eq_true, ne_eq, and_false, false_and, or_false, or_true, false_or, true_or, vx_some, eq_self, ↓reduceIte, ite_t1, ite_t2, ite_t3, le_T, le_F, lt_T, lt_F, ge_T, ge_F, gt_T, gt_F, eq_T, eq_F, w32_i, kd_1, kd_2, kd_3, kd_4, kd_5, kd_6, kd_7, kd_14, kd_15, kd_16, kd_29, kd_34, kd_56, kd_74, kd_75, kd_76, kd_77, kd_78, kd_79, kd_80, kd_81, kd_82, kd_83, kd_84, kd_85, kd_86, kd_87, kd_88, kd_89, kd_90, kd_91, kd_92, kd_93, kd_94, kd_95, kd_96, kd_97, kd_98, kd_99, kd_100, kd_101, kd_102, kd_103, kd_104, kd_105, kd_106, kd_107, kd_108]; done))
        | (refine Eq.trans (if_neg ?_) ?_; · first | omega | (simp (disch := omega) only [cl, h8, Int.reduceLT, Int.reduceLE, Int.reduceEq, Int.reduceNe, Int.reduceNeg, Int.reduceAdd, Int.reduceSub, Int.reduceMul, Int.reduceGE, Int.reduceGT, Nat.reduceEqDiff, Nat.reduceAdd, and_true, true_and, and_self, not_true_eq_false, not_false_eq_true, ne_eq, and_false, false_and, or_false, or_true, false_or, true_or, vx_some, eq_self, ↓reduceIte, ite_t1, ite_t2, ite_t3, le_T, le_F, lt_T, lt_F, ge_T, ge_F, gt_T, gt_F, eq_T, eq_F, w32_i, kd_1, kd_2, kd_3, kd_4, kd_5, kd_6, kd_7, kd_14, kd_15, kd_16, kd_29, kd_34, kd_56, kd_74, kd_75, kd_76, kd_77, kd_78, kd_79, kd_80, kd_81, kd_82, kd_83, kd_84, kd_85, kd_86, kd_87, kd_88, kd_89, kd_90, kd_91, kd_92, kd_93, kd_94, kd_95, kd_96, kd_97, kd_98, kd_99, kd_100, kd_101, kd_102, kd_103, kd_104, kd_105, kd_106, kd_107, kd_108]; done))
        | (refine Eq.trans (bnd (r := ?_) ?_) ?_; rotate_left 1; (focus (simp (disch := omega) only [cl, h8, Int.reduceLT, Int.reduceLE, Int.reduceEq, Int.reduceNe, Int.reduceNeg, Int.reduceAdd, Int.reduceSub, Int.reduceMul, Int.reduceGE, Int.reduceGT, Nat.reduceEqDiff, Nat.reduceAdd, and_true, true_and, and_self, not_true_eq_false, not_false_eq_true, ne_eq, and_false, false_and, or_false, or_true, false_or, true_or, vx_some, eq_self, ↓reduceIte, ite_t1, ite_t2, ite_t3, le_T, le_F, lt_T, lt_F, ge_T, ge_F, gt_T, gt_F, eq_T, eq_F, w32_i, kd_1, kd_2, kd_3, kd_4, kd_5, kd_6, kd_7, kd_14, kd_15, kd_16, kd_29, kd_34, kd_56, kd_74, kd_75, kd_76, kd_77, kd_78, kd_79, kd_80, kd_81, kd_82, kd_83, kd_84, kd_85, kd_86, kd_87, kd_88, kd_89, kd_90, kd_91, kd_92, kd_93, kd_94, kd_95, kd_96, kd_97, kd_98, kd_99, kd_100, kd_101, kd_102, kd_103, kd_104, kd_105, kd_106, kd_107, kd_108]; exact rfl)); simp only [vx_some])
      all_goals rfl
  · clear W T cl
    generalize hr M (p + k) = c at *
    refine Eq.trans (e_X12_goOn_78 ..) ?_
    by_cases k8 : k ≤ 8
    · rw [if_pos k8]
      repeat first
        | (refine Eq.trans (if_pos ?_) ?_; · first | omega | (simp (disch := omega) only [he, il, Int.reduceLT, Int.reduceLE, Int.reduceEq, Int.reduceNe, Int.reduceNeg, Int.reduceAdd, Int.reduceSub, Int.reduceMul, Int.reduceGE, Int.reduceGT, Nat.reduceEqDiff, Nat.reduceAdd, and_true, true_and, and_self, not_true_eq_false, not_false_eq_true, ne_eq, and_false, false_and, or_false, or_true, false_or, true_or, vx_some, eq_self, ↓reduceIte, ite_t1, ite_t2, ite_t3, le_T, le_F, lt_T, lt_F, ge_T, ge_F, gt_T, gt_F, eq_T, eq_F, w32_i, kd_1, kd_2, kd_3, kd_4, kd_5, kd_6, kd_7, kd_14, kd_15, kd_16, kd_29, kd_34, kd_56, kd_74, kd_75, kd_76, kd_77, kd_78, kd_79, kd_80, kd_81, kd_82, kd_83, kd_84, kd_85, kd_86, kd_87, kd_88, kd_89, kd_90, kd_91, kd_92, kd_93, kd_94, kd_95, kd_96, kd_97, kd_98, kd_99, kd_100, kd_101, kd_102, kd_103, kd_104, kd_105, kd_106, kd_107, kd_108]; done))
        | (refine Eq.trans (if_neg ?_) ?_; · first | omega | (simp (disch := omega) only [he, il, Int.reduceLT, Int.reduceLE, Int.reduceEq, Int.reduceNe, Int.reduceNeg, Int.reduceAdd, Int.reduceSub, Int.reduceMul, Int.reduceGE, Int.reduceGT, Nat.reduceEqDiff, Nat.reduceAdd, and_true, true_and, and_self, not_true_eq_false, not_false_eq_true, ne_eq, and_false, false_and, or_false, or_true, false_or, true_or, vx_some, eq_self, ↓reduceIte, ite_t1, ite_t2, ite_t3, le_T, le_F, lt_T, lt_F, ge_T, ge_F, gt_T, gt_F, eq_T, eq_F, w32_i, kd_1, kd_2, kd_3, kd_4, kd_5, kd_6, kd_7, kd_14, kd_15, kd_16, kd_29, kd_34, kd_56, kd_74, kd_75, kd_76, kd_77, kd_78, kd_79, kd_80, kd_81, kd_82, kd_83, kd_84, kd_85, kd_86, kd_87, kd_88, kd_89, kd_90, kd_91, kd_92, kd_93, kd_94, kd_95, kd_96, kd_97, kd_98, kd_99, kd_100, kd_101, kd_102, kd_103, kd_104, kd_105, kd_106, kd_107, kd_108]; done))
        | (refine Eq.trans (bnd (r := ?_) ?_) ?_; rotate_left 1; (focus (simp (disch := omega) only [he, il, Int.reduceLT, Int.reduceLE, Int.reduceEq, Int.reduceNe, Int.reduceNeg, Int.reduceAdd, Int.reduceSub, Int.reduceMul, Int.reduceGE, Int.reduceGT, Nat.reduceEqDiff, Nat.reduceAdd, and_true, true_and, and_self, not_true_eq_false, not_false_eq_true, ne_eq, and_false, false_and, or_false, or_true, false_or, true_or, vx_some, eq_self, ↓reduceIte, ite_t1, ite_t2, ite_t3, le_T, le_F, lt_T, lt_F, ge_T, ge_F, gt_T, gt_F, eq_T, eq_F, w32_i, kd_1, kd_2, kd_3, kd_4, kd_5, kd_6, kd_7, kd_14, kd_15, kd_16, kd_29, kd_34, kd_56, kd_74, kd_75, kd_76, kd_77, kd_78, kd_79, kd_80, kd_81, kd_82, kd_83, kd_84, kd_85, kd_86, kd_87, kd_88, kd_89, kd_90, kd_91, kd_92, kd_93, kd_94, kd_95, kd_96, kd_97, kd_98, kd_99, kd_100, kd_101, kd_102, kd_103, kd_104, kd_105, kd_106, kd_107, kd_108]; exact rfl)); simp only [vx_some])
      all_goals simp only [e3, ew]
    · rw [if_neg k8]
      repeat first
        | (refine Eq.trans (if_pos ?_) ?_; · first | omega | (simp (disch := omega) only [he, il, Int.reduceLT, Int.reduceLE, Int.reduceEq, Int.reduceNe, Int.reduceNeg, Int.reduceAdd, Int.reduceSub, Int.reduceMul, Int.reduceGE, Int.reduceGT, Nat.reduceEqDiff, Nat.reduceAdd, and_true, true_and, and_self, not_true_eq_false, not_false_eq_true, ne_eq, and_false, false_and, or_false, or_true, false_or, true_or, vx_some, eq_self, ↓reduceIte, ite_t1, ite_t2, ite_t3, le_T, le_F, lt_T, lt_F, ge_T, ge_F, gt_T, gt_F, eq_T, eq_F, w32_i, kd_1, kd_2, kd_3, kd_4, kd_5, kd_6, kd_7, kd_14, kd_15, kd_16, kd_29, kd_34, kd_56, kd_74, kd_75, kd_76, kd_77, kd_78, kd_79, kd_80, kd_81, kd_82, kd_83, kd_84, kd_85, kd_86, kd_87, kd_88, kd_89, kd_90, kd_91, kd_92, kd_93, kd_94, kd_95, kd_96, kd_97, kd_98, kd_99, kd_100, kd_101, kd_102, kd_103, kd_104, kd_105, kd_106, kd_107, kd_108]; done))
        | (refine Eq.trans (if_neg ?_) ?_; · first | omega | (simp (disch := omega) only [he, il, Int.reduceLT, Int.reduceLE, Int.reduceEq, Int.reduceNe, Int.reduceNeg, Int.reduceAdd, Int.reduceSub, Int.reduceMul, Int.reduceGE, Int.reduceGT, Nat.reduceEqDiff, Nat.reduceAdd, and_true, true_and, and_self, not_true_eq_false, not_false_eq_true, ne_eq, and_false, false_and, or_false, or_true, false_or, true_or, vx_some, eq_self, ↓reduceIte, ite_t1, ite_t2, ite_t3, le_T, le_F, lt_T, lt_F, ge_T, ge_F, gt_T, gt_F, eq_T, eq_F, w32_i, kd_1, kd_2, kd_3, kd_4, kd_5, kd_6, kd_7, kd_14, kd_15, kd_16, kd_29, kd_34, kd_56, kd_74, kd_75, kd_76, kd_77, kd_78, kd_79, kd_80, kd_81, kd_82, kd_83, kd_84, kd_85, kd_86, kd_87, kd_88, kd_89, kd_90, kd_91, kd_92, kd_93, kd_94, kd_95, kd_96, kd_97, kd_98, kd_99, kd_100, kd_101, kd_102, kd_103, kd_104, kd_105, kd_106, kd_107, kd_108]; done))
        | (refine Eq.trans (bnd (r := ?_) ?_) ?_; rotate_left 1; (focus (simp (disch := omega) only [he, il, Int.reduceLT, Int.reduceLE, Int.reduceEq, Int.reduceNe, Int.reduceNeg, Int.reduceAdd, Int.reduceSub, Int.reduceMul, Int.reduceGE, Int.reduceGT, Nat.reduceEqDiff, Nat.reduceAdd, and_true, true_and, and_self, not_true_eq_false, not_false_eq_true, ne_eq, and_false, false_and, or_false, or_true, false_or, true_or, vx_some, eq_self, ↓reduceIte, ite_t1, ite_t2, ite_t3, le_T, le_F, lt_T, lt_F, ge_T, ge_F, gt_T, gt_F, eq_T, eq_F, w32_i, kd_1, kd_2, kd_3, kd_4, kd_5, kd_6, kd_7, kd_14, kd_15, kd_16, kd_29, kd_34, kd_56, kd_74, kd_75, kd_76, kd_77, kd_78, kd_79, kd_80, kd_81, kd_82, kd_83, kd_84, kd_85, kd_86, kd_87, kd_88, kd_89, kd_90, kd_91, kd_92, kd_93, kd_94, kd_95, kd_96, kd_97, kd_98, kd_99, kd_100, kd_101, kd_102, kd_103, kd_104, kd_105, kd_106, kd_107, kd_108]; exact rfl)); simp only [vx_some])
      all_goals simp only [e3, ew]
theorem wd_both : ∀ (r k : Nat) (p : Int) (m M : Mm) (z : Vl), TX m M → 0 ≤ p → p + k + r = M 88 2 → m 4 3 = p + k → m 4 8 = k → M 88 3 = p → WI m M k → ∃ (k' : Nat) (m' M' : Mm), (k ≤ k' ∧ p + k' ≤ M 88 2) ∧ vp 24 10 [(2, 4), z] [] (n, m) = vp 24 100 [(2, 4), (0, 0)] [] (n, m') ∧ vp 178 78 [(2, 88), (0, (k : Int))] [] (n, M) = some (none, (n, M')) ∧ FRl m m' ∧ FRg M M' ∧ (m' 4 3 = p + k' ∧ m' 4 8 = k' ∧ m' 4 5 = m 4 5 ∧ m' 4 9 = m 4 9) ∧ (M' 88 3 = p + k' ∧ M' 88 7 = k' ∧ M' 88 4 = M 88 4) ∧ isLt (hr M (p + k')) = 0 ∧ WI m' M' k' ∧ m' 4 4 = (if k' ≤ 8 then 3 else 4) ∧ M' 88 5 = (if k' ≤ 8 then 1 else 4) := by
  have fin : ∀ (k : Nat) (p : Int) (m M : Mm) (z : Vl), TX m M → 0 ≤ p → p + k ≤ M 88 2 → m 4 3 = p + k → m 4 8 = k → M 88 3 = p → WI m M k → isLt (hr M (p + k)) = 0 → ∃ (k' : Nat) (m' M' : Mm), (k ≤ k' ∧ p + k' ≤ M 88 2) ∧ vp 24 10 [(2, 4), z] [] (n, m) = vp 24 100 [(2, 4), (0, 0)] [] (n, m') ∧ vp 178 78 [(2, 88), (0, (k : Int))] [] (n, M) = some (none, (n, M')) ∧ FRl m m' ∧ FRg M M' ∧ (m' 4 3 = p + k' ∧ m' 4 8 = k' ∧ m' 4 5 = m 4 5 ∧ m' 4 9 = m 4 9) ∧ (M' 88 3 = p + k' ∧ M' 88 7 = k' ∧ M' 88 4 = M 88 4) ∧ isLt (hr M (p + k')) = 0 ∧ WI m' M' k' ∧ m' 4 4 = (if k' ≤ 8 then 3 else 4) ∧ M' 88 5 = (if k' ≤ 8 then 1 else 4) := by
    intro k p m M z T p0 pk h3 h8 g3 W hl
    obtain ⟨m', M', r1, r2, e1, e2⟩ := wd_end (n := n) (z := z) T p0 pk h3 h8 g3 W hl
    have f1 : ∀ q : Int, q ≠ 4 → m' 4 q = m 4 q := fun q hq => by rw [e1, stm_ap, if_neg (by omega)]
    have f2 : ∀ q : Int, q ≠ 3 → q ≠ 5 → q ≠ 7 → M' 88 q = M 88 q := fun q a b c => by rw [e2, stm_ap, if_neg (by omega), stm_ap, if_neg (by omega), stm_ap, if_neg (by omega)]
    refine ⟨k, m', M', by omega, r1, r2, ?_, ?_, ⟨by rw [f1 3 (by omega)]; exact h3, by rw [f1 8 (by omega)]; exact h8, f1 5 (by omega), f1 9 (by omega)⟩, ⟨by rw [e2, stm_same], by rw [e2, stm_ap, if_neg (by omega), stm_same], f2 4 (by omega) (by omega) (by omega)⟩, hl, ?_, by rw [e1, stm_same], by rw [e2, stm_ap, if_neg (by omega), stm_ap, if_neg (by omega), stm_same]⟩
    · intro o q h
      rw [e1, stm_ap, if_neg (by omega)]
    · intro o q h
      rw [e2, stm_ap, if_neg (by omega), stm_ap, if_neg (by omega), stm_ap, if_neg (by omega)]
    · unfold WI at W ⊢
      rw [f1 7 (by omega), f2 12 (by omega) (by omega) (by omega)]
      exact W
  intro r
  induction r with
  | zero =>
    intro k p m M z T p0 e h3 h8 g3 W
    refine fin k p m M z T p0 (by omega) h3 h8 g3 W ?_
    rw [show hr M (p + k) = -1 from if_neg (by omega)]
    rfl
  | succ r ih =>
    intro k p m M z T p0 e h3 h8 g3 W
    rcases isLt_01 (hr M (p + k)) with hl | hl
    · exact fin k p m M z T p0 (by omega) h3 h8 g3 W hl
    · have t1 := T.2.1
      have t2 := T.2.2.1
      have t3 := T.2.2.2.1
      have cl := c_isLt (n := n) T h3 (by omega)
      rw [hl] at cl
      have he := p_here (n := n) T.1.2 (k := (k : Int)) (by omega) (by omega) t3.2
      rw [g3] at he
      have il := p_isLt (hr M (p + k)) (n, M)
      rw [hl] at il
      have l1 := isLt_1 hl
      have hi := hr_in (M := M) (q := p + k) (by omega)
      have bt := T.bt (p := p + k) (by omega) hi.1
      have ek : w32 ((k : Int) + 1) = (k : Int) + 1 := w32_i (by omega) (by omega)
      have epk : w32 (p + (k : Int) + 1) = p + (k : Int) + 1 := w32_i (by omega) (by omega)
      by_cases k8 : k < 8
      · obtain ⟨W1, W2, W3, W4⟩ : k ≤ 8 ∧ M 88 12 = CV (m 4 7) ∧ 0 ≤ m 4 7 ∧ m 4 7 < p32 k := by
          rcases W with W | W
          · exact W
          · omega
        have pl : p32 k ≤ 34359738368 := by
          have : ∀ a : Nat, a < 8 → p32 a ≤ 34359738368 := by decide +kernel
          exact this k k8
        have ca := CV_add (w := m 4 7) (d := hr M (p + k) - 96) W3 (by omega) (by omega) (by omega)
        have cw := c_letter (w := m 4 7) (c := hr M (p + k)) W3 (by omega) l1.1 l1.2 (n, m)
        have ls : lbor (lbshl (M 88 12) 8) (hr M (p + k)) = 256 * CV (m 4 7) + hr M (p + k) := by
          rw [W2]
          exact lsh8 ca.2.1 (by omega) (by omega) (by omega)
        have b2 : m 2 (p + k) = hr M (p + k) := by omega
        have st1 : vp 24 10 [(2, 4), z] [] (n, m) = vp 24 10 [(2, 4), (9, 0)] [] (n, stm (stm (stm m 4 7 (32 * m 4 7 + (hr M (p + k) - 96))) 4 8 ((k : Int) + 1)) 4 3 (p + (k : Int) + 1)) := by
          clear ih fin W he il ls ca T
          generalize hr M (p + k) = c at *
          generalize M 88 2 = N at *
          have x8 : ∀ v : Int, stm m 4 7 v 4 8 = (k : Int) := fun v => by rw [stm_ap, if_neg (by omega)]; exact h8
          have x3 : ∀ v w : Int, stm (stm m 4 7 v) 4 8 w 4 3 = p + (k : Int) := fun v w => by rw [stm_ap, if_neg (by omega), stm_ap, if_neg (by omega)]; exact h3
          refine Eq.trans (e_X3_readWord_10 ..) ?_
          repeat first
            | (refine Eq.trans (if_pos ?_) ?_; · first | omega | (simp (disch := omega) only [cl, h3, t2, h8, t1, b2, cw, Int.reduceLT, Int.reduceLE, Int.reduceEq, Int.reduceNe, Int.reduceNeg, Int.reduceAdd, Int.reduceSub, Int.reduceMul, Int.reduceGE, Int.reduceGT, Nat.reduceEqDiff, Nat.reduceAdd, and_true, true_and, and_self, not_true_eq_false, not_false_eq_true, ne_eq, and_false, false_and, or_false, or_true, false_or, true_or, vx_some, eq_self, ↓reduceIte, ite_t1, ite_t2, ite_t3, le_T, le_F, lt_T, lt_F, ge_T, ge_F, gt_T, gt_F, eq_T, eq_F, w32_i, kd_1, kd_2, kd_3, kd_4, kd_5, kd_6, kd_7, kd_14, kd_15, kd_16, kd_29, kd_34, kd_56, kd_74, kd_75, kd_76, kd_77, kd_78, kd_79, kd_80, kd_81, kd_82, kd_83, kd_84, kd_85, kd_86, kd_87, kd_88, kd_89, kd_90, kd_91, kd_92, kd_93, kd_94, kd_95, kd_96, kd_97, kd_98, kd_99, kd_100, kd_101, kd_102, kd_103, kd_104, kd_105, kd_106, kd_107, kd_108]; done))
            | (refine Eq.trans (if_neg ?_) ?_; · first | omega | (simp (disch := omega) only [cl, h3, t2, h8, t1, b2, cw, Int.reduceLT, Int.reduceLE, Int.reduceEq, Int.reduceNe, Int.reduceNeg, Int.reduceAdd, Int.reduceSub, Int.reduceMul, Int.reduceGE, Int.reduceGT, Nat.reduceEqDiff, Nat.reduceAdd, and_true, true_and, and_self, not_true_eq_false, not_false_eq_true, ne_eq, and_false, false_and, or_false, or_true, false_or, true_or, vx_some, eq_self, ↓reduceIte, ite_t1, ite_t2, ite_t3, le_T, le_F, lt_T, lt_F, ge_T, ge_F, gt_T, gt_F, eq_T, eq_F, w32_i, kd_1, kd_2, kd_3, kd_4, kd_5, kd_6, kd_7, kd_14, kd_15, kd_16, kd_29, kd_34, kd_56, kd_74, kd_75, kd_76, kd_77, kd_78, kd_79, kd_80, kd_81, kd_82, kd_83, kd_84, kd_85, kd_86, kd_87, kd_88, kd_89, kd_90, kd_91, kd_92, kd_93, kd_94, kd_95, kd_96, kd_97, kd_98, kd_99, kd_100, kd_101, kd_102, kd_103, kd_104, kd_105, kd_106, kd_107, kd_108]; done))
            | (refine Eq.trans (bnd (r := ?_) ?_) ?_; rotate_left 1; (focus (simp (disch := omega) only [cl, h3, t2, h8, t1, b2, cw, Int.reduceLT, Int.reduceLE, Int.reduceEq, Int.reduceNe, Int.reduceNeg, Int.reduceAdd, Int.reduceSub, Int.reduceMul, Int.reduceGE, Int.reduceGT, Nat.reduceEqDiff, Nat.reduceAdd, and_true, true_and, and_self, not_true_eq_false, not_false_eq_true, ne_eq, and_false, false_and, or_false, or_true, false_or, true_or, vx_some, eq_self, ↓reduceIte, ite_t1, ite_t2, ite_t3, le_T, le_F, lt_T, lt_F, ge_T, ge_F, gt_T, gt_F, eq_T, eq_F, w32_i, kd_1, kd_2, kd_3, kd_4, kd_5, kd_6, kd_7, kd_14, kd_15, kd_16, kd_29, kd_34, kd_56, kd_74, kd_75, kd_76, kd_77, kd_78, kd_79, kd_80, kd_81, kd_82, kd_83, kd_84, kd_85, kd_86, kd_87, kd_88, kd_89, kd_90, kd_91, kd_92, kd_93, kd_94, kd_95, kd_96, kd_97, kd_98, kd_99, kd_100, kd_101, kd_102, kd_103, kd_104, kd_105, kd_106, kd_107, kd_108]; exact rfl)); simp only [vx_some])
          all_goals simp only [x8, x3, ek, epk]
        have st2 : vp 178 78 [(2, 88), (0, (k : Int))] [] (n, M) = vp 178 78 [(2, 88), (0, (k : Int) + 1)] [] (n, stm M 88 12 (256 * CV (m 4 7) + hr M (p + k))) := by
          clear ih fin W cl cw ca T
          generalize hr M (p + k) = c at *
          refine Eq.trans (e_X12_goOn_78 ..) ?_
          repeat first
            | (refine Eq.trans (if_pos ?_) ?_; · first | omega | (simp (disch := omega) only [he, il, Int.reduceLT, Int.reduceLE, Int.reduceEq, Int.reduceNe, Int.reduceNeg, Int.reduceAdd, Int.reduceSub, Int.reduceMul, Int.reduceGE, Int.reduceGT, Nat.reduceEqDiff, Nat.reduceAdd, and_true, true_and, and_self, not_true_eq_false, not_false_eq_true, ne_eq, and_false, false_and, or_false, or_true, false_or, true_or, vx_some, eq_self, ↓reduceIte, ite_t1, ite_t2, ite_t3, le_T, le_F, lt_T, lt_F, ge_T, ge_F, gt_T, gt_F, eq_T, eq_F, w32_i, kd_1, kd_2, kd_3, kd_4, kd_5, kd_6, kd_7, kd_14, kd_15, kd_16, kd_29, kd_34, kd_56, kd_74, kd_75, kd_76, kd_77, kd_78, kd_79, kd_80, kd_81, kd_82, kd_83, kd_84, kd_85, kd_86, kd_87, kd_88, kd_89, kd_90, kd_91, kd_92, kd_93, kd_94, kd_95, kd_96, kd_97, kd_98, kd_99, kd_100, kd_101, kd_102, kd_103, kd_104, kd_105, kd_106, kd_107, kd_108]; done))
            | (refine Eq.trans (if_neg ?_) ?_; · first | omega | (simp (disch := omega) only [he, il, Int.reduceLT, Int.reduceLE, Int.reduceEq, Int.reduceNe, Int.reduceNeg, Int.reduceAdd, Int.reduceSub, Int.reduceMul, Int.reduceGE, Int.reduceGT, Nat.reduceEqDiff, Nat.reduceAdd, and_true, true_and, and_self, not_true_eq_false, not_false_eq_true, ne_eq, and_false, false_and, or_false, or_true, false_or, true_or, vx_some, eq_self, ↓reduceIte, ite_t1, ite_t2, ite_t3, le_T, le_F, lt_T, lt_F, ge_T, ge_F, gt_T, gt_F, eq_T, eq_F, w32_i, kd_1, kd_2, kd_3, kd_4, kd_5, kd_6, kd_7, kd_14, kd_15, kd_16, kd_29, kd_34, kd_56, kd_74, kd_75, kd_76, kd_77, kd_78, kd_79, kd_80, kd_81, kd_82, kd_83, kd_84, kd_85, kd_86, kd_87, kd_88, kd_89, kd_90, kd_91, kd_92, kd_93, kd_94, kd_95, kd_96, kd_97, kd_98, kd_99, kd_100, kd_101, kd_102, kd_103, kd_104, kd_105, kd_106, kd_107, kd_108]; done))
            | (refine Eq.trans (bnd (r := ?_) ?_) ?_; rotate_left 1; (focus (simp (disch := omega) only [he, il, Int.reduceLT, Int.reduceLE, Int.reduceEq, Int.reduceNe, Int.reduceNeg, Int.reduceAdd, Int.reduceSub, Int.reduceMul, Int.reduceGE, Int.reduceGT, Nat.reduceEqDiff, Nat.reduceAdd, and_true, true_and, and_self, not_true_eq_false, not_false_eq_true, ne_eq, and_false, false_and, or_false, or_true, false_or, true_or, vx_some, eq_self, ↓reduceIte, ite_t1, ite_t2, ite_t3, le_T, le_F, lt_T, lt_F, ge_T, ge_F, gt_T, gt_F, eq_T, eq_F, w32_i, kd_1, kd_2, kd_3, kd_4, kd_5, kd_6, kd_7, kd_14, kd_15, kd_16, kd_29, kd_34, kd_56, kd_74, kd_75, kd_76, kd_77, kd_78, kd_79, kd_80, kd_81, kd_82, kd_83, kd_84, kd_85, kd_86, kd_87, kd_88, kd_89, kd_90, kd_91, kd_92, kd_93, kd_94, kd_95, kd_96, kd_97, kd_98, kd_99, kd_100, kd_101, kd_102, kd_103, kd_104, kd_105, kd_106, kd_107, kd_108]; exact rfl)); simp only [vx_some])
          all_goals rw [ls, ek]
        have fr1 : FRl m (stm (stm (stm m 4 7 (32 * m 4 7 + (hr M (p + k) - 96))) 4 8 ((k : Int) + 1)) 4 3 (p + (k : Int) + 1)) := fun o q h => by rw [stm_ap, if_neg (by omega), stm_ap, if_neg (by omega), stm_ap, if_neg (by omega)]
        have fr2 : FRg M (stm M 88 12 (256 * CV (m 4 7) + hr M (p + k))) := fun o q h => by rw [stm_ap, if_neg (by omega)]
        have y7 : (stm (stm (stm m 4 7 (32 * m 4 7 + (hr M (p + k) - 96))) 4 8 ((k : Int) + 1)) 4 3 (p + (k : Int) + 1)) 4 7 = 32 * m 4 7 + (hr M (p + k) - 96) := by rw [stm_ap, if_neg (by omega), stm_ap, if_neg (by omega), stm_same]
        have y12 : (stm M 88 12 (256 * CV (m 4 7) + hr M (p + k))) 88 12 = 256 * CV (m 4 7) + hr M (p + k) := stm_same _ _ _ _
        obtain ⟨k', m', M', a1, a2, a3, a4, a5, a6, a7, a8, a9⟩ := ih (k + 1) p _ _ (9, 0) (T.fr fr1 fr2) p0 (by rw [fr2 88 2 (by omega)]; omega) (by rw [stm_same]; omega) (by rw [stm_ap, if_neg (by omega), stm_same]; omega) (by rw [stm_ap, if_neg (by omega)]; exact g3) (Or.inl ⟨by omega, by rw [y7, y12, ca.1]; omega, by rw [y7]; omega, by rw [y7, p32_s]; omega⟩)
        rw [fr2 88 2 (by omega)] at a1
        rw [hr_fr fr2] at a8
        refine ⟨k', m', M', by omega, by rw [st1]; exact a2, by rw [st2]; exact a3, fr1.tr a4, fr2.tr a5, ⟨a6.1, a6.2.1, ?_, ?_⟩, ⟨a7.1, a7.2.1, ?_⟩, a8, a9⟩
        · rw [a6.2.2.1, stm_ap, if_neg (by omega), stm_ap, if_neg (by omega), stm_ap, if_neg (by omega)]
        · rw [a6.2.2.2, stm_ap, if_neg (by omega), stm_ap, if_neg (by omega), stm_ap, if_neg (by omega)]
        · rw [a7.2.2, stm_ap, if_neg (by omega)]
      · have st1 : vp 24 10 [(2, 4), z] [] (n, m) = vp 24 10 [(2, 4), (9, 0)] [] (n, stm (stm m 4 8 ((k : Int) + 1)) 4 3 (p + (k : Int) + 1)) := by
          clear ih fin W he il T
          generalize hr M (p + k) = c at *
          generalize M 88 2 = N at *
          have x3 : ∀ w : Int, stm m 4 8 w 4 3 = p + (k : Int) := fun w => by rw [stm_ap, if_neg (by omega)]; exact h3
          refine Eq.trans (e_X3_readWord_10 ..) ?_
          repeat first
            | (refine Eq.trans (if_pos ?_) ?_; · first | omega | (simp (disch := omega) only [cl, h3, t2, h8, t1, Int.reduceLT, Int.reduceLE, Int.reduceEq, Int.reduceNe, Int.reduceNeg, Int.reduceAdd, Int.reduceSub, Int.reduceMul, Int.reduceGE, Int.reduceGT, Nat.reduceEqDiff, Nat.reduceAdd, and_true, true_and, and_self, not_true_eq_false, not_false_eq_true, ne_eq, and_false, false_and, or_false, or_true, false_or, true_or, vx_some, eq_self, ↓reduceIte, ite_t1, ite_t2, ite_t3, le_T, le_F, lt_T, lt_F, ge_T, ge_F, gt_T, gt_F, eq_T, eq_F, w32_i, kd_1, kd_2, kd_3, kd_4, kd_5, kd_6, kd_7, kd_14, kd_15, kd_16, kd_29, kd_34, kd_56, kd_74, kd_75, kd_76, kd_77, kd_78, kd_79, kd_80, kd_81, kd_82, kd_83, kd_84, kd_85, kd_86, kd_87, kd_88, kd_89, kd_90, kd_91, kd_92, kd_93, kd_94, kd_95, kd_96, kd_97, kd_98, kd_99, kd_100, kd_101, kd_102, kd_103, kd_104, kd_105, kd_106, kd_107, kd_108]; done))
            | (refine Eq.trans (if_neg ?_) ?_; · first | omega | (simp (disch := omega) only [cl, h3, t2, h8, t1, Int.reduceLT, Int.reduceLE, Int.reduceEq, Int.reduceNe, Int.reduceNeg, Int.reduceAdd, Int.reduceSub, Int.reduceMul, Int.reduceGE, Int.reduceGT, Nat.reduceEqDiff, Nat.reduceAdd, and_true, true_and, and_self, not_true_eq_false, not_false_eq_true, ne_eq, and_false, false_and, or_false, or_true, false_or, true_or, vx_some, eq_self, ↓reduceIte, ite_t1, ite_t2, ite_t3, le_T, le_F, lt_T, lt_F, ge_T, ge_F, gt_T, gt_F, eq_T, eq_F, w32_i, kd_1, kd_2, kd_3, kd_4, kd_5, kd_6, kd_7, kd_14, kd_15, kd_16, kd_29, kd_34, kd_56, kd_74, kd_75, kd_76, kd_77, kd_78, kd_79, kd_80, kd_81, kd_82, kd_83, kd_84, kd_85, kd_86, kd_87, kd_88, kd_89, kd_90, kd_91, kd_92, kd_93, kd_94, kd_95, kd_96, kd_97, kd_98, kd_99, kd_100, kd_101, kd_102, kd_103, kd_104, kd_105, kd_106, kd_107, kd_108]; done))
            | (refine Eq.trans (bnd (r := ?_) ?_) ?_; rotate_left 1; (focus (simp (disch := omega) only [cl, h3, t2, h8, t1, Int.reduceLT, Int.reduceLE, Int.reduceEq, Int.reduceNe, Int.reduceNeg, Int.reduceAdd, Int.reduceSub, Int.reduceMul, Int.reduceGE, Int.reduceGT, Nat.reduceEqDiff, Nat.reduceAdd, and_true, true_and, and_self, not_true_eq_false, not_false_eq_true, ne_eq, and_false, false_and, or_false, or_true, false_or, true_or, vx_some, eq_self, ↓reduceIte, ite_t1, ite_t2, ite_t3, le_T, le_F, lt_T, lt_F, ge_T, ge_F, gt_T, gt_F, eq_T, eq_F, w32_i, kd_1, kd_2, kd_3, kd_4, kd_5, kd_6, kd_7, kd_14, kd_15, kd_16, kd_29, kd_34, kd_56, kd_74, kd_75, kd_76, kd_77, kd_78, kd_79, kd_80, kd_81, kd_82, kd_83, kd_84, kd_85, kd_86, kd_87, kd_88, kd_89, kd_90, kd_91, kd_92, kd_93, kd_94, kd_95, kd_96, kd_97, kd_98, kd_99, kd_100, kd_101, kd_102, kd_103, kd_104, kd_105, kd_106, kd_107, kd_108]; exact rfl)); simp only [vx_some])
          all_goals simp only [h8, x3, ek, epk]
        have st2 : vp 178 78 [(2, 88), (0, (k : Int))] [] (n, M) = vp 178 78 [(2, 88), (0, (k : Int) + 1)] [] (n, M) := by
          clear ih fin W cl T
          generalize hr M (p + k) = c at *
          refine Eq.trans (e_X12_goOn_78 ..) ?_
          repeat first
            | (refine Eq.trans (if_pos ?_) ?_; · first | omega | (simp (disch := omega) only [he, il, Int.reduceLT, Int.reduceLE, Int.reduceEq, Int.reduceNe, Int.reduceNeg, Int.reduceAdd, Int.reduceSub, Int.reduceMul, Int.reduceGE, Int.reduceGT, Nat.reduceEqDiff, Nat.reduceAdd, and_true, true_and, and_self, not_true_eq_false, not_false_eq_true, ne_eq, and_false, false_and, or_false, or_true, false_or, true_or, vx_some, eq_self, ↓reduceIte, ite_t1, ite_t2, ite_t3, le_T, le_F, lt_T, lt_F, ge_T, ge_F, gt_T, gt_F, eq_T, eq_F, w32_i, kd_1, kd_2, kd_3, kd_4, kd_5, kd_6, kd_7, kd_14, kd_15, kd_16, kd_29, kd_34, kd_56, kd_74, kd_75, kd_76, kd_77, kd_78, kd_79, kd_80, kd_81, kd_82, kd_83, kd_84, kd_85, kd_86, kd_87, kd_88, kd_89, kd_90, kd_91, kd_92, kd_93, kd_94, kd_95, kd_96, kd_97, kd_98, kd_99, kd_100, kd_101, kd_102, kd_103, kd_104, kd_105, kd_106, kd_107, kd_108]; done))
            | (refine Eq.trans (if_neg ?_) ?_; · first | omega | (simp (disch := omega) only [he, il, Int.reduceLT, Int.reduceLE, Int.reduceEq, Int.reduceNe, Int.reduceNeg, Int.reduceAdd, Int.reduceSub, Int.reduceMul, Int.reduceGE, Int.reduceGT, Nat.reduceEqDiff, Nat.reduceAdd, and_true, true_and, and_self, not_true_eq_false, not_false_eq_true, ne_eq, and_false, false_and, or_false, or_true, false_or, true_or, vx_some, eq_self, ↓reduceIte, ite_t1, ite_t2, ite_t3, le_T, le_F, lt_T, lt_F, ge_T, ge_F, gt_T, gt_F, eq_T, eq_F, w32_i, kd_1, kd_2, kd_3, kd_4, kd_5, kd_6, kd_7, kd_14, kd_15, kd_16, kd_29, kd_34, kd_56, kd_74, kd_75, kd_76, kd_77, kd_78, kd_79, kd_80, kd_81, kd_82, kd_83, kd_84, kd_85, kd_86, kd_87, kd_88, kd_89, kd_90, kd_91, kd_92, kd_93, kd_94, kd_95, kd_96, kd_97, kd_98, kd_99, kd_100, kd_101, kd_102, kd_103, kd_104, kd_105, kd_106, kd_107, kd_108]; done))
            | (refine Eq.trans (bnd (r := ?_) ?_) ?_; rotate_left 1; (focus (simp (disch := omega) only [he, il, Int.reduceLT, Int.reduceLE, Int.reduceEq, Int.reduceNe, Int.reduceNeg, Int.reduceAdd, Int.reduceSub, Int.reduceMul, Int.reduceGE, Int.reduceGT, Nat.reduceEqDiff, Nat.reduceAdd, and_true, true_and, and_self, not_true_eq_false, not_false_eq_true, ne_eq, and_false, false_and, or_false, or_true, false_or, true_or, vx_some, eq_self, ↓reduceIte, ite_t1, ite_t2, ite_t3, le_T, le_F, lt_T, lt_F, ge_T, ge_F, gt_T, gt_F, eq_T, eq_F, w32_i, kd_1, kd_2, kd_3, kd_4, kd_5, kd_6, kd_7, kd_14, kd_15, kd_16, kd_29, kd_34, kd_56, kd_74, kd_75, kd_76, kd_77, kd_78, kd_79, kd_80, kd_81, kd_82, kd_83, kd_84, kd_85, kd_86, kd_87, kd_88, kd_89, kd_90, kd_91, kd_92, kd_93, kd_94, kd_95, kd_96, kd_97, kd_98, kd_99, kd_100, kd_101, kd_102, kd_103, kd_104, kd_105, kd_106, kd_107, kd_108]; exact rfl)); simp only [vx_some])
          all_goals rw [ek]
        have fr1 : FRl m (stm (stm m 4 8 ((k : Int) + 1)) 4 3 (p + (k : Int) + 1)) := fun o q h => by rw [stm_ap, if_neg (by omega), stm_ap, if_neg (by omega)]
        obtain ⟨k', m', M', a1, a2, a3, a4, a5, a6, a7, a8, a9⟩ := ih (k + 1) p _ M (9, 0) (T.fr fr1 (FRg.rf M)) p0 (by omega) (by rw [stm_same]; omega) (by rw [stm_ap, if_neg (by omega), stm_same]; omega) g3 (Or.inr (by omega))
        refine ⟨k', m', M', by omega, by rw [st1]; exact a2, by rw [st2]; exact a3, fr1.tr a4, a5, ⟨a6.1, a6.2.1, ?_, ?_⟩, a7, a8, a9⟩
        · rw [a6.2.2.1, stm_ap, if_neg (by omega), stm_ap, if_neg (by omega)]
        · rw [a6.2.2.2, stm_ap, if_neg (by omega), stm_ap, if_neg (by omega)]
/-- which word of the vocabulary -/
def KWj (w k j : Int) : Prop := (j = -1 ∧ ∀ i : Int, 0 ≤ i → i < k → voc i ≠ w) ∨ ((0 ≤ j ∧ j < 28) ∧ voc j = w)
theorem kw100 : ∀ (r : Nat) (k : Int) (m : Mm), k + r = 28 → 0 ≤ k → FX m → m 4 4 = 3 → KWj (m 4 7) k (m 4 9) → ∃ m', vp 24 100 [(2, 4), (0, k)] [] (n, m) = some (none, (n, m')) ∧ (∀ o q : Int, ¬ (o = 4 ∧ q = 9) → m' o q = m o q) ∧ KWj (m 4 7) 28 (m' 4 9) := by
  intro r
  induction r with
  | zero =>
    intro k m e k0 F h4 K
    refine ⟨m, ?_, fun _ _ _ => rfl, ?_⟩
    · rw [e_X3_readWord_100, if_pos (by omega)]
    · rw [show k = 28 by omega] at K
      exact K
  | succ r ih =>
    intro k m e k0 F h4 K
    have c0 := F.c4_0
    have vk := F.voc k0 (show k < 28 by omega)
    have ek : w32 (k + 1) = k + 1 := w32_i (by omega) (by omega)
    by_cases z : voc k = m 4 7
    · have g : ∀ o q : Int, ¬ (o = 4 ∧ q = 9) → stm m 4 9 k o q = m o q := fun o q h => by rw [stm_ap, if_neg h]
      obtain ⟨m', a1, a2, a3⟩ := ih (k + 1) (stm m 4 9 k) (by omega) (by omega) (F.fr (fun c q h => g c q (by unfold FXP at h; omega))) (by rw [g 4 4 (by omega)]; exact h4) (by rw [stm_same]; exact Or.inr ⟨by omega, by rw [g 4 7 (by omega)]; exact z⟩)
      rw [g 4 7 (by omega)] at a3
      refine ⟨m', ?_, fun o q h => (a2 o q h).trans (g o q h), a3⟩
      rw [← a1]
      have lc := lc_e z
      refine Eq.trans (e_X3_readWord_100 ..) ?_
      clear a1 a2 a3 ih F K
      generalize voc k = v at *
      repeat first
        | (refine Eq.trans (if_pos ?_) ?_; · first | omega | assumption | (simp (disch := omega) only [h4, c0, vk, lc, Int.reduceLT, Int.reduceLE, Int.reduceEq, Int.reduceNe, Int.reduceNeg, Int.reduceAdd, Int.reduceSub, Int.reduceMul, Int.reduceGE, Int.reduceGT, Nat.reduceEqDiff, Nat.reduceAdd, and_true, true_and, and_self, not_true_eq_false, not_false_eq_true, ne_eq, and_false, false_and, or_false, or_true, false_or, true_or, vx_some, eq_self, ↓reduceIte, ite_t1, ite_t2, ite_t3, le_T, le_F, lt_T, lt_F, ge_T, ge_F, gt_T, gt_F, eq_T, eq_F, w32_i, kd_1, kd_2, kd_3, kd_4, kd_5, kd_6, kd_7, kd_14, kd_15, kd_16, kd_29, kd_34, kd_56, kd_74, kd_75, kd_76, kd_77, kd_78, kd_79, kd_80, kd_81, kd_82, kd_83, kd_84, kd_85, kd_86, kd_87, kd_88, kd_89, kd_90, kd_91, kd_92, kd_93, kd_94, kd_95, kd_96, kd_97, kd_98, kd_99, kd_100, kd_101, kd_102, kd_103, kd_104, kd_105, kd_106, kd_107, kd_108]; done))
        | (refine Eq.trans (if_neg ?_) ?_; · first | omega | assumption | (simp (disch := omega) only [h4, c0, vk, lc, Int.reduceLT, Int.reduceLE, Int.reduceEq, Int.reduceNe, Int.reduceNeg, Int.reduceAdd, Int.reduceSub, Int.reduceMul, Int.reduceGE, Int.reduceGT, Nat.reduceEqDiff, Nat.reduceAdd, and_true, true_and, and_self, not_true_eq_false, not_false_eq_true, ne_eq, and_false, false_and, or_false, or_true, false_or, true_or, vx_some, eq_self, ↓reduceIte, ite_t1, ite_t2, ite_t3, le_T, le_F, lt_T, lt_F, ge_T, ge_F, gt_T, gt_F, eq_T, eq_F, w32_i, kd_1, kd_2, kd_3, kd_4, kd_5, kd_6, kd_7, kd_14, kd_15, kd_16, kd_29, kd_34, kd_56, kd_74, kd_75, kd_76, kd_77, kd_78, kd_79, kd_80, kd_81, kd_82, kd_83, kd_84, kd_85, kd_86, kd_87, kd_88, kd_89, kd_90, kd_91, kd_92, kd_93, kd_94, kd_95, kd_96, kd_97, kd_98, kd_99, kd_100, kd_101, kd_102, kd_103, kd_104, kd_105, kd_106, kd_107, kd_108]; done))
        | (refine Eq.trans (bnd (r := ?_) ?_) ?_; rotate_left 1; (focus (simp (disch := omega) only [h4, c0, vk, lc, Int.reduceLT, Int.reduceLE, Int.reduceEq, Int.reduceNe, Int.reduceNeg, Int.reduceAdd, Int.reduceSub, Int.reduceMul, Int.reduceGE, Int.reduceGT, Nat.reduceEqDiff, Nat.reduceAdd, and_true, true_and, and_self, not_true_eq_false, not_false_eq_true, ne_eq, and_false, false_and, or_false, or_true, false_or, true_or, vx_some, eq_self, ↓reduceIte, ite_t1, ite_t2, ite_t3, le_T, le_F, lt_T, lt_F, ge_T, ge_F, gt_T, gt_F, eq_T, eq_F, w32_i, kd_1, kd_2, kd_3, kd_4, kd_5, kd_6, kd_7, kd_14, kd_15, kd_16, kd_29, kd_34, kd_56, kd_74, kd_75, kd_76, kd_77, kd_78, kd_79, kd_80, kd_81, kd_82, kd_83, kd_84, kd_85, kd_86, kd_87, kd_88, kd_89, kd_90, kd_91, kd_92, kd_93, kd_94, kd_95, kd_96, kd_97, kd_98, kd_99, kd_100, kd_101, kd_102, kd_103, kd_104, kd_105, kd_106, kd_107, kd_108]; exact rfl)); simp only [vx_some])
      all_goals rw [ek]
    · obtain ⟨m', a1, a2, a3⟩ := ih (k + 1) m (by omega) (by omega) F h4 (by
        rcases K with ⟨a, b⟩ | K
        · refine Or.inl ⟨a, fun i i0 i1 => ?_⟩
          by_cases y : i = k
          · rw [y]
            exact z
          · exact b i i0 (by omega)
        · exact Or.inr K)
      refine ⟨m', ?_, a2, a3⟩
      rw [← a1]
      have lc := lc_n z
      refine Eq.trans (e_X3_readWord_100 ..) ?_
      clear a1 a2 a3 ih F K
      generalize voc k = v at *
      repeat first
        | (refine Eq.trans (if_pos ?_) ?_; · first | omega | assumption | (simp (disch := omega) only [h4, c0, vk, lc, Int.reduceLT, Int.reduceLE, Int.reduceEq, Int.reduceNe, Int.reduceNeg, Int.reduceAdd, Int.reduceSub, Int.reduceMul, Int.reduceGE, Int.reduceGT, Nat.reduceEqDiff, Nat.reduceAdd, and_true, true_and, and_self, not_true_eq_false, not_false_eq_true, ne_eq, and_false, false_and, or_false, or_true, false_or, true_or, vx_some, eq_self, ↓reduceIte, ite_t1, ite_t2, ite_t3, le_T, le_F, lt_T, lt_F, ge_T, ge_F, gt_T, gt_F, eq_T, eq_F, w32_i, kd_1, kd_2, kd_3, kd_4, kd_5, kd_6, kd_7, kd_14, kd_15, kd_16, kd_29, kd_34, kd_56, kd_74, kd_75, kd_76, kd_77, kd_78, kd_79, kd_80, kd_81, kd_82, kd_83, kd_84, kd_85, kd_86, kd_87, kd_88, kd_89, kd_90, kd_91, kd_92, kd_93, kd_94, kd_95, kd_96, kd_97, kd_98, kd_99, kd_100, kd_101, kd_102, kd_103, kd_104, kd_105, kd_106, kd_107, kd_108]; done))
        | (refine Eq.trans (if_neg ?_) ?_; · first | omega | assumption | (simp (disch := omega) only [h4, c0, vk, lc, Int.reduceLT, Int.reduceLE, Int.reduceEq, Int.reduceNe, Int.reduceNeg, Int.reduceAdd, Int.reduceSub, Int.reduceMul, Int.reduceGE, Int.reduceGT, Nat.reduceEqDiff, Nat.reduceAdd, and_true, true_and, and_self, not_true_eq_false, not_false_eq_true, ne_eq, and_false, false_and, or_false, or_true, false_or, true_or, vx_some, eq_self, ↓reduceIte, ite_t1, ite_t2, ite_t3, le_T, le_F, lt_T, lt_F, ge_T, ge_F, gt_T, gt_F, eq_T, eq_F, w32_i, kd_1, kd_2, kd_3, kd_4, kd_5, kd_6, kd_7, kd_14, kd_15, kd_16, kd_29, kd_34, kd_56, kd_74, kd_75, kd_76, kd_77, kd_78, kd_79, kd_80, kd_81, kd_82, kd_83, kd_84, kd_85, kd_86, kd_87, kd_88, kd_89, kd_90, kd_91, kd_92, kd_93, kd_94, kd_95, kd_96, kd_97, kd_98, kd_99, kd_100, kd_101, kd_102, kd_103, kd_104, kd_105, kd_106, kd_107, kd_108]; done))
        | (refine Eq.trans (bnd (r := ?_) ?_) ?_; rotate_left 1; (focus (simp (disch := omega) only [h4, c0, vk, lc, Int.reduceLT, Int.reduceLE, Int.reduceEq, Int.reduceNe, Int.reduceNeg, Int.reduceAdd, Int.reduceSub, Int.reduceMul, Int.reduceGE, Int.reduceGT, Nat.reduceEqDiff, Nat.reduceAdd, and_true, true_and, and_self, not_true_eq_false, not_false_eq_true, ne_eq, and_false, false_and, or_false, or_true, false_or, true_or, vx_some, eq_self, ↓reduceIte, ite_t1, ite_t2, ite_t3, le_T, le_F, lt_T, lt_F, ge_T, ge_F, gt_T, gt_F, eq_T, eq_F, w32_i, kd_1, kd_2, kd_3, kd_4, kd_5, kd_6, kd_7, kd_14, kd_15, kd_16, kd_29, kd_34, kd_56, kd_74, kd_75, kd_76, kd_77, kd_78, kd_79, kd_80, kd_81, kd_82, kd_83, kd_84, kd_85, kd_86, kd_87, kd_88, kd_89, kd_90, kd_91, kd_92, kd_93, kd_94, kd_95, kd_96, kd_97, kd_98, kd_99, kd_100, kd_101, kd_102, kd_103, kd_104, kd_105, kd_106, kd_107, kd_108]; exact rfl)); simp only [vx_some])
      all_goals rw [ek]
theorem kw100n : ∀ (r : Nat) (k : Int) (m : Mm), k + r = 28 → 0 ≤ k → m 4 4 = 4 → vp 24 100 [(2, 4), (0, k)] [] (n, m) = some (none, (n, m)) := by
  intro r
  induction r with
  | zero =>
    intro k m e k0 h4
    rw [e_X3_readWord_100, if_pos (by omega)]
  | succ r ih =>
    intro k m e k0 h4
    have ih' := ih (k + 1) m (by omega) (by omega) h4
    have ek : w32 (k + 1) = k + 1 := w32_i (by omega) (by omega)
    refine Eq.trans (e_X3_readWord_100 ..) ?_
    repeat first
      | (refine Eq.trans (if_pos ?_) ?_; · first | omega | (simp (disch := omega) only [h4, Int.reduceLT, Int.reduceLE, Int.reduceEq, Int.reduceNe, Int.reduceNeg, Int.reduceAdd, Int.reduceSub, Int.reduceMul, Int.reduceGE, Int.reduceGT, Nat.reduceEqDiff, Nat.reduceAdd, and_true, true_and, and_self, not_true_eq_false, not_false_eq_true, ne_eq, and_false, false_and, or_false, or_true, false_or, true_or, vx_some, eq_self, ↓reduceIte, ite_t1, ite_t2, ite_t3, le_T, le_F, lt_T, lt_F, ge_T, ge_F, gt_T, gt_F, eq_T, eq_F, w32_i, kd_1, kd_2, kd_3, kd_4, kd_5, kd_6, kd_7, kd_14, kd_15, kd_16, kd_29, kd_34, kd_56, kd_74, kd_75, kd_76, kd_77, kd_78, kd_79, kd_80, kd_81, kd_82, kd_83, kd_84, kd_85, kd_86, kd_87, kd_88, kd_89, kd_90, kd_91, kd_92, kd_93, kd_94, kd_95, kd_96, kd_97, kd_98, kd_99, kd_100, kd_101, kd_102, kd_103, kd_104, kd_105, kd_106, kd_107, kd_108]; done))
      | (refine Eq.trans (if_neg ?_) ?_; · first | omega | (simp (disch := omega) only [h4, Int.reduceLT, Int.reduceLE, Int.reduceEq, Int.reduceNe, Int.reduceNeg, Int.reduceAdd, Int.reduceSub, Int.reduceMul, Int.reduceGE, Int.reduceGT, Nat.reduceEqDiff, Nat.reduceAdd, and_true, true_and, and_self, not_true_eq_false, not_false_eq_true, ne_eq, and_false, false_and, or_false, or_true, false_or, true_or, vx_some, eq_self, ↓reduceIte, ite_t1, ite_t2, ite_t3, le_T, le_F, lt_T, lt_F, ge_T, ge_F, gt_T, gt_F, eq_T, eq_F, w32_i, kd_1, kd_2, kd_3, kd_4, kd_5, kd_6, kd_7, kd_14, kd_15, kd_16, kd_29, kd_34, kd_56, kd_74, kd_75, kd_76, kd_77, kd_78, kd_79, kd_80, kd_81, kd_82, kd_83, kd_84, kd_85, kd_86, kd_87, kd_88, kd_89, kd_90, kd_91, kd_92, kd_93, kd_94, kd_95, kd_96, kd_97, kd_98, kd_99, kd_100, kd_101, kd_102, kd_103, kd_104, kd_105, kd_106, kd_107, kd_108]; done))
      | (refine Eq.trans (bnd (r := ?_) ?_) ?_; rotate_left 1; (focus (simp (disch := omega) only [h4, Int.reduceLT, Int.reduceLE, Int.reduceEq, Int.reduceNe, Int.reduceNeg, Int.reduceAdd, Int.reduceSub, Int.reduceMul, Int.reduceGE, Int.reduceGT, Nat.reduceEqDiff, Nat.reduceAdd, and_true, true_and, and_self, not_true_eq_false, not_false_eq_true, ne_eq, and_false, false_and, or_false, or_true, false_or, true_or, vx_some, eq_self, ↓reduceIte, ite_t1, ite_t2, ite_t3, le_T, le_F, lt_T, lt_F, ge_T, ge_F, gt_T, gt_F, eq_T, eq_F, w32_i, kd_1, kd_2, kd_3, kd_4, kd_5, kd_6, kd_7, kd_14, kd_15, kd_16, kd_29, kd_34, kd_56, kd_74, kd_75, kd_76, kd_77, kd_78, kd_79, kd_80, kd_81, kd_82, kd_83, kd_84, kd_85, kd_86, kd_87, kd_88, kd_89, kd_90, kd_91, kd_92, kd_93, kd_94, kd_95, kd_96, kd_97, kd_98, kd_99, kd_100, kd_101, kd_102, kd_103, kd_104, kd_105, kd_106, kd_107, kd_108]; exact rfl)); simp only [vx_some])
    all_goals rw [ek]
    exact ih'
/-- both read a number -/
def NI (m M : Mm) (k : Nat) : Prop := (M 88 6 = m 4 6 ∧ 0 ≤ m 4 6 ∧ ((k = 0 ∧ m 4 6 = 0) ∨ (k = 1 ∧ m 4 6 ≤ 9) ∨ (k = 2 ∧ m 4 6 ≤ 99) ∨ (k = 3 ∧ m 4 6 ≤ 999) ∨ (k = 4 ∧ m 4 6 ≤ 9999))) ∨ 5 ≤ k
theorem nm_both : ∀ (r k : Nat) (p : Int) (m M : Mm), TX m M → 0 ≤ p → p + k + r = M 88 2 → m 4 3 = p + k → M 88 3 = p → NI m M k → ∃ (k' : Nat) (m' M' : Mm) (s : Int), (k ≤ k' ∧ p + k' ≤ M 88 2) ∧ vp 25 7 [(2, 4), (0, (k : Int))] [] (n, m) = some (none, (n, m')) ∧ vp 178 153 [(2, 88), (0, (k : Int))] [] (n, M) = some (none, (n, M')) ∧ FRl m m' ∧ FRg M M' ∧ (m' 4 3 = p + k' ∧ m' 4 5 = m 4 5 ∧ m' 4 9 = m 4 9) ∧ (M' 88 3 = p + k' ∧ M' 88 4 = M 88 4) ∧ isDg (hr M (p + k')) = 0 ∧ NI m' M' k' ∧ (m' 4 4 = s ∧ M' 88 5 = s) ∧ (s = 4 ∨ (s = 2 ∧ k' ≤ 4 ∧ isLt (hr M (p + k')) = 0)) := by
  have fin : ∀ (k : Nat) (p : Int) (m M : Mm), TX m M → 0 ≤ p → p + k ≤ M 88 2 → m 4 3 = p + k → M 88 3 = p → NI m M k → isDg (hr M (p + k)) = 0 → ∃ (k' : Nat) (m' M' : Mm) (s : Int), (k ≤ k' ∧ p + k' ≤ M 88 2) ∧ vp 25 7 [(2, 4), (0, (k : Int))] [] (n, m) = some (none, (n, m')) ∧ vp 178 153 [(2, 88), (0, (k : Int))] [] (n, M) = some (none, (n, M')) ∧ FRl m m' ∧ FRg M M' ∧ (m' 4 3 = p + k' ∧ m' 4 5 = m 4 5 ∧ m' 4 9 = m 4 9) ∧ (M' 88 3 = p + k' ∧ M' 88 4 = M 88 4) ∧ isDg (hr M (p + k')) = 0 ∧ NI m' M' k' ∧ (m' 4 4 = s ∧ M' 88 5 = s) ∧ (s = 4 ∨ (s = 2 ∧ k' ≤ 4 ∧ isLt (hr M (p + k')) = 0)) := by
    intro k p m M T p0 pk h3 g3 W hd
    have t3 := T.2.2.2.1
    have cd := c_isDg (n := n) T h3 (by omega)
    rw [hd] at cd
    have cl := c_isLt (n := n) T h3 (by omega)
    have he := p_here (n := n) T.1.2 (k := (k : Int)) (by omega) (by omega) t3.2
    rw [g3] at he
    have id := p_isDg (hr M (p + k)) (n, M)
    rw [hd] at id
    have il := p_isLt (hr M (p + k)) (n, M)
    have e3 : ∀ a : Int, stm M 88 5 a 88 3 = p := fun a => by rw [stm_ap, if_neg (by omega)]; exact g3
    have ew : w32 (p + k) = p + k := w32_i (by omega) (by omega)
    have main : ∃ s : Int, vp 25 7 [(2, 4), (0, (k : Int))] [] (n, m) = some (none, (n, stm m 4 4 s)) ∧ vp 178 153 [(2, 88), (0, (k : Int))] [] (n, M) = some (none, (n, stm (stm M 88 5 s) 88 3 (p + k))) ∧ (s = 4 ∨ (s = 2 ∧ k ≤ 4 ∧ isLt (hr M (p + k)) = 0)) := by
      clear W T hd
      generalize hr M (p + k) = c at *
      by_cases k4 : 4 < k
      · refine ⟨4, ?_, ?_, Or.inl rfl⟩
        · refine Eq.trans (e_X3_readNumber_7 ..) ?_
          repeat first
            | (refine Eq.trans (if_pos ?_) ?_; · first | omega | (simp (disch := omega) only [cd, Int.reduceLT, Int.reduceLE, Int.reduceEq, Int.reduceNe, Int.reduceNeg, Int.reduceAdd, Int.reduceSub, Int.reduceMul, Int.reduceGE, Int.reduceGT, Nat.reduceEqDiff, Nat.reduceAdd, and_true, true_and, and_self, not_true_eq_false, not_false_eq_true, ne_eq, and_false, false_and, or_false, or_true, false_or, true_or, vx_some, eq_self, ↓reduceIte, ite_t1, ite_t2, ite_t3, le_T, le_F, lt_T, lt_F, ge_T, ge_F, gt_T, gt_F, eq_T, eq_F, w32_i, kd_1, kd_2, kd_3, kd_4, kd_5, kd_6, kd_7, kd_14, kd_15, kd_16, kd_29, kd_34, kd_56, kd_74, kd_75, kd_76, kd_77, kd_78, kd_79, kd_80, kd_81, kd_82, kd_83, kd_84, kd_85, kd_86, kd_87, kd_88, kd_89, kd_90, kd_91, kd_92, kd_93, kd_94, kd_95, kd_96, kd_97, kd_98, kd_99, kd_100, kd_101, kd_102, kd_103, kd_104, kd_105, kd_106, kd_107, kd_108]; done))
            | (refine Eq.trans (if_neg ?_) ?_; · first | omega | (simp (disch := omega) only [cd, Int.reduceLT, Int.reduceLE, Int.reduceEq, Int.reduceNe, Int.reduceNeg, Int.reduceAdd, Int.reduceSub, Int.reduceMul, Int.reduceGE, Int.reduceGT, Nat.reduceEqDiff, Nat.reduceAdd, and_true, true_and, and_self, not_true_eq_false, not_false_eq_true, ne_eq, and_false, false_and, or_false, or_true, false_or, true_or, vx_some, eq_self, ↓reduceIte, ite_t1, ite_t2, ite_t3, le_T, le_F, lt_T, lt_F, ge_T, ge_F, gt_T, gt_F, eq_T, eq_F, w32_i, kd_1, kd_2, kd_3, kd_4, kd_5, kd_6, kd_7, kd_14, kd_15, kd_16, kd_29, kd_34, kd_56, kd_74, kd_75, kd_76, kd_77, kd_78, kd_79, kd_80, kd_81, kd_82, kd_83, kd_84, kd_85, kd_86, kd_87, kd_88, kd_89, kd_90, kd_91, kd_92, kd_93, kd_94, kd_95, kd_96, kd_97, kd_98, kd_99, kd_100, kd_101, kd_102, kd_103, kd_104, kd_105, kd_106, kd_107, kd_108]; done))
            | (refine Eq.trans (bnd (r := ?_) ?_) ?_; rotate_left 1; (focus (simp (disch := omega) only [cd, Int.reduceLT, Int.reduceLE, Int.reduceEq, Int.reduceNe, Int.reduceNeg, Int.reduceAdd, Int.reduceSub, Int.reduceMul, Int.reduceGE, Int.reduceGT, Nat.reduceEqDiff, Nat.reduceAdd, and_true, true_and, and_self, not_true_eq_false, not_false_eq_true, ne_eq, and_false, false_and, or_false, or_true, false_or, true_or, vx_some, eq_self, ↓reduceIte, ite_t1, ite_t2, ite_t3, le_T, le_F, lt_T, lt_F, ge_T, ge_F, gt_T, gt_F, eq_T, eq_F, w32_i, kd_1, kd_2, kd_3, kd_4, kd_5, kd_6, kd_7, kd_14, kd_15, kd_16, kd_29, kd_34, kd_56, kd_74, kd_75, kd_76, kd_77, kd_78, kd_79, kd_80, kd_81, kd_82, kd_83, kd_84, kd_85, kd_86, kd_87, kd_88, kd_89, kd_90, kd_91, kd_92, kd_93, kd_94, kd_95, kd_96, kd_97, kd_98, kd_99, kd_100, kd_101, kd_102, kd_103, kd_104, kd_105, kd_106, kd_107, kd_108]; exact rfl)); simp only [vx_some])
          all_goals rfl
        · refine Eq.trans (e_X12_goOn_153 ..) ?_
          repeat first
            | (refine Eq.trans (if_pos ?_) ?_; · first | omega | (simp (disch := omega) only [he, id, Int.reduceLT, Int.reduceLE, Int.reduceEq, Int.reduceNe, Int.reduceNeg, Int.reduceAdd, Int.reduceSub, Int.reduceMul, Int.reduceGE, Int.reduceGT, Nat.reduceEqDiff, Nat.reduceAdd, and_true, true_and, and_self, not_true_eq_false, not_false_eq_true, ne_eq, and_false, false_and, or_false, or_true, false_or, true_or, vx_some, eq_self, ↓reduceIte, ite_t1, ite_t2, ite_t3, le_T, le_F, lt_T, lt_F, ge_T, ge_F, gt_T, gt_F, eq_T, eq_F, w32_i, kd_1, kd_2, kd_3, kd_4, kd_5, kd_6, kd_7, kd_14, kd_15, kd_16, kd_29, kd_34, kd_56, kd_74, kd_75, kd_76, kd_77, kd_78, kd_79, kd_80, kd_81, kd_82, kd_83, kd_84, kd_85, kd_86, kd_87, kd_88, kd_89, kd_90, kd_91, kd_92, kd_93, kd_94, kd_95, kd_96, kd_97, kd_98, kd_99, kd_100, kd_101, kd_102, kd_103, kd_104, kd_105, kd_106, kd_107, kd_108]; done))
            | (refine Eq.trans (if_neg ?_) ?_; · first | omega | (simp (disch := omega) only [he, id, Int.reduceLT, Int.reduceLE, Int.reduceEq, Int.reduceNe, Int.reduceNeg, Int.reduceAdd, Int.reduceSub, Int.reduceMul, Int.reduceGE, Int.reduceGT, Nat.reduceEqDiff, Nat.reduceAdd, and_true, true_and, and_self, not_true_eq_false, not_false_eq_true, ne_eq, and_false, false_and, or_false, or_true, false_or, true_or, vx_some, eq_self, ↓reduceIte, ite_t1, ite_t2, ite_t3, le_T, le_F, lt_T, lt_F, ge_T, ge_F, gt_T, gt_F, eq_T, eq_F, w32_i, kd_1, kd_2, kd_3, kd_4, kd_5, kd_6, kd_7, kd_14, kd_15, kd_16, kd_29, kd_34, kd_56, kd_74, kd_75, kd_76, kd_77, kd_78, kd_79, kd_80, kd_81, kd_82, kd_83, kd_84, kd_85, kd_86, kd_87, kd_88, kd_89, kd_90, kd_91, kd_92, kd_93, kd_94, kd_95, kd_96, kd_97, kd_98, kd_99, kd_100, kd_101, kd_102, kd_103, kd_104, kd_105, kd_106, kd_107, kd_108]; done))
            | (refine Eq.trans (bnd (r := ?_) ?_) ?_; rotate_left 1; (focus (simp (disch := omega) only [he, id, Int.reduceLT, Int.reduceLE, Int.reduceEq, Int.reduceNe, Int.reduceNeg, Int.reduceAdd, Int.reduceSub, Int.reduceMul, Int.reduceGE, Int.reduceGT, Nat.reduceEqDiff, Nat.reduceAdd, and_true, true_and, and_self, not_true_eq_false, not_false_eq_true, ne_eq, and_false, false_and, or_false, or_true, false_or, true_or, vx_some, eq_self, ↓reduceIte, ite_t1, ite_t2, ite_t3, le_T, le_F, lt_T, lt_F, ge_T, ge_F, gt_T, gt_F, eq_T, eq_F, w32_i, kd_1, kd_2, kd_3, kd_4, kd_5, kd_6, kd_7, kd_14, kd_15, kd_16, kd_29, kd_34, kd_56, kd_74, kd_75, kd_76, kd_77, kd_78, kd_79, kd_80, kd_81, kd_82, kd_83, kd_84, kd_85, kd_86, kd_87, kd_88, kd_89, kd_90, kd_91, kd_92, kd_93, kd_94, kd_95, kd_96, kd_97, kd_98, kd_99, kd_100, kd_101, kd_102, kd_103, kd_104, kd_105, kd_106, kd_107, kd_108]; exact rfl)); simp only [vx_some])
          all_goals simp only [e3, ew]
      · rcases isLt_01 c with l | l
        · rw [l] at cl il
          refine ⟨2, ?_, ?_, Or.inr ⟨rfl, by omega, l⟩⟩
          · refine Eq.trans (e_X3_readNumber_7 ..) ?_
            repeat first
              | (refine Eq.trans (if_pos ?_) ?_; · first | omega | (simp (disch := omega) only [cd, cl, Int.reduceLT, Int.reduceLE, Int.reduceEq, Int.reduceNe, Int.reduceNeg, Int.reduceAdd, Int.reduceSub, Int.reduceMul, Int.reduceGE, Int.reduceGT, Nat.reduceEqDiff, Nat.reduceAdd, and_true, true_and, and_self, not_true_eq_false, not_false_eq_true, ne_eq, and_false, false_and, or_false, or_true, false_or, true_or, vx_some, eq_self, ↓reduceIte, ite_t1, ite_t2, ite_t3, le_T, le_F, lt_T, lt_F, ge_T, ge_F, gt_T, gt_F, eq_T, eq_F, w32_i, kd_1, kd_2, kd_3, kd_4, kd_5, kd_6, kd_7, kd_14, kd_15, kd_16, kd_29, kd_34, kd_56, kd_74, kd_75, kd_76, kd_77, kd_78, kd_79, kd_80, kd_81, kd_82, kd_83, kd_84, kd_85, kd_86, kd_87, kd_88, kd_89, kd_90, kd_91, kd_92, kd_93, kd_94, kd_95, kd_96, kd_97, kd_98, kd_99, kd_100, kd_101, kd_102, kd_103, kd_104, kd_105, kd_106, kd_107, kd_108]; done))
              | (refine Eq.trans (if_neg ?_) ?_; · first | omega | (simp (disch := omega) only [cd, cl, Int.reduceLT, Int.reduceLE, Int.reduceEq, Int.reduceNe, Int.reduceNeg, Int.reduceAdd, Int.reduceSub, Int.reduceMul, Int.reduceGE, Int.reduceGT, Nat.reduceEqDiff, Nat.reduceAdd, and_true, true_and, and_self, not_true_eq_false, not_false_eq_true, ne_eq, and_false, false_and, or_false, or_true, false_or, true_or, vx_some, eq_self, ↓reduceIte, ite_t1, ite_t2, ite_t3, le_T, le_F, lt_T, lt_F, ge_T, ge_F, gt_T, gt_F, eq_T, eq_F, w32_i, kd_1, kd_2, kd_3, kd_4, kd_5, kd_6, kd_7, kd_14, kd_15, kd_16, kd_29, kd_34, kd_56, kd_74, kd_75, kd_76, kd_77, kd_78, kd_79, kd_80, kd_81, kd_82, kd_83, kd_84, kd_85, kd_86, kd_87, kd_88, kd_89, kd_90, kd_91, kd_92, kd_93, kd_94, kd_95, kd_96, kd_97, kd_98, kd_99, kd_100, kd_101, kd_102, kd_103, kd_104, kd_105, kd_106, kd_107, kd_108]; done))
              | (refine Eq.trans (bnd (r := ?_) ?_) ?_; rotate_left 1; (focus (simp (disch := omega) only [cd, cl, Int.reduceLT, Int.reduceLE, Int.reduceEq, Int.reduceNe, Int.reduceNeg, Int.reduceAdd, Int.reduceSub, Int.reduceMul, Int.reduceGE, Int.reduceGT, Nat.reduceEqDiff, Nat.reduceAdd, and_true, true_and, and_self, not_true_eq_false, not_false_eq_true, ne_eq, and_false, false_and, or_false, or_true, false_or, true_or, vx_some, eq_self, ↓reduceIte, ite_t1, ite_t2, ite_t3, le_T, le_F, lt_T, lt_F, ge_T, ge_F, gt_T, gt_F, eq_T, eq_F, w32_i, kd_1, kd_2, kd_3, kd_4, kd_5, kd_6, kd_7, kd_14, kd_15, kd_16, kd_29, kd_34, kd_56, kd_74, kd_75, kd_76, kd_77, kd_78, kd_79, kd_80, kd_81, kd_82, kd_83, kd_84, kd_85, kd_86, kd_87, kd_88, kd_89, kd_90, kd_91, kd_92, kd_93, kd_94, kd_95, kd_96, kd_97, kd_98, kd_99, kd_100, kd_101, kd_102, kd_103, kd_104, kd_105, kd_106, kd_107, kd_108]; exact rfl)); simp only [vx_some])
            all_goals rfl
          · refine Eq.trans (e_X12_goOn_153 ..) ?_
            repeat first
              | (refine Eq.trans (if_pos ?_) ?_; · first | omega | (simp (disch := omega) only [he, id, il, Int.reduceLT, Int.reduceLE, Int.reduceEq, Int.reduceNe, Int.reduceNeg, Int.reduceAdd, Int.reduceSub, Int.reduceMul, Int.reduceGE, Int.reduceGT, Nat.reduceEqDiff, Nat.reduceAdd, and_true, true_and, and_self, not_true_eq_false, not_false_eq_true, ne_eq, and_false, false_and, or_false, or_true, false_or, true_or, vx_some, eq_self, ↓reduceIte, ite_t1, ite_t2, ite_t3, le_T, le_F, lt_T, lt_F, ge_T, ge_F, gt_T, gt_F, eq_T, eq_F, w32_i, kd_1, kd_2, kd_3, kd_4, kd_5, kd_6, kd_7, kd_14, kd_15, kd_16, kd_29, kd_34, kd_56, kd_74, kd_75, kd_76, kd_77, kd_78, kd_79, kd_80, kd_81, kd_82, kd_83, kd_84, kd_85, kd_86, kd_87, kd_88, kd_89, kd_90, kd_91, kd_92, kd_93, kd_94, kd_95, kd_96, kd_97, kd_98, kd_99, kd_100, kd_101, kd_102, kd_103, kd_104, kd_105, kd_106, kd_107, kd_108]; done))
              | (refine Eq.trans (if_neg ?_) ?_; · first | omega | (simp (disch := omega) only [he, id, il, Int.reduceLT, Int.reduceLE, Int.reduceEq, Int.reduceNe, Int.reduceNeg, Int.reduceAdd, Int.reduceSub, Int.reduceMul, Int.reduceGE, Int.reduceGT, Nat.reduceEqDiff, Nat.reduceAdd, and_true, true_and, and_self, not_true_eq_false, not_false_eq_true, ne_eq, and_false, false_and, or_false, or_true, false_or, true_or, vx_some, eq_self, ↓reduceIte, ite_t1, ite_t2, ite_t3, le_T, le_F, lt_T, lt_F, ge_T, ge_F, gt_T, gt_F, eq_T, eq_F, w32_i, kd_1, kd_2, kd_3, kd_4, kd_5, kd_6, kd_7, kd_14, kd_15, kd_16, kd_29, kd_34, kd_56, kd_74, kd_75, kd_76, kd_77, kd_78, kd_79, kd_80, kd_81, kd_82, kd_83, kd_84, kd_85, kd_86, kd_87, kd_88, kd_89, kd_90, kd_91, kd_92, kd_93, kd_94, kd_95, kd_96, kd_97, kd_98, kd_99, kd_100, kd_101, kd_102, kd_103, kd_104, kd_105, kd_106, kd_107, kd_108]; done))
              | (refine Eq.trans (bnd (r := ?_) ?_) ?_; rotate_left 1; (focus (simp (disch := omega) only [he, id, il, Int.reduceLT, Int.reduceLE, Int.reduceEq, Int.reduceNe, Int.reduceNeg, Int.reduceAdd, Int.reduceSub, Int.reduceMul, Int.reduceGE, Int.reduceGT, Nat.reduceEqDiff, Nat.reduceAdd, and_true, true_and, and_self, not_true_eq_false, not_false_eq_true, ne_eq, and_false, false_and, or_false, or_true, false_or, true_or, vx_some, eq_self, ↓reduceIte, ite_t1, ite_t2, ite_t3, le_T, le_F, lt_T, lt_F, ge_T, ge_F, gt_T, gt_F, eq_T, eq_F, w32_i, kd_1, kd_2, kd_3, kd_4, kd_5, kd_6, kd_7, kd_14, kd_15, kd_16, kd_29, kd_34, kd_56, kd_74, kd_75, kd_76, kd_77, kd_78, kd_79, kd_80, kd_81, kd_82, kd_83, kd_84, kd_85, kd_86, kd_87, kd_88, kd_89, kd_90, kd_91, kd_92, kd_93, kd_94, kd_95, kd_96, kd_97, kd_98, kd_99, kd_100, kd_101, kd_102, kd_103, kd_104, kd_105, kd_106, kd_107, kd_108]; exact rfl)); simp only [vx_some])
            all_goals simp only [e3, ew]
        · rw [l] at cl il
          refine ⟨4, ?_, ?_, Or.inl rfl⟩
          · refine Eq.trans (e_X3_readNumber_7 ..) ?_
            repeat first
              | (refine Eq.trans (if_pos ?_) ?_; · first | omega | (simp (disch := omega) only [cd, cl, Int.reduceLT, Int.reduceLE, Int.reduceEq, Int.reduceNe, Int.reduceNeg, Int.reduceAdd, Int.reduceSub, Int.reduceMul, Int.reduceGE, Int.reduceGT, Nat.reduceEqDiff, Nat.reduceAdd, and_true, true_and, and_self, not_true_eq_false, not_false_eq_true, ne_eq, and_false, false_and, or_false, or_true, false_or, true_or, vx_some, eq_self, ↓reduceIte, ite_t1, ite_t2, ite_t3, le_T, le_F, lt_T, lt_F, ge_T, ge_F, gt_T, gt_F, eq_T, eq_F, w32_i, kd_1, kd_2, kd_3, kd_4, kd_5, kd_6, kd_7, kd_14, kd_15, kd_16, kd_29, kd_34, kd_56, kd_74, kd_75, kd_76, kd_77, kd_78, kd_79, kd_80, kd_81, kd_82, kd_83, kd_84, kd_85, kd_86, kd_87, kd_88, kd_89, kd_90, kd_91, kd_92, kd_93, kd_94, kd_95, kd_96, kd_97, kd_98, kd_99, kd_100, kd_101, kd_102, kd_103, kd_104, kd_105, kd_106, kd_107, kd_108]; done))
              | (refine Eq.trans (if_neg ?_) ?_; · first | omega | (simp (disch := omega) only [cd, cl, Int.reduceLT, Int.reduceLE, Int.reduceEq, Int.reduceNe, Int.reduceNeg, Int.reduceAdd, Int.reduceSub, Int.reduceMul, Int.reduceGE, Int.reduceGT, Nat.reduceEqDiff, Nat.reduceAdd, and_true, true_and, and_self, not_true_eq_false, not_false_eq_true, ne_eq, and_false, false_and, or_false, or_true, false_or, true_or, vx_some, eq_self, ↓reduceIte, ite_t1, ite_t2, ite_t3, le_T, le_F, lt_T, lt_F, ge_T, ge_F, gt_T, gt_F, eq_T, eq_F, w32_i, kd_1, kd_2, kd_3, kd_4, kd_5, kd_6, kd_7, kd_14, kd_15, kd_16, kd_29, kd_34, kd_56, kd_74, kd_75, kd_76, kd_77, kd_78, kd_79, kd_80, kd_81, kd_82, kd_83, kd_84, kd_85, kd_86, kd_87, kd_88, kd_89, kd_90, kd_91, kd_92, kd_93, kd_94, kd_95, kd_96, kd_97, kd_98, kd_99, kd_100, kd_101, kd_102, kd_103, kd_104, kd_105, kd_106, kd_107, kd_108]; done))
              | (refine Eq.trans (bnd (r := ?_) ?_) ?_; rotate_left 1; (focus (simp (disch := omega) only [cd, cl, Int.reduceLT, Int.reduceLE, Int.reduceEq, Int.reduceNe, Int.reduceNeg, Int.reduceAdd, Int.reduceSub, Int.reduceMul, Int.reduceGE, Int.reduceGT, Nat.reduceEqDiff, Nat.reduceAdd, and_true, true_and, and_self, not_true_eq_false, not_false_eq_true, ne_eq, and_false, false_and, or_false, or_true, false_or, true_or, vx_some, eq_self, ↓reduceIte, ite_t1, ite_t2, ite_t3, le_T, le_F, lt_T, lt_F, ge_T, ge_F, gt_T, gt_F, eq_T, eq_F, w32_i, kd_1, kd_2, kd_3, kd_4, kd_5, kd_6, kd_7, kd_14, kd_15, kd_16, kd_29, kd_34, kd_56, kd_74, kd_75, kd_76, kd_77, kd_78, kd_79, kd_80, kd_81, kd_82, kd_83, kd_84, kd_85, kd_86, kd_87, kd_88, kd_89, kd_90, kd_91, kd_92, kd_93, kd_94, kd_95, kd_96, kd_97, kd_98, kd_99, kd_100, kd_101, kd_102, kd_103, kd_104, kd_105, kd_106, kd_107, kd_108]; exact rfl)); simp only [vx_some])
            all_goals rfl
          · refine Eq.trans (e_X12_goOn_153 ..) ?_
            repeat first
              | (refine Eq.trans (if_pos ?_) ?_; · first | omega | (simp (disch := omega) only [he, id, il, Int.reduceLT, Int.reduceLE, Int.reduceEq, Int.reduceNe, Int.reduceNeg, Int.reduceAdd, Int.reduceSub, Int.reduceMul, Int.reduceGE, Int.reduceGT, Nat.reduceEqDiff, Nat.reduceAdd, and_true, true_and, and_self, not_true_eq_false, not_false_eq_true, ne_eq, and_false, false_and, or_false, or_true, false_or, true_or, vx_some, eq_self, ↓reduceIte, ite_t1, ite_t2, ite_t3, le_T, le_F, lt_T, lt_F, ge_T, ge_F, gt_T, gt_F, eq_T, eq_F, w32_i, kd_1, kd_2, kd_3, kd_4, kd_5, kd_6, kd_7, kd_14, kd_15, kd_16, kd_29, kd_34, kd_56, kd_74, kd_75, kd_76, kd_77, kd_78, kd_79, kd_80, kd_81, kd_82, kd_83, kd_84, kd_85, kd_86, kd_87, kd_88, kd_89, kd_90, kd_91, kd_92, kd_93, kd_94, kd_95, kd_96, kd_97, kd_98, kd_99, kd_100, kd_101, kd_102, kd_103, kd_104, kd_105, kd_106, kd_107, kd_108]; done))
              | (refine Eq.trans (if_neg ?_) ?_; · first | omega | (simp (disch := omega) only [he, id, il, Int.reduceLT, Int.reduceLE, Int.reduceEq, Int.reduceNe, Int.reduceNeg, Int.reduceAdd, Int.reduceSub, Int.reduceMul, Int.reduceGE, Int.reduceGT, Nat.reduceEqDiff, Nat.reduceAdd, and_true, true_and, and_self, not_true_eq_false, not_false_eq_true, ne_eq, and_false, false_and, or_false, or_true, false_or, true_or, vx_some, eq_self, ↓reduceIte, ite_t1, ite_t2, ite_t3, le_T, le_F, lt_T, lt_F, ge_T, ge_F, gt_T, gt_F, eq_T, eq_F, w32_i, kd_1, kd_2, kd_3, kd_4, kd_5, kd_6, kd_7, kd_14, kd_15, kd_16, kd_29, kd_34, kd_56, kd_74, kd_75, kd_76, kd_77, kd_78, kd_79, kd_80, kd_81, kd_82, kd_83, kd_84, kd_85, kd_86, kd_87, kd_88, kd_89, kd_90, kd_91, kd_92, kd_93, kd_94, kd_95, kd_96, kd_97, kd_98, kd_99, kd_100, kd_101, kd_102, kd_103, kd_104, kd_105, kd_106, kd_107, kd_108]; done))
              | (refine Eq.trans (bnd (r := ?_) ?_) ?_; rotate_left 1; (focus (simp (disch := omega) only [he, id, il, Int.reduceLT, Int.reduceLE, Int.reduceEq, Int.reduceNe, Int.reduceNeg, Int.reduceAdd, Int.reduceSub, Int.reduceMul, Int.reduceGE, Int.reduceGT, Nat.reduceEqDiff, Nat.reduceAdd, and_true, true_and, and_self, not_true_eq_false, not_false_eq_true, ne_eq, and_false, false_and, or_false, or_true, false_or, true_or, vx_some, eq_self, ↓reduceIte, ite_t1, ite_t2, ite_t3, le_T, le_F, lt_T, lt_F, ge_T, ge_F, gt_T, gt_F, eq_T, eq_F, w32_i, kd_1, kd_2, kd_3, kd_4, kd_5, kd_6, kd_7, kd_14, kd_15, kd_16, kd_29, kd_34, kd_56, kd_74, kd_75, kd_76, kd_77, kd_78, kd_79, kd_80, kd_81, kd_82, kd_83, kd_84, kd_85, kd_86, kd_87, kd_88, kd_89, kd_90, kd_91, kd_92, kd_93, kd_94, kd_95, kd_96, kd_97, kd_98, kd_99, kd_100, kd_101, kd_102, kd_103, kd_104, kd_105, kd_106, kd_107, kd_108]; exact rfl)); simp only [vx_some])
            all_goals simp only [e3, ew]
    obtain ⟨s, r1, r2, hs⟩ := main
    have f1 : ∀ q : Int, q ≠ 4 → stm m 4 4 s 4 q = m 4 q := fun q hq => by rw [stm_ap, if_neg (by omega)]
    have f2 : ∀ q : Int, q ≠ 3 → q ≠ 5 → stm (stm M 88 5 s) 88 3 (p + k) 88 q = M 88 q := fun q a b => by rw [stm_ap, if_neg (by omega), stm_ap, if_neg (by omega)]
    refine ⟨k, _, _, s, by omega, r1, r2, ?_, ?_, ⟨by rw [f1 3 (by omega)]; exact h3, f1 5 (by omega), f1 9 (by omega)⟩, ⟨stm_same _ _ _ _, f2 4 (by omega) (by omega)⟩, hd, ?_, ⟨stm_same _ _ _ _, by rw [stm_ap, if_neg (by omega), stm_same]⟩, hs⟩
    · intro o q h
      rw [stm_ap, if_neg (by omega)]
    · intro o q h
      rw [stm_ap, if_neg (by omega), stm_ap, if_neg (by omega)]
    · unfold NI at W ⊢
      rw [f1 6 (by omega), f2 6 (by omega) (by omega)]
      exact W
  intro r
  induction r with
  | zero =>
    intro k p m M T p0 e h3 g3 W
    refine fin k p m M T p0 (by omega) h3 g3 W ?_
    rw [show hr M (p + k) = -1 from if_neg (by omega)]
    rfl
  | succ r ih =>
    intro k p m M T p0 e h3 g3 W
    rcases isDg_01 (hr M (p + k)) with hd | hd
    · exact fin k p m M T p0 (by omega) h3 g3 W hd
    · have t1 := T.2.1
      have t2 := T.2.2.1
      have t3 := T.2.2.2.1
      have cd := c_isDg (n := n) T h3 (by omega)
      rw [hd] at cd
      have he := p_here (n := n) T.1.2 (k := (k : Int)) (by omega) (by omega) t3.2
      rw [g3] at he
      have id := p_isDg (hr M (p + k)) (n, M)
      rw [hd] at id
      have l1 := isDg_1 hd
      have hi := hr_in (M := M) (q := p + k) (by omega)
      have bt := T.bt (p := p + k) (by omega) hi.1
      have ek : w32 ((k : Int) + 1) = (k : Int) + 1 := w32_i (by omega) (by omega)
      have epk : w32 (p + (k : Int) + 1) = p + (k : Int) + 1 := w32_i (by omega) (by omega)
      by_cases k4 : k < 4
      · obtain ⟨W1, W2, W3, W4⟩ : M 88 6 = m 4 6 ∧ 0 ≤ m 4 6 ∧ m 4 6 ≤ 999 ∧ ((k + 1 = 1 ∧ 10 * m 4 6 ≤ 0) ∨ (k + 1 = 2 ∧ 10 * m 4 6 ≤ 90) ∨ (k + 1 = 3 ∧ 10 * m 4 6 ≤ 990) ∨ (k + 1 = 4 ∧ 10 * m 4 6 ≤ 9990)) := by
          unfold NI at W
          omega
        have b2 : m 2 (p + k) = hr M (p + k) := by omega
        have v1 : w32 (m 4 6 * 10) = m 4 6 * 10 := w32_i (by omega) (by omega)
        have v2 : w32 (hr M (p + k) - 48) = hr M (p + k) - 48 := w32_i (by omega) (by omega)
        have v3 : w32 (m 4 6 * 10 + (hr M (p + k) - 48)) = 10 * m 4 6 + (hr M (p + k) - 48) := by rw [w32_i (by omega) (by omega)]; omega
        have u1 : w32 (10 * m 4 6) = 10 * m 4 6 := w32_i (by omega) (by omega)
        have u2 : w32 (10 * m 4 6 + hr M (p + k)) = 10 * m 4 6 + hr M (p + k) := w32_i (by omega) (by omega)
        have u3 : w32 (10 * m 4 6 + hr M (p + k) - 48) = 10 * m 4 6 + (hr M (p + k) - 48) := by rw [w32_i (by omega) (by omega)]; omega
        have st1 : vp 25 7 [(2, 4), (0, (k : Int))] [] (n, m) = vp 25 7 [(2, 4), (0, (k : Int) + 1)] [] (n, stm (stm m 4 6 (10 * m 4 6 + (hr M (p + k) - 48))) 4 3 (p + (k : Int) + 1)) := by
          clear ih fin W he id T u1 u2 u3 W4
          generalize hr M (p + k) = c at *
          generalize M 88 2 = N at *
          have x3 : ∀ v : Int, stm m 4 6 v 4 3 = p + (k : Int) := fun v => by rw [stm_ap, if_neg (by omega)]; exact h3
          refine Eq.trans (e_X3_readNumber_7 ..) ?_
          repeat first
            | (refine Eq.trans (if_pos ?_) ?_; · first | omega | (simp (disch := omega) only [cd, h3, t2, t1, Int.reduceLT, Int.reduceLE, Int.reduceEq, Int.reduceNe, Int.reduceNeg, Int.reduceAdd, Int.reduceSub, Int.reduceMul, Int.reduceGE, Int.reduceGT, Nat.reduceEqDiff, Nat.reduceAdd, and_true, true_and, and_self, not_true_eq_false, not_false_eq_true, ne_eq, and_false, false_and, or_false, or_true, false_or, true_or, vx_some, eq_self, ↓reduceIte, ite_t1, ite_t2, ite_t3, le_T, le_F, lt_T, lt_F, ge_T, ge_F, gt_T, gt_F, eq_T, eq_F, w32_i, kd_1, kd_2, kd_3, kd_4, kd_5, kd_6, kd_7, kd_14, kd_15, kd_16, kd_29, kd_34, kd_56, kd_74, kd_75, kd_76, kd_77, kd_78, kd_79, kd_80, kd_81, kd_82, kd_83, kd_84, kd_85, kd_86, kd_87, kd_88, kd_89, kd_90, kd_91, kd_92, kd_93, kd_94, kd_95, kd_96, kd_97, kd_98, kd_99, kd_100, kd_101, kd_102, kd_103, kd_104, kd_105, kd_106, kd_107, kd_108]; done))
            | (refine Eq.trans (if_neg ?_) ?_; · first | omega | (simp (disch := omega) only [cd, h3, t2, t1, Int.reduceLT, Int.reduceLE, Int.reduceEq, Int.reduceNe, Int.reduceNeg, Int.reduceAdd, Int.reduceSub, Int.reduceMul, Int.reduceGE, Int.reduceGT, Nat.reduceEqDiff, Nat.reduceAdd, and_true, true_and, and_self, not_true_eq_false, not_false_eq_true, ne_eq, and_false, false_and, or_false, or_true, false_or, true_or, vx_some, eq_self, ↓reduceIte, ite_t1, ite_t2, ite_t3, le_T, le_F, lt_T, lt_F, ge_T, ge_F, gt_T, gt_F, eq_T, eq_F, w32_i, kd_1, kd_2, kd_3, kd_4, kd_5, kd_6, kd_7, kd_14, kd_15, kd_16, kd_29, kd_34, kd_56, kd_74, kd_75, kd_76, kd_77, kd_78, kd_79, kd_80, kd_81, kd_82, kd_83, kd_84, kd_85, kd_86, kd_87, kd_88, kd_89, kd_90, kd_91, kd_92, kd_93, kd_94, kd_95, kd_96, kd_97, kd_98, kd_99, kd_100, kd_101, kd_102, kd_103, kd_104, kd_105, kd_106, kd_107, kd_108]; done))
            | (refine Eq.trans (bnd (r := ?_) ?_) ?_; rotate_left 1; (focus (simp (disch := omega) only [cd, h3, t2, t1, Int.reduceLT, Int.reduceLE, Int.reduceEq, Int.reduceNe, Int.reduceNeg, Int.reduceAdd, Int.reduceSub, Int.reduceMul, Int.reduceGE, Int.reduceGT, Nat.reduceEqDiff, Nat.reduceAdd, and_true, true_and, and_self, not_true_eq_false, not_false_eq_true, ne_eq, and_false, false_and, or_false, or_true, false_or, true_or, vx_some, eq_self, ↓reduceIte, ite_t1, ite_t2, ite_t3, le_T, le_F, lt_T, lt_F, ge_T, ge_F, gt_T, gt_F, eq_T, eq_F, w32_i, kd_1, kd_2, kd_3, kd_4, kd_5, kd_6, kd_7, kd_14, kd_15, kd_16, kd_29, kd_34, kd_56, kd_74, kd_75, kd_76, kd_77, kd_78, kd_79, kd_80, kd_81, kd_82, kd_83, kd_84, kd_85, kd_86, kd_87, kd_88, kd_89, kd_90, kd_91, kd_92, kd_93, kd_94, kd_95, kd_96, kd_97, kd_98, kd_99, kd_100, kd_101, kd_102, kd_103, kd_104, kd_105, kd_106, kd_107, kd_108]; exact rfl)); simp only [vx_some])
          all_goals simp only [x3, ek, epk, t1, h3, b2, v1, v2, v3]
        have st2 : vp 178 153 [(2, 88), (0, (k : Int))] [] (n, M) = vp 178 153 [(2, 88), (0, (k : Int) + 1)] [] (n, stm M 88 6 (10 * m 4 6 + (hr M (p + k) - 48))) := by
          clear ih fin W cd T v1 v2 v3 W4
          generalize hr M (p + k) = c at *
          refine Eq.trans (e_X12_goOn_153 ..) ?_
          repeat first
            | (refine Eq.trans (if_pos ?_) ?_; · first | omega | (simp (disch := omega) only [he, id, Int.reduceLT, Int.reduceLE, Int.reduceEq, Int.reduceNe, Int.reduceNeg, Int.reduceAdd, Int.reduceSub, Int.reduceMul, Int.reduceGE, Int.reduceGT, Nat.reduceEqDiff, Nat.reduceAdd, and_true, true_and, and_self, not_true_eq_false, not_false_eq_true, ne_eq, and_false, false_and, or_false, or_true, false_or, true_or, vx_some, eq_self, ↓reduceIte, ite_t1, ite_t2, ite_t3, le_T, le_F, lt_T, lt_F, ge_T, ge_F, gt_T, gt_F, eq_T, eq_F, w32_i, kd_1, kd_2, kd_3, kd_4, kd_5, kd_6, kd_7, kd_14, kd_15, kd_16, kd_29, kd_34, kd_56, kd_74, kd_75, kd_76, kd_77, kd_78, kd_79, kd_80, kd_81, kd_82, kd_83, kd_84, kd_85, kd_86, kd_87, kd_88, kd_89, kd_90, kd_91, kd_92, kd_93, kd_94, kd_95, kd_96, kd_97, kd_98, kd_99, kd_100, kd_101, kd_102, kd_103, kd_104, kd_105, kd_106, kd_107, kd_108]; done))
            | (refine Eq.trans (if_neg ?_) ?_; · first | omega | (simp (disch := omega) only [he, id, Int.reduceLT, Int.reduceLE, Int.reduceEq, Int.reduceNe, Int.reduceNeg, Int.reduceAdd, Int.reduceSub, Int.reduceMul, Int.reduceGE, Int.reduceGT, Nat.reduceEqDiff, Nat.reduceAdd, and_true, true_and, and_self, not_true_eq_false, not_false_eq_true, ne_eq, and_false, false_and, or_false, or_true, false_or, true_or, vx_some, eq_self, ↓reduceIte, ite_t1, ite_t2, ite_t3, le_T, le_F, lt_T, lt_F, ge_T, ge_F, gt_T, gt_F, eq_T, eq_F, w32_i, kd_1, kd_2, kd_3, kd_4, kd_5, kd_6, kd_7, kd_14, kd_15, kd_16, kd_29, kd_34, kd_56, kd_74, kd_75, kd_76, kd_77, kd_78, kd_79, kd_80, kd_81, kd_82, kd_83, kd_84, kd_85, kd_86, kd_87, kd_88, kd_89, kd_90, kd_91, kd_92, kd_93, kd_94, kd_95, kd_96, kd_97, kd_98, kd_99, kd_100, kd_101, kd_102, kd_103, kd_104, kd_105, kd_106, kd_107, kd_108]; done))
            | (refine Eq.trans (bnd (r := ?_) ?_) ?_; rotate_left 1; (focus (simp (disch := omega) only [he, id, Int.reduceLT, Int.reduceLE, Int.reduceEq, Int.reduceNe, Int.reduceNeg, Int.reduceAdd, Int.reduceSub, Int.reduceMul, Int.reduceGE, Int.reduceGT, Nat.reduceEqDiff, Nat.reduceAdd, and_true, true_and, and_self, not_true_eq_false, not_false_eq_true, ne_eq, and_false, false_and, or_false, or_true, false_or, true_or, vx_some, eq_self, ↓reduceIte, ite_t1, ite_t2, ite_t3, le_T, le_F, lt_T, lt_F, ge_T, ge_F, gt_T, gt_F, eq_T, eq_F, w32_i, kd_1, kd_2, kd_3, kd_4, kd_5, kd_6, kd_7, kd_14, kd_15, kd_16, kd_29, kd_34, kd_56, kd_74, kd_75, kd_76, kd_77, kd_78, kd_79, kd_80, kd_81, kd_82, kd_83, kd_84, kd_85, kd_86, kd_87, kd_88, kd_89, kd_90, kd_91, kd_92, kd_93, kd_94, kd_95, kd_96, kd_97, kd_98, kd_99, kd_100, kd_101, kd_102, kd_103, kd_104, kd_105, kd_106, kd_107, kd_108]; exact rfl)); simp only [vx_some])
          all_goals simp only [W1, u1, u2, u3, ek]
        have fr1 : FRl m (stm (stm m 4 6 (10 * m 4 6 + (hr M (p + k) - 48))) 4 3 (p + (k : Int) + 1)) := fun o q h => by rw [stm_ap, if_neg (by omega), stm_ap, if_neg (by omega)]
        have fr2 : FRg M (stm M 88 6 (10 * m 4 6 + (hr M (p + k) - 48))) := fun o q h => by rw [stm_ap, if_neg (by omega)]
        have y6 : (stm (stm m 4 6 (10 * m 4 6 + (hr M (p + k) - 48))) 4 3 (p + (k : Int) + 1)) 4 6 = 10 * m 4 6 + (hr M (p + k) - 48) := by rw [stm_ap, if_neg (by omega), stm_same]
        have z6 : (stm M 88 6 (10 * m 4 6 + (hr M (p + k) - 48))) 88 6 = 10 * m 4 6 + (hr M (p + k) - 48) := stm_same _ _ _ _
        obtain ⟨k', m', M', s, a1, a2, a3, a4, a5, a6, a7, a8, a9, a10, a11⟩ := ih (k + 1) p _ _ (T.fr fr1 fr2) p0 (by rw [fr2 88 2 (by omega)]; omega) (by rw [stm_same]; omega) (by rw [stm_ap, if_neg (by omega)]; exact g3) (by
          unfold NI
          rw [y6, z6]
          generalize hr M (p + k) = c at *
          omega)
        rw [fr2 88 2 (by omega)] at a1
        rw [hr_fr fr2] at a8 a11
        refine ⟨k', m', M', s, by omega, by rw [st1]; exact a2, by rw [st2]; exact a3, fr1.tr a4, fr2.tr a5, ⟨a6.1, ?_, ?_⟩, ⟨a7.1, ?_⟩, a8, a9, a10, a11⟩
        · rw [a6.2.1, stm_ap, if_neg (by omega), stm_ap, if_neg (by omega)]
        · rw [a6.2.2, stm_ap, if_neg (by omega), stm_ap, if_neg (by omega)]
        · rw [a7.2, stm_ap, if_neg (by omega)]
      · have st1 : vp 25 7 [(2, 4), (0, (k : Int))] [] (n, m) = vp 25 7 [(2, 4), (0, (k : Int) + 1)] [] (n, stm m 4 3 (p + (k : Int) + 1)) := by
          clear ih fin W he id T
          generalize hr M (p + k) = c at *
          generalize M 88 2 = N at *
          refine Eq.trans (e_X3_readNumber_7 ..) ?_
          repeat first
            | (refine Eq.trans (if_pos ?_) ?_; · first | omega | (simp (disch := omega) only [cd, h3, t2, Int.reduceLT, Int.reduceLE, Int.reduceEq, Int.reduceNe, Int.reduceNeg, Int.reduceAdd, Int.reduceSub, Int.reduceMul, Int.reduceGE, Int.reduceGT, Nat.reduceEqDiff, Nat.reduceAdd, and_true, true_and, and_self, not_true_eq_false, not_false_eq_true, ne_eq, and_false, false_and, or_false, or_true, false_or, true_or, vx_some, eq_self, ↓reduceIte, ite_t1, ite_t2, ite_t3, le_T, le_F, lt_T, lt_F, ge_T, ge_F, gt_T, gt_F, eq_T, eq_F, w32_i, kd_1, kd_2, kd_3, kd_4, kd_5, kd_6, kd_7, kd_14, kd_15, kd_16, kd_29, kd_34, kd_56, kd_74, kd_75, kd_76, kd_77, kd_78, kd_79, kd_80, kd_81, kd_82, kd_83, kd_84, kd_85, kd_86, kd_87, kd_88, kd_89, kd_90, kd_91, kd_92, kd_93, kd_94, kd_95, kd_96, kd_97, kd_98, kd_99, kd_100, kd_101, kd_102, kd_103, kd_104, kd_105, kd_106, kd_107, kd_108]; done))
            | (refine Eq.trans (if_neg ?_) ?_; · first | omega | (simp (disch := omega) only [cd, h3, t2, Int.reduceLT, Int.reduceLE, Int.reduceEq, Int.reduceNe, Int.reduceNeg, Int.reduceAdd, Int.reduceSub, Int.reduceMul, Int.reduceGE, Int.reduceGT, Nat.reduceEqDiff, Nat.reduceAdd, and_true, true_and, and_self, not_true_eq_false, not_false_eq_true, ne_eq, and_false, false_and, or_false, or_true, false_or, true_or, vx_some, eq_self, ↓reduceIte, ite_t1, ite_t2, ite_t3, le_T, le_F, lt_T, lt_F, ge_T, ge_F, gt_T, gt_F, eq_T, eq_F, w32_i, kd_1, kd_2, kd_3, kd_4, kd_5, kd_6, kd_7, kd_14, kd_15, kd_16, kd_29, kd_34, kd_56, kd_74, kd_75, kd_76, kd_77, kd_78, kd_79, kd_80, kd_81, kd_82, kd_83, kd_84, kd_85, kd_86, kd_87, kd_88, kd_89, kd_90, kd_91, kd_92, kd_93, kd_94, kd_95, kd_96, kd_97, kd_98, kd_99, kd_100, kd_101, kd_102, kd_103, kd_104, kd_105, kd_106, kd_107, kd_108]; done))
            | (refine Eq.trans (bnd (r := ?_) ?_) ?_; rotate_left 1; (focus (simp (disch := omega) only [cd, h3, t2, Int.reduceLT, Int.reduceLE, Int.reduceEq, Int.reduceNe, Int.reduceNeg, Int.reduceAdd, Int.reduceSub, Int.reduceMul, Int.reduceGE, Int.reduceGT, Nat.reduceEqDiff, Nat.reduceAdd, and_true, true_and, and_self, not_true_eq_false, not_false_eq_true, ne_eq, and_false, false_and, or_false, or_true, false_or, true_or, vx_some, eq_self, ↓reduceIte, ite_t1, ite_t2, ite_t3, le_T, le_F, lt_T, lt_F, ge_T, ge_F, gt_T, gt_F, eq_T, eq_F, w32_i, kd_1, kd_2, kd_3, kd_4, kd_5, kd_6, kd_7, kd_14, kd_15, kd_16, kd_29, kd_34, kd_56, kd_74, kd_75, kd_76, kd_77, kd_78, kd_79, kd_80, kd_81, kd_82, kd_83, kd_84, kd_85, kd_86, kd_87, kd_88, kd_89, kd_90, kd_91, kd_92, kd_93, kd_94, kd_95, kd_96, kd_97, kd_98, kd_99, kd_100, kd_101, kd_102, kd_103, kd_104, kd_105, kd_106, kd_107, kd_108]; exact rfl)); simp only [vx_some])
          all_goals simp only [h3, ek, epk]
        have st2 : vp 178 153 [(2, 88), (0, (k : Int))] [] (n, M) = vp 178 153 [(2, 88), (0, (k : Int) + 1)] [] (n, M) := by
          clear ih fin W cd T
          generalize hr M (p + k) = c at *
          refine Eq.trans (e_X12_goOn_153 ..) ?_
          repeat first
            | (refine Eq.trans (if_pos ?_) ?_; · first | omega | (simp (disch := omega) only [he, id, Int.reduceLT, Int.reduceLE, Int.reduceEq, Int.reduceNe, Int.reduceNeg, Int.reduceAdd, Int.reduceSub, Int.reduceMul, Int.reduceGE, Int.reduceGT, Nat.reduceEqDiff, Nat.reduceAdd, and_true, true_and, and_self, not_true_eq_false, not_false_eq_true, ne_eq, and_false, false_and, or_false, or_true, false_or, true_or, vx_some, eq_self, ↓reduceIte, ite_t1, ite_t2, ite_t3, le_T, le_F, lt_T, lt_F, ge_T, ge_F, gt_T, gt_F, eq_T, eq_F, w32_i, kd_1, kd_2, kd_3, kd_4, kd_5, kd_6, kd_7, kd_14, kd_15, kd_16, kd_29, kd_34, kd_56, kd_74, kd_75, kd_76, kd_77, kd_78, kd_79, kd_80, kd_81, kd_82, kd_83, kd_84, kd_85, kd_86, kd_87, kd_88, kd_89, kd_90, kd_91, kd_92, kd_93, kd_94, kd_95, kd_96, kd_97, kd_98, kd_99, kd_100, kd_101, kd_102, kd_103, kd_104, kd_105, kd_106, kd_107, kd_108]; done))
            | (refine Eq.trans (if_neg ?_) ?_; · first | omega | (simp (disch := omega) only [he, id, Int.reduceLT, Int.reduceLE, Int.reduceEq, Int.reduceNe, Int.reduceNeg, Int.reduceAdd, Int.reduceSub, Int.reduceMul, Int.reduceGE, Int.reduceGT, Nat.reduceEqDiff, Nat.reduceAdd, and_true, true_and, and_self, not_true_eq_false, not_false_eq_true, ne_eq, and_false, false_and, or_false, or_true, false_or, true_or, vx_some, eq_self, ↓reduceIte, ite_t1, ite_t2, ite_t3, le_T, le_F, lt_T, lt_F, ge_T, ge_F, gt_T, gt_F, eq_T, eq_F, w32_i, kd_1, kd_2, kd_3, kd_4, kd_5, kd_6, kd_7, kd_14, kd_15, kd_16, kd_29, kd_34, kd_56, kd_74, kd_75, kd_76, kd_77, kd_78, kd_79, kd_80, kd_81, kd_82, kd_83, kd_84, kd_85, kd_86, kd_87, kd_88, kd_89, kd_90, kd_91, kd_92, kd_93, kd_94, kd_95, kd_96, kd_97, kd_98, kd_99, kd_100, kd_101, kd_102, kd_103, kd_104, kd_105, kd_106, kd_107, kd_108]; done))
            | (refine Eq.trans (bnd (r := ?_) ?_) ?_; rotate_left 1; (focus (simp (disch := omega) only [he, id, Int.reduceLT, Int.reduceLE, Int.reduceEq, Int.reduceNe, Int.reduceNeg, Int.reduceAdd, Int.reduceSub, Int.reduceMul, Int.reduceGE, Int.reduceGT, Nat.reduceEqDiff, Nat.reduceAdd, and_true, true_and, and_self, not_true_eq_false, not_false_eq_true, ne_eq, and_false, false_and, or_false, or_true, false_or, true_or, vx_some, eq_self, ↓reduceIte, ite_t1, ite_t2, ite_t3, le_T, le_F, lt_T, lt_F, ge_T, ge_F, gt_T, gt_F, eq_T, eq_F, w32_i, kd_1, kd_2, kd_3, kd_4, kd_5, kd_6, kd_7, kd_14, kd_15, kd_16, kd_29, kd_34, kd_56, kd_74, kd_75, kd_76, kd_77, kd_78, kd_79, kd_80, kd_81, kd_82, kd_83, kd_84, kd_85, kd_86, kd_87, kd_88, kd_89, kd_90, kd_91, kd_92, kd_93, kd_94, kd_95, kd_96, kd_97, kd_98, kd_99, kd_100, kd_101, kd_102, kd_103, kd_104, kd_105, kd_106, kd_107, kd_108]; exact rfl)); simp only [vx_some])
          all_goals rw [ek]
        obtain ⟨k', m', M', s, a1, a2, a3, a4, a5, a6, a7, a8, a9, a10, a11⟩ := ih (k + 1) p _ M (T.fr (frl3 _ _) (FRg.rf M)) p0 (by omega) (by rw [stm_same]; omega) g3 (Or.inr (by omega))
        refine ⟨k', m', M', s, by omega, by rw [st1]; exact a2, by rw [st2]; exact a3, (frl3 _ _).tr a4, a5, ⟨a6.1, ?_, ?_⟩, a7, a8, a9, a10, a11⟩
        · rw [a6.2.1, stm_ap, if_neg (by omega)]
        · rw [a6.2.2, stm_ap, if_neg (by omega)]
end
