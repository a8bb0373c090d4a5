/-! THE PURE PART: the text: words -/
section
variable {n : Int} {m M : Mm}
theorem wd_both : ∀ (r k : Nat) (p : Int) (m M : Mm) (z : Vl), TX m M → 0 ≤ p → p + k + r = M 88 2 → m 4 3 = p + k → m 4 8 = k → M 88 3 = p → WI m M k → ∃ (k' : Nat) (m' M' : Mm), (k ≤ k' ∧ p + k' ≤ M 88 2) ∧ vp 24 10 [(2, 4), z] [] (n, m) = vp 24 100 [(2, 4), (0, 0)] [] (n, m') ∧ vp 178 78 [(2, 88), (0, (k : Int))] [] (n, M) = some (none, (n, M')) ∧ FRl m m' ∧ FRg M M' ∧ (m' 4 3 = p + k' ∧ m' 4 8 = k' ∧ m' 4 5 = m 4 5 ∧ m' 4 9 = m 4 9) ∧ (M' 88 3 = p + k' ∧ M' 88 7 = k' ∧ M' 88 4 = M 88 4) ∧ isLt (hr M (p + k')) = 0 ∧ WI m' M' k' ∧ m' 4 4 = (if k' ≤ 8 then 3 else 4) ∧ M' 88 5 = (if k' ≤ 8 then 1 else 4) := by
  have fin : ∀ (k : Nat) (p : Int) (m M : Mm) (z : Vl), TX m M → 0 ≤ p → p + k ≤ M 88 2 → m 4 3 = p + k → m 4 8 = k → M 88 3 = p → WI m M k → isLt (hr M (p + k)) = 0 → ∃ (k' : Nat) (m' M' : Mm), (k ≤ k' ∧ p + k' ≤ M 88 2) ∧ vp 24 10 [(2, 4), z] [] (n, m) = vp 24 100 [(2, 4), (0, 0)] [] (n, m') ∧ vp 178 78 [(2, 88), (0, (k : Int))] [] (n, M) = some (none, (n, M')) ∧ FRl m m' ∧ FRg M M' ∧ (m' 4 3 = p + k' ∧ m' 4 8 = k' ∧ m' 4 5 = m 4 5 ∧ m' 4 9 = m 4 9) ∧ (M' 88 3 = p + k' ∧ M' 88 7 = k' ∧ M' 88 4 = M 88 4) ∧ isLt (hr M (p + k')) = 0 ∧ WI m' M' k' ∧ m' 4 4 = (if k' ≤ 8 then 3 else 4) ∧ M' 88 5 = (if k' ≤ 8 then 1 else 4) := by
    intro k p m M z T p0 pk h3 h8 g3 W hl
    obtain ⟨m', M', r1, r2, e1, e2⟩ := wd_end (n := n) (z := z) T p0 pk h3 h8 g3 W hl
    have f1 : ∀ q : Int, q ≠ 4 → m' 4 q = m 4 q := fun q hq => by rw [e1, stm_ap, if_neg (by omega)]
    have f2 : ∀ q : Int, q ≠ 3 → q ≠ 5 → q ≠ 7 → M' 88 q = M 88 q := fun q a b c => by rw [e2, stm_ap, if_neg (by omega), stm_ap, if_neg (by omega), stm_ap, if_neg (by omega)]
    refine ⟨k, m', M', by omega, r1, r2, ?_, ?_, ⟨by rw [f1 3 (by omega)]; exact h3, by rw [f1 8 (by omega)]; exact h8, f1 5 (by omega), f1 9 (by omega)⟩, ⟨by rw [e2, stm_same], by rw [e2, stm_ap, if_neg (by omega), stm_same], f2 4 (by omega) (by omega) (by omega)⟩, hl, ?_, by rw [e1, stm_same], by rw [e2, stm_ap, if_neg (by omega), stm_ap, if_neg (by omega), stm_same]⟩
    · intro o q h
      rw [e1, stm_ap, if_neg (by omega)]
    · intro o q h
      rw [e2, stm_ap, if_neg (by omega), stm_ap, if_neg (by omega), stm_ap, if_neg (by omega)]
    · unfold WI at W ⊢
      rw [f1 7 (by omega), f2 12 (by omega) (by omega) (by omega)]
      exact W
  intro r
  induction r with
  | zero =>
    intro k p m M z T p0 e h3 h8 g3 W
    refine fin k p m M z T p0 (by omega) h3 h8 g3 W ?_
    rw [show hr M (p + k) = -1 from (hr_def _ _).trans (if_neg (by omega))]
    exact isLt_m
  | succ r ih =>
    intro k p m M z T p0 e h3 h8 g3 W
    rcases isLt_01 (hr M (p + k)) with hl | hl
    · exact fin k p m M z T p0 (by omega) h3 h8 g3 W hl
    · have t1 := T.2.1
      have t2 := T.2.2.1
      have t3 := T.2.2.2.1
      have cl := c_isLt (n := n) T h3 (by omega)
      rw [hl] at cl
      have he := p_here (n := n) T.1.2 (k := (k : Int)) (by omega) (by omega) t3.2
      rw [g3] at he
      have il := p_isLt (hr M (p + k)) (n, M)
      rw [hl] at il
      have l1 := isLt_1 hl
      have hi := hr_in (M := M) (q := p + k) (by omega)
      have bt := T.bt (p := p + k) (by omega) hi.1
      by_cases k8 : k < 8
      · obtain ⟨W1, W2, W3, W4⟩ : k ≤ 8 ∧ M 88 12 = CV (m 4 7) ∧ 0 ≤ m 4 7 ∧ m 4 7 < p32 k := by
          rcases W with W | W
          · exact W
          · omega
        have pl : p32 k ≤ 34359738368 := by
          have : ∀ a : Nat, a < 8 → p32 a ≤ 34359738368 := by decide +kernel
          exact this k k8
        have ca := CV_add (w := m 4 7) (d := hr M (p + k) - 96) W3 (by omega) (by omega) (by omega)
        have cw := c_letter (w := m 4 7) (c := hr M (p + k)) W3 (by omega) l1.1 l1.2 (n, m)
        have ls : lbor (lbshl (M 88 12) 8) (hr M (p + k)) = 256 * CV (m 4 7) + hr M (p + k) := by
          rw [W2]
          exact lsh8 ca.2.1 (by omega) (by omega) (by omega)
        have b2 : m 2 (p + k) = hr M (p + k) := by omega
        have st1 : vp 24 10 [(2, 4), z] [] (n, m) = vp 24 10 [(2, 4), (9, 0)] [] (n, stm (stm (stm m 4 7 (32 * m 4 7 + (hr M (p + k) - 96))) 4 8 ((k : Int) + 1)) 4 3 (p + (k : Int) + 1)) := by
          clear ih fin W he il ls ca T
          generalize hr M (p + k) = c at *
          generalize M 88 2 = N at *
          have x8 : ∀ v : Int, stm m 4 7 v 4 8 = (k : Int) := fun v => by rw [stm_ap, if_neg (by omega)]; exact h8
          have x3 : ∀ v w : Int, stm (stm m 4 7 v) 4 8 w 4 3 = p + (k : Int) := fun v w => by rw [stm_ap, if_neg (by omega), stm_ap, if_neg (by omega)]; exact h3
          refine Eq.trans (e_X3_readWord_10 ..) ?_
          repeat first
            | (refine Eq.trans (if_pos ?_) ?_; · first | omega | (simp (disch := omega) only [cl, h3, t2, h8, t1, b2, cw, Int.reduceLT, Int.reduceLE, Int.reduceEq, Int.reduceNe, Int.reduceNeg, Int.reduceAdd, Int.reduceSub, Int.reduceMul, Int.reduceGE, Int.reduceGT, Nat.reduceEqDiff, Nat.reduceAdd, and_true, true_and, and_self, not_true_eq_false, not_false_eq_true, ne_eq, and_false, false_and, or_false, or_true, false_or, true_or, vx_some, eq_self, ↓reduceIte, ite_t1, ite_t2, ite_t3, le_T, le_F, lt_T, lt_F, ge_T, ge_F, gt_T, gt_F, eq_T, eq_F, w32_i, kd_1, kd_2, kd_3, kd_4, kd_5, kd_6, kd_7, kd_14, kd_15, kd_16, kd_29, kd_34, kd_56, kd_74, kd_75, kd_76, kd_77, kd_78, kd_79, kd_80, kd_81, kd_82, kd_83, kd_84, kd_85, kd_86, kd_87, kd_88, kd_89, kd_90, kd_91, kd_92, kd_93, kd_94, kd_95, kd_96, kd_97, kd_98, kd_99, kd_100, kd_101, kd_102, kd_103, kd_104, kd_105, kd_106, kd_107, kd_108]; done))
            | (refine Eq.trans (if_neg ?_) ?_; · first | omega | (simp (disch := omega) only [cl, h3, t2, h8, t1, b2, cw, Int.reduceLT, Int.reduceLE, Int.reduceEq, Int.reduceNe, Int.reduceNeg, Int.reduceAdd, Int.reduceSub, Int.reduceMul, Int.reduceGE, Int.reduceGT, Nat.reduceEqDiff, Nat.reduceAdd, and_true, true_and, and_self, not_true_eq_false, not_false_eq_true, ne_eq, and_false, false_and, or_false, or_true, false_or, true_or, vx_some, eq_self, ↓reduceIte, ite_t1, ite_t2, ite_t3, le_T, le_F, lt_T, lt_F, ge_T, ge_F, gt_T, gt_F, eq_T, eq_F, w32_i, kd_1, kd_2, kd_3, kd_4, kd_5, kd_6, kd_7, kd_14, kd_15, kd_16, kd_29, kd_34, kd_56, kd_74, kd_75, kd_76, kd_77, kd_78, kd_79, kd_80, kd_81, kd_82, kd_83, kd_84, kd_85, kd_86, kd_87, kd_88, kd_89, kd_90, kd_91, kd_92, kd_93, kd_94, kd_95, kd_96, kd_97, kd_98, kd_99, kd_100, kd_101, kd_102, kd_103, kd_104, kd_105, kd_106, kd_107, kd_108]; done))
            | (refine Eq.trans (bnd (r := ?_) ?_) ?_; rotate_left 1; (focus (simp (disch := omega) only [cl, h3, t2, h8, t1, b2, cw, Int.reduceLT, Int.reduceLE, Int.reduceEq, Int.reduceNe, Int.reduceNeg, Int.reduceAdd, Int.reduceSub, Int.reduceMul, Int.reduceGE, Int.reduceGT, Nat.reduceEqDiff, Nat.reduceAdd, and_true, true_and, and_self, not_true_eq_false, not_false_eq_true, ne_eq, and_false, false_and, or_false, or_true, false_or, true_or, vx_some, eq_self, ↓reduceIte, ite_t1, ite_t2, ite_t3, le_T, le_F, lt_T, lt_F, ge_T, ge_F, gt_T, gt_F, eq_T, eq_F, w32_i, kd_1, kd_2, kd_3, kd_4, kd_5, kd_6, kd_7, kd_14, kd_15, kd_16, kd_29, kd_34, kd_56, kd_74, kd_75, kd_76, kd_77, kd_78, kd_79, kd_80, kd_81, kd_82, kd_83, kd_84, kd_85, kd_86, kd_87, kd_88, kd_89, kd_90, kd_91, kd_92, kd_93, kd_94, kd_95, kd_96, kd_97, kd_98, kd_99, kd_100, kd_101, kd_102, kd_103, kd_104, kd_105, kd_106, kd_107, kd_108]; exact rfl)); simp only [vx_some])
          all_goals simp (disch := omega) only [x8, x3, w32_i]
        have st2 : vp 178 78 [(2, 88), (0, (k : Int))] [] (n, M) = vp 178 78 [(2, 88), (0, (k : Int) + 1)] [] (n, stm M 88 12 (256 * CV (m 4 7) + hr M (p + k))) := by
          clear ih fin W cl cw ca T
          generalize hr M (p + k) = c at *
          refine Eq.trans (e_X12_goOn_78 ..) ?_
          repeat first
            | (refine Eq.trans (if_pos ?_) ?_; · first | omega | (simp (disch := omega) only [he, il, Int.reduceLT, Int.reduceLE, Int.reduceEq, Int.reduceNe, Int.reduceNeg, Int.reduceAdd, Int.reduceSub, Int.reduceMul, Int.reduceGE, Int.reduceGT, Nat.reduceEqDiff, Nat.reduceAdd, and_true, true_and, and_self, not_true_eq_false, not_false_eq_true, ne_eq, and_false, false_and, or_false, or_true, false_or, true_or, vx_some, eq_self, ↓reduceIte, ite_t1, ite_t2, ite_t3, le_T, le_F, lt_T, lt_F, ge_T, ge_F, gt_T, gt_F, eq_T, eq_F, w32_i, kd_1, kd_2, kd_3, kd_4, kd_5, kd_6, kd_7, kd_14, kd_15, kd_16, kd_29, kd_34, kd_56, kd_74, kd_75, kd_76, kd_77, kd_78, kd_79, kd_80, kd_81, kd_82, kd_83, kd_84, kd_85, kd_86, kd_87, kd_88, kd_89, kd_90, kd_91, kd_92, kd_93, kd_94, kd_95, kd_96, kd_97, kd_98, kd_99, kd_100, kd_101, kd_102, kd_103, kd_104, kd_105, kd_106, kd_107, kd_108]; done))
            | (refine Eq.trans (if_neg ?_) ?_; · first | omega | (simp (disch := omega) only [he, il, Int.reduceLT, Int.reduceLE, Int.reduceEq, Int.reduceNe, Int.reduceNeg, Int.reduceAdd, Int.reduceSub, Int.reduceMul, Int.reduceGE, Int.reduceGT, Nat.reduceEqDiff, Nat.reduceAdd, and_true, true_and, and_self, not_true_eq_false, not_false_eq_true, ne_eq, and_false, false_and, or_false, or_true, false_or, true_or, vx_some, eq_self, ↓reduceIte, ite_t1, ite_t2, ite_t3, le_T, le_F, lt_T, lt_F, ge_T, ge_F, gt_T, gt_F, eq_T, eq_F, w32_i, kd_1, kd_2, kd_3, kd_4, kd_5, kd_6, kd_7, kd_14, kd_15, kd_16, kd_29, kd_34, kd_56, kd_74, kd_75, kd_76, kd_77, kd_78, kd_79, kd_80, kd_81, kd_82, kd_83, kd_84, kd_85, kd_86, kd_87, kd_88, kd_89, kd_90, kd_91, kd_92, kd_93, kd_94, kd_95, kd_96, kd_97, kd_98, kd_99, kd_100, kd_101, kd_102, kd_103, kd_104, kd_105, kd_106, kd_107, kd_108]; done))
            | (refine Eq.trans (bnd (r := ?_) ?_) ?_; rotate_left 1; (focus (simp (disch := omega) only [he, il, Int.reduceLT, Int.reduceLE, Int.reduceEq, Int.reduceNe, Int.reduceNeg, Int.reduceAdd, Int.reduceSub, Int.reduceMul, Int.reduceGE, Int.reduceGT, Nat.reduceEqDiff, Nat.reduceAdd, and_true, true_and, and_self, not_true_eq_false, not_false_eq_true, ne_eq, and_false, false_and, or_false, or_true, false_or, true_or, vx_some, eq_self, ↓reduceIte, ite_t1, ite_t2, ite_t3, le_T, le_F, lt_T, lt_F, ge_T, ge_F, gt_T, gt_F, eq_T, eq_F, w32_i, kd_1, kd_2, kd_3, kd_4, kd_5, kd_6, kd_7, kd_14, kd_15, kd_16, kd_29, kd_34, kd_56, kd_74, kd_75, kd_76, kd_77, kd_78, kd_79, kd_80, kd_81, kd_82, kd_83, kd_84, kd_85, kd_86, kd_87, kd_88, kd_89, kd_90, kd_91, kd_92, kd_93, kd_94, kd_95, kd_96, kd_97, kd_98, kd_99, kd_100, kd_101, kd_102, kd_103, kd_104, kd_105, kd_106, kd_107, kd_108]; exact rfl)); simp only [vx_some])
          all_goals simp (disch := omega) only [ls, w32_i]
        have fr1 : FRl m (stm (stm (stm m 4 7 (32 * m 4 7 + (hr M (p + k) - 96))) 4 8 ((k : Int) + 1)) 4 3 (p + (k : Int) + 1)) := fun o q h => by rw [stm_ap, if_neg (by omega), stm_ap, if_neg (by omega), stm_ap, if_neg (by omega)]
        have fr2 : FRg M (stm M 88 12 (256 * CV (m 4 7) + hr M (p + k))) := fun o q h => by rw [stm_ap, if_neg (by omega)]
        have y7 : (stm (stm (stm m 4 7 (32 * m 4 7 + (hr M (p + k) - 96))) 4 8 ((k : Int) + 1)) 4 3 (p + (k : Int) + 1)) 4 7 = 32 * m 4 7 + (hr M (p + k) - 96) := by rw [stm_ap, if_neg (by omega), stm_ap, if_neg (by omega), stm_same]
        have y12 : (stm M 88 12 (256 * CV (m 4 7) + hr M (p + k))) 88 12 = 256 * CV (m 4 7) + hr M (p + k) := stm_same _ _ _ _
        obtain ⟨k', m', M', a1, a2, a3, a4, a5, a6, a7, a8, a9⟩ := ih (k + 1) p _ _ (9, 0) (T.fr fr1 fr2) p0 (by rw [fr2 88 2 (by omega)]; omega) (by rw [stm_same]; omega) (by rw [stm_ap, if_neg (by omega), stm_same]; omega) (by rw [stm_ap, if_neg (by omega)]; exact g3) (Or.inl ⟨by omega, by rw [y7, y12, ca.1]; omega, by rw [y7]; omega, by rw [y7, p32_s]; omega⟩)
        rw [fr2 88 2 (by omega)] at a1
        rw [hr_fr fr2] at a8
        refine ⟨k', m', M', by omega, by rw [st1]; exact a2, by rw [st2]; exact a3, fr1.tr a4, fr2.tr a5, ⟨a6.1, a6.2.1, ?_, ?_⟩, ⟨a7.1, a7.2.1, ?_⟩, a8, a9⟩
        · rw [a6.2.2.1, stm_ap, if_neg (by omega), stm_ap, if_neg (by omega), stm_ap, if_neg (by omega)]
        · rw [a6.2.2.2, stm_ap, if_neg (by omega), stm_ap, if_neg (by omega), stm_ap, if_neg (by omega)]
        · rw [a7.2.2, stm_ap, if_neg (by omega)]
      · have st1 : vp 24 10 [(2, 4), z] [] (n, m) = vp 24 10 [(2, 4), (9, 0)] [] (n, stm (stm m 4 8 ((k : Int) + 1)) 4 3 (p + (k : Int) + 1)) := by
          clear ih fin W he il T
          generalize hr M (p + k) = c at *
          generalize M 88 2 = N at *
          have x3 : ∀ w : Int, stm m 4 8 w 4 3 = p + (k : Int) := fun w => by rw [stm_ap, if_neg (by omega)]; exact h3
          refine Eq.trans (e_X3_readWord_10 ..) ?_
          repeat first
            | (refine Eq.trans (if_pos ?_) ?_; · first | omega | (simp (disch := omega) only [cl, h3, t2, h8, t1, Int.reduceLT, Int.reduceLE, Int.reduceEq, Int.reduceNe, Int.reduceNeg, Int.reduceAdd, Int.reduceSub, Int.reduceMul, Int.reduceGE, Int.reduceGT, Nat.reduceEqDiff, Nat.reduceAdd, and_true, true_and, and_self, not_true_eq_false, not_false_eq_true, ne_eq, and_false, false_and, or_false, or_true, false_or, true_or, vx_some, eq_self, ↓reduceIte, ite_t1, ite_t2, ite_t3, le_T, le_F, lt_T, lt_F, ge_T, ge_F, gt_T, gt_F, eq_T, eq_F, w32_i, kd_1, kd_2, kd_3, kd_4, kd_5, kd_6, kd_7, kd_14, kd_15, kd_16, kd_29, kd_34, kd_56, kd_74, kd_75, kd_76, kd_77, kd_78, kd_79, kd_80, kd_81, kd_82, kd_83, kd_84, kd_85, kd_86, kd_87, kd_88, kd_89, kd_90, kd_91, kd_92, kd_93, kd_94, kd_95, kd_96, kd_97, kd_98, kd_99, kd_100, kd_101, kd_102, kd_103, kd_104, kd_105, kd_106, kd_107, kd_108]; done))
            | (refine Eq.trans (if_neg ?_) ?_; · first | omega | (simp (disch := omega) only [cl, h3, t2, h8, t1, Int.reduceLT, Int.reduceLE, Int.reduceEq, Int.reduceNe, Int.reduceNeg, Int.reduceAdd, Int.reduceSub, Int.reduceMul, Int.reduceGE, Int.reduceGT, Nat.reduceEqDiff, Nat.reduceAdd, and_true, true_and, and_self, not_true_eq_false, not_false_eq_true, ne_eq, and_false, false_and, or_false, or_true, false_or, true_or, vx_some, eq_self, ↓reduceIte, ite_t1, ite_t2, ite_t3, le_T, le_F, lt_T, lt_F, ge_T, ge_F, gt_T, gt_F, eq_T, eq_F, w32_i, kd_1, kd_2, kd_3, kd_4, kd_5, kd_6, kd_7, kd_14, kd_15, kd_16, kd_29, kd_34, kd_56, kd_74, kd_75, kd_76, kd_77, kd_78, kd_79, kd_80, kd_81, kd_82, kd_83, kd_84, kd_85, kd_86, kd_87, kd_88, kd_89, kd_90, kd_91, kd_92, kd_93, kd_94, kd_95, kd_96, kd_97, kd_98, kd_99, kd_100, kd_101, kd_102, kd_103, kd_104, kd_105, kd_106, kd_107, kd_108]; done))
            | (refine Eq.trans (bnd (r := ?_) ?_) ?_; rotate_left 1; (focus (simp (disch := omega) only [cl, h3, t2, h8, t1, Int.reduceLT, Int.reduceLE, Int.reduceEq, Int.reduceNe, Int.reduceNeg, Int.reduceAdd, Int.reduceSub, Int.reduceMul, Int.reduceGE, Int.reduceGT, Nat.reduceEqDiff, Nat.reduceAdd, and_true, true_and, and_self, not_true_eq_false, not_false_eq_true, ne_eq, and_false, false_and, or_false, or_true, false_or, true_or, vx_some, eq_self, ↓reduceIte, ite_t1, ite_t2, ite_t3, le_T, le_F, lt_T, lt_F, ge_T, ge_F, gt_T, gt_F, eq_T, eq_F, w32_i, kd_1, kd_2, kd_3, kd_4, kd_5, kd_6, kd_7, kd_14, kd_15, kd_16, kd_29, kd_34, kd_56, kd_74, kd_75, kd_76, kd_77, kd_78, kd_79, kd_80, kd_81, kd_82, kd_83, kd_84, kd_85, kd_86, kd_87, kd_88, kd_89, kd_90, kd_91, kd_92, kd_93, kd_94, kd_95, kd_96, kd_97, kd_98, kd_99, kd_100, kd_101, kd_102, kd_103, kd_104, kd_105, kd_106, kd_107, kd_108]; exact rfl)); simp only [vx_some])
          all_goals simp (disch := omega) only [h8, x3, w32_i]
        have st2 : vp 178 78 [(2, 88), (0, (k : Int))] [] (n, M) = vp 178 78 [(2, 88), (0, (k : Int) + 1)] [] (n, M) := by
          clear ih fin W cl T
          generalize hr M (p + k) = c at *
          refine Eq.trans (e_X12_goOn_78 ..) ?_
          repeat first
            | (refine Eq.trans (if_pos ?_) ?_; · first | omega | (simp (disch := omega) only [he, il, Int.reduceLT, Int.reduceLE, Int.reduceEq, Int.reduceNe, Int.reduceNeg, Int.reduceAdd, Int.reduceSub, Int.reduceMul, Int.reduceGE, Int.reduceGT, Nat.reduceEqDiff, Nat.reduceAdd, and_true, true_and, and_self, not_true_eq_false, not_false_eq_true, ne_eq, and_false, false_and, or_false, or_true, false_or, true_or, vx_some, eq_self, ↓reduceIte, ite_t1, ite_t2, ite_t3, le_T, le_F, lt_T, lt_F, ge_T, ge_F, gt_T, gt_F, eq_T, eq_F, w32_i, kd_1, kd_2, kd_3, kd_4, kd_5, kd_6, kd_7, kd_14, kd_15, kd_16, kd_29, kd_34, kd_56, kd_74, kd_75, kd_76, kd_77, kd_78, kd_79, kd_80, kd_81, kd_82, kd_83, kd_84, kd_85, kd_86, kd_87, kd_88, kd_89, kd_90, kd_91, kd_92, kd_93, kd_94, kd_95, kd_96, kd_97, kd_98, kd_99, kd_100, kd_101, kd_102, kd_103, kd_104, kd_105, kd_106, kd_107, kd_108]; done))
            | (refine Eq.trans (if_neg ?_) ?_; · first | omega | (simp (disch := omega) only [he, il, Int.reduceLT, Int.reduceLE, Int.reduceEq, Int.reduceNe, Int.reduceNeg, Int.reduceAdd, Int.reduceSub, Int.reduceMul, Int.reduceGE, Int.reduceGT, Nat.reduceEqDiff, Nat.reduceAdd, and_true, true_and, and_self, not_true_eq_false, not_false_eq_true, ne_eq, and_false, false_and, or_false, or_true, false_or, true_or, vx_some, eq_self, ↓reduceIte, ite_t1, ite_t2, ite_t3, le_T, le_F, lt_T, lt_F, ge_T, ge_F, gt_T, gt_F, eq_T, eq_F, w32_i, kd_1, kd_2, kd_3, kd_4, kd_5, kd_6, kd_7, kd_14, kd_15, kd_16, kd_29, kd_34, kd_56, kd_74, kd_75, kd_76, kd_77, kd_78, kd_79, kd_80, kd_81, kd_82, kd_83, kd_84, kd_85, kd_86, kd_87, kd_88, kd_89, kd_90, kd_91, kd_92, kd_93, kd_94, kd_95, kd_96, kd_97, kd_98, kd_99, kd_100, kd_101, kd_102, kd_103, kd_104, kd_105, kd_106, kd_107, kd_108]; done))
            | (refine Eq.trans (bnd (r := ?_) ?_) ?_; rotate_left 1; (focus (simp (disch := omega) only [he, il, Int.reduceLT, Int.reduceLE, Int.reduceEq, Int.reduceNe, Int.reduceNeg, Int.reduceAdd, Int.reduceSub, Int.reduceMul, Int.reduceGE, Int.reduceGT, Nat.reduceEqDiff, Nat.reduceAdd, and_true, true_and, and_self, not_true_eq_false, not_false_eq_true, ne_eq, and_false, false_and, or_false, or_true, false_or, true_or, vx_some, eq_self, ↓reduceIte, ite_t1, ite_t2, ite_t3, le_T, le_F, lt_T, lt_F, ge_T, ge_F, gt_T, gt_F, eq_T, eq_F, w32_i, kd_1, kd_2, kd_3, kd_4, kd_5, kd_6, kd_7, kd_14, kd_15, kd_16, kd_29, kd_34, kd_56, kd_74, kd_75, kd_76, kd_77, kd_78, kd_79, kd_80, kd_81, kd_82, kd_83, kd_84, kd_85, kd_86, kd_87, kd_88, kd_89, kd_90, kd_91, kd_92, kd_93, kd_94, kd_95, kd_96, kd_97, kd_98, kd_99, kd_100, kd_101, kd_102, kd_103, kd_104, kd_105, kd_106, kd_107, kd_108]; exact rfl)); simp only [vx_some])
          all_goals simp (disch := omega) only [w32_i]
        have fr1 : FRl m (stm (stm m 4 8 ((k : Int) + 1)) 4 3 (p + (k : Int) + 1)) := fun o q h => by rw [stm_ap, if_neg (by omega), stm_ap, if_neg (by omega)]
        obtain ⟨k', m', M', a1, a2, a3, a4, a5, a6, a7, a8, a9⟩ := ih (k + 1) p _ M (9, 0) (T.fr fr1 (FRg.rf M)) p0 (by omega) (by rw [stm_same]; omega) (by rw [stm_ap, if_neg (by omega), stm_same]; omega) g3 (Or.inr (by omega))
        refine ⟨k', m', M', by omega, by rw [st1]; exact a2, by rw [st2]; exact a3, fr1.tr a4, a5, ⟨a6.1, a6.2.1, ?_, ?_⟩, a7, a8, a9⟩
        · rw [a6.2.2.1, stm_ap, if_neg (by omega), stm_ap, if_neg (by omega)]
        · rw [a6.2.2.2, stm_ap, if_neg (by omega), stm_ap, if_neg (by omega)]
end
