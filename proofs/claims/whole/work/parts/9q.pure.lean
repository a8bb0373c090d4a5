/-! THE PURE PART: the text: both read it whole -/
def FRP (D : Int) (m m' : Mm) : Prop := ∀ o q : Int, ¬ (CP D o q ∨ (o = 3 ∧ q = 1) ∨ (o = 4 ∧ 1 ≤ q)) → m' o q = m o q
def FRQ (m m' : Mm) : Prop := ∀ o q : Int, ¬ (MP o q ∨ (o = 88 ∧ (q = 1 ∨ q = 2))) → m' o q = m o q
theorem FRP.tr {D : Int} {m m' m'' : Mm} (e : FRP D m m') (e' : FRP D m' m'') : FRP D m m'' := fun o q h => (e' o q h).trans (e o q h)
theorem FRQ.tr {m m' m'' : Mm} (e : FRQ m m') (e' : FRQ m' m'') : FRQ m m'' := fun o q h => (e' o q h).trans (e o q h)
theorem FRp.P {D : Int} {m m' : Mm} (e : FRp D m m') : FRP D m m' := fun o q h => e o q (fun w => h (Or.inl w))
theorem FRq.Q {m m' : Mm} (e : FRq m m') : FRQ m m' := fun o q h => e o q (fun w => h (Or.inl w))
section
variable {n : Int} {m M : Mm} {D N : Int}
set_option maxHeartbeats 4000000 in
theorem c_start (hD : D = 30 ∨ D = 52) (F : FX m) (N0 : 0 ≤ N) (N1 : N ≤ 900) : ∃ mS : Mm, (∀ m' : Mm, vm 21 [(2, 4)] (n, mS) = some (none, (n, m')) → vm 65 [(2, 3), (2, 2), (0, N), (2, D)] (n, m) = vp 65 37 [(2, 3), (2, 2), (0, N), (2, D), (0, 1), (0, 0)] [] (n, m')) ∧ (mS 3 1 = D ∧ mS 3 2 = 0 ∧ mS 3 3 = -1) ∧ (mS 4 1 = 2 ∧ mS 4 2 = N ∧ mS 4 3 = 0) ∧ (mS D 5 = 0 ∧ mS D 6 = 0 ∧ mS D 7 = 0 ∧ mS D 8 = 0 ∧ mS D 9 = 4 ∧ mS D 10 = 2 ∧ mS D 11 = 4) ∧ FRP D m mS := by
  have kD := (plan_kd hD).1
  have D0 : 0 < D := by omega
  have c3 := F.c3_0
  have pm : ∀ h : Hq, vm 314 [(0, N), (0, 900)] h = some (some (0, N), h) := fun h => by rw [p_min, Int.min_eq_left (by omega)]
  refine ⟨stm (stm (stm (stm (stm (stm (stm (stm (stm (stm (stm (stm (stm m 3 1 D) D 5 0) D 6 0) D 7 0) D 8 0) D 9 4) D 10 2) D 11 4) 3 2 0) 3 3 (-1)) 4 1 2) 4 2 N) 4 3 0, fun m' r => ?_, ⟨?_, ?_, ?_⟩, ⟨?_, ?_, ?_⟩, ⟨?_, ?_, ?_, ?_, ?_, ?_, ?_⟩, fun o q h => ?_⟩
  · have z1 : ∀ v : Int, stm m 3 1 v 3 1 = v := fun v => stm_same _ _ _ _
    have z0 : ∀ a b c d e f g x y : Int, (stm (stm (stm (stm (stm (stm (stm (stm (stm (stm m 3 1 x) D 5 a) D 6 b) D 7 c) D 8 d) D 9 e) D 10 f) D 11 g) 3 2 y) 3 3 (-1)) 3 0 = 4 := fun a b c d e f g x y => by
      rw [stm_k (by omega), stm_k (by omega), stm_o (by omega), stm_o (by omega), stm_o (by omega), stm_o (by omega), stm_o (by omega), stm_o (by omega), stm_o (by omega), stm_k (by omega)]
      exact c3
    have r34 : vm 34 [(2, D)] (n, stm m 3 1 D) = some (none, (n, stm (stm (stm (stm (stm (stm (stm (stm m 3 1 D) D 5 0) D 6 0) D 7 0) D 8 0) D 9 4) D 10 2) D 11 4)) := by
      rw [e_X5_clear]
      repeat first
        | (refine Eq.trans (if_pos ?_) ?_; · first | omega | (simp (disch := omega) only [kD, Int.reduceLT, Int.reduceLE, Int.reduceEq, Int.reduceNe, Int.reduceNeg, Int.reduceAdd, Int.reduceSub, Int.reduceMul, Int.reduceGE, Int.reduceGT, Nat.reduceEqDiff, Nat.reduceAdd, and_true, true_and, and_self, not_true_eq_false, not_false_eq_true, ne_eq, and_false, false_and, or_false, or_true, false_or, true_or, vx_some, eq_self, ↓reduceIte, ite_t1, ite_t2, ite_t3, le_T, le_F, lt_T, lt_F, ge_T, ge_F, gt_T, gt_F, eq_T, eq_F, w32_i, kd_1, kd_2, kd_3, kd_4, kd_5, kd_6, kd_7, kd_14, kd_15, kd_16, kd_29, kd_34, kd_56, kd_74, kd_75, kd_76, kd_77, kd_78, kd_79, kd_80, kd_81, kd_82, kd_83, kd_84, kd_85, kd_86, kd_87, kd_88, kd_89, kd_90, kd_91, kd_92, kd_93, kd_94, kd_95, kd_96, kd_97, kd_98, kd_99, kd_100, kd_101, kd_102, kd_103, kd_104, kd_105, kd_106, kd_107, kd_108]; done))
        | (refine Eq.trans (if_neg ?_) ?_; · first | omega | (simp (disch := omega) only [kD, Int.reduceLT, Int.reduceLE, Int.reduceEq, Int.reduceNe, Int.reduceNeg, Int.reduceAdd, Int.reduceSub, Int.reduceMul, Int.reduceGE, Int.reduceGT, Nat.reduceEqDiff, Nat.reduceAdd, and_true, true_and, and_self, not_true_eq_false, not_false_eq_true, ne_eq, and_false, false_and, or_false, or_true, false_or, true_or, vx_some, eq_self, ↓reduceIte, ite_t1, ite_t2, ite_t3, le_T, le_F, lt_T, lt_F, ge_T, ge_F, gt_T, gt_F, eq_T, eq_F, w32_i, kd_1, kd_2, kd_3, kd_4, kd_5, kd_6, kd_7, kd_14, kd_15, kd_16, kd_29, kd_34, kd_56, kd_74, kd_75, kd_76, kd_77, kd_78, kd_79, kd_80, kd_81, kd_82, kd_83, kd_84, kd_85, kd_86, kd_87, kd_88, kd_89, kd_90, kd_91, kd_92, kd_93, kd_94, kd_95, kd_96, kd_97, kd_98, kd_99, kd_100, kd_101, kd_102, kd_103, kd_104, kd_105, kd_106, kd_107, kd_108]; done))
        | (refine Eq.trans (bnd (r := ?_) ?_) ?_; rotate_left 1; (focus (simp (disch := omega) only [kD, Int.reduceLT, Int.reduceLE, Int.reduceEq, Int.reduceNe, Int.reduceNeg, Int.reduceAdd, Int.reduceSub, Int.reduceMul, Int.reduceGE, Int.reduceGT, Nat.reduceEqDiff, Nat.reduceAdd, and_true, true_and, and_self, not_true_eq_false, not_false_eq_true, ne_eq, and_false, false_and, or_false, or_true, false_or, true_or, vx_some, eq_self, ↓reduceIte, ite_t1, ite_t2, ite_t3, le_T, le_F, lt_T, lt_F, ge_T, ge_F, gt_T, gt_F, eq_T, eq_F, w32_i, kd_1, kd_2, kd_3, kd_4, kd_5, kd_6, kd_7, kd_14, kd_15, kd_16, kd_29, kd_34, kd_56, kd_74, kd_75, kd_76, kd_77, kd_78, kd_79, kd_80, kd_81, kd_82, kd_83, kd_84, kd_85, kd_86, kd_87, kd_88, kd_89, kd_90, kd_91, kd_92, kd_93, kd_94, kd_95, kd_96, kd_97, kd_98, kd_99, kd_100, kd_101, kd_102, kd_103, kd_104, kd_105, kd_106, kd_107, kd_108]; exact rfl)); simp only [vx_some])
      all_goals with_reducible rfl
    have r20 : vm 20 [(2, 4), (2, 2), (0, N)] (n, stm (stm (stm (stm (stm (stm (stm (stm (stm (stm m 3 1 D) D 5 0) D 6 0) D 7 0) D 8 0) D 9 4) D 10 2) D 11 4) 3 2 0) 3 3 (-1)) = some (none, (n, m')) := by
      rw [e_X3_open]
      repeat first
        | (refine Eq.trans (if_pos ?_) ?_; · first | omega | (simp (disch := omega) only [Nat.reduceLeDiff, pm, r, Int.reduceLT, Int.reduceLE, Int.reduceEq, Int.reduceNe, Int.reduceNeg, Int.reduceAdd, Int.reduceSub, Int.reduceMul, Int.reduceGE, Int.reduceGT, Nat.reduceEqDiff, Nat.reduceAdd, and_true, true_and, and_self, not_true_eq_false, not_false_eq_true, ne_eq, and_false, false_and, or_false, or_true, false_or, true_or, vx_some, eq_self, ↓reduceIte, ite_t1, ite_t2, ite_t3, le_T, le_F, lt_T, lt_F, ge_T, ge_F, gt_T, gt_F, eq_T, eq_F, w32_i, kd_1, kd_2, kd_3, kd_4, kd_5, kd_6, kd_7, kd_14, kd_15, kd_16, kd_29, kd_34, kd_56, kd_74, kd_75, kd_76, kd_77, kd_78, kd_79, kd_80, kd_81, kd_82, kd_83, kd_84, kd_85, kd_86, kd_87, kd_88, kd_89, kd_90, kd_91, kd_92, kd_93, kd_94, kd_95, kd_96, kd_97, kd_98, kd_99, kd_100, kd_101, kd_102, kd_103, kd_104, kd_105, kd_106, kd_107, kd_108]; done))
        | (refine Eq.trans (if_neg ?_) ?_; · first | omega | (simp (disch := omega) only [Nat.reduceLeDiff, pm, r, Int.reduceLT, Int.reduceLE, Int.reduceEq, Int.reduceNe, Int.reduceNeg, Int.reduceAdd, Int.reduceSub, Int.reduceMul, Int.reduceGE, Int.reduceGT, Nat.reduceEqDiff, Nat.reduceAdd, and_true, true_and, and_self, not_true_eq_false, not_false_eq_true, ne_eq, and_false, false_and, or_false, or_true, false_or, true_or, vx_some, eq_self, ↓reduceIte, ite_t1, ite_t2, ite_t3, le_T, le_F, lt_T, lt_F, ge_T, ge_F, gt_T, gt_F, eq_T, eq_F, w32_i, kd_1, kd_2, kd_3, kd_4, kd_5, kd_6, kd_7, kd_14, kd_15, kd_16, kd_29, kd_34, kd_56, kd_74, kd_75, kd_76, kd_77, kd_78, kd_79, kd_80, kd_81, kd_82, kd_83, kd_84, kd_85, kd_86, kd_87, kd_88, kd_89, kd_90, kd_91, kd_92, kd_93, kd_94, kd_95, kd_96, kd_97, kd_98, kd_99, kd_100, kd_101, kd_102, kd_103, kd_104, kd_105, kd_106, kd_107, kd_108]; done))
        | (refine Eq.trans (bnd (r := ?_) ?_) ?_; rotate_left 1; (focus (simp (disch := omega) only [Nat.reduceLeDiff, pm, r, Int.reduceLT, Int.reduceLE, Int.reduceEq, Int.reduceNe, Int.reduceNeg, Int.reduceAdd, Int.reduceSub, Int.reduceMul, Int.reduceGE, Int.reduceGT, Nat.reduceEqDiff, Nat.reduceAdd, and_true, true_and, and_self, not_true_eq_false, not_false_eq_true, ne_eq, and_false, false_and, or_false, or_true, false_or, true_or, vx_some, eq_self, ↓reduceIte, ite_t1, ite_t2, ite_t3, le_T, le_F, lt_T, lt_F, ge_T, ge_F, gt_T, gt_F, eq_T, eq_F, w32_i, kd_1, kd_2, kd_3, kd_4, kd_5, kd_6, kd_7, kd_14, kd_15, kd_16, kd_29, kd_34, kd_56, kd_74, kd_75, kd_76, kd_77, kd_78, kd_79, kd_80, kd_81, kd_82, kd_83, kd_84, kd_85, kd_86, kd_87, kd_88, kd_89, kd_90, kd_91, kd_92, kd_93, kd_94, kd_95, kd_96, kd_97, kd_98, kd_99, kd_100, kd_101, kd_102, kd_103, kd_104, kd_105, kd_106, kd_107, kd_108]; exact rfl)); simp only [vx_some])
      all_goals with_reducible rfl
    clear F
    rw [e_X9_tells]
    repeat first
      | (refine Eq.trans (if_pos ?_) ?_; · first | omega | (simp (disch := omega) only [z1, kD, r34, z0, r20, Int.reduceLT, Int.reduceLE, Int.reduceEq, Int.reduceNe, Int.reduceNeg, Int.reduceAdd, Int.reduceSub, Int.reduceMul, Int.reduceGE, Int.reduceGT, Nat.reduceEqDiff, Nat.reduceAdd, and_true, true_and, and_self, not_true_eq_false, not_false_eq_true, ne_eq, and_false, false_and, or_false, or_true, false_or, true_or, vx_some, eq_self, ↓reduceIte, ite_t1, ite_t2, ite_t3, le_T, le_F, lt_T, lt_F, ge_T, ge_F, gt_T, gt_F, eq_T, eq_F, w32_i, kd_1, kd_2, kd_3, kd_4, kd_5, kd_6, kd_7, kd_14, kd_15, kd_16, kd_29, kd_34, kd_56, kd_74, kd_75, kd_76, kd_77, kd_78, kd_79, kd_80, kd_81, kd_82, kd_83, kd_84, kd_85, kd_86, kd_87, kd_88, kd_89, kd_90, kd_91, kd_92, kd_93, kd_94, kd_95, kd_96, kd_97, kd_98, kd_99, kd_100, kd_101, kd_102, kd_103, kd_104, kd_105, kd_106, kd_107, kd_108]; done))
      | (refine Eq.trans (if_neg ?_) ?_; · first | omega | (simp (disch := omega) only [z1, kD, r34, z0, r20, Int.reduceLT, Int.reduceLE, Int.reduceEq, Int.reduceNe, Int.reduceNeg, Int.reduceAdd, Int.reduceSub, Int.reduceMul, Int.reduceGE, Int.reduceGT, Nat.reduceEqDiff, Nat.reduceAdd, and_true, true_and, and_self, not_true_eq_false, not_false_eq_true, ne_eq, and_false, false_and, or_false, or_true, false_or, true_or, vx_some, eq_self, ↓reduceIte, ite_t1, ite_t2, ite_t3, le_T, le_F, lt_T, lt_F, ge_T, ge_F, gt_T, gt_F, eq_T, eq_F, w32_i, kd_1, kd_2, kd_3, kd_4, kd_5, kd_6, kd_7, kd_14, kd_15, kd_16, kd_29, kd_34, kd_56, kd_74, kd_75, kd_76, kd_77, kd_78, kd_79, kd_80, kd_81, kd_82, kd_83, kd_84, kd_85, kd_86, kd_87, kd_88, kd_89, kd_90, kd_91, kd_92, kd_93, kd_94, kd_95, kd_96, kd_97, kd_98, kd_99, kd_100, kd_101, kd_102, kd_103, kd_104, kd_105, kd_106, kd_107, kd_108]; done))
      | (refine Eq.trans (bnd (r := ?_) ?_) ?_; rotate_left 1; (focus (simp (disch := omega) only [z1, kD, r34, z0, r20, Int.reduceLT, Int.reduceLE, Int.reduceEq, Int.reduceNe, Int.reduceNeg, Int.reduceAdd, Int.reduceSub, Int.reduceMul, Int.reduceGE, Int.reduceGT, Nat.reduceEqDiff, Nat.reduceAdd, and_true, true_and, and_self, not_true_eq_false, not_false_eq_true, ne_eq, and_false, false_and, or_false, or_true, false_or, true_or, vx_some, eq_self, ↓reduceIte, ite_t1, ite_t2, ite_t3, le_T, le_F, lt_T, lt_F, ge_T, ge_F, gt_T, gt_F, eq_T, eq_F, w32_i, kd_1, kd_2, kd_3, kd_4, kd_5, kd_6, kd_7, kd_14, kd_15, kd_16, kd_29, kd_34, kd_56, kd_74, kd_75, kd_76, kd_77, kd_78, kd_79, kd_80, kd_81, kd_82, kd_83, kd_84, kd_85, kd_86, kd_87, kd_88, kd_89, kd_90, kd_91, kd_92, kd_93, kd_94, kd_95, kd_96, kd_97, kd_98, kd_99, kd_100, kd_101, kd_102, kd_103, kd_104, kd_105, kd_106, kd_107, kd_108]; exact rfl)); simp only [vx_some])
    all_goals with_reducible rfl
  · rw [stm_o (by omega), stm_o (by omega), stm_o (by omega), stm_k (by omega), stm_k (by omega), stm_o (by omega), stm_o (by omega), stm_o (by omega), stm_o (by omega), stm_o (by omega), stm_o (by omega), stm_o (by omega), stm_same]
  · rw [stm_o (by omega), stm_o (by omega), stm_o (by omega), stm_k (by omega), stm_same]
  · rw [stm_o (by omega), stm_o (by omega), stm_o (by omega), stm_same]
  · rw [stm_k (by omega), stm_k (by omega), stm_same]
  · rw [stm_k (by omega), stm_same]
  · rw [stm_same]
  · rw [stm_o (by omega), stm_o (by omega), stm_o (by omega), stm_o (by omega), stm_o (by omega), stm_k (by omega), stm_k (by omega), stm_k (by omega), stm_k (by omega), stm_k (by omega), stm_k (by omega), stm_same]
  · rw [stm_o (by omega), stm_o (by omega), stm_o (by omega), stm_o (by omega), stm_o (by omega), stm_k (by omega), stm_k (by omega), stm_k (by omega), stm_k (by omega), stm_k (by omega), stm_same]
  · rw [stm_o (by omega), stm_o (by omega), stm_o (by omega), stm_o (by omega), stm_o (by omega), stm_k (by omega), stm_k (by omega), stm_k (by omega), stm_k (by omega), stm_same]
  · rw [stm_o (by omega), stm_o (by omega), stm_o (by omega), stm_o (by omega), stm_o (by omega), stm_k (by omega), stm_k (by omega), stm_k (by omega), stm_same]
  · rw [stm_o (by omega), stm_o (by omega), stm_o (by omega), stm_o (by omega), stm_o (by omega), stm_k (by omega), stm_k (by omega), stm_same]
  · rw [stm_o (by omega), stm_o (by omega), stm_o (by omega), stm_o (by omega), stm_o (by omega), stm_k (by omega), stm_same]
  · rw [stm_o (by omega), stm_o (by omega), stm_o (by omega), stm_o (by omega), stm_o (by omega), stm_same]
  · have hc : ∀ p : Int, 5 ≤ p → ¬ (o = D ∧ q = p) := fun p hp w => h (Or.inl (Or.inr (Or.inr (Or.inl (by omega)))))
    have h3 : ∀ p : Int, 1 ≤ p → ¬ (o = 3 ∧ q = p) := fun p hp w => h (by
      by_cases z : q = 1
      · exact Or.inr (Or.inl (by omega))
      · exact Or.inl (Or.inl (by omega)))
    have h4 : ∀ p : Int, 1 ≤ p → ¬ (o = 4 ∧ q = p) := fun p hp w => h (Or.inr (Or.inr (by omega)))
    rw [stm_ap, if_neg (h4 3 (by omega)), stm_ap, if_neg (h4 2 (by omega)), stm_ap, if_neg (h4 1 (by omega)), stm_ap, if_neg (h3 3 (by omega)), stm_ap, if_neg (h3 2 (by omega)), stm_ap, if_neg (hc 11 (by omega)), stm_ap, if_neg (hc 10 (by omega)), stm_ap, if_neg (hc 9 (by omega)), stm_ap, if_neg (hc 8 (by omega)), stm_ap, if_neg (hc 7 (by omega)), stm_ap, if_neg (hc 6 (by omega)), stm_ap, if_neg (hc 5 (by omega)), stm_ap, if_neg (h3 1 (by omega))]
set_option maxHeartbeats 4000000 in
theorem p_start (F : FX M) (hN : M 88 1 = N) : ∃ MS : Mm, (∀ M' : Mm, vm 178 [(2, 88)] (n, MS) = some (none, (n, M')) → vm 205 [(2, 88)] (n, M) = vp 205 36 [(2, 88)] [] (n, M')) ∧ (MS 88 1 = 0 ∧ MS 88 2 = N ∧ MS 88 3 = 0 ∧ MS 88 8 = 0 ∧ MS 88 9 = -1 ∧ MS 88 20 = 0 ∧ MS 88 21 = 0) ∧ (MS 90 5 = 4 ∧ MS 90 6 = 2 ∧ MS 90 7 = 4 ∧ MS 90 8 = 0 ∧ MS 90 9 = 0) ∧ FRQ M MS := by
  have c13 := F.c88_13
  refine ⟨stm (stm (stm (stm (stm (stm (stm (stm (stm (stm (stm (stm M 88 2 N) 88 1 0) 88 3 0) 88 8 0) 88 9 (-1)) 90 5 4) 90 6 2) 90 7 4) 90 8 0) 90 9 0) 88 20 0) 88 21 0, fun M' r => ?_, ⟨?_, ?_, ?_, ?_, ?_, ?_, ?_⟩, ⟨?_, ?_, ?_, ?_, ?_⟩, fun o q h => ?_⟩
  · have y13 : ∀ a b c d e : Int, (stm (stm (stm (stm (stm M 88 2 a) 88 1 b) 88 3 c) 88 8 d) 88 9 e) 88 13 = 90 := fun a b c d e => by
      rw [stm_k (by omega), stm_k (by omega), stm_k (by omega), stm_k (by omega), stm_k (by omega)]
      exact c13
    have r191 : vm 191 [(2, 88)] (n, stm (stm (stm (stm (stm M 88 2 N) 88 1 0) 88 3 0) 88 8 0) 88 9 (-1)) = some (none, (n, stm (stm (stm (stm (stm (stm (stm (stm (stm (stm (stm (stm M 88 2 N) 88 1 0) 88 3 0) 88 8 0) 88 9 (-1)) 90 5 4) 90 6 2) 90 7 4) 90 8 0) 90 9 0) 88 20 0) 88 21 0)) := by
      have gen : ∀ X : Mm, X 88 13 = 90 → vm 191 [(2, 88)] (n, X) = some (none, (n, stm (stm (stm (stm (stm (stm (stm X 90 5 4) 90 6 2) 90 7 4) 90 8 0) 90 9 0) 88 20 0) 88 21 0)) := fun X hX => by
        rw [e_X12_begins]
        repeat first
          | (refine Eq.trans (if_pos ?_) ?_; · first | omega | (simp (disch := omega) only [hX, stm_o, Int.reduceLT, Int.reduceLE, Int.reduceEq, Int.reduceNe, Int.reduceNeg, Int.reduceAdd, Int.reduceSub, Int.reduceMul, Int.reduceGE, Int.reduceGT, Nat.reduceEqDiff, Nat.reduceAdd, and_true, true_and, and_self, not_true_eq_false, not_false_eq_true, ne_eq, and_false, false_and, or_false, or_true, false_or, true_or, vx_some, eq_self, ↓reduceIte, ite_t1, ite_t2, ite_t3, le_T, le_F, lt_T, lt_F, ge_T, ge_F, gt_T, gt_F, eq_T, eq_F, w32_i, kd_1, kd_2, kd_3, kd_4, kd_5, kd_6, kd_7, kd_14, kd_15, kd_16, kd_29, kd_34, kd_56, kd_74, kd_75, kd_76, kd_77, kd_78, kd_79, kd_80, kd_81, kd_82, kd_83, kd_84, kd_85, kd_86, kd_87, kd_88, kd_89, kd_90, kd_91, kd_92, kd_93, kd_94, kd_95, kd_96, kd_97, kd_98, kd_99, kd_100, kd_101, kd_102, kd_103, kd_104, kd_105, kd_106, kd_107, kd_108]; done))
          | (refine Eq.trans (if_neg ?_) ?_; · first | omega | (simp (disch := omega) only [hX, stm_o, Int.reduceLT, Int.reduceLE, Int.reduceEq, Int.reduceNe, Int.reduceNeg, Int.reduceAdd, Int.reduceSub, Int.reduceMul, Int.reduceGE, Int.reduceGT, Nat.reduceEqDiff, Nat.reduceAdd, and_true, true_and, and_self, not_true_eq_false, not_false_eq_true, ne_eq, and_false, false_and, or_false, or_true, false_or, true_or, vx_some, eq_self, ↓reduceIte, ite_t1, ite_t2, ite_t3, le_T, le_F, lt_T, lt_F, ge_T, ge_F, gt_T, gt_F, eq_T, eq_F, w32_i, kd_1, kd_2, kd_3, kd_4, kd_5, kd_6, kd_7, kd_14, kd_15, kd_16, kd_29, kd_34, kd_56, kd_74, kd_75, kd_76, kd_77, kd_78, kd_79, kd_80, kd_81, kd_82, kd_83, kd_84, kd_85, kd_86, kd_87, kd_88, kd_89, kd_90, kd_91, kd_92, kd_93, kd_94, kd_95, kd_96, kd_97, kd_98, kd_99, kd_100, kd_101, kd_102, kd_103, kd_104, kd_105, kd_106, kd_107, kd_108]; done))
          | (refine Eq.trans (bnd (r := ?_) ?_) ?_; rotate_left 1; (focus (simp (disch := omega) only [hX, stm_o, Int.reduceLT, Int.reduceLE, Int.reduceEq, Int.reduceNe, Int.reduceNeg, Int.reduceAdd, Int.reduceSub, Int.reduceMul, Int.reduceGE, Int.reduceGT, Nat.reduceEqDiff, Nat.reduceAdd, and_true, true_and, and_self, not_true_eq_false, not_false_eq_true, ne_eq, and_false, false_and, or_false, or_true, false_or, true_or, vx_some, eq_self, ↓reduceIte, ite_t1, ite_t2, ite_t3, le_T, le_F, lt_T, lt_F, ge_T, ge_F, gt_T, gt_F, eq_T, eq_F, w32_i, kd_1, kd_2, kd_3, kd_4, kd_5, kd_6, kd_7, kd_14, kd_15, kd_16, kd_29, kd_34, kd_56, kd_74, kd_75, kd_76, kd_77, kd_78, kd_79, kd_80, kd_81, kd_82, kd_83, kd_84, kd_85, kd_86, kd_87, kd_88, kd_89, kd_90, kd_91, kd_92, kd_93, kd_94, kd_95, kd_96, kd_97, kd_98, kd_99, kd_100, kd_101, kd_102, kd_103, kd_104, kd_105, kd_106, kd_107, kd_108]; exact rfl)); simp only [vx_some])
        all_goals simp (disch := omega) only [hX, stm_o]
      exact gen _ (y13 _ _ _ _ _)
    clear F
    rw [e_X12_bank]
    repeat first
      | (refine Eq.trans (if_pos ?_) ?_; · first | omega | (simp (disch := omega) only [hN, r191, r, Int.reduceLT, Int.reduceLE, Int.reduceEq, Int.reduceNe, Int.reduceNeg, Int.reduceAdd, Int.reduceSub, Int.reduceMul, Int.reduceGE, Int.reduceGT, Nat.reduceEqDiff, Nat.reduceAdd, and_true, true_and, and_self, not_true_eq_false, not_false_eq_true, ne_eq, and_false, false_and, or_false, or_true, false_or, true_or, vx_some, eq_self, ↓reduceIte, ite_t1, ite_t2, ite_t3, le_T, le_F, lt_T, lt_F, ge_T, ge_F, gt_T, gt_F, eq_T, eq_F, w32_i, kd_1, kd_2, kd_3, kd_4, kd_5, kd_6, kd_7, kd_14, kd_15, kd_16, kd_29, kd_34, kd_56, kd_74, kd_75, kd_76, kd_77, kd_78, kd_79, kd_80, kd_81, kd_82, kd_83, kd_84, kd_85, kd_86, kd_87, kd_88, kd_89, kd_90, kd_91, kd_92, kd_93, kd_94, kd_95, kd_96, kd_97, kd_98, kd_99, kd_100, kd_101, kd_102, kd_103, kd_104, kd_105, kd_106, kd_107, kd_108]; done))
      | (refine Eq.trans (if_neg ?_) ?_; · first | omega | (simp (disch := omega) only [hN, r191, r, Int.reduceLT, Int.reduceLE, Int.reduceEq, Int.reduceNe, Int.reduceNeg, Int.reduceAdd, Int.reduceSub, Int.reduceMul, Int.reduceGE, Int.reduceGT, Nat.reduceEqDiff, Nat.reduceAdd, and_true, true_and, and_self, not_true_eq_false, not_false_eq_true, ne_eq, and_false, false_and, or_false, or_true, false_or, true_or, vx_some, eq_self, ↓reduceIte, ite_t1, ite_t2, ite_t3, le_T, le_F, lt_T, lt_F, ge_T, ge_F, gt_T, gt_F, eq_T, eq_F, w32_i, kd_1, kd_2, kd_3, kd_4, kd_5, kd_6, kd_7, kd_14, kd_15, kd_16, kd_29, kd_34, kd_56, kd_74, kd_75, kd_76, kd_77, kd_78, kd_79, kd_80, kd_81, kd_82, kd_83, kd_84, kd_85, kd_86, kd_87, kd_88, kd_89, kd_90, kd_91, kd_92, kd_93, kd_94, kd_95, kd_96, kd_97, kd_98, kd_99, kd_100, kd_101, kd_102, kd_103, kd_104, kd_105, kd_106, kd_107, kd_108]; done))
      | (refine Eq.trans (bnd (r := ?_) ?_) ?_; rotate_left 1; (focus (simp (disch := omega) only [hN, r191, r, Int.reduceLT, Int.reduceLE, Int.reduceEq, Int.reduceNe, Int.reduceNeg, Int.reduceAdd, Int.reduceSub, Int.reduceMul, Int.reduceGE, Int.reduceGT, Nat.reduceEqDiff, Nat.reduceAdd, and_true, true_and, and_self, not_true_eq_false, not_false_eq_true, ne_eq, and_false, false_and, or_false, or_true, false_or, true_or, vx_some, eq_self, ↓reduceIte, ite_t1, ite_t2, ite_t3, le_T, le_F, lt_T, lt_F, ge_T, ge_F, gt_T, gt_F, eq_T, eq_F, w32_i, kd_1, kd_2, kd_3, kd_4, kd_5, kd_6, kd_7, kd_14, kd_15, kd_16, kd_29, kd_34, kd_56, kd_74, kd_75, kd_76, kd_77, kd_78, kd_79, kd_80, kd_81, kd_82, kd_83, kd_84, kd_85, kd_86, kd_87, kd_88, kd_89, kd_90, kd_91, kd_92, kd_93, kd_94, kd_95, kd_96, kd_97, kd_98, kd_99, kd_100, kd_101, kd_102, kd_103, kd_104, kd_105, kd_106, kd_107, kd_108]; exact rfl)); simp only [vx_some])
    all_goals with_reducible rfl
  · rw [stm_k (by omega), stm_k (by omega), stm_o (by omega), stm_o (by omega), stm_o (by omega), stm_o (by omega), stm_o (by omega), stm_k (by omega), stm_k (by omega), stm_k (by omega), stm_same]
  · rw [stm_k (by omega), stm_k (by omega), stm_o (by omega), stm_o (by omega), stm_o (by omega), stm_o (by omega), stm_o (by omega), stm_k (by omega), stm_k (by omega), stm_k (by omega), stm_k (by omega), stm_same]
  · rw [stm_k (by omega), stm_k (by omega), stm_o (by omega), stm_o (by omega), stm_o (by omega), stm_o (by omega), stm_o (by omega), stm_k (by omega), stm_k (by omega), stm_same]
  · rw [stm_k (by omega), stm_k (by omega), stm_o (by omega), stm_o (by omega), stm_o (by omega), stm_o (by omega), stm_o (by omega), stm_k (by omega), stm_same]
  · rw [stm_k (by omega), stm_k (by omega), stm_o (by omega), stm_o (by omega), stm_o (by omega), stm_o (by omega), stm_o (by omega), stm_same]
  · rw [stm_k (by omega), stm_same]
  · rw [stm_same]
  · rw [stm_o (by omega), stm_o (by omega), stm_k (by omega), stm_k (by omega), stm_k (by omega), stm_k (by omega), stm_same]
  · rw [stm_o (by omega), stm_o (by omega), stm_k (by omega), stm_k (by omega), stm_k (by omega), stm_same]
  · rw [stm_o (by omega), stm_o (by omega), stm_k (by omega), stm_k (by omega), stm_same]
  · rw [stm_o (by omega), stm_o (by omega), stm_k (by omega), stm_same]
  · rw [stm_o (by omega), stm_o (by omega), stm_same]
  · unfold MP at h
    rw [stm_ap, if_neg (by omega), stm_ap, if_neg (by omega), stm_ap, if_neg (by omega), stm_ap, if_neg (by omega), stm_ap, if_neg (by omega), stm_ap, if_neg (by omega), stm_ap, if_neg (by omega), stm_ap, if_neg (by omega), stm_ap, if_neg (by omega), stm_ap, if_neg (by omega), stm_ap, if_neg (by omega), stm_ap, if_neg (by omega)]
theorem FRP.fx {m m' : Mm} (hD : D = 30 ∨ D = 52) (e : FRP D m m') (F : FX m) : FX m' := F.fr (fun c k q => e c k (fun w => by
  rcases w with w | w
  · exact FXP_np hD q w
  · unfold FXP at q
    omega))
theorem FRQ.fx {m m' : Mm} (e : FRQ m m') (F : FX m) : FX m' := F.fr (fun c k q => e c k (fun w => by
  rcases w with w | w
  · exact FXP_nm q w
  · unfold FXP at q
    omega))
theorem parse_both (hD : D = 30 ∨ D = 52) (F : FX m) (F' : FX M) (hN : M 88 1 = N) (N0 : 0 ≤ N) (N1 : N ≤ 900) (tp : ∀ k : Int, 0 ≤ k → k < N → m 2 k = w8 (M 89 k) ∧ 0 ≤ M 89 k ∧ M 89 k ≤ 255) : ∃ (b : Int) (m' M' : Mm), vm 65 [(2, 3), (2, 2), (0, N), (2, D)] (n, m) = some (some (0, b), (n, m')) ∧ vm 205 [(2, 88)] (n, M) = vp 205 36 [(2, 88)] [] (n, M') ∧ FRP D m m' ∧ FRQ M M' ∧ M' 88 1 = 0 ∧ ((b = 1 ∧ LN m' M' D ∧ M' 88 5 = 0) ∨ (b = 0 ∧ BD m' M')) := by
  obtain ⟨mS, c1, ⟨c31, c32, c33⟩, ⟨c41, c42, c43⟩, ⟨d5, d6, d7, d8, d9, d10, d11⟩, fP⟩ := c_start (n := n) hD F N0 N1
  obtain ⟨MS, p1, ⟨q1, q2, q3, q8, q9, q20, q21⟩, ⟨t5, t6, t7, t8, t9⟩, fQ⟩ := p_start (n := n) F' hN
  have e2 : ∀ k : Int, mS 2 k = m 2 k := fun k => fP 2 k (by unfold CP; omega)
  have e89 : ∀ k : Int, MS 89 k = M 89 k := fun k => fQ 89 k (by unfold MP; omega)
  have T : TX mS MS := ⟨⟨fP.fx hD F, fQ.fx F'⟩, c41, by rw [c42, q2], by rw [q2]; exact ⟨N0, N1⟩, fun k k0 k1 => by
    rw [q2] at k1
    rw [e2, e89]
    exact tp k k0 k1⟩
  obtain ⟨m1, M1, r1, r2, f1, f2, tk, pl, -, -⟩ := step_both (n := n) T (by rw [c43, q3]) (by omega) (by omega)
  have P0 : PL mS MS D := by
    refine ⟨⟨⟨by omega, by rw [d5, t8]⟩, ⟨by omega, by rw [d6, t9]⟩, fun k k0 k1 => ?_, fun k k0 k1 => ?_⟩, fun k k0 k1 => ?_, fun k k0 k1 => ?_, ⟨by omega, fun k k0 k1 => ?_⟩, ?_⟩
    · omega
    · omega
    · omega
    · omega
    · omega
    · unfold CCH
      rw [d8, d9, d10, d11, q21, t5, t6, t7]
      omega
  have G1 : GD m1 M1 := ⟨T.fr f1 f2, tk, by rw [f1 3 2 (by omega), f1 3 3 (by omega)]; exact ⟨c32, c33⟩, by rw [f2 88 8 (by omega), f2 88 9 (by omega)]; exact ⟨q8, q9⟩⟩
  have P1 : PL m1 M1 D := P0.fr hD f1.t f2.h
  have h7 : m1 D 7 = 0 := by rw [f1.t.d (by omega)]; exact d7
  have le := G1.le
  have L1 : LN m1 M1 D := ⟨G1, P1, by rw [f1.t.p1.2]; exact c31, by rw [h7]; omega⟩
  obtain ⟨b, m2, M2, u1, u2, g1, g2, res⟩ := tells_loop (n := n) hD (M1 88 2 - M1 88 4).toNat m1 M1 0 (2, 2) (0, N) (2, D) L1 (by omega) (by omega) (by omega)
  refine ⟨b, m2, M2, (c1 m1 r1).trans u1, (p1 M1 r2).trans u2, fP.tr ((f1.t.p D).P.tr g1.P), fQ.tr (f2.h.q.Q.tr g2.Q), ?_, res⟩
  rw [g2 88 1 (by unfold MP; omega), f2 88 1 (by omega)]
  exact q1
end
