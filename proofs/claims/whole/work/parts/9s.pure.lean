/-! THE PURE PART: a bank opens: what the model takes over -/
def hlf (M : Mm) (c H j : Int) : Mm := fun o k => if o = c ∧ 0 ≤ k ∧ k < j then M c (H + k) else M o k
theorem hlf_ap (M : Mm) (c H j o k : Int) : hlf M c H j o k = if o = c ∧ 0 ≤ k ∧ k < j then M c (H + k) else M o k := rfl
theorem hlf_0 (M : Mm) (c H : Int) : hlf M c H 0 = M := by
  funext o k
  rw [hlf_ap, if_neg (by omega)]
theorem hlf_s (M : Mm) {c H j : Int} (j0 : 0 ≤ j) (jH : j < H) : stm (hlf M c H j) c j (hlf M c H j c (H + j)) = hlf M c H (j + 1) := by
  funext o k
  rw [stm_ap, hlf_ap, hlf_ap, hlf_ap, if_neg (show ¬ (c = c ∧ 0 ≤ H + j ∧ H + j < j) by omega)]
  by_cases z : o = c ∧ k = j
  · rw [if_pos z, if_pos (by omega), z.2]
  · rw [if_neg z]
    by_cases y : o = c ∧ 0 ≤ k ∧ k < j
    · rw [if_pos y, if_pos (by omega)]
    · rw [if_neg y, if_neg (by omega)]
theorem p_half7 {n : Int} {M : Mm} {c H : Int} (c0 : 0 < c) (kc : kd c = (20, H + H)) (H1 : H ≤ 1000) : ∀ (r : Nat) (j : Int), j + r = H → 0 ≤ j → vp 203 7 [(2, c), (0, H), (0, j)] [] (n, hlf M c H j) = some (none, (n, hlf M c H H)) := by
  intro r
  induction r with
  | zero =>
    intro j e j0
    rw [e_X12_takesHalf_7, if_pos (by omega), show j = H by omega]
  | succ r ih =>
    intro j e j0
    have ih' := ih (j + 1) (by omega) (by omega)
    rw [← hlf_s M j0 (by omega)] at ih'
    refine Eq.trans (e_X12_takesHalf_7 ..) ?_
    generalize hlf M c H j = X at *
    repeat first
      | (refine Eq.trans (if_pos ?_) ?_; · first | omega | (simp (disch := omega) only [kc, Int.reduceLT, Int.reduceLE, Int.reduceEq, Int.reduceNe, Int.reduceNeg, Int.reduceAdd, Int.reduceSub, Int.reduceMul, Int.reduceGE, Int.reduceGT, Nat.reduceEqDiff, Nat.reduceAdd, and_true, true_and, and_self, not_true_eq_false, not_false_eq_true, ne_eq, and_false, false_and, or_false, or_true, false_or, true_or, vx_some, eq_self, ↓reduceIte, ite_t1, ite_t2, ite_t3, le_T, le_F, lt_T, lt_F, ge_T, ge_F, gt_T, gt_F, eq_T, eq_F, w32_i, kd_1, kd_2, kd_3, kd_4, kd_5, kd_6, kd_7, kd_14, kd_15, kd_16, kd_29, kd_34, kd_56, kd_74, kd_75, kd_76, kd_77, kd_78, kd_79, kd_80, kd_81, kd_82, kd_83, kd_84, kd_85, kd_86, kd_87, kd_88, kd_89, kd_90, kd_91, kd_92, kd_93, kd_94, kd_95, kd_96, kd_97, kd_98, kd_99, kd_100, kd_101, kd_102, kd_103, kd_104, kd_105, kd_106, kd_107, kd_108]; done))
      | (refine Eq.trans (if_neg ?_) ?_; · first | omega | (simp (disch := omega) only [kc, Int.reduceLT, Int.reduceLE, Int.reduceEq, Int.reduceNe, Int.reduceNeg, Int.reduceAdd, Int.reduceSub, Int.reduceMul, Int.reduceGE, Int.reduceGT, Nat.reduceEqDiff, Nat.reduceAdd, and_true, true_and, and_self, not_true_eq_false, not_false_eq_true, ne_eq, and_false, false_and, or_false, or_true, false_or, true_or, vx_some, eq_self, ↓reduceIte, ite_t1, ite_t2, ite_t3, le_T, le_F, lt_T, lt_F, ge_T, ge_F, gt_T, gt_F, eq_T, eq_F, w32_i, kd_1, kd_2, kd_3, kd_4, kd_5, kd_6, kd_7, kd_14, kd_15, kd_16, kd_29, kd_34, kd_56, kd_74, kd_75, kd_76, kd_77, kd_78, kd_79, kd_80, kd_81, kd_82, kd_83, kd_84, kd_85, kd_86, kd_87, kd_88, kd_89, kd_90, kd_91, kd_92, kd_93, kd_94, kd_95, kd_96, kd_97, kd_98, kd_99, kd_100, kd_101, kd_102, kd_103, kd_104, kd_105, kd_106, kd_107, kd_108]; done))
      | (refine Eq.trans (bnd (r := ?_) ?_) ?_; rotate_left 1; (focus (simp (disch := omega) only [kc, Int.reduceLT, Int.reduceLE, Int.reduceEq, Int.reduceNe, Int.reduceNeg, Int.reduceAdd, Int.reduceSub, Int.reduceMul, Int.reduceGE, Int.reduceGT, Nat.reduceEqDiff, Nat.reduceAdd, and_true, true_and, and_self, not_true_eq_false, not_false_eq_true, ne_eq, and_false, false_and, or_false, or_true, false_or, true_or, vx_some, eq_self, ↓reduceIte, ite_t1, ite_t2, ite_t3, le_T, le_F, lt_T, lt_F, ge_T, ge_F, gt_T, gt_F, eq_T, eq_F, w32_i, kd_1, kd_2, kd_3, kd_4, kd_5, kd_6, kd_7, kd_14, kd_15, kd_16, kd_29, kd_34, kd_56, kd_74, kd_75, kd_76, kd_77, kd_78, kd_79, kd_80, kd_81, kd_82, kd_83, kd_84, kd_85, kd_86, kd_87, kd_88, kd_89, kd_90, kd_91, kd_92, kd_93, kd_94, kd_95, kd_96, kd_97, kd_98, kd_99, kd_100, kd_101, kd_102, kd_103, kd_104, kd_105, kd_106, kd_107, kd_108]; exact rfl)); simp only [vx_some])
    all_goals simp (disch := omega) only [w32_i]
    all_goals exact ih'
theorem p_half {n : Int} {M : Mm} {c H : Int} (c0 : 0 < c) (kc : kd c = (20, H + H)) (H0 : 0 ≤ H) (H1 : H ≤ 1000) : vm 203 [(2, c)] (n, M) = some (none, (n, hlf M c H H)) := by
  have a := p_half7 (n := n) (M := M) c0 kc H1 H.toNat 0 (by omega) (by omega)
  rw [hlf_0] at a
  have e : w32 ((H + H).tdiv 2) = H := by
    rw [Int.tdiv_eq_ediv_of_nonneg (by omega), w32_i (by omega) (by omega)]
    omega
  rw [e_X12_takesHalf, kc]
  rw [if_pos ⟨by show (20 : Nat) ≤ 20; omega, by show (20 : Nat) ≤ 25; omega⟩]
  dsimp only
  rw [e]
  exact a
noncomputable def nv (M : Mm) (q : Int) : Int := @ite Int ((((0 ≤ q / 400 ∧ q / 400 < M 90 3) ∧ M 93 (q / 400) ≤ 9) ∧ 0 ≤ q % 400 ∧ q % 400 < M 94 (q / 400)) ∧ 8 ≤ M 93 (q / 400)) (Classical.propDecidable _) (-1) 0
noncomputable def tkM (M : Mm) (k : Int) : Mm := fun o q => if o = 97 ∧ 0 ≤ q ∧ q < k then nv M q else if o = 98 ∧ 0 ≤ q ∧ q < k then 0 else M o q
theorem tkM_ap (M : Mm) (k o q : Int) : tkM M k o q = if o = 97 ∧ 0 ≤ q ∧ q < k then nv M q else if o = 98 ∧ 0 ≤ q ∧ q < k then 0 else M o q := rfl
theorem tkM_0 (M : Mm) : tkM M 0 = M := by
  funext o k
  rw [tkM_ap, if_neg (by omega), if_neg (by omega)]
theorem tkM_s (M : Mm) {k : Int} (k0 : 0 ≤ k) : stm (stm (tkM M k) 97 k (nv M k)) 98 k 0 = tkM M (k + 1) := by
  funext o q
  rw [stm_ap, stm_ap, tkM_ap, tkM_ap]
  by_cases z : o = 98 ∧ q = k
  · rw [if_pos z, if_neg (by omega), if_pos (by omega)]
  · rw [if_neg z]
    by_cases y : o = 97 ∧ q = k
    · rw [if_pos y, if_pos (by omega), y.2]
    · rw [if_neg y]
      by_cases x : o = 97 ∧ 0 ≤ q ∧ q < k
      · rw [if_pos x, if_pos (by omega)]
      · rw [if_neg x, if_neg (show ¬ (o = 97 ∧ 0 ≤ q ∧ q < k + 1) by omega)]
        by_cases w : o = 98 ∧ 0 ≤ q ∧ q < k
        · rw [if_pos w, if_pos (by omega)]
        · rw [if_neg w, if_neg (by omega)]
theorem tkM_o {M : Mm} {k o q : Int} (h1 : o ≠ 97) (h2 : o ≠ 98) : tkM M k o q = M o q := by
  rw [tkM_ap, if_neg (by omega), if_neg (by omega)]
theorem p_tk30 {n : Int} {M : Mm} (F : FX M) (K : KLM M) : ∀ (r : Nat) (k : Int) (z : Vl), k + r = 2400 → 0 ≤ k → vp 204 30 [(2, 88), (0, k), z] [] (n, tkM M k) = vp 204 99 [(2, 88), (0, 0), (9, 0)] [] (n, tkM M 2400) := by
  have e93 : ∀ k q : Int, tkM M k 93 q = M 93 q := fun k q => tkM_o (by omega) (by omega)
  have e94 : ∀ k q : Int, tkM M k 94 q = M 94 q := fun k q => tkM_o (by omega) (by omega)
  have e90 : ∀ k q : Int, tkM M k 90 q = M 90 q := fun k q => tkM_o (by omega) (by omega)
  intro r
  induction r with
  | zero =>
    intro k z e k0
    rw [e_X12_takesOver_30, if_pos (by omega), show k = 2400 by omega]
  | succ r ih =>
    intro k z e k0
    have ih' := ih (k + 1) (9, 0) (by omega) (by omega)
    rw [← tkM_s M k0] at ih'
    have F' : FX (tkM M k) := F.fr (fun o q h => tkM_o (by unfold FXP at h; omega) (by unfold FXP at h; omega))
    have K' : KLM (tkM M k) := K.g (funext (e90 k)) (funext (e93 k)) (funext (e94 k))
    have c22 := F'.c88_22
    have c23 := F'.c88_23
    have c16 := F'.c88_16
    have st := p_stands (h := (n, tkM M k)) F' K' (s := k / 400) (p := k % 400)
    dsimp only at st
    simp only [e90, e93, e94] at st
    have ed : w32 (k.tdiv 400) = k / 400 := by
      rw [Int.tdiv_eq_ediv_of_nonneg k0]
      exact w32_i (by omega) (by omega)
    have em : k.tmod 400 = k % 400 := Int.tmod_eq_emod_of_nonneg k0
    have e93k := e93 k (k / 400)
    have d6 : 0 ≤ k / 400 ∧ k / 400 < 6 := by omega
    have nve : nv M k = @ite Int ((((0 ≤ k / 400 ∧ k / 400 < M 90 3) ∧ M 93 (k / 400) ≤ 9) ∧ 0 ≤ k % 400 ∧ k % 400 < M 94 (k / 400)) ∧ 8 ≤ M 93 (k / 400)) (Classical.propDecidable _) (-1) 0 := rfl
    clear F K F' K' ih
    refine Eq.trans (e_X12_takesOver_30 ..) ?_
    rw [ed, em]
    clear ed em
    generalize tkM M k = X at *
    by_cases q : ((0 ≤ k / 400 ∧ k / 400 < M 90 3) ∧ M 93 (k / 400) ≤ 9) ∧ 0 ≤ k % 400 ∧ k % 400 < M 94 (k / 400)
    · rw [if_pos q] at st
      by_cases q8 : 8 ≤ M 93 (k / 400)
      · rw [if_pos ⟨q, q8⟩] at nve
        rw [nve] at ih'
        clear nve
        repeat first
          | (refine Eq.trans (if_pos ?_) ?_; · first | omega | (simp (disch := omega) only [st, c16, e93k, c22, c23, stm_o, Int.reduceLT, Int.reduceLE, Int.reduceEq, Int.reduceNe, Int.reduceNeg, Int.reduceAdd, Int.reduceSub, Int.reduceMul, Int.reduceGE, Int.reduceGT, Nat.reduceEqDiff, Nat.reduceAdd, and_true, true_and, and_self, not_true_eq_false, not_false_eq_true, ne_eq, and_false, false_and, or_false, or_true, false_or, true_or, vx_some, eq_self, ↓reduceIte, ite_t1, ite_t2, ite_t3, le_T, le_F, lt_T, lt_F, ge_T, ge_F, gt_T, gt_F, eq_T, eq_F, w32_i, kd_1, kd_2, kd_3, kd_4, kd_5, kd_6, kd_7, kd_14, kd_15, kd_16, kd_29, kd_34, kd_56, kd_74, kd_75, kd_76, kd_77, kd_78, kd_79, kd_80, kd_81, kd_82, kd_83, kd_84, kd_85, kd_86, kd_87, kd_88, kd_89, kd_90, kd_91, kd_92, kd_93, kd_94, kd_95, kd_96, kd_97, kd_98, kd_99, kd_100, kd_101, kd_102, kd_103, kd_104, kd_105, kd_106, kd_107, kd_108]; done))
          | (refine Eq.trans (if_neg ?_) ?_; · first | omega | (simp (disch := omega) only [st, c16, e93k, c22, c23, stm_o, Int.reduceLT, Int.reduceLE, Int.reduceEq, Int.reduceNe, Int.reduceNeg, Int.reduceAdd, Int.reduceSub, Int.reduceMul, Int.reduceGE, Int.reduceGT, Nat.reduceEqDiff, Nat.reduceAdd, and_true, true_and, and_self, not_true_eq_false, not_false_eq_true, ne_eq, and_false, false_and, or_false, or_true, false_or, true_or, vx_some, eq_self, ↓reduceIte, ite_t1, ite_t2, ite_t3, le_T, le_F, lt_T, lt_F, ge_T, ge_F, gt_T, gt_F, eq_T, eq_F, w32_i, kd_1, kd_2, kd_3, kd_4, kd_5, kd_6, kd_7, kd_14, kd_15, kd_16, kd_29, kd_34, kd_56, kd_74, kd_75, kd_76, kd_77, kd_78, kd_79, kd_80, kd_81, kd_82, kd_83, kd_84, kd_85, kd_86, kd_87, kd_88, kd_89, kd_90, kd_91, kd_92, kd_93, kd_94, kd_95, kd_96, kd_97, kd_98, kd_99, kd_100, kd_101, kd_102, kd_103, kd_104, kd_105, kd_106, kd_107, kd_108]; done))
          | (refine Eq.trans (bnd (r := ?_) ?_) ?_; rotate_left 1; (focus (simp (disch := omega) only [st, c16, e93k, c22, c23, stm_o, Int.reduceLT, Int.reduceLE, Int.reduceEq, Int.reduceNe, Int.reduceNeg, Int.reduceAdd, Int.reduceSub, Int.reduceMul, Int.reduceGE, Int.reduceGT, Nat.reduceEqDiff, Nat.reduceAdd, and_true, true_and, and_self, not_true_eq_false, not_false_eq_true, ne_eq, and_false, false_and, or_false, or_true, false_or, true_or, vx_some, eq_self, ↓reduceIte, ite_t1, ite_t2, ite_t3, le_T, le_F, lt_T, lt_F, ge_T, ge_F, gt_T, gt_F, eq_T, eq_F, w32_i, kd_1, kd_2, kd_3, kd_4, kd_5, kd_6, kd_7, kd_14, kd_15, kd_16, kd_29, kd_34, kd_56, kd_74, kd_75, kd_76, kd_77, kd_78, kd_79, kd_80, kd_81, kd_82, kd_83, kd_84, kd_85, kd_86, kd_87, kd_88, kd_89, kd_90, kd_91, kd_92, kd_93, kd_94, kd_95, kd_96, kd_97, kd_98, kd_99, kd_100, kd_101, kd_102, kd_103, kd_104, kd_105, kd_106, kd_107, kd_108]; exact rfl)); simp only [vx_some])
        all_goals simp (disch := omega) only [c22, c23, stm_o, w32_i]
        all_goals exact ih'
      · rw [if_neg (fun w => q8 w.2)] at nve
        rw [nve] at ih'
        clear nve
        repeat first
          | (refine Eq.trans (if_pos ?_) ?_; · first | omega | (simp (disch := omega) only [st, c16, e93k, c22, c23, stm_o, Int.reduceLT, Int.reduceLE, Int.reduceEq, Int.reduceNe, Int.reduceNeg, Int.reduceAdd, Int.reduceSub, Int.reduceMul, Int.reduceGE, Int.reduceGT, Nat.reduceEqDiff, Nat.reduceAdd, and_true, true_and, and_self, not_true_eq_false, not_false_eq_true, ne_eq, and_false, false_and, or_false, or_true, false_or, true_or, vx_some, eq_self, ↓reduceIte, ite_t1, ite_t2, ite_t3, le_T, le_F, lt_T, lt_F, ge_T, ge_F, gt_T, gt_F, eq_T, eq_F, w32_i, kd_1, kd_2, kd_3, kd_4, kd_5, kd_6, kd_7, kd_14, kd_15, kd_16, kd_29, kd_34, kd_56, kd_74, kd_75, kd_76, kd_77, kd_78, kd_79, kd_80, kd_81, kd_82, kd_83, kd_84, kd_85, kd_86, kd_87, kd_88, kd_89, kd_90, kd_91, kd_92, kd_93, kd_94, kd_95, kd_96, kd_97, kd_98, kd_99, kd_100, kd_101, kd_102, kd_103, kd_104, kd_105, kd_106, kd_107, kd_108]; done))
          | (refine Eq.trans (if_neg ?_) ?_; · first | omega | (simp (disch := omega) only [st, c16, e93k, c22, c23, stm_o, Int.reduceLT, Int.reduceLE, Int.reduceEq, Int.reduceNe, Int.reduceNeg, Int.reduceAdd, Int.reduceSub, Int.reduceMul, Int.reduceGE, Int.reduceGT, Nat.reduceEqDiff, Nat.reduceAdd, and_true, true_and, and_self, not_true_eq_false, not_false_eq_true, ne_eq, and_false, false_and, or_false, or_true, false_or, true_or, vx_some, eq_self, ↓reduceIte, ite_t1, ite_t2, ite_t3, le_T, le_F, lt_T, lt_F, ge_T, ge_F, gt_T, gt_F, eq_T, eq_F, w32_i, kd_1, kd_2, kd_3, kd_4, kd_5, kd_6, kd_7, kd_14, kd_15, kd_16, kd_29, kd_34, kd_56, kd_74, kd_75, kd_76, kd_77, kd_78, kd_79, kd_80, kd_81, kd_82, kd_83, kd_84, kd_85, kd_86, kd_87, kd_88, kd_89, kd_90, kd_91, kd_92, kd_93, kd_94, kd_95, kd_96, kd_97, kd_98, kd_99, kd_100, kd_101, kd_102, kd_103, kd_104, kd_105, kd_106, kd_107, kd_108]; done))
          | (refine Eq.trans (bnd (r := ?_) ?_) ?_; rotate_left 1; (focus (simp (disch := omega) only [st, c16, e93k, c22, c23, stm_o, Int.reduceLT, Int.reduceLE, Int.reduceEq, Int.reduceNe, Int.reduceNeg, Int.reduceAdd, Int.reduceSub, Int.reduceMul, Int.reduceGE, Int.reduceGT, Nat.reduceEqDiff, Nat.reduceAdd, and_true, true_and, and_self, not_true_eq_false, not_false_eq_true, ne_eq, and_false, false_and, or_false, or_true, false_or, true_or, vx_some, eq_self, ↓reduceIte, ite_t1, ite_t2, ite_t3, le_T, le_F, lt_T, lt_F, ge_T, ge_F, gt_T, gt_F, eq_T, eq_F, w32_i, kd_1, kd_2, kd_3, kd_4, kd_5, kd_6, kd_7, kd_14, kd_15, kd_16, kd_29, kd_34, kd_56, kd_74, kd_75, kd_76, kd_77, kd_78, kd_79, kd_80, kd_81, kd_82, kd_83, kd_84, kd_85, kd_86, kd_87, kd_88, kd_89, kd_90, kd_91, kd_92, kd_93, kd_94, kd_95, kd_96, kd_97, kd_98, kd_99, kd_100, kd_101, kd_102, kd_103, kd_104, kd_105, kd_106, kd_107, kd_108]; exact rfl)); simp only [vx_some])
        all_goals simp (disch := omega) only [c22, c23, stm_o, w32_i]
        all_goals exact ih'
    · rw [if_neg q] at st
      rw [if_neg (fun w => q w.1)] at nve
      rw [nve] at ih'
      clear nve q
      repeat first
        | (refine Eq.trans (if_pos ?_) ?_; · first | omega | (simp (disch := omega) only [st, c22, c23, stm_o, Int.reduceLT, Int.reduceLE, Int.reduceEq, Int.reduceNe, Int.reduceNeg, Int.reduceAdd, Int.reduceSub, Int.reduceMul, Int.reduceGE, Int.reduceGT, Nat.reduceEqDiff, Nat.reduceAdd, and_true, true_and, and_self, not_true_eq_false, not_false_eq_true, ne_eq, and_false, false_and, or_false, or_true, false_or, true_or, vx_some, eq_self, ↓reduceIte, ite_t1, ite_t2, ite_t3, le_T, le_F, lt_T, lt_F, ge_T, ge_F, gt_T, gt_F, eq_T, eq_F, w32_i, kd_1, kd_2, kd_3, kd_4, kd_5, kd_6, kd_7, kd_14, kd_15, kd_16, kd_29, kd_34, kd_56, kd_74, kd_75, kd_76, kd_77, kd_78, kd_79, kd_80, kd_81, kd_82, kd_83, kd_84, kd_85, kd_86, kd_87, kd_88, kd_89, kd_90, kd_91, kd_92, kd_93, kd_94, kd_95, kd_96, kd_97, kd_98, kd_99, kd_100, kd_101, kd_102, kd_103, kd_104, kd_105, kd_106, kd_107, kd_108]; done))
        | (refine Eq.trans (if_neg ?_) ?_; · first | omega | (simp (disch := omega) only [st, c22, c23, stm_o, Int.reduceLT, Int.reduceLE, Int.reduceEq, Int.reduceNe, Int.reduceNeg, Int.reduceAdd, Int.reduceSub, Int.reduceMul, Int.reduceGE, Int.reduceGT, Nat.reduceEqDiff, Nat.reduceAdd, and_true, true_and, and_self, not_true_eq_false, not_false_eq_true, ne_eq, and_false, false_and, or_false, or_true, false_or, true_or, vx_some, eq_self, ↓reduceIte, ite_t1, ite_t2, ite_t3, le_T, le_F, lt_T, lt_F, ge_T, ge_F, gt_T, gt_F, eq_T, eq_F, w32_i, kd_1, kd_2, kd_3, kd_4, kd_5, kd_6, kd_7, kd_14, kd_15, kd_16, kd_29, kd_34, kd_56, kd_74, kd_75, kd_76, kd_77, kd_78, kd_79, kd_80, kd_81, kd_82, kd_83, kd_84, kd_85, kd_86, kd_87, kd_88, kd_89, kd_90, kd_91, kd_92, kd_93, kd_94, kd_95, kd_96, kd_97, kd_98, kd_99, kd_100, kd_101, kd_102, kd_103, kd_104, kd_105, kd_106, kd_107, kd_108]; done))
        | (refine Eq.trans (bnd (r := ?_) ?_) ?_; rotate_left 1; (focus (simp (disch := omega) only [st, c22, c23, stm_o, Int.reduceLT, Int.reduceLE, Int.reduceEq, Int.reduceNe, Int.reduceNeg, Int.reduceAdd, Int.reduceSub, Int.reduceMul, Int.reduceGE, Int.reduceGT, Nat.reduceEqDiff, Nat.reduceAdd, and_true, true_and, and_self, not_true_eq_false, not_false_eq_true, ne_eq, and_false, false_and, or_false, or_true, false_or, true_or, vx_some, eq_self, ↓reduceIte, ite_t1, ite_t2, ite_t3, le_T, le_F, lt_T, lt_F, ge_T, ge_F, gt_T, gt_F, eq_T, eq_F, w32_i, kd_1, kd_2, kd_3, kd_4, kd_5, kd_6, kd_7, kd_14, kd_15, kd_16, kd_29, kd_34, kd_56, kd_74, kd_75, kd_76, kd_77, kd_78, kd_79, kd_80, kd_81, kd_82, kd_83, kd_84, kd_85, kd_86, kd_87, kd_88, kd_89, kd_90, kd_91, kd_92, kd_93, kd_94, kd_95, kd_96, kd_97, kd_98, kd_99, kd_100, kd_101, kd_102, kd_103, kd_104, kd_105, kd_106, kd_107, kd_108]; exact rfl)); simp only [vx_some])
      all_goals simp (disch := omega) only [c22, c23, stm_o, w32_i]
      all_goals exact ih'
/-- a memory as one behind an act -/
def uM (M : Mm) : Mm := stc (stc M 97 (M 101)) 98 (M 102)
theorem uM_o {M : Mm} {o : Int} (h1 : o ≠ 97) (h2 : o ≠ 98) : uM M o = M o := by
  unfold uM
  rw [stc_o h2, stc_o h1]
theorem md_u (M : Mm) : mdM (uM M) (M 88 29) (M 97) (M 98) = M := by
  have u97 : uM M 97 = M 101 := by
    unfold uM
    rw [stc_o (by omega), stc_c]
  have u98 : uM M 98 = M 102 := by
    unfold uM
    rw [stc_c]
  funext o q
  by_cases a : o = 98
  · rw [a, mdM_98]
  · by_cases b : o = 97
    · rw [b, mdM_97]
    · by_cases c : o = 88 ∧ q = 29
      · rw [c.1, c.2, mdM_29]
      · by_cases d : o = 101
        · rw [d]
          by_cases rg : 0 ≤ q ∧ q < 2400
          · rw [mdM_101 rg.1 rg.2, u97]
          · unfold mdM
            rw [stc_o (by omega), stc_o (by omega), stm_ap, if_neg (by omega)]
            unfold bgM
            rw [stm_ap, if_neg (by omega), cp2_ap _ _ _ _ _ _ _ _ _ _ _ _ (by omega) (by omega), if_neg (by omega), if_neg (by omega), uM_o (by omega) (by omega)]
        · by_cases e : o = 102
          · rw [e]
            by_cases rg : 0 ≤ q ∧ q < 2400
            · rw [mdM_102 rg.1 rg.2, u98]
            · unfold mdM
              rw [stc_o (by omega), stc_o (by omega), stm_ap, if_neg (by omega)]
              unfold bgM
              rw [stm_ap, if_neg (by omega), cp2_ap _ _ _ _ _ _ _ _ _ _ _ _ (by omega) (by omega), if_neg (by omega), if_neg (by omega), uM_o (by omega) (by omega)]
          · unfold mdM
            rw [stc_o a, stc_o b, stm_ap, if_neg c, bgM_o d e c, uM_o b a]
theorem p_168 {n : Int} {M : Mm} (F : FX M) : vp 204 168 [(2, 88), (0, 0), (9, 0)] [] (n, M) = some (none, (n, stm (stm M 108 0 0) 108 1 0)) := by
  have c39 := F.c88_39
  clear F
  refine Eq.trans (e_X12_takesOver_168 ..) ?_
  repeat first
    | (refine Eq.trans (if_pos ?_) ?_; · first | omega | (simp (disch := omega) only [c39, Int.reduceLT, Int.reduceLE, Int.reduceEq, Int.reduceNe, Int.reduceNeg, Int.reduceAdd, Int.reduceSub, Int.reduceMul, Int.reduceGE, Int.reduceGT, Nat.reduceEqDiff, Nat.reduceAdd, and_true, true_and, and_self, not_true_eq_false, not_false_eq_true, ne_eq, and_false, false_and, or_false, or_true, false_or, true_or, vx_some, eq_self, ↓reduceIte, ite_t1, ite_t2, ite_t3, le_T, le_F, lt_T, lt_F, ge_T, ge_F, gt_T, gt_F, eq_T, eq_F, w32_i, kd_1, kd_2, kd_3, kd_4, kd_5, kd_6, kd_7, kd_14, kd_15, kd_16, kd_29, kd_34, kd_56, kd_74, kd_75, kd_76, kd_77, kd_78, kd_79, kd_80, kd_81, kd_82, kd_83, kd_84, kd_85, kd_86, kd_87, kd_88, kd_89, kd_90, kd_91, kd_92, kd_93, kd_94, kd_95, kd_96, kd_97, kd_98, kd_99, kd_100, kd_101, kd_102, kd_103, kd_104, kd_105, kd_106, kd_107, kd_108]; done))
    | (refine Eq.trans (if_neg ?_) ?_; · first | omega | (simp (disch := omega) only [c39, Int.reduceLT, Int.reduceLE, Int.reduceEq, Int.reduceNe, Int.reduceNeg, Int.reduceAdd, Int.reduceSub, Int.reduceMul, Int.reduceGE, Int.reduceGT, Nat.reduceEqDiff, Nat.reduceAdd, and_true, true_and, and_self, not_true_eq_false, not_false_eq_true, ne_eq, and_false, false_and, or_false, or_true, false_or, true_or, vx_some, eq_self, ↓reduceIte, ite_t1, ite_t2, ite_t3, le_T, le_F, lt_T, lt_F, ge_T, ge_F, gt_T, gt_F, eq_T, eq_F, w32_i, kd_1, kd_2, kd_3, kd_4, kd_5, kd_6, kd_7, kd_14, kd_15, kd_16, kd_29, kd_34, kd_56, kd_74, kd_75, kd_76, kd_77, kd_78, kd_79, kd_80, kd_81, kd_82, kd_83, kd_84, kd_85, kd_86, kd_87, kd_88, kd_89, kd_90, kd_91, kd_92, kd_93, kd_94, kd_95, kd_96, kd_97, kd_98, kd_99, kd_100, kd_101, kd_102, kd_103, kd_104, kd_105, kd_106, kd_107, kd_108]; done))
    | (refine Eq.trans (bnd (r := ?_) ?_) ?_; rotate_left 1; (focus (simp (disch := omega) only [c39, Int.reduceLT, Int.reduceLE, Int.reduceEq, Int.reduceNe, Int.reduceNeg, Int.reduceAdd, Int.reduceSub, Int.reduceMul, Int.reduceGE, Int.reduceGT, Nat.reduceEqDiff, Nat.reduceAdd, and_true, true_and, and_self, not_true_eq_false, not_false_eq_true, ne_eq, and_false, false_and, or_false, or_true, false_or, true_or, vx_some, eq_self, ↓reduceIte, ite_t1, ite_t2, ite_t3, le_T, le_F, lt_T, lt_F, ge_T, ge_F, gt_T, gt_F, eq_T, eq_F, w32_i, kd_1, kd_2, kd_3, kd_4, kd_5, kd_6, kd_7, kd_14, kd_15, kd_16, kd_29, kd_34, kd_56, kd_74, kd_75, kd_76, kd_77, kd_78, kd_79, kd_80, kd_81, kd_82, kd_83, kd_84, kd_85, kd_86, kd_87, kd_88, kd_89, kd_90, kd_91, kd_92, kd_93, kd_94, kd_95, kd_96, kd_97, kd_98, kd_99, kd_100, kd_101, kd_102, kd_103, kd_104, kd_105, kd_106, kd_107, kd_108]; exact rfl)); simp only [vx_some])
  all_goals simp (disch := omega) only [c39, w32_i]
  refine Eq.trans (e_X12_takesOver_168 ..) ?_
  repeat first
    | (refine Eq.trans (if_pos ?_) ?_; · first | omega | (simp (disch := omega) only [stm_o, c39, Int.reduceLT, Int.reduceLE, Int.reduceEq, Int.reduceNe, Int.reduceNeg, Int.reduceAdd, Int.reduceSub, Int.reduceMul, Int.reduceGE, Int.reduceGT, Nat.reduceEqDiff, Nat.reduceAdd, and_true, true_and, and_self, not_true_eq_false, not_false_eq_true, ne_eq, and_false, false_and, or_false, or_true, false_or, true_or, vx_some, eq_self, ↓reduceIte, ite_t1, ite_t2, ite_t3, le_T, le_F, lt_T, lt_F, ge_T, ge_F, gt_T, gt_F, eq_T, eq_F, w32_i, kd_1, kd_2, kd_3, kd_4, kd_5, kd_6, kd_7, kd_14, kd_15, kd_16, kd_29, kd_34, kd_56, kd_74, kd_75, kd_76, kd_77, kd_78, kd_79, kd_80, kd_81, kd_82, kd_83, kd_84, kd_85, kd_86, kd_87, kd_88, kd_89, kd_90, kd_91, kd_92, kd_93, kd_94, kd_95, kd_96, kd_97, kd_98, kd_99, kd_100, kd_101, kd_102, kd_103, kd_104, kd_105, kd_106, kd_107, kd_108]; done))
    | (refine Eq.trans (if_neg ?_) ?_; · first | omega | (simp (disch := omega) only [stm_o, c39, Int.reduceLT, Int.reduceLE, Int.reduceEq, Int.reduceNe, Int.reduceNeg, Int.reduceAdd, Int.reduceSub, Int.reduceMul, Int.reduceGE, Int.reduceGT, Nat.reduceEqDiff, Nat.reduceAdd, and_true, true_and, and_self, not_true_eq_false, not_false_eq_true, ne_eq, and_false, false_and, or_false, or_true, false_or, true_or, vx_some, eq_self, ↓reduceIte, ite_t1, ite_t2, ite_t3, le_T, le_F, lt_T, lt_F, ge_T, ge_F, gt_T, gt_F, eq_T, eq_F, w32_i, kd_1, kd_2, kd_3, kd_4, kd_5, kd_6, kd_7, kd_14, kd_15, kd_16, kd_29, kd_34, kd_56, kd_74, kd_75, kd_76, kd_77, kd_78, kd_79, kd_80, kd_81, kd_82, kd_83, kd_84, kd_85, kd_86, kd_87, kd_88, kd_89, kd_90, kd_91, kd_92, kd_93, kd_94, kd_95, kd_96, kd_97, kd_98, kd_99, kd_100, kd_101, kd_102, kd_103, kd_104, kd_105, kd_106, kd_107, kd_108]; done))
    | (refine Eq.trans (bnd (r := ?_) ?_) ?_; rotate_left 1; (focus (simp (disch := omega) only [stm_o, c39, Int.reduceLT, Int.reduceLE, Int.reduceEq, Int.reduceNe, Int.reduceNeg, Int.reduceAdd, Int.reduceSub, Int.reduceMul, Int.reduceGE, Int.reduceGT, Nat.reduceEqDiff, Nat.reduceAdd, and_true, true_and, and_self, not_true_eq_false, not_false_eq_true, ne_eq, and_false, false_and, or_false, or_true, false_or, true_or, vx_some, eq_self, ↓reduceIte, ite_t1, ite_t2, ite_t3, le_T, le_F, lt_T, lt_F, ge_T, ge_F, gt_T, gt_F, eq_T, eq_F, w32_i, kd_1, kd_2, kd_3, kd_4, kd_5, kd_6, kd_7, kd_14, kd_15, kd_16, kd_29, kd_34, kd_56, kd_74, kd_75, kd_76, kd_77, kd_78, kd_79, kd_80, kd_81, kd_82, kd_83, kd_84, kd_85, kd_86, kd_87, kd_88, kd_89, kd_90, kd_91, kd_92, kd_93, kd_94, kd_95, kd_96, kd_97, kd_98, kd_99, kd_100, kd_101, kd_102, kd_103, kd_104, kd_105, kd_106, kd_107, kd_108]; exact rfl)); simp only [vx_some])
  all_goals simp (disch := omega) only [stm_o, c39, w32_i]
  refine Eq.trans (e_X12_takesOver_168 ..) ?_
  repeat first
    | (refine Eq.trans (if_pos ?_) ?_; · first | omega | (simp (disch := omega) only [Int.reduceLT, Int.reduceLE, Int.reduceEq, Int.reduceNe, Int.reduceNeg, Int.reduceAdd, Int.reduceSub, Int.reduceMul, Int.reduceGE, Int.reduceGT, Nat.reduceEqDiff, Nat.reduceAdd, and_true, true_and, and_self, not_true_eq_false, not_false_eq_true, ne_eq, and_false, false_and, or_false, or_true, false_or, true_or, vx_some, eq_self, ↓reduceIte, ite_t1, ite_t2, ite_t3, le_T, le_F, lt_T, lt_F, ge_T, ge_F, gt_T, gt_F, eq_T, eq_F, w32_i, kd_1, kd_2, kd_3, kd_4, kd_5, kd_6, kd_7, kd_14, kd_15, kd_16, kd_29, kd_34, kd_56, kd_74, kd_75, kd_76, kd_77, kd_78, kd_79, kd_80, kd_81, kd_82, kd_83, kd_84, kd_85, kd_86, kd_87, kd_88, kd_89, kd_90, kd_91, kd_92, kd_93, kd_94, kd_95, kd_96, kd_97, kd_98, kd_99, kd_100, kd_101, kd_102, kd_103, kd_104, kd_105, kd_106, kd_107, kd_108]; done))
    | (refine Eq.trans (if_neg ?_) ?_; · first | omega | (simp (disch := omega) only [Int.reduceLT, Int.reduceLE, Int.reduceEq, Int.reduceNe, Int.reduceNeg, Int.reduceAdd, Int.reduceSub, Int.reduceMul, Int.reduceGE, Int.reduceGT, Nat.reduceEqDiff, Nat.reduceAdd, and_true, true_and, and_self, not_true_eq_false, not_false_eq_true, ne_eq, and_false, false_and, or_false, or_true, false_or, true_or, vx_some, eq_self, ↓reduceIte, ite_t1, ite_t2, ite_t3, le_T, le_F, lt_T, lt_F, ge_T, ge_F, gt_T, gt_F, eq_T, eq_F, w32_i, kd_1, kd_2, kd_3, kd_4, kd_5, kd_6, kd_7, kd_14, kd_15, kd_16, kd_29, kd_34, kd_56, kd_74, kd_75, kd_76, kd_77, kd_78, kd_79, kd_80, kd_81, kd_82, kd_83, kd_84, kd_85, kd_86, kd_87, kd_88, kd_89, kd_90, kd_91, kd_92, kd_93, kd_94, kd_95, kd_96, kd_97, kd_98, kd_99, kd_100, kd_101, kd_102, kd_103, kd_104, kd_105, kd_106, kd_107, kd_108]; done))
    | (refine Eq.trans (bnd (r := ?_) ?_) ?_; rotate_left 1; (focus (simp (disch := omega) only [Int.reduceLT, Int.reduceLE, Int.reduceEq, Int.reduceNe, Int.reduceNeg, Int.reduceAdd, Int.reduceSub, Int.reduceMul, Int.reduceGE, Int.reduceGT, Nat.reduceEqDiff, Nat.reduceAdd, and_true, true_and, and_self, not_true_eq_false, not_false_eq_true, ne_eq, and_false, false_and, or_false, or_true, false_or, true_or, vx_some, eq_self, ↓reduceIte, ite_t1, ite_t2, ite_t3, le_T, le_F, lt_T, lt_F, ge_T, ge_F, gt_T, gt_F, eq_T, eq_F, w32_i, kd_1, kd_2, kd_3, kd_4, kd_5, kd_6, kd_7, kd_14, kd_15, kd_16, kd_29, kd_34, kd_56, kd_74, kd_75, kd_76, kd_77, kd_78, kd_79, kd_80, kd_81, kd_82, kd_83, kd_84, kd_85, kd_86, kd_87, kd_88, kd_89, kd_90, kd_91, kd_92, kd_93, kd_94, kd_95, kd_96, kd_97, kd_98, kd_99, kd_100, kd_101, kd_102, kd_103, kd_104, kd_105, kd_106, kd_107, kd_108]; exact rfl)); simp only [vx_some])
  all_goals rfl
