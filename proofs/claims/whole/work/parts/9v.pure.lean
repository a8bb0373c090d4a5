/-! THE PURE PART: a bank opens: both tails -/
section
variable {n : Int} {m m1 m2 m3 M M1 : Mm} {D : Int}
theorem c_shape {C s w l : Int} (hC : C = 77 ∨ C = 80) (l0 : m C 0 = C + 1) : vm 8 [(2, C), (0, s), (0, w), (0, l)] (n, m) = some (none, (n, clC (stm (stm (stm m C 2 s) C 3 w) C 4 l) C)) := by
  have k1 : kd C = (1, 7) := by rcases hC with e | e <;> rw [e] <;> rfl
  have C0 : 0 < C := by omega
  have c9 := c_clear (n := n) (m := stm (stm (stm m C 2 s) C 3 w) C 4 l) hC (by rw [stm_k (by omega), stm_k (by omega), stm_k (by omega)]; exact l0)
  rw [e_X1_shape]
  repeat first
    | (refine Eq.trans (if_pos ?_) ?_; · first | omega | (simp (disch := omega) only [k1, c9, Int.reduceLT, Int.reduceLE, Int.reduceEq, Int.reduceNe, Int.reduceNeg, Int.reduceAdd, Int.reduceSub, Int.reduceMul, Int.reduceGE, Int.reduceGT, Nat.reduceEqDiff, Nat.reduceAdd, and_true, true_and, and_self, not_true_eq_false, not_false_eq_true, ne_eq, and_false, false_and, or_false, or_true, false_or, true_or, vx_some, eq_self, ↓reduceIte, ite_t1, ite_t2, ite_t3, le_T, le_F, lt_T, lt_F, ge_T, ge_F, gt_T, gt_F, eq_T, eq_F, w32_i, kd_1, kd_2, kd_3, kd_4, kd_5, kd_6, kd_7, kd_14, kd_15, kd_16, kd_29, kd_34, kd_56, kd_74, kd_75, kd_76, kd_77, kd_78, kd_79, kd_80, kd_81, kd_82, kd_83, kd_84, kd_85, kd_86, kd_87, kd_88, kd_89, kd_90, kd_91, kd_92, kd_93, kd_94, kd_95, kd_96, kd_97, kd_98, kd_99, kd_100, kd_101, kd_102, kd_103, kd_104, kd_105, kd_106, kd_107, kd_108]; done))
    | (refine Eq.trans (if_neg ?_) ?_; · first | omega | (simp (disch := omega) only [k1, c9, Int.reduceLT, Int.reduceLE, Int.reduceEq, Int.reduceNe, Int.reduceNeg, Int.reduceAdd, Int.reduceSub, Int.reduceMul, Int.reduceGE, Int.reduceGT, Nat.reduceEqDiff, Nat.reduceAdd, and_true, true_and, and_self, not_true_eq_false, not_false_eq_true, ne_eq, and_false, false_and, or_false, or_true, false_or, true_or, vx_some, eq_self, ↓reduceIte, ite_t1, ite_t2, ite_t3, le_T, le_F, lt_T, lt_F, ge_T, ge_F, gt_T, gt_F, eq_T, eq_F, w32_i, kd_1, kd_2, kd_3, kd_4, kd_5, kd_6, kd_7, kd_14, kd_15, kd_16, kd_29, kd_34, kd_56, kd_74, kd_75, kd_76, kd_77, kd_78, kd_79, kd_80, kd_81, kd_82, kd_83, kd_84, kd_85, kd_86, kd_87, kd_88, kd_89, kd_90, kd_91, kd_92, kd_93, kd_94, kd_95, kd_96, kd_97, kd_98, kd_99, kd_100, kd_101, kd_102, kd_103, kd_104, kd_105, kd_106, kd_107, kd_108]; done))
    | (refine Eq.trans (bnd (r := ?_) ?_) ?_; rotate_left 1; (focus (simp (disch := omega) only [k1, c9, Int.reduceLT, Int.reduceLE, Int.reduceEq, Int.reduceNe, Int.reduceNeg, Int.reduceAdd, Int.reduceSub, Int.reduceMul, Int.reduceGE, Int.reduceGT, Nat.reduceEqDiff, Nat.reduceAdd, and_true, true_and, and_self, not_true_eq_false, not_false_eq_true, ne_eq, and_false, false_and, or_false, or_true, false_or, true_or, vx_some, eq_self, ↓reduceIte, ite_t1, ite_t2, ite_t3, le_T, le_F, lt_T, lt_F, ge_T, ge_F, gt_T, gt_F, eq_T, eq_F, w32_i, kd_1, kd_2, kd_3, kd_4, kd_5, kd_6, kd_7, kd_14, kd_15, kd_16, kd_29, kd_34, kd_56, kd_74, kd_75, kd_76, kd_77, kd_78, kd_79, kd_80, kd_81, kd_82, kd_83, kd_84, kd_85, kd_86, kd_87, kd_88, kd_89, kd_90, kd_91, kd_92, kd_93, kd_94, kd_95, kd_96, kd_97, kd_98, kd_99, kd_100, kd_101, kd_102, kd_103, kd_104, kd_105, kd_106, kd_107, kd_108]; exact rfl)); simp only [vx_some])
  all_goals with_reducible rfl
theorem clC_o {C o q : Int} (h : ¬ (o = C + 1 ∧ 0 ≤ q ∧ q < 32)) (h2 : ¬ (o = C ∧ (q = 5 ∨ q = 6))) : clC m C o q = m o q := by
  unfold clC
  rw [stm_ap, if_neg (by omega), stm_ap, if_neg (by omega), fil_ap, if_neg h]
theorem clC_5 {C : Int} : clC m C C 5 = 0 := by
  unfold clC
  rw [stm_k (by omega), stm_same]
theorem clC_6 {C : Int} : clC m C C 6 = 0 := by
  unfold clC
  rw [stm_same]
theorem clC_r {C q : Int} (q0 : 0 ≤ q) (q1 : q < 32) : clC m C (C + 1) q = -1 := by
  unfold clC
  rw [stm_o (by omega), stm_o (by omega), fil_ap, if_pos (by omega)]
theorem c_tail {N cnt S W L : Int} (hD : D = 30 ∨ D = 52) (F : FX m) (F1 : FX m1) (h11 : m 1 1 = N) (h14 : m 1 4 = D) (h13' : m1 1 3 = 82 - D) (h14' : m1 1 4 = D) (r65 : vm 65 [(2, 3), (2, 2), (0, N), (2, D)] (n, m) = some (some (0, 1), (n, m1))) (ro : vm 42 [(2, 6), (2, D)] (n, stm (stm (stm m1 1 1 0) 1 4 (82 - D)) 1 3 D) = some (none, (n, m2))) (F2 : FX m2) (rp : vm 108 [(2, 1)] (n, m2) = some (none, (n, m3))) (F3 : FX m3) (h3 : m3 1 3 = D) (d5 : m3 D 5 = cnt) (d9 : m3 D 9 = S) (d10 : m3 D 10 = W) (d11 : m3 D 11 = L) : ∃ m7, vm 107 [(2, 1)] (n, m) = some (some (0, cnt), (n, m7)) ∧ (m7 74 2 = 0 ∧ m7 74 3 = 0) ∧ ((m7 77 2 = S ∧ m7 77 3 = W ∧ m7 77 4 = L) ∧ m7 77 5 = 0 ∧ m7 77 6 = 0 ∧ ∀ q : Int, 0 ≤ q → q < 32 → m7 78 q = -1) ∧ (m7 80 2 = S ∧ m7 80 3 = W ∧ m7 80 4 = L) ∧ ((m7 83 1 = 0 ∧ m7 83 2 = 0) ∧ ∀ q : Int, 0 ≤ q → q < 2400 → m7 84 q = 0) ∧ ∀ o q : Int, ¬ ((o = 74 ∧ (q = 2 ∨ q = 3)) ∨ (o = 77 ∧ 2 ≤ q) ∨ o = 78 ∨ (o = 80 ∧ 2 ≤ q) ∨ o = 81 ∨ (o = 83 ∧ 1 ≤ q) ∨ o = 84) → m7 o q = m3 o q := by
  have kD := (plan_kd hD).1
  have D0 : 0 < D := by omega
  have c10 := F.c1_0
  have c12 := F.c1_2
  have c15 := F1.c1_5
  have c36 := F3.c1_6
  have c37 := F3.c1_7
  have c38 := F3.c1_8
  have c39 := F3.c1_9
  obtain ⟨m4, h4⟩ : ∃ x : Mm, x = stm (stm m3 74 2 0) 74 3 0 := ⟨_, rfl⟩
  obtain ⟨m5, h5⟩ : ∃ x : Mm, x = clC (stm (stm (stm m4 77 2 S) 77 3 W) 77 4 L) 77 := ⟨_, rfl⟩
  obtain ⟨m6, h6⟩ : ∃ x : Mm, x = clC (stm (stm (stm m5 80 2 S) 80 3 W) 80 4 L) 80 := ⟨_, rfl⟩
  obtain ⟨m7, h7⟩ : ∃ x : Mm, x = stm (stm (fil m6 84 0 2400 0) 83 1 0) 83 2 0 := ⟨_, rfl⟩
  have g4 : ∀ o q : Int, ¬ (o = 74 ∧ (q = 2 ∨ q = 3)) → m4 o q = m3 o q := fun o q h => by rw [h4, stm_ap, if_neg (by omega), stm_ap, if_neg (by omega)]
  have g5 : ∀ o q : Int, ¬ ((o = 77 ∧ 2 ≤ q) ∨ o = 78) → m5 o q = m4 o q := fun o q h => by rw [h5, clC_o (by omega) (by omega), stm_ap, if_neg (by omega), stm_ap, if_neg (by omega), stm_ap, if_neg (by omega)]
  have g6 : ∀ o q : Int, ¬ ((o = 80 ∧ 2 ≤ q) ∨ o = 81) → m6 o q = m5 o q := fun o q h => by rw [h6, clC_o (by omega) (by omega), stm_ap, if_neg (by omega), stm_ap, if_neg (by omega), stm_ap, if_neg (by omega)]
  have g7 : ∀ o q : Int, ¬ ((o = 83 ∧ 1 ≤ q) ∨ o = 84) → m7 o q = m6 o q := fun o q h => by rw [h7, stm_ap, if_neg (by omega), stm_ap, if_neg (by omega), fil_ap, if_neg (by omega)]
  have F4 : FX m4 := F3.fr (fun o q h => g4 o q (by unfold FXP at h; omega))
  have F5 : FX m5 := F4.fr (fun o q h => g5 o q (by unfold FXP at h; omega))
  have F6 : FX m6 := F5.fr (fun o q h => g6 o q (by unfold FXP at h; omega))
  have r1 : vm 1 [(2, 74)] (n, m3) = some (none, (n, m4)) := by
    rw [e_X0_clear, h4]
    repeat first
      | (refine Eq.trans (if_pos ?_) ?_; · first | omega | (simp (disch := omega) only [Int.reduceLT, Int.reduceLE, Int.reduceEq, Int.reduceNe, Int.reduceNeg, Int.reduceAdd, Int.reduceSub, Int.reduceMul, Int.reduceGE, Int.reduceGT, Nat.reduceEqDiff, Nat.reduceAdd, and_true, true_and, and_self, not_true_eq_false, not_false_eq_true, ne_eq, and_false, false_and, or_false, or_true, false_or, true_or, vx_some, eq_self, ↓reduceIte, ite_t1, ite_t2, ite_t3, le_T, le_F, lt_T, lt_F, ge_T, ge_F, gt_T, gt_F, eq_T, eq_F, w32_i, kd_1, kd_2, kd_3, kd_4, kd_5, kd_6, kd_7, kd_14, kd_15, kd_16, kd_29, kd_34, kd_56, kd_74, kd_75, kd_76, kd_77, kd_78, kd_79, kd_80, kd_81, kd_82, kd_83, kd_84, kd_85, kd_86, kd_87, kd_88, kd_89, kd_90, kd_91, kd_92, kd_93, kd_94, kd_95, kd_96, kd_97, kd_98, kd_99, kd_100, kd_101, kd_102, kd_103, kd_104, kd_105, kd_106, kd_107, kd_108]; done))
      | (refine Eq.trans (if_neg ?_) ?_; · first | omega | (simp (disch := omega) only [Int.reduceLT, Int.reduceLE, Int.reduceEq, Int.reduceNe, Int.reduceNeg, Int.reduceAdd, Int.reduceSub, Int.reduceMul, Int.reduceGE, Int.reduceGT, Nat.reduceEqDiff, Nat.reduceAdd, and_true, true_and, and_self, not_true_eq_false, not_false_eq_true, ne_eq, and_false, false_and, or_false, or_true, false_or, true_or, vx_some, eq_self, ↓reduceIte, ite_t1, ite_t2, ite_t3, le_T, le_F, lt_T, lt_F, ge_T, ge_F, gt_T, gt_F, eq_T, eq_F, w32_i, kd_1, kd_2, kd_3, kd_4, kd_5, kd_6, kd_7, kd_14, kd_15, kd_16, kd_29, kd_34, kd_56, kd_74, kd_75, kd_76, kd_77, kd_78, kd_79, kd_80, kd_81, kd_82, kd_83, kd_84, kd_85, kd_86, kd_87, kd_88, kd_89, kd_90, kd_91, kd_92, kd_93, kd_94, kd_95, kd_96, kd_97, kd_98, kd_99, kd_100, kd_101, kd_102, kd_103, kd_104, kd_105, kd_106, kd_107, kd_108]; done))
      | (refine Eq.trans (bnd (r := ?_) ?_) ?_; rotate_left 1; (focus (simp (disch := omega) only [Int.reduceLT, Int.reduceLE, Int.reduceEq, Int.reduceNe, Int.reduceNeg, Int.reduceAdd, Int.reduceSub, Int.reduceMul, Int.reduceGE, Int.reduceGT, Nat.reduceEqDiff, Nat.reduceAdd, and_true, true_and, and_self, not_true_eq_false, not_false_eq_true, ne_eq, and_false, false_and, or_false, or_true, false_or, true_or, vx_some, eq_self, ↓reduceIte, ite_t1, ite_t2, ite_t3, le_T, le_F, lt_T, lt_F, ge_T, ge_F, gt_T, gt_F, eq_T, eq_F, w32_i, kd_1, kd_2, kd_3, kd_4, kd_5, kd_6, kd_7, kd_14, kd_15, kd_16, kd_29, kd_34, kd_56, kd_74, kd_75, kd_76, kd_77, kd_78, kd_79, kd_80, kd_81, kd_82, kd_83, kd_84, kd_85, kd_86, kd_87, kd_88, kd_89, kd_90, kd_91, kd_92, kd_93, kd_94, kd_95, kd_96, kd_97, kd_98, kd_99, kd_100, kd_101, kd_102, kd_103, kd_104, kd_105, kd_106, kd_107, kd_108]; exact rfl)); simp only [vx_some])
    all_goals with_reducible rfl
  have r2 : vm 8 [(2, 77), (0, S), (0, W), (0, L)] (n, m4) = some (none, (n, m5)) := by
    rw [h5]
    exact c_shape (Or.inl rfl) F4.c77_0
  have r3 : vm 8 [(2, 80), (0, S), (0, W), (0, L)] (n, m5) = some (none, (n, m6)) := by
    rw [h6]
    exact c_shape (Or.inr rfl) F5.c80_0
  have r4 : vm 60 [(2, 83)] (n, m6) = some (none, (n, m7)) := by
    rw [h7]
    exact c_tclear F6
  have x413 : m4 1 3 = D := by rw [g4 1 3 (by omega)]; exact h3
  have x4d : ∀ q : Int, m4 D q = m3 D q := fun q => g4 D q (by omega)
  have x513 : m5 1 3 = D := by rw [g5 1 3 (by omega)]; exact x413
  have x5d : ∀ q : Int, m5 D q = m3 D q := fun q => by rw [g5 D q (by omega)]; exact x4d q
  have x713 : m7 1 3 = D := by rw [g7 1 3 (by omega), g6 1 3 (by omega)]; exact x513
  have x7d : m7 D 5 = cnt := by rw [g7 D 5 (by omega), g6 D 5 (by omega), x5d, d5]
  have x417 := F4.c1_7
  have x518 := F5.c1_8
  have x619 := F6.c1_9
  refine ⟨m7, ?_, ⟨?_, ?_⟩, ⟨⟨?_, ?_, ?_⟩, ?_, ?_, fun q q0 q1 => ?_⟩, ⟨?_, ?_, ?_⟩, ⟨⟨?_, ?_⟩, fun q q0 q1 => ?_⟩, fun o q h => ?_⟩
  · clear h4 h5 h6 h7 g4 g5 g6 g7 F F1 F2 F3 F4 F5 F6
    have D82 : 0 < 82 - D := by omega
    rw [e_X11_bank]
    repeat first
      | (refine Eq.trans (if_pos ?_) ?_; · first | omega | (simp (disch := omega) only [c12, c10, h11, h14, r65, stm_k, stm_o, stm_same, h13', h14', c15, ro, rp, c36, r1, x413, kD, x417, x4d, d9, d10, d11, r2, x513, x518, x5d, r3, x619, r4, x713, x7d, Int.reduceLT, Int.reduceLE, Int.reduceEq, Int.reduceNe, Int.reduceNeg, Int.reduceAdd, Int.reduceSub, Int.reduceMul, Int.reduceGE, Int.reduceGT, Nat.reduceEqDiff, Nat.reduceAdd, and_true, true_and, and_self, not_true_eq_false, not_false_eq_true, ne_eq, and_false, false_and, or_false, or_true, false_or, true_or, vx_some, eq_self, ↓reduceIte, ite_t1, ite_t2, ite_t3, le_T, le_F, lt_T, lt_F, ge_T, ge_F, gt_T, gt_F, eq_T, eq_F, w32_i, kd_1, kd_2, kd_3, kd_4, kd_5, kd_6, kd_7, kd_14, kd_15, kd_16, kd_29, kd_34, kd_56, kd_74, kd_75, kd_76, kd_77, kd_78, kd_79, kd_80, kd_81, kd_82, kd_83, kd_84, kd_85, kd_86, kd_87, kd_88, kd_89, kd_90, kd_91, kd_92, kd_93, kd_94, kd_95, kd_96, kd_97, kd_98, kd_99, kd_100, kd_101, kd_102, kd_103, kd_104, kd_105, kd_106, kd_107, kd_108]; done))
      | (refine Eq.trans (if_neg ?_) ?_; · first | omega | (simp (disch := omega) only [c12, c10, h11, h14, r65, stm_k, stm_o, stm_same, h13', h14', c15, ro, rp, c36, r1, x413, kD, x417, x4d, d9, d10, d11, r2, x513, x518, x5d, r3, x619, r4, x713, x7d, Int.reduceLT, Int.reduceLE, Int.reduceEq, Int.reduceNe, Int.reduceNeg, Int.reduceAdd, Int.reduceSub, Int.reduceMul, Int.reduceGE, Int.reduceGT, Nat.reduceEqDiff, Nat.reduceAdd, and_true, true_and, and_self, not_true_eq_false, not_false_eq_true, ne_eq, and_false, false_and, or_false, or_true, false_or, true_or, vx_some, eq_self, ↓reduceIte, ite_t1, ite_t2, ite_t3, le_T, le_F, lt_T, lt_F, ge_T, ge_F, gt_T, gt_F, eq_T, eq_F, w32_i, kd_1, kd_2, kd_3, kd_4, kd_5, kd_6, kd_7, kd_14, kd_15, kd_16, kd_29, kd_34, kd_56, kd_74, kd_75, kd_76, kd_77, kd_78, kd_79, kd_80, kd_81, kd_82, kd_83, kd_84, kd_85, kd_86, kd_87, kd_88, kd_89, kd_90, kd_91, kd_92, kd_93, kd_94, kd_95, kd_96, kd_97, kd_98, kd_99, kd_100, kd_101, kd_102, kd_103, kd_104, kd_105, kd_106, kd_107, kd_108]; done))
      | (refine Eq.trans (bnd (r := ?_) ?_) ?_; rotate_left 1; (focus (simp (disch := omega) only [c12, c10, h11, h14, r65, stm_k, stm_o, stm_same, h13', h14', c15, ro, rp, c36, r1, x413, kD, x417, x4d, d9, d10, d11, r2, x513, x518, x5d, r3, x619, r4, x713, x7d, Int.reduceLT, Int.reduceLE, Int.reduceEq, Int.reduceNe, Int.reduceNeg, Int.reduceAdd, Int.reduceSub, Int.reduceMul, Int.reduceGE, Int.reduceGT, Nat.reduceEqDiff, Nat.reduceAdd, and_true, true_and, and_self, not_true_eq_false, not_false_eq_true, ne_eq, and_false, false_and, or_false, or_true, false_or, true_or, vx_some, eq_self, ↓reduceIte, ite_t1, ite_t2, ite_t3, le_T, le_F, lt_T, lt_F, ge_T, ge_F, gt_T, gt_F, eq_T, eq_F, w32_i, kd_1, kd_2, kd_3, kd_4, kd_5, kd_6, kd_7, kd_14, kd_15, kd_16, kd_29, kd_34, kd_56, kd_74, kd_75, kd_76, kd_77, kd_78, kd_79, kd_80, kd_81, kd_82, kd_83, kd_84, kd_85, kd_86, kd_87, kd_88, kd_89, kd_90, kd_91, kd_92, kd_93, kd_94, kd_95, kd_96, kd_97, kd_98, kd_99, kd_100, kd_101, kd_102, kd_103, kd_104, kd_105, kd_106, kd_107, kd_108]; exact rfl)); simp only [vx_some])
    all_goals simp only [x713, x7d]
  · rw [g7 74 2 (by omega), g6 74 2 (by omega), g5 74 2 (by omega), h4, stm_k (by omega), stm_same]
  · rw [g7 74 3 (by omega), g6 74 3 (by omega), g5 74 3 (by omega), h4, stm_same]
  · rw [g7 77 2 (by omega), g6 77 2 (by omega), h5, clC_o (by omega) (by omega), stm_k (by omega), stm_k (by omega), stm_same]
  · rw [g7 77 3 (by omega), g6 77 3 (by omega), h5, clC_o (by omega) (by omega), stm_k (by omega), stm_same]
  · rw [g7 77 4 (by omega), g6 77 4 (by omega), h5, clC_o (by omega) (by omega), stm_same]
  · rw [g7 77 5 (by omega), g6 77 5 (by omega), h5, clC_5]
  · rw [g7 77 6 (by omega), g6 77 6 (by omega), h5, clC_6]
  · rw [g7 78 q (by omega), g6 78 q (by omega), h5]
    exact clC_r q0 q1
  · rw [g7 80 2 (by omega), h6, clC_o (by omega) (by omega), stm_k (by omega), stm_k (by omega), stm_same]
  · rw [g7 80 3 (by omega), h6, clC_o (by omega) (by omega), stm_k (by omega), stm_same]
  · rw [g7 80 4 (by omega), h6, clC_o (by omega) (by omega), stm_same]
  · rw [h7, stm_k (by omega), stm_same]
  · rw [h7, stm_same]
  · rw [h7, stm_o (by omega), stm_o (by omega), fil_ap, if_pos (by omega)]
  · rw [g7 o q (by omega), g6 o q (by omega), g5 o q (by omega), g4 o q (by omega)]
/-- the model: what is told stands below -/
def M3o (M1 : Mm) : Mm := hlf (hlf (hlf (hlf (stm (stm M1 88 10 0) 88 11 (-1)) 90 5 5) 93 6 6) 94 6 6) 95 28 28
theorem hlf_o {c H o q : Int} (h : o ≠ c) : hlf M c H H o q = M o q := by rw [hlf_ap, if_neg (by omega)]
theorem M3o_o {o q : Int} (h : o ≠ 90) (h2 : o ≠ 93) (h3 : o ≠ 94) (h4 : o ≠ 95) (h5 : ¬ (o = 88 ∧ (q = 10 ∨ q = 11))) : M3o M1 o q = M1 o q := by
  unfold M3o
  rw [hlf_o h4, hlf_o h3, hlf_o h2, hlf_o h, stm_ap, if_neg (by omega), stm_ap, if_neg (by omega)]
theorem M3o_t : TKN (M3o M1) M1 := by
  unfold M3o
  refine ⟨fun k k0 k1 => ?_, fun k k0 k1 => ?_, fun k k0 k1 => ?_, fun k k0 k1 => ?_⟩
  · rw [hlf_o (by omega), hlf_o (by omega), hlf_o (by omega), hlf_ap, if_pos (by omega), stm_o (by omega), stm_o (by omega)]
  · rw [hlf_o (by omega), hlf_o (by omega), hlf_ap, if_pos (by omega), hlf_o (by omega), stm_o (by omega), stm_o (by omega)]
  · rw [hlf_o (by omega), hlf_ap, if_pos (by omega), hlf_o (by omega), hlf_o (by omega), stm_o (by omega), stm_o (by omega)]
  · rw [hlf_ap, if_pos (by omega), hlf_o (by omega), hlf_o (by omega), hlf_o (by omega), stm_o (by omega), stm_o (by omega)]
theorem p_tail {fc : Int} {M5 : Mm} {z' : Vl} (F1 : FX M1) (K3 : KLM (M3o M1)) (r205 : vm 205 [(2, 88)] (n, M) = vp 205 36 [(2, 88)] [] (n, M1)) (b8 : M1 88 8 = 0) (b9 : M1 88 9 = -1) (b5 : M1 88 5 = 0) (rp : vp 204 99 [(2, 88), (0, 0), (9, 0)] [] (n, tkM (M3o M1) 2400) = vp 204 99 [(2, 88), (0, fc), z'] [] (n, M5)) (F5 : FX M5) (h20 : M5 88 20 = fc) : vm 205 [(2, 88)] (n, M) = some (some (0, M5 90 3), (n, stm (stm (emM (stm M5 88 26 0)) 108 0 0) 108 1 0)) := by
  have g := g_isGood (n := n) b8
  have F2 : FX (stm (stm M1 88 10 0) 88 11 (-1)) := F1.fr (fun o q h => by rw [stm_ap, if_neg (by unfold FXP at h; omega), stm_ap, if_neg (by unfold FXP at h; omega)])
  have F3 : FX (M3o M1) := F1.fr (fun o q h => M3o_o (by unfold FXP at h; omega) (by unfold FXP at h; omega) (by unfold FXP at h; omega) (by unfold FXP at h; omega) (by unfold FXP at h; omega))
  have h1 := p_half (n := n) (M := stm (stm M1 88 10 0) 88 11 (-1)) (c := 90) (H := 5) (by omega) kd_90 (by omega) (by omega)
  have h2 := p_half (n := n) (M := hlf (stm (stm M1 88 10 0) 88 11 (-1)) 90 5 5) (c := 93) (H := 6) (by omega) kd_93 (by omega) (by omega)
  have h3 := p_half (n := n) (M := hlf (hlf (stm (stm M1 88 10 0) 88 11 (-1)) 90 5 5) 93 6 6) (c := 94) (H := 6) (by omega) kd_94 (by omega) (by omega)
  have h4 := p_half (n := n) (M := hlf (hlf (hlf (stm (stm M1 88 10 0) 88 11 (-1)) 90 5 5) 93 6 6) 94 6 6) (c := 95) (H := 28) (by omega) kd_95 (by omega) (by omega)
  have c13 := F2.c88_13
  have c16 : hlf (stm (stm M1 88 10 0) 88 11 (-1)) 90 5 5 88 16 = 93 := by rw [hlf_o (by omega)]; exact F2.c88_16
  have c17 : hlf (hlf (stm (stm M1 88 10 0) 88 11 (-1)) 90 5 5) 93 6 6 88 17 = 94 := by rw [hlf_o (by omega), hlf_o (by omega)]; exact F2.c88_17
  have c18 : hlf (hlf (hlf (stm (stm M1 88 10 0) 88 11 (-1)) 90 5 5) 93 6 6) 94 6 6 88 18 = 95 := by rw [hlf_o (by omega), hlf_o (by omega), hlf_o (by omega)]; exact F2.c88_18
  have tk := p_tk30 (n := n) F3 K3 2400 0 (9, 0) (by omega) (by omega)
  rw [tkM_0] at tk
  have e26 : ∀ o q : Int, ¬ (o = 88 ∧ q = 26) → stm M5 88 26 0 o q = M5 o q := fun o q h => by rw [stm_ap, if_neg h]
  have F6 : FX (stm M5 88 26 0) := F5.fr (fun o q h => e26 o q (by unfold FXP at h; omega))
  have F7 : FX (emM (stm M5 88 26 0)) := F6.fr (fun o q h => by
    unfold emM
    rw [stm_ap, if_neg (by unfold FXP at h; omega), stm_ap, if_neg (by unfold FXP at h; omega), stm_ap, if_neg (by unfold FXP at h; omega), fil_ap, if_neg (by unfold FXP at h; omega), fil_ap, if_neg (by unfold FXP at h; omega)])
  have em := p_empties (n := n) F6
  have last := p_168 (n := n) F7
  have r204 : vm 204 [(2, 88)] (n, stm (stm M1 88 10 0) 88 11 (-1)) = some (none, (n, stm (stm (emM (stm M5 88 26 0)) 108 0 0) 108 1 0)) := by
    have a : vm 204 [(2, 88)] (n, stm (stm M1 88 10 0) 88 11 (-1)) = vp 204 30 [(2, 88), (0, 0), (9, 0)] [] (n, M3o M1) := by
      clear tk last em rp
      unfold M3o
      rw [e_X12_takesOver]
      generalize stm (stm M1 88 10 0) 88 11 (-1) = X at *
      repeat first
        | (refine Eq.trans (if_pos ?_) ?_; · first | omega | (simp (disch := omega) only [c13, h1, c16, h2, c17, h3, c18, h4, Int.reduceLT, Int.reduceLE, Int.reduceEq, Int.reduceNe, Int.reduceNeg, Int.reduceAdd, Int.reduceSub, Int.reduceMul, Int.reduceGE, Int.reduceGT, Nat.reduceEqDiff, Nat.reduceAdd, and_true, true_and, and_self, not_true_eq_false, not_false_eq_true, ne_eq, and_false, false_and, or_false, or_true, false_or, true_or, vx_some, eq_self, ↓reduceIte, ite_t1, ite_t2, ite_t3, le_T, le_F, lt_T, lt_F, ge_T, ge_F, gt_T, gt_F, eq_T, eq_F, w32_i, kd_1, kd_2, kd_3, kd_4, kd_5, kd_6, kd_7, kd_14, kd_15, kd_16, kd_29, kd_34, kd_56, kd_74, kd_75, kd_76, kd_77, kd_78, kd_79, kd_80, kd_81, kd_82, kd_83, kd_84, kd_85, kd_86, kd_87, kd_88, kd_89, kd_90, kd_91, kd_92, kd_93, kd_94, kd_95, kd_96, kd_97, kd_98, kd_99, kd_100, kd_101, kd_102, kd_103, kd_104, kd_105, kd_106, kd_107, kd_108]; done))
        | (refine Eq.trans (if_neg ?_) ?_; · first | omega | (simp (disch := omega) only [c13, h1, c16, h2, c17, h3, c18, h4, Int.reduceLT, Int.reduceLE, Int.reduceEq, Int.reduceNe, Int.reduceNeg, Int.reduceAdd, Int.reduceSub, Int.reduceMul, Int.reduceGE, Int.reduceGT, Nat.reduceEqDiff, Nat.reduceAdd, and_true, true_and, and_self, not_true_eq_false, not_false_eq_true, ne_eq, and_false, false_and, or_false, or_true, false_or, true_or, vx_some, eq_self, ↓reduceIte, ite_t1, ite_t2, ite_t3, le_T, le_F, lt_T, lt_F, ge_T, ge_F, gt_T, gt_F, eq_T, eq_F, w32_i, kd_1, kd_2, kd_3, kd_4, kd_5, kd_6, kd_7, kd_14, kd_15, kd_16, kd_29, kd_34, kd_56, kd_74, kd_75, kd_76, kd_77, kd_78, kd_79, kd_80, kd_81, kd_82, kd_83, kd_84, kd_85, kd_86, kd_87, kd_88, kd_89, kd_90, kd_91, kd_92, kd_93, kd_94, kd_95, kd_96, kd_97, kd_98, kd_99, kd_100, kd_101, kd_102, kd_103, kd_104, kd_105, kd_106, kd_107, kd_108]; done))
        | (refine Eq.trans (bnd (r := ?_) ?_) ?_; rotate_left 1; (focus (simp (disch := omega) only [c13, h1, c16, h2, c17, h3, c18, h4, Int.reduceLT, Int.reduceLE, Int.reduceEq, Int.reduceNe, Int.reduceNeg, Int.reduceAdd, Int.reduceSub, Int.reduceMul, Int.reduceGE, Int.reduceGT, Nat.reduceEqDiff, Nat.reduceAdd, and_true, true_and, and_self, not_true_eq_false, not_false_eq_true, ne_eq, and_false, false_and, or_false, or_true, false_or, true_or, vx_some, eq_self, ↓reduceIte, ite_t1, ite_t2, ite_t3, le_T, le_F, lt_T, lt_F, ge_T, ge_F, gt_T, gt_F, eq_T, eq_F, w32_i, kd_1, kd_2, kd_3, kd_4, kd_5, kd_6, kd_7, kd_14, kd_15, kd_16, kd_29, kd_34, kd_56, kd_74, kd_75, kd_76, kd_77, kd_78, kd_79, kd_80, kd_81, kd_82, kd_83, kd_84, kd_85, kd_86, kd_87, kd_88, kd_89, kd_90, kd_91, kd_92, kd_93, kd_94, kd_95, kd_96, kd_97, kd_98, kd_99, kd_100, kd_101, kd_102, kd_103, kd_104, kd_105, kd_106, kd_107, kd_108]; exact rfl)); simp only [vx_some])
      all_goals with_reducible rfl
    refine a.trans (tk.trans (rp.trans ?_))
    clear a tk rp h1 h2 h3 h4
    refine Eq.trans (e_X12_takesOver_99 ..) ?_
    generalize emM (stm M5 88 26 0) = Y at *
    repeat first
      | (refine Eq.trans (if_pos ?_) ?_; · first | omega | (simp (disch := omega) only [h20, em, Int.reduceLT, Int.reduceLE, Int.reduceEq, Int.reduceNe, Int.reduceNeg, Int.reduceAdd, Int.reduceSub, Int.reduceMul, Int.reduceGE, Int.reduceGT, Nat.reduceEqDiff, Nat.reduceAdd, and_true, true_and, and_self, not_true_eq_false, not_false_eq_true, ne_eq, and_false, false_and, or_false, or_true, false_or, true_or, vx_some, eq_self, ↓reduceIte, ite_t1, ite_t2, ite_t3, le_T, le_F, lt_T, lt_F, ge_T, ge_F, gt_T, gt_F, eq_T, eq_F, w32_i, kd_1, kd_2, kd_3, kd_4, kd_5, kd_6, kd_7, kd_14, kd_15, kd_16, kd_29, kd_34, kd_56, kd_74, kd_75, kd_76, kd_77, kd_78, kd_79, kd_80, kd_81, kd_82, kd_83, kd_84, kd_85, kd_86, kd_87, kd_88, kd_89, kd_90, kd_91, kd_92, kd_93, kd_94, kd_95, kd_96, kd_97, kd_98, kd_99, kd_100, kd_101, kd_102, kd_103, kd_104, kd_105, kd_106, kd_107, kd_108]; done))
      | (refine Eq.trans (if_neg ?_) ?_; · first | omega | (simp (disch := omega) only [h20, em, Int.reduceLT, Int.reduceLE, Int.reduceEq, Int.reduceNe, Int.reduceNeg, Int.reduceAdd, Int.reduceSub, Int.reduceMul, Int.reduceGE, Int.reduceGT, Nat.reduceEqDiff, Nat.reduceAdd, and_true, true_and, and_self, not_true_eq_false, not_false_eq_true, ne_eq, and_false, false_and, or_false, or_true, false_or, true_or, vx_some, eq_self, ↓reduceIte, ite_t1, ite_t2, ite_t3, le_T, le_F, lt_T, lt_F, ge_T, ge_F, gt_T, gt_F, eq_T, eq_F, w32_i, kd_1, kd_2, kd_3, kd_4, kd_5, kd_6, kd_7, kd_14, kd_15, kd_16, kd_29, kd_34, kd_56, kd_74, kd_75, kd_76, kd_77, kd_78, kd_79, kd_80, kd_81, kd_82, kd_83, kd_84, kd_85, kd_86, kd_87, kd_88, kd_89, kd_90, kd_91, kd_92, kd_93, kd_94, kd_95, kd_96, kd_97, kd_98, kd_99, kd_100, kd_101, kd_102, kd_103, kd_104, kd_105, kd_106, kd_107, kd_108]; done))
      | (refine Eq.trans (bnd (r := ?_) ?_) ?_; rotate_left 1; (focus (simp (disch := omega) only [h20, em, Int.reduceLT, Int.reduceLE, Int.reduceEq, Int.reduceNe, Int.reduceNeg, Int.reduceAdd, Int.reduceSub, Int.reduceMul, Int.reduceGE, Int.reduceGT, Nat.reduceEqDiff, Nat.reduceAdd, and_true, true_and, and_self, not_true_eq_false, not_false_eq_true, ne_eq, and_false, false_and, or_false, or_true, false_or, true_or, vx_some, eq_self, ↓reduceIte, ite_t1, ite_t2, ite_t3, le_T, le_F, lt_T, lt_F, ge_T, ge_F, gt_T, gt_F, eq_T, eq_F, w32_i, kd_1, kd_2, kd_3, kd_4, kd_5, kd_6, kd_7, kd_14, kd_15, kd_16, kd_29, kd_34, kd_56, kd_74, kd_75, kd_76, kd_77, kd_78, kd_79, kd_80, kd_81, kd_82, kd_83, kd_84, kd_85, kd_86, kd_87, kd_88, kd_89, kd_90, kd_91, kd_92, kd_93, kd_94, kd_95, kd_96, kd_97, kd_98, kd_99, kd_100, kd_101, kd_102, kd_103, kd_104, kd_105, kd_106, kd_107, kd_108]; exact rfl)); simp only [vx_some])
    exact last
  have F8 : FX (stm (stm (emM (stm M5 88 26 0)) 108 0 0) 108 1 0) := F7.fr (fun o q h => by rw [stm_ap, if_neg (by unfold FXP at h; omega), stm_ap, if_neg (by unfold FXP at h; omega)])
  have e90 : (stm (stm (emM (stm M5 88 26 0)) 108 0 0) 108 1 0) 90 3 = M5 90 3 := by
    rw [stm_o (by omega), stm_o (by omega)]
    unfold emM
    rw [stm_o (by omega), stm_o (by omega), stm_o (by omega), fil_ap, if_neg (by omega), fil_ap, if_neg (by omega), stm_o (by omega)]
  have r207 : vm 207 [(2, 88)] (n, stm (stm (emM (stm M5 88 26 0)) 108 0 0) 108 1 0) = some (some (0, M5 90 3), (n, stm (stm (emM (stm M5 88 26 0)) 108 0 0) 108 1 0)) := by
    have c13' := F8.c88_13
    clear em last r204 tk rp
    generalize stm (stm (emM (stm M5 88 26 0)) 108 0 0) 108 1 0 = Z at *
    rw [e_X12_stores]
    repeat first
      | (refine Eq.trans (if_pos ?_) ?_; · first | omega | (simp (disch := omega) only [c13', Int.reduceLT, Int.reduceLE, Int.reduceEq, Int.reduceNe, Int.reduceNeg, Int.reduceAdd, Int.reduceSub, Int.reduceMul, Int.reduceGE, Int.reduceGT, Nat.reduceEqDiff, Nat.reduceAdd, and_true, true_and, and_self, not_true_eq_false, not_false_eq_true, ne_eq, and_false, false_and, or_false, or_true, false_or, true_or, vx_some, eq_self, ↓reduceIte, ite_t1, ite_t2, ite_t3, le_T, le_F, lt_T, lt_F, ge_T, ge_F, gt_T, gt_F, eq_T, eq_F, w32_i, kd_1, kd_2, kd_3, kd_4, kd_5, kd_6, kd_7, kd_14, kd_15, kd_16, kd_29, kd_34, kd_56, kd_74, kd_75, kd_76, kd_77, kd_78, kd_79, kd_80, kd_81, kd_82, kd_83, kd_84, kd_85, kd_86, kd_87, kd_88, kd_89, kd_90, kd_91, kd_92, kd_93, kd_94, kd_95, kd_96, kd_97, kd_98, kd_99, kd_100, kd_101, kd_102, kd_103, kd_104, kd_105, kd_106, kd_107, kd_108]; done))
      | (refine Eq.trans (if_neg ?_) ?_; · first | omega | (simp (disch := omega) only [c13', Int.reduceLT, Int.reduceLE, Int.reduceEq, Int.reduceNe, Int.reduceNeg, Int.reduceAdd, Int.reduceSub, Int.reduceMul, Int.reduceGE, Int.reduceGT, Nat.reduceEqDiff, Nat.reduceAdd, and_true, true_and, and_self, not_true_eq_false, not_false_eq_true, ne_eq, and_false, false_and, or_false, or_true, false_or, true_or, vx_some, eq_self, ↓reduceIte, ite_t1, ite_t2, ite_t3, le_T, le_F, lt_T, lt_F, ge_T, ge_F, gt_T, gt_F, eq_T, eq_F, w32_i, kd_1, kd_2, kd_3, kd_4, kd_5, kd_6, kd_7, kd_14, kd_15, kd_16, kd_29, kd_34, kd_56, kd_74, kd_75, kd_76, kd_77, kd_78, kd_79, kd_80, kd_81, kd_82, kd_83, kd_84, kd_85, kd_86, kd_87, kd_88, kd_89, kd_90, kd_91, kd_92, kd_93, kd_94, kd_95, kd_96, kd_97, kd_98, kd_99, kd_100, kd_101, kd_102, kd_103, kd_104, kd_105, kd_106, kd_107, kd_108]; done))
      | (refine Eq.trans (bnd (r := ?_) ?_) ?_; rotate_left 1; (focus (simp (disch := omega) only [c13', Int.reduceLT, Int.reduceLE, Int.reduceEq, Int.reduceNe, Int.reduceNeg, Int.reduceAdd, Int.reduceSub, Int.reduceMul, Int.reduceGE, Int.reduceGT, Nat.reduceEqDiff, Nat.reduceAdd, and_true, true_and, and_self, not_true_eq_false, not_false_eq_true, ne_eq, and_false, false_and, or_false, or_true, false_or, true_or, vx_some, eq_self, ↓reduceIte, ite_t1, ite_t2, ite_t3, le_T, le_F, lt_T, lt_F, ge_T, ge_F, gt_T, gt_F, eq_T, eq_F, w32_i, kd_1, kd_2, kd_3, kd_4, kd_5, kd_6, kd_7, kd_14, kd_15, kd_16, kd_29, kd_34, kd_56, kd_74, kd_75, kd_76, kd_77, kd_78, kd_79, kd_80, kd_81, kd_82, kd_83, kd_84, kd_85, kd_86, kd_87, kd_88, kd_89, kd_90, kd_91, kd_92, kd_93, kd_94, kd_95, kd_96, kd_97, kd_98, kd_99, kd_100, kd_101, kd_102, kd_103, kd_104, kd_105, kd_106, kd_107, kd_108]; exact rfl)); simp only [vx_some])
    all_goals simp only [c13', e90]
  rw [r205]
  clear em last tk rp h1 h2 h3 h4 F8 F7 F6 e90
  generalize stm (stm (emM (stm M5 88 26 0)) 108 0 0) 108 1 0 = Z at *
  refine Eq.trans (e_X12_bank_36 ..) ?_
  have y8 : ∀ a b : Int, stm (stm M1 88 10 a) 88 11 b 88 8 = 0 := fun a b => by rw [stm_k (by omega), stm_k (by omega)]; exact b8
  have y9 : ∀ a : Int, stm M1 88 10 a 88 9 = -1 := fun a => by rw [stm_k (by omega)]; exact b9
  repeat first
    | (refine Eq.trans (if_pos ?_) ?_; · first | omega | (simp (disch := omega) only [g, b5, b8, y9, y8, r204, r207, Int.reduceLT, Int.reduceLE, Int.reduceEq, Int.reduceNe, Int.reduceNeg, Int.reduceAdd, Int.reduceSub, Int.reduceMul, Int.reduceGE, Int.reduceGT, Nat.reduceEqDiff, Nat.reduceAdd, and_true, true_and, and_self, not_true_eq_false, not_false_eq_true, ne_eq, and_false, false_and, or_false, or_true, false_or, true_or, vx_some, eq_self, ↓reduceIte, ite_t1, ite_t2, ite_t3, le_T, le_F, lt_T, lt_F, ge_T, ge_F, gt_T, gt_F, eq_T, eq_F, w32_i, kd_1, kd_2, kd_3, kd_4, kd_5, kd_6, kd_7, kd_14, kd_15, kd_16, kd_29, kd_34, kd_56, kd_74, kd_75, kd_76, kd_77, kd_78, kd_79, kd_80, kd_81, kd_82, kd_83, kd_84, kd_85, kd_86, kd_87, kd_88, kd_89, kd_90, kd_91, kd_92, kd_93, kd_94, kd_95, kd_96, kd_97, kd_98, kd_99, kd_100, kd_101, kd_102, kd_103, kd_104, kd_105, kd_106, kd_107, kd_108]; done))
    | (refine Eq.trans (if_neg ?_) ?_; · first | omega | (simp (disch := omega) only [g, b5, b8, y9, y8, r204, r207, Int.reduceLT, Int.reduceLE, Int.reduceEq, Int.reduceNe, Int.reduceNeg, Int.reduceAdd, Int.reduceSub, Int.reduceMul, Int.reduceGE, Int.reduceGT, Nat.reduceEqDiff, Nat.reduceAdd, and_true, true_and, and_self, not_true_eq_false, not_false_eq_true, ne_eq, and_false, false_and, or_false, or_true, false_or, true_or, vx_some, eq_self, ↓reduceIte, ite_t1, ite_t2, ite_t3, le_T, le_F, lt_T, lt_F, ge_T, ge_F, gt_T, gt_F, eq_T, eq_F, w32_i, kd_1, kd_2, kd_3, kd_4, kd_5, kd_6, kd_7, kd_14, kd_15, kd_16, kd_29, kd_34, kd_56, kd_74, kd_75, kd_76, kd_77, kd_78, kd_79, kd_80, kd_81, kd_82, kd_83, kd_84, kd_85, kd_86, kd_87, kd_88, kd_89, kd_90, kd_91, kd_92, kd_93, kd_94, kd_95, kd_96, kd_97, kd_98, kd_99, kd_100, kd_101, kd_102, kd_103, kd_104, kd_105, kd_106, kd_107, kd_108]; done))
    | (refine Eq.trans (bnd (r := ?_) ?_) ?_; rotate_left 1; (focus (simp (disch := omega) only [g, b5, b8, y9, y8, r204, r207, Int.reduceLT, Int.reduceLE, Int.reduceEq, Int.reduceNe, Int.reduceNeg, Int.reduceAdd, Int.reduceSub, Int.reduceMul, Int.reduceGE, Int.reduceGT, Nat.reduceEqDiff, Nat.reduceAdd, and_true, true_and, and_self, not_true_eq_false, not_false_eq_true, ne_eq, and_false, false_and, or_false, or_true, false_or, true_or, vx_some, eq_self, ↓reduceIte, ite_t1, ite_t2, ite_t3, le_T, le_F, lt_T, lt_F, ge_T, ge_F, gt_T, gt_F, eq_T, eq_F, w32_i, kd_1, kd_2, kd_3, kd_4, kd_5, kd_6, kd_7, kd_14, kd_15, kd_16, kd_29, kd_34, kd_56, kd_74, kd_75, kd_76, kd_77, kd_78, kd_79, kd_80, kd_81, kd_82, kd_83, kd_84, kd_85, kd_86, kd_87, kd_88, kd_89, kd_90, kd_91, kd_92, kd_93, kd_94, kd_95, kd_96, kd_97, kd_98, kd_99, kd_100, kd_101, kd_102, kd_103, kd_104, kd_105, kd_106, kd_107, kd_108]; exact rfl)); simp only [vx_some])
  all_goals with_reducible rfl
end
