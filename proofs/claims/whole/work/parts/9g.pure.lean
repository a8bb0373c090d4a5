/-! THE PURE PART: the text: a fill's line -/
section
variable {n : Int} {m M : Mm} {D : Int}
theorem fill_both (hD : D = 30 ∨ D = 52) (L : LN m M D) (kw : m 4 9 = 11) : LNR n m M D (vm 81 [(2, 3)] (n, m)) ((vm 201 [(2, 88)] (n, M)).bind (fun r => vp 202 112 [(2, 88)] [] r.2)) := by
  obtain ⟨G, P, hp, fl⟩ := L
  obtain ⟨kD, -, -, -, -, k6⟩ := plan_kd hD
  have D0 : 0 < D := by omega
  have D30 : 30 ≤ D := by omega
  have c3 := G.f3
  have le0 := G.le
  obtain ⟨s0, len0⟩ := G.fill4 kw
  have Pf := P.2.2.2.1.1
  obtain ⟨m1, M1, r1, r2, a1, b1, G1, p1⟩ := step_good (n := n) G
  have hp1 : m1 3 1 = D := by rw [a1.t.p1.2]; exact hp
  have c31 := G1.f3
  have le1 := G1.le
  obtain ⟨P1, e5, e7⟩ := LN.fr hD P a1.t b1.h
  have h20 : M1 88 20 = M 88 20 := b1.h 88 20 (by omega)
  have q1 := p1.1
  have q1' := p1.2.2 s0
  generalize hf : m D 7 = f at *
  obtain ⟨Pf1, Pf2, Pf3⟩ := Pf
  have f74 : f ≤ 74 := by omega
  rcases is_name (n := n) G1 with ⟨s1, k1, e12, w0, r3, r4⟩ | ⟨rr, m2, M2, r3, r4, a2, b2, B2⟩
  · obtain ⟨-, n3, n4⟩ := named (n := n) G1.1.1.1 G1.1.1.2 hD P1.1 w0.1 w0.2
    have g1 := g_isGood (n := n) G1.g0
    have len1 := G1.len (Or.inl s1)
    by_cases x : tnm m1 D (m1 4 7) = -1
    · rw [x] at n3 n4
      obtain ⟨m2, M2, r5, r6, a2, b2, B2⟩ := refuse_both (n := n) G1 (w := 3) (by omega) (by omega)
      have z20 : M2 88 20 = f := by rw [b2 88 20 (by omega), h20]; exact Pf1.symm
      obtain ⟨M', u1, u2, u3, u4⟩ := d_fl43 (n := n) (b2.fx G1.1.1.2) B2.1.1 (by omega) (by omega) (-1) (1, CV (m1 4 7)) (9, 0) (9, 0)
      have mo : vm 201 [(2, 88)] (n, M) = some (none, (n, M')) := by
        rw [e_X12_fillLine]
        repeat first
          | (refine Eq.trans (if_pos ?_) ?_; · first | omega | (simp (disch := omega) only [r2, r4, g1, n4, r6, Int.reduceLT, Int.reduceLE, Int.reduceEq, Int.reduceNe, Int.reduceNeg, Int.reduceAdd, Int.reduceSub, Int.reduceMul, Int.reduceGE, Int.reduceGT, Nat.reduceEqDiff, Nat.reduceAdd, and_true, true_and, and_self, not_true_eq_false, not_false_eq_true, ne_eq, and_false, false_and, or_false, or_true, false_or, true_or, vx_some, eq_self, ↓reduceIte, ite_t1, ite_t2, ite_t3, le_T, le_F, lt_T, lt_F, ge_T, ge_F, gt_T, gt_F, eq_T, eq_F, w32_i, kd_1, kd_2, kd_3, kd_4, kd_5, kd_6, kd_7, kd_14, kd_15, kd_16, kd_29, kd_34, kd_56, kd_74, kd_75, kd_76, kd_77, kd_78, kd_79, kd_80, kd_81, kd_82, kd_83, kd_84, kd_85, kd_86, kd_87, kd_88, kd_89, kd_90, kd_91, kd_92, kd_93, kd_94, kd_95, kd_96, kd_97, kd_98, kd_99, kd_100, kd_101, kd_102, kd_103, kd_104, kd_105, kd_106, kd_107, kd_108]; done))
          | (refine Eq.trans (if_neg ?_) ?_; · first | omega | (simp (disch := omega) only [r2, r4, g1, n4, r6, Int.reduceLT, Int.reduceLE, Int.reduceEq, Int.reduceNe, Int.reduceNeg, Int.reduceAdd, Int.reduceSub, Int.reduceMul, Int.reduceGE, Int.reduceGT, Nat.reduceEqDiff, Nat.reduceAdd, and_true, true_and, and_self, not_true_eq_false, not_false_eq_true, ne_eq, and_false, false_and, or_false, or_true, false_or, true_or, vx_some, eq_self, ↓reduceIte, ite_t1, ite_t2, ite_t3, le_T, le_F, lt_T, lt_F, ge_T, ge_F, gt_T, gt_F, eq_T, eq_F, w32_i, kd_1, kd_2, kd_3, kd_4, kd_5, kd_6, kd_7, kd_14, kd_15, kd_16, kd_29, kd_34, kd_56, kd_74, kd_75, kd_76, kd_77, kd_78, kd_79, kd_80, kd_81, kd_82, kd_83, kd_84, kd_85, kd_86, kd_87, kd_88, kd_89, kd_90, kd_91, kd_92, kd_93, kd_94, kd_95, kd_96, kd_97, kd_98, kd_99, kd_100, kd_101, kd_102, kd_103, kd_104, kd_105, kd_106, kd_107, kd_108]; done))
          | (refine Eq.trans (bnd (r := ?_) ?_) ?_; rotate_left 1; (focus (simp (disch := omega) only [r2, r4, g1, n4, r6, Int.reduceLT, Int.reduceLE, Int.reduceEq, Int.reduceNe, Int.reduceNeg, Int.reduceAdd, Int.reduceSub, Int.reduceMul, Int.reduceGE, Int.reduceGT, Nat.reduceEqDiff, Nat.reduceAdd, and_true, true_and, and_self, not_true_eq_false, not_false_eq_true, ne_eq, and_false, false_and, or_false, or_true, false_or, true_or, vx_some, eq_self, ↓reduceIte, ite_t1, ite_t2, ite_t3, le_T, le_F, lt_T, lt_F, ge_T, ge_F, gt_T, gt_F, eq_T, eq_F, w32_i, kd_1, kd_2, kd_3, kd_4, kd_5, kd_6, kd_7, kd_14, kd_15, kd_16, kd_29, kd_34, kd_56, kd_74, kd_75, kd_76, kd_77, kd_78, kd_79, kd_80, kd_81, kd_82, kd_83, kd_84, kd_85, kd_86, kd_87, kd_88, kd_89, kd_90, kd_91, kd_92, kd_93, kd_94, kd_95, kd_96, kd_97, kd_98, kd_99, kd_100, kd_101, kd_102, kd_103, kd_104, kd_105, kd_106, kd_107, kd_108]; exact rfl)); simp only [vx_some])
        all_goals exact u1
      have b3 : 1 ≤ M' 88 8 := by rw [u3]; exact B2.1.1
      refine Or.inr ⟨m2, M', ?_, (bnd mo).trans (d_112 b3), (a1.t.p D).tr (a2.p D), (b1.h.q.tr b2.q).tr u2, B2.tr u3 u4⟩
      rw [e_X9_tellsFill]
      repeat first
        | (refine Eq.trans (if_pos ?_) ?_; · first | omega | (simp (disch := omega) only [c3, r1, r3, c31, hp1, kD, n3, r5, Int.reduceLT, Int.reduceLE, Int.reduceEq, Int.reduceNe, Int.reduceNeg, Int.reduceAdd, Int.reduceSub, Int.reduceMul, Int.reduceGE, Int.reduceGT, Nat.reduceEqDiff, Nat.reduceAdd, and_true, true_and, and_self, not_true_eq_false, not_false_eq_true, ne_eq, and_false, false_and, or_false, or_true, false_or, true_or, vx_some, eq_self, ↓reduceIte, ite_t1, ite_t2, ite_t3, le_T, le_F, lt_T, lt_F, ge_T, ge_F, gt_T, gt_F, eq_T, eq_F, w32_i, kd_1, kd_2, kd_3, kd_4, kd_5, kd_6, kd_7, kd_14, kd_15, kd_16, kd_29, kd_34, kd_56, kd_74, kd_75, kd_76, kd_77, kd_78, kd_79, kd_80, kd_81, kd_82, kd_83, kd_84, kd_85, kd_86, kd_87, kd_88, kd_89, kd_90, kd_91, kd_92, kd_93, kd_94, kd_95, kd_96, kd_97, kd_98, kd_99, kd_100, kd_101, kd_102, kd_103, kd_104, kd_105, kd_106, kd_107, kd_108]; done))
        | (refine Eq.trans (if_neg ?_) ?_; · first | omega | (simp (disch := omega) only [c3, r1, r3, c31, hp1, kD, n3, r5, Int.reduceLT, Int.reduceLE, Int.reduceEq, Int.reduceNe, Int.reduceNeg, Int.reduceAdd, Int.reduceSub, Int.reduceMul, Int.reduceGE, Int.reduceGT, Nat.reduceEqDiff, Nat.reduceAdd, and_true, true_and, and_self, not_true_eq_false, not_false_eq_true, ne_eq, and_false, false_and, or_false, or_true, false_or, true_or, vx_some, eq_self, ↓reduceIte, ite_t1, ite_t2, ite_t3, le_T, le_F, lt_T, lt_F, ge_T, ge_F, gt_T, gt_F, eq_T, eq_F, w32_i, kd_1, kd_2, kd_3, kd_4, kd_5, kd_6, kd_7, kd_14, kd_15, kd_16, kd_29, kd_34, kd_56, kd_74, kd_75, kd_76, kd_77, kd_78, kd_79, kd_80, kd_81, kd_82, kd_83, kd_84, kd_85, kd_86, kd_87, kd_88, kd_89, kd_90, kd_91, kd_92, kd_93, kd_94, kd_95, kd_96, kd_97, kd_98, kd_99, kd_100, kd_101, kd_102, kd_103, kd_104, kd_105, kd_106, kd_107, kd_108]; done))
        | (refine Eq.trans (bnd (r := ?_) ?_) ?_; rotate_left 1; (focus (simp (disch := omega) only [c3, r1, r3, c31, hp1, kD, n3, r5, Int.reduceLT, Int.reduceLE, Int.reduceEq, Int.reduceNe, Int.reduceNeg, Int.reduceAdd, Int.reduceSub, Int.reduceMul, Int.reduceGE, Int.reduceGT, Nat.reduceEqDiff, Nat.reduceAdd, and_true, true_and, and_self, not_true_eq_false, not_false_eq_true, ne_eq, and_false, false_and, or_false, or_true, false_or, true_or, vx_some, eq_self, ↓reduceIte, ite_t1, ite_t2, ite_t3, le_T, le_F, lt_T, lt_F, ge_T, ge_F, gt_T, gt_F, eq_T, eq_F, w32_i, kd_1, kd_2, kd_3, kd_4, kd_5, kd_6, kd_7, kd_14, kd_15, kd_16, kd_29, kd_34, kd_56, kd_74, kd_75, kd_76, kd_77, kd_78, kd_79, kd_80, kd_81, kd_82, kd_83, kd_84, kd_85, kd_86, kd_87, kd_88, kd_89, kd_90, kd_91, kd_92, kd_93, kd_94, kd_95, kd_96, kd_97, kd_98, kd_99, kd_100, kd_101, kd_102, kd_103, kd_104, kd_105, kd_106, kd_107, kd_108]; exact rfl)); simp only [vx_some])
      all_goals with_reducible rfl
    · have tr := tnm_rng m1 D (m1 4 7) P1.1.2.1.1.1
      have e6 : m1 D 6 = m D 6 := a1.t.d D30
      have t0 : 0 ≤ tnm m1 D (m1 4 7) ∧ tnm m1 D (m1 4 7) < m D 6 := by
        rcases tr with tr | tr
        · exact absurd tr x
        · rw [← e6]
          exact tr
      obtain ⟨m2, M2, r5, r6, _, a2, b2, G2, p2⟩ := take_name (n := n) G1
      generalize tnm m1 D (m1 4 7) = t at *
      have hp2 : m2 3 1 = D := by rw [a2.p1.2]; exact hp1
      obtain ⟨P2, e5b, e7b⟩ := LN.fr hD P1 a2 b2
      have h7 : m2 D 7 = f := by rw [e7b, e7]
      have z20 : M2 88 20 = f := by rw [b2 88 20 (by omega), h20]; exact Pf1.symm
      have p4 := (G2.1.1.1.plan hD).2.2.2.2
      have c19 := G2.1.1.2.c88_19
      have g2 := g_isGood (n := n) G1.g0
      have le2 := G2.le
      have q2 := p2.1
      have cp : ∀ q : Int, CP D (D + 5) q := fun q => Or.inr (Or.inr (Or.inr (Or.inr (Or.inl rfl))))
      have mp : ∀ q : Int, MP 96 q := fun q => by unfold MP; omega
      have pm : ∀ h : Hq, vm 314 [(0, f), (0, 74)] h = some (some (0, f), h) := fun h => by rw [p_min, Int.min_eq_left (by omega)]
      have G3 : GD (stm m2 (D + 5) (4 * f) t) (stm M2 96 (4 * f) t) := (G2.w hD (cp _) (by omega)).w2 (mp _) (Or.inl (by omega))
      have hp3 : (stm m2 (D + 5) (4 * f) t) 3 1 = D := by rw [stm_o (by omega)]; exact hp2
      have y20 : (stm M2 96 (4 * f) t) 88 20 = f := by rw [stm_o (by omega)]; exact z20
      -- the class up to the first number
      have C0 : vm 81 [(2, 3)] (n, m) = vp 81 74 [(2, 3), (0, t), (0, 4 * f), (0, 1)] [] (n, stm m2 (D + 5) (4 * f) t) := by
        clear r2 r4 r6 n4 g1 g2 G G1 G2 G3 P P1 P2
        rw [e_X9_tellsFill]
        repeat first
          | (refine Eq.trans (if_pos ?_) ?_; · first | omega | (simp (disch := omega) only [c3, r1, r3, c31, hp1, kD, n3, r5, hp2, h7, pm, p4, k6, Int.reduceLT, Int.reduceLE, Int.reduceEq, Int.reduceNe, Int.reduceNeg, Int.reduceAdd, Int.reduceSub, Int.reduceMul, Int.reduceGE, Int.reduceGT, Nat.reduceEqDiff, Nat.reduceAdd, and_true, true_and, and_self, not_true_eq_false, not_false_eq_true, ne_eq, and_false, false_and, or_false, or_true, false_or, true_or, vx_some, eq_self, ↓reduceIte, ite_t1, ite_t2, ite_t3, le_T, le_F, lt_T, lt_F, ge_T, ge_F, gt_T, gt_F, eq_T, eq_F, w32_i, kd_1, kd_2, kd_3, kd_4, kd_5, kd_6, kd_7, kd_14, kd_15, kd_16, kd_29, kd_34, kd_56, kd_74, kd_75, kd_76, kd_77, kd_78, kd_79, kd_80, kd_81, kd_82, kd_83, kd_84, kd_85, kd_86, kd_87, kd_88, kd_89, kd_90, kd_91, kd_92, kd_93, kd_94, kd_95, kd_96, kd_97, kd_98, kd_99, kd_100, kd_101, kd_102, kd_103, kd_104, kd_105, kd_106, kd_107, kd_108]; done))
          | (refine Eq.trans (if_neg ?_) ?_; · first | omega | (simp (disch := omega) only [c3, r1, r3, c31, hp1, kD, n3, r5, hp2, h7, pm, p4, k6, Int.reduceLT, Int.reduceLE, Int.reduceEq, Int.reduceNe, Int.reduceNeg, Int.reduceAdd, Int.reduceSub, Int.reduceMul, Int.reduceGE, Int.reduceGT, Nat.reduceEqDiff, Nat.reduceAdd, and_true, true_and, and_self, not_true_eq_false, not_false_eq_true, ne_eq, and_false, false_and, or_false, or_true, false_or, true_or, vx_some, eq_self, ↓reduceIte, ite_t1, ite_t2, ite_t3, le_T, le_F, lt_T, lt_F, ge_T, ge_F, gt_T, gt_F, eq_T, eq_F, w32_i, kd_1, kd_2, kd_3, kd_4, kd_5, kd_6, kd_7, kd_14, kd_15, kd_16, kd_29, kd_34, kd_56, kd_74, kd_75, kd_76, kd_77, kd_78, kd_79, kd_80, kd_81, kd_82, kd_83, kd_84, kd_85, kd_86, kd_87, kd_88, kd_89, kd_90, kd_91, kd_92, kd_93, kd_94, kd_95, kd_96, kd_97, kd_98, kd_99, kd_100, kd_101, kd_102, kd_103, kd_104, kd_105, kd_106, kd_107, kd_108]; done))
          | (refine Eq.trans (bnd (r := ?_) ?_) ?_; rotate_left 1; (focus (simp (disch := omega) only [c3, r1, r3, c31, hp1, kD, n3, r5, hp2, h7, pm, p4, k6, Int.reduceLT, Int.reduceLE, Int.reduceEq, Int.reduceNe, Int.reduceNeg, Int.reduceAdd, Int.reduceSub, Int.reduceMul, Int.reduceGE, Int.reduceGT, Nat.reduceEqDiff, Nat.reduceAdd, and_true, true_and, and_self, not_true_eq_false, not_false_eq_true, ne_eq, and_false, false_and, or_false, or_true, false_or, true_or, vx_some, eq_self, ↓reduceIte, ite_t1, ite_t2, ite_t3, le_T, le_F, lt_T, lt_F, ge_T, ge_F, gt_T, gt_F, eq_T, eq_F, w32_i, kd_1, kd_2, kd_3, kd_4, kd_5, kd_6, kd_7, kd_14, kd_15, kd_16, kd_29, kd_34, kd_56, kd_74, kd_75, kd_76, kd_77, kd_78, kd_79, kd_80, kd_81, kd_82, kd_83, kd_84, kd_85, kd_86, kd_87, kd_88, kd_89, kd_90, kd_91, kd_92, kd_93, kd_94, kd_95, kd_96, kd_97, kd_98, kd_99, kd_100, kd_101, kd_102, kd_103, kd_104, kd_105, kd_106, kd_107, kd_108]; exact rfl)); simp only [vx_some])
        all_goals simp (disch := omega) only [hp2, p4, w32_i]
      have Q0 : vm 201 [(2, 88)] (n, M) = vp 201 69 [(2, 88), (9, 0), (9, 0), (0, t), (0, 1)] [] (n, stm M2 96 (4 * f) t) := by
        clear r1 r3 r5 n3 C0 G G1 G2 G3 P P1 P2
        rw [e_X12_fillLine]
        repeat first
          | (refine Eq.trans (if_pos ?_) ?_; · first | omega | (simp (disch := omega) only [r2, r4, g1, n4, Int.reduceLT, Int.reduceLE, Int.reduceEq, Int.reduceNe, Int.reduceNeg, Int.reduceAdd, Int.reduceSub, Int.reduceMul, Int.reduceGE, Int.reduceGT, Nat.reduceEqDiff, Nat.reduceAdd, and_true, true_and, and_self, not_true_eq_false, not_false_eq_true, ne_eq, and_false, false_and, or_false, or_true, false_or, true_or, vx_some, eq_self, ↓reduceIte, ite_t1, ite_t2, ite_t3, le_T, le_F, lt_T, lt_F, ge_T, ge_F, gt_T, gt_F, eq_T, eq_F, w32_i, kd_1, kd_2, kd_3, kd_4, kd_5, kd_6, kd_7, kd_14, kd_15, kd_16, kd_29, kd_34, kd_56, kd_74, kd_75, kd_76, kd_77, kd_78, kd_79, kd_80, kd_81, kd_82, kd_83, kd_84, kd_85, kd_86, kd_87, kd_88, kd_89, kd_90, kd_91, kd_92, kd_93, kd_94, kd_95, kd_96, kd_97, kd_98, kd_99, kd_100, kd_101, kd_102, kd_103, kd_104, kd_105, kd_106, kd_107, kd_108]; done))
          | (refine Eq.trans (if_neg ?_) ?_; · first | omega | (simp (disch := omega) only [r2, r4, g1, n4, Int.reduceLT, Int.reduceLE, Int.reduceEq, Int.reduceNe, Int.reduceNeg, Int.reduceAdd, Int.reduceSub, Int.reduceMul, Int.reduceGE, Int.reduceGT, Nat.reduceEqDiff, Nat.reduceAdd, and_true, true_and, and_self, not_true_eq_false, not_false_eq_true, ne_eq, and_false, false_and, or_false, or_true, false_or, true_or, vx_some, eq_self, ↓reduceIte, ite_t1, ite_t2, ite_t3, le_T, le_F, lt_T, lt_F, ge_T, ge_F, gt_T, gt_F, eq_T, eq_F, w32_i, kd_1, kd_2, kd_3, kd_4, kd_5, kd_6, kd_7, kd_14, kd_15, kd_16, kd_29, kd_34, kd_56, kd_74, kd_75, kd_76, kd_77, kd_78, kd_79, kd_80, kd_81, kd_82, kd_83, kd_84, kd_85, kd_86, kd_87, kd_88, kd_89, kd_90, kd_91, kd_92, kd_93, kd_94, kd_95, kd_96, kd_97, kd_98, kd_99, kd_100, kd_101, kd_102, kd_103, kd_104, kd_105, kd_106, kd_107, kd_108]; done))
          | (refine Eq.trans (bnd (r := ?_) ?_) ?_; rotate_left 1; (focus (simp (disch := omega) only [r2, r4, g1, n4, Int.reduceLT, Int.reduceLE, Int.reduceEq, Int.reduceNe, Int.reduceNeg, Int.reduceAdd, Int.reduceSub, Int.reduceMul, Int.reduceGE, Int.reduceGT, Nat.reduceEqDiff, Nat.reduceAdd, and_true, true_and, and_self, not_true_eq_false, not_false_eq_true, ne_eq, and_false, false_and, or_false, or_true, false_or, true_or, vx_some, eq_self, ↓reduceIte, ite_t1, ite_t2, ite_t3, le_T, le_F, lt_T, lt_F, ge_T, ge_F, gt_T, gt_F, eq_T, eq_F, w32_i, kd_1, kd_2, kd_3, kd_4, kd_5, kd_6, kd_7, kd_14, kd_15, kd_16, kd_29, kd_34, kd_56, kd_74, kd_75, kd_76, kd_77, kd_78, kd_79, kd_80, kd_81, kd_82, kd_83, kd_84, kd_85, kd_86, kd_87, kd_88, kd_89, kd_90, kd_91, kd_92, kd_93, kd_94, kd_95, kd_96, kd_97, kd_98, kd_99, kd_100, kd_101, kd_102, kd_103, kd_104, kd_105, kd_106, kd_107, kd_108]; exact rfl)); simp only [vx_some])
        rw [e_X12_fillLine_43]
        repeat first
          | (refine Eq.trans (if_pos ?_) ?_; · first | omega | (simp (disch := omega) only [g1, r6, c19, z20, Int.reduceLT, Int.reduceLE, Int.reduceEq, Int.reduceNe, Int.reduceNeg, Int.reduceAdd, Int.reduceSub, Int.reduceMul, Int.reduceGE, Int.reduceGT, Nat.reduceEqDiff, Nat.reduceAdd, and_true, true_and, and_self, not_true_eq_false, not_false_eq_true, ne_eq, and_false, false_and, or_false, or_true, false_or, true_or, vx_some, eq_self, ↓reduceIte, ite_t1, ite_t2, ite_t3, le_T, le_F, lt_T, lt_F, ge_T, ge_F, gt_T, gt_F, eq_T, eq_F, w32_i, kd_1, kd_2, kd_3, kd_4, kd_5, kd_6, kd_7, kd_14, kd_15, kd_16, kd_29, kd_34, kd_56, kd_74, kd_75, kd_76, kd_77, kd_78, kd_79, kd_80, kd_81, kd_82, kd_83, kd_84, kd_85, kd_86, kd_87, kd_88, kd_89, kd_90, kd_91, kd_92, kd_93, kd_94, kd_95, kd_96, kd_97, kd_98, kd_99, kd_100, kd_101, kd_102, kd_103, kd_104, kd_105, kd_106, kd_107, kd_108]; done))
          | (refine Eq.trans (if_neg ?_) ?_; · first | omega | (simp (disch := omega) only [g1, r6, c19, z20, Int.reduceLT, Int.reduceLE, Int.reduceEq, Int.reduceNe, Int.reduceNeg, Int.reduceAdd, Int.reduceSub, Int.reduceMul, Int.reduceGE, Int.reduceGT, Nat.reduceEqDiff, Nat.reduceAdd, and_true, true_and, and_self, not_true_eq_false, not_false_eq_true, ne_eq, and_false, false_and, or_false, or_true, false_or, true_or, vx_some, eq_self, ↓reduceIte, ite_t1, ite_t2, ite_t3, le_T, le_F, lt_T, lt_F, ge_T, ge_F, gt_T, gt_F, eq_T, eq_F, w32_i, kd_1, kd_2, kd_3, kd_4, kd_5, kd_6, kd_7, kd_14, kd_15, kd_16, kd_29, kd_34, kd_56, kd_74, kd_75, kd_76, kd_77, kd_78, kd_79, kd_80, kd_81, kd_82, kd_83, kd_84, kd_85, kd_86, kd_87, kd_88, kd_89, kd_90, kd_91, kd_92, kd_93, kd_94, kd_95, kd_96, kd_97, kd_98, kd_99, kd_100, kd_101, kd_102, kd_103, kd_104, kd_105, kd_106, kd_107, kd_108]; done))
          | (refine Eq.trans (bnd (r := ?_) ?_) ?_; rotate_left 1; (focus (simp (disch := omega) only [g1, r6, c19, z20, Int.reduceLT, Int.reduceLE, Int.reduceEq, Int.reduceNe, Int.reduceNeg, Int.reduceAdd, Int.reduceSub, Int.reduceMul, Int.reduceGE, Int.reduceGT, Nat.reduceEqDiff, Nat.reduceAdd, and_true, true_and, and_self, not_true_eq_false, not_false_eq_true, ne_eq, and_false, false_and, or_false, or_true, false_or, true_or, vx_some, eq_self, ↓reduceIte, ite_t1, ite_t2, ite_t3, le_T, le_F, lt_T, lt_F, ge_T, ge_F, gt_T, gt_F, eq_T, eq_F, w32_i, kd_1, kd_2, kd_3, kd_4, kd_5, kd_6, kd_7, kd_14, kd_15, kd_16, kd_29, kd_34, kd_56, kd_74, kd_75, kd_76, kd_77, kd_78, kd_79, kd_80, kd_81, kd_82, kd_83, kd_84, kd_85, kd_86, kd_87, kd_88, kd_89, kd_90, kd_91, kd_92, kd_93, kd_94, kd_95, kd_96, kd_97, kd_98, kd_99, kd_100, kd_101, kd_102, kd_103, kd_104, kd_105, kd_106, kd_107, kd_108]; exact rfl)); simp only [vx_some])
        all_goals simp (disch := omega) only [c19, z20, w32_i]
      have fp2 : FRp D m (stm m2 (D + 5) (4 * f) t) := ((a1.t.p D).tr (a2.p D)).tr (FRp.st _ (cp _))
      have fq2 : FRq M (stm M2 96 (4 * f) t) := (b1.h.q.tr b2.q).tr (FRq.st _ (mp _))
      clear r1 r2 r3 r4 r5 r6 n3 n4 g1 g2 pm
      -- the first number
      rcases pass_num (n := n) G3 0 9999 with ⟨v1, m4, M4, s3, v10, r7, r8, hv1, a4, b4, G4, p4'⟩ | ⟨rr, m4, M4, r7, r8, a4, b4, B4⟩
      · have hp4 : m4 3 1 = D := by rw [a4.p1.2]; exact hp3
        have y4 : M4 88 20 = f := by rw [b4 88 20 (by omega)]; exact y20
        have C1 := c_fl (n := n) hD G4.1.1.1 hp4 Pf2 f74 (j := 1) (by omega) (by omega) (0, t) hv1 r7
        have Q1 := p_fl (n := n) G3.1.1.2 y20 Pf2 f74 (j := 1) (by omega) (by omega) (9, 0) (9, 0) (0, t) r8
        have G5 : GD (stm m4 (D + 5) (4 * f + 1) v1) (stm M4 96 (4 * f + 1) v1) := (G4.w hD (cp _) (by omega)).w2 (mp _) (Or.inl (by omega))
        have hp5 : (stm m4 (D + 5) (4 * f + 1) v1) 3 1 = D := by rw [stm_o (by omega)]; exact hp4
        have y5 : (stm M4 96 (4 * f + 1) v1) 88 20 = f := by rw [stm_o (by omega)]; exact y4
        have fp4 := (fp2.tr (a4.p D)).tr (FRp.st m4 (v := v1) (cp (4 * f + 1)))
        have fq4 := (fq2.tr b4.q).tr (FRq.st M4 (v := v1) (mp (4 * f + 1)))
        rcases pass_num (n := n) G5 0 9999 with ⟨v2, m6, M6, s5, v20, r9, r10, hv2, a6, b6, G6, p6⟩ | ⟨rr, m6, M6, r9, r10, a6, b6, B6⟩
        · have hp6 : m6 3 1 = D := by rw [a6.p1.2]; exact hp5
          have y6 : M6 88 20 = f := by rw [b6 88 20 (by omega)]; exact y5
          have C2 := c_fl (n := n) hD G6.1.1.1 hp6 Pf2 f74 (j := 1 + 1) (by omega) (by omega) (9, 0) hv2 r9
          have Q2 := p_fl (n := n) G5.1.1.2 y5 Pf2 f74 (j := 1 + 1) (by omega) (by omega) (9, 0) (9, 0) (9, 0) r10
          have G7 : GD (stm m6 (D + 5) (4 * f + (1 + 1)) v2) (stm M6 96 (4 * f + (1 + 1)) v2) := (G6.w hD (cp _) (by omega)).w2 (mp _) (Or.inl (by omega))
          have hp7 : (stm m6 (D + 5) (4 * f + (1 + 1)) v2) 3 1 = D := by rw [stm_o (by omega)]; exact hp6
          have y7 : (stm M6 96 (4 * f + (1 + 1)) v2) 88 20 = f := by rw [stm_o (by omega)]; exact y6
          have fp6 := (fp4.tr (a6.p D)).tr (FRp.st m6 (v := v2) (cp (4 * f + (1 + 1))))
          have fq6 := (fq4.tr b6.q).tr (FRq.st M6 (v := v2) (mp (4 * f + (1 + 1))))
          rcases pass_num (n := n) G7 0 9999 with ⟨v3, m8, M8, s7, v30, r11, r12, hv3, a8, b8, G8, p8⟩ | ⟨rr, m8, M8, r11, r12, a8, b8, B8⟩
          · have hp8 : m8 3 1 = D := by rw [a8.p1.2]; exact hp7
            have y8 : M8 88 20 = f := by rw [b8 88 20 (by omega)]; exact y7
            have C3 := c_fl (n := n) hD G8.1.1.1 hp8 Pf2 f74 (j := 1 + 1 + 1) (by omega) (by omega) (9, 0) hv3 r11
            have Q3 := p_fl (n := n) G7.1.1.2 y7 Pf2 f74 (j := 1 + 1 + 1) (by omega) (by omega) (9, 0) (9, 0) (9, 0) r12
            have fp8 := (fp6.tr (a8.p D)).tr (FRp.st m8 (v := v3) (cp (4 * f + (1 + 1 + 1))))
            have fq8 := (fq6.tr b8.q).tr (FRq.st M8 (v := v3) (mp (4 * f + (1 + 1 + 1))))
            have z7 : (stm m8 (D + 5) (4 * f + (1 + 1 + 1)) v3) D 7 = f := by rw [stm_o (by omega), a8.d D30, stm_o (by omega), a6.d D30, stm_o (by omega), a4.d D30, stm_o (by omega)]; exact h7
            have z20' : (stm M8 96 (4 * f + (1 + 1 + 1)) v3) 88 20 = f := by rw [stm_o (by omega)]; exact y8
            have cp7 : CP D D 7 := Or.inr (Or.inr (Or.inl ⟨rfl, by omega⟩))
            have mp20 : MP 88 20 := by unfold MP; omega
            have G9 : GD (stm (stm m8 (D + 5) (4 * f + (1 + 1 + 1)) v3) D 7 (f + 1)) (stm (stm M8 96 (4 * f + (1 + 1 + 1)) v3) 88 20 (f + 1)) := ((((G8.w hD (cp _) (by omega)).w2 (mp _) (Or.inl (by omega))).w hD cp7 (by omega)).w2 mp20 (Or.inr (by omega)))
            have QE := p_flE (n := n) z20' Pf2 f74 (9, 0) (9, 0) (9, 0)
            have mo : vm 201 [(2, 88)] (n, M) = some (none, (n, stm (stm M8 96 (4 * f + (1 + 1 + 1)) v3) 88 20 (f + 1))) := by
              refine Q0.trans (Q1.trans (Q2.trans (Q3.trans ?_)))
              exact QE
            rcases sign_both (n := n) G9 with ⟨m10, M10, r13, r14, a10, b10, G10, p10⟩ | ⟨m10, M10, r13, r14, a10, b10, B10⟩
            · have CE := c_flE (n := n) hD (by rw [stm_o (by omega)]; exact hp8) z7 Pf2 f74 (4 * f) (9, 0) (Or.inr rfl) r13
              have fe : ∀ o q : Int, 30 ≤ o → ¬ (o = D ∧ q = 7) → ¬ (o = D + 5 ∧ 4 * f ≤ q) → m10 o q = m o q := fun o q h h2 h3 => by rw [a10.d h, stm_ap, if_neg (by omega), stm_ap, if_neg (by omega), a8.d h, stm_ap, if_neg (by omega), a6.d h, stm_ap, if_neg (by omega), a4.d h, stm_ap, if_neg (by omega), a2.d h, a1.t.d h]
              have ff : ∀ o q : Int, ¬ (o = 88 ∧ ((3 ≤ q ∧ q ≤ 9) ∨ q = 12 ∨ q = 20)) → ¬ (o = 96 ∧ 4 * f ≤ q) → M10 o q = M o q := fun o q h h2 => by rw [b10 o q (by omega), stm_ap, if_neg (by omega), stm_ap, if_neg (by omega), b8 o q (by omega), stm_ap, if_neg (by omega), b6 o q (by omega), stm_ap, if_neg (by omega), b4 o q (by omega), stm_ap, if_neg (by omega), b2 o q (by omega), b1.h o q (by omega)]
              have e0 : m10 (D + 5) (4 * f) = t := by rw [a10.d (by omega), stm_o (by omega), stm_k (by omega), a8.d (by omega), stm_k (by omega), a6.d (by omega), stm_k (by omega), a4.d (by omega), stm_same]
              have e1 : m10 (D + 5) (4 * f + 1) = v1 := by rw [a10.d (by omega), stm_o (by omega), stm_k (by omega), a8.d (by omega), stm_k (by omega), a6.d (by omega), stm_same]
              have e2 : m10 (D + 5) (4 * f + 2) = v2 := by rw [a10.d (by omega), stm_o (by omega), stm_k (by omega), a8.d (by omega)]; exact stm_same _ _ _ _
              have e3 : m10 (D + 5) (4 * f + 3) = v3 := by rw [a10.d (by omega), stm_o (by omega)]; exact stm_same _ _ _ _
              have g0 : M10 96 (4 * f) = t := by rw [b10.d (by omega), stm_o (by omega), stm_k (by omega), b8.d (by omega), stm_k (by omega), b6.d (by omega), stm_k (by omega), b4.d (by omega), stm_same]
              have g1 : M10 96 (4 * f + 1) = v1 := by rw [b10.d (by omega), stm_o (by omega), stm_k (by omega), b8.d (by omega), stm_k (by omega), b6.d (by omega), stm_same]
              have g2 : M10 96 (4 * f + 2) = v2 := by rw [b10.d (by omega), stm_o (by omega), stm_k (by omega), b8.d (by omega)]; exact stm_same _ _ _ _
              have g3 : M10 96 (4 * f + 3) = v3 := by rw [b10.d (by omega), stm_o (by omega)]; exact stm_same _ _ _ _
              have e7' : m10 D 7 = f + 1 := by rw [a10.d D30, stm_same]
              have g7' : M10 88 20 = f + 1 := by rw [b10 88 20 (by omega), stm_same]
              have P10 : PL m10 M10 D := P.fill hD hf f74 fe ff e7' g7' (by rw [e0, e1, e2, e3, g0, g1, g2, g3]; exact ⟨⟨⟨rfl, rfl⟩, rfl, rfl⟩, t0, v10, v20, v30⟩)
              have pr : M 88 4 + 12 ≤ M10 88 4 := by
                have l4 := G4.le
                have l6 := G6.le
                have ln3 := G3.len (Or.inr (Or.inl s3))
                have ln5 := G5.len (Or.inr (Or.inl s5))
                have ln7 := G7.len (Or.inr (Or.inl s7))
                have x1 := q1' s1
                have x4 := p4'.1
                have x4' := p4'.2.1 s3
                have x6 := p6.1
                have x6' := p6.2.1 s5
                have x8 := p8.1
                rw [stm_o (by omega), stm_o (by omega)] at ln3 ln5 ln7
                rw [stm_o (by omega)] at x4 x4' x6 x6' x8 s5 s7
                rw [stm_k (by omega), stm_o (by omega)] at p10
                have y4 := x4' s5
                have y6 := x6' s7
                omega
              refine Or.inl ⟨m10, M10, ?_, (bnd mo).trans r14, (fp8.tr (FRp.st _ cp7)).tr (a10.p D), (fq8.tr (FRq.st _ mp20)).tr b10.q, ⟨G10, P10, ?_, ?_⟩, by omega⟩
              · refine C0.trans (C1.trans (C2.trans (C3.trans ?_)))
                exact CE
              · rw [a10.p1.2, stm_o (by omega), stm_o (by omega)]
                exact hp8
              · rw [e7']
                omega
            · have CE := c_flE (n := n) hD (by rw [stm_o (by omega)]; exact hp8) z7 Pf2 f74 (4 * f) (9, 0) (Or.inl rfl) r13
              refine Or.inr ⟨m10, M10, ?_, (bnd mo).trans r14, (fp8.tr (FRp.st _ cp7)).tr (a10.p D), (fq8.tr (FRq.st _ mp20)).tr b10.q, B10⟩
              refine C0.trans (C1.trans (C2.trans (C3.trans ?_)))
              exact CE
          · have C3 := c_flN (n := n) (j := 1 + 1 + 1) (4 * f) (by omega) (9, 0) r11
            have Q3 := p_fl (n := n) G7.1.1.2 y7 Pf2 f74 (j := 1 + 1 + 1) (by omega) (by omega) (9, 0) (9, 0) (9, 0) r12
            have fx := (FRq.st M8 (v := rr) (mp (4 * f + (1 + 1 + 1)))).fx (b8.fx G7.1.1.2)
            have w20 : (stm M8 96 (4 * f + (1 + 1 + 1)) rr) 88 20 = f := by rw [stm_o (by omega), b8 88 20 (by omega)]; exact y7
            obtain ⟨M', u1, u2, u3, u4⟩ := d_fl69 (n := n) 0 (1 + 1 + 1 + 1) (stm M8 96 (4 * f + (1 + 1 + 1)) rr) (9, 0) (9, 0) (9, 0) (by omega) (by omega) fx (by rw [stm_o (by omega)]; exact B8.1.1) (by omega) (by omega)
            rw [stm_o (by omega)] at u3 u4
            have mo := Q0.trans (Q1.trans (Q2.trans (Q3.trans u1)))
            refine Or.inr ⟨m8, M', C0.trans (C1.trans (C2.trans C3)), (bnd mo).trans (d_112 (by rw [u3]; exact B8.1.1)), fp6.tr (a8.p D), ((fq6.tr b8.q).tr (FRq.st _ (mp _))).tr u2, B8.tr u3 u4⟩
        · have C2 := c_flN (n := n) (j := 1 + 1) (4 * f) (by omega) (9, 0) r9
          have Q2 := p_fl (n := n) G5.1.1.2 y5 Pf2 f74 (j := 1 + 1) (by omega) (by omega) (9, 0) (9, 0) (9, 0) r10
          have fx := (FRq.st M6 (v := rr) (mp (4 * f + (1 + 1)))).fx (b6.fx G5.1.1.2)
          have w20 : (stm M6 96 (4 * f + (1 + 1)) rr) 88 20 = f := by rw [stm_o (by omega), b6 88 20 (by omega)]; exact y5
          obtain ⟨M', u1, u2, u3, u4⟩ := d_fl69 (n := n) 1 (1 + 1 + 1) (stm M6 96 (4 * f + (1 + 1)) rr) (9, 0) (9, 0) (9, 0) (by omega) (by omega) fx (by rw [stm_o (by omega)]; exact B6.1.1) (by omega) (by omega)
          rw [stm_o (by omega)] at u3 u4
          have mo := Q0.trans (Q1.trans (Q2.trans u1))
          refine Or.inr ⟨m6, M', C0.trans (C1.trans C2), (bnd mo).trans (d_112 (by rw [u3]; exact B6.1.1)), fp4.tr (a6.p D), ((fq4.tr b6.q).tr (FRq.st _ (mp _))).tr u2, B6.tr u3 u4⟩
      · have C1 := c_flN (n := n) (j := 1) (4 * f) (by omega) (0, t) r7
        have Q1 := p_fl (n := n) G3.1.1.2 y20 Pf2 f74 (j := 1) (by omega) (by omega) (9, 0) (9, 0) (0, t) r8
        have fx := (FRq.st M4 (v := rr) (mp (4 * f + 1))).fx (b4.fx G3.1.1.2)
        have w20 : (stm M4 96 (4 * f + 1) rr) 88 20 = f := by rw [stm_o (by omega), b4 88 20 (by omega)]; exact y20
        obtain ⟨M', u1, u2, u3, u4⟩ := d_fl69 (n := n) 2 (1 + 1) (stm M4 96 (4 * f + 1) rr) (9, 0) (9, 0) (9, 0) (by omega) (by omega) fx (by rw [stm_o (by omega)]; exact B4.1.1) (by omega) (by omega)
        rw [stm_o (by omega)] at u3 u4
        have mo := Q0.trans (Q1.trans u1)
        refine Or.inr ⟨m4, M', C0.trans C1, (bnd mo).trans (d_112 (by rw [u3]; exact B4.1.1)), fp2.tr (a4.p D), ((fq2.tr b4.q).tr (FRq.st _ (mp _))).tr u2, B4.tr u3 u4⟩
  · have z20 : M2 88 20 = f := by rw [b2 88 20 (by omega), h20]; exact Pf1.symm
    obtain ⟨M', u1, u2, u3, u4⟩ := d_fl43 (n := n) (b2.fx G1.1.1.2) B2.1.1 (by omega) (by omega) (-1) (1, rr) (9, 0) (9, 0)
    have mo : vm 201 [(2, 88)] (n, M) = some (none, (n, M')) := by
      rw [e_X12_fillLine]
      repeat first
        | (refine Eq.trans (if_pos ?_) ?_; · first | omega | (simp (disch := omega) only [r2, r4, d_isGood B2.1.1, Int.reduceLT, Int.reduceLE, Int.reduceEq, Int.reduceNe, Int.reduceNeg, Int.reduceAdd, Int.reduceSub, Int.reduceMul, Int.reduceGE, Int.reduceGT, Nat.reduceEqDiff, Nat.reduceAdd, and_true, true_and, and_self, not_true_eq_false, not_false_eq_true, ne_eq, and_false, false_and, or_false, or_true, false_or, true_or, vx_some, eq_self, ↓reduceIte, ite_t1, ite_t2, ite_t3, le_T, le_F, lt_T, lt_F, ge_T, ge_F, gt_T, gt_F, eq_T, eq_F, w32_i, kd_1, kd_2, kd_3, kd_4, kd_5, kd_6, kd_7, kd_14, kd_15, kd_16, kd_29, kd_34, kd_56, kd_74, kd_75, kd_76, kd_77, kd_78, kd_79, kd_80, kd_81, kd_82, kd_83, kd_84, kd_85, kd_86, kd_87, kd_88, kd_89, kd_90, kd_91, kd_92, kd_93, kd_94, kd_95, kd_96, kd_97, kd_98, kd_99, kd_100, kd_101, kd_102, kd_103, kd_104, kd_105, kd_106, kd_107, kd_108]; done))
        | (refine Eq.trans (if_neg ?_) ?_; · first | omega | (simp (disch := omega) only [r2, r4, d_isGood B2.1.1, Int.reduceLT, Int.reduceLE, Int.reduceEq, Int.reduceNe, Int.reduceNeg, Int.reduceAdd, Int.reduceSub, Int.reduceMul, Int.reduceGE, Int.reduceGT, Nat.reduceEqDiff, Nat.reduceAdd, and_true, true_and, and_self, not_true_eq_false, not_false_eq_true, ne_eq, and_false, false_and, or_false, or_true, false_or, true_or, vx_some, eq_self, ↓reduceIte, ite_t1, ite_t2, ite_t3, le_T, le_F, lt_T, lt_F, ge_T, ge_F, gt_T, gt_F, eq_T, eq_F, w32_i, kd_1, kd_2, kd_3, kd_4, kd_5, kd_6, kd_7, kd_14, kd_15, kd_16, kd_29, kd_34, kd_56, kd_74, kd_75, kd_76, kd_77, kd_78, kd_79, kd_80, kd_81, kd_82, kd_83, kd_84, kd_85, kd_86, kd_87, kd_88, kd_89, kd_90, kd_91, kd_92, kd_93, kd_94, kd_95, kd_96, kd_97, kd_98, kd_99, kd_100, kd_101, kd_102, kd_103, kd_104, kd_105, kd_106, kd_107, kd_108]; done))
        | (refine Eq.trans (bnd (r := ?_) ?_) ?_; rotate_left 1; (focus (simp (disch := omega) only [r2, r4, d_isGood B2.1.1, Int.reduceLT, Int.reduceLE, Int.reduceEq, Int.reduceNe, Int.reduceNeg, Int.reduceAdd, Int.reduceSub, Int.reduceMul, Int.reduceGE, Int.reduceGT, Nat.reduceEqDiff, Nat.reduceAdd, and_true, true_and, and_self, not_true_eq_false, not_false_eq_true, ne_eq, and_false, false_and, or_false, or_true, false_or, true_or, vx_some, eq_self, ↓reduceIte, ite_t1, ite_t2, ite_t3, le_T, le_F, lt_T, lt_F, ge_T, ge_F, gt_T, gt_F, eq_T, eq_F, w32_i, kd_1, kd_2, kd_3, kd_4, kd_5, kd_6, kd_7, kd_14, kd_15, kd_16, kd_29, kd_34, kd_56, kd_74, kd_75, kd_76, kd_77, kd_78, kd_79, kd_80, kd_81, kd_82, kd_83, kd_84, kd_85, kd_86, kd_87, kd_88, kd_89, kd_90, kd_91, kd_92, kd_93, kd_94, kd_95, kd_96, kd_97, kd_98, kd_99, kd_100, kd_101, kd_102, kd_103, kd_104, kd_105, kd_106, kd_107, kd_108]; exact rfl)); simp only [vx_some])
      all_goals exact u1
    have b3 : 1 ≤ M' 88 8 := by rw [u3]; exact B2.1.1
    refine Or.inr ⟨m2, M', ?_, (bnd mo).trans (d_112 b3), (a1.t.p D).tr (a2.p D), (b1.h.q.tr b2.q).tr u2, B2.tr u3 u4⟩
    rw [e_X9_tellsFill]
    repeat first
      | (refine Eq.trans (if_pos ?_) ?_; · first | omega | (simp (disch := omega) only [c3, r1, r3, Int.reduceLT, Int.reduceLE, Int.reduceEq, Int.reduceNe, Int.reduceNeg, Int.reduceAdd, Int.reduceSub, Int.reduceMul, Int.reduceGE, Int.reduceGT, Nat.reduceEqDiff, Nat.reduceAdd, and_true, true_and, and_self, not_true_eq_false, not_false_eq_true, ne_eq, and_false, false_and, or_false, or_true, false_or, true_or, vx_some, eq_self, ↓reduceIte, ite_t1, ite_t2, ite_t3, le_T, le_F, lt_T, lt_F, ge_T, ge_F, gt_T, gt_F, eq_T, eq_F, w32_i, kd_1, kd_2, kd_3, kd_4, kd_5, kd_6, kd_7, kd_14, kd_15, kd_16, kd_29, kd_34, kd_56, kd_74, kd_75, kd_76, kd_77, kd_78, kd_79, kd_80, kd_81, kd_82, kd_83, kd_84, kd_85, kd_86, kd_87, kd_88, kd_89, kd_90, kd_91, kd_92, kd_93, kd_94, kd_95, kd_96, kd_97, kd_98, kd_99, kd_100, kd_101, kd_102, kd_103, kd_104, kd_105, kd_106, kd_107, kd_108]; done))
      | (refine Eq.trans (if_neg ?_) ?_; · first | omega | (simp (disch := omega) only [c3, r1, r3, Int.reduceLT, Int.reduceLE, Int.reduceEq, Int.reduceNe, Int.reduceNeg, Int.reduceAdd, Int.reduceSub, Int.reduceMul, Int.reduceGE, Int.reduceGT, Nat.reduceEqDiff, Nat.reduceAdd, and_true, true_and, and_self, not_true_eq_false, not_false_eq_true, ne_eq, and_false, false_and, or_false, or_true, false_or, true_or, vx_some, eq_self, ↓reduceIte, ite_t1, ite_t2, ite_t3, le_T, le_F, lt_T, lt_F, ge_T, ge_F, gt_T, gt_F, eq_T, eq_F, w32_i, kd_1, kd_2, kd_3, kd_4, kd_5, kd_6, kd_7, kd_14, kd_15, kd_16, kd_29, kd_34, kd_56, kd_74, kd_75, kd_76, kd_77, kd_78, kd_79, kd_80, kd_81, kd_82, kd_83, kd_84, kd_85, kd_86, kd_87, kd_88, kd_89, kd_90, kd_91, kd_92, kd_93, kd_94, kd_95, kd_96, kd_97, kd_98, kd_99, kd_100, kd_101, kd_102, kd_103, kd_104, kd_105, kd_106, kd_107, kd_108]; done))
      | (refine Eq.trans (bnd (r := ?_) ?_) ?_; rotate_left 1; (focus (simp (disch := omega) only [c3, r1, r3, Int.reduceLT, Int.reduceLE, Int.reduceEq, Int.reduceNe, Int.reduceNeg, Int.reduceAdd, Int.reduceSub, Int.reduceMul, Int.reduceGE, Int.reduceGT, Nat.reduceEqDiff, Nat.reduceAdd, and_true, true_and, and_self, not_true_eq_false, not_false_eq_true, ne_eq, and_false, false_and, or_false, or_true, false_or, true_or, vx_some, eq_self, ↓reduceIte, ite_t1, ite_t2, ite_t3, le_T, le_F, lt_T, lt_F, ge_T, ge_F, gt_T, gt_F, eq_T, eq_F, w32_i, kd_1, kd_2, kd_3, kd_4, kd_5, kd_6, kd_7, kd_14, kd_15, kd_16, kd_29, kd_34, kd_56, kd_74, kd_75, kd_76, kd_77, kd_78, kd_79, kd_80, kd_81, kd_82, kd_83, kd_84, kd_85, kd_86, kd_87, kd_88, kd_89, kd_90, kd_91, kd_92, kd_93, kd_94, kd_95, kd_96, kd_97, kd_98, kd_99, kd_100, kd_101, kd_102, kd_103, kd_104, kd_105, kd_106, kd_107, kd_108]; exact rfl)); simp only [vx_some])
    all_goals with_reducible rfl
end
