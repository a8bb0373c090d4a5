/-! THE PURE PART: undo -/
def tbC (m : Mm) : Mm := cpm (stm m 74 3 (m 74 3 - 1)) (109 + slt m (m 74 3 - 1)) 0 (8 + m 76 (slt m (m 74 3 - 1))) 0 400
theorem c_takeBack {h : Hq} (F : FX h.2) (R : RNG h.1 h.2) (hc : 0 < h.2 74 3) (s0 : 0 ≤ h.2 76 (slt h.2 (h.2 74 3 - 1))) (s1 : h.2 76 (slt h.2 (h.2 74 3 - 1)) < 6) : vm 6 [(2, 74), (2, 6)] h = some (none, (h.1, tbC h.2)) := by
  have r := slt_rng h.2 (h.2 74 3 - 1)
  have c := R.1
  have n := R.2.2.1
  have kj := kdk' r.1 r.2
  have F1 : FX (stm h.2 74 3 (h.2 74 3 - 1)) := F.fr (fun c k q => by
    unfold FXP at q
    rw [stm_ap, if_neg (by omega)])
  have hal : slt h.2 (h.2 74 3 - 1) < h.1 - 109 := by
    rcases R.2.2.2.2 with e | e
    · omega
    · unfold slt at r ⊢
      omega
  have R1 : RNG h.1 (stm h.2 74 3 (h.2 74 3 - 1)) := by
    obtain ⟨a, b, c, d, e⟩ := R
    have e3 : stm h.2 74 3 (h.2 74 3 - 1) 74 3 = h.2 74 3 - 1 := stm_same _ _ _ _
    have e2 : stm h.2 74 3 (h.2 74 3 - 1) 74 2 = h.2 74 2 := by rw [stm_ap, if_neg (by omega)]
    unfold RNG
    rw [e3, e2]
    refine ⟨by omega, b, c, fun j j0 j1 => ?_, by omega⟩
    rw [stm_ap, if_neg (by omega)]
    exact d j j0 j1
  have z := c_begun (h := (h.1, stm h.2 74 3 (h.2 74 3 - 1))) F1 R1
  have e3 : stm h.2 74 3 (h.2 74 3 - 1) 74 3 = h.2 74 3 - 1 := stm_same _ _ _ _
  have e4 : slt (stm h.2 74 3 (h.2 74 3 - 1)) (h.2 74 3 - 1) = slt h.2 (h.2 74 3 - 1) := by
    unfold slt
    rw [stm_ap, if_neg (by omega)]
  have e5 : stm (stm h.2 74 3 (h.2 74 3 - 1)) 75 (slt h.2 (h.2 74 3 - 1)) (109 + slt h.2 (h.2 74 3 - 1)) = stm h.2 74 3 (h.2 74 3 - 1) := by
    funext o k
    rw [stm_ap]
    split
    · next q =>
      rw [q.1, q.2, stm_ap, if_neg (by omega)]
      have := R.2.2.2.1 _ r.1 r.2
      rw [if_pos hal] at this
      exact this.symm
    · rfl
  have e6 : max h.1 (110 + slt h.2 (h.2 74 3 - 1)) = h.1 := by omega
  dsimp only at z
  rw [e3, e4, e5, e6] at z
  have sl := c_slot (h := (h.1, stm h.2 74 3 (h.2 74 3 - 1))) F1 R1 (k := h.2 74 3 - 1) (by omega) (by omega)
  dsimp only at sl
  rw [e4] at sl
  have e76 : stm h.2 74 3 (h.2 74 3 - 1) 76 (slt h.2 (h.2 74 3 - 1)) = h.2 76 (slt h.2 (h.2 74 3 - 1)) := by rw [stm_ap, if_neg (by omega)]
  have rr := rowc (h := (h.1, stm h.2 74 3 (h.2 74 3 - 1))) F1 s0 s1
  dsimp only at rr
  have kr := kdr s0 s1
  rw [e_X0_takeBack]
  repeat first
    | (refine Eq.trans (if_pos ?_) ?_; · first | omega | (simp (disch := omega) only [w32_i, z, e3, sl, F1.c74_1, F1.c6_0, e76, rr, kj, kr, Int.reduceLT, Int.reduceLE, Int.reduceEq, Int.reduceNe, Int.reduceNeg, Int.reduceAdd, Int.reduceSub, Int.reduceMul, Int.reduceGE, Int.reduceGT, Nat.reduceEqDiff, Nat.reduceAdd, and_true, true_and, and_self, not_true_eq_false, not_false_eq_true, ne_eq, and_false, false_and, or_false, or_true, false_or, true_or, vx_some, eq_self, ↓reduceIte, ite_t1, ite_t2, ite_t3, le_T, le_F, lt_T, lt_F, ge_T, ge_F, gt_T, gt_F, eq_T, eq_F, w32_i, kd_1, kd_2, kd_3, kd_4, kd_5, kd_6, kd_7, kd_14, kd_15, kd_16, kd_29, kd_34, kd_56, kd_74, kd_75, kd_76, kd_77, kd_78, kd_79, kd_80, kd_81, kd_82, kd_83, kd_84, kd_85, kd_86, kd_87, kd_88, kd_89, kd_90, kd_91, kd_92, kd_93, kd_94, kd_95, kd_96, kd_97, kd_98, kd_99, kd_100, kd_101, kd_102, kd_103, kd_104, kd_105, kd_106, kd_107, kd_108]; done))
    | (refine Eq.trans (if_neg ?_) ?_; · first | omega | (simp (disch := omega) only [w32_i, z, e3, sl, F1.c74_1, F1.c6_0, e76, rr, kj, kr, Int.reduceLT, Int.reduceLE, Int.reduceEq, Int.reduceNe, Int.reduceNeg, Int.reduceAdd, Int.reduceSub, Int.reduceMul, Int.reduceGE, Int.reduceGT, Nat.reduceEqDiff, Nat.reduceAdd, and_true, true_and, and_self, not_true_eq_false, not_false_eq_true, ne_eq, and_false, false_and, or_false, or_true, false_or, true_or, vx_some, eq_self, ↓reduceIte, ite_t1, ite_t2, ite_t3, le_T, le_F, lt_T, lt_F, ge_T, ge_F, gt_T, gt_F, eq_T, eq_F, w32_i, kd_1, kd_2, kd_3, kd_4, kd_5, kd_6, kd_7, kd_14, kd_15, kd_16, kd_29, kd_34, kd_56, kd_74, kd_75, kd_76, kd_77, kd_78, kd_79, kd_80, kd_81, kd_82, kd_83, kd_84, kd_85, kd_86, kd_87, kd_88, kd_89, kd_90, kd_91, kd_92, kd_93, kd_94, kd_95, kd_96, kd_97, kd_98, kd_99, kd_100, kd_101, kd_102, kd_103, kd_104, kd_105, kd_106, kd_107, kd_108]; done))
    | (refine Eq.trans (bnd (r := ?_) ?_) ?_; rotate_left 1; (focus (simp (disch := omega) only [w32_i, z, e3, sl, F1.c74_1, F1.c6_0, e76, rr, kj, kr, Int.reduceLT, Int.reduceLE, Int.reduceEq, Int.reduceNe, Int.reduceNeg, Int.reduceAdd, Int.reduceSub, Int.reduceMul, Int.reduceGE, Int.reduceGT, Nat.reduceEqDiff, Nat.reduceAdd, and_true, true_and, and_self, not_true_eq_false, not_false_eq_true, ne_eq, and_false, false_and, or_false, or_true, false_or, true_or, vx_some, eq_self, ↓reduceIte, ite_t1, ite_t2, ite_t3, le_T, le_F, lt_T, lt_F, ge_T, ge_F, gt_T, gt_F, eq_T, eq_F, w32_i, kd_1, kd_2, kd_3, kd_4, kd_5, kd_6, kd_7, kd_14, kd_15, kd_16, kd_29, kd_34, kd_56, kd_74, kd_75, kd_76, kd_77, kd_78, kd_79, kd_80, kd_81, kd_82, kd_83, kd_84, kd_85, kd_86, kd_87, kd_88, kd_89, kd_90, kd_91, kd_92, kd_93, kd_94, kd_95, kd_96, kd_97, kd_98, kd_99, kd_100, kd_101, kd_102, kd_103, kd_104, kd_105, kd_106, kd_107, kd_108]; exact rfl)); simp only [vx_some])
  rw [F1.c6_0, F1.c74_1, e76, rr]
  rfl
theorem tbC_o {m : Mm} {c k : Int} (h1 : c ≠ 8 + m 76 (slt m (m 74 3 - 1))) (h2 : ¬ (c = 74 ∧ k = 3)) : tbC m c k = m c k := by
  unfold tbC
  rw [cpm_ap, if_neg (by omega), stm_ap, if_neg h2]
theorem tbC_r {m : Mm} {k : Int} (s0 : 0 ≤ m 76 (slt m (m 74 3 - 1))) (s1 : m 76 (slt m (m 74 3 - 1)) < 6) (k0 : 0 ≤ k) (k1 : k < 400) : tbC m (8 + m 76 (slt m (m 74 3 - 1))) k = m (109 + slt m (m 74 3 - 1)) k := by
  have r := slt_rng m (m 74 3 - 1)
  unfold tbC
  rw [cpm_ap, if_pos ⟨rfl, by omega, by omega⟩, stm_ap, if_neg (by omega), show 0 + (k - 0) = k by omega]
theorem un_97 (m : Mm) (a q : Int) (q0 : 0 ≤ q) (q1 : q < 2400) : un m a 2400 97 q = m 99 (2400 * a + q) := by
  unfold un
  rw [cp2_ap _ _ _ _ _ _ _ _ _ _ _ _ (by omega) (by omega), if_neg (by omega), if_pos ⟨rfl, by omega, by omega⟩, Int.sub_zero]
theorem un_98 (m : Mm) (a q : Int) (q0 : 0 ≤ q) (q1 : q < 2400) : un m a 2400 98 q = m 100 (2400 * a + q) := by
  unfold un
  rw [cp2_ap _ _ _ _ _ _ _ _ _ _ _ _ (by omega) (by omega), if_pos ⟨rfl, by omega, by omega⟩, Int.sub_zero]
theorem k_undo {i : Int} {h : Hq} (I : INV i h) (hi : i < 600) : OKC i 123 220 [] h := by
  have F := I.fx
  have A := I.ac
  have A1 := A.1
  have R := I.rn
  have Ra := R.1
  have Rb := R.2.1
  have Rc := R.2.2.1
  have K := I.kl
  by_cases z : h.2 74 3 = 0
  · refine OKC.ro I hi (0, -1) ?_ ?_
    · rw [e_X11_undo]
      repeat first
        | (refine Eq.trans (if_pos ?_) ?_; · first | omega | (simp (disch := omega) only [F.c1_0, F.c1_2, F.c1_5, F.c1_6, F.c1_7, F.c1_8, F.c1_9, F.c1_10, F.c1_11, F.c3_0, F.c4_0, F.c6_0, F.c6_1, F.c6_2, F.c6_3, F.c6_4, F.c74_0, F.c74_1, F.c77_0, F.c77_1, F.c80_0, F.c80_1, F.c83_0, F.c86_0, z, Int.reduceLT, Int.reduceLE, Int.reduceEq, Int.reduceNe, Int.reduceNeg, Int.reduceAdd, Int.reduceSub, Int.reduceMul, Int.reduceGE, Int.reduceGT, Nat.reduceEqDiff, Nat.reduceAdd, and_true, true_and, and_self, not_true_eq_false, not_false_eq_true, ne_eq, and_false, false_and, or_false, or_true, false_or, true_or, vx_some, eq_self, ↓reduceIte, ite_t1, ite_t2, ite_t3, le_T, le_F, lt_T, lt_F, ge_T, ge_F, gt_T, gt_F, eq_T, eq_F, w32_i, kd_1, kd_2, kd_3, kd_4, kd_5, kd_6, kd_7, kd_14, kd_15, kd_16, kd_29, kd_34, kd_56, kd_74, kd_75, kd_76, kd_77, kd_78, kd_79, kd_80, kd_81, kd_82, kd_83, kd_84, kd_85, kd_86, kd_87, kd_88, kd_89, kd_90, kd_91, kd_92, kd_93, kd_94, kd_95, kd_96, kd_97, kd_98, kd_99, kd_100, kd_101, kd_102, kd_103, kd_104, kd_105, kd_106, kd_107, kd_108]; done))
        | (refine Eq.trans (if_neg ?_) ?_; · first | omega | (simp (disch := omega) only [F.c1_0, F.c1_2, F.c1_5, F.c1_6, F.c1_7, F.c1_8, F.c1_9, F.c1_10, F.c1_11, F.c3_0, F.c4_0, F.c6_0, F.c6_1, F.c6_2, F.c6_3, F.c6_4, F.c74_0, F.c74_1, F.c77_0, F.c77_1, F.c80_0, F.c80_1, F.c83_0, F.c86_0, z, Int.reduceLT, Int.reduceLE, Int.reduceEq, Int.reduceNe, Int.reduceNeg, Int.reduceAdd, Int.reduceSub, Int.reduceMul, Int.reduceGE, Int.reduceGT, Nat.reduceEqDiff, Nat.reduceAdd, and_true, true_and, and_self, not_true_eq_false, not_false_eq_true, ne_eq, and_false, false_and, or_false, or_true, false_or, true_or, vx_some, eq_self, ↓reduceIte, ite_t1, ite_t2, ite_t3, le_T, le_F, lt_T, lt_F, ge_T, ge_F, gt_T, gt_F, eq_T, eq_F, w32_i, kd_1, kd_2, kd_3, kd_4, kd_5, kd_6, kd_7, kd_14, kd_15, kd_16, kd_29, kd_34, kd_56, kd_74, kd_75, kd_76, kd_77, kd_78, kd_79, kd_80, kd_81, kd_82, kd_83, kd_84, kd_85, kd_86, kd_87, kd_88, kd_89, kd_90, kd_91, kd_92, kd_93, kd_94, kd_95, kd_96, kd_97, kd_98, kd_99, kd_100, kd_101, kd_102, kd_103, kd_104, kd_105, kd_106, kd_107, kd_108]; done))
        | (refine Eq.trans (bnd (r := ?_) ?_) ?_; rotate_left 1; (focus (simp (disch := omega) only [F.c1_0, F.c1_2, F.c1_5, F.c1_6, F.c1_7, F.c1_8, F.c1_9, F.c1_10, F.c1_11, F.c3_0, F.c4_0, F.c6_0, F.c6_1, F.c6_2, F.c6_3, F.c6_4, F.c74_0, F.c74_1, F.c77_0, F.c77_1, F.c80_0, F.c80_1, F.c83_0, F.c86_0, z, Int.reduceLT, Int.reduceLE, Int.reduceEq, Int.reduceNe, Int.reduceNeg, Int.reduceAdd, Int.reduceSub, Int.reduceMul, Int.reduceGE, Int.reduceGT, Nat.reduceEqDiff, Nat.reduceAdd, and_true, true_and, and_self, not_true_eq_false, not_false_eq_true, ne_eq, and_false, false_and, or_false, or_true, false_or, true_or, vx_some, eq_self, ↓reduceIte, ite_t1, ite_t2, ite_t3, le_T, le_F, lt_T, lt_F, ge_T, ge_F, gt_T, gt_F, eq_T, eq_F, w32_i, kd_1, kd_2, kd_3, kd_4, kd_5, kd_6, kd_7, kd_14, kd_15, kd_16, kd_29, kd_34, kd_56, kd_74, kd_75, kd_76, kd_77, kd_78, kd_79, kd_80, kd_81, kd_82, kd_83, kd_84, kd_85, kd_86, kd_87, kd_88, kd_89, kd_90, kd_91, kd_92, kd_93, kd_94, kd_95, kd_96, kd_97, kd_98, kd_99, kd_100, kd_101, kd_102, kd_103, kd_104, kd_105, kd_106, kd_107, kd_108]; exact rfl)); simp only [vx_some])
      all_goals first | rfl | (simp (disch := omega) only [Int.reduceLT, Int.reduceLE, Int.reduceEq, Int.reduceNe, Int.reduceNeg, Int.reduceAdd, Int.reduceSub, Int.reduceMul, Int.reduceGE, Int.reduceGT, Nat.reduceEqDiff, Nat.reduceAdd, and_true, true_and, and_self, not_true_eq_false, not_false_eq_true, ne_eq, and_false, false_and, or_false, or_true, false_or, true_or, vx_some, eq_self, ↓reduceIte, ite_t1, ite_t2, ite_t3, le_T, le_F, lt_T, lt_F, ge_T, ge_F, gt_T, gt_F, eq_T, eq_F, w32_i]; done)
    · rw [p_undo F (by omega) (by omega), if_pos (by omega)]
  · have P := A.2 (h.2 74 3 - 1) (by omega) (by omega)
    rw [if_pos (by omega), if_pos (by omega)] at P
    have jr := slt_rng h.2 (h.2 74 3 - 1)
    have kc := K.1
    have s1 : h.2 76 (slt h.2 (h.2 74 3 - 1)) < 6 := by have := P.1.2; omega
    have s0 := P.1.1
    have F1 : FX (tbC h.2) := F.fr (fun c k q => by unfold FXP at q; exact tbC_o (by omega) (by omega))
    have e26 : tbC h.2 88 26 = h.2 74 3 := by rw [tbC_o (by omega) (by omega)]; exact A.1
    have e743 : tbC h.2 74 3 = h.2 74 3 - 1 := by unfold tbC; rw [cpm_ap, if_neg (by omega), stm_same]
    refine ⟨(0, h.2 74 3 - 1), (h.1, tbC h.2), (h.1, un (stm (tbC h.2) 88 26 (h.2 74 3 - 1)) (h.2 74 3 - 1) 2400), ?_, ?_, ?_, ?_, ?_⟩
    · rw [e_X11_undo]
      repeat first
        | (refine Eq.trans (if_pos ?_) ?_; · first | omega | (simp (disch := omega) only [F.c1_0, F.c1_2, F.c1_5, F.c1_6, F.c1_7, F.c1_8, F.c1_9, F.c1_10, F.c1_11, F.c3_0, F.c4_0, F.c6_0, F.c6_1, F.c6_2, F.c6_3, F.c6_4, F.c74_0, F.c74_1, F.c77_0, F.c77_1, F.c80_0, F.c80_1, F.c83_0, F.c86_0, z, c_takeBack F R, F1.c1_6, Int.reduceLT, Int.reduceLE, Int.reduceEq, Int.reduceNe, Int.reduceNeg, Int.reduceAdd, Int.reduceSub, Int.reduceMul, Int.reduceGE, Int.reduceGT, Nat.reduceEqDiff, Nat.reduceAdd, and_true, true_and, and_self, not_true_eq_false, not_false_eq_true, ne_eq, and_false, false_and, or_false, or_true, false_or, true_or, vx_some, eq_self, ↓reduceIte, ite_t1, ite_t2, ite_t3, le_T, le_F, lt_T, lt_F, ge_T, ge_F, gt_T, gt_F, eq_T, eq_F, w32_i, kd_1, kd_2, kd_3, kd_4, kd_5, kd_6, kd_7, kd_14, kd_15, kd_16, kd_29, kd_34, kd_56, kd_74, kd_75, kd_76, kd_77, kd_78, kd_79, kd_80, kd_81, kd_82, kd_83, kd_84, kd_85, kd_86, kd_87, kd_88, kd_89, kd_90, kd_91, kd_92, kd_93, kd_94, kd_95, kd_96, kd_97, kd_98, kd_99, kd_100, kd_101, kd_102, kd_103, kd_104, kd_105, kd_106, kd_107, kd_108]; done))
        | (refine Eq.trans (if_neg ?_) ?_; · first | omega | (simp (disch := omega) only [F.c1_0, F.c1_2, F.c1_5, F.c1_6, F.c1_7, F.c1_8, F.c1_9, F.c1_10, F.c1_11, F.c3_0, F.c4_0, F.c6_0, F.c6_1, F.c6_2, F.c6_3, F.c6_4, F.c74_0, F.c74_1, F.c77_0, F.c77_1, F.c80_0, F.c80_1, F.c83_0, F.c86_0, z, c_takeBack F R, F1.c1_6, Int.reduceLT, Int.reduceLE, Int.reduceEq, Int.reduceNe, Int.reduceNeg, Int.reduceAdd, Int.reduceSub, Int.reduceMul, Int.reduceGE, Int.reduceGT, Nat.reduceEqDiff, Nat.reduceAdd, and_true, true_and, and_self, not_true_eq_false, not_false_eq_true, ne_eq, and_false, false_and, or_false, or_true, false_or, true_or, vx_some, eq_self, ↓reduceIte, ite_t1, ite_t2, ite_t3, le_T, le_F, lt_T, lt_F, ge_T, ge_F, gt_T, gt_F, eq_T, eq_F, w32_i, kd_1, kd_2, kd_3, kd_4, kd_5, kd_6, kd_7, kd_14, kd_15, kd_16, kd_29, kd_34, kd_56, kd_74, kd_75, kd_76, kd_77, kd_78, kd_79, kd_80, kd_81, kd_82, kd_83, kd_84, kd_85, kd_86, kd_87, kd_88, kd_89, kd_90, kd_91, kd_92, kd_93, kd_94, kd_95, kd_96, kd_97, kd_98, kd_99, kd_100, kd_101, kd_102, kd_103, kd_104, kd_105, kd_106, kd_107, kd_108]; done))
        | (refine Eq.trans (bnd (r := ?_) ?_) ?_; rotate_left 1; (focus (simp (disch := omega) only [F.c1_0, F.c1_2, F.c1_5, F.c1_6, F.c1_7, F.c1_8, F.c1_9, F.c1_10, F.c1_11, F.c3_0, F.c4_0, F.c6_0, F.c6_1, F.c6_2, F.c6_3, F.c6_4, F.c74_0, F.c74_1, F.c77_0, F.c77_1, F.c80_0, F.c80_1, F.c83_0, F.c86_0, z, c_takeBack F R, F1.c1_6, Int.reduceLT, Int.reduceLE, Int.reduceEq, Int.reduceNe, Int.reduceNeg, Int.reduceAdd, Int.reduceSub, Int.reduceMul, Int.reduceGE, Int.reduceGT, Nat.reduceEqDiff, Nat.reduceAdd, and_true, true_and, and_self, not_true_eq_false, not_false_eq_true, ne_eq, and_false, false_and, or_false, or_true, false_or, true_or, vx_some, eq_self, ↓reduceIte, ite_t1, ite_t2, ite_t3, le_T, le_F, lt_T, lt_F, ge_T, ge_F, gt_T, gt_F, eq_T, eq_F, w32_i, kd_1, kd_2, kd_3, kd_4, kd_5, kd_6, kd_7, kd_14, kd_15, kd_16, kd_29, kd_34, kd_56, kd_74, kd_75, kd_76, kd_77, kd_78, kd_79, kd_80, kd_81, kd_82, kd_83, kd_84, kd_85, kd_86, kd_87, kd_88, kd_89, kd_90, kd_91, kd_92, kd_93, kd_94, kd_95, kd_96, kd_97, kd_98, kd_99, kd_100, kd_101, kd_102, kd_103, kd_104, kd_105, kd_106, kd_107, kd_108]; exact rfl)); simp only [vx_some])
      simp only [F1.c1_6, e743]
    · rw [p_undo (h := (h.1, tbC h.2)) F1 (by show 0 ≤ tbC h.2 88 26; omega) (by show tbC h.2 88 26 ≤ 20; omega)]
      simp only [e26, if_neg z]
    · exact funext fun k => tbC_o (by omega) (by omega)
    · funext k
      show un (stm (tbC h.2) 88 26 (h.2 74 3 - 1)) (h.2 74 3 - 1) 2400 (-1) k = _
      rw [un_o (by omega) (by omega), stm_ap, if_neg (by omega), tbC_o (by omega) (by omega)]
    · have eO : ∀ c k : Int, ¬ (8 ≤ c ∧ c ≤ 13) → c ≠ 97 → c ≠ 98 → ¬ (c = 74 ∧ k = 3) → ¬ (c = 88 ∧ k = 26) → un (stm (tbC h.2) 88 26 (h.2 74 3 - 1)) (h.2 74 3 - 1) 2400 c k = h.2 c k := fun c k h0 h1 h2 h3 h4 => by
        rw [un_o h1 h2, stm_ap, if_neg h4, tbC_o (by omega) h3]
      have I1 := I.up hi
      have ir := I.ir
      have t99 : ∀ q, stm (tbC h.2) 88 26 (h.2 74 3 - 1) 99 q = h.2 99 q := fun q => by rw [stm_ap, if_neg (by omega), tbC_o (by omega) (by omega)]
      have t100 : ∀ q, stm (tbC h.2) 88 26 (h.2 74 3 - 1) 100 q = h.2 100 q := fun q => by rw [stm_ap, if_neg (by omega), tbC_o (by omega) (by omega)]
      have m743 : un (stm (tbC h.2) 88 26 (h.2 74 3 - 1)) (h.2 74 3 - 1) 2400 74 3 = h.2 74 3 - 1 := by
        rw [un_o (by omega) (by omega), stm_ap, if_neg (by omega), e743]
      have m742 := eO 74 2 (by omega) (by omega) (by omega) (by omega) (by omega)
      refine ⟨F.fr (fun c k q => eO c k (by unfold FXP at q; omega) (by unfold FXP at q; omega) (by unfold FXP at q; omega) (by unfold FXP at q; omega) (by unfold FXP at q; omega)), I.sh.fr (fun c k q => eO c k (by unfold SHP at q; omega) (by unfold SHP at q; omega) (by unfold SHP at q; omega) (by unfold SHP at q; omega) (by unfold SHP at q; omega)), ?_, ⟨?_, ?_⟩, I.im.fr (fun c k q => eO c k (by omega) (by omega) (by omega) (by omega) (by omega)) (by omega), I1.ca.fr (fun c k q => eO c k (by omega) (by omega) (by omega) (by omega) (by omega)), I1.ta.fr (fun c k q => eO c k (by omega) (by omega) (by omega) (by omega) (by omega)), I.tp.fr (fun c k q => eO c k (by omega) (by omega) (by omega) (by omega) (by omega)), I.fl.fr (fun c k q => eO c k (by omega) (by omega) (by omega) (by omega) (by omega)), I.ou.fr (fun c k q => eO c k (by omega) (by omega) (by omega) (by omega) (by omega)), by omega⟩
      · intro s p a0 a1 a2 a3
        dsimp only at a1 a3 ⊢
        rw [eO 90 3 (by omega) (by omega) (by omega) (by omega) (by omega)] at a1
        rw [eO 94 s (by omega) (by omega) (by omega) (by omega) (by omega)] at a3
        have q := K.q a0 a1 a2 a3
        have rw' := K.rw a0 a1 a2 a3
        rw [eO 93 s (by omega) (by omega) (by omega) (by omega) (by omega), un_97 _ _ _ q.1 q.2, un_98 _ _ _ q.1 q.2, t99, t100, un_o (by omega) (by omega), stm_ap, if_neg (by omega)]
        by_cases hs : s = h.2 76 (slt h.2 (h.2 74 3 - 1))
        · have e1 : tbC h.2 (8 + s) p = h.2 (109 + slt h.2 (h.2 74 3 - 1)) p := by
            have := tbC_r s0 s1 a2 rw'.2.1
            rw [← hs] at this
            exact this
          rw [e1]
          have := P.2.1 p a2 (by rw [← hs]; exact a3)
          rw [← hs] at this
          exact this
        · rw [tbC_o (by omega) (by omega)]
          have := P.2.2 s p a0 a1 hs a2 a3
          rw [← this.1, ← this.2]
          exact I.ro s p a0 a1 a2 a3
      · show RNG h.1 (un (stm (tbC h.2) 88 26 (h.2 74 3 - 1)) (h.2 74 3 - 1) 2400)
        unfold RNG
        rw [m743, m742]
        refine ⟨by omega, Rb, Rc, fun j j0 j1 => ?_, ?_⟩
        · rw [eO 75 j (by omega) (by omega) (by omega) (by omega) (by omega)]
          exact R.2.2.2.1 j j0 j1
        · have := R.2.2.2.2
          omega
      · show ACT (un (stm (tbC h.2) 88 26 (h.2 74 3 - 1)) (h.2 74 3 - 1) 2400)
        refine ⟨?_, fun k k0 k1 => ?_⟩
        · rw [m743, un_o (by omega) (by omega), stm_same]
        · rw [m743] at k1 ⊢
          have es : slt (un (stm (tbC h.2) 88 26 (h.2 74 3 - 1)) (h.2 74 3 - 1) 2400) k = slt h.2 k := by unfold slt; rw [m742]
          rw [es]
          have sr := slt_rng h.2 k
          have P' := A.2 k k0 (by omega)
          refine P'.mv K (eO _ _ (by omega) (by omega) (by omega) (by omega) (by omega)) (fun c k hc => eO c k (by omega) (by omega) (by omega) (by omega) (by omega)) (fun p => eO _ p (by omega) (by omega) (by omega) (by omega) (by omega)) (fun q q0 q1 => ⟨eO _ _ (by omega) (by omega) (by omega) (by omega) (by omega), eO _ _ (by omega) (by omega) (by omega) (by omega) (by omega)⟩) (fun s p a0 a1 a2 a3 => ?_)
          have q := K.q a0 a1 a2 a3
          rw [if_neg (show ¬ k + 1 = h.2 74 3 by omega), if_neg (show ¬ k + 1 = h.2 74 3 by omega)]
          by_cases hk : k + 1 = h.2 74 3 - 1
          · rw [if_pos hk, if_pos hk, un_97 _ _ _ q.1 q.2, un_98 _ _ _ q.1 q.2, t99, t100, hk]
            exact ⟨rfl, rfl⟩
          · rw [if_neg hk, if_neg hk]
            exact ⟨eO _ _ (by omega) (by omega) (by omega) (by omega) (by omega), eO _ _ (by omega) (by omega) (by omega) (by omega) (by omega)⟩
