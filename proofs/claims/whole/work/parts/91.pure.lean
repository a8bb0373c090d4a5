/-! THE PURE PART: walk, walkAs, bestWalk, bestOrder -/
def FRx (m m' : Mm) : Prop := ∀ o q : Int, ¬ (o = 81 ∨ o = 82 ∨ (o = 80 ∧ (q = 5 ∨ q = 6)) ∨ (o = 103 ∧ 32 ≤ q) ∨ (o = 104 ∧ 32 ≤ q) ∨ (o = 88 ∧ q = 36)) → m' o q = m o q
theorem FRx.fx {m m' : Mm} (e : FRx m m') (F : FX m) : FX m' := F.fr (fun c k q => e c k (by unfold FXP at q; omega))
theorem FRx.sh {m m' : Mm} (e : FRx m m') (S : SH m) : SH m' := S.fr (fun c k q => e c k (by unfold SHP at q; omega))
theorem FRx.w {m m' : Mm} (e : FRw m m') : FRx m m' := fun o q h => e o q (by omega)
theorem FRx.m {m m' m'' : Mm} (e : FRx m m') (e' : FRm m' m'') : FRx m m'' := fun o q h => (e' o q (by omega)).trans (e o q h)
section
variable {n : Int} {m m1 : Mm} {t how o : Int} {l : Nat} {f : Int → Int → Int}
theorem w_cA (W : WKF n m t l f) (F : FX m) (S : SH m) (ht : isT m t) (hl : (l : Int) < tex m t 4) (h0 : 0 ≤ how) (h3 : how ≤ 3) (o0 : 0 ≤ o) (o1 : o ≤ 2) (fw : FRw m m1) : ∃ m2, vm 152 [(2, 1), (0, t), (0, (l : Int)), (0, how), (0, o)] (n, m1) = some (some (0, f how o), (n, m2)) ∧ FRw m m2 := by
  obtain ⟨m2, r, fw2⟩ := (W how o h0 h3 o0 o1).2.1 m1 fw
  have e90m : m1 90 = m 90 := funext fun q => fw 90 q (by omega)
  have e95m : m1 95 = m 95 := funext fun q => fw 95 q (by omega)
  have tm : tcl m1 t = tcl m t := by unfold tcl; rw [fw 1 3 (by omega)]
  rw [← tm] at r
  exact ⟨m2, c_walkAs (fw.fx F) (fw.sh S) (by unfold isT at ht ⊢; rw [e90m]; exact ht) (by unfold tex at hl ⊢; rw [e95m]; exact hl) h0 h3 o0 o1 r, fw2⟩
theorem w_cW (W : WKF n m t l f) (F : FX m) (S : SH m) (ht : isT m t) (hl : (l : Int) < tex m t 4) (h0 : 0 ≤ how) (h3 : how ≤ 3) (fw : FRw m m1) : ∃ m2, vm 150 [(2, 1), (0, t), (0, (l : Int)), (0, how)] (n, m1) = some (some (0, f how (tex m t 5)), (n, m2)) ∧ FRw m m2 := by
  have Wh := S.2.2.1.wh ht hl
  obtain ⟨m2, r, fw2⟩ := w_cA W F S ht hl h0 h3 Wh.2.2.2.2.2.1 Wh.2.2.2.2.2.2 fw
  have e90m : m1 90 = m 90 := funext fun q => fw 90 q (by omega)
  have e95m : m1 95 = m 95 := funext fun q => fw 95 q (by omega)
  have et : tex m t 5 = tex m1 t 5 := by unfold tex; rw [e95m]
  rw [et] at r ⊢
  exact ⟨m2, c_walk (fw.fx F) (fw.sh S) (by unfold isT at ht ⊢; rw [e90m]; exact ht) r, fw2⟩
theorem w_pW (W : WKF n m t l f) (F : FX m) (S : SH m) (ht : isT m t) (hl : (l : Int) < tex m t 4) (h0 : 0 ≤ how) (h3 : how ≤ 3) (O : m 88 30 = -1) (fx : FRx m m1) (b0 : 0 ≤ m1 88 36) (b1 : m1 88 36 ≤ 7000000) : ∃ m2, vm 294 [(2, 88), (0, t), (0, (l : Int)), (0, how)] (n, m1) = some (some (0, f how (tex m t 5)), (n, m2)) ∧ FRx m m2 ∧ (m1 88 36 ≤ m2 88 36 ∧ m2 88 36 ≤ m1 88 36 + 256) := by
  have Wh := S.2.2.1.wh ht hl
  have e90m : m1 90 = m 90 := funext fun q => fx 90 q (by omega)
  have e95m : m1 95 = m 95 := funext fun q => fx 95 q (by omega)
  have e30 : m1 88 30 = -1 := by rw [fx 88 30 (by omega), O]
  have eo : ordM m1 t = tex m t 5 := by
    unfold ordM tex
    rw [e30, if_pos rfl, e95m]
  obtain ⟨m2, r, f2, k⟩ := (W how (tex m t 5) h0 h3 Wh.2.2.2.2.2.1 Wh.2.2.2.2.2.2).2.2 m1 (fx.fx F) (fx.sh S) e90m e95m eo (by omega) b0 (by omega)
  exact ⟨m2, r, fx.m f2, k⟩
theorem w_pA (W : WKF n m t l f) (F : FX m) (S : SH m) (ht : isT m t) (hl : (l : Int) < tex m t 4) (h0 : 0 ≤ how) (h3 : how ≤ 3) (o0 : 0 ≤ o) (o1 : o ≤ 2) (O : m 88 30 = -1) (fx : FRx m m1) (b0 : 0 ≤ m1 88 36) (b1 : m1 88 36 ≤ 7000000) : ∃ m2, vm 296 [(2, 88), (0, t), (0, (l : Int)), (0, how), (0, o)] (n, m1) = some (some (0, f how o), (n, m2)) ∧ FRx m m2 ∧ (m1 88 36 ≤ m2 88 36 ∧ m2 88 36 ≤ m1 88 36 + 256) := by
  have sfr : ∀ a q : Int, ¬ (a = 88 ∧ q = 30) → stm m1 88 30 o a q = m1 a q := fun a q h => by rw [stm_ap, if_neg (by omega)]
  have q90 : stm m1 88 30 o 90 = m 90 := funext fun q => by rw [sfr 90 q (by omega), fx 90 q (by omega)]
  have q95 : stm m1 88 30 o 95 = m 95 := funext fun q => by rw [sfr 95 q (by omega), fx 95 q (by omega)]
  have q30 : stm m1 88 30 o 88 30 = o := stm_same _ _ _ _
  have q36 : stm m1 88 30 o 88 36 = m1 88 36 := sfr 88 36 (by omega)
  have eo : ordM (stm m1 88 30 o) t = o := by
    unfold ordM
    rw [q30, if_neg (by omega)]
  obtain ⟨m2, r, f2, k⟩ := (W how o h0 h3 o0 o1).2.2 (stm m1 88 30 o) ((fx.fx F).fr (fun c k q => sfr c k (by unfold FXP at q; omega))) ((fx.sh S).fr (fun c k q => sfr c k (by unfold SHP at q; omega))) q90 q95 eo (by rw [q30]; omega) (by rw [q36]; exact b0) (by rw [q36]; omega)
  rw [q36] at k
  refine ⟨stm m2 88 30 (-1), p_missesAs r, fun a q h => ?_, ?_⟩
  · by_cases z : a = 88 ∧ q = 30
    · rw [z.1, z.2, stm_same, O]
    · rw [stm_ap, if_neg (by omega), f2 a q (by omega), sfr a q z, fx a q h]
  · rw [stm_ap, if_neg (by omega)]
    exact k
/-- the class's loops -/
theorem c_bw25 (W : WKF n m t l f) (F : FX m) (S : SH m) (ht : isT m t) (hl : (l : Int) < tex m t 4) : ∀ (r : Nat) (k b : Int) (m1 : Mm) (z : Vl), k + r = 4 → 1 ≤ k → FRw m m1 → ∃ m2, vp 151 25 [(2, 1), (0, t), (0, (l : Int)), (0, b), (0, f b (tex m t 5)), (0, k), z] [] (n, m1) = some (some (0, bst (fun j => f j (tex m t 5)) r k b), (n, m2)) ∧ FRw m m2 := by
  intro r
  induction r with
  | zero =>
    intro k b m1 z e k1 fw
    refine ⟨m1, ?_, fw⟩
    rw [e_X11_bestWalk_25, if_pos (by omega)]
    rfl
  | succ r ih =>
    intro k b m1 z e k1 fw
    obtain ⟨m2, r2, fw2⟩ := w_cW W F S ht hl (how := k) (by omega) (by omega) fw
    unfold bst
    try dsimp only
    by_cases g : f k (tex m t 5) ≥ f b (tex m t 5)
    · obtain ⟨m3, r3, fw3⟩ := ih (k + 1) b m2 (0, f k (tex m t 5)) (by omega) (by omega) fw2
      refine ⟨m3, ?_, fw3⟩
      rw [if_pos g, ← r3]
      refine Eq.trans (e_X11_bestWalk_25 ..) ?_
      generalize f k (tex m t 5) = a at *
      generalize f b (tex m t 5) = a' at *
      repeat first
        | (refine Eq.trans (if_pos ?_) ?_; · first | omega | (simp (disch := omega) only [r2, Int.reduceLT, Int.reduceLE, Int.reduceEq, Int.reduceNe, Int.reduceNeg, Int.reduceAdd, Int.reduceSub, Int.reduceMul, Int.reduceGE, Int.reduceGT, Nat.reduceEqDiff, Nat.reduceAdd, and_true, true_and, and_self, not_true_eq_false, not_false_eq_true, ne_eq, and_false, false_and, or_false, or_true, false_or, true_or, vx_some, eq_self, ↓reduceIte, ite_t1, ite_t2, ite_t3, le_T, le_F, lt_T, lt_F, ge_T, ge_F, gt_T, gt_F, eq_T, eq_F, w32_i, kd_1, kd_2, kd_3, kd_4, kd_5, kd_6, kd_7, kd_14, kd_15, kd_16, kd_29, kd_34, kd_56, kd_74, kd_75, kd_76, kd_77, kd_78, kd_79, kd_80, kd_81, kd_82, kd_83, kd_84, kd_85, kd_86, kd_87, kd_88, kd_89, kd_90, kd_91, kd_92, kd_93, kd_94, kd_95, kd_96, kd_97, kd_98, kd_99, kd_100, kd_101, kd_102, kd_103, kd_104, kd_105, kd_106, kd_107, kd_108]; done))
        | (refine Eq.trans (if_neg ?_) ?_; · first | omega | (simp (disch := omega) only [r2, Int.reduceLT, Int.reduceLE, Int.reduceEq, Int.reduceNe, Int.reduceNeg, Int.reduceAdd, Int.reduceSub, Int.reduceMul, Int.reduceGE, Int.reduceGT, Nat.reduceEqDiff, Nat.reduceAdd, and_true, true_and, and_self, not_true_eq_false, not_false_eq_true, ne_eq, and_false, false_and, or_false, or_true, false_or, true_or, vx_some, eq_self, ↓reduceIte, ite_t1, ite_t2, ite_t3, le_T, le_F, lt_T, lt_F, ge_T, ge_F, gt_T, gt_F, eq_T, eq_F, w32_i, kd_1, kd_2, kd_3, kd_4, kd_5, kd_6, kd_7, kd_14, kd_15, kd_16, kd_29, kd_34, kd_56, kd_74, kd_75, kd_76, kd_77, kd_78, kd_79, kd_80, kd_81, kd_82, kd_83, kd_84, kd_85, kd_86, kd_87, kd_88, kd_89, kd_90, kd_91, kd_92, kd_93, kd_94, kd_95, kd_96, kd_97, kd_98, kd_99, kd_100, kd_101, kd_102, kd_103, kd_104, kd_105, kd_106, kd_107, kd_108]; done))
        | (refine Eq.trans (bnd (r := ?_) ?_) ?_; rotate_left 1; (focus (simp (disch := omega) only [r2, Int.reduceLT, Int.reduceLE, Int.reduceEq, Int.reduceNe, Int.reduceNeg, Int.reduceAdd, Int.reduceSub, Int.reduceMul, Int.reduceGE, Int.reduceGT, Nat.reduceEqDiff, Nat.reduceAdd, and_true, true_and, and_self, not_true_eq_false, not_false_eq_true, ne_eq, and_false, false_and, or_false, or_true, false_or, true_or, vx_some, eq_self, ↓reduceIte, ite_t1, ite_t2, ite_t3, le_T, le_F, lt_T, lt_F, ge_T, ge_F, gt_T, gt_F, eq_T, eq_F, w32_i, kd_1, kd_2, kd_3, kd_4, kd_5, kd_6, kd_7, kd_14, kd_15, kd_16, kd_29, kd_34, kd_56, kd_74, kd_75, kd_76, kd_77, kd_78, kd_79, kd_80, kd_81, kd_82, kd_83, kd_84, kd_85, kd_86, kd_87, kd_88, kd_89, kd_90, kd_91, kd_92, kd_93, kd_94, kd_95, kd_96, kd_97, kd_98, kd_99, kd_100, kd_101, kd_102, kd_103, kd_104, kd_105, kd_106, kd_107, kd_108]; exact rfl)); simp only [vx_some])
      simp (disch := omega) only [w32_i]
    · obtain ⟨m3, r3, fw3⟩ := ih (k + 1) k m2 (0, f k (tex m t 5)) (by omega) (by omega) fw2
      refine ⟨m3, ?_, fw3⟩
      rw [if_neg g, ← r3]
      refine Eq.trans (e_X11_bestWalk_25 ..) ?_
      generalize f k (tex m t 5) = a at *
      generalize f b (tex m t 5) = a' at *
      repeat first
        | (refine Eq.trans (if_pos ?_) ?_; · first | omega | (simp (disch := omega) only [r2, Int.reduceLT, Int.reduceLE, Int.reduceEq, Int.reduceNe, Int.reduceNeg, Int.reduceAdd, Int.reduceSub, Int.reduceMul, Int.reduceGE, Int.reduceGT, Nat.reduceEqDiff, Nat.reduceAdd, and_true, true_and, and_self, not_true_eq_false, not_false_eq_true, ne_eq, and_false, false_and, or_false, or_true, false_or, true_or, vx_some, eq_self, ↓reduceIte, ite_t1, ite_t2, ite_t3, le_T, le_F, lt_T, lt_F, ge_T, ge_F, gt_T, gt_F, eq_T, eq_F, w32_i, kd_1, kd_2, kd_3, kd_4, kd_5, kd_6, kd_7, kd_14, kd_15, kd_16, kd_29, kd_34, kd_56, kd_74, kd_75, kd_76, kd_77, kd_78, kd_79, kd_80, kd_81, kd_82, kd_83, kd_84, kd_85, kd_86, kd_87, kd_88, kd_89, kd_90, kd_91, kd_92, kd_93, kd_94, kd_95, kd_96, kd_97, kd_98, kd_99, kd_100, kd_101, kd_102, kd_103, kd_104, kd_105, kd_106, kd_107, kd_108]; done))
        | (refine Eq.trans (if_neg ?_) ?_; · first | omega | (simp (disch := omega) only [r2, Int.reduceLT, Int.reduceLE, Int.reduceEq, Int.reduceNe, Int.reduceNeg, Int.reduceAdd, Int.reduceSub, Int.reduceMul, Int.reduceGE, Int.reduceGT, Nat.reduceEqDiff, Nat.reduceAdd, and_true, true_and, and_self, not_true_eq_false, not_false_eq_true, ne_eq, and_false, false_and, or_false, or_true, false_or, true_or, vx_some, eq_self, ↓reduceIte, ite_t1, ite_t2, ite_t3, le_T, le_F, lt_T, lt_F, ge_T, ge_F, gt_T, gt_F, eq_T, eq_F, w32_i, kd_1, kd_2, kd_3, kd_4, kd_5, kd_6, kd_7, kd_14, kd_15, kd_16, kd_29, kd_34, kd_56, kd_74, kd_75, kd_76, kd_77, kd_78, kd_79, kd_80, kd_81, kd_82, kd_83, kd_84, kd_85, kd_86, kd_87, kd_88, kd_89, kd_90, kd_91, kd_92, kd_93, kd_94, kd_95, kd_96, kd_97, kd_98, kd_99, kd_100, kd_101, kd_102, kd_103, kd_104, kd_105, kd_106, kd_107, kd_108]; done))
        | (refine Eq.trans (bnd (r := ?_) ?_) ?_; rotate_left 1; (focus (simp (disch := omega) only [r2, Int.reduceLT, Int.reduceLE, Int.reduceEq, Int.reduceNe, Int.reduceNeg, Int.reduceAdd, Int.reduceSub, Int.reduceMul, Int.reduceGE, Int.reduceGT, Nat.reduceEqDiff, Nat.reduceAdd, and_true, true_and, and_self, not_true_eq_false, not_false_eq_true, ne_eq, and_false, false_and, or_false, or_true, false_or, true_or, vx_some, eq_self, ↓reduceIte, ite_t1, ite_t2, ite_t3, le_T, le_F, lt_T, lt_F, ge_T, ge_F, gt_T, gt_F, eq_T, eq_F, w32_i, kd_1, kd_2, kd_3, kd_4, kd_5, kd_6, kd_7, kd_14, kd_15, kd_16, kd_29, kd_34, kd_56, kd_74, kd_75, kd_76, kd_77, kd_78, kd_79, kd_80, kd_81, kd_82, kd_83, kd_84, kd_85, kd_86, kd_87, kd_88, kd_89, kd_90, kd_91, kd_92, kd_93, kd_94, kd_95, kd_96, kd_97, kd_98, kd_99, kd_100, kd_101, kd_102, kd_103, kd_104, kd_105, kd_106, kd_107, kd_108]; exact rfl)); simp only [vx_some])
      simp (disch := omega) only [w32_i]
theorem c_bo36 (W : WKF n m t l f) (F : FX m) (S : SH m) (ht : isT m t) (hl : (l : Int) < tex m t 4) (h0 : 0 ≤ how) (h3 : how ≤ 3) : ∀ (r : Nat) (k b : Int) (m1 : Mm) (z : Vl), k + r = 3 → 1 ≤ k → FRw m m1 → ∃ m2, vp 153 36 [(2, 1), (0, t), (0, (l : Int)), (0, how), (0, b), (0, f how b), (0, k), z] [] (n, m1) = some (some (0, bst (f how) r k b), (n, m2)) ∧ FRw m m2 := by
  intro r
  induction r with
  | zero =>
    intro k b m1 z e k1 fw
    refine ⟨m1, ?_, fw⟩
    rw [e_X11_bestOrder_36, if_pos (by omega)]
    rfl
  | succ r ih =>
    intro k b m1 z e k1 fw
    obtain ⟨m2, r2, fw2⟩ := w_cA W F S ht hl h0 h3 (o := k) (by omega) (by omega) fw
    unfold bst
    by_cases g : f how k ≥ f how b
    · obtain ⟨m3, r3, fw3⟩ := ih (k + 1) b m2 (0, f how k) (by omega) (by omega) fw2
      refine ⟨m3, ?_, fw3⟩
      rw [if_pos g, ← r3]
      refine Eq.trans (e_X11_bestOrder_36 ..) ?_
      generalize f how k = a at *
      generalize f how b = a' at *
      repeat first
        | (refine Eq.trans (if_pos ?_) ?_; · first | omega | (simp (disch := omega) only [r2, Int.reduceLT, Int.reduceLE, Int.reduceEq, Int.reduceNe, Int.reduceNeg, Int.reduceAdd, Int.reduceSub, Int.reduceMul, Int.reduceGE, Int.reduceGT, Nat.reduceEqDiff, Nat.reduceAdd, and_true, true_and, and_self, not_true_eq_false, not_false_eq_true, ne_eq, and_false, false_and, or_false, or_true, false_or, true_or, vx_some, eq_self, ↓reduceIte, ite_t1, ite_t2, ite_t3, le_T, le_F, lt_T, lt_F, ge_T, ge_F, gt_T, gt_F, eq_T, eq_F, w32_i, kd_1, kd_2, kd_3, kd_4, kd_5, kd_6, kd_7, kd_14, kd_15, kd_16, kd_29, kd_34, kd_56, kd_74, kd_75, kd_76, kd_77, kd_78, kd_79, kd_80, kd_81, kd_82, kd_83, kd_84, kd_85, kd_86, kd_87, kd_88, kd_89, kd_90, kd_91, kd_92, kd_93, kd_94, kd_95, kd_96, kd_97, kd_98, kd_99, kd_100, kd_101, kd_102, kd_103, kd_104, kd_105, kd_106, kd_107, kd_108]; done))
        | (refine Eq.trans (if_neg ?_) ?_; · first | omega | (simp (disch := omega) only [r2, Int.reduceLT, Int.reduceLE, Int.reduceEq, Int.reduceNe, Int.reduceNeg, Int.reduceAdd, Int.reduceSub, Int.reduceMul, Int.reduceGE, Int.reduceGT, Nat.reduceEqDiff, Nat.reduceAdd, and_true, true_and, and_self, not_true_eq_false, not_false_eq_true, ne_eq, and_false, false_and, or_false, or_true, false_or, true_or, vx_some, eq_self, ↓reduceIte, ite_t1, ite_t2, ite_t3, le_T, le_F, lt_T, lt_F, ge_T, ge_F, gt_T, gt_F, eq_T, eq_F, w32_i, kd_1, kd_2, kd_3, kd_4, kd_5, kd_6, kd_7, kd_14, kd_15, kd_16, kd_29, kd_34, kd_56, kd_74, kd_75, kd_76, kd_77, kd_78, kd_79, kd_80, kd_81, kd_82, kd_83, kd_84, kd_85, kd_86, kd_87, kd_88, kd_89, kd_90, kd_91, kd_92, kd_93, kd_94, kd_95, kd_96, kd_97, kd_98, kd_99, kd_100, kd_101, kd_102, kd_103, kd_104, kd_105, kd_106, kd_107, kd_108]; done))
        | (refine Eq.trans (bnd (r := ?_) ?_) ?_; rotate_left 1; (focus (simp (disch := omega) only [r2, Int.reduceLT, Int.reduceLE, Int.reduceEq, Int.reduceNe, Int.reduceNeg, Int.reduceAdd, Int.reduceSub, Int.reduceMul, Int.reduceGE, Int.reduceGT, Nat.reduceEqDiff, Nat.reduceAdd, and_true, true_and, and_self, not_true_eq_false, not_false_eq_true, ne_eq, and_false, false_and, or_false, or_true, false_or, true_or, vx_some, eq_self, ↓reduceIte, ite_t1, ite_t2, ite_t3, le_T, le_F, lt_T, lt_F, ge_T, ge_F, gt_T, gt_F, eq_T, eq_F, w32_i, kd_1, kd_2, kd_3, kd_4, kd_5, kd_6, kd_7, kd_14, kd_15, kd_16, kd_29, kd_34, kd_56, kd_74, kd_75, kd_76, kd_77, kd_78, kd_79, kd_80, kd_81, kd_82, kd_83, kd_84, kd_85, kd_86, kd_87, kd_88, kd_89, kd_90, kd_91, kd_92, kd_93, kd_94, kd_95, kd_96, kd_97, kd_98, kd_99, kd_100, kd_101, kd_102, kd_103, kd_104, kd_105, kd_106, kd_107, kd_108]; exact rfl)); simp only [vx_some])
      simp (disch := omega) only [w32_i]
    · obtain ⟨m3, r3, fw3⟩ := ih (k + 1) k m2 (0, f how k) (by omega) (by omega) fw2
      refine ⟨m3, ?_, fw3⟩
      rw [if_neg g, ← r3]
      refine Eq.trans (e_X11_bestOrder_36 ..) ?_
      generalize f how k = a at *
      generalize f how b = a' at *
      repeat first
        | (refine Eq.trans (if_pos ?_) ?_; · first | omega | (simp (disch := omega) only [r2, Int.reduceLT, Int.reduceLE, Int.reduceEq, Int.reduceNe, Int.reduceNeg, Int.reduceAdd, Int.reduceSub, Int.reduceMul, Int.reduceGE, Int.reduceGT, Nat.reduceEqDiff, Nat.reduceAdd, and_true, true_and, and_self, not_true_eq_false, not_false_eq_true, ne_eq, and_false, false_and, or_false, or_true, false_or, true_or, vx_some, eq_self, ↓reduceIte, ite_t1, ite_t2, ite_t3, le_T, le_F, lt_T, lt_F, ge_T, ge_F, gt_T, gt_F, eq_T, eq_F, w32_i, kd_1, kd_2, kd_3, kd_4, kd_5, kd_6, kd_7, kd_14, kd_15, kd_16, kd_29, kd_34, kd_56, kd_74, kd_75, kd_76, kd_77, kd_78, kd_79, kd_80, kd_81, kd_82, kd_83, kd_84, kd_85, kd_86, kd_87, kd_88, kd_89, kd_90, kd_91, kd_92, kd_93, kd_94, kd_95, kd_96, kd_97, kd_98, kd_99, kd_100, kd_101, kd_102, kd_103, kd_104, kd_105, kd_106, kd_107, kd_108]; done))
        | (refine Eq.trans (if_neg ?_) ?_; · first | omega | (simp (disch := omega) only [r2, Int.reduceLT, Int.reduceLE, Int.reduceEq, Int.reduceNe, Int.reduceNeg, Int.reduceAdd, Int.reduceSub, Int.reduceMul, Int.reduceGE, Int.reduceGT, Nat.reduceEqDiff, Nat.reduceAdd, and_true, true_and, and_self, not_true_eq_false, not_false_eq_true, ne_eq, and_false, false_and, or_false, or_true, false_or, true_or, vx_some, eq_self, ↓reduceIte, ite_t1, ite_t2, ite_t3, le_T, le_F, lt_T, lt_F, ge_T, ge_F, gt_T, gt_F, eq_T, eq_F, w32_i, kd_1, kd_2, kd_3, kd_4, kd_5, kd_6, kd_7, kd_14, kd_15, kd_16, kd_29, kd_34, kd_56, kd_74, kd_75, kd_76, kd_77, kd_78, kd_79, kd_80, kd_81, kd_82, kd_83, kd_84, kd_85, kd_86, kd_87, kd_88, kd_89, kd_90, kd_91, kd_92, kd_93, kd_94, kd_95, kd_96, kd_97, kd_98, kd_99, kd_100, kd_101, kd_102, kd_103, kd_104, kd_105, kd_106, kd_107, kd_108]; done))
        | (refine Eq.trans (bnd (r := ?_) ?_) ?_; rotate_left 1; (focus (simp (disch := omega) only [r2, Int.reduceLT, Int.reduceLE, Int.reduceEq, Int.reduceNe, Int.reduceNeg, Int.reduceAdd, Int.reduceSub, Int.reduceMul, Int.reduceGE, Int.reduceGT, Nat.reduceEqDiff, Nat.reduceAdd, and_true, true_and, and_self, not_true_eq_false, not_false_eq_true, ne_eq, and_false, false_and, or_false, or_true, false_or, true_or, vx_some, eq_self, ↓reduceIte, ite_t1, ite_t2, ite_t3, le_T, le_F, lt_T, lt_F, ge_T, ge_F, gt_T, gt_F, eq_T, eq_F, w32_i, kd_1, kd_2, kd_3, kd_4, kd_5, kd_6, kd_7, kd_14, kd_15, kd_16, kd_29, kd_34, kd_56, kd_74, kd_75, kd_76, kd_77, kd_78, kd_79, kd_80, kd_81, kd_82, kd_83, kd_84, kd_85, kd_86, kd_87, kd_88, kd_89, kd_90, kd_91, kd_92, kd_93, kd_94, kd_95, kd_96, kd_97, kd_98, kd_99, kd_100, kd_101, kd_102, kd_103, kd_104, kd_105, kd_106, kd_107, kd_108]; exact rfl)); simp only [vx_some])
      simp (disch := omega) only [w32_i]
/-- the model's loops -/
theorem p_bw25 (W : WKF n m t l f) (F : FX m) (S : SH m) (ht : isT m t) (hl : (l : Int) < tex m t 4) (O : m 88 30 = -1) : ∀ (r : Nat) (k b : Int) (m1 : Mm) (z : Vl), k + r = 4 → 1 ≤ k → FRx m m1 → 0 ≤ m1 88 36 → m1 88 36 + 256 * r ≤ 7000000 → ∃ m2, vp 300 25 [(2, 88), (0, t), (0, (l : Int)), (0, b), (0, f b (tex m t 5)), (0, k), z] [] (n, m1) = some (some (0, bst (fun j => f j (tex m t 5)) r k b), (n, m2)) ∧ FRx m m2 ∧ (m1 88 36 ≤ m2 88 36 ∧ m2 88 36 ≤ m1 88 36 + 256 * r) := by
  intro r
  induction r with
  | zero =>
    intro k b m1 z e k1 fw b0 b1
    refine ⟨m1, ?_, fw, by omega⟩
    rw [e_X12_bestWalk_25, if_pos (by omega)]
    rfl
  | succ r ih =>
    intro k b m1 z e k1 fw b0 b1
    obtain ⟨m2, r2, fw2, c2⟩ := w_pW W F S ht hl (how := k) (by omega) (by omega) O fw b0 (by omega)
    unfold bst
    try dsimp only
    by_cases g : f k (tex m t 5) ≥ f b (tex m t 5)
    · obtain ⟨m3, r3, fw3, c3⟩ := ih (k + 1) b m2 (0, f k (tex m t 5)) (by omega) (by omega) fw2 (by omega) (by omega)
      refine ⟨m3, ?_, fw3, by omega⟩
      rw [if_pos g, ← r3]
      refine Eq.trans (e_X12_bestWalk_25 ..) ?_
      generalize f k (tex m t 5) = a at *
      generalize f b (tex m t 5) = a' at *
      repeat first
        | (refine Eq.trans (if_pos ?_) ?_; · first | omega | (simp (disch := omega) only [r2, Int.reduceLT, Int.reduceLE, Int.reduceEq, Int.reduceNe, Int.reduceNeg, Int.reduceAdd, Int.reduceSub, Int.reduceMul, Int.reduceGE, Int.reduceGT, Nat.reduceEqDiff, Nat.reduceAdd, and_true, true_and, and_self, not_true_eq_false, not_false_eq_true, ne_eq, and_false, false_and, or_false, or_true, false_or, true_or, vx_some, eq_self, ↓reduceIte, ite_t1, ite_t2, ite_t3, le_T, le_F, lt_T, lt_F, ge_T, ge_F, gt_T, gt_F, eq_T, eq_F, w32_i, kd_1, kd_2, kd_3, kd_4, kd_5, kd_6, kd_7, kd_14, kd_15, kd_16, kd_29, kd_34, kd_56, kd_74, kd_75, kd_76, kd_77, kd_78, kd_79, kd_80, kd_81, kd_82, kd_83, kd_84, kd_85, kd_86, kd_87, kd_88, kd_89, kd_90, kd_91, kd_92, kd_93, kd_94, kd_95, kd_96, kd_97, kd_98, kd_99, kd_100, kd_101, kd_102, kd_103, kd_104, kd_105, kd_106, kd_107, kd_108]; done))
        | (refine Eq.trans (if_neg ?_) ?_; · first | omega | (simp (disch := omega) only [r2, Int.reduceLT, Int.reduceLE, Int.reduceEq, Int.reduceNe, Int.reduceNeg, Int.reduceAdd, Int.reduceSub, Int.reduceMul, Int.reduceGE, Int.reduceGT, Nat.reduceEqDiff, Nat.reduceAdd, and_true, true_and, and_self, not_true_eq_false, not_false_eq_true, ne_eq, and_false, false_and, or_false, or_true, false_or, true_or, vx_some, eq_self, ↓reduceIte, ite_t1, ite_t2, ite_t3, le_T, le_F, lt_T, lt_F, ge_T, ge_F, gt_T, gt_F, eq_T, eq_F, w32_i, kd_1, kd_2, kd_3, kd_4, kd_5, kd_6, kd_7, kd_14, kd_15, kd_16, kd_29, kd_34, kd_56, kd_74, kd_75, kd_76, kd_77, kd_78, kd_79, kd_80, kd_81, kd_82, kd_83, kd_84, kd_85, kd_86, kd_87, kd_88, kd_89, kd_90, kd_91, kd_92, kd_93, kd_94, kd_95, kd_96, kd_97, kd_98, kd_99, kd_100, kd_101, kd_102, kd_103, kd_104, kd_105, kd_106, kd_107, kd_108]; done))
        | (refine Eq.trans (bnd (r := ?_) ?_) ?_; rotate_left 1; (focus (simp (disch := omega) only [r2, Int.reduceLT, Int.reduceLE, Int.reduceEq, Int.reduceNe, Int.reduceNeg, Int.reduceAdd, Int.reduceSub, Int.reduceMul, Int.reduceGE, Int.reduceGT, Nat.reduceEqDiff, Nat.reduceAdd, and_true, true_and, and_self, not_true_eq_false, not_false_eq_true, ne_eq, and_false, false_and, or_false, or_true, false_or, true_or, vx_some, eq_self, ↓reduceIte, ite_t1, ite_t2, ite_t3, le_T, le_F, lt_T, lt_F, ge_T, ge_F, gt_T, gt_F, eq_T, eq_F, w32_i, kd_1, kd_2, kd_3, kd_4, kd_5, kd_6, kd_7, kd_14, kd_15, kd_16, kd_29, kd_34, kd_56, kd_74, kd_75, kd_76, kd_77, kd_78, kd_79, kd_80, kd_81, kd_82, kd_83, kd_84, kd_85, kd_86, kd_87, kd_88, kd_89, kd_90, kd_91, kd_92, kd_93, kd_94, kd_95, kd_96, kd_97, kd_98, kd_99, kd_100, kd_101, kd_102, kd_103, kd_104, kd_105, kd_106, kd_107, kd_108]; exact rfl)); simp only [vx_some])
      simp (disch := omega) only [w32_i]
    · obtain ⟨m3, r3, fw3, c3⟩ := ih (k + 1) k m2 (0, f k (tex m t 5)) (by omega) (by omega) fw2 (by omega) (by omega)
      refine ⟨m3, ?_, fw3, by omega⟩
      rw [if_neg g, ← r3]
      refine Eq.trans (e_X12_bestWalk_25 ..) ?_
      generalize f k (tex m t 5) = a at *
      generalize f b (tex m t 5) = a' at *
      repeat first
        | (refine Eq.trans (if_pos ?_) ?_; · first | omega | (simp (disch := omega) only [r2, Int.reduceLT, Int.reduceLE, Int.reduceEq, Int.reduceNe, Int.reduceNeg, Int.reduceAdd, Int.reduceSub, Int.reduceMul, Int.reduceGE, Int.reduceGT, Nat.reduceEqDiff, Nat.reduceAdd, and_true, true_and, and_self, not_true_eq_false, not_false_eq_true, ne_eq, and_false, false_and, or_false, or_true, false_or, true_or, vx_some, eq_self, ↓reduceIte, ite_t1, ite_t2, ite_t3, le_T, le_F, lt_T, lt_F, ge_T, ge_F, gt_T, gt_F, eq_T, eq_F, w32_i, kd_1, kd_2, kd_3, kd_4, kd_5, kd_6, kd_7, kd_14, kd_15, kd_16, kd_29, kd_34, kd_56, kd_74, kd_75, kd_76, kd_77, kd_78, kd_79, kd_80, kd_81, kd_82, kd_83, kd_84, kd_85, kd_86, kd_87, kd_88, kd_89, kd_90, kd_91, kd_92, kd_93, kd_94, kd_95, kd_96, kd_97, kd_98, kd_99, kd_100, kd_101, kd_102, kd_103, kd_104, kd_105, kd_106, kd_107, kd_108]; done))
        | (refine Eq.trans (if_neg ?_) ?_; · first | omega | (simp (disch := omega) only [r2, Int.reduceLT, Int.reduceLE, Int.reduceEq, Int.reduceNe, Int.reduceNeg, Int.reduceAdd, Int.reduceSub, Int.reduceMul, Int.reduceGE, Int.reduceGT, Nat.reduceEqDiff, Nat.reduceAdd, and_true, true_and, and_self, not_true_eq_false, not_false_eq_true, ne_eq, and_false, false_and, or_false, or_true, false_or, true_or, vx_some, eq_self, ↓reduceIte, ite_t1, ite_t2, ite_t3, le_T, le_F, lt_T, lt_F, ge_T, ge_F, gt_T, gt_F, eq_T, eq_F, w32_i, kd_1, kd_2, kd_3, kd_4, kd_5, kd_6, kd_7, kd_14, kd_15, kd_16, kd_29, kd_34, kd_56, kd_74, kd_75, kd_76, kd_77, kd_78, kd_79, kd_80, kd_81, kd_82, kd_83, kd_84, kd_85, kd_86, kd_87, kd_88, kd_89, kd_90, kd_91, kd_92, kd_93, kd_94, kd_95, kd_96, kd_97, kd_98, kd_99, kd_100, kd_101, kd_102, kd_103, kd_104, kd_105, kd_106, kd_107, kd_108]; done))
        | (refine Eq.trans (bnd (r := ?_) ?_) ?_; rotate_left 1; (focus (simp (disch := omega) only [r2, Int.reduceLT, Int.reduceLE, Int.reduceEq, Int.reduceNe, Int.reduceNeg, Int.reduceAdd, Int.reduceSub, Int.reduceMul, Int.reduceGE, Int.reduceGT, Nat.reduceEqDiff, Nat.reduceAdd, and_true, true_and, and_self, not_true_eq_false, not_false_eq_true, ne_eq, and_false, false_and, or_false, or_true, false_or, true_or, vx_some, eq_self, ↓reduceIte, ite_t1, ite_t2, ite_t3, le_T, le_F, lt_T, lt_F, ge_T, ge_F, gt_T, gt_F, eq_T, eq_F, w32_i, kd_1, kd_2, kd_3, kd_4, kd_5, kd_6, kd_7, kd_14, kd_15, kd_16, kd_29, kd_34, kd_56, kd_74, kd_75, kd_76, kd_77, kd_78, kd_79, kd_80, kd_81, kd_82, kd_83, kd_84, kd_85, kd_86, kd_87, kd_88, kd_89, kd_90, kd_91, kd_92, kd_93, kd_94, kd_95, kd_96, kd_97, kd_98, kd_99, kd_100, kd_101, kd_102, kd_103, kd_104, kd_105, kd_106, kd_107, kd_108]; exact rfl)); simp only [vx_some])
      simp (disch := omega) only [w32_i]
theorem p_bo18 (W : WKF n m t l f) (F : FX m) (S : SH m) (ht : isT m t) (hl : (l : Int) < tex m t 4) (h0 : 0 ≤ how) (h3 : how ≤ 3) (O : m 88 30 = -1) : ∀ (r : Nat) (k b : Int) (m1 : Mm), k + r = 3 → 1 ≤ k → (0 ≤ b ∧ b < k) → FRx m m1 → 0 ≤ m1 88 36 → m1 88 36 + 512 * r ≤ 7000000 → ∃ m2, vp 299 18 [(2, 88), (0, t), (0, (l : Int)), (0, how), (0, b), (0, k)] [] (n, m1) = some (some (0, bst (f how) r k b), (n, m2)) ∧ FRx m m2 ∧ (m1 88 36 ≤ m2 88 36 ∧ m2 88 36 ≤ m1 88 36 + 512 * r) := by
  intro r
  induction r with
  | zero =>
    intro k b m1 e k1 kb fw b0 b1
    refine ⟨m1, ?_, fw, by omega⟩
    rw [e_X12_bestOrder_18, if_pos (by omega)]
    rfl
  | succ r ih =>
    intro k b m1 e k1 kb fw b0 b1
    obtain ⟨m2, r2, fw2, c2⟩ := w_pA W F S ht hl h0 h3 (o := k) (by omega) (by omega) O fw b0 (by omega)
    obtain ⟨m4, r4, fw4, c4⟩ := w_pA W F S ht hl h0 h3 (o := b) (by omega) (by omega) O fw2 (by omega) (by omega)
    unfold bst
    by_cases g : f how k ≥ f how b
    · obtain ⟨m3, r3, fw3, c3⟩ := ih (k + 1) b m4 (by omega) (by omega) (by omega) fw4 (by omega) (by omega)
      refine ⟨m3, ?_, fw3, by omega⟩
      rw [if_pos g, ← r3]
      refine Eq.trans (e_X12_bestOrder_18 ..) ?_
      generalize f how k = a at *
      generalize f how b = a' at *
      repeat first
        | (refine Eq.trans (if_pos ?_) ?_; · first | omega | (simp (disch := omega) only [r2, r4, Int.reduceLT, Int.reduceLE, Int.reduceEq, Int.reduceNe, Int.reduceNeg, Int.reduceAdd, Int.reduceSub, Int.reduceMul, Int.reduceGE, Int.reduceGT, Nat.reduceEqDiff, Nat.reduceAdd, and_true, true_and, and_self, not_true_eq_false, not_false_eq_true, ne_eq, and_false, false_and, or_false, or_true, false_or, true_or, vx_some, eq_self, ↓reduceIte, ite_t1, ite_t2, ite_t3, le_T, le_F, lt_T, lt_F, ge_T, ge_F, gt_T, gt_F, eq_T, eq_F, w32_i, kd_1, kd_2, kd_3, kd_4, kd_5, kd_6, kd_7, kd_14, kd_15, kd_16, kd_29, kd_34, kd_56, kd_74, kd_75, kd_76, kd_77, kd_78, kd_79, kd_80, kd_81, kd_82, kd_83, kd_84, kd_85, kd_86, kd_87, kd_88, kd_89, kd_90, kd_91, kd_92, kd_93, kd_94, kd_95, kd_96, kd_97, kd_98, kd_99, kd_100, kd_101, kd_102, kd_103, kd_104, kd_105, kd_106, kd_107, kd_108]; done))
        | (refine Eq.trans (if_neg ?_) ?_; · first | omega | (simp (disch := omega) only [r2, r4, Int.reduceLT, Int.reduceLE, Int.reduceEq, Int.reduceNe, Int.reduceNeg, Int.reduceAdd, Int.reduceSub, Int.reduceMul, Int.reduceGE, Int.reduceGT, Nat.reduceEqDiff, Nat.reduceAdd, and_true, true_and, and_self, not_true_eq_false, not_false_eq_true, ne_eq, and_false, false_and, or_false, or_true, false_or, true_or, vx_some, eq_self, ↓reduceIte, ite_t1, ite_t2, ite_t3, le_T, le_F, lt_T, lt_F, ge_T, ge_F, gt_T, gt_F, eq_T, eq_F, w32_i, kd_1, kd_2, kd_3, kd_4, kd_5, kd_6, kd_7, kd_14, kd_15, kd_16, kd_29, kd_34, kd_56, kd_74, kd_75, kd_76, kd_77, kd_78, kd_79, kd_80, kd_81, kd_82, kd_83, kd_84, kd_85, kd_86, kd_87, kd_88, kd_89, kd_90, kd_91, kd_92, kd_93, kd_94, kd_95, kd_96, kd_97, kd_98, kd_99, kd_100, kd_101, kd_102, kd_103, kd_104, kd_105, kd_106, kd_107, kd_108]; done))
        | (refine Eq.trans (bnd (r := ?_) ?_) ?_; rotate_left 1; (focus (simp (disch := omega) only [r2, r4, Int.reduceLT, Int.reduceLE, Int.reduceEq, Int.reduceNe, Int.reduceNeg, Int.reduceAdd, Int.reduceSub, Int.reduceMul, Int.reduceGE, Int.reduceGT, Nat.reduceEqDiff, Nat.reduceAdd, and_true, true_and, and_self, not_true_eq_false, not_false_eq_true, ne_eq, and_false, false_and, or_false, or_true, false_or, true_or, vx_some, eq_self, ↓reduceIte, ite_t1, ite_t2, ite_t3, le_T, le_F, lt_T, lt_F, ge_T, ge_F, gt_T, gt_F, eq_T, eq_F, w32_i, kd_1, kd_2, kd_3, kd_4, kd_5, kd_6, kd_7, kd_14, kd_15, kd_16, kd_29, kd_34, kd_56, kd_74, kd_75, kd_76, kd_77, kd_78, kd_79, kd_80, kd_81, kd_82, kd_83, kd_84, kd_85, kd_86, kd_87, kd_88, kd_89, kd_90, kd_91, kd_92, kd_93, kd_94, kd_95, kd_96, kd_97, kd_98, kd_99, kd_100, kd_101, kd_102, kd_103, kd_104, kd_105, kd_106, kd_107, kd_108]; exact rfl)); simp only [vx_some])
      simp (disch := omega) only [w32_i]
    · obtain ⟨m3, r3, fw3, c3⟩ := ih (k + 1) k m4 (by omega) (by omega) (by omega) fw4 (by omega) (by omega)
      refine ⟨m3, ?_, fw3, by omega⟩
      rw [if_neg g, ← r3]
      refine Eq.trans (e_X12_bestOrder_18 ..) ?_
      generalize f how k = a at *
      generalize f how b = a' at *
      repeat first
        | (refine Eq.trans (if_pos ?_) ?_; · first | omega | (simp (disch := omega) only [r2, r4, Int.reduceLT, Int.reduceLE, Int.reduceEq, Int.reduceNe, Int.reduceNeg, Int.reduceAdd, Int.reduceSub, Int.reduceMul, Int.reduceGE, Int.reduceGT, Nat.reduceEqDiff, Nat.reduceAdd, and_true, true_and, and_self, not_true_eq_false, not_false_eq_true, ne_eq, and_false, false_and, or_false, or_true, false_or, true_or, vx_some, eq_self, ↓reduceIte, ite_t1, ite_t2, ite_t3, le_T, le_F, lt_T, lt_F, ge_T, ge_F, gt_T, gt_F, eq_T, eq_F, w32_i, kd_1, kd_2, kd_3, kd_4, kd_5, kd_6, kd_7, kd_14, kd_15, kd_16, kd_29, kd_34, kd_56, kd_74, kd_75, kd_76, kd_77, kd_78, kd_79, kd_80, kd_81, kd_82, kd_83, kd_84, kd_85, kd_86, kd_87, kd_88, kd_89, kd_90, kd_91, kd_92, kd_93, kd_94, kd_95, kd_96, kd_97, kd_98, kd_99, kd_100, kd_101, kd_102, kd_103, kd_104, kd_105, kd_106, kd_107, kd_108]; done))
        | (refine Eq.trans (if_neg ?_) ?_; · first | omega | (simp (disch := omega) only [r2, r4, Int.reduceLT, Int.reduceLE, Int.reduceEq, Int.reduceNe, Int.reduceNeg, Int.reduceAdd, Int.reduceSub, Int.reduceMul, Int.reduceGE, Int.reduceGT, Nat.reduceEqDiff, Nat.reduceAdd, and_true, true_and, and_self, not_true_eq_false, not_false_eq_true, ne_eq, and_false, false_and, or_false, or_true, false_or, true_or, vx_some, eq_self, ↓reduceIte, ite_t1, ite_t2, ite_t3, le_T, le_F, lt_T, lt_F, ge_T, ge_F, gt_T, gt_F, eq_T, eq_F, w32_i, kd_1, kd_2, kd_3, kd_4, kd_5, kd_6, kd_7, kd_14, kd_15, kd_16, kd_29, kd_34, kd_56, kd_74, kd_75, kd_76, kd_77, kd_78, kd_79, kd_80, kd_81, kd_82, kd_83, kd_84, kd_85, kd_86, kd_87, kd_88, kd_89, kd_90, kd_91, kd_92, kd_93, kd_94, kd_95, kd_96, kd_97, kd_98, kd_99, kd_100, kd_101, kd_102, kd_103, kd_104, kd_105, kd_106, kd_107, kd_108]; done))
        | (refine Eq.trans (bnd (r := ?_) ?_) ?_; rotate_left 1; (focus (simp (disch := omega) only [r2, r4, Int.reduceLT, Int.reduceLE, Int.reduceEq, Int.reduceNe, Int.reduceNeg, Int.reduceAdd, Int.reduceSub, Int.reduceMul, Int.reduceGE, Int.reduceGT, Nat.reduceEqDiff, Nat.reduceAdd, and_true, true_and, and_self, not_true_eq_false, not_false_eq_true, ne_eq, and_false, false_and, or_false, or_true, false_or, true_or, vx_some, eq_self, ↓reduceIte, ite_t1, ite_t2, ite_t3, le_T, le_F, lt_T, lt_F, ge_T, ge_F, gt_T, gt_F, eq_T, eq_F, w32_i, kd_1, kd_2, kd_3, kd_4, kd_5, kd_6, kd_7, kd_14, kd_15, kd_16, kd_29, kd_34, kd_56, kd_74, kd_75, kd_76, kd_77, kd_78, kd_79, kd_80, kd_81, kd_82, kd_83, kd_84, kd_85, kd_86, kd_87, kd_88, kd_89, kd_90, kd_91, kd_92, kd_93, kd_94, kd_95, kd_96, kd_97, kd_98, kd_99, kd_100, kd_101, kd_102, kd_103, kd_104, kd_105, kd_106, kd_107, kd_108]; exact rfl)); simp only [vx_some])
      simp (disch := omega) only [w32_i]
end
