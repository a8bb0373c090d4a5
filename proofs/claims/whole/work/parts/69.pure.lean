/-! THE PURE PART: pour; the model's way -/
theorem c_pourX {n : Int} {M : Mm} {T t : Int} (Z : CTX M T t) (r : Int → Int) {a b c : Int} {y : Nat} (y1 : (y : Int) < tex M t 3) {W : Nat} (hW : (W : Int) = tex M t 2) : ∀ k x : Nat, x + k = W → vp 99 15 [(2, T), (0, a), (0, b), (0, c), (0, (y : Int)), (0, (x : Int))] [] (n, stc M (8 + tex M t 0) (flX M t a b c y x r)) = vp 99 3 [(2, T), (0, a), (0, b), (0, c), (0, ((y + 1 : Nat) : Int)), (0, (W : Int))] [] (n, stc M (8 + tex M t 0) (flX M t a b c y W r)) := by
  have Y := Z.2.1.lv Z.2.2.2
  intro k
  induction k with
  | zero =>
    intro x e
    have : x = W := by omega
    subst this
    obtain ⟨⟨B, X, K, ht⟩, et, e3, e4, e5, e0⟩ := Z.r (flX M t a b c y x r)
    have RB := B.r
    have k0 := B.k0
    have f7 := B.f7
    rw [et, ← hW] at f7
    rw [e_X10_pour_15]
    repeat first
      | (refine Eq.trans (if_pos ?_) ?_; · first | omega | (simp (disch := omega) only [k0, f7, Int.reduceLT, Int.reduceLE, Int.reduceEq, Int.reduceNe, Int.reduceNeg, Int.reduceAdd, Int.reduceSub, Int.reduceMul, Int.reduceGE, Int.reduceGT, Nat.reduceEqDiff, Nat.reduceAdd, and_true, true_and, and_self, not_true_eq_false, not_false_eq_true, ne_eq, and_false, false_and, or_false, or_true, false_or, true_or, vx_some, eq_self, ↓reduceIte, ite_t1, ite_t2, ite_t3, le_T, le_F, lt_T, lt_F, ge_T, ge_F, gt_T, gt_F, eq_T, eq_F, w32_i, kd_1, kd_2, kd_3, kd_4, kd_5, kd_6, kd_7, kd_14, kd_15, kd_16, kd_29, kd_34, kd_56, kd_74, kd_75, kd_76, kd_77, kd_78, kd_79, kd_80, kd_81, kd_82, kd_83, kd_84, kd_85, kd_86, kd_87, kd_88, kd_89, kd_90, kd_91, kd_92, kd_93, kd_94, kd_95, kd_96, kd_97, kd_98, kd_99, kd_100, kd_101, kd_102, kd_103, kd_104, kd_105, kd_106, kd_107, kd_108]; done))
      | (refine Eq.trans (if_neg ?_) ?_; · first | omega | (simp (disch := omega) only [k0, f7, Int.reduceLT, Int.reduceLE, Int.reduceEq, Int.reduceNe, Int.reduceNeg, Int.reduceAdd, Int.reduceSub, Int.reduceMul, Int.reduceGE, Int.reduceGT, Nat.reduceEqDiff, Nat.reduceAdd, and_true, true_and, and_self, not_true_eq_false, not_false_eq_true, ne_eq, and_false, false_and, or_false, or_true, false_or, true_or, vx_some, eq_self, ↓reduceIte, ite_t1, ite_t2, ite_t3, le_T, le_F, lt_T, lt_F, ge_T, ge_F, gt_T, gt_F, eq_T, eq_F, w32_i, kd_1, kd_2, kd_3, kd_4, kd_5, kd_6, kd_7, kd_14, kd_15, kd_16, kd_29, kd_34, kd_56, kd_74, kd_75, kd_76, kd_77, kd_78, kd_79, kd_80, kd_81, kd_82, kd_83, kd_84, kd_85, kd_86, kd_87, kd_88, kd_89, kd_90, kd_91, kd_92, kd_93, kd_94, kd_95, kd_96, kd_97, kd_98, kd_99, kd_100, kd_101, kd_102, kd_103, kd_104, kd_105, kd_106, kd_107, kd_108]; done))
      | (refine Eq.trans (bnd (r := ?_) ?_) ?_; rotate_left 1; (focus (simp (disch := omega) only [k0, f7, Int.reduceLT, Int.reduceLE, Int.reduceEq, Int.reduceNe, Int.reduceNeg, Int.reduceAdd, Int.reduceSub, Int.reduceMul, Int.reduceGE, Int.reduceGT, Nat.reduceEqDiff, Nat.reduceAdd, and_true, true_and, and_self, not_true_eq_false, not_false_eq_true, ne_eq, and_false, false_and, or_false, or_true, false_or, true_or, vx_some, eq_self, ↓reduceIte, ite_t1, ite_t2, ite_t3, le_T, le_F, lt_T, lt_F, ge_T, ge_F, gt_T, gt_F, eq_T, eq_F, w32_i, kd_1, kd_2, kd_3, kd_4, kd_5, kd_6, kd_7, kd_14, kd_15, kd_16, kd_29, kd_34, kd_56, kd_74, kd_75, kd_76, kd_77, kd_78, kd_79, kd_80, kd_81, kd_82, kd_83, kd_84, kd_85, kd_86, kd_87, kd_88, kd_89, kd_90, kd_91, kd_92, kd_93, kd_94, kd_95, kd_96, kd_97, kd_98, kd_99, kd_100, kd_101, kd_102, kd_103, kd_104, kd_105, kd_106, kd_107, kd_108]; exact rfl)); simp only [vx_some])
    rw [w32_i (by omega) (by omega)]
    rfl
  | succ k ih =>
    intro x e
    obtain ⟨⟨B, X, K, ht⟩, et, e3, e4, e5, e0⟩ := Z.r (flX M t a b c y x r)
    have RB := B.r
    have k0 := B.k0
    have f7 := B.f7
    rw [et, ← hW] at f7
    have hx : isX M t 0 x y := ⟨Z.2.2.2, by omega, ⟨by omega, by rw [hv_0 (by omega)]; omega⟩, by omega, by rw [hv_0 (by omega)]; omega⟩
    have cs := c_setT (n := n) Z (flX M t a b c y x r) hx (pv a b c x y)
    have ih' := ih (x + 1) (by omega)
    have es : flX M t a b c y (x + 1) r = up1 (flX M t a b c y x r) (plO M t (tex M t 5) 0 x y) (ctk (M 93 (tex M t 0)) (pv a b c x y)) := rfl
    rw [es] at ih'
    have ep : ∀ _ : Unit, w32 ((w32 ((w32 (a * (x : Int))) + (w32 (b * (y : Int))))) + c) = pv a b c x y := fun _ => rfl
    rw [e_X10_pour_15, ep ()]
    clear ep hx es
    rw [show (((0 : Nat) : Int)) = 0 from rfl] at cs
    repeat first
      | (refine Eq.trans (if_pos ?_) ?_; · first | omega | (simp (disch := omega) only [k0, f7, cs, Int.reduceLT, Int.reduceLE, Int.reduceEq, Int.reduceNe, Int.reduceNeg, Int.reduceAdd, Int.reduceSub, Int.reduceMul, Int.reduceGE, Int.reduceGT, Nat.reduceEqDiff, Nat.reduceAdd, and_true, true_and, and_self, not_true_eq_false, not_false_eq_true, ne_eq, and_false, false_and, or_false, or_true, false_or, true_or, vx_some, eq_self, ↓reduceIte, ite_t1, ite_t2, ite_t3, le_T, le_F, lt_T, lt_F, ge_T, ge_F, gt_T, gt_F, eq_T, eq_F, w32_i, kd_1, kd_2, kd_3, kd_4, kd_5, kd_6, kd_7, kd_14, kd_15, kd_16, kd_29, kd_34, kd_56, kd_74, kd_75, kd_76, kd_77, kd_78, kd_79, kd_80, kd_81, kd_82, kd_83, kd_84, kd_85, kd_86, kd_87, kd_88, kd_89, kd_90, kd_91, kd_92, kd_93, kd_94, kd_95, kd_96, kd_97, kd_98, kd_99, kd_100, kd_101, kd_102, kd_103, kd_104, kd_105, kd_106, kd_107, kd_108]; done))
      | (refine Eq.trans (if_neg ?_) ?_; · first | omega | (simp (disch := omega) only [k0, f7, cs, Int.reduceLT, Int.reduceLE, Int.reduceEq, Int.reduceNe, Int.reduceNeg, Int.reduceAdd, Int.reduceSub, Int.reduceMul, Int.reduceGE, Int.reduceGT, Nat.reduceEqDiff, Nat.reduceAdd, and_true, true_and, and_self, not_true_eq_false, not_false_eq_true, ne_eq, and_false, false_and, or_false, or_true, false_or, true_or, vx_some, eq_self, ↓reduceIte, ite_t1, ite_t2, ite_t3, le_T, le_F, lt_T, lt_F, ge_T, ge_F, gt_T, gt_F, eq_T, eq_F, w32_i, kd_1, kd_2, kd_3, kd_4, kd_5, kd_6, kd_7, kd_14, kd_15, kd_16, kd_29, kd_34, kd_56, kd_74, kd_75, kd_76, kd_77, kd_78, kd_79, kd_80, kd_81, kd_82, kd_83, kd_84, kd_85, kd_86, kd_87, kd_88, kd_89, kd_90, kd_91, kd_92, kd_93, kd_94, kd_95, kd_96, kd_97, kd_98, kd_99, kd_100, kd_101, kd_102, kd_103, kd_104, kd_105, kd_106, kd_107, kd_108]; done))
      | (refine Eq.trans (bnd (r := ?_) ?_) ?_; rotate_left 1; (focus (simp (disch := omega) only [k0, f7, cs, Int.reduceLT, Int.reduceLE, Int.reduceEq, Int.reduceNe, Int.reduceNeg, Int.reduceAdd, Int.reduceSub, Int.reduceMul, Int.reduceGE, Int.reduceGT, Nat.reduceEqDiff, Nat.reduceAdd, and_true, true_and, and_self, not_true_eq_false, not_false_eq_true, ne_eq, and_false, false_and, or_false, or_true, false_or, true_or, vx_some, eq_self, ↓reduceIte, ite_t1, ite_t2, ite_t3, le_T, le_F, lt_T, lt_F, ge_T, ge_F, gt_T, gt_F, eq_T, eq_F, w32_i, kd_1, kd_2, kd_3, kd_4, kd_5, kd_6, kd_7, kd_14, kd_15, kd_16, kd_29, kd_34, kd_56, kd_74, kd_75, kd_76, kd_77, kd_78, kd_79, kd_80, kd_81, kd_82, kd_83, kd_84, kd_85, kd_86, kd_87, kd_88, kd_89, kd_90, kd_91, kd_92, kd_93, kd_94, kd_95, kd_96, kd_97, kd_98, kd_99, kd_100, kd_101, kd_102, kd_103, kd_104, kd_105, kd_106, kd_107, kd_108]; exact rfl)); simp only [vx_some])
    rw [w32_i (by omega) (by omega)]
    exact ih'
theorem c_pourY {n : Int} {M : Mm} {T t : Int} (Z : CTX M T t) {r0 r : Int → Int} (P : PR M t r0 r) {a b c : Int} (ha : -9999 ≤ a ∧ a ≤ 9999) (hb : -9999 ≤ b ∧ b ≤ 9999) (hc : -9999 ≤ c ∧ c ≤ 9999) {H : Nat} (hH : (H : Int) = tex M t 3) : ∀ (k y : Nat) (z : Vl), y + k = H → vp 99 3 [(2, T), (0, a), (0, b), (0, c), (0, (y : Int)), z] [] (n, stc M (8 + tex M t 0) (flY M t a b c y r)) = some (none, (n, stc M (8 + tex M t 0) (mkL M t ((tex M t 4).toNat - 1) (flY M t a b c H r)))) := by
  have Y := Z.2.1.lv Z.2.2.2
  intro k
  induction k with
  | zero =>
    intro y z e
    have : y = H := by omega
    subst this
    obtain ⟨⟨B, X, K, ht⟩, et, e3, e4, e5, e0⟩ := Z.r (flY M t a b c y r)
    have RB := B.r
    have k0 := B.k0
    have f8 := B.f8
    rw [et, ← hH] at f8
    have Py := P.flY Z.2.1 Z.2.2.1 Z.2.2.2 ha hb hc y (by omega)
    have rm := c_remake (n := n) Z Py
    rw [e_X10_pour_3]
    repeat first
      | (refine Eq.trans (if_pos ?_) ?_; · first | omega | (simp (disch := omega) only [k0, f8, rm, Int.reduceLT, Int.reduceLE, Int.reduceEq, Int.reduceNe, Int.reduceNeg, Int.reduceAdd, Int.reduceSub, Int.reduceMul, Int.reduceGE, Int.reduceGT, Nat.reduceEqDiff, Nat.reduceAdd, and_true, true_and, and_self, not_true_eq_false, not_false_eq_true, ne_eq, and_false, false_and, or_false, or_true, false_or, true_or, vx_some, eq_self, ↓reduceIte, ite_t1, ite_t2, ite_t3, le_T, le_F, lt_T, lt_F, ge_T, ge_F, gt_T, gt_F, eq_T, eq_F, w32_i, kd_1, kd_2, kd_3, kd_4, kd_5, kd_6, kd_7, kd_14, kd_15, kd_16, kd_29, kd_34, kd_56, kd_74, kd_75, kd_76, kd_77, kd_78, kd_79, kd_80, kd_81, kd_82, kd_83, kd_84, kd_85, kd_86, kd_87, kd_88, kd_89, kd_90, kd_91, kd_92, kd_93, kd_94, kd_95, kd_96, kd_97, kd_98, kd_99, kd_100, kd_101, kd_102, kd_103, kd_104, kd_105, kd_106, kd_107, kd_108]; done))
      | (refine Eq.trans (if_neg ?_) ?_; · first | omega | (simp (disch := omega) only [k0, f8, rm, Int.reduceLT, Int.reduceLE, Int.reduceEq, Int.reduceNe, Int.reduceNeg, Int.reduceAdd, Int.reduceSub, Int.reduceMul, Int.reduceGE, Int.reduceGT, Nat.reduceEqDiff, Nat.reduceAdd, and_true, true_and, and_self, not_true_eq_false, not_false_eq_true, ne_eq, and_false, false_and, or_false, or_true, false_or, true_or, vx_some, eq_self, ↓reduceIte, ite_t1, ite_t2, ite_t3, le_T, le_F, lt_T, lt_F, ge_T, ge_F, gt_T, gt_F, eq_T, eq_F, w32_i, kd_1, kd_2, kd_3, kd_4, kd_5, kd_6, kd_7, kd_14, kd_15, kd_16, kd_29, kd_34, kd_56, kd_74, kd_75, kd_76, kd_77, kd_78, kd_79, kd_80, kd_81, kd_82, kd_83, kd_84, kd_85, kd_86, kd_87, kd_88, kd_89, kd_90, kd_91, kd_92, kd_93, kd_94, kd_95, kd_96, kd_97, kd_98, kd_99, kd_100, kd_101, kd_102, kd_103, kd_104, kd_105, kd_106, kd_107, kd_108]; done))
      | (refine Eq.trans (bnd (r := ?_) ?_) ?_; rotate_left 1; (focus (simp (disch := omega) only [k0, f8, rm, Int.reduceLT, Int.reduceLE, Int.reduceEq, Int.reduceNe, Int.reduceNeg, Int.reduceAdd, Int.reduceSub, Int.reduceMul, Int.reduceGE, Int.reduceGT, Nat.reduceEqDiff, Nat.reduceAdd, and_true, true_and, and_self, not_true_eq_false, not_false_eq_true, ne_eq, and_false, false_and, or_false, or_true, false_or, true_or, vx_some, eq_self, ↓reduceIte, ite_t1, ite_t2, ite_t3, le_T, le_F, lt_T, lt_F, ge_T, ge_F, gt_T, gt_F, eq_T, eq_F, w32_i, kd_1, kd_2, kd_3, kd_4, kd_5, kd_6, kd_7, kd_14, kd_15, kd_16, kd_29, kd_34, kd_56, kd_74, kd_75, kd_76, kd_77, kd_78, kd_79, kd_80, kd_81, kd_82, kd_83, kd_84, kd_85, kd_86, kd_87, kd_88, kd_89, kd_90, kd_91, kd_92, kd_93, kd_94, kd_95, kd_96, kd_97, kd_98, kd_99, kd_100, kd_101, kd_102, kd_103, kd_104, kd_105, kd_106, kd_107, kd_108]; exact rfl)); simp only [vx_some])
    all_goals first | rfl | (simp (disch := omega) only [Int.reduceLT, Int.reduceLE, Int.reduceEq, Int.reduceNe, Int.reduceNeg, Int.reduceAdd, Int.reduceSub, Int.reduceMul, Int.reduceGE, Int.reduceGT, Nat.reduceEqDiff, Nat.reduceAdd, and_true, true_and, and_self, not_true_eq_false, not_false_eq_true, ne_eq, and_false, false_and, or_false, or_true, false_or, true_or, vx_some, eq_self, ↓reduceIte, ite_t1, ite_t2, ite_t3, le_T, le_F, lt_T, lt_F, ge_T, ge_F, gt_T, gt_F, eq_T, eq_F, w32_i]; done)
  | succ k ih =>
    intro y z e
    obtain ⟨⟨B, X, K, ht⟩, et, e3, e4, e5, e0⟩ := Z.r (flY M t a b c y r)
    have RB := B.r
    have k0 := B.k0
    have f8 := B.f8
    rw [et, ← hH] at f8
    have rx := c_pourX (n := n) Z (flY M t a b c y r) (a := a) (b := b) (c := c) (y := y) (by omega) (W := (tex M t 2).toNat) (by omega) (tex M t 2).toNat 0 (by omega)
    have ih' := ih (y + 1) (0, ((tex M t 2).toNat : Int)) (by omega)
    rw [e_X10_pour_3]
    repeat first
      | (refine Eq.trans (if_pos ?_) ?_; · first | omega | (simp (disch := omega) only [k0, f8, Int.reduceLT, Int.reduceLE, Int.reduceEq, Int.reduceNe, Int.reduceNeg, Int.reduceAdd, Int.reduceSub, Int.reduceMul, Int.reduceGE, Int.reduceGT, Nat.reduceEqDiff, Nat.reduceAdd, and_true, true_and, and_self, not_true_eq_false, not_false_eq_true, ne_eq, and_false, false_and, or_false, or_true, false_or, true_or, vx_some, eq_self, ↓reduceIte, ite_t1, ite_t2, ite_t3, le_T, le_F, lt_T, lt_F, ge_T, ge_F, gt_T, gt_F, eq_T, eq_F, w32_i, kd_1, kd_2, kd_3, kd_4, kd_5, kd_6, kd_7, kd_14, kd_15, kd_16, kd_29, kd_34, kd_56, kd_74, kd_75, kd_76, kd_77, kd_78, kd_79, kd_80, kd_81, kd_82, kd_83, kd_84, kd_85, kd_86, kd_87, kd_88, kd_89, kd_90, kd_91, kd_92, kd_93, kd_94, kd_95, kd_96, kd_97, kd_98, kd_99, kd_100, kd_101, kd_102, kd_103, kd_104, kd_105, kd_106, kd_107, kd_108]; done))
      | (refine Eq.trans (if_neg ?_) ?_; · first | omega | (simp (disch := omega) only [k0, f8, Int.reduceLT, Int.reduceLE, Int.reduceEq, Int.reduceNe, Int.reduceNeg, Int.reduceAdd, Int.reduceSub, Int.reduceMul, Int.reduceGE, Int.reduceGT, Nat.reduceEqDiff, Nat.reduceAdd, and_true, true_and, and_self, not_true_eq_false, not_false_eq_true, ne_eq, and_false, false_and, or_false, or_true, false_or, true_or, vx_some, eq_self, ↓reduceIte, ite_t1, ite_t2, ite_t3, le_T, le_F, lt_T, lt_F, ge_T, ge_F, gt_T, gt_F, eq_T, eq_F, w32_i, kd_1, kd_2, kd_3, kd_4, kd_5, kd_6, kd_7, kd_14, kd_15, kd_16, kd_29, kd_34, kd_56, kd_74, kd_75, kd_76, kd_77, kd_78, kd_79, kd_80, kd_81, kd_82, kd_83, kd_84, kd_85, kd_86, kd_87, kd_88, kd_89, kd_90, kd_91, kd_92, kd_93, kd_94, kd_95, kd_96, kd_97, kd_98, kd_99, kd_100, kd_101, kd_102, kd_103, kd_104, kd_105, kd_106, kd_107, kd_108]; done))
      | (refine Eq.trans (bnd (r := ?_) ?_) ?_; rotate_left 1; (focus (simp (disch := omega) only [k0, f8, Int.reduceLT, Int.reduceLE, Int.reduceEq, Int.reduceNe, Int.reduceNeg, Int.reduceAdd, Int.reduceSub, Int.reduceMul, Int.reduceGE, Int.reduceGT, Nat.reduceEqDiff, Nat.reduceAdd, and_true, true_and, and_self, not_true_eq_false, not_false_eq_true, ne_eq, and_false, false_and, or_false, or_true, false_or, true_or, vx_some, eq_self, ↓reduceIte, ite_t1, ite_t2, ite_t3, le_T, le_F, lt_T, lt_F, ge_T, ge_F, gt_T, gt_F, eq_T, eq_F, w32_i, kd_1, kd_2, kd_3, kd_4, kd_5, kd_6, kd_7, kd_14, kd_15, kd_16, kd_29, kd_34, kd_56, kd_74, kd_75, kd_76, kd_77, kd_78, kd_79, kd_80, kd_81, kd_82, kd_83, kd_84, kd_85, kd_86, kd_87, kd_88, kd_89, kd_90, kd_91, kd_92, kd_93, kd_94, kd_95, kd_96, kd_97, kd_98, kd_99, kd_100, kd_101, kd_102, kd_103, kd_104, kd_105, kd_106, kd_107, kd_108]; exact rfl)); simp only [vx_some])
    exact rx.trans ih'
theorem c_pour {n : Int} {M : Mm} {T t : Int} (Z : CTX M T t) {r0 r : Int → Int} (P : PR M t r0 r) {a b c : Int} (ha : -9999 ≤ a ∧ a ≤ 9999) (hb : -9999 ≤ b ∧ b ≤ 9999) (hc : -9999 ≤ c ∧ c ≤ 9999) : vm 99 [(2, T), (0, a), (0, b), (0, c)] (n, stc M (8 + tex M t 0) r) = some (none, (n, stc M (8 + tex M t 0) (mkL M t ((tex M t 4).toNat - 1) (flY M t a b c (tex M t 3).toNat r)))) := by
  have Y := Z.2.1.lv Z.2.2.2
  rw [e_X10_pour]
  exact c_pourY Z P ha hb hc (H := (tex M t 3).toNat) (by omega) (tex M t 3).toNat 0 _ (by omega)
/-- the model's numbers, one store's out of a row -/
def gl (f : Int → Int) (s : Int) (r : Int → Int) : Int → Int := fun q => if 400 * s ≤ q ∧ q < 400 * s + 400 then r (q - 400 * s) else f q
theorem gl_c (f : Int → Int) (s : Int) (r : Int → Int) {p : Int} (p0 : 0 ≤ p) (p1 : p < 400) : gl f s r (400 * s + p) = r p := by
  unfold gl
  rw [if_pos ⟨by omega, by omega⟩, show 400 * s + p - 400 * s = p by omega]
theorem gl_o (f : Int → Int) {s s' : Int} (r : Int → Int) {p : Int} (p0 : 0 ≤ p) (p1 : p < 400) (h : s' ≠ s) : gl f s r (400 * s' + p) = f (400 * s' + p) := by
  unfold gl
  rw [if_neg (by omega)]
theorem gl_up (f : Int → Int) (s : Int) (r : Int → Int) {p v : Int} (p0 : 0 ≤ p) (p1 : p < 400) : up1 (gl f s r) (400 * s + p) v = gl f s (up1 r p v) := by
  funext q
  unfold up1 gl
  by_cases h : q = 400 * s + p
  · subst h
    rw [if_pos rfl, if_pos ⟨by omega, by omega⟩]
    dsimp only
    rw [if_pos (by omega)]
  · rw [if_neg h]
    by_cases z : 400 * s ≤ q ∧ q < 400 * s + 400
    · rw [if_pos z, if_pos z]
      dsimp only
      rw [if_neg (by omega)]
    · rw [if_neg z, if_neg z]
theorem gl_id (f : Int → Int) (s : Int) : gl f s (fun p => f (400 * s + p)) = f := by
  funext q
  unfold gl
  split
  · dsimp only
    rw [show 400 * s + (q - 400 * s) = q by omega]
  · rfl
/-- what the model's loops over a texture stand on -/
def MTX (M : Mm) (t : Int) : Prop := FX M ∧ TXM M ∧ KLM M ∧ isT M t ∧ M 88 30 = -1
theorem MTX.r {M : Mm} {t : Int} (Z : MTX M t) (io : Int) (f g : Int → Int) : MTX (mdM M io f g) t ∧ (∀ w, tex (mdM M io f g) t w = tex M t w) ∧ mdM M io f g 93 = M 93 ∧ mdM M io f g 94 = M 94 ∧ mdM M io f g 95 = M 95 ∧ mdM M io f g 90 = M 90 := by
  obtain ⟨F, X, K, ht, O⟩ := Z
  have e0 : mdM M io f g 90 = M 90 := md_f (by omega) (by omega)
  have e3 : mdM M io f g 93 = M 93 := md_f (by omega) (by omega)
  have e4 : mdM M io f g 94 = M 94 := md_f (by omega) (by omega)
  have e5 : mdM M io f g 95 = M 95 := md_f (by omega) (by omega)
  refine ⟨⟨F.md, X.g e0 e3 e4 e5, K.g e0 e3 e4, ?_, ?_⟩, tex_g e5 t, e3, e4, e5, e0⟩
  · unfold isT
    rw [e0]
    exact ht
  · rw [mdM_o (by omega) (by omega)]
    exact O
theorem p_coloursM {n : Int} {M : Mm} {t : Int} (Z : MTX M t) (io : Int) (f g r : Int → Int) {l : Nat} {x y v : Int} (hx : isX M t l x y) (v0 : -2147483648 ≤ v) (v1 : v < 2147483648) : ∃ io', vm 251 [(2, 88), (0, t), (0, (l : Int)), (0, x), (0, y), (0, v)] (n, mdM M io (gl f (tex M t 0) r) g) = some (none, (n, mdM M io' (gl f (tex M t 0) (up1 r (plO M t (tex M t 5) l x y) (ctk (M 93 (tex M t 0)) v))) g)) := by
  obtain ⟨⟨F, X, K, ht, O⟩, et, e3, e4, e5, e0⟩ := Z.r io (gl f (tex M t 0) r) g
  have hx' := isX_g e0 e5 hx
  have S := Z.2.1.st Z.2.2.1 hx.1
  have Q := plO_rng Z.2.1 Z.2.2.1 (Z.2.1.wh hx.1 hx.2.1).2.2.2.2.2.1 (Z.2.1.wh hx.1 hx.2.1).2.2.2.2.2.2 hx
  have tr := isT.r X ht
  have po := p_of (h := (n, mdM M io (gl f (tex M t 0) r) g)) F.m (t := t) (w := 0) tr.1 (by omega) (by omega) (by omega)
  have pp := p_placeOf (h := (n, mdM M io (gl f (tex M t 0) r) g)) F.m X K (by show -1 ≤ mdM M io (gl f (tex M t 0) r) g 88 30 ∧ mdM M io (gl f (tex M t 0) r) g 88 30 ≤ 2; omega) hx'
  dsimp only at po pp
  rw [plM_n O, plO_g e5, et] at pp
  rw [et] at po
  have ps := p_setsM (n := n) (M := M) Z.1 (io := io) (s := tex M t 0) (p := plO M t (tex M t 5) l x y) (v := ctk (M 93 (tex M t 0)) v) (f := gl f (tex M t 0) r) (g := g) S.1.1 S.1.2.2 Q.2.2.1 Q.2.2.2.2
  rw [gl_up _ _ _ Q.2.2.1 Q.2.2.2.2] at ps
  obtain ⟨io1, hio⟩ : ∃ io1 : Int, io1 = (if io ≠ 0 ∨ gl f (tex M t 0) r (400 * tex M t 0 + plO M t (tex M t 5) l x y) ≠ ctk (M 93 (tex M t 0)) v then 1 else 0) := ⟨_, rfl⟩
  rw [← hio] at ps
  clear hio
  refine ⟨io1, ?_⟩
  rw [e_X12_colours]
  generalize plO M t (tex M t 5) l x y = q at *
  repeat first
    | (refine Eq.trans (if_pos ?_) ?_; · first | omega | (simp (disch := omega) only [po, pp, F.c88_16, e3, p_cut, ps, Int.reduceLT, Int.reduceLE, Int.reduceEq, Int.reduceNe, Int.reduceNeg, Int.reduceAdd, Int.reduceSub, Int.reduceMul, Int.reduceGE, Int.reduceGT, Nat.reduceEqDiff, Nat.reduceAdd, and_true, true_and, and_self, not_true_eq_false, not_false_eq_true, ne_eq, and_false, false_and, or_false, or_true, false_or, true_or, vx_some, eq_self, ↓reduceIte, ite_t1, ite_t2, ite_t3, le_T, le_F, lt_T, lt_F, ge_T, ge_F, gt_T, gt_F, eq_T, eq_F, w32_i, kd_1, kd_2, kd_3, kd_4, kd_5, kd_6, kd_7, kd_14, kd_15, kd_16, kd_29, kd_34, kd_56, kd_74, kd_75, kd_76, kd_77, kd_78, kd_79, kd_80, kd_81, kd_82, kd_83, kd_84, kd_85, kd_86, kd_87, kd_88, kd_89, kd_90, kd_91, kd_92, kd_93, kd_94, kd_95, kd_96, kd_97, kd_98, kd_99, kd_100, kd_101, kd_102, kd_103, kd_104, kd_105, kd_106, kd_107, kd_108]; done))
    | (refine Eq.trans (if_neg ?_) ?_; · first | omega | (simp (disch := omega) only [po, pp, F.c88_16, e3, p_cut, ps, Int.reduceLT, Int.reduceLE, Int.reduceEq, Int.reduceNe, Int.reduceNeg, Int.reduceAdd, Int.reduceSub, Int.reduceMul, Int.reduceGE, Int.reduceGT, Nat.reduceEqDiff, Nat.reduceAdd, and_true, true_and, and_self, not_true_eq_false, not_false_eq_true, ne_eq, and_false, false_and, or_false, or_true, false_or, true_or, vx_some, eq_self, ↓reduceIte, ite_t1, ite_t2, ite_t3, le_T, le_F, lt_T, lt_F, ge_T, ge_F, gt_T, gt_F, eq_T, eq_F, w32_i, kd_1, kd_2, kd_3, kd_4, kd_5, kd_6, kd_7, kd_14, kd_15, kd_16, kd_29, kd_34, kd_56, kd_74, kd_75, kd_76, kd_77, kd_78, kd_79, kd_80, kd_81, kd_82, kd_83, kd_84, kd_85, kd_86, kd_87, kd_88, kd_89, kd_90, kd_91, kd_92, kd_93, kd_94, kd_95, kd_96, kd_97, kd_98, kd_99, kd_100, kd_101, kd_102, kd_103, kd_104, kd_105, kd_106, kd_107, kd_108]; done))
    | (refine Eq.trans (bnd (r := ?_) ?_) ?_; rotate_left 1; (focus (simp (disch := omega) only [po, pp, F.c88_16, e3, p_cut, ps, Int.reduceLT, Int.reduceLE, Int.reduceEq, Int.reduceNe, Int.reduceNeg, Int.reduceAdd, Int.reduceSub, Int.reduceMul, Int.reduceGE, Int.reduceGT, Nat.reduceEqDiff, Nat.reduceAdd, and_true, true_and, and_self, not_true_eq_false, not_false_eq_true, ne_eq, and_false, false_and, or_false, or_true, false_or, true_or, vx_some, eq_self, ↓reduceIte, ite_t1, ite_t2, ite_t3, le_T, le_F, lt_T, lt_F, ge_T, ge_F, gt_T, gt_F, eq_T, eq_F, w32_i, kd_1, kd_2, kd_3, kd_4, kd_5, kd_6, kd_7, kd_14, kd_15, kd_16, kd_29, kd_34, kd_56, kd_74, kd_75, kd_76, kd_77, kd_78, kd_79, kd_80, kd_81, kd_82, kd_83, kd_84, kd_85, kd_86, kd_87, kd_88, kd_89, kd_90, kd_91, kd_92, kd_93, kd_94, kd_95, kd_96, kd_97, kd_98, kd_99, kd_100, kd_101, kd_102, kd_103, kd_104, kd_105, kd_106, kd_107, kd_108]; exact rfl)); simp only [vx_some])
  all_goals first | rfl | (simp (disch := omega) only [Int.reduceLT, Int.reduceLE, Int.reduceEq, Int.reduceNe, Int.reduceNeg, Int.reduceAdd, Int.reduceSub, Int.reduceMul, Int.reduceGE, Int.reduceGT, Nat.reduceEqDiff, Nat.reduceAdd, and_true, true_and, and_self, not_true_eq_false, not_false_eq_true, ne_eq, and_false, false_and, or_false, or_true, false_or, true_or, vx_some, eq_self, ↓reduceIte, ite_t1, ite_t2, ite_t3, le_T, le_F, lt_T, lt_F, ge_T, ge_F, gt_T, gt_F, eq_T, eq_F, w32_i]; done)
theorem nb_md {M : Mm} {t : Int} (Z : MTX M t) (io : Int) {f g r : Int → Int} (N : NB M t r) : NB (mdM M io (gl f (tex M t 0) r) g) t (fun p => mdM M io (gl f (tex M t 0) r) g 97 (400 * tex (mdM M io (gl f (tex M t 0) r) g) t 0 + p)) := by
  obtain ⟨-, et, e3, e4, e5, e0⟩ := Z.r io (gl f (tex M t 0) r) g
  have S := Z.2.1.st Z.2.2.1 Z.2.2.2.1
  intro p p0 p1
  rw [et, e4] at p1
  dsimp only
  rw [et, mdM_97, gl_c _ _ _ p0 (by omega)]
  exact N p p0 p1
theorem p_makX {n : Int} {M : Mm} {t : Int} (Z : MTX M t) (f g : Int → Int) {r0 r : Int → Int} (P : PR M t r0 r) {l : Nat} (hl : ((l + 1 : Nat) : Int) < tex M t 4) {y : Nat} (y1 : (y : Int) < hv (tex M t 3) (l + 1)) {W : Nat} (hW : (W : Int) = hv (tex M t 2) (l + 1)) (W16 : W ≤ 16) (Y16 : y ≤ 100) : ∀ (k x : Nat) (io : Int), x + k = W → ∃ io', vp 253 27 [(2, 88), (0, t), (0, ((l + 1 : Nat) : Int)), (0, (y : Int)), (0, (x : Int))] [] (n, mdM M io (gl f (tex M t 0) (mkX M t l y x r)) g) = vp 253 14 [(2, 88), (0, t), (0, ((l + 1 : Nat) : Int)), (0, ((y + 1 : Nat) : Int)), (0, (W : Int))] [] (n, mdM M io' (gl f (tex M t 0) (mkX M t l y W r)) g) := by
  have l5 := (Z.2.1.wh Z.2.2.2.1 hl).2.2.1
  intro k
  induction k with
  | zero =>
    intro x io e
    have : x = W := by omega
    subst this
    obtain ⟨⟨F, X, K, ht, O⟩, et, e3, e4, e5, e0⟩ := Z.r io (gl f (tex M t 0) (mkX M t l y x r)) g
    have pw := p_wide (h := (n, mdM M io (gl f (tex M t 0) (mkX M t l y x r)) g)) F.m X ht (l := l + 1) (by omega)
    dsimp only at pw
    rw [et, ← hW] at pw
    clear hW y1
    refine ⟨io, ?_⟩
    rw [e_X12_makes_27]
    repeat first
      | (refine Eq.trans (if_pos ?_) ?_; · first | omega | (simp (disch := omega) only [pw, Int.reduceLT, Int.reduceLE, Int.reduceEq, Int.reduceNe, Int.reduceNeg, Int.reduceAdd, Int.reduceSub, Int.reduceMul, Int.reduceGE, Int.reduceGT, Nat.reduceEqDiff, Nat.reduceAdd, and_true, true_and, and_self, not_true_eq_false, not_false_eq_true, ne_eq, and_false, false_and, or_false, or_true, false_or, true_or, vx_some, eq_self, ↓reduceIte, ite_t1, ite_t2, ite_t3, le_T, le_F, lt_T, lt_F, ge_T, ge_F, gt_T, gt_F, eq_T, eq_F, w32_i, kd_1, kd_2, kd_3, kd_4, kd_5, kd_6, kd_7, kd_14, kd_15, kd_16, kd_29, kd_34, kd_56, kd_74, kd_75, kd_76, kd_77, kd_78, kd_79, kd_80, kd_81, kd_82, kd_83, kd_84, kd_85, kd_86, kd_87, kd_88, kd_89, kd_90, kd_91, kd_92, kd_93, kd_94, kd_95, kd_96, kd_97, kd_98, kd_99, kd_100, kd_101, kd_102, kd_103, kd_104, kd_105, kd_106, kd_107, kd_108]; done))
      | (refine Eq.trans (if_neg ?_) ?_; · first | omega | (simp (disch := omega) only [pw, Int.reduceLT, Int.reduceLE, Int.reduceEq, Int.reduceNe, Int.reduceNeg, Int.reduceAdd, Int.reduceSub, Int.reduceMul, Int.reduceGE, Int.reduceGT, Nat.reduceEqDiff, Nat.reduceAdd, and_true, true_and, and_self, not_true_eq_false, not_false_eq_true, ne_eq, and_false, false_and, or_false, or_true, false_or, true_or, vx_some, eq_self, ↓reduceIte, ite_t1, ite_t2, ite_t3, le_T, le_F, lt_T, lt_F, ge_T, ge_F, gt_T, gt_F, eq_T, eq_F, w32_i, kd_1, kd_2, kd_3, kd_4, kd_5, kd_6, kd_7, kd_14, kd_15, kd_16, kd_29, kd_34, kd_56, kd_74, kd_75, kd_76, kd_77, kd_78, kd_79, kd_80, kd_81, kd_82, kd_83, kd_84, kd_85, kd_86, kd_87, kd_88, kd_89, kd_90, kd_91, kd_92, kd_93, kd_94, kd_95, kd_96, kd_97, kd_98, kd_99, kd_100, kd_101, kd_102, kd_103, kd_104, kd_105, kd_106, kd_107, kd_108]; done))
      | (refine Eq.trans (bnd (r := ?_) ?_) ?_; rotate_left 1; (focus (simp (disch := omega) only [pw, Int.reduceLT, Int.reduceLE, Int.reduceEq, Int.reduceNe, Int.reduceNeg, Int.reduceAdd, Int.reduceSub, Int.reduceMul, Int.reduceGE, Int.reduceGT, Nat.reduceEqDiff, Nat.reduceAdd, and_true, true_and, and_self, not_true_eq_false, not_false_eq_true, ne_eq, and_false, false_and, or_false, or_true, false_or, true_or, vx_some, eq_self, ↓reduceIte, ite_t1, ite_t2, ite_t3, le_T, le_F, lt_T, lt_F, ge_T, ge_F, gt_T, gt_F, eq_T, eq_F, w32_i, kd_1, kd_2, kd_3, kd_4, kd_5, kd_6, kd_7, kd_14, kd_15, kd_16, kd_29, kd_34, kd_56, kd_74, kd_75, kd_76, kd_77, kd_78, kd_79, kd_80, kd_81, kd_82, kd_83, kd_84, kd_85, kd_86, kd_87, kd_88, kd_89, kd_90, kd_91, kd_92, kd_93, kd_94, kd_95, kd_96, kd_97, kd_98, kd_99, kd_100, kd_101, kd_102, kd_103, kd_104, kd_105, kd_106, kd_107, kd_108]; exact rfl)); simp only [vx_some])
    rw [w32_i (by omega) (by omega)]
    rfl
  | succ k ih =>
    intro x io e
    obtain ⟨⟨F, X, K, ht, O⟩, et, e3, e4, e5, e0⟩ := Z.r io (gl f (tex M t 0) (mkX M t l y x r)) g
    have pw := p_wide (h := (n, mdM M io (gl f (tex M t 0) (mkX M t l y x r)) g)) F.m X ht (l := l + 1) (by omega)
    dsimp only at pw
    rw [et, ← hW] at pw
    have xw : (x : Int) < hv (tex M t 2) (l + 1) := by rw [← hW]; omega
    have Px := P.mkX Z.2.1 Z.2.2.1 Z.2.2.2.1 hl (y := y) (by omega) y1 x (Int.le_of_lt xw)
    have hx : isX M t (l + 1) x y := ⟨Z.2.2.2.1, hl, ⟨by omega, xw⟩, by omega, y1⟩
    have hl0 : (l : Int) < tex M t 4 := by omega
    have S := Z.2.1.st Z.2.2.1 Z.2.2.2.1
    have pb := p_below (h := (n, mdM M io (gl f (tex M t 0) (mkX M t l y x r)) g)) F.m X K O ht (l := l) (x := x) (y := y) (by rw [et]; exact hl0) (by omega) (by rw [et]; exact xw) (by omega) (by rw [et]; exact y1) (nb_md Z io Px.1)
    have eb : blV (mdM M io (gl f (tex M t 0) (mkX M t l y x r)) g) t l x y (fun p => mdM M io (gl f (tex M t 0) (mkX M t l y x r)) g 97 (400 * tex (mdM M io (gl f (tex M t 0) (mkX M t l y x r)) g) t 0 + p)) = blV M t l x y (mkX M t l y x r) := by
      rw [← blV_ext (m := M) Z.2.1 Z.2.2.1 Z.2.2.2.1 hl0 (r := fun p => mdM M io (gl f (tex M t 0) (mkX M t l y x r)) g 97 (400 * tex (mdM M io (gl f (tex M t 0) (mkX M t l y x r)) g) t 0 + p)) (r' := mkX M t l y x r) (fun p p0 p1 => by
        try dsimp only
        rw [et, mdM_97, gl_c _ _ _ p0 (by omega)])]
      unfold blV
      rw [(bls_g e5 l x y _ 4).1, (bls_g e5 l x y (mkX M t l y x r) 4).2]
    dsimp only at pb
    rw [eb] at pb
    have vb := blV_rng Z.2.1 Z.2.2.1 Z.2.2.2.1 hl0 (by omega) xw (by omega) y1 Px.1
    obtain ⟨io1, pc⟩ := p_coloursM (n := n) Z io f g (mkX M t l y x r) hx (v := blV M t l x y (mkX M t l y x r)) (by omega) (by omega)
    have es : mkX M t l y (x + 1) r = up1 (mkX M t l y x r) (plO M t (tex M t 5) (l + 1) x y) (ctk (M 93 (tex M t 0)) (blV M t l x y (mkX M t l y x r))) := rfl
    obtain ⟨io2, ih'⟩ := ih (x + 1) io1 (by omega)
    rw [es] at ih'
    refine ⟨io2, ?_⟩
    clear hW y1 xw hx P Px eb es vb
    generalize blV M t l x y (mkX M t l y x r) = v at *
    refine Eq.trans (e_X12_makes_27 _ _ _ _ _ _) ?_
    repeat first
      | (refine Eq.trans (if_pos ?_) ?_; · first | omega | (simp (disch := omega) only [pw, pb, pc, Int.reduceLT, Int.reduceLE, Int.reduceEq, Int.reduceNe, Int.reduceNeg, Int.reduceAdd, Int.reduceSub, Int.reduceMul, Int.reduceGE, Int.reduceGT, Nat.reduceEqDiff, Nat.reduceAdd, and_true, true_and, and_self, not_true_eq_false, not_false_eq_true, ne_eq, and_false, false_and, or_false, or_true, false_or, true_or, vx_some, eq_self, ↓reduceIte, ite_t1, ite_t2, ite_t3, le_T, le_F, lt_T, lt_F, ge_T, ge_F, gt_T, gt_F, eq_T, eq_F, w32_i, kd_1, kd_2, kd_3, kd_4, kd_5, kd_6, kd_7, kd_14, kd_15, kd_16, kd_29, kd_34, kd_56, kd_74, kd_75, kd_76, kd_77, kd_78, kd_79, kd_80, kd_81, kd_82, kd_83, kd_84, kd_85, kd_86, kd_87, kd_88, kd_89, kd_90, kd_91, kd_92, kd_93, kd_94, kd_95, kd_96, kd_97, kd_98, kd_99, kd_100, kd_101, kd_102, kd_103, kd_104, kd_105, kd_106, kd_107, kd_108]; done))
      | (refine Eq.trans (if_neg ?_) ?_; · first | omega | (simp (disch := omega) only [pw, pb, pc, Int.reduceLT, Int.reduceLE, Int.reduceEq, Int.reduceNe, Int.reduceNeg, Int.reduceAdd, Int.reduceSub, Int.reduceMul, Int.reduceGE, Int.reduceGT, Nat.reduceEqDiff, Nat.reduceAdd, and_true, true_and, and_self, not_true_eq_false, not_false_eq_true, ne_eq, and_false, false_and, or_false, or_true, false_or, true_or, vx_some, eq_self, ↓reduceIte, ite_t1, ite_t2, ite_t3, le_T, le_F, lt_T, lt_F, ge_T, ge_F, gt_T, gt_F, eq_T, eq_F, w32_i, kd_1, kd_2, kd_3, kd_4, kd_5, kd_6, kd_7, kd_14, kd_15, kd_16, kd_29, kd_34, kd_56, kd_74, kd_75, kd_76, kd_77, kd_78, kd_79, kd_80, kd_81, kd_82, kd_83, kd_84, kd_85, kd_86, kd_87, kd_88, kd_89, kd_90, kd_91, kd_92, kd_93, kd_94, kd_95, kd_96, kd_97, kd_98, kd_99, kd_100, kd_101, kd_102, kd_103, kd_104, kd_105, kd_106, kd_107, kd_108]; done))
      | (refine Eq.trans (bnd (r := ?_) ?_) ?_; rotate_left 1; (focus (simp (disch := omega) only [pw, pb, pc, Int.reduceLT, Int.reduceLE, Int.reduceEq, Int.reduceNe, Int.reduceNeg, Int.reduceAdd, Int.reduceSub, Int.reduceMul, Int.reduceGE, Int.reduceGT, Nat.reduceEqDiff, Nat.reduceAdd, and_true, true_and, and_self, not_true_eq_false, not_false_eq_true, ne_eq, and_false, false_and, or_false, or_true, false_or, true_or, vx_some, eq_self, ↓reduceIte, ite_t1, ite_t2, ite_t3, le_T, le_F, lt_T, lt_F, ge_T, ge_F, gt_T, gt_F, eq_T, eq_F, w32_i, kd_1, kd_2, kd_3, kd_4, kd_5, kd_6, kd_7, kd_14, kd_15, kd_16, kd_29, kd_34, kd_56, kd_74, kd_75, kd_76, kd_77, kd_78, kd_79, kd_80, kd_81, kd_82, kd_83, kd_84, kd_85, kd_86, kd_87, kd_88, kd_89, kd_90, kd_91, kd_92, kd_93, kd_94, kd_95, kd_96, kd_97, kd_98, kd_99, kd_100, kd_101, kd_102, kd_103, kd_104, kd_105, kd_106, kd_107, kd_108]; exact rfl)); simp only [vx_some])
    rw [w32_i (by omega) (by omega)]
    exact ih'
theorem p_makY {n : Int} {M : Mm} {t : Int} (Z : MTX M t) (f g : Int → Int) {r0 r : Int → Int} (P : PR M t r0 r) {l : Nat} (hl : ((l + 1 : Nat) : Int) < tex M t 4) {H : Nat} (hH : (H : Int) = hv (tex M t 3) (l + 1)) (H16 : H ≤ 16) : ∀ (k y : Nat) (io : Int) (z : Vl), y + k = H → ∃ io', vp 253 14 [(2, 88), (0, t), (0, ((l + 1 : Nat) : Int)), (0, (y : Int)), z] [] (n, mdM M io (gl f (tex M t 0) (mkY M t l y r)) g) = vp 253 2 [(2, 88), (0, t), (0, ((l + 1 + 1 : Nat) : Int)), (0, (H : Int)), (9, 0)] [] (n, mdM M io' (gl f (tex M t 0) (mkY M t l H r)) g) := by
  have l5 := (Z.2.1.wh Z.2.2.2.1 hl).2.2.1
  intro k
  induction k with
  | zero =>
    intro y io z e
    have : y = H := by omega
    subst this
    obtain ⟨⟨F, X, K, ht, O⟩, et, e3, e4, e5, e0⟩ := Z.r io (gl f (tex M t 0) (mkY M t l y r)) g
    have pw := p_high (h := (n, mdM M io (gl f (tex M t 0) (mkY M t l y r)) g)) F.m X ht (l := l + 1) (by omega)
    dsimp only at pw
    rw [et, ← hH] at pw
    clear hH
    refine ⟨io, ?_⟩
    rw [e_X12_makes_14]
    repeat first
      | (refine Eq.trans (if_pos ?_) ?_; · first | omega | (simp (disch := omega) only [pw, Int.reduceLT, Int.reduceLE, Int.reduceEq, Int.reduceNe, Int.reduceNeg, Int.reduceAdd, Int.reduceSub, Int.reduceMul, Int.reduceGE, Int.reduceGT, Nat.reduceEqDiff, Nat.reduceAdd, and_true, true_and, and_self, not_true_eq_false, not_false_eq_true, ne_eq, and_false, false_and, or_false, or_true, false_or, true_or, vx_some, eq_self, ↓reduceIte, ite_t1, ite_t2, ite_t3, le_T, le_F, lt_T, lt_F, ge_T, ge_F, gt_T, gt_F, eq_T, eq_F, w32_i, kd_1, kd_2, kd_3, kd_4, kd_5, kd_6, kd_7, kd_14, kd_15, kd_16, kd_29, kd_34, kd_56, kd_74, kd_75, kd_76, kd_77, kd_78, kd_79, kd_80, kd_81, kd_82, kd_83, kd_84, kd_85, kd_86, kd_87, kd_88, kd_89, kd_90, kd_91, kd_92, kd_93, kd_94, kd_95, kd_96, kd_97, kd_98, kd_99, kd_100, kd_101, kd_102, kd_103, kd_104, kd_105, kd_106, kd_107, kd_108]; done))
      | (refine Eq.trans (if_neg ?_) ?_; · first | omega | (simp (disch := omega) only [pw, Int.reduceLT, Int.reduceLE, Int.reduceEq, Int.reduceNe, Int.reduceNeg, Int.reduceAdd, Int.reduceSub, Int.reduceMul, Int.reduceGE, Int.reduceGT, Nat.reduceEqDiff, Nat.reduceAdd, and_true, true_and, and_self, not_true_eq_false, not_false_eq_true, ne_eq, and_false, false_and, or_false, or_true, false_or, true_or, vx_some, eq_self, ↓reduceIte, ite_t1, ite_t2, ite_t3, le_T, le_F, lt_T, lt_F, ge_T, ge_F, gt_T, gt_F, eq_T, eq_F, w32_i, kd_1, kd_2, kd_3, kd_4, kd_5, kd_6, kd_7, kd_14, kd_15, kd_16, kd_29, kd_34, kd_56, kd_74, kd_75, kd_76, kd_77, kd_78, kd_79, kd_80, kd_81, kd_82, kd_83, kd_84, kd_85, kd_86, kd_87, kd_88, kd_89, kd_90, kd_91, kd_92, kd_93, kd_94, kd_95, kd_96, kd_97, kd_98, kd_99, kd_100, kd_101, kd_102, kd_103, kd_104, kd_105, kd_106, kd_107, kd_108]; done))
      | (refine Eq.trans (bnd (r := ?_) ?_) ?_; rotate_left 1; (focus (simp (disch := omega) only [pw, Int.reduceLT, Int.reduceLE, Int.reduceEq, Int.reduceNe, Int.reduceNeg, Int.reduceAdd, Int.reduceSub, Int.reduceMul, Int.reduceGE, Int.reduceGT, Nat.reduceEqDiff, Nat.reduceAdd, and_true, true_and, and_self, not_true_eq_false, not_false_eq_true, ne_eq, and_false, false_and, or_false, or_true, false_or, true_or, vx_some, eq_self, ↓reduceIte, ite_t1, ite_t2, ite_t3, le_T, le_F, lt_T, lt_F, ge_T, ge_F, gt_T, gt_F, eq_T, eq_F, w32_i, kd_1, kd_2, kd_3, kd_4, kd_5, kd_6, kd_7, kd_14, kd_15, kd_16, kd_29, kd_34, kd_56, kd_74, kd_75, kd_76, kd_77, kd_78, kd_79, kd_80, kd_81, kd_82, kd_83, kd_84, kd_85, kd_86, kd_87, kd_88, kd_89, kd_90, kd_91, kd_92, kd_93, kd_94, kd_95, kd_96, kd_97, kd_98, kd_99, kd_100, kd_101, kd_102, kd_103, kd_104, kd_105, kd_106, kd_107, kd_108]; exact rfl)); simp only [vx_some])
    rw [w32_i (by omega) (by omega)]
    rfl
  | succ k ih =>
    intro y io z e
    obtain ⟨⟨F, X, K, ht, O⟩, et, e3, e4, e5, e0⟩ := Z.r io (gl f (tex M t 0) (mkY M t l y r)) g
    have pw := p_high (h := (n, mdM M io (gl f (tex M t 0) (mkY M t l y r)) g)) F.m X ht (l := l + 1) (by omega)
    dsimp only at pw
    rw [et, ← hH] at pw
    have Wh := Z.2.1.wh Z.2.2.2.1 hl
    have yw : (y : Int) < hv (tex M t 3) (l + 1) := by rw [← hH]; omega
    have Py := P.mkY Z.2.1 Z.2.2.1 Z.2.2.2.1 hl y (Int.le_of_lt yw)
    have W0 : (((hv (tex M t 2) (l + 1)).toNat : Nat) : Int) = hv (tex M t 2) (l + 1) := Int.toNat_of_nonneg (by have := Wh.1.1; omega)
    have W16 : (hv (tex M t 2) (l + 1)).toNat ≤ 16 := by have := Wh.1.2; omega
    obtain ⟨io1, rx⟩ := p_makX (n := n) Z f g Py hl yw W0 W16 (by omega) (hv (tex M t 2) (l + 1)).toNat 0 io (by omega)
    obtain ⟨io2, ih'⟩ := ih (y + 1) io1 (0, ((hv (tex M t 2) (l + 1)).toNat : Int)) (by omega)
    refine ⟨io2, ?_⟩
    clear hH yw Wh P Py W0 W16
    refine Eq.trans (e_X12_makes_14 _ _ _ _ _ _) ?_
    repeat first
      | (refine Eq.trans (if_pos ?_) ?_; · first | omega | (simp (disch := omega) only [pw, Int.reduceLT, Int.reduceLE, Int.reduceEq, Int.reduceNe, Int.reduceNeg, Int.reduceAdd, Int.reduceSub, Int.reduceMul, Int.reduceGE, Int.reduceGT, Nat.reduceEqDiff, Nat.reduceAdd, and_true, true_and, and_self, not_true_eq_false, not_false_eq_true, ne_eq, and_false, false_and, or_false, or_true, false_or, true_or, vx_some, eq_self, ↓reduceIte, ite_t1, ite_t2, ite_t3, le_T, le_F, lt_T, lt_F, ge_T, ge_F, gt_T, gt_F, eq_T, eq_F, w32_i, kd_1, kd_2, kd_3, kd_4, kd_5, kd_6, kd_7, kd_14, kd_15, kd_16, kd_29, kd_34, kd_56, kd_74, kd_75, kd_76, kd_77, kd_78, kd_79, kd_80, kd_81, kd_82, kd_83, kd_84, kd_85, kd_86, kd_87, kd_88, kd_89, kd_90, kd_91, kd_92, kd_93, kd_94, kd_95, kd_96, kd_97, kd_98, kd_99, kd_100, kd_101, kd_102, kd_103, kd_104, kd_105, kd_106, kd_107, kd_108]; done))
      | (refine Eq.trans (if_neg ?_) ?_; · first | omega | (simp (disch := omega) only [pw, Int.reduceLT, Int.reduceLE, Int.reduceEq, Int.reduceNe, Int.reduceNeg, Int.reduceAdd, Int.reduceSub, Int.reduceMul, Int.reduceGE, Int.reduceGT, Nat.reduceEqDiff, Nat.reduceAdd, and_true, true_and, and_self, not_true_eq_false, not_false_eq_true, ne_eq, and_false, false_and, or_false, or_true, false_or, true_or, vx_some, eq_self, ↓reduceIte, ite_t1, ite_t2, ite_t3, le_T, le_F, lt_T, lt_F, ge_T, ge_F, gt_T, gt_F, eq_T, eq_F, w32_i, kd_1, kd_2, kd_3, kd_4, kd_5, kd_6, kd_7, kd_14, kd_15, kd_16, kd_29, kd_34, kd_56, kd_74, kd_75, kd_76, kd_77, kd_78, kd_79, kd_80, kd_81, kd_82, kd_83, kd_84, kd_85, kd_86, kd_87, kd_88, kd_89, kd_90, kd_91, kd_92, kd_93, kd_94, kd_95, kd_96, kd_97, kd_98, kd_99, kd_100, kd_101, kd_102, kd_103, kd_104, kd_105, kd_106, kd_107, kd_108]; done))
      | (refine Eq.trans (bnd (r := ?_) ?_) ?_; rotate_left 1; (focus (simp (disch := omega) only [pw, Int.reduceLT, Int.reduceLE, Int.reduceEq, Int.reduceNe, Int.reduceNeg, Int.reduceAdd, Int.reduceSub, Int.reduceMul, Int.reduceGE, Int.reduceGT, Nat.reduceEqDiff, Nat.reduceAdd, and_true, true_and, and_self, not_true_eq_false, not_false_eq_true, ne_eq, and_false, false_and, or_false, or_true, false_or, true_or, vx_some, eq_self, ↓reduceIte, ite_t1, ite_t2, ite_t3, le_T, le_F, lt_T, lt_F, ge_T, ge_F, gt_T, gt_F, eq_T, eq_F, w32_i, kd_1, kd_2, kd_3, kd_4, kd_5, kd_6, kd_7, kd_14, kd_15, kd_16, kd_29, kd_34, kd_56, kd_74, kd_75, kd_76, kd_77, kd_78, kd_79, kd_80, kd_81, kd_82, kd_83, kd_84, kd_85, kd_86, kd_87, kd_88, kd_89, kd_90, kd_91, kd_92, kd_93, kd_94, kd_95, kd_96, kd_97, kd_98, kd_99, kd_100, kd_101, kd_102, kd_103, kd_104, kd_105, kd_106, kd_107, kd_108]; exact rfl)); simp only [vx_some])
    exact rx.trans ih'
theorem p_makL {n : Int} {M : Mm} {t : Int} (Z : MTX M t) (f g : Int → Int) {r0 r : Int → Int} (P : PR M t r0 r) : ∀ (k l : Nat) (io : Int) (z z' : Vl), ((l + 1 : Nat) : Int) + k = tex M t 4 → ∃ io', vp 253 2 [(2, 88), (0, t), (0, ((l + 1 : Nat) : Int)), z, z'] [] (n, mdM M io (gl f (tex M t 0) (mkL M t l r)) g) = some (none, (n, mdM M io' (gl f (tex M t 0) (mkL M t ((tex M t 4).toNat - 1) r)) g)) := by
  have Y := Z.2.1.lv Z.2.2.2.1
  have tr := isT.r Z.2.1 Z.2.2.2.1
  intro k
  induction k with
  | zero =>
    intro l io z z' e
    have el : (tex M t 4).toNat - 1 = l := by omega
    rw [el]
    obtain ⟨⟨F, X, K, ht, O⟩, et, e3, e4, e5, e0⟩ := Z.r io (gl f (tex M t 0) (mkL M t l r)) g
    have po := p_of (h := (n, mdM M io (gl f (tex M t 0) (mkL M t l r)) g)) F.m (t := t) (w := 4) tr.1 (by omega) (by omega) (by omega)
    dsimp only at po
    rw [et] at po
    refine ⟨io, ?_⟩
    refine Eq.trans (e_X12_makes_2 _ _ _ _ _ _) ?_
    repeat first
      | (refine Eq.trans (if_pos ?_) ?_; · first | omega | (simp (disch := omega) only [po, Int.reduceLT, Int.reduceLE, Int.reduceEq, Int.reduceNe, Int.reduceNeg, Int.reduceAdd, Int.reduceSub, Int.reduceMul, Int.reduceGE, Int.reduceGT, Nat.reduceEqDiff, Nat.reduceAdd, and_true, true_and, and_self, not_true_eq_false, not_false_eq_true, ne_eq, and_false, false_and, or_false, or_true, false_or, true_or, vx_some, eq_self, ↓reduceIte, ite_t1, ite_t2, ite_t3, le_T, le_F, lt_T, lt_F, ge_T, ge_F, gt_T, gt_F, eq_T, eq_F, w32_i, kd_1, kd_2, kd_3, kd_4, kd_5, kd_6, kd_7, kd_14, kd_15, kd_16, kd_29, kd_34, kd_56, kd_74, kd_75, kd_76, kd_77, kd_78, kd_79, kd_80, kd_81, kd_82, kd_83, kd_84, kd_85, kd_86, kd_87, kd_88, kd_89, kd_90, kd_91, kd_92, kd_93, kd_94, kd_95, kd_96, kd_97, kd_98, kd_99, kd_100, kd_101, kd_102, kd_103, kd_104, kd_105, kd_106, kd_107, kd_108]; done))
      | (refine Eq.trans (if_neg ?_) ?_; · first | omega | (simp (disch := omega) only [po, Int.reduceLT, Int.reduceLE, Int.reduceEq, Int.reduceNe, Int.reduceNeg, Int.reduceAdd, Int.reduceSub, Int.reduceMul, Int.reduceGE, Int.reduceGT, Nat.reduceEqDiff, Nat.reduceAdd, and_true, true_and, and_self, not_true_eq_false, not_false_eq_true, ne_eq, and_false, false_and, or_false, or_true, false_or, true_or, vx_some, eq_self, ↓reduceIte, ite_t1, ite_t2, ite_t3, le_T, le_F, lt_T, lt_F, ge_T, ge_F, gt_T, gt_F, eq_T, eq_F, w32_i, kd_1, kd_2, kd_3, kd_4, kd_5, kd_6, kd_7, kd_14, kd_15, kd_16, kd_29, kd_34, kd_56, kd_74, kd_75, kd_76, kd_77, kd_78, kd_79, kd_80, kd_81, kd_82, kd_83, kd_84, kd_85, kd_86, kd_87, kd_88, kd_89, kd_90, kd_91, kd_92, kd_93, kd_94, kd_95, kd_96, kd_97, kd_98, kd_99, kd_100, kd_101, kd_102, kd_103, kd_104, kd_105, kd_106, kd_107, kd_108]; done))
      | (refine Eq.trans (bnd (r := ?_) ?_) ?_; rotate_left 1; (focus (simp (disch := omega) only [po, Int.reduceLT, Int.reduceLE, Int.reduceEq, Int.reduceNe, Int.reduceNeg, Int.reduceAdd, Int.reduceSub, Int.reduceMul, Int.reduceGE, Int.reduceGT, Nat.reduceEqDiff, Nat.reduceAdd, and_true, true_and, and_self, not_true_eq_false, not_false_eq_true, ne_eq, and_false, false_and, or_false, or_true, false_or, true_or, vx_some, eq_self, ↓reduceIte, ite_t1, ite_t2, ite_t3, le_T, le_F, lt_T, lt_F, ge_T, ge_F, gt_T, gt_F, eq_T, eq_F, w32_i, kd_1, kd_2, kd_3, kd_4, kd_5, kd_6, kd_7, kd_14, kd_15, kd_16, kd_29, kd_34, kd_56, kd_74, kd_75, kd_76, kd_77, kd_78, kd_79, kd_80, kd_81, kd_82, kd_83, kd_84, kd_85, kd_86, kd_87, kd_88, kd_89, kd_90, kd_91, kd_92, kd_93, kd_94, kd_95, kd_96, kd_97, kd_98, kd_99, kd_100, kd_101, kd_102, kd_103, kd_104, kd_105, kd_106, kd_107, kd_108]; exact rfl)); simp only [vx_some])
    all_goals first | rfl | (simp (disch := omega) only [Int.reduceLT, Int.reduceLE, Int.reduceEq, Int.reduceNe, Int.reduceNeg, Int.reduceAdd, Int.reduceSub, Int.reduceMul, Int.reduceGE, Int.reduceGT, Nat.reduceEqDiff, Nat.reduceAdd, and_true, true_and, and_self, not_true_eq_false, not_false_eq_true, ne_eq, and_false, false_and, or_false, or_true, false_or, true_or, vx_some, eq_self, ↓reduceIte, ite_t1, ite_t2, ite_t3, le_T, le_F, lt_T, lt_F, ge_T, ge_F, gt_T, gt_F, eq_T, eq_F, w32_i]; done)
  | succ k ih =>
    intro l io z z' e
    have hl : ((l + 1 : Nat) : Int) < tex M t 4 := by omega
    obtain ⟨⟨F, X, K, ht, O⟩, et, e3, e4, e5, e0⟩ := Z.r io (gl f (tex M t 0) (mkL M t l r)) g
    have po := p_of (h := (n, mdM M io (gl f (tex M t 0) (mkL M t l r)) g)) F.m (t := t) (w := 4) tr.1 (by omega) (by omega) (by omega)
    dsimp only at po
    rw [et] at po
    have Wh := Z.2.1.wh Z.2.2.2.1 hl
    have Pl := P.mkL Z.2.1 Z.2.2.1 Z.2.2.2.1 l (by omega)
    have H0 : (((hv (tex M t 3) (l + 1)).toNat : Nat) : Int) = hv (tex M t 3) (l + 1) := Int.toNat_of_nonneg (by have := Wh.2.1.1; omega)
    have H16 : (hv (tex M t 3) (l + 1)).toNat ≤ 16 := by have := Wh.2.1.2; omega
    obtain ⟨io1, ry⟩ := p_makY (n := n) Z f g Pl hl H0 H16 (hv (tex M t 3) (l + 1)).toNat 0 io (9, 0) (by omega)
    obtain ⟨io2, ih'⟩ := ih (l + 1) io1 (0, ((hv (tex M t 3) (l + 1)).toNat : Int)) (9, 0) (by omega)
    refine ⟨io2, ?_⟩
    clear Wh H0 H16
    refine Eq.trans (e_X12_makes_2 _ _ _ _ _ _) ?_
    repeat first
      | (refine Eq.trans (if_pos ?_) ?_; · first | omega | (simp (disch := omega) only [po, Int.reduceLT, Int.reduceLE, Int.reduceEq, Int.reduceNe, Int.reduceNeg, Int.reduceAdd, Int.reduceSub, Int.reduceMul, Int.reduceGE, Int.reduceGT, Nat.reduceEqDiff, Nat.reduceAdd, and_true, true_and, and_self, not_true_eq_false, not_false_eq_true, ne_eq, and_false, false_and, or_false, or_true, false_or, true_or, vx_some, eq_self, ↓reduceIte, ite_t1, ite_t2, ite_t3, le_T, le_F, lt_T, lt_F, ge_T, ge_F, gt_T, gt_F, eq_T, eq_F, w32_i, kd_1, kd_2, kd_3, kd_4, kd_5, kd_6, kd_7, kd_14, kd_15, kd_16, kd_29, kd_34, kd_56, kd_74, kd_75, kd_76, kd_77, kd_78, kd_79, kd_80, kd_81, kd_82, kd_83, kd_84, kd_85, kd_86, kd_87, kd_88, kd_89, kd_90, kd_91, kd_92, kd_93, kd_94, kd_95, kd_96, kd_97, kd_98, kd_99, kd_100, kd_101, kd_102, kd_103, kd_104, kd_105, kd_106, kd_107, kd_108]; done))
      | (refine Eq.trans (if_neg ?_) ?_; · first | omega | (simp (disch := omega) only [po, Int.reduceLT, Int.reduceLE, Int.reduceEq, Int.reduceNe, Int.reduceNeg, Int.reduceAdd, Int.reduceSub, Int.reduceMul, Int.reduceGE, Int.reduceGT, Nat.reduceEqDiff, Nat.reduceAdd, and_true, true_and, and_self, not_true_eq_false, not_false_eq_true, ne_eq, and_false, false_and, or_false, or_true, false_or, true_or, vx_some, eq_self, ↓reduceIte, ite_t1, ite_t2, ite_t3, le_T, le_F, lt_T, lt_F, ge_T, ge_F, gt_T, gt_F, eq_T, eq_F, w32_i, kd_1, kd_2, kd_3, kd_4, kd_5, kd_6, kd_7, kd_14, kd_15, kd_16, kd_29, kd_34, kd_56, kd_74, kd_75, kd_76, kd_77, kd_78, kd_79, kd_80, kd_81, kd_82, kd_83, kd_84, kd_85, kd_86, kd_87, kd_88, kd_89, kd_90, kd_91, kd_92, kd_93, kd_94, kd_95, kd_96, kd_97, kd_98, kd_99, kd_100, kd_101, kd_102, kd_103, kd_104, kd_105, kd_106, kd_107, kd_108]; done))
      | (refine Eq.trans (bnd (r := ?_) ?_) ?_; rotate_left 1; (focus (simp (disch := omega) only [po, Int.reduceLT, Int.reduceLE, Int.reduceEq, Int.reduceNe, Int.reduceNeg, Int.reduceAdd, Int.reduceSub, Int.reduceMul, Int.reduceGE, Int.reduceGT, Nat.reduceEqDiff, Nat.reduceAdd, and_true, true_and, and_self, not_true_eq_false, not_false_eq_true, ne_eq, and_false, false_and, or_false, or_true, false_or, true_or, vx_some, eq_self, ↓reduceIte, ite_t1, ite_t2, ite_t3, le_T, le_F, lt_T, lt_F, ge_T, ge_F, gt_T, gt_F, eq_T, eq_F, w32_i, kd_1, kd_2, kd_3, kd_4, kd_5, kd_6, kd_7, kd_14, kd_15, kd_16, kd_29, kd_34, kd_56, kd_74, kd_75, kd_76, kd_77, kd_78, kd_79, kd_80, kd_81, kd_82, kd_83, kd_84, kd_85, kd_86, kd_87, kd_88, kd_89, kd_90, kd_91, kd_92, kd_93, kd_94, kd_95, kd_96, kd_97, kd_98, kd_99, kd_100, kd_101, kd_102, kd_103, kd_104, kd_105, kd_106, kd_107, kd_108]; exact rfl)); simp only [vx_some])
    exact ry.trans ih'
theorem p_makes {n : Int} {M : Mm} {t : Int} (Z : MTX M t) (f g : Int → Int) {r0 r : Int → Int} (P : PR M t r0 r) (io : Int) : ∃ io', vm 253 [(2, 88), (0, t)] (n, mdM M io (gl f (tex M t 0) r) g) = some (none, (n, mdM M io' (gl f (tex M t 0) (mkL M t ((tex M t 4).toNat - 1) r)) g)) := by
  have Y := Z.2.1.lv Z.2.2.2.1
  obtain ⟨io', h⟩ := p_makL (n := n) Z f g P ((tex M t 4).toNat - 1) 0 io (9, 0) (9, 0) (by omega)
  exact ⟨io', by rw [e_X12_makes]; exact h⟩
theorem p_fillX {n : Int} {M : Mm} {t : Int} (Z : MTX M t) (f g r : Int → Int) {a b c : Int} (ha : -9999 ≤ a ∧ a ≤ 9999) (hb : -9999 ≤ b ∧ b ≤ 9999) (hc : -9999 ≤ c ∧ c ≤ 9999) {y : Nat} (y1 : (y : Int) < tex M t 3) {W : Nat} (hW : (W : Int) = tex M t 2) : ∀ (k x : Nat) (io : Int), x + k = W → ∃ io', vp 254 17 [(2, 88), (0, t), (0, a), (0, b), (0, c), (0, (y : Int)), (0, (x : Int))] [] (n, mdM M io (gl f (tex M t 0) (flX M t a b c y x r)) g) = vp 254 3 [(2, 88), (0, t), (0, a), (0, b), (0, c), (0, ((y + 1 : Nat) : Int)), (0, (W : Int))] [] (n, mdM M io' (gl f (tex M t 0) (flX M t a b c y W r)) g) := by
  have Y := Z.2.1.lv Z.2.2.2.1
  intro k
  induction k with
  | zero =>
    intro x io e
    have : x = W := by omega
    subst this
    obtain ⟨⟨F, X, K, ht, O⟩, et, e3, e4, e5, e0⟩ := Z.r io (gl f (tex M t 0) (flX M t a b c y x r)) g
    have pw := p_wide (h := (n, mdM M io (gl f (tex M t 0) (flX M t a b c y x r)) g)) F.m X ht (l := 0) (by omega)
    dsimp only at pw
    rw [et, hv_0 (by omega), ← hW, show (((0 : Nat) : Int)) = 0 from rfl] at pw
    refine ⟨io, ?_⟩
    rw [e_X12_fillsWith_17]
    repeat first
      | (refine Eq.trans (if_pos ?_) ?_; · first | omega | (simp (disch := omega) only [pw, Int.reduceLT, Int.reduceLE, Int.reduceEq, Int.reduceNe, Int.reduceNeg, Int.reduceAdd, Int.reduceSub, Int.reduceMul, Int.reduceGE, Int.reduceGT, Nat.reduceEqDiff, Nat.reduceAdd, and_true, true_and, and_self, not_true_eq_false, not_false_eq_true, ne_eq, and_false, false_and, or_false, or_true, false_or, true_or, vx_some, eq_self, ↓reduceIte, ite_t1, ite_t2, ite_t3, le_T, le_F, lt_T, lt_F, ge_T, ge_F, gt_T, gt_F, eq_T, eq_F, w32_i, kd_1, kd_2, kd_3, kd_4, kd_5, kd_6, kd_7, kd_14, kd_15, kd_16, kd_29, kd_34, kd_56, kd_74, kd_75, kd_76, kd_77, kd_78, kd_79, kd_80, kd_81, kd_82, kd_83, kd_84, kd_85, kd_86, kd_87, kd_88, kd_89, kd_90, kd_91, kd_92, kd_93, kd_94, kd_95, kd_96, kd_97, kd_98, kd_99, kd_100, kd_101, kd_102, kd_103, kd_104, kd_105, kd_106, kd_107, kd_108]; done))
      | (refine Eq.trans (if_neg ?_) ?_; · first | omega | (simp (disch := omega) only [pw, Int.reduceLT, Int.reduceLE, Int.reduceEq, Int.reduceNe, Int.reduceNeg, Int.reduceAdd, Int.reduceSub, Int.reduceMul, Int.reduceGE, Int.reduceGT, Nat.reduceEqDiff, Nat.reduceAdd, and_true, true_and, and_self, not_true_eq_false, not_false_eq_true, ne_eq, and_false, false_and, or_false, or_true, false_or, true_or, vx_some, eq_self, ↓reduceIte, ite_t1, ite_t2, ite_t3, le_T, le_F, lt_T, lt_F, ge_T, ge_F, gt_T, gt_F, eq_T, eq_F, w32_i, kd_1, kd_2, kd_3, kd_4, kd_5, kd_6, kd_7, kd_14, kd_15, kd_16, kd_29, kd_34, kd_56, kd_74, kd_75, kd_76, kd_77, kd_78, kd_79, kd_80, kd_81, kd_82, kd_83, kd_84, kd_85, kd_86, kd_87, kd_88, kd_89, kd_90, kd_91, kd_92, kd_93, kd_94, kd_95, kd_96, kd_97, kd_98, kd_99, kd_100, kd_101, kd_102, kd_103, kd_104, kd_105, kd_106, kd_107, kd_108]; done))
      | (refine Eq.trans (bnd (r := ?_) ?_) ?_; rotate_left 1; (focus (simp (disch := omega) only [pw, Int.reduceLT, Int.reduceLE, Int.reduceEq, Int.reduceNe, Int.reduceNeg, Int.reduceAdd, Int.reduceSub, Int.reduceMul, Int.reduceGE, Int.reduceGT, Nat.reduceEqDiff, Nat.reduceAdd, and_true, true_and, and_self, not_true_eq_false, not_false_eq_true, ne_eq, and_false, false_and, or_false, or_true, false_or, true_or, vx_some, eq_self, ↓reduceIte, ite_t1, ite_t2, ite_t3, le_T, le_F, lt_T, lt_F, ge_T, ge_F, gt_T, gt_F, eq_T, eq_F, w32_i, kd_1, kd_2, kd_3, kd_4, kd_5, kd_6, kd_7, kd_14, kd_15, kd_16, kd_29, kd_34, kd_56, kd_74, kd_75, kd_76, kd_77, kd_78, kd_79, kd_80, kd_81, kd_82, kd_83, kd_84, kd_85, kd_86, kd_87, kd_88, kd_89, kd_90, kd_91, kd_92, kd_93, kd_94, kd_95, kd_96, kd_97, kd_98, kd_99, kd_100, kd_101, kd_102, kd_103, kd_104, kd_105, kd_106, kd_107, kd_108]; exact rfl)); simp only [vx_some])
    rw [w32_i (by omega) (by omega)]
    rfl
  | succ k ih =>
    intro x io e
    obtain ⟨⟨F, X, K, ht, O⟩, et, e3, e4, e5, e0⟩ := Z.r io (gl f (tex M t 0) (flX M t a b c y x r)) g
    have pw := p_wide (h := (n, mdM M io (gl f (tex M t 0) (flX M t a b c y x r)) g)) F.m X ht (l := 0) (by omega)
    dsimp only at pw
    rw [et, hv_0 (by omega), ← hW, show (((0 : Nat) : Int)) = 0 from rfl] at pw
    have hx : isX M t 0 x y := ⟨Z.2.2.2.1, by omega, ⟨by omega, by rw [hv_0 (by omega)]; omega⟩, by omega, by rw [hv_0 (by omega)]; omega⟩
    have v := pv_rng (x := x) (y := y) ha hb hc (by omega) (by omega) (by omega) (by omega)
    obtain ⟨io1, pc⟩ := p_coloursM (n := n) Z io f g (flX M t a b c y x r) hx (v := pv a b c x y) (by omega) (by omega)
    obtain ⟨io2, ih'⟩ := ih (x + 1) io1 (by omega)
    have es : flX M t a b c y (x + 1) r = up1 (flX M t a b c y x r) (plO M t (tex M t 5) 0 x y) (ctk (M 93 (tex M t 0)) (pv a b c x y)) := rfl
    rw [es] at ih'
    have ep : ∀ _ : Unit, w32 ((w32 ((w32 (a * (x : Int))) + (w32 (b * (y : Int))))) + c) = pv a b c x y := fun _ => rfl
    refine ⟨io2, ?_⟩
    rw [e_X12_fillsWith_17, ep ()]
    rw [show (((0 : Nat) : Int)) = 0 from rfl] at pc
    clear ep hx es v
    repeat first
      | (refine Eq.trans (if_pos ?_) ?_; · first | omega | (simp (disch := omega) only [pw, pc, Int.reduceLT, Int.reduceLE, Int.reduceEq, Int.reduceNe, Int.reduceNeg, Int.reduceAdd, Int.reduceSub, Int.reduceMul, Int.reduceGE, Int.reduceGT, Nat.reduceEqDiff, Nat.reduceAdd, and_true, true_and, and_self, not_true_eq_false, not_false_eq_true, ne_eq, and_false, false_and, or_false, or_true, false_or, true_or, vx_some, eq_self, ↓reduceIte, ite_t1, ite_t2, ite_t3, le_T, le_F, lt_T, lt_F, ge_T, ge_F, gt_T, gt_F, eq_T, eq_F, w32_i, kd_1, kd_2, kd_3, kd_4, kd_5, kd_6, kd_7, kd_14, kd_15, kd_16, kd_29, kd_34, kd_56, kd_74, kd_75, kd_76, kd_77, kd_78, kd_79, kd_80, kd_81, kd_82, kd_83, kd_84, kd_85, kd_86, kd_87, kd_88, kd_89, kd_90, kd_91, kd_92, kd_93, kd_94, kd_95, kd_96, kd_97, kd_98, kd_99, kd_100, kd_101, kd_102, kd_103, kd_104, kd_105, kd_106, kd_107, kd_108]; done))
      | (refine Eq.trans (if_neg ?_) ?_; · first | omega | (simp (disch := omega) only [pw, pc, Int.reduceLT, Int.reduceLE, Int.reduceEq, Int.reduceNe, Int.reduceNeg, Int.reduceAdd, Int.reduceSub, Int.reduceMul, Int.reduceGE, Int.reduceGT, Nat.reduceEqDiff, Nat.reduceAdd, and_true, true_and, and_self, not_true_eq_false, not_false_eq_true, ne_eq, and_false, false_and, or_false, or_true, false_or, true_or, vx_some, eq_self, ↓reduceIte, ite_t1, ite_t2, ite_t3, le_T, le_F, lt_T, lt_F, ge_T, ge_F, gt_T, gt_F, eq_T, eq_F, w32_i, kd_1, kd_2, kd_3, kd_4, kd_5, kd_6, kd_7, kd_14, kd_15, kd_16, kd_29, kd_34, kd_56, kd_74, kd_75, kd_76, kd_77, kd_78, kd_79, kd_80, kd_81, kd_82, kd_83, kd_84, kd_85, kd_86, kd_87, kd_88, kd_89, kd_90, kd_91, kd_92, kd_93, kd_94, kd_95, kd_96, kd_97, kd_98, kd_99, kd_100, kd_101, kd_102, kd_103, kd_104, kd_105, kd_106, kd_107, kd_108]; done))
      | (refine Eq.trans (bnd (r := ?_) ?_) ?_; rotate_left 1; (focus (simp (disch := omega) only [pw, pc, Int.reduceLT, Int.reduceLE, Int.reduceEq, Int.reduceNe, Int.reduceNeg, Int.reduceAdd, Int.reduceSub, Int.reduceMul, Int.reduceGE, Int.reduceGT, Nat.reduceEqDiff, Nat.reduceAdd, and_true, true_and, and_self, not_true_eq_false, not_false_eq_true, ne_eq, and_false, false_and, or_false, or_true, false_or, true_or, vx_some, eq_self, ↓reduceIte, ite_t1, ite_t2, ite_t3, le_T, le_F, lt_T, lt_F, ge_T, ge_F, gt_T, gt_F, eq_T, eq_F, w32_i, kd_1, kd_2, kd_3, kd_4, kd_5, kd_6, kd_7, kd_14, kd_15, kd_16, kd_29, kd_34, kd_56, kd_74, kd_75, kd_76, kd_77, kd_78, kd_79, kd_80, kd_81, kd_82, kd_83, kd_84, kd_85, kd_86, kd_87, kd_88, kd_89, kd_90, kd_91, kd_92, kd_93, kd_94, kd_95, kd_96, kd_97, kd_98, kd_99, kd_100, kd_101, kd_102, kd_103, kd_104, kd_105, kd_106, kd_107, kd_108]; exact rfl)); simp only [vx_some])
    rw [w32_i (by omega) (by omega)]
    exact ih'
theorem p_fillY {n : Int} {M : Mm} {t : Int} (Z : MTX M t) (f g : Int → Int) {r0 r : Int → Int} (P : PR M t r0 r) {a b c : Int} (ha : -9999 ≤ a ∧ a ≤ 9999) (hb : -9999 ≤ b ∧ b ≤ 9999) (hc : -9999 ≤ c ∧ c ≤ 9999) {H : Nat} (hH : (H : Int) = tex M t 3) : ∀ (k y : Nat) (io : Int) (z : Vl), y + k = H → ∃ io', vp 254 3 [(2, 88), (0, t), (0, a), (0, b), (0, c), (0, (y : Int)), z] [] (n, mdM M io (gl f (tex M t 0) (flY M t a b c y r)) g) = some (none, (n, mdM M io' (gl f (tex M t 0) (mkL M t ((tex M t 4).toNat - 1) (flY M t a b c H r))) g)) := by
  have Y := Z.2.1.lv Z.2.2.2.1
  intro k
  induction k with
  | zero =>
    intro y io z e
    have : y = H := by omega
    subst this
    obtain ⟨⟨F, X, K, ht, O⟩, et, e3, e4, e5, e0⟩ := Z.r io (gl f (tex M t 0) (flY M t a b c y r)) g
    have pw := p_high (h := (n, mdM M io (gl f (tex M t 0) (flY M t a b c y r)) g)) F.m X ht (l := 0) (by omega)
    dsimp only at pw
    rw [et, hv_0 (by omega), ← hH, show (((0 : Nat) : Int)) = 0 from rfl] at pw
    have Py := P.flY Z.2.1 Z.2.2.1 Z.2.2.2.1 ha hb hc y (by omega)
    obtain ⟨io1, rm⟩ := p_makes (n := n) Z f g Py io
    refine ⟨io1, ?_⟩
    rw [e_X12_fillsWith_3]
    repeat first
      | (refine Eq.trans (if_pos ?_) ?_; · first | omega | (simp (disch := omega) only [pw, rm, Int.reduceLT, Int.reduceLE, Int.reduceEq, Int.reduceNe, Int.reduceNeg, Int.reduceAdd, Int.reduceSub, Int.reduceMul, Int.reduceGE, Int.reduceGT, Nat.reduceEqDiff, Nat.reduceAdd, and_true, true_and, and_self, not_true_eq_false, not_false_eq_true, ne_eq, and_false, false_and, or_false, or_true, false_or, true_or, vx_some, eq_self, ↓reduceIte, ite_t1, ite_t2, ite_t3, le_T, le_F, lt_T, lt_F, ge_T, ge_F, gt_T, gt_F, eq_T, eq_F, w32_i, kd_1, kd_2, kd_3, kd_4, kd_5, kd_6, kd_7, kd_14, kd_15, kd_16, kd_29, kd_34, kd_56, kd_74, kd_75, kd_76, kd_77, kd_78, kd_79, kd_80, kd_81, kd_82, kd_83, kd_84, kd_85, kd_86, kd_87, kd_88, kd_89, kd_90, kd_91, kd_92, kd_93, kd_94, kd_95, kd_96, kd_97, kd_98, kd_99, kd_100, kd_101, kd_102, kd_103, kd_104, kd_105, kd_106, kd_107, kd_108]; done))
      | (refine Eq.trans (if_neg ?_) ?_; · first | omega | (simp (disch := omega) only [pw, rm, Int.reduceLT, Int.reduceLE, Int.reduceEq, Int.reduceNe, Int.reduceNeg, Int.reduceAdd, Int.reduceSub, Int.reduceMul, Int.reduceGE, Int.reduceGT, Nat.reduceEqDiff, Nat.reduceAdd, and_true, true_and, and_self, not_true_eq_false, not_false_eq_true, ne_eq, and_false, false_and, or_false, or_true, false_or, true_or, vx_some, eq_self, ↓reduceIte, ite_t1, ite_t2, ite_t3, le_T, le_F, lt_T, lt_F, ge_T, ge_F, gt_T, gt_F, eq_T, eq_F, w32_i, kd_1, kd_2, kd_3, kd_4, kd_5, kd_6, kd_7, kd_14, kd_15, kd_16, kd_29, kd_34, kd_56, kd_74, kd_75, kd_76, kd_77, kd_78, kd_79, kd_80, kd_81, kd_82, kd_83, kd_84, kd_85, kd_86, kd_87, kd_88, kd_89, kd_90, kd_91, kd_92, kd_93, kd_94, kd_95, kd_96, kd_97, kd_98, kd_99, kd_100, kd_101, kd_102, kd_103, kd_104, kd_105, kd_106, kd_107, kd_108]; done))
      | (refine Eq.trans (bnd (r := ?_) ?_) ?_; rotate_left 1; (focus (simp (disch := omega) only [pw, rm, Int.reduceLT, Int.reduceLE, Int.reduceEq, Int.reduceNe, Int.reduceNeg, Int.reduceAdd, Int.reduceSub, Int.reduceMul, Int.reduceGE, Int.reduceGT, Nat.reduceEqDiff, Nat.reduceAdd, and_true, true_and, and_self, not_true_eq_false, not_false_eq_true, ne_eq, and_false, false_and, or_false, or_true, false_or, true_or, vx_some, eq_self, ↓reduceIte, ite_t1, ite_t2, ite_t3, le_T, le_F, lt_T, lt_F, ge_T, ge_F, gt_T, gt_F, eq_T, eq_F, w32_i, kd_1, kd_2, kd_3, kd_4, kd_5, kd_6, kd_7, kd_14, kd_15, kd_16, kd_29, kd_34, kd_56, kd_74, kd_75, kd_76, kd_77, kd_78, kd_79, kd_80, kd_81, kd_82, kd_83, kd_84, kd_85, kd_86, kd_87, kd_88, kd_89, kd_90, kd_91, kd_92, kd_93, kd_94, kd_95, kd_96, kd_97, kd_98, kd_99, kd_100, kd_101, kd_102, kd_103, kd_104, kd_105, kd_106, kd_107, kd_108]; exact rfl)); simp only [vx_some])
    all_goals first | rfl | (simp (disch := omega) only [Int.reduceLT, Int.reduceLE, Int.reduceEq, Int.reduceNe, Int.reduceNeg, Int.reduceAdd, Int.reduceSub, Int.reduceMul, Int.reduceGE, Int.reduceGT, Nat.reduceEqDiff, Nat.reduceAdd, and_true, true_and, and_self, not_true_eq_false, not_false_eq_true, ne_eq, and_false, false_and, or_false, or_true, false_or, true_or, vx_some, eq_self, ↓reduceIte, ite_t1, ite_t2, ite_t3, le_T, le_F, lt_T, lt_F, ge_T, ge_F, gt_T, gt_F, eq_T, eq_F, w32_i]; done)
  | succ k ih =>
    intro y io z e
    obtain ⟨⟨F, X, K, ht, O⟩, et, e3, e4, e5, e0⟩ := Z.r io (gl f (tex M t 0) (flY M t a b c y r)) g
    have pw := p_high (h := (n, mdM M io (gl f (tex M t 0) (flY M t a b c y r)) g)) F.m X ht (l := 0) (by omega)
    dsimp only at pw
    rw [et, hv_0 (by omega), ← hH, show (((0 : Nat) : Int)) = 0 from rfl] at pw
    obtain ⟨io1, rx⟩ := p_fillX (n := n) Z f g (flY M t a b c y r) ha hb hc (y := y) (by omega) (W := (tex M t 2).toNat) (by omega) (tex M t 2).toNat 0 io (by omega)
    obtain ⟨io2, ih'⟩ := ih (y + 1) io1 (0, ((tex M t 2).toNat : Int)) (by omega)
    refine ⟨io2, ?_⟩
    rw [e_X12_fillsWith_3]
    repeat first
      | (refine Eq.trans (if_pos ?_) ?_; · first | omega | (simp (disch := omega) only [pw, Int.reduceLT, Int.reduceLE, Int.reduceEq, Int.reduceNe, Int.reduceNeg, Int.reduceAdd, Int.reduceSub, Int.reduceMul, Int.reduceGE, Int.reduceGT, Nat.reduceEqDiff, Nat.reduceAdd, and_true, true_and, and_self, not_true_eq_false, not_false_eq_true, ne_eq, and_false, false_and, or_false, or_true, false_or, true_or, vx_some, eq_self, ↓reduceIte, ite_t1, ite_t2, ite_t3, le_T, le_F, lt_T, lt_F, ge_T, ge_F, gt_T, gt_F, eq_T, eq_F, w32_i, kd_1, kd_2, kd_3, kd_4, kd_5, kd_6, kd_7, kd_14, kd_15, kd_16, kd_29, kd_34, kd_56, kd_74, kd_75, kd_76, kd_77, kd_78, kd_79, kd_80, kd_81, kd_82, kd_83, kd_84, kd_85, kd_86, kd_87, kd_88, kd_89, kd_90, kd_91, kd_92, kd_93, kd_94, kd_95, kd_96, kd_97, kd_98, kd_99, kd_100, kd_101, kd_102, kd_103, kd_104, kd_105, kd_106, kd_107, kd_108]; done))
      | (refine Eq.trans (if_neg ?_) ?_; · first | omega | (simp (disch := omega) only [pw, Int.reduceLT, Int.reduceLE, Int.reduceEq, Int.reduceNe, Int.reduceNeg, Int.reduceAdd, Int.reduceSub, Int.reduceMul, Int.reduceGE, Int.reduceGT, Nat.reduceEqDiff, Nat.reduceAdd, and_true, true_and, and_self, not_true_eq_false, not_false_eq_true, ne_eq, and_false, false_and, or_false, or_true, false_or, true_or, vx_some, eq_self, ↓reduceIte, ite_t1, ite_t2, ite_t3, le_T, le_F, lt_T, lt_F, ge_T, ge_F, gt_T, gt_F, eq_T, eq_F, w32_i, kd_1, kd_2, kd_3, kd_4, kd_5, kd_6, kd_7, kd_14, kd_15, kd_16, kd_29, kd_34, kd_56, kd_74, kd_75, kd_76, kd_77, kd_78, kd_79, kd_80, kd_81, kd_82, kd_83, kd_84, kd_85, kd_86, kd_87, kd_88, kd_89, kd_90, kd_91, kd_92, kd_93, kd_94, kd_95, kd_96, kd_97, kd_98, kd_99, kd_100, kd_101, kd_102, kd_103, kd_104, kd_105, kd_106, kd_107, kd_108]; done))
      | (refine Eq.trans (bnd (r := ?_) ?_) ?_; rotate_left 1; (focus (simp (disch := omega) only [pw, Int.reduceLT, Int.reduceLE, Int.reduceEq, Int.reduceNe, Int.reduceNeg, Int.reduceAdd, Int.reduceSub, Int.reduceMul, Int.reduceGE, Int.reduceGT, Nat.reduceEqDiff, Nat.reduceAdd, and_true, true_and, and_self, not_true_eq_false, not_false_eq_true, ne_eq, and_false, false_and, or_false, or_true, false_or, true_or, vx_some, eq_self, ↓reduceIte, ite_t1, ite_t2, ite_t3, le_T, le_F, lt_T, lt_F, ge_T, ge_F, gt_T, gt_F, eq_T, eq_F, w32_i, kd_1, kd_2, kd_3, kd_4, kd_5, kd_6, kd_7, kd_14, kd_15, kd_16, kd_29, kd_34, kd_56, kd_74, kd_75, kd_76, kd_77, kd_78, kd_79, kd_80, kd_81, kd_82, kd_83, kd_84, kd_85, kd_86, kd_87, kd_88, kd_89, kd_90, kd_91, kd_92, kd_93, kd_94, kd_95, kd_96, kd_97, kd_98, kd_99, kd_100, kd_101, kd_102, kd_103, kd_104, kd_105, kd_106, kd_107, kd_108]; exact rfl)); simp only [vx_some])
    exact rx.trans ih'
theorem p_fillsWith {n : Int} {M : Mm} {t : Int} (Z : MTX M t) (f g : Int → Int) {r0 r : Int → Int} (P : PR M t r0 r) {a b c : Int} (ha : -9999 ≤ a ∧ a ≤ 9999) (hb : -9999 ≤ b ∧ b ≤ 9999) (hc : -9999 ≤ c ∧ c ≤ 9999) (io : Int) : ∃ io', vm 254 [(2, 88), (0, t), (0, a), (0, b), (0, c)] (n, mdM M io (gl f (tex M t 0) r) g) = some (none, (n, mdM M io' (gl f (tex M t 0) (mkL M t ((tex M t 4).toNat - 1) (flY M t a b c (tex M t 3).toNat r))) g)) := by
  have Y := Z.2.1.lv Z.2.2.2.1
  obtain ⟨io', h⟩ := p_fillY (n := n) Z f g P ha hb hc (H := (tex M t 3).toNat) (by omega) (tex M t 3).toNat 0 io (9, 0) (by omega)
  exact ⟨io', by rw [e_X12_fillsWith]; exact h⟩
