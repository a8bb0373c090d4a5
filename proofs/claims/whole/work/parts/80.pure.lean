/-! THE PURE PART: the cache: the class's fetch -/
def slC (m : Mm) (C x : Int) : Int := x % m C 2 * m C 3 + wy (fun q => m (C + 1) (x % m C 2 * m C 3 + q)) (fun q => m (C + 2) (x % m C 2 * m C 3 + q)) x (m C 3).toNat
def htC (m : Mm) (C x : Int) : Int := if fh (fun q => m (C + 1) (x % m C 2 * m C 3 + q)) x (m C 3).toNat 0 = -1 then 0 else 1
def hlC (m : Mm) (C x : Int) : Mm := stm (stm (stm (stm m C 5 (m C 5 + 1)) C 6 (m C 6 + if m (C + 1) (slC m C x) = -1 then 1 else 0)) (C + 1) (slC m C x) x) (C + 2) (slC m C x) (m C 5 + 1)
section
variable {n : Int} {m : Mm} {C x : Int}
theorem c_hold24 {M : Mm} {k5 : Int} (hM : M = stm m C 5 k5) (H : CH m C) (x0 : 0 ≤ x) {f : Int} (hf : f = x % m C 2 * m C 3) (f0 : 0 ≤ f) (f1 : f + m C 3 ≤ 32) {R : Mm → Option (Option Vl × Hq)} (hR : (fun M' => vp 12 24 [(2, C), (0, x), (0, f), (0, f + m C 3)] [] (n, M')) = R) : ∀ (k : Nat) (j : Int), j + k = m C 3 → 0 ≤ j → vp 12 24 [(2, C), (0, x), (0, f), (0, f + j)] [] (n, M) = if fh (fun q => m (C + 1) (f + q)) x k j = -1 then R M else some (some (0, 1), (n, stm M (C + 2) (f + fh (fun q => m (C + 1) (f + q)) x k j) k5)) := by
  obtain ⟨k1, k2, k3, kc⟩ := H.kd
  obtain ⟨a, ⟨l0, l1⟩, zz⟩ := H
  have z3 := zz.2
  have M0 : M C 0 = C + 1 := by rw [hM, stm_ap, if_neg (by omega), l0]
  have M1 : M C 1 = C + 2 := by rw [hM, stm_ap, if_neg (by omega), l1]
  have M3 : M C 3 = m C 3 := by rw [hM, stm_ap, if_neg (by omega)]
  have M5 : M C 5 = k5 := by rw [hM, stm_same]
  have ML : M (C + 1) = m (C + 1) := funext fun q => by rw [hM, stm_ap, if_neg (by omega)]
  clear zz a hM hf
  intro k
  induction k with
  | zero =>
    intro j e j0
    unfold fh
    rw [if_pos rfl, ← hR, show j = m C 3 by omega]
  | succ k ih =>
    intro j e j0
    have ihj := ih (j + 1) (by omega) (by omega)
    rw [show f + (j + 1) = f + j + 1 by omega] at ihj
    refine Eq.trans (e_X1_holdAgain_24 ..) ?_
    unfold fh
    dsimp only
    by_cases g : m (C + 1) (f + j) = x
    · rw [if_pos g, if_neg (show ¬ j = -1 by omega)]
      have g2 : M (C + 1) (f + j) = x := by rw [ML]; exact g
      repeat first
        | (refine Eq.trans (if_pos ?_) ?_; · first | omega | (simp (disch := omega) only [k1, M0, k2, M1, k3, M3, g2, Int.reduceLT, Int.reduceLE, Int.reduceEq, Int.reduceNe, Int.reduceNeg, Int.reduceAdd, Int.reduceSub, Int.reduceMul, Int.reduceGE, Int.reduceGT, Nat.reduceEqDiff, Nat.reduceAdd, and_true, true_and, and_self, not_true_eq_false, not_false_eq_true, ne_eq, and_false, false_and, or_false, or_true, false_or, true_or, vx_some, eq_self, ↓reduceIte, ite_t1, ite_t2, ite_t3, le_T, le_F, lt_T, lt_F, ge_T, ge_F, gt_T, gt_F, eq_T, eq_F, w32_i, kd_1, kd_2, kd_3, kd_4, kd_5, kd_6, kd_7, kd_14, kd_15, kd_16, kd_29, kd_34, kd_56, kd_74, kd_75, kd_76, kd_77, kd_78, kd_79, kd_80, kd_81, kd_82, kd_83, kd_84, kd_85, kd_86, kd_87, kd_88, kd_89, kd_90, kd_91, kd_92, kd_93, kd_94, kd_95, kd_96, kd_97, kd_98, kd_99, kd_100, kd_101, kd_102, kd_103, kd_104, kd_105, kd_106, kd_107, kd_108]; done))
        | (refine Eq.trans (if_neg ?_) ?_; · first | omega | (simp (disch := omega) only [k1, M0, k2, M1, k3, M3, g2, Int.reduceLT, Int.reduceLE, Int.reduceEq, Int.reduceNe, Int.reduceNeg, Int.reduceAdd, Int.reduceSub, Int.reduceMul, Int.reduceGE, Int.reduceGT, Nat.reduceEqDiff, Nat.reduceAdd, and_true, true_and, and_self, not_true_eq_false, not_false_eq_true, ne_eq, and_false, false_and, or_false, or_true, false_or, true_or, vx_some, eq_self, ↓reduceIte, ite_t1, ite_t2, ite_t3, le_T, le_F, lt_T, lt_F, ge_T, ge_F, gt_T, gt_F, eq_T, eq_F, w32_i, kd_1, kd_2, kd_3, kd_4, kd_5, kd_6, kd_7, kd_14, kd_15, kd_16, kd_29, kd_34, kd_56, kd_74, kd_75, kd_76, kd_77, kd_78, kd_79, kd_80, kd_81, kd_82, kd_83, kd_84, kd_85, kd_86, kd_87, kd_88, kd_89, kd_90, kd_91, kd_92, kd_93, kd_94, kd_95, kd_96, kd_97, kd_98, kd_99, kd_100, kd_101, kd_102, kd_103, kd_104, kd_105, kd_106, kd_107, kd_108]; done))
        | (refine Eq.trans (bnd (r := ?_) ?_) ?_; rotate_left 1; (focus (simp (disch := omega) only [k1, M0, k2, M1, k3, M3, g2, Int.reduceLT, Int.reduceLE, Int.reduceEq, Int.reduceNe, Int.reduceNeg, Int.reduceAdd, Int.reduceSub, Int.reduceMul, Int.reduceGE, Int.reduceGT, Nat.reduceEqDiff, Nat.reduceAdd, and_true, true_and, and_self, not_true_eq_false, not_false_eq_true, ne_eq, and_false, false_and, or_false, or_true, false_or, true_or, vx_some, eq_self, ↓reduceIte, ite_t1, ite_t2, ite_t3, le_T, le_F, lt_T, lt_F, ge_T, ge_F, gt_T, gt_F, eq_T, eq_F, w32_i, kd_1, kd_2, kd_3, kd_4, kd_5, kd_6, kd_7, kd_14, kd_15, kd_16, kd_29, kd_34, kd_56, kd_74, kd_75, kd_76, kd_77, kd_78, kd_79, kd_80, kd_81, kd_82, kd_83, kd_84, kd_85, kd_86, kd_87, kd_88, kd_89, kd_90, kd_91, kd_92, kd_93, kd_94, kd_95, kd_96, kd_97, kd_98, kd_99, kd_100, kd_101, kd_102, kd_103, kd_104, kd_105, kd_106, kd_107, kd_108]; exact rfl)); simp only [vx_some])
      simp only [M1, M5]
    · rw [if_neg g]
      have g2 : ¬ M (C + 1) (f + j) = x := by rw [ML]; exact g
      repeat first
        | (refine Eq.trans (if_pos ?_) ?_; · first | omega | (simp (disch := omega) only [k1, M0, k2, M1, k3, M3, g2, Int.reduceLT, Int.reduceLE, Int.reduceEq, Int.reduceNe, Int.reduceNeg, Int.reduceAdd, Int.reduceSub, Int.reduceMul, Int.reduceGE, Int.reduceGT, Nat.reduceEqDiff, Nat.reduceAdd, and_true, true_and, and_self, not_true_eq_false, not_false_eq_true, ne_eq, and_false, false_and, or_false, or_true, false_or, true_or, vx_some, eq_self, ↓reduceIte, ite_t1, ite_t2, ite_t3, le_T, le_F, lt_T, lt_F, ge_T, ge_F, gt_T, gt_F, eq_T, eq_F, w32_i, kd_1, kd_2, kd_3, kd_4, kd_5, kd_6, kd_7, kd_14, kd_15, kd_16, kd_29, kd_34, kd_56, kd_74, kd_75, kd_76, kd_77, kd_78, kd_79, kd_80, kd_81, kd_82, kd_83, kd_84, kd_85, kd_86, kd_87, kd_88, kd_89, kd_90, kd_91, kd_92, kd_93, kd_94, kd_95, kd_96, kd_97, kd_98, kd_99, kd_100, kd_101, kd_102, kd_103, kd_104, kd_105, kd_106, kd_107, kd_108]; done))
        | (refine Eq.trans (if_neg ?_) ?_; · first | omega | (simp (disch := omega) only [k1, M0, k2, M1, k3, M3, g2, Int.reduceLT, Int.reduceLE, Int.reduceEq, Int.reduceNe, Int.reduceNeg, Int.reduceAdd, Int.reduceSub, Int.reduceMul, Int.reduceGE, Int.reduceGT, Nat.reduceEqDiff, Nat.reduceAdd, and_true, true_and, and_self, not_true_eq_false, not_false_eq_true, ne_eq, and_false, false_and, or_false, or_true, false_or, true_or, vx_some, eq_self, ↓reduceIte, ite_t1, ite_t2, ite_t3, le_T, le_F, lt_T, lt_F, ge_T, ge_F, gt_T, gt_F, eq_T, eq_F, w32_i, kd_1, kd_2, kd_3, kd_4, kd_5, kd_6, kd_7, kd_14, kd_15, kd_16, kd_29, kd_34, kd_56, kd_74, kd_75, kd_76, kd_77, kd_78, kd_79, kd_80, kd_81, kd_82, kd_83, kd_84, kd_85, kd_86, kd_87, kd_88, kd_89, kd_90, kd_91, kd_92, kd_93, kd_94, kd_95, kd_96, kd_97, kd_98, kd_99, kd_100, kd_101, kd_102, kd_103, kd_104, kd_105, kd_106, kd_107, kd_108]; done))
        | (refine Eq.trans (bnd (r := ?_) ?_) ?_; rotate_left 1; (focus (simp (disch := omega) only [k1, M0, k2, M1, k3, M3, g2, Int.reduceLT, Int.reduceLE, Int.reduceEq, Int.reduceNe, Int.reduceNeg, Int.reduceAdd, Int.reduceSub, Int.reduceMul, Int.reduceGE, Int.reduceGT, Nat.reduceEqDiff, Nat.reduceAdd, and_true, true_and, and_self, not_true_eq_false, not_false_eq_true, ne_eq, and_false, false_and, or_false, or_true, false_or, true_or, vx_some, eq_self, ↓reduceIte, ite_t1, ite_t2, ite_t3, le_T, le_F, lt_T, lt_F, ge_T, ge_F, gt_T, gt_F, eq_T, eq_F, w32_i, kd_1, kd_2, kd_3, kd_4, kd_5, kd_6, kd_7, kd_14, kd_15, kd_16, kd_29, kd_34, kd_56, kd_74, kd_75, kd_76, kd_77, kd_78, kd_79, kd_80, kd_81, kd_82, kd_83, kd_84, kd_85, kd_86, kd_87, kd_88, kd_89, kd_90, kd_91, kd_92, kd_93, kd_94, kd_95, kd_96, kd_97, kd_98, kd_99, kd_100, kd_101, kd_102, kd_103, kd_104, kd_105, kd_106, kd_107, kd_108]; exact rfl)); simp only [vx_some])
      rw [w32_i (by omega) (by omega)]
      exact ihj
theorem c_hold (H : CH m C) (x0 : 0 ≤ x) (x1 : x ≤ 2400) (k50 : 0 ≤ m C 5) (k51 : m C 5 ≤ 1000000) (k60 : 0 ≤ m C 6) (k61 : m C 6 ≤ 1000000) : vm 12 [(2, C), (0, x)] (n, m) = some (some (0, htC m C x), (n, hlC m C x)) := by
  have z := H.2.2
  have hS := z.1
  have t0 := Int.emod_nonneg x (show m C 2 ≠ 0 by omega)
  have t1 := Int.emod_lt_of_pos x (show 0 < m C 2 by omega)
  have fs := z.fs t0 t1
  obtain ⟨k1, k2, k3, kc⟩ := H.kd
  have z3 := z.2
  have l0 := H.2.1.1
  have l1 := H.2.1.2
  have s2 : ∀ v : Int, stm m C 5 v C 2 = m C 2 := fun v => by rw [stm_ap, if_neg (by omega)]
  have s3 : ∀ v : Int, stm m C 5 v C 3 = m C 3 := fun v => by rw [stm_ap, if_neg (by omega)]
  rw [e_X1_holdAgain]
  rw [if_pos (by rw [k1]; exact ⟨by omega, rfl⟩), if_pos (by rw [k1]; exact ⟨⟨by omega, rfl⟩, trivial⟩), if_pos (by rw [k1]; exact ⟨by omega, rfl⟩), if_pos (by rw [s2]; omega), if_pos (by rw [k1]; exact ⟨by omega, rfl⟩)]
  rw [s2, s3, Int.tmod_eq_emod_of_nonneg x0, w32_i (x := m C 5 + 1) (by omega) (by omega), w32_i (x := x % m C 2 * m C 3) (by omega) (by omega)]
  have lp := c_hold24 (n := n) (m := m) (C := C) (x := x) rfl H x0 rfl fs.1 fs.2.1 (k5 := m C 5 + 1) rfl (m C 3).toNat 0 (by omega) (by omega)
  rw [Int.add_zero] at lp
  dsimp only at lp ⊢
  rw [lp]
  clear lp
  have sp := fh_spec (fun q => m (C + 1) (x % m C 2 * m C 3 + q)) x (m C 3).toNat 0 (by omega)
  have wr := wy_rng (L := fun q => m (C + 1) (x % m C 2 * m C 3 + q)) (T := fun q => m (C + 2) (x % m C 2 * m C 3 + q)) (x := x) (W := (m C 3).toNat) (by omega)
  by_cases g : fh (fun q => m (C + 1) (x % m C 2 * m C 3 + q)) x (m C 3).toNat 0 = -1
  · have es : slC m C x = x % m C 2 * m C 3 + gv (fun q => m (C + 1) (x % m C 2 * m C 3 + q)) (fun q => m (C + 2) (x % m C 2 * m C 3 + q)) (m C 3).toNat 0 0 := by
      unfold slC wy
      rw [if_pos g]
    have eh : htC m C x = 0 := if_pos g
    rw [if_pos g, eh]
    unfold wy at wr
    rw [if_pos g] at wr
    have M0 : stm m C 5 (m C 5 + 1) C 0 = C + 1 := by rw [stm_ap, if_neg (by omega), l0]
    have M1 : stm m C 5 (m C 5 + 1) C 1 = C + 2 := by rw [stm_ap, if_neg (by omega), l1]
    have HM : CH (stm m C 5 (m C 5 + 1)) C := ⟨H.1, ⟨M0, M1⟩, by rw [s2, s3]; exact z⟩
    have cg := c_give12 (h := (n, stm m C 5 (m C 5 + 1))) HM (f := x % m C 2 * m C 3) fs.1 (by show _ + stm m C 5 (m C 5 + 1) C 3 ≤ 32; rw [s3]; exact fs.2.1) (m C 3).toNat 0 0 (0, x % m C 2) (by show _ = stm m C 5 (m C 5 + 1) C 3; rw [s3]; omega) (by omega) (by omega)
    have e1 : stm m C 5 (m C 5 + 1) (C + 1) = m (C + 1) := funext fun q => by rw [stm_ap, if_neg (by omega)]
    have e2 : stm m C 5 (m C 5 + 1) (C + 2) = m (C + 2) := funext fun q => by rw [stm_ap, if_neg (by omega)]
    rw [Int.add_zero] at cg
    dsimp only at cg
    rw [e1, e2, ← es] at cg
    have give : vm 11 [(2, C), (0, x % m C 2)] (n, stm m C 5 (m C 5 + 1)) = some (some (0, slC m C x), (n, stm m C 5 (m C 5 + 1))) := by
      rw [e_X1_slotToGive]
      rw [if_pos (by rw [k1]; exact ⟨by omega, rfl⟩)]
      dsimp only
      rw [s3, w32_i (x := x % m C 2 * m C 3) (by omega) (by omega)]
      exact cg
    have sr : 0 ≤ slC m C x ∧ slC m C x < 32 := by rw [es]; omega
    unfold hlC
    generalize slC m C x = s at *
    clear cg e2 es sp wr g
    have e15 : ∀ v : Int, stm m C 5 (m C 5 + 1) (C + 1) v = m (C + 1) v := fun v => by rw [e1]
    have e6 : stm m C 5 (m C 5 + 1) C 6 = m C 6 := by rw [stm_ap, if_neg (by omega)]
    have q0 : ∀ v : Int, stm (stm m C 5 (m C 5 + 1)) C 6 v C 0 = C + 1 := fun v => by rw [stm_ap, if_neg (by omega), M0]
    have q1 : ∀ v u : Int, stm (stm (stm m C 5 (m C 5 + 1)) C 6 v) (C + 1) s u C 1 = C + 2 := fun v u => by rw [stm_ap, if_neg (by omega), stm_ap, if_neg (by omega), M1]
    have q5 : ∀ v u : Int, stm (stm (stm m C 5 (m C 5 + 1)) C 6 v) (C + 1) s u C 5 = m C 5 + 1 := fun v u => by rw [stm_ap, if_neg (by omega), stm_ap, if_neg (by omega), stm_same]
    have s2' := s2 (m C 5 + 1)
    have s3' := s3 (m C 5 + 1)
    have et : x.tmod (m C 2) = x % m C 2 := Int.tmod_eq_emod_of_nonneg x0
    clear s2 s3
    rw [e_X1_holdAgain_24]
    generalize stm m C 5 (m C 5 + 1) = M at *
    by_cases g : m (C + 1) s = -1
    · rw [if_pos g]
      repeat first
        | (refine Eq.trans (if_pos ?_) ?_; · first | omega | (simp (disch := omega) only [k1, k2, k3, s2', s3', et, give, M0, e15, e6, g, q0, q1, q5, Int.reduceLT, Int.reduceLE, Int.reduceEq, Int.reduceNe, Int.reduceNeg, Int.reduceAdd, Int.reduceSub, Int.reduceMul, Int.reduceGE, Int.reduceGT, Nat.reduceEqDiff, Nat.reduceAdd, and_true, true_and, and_self, not_true_eq_false, not_false_eq_true, ne_eq, and_false, false_and, or_false, or_true, false_or, true_or, vx_some, eq_self, ↓reduceIte, ite_t1, ite_t2, ite_t3, le_T, le_F, lt_T, lt_F, ge_T, ge_F, gt_T, gt_F, eq_T, eq_F, w32_i, kd_1, kd_2, kd_3, kd_4, kd_5, kd_6, kd_7, kd_14, kd_15, kd_16, kd_29, kd_34, kd_56, kd_74, kd_75, kd_76, kd_77, kd_78, kd_79, kd_80, kd_81, kd_82, kd_83, kd_84, kd_85, kd_86, kd_87, kd_88, kd_89, kd_90, kd_91, kd_92, kd_93, kd_94, kd_95, kd_96, kd_97, kd_98, kd_99, kd_100, kd_101, kd_102, kd_103, kd_104, kd_105, kd_106, kd_107, kd_108]; done))
        | (refine Eq.trans (if_neg ?_) ?_; · first | omega | (simp (disch := omega) only [k1, k2, k3, s2', s3', et, give, M0, e15, e6, g, q0, q1, q5, Int.reduceLT, Int.reduceLE, Int.reduceEq, Int.reduceNe, Int.reduceNeg, Int.reduceAdd, Int.reduceSub, Int.reduceMul, Int.reduceGE, Int.reduceGT, Nat.reduceEqDiff, Nat.reduceAdd, and_true, true_and, and_self, not_true_eq_false, not_false_eq_true, ne_eq, and_false, false_and, or_false, or_true, false_or, true_or, vx_some, eq_self, ↓reduceIte, ite_t1, ite_t2, ite_t3, le_T, le_F, lt_T, lt_F, ge_T, ge_F, gt_T, gt_F, eq_T, eq_F, w32_i, kd_1, kd_2, kd_3, kd_4, kd_5, kd_6, kd_7, kd_14, kd_15, kd_16, kd_29, kd_34, kd_56, kd_74, kd_75, kd_76, kd_77, kd_78, kd_79, kd_80, kd_81, kd_82, kd_83, kd_84, kd_85, kd_86, kd_87, kd_88, kd_89, kd_90, kd_91, kd_92, kd_93, kd_94, kd_95, kd_96, kd_97, kd_98, kd_99, kd_100, kd_101, kd_102, kd_103, kd_104, kd_105, kd_106, kd_107, kd_108]; done))
        | (refine Eq.trans (bnd (r := ?_) ?_) ?_; rotate_left 1; (focus (simp (disch := omega) only [k1, k2, k3, s2', s3', et, give, M0, e15, e6, g, q0, q1, q5, Int.reduceLT, Int.reduceLE, Int.reduceEq, Int.reduceNe, Int.reduceNeg, Int.reduceAdd, Int.reduceSub, Int.reduceMul, Int.reduceGE, Int.reduceGT, Nat.reduceEqDiff, Nat.reduceAdd, and_true, true_and, and_self, not_true_eq_false, not_false_eq_true, ne_eq, and_false, false_and, or_false, or_true, false_or, true_or, vx_some, eq_self, ↓reduceIte, ite_t1, ite_t2, ite_t3, le_T, le_F, lt_T, lt_F, ge_T, ge_F, gt_T, gt_F, eq_T, eq_F, w32_i, kd_1, kd_2, kd_3, kd_4, kd_5, kd_6, kd_7, kd_14, kd_15, kd_16, kd_29, kd_34, kd_56, kd_74, kd_75, kd_76, kd_77, kd_78, kd_79, kd_80, kd_81, kd_82, kd_83, kd_84, kd_85, kd_86, kd_87, kd_88, kd_89, kd_90, kd_91, kd_92, kd_93, kd_94, kd_95, kd_96, kd_97, kd_98, kd_99, kd_100, kd_101, kd_102, kd_103, kd_104, kd_105, kd_106, kd_107, kd_108]; exact rfl)); simp only [vx_some])
      simp only [e6, w32_i (x := m C 6 + 1) (by omega) (by omega), q0, q1, q5]
    · rw [if_neg g]
      repeat first
        | (refine Eq.trans (if_pos ?_) ?_; · first | omega | (simp (disch := omega) only [k1, k2, k3, s2', s3', et, give, M0, e15, e6, g, q0, q1, q5, Int.reduceLT, Int.reduceLE, Int.reduceEq, Int.reduceNe, Int.reduceNeg, Int.reduceAdd, Int.reduceSub, Int.reduceMul, Int.reduceGE, Int.reduceGT, Nat.reduceEqDiff, Nat.reduceAdd, and_true, true_and, and_self, not_true_eq_false, not_false_eq_true, ne_eq, and_false, false_and, or_false, or_true, false_or, true_or, vx_some, eq_self, ↓reduceIte, ite_t1, ite_t2, ite_t3, le_T, le_F, lt_T, lt_F, ge_T, ge_F, gt_T, gt_F, eq_T, eq_F, w32_i, kd_1, kd_2, kd_3, kd_4, kd_5, kd_6, kd_7, kd_14, kd_15, kd_16, kd_29, kd_34, kd_56, kd_74, kd_75, kd_76, kd_77, kd_78, kd_79, kd_80, kd_81, kd_82, kd_83, kd_84, kd_85, kd_86, kd_87, kd_88, kd_89, kd_90, kd_91, kd_92, kd_93, kd_94, kd_95, kd_96, kd_97, kd_98, kd_99, kd_100, kd_101, kd_102, kd_103, kd_104, kd_105, kd_106, kd_107, kd_108]; done))
        | (refine Eq.trans (if_neg ?_) ?_; · first | omega | (simp (disch := omega) only [k1, k2, k3, s2', s3', et, give, M0, e15, e6, g, q0, q1, q5, Int.reduceLT, Int.reduceLE, Int.reduceEq, Int.reduceNe, Int.reduceNeg, Int.reduceAdd, Int.reduceSub, Int.reduceMul, Int.reduceGE, Int.reduceGT, Nat.reduceEqDiff, Nat.reduceAdd, and_true, true_and, and_self, not_true_eq_false, not_false_eq_true, ne_eq, and_false, false_and, or_false, or_true, false_or, true_or, vx_some, eq_self, ↓reduceIte, ite_t1, ite_t2, ite_t3, le_T, le_F, lt_T, lt_F, ge_T, ge_F, gt_T, gt_F, eq_T, eq_F, w32_i, kd_1, kd_2, kd_3, kd_4, kd_5, kd_6, kd_7, kd_14, kd_15, kd_16, kd_29, kd_34, kd_56, kd_74, kd_75, kd_76, kd_77, kd_78, kd_79, kd_80, kd_81, kd_82, kd_83, kd_84, kd_85, kd_86, kd_87, kd_88, kd_89, kd_90, kd_91, kd_92, kd_93, kd_94, kd_95, kd_96, kd_97, kd_98, kd_99, kd_100, kd_101, kd_102, kd_103, kd_104, kd_105, kd_106, kd_107, kd_108]; done))
        | (refine Eq.trans (bnd (r := ?_) ?_) ?_; rotate_left 1; (focus (simp (disch := omega) only [k1, k2, k3, s2', s3', et, give, M0, e15, e6, g, q0, q1, q5, Int.reduceLT, Int.reduceLE, Int.reduceEq, Int.reduceNe, Int.reduceNeg, Int.reduceAdd, Int.reduceSub, Int.reduceMul, Int.reduceGE, Int.reduceGT, Nat.reduceEqDiff, Nat.reduceAdd, and_true, true_and, and_self, not_true_eq_false, not_false_eq_true, ne_eq, and_false, false_and, or_false, or_true, false_or, true_or, vx_some, eq_self, ↓reduceIte, ite_t1, ite_t2, ite_t3, le_T, le_F, lt_T, lt_F, ge_T, ge_F, gt_T, gt_F, eq_T, eq_F, w32_i, kd_1, kd_2, kd_3, kd_4, kd_5, kd_6, kd_7, kd_14, kd_15, kd_16, kd_29, kd_34, kd_56, kd_74, kd_75, kd_76, kd_77, kd_78, kd_79, kd_80, kd_81, kd_82, kd_83, kd_84, kd_85, kd_86, kd_87, kd_88, kd_89, kd_90, kd_91, kd_92, kd_93, kd_94, kd_95, kd_96, kd_97, kd_98, kd_99, kd_100, kd_101, kd_102, kd_103, kd_104, kd_105, kd_106, kd_107, kd_108]; exact rfl)); simp only [vx_some])
      simp only [e6, w32_i (x := m C 6 + 0) (by omega) (by omega), q0, q1, q5]
  · have es : slC m C x = x % m C 2 * m C 3 + fh (fun q => m (C + 1) (x % m C 2 * m C 3 + q)) x (m C 3).toNat 0 := by
      unfold slC wy
      rw [if_neg g]
    have eh : htC m C x = 1 := if_neg g
    rw [if_neg g, eh, ← es]
    have e3 : m (C + 1) (slC m C x) = x := by
      rw [es]
      rcases sp with q | q
      · exact absurd q.1 g
      · exact q.2.2
    unfold hlC
    generalize slC m C x = s at *
    rw [e3, if_neg (by omega), Int.add_zero, stm_id (m := stm m C 5 (m C 5 + 1)) (a := C) (i := 6) (by rw [stm_ap, if_neg (by omega)]), stm_id (m := stm m C 5 (m C 5 + 1)) (a := C + 1) (by rw [stm_ap, if_neg (by omega)]; exact e3)]
end
