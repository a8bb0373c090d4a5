/-! THE PURE PART: bank -/
section
variable {i n : Int} {m m1 : Mm} {D N : Int}
theorem c_bad (hD : D = 30 ∨ D = 52) (F : FX m) (h11 : m 1 1 = N) (h14 : m 1 4 = D) (r65 : vm 65 [(2, 3), (2, 2), (0, N), (2, D)] (n, m) = some (some (0, 0), (n, m1))) : vm 107 [(2, 1)] (n, m) = some (some (0, -1), (n, stm m1 1 1 0)) := by
  have c10 := F.c1_0
  have c12 := F.c1_2
  clear F
  rw [e_X11_bank]
  repeat first
    | (refine Eq.trans (if_pos ?_) ?_; · first | omega | (simp (disch := omega) only [c12, c10, h11, h14, r65, Int.reduceLT, Int.reduceLE, Int.reduceEq, Int.reduceNe, Int.reduceNeg, Int.reduceAdd, Int.reduceSub, Int.reduceMul, Int.reduceGE, Int.reduceGT, Nat.reduceEqDiff, Nat.reduceAdd, and_true, true_and, and_self, not_true_eq_false, not_false_eq_true, ne_eq, and_false, false_and, or_false, or_true, false_or, true_or, vx_some, eq_self, ↓reduceIte, ite_t1, ite_t2, ite_t3, le_T, le_F, lt_T, lt_F, ge_T, ge_F, gt_T, gt_F, eq_T, eq_F, w32_i, kd_1, kd_2, kd_3, kd_4, kd_5, kd_6, kd_7, kd_14, kd_15, kd_16, kd_29, kd_34, kd_56, kd_74, kd_75, kd_76, kd_77, kd_78, kd_79, kd_80, kd_81, kd_82, kd_83, kd_84, kd_85, kd_86, kd_87, kd_88, kd_89, kd_90, kd_91, kd_92, kd_93, kd_94, kd_95, kd_96, kd_97, kd_98, kd_99, kd_100, kd_101, kd_102, kd_103, kd_104, kd_105, kd_106, kd_107, kd_108]; done))
    | (refine Eq.trans (if_neg ?_) ?_; · first | omega | (simp (disch := omega) only [c12, c10, h11, h14, r65, Int.reduceLT, Int.reduceLE, Int.reduceEq, Int.reduceNe, Int.reduceNeg, Int.reduceAdd, Int.reduceSub, Int.reduceMul, Int.reduceGE, Int.reduceGT, Nat.reduceEqDiff, Nat.reduceAdd, and_true, true_and, and_self, not_true_eq_false, not_false_eq_true, ne_eq, and_false, false_and, or_false, or_true, false_or, true_or, vx_some, eq_self, ↓reduceIte, ite_t1, ite_t2, ite_t3, le_T, le_F, lt_T, lt_F, ge_T, ge_F, gt_T, gt_F, eq_T, eq_F, w32_i, kd_1, kd_2, kd_3, kd_4, kd_5, kd_6, kd_7, kd_14, kd_15, kd_16, kd_29, kd_34, kd_56, kd_74, kd_75, kd_76, kd_77, kd_78, kd_79, kd_80, kd_81, kd_82, kd_83, kd_84, kd_85, kd_86, kd_87, kd_88, kd_89, kd_90, kd_91, kd_92, kd_93, kd_94, kd_95, kd_96, kd_97, kd_98, kd_99, kd_100, kd_101, kd_102, kd_103, kd_104, kd_105, kd_106, kd_107, kd_108]; done))
    | (refine Eq.trans (bnd (r := ?_) ?_) ?_; rotate_left 1; (focus (simp (disch := omega) only [c12, c10, h11, h14, r65, Int.reduceLT, Int.reduceLE, Int.reduceEq, Int.reduceNe, Int.reduceNeg, Int.reduceAdd, Int.reduceSub, Int.reduceMul, Int.reduceGE, Int.reduceGT, Nat.reduceEqDiff, Nat.reduceAdd, and_true, true_and, and_self, not_true_eq_false, not_false_eq_true, ne_eq, and_false, false_and, or_false, or_true, false_or, true_or, vx_some, eq_self, ↓reduceIte, ite_t1, ite_t2, ite_t3, le_T, le_F, lt_T, lt_F, ge_T, ge_F, gt_T, gt_F, eq_T, eq_F, w32_i, kd_1, kd_2, kd_3, kd_4, kd_5, kd_6, kd_7, kd_14, kd_15, kd_16, kd_29, kd_34, kd_56, kd_74, kd_75, kd_76, kd_77, kd_78, kd_79, kd_80, kd_81, kd_82, kd_83, kd_84, kd_85, kd_86, kd_87, kd_88, kd_89, kd_90, kd_91, kd_92, kd_93, kd_94, kd_95, kd_96, kd_97, kd_98, kd_99, kd_100, kd_101, kd_102, kd_103, kd_104, kd_105, kd_106, kd_107, kd_108]; exact rfl)); simp only [vx_some])
  all_goals with_reducible rfl
theorem p_bad {M M1 : Mm} (r205 : vm 205 [(2, 88)] (n, M) = vp 205 36 [(2, 88)] [] (n, M1)) (b : 1 ≤ M1 88 8) : vm 205 [(2, 88)] (n, M) = some (some (0, -1), (n, stm (stm M1 88 10 (M1 88 8)) 88 11 (M1 88 9))) := by
  have d := d_isGood (n := n) b
  have y8 : ∀ x y : Int, stm (stm M1 88 10 x) 88 11 y 88 8 = M1 88 8 := fun x y => by rw [stm_k (by omega), stm_k (by omega)]
  have y9 : ∀ x : Int, stm M1 88 10 x 88 9 = M1 88 9 := fun x => by rw [stm_k (by omega)]
  rw [r205]
  refine Eq.trans (e_X12_bank_36 ..) ?_
  repeat first
    | (refine Eq.trans (if_pos ?_) ?_; · first | omega | (simp (disch := omega) only [d, y8, y9, Int.reduceLT, Int.reduceLE, Int.reduceEq, Int.reduceNe, Int.reduceNeg, Int.reduceAdd, Int.reduceSub, Int.reduceMul, Int.reduceGE, Int.reduceGT, Nat.reduceEqDiff, Nat.reduceAdd, and_true, true_and, and_self, not_true_eq_false, not_false_eq_true, ne_eq, and_false, false_and, or_false, or_true, false_or, true_or, vx_some, eq_self, ↓reduceIte, ite_t1, ite_t2, ite_t3, le_T, le_F, lt_T, lt_F, ge_T, ge_F, gt_T, gt_F, eq_T, eq_F, w32_i, kd_1, kd_2, kd_3, kd_4, kd_5, kd_6, kd_7, kd_14, kd_15, kd_16, kd_29, kd_34, kd_56, kd_74, kd_75, kd_76, kd_77, kd_78, kd_79, kd_80, kd_81, kd_82, kd_83, kd_84, kd_85, kd_86, kd_87, kd_88, kd_89, kd_90, kd_91, kd_92, kd_93, kd_94, kd_95, kd_96, kd_97, kd_98, kd_99, kd_100, kd_101, kd_102, kd_103, kd_104, kd_105, kd_106, kd_107, kd_108]; done))
    | (refine Eq.trans (if_neg ?_) ?_; · first | omega | (simp (disch := omega) only [d, y8, y9, Int.reduceLT, Int.reduceLE, Int.reduceEq, Int.reduceNe, Int.reduceNeg, Int.reduceAdd, Int.reduceSub, Int.reduceMul, Int.reduceGE, Int.reduceGT, Nat.reduceEqDiff, Nat.reduceAdd, and_true, true_and, and_self, not_true_eq_false, not_false_eq_true, ne_eq, and_false, false_and, or_false, or_true, false_or, true_or, vx_some, eq_self, ↓reduceIte, ite_t1, ite_t2, ite_t3, le_T, le_F, lt_T, lt_F, ge_T, ge_F, gt_T, gt_F, eq_T, eq_F, w32_i, kd_1, kd_2, kd_3, kd_4, kd_5, kd_6, kd_7, kd_14, kd_15, kd_16, kd_29, kd_34, kd_56, kd_74, kd_75, kd_76, kd_77, kd_78, kd_79, kd_80, kd_81, kd_82, kd_83, kd_84, kd_85, kd_86, kd_87, kd_88, kd_89, kd_90, kd_91, kd_92, kd_93, kd_94, kd_95, kd_96, kd_97, kd_98, kd_99, kd_100, kd_101, kd_102, kd_103, kd_104, kd_105, kd_106, kd_107, kd_108]; done))
    | (refine Eq.trans (bnd (r := ?_) ?_) ?_; rotate_left 1; (focus (simp (disch := omega) only [d, y8, y9, Int.reduceLT, Int.reduceLE, Int.reduceEq, Int.reduceNe, Int.reduceNeg, Int.reduceAdd, Int.reduceSub, Int.reduceMul, Int.reduceGE, Int.reduceGT, Nat.reduceEqDiff, Nat.reduceAdd, and_true, true_and, and_self, not_true_eq_false, not_false_eq_true, ne_eq, and_false, false_and, or_false, or_true, false_or, true_or, vx_some, eq_self, ↓reduceIte, ite_t1, ite_t2, ite_t3, le_T, le_F, lt_T, lt_F, ge_T, ge_F, gt_T, gt_F, eq_T, eq_F, w32_i, kd_1, kd_2, kd_3, kd_4, kd_5, kd_6, kd_7, kd_14, kd_15, kd_16, kd_29, kd_34, kd_56, kd_74, kd_75, kd_76, kd_77, kd_78, kd_79, kd_80, kd_81, kd_82, kd_83, kd_84, kd_85, kd_86, kd_87, kd_88, kd_89, kd_90, kd_91, kd_92, kd_93, kd_94, kd_95, kd_96, kd_97, kd_98, kd_99, kd_100, kd_101, kd_102, kd_103, kd_104, kd_105, kd_106, kd_107, kd_108]; exact rfl)); simp only [vx_some])
  all_goals simp only [y9]
theorem k_bank {h : Hq} (I : INV i h) (hi : i < 600) : OKC i 107 205 [] h := by
  obtain ⟨n, m⟩ := h
  have F : FX m := I.fx
  obtain ⟨pl1, pl2, -⟩ := I.pl
  obtain ⟨tp1, tp2, tp3⟩ := I.tp
  have O : m 88 30 = -1 := I.ou.1
  dsimp only at pl1 pl2 tp1 tp2 tp3
  obtain ⟨D, hDe⟩ : ∃ D : Int, m 1 4 = D := ⟨_, rfl⟩
  have hD : D = 30 ∨ D = 52 := by omega
  have h13 : m 1 3 = 82 - D := by omega
  obtain ⟨N, hN⟩ : ∃ N : Int, m 1 1 = N := ⟨_, rfl⟩
  rw [hN] at tp2 tp3
  obtain ⟨b, m1, Mx, r65, rx, fP, fQ, bx, res⟩ := parse_both (n := n) hD F F (tp1.symm.trans hN) tp2.1 tp2.2 tp3
  have fPn : ∀ o q : Int, o < 0 → m1 o q = m o q := fun o q h => fP o q (by unfold CP; omega)
  have fP89 : ∀ q : Int, m1 89 q = m 89 q := fun q => fP 89 q (by unfold CP; omega)
  have fP88 : m1 88 1 = m 88 1 := fP 88 1 (by unfold CP; omega)
  have fP13 : m1 1 3 = 82 - D := by rw [fP 1 3 (by unfold CP; omega)]; exact h13
  have fP14 : m1 1 4 = D := by rw [fP 1 4 (by unfold CP; omega)]; exact hDe
  have fP30 : m1 88 30 = m 88 30 := fP 88 30 (by unfold CP; omega)
  rcases res with ⟨eb, L, s5⟩ | ⟨eb, B⟩
  · subst eb
    have Ox : Mx 88 30 = -1 := by rw [fQ 88 30 (by unfold MP; omega)]; exact O
    obtain ⟨v, mc, Mx', r107, -, BG, frC, -⟩ := bank_good (n := n) hD F hN hDe r65 rx fP13 fP14 L s5 bx Ox
    have nC : ∀ o q : Int, (o < 0 ∨ o = 89 ∨ o = 88) → ¬ CBC D o q := fun o q h => by unfold CBC CP; omega
    obtain ⟨b', m1', M1, r65', r205, fP', fQ', b1, res'⟩ := parse_both (n := n) (M := mc) hD F BG.1.1 (by rw [frC 88 1 (nC _ _ (by omega)), fP88]; exact tp1.symm.trans hN) tp2.1 tp2.2 (fun k k0 k1 => by
      rw [frC 89 k (nC _ _ (by omega)), fP89]
      exact tp3 k k0 k1)
    have ee := r65.symm.trans r65'
    simp only [Option.some.injEq, Prod.mk.injEq, true_and] at ee
    obtain ⟨e1, e2⟩ := ee
    subst e1
    subst e2
    rcases res' with ⟨-, L', s5'⟩ | ⟨eb', -⟩
    · have O1 : M1 88 30 = -1 := by rw [fQ' 88 30 (by unfold MP; omega), frC 88 30 (nC _ _ (by omega)), fP30]; exact O
      obtain ⟨v', mc', M', s107, s205, BG', frC', frM'⟩ := bank_good (n := n) hD F hN hDe r65 r205 fP13 fP14 L' s5' b1 O1
      have e3 := r107.symm.trans s107
      simp only [Option.some.injEq, Prod.mk.injEq, true_and] at e3
      obtain ⟨e4, e5⟩ := e3
      subst e5
      rw [← e4] at s205
      have ne : ∀ o q : Int, ¬ MBC o q → M' o q = mc o q := fun o q h => (frM' o q h).trans (fQ' o q (fun w => h (by
        unfold MP at w
        unfold MBC
        omega)))
      have ne1 : ∀ o q : Int, ¬ CBC D o q → mc o q = m o q := fun o q h => (frC o q h).trans (fP o q (fun w => h (by
        unfold CBC
        rcases w with w | w | w
        · exact Or.inl w
        · exact Or.inr (Or.inl w)
        · exact Or.inr (Or.inr (Or.inl w)))))
      exact ⟨v, (n, mc), (n, M'), r107, s205, funext fun q => ne1 (-1) q (nC _ _ (by omega)), funext fun q => (ne (-1) q (by unfold MBC; omega)).trans (ne1 (-1) q (nC _ _ (by omega))), INV.good I hi hD BG' ne (fun o q h h2 => (ne o q h2).trans (ne1 o q h))⟩
    · omega
  · subst eb
    have r107 := c_bad (n := n) hD F hN hDe r65
    have fC : ∀ o q : Int, ¬ (o = 1 ∧ q = 1) → stm m1 1 1 0 o q = m1 o q := fun o q h => by rw [stm_ap, if_neg h]
    have FC : FX (stm m1 1 1 0) := (fP.fx hD F).fr (fun o q h => fC o q (by unfold FXP at h; omega))
    obtain ⟨b', m1', M1, r65', r205, fP', fQ', b1, res'⟩ := parse_both (n := n) (M := stm m1 1 1 0) hD F FC (by rw [fC 88 1 (by omega), fP88]; exact tp1.symm.trans hN) tp2.1 tp2.2 (fun k k0 k1 => by
      rw [fC 89 k (by omega), fP89]
      exact tp3 k k0 k1)
    have ee := r65.symm.trans r65'
    simp only [Option.some.injEq, Prod.mk.injEq, true_and] at ee
    obtain ⟨e1, e2⟩ := ee
    subst e1
    subst e2
    rcases res' with ⟨eb', -, -⟩ | ⟨-, B'⟩
    · omega
    · have p := p_bad (n := n) r205 B'.1.1
      have f1 : ∀ o q : Int, ¬ (o = 88 ∧ (q = 10 ∨ q = 11)) → stm (stm M1 88 10 (M1 88 8)) 88 11 (M1 88 9) o q = M1 o q := fun o q h => by rw [stm_ap, if_neg (by omega), stm_ap, if_neg (by omega)]
      have f2 : ∀ o q : Int, ¬ (MP o q ∨ (o = 88 ∧ (q = 1 ∨ q = 2))) → M1 o q = stm m1 1 1 0 o q := fQ'
      have g88 : ∀ q : Int, M1 3 q = m1 3 q := fun q => by rw [f2 3 q (by unfold MP; omega), fC 3 q (by omega)]
      have ne : ∀ o q : Int, ¬ BADP D o q → stm (stm M1 88 10 (M1 88 8)) 88 11 (M1 88 9) o q = m o q := fun o q h => by
        have w1 : ¬ (o = 88 ∧ (q = 10 ∨ q = 11)) := fun w => h (by unfold BADP; omega)
        have w2 : ¬ (MP o q ∨ (o = 88 ∧ (q = 1 ∨ q = 2))) := fun w => h (by
          unfold BADP
          rcases w with w | w
          · exact Or.inr (Or.inr (Or.inr (Or.inr (Or.inl w))))
          · exact Or.inr (Or.inr (Or.inr (Or.inr (Or.inr (by omega))))))
        have w3 : ¬ (o = 1 ∧ q = 1) := fun w => h (by unfold BADP; omega)
        have w4 : ¬ (CP D o q ∨ (o = 3 ∧ q = 1) ∨ (o = 4 ∧ 1 ≤ q)) := fun w => h (by
          unfold BADP
          rcases w with w | w | w
          · exact Or.inl w
          · exact Or.inr (Or.inl w)
          · exact Or.inr (Or.inr (Or.inl w)))
        rw [f1 o q w1, f2 o q w2, fC o q w3, fP o q w4]
      refine ⟨(0, -1), (n, stm m1 1 1 0), (n, stm (stm M1 88 10 (M1 88 8)) 88 11 (M1 88 9)), r107, p, funext fun q => ?_, funext fun q => ?_, INV.bad (P := 82 - D) I hi h13 (fun o q h => ne o q (by rw [show 82 - (82 - D) = D by omega] at h; exact h)) ?_ ?_ ?_ ?_⟩
      · show stm m1 1 1 0 (-1) q = m (-1) q
        rw [fC (-1) q (by omega)]
        exact fPn (-1) q (by omega)
      · show stm (stm M1 88 10 (M1 88 8)) 88 11 (M1 88 9) (-1) q = m (-1) q
        rw [f1 (-1) q (by omega), f2 (-1) q (by unfold MP; omega), fC (-1) q (by omega)]
        exact fPn (-1) q (by omega)
      · rw [f1 1 1 (by omega), f2 1 1 (by unfold MP; omega), stm_same]
      · rw [f1 88 1 (by omega)]
        exact b1
      · rw [f1 3 2 (by omega), g88, stm_k (by omega), stm_same]
        exact B'.2.1
      · rw [f1 3 3 (by omega), g88, stm_same]
        exact B'.2.2
end
