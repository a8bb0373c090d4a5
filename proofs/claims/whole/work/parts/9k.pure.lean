/-! THE PURE PART: the text: a texture's line -/
section
variable {n : Int} {m M : Mm} {D T : Int}
theorem PL.tfr {m M m' M' : Mm} (hD : D = 30 ∨ D = 52) (P : PL m M D) (hT : T = D + 6 + 4 * m D 6) (e : ∀ o q : Int, 30 ≤ o → ¬ (T ≤ o ∧ o ≤ T + 3) → m' o q = m o q) (f : FRh M M') (k4 : m D 6 < 4) : PL m' M' D := by
  have f1 : ∀ c q : Int, c ≠ 88 → M' c q = M c q := fun c q h => f c q (by omega)
  obtain ⟨a, b, c, d, g⟩ := P
  have a0 := a.2.1.1.1
  have eD : ∀ o q : Int, D ≤ o → o ≤ D + 5 → m' o q = m o q := fun o q h1 h2 => e o q (by omega) (by omega)
  refine ⟨?_, b.fr (eD _ _ (by omega) (by omega)) (fun k => eD _ _ (by omega) (by omega)) (fun k => eD _ _ (by omega) (by omega)) (fun k => f1 _ _ (by omega)) (fun k => f1 _ _ (by omega)), fun k k0 k1 => ?_, d.fr (Int.le_of_eq (eD _ _ (by omega) (by omega)).symm) (eD _ _ (by omega) (by omega)) (fun k _ => eD _ _ (by omega) (by omega)) (f 88 20 (by omega)) (fun k _ => f1 _ _ (by omega)), g.fr (fun q _ => eD _ _ (by omega) (by omega)) (f 88 21 (by omega)) (fun q _ _ => f1 _ _ (by omega))⟩
  · obtain ⟨⟨a1, a2⟩, ⟨b1, b2⟩, x, y⟩ := a
    refine ⟨⟨by rw [eD D 5 (by omega) (by omega)]; exact a1, by rw [eD D 5 (by omega) (by omega), f1 90 8 (by omega)]; exact a2⟩, ⟨by rw [eD D 6 (by omega) (by omega)]; exact b1, by rw [eD D 6 (by omega) (by omega), f1 90 9 (by omega)]; exact b2⟩, fun k k0 k1 => ?_, fun k k0 k1 => ?_⟩
    · rw [eD D 5 (by omega) (by omega)] at k1
      rw [f1 91 _ (by omega), eD (D + 1) k (by omega) (by omega)]
      exact x k k0 k1
    · rw [eD D 6 (by omega) (by omega)] at k1
      rw [f1 92 _ (by omega), e _ 3 (by omega) (by omega)]
      exact y k k0 k1
  · rw [eD D 6 (by omega) (by omega)] at k1
    exact (c k k0 k1).fr (Int.le_of_eq (eD _ _ (by omega) (by omega)).symm) (fun j _ _ => ⟨eD _ _ (by omega) (by omega), eD _ _ (by omega) (by omega)⟩) (fun c q h h2 => e _ _ (by omega) (by omega)) (fun q _ _ => f1 _ _ (by omega))
theorem PL.tex {m M m' M' : Mm} {k : Int} (hD : D = 30 ∨ D = 52) (P : PL m M D) (hk : m D 6 = k) (k4 : k < 4) (hT : T = D + 6 + 4 * k) (e : ∀ o q : Int, 30 ≤ o → ¬ (T ≤ o ∧ o ≤ T + 3) → ¬ (o = D ∧ q = 6) → m' o q = m o q) (g : ∀ o q : Int, ¬ (o = 88 ∧ ((3 ≤ q ∧ q ≤ 9) ∨ q = 12)) → ¬ (o = 92 ∧ q = 4 + k) → ¬ (o = 95 ∧ 28 + 7 * k ≤ q ∧ q ≤ 28 + 7 * k + 6) → ¬ (o = 90 ∧ q = 9) → M' o q = M o q) (e6 : m' D 6 = k + 1) (g9 : M' 90 9 = k + 1) (nm : M' 92 (4 + k) = CV (m' T 3) ∧ 0 ≤ m' T 3 ∧ m' T 3 < 1099511627776) (tx : TXo m' M' D k) : PL m' M' D := by
  obtain ⟨⟨⟨a1, a2⟩, ⟨b1, b2⟩, x, y⟩, b, c, d, h⟩ := P
  have eD : ∀ o q : Int, D ≤ o → o ≤ D + 5 → ¬ (o = D ∧ q = 6) → m' o q = m o q := fun o q h1 h2 h3 => e o q (by omega) (by omega) h3
  have gg : ∀ o q : Int, o ≠ 88 → o ≠ 92 → o ≠ 95 → o ≠ 90 → M' o q = M o q := fun o q h1 h2 h3 h4 => g o q (by omega) (by omega) (by omega) (by omega)
  refine ⟨⟨⟨by rw [eD D 5 (by omega) (by omega) (by omega)]; exact a1, by rw [eD D 5 (by omega) (by omega) (by omega), g 90 8 (by omega) (by omega) (by omega) (by omega)]; exact a2⟩, ⟨by rw [e6]; omega, by rw [e6, g9]⟩, fun j j0 j1 => ?_, fun j j0 j1 => ?_⟩, b.fr (eD _ _ (by omega) (by omega) (by omega)) (fun k => eD _ _ (by omega) (by omega) (by omega)) (fun k => eD _ _ (by omega) (by omega) (by omega)) (fun k => gg _ _ (by omega) (by omega) (by omega) (by omega)) (fun k => gg _ _ (by omega) (by omega) (by omega) (by omega)), fun j j0 j1 => ?_, d.fr (by rw [e6, hk]; omega) (eD _ _ (by omega) (by omega) (by omega)) (fun k _ => eD _ _ (by omega) (by omega) (by omega)) (g 88 20 (by omega) (by omega) (by omega) (by omega)) (fun k _ => gg _ _ (by omega) (by omega) (by omega) (by omega)), h.fr (fun q _ => eD _ _ (by omega) (by omega) (by omega)) (g 88 21 (by omega) (by omega) (by omega) (by omega)) (fun q h1 h2 => g _ _ (by omega) (by omega) (by omega) (by omega))⟩
  · rw [eD D 5 (by omega) (by omega) (by omega)] at j1
    rw [gg 91 _ (by omega) (by omega) (by omega) (by omega), eD (D + 1) j (by omega) (by omega) (by omega)]
    exact x j j0 j1
  · by_cases z : j = k
    · rw [z, ← hT]
      exact nm
    · rw [e6] at j1
      rw [g 92 _ (by omega) (by omega) (by omega) (by omega), e _ 3 (by omega) (by omega) (by omega)]
      exact y j j0 (by omega)
  · by_cases z : j = k
    · rw [z]
      exact tx
    · rw [e6] at j1
      exact (c j j0 (by omega)).fr (Int.le_of_eq (eD _ _ (by omega) (by omega) (by omega)).symm) (fun i _ _ => ⟨eD _ _ (by omega) (by omega) (by omega), eD _ _ (by omega) (by omega) (by omega)⟩) (fun o q h1 h2 => e _ _ (by omega) (by omega) (by omega)) (fun q h1 h2 => g _ _ (by omega) (by omega) (by omega) (by omega))
set_option maxHeartbeats 20000000 in
/-- the model's texture, told -/
theorem p_tx291 (F : FX M) (b : M 88 8 = 0) {k : Int} (k0 : 0 ≤ k) (k4 : k < 4) (h9 : M 90 9 = k) (x2 x6 x7 x8 x9 x10 x11 x12 : Int) (z4 z5 z13 : Vl) : vp 200 291 [(2, 88), (0, k), (1, x2), (9, 0), z4, z5, (0, x6), (0, x7), (0, x8), (0, x9), (0, x10), (0, x11), (0, x12), z13] [] (n, M) = some (none, (n, stm (stm (stm (stm (stm (stm (stm (stm (stm M 92 (4 + k) x2) 95 (28 + 7 * k + 0) x6) 95 (28 + 7 * k + 1) x7) 95 (28 + 7 * k + 2) x8) 95 (28 + 7 * k + 3) x9) 95 (28 + 7 * k + 4) x10) 95 (28 + 7 * k + 5) x11) 95 (28 + 7 * k + 6) x12) 90 9 (k + 1))) := by
  have c13 := F.c88_13
  have c15 := F.c88_15
  have c18 := F.c88_18
  clear F
  rw [e_X12_textureLine_291]
  repeat first
    | (refine Eq.trans (if_pos ?_) ?_; · first | omega | (simp (disch := omega) only [b, c13, c15, c18, stm_o, Int.reduceLT, Int.reduceLE, Int.reduceEq, Int.reduceNe, Int.reduceNeg, Int.reduceAdd, Int.reduceSub, Int.reduceMul, Int.reduceGE, Int.reduceGT, Nat.reduceEqDiff, Nat.reduceAdd, and_true, true_and, and_self, not_true_eq_false, not_false_eq_true, ne_eq, and_false, false_and, or_false, or_true, false_or, true_or, vx_some, eq_self, ↓reduceIte, ite_t1, ite_t2, ite_t3, le_T, le_F, lt_T, lt_F, ge_T, ge_F, gt_T, gt_F, eq_T, eq_F, w32_i, kd_1, kd_2, kd_3, kd_4, kd_5, kd_6, kd_7, kd_14, kd_15, kd_16, kd_29, kd_34, kd_56, kd_74, kd_75, kd_76, kd_77, kd_78, kd_79, kd_80, kd_81, kd_82, kd_83, kd_84, kd_85, kd_86, kd_87, kd_88, kd_89, kd_90, kd_91, kd_92, kd_93, kd_94, kd_95, kd_96, kd_97, kd_98, kd_99, kd_100, kd_101, kd_102, kd_103, kd_104, kd_105, kd_106, kd_107, kd_108]; done))
    | (refine Eq.trans (if_neg ?_) ?_; · first | omega | (simp (disch := omega) only [b, c13, c15, c18, stm_o, Int.reduceLT, Int.reduceLE, Int.reduceEq, Int.reduceNe, Int.reduceNeg, Int.reduceAdd, Int.reduceSub, Int.reduceMul, Int.reduceGE, Int.reduceGT, Nat.reduceEqDiff, Nat.reduceAdd, and_true, true_and, and_self, not_true_eq_false, not_false_eq_true, ne_eq, and_false, false_and, or_false, or_true, false_or, true_or, vx_some, eq_self, ↓reduceIte, ite_t1, ite_t2, ite_t3, le_T, le_F, lt_T, lt_F, ge_T, ge_F, gt_T, gt_F, eq_T, eq_F, w32_i, kd_1, kd_2, kd_3, kd_4, kd_5, kd_6, kd_7, kd_14, kd_15, kd_16, kd_29, kd_34, kd_56, kd_74, kd_75, kd_76, kd_77, kd_78, kd_79, kd_80, kd_81, kd_82, kd_83, kd_84, kd_85, kd_86, kd_87, kd_88, kd_89, kd_90, kd_91, kd_92, kd_93, kd_94, kd_95, kd_96, kd_97, kd_98, kd_99, kd_100, kd_101, kd_102, kd_103, kd_104, kd_105, kd_106, kd_107, kd_108]; done))
    | (refine Eq.trans (bnd (r := ?_) ?_) ?_; rotate_left 1; (focus (simp (disch := omega) only [b, c13, c15, c18, stm_o, Int.reduceLT, Int.reduceLE, Int.reduceEq, Int.reduceNe, Int.reduceNeg, Int.reduceAdd, Int.reduceSub, Int.reduceMul, Int.reduceGE, Int.reduceGT, Nat.reduceEqDiff, Nat.reduceAdd, and_true, true_and, and_self, not_true_eq_false, not_false_eq_true, ne_eq, and_false, false_and, or_false, or_true, false_or, true_or, vx_some, eq_self, ↓reduceIte, ite_t1, ite_t2, ite_t3, le_T, le_F, lt_T, lt_F, ge_T, ge_F, gt_T, gt_F, eq_T, eq_F, w32_i, kd_1, kd_2, kd_3, kd_4, kd_5, kd_6, kd_7, kd_14, kd_15, kd_16, kd_29, kd_34, kd_56, kd_74, kd_75, kd_76, kd_77, kd_78, kd_79, kd_80, kd_81, kd_82, kd_83, kd_84, kd_85, kd_86, kd_87, kd_88, kd_89, kd_90, kd_91, kd_92, kd_93, kd_94, kd_95, kd_96, kd_97, kd_98, kd_99, kd_100, kd_101, kd_102, kd_103, kd_104, kd_105, kd_106, kd_107, kd_108]; exact rfl)); simp only [vx_some])
  all_goals simp (disch := omega) only [c13, c15, c18, stm_o, h9, w32_i]
end
