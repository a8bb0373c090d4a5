/-! THE PURE PART: the walks: both loops -/
def lnW (m : Mm) (t : Int) (l : Nat) (o how k : Int) : Int := (400 * tex m t 0 + (fst' m t l + bwk o (hv (tex m t 2) l) (hv (tex m t 3) l) how k)) / m 90 2
theorem bwk_rng {o w h how k : Int} (ho : 0 ≤ o ∧ o ≤ 2) (hw : SZ w) (hh : SZ h) (h0 : 0 ≤ how) (h3 : how ≤ 3) (w1 : 1 ≤ w) (w2 : w ≤ 16) (k0 : 0 ≤ k) (k1 : k < w * h) (hk : k < 256) : 0 ≤ bwk o w h how k ∧ bwk o w h how k < w * h := by
  have s := svk_ok ho hw hh h0 h3 w1 w2 k0 k1 hk
  rw [← s.2.2]
  exact bhd_rng ho hw hh s.1.1 s.1.2 s.2.1.1 s.2.1.2
theorem sz_le {w h : Int} (w1 : 1 ≤ w) (w2 : w ≤ 16) (h1 : 1 ≤ h) (h2 : h ≤ 16) : 1 ≤ w * h ∧ w * h ≤ 256 := by
  have a := Int.mul_le_mul w2 h2 (by omega) (by omega)
  have b := Int.mul_le_mul w1 h1 (by omega) (by omega)
  omega
theorem CSH.n2 {m : Mm} (Z : CSH m) : (1 ≤ m 90 2 ∧ m 90 2 ≤ 16) ∧ CZ (m 90 0) (m 90 1) ∧ (m 80 2 = m 90 0 ∧ m 80 3 = m 90 1 ∧ m 80 4 = m 90 2) := by
  have := Z.2.2.1
  exact ⟨by omega, ⟨Z.1, Z.2.1⟩, Z.2.2.2.2⟩
theorem lnW_rng {m : Mm} (X : TXM m) (K : KLM m) (Z : CSH m) {t : Int} (ht : isT m t) {l : Nat} (hl : (l : Int) < tex m t 4) {how k o : Int} (h0 : 0 ≤ how) (h3 : how ≤ 3) (o0 : 0 ≤ o) (o1 : o ≤ 2) (k0 : 0 ≤ k) (k1 : k < hv (tex m t 2) l * hv (tex m t 3) l) : 0 ≤ lnW m t l o how k ∧ lnW m t l o how k < 2400 := by
  have Wh := X.wh ht hl
  have sz := sz_le Wh.1.1 Wh.1.2 Wh.2.1.1 Wh.2.1.2
  have br := bwk_rng ⟨o0, o1⟩ Wh.2.2.2.2.1.1 Wh.2.2.2.2.1.2 h0 h3 Wh.1.1 Wh.1.2 k0 k1 (by omega)
  have lv := X.lvl K ht hl
  have ST := X.st K ht
  have n2 := Z.n2.1
  unfold lnW
  generalize bwk o (hv (tex m t 2) l) (hv (tex m t 3) l) how k = b at *
  generalize hv (tex m t 2) l * hv (tex m t 3) l = wh at *
  generalize fst' m t l = f at *
  constructor
  · exact Int.ediv_nonneg (by omega) (by omega)
  · have := Int.ediv_le_self (m 90 2) (show 0 ≤ 400 * tex m t 0 + (f + b) by omega)
    omega
theorem htC_01 (m : Mm) (C x : Int) : htC m C x = 0 ∨ htC m C x = 1 := by
  unfold htC
  split
  · exact Or.inl rfl
  · exact Or.inr rfl
theorem CH.of {m : Mm} (F : FX m) (Z : CSH m) : CH m 80 := ⟨Or.inr rfl, ⟨F.c80_0, F.c80_1⟩, by rw [Z.n2.2.2.1, Z.n2.2.2.2.1]; exact Z.n2.2.1⟩
section
variable {n : Int} {m : Mm} {t k c how o : Int} {l : Nat} {z : Vl}
theorem c_mis (F : FX m) (S : SH m) (ht : isT m t) (hl : (l : Int) < tex m t 4) (h0 : 0 ≤ how) (h3 : how ≤ 3) (o0 : 0 ≤ o) (o1 : o ≤ 2) (k0 : 0 ≤ k) (k1 : k < hv (tex m t 2) l * hv (tex m t 3) l) (c0 : 0 ≤ c) (c1 : c ≤ k) (b0 : 0 ≤ m 80 5) (b1 : m 80 5 ≤ 1000) (d0 : 0 ≤ m 80 6) (d1 : m 80 6 ≤ 1000) : ∃ z', vp 13 6 [(2, 80), (2, tcl m t), (0, (l : Int)), (0, how), (0, o), (0, c), (0, k), z] [] (n, m) = vp 13 6 [(2, 80), (2, tcl m t), (0, (l : Int)), (0, how), (0, o), (0, c + (1 - htC m 80 (lnW m t l o how k))), (0, k + 1), z'] [] (n, hlC m 80 (lnW m t l o how k)) := by
  have B := S.2.2.2.2.1 t ht
  have X := S.2.2.1
  have K := S.2.1
  have Z := S.2.2.2.2.2
  have Wh := X.wh ht hl
  have sz := sz_le Wh.1.1 Wh.1.2 Wh.2.1.1 Wh.2.1.2
  have tc := c_texelCount (h := (n, m)) B X ht hl
  have bo := c_bow (h := (n, m)) B X ht hl h0 h3 o0 o1 k0 k1
  have br := bwk_rng ⟨o0, o1⟩ Wh.2.2.2.2.1.1 Wh.2.2.2.2.1.2 h0 h3 Wh.1.1 Wh.1.2 k0 k1 (by omega)
  have lv := X.lvl K ht hl
  have xr := lnW_rng X K Z ht hl h0 h3 o0 o1 k0 k1
  have R := B.r
  have BK := B.k0
  have K1 := B.k1
  have f0 := B.f0
  have f4 := B.f4
  have fi := B.fi (Int.le_of_lt hl)
  have ST := X.st K ht
  have Wl := Wh.2.2.1
  have n2 := Z.n2.1
  have s4 := Z.n2.2.2.2.2
  have H := CH.of F Z
  have ho := c_hold (n := n) H xr.1 (by omega) b0 (by omega) d0 (by omega)
  have ln : vm 10 [(2, 80), (0, tex m t 0), (0, fst' m t l + bwk o (hv (tex m t 2) l) (hv (tex m t 3) l) how k)] (n, m) = some (some (0, lnW m t l o how k), (n, m)) := by
    rw [c_lineOf (h := (n, m)) (C := 80) kd_80 (by omega) ST.1.1 ST.1.2.2 (by omega) (by omega) (by show 1 ≤ m 80 4; omega) (by show m 80 4 ≤ 16; omega)]
    show some (some (0, _ / m 80 4), (n, m)) = _
    rw [s4]
    rfl
  have hh := htC_01 m 80 (lnW m t l o how k)
  dsimp only at tc bo
  generalize lnW m t l o how k = x at *
  generalize bwk o (hv (tex m t 2) l) (hv (tex m t 3) l) how k = b at *
  generalize hv (tex m t 2) l * hv (tex m t 3) l = wh at *
  generalize fst' m t l = f at *
  generalize tcl m t = T at *
  generalize tex m t 0 = s at *
  clear H F S B X K Z
  refine ⟨(0, f + b), Eq.trans (e_X1_missesOf_6 ..) ?_⟩
  rcases hh with u | u
  · rw [u] at ho
    rw [u]
    repeat first
      | (refine Eq.trans (if_pos ?_) ?_; · first | omega | (simp (disch := omega) only [BK, tc, bo, f0, K1, fi, f4, ln, ho, Int.reduceLT, Int.reduceLE, Int.reduceEq, Int.reduceNe, Int.reduceNeg, Int.reduceAdd, Int.reduceSub, Int.reduceMul, Int.reduceGE, Int.reduceGT, Nat.reduceEqDiff, Nat.reduceAdd, and_true, true_and, and_self, not_true_eq_false, not_false_eq_true, ne_eq, and_false, false_and, or_false, or_true, false_or, true_or, vx_some, eq_self, ↓reduceIte, ite_t1, ite_t2, ite_t3, le_T, le_F, lt_T, lt_F, ge_T, ge_F, gt_T, gt_F, eq_T, eq_F, w32_i, kd_1, kd_2, kd_3, kd_4, kd_5, kd_6, kd_7, kd_14, kd_15, kd_16, kd_29, kd_34, kd_56, kd_74, kd_75, kd_76, kd_77, kd_78, kd_79, kd_80, kd_81, kd_82, kd_83, kd_84, kd_85, kd_86, kd_87, kd_88, kd_89, kd_90, kd_91, kd_92, kd_93, kd_94, kd_95, kd_96, kd_97, kd_98, kd_99, kd_100, kd_101, kd_102, kd_103, kd_104, kd_105, kd_106, kd_107, kd_108]; done))
      | (refine Eq.trans (if_neg ?_) ?_; · first | omega | (simp (disch := omega) only [BK, tc, bo, f0, K1, fi, f4, ln, ho, Int.reduceLT, Int.reduceLE, Int.reduceEq, Int.reduceNe, Int.reduceNeg, Int.reduceAdd, Int.reduceSub, Int.reduceMul, Int.reduceGE, Int.reduceGT, Nat.reduceEqDiff, Nat.reduceAdd, and_true, true_and, and_self, not_true_eq_false, not_false_eq_true, ne_eq, and_false, false_and, or_false, or_true, false_or, true_or, vx_some, eq_self, ↓reduceIte, ite_t1, ite_t2, ite_t3, le_T, le_F, lt_T, lt_F, ge_T, ge_F, gt_T, gt_F, eq_T, eq_F, w32_i, kd_1, kd_2, kd_3, kd_4, kd_5, kd_6, kd_7, kd_14, kd_15, kd_16, kd_29, kd_34, kd_56, kd_74, kd_75, kd_76, kd_77, kd_78, kd_79, kd_80, kd_81, kd_82, kd_83, kd_84, kd_85, kd_86, kd_87, kd_88, kd_89, kd_90, kd_91, kd_92, kd_93, kd_94, kd_95, kd_96, kd_97, kd_98, kd_99, kd_100, kd_101, kd_102, kd_103, kd_104, kd_105, kd_106, kd_107, kd_108]; done))
      | (refine Eq.trans (bnd (r := ?_) ?_) ?_; rotate_left 1; (focus (simp (disch := omega) only [BK, tc, bo, f0, K1, fi, f4, ln, ho, Int.reduceLT, Int.reduceLE, Int.reduceEq, Int.reduceNe, Int.reduceNeg, Int.reduceAdd, Int.reduceSub, Int.reduceMul, Int.reduceGE, Int.reduceGT, Nat.reduceEqDiff, Nat.reduceAdd, and_true, true_and, and_self, not_true_eq_false, not_false_eq_true, ne_eq, and_false, false_and, or_false, or_true, false_or, true_or, vx_some, eq_self, ↓reduceIte, ite_t1, ite_t2, ite_t3, le_T, le_F, lt_T, lt_F, ge_T, ge_F, gt_T, gt_F, eq_T, eq_F, w32_i, kd_1, kd_2, kd_3, kd_4, kd_5, kd_6, kd_7, kd_14, kd_15, kd_16, kd_29, kd_34, kd_56, kd_74, kd_75, kd_76, kd_77, kd_78, kd_79, kd_80, kd_81, kd_82, kd_83, kd_84, kd_85, kd_86, kd_87, kd_88, kd_89, kd_90, kd_91, kd_92, kd_93, kd_94, kd_95, kd_96, kd_97, kd_98, kd_99, kd_100, kd_101, kd_102, kd_103, kd_104, kd_105, kd_106, kd_107, kd_108]; exact rfl)); simp only [vx_some])
    rw [f0, fi]
    simp (disch := omega) only [w32_i]
    rw [show c + (1 - 0) = c + 1 by omega]
  · rw [u] at ho
    rw [u]
    repeat first
      | (refine Eq.trans (if_pos ?_) ?_; · first | omega | (simp (disch := omega) only [BK, tc, bo, f0, K1, fi, f4, ln, ho, Int.reduceLT, Int.reduceLE, Int.reduceEq, Int.reduceNe, Int.reduceNeg, Int.reduceAdd, Int.reduceSub, Int.reduceMul, Int.reduceGE, Int.reduceGT, Nat.reduceEqDiff, Nat.reduceAdd, and_true, true_and, and_self, not_true_eq_false, not_false_eq_true, ne_eq, and_false, false_and, or_false, or_true, false_or, true_or, vx_some, eq_self, ↓reduceIte, ite_t1, ite_t2, ite_t3, le_T, le_F, lt_T, lt_F, ge_T, ge_F, gt_T, gt_F, eq_T, eq_F, w32_i, kd_1, kd_2, kd_3, kd_4, kd_5, kd_6, kd_7, kd_14, kd_15, kd_16, kd_29, kd_34, kd_56, kd_74, kd_75, kd_76, kd_77, kd_78, kd_79, kd_80, kd_81, kd_82, kd_83, kd_84, kd_85, kd_86, kd_87, kd_88, kd_89, kd_90, kd_91, kd_92, kd_93, kd_94, kd_95, kd_96, kd_97, kd_98, kd_99, kd_100, kd_101, kd_102, kd_103, kd_104, kd_105, kd_106, kd_107, kd_108]; done))
      | (refine Eq.trans (if_neg ?_) ?_; · first | omega | (simp (disch := omega) only [BK, tc, bo, f0, K1, fi, f4, ln, ho, Int.reduceLT, Int.reduceLE, Int.reduceEq, Int.reduceNe, Int.reduceNeg, Int.reduceAdd, Int.reduceSub, Int.reduceMul, Int.reduceGE, Int.reduceGT, Nat.reduceEqDiff, Nat.reduceAdd, and_true, true_and, and_self, not_true_eq_false, not_false_eq_true, ne_eq, and_false, false_and, or_false, or_true, false_or, true_or, vx_some, eq_self, ↓reduceIte, ite_t1, ite_t2, ite_t3, le_T, le_F, lt_T, lt_F, ge_T, ge_F, gt_T, gt_F, eq_T, eq_F, w32_i, kd_1, kd_2, kd_3, kd_4, kd_5, kd_6, kd_7, kd_14, kd_15, kd_16, kd_29, kd_34, kd_56, kd_74, kd_75, kd_76, kd_77, kd_78, kd_79, kd_80, kd_81, kd_82, kd_83, kd_84, kd_85, kd_86, kd_87, kd_88, kd_89, kd_90, kd_91, kd_92, kd_93, kd_94, kd_95, kd_96, kd_97, kd_98, kd_99, kd_100, kd_101, kd_102, kd_103, kd_104, kd_105, kd_106, kd_107, kd_108]; done))
      | (refine Eq.trans (bnd (r := ?_) ?_) ?_; rotate_left 1; (focus (simp (disch := omega) only [BK, tc, bo, f0, K1, fi, f4, ln, ho, Int.reduceLT, Int.reduceLE, Int.reduceEq, Int.reduceNe, Int.reduceNeg, Int.reduceAdd, Int.reduceSub, Int.reduceMul, Int.reduceGE, Int.reduceGT, Nat.reduceEqDiff, Nat.reduceAdd, and_true, true_and, and_self, not_true_eq_false, not_false_eq_true, ne_eq, and_false, false_and, or_false, or_true, false_or, true_or, vx_some, eq_self, ↓reduceIte, ite_t1, ite_t2, ite_t3, le_T, le_F, lt_T, lt_F, ge_T, ge_F, gt_T, gt_F, eq_T, eq_F, w32_i, kd_1, kd_2, kd_3, kd_4, kd_5, kd_6, kd_7, kd_14, kd_15, kd_16, kd_29, kd_34, kd_56, kd_74, kd_75, kd_76, kd_77, kd_78, kd_79, kd_80, kd_81, kd_82, kd_83, kd_84, kd_85, kd_86, kd_87, kd_88, kd_89, kd_90, kd_91, kd_92, kd_93, kd_94, kd_95, kd_96, kd_97, kd_98, kd_99, kd_100, kd_101, kd_102, kd_103, kd_104, kd_105, kd_106, kd_107, kd_108]; exact rfl)); simp only [vx_some])
    rw [f0, fi]
    simp (disch := omega) only [w32_i]
    rw [show c + (1 - 1) = c by omega]
theorem c_misE (S : SH m) (ht : isT m t) (hl : (l : Int) < tex m t 4) (hk : k = hv (tex m t 2) l * hv (tex m t 3) l) : vp 13 6 [(2, 80), (2, tcl m t), (0, (l : Int)), (0, how), (0, o), (0, c), (0, k), z] [] (n, m) = some (some (0, c), (n, m)) := by
  have B := S.2.2.2.2.1 t ht
  have tc := c_texelCount (h := (n, m)) B S.2.2.1 ht hl
  have R := B.r
  have BK := B.k0
  dsimp only at tc
  rw [← hk] at tc
  generalize tcl m t = T at *
  rw [e_X1_missesOf_6]
  repeat first
    | (refine Eq.trans (if_pos ?_) ?_; · first | omega | (simp (disch := omega) only [BK, tc, Int.reduceLT, Int.reduceLE, Int.reduceEq, Int.reduceNe, Int.reduceNeg, Int.reduceAdd, Int.reduceSub, Int.reduceMul, Int.reduceGE, Int.reduceGT, Nat.reduceEqDiff, Nat.reduceAdd, and_true, true_and, and_self, not_true_eq_false, not_false_eq_true, ne_eq, and_false, false_and, or_false, or_true, false_or, true_or, vx_some, eq_self, ↓reduceIte, ite_t1, ite_t2, ite_t3, le_T, le_F, lt_T, lt_F, ge_T, ge_F, gt_T, gt_F, eq_T, eq_F, w32_i, kd_1, kd_2, kd_3, kd_4, kd_5, kd_6, kd_7, kd_14, kd_15, kd_16, kd_29, kd_34, kd_56, kd_74, kd_75, kd_76, kd_77, kd_78, kd_79, kd_80, kd_81, kd_82, kd_83, kd_84, kd_85, kd_86, kd_87, kd_88, kd_89, kd_90, kd_91, kd_92, kd_93, kd_94, kd_95, kd_96, kd_97, kd_98, kd_99, kd_100, kd_101, kd_102, kd_103, kd_104, kd_105, kd_106, kd_107, kd_108]; done))
    | (refine Eq.trans (if_neg ?_) ?_; · first | omega | (simp (disch := omega) only [BK, tc, Int.reduceLT, Int.reduceLE, Int.reduceEq, Int.reduceNe, Int.reduceNeg, Int.reduceAdd, Int.reduceSub, Int.reduceMul, Int.reduceGE, Int.reduceGT, Nat.reduceEqDiff, Nat.reduceAdd, and_true, true_and, and_self, not_true_eq_false, not_false_eq_true, ne_eq, and_false, false_and, or_false, or_true, false_or, true_or, vx_some, eq_self, ↓reduceIte, ite_t1, ite_t2, ite_t3, le_T, le_F, lt_T, lt_F, ge_T, ge_F, gt_T, gt_F, eq_T, eq_F, w32_i, kd_1, kd_2, kd_3, kd_4, kd_5, kd_6, kd_7, kd_14, kd_15, kd_16, kd_29, kd_34, kd_56, kd_74, kd_75, kd_76, kd_77, kd_78, kd_79, kd_80, kd_81, kd_82, kd_83, kd_84, kd_85, kd_86, kd_87, kd_88, kd_89, kd_90, kd_91, kd_92, kd_93, kd_94, kd_95, kd_96, kd_97, kd_98, kd_99, kd_100, kd_101, kd_102, kd_103, kd_104, kd_105, kd_106, kd_107, kd_108]; done))
    | (refine Eq.trans (bnd (r := ?_) ?_) ?_; rotate_left 1; (focus (simp (disch := omega) only [BK, tc, Int.reduceLT, Int.reduceLE, Int.reduceEq, Int.reduceNe, Int.reduceNeg, Int.reduceAdd, Int.reduceSub, Int.reduceMul, Int.reduceGE, Int.reduceGT, Nat.reduceEqDiff, Nat.reduceAdd, and_true, true_and, and_self, not_true_eq_false, not_false_eq_true, ne_eq, and_false, false_and, or_false, or_true, false_or, true_or, vx_some, eq_self, ↓reduceIte, ite_t1, ite_t2, ite_t3, le_T, le_F, lt_T, lt_F, ge_T, ge_F, gt_T, gt_F, eq_T, eq_F, w32_i, kd_1, kd_2, kd_3, kd_4, kd_5, kd_6, kd_7, kd_14, kd_15, kd_16, kd_29, kd_34, kd_56, kd_74, kd_75, kd_76, kd_77, kd_78, kd_79, kd_80, kd_81, kd_82, kd_83, kd_84, kd_85, kd_86, kd_87, kd_88, kd_89, kd_90, kd_91, kd_92, kd_93, kd_94, kd_95, kd_96, kd_97, kd_98, kd_99, kd_100, kd_101, kd_102, kd_103, kd_104, kd_105, kd_106, kd_107, kd_108]; exact rfl)); simp only [vx_some])
  all_goals rfl
theorem p_mis (F : FX m) (S : SH m) (ha : -1 ≤ m 88 30 ∧ m 88 30 ≤ 2) (ht : isT m t) (hl : (l : Int) < tex m t 4) (h0 : 0 ≤ how) (h3 : how ≤ 3) (k0 : 0 ≤ k) (k1 : k < hv (tex m t 2) l * hv (tex m t 3) l) (c0 : 0 ≤ c) (c1 : c ≤ k) (b0 : 0 ≤ m 88 36) (b1 : m 88 36 ≤ 9000000) : ∃ z', vp 294 39 [(2, 88), (0, t), (0, (l : Int)), (0, how), (0, c), (0, hv (tex m t 2) l), (0, k), z] [] (n, m) = vp 294 39 [(2, 88), (0, t), (0, (l : Int)), (0, how), (0, c + (1 - htM m 32 (lnW m t l (ordM m t) how k))), (0, hv (tex m t 2) l), (0, k + 1), z'] [] (n, hlM m 32 (lnW m t l (ordM m t) how k)) := by
  have X := S.2.2.1
  have K := S.2.1
  have Z := S.2.2.2.2.2
  have Wh := X.wh ht hl
  have sz := sz_le Wh.1.1 Wh.1.2 Wh.2.1.1 Wh.2.1.2
  have oo : 0 ≤ ordM m t ∧ ordM m t ≤ 2 := by unfold ordM; split <;> omega
  have ph := p_high (h := (n, m)) F.m X ht (show l < 10 by omega)
  have st := p_step (h := (n, m)) F X ha ht hl h0 h3 k0 k1
  have sk := svk_ok oo Wh.2.2.2.2.1.1 Wh.2.2.2.2.1.2 h0 h3 Wh.1.1 Wh.1.2 k0 k1 (by omega)
  have n2 := Z.n2.1
  dsimp only at ph st
  have hx : isX m t l ((svk (ordM m t) (hv (tex m t 2) l) (hv (tex m t 3) l) how k).tmod (hv (tex m t 2) l)) (w32 ((svk (ordM m t) (hv (tex m t 2) l) (hv (tex m t 3) l) how k).tdiv (hv (tex m t 2) l))) := ⟨ht, hl, sk.1, sk.2.1⟩
  have ln := p_lineOf (h := (n, m)) F X K ha n2.1 hx
  have le : lnM m t l ((svk (ordM m t) (hv (tex m t 2) l) (hv (tex m t 3) l) how k).tmod (hv (tex m t 2) l)) (w32 ((svk (ordM m t) (hv (tex m t 2) l) (hv (tex m t 3) l) how k).tdiv (hv (tex m t 2) l))) = lnW m t l (ordM m t) how k := by
    unfold lnM plM lnW
    rw [sk.2.2]
  dsimp only at ln
  rw [le] at ln
  have xr := lnW_rng X K Z ht hl h0 h3 oo.1 oo.2 k0 k1
  have fe := p_fetches (n := n) F Z.n2.2.1 (b := 32) (Or.inr rfl) xr.1 (by omega) b0 (by omega)
  have hh := htM_01 m 32 (lnW m t l (ordM m t) how k)
  have w1 := Wh.1
  have g1 := Wh.2.1
  have wn : ¬ hv (tex m t 2) l = 0 := by omega
  have ww : w32 (hv (tex m t 2) l * hv (tex m t 3) l) = hv (tex m t 2) l * hv (tex m t 3) l := w32_i (by omega) (by omega)
  clear hx sk Wh le
  generalize lnW m t l (ordM m t) how k = x at *
  generalize svk (ordM m t) (hv (tex m t 2) l) (hv (tex m t 3) l) how k = v at *
  generalize hv (tex m t 2) l = w at *
  generalize hv (tex m t 3) l = g at *
  refine ⟨(0, v), Eq.trans (e_X12_missesOf_39 ..) ?_⟩
  generalize hlM m 32 x = M' at *
  have nk : ¬ k ≥ w32 (w * g) := by rw [ww]; omega
  clear S X K Z F ww
  rcases hh with u | u
  · rw [u] at fe
    rw [u]
    repeat first
      | (refine Eq.trans (if_pos ?_) ?_; · first | omega | (simp (disch := omega) only [ph, nk, st, wn, ln, fe, p_truth, Int.reduceLT, Int.reduceLE, Int.reduceEq, Int.reduceNe, Int.reduceNeg, Int.reduceAdd, Int.reduceSub, Int.reduceMul, Int.reduceGE, Int.reduceGT, Nat.reduceEqDiff, Nat.reduceAdd, and_true, true_and, and_self, not_true_eq_false, not_false_eq_true, ne_eq, and_false, false_and, or_false, or_true, false_or, true_or, vx_some, eq_self, ↓reduceIte, ite_t1, ite_t2, ite_t3, le_T, le_F, lt_T, lt_F, ge_T, ge_F, gt_T, gt_F, eq_T, eq_F, w32_i, kd_1, kd_2, kd_3, kd_4, kd_5, kd_6, kd_7, kd_14, kd_15, kd_16, kd_29, kd_34, kd_56, kd_74, kd_75, kd_76, kd_77, kd_78, kd_79, kd_80, kd_81, kd_82, kd_83, kd_84, kd_85, kd_86, kd_87, kd_88, kd_89, kd_90, kd_91, kd_92, kd_93, kd_94, kd_95, kd_96, kd_97, kd_98, kd_99, kd_100, kd_101, kd_102, kd_103, kd_104, kd_105, kd_106, kd_107, kd_108]; done))
      | (refine Eq.trans (if_neg ?_) ?_; · first | omega | (simp (disch := omega) only [ph, nk, st, wn, ln, fe, p_truth, Int.reduceLT, Int.reduceLE, Int.reduceEq, Int.reduceNe, Int.reduceNeg, Int.reduceAdd, Int.reduceSub, Int.reduceMul, Int.reduceGE, Int.reduceGT, Nat.reduceEqDiff, Nat.reduceAdd, and_true, true_and, and_self, not_true_eq_false, not_false_eq_true, ne_eq, and_false, false_and, or_false, or_true, false_or, true_or, vx_some, eq_self, ↓reduceIte, ite_t1, ite_t2, ite_t3, le_T, le_F, lt_T, lt_F, ge_T, ge_F, gt_T, gt_F, eq_T, eq_F, w32_i, kd_1, kd_2, kd_3, kd_4, kd_5, kd_6, kd_7, kd_14, kd_15, kd_16, kd_29, kd_34, kd_56, kd_74, kd_75, kd_76, kd_77, kd_78, kd_79, kd_80, kd_81, kd_82, kd_83, kd_84, kd_85, kd_86, kd_87, kd_88, kd_89, kd_90, kd_91, kd_92, kd_93, kd_94, kd_95, kd_96, kd_97, kd_98, kd_99, kd_100, kd_101, kd_102, kd_103, kd_104, kd_105, kd_106, kd_107, kd_108]; done))
      | (refine Eq.trans (bnd (r := ?_) ?_) ?_; rotate_left 1; (focus (simp (disch := omega) only [ph, nk, st, wn, ln, fe, p_truth, Int.reduceLT, Int.reduceLE, Int.reduceEq, Int.reduceNe, Int.reduceNeg, Int.reduceAdd, Int.reduceSub, Int.reduceMul, Int.reduceGE, Int.reduceGT, Nat.reduceEqDiff, Nat.reduceAdd, and_true, true_and, and_self, not_true_eq_false, not_false_eq_true, ne_eq, and_false, false_and, or_false, or_true, false_or, true_or, vx_some, eq_self, ↓reduceIte, ite_t1, ite_t2, ite_t3, le_T, le_F, lt_T, lt_F, ge_T, ge_F, gt_T, gt_F, eq_T, eq_F, w32_i, kd_1, kd_2, kd_3, kd_4, kd_5, kd_6, kd_7, kd_14, kd_15, kd_16, kd_29, kd_34, kd_56, kd_74, kd_75, kd_76, kd_77, kd_78, kd_79, kd_80, kd_81, kd_82, kd_83, kd_84, kd_85, kd_86, kd_87, kd_88, kd_89, kd_90, kd_91, kd_92, kd_93, kd_94, kd_95, kd_96, kd_97, kd_98, kd_99, kd_100, kd_101, kd_102, kd_103, kd_104, kd_105, kd_106, kd_107, kd_108]; exact rfl)); simp only [vx_some])
    simp (disch := omega) only [w32_i]
    rw [show c + (1 - 0) = c + 1 by omega]
  · rw [u] at fe
    rw [u]
    repeat first
      | (refine Eq.trans (if_pos ?_) ?_; · first | omega | (simp (disch := omega) only [ph, nk, st, wn, ln, fe, p_truth, Int.reduceLT, Int.reduceLE, Int.reduceEq, Int.reduceNe, Int.reduceNeg, Int.reduceAdd, Int.reduceSub, Int.reduceMul, Int.reduceGE, Int.reduceGT, Nat.reduceEqDiff, Nat.reduceAdd, and_true, true_and, and_self, not_true_eq_false, not_false_eq_true, ne_eq, and_false, false_and, or_false, or_true, false_or, true_or, vx_some, eq_self, ↓reduceIte, ite_t1, ite_t2, ite_t3, le_T, le_F, lt_T, lt_F, ge_T, ge_F, gt_T, gt_F, eq_T, eq_F, w32_i, kd_1, kd_2, kd_3, kd_4, kd_5, kd_6, kd_7, kd_14, kd_15, kd_16, kd_29, kd_34, kd_56, kd_74, kd_75, kd_76, kd_77, kd_78, kd_79, kd_80, kd_81, kd_82, kd_83, kd_84, kd_85, kd_86, kd_87, kd_88, kd_89, kd_90, kd_91, kd_92, kd_93, kd_94, kd_95, kd_96, kd_97, kd_98, kd_99, kd_100, kd_101, kd_102, kd_103, kd_104, kd_105, kd_106, kd_107, kd_108]; done))
      | (refine Eq.trans (if_neg ?_) ?_; · first | omega | (simp (disch := omega) only [ph, nk, st, wn, ln, fe, p_truth, Int.reduceLT, Int.reduceLE, Int.reduceEq, Int.reduceNe, Int.reduceNeg, Int.reduceAdd, Int.reduceSub, Int.reduceMul, Int.reduceGE, Int.reduceGT, Nat.reduceEqDiff, Nat.reduceAdd, and_true, true_and, and_self, not_true_eq_false, not_false_eq_true, ne_eq, and_false, false_and, or_false, or_true, false_or, true_or, vx_some, eq_self, ↓reduceIte, ite_t1, ite_t2, ite_t3, le_T, le_F, lt_T, lt_F, ge_T, ge_F, gt_T, gt_F, eq_T, eq_F, w32_i, kd_1, kd_2, kd_3, kd_4, kd_5, kd_6, kd_7, kd_14, kd_15, kd_16, kd_29, kd_34, kd_56, kd_74, kd_75, kd_76, kd_77, kd_78, kd_79, kd_80, kd_81, kd_82, kd_83, kd_84, kd_85, kd_86, kd_87, kd_88, kd_89, kd_90, kd_91, kd_92, kd_93, kd_94, kd_95, kd_96, kd_97, kd_98, kd_99, kd_100, kd_101, kd_102, kd_103, kd_104, kd_105, kd_106, kd_107, kd_108]; done))
      | (refine Eq.trans (bnd (r := ?_) ?_) ?_; rotate_left 1; (focus (simp (disch := omega) only [ph, nk, st, wn, ln, fe, p_truth, Int.reduceLT, Int.reduceLE, Int.reduceEq, Int.reduceNe, Int.reduceNeg, Int.reduceAdd, Int.reduceSub, Int.reduceMul, Int.reduceGE, Int.reduceGT, Nat.reduceEqDiff, Nat.reduceAdd, and_true, true_and, and_self, not_true_eq_false, not_false_eq_true, ne_eq, and_false, false_and, or_false, or_true, false_or, true_or, vx_some, eq_self, ↓reduceIte, ite_t1, ite_t2, ite_t3, le_T, le_F, lt_T, lt_F, ge_T, ge_F, gt_T, gt_F, eq_T, eq_F, w32_i, kd_1, kd_2, kd_3, kd_4, kd_5, kd_6, kd_7, kd_14, kd_15, kd_16, kd_29, kd_34, kd_56, kd_74, kd_75, kd_76, kd_77, kd_78, kd_79, kd_80, kd_81, kd_82, kd_83, kd_84, kd_85, kd_86, kd_87, kd_88, kd_89, kd_90, kd_91, kd_92, kd_93, kd_94, kd_95, kd_96, kd_97, kd_98, kd_99, kd_100, kd_101, kd_102, kd_103, kd_104, kd_105, kd_106, kd_107, kd_108]; exact rfl)); simp only [vx_some])
    simp (disch := omega) only [w32_i]
    rw [show c + (1 - 1) = c + 0 by omega]
theorem p_misE (F : FX m) (S : SH m) (ht : isT m t) (hl : (l : Int) < tex m t 4) (hk : k = hv (tex m t 2) l * hv (tex m t 3) l) : vp 294 39 [(2, 88), (0, t), (0, (l : Int)), (0, how), (0, c), (0, hv (tex m t 2) l), (0, k), z] [] (n, m) = some (some (0, c), (n, m)) := by
  have X := S.2.2.1
  have Wh := X.wh ht hl
  have sz := sz_le Wh.1.1 Wh.1.2 Wh.2.1.1 Wh.2.1.2
  have ph := p_high (h := (n, m)) F.m X ht (show l < 10 by omega)
  dsimp only at ph
  have ww : w32 (hv (tex m t 2) l * hv (tex m t 3) l) = hv (tex m t 2) l * hv (tex m t 3) l := w32_i (by omega) (by omega)
  rw [e_X12_missesOf_39]
  generalize hv (tex m t 2) l = w at *
  generalize hv (tex m t 3) l = g at *
  have nk : k ≥ w32 (w * g) := by rw [ww]; omega
  clear ww
  repeat first
    | (refine Eq.trans (if_pos ?_) ?_; · first | omega | (simp (disch := omega) only [ph, nk, Int.reduceLT, Int.reduceLE, Int.reduceEq, Int.reduceNe, Int.reduceNeg, Int.reduceAdd, Int.reduceSub, Int.reduceMul, Int.reduceGE, Int.reduceGT, Nat.reduceEqDiff, Nat.reduceAdd, and_true, true_and, and_self, not_true_eq_false, not_false_eq_true, ne_eq, and_false, false_and, or_false, or_true, false_or, true_or, vx_some, eq_self, ↓reduceIte, ite_t1, ite_t2, ite_t3, le_T, le_F, lt_T, lt_F, ge_T, ge_F, gt_T, gt_F, eq_T, eq_F, w32_i, kd_1, kd_2, kd_3, kd_4, kd_5, kd_6, kd_7, kd_14, kd_15, kd_16, kd_29, kd_34, kd_56, kd_74, kd_75, kd_76, kd_77, kd_78, kd_79, kd_80, kd_81, kd_82, kd_83, kd_84, kd_85, kd_86, kd_87, kd_88, kd_89, kd_90, kd_91, kd_92, kd_93, kd_94, kd_95, kd_96, kd_97, kd_98, kd_99, kd_100, kd_101, kd_102, kd_103, kd_104, kd_105, kd_106, kd_107, kd_108]; done))
    | (refine Eq.trans (if_neg ?_) ?_; · first | omega | (simp (disch := omega) only [ph, nk, Int.reduceLT, Int.reduceLE, Int.reduceEq, Int.reduceNe, Int.reduceNeg, Int.reduceAdd, Int.reduceSub, Int.reduceMul, Int.reduceGE, Int.reduceGT, Nat.reduceEqDiff, Nat.reduceAdd, and_true, true_and, and_self, not_true_eq_false, not_false_eq_true, ne_eq, and_false, false_and, or_false, or_true, false_or, true_or, vx_some, eq_self, ↓reduceIte, ite_t1, ite_t2, ite_t3, le_T, le_F, lt_T, lt_F, ge_T, ge_F, gt_T, gt_F, eq_T, eq_F, w32_i, kd_1, kd_2, kd_3, kd_4, kd_5, kd_6, kd_7, kd_14, kd_15, kd_16, kd_29, kd_34, kd_56, kd_74, kd_75, kd_76, kd_77, kd_78, kd_79, kd_80, kd_81, kd_82, kd_83, kd_84, kd_85, kd_86, kd_87, kd_88, kd_89, kd_90, kd_91, kd_92, kd_93, kd_94, kd_95, kd_96, kd_97, kd_98, kd_99, kd_100, kd_101, kd_102, kd_103, kd_104, kd_105, kd_106, kd_107, kd_108]; done))
    | (refine Eq.trans (bnd (r := ?_) ?_) ?_; rotate_left 1; (focus (simp (disch := omega) only [ph, nk, Int.reduceLT, Int.reduceLE, Int.reduceEq, Int.reduceNe, Int.reduceNeg, Int.reduceAdd, Int.reduceSub, Int.reduceMul, Int.reduceGE, Int.reduceGT, Nat.reduceEqDiff, Nat.reduceAdd, and_true, true_and, and_self, not_true_eq_false, not_false_eq_true, ne_eq, and_false, false_and, or_false, or_true, false_or, true_or, vx_some, eq_self, ↓reduceIte, ite_t1, ite_t2, ite_t3, le_T, le_F, lt_T, lt_F, ge_T, ge_F, gt_T, gt_F, eq_T, eq_F, w32_i, kd_1, kd_2, kd_3, kd_4, kd_5, kd_6, kd_7, kd_14, kd_15, kd_16, kd_29, kd_34, kd_56, kd_74, kd_75, kd_76, kd_77, kd_78, kd_79, kd_80, kd_81, kd_82, kd_83, kd_84, kd_85, kd_86, kd_87, kd_88, kd_89, kd_90, kd_91, kd_92, kd_93, kd_94, kd_95, kd_96, kd_97, kd_98, kd_99, kd_100, kd_101, kd_102, kd_103, kd_104, kd_105, kd_106, kd_107, kd_108]; exact rfl)); simp only [vx_some])
  all_goals rfl
end
