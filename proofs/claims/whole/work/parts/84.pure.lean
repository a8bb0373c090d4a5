/-! THE PURE PART: fetch: the call -/
/-- what the model does to its cells -/
def feM (m : Mm) (x : Int) : Mm := stm (stm (hlM (stm m 105 x (m 105 x + 1)) 0 x) 88 34 (m 88 34 + htM m 0 x)) 88 35 (m 88 35 + (1 - htM m 0 x))
theorem feM_fr (m : Mm) (x o k : Int) (h : ¬ (o = 105 ∨ o = 103 ∨ o = 104 ∨ (o = 88 ∧ 34 ≤ k ∧ k ≤ 36))) : feM m x o k = m o k := by
  unfold feM
  rw [stm_ap, if_neg (by omega), stm_ap, if_neg (by omega), hlM_fr _ _ _ _ _ (by omega) (by omega) (by omega), stm_ap, if_neg (by omega)]
theorem feM_105 (m : Mm) (x k : Int) : feM m x 105 k = if k = x then m 105 x + 1 else m 105 k := by
  unfold feM
  rw [stm_ap, if_neg (by omega), stm_ap, if_neg (by omega), hlM_fr _ _ _ _ _ (by omega) (by omega) (by omega), stm_ap]
  by_cases z : k = x
  · rw [if_pos ⟨rfl, z⟩, if_pos z]
  · rw [if_neg (fun w => z w.2), if_neg z]
theorem feM_34 (m : Mm) (x : Int) : feM m x 88 34 = m 88 34 + htM m 0 x := by
  unfold feM
  rw [stm_ap, if_neg (by omega), stm_same]
theorem feM_35 (m : Mm) (x : Int) : feM m x 88 35 = m 88 35 + (1 - htM m 0 x) := by
  unfold feM
  rw [stm_same]
theorem feM_36 (m : Mm) (x : Int) : feM m x 88 36 = m 88 36 + 1 := by
  unfold feM
  rw [stm_ap, if_neg (by omega), stm_ap, if_neg (by omega), hlM_36, stm_ap, if_neg (by omega)]
theorem feM_lt (m : Mm) (x : Int) : feM m x 103 = hlM m 0 x 103 ∧ feM m x 104 = hlM m 0 x 104 := by
  have c := hlM_cg (m := m) (m' := stm m 105 x (m 105 x + 1)) (funext fun q => by rw [stm_ap, if_neg (by omega)]) (funext fun q => by rw [stm_ap, if_neg (by omega)]) (funext fun q => by rw [stm_ap, if_neg (by omega)]) (by rw [stm_ap, if_neg (by omega)]) 0 x
  constructor
  · rw [← c.1]
    funext q
    unfold feM
    rw [stm_ap, if_neg (by omega), stm_ap, if_neg (by omega)]
  · rw [← c.2]
    funext q
    unfold feM
    rw [stm_ap, if_neg (by omega), stm_ap, if_neg (by omega)]
theorem p_fetchL {n : Int} {m : Mm} (F : FX m) (Z : CZ (m 90 0) (m 90 1)) {t x : Int} {l : Nat} {a b : Int} (hx : vm 240 [(2, 88), (0, t), (0, (l : Int)), (0, a), (0, b)] (n, m) = some (some (0, 1), (n, m))) (hl : vm 288 [(2, 88), (0, t), (0, (l : Int)), (0, a), (0, b)] (n, m) = some (some (0, x), (n, m))) (x0 : 0 ≤ x) (x1 : x < 2400) (k50 : 0 ≤ m 88 36) (k51 : m 88 36 ≤ 10000000) (a0 : 0 ≤ m 105 x) (a1 : m 105 x ≤ 600) (b0 : 0 ≤ m 88 34) (b1 : m 88 34 ≤ 600) (d0 : 0 ≤ m 88 35) (d1 : m 88 35 ≤ 600) : vm 290 [(2, 88), (0, t), (0, (l : Int)), (0, a), (0, b)] (n, m) = some (some (0, htM m 0 x), (n, feM m x)) := by
  have c33 := F.c88_33
  have q90 : stm m 105 x (m 105 x + 1) 90 = m 90 := funext fun q => by rw [stm_ap, if_neg (by omega)]
  have q103 : stm m 105 x (m 105 x + 1) 103 = m 103 := funext fun q => by rw [stm_ap, if_neg (by omega)]
  have q104 : stm m 105 x (m 105 x + 1) 104 = m 104 := funext fun q => by rw [stm_ap, if_neg (by omega)]
  have q36 : stm m 105 x (m 105 x + 1) 88 36 = m 88 36 := by rw [stm_ap, if_neg (by omega)]
  have F1 : FX (stm m 105 x (m 105 x + 1)) := F.fr (fun c k q => by unfold FXP at q; rw [stm_ap, if_neg (by omega)])
  have ff := p_fetches (n := n) (m := stm m 105 x (m 105 x + 1)) (x := x) F1 (by rw [q90]; exact Z) (b := 0) (Or.inl rfl) x0 (by omega) (by omega) (by omega)
  rw [(slM_cg q90 q103 q104 0 x).2] at ff
  have h34 : hlM (stm m 105 x (m 105 x + 1)) 0 x 88 34 = m 88 34 := by rw [hlM_fr _ _ _ _ _ (by omega) (by omega) (by omega), stm_ap, if_neg (by omega)]
  have h35 : hlM (stm m 105 x (m 105 x + 1)) 0 x 88 35 = m 88 35 := by rw [hlM_fr _ _ _ _ _ (by omega) (by omega) (by omega), stm_ap, if_neg (by omega)]
  have hh := htM_01 m 0 x
  clear F1 q90 q103 q104 q36 Z F
  rw [e_X12_fetch]
  unfold feM
  generalize htM m 0 x = u at *
  generalize hlM (stm m 105 x (m 105 x + 1)) 0 x = M at *
  have s35 : ∀ v : Int, stm M 88 34 v 88 35 = m 88 35 := fun v => by rw [stm_ap, if_neg (by omega), h35]
  have wx : w32 (m 105 x + 1) = m 105 x + 1 := w32_i (by omega) (by omega)
  rcases hh with rfl | rfl
  · repeat first
      | (refine Eq.trans (if_pos ?_) ?_; · first | omega | (simp (disch := omega) only [hx, hl, c33, wx, ff, p_truth, Int.reduceLT, Int.reduceLE, Int.reduceEq, Int.reduceNe, Int.reduceNeg, Int.reduceAdd, Int.reduceSub, Int.reduceMul, Int.reduceGE, Int.reduceGT, Nat.reduceEqDiff, Nat.reduceAdd, and_true, true_and, and_self, not_true_eq_false, not_false_eq_true, ne_eq, and_false, false_and, or_false, or_true, false_or, true_or, vx_some, eq_self, ↓reduceIte, ite_t1, ite_t2, ite_t3, le_T, le_F, lt_T, lt_F, ge_T, ge_F, gt_T, gt_F, eq_T, eq_F, w32_i, kd_1, kd_2, kd_3, kd_4, kd_5, kd_6, kd_7, kd_14, kd_15, kd_16, kd_29, kd_34, kd_56, kd_74, kd_75, kd_76, kd_77, kd_78, kd_79, kd_80, kd_81, kd_82, kd_83, kd_84, kd_85, kd_86, kd_87, kd_88, kd_89, kd_90, kd_91, kd_92, kd_93, kd_94, kd_95, kd_96, kd_97, kd_98, kd_99, kd_100, kd_101, kd_102, kd_103, kd_104, kd_105, kd_106, kd_107, kd_108]; done))
      | (refine Eq.trans (if_neg ?_) ?_; · first | omega | (simp (disch := omega) only [hx, hl, c33, wx, ff, p_truth, Int.reduceLT, Int.reduceLE, Int.reduceEq, Int.reduceNe, Int.reduceNeg, Int.reduceAdd, Int.reduceSub, Int.reduceMul, Int.reduceGE, Int.reduceGT, Nat.reduceEqDiff, Nat.reduceAdd, and_true, true_and, and_self, not_true_eq_false, not_false_eq_true, ne_eq, and_false, false_and, or_false, or_true, false_or, true_or, vx_some, eq_self, ↓reduceIte, ite_t1, ite_t2, ite_t3, le_T, le_F, lt_T, lt_F, ge_T, ge_F, gt_T, gt_F, eq_T, eq_F, w32_i, kd_1, kd_2, kd_3, kd_4, kd_5, kd_6, kd_7, kd_14, kd_15, kd_16, kd_29, kd_34, kd_56, kd_74, kd_75, kd_76, kd_77, kd_78, kd_79, kd_80, kd_81, kd_82, kd_83, kd_84, kd_85, kd_86, kd_87, kd_88, kd_89, kd_90, kd_91, kd_92, kd_93, kd_94, kd_95, kd_96, kd_97, kd_98, kd_99, kd_100, kd_101, kd_102, kd_103, kd_104, kd_105, kd_106, kd_107, kd_108]; done))
      | (refine Eq.trans (bnd (r := ?_) ?_) ?_; rotate_left 1; (focus (simp (disch := omega) only [hx, hl, c33, wx, ff, p_truth, Int.reduceLT, Int.reduceLE, Int.reduceEq, Int.reduceNe, Int.reduceNeg, Int.reduceAdd, Int.reduceSub, Int.reduceMul, Int.reduceGE, Int.reduceGT, Nat.reduceEqDiff, Nat.reduceAdd, and_true, true_and, and_self, not_true_eq_false, not_false_eq_true, ne_eq, and_false, false_and, or_false, or_true, false_or, true_or, vx_some, eq_self, ↓reduceIte, ite_t1, ite_t2, ite_t3, le_T, le_F, lt_T, lt_F, ge_T, ge_F, gt_T, gt_F, eq_T, eq_F, w32_i, kd_1, kd_2, kd_3, kd_4, kd_5, kd_6, kd_7, kd_14, kd_15, kd_16, kd_29, kd_34, kd_56, kd_74, kd_75, kd_76, kd_77, kd_78, kd_79, kd_80, kd_81, kd_82, kd_83, kd_84, kd_85, kd_86, kd_87, kd_88, kd_89, kd_90, kd_91, kd_92, kd_93, kd_94, kd_95, kd_96, kd_97, kd_98, kd_99, kd_100, kd_101, kd_102, kd_103, kd_104, kd_105, kd_106, kd_107, kd_108]; exact rfl)); simp only [vx_some])
    simp only [h34, s35]
    rw [w32_i (x := m 88 35 + 1) (by omega) (by omega)]
    rfl
  · repeat first
      | (refine Eq.trans (if_pos ?_) ?_; · first | omega | (simp (disch := omega) only [hx, hl, c33, wx, ff, p_truth, Int.reduceLT, Int.reduceLE, Int.reduceEq, Int.reduceNe, Int.reduceNeg, Int.reduceAdd, Int.reduceSub, Int.reduceMul, Int.reduceGE, Int.reduceGT, Nat.reduceEqDiff, Nat.reduceAdd, and_true, true_and, and_self, not_true_eq_false, not_false_eq_true, ne_eq, and_false, false_and, or_false, or_true, false_or, true_or, vx_some, eq_self, ↓reduceIte, ite_t1, ite_t2, ite_t3, le_T, le_F, lt_T, lt_F, ge_T, ge_F, gt_T, gt_F, eq_T, eq_F, w32_i, kd_1, kd_2, kd_3, kd_4, kd_5, kd_6, kd_7, kd_14, kd_15, kd_16, kd_29, kd_34, kd_56, kd_74, kd_75, kd_76, kd_77, kd_78, kd_79, kd_80, kd_81, kd_82, kd_83, kd_84, kd_85, kd_86, kd_87, kd_88, kd_89, kd_90, kd_91, kd_92, kd_93, kd_94, kd_95, kd_96, kd_97, kd_98, kd_99, kd_100, kd_101, kd_102, kd_103, kd_104, kd_105, kd_106, kd_107, kd_108]; done))
      | (refine Eq.trans (if_neg ?_) ?_; · first | omega | (simp (disch := omega) only [hx, hl, c33, wx, ff, p_truth, Int.reduceLT, Int.reduceLE, Int.reduceEq, Int.reduceNe, Int.reduceNeg, Int.reduceAdd, Int.reduceSub, Int.reduceMul, Int.reduceGE, Int.reduceGT, Nat.reduceEqDiff, Nat.reduceAdd, and_true, true_and, and_self, not_true_eq_false, not_false_eq_true, ne_eq, and_false, false_and, or_false, or_true, false_or, true_or, vx_some, eq_self, ↓reduceIte, ite_t1, ite_t2, ite_t3, le_T, le_F, lt_T, lt_F, ge_T, ge_F, gt_T, gt_F, eq_T, eq_F, w32_i, kd_1, kd_2, kd_3, kd_4, kd_5, kd_6, kd_7, kd_14, kd_15, kd_16, kd_29, kd_34, kd_56, kd_74, kd_75, kd_76, kd_77, kd_78, kd_79, kd_80, kd_81, kd_82, kd_83, kd_84, kd_85, kd_86, kd_87, kd_88, kd_89, kd_90, kd_91, kd_92, kd_93, kd_94, kd_95, kd_96, kd_97, kd_98, kd_99, kd_100, kd_101, kd_102, kd_103, kd_104, kd_105, kd_106, kd_107, kd_108]; done))
      | (refine Eq.trans (bnd (r := ?_) ?_) ?_; rotate_left 1; (focus (simp (disch := omega) only [hx, hl, c33, wx, ff, p_truth, Int.reduceLT, Int.reduceLE, Int.reduceEq, Int.reduceNe, Int.reduceNeg, Int.reduceAdd, Int.reduceSub, Int.reduceMul, Int.reduceGE, Int.reduceGT, Nat.reduceEqDiff, Nat.reduceAdd, and_true, true_and, and_self, not_true_eq_false, not_false_eq_true, ne_eq, and_false, false_and, or_false, or_true, false_or, true_or, vx_some, eq_self, ↓reduceIte, ite_t1, ite_t2, ite_t3, le_T, le_F, lt_T, lt_F, ge_T, ge_F, gt_T, gt_F, eq_T, eq_F, w32_i, kd_1, kd_2, kd_3, kd_4, kd_5, kd_6, kd_7, kd_14, kd_15, kd_16, kd_29, kd_34, kd_56, kd_74, kd_75, kd_76, kd_77, kd_78, kd_79, kd_80, kd_81, kd_82, kd_83, kd_84, kd_85, kd_86, kd_87, kd_88, kd_89, kd_90, kd_91, kd_92, kd_93, kd_94, kd_95, kd_96, kd_97, kd_98, kd_99, kd_100, kd_101, kd_102, kd_103, kd_104, kd_105, kd_106, kd_107, kd_108]; exact rfl)); simp only [vx_some])
    simp only [h34, s35]
    rw [w32_i (x := m 88 35 + 0) (by omega) (by omega)]
    rfl
section
variable {i : Int} {h : Hq} {t l x y : Int}
theorem k_fetch (I : INV i h) (hi : i < 600) : OKC i 148 290 [(0, t), (0, l), (0, x), (0, y)] h := by
  obtain ⟨n, m⟩ := h
  have F := I.fx
  obtain ⟨p0, pr, p3, p4, pt⟩ := I.pl.fx F
  have BB := I.sh.2.2.2.2.1
  have O := I.ou.1
  have ir := I.ir
  have hl1 := c_hasTexelT (h := (n, m)) F I.pl I.tx BB t l x y
  dsimp only at p0 pr p3 p4 pt BB O hl1
  by_cases q : ((0 ≤ t ∧ t < m 90 4) ∧ 0 ≤ l ∧ l < tex m t 4) ∧ (0 ≤ x ∧ x < hv (tex m t 2) l.toNat) ∧ 0 ≤ y ∧ y < hv (tex m t 3) l.toNat
  · have B := I.tb q.1.1
    have T := isT.r I.tx q.1.1
    have R := B.r
    have et := pt t T.1 T.2
    obtain ⟨k, rfl⟩ : ∃ k : Nat, l = k := ⟨l.toNat, by omega⟩
    have hx : isX m t k x y := ⟨q.1.1, q.1.2.2, q.2.1, q.2.2⟩
    have cs := I.cs
    have s4 : m 77 4 = m 90 2 := cs.2.2.2.1.2.2
    have n2 : 1 ≤ m 90 2 ∧ m 90 2 ≤ 16 := by have := cs.2.2.1; dsimp only at this; omega
    have BC0 : BCa m m 77 0 := BCa.of I.ca I.cs
    have Zz : CZ (m 90 0) (m 90 1) := BC0.2.1
    have ST := I.tx.st I.kl q.1.1
    have PR := plM_rng I.tx I.kl (by show -1 ≤ m 88 30 ∧ m 88 30 ≤ 2; omega) hx
    have LR := lnM_rng I.tx I.kl (by show -1 ≤ m 88 30 ∧ m 88 30 ≤ 2; omega) n2.1 hx
    have T5 := I.ta.2.2.2.2 (lnM m t k x y) LR.1 (by have := LR.2; dsimp only at this; omega)
    have T1 := I.ta.1
    have T2 := I.ta.2.1
    have T3 := I.ta.2.2.1
    have T4 := I.ta.2.2.2.1
    have C2 := I.ca.2.1
    have C3 := I.ca.2.2.1
    have C4 := I.ca.2.2.2
    have hc := hct_rng (m 103) 32
    have cpl := c_placeOf (h := (n, m)) B I.tx I.kl hx
    have e4 := B.f4
    have BK := B.k0
    have lnx : lnM m t k x y = (400 * tex m t 0 + plO m t (tex m t 5) k x y) / m 90 2 := by unfold lnM; rw [plM_n O]
    have pl1 := plM_n O t k x y
    dsimp only at *
    rw [pl1] at PR
    have cln : vm 10 [(2, 77), (0, tex m t 0), (0, plO m t (tex m t 5) k x y)] (n, m) = some (some (0, lnM m t k x y), (n, m)) := by
      rw [c_lineOf (h := (n, m)) (C := 77) kd_77 (by omega) ST.1.1 ST.1.2.2 PR.2.2.1 PR.2.2.2.2 (by show 1 ≤ m 77 4; omega) (by show m 77 4 ≤ 16; omega), lnx]
      show some (some (0, _ / m 77 4), (n, m)) = _
      rw [s4]
    have pln := p_lineOf (h := (n, m)) F I.tx I.kl (by show -1 ≤ m 88 30 ∧ m 88 30 ≤ 2; omega) n2.1 hx
    have pix := p_isX (h := (n, m)) F.m I.tx t k x y
    dsimp only at pln pix
    generalize hz : lnM m t k x y = z at *
    clear lnx PR pl1
    have CHm : CH m 77 := ⟨Or.inl rfl, ⟨F.c77_0, F.c77_1⟩, by rw [BC0.1.1, BC0.1.2]; exact Zz⟩
    have ho := c_hold (n := n) CHm LR.1 (by omega) (by omega) (by omega) (by omega) (by omega)
    obtain ⟨eu, tt, w, ht, hw, es, em, e103⟩ := BC0.way LR.1
    have NB := BC0.next LR.1 (Or.inl rfl)
    have fh1 := fun o k h1 h2 h3 => hlC_fr m 77 z o k h1 h2 h3
    have F1 : FX (hlC m 77 z) := F.fr (fun c k q => by unfold FXP at q; exact fh1 c k (by omega) (by omega) (by omega))
    have u01 := htM_01 m 0 z
    have r61 := hlC_6 m 77 z
    rw [es, e103] at r61
    rw [eu] at ho
    have ct := c_count (n := n) F1 (x := z) (u := htM m 0 z) u01 LR.1 LR.2 (by rw [fh1 84 z (by omega) (by omega) (by omega)]; omega) (by rw [fh1 84 z (by omega) (by omega) (by omega)]; omega) (by rw [fh1 83 1 (by omega) (by omega) (by omega)]; omega) (by rw [fh1 83 1 (by omega) (by omega) (by omega)]; omega) (by rw [fh1 83 2 (by omega) (by omega) (by omega)]; omega) (by rw [fh1 83 2 (by omega) (by omega) (by omega)]; omega)
    have f19 : hlC m 77 z 1 9 = 83 := by rw [fh1 1 9 (by omega) (by omega) (by omega)]; exact F.c1_9
    have c17 : m 1 7 = 77 := F.c1_7
    have run : vm 148 [(2, 1), (0, t), (0, (k : Int)), (0, x), (0, y)] (n, m) = some (some (0, htM m 0 z), (n, tyC (hlC m 77 z) z (htM m 0 z))) := by
      clear NB es em e103 r61 eu fh1 F1 pln pix T1 T2 T3 T4 T5 C2 C3 C4 hc CHm BB cs
      rw [e_X11_fetch]
      rcases u01 with u | u
      · rw [u] at ho ct ⊢
        repeat first
          | (refine Eq.trans (if_pos ?_) ?_; · first | omega | (simp (disch := omega) only [hl1, if_pos q, p0, p3, p4, et, BK, cpl, c17, e4, cln, ho, f19, ct, Int.reduceLT, Int.reduceLE, Int.reduceEq, Int.reduceNe, Int.reduceNeg, Int.reduceAdd, Int.reduceSub, Int.reduceMul, Int.reduceGE, Int.reduceGT, Nat.reduceEqDiff, Nat.reduceAdd, and_true, true_and, and_self, not_true_eq_false, not_false_eq_true, ne_eq, and_false, false_and, or_false, or_true, false_or, true_or, vx_some, eq_self, ↓reduceIte, ite_t1, ite_t2, ite_t3, le_T, le_F, lt_T, lt_F, ge_T, ge_F, gt_T, gt_F, eq_T, eq_F, w32_i, kd_1, kd_2, kd_3, kd_4, kd_5, kd_6, kd_7, kd_14, kd_15, kd_16, kd_29, kd_34, kd_56, kd_74, kd_75, kd_76, kd_77, kd_78, kd_79, kd_80, kd_81, kd_82, kd_83, kd_84, kd_85, kd_86, kd_87, kd_88, kd_89, kd_90, kd_91, kd_92, kd_93, kd_94, kd_95, kd_96, kd_97, kd_98, kd_99, kd_100, kd_101, kd_102, kd_103, kd_104, kd_105, kd_106, kd_107, kd_108]; done))
          | (refine Eq.trans (if_neg ?_) ?_; · first | omega | (simp (disch := omega) only [hl1, if_pos q, p0, p3, p4, et, BK, cpl, c17, e4, cln, ho, f19, ct, Int.reduceLT, Int.reduceLE, Int.reduceEq, Int.reduceNe, Int.reduceNeg, Int.reduceAdd, Int.reduceSub, Int.reduceMul, Int.reduceGE, Int.reduceGT, Nat.reduceEqDiff, Nat.reduceAdd, and_true, true_and, and_self, not_true_eq_false, not_false_eq_true, ne_eq, and_false, false_and, or_false, or_true, false_or, true_or, vx_some, eq_self, ↓reduceIte, ite_t1, ite_t2, ite_t3, le_T, le_F, lt_T, lt_F, ge_T, ge_F, gt_T, gt_F, eq_T, eq_F, w32_i, kd_1, kd_2, kd_3, kd_4, kd_5, kd_6, kd_7, kd_14, kd_15, kd_16, kd_29, kd_34, kd_56, kd_74, kd_75, kd_76, kd_77, kd_78, kd_79, kd_80, kd_81, kd_82, kd_83, kd_84, kd_85, kd_86, kd_87, kd_88, kd_89, kd_90, kd_91, kd_92, kd_93, kd_94, kd_95, kd_96, kd_97, kd_98, kd_99, kd_100, kd_101, kd_102, kd_103, kd_104, kd_105, kd_106, kd_107, kd_108]; done))
          | (refine Eq.trans (bnd (r := ?_) ?_) ?_; rotate_left 1; (focus (simp (disch := omega) only [hl1, if_pos q, p0, p3, p4, et, BK, cpl, c17, e4, cln, ho, f19, ct, Int.reduceLT, Int.reduceLE, Int.reduceEq, Int.reduceNe, Int.reduceNeg, Int.reduceAdd, Int.reduceSub, Int.reduceMul, Int.reduceGE, Int.reduceGT, Nat.reduceEqDiff, Nat.reduceAdd, and_true, true_and, and_self, not_true_eq_false, not_false_eq_true, ne_eq, and_false, false_and, or_false, or_true, false_or, true_or, vx_some, eq_self, ↓reduceIte, ite_t1, ite_t2, ite_t3, le_T, le_F, lt_T, lt_F, ge_T, ge_F, gt_T, gt_F, eq_T, eq_F, w32_i, kd_1, kd_2, kd_3, kd_4, kd_5, kd_6, kd_7, kd_14, kd_15, kd_16, kd_29, kd_34, kd_56, kd_74, kd_75, kd_76, kd_77, kd_78, kd_79, kd_80, kd_81, kd_82, kd_83, kd_84, kd_85, kd_86, kd_87, kd_88, kd_89, kd_90, kd_91, kd_92, kd_93, kd_94, kd_95, kd_96, kd_97, kd_98, kd_99, kd_100, kd_101, kd_102, kd_103, kd_104, kd_105, kd_106, kd_107, kd_108]; exact rfl)); simp only [vx_some])
        rfl
      · rw [u] at ho ct ⊢
        repeat first
          | (refine Eq.trans (if_pos ?_) ?_; · first | omega | (simp (disch := omega) only [hl1, if_pos q, p0, p3, p4, et, BK, cpl, c17, e4, cln, ho, f19, ct, Int.reduceLT, Int.reduceLE, Int.reduceEq, Int.reduceNe, Int.reduceNeg, Int.reduceAdd, Int.reduceSub, Int.reduceMul, Int.reduceGE, Int.reduceGT, Nat.reduceEqDiff, Nat.reduceAdd, and_true, true_and, and_self, not_true_eq_false, not_false_eq_true, ne_eq, and_false, false_and, or_false, or_true, false_or, true_or, vx_some, eq_self, ↓reduceIte, ite_t1, ite_t2, ite_t3, le_T, le_F, lt_T, lt_F, ge_T, ge_F, gt_T, gt_F, eq_T, eq_F, w32_i, kd_1, kd_2, kd_3, kd_4, kd_5, kd_6, kd_7, kd_14, kd_15, kd_16, kd_29, kd_34, kd_56, kd_74, kd_75, kd_76, kd_77, kd_78, kd_79, kd_80, kd_81, kd_82, kd_83, kd_84, kd_85, kd_86, kd_87, kd_88, kd_89, kd_90, kd_91, kd_92, kd_93, kd_94, kd_95, kd_96, kd_97, kd_98, kd_99, kd_100, kd_101, kd_102, kd_103, kd_104, kd_105, kd_106, kd_107, kd_108]; done))
          | (refine Eq.trans (if_neg ?_) ?_; · first | omega | (simp (disch := omega) only [hl1, if_pos q, p0, p3, p4, et, BK, cpl, c17, e4, cln, ho, f19, ct, Int.reduceLT, Int.reduceLE, Int.reduceEq, Int.reduceNe, Int.reduceNeg, Int.reduceAdd, Int.reduceSub, Int.reduceMul, Int.reduceGE, Int.reduceGT, Nat.reduceEqDiff, Nat.reduceAdd, and_true, true_and, and_self, not_true_eq_false, not_false_eq_true, ne_eq, and_false, false_and, or_false, or_true, false_or, true_or, vx_some, eq_self, ↓reduceIte, ite_t1, ite_t2, ite_t3, le_T, le_F, lt_T, lt_F, ge_T, ge_F, gt_T, gt_F, eq_T, eq_F, w32_i, kd_1, kd_2, kd_3, kd_4, kd_5, kd_6, kd_7, kd_14, kd_15, kd_16, kd_29, kd_34, kd_56, kd_74, kd_75, kd_76, kd_77, kd_78, kd_79, kd_80, kd_81, kd_82, kd_83, kd_84, kd_85, kd_86, kd_87, kd_88, kd_89, kd_90, kd_91, kd_92, kd_93, kd_94, kd_95, kd_96, kd_97, kd_98, kd_99, kd_100, kd_101, kd_102, kd_103, kd_104, kd_105, kd_106, kd_107, kd_108]; done))
          | (refine Eq.trans (bnd (r := ?_) ?_) ?_; rotate_left 1; (focus (simp (disch := omega) only [hl1, if_pos q, p0, p3, p4, et, BK, cpl, c17, e4, cln, ho, f19, ct, Int.reduceLT, Int.reduceLE, Int.reduceEq, Int.reduceNe, Int.reduceNeg, Int.reduceAdd, Int.reduceSub, Int.reduceMul, Int.reduceGE, Int.reduceGT, Nat.reduceEqDiff, Nat.reduceAdd, and_true, true_and, and_self, not_true_eq_false, not_false_eq_true, ne_eq, and_false, false_and, or_false, or_true, false_or, true_or, vx_some, eq_self, ↓reduceIte, ite_t1, ite_t2, ite_t3, le_T, le_F, lt_T, lt_F, ge_T, ge_F, gt_T, gt_F, eq_T, eq_F, w32_i, kd_1, kd_2, kd_3, kd_4, kd_5, kd_6, kd_7, kd_14, kd_15, kd_16, kd_29, kd_34, kd_56, kd_74, kd_75, kd_76, kd_77, kd_78, kd_79, kd_80, kd_81, kd_82, kd_83, kd_84, kd_85, kd_86, kd_87, kd_88, kd_89, kd_90, kd_91, kd_92, kd_93, kd_94, kd_95, kd_96, kd_97, kd_98, kd_99, kd_100, kd_101, kd_102, kd_103, kd_104, kd_105, kd_106, kd_107, kd_108]; exact rfl)); simp only [vx_some])
        rfl
    clear cpl cln ho ct hl1 f19 c17
    -- the memory behind the first half
    have g1 : ∀ o k : Int, ¬ (o = 78 ∨ o = 79 ∨ o = 84 ∨ (o = 77 ∧ (k = 5 ∨ k = 6)) ∨ (o = 83 ∧ (k = 1 ∨ k = 2))) → tyC (hlC m 77 z) z (htM m 0 z) o k = m o k := fun o k hk => by
      unfold tyC
      rw [stm_ap, if_neg (by omega), stm_ap, if_neg (by omega), stm_ap, if_neg (by omega), fh1 o k (by omega) (by omega) (by omega)]
    have y84 : ∀ k : Int, tyC (hlC m 77 z) z (htM m 0 z) 84 k = if k = z then m 84 z + 1 else m 84 k := fun k => by
      unfold tyC
      rw [stm_ap, if_neg (by omega), stm_ap, if_neg (by omega), stm_ap, fh1 84 z (by omega) (by omega) (by omega), fh1 84 k (by omega) (by omega) (by omega)]
      by_cases a : k = z
      · rw [if_pos ⟨rfl, a⟩, if_pos a]
      · rw [if_neg (fun w => a w.2), if_neg a]
    have y1 : tyC (hlC m 77 z) z (htM m 0 z) 83 1 = m 83 1 + htM m 0 z := by
      unfold tyC
      rw [stm_ap, if_neg (by omega), stm_same, fh1 83 1 (by omega) (by omega) (by omega)]
    have y2 : tyC (hlC m 77 z) z (htM m 0 z) 83 2 = m 83 2 + (1 - htM m 0 z) := by
      unfold tyC
      rw [stm_same, fh1 83 2 (by omega) (by omega) (by omega)]
    have yk : ∀ o k : Int, o = 77 ∨ o = 78 ∨ o = 79 → tyC (hlC m 77 z) z (htM m 0 z) o k = hlC m 77 z o k := fun o k ho => by
      unfold tyC
      rw [stm_ap, if_neg (by omega), stm_ap, if_neg (by omega), stm_ap, if_neg (by omega)]
    generalize tyC (hlC m 77 z) z (htM m 0 z) = m2 at *
    have F2 : FX m2 := F.fr (fun c k q => by unfold FXP at q; exact g1 c k (by omega))
    have e90 : m2 90 = m 90 := funext fun k => g1 90 k (by omega)
    have e103' : m2 103 = m 103 := funext fun k => g1 103 k (by omega)
    have e104 : m2 104 = m 104 := funext fun k => g1 104 k (by omega)
    have e36 : m2 88 36 = m 88 36 := g1 88 36 (by omega)
    have s2 : SH m2 := I.sh.fr (fun c k q => g1 c k (by unfold SHP at q; omega))
    have q2 : vm 240 [(2, 88), (0, t), (0, (k : Int)), (0, x), (0, y)] (n, m2) = some (some (0, 1), (n, m2)) := by
      have etx : ∀ a : Int, tex m2 t a = tex m t a := fun a => by unfold tex; rw [show m2 95 = m 95 from funext fun k => g1 95 k (by omega)]
      rw [p_isX (h := (n, m2)) F2.m s2.2.2.1 t k x y]
      rw [if_pos (show ((0 ≤ t ∧ t < m2 90 4) ∧ 0 ≤ (k : Int) ∧ (k : Int) < tex m2 t 4) ∧ (0 ≤ x ∧ x < hv (tex m2 t 2) (k : Int).toNat) ∧ 0 ≤ y ∧ y < hv (tex m2 t 3) (k : Int).toNat by rw [e90, etx, etx, etx]; exact q)]
    have pl2 : vm 288 [(2, 88), (0, t), (0, (k : Int)), (0, x), (0, y)] (n, m2) = some (some (0, z), (n, m2)) := by
      have hx2 : isX m2 t k x y := by
        unfold isX isT tex at hx ⊢
        rw [e90, show m2 95 = m 95 from funext fun k => g1 95 k (by omega)]
        exact hx
      have pp := p_lineOf (h := (n, m2)) F2 s2.2.2.1 s2.2.1 (by show -1 ≤ m2 88 30 ∧ m2 88 30 ≤ 2; rw [g1 88 30 (by omega)]; omega) (by show 1 ≤ m2 90 2; rw [e90]; omega) hx2
      have ee : lnM m2 t k x y = lnM m t k x y := by
        unfold lnM plM ordM fst' tex
        rw [e90, g1 88 30 (by omega), show m2 95 = m 95 from funext fun k => g1 95 k (by omega)]
      dsimp only at pp
      rw [ee, hz] at pp
      exact pp
    have hcg := slM_cg e90 e103' e104 0 z
    have lcg := hlM_cg e90 e103' e104 e36 0 z
    have run2 := p_fetchL (n := n) F2 (by rw [e90]; exact Zz) q2 pl2 LR.1 LR.2 (by omega) (by omega) (by rw [g1 105 z (by omega)]; omega) (by rw [g1 105 z (by omega)]; omega) (by rw [g1 88 34 (by omega)]; omega) (by rw [g1 88 34 (by omega)]; omega) (by rw [g1 88 35 (by omega)]; omega) (by rw [g1 88 35 (by omega)]; omega)
    rw [hcg.2] at run2
    have f1 := feM_fr m2 z
    have f105 := feM_105 m2 z
    have f34 := feM_34 m2 z
    have f35 := feM_35 m2 z
    have f36 := feM_36 m2 z
    have flt := feM_lt m2 z
    rw [hcg.2] at f34 f35
    rw [lcg.1, lcg.2] at flt
    clear hcg lcg pl2 q2 hx BC0 B p0 pr p3 p4 pt BB et
    generalize feM m2 z = m6 at *
    have fr : ∀ o k : Int, ¬ (o = 78 ∨ o = 79 ∨ o = 84 ∨ (o = 77 ∧ (k = 5 ∨ k = 6)) ∨ (o = 83 ∧ (k = 1 ∨ k = 2)) ∨ o = 105 ∨ o = 103 ∨ o = 104 ∨ (o = 88 ∧ 34 ≤ k ∧ k ≤ 36)) → m6 o k = m o k := fun o k hk => by
      rw [f1 o k (by omega), g1 o k (by omega)]
    refine ⟨(0, htM m 0 z), (n, m2), (n, m6), run, run2, funext fun k => g1 (-1) k (by omega), funext fun k => fr (-1) k (by omega), ?_⟩
    clear run run2
    refine ⟨F.fr (fun c k q => fr c k (by unfold FXP at q; omega)), I.sh.fr (fun c k q => fr c k (by unfold SHP at q; omega)), I.ro.fr (fun c k q => fr c k (by omega)) I.kl.1.2, ⟨I.rn.fr (fun c k q => fr c k (by omega)), I.ac.fr I.rn.2.1.1 (fun c k q => fr c k (by omega))⟩, I.im.fr (fun c k q => fr c k (by omega)) I.kl.1.2, ?_, ?_, I.tp.fr (fun c k q => fr c k (by omega)), I.fl.fr (fun c k q => fr c k (by omega)), I.ou.fr (fun c k q => fr c k (by omega)), by omega⟩
    · show CAC (i + 1) m6
      have e6 : m6 90 = m 90 := funext fun k => fr 90 k (by omega)
      have NB2 : BCa m6 m6 77 0 := NB.cg (by rw [f1 _ _ (by omega), yk _ _ (by omega)]) (by rw [f1 _ _ (by omega), yk _ _ (by omega)]) (by rw [f1 _ _ (by omega), yk _ _ (by omega)]) (funext fun k => by rw [f1 _ _ (by omega), yk _ _ (by omega)]) (funext fun k => by rw [f1 _ _ (by omega), yk _ _ (by omega)]) (by rw [e6, hlM_fr _ _ _ _ _ (by omega) (by omega) (by omega)]) (by rw [e6, hlM_fr _ _ _ _ _ (by omega) (by omega) (by omega)]) flt.1 flt.2 (by rw [f36, hlM_36, e36])
      have hc6 : m6 77 6 = m 77 6 + if m 103 (0 + 4 * tt + w) = -1 then 1 else 0 := by
        rw [f1 77 6 (by omega), yk 77 6 (by omega), r61]
      have hc5 : m6 77 5 = m 77 5 + 1 := by
        rw [f1 77 5 (by omega), yk 77 5 (by omega), hlC_5 _ _ _ (by omega)]
      have h103 : m6 103 = fun q => if q = 0 + 4 * tt + w then z else m 103 q := by
        rw [flt.1]
        funext q
        rw [hlM_l, em]
      have z1 := Zz.1
      have z2 := Zz.2
      refine ⟨NB2.2.2, ?_, by rw [hc5]; omega, by rw [f36, e36]; omega⟩
      rw [hc6, h103, hct_upd (by omega) (by omega) 32 (by omega), C2]
    · show TAL (i + 1) m6
      have hk : ∀ k : Int, m6 84 k = if k = z then m 84 z + 1 else m 84 k := fun k => by rw [f1 84 k (by omega), y84]
      have hk2 : ∀ k : Int, m6 105 k = if k = z then m 105 z + 1 else m 105 k := fun k => by rw [f105, g1 105 z (by omega), g1 105 k (by omega)]
      have v1 : m6 83 1 = m 83 1 + htM m 0 z := by rw [f1 83 1 (by omega), y1]
      have v2 : m6 83 2 = m 83 2 + (1 - htM m 0 z) := by rw [f1 83 2 (by omega), y2]
      have w1 : m6 88 34 = m 88 34 + htM m 0 z := by rw [f34, g1 88 34 (by omega)]
      have w2 : m6 88 35 = m 88 35 + (1 - htM m 0 z) := by rw [f35, g1 88 35 (by omega)]
      refine ⟨by rw [v1, w1, T1], by rw [v2, w2, T2], by rw [v1]; omega, by rw [v2]; omega, fun k k0 k1 => ?_⟩
      rw [hk, hk2]
      by_cases a : k = z
      · rw [if_pos a, if_pos a]
        omega
      · rw [if_neg a, if_neg a]
        have := I.ta.2.2.2.2 k k0 k1
        dsimp only at this
        omega
  · refine OKC.ro I hi (0, -1) ?_ ?_
    · rw [e_X11_fetch]
      repeat first
        | (refine Eq.trans (if_pos ?_) ?_; · first | omega | (simp (disch := omega) only [hl1, if_neg q, Int.reduceLT, Int.reduceLE, Int.reduceEq, Int.reduceNe, Int.reduceNeg, Int.reduceAdd, Int.reduceSub, Int.reduceMul, Int.reduceGE, Int.reduceGT, Nat.reduceEqDiff, Nat.reduceAdd, and_true, true_and, and_self, not_true_eq_false, not_false_eq_true, ne_eq, and_false, false_and, or_false, or_true, false_or, true_or, vx_some, eq_self, ↓reduceIte, ite_t1, ite_t2, ite_t3, le_T, le_F, lt_T, lt_F, ge_T, ge_F, gt_T, gt_F, eq_T, eq_F, w32_i, kd_1, kd_2, kd_3, kd_4, kd_5, kd_6, kd_7, kd_14, kd_15, kd_16, kd_29, kd_34, kd_56, kd_74, kd_75, kd_76, kd_77, kd_78, kd_79, kd_80, kd_81, kd_82, kd_83, kd_84, kd_85, kd_86, kd_87, kd_88, kd_89, kd_90, kd_91, kd_92, kd_93, kd_94, kd_95, kd_96, kd_97, kd_98, kd_99, kd_100, kd_101, kd_102, kd_103, kd_104, kd_105, kd_106, kd_107, kd_108]; done))
        | (refine Eq.trans (if_neg ?_) ?_; · first | omega | (simp (disch := omega) only [hl1, if_neg q, Int.reduceLT, Int.reduceLE, Int.reduceEq, Int.reduceNe, Int.reduceNeg, Int.reduceAdd, Int.reduceSub, Int.reduceMul, Int.reduceGE, Int.reduceGT, Nat.reduceEqDiff, Nat.reduceAdd, and_true, true_and, and_self, not_true_eq_false, not_false_eq_true, ne_eq, and_false, false_and, or_false, or_true, false_or, true_or, vx_some, eq_self, ↓reduceIte, ite_t1, ite_t2, ite_t3, le_T, le_F, lt_T, lt_F, ge_T, ge_F, gt_T, gt_F, eq_T, eq_F, w32_i, kd_1, kd_2, kd_3, kd_4, kd_5, kd_6, kd_7, kd_14, kd_15, kd_16, kd_29, kd_34, kd_56, kd_74, kd_75, kd_76, kd_77, kd_78, kd_79, kd_80, kd_81, kd_82, kd_83, kd_84, kd_85, kd_86, kd_87, kd_88, kd_89, kd_90, kd_91, kd_92, kd_93, kd_94, kd_95, kd_96, kd_97, kd_98, kd_99, kd_100, kd_101, kd_102, kd_103, kd_104, kd_105, kd_106, kd_107, kd_108]; done))
        | (refine Eq.trans (bnd (r := ?_) ?_) ?_; rotate_left 1; (focus (simp (disch := omega) only [hl1, if_neg q, Int.reduceLT, Int.reduceLE, Int.reduceEq, Int.reduceNe, Int.reduceNeg, Int.reduceAdd, Int.reduceSub, Int.reduceMul, Int.reduceGE, Int.reduceGT, Nat.reduceEqDiff, Nat.reduceAdd, and_true, true_and, and_self, not_true_eq_false, not_false_eq_true, ne_eq, and_false, false_and, or_false, or_true, false_or, true_or, vx_some, eq_self, ↓reduceIte, ite_t1, ite_t2, ite_t3, le_T, le_F, lt_T, lt_F, ge_T, ge_F, gt_T, gt_F, eq_T, eq_F, w32_i, kd_1, kd_2, kd_3, kd_4, kd_5, kd_6, kd_7, kd_14, kd_15, kd_16, kd_29, kd_34, kd_56, kd_74, kd_75, kd_76, kd_77, kd_78, kd_79, kd_80, kd_81, kd_82, kd_83, kd_84, kd_85, kd_86, kd_87, kd_88, kd_89, kd_90, kd_91, kd_92, kd_93, kd_94, kd_95, kd_96, kd_97, kd_98, kd_99, kd_100, kd_101, kd_102, kd_103, kd_104, kd_105, kd_106, kd_107, kd_108]; exact rfl)); simp only [vx_some])
      all_goals first | rfl | (simp (disch := omega) only [Int.reduceLT, Int.reduceLE, Int.reduceEq, Int.reduceNe, Int.reduceNeg, Int.reduceAdd, Int.reduceSub, Int.reduceMul, Int.reduceGE, Int.reduceGT, Nat.reduceEqDiff, Nat.reduceAdd, and_true, true_and, and_self, not_true_eq_false, not_false_eq_true, ne_eq, and_false, false_and, or_false, or_true, false_or, true_or, vx_some, eq_self, ↓reduceIte, ite_t1, ite_t2, ite_t3, le_T, le_F, lt_T, lt_F, ge_T, ge_F, gt_T, gt_F, eq_T, eq_F, w32_i]; done)
    · rw [e_X12_fetch]
      repeat first
        | (refine Eq.trans (if_pos ?_) ?_; · first | omega | (simp (disch := omega) only [p_isX F.m I.tx, if_neg q, Int.reduceLT, Int.reduceLE, Int.reduceEq, Int.reduceNe, Int.reduceNeg, Int.reduceAdd, Int.reduceSub, Int.reduceMul, Int.reduceGE, Int.reduceGT, Nat.reduceEqDiff, Nat.reduceAdd, and_true, true_and, and_self, not_true_eq_false, not_false_eq_true, ne_eq, and_false, false_and, or_false, or_true, false_or, true_or, vx_some, eq_self, ↓reduceIte, ite_t1, ite_t2, ite_t3, le_T, le_F, lt_T, lt_F, ge_T, ge_F, gt_T, gt_F, eq_T, eq_F, w32_i, kd_1, kd_2, kd_3, kd_4, kd_5, kd_6, kd_7, kd_14, kd_15, kd_16, kd_29, kd_34, kd_56, kd_74, kd_75, kd_76, kd_77, kd_78, kd_79, kd_80, kd_81, kd_82, kd_83, kd_84, kd_85, kd_86, kd_87, kd_88, kd_89, kd_90, kd_91, kd_92, kd_93, kd_94, kd_95, kd_96, kd_97, kd_98, kd_99, kd_100, kd_101, kd_102, kd_103, kd_104, kd_105, kd_106, kd_107, kd_108]; done))
        | (refine Eq.trans (if_neg ?_) ?_; · first | omega | (simp (disch := omega) only [p_isX F.m I.tx, if_neg q, Int.reduceLT, Int.reduceLE, Int.reduceEq, Int.reduceNe, Int.reduceNeg, Int.reduceAdd, Int.reduceSub, Int.reduceMul, Int.reduceGE, Int.reduceGT, Nat.reduceEqDiff, Nat.reduceAdd, and_true, true_and, and_self, not_true_eq_false, not_false_eq_true, ne_eq, and_false, false_and, or_false, or_true, false_or, true_or, vx_some, eq_self, ↓reduceIte, ite_t1, ite_t2, ite_t3, le_T, le_F, lt_T, lt_F, ge_T, ge_F, gt_T, gt_F, eq_T, eq_F, w32_i, kd_1, kd_2, kd_3, kd_4, kd_5, kd_6, kd_7, kd_14, kd_15, kd_16, kd_29, kd_34, kd_56, kd_74, kd_75, kd_76, kd_77, kd_78, kd_79, kd_80, kd_81, kd_82, kd_83, kd_84, kd_85, kd_86, kd_87, kd_88, kd_89, kd_90, kd_91, kd_92, kd_93, kd_94, kd_95, kd_96, kd_97, kd_98, kd_99, kd_100, kd_101, kd_102, kd_103, kd_104, kd_105, kd_106, kd_107, kd_108]; done))
        | (refine Eq.trans (bnd (r := ?_) ?_) ?_; rotate_left 1; (focus (simp (disch := omega) only [p_isX F.m I.tx, if_neg q, Int.reduceLT, Int.reduceLE, Int.reduceEq, Int.reduceNe, Int.reduceNeg, Int.reduceAdd, Int.reduceSub, Int.reduceMul, Int.reduceGE, Int.reduceGT, Nat.reduceEqDiff, Nat.reduceAdd, and_true, true_and, and_self, not_true_eq_false, not_false_eq_true, ne_eq, and_false, false_and, or_false, or_true, false_or, true_or, vx_some, eq_self, ↓reduceIte, ite_t1, ite_t2, ite_t3, le_T, le_F, lt_T, lt_F, ge_T, ge_F, gt_T, gt_F, eq_T, eq_F, w32_i, kd_1, kd_2, kd_3, kd_4, kd_5, kd_6, kd_7, kd_14, kd_15, kd_16, kd_29, kd_34, kd_56, kd_74, kd_75, kd_76, kd_77, kd_78, kd_79, kd_80, kd_81, kd_82, kd_83, kd_84, kd_85, kd_86, kd_87, kd_88, kd_89, kd_90, kd_91, kd_92, kd_93, kd_94, kd_95, kd_96, kd_97, kd_98, kd_99, kd_100, kd_101, kd_102, kd_103, kd_104, kd_105, kd_106, kd_107, kd_108]; exact rfl)); simp only [vx_some])
      all_goals first | rfl | (simp (disch := omega) only [Int.reduceLT, Int.reduceLE, Int.reduceEq, Int.reduceNe, Int.reduceNeg, Int.reduceAdd, Int.reduceSub, Int.reduceMul, Int.reduceGE, Int.reduceGT, Nat.reduceEqDiff, Nat.reduceAdd, and_true, true_and, and_self, not_true_eq_false, not_false_eq_true, ne_eq, and_false, false_and, or_false, or_true, false_or, true_or, vx_some, eq_self, ↓reduceIte, ite_t1, ite_t2, ite_t3, le_T, le_F, lt_T, lt_F, ge_T, ge_F, gt_T, gt_F, eq_T, eq_F, w32_i]; done)
end
