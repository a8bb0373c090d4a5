/-! THE PURE PART: the walks: both walk alike -/
def FRw (m m' : Mm) : Prop := ∀ o q : Int, ¬ (o = 81 ∨ o = 82 ∨ (o = 80 ∧ (q = 5 ∨ q = 6))) → m' o q = m o q
def FRm (m m' : Mm) : Prop := ∀ o q : Int, ¬ ((o = 103 ∧ 32 ≤ q) ∨ (o = 104 ∧ 32 ≤ q) ∨ (o = 88 ∧ q = 36)) → m' o q = m o q
theorem FRw.fx {m m' : Mm} (e : FRw m m') (F : FX m) : FX m' := F.fr (fun c k q => e c k (by unfold FXP at q; omega))
theorem FRw.sh {m m' : Mm} (e : FRw m m') (S : SH m) : SH m' := S.fr (fun c k q => e c k (by unfold SHP at q; omega))
theorem FRm.fx {m m' : Mm} (e : FRm m m') (F : FX m) : FX m' := F.fr (fun c k q => e c k (by unfold FXP at q; omega))
theorem FRm.sh {m m' : Mm} (e : FRm m m') (S : SH m) : SH m' := S.fr (fun c k q => e c k (by unfold SHP at q; omega))
theorem FRw.tr {m m' m'' : Mm} (e : FRw m m') (e' : FRw m' m'') : FRw m m'' := fun o q h => (e' o q h).trans (e o q h)
theorem FRm.tr {m m' m'' : Mm} (e : FRm m m') (e' : FRm m' m'') : FRm m m'' := fun o q h => (e' o q h).trans (e o q h)
theorem FRw.rf (m : Mm) : FRw m m := fun _ _ _ => rfl
theorem FRm.rf (m : Mm) : FRm m m := fun _ _ _ => rfl
section
variable {n : Int} {m0 M0 : Mm} {t how o : Int} {l : Nat}
theorem lnW_g {m m' : Mm} (e90 : m' 90 = m 90) (e95 : m' 95 = m 95) (t : Int) (l : Nat) (o how k : Int) : lnW m' t l o how k = lnW m t l o how k := by
  unfold lnW fst' tex
  rw [e90, e95]
theorem ordM_g {m m' : Mm} (e95 : m' 95 = m 95) (e30 : m' 88 30 = m 88 30) (t : Int) : ordM m' t = ordM m t := by
  unfold ordM tex
  rw [e95, e30]
theorem walk_both (F : FX m0) (S : SH m0) (F' : FX M0) (S' : SH M0) (e90 : M0 90 = m0 90) (e95 : M0 95 = m0 95) (ht : isT m0 t) (hl : (l : Int) < tex m0 t 4) (h0 : 0 ≤ how) (h3 : how ≤ 3) (ha : -1 ≤ M0 88 30 ∧ M0 88 30 ≤ 2) (b0 : 0 ≤ M0 88 36) (b1 : M0 88 36 ≤ 8000000) : ∀ (r : Nat) (k c : Int) (m M : Mm) (z z' : Vl), k + r = hv (tex m0 t 2) l * hv (tex m0 t 3) l → 0 ≤ k → (0 ≤ c ∧ c ≤ k) → FRw m0 m → FRm M0 M → BCa m M 80 32 → m 80 5 = k → (0 ≤ m 80 6 ∧ m 80 6 ≤ k) → M 88 36 = M0 88 36 + k → ∃ (c' : Int) (m' M' : Mm), vp 13 6 [(2, 80), (2, tcl m0 t), (0, (l : Int)), (0, how), (0, ordM M0 t), (0, c), (0, k), z] [] (n, m) = some (some (0, c'), (n, m')) ∧ vp 294 39 [(2, 88), (0, t), (0, (l : Int)), (0, how), (0, c), (0, hv (tex m0 t 2) l), (0, k), z'] [] (n, M) = some (some (0, c'), (n, M')) ∧ FRw m0 m' ∧ FRm M0 M' ∧ M' 88 36 = M0 88 36 + hv (tex m0 t 2) l * hv (tex m0 t 3) l ∧ (0 ≤ c' ∧ c' ≤ hv (tex m0 t 2) l * hv (tex m0 t 3) l) := by
  have Wh := S.2.2.1.wh ht hl
  have sz := sz_le Wh.1.1 Wh.1.2 Wh.2.1.1 Wh.2.1.2
  have et0 : ∀ a : Int, tex M0 t a = tex m0 t a := fun a => by unfold tex; rw [e95]
  have oo : 0 ≤ ordM M0 t ∧ ordM M0 t ≤ 2 := by
    unfold ordM
    rw [et0]
    split <;> omega
  intro r
  induction r with
  | zero =>
    intro k c m M z z' e k0 c0 fw fm bc k5 k6 k36
    have ek : k = hv (tex m0 t 2) l * hv (tex m0 t 3) l := by omega
    have e90m : m 90 = m0 90 := funext fun q => fw 90 q (by omega)
    have e95m : m 95 = m0 95 := funext fun q => fw 95 q (by omega)
    have e90M : M 90 = M0 90 := funext fun q => fm 90 q (by omega)
    have e95M : M 95 = M0 95 := funext fun q => fm 95 q (by omega)
    have em : ∀ a : Int, tex m t a = tex m0 t a := fun a => by unfold tex; rw [e95m]
    have eM : ∀ a : Int, tex M t a = tex m0 t a := fun a => by unfold tex; rw [e95M, e95]
    have tm : tcl m t = tcl m0 t := by unfold tcl; rw [fw 1 3 (by omega)]
    have htm : isT m t := by unfold isT at ht ⊢; rw [e90m]; exact ht
    have htM : isT M t := by unfold isT at ht ⊢; rw [e90M, e90]; exact ht
    have a := c_misE (n := n) (k := k) (c := c) (how := how) (o := ordM M0 t) (z := z) (l := l) (fw.sh S) htm (by rw [em]; exact hl) (by rw [em, em]; exact ek)
    have b := p_misE (n := n) (k := k) (c := c) (how := how) (z := z') (l := l) (fm.fx F') (fm.sh S') htM (by rw [eM]; exact hl) (by rw [eM, eM]; exact ek)
    rw [tm] at a
    rw [eM] at b
    exact ⟨c, m, M, a, b, fw, fm, by rw [k36, ek], by omega⟩
  | succ r ih =>
    intro k c m M z z' e k0 c0 fw fm bc k5 k6 k36
    have e90m : m 90 = m0 90 := funext fun q => fw 90 q (by omega)
    have e95m : m 95 = m0 95 := funext fun q => fw 95 q (by omega)
    have e90M : M 90 = M0 90 := funext fun q => fm 90 q (by omega)
    have e95M : M 95 = M0 95 := funext fun q => fm 95 q (by omega)
    have em : ∀ a : Int, tex m t a = tex m0 t a := fun a => by unfold tex; rw [e95m]
    have eM : ∀ a : Int, tex M t a = tex m0 t a := fun a => by unfold tex; rw [e95M, e95]
    have tm : tcl m t = tcl m0 t := by unfold tcl; rw [fw 1 3 (by omega)]
    have htm : isT m t := by unfold isT at ht ⊢; rw [e90m]; exact ht
    have htM : isT M t := by unfold isT at ht ⊢; rw [e90M, e90]; exact ht
    have eo : ordM M t = ordM M0 t := ordM_g e95M (fm 88 30 (by omega)) t
    have kw : k < hv (tex m0 t 2) l * hv (tex m0 t 3) l := by omega
    obtain ⟨z1, a⟩ := c_mis (n := n) (k := k) (c := c) (how := how) (o := ordM M0 t) (z := z) (l := l) (fw.fx F) (fw.sh S) htm (by rw [em]; exact hl) h0 h3 oo.1 oo.2 k0 (by rw [em, em]; exact kw) c0.1 c0.2 (by omega) (by omega) k6.1 (by omega)
    obtain ⟨z2, b⟩ := p_mis (n := n) (k := k) (c := c) (how := how) (z := z') (l := l) (fm.fx F') (fm.sh S') (by rw [fm 88 30 (by omega)]; exact ha) htM (by rw [eM]; exact hl) h0 h3 k0 (by rw [eM, eM]; exact kw) c0.1 c0.2 (by omega) (by omega)
    have xr := lnW_rng S.2.2.1 S.2.1 S.2.2.2.2.2 ht hl h0 h3 oo.1 oo.2 k0 kw
    have xm : lnW m t l (ordM M0 t) how k = lnW m0 t l (ordM M0 t) how k := lnW_g e90m e95m t l _ how k
    have xM : lnW M t l (ordM M t) how k = lnW m0 t l (ordM M0 t) how k := by rw [eo]; exact lnW_g (e90M.trans e90) (e95M.trans e95) t l _ how k
    rw [tm, xm] at a
    rw [eM, xM] at b
    rw [a, b]
    clear a b
    generalize lnW m0 t l (ordM M0 t) how k = x at *
    obtain ⟨ew, tt, w, htt, hw, es, esM, ec⟩ := bc.way xr.1
    have NB := bc.next xr.1 (Or.inr rfl)
    have zz := bc.2.1
    have zz1 := zz.1
    have zz2 := zz.2
    have h01 := htC_01 m 80 x
    have r5 := hlC_5 m 80 x (by omega)
    have r6 := hlC_6 m 80 x
    have r36 := hlM_36 M 32 x
    have c6 : (if m (80 + 1) (slC m 80 x) = -1 then (1 : Int) else 0) = 0 ∨ (if m (80 + 1) (slC m 80 x) = -1 then (1 : Int) else 0) = 1 := if01
    rw [← ew]
    refine ih (k + 1) (c + (1 - htC m 80 x)) (hlC m 80 x) (hlM M 32 x) z1 z2 (by omega) (by omega) (by omega) ?_ ?_ NB (by rw [r5, k5]) (by rw [r6]; omega) (by rw [r36, k36]; omega)
    · intro p q hp
      rw [hlC_fr m 80 x p q (by omega) (by omega) (by omega)]
      exact fw p q hp
    · intro p q hp
      by_cases p3 : p = 103
      · rw [p3, hlM_l, if_neg (by omega), ← p3]
        exact fm p q hp
      · by_cases p4 : p = 104
        · rw [p4, hlM_t, if_neg (by omega), ← p4]
          exact fm p q hp
        · rw [hlM_fr M 32 x p q p3 p4 (by omega)]
          exact fm p q hp
theorem p_mis4 {M : Mm} (F : FX M) {R : Mm → Option (Option Vl × Hq)} (hR : (fun M' => (vm 237 [(2, 88), (0, t), (0, (l : Int))] (n, M')).bind (fun r9 => vp 294 39 [(2, 88), (0, t), (0, (l : Int)), (0, how), (0, 0), (0, vx r9), (0, 0), (9, 0)] [] r9.2)) = R) : ∀ (k : Nat) (j : Int) (z1 z2 z3 : Vl), 32 ≤ j → j + k = 64 → vp 294 4 [(2, 88), (0, t), (0, (l : Int)), (0, how), (0, j), z1, z2, z3] [] (n, fil M 103 32 j (-1)) = R (fil M 103 32 64 (-1)) := by
  intro k
  induction k with
  | zero =>
    intro j z1 z2 z3 j0 e
    rw [e_X12_missesOf_4, if_pos (by omega), if_pos g88, show j = 64 by omega, ← hR]
  | succ k ih =>
    intro j z1 z2 z3 j0 e
    have ih' := ih (j + 1) (9, 0) (9, 0) (9, 0) (by omega) (by omega)
    have e31 : fil M 103 32 j (-1) 88 31 = 103 := by rw [fil_ap, if_neg (by omega)]; exact F.c88_31
    rw [e_X12_missesOf_4]
    repeat first
      | (refine Eq.trans (if_pos ?_) ?_; · first | omega | (simp (disch := omega) only [e31, Int.reduceLT, Int.reduceLE, Int.reduceEq, Int.reduceNe, Int.reduceNeg, Int.reduceAdd, Int.reduceSub, Int.reduceMul, Int.reduceGE, Int.reduceGT, Nat.reduceEqDiff, Nat.reduceAdd, and_true, true_and, and_self, not_true_eq_false, not_false_eq_true, ne_eq, and_false, false_and, or_false, or_true, false_or, true_or, vx_some, eq_self, ↓reduceIte, ite_t1, ite_t2, ite_t3, le_T, le_F, lt_T, lt_F, ge_T, ge_F, gt_T, gt_F, eq_T, eq_F, w32_i, kd_1, kd_2, kd_3, kd_4, kd_5, kd_6, kd_7, kd_14, kd_15, kd_16, kd_29, kd_34, kd_56, kd_74, kd_75, kd_76, kd_77, kd_78, kd_79, kd_80, kd_81, kd_82, kd_83, kd_84, kd_85, kd_86, kd_87, kd_88, kd_89, kd_90, kd_91, kd_92, kd_93, kd_94, kd_95, kd_96, kd_97, kd_98, kd_99, kd_100, kd_101, kd_102, kd_103, kd_104, kd_105, kd_106, kd_107, kd_108]; done))
      | (refine Eq.trans (if_neg ?_) ?_; · first | omega | (simp (disch := omega) only [e31, Int.reduceLT, Int.reduceLE, Int.reduceEq, Int.reduceNe, Int.reduceNeg, Int.reduceAdd, Int.reduceSub, Int.reduceMul, Int.reduceGE, Int.reduceGT, Nat.reduceEqDiff, Nat.reduceAdd, and_true, true_and, and_self, not_true_eq_false, not_false_eq_true, ne_eq, and_false, false_and, or_false, or_true, false_or, true_or, vx_some, eq_self, ↓reduceIte, ite_t1, ite_t2, ite_t3, le_T, le_F, lt_T, lt_F, ge_T, ge_F, gt_T, gt_F, eq_T, eq_F, w32_i, kd_1, kd_2, kd_3, kd_4, kd_5, kd_6, kd_7, kd_14, kd_15, kd_16, kd_29, kd_34, kd_56, kd_74, kd_75, kd_76, kd_77, kd_78, kd_79, kd_80, kd_81, kd_82, kd_83, kd_84, kd_85, kd_86, kd_87, kd_88, kd_89, kd_90, kd_91, kd_92, kd_93, kd_94, kd_95, kd_96, kd_97, kd_98, kd_99, kd_100, kd_101, kd_102, kd_103, kd_104, kd_105, kd_106, kd_107, kd_108]; done))
      | (refine Eq.trans (bnd (r := ?_) ?_) ?_; rotate_left 1; (focus (simp (disch := omega) only [e31, Int.reduceLT, Int.reduceLE, Int.reduceEq, Int.reduceNe, Int.reduceNeg, Int.reduceAdd, Int.reduceSub, Int.reduceMul, Int.reduceGE, Int.reduceGT, Nat.reduceEqDiff, Nat.reduceAdd, and_true, true_and, and_self, not_true_eq_false, not_false_eq_true, ne_eq, and_false, false_and, or_false, or_true, false_or, true_or, vx_some, eq_self, ↓reduceIte, ite_t1, ite_t2, ite_t3, le_T, le_F, lt_T, lt_F, ge_T, ge_F, gt_T, gt_F, eq_T, eq_F, w32_i, kd_1, kd_2, kd_3, kd_4, kd_5, kd_6, kd_7, kd_14, kd_15, kd_16, kd_29, kd_34, kd_56, kd_74, kd_75, kd_76, kd_77, kd_78, kd_79, kd_80, kd_81, kd_82, kd_83, kd_84, kd_85, kd_86, kd_87, kd_88, kd_89, kd_90, kd_91, kd_92, kd_93, kd_94, kd_95, kd_96, kd_97, kd_98, kd_99, kd_100, kd_101, kd_102, kd_103, kd_104, kd_105, kd_106, kd_107, kd_108]; exact rfl)); simp only [vx_some])
    simp only [e31]
    rw [w32_i (by omega) (by omega), fil_step M (by omega)]
    exact ih'
/-- both walk: the class behind a clear cache -/
theorem walks {m M : Mm} (F : FX m) (S : SH m) (F' : FX M) (S' : SH M) (e90 : M 90 = m 90) (e95 : M 95 = m 95) (ht : isT m t) (hl : (l : Int) < tex m t 4) (h0 : 0 ≤ how) (h3 : how ≤ 3) (ha : -1 ≤ M 88 30 ∧ M 88 30 ≤ 2) (b0 : 0 ≤ M 88 36) (b1 : M 88 36 ≤ 8000000) : ∃ (c' : Int) (m' M' : Mm), vm 13 [(2, 80), (2, tcl m t), (0, (l : Int)), (0, how), (0, ordM M t)] (n, clC m 80) = some (some (0, c'), (n, m')) ∧ vm 294 [(2, 88), (0, t), (0, (l : Int)), (0, how)] (n, M) = some (some (0, c'), (n, M')) ∧ FRw m m' ∧ FRm M M' ∧ (M 88 36 ≤ M' 88 36 ∧ M' 88 36 ≤ M 88 36 + 256) ∧ (0 ≤ c' ∧ c' ≤ 256) := by
  have Wh := S.2.2.1.wh ht hl
  have sz := sz_le Wh.1.1 Wh.1.2 Wh.2.1.1 Wh.2.1.2
  have Z := S.2.2.2.2.2
  have fw : FRw m (clC m 80) := fun o q h => by
    unfold clC
    rw [stm_ap, if_neg (by omega), stm_ap, if_neg (by omega), fil_ap, if_neg (by omega)]
  have fm : FRm M (fil M 103 32 64 (-1)) := fun o q h => by rw [fil_ap, if_neg (by omega)]
  have eM : ∀ a : Int, tex M t a = tex m t a := fun a => by unfold tex; rw [e95]
  have htM : isT M t := by unfold isT at ht ⊢; rw [e90]; exact ht
  have k5 : clC m 80 80 5 = 0 := by unfold clC; rw [stm_ap, if_neg (by omega), stm_same]
  have k6 : clC m 80 80 6 = 0 := by unfold clC; rw [stm_same]
  have k81 : ∀ q : Int, 0 ≤ q → q < 32 → clC m 80 (80 + 1) q = -1 := fun q q0 q1 => by
    unfold clC
    rw [stm_ap, if_neg (by omega), stm_ap, if_neg (by omega), fil_ap, if_pos (by omega)]
  have e290 : (fil M 103 32 64 (-1)) 90 = M 90 := funext fun q => fm 90 q (by omega)
  have BB : BCa (clC m 80) (fil M 103 32 64 (-1)) 80 32 := by
    have zz := Z.n2
    refine ⟨?_, ?_, ?_⟩
    · rw [e290, fw 80 2 (by omega), fw 80 3 (by omega), e90]
      exact ⟨zz.2.2.1, zz.2.2.2.1⟩
    · rw [e290, e90]
      exact zz.2.1
    · rw [e290, e90]
      intro a j a0 a1 j0 j1
      have fs := zz.2.1.fs a0 a1
      have z1 := zz.2.1.1
      have z2 := zz.2.1.2
      rw [k81 _ (by omega) (by omega), fil_ap, if_pos (by omega)]
      exact ⟨rfl, by omega, fun w => absurd rfl w⟩
  obtain ⟨c, m', M', r1, r2, f1, f2, k36, cr⟩ := walk_both (n := n) (l := l) F S (fm.fx F') (fm.sh S') (e290.trans e90) ((funext fun q => fm 95 q (by omega)).trans e95) ht hl h0 h3 (by rw [fm 88 30 (by omega)]; exact ha) (by rw [fil_ap, if_neg (by omega)]; exact b0) (by rw [fil_ap, if_neg (by omega)]; exact b1) (hv (tex m t 2) l * hv (tex m t 3) l).toNat 0 0 (clC m 80) (fil M 103 32 64 (-1)) (9, 0) (9, 0) (by omega) (by omega) (by omega) fw (FRm.rf _) BB k5 (by rw [k6]; omega) (by omega)
  rw [ordM_g (m := M) (funext fun q => fm 95 q (by omega)) (fm 88 30 (by omega)) t] at r1
  have pw := p_wide (h := (n, fil M 103 32 64 (-1))) (fm.fx F').m (fm.sh S').2.2.1 (t := t) (by show 0 ≤ t ∧ t < fil M 103 32 64 (-1) 90 4; unfold isT at htM; rw [e290]; exact htM) (show l < 10 by omega)
  have et : tex (fil M 103 32 64 (-1)) t 2 = tex m t 2 := by
    unfold tex
    rw [show (fil M 103 32 64 (-1)) 95 = M 95 from funext fun q => fm 95 q (by omega), e95]
  dsimp only at pw
  rw [et] at pw
  have p4 := p_mis4 (n := n) (t := t) (l := l) (how := how) F' rfl 32 32 (9, 0) (9, 0) (9, 0) (by omega) (by omega)
  rw [fil_nil] at p4
  have e36 : fil M 103 32 64 (-1) 88 36 = M 88 36 := by rw [fil_ap, if_neg (by omega)]
  refine ⟨c, m', M', ?_, ?_, f1, fm.tr f2, ?_, by omega⟩
  · rw [e_X1_missesOf]
    exact r1
  · rw [e_X12_missesOf, p4, pw]
    exact r2
  · rw [k36, e36]
    omega
/-- so many misses each walk has, whatever stands in the caches -/
def WKF (n : Int) (m : Mm) (t : Int) (l : Nat) (f : Int → Int → Int) : Prop := ∀ how o : Int, 0 ≤ how → how ≤ 3 → 0 ≤ o → o ≤ 2 → (0 ≤ f how o ∧ f how o ≤ 256) ∧ (∀ m1 : Mm, FRw m m1 → ∃ m', vm 13 [(2, 80), (2, tcl m t), (0, (l : Int)), (0, how), (0, o)] (n, clC m1 80) = some (some (0, f how o), (n, m')) ∧ FRw m m') ∧ (∀ M : Mm, FX M → SH M → M 90 = m 90 → M 95 = m 95 → ordM M t = o → (-1 ≤ M 88 30 ∧ M 88 30 ≤ 2) → 0 ≤ M 88 36 → M 88 36 ≤ 8000000 → ∃ M', vm 294 [(2, 88), (0, t), (0, (l : Int)), (0, how)] (n, M) = some (some (0, f how o), (n, M')) ∧ FRm M M' ∧ (M 88 36 ≤ M' 88 36 ∧ M' 88 36 ≤ M 88 36 + 256))
theorem walkF {m : Mm} (F : FX m) (S : SH m) (ht : isT m t) (hl : (l : Int) < tex m t 4) (ho : m 88 30 = -1) (b0 : 0 ≤ m 88 36) (b1 : m 88 36 ≤ 8000000) : ∃ f : Int → Int → Int, WKF n m t l f := by
  refine ⟨fun how o => ((vm 13 [(2, 80), (2, tcl m t), (0, (l : Int)), (0, how), (0, o)] (n, clC m 80)).map vx).getD 0, fun how o h0 h3 o0 o1 => ?_⟩
  dsimp only
  generalize hy : ((vm 13 [(2, 80), (2, tcl m t), (0, (l : Int)), (0, how), (0, o)] (n, clC m 80)).map vx).getD 0 = y
  have sfr : ∀ o q : Int, ¬ (o = 88 ∧ q = 30) → ∀ v : Int, stm m 88 30 v o q = m o q := fun o q h v => by rw [stm_ap, if_neg (by omega)]
  have key : ∀ M : Mm, FX M → SH M → M 90 = m 90 → M 95 = m 95 → ordM M t = o → (-1 ≤ M 88 30 ∧ M 88 30 ≤ 2) → 0 ≤ M 88 36 → M 88 36 ≤ 8000000 → (0 ≤ y ∧ y ≤ 256) ∧ ∃ M', vm 294 [(2, 88), (0, t), (0, (l : Int)), (0, how)] (n, M) = some (some (0, y), (n, M')) ∧ FRm M M' ∧ (M 88 36 ≤ M' 88 36 ∧ M' 88 36 ≤ M 88 36 + 256) := by
    intro M F' S' e90 e95 eo ha c0 c1
    obtain ⟨c, m', M', r1, r2, f1, f2, f3, f4⟩ := walks (n := n) (l := l) F S F' S' e90 e95 ht hl h0 h3 ha c0 c1
    rw [eo] at r1
    have ey : y = c := by rw [← hy, r1]; rfl
    rw [ey]
    exact ⟨f4, M', r2, f2, f3⟩
  have FM : FX (stm m 88 30 o) := F.fr (fun c k q => sfr c k (by unfold FXP at q; omega) o)
  have SM : SH (stm m 88 30 o) := S.fr (fun c k q => sfr c k (by unfold SHP at q; omega) o)
  have q90 : stm m 88 30 o 90 = m 90 := funext fun q => sfr 90 q (by omega) o
  have q95 : stm m 88 30 o 95 = m 95 := funext fun q => sfr 95 q (by omega) o
  have q30 : stm m 88 30 o 88 30 = o := stm_same _ _ _ _
  have q36 : stm m 88 30 o 88 36 = m 88 36 := sfr 88 36 (by omega) o
  have qo : ordM (stm m 88 30 o) t = o := by
    unfold ordM
    rw [q30, if_neg (by omega)]
  have k1 := key (stm m 88 30 o) FM SM q90 q95 qo (by rw [q30]; omega) (by rw [q36]; exact b0) (by rw [q36]; exact b1)
  refine ⟨k1.1, fun m1 fw => ?_, fun M a1 a2 a3 a4 a5 a6 a7 a8 => (key M a1 a2 a3 a4 a5 a6 a7 a8).2⟩
  obtain ⟨M1, g1, -, -⟩ := k1.2
  have e90m : m1 90 = m 90 := funext fun q => fw 90 q (by omega)
  have e95m : m1 95 = m 95 := funext fun q => fw 95 q (by omega)
  have tm : tcl m1 t = tcl m t := by unfold tcl; rw [fw 1 3 (by omega)]
  obtain ⟨c, m', M', r1, r2, f1, f2, f3, f4⟩ := walks (n := n) (l := l) (t := t) (fw.fx F) (fw.sh S) FM SM (q90.trans e90m.symm) (q95.trans e95m.symm) (by unfold isT at ht ⊢; rw [e90m]; exact ht) (by unfold tex at hl ⊢; rw [e95m]; exact hl) h0 h3 (by rw [q30]; omega) (by rw [q36]; exact b0) (by rw [q36]; exact b1)
  rw [qo, tm] at r1
  have ee := r2.symm.trans g1
  simp only [Option.some.injEq, Prod.mk.injEq, true_and, eq_self] at ee
  rw [ee.1] at r1
  exact ⟨m', r1, fw.tr f1⟩
end
