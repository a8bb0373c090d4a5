/-! THE PURE PART: textures made, poured: both machines -/
theorem TXM.g {m m' : Mm} (X : TXM m) (e0 : m' 90 = m 90) (e3 : m' 93 = m 93) (e4 : m' 94 = m 94) (e5 : m' 95 = m 95) : TXM m' := by
  unfold TXM tex
  unfold TXM tex at X
  rw [e0, e3, e4, e5]
  exact X
theorem KLM.g {m m' : Mm} (K : KLM m) (e0 : m' 90 = m 90) (e3 : m' 93 = m 93) (e4 : m' 94 = m 94) : KLM m' := by
  unfold KLM
  rw [e0, e3, e4]
  exact K
theorem tex_g {m m' : Mm} (e5 : m' 95 = m 95) (t w : Int) : tex m' t w = tex m t w := by
  unfold tex
  rw [e5]
theorem isX_g {m m' : Mm} (e0 : m' 90 = m 90) (e5 : m' 95 = m 95) {t : Int} {l : Nat} {x y : Int} (hx : isX m t l x y) : isX m' t l x y := by
  unfold isX isT
  rw [e0, tex_g e5, tex_g e5, tex_g e5]
  exact hx
/-- what the class's loops over a texture stand on -/
def CTX (M : Mm) (T t : Int) : Prop := TB M T t ∧ TXM M ∧ KLM M ∧ isT M t
theorem CTX.c {M : Mm} {T t : Int} (Z : CTX M T t) : 8 ≤ 8 + tex M t 0 ∧ 8 + tex M t 0 ≤ 13 := by
  have S := Z.2.1.st Z.2.2.1 Z.2.2.2
  omega
theorem CTX.r {M : Mm} {T t : Int} (Z : CTX M T t) (r : Int → Int) : CTX (stc M (8 + tex M t 0) r) T t ∧ (∀ w, tex (stc M (8 + tex M t 0) r) t w = tex M t w) ∧ stc M (8 + tex M t 0) r 93 = M 93 ∧ stc M (8 + tex M t 0) r 94 = M 94 ∧ stc M (8 + tex M t 0) r 95 = M 95 ∧ stc M (8 + tex M t 0) r 90 = M 90 := by
  have c := Z.c
  obtain ⟨B, X, K, ht⟩ := Z
  have e0 : stc M (8 + tex M t 0) r 90 = M 90 := stc_o (by omega)
  have e3 : stc M (8 + tex M t 0) r 93 = M 93 := stc_o (by omega)
  have e4 : stc M (8 + tex M t 0) r 94 = M 94 := stc_o (by omega)
  have e5 : stc M (8 + tex M t 0) r 95 = M 95 := stc_o (by omega)
  refine ⟨⟨B.fr (fun c k q => by rw [stc_o (by omega)]), X.g e0 e3 e4 e5, K.g e0 e3 e4, ?_⟩, tex_g e5 t, e3, e4, e5, e0⟩
  unfold isT
  rw [e0]
  exact ht
theorem c_setT {n : Int} {M : Mm} {T t : Int} (Z : CTX M T t) (r : Int → Int) {l : Nat} {x y : Int} (hx : isX M t l x y) (v : Int) : vm 98 [(2, T), (0, (l : Int)), (0, x), (0, y), (0, v)] (n, stc M (8 + tex M t 0) r) = some (none, (n, stc M (8 + tex M t 0) (up1 r (plO M t (tex M t 5) l x y) (ctk (M 93 (tex M t 0)) v)))) := by
  obtain ⟨⟨B, X, K, ht⟩, et, e3, e4, e5, e0⟩ := Z.r r
  have c := Z.c
  have hx' := isX_g e0 e5 hx
  have W := X.wh ht hx'.2.1
  have RB := B.r
  have Q := plO_rng Z.2.1 Z.2.2.1 (Z.2.1.wh hx.1 hx.2.1).2.2.2.2.2.1 (Z.2.1.wh hx.1 hx.2.1).2.2.2.2.2.2 hx
  have cb := c_behind (h := (n, stc M (8 + tex M t 0) r)) B X ht hx'.2.1 hx'.2.2.1.1 hx'.2.2.1.2 hx'.2.2.2.1 hx'.2.2.2.2 W.2.2.2.2.2.1 W.2.2.2.2.2.2
  dsimp only at cb
  have fa := B.fa
  have f0 := B.f0
  have f5 := B.f5
  have f6 := B.f6
  have fi := B.fi (Int.le_of_lt hx'.2.1)
  have k0 := B.k0
  have k1 := B.k1
  have S := Z.2.1.st Z.2.2.1 hx.1
  have kr := kdr S.1.1 S.1.2.2
  rw [et] at fa f6
  rw [et, et, et] at cb
  rw [et, e3] at f5
  have efs : fst' (stc M (8 + tex M t 0) r) t l = fst' M t l := by
    show tex (stc M (8 + tex M t 0) r) t 1 + plc (tex (stc M (8 + tex M t 0) r) t 2) (tex (stc M (8 + tex M t 0) r) t 3) l = _
    rw [et, et, et]
  rw [efs] at fi
  have l5 : l < 5 := W.2.2.1
  clear W
  have eq : fst' M t l + bhd (tex M t 5) (hv (tex M t 2) l) (hv (tex M t 3) l) x y = plO M t (tex M t 5) l x y := rfl
  generalize plO M t (tex M t 5) l x y = q at *
  generalize fst' M t l = f at *
  generalize bhd (tex M t 5) (hv (tex M t 2) l) (hv (tex M t 3) l) x y = b at *
  rw [← stm_stc]
  rw [e_X10_set]
  repeat first
    | (refine Eq.trans (if_pos ?_) ?_; · first | omega | (simp (disch := omega) only [k0, k1, f0, f5, f6, fa, fi, cb, c_cut, kr, eq, Int.reduceLT, Int.reduceLE, Int.reduceEq, Int.reduceNe, Int.reduceNeg, Int.reduceAdd, Int.reduceSub, Int.reduceMul, Int.reduceGE, Int.reduceGT, Nat.reduceEqDiff, Nat.reduceAdd, and_true, true_and, and_self, not_true_eq_false, not_false_eq_true, ne_eq, and_false, false_and, or_false, or_true, false_or, true_or, vx_some, eq_self, ↓reduceIte, ite_t1, ite_t2, ite_t3, le_T, le_F, lt_T, lt_F, ge_T, ge_F, gt_T, gt_F, eq_T, eq_F, w32_i, kd_1, kd_2, kd_3, kd_4, kd_5, kd_6, kd_7, kd_14, kd_15, kd_16, kd_29, kd_34, kd_56, kd_74, kd_75, kd_76, kd_77, kd_78, kd_79, kd_80, kd_81, kd_82, kd_83, kd_84, kd_85, kd_86, kd_87, kd_88, kd_89, kd_90, kd_91, kd_92, kd_93, kd_94, kd_95, kd_96, kd_97, kd_98, kd_99, kd_100, kd_101, kd_102, kd_103, kd_104, kd_105, kd_106, kd_107, kd_108]; done))
    | (refine Eq.trans (if_neg ?_) ?_; · first | omega | (simp (disch := omega) only [k0, k1, f0, f5, f6, fa, fi, cb, c_cut, kr, eq, Int.reduceLT, Int.reduceLE, Int.reduceEq, Int.reduceNe, Int.reduceNeg, Int.reduceAdd, Int.reduceSub, Int.reduceMul, Int.reduceGE, Int.reduceGT, Nat.reduceEqDiff, Nat.reduceAdd, and_true, true_and, and_self, not_true_eq_false, not_false_eq_true, ne_eq, and_false, false_and, or_false, or_true, false_or, true_or, vx_some, eq_self, ↓reduceIte, ite_t1, ite_t2, ite_t3, le_T, le_F, lt_T, lt_F, ge_T, ge_F, gt_T, gt_F, eq_T, eq_F, w32_i, kd_1, kd_2, kd_3, kd_4, kd_5, kd_6, kd_7, kd_14, kd_15, kd_16, kd_29, kd_34, kd_56, kd_74, kd_75, kd_76, kd_77, kd_78, kd_79, kd_80, kd_81, kd_82, kd_83, kd_84, kd_85, kd_86, kd_87, kd_88, kd_89, kd_90, kd_91, kd_92, kd_93, kd_94, kd_95, kd_96, kd_97, kd_98, kd_99, kd_100, kd_101, kd_102, kd_103, kd_104, kd_105, kd_106, kd_107, kd_108]; done))
    | (refine Eq.trans (bnd (r := ?_) ?_) ?_; rotate_left 1; (focus (simp (disch := omega) only [k0, k1, f0, f5, f6, fa, fi, cb, c_cut, kr, eq, Int.reduceLT, Int.reduceLE, Int.reduceEq, Int.reduceNe, Int.reduceNeg, Int.reduceAdd, Int.reduceSub, Int.reduceMul, Int.reduceGE, Int.reduceGT, Nat.reduceEqDiff, Nat.reduceAdd, and_true, true_and, and_self, not_true_eq_false, not_false_eq_true, ne_eq, and_false, false_and, or_false, or_true, false_or, true_or, vx_some, eq_self, ↓reduceIte, ite_t1, ite_t2, ite_t3, le_T, le_F, lt_T, lt_F, ge_T, ge_F, gt_T, gt_F, eq_T, eq_F, w32_i, kd_1, kd_2, kd_3, kd_4, kd_5, kd_6, kd_7, kd_14, kd_15, kd_16, kd_29, kd_34, kd_56, kd_74, kd_75, kd_76, kd_77, kd_78, kd_79, kd_80, kd_81, kd_82, kd_83, kd_84, kd_85, kd_86, kd_87, kd_88, kd_89, kd_90, kd_91, kd_92, kd_93, kd_94, kd_95, kd_96, kd_97, kd_98, kd_99, kd_100, kd_101, kd_102, kd_103, kd_104, kd_105, kd_106, kd_107, kd_108]; exact rfl)); simp only [vx_some])
  rw [f0, f6, fi, eq, w32_i (by omega) (by omega)]
theorem c_remX {n : Int} {M : Mm} {T t : Int} (Z : CTX M T t) {r0 r : Int → Int} (P : PR M t r0 r) {l : Nat} (hl : ((l + 1 : Nat) : Int) < tex M t 4) {y : Nat} (y1 : (y : Int) < hv (tex M t 3) (l + 1)) {W : Nat} (hW : (W : Int) = hv (tex M t 2) (l + 1)) (W16 : W ≤ 16) (Y16 : y ≤ 100) : ∀ k x : Nat, x + k = W → vp 100 24 [(2, T), (0, ((l + 1 : Nat) : Int)), (0, (y : Int)), (0, (x : Int))] [] (n, stc M (8 + tex M t 0) (mkX M t l y x r)) = vp 100 12 [(2, T), (0, ((l + 1 : Nat) : Int)), (0, ((y + 1 : Nat) : Int)), (0, (W : Int))] [] (n, stc M (8 + tex M t 0) (mkX M t l y W r)) := by
  intro k
  induction k with
  | zero =>
    intro x e
    have : x = W := by omega
    subst this
    obtain ⟨⟨B, X, K, ht⟩, et, e3, e4, e5, e0⟩ := Z.r (mkX M t l y x r)
    have RB := B.r
    have l5 := (Z.2.1.wh Z.2.2.2 hl).2.2.1
    have wi := B.wi (l := l + 1) (by rw [et]; exact hl)
    have k0 := B.k0
    have k2 := B.k2
    have f1 := B.f1
    rw [et, ← hW] at wi
    clear hW y1
    rw [e_X10_remake_24]
    repeat first
      | (refine Eq.trans (if_pos ?_) ?_; · first | omega | (simp (disch := omega) only [k0, k2, f1, wi, Int.reduceLT, Int.reduceLE, Int.reduceEq, Int.reduceNe, Int.reduceNeg, Int.reduceAdd, Int.reduceSub, Int.reduceMul, Int.reduceGE, Int.reduceGT, Nat.reduceEqDiff, Nat.reduceAdd, and_true, true_and, and_self, not_true_eq_false, not_false_eq_true, ne_eq, and_false, false_and, or_false, or_true, false_or, true_or, vx_some, eq_self, ↓reduceIte, ite_t1, ite_t2, ite_t3, le_T, le_F, lt_T, lt_F, ge_T, ge_F, gt_T, gt_F, eq_T, eq_F, w32_i, kd_1, kd_2, kd_3, kd_4, kd_5, kd_6, kd_7, kd_14, kd_15, kd_16, kd_29, kd_34, kd_56, kd_74, kd_75, kd_76, kd_77, kd_78, kd_79, kd_80, kd_81, kd_82, kd_83, kd_84, kd_85, kd_86, kd_87, kd_88, kd_89, kd_90, kd_91, kd_92, kd_93, kd_94, kd_95, kd_96, kd_97, kd_98, kd_99, kd_100, kd_101, kd_102, kd_103, kd_104, kd_105, kd_106, kd_107, kd_108]; done))
      | (refine Eq.trans (if_neg ?_) ?_; · first | omega | (simp (disch := omega) only [k0, k2, f1, wi, Int.reduceLT, Int.reduceLE, Int.reduceEq, Int.reduceNe, Int.reduceNeg, Int.reduceAdd, Int.reduceSub, Int.reduceMul, Int.reduceGE, Int.reduceGT, Nat.reduceEqDiff, Nat.reduceAdd, and_true, true_and, and_self, not_true_eq_false, not_false_eq_true, ne_eq, and_false, false_and, or_false, or_true, false_or, true_or, vx_some, eq_self, ↓reduceIte, ite_t1, ite_t2, ite_t3, le_T, le_F, lt_T, lt_F, ge_T, ge_F, gt_T, gt_F, eq_T, eq_F, w32_i, kd_1, kd_2, kd_3, kd_4, kd_5, kd_6, kd_7, kd_14, kd_15, kd_16, kd_29, kd_34, kd_56, kd_74, kd_75, kd_76, kd_77, kd_78, kd_79, kd_80, kd_81, kd_82, kd_83, kd_84, kd_85, kd_86, kd_87, kd_88, kd_89, kd_90, kd_91, kd_92, kd_93, kd_94, kd_95, kd_96, kd_97, kd_98, kd_99, kd_100, kd_101, kd_102, kd_103, kd_104, kd_105, kd_106, kd_107, kd_108]; done))
      | (refine Eq.trans (bnd (r := ?_) ?_) ?_; rotate_left 1; (focus (simp (disch := omega) only [k0, k2, f1, wi, Int.reduceLT, Int.reduceLE, Int.reduceEq, Int.reduceNe, Int.reduceNeg, Int.reduceAdd, Int.reduceSub, Int.reduceMul, Int.reduceGE, Int.reduceGT, Nat.reduceEqDiff, Nat.reduceAdd, and_true, true_and, and_self, not_true_eq_false, not_false_eq_true, ne_eq, and_false, false_and, or_false, or_true, false_or, true_or, vx_some, eq_self, ↓reduceIte, ite_t1, ite_t2, ite_t3, le_T, le_F, lt_T, lt_F, ge_T, ge_F, gt_T, gt_F, eq_T, eq_F, w32_i, kd_1, kd_2, kd_3, kd_4, kd_5, kd_6, kd_7, kd_14, kd_15, kd_16, kd_29, kd_34, kd_56, kd_74, kd_75, kd_76, kd_77, kd_78, kd_79, kd_80, kd_81, kd_82, kd_83, kd_84, kd_85, kd_86, kd_87, kd_88, kd_89, kd_90, kd_91, kd_92, kd_93, kd_94, kd_95, kd_96, kd_97, kd_98, kd_99, kd_100, kd_101, kd_102, kd_103, kd_104, kd_105, kd_106, kd_107, kd_108]; exact rfl)); simp only [vx_some])
    rw [w32_i (by omega) (by omega)]
    rfl
  | succ k ih =>
    intro x e
    obtain ⟨⟨B, X, K, ht⟩, et, e3, e4, e5, e0⟩ := Z.r (mkX M t l y x r)
    have RB := B.r
    have l5 := (Z.2.1.wh Z.2.2.2 hl).2.2.1
    have wi := B.wi (l := l + 1) (by rw [et]; exact hl)
    have k0 := B.k0
    have k2 := B.k2
    have f1 := B.f1
    rw [et, ← hW] at wi
    have xw : (x : Int) < hv (tex M t 2) (l + 1) := by rw [← hW]; omega
    have Px := P.mkX Z.2.1 Z.2.2.1 Z.2.2.2 hl (y := y) (by omega) y1 x (Int.le_of_lt xw)
    have hx : isX M t (l + 1) x y := ⟨Z.2.2.2, hl, ⟨by omega, xw⟩, by omega, y1⟩
    have N' : NB (stc M (8 + tex M t 0) (mkX M t l y x r)) t (stc M (8 + tex M t 0) (mkX M t l y x r) (8 + tex (stc M (8 + tex M t 0) (mkX M t l y x r)) t 0)) := by
      unfold NB
      rw [et, e4, stc_c]
      exact Px.1
    have cm := c_made (h := (n, stc M (8 + tex M t 0) (mkX M t l y x r))) B X K ht (l := l) (x := x) (y := y) (by rw [et]; omega) (by omega) (by rw [et]; exact xw) (by omega) (by rw [et]; exact y1) N'
    have cs := c_setT (n := n) Z (mkX M t l y x r) hx (blV M t l x y (mkX M t l y x r))
    have eb : blV (stc M (8 + tex M t 0) (mkX M t l y x r)) t l x y (stc M (8 + tex M t 0) (mkX M t l y x r) (8 + tex (stc M (8 + tex M t 0) (mkX M t l y x r)) t 0)) = blV M t l x y (mkX M t l y x r) := by
      unfold blV
      rw [et, stc_c, (bls_g e5 l x y _ 4).1, (bls_g e5 l x y (mkX M t l y x r) 4).2]
    dsimp only at cm
    rw [eb] at cm
    have ih' := ih (x + 1) (by omega)
    have es : mkX M t l y (x + 1) r = up1 (mkX M t l y x r) (plO M t (tex M t 5) (l + 1) x y) (ctk (M 93 (tex M t 0)) (blV M t l x y (mkX M t l y x r))) := rfl
    rw [es] at ih'
    clear hW y1 xw hx P Px N' eb es
    generalize blV M t l x y (mkX M t l y x r) = v at *
    refine Eq.trans (e_X10_remake_24 _ _ _ _ _) ?_
    repeat first
      | (refine Eq.trans (if_pos ?_) ?_; · first | omega | (simp (disch := omega) only [k0, k2, f1, wi, cm, cs, Int.reduceLT, Int.reduceLE, Int.reduceEq, Int.reduceNe, Int.reduceNeg, Int.reduceAdd, Int.reduceSub, Int.reduceMul, Int.reduceGE, Int.reduceGT, Nat.reduceEqDiff, Nat.reduceAdd, and_true, true_and, and_self, not_true_eq_false, not_false_eq_true, ne_eq, and_false, false_and, or_false, or_true, false_or, true_or, vx_some, eq_self, ↓reduceIte, ite_t1, ite_t2, ite_t3, le_T, le_F, lt_T, lt_F, ge_T, ge_F, gt_T, gt_F, eq_T, eq_F, w32_i, kd_1, kd_2, kd_3, kd_4, kd_5, kd_6, kd_7, kd_14, kd_15, kd_16, kd_29, kd_34, kd_56, kd_74, kd_75, kd_76, kd_77, kd_78, kd_79, kd_80, kd_81, kd_82, kd_83, kd_84, kd_85, kd_86, kd_87, kd_88, kd_89, kd_90, kd_91, kd_92, kd_93, kd_94, kd_95, kd_96, kd_97, kd_98, kd_99, kd_100, kd_101, kd_102, kd_103, kd_104, kd_105, kd_106, kd_107, kd_108]; done))
      | (refine Eq.trans (if_neg ?_) ?_; · first | omega | (simp (disch := omega) only [k0, k2, f1, wi, cm, cs, Int.reduceLT, Int.reduceLE, Int.reduceEq, Int.reduceNe, Int.reduceNeg, Int.reduceAdd, Int.reduceSub, Int.reduceMul, Int.reduceGE, Int.reduceGT, Nat.reduceEqDiff, Nat.reduceAdd, and_true, true_and, and_self, not_true_eq_false, not_false_eq_true, ne_eq, and_false, false_and, or_false, or_true, false_or, true_or, vx_some, eq_self, ↓reduceIte, ite_t1, ite_t2, ite_t3, le_T, le_F, lt_T, lt_F, ge_T, ge_F, gt_T, gt_F, eq_T, eq_F, w32_i, kd_1, kd_2, kd_3, kd_4, kd_5, kd_6, kd_7, kd_14, kd_15, kd_16, kd_29, kd_34, kd_56, kd_74, kd_75, kd_76, kd_77, kd_78, kd_79, kd_80, kd_81, kd_82, kd_83, kd_84, kd_85, kd_86, kd_87, kd_88, kd_89, kd_90, kd_91, kd_92, kd_93, kd_94, kd_95, kd_96, kd_97, kd_98, kd_99, kd_100, kd_101, kd_102, kd_103, kd_104, kd_105, kd_106, kd_107, kd_108]; done))
      | (refine Eq.trans (bnd (r := ?_) ?_) ?_; rotate_left 1; (focus (simp (disch := omega) only [k0, k2, f1, wi, cm, cs, Int.reduceLT, Int.reduceLE, Int.reduceEq, Int.reduceNe, Int.reduceNeg, Int.reduceAdd, Int.reduceSub, Int.reduceMul, Int.reduceGE, Int.reduceGT, Nat.reduceEqDiff, Nat.reduceAdd, and_true, true_and, and_self, not_true_eq_false, not_false_eq_true, ne_eq, and_false, false_and, or_false, or_true, false_or, true_or, vx_some, eq_self, ↓reduceIte, ite_t1, ite_t2, ite_t3, le_T, le_F, lt_T, lt_F, ge_T, ge_F, gt_T, gt_F, eq_T, eq_F, w32_i, kd_1, kd_2, kd_3, kd_4, kd_5, kd_6, kd_7, kd_14, kd_15, kd_16, kd_29, kd_34, kd_56, kd_74, kd_75, kd_76, kd_77, kd_78, kd_79, kd_80, kd_81, kd_82, kd_83, kd_84, kd_85, kd_86, kd_87, kd_88, kd_89, kd_90, kd_91, kd_92, kd_93, kd_94, kd_95, kd_96, kd_97, kd_98, kd_99, kd_100, kd_101, kd_102, kd_103, kd_104, kd_105, kd_106, kd_107, kd_108]; exact rfl)); simp only [vx_some])
    rw [w32_i (by omega) (by omega)]
    exact ih'
theorem c_remY {n : Int} {M : Mm} {T t : Int} (Z : CTX M T t) {r0 r : Int → Int} (P : PR M t r0 r) {l : Nat} (hl : ((l + 1 : Nat) : Int) < tex M t 4) {H : Nat} (hH : (H : Int) = hv (tex M t 3) (l + 1)) (H16 : H ≤ 16) : ∀ (k y : Nat) (z : Vl), y + k = H → vp 100 12 [(2, T), (0, ((l + 1 : Nat) : Int)), (0, (y : Int)), z] [] (n, stc M (8 + tex M t 0) (mkY M t l y r)) = vp 100 2 [(2, T), (0, ((l + 1 + 1 : Nat) : Int)), (0, (H : Int)), (9, 0)] [] (n, stc M (8 + tex M t 0) (mkY M t l H r)) := by
  intro k
  induction k with
  | zero =>
    intro y z e
    have : y = H := by omega
    subst this
    obtain ⟨⟨B, X, K, ht⟩, et, e3, e4, e5, e0⟩ := Z.r (mkY M t l y r)
    have RB := B.r
    have l5 := (Z.2.1.wh Z.2.2.2 hl).2.2.1
    have wi := B.hi (l := l + 1) (by rw [et]; exact hl)
    have k0 := B.k0
    have k3 := B.k3
    have f2 := B.f2
    rw [et, ← hH] at wi
    clear hH
    rw [e_X10_remake_12]
    repeat first
      | (refine Eq.trans (if_pos ?_) ?_; · first | omega | (simp (disch := omega) only [k0, k3, f2, wi, Int.reduceLT, Int.reduceLE, Int.reduceEq, Int.reduceNe, Int.reduceNeg, Int.reduceAdd, Int.reduceSub, Int.reduceMul, Int.reduceGE, Int.reduceGT, Nat.reduceEqDiff, Nat.reduceAdd, and_true, true_and, and_self, not_true_eq_false, not_false_eq_true, ne_eq, and_false, false_and, or_false, or_true, false_or, true_or, vx_some, eq_self, ↓reduceIte, ite_t1, ite_t2, ite_t3, le_T, le_F, lt_T, lt_F, ge_T, ge_F, gt_T, gt_F, eq_T, eq_F, w32_i, kd_1, kd_2, kd_3, kd_4, kd_5, kd_6, kd_7, kd_14, kd_15, kd_16, kd_29, kd_34, kd_56, kd_74, kd_75, kd_76, kd_77, kd_78, kd_79, kd_80, kd_81, kd_82, kd_83, kd_84, kd_85, kd_86, kd_87, kd_88, kd_89, kd_90, kd_91, kd_92, kd_93, kd_94, kd_95, kd_96, kd_97, kd_98, kd_99, kd_100, kd_101, kd_102, kd_103, kd_104, kd_105, kd_106, kd_107, kd_108]; done))
      | (refine Eq.trans (if_neg ?_) ?_; · first | omega | (simp (disch := omega) only [k0, k3, f2, wi, Int.reduceLT, Int.reduceLE, Int.reduceEq, Int.reduceNe, Int.reduceNeg, Int.reduceAdd, Int.reduceSub, Int.reduceMul, Int.reduceGE, Int.reduceGT, Nat.reduceEqDiff, Nat.reduceAdd, and_true, true_and, and_self, not_true_eq_false, not_false_eq_true, ne_eq, and_false, false_and, or_false, or_true, false_or, true_or, vx_some, eq_self, ↓reduceIte, ite_t1, ite_t2, ite_t3, le_T, le_F, lt_T, lt_F, ge_T, ge_F, gt_T, gt_F, eq_T, eq_F, w32_i, kd_1, kd_2, kd_3, kd_4, kd_5, kd_6, kd_7, kd_14, kd_15, kd_16, kd_29, kd_34, kd_56, kd_74, kd_75, kd_76, kd_77, kd_78, kd_79, kd_80, kd_81, kd_82, kd_83, kd_84, kd_85, kd_86, kd_87, kd_88, kd_89, kd_90, kd_91, kd_92, kd_93, kd_94, kd_95, kd_96, kd_97, kd_98, kd_99, kd_100, kd_101, kd_102, kd_103, kd_104, kd_105, kd_106, kd_107, kd_108]; done))
      | (refine Eq.trans (bnd (r := ?_) ?_) ?_; rotate_left 1; (focus (simp (disch := omega) only [k0, k3, f2, wi, Int.reduceLT, Int.reduceLE, Int.reduceEq, Int.reduceNe, Int.reduceNeg, Int.reduceAdd, Int.reduceSub, Int.reduceMul, Int.reduceGE, Int.reduceGT, Nat.reduceEqDiff, Nat.reduceAdd, and_true, true_and, and_self, not_true_eq_false, not_false_eq_true, ne_eq, and_false, false_and, or_false, or_true, false_or, true_or, vx_some, eq_self, ↓reduceIte, ite_t1, ite_t2, ite_t3, le_T, le_F, lt_T, lt_F, ge_T, ge_F, gt_T, gt_F, eq_T, eq_F, w32_i, kd_1, kd_2, kd_3, kd_4, kd_5, kd_6, kd_7, kd_14, kd_15, kd_16, kd_29, kd_34, kd_56, kd_74, kd_75, kd_76, kd_77, kd_78, kd_79, kd_80, kd_81, kd_82, kd_83, kd_84, kd_85, kd_86, kd_87, kd_88, kd_89, kd_90, kd_91, kd_92, kd_93, kd_94, kd_95, kd_96, kd_97, kd_98, kd_99, kd_100, kd_101, kd_102, kd_103, kd_104, kd_105, kd_106, kd_107, kd_108]; exact rfl)); simp only [vx_some])
    rw [w32_i (by omega) (by omega)]
    rfl
  | succ k ih =>
    intro y z e
    obtain ⟨⟨B, X, K, ht⟩, et, e3, e4, e5, e0⟩ := Z.r (mkY M t l y r)
    have RB := B.r
    have Wh := Z.2.1.wh Z.2.2.2 hl
    have l5 := Wh.2.2.1
    have wi := B.hi (l := l + 1) (by rw [et]; exact hl)
    have k0 := B.k0
    have k3 := B.k3
    have f2 := B.f2
    rw [et, ← hH] at wi
    have yw : (y : Int) < hv (tex M t 3) (l + 1) := by rw [← hH]; omega
    have Py := P.mkY Z.2.1 Z.2.2.1 Z.2.2.2 hl y (Int.le_of_lt yw)
    have W0 : (((hv (tex M t 2) (l + 1)).toNat : Nat) : Int) = hv (tex M t 2) (l + 1) := Int.toNat_of_nonneg (by have := Wh.1.1; omega)
    have W16 : (hv (tex M t 2) (l + 1)).toNat ≤ 16 := by have := Wh.1.2; omega
    have rx := c_remX (n := n) Z Py hl yw W0 W16 (by omega) (hv (tex M t 2) (l + 1)).toNat 0 (by omega)
    have ih' := ih (y + 1) (0, ((hv (tex M t 2) (l + 1)).toNat : Int)) (by omega)
    clear hH yw Wh P Py W0 W16
    refine Eq.trans (e_X10_remake_12 _ _ _ _ _) ?_
    repeat first
      | (refine Eq.trans (if_pos ?_) ?_; · first | omega | (simp (disch := omega) only [k0, k3, f2, wi, Int.reduceLT, Int.reduceLE, Int.reduceEq, Int.reduceNe, Int.reduceNeg, Int.reduceAdd, Int.reduceSub, Int.reduceMul, Int.reduceGE, Int.reduceGT, Nat.reduceEqDiff, Nat.reduceAdd, and_true, true_and, and_self, not_true_eq_false, not_false_eq_true, ne_eq, and_false, false_and, or_false, or_true, false_or, true_or, vx_some, eq_self, ↓reduceIte, ite_t1, ite_t2, ite_t3, le_T, le_F, lt_T, lt_F, ge_T, ge_F, gt_T, gt_F, eq_T, eq_F, w32_i, kd_1, kd_2, kd_3, kd_4, kd_5, kd_6, kd_7, kd_14, kd_15, kd_16, kd_29, kd_34, kd_56, kd_74, kd_75, kd_76, kd_77, kd_78, kd_79, kd_80, kd_81, kd_82, kd_83, kd_84, kd_85, kd_86, kd_87, kd_88, kd_89, kd_90, kd_91, kd_92, kd_93, kd_94, kd_95, kd_96, kd_97, kd_98, kd_99, kd_100, kd_101, kd_102, kd_103, kd_104, kd_105, kd_106, kd_107, kd_108]; done))
      | (refine Eq.trans (if_neg ?_) ?_; · first | omega | (simp (disch := omega) only [k0, k3, f2, wi, Int.reduceLT, Int.reduceLE, Int.reduceEq, Int.reduceNe, Int.reduceNeg, Int.reduceAdd, Int.reduceSub, Int.reduceMul, Int.reduceGE, Int.reduceGT, Nat.reduceEqDiff, Nat.reduceAdd, and_true, true_and, and_self, not_true_eq_false, not_false_eq_true, ne_eq, and_false, false_and, or_false, or_true, false_or, true_or, vx_some, eq_self, ↓reduceIte, ite_t1, ite_t2, ite_t3, le_T, le_F, lt_T, lt_F, ge_T, ge_F, gt_T, gt_F, eq_T, eq_F, w32_i, kd_1, kd_2, kd_3, kd_4, kd_5, kd_6, kd_7, kd_14, kd_15, kd_16, kd_29, kd_34, kd_56, kd_74, kd_75, kd_76, kd_77, kd_78, kd_79, kd_80, kd_81, kd_82, kd_83, kd_84, kd_85, kd_86, kd_87, kd_88, kd_89, kd_90, kd_91, kd_92, kd_93, kd_94, kd_95, kd_96, kd_97, kd_98, kd_99, kd_100, kd_101, kd_102, kd_103, kd_104, kd_105, kd_106, kd_107, kd_108]; done))
      | (refine Eq.trans (bnd (r := ?_) ?_) ?_; rotate_left 1; (focus (simp (disch := omega) only [k0, k3, f2, wi, Int.reduceLT, Int.reduceLE, Int.reduceEq, Int.reduceNe, Int.reduceNeg, Int.reduceAdd, Int.reduceSub, Int.reduceMul, Int.reduceGE, Int.reduceGT, Nat.reduceEqDiff, Nat.reduceAdd, and_true, true_and, and_self, not_true_eq_false, not_false_eq_true, ne_eq, and_false, false_and, or_false, or_true, false_or, true_or, vx_some, eq_self, ↓reduceIte, ite_t1, ite_t2, ite_t3, le_T, le_F, lt_T, lt_F, ge_T, ge_F, gt_T, gt_F, eq_T, eq_F, w32_i, kd_1, kd_2, kd_3, kd_4, kd_5, kd_6, kd_7, kd_14, kd_15, kd_16, kd_29, kd_34, kd_56, kd_74, kd_75, kd_76, kd_77, kd_78, kd_79, kd_80, kd_81, kd_82, kd_83, kd_84, kd_85, kd_86, kd_87, kd_88, kd_89, kd_90, kd_91, kd_92, kd_93, kd_94, kd_95, kd_96, kd_97, kd_98, kd_99, kd_100, kd_101, kd_102, kd_103, kd_104, kd_105, kd_106, kd_107, kd_108]; exact rfl)); simp only [vx_some])
    exact rx.trans ih'
theorem c_remL {n : Int} {M : Mm} {T t : Int} (Z : CTX M T t) {r0 r : Int → Int} (P : PR M t r0 r) : ∀ (k l : Nat) (z z' : Vl), ((l + 1 : Nat) : Int) + k = tex M t 4 → vp 100 2 [(2, T), (0, ((l + 1 : Nat) : Int)), z, z'] [] (n, stc M (8 + tex M t 0) (mkL M t l r)) = some (none, (n, stc M (8 + tex M t 0) (mkL M t ((tex M t 4).toNat - 1) r))) := by
  have Y := Z.2.1.lv Z.2.2.2
  intro k
  induction k with
  | zero =>
    intro l z z' e
    have el : (tex M t 4).toNat - 1 = l := by omega
    rw [el]
    obtain ⟨⟨B, X, K, ht⟩, et, e3, e4, e5, e0⟩ := Z.r (mkL M t l r)
    have RB := B.r
    have k0 := B.k0
    have f9 := B.f9
    rw [et] at f9
    refine Eq.trans (e_X10_remake_2 _ _ _ _ _) ?_
    repeat first
      | (refine Eq.trans (if_pos ?_) ?_; · first | omega | (simp (disch := omega) only [k0, f9, Int.reduceLT, Int.reduceLE, Int.reduceEq, Int.reduceNe, Int.reduceNeg, Int.reduceAdd, Int.reduceSub, Int.reduceMul, Int.reduceGE, Int.reduceGT, Nat.reduceEqDiff, Nat.reduceAdd, and_true, true_and, and_self, not_true_eq_false, not_false_eq_true, ne_eq, and_false, false_and, or_false, or_true, false_or, true_or, vx_some, eq_self, ↓reduceIte, ite_t1, ite_t2, ite_t3, le_T, le_F, lt_T, lt_F, ge_T, ge_F, gt_T, gt_F, eq_T, eq_F, w32_i, kd_1, kd_2, kd_3, kd_4, kd_5, kd_6, kd_7, kd_14, kd_15, kd_16, kd_29, kd_34, kd_56, kd_74, kd_75, kd_76, kd_77, kd_78, kd_79, kd_80, kd_81, kd_82, kd_83, kd_84, kd_85, kd_86, kd_87, kd_88, kd_89, kd_90, kd_91, kd_92, kd_93, kd_94, kd_95, kd_96, kd_97, kd_98, kd_99, kd_100, kd_101, kd_102, kd_103, kd_104, kd_105, kd_106, kd_107, kd_108]; done))
      | (refine Eq.trans (if_neg ?_) ?_; · first | omega | (simp (disch := omega) only [k0, f9, Int.reduceLT, Int.reduceLE, Int.reduceEq, Int.reduceNe, Int.reduceNeg, Int.reduceAdd, Int.reduceSub, Int.reduceMul, Int.reduceGE, Int.reduceGT, Nat.reduceEqDiff, Nat.reduceAdd, and_true, true_and, and_self, not_true_eq_false, not_false_eq_true, ne_eq, and_false, false_and, or_false, or_true, false_or, true_or, vx_some, eq_self, ↓reduceIte, ite_t1, ite_t2, ite_t3, le_T, le_F, lt_T, lt_F, ge_T, ge_F, gt_T, gt_F, eq_T, eq_F, w32_i, kd_1, kd_2, kd_3, kd_4, kd_5, kd_6, kd_7, kd_14, kd_15, kd_16, kd_29, kd_34, kd_56, kd_74, kd_75, kd_76, kd_77, kd_78, kd_79, kd_80, kd_81, kd_82, kd_83, kd_84, kd_85, kd_86, kd_87, kd_88, kd_89, kd_90, kd_91, kd_92, kd_93, kd_94, kd_95, kd_96, kd_97, kd_98, kd_99, kd_100, kd_101, kd_102, kd_103, kd_104, kd_105, kd_106, kd_107, kd_108]; done))
      | (refine Eq.trans (bnd (r := ?_) ?_) ?_; rotate_left 1; (focus (simp (disch := omega) only [k0, f9, Int.reduceLT, Int.reduceLE, Int.reduceEq, Int.reduceNe, Int.reduceNeg, Int.reduceAdd, Int.reduceSub, Int.reduceMul, Int.reduceGE, Int.reduceGT, Nat.reduceEqDiff, Nat.reduceAdd, and_true, true_and, and_self, not_true_eq_false, not_false_eq_true, ne_eq, and_false, false_and, or_false, or_true, false_or, true_or, vx_some, eq_self, ↓reduceIte, ite_t1, ite_t2, ite_t3, le_T, le_F, lt_T, lt_F, ge_T, ge_F, gt_T, gt_F, eq_T, eq_F, w32_i, kd_1, kd_2, kd_3, kd_4, kd_5, kd_6, kd_7, kd_14, kd_15, kd_16, kd_29, kd_34, kd_56, kd_74, kd_75, kd_76, kd_77, kd_78, kd_79, kd_80, kd_81, kd_82, kd_83, kd_84, kd_85, kd_86, kd_87, kd_88, kd_89, kd_90, kd_91, kd_92, kd_93, kd_94, kd_95, kd_96, kd_97, kd_98, kd_99, kd_100, kd_101, kd_102, kd_103, kd_104, kd_105, kd_106, kd_107, kd_108]; exact rfl)); simp only [vx_some])
    all_goals first | rfl | (simp (disch := omega) only [Int.reduceLT, Int.reduceLE, Int.reduceEq, Int.reduceNe, Int.reduceNeg, Int.reduceAdd, Int.reduceSub, Int.reduceMul, Int.reduceGE, Int.reduceGT, Nat.reduceEqDiff, Nat.reduceAdd, and_true, true_and, and_self, not_true_eq_false, not_false_eq_true, ne_eq, and_false, false_and, or_false, or_true, false_or, true_or, vx_some, eq_self, ↓reduceIte, ite_t1, ite_t2, ite_t3, le_T, le_F, lt_T, lt_F, ge_T, ge_F, gt_T, gt_F, eq_T, eq_F, w32_i]; done)
  | succ k ih =>
    intro l z z' e
    have hl : ((l + 1 : Nat) : Int) < tex M t 4 := by omega
    have Wh := Z.2.1.wh Z.2.2.2 hl
    obtain ⟨⟨B, X, K, ht⟩, et, e3, e4, e5, e0⟩ := Z.r (mkL M t l r)
    have RB := B.r
    have k0 := B.k0
    have f9 := B.f9
    rw [et] at f9
    have Pl := P.mkL Z.2.1 Z.2.2.1 Z.2.2.2 l (by omega)
    have H0 : (((hv (tex M t 3) (l + 1)).toNat : Nat) : Int) = hv (tex M t 3) (l + 1) := Int.toNat_of_nonneg (by have := Wh.2.1.1; omega)
    have H16 : (hv (tex M t 3) (l + 1)).toNat ≤ 16 := by have := Wh.2.1.2; omega
    have ry := c_remY (n := n) Z Pl hl H0 H16 (hv (tex M t 3) (l + 1)).toNat 0 (9, 0) (by omega)
    have ih' := ih (l + 1) (0, ((hv (tex M t 3) (l + 1)).toNat : Int)) (9, 0) (by omega)
    clear Wh H0 H16
    refine Eq.trans (e_X10_remake_2 _ _ _ _ _) ?_
    repeat first
      | (refine Eq.trans (if_pos ?_) ?_; · first | omega | (simp (disch := omega) only [k0, f9, Int.reduceLT, Int.reduceLE, Int.reduceEq, Int.reduceNe, Int.reduceNeg, Int.reduceAdd, Int.reduceSub, Int.reduceMul, Int.reduceGE, Int.reduceGT, Nat.reduceEqDiff, Nat.reduceAdd, and_true, true_and, and_self, not_true_eq_false, not_false_eq_true, ne_eq, and_false, false_and, or_false, or_true, false_or, true_or, vx_some, eq_self, ↓reduceIte, ite_t1, ite_t2, ite_t3, le_T, le_F, lt_T, lt_F, ge_T, ge_F, gt_T, gt_F, eq_T, eq_F, w32_i, kd_1, kd_2, kd_3, kd_4, kd_5, kd_6, kd_7, kd_14, kd_15, kd_16, kd_29, kd_34, kd_56, kd_74, kd_75, kd_76, kd_77, kd_78, kd_79, kd_80, kd_81, kd_82, kd_83, kd_84, kd_85, kd_86, kd_87, kd_88, kd_89, kd_90, kd_91, kd_92, kd_93, kd_94, kd_95, kd_96, kd_97, kd_98, kd_99, kd_100, kd_101, kd_102, kd_103, kd_104, kd_105, kd_106, kd_107, kd_108]; done))
      | (refine Eq.trans (if_neg ?_) ?_; · first | omega | (simp (disch := omega) only [k0, f9, Int.reduceLT, Int.reduceLE, Int.reduceEq, Int.reduceNe, Int.reduceNeg, Int.reduceAdd, Int.reduceSub, Int.reduceMul, Int.reduceGE, Int.reduceGT, Nat.reduceEqDiff, Nat.reduceAdd, and_true, true_and, and_self, not_true_eq_false, not_false_eq_true, ne_eq, and_false, false_and, or_false, or_true, false_or, true_or, vx_some, eq_self, ↓reduceIte, ite_t1, ite_t2, ite_t3, le_T, le_F, lt_T, lt_F, ge_T, ge_F, gt_T, gt_F, eq_T, eq_F, w32_i, kd_1, kd_2, kd_3, kd_4, kd_5, kd_6, kd_7, kd_14, kd_15, kd_16, kd_29, kd_34, kd_56, kd_74, kd_75, kd_76, kd_77, kd_78, kd_79, kd_80, kd_81, kd_82, kd_83, kd_84, kd_85, kd_86, kd_87, kd_88, kd_89, kd_90, kd_91, kd_92, kd_93, kd_94, kd_95, kd_96, kd_97, kd_98, kd_99, kd_100, kd_101, kd_102, kd_103, kd_104, kd_105, kd_106, kd_107, kd_108]; done))
      | (refine Eq.trans (bnd (r := ?_) ?_) ?_; rotate_left 1; (focus (simp (disch := omega) only [k0, f9, Int.reduceLT, Int.reduceLE, Int.reduceEq, Int.reduceNe, Int.reduceNeg, Int.reduceAdd, Int.reduceSub, Int.reduceMul, Int.reduceGE, Int.reduceGT, Nat.reduceEqDiff, Nat.reduceAdd, and_true, true_and, and_self, not_true_eq_false, not_false_eq_true, ne_eq, and_false, false_and, or_false, or_true, false_or, true_or, vx_some, eq_self, ↓reduceIte, ite_t1, ite_t2, ite_t3, le_T, le_F, lt_T, lt_F, ge_T, ge_F, gt_T, gt_F, eq_T, eq_F, w32_i, kd_1, kd_2, kd_3, kd_4, kd_5, kd_6, kd_7, kd_14, kd_15, kd_16, kd_29, kd_34, kd_56, kd_74, kd_75, kd_76, kd_77, kd_78, kd_79, kd_80, kd_81, kd_82, kd_83, kd_84, kd_85, kd_86, kd_87, kd_88, kd_89, kd_90, kd_91, kd_92, kd_93, kd_94, kd_95, kd_96, kd_97, kd_98, kd_99, kd_100, kd_101, kd_102, kd_103, kd_104, kd_105, kd_106, kd_107, kd_108]; exact rfl)); simp only [vx_some])
    exact ry.trans ih'
/-- the class's remake -/
theorem c_remake {n : Int} {M : Mm} {T t : Int} (Z : CTX M T t) {r0 r : Int → Int} (P : PR M t r0 r) : vm 100 [(2, T)] (n, stc M (8 + tex M t 0) r) = some (none, (n, stc M (8 + tex M t 0) (mkL M t ((tex M t 4).toNat - 1) r))) := by
  have Y := Z.2.1.lv Z.2.2.2
  rw [e_X10_remake]
  exact c_remL Z P ((tex M t 4).toNat - 1) 0 _ _ (by omega)
