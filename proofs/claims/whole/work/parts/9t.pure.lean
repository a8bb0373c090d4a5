/-! THE PURE PART: a bank opens: both pour the fills -/
/-- the class's plan, as the model's memory U tells it -/
def PQ (m U : Mm) (D fc : Int) : Prop := FX m ∧ m 1 3 = D ∧ (m D 7 = fc ∧ U 88 20 = fc ∧ 0 ≤ fc ∧ fc ≤ 75) ∧ (∀ k : Int, 0 ≤ k → k < fc → ((U 96 (4 * k) = m (D + 5) (4 * k) ∧ U 96 (4 * k + 1) = m (D + 5) (4 * k + 1)) ∧ U 96 (4 * k + 2) = m (D + 5) (4 * k + 2) ∧ U 96 (4 * k + 3) = m (D + 5) (4 * k + 3)) ∧ isT U (m (D + 5) (4 * k)) ∧ (0 ≤ m (D + 5) (4 * k + 1) ∧ m (D + 5) (4 * k + 1) ≤ 9999) ∧ (0 ≤ m (D + 5) (4 * k + 2) ∧ m (D + 5) (4 * k + 2) ≤ 9999) ∧ (0 ≤ m (D + 5) (4 * k + 3) ∧ m (D + 5) (4 * k + 3) ≤ 9999)) ∧ ∀ t : Int, isT U t → TBq m U (D + 6 + 4 * t) t
def NRf (m U : Mm) (f : Int → Int) : Prop := ∀ s : Int, 0 ≤ s → s < U 90 3 → U 93 s ≤ 7 → (∀ p : Int, 0 ≤ p → p < 400 → f (400 * s + p) = m (8 + s) p) ∧ ∀ p : Int, 0 ≤ p → p < U 94 s → -1000000 ≤ m (8 + s) p ∧ m (8 + s) p ≤ 1000000
theorem PQ.fr {m m' U : Mm} {D fc : Int} (hD : D = 30 ∨ D = 52) (H : PQ m U D fc) (e : ∀ o q : Int, ¬ (8 ≤ o ∧ o ≤ 13) → m' o q = m o q) : PQ m' U D fc := by
  obtain ⟨F, h1, h2, h3, h4⟩ := H
  refine ⟨F.fr (fun o q h => e o q (by unfold FXP at h; omega)), by rw [e 1 3 (by omega)]; exact h1, by rw [e D 7 (by omega)]; exact h2, fun k k0 k1 => ?_, fun t ht => (h4 t ht).fr (fun o q h => e o q (by omega))⟩
  rw [e (D + 5) _ (by omega), e (D + 5) _ (by omega), e (D + 5) _ (by omega), e (D + 5) _ (by omega)]
  exact h3 k k0 k1
section
variable {n : Int} {U : Mm} {D fc : Int} {g : Int → Int}
theorem pour_both (hD : D = 30 ∨ D = 52) (FU : FX U) (X : TXM U) (K : KLM U) (O : U 88 30 = -1) : ∀ (r : Nat) (k : Int) (m : Mm) (io : Int) (f : Int → Int) (z2 z3 z : Vl), k + r = fc → 0 ≤ k → PQ m U D fc → NRf m U f → ∃ (m' : Mm) (io' : Int) (f' : Int → Int) (z' : Vl), vp 108 2 [(2, 1), (0, k), z2, z3] [] (n, m) = some (none, (n, m')) ∧ vp 204 99 [(2, 88), (0, k), z] [] (n, mdM U io f g) = vp 204 99 [(2, 88), (0, fc), z'] [] (n, mdM U io' f' g) ∧ PQ m' U D fc ∧ NRf m' U f' ∧ (∀ o q : Int, ¬ (8 ≤ o ∧ o ≤ 13) → m' o q = m o q) ∧ (∀ s : Int, 0 ≤ s → s < 6 → 8 ≤ U 93 s → m' (8 + s) = m (8 + s) ∧ ∀ p : Int, 0 ≤ p → p < 400 → f' (400 * s + p) = f (400 * s + p)) := by
  obtain ⟨kD, -, -, -, kD4, kD5⟩ := plan_kd hD
  have D0 : 0 < D := by omega
  intro r
  induction r with
  | zero =>
    intro k m io f z2 z3 z e k0 H N
    obtain ⟨F, h1, h2, h3, h4⟩ := H
    have h7 := h2.1
    refine ⟨m, io, f, z, ?_, by rw [show k = fc by omega], ⟨F, h1, h2, h3, h4⟩, N, fun _ _ _ => rfl, fun _ _ _ _ => ⟨rfl, fun _ _ _ => rfl⟩⟩
    clear N h3 h4 F h2 FU X K
    refine Eq.trans (e_X11_pourFills_2 ..) ?_
    repeat first
      | (refine Eq.trans (if_pos ?_) ?_; · first | omega | (simp (disch := omega) only [h1, kD, h7, Int.reduceLT, Int.reduceLE, Int.reduceEq, Int.reduceNe, Int.reduceNeg, Int.reduceAdd, Int.reduceSub, Int.reduceMul, Int.reduceGE, Int.reduceGT, Nat.reduceEqDiff, Nat.reduceAdd, and_true, true_and, and_self, not_true_eq_false, not_false_eq_true, ne_eq, and_false, false_and, or_false, or_true, false_or, true_or, vx_some, eq_self, ↓reduceIte, ite_t1, ite_t2, ite_t3, le_T, le_F, lt_T, lt_F, ge_T, ge_F, gt_T, gt_F, eq_T, eq_F, w32_i, kd_1, kd_2, kd_3, kd_4, kd_5, kd_6, kd_7, kd_14, kd_15, kd_16, kd_29, kd_34, kd_56, kd_74, kd_75, kd_76, kd_77, kd_78, kd_79, kd_80, kd_81, kd_82, kd_83, kd_84, kd_85, kd_86, kd_87, kd_88, kd_89, kd_90, kd_91, kd_92, kd_93, kd_94, kd_95, kd_96, kd_97, kd_98, kd_99, kd_100, kd_101, kd_102, kd_103, kd_104, kd_105, kd_106, kd_107, kd_108]; done))
      | (refine Eq.trans (if_neg ?_) ?_; · first | omega | (simp (disch := omega) only [h1, kD, h7, Int.reduceLT, Int.reduceLE, Int.reduceEq, Int.reduceNe, Int.reduceNeg, Int.reduceAdd, Int.reduceSub, Int.reduceMul, Int.reduceGE, Int.reduceGT, Nat.reduceEqDiff, Nat.reduceAdd, and_true, true_and, and_self, not_true_eq_false, not_false_eq_true, ne_eq, and_false, false_and, or_false, or_true, false_or, true_or, vx_some, eq_self, ↓reduceIte, ite_t1, ite_t2, ite_t3, le_T, le_F, lt_T, lt_F, ge_T, ge_F, gt_T, gt_F, eq_T, eq_F, w32_i, kd_1, kd_2, kd_3, kd_4, kd_5, kd_6, kd_7, kd_14, kd_15, kd_16, kd_29, kd_34, kd_56, kd_74, kd_75, kd_76, kd_77, kd_78, kd_79, kd_80, kd_81, kd_82, kd_83, kd_84, kd_85, kd_86, kd_87, kd_88, kd_89, kd_90, kd_91, kd_92, kd_93, kd_94, kd_95, kd_96, kd_97, kd_98, kd_99, kd_100, kd_101, kd_102, kd_103, kd_104, kd_105, kd_106, kd_107, kd_108]; done))
      | (refine Eq.trans (bnd (r := ?_) ?_) ?_; rotate_left 1; (focus (simp (disch := omega) only [h1, kD, h7, Int.reduceLT, Int.reduceLE, Int.reduceEq, Int.reduceNe, Int.reduceNeg, Int.reduceAdd, Int.reduceSub, Int.reduceMul, Int.reduceGE, Int.reduceGT, Nat.reduceEqDiff, Nat.reduceAdd, and_true, true_and, and_self, not_true_eq_false, not_false_eq_true, ne_eq, and_false, false_and, or_false, or_true, false_or, true_or, vx_some, eq_self, ↓reduceIte, ite_t1, ite_t2, ite_t3, le_T, le_F, lt_T, lt_F, ge_T, ge_F, gt_T, gt_F, eq_T, eq_F, w32_i, kd_1, kd_2, kd_3, kd_4, kd_5, kd_6, kd_7, kd_14, kd_15, kd_16, kd_29, kd_34, kd_56, kd_74, kd_75, kd_76, kd_77, kd_78, kd_79, kd_80, kd_81, kd_82, kd_83, kd_84, kd_85, kd_86, kd_87, kd_88, kd_89, kd_90, kd_91, kd_92, kd_93, kd_94, kd_95, kd_96, kd_97, kd_98, kd_99, kd_100, kd_101, kd_102, kd_103, kd_104, kd_105, kd_106, kd_107, kd_108]; exact rfl)); simp only [vx_some])
    all_goals with_reducible rfl
  | succ r ih =>
    intro k m io f z2 z3 z e k0 H N
    have H0 := H
    obtain ⟨F, h1, ⟨h7, h20, f0, f75⟩, h3, h4⟩ := H
    obtain ⟨⟨⟨e0, e1⟩, e2, e3⟩, ht, ha, hb, hc⟩ := h3 k k0 (by omega)
    have tr := isT.r X ht
    have Zq : CQ m U (D + 6 + 4 * m (D + 5) (4 * k)) (m (D + 5) (4 * k)) := ⟨h4 _ ht, X, K, ht⟩
    have Zm : MTX U (m (D + 5) (4 * k)) := ⟨FU, X, K, ht, O⟩
    have S := X.st K ht
    have Y := X.lv ht
    obtain ⟨-, -, -, p3, p4⟩ := F.plan hD
    have pt := (F.ptex hD tr.1 tr.2).1
    have kt := (tex_kd hD tr.1 tr.2).1
    have Ns := N (tex U (m (D + 5) (4 * k)) 0) S.1.1 S.1.2.1 S.2.1.2
    have c19 := FU.c88_19
    have q19 : mdM U io f g 88 19 = 96 := by rw [mdM_o (by omega) (by omega)]; exact c19
    have q20 : mdM U io f g 88 20 = fc := by rw [mdM_o (by omega) (by omega)]; exact h20
    have q96 : ∀ q : Int, mdM U io f g 96 q = U 96 q := fun q => mdM_o (by omega) (by omega)
    generalize ht' : m (D + 5) (4 * k) = t at *
    generalize ha' : m (D + 5) (4 * k + 1) = a at *
    generalize hb' : m (D + 5) (4 * k + 2) = b at *
    generalize hc' : m (D + 5) (4 * k + 3) = c at *
    obtain ⟨s, hs⟩ : ∃ s : Int, tex U t 0 = s := ⟨_, rfl⟩
    have P : PR U t (m (8 + tex U t 0)) (m (8 + tex U t 0)) := ⟨Ns.2, fun _ _ => rfl⟩
    have qp := q_pour (n := n) Zq P (a := a) (b := b) (c := c) (by omega) (by omega) (by omega)
    rw [stc_id] at qp
    obtain ⟨io1, pf⟩ := p_fillsWith (n := n) Zm f g P (a := a) (b := b) (c := c) (by omega) (by omega) (by omega) io
    have P' := (P.flY X K ht (a := a) (b := b) (c := c) (by omega) (by omega) (by omega) (tex U t 3).toNat (by omega)).mkL X K ht ((tex U t 4).toNat - 1) (by omega)
    have NBP := P'.1
    clear P'
    rw [hs] at qp pf NBP S P
    have glf : gl f s (m (8 + s)) = f := by
      funext q
      by_cases w : 400 * s ≤ q ∧ q < 400 * s + 400
      · have := Ns.1 (q - 400 * s) (by omega) (by omega)
        rw [hs, show 400 * s + (q - 400 * s) = q by omega] at this
        unfold gl
        rw [if_pos w, this]
      · unfold gl
        rw [if_neg w]
    rw [glf] at pf
    generalize mkL U t ((tex U t 4).toNat - 1) (flY U t a b c (tex U t 3).toNat (m (8 + s))) = op at *
    have fr : ∀ o q : Int, ¬ (8 ≤ o ∧ o ≤ 13) → stc m (8 + s) op o q = m o q := fun o q h => by rw [stc_o (by omega)]
    have H' := H0.fr hD fr
    have N' : NRf (stc m (8 + s) op) U (gl f s op) := by
      intro s' s0 s1 s7
      by_cases w : s' = s
      · rw [w]
        refine ⟨fun p p0 p1 => ?_, fun p p0 p1 => ?_⟩
        · rw [gl_c f s op p0 p1, stc_c]
        · rw [stc_c]
          refine NBP p p0 ?_
          rw [hs]
          exact p1
      · refine ⟨fun p p0 p1 => ?_, fun p p0 p1 => ?_⟩
        · rw [gl_o f op p0 p1 w, stc_o (by omega)]
          exact (N s' s0 s1 s7).1 p p0 p1
        · rw [stc_o (by omega)]
          exact (N s' s0 s1 s7).2 p p0 p1
    obtain ⟨m2, io2, f2, z4, a1, a2, a3, a4, a5, a6⟩ := ih (k + 1) (stc m (8 + s) op) io1 (gl f s op) (2, D + 5) (2, D + 6 + 4 * t) (0, t) (by omega) (by omega) H' N'
    refine ⟨m2, io2, f2, z4, ?_, ?_, a3, a4, fun o q h => (a5 o q h).trans (fr o q h), fun s' s0 s6 s8 => ?_⟩
    · rw [← a1]
      clear a1 a2 a3 a4 a5 a6 ih N N' H' H0 h3 h4 Zq Zm P X K NBP Ns pf
      have T0 : 0 < D + 6 + 4 * t := by omega
      refine Eq.trans (e_X11_pourFills_2 ..) ?_
      generalize D + 6 + 4 * t = T at *
      repeat first
        | (refine Eq.trans (if_pos ?_) ?_; · first | omega | (simp (disch := omega) only [h1, kD, h7, p4, kD5, p3, kD4, ht', pt, kt, ha', hb', hc', qp, Int.reduceLT, Int.reduceLE, Int.reduceEq, Int.reduceNe, Int.reduceNeg, Int.reduceAdd, Int.reduceSub, Int.reduceMul, Int.reduceGE, Int.reduceGT, Nat.reduceEqDiff, Nat.reduceAdd, and_true, true_and, and_self, not_true_eq_false, not_false_eq_true, ne_eq, and_false, false_and, or_false, or_true, false_or, true_or, vx_some, eq_self, ↓reduceIte, ite_t1, ite_t2, ite_t3, le_T, le_F, lt_T, lt_F, ge_T, ge_F, gt_T, gt_F, eq_T, eq_F, w32_i, kd_1, kd_2, kd_3, kd_4, kd_5, kd_6, kd_7, kd_14, kd_15, kd_16, kd_29, kd_34, kd_56, kd_74, kd_75, kd_76, kd_77, kd_78, kd_79, kd_80, kd_81, kd_82, kd_83, kd_84, kd_85, kd_86, kd_87, kd_88, kd_89, kd_90, kd_91, kd_92, kd_93, kd_94, kd_95, kd_96, kd_97, kd_98, kd_99, kd_100, kd_101, kd_102, kd_103, kd_104, kd_105, kd_106, kd_107, kd_108]; done))
        | (refine Eq.trans (if_neg ?_) ?_; · first | omega | (simp (disch := omega) only [h1, kD, h7, p4, kD5, p3, kD4, ht', pt, kt, ha', hb', hc', qp, Int.reduceLT, Int.reduceLE, Int.reduceEq, Int.reduceNe, Int.reduceNeg, Int.reduceAdd, Int.reduceSub, Int.reduceMul, Int.reduceGE, Int.reduceGT, Nat.reduceEqDiff, Nat.reduceAdd, and_true, true_and, and_self, not_true_eq_false, not_false_eq_true, ne_eq, and_false, false_and, or_false, or_true, false_or, true_or, vx_some, eq_self, ↓reduceIte, ite_t1, ite_t2, ite_t3, le_T, le_F, lt_T, lt_F, ge_T, ge_F, gt_T, gt_F, eq_T, eq_F, w32_i, kd_1, kd_2, kd_3, kd_4, kd_5, kd_6, kd_7, kd_14, kd_15, kd_16, kd_29, kd_34, kd_56, kd_74, kd_75, kd_76, kd_77, kd_78, kd_79, kd_80, kd_81, kd_82, kd_83, kd_84, kd_85, kd_86, kd_87, kd_88, kd_89, kd_90, kd_91, kd_92, kd_93, kd_94, kd_95, kd_96, kd_97, kd_98, kd_99, kd_100, kd_101, kd_102, kd_103, kd_104, kd_105, kd_106, kd_107, kd_108]; done))
        | (refine Eq.trans (bnd (r := ?_) ?_) ?_; rotate_left 1; (focus (simp (disch := omega) only [h1, kD, h7, p4, kD5, p3, kD4, ht', pt, kt, ha', hb', hc', qp, Int.reduceLT, Int.reduceLE, Int.reduceEq, Int.reduceNe, Int.reduceNeg, Int.reduceAdd, Int.reduceSub, Int.reduceMul, Int.reduceGE, Int.reduceGT, Nat.reduceEqDiff, Nat.reduceAdd, and_true, true_and, and_self, not_true_eq_false, not_false_eq_true, ne_eq, and_false, false_and, or_false, or_true, false_or, true_or, vx_some, eq_self, ↓reduceIte, ite_t1, ite_t2, ite_t3, le_T, le_F, lt_T, lt_F, ge_T, ge_F, gt_T, gt_F, eq_T, eq_F, w32_i, kd_1, kd_2, kd_3, kd_4, kd_5, kd_6, kd_7, kd_14, kd_15, kd_16, kd_29, kd_34, kd_56, kd_74, kd_75, kd_76, kd_77, kd_78, kd_79, kd_80, kd_81, kd_82, kd_83, kd_84, kd_85, kd_86, kd_87, kd_88, kd_89, kd_90, kd_91, kd_92, kd_93, kd_94, kd_95, kd_96, kd_97, kd_98, kd_99, kd_100, kd_101, kd_102, kd_103, kd_104, kd_105, kd_106, kd_107, kd_108]; exact rfl)); simp only [vx_some])
      all_goals simp (disch := omega) only [h1, p4, p3, ht', pt, w32_i]
    · rw [← a2]
      clear a1 a2 a3 a4 a5 a6 ih N N' H' H0 h3 h4 Zq Zm P X K NBP Ns qp
      refine Eq.trans (e_X12_takesOver_99 ..) ?_
      repeat first
        | (refine Eq.trans (if_pos ?_) ?_; · first | omega | (simp (disch := omega) only [q20, q19, q96, e0, e1, e2, e3, pf, Int.reduceLT, Int.reduceLE, Int.reduceEq, Int.reduceNe, Int.reduceNeg, Int.reduceAdd, Int.reduceSub, Int.reduceMul, Int.reduceGE, Int.reduceGT, Nat.reduceEqDiff, Nat.reduceAdd, and_true, true_and, and_self, not_true_eq_false, not_false_eq_true, ne_eq, and_false, false_and, or_false, or_true, false_or, true_or, vx_some, eq_self, ↓reduceIte, ite_t1, ite_t2, ite_t3, le_T, le_F, lt_T, lt_F, ge_T, ge_F, gt_T, gt_F, eq_T, eq_F, w32_i, kd_1, kd_2, kd_3, kd_4, kd_5, kd_6, kd_7, kd_14, kd_15, kd_16, kd_29, kd_34, kd_56, kd_74, kd_75, kd_76, kd_77, kd_78, kd_79, kd_80, kd_81, kd_82, kd_83, kd_84, kd_85, kd_86, kd_87, kd_88, kd_89, kd_90, kd_91, kd_92, kd_93, kd_94, kd_95, kd_96, kd_97, kd_98, kd_99, kd_100, kd_101, kd_102, kd_103, kd_104, kd_105, kd_106, kd_107, kd_108]; done))
        | (refine Eq.trans (if_neg ?_) ?_; · first | omega | (simp (disch := omega) only [q20, q19, q96, e0, e1, e2, e3, pf, Int.reduceLT, Int.reduceLE, Int.reduceEq, Int.reduceNe, Int.reduceNeg, Int.reduceAdd, Int.reduceSub, Int.reduceMul, Int.reduceGE, Int.reduceGT, Nat.reduceEqDiff, Nat.reduceAdd, and_true, true_and, and_self, not_true_eq_false, not_false_eq_true, ne_eq, and_false, false_and, or_false, or_true, false_or, true_or, vx_some, eq_self, ↓reduceIte, ite_t1, ite_t2, ite_t3, le_T, le_F, lt_T, lt_F, ge_T, ge_F, gt_T, gt_F, eq_T, eq_F, w32_i, kd_1, kd_2, kd_3, kd_4, kd_5, kd_6, kd_7, kd_14, kd_15, kd_16, kd_29, kd_34, kd_56, kd_74, kd_75, kd_76, kd_77, kd_78, kd_79, kd_80, kd_81, kd_82, kd_83, kd_84, kd_85, kd_86, kd_87, kd_88, kd_89, kd_90, kd_91, kd_92, kd_93, kd_94, kd_95, kd_96, kd_97, kd_98, kd_99, kd_100, kd_101, kd_102, kd_103, kd_104, kd_105, kd_106, kd_107, kd_108]; done))
        | (refine Eq.trans (bnd (r := ?_) ?_) ?_; rotate_left 1; (focus (simp (disch := omega) only [q20, q19, q96, e0, e1, e2, e3, pf, Int.reduceLT, Int.reduceLE, Int.reduceEq, Int.reduceNe, Int.reduceNeg, Int.reduceAdd, Int.reduceSub, Int.reduceMul, Int.reduceGE, Int.reduceGT, Nat.reduceEqDiff, Nat.reduceAdd, and_true, true_and, and_self, not_true_eq_false, not_false_eq_true, ne_eq, and_false, false_and, or_false, or_true, false_or, true_or, vx_some, eq_self, ↓reduceIte, ite_t1, ite_t2, ite_t3, le_T, le_F, lt_T, lt_F, ge_T, ge_F, gt_T, gt_F, eq_T, eq_F, w32_i, kd_1, kd_2, kd_3, kd_4, kd_5, kd_6, kd_7, kd_14, kd_15, kd_16, kd_29, kd_34, kd_56, kd_74, kd_75, kd_76, kd_77, kd_78, kd_79, kd_80, kd_81, kd_82, kd_83, kd_84, kd_85, kd_86, kd_87, kd_88, kd_89, kd_90, kd_91, kd_92, kd_93, kd_94, kd_95, kd_96, kd_97, kd_98, kd_99, kd_100, kd_101, kd_102, kd_103, kd_104, kd_105, kd_106, kd_107, kd_108]; exact rfl)); simp only [vx_some])
      all_goals simp (disch := omega) only [q19, q96, e0, w32_i]
    · obtain ⟨b1, b2⟩ := a6 s' s0 s6 s8
      have w : s' ≠ s := fun w => by
        rw [w, ← hs] at s8
        have := S.2.1.2
        rw [← hs] at this
        omega
      refine ⟨by rw [b1, stc_o (by omega)], fun p p0 p1 => ?_⟩
      rw [b2 p p0 p1, gl_o f op p0 p1 w]
end
