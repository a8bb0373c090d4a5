/-! THE PURE PART: the text: the plan of both -/
theorem stm_o {m : Mm} {a i v o k : Int} (h : o ≠ a) : stm m a i v o k = m o k := by rw [stm_ap, if_neg (fun w => h w.1)]
theorem stm_k {m : Mm} {a i v o k : Int} (h : k ≠ i) : stm m a i v o k = m o k := by rw [stm_ap, if_neg (fun w => h w.2)]
/-- the cells that a text may change, of the class, of the model -/
def CP (D o q : Int) : Prop := (o = 3 ∧ 2 ≤ q) ∨ (o = 4 ∧ 3 ≤ q) ∨ (o = D ∧ 5 ≤ q) ∨ (D + 1 ≤ o ∧ o ≤ D + 3) ∨ o = D + 5 ∨ (D + 6 ≤ o ∧ o ≤ D + 21 ∧ ((o - D - 6) % 4 = 0 → 3 ≤ q))
def MP (o q : Int) : Prop := (o = 88 ∧ ((3 ≤ q ∧ q ≤ 9) ∨ q = 12 ∨ q = 20 ∨ q = 21)) ∨ (o = 90 ∧ 5 ≤ q) ∨ (o = 91 ∧ 6 ≤ q) ∨ (o = 92 ∧ 4 ≤ q) ∨ (o = 93 ∧ 6 ≤ q) ∨ (o = 94 ∧ 6 ≤ q) ∨ (o = 95 ∧ 28 ≤ q) ∨ o = 96
def FRp (D : Int) (m m' : Mm) : Prop := ∀ o q : Int, ¬ CP D o q → m' o q = m o q
def FRq (m m' : Mm) : Prop := ∀ o q : Int, ¬ MP o q → m' o q = m o q
theorem FRp.tr {D : Int} {m m' m'' : Mm} (e : FRp D m m') (e' : FRp D m' m'') : FRp D m m'' := fun o q h => (e' o q h).trans (e o q h)
theorem FRq.tr {m m' m'' : Mm} (e : FRq m m') (e' : FRq m' m'') : FRq m m'' := fun o q h => (e' o q h).trans (e o q h)
theorem FRp.rf (D : Int) (m : Mm) : FRp D m m := fun _ _ _ => rfl
theorem FRq.rf (m : Mm) : FRq m m := fun _ _ _ => rfl
theorem FRt.p {m m' : Mm} (e : FRt m m') (D : Int) : FRp D m m' := fun o q h => e o q (fun w => h (by unfold CP; omega))
theorem FRh.q {m m' : Mm} (e : FRh m m') : FRq m m' := fun o q h => e o q (fun w => h (by unfold MP; omega))
theorem FRp.st {D : Int} (m : Mm) {a i v : Int} (h : CP D a i) : FRp D m (stm m a i v) := fun o q w => by
  rw [stm_ap, if_neg]
  intro z
  exact w (by rw [z.1, z.2]; exact h)
theorem FRq.st (m : Mm) {a i v : Int} (h : MP a i) : FRq m (stm m a i v) := fun o q w => by
  rw [stm_ap, if_neg]
  intro z
  exact w (by rw [z.1, z.2]; exact h)
theorem FXP_np {D o q : Int} (hD : D = 30 ∨ D = 52) (h : FXP o q) : ¬ CP D o q := by
  unfold FXP at h
  unfold CP
  rcases hD with e | e <;> subst e <;> omega
theorem FXP_nm {o q : Int} (h : FXP o q) : ¬ MP o q := by
  unfold FXP at h
  unfold MP
  omega
theorem FRp.fx {D : Int} {m m' : Mm} (hD : D = 30 ∨ D = 52) (e : FRp D m m') (F : FX m) : FX m' := F.fr (fun c k q => e c k (FXP_np hD q))
theorem FRq.fx {m m' : Mm} (e : FRq m m') (F : FX m) : FX m' := F.fr (fun c k q => e c k (FXP_nm q))
/-- writing into a plan -/
theorem GD.w {m M : Mm} (G : GD m M) {D a i v : Int} (hD : D = 30 ∨ D = 52) (h : CP D a i) (h2 : 30 ≤ a) : GD (stm m a i v) M := G.fr1 (fun o q w => by
  rw [stm_ap, if_neg]
  intro z
  rw [z.1, z.2] at w
  rcases w with w | w
  · exact FXP_np hD w h
  · omega)
theorem GD.w2 {m M : Mm} (G : GD m M) {a i v : Int} (h : MP a i) (h2 : a ≠ 88 ∨ 13 ≤ i) : GD m (stm M a i v) := G.fr2 (fun o q w => by
  rw [stm_ap, if_neg]
  intro z
  rw [z.1, z.2] at w
  rcases w with w | w
  · exact FXP_nm w h
  · unfold MP at h
    omega)
/-- what the plan tells -/
def STO (m M : Mm) (D : Int) : Prop := ∀ k : Int, 0 ≤ k → k < m D 5 → (m (D + 2) k = M 93 (6 + k) ∧ m (D + 3) k = M 94 (6 + k)) ∧ (0 ≤ m (D + 2) k ∧ m (D + 2) k ≤ 11) ∧ (m (D + 2) k ≤ 9 → 1 ≤ m (D + 3) k ∧ m (D + 3) k ≤ 400) ∧ (10 ≤ m (D + 2) k → m (D + 3) k = 0)
def TXo (m M : Mm) (D k : Int) : Prop := (((0 ≤ m (D + 6 + 4 * k) 4 ∧ m (D + 6 + 4 * k) 4 < m D 5) ∧ (1 ≤ m (D + 2) (m (D + 6 + 4 * k) 4) ∧ m (D + 2) (m (D + 6 + 4 * k) 4) ≤ 7)) ∧ m (D + 6 + 4 * k) 5 = m (D + 2) (m (D + 6 + 4 * k) 4)) ∧ (∃ a b : Nat, a ≤ 4 ∧ b ≤ 4 ∧ m (D + 6 + 4 * k) 7 = 2 ^ a ∧ m (D + 6 + 4 * k) 8 = 2 ^ b ∧ 1 ≤ m (D + 6 + 4 * k) 9 ∧ m (D + 6 + 4 * k) 9 ≤ 1 + (max a b : Nat)) ∧ (M 95 (28 + 7 * k) = m (D + 6 + 4 * k) 4 ∧ 0 ≤ M 95 (28 + 7 * k + 1) ∧ M 95 (28 + 7 * k + 1) + plc (m (D + 6 + 4 * k) 7) (m (D + 6 + 4 * k) 8) (m (D + 6 + 4 * k) 9).toNat ≤ m (D + 3) (m (D + 6 + 4 * k) 4) ∧ M 95 (28 + 7 * k + 2) = m (D + 6 + 4 * k) 7 ∧ M 95 (28 + 7 * k + 3) = m (D + 6 + 4 * k) 8 ∧ M 95 (28 + 7 * k + 4) = m (D + 6 + 4 * k) 9 ∧ M 95 (28 + 7 * k + 5) = m (D + 6 + 4 * k) 10 ∧ M 95 (28 + 7 * k + 6) = m (D + 6 + 4 * k) 11) ∧ ((0 ≤ m (D + 6 + 4 * k) 10 ∧ m (D + 6 + 4 * k) 10 ≤ 2) ∧ 0 ≤ m (D + 6 + 4 * k) 11 ∧ m (D + 6 + 4 * k) 11 ≤ 2) ∧ (∀ l : Nat, (l : Int) ≤ m (D + 6 + 4 * k) 9 → m (D + 6 + 4 * k + 1) l = M 95 (28 + 7 * k + 1) + plc (m (D + 6 + 4 * k) 7) (m (D + 6 + 4 * k) 8) l) ∧ (∀ l : Nat, (l : Int) < m (D + 6 + 4 * k) 9 → m (D + 6 + 4 * k + 2) l = hv (m (D + 6 + 4 * k) 7) l ∧ m (D + 6 + 4 * k + 3) l = hv (m (D + 6 + 4 * k) 8) l)
def TXD (m M : Mm) (D : Int) : Prop := ∀ k : Int, 0 ≤ k → k < m D 6 → TXo m M D k
def FIL (m M : Mm) (D : Int) : Prop := (m D 7 = M 88 20 ∧ 0 ≤ m D 7 ∧ m D 7 ≤ 75) ∧ ∀ k : Int, 0 ≤ k → k < m D 7 → ((M 96 (4 * k) = m (D + 5) (4 * k) ∧ M 96 (4 * k + 1) = m (D + 5) (4 * k + 1)) ∧ M 96 (4 * k + 2) = m (D + 5) (4 * k + 2) ∧ M 96 (4 * k + 3) = m (D + 5) (4 * k + 3)) ∧ (0 ≤ m (D + 5) (4 * k) ∧ m (D + 5) (4 * k) < m D 6) ∧ (0 ≤ m (D + 5) (4 * k + 1) ∧ m (D + 5) (4 * k + 1) ≤ 9999) ∧ (0 ≤ m (D + 5) (4 * k + 2) ∧ m (D + 5) (4 * k + 2) ≤ 9999) ∧ (0 ≤ m (D + 5) (4 * k + 3) ∧ m (D + 5) (4 * k + 3) ≤ 9999)
def CCH (m M : Mm) (D : Int) : Prop := (m D 8 = M 88 21 ∧ (m D 8 = 0 ∨ m D 8 = 1)) ∧ (m D 9 = M 90 5 ∧ m D 10 = M 90 6 ∧ m D 11 = M 90 7) ∧ (m D 9 = 1 ∨ m D 9 = 2 ∨ m D 9 = 4 ∨ m D 9 = 8) ∧ (1 ≤ m D 10 ∧ m D 10 ≤ 4) ∧ (m D 11 = 1 ∨ m D 11 = 2 ∨ m D 11 = 4 ∨ m D 11 = 8 ∨ m D 11 = 16)
theorem NMS.fr {m M m' M' : Mm} {D : Int} (N : NMS m M D) (e5 : m' D 5 = m D 5) (e6 : m' D 6 = m D 6) (e1 : ∀ k : Int, m' (D + 1) k = m (D + 1) k) (e3 : ∀ k : Int, 0 ≤ k → k < 4 → m' (D + 6 + 4 * k) 3 = m (D + 6 + 4 * k) 3) (f8 : M' 90 8 = M 90 8) (f9 : M' 90 9 = M 90 9) (f1 : ∀ k : Int, M' 91 k = M 91 k) (f2 : ∀ k : Int, M' 92 k = M 92 k) : NMS m' M' D := by
  obtain ⟨⟨a1, a2⟩, ⟨b1, b2⟩, c, d⟩ := N
  refine ⟨⟨by rw [e5]; exact a1, by rw [e5, f8]; exact a2⟩, ⟨by rw [e6]; exact b1, by rw [e6, f9]; exact b2⟩, fun k k0 k1 => ?_, fun k k0 k1 => ?_⟩
  · rw [e5] at k1
    rw [f1, e1]
    exact c k k0 k1
  · rw [e6] at k1
    rw [f2, e3 k k0 (by omega)]
    exact d k k0 k1
theorem STO.fr {m M m' M' : Mm} {D : Int} (S : STO m M D) (e5 : m' D 5 = m D 5) (e2 : ∀ k : Int, m' (D + 2) k = m (D + 2) k) (e3 : ∀ k : Int, m' (D + 3) k = m (D + 3) k) (f3 : ∀ k : Int, M' 93 k = M 93 k) (f4 : ∀ k : Int, M' 94 k = M 94 k) : STO m' M' D := fun k k0 k1 => by
  rw [e5] at k1
  rw [e2, e3, f3, f4]
  exact S k k0 k1
theorem TXo.fr {m M m' M' : Mm} {D k : Int} (S : TXo m M D k) (e5 : m D 5 ≤ m' D 5) (e2 : ∀ j : Int, 0 ≤ j → j < m D 5 → m' (D + 2) j = m (D + 2) j ∧ m' (D + 3) j = m (D + 3) j) (eT : ∀ c q : Int, D + 6 + 4 * k ≤ c → c ≤ D + 6 + 4 * k + 3 → m' c q = m c q) (f5 : ∀ q : Int, 28 + 7 * k ≤ q → q ≤ 28 + 7 * k + 6 → M' 95 q = M 95 q) : TXo m' M' D k := by
  have h1 : ∀ q : Int, m' (D + 6 + 4 * k) q = m (D + 6 + 4 * k) q := fun q => eT _ q (by omega) (by omega)
  have h2 : ∀ q : Int, m' (D + 6 + 4 * k + 1) q = m (D + 6 + 4 * k + 1) q := fun q => eT _ q (by omega) (by omega)
  have h3 : ∀ q : Int, m' (D + 6 + 4 * k + 2) q = m (D + 6 + 4 * k + 2) q := fun q => eT _ q (by omega) (by omega)
  have h4 : ∀ q : Int, m' (D + 6 + 4 * k + 3) q = m (D + 6 + 4 * k + 3) q := fun q => eT _ q (by omega) (by omega)
  obtain ⟨⟨⟨⟨a1, a2⟩, a3⟩, a4⟩, b, c, d, e, f⟩ := S
  have e2' := e2 _ a1 a2
  refine ⟨⟨⟨⟨by rw [h1]; exact a1, by rw [h1]; omega⟩, by rw [h1, e2'.1]; exact a3⟩, by rw [h1, h1, e2'.1]; exact a4⟩, ?_, ?_, ?_, ?_, ?_⟩
  · rw [h1, h1, h1]
    exact b
  · rw [h1, h1, h1, h1, h1, h1, e2'.2, f5 _ (by omega) (by omega), f5 _ (by omega) (by omega), f5 _ (by omega) (by omega), f5 _ (by omega) (by omega), f5 _ (by omega) (by omega), f5 _ (by omega) (by omega), f5 _ (by omega) (by omega)]
    exact c
  · rw [h1, h1]
    exact d
  · intro l hl
    rw [h1] at hl
    rw [h2, h1, h1, f5 _ (by omega) (by omega)]
    exact e l hl
  · intro l hl
    rw [h1] at hl
    rw [h3, h4, h1, h1]
    exact f l hl
theorem FIL.fr {m M m' M' : Mm} {D : Int} (S : FIL m M D) (e6 : m D 6 ≤ m' D 6) (e7 : m' D 7 = m D 7) (e5 : ∀ k : Int, k < 4 * m D 7 → m' (D + 5) k = m (D + 5) k) (f0 : M' 88 20 = M 88 20) (f6 : ∀ k : Int, k < 4 * m D 7 → M' 96 k = M 96 k) : FIL m' M' D := by
  refine ⟨by rw [e7, f0]; exact S.1, fun k k0 k1 => ?_⟩
  rw [e7] at k1
  have a := S.2 k k0 k1
  rw [e5 _ (by omega), e5 _ (by omega), e5 _ (by omega), e5 _ (by omega), f6 _ (by omega), f6 _ (by omega), f6 _ (by omega), f6 _ (by omega)]
  exact ⟨a.1, ⟨a.2.1.1, by omega⟩, a.2.2⟩
theorem CCH.fr {m M m' M' : Mm} {D : Int} (S : CCH m M D) (e : ∀ q : Int, 8 ≤ q → m' D q = m D q) (f1 : M' 88 21 = M 88 21) (f : ∀ q : Int, 5 ≤ q → q ≤ 7 → M' 90 q = M 90 q) : CCH m' M' D := by
  unfold CCH
  rw [e 8 (by omega), e 9 (by omega), e 10 (by omega), e 11 (by omega), f1, f 5 (by omega) (by omega), f 6 (by omega) (by omega), f 7 (by omega) (by omega)]
  exact S
def PL (m M : Mm) (D : Int) : Prop := NMS m M D ∧ STO m M D ∧ TXD m M D ∧ FIL m M D ∧ CCH m M D
theorem PL.fr {m M m' M' : Mm} {D : Int} (hD : D = 30 ∨ D = 52) (P : PL m M D) (e : FRt m m') (f : FRh M M') : PL m' M' D := by
  have e1 : ∀ c q : Int, D ≤ c → m' c q = m c q := fun c q h => e c q (by omega)
  have f1 : ∀ c q : Int, c ≠ 88 → M' c q = M c q := fun c q h => f c q (by omega)
  obtain ⟨a, b, c, d, g⟩ := P
  refine ⟨a.fr (e1 _ _ (by omega)) (e1 _ _ (by omega)) (fun k => e1 _ _ (by omega)) (fun k k0 k1 => e1 _ _ (by omega)) (f1 _ _ (by omega)) (f1 _ _ (by omega)) (fun k => f1 _ _ (by omega)) (fun k => f1 _ _ (by omega)), b.fr (e1 _ _ (by omega)) (fun k => e1 _ _ (by omega)) (fun k => e1 _ _ (by omega)) (fun k => f1 _ _ (by omega)) (fun k => f1 _ _ (by omega)), fun k k0 k1 => ?_, d.fr (Int.le_of_eq (e1 _ _ (by omega)).symm) (e1 _ _ (by omega)) (fun k _ => e1 _ _ (by omega)) (f 88 20 (by omega)) (fun k _ => f1 _ _ (by omega)), g.fr (fun q _ => e1 _ _ (by omega)) (f 88 21 (by omega)) (fun q _ _ => f1 _ _ (by omega))⟩
  rw [e1 D 6 (by omega)] at k1
  exact (c k k0 k1).fr (Int.le_of_eq (e1 _ _ (by omega)).symm) (fun j _ _ => ⟨e1 _ _ (by omega), e1 _ _ (by omega)⟩) (fun c q h _ => e1 _ _ (by omega)) (fun q _ _ => f1 _ _ (by omega))
/-- at a line's begin -/
def LN (m M : Mm) (D : Int) : Prop := GD m M ∧ PL m M D ∧ m 3 1 = D ∧ 12 * m D 7 ≤ M 88 4
/-- both tell a line, or both find the same fault -/
def LNR (n : Int) (m M : Mm) (D : Int) (C Mo : Option (Option Vl × Hq)) : Prop := (∃ m' M', C = some (some (0, 1), (n, m')) ∧ Mo = some (none, (n, M')) ∧ FRp D m m' ∧ FRq M M' ∧ LN m' M' D ∧ M 88 4 + 1 ≤ M' 88 4) ∨ (∃ m' M', C = some (some (0, 0), (n, m')) ∧ Mo = some (none, (n, M')) ∧ FRp D m m' ∧ FRq M M' ∧ BD m' M')
section
variable {n : Int} {m M : Mm}
theorem d_112 (b : 1 ≤ M 88 8) : vp 202 112 [(2, 88)] [] (n, M) = some (none, (n, M)) := by
  have d := d_isGood (n := n) b
  rw [e_X12_line_112]
  repeat first
    | (refine Eq.trans (if_pos ?_) ?_; · first | omega | (simp (disch := omega) only [d, Int.reduceLT, Int.reduceLE, Int.reduceEq, Int.reduceNe, Int.reduceNeg, Int.reduceAdd, Int.reduceSub, Int.reduceMul, Int.reduceGE, Int.reduceGT, Nat.reduceEqDiff, Nat.reduceAdd, and_true, true_and, and_self, not_true_eq_false, not_false_eq_true, ne_eq, and_false, false_and, or_false, or_true, false_or, true_or, vx_some, eq_self, ↓reduceIte, ite_t1, ite_t2, ite_t3, le_T, le_F, lt_T, lt_F, ge_T, ge_F, gt_T, gt_F, eq_T, eq_F, w32_i, kd_1, kd_2, kd_3, kd_4, kd_5, kd_6, kd_7, kd_14, kd_15, kd_16, kd_29, kd_34, kd_56, kd_74, kd_75, kd_76, kd_77, kd_78, kd_79, kd_80, kd_81, kd_82, kd_83, kd_84, kd_85, kd_86, kd_87, kd_88, kd_89, kd_90, kd_91, kd_92, kd_93, kd_94, kd_95, kd_96, kd_97, kd_98, kd_99, kd_100, kd_101, kd_102, kd_103, kd_104, kd_105, kd_106, kd_107, kd_108]; done))
    | (refine Eq.trans (if_neg ?_) ?_; · first | omega | (simp (disch := omega) only [d, Int.reduceLT, Int.reduceLE, Int.reduceEq, Int.reduceNe, Int.reduceNeg, Int.reduceAdd, Int.reduceSub, Int.reduceMul, Int.reduceGE, Int.reduceGT, Nat.reduceEqDiff, Nat.reduceAdd, and_true, true_and, and_self, not_true_eq_false, not_false_eq_true, ne_eq, and_false, false_and, or_false, or_true, false_or, true_or, vx_some, eq_self, ↓reduceIte, ite_t1, ite_t2, ite_t3, le_T, le_F, lt_T, lt_F, ge_T, ge_F, gt_T, gt_F, eq_T, eq_F, w32_i, kd_1, kd_2, kd_3, kd_4, kd_5, kd_6, kd_7, kd_14, kd_15, kd_16, kd_29, kd_34, kd_56, kd_74, kd_75, kd_76, kd_77, kd_78, kd_79, kd_80, kd_81, kd_82, kd_83, kd_84, kd_85, kd_86, kd_87, kd_88, kd_89, kd_90, kd_91, kd_92, kd_93, kd_94, kd_95, kd_96, kd_97, kd_98, kd_99, kd_100, kd_101, kd_102, kd_103, kd_104, kd_105, kd_106, kd_107, kd_108]; done))
    | (refine Eq.trans (bnd (r := ?_) ?_) ?_; rotate_left 1; (focus (simp (disch := omega) only [d, Int.reduceLT, Int.reduceLE, Int.reduceEq, Int.reduceNe, Int.reduceNeg, Int.reduceAdd, Int.reduceSub, Int.reduceMul, Int.reduceGE, Int.reduceGT, Nat.reduceEqDiff, Nat.reduceAdd, and_true, true_and, and_self, not_true_eq_false, not_false_eq_true, ne_eq, and_false, false_and, or_false, or_true, false_or, true_or, vx_some, eq_self, ↓reduceIte, ite_t1, ite_t2, ite_t3, le_T, le_F, lt_T, lt_F, ge_T, ge_F, gt_T, gt_F, eq_T, eq_F, w32_i, kd_1, kd_2, kd_3, kd_4, kd_5, kd_6, kd_7, kd_14, kd_15, kd_16, kd_29, kd_34, kd_56, kd_74, kd_75, kd_76, kd_77, kd_78, kd_79, kd_80, kd_81, kd_82, kd_83, kd_84, kd_85, kd_86, kd_87, kd_88, kd_89, kd_90, kd_91, kd_92, kd_93, kd_94, kd_95, kd_96, kd_97, kd_98, kd_99, kd_100, kd_101, kd_102, kd_103, kd_104, kd_105, kd_106, kd_107, kd_108]; exact rfl)); simp only [vx_some])
  all_goals with_reducible rfl
theorem sign_both (G : GD m M) : (∃ m' M', vm 68 [(2, 3)] (n, m) = some (some (0, 1), (n, m')) ∧ vp 202 112 [(2, 88)] [] (n, M) = some (none, (n, M')) ∧ FRt m m' ∧ FRh M M' ∧ GD m' M' ∧ M 88 4 + 1 ≤ M' 88 4) ∨ (∃ m' M', vm 68 [(2, 3)] (n, m) = some (some (0, 0), (n, m')) ∧ vp 202 112 [(2, 88)] [] (n, M) = some (none, (n, M')) ∧ FRt m m' ∧ FRh M M' ∧ BD m' M') := by
  have c3 := G.f3
  have g := g_isGood (n := n) G.g0
  have K := G.2.1.2.2
  by_cases s : M 88 5 = 3
  · obtain ⟨s2, s3⟩ : m 4 4 = 1 ∧ M 88 4 + 1 ≤ M 88 3 := by omega
    obtain ⟨m', M', t1, t2, a1, a2, a3, a4⟩ := step_good (n := n) G
    refine Or.inl ⟨m', M', ?_, ?_, a1.t, a2.h, a3, by have := a4.1; omega⟩
    · clear G K
      rw [e_X9_passSign]
      repeat first
        | (refine Eq.trans (if_pos ?_) ?_; · first | omega | (simp (disch := omega) only [c3, s2, t1, Int.reduceLT, Int.reduceLE, Int.reduceEq, Int.reduceNe, Int.reduceNeg, Int.reduceAdd, Int.reduceSub, Int.reduceMul, Int.reduceGE, Int.reduceGT, Nat.reduceEqDiff, Nat.reduceAdd, and_true, true_and, and_self, not_true_eq_false, not_false_eq_true, ne_eq, and_false, false_and, or_false, or_true, false_or, true_or, vx_some, eq_self, ↓reduceIte, ite_t1, ite_t2, ite_t3, le_T, le_F, lt_T, lt_F, ge_T, ge_F, gt_T, gt_F, eq_T, eq_F, w32_i, kd_1, kd_2, kd_3, kd_4, kd_5, kd_6, kd_7, kd_14, kd_15, kd_16, kd_29, kd_34, kd_56, kd_74, kd_75, kd_76, kd_77, kd_78, kd_79, kd_80, kd_81, kd_82, kd_83, kd_84, kd_85, kd_86, kd_87, kd_88, kd_89, kd_90, kd_91, kd_92, kd_93, kd_94, kd_95, kd_96, kd_97, kd_98, kd_99, kd_100, kd_101, kd_102, kd_103, kd_104, kd_105, kd_106, kd_107, kd_108]; done))
        | (refine Eq.trans (if_neg ?_) ?_; · first | omega | (simp (disch := omega) only [c3, s2, t1, Int.reduceLT, Int.reduceLE, Int.reduceEq, Int.reduceNe, Int.reduceNeg, Int.reduceAdd, Int.reduceSub, Int.reduceMul, Int.reduceGE, Int.reduceGT, Nat.reduceEqDiff, Nat.reduceAdd, and_true, true_and, and_self, not_true_eq_false, not_false_eq_true, ne_eq, and_false, false_and, or_false, or_true, false_or, true_or, vx_some, eq_self, ↓reduceIte, ite_t1, ite_t2, ite_t3, le_T, le_F, lt_T, lt_F, ge_T, ge_F, gt_T, gt_F, eq_T, eq_F, w32_i, kd_1, kd_2, kd_3, kd_4, kd_5, kd_6, kd_7, kd_14, kd_15, kd_16, kd_29, kd_34, kd_56, kd_74, kd_75, kd_76, kd_77, kd_78, kd_79, kd_80, kd_81, kd_82, kd_83, kd_84, kd_85, kd_86, kd_87, kd_88, kd_89, kd_90, kd_91, kd_92, kd_93, kd_94, kd_95, kd_96, kd_97, kd_98, kd_99, kd_100, kd_101, kd_102, kd_103, kd_104, kd_105, kd_106, kd_107, kd_108]; done))
        | (refine Eq.trans (bnd (r := ?_) ?_) ?_; rotate_left 1; (focus (simp (disch := omega) only [c3, s2, t1, Int.reduceLT, Int.reduceLE, Int.reduceEq, Int.reduceNe, Int.reduceNeg, Int.reduceAdd, Int.reduceSub, Int.reduceMul, Int.reduceGE, Int.reduceGT, Nat.reduceEqDiff, Nat.reduceAdd, and_true, true_and, and_self, not_true_eq_false, not_false_eq_true, ne_eq, and_false, false_and, or_false, or_true, false_or, true_or, vx_some, eq_self, ↓reduceIte, ite_t1, ite_t2, ite_t3, le_T, le_F, lt_T, lt_F, ge_T, ge_F, gt_T, gt_F, eq_T, eq_F, w32_i, kd_1, kd_2, kd_3, kd_4, kd_5, kd_6, kd_7, kd_14, kd_15, kd_16, kd_29, kd_34, kd_56, kd_74, kd_75, kd_76, kd_77, kd_78, kd_79, kd_80, kd_81, kd_82, kd_83, kd_84, kd_85, kd_86, kd_87, kd_88, kd_89, kd_90, kd_91, kd_92, kd_93, kd_94, kd_95, kd_96, kd_97, kd_98, kd_99, kd_100, kd_101, kd_102, kd_103, kd_104, kd_105, kd_106, kd_107, kd_108]; exact rfl)); simp only [vx_some])
      all_goals with_reducible rfl
    · clear G K
      rw [e_X12_line_112]
      repeat first
        | (refine Eq.trans (if_pos ?_) ?_; · first | omega | (simp (disch := omega) only [g, s, t2, Int.reduceLT, Int.reduceLE, Int.reduceEq, Int.reduceNe, Int.reduceNeg, Int.reduceAdd, Int.reduceSub, Int.reduceMul, Int.reduceGE, Int.reduceGT, Nat.reduceEqDiff, Nat.reduceAdd, and_true, true_and, and_self, not_true_eq_false, not_false_eq_true, ne_eq, and_false, false_and, or_false, or_true, false_or, true_or, vx_some, eq_self, ↓reduceIte, ite_t1, ite_t2, ite_t3, le_T, le_F, lt_T, lt_F, ge_T, ge_F, gt_T, gt_F, eq_T, eq_F, w32_i, kd_1, kd_2, kd_3, kd_4, kd_5, kd_6, kd_7, kd_14, kd_15, kd_16, kd_29, kd_34, kd_56, kd_74, kd_75, kd_76, kd_77, kd_78, kd_79, kd_80, kd_81, kd_82, kd_83, kd_84, kd_85, kd_86, kd_87, kd_88, kd_89, kd_90, kd_91, kd_92, kd_93, kd_94, kd_95, kd_96, kd_97, kd_98, kd_99, kd_100, kd_101, kd_102, kd_103, kd_104, kd_105, kd_106, kd_107, kd_108]; done))
        | (refine Eq.trans (if_neg ?_) ?_; · first | omega | (simp (disch := omega) only [g, s, t2, Int.reduceLT, Int.reduceLE, Int.reduceEq, Int.reduceNe, Int.reduceNeg, Int.reduceAdd, Int.reduceSub, Int.reduceMul, Int.reduceGE, Int.reduceGT, Nat.reduceEqDiff, Nat.reduceAdd, and_true, true_and, and_self, not_true_eq_false, not_false_eq_true, ne_eq, and_false, false_and, or_false, or_true, false_or, true_or, vx_some, eq_self, ↓reduceIte, ite_t1, ite_t2, ite_t3, le_T, le_F, lt_T, lt_F, ge_T, ge_F, gt_T, gt_F, eq_T, eq_F, w32_i, kd_1, kd_2, kd_3, kd_4, kd_5, kd_6, kd_7, kd_14, kd_15, kd_16, kd_29, kd_34, kd_56, kd_74, kd_75, kd_76, kd_77, kd_78, kd_79, kd_80, kd_81, kd_82, kd_83, kd_84, kd_85, kd_86, kd_87, kd_88, kd_89, kd_90, kd_91, kd_92, kd_93, kd_94, kd_95, kd_96, kd_97, kd_98, kd_99, kd_100, kd_101, kd_102, kd_103, kd_104, kd_105, kd_106, kd_107, kd_108]; done))
        | (refine Eq.trans (bnd (r := ?_) ?_) ?_; rotate_left 1; (focus (simp (disch := omega) only [g, s, t2, Int.reduceLT, Int.reduceLE, Int.reduceEq, Int.reduceNe, Int.reduceNeg, Int.reduceAdd, Int.reduceSub, Int.reduceMul, Int.reduceGE, Int.reduceGT, Nat.reduceEqDiff, Nat.reduceAdd, and_true, true_and, and_self, not_true_eq_false, not_false_eq_true, ne_eq, and_false, false_and, or_false, or_true, false_or, true_or, vx_some, eq_self, ↓reduceIte, ite_t1, ite_t2, ite_t3, le_T, le_F, lt_T, lt_F, ge_T, ge_F, gt_T, gt_F, eq_T, eq_F, w32_i, kd_1, kd_2, kd_3, kd_4, kd_5, kd_6, kd_7, kd_14, kd_15, kd_16, kd_29, kd_34, kd_56, kd_74, kd_75, kd_76, kd_77, kd_78, kd_79, kd_80, kd_81, kd_82, kd_83, kd_84, kd_85, kd_86, kd_87, kd_88, kd_89, kd_90, kd_91, kd_92, kd_93, kd_94, kd_95, kd_96, kd_97, kd_98, kd_99, kd_100, kd_101, kd_102, kd_103, kd_104, kd_105, kd_106, kd_107, kd_108]; exact rfl)); simp only [vx_some])
      all_goals with_reducible rfl
  · have s2 : ¬ m 4 4 = 1 := by omega
    obtain ⟨m', M', t1, t2, a1, a2, a3⟩ := refuse_both (n := n) G (w := 2) (by omega) (by omega)
    have d := d_isGood (n := n) (M := M') a3.1.1
    refine Or.inr ⟨m', M', ?_, ?_, a1, a2, a3⟩
    · clear G K
      rw [e_X9_passSign]
      repeat first
        | (refine Eq.trans (if_pos ?_) ?_; · first | omega | (simp (disch := omega) only [c3, t1, Int.reduceLT, Int.reduceLE, Int.reduceEq, Int.reduceNe, Int.reduceNeg, Int.reduceAdd, Int.reduceSub, Int.reduceMul, Int.reduceGE, Int.reduceGT, Nat.reduceEqDiff, Nat.reduceAdd, and_true, true_and, and_self, not_true_eq_false, not_false_eq_true, ne_eq, and_false, false_and, or_false, or_true, false_or, true_or, vx_some, eq_self, ↓reduceIte, ite_t1, ite_t2, ite_t3, le_T, le_F, lt_T, lt_F, ge_T, ge_F, gt_T, gt_F, eq_T, eq_F, w32_i, kd_1, kd_2, kd_3, kd_4, kd_5, kd_6, kd_7, kd_14, kd_15, kd_16, kd_29, kd_34, kd_56, kd_74, kd_75, kd_76, kd_77, kd_78, kd_79, kd_80, kd_81, kd_82, kd_83, kd_84, kd_85, kd_86, kd_87, kd_88, kd_89, kd_90, kd_91, kd_92, kd_93, kd_94, kd_95, kd_96, kd_97, kd_98, kd_99, kd_100, kd_101, kd_102, kd_103, kd_104, kd_105, kd_106, kd_107, kd_108]; done))
        | (refine Eq.trans (if_neg ?_) ?_; · first | omega | (simp (disch := omega) only [c3, t1, Int.reduceLT, Int.reduceLE, Int.reduceEq, Int.reduceNe, Int.reduceNeg, Int.reduceAdd, Int.reduceSub, Int.reduceMul, Int.reduceGE, Int.reduceGT, Nat.reduceEqDiff, Nat.reduceAdd, and_true, true_and, and_self, not_true_eq_false, not_false_eq_true, ne_eq, and_false, false_and, or_false, or_true, false_or, true_or, vx_some, eq_self, ↓reduceIte, ite_t1, ite_t2, ite_t3, le_T, le_F, lt_T, lt_F, ge_T, ge_F, gt_T, gt_F, eq_T, eq_F, w32_i, kd_1, kd_2, kd_3, kd_4, kd_5, kd_6, kd_7, kd_14, kd_15, kd_16, kd_29, kd_34, kd_56, kd_74, kd_75, kd_76, kd_77, kd_78, kd_79, kd_80, kd_81, kd_82, kd_83, kd_84, kd_85, kd_86, kd_87, kd_88, kd_89, kd_90, kd_91, kd_92, kd_93, kd_94, kd_95, kd_96, kd_97, kd_98, kd_99, kd_100, kd_101, kd_102, kd_103, kd_104, kd_105, kd_106, kd_107, kd_108]; done))
        | (refine Eq.trans (bnd (r := ?_) ?_) ?_; rotate_left 1; (focus (simp (disch := omega) only [c3, t1, Int.reduceLT, Int.reduceLE, Int.reduceEq, Int.reduceNe, Int.reduceNeg, Int.reduceAdd, Int.reduceSub, Int.reduceMul, Int.reduceGE, Int.reduceGT, Nat.reduceEqDiff, Nat.reduceAdd, and_true, true_and, and_self, not_true_eq_false, not_false_eq_true, ne_eq, and_false, false_and, or_false, or_true, false_or, true_or, vx_some, eq_self, ↓reduceIte, ite_t1, ite_t2, ite_t3, le_T, le_F, lt_T, lt_F, ge_T, ge_F, gt_T, gt_F, eq_T, eq_F, w32_i, kd_1, kd_2, kd_3, kd_4, kd_5, kd_6, kd_7, kd_14, kd_15, kd_16, kd_29, kd_34, kd_56, kd_74, kd_75, kd_76, kd_77, kd_78, kd_79, kd_80, kd_81, kd_82, kd_83, kd_84, kd_85, kd_86, kd_87, kd_88, kd_89, kd_90, kd_91, kd_92, kd_93, kd_94, kd_95, kd_96, kd_97, kd_98, kd_99, kd_100, kd_101, kd_102, kd_103, kd_104, kd_105, kd_106, kd_107, kd_108]; exact rfl)); simp only [vx_some])
      all_goals with_reducible rfl
    · clear G K
      rw [e_X12_line_112]
      repeat first
        | (refine Eq.trans (if_pos ?_) ?_; · first | omega | (simp (disch := omega) only [g, t2, d, Int.reduceLT, Int.reduceLE, Int.reduceEq, Int.reduceNe, Int.reduceNeg, Int.reduceAdd, Int.reduceSub, Int.reduceMul, Int.reduceGE, Int.reduceGT, Nat.reduceEqDiff, Nat.reduceAdd, and_true, true_and, and_self, not_true_eq_false, not_false_eq_true, ne_eq, and_false, false_and, or_false, or_true, false_or, true_or, vx_some, eq_self, ↓reduceIte, ite_t1, ite_t2, ite_t3, le_T, le_F, lt_T, lt_F, ge_T, ge_F, gt_T, gt_F, eq_T, eq_F, w32_i, kd_1, kd_2, kd_3, kd_4, kd_5, kd_6, kd_7, kd_14, kd_15, kd_16, kd_29, kd_34, kd_56, kd_74, kd_75, kd_76, kd_77, kd_78, kd_79, kd_80, kd_81, kd_82, kd_83, kd_84, kd_85, kd_86, kd_87, kd_88, kd_89, kd_90, kd_91, kd_92, kd_93, kd_94, kd_95, kd_96, kd_97, kd_98, kd_99, kd_100, kd_101, kd_102, kd_103, kd_104, kd_105, kd_106, kd_107, kd_108]; done))
        | (refine Eq.trans (if_neg ?_) ?_; · first | omega | (simp (disch := omega) only [g, t2, d, Int.reduceLT, Int.reduceLE, Int.reduceEq, Int.reduceNe, Int.reduceNeg, Int.reduceAdd, Int.reduceSub, Int.reduceMul, Int.reduceGE, Int.reduceGT, Nat.reduceEqDiff, Nat.reduceAdd, and_true, true_and, and_self, not_true_eq_false, not_false_eq_true, ne_eq, and_false, false_and, or_false, or_true, false_or, true_or, vx_some, eq_self, ↓reduceIte, ite_t1, ite_t2, ite_t3, le_T, le_F, lt_T, lt_F, ge_T, ge_F, gt_T, gt_F, eq_T, eq_F, w32_i, kd_1, kd_2, kd_3, kd_4, kd_5, kd_6, kd_7, kd_14, kd_15, kd_16, kd_29, kd_34, kd_56, kd_74, kd_75, kd_76, kd_77, kd_78, kd_79, kd_80, kd_81, kd_82, kd_83, kd_84, kd_85, kd_86, kd_87, kd_88, kd_89, kd_90, kd_91, kd_92, kd_93, kd_94, kd_95, kd_96, kd_97, kd_98, kd_99, kd_100, kd_101, kd_102, kd_103, kd_104, kd_105, kd_106, kd_107, kd_108]; done))
        | (refine Eq.trans (bnd (r := ?_) ?_) ?_; rotate_left 1; (focus (simp (disch := omega) only [g, t2, d, Int.reduceLT, Int.reduceLE, Int.reduceEq, Int.reduceNe, Int.reduceNeg, Int.reduceAdd, Int.reduceSub, Int.reduceMul, Int.reduceGE, Int.reduceGT, Nat.reduceEqDiff, Nat.reduceAdd, and_true, true_and, and_self, not_true_eq_false, not_false_eq_true, ne_eq, and_false, false_and, or_false, or_true, false_or, true_or, vx_some, eq_self, ↓reduceIte, ite_t1, ite_t2, ite_t3, le_T, le_F, lt_T, lt_F, ge_T, ge_F, gt_T, gt_F, eq_T, eq_F, w32_i, kd_1, kd_2, kd_3, kd_4, kd_5, kd_6, kd_7, kd_14, kd_15, kd_16, kd_29, kd_34, kd_56, kd_74, kd_75, kd_76, kd_77, kd_78, kd_79, kd_80, kd_81, kd_82, kd_83, kd_84, kd_85, kd_86, kd_87, kd_88, kd_89, kd_90, kd_91, kd_92, kd_93, kd_94, kd_95, kd_96, kd_97, kd_98, kd_99, kd_100, kd_101, kd_102, kd_103, kd_104, kd_105, kd_106, kd_107, kd_108]; exact rfl)); simp only [vx_some])
      all_goals with_reducible rfl
end
