/-! THE PURE PART: blocks: pack -/
def nst (a b n j c : Int) : Int := if (cho a b c - n).natAbs ≥ (cho a b j - n).natAbs then j else c
theorem nst_rng {a b n j c : Int} (j0 : 0 ≤ j) (j1 : j ≤ 3) (c0 : 0 ≤ c) (c1 : c ≤ 3) : 0 ≤ nst a b n j c ∧ nst a b n j c ≤ 3 := by
  unfold nst
  split <;> omega
def nch (a b n : Int) : Int := nst a b n (nst a b n (nst a b n 0 1) 2) 3
theorem nch_rng (a b n : Int) : 0 ≤ nch a b n ∧ nch a b n ≤ 3 := by
  have h1 := nst_rng (a := a) (b := b) (n := n) (j := 0) (c := 1) (by omega) (by omega) (by omega) (by omega)
  have h2 := nst_rng (a := a) (b := b) (n := n) (c := 2) h1.1 h1.2 (by omega) (by omega)
  exact nst_rng (a := a) (b := b) (n := n) (c := 3) h2.1 h2.2 (by omega) (by omega)
section
variable {a b n : Int}
theorem c_near5 (a0 : 0 ≤ a) (a1 : a ≤ 65535) (b0 : 0 ≤ b) (b1 : b ≤ 65535) (n0 : 0 ≤ n) (n1 : n ≤ 65535) {j c : Int} (j0 : 0 ≤ j) (j1 : j ≤ 3) (c0 : 0 ≤ c) (c1 : c ≤ 3) (h : Hq) : vp 29 5 [(0, n), (0, a), (0, b), (0, j), (0, c)] [] h = vp 29 5 [(0, n), (0, a), (0, b), (0, nst a b n j c), (0, c + 1)] [] h := by
  have hc := cho_rng a0 a1 b0 b1 c
  have hj := cho_rng a0 a1 b0 b1 j
  refine Eq.trans (e_X4_nearestChoice_5 ..) ?_
  rw [if_neg (by omega), c_chosen a0 a1 b0 b1]
  simp only [Option.bind_some, vx_some]
  rw [w32_i (x := cho a b c - n) (by omega) (by omega), p_abs _ _ (by omega) (by omega)]
  simp only [Option.bind_some, vx_some]
  rw [c_chosen a0 a1 b0 b1]
  simp only [Option.bind_some, vx_some]
  rw [w32_i (x := cho a b j - n) (by omega) (by omega), p_abs _ _ (by omega) (by omega)]
  simp only [Option.bind_some, vx_some]
  rw [w32_i (x := c + 1) (by omega) (by omega)]
  unfold nst
  by_cases z : (cho a b c - n).natAbs ≥ (cho a b j - n).natAbs
  · rw [if_pos z, if_pos (Int.ofNat_le.mpr z)]
  · rw [if_neg z, if_neg (fun w => z (Int.ofNat_le.mp w))]
theorem c_near (a0 : 0 ≤ a) (a1 : a ≤ 65535) (b0 : 0 ≤ b) (b1 : b ≤ 65535) (n0 : 0 ≤ n) (n1 : n ≤ 65535) (h : Hq) : vm 29 [(0, n), (0, a), (0, b)] h = some (some (0, nch a b n), h) := by
  have h1 := nst_rng (a := a) (b := b) (n := n) (j := 0) (c := 1) (by omega) (by omega) (by omega) (by omega)
  have h2 := nst_rng (a := a) (b := b) (n := n) (c := 2) h1.1 h1.2 (by omega) (by omega)
  rw [e_X4_nearestChoice, c_near5 a0 a1 b0 b1 n0 n1 (by omega) (by omega) (by omega) (by omega)]
  rw [show (1 : Int) + 1 = 2 from rfl, c_near5 a0 a1 b0 b1 n0 n1 h1.1 h1.2 (by omega) (by omega)]
  rw [show (2 : Int) + 1 = 3 from rfl, c_near5 a0 a1 b0 b1 n0 n1 h2.1 h2.2 (by omega) (by omega)]
  rw [show (3 : Int) + 1 = 4 from rfl, e_X4_nearestChoice_5, if_pos (by omega)]
  rfl
theorem p_near5 (a0 : 0 ≤ a) (a1 : a ≤ 65535) (b0 : 0 ≤ b) (b1 : b ≤ 65535) (n0 : 0 ≤ n) (n1 : n ≤ 65535) {j c : Int} (j0 : 0 ≤ j) (j1 : j ≤ 3) (c0 : 0 ≤ c) (c1 : c ≤ 3) (h : Hq) : vp 282 5 [(0, a), (0, b), (0, n), (0, j), (0, c)] [] h = vp 282 5 [(0, a), (0, b), (0, n), (0, nst a b n j c), (0, c + 1)] [] h := by
  have hc := cho_rng a0 a1 b0 b1 c
  have hj := cho_rng a0 a1 b0 b1 j
  refine Eq.trans (e_X12_nearestChoice_5 ..) ?_
  rw [if_neg (by omega), p_choice a0 a1 b0 b1 c0]
  simp only [Option.bind_some, vx_some]
  rw [w32_i (x := cho a b c - n) (by omega) (by omega), p_plus _ _ (by omega) (by omega)]
  simp only [Option.bind_some, vx_some]
  rw [p_choice a0 a1 b0 b1 j0]
  simp only [Option.bind_some, vx_some]
  rw [w32_i (x := cho a b j - n) (by omega) (by omega), p_plus _ _ (by omega) (by omega)]
  simp only [Option.bind_some, vx_some]
  rw [w32_i (x := c + 1) (by omega) (by omega)]
  unfold nst
  by_cases z : (cho a b c - n).natAbs ≥ (cho a b j - n).natAbs
  · rw [if_pos z, if_pos (Int.ofNat_le.mpr z)]
  · rw [if_neg z, if_neg (fun w => z (Int.ofNat_le.mp w))]
theorem p_near (a0 : 0 ≤ a) (a1 : a ≤ 65535) (b0 : 0 ≤ b) (b1 : b ≤ 65535) (n0 : 0 ≤ n) (n1 : n ≤ 65535) (h : Hq) : vm 282 [(0, a), (0, b), (0, n)] h = some (some (0, nch a b n), h) := by
  have h1 := nst_rng (a := a) (b := b) (n := n) (j := 0) (c := 1) (by omega) (by omega) (by omega) (by omega)
  have h2 := nst_rng (a := a) (b := b) (n := n) (c := 2) h1.1 h1.2 (by omega) (by omega)
  rw [e_X12_nearestChoice, p_near5 a0 a1 b0 b1 n0 n1 (by omega) (by omega) (by omega) (by omega)]
  rw [show (1 : Int) + 1 = 2 from rfl, p_near5 a0 a1 b0 b1 n0 n1 h1.1 h1.2 (by omega) (by omega)]
  rw [show (2 : Int) + 1 = 3 from rfl, p_near5 a0 a1 b0 b1 n0 n1 h2.1 h2.2 (by omega) (by omega)]
  rw [show (3 : Int) + 1 = 4 from rfl, e_X12_nearestChoice_5, if_pos (by omega)]
  rfl
end
/-- the numbers of a block: the greatest, the least, the word, the distance -/
def gre (f : Int → Int) : Nat → Int
  | 0 => f 0
  | n + 1 => max (gre f n) (f ((n : Int) + 1))
def lea (f : Int → Int) : Nat → Int
  | 0 => f 0
  | n + 1 => min (lea f n) (f ((n : Int) + 1))
def pkw (a b : Int) (f : Int → Int) : Nat → Int
  | 0 => lbor (lbshl b 16) a
  | n + 1 => lbor (pkw a b f n) (lbshl (nch a b (f n)) (32 + 2 * n))
def pck (f : Int → Int) : Int := pkw (gre f 15) (lea f 15) f 16
def ofs (f g : Int → Int) : Nat → Int
  | 0 => 0
  | n + 1 => ofs f g n + ((f n - g n).natAbs : Int)
def B16 (f : Int → Int) : Prop := ∀ k : Int, 0 ≤ k → k < 16 → 0 ≤ f k ∧ f k ≤ 65535
theorem gre_rng {f : Int → Int} (H : B16 f) : ∀ n : Nat, n < 16 → 0 ≤ gre f n ∧ gre f n ≤ 65535
  | 0, _ => H 0 (by omega) (by omega)
  | n + 1, h => by
    have a := gre_rng H n (by omega)
    have b := H ((n : Int) + 1) (by omega) (by omega)
    unfold gre
    omega
theorem lea_rng {f : Int → Int} (H : B16 f) : ∀ n : Nat, n < 16 → 0 ≤ lea f n ∧ lea f n ≤ 65535
  | 0, _ => H 0 (by omega) (by omega)
  | n + 1, h => by
    have a := lea_rng H n (by omega)
    have b := H ((n : Int) + 1) (by omega) (by omega)
    unfold lea
    omega
theorem ofs_rng {f g : Int → Int} (H : B16 f) (G : B16 g) : ∀ n : Nat, n ≤ 16 → 0 ≤ ofs f g n ∧ ofs f g n ≤ 65535 * n
  | 0, _ => ⟨Int.le_refl _, Int.le_refl _⟩
  | n + 1, h => by
    have a := ofs_rng H G n (by omega)
    have b := H n (by omega) (by omega)
    have c := G n (by omega) (by omega)
    unfold ofs
    generalize ofs f g n = w at *
    omega
/-- the class: out of its sixteen numbers -/
def P87 (m : Mm) (f : Int → Int) : Prop := ∀ k : Int, 0 ≤ k → k < 16 → m 87 k = f k
section
variable {f : Int → Int} {h : Hq}
theorem c_pk71 (F : FX h.2) (P : P87 h.2 f) (H : B16 f) {a b : Int} (a0 : 0 ≤ a) (a1 : a ≤ 65535) (b0 : 0 ≤ b) (b1 : b ≤ 65535) : ∀ k n : Nat, n + k = 16 → ∀ z6 : Vl, vp 28 71 [(2, 86), (0, a), (0, b), (1, pkw a b f n), (9, 0), (0, (n : Int)), z6] [] h = some (some (1, pkw a b f 16), h) := by
  intro k
  induction k with
  | zero =>
    intro n e z6
    have : n = 16 := by omega
    subst this
    rw [e_X4_packed_71, if_pos (by omega)]
  | succ k ih =>
    intro n e z6
    have ih' := ih (n + 1) (by omega) (9, 0)
    have hn := H n (by omega) (by omega)
    have pn := P n (by omega) (by omega)
    rw [show pkw a b f (n + 1) = lbor (pkw a b f n) (lbshl (nch a b (f n)) (32 + 2 * n)) from rfl] at ih'
    generalize pkw a b f n = w at *
    generalize pkw a b f 16 = w2 at *
    rw [e_X4_packed_71]
    repeat first
      | (refine Eq.trans (if_pos ?_) ?_; · first | omega | (simp (disch := omega) only [F.c86_0, pn, c_near a0 a1 b0 b1 hn.1 hn.2, Int.reduceLT, Int.reduceLE, Int.reduceEq, Int.reduceNe, Int.reduceNeg, Int.reduceAdd, Int.reduceSub, Int.reduceMul, Int.reduceGE, Int.reduceGT, Nat.reduceEqDiff, Nat.reduceAdd, and_true, true_and, and_self, not_true_eq_false, not_false_eq_true, ne_eq, and_false, false_and, or_false, or_true, false_or, true_or, vx_some, eq_self, ↓reduceIte, ite_t1, ite_t2, ite_t3, le_T, le_F, lt_T, lt_F, ge_T, ge_F, gt_T, gt_F, eq_T, eq_F, w32_i, kd_1, kd_2, kd_3, kd_4, kd_5, kd_6, kd_7, kd_14, kd_15, kd_16, kd_29, kd_34, kd_56, kd_74, kd_75, kd_76, kd_77, kd_78, kd_79, kd_80, kd_81, kd_82, kd_83, kd_84, kd_85, kd_86, kd_87, kd_88, kd_89, kd_90, kd_91, kd_92, kd_93, kd_94, kd_95, kd_96, kd_97, kd_98, kd_99, kd_100, kd_101, kd_102, kd_103, kd_104, kd_105, kd_106, kd_107, kd_108]; done))
      | (refine Eq.trans (if_neg ?_) ?_; · first | omega | (simp (disch := omega) only [F.c86_0, pn, c_near a0 a1 b0 b1 hn.1 hn.2, Int.reduceLT, Int.reduceLE, Int.reduceEq, Int.reduceNe, Int.reduceNeg, Int.reduceAdd, Int.reduceSub, Int.reduceMul, Int.reduceGE, Int.reduceGT, Nat.reduceEqDiff, Nat.reduceAdd, and_true, true_and, and_self, not_true_eq_false, not_false_eq_true, ne_eq, and_false, false_and, or_false, or_true, false_or, true_or, vx_some, eq_self, ↓reduceIte, ite_t1, ite_t2, ite_t3, le_T, le_F, lt_T, lt_F, ge_T, ge_F, gt_T, gt_F, eq_T, eq_F, w32_i, kd_1, kd_2, kd_3, kd_4, kd_5, kd_6, kd_7, kd_14, kd_15, kd_16, kd_29, kd_34, kd_56, kd_74, kd_75, kd_76, kd_77, kd_78, kd_79, kd_80, kd_81, kd_82, kd_83, kd_84, kd_85, kd_86, kd_87, kd_88, kd_89, kd_90, kd_91, kd_92, kd_93, kd_94, kd_95, kd_96, kd_97, kd_98, kd_99, kd_100, kd_101, kd_102, kd_103, kd_104, kd_105, kd_106, kd_107, kd_108]; done))
      | (refine Eq.trans (bnd (r := ?_) ?_) ?_; rotate_left 1; (focus (simp (disch := omega) only [F.c86_0, pn, c_near a0 a1 b0 b1 hn.1 hn.2, Int.reduceLT, Int.reduceLE, Int.reduceEq, Int.reduceNe, Int.reduceNeg, Int.reduceAdd, Int.reduceSub, Int.reduceMul, Int.reduceGE, Int.reduceGT, Nat.reduceEqDiff, Nat.reduceAdd, and_true, true_and, and_self, not_true_eq_false, not_false_eq_true, ne_eq, and_false, false_and, or_false, or_true, false_or, true_or, vx_some, eq_self, ↓reduceIte, ite_t1, ite_t2, ite_t3, le_T, le_F, lt_T, lt_F, ge_T, ge_F, gt_T, gt_F, eq_T, eq_F, w32_i, kd_1, kd_2, kd_3, kd_4, kd_5, kd_6, kd_7, kd_14, kd_15, kd_16, kd_29, kd_34, kd_56, kd_74, kd_75, kd_76, kd_77, kd_78, kd_79, kd_80, kd_81, kd_82, kd_83, kd_84, kd_85, kd_86, kd_87, kd_88, kd_89, kd_90, kd_91, kd_92, kd_93, kd_94, kd_95, kd_96, kd_97, kd_98, kd_99, kd_100, kd_101, kd_102, kd_103, kd_104, kd_105, kd_106, kd_107, kd_108]; exact rfl)); simp only [vx_some])
    rw [w32_i (x := 2 * (n : Int)) (by omega) (by omega), w32_i (x := 32 + 2 * (n : Int)) (by omega) (by omega), w32_i (x := (n : Int) + 1) (by omega) (by omega)]
    exact ih'
theorem c_pk26 (F : FX h.2) (P : P87 h.2 f) (H : B16 f) : ∀ k n : Nat, n + k = 15 → ∀ z6 : Vl, vp 28 26 [(2, 86), (0, gre f n), (0, lea f n), (2, 87), (0, 16), (0, (n : Int) + 1), z6] [] h = some (some (1, pck f), h) := by
  intro k
  induction k with
  | zero =>
    intro n e z6
    have : n = 15 := by omega
    subst this
    have g := gre_rng H 15 (by omega)
    have l := lea_rng H 15 (by omega)
    rw [e_X4_packed_26, if_pos (by omega)]
    exact c_pk71 F P H g.1 g.2 l.1 l.2 16 0 rfl _
  | succ k ih =>
    intro n e z6
    have pn := P ((n : Int) + 1) (by omega) (by omega)
    have ih' := ih (n + 1) (by omega) (0, f ((n : Int) + 1))
    rw [show gre f (n + 1) = max (gre f n) (f ((n : Int) + 1)) from rfl, show lea f (n + 1) = min (lea f n) (f ((n : Int) + 1)) from rfl] at ih'
    generalize gre f n = w at *
    generalize lea f n = w2 at *
    generalize pck f = w3 at *
    rw [e_X4_packed_26]
    repeat first
      | (refine Eq.trans (if_pos ?_) ?_; · first | omega | (simp (disch := omega) only [pn, p_max, p_min, Int.reduceLT, Int.reduceLE, Int.reduceEq, Int.reduceNe, Int.reduceNeg, Int.reduceAdd, Int.reduceSub, Int.reduceMul, Int.reduceGE, Int.reduceGT, Nat.reduceEqDiff, Nat.reduceAdd, and_true, true_and, and_self, not_true_eq_false, not_false_eq_true, ne_eq, and_false, false_and, or_false, or_true, false_or, true_or, vx_some, eq_self, ↓reduceIte, ite_t1, ite_t2, ite_t3, le_T, le_F, lt_T, lt_F, ge_T, ge_F, gt_T, gt_F, eq_T, eq_F, w32_i, kd_1, kd_2, kd_3, kd_4, kd_5, kd_6, kd_7, kd_14, kd_15, kd_16, kd_29, kd_34, kd_56, kd_74, kd_75, kd_76, kd_77, kd_78, kd_79, kd_80, kd_81, kd_82, kd_83, kd_84, kd_85, kd_86, kd_87, kd_88, kd_89, kd_90, kd_91, kd_92, kd_93, kd_94, kd_95, kd_96, kd_97, kd_98, kd_99, kd_100, kd_101, kd_102, kd_103, kd_104, kd_105, kd_106, kd_107, kd_108]; done))
      | (refine Eq.trans (if_neg ?_) ?_; · first | omega | (simp (disch := omega) only [pn, p_max, p_min, Int.reduceLT, Int.reduceLE, Int.reduceEq, Int.reduceNe, Int.reduceNeg, Int.reduceAdd, Int.reduceSub, Int.reduceMul, Int.reduceGE, Int.reduceGT, Nat.reduceEqDiff, Nat.reduceAdd, and_true, true_and, and_self, not_true_eq_false, not_false_eq_true, ne_eq, and_false, false_and, or_false, or_true, false_or, true_or, vx_some, eq_self, ↓reduceIte, ite_t1, ite_t2, ite_t3, le_T, le_F, lt_T, lt_F, ge_T, ge_F, gt_T, gt_F, eq_T, eq_F, w32_i, kd_1, kd_2, kd_3, kd_4, kd_5, kd_6, kd_7, kd_14, kd_15, kd_16, kd_29, kd_34, kd_56, kd_74, kd_75, kd_76, kd_77, kd_78, kd_79, kd_80, kd_81, kd_82, kd_83, kd_84, kd_85, kd_86, kd_87, kd_88, kd_89, kd_90, kd_91, kd_92, kd_93, kd_94, kd_95, kd_96, kd_97, kd_98, kd_99, kd_100, kd_101, kd_102, kd_103, kd_104, kd_105, kd_106, kd_107, kd_108]; done))
      | (refine Eq.trans (bnd (r := ?_) ?_) ?_; rotate_left 1; (focus (simp (disch := omega) only [pn, p_max, p_min, Int.reduceLT, Int.reduceLE, Int.reduceEq, Int.reduceNe, Int.reduceNeg, Int.reduceAdd, Int.reduceSub, Int.reduceMul, Int.reduceGE, Int.reduceGT, Nat.reduceEqDiff, Nat.reduceAdd, and_true, true_and, and_self, not_true_eq_false, not_false_eq_true, ne_eq, and_false, false_and, or_false, or_true, false_or, true_or, vx_some, eq_self, ↓reduceIte, ite_t1, ite_t2, ite_t3, le_T, le_F, lt_T, lt_F, ge_T, ge_F, gt_T, gt_F, eq_T, eq_F, w32_i, kd_1, kd_2, kd_3, kd_4, kd_5, kd_6, kd_7, kd_14, kd_15, kd_16, kd_29, kd_34, kd_56, kd_74, kd_75, kd_76, kd_77, kd_78, kd_79, kd_80, kd_81, kd_82, kd_83, kd_84, kd_85, kd_86, kd_87, kd_88, kd_89, kd_90, kd_91, kd_92, kd_93, kd_94, kd_95, kd_96, kd_97, kd_98, kd_99, kd_100, kd_101, kd_102, kd_103, kd_104, kd_105, kd_106, kd_107, kd_108]; exact rfl)); simp only [vx_some])
    rw [pn, w32_i (x := (n : Int) + 1 + 1) (by omega) (by omega)]
    exact ih'
theorem c_packed (F : FX h.2) (P : P87 h.2 f) (H : B16 f) : vm 28 [(2, 86)] h = some (some (1, pck f), h) := by
  have p0 := P 0 (by omega) (by omega)
  have l := c_pk26 F P H 15 0 rfl (0, f 0)
  rw [show gre f 0 = f 0 from rfl, show lea f 0 = f 0 from rfl] at l
  rw [e_X4_packed]
  repeat first
    | (refine Eq.trans (if_pos ?_) ?_; · first | omega | (simp (disch := omega) only [F.c86_0, Int.reduceLT, Int.reduceLE, Int.reduceEq, Int.reduceNe, Int.reduceNeg, Int.reduceAdd, Int.reduceSub, Int.reduceMul, Int.reduceGE, Int.reduceGT, Nat.reduceEqDiff, Nat.reduceAdd, and_true, true_and, and_self, not_true_eq_false, not_false_eq_true, ne_eq, and_false, false_and, or_false, or_true, false_or, true_or, vx_some, eq_self, ↓reduceIte, ite_t1, ite_t2, ite_t3, le_T, le_F, lt_T, lt_F, ge_T, ge_F, gt_T, gt_F, eq_T, eq_F, w32_i, kd_1, kd_2, kd_3, kd_4, kd_5, kd_6, kd_7, kd_14, kd_15, kd_16, kd_29, kd_34, kd_56, kd_74, kd_75, kd_76, kd_77, kd_78, kd_79, kd_80, kd_81, kd_82, kd_83, kd_84, kd_85, kd_86, kd_87, kd_88, kd_89, kd_90, kd_91, kd_92, kd_93, kd_94, kd_95, kd_96, kd_97, kd_98, kd_99, kd_100, kd_101, kd_102, kd_103, kd_104, kd_105, kd_106, kd_107, kd_108]; done))
    | (refine Eq.trans (if_neg ?_) ?_; · first | omega | (simp (disch := omega) only [F.c86_0, Int.reduceLT, Int.reduceLE, Int.reduceEq, Int.reduceNe, Int.reduceNeg, Int.reduceAdd, Int.reduceSub, Int.reduceMul, Int.reduceGE, Int.reduceGT, Nat.reduceEqDiff, Nat.reduceAdd, and_true, true_and, and_self, not_true_eq_false, not_false_eq_true, ne_eq, and_false, false_and, or_false, or_true, false_or, true_or, vx_some, eq_self, ↓reduceIte, ite_t1, ite_t2, ite_t3, le_T, le_F, lt_T, lt_F, ge_T, ge_F, gt_T, gt_F, eq_T, eq_F, w32_i, kd_1, kd_2, kd_3, kd_4, kd_5, kd_6, kd_7, kd_14, kd_15, kd_16, kd_29, kd_34, kd_56, kd_74, kd_75, kd_76, kd_77, kd_78, kd_79, kd_80, kd_81, kd_82, kd_83, kd_84, kd_85, kd_86, kd_87, kd_88, kd_89, kd_90, kd_91, kd_92, kd_93, kd_94, kd_95, kd_96, kd_97, kd_98, kd_99, kd_100, kd_101, kd_102, kd_103, kd_104, kd_105, kd_106, kd_107, kd_108]; done))
    | (refine Eq.trans (bnd (r := ?_) ?_) ?_; rotate_left 1; (focus (simp (disch := omega) only [F.c86_0, Int.reduceLT, Int.reduceLE, Int.reduceEq, Int.reduceNe, Int.reduceNeg, Int.reduceAdd, Int.reduceSub, Int.reduceMul, Int.reduceGE, Int.reduceGT, Nat.reduceEqDiff, Nat.reduceAdd, and_true, true_and, and_self, not_true_eq_false, not_false_eq_true, ne_eq, and_false, false_and, or_false, or_true, false_or, true_or, vx_some, eq_self, ↓reduceIte, ite_t1, ite_t2, ite_t3, le_T, le_F, lt_T, lt_F, ge_T, ge_F, gt_T, gt_F, eq_T, eq_F, w32_i, kd_1, kd_2, kd_3, kd_4, kd_5, kd_6, kd_7, kd_14, kd_15, kd_16, kd_29, kd_34, kd_56, kd_74, kd_75, kd_76, kd_77, kd_78, kd_79, kd_80, kd_81, kd_82, kd_83, kd_84, kd_85, kd_86, kd_87, kd_88, kd_89, kd_90, kd_91, kd_92, kd_93, kd_94, kd_95, kd_96, kd_97, kd_98, kd_99, kd_100, kd_101, kd_102, kd_103, kd_104, kd_105, kd_106, kd_107, kd_108]; exact rfl)); simp only [vx_some])
  rw [F.c86_0, p0]
  rw [e_X4_packed_26]
  repeat first
    | (refine Eq.trans (if_pos ?_) ?_; · first | omega | (simp (disch := omega) only [p0, p_max, p_min, Int.reduceLT, Int.reduceLE, Int.reduceEq, Int.reduceNe, Int.reduceNeg, Int.reduceAdd, Int.reduceSub, Int.reduceMul, Int.reduceGE, Int.reduceGT, Nat.reduceEqDiff, Nat.reduceAdd, and_true, true_and, and_self, not_true_eq_false, not_false_eq_true, ne_eq, and_false, false_and, or_false, or_true, false_or, true_or, vx_some, eq_self, ↓reduceIte, ite_t1, ite_t2, ite_t3, le_T, le_F, lt_T, lt_F, ge_T, ge_F, gt_T, gt_F, eq_T, eq_F, w32_i, kd_1, kd_2, kd_3, kd_4, kd_5, kd_6, kd_7, kd_14, kd_15, kd_16, kd_29, kd_34, kd_56, kd_74, kd_75, kd_76, kd_77, kd_78, kd_79, kd_80, kd_81, kd_82, kd_83, kd_84, kd_85, kd_86, kd_87, kd_88, kd_89, kd_90, kd_91, kd_92, kd_93, kd_94, kd_95, kd_96, kd_97, kd_98, kd_99, kd_100, kd_101, kd_102, kd_103, kd_104, kd_105, kd_106, kd_107, kd_108]; done))
    | (refine Eq.trans (if_neg ?_) ?_; · first | omega | (simp (disch := omega) only [p0, p_max, p_min, Int.reduceLT, Int.reduceLE, Int.reduceEq, Int.reduceNe, Int.reduceNeg, Int.reduceAdd, Int.reduceSub, Int.reduceMul, Int.reduceGE, Int.reduceGT, Nat.reduceEqDiff, Nat.reduceAdd, and_true, true_and, and_self, not_true_eq_false, not_false_eq_true, ne_eq, and_false, false_and, or_false, or_true, false_or, true_or, vx_some, eq_self, ↓reduceIte, ite_t1, ite_t2, ite_t3, le_T, le_F, lt_T, lt_F, ge_T, ge_F, gt_T, gt_F, eq_T, eq_F, w32_i, kd_1, kd_2, kd_3, kd_4, kd_5, kd_6, kd_7, kd_14, kd_15, kd_16, kd_29, kd_34, kd_56, kd_74, kd_75, kd_76, kd_77, kd_78, kd_79, kd_80, kd_81, kd_82, kd_83, kd_84, kd_85, kd_86, kd_87, kd_88, kd_89, kd_90, kd_91, kd_92, kd_93, kd_94, kd_95, kd_96, kd_97, kd_98, kd_99, kd_100, kd_101, kd_102, kd_103, kd_104, kd_105, kd_106, kd_107, kd_108]; done))
    | (refine Eq.trans (bnd (r := ?_) ?_) ?_; rotate_left 1; (focus (simp (disch := omega) only [p0, p_max, p_min, Int.reduceLT, Int.reduceLE, Int.reduceEq, Int.reduceNe, Int.reduceNeg, Int.reduceAdd, Int.reduceSub, Int.reduceMul, Int.reduceGE, Int.reduceGT, Nat.reduceEqDiff, Nat.reduceAdd, and_true, true_and, and_self, not_true_eq_false, not_false_eq_true, ne_eq, and_false, false_and, or_false, or_true, false_or, true_or, vx_some, eq_self, ↓reduceIte, ite_t1, ite_t2, ite_t3, le_T, le_F, lt_T, lt_F, ge_T, ge_F, gt_T, gt_F, eq_T, eq_F, w32_i, kd_1, kd_2, kd_3, kd_4, kd_5, kd_6, kd_7, kd_14, kd_15, kd_16, kd_29, kd_34, kd_56, kd_74, kd_75, kd_76, kd_77, kd_78, kd_79, kd_80, kd_81, kd_82, kd_83, kd_84, kd_85, kd_86, kd_87, kd_88, kd_89, kd_90, kd_91, kd_92, kd_93, kd_94, kd_95, kd_96, kd_97, kd_98, kd_99, kd_100, kd_101, kd_102, kd_103, kd_104, kd_105, kd_106, kd_107, kd_108]; exact rfl)); simp only [vx_some])
  rw [p0, show max (f 0) (f 0) = f 0 by omega, show min (f 0) (f 0) = f 0 by omega]
  exact l
theorem c_dist5 (F : FX h.2) (P : P87 h.2 f) (H : B16 f) {b : Int} : ∀ k n : Nat, n + k = 16 → vp 32 5 [(2, 86), (1, b), (9, 0), (0, ofs f (unp b) n), (0, (n : Int))] [] h = some (some (0, ofs f (unp b) 16), h) := by
  intro k
  induction k with
  | zero =>
    intro n e
    have : n = 16 := by omega
    subst this
    rw [e_X4_distanceTo_5, if_pos (by omega)]
  | succ k ih =>
    intro n e
    have ih' := ih (n + 1) (by omega)
    have hn := H n (by omega) (by omega)
    have pn := P n (by omega) (by omega)
    have un := unp_rng b n
    have on := ofs_rng H (g := unp b) (fun k _ _ => unp_rng b k) n (by omega)
    rw [show ofs f (unp b) (n + 1) = ofs f (unp b) n + ((f n - unp b n).natAbs : Int) from rfl] at ih'
    generalize ofs f (unp b) n = w at *
    generalize ofs f (unp b) 16 = w2 at *
    rw [e_X4_distanceTo_5]
    repeat first
      | (refine Eq.trans (if_pos ?_) ?_; · first | omega | (simp (disch := omega) only [F.c86_0, pn, c_unpacked, Int.reduceLT, Int.reduceLE, Int.reduceEq, Int.reduceNe, Int.reduceNeg, Int.reduceAdd, Int.reduceSub, Int.reduceMul, Int.reduceGE, Int.reduceGT, Nat.reduceEqDiff, Nat.reduceAdd, and_true, true_and, and_self, not_true_eq_false, not_false_eq_true, ne_eq, and_false, false_and, or_false, or_true, false_or, true_or, vx_some, eq_self, ↓reduceIte, ite_t1, ite_t2, ite_t3, le_T, le_F, lt_T, lt_F, ge_T, ge_F, gt_T, gt_F, eq_T, eq_F, w32_i, kd_1, kd_2, kd_3, kd_4, kd_5, kd_6, kd_7, kd_14, kd_15, kd_16, kd_29, kd_34, kd_56, kd_74, kd_75, kd_76, kd_77, kd_78, kd_79, kd_80, kd_81, kd_82, kd_83, kd_84, kd_85, kd_86, kd_87, kd_88, kd_89, kd_90, kd_91, kd_92, kd_93, kd_94, kd_95, kd_96, kd_97, kd_98, kd_99, kd_100, kd_101, kd_102, kd_103, kd_104, kd_105, kd_106, kd_107, kd_108]; done))
      | (refine Eq.trans (if_neg ?_) ?_; · first | omega | (simp (disch := omega) only [F.c86_0, pn, c_unpacked, Int.reduceLT, Int.reduceLE, Int.reduceEq, Int.reduceNe, Int.reduceNeg, Int.reduceAdd, Int.reduceSub, Int.reduceMul, Int.reduceGE, Int.reduceGT, Nat.reduceEqDiff, Nat.reduceAdd, and_true, true_and, and_self, not_true_eq_false, not_false_eq_true, ne_eq, and_false, false_and, or_false, or_true, false_or, true_or, vx_some, eq_self, ↓reduceIte, ite_t1, ite_t2, ite_t3, le_T, le_F, lt_T, lt_F, ge_T, ge_F, gt_T, gt_F, eq_T, eq_F, w32_i, kd_1, kd_2, kd_3, kd_4, kd_5, kd_6, kd_7, kd_14, kd_15, kd_16, kd_29, kd_34, kd_56, kd_74, kd_75, kd_76, kd_77, kd_78, kd_79, kd_80, kd_81, kd_82, kd_83, kd_84, kd_85, kd_86, kd_87, kd_88, kd_89, kd_90, kd_91, kd_92, kd_93, kd_94, kd_95, kd_96, kd_97, kd_98, kd_99, kd_100, kd_101, kd_102, kd_103, kd_104, kd_105, kd_106, kd_107, kd_108]; done))
      | (refine Eq.trans (bnd (r := ?_) ?_) ?_; rotate_left 1; (focus (simp (disch := omega) only [F.c86_0, pn, c_unpacked, Int.reduceLT, Int.reduceLE, Int.reduceEq, Int.reduceNe, Int.reduceNeg, Int.reduceAdd, Int.reduceSub, Int.reduceMul, Int.reduceGE, Int.reduceGT, Nat.reduceEqDiff, Nat.reduceAdd, and_true, true_and, and_self, not_true_eq_false, not_false_eq_true, ne_eq, and_false, false_and, or_false, or_true, false_or, true_or, vx_some, eq_self, ↓reduceIte, ite_t1, ite_t2, ite_t3, le_T, le_F, lt_T, lt_F, ge_T, ge_F, gt_T, gt_F, eq_T, eq_F, w32_i, kd_1, kd_2, kd_3, kd_4, kd_5, kd_6, kd_7, kd_14, kd_15, kd_16, kd_29, kd_34, kd_56, kd_74, kd_75, kd_76, kd_77, kd_78, kd_79, kd_80, kd_81, kd_82, kd_83, kd_84, kd_85, kd_86, kd_87, kd_88, kd_89, kd_90, kd_91, kd_92, kd_93, kd_94, kd_95, kd_96, kd_97, kd_98, kd_99, kd_100, kd_101, kd_102, kd_103, kd_104, kd_105, kd_106, kd_107, kd_108]; exact rfl)); simp only [vx_some])
    rw [F.c86_0, pn, w32_i (x := f n - unp b n) (by omega) (by omega), p_abs _ _ (by omega) (by omega)]
    simp only [Option.bind_some, vx_some]
    rw [w32_i (x := (n : Int) + 1) (by omega) (by omega), w32_i (by omega) (by omega)]
    exact ih'
theorem c_dist (F : FX h.2) (P : P87 h.2 f) (H : B16 f) (b : Int) : vm 32 [(2, 86), (1, b)] h = some (some (0, ofs f (unp b) 16), h) := by
  rw [e_X4_distanceTo]
  exact c_dist5 F P H 16 0 rfl
end
