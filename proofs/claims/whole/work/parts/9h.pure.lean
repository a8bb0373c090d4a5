/-! THE PURE PART: the text: a texture's line, helpers -/
theorem hv_step : ∀ c : Nat, c ≤ 4 → w32 (((2 : Int) ^ (c + 1)).tdiv 2) = 2 ^ c ∧ ¬ ((2 : Int) ^ (c + 1) ≤ 1) := by decide +kernel
theorem p_hv4 (h : Hq) : ∀ (c : Nat) (x1 : Int) (z : Vl), c ≤ 4 → 0 ≤ x1 → x1 + c ≤ 100 → vp 197 4 [z, (0, x1), (0, 2 ^ c)] [] h = some (some (0, x1 + c), h)
  | 0, x1, z, _, h0, h1 => by
    rw [e_X12_halvings_4, if_pos (by decide), show x1 + ((0 : Nat) : Int) = x1 by omega]
  | c + 1, x1, z, hc, h0, h1 => by
    have s := hv_step c (by omega)
    have ih := p_hv4 h c (x1 + 1) (9, 0) (by omega) (by omega) (by omega)
    refine Eq.trans (e_X12_halvings_4 ..) ?_
    rw [if_neg s.2, s.1, w32_i (by omega) (by omega), ih, show x1 + 1 + (c : Int) = x1 + ((c + 1 : Nat) : Int) by omega]
theorem PW_ex {v : Int} (p : PW v) : ∃ c : Nat, c ≤ 4 ∧ v = 2 ^ c := by
  unfold PW at p
  rcases p with p | p | p | p | p
  · exact ⟨0, by omega, by rw [p]; rfl⟩
  · exact ⟨1, by omega, by rw [p]; rfl⟩
  · exact ⟨2, by omega, by rw [p]; rfl⟩
  · exact ⟨3, by omega, by rw [p]; rfl⟩
  · exact ⟨4, by omega, by rw [p]; rfl⟩
theorem pow_rng : ∀ c : Nat, c ≤ 4 → (1 : Int) ≤ 2 ^ c ∧ (2 : Int) ^ c ≤ 16 ∧ pcn (2 ^ c - 1) = c := by decide +kernel
theorem pow_max : ∀ a : Nat, a < 5 → ∀ b : Nat, b < 5 → max ((2 : Int) ^ a) (2 ^ b) = 2 ^ (max a b) := by decide +kernel
theorem p_halvP (c : Nat) (hc : c ≤ 4) (h : Hq) : vm 197 [(0, 2 ^ c)] h = some (some (0, (c : Int)), h) := by
  have := p_hv4 h c 0 (0, 2 ^ c) hc (by omega) (by omega)
  rw [Int.zero_add] at this
  exact (e_X12_halvings ..).trans this
theorem w32_rg (x : Int) : -2147483648 ≤ w32 x ∧ w32 x < 2147483648 := by
  unfold w32
  omega
theorem d_hv4 (h : Hq) : ∀ (k : Nat) (x1 x2 : Int) (z : Vl), x2 < 2 ^ k → k ≤ 31 → ∃ v : Int, vp 197 4 [z, (0, x1), (0, x2)] [] h = some (some (0, v), h)
  | 0, x1, x2, z, q, _ => ⟨x1, by rw [e_X12_halvings_4, if_pos (by have : (2 : Int) ^ 0 = 1 := rfl; omega)]⟩
  | k + 1, x1, x2, z, q, hk => by
    by_cases y : x2 ≤ 1
    · exact ⟨x1, by rw [e_X12_halvings_4, if_pos y]⟩
    · have q2 : x2 < 2 ^ k * 2 := by rw [← Int.pow_succ]; exact q
      have p31 : (2 : Int) ^ k ≤ 2147483648 := by
        have : (2 : Nat) ^ k ≤ 2 ^ 31 := Nat.pow_le_pow_right (by decide) (by omega)
        have h2 : ((2 ^ k : Nat) : Int) = (2 : Int) ^ k := by simp
        omega
      have e : w32 (x2.tdiv 2) = x2 / 2 := by
        rw [Int.tdiv_eq_ediv_of_nonneg (by omega)]
        exact w32_i (by omega) (by omega)
      obtain ⟨v, hv⟩ := d_hv4 h k (w32 (x1 + 1)) (x2 / 2) (9, 0) (by omega) (by omega)
      refine ⟨v, ?_⟩
      refine Eq.trans (e_X12_halvings_4 ..) ?_
      rw [if_neg y, e]
      exact hv
theorem d_halv (x : Int) (h : Hq) : ∃ v : Int, vm 197 [(0, x)] h = some (some (0, v), h) := by
  rw [e_X12_halvings]
  by_cases y : x ≤ 1
  · exact ⟨0, by rw [e_X12_halvings_4, if_pos y]⟩
  · have r := w32_rg (x.tdiv 2)
    obtain ⟨v, hv⟩ := d_hv4 h 31 (w32 (0 + 1)) (w32 (x.tdiv 2)) (9, 0) (by have : (2 : Int) ^ 31 = 2147483648 := rfl; omega) (by omega)
    refine ⟨v, ?_⟩
    refine Eq.trans (e_X12_halvings_4 ..) ?_
    rw [if_neg y]
    exact hv
section
variable {n : Int} {m M : Mm} {D : Int}
/-- the levels laid -/
def LAY (m : Mm) (T f w g : Int) (l : Nat) : Prop := (∀ i : Nat, i ≤ l → m (T + 1) i = f + plc w g i) ∧ ∀ i : Nat, i < l → m (T + 2) i = hv w i ∧ m (T + 3) i = hv g i
theorem c_lay18 {T f w g : Int} {L : Nat} (T0 : 0 < T) (kT : kd T = (10, 12)) (k1 : kd (T + 1) = (20, 6)) (k2 : kd (T + 2) = (20, 5)) (k3 : kd (T + 3) = (20, 5)) (w0 : 1 ≤ w) (w1 : w ≤ 16) (g0 : 1 ≤ g) (g1 : g ≤ 16) (f0 : 0 ≤ f) (f1 : f ≤ 1000) (hL : L ≤ 5) : ∀ (r l : Nat) (m : Mm) (z1 z2 : Vl), l + r = L → m T 0 = T + 1 → m T 1 = T + 2 → m T 2 = T + 3 → m T 7 = w → m T 8 = g → m T 9 = L → LAY m T f w g l → ∃ m', vp 83 18 [(2, T), z1, z2, (0, (l : Int))] [] (n, m) = some (none, (n, m')) ∧ LAY m' T f w g L ∧ ∀ o q : Int, ¬ (o = T + 1 ∨ o = T + 2 ∨ o = T + 3) → m' o q = m o q := by
  intro r
  induction r with
  | zero =>
    intro l m z1 z2 e h0 h1 h2 h7 h8 h9 A
    refine ⟨m, ?_, by rw [show L = l by omega]; exact A, fun _ _ _ => rfl⟩
    refine Eq.trans (e_X10_layLevels_18 ..) ?_
    repeat first
      | (refine Eq.trans (if_pos ?_) ?_; · first | omega | (simp (disch := omega) only [kT, h9, Int.reduceLT, Int.reduceLE, Int.reduceEq, Int.reduceNe, Int.reduceNeg, Int.reduceAdd, Int.reduceSub, Int.reduceMul, Int.reduceGE, Int.reduceGT, Nat.reduceEqDiff, Nat.reduceAdd, and_true, true_and, and_self, not_true_eq_false, not_false_eq_true, ne_eq, and_false, false_and, or_false, or_true, false_or, true_or, vx_some, eq_self, ↓reduceIte, ite_t1, ite_t2, ite_t3, le_T, le_F, lt_T, lt_F, ge_T, ge_F, gt_T, gt_F, eq_T, eq_F, w32_i, kd_1, kd_2, kd_3, kd_4, kd_5, kd_6, kd_7, kd_14, kd_15, kd_16, kd_29, kd_34, kd_56, kd_74, kd_75, kd_76, kd_77, kd_78, kd_79, kd_80, kd_81, kd_82, kd_83, kd_84, kd_85, kd_86, kd_87, kd_88, kd_89, kd_90, kd_91, kd_92, kd_93, kd_94, kd_95, kd_96, kd_97, kd_98, kd_99, kd_100, kd_101, kd_102, kd_103, kd_104, kd_105, kd_106, kd_107, kd_108]; done))
      | (refine Eq.trans (if_neg ?_) ?_; · first | omega | (simp (disch := omega) only [kT, h9, Int.reduceLT, Int.reduceLE, Int.reduceEq, Int.reduceNe, Int.reduceNeg, Int.reduceAdd, Int.reduceSub, Int.reduceMul, Int.reduceGE, Int.reduceGT, Nat.reduceEqDiff, Nat.reduceAdd, and_true, true_and, and_self, not_true_eq_false, not_false_eq_true, ne_eq, and_false, false_and, or_false, or_true, false_or, true_or, vx_some, eq_self, ↓reduceIte, ite_t1, ite_t2, ite_t3, le_T, le_F, lt_T, lt_F, ge_T, ge_F, gt_T, gt_F, eq_T, eq_F, w32_i, kd_1, kd_2, kd_3, kd_4, kd_5, kd_6, kd_7, kd_14, kd_15, kd_16, kd_29, kd_34, kd_56, kd_74, kd_75, kd_76, kd_77, kd_78, kd_79, kd_80, kd_81, kd_82, kd_83, kd_84, kd_85, kd_86, kd_87, kd_88, kd_89, kd_90, kd_91, kd_92, kd_93, kd_94, kd_95, kd_96, kd_97, kd_98, kd_99, kd_100, kd_101, kd_102, kd_103, kd_104, kd_105, kd_106, kd_107, kd_108]; done))
      | (refine Eq.trans (bnd (r := ?_) ?_) ?_; rotate_left 1; (focus (simp (disch := omega) only [kT, h9, Int.reduceLT, Int.reduceLE, Int.reduceEq, Int.reduceNe, Int.reduceNeg, Int.reduceAdd, Int.reduceSub, Int.reduceMul, Int.reduceGE, Int.reduceGT, Nat.reduceEqDiff, Nat.reduceAdd, and_true, true_and, and_self, not_true_eq_false, not_false_eq_true, ne_eq, and_false, false_and, or_false, or_true, false_or, true_or, vx_some, eq_self, ↓reduceIte, ite_t1, ite_t2, ite_t3, le_T, le_F, lt_T, lt_F, ge_T, ge_F, gt_T, gt_F, eq_T, eq_F, w32_i, kd_1, kd_2, kd_3, kd_4, kd_5, kd_6, kd_7, kd_14, kd_15, kd_16, kd_29, kd_34, kd_56, kd_74, kd_75, kd_76, kd_77, kd_78, kd_79, kd_80, kd_81, kd_82, kd_83, kd_84, kd_85, kd_86, kd_87, kd_88, kd_89, kd_90, kd_91, kd_92, kd_93, kd_94, kd_95, kd_96, kd_97, kd_98, kd_99, kd_100, kd_101, kd_102, kd_103, kd_104, kd_105, kd_106, kd_107, kd_108]; exact rfl)); simp only [vx_some])
    all_goals with_reducible rfl
  | succ r ih =>
    intro l m z1 z2 e h0 h1 h2 h7 h8 h9 A
    have rw1 := hv_rng l w0 w1
    have rg1 := hv_rng l g0 g1
    have pl := plc_rng (w := w) (h := g) w0 w1 g0 g1 l
    have gq : 0 ≤ hv w l * hv g l := Int.mul_nonneg (by omega) (by omega)
    have gr : hv w l * hv g l ≤ 16 * 16 := Int.mul_le_mul rw1.2 rg1.2 (by omega) (by omega)
    have fl := A.1 l (Nat.le_refl l)
    have m1 : vm 313 [(0, 1), (0, bshr w l)] (n, m) = some (some (0, hv w l), (n, m)) := by
      rw [p_max, bshr_eq w l (by omega) (by omega)]
      rfl
    have m2 : vm 313 [(0, 1), (0, bshr g l)] (n, stm m (T + 2) l (hv w l)) = some (some (0, hv g l), (n, stm m (T + 2) l (hv w l))) := by
      rw [p_max, bshr_eq g l (by omega) (by omega)]
      rfl
    have pe : plc w g (l + 1) = plc w g l + hv w l * hv g l := rfl
    have tc : vm 84 [(2, T), (0, (l : Int))] (n, stm (stm m (T + 2) l (hv w l)) (T + 3) l (hv g l)) = some (some (0, hv w l * hv g l), (n, stm (stm m (T + 2) l (hv w l)) (T + 3) l (hv g l))) := by
      have s1 : ∀ a b : Int, stm (stm m (T + 2) l a) (T + 3) l b T 1 = T + 2 := fun a b => by rw [stm_o (by omega), stm_o (by omega)]; exact h1
      have s2 : ∀ a b : Int, stm (stm m (T + 2) l a) (T + 3) l b T 2 = T + 3 := fun a b => by rw [stm_o (by omega), stm_o (by omega)]; exact h2
      have s3 : ∀ a b : Int, stm (stm m (T + 2) l a) (T + 3) l b (T + 2) l = a := fun a b => by rw [stm_o (by omega), stm_same]
      have s4 : ∀ a b : Int, stm (stm m (T + 2) l a) (T + 3) l b (T + 3) l = b := fun a b => stm_same _ _ _ _
      clear A
      generalize hv w l = a at *
      generalize hv g l = b at *
      rw [e_X10_texelCount]
      repeat first
        | (refine Eq.trans (if_pos ?_) ?_; · first | omega | (simp (disch := omega) only [kT, s1, s2, k2, k3, Int.reduceLT, Int.reduceLE, Int.reduceEq, Int.reduceNe, Int.reduceNeg, Int.reduceAdd, Int.reduceSub, Int.reduceMul, Int.reduceGE, Int.reduceGT, Nat.reduceEqDiff, Nat.reduceAdd, and_true, true_and, and_self, not_true_eq_false, not_false_eq_true, ne_eq, and_false, false_and, or_false, or_true, false_or, true_or, vx_some, eq_self, ↓reduceIte, ite_t1, ite_t2, ite_t3, le_T, le_F, lt_T, lt_F, ge_T, ge_F, gt_T, gt_F, eq_T, eq_F, w32_i, kd_1, kd_2, kd_3, kd_4, kd_5, kd_6, kd_7, kd_14, kd_15, kd_16, kd_29, kd_34, kd_56, kd_74, kd_75, kd_76, kd_77, kd_78, kd_79, kd_80, kd_81, kd_82, kd_83, kd_84, kd_85, kd_86, kd_87, kd_88, kd_89, kd_90, kd_91, kd_92, kd_93, kd_94, kd_95, kd_96, kd_97, kd_98, kd_99, kd_100, kd_101, kd_102, kd_103, kd_104, kd_105, kd_106, kd_107, kd_108]; done))
        | (refine Eq.trans (if_neg ?_) ?_; · first | omega | (simp (disch := omega) only [kT, s1, s2, k2, k3, Int.reduceLT, Int.reduceLE, Int.reduceEq, Int.reduceNe, Int.reduceNeg, Int.reduceAdd, Int.reduceSub, Int.reduceMul, Int.reduceGE, Int.reduceGT, Nat.reduceEqDiff, Nat.reduceAdd, and_true, true_and, and_self, not_true_eq_false, not_false_eq_true, ne_eq, and_false, false_and, or_false, or_true, false_or, true_or, vx_some, eq_self, ↓reduceIte, ite_t1, ite_t2, ite_t3, le_T, le_F, lt_T, lt_F, ge_T, ge_F, gt_T, gt_F, eq_T, eq_F, w32_i, kd_1, kd_2, kd_3, kd_4, kd_5, kd_6, kd_7, kd_14, kd_15, kd_16, kd_29, kd_34, kd_56, kd_74, kd_75, kd_76, kd_77, kd_78, kd_79, kd_80, kd_81, kd_82, kd_83, kd_84, kd_85, kd_86, kd_87, kd_88, kd_89, kd_90, kd_91, kd_92, kd_93, kd_94, kd_95, kd_96, kd_97, kd_98, kd_99, kd_100, kd_101, kd_102, kd_103, kd_104, kd_105, kd_106, kd_107, kd_108]; done))
        | (refine Eq.trans (bnd (r := ?_) ?_) ?_; rotate_left 1; (focus (simp (disch := omega) only [kT, s1, s2, k2, k3, Int.reduceLT, Int.reduceLE, Int.reduceEq, Int.reduceNe, Int.reduceNeg, Int.reduceAdd, Int.reduceSub, Int.reduceMul, Int.reduceGE, Int.reduceGT, Nat.reduceEqDiff, Nat.reduceAdd, and_true, true_and, and_self, not_true_eq_false, not_false_eq_true, ne_eq, and_false, false_and, or_false, or_true, false_or, true_or, vx_some, eq_self, ↓reduceIte, ite_t1, ite_t2, ite_t3, le_T, le_F, lt_T, lt_F, ge_T, ge_F, gt_T, gt_F, eq_T, eq_F, w32_i, kd_1, kd_2, kd_3, kd_4, kd_5, kd_6, kd_7, kd_14, kd_15, kd_16, kd_29, kd_34, kd_56, kd_74, kd_75, kd_76, kd_77, kd_78, kd_79, kd_80, kd_81, kd_82, kd_83, kd_84, kd_85, kd_86, kd_87, kd_88, kd_89, kd_90, kd_91, kd_92, kd_93, kd_94, kd_95, kd_96, kd_97, kd_98, kd_99, kd_100, kd_101, kd_102, kd_103, kd_104, kd_105, kd_106, kd_107, kd_108]; exact rfl)); simp only [vx_some])
      all_goals simp only [s1, s2, s3, s4]
      all_goals rw [w32_i (by omega) (by omega)]
    have B : LAY (stm (stm (stm m (T + 2) l (hv w l)) (T + 3) l (hv g l)) (T + 1) ((l : Int) + 1) (f + plc w g (l + 1))) T f w g (l + 1) := by
      refine ⟨fun i hi => ?_, fun i hi => ?_⟩
      · by_cases z : i = l + 1
        · rw [z]
          exact stm_same _ _ _ _
        · rw [stm_k (by omega), stm_o (by omega), stm_o (by omega)]
          exact A.1 i (by omega)
      · by_cases z : i = l
        · rw [z]
          exact ⟨by rw [stm_o (by omega), stm_o (by omega), stm_same], by rw [stm_o (by omega), stm_same]⟩
        · rw [stm_o (by omega), stm_o (by omega), stm_k (by omega), stm_o (by omega), stm_k (by omega), stm_o (by omega)]
          exact A.2 i (by omega)
    have fr : ∀ q : Int, (stm (stm (stm m (T + 2) l (hv w l)) (T + 3) l (hv g l)) (T + 1) ((l : Int) + 1) (f + plc w g (l + 1))) T q = m T q := fun q => by rw [stm_o (by omega), stm_o (by omega), stm_o (by omega)]
    obtain ⟨m', a1, a2, a3⟩ := ih (l + 1) _ (9, 0) (9, 0) (by omega) ((fr 0).trans h0) ((fr 1).trans h1) ((fr 2).trans h2) ((fr 7).trans h7) ((fr 8).trans h8) ((fr 9).trans h9) B
    refine ⟨m', ?_, a2, fun o q h => ?_⟩
    · rw [← a1]
      have u0 : ∀ a b : Int, stm (stm m (T + 2) l a) (T + 3) l b T 0 = T + 1 := fun a b => by rw [stm_o (by omega), stm_o (by omega)]; exact h0
      have u1 : ∀ a b : Int, stm (stm m (T + 2) l a) (T + 3) l b (T + 1) l = f + plc w g l := fun a b => by rw [stm_o (by omega), stm_o (by omega)]; exact fl
      have u8 : ∀ a : Int, stm m (T + 2) l a T 8 = g := fun a => by rw [stm_o (by omega)]; exact h8
      have u2 : ∀ a : Int, stm m (T + 2) l a T 2 = T + 3 := fun a => by rw [stm_o (by omega)]; exact h2
      clear A B fr a1 a2 a3 ih
      rw [pe]
      generalize hv w l = a at *
      generalize hv g l = b at *
      generalize plc w g l = c at *
      generalize a * b = ab at *
      refine Eq.trans (e_X10_layLevels_18 ..) ?_
      repeat first
        | (refine Eq.trans (if_pos ?_) ?_; · first | omega | (simp (disch := omega) only [kT, h9, h7, m1, h1, k2, u8, m2, u2, k3, u0, k1, tc, Int.reduceLT, Int.reduceLE, Int.reduceEq, Int.reduceNe, Int.reduceNeg, Int.reduceAdd, Int.reduceSub, Int.reduceMul, Int.reduceGE, Int.reduceGT, Nat.reduceEqDiff, Nat.reduceAdd, and_true, true_and, and_self, not_true_eq_false, not_false_eq_true, ne_eq, and_false, false_and, or_false, or_true, false_or, true_or, vx_some, eq_self, ↓reduceIte, ite_t1, ite_t2, ite_t3, le_T, le_F, lt_T, lt_F, ge_T, ge_F, gt_T, gt_F, eq_T, eq_F, w32_i, kd_1, kd_2, kd_3, kd_4, kd_5, kd_6, kd_7, kd_14, kd_15, kd_16, kd_29, kd_34, kd_56, kd_74, kd_75, kd_76, kd_77, kd_78, kd_79, kd_80, kd_81, kd_82, kd_83, kd_84, kd_85, kd_86, kd_87, kd_88, kd_89, kd_90, kd_91, kd_92, kd_93, kd_94, kd_95, kd_96, kd_97, kd_98, kd_99, kd_100, kd_101, kd_102, kd_103, kd_104, kd_105, kd_106, kd_107, kd_108]; done))
        | (refine Eq.trans (if_neg ?_) ?_; · first | omega | (simp (disch := omega) only [kT, h9, h7, m1, h1, k2, u8, m2, u2, k3, u0, k1, tc, Int.reduceLT, Int.reduceLE, Int.reduceEq, Int.reduceNe, Int.reduceNeg, Int.reduceAdd, Int.reduceSub, Int.reduceMul, Int.reduceGE, Int.reduceGT, Nat.reduceEqDiff, Nat.reduceAdd, and_true, true_and, and_self, not_true_eq_false, not_false_eq_true, ne_eq, and_false, false_and, or_false, or_true, false_or, true_or, vx_some, eq_self, ↓reduceIte, ite_t1, ite_t2, ite_t3, le_T, le_F, lt_T, lt_F, ge_T, ge_F, gt_T, gt_F, eq_T, eq_F, w32_i, kd_1, kd_2, kd_3, kd_4, kd_5, kd_6, kd_7, kd_14, kd_15, kd_16, kd_29, kd_34, kd_56, kd_74, kd_75, kd_76, kd_77, kd_78, kd_79, kd_80, kd_81, kd_82, kd_83, kd_84, kd_85, kd_86, kd_87, kd_88, kd_89, kd_90, kd_91, kd_92, kd_93, kd_94, kd_95, kd_96, kd_97, kd_98, kd_99, kd_100, kd_101, kd_102, kd_103, kd_104, kd_105, kd_106, kd_107, kd_108]; done))
        | (refine Eq.trans (bnd (r := ?_) ?_) ?_; rotate_left 1; (focus (simp (disch := omega) only [kT, h9, h7, m1, h1, k2, u8, m2, u2, k3, u0, k1, tc, Int.reduceLT, Int.reduceLE, Int.reduceEq, Int.reduceNe, Int.reduceNeg, Int.reduceAdd, Int.reduceSub, Int.reduceMul, Int.reduceGE, Int.reduceGT, Nat.reduceEqDiff, Nat.reduceAdd, and_true, true_and, and_self, not_true_eq_false, not_false_eq_true, ne_eq, and_false, false_and, or_false, or_true, false_or, true_or, vx_some, eq_self, ↓reduceIte, ite_t1, ite_t2, ite_t3, le_T, le_F, lt_T, lt_F, ge_T, ge_F, gt_T, gt_F, eq_T, eq_F, w32_i, kd_1, kd_2, kd_3, kd_4, kd_5, kd_6, kd_7, kd_14, kd_15, kd_16, kd_29, kd_34, kd_56, kd_74, kd_75, kd_76, kd_77, kd_78, kd_79, kd_80, kd_81, kd_82, kd_83, kd_84, kd_85, kd_86, kd_87, kd_88, kd_89, kd_90, kd_91, kd_92, kd_93, kd_94, kd_95, kd_96, kd_97, kd_98, kd_99, kd_100, kd_101, kd_102, kd_103, kd_104, kd_105, kd_106, kd_107, kd_108]; exact rfl)); simp only [vx_some])
      all_goals simp (disch := omega) only [h1, u0, u1, u2, w32_i]
      all_goals rw [show f + c + ab = f + (c + ab) by omega]
      all_goals rfl
    · rw [a3 o q h, stm_o (by omega), stm_o (by omega), stm_o (by omega)]
theorem c_lay {T f w g : Int} {L : Nat} (T0 : 0 < T) (kT : kd T = (10, 12)) (k1 : kd (T + 1) = (20, 6)) (k2 : kd (T + 2) = (20, 5)) (k3 : kd (T + 3) = (20, 5)) (w0 : 1 ≤ w) (w1 : w ≤ 16) (g0 : 1 ≤ g) (g1 : g ≤ 16) (f0 : 0 ≤ f) (f1 : f ≤ 1000) (hL : L ≤ 5) (h0 : m T 0 = T + 1) (h1 : m T 1 = T + 2) (h2 : m T 2 = T + 3) (h7 : m T 7 = w) (h8 : m T 8 = g) : ∃ m', vm 83 [(2, T), (0, f), (0, (L : Int))] (n, m) = some (none, (n, m')) ∧ LAY m' T f w g L ∧ m' T 9 = L ∧ ∀ o q : Int, ¬ (o = T + 1 ∨ o = T + 2 ∨ o = T + 3 ∨ (o = T ∧ q = 9)) → m' o q = m o q := by
  have pm : vm 314 [(0, (L : Int)), (0, 5)] (n, m) = some (some (0, (L : Int)), (n, m)) := by rw [p_min, Int.min_eq_left (by omega)]
  have fr : ∀ q : Int, q ≠ 9 → stm (stm m T 9 L) (T + 1) 0 f T q = m T q := fun q h => by rw [stm_o (by omega), stm_k h]
  have B : LAY (stm (stm m T 9 L) (T + 1) 0 f) T f w g 0 := by
    refine ⟨fun i hi => ?_, fun i hi => by omega⟩
    rw [show i = 0 by omega, show f + plc w g 0 = f from Int.add_zero f]
    exact stm_same _ _ _ _
  obtain ⟨m', a1, a2, a3⟩ := c_lay18 (n := n) T0 kT k1 k2 k3 w0 w1 g0 g1 f0 f1 hL L 0 (stm (stm m T 9 L) (T + 1) 0 f) (0, f) (0, (L : Int)) (by omega) ((fr 0 (by omega)).trans h0) ((fr 1 (by omega)).trans h1) ((fr 2 (by omega)).trans h2) ((fr 7 (by omega)).trans h7) ((fr 8 (by omega)).trans h8) (by rw [stm_o (by omega), stm_same]) B
  refine ⟨m', ?_, a2, by rw [a3 T 9 (by omega), stm_o (by omega), stm_same], fun o q h => by rw [a3 o q (by omega), stm_o (by omega), stm_ap, if_neg (by omega)]⟩
  have u0 : ∀ a : Int, stm m T 9 a T 0 = T + 1 := fun a => by rw [stm_k (by omega)]; exact h0
  rw [e_X10_layLevels]
  repeat first
    | (refine Eq.trans (if_pos ?_) ?_; · first | omega | (simp (disch := omega) only [pm, kT, u0, k1, Int.reduceLT, Int.reduceLE, Int.reduceEq, Int.reduceNe, Int.reduceNeg, Int.reduceAdd, Int.reduceSub, Int.reduceMul, Int.reduceGE, Int.reduceGT, Nat.reduceEqDiff, Nat.reduceAdd, and_true, true_and, and_self, not_true_eq_false, not_false_eq_true, ne_eq, and_false, false_and, or_false, or_true, false_or, true_or, vx_some, eq_self, ↓reduceIte, ite_t1, ite_t2, ite_t3, le_T, le_F, lt_T, lt_F, ge_T, ge_F, gt_T, gt_F, eq_T, eq_F, w32_i, kd_1, kd_2, kd_3, kd_4, kd_5, kd_6, kd_7, kd_14, kd_15, kd_16, kd_29, kd_34, kd_56, kd_74, kd_75, kd_76, kd_77, kd_78, kd_79, kd_80, kd_81, kd_82, kd_83, kd_84, kd_85, kd_86, kd_87, kd_88, kd_89, kd_90, kd_91, kd_92, kd_93, kd_94, kd_95, kd_96, kd_97, kd_98, kd_99, kd_100, kd_101, kd_102, kd_103, kd_104, kd_105, kd_106, kd_107, kd_108]; done))
    | (refine Eq.trans (if_neg ?_) ?_; · first | omega | (simp (disch := omega) only [pm, kT, u0, k1, Int.reduceLT, Int.reduceLE, Int.reduceEq, Int.reduceNe, Int.reduceNeg, Int.reduceAdd, Int.reduceSub, Int.reduceMul, Int.reduceGE, Int.reduceGT, Nat.reduceEqDiff, Nat.reduceAdd, and_true, true_and, and_self, not_true_eq_false, not_false_eq_true, ne_eq, and_false, false_and, or_false, or_true, false_or, true_or, vx_some, eq_self, ↓reduceIte, ite_t1, ite_t2, ite_t3, le_T, le_F, lt_T, lt_F, ge_T, ge_F, gt_T, gt_F, eq_T, eq_F, w32_i, kd_1, kd_2, kd_3, kd_4, kd_5, kd_6, kd_7, kd_14, kd_15, kd_16, kd_29, kd_34, kd_56, kd_74, kd_75, kd_76, kd_77, kd_78, kd_79, kd_80, kd_81, kd_82, kd_83, kd_84, kd_85, kd_86, kd_87, kd_88, kd_89, kd_90, kd_91, kd_92, kd_93, kd_94, kd_95, kd_96, kd_97, kd_98, kd_99, kd_100, kd_101, kd_102, kd_103, kd_104, kd_105, kd_106, kd_107, kd_108]; done))
    | (refine Eq.trans (bnd (r := ?_) ?_) ?_; rotate_left 1; (focus (simp (disch := omega) only [pm, kT, u0, k1, Int.reduceLT, Int.reduceLE, Int.reduceEq, Int.reduceNe, Int.reduceNeg, Int.reduceAdd, Int.reduceSub, Int.reduceMul, Int.reduceGE, Int.reduceGT, Nat.reduceEqDiff, Nat.reduceAdd, and_true, true_and, and_self, not_true_eq_false, not_false_eq_true, ne_eq, and_false, false_and, or_false, or_true, false_or, true_or, vx_some, eq_self, ↓reduceIte, ite_t1, ite_t2, ite_t3, le_T, le_F, lt_T, lt_F, ge_T, ge_F, gt_T, gt_F, eq_T, eq_F, w32_i, kd_1, kd_2, kd_3, kd_4, kd_5, kd_6, kd_7, kd_14, kd_15, kd_16, kd_29, kd_34, kd_56, kd_74, kd_75, kd_76, kd_77, kd_78, kd_79, kd_80, kd_81, kd_82, kd_83, kd_84, kd_85, kd_86, kd_87, kd_88, kd_89, kd_90, kd_91, kd_92, kd_93, kd_94, kd_95, kd_96, kd_97, kd_98, kd_99, kd_100, kd_101, kd_102, kd_103, kd_104, kd_105, kd_106, kd_107, kd_108]; exact rfl)); simp only [vx_some])
  all_goals simp only [u0]
  all_goals exact a1
/-- behind a fault -/
theorem d_tx291 (b : 1 ≤ M 88 8) (x1 x2 x6 x7 x8 x9 x10 x11 x12 : Int) (z4 z5 z13 : Vl) : vp 200 291 [(2, 88), (0, x1), (1, x2), (9, 0), z4, z5, (0, x6), (0, x7), (0, x8), (0, x9), (0, x10), (0, x11), (0, x12), z13] [] (n, M) = some (none, (n, M)) := by
  rw [e_X12_textureLine_291]
  rw [if_pos (show 0 < (88 : Int) ∧ (kd 88).1 = 12 from ⟨by decide, rfl⟩), if_neg (show ¬ ((n, M).2 88 8 ≤ 0) by show ¬ M 88 8 ≤ 0; omega)]
theorem d_tx263 (b : 1 ≤ M 88 8) (x1 x2 x6 x7 x8 x9 x10 x11 : Int) (z4 z5 z12 z13 : Vl) : vp 200 263 [(2, 88), (0, x1), (1, x2), (9, 0), z4, z5, (0, x6), (0, x7), (0, x8), (0, x9), (0, x10), (0, x11), z12, z13] [] (n, M) = some (none, (n, M)) := by
  rw [e_X12_textureLine_263]
  repeat first
    | (refine Eq.trans (if_pos ?_) ?_; · first | omega | (simp (disch := omega) only [d_wrapHere b, d_wrong b 2, d_isGood b, Int.reduceLT, Int.reduceLE, Int.reduceEq, Int.reduceNe, Int.reduceNeg, Int.reduceAdd, Int.reduceSub, Int.reduceMul, Int.reduceGE, Int.reduceGT, Nat.reduceEqDiff, Nat.reduceAdd, and_true, true_and, and_self, not_true_eq_false, not_false_eq_true, ne_eq, and_false, false_and, or_false, or_true, false_or, true_or, vx_some, eq_self, ↓reduceIte, ite_t1, ite_t2, ite_t3, le_T, le_F, lt_T, lt_F, ge_T, ge_F, gt_T, gt_F, eq_T, eq_F, w32_i, kd_1, kd_2, kd_3, kd_4, kd_5, kd_6, kd_7, kd_14, kd_15, kd_16, kd_29, kd_34, kd_56, kd_74, kd_75, kd_76, kd_77, kd_78, kd_79, kd_80, kd_81, kd_82, kd_83, kd_84, kd_85, kd_86, kd_87, kd_88, kd_89, kd_90, kd_91, kd_92, kd_93, kd_94, kd_95, kd_96, kd_97, kd_98, kd_99, kd_100, kd_101, kd_102, kd_103, kd_104, kd_105, kd_106, kd_107, kd_108]; done))
    | (refine Eq.trans (if_neg ?_) ?_; · first | omega | (simp (disch := omega) only [d_wrapHere b, d_wrong b 2, d_isGood b, Int.reduceLT, Int.reduceLE, Int.reduceEq, Int.reduceNe, Int.reduceNeg, Int.reduceAdd, Int.reduceSub, Int.reduceMul, Int.reduceGE, Int.reduceGT, Nat.reduceEqDiff, Nat.reduceAdd, and_true, true_and, and_self, not_true_eq_false, not_false_eq_true, ne_eq, and_false, false_and, or_false, or_true, false_or, true_or, vx_some, eq_self, ↓reduceIte, ite_t1, ite_t2, ite_t3, le_T, le_F, lt_T, lt_F, ge_T, ge_F, gt_T, gt_F, eq_T, eq_F, w32_i, kd_1, kd_2, kd_3, kd_4, kd_5, kd_6, kd_7, kd_14, kd_15, kd_16, kd_29, kd_34, kd_56, kd_74, kd_75, kd_76, kd_77, kd_78, kd_79, kd_80, kd_81, kd_82, kd_83, kd_84, kd_85, kd_86, kd_87, kd_88, kd_89, kd_90, kd_91, kd_92, kd_93, kd_94, kd_95, kd_96, kd_97, kd_98, kd_99, kd_100, kd_101, kd_102, kd_103, kd_104, kd_105, kd_106, kd_107, kd_108]; done))
    | (refine Eq.trans (bnd (r := ?_) ?_) ?_; rotate_left 1; (focus (simp (disch := omega) only [d_wrapHere b, d_wrong b 2, d_isGood b, Int.reduceLT, Int.reduceLE, Int.reduceEq, Int.reduceNe, Int.reduceNeg, Int.reduceAdd, Int.reduceSub, Int.reduceMul, Int.reduceGE, Int.reduceGT, Nat.reduceEqDiff, Nat.reduceAdd, and_true, true_and, and_self, not_true_eq_false, not_false_eq_true, ne_eq, and_false, false_and, or_false, or_true, false_or, true_or, vx_some, eq_self, ↓reduceIte, ite_t1, ite_t2, ite_t3, le_T, le_F, lt_T, lt_F, ge_T, ge_F, gt_T, gt_F, eq_T, eq_F, w32_i, kd_1, kd_2, kd_3, kd_4, kd_5, kd_6, kd_7, kd_14, kd_15, kd_16, kd_29, kd_34, kd_56, kd_74, kd_75, kd_76, kd_77, kd_78, kd_79, kd_80, kd_81, kd_82, kd_83, kd_84, kd_85, kd_86, kd_87, kd_88, kd_89, kd_90, kd_91, kd_92, kd_93, kd_94, kd_95, kd_96, kd_97, kd_98, kd_99, kd_100, kd_101, kd_102, kd_103, kd_104, kd_105, kd_106, kd_107, kd_108]; exact rfl)); simp only [vx_some])
  all_goals exact d_tx291 b _ _ _ _ _ _ _ _ _ _ _ _
theorem d_tx252 (b : 1 ≤ M 88 8) (x1 x2 x6 x7 x8 x9 x10 x11 : Int) (z4 z5 z12 z13 : Vl) : vp 200 252 [(2, 88), (0, x1), (1, x2), (9, 0), z4, z5, (0, x6), (0, x7), (0, x8), (0, x9), (0, x10), (0, x11), z12, z13] [] (n, M) = some (none, (n, M)) := by
  rw [e_X12_textureLine_252]
  repeat first
    | (refine Eq.trans (if_pos ?_) ?_; · first | omega | (simp (disch := omega) only [d_isGood b, Int.reduceLT, Int.reduceLE, Int.reduceEq, Int.reduceNe, Int.reduceNeg, Int.reduceAdd, Int.reduceSub, Int.reduceMul, Int.reduceGE, Int.reduceGT, Nat.reduceEqDiff, Nat.reduceAdd, and_true, true_and, and_self, not_true_eq_false, not_false_eq_true, ne_eq, and_false, false_and, or_false, or_true, false_or, true_or, vx_some, eq_self, ↓reduceIte, ite_t1, ite_t2, ite_t3, le_T, le_F, lt_T, lt_F, ge_T, ge_F, gt_T, gt_F, eq_T, eq_F, w32_i, kd_1, kd_2, kd_3, kd_4, kd_5, kd_6, kd_7, kd_14, kd_15, kd_16, kd_29, kd_34, kd_56, kd_74, kd_75, kd_76, kd_77, kd_78, kd_79, kd_80, kd_81, kd_82, kd_83, kd_84, kd_85, kd_86, kd_87, kd_88, kd_89, kd_90, kd_91, kd_92, kd_93, kd_94, kd_95, kd_96, kd_97, kd_98, kd_99, kd_100, kd_101, kd_102, kd_103, kd_104, kd_105, kd_106, kd_107, kd_108]; done))
    | (refine Eq.trans (if_neg ?_) ?_; · first | omega | (simp (disch := omega) only [d_isGood b, Int.reduceLT, Int.reduceLE, Int.reduceEq, Int.reduceNe, Int.reduceNeg, Int.reduceAdd, Int.reduceSub, Int.reduceMul, Int.reduceGE, Int.reduceGT, Nat.reduceEqDiff, Nat.reduceAdd, and_true, true_and, and_self, not_true_eq_false, not_false_eq_true, ne_eq, and_false, false_and, or_false, or_true, false_or, true_or, vx_some, eq_self, ↓reduceIte, ite_t1, ite_t2, ite_t3, le_T, le_F, lt_T, lt_F, ge_T, ge_F, gt_T, gt_F, eq_T, eq_F, w32_i, kd_1, kd_2, kd_3, kd_4, kd_5, kd_6, kd_7, kd_14, kd_15, kd_16, kd_29, kd_34, kd_56, kd_74, kd_75, kd_76, kd_77, kd_78, kd_79, kd_80, kd_81, kd_82, kd_83, kd_84, kd_85, kd_86, kd_87, kd_88, kd_89, kd_90, kd_91, kd_92, kd_93, kd_94, kd_95, kd_96, kd_97, kd_98, kd_99, kd_100, kd_101, kd_102, kd_103, kd_104, kd_105, kd_106, kd_107, kd_108]; done))
    | (refine Eq.trans (bnd (r := ?_) ?_) ?_; rotate_left 1; (focus (simp (disch := omega) only [d_isGood b, Int.reduceLT, Int.reduceLE, Int.reduceEq, Int.reduceNe, Int.reduceNeg, Int.reduceAdd, Int.reduceSub, Int.reduceMul, Int.reduceGE, Int.reduceGT, Nat.reduceEqDiff, Nat.reduceAdd, and_true, true_and, and_self, not_true_eq_false, not_false_eq_true, ne_eq, and_false, false_and, or_false, or_true, false_or, true_or, vx_some, eq_self, ↓reduceIte, ite_t1, ite_t2, ite_t3, le_T, le_F, lt_T, lt_F, ge_T, ge_F, gt_T, gt_F, eq_T, eq_F, w32_i, kd_1, kd_2, kd_3, kd_4, kd_5, kd_6, kd_7, kd_14, kd_15, kd_16, kd_29, kd_34, kd_56, kd_74, kd_75, kd_76, kd_77, kd_78, kd_79, kd_80, kd_81, kd_82, kd_83, kd_84, kd_85, kd_86, kd_87, kd_88, kd_89, kd_90, kd_91, kd_92, kd_93, kd_94, kd_95, kd_96, kd_97, kd_98, kd_99, kd_100, kd_101, kd_102, kd_103, kd_104, kd_105, kd_106, kd_107, kd_108]; exact rfl)); simp only [vx_some])
  all_goals exact d_tx263 b _ _ _ _ _ _ _ _ _ _ _ _
theorem d_tx235 (b : 1 ≤ M 88 8) (x1 x2 x6 x7 x8 x9 x10 : Int) (z4 z5 z11 z12 z13 : Vl) : vp 200 235 [(2, 88), (0, x1), (1, x2), (9, 0), z4, z5, (0, x6), (0, x7), (0, x8), (0, x9), (0, x10), z11, z12, z13] [] (n, M) = some (none, (n, M)) := by
  rw [e_X12_textureLine_235]
  repeat first
    | (refine Eq.trans (if_pos ?_) ?_; · first | omega | (simp (disch := omega) only [d_orderHere b, d_wrong b 2, Int.reduceLT, Int.reduceLE, Int.reduceEq, Int.reduceNe, Int.reduceNeg, Int.reduceAdd, Int.reduceSub, Int.reduceMul, Int.reduceGE, Int.reduceGT, Nat.reduceEqDiff, Nat.reduceAdd, and_true, true_and, and_self, not_true_eq_false, not_false_eq_true, ne_eq, and_false, false_and, or_false, or_true, false_or, true_or, vx_some, eq_self, ↓reduceIte, ite_t1, ite_t2, ite_t3, le_T, le_F, lt_T, lt_F, ge_T, ge_F, gt_T, gt_F, eq_T, eq_F, w32_i, kd_1, kd_2, kd_3, kd_4, kd_5, kd_6, kd_7, kd_14, kd_15, kd_16, kd_29, kd_34, kd_56, kd_74, kd_75, kd_76, kd_77, kd_78, kd_79, kd_80, kd_81, kd_82, kd_83, kd_84, kd_85, kd_86, kd_87, kd_88, kd_89, kd_90, kd_91, kd_92, kd_93, kd_94, kd_95, kd_96, kd_97, kd_98, kd_99, kd_100, kd_101, kd_102, kd_103, kd_104, kd_105, kd_106, kd_107, kd_108]; done))
    | (refine Eq.trans (if_neg ?_) ?_; · first | omega | (simp (disch := omega) only [d_orderHere b, d_wrong b 2, Int.reduceLT, Int.reduceLE, Int.reduceEq, Int.reduceNe, Int.reduceNeg, Int.reduceAdd, Int.reduceSub, Int.reduceMul, Int.reduceGE, Int.reduceGT, Nat.reduceEqDiff, Nat.reduceAdd, and_true, true_and, and_self, not_true_eq_false, not_false_eq_true, ne_eq, and_false, false_and, or_false, or_true, false_or, true_or, vx_some, eq_self, ↓reduceIte, ite_t1, ite_t2, ite_t3, le_T, le_F, lt_T, lt_F, ge_T, ge_F, gt_T, gt_F, eq_T, eq_F, w32_i, kd_1, kd_2, kd_3, kd_4, kd_5, kd_6, kd_7, kd_14, kd_15, kd_16, kd_29, kd_34, kd_56, kd_74, kd_75, kd_76, kd_77, kd_78, kd_79, kd_80, kd_81, kd_82, kd_83, kd_84, kd_85, kd_86, kd_87, kd_88, kd_89, kd_90, kd_91, kd_92, kd_93, kd_94, kd_95, kd_96, kd_97, kd_98, kd_99, kd_100, kd_101, kd_102, kd_103, kd_104, kd_105, kd_106, kd_107, kd_108]; done))
    | (refine Eq.trans (bnd (r := ?_) ?_) ?_; rotate_left 1; (focus (simp (disch := omega) only [d_orderHere b, d_wrong b 2, Int.reduceLT, Int.reduceLE, Int.reduceEq, Int.reduceNe, Int.reduceNeg, Int.reduceAdd, Int.reduceSub, Int.reduceMul, Int.reduceGE, Int.reduceGT, Nat.reduceEqDiff, Nat.reduceAdd, and_true, true_and, and_self, not_true_eq_false, not_false_eq_true, ne_eq, and_false, false_and, or_false, or_true, false_or, true_or, vx_some, eq_self, ↓reduceIte, ite_t1, ite_t2, ite_t3, le_T, le_F, lt_T, lt_F, ge_T, ge_F, gt_T, gt_F, eq_T, eq_F, w32_i, kd_1, kd_2, kd_3, kd_4, kd_5, kd_6, kd_7, kd_14, kd_15, kd_16, kd_29, kd_34, kd_56, kd_74, kd_75, kd_76, kd_77, kd_78, kd_79, kd_80, kd_81, kd_82, kd_83, kd_84, kd_85, kd_86, kd_87, kd_88, kd_89, kd_90, kd_91, kd_92, kd_93, kd_94, kd_95, kd_96, kd_97, kd_98, kd_99, kd_100, kd_101, kd_102, kd_103, kd_104, kd_105, kd_106, kd_107, kd_108]; exact rfl)); simp only [vx_some])
  all_goals exact d_tx252 b _ _ _ _ _ _ _ _ _ _ _ _
theorem d_tx224 (b : 1 ≤ M 88 8) (x1 x2 x6 x7 x8 x9 x10 : Int) (z4 z5 z11 z12 z13 : Vl) : vp 200 224 [(2, 88), (0, x1), (1, x2), (9, 0), z4, z5, (0, x6), (0, x7), (0, x8), (0, x9), (0, x10), z11, z12, z13] [] (n, M) = some (none, (n, M)) := by
  rw [e_X12_textureLine_224]
  repeat first
    | (refine Eq.trans (if_pos ?_) ?_; · first | omega | (simp (disch := omega) only [d_isGood b, Int.reduceLT, Int.reduceLE, Int.reduceEq, Int.reduceNe, Int.reduceNeg, Int.reduceAdd, Int.reduceSub, Int.reduceMul, Int.reduceGE, Int.reduceGT, Nat.reduceEqDiff, Nat.reduceAdd, and_true, true_and, and_self, not_true_eq_false, not_false_eq_true, ne_eq, and_false, false_and, or_false, or_true, false_or, true_or, vx_some, eq_self, ↓reduceIte, ite_t1, ite_t2, ite_t3, le_T, le_F, lt_T, lt_F, ge_T, ge_F, gt_T, gt_F, eq_T, eq_F, w32_i, kd_1, kd_2, kd_3, kd_4, kd_5, kd_6, kd_7, kd_14, kd_15, kd_16, kd_29, kd_34, kd_56, kd_74, kd_75, kd_76, kd_77, kd_78, kd_79, kd_80, kd_81, kd_82, kd_83, kd_84, kd_85, kd_86, kd_87, kd_88, kd_89, kd_90, kd_91, kd_92, kd_93, kd_94, kd_95, kd_96, kd_97, kd_98, kd_99, kd_100, kd_101, kd_102, kd_103, kd_104, kd_105, kd_106, kd_107, kd_108]; done))
    | (refine Eq.trans (if_neg ?_) ?_; · first | omega | (simp (disch := omega) only [d_isGood b, Int.reduceLT, Int.reduceLE, Int.reduceEq, Int.reduceNe, Int.reduceNeg, Int.reduceAdd, Int.reduceSub, Int.reduceMul, Int.reduceGE, Int.reduceGT, Nat.reduceEqDiff, Nat.reduceAdd, and_true, true_and, and_self, not_true_eq_false, not_false_eq_true, ne_eq, and_false, false_and, or_false, or_true, false_or, true_or, vx_some, eq_self, ↓reduceIte, ite_t1, ite_t2, ite_t3, le_T, le_F, lt_T, lt_F, ge_T, ge_F, gt_T, gt_F, eq_T, eq_F, w32_i, kd_1, kd_2, kd_3, kd_4, kd_5, kd_6, kd_7, kd_14, kd_15, kd_16, kd_29, kd_34, kd_56, kd_74, kd_75, kd_76, kd_77, kd_78, kd_79, kd_80, kd_81, kd_82, kd_83, kd_84, kd_85, kd_86, kd_87, kd_88, kd_89, kd_90, kd_91, kd_92, kd_93, kd_94, kd_95, kd_96, kd_97, kd_98, kd_99, kd_100, kd_101, kd_102, kd_103, kd_104, kd_105, kd_106, kd_107, kd_108]; done))
    | (refine Eq.trans (bnd (r := ?_) ?_) ?_; rotate_left 1; (focus (simp (disch := omega) only [d_isGood b, Int.reduceLT, Int.reduceLE, Int.reduceEq, Int.reduceNe, Int.reduceNeg, Int.reduceAdd, Int.reduceSub, Int.reduceMul, Int.reduceGE, Int.reduceGT, Nat.reduceEqDiff, Nat.reduceAdd, and_true, true_and, and_self, not_true_eq_false, not_false_eq_true, ne_eq, and_false, false_and, or_false, or_true, false_or, true_or, vx_some, eq_self, ↓reduceIte, ite_t1, ite_t2, ite_t3, le_T, le_F, lt_T, lt_F, ge_T, ge_F, gt_T, gt_F, eq_T, eq_F, w32_i, kd_1, kd_2, kd_3, kd_4, kd_5, kd_6, kd_7, kd_14, kd_15, kd_16, kd_29, kd_34, kd_56, kd_74, kd_75, kd_76, kd_77, kd_78, kd_79, kd_80, kd_81, kd_82, kd_83, kd_84, kd_85, kd_86, kd_87, kd_88, kd_89, kd_90, kd_91, kd_92, kd_93, kd_94, kd_95, kd_96, kd_97, kd_98, kd_99, kd_100, kd_101, kd_102, kd_103, kd_104, kd_105, kd_106, kd_107, kd_108]; exact rfl)); simp only [vx_some])
  all_goals exact d_tx235 b _ _ _ _ _ _ _ _ _ _ _ _
theorem d_tx103 (b : 1 ≤ M 88 8) (x1 x2 x6 : Int) (z4 z5 z7 z8 z9 z10 z11 z12 z13 : Vl) : vp 200 103 [(2, 88), (0, x1), (1, x2), (9, 0), z4, z5, (0, x6), z7, z8, z9, z10, z11, z12, z13] [] (n, M) = some (none, (n, M)) := by
  obtain ⟨v, hv⟩ := d_halv (max 0 0) (n, M)
  rw [e_X12_textureLine_103]
  repeat first
    | (refine Eq.trans (if_pos ?_) ?_; · first | omega | (simp (disch := omega) only [d_isGood b, d_needs b, d_number b, d_power b, p_greater, hv, d_numberHere b, Int.reduceLT, Int.reduceLE, Int.reduceEq, Int.reduceNe, Int.reduceNeg, Int.reduceAdd, Int.reduceSub, Int.reduceMul, Int.reduceGE, Int.reduceGT, Nat.reduceEqDiff, Nat.reduceAdd, and_true, true_and, and_self, not_true_eq_false, not_false_eq_true, ne_eq, and_false, false_and, or_false, or_true, false_or, true_or, vx_some, eq_self, ↓reduceIte, ite_t1, ite_t2, ite_t3, le_T, le_F, lt_T, lt_F, ge_T, ge_F, gt_T, gt_F, eq_T, eq_F, w32_i, kd_1, kd_2, kd_3, kd_4, kd_5, kd_6, kd_7, kd_14, kd_15, kd_16, kd_29, kd_34, kd_56, kd_74, kd_75, kd_76, kd_77, kd_78, kd_79, kd_80, kd_81, kd_82, kd_83, kd_84, kd_85, kd_86, kd_87, kd_88, kd_89, kd_90, kd_91, kd_92, kd_93, kd_94, kd_95, kd_96, kd_97, kd_98, kd_99, kd_100, kd_101, kd_102, kd_103, kd_104, kd_105, kd_106, kd_107, kd_108]; done))
    | (refine Eq.trans (if_neg ?_) ?_; · first | omega | (simp (disch := omega) only [d_isGood b, d_needs b, d_number b, d_power b, p_greater, hv, d_numberHere b, Int.reduceLT, Int.reduceLE, Int.reduceEq, Int.reduceNe, Int.reduceNeg, Int.reduceAdd, Int.reduceSub, Int.reduceMul, Int.reduceGE, Int.reduceGT, Nat.reduceEqDiff, Nat.reduceAdd, and_true, true_and, and_self, not_true_eq_false, not_false_eq_true, ne_eq, and_false, false_and, or_false, or_true, false_or, true_or, vx_some, eq_self, ↓reduceIte, ite_t1, ite_t2, ite_t3, le_T, le_F, lt_T, lt_F, ge_T, ge_F, gt_T, gt_F, eq_T, eq_F, w32_i, kd_1, kd_2, kd_3, kd_4, kd_5, kd_6, kd_7, kd_14, kd_15, kd_16, kd_29, kd_34, kd_56, kd_74, kd_75, kd_76, kd_77, kd_78, kd_79, kd_80, kd_81, kd_82, kd_83, kd_84, kd_85, kd_86, kd_87, kd_88, kd_89, kd_90, kd_91, kd_92, kd_93, kd_94, kd_95, kd_96, kd_97, kd_98, kd_99, kd_100, kd_101, kd_102, kd_103, kd_104, kd_105, kd_106, kd_107, kd_108]; done))
    | (refine Eq.trans (bnd (r := ?_) ?_) ?_; rotate_left 1; (focus (simp (disch := omega) only [d_isGood b, d_needs b, d_number b, d_power b, p_greater, hv, d_numberHere b, Int.reduceLT, Int.reduceLE, Int.reduceEq, Int.reduceNe, Int.reduceNeg, Int.reduceAdd, Int.reduceSub, Int.reduceMul, Int.reduceGE, Int.reduceGT, Nat.reduceEqDiff, Nat.reduceAdd, and_true, true_and, and_self, not_true_eq_false, not_false_eq_true, ne_eq, and_false, false_and, or_false, or_true, false_or, true_or, vx_some, eq_self, ↓reduceIte, ite_t1, ite_t2, ite_t3, le_T, le_F, lt_T, lt_F, ge_T, ge_F, gt_T, gt_F, eq_T, eq_F, w32_i, kd_1, kd_2, kd_3, kd_4, kd_5, kd_6, kd_7, kd_14, kd_15, kd_16, kd_29, kd_34, kd_56, kd_74, kd_75, kd_76, kd_77, kd_78, kd_79, kd_80, kd_81, kd_82, kd_83, kd_84, kd_85, kd_86, kd_87, kd_88, kd_89, kd_90, kd_91, kd_92, kd_93, kd_94, kd_95, kd_96, kd_97, kd_98, kd_99, kd_100, kd_101, kd_102, kd_103, kd_104, kd_105, kd_106, kd_107, kd_108]; exact rfl)); simp only [vx_some])
  all_goals exact d_tx224 b _ _ _ _ _ _ _ _ _ _ _ _
theorem d_tx29 (b : 1 ≤ M 88 8) (x1 : Int) (z2 z3 z4 z5 z6 z7 z8 z9 z10 z11 z12 z13 : Vl) : vp 200 29 [(2, 88), (0, x1), z2, z3, z4, z5, z6, z7, z8, z9, z10, z11, z12, z13] [] (n, M) = some (none, (n, M)) := by
  rw [e_X12_textureLine_29]
  repeat first
    | (refine Eq.trans (if_pos ?_) ?_; · first | omega | (simp (disch := omega) only [d_newName b, d_needs b, d_nameHere b, d_isGood b, Int.reduceLT, Int.reduceLE, Int.reduceEq, Int.reduceNe, Int.reduceNeg, Int.reduceAdd, Int.reduceSub, Int.reduceMul, Int.reduceGE, Int.reduceGT, Nat.reduceEqDiff, Nat.reduceAdd, and_true, true_and, and_self, not_true_eq_false, not_false_eq_true, ne_eq, and_false, false_and, or_false, or_true, false_or, true_or, vx_some, eq_self, ↓reduceIte, ite_t1, ite_t2, ite_t3, le_T, le_F, lt_T, lt_F, ge_T, ge_F, gt_T, gt_F, eq_T, eq_F, w32_i, kd_1, kd_2, kd_3, kd_4, kd_5, kd_6, kd_7, kd_14, kd_15, kd_16, kd_29, kd_34, kd_56, kd_74, kd_75, kd_76, kd_77, kd_78, kd_79, kd_80, kd_81, kd_82, kd_83, kd_84, kd_85, kd_86, kd_87, kd_88, kd_89, kd_90, kd_91, kd_92, kd_93, kd_94, kd_95, kd_96, kd_97, kd_98, kd_99, kd_100, kd_101, kd_102, kd_103, kd_104, kd_105, kd_106, kd_107, kd_108]; done))
    | (refine Eq.trans (if_neg ?_) ?_; · first | omega | (simp (disch := omega) only [d_newName b, d_needs b, d_nameHere b, d_isGood b, Int.reduceLT, Int.reduceLE, Int.reduceEq, Int.reduceNe, Int.reduceNeg, Int.reduceAdd, Int.reduceSub, Int.reduceMul, Int.reduceGE, Int.reduceGT, Nat.reduceEqDiff, Nat.reduceAdd, and_true, true_and, and_self, not_true_eq_false, not_false_eq_true, ne_eq, and_false, false_and, or_false, or_true, false_or, true_or, vx_some, eq_self, ↓reduceIte, ite_t1, ite_t2, ite_t3, le_T, le_F, lt_T, lt_F, ge_T, ge_F, gt_T, gt_F, eq_T, eq_F, w32_i, kd_1, kd_2, kd_3, kd_4, kd_5, kd_6, kd_7, kd_14, kd_15, kd_16, kd_29, kd_34, kd_56, kd_74, kd_75, kd_76, kd_77, kd_78, kd_79, kd_80, kd_81, kd_82, kd_83, kd_84, kd_85, kd_86, kd_87, kd_88, kd_89, kd_90, kd_91, kd_92, kd_93, kd_94, kd_95, kd_96, kd_97, kd_98, kd_99, kd_100, kd_101, kd_102, kd_103, kd_104, kd_105, kd_106, kd_107, kd_108]; done))
    | (refine Eq.trans (bnd (r := ?_) ?_) ?_; rotate_left 1; (focus (simp (disch := omega) only [d_newName b, d_needs b, d_nameHere b, d_isGood b, Int.reduceLT, Int.reduceLE, Int.reduceEq, Int.reduceNe, Int.reduceNeg, Int.reduceAdd, Int.reduceSub, Int.reduceMul, Int.reduceGE, Int.reduceGT, Nat.reduceEqDiff, Nat.reduceAdd, and_true, true_and, and_self, not_true_eq_false, not_false_eq_true, ne_eq, and_false, false_and, or_false, or_true, false_or, true_or, vx_some, eq_self, ↓reduceIte, ite_t1, ite_t2, ite_t3, le_T, le_F, lt_T, lt_F, ge_T, ge_F, gt_T, gt_F, eq_T, eq_F, w32_i, kd_1, kd_2, kd_3, kd_4, kd_5, kd_6, kd_7, kd_14, kd_15, kd_16, kd_29, kd_34, kd_56, kd_74, kd_75, kd_76, kd_77, kd_78, kd_79, kd_80, kd_81, kd_82, kd_83, kd_84, kd_85, kd_86, kd_87, kd_88, kd_89, kd_90, kd_91, kd_92, kd_93, kd_94, kd_95, kd_96, kd_97, kd_98, kd_99, kd_100, kd_101, kd_102, kd_103, kd_104, kd_105, kd_106, kd_107, kd_108]; exact rfl)); simp only [vx_some])
  all_goals exact d_tx103 b _ _ _ _ _ _ _ _ _ _ _ _
end
