/-! THE PURE PART: the cache: a set -/
theorem stm_id {m : Mm} {a i v : Int} (e : m a i = v) : stm m a i v = m := by
  funext o k
  rw [stm_ap]
  by_cases z : o = a ∧ k = i
  · rw [if_pos z, z.1, z.2, e]
  · rw [if_neg z]
/-- where a line is held: the way, or -1 -/
def fh (L : Int → Int) (x : Int) : Nat → Int → Int
  | 0, _ => -1
  | k + 1, j => if L j = x then j else fh L x k (j + 1)
/-- which way goes next -/
def gv (L T : Int → Int) : Nat → Int → Int → Int
  | 0, _, b => b
  | k + 1, j, b => if L j = -1 then j else if T j ≥ T b then gv L T k (j + 1) b else gv L T k (j + 1) j
def gm (L T : Int → Int) : Nat → Int → Int → Int
  | 0, _, b => b
  | k + 1, j, b => if L b = -1 then gm L T k (j + 1) b else if L j = -1 then gm L T k (j + 1) j else if T j ≥ T b then gm L T k (j + 1) b else gm L T k (j + 1) j
def wy (L T : Int → Int) (x : Int) (W : Nat) : Int := if fh L x W 0 = -1 then gv L T W 0 0 else fh L x W 0
theorem fh_spec (L : Int → Int) (x : Int) : ∀ (k : Nat) (j : Int), 0 ≤ j → (fh L x k j = -1 ∧ ∀ q : Int, j ≤ q → q < j + k → L q ≠ x) ∨ (j ≤ fh L x k j ∧ fh L x k j < j + k ∧ L (fh L x k j) = x)
  | 0, j, _ => Or.inl ⟨rfl, fun q h1 h2 => by omega⟩
  | k + 1, j, j0 => by
    unfold fh
    by_cases z : L j = x
    · rw [if_pos z]
      exact Or.inr ⟨by omega, by omega, z⟩
    · rw [if_neg z]
      rcases fh_spec L x k (j + 1) (by omega) with a | a
      · refine Or.inl ⟨a.1, fun q h1 h2 => ?_⟩
        by_cases e : q = j
        · rw [e]; exact z
        · exact a.2 q (by omega) (by omega)
      · exact Or.inr ⟨by omega, by omega, a.2.2⟩
theorem fh_congr {L L' : Int → Int} {x : Int} : ∀ (k : Nat) (j : Int), (∀ q : Int, j ≤ q → q < j + k → L q = L' q) → fh L x k j = fh L' x k j
  | 0, _, _ => rfl
  | k + 1, j, h => by
    unfold fh
    rw [h j (by omega) (by omega), fh_congr k (j + 1) (fun q h1 h2 => h q (by omega) (by omega))]
theorem gv_rng {L T : Int → Int} : ∀ (k : Nat) (j b : Int), 0 ≤ b → b ≤ j → (0 ≤ gv L T k j b ∧ (gv L T k j b < j + k ∨ gv L T k j b = b))
  | 0, j, b, b0, _ => ⟨b0, Or.inr rfl⟩
  | k + 1, j, b, b0, bj => by
    unfold gv
    split
    · omega
    · split
      · have := gv_rng (L := L) (T := T) k (j + 1) b b0 (by omega)
        omega
      · have := gv_rng (L := L) (T := T) k (j + 1) j (by omega) (by omega)
        omega
theorem gv_congr {L L' T T' : Int → Int} {W : Int} (hL : ∀ q : Int, 0 ≤ q → q < W → L q = L' q) (hT : ∀ q r : Int, 0 ≤ q → q < W → 0 ≤ r → r < W → L q ≠ -1 → L r ≠ -1 → (T q < T r ↔ T' q < T' r)) : ∀ (k : Nat) (j b : Int), j + k = W → 0 ≤ b → b ≤ j → (b < j → L b ≠ -1) → gv L T k j b = gv L' T' k j b
  | 0, _, _, _, _, _, _ => rfl
  | k + 1, j, b, e, b0, bj, hb => by
    unfold gv
    rw [← hL j (by omega) (by omega)]
    by_cases z : L j = -1
    · rw [if_pos z, if_pos z]
    · rw [if_neg z, if_neg z]
      have hb2 : L b ≠ -1 := by
        by_cases q : b = j
        · rw [q]; exact z
        · exact hb (by omega)
      have := hT j b (by omega) (by omega) b0 (by omega) z hb2
      by_cases g : T j ≥ T b
      · rw [if_pos g, if_pos (by omega)]
        exact gv_congr hL hT k (j + 1) b (by omega) b0 (by omega) (fun _ => hb2)
      · rw [if_neg g, if_neg (by omega)]
        exact gv_congr hL hT k (j + 1) j (by omega) (by omega) (by omega) (fun _ => z)
theorem gm_e {L T : Int → Int} : ∀ (k : Nat) (j b : Int), L b = -1 → gm L T k j b = b
  | 0, _, _, _ => rfl
  | k + 1, j, b, h => by
    unfold gm
    rw [if_pos h]
    exact gm_e k _ b h
theorem gm_gv {L T : Int → Int} : ∀ (k : Nat) (j b : Int), L b ≠ -1 → gm L T k j b = gv L T k j b
  | 0, _, _, _ => rfl
  | k + 1, j, b, h => by
    unfold gm gv
    rw [if_neg h]
    by_cases z : L j = -1
    · rw [if_pos z, if_pos z]
      exact gm_e k _ j z
    · rw [if_neg z, if_neg z, gm_gv k _ b h, gm_gv k _ j z]
theorem gm0 {L T : Int → Int} {W : Nat} (hW : 1 ≤ W) : gm L T W 0 0 = gv L T W 0 0 := by
  by_cases z : L 0 = -1
  · rw [gm_e W 0 0 z]
    obtain ⟨k, rfl⟩ : ∃ k, W = k + 1 := ⟨W - 1, by omega⟩
    unfold gv
    rw [if_pos z]
  · exact gm_gv W 0 0 z
theorem wy_rng {L T : Int → Int} {x : Int} {W : Nat} (hW : 1 ≤ W) : 0 ≤ wy L T x W ∧ wy L T x W < W := by
  unfold wy
  have a := fh_spec L x W 0 (by omega)
  have b := gv_rng (L := L) (T := T) W 0 0 (by omega) (by omega)
  split <;> omega
theorem wy_congr {L L' T T' : Int → Int} {x : Int} {W : Nat} (hL : ∀ q : Int, 0 ≤ q → q < W → L q = L' q) (hT : ∀ q r : Int, 0 ≤ q → q < W → 0 ≤ r → r < W → L q ≠ -1 → L r ≠ -1 → (T q < T r ↔ T' q < T' r)) : wy L T x W = wy L' T' x W := by
  unfold wy
  rw [fh_congr W 0 (fun q h1 h2 => hL q h1 (by omega)), gv_congr hL hT W 0 0 (by omega) (by omega) (by omega) (fun w => by omega)]
/-- the sizes of a cache -/
def CZ (S W : Int) : Prop := (S = 1 ∨ S = 2 ∨ S = 4 ∨ S = 8) ∧ 1 ≤ W ∧ W ≤ 4
theorem CZ.fs {S W t : Int} (z : CZ S W) (t0 : 0 ≤ t) (t1 : t < S) : 0 ≤ t * W ∧ t * W + W ≤ 32 ∧ t * W ≤ 31 := by
  obtain ⟨h1, h2, h3⟩ := z
  have : W = 1 ∨ W = 2 ∨ W = 3 ∨ W = 4 := by omega
  rcases this with rfl | rfl | rfl | rfl <;> omega
/-- the class's cache C -/
def CH (m : Mm) (C : Int) : Prop := (C = 77 ∨ C = 80) ∧ (m C 0 = C + 1 ∧ m C 1 = C + 2) ∧ CZ (m C 2) (m C 3)
theorem CH.kd {m : Mm} {C : Int} (H : CH m C) : kd C = (1, 7) ∧ kd (C + 1) = (20, 32) ∧ kd (C + 2) = (20, 32) ∧ (77 ≤ C ∧ C ≤ 80) := by
  rcases H.1 with e | e
  · rw [e]; exact ⟨kd_77, kd_78, kd_79, by omega⟩
  · rw [e]; exact ⟨kd_80, kd_81, kd_82, by omega⟩
section
variable {h : Hq} {C : Int}
theorem c_give12 (H : CH h.2 C) {f : Int} (f0 : 0 ≤ f) (f1 : f + h.2 C 3 ≤ 32) : ∀ (k : Nat) (j b : Int) (z : Vl), j + k = h.2 C 3 → 0 ≤ b → b ≤ j → vp 11 12 [(2, C), z, (0, f), (0, f + b), (0, f + j)] [] h = some (some (0, f + gv (fun q => h.2 (C + 1) (f + q)) (fun q => h.2 (C + 2) (f + q)) k j b), h) := by
  obtain ⟨k1, k2, k3, kc⟩ := H.kd
  obtain ⟨a, ⟨l0, l1⟩, zz⟩ := H
  have z3 := zz.2
  clear zz a
  intro k
  induction k with
  | zero =>
    intro j b z e b0 bj
    rw [e_X1_slotToGive_12]
    repeat first
      | (refine Eq.trans (if_pos ?_) ?_; · first | omega | (simp (disch := omega) only [k1, Int.reduceLT, Int.reduceLE, Int.reduceEq, Int.reduceNe, Int.reduceNeg, Int.reduceAdd, Int.reduceSub, Int.reduceMul, Int.reduceGE, Int.reduceGT, Nat.reduceEqDiff, Nat.reduceAdd, and_true, true_and, and_self, not_true_eq_false, not_false_eq_true, ne_eq, and_false, false_and, or_false, or_true, false_or, true_or, vx_some, eq_self, ↓reduceIte, ite_t1, ite_t2, ite_t3, le_T, le_F, lt_T, lt_F, ge_T, ge_F, gt_T, gt_F, eq_T, eq_F, w32_i, kd_1, kd_2, kd_3, kd_4, kd_5, kd_6, kd_7, kd_14, kd_15, kd_16, kd_29, kd_34, kd_56, kd_74, kd_75, kd_76, kd_77, kd_78, kd_79, kd_80, kd_81, kd_82, kd_83, kd_84, kd_85, kd_86, kd_87, kd_88, kd_89, kd_90, kd_91, kd_92, kd_93, kd_94, kd_95, kd_96, kd_97, kd_98, kd_99, kd_100, kd_101, kd_102, kd_103, kd_104, kd_105, kd_106, kd_107, kd_108]; done))
      | (refine Eq.trans (if_neg ?_) ?_; · first | omega | (simp (disch := omega) only [k1, Int.reduceLT, Int.reduceLE, Int.reduceEq, Int.reduceNe, Int.reduceNeg, Int.reduceAdd, Int.reduceSub, Int.reduceMul, Int.reduceGE, Int.reduceGT, Nat.reduceEqDiff, Nat.reduceAdd, and_true, true_and, and_self, not_true_eq_false, not_false_eq_true, ne_eq, and_false, false_and, or_false, or_true, false_or, true_or, vx_some, eq_self, ↓reduceIte, ite_t1, ite_t2, ite_t3, le_T, le_F, lt_T, lt_F, ge_T, ge_F, gt_T, gt_F, eq_T, eq_F, w32_i, kd_1, kd_2, kd_3, kd_4, kd_5, kd_6, kd_7, kd_14, kd_15, kd_16, kd_29, kd_34, kd_56, kd_74, kd_75, kd_76, kd_77, kd_78, kd_79, kd_80, kd_81, kd_82, kd_83, kd_84, kd_85, kd_86, kd_87, kd_88, kd_89, kd_90, kd_91, kd_92, kd_93, kd_94, kd_95, kd_96, kd_97, kd_98, kd_99, kd_100, kd_101, kd_102, kd_103, kd_104, kd_105, kd_106, kd_107, kd_108]; done))
      | (refine Eq.trans (bnd (r := ?_) ?_) ?_; rotate_left 1; (focus (simp (disch := omega) only [k1, Int.reduceLT, Int.reduceLE, Int.reduceEq, Int.reduceNe, Int.reduceNeg, Int.reduceAdd, Int.reduceSub, Int.reduceMul, Int.reduceGE, Int.reduceGT, Nat.reduceEqDiff, Nat.reduceAdd, and_true, true_and, and_self, not_true_eq_false, not_false_eq_true, ne_eq, and_false, false_and, or_false, or_true, false_or, true_or, vx_some, eq_self, ↓reduceIte, ite_t1, ite_t2, ite_t3, le_T, le_F, lt_T, lt_F, ge_T, ge_F, gt_T, gt_F, eq_T, eq_F, w32_i, kd_1, kd_2, kd_3, kd_4, kd_5, kd_6, kd_7, kd_14, kd_15, kd_16, kd_29, kd_34, kd_56, kd_74, kd_75, kd_76, kd_77, kd_78, kd_79, kd_80, kd_81, kd_82, kd_83, kd_84, kd_85, kd_86, kd_87, kd_88, kd_89, kd_90, kd_91, kd_92, kd_93, kd_94, kd_95, kd_96, kd_97, kd_98, kd_99, kd_100, kd_101, kd_102, kd_103, kd_104, kd_105, kd_106, kd_107, kd_108]; exact rfl)); simp only [vx_some])
    rfl
  | succ k ih =>
    intro j b z e b0 bj
    have ihb := ih (j + 1) b (9, 0) (by omega) b0 (by omega)
    have ihj := ih (j + 1) j (9, 0) (by omega) (by omega) (by omega)
    rw [show f + (j + 1) = f + j + 1 by omega] at ihb ihj
    refine Eq.trans (e_X1_slotToGive_12 ..) ?_
    unfold gv
    by_cases g : h.2 (C + 1) (f + j) = -1
    · rw [if_pos g]
      repeat first
        | (refine Eq.trans (if_pos ?_) ?_; · first | omega | (simp (disch := omega) only [k1, l0, k2, Int.reduceLT, Int.reduceLE, Int.reduceEq, Int.reduceNe, Int.reduceNeg, Int.reduceAdd, Int.reduceSub, Int.reduceMul, Int.reduceGE, Int.reduceGT, Nat.reduceEqDiff, Nat.reduceAdd, and_true, true_and, and_self, not_true_eq_false, not_false_eq_true, ne_eq, and_false, false_and, or_false, or_true, false_or, true_or, vx_some, eq_self, ↓reduceIte, ite_t1, ite_t2, ite_t3, le_T, le_F, lt_T, lt_F, ge_T, ge_F, gt_T, gt_F, eq_T, eq_F, w32_i, kd_1, kd_2, kd_3, kd_4, kd_5, kd_6, kd_7, kd_14, kd_15, kd_16, kd_29, kd_34, kd_56, kd_74, kd_75, kd_76, kd_77, kd_78, kd_79, kd_80, kd_81, kd_82, kd_83, kd_84, kd_85, kd_86, kd_87, kd_88, kd_89, kd_90, kd_91, kd_92, kd_93, kd_94, kd_95, kd_96, kd_97, kd_98, kd_99, kd_100, kd_101, kd_102, kd_103, kd_104, kd_105, kd_106, kd_107, kd_108]; done))
        | (refine Eq.trans (if_neg ?_) ?_; · first | omega | (simp (disch := omega) only [k1, l0, k2, Int.reduceLT, Int.reduceLE, Int.reduceEq, Int.reduceNe, Int.reduceNeg, Int.reduceAdd, Int.reduceSub, Int.reduceMul, Int.reduceGE, Int.reduceGT, Nat.reduceEqDiff, Nat.reduceAdd, and_true, true_and, and_self, not_true_eq_false, not_false_eq_true, ne_eq, and_false, false_and, or_false, or_true, false_or, true_or, vx_some, eq_self, ↓reduceIte, ite_t1, ite_t2, ite_t3, le_T, le_F, lt_T, lt_F, ge_T, ge_F, gt_T, gt_F, eq_T, eq_F, w32_i, kd_1, kd_2, kd_3, kd_4, kd_5, kd_6, kd_7, kd_14, kd_15, kd_16, kd_29, kd_34, kd_56, kd_74, kd_75, kd_76, kd_77, kd_78, kd_79, kd_80, kd_81, kd_82, kd_83, kd_84, kd_85, kd_86, kd_87, kd_88, kd_89, kd_90, kd_91, kd_92, kd_93, kd_94, kd_95, kd_96, kd_97, kd_98, kd_99, kd_100, kd_101, kd_102, kd_103, kd_104, kd_105, kd_106, kd_107, kd_108]; done))
        | (refine Eq.trans (bnd (r := ?_) ?_) ?_; rotate_left 1; (focus (simp (disch := omega) only [k1, l0, k2, Int.reduceLT, Int.reduceLE, Int.reduceEq, Int.reduceNe, Int.reduceNeg, Int.reduceAdd, Int.reduceSub, Int.reduceMul, Int.reduceGE, Int.reduceGT, Nat.reduceEqDiff, Nat.reduceAdd, and_true, true_and, and_self, not_true_eq_false, not_false_eq_true, ne_eq, and_false, false_and, or_false, or_true, false_or, true_or, vx_some, eq_self, ↓reduceIte, ite_t1, ite_t2, ite_t3, le_T, le_F, lt_T, lt_F, ge_T, ge_F, gt_T, gt_F, eq_T, eq_F, w32_i, kd_1, kd_2, kd_3, kd_4, kd_5, kd_6, kd_7, kd_14, kd_15, kd_16, kd_29, kd_34, kd_56, kd_74, kd_75, kd_76, kd_77, kd_78, kd_79, kd_80, kd_81, kd_82, kd_83, kd_84, kd_85, kd_86, kd_87, kd_88, kd_89, kd_90, kd_91, kd_92, kd_93, kd_94, kd_95, kd_96, kd_97, kd_98, kd_99, kd_100, kd_101, kd_102, kd_103, kd_104, kd_105, kd_106, kd_107, kd_108]; exact rfl)); simp only [vx_some])
      rfl
    · rw [if_neg g]
      by_cases g2 : h.2 (C + 2) (f + j) ≥ h.2 (C + 2) (f + b)
      · rw [if_pos g2]
        repeat first
          | (refine Eq.trans (if_pos ?_) ?_; · first | omega | (simp (disch := omega) only [k1, l0, k2, l1, k3, Int.reduceLT, Int.reduceLE, Int.reduceEq, Int.reduceNe, Int.reduceNeg, Int.reduceAdd, Int.reduceSub, Int.reduceMul, Int.reduceGE, Int.reduceGT, Nat.reduceEqDiff, Nat.reduceAdd, and_true, true_and, and_self, not_true_eq_false, not_false_eq_true, ne_eq, and_false, false_and, or_false, or_true, false_or, true_or, vx_some, eq_self, ↓reduceIte, ite_t1, ite_t2, ite_t3, le_T, le_F, lt_T, lt_F, ge_T, ge_F, gt_T, gt_F, eq_T, eq_F, w32_i, kd_1, kd_2, kd_3, kd_4, kd_5, kd_6, kd_7, kd_14, kd_15, kd_16, kd_29, kd_34, kd_56, kd_74, kd_75, kd_76, kd_77, kd_78, kd_79, kd_80, kd_81, kd_82, kd_83, kd_84, kd_85, kd_86, kd_87, kd_88, kd_89, kd_90, kd_91, kd_92, kd_93, kd_94, kd_95, kd_96, kd_97, kd_98, kd_99, kd_100, kd_101, kd_102, kd_103, kd_104, kd_105, kd_106, kd_107, kd_108]; done))
          | (refine Eq.trans (if_neg ?_) ?_; · first | omega | (simp (disch := omega) only [k1, l0, k2, l1, k3, Int.reduceLT, Int.reduceLE, Int.reduceEq, Int.reduceNe, Int.reduceNeg, Int.reduceAdd, Int.reduceSub, Int.reduceMul, Int.reduceGE, Int.reduceGT, Nat.reduceEqDiff, Nat.reduceAdd, and_true, true_and, and_self, not_true_eq_false, not_false_eq_true, ne_eq, and_false, false_and, or_false, or_true, false_or, true_or, vx_some, eq_self, ↓reduceIte, ite_t1, ite_t2, ite_t3, le_T, le_F, lt_T, lt_F, ge_T, ge_F, gt_T, gt_F, eq_T, eq_F, w32_i, kd_1, kd_2, kd_3, kd_4, kd_5, kd_6, kd_7, kd_14, kd_15, kd_16, kd_29, kd_34, kd_56, kd_74, kd_75, kd_76, kd_77, kd_78, kd_79, kd_80, kd_81, kd_82, kd_83, kd_84, kd_85, kd_86, kd_87, kd_88, kd_89, kd_90, kd_91, kd_92, kd_93, kd_94, kd_95, kd_96, kd_97, kd_98, kd_99, kd_100, kd_101, kd_102, kd_103, kd_104, kd_105, kd_106, kd_107, kd_108]; done))
          | (refine Eq.trans (bnd (r := ?_) ?_) ?_; rotate_left 1; (focus (simp (disch := omega) only [k1, l0, k2, l1, k3, Int.reduceLT, Int.reduceLE, Int.reduceEq, Int.reduceNe, Int.reduceNeg, Int.reduceAdd, Int.reduceSub, Int.reduceMul, Int.reduceGE, Int.reduceGT, Nat.reduceEqDiff, Nat.reduceAdd, and_true, true_and, and_self, not_true_eq_false, not_false_eq_true, ne_eq, and_false, false_and, or_false, or_true, false_or, true_or, vx_some, eq_self, ↓reduceIte, ite_t1, ite_t2, ite_t3, le_T, le_F, lt_T, lt_F, ge_T, ge_F, gt_T, gt_F, eq_T, eq_F, w32_i, kd_1, kd_2, kd_3, kd_4, kd_5, kd_6, kd_7, kd_14, kd_15, kd_16, kd_29, kd_34, kd_56, kd_74, kd_75, kd_76, kd_77, kd_78, kd_79, kd_80, kd_81, kd_82, kd_83, kd_84, kd_85, kd_86, kd_87, kd_88, kd_89, kd_90, kd_91, kd_92, kd_93, kd_94, kd_95, kd_96, kd_97, kd_98, kd_99, kd_100, kd_101, kd_102, kd_103, kd_104, kd_105, kd_106, kd_107, kd_108]; exact rfl)); simp only [vx_some])
        rw [w32_i (by omega) (by omega)]
        exact ihb
      · rw [if_neg g2]
        repeat first
          | (refine Eq.trans (if_pos ?_) ?_; · first | omega | (simp (disch := omega) only [k1, l0, k2, l1, k3, Int.reduceLT, Int.reduceLE, Int.reduceEq, Int.reduceNe, Int.reduceNeg, Int.reduceAdd, Int.reduceSub, Int.reduceMul, Int.reduceGE, Int.reduceGT, Nat.reduceEqDiff, Nat.reduceAdd, and_true, true_and, and_self, not_true_eq_false, not_false_eq_true, ne_eq, and_false, false_and, or_false, or_true, false_or, true_or, vx_some, eq_self, ↓reduceIte, ite_t1, ite_t2, ite_t3, le_T, le_F, lt_T, lt_F, ge_T, ge_F, gt_T, gt_F, eq_T, eq_F, w32_i, kd_1, kd_2, kd_3, kd_4, kd_5, kd_6, kd_7, kd_14, kd_15, kd_16, kd_29, kd_34, kd_56, kd_74, kd_75, kd_76, kd_77, kd_78, kd_79, kd_80, kd_81, kd_82, kd_83, kd_84, kd_85, kd_86, kd_87, kd_88, kd_89, kd_90, kd_91, kd_92, kd_93, kd_94, kd_95, kd_96, kd_97, kd_98, kd_99, kd_100, kd_101, kd_102, kd_103, kd_104, kd_105, kd_106, kd_107, kd_108]; done))
          | (refine Eq.trans (if_neg ?_) ?_; · first | omega | (simp (disch := omega) only [k1, l0, k2, l1, k3, Int.reduceLT, Int.reduceLE, Int.reduceEq, Int.reduceNe, Int.reduceNeg, Int.reduceAdd, Int.reduceSub, Int.reduceMul, Int.reduceGE, Int.reduceGT, Nat.reduceEqDiff, Nat.reduceAdd, and_true, true_and, and_self, not_true_eq_false, not_false_eq_true, ne_eq, and_false, false_and, or_false, or_true, false_or, true_or, vx_some, eq_self, ↓reduceIte, ite_t1, ite_t2, ite_t3, le_T, le_F, lt_T, lt_F, ge_T, ge_F, gt_T, gt_F, eq_T, eq_F, w32_i, kd_1, kd_2, kd_3, kd_4, kd_5, kd_6, kd_7, kd_14, kd_15, kd_16, kd_29, kd_34, kd_56, kd_74, kd_75, kd_76, kd_77, kd_78, kd_79, kd_80, kd_81, kd_82, kd_83, kd_84, kd_85, kd_86, kd_87, kd_88, kd_89, kd_90, kd_91, kd_92, kd_93, kd_94, kd_95, kd_96, kd_97, kd_98, kd_99, kd_100, kd_101, kd_102, kd_103, kd_104, kd_105, kd_106, kd_107, kd_108]; done))
          | (refine Eq.trans (bnd (r := ?_) ?_) ?_; rotate_left 1; (focus (simp (disch := omega) only [k1, l0, k2, l1, k3, Int.reduceLT, Int.reduceLE, Int.reduceEq, Int.reduceNe, Int.reduceNeg, Int.reduceAdd, Int.reduceSub, Int.reduceMul, Int.reduceGE, Int.reduceGT, Nat.reduceEqDiff, Nat.reduceAdd, and_true, true_and, and_self, not_true_eq_false, not_false_eq_true, ne_eq, and_false, false_and, or_false, or_true, false_or, true_or, vx_some, eq_self, ↓reduceIte, ite_t1, ite_t2, ite_t3, le_T, le_F, lt_T, lt_F, ge_T, ge_F, gt_T, gt_F, eq_T, eq_F, w32_i, kd_1, kd_2, kd_3, kd_4, kd_5, kd_6, kd_7, kd_14, kd_15, kd_16, kd_29, kd_34, kd_56, kd_74, kd_75, kd_76, kd_77, kd_78, kd_79, kd_80, kd_81, kd_82, kd_83, kd_84, kd_85, kd_86, kd_87, kd_88, kd_89, kd_90, kd_91, kd_92, kd_93, kd_94, kd_95, kd_96, kd_97, kd_98, kd_99, kd_100, kd_101, kd_102, kd_103, kd_104, kd_105, kd_106, kd_107, kd_108]; exact rfl)); simp only [vx_some])
        rw [w32_i (by omega) (by omega)]
        exact ihj
end
