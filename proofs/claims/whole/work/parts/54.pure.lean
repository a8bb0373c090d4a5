/-! THE PURE PART: images: the calls -/
theorem ib_97 (m : Mm) (b q : Int) (q0 : 0 ≤ q) (q1 : q < 2400) : ib m b 2400 97 q = m 106 (2400 * b + q) := by
  unfold ib
  rw [cp2_ap _ _ _ _ _ _ _ _ _ _ _ _ (by omega) (by omega), if_neg (by omega), if_pos ⟨rfl, by omega, by omega⟩, Int.sub_zero]
theorem ib_98 (m : Mm) (b q : Int) (q0 : 0 ≤ q) (q1 : q < 2400) : ib m b 2400 98 q = m 107 (2400 * b + q) := by
  unfold ib
  rw [cp2_ap _ _ _ _ _ _ _ _ _ _ _ _ (by omega) (by omega), if_pos ⟨rfl, by omega, by omega⟩, Int.sub_zero]
theorem im_106 (m : Mm) (b q : Int) : im m b 2400 106 q = if 2400 * b ≤ q ∧ q < 2400 * b + 2400 then m 97 (q - 2400 * b) else m 106 q := by
  unfold im
  rw [cp2_ap _ _ _ _ _ _ _ _ _ _ _ _ (by omega) (by omega), if_neg (by omega)]
  by_cases z : 2400 * b ≤ q ∧ q < 2400 * b + 2400
  · rw [if_pos ⟨rfl, z⟩, if_pos z, Int.zero_add]
  · rw [if_neg (fun w => z w.2), if_neg z]
theorem im_107 (m : Mm) (b q : Int) : im m b 2400 107 q = if 2400 * b ≤ q ∧ q < 2400 * b + 2400 then m 98 (q - 2400 * b) else m 107 q := by
  unfold im
  rw [cp2_ap _ _ _ _ _ _ _ _ _ _ _ _ (by omega) (by omega)]
  by_cases z : 2400 * b ≤ q ∧ q < 2400 * b + 2400
  · rw [if_pos ⟨rfl, z⟩, if_pos z, Int.zero_add]
  · rw [if_neg (fun w => z w.2), if_neg z, if_neg (by omega)]
theorem k_image {i : Int} {h : Hq} {b : Int} (I : INV i h) (hi : i < 600) : OKC i 159 305 [(0, b)] h := by
  have F := I.fx
  have K := I.kl
  have kc := K.1
  by_cases q : 0 ≤ b ∧ b < 2
  · have c65 : h.2 6 5 = (h.2 90 3).toNat := by have := I.st.1; omega
    have N6 : (h.2 90 3).toNat ≤ 6 := by omega
    have cI := c_keepI F q.1 q.2 c65 N6
    have eO : ∀ c k : Int, ¬ (17 ≤ c ∧ c ≤ 29) → cpr (stm h.2 29 b 1) 8 (17 + b * 6) (h.2 90 3).toNat c k = h.2 c k := fun c k hc => by
      rw [cpr_o _ (by omega), stm_ap, if_neg (by omega)]
    have e29 : ∀ k, cpr (stm h.2 29 b 1) 8 (17 + b * 6) (h.2 90 3).toNat 29 k = if k = b then 1 else h.2 29 k := fun k => by
      rw [cpr_o _ (by omega), stm_ap]
      by_cases z : k = b
      · rw [if_pos ⟨rfl, z⟩, if_pos z]
      · rw [if_neg (fun w => z w.2), if_neg z]
    have eI : ∀ s p : Int, 0 ≤ s → s < h.2 90 3 → 0 ≤ p → p < 400 → cpr (stm h.2 29 b 1) 8 (17 + b * 6) (h.2 90 3).toNat (17 + b * 6 + s) p = h.2 (8 + s) p := fun s p s0 s1 p0 p1 => by
      rw [cpr_r p0 p1 s0 _ (by omega) (by omega), stm_ap, if_neg (by omega)]
    have eJ : ∀ c k : Int, 17 ≤ c → c < 29 → (c < 17 + b * 6 ∨ 17 + b * 6 + 6 ≤ c) → cpr (stm h.2 29 b 1) 8 (17 + b * 6) (h.2 90 3).toNat c k = h.2 c k := fun c k h0 h1 h2 => by
      rw [cpr_o _ (by omega), stm_ap, if_neg (by omega)]
    generalize cpr (stm h.2 29 b 1) 8 (17 + b * 6) (h.2 90 3).toNat = M at *
    have F1 : FX M := F.fr (fun c k q => eO c k (by unfold FXP at q; omega))
    have S1 : SH M := I.sh.fr (fun c k q => eO c k (by unfold SHP at q; omega))
    have R1 : ROWS M := I.ro.fr (fun c k q => eO c k (by omega)) (by omega)
    have m90 : M 90 = h.2 90 := funext fun k => eO 90 k (by omega)
    have m94 : M 94 = h.2 94 := funext fun k => eO 94 k (by omega)
    have m97 : M 97 = h.2 97 := funext fun k => eO 97 k (by omega)
    have z := c_rem (h := (h.1, M)) F1 S1.2.1 S1.2.2.2.1 R1.num
    dsimp only at z
    rw [m90, m94, m97] at z
    have F2 : FX (stm M 108 b 1) := F1.fr (fun c k q => by
      unfold FXP at q
      rw [stm_ap, if_neg (by omega)])
    have S2 : SH (stm M 108 b 1) := S1.fr (fun c k q => by
      unfold SHP at q
      rw [stm_ap, if_neg (by omega)])
    have R2 : ROWS (stm M 108 b 1) := R1.fr (fun c k q => by rw [stm_ap, if_neg (by omega)]) (by rw [m90]; omega)
    have y := p_image20 (h := (h.1, stm M 108 b 1)) F2 S2.2.1 R2 q.1 q.2 2400 0 rfl
    rw [show (((0 : Nat) : Int)) = 0 from rfl] at y
    unfold im at y
    rw [cp2_0] at y
    dsimp only at y
    rw [show stm M 108 b 1 90 = h.2 90 from funext fun k => by rw [stm_ap, if_neg (by omega), m90], show stm M 108 b 1 94 = h.2 94 from funext fun k => by rw [stm_ap, if_neg (by omega), m94], show stm M 108 b 1 97 = h.2 97 from funext fun k => by rw [stm_ap, if_neg (by omega), m97]] at y
    have eF : ∀ c k : Int, ¬ (17 ≤ c ∧ c ≤ 29) → ¬ (106 ≤ c ∧ c ≤ 108) → im (stm M 108 b 1) b 2400 c k = h.2 c k := fun c k h0 h1 => by
      rw [im_o (by omega) (by omega), stm_ap, if_neg (by omega), eO c k h0]
    have I1 := I.up hi
    have ir := I.ir
    refine ⟨(0, tots (fun s p => h.2 97 (400 * s + p)) (h.2 94) (h.2 90 3).toNat % 1000003), (h.1, M), (h.1, im (stm M 108 b 1) b 2400), ?_, ?_, funext fun k => eO (-1) k (by omega), funext fun k => eF (-1) k (by omega) (by omega), ?_⟩
    · rw [e_X11_image]
      repeat first
        | (refine Eq.trans (if_pos ?_) ?_; · first | omega | (simp (disch := omega) only [F.c1_0, F.c1_2, F.c1_5, F.c1_6, F.c1_7, F.c1_8, F.c1_9, F.c1_10, F.c1_11, F.c3_0, F.c4_0, F.c6_0, F.c6_1, F.c6_2, F.c6_3, F.c6_4, F.c74_0, F.c74_1, F.c77_0, F.c77_1, F.c80_0, F.c80_1, F.c83_0, F.c86_0, cI, z, Int.reduceLT, Int.reduceLE, Int.reduceEq, Int.reduceNe, Int.reduceNeg, Int.reduceAdd, Int.reduceSub, Int.reduceMul, Int.reduceGE, Int.reduceGT, Nat.reduceEqDiff, Nat.reduceAdd, and_true, true_and, and_self, not_true_eq_false, not_false_eq_true, ne_eq, and_false, false_and, or_false, or_true, false_or, true_or, vx_some, eq_self, ↓reduceIte, ite_t1, ite_t2, ite_t3, le_T, le_F, lt_T, lt_F, ge_T, ge_F, gt_T, gt_F, eq_T, eq_F, w32_i, kd_1, kd_2, kd_3, kd_4, kd_5, kd_6, kd_7, kd_14, kd_15, kd_16, kd_29, kd_34, kd_56, kd_74, kd_75, kd_76, kd_77, kd_78, kd_79, kd_80, kd_81, kd_82, kd_83, kd_84, kd_85, kd_86, kd_87, kd_88, kd_89, kd_90, kd_91, kd_92, kd_93, kd_94, kd_95, kd_96, kd_97, kd_98, kd_99, kd_100, kd_101, kd_102, kd_103, kd_104, kd_105, kd_106, kd_107, kd_108]; done))
        | (refine Eq.trans (if_neg ?_) ?_; · first | omega | (simp (disch := omega) only [F.c1_0, F.c1_2, F.c1_5, F.c1_6, F.c1_7, F.c1_8, F.c1_9, F.c1_10, F.c1_11, F.c3_0, F.c4_0, F.c6_0, F.c6_1, F.c6_2, F.c6_3, F.c6_4, F.c74_0, F.c74_1, F.c77_0, F.c77_1, F.c80_0, F.c80_1, F.c83_0, F.c86_0, cI, z, Int.reduceLT, Int.reduceLE, Int.reduceEq, Int.reduceNe, Int.reduceNeg, Int.reduceAdd, Int.reduceSub, Int.reduceMul, Int.reduceGE, Int.reduceGT, Nat.reduceEqDiff, Nat.reduceAdd, and_true, true_and, and_self, not_true_eq_false, not_false_eq_true, ne_eq, and_false, false_and, or_false, or_true, false_or, true_or, vx_some, eq_self, ↓reduceIte, ite_t1, ite_t2, ite_t3, le_T, le_F, lt_T, lt_F, ge_T, ge_F, gt_T, gt_F, eq_T, eq_F, w32_i, kd_1, kd_2, kd_3, kd_4, kd_5, kd_6, kd_7, kd_14, kd_15, kd_16, kd_29, kd_34, kd_56, kd_74, kd_75, kd_76, kd_77, kd_78, kd_79, kd_80, kd_81, kd_82, kd_83, kd_84, kd_85, kd_86, kd_87, kd_88, kd_89, kd_90, kd_91, kd_92, kd_93, kd_94, kd_95, kd_96, kd_97, kd_98, kd_99, kd_100, kd_101, kd_102, kd_103, kd_104, kd_105, kd_106, kd_107, kd_108]; done))
        | (refine Eq.trans (bnd (r := ?_) ?_) ?_; rotate_left 1; (focus (simp (disch := omega) only [F.c1_0, F.c1_2, F.c1_5, F.c1_6, F.c1_7, F.c1_8, F.c1_9, F.c1_10, F.c1_11, F.c3_0, F.c4_0, F.c6_0, F.c6_1, F.c6_2, F.c6_3, F.c6_4, F.c74_0, F.c74_1, F.c77_0, F.c77_1, F.c80_0, F.c80_1, F.c83_0, F.c86_0, cI, z, Int.reduceLT, Int.reduceLE, Int.reduceEq, Int.reduceNe, Int.reduceNeg, Int.reduceAdd, Int.reduceSub, Int.reduceMul, Int.reduceGE, Int.reduceGT, Nat.reduceEqDiff, Nat.reduceAdd, and_true, true_and, and_self, not_true_eq_false, not_false_eq_true, ne_eq, and_false, false_and, or_false, or_true, false_or, true_or, vx_some, eq_self, ↓reduceIte, ite_t1, ite_t2, ite_t3, le_T, le_F, lt_T, lt_F, ge_T, ge_F, gt_T, gt_F, eq_T, eq_F, w32_i, kd_1, kd_2, kd_3, kd_4, kd_5, kd_6, kd_7, kd_14, kd_15, kd_16, kd_29, kd_34, kd_56, kd_74, kd_75, kd_76, kd_77, kd_78, kd_79, kd_80, kd_81, kd_82, kd_83, kd_84, kd_85, kd_86, kd_87, kd_88, kd_89, kd_90, kd_91, kd_92, kd_93, kd_94, kd_95, kd_96, kd_97, kd_98, kd_99, kd_100, kd_101, kd_102, kd_103, kd_104, kd_105, kd_106, kd_107, kd_108]; exact rfl)); simp only [vx_some])
      all_goals first | rfl | (simp (disch := omega) only [Int.reduceLT, Int.reduceLE, Int.reduceEq, Int.reduceNe, Int.reduceNeg, Int.reduceAdd, Int.reduceSub, Int.reduceMul, Int.reduceGE, Int.reduceGT, Nat.reduceEqDiff, Nat.reduceAdd, and_true, true_and, and_self, not_true_eq_false, not_false_eq_true, ne_eq, and_false, false_and, or_false, or_true, false_or, true_or, vx_some, eq_self, ↓reduceIte, ite_t1, ite_t2, ite_t3, le_T, le_F, lt_T, lt_F, ge_T, ge_F, gt_T, gt_F, eq_T, eq_F, w32_i]; done)
    · rw [e_X12_image]
      repeat first
        | (refine Eq.trans (if_pos ?_) ?_; · first | omega | (simp (disch := omega) only [p_isIn, F1.c88_39, Int.reduceLT, Int.reduceLE, Int.reduceEq, Int.reduceNe, Int.reduceNeg, Int.reduceAdd, Int.reduceSub, Int.reduceMul, Int.reduceGE, Int.reduceGT, Nat.reduceEqDiff, Nat.reduceAdd, and_true, true_and, and_self, not_true_eq_false, not_false_eq_true, ne_eq, and_false, false_and, or_false, or_true, false_or, true_or, vx_some, eq_self, ↓reduceIte, ite_t1, ite_t2, ite_t3, le_T, le_F, lt_T, lt_F, ge_T, ge_F, gt_T, gt_F, eq_T, eq_F, w32_i, kd_1, kd_2, kd_3, kd_4, kd_5, kd_6, kd_7, kd_14, kd_15, kd_16, kd_29, kd_34, kd_56, kd_74, kd_75, kd_76, kd_77, kd_78, kd_79, kd_80, kd_81, kd_82, kd_83, kd_84, kd_85, kd_86, kd_87, kd_88, kd_89, kd_90, kd_91, kd_92, kd_93, kd_94, kd_95, kd_96, kd_97, kd_98, kd_99, kd_100, kd_101, kd_102, kd_103, kd_104, kd_105, kd_106, kd_107, kd_108]; done))
        | (refine Eq.trans (if_neg ?_) ?_; · first | omega | (simp (disch := omega) only [p_isIn, F1.c88_39, Int.reduceLT, Int.reduceLE, Int.reduceEq, Int.reduceNe, Int.reduceNeg, Int.reduceAdd, Int.reduceSub, Int.reduceMul, Int.reduceGE, Int.reduceGT, Nat.reduceEqDiff, Nat.reduceAdd, and_true, true_and, and_self, not_true_eq_false, not_false_eq_true, ne_eq, and_false, false_and, or_false, or_true, false_or, true_or, vx_some, eq_self, ↓reduceIte, ite_t1, ite_t2, ite_t3, le_T, le_F, lt_T, lt_F, ge_T, ge_F, gt_T, gt_F, eq_T, eq_F, w32_i, kd_1, kd_2, kd_3, kd_4, kd_5, kd_6, kd_7, kd_14, kd_15, kd_16, kd_29, kd_34, kd_56, kd_74, kd_75, kd_76, kd_77, kd_78, kd_79, kd_80, kd_81, kd_82, kd_83, kd_84, kd_85, kd_86, kd_87, kd_88, kd_89, kd_90, kd_91, kd_92, kd_93, kd_94, kd_95, kd_96, kd_97, kd_98, kd_99, kd_100, kd_101, kd_102, kd_103, kd_104, kd_105, kd_106, kd_107, kd_108]; done))
        | (refine Eq.trans (bnd (r := ?_) ?_) ?_; rotate_left 1; (focus (simp (disch := omega) only [p_isIn, F1.c88_39, Int.reduceLT, Int.reduceLE, Int.reduceEq, Int.reduceNe, Int.reduceNeg, Int.reduceAdd, Int.reduceSub, Int.reduceMul, Int.reduceGE, Int.reduceGT, Nat.reduceEqDiff, Nat.reduceAdd, and_true, true_and, and_self, not_true_eq_false, not_false_eq_true, ne_eq, and_false, false_and, or_false, or_true, false_or, true_or, vx_some, eq_self, ↓reduceIte, ite_t1, ite_t2, ite_t3, le_T, le_F, lt_T, lt_F, ge_T, ge_F, gt_T, gt_F, eq_T, eq_F, w32_i, kd_1, kd_2, kd_3, kd_4, kd_5, kd_6, kd_7, kd_14, kd_15, kd_16, kd_29, kd_34, kd_56, kd_74, kd_75, kd_76, kd_77, kd_78, kd_79, kd_80, kd_81, kd_82, kd_83, kd_84, kd_85, kd_86, kd_87, kd_88, kd_89, kd_90, kd_91, kd_92, kd_93, kd_94, kd_95, kd_96, kd_97, kd_98, kd_99, kd_100, kd_101, kd_102, kd_103, kd_104, kd_105, kd_106, kd_107, kd_108]; exact rfl)); simp only [vx_some])
      rw [F1.c88_39]
      exact y
    · refine ⟨F.fr (fun c k q => eF c k (by unfold FXP at q; omega) (by unfold FXP at q; omega)), I.sh.fr (fun c k q => eF c k (by unfold SHP at q; omega) (by unfold SHP at q; omega)), I.ro.fr (fun c k q => eF c k (by omega) (by omega)) (by omega), ⟨I.rn.fr (fun c k q => eF c k (by omega) (by omega)), I.ac.fr I.rn.2.1.1 (fun c k q => eF c k (by omega) (by omega))⟩, ?_, I1.ca.fr (fun c k q => eF c k (by omega) (by omega)), I1.ta.fr (fun c k q => eF c k (by omega) (by omega)), I.tp.fr (fun c k q => eF c k (by omega) (by omega)), I.fl.fr (fun c k q => eF c k (by omega) (by omega)), I.ou.fr (fun c k q => eF c k (by omega) (by omega)), by omega⟩
      show IMG (im (stm M 108 b 1) b 2400)
      intro b' b0' b1'
      have G := I.im b' b0' b1'
      have x29 : im (stm M 108 b 1) b 2400 29 b' = if b' = b then 1 else h.2 29 b' := by
        rw [im_o (by omega) (by omega), stm_ap, if_neg (by omega), e29]
      have x108 : im (stm M 108 b 1) b 2400 108 b' = if b' = b then 1 else h.2 108 b' := by
        rw [im_o (by omega) (by omega), stm_ap, eO 108 b' (by omega)]
        by_cases w : b' = b
        · rw [if_pos ⟨rfl, w⟩, if_pos w]
        · rw [if_neg (fun u => w u.2), if_neg w]
      rw [x29, x108]
      by_cases w : b' = b
      · subst w
        rw [if_pos rfl, if_pos rfl]
        refine ⟨Or.inr rfl, rfl, fun _ s p s0 s1 p0 p1 => ?_⟩
        rw [eF 90 3 (by omega) (by omega)] at s1
        rw [eF 94 s (by omega) (by omega)] at p1
        have qq := K.q s0 s1 p0 p1
        have rw' := K.rw s0 s1 p0 p1
        rw [eF 93 s (by omega) (by omega), im_o (by omega) (by omega), stm_ap, if_neg (by omega), show 17 + 6 * b' + s = 17 + b' * 6 + s by omega, eI s p s0 s1 p0 rw'.2.1, im_106, if_pos (by omega), im_107, if_pos (by omega), stm_ap, if_neg (by omega), stm_ap, if_neg (by omega), show 2400 * b' + (400 * s + p) - 2400 * b' = 400 * s + p by omega, eO 97 _ (by omega), eO 98 _ (by omega)]
        exact I.ro s p s0 s1 p0 p1
      · rw [if_neg w, if_neg w]
        refine ⟨G.1, G.2.1, fun h1 s p s0 s1 p0 p1 => ?_⟩
        rw [eF 90 3 (by omega) (by omega)] at s1
        rw [eF 94 s (by omega) (by omega)] at p1
        have qq := K.q s0 s1 p0 p1
        have rw' := K.rw s0 s1 p0 p1
        rw [eF 93 s (by omega) (by omega), im_o (by omega) (by omega), stm_ap, if_neg (by omega), eJ _ p (by omega) (by omega) (by omega), im_106, if_neg (by omega), im_107, if_neg (by omega), stm_ap, if_neg (by omega), stm_ap, if_neg (by omega), eO 106 _ (by omega), eO 107 _ (by omega)]
        exact G.2.2 h1 s p s0 s1 p0 p1
  · refine OKC.ro I hi (0, -1) ?_ ?_
    · rw [e_X11_image]
      repeat first
        | (refine Eq.trans (if_pos ?_) ?_; · first | omega | (simp (disch := omega) only [Int.reduceLT, Int.reduceLE, Int.reduceEq, Int.reduceNe, Int.reduceNeg, Int.reduceAdd, Int.reduceSub, Int.reduceMul, Int.reduceGE, Int.reduceGT, Nat.reduceEqDiff, Nat.reduceAdd, and_true, true_and, and_self, not_true_eq_false, not_false_eq_true, ne_eq, and_false, false_and, or_false, or_true, false_or, true_or, vx_some, eq_self, ↓reduceIte, ite_t1, ite_t2, ite_t3, le_T, le_F, lt_T, lt_F, ge_T, ge_F, gt_T, gt_F, eq_T, eq_F, w32_i, kd_1, kd_2, kd_3, kd_4, kd_5, kd_6, kd_7, kd_14, kd_15, kd_16, kd_29, kd_34, kd_56, kd_74, kd_75, kd_76, kd_77, kd_78, kd_79, kd_80, kd_81, kd_82, kd_83, kd_84, kd_85, kd_86, kd_87, kd_88, kd_89, kd_90, kd_91, kd_92, kd_93, kd_94, kd_95, kd_96, kd_97, kd_98, kd_99, kd_100, kd_101, kd_102, kd_103, kd_104, kd_105, kd_106, kd_107, kd_108]; done))
        | (refine Eq.trans (if_neg ?_) ?_; · first | omega | (simp (disch := omega) only [Int.reduceLT, Int.reduceLE, Int.reduceEq, Int.reduceNe, Int.reduceNeg, Int.reduceAdd, Int.reduceSub, Int.reduceMul, Int.reduceGE, Int.reduceGT, Nat.reduceEqDiff, Nat.reduceAdd, and_true, true_and, and_self, not_true_eq_false, not_false_eq_true, ne_eq, and_false, false_and, or_false, or_true, false_or, true_or, vx_some, eq_self, ↓reduceIte, ite_t1, ite_t2, ite_t3, le_T, le_F, lt_T, lt_F, ge_T, ge_F, gt_T, gt_F, eq_T, eq_F, w32_i, kd_1, kd_2, kd_3, kd_4, kd_5, kd_6, kd_7, kd_14, kd_15, kd_16, kd_29, kd_34, kd_56, kd_74, kd_75, kd_76, kd_77, kd_78, kd_79, kd_80, kd_81, kd_82, kd_83, kd_84, kd_85, kd_86, kd_87, kd_88, kd_89, kd_90, kd_91, kd_92, kd_93, kd_94, kd_95, kd_96, kd_97, kd_98, kd_99, kd_100, kd_101, kd_102, kd_103, kd_104, kd_105, kd_106, kd_107, kd_108]; done))
        | (refine Eq.trans (bnd (r := ?_) ?_) ?_; rotate_left 1; (focus (simp (disch := omega) only [Int.reduceLT, Int.reduceLE, Int.reduceEq, Int.reduceNe, Int.reduceNeg, Int.reduceAdd, Int.reduceSub, Int.reduceMul, Int.reduceGE, Int.reduceGT, Nat.reduceEqDiff, Nat.reduceAdd, and_true, true_and, and_self, not_true_eq_false, not_false_eq_true, ne_eq, and_false, false_and, or_false, or_true, false_or, true_or, vx_some, eq_self, ↓reduceIte, ite_t1, ite_t2, ite_t3, le_T, le_F, lt_T, lt_F, ge_T, ge_F, gt_T, gt_F, eq_T, eq_F, w32_i, kd_1, kd_2, kd_3, kd_4, kd_5, kd_6, kd_7, kd_14, kd_15, kd_16, kd_29, kd_34, kd_56, kd_74, kd_75, kd_76, kd_77, kd_78, kd_79, kd_80, kd_81, kd_82, kd_83, kd_84, kd_85, kd_86, kd_87, kd_88, kd_89, kd_90, kd_91, kd_92, kd_93, kd_94, kd_95, kd_96, kd_97, kd_98, kd_99, kd_100, kd_101, kd_102, kd_103, kd_104, kd_105, kd_106, kd_107, kd_108]; exact rfl)); simp only [vx_some])
      split
      · rfl
      · rw [if_neg (by omega)]
    · rw [e_X12_image]
      have : ¬ (0 ≤ b ∧ b ≤ 1) := by omega
      repeat first
        | (refine Eq.trans (if_pos ?_) ?_; · first | omega | (simp (disch := omega) only [p_isIn, this, Int.reduceLT, Int.reduceLE, Int.reduceEq, Int.reduceNe, Int.reduceNeg, Int.reduceAdd, Int.reduceSub, Int.reduceMul, Int.reduceGE, Int.reduceGT, Nat.reduceEqDiff, Nat.reduceAdd, and_true, true_and, and_self, not_true_eq_false, not_false_eq_true, ne_eq, and_false, false_and, or_false, or_true, false_or, true_or, vx_some, eq_self, ↓reduceIte, ite_t1, ite_t2, ite_t3, le_T, le_F, lt_T, lt_F, ge_T, ge_F, gt_T, gt_F, eq_T, eq_F, w32_i, kd_1, kd_2, kd_3, kd_4, kd_5, kd_6, kd_7, kd_14, kd_15, kd_16, kd_29, kd_34, kd_56, kd_74, kd_75, kd_76, kd_77, kd_78, kd_79, kd_80, kd_81, kd_82, kd_83, kd_84, kd_85, kd_86, kd_87, kd_88, kd_89, kd_90, kd_91, kd_92, kd_93, kd_94, kd_95, kd_96, kd_97, kd_98, kd_99, kd_100, kd_101, kd_102, kd_103, kd_104, kd_105, kd_106, kd_107, kd_108]; done))
        | (refine Eq.trans (if_neg ?_) ?_; · first | omega | (simp (disch := omega) only [p_isIn, this, Int.reduceLT, Int.reduceLE, Int.reduceEq, Int.reduceNe, Int.reduceNeg, Int.reduceAdd, Int.reduceSub, Int.reduceMul, Int.reduceGE, Int.reduceGT, Nat.reduceEqDiff, Nat.reduceAdd, and_true, true_and, and_self, not_true_eq_false, not_false_eq_true, ne_eq, and_false, false_and, or_false, or_true, false_or, true_or, vx_some, eq_self, ↓reduceIte, ite_t1, ite_t2, ite_t3, le_T, le_F, lt_T, lt_F, ge_T, ge_F, gt_T, gt_F, eq_T, eq_F, w32_i, kd_1, kd_2, kd_3, kd_4, kd_5, kd_6, kd_7, kd_14, kd_15, kd_16, kd_29, kd_34, kd_56, kd_74, kd_75, kd_76, kd_77, kd_78, kd_79, kd_80, kd_81, kd_82, kd_83, kd_84, kd_85, kd_86, kd_87, kd_88, kd_89, kd_90, kd_91, kd_92, kd_93, kd_94, kd_95, kd_96, kd_97, kd_98, kd_99, kd_100, kd_101, kd_102, kd_103, kd_104, kd_105, kd_106, kd_107, kd_108]; done))
        | (refine Eq.trans (bnd (r := ?_) ?_) ?_; rotate_left 1; (focus (simp (disch := omega) only [p_isIn, this, Int.reduceLT, Int.reduceLE, Int.reduceEq, Int.reduceNe, Int.reduceNeg, Int.reduceAdd, Int.reduceSub, Int.reduceMul, Int.reduceGE, Int.reduceGT, Nat.reduceEqDiff, Nat.reduceAdd, and_true, true_and, and_self, not_true_eq_false, not_false_eq_true, ne_eq, and_false, false_and, or_false, or_true, false_or, true_or, vx_some, eq_self, ↓reduceIte, ite_t1, ite_t2, ite_t3, le_T, le_F, lt_T, lt_F, ge_T, ge_F, gt_T, gt_F, eq_T, eq_F, w32_i, kd_1, kd_2, kd_3, kd_4, kd_5, kd_6, kd_7, kd_14, kd_15, kd_16, kd_29, kd_34, kd_56, kd_74, kd_75, kd_76, kd_77, kd_78, kd_79, kd_80, kd_81, kd_82, kd_83, kd_84, kd_85, kd_86, kd_87, kd_88, kd_89, kd_90, kd_91, kd_92, kd_93, kd_94, kd_95, kd_96, kd_97, kd_98, kd_99, kd_100, kd_101, kd_102, kd_103, kd_104, kd_105, kd_106, kd_107, kd_108]; exact rfl)); simp only [vx_some])
      all_goals first | rfl | (simp (disch := omega) only [Int.reduceLT, Int.reduceLE, Int.reduceEq, Int.reduceNe, Int.reduceNeg, Int.reduceAdd, Int.reduceSub, Int.reduceMul, Int.reduceGE, Int.reduceGT, Nat.reduceEqDiff, Nat.reduceAdd, and_true, true_and, and_self, not_true_eq_false, not_false_eq_true, ne_eq, and_false, false_and, or_false, or_true, false_or, true_or, vx_some, eq_self, ↓reduceIte, ite_t1, ite_t2, ite_t3, le_T, le_F, lt_T, lt_F, ge_T, ge_F, gt_T, gt_F, eq_T, eq_F, w32_i]; done)
theorem k_back {i : Int} {h : Hq} {b : Int} (I : INV i h) (hi : i < 600) : OKC i 160 306 [(0, b)] h := by
  have F := I.fx
  have K := I.kl
  have kc := K.1
  by_cases q : 0 ≤ b ∧ b < 2
  · have G := I.im b q.1 q.2
    by_cases hz : h.2 29 b = 1
    · have G2 := G.2.2 hz
      have c65 : h.2 6 5 = (h.2 90 3).toNat := by have := I.st.1; omega
      have N6 : (h.2 90 3).toNat ≤ 6 := by omega
      have cI := c_backI F q.1 q.2 c65 N6
      have eO : ∀ c k : Int, ¬ (8 ≤ c ∧ c ≤ 13) → cpr h.2 (17 + b * 6) 8 (h.2 90 3).toNat c k = h.2 c k := fun c k hc => cpr_o _ (by omega)
      have eI : ∀ s p : Int, 0 ≤ s → s < h.2 90 3 → 0 ≤ p → p < 400 → cpr h.2 (17 + b * 6) 8 (h.2 90 3).toNat (8 + s) p = h.2 (17 + 6 * b + s) p := fun s p s0 s1 p0 p1 => by
        rw [cpr_r p0 p1 s0 _ (by omega) (by omega), show 17 + b * 6 + s = 17 + 6 * b + s by omega]
      generalize cpr h.2 (17 + b * 6) 8 (h.2 90 3).toNat = M0 at *
      have F0 : FX M0 := F.fr (fun c k q => eO c k (by unfold FXP at q; omega))
      obtain ⟨M, hM⟩ : ∃ M, M = stm (stm M0 74 2 0) 74 3 0 := ⟨_, rfl⟩
      have cC : vm 1 [(2, 74)] (h.1, M0) = some (none, (h.1, M)) := by rw [c_actsClear, hM]
      have fO : ∀ c k : Int, ¬ (8 ≤ c ∧ c ≤ 13) → ¬ (c = 74 ∧ (k = 2 ∨ k = 3)) → M c k = h.2 c k := fun c k h0 h1 => by
        rw [hM, stm_ap, if_neg (by omega), stm_ap, if_neg (by omega), eO c k h0]
      have fI : ∀ s p : Int, 0 ≤ s → s < h.2 90 3 → 0 ≤ p → p < 400 → M (8 + s) p = h.2 (17 + 6 * b + s) p := fun s p s0 s1 p0 p1 => by
        rw [hM, stm_ap, if_neg (by omega), stm_ap, if_neg (by omega), eI s p s0 s1 p0 p1]
      have f2 : M 74 2 = 0 := by rw [hM, stm_ap, if_neg (by omega), stm_same]
      have f3 : M 74 3 = 0 := by rw [hM, stm_same]
      have F1 : FX M := F.fr (fun c k q => fO c k (by unfold FXP at q; omega) (by unfold FXP at q; omega))
      have S1 : SH M := I.sh.fr (fun c k q => fO c k (by unfold SHP at q; omega) (by unfold SHP at q; omega))
      have m90 : M 90 = h.2 90 := funext fun k => fO 90 k (by omega) (by omega)
      have m94 : M 94 = h.2 94 := funext fun k => fO 94 k (by omega) (by omega)
      have N1 : NUM M (fun s p => h.2 106 (2400 * b + (400 * s + p))) := fun s p s0 s1 p0 p1 => by
        rw [m90] at s1
        rw [m94] at p1
        have rw' := K.rw s0 s1 p0 p1
        rw [fI s p s0 s1 p0 rw'.2.1]
        exact (G2 s p s0 s1 p0 p1).num
      have z := c_rem (h := (h.1, M)) F1 S1.2.1 S1.2.2.2.1 N1
      dsimp only at z
      rw [m90, m94] at z
      have eF : ∀ c k : Int, ¬ (8 ≤ c ∧ c ≤ 13) → ¬ (c = 74 ∧ (k = 2 ∨ k = 3)) → ¬ (97 ≤ c ∧ c ≤ 98) → ¬ (c = 88 ∧ k = 26) → stm (ib M b 2400) 88 26 0 c k = h.2 c k := fun c k h0 h1 h2 h3 => by
        rw [stm_ap, if_neg h3, ib_o (by omega) (by omega), fO c k h0 h1]
      have e97 : ∀ q, 0 ≤ q → q < 2400 → stm (ib M b 2400) 88 26 0 97 q = h.2 106 (2400 * b + q) := fun q q0 q1 => by
        rw [stm_ap, if_neg (by omega), ib_97 _ _ _ q0 q1, fO 106 _ (by omega) (by omega)]
      have e98 : ∀ q, 0 ≤ q → q < 2400 → stm (ib M b 2400) 88 26 0 98 q = h.2 107 (2400 * b + q) := fun q q0 q1 => by
        rw [stm_ap, if_neg (by omega), ib_98 _ _ _ q0 q1, fO 107 _ (by omega) (by omega)]
      have g90 : stm (ib M b 2400) 88 26 0 90 = h.2 90 := funext fun k => eF 90 k (by omega) (by omega) (by omega) (by omega)
      have g94 : stm (ib M b 2400) 88 26 0 94 = h.2 94 := funext fun k => eF 94 k (by omega) (by omega) (by omega) (by omega)
      have F2 : FX (stm (ib M b 2400) 88 26 0) := F.fr (fun c k q => eF c k (by unfold FXP at q; omega) (by unfold FXP at q; omega) (by unfold FXP at q; omega) (by unfold FXP at q; omega))
      have S2 : SH (stm (ib M b 2400) 88 26 0) := I.sh.fr (fun c k q => eF c k (by unfold SHP at q; omega) (by unfold SHP at q; omega) (by unfold SHP at q; omega) (by unfold SHP at q; omega))
      have R2 : ROWS (stm (ib M b 2400) 88 26 0) := by
        intro s p s0 s1 p0 p1
        rw [g90] at s1
        rw [g94] at p1
        have qq := K.q s0 s1 p0 p1
        have rw' := K.rw s0 s1 p0 p1
        rw [eF 93 s (by omega) (by omega) (by omega) (by omega), e97 _ qq.1 qq.2, e98 _ qq.1 qq.2, stm_ap, if_neg (by omega), ib_o (by omega) (by omega), fI s p s0 s1 p0 rw'.2.1]
        exact G2 s p s0 s1 p0 p1
      have y0 := p_rem (h := (h.1, stm (ib M b 2400) 88 26 0)) F2 S2.2.1 R2
      dsimp only at y0
      rw [g90, g94] at y0
      have et : tots (fun s p => stm (ib M b 2400) 88 26 0 97 (400 * s + p)) (h.2 94) (h.2 90 3).toNat = tots (fun s p => h.2 106 (2400 * b + (400 * s + p))) (h.2 94) (h.2 90 3).toNat := tots_ext _ (fun s s0 s1 => ⟨rfl, (K.2 s s0 (by omega)).2.1.1, fun p p0 p1 => by
        have qq := K.q s0 (by omega) p0 p1
        exact e97 _ qq.1 qq.2⟩)
      rw [et] at y0
      have y := p_back22 (h := (h.1, M)) F1 q.1 q.2 y0 2400 0 rfl
      rw [show (((0 : Nat) : Int)) = 0 from rfl] at y
      unfold ib at y
      rw [cp2_0] at y
      have I1 := I.up hi
      have ir := I.ir
      have m39 : M 108 b = 1 := by rw [fO 108 b (by omega) (by omega), G.2.1, hz]
      refine ⟨(0, tots (fun s p => h.2 106 (2400 * b + (400 * s + p))) (h.2 94) (h.2 90 3).toNat % 1000003), (h.1, M), (h.1, stm (ib M b 2400) 88 26 0), ?_, ?_, funext fun k => fO (-1) k (by omega) (by omega), funext fun k => eF (-1) k (by omega) (by omega) (by omega) (by omega), ?_⟩
      · rw [e_X11_back]
        repeat first
          | (refine Eq.trans (if_pos ?_) ?_; · first | omega | (simp (disch := omega) only [F.c1_0, F.c1_2, F.c1_5, F.c1_6, F.c1_7, F.c1_8, F.c1_9, F.c1_10, F.c1_11, F.c3_0, F.c4_0, F.c6_0, F.c6_1, F.c6_2, F.c6_3, F.c6_4, F.c74_0, F.c74_1, F.c77_0, F.c77_1, F.c80_0, F.c80_1, F.c83_0, F.c86_0, hz, cI, F0.c1_6, cC, z, Int.reduceLT, Int.reduceLE, Int.reduceEq, Int.reduceNe, Int.reduceNeg, Int.reduceAdd, Int.reduceSub, Int.reduceMul, Int.reduceGE, Int.reduceGT, Nat.reduceEqDiff, Nat.reduceAdd, and_true, true_and, and_self, not_true_eq_false, not_false_eq_true, ne_eq, and_false, false_and, or_false, or_true, false_or, true_or, vx_some, eq_self, ↓reduceIte, ite_t1, ite_t2, ite_t3, le_T, le_F, lt_T, lt_F, ge_T, ge_F, gt_T, gt_F, eq_T, eq_F, w32_i, kd_1, kd_2, kd_3, kd_4, kd_5, kd_6, kd_7, kd_14, kd_15, kd_16, kd_29, kd_34, kd_56, kd_74, kd_75, kd_76, kd_77, kd_78, kd_79, kd_80, kd_81, kd_82, kd_83, kd_84, kd_85, kd_86, kd_87, kd_88, kd_89, kd_90, kd_91, kd_92, kd_93, kd_94, kd_95, kd_96, kd_97, kd_98, kd_99, kd_100, kd_101, kd_102, kd_103, kd_104, kd_105, kd_106, kd_107, kd_108]; done))
          | (refine Eq.trans (if_neg ?_) ?_; · first | omega | (simp (disch := omega) only [F.c1_0, F.c1_2, F.c1_5, F.c1_6, F.c1_7, F.c1_8, F.c1_9, F.c1_10, F.c1_11, F.c3_0, F.c4_0, F.c6_0, F.c6_1, F.c6_2, F.c6_3, F.c6_4, F.c74_0, F.c74_1, F.c77_0, F.c77_1, F.c80_0, F.c80_1, F.c83_0, F.c86_0, hz, cI, F0.c1_6, cC, z, Int.reduceLT, Int.reduceLE, Int.reduceEq, Int.reduceNe, Int.reduceNeg, Int.reduceAdd, Int.reduceSub, Int.reduceMul, Int.reduceGE, Int.reduceGT, Nat.reduceEqDiff, Nat.reduceAdd, and_true, true_and, and_self, not_true_eq_false, not_false_eq_true, ne_eq, and_false, false_and, or_false, or_true, false_or, true_or, vx_some, eq_self, ↓reduceIte, ite_t1, ite_t2, ite_t3, le_T, le_F, lt_T, lt_F, ge_T, ge_F, gt_T, gt_F, eq_T, eq_F, w32_i, kd_1, kd_2, kd_3, kd_4, kd_5, kd_6, kd_7, kd_14, kd_15, kd_16, kd_29, kd_34, kd_56, kd_74, kd_75, kd_76, kd_77, kd_78, kd_79, kd_80, kd_81, kd_82, kd_83, kd_84, kd_85, kd_86, kd_87, kd_88, kd_89, kd_90, kd_91, kd_92, kd_93, kd_94, kd_95, kd_96, kd_97, kd_98, kd_99, kd_100, kd_101, kd_102, kd_103, kd_104, kd_105, kd_106, kd_107, kd_108]; done))
          | (refine Eq.trans (bnd (r := ?_) ?_) ?_; rotate_left 1; (focus (simp (disch := omega) only [F.c1_0, F.c1_2, F.c1_5, F.c1_6, F.c1_7, F.c1_8, F.c1_9, F.c1_10, F.c1_11, F.c3_0, F.c4_0, F.c6_0, F.c6_1, F.c6_2, F.c6_3, F.c6_4, F.c74_0, F.c74_1, F.c77_0, F.c77_1, F.c80_0, F.c80_1, F.c83_0, F.c86_0, hz, cI, F0.c1_6, cC, z, Int.reduceLT, Int.reduceLE, Int.reduceEq, Int.reduceNe, Int.reduceNeg, Int.reduceAdd, Int.reduceSub, Int.reduceMul, Int.reduceGE, Int.reduceGT, Nat.reduceEqDiff, Nat.reduceAdd, and_true, true_and, and_self, not_true_eq_false, not_false_eq_true, ne_eq, and_false, false_and, or_false, or_true, false_or, true_or, vx_some, eq_self, ↓reduceIte, ite_t1, ite_t2, ite_t3, le_T, le_F, lt_T, lt_F, ge_T, ge_F, gt_T, gt_F, eq_T, eq_F, w32_i, kd_1, kd_2, kd_3, kd_4, kd_5, kd_6, kd_7, kd_14, kd_15, kd_16, kd_29, kd_34, kd_56, kd_74, kd_75, kd_76, kd_77, kd_78, kd_79, kd_80, kd_81, kd_82, kd_83, kd_84, kd_85, kd_86, kd_87, kd_88, kd_89, kd_90, kd_91, kd_92, kd_93, kd_94, kd_95, kd_96, kd_97, kd_98, kd_99, kd_100, kd_101, kd_102, kd_103, kd_104, kd_105, kd_106, kd_107, kd_108]; exact rfl)); simp only [vx_some])
        all_goals first | rfl | (simp (disch := omega) only [Int.reduceLT, Int.reduceLE, Int.reduceEq, Int.reduceNe, Int.reduceNeg, Int.reduceAdd, Int.reduceSub, Int.reduceMul, Int.reduceGE, Int.reduceGT, Nat.reduceEqDiff, Nat.reduceAdd, and_true, true_and, and_self, not_true_eq_false, not_false_eq_true, ne_eq, and_false, false_and, or_false, or_true, false_or, true_or, vx_some, eq_self, ↓reduceIte, ite_t1, ite_t2, ite_t3, le_T, le_F, lt_T, lt_F, ge_T, ge_F, gt_T, gt_F, eq_T, eq_F, w32_i]; done)
      · rw [e_X12_back]
        repeat first
          | (refine Eq.trans (if_pos ?_) ?_; · first | omega | (simp (disch := omega) only [p_isIn, F1.c88_39, m39, Int.reduceLT, Int.reduceLE, Int.reduceEq, Int.reduceNe, Int.reduceNeg, Int.reduceAdd, Int.reduceSub, Int.reduceMul, Int.reduceGE, Int.reduceGT, Nat.reduceEqDiff, Nat.reduceAdd, and_true, true_and, and_self, not_true_eq_false, not_false_eq_true, ne_eq, and_false, false_and, or_false, or_true, false_or, true_or, vx_some, eq_self, ↓reduceIte, ite_t1, ite_t2, ite_t3, le_T, le_F, lt_T, lt_F, ge_T, ge_F, gt_T, gt_F, eq_T, eq_F, w32_i, kd_1, kd_2, kd_3, kd_4, kd_5, kd_6, kd_7, kd_14, kd_15, kd_16, kd_29, kd_34, kd_56, kd_74, kd_75, kd_76, kd_77, kd_78, kd_79, kd_80, kd_81, kd_82, kd_83, kd_84, kd_85, kd_86, kd_87, kd_88, kd_89, kd_90, kd_91, kd_92, kd_93, kd_94, kd_95, kd_96, kd_97, kd_98, kd_99, kd_100, kd_101, kd_102, kd_103, kd_104, kd_105, kd_106, kd_107, kd_108]; done))
          | (refine Eq.trans (if_neg ?_) ?_; · first | omega | (simp (disch := omega) only [p_isIn, F1.c88_39, m39, Int.reduceLT, Int.reduceLE, Int.reduceEq, Int.reduceNe, Int.reduceNeg, Int.reduceAdd, Int.reduceSub, Int.reduceMul, Int.reduceGE, Int.reduceGT, Nat.reduceEqDiff, Nat.reduceAdd, and_true, true_and, and_self, not_true_eq_false, not_false_eq_true, ne_eq, and_false, false_and, or_false, or_true, false_or, true_or, vx_some, eq_self, ↓reduceIte, ite_t1, ite_t2, ite_t3, le_T, le_F, lt_T, lt_F, ge_T, ge_F, gt_T, gt_F, eq_T, eq_F, w32_i, kd_1, kd_2, kd_3, kd_4, kd_5, kd_6, kd_7, kd_14, kd_15, kd_16, kd_29, kd_34, kd_56, kd_74, kd_75, kd_76, kd_77, kd_78, kd_79, kd_80, kd_81, kd_82, kd_83, kd_84, kd_85, kd_86, kd_87, kd_88, kd_89, kd_90, kd_91, kd_92, kd_93, kd_94, kd_95, kd_96, kd_97, kd_98, kd_99, kd_100, kd_101, kd_102, kd_103, kd_104, kd_105, kd_106, kd_107, kd_108]; done))
          | (refine Eq.trans (bnd (r := ?_) ?_) ?_; rotate_left 1; (focus (simp (disch := omega) only [p_isIn, F1.c88_39, m39, Int.reduceLT, Int.reduceLE, Int.reduceEq, Int.reduceNe, Int.reduceNeg, Int.reduceAdd, Int.reduceSub, Int.reduceMul, Int.reduceGE, Int.reduceGT, Nat.reduceEqDiff, Nat.reduceAdd, and_true, true_and, and_self, not_true_eq_false, not_false_eq_true, ne_eq, and_false, false_and, or_false, or_true, false_or, true_or, vx_some, eq_self, ↓reduceIte, ite_t1, ite_t2, ite_t3, le_T, le_F, lt_T, lt_F, ge_T, ge_F, gt_T, gt_F, eq_T, eq_F, w32_i, kd_1, kd_2, kd_3, kd_4, kd_5, kd_6, kd_7, kd_14, kd_15, kd_16, kd_29, kd_34, kd_56, kd_74, kd_75, kd_76, kd_77, kd_78, kd_79, kd_80, kd_81, kd_82, kd_83, kd_84, kd_85, kd_86, kd_87, kd_88, kd_89, kd_90, kd_91, kd_92, kd_93, kd_94, kd_95, kd_96, kd_97, kd_98, kd_99, kd_100, kd_101, kd_102, kd_103, kd_104, kd_105, kd_106, kd_107, kd_108]; exact rfl)); simp only [vx_some])
        exact y
      · refine ⟨F2, S2, R2, ⟨?_, ?_⟩, I.im.fr (fun c k q => eF c k (by omega) (by omega) (by omega) (by omega)) (by omega), I1.ca.fr (fun c k q => eF c k (by omega) (by omega) (by omega) (by omega)), I1.ta.fr (fun c k q => eF c k (by omega) (by omega) (by omega) (by omega)), I.tp.fr (fun c k q => eF c k (by omega) (by omega) (by omega) (by omega)), I.fl.fr (fun c k q => eF c k (by omega) (by omega) (by omega) (by omega)), I.ou.fr (fun c k q => eF c k (by omega) (by omega) (by omega) (by omega)), by omega⟩
        · have R := I.rn
          have n2 : stm (ib M b 2400) 88 26 0 74 2 = 0 := by rw [stm_ap, if_neg (by omega), ib_o (by omega) (by omega), f2]
          have n3 : stm (ib M b 2400) 88 26 0 74 3 = 0 := by rw [stm_ap, if_neg (by omega), ib_o (by omega) (by omega), f3]
          show RNG h.1 (stm (ib M b 2400) 88 26 0)
          obtain ⟨a, b', c, d, e⟩ := R
          unfold RNG
          rw [n2, n3]
          refine ⟨by omega, by omega, c, fun j j0 j1 => ?_, Or.inr ⟨rfl, by omega⟩⟩
          rw [eF 75 j (by omega) (by omega) (by omega) (by omega)]
          exact d j j0 j1
        · have n3 : stm (ib M b 2400) 88 26 0 74 3 = 0 := by rw [stm_ap, if_neg (by omega), ib_o (by omega) (by omega), f3]
          show ACT (stm (ib M b 2400) 88 26 0)
          refine ⟨by rw [stm_same, n3], fun k k0 k1 => ?_⟩
          rw [n3] at k1
          omega
    · have hz0 : h.2 29 b = 0 := by have := G.1; omega
      have g2 := G.2.1
      refine OKC.ro I hi (0, -1) ?_ ?_
      · rw [e_X11_back]
        repeat first
          | (refine Eq.trans (if_pos ?_) ?_; · first | omega | (simp (disch := omega) only [F.c1_0, F.c1_2, F.c1_5, F.c1_6, F.c1_7, F.c1_8, F.c1_9, F.c1_10, F.c1_11, F.c3_0, F.c4_0, F.c6_0, F.c6_1, F.c6_2, F.c6_3, F.c6_4, F.c74_0, F.c74_1, F.c77_0, F.c77_1, F.c80_0, F.c80_1, F.c83_0, F.c86_0, hz0, Int.reduceLT, Int.reduceLE, Int.reduceEq, Int.reduceNe, Int.reduceNeg, Int.reduceAdd, Int.reduceSub, Int.reduceMul, Int.reduceGE, Int.reduceGT, Nat.reduceEqDiff, Nat.reduceAdd, and_true, true_and, and_self, not_true_eq_false, not_false_eq_true, ne_eq, and_false, false_and, or_false, or_true, false_or, true_or, vx_some, eq_self, ↓reduceIte, ite_t1, ite_t2, ite_t3, le_T, le_F, lt_T, lt_F, ge_T, ge_F, gt_T, gt_F, eq_T, eq_F, w32_i, kd_1, kd_2, kd_3, kd_4, kd_5, kd_6, kd_7, kd_14, kd_15, kd_16, kd_29, kd_34, kd_56, kd_74, kd_75, kd_76, kd_77, kd_78, kd_79, kd_80, kd_81, kd_82, kd_83, kd_84, kd_85, kd_86, kd_87, kd_88, kd_89, kd_90, kd_91, kd_92, kd_93, kd_94, kd_95, kd_96, kd_97, kd_98, kd_99, kd_100, kd_101, kd_102, kd_103, kd_104, kd_105, kd_106, kd_107, kd_108]; done))
          | (refine Eq.trans (if_neg ?_) ?_; · first | omega | (simp (disch := omega) only [F.c1_0, F.c1_2, F.c1_5, F.c1_6, F.c1_7, F.c1_8, F.c1_9, F.c1_10, F.c1_11, F.c3_0, F.c4_0, F.c6_0, F.c6_1, F.c6_2, F.c6_3, F.c6_4, F.c74_0, F.c74_1, F.c77_0, F.c77_1, F.c80_0, F.c80_1, F.c83_0, F.c86_0, hz0, Int.reduceLT, Int.reduceLE, Int.reduceEq, Int.reduceNe, Int.reduceNeg, Int.reduceAdd, Int.reduceSub, Int.reduceMul, Int.reduceGE, Int.reduceGT, Nat.reduceEqDiff, Nat.reduceAdd, and_true, true_and, and_self, not_true_eq_false, not_false_eq_true, ne_eq, and_false, false_and, or_false, or_true, false_or, true_or, vx_some, eq_self, ↓reduceIte, ite_t1, ite_t2, ite_t3, le_T, le_F, lt_T, lt_F, ge_T, ge_F, gt_T, gt_F, eq_T, eq_F, w32_i, kd_1, kd_2, kd_3, kd_4, kd_5, kd_6, kd_7, kd_14, kd_15, kd_16, kd_29, kd_34, kd_56, kd_74, kd_75, kd_76, kd_77, kd_78, kd_79, kd_80, kd_81, kd_82, kd_83, kd_84, kd_85, kd_86, kd_87, kd_88, kd_89, kd_90, kd_91, kd_92, kd_93, kd_94, kd_95, kd_96, kd_97, kd_98, kd_99, kd_100, kd_101, kd_102, kd_103, kd_104, kd_105, kd_106, kd_107, kd_108]; done))
          | (refine Eq.trans (bnd (r := ?_) ?_) ?_; rotate_left 1; (focus (simp (disch := omega) only [F.c1_0, F.c1_2, F.c1_5, F.c1_6, F.c1_7, F.c1_8, F.c1_9, F.c1_10, F.c1_11, F.c3_0, F.c4_0, F.c6_0, F.c6_1, F.c6_2, F.c6_3, F.c6_4, F.c74_0, F.c74_1, F.c77_0, F.c77_1, F.c80_0, F.c80_1, F.c83_0, F.c86_0, hz0, Int.reduceLT, Int.reduceLE, Int.reduceEq, Int.reduceNe, Int.reduceNeg, Int.reduceAdd, Int.reduceSub, Int.reduceMul, Int.reduceGE, Int.reduceGT, Nat.reduceEqDiff, Nat.reduceAdd, and_true, true_and, and_self, not_true_eq_false, not_false_eq_true, ne_eq, and_false, false_and, or_false, or_true, false_or, true_or, vx_some, eq_self, ↓reduceIte, ite_t1, ite_t2, ite_t3, le_T, le_F, lt_T, lt_F, ge_T, ge_F, gt_T, gt_F, eq_T, eq_F, w32_i, kd_1, kd_2, kd_3, kd_4, kd_5, kd_6, kd_7, kd_14, kd_15, kd_16, kd_29, kd_34, kd_56, kd_74, kd_75, kd_76, kd_77, kd_78, kd_79, kd_80, kd_81, kd_82, kd_83, kd_84, kd_85, kd_86, kd_87, kd_88, kd_89, kd_90, kd_91, kd_92, kd_93, kd_94, kd_95, kd_96, kd_97, kd_98, kd_99, kd_100, kd_101, kd_102, kd_103, kd_104, kd_105, kd_106, kd_107, kd_108]; exact rfl)); simp only [vx_some])
        all_goals first | rfl | (simp (disch := omega) only [Int.reduceLT, Int.reduceLE, Int.reduceEq, Int.reduceNe, Int.reduceNeg, Int.reduceAdd, Int.reduceSub, Int.reduceMul, Int.reduceGE, Int.reduceGT, Nat.reduceEqDiff, Nat.reduceAdd, and_true, true_and, and_self, not_true_eq_false, not_false_eq_true, ne_eq, and_false, false_and, or_false, or_true, false_or, true_or, vx_some, eq_self, ↓reduceIte, ite_t1, ite_t2, ite_t3, le_T, le_F, lt_T, lt_F, ge_T, ge_F, gt_T, gt_F, eq_T, eq_F, w32_i]; done)
      · rw [e_X12_back]
        repeat first
          | (refine Eq.trans (if_pos ?_) ?_; · first | omega | (simp (disch := omega) only [p_isIn, F.c88_0, F.c88_13, F.c88_14, F.c88_15, F.c88_16, F.c88_17, F.c88_18, F.c88_19, F.c88_22, F.c88_23, F.c88_24, F.c88_25, F.c88_27, F.c88_28, F.c88_31, F.c88_32, F.c88_33, F.c88_37, F.c88_38, F.c88_39, g2, hz0, Int.reduceLT, Int.reduceLE, Int.reduceEq, Int.reduceNe, Int.reduceNeg, Int.reduceAdd, Int.reduceSub, Int.reduceMul, Int.reduceGE, Int.reduceGT, Nat.reduceEqDiff, Nat.reduceAdd, and_true, true_and, and_self, not_true_eq_false, not_false_eq_true, ne_eq, and_false, false_and, or_false, or_true, false_or, true_or, vx_some, eq_self, ↓reduceIte, ite_t1, ite_t2, ite_t3, le_T, le_F, lt_T, lt_F, ge_T, ge_F, gt_T, gt_F, eq_T, eq_F, w32_i, kd_1, kd_2, kd_3, kd_4, kd_5, kd_6, kd_7, kd_14, kd_15, kd_16, kd_29, kd_34, kd_56, kd_74, kd_75, kd_76, kd_77, kd_78, kd_79, kd_80, kd_81, kd_82, kd_83, kd_84, kd_85, kd_86, kd_87, kd_88, kd_89, kd_90, kd_91, kd_92, kd_93, kd_94, kd_95, kd_96, kd_97, kd_98, kd_99, kd_100, kd_101, kd_102, kd_103, kd_104, kd_105, kd_106, kd_107, kd_108]; done))
          | (refine Eq.trans (if_neg ?_) ?_; · first | omega | (simp (disch := omega) only [p_isIn, F.c88_0, F.c88_13, F.c88_14, F.c88_15, F.c88_16, F.c88_17, F.c88_18, F.c88_19, F.c88_22, F.c88_23, F.c88_24, F.c88_25, F.c88_27, F.c88_28, F.c88_31, F.c88_32, F.c88_33, F.c88_37, F.c88_38, F.c88_39, g2, hz0, Int.reduceLT, Int.reduceLE, Int.reduceEq, Int.reduceNe, Int.reduceNeg, Int.reduceAdd, Int.reduceSub, Int.reduceMul, Int.reduceGE, Int.reduceGT, Nat.reduceEqDiff, Nat.reduceAdd, and_true, true_and, and_self, not_true_eq_false, not_false_eq_true, ne_eq, and_false, false_and, or_false, or_true, false_or, true_or, vx_some, eq_self, ↓reduceIte, ite_t1, ite_t2, ite_t3, le_T, le_F, lt_T, lt_F, ge_T, ge_F, gt_T, gt_F, eq_T, eq_F, w32_i, kd_1, kd_2, kd_3, kd_4, kd_5, kd_6, kd_7, kd_14, kd_15, kd_16, kd_29, kd_34, kd_56, kd_74, kd_75, kd_76, kd_77, kd_78, kd_79, kd_80, kd_81, kd_82, kd_83, kd_84, kd_85, kd_86, kd_87, kd_88, kd_89, kd_90, kd_91, kd_92, kd_93, kd_94, kd_95, kd_96, kd_97, kd_98, kd_99, kd_100, kd_101, kd_102, kd_103, kd_104, kd_105, kd_106, kd_107, kd_108]; done))
          | (refine Eq.trans (bnd (r := ?_) ?_) ?_; rotate_left 1; (focus (simp (disch := omega) only [p_isIn, F.c88_0, F.c88_13, F.c88_14, F.c88_15, F.c88_16, F.c88_17, F.c88_18, F.c88_19, F.c88_22, F.c88_23, F.c88_24, F.c88_25, F.c88_27, F.c88_28, F.c88_31, F.c88_32, F.c88_33, F.c88_37, F.c88_38, F.c88_39, g2, hz0, Int.reduceLT, Int.reduceLE, Int.reduceEq, Int.reduceNe, Int.reduceNeg, Int.reduceAdd, Int.reduceSub, Int.reduceMul, Int.reduceGE, Int.reduceGT, Nat.reduceEqDiff, Nat.reduceAdd, and_true, true_and, and_self, not_true_eq_false, not_false_eq_true, ne_eq, and_false, false_and, or_false, or_true, false_or, true_or, vx_some, eq_self, ↓reduceIte, ite_t1, ite_t2, ite_t3, le_T, le_F, lt_T, lt_F, ge_T, ge_F, gt_T, gt_F, eq_T, eq_F, w32_i, kd_1, kd_2, kd_3, kd_4, kd_5, kd_6, kd_7, kd_14, kd_15, kd_16, kd_29, kd_34, kd_56, kd_74, kd_75, kd_76, kd_77, kd_78, kd_79, kd_80, kd_81, kd_82, kd_83, kd_84, kd_85, kd_86, kd_87, kd_88, kd_89, kd_90, kd_91, kd_92, kd_93, kd_94, kd_95, kd_96, kd_97, kd_98, kd_99, kd_100, kd_101, kd_102, kd_103, kd_104, kd_105, kd_106, kd_107, kd_108]; exact rfl)); simp only [vx_some])
        all_goals first | rfl | (simp (disch := omega) only [Int.reduceLT, Int.reduceLE, Int.reduceEq, Int.reduceNe, Int.reduceNeg, Int.reduceAdd, Int.reduceSub, Int.reduceMul, Int.reduceGE, Int.reduceGT, Nat.reduceEqDiff, Nat.reduceAdd, and_true, true_and, and_self, not_true_eq_false, not_false_eq_true, ne_eq, and_false, false_and, or_false, or_true, false_or, true_or, vx_some, eq_self, ↓reduceIte, ite_t1, ite_t2, ite_t3, le_T, le_F, lt_T, lt_F, ge_T, ge_F, gt_T, gt_F, eq_T, eq_F, w32_i]; done)
  · refine OKC.ro I hi (0, -1) ?_ ?_
    · rw [e_X11_back]
      by_cases w : b < 0
      · rw [if_pos w]
      · rw [if_neg w, if_pos (by omega)]
    · rw [e_X12_back]
      have : ¬ (0 ≤ b ∧ b ≤ 1) := by omega
      repeat first
        | (refine Eq.trans (if_pos ?_) ?_; · first | omega | (simp (disch := omega) only [p_isIn, this, Int.reduceLT, Int.reduceLE, Int.reduceEq, Int.reduceNe, Int.reduceNeg, Int.reduceAdd, Int.reduceSub, Int.reduceMul, Int.reduceGE, Int.reduceGT, Nat.reduceEqDiff, Nat.reduceAdd, and_true, true_and, and_self, not_true_eq_false, not_false_eq_true, ne_eq, and_false, false_and, or_false, or_true, false_or, true_or, vx_some, eq_self, ↓reduceIte, ite_t1, ite_t2, ite_t3, le_T, le_F, lt_T, lt_F, ge_T, ge_F, gt_T, gt_F, eq_T, eq_F, w32_i, kd_1, kd_2, kd_3, kd_4, kd_5, kd_6, kd_7, kd_14, kd_15, kd_16, kd_29, kd_34, kd_56, kd_74, kd_75, kd_76, kd_77, kd_78, kd_79, kd_80, kd_81, kd_82, kd_83, kd_84, kd_85, kd_86, kd_87, kd_88, kd_89, kd_90, kd_91, kd_92, kd_93, kd_94, kd_95, kd_96, kd_97, kd_98, kd_99, kd_100, kd_101, kd_102, kd_103, kd_104, kd_105, kd_106, kd_107, kd_108]; done))
        | (refine Eq.trans (if_neg ?_) ?_; · first | omega | (simp (disch := omega) only [p_isIn, this, Int.reduceLT, Int.reduceLE, Int.reduceEq, Int.reduceNe, Int.reduceNeg, Int.reduceAdd, Int.reduceSub, Int.reduceMul, Int.reduceGE, Int.reduceGT, Nat.reduceEqDiff, Nat.reduceAdd, and_true, true_and, and_self, not_true_eq_false, not_false_eq_true, ne_eq, and_false, false_and, or_false, or_true, false_or, true_or, vx_some, eq_self, ↓reduceIte, ite_t1, ite_t2, ite_t3, le_T, le_F, lt_T, lt_F, ge_T, ge_F, gt_T, gt_F, eq_T, eq_F, w32_i, kd_1, kd_2, kd_3, kd_4, kd_5, kd_6, kd_7, kd_14, kd_15, kd_16, kd_29, kd_34, kd_56, kd_74, kd_75, kd_76, kd_77, kd_78, kd_79, kd_80, kd_81, kd_82, kd_83, kd_84, kd_85, kd_86, kd_87, kd_88, kd_89, kd_90, kd_91, kd_92, kd_93, kd_94, kd_95, kd_96, kd_97, kd_98, kd_99, kd_100, kd_101, kd_102, kd_103, kd_104, kd_105, kd_106, kd_107, kd_108]; done))
        | (refine Eq.trans (bnd (r := ?_) ?_) ?_; rotate_left 1; (focus (simp (disch := omega) only [p_isIn, this, Int.reduceLT, Int.reduceLE, Int.reduceEq, Int.reduceNe, Int.reduceNeg, Int.reduceAdd, Int.reduceSub, Int.reduceMul, Int.reduceGE, Int.reduceGT, Nat.reduceEqDiff, Nat.reduceAdd, and_true, true_and, and_self, not_true_eq_false, not_false_eq_true, ne_eq, and_false, false_and, or_false, or_true, false_or, true_or, vx_some, eq_self, ↓reduceIte, ite_t1, ite_t2, ite_t3, le_T, le_F, lt_T, lt_F, ge_T, ge_F, gt_T, gt_F, eq_T, eq_F, w32_i, kd_1, kd_2, kd_3, kd_4, kd_5, kd_6, kd_7, kd_14, kd_15, kd_16, kd_29, kd_34, kd_56, kd_74, kd_75, kd_76, kd_77, kd_78, kd_79, kd_80, kd_81, kd_82, kd_83, kd_84, kd_85, kd_86, kd_87, kd_88, kd_89, kd_90, kd_91, kd_92, kd_93, kd_94, kd_95, kd_96, kd_97, kd_98, kd_99, kd_100, kd_101, kd_102, kd_103, kd_104, kd_105, kd_106, kd_107, kd_108]; exact rfl)); simp only [vx_some])
      all_goals first | rfl | (simp (disch := omega) only [Int.reduceLT, Int.reduceLE, Int.reduceEq, Int.reduceNe, Int.reduceNeg, Int.reduceAdd, Int.reduceSub, Int.reduceMul, Int.reduceGE, Int.reduceGT, Nat.reduceEqDiff, Nat.reduceAdd, and_true, true_and, and_self, not_true_eq_false, not_false_eq_true, ne_eq, and_false, false_and, or_false, or_true, false_or, true_or, vx_some, eq_self, ↓reduceIte, ite_t1, ite_t2, ite_t3, le_T, le_F, lt_T, lt_F, ge_T, ge_F, gt_T, gt_F, eq_T, eq_F, w32_i]; done)
