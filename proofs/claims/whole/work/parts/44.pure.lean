/-! THE PURE PART: poke, put -/
theorem p_places38 {n : Int} {M : Mm} (F : FX M) {io k v w x : Int} {z1 z2 : Vl} {f g : Int → Int} (k0 : 0 ≤ k) (k1 : k < 2400) (hx : x = 0 ∨ x = 1) (hw : w = 0 ∨ w = 1) : vp 222 38 [(2, 88), z1, z2, (0, v), (0, w), (0, k)] [(0, x), (2, 88)] (n, mdM M io f g) = some (none, (n, mdM M x (up1 f k (if w = 0 then -1 else v)) (up1 g k w))) := by
  have e1 : ∀ x f g, mdM M x f g 88 22 = 97 := fun x f g => (F.md (io := x) (f := f) (g := g)).c88_22
  have e2 : ∀ x f g, mdM M x f g 88 23 = 98 := fun x f g => (F.md (io := x) (f := f) (g := g)).c88_23
  rw [e_X12_places_38]
  rcases hw with rfl | rfl
  · rcases hx with rfl | rfl <;> simp (disch := omega) only [↓if_pos, ↓if_neg, Int.reduceLT, Int.reduceLE, Int.reduceEq, Int.reduceNe, Int.reduceNeg, Int.reduceAdd, Int.reduceSub, Int.reduceMul, Int.reduceGE, Int.reduceGT, Nat.reduceEqDiff, Nat.reduceAdd, and_true, true_and, and_self, not_true_eq_false, not_false_eq_true, ne_eq, and_false, false_and, or_false, or_true, false_or, true_or, Option.bind_some, vx_some, eq_self, ↓reduceIte, ite_t1, ite_t2, ite_t3, ite_t4, kd_1, kd_2, kd_3, kd_4, kd_5, kd_6, kd_7, kd_14, kd_15, kd_16, kd_29, kd_34, kd_56, kd_74, kd_75, kd_76, kd_77, kd_78, kd_79, kd_80, kd_81, kd_82, kd_83, kd_84, kd_85, kd_86, kd_87, kd_88, kd_89, kd_90, kd_91, kd_92, kd_93, kd_94, kd_95, kd_96, kd_97, kd_98, kd_99, kd_100, kd_101, kd_102, kd_103, kd_104, kd_105, kd_106, kd_107, kd_108,  mdM_29s, e1, e2, mdM_97s, mdM_98s, p_truth]
  · rcases hx with rfl | rfl <;> simp (disch := omega) only [↓if_pos, ↓if_neg, Int.reduceLT, Int.reduceLE, Int.reduceEq, Int.reduceNe, Int.reduceNeg, Int.reduceAdd, Int.reduceSub, Int.reduceMul, Int.reduceGE, Int.reduceGT, Nat.reduceEqDiff, Nat.reduceAdd, and_true, true_and, and_self, not_true_eq_false, not_false_eq_true, ne_eq, and_false, false_and, or_false, or_true, false_or, true_or, Option.bind_some, vx_some, eq_self, ↓reduceIte, ite_t1, ite_t2, ite_t3, ite_t4, kd_1, kd_2, kd_3, kd_4, kd_5, kd_6, kd_7, kd_14, kd_15, kd_16, kd_29, kd_34, kd_56, kd_74, kd_75, kd_76, kd_77, kd_78, kd_79, kd_80, kd_81, kd_82, kd_83, kd_84, kd_85, kd_86, kd_87, kd_88, kd_89, kd_90, kd_91, kd_92, kd_93, kd_94, kd_95, kd_96, kd_97, kd_98, kd_99, kd_100, kd_101, kd_102, kd_103, kd_104, kd_105, kd_106, kd_107, kd_108,  mdM_29s, e1, e2, mdM_97s, mdM_98s, p_truth]
theorem p_places {n : Int} {M : Mm} (F : FX M) {io s p v w : Int} {f g : Int → Int} (s0 : 0 ≤ s) (s1 : s < 6) (p0 : 0 ≤ p) (p1 : p < 400) (hw : w = 0 ∨ w = 1) : vm 222 [(2, 88), (0, s), (0, p), (0, v), (0, w)] (n, mdM M io f g) = some (none, (n, mdM M (if io ≠ 0 ∨ w ≠ 0 ∨ g (400 * s + p) = 1 then 1 else 0) (up1 f (400 * s + p) (if w = 0 then -1 else v)) (up1 g (400 * s + p) w))) := by
  have e2 : ∀ x f g, mdM M x f g 88 23 = 98 := fun x f g => (F.md (io := x) (f := f) (g := g)).c88_23
  have k0 : 0 ≤ 400 * s + p := by omega
  have k1 : 400 * s + p < 2400 := by omega
  rw [e_X12_places]
  by_cases q : io = 0
  · by_cases z : w = 0
    · subst z
      by_cases u : g (400 * s + p) = 1
      · simp (disch := omega) only [↓if_pos, ↓if_neg, Int.reduceLT, Int.reduceLE, Int.reduceEq, Int.reduceNe, Int.reduceNeg, Int.reduceAdd, Int.reduceSub, Int.reduceMul, Int.reduceGE, Int.reduceGT, Nat.reduceEqDiff, Nat.reduceAdd, and_true, true_and, and_self, not_true_eq_false, not_false_eq_true, ne_eq, and_false, false_and, or_false, or_true, false_or, true_or, Option.bind_some, vx_some, eq_self, ↓reduceIte, ite_t1, ite_t2, ite_t3, ite_t4, kd_1, kd_2, kd_3, kd_4, kd_5, kd_6, kd_7, kd_14, kd_15, kd_16, kd_29, kd_34, kd_56, kd_74, kd_75, kd_76, kd_77, kd_78, kd_79, kd_80, kd_81, kd_82, kd_83, kd_84, kd_85, kd_86, kd_87, kd_88, kd_89, kd_90, kd_91, kd_92, kd_93, kd_94, kd_95, kd_96, kd_97, kd_98, kd_99, kd_100, kd_101, kd_102, kd_103, kd_104, kd_105, kd_106, kd_107, kd_108,  mdM_29, q, w32_i, e2, mdM_98, u, if_pos]
        rw [p_places38 F k0 k1 (by omega) (by omega)]
        simp
      · simp (disch := omega) only [↓if_pos, ↓if_neg, Int.reduceLT, Int.reduceLE, Int.reduceEq, Int.reduceNe, Int.reduceNeg, Int.reduceAdd, Int.reduceSub, Int.reduceMul, Int.reduceGE, Int.reduceGT, Nat.reduceEqDiff, Nat.reduceAdd, and_true, true_and, and_self, not_true_eq_false, not_false_eq_true, ne_eq, and_false, false_and, or_false, or_true, false_or, true_or, Option.bind_some, vx_some, eq_self, ↓reduceIte, ite_t1, ite_t2, ite_t3, ite_t4, kd_1, kd_2, kd_3, kd_4, kd_5, kd_6, kd_7, kd_14, kd_15, kd_16, kd_29, kd_34, kd_56, kd_74, kd_75, kd_76, kd_77, kd_78, kd_79, kd_80, kd_81, kd_82, kd_83, kd_84, kd_85, kd_86, kd_87, kd_88, kd_89, kd_90, kd_91, kd_92, kd_93, kd_94, kd_95, kd_96, kd_97, kd_98, kd_99, kd_100, kd_101, kd_102, kd_103, kd_104, kd_105, kd_106, kd_107, kd_108,  mdM_29, q, w32_i, e2, mdM_98, u, if_neg]
        rw [p_places38 F k0 k1 (by omega) (by omega)]
        simp
    · simp (disch := omega) only [↓if_pos, ↓if_neg, Int.reduceLT, Int.reduceLE, Int.reduceEq, Int.reduceNe, Int.reduceNeg, Int.reduceAdd, Int.reduceSub, Int.reduceMul, Int.reduceGE, Int.reduceGT, Nat.reduceEqDiff, Nat.reduceAdd, and_true, true_and, and_self, not_true_eq_false, not_false_eq_true, ne_eq, and_false, false_and, or_false, or_true, false_or, true_or, Option.bind_some, vx_some, eq_self, ↓reduceIte, ite_t1, ite_t2, ite_t3, ite_t4, kd_1, kd_2, kd_3, kd_4, kd_5, kd_6, kd_7, kd_14, kd_15, kd_16, kd_29, kd_34, kd_56, kd_74, kd_75, kd_76, kd_77, kd_78, kd_79, kd_80, kd_81, kd_82, kd_83, kd_84, kd_85, kd_86, kd_87, kd_88, kd_89, kd_90, kd_91, kd_92, kd_93, kd_94, kd_95, kd_96, kd_97, kd_98, kd_99, kd_100, kd_101, kd_102, kd_103, kd_104, kd_105, kd_106, kd_107, kd_108,  mdM_29, q, w32_i, e2, mdM_98, z]
      rw [p_places38 F k0 k1 (by omega) (by omega)]
      simp [z]
  · simp (disch := omega) only [↓if_pos, ↓if_neg, Int.reduceLT, Int.reduceLE, Int.reduceEq, Int.reduceNe, Int.reduceNeg, Int.reduceAdd, Int.reduceSub, Int.reduceMul, Int.reduceGE, Int.reduceGT, Nat.reduceEqDiff, Nat.reduceAdd, and_true, true_and, and_self, not_true_eq_false, not_false_eq_true, ne_eq, and_false, false_and, or_false, or_true, false_or, true_or, Option.bind_some, vx_some, eq_self, ↓reduceIte, ite_t1, ite_t2, ite_t3, ite_t4, kd_1, kd_2, kd_3, kd_4, kd_5, kd_6, kd_7, kd_14, kd_15, kd_16, kd_29, kd_34, kd_56, kd_74, kd_75, kd_76, kd_77, kd_78, kd_79, kd_80, kd_81, kd_82, kd_83, kd_84, kd_85, kd_86, kd_87, kd_88, kd_89, kd_90, kd_91, kd_92, kd_93, kd_94, kd_95, kd_96, kd_97, kd_98, kd_99, kd_100, kd_101, kd_102, kd_103, kd_104, kd_105, kd_106, kd_107, kd_108,  mdM_29, q, w32_i, e2, mdM_98]
    rw [p_places38 F k0 k1 (by omega) (by omega)]
theorem p_boxes {n : Int} {M : Mm} (F : FX M) {io s p v b : Int} {f g : Int → Int} (s0 : 0 ≤ s) (s1 : s < 6) (p0 : 0 ≤ p) (p1 : p < 400) (b0 : 0 ≤ b) (b1 : b ≤ 10) (v0 : -2147483648 ≤ v) (v1 : v < 2147483648) : vm 226 [(2, 88), (0, s), (0, p), (0, b), (0, v)] (n, mdM M io f g) = some (none, (n, mdM M (if io ≠ 0 ∨ 9 ≤ b ∨ (b = 0 ∧ g (400 * s + p) = 1) ∨ (1 ≤ b ∧ b ≤ 8 ∧ f (400 * s + p) ≠ bxf b v) then 1 else 0) (up1 f (400 * s + p) (bxf b v)) (up1 g (400 * s + p) (bxg b (g (400 * s + p)))))) := by
  rw [e_X12_boxes]
  unfold bxf bxg
  by_cases q : b = 0
  · subst q
    simp (disch := omega) only [↓if_pos, ↓if_neg, Int.reduceLT, Int.reduceLE, Int.reduceEq, Int.reduceNe, Int.reduceNeg, Int.reduceAdd, Int.reduceSub, Int.reduceMul, Int.reduceGE, Int.reduceGT, Nat.reduceEqDiff, Nat.reduceAdd, and_true, true_and, and_self, not_true_eq_false, not_false_eq_true, ne_eq, and_false, false_and, or_false, or_true, false_or, true_or, Option.bind_some, vx_some, eq_self, ↓reduceIte, ite_t1, ite_t2, ite_t3, ite_t4, kd_1, kd_2, kd_3, kd_4, kd_5, kd_6, kd_7, kd_14, kd_15, kd_16, kd_29, kd_34, kd_56, kd_74, kd_75, kd_76, kd_77, kd_78, kd_79, kd_80, kd_81, kd_82, kd_83, kd_84, kd_85, kd_86, kd_87, kd_88, kd_89, kd_90, kd_91, kd_92, kd_93, kd_94, kd_95, kd_96, kd_97, kd_98, kd_99, kd_100, kd_101, kd_102, kd_103, kd_104, kd_105, kd_106, kd_107, kd_108,  p_places F]
  · by_cases z : b ≤ 8
    · have e : up1 g (400 * s + p) (g (400 * s + p)) = g := by
        funext k
        unfold up1
        split
        · next h => rw [h]
        · rfl
      simp (disch := omega) only [↓if_pos, ↓if_neg, Int.reduceLT, Int.reduceLE, Int.reduceEq, Int.reduceNe, Int.reduceNeg, Int.reduceAdd, Int.reduceSub, Int.reduceMul, Int.reduceGE, Int.reduceGT, Nat.reduceEqDiff, Nat.reduceAdd, and_true, true_and, and_self, not_true_eq_false, not_false_eq_true, ne_eq, and_false, false_and, or_false, or_true, false_or, true_or, Option.bind_some, vx_some, eq_self, ↓reduceIte, ite_t1, ite_t2, ite_t3, ite_t4, kd_1, kd_2, kd_3, kd_4, kd_5, kd_6, kd_7, kd_14, kd_15, kd_16, kd_29, kd_34, kd_56, kd_74, kd_75, kd_76, kd_77, kd_78, kd_79, kd_80, kd_81, kd_82, kd_83, kd_84, kd_85, kd_86, kd_87, kd_88, kd_89, kd_90, kd_91, kd_92, kd_93, kd_94, kd_95, kd_96, kd_97, kd_98, kd_99, kd_100, kd_101, kd_102, kd_103, kd_104, kd_105, kd_106, kd_107, kd_108,  q, p_cut, w32_i, p_sets F rfl, e]
      exact congrArg (fun x => some (none, (n, mdM M x _ _))) (ifc (by omega))
    · simp (disch := omega) only [↓if_pos, ↓if_neg, Int.reduceLT, Int.reduceLE, Int.reduceEq, Int.reduceNe, Int.reduceNeg, Int.reduceAdd, Int.reduceSub, Int.reduceMul, Int.reduceGE, Int.reduceGT, Nat.reduceEqDiff, Nat.reduceAdd, and_true, true_and, and_self, not_true_eq_false, not_false_eq_true, ne_eq, and_false, false_and, or_false, or_true, false_or, true_or, Option.bind_some, vx_some, eq_self, ↓reduceIte, ite_t1, ite_t2, ite_t3, ite_t4, kd_1, kd_2, kd_3, kd_4, kd_5, kd_6, kd_7, kd_14, kd_15, kd_16, kd_29, kd_34, kd_56, kd_74, kd_75, kd_76, kd_77, kd_78, kd_79, kd_80, kd_81, kd_82, kd_83, kd_84, kd_85, kd_86, kd_87, kd_88, kd_89, kd_90, kd_91, kd_92, kd_93, kd_94, kd_95, kd_96, kd_97, kd_98, kd_99, kd_100, kd_101, kd_102, kd_103, kd_104, kd_105, kd_106, kd_107, kd_108,  q, z, p_places F, if_pos]
theorem c_setPlace {h : Hq} (F : FX h.2) (R : RNG h.1 h.2) {s p b v : Int} (s0 : 0 ≤ s) (s1 : s < 6) (p0 : 0 ≤ p) (p1 : p < 400) (b0 : 0 ≤ b) (b1 : b ≤ 10) : vm 115 [(2, 1), (0, s), (0, p), (0, b), (0, v)] h = some (none, (bgN h.1 h.2, mcC h.2 s (up1 (h.2 (8 + s)) p (bxr b v)) (decide (9 ≤ b ∨ h.2 (8 + s) p ≠ bxr b v)))) := by
  have k := kdr s0 s1
  have r := rowc F s0 s1
  have F1 : FX (bgC h.2 s) := F.fr (fun c k q => by
    unfold FXP at q
    exact bgC_o (by omega) (by omega) (by omega))
  have e8 : bgC h.2 s (8 + s) = h.2 (8 + s) := funext fun k => bgC_o (by omega) (by omega) (by omega)
  have es : stm (bgC h.2 s) (8 + s) p (bxr b v) = stc (bgC h.2 s) (8 + s) (up1 (h.2 (8 + s)) p (bxr b v)) := by
    rw [← stm_stc, ← e8, stc_id]
  have z := c_set (h := (bgN h.1 h.2, bgC h.2 s)) F1 (v := v) s0 s1 p0 p1 b0 b1
  simp only [e8, es] at z
  have F2 : FX (stc (bgC h.2 s) (8 + s) (up1 (h.2 (8 + s)) p (bxr b v))) := F.bc s0 s1
  have R2 : RNG (bgN h.1 h.2) (stc (bgC h.2 s) (8 + s) (up1 (h.2 (8 + s)) p (bxr b v))) := (R.bg s).1.fr (fun c k q => by rw [stc_o (by omega)])
  have y := c_keep (h := (bgN h.1 h.2, stc (bgC h.2 s) (8 + s) (up1 (h.2 (8 + s)) p (bxr b v)))) F2 R2
  rw [e_X11_setPlace]
  simp (disch := omega) only [↓if_pos, ↓if_neg, Int.reduceLT, Int.reduceLE, Int.reduceEq, Int.reduceNe, Int.reduceNeg, Int.reduceAdd, Int.reduceSub, Int.reduceMul, Int.reduceGE, Int.reduceGT, Nat.reduceEqDiff, Nat.reduceAdd, and_true, true_and, and_self, not_true_eq_false, not_false_eq_true, ne_eq, and_false, false_and, or_false, or_true, false_or, true_or, Option.bind_some, vx_some, eq_self, ↓reduceIte, ite_t1, ite_t2, ite_t3, ite_t4, kd_1, kd_2, kd_3, kd_4, kd_5, kd_6, kd_7, kd_14, kd_15, kd_16, kd_29, kd_34, kd_56, kd_74, kd_75, kd_76, kd_77, kd_78, kd_79, kd_80, kd_81, kd_82, kd_83, kd_84, kd_85, kd_86, kd_87, kd_88, kd_89, kd_90, kd_91, kd_92, kd_93, kd_94, kd_95, kd_96, kd_97, kd_98, kd_99, kd_100, kd_101, kd_102, kd_103, kd_104, kd_105, kd_106, kd_107, kd_108,  F.c1_0, F.c1_2, F.c1_5, F.c1_6, F.c1_7, F.c1_8, F.c1_9, F.c1_10, F.c1_11, F.c3_0, F.c4_0, F.c6_0, F.c6_1, F.c6_2, F.c6_3, F.c6_4, F.c74_0, F.c74_1, F.c77_0, F.c77_1, F.c80_0, F.c80_1, F.c83_0, F.c86_0, r, c_begin F R, F1.c1_5, z]
  unfold mcC
  by_cases q : 9 ≤ b ∨ h.2 (8 + s) p ≠ bxr b v
  · rw [if_neg (not_not_intro q), if_pos (decide_eq_true q)]
    simp (disch := omega) only [↓if_pos, ↓if_neg, Int.reduceLT, Int.reduceLE, Int.reduceEq, Int.reduceNe, Int.reduceNeg, Int.reduceAdd, Int.reduceSub, Int.reduceMul, Int.reduceGE, Int.reduceGT, Nat.reduceEqDiff, Nat.reduceAdd, and_true, true_and, and_self, not_true_eq_false, not_false_eq_true, ne_eq, and_false, false_and, or_false, or_true, false_or, true_or, Option.bind_some, vx_some, eq_self, ↓reduceIte, ite_t1, ite_t2, ite_t3, ite_t4, kd_1, kd_2, kd_3, kd_4, kd_5, kd_6, kd_7, kd_14, kd_15, kd_16, kd_29, kd_34, kd_56, kd_74, kd_75, kd_76, kd_77, kd_78, kd_79, kd_80, kd_81, kd_82, kd_83, kd_84, kd_85, kd_86, kd_87, kd_88, kd_89, kd_90, kd_91, kd_92, kd_93, kd_94, kd_95, kd_96, kd_97, kd_98, kd_99, kd_100, kd_101, kd_102, kd_103, kd_104, kd_105, kd_106, kd_107, kd_108,  F2.c1_6, y]
  · rw [if_pos q, if_neg (by rw [decide_eq_false q]; decide)]
