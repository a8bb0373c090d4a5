/-! THE PURE PART: poke, put: the calls -/
theorem SH.mc {m : Mm} (S : SH m) {s : Int} {r : Int → Int} {b : Bool} (s0 : 0 ≤ s) (s1 : s < 6) : SH (mcC m s r b) := S.fr (fun c k q => by
  unfold SHP at q
  exact mcC_o (by omega) (by omega) (by omega) (by omega) (by omega))
theorem mcC_f {m : Mm} {s : Int} {r : Int → Int} {b : Bool} {c : Int} (s0 : 0 ≤ s) (s1 : s < 6) (h0 : c < 8 ∨ 13 < c) (h1 : c < 74 ∨ 76 < c) (h2 : c < 109) : mcC m s r b c = m c := funext fun k => mcC_o (by omega) (by omega) (by omega) (by omega) (by omega)
theorem p_stands {h : Hq} (F : FX h.2) (K : KLM h.2) {s p : Int} : vm 210 [(2, 88), (0, s), (0, p)] h = some (some (0, if ((0 ≤ s ∧ s < h.2 90 3) ∧ h.2 93 s ≤ 9) ∧ 0 ≤ p ∧ p < h.2 94 s then 1 else 0), h) := by
  have k := K.1
  rw [e_X12_stands]
  by_cases q : (0 ≤ s ∧ s < h.2 90 3) ∧ h.2 93 s ≤ 9
  · have k2 := (K.2 s q.1.1 q.1.2).2.1
    by_cases z : 0 ≤ p ∧ p < h.2 94 s
    · simp (disch := omega) only [↓if_pos, ↓if_neg, Int.reduceLT, Int.reduceLE, Int.reduceEq, Int.reduceNe, Int.reduceNeg, Int.reduceAdd, Int.reduceSub, Int.reduceMul, Int.reduceGE, Int.reduceGT, Nat.reduceEqDiff, Nat.reduceAdd, and_true, true_and, and_self, not_true_eq_false, not_false_eq_true, ne_eq, and_false, false_and, or_false, or_true, false_or, true_or, Option.bind_some, vx_some, eq_self, ↓reduceIte, ite_t1, ite_t2, ite_t3, ite_t4, kd_1, kd_2, kd_3, kd_4, kd_5, kd_6, kd_7, kd_14, kd_15, kd_16, kd_29, kd_34, kd_56, kd_74, kd_75, kd_76, kd_77, kd_78, kd_79, kd_80, kd_81, kd_82, kd_83, kd_84, kd_85, kd_86, kd_87, kd_88, kd_89, kd_90, kd_91, kd_92, kd_93, kd_94, kd_95, kd_96, kd_97, kd_98, kd_99, kd_100, kd_101, kd_102, kd_103, kd_104, kd_105, kd_106, kd_107, kd_108,  p_isRow F K, F.c88_0, F.c88_13, F.c88_14, F.c88_15, F.c88_16, F.c88_17, F.c88_18, F.c88_19, F.c88_22, F.c88_23, F.c88_24, F.c88_25, F.c88_27, F.c88_28, F.c88_31, F.c88_32, F.c88_33, F.c88_37, F.c88_38, F.c88_39, p_isIn, w32_i, if_pos (And.intro q z)]
    · simp (disch := omega) only [↓if_pos, ↓if_neg, Int.reduceLT, Int.reduceLE, Int.reduceEq, Int.reduceNe, Int.reduceNeg, Int.reduceAdd, Int.reduceSub, Int.reduceMul, Int.reduceGE, Int.reduceGT, Nat.reduceEqDiff, Nat.reduceAdd, and_true, true_and, and_self, not_true_eq_false, not_false_eq_true, ne_eq, and_false, false_and, or_false, or_true, false_or, true_or, Option.bind_some, vx_some, eq_self, ↓reduceIte, ite_t1, ite_t2, ite_t3, ite_t4, kd_1, kd_2, kd_3, kd_4, kd_5, kd_6, kd_7, kd_14, kd_15, kd_16, kd_29, kd_34, kd_56, kd_74, kd_75, kd_76, kd_77, kd_78, kd_79, kd_80, kd_81, kd_82, kd_83, kd_84, kd_85, kd_86, kd_87, kd_88, kd_89, kd_90, kd_91, kd_92, kd_93, kd_94, kd_95, kd_96, kd_97, kd_98, kd_99, kd_100, kd_101, kd_102, kd_103, kd_104, kd_105, kd_106, kd_107, kd_108,  p_isRow F K, F.c88_0, F.c88_13, F.c88_14, F.c88_15, F.c88_16, F.c88_17, F.c88_18, F.c88_19, F.c88_22, F.c88_23, F.c88_24, F.c88_25, F.c88_27, F.c88_28, F.c88_31, F.c88_32, F.c88_33, F.c88_37, F.c88_38, F.c88_39, p_isIn, w32_i, if_neg (fun w => z (And.right w))]
  · simp (disch := omega) only [↓if_pos, ↓if_neg, Int.reduceLT, Int.reduceLE, Int.reduceEq, Int.reduceNe, Int.reduceNeg, Int.reduceAdd, Int.reduceSub, Int.reduceMul, Int.reduceGE, Int.reduceGT, Nat.reduceEqDiff, Nat.reduceAdd, and_true, true_and, and_self, not_true_eq_false, not_false_eq_true, ne_eq, and_false, false_and, or_false, or_true, false_or, true_or, Option.bind_some, vx_some, eq_self, ↓reduceIte, ite_t1, ite_t2, ite_t3, ite_t4, kd_1, kd_2, kd_3, kd_4, kd_5, kd_6, kd_7, kd_14, kd_15, kd_16, kd_29, kd_34, kd_56, kd_74, kd_75, kd_76, kd_77, kd_78, kd_79, kd_80, kd_81, kd_82, kd_83, kd_84, kd_85, kd_86, kd_87, kd_88, kd_89, kd_90, kd_91, kd_92, kd_93, kd_94, kd_95, kd_96, kd_97, kd_98, kd_99, kd_100, kd_101, kd_102, kd_103, kd_104, kd_105, kd_106, kd_107, kd_108,  p_isRow F K, F.c88_0, F.c88_13, F.c88_14, F.c88_15, F.c88_16, F.c88_17, F.c88_18, F.c88_19, F.c88_22, F.c88_23, F.c88_24, F.c88_25, F.c88_27, F.c88_28, F.c88_31, F.c88_32, F.c88_33, F.c88_37, F.c88_38, F.c88_39, if_neg q, if_neg (fun w => q (And.left w))]
theorem p_isValue (v : Int) (h : Hq) : vm 223 [(0, v)] h = some (some (0, if -1000000 ≤ v ∧ v ≤ 1000000 then 1 else 0), h) := by
  rw [e_X12_isValue, p_isIn]
  simp (disch := omega) only [↓if_pos, ↓if_neg, Int.reduceLT, Int.reduceLE, Int.reduceEq, Int.reduceNe, Int.reduceNeg, Int.reduceAdd, Int.reduceSub, Int.reduceMul, Int.reduceGE, Int.reduceGT, Nat.reduceEqDiff, Nat.reduceAdd, and_true, true_and, and_self, not_true_eq_false, not_false_eq_true, ne_eq, and_false, false_and, or_false, or_true, false_or, true_or, Option.bind_some, vx_some, eq_self, ↓reduceIte, ite_t1, ite_t2, ite_t3, ite_t4, kd_1, kd_2, kd_3, kd_4, kd_5, kd_6, kd_7, kd_14, kd_15, kd_16, kd_29, kd_34, kd_56, kd_74, kd_75, kd_76, kd_77, kd_78, kd_79, kd_80, kd_81, kd_82, kd_83, kd_84, kd_85, kd_86, kd_87, kd_88, kd_89, kd_90, kd_91, kd_92, kd_93, kd_94, kd_95, kd_96, kd_97, kd_98, kd_99, kd_100, kd_101, kd_102, kd_103, kd_104, kd_105, kd_106, kd_107, kd_108, ]
theorem c_refRow {h : Hq} (F : FX h.2) (S : STC h.2) {s a : Int} (s0 : 0 ≤ s) (s1 : s < h.2 90 3) (s6 : s < 6) : vm 51 [(2, 6), (0, s), (0, a)] h = some (some (0, if h.2 93 s = 11 then 3 else if h.2 93 s = 10 ∨ (a ≠ 0 ∧ 8 ≤ h.2 93 s) then 2 else 0), h) := by
  have e := (S.2 s s0 s1).1
  rw [e_X7_refusedRow]
  simp (disch := omega) only [↓if_pos, ↓if_neg, Int.reduceLT, Int.reduceLE, Int.reduceEq, Int.reduceNe, Int.reduceNeg, Int.reduceAdd, Int.reduceSub, Int.reduceMul, Int.reduceGE, Int.reduceGT, Nat.reduceEqDiff, Nat.reduceAdd, and_true, true_and, and_self, not_true_eq_false, not_false_eq_true, ne_eq, and_false, false_and, or_false, or_true, false_or, true_or, Option.bind_some, vx_some, eq_self, ↓reduceIte, ite_t1, ite_t2, ite_t3, ite_t4, kd_1, kd_2, kd_3, kd_4, kd_5, kd_6, kd_7, kd_14, kd_15, kd_16, kd_29, kd_34, kd_56, kd_74, kd_75, kd_76, kd_77, kd_78, kd_79, kd_80, kd_81, kd_82, kd_83, kd_84, kd_85, kd_86, kd_87, kd_88, kd_89, kd_90, kd_91, kd_92, kd_93, kd_94, kd_95, kd_96, kd_97, kd_98, kd_99, kd_100, kd_101, kd_102, kd_103, kd_104, kd_105, kd_106, kd_107, kd_108,  F.c1_0, F.c1_2, F.c1_5, F.c1_6, F.c1_7, F.c1_8, F.c1_9, F.c1_10, F.c1_11, F.c3_0, F.c4_0, F.c6_0, F.c6_1, F.c6_2, F.c6_3, F.c6_4, F.c74_0, F.c74_1, F.c77_0, F.c77_1, F.c80_0, F.c80_1, F.c83_0, F.c86_0, e]
  repeat' split
  all_goals first | rfl | (exfalso; omega)
theorem c_refPlace {h : Hq} (F : FX h.2) (S : STC h.2) {s p a : Int} (s0 : 0 ≤ s) (s1 : s < h.2 90 3) (s6 : s < 6) : vm 52 [(2, 6), (0, s), (0, p), (0, a)] h = some (some (0, if 0 ≤ p ∧ p < h.2 94 s then (if a = 0 then 2 else 0) else 1), h) := by
  have e := (S.2 s s0 s1).2
  rw [e_X7_refusedPlace]
  simp (disch := omega) only [↓if_pos, ↓if_neg, Int.reduceLT, Int.reduceLE, Int.reduceEq, Int.reduceNe, Int.reduceNeg, Int.reduceAdd, Int.reduceSub, Int.reduceMul, Int.reduceGE, Int.reduceGT, Nat.reduceEqDiff, Nat.reduceAdd, and_true, true_and, and_self, not_true_eq_false, not_false_eq_true, ne_eq, and_false, false_and, or_false, or_true, false_or, true_or, Option.bind_some, vx_some, eq_self, ↓reduceIte, ite_t1, ite_t2, ite_t3, ite_t4, kd_1, kd_2, kd_3, kd_4, kd_5, kd_6, kd_7, kd_14, kd_15, kd_16, kd_29, kd_34, kd_56, kd_74, kd_75, kd_76, kd_77, kd_78, kd_79, kd_80, kd_81, kd_82, kd_83, kd_84, kd_85, kd_86, kd_87, kd_88, kd_89, kd_90, kd_91, kd_92, kd_93, kd_94, kd_95, kd_96, kd_97, kd_98, kd_99, kd_100, kd_101, kd_102, kd_103, kd_104, kd_105, kd_106, kd_107, kd_108,  F.c1_0, F.c1_2, F.c1_5, F.c1_6, F.c1_7, F.c1_8, F.c1_9, F.c1_10, F.c1_11, F.c3_0, F.c4_0, F.c6_0, F.c6_1, F.c6_2, F.c6_3, F.c6_4, F.c74_0, F.c74_1, F.c77_0, F.c77_1, F.c80_0, F.c80_1, F.c83_0, F.c86_0, e]
  repeat' split
  all_goals first | rfl | (exfalso; omega)
theorem CR.bx {k r n th b v v' : Int} (c : CR k r n th) (k0 : 0 ≤ k) (k1 : k ≤ 9) (ht : tki k b = 1) (v0 : -1000000 ≤ v) (v1 : v ≤ 1000000) (e : b ≠ 0 → v' = v) : CR k (bxr b v') (bxf b v) (bxg b th) := by
  unfold tki at ht
  unfold bxr bxf bxg
  by_cases q : k ≤ 7
  · rw [if_pos q] at ht
    by_cases z : 1 ≤ b ∧ b ≤ 8
    · rw [if_neg (by omega), if_pos z.2, if_neg (by omega), if_pos z.2, e (by omega)]
      exact Or.inl ⟨q, rfl, ctk_rng v0 v1⟩
    · rw [if_neg z] at ht
      exact absurd ht (by decide)
  · rw [if_neg q] at ht
    by_cases z : b = 0
    · rw [if_pos z, if_pos z, if_pos z]
      exact Or.inr ⟨by omega, Or.inl ⟨rfl, rfl, rfl⟩⟩
    · by_cases y : b = k + 1
      · rw [if_neg z, if_neg (by omega), if_neg z, if_neg (by omega), if_neg z, if_neg (by omega), e z]
        exact Or.inr ⟨by omega, Or.inr ⟨rfl, rfl, v0, v1⟩⟩
      · rw [if_neg (by omega)] at ht
        exact absurd ht (by decide)
/-- whether there is another thing by a place then: both tell it alike -/
theorem CR.ch {k r n th b v v' : Int} (c : CR k r n th) (ht : tki k b = 1) (e : b ≠ 0 → v' = v) : (9 ≤ b ∨ r ≠ bxr b v') ↔ (9 ≤ b ∨ (b = 0 ∧ th = 1) ∨ (1 ≤ b ∧ b ≤ 8 ∧ n ≠ bxf b v)) := by
  unfold tki at ht
  unfold bxr bxf
  by_cases q : k ≤ 7
  · rw [if_pos q] at ht
    by_cases z : 1 ≤ b ∧ b ≤ 8
    · rw [if_neg (by omega), if_pos z.2, if_neg (by omega), if_pos z.2, e (by omega)]
      rcases c with ⟨_, rfl, _⟩ | ⟨_, _⟩ <;> omega
    · rw [if_neg z] at ht
      exact absurd ht (by decide)
  · rw [if_neg q] at ht
    by_cases z : b = 0
    · rw [if_pos z, if_pos z]
      rcases c with ⟨_, rfl, _⟩ | ⟨_, ⟨rfl, rfl, _⟩ | ⟨rfl, rfl, _⟩⟩ <;> omega
    · by_cases y : b = k + 1
      · omega
      · rw [if_neg (by omega)] at ht
        exact absurd ht (by decide)
theorem CR.same {k r n th b v v' : Int} (c : CR k r n th) (ht : tki k b = 1) (e : b ≠ 0 → v' = v) (hn : ¬ (9 ≤ b ∨ r ≠ bxr b v')) : bxf b v = n ∧ bxg b th = th := by
  have h2 := fun w => hn ((c.ch ht e).mpr w)
  have h3 := fun w => hn (Or.inr w)
  unfold bxf at h2
  unfold bxr at h3
  unfold bxf bxg
  by_cases z : b = 0
  · rw [if_pos z] at h3
    rw [if_pos z, if_pos z]
    rcases c with ⟨_, rfl, _⟩ | ⟨_, ⟨rfl, rfl, rfl⟩ | ⟨rfl, rfl, _⟩⟩
    · exfalso; apply h3; omega
    · exact ⟨rfl, rfl⟩
    · exfalso; apply h3; omega
  · have : b ≤ 8 := by omega
    rw [if_neg z, if_pos this] at h2
    rw [if_neg z, if_pos this, if_neg z, if_pos this]
    unfold tki at ht
    have b1 : 1 ≤ b := by
      by_cases q : k ≤ 7
      · rw [if_pos q] at ht
        by_cases y : 1 ≤ b ∧ b ≤ 8
        · exact y.1
        · rw [if_neg y] at ht; exact absurd ht (by decide)
      · rw [if_neg q, if_neg] at ht
        · exact absurd ht (by decide)
        · omega
    refine ⟨?_, rfl⟩
    have : ¬ (n ≠ ctk (b - 1) v) := fun w => h2 (Or.inr (Or.inr ⟨b1, this, w⟩))
    omega
/-- what both leave behind when a place of a row is set as a box that it takes -/
theorem INV_set {i : Int} {h : Hq} (I : INV i h) (hi : i < 600) {s p b v : Int} (s0 : 0 ≤ s) (s1 : s < h.2 90 3) (p0 : 0 ≤ p) (p1 : p < h.2 94 s) (ht : tki (h.2 93 s) b = 1) (v0 : -1000000 ≤ v) (v1 : v ≤ 1000000) : INV (i + 1) (bgN h.1 h.2, kpM (mdM (mcC h.2 s (up1 (h.2 (8 + s)) p (bxr b v)) (decide (9 ≤ b ∨ h.2 (8 + s) p ≠ bxr b v))) (if (0 : Int) ≠ 0 ∨ 9 ≤ b ∨ (b = 0 ∧ h.2 98 (400 * s + p) = 1) ∨ (1 ≤ b ∧ b ≤ 8 ∧ h.2 97 (400 * s + p) ≠ bxf b v) then 1 else 0) (up1 (h.2 97) (400 * s + p) (bxf b v)) (up1 (h.2 98) (400 * s + p) (bxg b (h.2 98 (400 * s + p)))))) := by
  have k := I.kl.rw s0 s1 p0 p1
  have c := I.ro s p s0 s1 p0 p1
  have cc := c.ch (v := v) (v' := v) ht (fun _ => rfl)
  refine INV_act I hi s0 s1 ?_ (fun q q0 q1 => ?_) (fun s' q a0 a1 a2 a3 a4 => ?_) (fun hb q q0 q1 => ?_)
  · rw [decide_eq_true_iff, cc]
    by_cases z : (9 ≤ b ∨ (b = 0 ∧ h.2 98 (400 * s + p) = 1) ∨ (1 ≤ b ∧ b ≤ 8 ∧ h.2 97 (400 * s + p) ≠ bxf b v))
    · rw [if_pos (Or.inr z)]; exact ⟨fun _ => by decide, fun _ => z⟩
    · rw [if_neg (by omega)]; exact ⟨fun w => absurd w z, fun w => absurd rfl w⟩
  · by_cases e : q = p
    · subst e
      rw [up1_c, up1_c, up1_c]
      exact c.bx k.2.2.1.1 k.2.2.1.2 ht v0 v1 (fun _ => rfl)
    · rw [up1_o e, up1_o (by omega), up1_o (by omega)]
      exact I.ro s q s0 s1 q0 q1
  · have k' := I.kl.rw a0 a1 a3 a4
    rw [up1_o (by omega), up1_o (by omega)]
    exact ⟨rfl, rfl⟩
  · by_cases e : q = p
    · subst e
      rw [up1_c, up1_c]
      exact c.same ht (fun _ => rfl) (of_decide_eq_false hb)
    · rw [up1_o (by omega), up1_o (by omega)]
      exact ⟨rfl, rfl⟩
