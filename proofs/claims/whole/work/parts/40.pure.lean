/-! THE PURE PART: acts, the model's way: kept, undone -/
theorem stm_same (m : Mm) (a i v : Int) : stm m a i v a i = v := if_pos ⟨rfl, rfl⟩
theorem cp2_0 (m : Mm) (a d b s a' d' b' s' : Int) : cp2 m a d b s a' d' b' s' 0 = m := by
  unfold cp2
  rw [cpm_0, cpm_0]
def ps (m : Mm) (a : Int) (n : Int) : Mm := cp2 m 101 0 99 (2400 * a) 102 0 100 (2400 * a) n
theorem ps_o {m : Mm} {a n c k : Int} (h : c ≠ 99) (h2 : c ≠ 100) : ps m a n c k = m c k := by
  unfold ps
  rw [cp2_ap _ _ _ _ _ _ _ _ _ _ _ _ (by omega) (by omega), if_neg (by omega), if_neg (by omega)]
theorem p_keeps77 {h : Hq} (F : FX h.2) {a : Int} (ha : h.2 88 26 = a) (a0 : 0 ≤ a) (a1 : a ≤ 19) : ∀ k n : Nat, n + k = 2400 → vp 219 77 [(2, 88), (0, (n : Int))] [] (h.1, ps h.2 a n) = some (none, (h.1, stm (ps h.2 a 2400) 88 26 (a + 1)))
  | 0, n, e => by
    have : n = 2400 := by omega
    subst this
    rw [e_X12_keeps_77]
    simp (disch := omega) only [↓if_pos, ↓if_neg, Int.reduceLT, Int.reduceLE, Int.reduceEq, Int.reduceNe, Int.reduceNeg, Int.reduceAdd, Int.reduceSub, Int.reduceMul, Int.reduceGE, Int.reduceGT, Nat.reduceEqDiff, Nat.reduceAdd, and_true, true_and, and_self, not_true_eq_false, not_false_eq_true, ne_eq, and_false, false_and, or_false, or_true, false_or, true_or, Option.bind_some, vx_some, eq_self, ↓reduceIte, ite_t1, ite_t2, ite_t3, ite_t4, kd_1, kd_2, kd_3, kd_4, kd_5, kd_6, kd_7, kd_14, kd_15, kd_16, kd_29, kd_34, kd_56, kd_74, kd_75, kd_76, kd_77, kd_78, kd_79, kd_80, kd_81, kd_82, kd_83, kd_84, kd_85, kd_86, kd_87, kd_88, kd_89, kd_90, kd_91, kd_92, kd_93, kd_94, kd_95, kd_96, kd_97, kd_98, kd_99, kd_100, kd_101, kd_102, kd_103, kd_104, kd_105, kd_106, kd_107, kd_108,  ps_o, ha, w32_i]
    rfl
  | k + 1, n, e => by
    have ih := p_keeps77 F ha a0 a1 k (n + 1) (by omega)
    have F1 : FX (ps h.2 a n) := F.cp2 (by omega) (by omega) (by omega) (by omega)
    have es : ps h.2 a ((n + 1 : Nat) : Int) = stm (stm (ps h.2 a n) 99 (2400 * a + n) (h.2 101 n)) 100 (2400 * a + n) (h.2 102 n) := (cp2_st (by omega) (by omega) (h.2 101 n) (h.2 102 n) (by rw [Int.zero_add]) (by rw [Int.zero_add])).symm
    rw [es] at ih
    rw [e_X12_keeps_77]
    have r3 : ∀ v i c j, c ≠ 99 → stm (ps h.2 a n) 99 i v c j = ps h.2 a n c j := fun v i c j hc => by
      rw [stm_ap, if_neg (by omega)]
    simp (disch := omega) only [↓if_pos, ↓if_neg, Int.reduceLT, Int.reduceLE, Int.reduceEq, Int.reduceNe, Int.reduceNeg, Int.reduceAdd, Int.reduceSub, Int.reduceMul, Int.reduceGE, Int.reduceGT, Nat.reduceEqDiff, Nat.reduceAdd, and_true, true_and, and_self, not_true_eq_false, not_false_eq_true, ne_eq, and_false, false_and, or_false, or_true, false_or, true_or, Option.bind_some, vx_some, eq_self, ↓reduceIte, ite_t1, ite_t2, ite_t3, ite_t4, kd_1, kd_2, kd_3, kd_4, kd_5, kd_6, kd_7, kd_14, kd_15, kd_16, kd_29, kd_34, kd_56, kd_74, kd_75, kd_76, kd_77, kd_78, kd_79, kd_80, kd_81, kd_82, kd_83, kd_84, kd_85, kd_86, kd_87, kd_88, kd_89, kd_90, kd_91, kd_92, kd_93, kd_94, kd_95, kd_96, kd_97, kd_98, kd_99, kd_100, kd_101, kd_102, kd_103, kd_104, kd_105, kd_106, kd_107, kd_108,  F1.c88_24, F1.c88_25, F1.c88_27, F1.c88_28, r3, w32_i, ps_o, ha]
    exact ih
theorem p_keepsA {h : Hq} (F : FX h.2) {a : Int} (ha : h.2 88 26 = a) (a0 : 0 ≤ a) (a1 : a ≤ 19) : vp 219 77 [(2, 88), (0, 0)] [] h = some (none, (h.1, stm (ps h.2 a 2400) 88 26 (a + 1))) := by
  have := p_keeps77 F ha a0 a1 2400 0 rfl
  unfold ps at this
  rw [show (((0 : Nat) : Int)) = 0 from rfl, cp2_0] at this
  exact this
def sh (m : Mm) (n : Int) : Mm := cp2 m 99 2400 99 0 100 2400 100 0 n
theorem sh_o {m : Mm} {n c k : Int} (h : c ≠ 99) (h2 : c ≠ 100) : sh m n c k = m c k := by
  unfold sh
  rw [cp2_ap _ _ _ _ _ _ _ _ _ _ _ _ (by omega) (by omega), if_neg (by omega), if_neg (by omega)]
theorem sh_b {m : Mm} {n c k : Int} (h : n ≤ k) : sh m n c k = m c k := by
  unfold sh
  rw [cp2_ap _ _ _ _ _ _ _ _ _ _ _ _ (by omega) (by omega), if_neg (by omega), if_neg (by omega)]
theorem p_keeps21 {h : Hq} (F : FX h.2) (ha : h.2 88 26 = 20) : ∀ k n : Nat, n + k = 45600 → vp 219 21 [(2, 88), (0, 2400 + (n : Int))] [] (h.1, sh h.2 n) = some (none, (h.1, stm (ps (stm (sh h.2 45600) 88 26 19) 19 2400) 88 26 20))
  | 0, n, e => by
    have : n = 45600 := by omega
    subst this
    have F1 : FX (sh h.2 45600) := F.cp2 (by omega) (by omega) (by omega) (by omega)
    have F2 : FX (stm (sh h.2 45600) 88 26 19) := F1.fr (fun c k q => by
      unfold FXP at q
      rw [stm_ap, if_neg (by omega)])
    have z := p_keepsA (h := (h.1, stm (sh h.2 45600) 88 26 19)) F2 (a := 19) (stm_same (sh h.2 45600) 88 26 19) (by omega) (by omega)
    rw [e_X12_keeps_21]
    simp (disch := omega) only [↓if_pos, ↓if_neg, Int.reduceLT, Int.reduceLE, Int.reduceEq, Int.reduceNe, Int.reduceNeg, Int.reduceAdd, Int.reduceSub, Int.reduceMul, Int.reduceGE, Int.reduceGT, Nat.reduceEqDiff, Nat.reduceAdd, and_true, true_and, and_self, not_true_eq_false, not_false_eq_true, ne_eq, and_false, false_and, or_false, or_true, false_or, true_or, Option.bind_some, vx_some, eq_self, ↓reduceIte, ite_t1, ite_t2, ite_t3, ite_t4, kd_1, kd_2, kd_3, kd_4, kd_5, kd_6, kd_7, kd_14, kd_15, kd_16, kd_29, kd_34, kd_56, kd_74, kd_75, kd_76, kd_77, kd_78, kd_79, kd_80, kd_81, kd_82, kd_83, kd_84, kd_85, kd_86, kd_87, kd_88, kd_89, kd_90, kd_91, kd_92, kd_93, kd_94, kd_95, kd_96, kd_97, kd_98, kd_99, kd_100, kd_101, kd_102, kd_103, kd_104, kd_105, kd_106, kd_107, kd_108,  sh_o, ha, w32_i]
    exact z
  | k + 1, n, e => by
    have ih := p_keeps21 F ha k (n + 1) (by omega)
    have F1 : FX (sh h.2 n) := F.cp2 (by omega) (by omega) (by omega) (by omega)
    have es : sh h.2 ((n + 1 : Nat) : Int) = stm (stm (sh h.2 n) 99 (0 + n) (h.2 99 (2400 + n))) 100 (0 + n) (h.2 100 (2400 + n)) := (cp2_st (by omega) (by omega) (h.2 99 (2400 + n)) (h.2 100 (2400 + n)) rfl rfl).symm
    rw [es] at ih
    rw [e_X12_keeps_21]
    have r3 : ∀ v i c j, c ≠ 99 → stm (sh h.2 n) 99 i v c j = sh h.2 n c j := fun v i c j hc => by
      rw [stm_ap, if_neg (by omega)]
    have e1 : (2400 : Int) + n - 2400 = n := by omega
    have e2 : (2400 : Int) + n + 1 = 2400 + ((n + 1 : Nat) : Int) := by omega
    simp (disch := omega) only [↓if_pos, ↓if_neg, Int.reduceLT, Int.reduceLE, Int.reduceEq, Int.reduceNe, Int.reduceNeg, Int.reduceAdd, Int.reduceSub, Int.reduceMul, Int.reduceGE, Int.reduceGT, Nat.reduceEqDiff, Nat.reduceAdd, and_true, true_and, and_self, not_true_eq_false, not_false_eq_true, ne_eq, and_false, false_and, or_false, or_true, false_or, true_or, Option.bind_some, vx_some, eq_self, ↓reduceIte, ite_t1, ite_t2, ite_t3, ite_t4, kd_1, kd_2, kd_3, kd_4, kd_5, kd_6, kd_7, kd_14, kd_15, kd_16, kd_29, kd_34, kd_56, kd_74, kd_75, kd_76, kd_77, kd_78, kd_79, kd_80, kd_81, kd_82, kd_83, kd_84, kd_85, kd_86, kd_87, kd_88, kd_89, kd_90, kd_91, kd_92, kd_93, kd_94, kd_95, kd_96, kd_97, kd_98, kd_99, kd_100, kd_101, kd_102, kd_103, kd_104, kd_105, kd_106, kd_107, kd_108,  F1.c88_24, F1.c88_25, r3, w32_i, e1, e2, sh_b]
    simp only [Int.zero_add] at ih ⊢
    exact ih
/-- an act of the model is kept, where there was another thing by it -/
def kpM (m : Mm) : Mm := if m 88 29 = 0 then m else if m 88 26 = 20 then stm (ps (stm (sh m 45600) 88 26 19) 19 2400) 88 26 20 else stm (ps m (m 88 26) 2400) 88 26 (m 88 26 + 1)
theorem p_keeps {h : Hq} (F : FX h.2) (a0 : 0 ≤ h.2 88 26) (a1 : h.2 88 26 ≤ 20) : vm 219 [(2, 88)] h = some (none, (h.1, kpM h.2)) := by
  rw [e_X12_keeps]
  unfold kpM
  by_cases q : h.2 88 29 = 0
  · simp (disch := omega) only [↓if_pos, ↓if_neg, Int.reduceLT, Int.reduceLE, Int.reduceEq, Int.reduceNe, Int.reduceNeg, Int.reduceAdd, Int.reduceSub, Int.reduceMul, Int.reduceGE, Int.reduceGT, Nat.reduceEqDiff, Nat.reduceAdd, and_true, true_and, and_self, not_true_eq_false, not_false_eq_true, ne_eq, and_false, false_and, or_false, or_true, false_or, true_or, Option.bind_some, vx_some, eq_self, ↓reduceIte, ite_t1, ite_t2, ite_t3, ite_t4, kd_1, kd_2, kd_3, kd_4, kd_5, kd_6, kd_7, kd_14, kd_15, kd_16, kd_29, kd_34, kd_56, kd_74, kd_75, kd_76, kd_77, kd_78, kd_79, kd_80, kd_81, kd_82, kd_83, kd_84, kd_85, kd_86, kd_87, kd_88, kd_89, kd_90, kd_91, kd_92, kd_93, kd_94, kd_95, kd_96, kd_97, kd_98, kd_99, kd_100, kd_101, kd_102, kd_103, kd_104, kd_105, kd_106, kd_107, kd_108,  if_pos q, q]
  · by_cases z : h.2 88 26 = 20
    · have := p_keeps21 F z 45600 0 rfl
      unfold sh at this
      rw [show (((0 : Nat) : Int)) = 0 from rfl, cp2_0] at this
      simp (disch := omega) only [↓if_pos, ↓if_neg, Int.reduceLT, Int.reduceLE, Int.reduceEq, Int.reduceNe, Int.reduceNeg, Int.reduceAdd, Int.reduceSub, Int.reduceMul, Int.reduceGE, Int.reduceGT, Nat.reduceEqDiff, Nat.reduceAdd, and_true, true_and, and_self, not_true_eq_false, not_false_eq_true, ne_eq, and_false, false_and, or_false, or_true, false_or, true_or, Option.bind_some, vx_some, eq_self, ↓reduceIte, ite_t1, ite_t2, ite_t3, ite_t4, kd_1, kd_2, kd_3, kd_4, kd_5, kd_6, kd_7, kd_14, kd_15, kd_16, kd_29, kd_34, kd_56, kd_74, kd_75, kd_76, kd_77, kd_78, kd_79, kd_80, kd_81, kd_82, kd_83, kd_84, kd_85, kd_86, kd_87, kd_88, kd_89, kd_90, kd_91, kd_92, kd_93, kd_94, kd_95, kd_96, kd_97, kd_98, kd_99, kd_100, kd_101, kd_102, kd_103, kd_104, kd_105, kd_106, kd_107, kd_108,  if_neg q, q, z, if_pos z]
      exact this
    · have := p_keepsA F rfl a0 (by omega)
      simp (disch := omega) only [↓if_pos, ↓if_neg, Int.reduceLT, Int.reduceLE, Int.reduceEq, Int.reduceNe, Int.reduceNeg, Int.reduceAdd, Int.reduceSub, Int.reduceMul, Int.reduceGE, Int.reduceGT, Nat.reduceEqDiff, Nat.reduceAdd, and_true, true_and, and_self, not_true_eq_false, not_false_eq_true, ne_eq, and_false, false_and, or_false, or_true, false_or, true_or, Option.bind_some, vx_some, eq_self, ↓reduceIte, ite_t1, ite_t2, ite_t3, ite_t4, kd_1, kd_2, kd_3, kd_4, kd_5, kd_6, kd_7, kd_14, kd_15, kd_16, kd_29, kd_34, kd_56, kd_74, kd_75, kd_76, kd_77, kd_78, kd_79, kd_80, kd_81, kd_82, kd_83, kd_84, kd_85, kd_86, kd_87, kd_88, kd_89, kd_90, kd_91, kd_92, kd_93, kd_94, kd_95, kd_96, kd_97, kd_98, kd_99, kd_100, kd_101, kd_102, kd_103, kd_104, kd_105, kd_106, kd_107, kd_108,  if_neg q, q, z, if_neg z]
      exact this
/-- an act of the model is undone -/
def un (m : Mm) (a n : Int) : Mm := cp2 m 99 (2400 * a) 97 0 100 (2400 * a) 98 0 n
theorem un_o {m : Mm} {a n c k : Int} (h : c ≠ 97) (h2 : c ≠ 98) : un m a n c k = m c k := by
  unfold un
  rw [cp2_ap _ _ _ _ _ _ _ _ _ _ _ _ (by omega) (by omega), if_neg (by omega), if_neg (by omega)]
theorem p_undo21 {h : Hq} (F : FX h.2) {a : Int} (ha : h.2 88 26 = a) (a0 : 0 ≤ a) (a1 : a ≤ 19) : ∀ k n : Nat, n + k = 2400 → vp 220 21 [(2, 88), (0, (n : Int))] [] (h.1, un h.2 a n) = some (some (0, a), (h.1, un h.2 a 2400))
  | 0, n, e => by
    have : n = 2400 := by omega
    subst this
    rw [e_X12_undo_21]
    simp (disch := omega) only [↓if_pos, ↓if_neg, Int.reduceLT, Int.reduceLE, Int.reduceEq, Int.reduceNe, Int.reduceNeg, Int.reduceAdd, Int.reduceSub, Int.reduceMul, Int.reduceGE, Int.reduceGT, Nat.reduceEqDiff, Nat.reduceAdd, and_true, true_and, and_self, not_true_eq_false, not_false_eq_true, ne_eq, and_false, false_and, or_false, or_true, false_or, true_or, Option.bind_some, vx_some, eq_self, ↓reduceIte, ite_t1, ite_t2, ite_t3, ite_t4, kd_1, kd_2, kd_3, kd_4, kd_5, kd_6, kd_7, kd_14, kd_15, kd_16, kd_29, kd_34, kd_56, kd_74, kd_75, kd_76, kd_77, kd_78, kd_79, kd_80, kd_81, kd_82, kd_83, kd_84, kd_85, kd_86, kd_87, kd_88, kd_89, kd_90, kd_91, kd_92, kd_93, kd_94, kd_95, kd_96, kd_97, kd_98, kd_99, kd_100, kd_101, kd_102, kd_103, kd_104, kd_105, kd_106, kd_107, kd_108,  un_o, ha]
    rfl
  | k + 1, n, e => by
    have ih := p_undo21 F ha a0 a1 k (n + 1) (by omega)
    have F1 : FX (un h.2 a n) := F.cp2 (by omega) (by omega) (by omega) (by omega)
    have es : un h.2 a ((n + 1 : Nat) : Int) = stm (stm (un h.2 a n) 97 (0 + n) (h.2 99 (2400 * a + n))) 98 (0 + n) (h.2 100 (2400 * a + n)) := (cp2_st (by omega) (by omega) (h.2 99 (2400 * a + n)) (h.2 100 (2400 * a + n)) rfl rfl).symm
    rw [es] at ih
    rw [e_X12_undo_21]
    have r3 : ∀ v i c j, c ≠ 97 → stm (un h.2 a n) 97 i v c j = un h.2 a n c j := fun v i c j hc => by
      rw [stm_ap, if_neg (by omega)]
    simp (disch := omega) only [↓if_pos, ↓if_neg, Int.reduceLT, Int.reduceLE, Int.reduceEq, Int.reduceNe, Int.reduceNeg, Int.reduceAdd, Int.reduceSub, Int.reduceMul, Int.reduceGE, Int.reduceGT, Nat.reduceEqDiff, Nat.reduceAdd, and_true, true_and, and_self, not_true_eq_false, not_false_eq_true, ne_eq, and_false, false_and, or_false, or_true, false_or, true_or, Option.bind_some, vx_some, eq_self, ↓reduceIte, ite_t1, ite_t2, ite_t3, ite_t4, kd_1, kd_2, kd_3, kd_4, kd_5, kd_6, kd_7, kd_14, kd_15, kd_16, kd_29, kd_34, kd_56, kd_74, kd_75, kd_76, kd_77, kd_78, kd_79, kd_80, kd_81, kd_82, kd_83, kd_84, kd_85, kd_86, kd_87, kd_88, kd_89, kd_90, kd_91, kd_92, kd_93, kd_94, kd_95, kd_96, kd_97, kd_98, kd_99, kd_100, kd_101, kd_102, kd_103, kd_104, kd_105, kd_106, kd_107, kd_108,  F1.c88_22, F1.c88_23, F1.c88_24, F1.c88_25, r3, w32_i, un_o, ha]
    simp only [Int.zero_add] at ih ⊢
    exact ih
theorem p_undo {h : Hq} (F : FX h.2) (a0 : 0 ≤ h.2 88 26) (a1 : h.2 88 26 ≤ 20) : vm 220 [(2, 88)] h = if h.2 88 26 = 0 then some (some (0, -1), h) else some (some (0, h.2 88 26 - 1), (h.1, un (stm h.2 88 26 (h.2 88 26 - 1)) (h.2 88 26 - 1) 2400)) := by
  rw [e_X12_undo]
  by_cases q : h.2 88 26 = 0
  · simp (disch := omega) only [↓if_pos, ↓if_neg, Int.reduceLT, Int.reduceLE, Int.reduceEq, Int.reduceNe, Int.reduceNeg, Int.reduceAdd, Int.reduceSub, Int.reduceMul, Int.reduceGE, Int.reduceGT, Nat.reduceEqDiff, Nat.reduceAdd, and_true, true_and, and_self, not_true_eq_false, not_false_eq_true, ne_eq, and_false, false_and, or_false, or_true, false_or, true_or, Option.bind_some, vx_some, eq_self, ↓reduceIte, ite_t1, ite_t2, ite_t3, ite_t4, kd_1, kd_2, kd_3, kd_4, kd_5, kd_6, kd_7, kd_14, kd_15, kd_16, kd_29, kd_34, kd_56, kd_74, kd_75, kd_76, kd_77, kd_78, kd_79, kd_80, kd_81, kd_82, kd_83, kd_84, kd_85, kd_86, kd_87, kd_88, kd_89, kd_90, kd_91, kd_92, kd_93, kd_94, kd_95, kd_96, kd_97, kd_98, kd_99, kd_100, kd_101, kd_102, kd_103, kd_104, kd_105, kd_106, kd_107, kd_108,  q]
  · have F2 : FX (stm h.2 88 26 (h.2 88 26 - 1)) := F.fr (fun c k q => by
      unfold FXP at q
      rw [stm_ap, if_neg (by omega)])
    have := p_undo21 (h := (h.1, stm h.2 88 26 (h.2 88 26 - 1))) F2 (a := h.2 88 26 - 1) (stm_same h.2 88 26 (h.2 88 26 - 1)) (by omega) (by omega) 2400 0 rfl
    unfold un at this
    rw [show (((0 : Nat) : Int)) = 0 from rfl, cp2_0] at this
    simp (disch := omega) only [↓if_pos, ↓if_neg, Int.reduceLT, Int.reduceLE, Int.reduceEq, Int.reduceNe, Int.reduceNeg, Int.reduceAdd, Int.reduceSub, Int.reduceMul, Int.reduceGE, Int.reduceGT, Nat.reduceEqDiff, Nat.reduceAdd, and_true, true_and, and_self, not_true_eq_false, not_false_eq_true, ne_eq, and_false, false_and, or_false, or_true, false_or, true_or, Option.bind_some, vx_some, eq_self, ↓reduceIte, ite_t1, ite_t2, ite_t3, ite_t4, kd_1, kd_2, kd_3, kd_4, kd_5, kd_6, kd_7, kd_14, kd_15, kd_16, kd_29, kd_34, kd_56, kd_74, kd_75, kd_76, kd_77, kd_78, kd_79, kd_80, kd_81, kd_82, kd_83, kd_84, kd_85, kd_86, kd_87, kd_88, kd_89, kd_90, kd_91, kd_92, kd_93, kd_94, kd_95, kd_96, kd_97, kd_98, kd_99, kd_100, kd_101, kd_102, kd_103, kd_104, kd_105, kd_106, kd_107, kd_108,  q, w32_i]
    exact this
