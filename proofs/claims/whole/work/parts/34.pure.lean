/-! THE PURE PART: questions about stores -/
theorem CR.num {k r n th : Int} (c : CR k r n th) : (if r = -2147483648 then -1 else r) = n ∧ -1000000 ≤ n ∧ n ≤ 1000000 := by
  rcases c with ⟨_, rfl, a, b⟩ | ⟨_, ⟨_, rfl, rfl⟩ | ⟨_, rfl, a, b⟩⟩
  · rw [if_neg (by omega)]; exact ⟨rfl, a, b⟩
  · exact ⟨rfl, by decide, by decide⟩
  · rw [if_neg (by omega)]; exact ⟨rfl, a, b⟩
/-- a place there is: of a row -/
theorem KLM.rw {m : Mm} (K : KLM m) {s p : Int} (s0 : 0 ≤ s) (s1 : s < m 90 3) (p0 : 0 ≤ p) (p1 : p < m 94 s) : s < 6 ∧ p < 400 ∧ (0 ≤ m 93 s ∧ m 93 s ≤ 9) ∧ m 94 s ≤ 400 := by
  have a := K.1
  have b := K.2 s s0 s1
  refine ⟨by omega, by omega, ⟨by omega, ?_⟩, by omega⟩
  rcases Int.lt_or_le 9 (m 93 s) with q | q
  · have := b.2.2.2 (by omega); omega
  · exact q
theorem c_num {h : Hq} (F : FX h.2) (K : KLM h.2) (R : ROWS h.2) {s p : Int} (s0 : 0 ≤ s) (s1 : s < h.2 90 3) (p0 : 0 ≤ p) (p1 : p < h.2 94 s) : vm 47 [(2, 6), (0, s), (0, p)] h = some (some (0, h.2 97 (400 * s + p)), h) := by
  have k := K.rw s0 s1 p0 p1
  rw [c_numberAt F s0 k.1 p0 k.2.1, (R s p s0 s1 p0 p1).num.1]
theorem p_num {h : Hq} (F : FX h.2) (K : KLM h.2) {s p : Int} (s0 : 0 ≤ s) (s1 : s < h.2 90 3) (p0 : 0 ≤ p) (p1 : p < h.2 94 s) : vm 211 [(2, 88), (0, s), (0, p)] h = some (some (0, h.2 97 (400 * s + p)), h) := by
  have k := K.rw s0 s1 p0 p1
  exact p_numberAt F.m s0 k.1 p0 k.2.1
/-- what widens to what -/
def wd (a b : Int) : Prop := a = b ∨ (a ≠ 0 ∧ (3 ≤ b ∧ b ≤ 7) ∧ (a = 1 ∨ (a = 2 ∧ 3 < b) ∨ (3 ≤ a ∧ a < b)))
noncomputable def wdi (a b : Int) : Int := @ite Int (wd a b) (Classical.propDecidable _) 1 0
theorem wdi_p {a b : Int} (w : wd a b) : wdi a b = 1 := by unfold wdi; rw [if_pos w]
theorem wdi_n {a b : Int} (w : ¬ wd a b) : wdi a b = 0 := by unfold wdi; rw [if_neg w]
theorem p_widens {a b : Int} (h : Hq) : vm 213 [(0, a), (0, b)] h = some (some (0, wdi a b), h) := by
  rw [e_X12_widens]
  by_cases w : wd a b
  · rw [wdi_p w]
    unfold wd at w
    repeat' split
    all_goals first | rfl | (exfalso; omega)
  · rw [wdi_n w]
    unfold wd at w
    repeat' split
    all_goals first | rfl | (exfalso; omega)
def wdl : List Int := [1, 250, 244, 248, 240, 224, 192, 128]
def wdb (a b : Nat) : Bool := Nat.beq a b || (!Nat.beq a 0 && (Nat.ble 3 b && (Nat.beq a 1 || (Nat.beq a 2 && Nat.blt 3 b) || (Nat.ble 3 a && Nat.blt a b))))
theorem wd_ok : ∀ a, a < 8 → ∀ b, b < 8 → decide (band (bshr (wdl.getD a 0) ((b : Nat) : Int)) 1 = 0) = !wdb a b := by decide +kernel
theorem wd_ok2 : ∀ a, a < 8 → ∀ b, b < 8 → (wdb a b = true ↔ ((a : Int) = (b : Int) ∨ ((a : Int) ≠ 0 ∧ (3 ≤ (b : Int) ∧ (b : Int) ≤ 7) ∧ ((a : Int) = 1 ∨ ((a : Int) = 2 ∧ 3 < (b : Int)) ∨ (3 ≤ (a : Int) ∧ (a : Int) < (b : Int)))))) := by decide +kernel
theorem OUT.wide {m : Mm} (O : OUT m) : ∀ a : Nat, a < 8 → m (-2) a = wdl.getD a 0
  | 0, _ => O.2.2.1
  | 1, _ => O.2.2.2.1
  | 2, _ => O.2.2.2.2.1
  | 3, _ => O.2.2.2.2.2.1
  | 4, _ => O.2.2.2.2.2.2.1
  | 5, _ => O.2.2.2.2.2.2.2.1
  | 6, _ => O.2.2.2.2.2.2.2.2.1
  | 7, _ => O.2.2.2.2.2.2.2.2.2
  | n + 8, h => by omega
theorem c_widens {h : Hq} (O : OUT h.2) {a b : Int} (a1 : a ≤ 12) (b0 : 0 ≤ b) (b1 : b < 8) : vm 43 [(0, a), (0, b)] h = some (some (0, if 0 ≤ a ∧ a ≤ 7 then wdi a b else 0), h) := by
  by_cases q : 0 ≤ a ∧ a ≤ 7
  · obtain ⟨x, rfl⟩ : ∃ x : Nat, a = x := ⟨a.toNat, by omega⟩
    obtain ⟨y, rfl⟩ : ∃ y : Nat, b = y := ⟨b.toNat, by omega⟩
    have e := O.wide x (by omega)
    have e1 := wd_ok x (by omega) y (by omega)
    have e2 := wd_ok2 x (by omega) y (by omega)
    rw [if_pos q, e_X7_widens, if_neg (by omega), if_neg (by omega), if_pos ⟨rfl, by omega, by show (x : Int) < 8; omega⟩, e]
    cases hb : wdb x y with
    | true =>
      rw [hb] at e1
      rw [if_neg (of_decide_eq_false e1), wdi_p (e2.mp hb)]
    | false =>
      rw [hb] at e1
      rw [if_pos (of_decide_eq_true e1), wdi_n (fun w => by have := e2.mpr w; rw [hb] at this; cases this)]
  · simp (disch := omega) only [↓if_pos, ↓if_neg, Int.reduceLT, Int.reduceLE, Int.reduceEq, Int.reduceNe, Int.reduceNeg, Int.reduceAdd, Int.reduceSub, Int.reduceMul, Int.reduceGE, Int.reduceGT, Nat.reduceEqDiff, Nat.reduceAdd, and_true, true_and, and_self, not_true_eq_false, not_false_eq_true, ne_eq, and_false, false_and, or_false, or_true, false_or, true_or, Option.bind_some, vx_some, eq_self, ↓reduceIte, ite_t1, ite_t2, ite_t3, ite_t4, kd_1, kd_2, kd_3, kd_4, kd_5, kd_6, kd_7, kd_14, kd_15, kd_16, kd_29, kd_34, kd_56, kd_74, kd_75, kd_76, kd_77, kd_78, kd_79, kd_80, kd_81, kd_82, kd_83, kd_84, kd_85, kd_86, kd_87, kd_88, kd_89, kd_90, kd_91, kd_92, kd_93, kd_94, kd_95, kd_96, kd_97, kd_98, kd_99, kd_100, kd_101, kd_102, kd_103, kd_104, kd_105, kd_106, kd_107, kd_108,  e_X7_widens, if_neg q]
    split <;> rfl
theorem wdi_01 (a b : Int) : wdi a b = 0 ∨ wdi a b = 1 := by
  by_cases w : wd a b
  · exact Or.inr (wdi_p w)
  · exact Or.inl (wdi_n w)
section
variable {i : Int} {h : Hq} {s t p how v : Int}
theorem k_kind (I : INV i h) (hi : i < 600) : OKC i 110 215 [(0, s)] h := by
  have F := I.fx
  have k := I.kl.1
  by_cases q : 0 ≤ s ∧ s < h.2 90 3
  · have e := (I.st.2 s q.1 q.2).1
    refine OKC.ro I hi (0, h.2 93 s) ?_ ?_
    · simp (disch := omega) only [↓if_pos, ↓if_neg, Int.reduceLT, Int.reduceLE, Int.reduceEq, Int.reduceNe, Int.reduceNeg, Int.reduceAdd, Int.reduceSub, Int.reduceMul, Int.reduceGE, Int.reduceGT, Nat.reduceEqDiff, Nat.reduceAdd, and_true, true_and, and_self, not_true_eq_false, not_false_eq_true, ne_eq, and_false, false_and, or_false, or_true, false_or, true_or, Option.bind_some, vx_some, eq_self, ↓reduceIte, ite_t1, ite_t2, ite_t3, ite_t4, kd_1, kd_2, kd_3, kd_4, kd_5, kd_6, kd_7, kd_14, kd_15, kd_16, kd_29, kd_34, kd_56, kd_74, kd_75, kd_76, kd_77, kd_78, kd_79, kd_80, kd_81, kd_82, kd_83, kd_84, kd_85, kd_86, kd_87, kd_88, kd_89, kd_90, kd_91, kd_92, kd_93, kd_94, kd_95, kd_96, kd_97, kd_98, kd_99, kd_100, kd_101, kd_102, kd_103, kd_104, kd_105, kd_106, kd_107, kd_108,  e_X11_kind, c_has F I.st, if_pos q, F.c1_0, F.c1_2, F.c1_5, F.c1_6, F.c1_7, F.c1_8, F.c1_9, F.c1_10, F.c1_11, F.c3_0, F.c4_0, F.c6_0, F.c6_1, F.c6_2, F.c6_3, F.c6_4, F.c74_0, F.c74_1, F.c77_0, F.c77_1, F.c80_0, F.c80_1, F.c83_0, F.c86_0, e]
    · simp (disch := omega) only [↓if_pos, ↓if_neg, Int.reduceLT, Int.reduceLE, Int.reduceEq, Int.reduceNe, Int.reduceNeg, Int.reduceAdd, Int.reduceSub, Int.reduceMul, Int.reduceGE, Int.reduceGT, Nat.reduceEqDiff, Nat.reduceAdd, and_true, true_and, and_self, not_true_eq_false, not_false_eq_true, ne_eq, and_false, false_and, or_false, or_true, false_or, true_or, Option.bind_some, vx_some, eq_self, ↓reduceIte, ite_t1, ite_t2, ite_t3, ite_t4, kd_1, kd_2, kd_3, kd_4, kd_5, kd_6, kd_7, kd_14, kd_15, kd_16, kd_29, kd_34, kd_56, kd_74, kd_75, kd_76, kd_77, kd_78, kd_79, kd_80, kd_81, kd_82, kd_83, kd_84, kd_85, kd_86, kd_87, kd_88, kd_89, kd_90, kd_91, kd_92, kd_93, kd_94, kd_95, kd_96, kd_97, kd_98, kd_99, kd_100, kd_101, kd_102, kd_103, kd_104, kd_105, kd_106, kd_107, kd_108,  e_X12_kind, p_isStore F I.kl, if_pos q, F.c88_0, F.c88_13, F.c88_14, F.c88_15, F.c88_16, F.c88_17, F.c88_18, F.c88_19, F.c88_22, F.c88_23, F.c88_24, F.c88_25, F.c88_27, F.c88_28, F.c88_31, F.c88_32, F.c88_33, F.c88_37, F.c88_38, F.c88_39]
  · refine OKC.ro I hi (0, -1) ?_ ?_
    · simp (disch := omega) only [↓if_pos, ↓if_neg, Int.reduceLT, Int.reduceLE, Int.reduceEq, Int.reduceNe, Int.reduceNeg, Int.reduceAdd, Int.reduceSub, Int.reduceMul, Int.reduceGE, Int.reduceGT, Nat.reduceEqDiff, Nat.reduceAdd, and_true, true_and, and_self, not_true_eq_false, not_false_eq_true, ne_eq, and_false, false_and, or_false, or_true, false_or, true_or, Option.bind_some, vx_some, eq_self, ↓reduceIte, ite_t1, ite_t2, ite_t3, ite_t4, kd_1, kd_2, kd_3, kd_4, kd_5, kd_6, kd_7, kd_14, kd_15, kd_16, kd_29, kd_34, kd_56, kd_74, kd_75, kd_76, kd_77, kd_78, kd_79, kd_80, kd_81, kd_82, kd_83, kd_84, kd_85, kd_86, kd_87, kd_88, kd_89, kd_90, kd_91, kd_92, kd_93, kd_94, kd_95, kd_96, kd_97, kd_98, kd_99, kd_100, kd_101, kd_102, kd_103, kd_104, kd_105, kd_106, kd_107, kd_108,  e_X11_kind, c_has F I.st, if_neg q, F.c1_0, F.c1_2, F.c1_5, F.c1_6, F.c1_7, F.c1_8, F.c1_9, F.c1_10, F.c1_11, F.c3_0, F.c4_0, F.c6_0, F.c6_1, F.c6_2, F.c6_3, F.c6_4, F.c74_0, F.c74_1, F.c77_0, F.c77_1, F.c80_0, F.c80_1, F.c83_0, F.c86_0]
    · simp (disch := omega) only [↓if_pos, ↓if_neg, Int.reduceLT, Int.reduceLE, Int.reduceEq, Int.reduceNe, Int.reduceNeg, Int.reduceAdd, Int.reduceSub, Int.reduceMul, Int.reduceGE, Int.reduceGT, Nat.reduceEqDiff, Nat.reduceAdd, and_true, true_and, and_self, not_true_eq_false, not_false_eq_true, ne_eq, and_false, false_and, or_false, or_true, false_or, true_or, Option.bind_some, vx_some, eq_self, ↓reduceIte, ite_t1, ite_t2, ite_t3, ite_t4, kd_1, kd_2, kd_3, kd_4, kd_5, kd_6, kd_7, kd_14, kd_15, kd_16, kd_29, kd_34, kd_56, kd_74, kd_75, kd_76, kd_77, kd_78, kd_79, kd_80, kd_81, kd_82, kd_83, kd_84, kd_85, kd_86, kd_87, kd_88, kd_89, kd_90, kd_91, kd_92, kd_93, kd_94, kd_95, kd_96, kd_97, kd_98, kd_99, kd_100, kd_101, kd_102, kd_103, kd_104, kd_105, kd_106, kd_107, kd_108,  e_X12_kind, p_isStore F I.kl, if_neg q, F.c88_0, F.c88_13, F.c88_14, F.c88_15, F.c88_16, F.c88_17, F.c88_18, F.c88_19, F.c88_22, F.c88_23, F.c88_24, F.c88_25, F.c88_27, F.c88_28, F.c88_31, F.c88_32, F.c88_33, F.c88_37, F.c88_38, F.c88_39]
theorem k_length (I : INV i h) (hi : i < 600) : OKC i 111 216 [(0, s)] h := by
  have F := I.fx
  have k := I.kl.1
  by_cases q : 0 ≤ s ∧ s < h.2 90 3
  · have e := I.st.2 s q.1 q.2
    by_cases k1 : h.2 93 s = 10
    · refine OKC.ro I hi (0, -2) ?_ ?_
      · simp (disch := omega) only [↓if_pos, ↓if_neg, Int.reduceLT, Int.reduceLE, Int.reduceEq, Int.reduceNe, Int.reduceNeg, Int.reduceAdd, Int.reduceSub, Int.reduceMul, Int.reduceGE, Int.reduceGT, Nat.reduceEqDiff, Nat.reduceAdd, and_true, true_and, and_self, not_true_eq_false, not_false_eq_true, ne_eq, and_false, false_and, or_false, or_true, false_or, true_or, Option.bind_some, vx_some, eq_self, ↓reduceIte, ite_t1, ite_t2, ite_t3, ite_t4, kd_1, kd_2, kd_3, kd_4, kd_5, kd_6, kd_7, kd_14, kd_15, kd_16, kd_29, kd_34, kd_56, kd_74, kd_75, kd_76, kd_77, kd_78, kd_79, kd_80, kd_81, kd_82, kd_83, kd_84, kd_85, kd_86, kd_87, kd_88, kd_89, kd_90, kd_91, kd_92, kd_93, kd_94, kd_95, kd_96, kd_97, kd_98, kd_99, kd_100, kd_101, kd_102, kd_103, kd_104, kd_105, kd_106, kd_107, kd_108,  e_X11_length, c_has F I.st, if_pos q, F.c1_0, F.c1_2, F.c1_5, F.c1_6, F.c1_7, F.c1_8, F.c1_9, F.c1_10, F.c1_11, F.c3_0, F.c4_0, F.c6_0, F.c6_1, F.c6_2, F.c6_3, F.c6_4, F.c74_0, F.c74_1, F.c77_0, F.c77_1, F.c80_0, F.c80_1, F.c83_0, F.c86_0, e.1, k1]
      · simp (disch := omega) only [↓if_pos, ↓if_neg, Int.reduceLT, Int.reduceLE, Int.reduceEq, Int.reduceNe, Int.reduceNeg, Int.reduceAdd, Int.reduceSub, Int.reduceMul, Int.reduceGE, Int.reduceGT, Nat.reduceEqDiff, Nat.reduceAdd, and_true, true_and, and_self, not_true_eq_false, not_false_eq_true, ne_eq, and_false, false_and, or_false, or_true, false_or, true_or, Option.bind_some, vx_some, eq_self, ↓reduceIte, ite_t1, ite_t2, ite_t3, ite_t4, kd_1, kd_2, kd_3, kd_4, kd_5, kd_6, kd_7, kd_14, kd_15, kd_16, kd_29, kd_34, kd_56, kd_74, kd_75, kd_76, kd_77, kd_78, kd_79, kd_80, kd_81, kd_82, kd_83, kd_84, kd_85, kd_86, kd_87, kd_88, kd_89, kd_90, kd_91, kd_92, kd_93, kd_94, kd_95, kd_96, kd_97, kd_98, kd_99, kd_100, kd_101, kd_102, kd_103, kd_104, kd_105, kd_106, kd_107, kd_108,  e_X12_length, p_isStore F I.kl, if_pos q, F.c88_0, F.c88_13, F.c88_14, F.c88_15, F.c88_16, F.c88_17, F.c88_18, F.c88_19, F.c88_22, F.c88_23, F.c88_24, F.c88_25, F.c88_27, F.c88_28, F.c88_31, F.c88_32, F.c88_33, F.c88_37, F.c88_38, F.c88_39, k1]
    · by_cases k2 : h.2 93 s = 11
      · refine OKC.ro I hi (0, -3) ?_ ?_
        · simp (disch := omega) only [↓if_pos, ↓if_neg, Int.reduceLT, Int.reduceLE, Int.reduceEq, Int.reduceNe, Int.reduceNeg, Int.reduceAdd, Int.reduceSub, Int.reduceMul, Int.reduceGE, Int.reduceGT, Nat.reduceEqDiff, Nat.reduceAdd, and_true, true_and, and_self, not_true_eq_false, not_false_eq_true, ne_eq, and_false, false_and, or_false, or_true, false_or, true_or, Option.bind_some, vx_some, eq_self, ↓reduceIte, ite_t1, ite_t2, ite_t3, ite_t4, kd_1, kd_2, kd_3, kd_4, kd_5, kd_6, kd_7, kd_14, kd_15, kd_16, kd_29, kd_34, kd_56, kd_74, kd_75, kd_76, kd_77, kd_78, kd_79, kd_80, kd_81, kd_82, kd_83, kd_84, kd_85, kd_86, kd_87, kd_88, kd_89, kd_90, kd_91, kd_92, kd_93, kd_94, kd_95, kd_96, kd_97, kd_98, kd_99, kd_100, kd_101, kd_102, kd_103, kd_104, kd_105, kd_106, kd_107, kd_108,  e_X11_length, c_has F I.st, if_pos q, F.c1_0, F.c1_2, F.c1_5, F.c1_6, F.c1_7, F.c1_8, F.c1_9, F.c1_10, F.c1_11, F.c3_0, F.c4_0, F.c6_0, F.c6_1, F.c6_2, F.c6_3, F.c6_4, F.c74_0, F.c74_1, F.c77_0, F.c77_1, F.c80_0, F.c80_1, F.c83_0, F.c86_0, e.1, k2]
        · simp (disch := omega) only [↓if_pos, ↓if_neg, Int.reduceLT, Int.reduceLE, Int.reduceEq, Int.reduceNe, Int.reduceNeg, Int.reduceAdd, Int.reduceSub, Int.reduceMul, Int.reduceGE, Int.reduceGT, Nat.reduceEqDiff, Nat.reduceAdd, and_true, true_and, and_self, not_true_eq_false, not_false_eq_true, ne_eq, and_false, false_and, or_false, or_true, false_or, true_or, Option.bind_some, vx_some, eq_self, ↓reduceIte, ite_t1, ite_t2, ite_t3, ite_t4, kd_1, kd_2, kd_3, kd_4, kd_5, kd_6, kd_7, kd_14, kd_15, kd_16, kd_29, kd_34, kd_56, kd_74, kd_75, kd_76, kd_77, kd_78, kd_79, kd_80, kd_81, kd_82, kd_83, kd_84, kd_85, kd_86, kd_87, kd_88, kd_89, kd_90, kd_91, kd_92, kd_93, kd_94, kd_95, kd_96, kd_97, kd_98, kd_99, kd_100, kd_101, kd_102, kd_103, kd_104, kd_105, kd_106, kd_107, kd_108,  e_X12_length, p_isStore F I.kl, if_pos q, F.c88_0, F.c88_13, F.c88_14, F.c88_15, F.c88_16, F.c88_17, F.c88_18, F.c88_19, F.c88_22, F.c88_23, F.c88_24, F.c88_25, F.c88_27, F.c88_28, F.c88_31, F.c88_32, F.c88_33, F.c88_37, F.c88_38, F.c88_39, k2]
      · refine OKC.ro I hi (0, h.2 94 s) ?_ ?_
        · simp (disch := omega) only [↓if_pos, ↓if_neg, Int.reduceLT, Int.reduceLE, Int.reduceEq, Int.reduceNe, Int.reduceNeg, Int.reduceAdd, Int.reduceSub, Int.reduceMul, Int.reduceGE, Int.reduceGT, Nat.reduceEqDiff, Nat.reduceAdd, and_true, true_and, and_self, not_true_eq_false, not_false_eq_true, ne_eq, and_false, false_and, or_false, or_true, false_or, true_or, Option.bind_some, vx_some, eq_self, ↓reduceIte, ite_t1, ite_t2, ite_t3, ite_t4, kd_1, kd_2, kd_3, kd_4, kd_5, kd_6, kd_7, kd_14, kd_15, kd_16, kd_29, kd_34, kd_56, kd_74, kd_75, kd_76, kd_77, kd_78, kd_79, kd_80, kd_81, kd_82, kd_83, kd_84, kd_85, kd_86, kd_87, kd_88, kd_89, kd_90, kd_91, kd_92, kd_93, kd_94, kd_95, kd_96, kd_97, kd_98, kd_99, kd_100, kd_101, kd_102, kd_103, kd_104, kd_105, kd_106, kd_107, kd_108,  e_X11_length, c_has F I.st, if_pos q, F.c1_0, F.c1_2, F.c1_5, F.c1_6, F.c1_7, F.c1_8, F.c1_9, F.c1_10, F.c1_11, F.c3_0, F.c4_0, F.c6_0, F.c6_1, F.c6_2, F.c6_3, F.c6_4, F.c74_0, F.c74_1, F.c77_0, F.c77_1, F.c80_0, F.c80_1, F.c83_0, F.c86_0, e.1, e.2, k1, k2]
        · simp (disch := omega) only [↓if_pos, ↓if_neg, Int.reduceLT, Int.reduceLE, Int.reduceEq, Int.reduceNe, Int.reduceNeg, Int.reduceAdd, Int.reduceSub, Int.reduceMul, Int.reduceGE, Int.reduceGT, Nat.reduceEqDiff, Nat.reduceAdd, and_true, true_and, and_self, not_true_eq_false, not_false_eq_true, ne_eq, and_false, false_and, or_false, or_true, false_or, true_or, Option.bind_some, vx_some, eq_self, ↓reduceIte, ite_t1, ite_t2, ite_t3, ite_t4, kd_1, kd_2, kd_3, kd_4, kd_5, kd_6, kd_7, kd_14, kd_15, kd_16, kd_29, kd_34, kd_56, kd_74, kd_75, kd_76, kd_77, kd_78, kd_79, kd_80, kd_81, kd_82, kd_83, kd_84, kd_85, kd_86, kd_87, kd_88, kd_89, kd_90, kd_91, kd_92, kd_93, kd_94, kd_95, kd_96, kd_97, kd_98, kd_99, kd_100, kd_101, kd_102, kd_103, kd_104, kd_105, kd_106, kd_107, kd_108,  e_X12_length, p_isStore F I.kl, if_pos q, F.c88_0, F.c88_13, F.c88_14, F.c88_15, F.c88_16, F.c88_17, F.c88_18, F.c88_19, F.c88_22, F.c88_23, F.c88_24, F.c88_25, F.c88_27, F.c88_28, F.c88_31, F.c88_32, F.c88_33, F.c88_37, F.c88_38, F.c88_39, k1, k2]
  · refine OKC.ro I hi (0, -1) ?_ ?_
    · simp (disch := omega) only [↓if_pos, ↓if_neg, Int.reduceLT, Int.reduceLE, Int.reduceEq, Int.reduceNe, Int.reduceNeg, Int.reduceAdd, Int.reduceSub, Int.reduceMul, Int.reduceGE, Int.reduceGT, Nat.reduceEqDiff, Nat.reduceAdd, and_true, true_and, and_self, not_true_eq_false, not_false_eq_true, ne_eq, and_false, false_and, or_false, or_true, false_or, true_or, Option.bind_some, vx_some, eq_self, ↓reduceIte, ite_t1, ite_t2, ite_t3, ite_t4, kd_1, kd_2, kd_3, kd_4, kd_5, kd_6, kd_7, kd_14, kd_15, kd_16, kd_29, kd_34, kd_56, kd_74, kd_75, kd_76, kd_77, kd_78, kd_79, kd_80, kd_81, kd_82, kd_83, kd_84, kd_85, kd_86, kd_87, kd_88, kd_89, kd_90, kd_91, kd_92, kd_93, kd_94, kd_95, kd_96, kd_97, kd_98, kd_99, kd_100, kd_101, kd_102, kd_103, kd_104, kd_105, kd_106, kd_107, kd_108,  e_X11_length, c_has F I.st, if_neg q, F.c1_0, F.c1_2, F.c1_5, F.c1_6, F.c1_7, F.c1_8, F.c1_9, F.c1_10, F.c1_11, F.c3_0, F.c4_0, F.c6_0, F.c6_1, F.c6_2, F.c6_3, F.c6_4, F.c74_0, F.c74_1, F.c77_0, F.c77_1, F.c80_0, F.c80_1, F.c83_0, F.c86_0]
    · simp (disch := omega) only [↓if_pos, ↓if_neg, Int.reduceLT, Int.reduceLE, Int.reduceEq, Int.reduceNe, Int.reduceNeg, Int.reduceAdd, Int.reduceSub, Int.reduceMul, Int.reduceGE, Int.reduceGT, Nat.reduceEqDiff, Nat.reduceAdd, and_true, true_and, and_self, not_true_eq_false, not_false_eq_true, ne_eq, and_false, false_and, or_false, or_true, false_or, true_or, Option.bind_some, vx_some, eq_self, ↓reduceIte, ite_t1, ite_t2, ite_t3, ite_t4, kd_1, kd_2, kd_3, kd_4, kd_5, kd_6, kd_7, kd_14, kd_15, kd_16, kd_29, kd_34, kd_56, kd_74, kd_75, kd_76, kd_77, kd_78, kd_79, kd_80, kd_81, kd_82, kd_83, kd_84, kd_85, kd_86, kd_87, kd_88, kd_89, kd_90, kd_91, kd_92, kd_93, kd_94, kd_95, kd_96, kd_97, kd_98, kd_99, kd_100, kd_101, kd_102, kd_103, kd_104, kd_105, kd_106, kd_107, kd_108,  e_X12_length, p_isStore F I.kl, if_neg q, F.c88_0, F.c88_13, F.c88_14, F.c88_15, F.c88_16, F.c88_17, F.c88_18, F.c88_19, F.c88_22, F.c88_23, F.c88_24, F.c88_25, F.c88_27, F.c88_28, F.c88_31, F.c88_32, F.c88_33, F.c88_37, F.c88_38, F.c88_39]
end
