/-! THE PURE PART: one place is set -/
def ctk (k v : Int) : Int := if k = 0 then (if v = 0 then 0 else 1) else if k = 1 then w8 v else if k = 2 then v % 65536 else if k = 3 then w16 v else v
theorem ctk_rng {k v : Int} (v0 : -1000000 ≤ v) (v1 : v ≤ 1000000) : -1000000 ≤ ctk k v ∧ ctk k v ≤ 1000000 := by
  unfold ctk w8 w16
  repeat' split
  all_goals omega
theorem c_cut (k v : Int) (h : Hq) : vm 44 [(0, k), (0, v)] h = some (some (0, ctk k v), h) := by
  rw [e_X7_cut]
  unfold ctk
  repeat' split
  all_goals first | rfl | (exfalso; omega)
theorem p_cut {k v : Int} (h : Hq) (v0 : -2147483648 ≤ v) (v1 : v < 2147483648) : vm 214 [(0, v), (0, k)] h = some (some (0, ctk k v), h) := by
  rw [e_X12_cut]
  unfold ctk
  have b7 := band_bit v 7 (by decide)
  have b15 := band_bit v 15 (by decide)
  rw [show (2 : Int) ^ 7 = 128 by decide] at b7
  rw [show (2 : Int) ^ 15 = 32768 by decide] at b15
  rw [b7, b15, band255, band65535, p_truth, p_truth]
  have e8 : w32 (v % 256 - w32 (2 * (v / 128 % 2 * 128))) = w8 v := by unfold w32 w8; omega
  have e16 : w32 (v % 65536 - w32 (2 * (v / 32768 % 2 * 32768))) = w16 v := by unfold w32 w16; omega
  rw [e8, e16]
  repeat' split
  all_goals first | rfl | (exfalso; omega)
def up1 (f : Int → Int) (k v : Int) : Int → Int := fun q => if q = k then v else f q
theorem up1_c (f : Int → Int) (k v : Int) : up1 f k v k = v := if_pos rfl
theorem up1_o {f : Int → Int} {k v q : Int} (h : q ≠ k) : up1 f k v q = f q := if_neg h
theorem stm_stc (m : Mm) (c : Int) (f : Int → Int) (k v : Int) : stm (stc m c f) c k v = stc m c (up1 f k v) := by
  funext o q
  rw [stm_ap]
  unfold stc up1
  by_cases h : o = c
  · simp only [if_pos h]
    by_cases z : q = k
    · rw [if_pos ⟨h, z⟩, if_pos z]
    · rw [if_neg (fun w => z w.2), if_neg z]
  · rw [if_neg (fun w => h w.1)]
    simp only [if_neg h]
theorem stc_id (m : Mm) (c : Int) : stc m c (m c) = m := by
  funext o q
  unfold stc
  by_cases h : o = c
  · rw [if_pos h, h]
  · rw [if_neg h]
theorem mdM_97s (M : Mm) (io : Int) (f g : Int → Int) (k v : Int) : stm (mdM M io f g) 97 k v = mdM M io (up1 f k v) g := by
  funext o q
  unfold mdM
  rw [stm_ap]
  by_cases h : o = 97
  · subst h
    rw [stc_o (by omega), stc_c, stc_o (by omega), stc_c]
    unfold up1
    by_cases z : q = k
    · rw [if_pos ⟨rfl, z⟩, if_pos z]
    · rw [if_neg (fun w => z w.2), if_neg z]
  · rw [if_neg (fun w => h w.1)]
    by_cases h2 : o = 98
    · subst h2; rw [stc_c, stc_c]
    · rw [stc_o h2, stc_o h, stc_o h2, stc_o h]
theorem mdM_98s (M : Mm) (io : Int) (f g : Int → Int) (k v : Int) : stm (mdM M io f g) 98 k v = mdM M io f (up1 g k v) := by
  unfold mdM
  rw [stm_stc]
theorem mdM_29s (M : Mm) (io v : Int) (f g : Int → Int) : stm (mdM M io f g) 88 29 v = mdM M v f g := by
  funext o q
  unfold mdM
  rw [stm_ap]
  by_cases h : o = 88 ∧ q = 29
  · obtain ⟨rfl, rfl⟩ := h
    rw [if_pos ⟨rfl, rfl⟩, stc_o (by omega), stc_o (by omega), stm_same]
  · rw [if_neg h]
    by_cases h2 : o = 98
    · subst h2; rw [stc_c, stc_c]
    · by_cases h3 : o = 97
      · subst h3; rw [stc_o (by omega), stc_c, stc_o (by omega), stc_c]
      · rw [stc_o h2, stc_o h3, stc_o h2, stc_o h3, stm_ap, stm_ap, if_neg h, if_neg h]
theorem bgM_md (M : Mm) : bgM M = mdM M 0 (M 97) (M 98) := by
  funext o q
  by_cases h : o = 97
  · subst h; rw [mdM_97, bgM_o (by omega) (by omega) (by omega)]
  · by_cases h2 : o = 98
    · subst h2; rw [mdM_98, bgM_o (by omega) (by omega) (by omega)]
    · unfold mdM
      rw [stc_o h2, stc_o h, stm_ap]
      by_cases z : o = 88 ∧ q = 29
      · obtain ⟨rfl, rfl⟩ := z
        rw [if_pos ⟨rfl, rfl⟩]
        exact stm_same _ _ _ _
      · rw [if_neg z]
theorem FX.md {M : Mm} (F : FX M) {io : Int} {f g : Int → Int} : FX (mdM M io f g) := F.fr (fun c k q => mdM_o (by unfold FXP at q; omega) (by unfold FXP at q; omega))
theorem FX.bc {m : Mm} (F : FX m) {s : Int} {r : Int → Int} (s0 : 0 ≤ s) (s1 : s < 6) : FX (stc (bgC m s) (8 + s) r) := F.fr (fun c k q => by
  unfold FXP at q
  rw [stc_o (by omega), bgC_o (by omega) (by omega) (by omega)])
theorem FX.mc {m : Mm} (F : FX m) {s : Int} {r : Int → Int} {b : Bool} (s0 : 0 ≤ s) (s1 : s < 6) : FX (mcC m s r b) := F.fr (fun c k q => by
  unfold FXP at q
  exact mcC_o (by omega) (by omega) (by omega) (by omega) (by omega))
/-- what a box makes of a place: the class's row, the model's number, whether it is there -/
def bxr (b v : Int) : Int := if b = 0 then -2147483648 else if b ≤ 8 then ctk (b - 1) v else v
def bxf (b v : Int) : Int := if b = 0 then -1 else if b ≤ 8 then ctk (b - 1) v else v
def bxg (b g : Int) : Int := if b = 0 then 0 else if b ≤ 8 then g else 1
theorem c_set {h : Hq} (F : FX h.2) {s p b v : Int} (s0 : 0 ≤ s) (s1 : s < 6) (p0 : 0 ≤ p) (p1 : p < 400) (b0 : 0 ≤ b) (b1 : b ≤ 10) : vm 56 [(2, 6), (0, s), (0, p), (0, b), (0, v)] h = some (some (0, if 9 ≤ b ∨ h.2 (8 + s) p ≠ bxr b v then 1 else 0), (h.1, stm h.2 (8 + s) p (bxr b v))) := by
  have k := kdr s0 s1
  have r := rowc F s0 s1
  rw [e_X7_set]
  unfold bxr
  by_cases b2 : b = 0
  · simp (disch := omega) only [↓if_pos, ↓if_neg, Int.reduceLT, Int.reduceLE, Int.reduceEq, Int.reduceNe, Int.reduceNeg, Int.reduceAdd, Int.reduceSub, Int.reduceMul, Int.reduceGE, Int.reduceGT, Nat.reduceEqDiff, Nat.reduceAdd, and_true, true_and, and_self, not_true_eq_false, not_false_eq_true, ne_eq, and_false, false_and, or_false, or_true, false_or, true_or, Option.bind_some, vx_some, eq_self, ↓reduceIte, ite_t1, ite_t2, ite_t3, ite_t4, kd_1, kd_2, kd_3, kd_4, kd_5, kd_6, kd_7, kd_14, kd_15, kd_16, kd_29, kd_34, kd_56, kd_74, kd_75, kd_76, kd_77, kd_78, kd_79, kd_80, kd_81, kd_82, kd_83, kd_84, kd_85, kd_86, kd_87, kd_88, kd_89, kd_90, kd_91, kd_92, kd_93, kd_94, kd_95, kd_96, kd_97, kd_98, kd_99, kd_100, kd_101, kd_102, kd_103, kd_104, kd_105, kd_106, kd_107, kd_108,  F.c1_0, F.c1_2, F.c1_5, F.c1_6, F.c1_7, F.c1_8, F.c1_9, F.c1_10, F.c1_11, F.c3_0, F.c4_0, F.c6_0, F.c6_1, F.c6_2, F.c6_3, F.c6_4, F.c74_0, F.c74_1, F.c77_0, F.c77_1, F.c80_0, F.c80_1, F.c83_0, F.c86_0, k, r, if_pos b2, b2]
    split
    · rfl
    · rfl
  · by_cases b3 : b ≤ 8
    · simp (disch := omega) only [↓if_pos, ↓if_neg, Int.reduceLT, Int.reduceLE, Int.reduceEq, Int.reduceNe, Int.reduceNeg, Int.reduceAdd, Int.reduceSub, Int.reduceMul, Int.reduceGE, Int.reduceGT, Nat.reduceEqDiff, Nat.reduceAdd, and_true, true_and, and_self, not_true_eq_false, not_false_eq_true, ne_eq, and_false, false_and, or_false, or_true, false_or, true_or, Option.bind_some, vx_some, eq_self, ↓reduceIte, ite_t1, ite_t2, ite_t3, ite_t4, kd_1, kd_2, kd_3, kd_4, kd_5, kd_6, kd_7, kd_14, kd_15, kd_16, kd_29, kd_34, kd_56, kd_74, kd_75, kd_76, kd_77, kd_78, kd_79, kd_80, kd_81, kd_82, kd_83, kd_84, kd_85, kd_86, kd_87, kd_88, kd_89, kd_90, kd_91, kd_92, kd_93, kd_94, kd_95, kd_96, kd_97, kd_98, kd_99, kd_100, kd_101, kd_102, kd_103, kd_104, kd_105, kd_106, kd_107, kd_108,  F.c1_0, F.c1_2, F.c1_5, F.c1_6, F.c1_7, F.c1_8, F.c1_9, F.c1_10, F.c1_11, F.c3_0, F.c4_0, F.c6_0, F.c6_1, F.c6_2, F.c6_3, F.c6_4, F.c74_0, F.c74_1, F.c77_0, F.c77_1, F.c80_0, F.c80_1, F.c83_0, F.c86_0, k, r, if_neg b2, b2, if_pos b3, c_cut, w32_i]
      by_cases e : h.2 (8 + s) p = ctk (b - 1) v
      · simp (disch := omega) only [↓if_pos, ↓if_neg, Int.reduceLT, Int.reduceLE, Int.reduceEq, Int.reduceNe, Int.reduceNeg, Int.reduceAdd, Int.reduceSub, Int.reduceMul, Int.reduceGE, Int.reduceGT, Nat.reduceEqDiff, Nat.reduceAdd, and_true, true_and, and_self, not_true_eq_false, not_false_eq_true, ne_eq, and_false, false_and, or_false, or_true, false_or, true_or, Option.bind_some, vx_some, eq_self, ↓reduceIte, ite_t1, ite_t2, ite_t3, ite_t4, kd_1, kd_2, kd_3, kd_4, kd_5, kd_6, kd_7, kd_14, kd_15, kd_16, kd_29, kd_34, kd_56, kd_74, kd_75, kd_76, kd_77, kd_78, kd_79, kd_80, kd_81, kd_82, kd_83, kd_84, kd_85, kd_86, kd_87, kd_88, kd_89, kd_90, kd_91, kd_92, kd_93, kd_94, kd_95, kd_96, kd_97, kd_98, kd_99, kd_100, kd_101, kd_102, kd_103, kd_104, kd_105, kd_106, kd_107, kd_108,  e, if_neg]
      · simp (disch := omega) only [↓if_pos, ↓if_neg, Int.reduceLT, Int.reduceLE, Int.reduceEq, Int.reduceNe, Int.reduceNeg, Int.reduceAdd, Int.reduceSub, Int.reduceMul, Int.reduceGE, Int.reduceGT, Nat.reduceEqDiff, Nat.reduceAdd, and_true, true_and, and_self, not_true_eq_false, not_false_eq_true, ne_eq, and_false, false_and, or_false, or_true, false_or, true_or, Option.bind_some, vx_some, eq_self, ↓reduceIte, ite_t1, ite_t2, ite_t3, ite_t4, kd_1, kd_2, kd_3, kd_4, kd_5, kd_6, kd_7, kd_14, kd_15, kd_16, kd_29, kd_34, kd_56, kd_74, kd_75, kd_76, kd_77, kd_78, kd_79, kd_80, kd_81, kd_82, kd_83, kd_84, kd_85, kd_86, kd_87, kd_88, kd_89, kd_90, kd_91, kd_92, kd_93, kd_94, kd_95, kd_96, kd_97, kd_98, kd_99, kd_100, kd_101, kd_102, kd_103, kd_104, kd_105, kd_106, kd_107, kd_108,  e, if_pos]
    · simp (disch := omega) only [↓if_pos, ↓if_neg, Int.reduceLT, Int.reduceLE, Int.reduceEq, Int.reduceNe, Int.reduceNeg, Int.reduceAdd, Int.reduceSub, Int.reduceMul, Int.reduceGE, Int.reduceGT, Nat.reduceEqDiff, Nat.reduceAdd, and_true, true_and, and_self, not_true_eq_false, not_false_eq_true, ne_eq, and_false, false_and, or_false, or_true, false_or, true_or, Option.bind_some, vx_some, eq_self, ↓reduceIte, ite_t1, ite_t2, ite_t3, ite_t4, kd_1, kd_2, kd_3, kd_4, kd_5, kd_6, kd_7, kd_14, kd_15, kd_16, kd_29, kd_34, kd_56, kd_74, kd_75, kd_76, kd_77, kd_78, kd_79, kd_80, kd_81, kd_82, kd_83, kd_84, kd_85, kd_86, kd_87, kd_88, kd_89, kd_90, kd_91, kd_92, kd_93, kd_94, kd_95, kd_96, kd_97, kd_98, kd_99, kd_100, kd_101, kd_102, kd_103, kd_104, kd_105, kd_106, kd_107, kd_108,  F.c1_0, F.c1_2, F.c1_5, F.c1_6, F.c1_7, F.c1_8, F.c1_9, F.c1_10, F.c1_11, F.c3_0, F.c4_0, F.c6_0, F.c6_1, F.c6_2, F.c6_3, F.c6_4, F.c74_0, F.c74_1, F.c77_0, F.c77_1, F.c80_0, F.c80_1, F.c83_0, F.c86_0, k, r, if_neg b2, b2, if_neg b3, if_pos]
theorem p_sets {h : Hq} {M : Mm} (F : FX M) {io s p v : Int} {f g : Int → Int} {n : Int} (e : h = (n, mdM M io f g)) (s0 : 0 ≤ s) (s1 : s < 6) (p0 : 0 ≤ p) (p1 : p < 400) : vm 221 [(2, 88), (0, s), (0, p), (0, v)] h = some (none, (n, mdM M (if io ≠ 0 ∨ f (400 * s + p) ≠ v then 1 else 0) (up1 f (400 * s + p) v) g)) := by
  subst e
  have F1 : FX (mdM M io f g) := F.md
  have e1 : ∀ x, mdM M x f g 88 22 = 97 := fun x => (F.md (io := x) (f := f) (g := g)).c88_22
  rw [e_X12_sets]
  by_cases q : io = 0
  · by_cases z : f (400 * s + p) = v
    · simp (disch := omega) only [↓if_pos, ↓if_neg, Int.reduceLT, Int.reduceLE, Int.reduceEq, Int.reduceNe, Int.reduceNeg, Int.reduceAdd, Int.reduceSub, Int.reduceMul, Int.reduceGE, Int.reduceGT, Nat.reduceEqDiff, Nat.reduceAdd, and_true, true_and, and_self, not_true_eq_false, not_false_eq_true, ne_eq, and_false, false_and, or_false, or_true, false_or, true_or, Option.bind_some, vx_some, eq_self, ↓reduceIte, ite_t1, ite_t2, ite_t3, ite_t4, kd_1, kd_2, kd_3, kd_4, kd_5, kd_6, kd_7, kd_14, kd_15, kd_16, kd_29, kd_34, kd_56, kd_74, kd_75, kd_76, kd_77, kd_78, kd_79, kd_80, kd_81, kd_82, kd_83, kd_84, kd_85, kd_86, kd_87, kd_88, kd_89, kd_90, kd_91, kd_92, kd_93, kd_94, kd_95, kd_96, kd_97, kd_98, kd_99, kd_100, kd_101, kd_102, kd_103, kd_104, kd_105, kd_106, kd_107, kd_108,  w32_i, mdM_29, q, e1, mdM_29s, mdM_97s, mdM_97, z, if_neg]
    · simp (disch := omega) only [↓if_pos, ↓if_neg, Int.reduceLT, Int.reduceLE, Int.reduceEq, Int.reduceNe, Int.reduceNeg, Int.reduceAdd, Int.reduceSub, Int.reduceMul, Int.reduceGE, Int.reduceGT, Nat.reduceEqDiff, Nat.reduceAdd, and_true, true_and, and_self, not_true_eq_false, not_false_eq_true, ne_eq, and_false, false_and, or_false, or_true, false_or, true_or, Option.bind_some, vx_some, eq_self, ↓reduceIte, ite_t1, ite_t2, ite_t3, ite_t4, kd_1, kd_2, kd_3, kd_4, kd_5, kd_6, kd_7, kd_14, kd_15, kd_16, kd_29, kd_34, kd_56, kd_74, kd_75, kd_76, kd_77, kd_78, kd_79, kd_80, kd_81, kd_82, kd_83, kd_84, kd_85, kd_86, kd_87, kd_88, kd_89, kd_90, kd_91, kd_92, kd_93, kd_94, kd_95, kd_96, kd_97, kd_98, kd_99, kd_100, kd_101, kd_102, kd_103, kd_104, kd_105, kd_106, kd_107, kd_108,  w32_i, mdM_29, q, e1, mdM_29s, mdM_97s, mdM_97, z, if_pos]
  · simp (disch := omega) only [↓if_pos, ↓if_neg, Int.reduceLT, Int.reduceLE, Int.reduceEq, Int.reduceNe, Int.reduceNeg, Int.reduceAdd, Int.reduceSub, Int.reduceMul, Int.reduceGE, Int.reduceGT, Nat.reduceEqDiff, Nat.reduceAdd, and_true, true_and, and_self, not_true_eq_false, not_false_eq_true, ne_eq, and_false, false_and, or_false, or_true, false_or, true_or, Option.bind_some, vx_some, eq_self, ↓reduceIte, ite_t1, ite_t2, ite_t3, ite_t4, kd_1, kd_2, kd_3, kd_4, kd_5, kd_6, kd_7, kd_14, kd_15, kd_16, kd_29, kd_34, kd_56, kd_74, kd_75, kd_76, kd_77, kd_78, kd_79, kd_80, kd_81, kd_82, kd_83, kd_84, kd_85, kd_86, kd_87, kd_88, kd_89, kd_90, kd_91, kd_92, kd_93, kd_94, kd_95, kd_96, kd_97, kd_98, kd_99, kd_100, kd_101, kd_102, kd_103, kd_104, kd_105, kd_106, kd_107, kd_108,  w32_i, mdM_29, q, e1, mdM_29s, mdM_97s, mdM_97, if_pos]
