/-! THE PURE PART: the start: a new object of the model -/
def LM : List (Int × Int × Int) := [(88, 0, 89), (88, 9, -1), (88, 11, -1), (88, 13, 90), (88, 14, 91), (88, 15, 92), (88, 16, 93), (88, 17, 94), (88, 18, 95), (88, 19, 96), (88, 22, 97), (88, 23, 98), (88, 24, 99), (88, 25, 100), (88, 27, 101), (88, 28, 102), (88, 30, -1), (88, 31, 103), (88, 32, 104), (88, 33, 105), (88, 37, 106), (88, 38, 107), (88, 39, 108)]
def LB : List (Int × Int × Int) := [(90, 5, 4), (90, 6, 2), (90, 7, 4), (90, 8, 0), (90, 9, 0), (88, 20, 0), (88, 21, 0)]
theorem p_begins {n : Int} {B : Mm} (b : B 88 13 = 90) : vm 191 [(2, 88)] (n, B) = some (none, (n, wr LB B)) := by
  refine Eq.trans (e_X12_begins ..) ?_
  repeat first
    | (refine Eq.trans (if_pos ?_) ?_; · first | omega | (simp (disch := omega) only [b, stm_o, Int.reduceLT, Int.reduceLE, Int.reduceEq, Int.reduceNe, Int.reduceNeg, Int.reduceAdd, Int.reduceSub, Int.reduceMul, Int.reduceGE, Int.reduceGT, Nat.reduceEqDiff, Nat.reduceAdd, and_true, true_and, and_self, not_true_eq_false, not_false_eq_true, ne_eq, and_false, false_and, or_false, or_true, false_or, true_or, vx_some, eq_self, ↓reduceIte, ite_t1, ite_t2, ite_t3, le_T, le_F, lt_T, lt_F, ge_T, ge_F, gt_T, gt_F, eq_T, eq_F, w32_i, kd_1, kd_2, kd_3, kd_4, kd_5, kd_6, kd_7, kd_14, kd_15, kd_16, kd_29, kd_34, kd_56, kd_74, kd_75, kd_76, kd_77, kd_78, kd_79, kd_80, kd_81, kd_82, kd_83, kd_84, kd_85, kd_86, kd_87, kd_88, kd_89, kd_90, kd_91, kd_92, kd_93, kd_94, kd_95, kd_96, kd_97, kd_98, kd_99, kd_100, kd_101, kd_102, kd_103, kd_104, kd_105, kd_106, kd_107, kd_108]; done))
    | (refine Eq.trans (if_neg ?_) ?_; · first | omega | (simp (disch := omega) only [b, stm_o, Int.reduceLT, Int.reduceLE, Int.reduceEq, Int.reduceNe, Int.reduceNeg, Int.reduceAdd, Int.reduceSub, Int.reduceMul, Int.reduceGE, Int.reduceGT, Nat.reduceEqDiff, Nat.reduceAdd, and_true, true_and, and_self, not_true_eq_false, not_false_eq_true, ne_eq, and_false, false_and, or_false, or_true, false_or, true_or, vx_some, eq_self, ↓reduceIte, ite_t1, ite_t2, ite_t3, le_T, le_F, lt_T, lt_F, ge_T, ge_F, gt_T, gt_F, eq_T, eq_F, w32_i, kd_1, kd_2, kd_3, kd_4, kd_5, kd_6, kd_7, kd_14, kd_15, kd_16, kd_29, kd_34, kd_56, kd_74, kd_75, kd_76, kd_77, kd_78, kd_79, kd_80, kd_81, kd_82, kd_83, kd_84, kd_85, kd_86, kd_87, kd_88, kd_89, kd_90, kd_91, kd_92, kd_93, kd_94, kd_95, kd_96, kd_97, kd_98, kd_99, kd_100, kd_101, kd_102, kd_103, kd_104, kd_105, kd_106, kd_107, kd_108]; done))
    | (refine Eq.trans (bnd (r := ?_) ?_) ?_; rotate_left 1; (focus (simp (disch := omega) only [b, stm_o, Int.reduceLT, Int.reduceLE, Int.reduceEq, Int.reduceNe, Int.reduceNeg, Int.reduceAdd, Int.reduceSub, Int.reduceMul, Int.reduceGE, Int.reduceGT, Nat.reduceEqDiff, Nat.reduceAdd, and_true, true_and, and_self, not_true_eq_false, not_false_eq_true, ne_eq, and_false, false_and, or_false, or_true, false_or, true_or, vx_some, eq_self, ↓reduceIte, ite_t1, ite_t2, ite_t3, le_T, le_F, lt_T, lt_F, ge_T, ge_F, gt_T, gt_F, eq_T, eq_F, w32_i, kd_1, kd_2, kd_3, kd_4, kd_5, kd_6, kd_7, kd_14, kd_15, kd_16, kd_29, kd_34, kd_56, kd_74, kd_75, kd_76, kd_77, kd_78, kd_79, kd_80, kd_81, kd_82, kd_83, kd_84, kd_85, kd_86, kd_87, kd_88, kd_89, kd_90, kd_91, kd_92, kd_93, kd_94, kd_95, kd_96, kd_97, kd_98, kd_99, kd_100, kd_101, kd_102, kd_103, kd_104, kd_105, kd_106, kd_107, kd_108]; exact rfl)); simp only [vx_some])
  all_goals simp (disch := omega) only [b, stm_o]
  all_goals rfl
def M3i (B : Mm) : Mm := hlf (hlf (hlf (hlf B 90 5 5) 93 6 6) 94 6 6) 95 28 28
theorem M3i_o {B : Mm} {o q : Int} (h : o ≠ 90) (h2 : o ≠ 93) (h3 : o ≠ 94) (h4 : o ≠ 95) : M3i B o q = B o q := by
  unfold M3i
  rw [hlf_o h4, hlf_o h3, hlf_o h2, hlf_o h]
theorem M3i_90 {B : Mm} {q : Int} (q0 : 0 ≤ q) (q1 : q < 5) : M3i B 90 q = B 90 (5 + q) := by
  unfold M3i
  rw [hlf_o (by omega), hlf_o (by omega), hlf_o (by omega), hlf_ap, if_pos (by omega)]
noncomputable def MMi (B : Mm) : Mm := stm (stm (emM (stm (tkM (M3i B) 2400) 88 26 0)) 108 0 0) 108 1 0
/-- what stays as it was -/
theorem MMi_o {B : Mm} {o q : Int} (h : o ≠ 90) (h2 : o ≠ 93) (h3 : o ≠ 94) (h4 : o ≠ 95) (h5 : o ≠ 97) (h6 : o ≠ 98) (h7 : o ≠ 103) (h8 : o ≠ 105) (h9 : o ≠ 108) (h10 : ¬ (o = 88 ∧ (q = 26 ∨ q = 34 ∨ q = 35 ∨ q = 36))) : MMi B o q = B o q := by
  unfold MMi
  rw [stm_o h9, stm_o h9]
  unfold emM
  rw [stm_ap, if_neg (by omega), stm_ap, if_neg (by omega), stm_ap, if_neg (by omega), fil_ap, if_neg (by omega), fil_ap, if_neg (by omega), stm_ap, if_neg (by omega), tkM_o h5 h6, M3i_o h h2 h3 h4]
theorem MMi_90 {B : Mm} {q : Int} (q0 : 0 ≤ q) (q1 : q < 5) : MMi B 90 q = B 90 (5 + q) := by
  unfold MMi
  rw [stm_o (by omega), stm_o (by omega)]
  unfold emM
  rw [stm_o (by omega), stm_o (by omega), stm_o (by omega), fil_ap, if_neg (by omega), fil_ap, if_neg (by omega), stm_o (by omega), tkM_o (by omega) (by omega), M3i_90 q0 q1]
theorem MMi_103 {B : Mm} {q : Int} (q0 : 0 ≤ q) (q1 : q < 64) : MMi B 103 q = -1 := by
  unfold MMi
  rw [stm_o (by omega), stm_o (by omega)]
  unfold emM
  rw [stm_o (by omega), stm_o (by omega), stm_o (by omega), fil_ap, if_neg (by omega), fil_ap, if_pos (by omega)]
theorem MMi_105 {B : Mm} {q : Int} (q0 : 0 ≤ q) (q1 : q < 2400) : MMi B 105 q = 0 := by
  unfold MMi
  rw [stm_o (by omega), stm_o (by omega)]
  unfold emM
  rw [stm_o (by omega), stm_o (by omega), stm_o (by omega), fil_ap, if_pos (by omega)]
theorem MMi_108 {B : Mm} {q : Int} (q0 : 0 ≤ q) (q1 : q < 2) : MMi B 108 q = 0 := by
  unfold MMi
  by_cases a : q = 1
  · rw [a, stm_same]
  · rw [stm_k a, show q = 0 by omega, stm_same]
theorem MMi_88 {B : Mm} : MMi B 88 26 = 0 ∧ MMi B 88 34 = 0 ∧ MMi B 88 35 = 0 ∧ MMi B 88 36 = 0 := by
  unfold MMi
  refine ⟨?_, ?_, ?_, ?_⟩
  · rw [stm_o (by omega), stm_o (by omega)]
    unfold emM
    rw [stm_k (by omega), stm_k (by omega), stm_k (by omega), fil_ap, if_neg (by omega), fil_ap, if_neg (by omega), stm_same]
  · rw [stm_o (by omega), stm_o (by omega)]
    unfold emM
    rw [stm_k (by omega), stm_k (by omega), stm_same]
  · rw [stm_o (by omega), stm_o (by omega)]
    unfold emM
    rw [stm_k (by omega), stm_same]
  · rw [stm_o (by omega), stm_o (by omega)]
    unfold emM
    rw [stm_same]
theorem FX.mmi {B : Mm} (F : FX B) : FX (MMi B) := F.fr (fun o q h => MMi_o (by unfold FXP at h; omega) (by unfold FXP at h; omega) (by unfold FXP at h; omega) (by unfold FXP at h; omega) (by unfold FXP at h; omega) (by unfold FXP at h; omega) (by unfold FXP at h; omega) (by unfold FXP at h; omega) (by unfold FXP at h; omega) (by unfold FXP at h; omega))
theorem p_takes0 {n : Int} {B : Mm} (F : FX B) (b8 : B 90 8 = 0) (b20 : B 88 20 = 0) : vm 204 [(2, 88)] (n, B) = some (none, (n, MMi B)) := by
  have F3 : FX (M3i B) := F.fr (fun o q h => M3i_o (by unfold FXP at h; omega) (by unfold FXP at h; omega) (by unfold FXP at h; omega) (by unfold FXP at h; omega))
  have h1 := p_half (n := n) (M := B) (c := 90) (H := 5) (by omega) kd_90 (by omega) (by omega)
  have h2 := p_half (n := n) (M := hlf B 90 5 5) (c := 93) (H := 6) (by omega) kd_93 (by omega) (by omega)
  have h3 := p_half (n := n) (M := hlf (hlf B 90 5 5) 93 6 6) (c := 94) (H := 6) (by omega) kd_94 (by omega) (by omega)
  have h4 := p_half (n := n) (M := hlf (hlf (hlf B 90 5 5) 93 6 6) 94 6 6) (c := 95) (H := 28) (by omega) kd_95 (by omega) (by omega)
  have c13 := F.c88_13
  have c16 : hlf B 90 5 5 88 16 = 93 := by rw [hlf_o (by omega)]; exact F.c88_16
  have c17 : hlf (hlf B 90 5 5) 93 6 6 88 17 = 94 := by rw [hlf_o (by omega), hlf_o (by omega)]; exact F.c88_17
  have c18 : hlf (hlf (hlf B 90 5 5) 93 6 6) 94 6 6 88 18 = 95 := by rw [hlf_o (by omega), hlf_o (by omega), hlf_o (by omega)]; exact F.c88_18
  have e93 : M3i B 90 3 = 0 := by rw [M3i_90 (by omega) (by omega)]; exact b8
  have K3 : KLM (M3i B) := ⟨by omega, fun s s0 s1 => by omega⟩
  have tk := p_tk30 (n := n) F3 K3 2400 0 (9, 0) (by omega) (by omega)
  rw [tkM_0] at tk
  have F5 : FX (tkM (M3i B) 2400) := F3.fr (fun o q h => tkM_o (by unfold FXP at h; omega) (by unfold FXP at h; omega))
  have e20 : tkM (M3i B) 2400 88 20 = 0 := by rw [tkM_o (by omega) (by omega), M3i_o (by omega) (by omega) (by omega) (by omega)]; exact b20
  have F6 : FX (stm (tkM (M3i B) 2400) 88 26 0) := F5.fr (fun o q h => by rw [stm_ap, if_neg (by unfold FXP at h; omega)])
  have F7 : FX (emM (stm (tkM (M3i B) 2400) 88 26 0)) := F6.fr (fun o q h => by
    unfold emM
    rw [stm_ap, if_neg (by unfold FXP at h; omega), stm_ap, if_neg (by unfold FXP at h; omega), stm_ap, if_neg (by unfold FXP at h; omega), fil_ap, if_neg (by unfold FXP at h; omega), fil_ap, if_neg (by unfold FXP at h; omega)])
  have em := p_empties (n := n) F6
  have last := p_168 (n := n) F7
  have a : vm 204 [(2, 88)] (n, B) = vp 204 30 [(2, 88), (0, 0), (9, 0)] [] (n, M3i B) := by
    clear tk last em e93 K3 F F3 F5 F6 F7 b8 b20 e20
    unfold M3i
    rw [e_X12_takesOver]
    repeat first
      | (refine Eq.trans (if_pos ?_) ?_; · first | omega | (simp (disch := omega) only [c13, h1, c16, h2, c17, h3, c18, h4, Int.reduceLT, Int.reduceLE, Int.reduceEq, Int.reduceNe, Int.reduceNeg, Int.reduceAdd, Int.reduceSub, Int.reduceMul, Int.reduceGE, Int.reduceGT, Nat.reduceEqDiff, Nat.reduceAdd, and_true, true_and, and_self, not_true_eq_false, not_false_eq_true, ne_eq, and_false, false_and, or_false, or_true, false_or, true_or, vx_some, eq_self, ↓reduceIte, ite_t1, ite_t2, ite_t3, le_T, le_F, lt_T, lt_F, ge_T, ge_F, gt_T, gt_F, eq_T, eq_F, w32_i, kd_1, kd_2, kd_3, kd_4, kd_5, kd_6, kd_7, kd_14, kd_15, kd_16, kd_29, kd_34, kd_56, kd_74, kd_75, kd_76, kd_77, kd_78, kd_79, kd_80, kd_81, kd_82, kd_83, kd_84, kd_85, kd_86, kd_87, kd_88, kd_89, kd_90, kd_91, kd_92, kd_93, kd_94, kd_95, kd_96, kd_97, kd_98, kd_99, kd_100, kd_101, kd_102, kd_103, kd_104, kd_105, kd_106, kd_107, kd_108]; done))
      | (refine Eq.trans (if_neg ?_) ?_; · first | omega | (simp (disch := omega) only [c13, h1, c16, h2, c17, h3, c18, h4, Int.reduceLT, Int.reduceLE, Int.reduceEq, Int.reduceNe, Int.reduceNeg, Int.reduceAdd, Int.reduceSub, Int.reduceMul, Int.reduceGE, Int.reduceGT, Nat.reduceEqDiff, Nat.reduceAdd, and_true, true_and, and_self, not_true_eq_false, not_false_eq_true, ne_eq, and_false, false_and, or_false, or_true, false_or, true_or, vx_some, eq_self, ↓reduceIte, ite_t1, ite_t2, ite_t3, le_T, le_F, lt_T, lt_F, ge_T, ge_F, gt_T, gt_F, eq_T, eq_F, w32_i, kd_1, kd_2, kd_3, kd_4, kd_5, kd_6, kd_7, kd_14, kd_15, kd_16, kd_29, kd_34, kd_56, kd_74, kd_75, kd_76, kd_77, kd_78, kd_79, kd_80, kd_81, kd_82, kd_83, kd_84, kd_85, kd_86, kd_87, kd_88, kd_89, kd_90, kd_91, kd_92, kd_93, kd_94, kd_95, kd_96, kd_97, kd_98, kd_99, kd_100, kd_101, kd_102, kd_103, kd_104, kd_105, kd_106, kd_107, kd_108]; done))
      | (refine Eq.trans (bnd (r := ?_) ?_) ?_; rotate_left 1; (focus (simp (disch := omega) only [c13, h1, c16, h2, c17, h3, c18, h4, Int.reduceLT, Int.reduceLE, Int.reduceEq, Int.reduceNe, Int.reduceNeg, Int.reduceAdd, Int.reduceSub, Int.reduceMul, Int.reduceGE, Int.reduceGT, Nat.reduceEqDiff, Nat.reduceAdd, and_true, true_and, and_self, not_true_eq_false, not_false_eq_true, ne_eq, and_false, false_and, or_false, or_true, false_or, true_or, vx_some, eq_self, ↓reduceIte, ite_t1, ite_t2, ite_t3, le_T, le_F, lt_T, lt_F, ge_T, ge_F, gt_T, gt_F, eq_T, eq_F, w32_i, kd_1, kd_2, kd_3, kd_4, kd_5, kd_6, kd_7, kd_14, kd_15, kd_16, kd_29, kd_34, kd_56, kd_74, kd_75, kd_76, kd_77, kd_78, kd_79, kd_80, kd_81, kd_82, kd_83, kd_84, kd_85, kd_86, kd_87, kd_88, kd_89, kd_90, kd_91, kd_92, kd_93, kd_94, kd_95, kd_96, kd_97, kd_98, kd_99, kd_100, kd_101, kd_102, kd_103, kd_104, kd_105, kd_106, kd_107, kd_108]; exact rfl)); simp only [vx_some])
    all_goals with_reducible rfl
  refine a.trans (tk.trans ?_)
  unfold MMi
  clear a tk h1 h2 h3 h4 F F3 F5 F6 F7 c13 c16 c17 c18 e93 K3 b8 b20
  refine Eq.trans (e_X12_takesOver_99 ..) ?_
  generalize emM (stm (tkM (M3i B) 2400) 88 26 0) = Y at *
  repeat first
    | (refine Eq.trans (if_pos ?_) ?_; · first | omega | (simp (disch := omega) only [e20, em, Int.reduceLT, Int.reduceLE, Int.reduceEq, Int.reduceNe, Int.reduceNeg, Int.reduceAdd, Int.reduceSub, Int.reduceMul, Int.reduceGE, Int.reduceGT, Nat.reduceEqDiff, Nat.reduceAdd, and_true, true_and, and_self, not_true_eq_false, not_false_eq_true, ne_eq, and_false, false_and, or_false, or_true, false_or, true_or, vx_some, eq_self, ↓reduceIte, ite_t1, ite_t2, ite_t3, le_T, le_F, lt_T, lt_F, ge_T, ge_F, gt_T, gt_F, eq_T, eq_F, w32_i, kd_1, kd_2, kd_3, kd_4, kd_5, kd_6, kd_7, kd_14, kd_15, kd_16, kd_29, kd_34, kd_56, kd_74, kd_75, kd_76, kd_77, kd_78, kd_79, kd_80, kd_81, kd_82, kd_83, kd_84, kd_85, kd_86, kd_87, kd_88, kd_89, kd_90, kd_91, kd_92, kd_93, kd_94, kd_95, kd_96, kd_97, kd_98, kd_99, kd_100, kd_101, kd_102, kd_103, kd_104, kd_105, kd_106, kd_107, kd_108]; done))
    | (refine Eq.trans (if_neg ?_) ?_; · first | omega | (simp (disch := omega) only [e20, em, Int.reduceLT, Int.reduceLE, Int.reduceEq, Int.reduceNe, Int.reduceNeg, Int.reduceAdd, Int.reduceSub, Int.reduceMul, Int.reduceGE, Int.reduceGT, Nat.reduceEqDiff, Nat.reduceAdd, and_true, true_and, and_self, not_true_eq_false, not_false_eq_true, ne_eq, and_false, false_and, or_false, or_true, false_or, true_or, vx_some, eq_self, ↓reduceIte, ite_t1, ite_t2, ite_t3, le_T, le_F, lt_T, lt_F, ge_T, ge_F, gt_T, gt_F, eq_T, eq_F, w32_i, kd_1, kd_2, kd_3, kd_4, kd_5, kd_6, kd_7, kd_14, kd_15, kd_16, kd_29, kd_34, kd_56, kd_74, kd_75, kd_76, kd_77, kd_78, kd_79, kd_80, kd_81, kd_82, kd_83, kd_84, kd_85, kd_86, kd_87, kd_88, kd_89, kd_90, kd_91, kd_92, kd_93, kd_94, kd_95, kd_96, kd_97, kd_98, kd_99, kd_100, kd_101, kd_102, kd_103, kd_104, kd_105, kd_106, kd_107, kd_108]; done))
    | (refine Eq.trans (bnd (r := ?_) ?_) ?_; rotate_left 1; (focus (simp (disch := omega) only [e20, em, Int.reduceLT, Int.reduceLE, Int.reduceEq, Int.reduceNe, Int.reduceNeg, Int.reduceAdd, Int.reduceSub, Int.reduceMul, Int.reduceGE, Int.reduceGT, Nat.reduceEqDiff, Nat.reduceAdd, and_true, true_and, and_self, not_true_eq_false, not_false_eq_true, ne_eq, and_false, false_and, or_false, or_true, false_or, true_or, vx_some, eq_self, ↓reduceIte, ite_t1, ite_t2, ite_t3, le_T, le_F, lt_T, lt_F, ge_T, ge_F, gt_T, gt_F, eq_T, eq_F, w32_i, kd_1, kd_2, kd_3, kd_4, kd_5, kd_6, kd_7, kd_14, kd_15, kd_16, kd_29, kd_34, kd_56, kd_74, kd_75, kd_76, kd_77, kd_78, kd_79, kd_80, kd_81, kd_82, kd_83, kd_84, kd_85, kd_86, kd_87, kd_88, kd_89, kd_90, kd_91, kd_92, kd_93, kd_94, kd_95, kd_96, kd_97, kd_98, kd_99, kd_100, kd_101, kd_102, kd_103, kd_104, kd_105, kd_106, kd_107, kd_108]; exact rfl)); simp only [vx_some])
  exact last
theorem c_X12 {S : Mm} (F : FX (wr LB (wr LM S))) : vm 164 [(2, 88)] (89, S) = some (none, (109, MMi (wr LB (wr LM S)))) := by
  have q1 := p_begins (n := 109) (B := wr LM S) (by rw [wr_lkw, show lkw LM 88 13 = some 90 by decide +kernel]; rfl)
  have q2 := p_takes0 (n := 109) F (by rw [wr_lkw, show lkw LB 90 8 = some 0 by decide +kernel]; rfl) (by rw [wr_lkw, show lkw LB 88 20 = some 0 by decide +kernel]; rfl)
  refine Eq.trans (e_X12_init ..) ?_
  refine Eq.trans (if_pos (by decide)) ?_
  refine Eq.trans (if_pos (show (kd 89).1 = 20 ∧ (kd 89).2 = (900 : Int) ∧ 0 ≤ (900 : Int) ∧ (900 : Int) ≤ 1000000 by decide)) ?_
  refine Eq.trans (if_pos (by decide)) ?_
  refine Eq.trans (if_pos (by decide)) ?_
  refine Eq.trans (if_pos (by decide)) ?_
  refine Eq.trans (if_pos (show (kd 90).1 = 20 ∧ (kd 90).2 = (10 : Int) ∧ 0 ≤ (10 : Int) ∧ (10 : Int) ≤ 1000000 by decide)) ?_
  refine Eq.trans (if_pos (by decide)) ?_
  refine Eq.trans (if_pos (show (kd 91).1 = 23 ∧ (kd 91).2 = (12 : Int) ∧ 0 ≤ (12 : Int) ∧ (12 : Int) ≤ 1000000 by decide)) ?_
  refine Eq.trans (if_pos (by decide)) ?_
  refine Eq.trans (if_pos (show (kd 92).1 = 23 ∧ (kd 92).2 = (8 : Int) ∧ 0 ≤ (8 : Int) ∧ (8 : Int) ≤ 1000000 by decide)) ?_
  refine Eq.trans (if_pos (by decide)) ?_
  refine Eq.trans (if_pos (show (kd 93).1 = 20 ∧ (kd 93).2 = (12 : Int) ∧ 0 ≤ (12 : Int) ∧ (12 : Int) ≤ 1000000 by decide)) ?_
  refine Eq.trans (if_pos (by decide)) ?_
  refine Eq.trans (if_pos (show (kd 94).1 = 20 ∧ (kd 94).2 = (12 : Int) ∧ 0 ≤ (12 : Int) ∧ (12 : Int) ≤ 1000000 by decide)) ?_
  refine Eq.trans (if_pos (by decide)) ?_
  refine Eq.trans (if_pos (show (kd 95).1 = 20 ∧ (kd 95).2 = (56 : Int) ∧ 0 ≤ (56 : Int) ∧ (56 : Int) ≤ 1000000 by decide)) ?_
  refine Eq.trans (if_pos (by decide)) ?_
  refine Eq.trans (if_pos (show (kd 96).1 = 20 ∧ (kd 96).2 = (320 : Int) ∧ 0 ≤ (320 : Int) ∧ (320 : Int) ≤ 1000000 by decide)) ?_
  refine Eq.trans (if_pos (by decide)) ?_
  refine Eq.trans (if_pos (show (kd 97).1 = 20 ∧ (kd 97).2 = (2400 : Int) ∧ 0 ≤ (2400 : Int) ∧ (2400 : Int) ≤ 1000000 by decide)) ?_
  refine Eq.trans (if_pos (by decide)) ?_
  refine Eq.trans (if_pos (show (kd 98).1 = 20 ∧ (kd 98).2 = (2400 : Int) ∧ 0 ≤ (2400 : Int) ∧ (2400 : Int) ≤ 1000000 by decide)) ?_
  refine Eq.trans (if_pos (by decide)) ?_
  refine Eq.trans (if_pos (show (kd 99).1 = 20 ∧ (kd 99).2 = (48000 : Int) ∧ 0 ≤ (48000 : Int) ∧ (48000 : Int) ≤ 1000000 by decide)) ?_
  refine Eq.trans (if_pos (by decide)) ?_
  refine Eq.trans (if_pos (show (kd 100).1 = 20 ∧ (kd 100).2 = (48000 : Int) ∧ 0 ≤ (48000 : Int) ∧ (48000 : Int) ≤ 1000000 by decide)) ?_
  refine Eq.trans (if_pos (by decide)) ?_
  refine Eq.trans (if_pos (show (kd 101).1 = 20 ∧ (kd 101).2 = (2400 : Int) ∧ 0 ≤ (2400 : Int) ∧ (2400 : Int) ≤ 1000000 by decide)) ?_
  refine Eq.trans (if_pos (by decide)) ?_
  refine Eq.trans (if_pos (show (kd 102).1 = 20 ∧ (kd 102).2 = (2400 : Int) ∧ 0 ≤ (2400 : Int) ∧ (2400 : Int) ≤ 1000000 by decide)) ?_
  refine Eq.trans (if_pos (by decide)) ?_
  refine Eq.trans (if_pos (by decide)) ?_
  refine Eq.trans (if_pos (show (kd 103).1 = 20 ∧ (kd 103).2 = (64 : Int) ∧ 0 ≤ (64 : Int) ∧ (64 : Int) ≤ 1000000 by decide)) ?_
  refine Eq.trans (if_pos (by decide)) ?_
  refine Eq.trans (if_pos (show (kd 104).1 = 20 ∧ (kd 104).2 = (64 : Int) ∧ 0 ≤ (64 : Int) ∧ (64 : Int) ≤ 1000000 by decide)) ?_
  refine Eq.trans (if_pos (by decide)) ?_
  refine Eq.trans (if_pos (show (kd 105).1 = 20 ∧ (kd 105).2 = (2400 : Int) ∧ 0 ≤ (2400 : Int) ∧ (2400 : Int) ≤ 1000000 by decide)) ?_
  refine Eq.trans (if_pos (by decide)) ?_
  refine Eq.trans (if_pos (show (kd 106).1 = 20 ∧ (kd 106).2 = (4800 : Int) ∧ 0 ≤ (4800 : Int) ∧ (4800 : Int) ≤ 1000000 by decide)) ?_
  refine Eq.trans (if_pos (by decide)) ?_
  refine Eq.trans (if_pos (show (kd 107).1 = 20 ∧ (kd 107).2 = (4800 : Int) ∧ 0 ≤ (4800 : Int) ∧ (4800 : Int) ≤ 1000000 by decide)) ?_
  refine Eq.trans (if_pos (by decide)) ?_
  refine Eq.trans (if_pos (show (kd 108).1 = 22 ∧ (kd 108).2 = (2 : Int) ∧ 0 ≤ (2 : Int) ∧ (2 : Int) ≤ 1000000 by decide)) ?_
  refine Eq.trans (if_pos (by decide)) ?_
  refine Eq.trans (if_pos (by decide)) ?_
  refine Eq.trans (bnd q1) ?_
  refine Eq.trans (if_pos (by decide)) ?_
  exact bnd q2
