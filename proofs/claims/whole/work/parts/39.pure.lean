/-! THE PURE PART: acts, the model's way -/
theorem cpm_ap (m : Mm) (a d b s n o k : Int) : cpm m a d b s n o k = if o = b ∧ s ≤ k ∧ k < s + n then m a (d + (k - s)) else m o k := rfl
/-- one element more is copied -/
theorem cpm_st {m : Mm} {a d b s : Int} {n : Nat} {v : Int} (hv : v = m a (d + n)) : stm (cpm m a d b s n) b (s + n) v = cpm m a d b s ((n + 1 : Nat) : Int) := by
  funext o k
  rw [stm_ap, cpm_ap, cpm_ap]
  by_cases q : o = b ∧ k = s + n
  · obtain ⟨rfl, rfl⟩ := q
    rw [if_pos ⟨rfl, rfl⟩, if_pos ⟨rfl, by omega, by omega⟩, hv, show d + (s + (n : Int) - s) = d + n by omega]
  · rw [if_neg q]
    by_cases w : o = b ∧ s ≤ k ∧ k < s + n
    · rw [if_pos w, if_pos ⟨w.1, w.2.1, by omega⟩]
    · rw [if_neg w, if_neg (by omega)]
theorem cpm_0 (m : Mm) (a d b s : Int) : cpm m a d b s 0 = m := by
  funext o k
  rw [cpm_ap, if_neg (by omega)]
/-- two rows side by side -/
def cp2 (m : Mm) (a d b s a' d' b' s' n : Int) : Mm := cpm (cpm m a d b s n) a' d' b' s' n
theorem cp2_st {m : Mm} {a d b s a' d' b' s' : Int} {n : Nat} (h1 : b ≠ b') (h2 : a' ≠ b) (v v' : Int) (hv : v = m a (d + n)) (hv' : v' = m a' (d' + n)) : stm (stm (cp2 m a d b s a' d' b' s' n) b (s + n) v) b' (s' + n) v' = cp2 m a d b s a' d' b' s' ((n + 1 : Nat) : Int) := by
  have e : stm (cpm (cpm m a d b s n) a' d' b' s' n) b (s + n) v = cpm (stm (cpm m a d b s n) b (s + n) v) a' d' b' s' n := by
    funext o k
    simp only [stm_ap, cpm_ap]
    repeat' split
    all_goals first | rfl | (exfalso; omega)
  unfold cp2
  rw [e, cpm_st hv]
  apply cpm_st
  rw [hv', cpm_ap, if_neg (by omega)]
theorem cp2_ap (m : Mm) (a d b s a' d' b' s' n o k : Int) (h1 : b ≠ b') (h2 : a' ≠ b) : cp2 m a d b s a' d' b' s' n o k = if o = b' ∧ s' ≤ k ∧ k < s' + n then m a' (d' + (k - s')) else if o = b ∧ s ≤ k ∧ k < s + n then m a (d + (k - s)) else m o k := by
  unfold cp2
  rw [cpm_ap]
  split
  · rw [cpm_ap, if_neg (by omega)]
  · rw [cpm_ap]
theorem FX.cp2 {m : Mm} (F : FX m) {a d b s a' d' b' s' n : Int} (hb : 97 ≤ b) (hb' : 97 ≤ b') (h1 : b ≠ b') (h2 : a' ≠ b) : FX (cp2 m a d b s a' d' b' s' n) := F.fr (fun c k q => by
  unfold FXP at q
  rw [cp2_ap _ _ _ _ _ _ _ _ _ _ _ _ h1 h2, if_neg (by omega), if_neg (by omega)])
/-- the model's act begins -/
def bgM (m : Mm) : Mm := stm (cp2 m 97 0 101 0 98 0 102 0 2400) 88 29 0
theorem p_begin2 {h : Hq} (F : FX h.2) : ∀ k n : Nat, n + k = 2400 → vp 218 2 [(2, 88), (0, (n : Int))] [] (h.1, cp2 h.2 97 0 101 0 98 0 102 0 n) = some (none, (h.1, bgM h.2))
  | 0, n, e => by
    have : n = 2400 := by omega
    subst this
    rw [e_X12_begin_2]
    simp (disch := omega) only [↓if_pos, ↓if_neg, Int.reduceLT, Int.reduceLE, Int.reduceEq, Int.reduceNe, Int.reduceNeg, Int.reduceAdd, Int.reduceSub, Int.reduceMul, Int.reduceGE, Int.reduceGT, Nat.reduceEqDiff, Nat.reduceAdd, and_true, true_and, and_self, not_true_eq_false, not_false_eq_true, ne_eq, and_false, false_and, or_false, or_true, false_or, true_or, Option.bind_some, vx_some, eq_self, ↓reduceIte, ite_t1, ite_t2, ite_t3, ite_t4, kd_1, kd_2, kd_3, kd_4, kd_5, kd_6, kd_7, kd_14, kd_15, kd_16, kd_29, kd_34, kd_56, kd_74, kd_75, kd_76, kd_77, kd_78, kd_79, kd_80, kd_81, kd_82, kd_83, kd_84, kd_85, kd_86, kd_87, kd_88, kd_89, kd_90, kd_91, kd_92, kd_93, kd_94, kd_95, kd_96, kd_97, kd_98, kd_99, kd_100, kd_101, kd_102, kd_103, kd_104, kd_105, kd_106, kd_107, kd_108, ]
    rfl
  | k + 1, n, e => by
    have ih := p_begin2 F k (n + 1) (by omega)
    have F1 : FX (cp2 h.2 97 0 101 0 98 0 102 0 n) := F.cp2 (by omega) (by omega) (by omega) (by omega)
    rw [← cp2_st (by omega) (by omega) (h.2 97 (0 + n)) (h.2 98 (0 + n)) rfl rfl] at ih
    rw [e_X12_begin_2]
    have r1 : cp2 h.2 97 0 101 0 98 0 102 0 n 97 n = h.2 97 (0 + n) := by
      rw [cp2_ap _ _ _ _ _ _ _ _ _ _ _ _ (by omega) (by omega), if_neg (by omega), if_neg (by omega), Int.zero_add]
    have r2 : ∀ v, stm (cp2 h.2 97 0 101 0 98 0 102 0 n) 101 n v 98 n = h.2 98 (0 + n) := fun v => by
      rw [stm_ap, if_neg (by omega), cp2_ap _ _ _ _ _ _ _ _ _ _ _ _ (by omega) (by omega), if_neg (by omega), if_neg (by omega), Int.zero_add]
    have r3 : ∀ v j, stm (cp2 h.2 97 0 101 0 98 0 102 0 n) 101 n v 88 j = cp2 h.2 97 0 101 0 98 0 102 0 n 88 j := fun v j => by
      rw [stm_ap, if_neg (by omega)]
    simp (disch := omega) only [↓if_pos, ↓if_neg, Int.reduceLT, Int.reduceLE, Int.reduceEq, Int.reduceNe, Int.reduceNeg, Int.reduceAdd, Int.reduceSub, Int.reduceMul, Int.reduceGE, Int.reduceGT, Nat.reduceEqDiff, Nat.reduceAdd, and_true, true_and, and_self, not_true_eq_false, not_false_eq_true, ne_eq, and_false, false_and, or_false, or_true, false_or, true_or, Option.bind_some, vx_some, eq_self, ↓reduceIte, ite_t1, ite_t2, ite_t3, ite_t4, kd_1, kd_2, kd_3, kd_4, kd_5, kd_6, kd_7, kd_14, kd_15, kd_16, kd_29, kd_34, kd_56, kd_74, kd_75, kd_76, kd_77, kd_78, kd_79, kd_80, kd_81, kd_82, kd_83, kd_84, kd_85, kd_86, kd_87, kd_88, kd_89, kd_90, kd_91, kd_92, kd_93, kd_94, kd_95, kd_96, kd_97, kd_98, kd_99, kd_100, kd_101, kd_102, kd_103, kd_104, kd_105, kd_106, kd_107, kd_108,  F1.c88_22, F1.c88_23, F1.c88_27, F1.c88_28, r1, r2, r3, w32_i]
    simp only [Int.zero_add] at ih ⊢
    exact ih
theorem p_begin {h : Hq} (F : FX h.2) : vm 218 [(2, 88)] h = some (none, (h.1, bgM h.2)) := by
  rw [e_X12_begin]
  have := p_begin2 F 2400 0 rfl
  unfold cp2 at this
  rw [show (((0 : Nat) : Int)) = 0 from rfl, cpm_0, cpm_0] at this
  exact this
