/-! THE PURE PART: acts, the class's way -/
theorem kdk : ∀ j : Nat, j < 21 → kd (109 + (j : Int)) = (20, 400) := by decide +kernel
theorem kdk' {j : Int} (j0 : 0 ≤ j) (j1 : j < 21) : kd (109 + j) = (20, 400) := by
  have := kdk j.toNat (by omega)
  rwa [Int.toNat_of_nonneg j0] at this
theorem slt_rng (m : Mm) (k : Int) : 0 ≤ slt m k ∧ slt m k < 21 := by unfold slt; omega
theorem c_slot {h : Hq} {n : Int} (F : FX h.2) (R : RNG n h.2) {k : Int} (k0 : 0 ≤ k) (k1 : k ≤ 20) : vm 2 [(2, 74), (0, k)] h = some (some (0, slt h.2 k), h) := by
  have := R.2.1
  rw [e_X0_slot]
  simp (disch := omega) only [↓if_pos, ↓if_neg, Int.reduceLT, Int.reduceLE, Int.reduceEq, Int.reduceNe, Int.reduceNeg, Int.reduceAdd, Int.reduceSub, Int.reduceMul, Int.reduceGE, Int.reduceGT, Nat.reduceEqDiff, Nat.reduceAdd, and_true, true_and, and_self, not_true_eq_false, not_false_eq_true, ne_eq, and_false, false_and, or_false, or_true, false_or, true_or, Option.bind_some, vx_some, eq_self, ↓reduceIte, ite_t1, ite_t2, ite_t3, ite_t4, kd_1, kd_2, kd_3, kd_4, kd_5, kd_6, kd_7, kd_14, kd_15, kd_16, kd_29, kd_34, kd_56, kd_74, kd_75, kd_76, kd_77, kd_78, kd_79, kd_80, kd_81, kd_82, kd_83, kd_84, kd_85, kd_86, kd_87, kd_88, kd_89, kd_90, kd_91, kd_92, kd_93, kd_94, kd_95, kd_96, kd_97, kd_98, kd_99, kd_100, kd_101, kd_102, kd_103, kd_104, kd_105, kd_106, kd_107, kd_108,  w32_i]
  unfold slt
  rw [Int.tmod_eq_emod_of_nonneg (by omega)]
/-- the slot of the next act has a row, or it is made: the next cell -/
theorem RNG.nx {n : Int} {m : Mm} (R : RNG n m) : (slt m (m 74 3) < n - 109 ∧ m 75 (slt m (m 74 3)) = 109 + slt m (m 74 3)) ∨ (slt m (m 74 3) = n - 109 ∧ n < 130 ∧ m 75 (slt m (m 74 3)) = 0) := by
  have r := slt_rng m (m 74 3)
  obtain ⟨a, b, c, d, e⟩ := R
  have z := d (slt m (m 74 3)) r.1 r.2
  by_cases q : slt m (m 74 3) < n - 109
  · rw [if_pos q] at z; exact Or.inl ⟨q, z⟩
  · rw [if_neg q] at z
    refine Or.inr ⟨?_, ?_, z⟩
    · rcases e with e | e
      · omega
      · have : slt m (m 74 3) = m 74 3 := by unfold slt; omega
        omega
    · omega
theorem c_begun {h : Hq} (F : FX h.2) (R : RNG h.1 h.2) : vm 3 [(2, 74)] h = some (some (2, 109 + slt h.2 (h.2 74 3)), (max h.1 (110 + slt h.2 (h.2 74 3)), stm h.2 75 (slt h.2 (h.2 74 3)) (109 + slt h.2 (h.2 74 3)))) := by
  have r := slt_rng h.2 (h.2 74 3)
  have c := R.1
  have n := R.2.2.1
  obtain ⟨n0, m⟩ := h
  dsimp only at *
  rw [e_X0_begun]
  rcases R.nx with ⟨z1, z2⟩ | ⟨z1, z2, z3⟩
  · have e : stm m 75 (slt m (m 74 3)) (109 + slt m (m 74 3)) = m := by
      funext o k
      rw [stm_ap]
      split
      · next q => rw [q.1, q.2, z2]
      · rfl
    rw [e, Int.max_eq_left (by omega)]
    simp (disch := omega) only [↓if_pos, ↓if_neg, Int.reduceLT, Int.reduceLE, Int.reduceEq, Int.reduceNe, Int.reduceNeg, Int.reduceAdd, Int.reduceSub, Int.reduceMul, Int.reduceGE, Int.reduceGT, Nat.reduceEqDiff, Nat.reduceAdd, and_true, true_and, and_self, not_true_eq_false, not_false_eq_true, ne_eq, and_false, false_and, or_false, or_true, false_or, true_or, Option.bind_some, vx_some, eq_self, ↓reduceIte, ite_t1, ite_t2, ite_t3, ite_t4, kd_1, kd_2, kd_3, kd_4, kd_5, kd_6, kd_7, kd_14, kd_15, kd_16, kd_29, kd_34, kd_56, kd_74, kd_75, kd_76, kd_77, kd_78, kd_79, kd_80, kd_81, kd_82, kd_83, kd_84, kd_85, kd_86, kd_87, kd_88, kd_89, kd_90, kd_91, kd_92, kd_93, kd_94, kd_95, kd_96, kd_97, kd_98, kd_99, kd_100, kd_101, kd_102, kd_103, kd_104, kd_105, kd_106, kd_107, kd_108,  c_slot (h := (n0, m)) F R, F.c1_0, F.c1_2, F.c1_5, F.c1_6, F.c1_7, F.c1_8, F.c1_9, F.c1_10, F.c1_11, F.c3_0, F.c4_0, F.c6_0, F.c6_1, F.c6_2, F.c6_3, F.c6_4, F.c74_0, F.c74_1, F.c77_0, F.c77_1, F.c80_0, F.c80_1, F.c83_0, F.c86_0, z2]
  · have k := kdk' r.1 r.2
    rw [show 109 + slt m (m 74 3) = n0 by omega] at k ⊢
    rw [Int.max_eq_right (by omega), show 110 + slt m (m 74 3) = n0 + 1 by omega]
    have e : stm m 75 (slt m (m 74 3)) n0 75 (slt m (m 74 3)) = n0 := if_pos ⟨rfl, rfl⟩
    have e2 : stm m 75 (slt m (m 74 3)) n0 74 0 = 75 := by
      rw [stm_ap, if_neg (by omega)]
      exact F.c74_0
    simp (disch := omega) only [↓if_pos, ↓if_neg, Int.reduceLT, Int.reduceLE, Int.reduceEq, Int.reduceNe, Int.reduceNeg, Int.reduceAdd, Int.reduceSub, Int.reduceMul, Int.reduceGE, Int.reduceGT, Nat.reduceEqDiff, Nat.reduceAdd, and_true, true_and, and_self, not_true_eq_false, not_false_eq_true, ne_eq, and_false, false_and, or_false, or_true, false_or, true_or, Option.bind_some, vx_some, eq_self, ↓reduceIte, ite_t1, ite_t2, ite_t3, ite_t4, kd_1, kd_2, kd_3, kd_4, kd_5, kd_6, kd_7, kd_14, kd_15, kd_16, kd_29, kd_34, kd_56, kd_74, kd_75, kd_76, kd_77, kd_78, kd_79, kd_80, kd_81, kd_82, kd_83, kd_84, kd_85, kd_86, kd_87, kd_88, kd_89, kd_90, kd_91, kd_92, kd_93, kd_94, kd_95, kd_96, kd_97, kd_98, kd_99, kd_100, kd_101, kd_102, kd_103, kd_104, kd_105, kd_106, kd_107, kd_108,  c_slot (h := (n0, m)) F R, F.c1_0, F.c1_2, F.c1_5, F.c1_6, F.c1_7, F.c1_8, F.c1_9, F.c1_10, F.c1_11, F.c3_0, F.c4_0, F.c6_0, F.c6_1, F.c6_2, F.c6_3, F.c6_4, F.c74_0, F.c74_1, F.c77_0, F.c77_1, F.c80_0, F.c80_1, F.c83_0, F.c86_0, z3, k, e, e2]
/-- an act begins: the row's copy, whose it is -/
def bgC (m : Mm) (s : Int) : Mm := cpm (stm (stm m 76 (slt m (m 74 3)) s) 75 (slt m (m 74 3)) (109 + slt m (m 74 3))) (8 + s) 0 (109 + slt m (m 74 3)) 0 400
def bgN (n : Int) (m : Mm) : Int := max n (110 + slt m (m 74 3))
theorem bgC_o {m : Mm} {s c k : Int} (h0 : 109 ≤ c → c ≠ 109 + slt m (m 74 3)) (h1 : c ≠ 75) (h2 : c ≠ 76) : bgC m s c k = m c k := by
  unfold bgC
  show (if c = 109 + slt m (m 74 3) ∧ 0 ≤ k ∧ k < 0 + 400 then _ else stm (stm m 76 _ s) 75 _ _ c k) = _
  have := slt_rng m (m 74 3)
  rw [if_neg (by omega), stm_ap, if_neg (by omega), stm_ap, if_neg (by omega)]
theorem bgC_r {m : Mm} {s k : Int} (s0 : 0 ≤ s) (s1 : s < 6) (k0 : 0 ≤ k) (k1 : k < 400) : bgC m s (109 + slt m (m 74 3)) k = m (8 + s) k := by
  unfold bgC
  show (if 109 + slt m (m 74 3) = 109 + slt m (m 74 3) ∧ 0 ≤ k ∧ k < 0 + 400 then stm (stm m 76 _ s) 75 _ _ (8 + s) (0 + (k - 0)) else _) = _
  rw [if_pos ⟨rfl, by omega⟩, stm_ap, if_neg (by omega), stm_ap, if_neg (by omega), show 0 + (k - 0) = k by omega]
theorem bgC_76 {m : Mm} {s k : Int} : bgC m s 76 k = if k = slt m (m 74 3) then s else m 76 k := by
  unfold bgC
  show (if (76 : Int) = 109 + slt m (m 74 3) ∧ 0 ≤ k ∧ k < 0 + 400 then _ else stm (stm m 76 _ s) 75 _ _ 76 k) = _
  have := slt_rng m (m 74 3)
  rw [if_neg (by omega), stm_ap, if_neg (by omega), stm_ap]
  by_cases q : k = slt m (m 74 3)
  · rw [if_pos ⟨rfl, q⟩, if_pos q]
  · rw [if_neg (fun z => q z.2), if_neg q]
theorem bgC_75 {m : Mm} {s k : Int} : bgC m s 75 k = if k = slt m (m 74 3) then 109 + slt m (m 74 3) else m 75 k := by
  unfold bgC
  show (if (75 : Int) = 109 + slt m (m 74 3) ∧ 0 ≤ k ∧ k < 0 + 400 then _ else stm (stm m 76 _ s) 75 _ _ 75 k) = _
  have := slt_rng m (m 74 3)
  rw [if_neg (by omega), stm_ap]
  by_cases q : k = slt m (m 74 3)
  · rw [if_pos ⟨rfl, q⟩, if_pos q]
  · rw [if_neg (fun z => q z.2), stm_ap, if_neg (by omega), if_neg q]
theorem c_begin {h : Hq} (F : FX h.2) (R : RNG h.1 h.2) {s : Int} (s0 : 0 ≤ s) (s1 : s < 6) : vm 4 [(2, 74), (0, s), (2, 8 + s)] h = some (none, (bgN h.1 h.2, bgC h.2 s)) := by
  have r := slt_rng h.2 (h.2 74 3)
  have c := R.1
  have n := R.2.2.1
  have k := kdr s0 s1
  have kj := kdk' r.1 r.2
  have F1 : FX (stm h.2 76 (slt h.2 (h.2 74 3)) s) := F.fr (fun c k q => by
    unfold FXP at q
    rw [stm_ap, if_neg (by omega)])
  have R1 : RNG h.1 (stm h.2 76 (slt h.2 (h.2 74 3)) s) := R.fr (fun c k q => by rw [stm_ap, if_neg (by omega)])
  have z := c_begun (h := (h.1, stm h.2 76 (slt h.2 (h.2 74 3)) s)) F1 R1
  have e3 : stm h.2 76 (slt h.2 (h.2 74 3)) s 74 3 = h.2 74 3 := by rw [stm_ap, if_neg (by omega)]
  have e4 : slt (stm h.2 76 (slt h.2 (h.2 74 3)) s) (h.2 74 3) = slt h.2 (h.2 74 3) := by
    unfold slt
    rw [stm_ap, if_neg (by omega)]
  dsimp only at z
  rw [e3, e4] at z
  rw [e_X0_begin]
  simp (disch := omega) only [↓if_pos, ↓if_neg, Int.reduceLT, Int.reduceLE, Int.reduceEq, Int.reduceNe, Int.reduceNeg, Int.reduceAdd, Int.reduceSub, Int.reduceMul, Int.reduceGE, Int.reduceGT, Nat.reduceEqDiff, Nat.reduceAdd, and_true, true_and, and_self, not_true_eq_false, not_false_eq_true, ne_eq, and_false, false_and, or_false, or_true, false_or, true_or, Option.bind_some, vx_some, eq_self, ↓reduceIte, ite_t1, ite_t2, ite_t3, ite_t4, kd_1, kd_2, kd_3, kd_4, kd_5, kd_6, kd_7, kd_14, kd_15, kd_16, kd_29, kd_34, kd_56, kd_74, kd_75, kd_76, kd_77, kd_78, kd_79, kd_80, kd_81, kd_82, kd_83, kd_84, kd_85, kd_86, kd_87, kd_88, kd_89, kd_90, kd_91, kd_92, kd_93, kd_94, kd_95, kd_96, kd_97, kd_98, kd_99, kd_100, kd_101, kd_102, kd_103, kd_104, kd_105, kd_106, kd_107, kd_108,  c_slot F R, F.c1_0, F.c1_2, F.c1_5, F.c1_6, F.c1_7, F.c1_8, F.c1_9, F.c1_10, F.c1_11, F.c3_0, F.c4_0, F.c6_0, F.c6_1, F.c6_2, F.c6_3, F.c6_4, F.c74_0, F.c74_1, F.c77_0, F.c77_1, F.c80_0, F.c80_1, F.c83_0, F.c86_0, z, k, kj]
  rfl
/-- an act is kept -/
def kpC (m : Mm) : Mm := if 20 ≤ m 74 3 then stm m 74 2 (slt m 1) else stm m 74 3 (m 74 3 + 1)
theorem c_keep {h : Hq} {n : Int} (F : FX h.2) (R : RNG n h.2) : vm 5 [(2, 74)] h = some (none, (h.1, kpC h.2)) := by
  have c := R.1
  rw [e_X0_keep]
  unfold kpC
  by_cases q : 20 ≤ h.2 74 3
  · simp (disch := omega) only [↓if_pos, ↓if_neg, Int.reduceLT, Int.reduceLE, Int.reduceEq, Int.reduceNe, Int.reduceNeg, Int.reduceAdd, Int.reduceSub, Int.reduceMul, Int.reduceGE, Int.reduceGT, Nat.reduceEqDiff, Nat.reduceAdd, and_true, true_and, and_self, not_true_eq_false, not_false_eq_true, ne_eq, and_false, false_and, or_false, or_true, false_or, true_or, Option.bind_some, vx_some, eq_self, ↓reduceIte, ite_t1, ite_t2, ite_t3, ite_t4, kd_1, kd_2, kd_3, kd_4, kd_5, kd_6, kd_7, kd_14, kd_15, kd_16, kd_29, kd_34, kd_56, kd_74, kd_75, kd_76, kd_77, kd_78, kd_79, kd_80, kd_81, kd_82, kd_83, kd_84, kd_85, kd_86, kd_87, kd_88, kd_89, kd_90, kd_91, kd_92, kd_93, kd_94, kd_95, kd_96, kd_97, kd_98, kd_99, kd_100, kd_101, kd_102, kd_103, kd_104, kd_105, kd_106, kd_107, kd_108,  c_slot F R, if_pos q]
  · simp (disch := omega) only [↓if_pos, ↓if_neg, Int.reduceLT, Int.reduceLE, Int.reduceEq, Int.reduceNe, Int.reduceNeg, Int.reduceAdd, Int.reduceSub, Int.reduceMul, Int.reduceGE, Int.reduceGT, Nat.reduceEqDiff, Nat.reduceAdd, and_true, true_and, and_self, not_true_eq_false, not_false_eq_true, ne_eq, and_false, false_and, or_false, or_true, false_or, true_or, Option.bind_some, vx_some, eq_self, ↓reduceIte, ite_t1, ite_t2, ite_t3, ite_t4, kd_1, kd_2, kd_3, kd_4, kd_5, kd_6, kd_7, kd_14, kd_15, kd_16, kd_29, kd_34, kd_56, kd_74, kd_75, kd_76, kd_77, kd_78, kd_79, kd_80, kd_81, kd_82, kd_83, kd_84, kd_85, kd_86, kd_87, kd_88, kd_89, kd_90, kd_91, kd_92, kd_93, kd_94, kd_95, kd_96, kd_97, kd_98, kd_99, kd_100, kd_101, kd_102, kd_103, kd_104, kd_105, kd_106, kd_107, kd_108,  w32_i, if_neg q]
theorem RNG.bg {n : Int} {m : Mm} (R : RNG n m) (s : Int) : RNG (bgN n m) (bgC m s) ∧ slt m (m 74 3) < bgN n m - 109 := by
  have r := slt_rng m (m 74 3)
  have z := R.nx
  obtain ⟨a, b, c, d, e⟩ := R
  have e2 : bgC m s 74 2 = m 74 2 := bgC_o (by omega) (by omega) (by omega)
  have e3 : bgC m s 74 3 = m 74 3 := bgC_o (by omega) (by omega) (by omega)
  have hn : bgN n m = max n (110 + slt m (m 74 3)) := rfl
  unfold RNG
  rw [e2, e3]
  refine ⟨⟨a, b, by omega, fun j j0 j1 => ?_, ?_⟩, by omega⟩
  · rw [bgC_75]
    have dj := d j j0 j1
    by_cases q : j = slt m (m 74 3)
    · rw [if_pos q, if_pos (by omega), q]
    · rw [if_neg q, dj]
      by_cases w : j < n - 109
      · rw [if_pos w, if_pos (by omega)]
      · rw [if_neg w, if_neg (by omega)]
  · rcases e with e | e
    · exact Or.inl (by omega)
    · exact Or.inr ⟨e.1, by omega⟩
