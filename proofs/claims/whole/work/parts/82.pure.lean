/-! THE PURE PART: the cache: both fetch alike -/
theorem slot_inj {W t t' j j' : Int} (hW : 1 ≤ W ∧ W ≤ 4) (j0 : 0 ≤ j) (j1 : j < W) (j0' : 0 ≤ j') (j1' : j' < W) (e : t * W + j = t' * W + j') : t = t' ∧ j = j' := by
  have : W = 1 ∨ W = 2 ∨ W = 3 ∨ W = 4 := by omega
  rcases this with rfl | rfl | rfl | rfl <;> omega
section
variable {m M : Mm} {C b x : Int}
theorem hlC_5 (m : Mm) (C x : Int) (hC : C ≠ C + 1 ∧ C ≠ C + 2) : hlC m C x C 5 = m C 5 + 1 := by
  unfold hlC
  rw [stm_ap, if_neg (by omega), stm_ap, if_neg (by omega), stm_ap, if_neg (by omega), stm_same]
theorem hlC_6 (m : Mm) (C x : Int) : hlC m C x C 6 = m C 6 + if m (C + 1) (slC m C x) = -1 then 1 else 0 := by
  unfold hlC
  rw [stm_ap, if_neg (by omega), stm_ap, if_neg (by omega), stm_same]
theorem hlC_l (m : Mm) (C x q : Int) : hlC m C x (C + 1) q = if q = slC m C x then x else m (C + 1) q := by
  unfold hlC
  rw [stm_ap, if_neg (by omega), stm_ap]
  by_cases z : q = slC m C x
  · rw [if_pos ⟨rfl, z⟩, if_pos z]
  · rw [if_neg (fun w => z w.2), if_neg z, stm_ap, if_neg (by omega), stm_ap, if_neg (by omega)]
theorem hlC_t (m : Mm) (C x q : Int) : hlC m C x (C + 2) q = if q = slC m C x then m C 5 + 1 else m (C + 2) q := by
  unfold hlC
  rw [stm_ap]
  by_cases z : q = slC m C x
  · rw [if_pos ⟨rfl, z⟩, if_pos z]
  · rw [if_neg (fun w => z w.2), if_neg z, stm_ap, if_neg (by omega), stm_ap, if_neg (by omega), stm_ap, if_neg (by omega)]
theorem hlC_fr (m : Mm) (C x o k : Int) (h1 : o ≠ C + 1) (h2 : o ≠ C + 2) (h3 : ¬ (o = C ∧ (k = 5 ∨ k = 6))) : hlC m C x o k = m o k := by
  unfold hlC
  rw [stm_ap, if_neg (by omega), stm_ap, if_neg (by omega), stm_ap, if_neg (by omega), stm_ap, if_neg (by omega)]
theorem hlM_36 (m : Mm) (b x : Int) : hlM m b x 88 36 = m 88 36 + 1 := by
  unfold hlM
  rw [stm_ap, if_neg (by omega), stm_ap, if_neg (by omega), stm_same]
theorem hlM_l (m : Mm) (b x q : Int) : hlM m b x 103 q = if q = slM m b x then x else m 103 q := by
  unfold hlM
  rw [stm_ap, if_neg (by omega), stm_ap]
  by_cases z : q = slM m b x
  · rw [if_pos ⟨rfl, z⟩, if_pos z]
  · rw [if_neg (fun w => z w.2), if_neg z, stm_ap, if_neg (by omega)]
theorem hlM_t (m : Mm) (b x q : Int) : hlM m b x 104 q = if q = slM m b x then m 88 36 + 1 else m 104 q := by
  unfold hlM
  rw [stm_ap]
  by_cases z : q = slM m b x
  · rw [if_pos ⟨rfl, z⟩, if_pos z]
  · rw [if_neg (fun w => z w.2), if_neg z, stm_ap, if_neg (by omega), stm_ap, if_neg (by omega)]
theorem hlM_fr (m : Mm) (b x o k : Int) (h1 : o ≠ 103) (h2 : o ≠ 104) (h3 : ¬ (o = 88 ∧ k = 36)) : hlM m b x o k = m o k := by
  unfold hlM
  rw [stm_ap, if_neg (by omega), stm_ap, if_neg (by omega), stm_ap, if_neg (by omega)]
/-- both caches, C of the class in m, the places from b on of the model in M -/
def BCa (m M : Mm) (C b : Int) : Prop := (m C 2 = M 90 0 ∧ m C 3 = M 90 1) ∧ CZ (M 90 0) (M 90 1) ∧ LRU (M 90 0) (M 90 1) (m (C + 1)) (m (C + 2)) (M 103) (M 104) b (m C 5) (M 88 36)
theorem BCa.way (B : BCa m M C b) (x0 : 0 ≤ x) : htC m C x = htM M b x ∧ ∃ t w : Int, (0 ≤ t ∧ t < M 90 0) ∧ (0 ≤ w ∧ w < M 90 1) ∧ slC m C x = t * M 90 1 + w ∧ slM M b x = b + 4 * t + w ∧ m (C + 1) (t * M 90 1 + w) = M 103 (b + 4 * t + w) := by
  obtain ⟨⟨e2, e3⟩, Z, L⟩ := B
  have hS := Z.1
  have z3 := Z.2
  have t0 := Int.emod_nonneg x (show M 90 0 ≠ 0 by omega)
  have t1 := Int.emod_lt_of_pos x (show 0 < M 90 0 by omega)
  have hL : ∀ q : Int, 0 ≤ q → q < M 90 1 → m (C + 1) (x % M 90 0 * M 90 1 + q) = M 103 (b + 4 * (x % M 90 0) + q) := fun q q0 q1 => (L _ q t0 t1 q0 q1).1
  have hT : ∀ q r : Int, 0 ≤ q → q < M 90 1 → 0 ≤ r → r < M 90 1 → m (C + 1) (x % M 90 0 * M 90 1 + q) ≠ -1 → m (C + 1) (x % M 90 0 * M 90 1 + r) ≠ -1 → (m (C + 2) (x % M 90 0 * M 90 1 + q) < m (C + 2) (x % M 90 0 * M 90 1 + r) ↔ M 104 (b + 4 * (x % M 90 0) + q) < M 104 (b + 4 * (x % M 90 0) + r)) := fun q r q0 q1 r0 r1 hq hr => by
    have a := (L _ q t0 t1 q0 q1)
    have c := (L _ r t0 t1 r0 r1)
    exact (a.2.2 (by rw [← a.1]; exact hq)).2.2 r r0 r1 (by rw [← c.1]; exact hr)
  have wc := wy_congr (x := x) (W := (M 90 1).toNat) (L := fun q => m (C + 1) (x % M 90 0 * M 90 1 + q)) (L' := fun q => M 103 (b + 4 * (x % M 90 0) + q)) (T := fun q => m (C + 2) (x % M 90 0 * M 90 1 + q)) (T' := fun q => M 104 (b + 4 * (x % M 90 0) + q)) (fun q q0 q1 => hL q q0 (by omega)) (fun q r q0 q1 r0 r1 hq hr => hT q r q0 (by omega) r0 (by omega) hq hr)
  have fc := fh_congr (x := x) (L := fun q => m (C + 1) (x % M 90 0 * M 90 1 + q)) (L' := fun q => M 103 (b + 4 * (x % M 90 0) + q)) (M 90 1).toNat 0 (fun q q0 q1 => hL q q0 (by omega))
  have wr := wy_rng (L := fun q => M 103 (b + 4 * (x % M 90 0) + q)) (T := fun q => M 104 (b + 4 * (x % M 90 0) + q)) (x := x) (W := (M 90 1).toNat) (by omega)
  refine ⟨?_, x % M 90 0, wy (fun q => M 103 (b + 4 * (x % M 90 0) + q)) (fun q => M 104 (b + 4 * (x % M 90 0) + q)) x (M 90 1).toNat, ⟨t0, t1⟩, by omega, ?_, rfl, hL _ (by omega) (by omega)⟩
  · unfold htC htM
    rw [e2, e3, fc]
  · unfold slC
    rw [e2, e3, wc]
theorem BCa.next (B : BCa m M C b) (x0 : 0 ≤ x) (hC : C = 77 ∨ C = 80) : BCa (hlC m C x) (hlM M b x) C b := by
  obtain ⟨_, t, w, ht, hw, es, em, _⟩ := B.way x0
  obtain ⟨⟨e2, e3⟩, Z, L⟩ := B
  have z3 := Z.2
  have f0 : hlM M b x 90 0 = M 90 0 := hlM_fr M b x 90 0 (by omega) (by omega) (by omega)
  have f1 : hlM M b x 90 1 = M 90 1 := hlM_fr M b x 90 1 (by omega) (by omega) (by omega)
  have g2 : hlC m C x C 2 = m C 2 := hlC_fr m C x C 2 (by omega) (by omega) (by omega)
  have g3 : hlC m C x C 3 = m C 3 := hlC_fr m C x C 3 (by omega) (by omega) (by omega)
  refine ⟨⟨by rw [g2, f0, e2], by rw [g3, f1, e3]⟩, by rw [f0, f1]; exact Z, ?_⟩
  rw [f0, f1, hlC_5 m C x (by omega), hlM_36]
  intro t' j' t0 t1 j0 j1
  have a := L t' j' t0 t1 j0 j1
  have inj : ∀ j'' : Int, 0 ≤ j'' → j'' < M 90 1 → (t' * M 90 1 + j'' = slC m C x ↔ (t' = t ∧ j'' = w)) := fun j'' q0 q1 => by
    rw [es]
    constructor
    · intro q
      exact slot_inj z3 q0 q1 hw.1 hw.2 q
    · intro q
      rw [q.1, q.2]
  have inm : ∀ j'' : Int, 0 ≤ j'' → j'' < M 90 1 → (b + 4 * t' + j'' = slM M b x ↔ (t' = t ∧ j'' = w)) := fun j'' q0 q1 => by
    rw [em]
    omega
  rw [hlC_l, hlM_l, hlC_t, hlM_t]
  by_cases z : t' = t ∧ j' = w
  · rw [if_pos ((inj j' j0 j1).mpr z), if_pos ((inm j' j0 j1).mpr z), if_pos ((inj j' j0 j1).mpr z), if_pos ((inm j' j0 j1).mpr z)]
    refine ⟨rfl, by omega, fun _ => ⟨by omega, by omega, fun j'' q0 q1 hq => ?_⟩⟩
    rw [hlM_l] at hq
    rw [hlC_t, hlM_t]
    by_cases y : t' = t ∧ j'' = w
    · rw [if_pos ((inj j'' q0 q1).mpr y), if_pos ((inm j'' q0 q1).mpr y)]
      omega
    · rw [if_neg (fun q => y ((inm j'' q0 q1).mp q))] at hq
      rw [if_neg (fun q => y ((inj j'' q0 q1).mp q)), if_neg (fun q => y ((inm j'' q0 q1).mp q))]
      have c := (L t' j'' t0 t1 q0 q1).2.2 hq
      have c1 := c.1
      have c2 := c.2.1
      clear c L inj inm
      omega
  · rw [if_neg (fun q => z ((inj j' j0 j1).mp q)), if_neg (fun q => z ((inm j' j0 j1).mp q)), if_neg (fun q => z ((inj j' j0 j1).mp q)), if_neg (fun q => z ((inm j' j0 j1).mp q))]
    refine ⟨a.1, a.2.1, fun hq => ?_⟩
    have c := a.2.2 hq
    refine ⟨by have := c.1; omega, by have := c.2.1; omega, fun j'' q0 q1 hq' => ?_⟩
    rw [hlM_l] at hq'
    rw [hlC_t, hlM_t]
    by_cases y : t' = t ∧ j'' = w
    · rw [if_pos ((inj j'' q0 q1).mpr y), if_pos ((inm j'' q0 q1).mpr y)]
      have c1 := c.1
      have c2 := c.2.1
      clear c a L inj inm
      omega
    · rw [if_neg (fun q => y ((inm j'' q0 q1).mp q))] at hq'
      rw [if_neg (fun q => y ((inj j'' q0 q1).mp q)), if_neg (fun q => y ((inm j'' q0 q1).mp q))]
      exact c.2.2 j'' q0 q1 hq'
/-- how many lines are held -/
theorem hct_out {f : Int → Int} {p x : Int} : ∀ n : Nat, (n : Int) ≤ p → hct (fun k => if k = p then x else f k) n = hct f n
  | 0, _ => rfl
  | n + 1, h => by
    unfold hct
    rw [hct_out n (by omega), if_neg (show ¬ (n : Int) = p by omega)]
theorem hct_upd {f : Int → Int} {p x : Int} (p0 : 0 ≤ p) (hx : x ≠ -1) : ∀ n : Nat, p < (n : Int) → hct (fun k => if k = p then x else f k) n = hct f n + if f p = -1 then 1 else 0
  | 0, h => by omega
  | n + 1, h => by
    unfold hct
    by_cases z : (n : Int) = p
    · rw [if_pos z, hct_out n (by omega), if_neg hx, z]
      split <;> omega
    · rw [if_neg z, hct_upd p0 hx n (by omega)]
      split <;> split <;> omega
end
