/-! THE PURE PART: the start: what holds then; the law -/
def LA : List (Int × Int × Int) := LC ++ (LM ++ LB)
theorem la_wr (S : Mm) : wr LB (wr LM (wr LC S)) = wr LA S := by
  unfold LA
  rw [wr_app, wr_app]
theorem la_fx : fxl.all (fun q => decide (lkw LA q.1 q.2.1 = some q.2.2)) = true := by decide +kernel
def laP : List (Int × Int × Int) := [(1, 3, 30), (1, 4, 52), (90, 5, 4), (90, 6, 2), (90, 7, 4), (90, 8, 0), (90, 9, 0), (77, 2, 4), (77, 3, 2), (77, 4, 4), (80, 2, 4), (80, 3, 2), (80, 4, 4), (1, 1, 0), (3, 3, -1), (88, 11, -1), (88, 30, -1), (88, 20, 0), (78, 0, -1), (78, 1, -1), (78, 2, -1), (78, 3, -1), (78, 4, -1), (78, 5, -1), (78, 6, -1), (78, 7, -1)]
theorem la_p : laP.all (fun q => decide (lkw LA q.1 q.2.1 = some q.2.2)) = true := by decide +kernel
def laN : List (Int × Int) := [(30, 6), (6, 5), (74, 2), (74, 3), (77, 5), (77, 6), (83, 1), (83, 2), (88, 1), (3, 2), (88, 10)]
theorem la_n : laN.all (fun q => decide (lkw LA q.1 q.2 = none)) = true := by decide +kernel
theorem la_c : LA.all (fun q => decide (q.1 ≠ 75 ∧ q.1 ≠ 29 ∧ q.1 ≠ 84 ∧ 0 < q.1)) = true := by decide +kernel
section
variable {S : Mm}
theorem la_g {o k v : Int} (h : (o, k, v) ∈ laP) : wr LA S o k = v := by
  have q := List.all_eq_true.mp la_p _ h
  rw [wr_lkw, of_decide_eq_true q]
  rfl
theorem la_z (z : ∀ o k : Int, 0 < o → S o k = 0) {o k : Int} (o0 : 0 < o) (h : (o, k) ∈ laN) : wr LA S o k = 0 := by
  have q := List.all_eq_true.mp la_n _ h
  rw [wr_lkw, of_decide_eq_true q]
  exact z o k o0
theorem la_75 (z : ∀ o k : Int, 0 < o → S o k = 0) {o k : Int} (h : o = 75 ∨ o = 29 ∨ o = 84) : wr LA S o k = 0 := by
  rw [wr_o _ _ _ _ (fun q hq => by
    have := of_decide_eq_true (List.all_eq_true.mp la_c _ hq)
    omega)]
  exact z o k (by omega)
theorem la_m {o k : Int} (h : o ≤ 0) : wr LA S o k = S o k := by
  rw [wr_o _ _ _ _ (fun q hq => by
    have := of_decide_eq_true (List.all_eq_true.mp la_c _ hq)
    omega)]
theorem fx_0 : FX (wr LA S) := fun q hq => by
  have := of_decide_eq_true (List.all_eq_true.mp la_fx _ hq)
  rw [wr_lkw, this]
  rfl
theorem inv_0 (z : ∀ o k : Int, 0 < o → S o k = 0) (sc : ∀ k : Int, -2147483648 ≤ S (-1) k ∧ S (-1) k < 2147483648) (w : S (-2) 0 = 1 ∧ S (-2) 1 = 250 ∧ S (-2) 2 = 244 ∧ S (-2) 3 = 248 ∧ S (-2) 4 = 240 ∧ S (-2) 5 = 224 ∧ S (-2) 6 = 192 ∧ S (-2) 7 = 128) : INV 0 (109, MMi (wr LA S)) := by
  have F : FX (MMi (wr LA S)) := fx_0.mmi
  have e (o k : Int) (h : o ≤ 87 ∨ (o = 88 ∧ k < 26) ∨ (o = 88 ∧ k = 30)) : MMi (wr LA S) o k = wr LA S o k := MMi_o (by omega) (by omega) (by omega) (by omega) (by omega) (by omega) (by omega) (by omega) (by omega) (by omega)
  have e3 : MMi (wr LA S) 90 3 = 0 := (MMi_90 (by omega) (by omega)).trans (la_g (by decide))
  have e4 : MMi (wr LA S) 90 4 = 0 := (MMi_90 (by omega) (by omega)).trans (la_g (by decide))
  have e0 : MMi (wr LA S) 90 0 = 4 := (MMi_90 (by omega) (by omega)).trans (la_g (by decide))
  have e1 : MMi (wr LA S) 90 1 = 2 := (MMi_90 (by omega) (by omega)).trans (la_g (by decide))
  have e2 : MMi (wr LA S) 90 2 = 4 := (MMi_90 (by omega) (by omega)).trans (la_g (by decide))
  have p3 : MMi (wr LA S) 1 3 = 30 := (e 1 3 (by omega)).trans (la_g (by decide))
  have p4 : MMi (wr LA S) 1 4 = 52 := (e 1 4 (by omega)).trans (la_g (by decide))
  have p6 : MMi (wr LA S) 30 6 = 0 := (e 30 6 (by omega)).trans (la_z z (by omega) (by decide))
  have s5 : MMi (wr LA S) 6 5 = 0 := (e 6 5 (by omega)).trans (la_z z (by omega) (by decide))
  have h2 : MMi (wr LA S) 77 2 = 4 := (e 77 2 (by omega)).trans (la_g (by decide))
  have h3 : MMi (wr LA S) 77 3 = 2 := (e 77 3 (by omega)).trans (la_g (by decide))
  have h4 : MMi (wr LA S) 77 4 = 4 := (e 77 4 (by omega)).trans (la_g (by decide))
  have h5 : MMi (wr LA S) 77 5 = 0 := (e 77 5 (by omega)).trans (la_z z (by omega) (by decide))
  have h6 : MMi (wr LA S) 77 6 = 0 := (e 77 6 (by omega)).trans (la_z z (by omega) (by decide))
  have t2 : MMi (wr LA S) 80 2 = 4 := (e 80 2 (by omega)).trans (la_g (by decide))
  have t3 : MMi (wr LA S) 80 3 = 2 := (e 80 3 (by omega)).trans (la_g (by decide))
  have t4 : MMi (wr LA S) 80 4 = 4 := (e 80 4 (by omega)).trans (la_g (by decide))
  have a2 : MMi (wr LA S) 74 2 = 0 := (e 74 2 (by omega)).trans (la_z z (by omega) (by decide))
  have a3 : MMi (wr LA S) 74 3 = 0 := (e 74 3 (by omega)).trans (la_z z (by omega) (by decide))
  have y1 : MMi (wr LA S) 83 1 = 0 := (e 83 1 (by omega)).trans (la_z z (by omega) (by decide))
  have y2 : MMi (wr LA S) 83 2 = 0 := (e 83 2 (by omega)).trans (la_z z (by omega) (by decide))
  have l1 : MMi (wr LA S) 1 1 = 0 := (e 1 1 (by omega)).trans (la_g (by decide))
  have l2 : MMi (wr LA S) 88 1 = 0 := (e 88 1 (by omega)).trans (la_z z (by omega) (by decide))
  have f1 : MMi (wr LA S) 3 2 = 0 := (e 3 2 (by omega)).trans (la_z z (by omega) (by decide))
  have f2 : MMi (wr LA S) 88 10 = 0 := (e 88 10 (by omega)).trans (la_z z (by omega) (by decide))
  have f3 : MMi (wr LA S) 3 3 = -1 := (e 3 3 (by omega)).trans (la_g (by decide))
  have f4 : MMi (wr LA S) 88 11 = -1 := (e 88 11 (by omega)).trans (la_g (by decide))
  have o30 : MMi (wr LA S) 88 30 = -1 := (e 88 30 (by omega)).trans (la_g (by decide))
  obtain ⟨b26, b34, b35, b36⟩ := MMi_88 (B := wr LA S)
  have v103 : ∀ q : Int, 0 ≤ q → q < 64 → MMi (wr LA S) 103 q = -1 := fun q q0 q1 => MMi_103 q0 q1
  have v105 : ∀ q : Int, 0 ≤ q → q < 2400 → MMi (wr LA S) 105 q = 0 := fun q q0 q1 => MMi_105 q0 q1
  have v108 : ∀ q : Int, 0 ≤ q → q < 2 → MMi (wr LA S) 108 q = 0 := fun q q0 q1 => MMi_108 q0 q1
  have v75 : ∀ q : Int, MMi (wr LA S) 75 q = 0 := fun q => (e 75 q (by omega)).trans (la_75 z (by omega))
  have v29 : ∀ q : Int, MMi (wr LA S) 29 q = 0 := fun q => (e 29 q (by omega)).trans (la_75 z (by omega))
  have v84 : ∀ q : Int, MMi (wr LA S) 84 q = 0 := fun q => (e 84 q (by omega)).trans (la_75 z (by omega))
  have v78 : ∀ q : Int, 0 ≤ q → q < 8 → MMi (wr LA S) 78 q = -1 := fun q q0 q1 => (e 78 q (by omega)).trans (by
    rcases (by omega : q = 0 ∨ q = 1 ∨ q = 2 ∨ q = 3 ∨ q = 4 ∨ q = 5 ∨ q = 6 ∨ q = 7) with a | a | a | a | a | a | a | a <;> subst a <;> exact la_g (by decide))
  have vm1 : ∀ q : Int, MMi (wr LA S) (-1) q = S (-1) q := fun q => (e (-1) q (by omega)).trans (la_m (by omega))
  have vm2 : ∀ q : Int, MMi (wr LA S) (-2) q = S (-2) q := fun q => (e (-2) q (by omega)).trans (la_m (by omega))
  have hz : ∀ n : Nat, n ≤ 32 → hct (MMi (wr LA S) 103) n = 0 := by
    intro n
    induction n with
    | zero => intro _; rfl
    | succ n ih =>
      intro hn
      unfold hct
      rw [ih (by omega), v103 n (by omega) (by omega)]
      rfl
  clear e
  generalize MMi (wr LA S) = M at *
  have nT : ∀ t : Int, ¬ isT M t := fun t h => by
    have := h.1
    have := h.2
    omega
  refine ⟨F, ⟨⟨Or.inl p3, ?_, ?_⟩, ⟨?_, ?_⟩, ⟨?_, ?_⟩, ⟨?_, ?_⟩, ?_, ?_⟩, ?_, ⟨?_, ?_⟩, ?_, ?_, ?_, ?_, ?_, ?_, by omega⟩
  · show M 1 4 = 82 - M 1 3
    omega
  · show M (M 1 3) 6 = M 90 4
    rw [p3, p6, e4]
  · show 0 ≤ M 90 3 ∧ M 90 3 ≤ 6
    omega
  · intro s s0 (s1 : s < M 90 3)
    omega
  · show 0 ≤ M 90 4 ∧ M 90 4 ≤ 4
    omega
  · intro t t0 (t1 : t < M 90 4)
    omega
  · show M 6 5 = M 90 3
    omega
  · intro s s0 (s1 : s < M 90 3)
    omega
  · intro t h
    exact absurd h (nT t)
  · show CSH M
    unfold CSH
    rw [e0, e1, e2, h2, h3, h4, t2, t3, t4]
    decide
  · intro s p s0 (s1 : s < M 90 3)
    omega
  · show RNG 109 M
    unfold RNG
    rw [a2, a3]
    refine ⟨by omega, by omega, by omega, fun j j0 j1 => ?_, Or.inr (by omega)⟩
    rw [v75, if_neg (by omega)]
  · refine ⟨?_, ?_⟩
    · show M 88 26 = M 74 3
      omega
    · intro k k0 (k1 : k < M 74 3)
      omega
  · intro b b0 b1
    refine ⟨Or.inl (v29 b), ?_, fun h => ?_⟩
    · show M 108 b = M 29 b
      rw [v108 b b0 b1, v29]
    · have := v29 b
      have h : M 29 b = 1 := h
      omega
  · show CAC 0 M
    unfold CAC
    rw [e0, e1, h5, h6, b36, hz 32 (by omega)]
    refine ⟨?_, rfl, by omega, by omega⟩
    intro t j t0 t1 j0 j1
    rw [v103 _ (by omega) (by omega), v78 _ (by omega) (by omega)]
    exact ⟨rfl, by omega, fun w => absurd rfl w⟩
  · show TAL 0 M
    unfold TAL
    rw [y1, y2, b34, b35]
    refine ⟨rfl, rfl, by omega, by omega, fun k k0 k1 => ?_⟩
    rw [v84, v105 k k0 k1]
    omega
  · show TAP M
    unfold TAP
    rw [l1, l2]
    exact ⟨rfl, by omega, fun k k0 k1 => by omega⟩
  · show FLT M
    unfold FLT
    rw [f1, f2, f3, f4]
    exact ⟨rfl, rfl⟩
  · show OUT M
    unfold OUT
    refine ⟨o30, fun k => ?_, ?_⟩
    · rw [vm1]
      exact sc k
    · rw [vm2, vm2, vm2, vm2, vm2, vm2, vm2, vm2]
      exact w
end
theorem m0_pos {L : Nat} {xs : Nat → Int32} {o k : Int} (h : 0 < o) : m0 L xs o k = 0 := by
  unfold m0
  rw [if_neg (by omega), if_neg (by omega), if_neg (by omega), if_neg (by omega), if_neg (by omega)]
theorem m0_sc {L : Nat} {xs : Nat → Int32} (hL : L ≤ 4096) (k : Int) : -2147483648 ≤ m0 L xs (-1) k ∧ m0 L xs (-1) k < 2147483648 := by
  unfold m0
  rw [if_pos rfl]
  by_cases a : k = -1
  · rw [if_pos a]
    omega
  · rw [if_neg a]
    by_cases b : 0 ≤ k ∧ k < L
    · rw [if_pos b]
      have h1 := Int32.le_toInt (xs k.toNat)
      have h2 := Int32.toInt_lt (xs k.toNat)
      omega
    · rw [if_neg b]
      omega
theorem pure_law {L : Nat} {xs : Nat → Int32} (hL : L ≤ 4096) : ∃ h' : Hq, vm 323 [(2, -1)] (1, m0 L xs) = some (some (0, 1), h') ∧ h'.1 ≤ 130 := by
  have T : TXS (m0 L xs) := ⟨fun k _ => m0_t (i := 0) (by decide) k, fun k _ => m0_t (i := 1) (by decide) k, fun k _ => m0_t (i := 2) (by decide) k⟩
  have q1 := c_X11 T
  have q2 := c_X12 (S := wr LC (m0 L xs)) (by rw [la_wr]; exact fx_0)
  rw [la_wr] at q2
  have I := inv_0 (S := m0 L xs) (fun o k h => m0_pos h) (m0_sc hL) ⟨rfl, rfl, rfl, rfl, rfl, rfl, rfl, rfl⟩
  have vL : MMi (wr LA (m0 L xs)) (-1) (-1) = (L : Int) := (MMi_o (by omega) (by omega) (by omega) (by omega) (by omega) (by omega) (by omega) (by omega) (by omega) (by omega)).trans ((la_m (by omega)).trans rfl)
  generalize MMi (wr LA (m0 L xs)) = Z at *
  obtain ⟨N, hN⟩ : ∃ N : Nat, (N : Int) = 512 := ⟨512, rfl⟩
  have i2 : (512 : Int) - 0 ≤ (N : Int) := by omega
  obtain ⟨h', r, rn⟩ := law_loop (L := (L : Int)) (by omega) (by omega) N 0 (109, Z) I vL (by omega) i2
  refine ⟨h', ?_, rn⟩
  generalize wr LC (m0 L xs) = Y at *
  refine Eq.trans (e_L_law ..) ?_
  refine Eq.trans (if_pos (show (kd 1).1 = 11 by decide)) ?_
  refine Eq.trans (if_pos (show 0 < (1 : Int) ∧ (kd 1).1 = 11 by decide)) ?_
  refine Eq.trans (bnd q1) ?_
  refine Eq.trans (if_pos (show (kd 88).1 = 12 by decide)) ?_
  refine Eq.trans (if_pos (show 0 < (88 : Int) ∧ (kd 88).1 = 12 by decide)) ?_
  refine Eq.trans (bnd q2) ?_
  exact r
