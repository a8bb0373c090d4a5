/-! THE PURE PART: a bank opens: the new shapes -/
/-- the model's memory U holds in its lower halves what M1 told in its upper ones -/
def TKN (U M1 : Mm) : Prop := (∀ k : Int, 0 ≤ k → k < 5 → U 90 k = M1 90 (5 + k)) ∧ (∀ k : Int, 0 ≤ k → k < 6 → U 93 k = M1 93 (6 + k)) ∧ (∀ k : Int, 0 ≤ k → k < 6 → U 94 k = M1 94 (6 + k)) ∧ ∀ k : Int, 0 ≤ k → k < 28 → U 95 k = M1 95 (28 + k)
section
variable {m m2 M1 U : Mm} {D : Int}
theorem TKN.n (T : TKN U M1) (P : PL m M1 D) : (U 90 3 = m D 5 ∧ U 90 4 = m D 6) ∧ (0 ≤ m D 5 ∧ m D 5 ≤ 6) ∧ (0 ≤ m D 6 ∧ m D 6 ≤ 4) := by
  have a := T.1 3 (by omega) (by omega)
  have b := T.1 4 (by omega) (by omega)
  have c := P.1.1.2
  have d := P.1.2.1.2
  have e := P.1.1.1
  have f := P.1.2.1.1
  rw [show (5 : Int) + 3 = 8 from rfl] at a
  rw [show (5 : Int) + 4 = 9 from rfl] at b
  omega
theorem TKN.kl (T : TKN U M1) (P : PL m M1 D) : KLM U := by
  obtain ⟨⟨n3, n4⟩, c0, c1⟩ := T.n P
  refine ⟨by omega, fun s s0 s1 => ?_⟩
  rw [n3] at s1
  have st := P.2.1 s s0 s1
  rw [T.2.1 s s0 (by omega), T.2.2.1 s s0 (by omega), ← st.1.1, ← st.1.2]
  obtain ⟨-, a, b, c⟩ := st
  refine ⟨a, ?_, fun h => (b h).1, c⟩
  by_cases z : m (D + 2) s ≤ 9
  · have := b z
    omega
  · have := c (by omega)
    omega
theorem TKN.te (T : TKN U M1) {t w : Int} (t0 : 0 ≤ t) (t1 : t < 4) (w0 : 0 ≤ w) (w1 : w < 7) : tex U t w = M1 95 (28 + 7 * t + w) := by
  show U 95 (7 * t + w) = _
  rw [T.2.2.2 (7 * t + w) (by omega) (by omega), show 28 + (7 * t + w) = 28 + 7 * t + w by omega]
theorem TKN.tx (T : TKN U M1) (P : PL m M1 D) : TXM U := by
  obtain ⟨⟨n3, n4⟩, c0, c1⟩ := T.n P
  refine ⟨by omega, fun t t0 t1 => ?_⟩
  rw [n4] at t1
  obtain ⟨⟨⟨s0, s1⟩, s2⟩, ⟨a, b, ab⟩, ⟨x0, x1, x2, x3, x4, x5, x6, x7⟩, ⟨o1, o2⟩, -, -⟩ := P.2.2.1 t t0 t1
  have st := P.2.1 _ s0.1 s0.2
  have e0 := T.te (w := 0) t0 (show t < 4 by omega) (by omega) (by omega)
  rw [Int.add_zero] at e0
  rw [e0, T.te t0 (show t < 4 by omega) (by omega) (by omega), T.te t0 (show t < 4 by omega) (by omega) (by omega), T.te t0 (show t < 4 by omega) (by omega) (by omega), T.te t0 (show t < 4 by omega) (by omega) (by omega), T.te t0 (show t < 4 by omega) (by omega) (by omega), T.te t0 (show t < 4 by omega) (by omega) (by omega), x0, x3, x4, x5, x6, x7, n3, T.2.1 _ s0.1 (by omega), T.2.2.1 _ s0.1 (by omega), ← st.1.1, ← st.1.2]
  exact ⟨⟨s0.1, s0.2, s1.1, s1.2⟩, ⟨a, b, ab⟩, ⟨x1, x2⟩, o1, o2⟩
theorem TKN.tb (hD : D = 30 ∨ D = 52) (F : FX m2) (T : TKN U M1) (P : PL m M1 D) {t : Int} (ht : isT U t) (e : ∀ o q : Int, D + 6 + 4 * t ≤ o → o ≤ D + 6 + 4 * t + 3 → ¬ (o = D + 6 + 4 * t ∧ q = 6) → m2 o q = m o q) (e6 : m2 (D + 6 + 4 * t) 6 = 8 + m (D + 6 + 4 * t) 4) : TBq m2 U (D + 6 + 4 * t) t := by
  obtain ⟨⟨n3, n4⟩, c0, c1⟩ := T.n P
  obtain ⟨t0, t1⟩ := ht
  rw [n4] at t1
  obtain ⟨⟨⟨s0, s1⟩, s2⟩, ⟨a, b, ab⟩, ⟨x0, x1, x2, x3, x4, x5, x6, x7⟩, ⟨o1, o2⟩, l1, l2⟩ := P.2.2.1 t t0 t1
  have st := P.2.1 _ s0.1 s0.2
  have e0 := T.te (w := 0) t0 (show t < 4 by omega) (by omega) (by omega)
  rw [Int.add_zero] at e0
  have y1 := T.te (w := 1) t0 (show t < 4 by omega) (by omega) (by omega)
  have y2 := T.te (w := 2) t0 (show t < 4 by omega) (by omega) (by omega)
  have y3 := T.te (w := 3) t0 (show t < 4 by omega) (by omega) (by omega)
  have y4 := T.te (w := 4) t0 (show t < 4 by omega) (by omega) (by omega)
  have y5 := T.te (w := 5) t0 (show t < 4 by omega) (by omega) (by omega)
  have y6 := T.te (w := 6) t0 (show t < 4 by omega) (by omega) (by omega)
  obtain ⟨k0, k1, k2, k3⟩ := tex_kd hD t0 (show t < 4 by omega)
  obtain ⟨-, f0, f1, f2⟩ := F.ptex hD t0 (show t < 4 by omega)
  have h1 : ∀ q : Int, q ≠ 6 → m2 (D + 6 + 4 * t) q = m (D + 6 + 4 * t) q := fun q h => e _ q (by omega) (by omega) (by omega)
  have h2 : ∀ q : Int, m2 (D + 6 + 4 * t + 1) q = m (D + 6 + 4 * t + 1) q := fun q => e _ q (by omega) (by omega) (by omega)
  have h3 : ∀ q : Int, m2 (D + 6 + 4 * t + 2) q = m (D + 6 + 4 * t + 2) q := fun q => e _ q (by omega) (by omega) (by omega)
  have h4 : ∀ q : Int, m2 (D + 6 + 4 * t + 3) q = m (D + 6 + 4 * t + 3) q := fun q => e _ q (by omega) (by omega) (by omega)
  have u93 : U 93 (m (D + 6 + 4 * t) 4) = m (D + 2) (m (D + 6 + 4 * t) 4) := by
    rw [T.2.1 _ s0.1 (by omega)]
    exact st.1.1.symm
  refine ⟨⟨by omega, k0, k1, k2, k3⟩, ⟨f0, f1, f2⟩, ⟨?_, ?_, ?_⟩, ⟨?_, ?_, ?_, ?_, ?_⟩, fun l hl => ?_, fun l hl => ?_⟩
  · rw [h1 4 (by omega), e0, x0]
  · rw [h1 5 (by omega), e0, x0, u93, s2]
  · rw [e6, e0, x0]
  · rw [h1 7 (by omega), y2, x3]
  · rw [h1 8 (by omega), y3, x4]
  · rw [h1 9 (by omega), y4, x5]
  · rw [h1 10 (by omega), y5, x6]
  · rw [h1 11 (by omega), y6, x7]
  · rw [y4, x5] at hl
    rw [h2, l1 l hl]
    show _ = tex U t 1 + plc (tex U t 2) (tex U t 3) l
    rw [y1, y2, y3, x3, x4]
  · rw [y4, x5] at hl
    rw [h3, h4, y2, y3, x3, x4]
    exact l2 l hl
end
