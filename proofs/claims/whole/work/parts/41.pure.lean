/-! THE PURE PART: an act more, kept or not -/
theorem KLM.q {m : Mm} (K : KLM m) {s p : Int} (s0 : 0 ≤ s) (s1 : s < m 90 3) (p0 : 0 ≤ p) (p1 : p < m 94 s) : 0 ≤ 400 * s + p ∧ 400 * s + p < 2400 := by
  have k := K.rw s0 s1 p0 p1
  omega
theorem PST.mv {m m' : Mm} {k k' j : Int} {N N' TH TH' : Int → Int} (P : PST m k j N TH) (K : KLM m) (h76 : m' 76 j = m 76 j) (hk : ∀ c k : Int, c = 90 ∨ c = 93 ∨ c = 94 → m' c k = m c k) (hr : ∀ p : Int, m' (109 + j) p = m (109 + j) p) (hp : ∀ q : Int, 0 ≤ q → q < 2400 → m' 99 (2400 * k' + q) = m 99 (2400 * k + q) ∧ m' 100 (2400 * k' + q) = m 100 (2400 * k + q)) (hn : ∀ s p : Int, 0 ≤ s → s < m 90 3 → 0 ≤ p → p < m 94 s → N' (400 * s + p) = N (400 * s + p) ∧ TH' (400 * s + p) = TH (400 * s + p)) : PST m' k' j N' TH' := by
  obtain ⟨⟨a0, a1⟩, b, c⟩ := P
  unfold PST
  rw [h76, hk 90 3 (by omega)]
  refine ⟨⟨a0, a1⟩, fun p p0 p1 => ?_, fun s p s0 s1 hs p0 p1 => ?_⟩
  · rw [hk 94 _ (by omega)] at p1
    have q := K.q a0 a1 p0 p1
    have z := hp _ q.1 q.2
    rw [hk 93 _ (by omega), hr, z.1, z.2]
    exact b p p0 p1
  · rw [hk 94 _ (by omega)] at p1
    have q := K.q s0 s1 p0 p1
    have z := hp _ q.1 q.2
    have w := hn s p s0 s1 p0 p1
    have u := c s p s0 s1 hs p0 p1
    rw [z.1, z.2, w.1, w.2]
    exact u
theorem ACT_keep {n : Int} {m m' : Mm} {s : Int} {ch : Prop} (K : KLM m) (R : RNG n m) (A : ACT m) (W : ROWS m) (s0 : 0 ≤ s) (s1 : s < m 90 3)
    (hk : ∀ c k : Int, c = 90 ∨ c = 93 ∨ c = 94 → m' c k = m c k)
    (c1 : ∀ k, m' 76 k = if k = slt m (m 74 3) then s else m 76 k)
    (c2 : ∀ p : Int, 0 ≤ p → p < 400 → m' (109 + slt m (m 74 3)) p = m (8 + s) p)
    (c3 : ∀ j p : Int, 0 ≤ j → j < 21 → j ≠ slt m (m 74 3) → m' (109 + j) p = m (109 + j) p)
    (c4 : (ch ∧ m 74 3 = 20 ∧ m' 74 2 = (m 74 2 + 1) % 21 ∧ m' 74 3 = 20) ∨ (ch ∧ m 74 3 < 20 ∧ m' 74 2 = m 74 2 ∧ m' 74 3 = m 74 3 + 1) ∨ (¬ ch ∧ m' 74 2 = m 74 2 ∧ m' 74 3 = m 74 3))
    (d0 : m' 88 26 = m' 74 3)
    (d1 : ∀ s' p : Int, 0 ≤ s' → s' < m 90 3 → s' ≠ s → 0 ≤ p → p < m 94 s' → m' 97 (400 * s' + p) = m 97 (400 * s' + p) ∧ m' 98 (400 * s' + p) = m 98 (400 * s' + p))
    (d2 : ch → ∀ q : Int, 0 ≤ q → q < 2400 → m' 99 (2400 * (m' 74 3 - 1) + q) = m 97 q ∧ m' 100 (2400 * (m' 74 3 - 1) + q) = m 98 q)
    (d3 : ch → ∀ k q : Int, 0 ≤ k → k < m' 74 3 - 1 → 0 ≤ q → q < 2400 → m' 99 (2400 * k + q) = m 99 (2400 * (if m 74 3 = 20 then k + 1 else k) + q) ∧ m' 100 (2400 * k + q) = m 100 (2400 * (if m 74 3 = 20 then k + 1 else k) + q))
    (d4 : ¬ ch → ∀ q : Int, m' 99 q = m 99 q ∧ m' 100 q = m 100 q)
    (d5 : ¬ ch → ∀ p : Int, 0 ≤ p → p < m 94 s → m' 97 (400 * s + p) = m 97 (400 * s + p) ∧ m' 98 (400 * s + p) = m 98 (400 * s + p)) : ACT m' := by
  refine ⟨d0, fun k k0 k1 => ?_⟩
  have Ra := R.1
  have Rb := R.2.1
  have hj : slt m (m 74 3) = (m 74 2 + m 74 3) % 21 := rfl
  by_cases hch : ch
  · have e2 := d2 hch
    have e3 := d3 hch
    by_cases kl : k = m' 74 3 - 1
    · have es : slt m' k = slt m (m 74 3) := by
        rw [hj]
        unfold slt
        rcases c4 with c | c | c
        · rw [c.2.2.1, kl, c.2.2.2, c.2.1]; omega
        · rw [c.2.2.1, kl, c.2.2.2]; congr 1; omega
        · exact absurd hch c.1
      rw [es, if_pos (show k + 1 = m' 74 3 by omega), if_pos (show k + 1 = m' 74 3 by omega)]
      have e76 : m' 76 (slt m (m 74 3)) = s := by rw [c1, if_pos rfl]
      unfold PST
      rw [e76, hk 90 3 (by omega)]
      refine ⟨⟨s0, s1⟩, fun p p0 p1 => ?_, fun s' p s0' s1' hs p0 p1 => ?_⟩
      · rw [hk 94 _ (by omega)] at p1
        have q := K.q s0 s1 p0 p1
        have r := K.rw s0 s1 p0 p1
        have z := e2 _ q.1 q.2
        rw [← kl] at z
        rw [hk 93 _ (by omega), c2 p p0 r.2.1, z.1, z.2]
        exact W s p s0 s1 p0 p1
      · rw [hk 94 _ (by omega)] at p1
        have q := K.q s0' s1' p0 p1
        have z := e2 _ q.1 q.2
        rw [← kl] at z
        rw [z.1, z.2]
        exact d1 s' p s0' s1' hs p0 p1
    · have hk2 : k < m' 74 3 - 1 := by omega
      obtain ⟨k', hk', es, hlt, hsuc⟩ : ∃ k' : Int, k' = (if m 74 3 = 20 then k + 1 else k) ∧ slt m' k = slt m k' ∧ (0 ≤ k' ∧ k' < m 74 3) ∧ (k' + 1 = m 74 3 ↔ k + 1 = m' 74 3 - 1) := by
        rcases c4 with c | c | c
        · refine ⟨k + 1, by rw [if_pos c.2.1], ?_, by omega, by omega⟩
          unfold slt
          rw [c.2.2.1]; omega
        · refine ⟨k, by rw [if_neg (by omega)], ?_, by omega, by omega⟩
          unfold slt
          rw [c.2.2.1]
        · exact absurd hch c.1
      have hne : slt m k' ≠ slt m (m 74 3) := by unfold slt; omega
      have sr := slt_rng m k'
      rw [es, if_neg (show ¬ k + 1 = m' 74 3 by omega), if_neg (show ¬ k + 1 = m' 74 3 by omega)]
      refine (A.2 k' hlt.1 hlt.2).mv K (by rw [c1, if_neg hne]) hk (fun p => c3 _ p sr.1 sr.2 hne) (fun q q0 q1 => by
        have := e3 k q k0 hk2 q0 q1
        rw [← hk'] at this
        exact this) (fun s' p s0' s1' p0 p1 => ?_)
      have q := K.q s0' s1' p0 p1
      by_cases z : k' + 1 = m 74 3
      · rw [if_pos z, if_pos z]
        have := e2 _ q.1 q.2
        rw [← hsuc.mp z] at this
        exact this
      · rw [if_neg z, if_neg z]
        have := e3 (k + 1) (400 * s' + p) (by omega) (by omega) q.1 q.2
        rw [show (if m 74 3 = 20 then k + 1 + 1 else k + 1) = k' + 1 by rw [hk']; split <;> rfl] at this
        exact this
  · have c : m' 74 2 = m 74 2 ∧ m' 74 3 = m 74 3 := by
      rcases c4 with c | c | c
      · exact absurd c.1 hch
      · exact absurd c.1 hch
      · exact c.2
    rw [c.2] at k1 ⊢
    have es : slt m' k = slt m k := by unfold slt; rw [c.1]
    have hne : slt m k ≠ slt m (m 74 3) := by unfold slt; omega
    have sr := slt_rng m k
    rw [es]
    refine (A.2 k k0 k1).mv K (by rw [c1, if_neg hne]) hk (fun p => c3 _ p sr.1 sr.2 hne) (fun q q0 q1 => d4 hch _) (fun s' p s0' s1' p0 p1 => ?_)
    by_cases z : k + 1 = m 74 3
    · simp only [if_pos z]
      by_cases hs : s' = s
      · subst hs
        exact d5 hch p p0 p1
      · exact d1 s' p s0' s1' hs p0 p1
    · simp only [if_neg z]
      exact d4 hch _
