/-! THE PURE PART: what a change elsewhere leaves as it was -/
def FXP (c k : Int) : Prop := (c = 1 ∧ k ≠ 1 ∧ k ≠ 3 ∧ k ≠ 4) ∨ (c = 3 ∧ k = 0) ∨ (c = 4 ∧ k = 0) ∨ c = 5 ∨ (c = 6 ∧ k < 5) ∨ c = 7 ∨ c = 16 ∨ ((c = 30 ∨ c = 52) ∧ k < 5) ∨ c = 34 ∨ c = 56 ∨ ((c = 36 ∨ c = 40 ∨ c = 44 ∨ c = 48 ∨ c = 58 ∨ c = 62 ∨ c = 66 ∨ c = 70) ∧ k < 3) ∨ ((c = 74 ∨ c = 77 ∨ c = 80) ∧ k < 2) ∨ ((c = 83 ∨ c = 86) ∧ k < 1) ∨ (c = 88 ∧ (k = 0 ∨ (13 ≤ k ∧ k ≤ 19) ∨ (22 ≤ k ∧ k ≤ 25) ∨ k = 27 ∨ k = 28 ∨ (31 ≤ k ∧ k ≤ 33) ∨ 37 ≤ k))
set_option maxRecDepth 100000 in
theorem FXP_ok : ∀ q ∈ fxl, FXP q.1 q.2.1 := by unfold FXP; decide +kernel
theorem FX.fr {m m' : Mm} (F : FX m) (e : ∀ c k : Int, FXP c k → m' c k = m c k) : FX m' := fun q hq => (e _ _ (FXP_ok q hq)).trans (F q hq)
def SHP (c k : Int) : Prop := (c = 1 ∧ (k = 3 ∨ k = 4)) ∨ (c = 6 ∧ k = 5) ∨ c = 14 ∨ c = 15 ∨ (30 ≤ c ∧ c ≤ 73) ∨ ((c = 77 ∨ c = 80) ∧ 2 ≤ k ∧ k ≤ 4) ∨ c = 90 ∨ c = 93 ∨ c = 94 ∨ c = 95
theorem TB.fr {m m' : Mm} {T t : Int} (B : TB m T t) (e : ∀ c k : Int, (36 ≤ c ∧ c ≤ 73) ∨ c = 93 ∨ c = 95 → m' c k = m c k) : TB m' T t := by
  have e1 : ∀ c : Int, (36 ≤ c ∧ c ≤ 73) ∨ c = 93 ∨ c = 95 → m' c = m c := fun c hc => funext fun k => e c k hc
  obtain ⟨⟨⟨a, b⟩, k⟩, r⟩ := B
  refine ⟨⟨⟨a, b⟩, k⟩, ?_⟩
  unfold fst' at *
  unfold tex at *
  rw [e1 T (by omega), e1 (T + 1) (by omega), e1 (T + 2) (by omega), e1 (T + 3) (by omega), e1 93 (by omega), e1 95 (by omega)]
  exact r
theorem SH.fr {m m' : Mm} (S : SH m) (e : ∀ c k : Int, SHP c k → m' c k = m c k) : SH m' := by
  have e1 : ∀ c : Int, c = 14 ∨ c = 15 ∨ (30 ≤ c ∧ c ≤ 73) ∨ c = 90 ∨ c = 93 ∨ c = 94 ∨ c = 95 → m' c = m c := fun c hc => funext fun k => e c k (by unfold SHP; omega)
  obtain ⟨P, K, X, C, B, Z⟩ := S
  have p3 := e 1 3 (by unfold SHP; omega)
  have p4 := e 1 4 (by unfold SHP; omega)
  have z1 : ∀ c k : Int, (c = 77 ∨ c = 80) → 2 ≤ k → k ≤ 4 → m' c k = m c k := fun c k hc h2 h4 => e c k (by unfold SHP; omega)
  refine ⟨?_, ?_, ?_, ?_, fun t ht => ?_, ?_⟩
  · obtain ⟨a, b, d⟩ := P
    refine ⟨by rw [p3]; exact a, by rw [p4, p3]; exact b, ?_⟩
    rw [p3, e1 (m 1 3) (by omega), e1 90 (by omega)]
    exact d
  · unfold KLM
    rw [e1 90 (by omega), e1 93 (by omega), e1 94 (by omega)]
    exact K
  · unfold TXM
    unfold TXM tex at X
    unfold tex
    rw [e1 90 (by omega), e1 93 (by omega), e1 94 (by omega), e1 95 (by omega)]
    exact X
  · unfold STC
    rw [e1 90 (by omega), e1 93 (by omega), e1 94 (by omega), e1 14 (by omega), e1 15 (by omega), e 6 5 (by unfold SHP; omega)]
    exact C
  · have ht' : isT m t := by
      unfold isT at ht ⊢
      rw [e1 90 (by omega)] at ht
      exact ht
    have : tcl m' t = tcl m t := by unfold tcl; rw [p3]
    rw [this]
    exact (B t ht').fr (fun c k hc => e c k (by unfold SHP; omega))
  · unfold CSH
    rw [e1 90 (by omega), z1 77 2 (by omega) (by omega) (by omega), z1 77 3 (by omega) (by omega) (by omega), z1 77 4 (by omega) (by omega) (by omega), z1 80 2 (by omega) (by omega) (by omega), z1 80 3 (by omega) (by omega) (by omega), z1 80 4 (by omega) (by omega) (by omega)]
    exact Z
/-- rows, acts, images -/
theorem ROWS.fr {m m' : Mm} (R : ROWS m) (e : ∀ c k : Int, (8 ≤ c ∧ c ≤ 13) ∨ c = 90 ∨ c = 93 ∨ c = 94 ∨ c = 97 ∨ c = 98 → m' c k = m c k) (h6 : m 90 3 ≤ 6) : ROWS m' := by
  intro s p s0 s1 p0 p1
  rw [e 90 3 (by omega)] at s1
  rw [e 94 s (by omega)] at p1
  rw [e 93 s (by omega), e (8 + s) p (by omega), e 97 _ (by omega), e 98 _ (by omega)]
  exact R s p s0 s1 p0 p1
theorem RNG.fr {n : Int} {m m' : Mm} (R : RNG n m) (e : ∀ c k : Int, (c = 74 ∧ 2 ≤ k) ∨ c = 75 → m' c k = m c k) : RNG n m' := by
  have e1 : m' 75 = m 75 := funext fun k => e 75 k (by omega)
  unfold RNG
  rw [e 74 3 (by omega), e 74 2 (by omega), e1]
  exact R
theorem ACT.fr {m m' : Mm} (A : ACT m) (R : 0 ≤ m 74 2) (e : ∀ c k : Int, (c = 74 ∧ 2 ≤ k) ∨ c = 76 ∨ 109 ≤ c ∨ c = 90 ∨ c = 93 ∨ c = 94 ∨ (97 ≤ c ∧ c ≤ 100) ∨ (c = 88 ∧ k = 26) → m' c k = m c k) : ACT m' := by
  have e1 : ∀ c : Int, c = 76 ∨ 109 ≤ c ∨ c = 90 ∨ c = 93 ∨ c = 94 ∨ (97 ≤ c ∧ c ≤ 100) → m' c = m c := fun c hc => funext fun k => e c k (by omega)
  unfold ACT
  refine ⟨?_, fun k k0 k1 => ?_⟩
  · rw [e 88 26 (by omega), e 74 3 (by omega)]
    exact A.1
  · rw [e 74 3 (by omega)] at k1 ⊢
    have es : slt m' k = slt m k := by unfold slt; rw [e 74 2 (by omega)]
    have j0 : 0 ≤ slt m k := by unfold slt; omega
    rw [es, e1 97 (by omega), e1 98 (by omega), e1 99 (by omega), e1 100 (by omega)]
    have := A.2 k k0 k1
    unfold PST at this ⊢
    rw [e1 76 (by omega), e1 90 (by omega), e1 93 (by omega), e1 94 (by omega), e1 99 (by omega), e1 100 (by omega), e1 (109 + slt m k) (by omega)]
    exact this
theorem IMG.fr {m m' : Mm} (R : IMG m) (e : ∀ c k : Int, (17 ≤ c ∧ c ≤ 29) ∨ c = 90 ∨ c = 93 ∨ c = 94 ∨ (106 ≤ c ∧ c ≤ 108) → m' c k = m c k) (h6 : m 90 3 ≤ 6) : IMG m' := by
  intro b b0 b1
  have := R b b0 b1
  rw [e 29 b (by omega), e 108 b (by omega)]
  refine ⟨this.1, this.2.1, fun hb s p s0 s1 p0 p1 => ?_⟩
  rw [e 90 3 (by omega)] at s1
  rw [e 94 s (by omega)] at p1
  rw [e 93 s (by omega), e (17 + 6 * b + s) p (by omega), e 106 _ (by omega), e 107 _ (by omega)]
  exact this.2.2 hb s p s0 s1 p0 p1
theorem CAC.fr {i : Int} {m m' : Mm} (R : CAC i m) (e : ∀ c k : Int, (c = 77 ∧ 5 ≤ k) ∨ c = 78 ∨ c = 79 ∨ c = 103 ∨ c = 104 ∨ (c = 88 ∧ k = 36) ∨ c = 90 → m' c k = m c k) : CAC i m' := by
  have e1 : ∀ c : Int, c = 78 ∨ c = 79 ∨ c = 103 ∨ c = 104 ∨ c = 90 → m' c = m c := fun c hc => funext fun k => e c k (by omega)
  unfold CAC
  rw [e1 78 (by omega), e1 79 (by omega), e1 103 (by omega), e1 104 (by omega), e1 90 (by omega), e 77 5 (by omega), e 77 6 (by omega), e 88 36 (by omega)]
  exact R
theorem TAL.fr {i : Int} {m m' : Mm} (R : TAL i m) (e : ∀ c k : Int, (c = 83 ∧ 1 ≤ k) ∨ c = 84 ∨ c = 105 ∨ (c = 88 ∧ (k = 34 ∨ k = 35)) → m' c k = m c k) : TAL i m' := by
  have e1 : ∀ c : Int, c = 84 ∨ c = 105 → m' c = m c := fun c hc => funext fun k => e c k (by omega)
  unfold TAL
  rw [e1 84 (by omega), e1 105 (by omega), e 83 1 (by omega), e 83 2 (by omega), e 88 34 (by omega), e 88 35 (by omega)]
  exact R
theorem TAP.fr {m m' : Mm} (R : TAP m) (e : ∀ c k : Int, (c = 1 ∧ k = 1) ∨ c = 2 ∨ c = 89 ∨ (c = 88 ∧ k = 1) → m' c k = m c k) : TAP m' := by
  have e1 : ∀ c : Int, c = 2 ∨ c = 89 → m' c = m c := fun c hc => funext fun k => e c k (by omega)
  unfold TAP
  rw [e1 2 (by omega), e1 89 (by omega), e 1 1 (by omega), e 88 1 (by omega)]
  exact R
theorem FLT.fr {m m' : Mm} (R : FLT m) (e : ∀ c k : Int, (c = 3 ∧ 2 ≤ k ∧ k ≤ 3) ∨ (c = 88 ∧ (k = 10 ∨ k = 11)) → m' c k = m c k) : FLT m' := by
  unfold FLT
  rw [e 3 2 (by omega), e 3 3 (by omega), e 88 10 (by omega), e 88 11 (by omega)]
  exact R
theorem OUT.fr {m m' : Mm} (R : OUT m) (e : ∀ c k : Int, (c = 88 ∧ k = 30) ∨ c = -1 ∨ c = -2 → m' c k = m c k) : OUT m' := by
  have e1 : ∀ c : Int, c = -1 ∨ c = -2 → m' c = m c := fun c hc => funext fun k => e c k (by omega)
  unfold OUT
  rw [e1 (-1) (by omega), e1 (-2) (by omega), e 88 30 (by omega)]
  exact R
