/-! THE PURE PART: bank: what holds behind it -/
def BADP (D o q : Int) : Prop := CP D o q ∨ (o = 3 ∧ q = 1) ∨ (o = 4 ∧ 1 ≤ q) ∨ (o = 1 ∧ q = 1) ∨ MP o q ∨ (o = 88 ∧ (q = 1 ∨ q = 2 ∨ q = 10 ∨ q = 11))
def RDP (P o q : Int) : Prop := (o = 1 ∧ (q = 3 ∨ q = 4)) ∨ (o = 6 ∧ q = 5) ∨ o = 14 ∨ o = 15 ∨ (8 ≤ o ∧ o ≤ 13) ∨ (17 ≤ o ∧ o ≤ 29) ∨ (o = P ∧ q = 6) ∨ (P + 6 ≤ o ∧ o ≤ P + 21) ∨ (74 ≤ o ∧ o ≤ 84) ∨ (o = 88 ∧ (q = 26 ∨ q = 30 ∨ (34 ≤ q ∧ q ≤ 36))) ∨ (o = 90 ∧ q < 5) ∨ (o = 93 ∧ q < 6) ∨ (o = 94 ∧ q < 6) ∨ (o = 95 ∧ q < 28) ∨ 97 ≤ o ∨ o < 0
theorem RDP_ok {P o q : Int} (hP : P = 30 ∨ P = 52) (h : RDP P o q) : ¬ BADP (82 - P) o q := by
  unfold RDP at h
  unfold BADP CP MP
  rcases hP with e | e <;> subst e <;> omega
theorem FXP_bad {P o q : Int} (hP : P = 30 ∨ P = 52) (h : FXP o q) : ¬ BADP (82 - P) o q := by
  unfold FXP at h
  unfold BADP CP MP
  rcases hP with e | e <;> subst e <;> omega
section
variable {i n : Int} {m m' : Mm} {P : Int}
theorem INV.bad (I : INV i (n, m)) (hi : i < 600) (hP : m 1 3 = P) (ne : ∀ o q : Int, ¬ BADP (82 - P) o q → m' o q = m o q) (n1 : m' 1 1 = 0) (n2 : m' 88 1 = 0) (f1 : m' 3 2 = m' 88 10) (f2 : m' 3 3 = m' 88 11) : INV (i + 1) (n, m') := by
  have P2 : P = 30 ∨ P = 52 := by
    have := I.pl.1
    rw [← hP]
    exact this
  have e : ∀ o q : Int, RDP P o q → m' o q = m o q := fun o q h => ne o q (RDP_ok P2 h)
  have U := I.up hi
  have K : KLM m := I.kl
  have X : TXM m := I.tx
  have K6 := K.1
  have X4 := X.1
  have e90 : ∀ q : Int, q < 5 → m' 90 q = m 90 q := fun q h => e 90 q (by unfold RDP; omega)
  have e93 : ∀ q : Int, q < 6 → m' 93 q = m 93 q := fun q h => e 93 q (by unfold RDP; omega)
  have e94 : ∀ q : Int, q < 6 → m' 94 q = m 94 q := fun q h => e 94 q (by unfold RDP; omega)
  have et : ∀ t w : Int, t < 4 → w < 7 → 0 ≤ t → tex m' t w = tex m t w := fun t w h1 h2 h3 => e 95 _ (by unfold RDP; omega)
  have e13 : m' 1 3 = m 1 3 := e 1 3 (by unfold RDP; omega)
  have e14 : m' 1 4 = m 1 4 := e 1 4 (by unfold RDP; omega)
  have eb : ∀ o q : Int, 97 ≤ o → m' o q = m o q := fun o q h => e o q (by unfold RDP; omega)
  have ec : ∀ o q : Int, 74 ≤ o → o ≤ 84 → m' o q = m o q := fun o q h h2 => e o q (by unfold RDP; omega)
  have e8 : ∀ q : Int, (q = 26 ∨ q = 30 ∨ (34 ≤ q ∧ q ≤ 36)) → m' 88 q = m 88 q := fun q h => e 88 q (by unfold RDP; omega)
  have er : ∀ o q : Int, 8 ≤ o → o ≤ 15 → m' o q = m o q := fun o q h h2 => e o q (by unfold RDP; omega)
  have ei : ∀ o q : Int, 17 ≤ o → o ≤ 29 → m' o q = m o q := fun o q h h2 => e o q (by unfold RDP; omega)
  have en : ∀ o q : Int, o < 0 → m' o q = m o q := fun o q h => e o q (by unfold RDP; omega)
  have ep : ∀ o q : Int, P + 6 ≤ o → o ≤ P + 21 → m' o q = m o q := fun o q h h2 => e o q (by unfold RDP; omega)
  have e65 : m' 6 5 = m 6 5 := e 6 5 (by unfold RDP; omega)
  have eP6 : m' P 6 = m P 6 := e P 6 (by unfold RDP; omega)
  have FX' : FX m' := I.fx.fr (fun o q h => ne o q (FXP_bad P2 h))
  clear e ne
  have hPL : PLN m' := by
    obtain ⟨a, b, d⟩ := I.pl
    refine ⟨by rw [e13]; exact a, by rw [e14, e13]; exact b, ?_⟩
    dsimp only at d
    rw [hP] at d
    rw [e13, hP, eP6, e90 4 (by omega)]
    exact d
  have hK : KLM m' := by
    refine ⟨by rw [e90 3 (by omega)]; exact K.1, fun s s0 s1 => ?_⟩
    rw [e90 3 (by omega)] at s1
    rw [e93 s (by omega), e94 s (by omega)]
    exact K.2 s s0 s1
  have hX : TXM m' := by
    refine ⟨by rw [e90 4 (by omega)]; exact X.1, fun t t0 t1 => ?_⟩
    rw [e90 4 (by omega)] at t1
    have y := X.2 t t0 t1
    rw [et t 0 (by omega) (by omega) t0, et t 1 (by omega) (by omega) t0, et t 2 (by omega) (by omega) t0, et t 3 (by omega) (by omega) t0, et t 4 (by omega) (by omega) t0, et t 5 (by omega) (by omega) t0, et t 6 (by omega) (by omega) t0, e90 3 (by omega), e93 (tex m t 0) (by omega), e94 (tex m t 0) (by omega)]
    exact y
  have hC : STC m' := by
    obtain ⟨a, b⟩ := I.st
    refine ⟨by rw [e65, e90 3 (by omega)]; exact a, fun s s0 s1 => ?_⟩
    rw [e90 3 (by omega)] at s1
    rw [er 14 s (by omega) (by omega), er 15 s (by omega) (by omega), e93 s (by omega), e94 s (by omega)]
    exact b s s0 s1
  have hB : ∀ t : Int, isT m' t → TB m' (tcl m' t) t := by
    intro t ht
    obtain ⟨t0, t1⟩ := ht
    rw [e90 4 (by omega)] at t1
    have B := I.tb (t := t) ⟨t0, t1⟩
    have y := (X.2 t t0 t1).1
    dsimp only at B
    have tc : tcl m' t = tcl m t := by unfold tcl; rw [e13]
    have T1 : tcl m t = P + 6 + 4 * t := by unfold tcl; rw [hP]
    rw [tc]
    obtain ⟨⟨⟨a, b⟩, k⟩, r1, r2, r3, r4, r5⟩ := B
    have q0 : ∀ q : Int, m' (tcl m t) q = m (tcl m t) q := fun q => ep _ q (by omega) (by omega)
    have q1 : ∀ q : Int, m' (tcl m t + 1) q = m (tcl m t + 1) q := fun q => ep _ q (by omega) (by omega)
    have q2 : ∀ q : Int, m' (tcl m t + 2) q = m (tcl m t + 2) q := fun q => ep _ q (by omega) (by omega)
    have q3 : ∀ q : Int, m' (tcl m t + 3) q = m (tcl m t + 3) q := fun q => ep _ q (by omega) (by omega)
    refine ⟨⟨⟨a, b⟩, k⟩, by rw [q0, q0, q0]; exact r1, ?_, ?_, fun l hl => ?_, fun l hl => ?_⟩
    · rw [q0, q0, q0, et t 0 (by omega) (by omega) t0, e93 _ (by omega)]
      exact r2
    · rw [q0, q0, q0, q0, q0, et t 2 (by omega) (by omega) t0, et t 3 (by omega) (by omega) t0, et t 4 (by omega) (by omega) t0, et t 5 (by omega) (by omega) t0, et t 6 (by omega) (by omega) t0]
      exact r3
    · rw [et t 4 (by omega) (by omega) t0] at hl
      rw [q1, r4 l hl]
      show tex m t 1 + plc (tex m t 2) (tex m t 3) l = tex m' t 1 + plc (tex m' t 2) (tex m' t 3) l
      rw [et t 1 (by omega) (by omega) t0, et t 2 (by omega) (by omega) t0, et t 3 (by omega) (by omega) t0]
    · rw [et t 4 (by omega) (by omega) t0] at hl
      rw [q2, q3, et t 2 (by omega) (by omega) t0, et t 3 (by omega) (by omega) t0]
      exact r5 l hl
  have hZ : CSH m' := by
    have Z := I.cs
    unfold CSH at Z ⊢
    rw [e90 0 (by omega), e90 1 (by omega), e90 2 (by omega), ec 77 2 (by omega) (by omega), ec 77 3 (by omega) (by omega), ec 77 4 (by omega) (by omega), ec 80 2 (by omega) (by omega), ec 80 3 (by omega) (by omega), ec 80 4 (by omega) (by omega)]
    exact Z
  have hR : ROWS m' := by
    intro s p s0 s1 p0 p1
    rw [e90 3 (by omega)] at s1
    rw [e94 s (by omega)] at p1
    rw [e93 s (by omega), er (8 + s) p (by omega) (by omega), eb 97 _ (by omega), eb 98 _ (by omega)]
    exact I.ro s p s0 s1 p0 p1
  have hA : ACT m' := by
    have A := I.ac
    have R := I.rn.2.1
    dsimp only at A R
    refine ⟨?_, fun k k0 k1 => ?_⟩
    · rw [e8 26 (by omega), ec 74 3 (by omega) (by omega)]
      exact A.1
    · rw [ec 74 3 (by omega) (by omega)] at k1 ⊢
      have es : slt m' k = slt m k := by unfold slt; rw [ec 74 2 (by omega) (by omega)]
      have j0 : 0 ≤ slt m k := by unfold slt; omega
      have f97 : m' 97 = m 97 := funext fun q => eb 97 q (by omega)
      have f98 : m' 98 = m 98 := funext fun q => eb 98 q (by omega)
      have f99 : m' 99 = m 99 := funext fun q => eb 99 q (by omega)
      have f100 : m' 100 = m 100 := funext fun q => eb 100 q (by omega)
      rw [es, f97, f98, f99, f100]
      obtain ⟨a1, a2, a3⟩ := A.2 k k0 k1
      refine ⟨?_, fun p p0 p1 => ?_, fun s p s0 s1 ns p0 p1 => ?_⟩
      · rw [ec 76 _ (by omega) (by omega), e90 3 (by omega)]
        exact a1
      · rw [ec 76 _ (by omega) (by omega)] at p1 ⊢
        rw [e94 _ (by omega)] at p1
        rw [e93 _ (by omega), f99, f100, eb (109 + slt m k) p (by omega)]
        exact a2 p p0 p1
      · rw [e90 3 (by omega)] at s1
        rw [ec 76 _ (by omega) (by omega)] at ns
        rw [e94 s (by omega)] at p1
        rw [f99, f100]
        exact a3 s p s0 s1 ns p0 p1
  have hI : IMG m' := by
    intro b b0 b1
    have y := I.im b b0 b1
    rw [ei 29 b (by omega) (by omega), eb 108 b (by omega)]
    refine ⟨y.1, y.2.1, fun hb s p s0 s1 p0 p1 => ?_⟩
    rw [e90 3 (by omega)] at s1
    rw [e94 s (by omega)] at p1
    rw [e93 s (by omega), ei (17 + 6 * b + s) p (by omega) (by omega), eb 106 _ (by omega), eb 107 _ (by omega)]
    exact y.2.2 hb s p s0 s1 p0 p1
  have hCA : CAC (i + 1) m' := by
    have y := U.ca
    unfold CAC at y ⊢
    rw [show m' 78 = m 78 from funext fun q => ec 78 q (by omega) (by omega), show m' 79 = m 79 from funext fun q => ec 79 q (by omega) (by omega), show m' 103 = m 103 from funext fun q => eb 103 q (by omega), show m' 104 = m 104 from funext fun q => eb 104 q (by omega), e90 0 (by omega), e90 1 (by omega), ec 77 5 (by omega) (by omega), ec 77 6 (by omega) (by omega), e8 36 (by omega)]
    exact y
  have hTA : TAL (i + 1) m' := U.ta.fr (fun c k q => by
    by_cases z : c = 88
    · rw [z]
      exact e8 k (by omega)
    · by_cases y : c = 105
      · exact eb c k (by omega)
      · exact ec c k (by omega) (by omega))
  show FX m' ∧ SH m' ∧ ROWS m' ∧ (RNG n m' ∧ ACT m') ∧ IMG m' ∧ CAC (i + 1) m' ∧ TAL (i + 1) m' ∧ TAP m' ∧ FLT m' ∧ OUT m' ∧ (0 ≤ i + 1 ∧ i + 1 ≤ 600)
  refine ⟨FX', ⟨hPL, hK, hX, hC, hB, hZ⟩, hR, ⟨I.rn.fr (fun c k q => ec c k (by omega) (by omega)), hA⟩, hI, hCA, hTA, ⟨by rw [n1, n2], by rw [n1]; omega, fun k k0 k1 => ?_⟩, ⟨f1, f2⟩, I.ou.fr (fun c k q => ?_), U.ir⟩
  · rw [n1] at k1
    omega
  · rcases q with q | q
    · rw [q.1]
      exact e8 k (by omega)
    · exact en c k (by omega)
theorem INV.good {m7 : Mm} {D : Int} (I : INV i (n, m)) (hi : i < 600) (hD : D = 30 ∨ D = 52) (B : BRG m7 m' D) (ne : ∀ o q : Int, ¬ MBC o q → m' o q = m7 o q) (ne0 : ∀ o q : Int, ¬ CBC D o q → ¬ MBC o q → m' o q = m o q) : INV (i + 1) (n, m') := by
  obtain ⟨⟨F7, FM⟩, ⟨i13, i14, i11, j1⟩, ⟨KM, XM, tb, i6⟩, ⟨i65, sto⟩, cs, rws, ⟨a1, a2, a3⟩, img, ⟨⟨c1, c2, c3⟩, c78, c103⟩, ⟨⟨d1, d2, d3, d4⟩, d84⟩, ⟨f1, f2⟩, o30⟩ := B
  have U := I.up hi
  have lo : ∀ o q : Int, o < 88 → m' o q = m7 o q := fun o q h => ne o q (by unfold MBC; omega)
  have e13 : m' 1 3 = D := by rw [lo 1 3 (by omega)]; exact i13
  have rn := I.rn
  dsimp only at rn
  have e75 : ∀ q : Int, m' 75 q = m 75 q := fun q => ne0 75 q (by unfold CBC CP; rcases hD with e | e <;> subst e <;> omega) (by unfold MBC; omega)
  have b742 : m' 74 2 = 0 := by rw [lo 74 2 (by omega)]; exact a1
  have b743 : m' 74 3 = 0 := by rw [lo 74 3 (by omega)]; exact a2
  have ou := I.ou
  have en : ∀ o q : Int, o < 0 → m' o q = m o q := fun o q h => ne0 o q (by unfold CBC CP; rcases hD with e | e <;> subst e <;> omega) (by unfold MBC; omega)
  have ir := U.ir
  clear ne0
  show FX m' ∧ SH m' ∧ ROWS m' ∧ (RNG n m' ∧ ACT m') ∧ IMG m' ∧ CAC (i + 1) m' ∧ TAL (i + 1) m' ∧ TAP m' ∧ FLT m' ∧ OUT m' ∧ (0 ≤ i + 1 ∧ i + 1 ≤ 600)
  refine ⟨FM, ⟨⟨?_, ?_, ?_⟩, KM, XM, ⟨?_, fun s s0 s1 => ?_⟩, fun t ht => ?_, ?_⟩, fun s p s0 s1 p0 p1 => ?_, ⟨⟨?_, ?_, rn.2.2.1, fun j j0 j1 => ?_, Or.inr ⟨b742, ?_⟩⟩, ⟨?_, fun k k0 k1 => ?_⟩⟩, fun b b0 b1 => ?_, ⟨fun t j t0 t1 j0 j1 => ?_, ?_, ?_, ?_⟩, ⟨?_, ?_, ?_, ?_, fun k k0 k1 => ?_⟩, ⟨?_, ?_, fun k k0 k1 => ?_⟩, ⟨?_, ?_⟩, ?_, ir⟩
  · rw [e13]
    exact hD
  · rw [lo 1 4 (by omega), e13]
    exact i14
  · rw [e13, lo D 6 (by omega)]
    exact i6
  · rw [lo 6 5 (by omega)]
    exact i65
  · rw [lo 14 s (by omega), lo 15 s (by omega)]
    exact sto s s0 s1
  · have x := (tb t ht).fr (m' := m') (fun c k q => lo c k (by omega))
    have tc : tcl m' t = D + 6 + 4 * t := by unfold tcl; rw [e13]
    rw [tc]
    exact x
  · unfold CSH
    rw [lo 77 2 (by omega), lo 77 3 (by omega), lo 77 4 (by omega), lo 80 2 (by omega), lo 80 3 (by omega), lo 80 4 (by omega)]
    exact cs
  · have k6 := KM.1
    clear cs
    rw [lo (8 + s) p (by omega)]
    exact rws s p s0 s1 p0 p1
  · rw [b743]
    omega
  · rw [b742]
    omega
  · rw [e75]
    exact rn.2.2.2.1 j j0 j1
  · rw [b743]
    have := rn.2.2.1
    omega
  · rw [b743]
    exact a3
  · rw [b743] at k1
    omega
  · have y := img b b0 b1
    rw [lo 29 b (by omega), y.1, y.2]
    exact ⟨Or.inl rfl, rfl, fun h => by omega⟩
  · have Z : CZ (m' 90 0) (m' 90 1) := ⟨cs.1, cs.2.1⟩
    have fs := Z.fs t0 t1
    have z1 := Z.1
    have z2 := Z.2
    rw [lo 78 _ (by omega), c78 _ (by omega) (by omega), c103 _ (by omega) (by omega)]
    exact ⟨rfl, by omega, fun w => absurd rfl w⟩
  · rw [lo 77 6 (by omega), c2]
    have hz : ∀ k : Nat, k ≤ 32 → hct (m' 103) k = 0 := by
      intro k
      induction k with
      | zero => exact fun _ => rfl
      | succ k ih =>
        intro hk
        show hct (m' 103) k + _ = 0
        rw [ih (by omega), c103 k (by omega) (by omega), if_pos rfl]
        rfl
    exact (hz 32 (by omega)).symm
  · rw [lo 77 5 (by omega), c1]
    omega
  · rw [c3]
    omega
  · rw [lo 83 1 (by omega), d1, d3]
  · rw [lo 83 2 (by omega), d2, d4]
  · rw [lo 83 1 (by omega), d1]
    omega
  · rw [lo 83 2 (by omega), d2]
    omega
  · have y := d84 k k0 k1
    rw [lo 84 k (by omega), y.1, y.2]
    omega
  · rw [lo 1 1 (by omega), i11, j1]
  · rw [lo 1 1 (by omega), i11]
    omega
  · rw [lo 1 1 (by omega), i11] at k1
    omega
  · rw [lo 3 2 (by omega)]
    exact f1
  · rw [lo 3 3 (by omega)]
    exact f2
  · obtain ⟨w1, w2⟩ := ou
    have x1 : m' (-1) = m (-1) := funext fun q => en (-1) q (by omega)
    have x2 : m' (-2) = m (-2) := funext fun q => en (-2) q (by omega)
    refine ⟨o30, ?_⟩
    rw [x1, x2]
    exact w2
end
