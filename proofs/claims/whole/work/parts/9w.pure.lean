/-! THE PURE PART: bank, done -/
def BRG (m M : Mm) (D : Int) : Prop := (FX m ∧ FX M) ∧ (m 1 3 = D ∧ m 1 4 = 82 - D ∧ m 1 1 = 0 ∧ M 88 1 = 0) ∧ (KLM M ∧ TXM M ∧ (∀ t : Int, isT M t → TBq m M (D + 6 + 4 * t) t) ∧ m D 6 = M 90 4) ∧ (m 6 5 = M 90 3 ∧ ∀ s : Int, 0 ≤ s → s < M 90 3 → m 14 s = M 93 s ∧ m 15 s = M 94 s) ∧ ((M 90 0 = 1 ∨ M 90 0 = 2 ∨ M 90 0 = 4 ∨ M 90 0 = 8) ∧ (1 ≤ M 90 1 ∧ M 90 1 ≤ 4) ∧ (M 90 2 = 1 ∨ M 90 2 = 2 ∨ M 90 2 = 4 ∨ M 90 2 = 8 ∨ M 90 2 = 16) ∧ (m 77 2 = M 90 0 ∧ m 77 3 = M 90 1 ∧ m 77 4 = M 90 2) ∧ (m 80 2 = M 90 0 ∧ m 80 3 = M 90 1 ∧ m 80 4 = M 90 2)) ∧ (∀ s p : Int, 0 ≤ s → s < M 90 3 → 0 ≤ p → p < M 94 s → CR (M 93 s) (m (8 + s) p) (M 97 (400 * s + p)) (M 98 (400 * s + p))) ∧ (m 74 2 = 0 ∧ m 74 3 = 0 ∧ M 88 26 = 0) ∧ (∀ b : Int, 0 ≤ b → b < 2 → m 29 b = 0 ∧ M 108 b = 0) ∧ ((m 77 5 = 0 ∧ m 77 6 = 0 ∧ M 88 36 = 0) ∧ (∀ q : Int, 0 ≤ q → q < 32 → m 78 q = -1) ∧ ∀ q : Int, 0 ≤ q → q < 64 → M 103 q = -1) ∧ ((m 83 1 = 0 ∧ m 83 2 = 0 ∧ M 88 34 = 0 ∧ M 88 35 = 0) ∧ ∀ q : Int, 0 ≤ q → q < 2400 → m 84 q = 0 ∧ M 105 q = 0) ∧ (m 3 2 = M 88 10 ∧ m 3 3 = M 88 11) ∧ M 88 30 = -1
/-- what a bank may change -/
def CBC (D o q : Int) : Prop := CP D o q ∨ (o = 3 ∧ q = 1) ∨ (o = 4 ∧ 1 ≤ q) ∨ (o = 1 ∧ (q = 1 ∨ q = 3 ∨ q = 4)) ∨ (o = 6 ∧ q = 5) ∨ (o = 29 ∧ (q = 0 ∨ q = 1)) ∨ o = 14 ∨ o = 15 ∨ (8 ≤ o ∧ o ≤ 13) ∨ (o = 74 ∧ (q = 2 ∨ q = 3)) ∨ (o = 77 ∧ 2 ≤ q) ∨ o = 78 ∨ (o = 80 ∧ 2 ≤ q) ∨ o = 81 ∨ (o = 83 ∧ 1 ≤ q) ∨ o = 84
def MBC (o q : Int) : Prop := (o = 88 ∧ ((1 ≤ q ∧ q ≤ 12) ∨ q = 20 ∨ q = 21 ∨ q = 26 ∨ q = 29 ∨ (34 ≤ q ∧ q ≤ 36))) ∨ (90 ≤ o ∧ o ≤ 98) ∨ o = 101 ∨ o = 102 ∨ o = 103 ∨ o = 105 ∨ o = 108
def X2 (D o q : Int) : Prop := (o = 6 ∧ q = 5) ∨ (o = 29 ∧ (q = 0 ∨ q = 1)) ∨ o = 14 ∨ o = 15 ∨ (8 ≤ o ∧ o ≤ 13) ∨ (D + 6 ≤ o ∧ o ≤ D + 18 ∧ (o - D - 6) % 4 = 0 ∧ q = 6)
def X7 (o q : Int) : Prop := (o = 74 ∧ (q = 2 ∨ q = 3)) ∨ (o = 77 ∧ 2 ≤ q) ∨ o = 78 ∨ (o = 80 ∧ 2 ≤ q) ∨ o = 81 ∨ (o = 83 ∧ 1 ≤ q) ∨ o = 84
theorem FXP_1 {o q : Int} (h : FXP o q) : ¬ (o = 1 ∧ (q = 1 ∨ q = 3 ∨ q = 4)) := by unfold FXP at h; omega
theorem FXP_2 {D o q : Int} (hD : D = 30 ∨ D = 52) (h : FXP o q) : ¬ X2 D o q := by
  unfold FXP at h
  unfold X2
  rcases hD with e | e <;> subst e <;> omega
theorem FXP_3 {o q : Int} (h : FXP o q) : (o < 90 ∨ o = 96 ∨ 98 < o) ∧ ¬ (o = 88 ∧ (q = 10 ∨ q = 11)) := by unfold FXP at h; omega
theorem FXP_7 {o q : Int} (h : FXP o q) : ¬ X7 o q := by
  unfold FXP at h
  unfold X7
  omega
theorem CBC_n {D o q : Int} (h : ¬ CBC D o q) : ¬ X7 o q ∧ ¬ (8 ≤ o ∧ o ≤ 13) ∧ ¬ (o = 1 ∧ (q = 1 ∨ q = 3 ∨ q = 4)) ∧ ¬ X2 D o q := by
  unfold CBC CP at h
  unfold X7 X2
  omega
section
variable {n : Int} {m m1 M M1 : Mm} {D N : Int}
theorem TBq.g {m U U' : Mm} {T t : Int} (B : TBq m U T t) (e93 : U' 93 = U 93) (e95 : U' 95 = U 95) : TBq m U' T t := by
  unfold TBq fst' tex
  unfold TBq fst' tex at B
  rw [e93, e95]
  exact B
/-- the model's last memory -/
def endM (M5 : Mm) : Mm := stm (stm (emM (stm M5 88 26 0)) 108 0 0) 108 1 0
theorem endM_o {M5 : Mm} {o q : Int} (h : ¬ (o = 108 ∧ (q = 0 ∨ q = 1))) (h2 : ¬ (o = 88 ∧ (q = 26 ∨ q = 34 ∨ q = 35 ∨ q = 36))) (h3 : ¬ (o = 103 ∧ 0 ≤ q ∧ q < 64)) (h4 : ¬ (o = 105 ∧ 0 ≤ q ∧ q < 2400)) : endM M5 o q = M5 o q := by
  unfold endM
  rw [stm_ap, if_neg (by omega), stm_ap, if_neg (by omega)]
  unfold emM
  rw [stm_ap, if_neg (by omega), stm_ap, if_neg (by omega), stm_ap, if_neg (by omega), fil_ap, if_neg (by omega), fil_ap, if_neg (by omega), stm_ap, if_neg (by omega)]
theorem endM_v (M5 : Mm) : (endM M5 88 26 = 0 ∧ endM M5 88 36 = 0 ∧ endM M5 88 34 = 0 ∧ endM M5 88 35 = 0) ∧ (∀ q : Int, 0 ≤ q → q < 64 → endM M5 103 q = -1) ∧ (∀ q : Int, 0 ≤ q → q < 2400 → endM M5 105 q = 0) ∧ ∀ b : Int, 0 ≤ b → b < 2 → endM M5 108 b = 0 := by
  refine ⟨⟨?_, ?_, ?_, ?_⟩, fun q q0 q1 => ?_, fun q q0 q1 => ?_, fun b b0 b1 => ?_⟩
  · unfold endM
    rw [stm_o (by omega), stm_o (by omega)]
    unfold emM
    rw [stm_k (by omega), stm_k (by omega), stm_k (by omega), fil_ap, if_neg (by omega), fil_ap, if_neg (by omega), stm_same]
  · unfold endM
    rw [stm_o (by omega), stm_o (by omega)]
    unfold emM
    rw [stm_same]
  · unfold endM
    rw [stm_o (by omega), stm_o (by omega)]
    unfold emM
    rw [stm_k (by omega), stm_k (by omega), stm_same]
  · unfold endM
    rw [stm_o (by omega), stm_o (by omega)]
    unfold emM
    rw [stm_k (by omega), stm_same]
  · unfold endM
    rw [stm_o (by omega), stm_o (by omega)]
    unfold emM
    rw [stm_o (by omega), stm_o (by omega), stm_o (by omega), fil_ap, if_neg (by omega), fil_ap, if_pos (by omega)]
  · unfold endM
    rw [stm_o (by omega), stm_o (by omega)]
    unfold emM
    rw [stm_o (by omega), stm_o (by omega), stm_o (by omega), fil_ap, if_pos (by omega)]
  · unfold endM
    by_cases z : b = 1
    · rw [z, stm_same]
    · rw [show b = 0 by omega, stm_k (by omega), stm_same]
theorem rows_fin {m3 m2 X U : Mm} {f' : Int → Int} (KU : KLM U) (u93 : ∀ s : Int, U 93 s = X 93 s) (u94 : ∀ s : Int, U 94 s = X 94 s) (u90 : U 90 3 = X 90 3) (N3 : NRf m3 U f') (k3 : ∀ s : Int, 0 ≤ s → s < 6 → 8 ≤ U 93 s → m3 (8 + s) = m2 (8 + s) ∧ ∀ p : Int, 0 ≤ p → p < 400 → f' (400 * s + p) = tkM X 2400 97 (400 * s + p)) (r0 : ∀ s : Int, 0 ≤ s → s < U 90 3 → ∀ p : Int, 0 ≤ p → p < 400 → m2 (8 + s) p = oval (U 93 s)) {s p : Int} (s0 : 0 ≤ s) (s1 : s < U 90 3) (p0 : 0 ≤ p) (p1 : p < U 94 s) : CR (U 93 s) (m3 (8 + s) p) (f' (400 * s + p)) 0 := by
  have kr := KU.2 s s0 s1
  have k6 := KU.1
  have p4 : p < 400 := by omega
  by_cases k7 : U 93 s ≤ 7
  · obtain ⟨y1, y2⟩ := N3 s s0 s1 k7
    rw [y1 p p0 p4]
    exact Or.inl ⟨k7, rfl, y2 p p0 p1⟩
  · obtain ⟨y1, y2⟩ := k3 s s0 (by omega) (by omega)
    refine Or.inr ⟨by omega, Or.inl ⟨rfl, ?_, ?_⟩⟩
    · rw [y1, r0 s s0 s1 p p0 p4]
      unfold oval
      rw [if_neg (by omega)]
    · rw [y2 p p0 p4, tkM_ap, if_pos (by omega)]
      have a1 : (400 * s + p) / 400 = s := by omega
      have a2 : (400 * s + p) % 400 = p := by omega
      unfold nv
      rw [a1, a2, ← u93, ← u94, ← u90]
      rw [if_pos]
      refine ⟨⟨⟨⟨s0, s1⟩, ?_⟩, p0, p1⟩, by omega⟩
      rcases Int.lt_or_le 9 (U 93 s) with w | w
      · have := kr.2.2.2 (by omega)
        omega
      · exact w
theorem tk_U (L : TKN (M3o M1) M1) : TKN (uM (tkM (M3o M1) 2400)) M1 := by
  have e : ∀ o q : Int, o ≠ 97 → o ≠ 98 → uM (tkM (M3o M1) 2400) o q = M3o M1 o q := fun o q h1 h2 => by rw [uM_o h1 h2, tkM_o h1 h2]
  refine ⟨fun k k0 k1 => ?_, fun k k0 k1 => ?_, fun k k0 k1 => ?_, fun k k0 k1 => ?_⟩
  · rw [e _ _ (by omega) (by omega)]
    exact L.1 k k0 k1
  · rw [e _ _ (by omega) (by omega)]
    exact L.2.1 k k0 k1
  · rw [e _ _ (by omega) (by omega)]
    exact L.2.2.1 k k0 k1
  · rw [e _ _ (by omega) (by omega)]
    exact L.2.2.2 k k0 k1
theorem U_o {o q : Int} (h : o < 90 ∨ o = 96 ∨ 98 < o) (h5 : ¬ (o = 88 ∧ (q = 10 ∨ q = 11))) : uM (tkM (M3o M1) 2400) o q = M1 o q := by
  rw [uM_o (by omega) (by omega), tkM_o (by omega) (by omega), M3o_o (by omega) (by omega) (by omega) (by omega) h5]
theorem bank_fin {n : Int} {m m1 m7 M M1 M5 U : Mm} {D : Int} {v : Vl} {f' : Int → Int} (F7 : FX m7) (F5 : FX M5) (KU : KLM U) (XU : TXM U) (r107 : vm 107 [(2, 1)] (n, m) = some (some v, (n, m7))) (pt : vm 205 [(2, 88)] (n, M) = some (some v, (n, endM M5))) (i13 : m7 1 3 = D) (i14 : m7 1 4 = 82 - D) (i11 : m7 1 1 = 0) (j1 : M5 88 1 = 0) (M5o : ∀ o q : Int, (o < 97 ∨ 102 < o ∨ o = 99 ∨ o = 100) → ¬ (o = 88 ∧ q = 29) → M5 o q = U o q) (Uo : ∀ o q : Int, (o < 90 ∨ o = 96 ∨ 98 < o) → ¬ (o = 88 ∧ (q = 10 ∨ q = 11)) → U o q = M1 o q) (tb7 : ∀ t : Int, isT U t → TBq m7 U (D + 6 + 4 * t) t) (i6 : m7 D 6 = U 90 4) (i65 : m7 6 5 = U 90 3) (sto : ∀ s : Int, 0 ≤ s → s < U 90 3 → m7 14 s = U 93 s ∧ m7 15 s = U 94 s) (cs : (U 90 0 = 1 ∨ U 90 0 = 2 ∨ U 90 0 = 4 ∨ U 90 0 = 8) ∧ (1 ≤ U 90 1 ∧ U 90 1 ≤ 4) ∧ (U 90 2 = 1 ∨ U 90 2 = 2 ∨ U 90 2 = 4 ∨ U 90 2 = 8 ∨ U 90 2 = 16)) (c77 : m7 77 2 = U 90 0 ∧ m7 77 3 = U 90 1 ∧ m7 77 4 = U 90 2) (c80 : m7 80 2 = U 90 0 ∧ m7 80 3 = U 90 1 ∧ m7 80 4 = U 90 2) (rws : ∀ s p : Int, 0 ≤ s → s < U 90 3 → 0 ≤ p → p < U 94 s → CR (U 93 s) (m7 (8 + s) p) (f' (400 * s + p)) 0) (h97 : M5 97 = f') (h98 : ∀ q : Int, 0 ≤ q → q < 2400 → M5 98 q = 0) (a74 : m7 74 2 = 0 ∧ m7 74 3 = 0) (i29 : ∀ b : Int, 0 ≤ b → b < 2 → m7 29 b = 0) (a77 : m7 77 5 = 0 ∧ m7 77 6 = 0 ∧ ∀ q : Int, 0 ≤ q → q < 32 → m7 78 q = -1) (a83 : (m7 83 1 = 0 ∧ m7 83 2 = 0) ∧ ∀ q : Int, 0 ≤ q → q < 2400 → m7 84 q = 0) (i3 : m7 3 2 = 0 ∧ m7 3 3 = -1) (x10 : U 88 10 = 0 ∧ U 88 11 = -1) (OU : U 88 30 = -1) (frC : ∀ o q : Int, ¬ CBC D o q → m7 o q = m1 o q) : ∃ (v : Vl) (m' M' : Mm), vm 107 [(2, 1)] (n, m) = some (some v, (n, m')) ∧ vm 205 [(2, 88)] (n, M) = some (some v, (n, M')) ∧ BRG m' M' D ∧ (∀ o q : Int, ¬ CBC D o q → m' o q = m1 o q) ∧ (∀ o q : Int, ¬ MBC o q → M' o q = M1 o q) := by
  obtain ⟨⟨z26, z36, z34, z35⟩, z103, z105, z108⟩ := endM_v M5
  have g6 : ∀ o q : Int, (90 ≤ o ∧ o ≤ 95) → endM M5 o q = U o q := fun o q h => (endM_o (by omega) (by omega) (by omega) (by omega)).trans (M5o o q (by omega) (by omega))
  have e90f : endM M5 90 = U 90 := funext fun q => g6 90 q (by omega)
  have e93f : endM M5 93 = U 93 := funext fun q => g6 93 q (by omega)
  have e94f : endM M5 94 = U 94 := funext fun q => g6 94 q (by omega)
  have e95f : endM M5 95 = U 95 := funext fun q => g6 95 q (by omega)
  have FM6 : FX (endM M5) := F5.fr (fun o q h => endM_o (by unfold FXP at h; omega) (by unfold FXP at h; omega) (by unfold FXP at h; omega) (by unfold FXP at h; omega))
  have k6 := KU.1
  have m88 : ∀ q : Int, q ≠ 26 → q ≠ 29 → q ≠ 34 → q ≠ 35 → q ≠ 36 → endM M5 88 q = U 88 q := fun q h1 h2 h3 h4 h5 => (endM_o (by omega) (by omega) (by omega) (by omega)).trans (M5o 88 q (by omega) (by omega))
  refine ⟨v, m7, endM M5, r107, pt, ⟨⟨F7, FM6⟩, ⟨i13, i14, i11, ?_⟩, ⟨KU.g e90f e93f e94f, XU.g e90f e93f e94f e95f, fun t ht => ?_, ?_⟩, ⟨?_, fun s s0 s1 => ?_⟩, ?_, fun s p s0 s1 p0 p1 => ?_, ⟨a74.1, a74.2, z26⟩, fun b b0 b1 => ⟨i29 b b0 b1, z108 b b0 b1⟩, ⟨⟨a77.1, a77.2.1, z36⟩, a77.2.2, z103⟩, ⟨⟨a83.1.1, a83.1.2, z34, z35⟩, fun q q0 q1 => ⟨a83.2 q q0 q1, z105 q q0 q1⟩⟩, ⟨?_, ?_⟩, ?_⟩, frC, fun o q h => ?_⟩
  · rw [endM_o (by omega) (by omega) (by omega) (by omega)]
    exact j1
  · have ht2 : isT U t := by
      unfold isT at ht ⊢
      rw [e90f] at ht
      exact ht
    exact (tb7 t ht2).g e93f e95f
  · rw [e90f]
    exact i6
  · rw [e90f]
    exact i65
  · rw [e90f] at s1
    rw [e93f, e94f]
    exact sto s s0 s1
  · rw [e90f]
    exact ⟨cs.1, cs.2.1, cs.2.2, c77, c80⟩
  · rw [e90f] at s1
    rw [e94f] at p1
    have kr := (KU.2 s s0 s1).2.1
    clear cs
    rw [e93f, endM_o (by omega) (by omega) (by omega) (by omega), endM_o (by omega) (by omega) (by omega) (by omega), h97, h98 _ (by omega) (by omega)]
    exact rws s p s0 s1 p0 p1
  · rw [m88 10 (by omega) (by omega) (by omega) (by omega) (by omega), x10.1]
    exact i3.1
  · rw [m88 11 (by omega) (by omega) (by omega) (by omega) (by omega), x10.2]
    exact i3.2
  · rw [m88 30 (by omega) (by omega) (by omega) (by omega) (by omega)]
    exact OU
  · unfold MBC at h
    clear cs
    rw [endM_o (by omega) (by omega) (by omega) (by omega), M5o o q (by omega) (by omega), Uo o q (by omega) (by omega)]
end
