/-! THE PURE PART: bank, done well -/
section
variable {n : Int} {m m1 M M1 : Mm} {D N : Int}
set_option maxHeartbeats 8000000 in
theorem bank_good (hD : D = 30 ∨ D = 52) (F : FX m) (h11 : m 1 1 = N) (h14 : m 1 4 = D) (r65 : vm 65 [(2, 3), (2, 2), (0, N), (2, D)] (n, m) = some (some (0, 1), (n, m1))) (r205 : vm 205 [(2, 88)] (n, M) = vp 205 36 [(2, 88)] [] (n, M1)) (h13' : m1 1 3 = 82 - D) (h14' : m1 1 4 = D) (L : LN m1 M1 D) (b5 : M1 88 5 = 0) (b1 : M1 88 1 = 0) (O : M1 88 30 = -1) : ∃ (v : Vl) (m' M' : Mm), vm 107 [(2, 1)] (n, m) = some (some v, (n, m')) ∧ vm 205 [(2, 88)] (n, M) = some (some v, (n, M')) ∧ BRG m' M' D ∧ (∀ o q : Int, ¬ CBC D o q → m' o q = m1 o q) ∧ (∀ o q : Int, ¬ MBC o q → M' o q = M1 o q) := by
  obtain ⟨G, P, hp, fl⟩ := L
  have F1 : FX m1 := G.1.1.1
  have FM1 : FX M1 := G.1.1.2
  obtain ⟨-, -, ⟨g32, g33⟩, g88, g89⟩ := G
  have T3 := M3o_t (M1 := M1)
  have TU := tk_U T3
  obtain ⟨⟨n3, n4⟩, c0, c1⟩ := TU.n P
  have KU := TU.kl P
  have XU := TU.tx P
  have K3 := T3.kl P
  have Uo : ∀ o q : Int, (o < 90 ∨ o = 96 ∨ 98 < o) → ¬ (o = 88 ∧ (q = 10 ∨ q = 11)) → uM (tkM (M3o M1) 2400) o q = M1 o q := fun o q h h5 => U_o h h5
  have FU : FX (uM (tkM (M3o M1) 2400)) := FM1.fr (fun o q h => Uo o q (FXP_3 h).1 (FXP_3 h).2)
  have OU : uM (tkM (M3o M1) 2400) 88 30 = -1 := by rw [Uo 88 30 (by omega) (by omega)]; exact O
  have gA : ∀ o q : Int, ¬ (o = 1 ∧ (q = 1 ∨ q = 3 ∨ q = 4)) → stm (stm (stm m1 1 1 0) 1 4 (82 - D)) 1 3 D o q = m1 o q := fun o q h => by rw [stm_ap, if_neg (by omega), stm_ap, if_neg (by omega), stm_ap, if_neg (by omega)]
  have FA : FX (stm (stm (stm m1 1 1 0) 1 4 (82 - D)) 1 3 D) := F1.fr (fun o q h => gA o q (FXP_1 h))
  have tsr : ∀ t : Int, 0 ≤ t → t < m1 D 6 → 0 ≤ m1 (D + 6 + 4 * t) 4 ∧ m1 (D + 6 + 4 * t) 4 < 6 := fun t t0 t1 => by
    have := (P.2.2.1 t t0 t1).1.1.1
    omega
  obtain ⟨m2, ro, ⟨o65, o290, o291⟩, oS, oT, oF⟩ := c_open (n := n) hD FA (by rw [gA D 5 (by omega)]; omega) (by rw [gA D 5 (by omega)]; omega) (by rw [gA D 6 (by omega)]; omega) (by rw [gA D 6 (by omega)]; omega) (fun t t0 t1 => by
    rw [gA D 6 (by omega)] at t1
    rw [gA _ 4 (by omega)]
    exact tsr t t0 t1)
  rw [gA D 5 (by omega)] at o65 oS
  rw [gA D 6 (by omega)] at oT
  have g2' : ∀ o q : Int, ¬ (o = 1 ∧ (q = 1 ∨ q = 3 ∨ q = 4)) → ¬ X2 D o q → m2 o q = m1 o q := fun o q h h2 => (oF o q h2).trans (gA o q h)
  have g2 : ∀ o q : Int, ¬ (o = 1 ∧ (q = 1 ∨ q = 3 ∨ q = 4)) → ¬ ((o = 6 ∧ q = 5) ∨ (o = 29 ∧ (q = 0 ∨ q = 1)) ∨ o = 14 ∨ o = 15 ∨ (8 ≤ o ∧ o ≤ 13) ∨ (D + 6 ≤ o ∧ o ≤ D + 18 ∧ (o - D - 6) % 4 = 0 ∧ q = 6)) → m2 o q = m1 o q := g2'
  have F2 : FX m2 := F1.fr (fun o q h => g2' o q (FXP_1 h) (FXP_2 hD h))
  have h213 : m2 1 3 = D := by rw [oF 1 3 (by omega), stm_same]
  have h214 : m2 1 4 = 82 - D := by rw [oF 1 4 (by omega), stm_k (by omega), stm_same]
  have h211 : m2 1 1 = 0 := by rw [oF 1 1 (by omega), stm_k (by omega), stm_k (by omega), stm_same]
  obtain ⟨fc, hfc⟩ : ∃ fc : Int, m1 D 7 = fc := ⟨_, rfl⟩
  have Pf := P.2.2.2.1
  unfold FIL at Pf
  rw [hfc] at Pf
  have Q2 : PQ m2 (uM (tkM (M3o M1) 2400)) D fc := by
    refine ⟨F2, h213, ⟨by rw [g2 D 7 (by omega) (by omega)]; exact hfc, by rw [Uo 88 20 (by omega) (by omega)]; exact Pf.1.1.symm, by omega, by omega⟩, fun k k0 k1 => ?_, fun t ht => ?_⟩
    · obtain ⟨x1, x2, x3, x4, x5⟩ := Pf.2 k k0 k1
      rw [g2 (D + 5) _ (by omega) (by omega), g2 (D + 5) _ (by omega) (by omega), g2 (D + 5) _ (by omega) (by omega), g2 (D + 5) _ (by omega) (by omega), Uo 96 _ (by omega) (by omega), Uo 96 _ (by omega) (by omega), Uo 96 _ (by omega) (by omega), Uo 96 _ (by omega) (by omega)]
      exact ⟨x1, ⟨x2.1, by rw [n4]; exact x2.2⟩, x3, x4, x5⟩
    · have ht' := ht
      obtain ⟨t0, t1⟩ := ht'
      rw [n4] at t1
      refine TU.tb hD F2 P ht (fun o q h1 h2 h3 => g2 o q (by omega) (by omega)) ?_
      rw [oT t t0 t1, gA _ 4 (by omega)]
  have m497 : ∀ q : Int, 0 ≤ q → q < 2400 → tkM (M3o M1) 2400 97 q = nv (M3o M1) q := fun q q0 q1 => by rw [tkM_ap, if_pos (by omega)]
  have m498 : ∀ q : Int, 0 ≤ q → q < 2400 → tkM (M3o M1) 2400 98 q = 0 := fun q q0 q1 => by rw [tkM_ap, if_neg (by omega), if_pos (by omega)]
  have u93 : ∀ s : Int, uM (tkM (M3o M1) 2400) 93 s = M3o M1 93 s := fun s => by rw [uM_o (by omega) (by omega), tkM_o (by omega) (by omega)]
  have u94 : ∀ s : Int, uM (tkM (M3o M1) 2400) 94 s = M3o M1 94 s := fun s => by rw [uM_o (by omega) (by omega), tkM_o (by omega) (by omega)]
  have u90 : ∀ s : Int, uM (tkM (M3o M1) 2400) 90 s = M3o M1 90 s := fun s => by rw [uM_o (by omega) (by omega), tkM_o (by omega) (by omega)]
  have kd2 : ∀ s : Int, 0 ≤ s → s < m1 D 5 → m1 (D + 2) s = uM (tkM (M3o M1) 2400) 93 s ∧ m1 (D + 3) s = uM (tkM (M3o M1) 2400) 94 s := fun s s0 s1 => by
    have st := P.2.1 s s0 s1
    rw [TU.2.1 s s0 (by omega), TU.2.2.1 s s0 (by omega)]
    exact st.1
  have N2 : NRf m2 (uM (tkM (M3o M1) 2400)) (tkM (M3o M1) 2400 97) := by
    intro s s0 s1 s7
    rw [n3] at s1
    obtain ⟨-, -, r0⟩ := oS s s0 s1
    rw [gA (D + 2) s (by omega), (kd2 s s0 s1).1] at r0
    have ov : oval (uM (tkM (M3o M1) 2400) 93 s) = 0 := by
      unfold oval
      rw [if_pos (by omega)]
    rw [ov] at r0
    refine ⟨fun p p0 p1 => ?_, fun p p0 p1 => ?_⟩
    · rw [m497 _ (by omega) (by omega), r0 p p0 p1]
      unfold nv
      rw [if_neg]
      intro w
      have w2 := w.2
      rw [show (400 * s + p) / 400 = s by omega, ← u93] at w2
      omega
    · have := (KU.2 s s0 (by omega)).2.1
      rw [r0 p p0 (by omega)]
      omega
  obtain ⟨m3, io', f', z', rp, rq, Q3, N3, fr3, k3⟩ := pour_both (n := n) (g := tkM (M3o M1) 2400 98) hD FU XU KU OU fc.toNat 0 m2 (tkM (M3o M1) 2400 88 29) (tkM (M3o M1) 2400 97) (9, 0) (9, 0) (9, 0) (by omega) (by omega) Q2 N2
  rw [md_u] at rq
  have F3 : FX m3 := Q3.1
  have g3 : ∀ o q : Int, ¬ (8 ≤ o ∧ o ≤ 13) → m3 o q = m2 o q := fr3
  have cc := P.2.2.2.2
  obtain ⟨m7, r107, ⟨a742, a743⟩, ⟨⟨a772, a773, a774⟩, a775, a776, a78⟩, ⟨a802, a803, a804⟩, ⟨⟨a831, a832⟩, a84⟩, g7⟩ := c_tail (n := n) (N := N) (cnt := m1 D 5) (S := m1 D 9) (W := m1 D 10) (L := m1 D 11) hD F F1 h11 h14 h13' h14' r65 ro F2 ((e_X11_pourFills ..).trans rp) F3 Q3.2.1 (by rw [g3 D 5 (by omega), g2 D 5 (by omega) (by omega)]) (by rw [g3 D 9 (by omega), g2 D 9 (by omega) (by omega)]) (by rw [g3 D 10 (by omega), g2 D 10 (by omega) (by omega)]) (by rw [g3 D 11 (by omega), g2 D 11 (by omega) (by omega)])
  have M5o : ∀ o q : Int, (o < 97 ∨ 102 < o ∨ o = 99 ∨ o = 100) → ¬ (o = 88 ∧ q = 29) → mdM (uM (tkM (M3o M1) 2400)) io' f' (tkM (M3o M1) 2400 98) o q = uM (tkM (M3o M1) 2400) o q := fun o q h h2 => mdM_o h h2
  have F5 : FX (mdM (uM (tkM (M3o M1) 2400)) io' f' (tkM (M3o M1) 2400 98)) := FU.md
  have pt := p_tail (n := n) (M := M) FM1 K3 r205 g88 g89 b5 rq F5 (by rw [M5o 88 20 (by omega) (by omega), Uo 88 20 (by omega) (by omega)]; exact Pf.1.1.symm)
  have e90 : mdM (uM (tkM (M3o M1) 2400)) io' f' (tkM (M3o M1) 2400 98) 90 3 = m1 D 5 := by rw [M5o 90 3 (by omega) (by omega)]; exact n3
  rw [e90] at pt
  have h97 : mdM (uM (tkM (M3o M1) 2400)) io' f' (tkM (M3o M1) 2400 98) 97 = f' := mdM_97
  have h98 : mdM (uM (tkM (M3o M1) 2400)) io' f' (tkM (M3o M1) 2400 98) 98 = tkM (M3o M1) 2400 98 := mdM_98
  have r0 : ∀ s : Int, 0 ≤ s → s < uM (tkM (M3o M1) 2400) 90 3 → ∀ p : Int, 0 ≤ p → p < 400 → m2 (8 + s) p = oval (uM (tkM (M3o M1) 2400) 93 s) := fun s s0 s1 p p0 p1 => by
    rw [n3] at s1
    have y := (oS s s0 s1).2.2 p p0 p1
    rw [gA (D + 2) s (by omega), (kd2 s s0 s1).1] at y
    exact y
  have x10 : uM (tkM (M3o M1) 2400) 88 10 = 0 := by
    rw [uM_o (by omega) (by omega), tkM_o (by omega) (by omega)]
    unfold M3o
    rw [hlf_o (by omega), hlf_o (by omega), hlf_o (by omega), hlf_o (by omega), stm_k (by omega), stm_same]
  have x11 : uM (tkM (M3o M1) 2400) 88 11 = -1 := by
    rw [uM_o (by omega) (by omega), tkM_o (by omega) (by omega)]
    unfold M3o
    rw [hlf_o (by omega), hlf_o (by omega), hlf_o (by omega), hlf_o (by omega), stm_same]
  have i32 : m7 3 2 = 0 := by rw [g7 3 2 (by omega), g3 3 2 (by omega), g2 3 2 (by omega) (by omega)]; exact g32
  have i33 : m7 3 3 = -1 := by rw [g7 3 3 (by omega), g3 3 3 (by omega), g2 3 3 (by omega) (by omega)]; exact g33
  have i13 : m7 1 3 = D := by rw [g7 1 3 (by omega)]; exact Q3.2.1
  have i14 : m7 1 4 = 82 - D := by rw [g7 1 4 (by omega), g3 1 4 (by omega)]; exact h214
  have i11 : m7 1 1 = 0 := by rw [g7 1 1 (by omega), g3 1 1 (by omega)]; exact h211
  have i6 : m7 D 6 = uM (tkM (M3o M1) 2400) 90 4 := by rw [g7 D 6 (by omega), g3 D 6 (by omega), g2 D 6 (by omega) (by omega)]; exact n4.symm
  have i65 : m7 6 5 = uM (tkM (M3o M1) 2400) 90 3 := by rw [g7 6 5 (by omega), g3 6 5 (by omega), o65]; exact n3.symm
  have i29 : ∀ b : Int, 0 ≤ b → b < 2 → m7 29 b = 0 := fun b b0 b1 => by
    rw [g7 29 b (by omega), g3 29 b (by omega)]
    by_cases z : b = 0
    · rw [z]
      exact o290
    · rw [show b = 1 by omega]
      exact o291
  have sto : ∀ s : Int, 0 ≤ s → s < uM (tkM (M3o M1) 2400) 90 3 → m7 14 s = uM (tkM (M3o M1) 2400) 93 s ∧ m7 15 s = uM (tkM (M3o M1) 2400) 94 s := fun s s0 s1 => by
    rw [n3] at s1
    obtain ⟨y1, y2, -⟩ := oS s s0 s1
    rw [g7 14 s (by omega), g3 14 s (by omega), y1, g7 15 s (by omega), g3 15 s (by omega), y2, gA (D + 2) s (by omega), gA (D + 3) s (by omega)]
    exact kd2 s s0 s1
  have tb7 : ∀ t : Int, isT (uM (tkM (M3o M1) 2400)) t → TBq m7 (uM (tkM (M3o M1) 2400)) (D + 6 + 4 * t) t := fun t ht => (Q3.2.2.2.2 t ht).fr (fun c k q => g7 c k (by omega))
  have ccv : (m1 D 9 = uM (tkM (M3o M1) 2400) 90 0 ∧ m1 D 10 = uM (tkM (M3o M1) 2400) 90 1 ∧ m1 D 11 = uM (tkM (M3o M1) 2400) 90 2) := ⟨cc.2.1.1.trans (TU.1 0 (by omega) (by omega)).symm, cc.2.1.2.1.trans (TU.1 1 (by omega) (by omega)).symm, cc.2.1.2.2.trans (TU.1 2 (by omega) (by omega)).symm⟩
  have F7 : FX m7 := F3.fr (fun o q h => g7 o q (FXP_7 h))
  have frC : ∀ o q : Int, ¬ CBC D o q → m7 o q = m1 o q := fun o q h => by
    have c := CBC_n h
    rw [g7 o q c.1, g3 o q c.2.1, g2' o q c.2.2.1 c.2.2.2]
  have rws := fun (s p : Int) (s0 : 0 ≤ s) (s1 : s < uM (tkM (M3o M1) 2400) 90 3) (p0 : 0 ≤ p) (p1 : p < uM (tkM (M3o M1) 2400) 94 s) => rows_fin KU u93 u94 (u90 3) N3 k3 r0 s0 s1 p0 p1
  have rw8 : ∀ s p : Int, 0 ≤ s → s < 6 → m7 (8 + s) p = m3 (8 + s) p := fun s p s0 s1 => g7 _ _ (by omega)
  have cs := cc.2.2
  rw [ccv.1, ccv.2.1, ccv.2.2] at cs
  rw [ccv.1] at a772 a802
  rw [ccv.2.1] at a773 a803
  rw [ccv.2.2] at a774 a804
  exact bank_fin F7 F5 KU XU r107 pt i13 i14 i11 (by rw [M5o 88 1 (by omega) (by omega), Uo 88 1 (by omega) (by omega)]; exact b1) (fun o q h h2 => M5o o q h h2) (fun o q h h2 => Uo o q h h2) tb7 i6 i65 sto cs ⟨a772, a773, a774⟩ ⟨a802, a803, a804⟩ (fun s p s0 s1 p0 p1 => by rw [rw8 s p s0 (by omega)]; exact rws s p s0 s1 p0 p1) h97 (fun q q0 q1 => by rw [h98]; exact m498 q q0 q1) ⟨a742, a743⟩ i29 ⟨a775, a776, a78⟩ ⟨⟨a831, a832⟩, a84⟩ ⟨i32, i33⟩ ⟨x10, x11⟩ OU frC
end
