/-! THE PURE PART: blocks: pack, off -/
def fB (m : Mm) (t : Int) (l : Nat) (x y j : Int) : Int := max 0 (min (wtM m t l (4 * x + j % 4) (4 * y + j / 4)) 65535)
theorem fB_rng (m : Mm) (t : Int) (l : Nat) (x y : Int) : B16 (fB m t l x y) := fun k _ _ => by
  unfold fB
  omega
theorem fB_eq {m m' : Mm} (e : ∀ c k : Int, c ≠ 87 → m' c k = m c k) (t : Int) (l : Nat) (x y : Int) : fB m' t l x y = fB m t l x y := by
  have e1 : ∀ c : Int, c ≠ 87 → m' c = m c := fun c hc => funext fun k => e c k hc
  funext j
  unfold fB wtM txM plM ordM fst' tex
  rw [e1 88 (by omega), e1 95 (by omega), e1 97 (by omega)]
/-- up to n numbers are read -/
def RDk (m m' : Mm) (f : Int → Int) (n : Int) : Prop := (∀ c k : Int, c ≠ 87 → m' c k = m c k) ∧ ∀ k : Int, 0 ≤ k → k < n → m' 87 k = f k
theorem c_read3 {i n : Int} {m : Mm} (I : INV i (n, m)) {t x y : Int} {l : Nat} (ht : isT m t) (hl : (l : Int) < tex m t 4) (x0 : 0 ≤ x) (x1 : x ≤ 3) (y0 : 0 ≤ y) (y1 : y ≤ 3) : ∀ k j : Nat, j + k = 16 → ∀ (M : Mm) (z : Vl), RDk m M (fB m t l x y) j → ∃ m' : Mm, vp 27 3 [(2, 86), (2, tcl m t), (0, (l : Int)), (0, x), (0, y), (0, (j : Int)), z] [] (n, M) = some (none, (n, m')) ∧ RDk m m' (fB m t l x y) 16 := by
  intro k
  induction k with
  | zero =>
    intro j e M z R
    have : j = 16 := by omega
    subst this
    refine ⟨M, ?_, R⟩
    rw [e_X4_read_3, if_pos (by omega)]
  | succ k ih =>
    intro j e M z R
    have I2 : INV i (n, M) := I.scr (fun c k q => R.1 c k (by omega))
    have e1 : ∀ c : Int, c ≠ 87 → M c = m c := fun c hc => funext fun k => R.1 c k hc
    have ht2 : isT M t := by unfold isT at ht ⊢; rw [e1 90 (by omega)]; exact ht
    have et : tex M t 4 = tex m t 4 := by unfold tex; rw [e1 95 (by omega)]
    have hl2 : (l : Int) < tex M t 4 := by rw [et]; exact hl
    have B := I2.tb ht2
    have ec : tcl M t = tcl m t := by unfold tcl; rw [e1 1 (by omega)]
    rw [ec] at B
    have O := I2.ou.1
    have w := c_wtxel (h := (n, M)) B I2.tx I2.kl I2.ro O ht2 hl2 (x := 4 * x + (j : Int) % 4) (y := 4 * y + (j : Int) / 4) (by omega) (by omega) (by omega) (by omega)
    have ew : wtM M t l (4 * x + (j : Int) % 4) (4 * y + (j : Int) / 4) = wtM m t l (4 * x + (j : Int) % 4) (4 * y + (j : Int) / 4) := by
      unfold wtM txM plM ordM fst' tex
      rw [e1 88 (by omega), e1 95 (by omega), e1 97 (by omega)]
    rw [show ((n, M) : Hq).2 = M from rfl, ew] at w
    have r87 : RDk m (stm M 87 j (fB m t l x y j)) (fB m t l x y) ((j + 1 : Nat) : Int) := by
      refine ⟨fun c k hc => by rw [stm_ap, if_neg (by omega)]; exact R.1 c k hc, fun k k0 k1 => ?_⟩
      rw [stm_ap]
      by_cases z : k = j
      · rw [if_pos ⟨rfl, z⟩, z]
      · rw [if_neg (by omega)]
        exact R.2 k k0 (by omega)
    have F := I2.fx
    have RT := B.r
    have BK := B.k0
    clear B
    have c86 : M 86 0 = 87 := F.c86_0
    clear F I2 ht2 hl2 et
    obtain ⟨m', a1, a2⟩ := ih (j + 1) (by omega) _ (0, wtM m t l (4 * x + (j : Int) % 4) (4 * y + (j : Int) / 4)) r87
    refine ⟨m', ?_, a2⟩
    rw [← a1]
    rw [e_X4_read_3, Int.tmod_eq_emod_of_nonneg (by omega), Int.tdiv_eq_ediv_of_nonneg (by omega), w32_i (x := 4 * x) (by omega) (by omega), w32_i (x := 4 * y) (by omega) (by omega), w32_i (x := (j : Int) / 4) (by omega) (by omega), w32_i (x := 4 * x + (j : Int) % 4) (by omega) (by omega), w32_i (x := 4 * y + (j : Int) / 4) (by omega) (by omega), w32_i (x := (j : Int) + 1) (by omega) (by omega)]
    repeat first
      | (refine Eq.trans (if_pos ?_) ?_; · first | omega | (simp (disch := omega) only [BK, w, p_max, p_min, c86, Int.reduceLT, Int.reduceLE, Int.reduceEq, Int.reduceNe, Int.reduceNeg, Int.reduceAdd, Int.reduceSub, Int.reduceMul, Int.reduceGE, Int.reduceGT, Nat.reduceEqDiff, Nat.reduceAdd, and_true, true_and, and_self, not_true_eq_false, not_false_eq_true, ne_eq, and_false, false_and, or_false, or_true, false_or, true_or, vx_some, eq_self, ↓reduceIte, ite_t1, ite_t2, ite_t3, le_T, le_F, lt_T, lt_F, ge_T, ge_F, gt_T, gt_F, eq_T, eq_F, w32_i, kd_1, kd_2, kd_3, kd_4, kd_5, kd_6, kd_7, kd_14, kd_15, kd_16, kd_29, kd_34, kd_56, kd_74, kd_75, kd_76, kd_77, kd_78, kd_79, kd_80, kd_81, kd_82, kd_83, kd_84, kd_85, kd_86, kd_87, kd_88, kd_89, kd_90, kd_91, kd_92, kd_93, kd_94, kd_95, kd_96, kd_97, kd_98, kd_99, kd_100, kd_101, kd_102, kd_103, kd_104, kd_105, kd_106, kd_107, kd_108]; done))
      | (refine Eq.trans (if_neg ?_) ?_; · first | omega | (simp (disch := omega) only [BK, w, p_max, p_min, c86, Int.reduceLT, Int.reduceLE, Int.reduceEq, Int.reduceNe, Int.reduceNeg, Int.reduceAdd, Int.reduceSub, Int.reduceMul, Int.reduceGE, Int.reduceGT, Nat.reduceEqDiff, Nat.reduceAdd, and_true, true_and, and_self, not_true_eq_false, not_false_eq_true, ne_eq, and_false, false_and, or_false, or_true, false_or, true_or, vx_some, eq_self, ↓reduceIte, ite_t1, ite_t2, ite_t3, le_T, le_F, lt_T, lt_F, ge_T, ge_F, gt_T, gt_F, eq_T, eq_F, w32_i, kd_1, kd_2, kd_3, kd_4, kd_5, kd_6, kd_7, kd_14, kd_15, kd_16, kd_29, kd_34, kd_56, kd_74, kd_75, kd_76, kd_77, kd_78, kd_79, kd_80, kd_81, kd_82, kd_83, kd_84, kd_85, kd_86, kd_87, kd_88, kd_89, kd_90, kd_91, kd_92, kd_93, kd_94, kd_95, kd_96, kd_97, kd_98, kd_99, kd_100, kd_101, kd_102, kd_103, kd_104, kd_105, kd_106, kd_107, kd_108]; done))
      | (refine Eq.trans (bnd (r := ?_) ?_) ?_; rotate_left 1; (focus (simp (disch := omega) only [BK, w, p_max, p_min, c86, Int.reduceLT, Int.reduceLE, Int.reduceEq, Int.reduceNe, Int.reduceNeg, Int.reduceAdd, Int.reduceSub, Int.reduceMul, Int.reduceGE, Int.reduceGT, Nat.reduceEqDiff, Nat.reduceAdd, and_true, true_and, and_self, not_true_eq_false, not_false_eq_true, ne_eq, and_false, false_and, or_false, or_true, false_or, true_or, vx_some, eq_self, ↓reduceIte, ite_t1, ite_t2, ite_t3, le_T, le_F, lt_T, lt_F, ge_T, ge_F, gt_T, gt_F, eq_T, eq_F, w32_i, kd_1, kd_2, kd_3, kd_4, kd_5, kd_6, kd_7, kd_14, kd_15, kd_16, kd_29, kd_34, kd_56, kd_74, kd_75, kd_76, kd_77, kd_78, kd_79, kd_80, kd_81, kd_82, kd_83, kd_84, kd_85, kd_86, kd_87, kd_88, kd_89, kd_90, kd_91, kd_92, kd_93, kd_94, kd_95, kd_96, kd_97, kd_98, kd_99, kd_100, kd_101, kd_102, kd_103, kd_104, kd_105, kd_106, kd_107, kd_108]; exact rfl)); simp only [vx_some])
    rw [c86]
    rfl
theorem c_read {i n : Int} {m : Mm} (I : INV i (n, m)) {t x y : Int} {l : Nat} (ht : isT m t) (hl : (l : Int) < tex m t 4) (x0 : 0 ≤ x) (x1 : x ≤ 3) (y0 : 0 ≤ y) (y1 : y ≤ 3) : ∃ m' : Mm, vm 27 [(2, 86), (2, tcl m t), (0, (l : Int)), (0, x), (0, y)] (n, m) = some (none, (n, m')) ∧ RDk m m' (fB m t l x y) 16 := by
  rw [e_X4_read]
  exact c_read3 I ht hl x0 x1 y0 y1 16 0 rfl m _ ⟨fun _ _ _ => rfl, fun k k0 k1 => by omega⟩
section
variable {h : Hq} {t x y : Int} {l : Nat}
theorem p_heldT {i : Int} (I : INV i h) (ht : isT h.2 t) (hl : (l : Int) < tex h.2 t 4) (x0 : 0 ≤ x) (x1 : x ≤ 3) (y0 : 0 ≤ y) (y1 : y ≤ 3) {j : Int} (j0 : 0 ≤ j) (j1 : j < 16) : vm 281 [(2, 88), (0, t), (0, (l : Int)), (0, w32 (w32 (4 * x) + j.tmod 4)), (0, w32 (w32 (4 * y) + w32 (j.tdiv 4)))] h = some (some (0, fB h.2 t l x y j), h) := by
  have O := I.ou.1
  rw [Int.tmod_eq_emod_of_nonneg (by omega), Int.tdiv_eq_ediv_of_nonneg (by omega), w32_i (x := 4 * x) (by omega) (by omega), w32_i (x := 4 * y) (by omega) (by omega), w32_i (x := j / 4) (by omega) (by omega), w32_i (x := 4 * x + j % 4) (by omega) (by omega), w32_i (x := 4 * y + j / 4) (by omega) (by omega)]
  rw [e_X12_heldTexel, if_pos g88, p_wrappedTexel I.fx.m I.tx I.kl (by omega) ht hl (by omega) (by omega) (by omega) (by omega)]
  simp only [Option.bind_some, vx_some]
  rw [p_greater]
  simp only [Option.bind_some, vx_some]
  rw [p_lesser]
  simp only [Option.bind_some, vx_some]
  unfold fB
  exact congrArg (fun z => some (some (0, z), h)) (by omega)
theorem p_pk82 {i : Int} (I : INV i h) (ht : isT h.2 t) (hl : (l : Int) < tex h.2 t 4) (x0 : 0 ≤ x) (x1 : x ≤ 3) (y0 : 0 ≤ y) (y1 : y ≤ 3) {a b : Int} (a0 : 0 ≤ a) (a1 : a ≤ 65535) (b0 : 0 ≤ b) (b1 : b ≤ 65535) {f : Int → Int} (hf : f = fB h.2 t l x y) : ∀ k n : Nat, n + k = 16 → vp 283 82 [(2, 88), (0, t), (0, (l : Int)), (0, x), (0, y), (0, a), (0, b), (1, pkw a b f n), (9, 0), (0, (n : Int))] [] h = some (some (1, pkw a b f 16), h) := by
  intro k
  induction k with
  | zero =>
    intro n e
    have : n = 16 := by omega
    subst this
    rw [e_X12_packed_82, if_pos (by omega)]
  | succ k ih =>
    intro n e
    have ih' := ih (n + 1) (by omega)
    have H : B16 f := by rw [hf]; exact fB_rng _ _ _ _ _
    have hn := H n (by omega) (by omega)
    have w := p_heldT I ht hl x0 x1 y0 y1 (j := (n : Int)) (by omega) (by omega)
    rw [← hf] at w
    rw [show pkw a b f (n + 1) = lbor (pkw a b f n) (lbshl (nch a b (f n)) (32 + 2 * n)) from rfl] at ih'
    generalize pkw a b f n = w1 at *
    generalize pkw a b f 16 = w2 at *
    rw [e_X12_packed_82, if_neg (by omega), if_pos g88, w]
    simp only [Option.bind_some, vx_some]
    rw [p_near a0 a1 b0 b1 hn.1 hn.2]
    simp only [Option.bind_some, vx_some]
    rw [w32_i (x := 2 * (n : Int)) (by omega) (by omega), w32_i (x := 32 + 2 * (n : Int)) (by omega) (by omega), w32_i (x := (n : Int) + 1) (by omega) (by omega)]
    exact ih'
theorem p_pk11 {i : Int} (I : INV i h) (ht : isT h.2 t) (hl : (l : Int) < tex h.2 t 4) (x0 : 0 ≤ x) (x1 : x ≤ 3) (y0 : 0 ≤ y) (y1 : y ≤ 3) {f : Int → Int} (hf : f = fB h.2 t l x y) : ∀ k n : Nat, n + k = 15 → ∀ z8 z9 : Vl, vp 283 11 [(2, 88), (0, t), (0, (l : Int)), (0, x), (0, y), (0, gre f n), (0, lea f n), (0, (n : Int) + 1), z8, z9] [] h = some (some (1, pck f), h) := by
  intro k
  have H : B16 f := by rw [hf]; exact fB_rng _ _ _ _ _
  induction k with
  | zero =>
    intro n e z8 z9
    have : n = 15 := by omega
    subst this
    have g := gre_rng H 15 (by omega)
    have l := lea_rng H 15 (by omega)
    rw [e_X12_packed_11, if_pos (by omega)]
    exact p_pk82 I ht hl x0 x1 y0 y1 g.1 g.2 l.1 l.2 hf 16 0 rfl
  | succ k ih =>
    intro n e z8 z9
    have ih' := ih (n + 1) (by omega) (0, f ((n : Int) + 1)) (9, 0)
    have w := p_heldT I ht hl x0 x1 y0 y1 (j := (n : Int) + 1) (by omega) (by omega)
    rw [← hf] at w
    rw [show gre f (n + 1) = max (gre f n) (f ((n : Int) + 1)) from rfl, show lea f (n + 1) = min (lea f n) (f ((n : Int) + 1)) from rfl] at ih'
    generalize gre f n = w1 at *
    generalize lea f n = w2 at *
    generalize pck f = w3 at *
    rw [e_X12_packed_11, if_neg (by omega), if_pos g88, w]
    simp only [Option.bind_some, vx_some]
    rw [p_greater]
    simp only [Option.bind_some, vx_some]
    rw [p_lesser]
    simp only [Option.bind_some, vx_some]
    rw [w32_i (x := (n : Int) + 1 + 1) (by omega) (by omega)]
    exact ih'
theorem p_packed {i : Int} (I : INV i h) (ht : isT h.2 t) (hl : (l : Int) < tex h.2 t 4) (x0 : 0 ≤ x) (x1 : x ≤ 3) (y0 : 0 ≤ y) (y1 : y ≤ 3) {f : Int → Int} (hf : f = fB h.2 t l x y) : vm 283 [(2, 88), (0, t), (0, (l : Int)), (0, x), (0, y)] h = some (some (1, pck f), h) := by
  have H : B16 f := by rw [hf]; exact fB_rng _ _ _ _ _
  have h0 := H 0 (by omega) (by omega)
  have w := p_heldT I ht hl x0 x1 y0 y1 (j := 0) (by omega) (by omega)
  rw [← hf] at w
  have l := p_pk11 I ht hl x0 x1 y0 y1 hf 15 0 rfl (0, f 0) (9, 0)
  rw [show gre f 0 = f 0 from rfl, show lea f 0 = f 0 from rfl] at l
  rw [e_X12_packed, e_X12_packed_11, if_neg (by omega), if_pos g88, w]
  simp only [Option.bind_some, vx_some]
  rw [p_greater]
  simp only [Option.bind_some, vx_some]
  rw [p_lesser]
  simp only [Option.bind_some, vx_some]
  rw [show max 0 (f 0) = f 0 by omega, show min 65535 (f 0) = f 0 by omega]
  exact l
theorem p_off31 {i : Int} (I : INV i h) (ht : isT h.2 t) (hl : (l : Int) < tex h.2 t 4) (x0 : 0 ≤ x) (x1 : x ≤ 3) (y0 : 0 ≤ y) (y1 : y ≤ 3) {f : Int → Int} (hf : f = fB h.2 t l x y) {b : Int} : ∀ k n : Nat, n + k = 16 → vp 286 31 [(2, 88), (0, t), (0, (l : Int)), (0, x), (0, y), (1, b), (9, 0), (0, ofs f (unp b) n), (0, (n : Int))] [] h = some (some (0, ofs f (unp b) 16), h) := by
  intro k
  have H : B16 f := by rw [hf]; exact fB_rng _ _ _ _ _
  induction k with
  | zero =>
    intro n e
    have : n = 16 := by omega
    subst this
    rw [e_X12_off_31, if_pos (by omega)]
  | succ k ih =>
    intro n e
    have ih' := ih (n + 1) (by omega)
    have hn := H n (by omega) (by omega)
    have un := unp_rng b n
    have on := ofs_rng H (g := unp b) (fun k _ _ => unp_rng b k) n (by omega)
    have w := p_heldT I ht hl x0 x1 y0 y1 (j := (n : Int)) (by omega) (by omega)
    rw [← hf] at w
    have eu : vm 280 [(2, 88), (1, b), (0, (n : Int).tmod 4), (0, w32 ((n : Int).tdiv 4))] h = some (some (0, unp b n), h) := by
      rw [Int.tmod_eq_emod_of_nonneg (by omega), Int.tdiv_eq_ediv_of_nonneg (by omega), w32_i (x := (n : Int) / 4) (by omega) (by omega), p_unp h (by omega) (by omega) (by omega) (by omega), show 4 * ((n : Int) / 4) + (n : Int) % 4 = n by omega]
    rw [show ofs f (unp b) (n + 1) = ofs f (unp b) n + ((f n - unp b n).natAbs : Int) from rfl] at ih'
    generalize ofs f (unp b) n = w1 at *
    generalize ofs f (unp b) 16 = w2 at *
    rw [e_X12_off_31, if_neg (by omega), if_pos g88, w]
    simp only [Option.bind_some, vx_some]
    rw [if_pos g88, eu]
    simp only [Option.bind_some, vx_some]
    rw [w32_i (x := f n - unp b n) (by omega) (by omega), p_plus _ _ (by omega) (by omega)]
    simp only [Option.bind_some, vx_some]
    rw [w32_i (x := (n : Int) + 1) (by omega) (by omega), w32_i (by omega) (by omega)]
    exact ih'
end
theorem p_isBlock {h : Hq} (F : FXM h.2) (X : TXM h.2) (t l x y : Int) : vm 284 [(2, 88), (0, t), (0, l), (0, x), (0, y)] h = some (some (0, if ((0 ≤ t ∧ t < h.2 90 4) ∧ 0 ≤ l ∧ l < tex h.2 t 4) ∧ (0 ≤ x ∧ x ≤ 3) ∧ 0 ≤ y ∧ y ≤ 3 then 1 else 0), h) := by
  rw [e_X12_isBlock, if_pos g88, p_isL F X]
  simp only [Option.bind_some, vx_some]
  by_cases q : (0 ≤ t ∧ t < h.2 90 4) ∧ 0 ≤ l ∧ l < tex h.2 t 4
  · rw [if_pos q, if_neg (by omega), p_isIn]
    simp only [Option.bind_some, vx_some]
    by_cases q1 : 0 ≤ x ∧ x ≤ 3
    · rw [if_pos q1, if_neg (by omega), p_isIn]
      simp only [Option.bind_some, vx_some]
      by_cases q2 : 0 ≤ y ∧ y ≤ 3
      · rw [if_pos q2, if_neg (by omega), if_pos ⟨q, q1, q2⟩]
      · rw [if_neg q2, if_pos rfl, if_neg (fun w => q2 w.2.2)]
    · rw [if_neg q1, if_pos rfl, if_neg (fun w => q1 w.2.1)]
  · rw [if_neg q, if_pos rfl, if_neg (fun w => q w.1)]
theorem c_inFour (x y : Int) (h : Hq) : vm 144 [(0, x), (0, y)] h = some (some (0, if (0 ≤ x ∧ x ≤ 3) ∧ 0 ≤ y ∧ y ≤ 3 then 1 else 0), h) := by
  rw [e_X11_isInFour]
  by_cases z1 : x < 0
  · rw [if_pos z1, if_neg (by omega)]
  · by_cases z2 : x > 3
    · rw [if_neg z1, if_pos z2, if_neg (by omega)]
    · by_cases z3 : y < 0
      · rw [if_neg z1, if_neg z2, if_pos z3, if_neg (by omega)]
      · by_cases z4 : y > 3
        · rw [if_neg z1, if_neg z2, if_neg z3, if_pos z4, if_neg (by omega)]
        · rw [if_neg z1, if_neg z2, if_neg z3, if_neg z4, if_pos (by omega)]
section
variable {i : Int} {h : Hq} {t l x y : Int}
theorem k_pack (I : INV i h) (hi : i < 600) : OKC i 146 285 [(0, t), (0, l), (0, x), (0, y)] h := by
  obtain ⟨n, m⟩ := h
  have F := I.fx
  obtain ⟨p0, pr, p3, p4, pt⟩ := I.pl.fx F
  have BB := I.sh.2.2.2.2.1
  have hl1 := c_hasLevelT (h := (n, m)) F I.pl I.tx BB t l
  dsimp only at *
  by_cases q : (0 ≤ t ∧ t < m 90 4) ∧ 0 ≤ l ∧ l < tex m t 4
  · by_cases q2 : (0 ≤ x ∧ x ≤ 3) ∧ 0 ≤ y ∧ y ≤ 3
    · have T := isT.r I.tx q.1
      have et := pt t T.1 T.2
      obtain ⟨k, rfl⟩ : ∃ k : Nat, l = k := ⟨l.toNat, by omega⟩
      have ht : isT m t := q.1
      obtain ⟨m', r1, r2⟩ := c_read I ht q.2.2 q2.1.1 q2.1.2 q2.2.1 q2.2.2
      have I2 : INV i (n, m') := I.scr (fun c k q => r2.1 c k (by omega))
      have ef := fB_eq r2.1 t k x y
      have H := fB_rng m t k x y
      have pk := c_packed (h := (n, m')) I2.fx r2.2 H
      have e1 : ∀ c : Int, c ≠ 87 → m' c = m c := fun c hc => funext fun k => r2.1 c k hc
      have ht2 : isT m' t := by unfold isT at ht ⊢; rw [e1 90 (by omega)]; exact ht
      have et2 : tex m' t 4 = tex m t 4 := by unfold tex; rw [e1 95 (by omega)]
      have e90 : m' 90 4 = m 90 4 := r2.1 90 4 (by omega)
      have mp := p_packed (h := (n, m')) I2 ht2 (l := k) (by rw [show ((n, m') : Hq).2 = m' from rfl, et2]; exact q.2.2) q2.1.1 q2.1.2 q2.2.1 q2.2.2 (f := fB m t k x y) ef.symm
      have f11 : m' 1 11 = 86 := I2.fx.c1_11
      refine ⟨(1, pck (fB m t k x y)), (n, m'), (n, m'), ?_, ?_, e1 (-1) (by omega), e1 (-1) (by omega), I2.up hi⟩
      · clear mp
        rw [e_X11_pack]
        repeat first
          | (refine Eq.trans (if_pos ?_) ?_; · first | omega | (simp (disch := omega) only [hl1, if_pos q, c_inFour, if_pos q2, p0, p3, p4, et, F.c1_0, F.c1_2, F.c1_5, F.c1_6, F.c1_7, F.c1_8, F.c1_9, F.c1_10, F.c1_11, F.c3_0, F.c4_0, F.c6_0, F.c6_1, F.c6_2, F.c6_3, F.c6_4, F.c74_0, F.c74_1, F.c77_0, F.c77_1, F.c80_0, F.c80_1, F.c83_0, F.c86_0, r1, f11, pk, Int.reduceLT, Int.reduceLE, Int.reduceEq, Int.reduceNe, Int.reduceNeg, Int.reduceAdd, Int.reduceSub, Int.reduceMul, Int.reduceGE, Int.reduceGT, Nat.reduceEqDiff, Nat.reduceAdd, and_true, true_and, and_self, not_true_eq_false, not_false_eq_true, ne_eq, and_false, false_and, or_false, or_true, false_or, true_or, vx_some, eq_self, ↓reduceIte, ite_t1, ite_t2, ite_t3, le_T, le_F, lt_T, lt_F, ge_T, ge_F, gt_T, gt_F, eq_T, eq_F, w32_i, kd_1, kd_2, kd_3, kd_4, kd_5, kd_6, kd_7, kd_14, kd_15, kd_16, kd_29, kd_34, kd_56, kd_74, kd_75, kd_76, kd_77, kd_78, kd_79, kd_80, kd_81, kd_82, kd_83, kd_84, kd_85, kd_86, kd_87, kd_88, kd_89, kd_90, kd_91, kd_92, kd_93, kd_94, kd_95, kd_96, kd_97, kd_98, kd_99, kd_100, kd_101, kd_102, kd_103, kd_104, kd_105, kd_106, kd_107, kd_108]; done))
          | (refine Eq.trans (if_neg ?_) ?_; · first | omega | (simp (disch := omega) only [hl1, if_pos q, c_inFour, if_pos q2, p0, p3, p4, et, F.c1_0, F.c1_2, F.c1_5, F.c1_6, F.c1_7, F.c1_8, F.c1_9, F.c1_10, F.c1_11, F.c3_0, F.c4_0, F.c6_0, F.c6_1, F.c6_2, F.c6_3, F.c6_4, F.c74_0, F.c74_1, F.c77_0, F.c77_1, F.c80_0, F.c80_1, F.c83_0, F.c86_0, r1, f11, pk, Int.reduceLT, Int.reduceLE, Int.reduceEq, Int.reduceNe, Int.reduceNeg, Int.reduceAdd, Int.reduceSub, Int.reduceMul, Int.reduceGE, Int.reduceGT, Nat.reduceEqDiff, Nat.reduceAdd, and_true, true_and, and_self, not_true_eq_false, not_false_eq_true, ne_eq, and_false, false_and, or_false, or_true, false_or, true_or, vx_some, eq_self, ↓reduceIte, ite_t1, ite_t2, ite_t3, le_T, le_F, lt_T, lt_F, ge_T, ge_F, gt_T, gt_F, eq_T, eq_F, w32_i, kd_1, kd_2, kd_3, kd_4, kd_5, kd_6, kd_7, kd_14, kd_15, kd_16, kd_29, kd_34, kd_56, kd_74, kd_75, kd_76, kd_77, kd_78, kd_79, kd_80, kd_81, kd_82, kd_83, kd_84, kd_85, kd_86, kd_87, kd_88, kd_89, kd_90, kd_91, kd_92, kd_93, kd_94, kd_95, kd_96, kd_97, kd_98, kd_99, kd_100, kd_101, kd_102, kd_103, kd_104, kd_105, kd_106, kd_107, kd_108]; done))
          | (refine Eq.trans (bnd (r := ?_) ?_) ?_; rotate_left 1; (focus (simp (disch := omega) only [hl1, if_pos q, c_inFour, if_pos q2, p0, p3, p4, et, F.c1_0, F.c1_2, F.c1_5, F.c1_6, F.c1_7, F.c1_8, F.c1_9, F.c1_10, F.c1_11, F.c3_0, F.c4_0, F.c6_0, F.c6_1, F.c6_2, F.c6_3, F.c6_4, F.c74_0, F.c74_1, F.c77_0, F.c77_1, F.c80_0, F.c80_1, F.c83_0, F.c86_0, r1, f11, pk, Int.reduceLT, Int.reduceLE, Int.reduceEq, Int.reduceNe, Int.reduceNeg, Int.reduceAdd, Int.reduceSub, Int.reduceMul, Int.reduceGE, Int.reduceGT, Nat.reduceEqDiff, Nat.reduceAdd, and_true, true_and, and_self, not_true_eq_false, not_false_eq_true, ne_eq, and_false, false_and, or_false, or_true, false_or, true_or, vx_some, eq_self, ↓reduceIte, ite_t1, ite_t2, ite_t3, le_T, le_F, lt_T, lt_F, ge_T, ge_F, gt_T, gt_F, eq_T, eq_F, w32_i, kd_1, kd_2, kd_3, kd_4, kd_5, kd_6, kd_7, kd_14, kd_15, kd_16, kd_29, kd_34, kd_56, kd_74, kd_75, kd_76, kd_77, kd_78, kd_79, kd_80, kd_81, kd_82, kd_83, kd_84, kd_85, kd_86, kd_87, kd_88, kd_89, kd_90, kd_91, kd_92, kd_93, kd_94, kd_95, kd_96, kd_97, kd_98, kd_99, kd_100, kd_101, kd_102, kd_103, kd_104, kd_105, kd_106, kd_107, kd_108]; exact rfl)); simp only [vx_some])
        all_goals first | rfl | (simp (disch := omega) only [Int.reduceLT, Int.reduceLE, Int.reduceEq, Int.reduceNe, Int.reduceNeg, Int.reduceAdd, Int.reduceSub, Int.reduceMul, Int.reduceGE, Int.reduceGT, Nat.reduceEqDiff, Nat.reduceAdd, and_true, true_and, and_self, not_true_eq_false, not_false_eq_true, ne_eq, and_false, false_and, or_false, or_true, false_or, true_or, vx_some, eq_self, ↓reduceIte, ite_t1, ite_t2, ite_t3, le_T, le_F, lt_T, lt_F, ge_T, ge_F, gt_T, gt_F, eq_T, eq_F, w32_i]; done)
      · clear pk
        have bl := p_isBlock (h := (n, m')) I2.fx.m I2.tx t k x y
        rw [if_pos (show ((0 ≤ t ∧ t < m' 90 4) ∧ 0 ≤ (k : Int) ∧ (k : Int) < tex m' t 4) ∧ (0 ≤ x ∧ x ≤ 3) ∧ 0 ≤ y ∧ y ≤ 3 by rw [e90, et2]; exact ⟨q, q2⟩)] at bl
        rw [e_X12_pack, if_pos g88, bl]
        simp only [Option.bind_some, vx_some]
        rw [if_neg (by omega), if_pos g88, mp]
        rfl
    · refine OKC.ro I hi (1, 0) ?_ ?_
      · rw [e_X11_pack]
        repeat first
          | (refine Eq.trans (if_pos ?_) ?_; · first | omega | (simp (disch := omega) only [hl1, if_pos q, c_inFour, if_neg q2, Int.reduceLT, Int.reduceLE, Int.reduceEq, Int.reduceNe, Int.reduceNeg, Int.reduceAdd, Int.reduceSub, Int.reduceMul, Int.reduceGE, Int.reduceGT, Nat.reduceEqDiff, Nat.reduceAdd, and_true, true_and, and_self, not_true_eq_false, not_false_eq_true, ne_eq, and_false, false_and, or_false, or_true, false_or, true_or, vx_some, eq_self, ↓reduceIte, ite_t1, ite_t2, ite_t3, le_T, le_F, lt_T, lt_F, ge_T, ge_F, gt_T, gt_F, eq_T, eq_F, w32_i, kd_1, kd_2, kd_3, kd_4, kd_5, kd_6, kd_7, kd_14, kd_15, kd_16, kd_29, kd_34, kd_56, kd_74, kd_75, kd_76, kd_77, kd_78, kd_79, kd_80, kd_81, kd_82, kd_83, kd_84, kd_85, kd_86, kd_87, kd_88, kd_89, kd_90, kd_91, kd_92, kd_93, kd_94, kd_95, kd_96, kd_97, kd_98, kd_99, kd_100, kd_101, kd_102, kd_103, kd_104, kd_105, kd_106, kd_107, kd_108]; done))
          | (refine Eq.trans (if_neg ?_) ?_; · first | omega | (simp (disch := omega) only [hl1, if_pos q, c_inFour, if_neg q2, Int.reduceLT, Int.reduceLE, Int.reduceEq, Int.reduceNe, Int.reduceNeg, Int.reduceAdd, Int.reduceSub, Int.reduceMul, Int.reduceGE, Int.reduceGT, Nat.reduceEqDiff, Nat.reduceAdd, and_true, true_and, and_self, not_true_eq_false, not_false_eq_true, ne_eq, and_false, false_and, or_false, or_true, false_or, true_or, vx_some, eq_self, ↓reduceIte, ite_t1, ite_t2, ite_t3, le_T, le_F, lt_T, lt_F, ge_T, ge_F, gt_T, gt_F, eq_T, eq_F, w32_i, kd_1, kd_2, kd_3, kd_4, kd_5, kd_6, kd_7, kd_14, kd_15, kd_16, kd_29, kd_34, kd_56, kd_74, kd_75, kd_76, kd_77, kd_78, kd_79, kd_80, kd_81, kd_82, kd_83, kd_84, kd_85, kd_86, kd_87, kd_88, kd_89, kd_90, kd_91, kd_92, kd_93, kd_94, kd_95, kd_96, kd_97, kd_98, kd_99, kd_100, kd_101, kd_102, kd_103, kd_104, kd_105, kd_106, kd_107, kd_108]; done))
          | (refine Eq.trans (bnd (r := ?_) ?_) ?_; rotate_left 1; (focus (simp (disch := omega) only [hl1, if_pos q, c_inFour, if_neg q2, Int.reduceLT, Int.reduceLE, Int.reduceEq, Int.reduceNe, Int.reduceNeg, Int.reduceAdd, Int.reduceSub, Int.reduceMul, Int.reduceGE, Int.reduceGT, Nat.reduceEqDiff, Nat.reduceAdd, and_true, true_and, and_self, not_true_eq_false, not_false_eq_true, ne_eq, and_false, false_and, or_false, or_true, false_or, true_or, vx_some, eq_self, ↓reduceIte, ite_t1, ite_t2, ite_t3, le_T, le_F, lt_T, lt_F, ge_T, ge_F, gt_T, gt_F, eq_T, eq_F, w32_i, kd_1, kd_2, kd_3, kd_4, kd_5, kd_6, kd_7, kd_14, kd_15, kd_16, kd_29, kd_34, kd_56, kd_74, kd_75, kd_76, kd_77, kd_78, kd_79, kd_80, kd_81, kd_82, kd_83, kd_84, kd_85, kd_86, kd_87, kd_88, kd_89, kd_90, kd_91, kd_92, kd_93, kd_94, kd_95, kd_96, kd_97, kd_98, kd_99, kd_100, kd_101, kd_102, kd_103, kd_104, kd_105, kd_106, kd_107, kd_108]; exact rfl)); simp only [vx_some])
        all_goals first | rfl | (simp (disch := omega) only [Int.reduceLT, Int.reduceLE, Int.reduceEq, Int.reduceNe, Int.reduceNeg, Int.reduceAdd, Int.reduceSub, Int.reduceMul, Int.reduceGE, Int.reduceGT, Nat.reduceEqDiff, Nat.reduceAdd, and_true, true_and, and_self, not_true_eq_false, not_false_eq_true, ne_eq, and_false, false_and, or_false, or_true, false_or, true_or, vx_some, eq_self, ↓reduceIte, ite_t1, ite_t2, ite_t3, le_T, le_F, lt_T, lt_F, ge_T, ge_F, gt_T, gt_F, eq_T, eq_F, w32_i]; done)
      · rw [e_X12_pack, if_pos g88, p_isBlock F.m I.tx, if_neg (fun w => q2 w.2)]
        simp only [Option.bind_some, vx_some]
        rw [if_pos trivial]
  · refine OKC.ro I hi (1, 0) ?_ ?_
    · rw [e_X11_pack]
      repeat first
        | (refine Eq.trans (if_pos ?_) ?_; · first | omega | (simp (disch := omega) only [hl1, if_neg q, Int.reduceLT, Int.reduceLE, Int.reduceEq, Int.reduceNe, Int.reduceNeg, Int.reduceAdd, Int.reduceSub, Int.reduceMul, Int.reduceGE, Int.reduceGT, Nat.reduceEqDiff, Nat.reduceAdd, and_true, true_and, and_self, not_true_eq_false, not_false_eq_true, ne_eq, and_false, false_and, or_false, or_true, false_or, true_or, vx_some, eq_self, ↓reduceIte, ite_t1, ite_t2, ite_t3, le_T, le_F, lt_T, lt_F, ge_T, ge_F, gt_T, gt_F, eq_T, eq_F, w32_i, kd_1, kd_2, kd_3, kd_4, kd_5, kd_6, kd_7, kd_14, kd_15, kd_16, kd_29, kd_34, kd_56, kd_74, kd_75, kd_76, kd_77, kd_78, kd_79, kd_80, kd_81, kd_82, kd_83, kd_84, kd_85, kd_86, kd_87, kd_88, kd_89, kd_90, kd_91, kd_92, kd_93, kd_94, kd_95, kd_96, kd_97, kd_98, kd_99, kd_100, kd_101, kd_102, kd_103, kd_104, kd_105, kd_106, kd_107, kd_108]; done))
        | (refine Eq.trans (if_neg ?_) ?_; · first | omega | (simp (disch := omega) only [hl1, if_neg q, Int.reduceLT, Int.reduceLE, Int.reduceEq, Int.reduceNe, Int.reduceNeg, Int.reduceAdd, Int.reduceSub, Int.reduceMul, Int.reduceGE, Int.reduceGT, Nat.reduceEqDiff, Nat.reduceAdd, and_true, true_and, and_self, not_true_eq_false, not_false_eq_true, ne_eq, and_false, false_and, or_false, or_true, false_or, true_or, vx_some, eq_self, ↓reduceIte, ite_t1, ite_t2, ite_t3, le_T, le_F, lt_T, lt_F, ge_T, ge_F, gt_T, gt_F, eq_T, eq_F, w32_i, kd_1, kd_2, kd_3, kd_4, kd_5, kd_6, kd_7, kd_14, kd_15, kd_16, kd_29, kd_34, kd_56, kd_74, kd_75, kd_76, kd_77, kd_78, kd_79, kd_80, kd_81, kd_82, kd_83, kd_84, kd_85, kd_86, kd_87, kd_88, kd_89, kd_90, kd_91, kd_92, kd_93, kd_94, kd_95, kd_96, kd_97, kd_98, kd_99, kd_100, kd_101, kd_102, kd_103, kd_104, kd_105, kd_106, kd_107, kd_108]; done))
        | (refine Eq.trans (bnd (r := ?_) ?_) ?_; rotate_left 1; (focus (simp (disch := omega) only [hl1, if_neg q, Int.reduceLT, Int.reduceLE, Int.reduceEq, Int.reduceNe, Int.reduceNeg, Int.reduceAdd, Int.reduceSub, Int.reduceMul, Int.reduceGE, Int.reduceGT, Nat.reduceEqDiff, Nat.reduceAdd, and_true, true_and, and_self, not_true_eq_false, not_false_eq_true, ne_eq, and_false, false_and, or_false, or_true, false_or, true_or, vx_some, eq_self, ↓reduceIte, ite_t1, ite_t2, ite_t3, le_T, le_F, lt_T, lt_F, ge_T, ge_F, gt_T, gt_F, eq_T, eq_F, w32_i, kd_1, kd_2, kd_3, kd_4, kd_5, kd_6, kd_7, kd_14, kd_15, kd_16, kd_29, kd_34, kd_56, kd_74, kd_75, kd_76, kd_77, kd_78, kd_79, kd_80, kd_81, kd_82, kd_83, kd_84, kd_85, kd_86, kd_87, kd_88, kd_89, kd_90, kd_91, kd_92, kd_93, kd_94, kd_95, kd_96, kd_97, kd_98, kd_99, kd_100, kd_101, kd_102, kd_103, kd_104, kd_105, kd_106, kd_107, kd_108]; exact rfl)); simp only [vx_some])
      all_goals first | rfl | (simp (disch := omega) only [Int.reduceLT, Int.reduceLE, Int.reduceEq, Int.reduceNe, Int.reduceNeg, Int.reduceAdd, Int.reduceSub, Int.reduceMul, Int.reduceGE, Int.reduceGT, Nat.reduceEqDiff, Nat.reduceAdd, and_true, true_and, and_self, not_true_eq_false, not_false_eq_true, ne_eq, and_false, false_and, or_false, or_true, false_or, true_or, vx_some, eq_self, ↓reduceIte, ite_t1, ite_t2, ite_t3, le_T, le_F, lt_T, lt_F, ge_T, ge_F, gt_T, gt_F, eq_T, eq_F, w32_i]; done)
    · rw [e_X12_pack, if_pos g88, p_isBlock F.m I.tx, if_neg (fun w => q w.1)]
      simp only [Option.bind_some, vx_some]
      rw [if_pos trivial]
theorem k_off (I : INV i h) (hi : i < 600) : OKC i 147 286 [(0, t), (0, l), (0, x), (0, y)] h := by
  obtain ⟨n, m⟩ := h
  have F := I.fx
  obtain ⟨p0, pr, p3, p4, pt⟩ := I.pl.fx F
  have BB := I.sh.2.2.2.2.1
  have hl1 := c_hasLevelT (h := (n, m)) F I.pl I.tx BB t l
  dsimp only at *
  by_cases q : (0 ≤ t ∧ t < m 90 4) ∧ 0 ≤ l ∧ l < tex m t 4
  · by_cases q2 : (0 ≤ x ∧ x ≤ 3) ∧ 0 ≤ y ∧ y ≤ 3
    · have T := isT.r I.tx q.1
      have et := pt t T.1 T.2
      obtain ⟨k, rfl⟩ : ∃ k : Nat, l = k := ⟨l.toNat, by omega⟩
      have ht : isT m t := q.1
      obtain ⟨m', r1, r2⟩ := c_read I ht q.2.2 q2.1.1 q2.1.2 q2.2.1 q2.2.2
      have I2 : INV i (n, m') := I.scr (fun c k q => r2.1 c k (by omega))
      have ef := fB_eq r2.1 t k x y
      have H := fB_rng m t k x y
      have pk := c_packed (h := (n, m')) I2.fx r2.2 H
      have di := c_dist (h := (n, m')) I2.fx r2.2 H (pck (fB m t k x y))
      have e1 : ∀ c : Int, c ≠ 87 → m' c = m c := fun c hc => funext fun k => r2.1 c k hc
      have ht2 : isT m' t := by unfold isT at ht ⊢; rw [e1 90 (by omega)]; exact ht
      have et2 : tex m' t 4 = tex m t 4 := by unfold tex; rw [e1 95 (by omega)]
      have e90 : m' 90 4 = m 90 4 := r2.1 90 4 (by omega)
      have hl2 : (k : Int) < tex m' t 4 := by rw [et2]; exact q.2.2
      have mp := p_packed (h := (n, m')) I2 ht2 hl2 q2.1.1 q2.1.2 q2.2.1 q2.2.2 (f := fB m t k x y) ef.symm
      have md := p_off31 (h := (n, m')) I2 ht2 hl2 q2.1.1 q2.1.2 q2.2.1 q2.2.2 (f := fB m t k x y) ef.symm (b := pck (fB m t k x y)) 16 0 rfl
      have f11 : m' 1 11 = 86 := I2.fx.c1_11
      refine ⟨(0, ofs (fB m t k x y) (unp (pck (fB m t k x y))) 16), (n, m'), (n, m'), ?_, ?_, e1 (-1) (by omega), e1 (-1) (by omega), I2.up hi⟩
      · clear mp md
        rw [e_X11_off]
        generalize pck (fB m t k x y) = w at *
        repeat first
          | (refine Eq.trans (if_pos ?_) ?_; · first | omega | (simp (disch := omega) only [hl1, if_pos q, c_inFour, if_pos q2, p0, p3, p4, et, F.c1_0, F.c1_2, F.c1_5, F.c1_6, F.c1_7, F.c1_8, F.c1_9, F.c1_10, F.c1_11, F.c3_0, F.c4_0, F.c6_0, F.c6_1, F.c6_2, F.c6_3, F.c6_4, F.c74_0, F.c74_1, F.c77_0, F.c77_1, F.c80_0, F.c80_1, F.c83_0, F.c86_0, r1, f11, pk, di, Int.reduceLT, Int.reduceLE, Int.reduceEq, Int.reduceNe, Int.reduceNeg, Int.reduceAdd, Int.reduceSub, Int.reduceMul, Int.reduceGE, Int.reduceGT, Nat.reduceEqDiff, Nat.reduceAdd, and_true, true_and, and_self, not_true_eq_false, not_false_eq_true, ne_eq, and_false, false_and, or_false, or_true, false_or, true_or, vx_some, eq_self, ↓reduceIte, ite_t1, ite_t2, ite_t3, le_T, le_F, lt_T, lt_F, ge_T, ge_F, gt_T, gt_F, eq_T, eq_F, w32_i, kd_1, kd_2, kd_3, kd_4, kd_5, kd_6, kd_7, kd_14, kd_15, kd_16, kd_29, kd_34, kd_56, kd_74, kd_75, kd_76, kd_77, kd_78, kd_79, kd_80, kd_81, kd_82, kd_83, kd_84, kd_85, kd_86, kd_87, kd_88, kd_89, kd_90, kd_91, kd_92, kd_93, kd_94, kd_95, kd_96, kd_97, kd_98, kd_99, kd_100, kd_101, kd_102, kd_103, kd_104, kd_105, kd_106, kd_107, kd_108]; done))
          | (refine Eq.trans (if_neg ?_) ?_; · first | omega | (simp (disch := omega) only [hl1, if_pos q, c_inFour, if_pos q2, p0, p3, p4, et, F.c1_0, F.c1_2, F.c1_5, F.c1_6, F.c1_7, F.c1_8, F.c1_9, F.c1_10, F.c1_11, F.c3_0, F.c4_0, F.c6_0, F.c6_1, F.c6_2, F.c6_3, F.c6_4, F.c74_0, F.c74_1, F.c77_0, F.c77_1, F.c80_0, F.c80_1, F.c83_0, F.c86_0, r1, f11, pk, di, Int.reduceLT, Int.reduceLE, Int.reduceEq, Int.reduceNe, Int.reduceNeg, Int.reduceAdd, Int.reduceSub, Int.reduceMul, Int.reduceGE, Int.reduceGT, Nat.reduceEqDiff, Nat.reduceAdd, and_true, true_and, and_self, not_true_eq_false, not_false_eq_true, ne_eq, and_false, false_and, or_false, or_true, false_or, true_or, vx_some, eq_self, ↓reduceIte, ite_t1, ite_t2, ite_t3, le_T, le_F, lt_T, lt_F, ge_T, ge_F, gt_T, gt_F, eq_T, eq_F, w32_i, kd_1, kd_2, kd_3, kd_4, kd_5, kd_6, kd_7, kd_14, kd_15, kd_16, kd_29, kd_34, kd_56, kd_74, kd_75, kd_76, kd_77, kd_78, kd_79, kd_80, kd_81, kd_82, kd_83, kd_84, kd_85, kd_86, kd_87, kd_88, kd_89, kd_90, kd_91, kd_92, kd_93, kd_94, kd_95, kd_96, kd_97, kd_98, kd_99, kd_100, kd_101, kd_102, kd_103, kd_104, kd_105, kd_106, kd_107, kd_108]; done))
          | (refine Eq.trans (bnd (r := ?_) ?_) ?_; rotate_left 1; (focus (simp (disch := omega) only [hl1, if_pos q, c_inFour, if_pos q2, p0, p3, p4, et, F.c1_0, F.c1_2, F.c1_5, F.c1_6, F.c1_7, F.c1_8, F.c1_9, F.c1_10, F.c1_11, F.c3_0, F.c4_0, F.c6_0, F.c6_1, F.c6_2, F.c6_3, F.c6_4, F.c74_0, F.c74_1, F.c77_0, F.c77_1, F.c80_0, F.c80_1, F.c83_0, F.c86_0, r1, f11, pk, di, Int.reduceLT, Int.reduceLE, Int.reduceEq, Int.reduceNe, Int.reduceNeg, Int.reduceAdd, Int.reduceSub, Int.reduceMul, Int.reduceGE, Int.reduceGT, Nat.reduceEqDiff, Nat.reduceAdd, and_true, true_and, and_self, not_true_eq_false, not_false_eq_true, ne_eq, and_false, false_and, or_false, or_true, false_or, true_or, vx_some, eq_self, ↓reduceIte, ite_t1, ite_t2, ite_t3, le_T, le_F, lt_T, lt_F, ge_T, ge_F, gt_T, gt_F, eq_T, eq_F, w32_i, kd_1, kd_2, kd_3, kd_4, kd_5, kd_6, kd_7, kd_14, kd_15, kd_16, kd_29, kd_34, kd_56, kd_74, kd_75, kd_76, kd_77, kd_78, kd_79, kd_80, kd_81, kd_82, kd_83, kd_84, kd_85, kd_86, kd_87, kd_88, kd_89, kd_90, kd_91, kd_92, kd_93, kd_94, kd_95, kd_96, kd_97, kd_98, kd_99, kd_100, kd_101, kd_102, kd_103, kd_104, kd_105, kd_106, kd_107, kd_108]; exact rfl)); simp only [vx_some])
        all_goals first | rfl | (simp (disch := omega) only [Int.reduceLT, Int.reduceLE, Int.reduceEq, Int.reduceNe, Int.reduceNeg, Int.reduceAdd, Int.reduceSub, Int.reduceMul, Int.reduceGE, Int.reduceGT, Nat.reduceEqDiff, Nat.reduceAdd, and_true, true_and, and_self, not_true_eq_false, not_false_eq_true, ne_eq, and_false, false_and, or_false, or_true, false_or, true_or, vx_some, eq_self, ↓reduceIte, ite_t1, ite_t2, ite_t3, le_T, le_F, lt_T, lt_F, ge_T, ge_F, gt_T, gt_F, eq_T, eq_F, w32_i]; done)
      · clear pk di
        have bl := p_isBlock (h := (n, m')) I2.fx.m I2.tx t k x y
        rw [if_pos (show ((0 ≤ t ∧ t < m' 90 4) ∧ 0 ≤ (k : Int) ∧ (k : Int) < tex m' t 4) ∧ (0 ≤ x ∧ x ≤ 3) ∧ 0 ≤ y ∧ y ≤ 3 by rw [e90, et2]; exact ⟨q, q2⟩)] at bl
        rw [e_X12_off, if_pos g88, bl]
        simp only [Option.bind_some, vx_some]
        rw [if_pos (by omega), if_pos g88, mp]
        exact md
    · refine OKC.ro I hi (0, -1) ?_ ?_
      · rw [e_X11_off]
        repeat first
          | (refine Eq.trans (if_pos ?_) ?_; · first | omega | (simp (disch := omega) only [hl1, if_pos q, c_inFour, if_neg q2, Int.reduceLT, Int.reduceLE, Int.reduceEq, Int.reduceNe, Int.reduceNeg, Int.reduceAdd, Int.reduceSub, Int.reduceMul, Int.reduceGE, Int.reduceGT, Nat.reduceEqDiff, Nat.reduceAdd, and_true, true_and, and_self, not_true_eq_false, not_false_eq_true, ne_eq, and_false, false_and, or_false, or_true, false_or, true_or, vx_some, eq_self, ↓reduceIte, ite_t1, ite_t2, ite_t3, le_T, le_F, lt_T, lt_F, ge_T, ge_F, gt_T, gt_F, eq_T, eq_F, w32_i, kd_1, kd_2, kd_3, kd_4, kd_5, kd_6, kd_7, kd_14, kd_15, kd_16, kd_29, kd_34, kd_56, kd_74, kd_75, kd_76, kd_77, kd_78, kd_79, kd_80, kd_81, kd_82, kd_83, kd_84, kd_85, kd_86, kd_87, kd_88, kd_89, kd_90, kd_91, kd_92, kd_93, kd_94, kd_95, kd_96, kd_97, kd_98, kd_99, kd_100, kd_101, kd_102, kd_103, kd_104, kd_105, kd_106, kd_107, kd_108]; done))
          | (refine Eq.trans (if_neg ?_) ?_; · first | omega | (simp (disch := omega) only [hl1, if_pos q, c_inFour, if_neg q2, Int.reduceLT, Int.reduceLE, Int.reduceEq, Int.reduceNe, Int.reduceNeg, Int.reduceAdd, Int.reduceSub, Int.reduceMul, Int.reduceGE, Int.reduceGT, Nat.reduceEqDiff, Nat.reduceAdd, and_true, true_and, and_self, not_true_eq_false, not_false_eq_true, ne_eq, and_false, false_and, or_false, or_true, false_or, true_or, vx_some, eq_self, ↓reduceIte, ite_t1, ite_t2, ite_t3, le_T, le_F, lt_T, lt_F, ge_T, ge_F, gt_T, gt_F, eq_T, eq_F, w32_i, kd_1, kd_2, kd_3, kd_4, kd_5, kd_6, kd_7, kd_14, kd_15, kd_16, kd_29, kd_34, kd_56, kd_74, kd_75, kd_76, kd_77, kd_78, kd_79, kd_80, kd_81, kd_82, kd_83, kd_84, kd_85, kd_86, kd_87, kd_88, kd_89, kd_90, kd_91, kd_92, kd_93, kd_94, kd_95, kd_96, kd_97, kd_98, kd_99, kd_100, kd_101, kd_102, kd_103, kd_104, kd_105, kd_106, kd_107, kd_108]; done))
          | (refine Eq.trans (bnd (r := ?_) ?_) ?_; rotate_left 1; (focus (simp (disch := omega) only [hl1, if_pos q, c_inFour, if_neg q2, Int.reduceLT, Int.reduceLE, Int.reduceEq, Int.reduceNe, Int.reduceNeg, Int.reduceAdd, Int.reduceSub, Int.reduceMul, Int.reduceGE, Int.reduceGT, Nat.reduceEqDiff, Nat.reduceAdd, and_true, true_and, and_self, not_true_eq_false, not_false_eq_true, ne_eq, and_false, false_and, or_false, or_true, false_or, true_or, vx_some, eq_self, ↓reduceIte, ite_t1, ite_t2, ite_t3, le_T, le_F, lt_T, lt_F, ge_T, ge_F, gt_T, gt_F, eq_T, eq_F, w32_i, kd_1, kd_2, kd_3, kd_4, kd_5, kd_6, kd_7, kd_14, kd_15, kd_16, kd_29, kd_34, kd_56, kd_74, kd_75, kd_76, kd_77, kd_78, kd_79, kd_80, kd_81, kd_82, kd_83, kd_84, kd_85, kd_86, kd_87, kd_88, kd_89, kd_90, kd_91, kd_92, kd_93, kd_94, kd_95, kd_96, kd_97, kd_98, kd_99, kd_100, kd_101, kd_102, kd_103, kd_104, kd_105, kd_106, kd_107, kd_108]; exact rfl)); simp only [vx_some])
        all_goals first | rfl | (simp (disch := omega) only [Int.reduceLT, Int.reduceLE, Int.reduceEq, Int.reduceNe, Int.reduceNeg, Int.reduceAdd, Int.reduceSub, Int.reduceMul, Int.reduceGE, Int.reduceGT, Nat.reduceEqDiff, Nat.reduceAdd, and_true, true_and, and_self, not_true_eq_false, not_false_eq_true, ne_eq, and_false, false_and, or_false, or_true, false_or, true_or, vx_some, eq_self, ↓reduceIte, ite_t1, ite_t2, ite_t3, le_T, le_F, lt_T, lt_F, ge_T, ge_F, gt_T, gt_F, eq_T, eq_F, w32_i]; done)
      · rw [e_X12_off, if_pos g88, p_isBlock F.m I.tx, if_neg (fun w => q2 w.2)]
        simp only [Option.bind_some, vx_some]
        rw [if_neg (by omega)]
  · refine OKC.ro I hi (0, -1) ?_ ?_
    · rw [e_X11_off]
      repeat first
        | (refine Eq.trans (if_pos ?_) ?_; · first | omega | (simp (disch := omega) only [hl1, if_neg q, Int.reduceLT, Int.reduceLE, Int.reduceEq, Int.reduceNe, Int.reduceNeg, Int.reduceAdd, Int.reduceSub, Int.reduceMul, Int.reduceGE, Int.reduceGT, Nat.reduceEqDiff, Nat.reduceAdd, and_true, true_and, and_self, not_true_eq_false, not_false_eq_true, ne_eq, and_false, false_and, or_false, or_true, false_or, true_or, vx_some, eq_self, ↓reduceIte, ite_t1, ite_t2, ite_t3, le_T, le_F, lt_T, lt_F, ge_T, ge_F, gt_T, gt_F, eq_T, eq_F, w32_i, kd_1, kd_2, kd_3, kd_4, kd_5, kd_6, kd_7, kd_14, kd_15, kd_16, kd_29, kd_34, kd_56, kd_74, kd_75, kd_76, kd_77, kd_78, kd_79, kd_80, kd_81, kd_82, kd_83, kd_84, kd_85, kd_86, kd_87, kd_88, kd_89, kd_90, kd_91, kd_92, kd_93, kd_94, kd_95, kd_96, kd_97, kd_98, kd_99, kd_100, kd_101, kd_102, kd_103, kd_104, kd_105, kd_106, kd_107, kd_108]; done))
        | (refine Eq.trans (if_neg ?_) ?_; · first | omega | (simp (disch := omega) only [hl1, if_neg q, Int.reduceLT, Int.reduceLE, Int.reduceEq, Int.reduceNe, Int.reduceNeg, Int.reduceAdd, Int.reduceSub, Int.reduceMul, Int.reduceGE, Int.reduceGT, Nat.reduceEqDiff, Nat.reduceAdd, and_true, true_and, and_self, not_true_eq_false, not_false_eq_true, ne_eq, and_false, false_and, or_false, or_true, false_or, true_or, vx_some, eq_self, ↓reduceIte, ite_t1, ite_t2, ite_t3, le_T, le_F, lt_T, lt_F, ge_T, ge_F, gt_T, gt_F, eq_T, eq_F, w32_i, kd_1, kd_2, kd_3, kd_4, kd_5, kd_6, kd_7, kd_14, kd_15, kd_16, kd_29, kd_34, kd_56, kd_74, kd_75, kd_76, kd_77, kd_78, kd_79, kd_80, kd_81, kd_82, kd_83, kd_84, kd_85, kd_86, kd_87, kd_88, kd_89, kd_90, kd_91, kd_92, kd_93, kd_94, kd_95, kd_96, kd_97, kd_98, kd_99, kd_100, kd_101, kd_102, kd_103, kd_104, kd_105, kd_106, kd_107, kd_108]; done))
        | (refine Eq.trans (bnd (r := ?_) ?_) ?_; rotate_left 1; (focus (simp (disch := omega) only [hl1, if_neg q, Int.reduceLT, Int.reduceLE, Int.reduceEq, Int.reduceNe, Int.reduceNeg, Int.reduceAdd, Int.reduceSub, Int.reduceMul, Int.reduceGE, Int.reduceGT, Nat.reduceEqDiff, Nat.reduceAdd, and_true, true_and, and_self, not_true_eq_false, not_false_eq_true, ne_eq, and_false, false_and, or_false, or_true, false_or, true_or, vx_some, eq_self, ↓reduceIte, ite_t1, ite_t2, ite_t3, le_T, le_F, lt_T, lt_F, ge_T, ge_F, gt_T, gt_F, eq_T, eq_F, w32_i, kd_1, kd_2, kd_3, kd_4, kd_5, kd_6, kd_7, kd_14, kd_15, kd_16, kd_29, kd_34, kd_56, kd_74, kd_75, kd_76, kd_77, kd_78, kd_79, kd_80, kd_81, kd_82, kd_83, kd_84, kd_85, kd_86, kd_87, kd_88, kd_89, kd_90, kd_91, kd_92, kd_93, kd_94, kd_95, kd_96, kd_97, kd_98, kd_99, kd_100, kd_101, kd_102, kd_103, kd_104, kd_105, kd_106, kd_107, kd_108]; exact rfl)); simp only [vx_some])
      all_goals first | rfl | (simp (disch := omega) only [Int.reduceLT, Int.reduceLE, Int.reduceEq, Int.reduceNe, Int.reduceNeg, Int.reduceAdd, Int.reduceSub, Int.reduceMul, Int.reduceGE, Int.reduceGT, Nat.reduceEqDiff, Nat.reduceAdd, and_true, true_and, and_self, not_true_eq_false, not_false_eq_true, ne_eq, and_false, false_and, or_false, or_true, false_or, true_or, vx_some, eq_self, ↓reduceIte, ite_t1, ite_t2, ite_t3, le_T, le_F, lt_T, lt_F, ge_T, ge_F, gt_T, gt_F, eq_T, eq_F, w32_i]; done)
    · rw [e_X12_off, if_pos g88, p_isBlock F.m I.tx, if_neg (fun w => q w.1)]
      simp only [Option.bind_some, vx_some]
      rw [if_neg (by omega)]
end
