/-! THE PURE PART: an act of both, whole -/
def stc (m : Mm) (c : Int) (f : Int → Int) : Mm := fun o => if o = c then f else m o
theorem stc_o {m : Mm} {c o : Int} {f : Int → Int} (h : o ≠ c) : stc m c f o = m o := if_neg h
theorem stc_c {m : Mm} {c : Int} {f : Int → Int} : stc m c f c = f := if_pos rfl
theorem ps_99 (m : Mm) (a q : Int) : ps m a 2400 99 q = if 2400 * a ≤ q ∧ q < 2400 * a + 2400 then m 101 (q - 2400 * a) else m 99 q := by
  unfold ps
  rw [cp2_ap _ _ _ _ _ _ _ _ _ _ _ _ (by omega) (by omega), if_neg (by omega)]
  by_cases z : 2400 * a ≤ q ∧ q < 2400 * a + 2400
  · rw [if_pos ⟨rfl, z⟩, if_pos z, Int.zero_add]
  · rw [if_neg (fun w => z w.2), if_neg z]
theorem ps_100 (m : Mm) (a q : Int) : ps m a 2400 100 q = if 2400 * a ≤ q ∧ q < 2400 * a + 2400 then m 102 (q - 2400 * a) else m 100 q := by
  unfold ps
  rw [cp2_ap _ _ _ _ _ _ _ _ _ _ _ _ (by omega) (by omega)]
  by_cases z : 2400 * a ≤ q ∧ q < 2400 * a + 2400
  · rw [if_pos ⟨rfl, z⟩, if_pos z, Int.zero_add]
  · rw [if_neg (fun w => z w.2), if_neg z, if_neg (by omega)]
theorem sh_99 (m : Mm) (q : Int) : sh m 45600 99 q = if 0 ≤ q ∧ q < 45600 then m 99 (2400 + q) else m 99 q := by
  unfold sh
  rw [cp2_ap _ _ _ _ _ _ _ _ _ _ _ _ (by omega) (by omega), if_neg (by omega)]
  by_cases z : 0 ≤ q ∧ q < 45600
  · rw [if_pos ⟨rfl, by omega⟩, if_pos z, Int.sub_zero]
  · rw [if_neg (by omega), if_neg z]
theorem sh_100 (m : Mm) (q : Int) : sh m 45600 100 q = if 0 ≤ q ∧ q < 45600 then m 100 (2400 + q) else m 100 q := by
  unfold sh
  rw [cp2_ap _ _ _ _ _ _ _ _ _ _ _ _ (by omega) (by omega)]
  by_cases z : 0 ≤ q ∧ q < 45600
  · rw [if_pos ⟨rfl, by omega⟩, if_pos z, Int.sub_zero]
  · rw [if_neg (by omega), if_neg (by omega), if_neg z]
theorem kpM_o {m : Mm} {c k : Int} (h1 : c ≠ 99) (h2 : c ≠ 100) (h3 : ¬ (c = 88 ∧ k = 26)) : kpM m c k = m c k := by
  unfold kpM
  split
  · rfl
  · split
    · rw [stm_ap, if_neg h3, ps_o h1 h2, stm_ap, if_neg h3, sh_o h1 h2]
    · rw [stm_ap, if_neg h3, ps_o h1 h2]
theorem kpM_26 {m : Mm} : kpM m 88 26 = if m 88 29 = 0 then m 88 26 else if m 88 26 = 20 then 20 else m 88 26 + 1 := by
  unfold kpM
  split
  · rfl
  · split <;> exact stm_same _ _ _ _
theorem kpM_99 {m : Mm} (a1 : m 88 26 ≤ 20) (q : Int) : kpM m 99 q = if m 88 29 = 0 then m 99 q else if m 88 26 = 20 then (if 45600 ≤ q ∧ q < 48000 then m 101 (q - 45600) else if 0 ≤ q ∧ q < 45600 then m 99 (2400 + q) else m 99 q) else if 2400 * m 88 26 ≤ q ∧ q < 2400 * m 88 26 + 2400 then m 101 (q - 2400 * m 88 26) else m 99 q := by
  unfold kpM
  split
  · rfl
  · split
    · rw [stm_ap, if_neg (by omega), ps_99]
      simp only [stm_ap, sh_99]
      rw [if_neg (show ¬ ((101 : Int) = 88 ∧ q - 2400 * 19 = 26) by omega), sh_o (by omega) (by omega)]
      simp
    · rw [stm_ap, if_neg (by omega), ps_99]
theorem kpM_100 {m : Mm} (a1 : m 88 26 ≤ 20) (q : Int) : kpM m 100 q = if m 88 29 = 0 then m 100 q else if m 88 26 = 20 then (if 45600 ≤ q ∧ q < 48000 then m 102 (q - 45600) else if 0 ≤ q ∧ q < 45600 then m 100 (2400 + q) else m 100 q) else if 2400 * m 88 26 ≤ q ∧ q < 2400 * m 88 26 + 2400 then m 102 (q - 2400 * m 88 26) else m 100 q := by
  unfold kpM
  split
  · rfl
  · split
    · rw [stm_ap, if_neg (by omega), ps_100]
      simp only [stm_ap, sh_100]
      rw [if_neg (show ¬ ((102 : Int) = 88 ∧ q - 2400 * 19 = 26) by omega), sh_o (by omega) (by omega)]
      simp
    · rw [stm_ap, if_neg (by omega), ps_100]
theorem bgM_o {m : Mm} {c k : Int} (h1 : c ≠ 101) (h2 : c ≠ 102) (h3 : ¬ (c = 88 ∧ k = 29)) : bgM m c k = m c k := by
  unfold bgM
  rw [stm_ap, if_neg h3, cp2_ap _ _ _ _ _ _ _ _ _ _ _ _ (by omega) (by omega), if_neg (by omega), if_neg (by omega)]
theorem bgM_101 {m : Mm} {q : Int} (q0 : 0 ≤ q) (q1 : q < 2400) : bgM m 101 q = m 97 q := by
  unfold bgM
  rw [stm_ap, if_neg (by omega), cp2_ap _ _ _ _ _ _ _ _ _ _ _ _ (by omega) (by omega), if_neg (by omega), if_pos ⟨rfl, by omega⟩, show 0 + (q - 0) = q by omega]
theorem bgM_102 {m : Mm} {q : Int} (q0 : 0 ≤ q) (q1 : q < 2400) : bgM m 102 q = m 98 q := by
  unfold bgM
  rw [stm_ap, if_neg (by omega), cp2_ap _ _ _ _ _ _ _ _ _ _ _ _ (by omega) (by omega), if_pos ⟨rfl, by omega⟩, show 0 + (q - 0) = q by omega]
theorem kpC_o {m : Mm} {c k : Int} (h : ¬ (c = 74 ∧ (k = 2 ∨ k = 3))) : kpC m c k = m c k := by
  unfold kpC
  split <;> rw [stm_ap, if_neg (by omega)]
/-- the class's memory behind an act, the model's behind it -/
def mcC (m : Mm) (s : Int) (r : Int → Int) (b : Bool) : Mm := if b = true then kpC (stc (bgC m s) (8 + s) r) else stc (bgC m s) (8 + s) r
def mdM (m : Mm) (io : Int) (f g : Int → Int) : Mm := stc (stc (stm (bgM m) 88 29 io) 97 f) 98 g
theorem mcC_o {m : Mm} {s : Int} {r : Int → Int} {b : Bool} {c k : Int} (h0 : 109 ≤ c → c ≠ 109 + slt m (m 74 3)) (h1 : c ≠ 75) (h2 : c ≠ 76) (h3 : ¬ (c = 74 ∧ (k = 2 ∨ k = 3))) (h4 : c ≠ 8 + s) : mcC m s r b c k = m c k := by
  unfold mcC
  split
  · rw [kpC_o h3, stc_o h4, bgC_o h0 h1 h2]
  · rw [stc_o h4, bgC_o h0 h1 h2]
theorem mcC_a {m : Mm} {s : Int} {r : Int → Int} {b : Bool} {c k : Int} (h : c ≠ 74) (h4 : c ≠ 8 + s) : mcC m s r b c k = bgC m s c k := by
  unfold mcC
  split
  · rw [kpC_o (by omega), stc_o h4]
  · rw [stc_o h4]
theorem mdM_o {m : Mm} {io : Int} {f g : Int → Int} {c k : Int} (h1 : c < 97 ∨ 102 < c ∨ c = 99 ∨ c = 100) (h3 : ¬ (c = 88 ∧ k = 29)) : mdM m io f g c k = m c k := by
  unfold mdM
  rw [stc_o (by omega), stc_o (by omega), stm_ap, if_neg h3, bgM_o (by omega) (by omega) h3]
theorem mdM_29 {m : Mm} {io : Int} {f g : Int → Int} : mdM m io f g 88 29 = io := by
  unfold mdM
  rw [stc_o (by omega), stc_o (by omega), stm_same]
theorem mdM_101 {m : Mm} {io : Int} {f g : Int → Int} {q : Int} (q0 : 0 ≤ q) (q1 : q < 2400) : mdM m io f g 101 q = m 97 q := by
  unfold mdM
  rw [stc_o (by omega), stc_o (by omega), stm_ap, if_neg (by omega), bgM_101 q0 q1]
theorem mdM_102 {m : Mm} {io : Int} {f g : Int → Int} {q : Int} (q0 : 0 ≤ q) (q1 : q < 2400) : mdM m io f g 102 q = m 98 q := by
  unfold mdM
  rw [stc_o (by omega), stc_o (by omega), stm_ap, if_neg (by omega), bgM_102 q0 q1]
theorem mdM_97 {m : Mm} {io : Int} {f g : Int → Int} : mdM m io f g 97 = f := by
  unfold mdM
  rw [stc_o (by omega), stc_c]
theorem mdM_98 {m : Mm} {io : Int} {f g : Int → Int} : mdM m io f g 98 = g := by
  unfold mdM
  rw [stc_c]
/-- the whole -/
def mmA (m : Mm) (s : Int) (r : Int → Int) (b : Bool) (io : Int) (f g : Int → Int) : Mm := kpM (mdM (mcC m s r b) io f g)
theorem mmA_o {m : Mm} {s : Int} {r : Int → Int} {b : Bool} {io : Int} {f g : Int → Int} {c k : Int} (h0 : c < 109) (h1 : c < 74 ∨ 76 < c ∨ (c = 74 ∧ k < 2)) (h2 : c < 97 ∨ 102 < c) (h3 : ¬ (c = 88 ∧ (k = 26 ∨ k = 29))) (h4 : c ≠ 8 + s) : mmA m s r b io f g c k = m c k := by
  unfold mmA
  rw [kpM_o (by omega) (by omega) (by omega), mdM_o (by omega) (by omega), mcC_o (by omega) (by omega) (by omega) (by omega) h4]
theorem INV_act {i : Int} {h : Hq} (I : INV i h) (hi : i < 600) {s : Int} (s0 : 0 ≤ s) (s1 : s < h.2 90 3) {b : Bool} {io : Int} {r f g : Int → Int} (hb : b = true ↔ io ≠ 0)
    (hr : ∀ p : Int, 0 ≤ p → p < h.2 94 s → CR (h.2 93 s) (r p) (f (400 * s + p)) (g (400 * s + p)))
    (ho : ∀ s' p : Int, 0 ≤ s' → s' < h.2 90 3 → s' ≠ s → 0 ≤ p → p < h.2 94 s' → f (400 * s' + p) = h.2 97 (400 * s' + p) ∧ g (400 * s' + p) = h.2 98 (400 * s' + p))
    (hn : b = false → ∀ p : Int, 0 ≤ p → p < h.2 94 s → f (400 * s + p) = h.2 97 (400 * s + p) ∧ g (400 * s + p) = h.2 98 (400 * s + p)) : INV (i + 1) (bgN h.1 h.2, mmA h.2 s r b io f g) := by
  have K := I.kl
  have s6 : s < 6 := by have := K.1; omega
  have R := I.rn
  have A := I.ac
  have W := I.ro
  have ir := I.ir
  have Rb := R.bg s
  obtain ⟨n, m⟩ := h
  dsimp only at *
  have jr := slt_rng m (m 74 3)
  have R1 := R.1
  have R2 := R.2.1
  have a26 : m 88 26 = m 74 3 := A.1
  have e97 : mmA m s r b io f g 97 = f := by
    funext q
    unfold mmA
    rw [kpM_o (by omega) (by omega) (by omega), mdM_97]
  have e98 : mmA m s r b io f g 98 = g := by
    funext q
    unfold mmA
    rw [kpM_o (by omega) (by omega) (by omega), mdM_98]
  have x26 : mdM (mcC m s r b) io f g 88 26 = m 74 3 := by
    rw [mdM_o (by omega) (by omega), mcC_o (by omega) (by omega) (by omega) (by omega) (by omega), a26]
  have e26 : mmA m s r b io f g 88 26 = if io = 0 then m 74 3 else if m 74 3 = 20 then 20 else m 74 3 + 1 := by
    unfold mmA
    rw [kpM_26, mdM_29, x26]
  have e74 : ∀ k, mmA m s r b io f g 74 k = if b = true then (if 20 ≤ m 74 3 then (if k = 2 then slt m 1 else m 74 k) else (if k = 3 then m 74 3 + 1 else m 74 k)) else m 74 k := fun k => by
    have eb : ∀ k, stc (bgC m s) (8 + s) r 74 k = m 74 k := fun k => by rw [stc_o (by omega), bgC_o (by omega) (by omega) (by omega)]
    have es : slt (stc (bgC m s) (8 + s) r) 1 = slt m 1 := by unfold slt; rw [eb]
    unfold mmA
    rw [kpM_o (by omega) (by omega) (by omega), mdM_o (by omega) (by omega)]
    unfold mcC
    by_cases hb : b = true
    · rw [if_pos hb, if_pos hb]
      unfold kpC
      rw [eb, es]
      by_cases q : 20 ≤ m 74 3
      · rw [if_pos q, if_pos q, stm_ap, eb]
        by_cases z : k = 2
        · rw [if_pos ⟨rfl, z⟩, if_pos z]
        · rw [if_neg (fun w => z w.2), if_neg z]
      · rw [if_neg q, if_neg q, stm_ap, eb]
        by_cases z : k = 3
        · rw [if_pos ⟨rfl, z⟩, if_pos z]
        · rw [if_neg (fun w => z w.2), if_neg z]
    · rw [if_neg hb, if_neg hb, eb]
  have ebg : ∀ c k, c = 75 ∨ c = 76 ∨ 109 ≤ c → mmA m s r b io f g c k = bgC m s c k := fun c k hc => by
    unfold mmA
    rw [kpM_o (by omega) (by omega) (by omega), mdM_o (by omega) (by omega), mcC_a (by omega) (by omega)]
  have q97 : ∀ q, mcC m s r b 97 q = m 97 q := fun q => mcC_o (by omega) (by omega) (by omega) (by omega) (by omega)
  have q98 : ∀ q, mcC m s r b 98 q = m 98 q := fun q => mcC_o (by omega) (by omega) (by omega) (by omega) (by omega)
  have x99 : ∀ q, mdM (mcC m s r b) io f g 99 q = m 99 q := fun q => by rw [mdM_o (by omega) (by omega), mcC_o (by omega) (by omega) (by omega) (by omega) (by omega)]
  have x100 : ∀ q, mdM (mcC m s r b) io f g 100 q = m 100 q := fun q => by rw [mdM_o (by omega) (by omega), mcC_o (by omega) (by omega) (by omega) (by omega) (by omega)]
  have e99 : ∀ q, mmA m s r b io f g 99 q = _ := fun q => kpM_99 (by rw [x26]; omega) q
  have e100 : ∀ q, mmA m s r b io f g 100 q = _ := fun q => kpM_100 (by rw [x26]; omega) q
  simp only [x26, mdM_29, x99, x100] at e99 e100
  have eO : ∀ c k : Int, c < 109 → (c < 74 ∨ 76 < c ∨ (c = 74 ∧ k < 2)) → (c < 97 ∨ 102 < c) → ¬ (c = 88 ∧ (k = 26 ∨ k = 29)) → ¬ (8 ≤ c ∧ c ≤ 13) → mmA m s r b io f g c k = m c k := fun c k h0 h1 h2 h3 h4 => mmA_o h0 h1 h2 h3 (by omega)
  have I1 := I.up hi
  refine ⟨I.fx.fr (fun c k q => eO c k (by unfold FXP at q; omega) (by unfold FXP at q; omega) (by unfold FXP at q; omega) (by unfold FXP at q; omega) (by unfold FXP at q; omega)), I.sh.fr (fun c k q => eO c k (by unfold SHP at q; omega) (by unfold SHP at q; omega) (by unfold SHP at q; omega) (by unfold SHP at q; omega) (by unfold SHP at q; omega)), ?_, ⟨?_, ?_⟩, I.im.fr (fun c k q => eO c k (by omega) (by omega) (by omega) (by omega) (by omega)) (by have := K.1; show m 90 3 ≤ 6; omega), I1.ca.fr (fun c k q => eO c k (by omega) (by omega) (by omega) (by omega) (by omega)), I1.ta.fr (fun c k q => eO c k (by omega) (by omega) (by omega) (by omega) (by omega)), I.tp.fr (fun c k q => eO c k (by omega) (by omega) (by omega) (by omega) (by omega)), I.fl.fr (fun c k q => eO c k (by omega) (by omega) (by omega) (by omega) (by omega)), I.ou.fr (fun c k q => eO c k (by omega) (by omega) (by omega) (by omega) (by omega)), by omega⟩
  · intro s' p s0' s1' p0 p1
    dsimp only at s1' p1 ⊢
    rw [eO 90 3 (by omega) (by omega) (by omega) (by omega) (by omega)] at s1'
    rw [eO 94 s' (by omega) (by omega) (by omega) (by omega) (by omega)] at p1
    rw [eO 93 s' (by omega) (by omega) (by omega) (by omega) (by omega), e97, e98]
    have s6' : s' < 6 := by have := K.1; omega
    by_cases hs : s' = s
    · subst hs
      have : mmA m s' r b io f g (8 + s') p = r p := by
        unfold mmA
        rw [kpM_o (by omega) (by omega) (by omega), mdM_o (by omega) (by omega)]
        unfold mcC
        split
        · rw [kpC_o (by omega), stc_c]
        · rw [stc_c]
      rw [this]
      exact hr p p0 p1
    · rw [mmA_o (by omega) (by omega) (by omega) (by omega) (by omega), (ho s' p s0' s1' hs p0 p1).1, (ho s' p s0' s1' hs p0 p1).2]
      exact W s' p s0' s1' p0 p1
  · have := Rb.1
    dsimp only at this ⊢
    obtain ⟨a, b', c, d, e⟩ := this
    have t2 : mmA m s r b io f g 74 2 = (if b = true then (if 20 ≤ m 74 3 then slt m 1 else m 74 2) else m 74 2) := (e74 2).trans (by simp)
    have t3 : mmA m s r b io f g 74 3 = (if b = true then (if 20 ≤ m 74 3 then m 74 3 else m 74 3 + 1) else m 74 3) := (e74 3).trans (by simp)
    have u2 : bgC m s 74 2 = m 74 2 := bgC_o (by omega) (by omega) (by omega)
    have u3 : bgC m s 74 3 = m 74 3 := bgC_o (by omega) (by omega) (by omega)
    rw [u2, u3] at e
    have sl : slt m (m 74 3) = (m 74 2 + m 74 3) % 21 := rfl
    have sl1 : slt m 1 = (m 74 2 + 1) % 21 := rfl
    have hj := Rb.2
    show RNG (bgN n m) (mmA m s r b io f g)
    refine ⟨?_, ?_, c, fun j j0 j1 => ?_, ?_⟩
    · rw [t3]; split
      · split <;> omega
      · omega
    · rw [t2]; split
      · split <;> omega
      · omega
    · rw [ebg 75 j (by omega)]
      exact d j j0 j1
    · rw [t2, t3]
      rcases e with e | e
      · exact Or.inl e
      · by_cases hb : b = true
        · simp only [if_pos hb]
          by_cases q : 20 ≤ m 74 3
          · left; omega
          · rw [if_neg q, if_neg q]; omega
        · simp only [if_neg hb]; omega
  · have eb : (b = true) ∨ (b = false) := by cases b <;> simp
    show ACT (mmA m s r b io f g)
    refine ACT_keep (n := n) (m := m) (s := s) (ch := b = true) K R A W s0 s1 (fun c k hc => eO c k (by omega) (by omega) (by omega) (by omega) (by omega)) (fun k => by rw [ebg 76 k (by omega), bgC_76]) (fun p p0 p1 => by rw [ebg _ p (by omega), bgC_r s0 s6 p0 p1]) (fun j p j0 j1 hj => by rw [ebg _ p (by omega), bgC_o (by omega) (by omega) (by omega)]) ?_ ?_ (fun s' p a1 a2 a3 a4 a5 => by rw [e97, e98]; exact ho s' p a1 a2 a3 a4 a5) ?_ ?_ ?_ (fun hc p p0 p1 => by rw [e97, e98]; exact hn (by rcases eb with q | q; exact absurd q hc; exact q) p p0 p1)
    · have t2 : mmA m s r b io f g 74 2 = (if b = true then (if 20 ≤ m 74 3 then slt m 1 else m 74 2) else m 74 2) := (e74 2).trans (by simp)
      have t3 : mmA m s r b io f g 74 3 = (if b = true then (if 20 ≤ m 74 3 then m 74 3 else m 74 3 + 1) else m 74 3) := (e74 3).trans (by simp)
      rcases eb with q | q
      · rw [if_pos q] at t2 t3
        by_cases z : 20 ≤ m 74 3
        · rw [if_pos z] at t2 t3
          exact Or.inl ⟨q, by omega, t2, by omega⟩
        · rw [if_neg z] at t2 t3
          exact Or.inr (Or.inl ⟨q, by omega, t2, t3⟩)
      · rw [if_neg (by rw [q]; decide)] at t2 t3
        exact Or.inr (Or.inr ⟨by rw [q]; decide, t2, t3⟩)
    · have t3 : mmA m s r b io f g 74 3 = (if b = true then (if 20 ≤ m 74 3 then m 74 3 else m 74 3 + 1) else m 74 3) := (e74 3).trans (by simp)
      rw [e26, t3]
      by_cases q : io = 0
      · rw [if_pos q, if_neg (by rw [hb]; simp [q])]
      · rw [if_neg q, if_pos (hb.mpr q)]
        split <;> split <;> omega
    · intro hc q q0 q1
      have hio := hb.mp hc
      have t3 : mmA m s r b io f g 74 3 = (if b = true then (if 20 ≤ m 74 3 then m 74 3 else m 74 3 + 1) else m 74 3) := (e74 3).trans (by simp)
      rw [if_pos hc] at t3
      rw [t3, e99, e100, if_neg hio, if_neg hio]
      by_cases z : m 74 3 = 20
      · rw [if_pos z, if_pos z, if_pos (show 20 ≤ m 74 3 by omega), if_pos (by omega), if_pos (by omega), mdM_101 (by omega) (by omega), mdM_102 (by omega) (by omega), q97, q98]
        exact ⟨congrArg _ (by omega), congrArg _ (by omega)⟩
      · rw [if_neg z, if_neg z, if_neg (show ¬ 20 ≤ m 74 3 by omega), if_pos (by omega), if_pos (by omega), mdM_101 (by omega) (by omega), mdM_102 (by omega) (by omega), q97, q98]
        exact ⟨congrArg _ (by omega), congrArg _ (by omega)⟩
    · intro hc k q k0 k1 q0 q1
      have hio := hb.mp hc
      have t3 : mmA m s r b io f g 74 3 = (if b = true then (if 20 ≤ m 74 3 then m 74 3 else m 74 3 + 1) else m 74 3) := (e74 3).trans (by simp)
      rw [if_pos hc] at t3
      rw [t3] at k1
      rw [e99, e100, if_neg hio, if_neg hio]
      by_cases z : m 74 3 = 20
      · rw [if_pos z, if_pos z, if_pos z]
        rw [if_pos (show 20 ≤ m 74 3 by omega)] at k1
        simp only [if_neg (show ¬ (45600 ≤ 2400 * k + q ∧ 2400 * k + q < 48000) by omega), if_pos (show 0 ≤ 2400 * k + q ∧ 2400 * k + q < 45600 by omega)]
        exact ⟨congrArg _ (by omega), congrArg _ (by omega)⟩
      · rw [if_neg z, if_neg z, if_neg z]
        rw [if_neg (show ¬ 20 ≤ m 74 3 by omega)] at k1
        simp only [if_neg (show ¬ (2400 * m 74 3 ≤ 2400 * k + q ∧ 2400 * k + q < 2400 * m 74 3 + 2400) by omega), and_self]
    · intro hc q
      have hio : io = 0 := Classical.byContradiction (fun z => hc (hb.mpr z))
      rw [e99, e100, if_pos hio, if_pos hio]
      exact ⟨rfl, rfl⟩
