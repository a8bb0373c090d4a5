/-! THE PURE PART: the start: writes as a list; the vocabulary -/
def wr : List (Int × Int × Int) → Mm → Mm
  | [], m => m
  | q :: l, m => wr l (stm m q.1 q.2.1 q.2.2)
def lkw : List (Int × Int × Int) → Int → Int → Option Int
  | [], _, _ => none
  | q :: l, o, k => match lkw l o k with
    | some v => some v
    | none => if o = q.1 ∧ k = q.2.1 then some q.2.2 else none
theorem wr_app : ∀ (a b : List (Int × Int × Int)) (m : Mm), wr (a ++ b) m = wr b (wr a m)
  | [], _, _ => rfl
  | q :: a, b, m => wr_app a b (stm m q.1 q.2.1 q.2.2)
theorem lkw_c (q : Int × Int × Int) (l : List (Int × Int × Int)) (o k : Int) : lkw (q :: l) o k = match lkw l o k with
    | some v => some v
    | none => if o = q.1 ∧ k = q.2.1 then some q.2.2 else none := rfl
theorem wr_lkw : ∀ (l : List (Int × Int × Int)) (m : Mm) (o k : Int), wr l m o k = (lkw l o k).getD (m o k)
  | [], _, _, _ => rfl
  | q :: l, m, o, k => by
    show wr l (stm m q.1 q.2.1 q.2.2) o k = _
    rw [wr_lkw l, lkw_c]
    cases lkw l o k with
    | some v => rfl
    | none =>
      show stm m q.1 q.2.1 q.2.2 o k = Option.getD (if o = q.1 ∧ k = q.2.1 then some q.2.2 else none) _
      rw [stm_ap]
      by_cases z : o = q.1 ∧ k = q.2.1
      · rw [if_pos z, if_pos z]
        rfl
      · rw [if_neg z, if_neg z]
        rfl
theorem wr_o : ∀ (l : List (Int × Int × Int)) (m : Mm) (o k : Int), (∀ q ∈ l, q.1 ≠ o) → wr l m o k = m o k
  | [], _, _, _, _ => rfl
  | q :: l, m, o, k, h => by
    show wr l (stm m q.1 q.2.1 q.2.2) o k = _
    rw [wr_o l _ _ _ (fun r hr => h r (List.mem_cons_of_mem _ hr)), stm_o (fun e => h q List.mem_cons_self e.symm)]
/-- what a text teaches: the writes, and the next place -/
def lrn : List Int → Int → Int → List (Int × Int × Int) × Int
  | [], x3, _ => ([], x3)
  | b :: r, x3, x4 => if x3 ≥ 28 then ([], x3) else if b ≠ 32 then lrn r x3 (w64 (w64 (x4 * 32) + w32 (w32 (b - 97) + 1))) else ((5, x3, x4) :: (lrn r (x3 + 1) 0).1, (lrn r (x3 + 1) 0).2)
theorem s_len {x1 N : Int} (hx : -5 ≤ x1 ∧ x1 ≤ -3) (kx : kd (x1 - 3) = (21, N)) (h : Hq) : vm 315 [(2, x1)] h = some (some (0, bshr N 0), h) := by
  refine Eq.trans (e_J0_length_8abf5 _ _) ?_
  have q := e_J0_coder_7d493 x1 h
  rw [if_pos hx] at q
  rw [if_pos hx, kx, if_pos (show 20 ≤ (21 : Nat) ∧ (21 : Nat) ≤ 25 by decide), if_pos hx]
  rw [q, Option.bind_some, vx_some]
theorem s_char {x1 N k : Int} (hx : -5 ≤ x1 ∧ x1 ≤ -3) (kx : kd (x1 - 3) = (21, N)) (k0 : 0 ≤ k) (k1 : k < N) (h : Hq) {b : Int} (hb : h.2 (x1 - 3) k = b) (b0 : 0 ≤ b) (b1 : b ≤ 127) : vm 316 [(2, x1), (0, k)] h = some (some (0, b), h) := by
  have q1 := e_J0_isLatin1_aae02 x1 h
  rw [if_pos hx] at q1
  have q4 := e_J3_checkIndex_8e157 k N (-9) h
  rw [if_neg (by omega), if_pos k1] at q4
  have q3 := e_J0_checkIndex_df160 k N h
  rw [q4, Option.bind_some] at q3
  have q2 := e_J1_charAt_3b067 (x1 - 3) k h
  rw [kx, if_pos (show 20 ≤ (21 : Nat) ∧ (21 : Nat) ≤ 25 by decide), q3, Option.bind_some, if_pos ⟨rfl, k0, k1⟩] at q2
  dsimp only at q2
  rw [hb, band255, show b % 256 % 65536 = b by omega, if_pos (by omega)] at q2
  refine Eq.trans (e_J0_charAt_5068e _ _ _) ?_
  rw [if_pos hx, q1, Option.bind_some, vx_some, if_neg (by omega), if_pos hx]
  dsimp only
  rw [q2, Option.bind_some, vx_some, if_pos (by omega)]
theorem p_learn8 {n x1 : Int} {T : List Int} (hx : -5 ≤ x1 ∧ x1 ≤ -3) (kx : kd (x1 - 3) = (21, (T.length : Int))) (hT : T.length ≤ 1000) (sh : bshr (T.length : Int) 0 = (T.length : Int)) (hb : ∀ b ∈ T, 0 ≤ b ∧ b ≤ 127) : ∀ (r : List Int) (p : Nat) (x3 x4 : Int) (z : Vl) (m : Mm), T.drop p = r → p + r.length = T.length → 0 ≤ x3 → x3 ≤ 28 → m 4 0 = 5 → (∀ k : Nat, k < T.length → m (x1 - 3) (k : Int) = T.getD k 0) → vp 18 8 [(2, 4), (2, x1), z, (0, x3), (1, x4), (9, 0), (0, (p : Int))] [] (n, m) = some (some (0, (lrn r x3 x4).2), (n, wr (lrn r x3 x4).1 m)) := by
  intro r
  induction r with
  | nil =>
    intro p x3 x4 z m hd hl x30 x31 m4 hm
    refine Eq.trans (e_X3_learn_8 ..) ?_
    rw [if_pos hx, s_len hx kx, Option.bind_some, vx_some, sh, if_pos (by simp only [List.length_nil] at hl; omega)]
    rfl
  | cons b r ih =>
    intro p x3 x4 z m hd hl x30 x31 m4 hm
    have hp : p < T.length := by simp only [List.length_cons] at hl; omega
    have gb : T.getD p 0 = b := by
      have := List.getElem?_drop (xs := T) (i := p) (j := 0)
      rw [hd] at this
      rw [List.getD_eq_getElem?_getD, show p = p + 0 from rfl, ← this]
      rfl
    have hd2 : T.drop (p + 1) = r := by
      have := congrArg (List.drop 1) hd
      rw [List.drop_drop] at this
      exact this
    have bm : b ∈ T := List.mem_of_mem_drop (i := p) (by rw [hd]; exact List.mem_cons_self)
    have bb := hb b bm
    have ep : w32 ((p : Int) + 1) = ((p + 1 : Nat) : Int) := by rw [w32_i (by omega) (by omega)]; omega
    have sc := s_char (k := (p : Int)) hx kx (by omega) (by omega) (n, m) (b := b) (by
      show m (x1 - 3) (p : Int) = b
      rw [hm p hp, gb]) bb.1 bb.2
    refine Eq.trans (e_X3_learn_8 ..) ?_
    rw [if_pos hx, s_len hx kx, Option.bind_some, vx_some, sh, if_neg (by omega)]
    by_cases q28 : x3 ≥ 28
    · rw [if_pos q28]
      unfold lrn
      rw [if_pos q28]
      rfl
    · rw [if_neg q28, if_pos hx, sc, Option.bind_some, vx_some]
      by_cases qb : b ≠ 32
      · have i2 := ih (p + 1) x3 (w64 (w64 (x4 * 32) + w32 (w32 (b - 97) + 1))) (9, 0) m hd2 (by simp only [List.length_cons] at hl; omega) x30 x31 m4 hm
        rw [if_pos qb, if_pos hx, sc, Option.bind_some, vx_some, e_X3_withLetter, Option.bind_some, vx_some]
        dsimp only
        rw [ep]
        refine Eq.trans i2 ?_
        rw [lrn, if_neg q28, if_pos qb]
      · have i2 := ih (p + 1) (x3 + 1) 0 (9, 0) (stm m 5 x3 x4) hd2 (by simp only [List.length_cons] at hl; omega) (by omega) (by omega) (by rw [stm_o (by omega)]; exact m4) (fun k hk => by
          rw [stm_o (by omega)]
          exact hm k hk)
        rw [if_neg qb]
        dsimp only
        rw [if_pos (show (0 : Int) < 4 ∧ (kd 4).1 = 3 from ⟨by decide, rfl⟩), if_pos (by rw [m4]; exact ⟨by decide, rfl, x30, by show x3 < 28; omega⟩), ep, w32_i (x := x3 + 1) (by omega) (by omega), show m 4 0 = 5 from m4]
        refine Eq.trans i2 ?_
        rw [lrn, if_neg q28, if_neg qb]
        rfl
