/-! THE SIMULATION: one step inverted -/
section INV
variable {RT : Nat → Nat} {rt : Nat} {call : Nat → List Vl → Hq → Option Rs} {cont : Nat → List Vl → List Vl → Hq → Option Rs} {kd : Int → Nat × Int} {r : Rs} {pc len : Nat} {ls st : List Vl} {h : Hq}
theorem bdy_g {g : DP} {x : XA} (hb : bdy RT rt call cont (some (g, x)) = some r) : g.1 ∧ bdy RT rt call cont (some (tt, x)) = some r := by
  obtain ⟨c, d⟩ := g
  unfold bdy at hb ⊢
  dsimp only at hb ⊢
  by_cases hc : c
  · rw [if_pos hc] at hb
    refine ⟨hc, ?_⟩
    exact hb
  · rw [if_neg hc] at hb; cases hb
theorem bdy_nx {pc : Nat} (hb : bdy RT rt call cont (nx pc ls st h) = some r) : cont pc ls st h = some r := by
  have e : bdy RT rt call cont (nx pc ls st h) = cont pc ls st h := rfl
  rw [e] at hb
  exact hb
theorem bdy_n {g : DP} {pc : Nat} (hb : bdy RT rt call cont (nxg g pc ls st h) = some r) : g.1 ∧ cont pc ls st h = some r := ⟨(bdy_g hb).1, bdy_nx (bdy_g hb).2⟩
theorem bdy_c {b : Bool} {a : AC} (hb : bdy RT rt call cont (cond b a none) = some r) : b = true ∧ bdy RT rt call cont a = some r := by
  cases b with
  | false => exact absurd (show (none : Option Rs) = some r from hb) (by intro q; cases q)
  | true => exact ⟨rfl, hb⟩
theorem bdy_c' {b : Bool} {a : AC} (hb : bdy RT rt call cont (cond b none a) = some r) : b = false ∧ bdy RT rt call cont a = some r := by
  cases b with
  | true => exact absurd (show (none : Option Rs) = some r from hb) (by intro q; cases q)
  | false => exact ⟨rfl, hb⟩
theorem bdy_no {P : Prop} (hb : bdy RT rt call cont none = some r) : P := absurd (show (none : Option Rs) = some r from hb) (by intro q; cases q)
theorem bdy_b {g c : DP} {pt pf : Nat} (hb : bdy RT rt call cont (some (g, .inr (.inl (c, pt, pf, ls, st, h)))) = some r) : g.1 ∧ ((c.1 ∧ cont pt ls st h = some r) ∨ (¬ c.1 ∧ cont pf ls st h = some r)) := by
  refine ⟨(bdy_g hb).1, ?_⟩
  have hb := (bdy_g hb).2
  obtain ⟨c, dc⟩ := c
  have e : bdy RT rt call cont (some (tt, .inr (.inl (⟨c, dc⟩, pt, pf, ls, st, h)))) = if c then cont pt ls st h else cont pf ls st h := rfl
  rw [e] at hb
  by_cases hc : c
  · rw [if_pos hc] at hb; exact Or.inl ⟨hc, hb⟩
  · rw [if_neg hc] at hb; exact Or.inr ⟨hc, hb⟩
theorem bdy_s {x : Int} {cs : List (Int × Nat)} {d : Nat} (hb : bdy RT rt call cont (some (tt, .inr (.inr (.inl (x, cs, d, ls, st, h))))) = some r) : swi x cs (fun pc => cont pc ls st h) d = some r := by
  have e : bdy RT rt call cont (some (tt, .inr (.inr (.inl (x, cs, d, ls, st, h))))) = swi x cs (fun pc => cont pc ls st h) d := rfl
  rw [e] at hb
  exact hb
theorem bdy_a {g : DP} {M1 : Nat} {as : List Vl} (hb : bdy RT rt call cont (some (g, .inr (.inr (.inr (.inl (M1, as, pc, ls, st, h)))))) = some r) : g.1 ∧ ∃ z, call M1 as h = some z ∧ cont pc ls (psh (RT M1) z st) z.2 = some r := by
  refine ⟨(bdy_g hb).1, ?_⟩
  have hb := (bdy_g hb).2
  have e : bdy RT rt call cont (some (tt, .inr (.inr (.inr (.inl (M1, as, pc, ls, st, h)))))) = (call M1 as h).bind (fun r => cont pc ls (psh (RT M1) r st) r.2) := rfl
  rw [e] at hb
  cases hc : call M1 as h with
  | none => rw [hc] at hb; cases hb
  | some z => rw [hc] at hb; exact ⟨z, rfl, hb⟩
theorem bdy_r {g : DP} {x : Rs} (hb : bdy RT rt call cont (some (g, .inr (.inr (.inr (.inr x))))) = some r) : g.1 ∧ rtag x.1 = rt ∧ x = r := by
  refine ⟨(bdy_g hb).1, ?_⟩
  have hb := (bdy_g hb).2
  have e : bdy RT rt call cont (some (tt, .inr (.inr (.inr (.inr x))))) = cond (Nat.beq (rtag x.1) rt) (some x) none := rfl
  rw [e] at hb
  cases hc : Nat.beq (rtag x.1) rt with
  | false => rw [hc] at hb; cases hb
  | true => rw [hc] at hb; exact ⟨Nat.eq_of_beq_eq_true hc, Option.some.inj hb⟩
theorem b_and {a b : Bool} (h : (a && b) = true) : a = true ∧ b = true := by cases a <;> cases b <;> first | exact ⟨rfl, rfl⟩ | cases h
theorem ldq_i {t k : Nat} (hb : bdy RT rt call cont (ldq t k pc len ls st h) = some r) : ∃ x, ls[k]? = some (t, x) ∧ cont (pc + len) ls ((t, x) :: st) h = some r := by
  unfold ldq at hb
  cases hl : ls[k]? with
  | none => rw [hl] at hb; exact bdy_no hb
  | some v =>
    rw [hl] at hb
    obtain ⟨t', x⟩ := v
    (replace hb := bdy_c hb); obtain ⟨e, hb⟩ := hb
    have e := Nat.eq_of_beq_eq_true e
    dsimp only at e
    obtain rfl := e.symm
    exact ⟨x, rfl, bdy_nx hb⟩
theorem st1_i {t k : Nat} (hb : bdy RT rt call cont (st1 t k pc len ls st h) = some r) : ∃ x q, st = (t, x) :: q ∧ Nat.blt k ls.length = true ∧ cont (pc + len) (set1 ls k (t, x)) q h = some r := by
  unfold st1 at hb
  match st, hb with
  | [], hb => exact bdy_no hb
  | (t', x) :: q, hb =>
    (replace hb := bdy_c hb); obtain ⟨e, hb⟩ := hb
    obtain ⟨e, e2⟩ := b_and e
    have e := Nat.eq_of_beq_eq_true e
    dsimp only at e
    obtain rfl := e.symm
    exact ⟨x, q, rfl, e2, bdy_nx hb⟩
theorem st2_i {k : Nat} (hb : bdy RT rt call cont (st2 k pc len ls st h) = some r) : ∃ x q, st = (1, x) :: q ∧ Nat.blt (k + 1) ls.length = true ∧ cont (pc + len) (set2 ls k (1, x)) q h = some r := by
  unfold st2 at hb
  match st, hb with
  | [], hb => exact bdy_no hb
  | (t', x) :: q, hb =>
    (replace hb := bdy_c hb); obtain ⟨e, hb⟩ := hb
    obtain ⟨e, e2⟩ := b_and e
    have e := Nat.eq_of_beq_eq_true e
    dsimp only at e
    obtain rfl := e.symm
    exact ⟨x, q, rfl, e2, bdy_nx hb⟩
theorem u1_i {a b : Nat} {f : Int → Int} (hb : bdy RT rt call cont (u1 a b f pc len ls st h) = some r) : ∃ x q, st = (a, x) :: q ∧ cont (pc + len) ls ((b, f x) :: q) h = some r := by
  unfold u1 at hb
  match st, hb with
  | [], hb => exact bdy_no hb
  | (t', x) :: q, hb =>
    (replace hb := bdy_c hb); obtain ⟨e, hb⟩ := hb
    have e := Nat.eq_of_beq_eq_true e
    dsimp only at e
    obtain rfl := e.symm
    exact ⟨x, q, rfl, bdy_nx hb⟩
theorem b2_i {ta tb tc : Nat} {f : Int → Int → Int} (hb : bdy RT rt call cont (b2 ta tb tc f pc len ls st h) = some r) : ∃ x y q, st = (tb, y) :: (ta, x) :: q ∧ cont (pc + len) ls ((tc, f x y) :: q) h = some r := by
  unfold b2 at hb
  match st, hb with
  | [], hb => exact bdy_no hb
  | [_], hb => exact bdy_no hb
  | (t2, y) :: (t1, x) :: q, hb =>
    (replace hb := bdy_c hb); obtain ⟨e, hb⟩ := hb
    obtain ⟨e, e2⟩ := b_and e
    have e := Nat.eq_of_beq_eq_true e
    have e2 := Nat.eq_of_beq_eq_true e2
    dsimp only at e e2
    obtain rfl := e.symm
    obtain rfl := e2.symm
    exact ⟨x, y, q, rfl, bdy_nx hb⟩
theorem b2z_i {t : Nat} {f : Int → Int → Int} (hb : bdy RT rt call cont (b2z t f pc len ls st h) = some r) : ∃ x y q, st = (t, y) :: (t, x) :: q ∧ y ≠ 0 ∧ cont (pc + len) ls ((t, f x y) :: q) h = some r := by
  unfold b2z at hb
  match st, hb with
  | [], hb => exact bdy_no hb
  | [_], hb => exact bdy_no hb
  | (t2, y) :: (t1, x) :: q, hb =>
    (replace hb := bdy_c hb); obtain ⟨e, hb⟩ := hb
    obtain ⟨e, e2⟩ := b_and e
    have e := Nat.eq_of_beq_eq_true e
    have e2 := Nat.eq_of_beq_eq_true e2
    dsimp only at e e2
    obtain rfl := e.symm
    obtain rfl := e2.symm
    exact ⟨x, y, q, rfl, (bdy_n hb).1, (bdy_n hb).2⟩
theorem ald_i {k t : Nat} (hb : bdy RT rt call cont (ald kd k t pc len ls st h) = some r) : ∃ i a q, st = (0, i) :: (2, a) :: q ∧ ((kd a).1 = k ∧ 0 ≤ i ∧ i < (kd a).2) ∧ cont (pc + len) ls ((t, h.2 a i) :: q) h = some r := by
  unfold ald at hb
  match st, hb with
  | [], hb => exact bdy_no hb
  | [_], hb => exact bdy_no hb
  | (t2, y) :: (t1, x) :: q, hb =>
    (replace hb := bdy_c hb); obtain ⟨e, hb⟩ := hb
    obtain ⟨e, e2⟩ := b_and e
    have e := Nat.eq_of_beq_eq_true e
    have e2 := Nat.eq_of_beq_eq_true e2
    dsimp only at e e2
    obtain rfl := e.symm
    obtain rfl := e2.symm
    exact ⟨y, x, q, rfl, (bdy_n hb).1, (bdy_n hb).2⟩
theorem ast_i {k t : Nat} {f : Int → Int} (hb : bdy RT rt call cont (ast kd k t f pc len ls st h) = some r) : ∃ x i a q, st = (t, x) :: (0, i) :: (2, a) :: q ∧ (0 < a ∧ (kd a).1 = k ∧ 0 ≤ i ∧ i < (kd a).2) ∧ cont (pc + len) ls q (h.1, stm h.2 a i (f x)) = some r := by
  unfold ast at hb
  match st, hb with
  | [], hb => exact bdy_no hb
  | [_], hb => exact bdy_no hb
  | [_, _], hb => exact bdy_no hb
  | (t3, z) :: (t2, y) :: (t1, x) :: q, hb =>
    (replace hb := bdy_c hb); obtain ⟨e, hb⟩ := hb
    obtain ⟨e, e3⟩ := b_and e
    obtain ⟨e, e2⟩ := b_and e
    have e := Nat.eq_of_beq_eq_true e
    have e2 := Nat.eq_of_beq_eq_true e2
    have e3 := Nat.eq_of_beq_eq_true e3
    dsimp only at e e2 e3
    obtain rfl := e.symm
    obtain rfl := e2.symm
    obtain rfl := e3.symm
    exact ⟨z, y, x, q, rfl, (bdy_n hb).1, (bdy_n hb).2⟩
theorem inv_i {M' n rc mx : Int} {o : List Int} {vr : Bool} (hb : bdy RT rt call cont (inv kd (M' :: n :: rc :: mx :: o) vr pc len ls st h) = some r) : ∃ as st1, st = as.reverse ++ st1 ∧ as.length = n.toNat ∧ cats st1 ≤ 8 ∧ (entL as).length ≤ mx.toNat ∧
    (vr = true → ∃ x as', as = (2, x) :: as' ∧ (if rc = 30 then -5 ≤ x ∧ x ≤ -3 else 0 < x ∧ (kd x).1 = rc.toNat)) ∧ ∃ z, call M'.toNat as h = some z ∧ cont (pc + len) ls (psh (RT M'.toNat) z st1) z.2 = some r := by
  unfold inv at hb
  (replace hb := bdy_c hb); obtain ⟨e, hb⟩ := hb
  obtain ⟨e, e3⟩ := b_and e
  obtain ⟨e, e2⟩ := b_and e
  have e := Nat.le_of_ble_eq_true e
  have e2 := Nat.le_of_ble_eq_true e2
  have e3 := Nat.le_of_ble_eq_true e3
  obtain ⟨hg, z, h1, h2⟩ := bdy_a hb
  refine ⟨(st.take n.toNat).reverse, st.drop n.toNat, by rw [List.reverse_reverse, List.take_append_drop], by rw [List.length_reverse, List.length_take]; omega, e2, e3, fun hv => ?_, z, h1, h2⟩
  subst hv
  generalize (st.take n.toNat).reverse = as at hg
  match as, hg with
  | [], hg => exact hg.elim
  | (t, x) :: as', hg =>
    cases hc : Nat.beq t 2 with
    | false =>
      replace hg : (cond (Nat.beq t 2) (if rc = 30 then ⟨-5 ≤ x ∧ x ≤ -3, inferInstance⟩ else ⟨0 < x ∧ (kd x).1 = rc.toNat, inferInstance⟩ : DP) ⟨False, instDecidableFalse⟩).1 := hg
      rw [hc] at hg
      exact hg.elim
    | true =>
      replace hg : (cond (Nat.beq t 2) (if rc = 30 then ⟨-5 ≤ x ∧ x ≤ -3, inferInstance⟩ else ⟨0 < x ∧ (kd x).1 = rc.toNat, inferInstance⟩ : DP) ⟨False, instDecidableFalse⟩).1 := hg
      rw [hc, cond_true] at hg
      have := Nat.eq_of_beq_eq_true hc
      subst this
      refine ⟨x, as', rfl, ?_⟩
      by_cases h30 : rc = 30
      · rw [if_pos h30] at hg ⊢; exact hg
      · rw [if_neg h30] at hg ⊢; exact hg
theorem psh_eq {t : Nat} {z : Rs} {st : List Vl} (ht : rtag z.1 = t) (h10 : Nat.blt t 10 = true) : psh t z st = z.1.toList ++ st := by
  have h10 := Nat.le_of_ble_eq_true h10
  obtain ⟨v, hz⟩ := z
  cases v with
  | none =>
    have : t = 9 := ht.symm
    subst this
    rfl
  | some x =>
    obtain ⟨a, y⟩ := x
    cases hb : Nat.blt a 9 with
    | false =>
      have : rtag (some (a, y)) = 10 := by unfold rtag; dsimp only; rw [hb]; rfl
      dsimp only at ht
      omega
    | true =>
      have e : rtag (some (a, y)) = a := by unfold rtag; dsimp only; rw [hb]; rfl
      have : a = t := e.symm.trans ht
      subst this
      have h9 := Nat.le_of_ble_eq_true hb
      have hn : Nat.beq a 9 = false := by
        cases hq : Nat.beq a 9 with
        | false => rfl
        | true => exact absurd (Nat.eq_of_beq_eq_true hq) (by omega)
      unfold psh
      rw [hn]
      rfl
end INV
theorem ex_rt {n : Nat} : ∀ {M pc : Nat} {ls st : List Vl} {h : Hq} {r : Rs}, ex kd cdt ML RT n M pc ls st h = some r → rtag r.1 = RT M := by
  induction n with
  | zero => intro M pc ls st h r q; cases q
  | succ n ih =>
    intro M pc ls st h r q
    have q : stp kd cdt RT (fun M' as h' => ex kd cdt ML RT n M' 0 (entM (ML M') as) [] h') (fun pc' ls' st' h' => ex kd cdt ML RT n M pc' ls' st' h') M pc ls st h = some r := q
    unfold stp at q
    cases hl : lk pc (cdt M) with
    | none => rw [hl] at q; cases q
    | some w =>
      rw [hl] at q
      dsimp only at q
      generalize act kd w.2.1 w.2.2.1 pc w.1 (fgt w.2.2.2 ls) st h = a at q
      match a, q with
      | none, q => exact bdy_no q
      | some (g, .inl x), q => exact ih (bdy_nx (bdy_g q).2)
      | some (g, .inr (.inl x)), q =>
        obtain ⟨-, q⟩ := bdy_b q
        rcases q with ⟨-, q⟩ | ⟨-, q⟩ <;> exact ih q
      | some (g, .inr (.inr (.inl x))), q =>
        have q := bdy_s (bdy_g q).2
        have : ∀ cs : List (Int × Nat), swi x.1 cs (fun pc => ex kd cdt ML RT n M pc x.2.2.2.1 x.2.2.2.2.1 x.2.2.2.2.2) x.2.2.1 = some r → rtag r.1 = RT M := by
          intro cs
          induction cs with
          | nil => intro q; exact ih q
          | cons b cs ihc =>
            intro q
            unfold swi at q
            by_cases hx : x.1 = b.1
            · rw [if_pos hx] at q; exact ih q
            · rw [if_neg hx] at q; exact ihc q
        exact this _ q
      | some (g, .inr (.inr (.inr (.inl x)))), q =>
        obtain ⟨-, z, -, q⟩ := bdy_a q
        exact ih q
      | some (g, .inr (.inr (.inr (.inr x)))), q =>
        obtain ⟨-, e, rfl⟩ := bdy_r q
        exact e
