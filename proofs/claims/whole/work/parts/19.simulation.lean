/-! THE SIMULATION, whole: what the pure machine says, the machine does -/
theorem dcd_ok {c : ByteArray} {pc len : Nat} {i : Instr} (h : dcd c pc len i = true) : decode c pc = .ok (i, len) := by
  unfold dcd at h
  cases hd : decode c pc with
  | error e => rw [hd] at h; cases h
  | ok r =>
    rw [hd] at h
    obtain ⟨h1, h2⟩ := b_and h
    have h1 := of_decide_eq_true h1
    have h2 := Nat.eq_of_beq_eq_true h2
    obtain ⟨a, b⟩ := r
    dsimp only at h1 h2
    rw [h1, h2]
theorem b_blt {a b : Nat} (h : Nat.blt a b = true) : a < b := Nat.le_of_ble_eq_true h
theorem b_beq {a b : Nat} (h : Nat.beq a b = true) : a = b := Nat.eq_of_beq_eq_true h
theorem b_ble {a b : Nat} (h : Nat.ble a b = true) : a ≤ b := Nat.le_of_ble_eq_true h
theorem b_not {a : Bool} (h : (!a) = true) : a = false := by cases a <;> first | rfl | cases h
theorem b_ff {P : Prop} (h : false = true) : P := by cases h
/-- a class's facts -/
theorem clsAt {ci : Nat} (h : ci < 13) {r : vw_C} (hr : classes[ci]? = some r) : (u_ws r.1 r.2.1 r.2.2).all goodWord = true ∧ (∀ k, k < r.2.2 → parseFieldDescriptor (r.2.1 k).2.2.1 = some (CY ci k)) ∧ (∀ a, a < r.2.2 → ∀ b, b < r.2.2 → a ≠ b → (r.2.1 a).2.1 ≠ (r.2.1 b).2.1) ∧ ∀ k, k < r.2.2 → nfB (CY ci k) = true := by
  have h0 := cls_ok0 ci (List.mem_range.mpr h)
  unfold clsOk at h0
  rw [hr] at h0
  obtain ⟨h0, h4⟩ := b_and h0
  obtain ⟨h0, h3⟩ := b_and h0
  obtain ⟨h1, h2⟩ := b_and h0
  refine ⟨h1, fun k hk => of_decide_eq_true (List.all_eq_true.mp h2 k (List.mem_range.mpr hk)), fun a ha b hb hab => ?_, fun k hk => List.all_eq_true.mp h4 k (List.mem_range.mpr hk)⟩
  have := List.all_eq_true.mp (List.all_eq_true.mp h3 a (List.mem_range.mpr ha)) b (List.mem_range.mpr hb)
  rcases (Bool.or_eq_true _ _).mp this with q | q
  · exact absurd (b_beq q) hab
  · exact of_decide_eq_true q
theorem nfB_0 {ty : FieldType} (h : nfB ty = true) : nfT ty 0 := by
  cases ty <;> first | exact trivial | exact Or.inl rfl | exact b_ff h
/-- a method's facts -/
theorem mtAt {m : Nat} (h : m < 323) : MF m ∧ ∃ q2 q3 : Nat, (sta m = true → tw q2 = some (.static (Yn m))) ∧ (sta m = false → tw q2 = some (.instanceMethod (Yn m))) ∧ (sta m = false → isI m = false → tw q3 = some (.selects (Yn m).cls (Yn m) (Yn m))) := by
  have h0 := mt_at m h
  cases hq : mtL[m]? with
  | none => rw [hq] at h0; cases h0
  | some q =>
    rw [hq] at h0
    have e : q.1 = m := Option.some.inj h0
    have ok := mt_ok q (List.mem_of_getElem? hq)
    unfold mtOk at ok
    rw [e] at ok
    obtain ⟨ok, o8⟩ := b_and ok
    obtain ⟨ok, o7⟩ := b_and ok
    obtain ⟨ok, o6⟩ := b_and ok
    obtain ⟨ok, o5⟩ := b_and ok
    obtain ⟨ok, o4⟩ := b_and ok
    obtain ⟨ok, o3⟩ := b_and ok
    obtain ⟨o1, o2⟩ := b_and ok
    refine ⟨⟨gt_at (of_decide_eq_true o1) rfl, gt_at (of_decide_eq_true o2) rfl, of_decide_eq_true o3, o4, of_decide_eq_true o5, fun hi => ?_⟩, q.2.2.2.2.1, q.2.2.2.2.2, fun hs => ?_, fun hs => ?_, fun hs hi => ?_⟩
    · rw [hi] at o7
      have o7 : (decide ((Yn m).name = "<init>")) = true := by simpa using o7
      exact of_decide_eq_true o7
    · unfold sta at hs
      rw [hq] at hs
      dsimp only at hs
      have o6 := of_decide_eq_true o6
      rw [if_pos (b_beq hs)] at o6
      exact o6
    · unfold sta at hs
      rw [hq] at hs
      dsimp only at hs
      have o6 := of_decide_eq_true o6
      rw [if_neg (fun z => by rw [z] at hs; cases hs)] at o6
      exact o6
    · unfold sta at hs
      rw [hq] at hs
      dsimp only at hs
      rw [hi] at o8
      have hz : ¬ q.2.2.2.1 = 0 := fun z => by rw [z] at hs; cases hs
      rcases (Bool.or_eq_true _ _).mp o8 with o8 | o8
      · rcases (Bool.or_eq_true _ _).mp o8 with o8 | o8
        · exact absurd (of_decide_eq_true o8) hz
        · cases o8
      · exact of_decide_eq_true o8
section ONE
variable {xv : Int → Value} {mE : Mm} {D : va_G} {ca : Nat → ClassId}
/-- what the rest of a run gives, what a call gives -/
def CT (xv : Int → Value) (mE : Mm) (D : va_G) (ca : Nat → ClassId) (M : Nat) (cont : Nat → List Vl → List Vl → Hq → Option Rs) (v : Option Vl) (h' : Hq) : Prop := ∀ pc1 ls1 st1 h1, cont pc1 ls1 st1 h1 = some (v, h') → SM xv mE D ca M pc1 ls1 st1 h1 v h'
def CA (xv : Int → Value) (mE : Mm) (D : va_G) (ca : Nat → ClassId) (call : Nat → List Vl → Hq → Option Rs) : Prop := ∀ M1 as h1 r, M1 < 324 → call M1 as h1 = some r → SM xv mE D ca M1 0 (entM (ML M1) as) [] h1 r.1 r.2 ∧ rtag r.1 = RT M1
variable {call : Nat → List Vl → Hq → Option Rs} {cont : Nat → List Vl → List Vl → Hq → Option Rs} {M pc len : Nat} {o : List Int} {ls st : List Vl} {h : Hq} {v : Option Vl} {h' : Hq}
theorem tgt_ok {pc : Nat} {off : Int} (h : 0 ≤ (pc : Int) + off) : (pc : Int) + off = (tgt pc off : Int) := (Int.toNat_of_nonneg h).symm
theorem one_if {c : Jvm.ClassFile.Cond} {off : Int} (hd : decode (Bt M) pc = .ok (.ifCond c off, len)) (hk : ckI M pc len o (.ifCond c off) = true) (hb : bdy RT (RT M) call cont (act kd (.ifCond c off) o pc len ls st h) = some (v, h')) (hc : CT xv mE D ca M cont v h') : SM xv mE D ca M pc ls st h v h' := by
  obtain ⟨hl, hr⟩ := b_and hk
  have := b_beq hl
  subst this
  have ht := tgt_ok (of_decide_eq_true hr)
  match st, hb with
  | [], hb => exact bdy_no hb
  | (t, x) :: q, hb =>
    (replace hb := bdy_c hb); obtain ⟨e, hb⟩ := hb
    have := b_beq e
    dsimp only at this
    subst this
    (replace hb := bdy_b hb); obtain ⟨-, hb⟩ := hb
    cases c with
    | eq => exact hb.elim (fun q => z_ifT_eq hd ht q.1 (hc _ _ _ _ q.2)) (fun q => z_ifF_eq hd ht q.1 (hc _ _ _ _ q.2))
    | ne => exact hb.elim (fun q => z_ifT_ne hd ht q.1 (hc _ _ _ _ q.2)) (fun q => z_ifF_ne hd ht q.1 (hc _ _ _ _ q.2))
    | lt => exact hb.elim (fun q => z_ifT_lt hd ht q.1 (hc _ _ _ _ q.2)) (fun q => z_ifF_lt hd ht q.1 (hc _ _ _ _ q.2))
    | ge => exact hb.elim (fun q => z_ifT_ge hd ht q.1 (hc _ _ _ _ q.2)) (fun q => z_ifF_ge hd ht q.1 (hc _ _ _ _ q.2))
    | gt => exact hb.elim (fun q => z_ifT_gt hd ht q.1 (hc _ _ _ _ q.2)) (fun q => z_ifF_gt hd ht q.1 (hc _ _ _ _ q.2))
    | le => exact hb.elim (fun q => z_ifT_le hd ht q.1 (hc _ _ _ _ q.2)) (fun q => z_ifF_le hd ht q.1 (hc _ _ _ _ q.2))
theorem one_ic {c : Jvm.ClassFile.Cond} {off : Int} (hd : decode (Bt M) pc = .ok (.if_icmp c off, len)) (hk : ckI M pc len o (.if_icmp c off) = true) (hb : bdy RT (RT M) call cont (act kd (.if_icmp c off) o pc len ls st h) = some (v, h')) (hc : CT xv mE D ca M cont v h') : SM xv mE D ca M pc ls st h v h' := by
  obtain ⟨hl, hr⟩ := b_and hk
  have := b_beq hl
  subst this
  have ht := tgt_ok (of_decide_eq_true hr)
  match st, hb with
  | [], hb => exact bdy_no hb
  | [_], hb => exact bdy_no hb
  | (t2, y) :: (t, x) :: q, hb =>
    (replace hb := bdy_c hb); obtain ⟨e, hb⟩ := hb
    obtain ⟨e, e2⟩ := b_and e
    have := b_beq e
    dsimp only at this
    subst this
    have := b_beq e2
    dsimp only at this
    subst this
    (replace hb := bdy_b hb); obtain ⟨-, hb⟩ := hb
    cases c with
    | eq => exact hb.elim (fun q => z_icT_eq hd ht q.1 (hc _ _ _ _ q.2)) (fun q => z_icF_eq hd ht q.1 (hc _ _ _ _ q.2))
    | ne => exact hb.elim (fun q => z_icT_ne hd ht q.1 (hc _ _ _ _ q.2)) (fun q => z_icF_ne hd ht q.1 (hc _ _ _ _ q.2))
    | lt => exact hb.elim (fun q => z_icT_lt hd ht q.1 (hc _ _ _ _ q.2)) (fun q => z_icF_lt hd ht q.1 (hc _ _ _ _ q.2))
    | ge => exact hb.elim (fun q => z_icT_ge hd ht q.1 (hc _ _ _ _ q.2)) (fun q => z_icF_ge hd ht q.1 (hc _ _ _ _ q.2))
    | gt => exact hb.elim (fun q => z_icT_gt hd ht q.1 (hc _ _ _ _ q.2)) (fun q => z_icF_gt hd ht q.1 (hc _ _ _ _ q.2))
    | le => exact hb.elim (fun q => z_icT_le hd ht q.1 (hc _ _ _ _ q.2)) (fun q => z_icF_le hd ht q.1 (hc _ _ _ _ q.2))
theorem one_nn {off : Int} (hd : decode (Bt M) pc = .ok (.ifnonnull off, len)) (hk : ckI M pc len o (.ifnonnull off) = true) (hb : bdy RT (RT M) call cont (act kd (.ifnonnull off) o pc len ls st h) = some (v, h')) (hc : CT xv mE D ca M cont v h') : SM xv mE D ca M pc ls st h v h' := by
  obtain ⟨hl, hr⟩ := b_and hk
  have := b_beq hl
  subst this
  have ht := tgt_ok (of_decide_eq_true hr)
  match st, hb with
  | [], hb => exact bdy_no hb
  | (t, x) :: q, hb =>
    (replace hb := bdy_c hb); obtain ⟨e, hb⟩ := hb
    have := b_beq e
    dsimp only at this
    subst this
    (replace hb := bdy_b hb); obtain ⟨h0, hb⟩ := hb
    have h0 : 0 ≤ x := h0
    rcases hb with ⟨c1, hb⟩ | ⟨c1, hb⟩
    · have c1 : x ≠ 0 := c1
      exact z_nnT hd ht (by omega) (hc _ _ _ _ hb)
    · have c1 : ¬ x ≠ 0 := c1
      have : x = 0 := by omega
      subst this
      exact z_nnF hd (hc _ _ _ _ hb)
theorem one_sw {d lo hi : Int} {offs : Array Int} (hd : decode (Bt M) pc = .ok (.tableswitch d lo hi offs, len)) (hk : ckI M pc len o (.tableswitch d lo hi offs) = true) (hb : bdy RT (RT M) call cont (act kd (.tableswitch d lo hi offs) o pc len ls st h) = some (v, h')) (hc : CT xv mE D ca M cont v h') : SM xv mE D ca M pc ls st h v h' := by
  obtain ⟨h1, hr⟩ := b_and hk
  obtain ⟨h2, h3⟩ := b_and hr
  have h1 := of_decide_eq_true h1
  have h2 := of_decide_eq_true h2
  match st, hb with
  | [], hb => exact bdy_no hb
  | (t, x) :: q, hb =>
    (replace hb := bdy_c hb); obtain ⟨e, hb⟩ := hb
    have := b_beq e
    dsimp only at this
    subst this
    have hb := bdy_s hb
    rcases swi_at _ _ hb with ⟨j, off, g1, g2, g3⟩ | ⟨g1, g3⟩
    · have g4 := of_decide_eq_true (List.all_eq_true.mp h3 off (List.mem_of_getElem? g1))
      have g5 := (List.getElem?_eq_some_iff.mp g1).1
      exact z_swT hd (by rw [← Array.getElem?_toList]; exact g1) g2 (by dsimp only at g2 ⊢; omega) (tgt_ok g4) (hc _ _ _ _ g3)
    · exact z_swF hd (by dsimp only at g1 ⊢; omega) (tgt_ok h1) (hc _ _ _ _ g3)
theorem one_getf {j : Nat} (hd : decode (Bt M) pc = .ok (.getfield j, len)) (hk : ckI M pc len o (.getfield j) = true) (hb : bdy RT (RT M) call cont (act kd (.getfield j) o pc len ls st h) = some (v, h')) (hc : CT xv mE D ca M cont v h') : SM xv mE D ca M pc ls st h v h' := by
  (replace hk := b_and hk); obtain ⟨hl, hk⟩ := hk
  have := b_beq hl
  subst this
  match o, hk, hb with
  | [p, ci, k, t], hk, hb =>
    match st, hb with
    | [], hb => exact bdy_no hb
    | (t1, x) :: q, hb =>
      (replace hb := bdy_c hb); obtain ⟨e, hb⟩ := hb
      have := b_beq e
      dsimp only at this
      subst this
      dsimp only at hk hb
      by_cases h99 : ci = 99
      · rw [if_pos h99] at hk hb
        (replace hb := bdy_n hb); obtain ⟨g, hb⟩ := hb
        exact z_getS hd (of_decide_eq_true hk) g (hc _ _ _ _ hb)
      · rw [if_neg h99] at hk hb
        (replace hb := bdy_n hb); obtain ⟨g, hb⟩ := hb
        unfold ckF at hk
        cases hr : classes[ci.toNat]? with
        | none => rw [hr] at hk; cases hk
        | some r =>
          rw [hr] at hk
          (replace hk := b_and hk); obtain ⟨k1, hk⟩ := hk
          (replace hk := b_and hk); obtain ⟨k2, hk⟩ := hk
          (replace hk := b_and hk); obtain ⟨k3, hk⟩ := hk
          obtain ⟨k4, k5⟩ := b_and hk
          have k1 := b_blt k1
          have k2 := of_decide_eq_true k2
          obtain ⟨c1, c2, c3, c4⟩ := clsAt k1 hr
          have ek : ((k.toNat : Nat) : Int) = k := Int.toNat_of_nonneg k2
          have := hc _ _ _ _ hb
          rw [← ek] at this
          exact z_getf (C := r.1) (T := r.2.1) (N := r.2.2) hd hr (by omega) (u_inA _ r hr) c1 (b_blt k3) (of_decide_eq_true k4) (b_beq k5) g this
  | [], hk, hb => exact b_ff hk
  | [_], hk, hb => exact b_ff hk
  | [_, _], hk, hb => exact b_ff hk
  | [_, _, _], hk, hb => exact b_ff hk
  | _ :: _ :: _ :: _ :: _ :: _, hk, hb => exact b_ff hk
theorem one_putf {j : Nat} (hd : decode (Bt M) pc = .ok (.putfield j, len)) (hk : ckI M pc len o (.putfield j) = true) (hb : bdy RT (RT M) call cont (act kd (.putfield j) o pc len ls st h) = some (v, h')) (hc : CT xv mE D ca M cont v h') : SM xv mE D ca M pc ls st h v h' := by
  (replace hk := b_and hk); obtain ⟨hl, hk⟩ := hk
  have := b_beq hl
  subst this
  match o, hk, hb with
  | [p, ci, k, t], hk, hb =>
    match st, hb with
    | [], hb => exact bdy_no hb
    | [_], hb => exact bdy_no hb
    | (t2, y) :: (t1, x) :: q, hb =>
      (replace hb := bdy_c hb); obtain ⟨e, hb⟩ := hb
      obtain ⟨e, e2⟩ := b_and e
      have := b_beq e
      dsimp only at this
      subst this
      have := b_beq e2
      dsimp only at this
      subst this
      dsimp only at hk hb
      (replace hb := bdy_n hb); obtain ⟨⟨g, g2⟩, hb⟩ := hb
      obtain ⟨hk, hp⟩ := b_and hk
      unfold ckF at hk
      unfold ckP at hp
      cases hr : classes[ci.toNat]? with
      | none => rw [hr] at hk; cases hk
      | some r =>
        rw [hr] at hk hp
        (replace hk := b_and hk); obtain ⟨k1, hk⟩ := hk
        (replace hk := b_and hk); obtain ⟨k2, hk⟩ := hk
        (replace hk := b_and hk); obtain ⟨k3, hk⟩ := hk
        obtain ⟨k4, k5⟩ := b_and hk
        obtain ⟨p1, p2⟩ := b_and hp
        have k1 := b_blt k1
        have k2 := of_decide_eq_true k2
        obtain ⟨c1, c2, c3, c4⟩ := clsAt k1 hr
        have ek : ((k.toNat : Nat) : Int) = k := Int.toNat_of_nonneg k2
        have := hc _ _ _ _ hb
        rw [← ek] at this
        refine z_putf (C := r.1) (T := r.2.1) (N := r.2.2) hd hr (by omega) (u_inA _ r hr) c1 (b_blt k3) c2 c3 (of_decide_eq_true k4) (b_beq k5) ?_ ?_ g this
        · cases hy : CY ci.toNat k.toNat with
          | boolean =>
            rw [hy] at p2
            have p2 : t = 3 := of_decide_eq_true p2
            have g2 : (okT t y).1 := g2
            unfold okT at g2
            rw [if_pos p2] at g2
            exact g2
          | int => exact trivial
          | long => exact trivial
          | object _ => exact trivial
          | array _ => exact trivial
          | _ => rw [hy] at p2; exact b_ff p2
        · rcases (Bool.or_eq_true _ _).mp p1 with p1 | p1
          · exact Or.inl (b_not p1)
          · exact Or.inr ⟨(b_and p1).1, of_decide_eq_true (b_and p1).2⟩
  | [], hk, hb => exact b_ff hk
  | [_], hk, hb => exact b_ff hk
  | [_, _], hk, hb => exact b_ff hk
  | [_, _, _], hk, hb => exact b_ff hk
  | _ :: _ :: _ :: _ :: _ :: _, hk, hb => exact b_ff hk
theorem one_gets {j : Nat} (hd : decode (Bt M) pc = .ok (.getstatic j, len)) (hk : ckI M pc len o (.getstatic j) = true) (hb : bdy RT (RT M) call cont (act kd (.getstatic j) o pc len ls st h) = some (v, h')) (hc : CT xv mE D ca M cont v h') : SM xv mE D ca M pc ls st h v h' := by
  (replace hk := b_and hk); obtain ⟨hl, hk⟩ := hk
  have := b_beq hl
  subst this
  match o, hk, hb with
  | [p, s], hk, hb =>
    have hb := hc _ _ _ _ (bdy_nx hb)
    dsimp only at hk hb
    by_cases s0 : s = 0
    · rw [if_pos s0] at hk hb
      exact z_gets0 hd (of_decide_eq_true hk) hb
    · rw [if_neg s0] at hk hb
      by_cases s1 : s = 1
      · rw [if_pos s1] at hk hb
        exact z_gets1 hd (of_decide_eq_true hk) hb
      · rw [if_neg s1] at hk hb
        exact z_gets2 hd (of_decide_eq_true hk) hb
  | [], hk, hb => exact b_ff hk
  | [_], hk, hb => exact b_ff hk
  | _ :: _ :: _ :: _, hk, hb => exact b_ff hk
theorem z_ldcS1 {j i : Nat} {tx : String} (hd : decode (Bt M) pc = .ok (.ldc j, 2)) (hi : i < 3) (hs : strL[i]? = some (CL M, j, tx)) (k : SM xv mE D ca M (pc + 2) ls ((2, -3 - (i : Int)) :: st) h v h') : SM xv mE D ca M pc ls st h v h' :=
  ⟨k.1, fun p l e R s m args below meth c A Q n0 ad0 cb sb B r1 r2 hR ad H locs lsR cells slots w o1 o2 lv e1 e2 => (z_ldcS hd hi hs w.2.2.2.1.1 k).2 p l e R s m args below meth c A Q n0 ad0 cb sb B r1 r2 hR ad H locs lsR cells slots w o1 o2 lv e1 e2⟩
theorem one_ldc {j : Nat} (hd : decode (Bt M) pc = .ok (.ldc j, len)) (hk : ckI M pc len o (.ldc j) = true) (hb : bdy RT (RT M) call cont (act kd (.ldc j) o pc len ls st h) = some (v, h')) (hc : CT xv mE D ca M cont v h') : SM xv mE D ca M pc ls st h v h' := by
  (replace hk := b_and hk); obtain ⟨hl, hk⟩ := hk
  have := b_beq hl
  subst this
  match o, hk, hb with
  | [p, x], hk, hb =>
    obtain ⟨k1, k2⟩ := b_and hk
    exact z_ldc hd (of_decide_eq_true k1) (of_decide_eq_true k2) (hc _ _ _ _ (bdy_nx hb))
  | [k], hk, hb =>
    obtain ⟨k1, k2⟩ := b_and hk
    have k1 := of_decide_eq_true k1
    have k2 := of_decide_eq_true k2
    cases hs : strL[(-3 - k).toNat]? with
    | none => rw [hs] at k2; cases k2
    | some r =>
      rw [hs] at k2
      obtain ⟨a, b, c⟩ := r
      have k2 : (a, b) = (CL M, j) := Option.some.inj k2
      injection k2 with ea eb
      subst ea
      subst eb
      have ek : -3 - (((-3 - k).toNat : Nat) : Int) = k := by omega
      have hb := hc _ _ _ _ (bdy_nx hb)
      rw [← ek] at hb
      exact z_ldcS1 hd (by omega) hs hb
  | [], hk, hb => exact b_ff hk
  | _ :: _ :: _ :: _, hk, hb => exact b_ff hk
theorem one_ldcw {j : Nat} (hd : decode (Bt M) pc = .ok (.ldc_w j, len)) (hk : ckI M pc len o (.ldc_w j) = true) (hb : bdy RT (RT M) call cont (act kd (.ldc_w j) o pc len ls st h) = some (v, h')) (hc : CT xv mE D ca M cont v h') : SM xv mE D ca M pc ls st h v h' := by
  (replace hk := b_and hk); obtain ⟨hl, hk⟩ := hk
  have := b_beq hl
  subst this
  match o, hk, hb with
  | [p, x], hk, hb =>
    obtain ⟨k1, k2⟩ := b_and hk
    exact z_ldcw hd (of_decide_eq_true k1) (of_decide_eq_true k2) (hc _ _ _ _ (bdy_nx hb))
  | [], hk, hb => exact b_ff hk
  | [_], hk, hb => exact b_ff hk
  | _ :: _ :: _ :: _, hk, hb => exact b_ff hk
theorem one_ldc2 {j : Nat} (hd : decode (Bt M) pc = .ok (.ldc2_w j, len)) (hk : ckI M pc len o (.ldc2_w j) = true) (hb : bdy RT (RT M) call cont (act kd (.ldc2_w j) o pc len ls st h) = some (v, h')) (hc : CT xv mE D ca M cont v h') : SM xv mE D ca M pc ls st h v h' := by
  (replace hk := b_and hk); obtain ⟨hl, hk⟩ := hk
  have := b_beq hl
  subst this
  match o, hk, hb with
  | [p, x], hk, hb =>
    obtain ⟨k1, k2⟩ := b_and hk
    exact z_ldc2 hd (of_decide_eq_true k1) (of_decide_eq_true k2) (hc _ _ _ _ (bdy_nx hb))
  | [], hk, hb => exact b_ff hk
  | [_], hk, hb => exact b_ff hk
  | _ :: _ :: _ :: _, hk, hb => exact b_ff hk
/-- arrays -/
theorem one_iald (hd : decode (Bt M) pc = .ok (.iaload, len)) (hk : ckI M pc len o .iaload = true) (hb : bdy RT (RT M) call cont (act kd .iaload o pc len ls st h) = some (v, h')) (hc : CT xv mE D ca M cont v h') : SM xv mE D ca M pc ls st h v h' := by
  have := b_beq (show Nat.beq len 1 = true from hk)
  subst this
  match o, hb with
  | [], hb =>
    (replace hb := ald_i hb); obtain ⟨i, a, q, rfl, g, hb⟩ := hb
    exact z_iald hd g (hc _ _ _ _ hb)
  | _ :: _, hb =>
    match st, hb with
    | [], hb => exact bdy_no hb
    | [_], hb => exact bdy_no hb
    | (t2, y) :: (t1, x) :: q, hb =>
      (replace hb := bdy_c hb); obtain ⟨e, hb⟩ := hb
      obtain ⟨e, e2⟩ := b_and e
      have := b_beq e
      dsimp only at this
      subst this
      have := b_beq e2
      dsimp only at this
      subst this
      (replace hb := bdy_n hb); obtain ⟨g, hb⟩ := hb
      exact z_iald1 hd g (hc _ _ _ _ hb)
theorem one_alen (hd : decode (Bt M) pc = .ok (.arraylength, len)) (hk : ckI M pc len o .arraylength = true) (hb : bdy RT (RT M) call cont (act kd .arraylength o pc len ls st h) = some (v, h')) (hc : CT xv mE D ca M cont v h') : SM xv mE D ca M pc ls st h v h' := by
  have := b_beq (show Nat.beq len 1 = true from hk)
  subst this
  match o, hb with
  | [], hb =>
    match st, hb with
    | [], hb => exact bdy_no hb
    | (t2, y) :: q, hb =>
      (replace hb := bdy_c hb); obtain ⟨e, hb⟩ := hb
      have := b_beq e
      dsimp only at this
      subst this
      (replace hb := bdy_n hb); obtain ⟨g, hb⟩ := hb
      exact z_alen hd g (hc _ _ _ _ hb)
  | _ :: _, hb =>
    match st, hb with
    | [], hb => exact bdy_no hb
    | (t2, y) :: q, hb =>
      (replace hb := bdy_c hb); obtain ⟨e, hb⟩ := hb
      have := b_beq e
      dsimp only at this
      subst this
      (replace hb := bdy_n hb); obtain ⟨g, hb⟩ := hb
      exact z_alen1 hd g (hc _ _ _ _ hb)
theorem kk21 {k : Int} (h : k = 21 ∨ k = 22) : k.toNat = 21 ∨ k.toNat = 22 := by omega
theorem kk24 {k : Int} (h : k = 24 ∨ k = 25) : k.toNat = 24 ∨ k.toNat = 25 := by omega
theorem one_bald (hd : decode (Bt M) pc = .ok (.baload, len)) (hk : ckI M pc len o .baload = true) (hb : bdy RT (RT M) call cont (act kd .baload o pc len ls st h) = some (v, h')) (hc : CT xv mE D ca M cont v h') : SM xv mE D ca M pc ls st h v h' := by
  (replace hk := b_and hk); obtain ⟨hl, hk⟩ := hk
  have := b_beq hl
  subst this
  match o, hk, hb with
  | [k], hk, hb =>
    (replace hb := ald_i hb); obtain ⟨i, a, q, rfl, g, hb⟩ := hb
    exact z_bald hd (kk21 (of_decide_eq_true hk)) g (hc _ _ _ _ hb)
  | [], hk, hb => exact b_ff hk
  | _ :: _ :: _, hk, hb => exact b_ff hk
theorem one_aald (hd : decode (Bt M) pc = .ok (.aaload, len)) (hk : ckI M pc len o .aaload = true) (hb : bdy RT (RT M) call cont (act kd .aaload o pc len ls st h) = some (v, h')) (hc : CT xv mE D ca M cont v h') : SM xv mE D ca M pc ls st h v h' := by
  (replace hk := b_and hk); obtain ⟨hl, hk⟩ := hk
  have := b_beq hl
  subst this
  match o, hk, hb with
  | [k], hk, hb =>
    (replace hb := ald_i hb); obtain ⟨i, a, q, rfl, g, hb⟩ := hb
    exact z_aald hd (kk24 (of_decide_eq_true hk)) g (hc _ _ _ _ hb)
  | [], hk, hb => exact b_ff hk
  | _ :: _ :: _, hk, hb => exact b_ff hk
theorem one_bast (hd : decode (Bt M) pc = .ok (.bastore, len)) (hk : ckI M pc len o .bastore = true) (hb : bdy RT (RT M) call cont (act kd .bastore o pc len ls st h) = some (v, h')) (hc : CT xv mE D ca M cont v h') : SM xv mE D ca M pc ls st h v h' := by
  (replace hk := b_and hk); obtain ⟨hl, hk⟩ := hk
  have := b_beq hl
  subst this
  match o, hk, hb with
  | [k], hk, hb =>
    (replace hb := ast_i (f := fun v => if k = 21 then w8 v else v % 2) hb); obtain ⟨x, i, a, q, rfl, g, hb⟩ := hb
    have hk := of_decide_eq_true hk
    refine z_bast hd (kk21 hk) g ?_
    have e : (if k.toNat = 21 then w8 x else x % 2) = (if k = 21 then w8 x else x % 2) := by
      rcases hk with rfl | rfl <;> rfl
    rw [e]
    exact hc _ _ _ _ hb
  | [], hk, hb => exact b_ff hk
  | _ :: _ :: _, hk, hb => exact b_ff hk
theorem one_aast (hd : decode (Bt M) pc = .ok (.aastore, len)) (hk : ckI M pc len o .aastore = true) (hb : bdy RT (RT M) call cont (act kd .aastore o pc len ls st h) = some (v, h')) (hc : CT xv mE D ca M cont v h') : SM xv mE D ca M pc ls st h v h' := by
  (replace hk := b_and hk); obtain ⟨hl, hk⟩ := hk
  have := b_beq hl
  subst this
  match o, hk, hb with
  | [k], hk, hb =>
    match st, hb with
    | [], hb => exact bdy_no hb
    | [_], hb => exact bdy_no hb
    | [_, _], hb => exact bdy_no hb
    | (t3, z) :: (t2, y) :: (t1, x) :: q, hb =>
      (replace hb := bdy_c hb); obtain ⟨e, hb⟩ := hb
      obtain ⟨e, e3⟩ := b_and e
      obtain ⟨e, e2⟩ := b_and e
      have := b_beq e
      dsimp only at this
      subst this
      have := b_beq e2
      dsimp only at this
      subst this
      have := b_beq e3
      dsimp only at this
      subst this
      (replace hb := bdy_n hb); obtain ⟨g, hb⟩ := hb
      have hk := of_decide_eq_true hk
      refine z_aast hd (kk24 hk) ?_ (hc _ _ _ _ hb)
      rcases hk with rfl | rfl <;> exact g
  | [], hk, hb => exact b_ff hk
  | _ :: _ :: _, hk, hb => exact b_ff hk
theorem one_newa {t : Jvm.ClassFile.ArrayType} (hd : decode (Bt M) pc = .ok (.newarray t, len)) (hk : ckI M pc len o (.newarray t) = true) (hb : bdy RT (RT M) call cont (act kd (.newarray t) o pc len ls st h) = some (v, h')) (hc : CT xv mE D ca M cont v h') : SM xv mE D ca M pc ls st h v h' := by
  (replace hk := b_and hk); obtain ⟨hl, hk⟩ := hk
  have := b_beq hl
  subst this
  match o, hk, hb with
  | [p, k], hk, hb =>
    (replace hk := b_and hk); obtain ⟨k1, hk⟩ := hk
    obtain ⟨k2, k3⟩ := b_and hk
    have k1 := of_decide_eq_true k1
    have k2 := of_decide_eq_true k2
    match st, hb with
    | [], hb => exact bdy_no hb
    | (t2, y) :: q, hb =>
      (replace hb := bdy_c hb); obtain ⟨e, hb⟩ := hb
      have := b_beq e
      dsimp only at this
      subst this
      (replace hb := bdy_n hb); obtain ⟨g, hb⟩ := hb
      rw [k2] at hd
      exact z_newa hd (by omega) (of_decide_eq_true k3) g (hc _ _ _ _ hb)
  | [], hk, hb => exact b_ff hk
  | [_], hk, hb => exact b_ff hk
  | _ :: _ :: _ :: _, hk, hb => exact b_ff hk
theorem one_anew {j : Nat} (hd : decode (Bt M) pc = .ok (.anewarray j, len)) (hk : ckI M pc len o (.anewarray j) = true) (hb : bdy RT (RT M) call cont (act kd (.anewarray j) o pc len ls st h) = some (v, h')) (hc : CT xv mE D ca M cont v h') : SM xv mE D ca M pc ls st h v h' := by
  (replace hk := b_and hk); obtain ⟨hl, hk⟩ := hk
  have := b_beq hl
  subst this
  match o, hk, hb with
  | [p, k], hk, hb =>
    match st, hb with
    | [], hb => exact bdy_no hb
    | (t2, y) :: q, hb =>
      (replace hb := bdy_c hb); obtain ⟨e, hb⟩ := hb
      have := b_beq e
      dsimp only at this
      subst this
      (replace hb := bdy_n hb); obtain ⟨g, hb⟩ := hb
      have hq := hc _ _ _ _ hb
      rcases (Bool.or_eq_true _ _).mp hk with hk | hk
      · obtain ⟨k1, k2⟩ := b_and hk
        have k1 := of_decide_eq_true k1
        subst k1
        exact z_anew25 hd (of_decide_eq_true k2) g hq
      · obtain ⟨k1, k2⟩ := b_and hk
        have k1 := of_decide_eq_true k1
        subst k1
        exact z_anew24 hd (of_decide_eq_true k2) g hq
  | [], hk, hb => exact b_ff hk
  | [_], hk, hb => exact b_ff hk
  | _ :: _ :: _ :: _, hk, hb => exact b_ff hk
theorem one_mna {j n : Nat} (hd : decode (Bt M) pc = .ok (.multianewarray j n, len)) (hk : ckI M pc len o (.multianewarray j n) = true) (hb : bdy RT (RT M) call cont (act kd (.multianewarray j n) o pc len ls st h) = some (v, h')) (hc : CT xv mE D ca M cont v h') : SM xv mE D ca M pc ls st h v h' := by
  (replace hk := b_and hk); obtain ⟨hl, hk⟩ := hk
  have := b_beq hl
  subst this
  (replace hk := b_and hk); obtain ⟨hn, hk⟩ := hk
  have := b_beq hn
  subst this
  match o, hk with
  | [], hk => exact b_ff hk
  | p :: _, hk =>
    match st, hb with
    | [], hb => exact bdy_no hb
    | [_], hb => exact bdy_no hb
    | (t2, y) :: (t1, x) :: q, hb =>
      (replace hb := bdy_c hb); obtain ⟨e, hb⟩ := hb
      obtain ⟨e, e2⟩ := b_and e
      have := b_beq e
      dsimp only at this
      subst this
      have := b_beq e2
      dsimp only at this
      subst this
      (replace hb := bdy_n hb); obtain ⟨g, hb⟩ := hb
      exact z_mna hd (of_decide_eq_true hk) wd_int g (hc _ _ _ _ hb)
theorem one_new {j : Nat} (hd : decode (Bt M) pc = .ok (.new j, len)) (hk : ckI M pc len o (.new j) = true) (hb : bdy RT (RT M) call cont (act kd (.new j) o pc len ls st h) = some (v, h')) (hc : CT xv mE D ca M cont v h') : SM xv mE D ca M pc ls st h v h' := by
  (replace hk := b_and hk); obtain ⟨hl, hk⟩ := hk
  have := b_beq hl
  subst this
  match o, hk, hb with
  | [p, ci], hk, hb =>
    (replace hb := bdy_n hb); obtain ⟨g, hb⟩ := hb
    have hk : ckN M j p ci = true := hk
    unfold ckN at hk
    cases hr : classes[ci.toNat]? with
    | none => rw [hr] at hk; cases hk
    | some r =>
      rw [hr] at hk
      (replace hk := b_and hk); obtain ⟨k1, hk⟩ := hk
      (replace hk := b_and hk); obtain ⟨k2, hk⟩ := hk
      have k1 := b_blt k1
      obtain ⟨c1, c2, c3, c4⟩ := clsAt k1 hr
      cases hn : newP[ci.toNat]? with
      | none => rw [hn] at hk; exact b_ff hk
      | some q =>
        rw [hn] at hk
        obtain ⟨k3, k4⟩ := b_and hk
        exact z_new (C := r.1) (T := r.2.1) (N := r.2.2) hd hr (by omega) (u_inA _ r hr) c1 c2 (fun k hk => nfB_0 (c4 k hk)) (of_decide_eq_true k2) (of_decide_eq_true k3) (of_decide_eq_true k4) g (fun _ => trivial) (hc _ _ _ _ hb)
  | [], hk, hb => exact b_ff hk
  | [_], hk, hb => exact b_ff hk
  | _ :: _ :: _ :: _, hk, hb => exact b_ff hk
/-- calls -/
theorem ckV_i {M j k : Nat} {o : List Int} (h : ckV M j o k = true) : ∃ M' n rc mx p w, o = [M', n, rc, mx, p, w] ∧ ckV1 M j M'.toNat n.toNat rc mx p w k = true := by
  unfold ckV at h
  split at h
  · exact ⟨_, _, _, _, _, _, rfl, h⟩
  · cases h
theorem lnk_i {M j m : Nat} {p w : Int} (h : lnk M j m p w = true) : (w < 3 ∧ tw p.toNat = some (.methodLink (CL M) j (Yn m))) ∨ ∃ host, (CL M, j, Yn m, host) ∈ nstL := by
  unfold lnk at h
  by_cases hw : w < 3
  · rw [if_pos hw] at h; exact Or.inl ⟨hw, of_decide_eq_true h⟩
  · rw [if_neg hw] at h
    right
    have h := of_decide_eq_true h
    cases hq : nstL[p.toNat]? with
    | none => rw [hq] at h; cases h
    | some q =>
      rw [hq] at h
      obtain ⟨a, b, c, d⟩ := q
      have h : (a, b, c) = (CL M, j, Yn m) := Option.some.inj h
      injection h with e1 h
      injection h with e2 e3
      subst e1
      subst e2
      subst e3
      exact ⟨d, List.mem_of_getElem? hq⟩
theorem one_invS {j : Nat} (hd : decode (Bt M) pc = .ok (.invokestatic j, len)) (hk : ckI M pc len o (.invokestatic j) = true) (hb : bdy RT (RT M) call cont (act kd (.invokestatic j) o pc len ls st h) = some (v, h')) (hc : CT xv mE D ca M cont v h') (ha : CA xv mE D ca call) : SM xv mE D ca M pc ls st h v h' := by
  (replace hk := b_and hk); obtain ⟨hl, hk⟩ := hk
  have := b_beq hl
  subst this
  split at hk
  · rename_i p
    (replace hk := b_and hk); obtain ⟨k1, hk⟩ := hk
    obtain ⟨k2, k3⟩ := b_and hk
    match st, hb with
    | [], hb => exact bdy_no hb
    | [_], hb => exact bdy_no hb
    | [_, _], hb => exact bdy_no hb
    | [_, _, _], hb => exact bdy_no hb
    | [_, _, _, _], hb => exact bdy_no hb
    | (tn, n) :: (td, d) :: (tb, b) :: (ts, s) :: (ta, a) :: q, hb =>
      (replace hb := bdy_c hb); obtain ⟨e, hb⟩ := hb
      obtain ⟨e, e6⟩ := b_and e
      obtain ⟨e, e5⟩ := b_and e
      obtain ⟨e, e4⟩ := b_and e
      obtain ⟨e, e3⟩ := b_and e
      obtain ⟨e, e2⟩ := b_and e
      have := b_beq e
      dsimp only at this
      subst this
      have := b_beq e2
      dsimp only at this
      subst this
      have := b_beq e3
      dsimp only at this
      subst this
      have := b_beq e4
      dsimp only at this
      subst this
      have := b_beq e5
      dsimp only at this
      subst this
      (replace hb := bdy_n hb); obtain ⟨g, hb⟩ := hb
      exact z_cpy hd (of_decide_eq_true k1) wd_cpy.1 wd_cpy.2.1 wd_cpy.2.2 (b_ble e6) (b_ble k2) (b_ble k3) g (hc _ _ _ _ hb)
  · exact bdy_no hb
  · (replace hk := ckV_i hk); obtain ⟨M', n, rc, mx, p, w, rfl, hk⟩ := hk
    have hq := inv_i (show bdy RT (RT M) call cont (inv kd [M', n, rc, mx, p, w] false pc 3 ls st h) = some (v, h') from hb)
    clear hb
    obtain ⟨as, st1, rfl, e1, e2, e3, -, z, hz, hb⟩ := hq
    unfold ckV1 at hk
    (replace hk := b_and hk); obtain ⟨k1, hk⟩ := hk
    (replace hk := b_and hk); obtain ⟨k2, hk⟩ := hk
    (replace hk := b_and hk); obtain ⟨k3, hk⟩ := hk
    (replace hk := b_and hk); obtain ⟨k4, hk⟩ := hk
    (replace hk := b_and hk); obtain ⟨k5, hk⟩ := hk
    (replace hk := b_and hk); obtain ⟨k6, hk⟩ := hk
    (replace hk := b_and hk); obtain ⟨k7, hk⟩ := hk
    have k1 := b_blt k1
    have k2 := b_ble k2
    obtain ⟨mf, q2, q3, m1, m2, m3⟩ := mtAt k1
    obtain ⟨s1, s2⟩ := ha _ _ _ _ (by omega) hz
    rw [psh_eq s2 k5] at hb
    have k6 : NP M'.toNat n.toNat := (of_decide_eq_true k6 : _ = _)
    have hs : sta M'.toNat = true := hk
    rcases lnk_i k7 with ⟨-, k7⟩ | ⟨host, k7⟩
    · exact z_callS hd mf k7 (m1 hs) k6 e1 e2 (by omega) (b_ble k3) (b_ble k4) rfl s1 (hc _ _ _ _ hb)
    · exact z_callSN hd mf k7 (m1 hs) k6 e1 e2 (by omega) (b_ble k3) (b_ble k4) rfl s1 (hc _ _ _ _ hb)
theorem one_invV {j : Nat} (hd : decode (Bt M) pc = .ok (.invokevirtual j, len)) (hk : ckI M pc len o (.invokevirtual j) = true) (hb : bdy RT (RT M) call cont (act kd (.invokevirtual j) o pc len ls st h) = some (v, h')) (hc : CT xv mE D ca M cont v h') (ha : CA xv mE D ca call) : SM xv mE D ca M pc ls st h v h' := by
  (replace hk := b_and hk); obtain ⟨hl, hk⟩ := hk
  have := b_beq hl
  subst this
  (replace hk := ckV_i hk); obtain ⟨M', n, rc, mx, p, w, rfl, hk⟩ := hk
  have hq := inv_i (show bdy RT (RT M) call cont (inv kd [M', n, rc, mx, p, w] true pc 3 ls st h) = some (v, h') from hb)
  clear hb
  obtain ⟨as, st1, rfl, e1, e2, e3, g0, z, hz, hb⟩ := hq
  obtain ⟨x, as', rfl, g⟩ := g0 rfl
  unfold ckV1 at hk
  (replace hk := b_and hk); obtain ⟨k1, hk⟩ := hk
  (replace hk := b_and hk); obtain ⟨k2, hk⟩ := hk
  (replace hk := b_and hk); obtain ⟨k3, hk⟩ := hk
  (replace hk := b_and hk); obtain ⟨k4, hk⟩ := hk
  (replace hk := b_and hk); obtain ⟨k5, hk⟩ := hk
  (replace hk := b_and hk); obtain ⟨k6, hk⟩ := hk
  (replace hk := b_and hk); obtain ⟨k7, hk⟩ := hk
  rw [if_neg (by decide), if_pos rfl] at hk
  (replace hk := b_and hk); obtain ⟨hs, hk⟩ := hk
  (replace hk := b_and hk); obtain ⟨hi, hk⟩ := hk
  (replace hk := b_and hk); obtain ⟨hw, hk⟩ := hk
  have hw := of_decide_eq_true hw
  have hs := b_not hs
  have hi := b_not hi
  have k1 := b_blt k1
  have k2 := b_ble k2
  obtain ⟨mf, q2, q3, m1, m2, m3⟩ := mtAt k1
  obtain ⟨s1, s2⟩ := ha _ _ _ _ (by omega) hz
  rw [psh_eq s2 k5] at hb
  have k6 : NP M'.toNat (n.toNat - 1) := (of_decide_eq_true k6 : _ = _)
  rw [List.length_cons] at e1
  have k7 : tw p.toNat = some (.methodLink (CL M) j (Yn M'.toNat)) := by
    unfold lnk at k7
    rw [if_pos hw] at k7
    exact of_decide_eq_true k7
  refine z_callV hd mf k7 (m2 hs) (m3 hs hi) ?_ k6 (by omega) e2 (by omega) (b_ble k3) (b_ble k4) rfl s1 (hc _ _ _ _ hb)
  by_cases h30 : rc = 30
  · rw [if_pos h30] at g hk
    exact Or.inr ⟨g.1, g.2, of_decide_eq_true hk⟩
  · rw [if_neg h30] at g hk
    obtain ⟨u1, u2⟩ := b_and hk
    have u1 := b_blt u1
    have u2 := of_decide_eq_true u2
    left
    rw [← g.2] at u1 u2
    cases hr : classes[(kd x).1]? with
    | none => rw [hr] at u2; cases u2
    | some r =>
      rw [hr] at u2
      exact ⟨g.1, r, u1, rfl, Option.some.inj u2⟩
theorem one_invI {j : Nat} (hd : decode (Bt M) pc = .ok (.invokespecial j, len)) (hk : ckI M pc len o (.invokespecial j) = true) (hb : bdy RT (RT M) call cont (act kd (.invokespecial j) o pc len ls st h) = some (v, h')) (hc : CT xv mE D ca M cont v h') (ha : CA xv mE D ca call) : SM xv mE D ca M pc ls st h v h' := by
  (replace hk := b_and hk); obtain ⟨hl, hk⟩ := hk
  have := b_beq hl
  subst this
  split at hk
  · rename_i p
    (replace hk := b_and hk); obtain ⟨k1, hk⟩ := hk
    obtain ⟨k2, k3⟩ := b_and hk
    match st, hb with
    | [], hb => exact bdy_no hb
    | (t1, x) :: q, hb =>
      (replace hb := bdy_c hb); obtain ⟨e, hb⟩ := hb
      obtain ⟨e, e2⟩ := b_and e
      have := b_beq e
      dsimp only at this
      subst this
      (replace hb := bdy_n hb); obtain ⟨g, hb⟩ := hb
      exact z_oini hd (of_decide_eq_true k1) wd_oini.1 wd_oini.2 (b_ble e2) (b_ble k2) (b_ble k3) g (hc _ _ _ _ hb)
  · (replace hk := ckV_i hk); obtain ⟨M', n, rc, mx, p, w, rfl, hk⟩ := hk
    have hq := inv_i (show bdy RT (RT M) call cont (inv kd [M', n, rc, mx, p, w] true pc 3 ls st h) = some (v, h') from hb)
    clear hb
    obtain ⟨as, st1, rfl, e1, e2, e3, g0, z, hz, hb⟩ := hq
    obtain ⟨x, as', rfl, g⟩ := g0 rfl
    unfold ckV1 at hk
    (replace hk := b_and hk); obtain ⟨k1, hk⟩ := hk
    (replace hk := b_and hk); obtain ⟨k2, hk⟩ := hk
    (replace hk := b_and hk); obtain ⟨k3, hk⟩ := hk
    (replace hk := b_and hk); obtain ⟨k4, hk⟩ := hk
    (replace hk := b_and hk); obtain ⟨k5, hk⟩ := hk
    (replace hk := b_and hk); obtain ⟨k6, hk⟩ := hk
    (replace hk := b_and hk); obtain ⟨k7, hk⟩ := hk
    rw [if_neg (by decide), if_neg (by decide)] at hk
    (replace hk := b_and hk); obtain ⟨hs, hk⟩ := hk
    (replace hk := b_and hk); obtain ⟨hi, hk⟩ := hk
    (replace hk := b_and hk); obtain ⟨hr, hk⟩ := hk
    obtain ⟨h30, h0⟩ := b_and hk
    have hr := of_decide_eq_true hr
    have h30 := of_decide_eq_true h30
    have hs := b_not hs
    have k1 := b_blt k1
    have k2 := b_ble k2
    rw [if_neg h30] at g
    obtain ⟨mf, q2, q3, m1, m2, m3⟩ := mtAt k1
    obtain ⟨s1, s2⟩ := ha _ _ _ _ (by omega) hz
    rw [psh_eq s2 k5] at hb
    have k6 : NP M'.toNat (n.toNat - 1) := (of_decide_eq_true k6 : _ = _)
    rw [List.length_cons] at e1
    rcases lnk_i k7 with ⟨-, k7⟩ | ⟨host, k7⟩
    · exact z_callI hd mf k7 (m2 hs) (mf.2.2.2.2.2 hi) hr g.1 k6 (by omega) e2 (by omega) (b_ble k3) (b_ble k4) rfl s1 (hc _ _ _ _ hb)
    · exact z_callIN hd mf k7 (m2 hs) (mf.2.2.2.2.2 hi) hr g.1 k6 (by omega) e2 (by omega) (b_ble k3) (b_ble k4) rfl s1 (hc _ _ _ _ hb)
/-- returns -/
theorem nrw_b {x : Int} (h : x = 0 ∨ x = 1) : narrow .boolean (.int (Int32.ofInt x)) = .int (Int32.ofInt x) := by rcases h with rfl | rfl <;> rfl
theorem nrw_y {x : Int} (h : -128 ≤ x ∧ x ≤ 127) : narrow .byte (.int (Int32.ofInt x)) = .int (Int32.ofInt x) := by
  show Value.int (Int32.ofInt x).toInt8.toInt32 = _
  rw [c_i2b ⟨by omega, by omega⟩, show w8 x = x by unfold w8; omega]
theorem nrw_c {x : Int} (h : 0 ≤ x ∧ x ≤ 65535) : narrow .char (.int (Int32.ofInt x)) = .int (Int32.ofInt x) := by
  have e : ((Int32.ofInt x).toUInt32 % 65536).toInt32 = Int32.ofInt x := by rw [c_i2c ⟨by omega, by omega⟩, show x % 65536 = x by omega]
  show Value.int (Int32.ofInt x).toUInt32.toUInt16.toUInt32.toInt32 = _
  have e2 : (Int32.ofInt x).toUInt32.toUInt16.toUInt32 = (Int32.ofInt x).toUInt32 % 65536 := by
    apply UInt32.toNat_inj.mp
    simp
  rw [e2, e]
theorem one_iret (hd : decode (Bt M) pc = .ok (.ireturn, len)) (hk : ckI M pc len o .ireturn = true) (hb : bdy RT (RT M) call cont (act kd .ireturn o pc len ls st h) = some (v, h')) : SM xv mE D ca M pc ls st h v h' := by
  (replace hk := b_and hk); obtain ⟨hl, hk⟩ := hk
  have := b_beq hl
  subst this
  match o, hk, hb with
  | [t], hk, hb =>
    match st, hb with
    | [], hb => exact bdy_no hb
    | _ :: _ :: _, hb => exact bdy_no hb
    | [(t1, x)], hb =>
      (replace hb := bdy_c hb); obtain ⟨e, hb⟩ := hb
      have := b_beq e
      dsimp only at this
      subst this
      (replace hb := bdy_r hb); obtain ⟨g, -, hb⟩ := hb
      injection hb with e1 e2
      subst e1
      subst e2
      refine z_ret (v := some (0, x)) ?_
      unfold RD
      dsimp only
      rw [if_pos rfl]
      refine ⟨hd, ?_⟩
      replace hk : retB t (Rt M) = true := hk
      unfold retB at hk
      have g : (okT t x).1 := g
      unfold okT at g
      split at hk
      · exact ⟨.int, by assumption, rfl⟩
      · have := of_decide_eq_true hk
        subst this
        exact ⟨.boolean, by assumption, nrw_b g⟩
      · have := of_decide_eq_true hk
        subst this
        exact ⟨.byte, by assumption, nrw_y g⟩
      · have := of_decide_eq_true hk
        subst this
        exact ⟨.char, by assumption, nrw_c g⟩
      · cases hk
  | [], hk, hb => exact b_ff hk
  | _ :: _ :: _, hk, hb => exact b_ff hk
theorem one_lret (hd : decode (Bt M) pc = .ok (.lreturn, len)) (hk : ckI M pc len o .lreturn = true) (hb : bdy RT (RT M) call cont (act kd .lreturn o pc len ls st h) = some (v, h')) : SM xv mE D ca M pc ls st h v h' := by
  (replace hk := b_and hk); obtain ⟨hl, hk⟩ := hk
  have := b_beq hl
  subst this
  match st, hb with
  | [], hb => exact bdy_no hb
  | _ :: _ :: _, hb => exact bdy_no hb
  | [(t1, x)], hb =>
    (replace hb := bdy_c hb); obtain ⟨e, hb⟩ := hb
    have := b_beq e
    dsimp only at this
    subst this
    (replace hb := bdy_r hb); obtain ⟨g, -, hb⟩ := hb
    injection hb with e1 e2
    subst e1
    subst e2
    exact z_ret (v := some (1, x)) ⟨hd, of_decide_eq_true hk⟩
theorem one_aret (hd : decode (Bt M) pc = .ok (.areturn, len)) (hk : ckI M pc len o .areturn = true) (hb : bdy RT (RT M) call cont (act kd .areturn o pc len ls st h) = some (v, h')) : SM xv mE D ca M pc ls st h v h' := by
  (replace hk := b_and hk); obtain ⟨hl, hk⟩ := hk
  have := b_beq hl
  subst this
  match st, hb with
  | [], hb => exact bdy_no hb
  | _ :: _ :: _, hb => exact bdy_no hb
  | [(t1, x)], hb =>
    (replace hb := bdy_c hb); obtain ⟨e, hb⟩ := hb
    have := b_beq e
    dsimp only at this
    subst this
    (replace hb := bdy_r hb); obtain ⟨g, -, hb⟩ := hb
    injection hb with e1 e2
    subst e1
    subst e2
    refine z_ret (v := some (2, x)) ⟨hd, ?_, g⟩
    split at hk
    · exact ⟨_, by assumption⟩
    · cases hk
theorem one_vret (hd : decode (Bt M) pc = .ok (.return_, len)) (hk : ckI M pc len o .return_ = true) (hb : bdy RT (RT M) call cont (act kd .return_ o pc len ls st h) = some (v, h')) : SM xv mE D ca M pc ls st h v h' := by
  (replace hk := b_and hk); obtain ⟨hl, hk⟩ := hk
  have := b_beq hl
  subst this
  match st, hb with
  | _ :: _, hb => exact bdy_no hb
  | [], hb =>
    (replace hb := bdy_r hb); obtain ⟨g, -, hb⟩ := hb
    injection hb with e1 e2
    subst e1
    subst e2
    exact z_ret (v := none) ⟨hd, of_decide_eq_true hk⟩
theorem one_dup (hd : decode (Bt M) pc = .ok (.dup, 1)) (hb : bdy RT (RT M) call cont (act kd .dup o pc 1 ls st h) = some (v, h')) (hc : CT xv mE D ca M cont v h') : SM xv mE D ca M pc ls st h v h' := by
  match st, hb with
  | [], hb => exact bdy_no hb
  | x :: q, hb =>
    (replace hb := bdy_c' hb); obtain ⟨e, hb⟩ := hb
    exact z_dup hd e (hc _ _ _ _ (bdy_nx hb))
theorem one_pop (hd : decode (Bt M) pc = .ok (.pop, 1)) (hb : bdy RT (RT M) call cont (act kd .pop o pc 1 ls st h) = some (v, h')) (hc : CT xv mE D ca M cont v h') : SM xv mE D ca M pc ls st h v h' := by
  match st, hb with
  | [], hb => exact bdy_no hb
  | x :: q, hb =>
    (replace hb := bdy_c' hb); obtain ⟨e, hb⟩ := hb
    exact z_pop hd e (hc _ _ _ _ (bdy_nx hb))
theorem b_or0 {a b : Bool} (h : (a || b) = false) : a = false ∧ b = false := by cases a <;> cases b <;> first | exact ⟨rfl, rfl⟩ | cases h
theorem one_dup2 (hd : decode (Bt M) pc = .ok (.dup2, 1)) (hb : bdy RT (RT M) call cont (act kd .dup2 o pc 1 ls st h) = some (v, h')) (hc : CT xv mE D ca M cont v h') : SM xv mE D ca M pc ls st h v h' := by
  match st, hb with
  | [], hb => exact bdy_no hb
  | [_], hb => exact bdy_no hb
  | x :: y :: q, hb =>
    (replace hb := bdy_c' hb); obtain ⟨e, hb⟩ := hb
    exact z_dup2 hd (b_or0 e).1 (b_or0 e).2 (hc _ _ _ _ (bdy_nx hb))
theorem one_iinc {k : Nat} {n : Int} (hd : decode (Bt M) pc = .ok (.iinc k n, 3)) (hb : bdy RT (RT M) call cont (act kd (.iinc k n) o pc 3 ls st h) = some (v, h')) (hc : CT xv mE D ca M cont v h') : SM xv mE D ca M pc ls st h v h' := by
  have hb : bdy RT (RT M) call cont (match ls[k]? with
    | some v => cond (Nat.beq v.1 0) (nx (pc + 3) (set1 ls k (0, w32 (v.2 + n))) st h) none
    | none => none) = some (v, h') := hb
  cases hl : ls[k]? with
  | none => rw [hl] at hb; exact bdy_no hb
  | some x =>
    rw [hl] at hb
    obtain ⟨t, x⟩ := x
    (replace hb := bdy_c hb); obtain ⟨e, hb⟩ := hb
    have := b_beq e
    dsimp only at this
    subst this
    exact z_iinc hd hl (hc _ _ _ _ (bdy_nx hb))
theorem one {i : Instr} (hd : decode (Bt M) pc = .ok (i, len)) (hk : ckI M pc len o i = true) (hb : bdy RT (RT M) call cont (act kd i o pc len ls st h) = some (v, h')) (hc : CT xv mE D ca M cont v h') (ha : CA xv mE D ca call) : SM xv mE D ca M pc ls st h v h' := by
  cases i with
  | iconst n =>
    (replace hk := b_and hk); obtain ⟨hl, hk⟩ := hk
    obtain rfl := b_beq hl
    exact z_iconst hd (of_decide_eq_true hk) (hc _ _ _ _ (bdy_nx hb))
  | bipush n =>
    (replace hk := b_and hk); obtain ⟨hl, hk⟩ := hk
    obtain rfl := b_beq hl
    exact z_bipush hd (of_decide_eq_true hk) (hc _ _ _ _ (bdy_nx hb))
  | sipush n =>
    (replace hk := b_and hk); obtain ⟨hl, hk⟩ := hk
    obtain rfl := b_beq hl
    exact z_sipush hd (of_decide_eq_true hk) (hc _ _ _ _ (bdy_nx hb))
  | lconst n =>
    obtain rfl := b_beq (show Nat.beq len 1 = true from hk)
    exact z_lconst hd (hc _ _ _ _ (bdy_nx hb))
  | iload j =>
    obtain rfl := b_beq (show Nat.beq len 2 = true from hk)
    (replace hb := ldq_i hb); obtain ⟨x, hv, hb⟩ := hb
    exact z_iload hd hv (hc _ _ _ _ hb)
  | iload_n j =>
    obtain rfl := b_beq (show Nat.beq len 1 = true from hk)
    (replace hb := ldq_i hb); obtain ⟨x, hv, hb⟩ := hb
    exact z_iload_n hd hv (hc _ _ _ _ hb)
  | lload j =>
    obtain rfl := b_beq (show Nat.beq len 2 = true from hk)
    (replace hb := ldq_i hb); obtain ⟨x, hv, hb⟩ := hb
    exact z_lload hd hv (hc _ _ _ _ hb)
  | lload_n j =>
    obtain rfl := b_beq (show Nat.beq len 1 = true from hk)
    (replace hb := ldq_i hb); obtain ⟨x, hv, hb⟩ := hb
    exact z_lload_n hd hv (hc _ _ _ _ hb)
  | aload j =>
    obtain rfl := b_beq (show Nat.beq len 2 = true from hk)
    (replace hb := ldq_i hb); obtain ⟨x, hv, hb⟩ := hb
    exact z_aload hd hv (hc _ _ _ _ hb)
  | aload_n j =>
    obtain rfl := b_beq (show Nat.beq len 1 = true from hk)
    (replace hb := ldq_i hb); obtain ⟨x, hv, hb⟩ := hb
    exact z_aload_n hd hv (hc _ _ _ _ hb)
  | istore j =>
    obtain rfl := b_beq (show Nat.beq len 2 = true from hk)
    (replace hb := st1_i hb); obtain ⟨x, q, rfl, hn, hb⟩ := hb
    exact z_istore hd hn (hc _ _ _ _ hb)
  | istore_n j =>
    obtain rfl := b_beq (show Nat.beq len 1 = true from hk)
    (replace hb := st1_i hb); obtain ⟨x, q, rfl, hn, hb⟩ := hb
    exact z_istore_n hd hn (hc _ _ _ _ hb)
  | astore j =>
    obtain rfl := b_beq (show Nat.beq len 2 = true from hk)
    (replace hb := st1_i hb); obtain ⟨x, q, rfl, hn, hb⟩ := hb
    exact z_astore hd hn (hc _ _ _ _ hb)
  | astore_n j =>
    obtain rfl := b_beq (show Nat.beq len 1 = true from hk)
    (replace hb := st1_i hb); obtain ⟨x, q, rfl, hn, hb⟩ := hb
    exact z_astore_n hd hn (hc _ _ _ _ hb)
  | lstore j =>
    obtain rfl := b_beq (show Nat.beq len 2 = true from hk)
    (replace hb := st2_i hb); obtain ⟨x, q, rfl, hn, hb⟩ := hb
    exact z_lstore hd hn (hc _ _ _ _ hb)
  | lstore_n j =>
    obtain rfl := b_beq (show Nat.beq len 1 = true from hk)
    (replace hb := st2_i hb); obtain ⟨x, q, rfl, hn, hb⟩ := hb
    exact z_lstore_n hd hn (hc _ _ _ _ hb)
  | iinc k n =>
    (replace hk := b_and hk); obtain ⟨hl, hk⟩ := hk
    obtain rfl := b_beq hl
    exact one_iinc hd hb hc
  | iadd =>
    obtain rfl := b_beq (show Nat.beq len 1 = true from hk)
    (replace hb := b2_i (f := fun x y => w32 (x + y)) hb); obtain ⟨x, y, q, rfl, hb⟩ := hb
    exact z_iadd hd (hc _ _ _ _ hb)
  | isub =>
    obtain rfl := b_beq (show Nat.beq len 1 = true from hk)
    (replace hb := b2_i (f := fun x y => w32 (x - y)) hb); obtain ⟨x, y, q, rfl, hb⟩ := hb
    exact z_isub hd (hc _ _ _ _ hb)
  | imul =>
    obtain rfl := b_beq (show Nat.beq len 1 = true from hk)
    (replace hb := b2_i (f := fun x y => w32 (x * y)) hb); obtain ⟨x, y, q, rfl, hb⟩ := hb
    exact z_imul hd (hc _ _ _ _ hb)
  | iand =>
    obtain rfl := b_beq (show Nat.beq len 1 = true from hk)
    (replace hb := b2_i hb); obtain ⟨x, y, q, rfl, hb⟩ := hb
    exact z_iand hd (hc _ _ _ _ hb)
  | ior =>
    obtain rfl := b_beq (show Nat.beq len 1 = true from hk)
    (replace hb := b2_i hb); obtain ⟨x, y, q, rfl, hb⟩ := hb
    exact z_ior hd (hc _ _ _ _ hb)
  | ixor =>
    obtain rfl := b_beq (show Nat.beq len 1 = true from hk)
    (replace hb := b2_i hb); obtain ⟨x, y, q, rfl, hb⟩ := hb
    exact z_ixor hd (hc _ _ _ _ hb)
  | ishl =>
    obtain rfl := b_beq (show Nat.beq len 1 = true from hk)
    (replace hb := b2_i hb); obtain ⟨x, y, q, rfl, hb⟩ := hb
    exact z_ishl hd (hc _ _ _ _ hb)
  | ishr =>
    obtain rfl := b_beq (show Nat.beq len 1 = true from hk)
    (replace hb := b2_i hb); obtain ⟨x, y, q, rfl, hb⟩ := hb
    exact z_ishr hd (hc _ _ _ _ hb)
  | iushr =>
    obtain rfl := b_beq (show Nat.beq len 1 = true from hk)
    (replace hb := b2_i hb); obtain ⟨x, y, q, rfl, hb⟩ := hb
    exact z_iushr hd (hc _ _ _ _ hb)
  | ladd =>
    obtain rfl := b_beq (show Nat.beq len 1 = true from hk)
    (replace hb := b2_i (f := fun x y => w64 (x + y)) hb); obtain ⟨x, y, q, rfl, hb⟩ := hb
    exact z_ladd hd (hc _ _ _ _ hb)
  | lmul =>
    obtain rfl := b_beq (show Nat.beq len 1 = true from hk)
    (replace hb := b2_i (f := fun x y => w64 (x * y)) hb); obtain ⟨x, y, q, rfl, hb⟩ := hb
    exact z_lmul hd (hc _ _ _ _ hb)
  | land =>
    obtain rfl := b_beq (show Nat.beq len 1 = true from hk)
    (replace hb := b2_i hb); obtain ⟨x, y, q, rfl, hb⟩ := hb
    exact z_land hd (hc _ _ _ _ hb)
  | lor =>
    obtain rfl := b_beq (show Nat.beq len 1 = true from hk)
    (replace hb := b2_i hb); obtain ⟨x, y, q, rfl, hb⟩ := hb
    exact z_lor hd (hc _ _ _ _ hb)
  | lxor =>
    obtain rfl := b_beq (show Nat.beq len 1 = true from hk)
    (replace hb := b2_i hb); obtain ⟨x, y, q, rfl, hb⟩ := hb
    exact z_lxor hd (hc _ _ _ _ hb)
  | lshl =>
    obtain rfl := b_beq (show Nat.beq len 1 = true from hk)
    (replace hb := b2_i hb); obtain ⟨x, y, q, rfl, hb⟩ := hb
    exact z_lshl hd (hc _ _ _ _ hb)
  | lshr =>
    obtain rfl := b_beq (show Nat.beq len 1 = true from hk)
    (replace hb := b2_i hb); obtain ⟨x, y, q, rfl, hb⟩ := hb
    exact z_lshr hd (hc _ _ _ _ hb)
  | lcmp =>
    obtain rfl := b_beq (show Nat.beq len 1 = true from hk)
    (replace hb := b2_i (f := fun x y => if x < y then -1 else if x = y then 0 else 1) hb); obtain ⟨x, y, q, rfl, hb⟩ := hb
    exact z_lcmp hd (hc _ _ _ _ hb)
  | idiv =>
    obtain rfl := b_beq (show Nat.beq len 1 = true from hk)
    (replace hb := b2z_i (f := fun x y => w32 (x.tdiv y)) hb); obtain ⟨x, y, q, rfl, hy, hb⟩ := hb
    exact z_idiv hd hy (hc _ _ _ _ hb)
  | irem =>
    obtain rfl := b_beq (show Nat.beq len 1 = true from hk)
    (replace hb := b2z_i (f := fun x y => x.tmod y) hb); obtain ⟨x, y, q, rfl, hy, hb⟩ := hb
    exact z_irem hd hy (hc _ _ _ _ hb)
  | ldiv =>
    obtain rfl := b_beq (show Nat.beq len 1 = true from hk)
    (replace hb := b2z_i (f := fun x y => w64 (x.tdiv y)) hb); obtain ⟨x, y, q, rfl, hy, hb⟩ := hb
    exact z_ldiv hd hy (hc _ _ _ _ hb)
  | lrem =>
    obtain rfl := b_beq (show Nat.beq len 1 = true from hk)
    (replace hb := b2z_i (f := fun x y => x.tmod y) hb); obtain ⟨x, y, q, rfl, hy, hb⟩ := hb
    exact z_lrem hd hy (hc _ _ _ _ hb)
  | ineg =>
    obtain rfl := b_beq (show Nat.beq len 1 = true from hk)
    (replace hb := u1_i (f := fun x => w32 (-x)) hb); obtain ⟨x, q, rfl, hb⟩ := hb
    exact z_ineg hd (hc _ _ _ _ hb)
  | i2l =>
    obtain rfl := b_beq (show Nat.beq len 1 = true from hk)
    (replace hb := u1_i (f := fun x => x) hb); obtain ⟨x, q, rfl, hb⟩ := hb
    exact z_i2l hd (hc _ _ _ _ hb)
  | l2i =>
    obtain rfl := b_beq (show Nat.beq len 1 = true from hk)
    (replace hb := u1_i hb); obtain ⟨x, q, rfl, hb⟩ := hb
    exact z_l2i hd (hc _ _ _ _ hb)
  | i2b =>
    obtain rfl := b_beq (show Nat.beq len 1 = true from hk)
    (replace hb := u1_i hb); obtain ⟨x, q, rfl, hb⟩ := hb
    exact z_i2b hd (hc _ _ _ _ hb)
  | i2s =>
    obtain rfl := b_beq (show Nat.beq len 1 = true from hk)
    (replace hb := u1_i hb); obtain ⟨x, q, rfl, hb⟩ := hb
    exact z_i2s hd (hc _ _ _ _ hb)
  | i2c =>
    obtain rfl := b_beq (show Nat.beq len 1 = true from hk)
    (replace hb := u1_i (f := fun x => x % 65536) hb); obtain ⟨x, q, rfl, hb⟩ := hb
    exact z_i2c hd (hc _ _ _ _ hb)
  | dup =>
    obtain rfl := b_beq (show Nat.beq len 1 = true from hk)
    exact one_dup hd hb hc
  | pop =>
    obtain rfl := b_beq (show Nat.beq len 1 = true from hk)
    exact one_pop hd hb hc
  | dup2 =>
    obtain rfl := b_beq (show Nat.beq len 1 = true from hk)
    exact one_dup2 hd hb hc
  | goto off =>
    (replace hk := b_and hk); obtain ⟨hl, hk⟩ := hk
    obtain rfl := b_beq hl
    exact z_goto hd (tgt_ok (of_decide_eq_true hk)) (hc _ _ _ _ (bdy_nx hb))
  | laload =>
    obtain rfl := b_beq (show Nat.beq len 1 = true from hk)
    (replace hb := ald_i hb); obtain ⟨i, a, q, rfl, g, hb⟩ := hb
    exact z_lald hd g (hc _ _ _ _ hb)
  | iastore =>
    obtain rfl := b_beq (show Nat.beq len 1 = true from hk)
    (replace hb := ast_i (f := fun v => v) hb); obtain ⟨x, i, a, q, rfl, g, hb⟩ := hb
    exact z_iast hd g (hc _ _ _ _ hb)
  | lastore =>
    obtain rfl := b_beq (show Nat.beq len 1 = true from hk)
    (replace hb := ast_i (f := fun v => v) hb); obtain ⟨x, i, a, q, rfl, g, hb⟩ := hb
    exact z_last hd g (hc _ _ _ _ hb)
  | ifCond a0 a1 =>
    exact one_if hd hk hb hc
  | if_icmp a0 a1 =>
    exact one_ic hd hk hb hc
  | ifnonnull a0 =>
    exact one_nn hd hk hb hc
  | tableswitch a0 a1 a2 a3 =>
    exact one_sw hd hk hb hc
  | getfield a0 =>
    exact one_getf hd hk hb hc
  | putfield a0 =>
    exact one_putf hd hk hb hc
  | getstatic a0 =>
    exact one_gets hd hk hb hc
  | ldc a0 =>
    exact one_ldc hd hk hb hc
  | ldc_w a0 =>
    exact one_ldcw hd hk hb hc
  | ldc2_w a0 =>
    exact one_ldc2 hd hk hb hc
  | iaload =>
    exact one_iald hd hk hb hc
  | arraylength =>
    exact one_alen hd hk hb hc
  | baload =>
    exact one_bald hd hk hb hc
  | aaload =>
    exact one_aald hd hk hb hc
  | bastore =>
    exact one_bast hd hk hb hc
  | aastore =>
    exact one_aast hd hk hb hc
  | newarray a0 =>
    exact one_newa hd hk hb hc
  | anewarray a0 =>
    exact one_anew hd hk hb hc
  | multianewarray a0 a1 =>
    exact one_mna hd hk hb hc
  | new a0 =>
    exact one_new hd hk hb hc
  | invokestatic a0 =>
    exact one_invS hd hk hb hc ha
  | invokevirtual a0 =>
    exact one_invV hd hk hb hc ha
  | invokespecial a0 =>
    exact one_invI hd hk hb hc ha
  | ireturn =>
    exact one_iret hd hk hb
  | lreturn =>
    exact one_lret hd hk hb
  | areturn =>
    exact one_aret hd hk hb
  | return_ =>
    exact one_vret hd hk hb
  | _ => exact bdy_no hb
end ONE
theorem lk_in {pc : Nat} {w : Nat × Instr × List Int × List Nat} : ∀ {c : Cd}, lk pc c = some w → (pc, w) ∈ c
  | [], h => by cases h
  | q :: c, h => by
    have h : cond (Nat.beq q.1 pc) (some q.2) (lk pc c) = some w := h
    cases hb : Nat.beq q.1 pc with
    | true =>
      rw [hb] at h
      have e := b_beq hb
      have h := Option.some.inj h
      obtain ⟨a, b⟩ := q
      dsimp only at e h
      rw [e, h]
      exact List.mem_cons_self
    | false =>
      rw [hb] at h
      exact List.mem_cons_of_mem _ (lk_in h)
/-- THE SIMULATION -/
theorem sim (xv : Int → Value) (mE : Mm) (D : va_G) (ca : Nat → ClassId) : ∀ (n M pc : Nat) (ls st : List Vl) (h : Hq) (v : Option Vl) (h' : Hq), M < 324 → ex kd cdt ML RT n M pc ls st h = some (v, h') → SM xv mE D ca M pc ls st h v h'
  | 0, _, _, _, _, _, _, _, _, q => by cases q
  | n + 1, M, pc, ls, st, h, v, h', hM, q => by
    have q : stp kd cdt RT (fun M' as h' => ex kd cdt ML RT n M' 0 (entM (ML M') as) [] h') (fun pc' ls' st' h' => ex kd cdt ML RT n M pc' ls' st' h') M pc ls st h = some (v, h') := q
    unfold stp at q
    cases hl : lk pc (cdt M) with
    | none => rw [hl] at q; cases q
    | some w =>
      rw [hl] at q
      have hck := ck_all M hM _ (lk_in hl)
      obtain ⟨h1, h2⟩ := b_and hck
      exact z_fgt w.2.2.2 (one (dcd_ok h1) h2 q (fun pc1 ls1 st1 h1 hh => sim xv mE D ca n M pc1 ls1 st1 h1 v h' hM hh) (fun M1 as h1 r hM1 hh => ⟨sim xv mE D ca n M1 0 _ _ h1 r.1 r.2 hM1 hh, ex_rt hh⟩))
/-- the same of the limit -/
theorem simV (xv : Int → Value) (mE : Mm) (D : va_G) (ca : Nat → ClassId) {M : Nat} {as : List Vl} {h : Hq} {v : Option Vl} {h' : Hq} (hM : M < 324) (q : vm M as h = some (v, h')) : SM xv mE D ca M 0 (entM (ML M) as) [] h v h' := by
  obtain ⟨n, hn⟩ := (evp_iff (v, h')).mp q
  exact sim xv mE D ca n M 0 _ _ h v h' hM hn
