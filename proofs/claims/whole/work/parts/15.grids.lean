/-! THE SIMULATION'S ROWS: arrays of references, arrays of arrays -/
section SIMQ
variable {xv : Int → Value} {mE : Mm} {D : va_G} {ca : Nat → ClassId}
theorem z_anew25 {M pc q j : Nat} {ls st : List Vl} {h : Hq} {v : Option Vl} {h' : Hq} {n : Int} (hd : decode (Bt M) pc = .ok (.anewarray j, 3)) (hw : tw q = some (.classLink (CL M) j "TexelBank$Texture")) (hg : (kd h.1).1 = 25 ∧ (kd h.1).2 = n ∧ 0 ≤ n ∧ n ≤ 1000000) (k : SM xv mE D ca M (pc + 3) ls ((2, h.1) :: st) (h.1 + 1, h.2) v h') : SM xv mE D ca M pc ls ((0, n) :: st) h v h' := SM.al (show h.1 ≤ h.1 + 1 by omega) k fun p l e R s m args below meth c A Q n0 ad0 ad H locs lsR cells slots B w o1 lv c1 c2 K => by
  obtain ⟨hk, hn, g0, g1⟩ := hg
  have h0 := w.2.2.2.1.1
  have eu : us ((h.1 + 1, h.2) : Hq).1.toNat = us h.1.toNat + n.toNat := by
    show us (h.1 + 1).toNat = _
    rw [show (h.1 + 1).toNat = h.1.toNat + 1 by omega, us_succ, Int.toNat_of_nonneg (by omega), hn]
  have ec : ((h.1 + 1, h.2) : Hq).1.toNat - h.1.toNat = 1 := by show (h.1 + 1).toNat - _ = 1; omega
  rw [ec] at c1 K
  rw [eu, show us h.1.toNat + n.toNat - us h.1.toNat = n.toNat by omega] at c2 K
  have er := rd32 (x := n) ⟨by omega, by omega⟩
  have hn0 : ¬ Int32.ofInt n < 0 := fun q => by rw [Int32.lt_iff_toInt_lt, er, Int32.toInt_zero] at q; omega
  have hN : (Int32.ofInt n).toNatClampNeg = n.toNat := by show (Int32.ofInt n).toInt.toNat = _; rw [er]
  have hz : ∀ j : Int, h.2 h.1 j = 0 := fun j => w.2.2.2.1.2.1 h.1 j (Int.le_refl _)
  refine va_newq (C := "TexelBank$Texture") B.1 B.2.1 B.own (B.wd hw rfl) B.ex.2.2.2.2.2.2.2.2.1.1 B.kn w.1 w.2.1 w.2.2.1 B.2.2.2.2.2.2.2.1 hn0 hN (by omega) c1 c2 hd fun q cA H1 hK hP hD hS => ?_
  obtain ⟨_, _, _, _, _, a1⟩ := (B.kn.2 5 _ rfl).2
  obtain ⟨_, _, _, _, _, a2⟩ := (hK.2 6 (cA, .object "TexelBank$Texture") rfl).2
  have := Option.some.inj (a2.symm.trans a1)
  subst this
  obtain ⟨ad', b1, b2, w'⟩ := w.push (fun ad' => by rw [ent_q (by omega), hk, hn]; congr 7; funext j; rw [hz]; rfl) hP hD hS (fun k => okv_zero (by omega) _)
  have kk := K ad' H1 locs (cells + 1) (slots + n.toNat) rfl rfl b2 ((OKs.mono (show h.1 ≤ h.1 + 1 by omega) o1.tail).cons (okv2 (show -10 < h.1 ∧ h.1 < h.1 + 1 from ⟨by omega, by omega⟩))) w'
  rw [List.map_cons, cvv_ref (by omega), b1, map_ad b2 o1.tail] at kk
  exact kk
theorem z_anew24 {M pc q j : Nat} {ls st : List Vl} {h : Hq} {v : Option Vl} {h' : Hq} {n : Int} (hd : decode (Bt M) pc = .ok (.anewarray j, 3)) (hw : tw q = some (.classLink (CL M) j "[I")) (hg : (kd h.1).1 = 24 ∧ (kd h.1).2 = n ∧ 0 ≤ n ∧ n ≤ 1000000) (k : SM xv mE D ca M (pc + 3) ls ((2, h.1) :: st) (h.1 + 1, h.2) v h') : SM xv mE D ca M pc ls ((0, n) :: st) h v h' := SM.al (show h.1 ≤ h.1 + 1 by omega) k fun p l e R s m args below meth c A Q n0 ad0 ad H locs lsR cells slots B w o1 lv c1 c2 K => by
  obtain ⟨hk, hn, g0, g1⟩ := hg
  have h0 := w.2.2.2.1.1
  have eu : us ((h.1 + 1, h.2) : Hq).1.toNat = us h.1.toNat + n.toNat := by
    show us (h.1 + 1).toNat = _
    rw [show (h.1 + 1).toNat = h.1.toNat + 1 by omega, us_succ, Int.toNat_of_nonneg (by omega), hn]
  have ec : ((h.1 + 1, h.2) : Hq).1.toNat - h.1.toNat = 1 := by show (h.1 + 1).toNat - _ = 1; omega
  rw [ec] at c1 K
  rw [eu, show us h.1.toNat + n.toNat - us h.1.toNat = n.toNat by omega] at c2 K
  have er := rd32 (x := n) ⟨by omega, by omega⟩
  have hn0 : ¬ Int32.ofInt n < 0 := fun q => by rw [Int32.lt_iff_toInt_lt, er, Int32.toInt_zero] at q; omega
  have hN : (Int32.ofInt n).toNatClampNeg = n.toNat := by show (Int32.ofInt n).toInt.toNat = _; rw [er]
  have hz : ∀ j : Int, h.2 h.1 j = 0 := fun j => w.2.2.2.1.2.1 h.1 j (Int.le_refl _)
  refine W.anewA (t := .int) B.1 B.2.1 B.own (B.wd hw rfl) (va_AOA.use B.ex.2.2.2.2.2.2.2.2.1.2) rfl hd rfl hn0 (by rw [hN]; omega) c1 (by rw [hN]; exact c2) fun cA kA comp f1 f2 f3 f4 => ?_
  have := Option.some.inj (f1.symm.trans (B.kn.2 4 _ rfl).2)
  subst this
  rw [hN]
  generalize hH1 : H.push ({ cls := ca 24, slots := Array.replicate n.toNat .null, vm := .none } : Cell) = H1
  have z1 : H1.size = H.size + 1 := by rw [← hH1, Array.size_push]
  have e1 : H1[H.size]? = some (arrV (ca 24) n.toNat (fun _ => .null)) := by rw [← hH1, Array.getElem?_push_size, ← arrV_new]
  have o2 : ∀ q, q < H.size → H1[q]? = H[q]? := fun q hq => by rw [← hH1, Array.getElem?_push, if_neg (Nat.ne_of_lt hq)]
  have hk2 : ∀ (k : Nat) (x : Nat × va_E), (wsO ca ad xv h)[k]? = some x → H1[x.1]? = H[x.1]? := fun k x hx => o2 x.1 ((w.1 k x hx).lt)
  have hP : va_P D classes (wsO ca ad xv h ++ [(H.size, .inl (ca 24, n.toNat, .inr (.inr (.inr (.inr (fun _ => none))))))]) H1 := (w.1.kept hk2).app (fun k x hx => by
    have hz : k < 1 := (List.getElem?_eq_some_iff.mp hx).1
    rw [show k = 0 by omega] at hx
    cases hx
    exact e1)
  have hD := w.2.1.push (e := .inl (ca 24, n.toNat, .inr (.inr (.inr (.inr (fun _ => none)))))) w.1 rfl (B.2.2.2.2.2.2.2.1 _ w.2.2.1.1)
  have hS : va_S A s.heap H1 locs := ⟨Nat.le_trans w.2.2.1.1 (by omega), fun x g1 g2 => (o2 x (Nat.lt_of_lt_of_le g1 w.2.2.1.1)).trans (w.2.2.1.2.1 x g1 g2), w.2.2.1.2.2⟩
  obtain ⟨ad', b1, b2, w'⟩ := w.push (fun ad' => by rw [ent_q (by omega), hk, hn]; congr 7; funext j; rw [hz]; rfl) hP hD hS (fun k => okv_zero (by omega) _)
  have kk := K ad' H1 locs (cells + 1) (slots + n.toNat) rfl rfl b2 ((OKs.mono (show h.1 ≤ h.1 + 1 by omega) o1.tail).cons (okv2 (show -10 < h.1 ∧ h.1 < h.1 + 1 from ⟨by omega, by omega⟩))) w'
  rw [List.map_cons, cvv_ref (by omega), b1, map_ad b2 o1.tail] at kk
  exact kk
theorem us_add {n : Nat} {b : Int} : ∀ a : Nat, (∀ i : Nat, i < a → (kd ((n : Int) + i)).2 = b) → us (n + a) = us n + a * b.toNat
  | 0, _ => by simp
  | a + 1, h => by
    rw [show n + (a + 1) = (n + a) + 1 by omega, us_succ, us_add a (fun i hi => h i (by omega)), show ((n + a : Nat) : Int) = (n : Int) + a by omega, h a (by omega), Nat.succ_mul]
    omega
theorem z_mna {M pc q j : Nat} {ls st : List Vl} {h : Hq} {v : Option Vl} {h' : Hq} {a b : Int} (hd : decode (Bt M) pc = .ok (.multianewarray j 2, 4)) (hw : tw q = some (.classLink (CL M) j "[[I")) {q2 : Nat} (hw2 : tw q2 = some (.arrayClass .int))
    (hg : ((kd h.1).1 = 24 ∧ (kd h.1).2 = a ∧ 0 ≤ a ∧ a ≤ 1000) ∧ (0 ≤ b ∧ b ≤ 1000) ∧ (List.range a.toNat).all (fun i : Nat => decide (kd (h.1 + 1 + (i : Int)) = (20, b))) = true) (k : SM xv mE D ca M (pc + 4) ls ((2, h.1) :: st) (h.1 + 1 + a, mnm h.2 h.1 a) v h') : SM xv mE D ca M pc ls ((0, b) :: (0, a) :: st) h v h' := SM.al (show h.1 ≤ h.1 + 1 + a by omega) k fun p l e R s m args below meth c A Q n0 ad0 ad H locs lsR cells slots B w o1 lv c1 c2 K => by
  obtain ⟨⟨hk, hn, a0, a1⟩, ⟨b0, b1⟩, hall⟩ := hg
  have hin : ∀ i : Nat, (i : Int) < a → kd (h.1 + 1 + (i : Int)) = (20, b) := fun i hi => by
    have := List.all_eq_true.mp hall i (List.mem_range.mpr (by omega))
    simpa using this
  have h0 := w.2.2.2.1.1
  have eu : us ((h.1 + 1 + a, mnm h.2 h.1 a) : Hq).1.toNat = us h.1.toNat + a.toNat + a.toNat * b.toNat := by
    show us (h.1 + 1 + a).toNat = _
    rw [show (h.1 + 1 + a).toNat = (h.1.toNat + 1) + a.toNat by omega, us_add (b := b) a.toNat (fun i hi => by rw [show ((h.1.toNat + 1 : Nat) : Int) + i = h.1 + 1 + i by omega, hin i (by omega)]), us_succ, Int.toNat_of_nonneg (by omega), hn]
  have ec : ((h.1 + 1 + a, mnm h.2 h.1 a) : Hq).1.toNat - h.1.toNat = 1 + a.toNat := by show (h.1 + 1 + a).toNat - _ = _; omega
  rw [ec] at c1 K
  rw [eu, show us h.1.toNat + a.toNat + a.toNat * b.toNat - us h.1.toNat = a.toNat + a.toNat * b.toNat by omega] at c2 K
  have cl : ∀ z : Int, 0 ≤ z → z ≤ 1000 → ¬ Int32.ofInt z < 0 ∧ (Int32.ofInt z).toNatClampNeg = z.toNat := fun z z0 z1 => by
    have e := rd32 (x := z) ⟨by omega, by omega⟩
    refine ⟨fun q => ?_, ?_⟩
    · rw [Int32.lt_iff_toInt_lt, e, Int32.toInt_zero] at q; omega
    · show (Int32.ofInt z).toInt.toNat = _; rw [e]
  obtain ⟨x1, x2⟩ := cl a a0 a1
  obtain ⟨y1, y2⟩ := cl b b0 b1
  have hz : ∀ o j : Int, h.1 ≤ o → h.2 o j = 0 := fun o j ho => w.2.2.2.1.2.1 o j ho
  have ePl : ∀ f : Nat → va_E, wsO ca ad xv h ++ va_pl [] f = wsO ca ad xv h := fun f => by show _ ++ [] = _; rw [List.append_nil]
  refine va_mna (X := wsO ca ad xv h) (L := []) (f := fun _ => .inl (0, 0, .inl (fun _ => 0))) (ty := .int) (cy := ca 20) (z := (b.toNat, .inl (fun _ => 0))) B.1 B.2.1 B.own (B.wd hw rfl) B.ex.2.2.2.2.2.2.2.2.1.2 (B.wd hw2 rfl) (B.kn.2 0 _ rfl).2 B.kn (by rw [ePl]; exact w.1) (by rw [ePl]; exact w.2.1) w.2.2.1 B.2.2.2.2.2.2.2.1 x1 y1 x2 y2 (by omega) (by show b.toNat * 4 ≤ _; omega) (by omega) rfl rfl (by omega) (by omega) (fun c => by simp [Jvm.Free.Multi.innerC, vp_cell, arrV, defaultValue]; apply Array.ext <;> simp) hd fun qo r cA H1 hinj hnin hK hP hD hS => ?_
  have := Option.some.inj (((hK.2 6 (cA, .array .int) rfl).2).symm.trans (B.kn.2 4 _ rfl).2)
  subst this
  let ad' : Int → Nat := fun o => if o = h.1 then qo else if h.1 < o ∧ o < h.1 + 1 + a then r (o - h.1 - 1).toNat else ad o
  have hag : ∀ o, o < h.1 → ad' o = ad o := fun o ho => by
    show (if o = h.1 then qo else if h.1 < o ∧ o < h.1 + 1 + a then r (o - h.1 - 1).toNat else ad o) = _
    rw [if_neg (by omega), if_neg (by omega)]
  have ad1 : ad' h.1 = qo := if_pos rfl
  have ad2 : ∀ i : Nat, (i : Int) < a → ad' (h.1 + 1 + i) = r i := fun i hi => by
    show (if (h.1 + 1 + i) = h.1 then qo else if h.1 < (h.1 + 1 + i) ∧ (h.1 + 1 + i) < h.1 + 1 + a then r ((h.1 + 1 + i) - h.1 - 1).toNat else ad _) = _
    rw [if_neg (by omega), if_pos ⟨by omega, by omega⟩, show ((h.1 + 1 + (i : Int)) - h.1 - 1).toNat = i by omega]
  have hmm : ∀ o, o ≠ h.1 → ∀ j, mnm h.2 h.1 a o j = h.2 o j := fun o ho j => if_neg (fun q => ho q.1)
  have eW : wsO ca ad' xv (h.1 + 1 + a, mnm h.2 h.1 a) = (wsO ca ad xv h ++ [(qo, .inl (ca 24, a.toNat, .inr (.inr (.inr (.inr (fun i => if i < a.toNat then some (r i) else none))))))]) ++ va_pl ([] ++ (List.range a.toNat).map r) (vr_up (fun _ => .inl (0, 0, .inl (fun _ => 0))) ((List.range a.toNat).map r) (.inl (ca 20, (b.toNat, .inl (fun _ => 0))))) := by
    apply List.ext_getElem?
    intro i
    have e0 : (wsO ca ad' xv (h.1 + 1 + a, mnm h.2 h.1 a))[i]? = if i < h.1.toNat + a.toNat then some (ad' ((i : Int) + 1), ent ca ad' xv (mnm h.2 h.1 a) ((i : Int) + 1)) else none := by
      unfold wsO
      rw [List.getElem?_map]
      have e9 : ((h.1 + 1 + a, mnm h.2 h.1 a) : Hq).1.toNat - 1 = h.1.toNat + a.toNat := by show (h.1 + 1 + a).toNat - 1 = _; omega
      rw [e9]
      by_cases hi : i < h.1.toNat + a.toNat
      · rw [List.getElem?_range hi, if_pos hi]; rfl
      · rw [List.getElem?_eq_none (by simpa using hi), if_neg hi]; rfl
    rw [e0]
    have hlen : (wsO ca ad xv h).length = h.1.toNat - 1 := wsO_len
    by_cases i1 : i < h.1.toNat - 1
    · rw [if_pos (by omega), List.append_assoc, List.getElem?_append_left (by rw [hlen]; exact i1)]
      have := w.at (o := (i : Int) + 1) (by omega) (by omega)
      rw [show ((i : Int) + 1 - 1).toNat = i by omega] at this
      rw [this, hag _ (by omega)]
      congr 2
      rw [← ent_ad (ca := ca) (xv := xv) hag w.2.2.2.1 w.2.2.2.2.2.2.2 (o := (i : Int) + 1) (by omega) (by omega)]
      unfold ent
      simp only [hmm _ (show (i : Int) + 1 ≠ h.1 by omega)]
    · by_cases i2 : i = h.1.toNat - 1
      · rw [if_pos (by omega), List.getElem?_append_left (by rw [List.length_append, hlen]; simp; omega), List.getElem?_append_right (by rw [hlen]; omega), hlen, show i - (h.1.toNat - 1) = 0 by omega, show (i : Int) + 1 = h.1 by omega, ad1]
        show _ = some (qo, _)
        congr 2
        rw [ent_q (by omega), hk, hn]
        congr 7
        funext j
        by_cases hj : j < a.toNat
        · have em : mnm h.2 h.1 a h.1 j = h.1 + 1 + j := if_pos ⟨rfl, by omega, by omega⟩
          rw [em, if_pos (by omega), ad2 j (by omega), if_pos hj]
        · have em : mnm h.2 h.1 a h.1 j = 0 := by
            show (if _ then _ else _) = _
            rw [if_neg (by omega)]
            exact hz h.1 j (Int.le_refl _)
          rw [em, if_neg (by decide), if_neg hj]
      · rw [List.getElem?_append_right (by rw [List.length_append, hlen]; simp; omega), List.length_append, hlen]
        show _ = (va_pl ((List.range a.toNat).map r) _)[i - (h.1.toNat - 1 + 1)]?
        unfold va_pl
        rw [List.getElem?_map, List.getElem?_map]
        by_cases i3 : i < h.1.toNat + a.toNat
        · rw [if_pos i3, List.getElem?_range (by omega)]
          have ei : (i : Int) + 1 = h.1 + 1 + ((i - (h.1.toNat - 1 + 1) : Nat) : Int) := by omega
          rw [ei, ad2 _ (by omega)]
          show _ = some (r _, vr_up _ _ _ (r _))
          rw [vr_up_in (List.mem_map.mpr ⟨_, List.mem_range.mpr (by omega), rfl⟩)]
          have ek := hin (i - (h.1.toNat - 1 + 1)) (by omega)
          congr 2
          rw [ent_i (by rw [ek]; show 20 ≤ 20; decide) (by rw [ek]; show 20 < 23; decide), ek]
          congr 4
          funext j
          rw [hmm _ (by omega), hz _ _ (by omega)]
          rfl
        · rw [if_neg i3, List.getElem?_eq_none (by simp; omega)]
          rfl
  have w' : WD xv mE D ca A s n0 ad0 (h.1 + 1 + a, mnm h.2 h.1 a) ad' H1 locs := by
    refine ⟨by rw [eW]; exact hP, by rw [eW]; exact hD, hS, ⟨by show (1 : Int) ≤ h.1 + 1 + a; omega, fun o j ho => ?_, fun o g0 g1 j hj => ?_⟩, fun o j ho => ?_, by have := w.2.2.2.2.2.1; show n0 ≤ h.1 + 1 + a; omega, fun o ho => ?_, fun o j g0 g1 => ?_⟩
    · have ho : h.1 + 1 + a ≤ o := ho
      show mnm h.2 h.1 a o j = 0
      rw [hmm o (by omega)]
      exact hz o j (by omega)
    · have g1 : o < h.1 + 1 + a := g1
      show okv (h.1 + 1 + a) (ktg o j) (mnm h.2 h.1 a o j) ∧ (24 ≤ (kd o).1 → 0 ≤ mnm h.2 h.1 a o j)
      by_cases eo : o = h.1
      · subst eo
        rw [hn] at hj
        have em : mnm h.2 h.1 a h.1 j = h.1 + 1 + j := if_pos ⟨rfl, by omega, by omega⟩
        rw [em]
        unfold ktg
        rw [if_neg (by omega), if_neg (by omega), if_neg (by omega)]
        exact ⟨okv2 ⟨by omega, by omega⟩, fun _ => by omega⟩
      · rw [hmm o eo]
        by_cases eo2 : o < h.1
        · obtain ⟨z1, z2⟩ := w.2.2.2.1.2.2 o g0 eo2 j hj
          exact ⟨z1.mono (by omega), z2⟩
        · rw [hz o j (by omega)]
          exact ⟨okv_zero (by omega) _, fun _ => Int.le_refl _⟩
    · show mnm h.2 h.1 a o j = mE o j
      rw [hmm o (by omega)]
      exact w.2.2.2.2.1 o j ho
    · have := w.2.2.2.2.2.1
      rw [← w.2.2.2.2.2.2.1 o ho]
      exact hag o (by omega)
    · show mnm h.2 h.1 a o j < h.1 + 1 + a
      by_cases e9 : o = h.1 ∧ 0 ≤ j ∧ j < a
      · have em : mnm h.2 h.1 a o j = h.1 + 1 + j := if_pos e9
        rw [em]; omega
      · have em : mnm h.2 h.1 a o j = h.2 o j := if_neg e9
        rw [em]
        have := w.2.2.2.2.2.2.2 o j g0 g1
        omega
  have kk := K ad' H1 locs (cells + 1 + a.toNat) (slots + a.toNat + a.toNat * b.toNat) (by omega) (by omega) hag ((OKs.mono (show h.1 ≤ h.1 + 1 + a by omega) o1.tail.tail).cons (okv2 (show -10 < h.1 ∧ h.1 < h.1 + 1 + a from ⟨by omega, by omega⟩))) w'
  rw [List.map_cons, cvv_ref (by omega), ad1, map_ad hag o1.tail.tail] at kk
  exact kk
end SIMQ
