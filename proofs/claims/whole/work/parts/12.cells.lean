/-! THE SIMULATION'S ROWS: static fields, copies, new cells -/
section SIMN
variable {xv : Int → Value} {mE : Mm} {D : va_G} {ca : Nat → ClassId}
theorem z_gets0 {M pc : Nat} {ls st : List Vl} {h : Hq} {v : Option Vl} {h' : Hq} {j q : Nat} (hd : decode (Bt M) pc = .ok (.getstatic j, 3)) (hw : tw q = some (.fieldLink (CL M) j "java/lang/String" "COMPACT_STRINGS" "Z")) (k : SM xv mE D ca M (pc + 3) ls ((0, 1) :: st) h v h') : SM xv mE D ca M pc ls st h v h' := k.rd fun p l e R s m args below meth c A Q n0 ad0 ad H locs lsR cells slots B w o1 o2 lv K =>
  va_gets B.1 B.2.1 B.ex.2.2.2.2.1 w.2.2.1 B.own (B.wd hw rfl) (fun _ h9 => h9) hd (K lsR (o1.cons (okv0 (by decide))) o2 lv)
theorem z_gets1 {M pc : Nat} {ls st : List Vl} {h : Hq} {v : Option Vl} {h' : Hq} {j q : Nat} (hd : decode (Bt M) pc = .ok (.getstatic j, 3)) (hw : tw q = some (.fieldLink (CL M) j "TexelBank$Stores" "WIDER" "[I")) (k : SM xv mE D ca M (pc + 3) ls ((2, -2) :: st) h v h') : SM xv mE D ca M pc ls st h v h' := k.rd fun p l e R s m args below meth c A Q n0 ad0 ad H locs lsR cells slots B w o1 o2 lv K => by
  have h1 := w.2.2.2.1.1
  have kk := K lsR (o1.cons (okv2 (show -10 < (-2 : Int) ∧ (-2 : Int) < h.1 from ⟨by omega, by omega⟩))) o2 lv
  rw [List.map_cons, cvv_neg (by decide)] at kk
  exact va_gets B.1 B.2.1 B.ex.2.2.2.2.2.1 w.2.2.1 B.own (B.wd hw rfl) (fun _ h9 => h9) hd kk
theorem z_gets2 {M pc : Nat} {ls st : List Vl} {h : Hq} {v : Option Vl} {h' : Hq} {j q : Nat} (hd : decode (Bt M) pc = .ok (.getstatic j, 3)) (hw : tw q = some (.fieldLink (CL M) j "jdk/internal/util/Preconditions" "SIOOBE_FORMATTER" "Ljava/util/function/BiFunction;")) (k : SM xv mE D ca M (pc + 3) ls ((2, -9) :: st) h v h') : SM xv mE D ca M pc ls st h v h' := k.rd fun p l e R s m args below meth c A Q n0 ad0 ad H locs lsR cells slots B w o1 o2 lv K => by
  have h1 := w.2.2.2.1.1
  have kk := K lsR (o1.cons (okv2 (show -10 < (-9 : Int) ∧ (-9 : Int) < h.1 from ⟨by omega, by omega⟩))) o2 lv
  rw [List.map_cons, cvv_neg (by decide)] at kk
  exact va_gets B.1 B.2.1 B.ex.2.2.2.2.2.2.1 w.2.2.1 B.own (B.wd hw rfl) (fun _ h9 => h9) hd kk
/-- a text's own fields -/
theorem z_getS {M pc : Nat} {ls r : List Vl} {h : Hq} {v : Option Vl} {h' : Hq} {j q : Nat} {x kk0 : Int} (hd : decode (Bt M) pc = .ok (.getfield j, 3)) (hw : tw q = some (.fieldLink (CL M) j "java/lang/String" (if kk0 = 0 then "value" else "coder") (if kk0 = 0 then "[B" else "B"))) (hx : -5 ≤ x ∧ x ≤ -3) (k : SM xv mE D ca M (pc + 3) ls ((if kk0 = 0 then (2, x - 3) else (0, 0)) :: r) h v h') : SM xv mE D ca M pc ls ((2, x) :: r) h v h' := k.rd fun p l e R s m args below meth c A Q n0 ad0 ad H locs lsR cells slots B w o1 o2 lv K => by
  have h1 := w.2.2.2.1.1
  obtain ⟨i, hi, rfl⟩ : ∃ i : Nat, i < 3 ∧ x = -3 - i := ⟨(-3 - x).toNat, by omega, by omega⟩
  obtain ⟨q1, t1, d1, d2, d3, d4, d5, -⟩ := (B.ex.2.2.2.1 i hi).2
  rw [List.map_cons, cvv_neg (by omega), d1]
  by_cases e : kk0 = 0
  · rw [if_pos e, if_pos e] at hw
    rw [if_pos e] at K
    have kk := K lsR (o1.tail.cons (okv2 (show -10 < (-3 - (i : Int) - 3) ∧ (-3 - (i : Int) - 3) < h.1 from ⟨by omega, by omega⟩))) o2 lv
    rw [List.map_cons, cvv_neg (by omega), show (-3 - (i : Int) - 3) = -6 - i by omega, d2] at kk
    exact vk_getf B.1 B.2.1 d5 w.2.2.1 B.own (B.wd hw rfl) (fun _ h9 => h9) hd kk
  · rw [if_neg e, if_neg e] at hw
    rw [if_neg e] at K
    have kk := K lsR (o1.tail.cons (okv0 (by decide))) o2 lv
    exact vk_getf B.1 B.2.1 d4 w.2.2.1 B.own (B.wd hw rfl) (fun _ h9 => h9) hd kk
theorem cats_eq {ad : Int → Nat} (hx : ∀ x, xv x = .null ∨ ∃ t, xv x = .ref t) : ∀ r : List Vl, ((r.map (cvv ad xv)).map fun v => v.category).sum = cats r
  | [] => rfl
  | a :: r => by
    rw [List.map_cons, List.map_cons, List.sum_cons, cats_eq hx r]
    show _ = (if Nat.beq a.1 1 = true then 2 else 1) + cats r
    have h2 := cvv_cat (ad := ad) (v := a) hx
    rcases lv_cat (cvv ad xv a) with q | q
    · rw [q] at h2 ⊢
      rw [← h2]
      rfl
    · rw [q] at h2 ⊢
      rw [← h2]
      rfl
theorem z_oini {M pc : Nat} {ls r : List Vl} {h : Hq} {v : Option Vl} {h' : Hq} {j q q2 q3 : Nat} {x : Int} (hd : decode (Bt M) pc = .ok (.invokespecial j, 3)) (hw : tw q = some (.methodLink (CL M) j objectInit)) (hw2 : tw q2 = some (.instanceMethod objectInit)) (hw3 : tw q3 = some (.code objectInit ⟨#[0xb1]⟩ 1 none)) (hc : cats r ≤ 8) (hF : 1 ≤ FR M) (hL : 60 ≤ LO M) (hx : 0 < x) (k : SM xv mE D ca M (pc + 3) ls r h v h') : SM xv mE D ca M pc ls ((2, x) :: r) h v h' := k.pure fun p l e R s m args below meth c A Q ad H locs lsR cells slots B o1 o2 lv K => by
  rw [List.map_cons, cvv_ref hx]
  have hRR := B.2.2.2.2.2.2.2.2.2.2.1
  refine W.objInit B.1 B.2.1 B.own (B.wd hw rfl) (B.wd hw2 rfl) (B.wd hw3 rfl) rfl (by rw [B.2.2.1]; exact lv.1) rfl hd (by omega) ?_ (K lsR o1.tail o2 lv)
  show 2 * 0 + _ + 12 ≤ R.locals
  rw [cats_eq B.xq]
  omega
theorem WD.setG {A : Nat → Prop} {s : State} {n0 : Int} {ad0 : Int → Nat} {h : Hq} {ad : Int → Nat} {H H1 : Heap} {locs locs1 : List Loc} {o : Int} {m' : Mm} {e : va_E} (w : WD xv mE D ca A s n0 ad0 h ad H locs) (h0 : 0 < o) (h1 : o < h.1) (hm : ∀ a, a ≠ o → ∀ k, m' a k = h.2 a k) (hz : (kd o).1 < 24) (he : ent ca ad xv m' o = e) (hf : WF (h.1, m'))
    (hP : va_P D classes ((wsO ca ad xv h).set (o - 1).toNat (ad o, e)) H1) (hD : va_D A ((wsO ca ad xv h).set (o - 1).toNat (ad o, e))) (hS : va_S A s.heap H1 locs1) : WD xv mE D ca A s n0 ad0 (h.1, m') ad H1 locs1 := by
  have eW : wsO ca ad xv (h.1, m') = (wsO ca ad xv h).set (o - 1).toNat (ad o, e) := by
    rw [← he]
    exact wsO_set (n := h.1) (m := h.2) h0 h1 hm
  refine ⟨by rw [eW]; exact hP, by rw [eW]; exact hD, hS, hf, fun a k ha => ?_, w.2.2.2.2.2.1, w.2.2.2.2.2.2.1, fun a k g0 g1 => ?_⟩
  · show m' a k = mE a k
    rw [hm a (by omega)]
    exact w.2.2.2.2.1 a k ha
  · show m' a k < h.1
    rw [hm a (fun q => by subst q; omega)]
    exact w.2.2.2.2.2.2.2 a k g0 g1
theorem nfw : nativeFrameWords "java/lang/System" "arraycopy" 5 ≤ 41 := by decide +kernel
theorem z_cpy {M pc : Nat} {ls r : List Vl} {h : Hq} {v : Option Vl} {h' : Hq} {j q q2 q3 q4 : Nat} {n d b s0 a : Int} (hd : decode (Bt M) pc = .ok (.invokestatic j, 3)) (hw : tw q = some (.methodLink (CL M) j arraycopyName)) (hw2 : tw q2 = some (.native arraycopyName)) (hw3 : tw q3 = some (.static arraycopyName)) (hw4 : tw q4 = some (.initialized "java/lang/System")) (hc : cats r ≤ 8) (hF : 1 ≤ FR M) (hL : 60 ≤ LO M)
    (hg : (0 < a ∧ 0 < b ∧ (kd a).1 = 20 ∧ (kd b).1 = 20) ∧ (0 ≤ s0 ∧ 0 ≤ d ∧ 0 ≤ n) ∧ s0 + n ≤ (kd a).2 ∧ d + n ≤ (kd b).2) (k : SM xv mE D ca M (pc + 3) ls r (h.1, cpm h.2 a s0 b d n) v h') : SM xv mE D ca M pc ls ((0, n) :: (0, d) :: (2, b) :: (0, s0) :: (2, a) :: r) h v h' := k.wr fun p l e R s m args below meth c A Q n0 ad0 ad H locs lsR cells slots B w o1 o2 lv K => by
  obtain ⟨⟨ha, hb, hka, hkb⟩, ⟨g1, g2, g3⟩, g4, g5⟩ := hg
  have hla := kd_len a
  have hlb := kd_len b
  have hltb : b < h.1 := o1.tail.tail.head.q.2
  have hlta : a < h.1 := o1.tail.tail.tail.tail.head.q.2
  have cl : ∀ z : Int, 0 ≤ z → z ≤ 48000 → ¬ Int32.ofInt z < 0 ∧ (Int32.ofInt z).toNatClampNeg = z.toNat := fun z z0 z1 => by
    have e := rd32 (x := z) ⟨by omega, by omega⟩
    refine ⟨fun q => ?_, ?_⟩
    · rw [Int32.lt_iff_toInt_lt, e, Int32.toInt_zero] at q; omega
    · show (Int32.ofInt z).toInt.toNat = _; rw [e]
  obtain ⟨c1, c2⟩ := cl n g3 (by omega)
  obtain ⟨c3, c4⟩ := cl d g2 (by omega)
  obtain ⟨c5, c6⟩ := cl s0 g1 (by omega)
  rw [List.map_cons, List.map_cons, List.map_cons, List.map_cons, List.map_cons, cvv_ref ha, cvv_ref hb]
  have hea := w.at ha hlta
  rw [ent_i (by omega) (by omega), hka] at hea
  have heb := w.at hb hltb
  rw [ent_i (by omega) (by omega), hkb] at heb
  have hRR := B.2.2.2.2.2.2.2.2.2.2.1
  have hm : ∀ o, o ≠ b → ∀ k, cpm h.2 a s0 b d n o k = h.2 o k := fun o ho k => if_neg (fun q => ho q.1)
  have hf : WF (h.1, cpm h.2 a s0 b d n) := by
    refine ⟨w.2.2.2.1.1, fun o k ho => ?_, fun o o0 o1' k hk => ?_⟩
    · show cpm h.2 a s0 b d n o k = 0
      rw [hm o (fun q => by have := ho; dsimp only at this; omega)]
      exact w.2.2.2.1.2.1 o k ho
    · show okv h.1 (ktg o k) (cpm h.2 a s0 b d n o k) ∧ (24 ≤ (kd o).1 → 0 ≤ cpm h.2 a s0 b d n o k)
      by_cases e : o = b ∧ d ≤ (k : Int) ∧ (k : Int) < d + n
      · have e2 : cpm h.2 a s0 b d n o k = h.2 a (s0 + ((k : Int) - d)) := if_pos e
        rw [e2, e.1]
        have ok := w.ok ha hlta (k := (s0 + ((k : Int) - d)).toNat) (by omega)
        rw [Int.toNat_of_nonneg (by omega)] at ok
        unfold ktg at ok ⊢
        rw [if_neg (by omega), if_pos (by omega)] at ok
        rw [if_neg (by omega), if_pos (by omega)]
        exact ⟨ok, fun q => by omega⟩
      · have e2 : cpm h.2 a s0 b d n o k = h.2 o k := if_neg e
        rw [e2]
        exact w.2.2.2.1.2.2 o o0 o1' k hk
  refine va_copyi (ty := .int) B.1 B.2.1 (by rw [B.2.2.1]; exact lv.1.symm) B.own (B.wd hw rfl) (B.wd hw2 rfl) (B.wd hw3 rfl) (B.wd hw4 rfl) B.kn w.1 w.2.1 w.2.2.1 (a - 1).toNat (b - 1).toNat 0 0 hea heb rfl rfl rfl c5 c3 c1 (by rw [c6, c2]; omega) (by rw [c4, c2]; omega) (fun _ _ => rfl) (by omega) ?_ hd fun H1 locs1 hP hD hS => ?_
  · rw [cats_eq B.xq]
    have := nfw
    omega
  · rw [c6, c4, c2] at hP hD
    refine K H1 locs1 o1.tail.tail.tail.tail.tail (w.setG hb hltb hm (by omega) ?_ hf hP hD hS)
    rw [ent_i (by omega) (by omega), hkb]
    congr 4
    funext k
    show Int32.ofInt (if b = b ∧ d ≤ (k : Int) ∧ (k : Int) < d + n then h.2 a (s0 + ((k : Int) - d)) else h.2 b k) = if d.toNat ≤ k ∧ k < d.toNat + n.toNat then Int32.ofInt (h.2 a ((s0.toNat + (k - d.toNat) : Nat) : Int)) else Int32.ofInt (h.2 b k)
    by_cases e : d.toNat ≤ k ∧ k < d.toNat + n.toNat
    · rw [if_pos e, if_pos (show b = b ∧ d ≤ (k : Int) ∧ (k : Int) < d + n from ⟨rfl, by omega, by omega⟩), show ((s0.toNat + (k - d.toNat) : Nat) : Int) = s0 + ((k : Int) - d) by omega]
    · rw [if_neg e, if_neg (show ¬ (b = b ∧ d ≤ (k : Int) ∧ (k : Int) < d + n) from fun q => e (by omega))]
/-- another map of the addresses, the same below n -/
theorem cvv_ad {ad ad' : Int → Nat} {n : Int} (hag : ∀ o, o < n → ad' o = ad o) {v : Vl} (h : okv n v.1 v.2) : cvv ad' xv v = cvv ad xv v := by
  unfold cvv
  by_cases h0 : v.1 = 0
  · rw [if_pos h0, if_pos h0]
  · by_cases h1 : v.1 = 1
    · rw [if_neg h0, if_pos h1, if_neg h0, if_pos h1]
    · rw [if_neg h0, if_neg h1, if_neg h0, if_neg h1, hag v.2 (h.2.2 h0 h1).2]
theorem map_ad {ad ad' : Int → Nat} {n : Int} (hag : ∀ o, o < n → ad' o = ad o) {st : List Vl} (h : OKs n st) : st.map (cvv ad' xv) = st.map (cvv ad xv) := List.map_congr_left (fun v hv => cvv_ad hag (h v hv))
theorem LV_ad {lsR : Array Slot} {nL : Nat} {ad ad' : Int → Nat} {ls : List Vl} {n : Int} (hag : ∀ o, o < n → ad' o = ad o) (o2 : OKl n ls) (h : LV xv lsR nL ad ls) : LV xv lsR nL ad' ls := ⟨h.1, h.2.1, h.2.2.1, fun i v hv h9 => by rw [cvv_ad hag (o2 v (List.mem_of_getElem? hv) h9)]; exact h.2.2.2 i v hv h9⟩
theorem OKs.mono {n n' : Int} {st : List Vl} (hn : n ≤ n') (h : OKs n st) : OKs n' st := fun v hv => (h v hv).mono hn
theorem OKl.mono {n n' : Int} {ls : List Vl} (hn : n ≤ n') (h : OKl n ls) : OKl n' ls := fun v hv h9 => (h v hv h9).mono hn
/-- a step that makes cells -/
theorem SM.al {M pc pc1 : Nat} {ls st st1 : List Vl} {h h1 : Hq} {v : Option Vl} {h' : Hq} (hm : h.1 ≤ h1.1) (k : SM xv mE D ca M pc1 ls st1 h1 v h')
    (f : ∀ (p : Program) (l : Launch) (e : Env) (R : Room) (s : State) (m : MethodId) (args : Array Value) (below : List Frame) (meth : Method) (c : Code) (A : Nat → Prop) (Q : State → Prop) (n0 : Int) (ad0 : Int → Nat) (ad : Int → Nat) (H : Heap) (locs : List Loc) (lsR : Array Slot) (cells slots : Nat),
      BC xv mE D ca M p R s m args meth c A → WD xv mE D ca A s n0 ad0 h ad H locs → OKs h.1 st → LV xv lsR (ML M) ad ls → cells + (h1.1.toNat - h.1.toNat) ≤ R.cells → slots + (us h1.1.toNat - us h.1.toNat) ≤ R.slots →
      (∀ (ad' : Int → Nat) (H1 : Heap) (locs1 : List Loc) (cells1 slots1 : Nat), cells1 = cells + (h1.1.toNat - h.1.toNat) → slots1 = slots + (us h1.1.toNat - us h.1.toNat) → (∀ o, o < h.1 → ad' o = ad o) → OKs h1.1 st1 → WD xv mE D ca A s n0 ad0 h1 ad' H1 locs1 → W p l e R s m args below meth c H1 locs1 cells1 slots1 Q (F0 m pc1 lsR (st1.map (cvv ad' xv)))) →
      W p l e R s m args below meth c H locs cells slots Q (F0 m pc lsR (st.map (cvv ad xv)))) : SM xv mE D ca M pc ls st h v h' :=
  ⟨Int.le_trans hm k.1, fun p l e R s m args below meth c A Q n0 ad0 cb sb B r1 r2 hR ad H locs lsR cells slots w o1 o2 lv e1 e2 => by
    have h0 := w.2.2.2.1.1
    have k1 := k.1
    have u1 : us h.1.toNat ≤ us h1.1.toNat := us_mono (by omega)
    have u2 : us h1.1.toNat ≤ us h'.1.toNat := us_mono (by omega)
    refine f p l e R s m args below meth c A Q n0 ad0 ad H locs lsR cells slots B w o1 lv (by omega) (by omega) (fun ad' H1 locs1 cells1 slots1 ec es hag o1' w' => ?_)
    exact k.2 p l e R s m args below meth c A Q n0 ad0 cb sb B r1 r2 hR ad' H1 locs1 lsR cells1 slots1 w' o1' (OKl.mono hm o2) (LV_ad hag o2 lv) (by omega) (by omega)⟩
theorem ent_ad {ad ad' : Int → Nat} {h : Hq} {o : Int} (hag : ∀ o, o < h.1 → ad' o = ad o) (w : WF h) (hz : ∀ o k, 0 < o → 24 ≤ (kd o).1 → h.2 o k < h.1) (h0 : 0 < o) (h1 : o < h.1) : ent ca ad' xv h.2 o = ent ca ad xv h.2 o := by
  have hl := kd_len o
  by_cases h20 : (kd o).1 < 20
  · rw [ent_obj h20, ent_obj h20]
    congr 2
    apply List.map_congr_left
    intro k hk
    have hk := List.mem_range.mp hk
    have ok := (w.2.2 o h0 h1 k (by omega)).1
    unfold ktg at ok
    rw [if_pos h20] at ok
    exact cvv_ad hag ok
  · by_cases h24 : (kd o).1 < 24
    · unfold ent
      rw [if_neg h20, if_neg h20]
      by_cases h23 : (kd o).1 < 23
      · rw [if_pos h23, if_pos h23]
      · rw [if_neg h23, if_neg h23, if_pos (by omega), if_pos (by omega)]
    · rw [ent_q (by omega), ent_q (by omega)]
      congr 7
      funext j
      rw [hag _ (hz o j h0 (by omega))]
/-- the world behind one new cell -/
theorem WD.push {A : Nat → Prop} {s : State} {n0 : Int} {ad0 : Int → Nat} {h : Hq} {ad : Int → Nat} {H H1 : Heap} {locs locs1 : List Loc} {q : Nat} {e : va_E} (w : WD xv mE D ca A s n0 ad0 h ad H locs) (he : ∀ ad' : Int → Nat, ent ca ad' xv h.2 h.1 = e)
    (hP : va_P D classes (wsO ca ad xv h ++ [(q, e)]) H1) (hD : va_D A (wsO ca ad xv h ++ [(q, e)])) (hS : va_S A s.heap H1 locs1) (hk0 : ∀ k : Nat, okv (h.1 + 1) (ktg h.1 k) 0) : ∃ ad' : Int → Nat, ad' h.1 = q ∧ (∀ o, o < h.1 → ad' o = ad o) ∧ WD xv mE D ca A s n0 ad0 (h.1 + 1, h.2) ad' H1 locs1 := by
  have h0 := w.2.2.2.1.1
  refine ⟨fun o => if o = h.1 then q else ad o, if_pos rfl, fun o ho => if_neg (by omega), ?_⟩
  have hag : ∀ o, o < h.1 → (fun o => if o = h.1 then q else ad o) o = ad o := fun o ho => if_neg (by omega)
  have eW : wsO ca (fun o => if o = h.1 then q else ad o) xv (h.1 + 1, h.2) = wsO ca ad xv h ++ [(q, e)] := by
    unfold wsO
    rw [show ((h.1 + 1, h.2) : Hq).1.toNat - 1 = (h.1.toNat - 1) + 1 by dsimp only; omega, List.range_succ, List.map_append]
    congr 1
    · apply List.map_congr_left
      intro i hi
      have hi := List.mem_range.mp hi
      rw [ent_ad hag w.2.2.2.1 w.2.2.2.2.2.2.2 (by omega) (by omega)]
      congr 1
      exact if_neg (by omega)
    · show [((if (((h.1.toNat - 1 : Nat) : Int) + 1) = h.1 then q else ad _), ent ca _ xv h.2 (((h.1.toNat - 1 : Nat) : Int) + 1))] = _
      rw [show (((h.1.toNat - 1 : Nat) : Int) + 1) = h.1 by omega, if_pos rfl, he]
  refine ⟨by rw [eW]; exact hP, by rw [eW]; exact hD, hS, ⟨by show (1 : Int) ≤ h.1 + 1; omega, fun o k ho => w.2.2.2.1.2.1 o k (by have := ho; dsimp only at this; omega), fun o g0 g1 k hk => ?_⟩, w.2.2.2.2.1, by have := w.2.2.2.2.2.1; show n0 ≤ h.1 + 1; omega, fun o ho => ?_, fun o k g0 g1 => ?_⟩
  · show okv (h.1 + 1) (ktg o k) (h.2 o k) ∧ (24 ≤ (kd o).1 → 0 ≤ h.2 o k)
    have g1 : o < h.1 + 1 := g1
    by_cases e0 : o = h.1
    · rw [w.2.2.2.1.2.1 o k (by omega), e0]
      exact ⟨hk0 k, fun _ => Int.le_refl _⟩
    · obtain ⟨a1, a2⟩ := w.2.2.2.1.2.2 o g0 (by omega) k hk
      exact ⟨a1.mono (by omega), a2⟩
  · have := w.2.2.2.2.2.1
    rw [← w.2.2.2.2.2.2.1 o ho]
    exact hag o (by omega)
  · show h.2 o k < h.1 + 1
    have := w.2.2.2.2.2.2.2 o k g0 g1
    omega
theorem okv_zero {n : Int} (h : 1 ≤ n) (t : Nat) : okv n t 0 := ⟨fun _ => by decide, fun _ => by decide, fun _ _ => ⟨by decide, by omega⟩⟩
theorem z_new {M pc : Nat} {ls st : List Vl} {h : Hq} {v : Option Vl} {h' : Hq} {j q q2 q3 ci : Nat} {C : String} {T : u_T} {N : Nat} (hd : decode (Bt M) pc = .ok (.new j, 3)) (hc : classes[ci]? = some (C, T, N)) (h20 : ci < 20) (hu : ∀ w ∈ u_ws C T N, w ∈ lw_tbl) (hgw : (u_ws C T N).all goodWord = true)
    (hty : ∀ k, k < N → parseFieldDescriptor (T k).2.2.1 = some (CY ci k)) (hnf : ∀ k, k < N → nfT (CY ci k) 0) (hw : tw q = some (.classLink (CL M) j C)) (hw2 : tw q2 = some (.instantiable C N)) (hw3 : tw q3 = some (.initialized C)) (hg : (kd h.1).1 = ci) (hk1 : h.1 + 1 ≤ h'.1 → True) (k : SM xv mE D ca M (pc + 3) ls ((2, h.1) :: st) (h.1 + 1, h.2) v h') : SM xv mE D ca M pc ls st h v h' := SM.al (show h.1 ≤ h.1 + 1 by omega) k fun p l e R s m args below meth c A Q n0 ad0 ad H locs lsR cells slots B w o1 lv c1 c2 K => by
  subst hg
  have h0 := w.2.2.2.1.1
  obtain ⟨r', hr', hN⟩ := kd_cls h20
  rw [hc] at hr'
  cases hr'
  dsimp only at hN
  have eu : us ((h.1 + 1, h.2) : Hq).1.toNat = us h.1.toNat + N := by
    show us (h.1 + 1).toNat = _
    rw [show (h.1 + 1).toNat = h.1.toNat + 1 by omega, us_succ, Int.toNat_of_nonneg (by omega), hN]
  have ec : ((h.1 + 1, h.2) : Hq).1.toNat - h.1.toNat = 1 := by show (h.1 + 1).toNat - _ = 1; omega
  rw [ec] at c1 K
  rw [eu, show us h.1.toNat + N - us h.1.toNat = N by omega] at c2 K
  have edef : ∀ ad' : Int → Nat, ∀ k : Nat, k < N → cvv ad' xv (tyg (CY (kd h.1).1 k), h.2 h.1 k) = defaultValue (CY (kd h.1).1 k) := fun ad' k hk => by
    rw [w.2.2.2.1.2.1 h.1 k (Int.le_refl _)]
    have := hnf k hk
    cases hCY : CY (kd h.1).1 k <;> rw [hCY] at this <;> first | rfl | exact this.elim
  have eent : ∀ ad' : Int → Nat, ent ca ad' xv h.2 h.1 = .inr ((kd h.1).1, (List.range N).map (fun k : Nat => defaultValue (CY (kd h.1).1 k))) := fun ad' => by
    rw [ent_obj h20, ← hN]
    congr 2
    apply List.map_congr_left
    intro k hk
    exact edef ad' k (List.mem_range.mp hk)
  refine va_new (Ts := gtf) B.1 B.2.1 B.2.2.2.2.2.2.1 (fun w hw => List.mem_filter.mpr ⟨hu w hw, List.all_eq_true.mp hgw w hw⟩) (CY (kd h.1).1) hty B.own (B.wd hw rfl) (B.wd hw2 rfl) (B.wd hw3 rfl) B.kn w.1 w.2.1 w.2.2.1 B.2.2.2.2.2.2.2.1 hc (fs := (List.range N).map (fun k : Nat => defaultValue (CY (kd h.1).1 k))) (fun j hj => ?_) c1 c2 hd fun q H1 hP hD hS => ?_
  · unfold vp_V
    rw [List.getD_eq_getElem?_getD, List.getElem?_map, List.getElem?_range hj]
    rfl
  · obtain ⟨ad', a1, a2, w'⟩ := w.push eent hP hD hS (fun k => okv_zero (by omega) _)
    have kk := K ad' H1 locs (cells + 1) (slots + N) rfl rfl a2 ((OKs.mono (show h.1 ≤ h.1 + 1 by omega) o1).cons (okv2 (show -10 < h.1 ∧ h.1 < h.1 + 1 from ⟨by omega, by omega⟩))) w'
    rw [List.map_cons, cvv_ref (by omega), a1, map_ad a2 o1] at kk
    exact kk
/-- the kinds of new arrays of numbers -/
def atK (k : Nat) : ArrayType := if k = 20 then .int else if k = 21 then .byte else if k = 22 then .boolean else .long
theorem z_newa {M pc kk : Nat} {ls st : List Vl} {h : Hq} {v : Option Vl} {h' : Hq} {q : Nat} {n : Int} (hd : decode (Bt M) pc = .ok (.newarray (atK kk), 2)) (hkk : kk = 20 ∨ kk = 21 ∨ kk = 22 ∨ kk = 23) (hw : tw q = some (.arrayClass (newarray.typeOf (atK kk)))) (hg : (kd h.1).1 = kk ∧ (kd h.1).2 = n ∧ 0 ≤ n ∧ n ≤ 1000000) (k : SM xv mE D ca M (pc + 2) ls ((2, h.1) :: st) (h.1 + 1, h.2) v h') : SM xv mE D ca M pc ls ((0, n) :: st) h v h' := SM.al (show h.1 ≤ h.1 + 1 by omega) k fun p l e R s m args below meth c A Q n0 ad0 ad H locs lsR cells slots B w o1 lv c1 c2 K => by
  obtain ⟨hk, hn, g0, g1⟩ := hg
  have h0 := w.2.2.2.1.1
  have eu : us ((h.1 + 1, h.2) : Hq).1.toNat = us h.1.toNat + n.toNat := by
    show us (h.1 + 1).toNat = _
    rw [show (h.1 + 1).toNat = h.1.toNat + 1 by omega, us_succ, Int.toNat_of_nonneg (by omega), hn]
  have ec : ((h.1 + 1, h.2) : Hq).1.toNat - h.1.toNat = 1 := by show (h.1 + 1).toNat - _ = 1; omega
  rw [ec] at c1 K
  rw [eu, show us h.1.toNat + n.toNat - us h.1.toNat = n.toNat by omega] at c2 K
  have er := rd32 (x := n) ⟨by omega, by omega⟩
  have hn0 : ¬ Int32.ofInt n < 0 := fun q => by rw [Int32.lt_iff_toInt_lt, er, Int32.toInt_zero] at q; omega
  have hN : (Int32.ofInt n).toNatClampNeg = n.toNat := by show (Int32.ofInt n).toInt.toNat = _; rw [er]
  have hz : ∀ j : Int, h.2 h.1 j = 0 := fun j => w.2.2.2.1.2.1 h.1 j (Int.le_refl _)
  have fin : ∀ (q : Nat) (H1 : Heap) (ee : va_E), (∀ ad' : Int → Nat, ent ca ad' xv h.2 h.1 = ee) → va_P D classes (wsO ca ad xv h ++ [(q, ee)]) H1 → va_D A (wsO ca ad xv h ++ [(q, ee)]) → va_S A s.heap H1 locs → W p l e R s m args below meth c H1 locs (cells + 1) (slots + n.toNat) Q (F0 m (pc + 2) lsR (.ref q :: st.map (cvv ad xv))) := fun q H1 ee he hP hD hS => by
    obtain ⟨ad', a1, a2, w'⟩ := w.push he hP hD hS (fun k => okv_zero (by omega) _)
    have kk := K ad' H1 locs (cells + 1) (slots + n.toNat) rfl rfl a2 ((OKs.mono (show h.1 ≤ h.1 + 1 by omega) o1.tail).cons (okv2 (show -10 < h.1 ∧ h.1 < h.1 + 1 from ⟨by omega, by omega⟩))) w'
    rw [List.map_cons, cvv_ref (by omega), a1, map_ad a2 o1.tail] at kk
    exact kk
  have hA : ∀ (t0 : Nat) (ty : FieldType) (cX cA : ClassId), (tysL ca)[t0]? = some (cX, ty) → va_K D classes (tysL ca ++ [(cA, ty)]) s → ty = .int ∨ ty = .byte ∨ ty = .boolean ∨ ty = .long → cA = cX := fun t0 ty cX cA e1 e2 e3 => by
    have a1 := (B.kn.2 t0 _ e1).2
    have a2 := (e2.2 6 (cA, ty) rfl).2
    rcases e3 with rfl | rfl | rfl | rfl <;> exact Option.some.inj (a2.symm.trans a1)
  rcases hkk with rfl | rfl | rfl | rfl
  · refine va_newa (ty := .int) (atype := .int) (a0 := (n.toNat, .inl (fun _ => 0))) B.1 B.2.1 (B.wd hw rfl) rfl B.kn w.1 w.2.1 w.2.2.1 B.2.2.2.2.2.2.2.1 (fun cA => rfl) hn0 hN (by show n.toNat * 4 ≤ _; omega) c1 c2 hd fun q cA H1 hK hP hD hS => ?_
    have := hA 0 .int (ca 20) cA rfl hK (Or.inl rfl)
    subst this
    exact fin q H1 _ (fun ad' => by rw [ent_i (by omega) (by omega), hk, hn]; congr 4; funext j; rw [hz]; rfl) hP hD hS
  · refine va_newa (ty := .byte) (atype := .byte) (a0 := (n.toNat, .inl (fun _ => 0))) B.1 B.2.1 (B.wd hw rfl) rfl B.kn w.1 w.2.1 w.2.2.1 B.2.2.2.2.2.2.2.1 (fun cA => rfl) hn0 hN (by show n.toNat * 1 ≤ _; omega) c1 c2 hd fun q cA H1 hK hP hD hS => ?_
    have := hA 1 .byte (ca 21) cA rfl hK (Or.inr (Or.inl rfl))
    subst this
    exact fin q H1 _ (fun ad' => by rw [ent_i (by omega) (by omega), hk, hn]; congr 4; funext j; rw [hz]; rfl) hP hD hS
  · refine va_newa (ty := .boolean) (atype := .boolean) (a0 := (n.toNat, .inl (fun _ => 0))) B.1 B.2.1 (B.wd hw rfl) rfl B.kn w.1 w.2.1 w.2.2.1 B.2.2.2.2.2.2.2.1 (fun cA => rfl) hn0 hN (by show n.toNat * 1 ≤ _; omega) c1 c2 hd fun q cA H1 hK hP hD hS => ?_
    have := hA 2 .boolean (ca 22) cA rfl hK (Or.inr (Or.inr (Or.inl rfl)))
    subst this
    exact fin q H1 _ (fun ad' => by rw [ent_i (by omega) (by omega), hk, hn]; congr 4; funext j; rw [hz]; rfl) hP hD hS
  · refine va_newa (ty := .long) (atype := .long) (a0 := (n.toNat, .inr (.inl (fun _ => 0)))) B.1 B.2.1 (B.wd hw rfl) rfl B.kn w.1 w.2.1 w.2.2.1 B.2.2.2.2.2.2.2.1 (fun cA => rfl) hn0 hN (by show n.toNat * 8 ≤ _; omega) c1 c2 hd fun q cA H1 hK hP hD hS => ?_
    have := hA 3 .long (ca 23) cA rfl hK (Or.inr (Or.inr (Or.inr rfl)))
    subst this
    exact fin q H1 _ (fun ad' => by rw [ent_l hk, hn]; congr 5; funext j; rw [hz]; rfl) hP hD hS
end SIMN
