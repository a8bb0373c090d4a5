/-! THE SIMULATION'S ROWS: calls -/
section SIMC
variable {xv : Int → Value} {mE : Mm} {D : va_G} {ca : Nat → ClassId}
/-- a method's start, its end -/
noncomputable def PcM (xv : Int → Value) (mE : Mm) (D : va_G) (ca : Nat → ClassId) (as : List Vl) (h : Hq) (ad : Int → Nat) (sz : Nat) : Array Value → State → Prop :=
  va_Pc (as.map (cvv ad xv)) (fun U => U.heap.size = sz ∧ va_P D classes (wsO ca ad xv h) U.heap ∧ va_K D classes (tysL ca) U ∧ va_D (fun _ => True) (wsO ca ad xv h) ∧ EX xv mE (va_A (wsO ca ad xv h) sz) U U.heap)
noncomputable def BM (xv : Int → Value) (mE : Mm) (D : va_G) (ca : Nat → ClassId) (h h1 : Hq) (ad : Int → Nat) (A1 : Nat → Prop) (ad' : Int → Nat) (t : State) : Prop :=
  va_P D classes (wsO ca ad' xv h1) t.heap ∧ va_K D classes (tysL ca) t ∧ va_D A1 (wsO ca ad' xv h1) ∧ WF h1 ∧ (∀ o k, o < 0 → h1.2 o k = mE o k) ∧ h.1 ≤ h1.1 ∧ (∀ o, o < h.1 → ad' o = ad o) ∧ ∀ o k, 0 < o → 24 ≤ (kd o).1 → h1.2 o k < h1.1
noncomputable def QcM (xv : Int → Value) (mE : Mm) (D : va_G) (ca : Nat → ClassId) (h h1 : Hq) (ad : Int → Nat) (A1 : Nat → Prop) (v : Option Vl) : Array Value → State → Outcome → State → Prop := fun _ st oc t =>
  (∃ ad' : Int → Nat, oc = .returned (v.map (cvv ad' xv)) ∧ (∀ x, v = some x → okv h1.1 x.1 x.2) ∧ BM xv mE D ca h h1 ad A1 ad' t) ∧ va_F A1 st t
noncomputable def rmM (M : Nat) (mc ms : Nat) : Room := { frames := FR M, cells := mc, slots := ms, locals := LO M }
theorem lv_args_at {ad : Int → Nat} (hx : ∀ x, xv x = .null ∨ ∃ t, xv x = .ref t) : ∀ (as : List Vl) (k i : Nat) (v : Vl), (entL as)[i]? = some v → v.1 < 9 → (k + i, cvv ad xv v) ∈ lv_args k (as.map (cvv ad xv))
  | [], k, i, v, h, _ => by simp [entL] at h
  | a :: as, k, i, v, h, h9 => by
    have hc := cvv_cat (ad := ad) (v := a) hx
    rw [List.map_cons]
    unfold lv_args
    cases i with
    | zero =>
      unfold entL at h
      rw [List.getElem?_cons_zero] at h
      cases h
      exact List.mem_cons_self
    | succ i =>
      unfold entL at h
      rw [List.getElem?_cons_succ] at h
      apply List.mem_cons_of_mem
      cases hb : Nat.beq a.1 1 with
      | true =>
        rw [hb] at h hc
        have hc : (cvv ad xv a).category = 2 := by simpa using hc
        rw [if_pos hc]
        rw [cond_true] at h
        cases i with
        | zero =>
          rw [List.getElem?_cons_zero] at h
          cases h
          exact absurd h9 (by decide)
        | succ i =>
          rw [List.getElem?_cons_succ] at h
          have := lv_args_at (ad := ad) hx as (k + 2) i v h h9
          rw [show k + (i + 1 + 1) = k + 2 + i by omega]
          exact this
      | false =>
        rw [hb] at h hc
        have hc : ¬ (cvv ad xv a).category = 2 := by simpa using hc
        rw [if_neg hc]
        rw [cond_false] at h
        have := lv_args_at (ad := ad) hx as (k + 1) i v h h9
        rw [show k + (i + 1) = k + 1 + i by omega]
        exact this
theorem lg_len {ad : Int → Nat} (hx : ∀ x, xv x = .null ∨ ∃ t, xv x = .ref t) : ∀ as : List Vl, (lg_sl (as.map (cvv ad xv))).length = (entL as).length
  | [] => rfl
  | a :: as => by
    have hc := cvv_cat (ad := ad) (v := a) hx
    have ih := lg_len (ad := ad) hx as
    unfold entL
    rw [List.map_cons]
    have e : lg_sl (cvv ad xv a :: as.map (cvv ad xv)) = (if (cvv ad xv a).category = 2 then [Slot.val (cvv ad xv a), .second] else [.val (cvv ad xv a)]) ++ lg_sl (as.map (cvv ad xv)) := by simp [lg_sl]
    rw [e, List.length_append, ih]
    cases hb : Nat.beq a.1 1 with
    | true =>
      rw [hb] at hc
      rw [if_pos (by simpa using hc)]
      simp
      omega
    | false =>
      rw [hb] at hc
      rw [if_neg (by simpa using hc)]
      simp
      omega
theorem entM_len {n : Nat} {as : List Vl} (h : (entL as).length ≤ n) : (entM n as).length = n := by
  unfold entM
  rw [List.length_append, List.length_replicate]
  omega
theorem entL_ok {n : Int} : ∀ {as : List Vl}, OKs n as → OKl n (entL as)
  | [], _ => fun v hv => by cases hv
  | a :: as, h => fun v hv h9 => by
    unfold entL at hv
    rcases List.mem_cons.mp hv with e | hv
    · subst e; exact h.head
    · cases hb : Nat.beq a.1 1 with
      | true =>
        rw [hb, cond_true] at hv
        rcases List.mem_cons.mp hv with e | hv
        · subst e; exact absurd h9 (by decide)
        · exact entL_ok h.tail v hv h9
      | false =>
        rw [hb, cond_false] at hv
        exact entL_ok h.tail v hv h9
theorem entM_ok {n : Int} {k : Nat} {as : List Vl} (h : OKs n as) : OKl n (entM k as) := fun v hv h9 => by
  unfold entM at hv
  rcases List.mem_append.mp hv with hv | hv
  · exact entL_ok h v hv h9
  · have := List.eq_of_mem_replicate hv
    subst this
    exact absurd h9 (by decide)
/-- what the tables say of a method -/
def MF (M : Nat) : Prop := .code (Yn M) (Bt M) (ML M) (Rt M) ∈ gtf ∧ .initialized (Yn M).cls ∈ gtf ∧ (Yn M).cls = CL M ∧ plainFor (Yn M) = true ∧ ((Yn M).cls ≠ "java/lang/invoke/MethodHandle" ∧ (Yn M).cls ≠ "java/lang/invoke/VarHandle") ∧ (isI M = true → (Yn M).name = "<init>")
theorem wsM_good {M : Nat} (h : MF M) : GoodIn gtf (wsM M) := gt_in (fun w hw => (List.mem_cons.mp hw).elim (fun e => e ▸ h.1) id)
/-- the contract of a method, out of the simulation of its body -/
theorem metOf {M : Nat} {as : List Vl} {h h1 : Hq} {v : Option Vl} (hM : MF M) (k : SM xv mE D ca M 0 (entM (ML M) as) [] h v h1) (hlen : (entL as).length ≤ ML M) (hok : OKs h.1 as) (hw : WF h) (hE : ∀ o q, o < 0 → h.2 o q = mE o q) (hz : ∀ o q, 0 < o → 24 ≤ (kd o).1 → h.2 o q < h.1) (l : Launch) (ad : Int → Nat) (sz : Nat) :
    Met l (Yn M) (wsM M) (rmM M (h1.1.toNat - h.1.toNat) (us h1.1.toNat - us h.1.toNat)) (PcM xv mE D ca as h ad sz) (QcM xv mE D ca h h1 ad (va_A (wsO ca ad xv h) sz) v) (h1.1.toNat - h.1.toNat) (us h1.1.toNat - us h.1.toNat) (va_A (wsO ca ad xv h) sz) := by
  refine va_MetF (cc := Bt M) (maxL := ML M) (ret := Rt M) hM.2.2.2.1 rfl ?_
  intro p e s m args below meth c s₁ Bd hml hv
  obtain ⟨rfl, hsz, hP, hK, hD0, hEX⟩ := hv
  subst hsz
  have hts := atoms_spec (ws := wsM M) Bd.pre
  have hxq := hEX.2.2.2.2.2.2.2.2.2
  have hB : BC xv mE D ca M p (headSpec (wsM M) (rmM M (h1.1.toNat - h.1.toNat) (us h1.1.toNat - us h.1.toNat))).room s m (as.map (cvv ad xv)).toArray meth c (va_A (wsO ca ad xv h) s.heap.size) :=
    ⟨Bd.exec, Bd.bytes, hml, by rw [← hM.2.2.1]; exact findClass_of_methodNamed Bd.named, Bd.returns, Bd.notSynchronized, fun w hw => hts w (List.mem_cons_of_mem _ hw), fun q hq => Or.inr hq, hEX, hK, ⟨Nat.le_refl _, Nat.le_refl _⟩, fun hi => by rw [(name_of_methodNamed Bd.named Bd.method).1]; exact hM.2.2.2.2.2 hi⟩
  have h0 := hw.1
  have k1 := k.1
  have u1 : us h.1.toNat ≤ us h1.1.toNat := us_mono (by omega)
  rw [lg_entry_eq]
  have hl := lv_entry (as.map (cvv ad xv)) (n := ML M) (by rw [lg_len hxq]; exact hlen)
  generalize (lg_sl (as.map (cvv ad xv)) ++ List.replicate (ML M - (lg_sl (as.map (cvv ad xv))).length) Slot.unset).toArray = lsR at hl ⊢
  have hLV : LV xv lsR (ML M) ad (entM (ML M) as) := ⟨hl.1, entM_len hlen, hl.2.1, fun i w hw' h9 => by
    unfold entM at hw'
    by_cases hi : i < (entL as).length
    · rw [List.getElem?_append_left hi] at hw'
      have := lv_args_at (ad := ad) hxq as 0 i w hw' h9
      rw [Nat.zero_add] at this
      exact hl.2.2 _ this
    · rw [List.getElem?_append_right (by omega)] at hw'
      have := List.eq_of_mem_replicate (List.mem_of_getElem? hw')
      subst this
      exact absurd h9 (by decide)⟩
  have hWD : WD xv mE D ca (va_A (wsO ca ad xv h) s.heap.size) s h.1 ad h ad s.heap [] := ⟨hP, hD0.self, va_S.rf, hw, hE, Int.le_refl _, fun _ _ => rfl, hz⟩
  refine k.2 p l e _ s m _ below meth c _ _ h.1 ad h.1.toNat (us h.1.toNat) hB ?_ ?_ ?_ ad s.heap [] lsR 0 0 hWD (fun _ hx => by cases hx) (entM_ok hok) hLV (by omega) (by omega)
  · show h1.1.toNat ≤ h.1.toNat + (h1.1.toNat - h.1.toNat); omega
  · show us h1.1.toNat ≤ us h.1.toNat + (us h1.1.toNat - us h.1.toNat); omega
  · intro ad' H locs lsR' pc cells slots w' hrd hokv e1 e2
    have ec : cells = h1.1.toNat - h.1.toNat := by omega
    have es : slots = us h1.1.toNat - us h.1.toNat := by omega
    subst ec
    subst es
    have post : ∀ t : State, t.heap = H → s.WarmedH t.vm → QcM xv mE D ca h h1 ad (va_A (wsO ca ad xv h) s.heap.size) v (as.map (cvv ad xv)).toArray s (.returned (v.map (cvv ad' xv))) t := fun t ht hW =>
      ⟨⟨ad', rfl, hokv, by rw [ht]; exact w'.1, va_K.moved hW.alike hK, w'.2.1, w'.2.2.2.1, w'.2.2.2.2.1, k1, w'.2.2.2.2.2.2.1, w'.2.2.2.2.2.2.2⟩, w'.2.2.1.F ht⟩
    cases v with
    | none =>
      obtain ⟨d1, d2⟩ := hrd
      exact W.vret Bd.exec Bd.bytes (by rw [Bd.returns]; exact d2) post w'.2.2.1.2.2 d1
    | some x =>
      obtain ⟨t, y⟩ := x
      unfold RD at hrd
      dsimp only at hrd
      by_cases t0 : t = 0
      · subst t0
        rw [if_pos rfl] at hrd
        obtain ⟨d1, ty, d2, d3⟩ := hrd
        exact W.zret Bd.exec Bd.bytes (by rw [Bd.returns]; exact d2) d3 post w'.2.2.1.2.2 d1
      · rw [if_neg t0] at hrd
        by_cases t1 : t = 1
        · subst t1
          rw [if_pos rfl] at hrd
          exact W.lret Bd.exec Bd.bytes (by rw [Bd.returns]; exact hrd.2) post w'.2.2.1.2.2 hrd.1
        · rw [if_neg t1] at hrd
          obtain ⟨d1, ⟨ty, d2⟩, d3⟩ := hrd
          have ev : cvv ad' xv (t, y) = .ref (ad' y) := by
            unfold cvv
            rw [if_neg t0, if_neg t1, if_pos d3]
          exact W.aret Bd.exec Bd.bytes (by rw [Bd.returns]; exact d2) (Or.inr ⟨ty, rfl⟩) (Or.inr ⟨_, ev⟩) post w'.2.2.1.2.2 d1
/-- what a caller has at hand for a call of M1 at index j, with as on the stack, st1 below -/
theorem blindM {as : List Vl} {h : Hq} {ad : Int → Nat} {sz : Nat} : FrameBlind (PcM xv mE D ca as h ad sz) := by
  intro a U g mk q
  obtain ⟨q0, q1, qP, qK, qD, qE⟩ := q
  exact ⟨q0, q1, qP, va_K.moved (u := U) (U := U.calling g mk a) (Vm.Alike.refl U.vm) qK, qD, EX.warm (s := U) (U := U.calling g mk a) (State.WarmedH.refl U) qE⟩
theorem callP {A : Nat → Prop} {M : Nat} {p : Program} {R : Room} {s : State} {m : MethodId} {args : Array Value} {meth : Method} {c : Code} {n0 : Int} {ad0 : Int → Nat} {h : Hq} {ad : Int → Nat} {H : Heap} {locs : List Loc} {as : List Vl} (B : BC xv mE D ca M p R s m args meth c A) (w : WD xv mE D ca A s n0 ad0 h ad H locs) :
    ∀ U : State, U.heap = H → s.WarmedH U.vm → PcM xv mE D ca as h ad H.size (as.map (cvv ad xv)).toArray U := fun U hU hW =>
  have hF : ∀ q, va_A (wsO ca ad xv h) H.size q → A q := fun q hq => hq.elim (fun ⟨k, e, hk⟩ => w.2.1.2 k (q, e) hk) (fun hq => B.2.2.2.2.2.2.2.1 q (Nat.le_trans w.2.2.1.1 hq))
  ⟨rfl, by rw [hU], by rw [hU]; exact w.1, va_K.moved hW.alike B.kn, w.2.1.weaken (fun _ _ _ _ => trivial), by
    rw [hU]
    exact ((B.ex.kept w.2.2.1.2.1).narrow hF).warm hW⟩
/-- behind a call -/
theorem call_go {M1 pc : Nat} {ls : Array Slot} {lsP st1 : List Vl} {h h1 : Hq} {v1 : Option Vl} {nL : Nat} {Q : State → Prop} {A : Nat → Prop} {M : Nat} {p : Program} {l : Launch} {e : Env} {R : Room} {s : State} {m : MethodId} {args : Array Value} {below : List Frame} {meth : Method} {c : Code} {n0 : Int} {ad0 : Int → Nat} {ad : Int → Nat} {H : Heap} {locs : List Loc} {cells slots : Nat} {st0 : List Value} {a : Array Value}
    (B : BC xv mE D ca M p R s m args meth c A) (w : WD xv mE D ca A s n0 ad0 h ad H locs) (hr : va_Run p l e R s m args below meth c H locs cells slots (h1.1.toNat - h.1.toNat) (us h1.1.toNat - us h.1.toNat) (F0 m pc ls st0) (st1.map (cvv ad xv)) (QcM xv mE D ca h h1 ad (va_A (wsO ca ad xv h) H.size) v1 a) (va_A (wsO ca ad xv h) H.size)) (ho : OKs h.1 st1)
    (kk : ∀ (ad' : Int → Nat) (H1 : Heap) (locs1 : List Loc), (∀ o, o < h.1 → ad' o = ad o) → (∀ x, v1 = some x → okv h1.1 x.1 x.2) → WD xv mE D ca A s n0 ad0 h1 ad' H1 locs1 → W p l e R s m args below meth c H1 locs1 (cells + (h1.1.toNat - h.1.toNat)) (slots + (us h1.1.toNat - us h.1.toNat)) Q (F0 m (pc + 3) ls ((v1.toList ++ st1).map (cvv ad' xv)))) : W p l e R s m args below meth c H locs cells slots Q (F0 m pc ls st0) := by
  have hF : ∀ q, va_A (wsO ca ad xv h) H.size q → A q := fun q hq => hq.elim (fun ⟨k, e, hk⟩ => w.2.1.2 k (q, e) hk) (fun hq => B.2.2.2.2.2.2.2.1 q (Nat.le_trans w.2.2.1.1 hq))
  have hS := w.2.2.1
  intro T hT X
  obtain ⟨v, st₀, t, T', L, g0, X', hL, e1, e2, ⟨⟨ad', hv, hokv, bP, bK, bD, bW, bE, bm, bag, bz⟩, hz, hk⟩, st⟩ := hr T hT X
  have hv : v = v1.map (cvv ad' xv) := by injection hv
  rw [g0] at hz hk
  rw [← e1] at bP hz hk
  have hWD : WD xv mE D ca A s n0 ad0 h1 ad' T'.heap (locs ++ L) := ⟨bP, bD.weaken (fun k q _ hq => hF q.1 hq), ⟨Nat.le_trans hS.1 hz, fun q g1 g2 => by rw [hk q (Nat.lt_of_lt_of_le g1 hS.1) (fun z => g2 (hF q z))]; exact hS.2.1 q g1 g2, fun q hq => by
      rcases List.mem_append.mp hq with g | g
      · exact hS.2.2 q g
      · exact hF _ (hL q g)⟩, bW, bE, Int.le_trans w.2.2.2.2.2.1 bm, fun o ho' => by rw [bag o (Int.lt_of_lt_of_le ho' w.2.2.2.2.2.1)]; exact w.2.2.2.2.2.2.1 o ho', bz⟩
  obtain ⟨t2, a1, b1⟩ := kk ad' T'.heap (locs ++ L) bag hokv hWD T' rfl X'
  refine ⟨t2, st t2 ?_, b1⟩
  have es : v.toList ++ st1.map (cvv ad xv) = (v1.toList ++ st1).map (cvv ad' xv) := by
    rw [hv, List.map_append, map_ad bag ho]
    cases v1 <;> rfl
  show Steps _ _ _ (T'.setTop { F0 m pc ls st0 with pc := pc + 3, stack := v.toList ++ st1.map (cvv ad xv) }) _
  rw [es]
  exact a1
end SIMC
