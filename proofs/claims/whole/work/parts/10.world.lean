/-! THE SIMULATION'S ROWS: cells read and written -/
section SIMW
variable {xv : Int → Value} {mE : Mm} {D : va_G} {ca : Nat → ClassId}
theorem SM.rd {M pc pc1 : Nat} {ls ls1 st st1 : List Vl} {h : Hq} {v : Option Vl} {h' : Hq} (k : SM xv mE D ca M pc1 ls1 st1 h v h')
    (f : ∀ (p : Program) (l : Launch) (e : Env) (R : Room) (s : State) (m : MethodId) (args : Array Value) (below : List Frame) (meth : Method) (c : Code) (A : Nat → Prop) (Q : State → Prop) (n0 : Int) (ad0 : Int → Nat) (ad : Int → Nat) (H : Heap) (locs : List Loc) (lsR : Array Slot) (cells slots : Nat),
      BC xv mE D ca M p R s m args meth c A → WD xv mE D ca A s n0 ad0 h ad H locs → OKs h.1 st → OKl h.1 ls → LV xv lsR (ML M) ad ls →
      (∀ lsR1 : Array Slot, OKs h.1 st1 → OKl h.1 ls1 → LV xv lsR1 (ML M) ad ls1 → W p l e R s m args below meth c H locs cells slots Q (F0 m pc1 lsR1 (st1.map (cvv ad xv)))) →
      W p l e R s m args below meth c H locs cells slots Q (F0 m pc lsR (st.map (cvv ad xv)))) : SM xv mE D ca M pc ls st h v h' :=
  ⟨k.1, fun p l e R s m args below meth c A Q n0 ad0 cb sb B r1 r2 hR ad H locs lsR cells slots w o1 o2 lv e1 e2 =>
    f p l e R s m args below meth c A Q n0 ad0 ad H locs lsR cells slots B w o1 o2 lv (fun lsR1 o1' o2' lv' => k.2 p l e R s m args below meth c A Q n0 ad0 cb sb B r1 r2 hR ad H locs lsR1 cells slots w o1' o2' lv' e1 e2)⟩
/-- a store into a cell that is there -/
theorem SM.wr {M pc pc1 : Nat} {ls st st1 : List Vl} {h : Hq} {m' : Mm} {v : Option Vl} {h' : Hq} (k : SM xv mE D ca M pc1 ls st1 (h.1, m') v h')
    (f : ∀ (p : Program) (l : Launch) (e : Env) (R : Room) (s : State) (m : MethodId) (args : Array Value) (below : List Frame) (meth : Method) (c : Code) (A : Nat → Prop) (Q : State → Prop) (n0 : Int) (ad0 : Int → Nat) (ad : Int → Nat) (H : Heap) (locs : List Loc) (lsR : Array Slot) (cells slots : Nat),
      BC xv mE D ca M p R s m args meth c A → WD xv mE D ca A s n0 ad0 h ad H locs → OKs h.1 st → OKl h.1 ls → LV xv lsR (ML M) ad ls →
      (∀ (H1 : Heap) (locs1 : List Loc), OKs h.1 st1 → WD xv mE D ca A s n0 ad0 (h.1, m') ad H1 locs1 → W p l e R s m args below meth c H1 locs1 cells slots Q (F0 m pc1 lsR (st1.map (cvv ad xv)))) →
      W p l e R s m args below meth c H locs cells slots Q (F0 m pc lsR (st.map (cvv ad xv)))) : SM xv mE D ca M pc ls st h v h' :=
  ⟨k.1, fun p l e R s m args below meth c A Q n0 ad0 cb sb B r1 r2 hR ad H locs lsR cells slots w o1 o2 lv e1 e2 =>
    f p l e R s m args below meth c A Q n0 ad0 ad H locs lsR cells slots B w o1 o2 lv (fun H1 locs1 o1' w' => k.2 p l e R s m args below meth c A Q n0 ad0 cb sb B r1 r2 hR ad H1 locs1 lsR cells slots w' o1' o2 lv e1 e2)⟩
theorem cvv_ref {xv : Int → Value} {ad : Int → Nat} {x : Int} (h : 0 < x) : cvv ad xv (2, x) = .ref (ad x) := if_pos h
theorem ent_obj {ad : Int → Nat} {m : Mm} {o : Int} (h : (kd o).1 < 20) : ent ca ad xv m o = .inr ((kd o).1, (List.range (kd o).2.toNat).map (fun k : Nat => cvv ad xv (tyg (CY (kd o).1 k), m o k))) := if_pos h
theorem ent_i {ad : Int → Nat} {m : Mm} {o : Int} (h : 20 ≤ (kd o).1) (h2 : (kd o).1 < 23) : ent ca ad xv m o = .inl (ca (kd o).1, (kd o).2.toNat, .inl (fun j : Nat => Int32.ofInt (m o j))) := by
  unfold ent
  rw [if_neg (by omega), if_pos h2]
theorem ent_l {ad : Int → Nat} {m : Mm} {o : Int} (h : (kd o).1 = 23) : ent ca ad xv m o = .inl (ca 23, (kd o).2.toNat, .inr (.inl (fun j : Nat => Int64.ofInt (m o j)))) := by
  unfold ent
  rw [if_neg (by omega), if_neg (by omega), if_pos h]
theorem ent_q {ad : Int → Nat} {m : Mm} {o : Int} (h : 24 ≤ (kd o).1) : ent ca ad xv m o = .inl (ca (kd o).1, (kd o).2.toNat, .inr (.inr (.inr (.inr (fun j : Nat => if 0 < m o j then some (ad (m o j)) else none))))) := by
  unfold ent
  rw [if_neg (by omega), if_neg (by omega), if_neg (by omega)]
theorem WD.at {A : Nat → Prop} {s : State} {n0 : Int} {ad0 : Int → Nat} {h : Hq} {ad : Int → Nat} {H : Heap} {locs : List Loc} {o : Int} (_ : WD xv mE D ca A s n0 ad0 h ad H locs) (h0 : 0 < o) (h1 : o < h.1) : (wsO ca ad xv h)[(o - 1).toNat]? = some (ad o, ent ca ad xv h.2 o) := wsO_get h0 h1
theorem WD.ok {A : Nat → Prop} {s : State} {n0 : Int} {ad0 : Int → Nat} {h : Hq} {ad : Int → Nat} {H : Heap} {locs : List Loc} {o : Int} (w : WD xv mE D ca A s n0 ad0 h ad H locs) (h0 : 0 < o) (h1 : o < h.1) {k : Nat} (hk : (k : Int) < (kd o).2) : okv h.1 (ktg o k) (h.2 o k) := (w.2.2.2.1.2.2 o h0 h1 k hk).1
/-- an object's field is read -/
theorem z_getf {M pc : Nat} {ls r : List Vl} {h : Hq} {v : Option Vl} {h' : Hq} {j q ci kn t : Nat} {x : Int} {C : String} {T : u_T} {N : Nat} (hd : decode (Bt M) pc = .ok (.getfield j, 3)) (hc : classes[ci]? = some (C, T, N)) (h20 : ci < 20) (hu : ∀ w ∈ u_ws C T N, w ∈ lw_tbl) (hg : (u_ws C T N).all goodWord = true) (hk : kn < N)
    (hw : tw q = some (.fieldLink (CL M) j (T kn).1 (T kn).2.1 (T kn).2.2.1)) (ht : t = tyg (CY ci kn)) (hx : 0 < x ∧ (kd x).1 = ci) (k : SM xv mE D ca M (pc + 3) ls ((t, h.2 x kn) :: r) h v h') : SM xv mE D ca M pc ls ((2, x) :: r) h v h' := k.rd fun p l e R s m args below meth c A Q n0 ad0 ad H locs lsR cells slots B w o1 o2 lv K => by
  have hlt : x < h.1 := o1.head.q.2
  obtain ⟨hx0, hkd⟩ := hx
  subst hkd
  obtain ⟨r', hr', hN⟩ := kd_cls h20
  rw [hc] at hr'
  cases hr'
  dsimp only at hN
  have hkl : (kn : Int) < (kd x).2 := by omega
  have okx := w.ok hx0 hlt hkl
  unfold ktg at okx
  rw [if_pos h20, ← ht] at okx
  have kk := K lsR (o1.tail.cons okx) o2 lv
  rw [List.map_cons, cvv_ref hx0]
  have he := w.at hx0 hlt
  rw [ent_obj h20] at he
  refine va_get (Ts := gtf) (k := kn) (v := cvv ad xv (t, h.2 x kn)) B.1 B.2.1 B.2.2.2.2.2.2.1 (fun w hw => List.mem_filter.mpr ⟨hu w hw, List.all_eq_true.mp hg w hw⟩) B.own B.kn w.1 (x - 1).toNat he hc hk (B.wd hw rfl) (fun _ h9 => h9) ?_ hd kk
  rw [List.getElem?_map, List.getElem?_range (by omega), ht]
  rfl
/-- which types a field of ours may have, and what goes into it -/
def nfT (ty : FieldType) (x : Int) : Prop := match ty with
  | .boolean => x = 0 ∨ x = 1
  | .int => True
  | .long => True
  | .object _ => True
  | .array _ => True
  | _ => False
theorem nf_ok {ty : FieldType} {x : Int} {ad : Int → Nat} (hx : ∀ x, xv x = .null ∨ ∃ t, xv x = .ref t) (h : nfT ty x) : narrow ty (cvv ad xv (tyg ty, x)) = cvv ad xv (tyg ty, x) ∧ fits ty (cvv ad xv (tyg ty, x)) = true := by
  cases ty with
  | int => exact ⟨rfl, rfl⟩
  | long => exact ⟨rfl, rfl⟩
  | boolean => rcases h with rfl | rfl <;> exact ⟨rfl, rfl⟩
  | object C => rcases cvv_q hx ad x with e | ⟨t, e⟩ <;> (show narrow _ (cvv ad xv (2, x)) = cvv ad xv (2, x) ∧ fits _ (cvv ad xv (2, x)) = true; rw [e]; exact ⟨rfl, rfl⟩)
  | array t => rcases cvv_q hx ad x with e | ⟨t', e⟩ <;> (show narrow _ (cvv ad xv (2, x)) = cvv ad xv (2, x) ∧ fits _ (cvv ad xv (2, x)) = true; rw [e]; exact ⟨rfl, rfl⟩)
  | _ => exact h.elim
theorem wf_st {h : Hq} (w : WF h) {o i x : Int} (h0 : 0 < o) (h1 : o < h.1) (hv : ∀ k : Nat, (k : Int) = i → (k : Int) < (kd o).2 → okv h.1 (ktg o k) x ∧ (24 ≤ (kd o).1 → 0 ≤ x)) : WF (h.1, stm h.2 o i x) := by
  refine ⟨w.1, fun a k ha => ?_, fun a g0 g1 k hk => ?_⟩
  · show (if a = o ∧ k = i then x else h.2 a k) = 0
    rw [if_neg (fun q => by have := ha; dsimp only at this; omega)]
    exact w.2.1 a k ha
  · show okv h.1 (ktg a k) (if a = o ∧ (k : Int) = i then x else h.2 a k) ∧ (24 ≤ (kd a).1 → 0 ≤ (if a = o ∧ (k : Int) = i then x else h.2 a k))
    by_cases e : a = o ∧ (k : Int) = i
    · rw [if_pos e]
      obtain ⟨rfl, e2⟩ := e
      exact hv k e2 hk
    · rw [if_neg e]
      exact w.2.2 a g0 g1 k hk
/-- the world behind a store, out of what the kit's rows give -/
theorem WD.set {A : Nat → Prop} {s : State} {n0 : Int} {ad0 : Int → Nat} {h : Hq} {ad : Int → Nat} {H H1 : Heap} {locs locs1 : List Loc} {o i x : Int} {e : va_E} (w : WD xv mE D ca A s n0 ad0 h ad H locs) (h0 : 0 < o) (h1 : o < h.1) (hz : 24 ≤ (kd o).1 → x < h.1) (he : ent ca ad xv (stm h.2 o i x) o = e) (hf : WF (h.1, stm h.2 o i x))
    (hP : va_P D classes ((wsO ca ad xv h).set (o - 1).toNat (ad o, e)) H1) (hD : va_D A ((wsO ca ad xv h).set (o - 1).toNat (ad o, e))) (hS : va_S A s.heap H1 locs1) : WD xv mE D ca A s n0 ad0 (h.1, stm h.2 o i x) ad H1 locs1 := by
  have eW : wsO ca ad xv (h.1, stm h.2 o i x) = (wsO ca ad xv h).set (o - 1).toNat (ad o, e) := by
    rw [← he]
    exact wsO_set (n := h.1) (m := h.2) h0 h1 (fun a ha k => if_neg (fun q => ha q.1))
  refine ⟨by rw [eW]; exact hP, by rw [eW]; exact hD, hS, hf, fun a k ha => ?_, w.2.2.2.2.2.1, w.2.2.2.2.2.2.1, fun a k g0 g1 => ?_⟩
  rotate_left
  · show (if a = o ∧ k = i then x else h.2 a k) < h.1
    by_cases e : a = o ∧ k = i
    · rw [if_pos e]; exact hz (e.1 ▸ g1)
    · rw [if_neg e]; exact w.2.2.2.2.2.2.2 a k g0 g1
  show (if a = o ∧ k = i then x else h.2 a k) = mE a k
  rw [if_neg (fun q => by omega)]
  exact w.2.2.2.2.1 a k ha
theorem ent_put {ad : Int → Nat} {m : Mm} {o x : Int} {kn : Nat} (h : (kd o).1 < 20) (hk : kn < (kd o).2.toNat) : ent ca ad xv (stm m o kn x) o = .inr ((kd o).1, ((List.range (kd o).2.toNat).map (fun k : Nat => cvv ad xv (tyg (CY (kd o).1 k), m o k))).set kn (cvv ad xv (tyg (CY (kd o).1 kn), x))) := by
  rw [ent_obj h]
  congr 2
  apply List.ext_getElem?
  intro i
  by_cases hi : i < (kd o).2.toNat
  · rw [List.getElem?_map, List.getElem?_range hi]
    show some (cvv ad xv (_, if o = o ∧ (i : Int) = (kn : Int) then x else m o i)) = _
    by_cases e : kn = i
    · subst e
      rw [List.getElem?_set_self (by simpa using hi), if_pos ⟨rfl, rfl⟩]
    · rw [List.getElem?_set_ne e, List.getElem?_map, List.getElem?_range hi, if_neg (fun q => e (by omega))]
      rfl
  · rw [List.getElem?_eq_none (by simpa using hi), List.getElem?_eq_none (by simpa using hi)]
theorem z_putf {M pc : Nat} {ls r : List Vl} {h : Hq} {v : Option Vl} {h' : Hq} {j q ci kn t : Nat} {x y : Int} {C : String} {T : u_T} {N : Nat} (hd : decode (Bt M) pc = .ok (.putfield j, 3)) (hc : classes[ci]? = some (C, T, N)) (h20 : ci < 20) (hu : ∀ w ∈ u_ws C T N, w ∈ lw_tbl) (hg : (u_ws C T N).all goodWord = true) (hk : kn < N)
    (hty : ∀ k, k < N → parseFieldDescriptor (T k).2.2.1 = some (CY ci k)) (hnm : ∀ a, a < N → ∀ b, b < N → a ≠ b → (T a).2.1 ≠ (T b).2.1)
    (hw : tw q = some (.fieldLink (CL M) j (T kn).1 (T kn).2.1 (T kn).2.2.1)) (ht : t = tyg (CY ci kn)) (hn : nfT (CY ci kn) y) (hfin : (T kn).2.2.2 = false ∨ (isI M = true ∧ (T kn).1 = CL M)) (hx : 0 < x ∧ (kd x).1 = ci) (k : SM xv mE D ca M (pc + 3) ls r (h.1, stm h.2 x kn y) v h') : SM xv mE D ca M pc ls ((t, y) :: (2, x) :: r) h v h' := k.wr fun p l e R s m args below meth c A Q n0 ad0 ad H locs lsR cells slots B w o1 o2 lv K => by
  have hlt : x < h.1 := o1.tail.head.q.2
  obtain ⟨hx0, hkd⟩ := hx
  subst hkd
  obtain ⟨r', hr', hN⟩ := kd_cls h20
  rw [hc] at hr'
  cases hr'
  dsimp only at hN
  rw [List.map_cons, List.map_cons, cvv_ref hx0]
  have he := w.at hx0 hlt
  rw [ent_obj h20] at he
  have okx := o1.head
  dsimp only at okx
  have hf : WF (h.1, stm h.2 x kn y) := wf_st w.2.2.2.1 hx0 hlt (fun k' e1 _ => by
    have : k' = kn := by omega
    subst this
    unfold ktg
    rw [if_pos h20, ← ht]
    exact ⟨okx, fun q => by omega⟩)
  obtain ⟨f1, f2⟩ := nf_ok (ad := ad) B.xq hn
  rw [ht]
  have hin : ∀ w ∈ u_ws C T N, w ∈ gtf := fun w hw => List.mem_filter.mpr ⟨hu w hw, List.all_eq_true.mp hg w hw⟩
  have fin : ∀ (H1 : Heap) (locs1 : List Loc), va_P D classes ((wsO ca ad xv h).set (x - 1).toNat (ad x, .inr ((kd x).1, ((List.range (kd x).2.toNat).map (fun k : Nat => cvv ad xv (tyg (CY (kd x).1 k), h.2 x k))).set kn (cvv ad xv (tyg (CY (kd x).1 kn), y))))) H1 → va_D A ((wsO ca ad xv h).set (x - 1).toNat (ad x, .inr ((kd x).1, ((List.range (kd x).2.toNat).map (fun k : Nat => cvv ad xv (tyg (CY (kd x).1 k), h.2 x k))).set kn (cvv ad xv (tyg (CY (kd x).1 kn), y))))) → va_S A s.heap H1 locs1 → W p l e R s m args below meth c H1 locs1 cells slots Q (F0 m (pc + 3) lsR (r.map (cvv ad xv))) :=
    fun H1 locs1 hP hD hS => K H1 locs1 o1.tail.tail (w.set hx0 hlt (fun q => by omega) (ent_put h20 (by omega)) hf hP hD hS)
  by_cases hfl : (T kn).2.2.2 = false
  · exact va_put (Ts := gtf) (ty := CY (kd x).1 kn) B.1 B.2.1 B.2.2.2.2.2.2.1 hin (CY (kd x).1) hty hnm B.own B.kn w.1 w.2.1 w.2.2.1 (x - 1).toNat he hc kn hk (B.wd hw rfl) (fun _ h9 => h9) hfl (hty kn hk) f1 f2 (by simp; omega) hd fin
  · have hfl2 : (T kn).2.2.2 = true := by cases hb : (T kn).2.2.2 with
      | true => rfl
      | false => exact absurd hb hfl
    obtain ⟨i1, i2⟩ := hfin.resolve_left hfl
    exact va_putF (Ts := gtf) (ty := CY (kd x).1 kn) B.1 B.2.1 B.2.2.2.2.2.2.1 hin (CY (kd x).1) hty hnm B.own B.kn w.1 w.2.1 w.2.2.1 (x - 1).toNat he hc kn hk (B.wd hw rfl) (fun _ h9 => h9) hfl2 (B.2.2.2.2.2.2.2.2.2.2.2 i1) i2 (hty kn hk) f1 f2 (by simp; omega) hd fin
end SIMW
