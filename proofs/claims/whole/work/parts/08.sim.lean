/-! THE SIMULATION: what the pure machine says, the machine does -/
theorem ofInt_w32 (x : Int) : Int32.ofInt (w32 x) = Int32.ofInt x := by
  apply Int32.toInt_inj.mp
  rw [Int32.toInt_ofInt, Int32.toInt_ofInt]
  show Int.bmod _ 4294967296 = Int.bmod _ 4294967296
  unfold w32 Int.bmod
  dsimp only
  split <;> split <;> omega
theorem ofInt_w64 (x : Int) : Int64.ofInt (w64 x) = Int64.ofInt x := by
  apply Int64.toInt_inj.mp
  rw [Int64.toInt_ofInt, Int64.toInt_ofInt]
  show Int.bmod _ 18446744073709551616 = Int.bmod _ 18446744073709551616
  unfold w64 Int.bmod
  dsimp only
  split <;> split <;> omega
theorem w32_rng (x : Int) : -2147483648 ≤ w32 x ∧ w32 x < 2147483648 := by unfold w32; omega
theorem w64_rng (x : Int) : -9223372036854775808 ≤ w64 x ∧ w64 x < 9223372036854775808 := by unfold w64; omega
theorem rd32 {x : Int} (h : -2147483648 ≤ x ∧ x < 2147483648) : (Int32.ofInt x).toInt = x := Int32.toInt_ofInt_of_le (by omega) (by omega)
theorem rd64 {x : Int} (h : -9223372036854775808 ≤ x ∧ x < 9223372036854775808) : (Int64.ofInt x).toInt = x := Int64.toInt_ofInt_of_le (by omega) (by omega)
theorem i32r (z : Int32) : -2147483648 ≤ z.toInt ∧ z.toInt < 2147483648 := ⟨by have := z.le_toInt; omega, by have := z.toInt_lt; omega⟩
theorem i64r (z : Int64) : -9223372036854775808 ≤ z.toInt ∧ z.toInt < 9223372036854775808 := ⟨by have := z.le_toInt; omega, by have := z.toInt_lt; omega⟩
theorem w32_id {x : Int} (h : -2147483648 ≤ x ∧ x < 2147483648) : w32 x = x := by unfold w32; omega
theorem w64_id {x : Int} (h : -9223372036854775808 ≤ x ∧ x < 9223372036854775808) : w64 x = x := by unfold w64; omega
theorem i32_eq {x y : Int} (hx : -2147483648 ≤ x ∧ x < 2147483648) (hy : -2147483648 ≤ y ∧ y < 2147483648) : Int32.ofInt x = Int32.ofInt y ↔ x = y := by
  rw [← Int32.toInt_inj, rd32 hx, rd32 hy]
theorem i32_lt {x y : Int} (hx : -2147483648 ≤ x ∧ x < 2147483648) (hy : -2147483648 ≤ y ∧ y < 2147483648) : Int32.ofInt x < Int32.ofInt y ↔ x < y := by
  rw [Int32.lt_iff_toInt_lt, rd32 hx, rd32 hy]
theorem i32_le {x y : Int} (hx : -2147483648 ≤ x ∧ x < 2147483648) (hy : -2147483648 ≤ y ∧ y < 2147483648) : Int32.ofInt x ≤ Int32.ofInt y ↔ x ≤ y := by
  rw [Int32.le_iff_toInt_le, rd32 hx, rd32 hy]
theorem i64_eq {x y : Int} (hx : -9223372036854775808 ≤ x ∧ x < 9223372036854775808) (hy : -9223372036854775808 ≤ y ∧ y < 9223372036854775808) : Int64.ofInt x = Int64.ofInt y ↔ x = y := by
  rw [← Int64.toInt_inj, rd64 hx, rd64 hy]
theorem i64_lt {x y : Int} (hx : -9223372036854775808 ≤ x ∧ x < 9223372036854775808) (hy : -9223372036854775808 ≤ y ∧ y < 9223372036854775808) : Int64.ofInt x < Int64.ofInt y ↔ x < y := by
  rw [Int64.lt_iff_toInt_lt, rd64 hx, rd64 hy]
/-- an index of an array, as the machine counts it -/
theorem ix32 {x : Int} {n : Int} (h0 : 0 ≤ x) (h1 : x < n) (hn : n < 2147483648) : (Int32.ofInt x).toNatClampNeg = x.toNat ∧ vp_in (Int32.ofInt x) n.toNat := by
  have e := rd32 (x := x) ⟨by omega, by omega⟩
  have e2 : (Int32.ofInt x).toNatClampNeg = x.toNat := by
    show (Int32.ofInt x).toInt.toNat = x.toNat
    rw [e]
  refine ⟨e2, ?_⟩
  unfold vp_in
  rw [e2]
  rintro (h | h)
  · rw [Int32.lt_iff_toInt_lt, e, Int32.toInt_zero] at h
    omega
  · omega
def okv (n : Int) (t : Nat) (x : Int) : Prop := (t = 0 → -2147483648 ≤ x ∧ x < 2147483648) ∧ (t = 1 → -9223372036854775808 ≤ x ∧ x < 9223372036854775808) ∧ (t ≠ 0 → t ≠ 1 → -10 < x ∧ x < n)
theorem okv0 {n x : Int} (h : -2147483648 ≤ x ∧ x < 2147483648) : okv n 0 x := ⟨fun _ => h, fun h => (by cases h), fun h => absurd rfl h⟩
theorem okv1 {n x : Int} (h : -9223372036854775808 ≤ x ∧ x < 9223372036854775808) : okv n 1 x := ⟨fun h => (by cases h), fun _ => h, fun _ h => absurd rfl h⟩
theorem okv2 {n x : Int} (h : -10 < x ∧ x < n) : okv n 2 x := ⟨fun h => (by cases h), fun h => (by cases h), fun _ _ => h⟩
theorem okv.i {n x : Int} (h : okv n 0 x) : -2147483648 ≤ x ∧ x < 2147483648 := h.1 rfl
theorem okv.l {n x : Int} (h : okv n 1 x) : -9223372036854775808 ≤ x ∧ x < 9223372036854775808 := h.2.1 rfl
theorem okv.q {n x : Int} (h : okv n 2 x) : -10 < x ∧ x < n := h.2.2 (by decide) (by decide)
theorem okv.mono {n n' x : Int} {t : Nat} (hn : n ≤ n') (h : okv n t x) : okv n' t x := ⟨h.1, h.2.1, fun a b => ⟨(h.2.2 a b).1, Int.lt_of_lt_of_le (h.2.2 a b).2 hn⟩⟩
def cvv (ad : Int → Nat) (xv : Int → Value) (v : Vl) : Value := if v.1 = 0 then .int (Int32.ofInt v.2) else if v.1 = 1 then .long (Int64.ofInt v.2) else if 0 < v.2 then .ref (ad v.2) else if v.2 = 0 then .null else xv v.2
def tyg : FieldType → Nat
  | .long => 1
  | .object _ => 2
  | .array _ => 2
  | _ => 0
noncomputable def ktg (o : Int) (k : Nat) : Nat := if (kd o).1 < 20 then tyg (CY (kd o).1 k) else if (kd o).1 < 23 then 0 else if (kd o).1 = 23 then 1 else 2
noncomputable def ent (ca : Nat → ClassId) (ad : Int → Nat) (xv : Int → Value) (m : Mm) (o : Int) : va_E :=
  if (kd o).1 < 20 then .inr ((kd o).1, (List.range (kd o).2.toNat).map (fun k => cvv ad xv (tyg (CY (kd o).1 k), m o k)))
  else if (kd o).1 < 23 then .inl (ca (kd o).1, (kd o).2.toNat, .inl (fun j => Int32.ofInt (m o j)))
  else if (kd o).1 = 23 then .inl (ca 23, (kd o).2.toNat, .inr (.inl (fun j => Int64.ofInt (m o j))))
  else .inl (ca (kd o).1, (kd o).2.toNat, .inr (.inr (.inr (.inr (fun j => if 0 < m o j then some (ad (m o j)) else none)))))
noncomputable def wsO (ca : Nat → ClassId) (ad : Int → Nat) (xv : Int → Value) (h : Hq) : va_W := (List.range (h.1.toNat - 1)).map (fun i : Nat => (ad ((i : Int) + 1), ent ca ad xv h.2 ((i : Int) + 1)))
def tysL (ca : Nat → ClassId) : List (ClassId × FieldType) := [(ca 20, .int), (ca 21, .byte), (ca 22, .boolean), (ca 23, .long), (ca 24, .array .int), (ca 25, .object "TexelBank$Texture")]
def WF (h : Hq) : Prop := 1 ≤ h.1 ∧ (∀ o k, h.1 ≤ o → h.2 o k = 0) ∧ ∀ o, 0 < o → o < h.1 → ∀ k : Nat, (k : Int) < (kd o).2 → okv h.1 (ktg o k) (h.2 o k) ∧ (24 ≤ (kd o).1 → 0 ≤ h.2 o k)
def us (n : Nat) : Nat := ((List.range n).map (fun i : Nat => (kd (i : Int)).2.toNat)).sum
theorem us_succ (n : Nat) : us (n + 1) = us n + (kd (n : Int)).2.toNat := by
  unfold us
  rw [List.range_succ, List.map_append, List.sum_append]
  simp
theorem us_mono {a b : Nat} (h : a ≤ b) : us a ≤ us b := by
  induction h with
  | refl => exact Nat.le_refl _
  | step _ ih => rw [us_succ]; omega
/-- every cell's kind is one of the table's, its length small -/
theorem kd_all (P : Nat × Int → Bool) (h1 : kdl.all P = true) (h2 : P (20, 400) = true) (h3 : P (99, 0) = true) (h4 : (List.range 9).all (fun n => P (kdx n)) = true) (o : Int) : P (kd o) = true := by
  cases o with
  | ofNat n =>
    cases n with
    | zero => exact h3
    | succ n =>
      show P (kdl.getD n (20, 400)) = true
      rw [List.getD_eq_getElem?_getD]
      cases h : kdl[n]? with
      | none => exact h2
      | some q => exact List.all_eq_true.mp h1 q (List.mem_of_getElem? h)
  | negSucc n =>
    show P (kdx n) = true
    by_cases hn : n < 9
    · exact List.all_eq_true.mp h4 n (List.mem_range.mpr hn)
    · have e : kdx n = (99, 0) := by
        have f : ∀ k, k < 9 → Nat.beq n k = false := fun k hk => by
          cases hb : Nat.beq n k with
          | false => rfl
          | true => exact absurd (Nat.eq_of_beq_eq_true hb) (by omega)
        have g : Nat.ble n 4 = false := by
          cases hb : Nat.ble n 4 with
          | false => rfl
          | true => exact absurd (Nat.le_of_ble_eq_true hb) (by omega)
        unfold kdx
        rw [f 0 (by omega), f 1 (by omega), g, f 5 (by omega), f 6 (by omega), f 7 (by omega)]
        rfl
      rw [e]
      exact h3
theorem kd_len (o : Int) : 0 ≤ (kd o).2 ∧ (kd o).2 ≤ 48000 := by
  have h := kd_all (fun q => decide (0 ≤ q.2) && decide (q.2 ≤ 48000)) (by decide +kernel) (by decide) (by decide) (by decide +kernel) o
  simpa using h
theorem kd_cls {o : Int} (h : (kd o).1 < 20) : ∃ r : vw_C, classes[(kd o).1]? = some r ∧ r.2.2 = (kd o).2.toNat := by
  have h2 := kd_all (fun q => !decide (q.1 < 20) || ((classes[q.1]?).map (fun r => decide (r.2.2 = q.2.toNat))).getD false) (by decide +kernel) (by decide +kernel) (by decide +kernel) (by decide +kernel) o
  simp only [h, decide_true, Bool.not_true, Bool.false_or] at h2
  cases hc : classes[(kd o).1]? with
  | none => rw [hc] at h2; cases h2
  | some r =>
    rw [hc] at h2
    exact ⟨r, rfl, by simpa using h2⟩
theorem wsO_get {ca : Nat → ClassId} {ad : Int → Nat} {xv : Int → Value} {h : Hq} {o : Int} (h0 : 0 < o) (h1 : o < h.1) : (wsO ca ad xv h)[(o - 1).toNat]? = some (ad o, ent ca ad xv h.2 o) := by
  unfold wsO
  rw [List.getElem?_map, List.getElem?_range (by omega)]
  show some (ad (((o - 1).toNat : Int) + 1), _) = _
  rw [show (((o - 1).toNat : Nat) : Int) + 1 = o by omega]
theorem wsO_len {ca : Nat → ClassId} {ad : Int → Nat} {xv : Int → Value} {h : Hq} : (wsO ca ad xv h).length = h.1.toNat - 1 := by simp [wsO]
/-- a world with one cell's contents changed -/
theorem wsO_set {ca : Nat → ClassId} {ad : Int → Nat} {xv : Int → Value} {n : Int} {m m' : Mm} {o : Int} (h0 : 0 < o) (h1 : o < n) (hm : ∀ a, a ≠ o → ∀ k, m' a k = m a k) : wsO ca ad xv (n, m') = (wsO ca ad xv (n, m)).set (o - 1).toNat (ad o, ent ca ad xv m' o) := by
  apply List.ext_getElem?
  intro i
  have hl : ∀ m : Mm, (wsO ca ad xv (n, m)).length = n.toNat - 1 := fun m => wsO_len
  by_cases hi : i < n.toNat - 1
  · have g : ∀ m : Mm, (wsO ca ad xv (n, m))[i]? = some (ad ((i : Int) + 1), ent ca ad xv m ((i : Int) + 1)) := fun m => by
      unfold wsO
      rw [List.getElem?_map, List.getElem?_range hi]
      rfl
    rw [g m']
    by_cases e : i = (o - 1).toNat
    · subst e
      rw [List.getElem?_set_self (by rw [hl]; exact hi), show (((o - 1).toNat : Nat) : Int) + 1 = o by omega]
    · rw [List.getElem?_set_ne (fun q => e q.symm), g m]
      have hne : (i : Int) + 1 ≠ o := by omega
      have : ent ca ad xv m' ((i : Int) + 1) = ent ca ad xv m ((i : Int) + 1) := by
        unfold ent
        simp only [hm _ hne]
      rw [this]
  · rw [List.getElem?_eq_none (by rw [hl]; omega), List.getElem?_eq_none (by rw [List.length_set, hl]; omega)]
section SIMX
variable (xv : Int → Value) (mE : Mm)
def EA (o : Int) (ty : FieldType) (N : Nat) (A : Nat → Prop) (U : State) (H : Heap) : Prop := ∃ t : Nat, xv o = .ref t ∧ va_T ty t N (fun j => .int (Int32.ofInt (mE o j))) A U H ∧ ∀ j : Nat, j < N → -2147483648 ≤ mE o j ∧ mE o j < 2147483648
def ES (i : Nat) (A : Nat → Prop) (U : State) (H : Heap) : Prop := ∃ q t : Nat, xv (-3 - i) = .ref q ∧ xv (-6 - i) = .ref t ∧ va_O "java/lang/String" q A U H ∧ va_OF "java/lang/String" "coder" "B" (.int 0) q A U H ∧ va_OF "java/lang/String" "value" "[B" (.ref t) q A U H ∧ ∃ r, strL[i]? = some r ∧ vk_R r.1 r.2.1 r.2.2 q U
/-- what is not the class's own: the script, the table of what widens, three texts, three static fields, links among nest mates -/
def EX (A : Nat → Prop) (U : State) (H : Heap) : Prop :=
  (0 ≤ mE (-1) (-1) ∧ mE (-1) (-1) ≤ 4096) ∧ EA xv mE (-1) .int (mE (-1) (-1)).toNat A U H ∧ EA xv mE (-2) .int 8 A U H ∧ (∀ i : Nat, i < 3 → EA xv mE (-6 - i) .byte (kd (-6 - i)).2.toNat A U H ∧ ES xv i A U H) ∧
  va_Z "java/lang/String" "COMPACT_STRINGS" "Z" (.int 1) A U H ∧ va_Z "TexelBank$Stores" "WIDER" "[I" (xv (-2)) A U H ∧ va_Z "jdk/internal/util/Preconditions" "SIOOBE_FORMATTER" "Ljava/util/function/BiFunction;" (xv (-9)) A U H ∧
  (∀ q ∈ nstL, va_Nw (.methodLinkNest q.1 q.2.1 q.2.2.1 q.2.2.2) U) ∧ (va_AO "TexelBank$Texture" U ∧ va_AOA .int U) ∧ ∀ x, xv x = .null ∨ ∃ t, xv x = .ref t
end SIMX
theorem va_AOA.moved {ty : FieldType} {u U : State} (hvm : u.vm.Alike U.vm) (h : va_AOA ty u) : va_AOA ty U := by
  have h2 := (Cond.arrayOver_setVmC (args := #[]) hvm (.array ty)).trans h
  unfold va_AOA
  simp only [Cond.before, Cond.holds, Cond.value, State.vm_setVm] at h2 ⊢
  exact h2
theorem EX.warm {xv : Int → Value} {mE : Mm} {A : Nat → Prop} {s U : State} {H : Heap} (hW : s.WarmedH U.vm) (h : EX xv mE A s H) : EX xv mE A U H := by
  obtain ⟨h0, ⟨t1, a1, a2, a3⟩, ⟨t2, b1, b2, b3⟩, h3, h4, h5, h6, h7, h8, h9⟩ := h
  refine ⟨h0, ⟨t1, a1, va_T.moved hW.alike a2, a3⟩, ⟨t2, b1, va_T.moved hW.alike b2, b3⟩, fun i hi => ?_, va_Z.moved hW.alike h4, va_Z.moved hW.alike h5, va_Z.moved hW.alike h6, fun q hq => va_Nw.warmM hW (h7 q hq), ⟨va_AO.moved hW.alike h8.1, va_AOA.moved hW.alike h8.2⟩, h9⟩
  obtain ⟨⟨t, c1, c2, c3⟩, q, t', d1, d2, d3, d4, d5, r, d6, d7⟩ := h3 i hi
  exact ⟨⟨t, c1, va_T.moved hW.alike c2, c3⟩, q, t', d1, d2, va_O.moved hW.alike d3, va_OF.moved hW.alike d4, va_OF.moved hW.alike d5, r, d6, vk_R.warm hW d7⟩
theorem EX.kept {xv : Int → Value} {mE : Mm} {A : Nat → Prop} {U : State} {H H1 : Heap} (h : EX xv mE A U H) (hq : ∀ a : Nat, a < H.size → ¬ A a → H1[a]? = H[a]?) : EX xv mE A U H1 := by
  obtain ⟨h0, ⟨t1, a1, a2, a3⟩, ⟨t2, b1, b2, b3⟩, h3, h4, h5, h6, h7, h8, h9⟩ := h
  refine ⟨h0, ⟨t1, a1, a2.kept hq, a3⟩, ⟨t2, b1, b2.kept hq, b3⟩, fun i hi => ?_, h4.kept hq, h5.kept hq, h6.kept hq, h7, h8, h9⟩
  obtain ⟨⟨t, c1, c2, c3⟩, q, t', d1, d2, d3, d4, d5, d6⟩ := h3 i hi
  exact ⟨⟨t, c1, c2.kept hq, c3⟩, q, t', d1, d2, d3.kept hq, d4.kept hq, d5.kept hq, d6⟩
theorem EX.narrow {xv : Int → Value} {mE : Mm} {A B : Nat → Prop} {U : State} {H : Heap} (h : EX xv mE A U H) (hAB : ∀ q, B q → A q) : EX xv mE B U H := by
  obtain ⟨h0, ⟨t1, a1, a2, a3⟩, ⟨t2, b1, b2, b3⟩, h3, h4, h5, h6, h7, h8, h9⟩ := h
  refine ⟨h0, ⟨t1, a1, a2.narrow hAB, a3⟩, ⟨t2, b1, b2.narrow hAB, b3⟩, fun i hi => ?_, h4.narrow hAB, h5.narrow hAB, h6.narrow hAB, h7, h8, h9⟩
  obtain ⟨⟨t, c1, c2, c3⟩, q, t', d1, d2, d3, d4, d5, d6⟩ := h3 i hi
  exact ⟨⟨t, c1, c2.narrow hAB, c3⟩, q, t', d1, d2, d3.narrow hAB, d4.narrow hAB, d5.narrow hAB, d6⟩
section SIMD
variable (xv : Int → Value) (mE : Mm) (D : va_G) (ca : Nat → ClassId)
/-- a body's own ground: the machine, the method, its words -/
def BC (M : Nat) (p : Program) (R : Room) (s : State) (m : MethodId) (args : Array Value) (meth : Method) (c : Code) (A : Nat → Prop) : Prop :=
  p.tables.exec = Jvm.exec ∧ c.code = Bt M ∧ c.maxLocals = ML M ∧ s.vm.findClass (CL M) = some m.cls ∧ meth.sig.returnType = Rt M ∧ meth.locks = false ∧ (∀ w ∈ gtf, w.before args s = true) ∧ (∀ q : Nat, s.heap.size ≤ q → A q) ∧ EX xv mE A s s.heap ∧ va_K D classes (tysL ca) s ∧ (FR M ≤ R.frames ∧ LO M ≤ R.locals) ∧ (isI M = true → meth.name = "<init>")
/-- a world: the pure memory stands in the heap -/
def WD (A : Nat → Prop) (s : State) (n0 : Int) (ad0 : Int → Nat) (h : Hq) (ad : Int → Nat) (H : Heap) (locs : List Loc) : Prop :=
  va_P D classes (wsO ca ad xv h) H ∧ va_D A (wsO ca ad xv h) ∧ va_S A s.heap H locs ∧ WF h ∧ (∀ o k, o < 0 → h.2 o k = mE o k) ∧ n0 ≤ h.1 ∧ (∀ o, o < n0 → ad o = ad0 o) ∧ ∀ o k, 0 < o → 24 ≤ (kd o).1 → h.2 o k < h.1
def OKs (n : Int) (st : List Vl) : Prop := ∀ v ∈ st, okv n v.1 v.2
def OKl (n : Int) (ls : List Vl) : Prop := ∀ v ∈ ls, v.1 < 9 → okv n v.1 v.2
def LV (lsR : Array Slot) (nL : Nat) (ad : Int → Nat) (ls : List Vl) : Prop := lsR.size = nL ∧ ls.length = nL ∧ lv_wf lsR ∧ ∀ (i : Nat) (v : Vl), ls[i]? = some v → v.1 < 9 → lsR[i]? = some (.val (cvv ad xv v))
/-- which instruction gives the answer back -/
def RD (M pc : Nat) (v : Option Vl) : Prop := match v with
  | none => decode (Bt M) pc = .ok (.return_, 1) ∧ Rt M = none
  | some x => if x.1 = 0 then decode (Bt M) pc = .ok (.ireturn, 1) ∧ ∃ ty, Rt M = some ty ∧ narrow ty (.int (Int32.ofInt x.2)) = .int (Int32.ofInt x.2)
    else if x.1 = 1 then decode (Bt M) pc = .ok (.lreturn, 1) ∧ Rt M = some .long
    else decode (Bt M) pc = .ok (.areturn, 1) ∧ (∃ ty, Rt M = some (.array ty)) ∧ 0 < x.2
def HR (M : Nat) (p : Program) (l : Launch) (e : Env) (R : Room) (s : State) (m : MethodId) (args : Array Value) (below : List Frame) (meth : Method) (c : Code) (A : Nat → Prop) (Q : State → Prop) (n0 : Int) (ad0 : Int → Nat) (cb sb : Nat) (v : Option Vl) (h' : Hq) : Prop :=
  ∀ (ad : Int → Nat) (H : Heap) (locs : List Loc) (lsR : Array Slot) (pc cells slots : Nat), WD xv mE D ca A s n0 ad0 h' ad H locs → RD M pc v → (∀ x, v = some x → okv h'.1 x.1 x.2) → cells + cb = h'.1.toNat → slots + sb = us h'.1.toNat →
    W p l e R s m args below meth c H locs cells slots Q (F0 m pc lsR (v.toList.map (cvv ad xv)))
/-- the machine does from here what the pure machine says: it answers v, the memory is h' -/
def SM (M pc : Nat) (ls st : List Vl) (h : Hq) (v : Option Vl) (h' : Hq) : Prop :=
  h.1 ≤ h'.1 ∧ ∀ (p : Program) (l : Launch) (e : Env) (R : Room) (s : State) (m : MethodId) (args : Array Value) (below : List Frame) (meth : Method) (c : Code) (A : Nat → Prop) (Q : State → Prop) (n0 : Int) (ad0 : Int → Nat) (cb sb : Nat),
    BC xv mE D ca M p R s m args meth c A → h'.1.toNat ≤ cb + R.cells → us h'.1.toNat ≤ sb + R.slots → HR xv mE D ca M p l e R s m args below meth c A Q n0 ad0 cb sb v h' →
    ∀ (ad : Int → Nat) (H : Heap) (locs : List Loc) (lsR : Array Slot) (cells slots : Nat), WD xv mE D ca A s n0 ad0 h ad H locs → OKs h.1 st → OKl h.1 ls → LV xv lsR (ML M) ad ls → cells + cb = h.1.toNat → slots + sb = us h.1.toNat →
      W p l e R s m args below meth c H locs cells slots Q (F0 m pc lsR (st.map (cvv ad xv)))
end SIMD
section SIML
variable {xv : Int → Value} {mE : Mm} {D : va_G} {ca : Nat → ClassId}
/-- a step that touches the locals and the stack alone -/
theorem SM.pure {M pc pc1 : Nat} {ls ls1 st st1 : List Vl} {h : Hq} {v : Option Vl} {h' : Hq} (k : SM xv mE D ca M pc1 ls1 st1 h v h')
    (f : ∀ (p : Program) (l : Launch) (e : Env) (R : Room) (s : State) (m : MethodId) (args : Array Value) (below : List Frame) (meth : Method) (c : Code) (A : Nat → Prop) (Q : State → Prop) (ad : Int → Nat) (H : Heap) (locs : List Loc) (lsR : Array Slot) (cells slots : Nat),
      BC xv mE D ca M p R s m args meth c A → OKs h.1 st → OKl h.1 ls → LV xv lsR (ML M) ad ls →
      (∀ lsR1 : Array Slot, OKs h.1 st1 → OKl h.1 ls1 → LV xv lsR1 (ML M) ad ls1 → W p l e R s m args below meth c H locs cells slots Q (F0 m pc1 lsR1 (st1.map (cvv ad xv)))) →
      W p l e R s m args below meth c H locs cells slots Q (F0 m pc lsR (st.map (cvv ad xv)))) : SM xv mE D ca M pc ls st h v h' :=
  ⟨k.1, fun p l e R s m args below meth c A Q n0 ad0 cb sb B r1 r2 hR ad H locs lsR cells slots w o1 o2 lv e1 e2 =>
    f p l e R s m args below meth c A Q ad H locs lsR cells slots B o1 o2 lv (fun lsR1 o1' o2' lv' => k.2 p l e R s m args below meth c A Q n0 ad0 cb sb B r1 r2 hR ad H locs lsR1 cells slots w o1' o2' lv' e1 e2)⟩
theorem OKs.tail {n : Int} {v : Vl} {st : List Vl} (h : OKs n (v :: st)) : OKs n st := fun x hx => h x (List.mem_cons_of_mem _ hx)
theorem OKs.head {n : Int} {v : Vl} {st : List Vl} (h : OKs n (v :: st)) : okv n v.1 v.2 := h v List.mem_cons_self
theorem OKs.cons {n : Int} {v : Vl} {st : List Vl} (h : OKs n st) (hv : okv n v.1 v.2) : OKs n (v :: st) := fun x hx => (List.mem_cons.mp hx).elim (fun e => e ▸ hv) (h x)
theorem cvv_q {xv : Int → Value} (hx : ∀ x, xv x = .null ∨ ∃ t, xv x = .ref t) (ad : Int → Nat) (x : Int) : cvv ad xv (2, x) = .null ∨ ∃ t, cvv ad xv (2, x) = .ref t := by
  show (if 0 < x then Value.ref (ad x) else if x = 0 then .null else xv x) = .null ∨ ∃ t, (if 0 < x then Value.ref (ad x) else if x = 0 then .null else xv x) = .ref t
  by_cases h : 0 < x
  · exact Or.inr ⟨ad x, by rw [if_pos h]⟩
  · rw [if_neg h]
    by_cases h2 : x = 0
    · exact Or.inl (by rw [if_pos h2])
    · rw [if_neg h2]; exact hx x
theorem LV.ld {lsR : Array Slot} {nL : Nat} {ad : Int → Nat} {ls : List Vl} {k t : Nat} {x : Int} (h : LV xv lsR nL ad ls) (hv : ls[k]? = some (t, x)) (ht : t < 9) : lsR[k]? = some (.val (cvv ad xv (t, x))) := h.2.2.2 k (t, x) hv ht
theorem OKl.ld {n : Int} {ls : List Vl} {k t : Nat} {x : Int} (h : OKl n ls) (hv : ls[k]? = some (t, x)) (ht : t < 9) : okv n t x := h (t, x) (List.mem_of_getElem? hv) ht
theorem OKl.set {n : Int} {ls : List Vl} {k : Nat} {v : Vl} (h : OKl n ls) (hv : v.1 < 9 → okv n v.1 v.2) : OKl n (ls.set k v) := by
  intro x hx hx9
  rcases List.mem_or_eq_of_mem_set hx with h1 | h1
  · exact h x h1 hx9
  · subst h1; exact hv hx9
theorem OKl.kill {n : Int} {ls : List Vl} {k : Nat} (h : OKl n ls) : OKl n (kill1 ls k) := by
  unfold kill1
  split
  · exact h
  · split
    · cases Nat.beq _ 1 with
      | true => exact h.set (fun q => absurd q (by decide))
      | false => exact h
    · exact h
theorem OKl_set1 {n : Int} {ls : List Vl} {k : Nat} {v : Vl} (h : OKl n ls) (hv : okv n v.1 v.2) : OKl n (set1 ls k v) := h.kill.set (fun _ => hv)
theorem OKl_set2 {n : Int} {ls : List Vl} {k : Nat} {v : Vl} (h : OKl n ls) (hv : okv n v.1 v.2) : OKl n (set2 ls k v) := (h.kill.set (fun q => absurd q (by decide))).set (fun _ => hv)
/-- the locals as the kit's rows list them -/
noncomputable def lvl (ad : Int → Nat) (xv : Int → Value) (ls : List Vl) : List (Nat × Value) := (List.range ls.length).filterMap (fun i => match ls[i]? with
  | some v => if v.1 < 9 then some (i, cvv ad xv v) else none
  | none => none)
theorem lvl_mem {ad : Int → Nat} {xv : Int → Value} {ls : List Vl} {i : Nat} {w : Value} : (i, w) ∈ lvl ad xv ls ↔ ∃ v : Vl, ls[i]? = some v ∧ v.1 < 9 ∧ w = cvv ad xv v := by
  unfold lvl
  rw [List.mem_filterMap]
  constructor
  · rintro ⟨j, hj, h⟩
    cases hl : ls[j]? with
    | none => rw [hl] at h; cases h
    | some v =>
      rw [hl] at h
      dsimp only at h
      by_cases h9 : v.1 < 9
      · rw [if_pos h9] at h
        cases h
        exact ⟨v, hl, h9, rfl⟩
      · rw [if_neg h9] at h; cases h
  · rintro ⟨v, hl, h9, rfl⟩
    refine ⟨i, List.mem_range.mpr (List.getElem?_eq_some_iff.mp hl).1, ?_⟩
    rw [hl]
    exact if_pos h9
theorem LV.has {lsR : Array Slot} {nL : Nat} {ad : Int → Nat} {ls : List Vl} (h : LV xv lsR nL ad ls) : lv_has lsR nL (lvl ad xv ls) := by
  refine ⟨h.1, h.2.2.1, fun q hq => ?_⟩
  obtain ⟨i, w⟩ := q
  obtain ⟨v, h1, h2, rfl⟩ := lvl_mem.mp hq
  exact h.2.2.2 i v h1 h2
theorem cvv_cat {ad : Int → Nat} {xv : Int → Value} {v : Vl} (hx : ∀ x, xv x = .null ∨ ∃ t, xv x = .ref t) : ((cvv ad xv v).category == 2) = Nat.beq v.1 1 := by
  unfold cvv
  by_cases h0 : v.1 = 0
  · rw [if_pos h0, h0]; rfl
  · rw [if_neg h0]
    by_cases h1 : v.1 = 1
    · rw [if_pos h1, h1]; rfl
    · rw [if_neg h1]
      have hb : Nat.beq v.1 1 = false := by
        cases hb : Nat.beq v.1 1 with
        | false => rfl
        | true => exact absurd (Nat.eq_of_beq_eq_true hb) h1
      rw [hb]
      by_cases h2 : 0 < v.2
      · rw [if_pos h2]; rfl
      · rw [if_neg h2]
        by_cases h3 : v.2 = 0
        · rw [if_pos h3]; rfl
        · rw [if_neg h3]
          rcases hx v.2 with e | ⟨t, e⟩ <;> rw [e] <;> rfl
theorem kill1_len (ls : List Vl) (k : Nat) : (kill1 ls k).length = ls.length := by
  unfold kill1
  split
  · rfl
  · split
    · cases Nat.beq _ 1 <;> simp
    · rfl
/-- what stands in the locals behind 'kill1' was there, and is no long just ahead of k -/
theorem kill1_at {ls : List Vl} {k i : Nat} {v : Vl} (h : (kill1 ls k)[i]? = some v) (h9 : v.1 < 9) : ls[i]? = some v ∧ ¬ (i + 1 = k ∧ v.1 = 1) := by
  unfold kill1 at h
  split at h
  · exact ⟨h, by omega⟩
  · rename_i j
    split at h
    · rename_i w hw
      cases hb : Nat.beq w.1 1 with
      | true =>
        rw [hb] at h
        by_cases e : j = i
        · subst e
          have hl := (List.getElem?_eq_some_iff.mp hw).1
          rw [cond_true, List.getElem?_set_self hl] at h
          cases h
          exact absurd h9 (by decide)
        · rw [cond_true, List.getElem?_set_ne e] at h
          exact ⟨h, by omega⟩
      | false =>
        rw [hb, cond_false] at h
        refine ⟨h, ?_⟩
        rintro ⟨e, e2⟩
        have : j = i := by omega
        subst this
        rw [hw] at h
        cases h
        rw [e2] at hb
        cases hb
    · rename_i hn
      refine ⟨h, ?_⟩
      rintro ⟨e, -⟩
      have : j = i := by omega
      subst this
      rw [hn] at h
      cases h
theorem LV_st1 {lsR ls' : Array Slot} {nL k : Nat} {ad : Int → Nat} {ls : List Vl} {v : Vl} (hx : ∀ x, xv x = .null ∨ ∃ t, xv x = .ref t) (h : LV xv lsR nL ad ls)
    (h2 : lv_has ls' nL ((k, cvv ad xv v) :: (lvl ad xv ls).filter (fun q => !(q.1 == k) && !(q.1 + 1 == k && q.2.category == 2)))) : LV xv ls' nL ad (set1 ls k v) := by
  refine ⟨h2.1, by unfold set1; rw [List.length_set, kill1_len]; exact h.2.1, h2.2.1, fun i w hw h9 => ?_⟩
  unfold set1 at hw
  by_cases e : k = i
  · subst e
    have hl : k < (kill1 ls k).length := by have := (List.getElem?_eq_some_iff.mp hw).1; rw [List.length_set] at this; exact this
    rw [List.getElem?_set_self hl] at hw
    cases hw
    exact h2.2.2 _ List.mem_cons_self
  · rw [List.getElem?_set_ne e] at hw
    obtain ⟨a, b⟩ := kill1_at hw h9
    refine h2.2.2 (i, cvv ad xv w) (List.mem_cons_of_mem _ (List.mem_filter.mpr ⟨lvl_mem.mpr ⟨w, a, h9, rfl⟩, ?_⟩))
    dsimp only
    rw [cvv_cat hx]
    have e1 : (i == k) = false := by simpa using fun q : i = k => e q.symm
    rw [e1]
    cases hb : Nat.beq w.1 1 with
    | false => simp
    | true =>
      have : ¬ i + 1 = k := fun q => b ⟨q, Nat.eq_of_beq_eq_true hb⟩
      simp [this]
theorem LV_st2 {lsR ls' : Array Slot} {nL k : Nat} {ad : Int → Nat} {ls : List Vl} {v : Vl} (hx : ∀ x, xv x = .null ∨ ∃ t, xv x = .ref t) (h : LV xv lsR nL ad ls)
    (h2 : lv_has ls' nL ((k, cvv ad xv v) :: (lvl ad xv ls).filter (fun q => !(q.1 == k) && (!(q.1 == k + 1) && !(q.1 + 1 == k && q.2.category == 2))))) : LV xv ls' nL ad (set2 ls k v) := by
  refine ⟨h2.1, by unfold set2; rw [List.length_set, List.length_set, kill1_len]; exact h.2.1, h2.2.1, fun i w hw h9 => ?_⟩
  unfold set2 at hw
  by_cases e : k = i
  · subst e
    have hl : k < ((kill1 ls k).set (k + 1) (9, 0)).length := by have := (List.getElem?_eq_some_iff.mp hw).1; rw [List.length_set] at this; exact this
    rw [List.getElem?_set_self hl] at hw
    cases hw
    exact h2.2.2 _ List.mem_cons_self
  · rw [List.getElem?_set_ne e] at hw
    by_cases e' : k + 1 = i
    · subst e'
      have hl : k + 1 < (kill1 ls k).length := by have := (List.getElem?_eq_some_iff.mp hw).1; rw [List.length_set] at this; exact this
      rw [List.getElem?_set_self hl] at hw
      cases hw
      exact absurd h9 (by decide)
    · rw [List.getElem?_set_ne e'] at hw
      obtain ⟨a, b⟩ := kill1_at hw h9
      refine h2.2.2 (i, cvv ad xv w) (List.mem_cons_of_mem _ (List.mem_filter.mpr ⟨lvl_mem.mpr ⟨w, a, h9, rfl⟩, ?_⟩))
      dsimp only
      rw [cvv_cat hx]
      have e1 : (i == k) = false := by simpa using fun q : i = k => e q.symm
      have e2 : (i == k + 1) = false := by simpa using fun q : i = k + 1 => e' q.symm
      rw [e1, e2]
      cases hb : Nat.beq w.1 1 with
      | false => simp
      | true =>
        have : ¬ i + 1 = k := fun q => b ⟨q, Nat.eq_of_beq_eq_true hb⟩
        simp [this]
theorem LV_fgt {lsR : Array Slot} {nL : Nat} {ad : Int → Nat} {ls : List Vl} (d : List Nat) (h : LV xv lsR nL ad ls) : LV xv lsR nL ad (fgt d ls) := by
  induction d with
  | nil => exact h
  | cons a d ih =>
    refine ⟨ih.1, by show ((fgt d ls).set a (9, 0)).length = _; rw [List.length_set]; exact ih.2.1, ih.2.2.1, fun i v hv h9 => ?_⟩
    have hv : ((fgt d ls).set a (9, 0))[i]? = some v := hv
    by_cases e : a = i
    · subst e
      have hl := (List.getElem?_eq_some_iff.mp hv).1
      rw [List.length_set] at hl
      rw [List.getElem?_set_self hl] at hv
      cases hv
      exact absurd h9 (by decide)
    · rw [List.getElem?_set_ne e] at hv
      exact ih.2.2.2 i v hv h9
theorem OKl_fgt {n : Int} {ls : List Vl} (d : List Nat) (h : OKl n ls) : OKl n (fgt d ls) := by
  induction d with
  | nil => exact h
  | cons a d ih => exact ih.set (fun q => absurd q (by decide))
theorem z_fgt {M pc : Nat} {ls st : List Vl} {h : Hq} {v : Option Vl} {h' : Hq} (d : List Nat) (k : SM xv mE D ca M pc (fgt d ls) st h v h') : SM xv mE D ca M pc ls st h v h' :=
  k.pure fun p l e R s m args below meth c A Q ad H locs lsR cells slots B o1 o2 lv K => K lsR o1 (OKl_fgt d o2) (LV_fgt d lv)
end SIML
