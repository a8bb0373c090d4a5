/-! THE START: the law's entry, out of the simulation of its body -/
def R_law : String := "TexelBankLaw"
def lw_P (b : Addr) (xs : List Int32) (args : Array Value) (s : State) : Prop := args = #[.ref b] ∧ s.IntsAt b xs ∧ xs.length ≤ 4096 ∧ (Jvm.Cond.and given_1 narrow_1).before args s = true
def lw_Q (_ : Array Value) (s : State) (o : Outcome) (t : State) : Prop := o = .returned (some (.int 1)) ∧ Framed s o t [] 600000 7302250
def lw_Z (below : List Frame) (a : Array Value) (s : State) : State → Prop := fun t => ∃ o, t.status = .running ∧ Ended t below o ∧ lw_Q a s o t
/-- the law's own end, with 1 on the stack, nothing written that was there before, its room as the claim has it -/
theorem lw_ret {p : Program} {l : Launch} {e : Env} {s : State} {m : MethodId} {below : List Frame} {meth : Method} {c : Code} {b : Nat} (hx : p.tables.exec = Jvm.exec) (hb : c.code = code) (hr : meth.sig.returnType = ret) (hlocks : meth.locks = false) {pc : Nat} {H : Heap} {ls : Array Slot} (hdg : decode code pc = .ok (.ireturn, 1)) : W p l e room_1 s m #[Value.ref b] below meth c H [] 600000 7302250 (lw_Z below #[Value.ref b] s) (F0 m pc ls [.int 1]) := by
  intro T hT X
  obtain ⟨fs, hret, hrun, hended, hW, hframe⟩ := X.leave (v := some (.int 1)) (hlocks := hlocks) (fun h => by rw [hr] at h; cases h)
  have hmeth' : T.vm.method? m = some meth := X.method'
  refine ⟨T.setFrames fs, ?_, .returned (some (.int 1)), hrun, hended, rfl, ⟨_, rfl⟩, hW, hframe⟩
  jvm_step X.here [X.here.top, hx, hb, hdg, hmeth', hr, ret, narrow_b1]
  (try refine ⟨rfl, ?_⟩); (try refine ⟨rfl, ?_⟩)
  first | (intro acts; rw [hret _ acts rfl rfl rfl]) | rw [hret _ _ rfl rfl rfl]
  exact Steps.refl _
/-- what holds at the law's entry: the machine, the code, the tables' words (any of lw_tbl by 'hts w (by decide +kernel)'), the script of L ints xs at the cell b, what the Statement gives of the start (any of its parts by flat_of_before) -/
def lw_At (p : Program) (s : State) (m : MethodId) (meth : Method) (c : Code) (b L : Nat) (xs : Nat → Int32) : Prop :=
  p.tables.exec = Jvm.exec ∧ c.code = code ∧ meth.sig.returnType = ret ∧ c.maxLocals = 4 ∧ s.vm.findClass R_law = some m.cls ∧ (∀ w ∈ lw_tbl, w.before #[Value.ref b] s = true) ∧ va_X b L xs s s.heap ∧ b < s.heap.size ∧ meth.locks = false ∧ (Jvm.Cond.and given_1 narrow_1).before #[Value.ref b] s = true
def instP : List Nat := [2091, 2112, 2167, 1037, 2200, 1197, 2148, 1162, 2148, 1031, 1204, 1023, 5188]
def wideL : List Int := [1, 250, 244, 248, 240, 224, 192, 128]
def txL : List (List Int) := [[99, 97, 99, 104, 101, 32, 98, 121, 32, 111, 102, 32, 115, 116, 111, 114, 101, 32, 116, 104, 105, 110, 103, 32, 110, 111, 110, 101, 32, 116, 101, 120, 116, 117, 114, 101, 32, 111, 110, 32, 97, 116, 32, 115, 105, 122, 101, 32, 108, 101, 118, 101, 108, 115, 32, 102, 105, 108, 108, 32], [98, 105, 116, 115, 32, 98, 121, 116, 101, 115, 32, 99, 104, 97, 114, 115, 32, 115, 104, 111, 114, 116, 115, 32, 105, 110, 116, 115, 32, 108, 111, 110, 103, 115, 32, 102, 108, 111, 97, 116, 115, 32, 100, 111, 117, 98, 108, 101, 115, 32, 116, 101, 120, 101, 108, 115, 32, 119, 111, 114, 100, 115, 32], [114, 111, 119, 115, 32, 116, 105, 108, 101, 115, 32, 99, 117, 114, 118, 101, 115, 32, 114, 101, 112, 101, 97, 116, 32, 99, 108, 97, 109, 112, 32, 109, 105, 114, 114, 111, 114, 32]]
def lnL : List Nat := [60, 63, 38]
def tmL (i : Nat) : Term := .string "TexelBank$Lexer" (if i = 0 then 15 else if i = 1 then 21 else 23)
def txB : List (List Int32) := txL.map (fun l => l.map Int32.ofInt)
/-- the memory at the start: nothing of ours; the script, the table of what widens, the texts' bytes -/
def m0 (L : Nat) (xs : Nat → Int32) : Mm := fun o k =>
  if o = -1 then (if k = -1 then (L : Int) else if 0 ≤ k ∧ k < L then (xs k.toNat).toInt else 0)
  else if o = -2 then wideL.getD k.toNat 0
  else if o = -6 then (txL.getD 0 []).getD k.toNat 0
  else if o = -7 then (txL.getD 1 []).getD k.toNat 0
  else if o = -8 then (txL.getD 2 []).getD k.toNat 0
  else 0
abbrev gvC : List Jvm.Cond := flatC (Jvm.Cond.and given_1 narrow_1)
set_option maxRecDepth 100000 in
theorem in_wide : Cond.arrayOf (.static "TexelBank$Stores" "WIDER" "[I") .int ∈ gvC ∧ Cond.eq (.length (.static "TexelBank$Stores" "WIDER" "[I")) (.int (Int32.ofNat 8)) ∈ gvC ∧ ∀ j, j < 8 → Cond.eq (.elem (.static "TexelBank$Stores" "WIDER" "[I") (.int (Int32.ofNat j))) (.int (Int32.ofInt (wideL.getD j 0))) ∈ gvC := by decide +kernel
set_option maxRecDepth 100000 in
theorem in_cs : Cond.eq (.static "java/lang/String" "COMPACT_STRINGS" "Z") (.int 1) ∈ gvC ∧ Cond.isRef (.static "jdk/internal/util/Preconditions" "SIOOBE_FORMATTER" "Ljava/util/function/BiFunction;") ∈ gvC := by decide +kernel
set_option maxRecDepth 100000 in
theorem in_str : ∀ i, i < 3 → lnL.getD i 0 < 2 ^ 31 ∧ Cond.exactly (tmL i) "java/lang/String" ∈ gvC ∧ Cond.eq (.field (tmL i) "java/lang/String" "coder" "B") (.int 0) ∈ gvC ∧ Cond.arrayOf (.field (tmL i) "java/lang/String" "value" "[B") .byte ∈ gvC ∧ Cond.eq (.length (.field (tmL i) "java/lang/String" "value" "[B")) (.int (Int32.ofNat (lnL.getD i 0))) ∈ gvC := by decide +kernel
def bytC (i j : Nat) : Jvm.Cond := Cond.eq (.elem (.field (tmL i) "java/lang/String" "value" "[B") (.int (Int32.ofNat j))) (.int ((txB.getD i []).getD j 0))
set_option maxRecDepth 100000 in
theorem in_byt0 : (gvC.drop 24).take 60 = (List.range 60).map (bytC 0) := by decide +kernel
set_option maxRecDepth 100000 in
theorem in_byt1 : (gvC.drop 88).take 63 = (List.range 63).map (bytC 1) := by decide +kernel
set_option maxRecDepth 100000 in
theorem in_byt2 : (gvC.drop 156).take 38 = (List.range 38).map (bytC 2) := by decide +kernel
theorem in_seg {n k : Nat} {f : Nat → Jvm.Cond} (h : (gvC.drop k).take n = (List.range n).map f) {j : Nat} (hj : j < n) : f j ∈ gvC := by
  have h1 : f j ∈ (List.range n).map f := List.mem_map.mpr ⟨j, List.mem_range.mpr hj, rfl⟩
  rw [← h] at h1
  exact List.mem_of_mem_drop (List.mem_of_mem_take h1)
theorem in_byt : ∀ i, i < 3 → ∀ j, j < lnL.getD i 0 → bytC i j ∈ gvC
  | 0, _, j, hj => in_seg in_byt0 hj
  | 1, _, j, hj => in_seg in_byt1 hj
  | 2, _, j, hj => in_seg in_byt2 hj
set_option maxRecDepth 100000 in
theorem in_ne : ∀ i, i < 3 → ∀ j, j < 3 → i ≠ j → Cond.not (Cond.eq (tmL i) (tmL j)) ∈ gvC ∨ Cond.not (Cond.eq (tmL j) (tmL i)) ∈ gvC := by decide +kernel
set_option maxRecDepth 100000 in
theorem tb_st : Cond.laysStatic "TexelBank$Stores" "WIDER" "[I" ∈ lw_tbl ∧ Cond.initialized "TexelBank$Stores" ∈ lw_tbl ∧ Cond.laysStatic "java/lang/String" "COMPACT_STRINGS" "Z" ∈ lw_tbl ∧ Cond.initialized "java/lang/String" ∈ lw_tbl ∧ Cond.laysStatic "jdk/internal/util/Preconditions" "SIOOBE_FORMATTER" "Ljava/util/function/BiFunction;" ∈ lw_tbl ∧ Cond.initialized "jdk/internal/util/Preconditions" ∈ lw_tbl := by decide +kernel
set_option maxRecDepth 100000 in
theorem tb_ar : Cond.arrayClass .int ∈ lw_tbl ∧ Cond.arrayClass .byte ∈ lw_tbl ∧ Cond.arrayClass .boolean ∈ lw_tbl ∧ Cond.arrayClass .long ∈ lw_tbl ∧ Cond.arrayOver (.array .int) ∈ lw_tbl ∧ Cond.arrayOver (.object "TexelBank$Texture") ∈ lw_tbl := by decide +kernel
set_option maxRecDepth 100000 in
theorem tb_nst : ∀ q ∈ nstL, Cond.methodLinkNest q.1 q.2.1 q.2.2.1 q.2.2.2 ∈ lw_tbl := by decide +kernel
set_option maxRecDepth 100000 in
theorem tb_str : ∀ i, i < 3 → ∃ r ∈ strL, strL[i]? = some r ∧ Cond.stringRef r.1 r.2.1 r.2.2 ∈ lw_tbl ∧ tmL i = .string r.1 r.2.1 := by decide +kernel
def instOk (c : Nat) : Bool := match classes[c]? with
  | some r => (match instP[c]? with
    | some q => decide (tw q = some (.instantiable r.1 r.2.2))
    | none => false)
  | none => true
set_option maxRecDepth 100000 in
theorem inst_ok : ∀ c ∈ List.range 13, instOk c = true := by decide +kernel
theorem kn_all {s : State} {args : Array Value} (hts : ∀ w ∈ lw_tbl, w.before args s = true) : ∃ D : va_G, ∀ (c : Nat) (q : vw_C), classes[c]? = some q → u_Kn s q.1 q.2.1 q.2.2 (D.1 c) (D.2 c) := by
  have h0 : ∀ c : Nat, ∃ d : ClassId × (Nat → Nat), ∀ q : vw_C, classes[c]? = some q → u_Kn s q.1 q.2.1 q.2.2 d.1 d.2 := by
    intro c
    cases hq : classes[c]? with
    | none => exact ⟨(0, fun _ => 0), fun q h => by cases h⟩
    | some r =>
      have hc : c < 13 := (List.getElem?_eq_some_iff.mp hq).1
      have h1 := inst_ok c (List.mem_range.mpr hc)
      unfold instOk at h1
      rw [hq] at h1
      dsimp only at h1
      cases hp : instP[c]? with
      | none => rw [hp] at h1; cases h1
      | some q =>
        rw [hp] at h1
        have h2 := tw_mem (of_decide_eq_true h1)
        obtain ⟨cC, iS, h3⟩ := u_known (args := args) hts (u_inA c r hq) (hts _ h2)
        exact ⟨(cC, iS), fun q h => by cases h; exact h3⟩
  obtain ⟨d, hd⟩ := Classical.axiomOfChoice h0
  exact ⟨(fun c => (d c).1, fun c => (d c).2), hd⟩
theorem ty_all {s : State} {args : Array Value} (hts : ∀ w ∈ lw_tbl, w.before args s = true) : ∃ ca : Nat → ClassId, ∀ (k : Nat) (q : ClassId × FieldType), (tysL ca)[k]? = some q → ArrOfT s q.1 q.2 ∧ va_RA s q.1 q.2 := by
  obtain ⟨t1, t2, t3, t4, t5, t6⟩ := tb_ar
  obtain ⟨c1, k1, m1, a1, b1, d1⟩ := Cond.arrayClass_spec (hts _ t1)
  obtain ⟨c2, k2, m2, a2, b2, d2⟩ := Cond.arrayClass_spec (hts _ t2)
  obtain ⟨c3, k3, m3, a3, b3, d3⟩ := Cond.arrayClass_spec (hts _ t3)
  obtain ⟨c4, k4, m4, a4, b4, d4⟩ := Cond.arrayClass_spec (hts _ t4)
  obtain ⟨m5, c5, k5, e5, b5, d5, a5⟩ := Cond.arrayOver_specA (hts _ t5)
  obtain ⟨m6, c6, k6, e6, -, b6, d6, a6⟩ := Cond.arrayOver_spec (hts _ t6)
  refine ⟨fun i => if i = 20 then c1 else if i = 21 then c2 else if i = 22 then c3 else if i = 23 then c4 else if i = 24 then c5 else c6, fun k q hq => ?_⟩
  match k, hq with
  | 0, hq => cases hq; exact ⟨fun n z => ⟨fun k h => (by cases h), k1, b1, m1, d1⟩, a1⟩
  | 1, hq => cases hq; exact ⟨fun n z => ⟨fun k h => (by cases h), k2, b2, m2, d2⟩, a2⟩
  | 2, hq => cases hq; exact ⟨fun n z => ⟨fun k h => (by cases h), k3, b3, m3, d3⟩, a3⟩
  | 3, hq => cases hq; exact ⟨fun n z => ⟨fun k h => (by cases h), k4, b4, m4, d4⟩, a4⟩
  | 4, hq => cases hq; exact ⟨fun n z => ⟨fun k h => (by cases h), k5, b5, m5, d5⟩, a5⟩
  | 5, hq => cases hq; exact ⟨fun n z => ⟨fun k h => (by cases h), k6, b6, m6, d6⟩, k6, m6, b6, d6, e6, a6⟩
  | n + 6, hq => cases hq
theorem us_130 : us 130 ≤ 7302250 ∧ us 1 = 0 := by decide +kernel
theorem tx_at : ∀ i : Nat, i < 3 → (kd (-6 - (i : Int))).2.toNat = lnL.getD i 0 ∧ ∀ j, j < lnL.getD i 0 → (txB.getD i []).getD j 0 = Int32.ofInt ((txL.getD i []).getD j 0) ∧ -2147483648 ≤ (txL.getD i []).getD j 0 ∧ (txL.getD i []).getD j 0 < 2147483648 := by decide +kernel
theorem wd_at : ∀ j, j < 8 → -2147483648 ≤ wideL.getD j 0 ∧ wideL.getD j 0 < 2147483648 := by decide +kernel
theorem m0_s {L : Nat} {xs : Nat → Int32} {j : Nat} (h : j < L) : m0 L xs (-1) j = (xs j).toInt := by
  show (if (j : Int) = -1 then (L : Int) else if 0 ≤ (j : Int) ∧ (j : Int) < L then (xs (j : Int).toNat).toInt else 0) = _
  rw [if_neg (by omega), if_pos ⟨by omega, by omega⟩]
  rfl
theorem m0_t {L : Nat} {xs : Nat → Int32} {i : Nat} (hi : i < 3) (j : Nat) : m0 L xs (-6 - (i : Int)) j = (txL.getD i []).getD j 0 := by
  match i, hi with
  | 0, _ => rfl
  | 1, _ => rfl
  | 2, _ => rfl
theorem start_of {p : Program} {e : Env} {s : State} {m : MethodId} {below : List Frame} {meth : Method} {c : Code} (l : Launch) {b L : Nat} {xs : Nat → Int32} (hL : L ≤ 4096) (hp : ∃ h' : Hq, vm 323 [(2, -1)] (1, m0 L xs) = some (some (0, 1), h') ∧ h'.1 ≤ 130) (C0 : lw_At p s m meth c b L xs) : W p l e room_1 s m #[Value.ref b] below meth c s.heap [] 0 0 (lw_Z below #[Value.ref b] s) (entryFrame m ([Value.ref b] : List Value).toArray 4) := by
  obtain ⟨hx, hb, hr, hml, hown, hts, hX, hbl, hlocks, hgv⟩ := C0
  obtain ⟨h', hrun, hn⟩ := hp
  have fl := flat_of_before _ hgv
  let A : Nat → Prop := fun q => s.heap.size ≤ q
  have hA : ∀ a : Nat, a < s.heap.size → ¬ A a := fun a ha q => absurd ha (Nat.not_lt.mpr q)
  obtain ⟨tW, eW, hTW⟩ := va_Tof (tm := .static "TexelBank$Stores" "WIDER" "[I") (ty := .int) (N := 8) (f := fun j => .int (Int32.ofInt (wideL.getD j 0))) (A := A) (by decide) (fl _ in_wide.1) (va_eqt (fl _ in_wide.2.1)) (fun j hj => va_eqt (fl _ (in_wide.2.2 j hj))) hA
  obtain ⟨s1, s2, s3, s4, s5, s6⟩ := tb_st
  have zW := va_Zof (A := A) (hts _ s1) (hts _ s2) eW hA
  have zC := va_Zof (A := A) (hts _ s3) (hts _ s4) (va_eqi (fl _ in_cs.1)) hA
  obtain ⟨vS, hvS, zS⟩ : ∃ vS : Value, (vS = .null ∨ ∃ t, vS = .ref t) ∧ va_Z "jdk/internal/util/Preconditions" "SIOOBE_FORMATTER" "Ljava/util/function/BiFunction;" vS A s s.heap := by
    rcases va_Zqof (A := A) (hts _ s5) (hts _ s6) (fl _ in_cs.2) hA with z | ⟨t, z⟩
    · exact ⟨_, Or.inl rfl, z⟩
    · exact ⟨_, Or.inr ⟨t, rfl⟩, z⟩
  obtain ⟨adK, adV, ⟨hS, -⟩, eS⟩ := vk_Sof (N := 3) (tm := tmL) (len := lnL) (byt := txB) (A := A) (fun i hi => (in_str i hi).1) (fun i hi => fl _ (in_str i hi).2.1) (fun i hi => fl _ (in_str i hi).2.2.1) (fun i hi => fl _ (in_str i hi).2.2.2.1) (fun i hi => fl _ (in_str i hi).2.2.2.2) (fun i hi j hj => fl _ (in_byt i hi j hj)) (fun i j hi hj hne => (in_ne i hi j hj hne).imp (fl _) (fl _)) hA
  obtain ⟨D, hD⟩ := kn_all hts
  obtain ⟨ca, hca⟩ := ty_all hts
  let xv : Int → Value := fun x => if x = -1 then .ref b else if x = -2 then .ref tW else if x = -3 then .ref (adK 0) else if x = -4 then .ref (adK 1) else if x = -5 then .ref (adK 2) else if x = -6 then .ref (adV 0) else if x = -7 then .ref (adV 1) else if x = -8 then .ref (adV 2) else if x = -9 then vS else .null
  have hEX : EX xv (m0 L xs) A s s.heap := by
    refine ⟨⟨Int.natCast_nonneg L, by show (L : Int) ≤ 4096; omega⟩, ?_, ?_, fun i hi => ⟨?_, ?_⟩, zC, zW, zS, fun q hq => va_Nw.of rfl (hts _ (tb_nst q hq)), ⟨va_AO.of (hts _ tb_ar.2.2.2.2.2), hts _ tb_ar.2.2.2.2.1⟩, fun x => ?_⟩
    · obtain ⟨scr, g1, g2, g3, g4, g5⟩ := hX
      refine ⟨b, rfl, ⟨scr, g1, g2, g3, ?_, ?_, ?_, hA b hbl⟩, ?_⟩
      · show (L : Int).toNat ≤ _; rw [g4]; exact Nat.le_refl _
      · show _ = Int32.ofNat (L : Int).toNat; rw [g4]; rfl
      · intro j hj
        have hj : j < L := hj
        show scr.slots[j]? = some (.int (Int32.ofInt (m0 L xs (-1) j)))
        rw [g5 j hj, m0_s hj, Int32.ofInt_toInt]
      · intro j hj
        have hj : j < L := hj
        rw [m0_s hj]
        exact i32r _
    · exact ⟨tW, rfl, hTW, fun j hj => wd_at j hj⟩
    · obtain ⟨u1, u2⟩ := tx_at i hi
      refine ⟨adV i, ?_, ?_, fun j hj => ?_⟩
      · match i, hi with
        | 0, _ => rfl
        | 1, _ => rfl
        | 2, _ => rfl
      · obtain ⟨cell, g1, g2, g3, g4, g5, g6, g7⟩ := (hS i hi).2.2.2
        rw [u1]
        exact ⟨cell, g1, g2, g3, g4, g5, fun j hj => by
          show cell.slots[j]? = some (.int (Int32.ofInt (m0 L xs (-6 - (i : Int)) j)))
          rw [g6 j hj, m0_t hi, ← (u2 j hj).1], g7⟩
      · rw [u1] at hj
        rw [m0_t hi]
        exact (u2 j hj).2
    · obtain ⟨r, -, r1, r2, r3⟩ := tb_str i hi
      refine ⟨adK i, adV i, ?_, ?_, (hS i hi).1, (hS i hi).2.1, (hS i hi).2.2.1, r, r1, vk_R.of (hts _ r2) (by rw [← r3]; exact eS i hi)⟩
      · match i, hi with
        | 0, _ => rfl
        | 1, _ => rfl
        | 2, _ => rfl
      · match i, hi with
        | 0, _ => rfl
        | 1, _ => rfl
        | 2, _ => rfl
    · show (if x = -1 then Value.ref b else if x = -2 then .ref tW else if x = -3 then .ref (adK 0) else if x = -4 then .ref (adK 1) else if x = -5 then .ref (adK 2) else if x = -6 then .ref (adV 0) else if x = -7 then .ref (adV 1) else if x = -8 then .ref (adV 2) else if x = -9 then vS else .null) = .null ∨ ∃ t, (if x = -1 then Value.ref b else if x = -2 then .ref tW else if x = -3 then .ref (adK 0) else if x = -4 then .ref (adK 1) else if x = -5 then .ref (adK 2) else if x = -6 then .ref (adV 0) else if x = -7 then .ref (adV 1) else if x = -8 then .ref (adV 2) else if x = -9 then vS else .null) = .ref t
      repeat' split
      all_goals first | exact hvS | exact Or.inr ⟨_, rfl⟩ | exact Or.inl rfl
  have hK : va_K D classes (tysL ca) s := ⟨hD, hca⟩
  have k := simV xv (m0 L xs) D ca (by decide) hrun
  rw [lg_entry_eq]
  have hxq := hEX.2.2.2.2.2.2.2.2.2
  have hl := lv_entry ([cvv (fun _ => 0) xv (2, -1)]) (n := 4) (by rw [show [cvv (fun _ => 0) xv (2, -1)] = [((2 : Nat), (-1 : Int))].map (cvv (fun _ => 0) xv) from rfl, lg_len hxq]; decide)
  have e1 : ([Value.ref b] : List Value) = [cvv (fun _ => 0) xv (2, -1)] := rfl
  rw [e1]
  generalize (lg_sl [cvv (fun _ => 0) xv (2, -1)] ++ List.replicate (4 - (lg_sl [cvv (fun _ => 0) xv (2, -1)]).length) Slot.unset).toArray = lsR at hl ⊢
  have k1 : (1 : Int) ≤ h'.1 := k.1
  have ml : ML 323 = 4 := rfl
  have hWF : WF (1, m0 L xs) := ⟨Int.le_refl _, fun o q (ho : 1 ≤ o) => by
    show m0 L xs o q = 0
    unfold m0
    rw [if_neg (by omega), if_neg (by omega), if_neg (by omega), if_neg (by omega), if_neg (by omega)], fun o h0 (h1 : o < 1) => by omega⟩
  have hB : BC xv (m0 L xs) D ca 323 p room_1 s m #[Value.ref b] meth c A := ⟨hx, hb, hml, hown, hr, hlocks, fun w hw => hts w (List.mem_filter.mp hw).1, fun q hq => hq, hEX, hK, by decide +kernel, fun hi => absurd hi (by decide)⟩
  have hLV : LV xv lsR (ML 323) (fun _ => 0) (entM (ML 323) [(2, -1)]) := ⟨hl.1, rfl, hl.2.1, fun i w hw h9 => by
    unfold entM at hw
    by_cases hi : i < (entL [((2 : Nat), (-1 : Int))]).length
    · rw [List.getElem?_append_left hi] at hw
      have := lv_args_at (ad := fun _ => 0) hxq [(2, -1)] 0 i w hw h9
      rw [Nat.zero_add] at this
      exact hl.2.2 _ this
    · rw [List.getElem?_append_right (by omega)] at hw
      have := List.eq_of_mem_replicate (List.mem_of_getElem? hw)
      subst this
      exact absurd h9 (by decide)⟩
  have hOK : OKs 1 [((2 : Nat), (-1 : Int))] := fun v hv => by
    cases List.mem_singleton.mp hv
    exact okv2 ⟨by decide, by decide⟩
  have hWD : WD xv (m0 L xs) D ca A s 1 (fun _ => 0) (1, m0 L xs) (fun _ => 0) s.heap [] := ⟨fun k q hq => (by cases hq), ⟨fun i j p q hp => (by cases hp), fun k q hq => (by cases hq)⟩, va_S.rf, hWF, fun _ _ _ => rfl, Int.le_refl _, fun _ _ => rfl, fun o q h0 h24 => by
    show m0 L xs o q < 1
    unfold m0
    rw [if_neg (by omega), if_neg (by omega), if_neg (by omega), if_neg (by omega), if_neg (by omega)]
    decide⟩
  have un : us h'.1.toNat ≤ 7302250 := Nat.le_trans (us_mono (show h'.1.toNat ≤ 130 by omega)) us_130.1
  refine k.2 p l e room_1 s m #[Value.ref b] below meth c A _ 1 (fun _ => 0) 1 (us 1) hB ?_ ?_ ?_ (fun _ => 0) s.heap [] lsR 0 0 hWD (fun _ h => by cases h) (entM_ok hOK) hLV rfl (Nat.zero_add _)
  · show h'.1.toNat ≤ 1 + 600000; omega
  · show us h'.1.toNat ≤ us 1 + 7302250; omega
  · intro ad H locs lsR' pc cells slots w hrd hok c1 c2
    have hrd : decode code pc = .ok (.ireturn, 1) := hrd.1
    refine va_forget (fun q hq => w.2.2.1.2.2 q hq) ?_
    refine W.widen (k := 600000) (n := 7302250) (by omega) (by omega) ?_
    exact lw_ret hx hb hr hlocks hrd
