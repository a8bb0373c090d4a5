/-! THE SIMULATION'S ROWS: the kinds of calls; arrays of references; arrays of arrays -/
section SIMV
variable {xv : Int → Value} {mE : Mm} {D : va_G} {ca : Nat → ClassId}
theorem BC.hts {M : Nat} {p : Program} {R : Room} {s : State} {m : MethodId} {args : Array Value} {meth : Method} {c : Code} {A : Nat → Prop} (B : BC xv mE D ca M p R s m args meth c A) : ∀ w ∈ gtf, w.before args s = true := B.2.2.2.2.2.2.1
theorem z_callB {M pc M1 : Nat} {ls st st1 as : List Vl} {h h1 : Hq} {v1 v : Option Vl} {h' : Hq} (hM : MF M1) (hent : (entL as).length ≤ ML M1) (hF : FR M1 + 1 ≤ FR M) (hL : 8 + (ML M1 + 11) + LO M1 ≤ LO M) (hst : st = as.reverse ++ st1) (k1 : SM xv mE D ca M1 0 (entM (ML M1) as) [] h v1 h1) (k : SM xv mE D ca M (pc + 3) ls (v1.toList ++ st1) h1 v h')
    (hrun : ∀ (p : Program) (l : Launch) (e : Env) (R : Room) (s : State) (m : MethodId) (args : Array Value) (below : List Frame) (meth : Method) (c : Code) (A : Nat → Prop) (n0 : Int) (ad0 : Int → Nat) (ad : Int → Nat) (H : Heap) (locs : List Loc) (lsR : Array Slot) (cells slots : Nat),
      BC xv mE D ca M p R s m args meth c A → WD xv mE D ca A s n0 ad0 h ad H locs → OKs h.1 as → lsR.size = ML M →
      Met l (Yn M1) (wsM M1) (rmM M1 (h1.1.toNat - h.1.toNat) (us h1.1.toNat - us h.1.toNat)) (PcM xv mE D ca as h ad H.size) (QcM xv mE D ca h h1 ad (va_A (wsO ca ad xv h) H.size) v1) (h1.1.toNat - h.1.toNat) (us h1.1.toNat - us h.1.toNat) (va_A (wsO ca ad xv h) H.size) →
      ((rmM M1 (h1.1.toNat - h.1.toNat) (us h1.1.toNat - us h.1.toNat)).frames + 1 ≤ R.frames ∧ 8 + (ML M1 + 11) + (rmM M1 (h1.1.toNat - h.1.toNat) (us h1.1.toNat - us h.1.toNat)).locals ≤ R.locals) → (cells + (h1.1.toNat - h.1.toNat) ≤ R.cells ∧ slots + (us h1.1.toNat - us h.1.toNat) ≤ R.slots) →
      va_Run p l e R s m args below meth c H locs cells slots (h1.1.toNat - h.1.toNat) (us h1.1.toNat - us h.1.toNat) (F0 m pc lsR (st.map (cvv ad xv))) (st1.map (cvv ad xv)) (QcM xv mE D ca h h1 ad (va_A (wsO ca ad xv h) H.size) v1 (as.map (cvv ad xv)).toArray) (va_A (wsO ca ad xv h) H.size)) : SM xv mE D ca M pc ls st h v h' :=
  ⟨Int.le_trans k1.1 k.1, fun p l e R s m args below meth c A Q n0 ad0 cb sb B r1 r2 hR ad H locs lsR cells slots w o1 o2 lv e1 e2 => by
    have h0 := w.2.2.2.1.1
    have m1 := k1.1
    have m2 := k.1
    have u1 : us h.1.toNat ≤ us h1.1.toNat := us_mono (by omega)
    have u2 : us h1.1.toNat ≤ us h'.1.toNat := us_mono (by omega)
    have hRR := B.2.2.2.2.2.2.2.2.2.2.1
    have oa : OKs h.1 as := fun x hx => o1 x (by rw [hst]; exact List.mem_append_left _ (List.mem_reverse.mpr hx))
    have os : OKs h.1 st1 := fun x hx => o1 x (by rw [hst]; exact List.mem_append_right _ hx)
    have hMet := metOf hM k1 hent oa w.2.2.2.1 w.2.2.2.2.1 w.2.2.2.2.2.2.2 l ad H.size
    refine call_go (nL := ML M) (lsP := ls) (M1 := M1) B w (hrun p l e R s m args below meth c A n0 ad0 ad H locs lsR cells slots B w oa lv.1 hMet ⟨by show FR M1 + 1 ≤ _; omega, by show 8 + (ML M1 + 11) + LO M1 ≤ _; omega⟩ ⟨by omega, by omega⟩) os fun ad' H1 locs1 hag hv1 w' => ?_
    refine k.2 p l e R s m args below meth c A Q n0 ad0 cb sb B r1 r2 hR ad' H1 locs1 lsR _ _ w' ?_ (OKl.mono m1 o2) (LV_ad hag o2 lv) (by omega) (by omega)
    intro x hx
    rcases List.mem_append.mp hx with g | g
    · cases v1 with
      | none => cases g
      | some y =>
        have : x = y := by simpa using g
        subst this
        exact hv1 x rfl
    · exact (OKs.mono m1 os) x g⟩
/-- what the tables say of the number of a method's parameters -/
def NP (M n : Nat) : Prop := (parseMethodDescriptor (Yn M).desc).map (fun d => d.parameters.length) = some n
theorem in4 {a b c d : Jvm.Cond} {ws : List Jvm.Cond} (ha : a ∈ gtf) (hb : b ∈ gtf) (hc : c ∈ gtf) (hd : d ∈ gtf) (hw : ∀ w ∈ ws, w ∈ gtf) : GoodIn gtf ([a, b, c, d] ++ ws) := gt_in (fun w h => by
  rcases List.mem_append.mp h with g | g
  · simp only [List.mem_cons, List.not_mem_nil, or_false] at g
    rcases g with rfl | rfl | rfl | rfl <;> assumption
  · exact hw w g)
theorem in3 {a b c : Jvm.Cond} {ws : List Jvm.Cond} (ha : a ∈ gtf) (hb : b ∈ gtf) (hc : c ∈ gtf) (hw : ∀ w ∈ ws, w ∈ gtf) : GoodIn gtf ([a, b, c] ++ ws) := gt_in (fun w h => by
  rcases List.mem_append.mp h with g | g
  · simp only [List.mem_cons, List.not_mem_nil, or_false] at g
    rcases g with rfl | rfl | rfl <;> assumption
  · exact hw w g)
theorem wsM_in {M : Nat} (h : MF M) : ∀ w ∈ wsM M, w ∈ gtf := fun w hw => (wsM_good h w hw).1
theorem z_callS {M pc M1 j q q2 np : Nat} {ls st st1 as : List Vl} {h h1 : Hq} {v1 v : Option Vl} {h' : Hq} (hd : decode (Bt M) pc = .ok (.invokestatic j, 3)) (hM : MF M1) (hw : tw q = some (.methodLink (CL M) j (Yn M1))) (hw2 : tw q2 = some (.static (Yn M1))) (hnp : NP M1 np) (hlen : as.length = np) (hcat : cats st1 ≤ 8) (hent : (entL as).length ≤ ML M1) (hF : FR M1 + 1 ≤ FR M) (hL : 8 + (ML M1 + 11) + LO M1 ≤ LO M) (hst : st = as.reverse ++ st1) (k1 : SM xv mE D ca M1 0 (entM (ML M1) as) [] h v1 h1) (k : SM xv mE D ca M (pc + 3) ls (v1.toList ++ st1) h1 v h') : SM xv mE D ca M pc ls st h v h' :=
  z_callB hM hent hF hL hst k1 k fun p l e R s m args below meth c A n0 ad0 ad H locs lsR cells slots B w oa hsz hMet hRF hcs =>
    va_runS (As := as.map (cvv ad xv)) (rest := st1.map (cvv ad xv)) ⟨B.1, B.2.1, B.2.2.1, B.own, B.hts⟩ hMet (va_cwS np B.hts (in3 (gt_at hw rfl) (gt_at hw2 rfl) hM.2.1 (wsM_in hM)) rfl rfl rfl ⟨hM.2.2.2.2.1.1, hM.2.2.2.2.1.2, hnp⟩ hRF) ⟨blindM, callP B w⟩ rfl (by rw [List.length_map]; exact hlen) hsz (by show st.map _ = _; rw [hst, List.map_append, List.map_reverse]) (lv_room (rest := st1.map (cvv ad xv)) (pc := pc) (ls := lsR) (m := m) (by rw [cats_eq B.xq]; exact hcat)) hd hcs
theorem z_callSN {M pc M1 j q2 np : Nat} {host : String} {ls st st1 as : List Vl} {h h1 : Hq} {v1 v : Option Vl} {h' : Hq} (hd : decode (Bt M) pc = .ok (.invokestatic j, 3)) (hM : MF M1) (hw : (CL M, j, Yn M1, host) ∈ nstL) (hw2 : tw q2 = some (.static (Yn M1))) (hnp : NP M1 np) (hlen : as.length = np) (hcat : cats st1 ≤ 8) (hent : (entL as).length ≤ ML M1) (hF : FR M1 + 1 ≤ FR M) (hL : 8 + (ML M1 + 11) + LO M1 ≤ LO M) (hst : st = as.reverse ++ st1) (k1 : SM xv mE D ca M1 0 (entM (ML M1) as) [] h v1 h1) (k : SM xv mE D ca M (pc + 3) ls (v1.toList ++ st1) h1 v h') : SM xv mE D ca M pc ls st h v h' :=
  z_callB hM hent hF hL hst k1 k fun p l e R s m args below meth c A n0 ad0 ad H locs lsR cells slots B w oa hsz hMet hRF hcs =>
    va_runSN (As := as.map (cvv ad xv)) (rest := st1.map (cvv ad xv)) (host := host) ⟨B.1, B.2.1, B.2.2.1, B.own, B.hts⟩ hMet ⟨va_cnB np B.hts (gt_in (wsM_in hM)) rfl rfl rfl (B.ex.2.2.2.2.2.2.2.1 _ hw) (B.hts _ hM.2.1) ⟨hM.2.2.2.2.1.1, hM.2.2.2.2.1.2, hnp⟩ hRF, B.wd hw2 rfl, trivial⟩ ⟨blindM, callP B w⟩ rfl (by rw [List.length_map]; exact hlen) hsz (by show st.map _ = _; rw [hst, List.map_append, List.map_reverse]) (lv_room (rest := st1.map (cvv ad xv)) (pc := pc) (ls := lsR) (m := m) (by rw [cats_eq B.xq]; exact hcat)) hd hcs
theorem rev_st {ad : Int → Nat} {x : Int} {b : Nat} {as st1 : List Vl} (hb : cvv ad xv (2, x) = .ref b) : (((2, x) :: as).reverse ++ st1).map (cvv ad xv) = (as.map (cvv ad xv)).reverse ++ .ref b :: st1.map (cvv ad xv) := by
  rw [List.reverse_cons, List.append_assoc, List.map_append, List.map_reverse, List.singleton_append, List.map_cons, hb]
theorem z_callV {M pc M1 j q q2 q3 np : Nat} {x : Int} {ls st st1 as : List Vl} {h h1 : Hq} {v1 v : Option Vl} {h' : Hq} (hd : decode (Bt M) pc = .ok (.invokevirtual j, 3)) (hM : MF M1) (hw : tw q = some (.methodLink (CL M) j (Yn M1))) (hw2 : tw q2 = some (.instanceMethod (Yn M1))) (hw3 : tw q3 = some (.selects (Yn M1).cls (Yn M1) (Yn M1)))
    (hrc : (0 < x ∧ ∃ r : vw_C, (kd x).1 < 20 ∧ classes[(kd x).1]? = some r ∧ r.1 = (Yn M1).cls) ∨ (-5 ≤ x ∧ x ≤ -3 ∧ (Yn M1).cls = "java/lang/String"))
    (hnp : NP M1 np) (hlen : as.length = np) (hcat : cats st1 ≤ 8) (hent : (entL ((2, x) :: as)).length ≤ ML M1) (hF : FR M1 + 1 ≤ FR M) (hL : 8 + (ML M1 + 11) + LO M1 ≤ LO M) (hst : st = ((2, x) :: as).reverse ++ st1) (k1 : SM xv mE D ca M1 0 (entM (ML M1) ((2, x) :: as)) [] h v1 h1) (k : SM xv mE D ca M (pc + 3) ls (v1.toList ++ st1) h1 v h') : SM xv mE D ca M pc ls st h v h' :=
  z_callB hM hent hF hL hst k1 k fun p l e R s m args below meth c A n0 ad0 ad H locs lsR cells slots B w oa hsz hMet hRF hcs => by
    have hre : ∃ b : Nat, cvv ad xv (2, x) = .ref b ∧ ∃ cellB : Cell, H[b]? = some cellB ∧ cellB.vm.isStatics = false ∧ s.vm.findClass (Yn M1).cls = some cellB.cls := by
      rcases hrc with ⟨hx, r, h20, hc, he⟩ | ⟨g1, g2, he⟩
      · have hat := w.at hx oa.head.q.2
        rw [ent_obj h20] at hat
        obtain ⟨cell, c1, c2, c3⟩ := va_recv B.kn w.1 hc hat
        exact ⟨ad x, cvv_ref hx, cell, c1, c2, by rw [← he]; exact c3⟩
      · obtain ⟨i, hi, rfl⟩ : ∃ i : Nat, i < 3 ∧ x = -3 - i := ⟨(-3 - x).toNat, by omega, by omega⟩
        obtain ⟨q1, t1, d1, d2, d3, -⟩ := (B.ex.2.2.2.1 i hi).2
        obtain ⟨cell, c1, c2, c3, -⟩ := d3.kept w.2.2.1.2.1
        exact ⟨q1, by rw [cvv_neg (by omega)]; exact d1, cell, c1, c2, by rw [he]; exact c3⟩
    obtain ⟨b, eb, hcell⟩ := hre
    have hP := callP (as := (2, x) :: as) B w
    rw [List.map_cons, eb] at hP ⊢
    exact va_runV (As := as.map (cvv ad xv)) (rest := st1.map (cvv ad xv)) (C := (Yn M1).cls) ⟨B.1, B.2.1, B.2.2.1, B.own, B.hts⟩ hMet (cwV np B.hts (in4 (gt_at hw rfl) (gt_at hw2 rfl) (gt_at hw3 rfl) hM.2.1 (wsM_in hM)) rfl rfl rfl ⟨rfl, hM.2.2.2.2.1.1, hM.2.2.2.2.1.2, hnp⟩ hRF) ⟨blindM, hcell, hP⟩ rfl (by rw [List.length_map]; exact hlen) hsz (by show st.map _ = _; rw [hst]; exact rev_st eb) (lv_room (rest := st1.map (cvv ad xv)) (pc := pc) (ls := lsR) (m := m) (by rw [cats_eq B.xq]; exact hcat)) hd hcs
theorem z_callI {M pc M1 j q q2 np : Nat} {x : Int} {ls st st1 as : List Vl} {h h1 : Hq} {v1 v : Option Vl} {h' : Hq} (hd : decode (Bt M) pc = .ok (.invokespecial j, 3)) (hM : MF M1) (hw : tw q = some (.methodLink (CL M) j (Yn M1))) (hw2 : tw q2 = some (.instanceMethod (Yn M1))) (hin : (Yn M1).name = "<init>") (hrt : Rt M1 = none) (hx : 0 < x)
    (hnp : NP M1 np) (hlen : as.length = np) (hcat : cats st1 ≤ 8) (hent : (entL ((2, x) :: as)).length ≤ ML M1) (hF : FR M1 + 1 ≤ FR M) (hL : 8 + (ML M1 + 11) + LO M1 ≤ LO M) (hst : st = ((2, x) :: as).reverse ++ st1) (k1 : SM xv mE D ca M1 0 (entM (ML M1) ((2, x) :: as)) [] h v1 h1) (k : SM xv mE D ca M (pc + 3) ls (v1.toList ++ st1) h1 v h') : SM xv mE D ca M pc ls st h v h' :=
  z_callB hM hent hF hL hst k1 k fun p l e R s m args below meth c A n0 ad0 ad H locs lsR cells slots B w oa hsz hMet hRF hcs => by
    have eb : cvv ad xv (2, x) = .ref (ad x) := cvv_ref hx
    have hP := callP (as := (2, x) :: as) B w
    rw [List.map_cons, eb] at hP ⊢
    have hwm : wsM M1 = .code (Yn M1) (Bt M1) (ML M1) none :: gtf := by unfold wsM; rw [hrt]
    exact va_runI (As := as.map (cvv ad xv)) (rest := st1.map (cvv ad xv)) ⟨B.1, B.2.1, B.2.2.1, B.own, B.hts⟩ hMet (cwI np B.hts (gt_in (wsM_in hM)) hwm rfl rfl (B.hts _ hM.2.1) (B.wd hw rfl) (B.wd hw2 rfl) hin ⟨hM.2.2.2.2.1.1, hM.2.2.2.2.1.2, hnp⟩ hRF) ⟨blindM, hP⟩ rfl (by rw [List.length_map]; exact hlen) hsz (by show st.map _ = _; rw [hst]; exact rev_st eb) (lv_room (rest := st1.map (cvv ad xv)) (pc := pc) (ls := lsR) (m := m) (by rw [cats_eq B.xq]; exact hcat)) hd hcs
theorem z_callIN {M pc M1 j q2 np : Nat} {host : String} {x : Int} {ls st st1 as : List Vl} {h h1 : Hq} {v1 v : Option Vl} {h' : Hq} (hd : decode (Bt M) pc = .ok (.invokespecial j, 3)) (hM : MF M1) (hw : (CL M, j, Yn M1, host) ∈ nstL) (hw2 : tw q2 = some (.instanceMethod (Yn M1))) (hin : (Yn M1).name = "<init>") (hrt : Rt M1 = none) (hx : 0 < x)
    (hnp : NP M1 np) (hlen : as.length = np) (hcat : cats st1 ≤ 8) (hent : (entL ((2, x) :: as)).length ≤ ML M1) (hF : FR M1 + 1 ≤ FR M) (hL : 8 + (ML M1 + 11) + LO M1 ≤ LO M) (hst : st = ((2, x) :: as).reverse ++ st1) (k1 : SM xv mE D ca M1 0 (entM (ML M1) ((2, x) :: as)) [] h v1 h1) (k : SM xv mE D ca M (pc + 3) ls (v1.toList ++ st1) h1 v h') : SM xv mE D ca M pc ls st h v h' :=
  z_callB hM hent hF hL hst k1 k fun p l e R s m args below meth c A n0 ad0 ad H locs lsR cells slots B w oa hsz hMet hRF hcs => by
    have eb : cvv ad xv (2, x) = .ref (ad x) := cvv_ref hx
    have hP := callP (as := (2, x) :: as) B w
    rw [List.map_cons, eb] at hP ⊢
    have hwm : wsM M1 = .code (Yn M1) (Bt M1) (ML M1) none :: gtf := by unfold wsM; rw [hrt]
    exact va_runIN (As := as.map (cvv ad xv)) (rest := st1.map (cvv ad xv)) (host := host) ⟨B.1, B.2.1, B.2.2.1, B.own, B.hts⟩ hMet ⟨va_cnB np B.hts (gt_in (wsM_in hM)) hwm rfl rfl (B.ex.2.2.2.2.2.2.2.1 _ hw) (B.hts _ hM.2.1) ⟨hM.2.2.2.2.1.1, hM.2.2.2.2.1.2, hnp⟩ hRF, hin, B.wd hw2 rfl⟩ ⟨blindM, hP⟩ rfl (by rw [List.length_map]; exact hlen) hsz (by show st.map _ = _; rw [hst]; exact rev_st eb) (lv_room (rest := st1.map (cvv ad xv)) (pc := pc) (ls := lsR) (m := m) (by rw [cats_eq B.xq]; exact hcat)) hd hcs
/-- a return -/
theorem z_ret {M pc : Nat} {ls : List Vl} {h : Hq} {v : Option Vl} (hd : RD M pc v) : SM xv mE D ca M pc ls v.toList h v h :=
  ⟨Int.le_refl _, fun p l e R s m args below meth c A Q n0 ad0 cb sb B r1 r2 hR ad H locs lsR cells slots w o1 o2 lv e1 e2 => hR ad H locs lsR pc cells slots w hd (fun x hx => o1 x (by rw [hx]; exact List.mem_cons_self)) e1 e2⟩
end SIMV
