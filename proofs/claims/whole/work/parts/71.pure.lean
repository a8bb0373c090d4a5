/-! THE PURE PART: make, fill, paint: the calls -/
def EQL (m : Mm) (t : Int) (r r' : Int → Int) : Prop := ∀ p : Int, 0 ≤ p → p < m 94 (tex m t 0) → r p = r' p
theorem EQL.up {m : Mm} {t : Int} {r r' : Int → Int} (E : EQL m t r r') (q v : Int) : EQL m t (up1 r q v) (up1 r' q v) := fun p p0 p1 => by
  by_cases z : p = q
  · subst z; rw [up1_c, up1_c]
  · rw [up1_o z, up1_o z]; exact E p p0 p1
theorem EQL.stpX {m : Mm} (X : TXM m) (K : KLM m) {t : Int} (ht : isT m t) {r r' : Int → Int} (E : EQL m t r r') {l : Nat} (hl : (l : Int) < tex m t 4) (x y : Int) : EQL m t (stpX m t l x y r) (stpX m t l x y r') := by
  show EQL m t (up1 r _ (ctk _ (blV m t l x y r))) (up1 r' _ (ctk _ (blV m t l x y r')))
  rw [blV_ext X K ht hl E]
  exact E.up _ _
theorem EQL.mkX {m : Mm} (X : TXM m) (K : KLM m) {t : Int} (ht : isT m t) {r r' : Int → Int} (E : EQL m t r r') {l : Nat} (hl : (l : Int) < tex m t 4) (y : Int) : ∀ n : Nat, EQL m t (mkX m t l y n r) (mkX m t l y n r')
  | 0 => E
  | n + 1 => (EQL.mkX X K ht E hl y n).stpX X K ht hl n y
theorem EQL.mkY {m : Mm} (X : TXM m) (K : KLM m) {t : Int} (ht : isT m t) {r r' : Int → Int} (E : EQL m t r r') {l : Nat} (hl : (l : Int) < tex m t 4) : ∀ n : Nat, EQL m t (mkY m t l n r) (mkY m t l n r')
  | 0 => E
  | n + 1 => (EQL.mkY X K ht E hl n).mkX X K ht hl n _
theorem EQL.mkL {m : Mm} (X : TXM m) (K : KLM m) {t : Int} (ht : isT m t) {r r' : Int → Int} (E : EQL m t r r') : ∀ n : Nat, (n : Int) < tex m t 4 → EQL m t (mkL m t n r) (mkL m t n r')
  | 0, _ => E
  | n + 1, hn => (EQL.mkL X K ht E n (by omega)).mkY X K ht (by omega) _
theorem EQL.flX {m : Mm} {t : Int} {r r' : Int → Int} (E : EQL m t r r') (a b c y : Int) : ∀ n : Nat, EQL m t (flX m t a b c y n r) (flX m t a b c y n r')
  | 0 => E
  | n + 1 => (EQL.flX E a b c y n).up _ _
theorem EQL.flY {m : Mm} {t : Int} {r r' : Int → Int} (E : EQL m t r r') (a b c : Int) : ∀ n : Nat, EQL m t (flY m t a b c n r) (flY m t a b c n r')
  | 0 => E
  | n + 1 => (EQL.flY E a b c n).flX a b c n _
theorem gl_ext_inv {i : Int} {h : Hq} (I : INV i h) (hi : i < 600) {t : Int} (ht : isT h.2 t) {r' rm : Int → Int} (P : PR h.2 t (h.2 (8 + tex h.2 t 0)) r') (E : EQL h.2 t rm r') {v : Int} (hv : v = chg (h.2 (8 + tex h.2 t 0)) r' (tex h.2 t 1) (plc (tex h.2 t 2) (tex h.2 t 3) (tex h.2 t 4).toNat).toNat) : INV (i + 1) (bgN h.1 h.2, kpM (mdM (mcC h.2 (tex h.2 t 0) r' (decide (0 < v))) (if 0 < v then 1 else 0) (gl (h.2 97) (tex h.2 t 0) rm) (h.2 98))) := by
  have X := I.tx
  have K := I.kl
  have Y := X.lv ht
  have FS := X.fs ht
  have S := X.st K ht
  have G := plc_rng (w := tex h.2 t 2) (h := tex h.2 t 3) (by omega) (by omega) (by omega) (by omega) (tex h.2 t 4).toNat
  have cr := chg_rng (h.2 (8 + tex h.2 t 0)) r' (tex h.2 t 1) (plc (tex h.2 t 2) (tex h.2 t 3) (tex h.2 t 4).toNat).toNat
  refine INV_act I hi S.1.1 S.1.2.1 ?_ (fun p p0 p1 => ?_) (fun s' p a0 a1 a2 a3 a4 => ?_) (fun hb p p0 p1 => ?_)
  · rw [decide_eq_true_iff]
    by_cases z : 0 < v
    · rw [if_pos z]; exact ⟨fun _ => by decide, fun _ => z⟩
    · rw [if_neg z]; exact ⟨fun w => absurd w z, fun w => absurd rfl w⟩
  · rw [gl_c _ _ _ p0 (by omega), E p p0 p1]
    exact Or.inl ⟨by omega, rfl, P.1 p p0 p1⟩
  · have k' := K.rw a0 a1 a3 a4
    rw [gl_o _ _ a3 k'.2.1 a2]
    exact ⟨rfl, rfl⟩
  · rw [gl_c _ _ _ p0 (by omega), E p p0 p1]
    refine ⟨?_, rfl⟩
    rw [← (I.ro.tx X K ht p0 p1).1]
    have hv0 := of_decide_eq_false hb
    have c0 : chg (h.2 (8 + tex h.2 t 0)) r' (tex h.2 t 1) (plc (tex h.2 t 2) (tex h.2 t 3) (tex h.2 t 4).toNat).toNat = 0 := by omega
    by_cases z : p < tex h.2 t 1 ∨ tex h.2 t 1 + plc (tex h.2 t 2) (tex h.2 t 3) (tex h.2 t 4).toNat ≤ p
    · exact P.2 p z
    · have := chg_0 _ c0 (p - tex h.2 t 1) (by omega) (by omega)
      rw [show tex h.2 t 1 + (p - tex h.2 t 1) = p by omega] at this
      exact this
/-- the class's memory when an act on a texture has begun -/
theorem CTX.bg {i : Int} {h : Hq} (I : INV i h) {t : Int} (ht : isT h.2 t) : CTX (bgC h.2 (tex h.2 t 0)) (tcl h.2 t) t ∧ (∀ w, tex (bgC h.2 (tex h.2 t 0)) t w = tex h.2 t w) ∧ bgC h.2 (tex h.2 t 0) 93 = h.2 93 ∧ bgC h.2 (tex h.2 t 0) 94 = h.2 94 ∧ bgC h.2 (tex h.2 t 0) 95 = h.2 95 ∧ FX (bgC h.2 (tex h.2 t 0)) ∧ stc (bgC h.2 (tex h.2 t 0)) (8 + tex h.2 t 0) (h.2 (8 + tex h.2 t 0)) = bgC h.2 (tex h.2 t 0) := by
  have S := I.tx.st I.kl ht
  have o : ∀ c, c < 75 → bgC h.2 (tex h.2 t 0) c = h.2 c := fun c hc => funext fun k => bgC_o (by omega) (by omega) (by omega)
  have o2 : ∀ c, 77 ≤ c → c < 109 → bgC h.2 (tex h.2 t 0) c = h.2 c := fun c hc hd => funext fun k => bgC_o (by omega) (by omega) (by omega)
  have e0 := o2 90 (by omega) (by omega)
  have e3 := o2 93 (by omega) (by omega)
  have e4 := o2 94 (by omega) (by omega)
  have e5 := o2 95 (by omega) (by omega)
  refine ⟨⟨(I.tb ht).fr (fun c k q => bgC_o (by omega) (by omega) (by omega)), I.tx.g e0 e3 e4 e5, I.kl.g e0 e3 e4, ?_⟩, tex_g e5 t, e3, e4, e5, I.fx.fr (fun c k q => by
    unfold FXP at q
    exact bgC_o (by omega) (by omega) (by omega)), ?_⟩
  · unfold isT
    rw [e0]
    exact ht
  · rw [← o _ (by omega), stc_id]
/-- the class settles an act on a texture -/
theorem c_settle {i : Int} {h : Hq} (I : INV i h) {t : Int} (ht : isT h.2 t) (r' : Int → Int) : vm 135 [(2, 1), (2, tcl h.2 t)] (bgN h.1 h.2, stc (bgC h.2 (tex h.2 t 0)) (8 + tex h.2 t 0) r') = some (some (0, chg (h.2 (8 + tex h.2 t 0)) r' (tex h.2 t 1) (plc (tex h.2 t 2) (tex h.2 t 3) (tex h.2 t 4).toNat).toNat), (bgN h.1 h.2, mcC h.2 (tex h.2 t 0) r' (decide (0 < chg (h.2 (8 + tex h.2 t 0)) r' (tex h.2 t 1) (plc (tex h.2 t 2) (tex h.2 t 3) (tex h.2 t 4).toNat).toNat)))) := by
  obtain ⟨Z, et, e3, e4, e5, FB, eS⟩ := CTX.bg I ht
  have S := I.tx.st I.kl ht
  have jr := slt_rng h.2 (h.2 74 3)
  have RB := (I.rn.bg (tex h.2 t 0)).1
  have sl := (I.rn.bg (tex h.2 t 0)).2
  have F1 : FX (stc (bgC h.2 (tex h.2 t 0)) (8 + tex h.2 t 0) r') := I.fx.bc S.1.1 S.1.2.2
  have R1 : RNG (bgN h.1 h.2) (stc (bgC h.2 (tex h.2 t 0)) (8 + tex h.2 t 0) r') := RB.fr (fun c k q => by rw [stc_o (by omega)])
  have e74 : ∀ k, stc (bgC h.2 (tex h.2 t 0)) (8 + tex h.2 t 0) r' 74 k = h.2 74 k := fun k => by rw [stc_o (by omega), bgC_o (by omega) (by omega) (by omega)]
  have es : ∀ k, slt (stc (bgC h.2 (tex h.2 t 0)) (8 + tex h.2 t 0) r') k = slt h.2 k := fun k => by unfold slt; rw [e74]
  have cb := c_begun (h := (bgN h.1 h.2, stc (bgC h.2 (tex h.2 t 0)) (8 + tex h.2 t 0) r')) F1 R1
  dsimp only at cb
  rw [e74, es] at cb
  have em : stm (stc (bgC h.2 (tex h.2 t 0)) (8 + tex h.2 t 0) r') 75 (slt h.2 (h.2 74 3)) (109 + slt h.2 (h.2 74 3)) = stc (bgC h.2 (tex h.2 t 0)) (8 + tex h.2 t 0) r' := by
    funext o k
    rw [stm_ap]
    split
    · next q => rw [q.1, q.2, stc_o (by omega), bgC_75, if_pos rfl]
    · rfl
  have en : max (bgN h.1 h.2) (110 + slt h.2 (h.2 74 3)) = bgN h.1 h.2 := by omega
  rw [em, en] at cb
  have cs := c_settle18 Z FB RB (j := slt h.2 (h.2 74 3)) jr.1 jr.2 (r0 := h.2 (8 + tex h.2 t 0)) (r := r') (fun p p0 p1 => bgC_r S.1.1 S.1.2.2 p0 p1) (plc (tex h.2 t 2) (tex h.2 t 3) (tex h.2 t 4).toNat).toNat 0 (by rw [et, et, et]; omega)
  simp only [et] at cs
  obtain ⟨⟨B, X, K, ht'⟩, et', e3', e4', e5', e0'⟩ := Z.r r'
  simp only [et] at B et'
  have RT := B.r
  have k0 := B.k0
  have k1 := B.k1
  have f0 := B.f0
  have f9 := I.tx.lv ht
  have fi := B.fi (l := 0) (by rw [et']; omega)
  have ef : fst' (stc (bgC h.2 (tex h.2 t 0)) (8 + tex h.2 t 0) r') t 0 = tex h.2 t 1 := by
    show tex (stc (bgC h.2 (tex h.2 t 0)) (8 + tex h.2 t 0) r') t 1 + 0 = _
    rw [et', Int.add_zero]
  rw [ef, show (((0 : Nat) : Int)) = 0 from rfl] at fi
  rw [show (((0 : Nat) : Int)) = 0 from rfl, Int.add_zero] at cs
  have c0 : chg (h.2 (8 + tex h.2 t 0)) r' (tex h.2 t 1) 0 = 0 := rfl
  rw [c0] at cs
  clear ef en em es
  rw [e_X11_settle]
  repeat first
    | (refine Eq.trans (if_pos ?_) ?_; · first | omega | (simp (disch := omega) only [F1.c1_6, cb, k0, k1, f0, Int.reduceLT, Int.reduceLE, Int.reduceEq, Int.reduceNe, Int.reduceNeg, Int.reduceAdd, Int.reduceSub, Int.reduceMul, Int.reduceGE, Int.reduceGT, Nat.reduceEqDiff, Nat.reduceAdd, and_true, true_and, and_self, not_true_eq_false, not_false_eq_true, ne_eq, and_false, false_and, or_false, or_true, false_or, true_or, vx_some, eq_self, ↓reduceIte, ite_t1, ite_t2, ite_t3, le_T, le_F, lt_T, lt_F, ge_T, ge_F, gt_T, gt_F, eq_T, eq_F, w32_i, kd_1, kd_2, kd_3, kd_4, kd_5, kd_6, kd_7, kd_14, kd_15, kd_16, kd_29, kd_34, kd_56, kd_74, kd_75, kd_76, kd_77, kd_78, kd_79, kd_80, kd_81, kd_82, kd_83, kd_84, kd_85, kd_86, kd_87, kd_88, kd_89, kd_90, kd_91, kd_92, kd_93, kd_94, kd_95, kd_96, kd_97, kd_98, kd_99, kd_100, kd_101, kd_102, kd_103, kd_104, kd_105, kd_106, kd_107, kd_108]; done))
    | (refine Eq.trans (if_neg ?_) ?_; · first | omega | (simp (disch := omega) only [F1.c1_6, cb, k0, k1, f0, Int.reduceLT, Int.reduceLE, Int.reduceEq, Int.reduceNe, Int.reduceNeg, Int.reduceAdd, Int.reduceSub, Int.reduceMul, Int.reduceGE, Int.reduceGT, Nat.reduceEqDiff, Nat.reduceAdd, and_true, true_and, and_self, not_true_eq_false, not_false_eq_true, ne_eq, and_false, false_and, or_false, or_true, false_or, true_or, vx_some, eq_self, ↓reduceIte, ite_t1, ite_t2, ite_t3, le_T, le_F, lt_T, lt_F, ge_T, ge_F, gt_T, gt_F, eq_T, eq_F, w32_i, kd_1, kd_2, kd_3, kd_4, kd_5, kd_6, kd_7, kd_14, kd_15, kd_16, kd_29, kd_34, kd_56, kd_74, kd_75, kd_76, kd_77, kd_78, kd_79, kd_80, kd_81, kd_82, kd_83, kd_84, kd_85, kd_86, kd_87, kd_88, kd_89, kd_90, kd_91, kd_92, kd_93, kd_94, kd_95, kd_96, kd_97, kd_98, kd_99, kd_100, kd_101, kd_102, kd_103, kd_104, kd_105, kd_106, kd_107, kd_108]; done))
    | (refine Eq.trans (bnd (r := ?_) ?_) ?_; rotate_left 1; (focus (simp (disch := omega) only [F1.c1_6, cb, k0, k1, f0, Int.reduceLT, Int.reduceLE, Int.reduceEq, Int.reduceNe, Int.reduceNeg, Int.reduceAdd, Int.reduceSub, Int.reduceMul, Int.reduceGE, Int.reduceGT, Nat.reduceEqDiff, Nat.reduceAdd, and_true, true_and, and_self, not_true_eq_false, not_false_eq_true, ne_eq, and_false, false_and, or_false, or_true, false_or, true_or, vx_some, eq_self, ↓reduceIte, ite_t1, ite_t2, ite_t3, le_T, le_F, lt_T, lt_F, ge_T, ge_F, gt_T, gt_F, eq_T, eq_F, w32_i, kd_1, kd_2, kd_3, kd_4, kd_5, kd_6, kd_7, kd_14, kd_15, kd_16, kd_29, kd_34, kd_56, kd_74, kd_75, kd_76, kd_77, kd_78, kd_79, kd_80, kd_81, kd_82, kd_83, kd_84, kd_85, kd_86, kd_87, kd_88, kd_89, kd_90, kd_91, kd_92, kd_93, kd_94, kd_95, kd_96, kd_97, kd_98, kd_99, kd_100, kd_101, kd_102, kd_103, kd_104, kd_105, kd_106, kd_107, kd_108]; exact rfl)); simp only [vx_some])
  rw [f0, fi, cs]
  unfold mcC
  by_cases z : 0 < chg (h.2 (8 + tex h.2 t 0)) r' (tex h.2 t 1) (plc (tex h.2 t 2) (tex h.2 t 3) (tex h.2 t 4).toNat).toNat
  · rw [if_pos z, if_pos (decide_eq_true z)]
  · rw [if_neg z, if_neg (by rw [decide_eq_false z]; decide)]
/-- the model's memory in an act on a texture -/
theorem MTX.mc {i : Int} {h : Hq} (I : INV i h) {t : Int} (ht : isT h.2 t) (r' : Int → Int) (b : Bool) : MTX (mcC h.2 (tex h.2 t 0) r' b) t ∧ (∀ w, tex (mcC h.2 (tex h.2 t 0) r' b) t w = tex h.2 t w) ∧ mcC h.2 (tex h.2 t 0) r' b 93 = h.2 93 ∧ mcC h.2 (tex h.2 t 0) r' b 94 = h.2 94 ∧ mcC h.2 (tex h.2 t 0) r' b 95 = h.2 95 ∧ mcC h.2 (tex h.2 t 0) r' b 97 = h.2 97 ∧ mcC h.2 (tex h.2 t 0) r' b 98 = h.2 98 ∧ mcC h.2 (tex h.2 t 0) r' b 90 = h.2 90 ∧ mcC h.2 (tex h.2 t 0) r' b 88 26 = h.2 74 3 := by
  have S := I.tx.st I.kl ht
  have o : ∀ c, 77 ≤ c → c < 109 → mcC h.2 (tex h.2 t 0) r' b c = h.2 c := fun c h0 h1 => mcC_f S.1.1 S.1.2.2 (by omega) (by omega) h1
  have e0 := o 90 (by omega) (by omega)
  have e3 := o 93 (by omega) (by omega)
  have e4 := o 94 (by omega) (by omega)
  have e5 := o 95 (by omega) (by omega)
  refine ⟨⟨I.fx.mc S.1.1 S.1.2.2, I.tx.g e0 e3 e4 e5, I.kl.g e0 e3 e4, ?_, ?_⟩, tex_g e5 t, e3, e4, e5, o 97 (by omega) (by omega), o 98 (by omega) (by omega), e0, ?_⟩
  · unfold isT
    rw [e0]
    exact ht
  · rw [o 88 (by omega) (by omega)]
    exact I.ou.1
  · rw [o 88 (by omega) (by omega)]
    exact I.ac.1
