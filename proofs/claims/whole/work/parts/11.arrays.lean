/-! THE SIMULATION'S ROWS: arrays -/
section SIMA
variable {xv : Int → Value} {mE : Mm} {D : va_G} {ca : Nat → ClassId}
theorem kdx_big {n : Nat} (hn : ¬ n < 9) : kdx n = (99, 0) := by
  have f : ∀ k, k < 9 → Nat.beq n k = false := fun k hk => by
    cases hb : Nat.beq n k with
    | false => rfl
    | true => exact absurd (Nat.eq_of_beq_eq_true hb) (by omega)
  have g : Nat.ble n 4 = false := by
    cases hb : Nat.ble n 4 with
    | false => rfl
    | true => exact absurd (Nat.le_of_ble_eq_true hb) (by omega)
  unfold kdx
  rw [f 0 (by omega), f 1 (by omega), g, f 5 (by omega), f 6 (by omega), f 7 (by omega)]
  rfl
theorem kd_neg {a : Int} (h : a ≤ 0) : (20 ≤ (kd a).1 ∧ (kd a).1 ≤ 25 → (a = -2 ∧ kd a = (20, 8)) ∨ ∃ i : Nat, i < 3 ∧ a = -6 - i ∧ (kd a).1 = 21) := by
  cases a with
  | ofNat n =>
    cases n with
    | zero => intro q; exact absurd q (by decide)
    | succ n => exact absurd h (by have : (0 : Int) < Int.ofNat (n + 1) := Int.natCast_pos.mpr (Nat.succ_pos n); omega)
  | negSucc n =>
    intro q
    by_cases hn : n < 9
    · have : n = 0 ∨ n = 1 ∨ n = 2 ∨ n = 3 ∨ n = 4 ∨ n = 5 ∨ n = 6 ∨ n = 7 ∨ n = 8 := by omega
      rcases this with rfl | rfl | rfl | rfl | rfl | rfl | rfl | rfl | rfl
      · exact absurd q (by decide)
      · exact Or.inl ⟨rfl, rfl⟩
      · exact absurd q (by decide)
      · exact absurd q (by decide)
      · exact absurd q (by decide)
      · exact Or.inr ⟨0, by decide, rfl, rfl⟩
      · exact Or.inr ⟨1, by decide, rfl, rfl⟩
      · exact Or.inr ⟨2, by decide, rfl, rfl⟩
      · exact absurd q (by decide)
    · have e : kd (Int.negSucc n) = (99, 0) := kdx_big hn
      rw [e] at q
      exact absurd q (by decide)
theorem ofInt_nat (n : Nat) : Int32.ofInt (n : Int) = Int32.ofNat n := by
  apply Int32.toInt_inj.mp
  rw [Int32.toInt_ofInt, Int32.toInt_ofNat']
theorem EA.cell {o : Int} {ty : FieldType} {N : Nat} {A : Nat → Prop} {s : State} {H : Heap} {locs : List Loc} (h : EA xv mE o ty N A s s.heap) (hS : va_S A s.heap H locs) : ∃ (t : Nat) (cell : Cell), xv o = .ref t ∧ H[t]? = some cell ∧ s.isArrayOf cell ty ∧ cell.vm ≠ .unknown ∧ N ≤ cell.slots.size ∧ cell.slots.size.toInt32 = Int32.ofNat N ∧ (∀ j : Nat, j < N → cell.slots[j]? = some (.int (Int32.ofInt (mE o j)))) ∧ ∀ j : Nat, j < N → -2147483648 ≤ mE o j ∧ mE o j < 2147483648 := by
  obtain ⟨t, e, hT, hr⟩ := h
  obtain ⟨cell, h1, h2, h3, h4, h5, h6, h7⟩ := hT.kept hS.2.1
  exact ⟨t, cell, e, h1, h2, h3, h4, h5, h6, hr⟩
theorem cvv_neg {ad : Int → Nat} {x : Int} (h : x < 0) : cvv ad xv (2, x) = xv x := by
  show (if 0 < x then Value.ref (ad x) else if x = 0 then .null else xv x) = _
  rw [if_neg (by omega), if_neg (by omega)]
theorem WD.ext {A : Nat → Prop} {s : State} {n0 : Int} {ad0 : Int → Nat} {h : Hq} {ad : Int → Nat} {H : Heap} {locs : List Loc} (w : WD xv mE D ca A s n0 ad0 h ad H locs) {a i : Int} (ha : a < 0) : h.2 a i = mE a i := w.2.2.2.2.1 a i ha
/-- reading a place of an array that is not ours -/
theorem ext_ix {t : Nat} {cell : Cell} {N : Nat} {i : Int} {H : Heap} (h4 : N ≤ cell.slots.size) (h0 : 0 ≤ i) (h1 : i < N) (hN : (N : Int) < 2147483648) : ¬ (Int32.ofInt i < 0 ∨ cell.slots.size ≤ (Int32.ofInt i).toNatClampNeg) := by
  obtain ⟨e, hin⟩ := ix32 h0 h1 hN
  rw [e]
  rintro (q | q)
  · exact hin (Or.inl q)
  · omega
theorem z_iald {M pc : Nat} {ls r : List Vl} {h : Hq} {v : Option Vl} {h' : Hq} {i a : Int} (hd : decode (Bt M) pc = .ok (.iaload, 1)) (hg : (kd a).1 = 20 ∧ 0 ≤ i ∧ i < (kd a).2) (k : SM xv mE D ca M (pc + 1) ls ((0, h.2 a i) :: r) h v h') : SM xv mE D ca M pc ls ((0, i) :: (2, a) :: r) h v h' := k.rd fun p l e R s m args below meth c A Q n0 ad0 ad H locs lsR cells slots B w o1 o2 lv K => by
  obtain ⟨hk, h0, h1⟩ := hg
  have hl := kd_len a
  by_cases ha : 0 < a
  · have hlt : a < h.1 := o1.tail.head.q.2
    have ok := w.ok ha hlt (k := i.toNat) (by omega)
    rw [Int.toNat_of_nonneg h0] at ok
    unfold ktg at ok
    rw [if_neg (by omega), if_pos (by omega)] at ok
    have kk := K lsR (o1.tail.tail.cons ok) o2 lv
    obtain ⟨ei, hin⟩ := ix32 h0 h1 (by omega)
    rw [List.map_cons, List.map_cons, cvv_ref ha]
    have he := w.at ha hlt
    rw [ent_i (by omega) (by omega), hk] at he
    refine va_iald B.1 B.2.1 B.kn w.1 (a - 1).toNat 0 he rfl hin hd ?_
    rw [ei, Int.toNat_of_nonneg h0]
    exact kk
  · rcases kd_neg (by omega : a ≤ 0) ⟨by omega, by omega⟩ with ⟨rfl, e8⟩ | ⟨j, -, -, e⟩
    · rw [e8] at h1
      obtain ⟨t, cell, e1, c1, c2, c3, c4, c5, c6, c7⟩ := EA.cell B.ex.2.2.1 w.2.2.1
      have e2 := w.ext (a := -2) (i := i) (by decide)
      have hr := c7 i.toNat (by omega)
      have hs := c6 i.toNat (by omega)
      rw [Int.toNat_of_nonneg h0] at hr hs
      have kk := K lsR (o1.tail.tail.cons (okv0 (show _ ≤ h.2 (-2) i ∧ h.2 (-2) i < _ by rw [e2]; exact hr))) o2 lv
      rw [List.map_cons, List.map_cons, cvv_neg (by decide), e1]
      obtain ⟨ei, -⟩ := ix32 h0 (show i < ((8 : Nat) : Int) from h1) (by decide)
      refine W.iald (v := .int (Int32.ofInt (h.2 (-2) i))) B.1 B.2.1 c1 c2 c3 (ext_ix (t := t) (H := H) c4 h0 h1 (by decide)) ?_ rfl rfl hd kk
      rw [ei, hs, e2]
    · omega
theorem z_iald1 {M pc : Nat} {ls r : List Vl} {h : Hq} {v : Option Vl} {h' : Hq} {i a : Int} (hd : decode (Bt M) pc = .ok (.iaload, 1)) (hg : a = -1 ∧ 0 ≤ i ∧ i < h.2 (-1) (-1)) (k : SM xv mE D ca M (pc + 1) ls ((0, h.2 a i) :: r) h v h') : SM xv mE D ca M pc ls ((0, i) :: (2, a) :: r) h v h' := k.rd fun p l e R s m args below meth c A Q n0 ad0 ad H locs lsR cells slots B w o1 o2 lv K => by
  obtain ⟨rfl, h0, h1⟩ := hg
  rw [w.ext (by decide)] at h1
  obtain ⟨L0, L1⟩ := B.ex.1
  obtain ⟨t, cell, e1, c1, c2, c3, c4, c5, c6, c7⟩ := EA.cell B.ex.2.1 w.2.2.1
  have e2 := w.ext (a := -1) (i := i) (by decide)
  have hr := c7 i.toNat (by omega)
  have hs := c6 i.toNat (by omega)
  rw [Int.toNat_of_nonneg h0] at hr hs
  have kk := K lsR (o1.tail.tail.cons (okv0 (show _ ≤ h.2 (-1) i ∧ h.2 (-1) i < _ by rw [e2]; exact hr))) o2 lv
  rw [List.map_cons, List.map_cons, cvv_neg (by decide), e1]
  have hN : ((mE (-1) (-1)).toNat : Int) = mE (-1) (-1) := Int.toNat_of_nonneg L0
  obtain ⟨ei, -⟩ := ix32 h0 (show i < (((mE (-1) (-1)).toNat : Nat) : Int) by omega) (by omega)
  refine W.iald (v := .int (Int32.ofInt (h.2 (-1) i))) B.1 B.2.1 c1 c2 c3 (ext_ix (t := t) (H := H) c4 h0 (by omega) (by omega)) ?_ rfl rfl hd kk
  rw [ei, hs, e2]
theorem z_bald {M pc cc : Nat} {ls r : List Vl} {h : Hq} {v : Option Vl} {h' : Hq} {i a : Int} (hd : decode (Bt M) pc = .ok (.baload, 1)) (hcc : cc = 21 ∨ cc = 22) (hg : (kd a).1 = cc ∧ 0 ≤ i ∧ i < (kd a).2) (k : SM xv mE D ca M (pc + 1) ls ((0, h.2 a i) :: r) h v h') : SM xv mE D ca M pc ls ((0, i) :: (2, a) :: r) h v h' := k.rd fun p l e R s m args below meth c A Q n0 ad0 ad H locs lsR cells slots B w o1 o2 lv K => by
  obtain ⟨hk, h0, h1⟩ := hg
  have hl := kd_len a
  by_cases ha : 0 < a
  · have hlt : a < h.1 := o1.tail.head.q.2
    have ok := w.ok ha hlt (k := i.toNat) (by omega)
    rw [Int.toNat_of_nonneg h0] at ok
    unfold ktg at ok
    rw [if_neg (by omega), if_pos (by omega)] at ok
    have kk := K lsR (o1.tail.tail.cons ok) o2 lv
    obtain ⟨ei, hin⟩ := ix32 h0 h1 (by omega)
    rw [List.map_cons, List.map_cons, cvv_ref ha]
    have he := w.at ha hlt
    rw [ent_i (by omega) (by omega), hk] at he
    rcases hcc with rfl | rfl
    · refine va_bald B.1 B.2.1 B.kn w.1 (a - 1).toNat 1 he rfl hin hd ?_
      rw [ei, Int.toNat_of_nonneg h0]
      exact kk
    · refine va_zald B.1 B.2.1 B.kn w.1 (a - 1).toNat 2 he rfl hin hd ?_
      rw [ei, Int.toNat_of_nonneg h0]
      exact kk
  · rcases kd_neg (by omega : a ≤ 0) ⟨by omega, by omega⟩ with ⟨rfl, e8⟩ | ⟨j, hj, rfl, e⟩
    · rw [e8] at hk; omega
    · have hN : (((kd (-6 - (j : Int))).2.toNat : Nat) : Int) = (kd (-6 - (j : Int))).2 := Int.toNat_of_nonneg hl.1
      obtain ⟨t, cell, e1, c1, c2, c3, c4, c5, c6, c7⟩ := EA.cell (B.ex.2.2.2.1 j hj).1 w.2.2.1
      have e2 := w.ext (a := -6 - (j : Int)) (i := i) (by omega)
      have hr := c7 i.toNat (by omega)
      have hs := c6 i.toNat (by omega)
      rw [Int.toNat_of_nonneg h0] at hr hs
      have kk := K lsR (o1.tail.tail.cons (okv0 (show _ ≤ h.2 (-6 - (j : Int)) i ∧ h.2 (-6 - (j : Int)) i < _ by rw [e2]; exact hr))) o2 lv
      rw [List.map_cons, List.map_cons, cvv_neg (by omega), e1]
      obtain ⟨ei, -⟩ := ix32 h0 (show i < (((kd (-6 - (j : Int))).2.toNat : Nat) : Int) by omega) (by omega)
      refine W.bald (v := .int (Int32.ofInt (h.2 (-6 - (j : Int)) i))) B.1 B.2.1 c1 c2 c3 (ext_ix (t := t) (H := H) c4 h0 (by omega) (by omega)) ?_ rfl rfl hd kk
      rw [ei, hs, e2]
theorem z_lald {M pc : Nat} {ls r : List Vl} {h : Hq} {v : Option Vl} {h' : Hq} {i a : Int} (hd : decode (Bt M) pc = .ok (.laload, 1)) (hg : (kd a).1 = 23 ∧ 0 ≤ i ∧ i < (kd a).2) (k : SM xv mE D ca M (pc + 1) ls ((1, h.2 a i) :: r) h v h') : SM xv mE D ca M pc ls ((0, i) :: (2, a) :: r) h v h' := k.rd fun p l e R s m args below meth c A Q n0 ad0 ad H locs lsR cells slots B w o1 o2 lv K => by
  obtain ⟨hk, h0, h1⟩ := hg
  have hl := kd_len a
  by_cases ha : 0 < a
  · have hlt : a < h.1 := o1.tail.head.q.2
    have ok := w.ok ha hlt (k := i.toNat) (by omega)
    rw [Int.toNat_of_nonneg h0] at ok
    unfold ktg at ok
    rw [if_neg (by omega), if_neg (by omega), if_pos hk] at ok
    have kk := K lsR (o1.tail.tail.cons ok) o2 lv
    obtain ⟨ei, hin⟩ := ix32 h0 h1 (by omega)
    rw [List.map_cons, List.map_cons, cvv_ref ha]
    have he := w.at ha hlt
    rw [ent_l hk] at he
    refine va_lald B.1 B.2.1 B.kn w.1 (a - 1).toNat 3 he rfl hin hd ?_
    rw [ei, Int.toNat_of_nonneg h0]
    exact kk
  · rcases kd_neg (by omega : a ≤ 0) ⟨by omega, by omega⟩ with ⟨rfl, e8⟩ | ⟨j, hj, rfl, e⟩
    · rw [e8] at hk; omega
    · omega
theorem z_aald {M pc cc : Nat} {ls r : List Vl} {h : Hq} {v : Option Vl} {h' : Hq} {i a : Int} (hd : decode (Bt M) pc = .ok (.aaload, 1)) (hcc : cc = 24 ∨ cc = 25) (hg : (kd a).1 = cc ∧ 0 ≤ i ∧ i < (kd a).2) (k : SM xv mE D ca M (pc + 1) ls ((2, h.2 a i) :: r) h v h') : SM xv mE D ca M pc ls ((0, i) :: (2, a) :: r) h v h' := k.rd fun p l e R s m args below meth c A Q n0 ad0 ad H locs lsR cells slots B w o1 o2 lv K => by
  obtain ⟨hk, h0, h1⟩ := hg
  have hl := kd_len a
  by_cases ha : 0 < a
  · have hlt : a < h.1 := o1.tail.head.q.2
    have okw := w.2.2.2.1.2.2 a ha hlt i.toNat (by omega)
    rw [Int.toNat_of_nonneg h0] at okw
    obtain ⟨ok, hnn⟩ := okw
    have hnn := hnn (by omega)
    unfold ktg at ok
    rw [if_neg (by omega), if_neg (by omega), if_neg (by omega)] at ok
    have kk := K lsR (o1.tail.tail.cons ok) o2 lv
    obtain ⟨ei, hin⟩ := ix32 h0 h1 (by omega)
    rw [List.map_cons, List.map_cons, cvv_ref ha]
    have he := w.at ha hlt
    rw [ent_q (by omega), hk] at he
    have ev : va_rf (if 0 < h.2 a i then some (ad (h.2 a i)) else none) = cvv ad xv (2, h.2 a i) := by
      by_cases q : 0 < h.2 a i
      · rw [if_pos q, cvv_ref q]; rfl
      · have q0 : h.2 a i = 0 := by omega
        rw [if_neg q, q0]; rfl
    rcases hcc with rfl | rfl
    · have hlt2 : i.toNat < (kd a).2.toNat := by omega
      refine W.aald (v := cvv ad xv (2, h.2 a i)) (ty := .array .int) B.1 B.2.1 (w.1 _ _ he) ((B.kn.2 4 _ rfl).1 (kd a).2.toNat (fun j => va_rf (if 0 < h.2 a j then some (ad (h.2 a j)) else none))) rfl (fun q => by cases q) (by show ¬ (Int32.ofInt i < 0 ∨ (arrV _ _ _).slots.size ≤ _); rw [arrV_size]; exact hin) ?_ rfl rfl hd kk
      show (arrV _ _ _).slots[_]? = _
      rw [ei, arrV_read _ _ hlt2]
      show some (va_rf (if 0 < h.2 a ((i.toNat : Nat) : Int) then some (ad (h.2 a ((i.toNat : Nat) : Int))) else none)) = _
      rw [Int.toNat_of_nonneg h0, ev]
    · refine va_aldq (C := "TexelBank$Texture") B.1 B.2.1 B.kn w.1 (a - 1).toNat 5 he rfl hin hd ?_
      rw [ei, Int.toNat_of_nonneg h0, ev]
      exact kk
  · rcases kd_neg (by omega : a ≤ 0) ⟨by omega, by omega⟩ with ⟨rfl, e8⟩ | ⟨j, hj, rfl, e⟩
    · rw [e8] at hk; omega
    · omega
theorem z_alen {M pc : Nat} {ls r : List Vl} {h : Hq} {v : Option Vl} {h' : Hq} {a : Int} (hd : decode (Bt M) pc = .ok (.arraylength, 1)) (hg : 20 ≤ (kd a).1 ∧ (kd a).1 ≤ 25) (k : SM xv mE D ca M (pc + 1) ls ((0, (kd a).2) :: r) h v h') : SM xv mE D ca M pc ls ((2, a) :: r) h v h' := k.rd fun p l e R s m args below meth c A Q n0 ad0 ad H locs lsR cells slots B w o1 o2 lv K => by
  have hl := kd_len a
  have kk := K lsR (o1.tail.cons (okv0 (show _ ≤ (kd a).2 ∧ (kd a).2 < _ by omega))) o2 lv
  have en : Int32.ofNat (kd a).2.toNat = Int32.ofInt (kd a).2 := by rw [← ofInt_nat, Int.toNat_of_nonneg hl.1]
  by_cases ha : 0 < a
  · have hlt : a < h.1 := o1.head.q.2
    have he := w.at ha hlt
    rw [List.map_cons, cvv_ref ha]
    have hq : (kd a).1 = 20 ∨ (kd a).1 = 21 ∨ (kd a).1 = 22 ∨ (kd a).1 = 23 ∨ (kd a).1 = 24 ∨ (kd a).1 = 25 := by omega
    rcases hq with q | q | q | q | q | q
    · rw [ent_i (by omega) (by omega), q] at he; exact va_alen B.1 B.2.1 B.kn w.1 (a - 1).toNat 0 he rfl en hd kk
    · rw [ent_i (by omega) (by omega), q] at he; exact va_alen B.1 B.2.1 B.kn w.1 (a - 1).toNat 1 he rfl en hd kk
    · rw [ent_i (by omega) (by omega), q] at he; exact va_alen B.1 B.2.1 B.kn w.1 (a - 1).toNat 2 he rfl en hd kk
    · rw [ent_l q] at he; exact va_alen B.1 B.2.1 B.kn w.1 (a - 1).toNat 3 he rfl en hd kk
    · rw [ent_q (by omega), q] at he; exact va_alen B.1 B.2.1 B.kn w.1 (a - 1).toNat 4 he rfl en hd kk
    · rw [ent_q (by omega), q] at he; exact va_alen B.1 B.2.1 B.kn w.1 (a - 1).toNat 5 he rfl en hd kk
  · rcases kd_neg (by omega : a ≤ 0) hg with ⟨rfl, e8⟩ | ⟨j, hj, rfl, e⟩
    · obtain ⟨t, cell, e1, c1, c2, c3, c4, c5, c6, c7⟩ := EA.cell B.ex.2.2.1 w.2.2.1
      rw [List.map_cons, cvv_neg (by decide), e1]
      refine W.alen (n := Int32.ofInt (kd (-2)).2) B.1 B.2.1 c1 c2 (c5.trans ?_) rfl rfl hd kk
      rw [← en, e8]
      rfl
    · obtain ⟨t, cell, e1, c1, c2, c3, c4, c5, c6, c7⟩ := EA.cell (B.ex.2.2.2.1 j hj).1 w.2.2.1
      rw [List.map_cons, cvv_neg (by omega), e1]
      exact W.alen (n := Int32.ofInt (kd (-6 - (j : Int))).2) B.1 B.2.1 c1 c2 (c5.trans en) rfl rfl hd kk
theorem z_alen1 {M pc : Nat} {ls r : List Vl} {h : Hq} {v : Option Vl} {h' : Hq} {a : Int} (hd : decode (Bt M) pc = .ok (.arraylength, 1)) (hg : a = -1) (k : SM xv mE D ca M (pc + 1) ls ((0, h.2 (-1) (-1)) :: r) h v h') : SM xv mE D ca M pc ls ((2, a) :: r) h v h' := k.rd fun p l e R s m args below meth c A Q n0 ad0 ad H locs lsR cells slots B w o1 o2 lv K => by
  subst hg
  obtain ⟨L0, L1⟩ := B.ex.1
  have e0 := w.ext (a := -1) (i := -1) (by decide)
  have kk := K lsR (o1.tail.cons (okv0 (show _ ≤ h.2 (-1) (-1) ∧ h.2 (-1) (-1) < _ by rw [e0]; exact ⟨by omega, by omega⟩))) o2 lv
  obtain ⟨t, cell, e1, c1, c2, c3, c4, c5, c6, c7⟩ := EA.cell B.ex.2.1 w.2.2.1
  rw [List.map_cons, cvv_neg (by decide), e1]
  refine W.alen (n := Int32.ofInt (h.2 (-1) (-1))) B.1 B.2.1 c1 c2 (c5.trans ?_) rfl rfl hd kk
  rw [← ofInt_nat, Int.toNat_of_nonneg L0, e0]
theorem ent_sti {ad : Int → Nat} {m : Mm} {o i x : Int} (h : 20 ≤ (kd o).1) (h2 : (kd o).1 < 23) (h0 : 0 ≤ i) : ent ca ad xv (stm m o i x) o = .inl (ca (kd o).1, (kd o).2.toNat, .inl (upd (fun j : Nat => Int32.ofInt (m o j)) i.toNat (Int32.ofInt x))) := by
  rw [ent_i h h2]
  congr 4
  funext j
  show Int32.ofInt (if o = o ∧ (j : Int) = i then x else m o j) = if j = i.toNat then _ else _
  by_cases e : j = i.toNat
  · rw [if_pos e, if_pos (show o = o ∧ (j : Int) = i from ⟨rfl, by omega⟩)]
  · rw [if_neg e, if_neg (show ¬ (o = o ∧ (j : Int) = i) from fun q => e (by omega))]
theorem ent_stl {ad : Int → Nat} {m : Mm} {o i x : Int} (h : (kd o).1 = 23) (h0 : 0 ≤ i) : ent ca ad xv (stm m o i x) o = .inl (ca 23, (kd o).2.toNat, .inr (.inl (vp_updL (fun j : Nat => Int64.ofInt (m o j)) i.toNat (Int64.ofInt x)))) := by
  rw [ent_l h]
  congr 5
  funext j
  show Int64.ofInt (if o = o ∧ (j : Int) = i then x else m o j) = if j = i.toNat then _ else _
  by_cases e : j = i.toNat
  · rw [if_pos e, if_pos (show o = o ∧ (j : Int) = i from ⟨rfl, by omega⟩)]
  · rw [if_neg e, if_neg (show ¬ (o = o ∧ (j : Int) = i) from fun q => e (by omega))]
theorem ent_stq {ad : Int → Nat} {m : Mm} {o i x : Int} (h : 24 ≤ (kd o).1) (h0 : 0 ≤ i) (hx : 0 < x) : ent ca ad xv (stm m o i x) o = .inl (ca (kd o).1, (kd o).2.toNat, .inr (.inr (.inr (.inr (va_up (fun j : Nat => if 0 < m o j then some (ad (m o j)) else none) i.toNat (some (ad x))))))) := by
  rw [ent_q h]
  congr 7
  funext j
  show (if 0 < (if o = o ∧ (j : Int) = i then x else m o j) then some (ad (if o = o ∧ (j : Int) = i then x else m o j)) else none) = if j = i.toNat then _ else _
  by_cases e : j = i.toNat
  · rw [if_pos e, if_pos (show o = o ∧ (j : Int) = i from ⟨rfl, by omega⟩), if_pos hx]
  · rw [if_neg e, if_neg (show ¬ (o = o ∧ (j : Int) = i) from fun q => e (by omega))]
theorem z_iast {M pc : Nat} {ls r : List Vl} {h : Hq} {v : Option Vl} {h' : Hq} {x i a : Int} (hd : decode (Bt M) pc = .ok (.iastore, 1)) (hg : 0 < a ∧ (kd a).1 = 20 ∧ 0 ≤ i ∧ i < (kd a).2) (k : SM xv mE D ca M (pc + 1) ls r (h.1, stm h.2 a i x) v h') : SM xv mE D ca M pc ls ((0, x) :: (0, i) :: (2, a) :: r) h v h' := k.wr fun p l e R s m args below meth c A Q n0 ad0 ad H locs lsR cells slots B w o1 o2 lv K => by
  obtain ⟨ha, hk, h0, h1⟩ := hg
  have hl := kd_len a
  have hlt : a < h.1 := o1.tail.tail.head.q.2
  obtain ⟨ei, hin⟩ := ix32 h0 h1 (by omega)
  rw [List.map_cons, List.map_cons, List.map_cons, cvv_ref ha]
  have he := w.at ha hlt
  rw [ent_i (by omega) (by omega), hk] at he
  have hf : WF (h.1, stm h.2 a i x) := wf_st w.2.2.2.1 ha hlt (fun k' _ _ => by
    unfold ktg
    rw [if_neg (by omega), if_pos (by omega)]
    exact ⟨o1.head, fun q => by omega⟩)
  refine va_iast B.1 B.2.1 B.kn w.1 w.2.1 w.2.2.1 (a - 1).toNat 0 he rfl hin hd fun H1 locs1 hP hD hS => ?_
  rw [ei] at hP hD
  exact K H1 locs1 o1.tail.tail.tail (w.set ha hlt (fun q => by omega) (by rw [ent_sti (by omega) (by omega) h0, hk]) hf hP hD hS)
theorem z_last {M pc : Nat} {ls r : List Vl} {h : Hq} {v : Option Vl} {h' : Hq} {x i a : Int} (hd : decode (Bt M) pc = .ok (.lastore, 1)) (hg : 0 < a ∧ (kd a).1 = 23 ∧ 0 ≤ i ∧ i < (kd a).2) (k : SM xv mE D ca M (pc + 1) ls r (h.1, stm h.2 a i x) v h') : SM xv mE D ca M pc ls ((1, x) :: (0, i) :: (2, a) :: r) h v h' := k.wr fun p l e R s m args below meth c A Q n0 ad0 ad H locs lsR cells slots B w o1 o2 lv K => by
  obtain ⟨ha, hk, h0, h1⟩ := hg
  have hl := kd_len a
  have hlt : a < h.1 := o1.tail.tail.head.q.2
  obtain ⟨ei, hin⟩ := ix32 h0 h1 (by omega)
  rw [List.map_cons, List.map_cons, List.map_cons, cvv_ref ha]
  have he := w.at ha hlt
  rw [ent_l hk] at he
  have hf : WF (h.1, stm h.2 a i x) := wf_st w.2.2.2.1 ha hlt (fun k' _ _ => by
    unfold ktg
    rw [if_neg (by omega), if_neg (by omega), if_pos hk]
    exact ⟨o1.head, fun q => by omega⟩)
  refine va_last B.1 B.2.1 B.kn w.1 w.2.1 w.2.2.1 (a - 1).toNat 3 he rfl hin hd fun H1 locs1 hP hD hS => ?_
  rw [ei] at hP hD
  exact K H1 locs1 o1.tail.tail.tail (w.set ha hlt (fun q => by omega) (by rw [ent_stl hk h0]) hf hP hD hS)
theorem and_one (x : Int) : Int32.ofInt x &&& 1 = Int32.ofInt (x % 2) := by
  apply Int32.toBitVec_inj.mp
  apply BitVec.eq_of_toNat_eq
  show (BitVec.ofInt 32 x &&& 1#32).toNat = (BitVec.ofInt 32 (x % 2)).toNat
  rw [BitVec.toNat_and, BitVec.toNat_ofInt, BitVec.toNat_ofInt]
  show (x % 4294967296).toNat &&& 1 = (x % 2 % 4294967296).toNat
  rw [Nat.and_one_is_mod]
  omega
theorem z_bast {M pc cc : Nat} {ls r : List Vl} {h : Hq} {v : Option Vl} {h' : Hq} {x i a : Int} (hd : decode (Bt M) pc = .ok (.bastore, 1)) (hcc : cc = 21 ∨ cc = 22) (hg : 0 < a ∧ (kd a).1 = cc ∧ 0 ≤ i ∧ i < (kd a).2) (k : SM xv mE D ca M (pc + 1) ls r (h.1, stm h.2 a i (if cc = 21 then w8 x else x % 2)) v h') : SM xv mE D ca M pc ls ((0, x) :: (0, i) :: (2, a) :: r) h v h' := k.wr fun p l e R s m args below meth c A Q n0 ad0 ad H locs lsR cells slots B w o1 o2 lv K => by
  obtain ⟨ha, hk, h0, h1⟩ := hg
  have hl := kd_len a
  have hlt : a < h.1 := o1.tail.tail.head.q.2
  obtain ⟨ei, hin⟩ := ix32 h0 h1 (by omega)
  rw [List.map_cons, List.map_cons, List.map_cons, cvv_ref ha]
  have he := w.at ha hlt
  rw [ent_i (by omega) (by omega), hk] at he
  have hf : WF (h.1, stm h.2 a i (if cc = 21 then w8 x else x % 2)) := wf_st w.2.2.2.1 ha hlt (fun k' _ _ => by
    unfold ktg
    rw [if_neg (by omega), if_pos (by omega)]
    exact ⟨okv0 (by split; unfold w8; omega; omega), fun q => by omega⟩)
  have hxr := o1.head.i
  rcases hcc with rfl | rfl
  · refine va_bast B.1 B.2.1 B.kn w.1 w.2.1 w.2.2.1 (a - 1).toNat 1 he rfl hin hd fun H1 locs1 hP hD hS => ?_
    have ev : vp_nar .byte (Int32.ofInt x) = Int32.ofInt (w8 x) := by rw [vp_nar_byte]; exact c_i2b hxr
    rw [ei] at hP hD
    have hP : va_P D classes ((wsO ca ad xv h).set (a - 1).toNat (ad a, .inl (ca 21, (kd a).2.toNat, .inl (upd (fun j : Nat => Int32.ofInt (h.2 a j)) i.toNat (vp_nar .byte (Int32.ofInt x)))))) H1 := hP
    have hD : va_D A ((wsO ca ad xv h).set (a - 1).toNat (ad a, .inl (ca 21, (kd a).2.toNat, .inl (upd (fun j : Nat => Int32.ofInt (h.2 a j)) i.toNat (vp_nar .byte (Int32.ofInt x)))))) := hD
    rw [ev] at hP hD
    exact K H1 locs1 o1.tail.tail.tail (w.set ha hlt (fun q => by omega) (by rw [ent_sti (by omega) (by omega) h0, hk, if_pos rfl]) hf hP hD hS)
  · refine va_zast B.1 B.2.1 B.kn w.1 w.2.1 w.2.2.1 (a - 1).toNat 2 he rfl hin hd fun H1 locs1 hP hD hS => ?_
    have ev : vp_nar .boolean (Int32.ofInt x) = Int32.ofInt (x % 2) := and_one x
    rw [ei] at hP hD
    have hP : va_P D classes ((wsO ca ad xv h).set (a - 1).toNat (ad a, .inl (ca 22, (kd a).2.toNat, .inl (upd (fun j : Nat => Int32.ofInt (h.2 a j)) i.toNat (vp_nar .boolean (Int32.ofInt x)))))) H1 := hP
    have hD : va_D A ((wsO ca ad xv h).set (a - 1).toNat (ad a, .inl (ca 22, (kd a).2.toNat, .inl (upd (fun j : Nat => Int32.ofInt (h.2 a j)) i.toNat (vp_nar .boolean (Int32.ofInt x)))))) := hD
    rw [ev] at hP hD
    exact K H1 locs1 o1.tail.tail.tail (w.set ha hlt (fun q => by omega) (by rw [ent_sti (by omega) (by omega) h0, hk, if_neg (by decide)]) hf hP hD hS)
theorem z_aast {M pc cc : Nat} {ls r : List Vl} {h : Hq} {v : Option Vl} {h' : Hq} {x i a : Int} (hd : decode (Bt M) pc = .ok (.aastore, 1)) (hcc : cc = 24 ∨ cc = 25) (hg : 0 < a ∧ (kd a).1 = cc ∧ (0 ≤ i ∧ i < (kd a).2) ∧ 0 < x ∧ (kd x).1 = (if cc = 24 then 20 else 10)) (k : SM xv mE D ca M (pc + 1) ls r (h.1, stm h.2 a i x) v h') : SM xv mE D ca M pc ls ((2, x) :: (0, i) :: (2, a) :: r) h v h' := k.wr fun p l e R s m args below meth c A Q n0 ad0 ad H locs lsR cells slots B w o1 o2 lv K => by
  obtain ⟨ha, hk, ⟨h0, h1⟩, hx0, hkx⟩ := hg
  have hl := kd_len a
  have hlt : a < h.1 := o1.tail.tail.head.q.2
  have hltx : x < h.1 := o1.head.q.2
  obtain ⟨ei, hin⟩ := ix32 h0 h1 (by omega)
  rw [List.map_cons, List.map_cons, List.map_cons, cvv_ref ha, cvv_ref hx0]
  have he := w.at ha hlt
  rw [ent_q (by omega), hk] at he
  have hex := w.at hx0 hltx
  have hf : WF (h.1, stm h.2 a i x) := wf_st w.2.2.2.1 ha hlt (fun k' _ _ => by
    unfold ktg
    rw [if_neg (by omega), if_neg (by omega), if_neg (by omega)]
    exact ⟨o1.head, fun q => by omega⟩)
  rcases hcc with rfl | rfl
  · rw [if_pos rfl] at hkx
    rw [ent_i (by omega) (by omega), hkx] at hex
    have hcellV := w.1 _ _ hex
    have hA4 := B.kn.2 4 _ rfl
    have hA0 := B.kn.2 0 _ rfl
    obtain ⟨q1, kA, k1, comp, k2⟩ := hA4.1 (kd a).2.toNat (fun j => va_rf (if 0 < h.2 a j then some (ad (h.2 a j)) else none))
    obtain ⟨q2, kV, k3, compV, k4⟩ := hA0.1 (kd x).2.toNat (fun j => .int (Int32.ofInt (h.2 x j)))
    obtain ⟨comp', c', k', g1, g2, g3, g4⟩ := Cond.arrayOver_specA B.ex.2.2.2.2.2.2.2.2.1.2
    have e1 : c' = ca 24 := Option.some.inj (g4.symm.trans hA4.2)
    subst e1
    have e2 : k' = kA := Option.some.inj (g2.symm.trans k1)
    subst e2
    have e3 : comp' = comp := by rw [g3] at k2; cases k2; rfl
    subst e3
    have e4 : comp' = ca 20 := Option.some.inj (g1.symm.trans hA0.2)
    have hlt2 : i.toNat < (kd a).2.toNat := by omega
    refine W.aast (cv := vp_cell (ca 20) ((kd x).2.toNat, .inl (fun j : Nat => Int32.ofInt (h.2 x j)))) (kv := kV) (kcomp := kV) B.1 B.2.1 (w.1 _ _ he) (fun q h => by cases h) (fun h => by cases h) k1 k2 rfl (by rw [e4]; exact k3) ⟨fun q => hin (Or.inl q), by show _ < (arrV _ _ _).slots.size; rw [arrV_size, ei]; exact hlt2⟩ hcellV (fun q h => by cases h) k3 ?_ rfl rfl hd fun H1 e z oq => ?_
    · show s.vm.assignable (ca 20) comp' = true
      rw [e4]
      exact va_asg _ _
    · have hP := w.1.set w.2.1 he (e := .inl (ca 24, (kd a).2.toNat, .inr (.inr (.inr (.inr (va_up (fun j : Nat => if 0 < h.2 a j then some (ad (h.2 a j)) else none) i.toNat (some (ad x)))))))) (H1 := H1) (by
        show H1[ad a]? = some (vp_cell _ _)
        rw [e, ei]
        rw [vp_cell_q, vp_cell_q, arrV_store]
        congr 2
        funext q
        by_cases hq : q = i.toNat
        · subst hq
          simp [updV, va_up, va_rf]
        · simp [updV, va_up, hq]) oq
      exact K H1 _ o1.tail.tail.tail (w.set ha hlt (fun _ => hltx) (by rw [ent_stq (by omega) h0 hx0, hk]) hf hP (w.2.1.set he) (w.2.2.1.put z oq (w.2.1.2 _ _ he)))
  · rw [if_neg (by decide)] at hkx
    rw [ent_obj (by omega), hkx] at hex
    refine va_astq (r := (RX10, TX10, 12)) B.1 B.2.1 B.kn w.1 w.2.1 w.2.2.1 (a - 1).toNat 5 (x - 1).toNat 10 he rfl hex rfl hin hd fun H1 locs1 hP hD hS => ?_
    rw [ei] at hP hD
    exact K H1 locs1 o1.tail.tail.tail (w.set ha hlt (fun _ => hltx) (by rw [ent_stq (by omega) h0 hx0, hk]) hf hP hD hS)
end SIMA
