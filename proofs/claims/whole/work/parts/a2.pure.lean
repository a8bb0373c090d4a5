/-! THE PURE PART: the start: the class's constructors -/
def T0 : List Int := txL.getD 0 []
def T1 : List Int := txL.getD 1 []
def T2 : List Int := txL.getD 2 []
/-- the texts lie in the memory -/
def TXS (m : Mm) : Prop := (∀ k : Nat, k < 60 → m (-6) (k : Int) = T0.getD k 0) ∧ (∀ k : Nat, k < 63 → m (-7) (k : Int) = T1.getD k 0) ∧ (∀ k : Nat, k < 38 → m (-8) (k : Int) = T2.getD k 0)
theorem TXS.fr {m m' : Mm} (T : TXS m) (e : ∀ o q : Int, o < 0 → m' o q = m o q) : TXS m' := ⟨fun k h => (e _ _ (by omega)).trans (T.1 k h), fun k h => (e _ _ (by omega)).trans (T.2.1 k h), fun k h => (e _ _ (by omega)).trans (T.2.2 k h)⟩
theorem lrn_5 : ∀ (r : List Int) (x3 x4 : Int), ∀ q ∈ (lrn r x3 x4).1, q.1 = 5
  | [], _, _, q, h => by cases h
  | b :: r, x3, x4, q, h => by
    unfold lrn at h
    by_cases q28 : x3 ≥ 28
    · rw [if_pos q28] at h
      cases h
    · rw [if_neg q28] at h
      by_cases qb : b ≠ 32
      · rw [if_pos qb] at h
        exact lrn_5 r _ _ q h
      · rw [if_neg qb] at h
        rcases List.mem_cons.mp h with e | e
        · rw [e]
        · exact lrn_5 r _ _ q e
theorem p_learn {n x1 x3 : Int} {T : List Int} {m : Mm} (hx : -5 ≤ x1 ∧ x1 ≤ -3) (kx : kd (x1 - 3) = (21, (T.length : Int))) (hT : T.length ≤ 1000) (sh : bshr (T.length : Int) 0 = (T.length : Int)) (hb : ∀ b ∈ T, 0 ≤ b ∧ b ≤ 127) (x30 : 0 ≤ x3) (x31 : x3 ≤ 28) (m4 : m 4 0 = 5) (hm : ∀ k : Nat, k < T.length → m (x1 - 3) (k : Int) = T.getD k 0) : vm 18 [(2, 4), (2, x1), (0, x3)] (n, m) = some (some (0, (lrn T x3 0).2), (n, wr (lrn T x3 0).1 m)) := by
  refine Eq.trans (e_X3_learn ..) ?_
  exact p_learn8 hx kx hT sh hb T 0 x3 0 (0, x3) m rfl (by omega) x30 x31 m4 hm
def LX : List (Int × Int × Int) := (lrn T0 0 0).1 ++ ((lrn T1 12 0).1 ++ (lrn T2 22 0).1)
theorem lx_0 : (lrn T0 0 0).2 = 12 := by decide +kernel
theorem lx_1 : (lrn T1 12 0).2 = 22 := by decide +kernel
theorem T_b : ∀ b ∈ T0 ++ (T1 ++ T2), 0 ≤ b ∧ b ≤ 127 := by decide +kernel
theorem c_X3 {S : Mm} (T : TXS S) : vm 17 [(2, 4)] (5, S) = some (none, (6, wr LX (wr [(4, 0, 5)] S))) := by
  have f0 : ∀ (l : List (Int × Int × Int)) (m : Mm) (o k : Int), (∀ q ∈ l, q.1 = 5) → o ≠ 5 → wr l m o k = m o k := fun l m o k h ho => wr_o l m o k (fun q hq e => ho ((h q hq).symm.trans e).symm)
  have g0 := lrn_5 T0 0 0
  have g1 := lrn_5 T1 12 0
  have e1 := p_learn (n := 6) (x1 := -3) (x3 := 0) (T := T0) (m := stm S 4 0 5) (by decide) rfl (by decide) (by decide) (fun b h => T_b b (List.mem_append_left _ h)) (by decide) (by decide) (stm_same _ _ _ _) (fun k h => by rw [stm_o (by omega)]; exact T.1 k h)
  have e2 := p_learn (n := 6) (x1 := -4) (x3 := 12) (T := T1) (m := wr (lrn T0 0 0).1 (stm S 4 0 5)) (by decide) rfl (by decide) (by decide) (fun b h => T_b b (List.mem_append_right _ (List.mem_append_left _ h))) (by decide) (by decide) (by rw [f0 _ _ _ _ g0 (by omega)]; exact stm_same _ _ _ _) (fun k h => by rw [f0 _ _ _ _ g0 (by omega), stm_o (by omega)]; exact T.2.1 k h)
  have e3 := p_learn (n := 6) (x1 := -5) (x3 := 22) (T := T2) (m := wr (lrn T1 12 0).1 (wr (lrn T0 0 0).1 (stm S 4 0 5))) (by decide) rfl (by decide) (by decide) (fun b h => T_b b (List.mem_append_right _ (List.mem_append_right _ h))) (by decide) (by decide) (by rw [f0 _ _ _ _ g1 (by omega), f0 _ _ _ _ g0 (by omega)]; exact stm_same _ _ _ _) (fun k h => by rw [f0 _ _ _ _ g1 (by omega), f0 _ _ _ _ g0 (by omega), stm_o (by omega)]; exact T.2.2 k h)
  rw [lx_0] at e1
  rw [lx_1] at e2
  refine Eq.trans (e_X3_init ..) ?_
  refine Eq.trans (if_pos (by decide)) ?_
  refine Eq.trans (if_pos (show (kd 5).1 = 23 ∧ (kd 5).2 = (28 : Int) ∧ 0 ≤ (28 : Int) ∧ (28 : Int) ≤ 1000000 by decide)) ?_
  refine Eq.trans (if_pos (by decide)) ?_
  refine Eq.trans (if_pos (by decide)) ?_
  refine Eq.trans (bnd e1) ?_
  refine Eq.trans (if_pos (by decide)) ?_
  refine Eq.trans (bnd e2) ?_
  refine Eq.trans (if_pos (by decide)) ?_
  refine Eq.trans (bnd e3) ?_
  unfold LX
  rw [wr_app, wr_app]
  rfl
theorem c_X9 {S : Mm} (T : TXS S) : vm 64 [(2, 3)] (4, S) = some (none, (6, wr [(3, 0, 4), (3, 3, -1)] (wr LX (wr [(4, 0, 5)] S)))) := by
  have q := c_X3 T
  refine Eq.trans (e_X9_init ..) ?_
  refine Eq.trans (if_pos (by decide)) ?_
  refine Eq.trans (if_pos (show (kd 4).1 = 3 by decide)) ?_
  refine Eq.trans (if_pos (show 0 < (4 : Int) ∧ (kd 4).1 = 3 by decide)) ?_
  refine Eq.trans (bnd q) ?_
  refine Eq.trans (if_pos (by decide)) ?_
  refine Eq.trans (if_pos (by decide)) ?_
  rfl
def mnl (a : Int) (n : Nat) : List (Int × Int × Int) := (List.range n).map (fun i : Nat => (a, (i : Int), a + 1 + (i : Int)))
def fll (c v : Int) (n : Nat) : List (Int × Int × Int) := (List.range n).map (fun i : Nat => (c, (i : Int), v))
theorem mnm_wr (S : Mm) (a : Int) : ∀ n : Nat, mnm S a (n : Int) = wr (mnl a n) S
  | 0 => by
    funext o k
    show (if o = a ∧ 0 ≤ k ∧ k < ((0 : Nat) : Int) then _ else _) = _
    rw [if_neg (by omega)]
    rfl
  | n + 1 => by
    unfold mnl
    rw [List.range_succ, List.map_append, wr_app]
    have := mnm_wr S a n
    unfold mnl at this
    rw [← this]
    funext o k
    show (if o = a ∧ 0 ≤ k ∧ k < ((n + 1 : Nat) : Int) then a + 1 + k else S o k) = stm (mnm S a (n : Int)) a (n : Int) (a + 1 + (n : Int)) o k
    rw [stm_ap]
    show _ = if _ then _ else (if o = a ∧ 0 ≤ k ∧ k < (n : Int) then a + 1 + k else S o k)
    by_cases z : o = a ∧ k = (n : Int)
    · rw [if_pos z, if_pos (by omega), z.2]
    · rw [if_neg z]
      by_cases y : o = a ∧ 0 ≤ k ∧ k < (n : Int)
      · rw [if_pos y, if_pos (by omega)]
      · rw [if_neg y, if_neg (by omega)]
theorem fil_wr (S : Mm) (c v : Int) : ∀ n : Nat, fil S c 0 (n : Int) v = wr (fll c v n) S
  | 0 => fil_nil _ _ _ _
  | n + 1 => by
    unfold fll
    rw [List.range_succ, List.map_append, wr_app]
    have := fil_wr S c v n
    unfold fll at this
    rw [← this]
    exact (fil_step (b := (n : Int)) S (by omega)).symm
def L7 : List (Int × Int × Int) := mnl 7 6 ++ ([(6, 0, 7), (6, 1, 14), (6, 2, 15)] ++ (mnl 16 12 ++ [(6, 3, 16), (6, 4, 29)]))
theorem c_X7 {S : Mm} : vm 41 [(2, 6)] (7, S) = some (none, (30, wr L7 S)) := by
  refine Eq.trans (e_X7_init ..) ?_
  refine Eq.trans (if_pos (by decide)) ?_
  refine Eq.trans (if_pos (show ((kd 7).1 = 24 ∧ (kd 7).2 = (6 : Int) ∧ 0 ≤ (6 : Int) ∧ (6 : Int) ≤ 1000) ∧ (0 ≤ (400 : Int) ∧ (400 : Int) ≤ 1000) ∧ (List.range (6 : Int).toNat).all (fun i => decide (kd (7 + 1 + (i : Int)) = (20, 400))) = true by decide +kernel)) ?_
  refine Eq.trans (if_pos (by decide)) ?_
  refine Eq.trans (if_pos (show (kd 14).1 = 20 ∧ (kd 14).2 = (6 : Int) ∧ 0 ≤ (6 : Int) ∧ (6 : Int) ≤ 1000000 by decide)) ?_
  refine Eq.trans (if_pos (by decide)) ?_
  refine Eq.trans (if_pos (show (kd 15).1 = 20 ∧ (kd 15).2 = (6 : Int) ∧ 0 ≤ (6 : Int) ∧ (6 : Int) ≤ 1000000 by decide)) ?_
  refine Eq.trans (if_pos (by decide)) ?_
  refine Eq.trans (if_pos (show ((kd 16).1 = 24 ∧ (kd 16).2 = (12 : Int) ∧ 0 ≤ (12 : Int) ∧ (12 : Int) ≤ 1000) ∧ (0 ≤ (400 : Int) ∧ (400 : Int) ≤ 1000) ∧ (List.range (12 : Int).toNat).all (fun i => decide (kd (16 + 1 + (i : Int)) = (20, 400))) = true by decide +kernel)) ?_
  refine Eq.trans (if_pos (by decide)) ?_
  refine Eq.trans (if_pos (show (kd 29).1 = 22 ∧ (kd 29).2 = (2 : Int) ∧ 0 ≤ (2 : Int) ∧ (2 : Int) ≤ 1000000 by decide)) ?_
  refine Eq.trans (if_pos (by decide)) ?_
  unfold L7
  rw [wr_app, wr_app, wr_app, ← mnm_wr, ← mnm_wr]
  rfl
theorem c_X10 {a d : Int} {S : Mm} (a0 : 0 < a) (k0 : (kd a).1 = 10) (k1 : kd (a + 1) = (20, 6)) (k2 : kd (a + 1 + 1) = (20, 5)) (k3 : kd (a + 1 + 1 + 1) = (20, 5)) : vm 82 [(2, a), (2, d)] (a + 1, S) = some (none, (a + 1 + 1 + 1 + 1, wr [(a, 0, a + 1), (a, 1, a + 1 + 1), (a, 2, a + 1 + 1 + 1), (a, 6, d)] S)) := by
  refine Eq.trans (e_X10_init ..) ?_
  refine Eq.trans (if_pos a0) ?_
  refine Eq.trans (if_pos (by show (kd (a + 1)).1 = 20 ∧ (kd (a + 1)).2 = (6 : Int) ∧ 0 ≤ (6 : Int) ∧ (6 : Int) ≤ 1000000; rw [k1]; decide)) ?_
  refine Eq.trans (if_pos ⟨⟨a0, k0⟩, trivial⟩) ?_
  refine Eq.trans (if_pos (by show (kd (a + 1 + 1)).1 = 20 ∧ (kd (a + 1 + 1)).2 = (5 : Int) ∧ 0 ≤ (5 : Int) ∧ (5 : Int) ≤ 1000000; rw [k2]; decide)) ?_
  refine Eq.trans (if_pos ⟨⟨a0, k0⟩, trivial⟩) ?_
  refine Eq.trans (if_pos (by show (kd (a + 1 + 1 + 1)).1 = 20 ∧ (kd (a + 1 + 1 + 1)).2 = (5 : Int) ∧ 0 ≤ (5 : Int) ∧ (5 : Int) ≤ 1000000; rw [k3]; decide)) ?_
  refine Eq.trans (if_pos ⟨⟨a0, k0⟩, trivial⟩) ?_
  refine Eq.trans (if_pos ⟨⟨a0, k0⟩, trivial⟩) ?_
  rfl
theorem p_X5s {D a d j : Int} {S : Mm} (D0 : 0 < D) (kD : (kd D).1 = 5) (a0 : 0 < a) (k0 : (kd a).1 = 10) (k1 : kd (a + 1) = (20, 6)) (k2 : kd (a + 1 + 1) = (20, 5)) (k3 : kd (a + 1 + 1 + 1) = (20, 5)) (hs : S D 3 = D + 4) (k4 : kd (D + 4) = (25, 4)) (j0 : 0 ≤ j) (j1 : j < 4) : vp 33 47 [(2, D), (2, d), (0, j)] [] (a, S) = vp 33 47 [(2, D), (2, d), (0, j + 1)] [] (a + 1 + 1 + 1 + 1, wr [(a, 0, a + 1), (a, 1, a + 1 + 1), (a, 2, a + 1 + 1 + 1), (a, 6, d), (D + 4, j, a)] S) := by
  have t := c_X10 (S := S) (d := d) a0 k0 k1 k2 k3
  refine Eq.trans (e_X5_init_47 ..) ?_
  refine Eq.trans (if_neg (by omega)) ?_
  refine Eq.trans (if_pos ⟨D0, kD⟩) ?_
  refine Eq.trans (if_pos k0) ?_
  refine Eq.trans (if_pos ⟨a0, k0⟩) ?_
  refine Eq.trans (bnd t) ?_
  refine Eq.trans (if_pos (by show 0 < S D 3 ∧ (kd (S D 3)).1 = 25 ∧ (0 ≤ j ∧ j < (kd (S D 3)).2) ∧ 0 < a ∧ (kd a).1 = 10; rw [hs, k4]; exact ⟨by omega, rfl, ⟨j0, j1⟩, a0, k0⟩)) ?_
  show vp 33 47 [(2, D), (2, d), (0, w32 (j + 1))] [] (a + 1 + 1 + 1 + 1, stm (wr [(a, 0, a + 1), (a, 1, a + 1 + 1), (a, 2, a + 1 + 1 + 1), (a, 6, d)] S) (S D 3) j a) = _
  rw [hs, w32_i (by omega) (by omega)]
  rfl
def LP30 : List (Int × Int × Int) := [(30, 0, 31), (30, 1, 32), (30, 2, 33), (30, 3, 34), (30, 4, 35)] ++ ([(36, 0, 37), (36, 1, 38), (36, 2, 39), (36, 6, 8), (34, 0, 36)] ++ ([(40, 0, 41), (40, 1, 42), (40, 2, 43), (40, 6, 8), (34, 1, 40)] ++ ([(44, 0, 45), (44, 1, 46), (44, 2, 47), (44, 6, 8), (34, 2, 44)] ++ [(48, 0, 49), (48, 1, 50), (48, 2, 51), (48, 6, 8), (34, 3, 48)])))
theorem c_X5_30 {S : Mm} : vm 33 [(2, 30), (2, 8)] (31, S) = some (none, (52, wr LP30 S)) := by
  have s0 := p_X5s (D := 30) (a := 36) (d := 8) (j := 0) (S := wr [(30, 0, 31), (30, 1, 32), (30, 2, 33), (30, 3, 34), (30, 4, 35)] S) (by decide) (by decide) (by decide) (by decide) (by decide) (by decide) (by decide) (by  rfl) (by decide) (by decide) (by decide)
  have s1 := p_X5s (D := 30) (a := 40) (d := 8) (j := 1) (S := wr [(36, 0, 37), (36, 1, 38), (36, 2, 39), (36, 6, 8), (34, 0, 36)] (wr [(30, 0, 31), (30, 1, 32), (30, 2, 33), (30, 3, 34), (30, 4, 35)] S)) (by decide) (by decide) (by decide) (by decide) (by decide) (by decide) (by decide) (by rw [wr_o _ _ _ _ (by decide)];  rfl) (by decide) (by decide) (by decide)
  have s2 := p_X5s (D := 30) (a := 44) (d := 8) (j := 2) (S := wr [(40, 0, 41), (40, 1, 42), (40, 2, 43), (40, 6, 8), (34, 1, 40)] (wr [(36, 0, 37), (36, 1, 38), (36, 2, 39), (36, 6, 8), (34, 0, 36)] (wr [(30, 0, 31), (30, 1, 32), (30, 2, 33), (30, 3, 34), (30, 4, 35)] S))) (by decide) (by decide) (by decide) (by decide) (by decide) (by decide) (by decide) (by rw [wr_o _ _ _ _ (by decide)]; rw [wr_o _ _ _ _ (by decide)];  rfl) (by decide) (by decide) (by decide)
  have s3 := p_X5s (D := 30) (a := 48) (d := 8) (j := 3) (S := wr [(44, 0, 45), (44, 1, 46), (44, 2, 47), (44, 6, 8), (34, 2, 44)] (wr [(40, 0, 41), (40, 1, 42), (40, 2, 43), (40, 6, 8), (34, 1, 40)] (wr [(36, 0, 37), (36, 1, 38), (36, 2, 39), (36, 6, 8), (34, 0, 36)] (wr [(30, 0, 31), (30, 1, 32), (30, 2, 33), (30, 3, 34), (30, 4, 35)] S)))) (by decide) (by decide) (by decide) (by decide) (by decide) (by decide) (by decide) (by rw [wr_o _ _ _ _ (by decide)]; rw [wr_o _ _ _ _ (by decide)]; rw [wr_o _ _ _ _ (by decide)];  rfl) (by decide) (by decide) (by decide)
  have s4 : vp 33 47 [(2, 30), (2, 8), (0, 4)] [] (52, wr [(48, 0, 49), (48, 1, 50), (48, 2, 51), (48, 6, 8), (34, 3, 48)] (wr [(44, 0, 45), (44, 1, 46), (44, 2, 47), (44, 6, 8), (34, 2, 44)] (wr [(40, 0, 41), (40, 1, 42), (40, 2, 43), (40, 6, 8), (34, 1, 40)] (wr [(36, 0, 37), (36, 1, 38), (36, 2, 39), (36, 6, 8), (34, 0, 36)] (wr [(30, 0, 31), (30, 1, 32), (30, 2, 33), (30, 3, 34), (30, 4, 35)] S))))) = some (none, (52, wr [(48, 0, 49), (48, 1, 50), (48, 2, 51), (48, 6, 8), (34, 3, 48)] (wr [(44, 0, 45), (44, 1, 46), (44, 2, 47), (44, 6, 8), (34, 2, 44)] (wr [(40, 0, 41), (40, 1, 42), (40, 2, 43), (40, 6, 8), (34, 1, 40)] (wr [(36, 0, 37), (36, 1, 38), (36, 2, 39), (36, 6, 8), (34, 0, 36)] (wr [(30, 0, 31), (30, 1, 32), (30, 2, 33), (30, 3, 34), (30, 4, 35)] S)))))) := Eq.trans (e_X5_init_47 ..) (if_pos (by decide))
  refine Eq.trans (e_X5_init ..) ?_
  refine Eq.trans (if_pos (by decide)) ?_
  refine Eq.trans (if_pos (show (kd 31).1 = 23 ∧ (kd 31).2 = (6 : Int) ∧ 0 ≤ (6 : Int) ∧ (6 : Int) ≤ 1000000 by decide)) ?_
  refine Eq.trans (if_pos (by decide)) ?_
  refine Eq.trans (if_pos (show (kd 32).1 = 20 ∧ (kd 32).2 = (6 : Int) ∧ 0 ≤ (6 : Int) ∧ (6 : Int) ≤ 1000000 by decide)) ?_
  refine Eq.trans (if_pos (by decide)) ?_
  refine Eq.trans (if_pos (show (kd 33).1 = 20 ∧ (kd 33).2 = (6 : Int) ∧ 0 ≤ (6 : Int) ∧ (6 : Int) ≤ 1000000 by decide)) ?_
  refine Eq.trans (if_pos (by decide)) ?_
  refine Eq.trans (if_pos (show (kd 34).1 = 25 ∧ (kd 34).2 = (4 : Int) ∧ 0 ≤ (4 : Int) ∧ (4 : Int) ≤ 1000000 by decide)) ?_
  refine Eq.trans (if_pos (by decide)) ?_
  refine Eq.trans (if_pos (show (kd 35).1 = 20 ∧ (kd 35).2 = (300 : Int) ∧ 0 ≤ (300 : Int) ∧ (300 : Int) ≤ 1000000 by decide)) ?_
  refine Eq.trans (if_pos (by decide)) ?_
  refine Eq.trans s0 ?_
  refine Eq.trans s1 ?_
  refine Eq.trans s2 ?_
  refine Eq.trans s3 ?_
  refine Eq.trans s4 ?_
  unfold LP30
  rw [wr_app, wr_app, wr_app, wr_app]
def LP52 : List (Int × Int × Int) := [(52, 0, 53), (52, 1, 54), (52, 2, 55), (52, 3, 56), (52, 4, 57)] ++ ([(58, 0, 59), (58, 1, 60), (58, 2, 61), (58, 6, 8), (56, 0, 58)] ++ ([(62, 0, 63), (62, 1, 64), (62, 2, 65), (62, 6, 8), (56, 1, 62)] ++ ([(66, 0, 67), (66, 1, 68), (66, 2, 69), (66, 6, 8), (56, 2, 66)] ++ [(70, 0, 71), (70, 1, 72), (70, 2, 73), (70, 6, 8), (56, 3, 70)])))
theorem c_X5_52 {S : Mm} : vm 33 [(2, 52), (2, 8)] (53, S) = some (none, (74, wr LP52 S)) := by
  have s0 := p_X5s (D := 52) (a := 58) (d := 8) (j := 0) (S := wr [(52, 0, 53), (52, 1, 54), (52, 2, 55), (52, 3, 56), (52, 4, 57)] S) (by decide) (by decide) (by decide) (by decide) (by decide) (by decide) (by decide) (by  rfl) (by decide) (by decide) (by decide)
  have s1 := p_X5s (D := 52) (a := 62) (d := 8) (j := 1) (S := wr [(58, 0, 59), (58, 1, 60), (58, 2, 61), (58, 6, 8), (56, 0, 58)] (wr [(52, 0, 53), (52, 1, 54), (52, 2, 55), (52, 3, 56), (52, 4, 57)] S)) (by decide) (by decide) (by decide) (by decide) (by decide) (by decide) (by decide) (by rw [wr_o _ _ _ _ (by decide)];  rfl) (by decide) (by decide) (by decide)
  have s2 := p_X5s (D := 52) (a := 66) (d := 8) (j := 2) (S := wr [(62, 0, 63), (62, 1, 64), (62, 2, 65), (62, 6, 8), (56, 1, 62)] (wr [(58, 0, 59), (58, 1, 60), (58, 2, 61), (58, 6, 8), (56, 0, 58)] (wr [(52, 0, 53), (52, 1, 54), (52, 2, 55), (52, 3, 56), (52, 4, 57)] S))) (by decide) (by decide) (by decide) (by decide) (by decide) (by decide) (by decide) (by rw [wr_o _ _ _ _ (by decide)]; rw [wr_o _ _ _ _ (by decide)];  rfl) (by decide) (by decide) (by decide)
  have s3 := p_X5s (D := 52) (a := 70) (d := 8) (j := 3) (S := wr [(66, 0, 67), (66, 1, 68), (66, 2, 69), (66, 6, 8), (56, 2, 66)] (wr [(62, 0, 63), (62, 1, 64), (62, 2, 65), (62, 6, 8), (56, 1, 62)] (wr [(58, 0, 59), (58, 1, 60), (58, 2, 61), (58, 6, 8), (56, 0, 58)] (wr [(52, 0, 53), (52, 1, 54), (52, 2, 55), (52, 3, 56), (52, 4, 57)] S)))) (by decide) (by decide) (by decide) (by decide) (by decide) (by decide) (by decide) (by rw [wr_o _ _ _ _ (by decide)]; rw [wr_o _ _ _ _ (by decide)]; rw [wr_o _ _ _ _ (by decide)];  rfl) (by decide) (by decide) (by decide)
  have s4 : vp 33 47 [(2, 52), (2, 8), (0, 4)] [] (74, wr [(70, 0, 71), (70, 1, 72), (70, 2, 73), (70, 6, 8), (56, 3, 70)] (wr [(66, 0, 67), (66, 1, 68), (66, 2, 69), (66, 6, 8), (56, 2, 66)] (wr [(62, 0, 63), (62, 1, 64), (62, 2, 65), (62, 6, 8), (56, 1, 62)] (wr [(58, 0, 59), (58, 1, 60), (58, 2, 61), (58, 6, 8), (56, 0, 58)] (wr [(52, 0, 53), (52, 1, 54), (52, 2, 55), (52, 3, 56), (52, 4, 57)] S))))) = some (none, (74, wr [(70, 0, 71), (70, 1, 72), (70, 2, 73), (70, 6, 8), (56, 3, 70)] (wr [(66, 0, 67), (66, 1, 68), (66, 2, 69), (66, 6, 8), (56, 2, 66)] (wr [(62, 0, 63), (62, 1, 64), (62, 2, 65), (62, 6, 8), (56, 1, 62)] (wr [(58, 0, 59), (58, 1, 60), (58, 2, 61), (58, 6, 8), (56, 0, 58)] (wr [(52, 0, 53), (52, 1, 54), (52, 2, 55), (52, 3, 56), (52, 4, 57)] S)))))) := Eq.trans (e_X5_init_47 ..) (if_pos (by decide))
  refine Eq.trans (e_X5_init ..) ?_
  refine Eq.trans (if_pos (by decide)) ?_
  refine Eq.trans (if_pos (show (kd 53).1 = 23 ∧ (kd 53).2 = (6 : Int) ∧ 0 ≤ (6 : Int) ∧ (6 : Int) ≤ 1000000 by decide)) ?_
  refine Eq.trans (if_pos (by decide)) ?_
  refine Eq.trans (if_pos (show (kd 54).1 = 20 ∧ (kd 54).2 = (6 : Int) ∧ 0 ≤ (6 : Int) ∧ (6 : Int) ≤ 1000000 by decide)) ?_
  refine Eq.trans (if_pos (by decide)) ?_
  refine Eq.trans (if_pos (show (kd 55).1 = 20 ∧ (kd 55).2 = (6 : Int) ∧ 0 ≤ (6 : Int) ∧ (6 : Int) ≤ 1000000 by decide)) ?_
  refine Eq.trans (if_pos (by decide)) ?_
  refine Eq.trans (if_pos (show (kd 56).1 = 25 ∧ (kd 56).2 = (4 : Int) ∧ 0 ≤ (4 : Int) ∧ (4 : Int) ≤ 1000000 by decide)) ?_
  refine Eq.trans (if_pos (by decide)) ?_
  refine Eq.trans (if_pos (show (kd 57).1 = 20 ∧ (kd 57).2 = (300 : Int) ∧ 0 ≤ (300 : Int) ∧ (300 : Int) ≤ 1000000 by decide)) ?_
  refine Eq.trans (if_pos (by decide)) ?_
  refine Eq.trans s0 ?_
  refine Eq.trans s1 ?_
  refine Eq.trans s2 ?_
  refine Eq.trans s3 ?_
  refine Eq.trans s4 ?_
  unfold LP52
  rw [wr_app, wr_app, wr_app, wr_app]
theorem c_X0 {S : Mm} : vm 0 [(2, 74)] (75, S) = some (none, (77, wr [(74, 0, 75), (74, 1, 76)] S)) := by
  refine Eq.trans (e_X0_init ..) ?_
  refine Eq.trans (if_pos (by decide)) ?_
  refine Eq.trans (if_pos (show (kd 75).1 = 24 ∧ (kd 75).2 = (21 : Int) ∧ 0 ≤ (21 : Int) ∧ (21 : Int) ≤ 1000000 by decide)) ?_
  refine Eq.trans (if_pos (by decide)) ?_
  refine Eq.trans (if_pos (show (kd 76).1 = 20 ∧ (kd 76).2 = (21 : Int) ∧ 0 ≤ (21 : Int) ∧ (21 : Int) ≤ 1000000 by decide)) ?_
  refine Eq.trans (if_pos (by decide)) ?_
  rfl
theorem c_X8 {S : Mm} : vm 59 [(2, 83)] (84, S) = some (none, (85, wr [(83, 0, 84)] S)) := by
  refine Eq.trans (e_X8_init ..) ?_
  refine Eq.trans (if_pos (by decide)) ?_
  refine Eq.trans (if_pos (show (kd 84).1 = 20 ∧ (kd 84).2 = (2400 : Int) ∧ 0 ≤ (2400 : Int) ∧ (2400 : Int) ≤ 1000000 by decide)) ?_
  refine Eq.trans (if_pos (by decide)) ?_
  rfl
theorem c_X2 {S : Mm} : vm 14 [(2, 85)] (86, S) = some (none, (86, wr [(85, 0, 1)] S)) := by
  refine Eq.trans (e_X2_init ..) ?_
  refine Eq.trans (if_pos (by decide)) ?_
  refine Eq.trans (if_pos (by decide)) ?_
  rfl
theorem c_X4 {S : Mm} : vm 26 [(2, 86)] (87, S) = some (none, (88, wr [(86, 0, 87)] S)) := by
  refine Eq.trans (e_X4_init ..) ?_
  refine Eq.trans (if_pos (by decide)) ?_
  refine Eq.trans (if_pos (show (kd 87).1 = 20 ∧ (kd 87).2 = (16 : Int) ∧ 0 ≤ (16 : Int) ∧ (16 : Int) ≤ 1000000 by decide)) ?_
  refine Eq.trans (if_pos (by decide)) ?_
  rfl
theorem c_X1_77 {S : Mm} : vm 7 [(2, 77)] (78, S) = some (none, (80, wr (fll 78 (-1) 32) (wr [(77, 0, 78), (77, 1, 79), (77, 2, 4), (77, 3, 2), (77, 4, 4)] S))) := by
  have ff := c_fill (n := 80) (m := wr [(77, 0, 78), (77, 1, 79), (77, 2, 4), (77, 3, 2), (77, 4, 4)] S) (c := 78) (N := 32) (v := -1) (by decide) (by decide) (by decide) (by decide)
  rw [show (32 : Int) = ((32 : Nat) : Int) from rfl, fil_wr] at ff
  have gg : stm (stm (stm (stm (stm S 77 0 78) 77 1 79) 77 2 4) 77 3 2) 77 4 4 77 0 = 78 := rfl
  refine Eq.trans (e_X1_init ..) ?_
  refine Eq.trans (if_pos (by decide)) ?_
  refine Eq.trans (if_pos (show (kd 78).1 = 20 ∧ (kd 78).2 = (32 : Int) ∧ 0 ≤ (32 : Int) ∧ (32 : Int) ≤ 1000000 by decide)) ?_
  refine Eq.trans (if_pos (by decide)) ?_
  refine Eq.trans (if_pos (show (kd 79).1 = 20 ∧ (kd 79).2 = (32 : Int) ∧ 0 ≤ (32 : Int) ∧ (32 : Int) ≤ 1000000 by decide)) ?_
  refine Eq.trans (if_pos (by decide)) ?_
  refine Eq.trans (if_pos (by decide)) ?_
  refine Eq.trans (if_pos (by decide)) ?_
  refine Eq.trans (if_pos (by decide)) ?_
  refine Eq.trans (if_pos (by decide)) ?_
  exact bnd ff
theorem c_X1_80 {S : Mm} : vm 7 [(2, 80)] (81, S) = some (none, (83, wr (fll 81 (-1) 32) (wr [(80, 0, 81), (80, 1, 82), (80, 2, 4), (80, 3, 2), (80, 4, 4)] S))) := by
  have ff := c_fill (n := 83) (m := wr [(80, 0, 81), (80, 1, 82), (80, 2, 4), (80, 3, 2), (80, 4, 4)] S) (c := 81) (N := 32) (v := -1) (by decide) (by decide) (by decide) (by decide)
  rw [show (32 : Int) = ((32 : Nat) : Int) from rfl, fil_wr] at ff
  have gg : stm (stm (stm (stm (stm S 80 0 81) 80 1 82) 80 2 4) 80 3 2) 80 4 4 80 0 = 81 := rfl
  refine Eq.trans (e_X1_init ..) ?_
  refine Eq.trans (if_pos (by decide)) ?_
  refine Eq.trans (if_pos (show (kd 81).1 = 20 ∧ (kd 81).2 = (32 : Int) ∧ 0 ≤ (32 : Int) ∧ (32 : Int) ≤ 1000000 by decide)) ?_
  refine Eq.trans (if_pos (by decide)) ?_
  refine Eq.trans (if_pos (show (kd 82).1 = 20 ∧ (kd 82).2 = (32 : Int) ∧ 0 ≤ (32 : Int) ∧ (32 : Int) ≤ 1000000 by decide)) ?_
  refine Eq.trans (if_pos (by decide)) ?_
  refine Eq.trans (if_pos (by decide)) ?_
  refine Eq.trans (if_pos (by decide)) ?_
  refine Eq.trans (if_pos (by decide)) ?_
  refine Eq.trans (if_pos (by decide)) ?_
  exact bnd ff
