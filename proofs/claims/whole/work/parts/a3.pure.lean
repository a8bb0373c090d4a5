/-! THE PURE PART: the start: a new object of the class -/
def LC : List (Int × Int × Int) := [(1, 0, 2), (1, 1, 0)] ++ ([(4, 0, 5)] ++ (LX ++ ([(3, 0, 4), (3, 3, -1)] ++ ([(1, 2, 3)] ++ (L7 ++ ([(1, 5, 6)] ++ (LP30 ++ ([(1, 3, 30)] ++ (LP52 ++ ([(1, 4, 52)] ++ ([(74, 0, 75), (74, 1, 76)] ++ ([(1, 6, 74)] ++ ([(77, 0, 78), (77, 1, 79), (77, 2, 4), (77, 3, 2), (77, 4, 4)] ++ ((fll 78 (-1) 32) ++ ([(1, 7, 77)] ++ ([(80, 0, 81), (80, 1, 82), (80, 2, 4), (80, 3, 2), (80, 4, 4)] ++ ((fll 81 (-1) 32) ++ ([(1, 8, 80)] ++ ([(83, 0, 84)] ++ ([(1, 9, 83)] ++ ([(85, 0, 1)] ++ ([(1, 10, 85)] ++ ([(86, 0, 87)] ++ ([(1, 11, 86)]))))))))))))))))))))))))
theorem c_X11 {S : Mm} (T : TXS S) : vm 103 [(2, 1)] (2, S) = some (none, (88, wr LC S)) := by
  obtain ⟨A1, hA1⟩ : ∃ x : Mm, x = (wr [(3, 0, 4), (3, 3, -1)] (wr LX (wr [(4, 0, 5)] (wr [(1, 0, 2), (1, 1, 0)] S)))) := ⟨_, rfl⟩
  have q1 : vm 64 [(2, 3)] (4, (stm (stm S 1 0 2) 1 1 0)) = some (none, (6, A1)) := by
    rw [hA1]
    exact c_X9 (T.fr (m' := stm (stm S 1 0 2) 1 1 0) (fun o q h => by rw [stm_o (by omega), stm_o (by omega)]))
  obtain ⟨A2, hA2⟩ : ∃ x : Mm, x = (wr L7 (wr [(1, 2, 3)] A1)) := ⟨_, rfl⟩
  have q2 : vm 41 [(2, 6)] (7, (stm A1 1 2 3)) = some (none, (30, A2)) := by
    rw [hA2]
    exact c_X7
  obtain ⟨A3, hA3⟩ : ∃ x : Mm, x = (wr LP30 (wr [(1, 5, 6)] A2)) := ⟨_, rfl⟩
  have q3 : vm 33 [(2, 30), (2, 8)] (31, (stm A2 1 5 6)) = some (none, (52, A3)) := by
    rw [hA3]
    exact c_X5_30
  obtain ⟨A4, hA4⟩ : ∃ x : Mm, x = (wr LP52 (wr [(1, 3, 30)] A3)) := ⟨_, rfl⟩
  have q4 : vm 33 [(2, 52), (2, 8)] (53, (stm A3 1 3 30)) = some (none, (74, A4)) := by
    rw [hA4]
    exact c_X5_52
  obtain ⟨A5, hA5⟩ : ∃ x : Mm, x = (wr [(74, 0, 75), (74, 1, 76)] (wr [(1, 4, 52)] A4)) := ⟨_, rfl⟩
  have q5 : vm 0 [(2, 74)] (75, (stm A4 1 4 52)) = some (none, (77, A5)) := by
    rw [hA5]
    exact c_X0
  obtain ⟨A6, hA6⟩ : ∃ x : Mm, x = (wr (fll 78 (-1) 32) (wr [(77, 0, 78), (77, 1, 79), (77, 2, 4), (77, 3, 2), (77, 4, 4)] (wr [(1, 6, 74)] A5))) := ⟨_, rfl⟩
  have q6 : vm 7 [(2, 77)] (78, (stm A5 1 6 74)) = some (none, (80, A6)) := by
    rw [hA6]
    exact c_X1_77
  obtain ⟨A7, hA7⟩ : ∃ x : Mm, x = (wr (fll 81 (-1) 32) (wr [(80, 0, 81), (80, 1, 82), (80, 2, 4), (80, 3, 2), (80, 4, 4)] (wr [(1, 7, 77)] A6))) := ⟨_, rfl⟩
  have q7 : vm 7 [(2, 80)] (81, (stm A6 1 7 77)) = some (none, (83, A7)) := by
    rw [hA7]
    exact c_X1_80
  obtain ⟨A8, hA8⟩ : ∃ x : Mm, x = (wr [(83, 0, 84)] (wr [(1, 8, 80)] A7)) := ⟨_, rfl⟩
  have q8 : vm 59 [(2, 83)] (84, (stm A7 1 8 80)) = some (none, (85, A8)) := by
    rw [hA8]
    exact c_X8
  obtain ⟨A9, hA9⟩ : ∃ x : Mm, x = (wr [(85, 0, 1)] (wr [(1, 9, 83)] A8)) := ⟨_, rfl⟩
  have q9 : vm 14 [(2, 85)] (86, (stm A8 1 9 83)) = some (none, (86, A9)) := by
    rw [hA9]
    exact c_X2
  obtain ⟨A10, hA10⟩ : ∃ x : Mm, x = (wr [(86, 0, 87)] (wr [(1, 10, 85)] A9)) := ⟨_, rfl⟩
  have q10 : vm 26 [(2, 86)] (87, (stm A9 1 10 85)) = some (none, (88, A10)) := by
    rw [hA10]
    exact c_X4
  have fa : (stm A2 1 5 6) 1 5 = 6 := by
    rw [show (stm A2 1 5 6) = wr (L7 ++ [(1, 5, 6)]) (stm A1 1 2 3) from by rw [hA2, wr_app]; rfl, wr_lkw, show lkw (L7 ++ [(1, 5, 6)]) 1 5 = some 6 by decide +kernel]
    rfl
  have fb : (stm A2 1 5 6) 6 0 = 7 := by
    rw [show (stm A2 1 5 6) = wr (L7 ++ [(1, 5, 6)]) (stm A1 1 2 3) from by rw [hA2, wr_app]; rfl, wr_lkw, show lkw (L7 ++ [(1, 5, 6)]) 6 0 = some 7 by decide +kernel]
    rfl
  have fc : (stm A2 1 5 6) 7 0 = 8 := by
    rw [show (stm A2 1 5 6) = wr (L7 ++ [(1, 5, 6)]) (stm A1 1 2 3) from by rw [hA2, wr_app]; rfl, wr_lkw, show lkw (L7 ++ [(1, 5, 6)]) 7 0 = some 8 by decide +kernel]
    rfl
  have ga : (stm A3 1 3 30) 1 5 = 6 := by
    rw [show (stm A3 1 3 30) = wr (LP30 ++ [(1, 3, 30)]) (stm A2 1 5 6) from by rw [hA3, wr_app]; rfl, wr_lkw, show lkw (LP30 ++ [(1, 3, 30)]) 1 5 = none by decide +kernel]
    exact fa
  have gb : (stm A3 1 3 30) 6 0 = 7 := by
    rw [show (stm A3 1 3 30) = wr (LP30 ++ [(1, 3, 30)]) (stm A2 1 5 6) from by rw [hA3, wr_app]; rfl, wr_lkw, show lkw (LP30 ++ [(1, 3, 30)]) 6 0 = none by decide +kernel]
    exact fb
  have gc : (stm A3 1 3 30) 7 0 = 8 := by
    rw [show (stm A3 1 3 30) = wr (LP30 ++ [(1, 3, 30)]) (stm A2 1 5 6) from by rw [hA3, wr_app]; rfl, wr_lkw, show lkw (LP30 ++ [(1, 3, 30)]) 7 0 = none by decide +kernel]
    exact fc
  refine Eq.trans (e_X11_init ..) ?_
  refine Eq.trans (if_pos (by decide)) ?_
  refine Eq.trans (if_pos (show (kd 2).1 = 21 ∧ (kd 2).2 = (900 : Int) ∧ 0 ≤ (900 : Int) ∧ (900 : Int) ≤ 1000000 by decide)) ?_
  refine Eq.trans (if_pos (by decide)) ?_
  refine Eq.trans (if_pos (by decide)) ?_
  refine Eq.trans (if_pos (show (kd 3).1 = 9 by decide)) ?_
  refine Eq.trans (if_pos (show 0 < (3 : Int) ∧ (kd 3).1 = 9 by decide)) ?_
  refine Eq.trans (bnd q1) ?_
  refine Eq.trans (if_pos (by decide)) ?_
  refine Eq.trans (if_pos (show (kd 6).1 = 7 by decide)) ?_
  refine Eq.trans (if_pos (show 0 < (6 : Int) ∧ (kd 6).1 = 7 by decide)) ?_
  refine Eq.trans (bnd q2) ?_
  refine Eq.trans (if_pos (by decide)) ?_
  refine Eq.trans (if_pos (show (kd 30).1 = 5 by decide)) ?_
  refine Eq.trans (if_pos (by decide)) ?_
  refine Eq.trans (if_pos (show 0 < (stm A2 1 5 6) 1 5 ∧ (kd ((stm A2 1 5 6) 1 5)).1 = 7 by rw [fa]; decide)) ?_
  refine Eq.trans (if_pos (show (kd ((stm A2 1 5 6) ((stm A2 1 5 6) 1 5) 0)).1 = 24 ∧ 0 ≤ (0 : Int) ∧ (0 : Int) < (kd ((stm A2 1 5 6) ((stm A2 1 5 6) 1 5) 0)).2 by rw [fa, fb]; decide)) ?_
  refine Eq.trans (if_pos (show 0 < (30 : Int) ∧ (kd 30).1 = 5 by decide)) ?_
  have w2 : vm 33 [(2, 30), (2, (stm A2 1 5 6) ((stm A2 1 5 6) ((stm A2 1 5 6) 1 5) 0) 0)] (31, (stm A2 1 5 6)) = some (none, (52, A3)) := by
    rw [fa, fb, fc]
    exact q3
  refine Eq.trans (bnd w2) ?_
  refine Eq.trans (if_pos (by decide)) ?_
  refine Eq.trans (if_pos (show (kd 52).1 = 5 by decide)) ?_
  refine Eq.trans (if_pos (by decide)) ?_
  refine Eq.trans (if_pos (show 0 < (stm A3 1 3 30) 1 5 ∧ (kd ((stm A3 1 3 30) 1 5)).1 = 7 by rw [ga]; decide)) ?_
  refine Eq.trans (if_pos (show (kd ((stm A3 1 3 30) ((stm A3 1 3 30) 1 5) 0)).1 = 24 ∧ 0 ≤ (0 : Int) ∧ (0 : Int) < (kd ((stm A3 1 3 30) ((stm A3 1 3 30) 1 5) 0)).2 by rw [ga, gb]; decide)) ?_
  refine Eq.trans (if_pos (show 0 < (52 : Int) ∧ (kd 52).1 = 5 by decide)) ?_
  have w3 : vm 33 [(2, 52), (2, (stm A3 1 3 30) ((stm A3 1 3 30) ((stm A3 1 3 30) 1 5) 0) 0)] (53, (stm A3 1 3 30)) = some (none, (74, A4)) := by
    rw [ga, gb, gc]
    exact q4
  refine Eq.trans (bnd w3) ?_
  refine Eq.trans (if_pos (by decide)) ?_
  refine Eq.trans (if_pos (show (kd 74).1 = 0 by decide)) ?_
  refine Eq.trans (if_pos (show 0 < (74 : Int) ∧ (kd 74).1 = 0 by decide)) ?_
  refine Eq.trans (bnd q5) ?_
  refine Eq.trans (if_pos (by decide)) ?_
  refine Eq.trans (if_pos (show (kd 77).1 = 1 by decide)) ?_
  refine Eq.trans (if_pos (show 0 < (77 : Int) ∧ (kd 77).1 = 1 by decide)) ?_
  refine Eq.trans (bnd q6) ?_
  refine Eq.trans (if_pos (by decide)) ?_
  refine Eq.trans (if_pos (show (kd 80).1 = 1 by decide)) ?_
  refine Eq.trans (if_pos (show 0 < (80 : Int) ∧ (kd 80).1 = 1 by decide)) ?_
  refine Eq.trans (bnd q7) ?_
  refine Eq.trans (if_pos (by decide)) ?_
  refine Eq.trans (if_pos (show (kd 83).1 = 8 by decide)) ?_
  refine Eq.trans (if_pos (show 0 < (83 : Int) ∧ (kd 83).1 = 8 by decide)) ?_
  refine Eq.trans (bnd q8) ?_
  refine Eq.trans (if_pos (by decide)) ?_
  refine Eq.trans (if_pos (show (kd 85).1 = 2 by decide)) ?_
  refine Eq.trans (if_pos (show 0 < (85 : Int) ∧ (kd 85).1 = 2 by decide)) ?_
  refine Eq.trans (bnd q9) ?_
  refine Eq.trans (if_pos (by decide)) ?_
  refine Eq.trans (if_pos (show (kd 86).1 = 4 by decide)) ?_
  refine Eq.trans (if_pos (show 0 < (86 : Int) ∧ (kd 86).1 = 4 by decide)) ?_
  refine Eq.trans (bnd q10) ?_
  refine Eq.trans (if_pos (by decide)) ?_
  unfold LC
  rw [wr_app, wr_app, wr_app, wr_app, wr_app, wr_app, wr_app, wr_app, wr_app, wr_app, wr_app, wr_app, wr_app, wr_app, wr_app, wr_app, wr_app, wr_app, wr_app, wr_app, wr_app, wr_app, wr_app, wr_app]
  rw [← hA1, ← hA2, ← hA3, ← hA4, ← hA5, ← hA6, ← hA7, ← hA8, ← hA9, ← hA10]
  rfl
