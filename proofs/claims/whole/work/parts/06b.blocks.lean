set_option maxRecDepth 100000 in
set_option maxHeartbeats 4000000 in
theorem e_X9_init (x0 : Int) (h : Hq) : vm 64 [(2, x0)] h = if 0 < x0 then if (kd h.1).1 = 3 then if 0 < h.1 ∧ (kd h.1).1 = 3 then (vm 17 [(2, h.1)] (h.1 + 1, h.2)).bind (fun r6 => if (0 < x0 ∧ (kd x0).1 = 9) ∧ True then if (0 < x0 ∧ (kd x0).1 = 9) ∧ True then some (none, (r6.2.1, stm (stm r6.2.2 x0 0 h.1) x0 3 (-1))) else none else none) else none else none else none := by
  show vp 64 0 [(2, x0)] [] h = _
  refine s_aload_n (pc1 := 1) (tk (n := 0) t64_0 rfl) rfl rfl rfl ?_
  refine s_oini (pc1 := 4) (tk (n := 1) t64_0 rfl) rfl rfl rfl ?_
  refine s_aload_n (pc1 := 5) (tk (n := 2) t64_0 rfl) rfl rfl rfl ?_
  refine s_new (pc1 := 8) (c := 3) (tk (n := 3) t64_0 rfl) rfl rfl rfl ?_
  refine s_dup2 (pc1 := 9) (tk (n := 4) t64_0 rfl) rfl rfl  ?_
  refine s_call9 (as := [(2, h.1)]) (st1 := [(2, h.1), (2, x0)]) (p1 := 12) (M2 := 17) (tk (n := 5) t64_0 rfl) rfl rfl rfl rfl rfl (fun r6 => ?_)
  refine s_putf2 (pc1 := 15) (c := 9) (tk (n := 6) t64_0 rfl) rfl rfl rfl rfl rfl ?_
  refine s_aload_n (pc1 := 16) (tk (n := 7) t64_0 rfl) rfl rfl rfl ?_
  refine s_iconst (pc1 := 17) (tk (n := 8) t64_0 rfl) rfl rfl  ?_
  refine s_putf0 (pc1 := 20) (c := 9) (tk (n := 9) t64_0 rfl) rfl rfl rfl rfl rfl ?_
  exact s_ret (tk (n := 10) t64_0 rfl) rfl rfl rfl
set_option maxRecDepth 100000 in
set_option maxHeartbeats 4000000 in
theorem e_X9_tells (x0 : Int) (x1 : Int) (x2 : Int) (x3 : Int) (h : Hq) : vm 65 [(2, x0), (2, x1), (0, x2), (2, x3)] h = if (0 < x0 ∧ (kd x0).1 = 9) ∧ True then if 0 < x0 ∧ (kd x0).1 = 9 then if 0 < ((stm h.2 x0 1 x3) x0 1) ∧ (kd ((stm h.2 x0 1 x3) x0 1)).1 = 5 then (vm 34 [(2, (stm h.2 x0 1 x3) x0 1)] (h.1, stm h.2 x0 1 x3)).bind (fun r6 => if (0 < x0 ∧ (kd x0).1 = 9) ∧ True then if (0 < x0 ∧ (kd x0).1 = 9) ∧ True then if 0 < x0 ∧ (kd x0).1 = 9 then if 0 < ((stm (stm r6.2.2 x0 2 0) x0 3 (-1)) x0 0) ∧ (kd ((stm (stm r6.2.2 x0 2 0) x0 3 (-1)) x0 0)).1 = 3 then (vm 20 [(2, (stm (stm r6.2.2 x0 2 0) x0 3 (-1)) x0 0), (2, x1), (0, x2)] (r6.2.1, stm (stm r6.2.2 x0 2 0) x0 3 (-1))).bind (fun r17 => vp 65 37 [(2, x0), (2, x1), (0, x2), (2, x3), (0, 1), (0, 0)] [] r17.2) else none else none else none else none) else none else none else none := by
  show vp 65 0 [(2, x0), (2, x1), (0, x2), (2, x3), (9, 0), (9, 0)] [] h = _
  refine s_aload_n (pc1 := 1) (tk (n := 0) t65_0 rfl) rfl rfl rfl ?_
  refine s_aload_n (pc1 := 2) (tk (n := 1) t65_0 rfl) rfl rfl rfl ?_
  refine s_putf2 (pc1 := 5) (c := 9) (tk (n := 2) t65_0 rfl) rfl rfl rfl rfl rfl ?_
  refine s_aload_n (pc1 := 6) (tk (n := 3) t65_0 rfl) rfl rfl rfl ?_
  refine s_getf (pc1 := 9) (c := 9) (t1 := 2) (tk (n := 4) t65_0 rfl) rfl rfl (by decide) rfl rfl ?_
  refine s_call9 (as := [(2, (stm h.2 x0 1 x3) x0 1)]) (st1 := []) (p1 := 12) (M2 := 34) (tk (n := 5) t65_0 rfl) rfl rfl rfl rfl rfl (fun r6 => ?_)
  refine s_aload_n (pc1 := 13) (tk (n := 6) t65_0 rfl) rfl rfl rfl ?_
  refine s_iconst (pc1 := 14) (tk (n := 7) t65_0 rfl) rfl rfl  ?_
  refine s_putf0 (pc1 := 17) (c := 9) (tk (n := 8) t65_0 rfl) rfl rfl rfl rfl rfl ?_
  refine s_aload_n (pc1 := 18) (tk (n := 9) t65_0 rfl) rfl rfl rfl ?_
  refine s_iconst (pc1 := 19) (tk (n := 10) t65_0 rfl) rfl rfl  ?_
  refine s_putf0 (pc1 := 22) (c := 9) (tk (n := 11) t65_0 rfl) rfl rfl rfl rfl rfl ?_
  refine s_aload_n (pc1 := 23) (tk (n := 12) t65_0 rfl) rfl rfl rfl ?_
  refine s_getf (pc1 := 26) (c := 9) (t1 := 2) (tk (n := 13) t65_0 rfl) rfl rfl (by decide) rfl rfl ?_
  refine s_aload_n (pc1 := 27) (tk (n := 14) t65_0 rfl) rfl rfl rfl ?_
  refine s_iload_n (pc1 := 28) (tk (n := 15) t65_0 rfl) rfl rfl rfl ?_
  refine s_call9 (as := [(2, (stm (stm r6.2.2 x0 2 0) x0 3 (-1)) x0 0), (2, x1), (0, x2)]) (st1 := []) (p1 := 31) (M2 := 20) (tk (n := 16) t65_0 rfl) rfl rfl rfl rfl rfl (fun r17 => ?_)
  refine s_iconst (pc1 := 32) (tk (n := 17) t65_0 rfl) rfl rfl  ?_
  refine s_istore (pc1 := 34) (ls1 := [(2, x0), (2, x1), (0, x2), (2, x3), (0, 1), (9, 0)]) (tk (n := 18) t65_0 rfl) rfl rfl rfl rfl ?_
  refine s_iconst (pc1 := 35) (tk (n := 19) t65_0 rfl) rfl rfl  ?_
  refine s_istore (pc1 := 37) (ls1 := [(2, x0), (2, x1), (0, x2), (2, x3), (0, 1), (0, 0)]) (tk (n := 20) t65_0 rfl) rfl rfl rfl rfl ?_
  rfl
set_option maxRecDepth 100000 in
set_option maxHeartbeats 4000000 in
theorem e_X9_tells_37 (x0 : Int) (z1 : Vl) (z2 : Vl) (z3 : Vl) (x4 : Int) (x5 : Int) (h : Hq) : vp 65 37 [(2, x0), z1, z2, z3, (0, x4), (0, x5)] [] h = if x5 ≥ 900 then (if x4 = 0 ∨ x4 = 1 then some (some (0, x4), h) else none) else (if x4 = 0 then (if x4 = 0 ∨ x4 = 1 then some (some (0, x4), h) else none) else (if 0 < x0 ∧ (kd x0).1 = 9 then if 0 < (h.2 x0 0) ∧ (kd (h.2 x0 0)).1 = 3 then if (h.2 (h.2 x0 0) 4) = 0 then (if x4 = 0 ∨ x4 = 1 then some (some (0, x4), h) else none) else (if 0 < x0 ∧ (kd x0).1 = 9 then if 0 < (h.2 x0 0) ∧ (kd (h.2 x0 0)).1 = 3 then if (h.2 (h.2 x0 0) 9) = 0 then (if 0 < x0 ∧ (kd x0).1 = 9 then (vm 75 [(2, x0)] h).bind (fun r15 => vp 65 37 [(2, x0), (9, 0), (9, 0), (9, 0), (0, vx r15), (0, w32 (x5 + 1))] [] r15.2) else none) else (if (h.2 (h.2 x0 0) 9) = 1 then (if 0 < x0 ∧ (kd x0).1 = 9 then (vm 66 [(2, x0), (0, 2)] h).bind (fun r16 => vp 65 37 [(2, x0), (9, 0), (9, 0), (9, 0), (0, vx r16), (0, w32 (x5 + 1))] [] r16.2) else none) else (if (h.2 (h.2 x0 0) 9) = 2 then (if 0 < x0 ∧ (kd x0).1 = 9 then (vm 66 [(2, x0), (0, 2)] h).bind (fun r16 => vp 65 37 [(2, x0), (9, 0), (9, 0), (9, 0), (0, vx r16), (0, w32 (x5 + 1))] [] r16.2) else none) else (if (h.2 (h.2 x0 0) 9) = 3 then (if 0 < x0 ∧ (kd x0).1 = 9 then (vm 76 [(2, x0)] h).bind (fun r15 => vp 65 37 [(2, x0), (9, 0), (9, 0), (9, 0), (0, vx r15), (0, w32 (x5 + 1))] [] r15.2) else none) else (if (h.2 (h.2 x0 0) 9) = 4 then (if 0 < x0 ∧ (kd x0).1 = 9 then (vm 77 [(2, x0), (0, 10)] h).bind (fun r16 => vp 65 37 [(2, x0), (9, 0), (9, 0), (9, 0), (0, vx r16), (0, w32 (x5 + 1))] [] r16.2) else none) else (if (h.2 (h.2 x0 0) 9) = 5 then (if 0 < x0 ∧ (kd x0).1 = 9 then (vm 77 [(2, x0), (0, 11)] h).bind (fun r16 => vp 65 37 [(2, x0), (9, 0), (9, 0), (9, 0), (0, vx r16), (0, w32 (x5 + 1))] [] r16.2) else none) else (if (h.2 (h.2 x0 0) 9) = 6 then (if 0 < x0 ∧ (kd x0).1 = 9 then (vm 78 [(2, x0)] h).bind (fun r15 => vp 65 37 [(2, x0), (9, 0), (9, 0), (9, 0), (0, vx r15), (0, w32 (x5 + 1))] [] r15.2) else none) else (if (h.2 (h.2 x0 0) 9) = 7 then (if 0 < x0 ∧ (kd x0).1 = 9 then (vm 66 [(2, x0), (0, 2)] h).bind (fun r16 => vp 65 37 [(2, x0), (9, 0), (9, 0), (9, 0), (0, vx r16), (0, w32 (x5 + 1))] [] r16.2) else none) else (if (h.2 (h.2 x0 0) 9) = 8 then (if 0 < x0 ∧ (kd x0).1 = 9 then (vm 66 [(2, x0), (0, 2)] h).bind (fun r16 => vp 65 37 [(2, x0), (9, 0), (9, 0), (9, 0), (0, vx r16), (0, w32 (x5 + 1))] [] r16.2) else none) else (if (h.2 (h.2 x0 0) 9) = 9 then (if 0 < x0 ∧ (kd x0).1 = 9 then (vm 66 [(2, x0), (0, 2)] h).bind (fun r16 => vp 65 37 [(2, x0), (9, 0), (9, 0), (9, 0), (0, vx r16), (0, w32 (x5 + 1))] [] r16.2) else none) else (if (h.2 (h.2 x0 0) 9) = 10 then (if 0 < x0 ∧ (kd x0).1 = 9 then (vm 66 [(2, x0), (0, 2)] h).bind (fun r16 => vp 65 37 [(2, x0), (9, 0), (9, 0), (9, 0), (0, vx r16), (0, w32 (x5 + 1))] [] r16.2) else none) else (if (h.2 (h.2 x0 0) 9) = 11 then (if 0 < x0 ∧ (kd x0).1 = 9 then (vm 81 [(2, x0)] h).bind (fun r15 => vp 65 37 [(2, x0), (9, 0), (9, 0), (9, 0), (0, vx r15), (0, w32 (x5 + 1))] [] r15.2) else none) else (if 0 < x0 ∧ (kd x0).1 = 9 then (vm 66 [(2, x0), (0, 2)] h).bind (fun r16 => vp 65 37 [(2, x0), (9, 0), (9, 0), (9, 0), (0, vx r16), (0, w32 (x5 + 1))] [] r16.2) else none)))))))))))) else none else none) else none else none)) := by
  refine s_fg (ls1 := [(2, x0), (9, 0), (9, 0), (9, 0), (0, x4), (0, x5)]) (tk (n := 21) t65_0 rfl) rfl ?_
  refine s_iload (pc1 := 39) (tk (n := 21) t65_0 rfl) rfl rfl rfl ?_
  refine s_sipush (pc1 := 42) (tk (n := 22) t65_0 rfl) rfl rfl  ?_
  refine s_ic_ge (pc1 := 45) (pt := 199) (tk (n := 23) t65_0 rfl) rfl rfl rfl ?_ ?_
  · refine s_iload (pc1 := 201) (tk (n := 6) t65_2 rfl) rfl rfl rfl ?_
    exact s_retG (tk (n := 7) t65_2 rfl) rfl rfl rfl
  · refine s_iload (pc1 := 47) (tk (n := 24) t65_0 rfl) rfl rfl rfl ?_
    refine s_if_eq (pc1 := 50) (pt := 199) (tk (n := 25) t65_0 rfl) rfl rfl rfl ?_ ?_
    · refine s_iload (pc1 := 201) (tk (n := 6) t65_2 rfl) rfl rfl rfl ?_
      exact s_retG (tk (n := 7) t65_2 rfl) rfl rfl rfl
    · refine s_aload_n (pc1 := 51) (tk (n := 26) t65_0 rfl) rfl rfl rfl ?_
      refine s_getf (pc1 := 54) (c := 9) (t1 := 2) (tk (n := 27) t65_0 rfl) rfl rfl (by decide) rfl rfl ?_
      refine s_getf (pc1 := 57) (c := 3) (t1 := 0) (tk (n := 28) t65_0 rfl) rfl rfl (by decide) rfl rfl ?_
      refine s_if_eq (pc1 := 60) (pt := 199) (tk (n := 29) t65_0 rfl) rfl rfl rfl ?_ ?_
      · refine s_iload (pc1 := 201) (tk (n := 6) t65_2 rfl) rfl rfl rfl ?_
        exact s_retG (tk (n := 7) t65_2 rfl) rfl rfl rfl
      · refine s_aload_n (pc1 := 61) (tk (n := 0) t65_1 rfl) rfl rfl rfl ?_
        refine s_getf (pc1 := 64) (c := 9) (t1 := 2) (tk (n := 1) t65_1 rfl) rfl rfl (by decide) rfl rfl ?_
        refine s_getf (pc1 := 67) (c := 3) (t1 := 0) (tk (n := 2) t65_1 rfl) rfl rfl (by decide) rfl rfl ?_
        refine s_sw (x := (h.2 (h.2 x0 0) 9)) (cs := [(0, 128), (1, 186), (2, 186), (3, 137), (4, 146), (5, 157), (6, 168), (7, 186), (8, 186), (9, 186), (10, 186), (11, 177)]) (p0 := 186) (st1 := []) (tk (n := 3) t65_1 rfl) rfl rfl ?_
        refine s_swC (p1 := 128) rfl ?_ ?_
        · refine s_aload_n (pc1 := 129) (tk (n := 4) t65_1 rfl) rfl rfl rfl ?_
          refine s_call0 (as := [(2, x0)]) (st1 := []) (p1 := 132) (M2 := 75) (tk (n := 5) t65_1 rfl) rfl rfl rfl rfl rfl (fun r15 => ?_)
          refine s_istore (pc1 := 134) (ls1 := [(2, x0), (9, 0), (9, 0), (9, 0), (0, vx r15), (0, x5)]) (tk (n := 6) t65_1 rfl) rfl rfl rfl rfl ?_
          refine s_goto (pc1 := 193) (tk (n := 7) t65_1 rfl) rfl rfl ?_
          refine s_iinc (pc1 := 196) (ls1 := [(2, x0), (9, 0), (9, 0), (9, 0), (0, vx r15), (0, w32 (x5 + 1))]) (tk (n := 4) t65_2 rfl) rfl rfl rfl rfl ?_
          refine s_goto (pc1 := 37) (tk (n := 5) t65_2 rfl) rfl rfl ?_
          rfl
        refine s_swC (p1 := 186) rfl ?_ ?_
        · refine s_aload_n (pc1 := 187) (tk (n := 0) t65_2 rfl) rfl rfl rfl ?_
          refine s_iconst (pc1 := 188) (tk (n := 1) t65_2 rfl) rfl rfl  ?_
          refine s_call0 (as := [(2, x0), (0, 2)]) (st1 := []) (p1 := 191) (M2 := 66) (tk (n := 2) t65_2 rfl) rfl rfl rfl rfl rfl (fun r16 => ?_)
          refine s_istore (pc1 := 193) (ls1 := [(2, x0), (9, 0), (9, 0), (9, 0), (0, vx r16), (0, x5)]) (tk (n := 3) t65_2 rfl) rfl rfl rfl rfl ?_
          refine s_iinc (pc1 := 196) (ls1 := [(2, x0), (9, 0), (9, 0), (9, 0), (0, vx r16), (0, w32 (x5 + 1))]) (tk (n := 4) t65_2 rfl) rfl rfl rfl rfl ?_
          refine s_goto (pc1 := 37) (tk (n := 5) t65_2 rfl) rfl rfl ?_
          rfl
        refine s_swC (p1 := 186) rfl ?_ ?_
        · refine s_aload_n (pc1 := 187) (tk (n := 0) t65_2 rfl) rfl rfl rfl ?_
          refine s_iconst (pc1 := 188) (tk (n := 1) t65_2 rfl) rfl rfl  ?_
          refine s_call0 (as := [(2, x0), (0, 2)]) (st1 := []) (p1 := 191) (M2 := 66) (tk (n := 2) t65_2 rfl) rfl rfl rfl rfl rfl (fun r16 => ?_)
          refine s_istore (pc1 := 193) (ls1 := [(2, x0), (9, 0), (9, 0), (9, 0), (0, vx r16), (0, x5)]) (tk (n := 3) t65_2 rfl) rfl rfl rfl rfl ?_
          refine s_iinc (pc1 := 196) (ls1 := [(2, x0), (9, 0), (9, 0), (9, 0), (0, vx r16), (0, w32 (x5 + 1))]) (tk (n := 4) t65_2 rfl) rfl rfl rfl rfl ?_
          refine s_goto (pc1 := 37) (tk (n := 5) t65_2 rfl) rfl rfl ?_
          rfl
        refine s_swC (p1 := 137) rfl ?_ ?_
        · refine s_aload_n (pc1 := 138) (tk (n := 8) t65_1 rfl) rfl rfl rfl ?_
          refine s_call0 (as := [(2, x0)]) (st1 := []) (p1 := 141) (M2 := 76) (tk (n := 9) t65_1 rfl) rfl rfl rfl rfl rfl (fun r15 => ?_)
          refine s_istore (pc1 := 143) (ls1 := [(2, x0), (9, 0), (9, 0), (9, 0), (0, vx r15), (0, x5)]) (tk (n := 10) t65_1 rfl) rfl rfl rfl rfl ?_
          refine s_goto (pc1 := 193) (tk (n := 11) t65_1 rfl) rfl rfl ?_
          refine s_iinc (pc1 := 196) (ls1 := [(2, x0), (9, 0), (9, 0), (9, 0), (0, vx r15), (0, w32 (x5 + 1))]) (tk (n := 4) t65_2 rfl) rfl rfl rfl rfl ?_
          refine s_goto (pc1 := 37) (tk (n := 5) t65_2 rfl) rfl rfl ?_
          rfl
        refine s_swC (p1 := 146) rfl ?_ ?_
        · refine s_aload_n (pc1 := 147) (tk (n := 12) t65_1 rfl) rfl rfl rfl ?_
          refine s_bipush (pc1 := 149) (tk (n := 13) t65_1 rfl) rfl rfl  ?_
          refine s_call0 (as := [(2, x0), (0, 10)]) (st1 := []) (p1 := 152) (M2 := 77) (tk (n := 14) t65_1 rfl) rfl rfl rfl rfl rfl (fun r16 => ?_)
          refine s_istore (pc1 := 154) (ls1 := [(2, x0), (9, 0), (9, 0), (9, 0), (0, vx r16), (0, x5)]) (tk (n := 15) t65_1 rfl) rfl rfl rfl rfl ?_
          refine s_goto (pc1 := 193) (tk (n := 16) t65_1 rfl) rfl rfl ?_
          refine s_iinc (pc1 := 196) (ls1 := [(2, x0), (9, 0), (9, 0), (9, 0), (0, vx r16), (0, w32 (x5 + 1))]) (tk (n := 4) t65_2 rfl) rfl rfl rfl rfl ?_
          refine s_goto (pc1 := 37) (tk (n := 5) t65_2 rfl) rfl rfl ?_
          rfl
        refine s_swC (p1 := 157) rfl ?_ ?_
        · refine s_aload_n (pc1 := 158) (tk (n := 17) t65_1 rfl) rfl rfl rfl ?_
          refine s_bipush (pc1 := 160) (tk (n := 18) t65_1 rfl) rfl rfl  ?_
          refine s_call0 (as := [(2, x0), (0, 11)]) (st1 := []) (p1 := 163) (M2 := 77) (tk (n := 19) t65_1 rfl) rfl rfl rfl rfl rfl (fun r16 => ?_)
          refine s_istore (pc1 := 165) (ls1 := [(2, x0), (9, 0), (9, 0), (9, 0), (0, vx r16), (0, x5)]) (tk (n := 20) t65_1 rfl) rfl rfl rfl rfl ?_
          refine s_goto (pc1 := 193) (tk (n := 21) t65_1 rfl) rfl rfl ?_
          refine s_iinc (pc1 := 196) (ls1 := [(2, x0), (9, 0), (9, 0), (9, 0), (0, vx r16), (0, w32 (x5 + 1))]) (tk (n := 4) t65_2 rfl) rfl rfl rfl rfl ?_
          refine s_goto (pc1 := 37) (tk (n := 5) t65_2 rfl) rfl rfl ?_
          rfl
        refine s_swC (p1 := 168) rfl ?_ ?_
        · refine s_aload_n (pc1 := 169) (tk (n := 22) t65_1 rfl) rfl rfl rfl ?_
          refine s_call0 (as := [(2, x0)]) (st1 := []) (p1 := 172) (M2 := 78) (tk (n := 23) t65_1 rfl) rfl rfl rfl rfl rfl (fun r15 => ?_)
          refine s_istore (pc1 := 174) (ls1 := [(2, x0), (9, 0), (9, 0), (9, 0), (0, vx r15), (0, x5)]) (tk (n := 24) t65_1 rfl) rfl rfl rfl rfl ?_
          refine s_goto (pc1 := 193) (tk (n := 25) t65_1 rfl) rfl rfl ?_
          refine s_iinc (pc1 := 196) (ls1 := [(2, x0), (9, 0), (9, 0), (9, 0), (0, vx r15), (0, w32 (x5 + 1))]) (tk (n := 4) t65_2 rfl) rfl rfl rfl rfl ?_
          refine s_goto (pc1 := 37) (tk (n := 5) t65_2 rfl) rfl rfl ?_
          rfl
        refine s_swC (p1 := 186) rfl ?_ ?_
        · refine s_aload_n (pc1 := 187) (tk (n := 0) t65_2 rfl) rfl rfl rfl ?_
          refine s_iconst (pc1 := 188) (tk (n := 1) t65_2 rfl) rfl rfl  ?_
          refine s_call0 (as := [(2, x0), (0, 2)]) (st1 := []) (p1 := 191) (M2 := 66) (tk (n := 2) t65_2 rfl) rfl rfl rfl rfl rfl (fun r16 => ?_)
          refine s_istore (pc1 := 193) (ls1 := [(2, x0), (9, 0), (9, 0), (9, 0), (0, vx r16), (0, x5)]) (tk (n := 3) t65_2 rfl) rfl rfl rfl rfl ?_
          refine s_iinc (pc1 := 196) (ls1 := [(2, x0), (9, 0), (9, 0), (9, 0), (0, vx r16), (0, w32 (x5 + 1))]) (tk (n := 4) t65_2 rfl) rfl rfl rfl rfl ?_
          refine s_goto (pc1 := 37) (tk (n := 5) t65_2 rfl) rfl rfl ?_
          rfl
        refine s_swC (p1 := 186) rfl ?_ ?_
        · refine s_aload_n (pc1 := 187) (tk (n := 0) t65_2 rfl) rfl rfl rfl ?_
          refine s_iconst (pc1 := 188) (tk (n := 1) t65_2 rfl) rfl rfl  ?_
          refine s_call0 (as := [(2, x0), (0, 2)]) (st1 := []) (p1 := 191) (M2 := 66) (tk (n := 2) t65_2 rfl) rfl rfl rfl rfl rfl (fun r16 => ?_)
          refine s_istore (pc1 := 193) (ls1 := [(2, x0), (9, 0), (9, 0), (9, 0), (0, vx r16), (0, x5)]) (tk (n := 3) t65_2 rfl) rfl rfl rfl rfl ?_
          refine s_iinc (pc1 := 196) (ls1 := [(2, x0), (9, 0), (9, 0), (9, 0), (0, vx r16), (0, w32 (x5 + 1))]) (tk (n := 4) t65_2 rfl) rfl rfl rfl rfl ?_
          refine s_goto (pc1 := 37) (tk (n := 5) t65_2 rfl) rfl rfl ?_
          rfl
        refine s_swC (p1 := 186) rfl ?_ ?_
        · refine s_aload_n (pc1 := 187) (tk (n := 0) t65_2 rfl) rfl rfl rfl ?_
          refine s_iconst (pc1 := 188) (tk (n := 1) t65_2 rfl) rfl rfl  ?_
          refine s_call0 (as := [(2, x0), (0, 2)]) (st1 := []) (p1 := 191) (M2 := 66) (tk (n := 2) t65_2 rfl) rfl rfl rfl rfl rfl (fun r16 => ?_)
          refine s_istore (pc1 := 193) (ls1 := [(2, x0), (9, 0), (9, 0), (9, 0), (0, vx r16), (0, x5)]) (tk (n := 3) t65_2 rfl) rfl rfl rfl rfl ?_
          refine s_iinc (pc1 := 196) (ls1 := [(2, x0), (9, 0), (9, 0), (9, 0), (0, vx r16), (0, w32 (x5 + 1))]) (tk (n := 4) t65_2 rfl) rfl rfl rfl rfl ?_
          refine s_goto (pc1 := 37) (tk (n := 5) t65_2 rfl) rfl rfl ?_
          rfl
        refine s_swC (p1 := 186) rfl ?_ ?_
        · refine s_aload_n (pc1 := 187) (tk (n := 0) t65_2 rfl) rfl rfl rfl ?_
          refine s_iconst (pc1 := 188) (tk (n := 1) t65_2 rfl) rfl rfl  ?_
          refine s_call0 (as := [(2, x0), (0, 2)]) (st1 := []) (p1 := 191) (M2 := 66) (tk (n := 2) t65_2 rfl) rfl rfl rfl rfl rfl (fun r16 => ?_)
          refine s_istore (pc1 := 193) (ls1 := [(2, x0), (9, 0), (9, 0), (9, 0), (0, vx r16), (0, x5)]) (tk (n := 3) t65_2 rfl) rfl rfl rfl rfl ?_
          refine s_iinc (pc1 := 196) (ls1 := [(2, x0), (9, 0), (9, 0), (9, 0), (0, vx r16), (0, w32 (x5 + 1))]) (tk (n := 4) t65_2 rfl) rfl rfl rfl rfl ?_
          refine s_goto (pc1 := 37) (tk (n := 5) t65_2 rfl) rfl rfl ?_
          rfl
        refine s_swC (p1 := 177) rfl ?_ ?_
        · refine s_aload_n (pc1 := 178) (tk (n := 26) t65_1 rfl) rfl rfl rfl ?_
          refine s_call0 (as := [(2, x0)]) (st1 := []) (p1 := 181) (M2 := 81) (tk (n := 27) t65_1 rfl) rfl rfl rfl rfl rfl (fun r15 => ?_)
          refine s_istore (pc1 := 183) (ls1 := [(2, x0), (9, 0), (9, 0), (9, 0), (0, vx r15), (0, x5)]) (tk (n := 28) t65_1 rfl) rfl rfl rfl rfl ?_
          refine s_goto (pc1 := 193) (tk (n := 29) t65_1 rfl) rfl rfl ?_
          refine s_iinc (pc1 := 196) (ls1 := [(2, x0), (9, 0), (9, 0), (9, 0), (0, vx r15), (0, w32 (x5 + 1))]) (tk (n := 4) t65_2 rfl) rfl rfl rfl rfl ?_
          refine s_goto (pc1 := 37) (tk (n := 5) t65_2 rfl) rfl rfl ?_
          rfl
        refine s_swN (d1 := 186) rfl ?_
        refine s_aload_n (pc1 := 187) (tk (n := 0) t65_2 rfl) rfl rfl rfl ?_
        refine s_iconst (pc1 := 188) (tk (n := 1) t65_2 rfl) rfl rfl  ?_
        refine s_call0 (as := [(2, x0), (0, 2)]) (st1 := []) (p1 := 191) (M2 := 66) (tk (n := 2) t65_2 rfl) rfl rfl rfl rfl rfl (fun r16 => ?_)
        refine s_istore (pc1 := 193) (ls1 := [(2, x0), (9, 0), (9, 0), (9, 0), (0, vx r16), (0, x5)]) (tk (n := 3) t65_2 rfl) rfl rfl rfl rfl ?_
        refine s_iinc (pc1 := 196) (ls1 := [(2, x0), (9, 0), (9, 0), (9, 0), (0, vx r16), (0, w32 (x5 + 1))]) (tk (n := 4) t65_2 rfl) rfl rfl rfl rfl ?_
        refine s_goto (pc1 := 37) (tk (n := 5) t65_2 rfl) rfl rfl ?_
        rfl
set_option maxRecDepth 100000 in
set_option maxHeartbeats 4000000 in
theorem e_X9_refuse (x0 : Int) (x1 : Int) (h : Hq) : vm 66 [(2, x0), (0, x1)] h = if 0 < x0 ∧ (kd x0).1 = 9 then if 0 < (h.2 x0 0) ∧ (kd (h.2 x0 0)).1 = 3 then if (h.2 (h.2 x0 0) 4) ≠ 4 then (if (0 < x0 ∧ (kd x0).1 = 9) ∧ True then if 0 < x0 ∧ (kd x0).1 = 9 then if 0 < ((stm h.2 x0 2 x1) x0 0) ∧ (kd ((stm h.2 x0 2 x1) x0 0)).1 = 3 then if (0 < x0 ∧ (kd x0).1 = 9) ∧ True then some (some (0, 0), (h.1, stm (stm h.2 x0 2 x1) x0 3 ((stm h.2 x0 2 x1) ((stm h.2 x0 2 x1) x0 0) 5))) else none else none else none else none) else (if (0 < x0 ∧ (kd x0).1 = 9) ∧ True then if 0 < x0 ∧ (kd x0).1 = 9 then if 0 < ((stm h.2 x0 2 1) x0 0) ∧ (kd ((stm h.2 x0 2 1) x0 0)).1 = 3 then if (0 < x0 ∧ (kd x0).1 = 9) ∧ True then some (some (0, 0), (h.1, stm (stm h.2 x0 2 1) x0 3 ((stm h.2 x0 2 1) ((stm h.2 x0 2 1) x0 0) 5))) else none else none else none else none) else none else none := by
  show vp 66 0 [(2, x0), (0, x1)] [] h = _
  refine s_aload_n (pc1 := 1) (tk (n := 0) t66_0 rfl) rfl rfl rfl ?_
  refine s_aload_n (pc1 := 2) (tk (n := 1) t66_0 rfl) rfl rfl rfl ?_
  refine s_getf (pc1 := 5) (c := 9) (t1 := 2) (tk (n := 2) t66_0 rfl) rfl rfl (by decide) rfl rfl ?_
  refine s_getf (pc1 := 8) (c := 3) (t1 := 0) (tk (n := 3) t66_0 rfl) rfl rfl (by decide) rfl rfl ?_
  refine s_iconst (pc1 := 9) (tk (n := 4) t66_0 rfl) rfl rfl  ?_
  refine s_ic_ne (pc1 := 12) (pt := 16) (tk (n := 5) t66_0 rfl) rfl rfl rfl ?_ ?_
  · refine s_iload_n (pc1 := 17) (tk (n := 8) t66_0 rfl) rfl rfl rfl ?_
    refine s_putf0 (pc1 := 20) (c := 9) (tk (n := 9) t66_0 rfl) rfl rfl rfl rfl rfl ?_
    refine s_aload_n (pc1 := 21) (tk (n := 10) t66_0 rfl) rfl rfl rfl ?_
    refine s_aload_n (pc1 := 22) (tk (n := 11) t66_0 rfl) rfl rfl rfl ?_
    refine s_getf (pc1 := 25) (c := 9) (t1 := 2) (tk (n := 12) t66_0 rfl) rfl rfl (by decide) rfl rfl ?_
    refine s_getf (pc1 := 28) (c := 3) (t1 := 0) (tk (n := 13) t66_0 rfl) rfl rfl (by decide) rfl rfl ?_
    refine s_putf0 (pc1 := 31) (c := 9) (tk (n := 14) t66_0 rfl) rfl rfl rfl rfl rfl ?_
    refine s_iconst (pc1 := 32) (tk (n := 15) t66_0 rfl) rfl rfl  ?_
    exact s_retY (tk (n := 16) t66_0 rfl) rfl rfl rfl (by decide)
  · refine s_iconst (pc1 := 13) (tk (n := 6) t66_0 rfl) rfl rfl  ?_
    refine s_goto (pc1 := 17) (tk (n := 7) t66_0 rfl) rfl rfl ?_
    refine s_putf0 (pc1 := 20) (c := 9) (tk (n := 9) t66_0 rfl) rfl rfl rfl rfl rfl ?_
    refine s_aload_n (pc1 := 21) (tk (n := 10) t66_0 rfl) rfl rfl rfl ?_
    refine s_aload_n (pc1 := 22) (tk (n := 11) t66_0 rfl) rfl rfl rfl ?_
    refine s_getf (pc1 := 25) (c := 9) (t1 := 2) (tk (n := 12) t66_0 rfl) rfl rfl (by decide) rfl rfl ?_
    refine s_getf (pc1 := 28) (c := 3) (t1 := 0) (tk (n := 13) t66_0 rfl) rfl rfl (by decide) rfl rfl ?_
    refine s_putf0 (pc1 := 31) (c := 9) (tk (n := 14) t66_0 rfl) rfl rfl rfl rfl rfl ?_
    refine s_iconst (pc1 := 32) (tk (n := 15) t66_0 rfl) rfl rfl  ?_
    exact s_retY (tk (n := 16) t66_0 rfl) rfl rfl rfl (by decide)
set_option maxRecDepth 100000 in
set_option maxHeartbeats 4000000 in
theorem e_X9_passOneOf (x0 : Int) (x1 : Int) (x2 : Int) (h : Hq) : vm 67 [(2, x0), (0, x1), (0, x2)] h = if 0 < x0 ∧ (kd x0).1 = 9 then if 0 < (h.2 x0 0) ∧ (kd (h.2 x0 0)).1 = 3 then if (h.2 (h.2 x0 0) 9) < x1 then (if 0 < x0 ∧ (kd x0).1 = 9 then (vm 66 [(2, x0), (0, 2)] h).bind (fun r8 => if (vx r8) = 0 ∨ (vx r8) = 1 then some (some (0, vx r8), r8.2) else none) else none) else (if 0 < x0 ∧ (kd x0).1 = 9 then if 0 < (h.2 x0 0) ∧ (kd (h.2 x0 0)).1 = 3 then if (h.2 (h.2 x0 0) 9) < (w32 (x1 + x2)) then (if 0 < x0 ∧ (kd x0).1 = 9 then if 0 < (h.2 x0 0) ∧ (kd (h.2 x0 0)).1 = 3 then if (0 < x0 ∧ (kd x0).1 = 9) ∧ True then if 0 < x0 ∧ (kd x0).1 = 9 then if 0 < ((stm h.2 x0 4 (w32 ((h.2 (h.2 x0 0) 9) - x1))) x0 0) ∧ (kd ((stm h.2 x0 4 (w32 ((h.2 (h.2 x0 0) 9) - x1))) x0 0)).1 = 3 then (vm 21 [(2, (stm h.2 x0 4 (w32 ((h.2 (h.2 x0 0) 9) - x1))) x0 0)] (h.1, stm h.2 x0 4 (w32 ((h.2 (h.2 x0 0) 9) - x1)))).bind (fun r22 => some (some (0, 1), r22.2)) else none else none else none else none else none) else (if 0 < x0 ∧ (kd x0).1 = 9 then (vm 66 [(2, x0), (0, 2)] h).bind (fun r15 => if (vx r15) = 0 ∨ (vx r15) = 1 then some (some (0, vx r15), r15.2) else none) else none) else none else none) else none else none := by
  show vp 67 0 [(2, x0), (0, x1), (0, x2)] [] h = _
  refine s_aload_n (pc1 := 1) (tk (n := 0) t67_0 rfl) rfl rfl rfl ?_
  refine s_getf (pc1 := 4) (c := 9) (t1 := 2) (tk (n := 1) t67_0 rfl) rfl rfl (by decide) rfl rfl ?_
  refine s_getf (pc1 := 7) (c := 3) (t1 := 0) (tk (n := 2) t67_0 rfl) rfl rfl (by decide) rfl rfl ?_
  refine s_iload_n (pc1 := 8) (tk (n := 3) t67_0 rfl) rfl rfl rfl ?_
  refine s_ic_lt (pc1 := 11) (pt := 24) (tk (n := 4) t67_0 rfl) rfl rfl rfl ?_ ?_
  · refine s_aload_n (pc1 := 25) (tk (n := 12) t67_0 rfl) rfl rfl rfl ?_
    refine s_iconst (pc1 := 26) (tk (n := 13) t67_0 rfl) rfl rfl  ?_
    refine s_call0 (as := [(2, x0), (0, 2)]) (st1 := []) (p1 := 29) (M2 := 66) (tk (n := 14) t67_0 rfl) rfl rfl rfl rfl rfl (fun r8 => ?_)
    exact s_retG (tk (n := 15) t67_0 rfl) rfl rfl rfl
  · refine s_aload_n (pc1 := 12) (tk (n := 5) t67_0 rfl) rfl rfl rfl ?_
    refine s_getf (pc1 := 15) (c := 9) (t1 := 2) (tk (n := 6) t67_0 rfl) rfl rfl (by decide) rfl rfl ?_
    refine s_getf (pc1 := 18) (c := 3) (t1 := 0) (tk (n := 7) t67_0 rfl) rfl rfl (by decide) rfl rfl ?_
    refine s_iload_n (pc1 := 19) (tk (n := 8) t67_0 rfl) rfl rfl rfl ?_
    refine s_iload_n (pc1 := 20) (tk (n := 9) t67_0 rfl) rfl rfl rfl ?_
    refine s_iadd (pc1 := 21) (tk (n := 10) t67_0 rfl) rfl rfl  ?_
    refine s_ic_lt (pc1 := 24) (pt := 30) (tk (n := 11) t67_0 rfl) rfl rfl rfl ?_ ?_
    · refine s_aload_n (pc1 := 31) (tk (n := 16) t67_0 rfl) rfl rfl rfl ?_
      refine s_aload_n (pc1 := 32) (tk (n := 17) t67_0 rfl) rfl rfl rfl ?_
      refine s_getf (pc1 := 35) (c := 9) (t1 := 2) (tk (n := 18) t67_0 rfl) rfl rfl (by decide) rfl rfl ?_
      refine s_getf (pc1 := 38) (c := 3) (t1 := 0) (tk (n := 19) t67_0 rfl) rfl rfl (by decide) rfl rfl ?_
      refine s_iload_n (pc1 := 39) (tk (n := 20) t67_0 rfl) rfl rfl rfl ?_
      refine s_isub (pc1 := 40) (tk (n := 21) t67_0 rfl) rfl rfl  ?_
      refine s_putf0 (pc1 := 43) (c := 9) (tk (n := 22) t67_0 rfl) rfl rfl rfl rfl rfl ?_
      refine s_aload_n (pc1 := 44) (tk (n := 23) t67_0 rfl) rfl rfl rfl ?_
      refine s_getf (pc1 := 47) (c := 9) (t1 := 2) (tk (n := 24) t67_0 rfl) rfl rfl (by decide) rfl rfl ?_
      refine s_call9 (as := [(2, (stm h.2 x0 4 (w32 ((h.2 (h.2 x0 0) 9) - x1))) x0 0)]) (st1 := []) (p1 := 50) (M2 := 21) (tk (n := 25) t67_0 rfl) rfl rfl rfl rfl rfl (fun r22 => ?_)
      refine s_iconst (pc1 := 51) (tk (n := 26) t67_0 rfl) rfl rfl  ?_
      exact s_retY (tk (n := 27) t67_0 rfl) rfl rfl rfl (by decide)
    · refine s_aload_n (pc1 := 25) (tk (n := 12) t67_0 rfl) rfl rfl rfl ?_
      refine s_iconst (pc1 := 26) (tk (n := 13) t67_0 rfl) rfl rfl  ?_
      refine s_call0 (as := [(2, x0), (0, 2)]) (st1 := []) (p1 := 29) (M2 := 66) (tk (n := 14) t67_0 rfl) rfl rfl rfl rfl rfl (fun r15 => ?_)
      exact s_retG (tk (n := 15) t67_0 rfl) rfl rfl rfl
set_option maxRecDepth 100000 in
set_option maxHeartbeats 4000000 in
theorem e_X9_passSign (x0 : Int) (h : Hq) : vm 68 [(2, x0)] h = if 0 < x0 ∧ (kd x0).1 = 9 then if 0 < (h.2 x0 0) ∧ (kd (h.2 x0 0)).1 = 3 then if (h.2 (h.2 x0 0) 4) = 1 then (if 0 < x0 ∧ (kd x0).1 = 9 then if 0 < (h.2 x0 0) ∧ (kd (h.2 x0 0)).1 = 3 then (vm 21 [(2, h.2 x0 0)] h).bind (fun r8 => some (some (0, 1), r8.2)) else none else none) else (if 0 < x0 ∧ (kd x0).1 = 9 then (vm 66 [(2, x0), (0, 2)] h).bind (fun r8 => if (vx r8) = 0 ∨ (vx r8) = 1 then some (some (0, vx r8), r8.2) else none) else none) else none else none := by
  show vp 68 0 [(2, x0)] [] h = _
  refine s_aload_n (pc1 := 1) (tk (n := 0) t68_0 rfl) rfl rfl rfl ?_
  refine s_getf (pc1 := 4) (c := 9) (t1 := 2) (tk (n := 1) t68_0 rfl) rfl rfl (by decide) rfl rfl ?_
  refine s_getf (pc1 := 7) (c := 3) (t1 := 0) (tk (n := 2) t68_0 rfl) rfl rfl (by decide) rfl rfl ?_
  refine s_iconst (pc1 := 8) (tk (n := 3) t68_0 rfl) rfl rfl  ?_
  refine s_ic_eq (pc1 := 11) (pt := 17) (tk (n := 4) t68_0 rfl) rfl rfl rfl ?_ ?_
  · refine s_aload_n (pc1 := 18) (tk (n := 9) t68_0 rfl) rfl rfl rfl ?_
    refine s_getf (pc1 := 21) (c := 9) (t1 := 2) (tk (n := 10) t68_0 rfl) rfl rfl (by decide) rfl rfl ?_
    refine s_call9 (as := [(2, h.2 x0 0)]) (st1 := []) (p1 := 24) (M2 := 21) (tk (n := 11) t68_0 rfl) rfl rfl rfl rfl rfl (fun r8 => ?_)
    refine s_iconst (pc1 := 25) (tk (n := 12) t68_0 rfl) rfl rfl  ?_
    exact s_retY (tk (n := 13) t68_0 rfl) rfl rfl rfl (by decide)
  · refine s_aload_n (pc1 := 12) (tk (n := 5) t68_0 rfl) rfl rfl rfl ?_
    refine s_iconst (pc1 := 13) (tk (n := 6) t68_0 rfl) rfl rfl  ?_
    refine s_call0 (as := [(2, x0), (0, 2)]) (st1 := []) (p1 := 16) (M2 := 66) (tk (n := 7) t68_0 rfl) rfl rfl rfl rfl rfl (fun r8 => ?_)
    exact s_retG (tk (n := 8) t68_0 rfl) rfl rfl rfl
set_option maxRecDepth 100000 in
set_option maxHeartbeats 4000000 in
theorem e_X9_passNumber (x0 : Int) (x1 : Int) (x2 : Int) (h : Hq) : vm 69 [(2, x0), (0, x1), (0, x2)] h = if 0 < x0 ∧ (kd x0).1 = 9 then (vm 70 [(2, x0), (0, x1), (0, x2)] h).bind (fun r4 => if (vx r4) ≠ 0 then (if 0 < x0 ∧ (kd x0).1 = 9 then if 0 < (r4.2.2 x0 0) ∧ (kd (r4.2.2 x0 0)).1 = 3 then if (0 < x0 ∧ (kd x0).1 = 9) ∧ True then if 0 < x0 ∧ (kd x0).1 = 9 then if 0 < ((stm r4.2.2 x0 4 (r4.2.2 (r4.2.2 x0 0) 6)) x0 0) ∧ (kd ((stm r4.2.2 x0 4 (r4.2.2 (r4.2.2 x0 0) 6)) x0 0)).1 = 3 then (vm 21 [(2, (stm r4.2.2 x0 4 (r4.2.2 (r4.2.2 x0 0) 6)) x0 0)] (r4.2.1, stm r4.2.2 x0 4 (r4.2.2 (r4.2.2 x0 0) 6))).bind (fun r13 => some (some (0, 1), r13.2)) else none else none else none else none else none) else (some (some (0, 0), r4.2))) else none := by
  show vp 69 0 [(2, x0), (0, x1), (0, x2)] [] h = _
  refine s_aload_n (pc1 := 1) (tk (n := 0) t69_0 rfl) rfl rfl rfl ?_
  refine s_iload_n (pc1 := 2) (tk (n := 1) t69_0 rfl) rfl rfl rfl ?_
  refine s_iload_n (pc1 := 3) (tk (n := 2) t69_0 rfl) rfl rfl rfl ?_
  refine s_call0 (as := [(2, x0), (0, x1), (0, x2)]) (st1 := []) (p1 := 6) (M2 := 70) (tk (n := 3) t69_0 rfl) rfl rfl rfl rfl rfl (fun r4 => ?_)
  refine s_if_ne (pc1 := 9) (pt := 11) (tk (n := 4) t69_0 rfl) rfl rfl rfl ?_ ?_
  · refine s_aload_n (pc1 := 12) (tk (n := 7) t69_0 rfl) rfl rfl rfl ?_
    refine s_aload_n (pc1 := 13) (tk (n := 8) t69_0 rfl) rfl rfl rfl ?_
    refine s_getf (pc1 := 16) (c := 9) (t1 := 2) (tk (n := 9) t69_0 rfl) rfl rfl (by decide) rfl rfl ?_
    refine s_getf (pc1 := 19) (c := 3) (t1 := 0) (tk (n := 10) t69_0 rfl) rfl rfl (by decide) rfl rfl ?_
    refine s_putf0 (pc1 := 22) (c := 9) (tk (n := 11) t69_0 rfl) rfl rfl rfl rfl rfl ?_
    refine s_aload_n (pc1 := 23) (tk (n := 12) t69_0 rfl) rfl rfl rfl ?_
    refine s_getf (pc1 := 26) (c := 9) (t1 := 2) (tk (n := 13) t69_0 rfl) rfl rfl (by decide) rfl rfl ?_
    refine s_call9 (as := [(2, (stm r4.2.2 x0 4 (r4.2.2 (r4.2.2 x0 0) 6)) x0 0)]) (st1 := []) (p1 := 29) (M2 := 21) (tk (n := 14) t69_0 rfl) rfl rfl rfl rfl rfl (fun r13 => ?_)
    refine s_iconst (pc1 := 30) (tk (n := 15) t69_0 rfl) rfl rfl  ?_
    exact s_retY (tk (n := 16) t69_0 rfl) rfl rfl rfl (by decide)
  · refine s_iconst (pc1 := 10) (tk (n := 5) t69_0 rfl) rfl rfl  ?_
    exact s_retY (tk (n := 6) t69_0 rfl) rfl rfl rfl (by decide)
set_option maxRecDepth 100000 in
set_option maxHeartbeats 4000000 in
theorem e_X9_isNumber (x0 : Int) (x1 : Int) (x2 : Int) (h : Hq) : vm 70 [(2, x0), (0, x1), (0, x2)] h = if 0 < x0 ∧ (kd x0).1 = 9 then if 0 < (h.2 x0 0) ∧ (kd (h.2 x0 0)).1 = 3 then if (h.2 (h.2 x0 0) 4) = 2 then (if 0 < x0 ∧ (kd x0).1 = 9 then if 0 < (h.2 x0 0) ∧ (kd (h.2 x0 0)).1 = 3 then if (h.2 (h.2 x0 0) 6) < x1 then (if 0 < x0 ∧ (kd x0).1 = 9 then (vm 66 [(2, x0), (0, 4)] h).bind (fun r13 => if (vx r13) = 0 ∨ (vx r13) = 1 then some (some (0, vx r13), r13.2) else none) else none) else (if 0 < x0 ∧ (kd x0).1 = 9 then if 0 < (h.2 x0 0) ∧ (kd (h.2 x0 0)).1 = 3 then if (h.2 (h.2 x0 0) 6) ≤ x2 then (some (some (0, 1), h)) else (if 0 < x0 ∧ (kd x0).1 = 9 then (vm 66 [(2, x0), (0, 4)] h).bind (fun r18 => if (vx r18) = 0 ∨ (vx r18) = 1 then some (some (0, vx r18), r18.2) else none) else none) else none else none) else none else none) else (if 0 < x0 ∧ (kd x0).1 = 9 then (vm 66 [(2, x0), (0, 2)] h).bind (fun r8 => if (vx r8) = 0 ∨ (vx r8) = 1 then some (some (0, vx r8), r8.2) else none) else none) else none else none := by
  show vp 70 0 [(2, x0), (0, x1), (0, x2)] [] h = _
  refine s_aload_n (pc1 := 1) (tk (n := 0) t70_0 rfl) rfl rfl rfl ?_
  refine s_getf (pc1 := 4) (c := 9) (t1 := 2) (tk (n := 1) t70_0 rfl) rfl rfl (by decide) rfl rfl ?_
  refine s_getf (pc1 := 7) (c := 3) (t1 := 0) (tk (n := 2) t70_0 rfl) rfl rfl (by decide) rfl rfl ?_
  refine s_iconst (pc1 := 8) (tk (n := 3) t70_0 rfl) rfl rfl  ?_
  refine s_ic_eq (pc1 := 11) (pt := 17) (tk (n := 4) t70_0 rfl) rfl rfl rfl ?_ ?_
  · refine s_aload_n (pc1 := 18) (tk (n := 9) t70_0 rfl) rfl rfl rfl ?_
    refine s_getf (pc1 := 21) (c := 9) (t1 := 2) (tk (n := 10) t70_0 rfl) rfl rfl (by decide) rfl rfl ?_
    refine s_getf (pc1 := 24) (c := 3) (t1 := 0) (tk (n := 11) t70_0 rfl) rfl rfl (by decide) rfl rfl ?_
    refine s_iload_n (pc1 := 25) (tk (n := 12) t70_0 rfl) rfl rfl rfl ?_
    refine s_ic_lt (pc1 := 28) (pt := 39) (tk (n := 13) t70_0 rfl) rfl rfl rfl ?_ ?_
    · refine s_aload_n (pc1 := 40) (tk (n := 19) t70_0 rfl) rfl rfl rfl ?_
      refine s_iconst (pc1 := 41) (tk (n := 20) t70_0 rfl) rfl rfl  ?_
      refine s_call0 (as := [(2, x0), (0, 4)]) (st1 := []) (p1 := 44) (M2 := 66) (tk (n := 21) t70_0 rfl) rfl rfl rfl rfl rfl (fun r13 => ?_)
      exact s_retG (tk (n := 22) t70_0 rfl) rfl rfl rfl
    · refine s_aload_n (pc1 := 29) (tk (n := 14) t70_0 rfl) rfl rfl rfl ?_
      refine s_getf (pc1 := 32) (c := 9) (t1 := 2) (tk (n := 15) t70_0 rfl) rfl rfl (by decide) rfl rfl ?_
      refine s_getf (pc1 := 35) (c := 3) (t1 := 0) (tk (n := 16) t70_0 rfl) rfl rfl (by decide) rfl rfl ?_
      refine s_iload_n (pc1 := 36) (tk (n := 17) t70_0 rfl) rfl rfl rfl ?_
      refine s_ic_le (pc1 := 39) (pt := 45) (tk (n := 18) t70_0 rfl) rfl rfl rfl ?_ ?_
      · refine s_iconst (pc1 := 46) (tk (n := 23) t70_0 rfl) rfl rfl  ?_
        exact s_retY (tk (n := 24) t70_0 rfl) rfl rfl rfl (by decide)
      · refine s_aload_n (pc1 := 40) (tk (n := 19) t70_0 rfl) rfl rfl rfl ?_
        refine s_iconst (pc1 := 41) (tk (n := 20) t70_0 rfl) rfl rfl  ?_
        refine s_call0 (as := [(2, x0), (0, 4)]) (st1 := []) (p1 := 44) (M2 := 66) (tk (n := 21) t70_0 rfl) rfl rfl rfl rfl rfl (fun r18 => ?_)
        exact s_retG (tk (n := 22) t70_0 rfl) rfl rfl rfl
  · refine s_aload_n (pc1 := 12) (tk (n := 5) t70_0 rfl) rfl rfl rfl ?_
    refine s_iconst (pc1 := 13) (tk (n := 6) t70_0 rfl) rfl rfl  ?_
    refine s_call0 (as := [(2, x0), (0, 2)]) (st1 := []) (p1 := 16) (M2 := 66) (tk (n := 7) t70_0 rfl) rfl rfl rfl rfl rfl (fun r8 => ?_)
    exact s_retG (tk (n := 8) t70_0 rfl) rfl rfl rfl
set_option maxRecDepth 100000 in
set_option maxHeartbeats 4000000 in
theorem e_X9_passPower (x0 : Int) (x1 : Int) (h : Hq) : vm 71 [(2, x0), (0, x1)] h = if 0 < x0 ∧ (kd x0).1 = 9 then (vm 70 [(2, x0), (0, 1), (0, x1)] h).bind (fun r4 => if (vx r4) ≠ 0 then (if 0 < x0 ∧ (kd x0).1 = 9 then if 0 < (r4.2.2 x0 0) ∧ (kd (r4.2.2 x0 0)).1 = 3 then (vm 309 [(0, r4.2.2 (r4.2.2 x0 0) 6)] r4.2).bind (fun r9 => if (vx r9) = 1 then (if 0 < x0 ∧ (kd x0).1 = 9 then if 0 < (r9.2.2 x0 0) ∧ (kd (r9.2.2 x0 0)).1 = 3 then if (0 < x0 ∧ (kd x0).1 = 9) ∧ True then if 0 < x0 ∧ (kd x0).1 = 9 then if 0 < ((stm r9.2.2 x0 4 (r9.2.2 (r9.2.2 x0 0) 6)) x0 0) ∧ (kd ((stm r9.2.2 x0 4 (r9.2.2 (r9.2.2 x0 0) 6)) x0 0)).1 = 3 then (vm 21 [(2, (stm r9.2.2 x0 4 (r9.2.2 (r9.2.2 x0 0) 6)) x0 0)] (r9.2.1, stm r9.2.2 x0 4 (r9.2.2 (r9.2.2 x0 0) 6))).bind (fun r19 => some (some (0, 1), r19.2)) else none else none else none else none else none) else (if 0 < x0 ∧ (kd x0).1 = 9 then (vm 66 [(2, x0), (0, 4)] r9.2).bind (fun r14 => if (vx r14) = 0 ∨ (vx r14) = 1 then some (some (0, vx r14), r14.2) else none) else none)) else none else none) else (some (some (0, 0), r4.2))) else none := by
  show vp 71 0 [(2, x0), (0, x1)] [] h = _
  refine s_aload_n (pc1 := 1) (tk (n := 0) t71_0 rfl) rfl rfl rfl ?_
  refine s_iconst (pc1 := 2) (tk (n := 1) t71_0 rfl) rfl rfl  ?_
  refine s_iload_n (pc1 := 3) (tk (n := 2) t71_0 rfl) rfl rfl rfl ?_
  refine s_call0 (as := [(2, x0), (0, 1), (0, x1)]) (st1 := []) (p1 := 6) (M2 := 70) (tk (n := 3) t71_0 rfl) rfl rfl rfl rfl rfl (fun r4 => ?_)
  refine s_if_ne (pc1 := 9) (pt := 11) (tk (n := 4) t71_0 rfl) rfl rfl rfl ?_ ?_
  · refine s_aload_n (pc1 := 12) (tk (n := 7) t71_0 rfl) rfl rfl rfl ?_
    refine s_getf (pc1 := 15) (c := 9) (t1 := 2) (tk (n := 8) t71_0 rfl) rfl rfl (by decide) rfl rfl ?_
    refine s_getf (pc1 := 18) (c := 3) (t1 := 0) (tk (n := 9) t71_0 rfl) rfl rfl (by decide) rfl rfl ?_
    refine s_callS0 (as := [(0, r4.2.2 (r4.2.2 x0 0) 6)]) (st1 := []) (p1 := 21) (M2 := 309) (tk (n := 10) t71_0 rfl) rfl rfl rfl rfl rfl (fun r9 => ?_)
    refine s_iconst (pc1 := 22) (tk (n := 11) t71_0 rfl) rfl rfl  ?_
    refine s_ic_eq (pc1 := 25) (pt := 31) (tk (n := 12) t71_0 rfl) rfl rfl rfl ?_ ?_
    · refine s_aload_n (pc1 := 32) (tk (n := 17) t71_0 rfl) rfl rfl rfl ?_
      refine s_aload_n (pc1 := 33) (tk (n := 18) t71_0 rfl) rfl rfl rfl ?_
      refine s_getf (pc1 := 36) (c := 9) (t1 := 2) (tk (n := 19) t71_0 rfl) rfl rfl (by decide) rfl rfl ?_
      refine s_getf (pc1 := 39) (c := 3) (t1 := 0) (tk (n := 20) t71_0 rfl) rfl rfl (by decide) rfl rfl ?_
      refine s_putf0 (pc1 := 42) (c := 9) (tk (n := 21) t71_0 rfl) rfl rfl rfl rfl rfl ?_
      refine s_aload_n (pc1 := 43) (tk (n := 22) t71_0 rfl) rfl rfl rfl ?_
      refine s_getf (pc1 := 46) (c := 9) (t1 := 2) (tk (n := 23) t71_0 rfl) rfl rfl (by decide) rfl rfl ?_
      refine s_call9 (as := [(2, (stm r9.2.2 x0 4 (r9.2.2 (r9.2.2 x0 0) 6)) x0 0)]) (st1 := []) (p1 := 49) (M2 := 21) (tk (n := 24) t71_0 rfl) rfl rfl rfl rfl rfl (fun r19 => ?_)
      refine s_iconst (pc1 := 50) (tk (n := 25) t71_0 rfl) rfl rfl  ?_
      exact s_retY (tk (n := 26) t71_0 rfl) rfl rfl rfl (by decide)
    · refine s_aload_n (pc1 := 26) (tk (n := 13) t71_0 rfl) rfl rfl rfl ?_
      refine s_iconst (pc1 := 27) (tk (n := 14) t71_0 rfl) rfl rfl  ?_
      refine s_call0 (as := [(2, x0), (0, 4)]) (st1 := []) (p1 := 30) (M2 := 66) (tk (n := 15) t71_0 rfl) rfl rfl rfl rfl rfl (fun r14 => ?_)
      exact s_retG (tk (n := 16) t71_0 rfl) rfl rfl rfl
  · refine s_iconst (pc1 := 10) (tk (n := 5) t71_0 rfl) rfl rfl  ?_
    exact s_retY (tk (n := 6) t71_0 rfl) rfl rfl rfl (by decide)
set_option maxRecDepth 100000 in
set_option maxHeartbeats 4000000 in
theorem e_X9_isName (x0 : Int) (h : Hq) : vm 72 [(2, x0)] h = if 0 < x0 ∧ (kd x0).1 = 9 then if 0 < (h.2 x0 0) ∧ (kd (h.2 x0 0)).1 = 3 then if (h.2 (h.2 x0 0) 4) ≠ 3 then (if 0 < x0 ∧ (kd x0).1 = 9 then (vm 66 [(2, x0), (0, 2)] h).bind (fun r12 => if (vx r12) = 0 then (some (some (0, 0), r12.2)) else (some (some (0, 1), r12.2))) else none) else (if 0 < x0 ∧ (kd x0).1 = 9 then if 0 < (h.2 x0 0) ∧ (kd (h.2 x0 0)).1 = 3 then if (h.2 (h.2 x0 0) 9) ≠ (-1) then (if 0 < x0 ∧ (kd x0).1 = 9 then (vm 66 [(2, x0), (0, 2)] h).bind (fun r17 => if (vx r17) = 0 then (some (some (0, 0), r17.2)) else (some (some (0, 1), r17.2))) else none) else (if 0 < x0 ∧ (kd x0).1 = 9 then if 0 < (h.2 x0 0) ∧ (kd (h.2 x0 0)).1 = 3 then if (h.2 (h.2 x0 0) 8) > 7 then (if 0 < x0 ∧ (kd x0).1 = 9 then (vm 66 [(2, x0), (0, 2)] h).bind (fun r22 => if (vx r22) = 0 then (some (some (0, 0), r22.2)) else (some (some (0, 1), r22.2))) else none) else (some (some (0, 1), h)) else none else none) else none else none) else none else none := by
  show vp 72 0 [(2, x0), (9, 0)] [] h = _
  refine s_aload_n (pc1 := 1) (tk (n := 0) t72_0 rfl) rfl rfl rfl ?_
  refine s_getf (pc1 := 4) (c := 9) (t1 := 2) (tk (n := 1) t72_0 rfl) rfl rfl (by decide) rfl rfl ?_
  refine s_getf (pc1 := 7) (c := 3) (t1 := 0) (tk (n := 2) t72_0 rfl) rfl rfl (by decide) rfl rfl ?_
  refine s_iconst (pc1 := 8) (tk (n := 3) t72_0 rfl) rfl rfl  ?_
  refine s_ic_ne (pc1 := 11) (pt := 38) (tk (n := 4) t72_0 rfl) rfl rfl rfl ?_ ?_
  · refine s_iconst (pc1 := 39) (tk (n := 17) t72_0 rfl) rfl rfl  ?_
    refine s_istore_n (pc1 := 40) (ls1 := [(2, x0), (0, 0)]) (tk (n := 18) t72_0 rfl) rfl rfl rfl rfl ?_
    refine s_iload_n (pc1 := 41) (tk (n := 19) t72_0 rfl) rfl rfl rfl ?_
    refine s_ifN_ne (pc1 := 44) (tk (n := 20) t72_0 rfl) rfl rfl (by decide) ?_
    refine s_aload_n (pc1 := 45) (tk (n := 21) t72_0 rfl) rfl rfl rfl ?_
    refine s_iconst (pc1 := 46) (tk (n := 22) t72_0 rfl) rfl rfl  ?_
    refine s_call0 (as := [(2, x0), (0, 2)]) (st1 := []) (p1 := 49) (M2 := 66) (tk (n := 23) t72_0 rfl) rfl rfl rfl rfl rfl (fun r12 => ?_)
    refine s_if_eq (pc1 := 52) (pt := 56) (tk (n := 24) t72_0 rfl) rfl rfl rfl ?_ ?_
    · refine s_iconst (pc1 := 57) (tk (n := 27) t72_0 rfl) rfl rfl  ?_
      exact s_retY (tk (n := 28) t72_0 rfl) rfl rfl rfl (by decide)
    · refine s_iconst (pc1 := 53) (tk (n := 25) t72_0 rfl) rfl rfl  ?_
      refine s_goto (pc1 := 57) (tk (n := 26) t72_0 rfl) rfl rfl ?_
      exact s_retY (tk (n := 28) t72_0 rfl) rfl rfl rfl (by decide)
  · refine s_aload_n (pc1 := 12) (tk (n := 5) t72_0 rfl) rfl rfl rfl ?_
    refine s_getf (pc1 := 15) (c := 9) (t1 := 2) (tk (n := 6) t72_0 rfl) rfl rfl (by decide) rfl rfl ?_
    refine s_getf (pc1 := 18) (c := 3) (t1 := 0) (tk (n := 7) t72_0 rfl) rfl rfl (by decide) rfl rfl ?_
    refine s_iconst (pc1 := 19) (tk (n := 8) t72_0 rfl) rfl rfl  ?_
    refine s_ic_ne (pc1 := 22) (pt := 38) (tk (n := 9) t72_0 rfl) rfl rfl rfl ?_ ?_
    · refine s_iconst (pc1 := 39) (tk (n := 17) t72_0 rfl) rfl rfl  ?_
      refine s_istore_n (pc1 := 40) (ls1 := [(2, x0), (0, 0)]) (tk (n := 18) t72_0 rfl) rfl rfl rfl rfl ?_
      refine s_iload_n (pc1 := 41) (tk (n := 19) t72_0 rfl) rfl rfl rfl ?_
      refine s_ifN_ne (pc1 := 44) (tk (n := 20) t72_0 rfl) rfl rfl (by decide) ?_
      refine s_aload_n (pc1 := 45) (tk (n := 21) t72_0 rfl) rfl rfl rfl ?_
      refine s_iconst (pc1 := 46) (tk (n := 22) t72_0 rfl) rfl rfl  ?_
      refine s_call0 (as := [(2, x0), (0, 2)]) (st1 := []) (p1 := 49) (M2 := 66) (tk (n := 23) t72_0 rfl) rfl rfl rfl rfl rfl (fun r17 => ?_)
      refine s_if_eq (pc1 := 52) (pt := 56) (tk (n := 24) t72_0 rfl) rfl rfl rfl ?_ ?_
      · refine s_iconst (pc1 := 57) (tk (n := 27) t72_0 rfl) rfl rfl  ?_
        exact s_retY (tk (n := 28) t72_0 rfl) rfl rfl rfl (by decide)
      · refine s_iconst (pc1 := 53) (tk (n := 25) t72_0 rfl) rfl rfl  ?_
        refine s_goto (pc1 := 57) (tk (n := 26) t72_0 rfl) rfl rfl ?_
        exact s_retY (tk (n := 28) t72_0 rfl) rfl rfl rfl (by decide)
    · refine s_aload_n (pc1 := 23) (tk (n := 10) t72_0 rfl) rfl rfl rfl ?_
      refine s_getf (pc1 := 26) (c := 9) (t1 := 2) (tk (n := 11) t72_0 rfl) rfl rfl (by decide) rfl rfl ?_
      refine s_getf (pc1 := 29) (c := 3) (t1 := 0) (tk (n := 12) t72_0 rfl) rfl rfl (by decide) rfl rfl ?_
      refine s_bipush (pc1 := 31) (tk (n := 13) t72_0 rfl) rfl rfl  ?_
      refine s_ic_gt (pc1 := 34) (pt := 38) (tk (n := 14) t72_0 rfl) rfl rfl rfl ?_ ?_
      · refine s_iconst (pc1 := 39) (tk (n := 17) t72_0 rfl) rfl rfl  ?_
        refine s_istore_n (pc1 := 40) (ls1 := [(2, x0), (0, 0)]) (tk (n := 18) t72_0 rfl) rfl rfl rfl rfl ?_
        refine s_iload_n (pc1 := 41) (tk (n := 19) t72_0 rfl) rfl rfl rfl ?_
        refine s_ifN_ne (pc1 := 44) (tk (n := 20) t72_0 rfl) rfl rfl (by decide) ?_
        refine s_aload_n (pc1 := 45) (tk (n := 21) t72_0 rfl) rfl rfl rfl ?_
        refine s_iconst (pc1 := 46) (tk (n := 22) t72_0 rfl) rfl rfl  ?_
        refine s_call0 (as := [(2, x0), (0, 2)]) (st1 := []) (p1 := 49) (M2 := 66) (tk (n := 23) t72_0 rfl) rfl rfl rfl rfl rfl (fun r22 => ?_)
        refine s_if_eq (pc1 := 52) (pt := 56) (tk (n := 24) t72_0 rfl) rfl rfl rfl ?_ ?_
        · refine s_iconst (pc1 := 57) (tk (n := 27) t72_0 rfl) rfl rfl  ?_
          exact s_retY (tk (n := 28) t72_0 rfl) rfl rfl rfl (by decide)
        · refine s_iconst (pc1 := 53) (tk (n := 25) t72_0 rfl) rfl rfl  ?_
          refine s_goto (pc1 := 57) (tk (n := 26) t72_0 rfl) rfl rfl ?_
          exact s_retY (tk (n := 28) t72_0 rfl) rfl rfl rfl (by decide)
      · refine s_iconst (pc1 := 35) (tk (n := 15) t72_0 rfl) rfl rfl  ?_
        refine s_goto (pc1 := 39) (tk (n := 16) t72_0 rfl) rfl rfl ?_
        refine s_istore_n (pc1 := 40) (ls1 := [(2, x0), (0, 1)]) (tk (n := 18) t72_0 rfl) rfl rfl rfl rfl ?_
        refine s_iload_n (pc1 := 41) (tk (n := 19) t72_0 rfl) rfl rfl rfl ?_
        refine s_ifY_ne (pc1 := 44) (pt := 52) (tk (n := 20) t72_0 rfl) rfl rfl rfl (by decide) ?_
        refine s_iconst (pc1 := 53) (tk (n := 25) t72_0 rfl) rfl rfl  ?_
        refine s_goto (pc1 := 57) (tk (n := 26) t72_0 rfl) rfl rfl ?_
        exact s_retY (tk (n := 28) t72_0 rfl) rfl rfl rfl (by decide)
set_option maxRecDepth 100000 in
set_option maxHeartbeats 4000000 in
theorem e_X9_takeName (x0 : Int) (h : Hq) : vm 73 [(2, x0)] h = if 0 < x0 ∧ (kd x0).1 = 9 then if 0 < (h.2 x0 0) ∧ (kd (h.2 x0 0)).1 = 3 then if (0 < x0 ∧ (kd x0).1 = 9) ∧ True then if 0 < x0 ∧ (kd x0).1 = 9 then if 0 < ((stm h.2 x0 5 (h.2 (h.2 x0 0) 7)) x0 0) ∧ (kd ((stm h.2 x0 5 (h.2 (h.2 x0 0) 7)) x0 0)).1 = 3 then (vm 21 [(2, (stm h.2 x0 5 (h.2 (h.2 x0 0) 7)) x0 0)] (h.1, stm h.2 x0 5 (h.2 (h.2 x0 0) 7))).bind (fun r8 => some (some (0, 1), r8.2)) else none else none else none else none else none := by
  show vp 73 0 [(2, x0)] [] h = _
  refine s_aload_n (pc1 := 1) (tk (n := 0) t73_0 rfl) rfl rfl rfl ?_
  refine s_aload_n (pc1 := 2) (tk (n := 1) t73_0 rfl) rfl rfl rfl ?_
  refine s_getf (pc1 := 5) (c := 9) (t1 := 2) (tk (n := 2) t73_0 rfl) rfl rfl (by decide) rfl rfl ?_
  refine s_getf (pc1 := 8) (c := 3) (t1 := 1) (tk (n := 3) t73_0 rfl) rfl rfl (by decide) rfl rfl ?_
  refine s_putf1 (pc1 := 11) (c := 9) (tk (n := 4) t73_0 rfl) rfl rfl rfl rfl rfl ?_
  refine s_aload_n (pc1 := 12) (tk (n := 5) t73_0 rfl) rfl rfl rfl ?_
  refine s_getf (pc1 := 15) (c := 9) (t1 := 2) (tk (n := 6) t73_0 rfl) rfl rfl (by decide) rfl rfl ?_
  refine s_call9 (as := [(2, (stm h.2 x0 5 (h.2 (h.2 x0 0) 7)) x0 0)]) (st1 := []) (p1 := 18) (M2 := 21) (tk (n := 7) t73_0 rfl) rfl rfl rfl rfl rfl (fun r8 => ?_)
  refine s_iconst (pc1 := 19) (tk (n := 8) t73_0 rfl) rfl rfl  ?_
  exact s_retY (tk (n := 9) t73_0 rfl) rfl rfl rfl (by decide)
set_option maxRecDepth 100000 in
set_option maxHeartbeats 4000000 in
theorem e_X9_passNewName (x0 : Int) (h : Hq) : vm 74 [(2, x0)] h = if 0 < x0 ∧ (kd x0).1 = 9 then (vm 72 [(2, x0)] h).bind (fun r2 => if (vx r2) ≠ 0 then (if 0 < x0 ∧ (kd x0).1 = 9 then if 0 < x0 ∧ (kd x0).1 = 9 then if 0 < (r2.2.2 x0 0) ∧ (kd (r2.2.2 x0 0)).1 = 3 then if 0 < (r2.2.2 x0 1) ∧ (kd (r2.2.2 x0 1)).1 = 5 then (vm 36 [(2, r2.2.2 x0 1), (1, r2.2.2 (r2.2.2 x0 0) 7)] r2.2).bind (fun r9 => if (vx r9) ≠ (-1) then (if 0 < x0 ∧ (kd x0).1 = 9 then (vm 66 [(2, x0), (0, 3)] r9.2).bind (fun r19 => if (vx r19) = 0 ∨ (vx r19) = 1 then some (some (0, vx r19), r19.2) else none) else none) else (if 0 < x0 ∧ (kd x0).1 = 9 then if 0 < x0 ∧ (kd x0).1 = 9 then if 0 < (r9.2.2 x0 0) ∧ (kd (r9.2.2 x0 0)).1 = 3 then if 0 < (r9.2.2 x0 1) ∧ (kd (r9.2.2 x0 1)).1 = 5 then (vm 37 [(2, r9.2.2 x0 1), (1, r9.2.2 (r9.2.2 x0 0) 7)] r9.2).bind (fun r17 => if (vx r17) = (-1) then (if 0 < x0 ∧ (kd x0).1 = 9 then (vm 73 [(2, x0)] r17.2).bind (fun r25 => if (vx r25) = 0 ∨ (vx r25) = 1 then some (some (0, vx r25), r25.2) else none) else none) else (if 0 < x0 ∧ (kd x0).1 = 9 then (vm 66 [(2, x0), (0, 3)] r17.2).bind (fun r27 => if (vx r27) = 0 ∨ (vx r27) = 1 then some (some (0, vx r27), r27.2) else none) else none)) else none else none else none else none)) else none else none else none else none) else (some (some (0, 0), r2.2))) else none := by
  show vp 74 0 [(2, x0), (9, 0)] [] h = _
  refine s_aload_n (pc1 := 1) (tk (n := 0) t74_0 rfl) rfl rfl rfl ?_
  refine s_call0 (as := [(2, x0)]) (st1 := []) (p1 := 4) (M2 := 72) (tk (n := 1) t74_0 rfl) rfl rfl rfl rfl rfl (fun r2 => ?_)
  refine s_if_ne (pc1 := 7) (pt := 9) (tk (n := 2) t74_0 rfl) rfl rfl rfl ?_ ?_
  · refine s_aload_n (pc1 := 10) (tk (n := 5) t74_0 rfl) rfl rfl rfl ?_
    refine s_getf (pc1 := 13) (c := 9) (t1 := 2) (tk (n := 6) t74_0 rfl) rfl rfl (by decide) rfl rfl ?_
    refine s_aload_n (pc1 := 14) (tk (n := 7) t74_0 rfl) rfl rfl rfl ?_
    refine s_getf (pc1 := 17) (c := 9) (t1 := 2) (tk (n := 8) t74_0 rfl) rfl rfl (by decide) rfl rfl ?_
    refine s_getf (pc1 := 20) (c := 3) (t1 := 1) (tk (n := 9) t74_0 rfl) rfl rfl (by decide) rfl rfl ?_
    refine s_call0 (as := [(2, r2.2.2 x0 1), (1, r2.2.2 (r2.2.2 x0 0) 7)]) (st1 := []) (p1 := 23) (M2 := 36) (tk (n := 10) t74_0 rfl) rfl rfl rfl rfl rfl (fun r9 => ?_)
    refine s_iconst (pc1 := 24) (tk (n := 11) t74_0 rfl) rfl rfl  ?_
    refine s_ic_ne (pc1 := 27) (pt := 45) (tk (n := 12) t74_0 rfl) rfl rfl rfl ?_ ?_
    · refine s_iconst (pc1 := 46) (tk (n := 21) t74_0 rfl) rfl rfl  ?_
      refine s_goto (pc1 := 50) (tk (n := 22) t74_0 rfl) rfl rfl ?_
      refine s_istore_n (pc1 := 51) (ls1 := [(2, x0), (0, 1)]) (tk (n := 24) t74_0 rfl) rfl rfl rfl rfl ?_
      refine s_iload_n (pc1 := 52) (tk (n := 25) t74_0 rfl) rfl rfl rfl ?_
      refine s_ifN_eq (pc1 := 55) (tk (n := 26) t74_0 rfl) rfl rfl (by decide) ?_
      refine s_aload_n (pc1 := 56) (tk (n := 27) t74_0 rfl) rfl rfl rfl ?_
      refine s_iconst (pc1 := 57) (tk (n := 28) t74_0 rfl) rfl rfl  ?_
      refine s_call0 (as := [(2, x0), (0, 3)]) (st1 := []) (p1 := 60) (M2 := 66) (tk (n := 29) t74_0 rfl) rfl rfl rfl rfl rfl (fun r19 => ?_)
      refine s_goto (pc1 := 67) (tk (n := 0) t74_1 rfl) rfl rfl ?_
      exact s_retG (tk (n := 3) t74_1 rfl) rfl rfl rfl
    · refine s_aload_n (pc1 := 28) (tk (n := 13) t74_0 rfl) rfl rfl rfl ?_
      refine s_getf (pc1 := 31) (c := 9) (t1 := 2) (tk (n := 14) t74_0 rfl) rfl rfl (by decide) rfl rfl ?_
      refine s_aload_n (pc1 := 32) (tk (n := 15) t74_0 rfl) rfl rfl rfl ?_
      refine s_getf (pc1 := 35) (c := 9) (t1 := 2) (tk (n := 16) t74_0 rfl) rfl rfl (by decide) rfl rfl ?_
      refine s_getf (pc1 := 38) (c := 3) (t1 := 1) (tk (n := 17) t74_0 rfl) rfl rfl (by decide) rfl rfl ?_
      refine s_call0 (as := [(2, r9.2.2 x0 1), (1, r9.2.2 (r9.2.2 x0 0) 7)]) (st1 := []) (p1 := 41) (M2 := 37) (tk (n := 18) t74_0 rfl) rfl rfl rfl rfl rfl (fun r17 => ?_)
      refine s_iconst (pc1 := 42) (tk (n := 19) t74_0 rfl) rfl rfl  ?_
      refine s_ic_eq (pc1 := 45) (pt := 49) (tk (n := 20) t74_0 rfl) rfl rfl rfl ?_ ?_
      · refine s_iconst (pc1 := 50) (tk (n := 23) t74_0 rfl) rfl rfl  ?_
        refine s_istore_n (pc1 := 51) (ls1 := [(2, x0), (0, 0)]) (tk (n := 24) t74_0 rfl) rfl rfl rfl rfl ?_
        refine s_iload_n (pc1 := 52) (tk (n := 25) t74_0 rfl) rfl rfl rfl ?_
        refine s_ifY_eq (pc1 := 55) (pt := 63) (tk (n := 26) t74_0 rfl) rfl rfl rfl (by decide) ?_
        refine s_aload_n (pc1 := 64) (tk (n := 1) t74_1 rfl) rfl rfl rfl ?_
        refine s_call0 (as := [(2, x0)]) (st1 := []) (p1 := 67) (M2 := 73) (tk (n := 2) t74_1 rfl) rfl rfl rfl rfl rfl (fun r25 => ?_)
        exact s_retG (tk (n := 3) t74_1 rfl) rfl rfl rfl
      · refine s_iconst (pc1 := 46) (tk (n := 21) t74_0 rfl) rfl rfl  ?_
        refine s_goto (pc1 := 50) (tk (n := 22) t74_0 rfl) rfl rfl ?_
        refine s_istore_n (pc1 := 51) (ls1 := [(2, x0), (0, 1)]) (tk (n := 24) t74_0 rfl) rfl rfl rfl rfl ?_
        refine s_iload_n (pc1 := 52) (tk (n := 25) t74_0 rfl) rfl rfl rfl ?_
        refine s_ifN_eq (pc1 := 55) (tk (n := 26) t74_0 rfl) rfl rfl (by decide) ?_
        refine s_aload_n (pc1 := 56) (tk (n := 27) t74_0 rfl) rfl rfl rfl ?_
        refine s_iconst (pc1 := 57) (tk (n := 28) t74_0 rfl) rfl rfl  ?_
        refine s_call0 (as := [(2, x0), (0, 3)]) (st1 := []) (p1 := 60) (M2 := 66) (tk (n := 29) t74_0 rfl) rfl rfl rfl rfl rfl (fun r27 => ?_)
        refine s_goto (pc1 := 67) (tk (n := 0) t74_1 rfl) rfl rfl ?_
        exact s_retG (tk (n := 3) t74_1 rfl) rfl rfl rfl
  · refine s_iconst (pc1 := 8) (tk (n := 3) t74_0 rfl) rfl rfl  ?_
    exact s_retY (tk (n := 4) t74_0 rfl) rfl rfl rfl (by decide)
set_option maxRecDepth 100000 in
set_option maxHeartbeats 4000000 in
theorem e_X9_tellsCache (x0 : Int) (h : Hq) : vm 75 [(2, x0)] h = if 0 < x0 ∧ (kd x0).1 = 9 then if 0 < (h.2 x0 1) ∧ (kd (h.2 x0 1)).1 = 5 then if (h.2 (h.2 x0 1) 8) = 0 then (if 0 < x0 ∧ (kd x0).1 = 9 then if (0 < (h.2 x0 1) ∧ (kd (h.2 x0 1)).1 = 5) ∧ ((1 : Int) = 0 ∨ (1 : Int) = 1) then if 0 < x0 ∧ (kd x0).1 = 9 then (vm 67 [(2, x0), (0, 0), (0, 1)] (h.1, stm h.2 (h.2 x0 1) 8 1)).bind (fun r12 => if (vx r12) = 0 then (some (some (0, 0), r12.2)) else (if 0 < x0 ∧ (kd x0).1 = 9 then (vm 71 [(2, x0), (0, 8)] r12.2).bind (fun r16 => if (vx r16) ≠ 0 then (if 0 < x0 ∧ (kd x0).1 = 9 then if 0 < x0 ∧ (kd x0).1 = 9 then if (0 < (r16.2.2 x0 1) ∧ (kd (r16.2.2 x0 1)).1 = 5) ∧ True then if 0 < x0 ∧ (kd x0).1 = 9 then (vm 67 [(2, x0), (0, 1), (0, 1)] (r16.2.1, stm r16.2.2 (r16.2.2 x0 1) 9 (r16.2.2 x0 4))).bind (fun r26 => if (vx r26) = 0 then (some (some (0, 0), r26.2)) else (if 0 < x0 ∧ (kd x0).1 = 9 then (vm 69 [(2, x0), (0, 1), (0, 4)] r26.2).bind (fun r31 => if (vx r31) ≠ 0 then (if 0 < x0 ∧ (kd x0).1 = 9 then if 0 < x0 ∧ (kd x0).1 = 9 then if (0 < (r31.2.2 x0 1) ∧ (kd (r31.2.2 x0 1)).1 = 5) ∧ True then if 0 < x0 ∧ (kd x0).1 = 9 then (vm 67 [(2, x0), (0, 2), (0, 1)] (r31.2.1, stm r31.2.2 (r31.2.2 x0 1) 10 (r31.2.2 x0 4))).bind (fun r41 => if (vx r41) = 0 then (some (some (0, 0), r41.2)) else (if 0 < x0 ∧ (kd x0).1 = 9 then (vm 71 [(2, x0), (0, 16)] r41.2).bind (fun r45 => if (vx r45) ≠ 0 then (if 0 < x0 ∧ (kd x0).1 = 9 then if 0 < x0 ∧ (kd x0).1 = 9 then if (0 < (r45.2.2 x0 1) ∧ (kd (r45.2.2 x0 1)).1 = 5) ∧ True then if 0 < x0 ∧ (kd x0).1 = 9 then (vm 68 [(2, x0)] (r45.2.1, stm r45.2.2 (r45.2.2 x0 1) 11 (r45.2.2 x0 4))).bind (fun r53 => if (vx r53) = 0 ∨ (vx r53) = 1 then some (some (0, vx r53), r53.2) else none) else none else none else none else none) else (some (some (0, 0), r45.2))) else none)) else none else none else none else none) else (some (some (0, 0), r31.2))) else none)) else none else none else none else none) else (some (some (0, 0), r16.2))) else none)) else none else none else none) else (if 0 < x0 ∧ (kd x0).1 = 9 then (vm 66 [(2, x0), (0, 2)] h).bind (fun r7 => if (vx r7) = 0 ∨ (vx r7) = 1 then some (some (0, vx r7), r7.2) else none) else none) else none else none := by
  show vp 75 0 [(2, x0)] [] h = _
  refine s_aload_n (pc1 := 1) (tk (n := 0) t75_0 rfl) rfl rfl rfl ?_
  refine s_getf (pc1 := 4) (c := 9) (t1 := 2) (tk (n := 1) t75_0 rfl) rfl rfl (by decide) rfl rfl ?_
  refine s_getf (pc1 := 7) (c := 5) (t1 := 0) (tk (n := 2) t75_0 rfl) rfl rfl (by decide) rfl rfl ?_
  refine s_if_eq (pc1 := 10) (pt := 16) (tk (n := 3) t75_0 rfl) rfl rfl rfl ?_ ?_
  · refine s_aload_n (pc1 := 17) (tk (n := 8) t75_0 rfl) rfl rfl rfl ?_
    refine s_getf (pc1 := 20) (c := 9) (t1 := 2) (tk (n := 9) t75_0 rfl) rfl rfl (by decide) rfl rfl ?_
    refine s_iconst (pc1 := 21) (tk (n := 10) t75_0 rfl) rfl rfl  ?_
    refine s_putfZ (pc1 := 24) (c := 5) (tk (n := 11) t75_0 rfl) rfl rfl rfl ?_
    refine s_aload_n (pc1 := 25) (tk (n := 12) t75_0 rfl) rfl rfl rfl ?_
    refine s_iconst (pc1 := 26) (tk (n := 13) t75_0 rfl) rfl rfl  ?_
    refine s_iconst (pc1 := 27) (tk (n := 14) t75_0 rfl) rfl rfl  ?_
    refine s_call0 (as := [(2, x0), (0, 0), (0, 1)]) (st1 := []) (p1 := 30) (M2 := 67) (tk (n := 15) t75_0 rfl) rfl rfl rfl rfl rfl (fun r12 => ?_)
    refine s_if_eq (pc1 := 33) (pt := 42) (tk (n := 16) t75_0 rfl) rfl rfl rfl ?_ ?_
    · refine s_iconst (pc1 := 43) (tk (n := 21) t75_0 rfl) rfl rfl  ?_
      exact s_retY (tk (n := 22) t75_0 rfl) rfl rfl rfl (by decide)
    · refine s_aload_n (pc1 := 34) (tk (n := 17) t75_0 rfl) rfl rfl rfl ?_
      refine s_bipush (pc1 := 36) (tk (n := 18) t75_0 rfl) rfl rfl  ?_
      refine s_call0 (as := [(2, x0), (0, 8)]) (st1 := []) (p1 := 39) (M2 := 71) (tk (n := 19) t75_0 rfl) rfl rfl rfl rfl rfl (fun r16 => ?_)
      refine s_if_ne (pc1 := 42) (pt := 44) (tk (n := 20) t75_0 rfl) rfl rfl rfl ?_ ?_
      · refine s_aload_n (pc1 := 45) (tk (n := 23) t75_0 rfl) rfl rfl rfl ?_
        refine s_getf (pc1 := 48) (c := 9) (t1 := 2) (tk (n := 24) t75_0 rfl) rfl rfl (by decide) rfl rfl ?_
        refine s_aload_n (pc1 := 49) (tk (n := 25) t75_0 rfl) rfl rfl rfl ?_
        refine s_getf (pc1 := 52) (c := 9) (t1 := 0) (tk (n := 26) t75_0 rfl) rfl rfl (by decide) rfl rfl ?_
        refine s_putf0 (pc1 := 55) (c := 5) (tk (n := 27) t75_0 rfl) rfl rfl rfl rfl rfl ?_
        refine s_aload_n (pc1 := 56) (tk (n := 28) t75_0 rfl) rfl rfl rfl ?_
        refine s_iconst (pc1 := 57) (tk (n := 29) t75_0 rfl) rfl rfl  ?_
        refine s_iconst (pc1 := 58) (tk (n := 0) t75_1 rfl) rfl rfl  ?_
        refine s_call0 (as := [(2, x0), (0, 1), (0, 1)]) (st1 := []) (p1 := 61) (M2 := 67) (tk (n := 1) t75_1 rfl) rfl rfl rfl rfl rfl (fun r26 => ?_)
        refine s_if_eq (pc1 := 64) (pt := 73) (tk (n := 2) t75_1 rfl) rfl rfl rfl ?_ ?_
        · refine s_iconst (pc1 := 74) (tk (n := 8) t75_1 rfl) rfl rfl  ?_
          exact s_retY (tk (n := 9) t75_1 rfl) rfl rfl rfl (by decide)
        · refine s_aload_n (pc1 := 65) (tk (n := 3) t75_1 rfl) rfl rfl rfl ?_
          refine s_iconst (pc1 := 66) (tk (n := 4) t75_1 rfl) rfl rfl  ?_
          refine s_iconst (pc1 := 67) (tk (n := 5) t75_1 rfl) rfl rfl  ?_
          refine s_call0 (as := [(2, x0), (0, 1), (0, 4)]) (st1 := []) (p1 := 70) (M2 := 69) (tk (n := 6) t75_1 rfl) rfl rfl rfl rfl rfl (fun r31 => ?_)
          refine s_if_ne (pc1 := 73) (pt := 75) (tk (n := 7) t75_1 rfl) rfl rfl rfl ?_ ?_
          · refine s_aload_n (pc1 := 76) (tk (n := 10) t75_1 rfl) rfl rfl rfl ?_
            refine s_getf (pc1 := 79) (c := 9) (t1 := 2) (tk (n := 11) t75_1 rfl) rfl rfl (by decide) rfl rfl ?_
            refine s_aload_n (pc1 := 80) (tk (n := 12) t75_1 rfl) rfl rfl rfl ?_
            refine s_getf (pc1 := 83) (c := 9) (t1 := 0) (tk (n := 13) t75_1 rfl) rfl rfl (by decide) rfl rfl ?_
            refine s_putf0 (pc1 := 86) (c := 5) (tk (n := 14) t75_1 rfl) rfl rfl rfl rfl rfl ?_
            refine s_aload_n (pc1 := 87) (tk (n := 15) t75_1 rfl) rfl rfl rfl ?_
            refine s_iconst (pc1 := 88) (tk (n := 16) t75_1 rfl) rfl rfl  ?_
            refine s_iconst (pc1 := 89) (tk (n := 17) t75_1 rfl) rfl rfl  ?_
            refine s_call0 (as := [(2, x0), (0, 2), (0, 1)]) (st1 := []) (p1 := 92) (M2 := 67) (tk (n := 18) t75_1 rfl) rfl rfl rfl rfl rfl (fun r41 => ?_)
            refine s_if_eq (pc1 := 95) (pt := 104) (tk (n := 19) t75_1 rfl) rfl rfl rfl ?_ ?_
            · refine s_iconst (pc1 := 105) (tk (n := 24) t75_1 rfl) rfl rfl  ?_
              exact s_retY (tk (n := 25) t75_1 rfl) rfl rfl rfl (by decide)
            · refine s_aload_n (pc1 := 96) (tk (n := 20) t75_1 rfl) rfl rfl rfl ?_
              refine s_bipush (pc1 := 98) (tk (n := 21) t75_1 rfl) rfl rfl  ?_
              refine s_call0 (as := [(2, x0), (0, 16)]) (st1 := []) (p1 := 101) (M2 := 71) (tk (n := 22) t75_1 rfl) rfl rfl rfl rfl rfl (fun r45 => ?_)
              refine s_if_ne (pc1 := 104) (pt := 106) (tk (n := 23) t75_1 rfl) rfl rfl rfl ?_ ?_
              · refine s_aload_n (pc1 := 107) (tk (n := 26) t75_1 rfl) rfl rfl rfl ?_
                refine s_getf (pc1 := 110) (c := 9) (t1 := 2) (tk (n := 27) t75_1 rfl) rfl rfl (by decide) rfl rfl ?_
                refine s_aload_n (pc1 := 111) (tk (n := 28) t75_1 rfl) rfl rfl rfl ?_
                refine s_getf (pc1 := 114) (c := 9) (t1 := 0) (tk (n := 29) t75_1 rfl) rfl rfl (by decide) rfl rfl ?_
                refine s_putf0 (pc1 := 117) (c := 5) (tk (n := 0) t75_2 rfl) rfl rfl rfl rfl rfl ?_
                refine s_aload_n (pc1 := 118) (tk (n := 1) t75_2 rfl) rfl rfl rfl ?_
                refine s_call0 (as := [(2, x0)]) (st1 := []) (p1 := 121) (M2 := 68) (tk (n := 2) t75_2 rfl) rfl rfl rfl rfl rfl (fun r53 => ?_)
                exact s_retG (tk (n := 3) t75_2 rfl) rfl rfl rfl
              · refine s_iconst (pc1 := 105) (tk (n := 24) t75_1 rfl) rfl rfl  ?_
                exact s_retY (tk (n := 25) t75_1 rfl) rfl rfl rfl (by decide)
          · refine s_iconst (pc1 := 74) (tk (n := 8) t75_1 rfl) rfl rfl  ?_
            exact s_retY (tk (n := 9) t75_1 rfl) rfl rfl rfl (by decide)
      · refine s_iconst (pc1 := 43) (tk (n := 21) t75_0 rfl) rfl rfl  ?_
        exact s_retY (tk (n := 22) t75_0 rfl) rfl rfl rfl (by decide)
  · refine s_aload_n (pc1 := 11) (tk (n := 4) t75_0 rfl) rfl rfl rfl ?_
    refine s_iconst (pc1 := 12) (tk (n := 5) t75_0 rfl) rfl rfl  ?_
    refine s_call0 (as := [(2, x0), (0, 2)]) (st1 := []) (p1 := 15) (M2 := 66) (tk (n := 6) t75_0 rfl) rfl rfl rfl rfl rfl (fun r7 => ?_)
    exact s_retG (tk (n := 7) t75_0 rfl) rfl rfl rfl
set_option maxRecDepth 100000 in
set_option maxHeartbeats 4000000 in
theorem e_X9_tellsStore (x0 : Int) (h : Hq) : vm 76 [(2, x0)] h = if 0 < x0 ∧ (kd x0).1 = 9 then if 0 < (h.2 x0 1) ∧ (kd (h.2 x0 1)).1 = 5 then if (h.2 (h.2 x0 1) 5) < 6 then (if 0 < x0 ∧ (kd x0).1 = 9 then (vm 67 [(2, x0), (0, 3), (0, 1)] h).bind (fun r9 => if (vx r9) = 0 then (some (some (0, 0), r9.2)) else (if 0 < x0 ∧ (kd x0).1 = 9 then (vm 74 [(2, x0)] r9.2).bind (fun r12 => if (vx r12) = 0 then (some (some (0, 0), r12.2)) else (if 0 < x0 ∧ (kd x0).1 = 9 then (vm 67 [(2, x0), (0, 12), (0, 10)] r12.2).bind (fun r17 => if (vx r17) ≠ 0 then (if 0 < x0 ∧ (kd x0).1 = 9 then if 0 < x0 ∧ (kd x0).1 = 9 then (vm 69 [(2, x0), (0, 1), (0, 400)] r17.2).bind (fun r25 => if (vx r25) ≠ 0 then (if 0 < x0 ∧ (kd x0).1 = 9 then if 0 < x0 ∧ (kd x0).1 = 9 then if 0 < x0 ∧ (kd x0).1 = 9 then if 0 < (r25.2.2 x0 1) ∧ (kd (r25.2.2 x0 1)).1 = 5 then (vm 35 [(2, r25.2.2 x0 1), (1, r25.2.2 x0 5), (0, r17.2.2 x0 4), (0, r25.2.2 x0 4)] r25.2).bind (fun r34 => if 0 < x0 ∧ (kd x0).1 = 9 then (vm 68 [(2, x0)] r34.2).bind (fun r36 => if (vx r36) = 0 ∨ (vx r36) = 1 then some (some (0, vx r36), r36.2) else none) else none) else none else none else none else none) else (some (some (0, 0), r25.2))) else none else none) else (some (some (0, 0), r17.2))) else none)) else none)) else none) else (if 0 < x0 ∧ (kd x0).1 = 9 then (vm 66 [(2, x0), (0, 2)] h).bind (fun r8 => if (vx r8) = 0 ∨ (vx r8) = 1 then some (some (0, vx r8), r8.2) else none) else none) else none else none := by
  show vp 76 0 [(2, x0), (9, 0)] [] h = _
  refine s_aload_n (pc1 := 1) (tk (n := 0) t76_0 rfl) rfl rfl rfl ?_
  refine s_getf (pc1 := 4) (c := 9) (t1 := 2) (tk (n := 1) t76_0 rfl) rfl rfl (by decide) rfl rfl ?_
  refine s_getf (pc1 := 7) (c := 5) (t1 := 0) (tk (n := 2) t76_0 rfl) rfl rfl (by decide) rfl rfl ?_
  refine s_bipush (pc1 := 9) (tk (n := 3) t76_0 rfl) rfl rfl  ?_
  refine s_ic_lt (pc1 := 12) (pt := 18) (tk (n := 4) t76_0 rfl) rfl rfl rfl ?_ ?_
  · refine s_aload_n (pc1 := 19) (tk (n := 9) t76_0 rfl) rfl rfl rfl ?_
    refine s_iconst (pc1 := 20) (tk (n := 10) t76_0 rfl) rfl rfl  ?_
    refine s_iconst (pc1 := 21) (tk (n := 11) t76_0 rfl) rfl rfl  ?_
    refine s_call0 (as := [(2, x0), (0, 3), (0, 1)]) (st1 := []) (p1 := 24) (M2 := 67) (tk (n := 12) t76_0 rfl) rfl rfl rfl rfl rfl (fun r9 => ?_)
    refine s_if_eq (pc1 := 27) (pt := 45) (tk (n := 13) t76_0 rfl) rfl rfl rfl ?_ ?_
    · refine s_iconst (pc1 := 46) (tk (n := 22) t76_0 rfl) rfl rfl  ?_
      exact s_retY (tk (n := 23) t76_0 rfl) rfl rfl rfl (by decide)
    · refine s_aload_n (pc1 := 28) (tk (n := 14) t76_0 rfl) rfl rfl rfl ?_
      refine s_call0 (as := [(2, x0)]) (st1 := []) (p1 := 31) (M2 := 74) (tk (n := 15) t76_0 rfl) rfl rfl rfl rfl rfl (fun r12 => ?_)
      refine s_if_eq (pc1 := 34) (pt := 45) (tk (n := 16) t76_0 rfl) rfl rfl rfl ?_ ?_
      · refine s_iconst (pc1 := 46) (tk (n := 22) t76_0 rfl) rfl rfl  ?_
        exact s_retY (tk (n := 23) t76_0 rfl) rfl rfl rfl (by decide)
      · refine s_aload_n (pc1 := 35) (tk (n := 17) t76_0 rfl) rfl rfl rfl ?_
        refine s_bipush (pc1 := 37) (tk (n := 18) t76_0 rfl) rfl rfl  ?_
        refine s_bipush (pc1 := 39) (tk (n := 19) t76_0 rfl) rfl rfl  ?_
        refine s_call0 (as := [(2, x0), (0, 12), (0, 10)]) (st1 := []) (p1 := 42) (M2 := 67) (tk (n := 20) t76_0 rfl) rfl rfl rfl rfl rfl (fun r17 => ?_)
        refine s_if_ne (pc1 := 45) (pt := 47) (tk (n := 21) t76_0 rfl) rfl rfl rfl ?_ ?_
        · refine s_aload_n (pc1 := 48) (tk (n := 24) t76_0 rfl) rfl rfl rfl ?_
          refine s_getf (pc1 := 51) (c := 9) (t1 := 0) (tk (n := 25) t76_0 rfl) rfl rfl (by decide) rfl rfl ?_
          refine s_istore_n (pc1 := 52) (ls1 := [(2, x0), (0, r17.2.2 x0 4)]) (tk (n := 26) t76_0 rfl) rfl rfl rfl rfl ?_
          refine s_aload_n (pc1 := 53) (tk (n := 27) t76_0 rfl) rfl rfl rfl ?_
          refine s_iconst (pc1 := 54) (tk (n := 28) t76_0 rfl) rfl rfl  ?_
          refine s_sipush (pc1 := 57) (tk (n := 29) t76_0 rfl) rfl rfl  ?_
          refine s_call0 (as := [(2, x0), (0, 1), (0, 400)]) (st1 := []) (p1 := 60) (M2 := 69) (tk (n := 0) t76_1 rfl) rfl rfl rfl rfl rfl (fun r25 => ?_)
          refine s_if_ne (pc1 := 63) (pt := 65) (tk (n := 1) t76_1 rfl) rfl rfl rfl ?_ ?_
          · refine s_aload_n (pc1 := 66) (tk (n := 4) t76_1 rfl) rfl rfl rfl ?_
            refine s_getf (pc1 := 69) (c := 9) (t1 := 2) (tk (n := 5) t76_1 rfl) rfl rfl (by decide) rfl rfl ?_
            refine s_aload_n (pc1 := 70) (tk (n := 6) t76_1 rfl) rfl rfl rfl ?_
            refine s_getf (pc1 := 73) (c := 9) (t1 := 1) (tk (n := 7) t76_1 rfl) rfl rfl (by decide) rfl rfl ?_
            refine s_iload_n (pc1 := 74) (tk (n := 8) t76_1 rfl) rfl rfl rfl ?_
            refine s_aload_n (pc1 := 75) (tk (n := 9) t76_1 rfl) rfl rfl rfl ?_
            refine s_getf (pc1 := 78) (c := 9) (t1 := 0) (tk (n := 10) t76_1 rfl) rfl rfl (by decide) rfl rfl ?_
            refine s_call9 (as := [(2, r25.2.2 x0 1), (1, r25.2.2 x0 5), (0, r17.2.2 x0 4), (0, r25.2.2 x0 4)]) (st1 := []) (p1 := 81) (M2 := 35) (tk (n := 11) t76_1 rfl) rfl rfl rfl rfl rfl (fun r34 => ?_)
            refine s_aload_n (pc1 := 82) (tk (n := 12) t76_1 rfl) rfl rfl rfl ?_
            refine s_call0 (as := [(2, x0)]) (st1 := []) (p1 := 85) (M2 := 68) (tk (n := 13) t76_1 rfl) rfl rfl rfl rfl rfl (fun r36 => ?_)
            exact s_retG (tk (n := 14) t76_1 rfl) rfl rfl rfl
          · refine s_iconst (pc1 := 64) (tk (n := 2) t76_1 rfl) rfl rfl  ?_
            exact s_retY (tk (n := 3) t76_1 rfl) rfl rfl rfl (by decide)
        · refine s_iconst (pc1 := 46) (tk (n := 22) t76_0 rfl) rfl rfl  ?_
          exact s_retY (tk (n := 23) t76_0 rfl) rfl rfl rfl (by decide)
  · refine s_aload_n (pc1 := 13) (tk (n := 5) t76_0 rfl) rfl rfl rfl ?_
    refine s_iconst (pc1 := 14) (tk (n := 6) t76_0 rfl) rfl rfl  ?_
    refine s_call0 (as := [(2, x0), (0, 2)]) (st1 := []) (p1 := 17) (M2 := 66) (tk (n := 7) t76_0 rfl) rfl rfl rfl rfl rfl (fun r8 => ?_)
    exact s_retG (tk (n := 8) t76_0 rfl) rfl rfl rfl
set_option maxRecDepth 100000 in
set_option maxHeartbeats 4000000 in
theorem e_X9_tellsNoRow (x0 : Int) (x1 : Int) (h : Hq) : vm 77 [(2, x0), (0, x1)] h = if 0 < x0 ∧ (kd x0).1 = 9 then if 0 < (h.2 x0 1) ∧ (kd (h.2 x0 1)).1 = 5 then if (h.2 (h.2 x0 1) 5) < 6 then (if 0 < x0 ∧ (kd x0).1 = 9 then if 0 < (h.2 x0 0) ∧ (kd (h.2 x0 0)).1 = 3 then (vm 21 [(2, h.2 x0 0)] h).bind (fun r8 => if 0 < x0 ∧ (kd x0).1 = 9 then (vm 74 [(2, x0)] r8.2).bind (fun r10 => if (vx r10) ≠ 0 then (if 0 < x0 ∧ (kd x0).1 = 9 then if 0 < x0 ∧ (kd x0).1 = 9 then if 0 < (r10.2.2 x0 1) ∧ (kd (r10.2.2 x0 1)).1 = 5 then (vm 35 [(2, r10.2.2 x0 1), (1, r10.2.2 x0 5), (0, x1), (0, 0)] r10.2).bind (fun r18 => if 0 < x0 ∧ (kd x0).1 = 9 then (vm 68 [(2, x0)] r18.2).bind (fun r20 => if (vx r20) = 0 ∨ (vx r20) = 1 then some (some (0, vx r20), r20.2) else none) else none) else none else none else none) else (some (some (0, 0), r10.2))) else none) else none else none) else (if 0 < x0 ∧ (kd x0).1 = 9 then (vm 66 [(2, x0), (0, 2)] h).bind (fun r8 => if (vx r8) = 0 ∨ (vx r8) = 1 then some (some (0, vx r8), r8.2) else none) else none) else none else none := by
  show vp 77 0 [(2, x0), (0, x1)] [] h = _
  refine s_aload_n (pc1 := 1) (tk (n := 0) t77_0 rfl) rfl rfl rfl ?_
  refine s_getf (pc1 := 4) (c := 9) (t1 := 2) (tk (n := 1) t77_0 rfl) rfl rfl (by decide) rfl rfl ?_
  refine s_getf (pc1 := 7) (c := 5) (t1 := 0) (tk (n := 2) t77_0 rfl) rfl rfl (by decide) rfl rfl ?_
  refine s_bipush (pc1 := 9) (tk (n := 3) t77_0 rfl) rfl rfl  ?_
  refine s_ic_lt (pc1 := 12) (pt := 18) (tk (n := 4) t77_0 rfl) rfl rfl rfl ?_ ?_
  · refine s_aload_n (pc1 := 19) (tk (n := 9) t77_0 rfl) rfl rfl rfl ?_
    refine s_getf (pc1 := 22) (c := 9) (t1 := 2) (tk (n := 10) t77_0 rfl) rfl rfl (by decide) rfl rfl ?_
    refine s_call9 (as := [(2, h.2 x0 0)]) (st1 := []) (p1 := 25) (M2 := 21) (tk (n := 11) t77_0 rfl) rfl rfl rfl rfl rfl (fun r8 => ?_)
    refine s_aload_n (pc1 := 26) (tk (n := 12) t77_0 rfl) rfl rfl rfl ?_
    refine s_call0 (as := [(2, x0)]) (st1 := []) (p1 := 29) (M2 := 74) (tk (n := 13) t77_0 rfl) rfl rfl rfl rfl rfl (fun r10 => ?_)
    refine s_if_ne (pc1 := 32) (pt := 34) (tk (n := 14) t77_0 rfl) rfl rfl rfl ?_ ?_
    · refine s_aload_n (pc1 := 35) (tk (n := 17) t77_0 rfl) rfl rfl rfl ?_
      refine s_getf (pc1 := 38) (c := 9) (t1 := 2) (tk (n := 18) t77_0 rfl) rfl rfl (by decide) rfl rfl ?_
      refine s_aload_n (pc1 := 39) (tk (n := 19) t77_0 rfl) rfl rfl rfl ?_
      refine s_getf (pc1 := 42) (c := 9) (t1 := 1) (tk (n := 20) t77_0 rfl) rfl rfl (by decide) rfl rfl ?_
      refine s_iload_n (pc1 := 43) (tk (n := 21) t77_0 rfl) rfl rfl rfl ?_
      refine s_iconst (pc1 := 44) (tk (n := 22) t77_0 rfl) rfl rfl  ?_
      refine s_call9 (as := [(2, r10.2.2 x0 1), (1, r10.2.2 x0 5), (0, x1), (0, 0)]) (st1 := []) (p1 := 47) (M2 := 35) (tk (n := 23) t77_0 rfl) rfl rfl rfl rfl rfl (fun r18 => ?_)
      refine s_aload_n (pc1 := 48) (tk (n := 24) t77_0 rfl) rfl rfl rfl ?_
      refine s_call0 (as := [(2, x0)]) (st1 := []) (p1 := 51) (M2 := 68) (tk (n := 25) t77_0 rfl) rfl rfl rfl rfl rfl (fun r20 => ?_)
      exact s_retG (tk (n := 26) t77_0 rfl) rfl rfl rfl
    · refine s_iconst (pc1 := 33) (tk (n := 15) t77_0 rfl) rfl rfl  ?_
      exact s_retY (tk (n := 16) t77_0 rfl) rfl rfl rfl (by decide)
  · refine s_aload_n (pc1 := 13) (tk (n := 5) t77_0 rfl) rfl rfl rfl ?_
    refine s_iconst (pc1 := 14) (tk (n := 6) t77_0 rfl) rfl rfl  ?_
    refine s_call0 (as := [(2, x0), (0, 2)]) (st1 := []) (p1 := 17) (M2 := 66) (tk (n := 7) t77_0 rfl) rfl rfl rfl rfl rfl (fun r8 => ?_)
    exact s_retG (tk (n := 8) t77_0 rfl) rfl rfl rfl
set_option maxRecDepth 100000 in
set_option maxHeartbeats 4000000 in
theorem e_X9_tellsTexture (x0 : Int) (h : Hq) : vm 78 [(2, x0)] h = if 0 < x0 ∧ (kd x0).1 = 9 then if 0 < (h.2 x0 1) ∧ (kd (h.2 x0 1)).1 = 5 then if (h.2 (h.2 x0 1) 6) < 4 then (if 0 < x0 ∧ (kd x0).1 = 9 then if 0 < (h.2 x0 1) ∧ (kd (h.2 x0 1)).1 = 5 then if 0 < x0 ∧ (kd x0).1 = 9 then if 0 < (h.2 x0 1) ∧ (kd (h.2 x0 1)).1 = 5 then if (kd (h.2 (h.2 x0 1) 3)).1 = 25 ∧ 0 ≤ (h.2 (h.2 x0 1) 6) ∧ (h.2 (h.2 x0 1) 6) < (kd (h.2 (h.2 x0 1) 3)).2 then if 0 < x0 ∧ (kd x0).1 = 9 then (vm 67 [(2, x0), (0, 6), (0, 1)] h).bind (fun r17 => if (vx r17) = 0 then (some (some (0, 0), r17.2)) else (if 0 < x0 ∧ (kd x0).1 = 9 then (vm 74 [(2, x0)] r17.2).bind (fun r20 => if (vx r20) ≠ 0 then (if 0 < x0 ∧ (kd x0).1 = 9 then if (0 < (h.2 (h.2 (h.2 x0 1) 3) (h.2 (h.2 x0 1) 6)) ∧ (kd (h.2 (h.2 (h.2 x0 1) 3) (h.2 (h.2 x0 1) 6))).1 = 10) ∧ True then if 0 < x0 ∧ (kd x0).1 = 9 then (vm 67 [(2, x0), (0, 7), (0, 1)] (r20.2.1, stm r20.2.2 (h.2 (h.2 (h.2 x0 1) 3) (h.2 (h.2 x0 1) 6)) 3 (r20.2.2 x0 5))).bind (fun r29 => if (vx r29) = 0 then (some (some (0, 0), r29.2)) else (if 0 < x0 ∧ (kd x0).1 = 9 then (vm 79 [(2, x0), (2, h.2 (h.2 (h.2 x0 1) 3) (h.2 (h.2 x0 1) 6))] r29.2).bind (fun r33 => if (vx r33) = 0 then (some (some (0, 0), r33.2)) else (if 0 < x0 ∧ (kd x0).1 = 9 then (vm 80 [(2, x0), (2, h.2 (h.2 (h.2 x0 1) 3) (h.2 (h.2 x0 1) 6))] r33.2).bind (fun r37 => if (vx r37) = 0 then (some (some (0, 0), r37.2)) else (if 0 < x0 ∧ (kd x0).1 = 9 then (vm 67 [(2, x0), (0, 22), (0, 3)] r37.2).bind (fun r42 => if (vx r42) ≠ 0 then (if 0 < x0 ∧ (kd x0).1 = 9 then if (0 < (h.2 (h.2 (h.2 x0 1) 3) (h.2 (h.2 x0 1) 6)) ∧ (kd (h.2 (h.2 (h.2 x0 1) 3) (h.2 (h.2 x0 1) 6))).1 = 10) ∧ True then if 0 < x0 ∧ (kd x0).1 = 9 then (vm 67 [(2, x0), (0, 25), (0, 3)] (r42.2.1, stm r42.2.2 (h.2 (h.2 (h.2 x0 1) 3) (h.2 (h.2 x0 1) 6)) 10 (r42.2.2 x0 4))).bind (fun r51 => if (vx r51) ≠ 0 then (if 0 < x0 ∧ (kd x0).1 = 9 then if (0 < (h.2 (h.2 (h.2 x0 1) 3) (h.2 (h.2 x0 1) 6)) ∧ (kd (h.2 (h.2 (h.2 x0 1) 3) (h.2 (h.2 x0 1) 6))).1 = 10) ∧ True then if 0 < x0 ∧ (kd x0).1 = 9 then if 0 < ((stm r51.2.2 (h.2 (h.2 (h.2 x0 1) 3) (h.2 (h.2 x0 1) 6)) 11 (r51.2.2 x0 4)) x0 1) ∧ (kd ((stm r51.2.2 (h.2 (h.2 (h.2 x0 1) 3) (h.2 (h.2 x0 1) 6)) 11 (r51.2.2 x0 4)) x0 1)).1 = 5 then if (0 < ((stm r51.2.2 (h.2 (h.2 (h.2 x0 1) 3) (h.2 (h.2 x0 1) 6)) 11 (r51.2.2 x0 4)) x0 1) ∧ (kd ((stm r51.2.2 (h.2 (h.2 (h.2 x0 1) 3) (h.2 (h.2 x0 1) 6)) 11 (r51.2.2 x0 4)) x0 1)).1 = 5) ∧ True then if 0 < x0 ∧ (kd x0).1 = 9 then (vm 68 [(2, x0)] (r51.2.1, stm (stm r51.2.2 (h.2 (h.2 (h.2 x0 1) 3) (h.2 (h.2 x0 1) 6)) 11 (r51.2.2 x0 4)) ((stm r51.2.2 (h.2 (h.2 (h.2 x0 1) 3) (h.2 (h.2 x0 1) 6)) 11 (r51.2.2 x0 4)) x0 1) 6 (w32 (((stm r51.2.2 (h.2 (h.2 (h.2 x0 1) 3) (h.2 (h.2 x0 1) 6)) 11 (r51.2.2 x0 4)) ((stm r51.2.2 (h.2 (h.2 (h.2 x0 1) 3) (h.2 (h.2 x0 1) 6)) 11 (r51.2.2 x0 4)) x0 1) 6) + 1)))).bind (fun r65 => if (vx r65) = 0 ∨ (vx r65) = 1 then some (some (0, vx r65), r65.2) else none) else none else none else none else none else none else none) else (some (some (0, 0), r51.2))) else none else none else none) else (some (some (0, 0), r42.2))) else none)) else none)) else none)) else none else none else none) else (some (some (0, 0), r20.2))) else none)) else none else none else none else none else none else none) else (if 0 < x0 ∧ (kd x0).1 = 9 then (vm 66 [(2, x0), (0, 2)] h).bind (fun r8 => if (vx r8) = 0 ∨ (vx r8) = 1 then some (some (0, vx r8), r8.2) else none) else none) else none else none := by
  show vp 78 0 [(2, x0), (9, 0)] [] h = _
  refine s_aload_n (pc1 := 1) (tk (n := 0) t78_0 rfl) rfl rfl rfl ?_
  refine s_getf (pc1 := 4) (c := 9) (t1 := 2) (tk (n := 1) t78_0 rfl) rfl rfl (by decide) rfl rfl ?_
  refine s_getf (pc1 := 7) (c := 5) (t1 := 0) (tk (n := 2) t78_0 rfl) rfl rfl (by decide) rfl rfl ?_
  refine s_iconst (pc1 := 8) (tk (n := 3) t78_0 rfl) rfl rfl  ?_
  refine s_ic_lt (pc1 := 11) (pt := 17) (tk (n := 4) t78_0 rfl) rfl rfl rfl ?_ ?_
  · refine s_aload_n (pc1 := 18) (tk (n := 9) t78_0 rfl) rfl rfl rfl ?_
    refine s_getf (pc1 := 21) (c := 9) (t1 := 2) (tk (n := 10) t78_0 rfl) rfl rfl (by decide) rfl rfl ?_
    refine s_getf (pc1 := 24) (c := 5) (t1 := 2) (tk (n := 11) t78_0 rfl) rfl rfl (by decide) rfl rfl ?_
    refine s_aload_n (pc1 := 25) (tk (n := 12) t78_0 rfl) rfl rfl rfl ?_
    refine s_getf (pc1 := 28) (c := 9) (t1 := 2) (tk (n := 13) t78_0 rfl) rfl rfl (by decide) rfl rfl ?_
    refine s_getf (pc1 := 31) (c := 5) (t1 := 0) (tk (n := 14) t78_0 rfl) rfl rfl (by decide) rfl rfl ?_
    refine s_aald (pc1 := 32) (c := 25) (tk (n := 15) t78_0 rfl) rfl rfl rfl ?_
    refine s_astore_n (pc1 := 33) (ls1 := [(2, x0), (2, h.2 (h.2 (h.2 x0 1) 3) (h.2 (h.2 x0 1) 6))]) (tk (n := 16) t78_0 rfl) rfl rfl rfl rfl ?_
    refine s_aload_n (pc1 := 34) (tk (n := 17) t78_0 rfl) rfl rfl rfl ?_
    refine s_bipush (pc1 := 36) (tk (n := 18) t78_0 rfl) rfl rfl  ?_
    refine s_iconst (pc1 := 37) (tk (n := 19) t78_0 rfl) rfl rfl  ?_
    refine s_call0 (as := [(2, x0), (0, 6), (0, 1)]) (st1 := []) (p1 := 40) (M2 := 67) (tk (n := 20) t78_0 rfl) rfl rfl rfl rfl rfl (fun r17 => ?_)
    refine s_if_eq (pc1 := 43) (pt := 50) (tk (n := 21) t78_0 rfl) rfl rfl rfl ?_ ?_
    · refine s_iconst (pc1 := 51) (tk (n := 25) t78_0 rfl) rfl rfl  ?_
      exact s_retY (tk (n := 26) t78_0 rfl) rfl rfl rfl (by decide)
    · refine s_aload_n (pc1 := 44) (tk (n := 22) t78_0 rfl) rfl rfl rfl ?_
      refine s_call0 (as := [(2, x0)]) (st1 := []) (p1 := 47) (M2 := 74) (tk (n := 23) t78_0 rfl) rfl rfl rfl rfl rfl (fun r20 => ?_)
      refine s_if_ne (pc1 := 50) (pt := 52) (tk (n := 24) t78_0 rfl) rfl rfl rfl ?_ ?_
      · refine s_aload_n (pc1 := 53) (tk (n := 27) t78_0 rfl) rfl rfl rfl ?_
        refine s_aload_n (pc1 := 54) (tk (n := 28) t78_0 rfl) rfl rfl rfl ?_
        refine s_getf (pc1 := 57) (c := 9) (t1 := 1) (tk (n := 29) t78_0 rfl) rfl rfl (by decide) rfl rfl ?_
        refine s_putf1 (pc1 := 60) (c := 10) (tk (n := 0) t78_1 rfl) rfl rfl rfl rfl rfl ?_
        refine s_aload_n (pc1 := 61) (tk (n := 1) t78_1 rfl) rfl rfl rfl ?_
        refine s_bipush (pc1 := 63) (tk (n := 2) t78_1 rfl) rfl rfl  ?_
        refine s_iconst (pc1 := 64) (tk (n := 3) t78_1 rfl) rfl rfl  ?_
        refine s_call0 (as := [(2, x0), (0, 7), (0, 1)]) (st1 := []) (p1 := 67) (M2 := 67) (tk (n := 4) t78_1 rfl) rfl rfl rfl rfl rfl (fun r29 => ?_)
        refine s_if_eq (pc1 := 70) (pt := 96) (tk (n := 5) t78_1 rfl) rfl rfl rfl ?_ ?_
        · refine s_iconst (pc1 := 97) (tk (n := 19) t78_1 rfl) rfl rfl  ?_
          exact s_retY (tk (n := 20) t78_1 rfl) rfl rfl rfl (by decide)
        · refine s_aload_n (pc1 := 71) (tk (n := 6) t78_1 rfl) rfl rfl rfl ?_
          refine s_aload_n (pc1 := 72) (tk (n := 7) t78_1 rfl) rfl rfl rfl ?_
          refine s_call0 (as := [(2, x0), (2, h.2 (h.2 (h.2 x0 1) 3) (h.2 (h.2 x0 1) 6))]) (st1 := []) (p1 := 75) (M2 := 79) (tk (n := 8) t78_1 rfl) rfl rfl rfl rfl rfl (fun r33 => ?_)
          refine s_if_eq (pc1 := 78) (pt := 96) (tk (n := 9) t78_1 rfl) rfl rfl rfl ?_ ?_
          · refine s_iconst (pc1 := 97) (tk (n := 19) t78_1 rfl) rfl rfl  ?_
            exact s_retY (tk (n := 20) t78_1 rfl) rfl rfl rfl (by decide)
          · refine s_aload_n (pc1 := 79) (tk (n := 10) t78_1 rfl) rfl rfl rfl ?_
            refine s_aload_n (pc1 := 80) (tk (n := 11) t78_1 rfl) rfl rfl rfl ?_
            refine s_call0 (as := [(2, x0), (2, h.2 (h.2 (h.2 x0 1) 3) (h.2 (h.2 x0 1) 6))]) (st1 := []) (p1 := 83) (M2 := 80) (tk (n := 12) t78_1 rfl) rfl rfl rfl rfl rfl (fun r37 => ?_)
            refine s_if_eq (pc1 := 86) (pt := 96) (tk (n := 13) t78_1 rfl) rfl rfl rfl ?_ ?_
            · refine s_iconst (pc1 := 97) (tk (n := 19) t78_1 rfl) rfl rfl  ?_
              exact s_retY (tk (n := 20) t78_1 rfl) rfl rfl rfl (by decide)
            · refine s_aload_n (pc1 := 87) (tk (n := 14) t78_1 rfl) rfl rfl rfl ?_
              refine s_bipush (pc1 := 89) (tk (n := 15) t78_1 rfl) rfl rfl  ?_
              refine s_iconst (pc1 := 90) (tk (n := 16) t78_1 rfl) rfl rfl  ?_
              refine s_call0 (as := [(2, x0), (0, 22), (0, 3)]) (st1 := []) (p1 := 93) (M2 := 67) (tk (n := 17) t78_1 rfl) rfl rfl rfl rfl rfl (fun r42 => ?_)
              refine s_if_ne (pc1 := 96) (pt := 98) (tk (n := 18) t78_1 rfl) rfl rfl rfl ?_ ?_
              · refine s_aload_n (pc1 := 99) (tk (n := 21) t78_1 rfl) rfl rfl rfl ?_
                refine s_aload_n (pc1 := 100) (tk (n := 22) t78_1 rfl) rfl rfl rfl ?_
                refine s_getf (pc1 := 103) (c := 9) (t1 := 0) (tk (n := 23) t78_1 rfl) rfl rfl (by decide) rfl rfl ?_
                refine s_putf0 (pc1 := 106) (c := 10) (tk (n := 24) t78_1 rfl) rfl rfl rfl rfl rfl ?_
                refine s_aload_n (pc1 := 107) (tk (n := 25) t78_1 rfl) rfl rfl rfl ?_
                refine s_bipush (pc1 := 109) (tk (n := 26) t78_1 rfl) rfl rfl  ?_
                refine s_iconst (pc1 := 110) (tk (n := 27) t78_1 rfl) rfl rfl  ?_
                refine s_call0 (as := [(2, x0), (0, 25), (0, 3)]) (st1 := []) (p1 := 113) (M2 := 67) (tk (n := 28) t78_1 rfl) rfl rfl rfl rfl rfl (fun r51 => ?_)
                refine s_if_ne (pc1 := 116) (pt := 118) (tk (n := 29) t78_1 rfl) rfl rfl rfl ?_ ?_
                · refine s_aload_n (pc1 := 119) (tk (n := 2) t78_2 rfl) rfl rfl rfl ?_
                  refine s_aload_n (pc1 := 120) (tk (n := 3) t78_2 rfl) rfl rfl rfl ?_
                  refine s_getf (pc1 := 123) (c := 9) (t1 := 0) (tk (n := 4) t78_2 rfl) rfl rfl (by decide) rfl rfl ?_
                  refine s_putf0 (pc1 := 126) (c := 10) (tk (n := 5) t78_2 rfl) rfl rfl rfl rfl rfl ?_
                  refine s_aload_n (pc1 := 127) (tk (n := 6) t78_2 rfl) rfl rfl rfl ?_
                  refine s_getf (pc1 := 130) (c := 9) (t1 := 2) (tk (n := 7) t78_2 rfl) rfl rfl (by decide) rfl rfl ?_
                  refine s_dup2 (pc1 := 131) (tk (n := 8) t78_2 rfl) rfl rfl  ?_
                  refine s_getf (pc1 := 134) (c := 5) (t1 := 0) (tk (n := 9) t78_2 rfl) rfl rfl (by decide) rfl rfl ?_
                  refine s_iconst (pc1 := 135) (tk (n := 10) t78_2 rfl) rfl rfl  ?_
                  refine s_iadd (pc1 := 136) (tk (n := 11) t78_2 rfl) rfl rfl  ?_
                  refine s_putf0 (pc1 := 139) (c := 5) (tk (n := 12) t78_2 rfl) rfl rfl rfl rfl rfl ?_
                  refine s_aload_n (pc1 := 140) (tk (n := 13) t78_2 rfl) rfl rfl rfl ?_
                  refine s_call0 (as := [(2, x0)]) (st1 := []) (p1 := 143) (M2 := 68) (tk (n := 14) t78_2 rfl) rfl rfl rfl rfl rfl (fun r65 => ?_)
                  exact s_retG (tk (n := 15) t78_2 rfl) rfl rfl rfl
                · refine s_iconst (pc1 := 117) (tk (n := 0) t78_2 rfl) rfl rfl  ?_
                  exact s_retY (tk (n := 1) t78_2 rfl) rfl rfl rfl (by decide)
              · refine s_iconst (pc1 := 97) (tk (n := 19) t78_1 rfl) rfl rfl  ?_
                exact s_retY (tk (n := 20) t78_1 rfl) rfl rfl rfl (by decide)
      · refine s_iconst (pc1 := 51) (tk (n := 25) t78_0 rfl) rfl rfl  ?_
        exact s_retY (tk (n := 26) t78_0 rfl) rfl rfl rfl (by decide)
  · refine s_aload_n (pc1 := 12) (tk (n := 5) t78_0 rfl) rfl rfl rfl ?_
    refine s_iconst (pc1 := 13) (tk (n := 6) t78_0 rfl) rfl rfl  ?_
    refine s_call0 (as := [(2, x0), (0, 2)]) (st1 := []) (p1 := 16) (M2 := 66) (tk (n := 7) t78_0 rfl) rfl rfl rfl rfl rfl (fun r8 => ?_)
    exact s_retG (tk (n := 8) t78_0 rfl) rfl rfl rfl
set_option maxRecDepth 100000 in
set_option maxHeartbeats 4000000 in
theorem e_X9_passStoreOf (x0 : Int) (x1 : Int) (h : Hq) : vm 79 [(2, x0), (2, x1)] h = if 0 < x0 ∧ (kd x0).1 = 9 then (vm 72 [(2, x0)] h).bind (fun r2 => if (vx r2) ≠ 0 then (if 0 < x0 ∧ (kd x0).1 = 9 then if 0 < x0 ∧ (kd x0).1 = 9 then if 0 < (r2.2.2 x0 0) ∧ (kd (r2.2.2 x0 0)).1 = 3 then if 0 < (r2.2.2 x0 1) ∧ (kd (r2.2.2 x0 1)).1 = 5 then (vm 36 [(2, r2.2.2 x0 1), (1, r2.2.2 (r2.2.2 x0 0) 7)] r2.2).bind (fun r9 => if (vx r9) = (-1) then (if 0 < x0 ∧ (kd x0).1 = 9 then (vm 66 [(2, x0), (0, 3)] r9.2).bind (fun r16 => if (vx r16) = 0 ∨ (vx r16) = 1 then some (some (0, vx r16), r16.2) else none) else none) else (if 0 < x0 ∧ (kd x0).1 = 9 then if 0 < (r9.2.2 x0 1) ∧ (kd (r9.2.2 x0 1)).1 = 5 then if (kd (r9.2.2 (r9.2.2 x0 1) 1)).1 = 20 ∧ 0 ≤ (vx r9) ∧ (vx r9) < (kd (r9.2.2 (r9.2.2 x0 1) 1)).2 then if (r9.2.2 (r9.2.2 (r9.2.2 x0 1) 1) (vx r9)) < 1 then (if 0 < x0 ∧ (kd x0).1 = 9 then (vm 66 [(2, x0), (0, 3)] r9.2).bind (fun r23 => if (vx r23) = 0 ∨ (vx r23) = 1 then some (some (0, vx r23), r23.2) else none) else none) else (if 0 < x0 ∧ (kd x0).1 = 9 then if 0 < (r9.2.2 x0 1) ∧ (kd (r9.2.2 x0 1)).1 = 5 then if (kd (r9.2.2 (r9.2.2 x0 1) 1)).1 = 20 ∧ 0 ≤ (vx r9) ∧ (vx r9) < (kd (r9.2.2 (r9.2.2 x0 1) 1)).2 then if (r9.2.2 (r9.2.2 (r9.2.2 x0 1) 1) (vx r9)) ≤ 7 then (if (0 < x1 ∧ (kd x1).1 = 10) ∧ True then if 0 < x0 ∧ (kd x0).1 = 9 then if 0 < ((stm r9.2.2 x1 4 (vx r9)) x0 1) ∧ (kd ((stm r9.2.2 x1 4 (vx r9)) x0 1)).1 = 5 then if (kd ((stm r9.2.2 x1 4 (vx r9)) ((stm r9.2.2 x1 4 (vx r9)) x0 1) 1)).1 = 20 ∧ 0 ≤ (vx r9) ∧ (vx r9) < (kd ((stm r9.2.2 x1 4 (vx r9)) ((stm r9.2.2 x1 4 (vx r9)) x0 1) 1)).2 then if (0 < x1 ∧ (kd x1).1 = 10) ∧ True then if 0 < x0 ∧ (kd x0).1 = 9 then (vm 73 [(2, x0)] (r9.2.1, stm (stm r9.2.2 x1 4 (vx r9)) x1 5 ((stm r9.2.2 x1 4 (vx r9)) ((stm r9.2.2 x1 4 (vx r9)) ((stm r9.2.2 x1 4 (vx r9)) x0 1) 1) (vx r9)))).bind (fun r39 => if (vx r39) = 0 ∨ (vx r39) = 1 then some (some (0, vx r39), r39.2) else none) else none else none else none else none else none else none) else (if 0 < x0 ∧ (kd x0).1 = 9 then (vm 66 [(2, x0), (0, 3)] r9.2).bind (fun r30 => if (vx r30) = 0 ∨ (vx r30) = 1 then some (some (0, vx r30), r30.2) else none) else none) else none else none else none) else none else none else none)) else none else none else none else none) else (some (some (0, 0), r2.2))) else none := by
  show vp 79 0 [(2, x0), (2, x1), (9, 0)] [] h = _
  refine s_aload_n (pc1 := 1) (tk (n := 0) t79_0 rfl) rfl rfl rfl ?_
  refine s_call0 (as := [(2, x0)]) (st1 := []) (p1 := 4) (M2 := 72) (tk (n := 1) t79_0 rfl) rfl rfl rfl rfl rfl (fun r2 => ?_)
  refine s_if_ne (pc1 := 7) (pt := 9) (tk (n := 2) t79_0 rfl) rfl rfl rfl ?_ ?_
  · refine s_aload_n (pc1 := 10) (tk (n := 5) t79_0 rfl) rfl rfl rfl ?_
    refine s_getf (pc1 := 13) (c := 9) (t1 := 2) (tk (n := 6) t79_0 rfl) rfl rfl (by decide) rfl rfl ?_
    refine s_aload_n (pc1 := 14) (tk (n := 7) t79_0 rfl) rfl rfl rfl ?_
    refine s_getf (pc1 := 17) (c := 9) (t1 := 2) (tk (n := 8) t79_0 rfl) rfl rfl (by decide) rfl rfl ?_
    refine s_getf (pc1 := 20) (c := 3) (t1 := 1) (tk (n := 9) t79_0 rfl) rfl rfl (by decide) rfl rfl ?_
    refine s_call0 (as := [(2, r2.2.2 x0 1), (1, r2.2.2 (r2.2.2 x0 0) 7)]) (st1 := []) (p1 := 23) (M2 := 36) (tk (n := 10) t79_0 rfl) rfl rfl rfl rfl rfl (fun r9 => ?_)
    refine s_istore_n (pc1 := 24) (ls1 := [(2, x0), (2, x1), (0, vx r9)]) (tk (n := 11) t79_0 rfl) rfl rfl rfl rfl ?_
    refine s_iload_n (pc1 := 25) (tk (n := 12) t79_0 rfl) rfl rfl rfl ?_
    refine s_iconst (pc1 := 26) (tk (n := 13) t79_0 rfl) rfl rfl  ?_
    refine s_ic_eq (pc1 := 29) (pt := 56) (tk (n := 14) t79_0 rfl) rfl rfl rfl ?_ ?_
    · refine s_aload_n (pc1 := 57) (tk (n := 29) t79_0 rfl) rfl rfl rfl ?_
      refine s_iconst (pc1 := 58) (tk (n := 0) t79_1 rfl) rfl rfl  ?_
      refine s_call0 (as := [(2, x0), (0, 3)]) (st1 := []) (p1 := 61) (M2 := 66) (tk (n := 1) t79_1 rfl) rfl rfl rfl rfl rfl (fun r16 => ?_)
      exact s_retG (tk (n := 2) t79_1 rfl) rfl rfl rfl
    · refine s_aload_n (pc1 := 30) (tk (n := 15) t79_0 rfl) rfl rfl rfl ?_
      refine s_getf (pc1 := 33) (c := 9) (t1 := 2) (tk (n := 16) t79_0 rfl) rfl rfl (by decide) rfl rfl ?_
      refine s_getf (pc1 := 36) (c := 5) (t1 := 2) (tk (n := 17) t79_0 rfl) rfl rfl (by decide) rfl rfl ?_
      refine s_iload_n (pc1 := 37) (tk (n := 18) t79_0 rfl) rfl rfl rfl ?_
      refine s_iald (pc1 := 38) (tk (n := 19) t79_0 rfl) rfl rfl  ?_
      refine s_iconst (pc1 := 39) (tk (n := 20) t79_0 rfl) rfl rfl  ?_
      refine s_ic_lt (pc1 := 42) (pt := 56) (tk (n := 21) t79_0 rfl) rfl rfl rfl ?_ ?_
      · refine s_aload_n (pc1 := 57) (tk (n := 29) t79_0 rfl) rfl rfl rfl ?_
        refine s_iconst (pc1 := 58) (tk (n := 0) t79_1 rfl) rfl rfl  ?_
        refine s_call0 (as := [(2, x0), (0, 3)]) (st1 := []) (p1 := 61) (M2 := 66) (tk (n := 1) t79_1 rfl) rfl rfl rfl rfl rfl (fun r23 => ?_)
        exact s_retG (tk (n := 2) t79_1 rfl) rfl rfl rfl
      · refine s_aload_n (pc1 := 43) (tk (n := 22) t79_0 rfl) rfl rfl rfl ?_
        refine s_getf (pc1 := 46) (c := 9) (t1 := 2) (tk (n := 23) t79_0 rfl) rfl rfl (by decide) rfl rfl ?_
        refine s_getf (pc1 := 49) (c := 5) (t1 := 2) (tk (n := 24) t79_0 rfl) rfl rfl (by decide) rfl rfl ?_
        refine s_iload_n (pc1 := 50) (tk (n := 25) t79_0 rfl) rfl rfl rfl ?_
        refine s_iald (pc1 := 51) (tk (n := 26) t79_0 rfl) rfl rfl  ?_
        refine s_bipush (pc1 := 53) (tk (n := 27) t79_0 rfl) rfl rfl  ?_
        refine s_ic_le (pc1 := 56) (pt := 62) (tk (n := 28) t79_0 rfl) rfl rfl rfl ?_ ?_
        · refine s_aload_n (pc1 := 63) (tk (n := 3) t79_1 rfl) rfl rfl rfl ?_
          refine s_iload_n (pc1 := 64) (tk (n := 4) t79_1 rfl) rfl rfl rfl ?_
          refine s_putf0 (pc1 := 67) (c := 10) (tk (n := 5) t79_1 rfl) rfl rfl rfl rfl rfl ?_
          refine s_aload_n (pc1 := 68) (tk (n := 6) t79_1 rfl) rfl rfl rfl ?_
          refine s_aload_n (pc1 := 69) (tk (n := 7) t79_1 rfl) rfl rfl rfl ?_
          refine s_getf (pc1 := 72) (c := 9) (t1 := 2) (tk (n := 8) t79_1 rfl) rfl rfl (by decide) rfl rfl ?_
          refine s_getf (pc1 := 75) (c := 5) (t1 := 2) (tk (n := 9) t79_1 rfl) rfl rfl (by decide) rfl rfl ?_
          refine s_iload_n (pc1 := 76) (tk (n := 10) t79_1 rfl) rfl rfl rfl ?_
          refine s_iald (pc1 := 77) (tk (n := 11) t79_1 rfl) rfl rfl  ?_
          refine s_putf0 (pc1 := 80) (c := 10) (tk (n := 12) t79_1 rfl) rfl rfl rfl rfl rfl ?_
          refine s_aload_n (pc1 := 81) (tk (n := 13) t79_1 rfl) rfl rfl rfl ?_
          refine s_call0 (as := [(2, x0)]) (st1 := []) (p1 := 84) (M2 := 73) (tk (n := 14) t79_1 rfl) rfl rfl rfl rfl rfl (fun r39 => ?_)
          exact s_retG (tk (n := 15) t79_1 rfl) rfl rfl rfl
        · refine s_aload_n (pc1 := 57) (tk (n := 29) t79_0 rfl) rfl rfl rfl ?_
          refine s_iconst (pc1 := 58) (tk (n := 0) t79_1 rfl) rfl rfl  ?_
          refine s_call0 (as := [(2, x0), (0, 3)]) (st1 := []) (p1 := 61) (M2 := 66) (tk (n := 1) t79_1 rfl) rfl rfl rfl rfl rfl (fun r30 => ?_)
          exact s_retG (tk (n := 2) t79_1 rfl) rfl rfl rfl
  · refine s_iconst (pc1 := 8) (tk (n := 3) t79_0 rfl) rfl rfl  ?_
    exact s_retY (tk (n := 4) t79_0 rfl) rfl rfl rfl (by decide)
set_option maxRecDepth 100000 in
set_option maxHeartbeats 4000000 in
theorem e_X9_passExtent (x0 : Int) (x1 : Int) (h : Hq) : vm 80 [(2, x0), (2, x1)] h = if 0 < x0 ∧ (kd x0).1 = 9 then (vm 67 [(2, x0), (0, 8), (0, 1)] h).bind (fun r4 => if (vx r4) = 0 then (some (some (0, 0), r4.2)) else (if 0 < x0 ∧ (kd x0).1 = 9 then (vm 69 [(2, x0), (0, 0), (0, 399)] r4.2).bind (fun r9 => if (vx r9) ≠ 0 then (if 0 < x0 ∧ (kd x0).1 = 9 then if 0 < x0 ∧ (kd x0).1 = 9 then (vm 67 [(2, x0), (0, 9), (0, 1)] r9.2).bind (fun r17 => if (vx r17) = 0 then (some (some (0, 0), r17.2)) else (if 0 < x0 ∧ (kd x0).1 = 9 then (vm 71 [(2, x0), (0, 16)] r17.2).bind (fun r21 => if (vx r21) ≠ 0 then (if 0 < x0 ∧ (kd x0).1 = 9 then if (0 < x1 ∧ (kd x1).1 = 10) ∧ True then if 0 < x0 ∧ (kd x0).1 = 9 then (vm 67 [(2, x0), (0, 1), (0, 1)] (r21.2.1, stm r21.2.2 x1 7 (r21.2.2 x0 4))).bind (fun r30 => if (vx r30) = 0 then (some (some (0, 0), r30.2)) else (if 0 < x0 ∧ (kd x0).1 = 9 then (vm 71 [(2, x0), (0, 16)] r30.2).bind (fun r34 => if (vx r34) ≠ 0 then (if 0 < x0 ∧ (kd x0).1 = 9 then if (0 < x1 ∧ (kd x1).1 = 10) ∧ True then if 0 < x1 ∧ (kd x1).1 = 10 then if 0 < x1 ∧ (kd x1).1 = 10 then (vm 313 [(0, (stm r34.2.2 x1 8 (r34.2.2 x0 4)) x1 7), (0, (stm r34.2.2 x1 8 (r34.2.2 x0 4)) x1 8)] (r34.2.1, stm r34.2.2 x1 8 (r34.2.2 x0 4))).bind (fun r45 => (vm 309 [(0, w32 ((vx r45) - 1))] r45.2).bind (fun r48 => if 0 < x0 ∧ (kd x0).1 = 9 then (vm 67 [(2, x0), (0, 10), (0, 1)] r48.2).bind (fun r54 => if (vx r54) = 0 then (some (some (0, 0), r54.2)) else (if 0 < x0 ∧ (kd x0).1 = 9 then (vm 70 [(2, x0), (0, 1), (0, w32 (1 + (vx r48)))] r54.2).bind (fun r59 => if (vx r59) ≠ 0 then (if 0 < x0 ∧ (kd x0).1 = 9 then if 0 < (r59.2.2 x0 0) ∧ (kd (r59.2.2 x0 0)).1 = 3 then if 0 < x1 ∧ (kd x1).1 = 10 then (vm 83 [(2, x1), (0, r9.2.2 x0 4), (0, r59.2.2 (r59.2.2 x0 0) 6)] r59.2).bind (fun r66 => if 0 < x1 ∧ (kd x1).1 = 10 then if 0 < x1 ∧ (kd x1).1 = 10 then if (kd (r66.2.2 x1 0)).1 = 20 ∧ 0 ≤ (r66.2.2 x1 9) ∧ (r66.2.2 x1 9) < (kd (r66.2.2 x1 0)).2 then if 0 < x0 ∧ (kd x0).1 = 9 then if 0 < (r66.2.2 x0 1) ∧ (kd (r66.2.2 x0 1)).1 = 5 then if 0 < x1 ∧ (kd x1).1 = 10 then if (kd (r66.2.2 (r66.2.2 x0 1) 2)).1 = 20 ∧ 0 ≤ (r66.2.2 x1 4) ∧ (r66.2.2 x1 4) < (kd (r66.2.2 (r66.2.2 x0 1) 2)).2 then if (r66.2.2 (r66.2.2 x1 0) (r66.2.2 x1 9)) ≤ (r66.2.2 (r66.2.2 (r66.2.2 x0 1) 2) (r66.2.2 x1 4)) then (if 0 < x0 ∧ (kd x0).1 = 9 then (vm 69 [(2, x0), (0, 1), (0, w32 (1 + (vx r48)))] r66.2).bind (fun r82 => if (vx r82) = 0 ∨ (vx r82) = 1 then some (some (0, vx r82), r82.2) else none) else none) else (if 0 < x0 ∧ (kd x0).1 = 9 then (vm 66 [(2, x0), (0, 5)] r66.2).bind (fun r81 => if (vx r81) = 0 ∨ (vx r81) = 1 then some (some (0, vx r81), r81.2) else none) else none) else none else none else none else none else none else none else none) else none else none else none) else (some (some (0, 0), r59.2))) else none)) else none)) else none else none else none else none) else (some (some (0, 0), r34.2))) else none)) else none else none else none) else (some (some (0, 0), r21.2))) else none)) else none else none) else (some (some (0, 0), r9.2))) else none)) else none := by
  show vp 80 0 [(2, x0), (2, x1), (9, 0), (9, 0)] [] h = _
  refine s_aload_n (pc1 := 1) (tk (n := 0) t80_0 rfl) rfl rfl rfl ?_
  refine s_bipush (pc1 := 3) (tk (n := 1) t80_0 rfl) rfl rfl  ?_
  refine s_iconst (pc1 := 4) (tk (n := 2) t80_0 rfl) rfl rfl  ?_
  refine s_call0 (as := [(2, x0), (0, 8), (0, 1)]) (st1 := []) (p1 := 7) (M2 := 67) (tk (n := 3) t80_0 rfl) rfl rfl rfl rfl rfl (fun r4 => ?_)
  refine s_if_eq (pc1 := 10) (pt := 21) (tk (n := 4) t80_0 rfl) rfl rfl rfl ?_ ?_
  · refine s_iconst (pc1 := 22) (tk (n := 10) t80_0 rfl) rfl rfl  ?_
    exact s_retY (tk (n := 11) t80_0 rfl) rfl rfl rfl (by decide)
  · refine s_aload_n (pc1 := 11) (tk (n := 5) t80_0 rfl) rfl rfl rfl ?_
    refine s_iconst (pc1 := 12) (tk (n := 6) t80_0 rfl) rfl rfl  ?_
    refine s_sipush (pc1 := 15) (tk (n := 7) t80_0 rfl) rfl rfl  ?_
    refine s_call0 (as := [(2, x0), (0, 0), (0, 399)]) (st1 := []) (p1 := 18) (M2 := 69) (tk (n := 8) t80_0 rfl) rfl rfl rfl rfl rfl (fun r9 => ?_)
    refine s_if_ne (pc1 := 21) (pt := 23) (tk (n := 9) t80_0 rfl) rfl rfl rfl ?_ ?_
    · refine s_aload_n (pc1 := 24) (tk (n := 12) t80_0 rfl) rfl rfl rfl ?_
      refine s_getf (pc1 := 27) (c := 9) (t1 := 0) (tk (n := 13) t80_0 rfl) rfl rfl (by decide) rfl rfl ?_
      refine s_istore_n (pc1 := 28) (ls1 := [(2, x0), (2, x1), (0, r9.2.2 x0 4), (9, 0)]) (tk (n := 14) t80_0 rfl) rfl rfl rfl rfl ?_
      refine s_aload_n (pc1 := 29) (tk (n := 15) t80_0 rfl) rfl rfl rfl ?_
      refine s_bipush (pc1 := 31) (tk (n := 16) t80_0 rfl) rfl rfl  ?_
      refine s_iconst (pc1 := 32) (tk (n := 17) t80_0 rfl) rfl rfl  ?_
      refine s_call0 (as := [(2, x0), (0, 9), (0, 1)]) (st1 := []) (p1 := 35) (M2 := 67) (tk (n := 18) t80_0 rfl) rfl rfl rfl rfl rfl (fun r17 => ?_)
      refine s_if_eq (pc1 := 38) (pt := 47) (tk (n := 19) t80_0 rfl) rfl rfl rfl ?_ ?_
      · refine s_iconst (pc1 := 48) (tk (n := 24) t80_0 rfl) rfl rfl  ?_
        exact s_retY (tk (n := 25) t80_0 rfl) rfl rfl rfl (by decide)
      · refine s_aload_n (pc1 := 39) (tk (n := 20) t80_0 rfl) rfl rfl rfl ?_
        refine s_bipush (pc1 := 41) (tk (n := 21) t80_0 rfl) rfl rfl  ?_
        refine s_call0 (as := [(2, x0), (0, 16)]) (st1 := []) (p1 := 44) (M2 := 71) (tk (n := 22) t80_0 rfl) rfl rfl rfl rfl rfl (fun r21 => ?_)
        refine s_if_ne (pc1 := 47) (pt := 49) (tk (n := 23) t80_0 rfl) rfl rfl rfl ?_ ?_
        · refine s_aload_n (pc1 := 50) (tk (n := 26) t80_0 rfl) rfl rfl rfl ?_
          refine s_aload_n (pc1 := 51) (tk (n := 27) t80_0 rfl) rfl rfl rfl ?_
          refine s_getf (pc1 := 54) (c := 9) (t1 := 0) (tk (n := 28) t80_0 rfl) rfl rfl (by decide) rfl rfl ?_
          refine s_putf0 (pc1 := 57) (c := 10) (tk (n := 29) t80_0 rfl) rfl rfl rfl rfl rfl ?_
          refine s_aload_n (pc1 := 58) (tk (n := 0) t80_1 rfl) rfl rfl rfl ?_
          refine s_iconst (pc1 := 59) (tk (n := 1) t80_1 rfl) rfl rfl  ?_
          refine s_iconst (pc1 := 60) (tk (n := 2) t80_1 rfl) rfl rfl  ?_
          refine s_call0 (as := [(2, x0), (0, 1), (0, 1)]) (st1 := []) (p1 := 63) (M2 := 67) (tk (n := 3) t80_1 rfl) rfl rfl rfl rfl rfl (fun r30 => ?_)
          refine s_if_eq (pc1 := 66) (pt := 75) (tk (n := 4) t80_1 rfl) rfl rfl rfl ?_ ?_
          · refine s_iconst (pc1 := 76) (tk (n := 9) t80_1 rfl) rfl rfl  ?_
            exact s_retY (tk (n := 10) t80_1 rfl) rfl rfl rfl (by decide)
          · refine s_aload_n (pc1 := 67) (tk (n := 5) t80_1 rfl) rfl rfl rfl ?_
            refine s_bipush (pc1 := 69) (tk (n := 6) t80_1 rfl) rfl rfl  ?_
            refine s_call0 (as := [(2, x0), (0, 16)]) (st1 := []) (p1 := 72) (M2 := 71) (tk (n := 7) t80_1 rfl) rfl rfl rfl rfl rfl (fun r34 => ?_)
            refine s_if_ne (pc1 := 75) (pt := 77) (tk (n := 8) t80_1 rfl) rfl rfl rfl ?_ ?_
            · refine s_aload_n (pc1 := 78) (tk (n := 11) t80_1 rfl) rfl rfl rfl ?_
              refine s_aload_n (pc1 := 79) (tk (n := 12) t80_1 rfl) rfl rfl rfl ?_
              refine s_getf (pc1 := 82) (c := 9) (t1 := 0) (tk (n := 13) t80_1 rfl) rfl rfl (by decide) rfl rfl ?_
              refine s_putf0 (pc1 := 85) (c := 10) (tk (n := 14) t80_1 rfl) rfl rfl rfl rfl rfl ?_
              refine s_iconst (pc1 := 86) (tk (n := 15) t80_1 rfl) rfl rfl  ?_
              refine s_aload_n (pc1 := 87) (tk (n := 16) t80_1 rfl) rfl rfl rfl ?_
              refine s_getf (pc1 := 90) (c := 10) (t1 := 0) (tk (n := 17) t80_1 rfl) rfl rfl (by decide) rfl rfl ?_
              refine s_aload_n (pc1 := 91) (tk (n := 18) t80_1 rfl) rfl rfl rfl ?_
              refine s_getf (pc1 := 94) (c := 10) (t1 := 0) (tk (n := 19) t80_1 rfl) rfl rfl (by decide) rfl rfl ?_
              refine s_callS0 (as := [(0, (stm r34.2.2 x1 8 (r34.2.2 x0 4)) x1 7), (0, (stm r34.2.2 x1 8 (r34.2.2 x0 4)) x1 8)]) (st1 := [(0, 1)]) (p1 := 97) (M2 := 313) (tk (n := 20) t80_1 rfl) rfl rfl rfl rfl rfl (fun r45 => ?_)
              refine s_iconst (pc1 := 98) (tk (n := 21) t80_1 rfl) rfl rfl  ?_
              refine s_isub (pc1 := 99) (tk (n := 22) t80_1 rfl) rfl rfl  ?_
              refine s_callS0 (as := [(0, w32 ((vx r45) - 1))]) (st1 := [(0, 1)]) (p1 := 102) (M2 := 309) (tk (n := 23) t80_1 rfl) rfl rfl rfl rfl rfl (fun r48 => ?_)
              refine s_iadd (pc1 := 103) (tk (n := 24) t80_1 rfl) rfl rfl  ?_
              refine s_istore_n (pc1 := 104) (ls1 := [(2, x0), (2, x1), (0, r9.2.2 x0 4), (0, w32 (1 + (vx r48)))]) (tk (n := 25) t80_1 rfl) rfl rfl rfl rfl ?_
              refine s_aload_n (pc1 := 105) (tk (n := 26) t80_1 rfl) rfl rfl rfl ?_
              refine s_bipush (pc1 := 107) (tk (n := 27) t80_1 rfl) rfl rfl  ?_
              refine s_iconst (pc1 := 108) (tk (n := 28) t80_1 rfl) rfl rfl  ?_
              refine s_call0 (as := [(2, x0), (0, 10), (0, 1)]) (st1 := []) (p1 := 111) (M2 := 67) (tk (n := 29) t80_1 rfl) rfl rfl rfl rfl rfl (fun r54 => ?_)
              refine s_if_eq (pc1 := 114) (pt := 123) (tk (n := 0) t80_2 rfl) rfl rfl rfl ?_ ?_
              · refine s_iconst (pc1 := 124) (tk (n := 6) t80_2 rfl) rfl rfl  ?_
                exact s_retY (tk (n := 7) t80_2 rfl) rfl rfl rfl (by decide)
              · refine s_aload_n (pc1 := 115) (tk (n := 1) t80_2 rfl) rfl rfl rfl ?_
                refine s_iconst (pc1 := 116) (tk (n := 2) t80_2 rfl) rfl rfl  ?_
                refine s_iload_n (pc1 := 117) (tk (n := 3) t80_2 rfl) rfl rfl rfl ?_
                refine s_call0 (as := [(2, x0), (0, 1), (0, w32 (1 + (vx r48)))]) (st1 := []) (p1 := 120) (M2 := 70) (tk (n := 4) t80_2 rfl) rfl rfl rfl rfl rfl (fun r59 => ?_)
                refine s_if_ne (pc1 := 123) (pt := 125) (tk (n := 5) t80_2 rfl) rfl rfl rfl ?_ ?_
                · refine s_aload_n (pc1 := 126) (tk (n := 8) t80_2 rfl) rfl rfl rfl ?_
                  refine s_iload_n (pc1 := 127) (tk (n := 9) t80_2 rfl) rfl rfl rfl ?_
                  refine s_aload_n (pc1 := 128) (tk (n := 10) t80_2 rfl) rfl rfl rfl ?_
                  refine s_getf (pc1 := 131) (c := 9) (t1 := 2) (tk (n := 11) t80_2 rfl) rfl rfl (by decide) rfl rfl ?_
                  refine s_getf (pc1 := 134) (c := 3) (t1 := 0) (tk (n := 12) t80_2 rfl) rfl rfl (by decide) rfl rfl ?_
                  refine s_call9 (as := [(2, x1), (0, r9.2.2 x0 4), (0, r59.2.2 (r59.2.2 x0 0) 6)]) (st1 := []) (p1 := 137) (M2 := 83) (tk (n := 13) t80_2 rfl) rfl rfl rfl rfl rfl (fun r66 => ?_)
                  refine s_aload_n (pc1 := 138) (tk (n := 14) t80_2 rfl) rfl rfl rfl ?_
                  refine s_getf (pc1 := 141) (c := 10) (t1 := 2) (tk (n := 15) t80_2 rfl) rfl rfl (by decide) rfl rfl ?_
                  refine s_aload_n (pc1 := 142) (tk (n := 16) t80_2 rfl) rfl rfl rfl ?_
                  refine s_getf (pc1 := 145) (c := 10) (t1 := 0) (tk (n := 17) t80_2 rfl) rfl rfl (by decide) rfl rfl ?_
                  refine s_iald (pc1 := 146) (tk (n := 18) t80_2 rfl) rfl rfl  ?_
                  refine s_aload_n (pc1 := 147) (tk (n := 19) t80_2 rfl) rfl rfl rfl ?_
                  refine s_getf (pc1 := 150) (c := 9) (t1 := 2) (tk (n := 20) t80_2 rfl) rfl rfl (by decide) rfl rfl ?_
                  refine s_getf (pc1 := 153) (c := 5) (t1 := 2) (tk (n := 21) t80_2 rfl) rfl rfl (by decide) rfl rfl ?_
                  refine s_aload_n (pc1 := 154) (tk (n := 22) t80_2 rfl) rfl rfl rfl ?_
                  refine s_getf (pc1 := 157) (c := 10) (t1 := 0) (tk (n := 23) t80_2 rfl) rfl rfl (by decide) rfl rfl ?_
                  refine s_iald (pc1 := 158) (tk (n := 24) t80_2 rfl) rfl rfl  ?_
                  refine s_ic_le (pc1 := 161) (pt := 169) (tk (n := 25) t80_2 rfl) rfl rfl rfl ?_ ?_
                  · refine s_aload_n (pc1 := 170) (tk (n := 0) t80_3 rfl) rfl rfl rfl ?_
                    refine s_iconst (pc1 := 171) (tk (n := 1) t80_3 rfl) rfl rfl  ?_
                    refine s_iload_n (pc1 := 172) (tk (n := 2) t80_3 rfl) rfl rfl rfl ?_
                    refine s_call0 (as := [(2, x0), (0, 1), (0, w32 (1 + (vx r48)))]) (st1 := []) (p1 := 175) (M2 := 69) (tk (n := 3) t80_3 rfl) rfl rfl rfl rfl rfl (fun r82 => ?_)
                    exact s_retG (tk (n := 4) t80_3 rfl) rfl rfl rfl
                  · refine s_aload_n (pc1 := 162) (tk (n := 26) t80_2 rfl) rfl rfl rfl ?_
                    refine s_iconst (pc1 := 163) (tk (n := 27) t80_2 rfl) rfl rfl  ?_
                    refine s_call0 (as := [(2, x0), (0, 5)]) (st1 := []) (p1 := 166) (M2 := 66) (tk (n := 28) t80_2 rfl) rfl rfl rfl rfl rfl (fun r81 => ?_)
                    refine s_goto (pc1 := 175) (tk (n := 29) t80_2 rfl) rfl rfl ?_
                    exact s_retG (tk (n := 4) t80_3 rfl) rfl rfl rfl
                · refine s_iconst (pc1 := 124) (tk (n := 6) t80_2 rfl) rfl rfl  ?_
                  exact s_retY (tk (n := 7) t80_2 rfl) rfl rfl rfl (by decide)
            · refine s_iconst (pc1 := 76) (tk (n := 9) t80_1 rfl) rfl rfl  ?_
              exact s_retY (tk (n := 10) t80_1 rfl) rfl rfl rfl (by decide)
        · refine s_iconst (pc1 := 48) (tk (n := 24) t80_0 rfl) rfl rfl  ?_
          exact s_retY (tk (n := 25) t80_0 rfl) rfl rfl rfl (by decide)
    · refine s_iconst (pc1 := 22) (tk (n := 10) t80_0 rfl) rfl rfl  ?_
      exact s_retY (tk (n := 11) t80_0 rfl) rfl rfl rfl (by decide)
set_option maxRecDepth 100000 in
set_option maxHeartbeats 4000000 in
theorem e_X9_tellsFill (x0 : Int) (h : Hq) : vm 81 [(2, x0)] h = if 0 < x0 ∧ (kd x0).1 = 9 then if 0 < (h.2 x0 0) ∧ (kd (h.2 x0 0)).1 = 3 then (vm 21 [(2, h.2 x0 0)] h).bind (fun r3 => if 0 < x0 ∧ (kd x0).1 = 9 then (vm 72 [(2, x0)] r3.2).bind (fun r5 => if (vx r5) ≠ 0 then (if 0 < x0 ∧ (kd x0).1 = 9 then if 0 < x0 ∧ (kd x0).1 = 9 then if 0 < (r5.2.2 x0 0) ∧ (kd (r5.2.2 x0 0)).1 = 3 then if 0 < (r5.2.2 x0 1) ∧ (kd (r5.2.2 x0 1)).1 = 5 then (vm 37 [(2, r5.2.2 x0 1), (1, r5.2.2 (r5.2.2 x0 0) 7)] r5.2).bind (fun r12 => if (vx r12) ≠ (-1) then (if 0 < x0 ∧ (kd x0).1 = 9 then (vm 73 [(2, x0)] r12.2).bind (fun r18 => if 0 < x0 ∧ (kd x0).1 = 9 then if 0 < (r18.2.2 x0 1) ∧ (kd (r18.2.2 x0 1)).1 = 5 then (vm 314 [(0, r18.2.2 (r18.2.2 x0 1) 7), (0, 74)] r18.2).bind (fun r25 => if 0 < x0 ∧ (kd x0).1 = 9 then if 0 < (r25.2.2 x0 1) ∧ (kd (r25.2.2 x0 1)).1 = 5 then if 0 < (r25.2.2 (r25.2.2 x0 1) 4) ∧ (kd (r25.2.2 (r25.2.2 x0 1) 4)).1 = 20 ∧ 0 ≤ (w32 (4 * (vx r25))) ∧ (w32 (4 * (vx r25))) < (kd (r25.2.2 (r25.2.2 x0 1) 4)).2 then vp 81 74 [(2, x0), (0, vx r12), (0, w32 (4 * (vx r25))), (0, 1)] [] (r25.2.1, stm r25.2.2 (r25.2.2 (r25.2.2 x0 1) 4) (w32 (4 * (vx r25))) (vx r12)) else none else none else none) else none else none) else none) else (if 0 < x0 ∧ (kd x0).1 = 9 then (vm 66 [(2, x0), (0, 3)] r12.2).bind (fun r19 => if (vx r19) = 0 ∨ (vx r19) = 1 then some (some (0, vx r19), r19.2) else none) else none)) else none else none else none else none) else (some (some (0, 0), r5.2))) else none) else none else none := by
  show vp 81 0 [(2, x0), (9, 0), (9, 0), (9, 0)] [] h = _
  refine s_aload_n (pc1 := 1) (tk (n := 0) t81_0 rfl) rfl rfl rfl ?_
  refine s_getf (pc1 := 4) (c := 9) (t1 := 2) (tk (n := 1) t81_0 rfl) rfl rfl (by decide) rfl rfl ?_
  refine s_call9 (as := [(2, h.2 x0 0)]) (st1 := []) (p1 := 7) (M2 := 21) (tk (n := 2) t81_0 rfl) rfl rfl rfl rfl rfl (fun r3 => ?_)
  refine s_aload_n (pc1 := 8) (tk (n := 3) t81_0 rfl) rfl rfl rfl ?_
  refine s_call0 (as := [(2, x0)]) (st1 := []) (p1 := 11) (M2 := 72) (tk (n := 4) t81_0 rfl) rfl rfl rfl rfl rfl (fun r5 => ?_)
  refine s_if_ne (pc1 := 14) (pt := 16) (tk (n := 5) t81_0 rfl) rfl rfl rfl ?_ ?_
  · refine s_aload_n (pc1 := 17) (tk (n := 8) t81_0 rfl) rfl rfl rfl ?_
    refine s_getf (pc1 := 20) (c := 9) (t1 := 2) (tk (n := 9) t81_0 rfl) rfl rfl (by decide) rfl rfl ?_
    refine s_aload_n (pc1 := 21) (tk (n := 10) t81_0 rfl) rfl rfl rfl ?_
    refine s_getf (pc1 := 24) (c := 9) (t1 := 2) (tk (n := 11) t81_0 rfl) rfl rfl (by decide) rfl rfl ?_
    refine s_getf (pc1 := 27) (c := 3) (t1 := 1) (tk (n := 12) t81_0 rfl) rfl rfl (by decide) rfl rfl ?_
    refine s_call0 (as := [(2, r5.2.2 x0 1), (1, r5.2.2 (r5.2.2 x0 0) 7)]) (st1 := []) (p1 := 30) (M2 := 37) (tk (n := 13) t81_0 rfl) rfl rfl rfl rfl rfl (fun r12 => ?_)
    refine s_istore_n (pc1 := 31) (ls1 := [(2, x0), (0, vx r12), (9, 0), (9, 0)]) (tk (n := 14) t81_0 rfl) rfl rfl rfl rfl ?_
    refine s_iload_n (pc1 := 32) (tk (n := 15) t81_0 rfl) rfl rfl rfl ?_
    refine s_iconst (pc1 := 33) (tk (n := 16) t81_0 rfl) rfl rfl  ?_
    refine s_ic_ne (pc1 := 36) (pt := 42) (tk (n := 17) t81_0 rfl) rfl rfl rfl ?_ ?_
    · refine s_aload_n (pc1 := 43) (tk (n := 22) t81_0 rfl) rfl rfl rfl ?_
      refine s_call0 (as := [(2, x0)]) (st1 := []) (p1 := 46) (M2 := 73) (tk (n := 23) t81_0 rfl) rfl rfl rfl rfl rfl (fun r18 => ?_)
      refine s_pop0 (pc1 := 47) (tk (n := 24) t81_0 rfl) rfl rfl  ?_
      refine s_iconst (pc1 := 48) (tk (n := 25) t81_0 rfl) rfl rfl  ?_
      refine s_aload_n (pc1 := 49) (tk (n := 26) t81_0 rfl) rfl rfl rfl ?_
      refine s_getf (pc1 := 52) (c := 9) (t1 := 2) (tk (n := 27) t81_0 rfl) rfl rfl (by decide) rfl rfl ?_
      refine s_getf (pc1 := 55) (c := 5) (t1 := 0) (tk (n := 28) t81_0 rfl) rfl rfl (by decide) rfl rfl ?_
      refine s_bipush (pc1 := 57) (tk (n := 29) t81_0 rfl) rfl rfl  ?_
      refine s_callS0 (as := [(0, r18.2.2 (r18.2.2 x0 1) 7), (0, 74)]) (st1 := [(0, 4)]) (p1 := 60) (M2 := 314) (tk (n := 0) t81_1 rfl) rfl rfl rfl rfl rfl (fun r25 => ?_)
      refine s_imul (pc1 := 61) (tk (n := 1) t81_1 rfl) rfl rfl  ?_
      refine s_istore_n (pc1 := 62) (ls1 := [(2, x0), (0, vx r12), (0, w32 (4 * (vx r25))), (9, 0)]) (tk (n := 2) t81_1 rfl) rfl rfl rfl rfl ?_
      refine s_aload_n (pc1 := 63) (tk (n := 3) t81_1 rfl) rfl rfl rfl ?_
      refine s_getf (pc1 := 66) (c := 9) (t1 := 2) (tk (n := 4) t81_1 rfl) rfl rfl (by decide) rfl rfl ?_
      refine s_getf (pc1 := 69) (c := 5) (t1 := 2) (tk (n := 5) t81_1 rfl) rfl rfl (by decide) rfl rfl ?_
      refine s_iload_n (pc1 := 70) (tk (n := 6) t81_1 rfl) rfl rfl rfl ?_
      refine s_iload_n (pc1 := 71) (tk (n := 7) t81_1 rfl) rfl rfl rfl ?_
      refine s_iast (pc1 := 72) (tk (n := 8) t81_1 rfl) rfl rfl  ?_
      refine s_iconst (pc1 := 73) (tk (n := 9) t81_1 rfl) rfl rfl  ?_
      refine s_istore_n (pc1 := 74) (ls1 := [(2, x0), (0, vx r12), (0, w32 (4 * (vx r25))), (0, 1)]) (tk (n := 10) t81_1 rfl) rfl rfl rfl rfl ?_
      rfl
    · refine s_aload_n (pc1 := 37) (tk (n := 18) t81_0 rfl) rfl rfl rfl ?_
      refine s_iconst (pc1 := 38) (tk (n := 19) t81_0 rfl) rfl rfl  ?_
      refine s_call0 (as := [(2, x0), (0, 3)]) (st1 := []) (p1 := 41) (M2 := 66) (tk (n := 20) t81_0 rfl) rfl rfl rfl rfl rfl (fun r19 => ?_)
      exact s_retG (tk (n := 21) t81_0 rfl) rfl rfl rfl
  · refine s_iconst (pc1 := 15) (tk (n := 6) t81_0 rfl) rfl rfl  ?_
    exact s_retY (tk (n := 7) t81_0 rfl) rfl rfl rfl (by decide)
set_option maxRecDepth 100000 in
set_option maxHeartbeats 4000000 in
theorem e_X9_tellsFill_74 (x0 : Int) (z1 : Vl) (x2 : Int) (x3 : Int) (h : Hq) : vp 81 74 [(2, x0), z1, (0, x2), (0, x3)] [] h = if x3 > 3 then (if 0 < x0 ∧ (kd x0).1 = 9 then if 0 < x0 ∧ (kd x0).1 = 9 then if 0 < (h.2 x0 1) ∧ (kd (h.2 x0 1)).1 = 5 then (vm 314 [(0, w32 ((h.2 (h.2 x0 1) 7) + 1)), (0, 75)] h).bind (fun r12 => if (0 < (h.2 x0 1) ∧ (kd (h.2 x0 1)).1 = 5) ∧ True then if 0 < x0 ∧ (kd x0).1 = 9 then (vm 68 [(2, x0)] (r12.2.1, stm r12.2.2 (h.2 x0 1) 7 (vx r12))).bind (fun r15 => if (vx r15) = 0 ∨ (vx r15) = 1 then some (some (0, vx r15), r15.2) else none) else none else none) else none else none else none) else (if 0 < x0 ∧ (kd x0).1 = 9 then (vm 69 [(2, x0), (0, 0), (0, 9999)] h).bind (fun r7 => if (vx r7) ≠ 0 then (if 0 < x0 ∧ (kd x0).1 = 9 then if 0 < (r7.2.2 x0 1) ∧ (kd (r7.2.2 x0 1)).1 = 5 then if 0 < x0 ∧ (kd x0).1 = 9 then if 0 < (r7.2.2 (r7.2.2 x0 1) 4) ∧ (kd (r7.2.2 (r7.2.2 x0 1) 4)).1 = 20 ∧ 0 ≤ (w32 (x2 + x3)) ∧ (w32 (x2 + x3)) < (kd (r7.2.2 (r7.2.2 x0 1) 4)).2 then vp 81 74 [(2, x0), (9, 0), (0, x2), (0, w32 (x3 + 1))] [] (r7.2.1, stm r7.2.2 (r7.2.2 (r7.2.2 x0 1) 4) (w32 (x2 + x3)) (r7.2.2 x0 4)) else none else none else none else none) else (some (some (0, 0), r7.2))) else none) := by
  refine s_fg (ls1 := [(2, x0), (9, 0), (0, x2), (0, x3)]) (tk (n := 11) t81_1 rfl) rfl ?_
  refine s_iload_n (pc1 := 75) (tk (n := 11) t81_1 rfl) rfl rfl rfl ?_
  refine s_iconst (pc1 := 76) (tk (n := 12) t81_1 rfl) rfl rfl  ?_
  refine s_ic_gt (pc1 := 79) (pt := 113) (tk (n := 13) t81_1 rfl) rfl rfl rfl ?_ ?_
  · refine s_aload_n (pc1 := 114) (tk (n := 2) t81_2 rfl) rfl rfl rfl ?_
    refine s_getf (pc1 := 117) (c := 9) (t1 := 2) (tk (n := 3) t81_2 rfl) rfl rfl (by decide) rfl rfl ?_
    refine s_aload_n (pc1 := 118) (tk (n := 4) t81_2 rfl) rfl rfl rfl ?_
    refine s_getf (pc1 := 121) (c := 9) (t1 := 2) (tk (n := 5) t81_2 rfl) rfl rfl (by decide) rfl rfl ?_
    refine s_getf (pc1 := 124) (c := 5) (t1 := 0) (tk (n := 6) t81_2 rfl) rfl rfl (by decide) rfl rfl ?_
    refine s_iconst (pc1 := 125) (tk (n := 7) t81_2 rfl) rfl rfl  ?_
    refine s_iadd (pc1 := 126) (tk (n := 8) t81_2 rfl) rfl rfl  ?_
    refine s_bipush (pc1 := 128) (tk (n := 9) t81_2 rfl) rfl rfl  ?_
    refine s_callS0 (as := [(0, w32 ((h.2 (h.2 x0 1) 7) + 1)), (0, 75)]) (st1 := [(2, h.2 x0 1)]) (p1 := 131) (M2 := 314) (tk (n := 10) t81_2 rfl) rfl rfl rfl rfl rfl (fun r12 => ?_)
    refine s_putf0 (pc1 := 134) (c := 5) (tk (n := 11) t81_2 rfl) rfl rfl rfl rfl rfl ?_
    refine s_aload_n (pc1 := 135) (tk (n := 12) t81_2 rfl) rfl rfl rfl ?_
    refine s_call0 (as := [(2, x0)]) (st1 := []) (p1 := 138) (M2 := 68) (tk (n := 13) t81_2 rfl) rfl rfl rfl rfl rfl (fun r15 => ?_)
    exact s_retG (tk (n := 14) t81_2 rfl) rfl rfl rfl
  · refine s_aload_n (pc1 := 80) (tk (n := 14) t81_1 rfl) rfl rfl rfl ?_
    refine s_iconst (pc1 := 81) (tk (n := 15) t81_1 rfl) rfl rfl  ?_
    refine s_sipush (pc1 := 84) (tk (n := 16) t81_1 rfl) rfl rfl  ?_
    refine s_call0 (as := [(2, x0), (0, 0), (0, 9999)]) (st1 := []) (p1 := 87) (M2 := 69) (tk (n := 17) t81_1 rfl) rfl rfl rfl rfl rfl (fun r7 => ?_)
    refine s_if_ne (pc1 := 90) (pt := 92) (tk (n := 18) t81_1 rfl) rfl rfl rfl ?_ ?_
    · refine s_aload_n (pc1 := 93) (tk (n := 21) t81_1 rfl) rfl rfl rfl ?_
      refine s_getf (pc1 := 96) (c := 9) (t1 := 2) (tk (n := 22) t81_1 rfl) rfl rfl (by decide) rfl rfl ?_
      refine s_getf (pc1 := 99) (c := 5) (t1 := 2) (tk (n := 23) t81_1 rfl) rfl rfl (by decide) rfl rfl ?_
      refine s_iload_n (pc1 := 100) (tk (n := 24) t81_1 rfl) rfl rfl rfl ?_
      refine s_iload_n (pc1 := 101) (tk (n := 25) t81_1 rfl) rfl rfl rfl ?_
      refine s_iadd (pc1 := 102) (tk (n := 26) t81_1 rfl) rfl rfl  ?_
      refine s_aload_n (pc1 := 103) (tk (n := 27) t81_1 rfl) rfl rfl rfl ?_
      refine s_getf (pc1 := 106) (c := 9) (t1 := 0) (tk (n := 28) t81_1 rfl) rfl rfl (by decide) rfl rfl ?_
      refine s_iast (pc1 := 107) (tk (n := 29) t81_1 rfl) rfl rfl  ?_
      refine s_iinc (pc1 := 110) (ls1 := [(2, x0), (9, 0), (0, x2), (0, w32 (x3 + 1))]) (tk (n := 0) t81_2 rfl) rfl rfl rfl rfl ?_
      refine s_goto (pc1 := 74) (tk (n := 1) t81_2 rfl) rfl rfl ?_
      rfl
    · refine s_iconst (pc1 := 91) (tk (n := 19) t81_1 rfl) rfl rfl  ?_
      exact s_retY (tk (n := 20) t81_1 rfl) rfl rfl rfl (by decide)
set_option maxRecDepth 100000 in
set_option maxHeartbeats 4000000 in
theorem e_X10_init (x0 : Int) (x1 : Int) (h : Hq) : vm 82 [(2, x0), (2, x1)] h = if 0 < x0 then if (kd h.1).1 = 20 ∧ (kd h.1).2 = (6 : Int) ∧ 0 ≤ (6 : Int) ∧ (6 : Int) ≤ 1000000 then if (0 < x0 ∧ (kd x0).1 = 10) ∧ True then if (kd (h.1 + 1)).1 = 20 ∧ (kd (h.1 + 1)).2 = (5 : Int) ∧ 0 ≤ (5 : Int) ∧ (5 : Int) ≤ 1000000 then if (0 < x0 ∧ (kd x0).1 = 10) ∧ True then if (kd ((h.1 + 1) + 1)).1 = 20 ∧ (kd ((h.1 + 1) + 1)).2 = (5 : Int) ∧ 0 ≤ (5 : Int) ∧ (5 : Int) ≤ 1000000 then if (0 < x0 ∧ (kd x0).1 = 10) ∧ True then if (0 < x0 ∧ (kd x0).1 = 10) ∧ True then some (none, (((h.1 + 1) + 1) + 1, stm (stm (stm (stm h.2 x0 0 h.1) x0 1 (h.1 + 1)) x0 2 ((h.1 + 1) + 1)) x0 6 x1)) else none else none else none else none else none else none else none else none := by
  show vp 82 0 [(2, x0), (2, x1)] [] h = _
  refine s_aload_n (pc1 := 1) (tk (n := 0) t82_0 rfl) rfl rfl rfl ?_
  refine s_oini (pc1 := 4) (tk (n := 1) t82_0 rfl) rfl rfl rfl ?_
  refine s_aload_n (pc1 := 5) (tk (n := 2) t82_0 rfl) rfl rfl rfl ?_
  refine s_bipush (pc1 := 7) (tk (n := 3) t82_0 rfl) rfl rfl  ?_
  refine s_newa (pc1 := 9) (c := 20) (tk (n := 4) t82_0 rfl) rfl rfl rfl ?_
  refine s_putf2 (pc1 := 12) (c := 10) (tk (n := 5) t82_0 rfl) rfl rfl rfl rfl rfl ?_
  refine s_aload_n (pc1 := 13) (tk (n := 6) t82_0 rfl) rfl rfl rfl ?_
  refine s_iconst (pc1 := 14) (tk (n := 7) t82_0 rfl) rfl rfl  ?_
  refine s_newa (pc1 := 16) (c := 20) (tk (n := 8) t82_0 rfl) rfl rfl rfl ?_
  refine s_putf2 (pc1 := 19) (c := 10) (tk (n := 9) t82_0 rfl) rfl rfl rfl rfl rfl ?_
  refine s_aload_n (pc1 := 20) (tk (n := 10) t82_0 rfl) rfl rfl rfl ?_
  refine s_iconst (pc1 := 21) (tk (n := 11) t82_0 rfl) rfl rfl  ?_
  refine s_newa (pc1 := 23) (c := 20) (tk (n := 12) t82_0 rfl) rfl rfl rfl ?_
  refine s_putf2 (pc1 := 26) (c := 10) (tk (n := 13) t82_0 rfl) rfl rfl rfl rfl rfl ?_
  refine s_aload_n (pc1 := 27) (tk (n := 14) t82_0 rfl) rfl rfl rfl ?_
  refine s_aload_n (pc1 := 28) (tk (n := 15) t82_0 rfl) rfl rfl rfl ?_
  refine s_putf2 (pc1 := 31) (c := 10) (tk (n := 16) t82_0 rfl) rfl rfl rfl rfl rfl ?_
  exact s_ret (tk (n := 17) t82_0 rfl) rfl rfl rfl
set_option maxRecDepth 100000 in
set_option maxHeartbeats 4000000 in
theorem e_X10_layLevels (x0 : Int) (x1 : Int) (x2 : Int) (h : Hq) : vm 83 [(2, x0), (0, x1), (0, x2)] h = (vm 314 [(0, x2), (0, 5)] h).bind (fun r4 => if (0 < x0 ∧ (kd x0).1 = 10) ∧ True then if 0 < x0 ∧ (kd x0).1 = 10 then if 0 < ((stm r4.2.2 x0 9 (vx r4)) x0 0) ∧ (kd ((stm r4.2.2 x0 9 (vx r4)) x0 0)).1 = 20 ∧ 0 ≤ (0 : Int) ∧ (0 : Int) < (kd ((stm r4.2.2 x0 9 (vx r4)) x0 0)).2 then vp 83 18 [(2, x0), (0, x1), (0, x2), (0, 0)] [] (r4.2.1, stm (stm r4.2.2 x0 9 (vx r4)) ((stm r4.2.2 x0 9 (vx r4)) x0 0) 0 x1) else none else none else none) := by
  show vp 83 0 [(2, x0), (0, x1), (0, x2), (9, 0)] [] h = _
  refine s_aload_n (pc1 := 1) (tk (n := 0) t83_0 rfl) rfl rfl rfl ?_
  refine s_iload_n (pc1 := 2) (tk (n := 1) t83_0 rfl) rfl rfl rfl ?_
  refine s_iconst (pc1 := 3) (tk (n := 2) t83_0 rfl) rfl rfl  ?_
  refine s_callS0 (as := [(0, x2), (0, 5)]) (st1 := [(2, x0)]) (p1 := 6) (M2 := 314) (tk (n := 3) t83_0 rfl) rfl rfl rfl rfl rfl (fun r4 => ?_)
  refine s_putf0 (pc1 := 9) (c := 10) (tk (n := 4) t83_0 rfl) rfl rfl rfl rfl rfl ?_
  refine s_aload_n (pc1 := 10) (tk (n := 5) t83_0 rfl) rfl rfl rfl ?_
  refine s_getf (pc1 := 13) (c := 10) (t1 := 2) (tk (n := 6) t83_0 rfl) rfl rfl (by decide) rfl rfl ?_
  refine s_iconst (pc1 := 14) (tk (n := 7) t83_0 rfl) rfl rfl  ?_
  refine s_iload_n (pc1 := 15) (tk (n := 8) t83_0 rfl) rfl rfl rfl ?_
  refine s_iast (pc1 := 16) (tk (n := 9) t83_0 rfl) rfl rfl  ?_
  refine s_iconst (pc1 := 17) (tk (n := 10) t83_0 rfl) rfl rfl  ?_
  refine s_istore_n (pc1 := 18) (ls1 := [(2, x0), (0, x1), (0, x2), (0, 0)]) (tk (n := 11) t83_0 rfl) rfl rfl rfl rfl ?_
  rfl
set_option maxRecDepth 100000 in
set_option maxHeartbeats 4000000 in
theorem e_X10_layLevels_18 (x0 : Int) (z1 : Vl) (z2 : Vl) (x3 : Int) (h : Hq) : vp 83 18 [(2, x0), z1, z2, (0, x3)] [] h = if 0 < x0 ∧ (kd x0).1 = 10 then if x3 ≥ (h.2 x0 9) then (some (none, h)) else (if 0 < x0 ∧ (kd x0).1 = 10 then if 0 < x0 ∧ (kd x0).1 = 10 then (vm 313 [(0, 1), (0, bshr (h.2 x0 7) x3)] h).bind (fun r13 => if 0 < (h.2 x0 1) ∧ (kd (h.2 x0 1)).1 = 20 ∧ 0 ≤ x3 ∧ x3 < (kd (h.2 x0 1)).2 then if 0 < x0 ∧ (kd x0).1 = 10 then if 0 < x0 ∧ (kd x0).1 = 10 then (vm 313 [(0, 1), (0, bshr ((stm r13.2.2 (h.2 x0 1) x3 (vx r13)) x0 8) x3)] (r13.2.1, stm r13.2.2 (h.2 x0 1) x3 (vx r13))).bind (fun r23 => if 0 < ((stm r13.2.2 (h.2 x0 1) x3 (vx r13)) x0 2) ∧ (kd ((stm r13.2.2 (h.2 x0 1) x3 (vx r13)) x0 2)).1 = 20 ∧ 0 ≤ x3 ∧ x3 < (kd ((stm r13.2.2 (h.2 x0 1) x3 (vx r13)) x0 2)).2 then if 0 < x0 ∧ (kd x0).1 = 10 then if 0 < x0 ∧ (kd x0).1 = 10 then if (kd ((stm r23.2.2 ((stm r13.2.2 (h.2 x0 1) x3 (vx r13)) x0 2) x3 (vx r23)) x0 0)).1 = 20 ∧ 0 ≤ x3 ∧ x3 < (kd ((stm r23.2.2 ((stm r13.2.2 (h.2 x0 1) x3 (vx r13)) x0 2) x3 (vx r23)) x0 0)).2 then if 0 < x0 ∧ (kd x0).1 = 10 then (vm 84 [(2, x0), (0, x3)] (r23.2.1, stm r23.2.2 ((stm r13.2.2 (h.2 x0 1) x3 (vx r13)) x0 2) x3 (vx r23))).bind (fun r36 => if 0 < ((stm r23.2.2 ((stm r13.2.2 (h.2 x0 1) x3 (vx r13)) x0 2) x3 (vx r23)) x0 0) ∧ (kd ((stm r23.2.2 ((stm r13.2.2 (h.2 x0 1) x3 (vx r13)) x0 2) x3 (vx r23)) x0 0)).1 = 20 ∧ 0 ≤ (w32 (x3 + 1)) ∧ (w32 (x3 + 1)) < (kd ((stm r23.2.2 ((stm r13.2.2 (h.2 x0 1) x3 (vx r13)) x0 2) x3 (vx r23)) x0 0)).2 then vp 83 18 [(2, x0), (9, 0), (9, 0), (0, w32 (x3 + 1))] [] (r36.2.1, stm r36.2.2 ((stm r23.2.2 ((stm r13.2.2 (h.2 x0 1) x3 (vx r13)) x0 2) x3 (vx r23)) x0 0) (w32 (x3 + 1)) (w32 (((stm r23.2.2 ((stm r13.2.2 (h.2 x0 1) x3 (vx r13)) x0 2) x3 (vx r23)) ((stm r23.2.2 ((stm r13.2.2 (h.2 x0 1) x3 (vx r13)) x0 2) x3 (vx r23)) x0 0) x3) + (vx r36)))) else none) else none else none else none else none else none) else none else none else none) else none else none) else none := by
  refine s_fg (ls1 := [(2, x0), (9, 0), (9, 0), (0, x3)]) (tk (n := 12) t83_0 rfl) rfl ?_
  refine s_iload_n (pc1 := 19) (tk (n := 12) t83_0 rfl) rfl rfl rfl ?_
  refine s_aload_n (pc1 := 20) (tk (n := 13) t83_0 rfl) rfl rfl rfl ?_
  refine s_getf (pc1 := 23) (c := 10) (t1 := 0) (tk (n := 14) t83_0 rfl) rfl rfl (by decide) rfl rfl ?_
  refine s_ic_ge (pc1 := 26) (pt := 84) (tk (n := 15) t83_0 rfl) rfl rfl rfl ?_ ?_
  · exact s_ret (tk (n := 22) t83_1 rfl) rfl rfl rfl
  · refine s_aload_n (pc1 := 27) (tk (n := 16) t83_0 rfl) rfl rfl rfl ?_
    refine s_getf (pc1 := 30) (c := 10) (t1 := 2) (tk (n := 17) t83_0 rfl) rfl rfl (by decide) rfl rfl ?_
    refine s_iload_n (pc1 := 31) (tk (n := 18) t83_0 rfl) rfl rfl rfl ?_
    refine s_iconst (pc1 := 32) (tk (n := 19) t83_0 rfl) rfl rfl  ?_
    refine s_aload_n (pc1 := 33) (tk (n := 20) t83_0 rfl) rfl rfl rfl ?_
    refine s_getf (pc1 := 36) (c := 10) (t1 := 0) (tk (n := 21) t83_0 rfl) rfl rfl (by decide) rfl rfl ?_
    refine s_iload_n (pc1 := 37) (tk (n := 22) t83_0 rfl) rfl rfl rfl ?_
    refine s_ishr (pc1 := 38) (tk (n := 23) t83_0 rfl) rfl rfl  ?_
    refine s_callS0 (as := [(0, 1), (0, bshr (h.2 x0 7) x3)]) (st1 := [(0, x3), (2, h.2 x0 1)]) (p1 := 41) (M2 := 313) (tk (n := 24) t83_0 rfl) rfl rfl rfl rfl rfl (fun r13 => ?_)
    refine s_iast (pc1 := 42) (tk (n := 25) t83_0 rfl) rfl rfl  ?_
    refine s_aload_n (pc1 := 43) (tk (n := 26) t83_0 rfl) rfl rfl rfl ?_
    refine s_getf (pc1 := 46) (c := 10) (t1 := 2) (tk (n := 27) t83_0 rfl) rfl rfl (by decide) rfl rfl ?_
    refine s_iload_n (pc1 := 47) (tk (n := 28) t83_0 rfl) rfl rfl rfl ?_
    refine s_iconst (pc1 := 48) (tk (n := 29) t83_0 rfl) rfl rfl  ?_
    refine s_aload_n (pc1 := 49) (tk (n := 0) t83_1 rfl) rfl rfl rfl ?_
    refine s_getf (pc1 := 52) (c := 10) (t1 := 0) (tk (n := 1) t83_1 rfl) rfl rfl (by decide) rfl rfl ?_
    refine s_iload_n (pc1 := 53) (tk (n := 2) t83_1 rfl) rfl rfl rfl ?_
    refine s_ishr (pc1 := 54) (tk (n := 3) t83_1 rfl) rfl rfl  ?_
    refine s_callS0 (as := [(0, 1), (0, bshr ((stm r13.2.2 (h.2 x0 1) x3 (vx r13)) x0 8) x3)]) (st1 := [(0, x3), (2, (stm r13.2.2 (h.2 x0 1) x3 (vx r13)) x0 2)]) (p1 := 57) (M2 := 313) (tk (n := 4) t83_1 rfl) rfl rfl rfl rfl rfl (fun r23 => ?_)
    refine s_iast (pc1 := 58) (tk (n := 5) t83_1 rfl) rfl rfl  ?_
    refine s_aload_n (pc1 := 59) (tk (n := 6) t83_1 rfl) rfl rfl rfl ?_
    refine s_getf (pc1 := 62) (c := 10) (t1 := 2) (tk (n := 7) t83_1 rfl) rfl rfl (by decide) rfl rfl ?_
    refine s_iload_n (pc1 := 63) (tk (n := 8) t83_1 rfl) rfl rfl rfl ?_
    refine s_iconst (pc1 := 64) (tk (n := 9) t83_1 rfl) rfl rfl  ?_
    refine s_iadd (pc1 := 65) (tk (n := 10) t83_1 rfl) rfl rfl  ?_
    refine s_aload_n (pc1 := 66) (tk (n := 11) t83_1 rfl) rfl rfl rfl ?_
    refine s_getf (pc1 := 69) (c := 10) (t1 := 2) (tk (n := 12) t83_1 rfl) rfl rfl (by decide) rfl rfl ?_
    refine s_iload_n (pc1 := 70) (tk (n := 13) t83_1 rfl) rfl rfl rfl ?_
    refine s_iald (pc1 := 71) (tk (n := 14) t83_1 rfl) rfl rfl  ?_
    refine s_aload_n (pc1 := 72) (tk (n := 15) t83_1 rfl) rfl rfl rfl ?_
    refine s_iload_n (pc1 := 73) (tk (n := 16) t83_1 rfl) rfl rfl rfl ?_
    refine s_call0 (as := [(2, x0), (0, x3)]) (st1 := [(0, (stm r23.2.2 ((stm r13.2.2 (h.2 x0 1) x3 (vx r13)) x0 2) x3 (vx r23)) ((stm r23.2.2 ((stm r13.2.2 (h.2 x0 1) x3 (vx r13)) x0 2) x3 (vx r23)) x0 0) x3), (0, w32 (x3 + 1)), (2, (stm r23.2.2 ((stm r13.2.2 (h.2 x0 1) x3 (vx r13)) x0 2) x3 (vx r23)) x0 0)]) (p1 := 76) (M2 := 84) (tk (n := 17) t83_1 rfl) rfl rfl rfl rfl rfl (fun r36 => ?_)
    refine s_iadd (pc1 := 77) (tk (n := 18) t83_1 rfl) rfl rfl  ?_
    refine s_iast (pc1 := 78) (tk (n := 19) t83_1 rfl) rfl rfl  ?_
    refine s_iinc (pc1 := 81) (ls1 := [(2, x0), (9, 0), (9, 0), (0, w32 (x3 + 1))]) (tk (n := 20) t83_1 rfl) rfl rfl rfl rfl ?_
    refine s_goto (pc1 := 18) (tk (n := 21) t83_1 rfl) rfl rfl ?_
    rfl
set_option maxRecDepth 100000 in
set_option maxHeartbeats 4000000 in
theorem e_X10_texelCount (x0 : Int) (x1 : Int) (h : Hq) : vm 84 [(2, x0), (0, x1)] h = if 0 < x0 ∧ (kd x0).1 = 10 then if (kd (h.2 x0 1)).1 = 20 ∧ 0 ≤ x1 ∧ x1 < (kd (h.2 x0 1)).2 then if 0 < x0 ∧ (kd x0).1 = 10 then if (kd (h.2 x0 2)).1 = 20 ∧ 0 ≤ x1 ∧ x1 < (kd (h.2 x0 2)).2 then some (some (0, w32 ((h.2 (h.2 x0 1) x1) * (h.2 (h.2 x0 2) x1))), h) else none else none else none else none := by
  show vp 84 0 [(2, x0), (0, x1)] [] h = _
  refine s_aload_n (pc1 := 1) (tk (n := 0) t84_0 rfl) rfl rfl rfl ?_
  refine s_getf (pc1 := 4) (c := 10) (t1 := 2) (tk (n := 1) t84_0 rfl) rfl rfl (by decide) rfl rfl ?_
  refine s_iload_n (pc1 := 5) (tk (n := 2) t84_0 rfl) rfl rfl rfl ?_
  refine s_iald (pc1 := 6) (tk (n := 3) t84_0 rfl) rfl rfl  ?_
  refine s_aload_n (pc1 := 7) (tk (n := 4) t84_0 rfl) rfl rfl rfl ?_
  refine s_getf (pc1 := 10) (c := 10) (t1 := 2) (tk (n := 5) t84_0 rfl) rfl rfl (by decide) rfl rfl ?_
  refine s_iload_n (pc1 := 11) (tk (n := 6) t84_0 rfl) rfl rfl rfl ?_
  refine s_iald (pc1 := 12) (tk (n := 7) t84_0 rfl) rfl rfl  ?_
  refine s_imul (pc1 := 13) (tk (n := 8) t84_0 rfl) rfl rfl  ?_
  exact s_ret (tk (n := 9) t84_0 rfl) rfl rfl rfl
set_option maxRecDepth 100000 in
set_option maxHeartbeats 4000000 in
theorem e_X10_placeCount (x0 : Int) (h : Hq) : vm 85 [(2, x0)] h = if 0 < x0 ∧ (kd x0).1 = 10 then if 0 < x0 ∧ (kd x0).1 = 10 then if (kd (h.2 x0 0)).1 = 20 ∧ 0 ≤ (h.2 x0 9) ∧ (h.2 x0 9) < (kd (h.2 x0 0)).2 then if 0 < x0 ∧ (kd x0).1 = 10 then if (kd (h.2 x0 0)).1 = 20 ∧ 0 ≤ (0 : Int) ∧ (0 : Int) < (kd (h.2 x0 0)).2 then some (some (0, w32 ((h.2 (h.2 x0 0) (h.2 x0 9)) - (h.2 (h.2 x0 0) 0))), h) else none else none else none else none else none := by
  show vp 85 0 [(2, x0)] [] h = _
  refine s_aload_n (pc1 := 1) (tk (n := 0) t85_0 rfl) rfl rfl rfl ?_
  refine s_getf (pc1 := 4) (c := 10) (t1 := 2) (tk (n := 1) t85_0 rfl) rfl rfl (by decide) rfl rfl ?_
  refine s_aload_n (pc1 := 5) (tk (n := 2) t85_0 rfl) rfl rfl rfl ?_
  refine s_getf (pc1 := 8) (c := 10) (t1 := 0) (tk (n := 3) t85_0 rfl) rfl rfl (by decide) rfl rfl ?_
  refine s_iald (pc1 := 9) (tk (n := 4) t85_0 rfl) rfl rfl  ?_
  refine s_aload_n (pc1 := 10) (tk (n := 5) t85_0 rfl) rfl rfl rfl ?_
  refine s_getf (pc1 := 13) (c := 10) (t1 := 2) (tk (n := 6) t85_0 rfl) rfl rfl (by decide) rfl rfl ?_
  refine s_iconst (pc1 := 14) (tk (n := 7) t85_0 rfl) rfl rfl  ?_
  refine s_iald (pc1 := 15) (tk (n := 8) t85_0 rfl) rfl rfl  ?_
  refine s_isub (pc1 := 16) (tk (n := 9) t85_0 rfl) rfl rfl  ?_
  exact s_ret (tk (n := 10) t85_0 rfl) rfl rfl rfl
set_option maxRecDepth 100000 in
set_option maxHeartbeats 4000000 in
theorem e_X10_hasLevel (x0 : Int) (x1 : Int) (h : Hq) : vm 86 [(2, x0), (0, x1)] h = if x1 < 0 then (some (some (0, 0), h)) else (if 0 < x0 ∧ (kd x0).1 = 10 then if x1 ≥ (h.2 x0 9) then (some (some (0, 0), h)) else (some (some (0, 1), h)) else none) := by
  show vp 86 0 [(2, x0), (0, x1)] [] h = _
  refine s_iload_n (pc1 := 1) (tk (n := 0) t86_0 rfl) rfl rfl rfl ?_
  refine s_if_lt (pc1 := 4) (pt := 16) (tk (n := 1) t86_0 rfl) rfl rfl rfl ?_ ?_
  · refine s_iconst (pc1 := 17) (tk (n := 8) t86_0 rfl) rfl rfl  ?_
    exact s_retY (tk (n := 9) t86_0 rfl) rfl rfl rfl (by decide)
  · refine s_iload_n (pc1 := 5) (tk (n := 2) t86_0 rfl) rfl rfl rfl ?_
    refine s_aload_n (pc1 := 6) (tk (n := 3) t86_0 rfl) rfl rfl rfl ?_
    refine s_getf (pc1 := 9) (c := 10) (t1 := 0) (tk (n := 4) t86_0 rfl) rfl rfl (by decide) rfl rfl ?_
    refine s_ic_ge (pc1 := 12) (pt := 16) (tk (n := 5) t86_0 rfl) rfl rfl rfl ?_ ?_
    · refine s_iconst (pc1 := 17) (tk (n := 8) t86_0 rfl) rfl rfl  ?_
      exact s_retY (tk (n := 9) t86_0 rfl) rfl rfl rfl (by decide)
    · refine s_iconst (pc1 := 13) (tk (n := 6) t86_0 rfl) rfl rfl  ?_
      refine s_goto (pc1 := 17) (tk (n := 7) t86_0 rfl) rfl rfl ?_
      exact s_retY (tk (n := 9) t86_0 rfl) rfl rfl rfl (by decide)
set_option maxRecDepth 100000 in
set_option maxHeartbeats 4000000 in
theorem e_X10_hasTexel (x0 : Int) (x1 : Int) (x2 : Int) (x3 : Int) (h : Hq) : vm 87 [(2, x0), (0, x1), (0, x2), (0, x3)] h = if x2 < 0 then (some (some (0, 0), h)) else (if 0 < x0 ∧ (kd x0).1 = 10 then if (kd (h.2 x0 1)).1 = 20 ∧ 0 ≤ x1 ∧ x1 < (kd (h.2 x0 1)).2 then if x2 ≥ (h.2 (h.2 x0 1) x1) then (some (some (0, 0), h)) else (if x3 < 0 then (some (some (0, 0), h)) else (if 0 < x0 ∧ (kd x0).1 = 10 then if (kd (h.2 x0 2)).1 = 20 ∧ 0 ≤ x1 ∧ x1 < (kd (h.2 x0 2)).2 then if x3 ≥ (h.2 (h.2 x0 2) x1) then (some (some (0, 0), h)) else (some (some (0, 1), h)) else none else none)) else none else none) := by
  show vp 87 0 [(2, x0), (0, x1), (0, x2), (0, x3)] [] h = _
  refine s_iload_n (pc1 := 1) (tk (n := 0) t87_0 rfl) rfl rfl rfl ?_
  refine s_if_lt (pc1 := 4) (pt := 32) (tk (n := 1) t87_0 rfl) rfl rfl rfl ?_ ?_
  · refine s_iconst (pc1 := 33) (tk (n := 18) t87_0 rfl) rfl rfl  ?_
    exact s_retY (tk (n := 19) t87_0 rfl) rfl rfl rfl (by decide)
  · refine s_iload_n (pc1 := 5) (tk (n := 2) t87_0 rfl) rfl rfl rfl ?_
    refine s_aload_n (pc1 := 6) (tk (n := 3) t87_0 rfl) rfl rfl rfl ?_
    refine s_getf (pc1 := 9) (c := 10) (t1 := 2) (tk (n := 4) t87_0 rfl) rfl rfl (by decide) rfl rfl ?_
    refine s_iload_n (pc1 := 10) (tk (n := 5) t87_0 rfl) rfl rfl rfl ?_
    refine s_iald (pc1 := 11) (tk (n := 6) t87_0 rfl) rfl rfl  ?_
    refine s_ic_ge (pc1 := 14) (pt := 32) (tk (n := 7) t87_0 rfl) rfl rfl rfl ?_ ?_
    · refine s_iconst (pc1 := 33) (tk (n := 18) t87_0 rfl) rfl rfl  ?_
      exact s_retY (tk (n := 19) t87_0 rfl) rfl rfl rfl (by decide)
    · refine s_iload_n (pc1 := 15) (tk (n := 8) t87_0 rfl) rfl rfl rfl ?_
      refine s_if_lt (pc1 := 18) (pt := 32) (tk (n := 9) t87_0 rfl) rfl rfl rfl ?_ ?_
      · refine s_iconst (pc1 := 33) (tk (n := 18) t87_0 rfl) rfl rfl  ?_
        exact s_retY (tk (n := 19) t87_0 rfl) rfl rfl rfl (by decide)
      · refine s_iload_n (pc1 := 19) (tk (n := 10) t87_0 rfl) rfl rfl rfl ?_
        refine s_aload_n (pc1 := 20) (tk (n := 11) t87_0 rfl) rfl rfl rfl ?_
        refine s_getf (pc1 := 23) (c := 10) (t1 := 2) (tk (n := 12) t87_0 rfl) rfl rfl (by decide) rfl rfl ?_
        refine s_iload_n (pc1 := 24) (tk (n := 13) t87_0 rfl) rfl rfl rfl ?_
        refine s_iald (pc1 := 25) (tk (n := 14) t87_0 rfl) rfl rfl  ?_
        refine s_ic_ge (pc1 := 28) (pt := 32) (tk (n := 15) t87_0 rfl) rfl rfl rfl ?_ ?_
        · refine s_iconst (pc1 := 33) (tk (n := 18) t87_0 rfl) rfl rfl  ?_
          exact s_retY (tk (n := 19) t87_0 rfl) rfl rfl rfl (by decide)
        · refine s_iconst (pc1 := 29) (tk (n := 16) t87_0 rfl) rfl rfl  ?_
          refine s_goto (pc1 := 33) (tk (n := 17) t87_0 rfl) rfl rfl ?_
          exact s_retY (tk (n := 19) t87_0 rfl) rfl rfl rfl (by decide)
set_option maxRecDepth 100000 in
set_option maxHeartbeats 4000000 in
theorem e_X10_hasBehind (x0 : Int) (x1 : Int) (x2 : Int) (h : Hq) : vm 88 [(2, x0), (0, x1), (0, x2)] h = if x2 < 0 then (some (some (0, 0), h)) else (if 0 < x0 ∧ (kd x0).1 = 10 then (vm 84 [(2, x0), (0, x1)] h).bind (fun r6 => if x2 ≥ (vx r6) then (some (some (0, 0), r6.2)) else (some (some (0, 1), r6.2))) else none) := by
  show vp 88 0 [(2, x0), (0, x1), (0, x2)] [] h = _
  refine s_iload_n (pc1 := 1) (tk (n := 0) t88_0 rfl) rfl rfl rfl ?_
  refine s_if_lt (pc1 := 4) (pt := 17) (tk (n := 1) t88_0 rfl) rfl rfl rfl ?_ ?_
  · refine s_iconst (pc1 := 18) (tk (n := 9) t88_0 rfl) rfl rfl  ?_
    exact s_retY (tk (n := 10) t88_0 rfl) rfl rfl rfl (by decide)
  · refine s_iload_n (pc1 := 5) (tk (n := 2) t88_0 rfl) rfl rfl rfl ?_
    refine s_aload_n (pc1 := 6) (tk (n := 3) t88_0 rfl) rfl rfl rfl ?_
    refine s_iload_n (pc1 := 7) (tk (n := 4) t88_0 rfl) rfl rfl rfl ?_
    refine s_call0 (as := [(2, x0), (0, x1)]) (st1 := [(0, x2)]) (p1 := 10) (M2 := 84) (tk (n := 5) t88_0 rfl) rfl rfl rfl rfl rfl (fun r6 => ?_)
    refine s_ic_ge (pc1 := 13) (pt := 17) (tk (n := 6) t88_0 rfl) rfl rfl rfl ?_ ?_
    · refine s_iconst (pc1 := 18) (tk (n := 9) t88_0 rfl) rfl rfl  ?_
      exact s_retY (tk (n := 10) t88_0 rfl) rfl rfl rfl (by decide)
    · refine s_iconst (pc1 := 14) (tk (n := 7) t88_0 rfl) rfl rfl  ?_
      refine s_goto (pc1 := 18) (tk (n := 8) t88_0 rfl) rfl rfl ?_
      exact s_retY (tk (n := 10) t88_0 rfl) rfl rfl rfl (by decide)
set_option maxRecDepth 100000 in
set_option maxHeartbeats 4000000 in
theorem e_X10_behind (x0 : Int) (x1 : Int) (x2 : Int) (x3 : Int) (x4 : Int) (h : Hq) : vm 89 [(2, x0), (0, x1), (0, x2), (0, x3), (0, x4)] h = if 0 < x0 ∧ (kd x0).1 = 10 then if (kd (h.2 x0 1)).1 = 20 ∧ 0 ≤ x1 ∧ x1 < (kd (h.2 x0 1)).2 then if x4 ≠ 1 then (if x4 ≠ 2 then (some (some (0, w32 ((w32 (x3 * (h.2 (h.2 x0 1) x1))) + x2)), h)) else (if 0 < x0 ∧ (kd x0).1 = 10 then if (kd (h.2 x0 2)).1 = 20 ∧ 0 ≤ x1 ∧ x1 < (kd (h.2 x0 2)).2 then (vm 90 [(0, x2), (0, x3), (0, h.2 (h.2 x0 1) x1), (0, h.2 (h.2 x0 2) x1)] h).bind (fun r19 => some (some (0, vx r19), r19.2)) else none else none)) else (if (h.2 (h.2 x0 1) x1) < 4 then (if x4 ≠ 2 then (some (some (0, w32 ((w32 (x3 * (h.2 (h.2 x0 1) x1))) + x2)), h)) else (if 0 < x0 ∧ (kd x0).1 = 10 then if (kd (h.2 x0 2)).1 = 20 ∧ 0 ≤ x1 ∧ x1 < (kd (h.2 x0 2)).2 then (vm 90 [(0, x2), (0, x3), (0, h.2 (h.2 x0 1) x1), (0, h.2 (h.2 x0 2) x1)] h).bind (fun r22 => some (some (0, vx r22), r22.2)) else none else none)) else (if 0 < x0 ∧ (kd x0).1 = 10 then if (kd (h.2 x0 2)).1 = 20 ∧ 0 ≤ x1 ∧ x1 < (kd (h.2 x0 2)).2 then if (h.2 (h.2 x0 2) x1) < 4 then (if x4 ≠ 2 then (some (some (0, w32 ((w32 (x3 * (h.2 (h.2 x0 1) x1))) + x2)), h)) else (if 0 < x0 ∧ (kd x0).1 = 10 then if (kd (h.2 x0 2)).1 = 20 ∧ 0 ≤ x1 ∧ x1 < (kd (h.2 x0 2)).2 then (vm 90 [(0, x2), (0, x3), (0, h.2 (h.2 x0 1) x1), (0, h.2 (h.2 x0 2) x1)] h).bind (fun r28 => some (some (0, vx r28), r28.2)) else none else none)) else (some (some (0, w32 ((w32 ((w32 ((w32 ((w32 ((w32 (x3.tdiv 4)) * (w32 ((h.2 (h.2 x0 1) x1).tdiv 4)))) + (w32 (x2.tdiv 4)))) * 16)) + (w32 ((x3.tmod 4) * 4)))) + (x2.tmod 4))), h)) else none else none)) else none else none := by
  show vp 89 0 [(2, x0), (0, x1), (0, x2), (0, x3), (0, x4), (9, 0), (9, 0)] [] h = _
  refine s_aload_n (pc1 := 1) (tk (n := 0) t89_0 rfl) rfl rfl rfl ?_
  refine s_getf (pc1 := 4) (c := 10) (t1 := 2) (tk (n := 1) t89_0 rfl) rfl rfl (by decide) rfl rfl ?_
  refine s_iload_n (pc1 := 5) (tk (n := 2) t89_0 rfl) rfl rfl rfl ?_
  refine s_iald (pc1 := 6) (tk (n := 3) t89_0 rfl) rfl rfl  ?_
  refine s_istore (pc1 := 8) (ls1 := [(2, x0), (0, x1), (0, x2), (0, x3), (0, x4), (0, h.2 (h.2 x0 1) x1), (9, 0)]) (tk (n := 4) t89_0 rfl) rfl rfl rfl rfl ?_
  refine s_iload (pc1 := 10) (tk (n := 5) t89_0 rfl) rfl rfl rfl ?_
  refine s_iconst (pc1 := 11) (tk (n := 6) t89_0 rfl) rfl rfl  ?_
  refine s_ic_ne (pc1 := 14) (pt := 60) (tk (n := 7) t89_0 rfl) rfl rfl rfl ?_ ?_
  · refine s_iload (pc1 := 62) (tk (n := 13) t89_1 rfl) rfl rfl rfl ?_
    refine s_iconst (pc1 := 63) (tk (n := 14) t89_1 rfl) rfl rfl  ?_
    refine s_ic_ne (pc1 := 66) (pt := 82) (tk (n := 15) t89_1 rfl) rfl rfl rfl ?_ ?_
    · refine s_iload_n (pc1 := 83) (tk (n := 25) t89_1 rfl) rfl rfl rfl ?_
      refine s_iload (pc1 := 85) (tk (n := 26) t89_1 rfl) rfl rfl rfl ?_
      refine s_imul (pc1 := 86) (tk (n := 27) t89_1 rfl) rfl rfl  ?_
      refine s_iload_n (pc1 := 87) (tk (n := 28) t89_1 rfl) rfl rfl rfl ?_
      refine s_iadd (pc1 := 88) (tk (n := 29) t89_1 rfl) rfl rfl  ?_
      exact s_ret (tk (n := 0) t89_2 rfl) rfl rfl rfl
    · refine s_iload_n (pc1 := 67) (tk (n := 16) t89_1 rfl) rfl rfl rfl ?_
      refine s_iload_n (pc1 := 68) (tk (n := 17) t89_1 rfl) rfl rfl rfl ?_
      refine s_iload (pc1 := 70) (tk (n := 18) t89_1 rfl) rfl rfl rfl ?_
      refine s_aload_n (pc1 := 71) (tk (n := 19) t89_1 rfl) rfl rfl rfl ?_
      refine s_getf (pc1 := 74) (c := 10) (t1 := 2) (tk (n := 20) t89_1 rfl) rfl rfl (by decide) rfl rfl ?_
      refine s_iload_n (pc1 := 75) (tk (n := 21) t89_1 rfl) rfl rfl rfl ?_
      refine s_iald (pc1 := 76) (tk (n := 22) t89_1 rfl) rfl rfl  ?_
      refine s_callS0 (as := [(0, x2), (0, x3), (0, h.2 (h.2 x0 1) x1), (0, h.2 (h.2 x0 2) x1)]) (st1 := []) (p1 := 79) (M2 := 90) (tk (n := 23) t89_1 rfl) rfl rfl rfl rfl rfl (fun r19 => ?_)
      refine s_goto (pc1 := 88) (tk (n := 24) t89_1 rfl) rfl rfl ?_
      exact s_ret (tk (n := 0) t89_2 rfl) rfl rfl rfl
  · refine s_iload (pc1 := 16) (tk (n := 8) t89_0 rfl) rfl rfl rfl ?_
    refine s_iconst (pc1 := 17) (tk (n := 9) t89_0 rfl) rfl rfl  ?_
    refine s_ic_lt (pc1 := 20) (pt := 60) (tk (n := 10) t89_0 rfl) rfl rfl rfl ?_ ?_
    · refine s_iload (pc1 := 62) (tk (n := 13) t89_1 rfl) rfl rfl rfl ?_
      refine s_iconst (pc1 := 63) (tk (n := 14) t89_1 rfl) rfl rfl  ?_
      refine s_ic_ne (pc1 := 66) (pt := 82) (tk (n := 15) t89_1 rfl) rfl rfl rfl ?_ ?_
      · refine s_iload_n (pc1 := 83) (tk (n := 25) t89_1 rfl) rfl rfl rfl ?_
        refine s_iload (pc1 := 85) (tk (n := 26) t89_1 rfl) rfl rfl rfl ?_
        refine s_imul (pc1 := 86) (tk (n := 27) t89_1 rfl) rfl rfl  ?_
        refine s_iload_n (pc1 := 87) (tk (n := 28) t89_1 rfl) rfl rfl rfl ?_
        refine s_iadd (pc1 := 88) (tk (n := 29) t89_1 rfl) rfl rfl  ?_
        exact s_ret (tk (n := 0) t89_2 rfl) rfl rfl rfl
      · refine s_iload_n (pc1 := 67) (tk (n := 16) t89_1 rfl) rfl rfl rfl ?_
        refine s_iload_n (pc1 := 68) (tk (n := 17) t89_1 rfl) rfl rfl rfl ?_
        refine s_iload (pc1 := 70) (tk (n := 18) t89_1 rfl) rfl rfl rfl ?_
        refine s_aload_n (pc1 := 71) (tk (n := 19) t89_1 rfl) rfl rfl rfl ?_
        refine s_getf (pc1 := 74) (c := 10) (t1 := 2) (tk (n := 20) t89_1 rfl) rfl rfl (by decide) rfl rfl ?_
        refine s_iload_n (pc1 := 75) (tk (n := 21) t89_1 rfl) rfl rfl rfl ?_
        refine s_iald (pc1 := 76) (tk (n := 22) t89_1 rfl) rfl rfl  ?_
        refine s_callS0 (as := [(0, x2), (0, x3), (0, h.2 (h.2 x0 1) x1), (0, h.2 (h.2 x0 2) x1)]) (st1 := []) (p1 := 79) (M2 := 90) (tk (n := 23) t89_1 rfl) rfl rfl rfl rfl rfl (fun r22 => ?_)
        refine s_goto (pc1 := 88) (tk (n := 24) t89_1 rfl) rfl rfl ?_
        exact s_ret (tk (n := 0) t89_2 rfl) rfl rfl rfl
    · refine s_aload_n (pc1 := 21) (tk (n := 11) t89_0 rfl) rfl rfl rfl ?_
      refine s_getf (pc1 := 24) (c := 10) (t1 := 2) (tk (n := 12) t89_0 rfl) rfl rfl (by decide) rfl rfl ?_
      refine s_iload_n (pc1 := 25) (tk (n := 13) t89_0 rfl) rfl rfl rfl ?_
      refine s_iald (pc1 := 26) (tk (n := 14) t89_0 rfl) rfl rfl  ?_
      refine s_iconst (pc1 := 27) (tk (n := 15) t89_0 rfl) rfl rfl  ?_
      refine s_ic_lt (pc1 := 30) (pt := 60) (tk (n := 16) t89_0 rfl) rfl rfl rfl ?_ ?_
      · refine s_iload (pc1 := 62) (tk (n := 13) t89_1 rfl) rfl rfl rfl ?_
        refine s_iconst (pc1 := 63) (tk (n := 14) t89_1 rfl) rfl rfl  ?_
        refine s_ic_ne (pc1 := 66) (pt := 82) (tk (n := 15) t89_1 rfl) rfl rfl rfl ?_ ?_
        · refine s_iload_n (pc1 := 83) (tk (n := 25) t89_1 rfl) rfl rfl rfl ?_
          refine s_iload (pc1 := 85) (tk (n := 26) t89_1 rfl) rfl rfl rfl ?_
          refine s_imul (pc1 := 86) (tk (n := 27) t89_1 rfl) rfl rfl  ?_
          refine s_iload_n (pc1 := 87) (tk (n := 28) t89_1 rfl) rfl rfl rfl ?_
          refine s_iadd (pc1 := 88) (tk (n := 29) t89_1 rfl) rfl rfl  ?_
          exact s_ret (tk (n := 0) t89_2 rfl) rfl rfl rfl
        · refine s_iload_n (pc1 := 67) (tk (n := 16) t89_1 rfl) rfl rfl rfl ?_
          refine s_iload_n (pc1 := 68) (tk (n := 17) t89_1 rfl) rfl rfl rfl ?_
          refine s_iload (pc1 := 70) (tk (n := 18) t89_1 rfl) rfl rfl rfl ?_
          refine s_aload_n (pc1 := 71) (tk (n := 19) t89_1 rfl) rfl rfl rfl ?_
          refine s_getf (pc1 := 74) (c := 10) (t1 := 2) (tk (n := 20) t89_1 rfl) rfl rfl (by decide) rfl rfl ?_
          refine s_iload_n (pc1 := 75) (tk (n := 21) t89_1 rfl) rfl rfl rfl ?_
          refine s_iald (pc1 := 76) (tk (n := 22) t89_1 rfl) rfl rfl  ?_
          refine s_callS0 (as := [(0, x2), (0, x3), (0, h.2 (h.2 x0 1) x1), (0, h.2 (h.2 x0 2) x1)]) (st1 := []) (p1 := 79) (M2 := 90) (tk (n := 23) t89_1 rfl) rfl rfl rfl rfl rfl (fun r28 => ?_)
          refine s_goto (pc1 := 88) (tk (n := 24) t89_1 rfl) rfl rfl ?_
          exact s_ret (tk (n := 0) t89_2 rfl) rfl rfl rfl
      · refine s_iload_n (pc1 := 31) (tk (n := 17) t89_0 rfl) rfl rfl rfl ?_
        refine s_iconst (pc1 := 32) (tk (n := 18) t89_0 rfl) rfl rfl  ?_
        refine s_idivc (pc1 := 33) (tk (n := 19) t89_0 rfl) rfl rfl (by decide) ?_
        refine s_iload (pc1 := 35) (tk (n := 20) t89_0 rfl) rfl rfl rfl ?_
        refine s_iconst (pc1 := 36) (tk (n := 21) t89_0 rfl) rfl rfl  ?_
        refine s_idivc (pc1 := 37) (tk (n := 22) t89_0 rfl) rfl rfl (by decide) ?_
        refine s_imul (pc1 := 38) (tk (n := 23) t89_0 rfl) rfl rfl  ?_
        refine s_iload_n (pc1 := 39) (tk (n := 24) t89_0 rfl) rfl rfl rfl ?_
        refine s_iconst (pc1 := 40) (tk (n := 25) t89_0 rfl) rfl rfl  ?_
        refine s_idivc (pc1 := 41) (tk (n := 26) t89_0 rfl) rfl rfl (by decide) ?_
        refine s_iadd (pc1 := 42) (tk (n := 27) t89_0 rfl) rfl rfl  ?_
        refine s_istore (pc1 := 44) (ls1 := [(2, x0), (0, x1), (0, x2), (0, x3), (0, x4), (0, h.2 (h.2 x0 1) x1), (0, w32 ((w32 ((w32 (x3.tdiv 4)) * (w32 ((h.2 (h.2 x0 1) x1).tdiv 4)))) + (w32 (x2.tdiv 4))))]) (tk (n := 28) t89_0 rfl) rfl rfl rfl rfl ?_
        refine s_iload (pc1 := 46) (tk (n := 29) t89_0 rfl) rfl rfl rfl ?_
        refine s_bipush (pc1 := 48) (tk (n := 0) t89_1 rfl) rfl rfl  ?_
        refine s_imul (pc1 := 49) (tk (n := 1) t89_1 rfl) rfl rfl  ?_
        refine s_iload_n (pc1 := 50) (tk (n := 2) t89_1 rfl) rfl rfl rfl ?_
        refine s_iconst (pc1 := 51) (tk (n := 3) t89_1 rfl) rfl rfl  ?_
        refine s_iremc (pc1 := 52) (tk (n := 4) t89_1 rfl) rfl rfl (by decide) ?_
        refine s_iconst (pc1 := 53) (tk (n := 5) t89_1 rfl) rfl rfl  ?_
        refine s_imul (pc1 := 54) (tk (n := 6) t89_1 rfl) rfl rfl  ?_
        refine s_iadd (pc1 := 55) (tk (n := 7) t89_1 rfl) rfl rfl  ?_
        refine s_iload_n (pc1 := 56) (tk (n := 8) t89_1 rfl) rfl rfl rfl ?_
        refine s_iconst (pc1 := 57) (tk (n := 9) t89_1 rfl) rfl rfl  ?_
        refine s_iremc (pc1 := 58) (tk (n := 10) t89_1 rfl) rfl rfl (by decide) ?_
        refine s_iadd (pc1 := 59) (tk (n := 11) t89_1 rfl) rfl rfl  ?_
        exact s_ret (tk (n := 12) t89_1 rfl) rfl rfl rfl
set_option maxRecDepth 100000 in
set_option maxHeartbeats 4000000 in
theorem e_X10_alongCurve (x0 : Int) (x1 : Int) (x2 : Int) (x3 : Int) (h : Hq) : vm 90 [(0, x0), (0, x1), (0, x2), (0, x3)] h = vp 90 9 [(0, x0), (0, x1), (0, x2), (0, x3), (0, 0), (0, 1), (0, 1)] [] h := by
  show vp 90 0 [(0, x0), (0, x1), (0, x2), (0, x3), (9, 0), (9, 0), (9, 0)] [] h = _
  refine s_iconst (pc1 := 1) (tk (n := 0) t90_0 rfl) rfl rfl  ?_
  refine s_istore (pc1 := 3) (ls1 := [(0, x0), (0, x1), (0, x2), (0, x3), (0, 0), (9, 0), (9, 0)]) (tk (n := 1) t90_0 rfl) rfl rfl rfl rfl ?_
  refine s_iconst (pc1 := 4) (tk (n := 2) t90_0 rfl) rfl rfl  ?_
  refine s_istore (pc1 := 6) (ls1 := [(0, x0), (0, x1), (0, x2), (0, x3), (0, 0), (0, 1), (9, 0)]) (tk (n := 3) t90_0 rfl) rfl rfl rfl rfl ?_
  refine s_iconst (pc1 := 7) (tk (n := 4) t90_0 rfl) rfl rfl  ?_
  refine s_istore (pc1 := 9) (ls1 := [(0, x0), (0, x1), (0, x2), (0, x3), (0, 0), (0, 1), (0, 1)]) (tk (n := 5) t90_0 rfl) rfl rfl rfl rfl ?_
  rfl
set_option maxRecDepth 100000 in
set_option maxHeartbeats 4000000 in
theorem e_X10_alongCurve_9 (x0 : Int) (x1 : Int) (x2 : Int) (x3 : Int) (x4 : Int) (x5 : Int) (x6 : Int) (h : Hq) : vp 90 9 [(0, x0), (0, x1), (0, x2), (0, x3), (0, x4), (0, x5), (0, x6)] [] h = if x6 ≥ 16 then (some (some (0, x4), h)) else (if x6 ≥ x2 then (vp 90 46 [(0, x0), (0, x1), (0, x2), (0, x3), (0, x4), (0, x5), (0, x6)] [] h) else (if (band x0 x6) = 0 then (vp 90 46 [(0, x0), (0, x1), (0, x2), (0, x3), (0, w32 (x4 + 0)), (0, w32 (x5 * 2)), (0, x6)] [] h) else (vp 90 46 [(0, x0), (0, x1), (0, x2), (0, x3), (0, w32 (x4 + x5)), (0, w32 (x5 * 2)), (0, x6)] [] h))) := by
  refine s_iload (pc1 := 11) (tk (n := 6) t90_0 rfl) rfl rfl rfl ?_
  refine s_bipush (pc1 := 13) (tk (n := 7) t90_0 rfl) rfl rfl  ?_
  refine s_ic_ge (pc1 := 16) (pt := 85) (tk (n := 8) t90_0 rfl) rfl rfl rfl ?_ ?_
  · refine s_iload (pc1 := 87) (tk (n := 18) t90_1 rfl) rfl rfl rfl ?_
    exact s_ret (tk (n := 19) t90_1 rfl) rfl rfl rfl
  · refine s_iload (pc1 := 18) (tk (n := 9) t90_0 rfl) rfl rfl rfl ?_
    refine s_iload_n (pc1 := 19) (tk (n := 10) t90_0 rfl) rfl rfl rfl ?_
    refine s_ic_ge (pc1 := 22) (pt := 46) (tk (n := 11) t90_0 rfl) rfl rfl rfl ?_ ?_
    · rfl
    · refine s_iload (pc1 := 24) (tk (n := 12) t90_0 rfl) rfl rfl rfl ?_
      refine s_iload_n (pc1 := 25) (tk (n := 13) t90_0 rfl) rfl rfl rfl ?_
      refine s_iload (pc1 := 27) (tk (n := 14) t90_0 rfl) rfl rfl rfl ?_
      refine s_iand (pc1 := 28) (tk (n := 15) t90_0 rfl) rfl rfl  ?_
      refine s_if_eq (pc1 := 31) (pt := 36) (tk (n := 16) t90_0 rfl) rfl rfl rfl ?_ ?_
      · refine s_iconst (pc1 := 37) (tk (n := 19) t90_0 rfl) rfl rfl  ?_
        refine s_iadd (pc1 := 38) (tk (n := 20) t90_0 rfl) rfl rfl  ?_
        refine s_istore (pc1 := 40) (ls1 := [(0, x0), (0, x1), (0, x2), (0, x3), (0, w32 (x4 + 0)), (0, x5), (0, x6)]) (tk (n := 21) t90_0 rfl) rfl rfl rfl rfl ?_
        refine s_iload (pc1 := 42) (tk (n := 22) t90_0 rfl) rfl rfl rfl ?_
        refine s_iconst (pc1 := 43) (tk (n := 23) t90_0 rfl) rfl rfl  ?_
        refine s_imul (pc1 := 44) (tk (n := 24) t90_0 rfl) rfl rfl  ?_
        refine s_istore (pc1 := 46) (ls1 := [(0, x0), (0, x1), (0, x2), (0, x3), (0, w32 (x4 + 0)), (0, w32 (x5 * 2)), (0, x6)]) (tk (n := 25) t90_0 rfl) rfl rfl rfl rfl ?_
        rfl
      · refine s_iload (pc1 := 33) (tk (n := 17) t90_0 rfl) rfl rfl rfl ?_
        refine s_goto (pc1 := 37) (tk (n := 18) t90_0 rfl) rfl rfl ?_
        refine s_iadd (pc1 := 38) (tk (n := 20) t90_0 rfl) rfl rfl  ?_
        refine s_istore (pc1 := 40) (ls1 := [(0, x0), (0, x1), (0, x2), (0, x3), (0, w32 (x4 + x5)), (0, x5), (0, x6)]) (tk (n := 21) t90_0 rfl) rfl rfl rfl rfl ?_
        refine s_iload (pc1 := 42) (tk (n := 22) t90_0 rfl) rfl rfl rfl ?_
        refine s_iconst (pc1 := 43) (tk (n := 23) t90_0 rfl) rfl rfl  ?_
        refine s_imul (pc1 := 44) (tk (n := 24) t90_0 rfl) rfl rfl  ?_
        refine s_istore (pc1 := 46) (ls1 := [(0, x0), (0, x1), (0, x2), (0, x3), (0, w32 (x4 + x5)), (0, w32 (x5 * 2)), (0, x6)]) (tk (n := 25) t90_0 rfl) rfl rfl rfl rfl ?_
        rfl
set_option maxRecDepth 100000 in
set_option maxHeartbeats 4000000 in
theorem e_X10_alongCurve_46 (x0 : Int) (x1 : Int) (x2 : Int) (x3 : Int) (x4 : Int) (x5 : Int) (x6 : Int) (h : Hq) : vp 90 46 [(0, x0), (0, x1), (0, x2), (0, x3), (0, x4), (0, x5), (0, x6)] [] h = if x6 ≥ x3 then (vp 90 9 [(0, x0), (0, x1), (0, x2), (0, x3), (0, x4), (0, x5), (0, w32 (x6 * 2))] [] h) else (if (band x1 x6) = 0 then (vp 90 9 [(0, x0), (0, x1), (0, x2), (0, x3), (0, w32 (x4 + 0)), (0, w32 (x5 * 2)), (0, w32 (x6 * 2))] [] h) else (vp 90 9 [(0, x0), (0, x1), (0, x2), (0, x3), (0, w32 (x4 + x5)), (0, w32 (x5 * 2)), (0, w32 (x6 * 2))] [] h)) := by
  refine s_iload (pc1 := 48) (tk (n := 26) t90_0 rfl) rfl rfl rfl ?_
  refine s_iload_n (pc1 := 49) (tk (n := 27) t90_0 rfl) rfl rfl rfl ?_
  refine s_ic_ge (pc1 := 52) (pt := 76) (tk (n := 28) t90_0 rfl) rfl rfl rfl ?_ ?_
  · refine s_iload (pc1 := 78) (tk (n := 13) t90_1 rfl) rfl rfl rfl ?_
    refine s_iconst (pc1 := 79) (tk (n := 14) t90_1 rfl) rfl rfl  ?_
    refine s_imul (pc1 := 80) (tk (n := 15) t90_1 rfl) rfl rfl  ?_
    refine s_istore (pc1 := 82) (ls1 := [(0, x0), (0, x1), (0, x2), (0, x3), (0, x4), (0, x5), (0, w32 (x6 * 2))]) (tk (n := 16) t90_1 rfl) rfl rfl rfl rfl ?_
    refine s_goto (pc1 := 9) (tk (n := 17) t90_1 rfl) rfl rfl ?_
    rfl
  · refine s_iload (pc1 := 54) (tk (n := 29) t90_0 rfl) rfl rfl rfl ?_
    refine s_iload_n (pc1 := 55) (tk (n := 0) t90_1 rfl) rfl rfl rfl ?_
    refine s_iload (pc1 := 57) (tk (n := 1) t90_1 rfl) rfl rfl rfl ?_
    refine s_iand (pc1 := 58) (tk (n := 2) t90_1 rfl) rfl rfl  ?_
    refine s_if_eq (pc1 := 61) (pt := 66) (tk (n := 3) t90_1 rfl) rfl rfl rfl ?_ ?_
    · refine s_iconst (pc1 := 67) (tk (n := 6) t90_1 rfl) rfl rfl  ?_
      refine s_iadd (pc1 := 68) (tk (n := 7) t90_1 rfl) rfl rfl  ?_
      refine s_istore (pc1 := 70) (ls1 := [(0, x0), (0, x1), (0, x2), (0, x3), (0, w32 (x4 + 0)), (0, x5), (0, x6)]) (tk (n := 8) t90_1 rfl) rfl rfl rfl rfl ?_
      refine s_iload (pc1 := 72) (tk (n := 9) t90_1 rfl) rfl rfl rfl ?_
      refine s_iconst (pc1 := 73) (tk (n := 10) t90_1 rfl) rfl rfl  ?_
      refine s_imul (pc1 := 74) (tk (n := 11) t90_1 rfl) rfl rfl  ?_
      refine s_istore (pc1 := 76) (ls1 := [(0, x0), (0, x1), (0, x2), (0, x3), (0, w32 (x4 + 0)), (0, w32 (x5 * 2)), (0, x6)]) (tk (n := 12) t90_1 rfl) rfl rfl rfl rfl ?_
      refine s_iload (pc1 := 78) (tk (n := 13) t90_1 rfl) rfl rfl rfl ?_
      refine s_iconst (pc1 := 79) (tk (n := 14) t90_1 rfl) rfl rfl  ?_
      refine s_imul (pc1 := 80) (tk (n := 15) t90_1 rfl) rfl rfl  ?_
      refine s_istore (pc1 := 82) (ls1 := [(0, x0), (0, x1), (0, x2), (0, x3), (0, w32 (x4 + 0)), (0, w32 (x5 * 2)), (0, w32 (x6 * 2))]) (tk (n := 16) t90_1 rfl) rfl rfl rfl rfl ?_
      refine s_goto (pc1 := 9) (tk (n := 17) t90_1 rfl) rfl rfl ?_
      rfl
    · refine s_iload (pc1 := 63) (tk (n := 4) t90_1 rfl) rfl rfl rfl ?_
      refine s_goto (pc1 := 67) (tk (n := 5) t90_1 rfl) rfl rfl ?_
      refine s_iadd (pc1 := 68) (tk (n := 7) t90_1 rfl) rfl rfl  ?_
      refine s_istore (pc1 := 70) (ls1 := [(0, x0), (0, x1), (0, x2), (0, x3), (0, w32 (x4 + x5)), (0, x5), (0, x6)]) (tk (n := 8) t90_1 rfl) rfl rfl rfl rfl ?_
      refine s_iload (pc1 := 72) (tk (n := 9) t90_1 rfl) rfl rfl rfl ?_
      refine s_iconst (pc1 := 73) (tk (n := 10) t90_1 rfl) rfl rfl  ?_
      refine s_imul (pc1 := 74) (tk (n := 11) t90_1 rfl) rfl rfl  ?_
      refine s_istore (pc1 := 76) (ls1 := [(0, x0), (0, x1), (0, x2), (0, x3), (0, w32 (x4 + x5)), (0, w32 (x5 * 2)), (0, x6)]) (tk (n := 12) t90_1 rfl) rfl rfl rfl rfl ?_
      refine s_iload (pc1 := 78) (tk (n := 13) t90_1 rfl) rfl rfl rfl ?_
      refine s_iconst (pc1 := 79) (tk (n := 14) t90_1 rfl) rfl rfl  ?_
      refine s_imul (pc1 := 80) (tk (n := 15) t90_1 rfl) rfl rfl  ?_
      refine s_istore (pc1 := 82) (ls1 := [(0, x0), (0, x1), (0, x2), (0, x3), (0, w32 (x4 + x5)), (0, w32 (x5 * 2)), (0, w32 (x6 * 2))]) (tk (n := 16) t90_1 rfl) rfl rfl rfl rfl ?_
      refine s_goto (pc1 := 9) (tk (n := 17) t90_1 rfl) rfl rfl ?_
      rfl
set_option maxRecDepth 100000 in
set_option maxHeartbeats 4000000 in
theorem e_X10_behindOnWalk (x0 : Int) (x1 : Int) (x2 : Int) (x3 : Int) (x4 : Int) (h : Hq) : vm 91 [(2, x0), (0, x1), (0, x2), (0, x3), (0, x4)] h = if 0 < x0 ∧ (kd x0).1 = 10 then if (kd (h.2 x0 1)).1 = 20 ∧ 0 ≤ x1 ∧ x1 < (kd (h.2 x0 1)).2 then if 0 < x0 ∧ (kd x0).1 = 10 then if (kd (h.2 x0 2)).1 = 20 ∧ 0 ≤ x1 ∧ x1 < (kd (h.2 x0 2)).2 then if x3 ≠ 0 then (if x3 ≠ 1 then (if x3 ≠ 2 then ((vm 314 [(0, 4), (0, h.2 (h.2 x0 1) x1)] h).bind (fun r21 => (vm 314 [(0, 4), (0, h.2 (h.2 x0 2) x1)] r21.2).bind (fun r25 => if (w32 ((vx r21) * (vx r25))) ≠ 0 then if (w32 ((vx r21) * (vx r25))) ≠ 0 then if (vx r21) ≠ 0 then if (w32 ((h.2 (h.2 x0 1) x1).tdiv (vx r21))) ≠ 0 then if (vx r21) ≠ 0 then if (w32 ((h.2 (h.2 x0 1) x1).tdiv (vx r21))) ≠ 0 then if (vx r21) ≠ 0 then if 0 < x0 ∧ (kd x0).1 = 10 then (vm 89 [(2, x0), (0, x1), (0, w32 ((w32 (((w32 (x2.tdiv (w32 ((vx r21) * (vx r25))))).tmod (w32 ((h.2 (h.2 x0 1) x1).tdiv (vx r21)))) * (vx r21))) + ((x2.tmod (w32 ((vx r21) * (vx r25)))).tmod (vx r21)))), (0, w32 ((w32 ((w32 ((w32 (x2.tdiv (w32 ((vx r21) * (vx r25))))).tdiv (w32 ((h.2 (h.2 x0 1) x1).tdiv (vx r21))))) * (vx r25))) + (w32 ((x2.tmod (w32 ((vx r21) * (vx r25)))).tdiv (vx r21))))), (0, x4)] r25.2).bind (fun r68 => some (some (0, vx r68), r68.2)) else none else none else none else none else none else none else none else none))) else (some (some (0, x2), h))) else (if (h.2 (h.2 x0 2) x1) ≠ 0 then if (h.2 (h.2 x0 2) x1) ≠ 0 then if 0 < x0 ∧ (kd x0).1 = 10 then (vm 89 [(2, x0), (0, x1), (0, w32 (x2.tdiv (h.2 (h.2 x0 2) x1))), (0, x2.tmod (h.2 (h.2 x0 2) x1)), (0, x4)] h).bind (fun r25 => some (some (0, vx r25), r25.2)) else none else none else none)) else (if (h.2 (h.2 x0 1) x1) ≠ 0 then if (h.2 (h.2 x0 1) x1) ≠ 0 then if 0 < x0 ∧ (kd x0).1 = 10 then (vm 89 [(2, x0), (0, x1), (0, x2.tmod (h.2 (h.2 x0 1) x1)), (0, w32 (x2.tdiv (h.2 (h.2 x0 1) x1))), (0, x4)] h).bind (fun r22 => some (some (0, vx r22), r22.2)) else none else none else none) else none else none else none else none := by
  show vp 91 0 [(2, x0), (0, x1), (0, x2), (0, x3), (0, x4), (9, 0), (9, 0), (9, 0), (9, 0), (9, 0), (9, 0), (9, 0), (9, 0), (9, 0)] [] h = _
  refine s_aload_n (pc1 := 1) (tk (n := 0) t91_0 rfl) rfl rfl rfl ?_
  refine s_getf (pc1 := 4) (c := 10) (t1 := 2) (tk (n := 1) t91_0 rfl) rfl rfl (by decide) rfl rfl ?_
  refine s_iload_n (pc1 := 5) (tk (n := 2) t91_0 rfl) rfl rfl rfl ?_
  refine s_iald (pc1 := 6) (tk (n := 3) t91_0 rfl) rfl rfl  ?_
  refine s_istore (pc1 := 8) (ls1 := [(2, x0), (0, x1), (0, x2), (0, x3), (0, x4), (0, h.2 (h.2 x0 1) x1), (9, 0), (9, 0), (9, 0), (9, 0), (9, 0), (9, 0), (9, 0), (9, 0)]) (tk (n := 4) t91_0 rfl) rfl rfl rfl rfl ?_
  refine s_aload_n (pc1 := 9) (tk (n := 5) t91_0 rfl) rfl rfl rfl ?_
  refine s_getf (pc1 := 12) (c := 10) (t1 := 2) (tk (n := 6) t91_0 rfl) rfl rfl (by decide) rfl rfl ?_
  refine s_iload_n (pc1 := 13) (tk (n := 7) t91_0 rfl) rfl rfl rfl ?_
  refine s_iald (pc1 := 14) (tk (n := 8) t91_0 rfl) rfl rfl  ?_
  refine s_istore (pc1 := 16) (ls1 := [(2, x0), (0, x1), (0, x2), (0, x3), (0, x4), (0, h.2 (h.2 x0 1) x1), (0, h.2 (h.2 x0 2) x1), (9, 0), (9, 0), (9, 0), (9, 0), (9, 0), (9, 0), (9, 0)]) (tk (n := 9) t91_0 rfl) rfl rfl rfl rfl ?_
  refine s_iload_n (pc1 := 17) (tk (n := 10) t91_0 rfl) rfl rfl rfl ?_
  refine s_if_ne (pc1 := 20) (pt := 36) (tk (n := 11) t91_0 rfl) rfl rfl rfl ?_ ?_
  · refine s_iload_n (pc1 := 37) (tk (n := 23) t91_0 rfl) rfl rfl rfl ?_
    refine s_iconst (pc1 := 38) (tk (n := 24) t91_0 rfl) rfl rfl  ?_
    refine s_ic_ne (pc1 := 41) (pt := 57) (tk (n := 25) t91_0 rfl) rfl rfl rfl ?_ ?_
    · refine s_iload_n (pc1 := 58) (tk (n := 7) t91_1 rfl) rfl rfl rfl ?_
      refine s_iconst (pc1 := 59) (tk (n := 8) t91_1 rfl) rfl rfl  ?_
      refine s_ic_ne (pc1 := 62) (pt := 64) (tk (n := 9) t91_1 rfl) rfl rfl rfl ?_ ?_
      · refine s_iconst (pc1 := 65) (tk (n := 12) t91_1 rfl) rfl rfl  ?_
        refine s_iload (pc1 := 67) (tk (n := 13) t91_1 rfl) rfl rfl rfl ?_
        refine s_callS0 (as := [(0, 4), (0, h.2 (h.2 x0 1) x1)]) (st1 := []) (p1 := 70) (M2 := 314) (tk (n := 14) t91_1 rfl) rfl rfl rfl rfl rfl (fun r21 => ?_)
        refine s_istore (pc1 := 72) (ls1 := [(2, x0), (0, x1), (0, x2), (0, x3), (0, x4), (0, h.2 (h.2 x0 1) x1), (0, h.2 (h.2 x0 2) x1), (0, vx r21), (9, 0), (9, 0), (9, 0), (9, 0), (9, 0), (9, 0)]) (tk (n := 15) t91_1 rfl) rfl rfl rfl rfl ?_
        refine s_iconst (pc1 := 73) (tk (n := 16) t91_1 rfl) rfl rfl  ?_
        refine s_iload (pc1 := 75) (tk (n := 17) t91_1 rfl) rfl rfl rfl ?_
        refine s_callS0 (as := [(0, 4), (0, h.2 (h.2 x0 2) x1)]) (st1 := []) (p1 := 78) (M2 := 314) (tk (n := 18) t91_1 rfl) rfl rfl rfl rfl rfl (fun r25 => ?_)
        refine s_istore (pc1 := 80) (ls1 := [(2, x0), (0, x1), (0, x2), (0, x3), (0, x4), (0, h.2 (h.2 x0 1) x1), (0, h.2 (h.2 x0 2) x1), (0, vx r21), (0, vx r25), (9, 0), (9, 0), (9, 0), (9, 0), (9, 0)]) (tk (n := 19) t91_1 rfl) rfl rfl rfl rfl ?_
        refine s_iload_n (pc1 := 81) (tk (n := 20) t91_1 rfl) rfl rfl rfl ?_
        refine s_iload (pc1 := 83) (tk (n := 21) t91_1 rfl) rfl rfl rfl ?_
        refine s_iload (pc1 := 85) (tk (n := 22) t91_1 rfl) rfl rfl rfl ?_
        refine s_imul (pc1 := 86) (tk (n := 23) t91_1 rfl) rfl rfl  ?_
        refine s_idiv (pc1 := 87) (tk (n := 24) t91_1 rfl) rfl rfl  ?_
        refine s_istore (pc1 := 89) (ls1 := [(2, x0), (0, x1), (0, x2), (0, x3), (0, x4), (0, h.2 (h.2 x0 1) x1), (0, h.2 (h.2 x0 2) x1), (0, vx r21), (0, vx r25), (0, w32 (x2.tdiv (w32 ((vx r21) * (vx r25))))), (9, 0), (9, 0), (9, 0), (9, 0)]) (tk (n := 25) t91_1 rfl) rfl rfl rfl rfl ?_
        refine s_iload_n (pc1 := 90) (tk (n := 26) t91_1 rfl) rfl rfl rfl ?_
        refine s_iload (pc1 := 92) (tk (n := 27) t91_1 rfl) rfl rfl rfl ?_
        refine s_iload (pc1 := 94) (tk (n := 28) t91_1 rfl) rfl rfl rfl ?_
        refine s_imul (pc1 := 95) (tk (n := 29) t91_1 rfl) rfl rfl  ?_
        refine s_irem (pc1 := 96) (tk (n := 0) t91_2 rfl) rfl rfl  ?_
        refine s_istore (pc1 := 98) (ls1 := [(2, x0), (0, x1), (0, x2), (0, x3), (0, x4), (0, h.2 (h.2 x0 1) x1), (0, h.2 (h.2 x0 2) x1), (0, vx r21), (0, vx r25), (0, w32 (x2.tdiv (w32 ((vx r21) * (vx r25))))), (0, x2.tmod (w32 ((vx r21) * (vx r25)))), (9, 0), (9, 0), (9, 0)]) (tk (n := 1) t91_2 rfl) rfl rfl rfl rfl ?_
        refine s_iload (pc1 := 100) (tk (n := 2) t91_2 rfl) rfl rfl rfl ?_
        refine s_iload (pc1 := 102) (tk (n := 3) t91_2 rfl) rfl rfl rfl ?_
        refine s_idiv (pc1 := 103) (tk (n := 4) t91_2 rfl) rfl rfl  ?_
        refine s_istore (pc1 := 105) (ls1 := [(2, x0), (0, x1), (0, x2), (0, x3), (0, x4), (0, h.2 (h.2 x0 1) x1), (0, h.2 (h.2 x0 2) x1), (0, vx r21), (0, vx r25), (0, w32 (x2.tdiv (w32 ((vx r21) * (vx r25))))), (0, x2.tmod (w32 ((vx r21) * (vx r25)))), (0, w32 ((h.2 (h.2 x0 1) x1).tdiv (vx r21))), (9, 0), (9, 0)]) (tk (n := 5) t91_2 rfl) rfl rfl rfl rfl ?_
        refine s_iload (pc1 := 107) (tk (n := 6) t91_2 rfl) rfl rfl rfl ?_
        refine s_iload (pc1 := 109) (tk (n := 7) t91_2 rfl) rfl rfl rfl ?_
        refine s_irem (pc1 := 110) (tk (n := 8) t91_2 rfl) rfl rfl  ?_
        refine s_iload (pc1 := 112) (tk (n := 9) t91_2 rfl) rfl rfl rfl ?_
        refine s_imul (pc1 := 113) (tk (n := 10) t91_2 rfl) rfl rfl  ?_
        refine s_iload (pc1 := 115) (tk (n := 11) t91_2 rfl) rfl rfl rfl ?_
        refine s_iload (pc1 := 117) (tk (n := 12) t91_2 rfl) rfl rfl rfl ?_
        refine s_irem (pc1 := 118) (tk (n := 13) t91_2 rfl) rfl rfl  ?_
        refine s_iadd (pc1 := 119) (tk (n := 14) t91_2 rfl) rfl rfl  ?_
        refine s_istore (pc1 := 121) (ls1 := [(2, x0), (0, x1), (0, x2), (0, x3), (0, x4), (0, h.2 (h.2 x0 1) x1), (0, h.2 (h.2 x0 2) x1), (0, vx r21), (0, vx r25), (0, w32 (x2.tdiv (w32 ((vx r21) * (vx r25))))), (0, x2.tmod (w32 ((vx r21) * (vx r25)))), (0, w32 ((h.2 (h.2 x0 1) x1).tdiv (vx r21))), (0, w32 ((w32 (((w32 (x2.tdiv (w32 ((vx r21) * (vx r25))))).tmod (w32 ((h.2 (h.2 x0 1) x1).tdiv (vx r21)))) * (vx r21))) + ((x2.tmod (w32 ((vx r21) * (vx r25)))).tmod (vx r21)))), (9, 0)]) (tk (n := 15) t91_2 rfl) rfl rfl rfl rfl ?_
        refine s_iload (pc1 := 123) (tk (n := 16) t91_2 rfl) rfl rfl rfl ?_
        refine s_iload (pc1 := 125) (tk (n := 17) t91_2 rfl) rfl rfl rfl ?_
        refine s_idiv (pc1 := 126) (tk (n := 18) t91_2 rfl) rfl rfl  ?_
        refine s_iload (pc1 := 128) (tk (n := 19) t91_2 rfl) rfl rfl rfl ?_
        refine s_imul (pc1 := 129) (tk (n := 20) t91_2 rfl) rfl rfl  ?_
        refine s_iload (pc1 := 131) (tk (n := 21) t91_2 rfl) rfl rfl rfl ?_
        refine s_iload (pc1 := 133) (tk (n := 22) t91_2 rfl) rfl rfl rfl ?_
        refine s_idiv (pc1 := 134) (tk (n := 23) t91_2 rfl) rfl rfl  ?_
        refine s_iadd (pc1 := 135) (tk (n := 24) t91_2 rfl) rfl rfl  ?_
        refine s_istore (pc1 := 137) (ls1 := [(2, x0), (0, x1), (0, x2), (0, x3), (0, x4), (0, h.2 (h.2 x0 1) x1), (0, h.2 (h.2 x0 2) x1), (0, vx r21), (0, vx r25), (0, w32 (x2.tdiv (w32 ((vx r21) * (vx r25))))), (0, x2.tmod (w32 ((vx r21) * (vx r25)))), (0, w32 ((h.2 (h.2 x0 1) x1).tdiv (vx r21))), (0, w32 ((w32 (((w32 (x2.tdiv (w32 ((vx r21) * (vx r25))))).tmod (w32 ((h.2 (h.2 x0 1) x1).tdiv (vx r21)))) * (vx r21))) + ((x2.tmod (w32 ((vx r21) * (vx r25)))).tmod (vx r21)))), (0, w32 ((w32 ((w32 ((w32 (x2.tdiv (w32 ((vx r21) * (vx r25))))).tdiv (w32 ((h.2 (h.2 x0 1) x1).tdiv (vx r21))))) * (vx r25))) + (w32 ((x2.tmod (w32 ((vx r21) * (vx r25)))).tdiv (vx r21)))))]) (tk (n := 25) t91_2 rfl) rfl rfl rfl rfl ?_
        refine s_aload_n (pc1 := 138) (tk (n := 26) t91_2 rfl) rfl rfl rfl ?_
        refine s_iload_n (pc1 := 139) (tk (n := 27) t91_2 rfl) rfl rfl rfl ?_
        refine s_iload (pc1 := 141) (tk (n := 28) t91_2 rfl) rfl rfl rfl ?_
        refine s_iload (pc1 := 143) (tk (n := 29) t91_2 rfl) rfl rfl rfl ?_
        refine s_iload (pc1 := 145) (tk (n := 0) t91_3 rfl) rfl rfl rfl ?_
        refine s_call0 (as := [(2, x0), (0, x1), (0, w32 ((w32 (((w32 (x2.tdiv (w32 ((vx r21) * (vx r25))))).tmod (w32 ((h.2 (h.2 x0 1) x1).tdiv (vx r21)))) * (vx r21))) + ((x2.tmod (w32 ((vx r21) * (vx r25)))).tmod (vx r21)))), (0, w32 ((w32 ((w32 ((w32 (x2.tdiv (w32 ((vx r21) * (vx r25))))).tdiv (w32 ((h.2 (h.2 x0 1) x1).tdiv (vx r21))))) * (vx r25))) + (w32 ((x2.tmod (w32 ((vx r21) * (vx r25)))).tdiv (vx r21))))), (0, x4)]) (st1 := []) (p1 := 148) (M2 := 89) (tk (n := 1) t91_3 rfl) rfl rfl rfl rfl rfl (fun r68 => ?_)
        exact s_ret (tk (n := 2) t91_3 rfl) rfl rfl rfl
      · refine s_iload_n (pc1 := 63) (tk (n := 10) t91_1 rfl) rfl rfl rfl ?_
        exact s_ret (tk (n := 11) t91_1 rfl) rfl rfl rfl
    · refine s_aload_n (pc1 := 42) (tk (n := 26) t91_0 rfl) rfl rfl rfl ?_
      refine s_iload_n (pc1 := 43) (tk (n := 27) t91_0 rfl) rfl rfl rfl ?_
      refine s_iload_n (pc1 := 44) (tk (n := 28) t91_0 rfl) rfl rfl rfl ?_
      refine s_iload (pc1 := 46) (tk (n := 29) t91_0 rfl) rfl rfl rfl ?_
      refine s_idiv (pc1 := 47) (tk (n := 0) t91_1 rfl) rfl rfl  ?_
      refine s_iload_n (pc1 := 48) (tk (n := 1) t91_1 rfl) rfl rfl rfl ?_
      refine s_iload (pc1 := 50) (tk (n := 2) t91_1 rfl) rfl rfl rfl ?_
      refine s_irem (pc1 := 51) (tk (n := 3) t91_1 rfl) rfl rfl  ?_
      refine s_iload (pc1 := 53) (tk (n := 4) t91_1 rfl) rfl rfl rfl ?_
      refine s_call0 (as := [(2, x0), (0, x1), (0, w32 (x2.tdiv (h.2 (h.2 x0 2) x1))), (0, x2.tmod (h.2 (h.2 x0 2) x1)), (0, x4)]) (st1 := []) (p1 := 56) (M2 := 89) (tk (n := 5) t91_1 rfl) rfl rfl rfl rfl rfl (fun r25 => ?_)
      exact s_ret (tk (n := 6) t91_1 rfl) rfl rfl rfl
  · refine s_aload_n (pc1 := 21) (tk (n := 12) t91_0 rfl) rfl rfl rfl ?_
    refine s_iload_n (pc1 := 22) (tk (n := 13) t91_0 rfl) rfl rfl rfl ?_
    refine s_iload_n (pc1 := 23) (tk (n := 14) t91_0 rfl) rfl rfl rfl ?_
    refine s_iload (pc1 := 25) (tk (n := 15) t91_0 rfl) rfl rfl rfl ?_
    refine s_irem (pc1 := 26) (tk (n := 16) t91_0 rfl) rfl rfl  ?_
    refine s_iload_n (pc1 := 27) (tk (n := 17) t91_0 rfl) rfl rfl rfl ?_
    refine s_iload (pc1 := 29) (tk (n := 18) t91_0 rfl) rfl rfl rfl ?_
    refine s_idiv (pc1 := 30) (tk (n := 19) t91_0 rfl) rfl rfl  ?_
    refine s_iload (pc1 := 32) (tk (n := 20) t91_0 rfl) rfl rfl rfl ?_
    refine s_call0 (as := [(2, x0), (0, x1), (0, x2.tmod (h.2 (h.2 x0 1) x1)), (0, w32 (x2.tdiv (h.2 (h.2 x0 1) x1))), (0, x4)]) (st1 := []) (p1 := 35) (M2 := 89) (tk (n := 21) t91_0 rfl) rfl rfl rfl rfl rfl (fun r22 => ?_)
    exact s_ret (tk (n := 22) t91_0 rfl) rfl rfl rfl
set_option maxRecDepth 100000 in
set_option maxHeartbeats 4000000 in
theorem e_X10_texelBehind (x0 : Int) (x1 : Int) (x2 : Int) (h : Hq) : vm 92 [(2, x0), (0, x1), (0, x2)] h = if 0 < x0 ∧ (kd x0).1 = 10 then if (kd (h.2 x0 1)).1 = 20 ∧ 0 ≤ x1 ∧ x1 < (kd (h.2 x0 1)).2 then if 0 < x0 ∧ (kd x0).1 = 10 then if (h.2 x0 10) ≠ 1 then (if 0 < x0 ∧ (kd x0).1 = 10 then if (h.2 x0 10) ≠ 2 then (some (some (0, x2), h)) else (if 0 < x0 ∧ (kd x0).1 = 10 then if (kd (h.2 x0 2)).1 = 20 ∧ 0 ≤ x1 ∧ x1 < (kd (h.2 x0 2)).2 then (vm 93 [(0, x2), (0, h.2 (h.2 x0 1) x1), (0, h.2 (h.2 x0 2) x1)] h).bind (fun r20 => some (some (0, vx r20), r20.2)) else none else none) else none) else (if (h.2 (h.2 x0 1) x1) < 4 then (if 0 < x0 ∧ (kd x0).1 = 10 then if (h.2 x0 10) ≠ 2 then (some (some (0, x2), h)) else (if 0 < x0 ∧ (kd x0).1 = 10 then if (kd (h.2 x0 2)).1 = 20 ∧ 0 ≤ x1 ∧ x1 < (kd (h.2 x0 2)).2 then (vm 93 [(0, x2), (0, h.2 (h.2 x0 1) x1), (0, h.2 (h.2 x0 2) x1)] h).bind (fun r23 => some (some (0, vx r23), r23.2)) else none else none) else none) else (if 0 < x0 ∧ (kd x0).1 = 10 then if (kd (h.2 x0 2)).1 = 20 ∧ 0 ≤ x1 ∧ x1 < (kd (h.2 x0 2)).2 then if (h.2 (h.2 x0 2) x1) < 4 then (if 0 < x0 ∧ (kd x0).1 = 10 then if (h.2 x0 10) ≠ 2 then (some (some (0, x2), h)) else (if 0 < x0 ∧ (kd x0).1 = 10 then if (kd (h.2 x0 2)).1 = 20 ∧ 0 ≤ x1 ∧ x1 < (kd (h.2 x0 2)).2 then (vm 93 [(0, x2), (0, h.2 (h.2 x0 1) x1), (0, h.2 (h.2 x0 2) x1)] h).bind (fun r29 => some (some (0, vx r29), r29.2)) else none else none) else none) else (if (w32 ((h.2 (h.2 x0 1) x1).tdiv 4)) ≠ 0 then if (w32 ((h.2 (h.2 x0 1) x1).tdiv 4)) ≠ 0 then some (some (0, w32 ((w32 ((w32 ((w32 ((w32 ((w32 (x2.tdiv 16)).tdiv (w32 ((h.2 (h.2 x0 1) x1).tdiv 4)))) * 4)) + (w32 ((x2.tmod 16).tdiv 4)))) * (h.2 (h.2 x0 1) x1))) + (w32 ((w32 (((w32 (x2.tdiv 16)).tmod (w32 ((h.2 (h.2 x0 1) x1).tdiv 4))) * 4)) + (x2.tmod 4))))), h) else none else none) else none else none)) else none else none else none := by
  show vp 92 0 [(2, x0), (0, x1), (0, x2), (9, 0), (9, 0), (9, 0), (9, 0)] [] h = _
  refine s_aload_n (pc1 := 1) (tk (n := 0) t92_0 rfl) rfl rfl rfl ?_
  refine s_getf (pc1 := 4) (c := 10) (t1 := 2) (tk (n := 1) t92_0 rfl) rfl rfl (by decide) rfl rfl ?_
  refine s_iload_n (pc1 := 5) (tk (n := 2) t92_0 rfl) rfl rfl rfl ?_
  refine s_iald (pc1 := 6) (tk (n := 3) t92_0 rfl) rfl rfl  ?_
  refine s_istore_n (pc1 := 7) (ls1 := [(2, x0), (0, x1), (0, x2), (0, h.2 (h.2 x0 1) x1), (9, 0), (9, 0), (9, 0)]) (tk (n := 4) t92_0 rfl) rfl rfl rfl rfl ?_
  refine s_aload_n (pc1 := 8) (tk (n := 5) t92_0 rfl) rfl rfl rfl ?_
  refine s_getf (pc1 := 11) (c := 10) (t1 := 0) (tk (n := 6) t92_0 rfl) rfl rfl (by decide) rfl rfl ?_
  refine s_iconst (pc1 := 12) (tk (n := 7) t92_0 rfl) rfl rfl  ?_
  refine s_ic_ne (pc1 := 15) (pt := 75) (tk (n := 8) t92_0 rfl) rfl rfl rfl ?_ ?_
  · refine s_aload_n (pc1 := 76) (tk (n := 24) t92_1 rfl) rfl rfl rfl ?_
    refine s_getf (pc1 := 79) (c := 10) (t1 := 0) (tk (n := 25) t92_1 rfl) rfl rfl (by decide) rfl rfl ?_
    refine s_iconst (pc1 := 80) (tk (n := 26) t92_1 rfl) rfl rfl  ?_
    refine s_ic_ne (pc1 := 83) (pt := 97) (tk (n := 27) t92_1 rfl) rfl rfl rfl ?_ ?_
    · refine s_iload_n (pc1 := 98) (tk (n := 6) t92_2 rfl) rfl rfl rfl ?_
      exact s_ret (tk (n := 7) t92_2 rfl) rfl rfl rfl
    · refine s_iload_n (pc1 := 84) (tk (n := 28) t92_1 rfl) rfl rfl rfl ?_
      refine s_iload_n (pc1 := 85) (tk (n := 29) t92_1 rfl) rfl rfl rfl ?_
      refine s_aload_n (pc1 := 86) (tk (n := 0) t92_2 rfl) rfl rfl rfl ?_
      refine s_getf (pc1 := 89) (c := 10) (t1 := 2) (tk (n := 1) t92_2 rfl) rfl rfl (by decide) rfl rfl ?_
      refine s_iload_n (pc1 := 90) (tk (n := 2) t92_2 rfl) rfl rfl rfl ?_
      refine s_iald (pc1 := 91) (tk (n := 3) t92_2 rfl) rfl rfl  ?_
      refine s_callS0 (as := [(0, x2), (0, h.2 (h.2 x0 1) x1), (0, h.2 (h.2 x0 2) x1)]) (st1 := []) (p1 := 94) (M2 := 93) (tk (n := 4) t92_2 rfl) rfl rfl rfl rfl rfl (fun r20 => ?_)
      refine s_goto (pc1 := 98) (tk (n := 5) t92_2 rfl) rfl rfl ?_
      exact s_ret (tk (n := 7) t92_2 rfl) rfl rfl rfl
  · refine s_iload_n (pc1 := 16) (tk (n := 9) t92_0 rfl) rfl rfl rfl ?_
    refine s_iconst (pc1 := 17) (tk (n := 10) t92_0 rfl) rfl rfl  ?_
    refine s_ic_lt (pc1 := 20) (pt := 75) (tk (n := 11) t92_0 rfl) rfl rfl rfl ?_ ?_
    · refine s_aload_n (pc1 := 76) (tk (n := 24) t92_1 rfl) rfl rfl rfl ?_
      refine s_getf (pc1 := 79) (c := 10) (t1 := 0) (tk (n := 25) t92_1 rfl) rfl rfl (by decide) rfl rfl ?_
      refine s_iconst (pc1 := 80) (tk (n := 26) t92_1 rfl) rfl rfl  ?_
      refine s_ic_ne (pc1 := 83) (pt := 97) (tk (n := 27) t92_1 rfl) rfl rfl rfl ?_ ?_
      · refine s_iload_n (pc1 := 98) (tk (n := 6) t92_2 rfl) rfl rfl rfl ?_
        exact s_ret (tk (n := 7) t92_2 rfl) rfl rfl rfl
      · refine s_iload_n (pc1 := 84) (tk (n := 28) t92_1 rfl) rfl rfl rfl ?_
        refine s_iload_n (pc1 := 85) (tk (n := 29) t92_1 rfl) rfl rfl rfl ?_
        refine s_aload_n (pc1 := 86) (tk (n := 0) t92_2 rfl) rfl rfl rfl ?_
        refine s_getf (pc1 := 89) (c := 10) (t1 := 2) (tk (n := 1) t92_2 rfl) rfl rfl (by decide) rfl rfl ?_
        refine s_iload_n (pc1 := 90) (tk (n := 2) t92_2 rfl) rfl rfl rfl ?_
        refine s_iald (pc1 := 91) (tk (n := 3) t92_2 rfl) rfl rfl  ?_
        refine s_callS0 (as := [(0, x2), (0, h.2 (h.2 x0 1) x1), (0, h.2 (h.2 x0 2) x1)]) (st1 := []) (p1 := 94) (M2 := 93) (tk (n := 4) t92_2 rfl) rfl rfl rfl rfl rfl (fun r23 => ?_)
        refine s_goto (pc1 := 98) (tk (n := 5) t92_2 rfl) rfl rfl ?_
        exact s_ret (tk (n := 7) t92_2 rfl) rfl rfl rfl
    · refine s_aload_n (pc1 := 21) (tk (n := 12) t92_0 rfl) rfl rfl rfl ?_
      refine s_getf (pc1 := 24) (c := 10) (t1 := 2) (tk (n := 13) t92_0 rfl) rfl rfl (by decide) rfl rfl ?_
      refine s_iload_n (pc1 := 25) (tk (n := 14) t92_0 rfl) rfl rfl rfl ?_
      refine s_iald (pc1 := 26) (tk (n := 15) t92_0 rfl) rfl rfl  ?_
      refine s_iconst (pc1 := 27) (tk (n := 16) t92_0 rfl) rfl rfl  ?_
      refine s_ic_lt (pc1 := 30) (pt := 75) (tk (n := 17) t92_0 rfl) rfl rfl rfl ?_ ?_
      · refine s_aload_n (pc1 := 76) (tk (n := 24) t92_1 rfl) rfl rfl rfl ?_
        refine s_getf (pc1 := 79) (c := 10) (t1 := 0) (tk (n := 25) t92_1 rfl) rfl rfl (by decide) rfl rfl ?_
        refine s_iconst (pc1 := 80) (tk (n := 26) t92_1 rfl) rfl rfl  ?_
        refine s_ic_ne (pc1 := 83) (pt := 97) (tk (n := 27) t92_1 rfl) rfl rfl rfl ?_ ?_
        · refine s_iload_n (pc1 := 98) (tk (n := 6) t92_2 rfl) rfl rfl rfl ?_
          exact s_ret (tk (n := 7) t92_2 rfl) rfl rfl rfl
        · refine s_iload_n (pc1 := 84) (tk (n := 28) t92_1 rfl) rfl rfl rfl ?_
          refine s_iload_n (pc1 := 85) (tk (n := 29) t92_1 rfl) rfl rfl rfl ?_
          refine s_aload_n (pc1 := 86) (tk (n := 0) t92_2 rfl) rfl rfl rfl ?_
          refine s_getf (pc1 := 89) (c := 10) (t1 := 2) (tk (n := 1) t92_2 rfl) rfl rfl (by decide) rfl rfl ?_
          refine s_iload_n (pc1 := 90) (tk (n := 2) t92_2 rfl) rfl rfl rfl ?_
          refine s_iald (pc1 := 91) (tk (n := 3) t92_2 rfl) rfl rfl  ?_
          refine s_callS0 (as := [(0, x2), (0, h.2 (h.2 x0 1) x1), (0, h.2 (h.2 x0 2) x1)]) (st1 := []) (p1 := 94) (M2 := 93) (tk (n := 4) t92_2 rfl) rfl rfl rfl rfl rfl (fun r29 => ?_)
          refine s_goto (pc1 := 98) (tk (n := 5) t92_2 rfl) rfl rfl ?_
          exact s_ret (tk (n := 7) t92_2 rfl) rfl rfl rfl
      · refine s_iload_n (pc1 := 31) (tk (n := 18) t92_0 rfl) rfl rfl rfl ?_
        refine s_bipush (pc1 := 33) (tk (n := 19) t92_0 rfl) rfl rfl  ?_
        refine s_idivc (pc1 := 34) (tk (n := 20) t92_0 rfl) rfl rfl (by decide) ?_
        refine s_istore (pc1 := 36) (ls1 := [(2, x0), (0, x1), (0, x2), (0, h.2 (h.2 x0 1) x1), (0, w32 (x2.tdiv 16)), (9, 0), (9, 0)]) (tk (n := 21) t92_0 rfl) rfl rfl rfl rfl ?_
        refine s_iload (pc1 := 38) (tk (n := 22) t92_0 rfl) rfl rfl rfl ?_
        refine s_iload_n (pc1 := 39) (tk (n := 23) t92_0 rfl) rfl rfl rfl ?_
        refine s_iconst (pc1 := 40) (tk (n := 24) t92_0 rfl) rfl rfl  ?_
        refine s_idivc (pc1 := 41) (tk (n := 25) t92_0 rfl) rfl rfl (by decide) ?_
        refine s_irem (pc1 := 42) (tk (n := 26) t92_0 rfl) rfl rfl  ?_
        refine s_iconst (pc1 := 43) (tk (n := 27) t92_0 rfl) rfl rfl  ?_
        refine s_imul (pc1 := 44) (tk (n := 28) t92_0 rfl) rfl rfl  ?_
        refine s_iload_n (pc1 := 45) (tk (n := 29) t92_0 rfl) rfl rfl rfl ?_
        refine s_iconst (pc1 := 46) (tk (n := 0) t92_1 rfl) rfl rfl  ?_
        refine s_iremc (pc1 := 47) (tk (n := 1) t92_1 rfl) rfl rfl (by decide) ?_
        refine s_iadd (pc1 := 48) (tk (n := 2) t92_1 rfl) rfl rfl  ?_
        refine s_istore (pc1 := 50) (ls1 := [(2, x0), (0, x1), (0, x2), (0, h.2 (h.2 x0 1) x1), (0, w32 (x2.tdiv 16)), (0, w32 ((w32 (((w32 (x2.tdiv 16)).tmod (w32 ((h.2 (h.2 x0 1) x1).tdiv 4))) * 4)) + (x2.tmod 4))), (9, 0)]) (tk (n := 3) t92_1 rfl) rfl rfl rfl rfl ?_
        refine s_iload (pc1 := 52) (tk (n := 4) t92_1 rfl) rfl rfl rfl ?_
        refine s_iload_n (pc1 := 53) (tk (n := 5) t92_1 rfl) rfl rfl rfl ?_
        refine s_iconst (pc1 := 54) (tk (n := 6) t92_1 rfl) rfl rfl  ?_
        refine s_idivc (pc1 := 55) (tk (n := 7) t92_1 rfl) rfl rfl (by decide) ?_
        refine s_idiv (pc1 := 56) (tk (n := 8) t92_1 rfl) rfl rfl  ?_
        refine s_iconst (pc1 := 57) (tk (n := 9) t92_1 rfl) rfl rfl  ?_
        refine s_imul (pc1 := 58) (tk (n := 10) t92_1 rfl) rfl rfl  ?_
        refine s_iload_n (pc1 := 59) (tk (n := 11) t92_1 rfl) rfl rfl rfl ?_
        refine s_bipush (pc1 := 61) (tk (n := 12) t92_1 rfl) rfl rfl  ?_
        refine s_iremc (pc1 := 62) (tk (n := 13) t92_1 rfl) rfl rfl (by decide) ?_
        refine s_iconst (pc1 := 63) (tk (n := 14) t92_1 rfl) rfl rfl  ?_
        refine s_idivc (pc1 := 64) (tk (n := 15) t92_1 rfl) rfl rfl (by decide) ?_
        refine s_iadd (pc1 := 65) (tk (n := 16) t92_1 rfl) rfl rfl  ?_
        refine s_istore (pc1 := 67) (ls1 := [(2, x0), (0, x1), (0, x2), (0, h.2 (h.2 x0 1) x1), (0, w32 (x2.tdiv 16)), (0, w32 ((w32 (((w32 (x2.tdiv 16)).tmod (w32 ((h.2 (h.2 x0 1) x1).tdiv 4))) * 4)) + (x2.tmod 4))), (0, w32 ((w32 ((w32 ((w32 (x2.tdiv 16)).tdiv (w32 ((h.2 (h.2 x0 1) x1).tdiv 4)))) * 4)) + (w32 ((x2.tmod 16).tdiv 4))))]) (tk (n := 17) t92_1 rfl) rfl rfl rfl rfl ?_
        refine s_iload (pc1 := 69) (tk (n := 18) t92_1 rfl) rfl rfl rfl ?_
        refine s_iload_n (pc1 := 70) (tk (n := 19) t92_1 rfl) rfl rfl rfl ?_
        refine s_imul (pc1 := 71) (tk (n := 20) t92_1 rfl) rfl rfl  ?_
        refine s_iload (pc1 := 73) (tk (n := 21) t92_1 rfl) rfl rfl rfl ?_
        refine s_iadd (pc1 := 74) (tk (n := 22) t92_1 rfl) rfl rfl  ?_
        exact s_ret (tk (n := 23) t92_1 rfl) rfl rfl rfl
set_option maxRecDepth 100000 in
set_option maxHeartbeats 4000000 in
theorem e_X10_texelOnCurve (x0 : Int) (x1 : Int) (x2 : Int) (h : Hq) : vm 93 [(0, x0), (0, x1), (0, x2)] h = vp 93 11 [(0, x0), (0, x1), (0, x2), (0, 0), (0, 0), (0, 1), (0, 1)] [] h := by
  show vp 93 0 [(0, x0), (0, x1), (0, x2), (9, 0), (9, 0), (9, 0), (9, 0)] [] h = _
  refine s_iconst (pc1 := 1) (tk (n := 0) t93_0 rfl) rfl rfl  ?_
  refine s_istore_n (pc1 := 2) (ls1 := [(0, x0), (0, x1), (0, x2), (0, 0), (9, 0), (9, 0), (9, 0)]) (tk (n := 1) t93_0 rfl) rfl rfl rfl rfl ?_
  refine s_iconst (pc1 := 3) (tk (n := 2) t93_0 rfl) rfl rfl  ?_
  refine s_istore (pc1 := 5) (ls1 := [(0, x0), (0, x1), (0, x2), (0, 0), (0, 0), (9, 0), (9, 0)]) (tk (n := 3) t93_0 rfl) rfl rfl rfl rfl ?_
  refine s_iconst (pc1 := 6) (tk (n := 4) t93_0 rfl) rfl rfl  ?_
  refine s_istore (pc1 := 8) (ls1 := [(0, x0), (0, x1), (0, x2), (0, 0), (0, 0), (0, 1), (9, 0)]) (tk (n := 5) t93_0 rfl) rfl rfl rfl rfl ?_
  refine s_iconst (pc1 := 9) (tk (n := 6) t93_0 rfl) rfl rfl  ?_
  refine s_istore (pc1 := 11) (ls1 := [(0, x0), (0, x1), (0, x2), (0, 0), (0, 0), (0, 1), (0, 1)]) (tk (n := 7) t93_0 rfl) rfl rfl rfl rfl ?_
  rfl
set_option maxRecDepth 100000 in
set_option maxHeartbeats 4000000 in
theorem e_X10_texelOnCurve_11 (x0 : Int) (x1 : Int) (x2 : Int) (x3 : Int) (x4 : Int) (x5 : Int) (x6 : Int) (h : Hq) : vp 93 11 [(0, x0), (0, x1), (0, x2), (0, x3), (0, x4), (0, x5), (0, x6)] [] h = if x6 ≥ 16 then (some (some (0, w32 ((w32 (x4 * x1)) + x3)), h)) else (if x6 ≥ x1 then (vp 93 46 [(0, x0), (0, x1), (0, x2), (0, x3), (0, x4), (0, x5), (0, x6)] [] h) else (if (band x0 x5) = 0 then (vp 93 46 [(0, x0), (0, x1), (0, x2), (0, w32 (x3 + 0)), (0, x4), (0, w32 (x5 * 2)), (0, x6)] [] h) else (vp 93 46 [(0, x0), (0, x1), (0, x2), (0, w32 (x3 + x6)), (0, x4), (0, w32 (x5 * 2)), (0, x6)] [] h))) := by
  refine s_iload (pc1 := 13) (tk (n := 8) t93_0 rfl) rfl rfl rfl ?_
  refine s_bipush (pc1 := 15) (tk (n := 9) t93_0 rfl) rfl rfl  ?_
  refine s_ic_ge (pc1 := 18) (pt := 85) (tk (n := 10) t93_0 rfl) rfl rfl rfl ?_ ?_
  · refine s_iload (pc1 := 87) (tk (n := 20) t93_1 rfl) rfl rfl rfl ?_
    refine s_iload_n (pc1 := 88) (tk (n := 21) t93_1 rfl) rfl rfl rfl ?_
    refine s_imul (pc1 := 89) (tk (n := 22) t93_1 rfl) rfl rfl  ?_
    refine s_iload_n (pc1 := 90) (tk (n := 23) t93_1 rfl) rfl rfl rfl ?_
    refine s_iadd (pc1 := 91) (tk (n := 24) t93_1 rfl) rfl rfl  ?_
    exact s_ret (tk (n := 25) t93_1 rfl) rfl rfl rfl
  · refine s_iload (pc1 := 20) (tk (n := 11) t93_0 rfl) rfl rfl rfl ?_
    refine s_iload_n (pc1 := 21) (tk (n := 12) t93_0 rfl) rfl rfl rfl ?_
    refine s_ic_ge (pc1 := 24) (pt := 46) (tk (n := 13) t93_0 rfl) rfl rfl rfl ?_ ?_
    · rfl
    · refine s_iload_n (pc1 := 25) (tk (n := 14) t93_0 rfl) rfl rfl rfl ?_
      refine s_iload_n (pc1 := 26) (tk (n := 15) t93_0 rfl) rfl rfl rfl ?_
      refine s_iload (pc1 := 28) (tk (n := 16) t93_0 rfl) rfl rfl rfl ?_
      refine s_iand (pc1 := 29) (tk (n := 17) t93_0 rfl) rfl rfl  ?_
      refine s_if_eq (pc1 := 32) (pt := 37) (tk (n := 18) t93_0 rfl) rfl rfl rfl ?_ ?_
      · refine s_iconst (pc1 := 38) (tk (n := 21) t93_0 rfl) rfl rfl  ?_
        refine s_iadd (pc1 := 39) (tk (n := 22) t93_0 rfl) rfl rfl  ?_
        refine s_istore_n (pc1 := 40) (ls1 := [(0, x0), (0, x1), (0, x2), (0, w32 (x3 + 0)), (0, x4), (0, x5), (0, x6)]) (tk (n := 23) t93_0 rfl) rfl rfl rfl rfl ?_
        refine s_iload (pc1 := 42) (tk (n := 24) t93_0 rfl) rfl rfl rfl ?_
        refine s_iconst (pc1 := 43) (tk (n := 25) t93_0 rfl) rfl rfl  ?_
        refine s_imul (pc1 := 44) (tk (n := 26) t93_0 rfl) rfl rfl  ?_
        refine s_istore (pc1 := 46) (ls1 := [(0, x0), (0, x1), (0, x2), (0, w32 (x3 + 0)), (0, x4), (0, w32 (x5 * 2)), (0, x6)]) (tk (n := 27) t93_0 rfl) rfl rfl rfl rfl ?_
        rfl
      · refine s_iload (pc1 := 34) (tk (n := 19) t93_0 rfl) rfl rfl rfl ?_
        refine s_goto (pc1 := 38) (tk (n := 20) t93_0 rfl) rfl rfl ?_
        refine s_iadd (pc1 := 39) (tk (n := 22) t93_0 rfl) rfl rfl  ?_
        refine s_istore_n (pc1 := 40) (ls1 := [(0, x0), (0, x1), (0, x2), (0, w32 (x3 + x6)), (0, x4), (0, x5), (0, x6)]) (tk (n := 23) t93_0 rfl) rfl rfl rfl rfl ?_
        refine s_iload (pc1 := 42) (tk (n := 24) t93_0 rfl) rfl rfl rfl ?_
        refine s_iconst (pc1 := 43) (tk (n := 25) t93_0 rfl) rfl rfl  ?_
        refine s_imul (pc1 := 44) (tk (n := 26) t93_0 rfl) rfl rfl  ?_
        refine s_istore (pc1 := 46) (ls1 := [(0, x0), (0, x1), (0, x2), (0, w32 (x3 + x6)), (0, x4), (0, w32 (x5 * 2)), (0, x6)]) (tk (n := 27) t93_0 rfl) rfl rfl rfl rfl ?_
        rfl
set_option maxRecDepth 100000 in
set_option maxHeartbeats 4000000 in
theorem e_X10_texelOnCurve_46 (x0 : Int) (x1 : Int) (x2 : Int) (x3 : Int) (x4 : Int) (x5 : Int) (x6 : Int) (h : Hq) : vp 93 46 [(0, x0), (0, x1), (0, x2), (0, x3), (0, x4), (0, x5), (0, x6)] [] h = if x6 ≥ x2 then (vp 93 11 [(0, x0), (0, x1), (0, x2), (0, x3), (0, x4), (0, x5), (0, w32 (x6 * 2))] [] h) else (if (band x0 x5) = 0 then (vp 93 11 [(0, x0), (0, x1), (0, x2), (0, x3), (0, w32 (x4 + 0)), (0, w32 (x5 * 2)), (0, w32 (x6 * 2))] [] h) else (vp 93 11 [(0, x0), (0, x1), (0, x2), (0, x3), (0, w32 (x4 + x6)), (0, w32 (x5 * 2)), (0, w32 (x6 * 2))] [] h)) := by
  refine s_iload (pc1 := 48) (tk (n := 28) t93_0 rfl) rfl rfl rfl ?_
  refine s_iload_n (pc1 := 49) (tk (n := 29) t93_0 rfl) rfl rfl rfl ?_
  refine s_ic_ge (pc1 := 52) (pt := 76) (tk (n := 0) t93_1 rfl) rfl rfl rfl ?_ ?_
  · refine s_iload (pc1 := 78) (tk (n := 15) t93_1 rfl) rfl rfl rfl ?_
    refine s_iconst (pc1 := 79) (tk (n := 16) t93_1 rfl) rfl rfl  ?_
    refine s_imul (pc1 := 80) (tk (n := 17) t93_1 rfl) rfl rfl  ?_
    refine s_istore (pc1 := 82) (ls1 := [(0, x0), (0, x1), (0, x2), (0, x3), (0, x4), (0, x5), (0, w32 (x6 * 2))]) (tk (n := 18) t93_1 rfl) rfl rfl rfl rfl ?_
    refine s_goto (pc1 := 11) (tk (n := 19) t93_1 rfl) rfl rfl ?_
    rfl
  · refine s_iload (pc1 := 54) (tk (n := 1) t93_1 rfl) rfl rfl rfl ?_
    refine s_iload_n (pc1 := 55) (tk (n := 2) t93_1 rfl) rfl rfl rfl ?_
    refine s_iload (pc1 := 57) (tk (n := 3) t93_1 rfl) rfl rfl rfl ?_
    refine s_iand (pc1 := 58) (tk (n := 4) t93_1 rfl) rfl rfl  ?_
    refine s_if_eq (pc1 := 61) (pt := 66) (tk (n := 5) t93_1 rfl) rfl rfl rfl ?_ ?_
    · refine s_iconst (pc1 := 67) (tk (n := 8) t93_1 rfl) rfl rfl  ?_
      refine s_iadd (pc1 := 68) (tk (n := 9) t93_1 rfl) rfl rfl  ?_
      refine s_istore (pc1 := 70) (ls1 := [(0, x0), (0, x1), (0, x2), (0, x3), (0, w32 (x4 + 0)), (0, x5), (0, x6)]) (tk (n := 10) t93_1 rfl) rfl rfl rfl rfl ?_
      refine s_iload (pc1 := 72) (tk (n := 11) t93_1 rfl) rfl rfl rfl ?_
      refine s_iconst (pc1 := 73) (tk (n := 12) t93_1 rfl) rfl rfl  ?_
      refine s_imul (pc1 := 74) (tk (n := 13) t93_1 rfl) rfl rfl  ?_
      refine s_istore (pc1 := 76) (ls1 := [(0, x0), (0, x1), (0, x2), (0, x3), (0, w32 (x4 + 0)), (0, w32 (x5 * 2)), (0, x6)]) (tk (n := 14) t93_1 rfl) rfl rfl rfl rfl ?_
      refine s_iload (pc1 := 78) (tk (n := 15) t93_1 rfl) rfl rfl rfl ?_
      refine s_iconst (pc1 := 79) (tk (n := 16) t93_1 rfl) rfl rfl  ?_
      refine s_imul (pc1 := 80) (tk (n := 17) t93_1 rfl) rfl rfl  ?_
      refine s_istore (pc1 := 82) (ls1 := [(0, x0), (0, x1), (0, x2), (0, x3), (0, w32 (x4 + 0)), (0, w32 (x5 * 2)), (0, w32 (x6 * 2))]) (tk (n := 18) t93_1 rfl) rfl rfl rfl rfl ?_
      refine s_goto (pc1 := 11) (tk (n := 19) t93_1 rfl) rfl rfl ?_
      rfl
    · refine s_iload (pc1 := 63) (tk (n := 6) t93_1 rfl) rfl rfl rfl ?_
      refine s_goto (pc1 := 67) (tk (n := 7) t93_1 rfl) rfl rfl ?_
      refine s_iadd (pc1 := 68) (tk (n := 9) t93_1 rfl) rfl rfl  ?_
      refine s_istore (pc1 := 70) (ls1 := [(0, x0), (0, x1), (0, x2), (0, x3), (0, w32 (x4 + x6)), (0, x5), (0, x6)]) (tk (n := 10) t93_1 rfl) rfl rfl rfl rfl ?_
      refine s_iload (pc1 := 72) (tk (n := 11) t93_1 rfl) rfl rfl rfl ?_
      refine s_iconst (pc1 := 73) (tk (n := 12) t93_1 rfl) rfl rfl  ?_
      refine s_imul (pc1 := 74) (tk (n := 13) t93_1 rfl) rfl rfl  ?_
      refine s_istore (pc1 := 76) (ls1 := [(0, x0), (0, x1), (0, x2), (0, x3), (0, w32 (x4 + x6)), (0, w32 (x5 * 2)), (0, x6)]) (tk (n := 14) t93_1 rfl) rfl rfl rfl rfl ?_
      refine s_iload (pc1 := 78) (tk (n := 15) t93_1 rfl) rfl rfl rfl ?_
      refine s_iconst (pc1 := 79) (tk (n := 16) t93_1 rfl) rfl rfl  ?_
      refine s_imul (pc1 := 80) (tk (n := 17) t93_1 rfl) rfl rfl  ?_
      refine s_istore (pc1 := 82) (ls1 := [(0, x0), (0, x1), (0, x2), (0, x3), (0, w32 (x4 + x6)), (0, w32 (x5 * 2)), (0, w32 (x6 * 2))]) (tk (n := 18) t93_1 rfl) rfl rfl rfl rfl ?_
      refine s_goto (pc1 := 11) (tk (n := 19) t93_1 rfl) rfl rfl ?_
      rfl
set_option maxRecDepth 100000 in
set_option maxHeartbeats 4000000 in
theorem e_X10_placeOf (x0 : Int) (x1 : Int) (x2 : Int) (x3 : Int) (h : Hq) : vm 94 [(2, x0), (0, x1), (0, x2), (0, x3)] h = if 0 < x0 ∧ (kd x0).1 = 10 then if (kd (h.2 x0 0)).1 = 20 ∧ 0 ≤ x1 ∧ x1 < (kd (h.2 x0 0)).2 then if 0 < x0 ∧ (kd x0).1 = 10 then if 0 < x0 ∧ (kd x0).1 = 10 then (vm 89 [(2, x0), (0, x1), (0, x2), (0, x3), (0, h.2 x0 10)] h).bind (fun r11 => some (some (0, w32 ((h.2 (h.2 x0 0) x1) + (vx r11))), r11.2)) else none else none else none else none := by
  show vp 94 0 [(2, x0), (0, x1), (0, x2), (0, x3)] [] h = _
  refine s_aload_n (pc1 := 1) (tk (n := 0) t94_0 rfl) rfl rfl rfl ?_
  refine s_getf (pc1 := 4) (c := 10) (t1 := 2) (tk (n := 1) t94_0 rfl) rfl rfl (by decide) rfl rfl ?_
  refine s_iload_n (pc1 := 5) (tk (n := 2) t94_0 rfl) rfl rfl rfl ?_
  refine s_iald (pc1 := 6) (tk (n := 3) t94_0 rfl) rfl rfl  ?_
  refine s_aload_n (pc1 := 7) (tk (n := 4) t94_0 rfl) rfl rfl rfl ?_
  refine s_iload_n (pc1 := 8) (tk (n := 5) t94_0 rfl) rfl rfl rfl ?_
  refine s_iload_n (pc1 := 9) (tk (n := 6) t94_0 rfl) rfl rfl rfl ?_
  refine s_iload_n (pc1 := 10) (tk (n := 7) t94_0 rfl) rfl rfl rfl ?_
  refine s_aload_n (pc1 := 11) (tk (n := 8) t94_0 rfl) rfl rfl rfl ?_
  refine s_getf (pc1 := 14) (c := 10) (t1 := 0) (tk (n := 9) t94_0 rfl) rfl rfl (by decide) rfl rfl ?_
  refine s_call0 (as := [(2, x0), (0, x1), (0, x2), (0, x3), (0, h.2 x0 10)]) (st1 := [(0, h.2 (h.2 x0 0) x1)]) (p1 := 17) (M2 := 89) (tk (n := 10) t94_0 rfl) rfl rfl rfl rfl rfl (fun r11 => ?_)
  refine s_iadd (pc1 := 18) (tk (n := 11) t94_0 rfl) rfl rfl  ?_
  exact s_ret (tk (n := 12) t94_0 rfl) rfl rfl rfl
set_option maxRecDepth 100000 in
set_option maxHeartbeats 4000000 in
theorem e_X10_numberOf (x0 : Int) (x1 : Int) (x2 : Int) (x3 : Int) (h : Hq) : vm 95 [(2, x0), (0, x1), (0, x2), (0, x3)] h = if 0 < x0 ∧ (kd x0).1 = 10 then if 0 < x0 ∧ (kd x0).1 = 10 then if (kd (h.2 x0 0)).1 = 20 ∧ 0 ≤ x1 ∧ x1 < (kd (h.2 x0 0)).2 then if 0 < x0 ∧ (kd x0).1 = 10 then if 0 < x0 ∧ (kd x0).1 = 10 then (vm 89 [(2, x0), (0, x1), (0, x2), (0, x3), (0, h.2 x0 10)] h).bind (fun r13 => if (kd (h.2 x0 6)).1 = 20 ∧ 0 ≤ (w32 ((h.2 (h.2 x0 0) x1) + (vx r13))) ∧ (w32 ((h.2 (h.2 x0 0) x1) + (vx r13))) < (kd (h.2 x0 6)).2 then some (some (0, r13.2.2 (h.2 x0 6) (w32 ((h.2 (h.2 x0 0) x1) + (vx r13)))), r13.2) else none) else none else none else none else none else none := by
  show vp 95 0 [(2, x0), (0, x1), (0, x2), (0, x3)] [] h = _
  refine s_aload_n (pc1 := 1) (tk (n := 0) t95_0 rfl) rfl rfl rfl ?_
  refine s_getf (pc1 := 4) (c := 10) (t1 := 2) (tk (n := 1) t95_0 rfl) rfl rfl (by decide) rfl rfl ?_
  refine s_aload_n (pc1 := 5) (tk (n := 2) t95_0 rfl) rfl rfl rfl ?_
  refine s_getf (pc1 := 8) (c := 10) (t1 := 2) (tk (n := 3) t95_0 rfl) rfl rfl (by decide) rfl rfl ?_
  refine s_iload_n (pc1 := 9) (tk (n := 4) t95_0 rfl) rfl rfl rfl ?_
  refine s_iald (pc1 := 10) (tk (n := 5) t95_0 rfl) rfl rfl  ?_
  refine s_aload_n (pc1 := 11) (tk (n := 6) t95_0 rfl) rfl rfl rfl ?_
  refine s_iload_n (pc1 := 12) (tk (n := 7) t95_0 rfl) rfl rfl rfl ?_
  refine s_iload_n (pc1 := 13) (tk (n := 8) t95_0 rfl) rfl rfl rfl ?_
  refine s_iload_n (pc1 := 14) (tk (n := 9) t95_0 rfl) rfl rfl rfl ?_
  refine s_aload_n (pc1 := 15) (tk (n := 10) t95_0 rfl) rfl rfl rfl ?_
  refine s_getf (pc1 := 18) (c := 10) (t1 := 0) (tk (n := 11) t95_0 rfl) rfl rfl (by decide) rfl rfl ?_
  refine s_call0 (as := [(2, x0), (0, x1), (0, x2), (0, x3), (0, h.2 x0 10)]) (st1 := [(0, h.2 (h.2 x0 0) x1), (2, h.2 x0 6)]) (p1 := 21) (M2 := 89) (tk (n := 12) t95_0 rfl) rfl rfl rfl rfl rfl (fun r13 => ?_)
  refine s_iadd (pc1 := 22) (tk (n := 13) t95_0 rfl) rfl rfl  ?_
  refine s_iald (pc1 := 23) (tk (n := 14) t95_0 rfl) rfl rfl  ?_
  exact s_ret (tk (n := 15) t95_0 rfl) rfl rfl rfl
set_option maxRecDepth 100000 in
set_option maxHeartbeats 4000000 in
theorem e_X10_wrappedNumber (x0 : Int) (x1 : Int) (x2 : Int) (x3 : Int) (h : Hq) : vm 96 [(2, x0), (0, x1), (0, x2), (0, x3)] h = if 0 < x0 ∧ (kd x0).1 = 10 then if (kd (h.2 x0 1)).1 = 20 ∧ 0 ≤ x1 ∧ x1 < (kd (h.2 x0 1)).2 then if 0 < x0 ∧ (kd x0).1 = 10 then (vm 97 [(2, x0), (0, x2), (0, h.2 (h.2 x0 1) x1)] h).bind (fun r9 => if 0 < x0 ∧ (kd x0).1 = 10 then if (kd (r9.2.2 x0 2)).1 = 20 ∧ 0 ≤ x1 ∧ x1 < (kd (r9.2.2 x0 2)).2 then if 0 < x0 ∧ (kd x0).1 = 10 then (vm 97 [(2, x0), (0, x3), (0, r9.2.2 (r9.2.2 x0 2) x1)] r9.2).bind (fun r16 => if 0 < x0 ∧ (kd x0).1 = 10 then (vm 95 [(2, x0), (0, x1), (0, vx r9), (0, vx r16)] r16.2).bind (fun r17 => some (some (0, vx r17), r17.2)) else none) else none else none else none) else none else none else none := by
  show vp 96 0 [(2, x0), (0, x1), (0, x2), (0, x3)] [] h = _
  refine s_aload_n (pc1 := 1) (tk (n := 0) t96_0 rfl) rfl rfl rfl ?_
  refine s_iload_n (pc1 := 2) (tk (n := 1) t96_0 rfl) rfl rfl rfl ?_
  refine s_aload_n (pc1 := 3) (tk (n := 2) t96_0 rfl) rfl rfl rfl ?_
  refine s_iload_n (pc1 := 4) (tk (n := 3) t96_0 rfl) rfl rfl rfl ?_
  refine s_aload_n (pc1 := 5) (tk (n := 4) t96_0 rfl) rfl rfl rfl ?_
  refine s_getf (pc1 := 8) (c := 10) (t1 := 2) (tk (n := 5) t96_0 rfl) rfl rfl (by decide) rfl rfl ?_
  refine s_iload_n (pc1 := 9) (tk (n := 6) t96_0 rfl) rfl rfl rfl ?_
  refine s_iald (pc1 := 10) (tk (n := 7) t96_0 rfl) rfl rfl  ?_
  refine s_call0 (as := [(2, x0), (0, x2), (0, h.2 (h.2 x0 1) x1)]) (st1 := [(0, x1), (2, x0)]) (p1 := 13) (M2 := 97) (tk (n := 8) t96_0 rfl) rfl rfl rfl rfl rfl (fun r9 => ?_)
  refine s_aload_n (pc1 := 14) (tk (n := 9) t96_0 rfl) rfl rfl rfl ?_
  refine s_iload_n (pc1 := 15) (tk (n := 10) t96_0 rfl) rfl rfl rfl ?_
  refine s_aload_n (pc1 := 16) (tk (n := 11) t96_0 rfl) rfl rfl rfl ?_
  refine s_getf (pc1 := 19) (c := 10) (t1 := 2) (tk (n := 12) t96_0 rfl) rfl rfl (by decide) rfl rfl ?_
  refine s_iload_n (pc1 := 20) (tk (n := 13) t96_0 rfl) rfl rfl rfl ?_
  refine s_iald (pc1 := 21) (tk (n := 14) t96_0 rfl) rfl rfl  ?_
  refine s_call0 (as := [(2, x0), (0, x3), (0, r9.2.2 (r9.2.2 x0 2) x1)]) (st1 := [(0, vx r9), (0, x1), (2, x0)]) (p1 := 24) (M2 := 97) (tk (n := 15) t96_0 rfl) rfl rfl rfl rfl rfl (fun r16 => ?_)
  refine s_call0 (as := [(2, x0), (0, x1), (0, vx r9), (0, vx r16)]) (st1 := []) (p1 := 27) (M2 := 95) (tk (n := 16) t96_0 rfl) rfl rfl rfl rfl rfl (fun r17 => ?_)
  exact s_ret (tk (n := 17) t96_0 rfl) rfl rfl rfl
set_option maxRecDepth 100000 in
set_option maxHeartbeats 4000000 in
theorem e_X10_wrapped (x0 : Int) (x1 : Int) (x2 : Int) (h : Hq) : vm 97 [(2, x0), (0, x1), (0, x2)] h = if 0 < x0 ∧ (kd x0).1 = 10 then if (h.2 x0 11) ≠ 1 then (if 0 < x0 ∧ (kd x0).1 = 10 then if (h.2 x0 11) ≠ 0 then ((vm 310 [(0, x1), (0, w32 (2 * x2))] h).bind (fun r12 => if (vx r12) ≥ x2 then (some (some (0, w32 ((w32 ((w32 (2 * x2)) - 1)) - (vx r12))), r12.2)) else (some (some (0, vx r12), r12.2)))) else ((vm 310 [(0, x1), (0, x2)] h).bind (fun r10 => some (some (0, vx r10), r10.2))) else none) else ((vm 314 [(0, x1), (0, w32 (x2 - 1))] h).bind (fun r10 => (vm 313 [(0, 0), (0, vx r10)] r10.2).bind (fun r11 => some (some (0, vx r11), r11.2)))) else none := by
  show vp 97 0 [(2, x0), (0, x1), (0, x2), (9, 0)] [] h = _
  refine s_aload_n (pc1 := 1) (tk (n := 0) t97_0 rfl) rfl rfl rfl ?_
  refine s_getf (pc1 := 4) (c := 10) (t1 := 0) (tk (n := 1) t97_0 rfl) rfl rfl (by decide) rfl rfl ?_
  refine s_iconst (pc1 := 5) (tk (n := 2) t97_0 rfl) rfl rfl  ?_
  refine s_ic_ne (pc1 := 8) (pt := 20) (tk (n := 3) t97_0 rfl) rfl rfl rfl ?_ ?_
  · refine s_aload_n (pc1 := 21) (tk (n := 12) t97_0 rfl) rfl rfl rfl ?_
    refine s_getf (pc1 := 24) (c := 10) (t1 := 0) (tk (n := 13) t97_0 rfl) rfl rfl (by decide) rfl rfl ?_
    refine s_if_ne (pc1 := 27) (pt := 33) (tk (n := 14) t97_0 rfl) rfl rfl rfl ?_ ?_
    · refine s_iload_n (pc1 := 34) (tk (n := 19) t97_0 rfl) rfl rfl rfl ?_
      refine s_iconst (pc1 := 35) (tk (n := 20) t97_0 rfl) rfl rfl  ?_
      refine s_iload_n (pc1 := 36) (tk (n := 21) t97_0 rfl) rfl rfl rfl ?_
      refine s_imul (pc1 := 37) (tk (n := 22) t97_0 rfl) rfl rfl  ?_
      refine s_callS0 (as := [(0, x1), (0, w32 (2 * x2))]) (st1 := []) (p1 := 40) (M2 := 310) (tk (n := 23) t97_0 rfl) rfl rfl rfl rfl rfl (fun r12 => ?_)
      refine s_istore_n (pc1 := 41) (ls1 := [(2, x0), (0, x1), (0, x2), (0, vx r12)]) (tk (n := 24) t97_0 rfl) rfl rfl rfl rfl ?_
      refine s_iload_n (pc1 := 42) (tk (n := 25) t97_0 rfl) rfl rfl rfl ?_
      refine s_iload_n (pc1 := 43) (tk (n := 26) t97_0 rfl) rfl rfl rfl ?_
      refine s_ic_ge (pc1 := 46) (pt := 50) (tk (n := 27) t97_0 rfl) rfl rfl rfl ?_ ?_
      · refine s_iconst (pc1 := 51) (tk (n := 0) t97_1 rfl) rfl rfl  ?_
        refine s_iload_n (pc1 := 52) (tk (n := 1) t97_1 rfl) rfl rfl rfl ?_
        refine s_imul (pc1 := 53) (tk (n := 2) t97_1 rfl) rfl rfl  ?_
        refine s_iconst (pc1 := 54) (tk (n := 3) t97_1 rfl) rfl rfl  ?_
        refine s_isub (pc1 := 55) (tk (n := 4) t97_1 rfl) rfl rfl  ?_
        refine s_iload_n (pc1 := 56) (tk (n := 5) t97_1 rfl) rfl rfl rfl ?_
        refine s_isub (pc1 := 57) (tk (n := 6) t97_1 rfl) rfl rfl  ?_
        exact s_ret (tk (n := 7) t97_1 rfl) rfl rfl rfl
      · refine s_iload_n (pc1 := 47) (tk (n := 28) t97_0 rfl) rfl rfl rfl ?_
        refine s_goto (pc1 := 57) (tk (n := 29) t97_0 rfl) rfl rfl ?_
        exact s_ret (tk (n := 7) t97_1 rfl) rfl rfl rfl
    · refine s_iload_n (pc1 := 28) (tk (n := 15) t97_0 rfl) rfl rfl rfl ?_
      refine s_iload_n (pc1 := 29) (tk (n := 16) t97_0 rfl) rfl rfl rfl ?_
      refine s_callS0 (as := [(0, x1), (0, x2)]) (st1 := []) (p1 := 32) (M2 := 310) (tk (n := 17) t97_0 rfl) rfl rfl rfl rfl rfl (fun r10 => ?_)
      exact s_ret (tk (n := 18) t97_0 rfl) rfl rfl rfl
  · refine s_iconst (pc1 := 9) (tk (n := 4) t97_0 rfl) rfl rfl  ?_
    refine s_iload_n (pc1 := 10) (tk (n := 5) t97_0 rfl) rfl rfl rfl ?_
    refine s_iload_n (pc1 := 11) (tk (n := 6) t97_0 rfl) rfl rfl rfl ?_
    refine s_iconst (pc1 := 12) (tk (n := 7) t97_0 rfl) rfl rfl  ?_
    refine s_isub (pc1 := 13) (tk (n := 8) t97_0 rfl) rfl rfl  ?_
    refine s_callS0 (as := [(0, x1), (0, w32 (x2 - 1))]) (st1 := [(0, 0)]) (p1 := 16) (M2 := 314) (tk (n := 9) t97_0 rfl) rfl rfl rfl rfl rfl (fun r10 => ?_)
    refine s_callS0 (as := [(0, 0), (0, vx r10)]) (st1 := []) (p1 := 19) (M2 := 313) (tk (n := 10) t97_0 rfl) rfl rfl rfl rfl rfl (fun r11 => ?_)
    exact s_ret (tk (n := 11) t97_0 rfl) rfl rfl rfl
set_option maxRecDepth 100000 in
set_option maxHeartbeats 4000000 in
theorem e_X10_set (x0 : Int) (x1 : Int) (x2 : Int) (x3 : Int) (x4 : Int) (h : Hq) : vm 98 [(2, x0), (0, x1), (0, x2), (0, x3), (0, x4)] h = if 0 < x0 ∧ (kd x0).1 = 10 then if 0 < x0 ∧ (kd x0).1 = 10 then if (kd (h.2 x0 0)).1 = 20 ∧ 0 ≤ x1 ∧ x1 < (kd (h.2 x0 0)).2 then if 0 < x0 ∧ (kd x0).1 = 10 then if 0 < x0 ∧ (kd x0).1 = 10 then (vm 89 [(2, x0), (0, x1), (0, x2), (0, x3), (0, h.2 x0 10)] h).bind (fun r13 => if 0 < x0 ∧ (kd x0).1 = 10 then (vm 44 [(0, r13.2.2 x0 5), (0, x4)] r13.2).bind (fun r18 => if 0 < (h.2 x0 6) ∧ (kd (h.2 x0 6)).1 = 20 ∧ 0 ≤ (w32 ((h.2 (h.2 x0 0) x1) + (vx r13))) ∧ (w32 ((h.2 (h.2 x0 0) x1) + (vx r13))) < (kd (h.2 x0 6)).2 then some (none, (r18.2.1, stm r18.2.2 (h.2 x0 6) (w32 ((h.2 (h.2 x0 0) x1) + (vx r13))) (vx r18))) else none) else none) else none else none else none else none else none := by
  show vp 98 0 [(2, x0), (0, x1), (0, x2), (0, x3), (0, x4)] [] h = _
  refine s_aload_n (pc1 := 1) (tk (n := 0) t98_0 rfl) rfl rfl rfl ?_
  refine s_getf (pc1 := 4) (c := 10) (t1 := 2) (tk (n := 1) t98_0 rfl) rfl rfl (by decide) rfl rfl ?_
  refine s_aload_n (pc1 := 5) (tk (n := 2) t98_0 rfl) rfl rfl rfl ?_
  refine s_getf (pc1 := 8) (c := 10) (t1 := 2) (tk (n := 3) t98_0 rfl) rfl rfl (by decide) rfl rfl ?_
  refine s_iload_n (pc1 := 9) (tk (n := 4) t98_0 rfl) rfl rfl rfl ?_
  refine s_iald (pc1 := 10) (tk (n := 5) t98_0 rfl) rfl rfl  ?_
  refine s_aload_n (pc1 := 11) (tk (n := 6) t98_0 rfl) rfl rfl rfl ?_
  refine s_iload_n (pc1 := 12) (tk (n := 7) t98_0 rfl) rfl rfl rfl ?_
  refine s_iload_n (pc1 := 13) (tk (n := 8) t98_0 rfl) rfl rfl rfl ?_
  refine s_iload_n (pc1 := 14) (tk (n := 9) t98_0 rfl) rfl rfl rfl ?_
  refine s_aload_n (pc1 := 15) (tk (n := 10) t98_0 rfl) rfl rfl rfl ?_
  refine s_getf (pc1 := 18) (c := 10) (t1 := 0) (tk (n := 11) t98_0 rfl) rfl rfl (by decide) rfl rfl ?_
  refine s_call0 (as := [(2, x0), (0, x1), (0, x2), (0, x3), (0, h.2 x0 10)]) (st1 := [(0, h.2 (h.2 x0 0) x1), (2, h.2 x0 6)]) (p1 := 21) (M2 := 89) (tk (n := 12) t98_0 rfl) rfl rfl rfl rfl rfl (fun r13 => ?_)
  refine s_iadd (pc1 := 22) (tk (n := 13) t98_0 rfl) rfl rfl  ?_
  refine s_aload_n (pc1 := 23) (tk (n := 14) t98_0 rfl) rfl rfl rfl ?_
  refine s_getf (pc1 := 26) (c := 10) (t1 := 0) (tk (n := 15) t98_0 rfl) rfl rfl (by decide) rfl rfl ?_
  refine s_iload (pc1 := 28) (tk (n := 16) t98_0 rfl) rfl rfl rfl ?_
  refine s_callS0 (as := [(0, r13.2.2 x0 5), (0, x4)]) (st1 := [(0, w32 ((h.2 (h.2 x0 0) x1) + (vx r13))), (2, h.2 x0 6)]) (p1 := 31) (M2 := 44) (tk (n := 17) t98_0 rfl) rfl rfl rfl rfl rfl (fun r18 => ?_)
  refine s_iast (pc1 := 32) (tk (n := 18) t98_0 rfl) rfl rfl  ?_
  exact s_ret (tk (n := 19) t98_0 rfl) rfl rfl rfl
set_option maxRecDepth 100000 in
set_option maxHeartbeats 4000000 in
theorem e_X10_pour (x0 : Int) (x1 : Int) (x2 : Int) (x3 : Int) (h : Hq) : vm 99 [(2, x0), (0, x1), (0, x2), (0, x3)] h = vp 99 3 [(2, x0), (0, x1), (0, x2), (0, x3), (0, 0), (9, 0)] [] h := by
  show vp 99 0 [(2, x0), (0, x1), (0, x2), (0, x3), (9, 0), (9, 0)] [] h = _
  refine s_iconst (pc1 := 1) (tk (n := 0) t99_0 rfl) rfl rfl  ?_
  refine s_istore (pc1 := 3) (ls1 := [(2, x0), (0, x1), (0, x2), (0, x3), (0, 0), (9, 0)]) (tk (n := 1) t99_0 rfl) rfl rfl rfl rfl ?_
  rfl
set_option maxRecDepth 100000 in
set_option maxHeartbeats 4000000 in
theorem e_X10_pour_3 (x0 : Int) (x1 : Int) (x2 : Int) (x3 : Int) (x4 : Int) (z5 : Vl) (h : Hq) : vp 99 3 [(2, x0), (0, x1), (0, x2), (0, x3), (0, x4), z5] [] h = if 0 < x0 ∧ (kd x0).1 = 10 then if x4 ≥ (h.2 x0 8) then (if 0 < x0 ∧ (kd x0).1 = 10 then (vm 100 [(2, x0)] h).bind (fun r6 => some (none, r6.2)) else none) else (vp 99 15 [(2, x0), (0, x1), (0, x2), (0, x3), (0, x4), (0, 0)] [] h) else none := by
  refine s_fg (ls1 := [(2, x0), (0, x1), (0, x2), (0, x3), (0, x4), (9, 0)]) (tk (n := 2) t99_0 rfl) rfl ?_
  refine s_iload (pc1 := 5) (tk (n := 2) t99_0 rfl) rfl rfl rfl ?_
  refine s_aload_n (pc1 := 6) (tk (n := 3) t99_0 rfl) rfl rfl rfl ?_
  refine s_getf (pc1 := 9) (c := 10) (t1 := 0) (tk (n := 4) t99_0 rfl) rfl rfl (by decide) rfl rfl ?_
  refine s_ic_ge (pc1 := 12) (pt := 56) (tk (n := 5) t99_0 rfl) rfl rfl rfl ?_ ?_
  · refine s_aload_n (pc1 := 57) (tk (n := 0) t99_1 rfl) rfl rfl rfl ?_
    refine s_call9 (as := [(2, x0)]) (st1 := []) (p1 := 60) (M2 := 100) (tk (n := 1) t99_1 rfl) rfl rfl rfl rfl rfl (fun r6 => ?_)
    exact s_ret (tk (n := 2) t99_1 rfl) rfl rfl rfl
  · refine s_iconst (pc1 := 13) (tk (n := 6) t99_0 rfl) rfl rfl  ?_
    refine s_istore (pc1 := 15) (ls1 := [(2, x0), (0, x1), (0, x2), (0, x3), (0, x4), (0, 0)]) (tk (n := 7) t99_0 rfl) rfl rfl rfl rfl ?_
    rfl
set_option maxRecDepth 100000 in
set_option maxHeartbeats 4000000 in
theorem e_X10_pour_15 (x0 : Int) (x1 : Int) (x2 : Int) (x3 : Int) (x4 : Int) (x5 : Int) (h : Hq) : vp 99 15 [(2, x0), (0, x1), (0, x2), (0, x3), (0, x4), (0, x5)] [] h = if 0 < x0 ∧ (kd x0).1 = 10 then if x5 ≥ (h.2 x0 7) then (vp 99 3 [(2, x0), (0, x1), (0, x2), (0, x3), (0, w32 (x4 + 1)), (0, x5)] [] h) else (if 0 < x0 ∧ (kd x0).1 = 10 then (vm 98 [(2, x0), (0, 0), (0, x5), (0, x4), (0, w32 ((w32 ((w32 (x1 * x5)) + (w32 (x2 * x4)))) + x3))] h).bind (fun r18 => vp 99 15 [(2, x0), (0, x1), (0, x2), (0, x3), (0, x4), (0, w32 (x5 + 1))] [] r18.2) else none) else none := by
  refine s_iload (pc1 := 17) (tk (n := 8) t99_0 rfl) rfl rfl rfl ?_
  refine s_aload_n (pc1 := 18) (tk (n := 9) t99_0 rfl) rfl rfl rfl ?_
  refine s_getf (pc1 := 21) (c := 10) (t1 := 0) (tk (n := 10) t99_0 rfl) rfl rfl (by decide) rfl rfl ?_
  refine s_ic_ge (pc1 := 24) (pt := 50) (tk (n := 11) t99_0 rfl) rfl rfl rfl ?_ ?_
  · refine s_iinc (pc1 := 53) (ls1 := [(2, x0), (0, x1), (0, x2), (0, x3), (0, w32 (x4 + 1)), (0, x5)]) (tk (n := 28) t99_0 rfl) rfl rfl rfl rfl ?_
    refine s_goto (pc1 := 3) (tk (n := 29) t99_0 rfl) rfl rfl ?_
    rfl
  · refine s_aload_n (pc1 := 25) (tk (n := 12) t99_0 rfl) rfl rfl rfl ?_
    refine s_iconst (pc1 := 26) (tk (n := 13) t99_0 rfl) rfl rfl  ?_
    refine s_iload (pc1 := 28) (tk (n := 14) t99_0 rfl) rfl rfl rfl ?_
    refine s_iload (pc1 := 30) (tk (n := 15) t99_0 rfl) rfl rfl rfl ?_
    refine s_iload_n (pc1 := 31) (tk (n := 16) t99_0 rfl) rfl rfl rfl ?_
    refine s_iload (pc1 := 33) (tk (n := 17) t99_0 rfl) rfl rfl rfl ?_
    refine s_imul (pc1 := 34) (tk (n := 18) t99_0 rfl) rfl rfl  ?_
    refine s_iload_n (pc1 := 35) (tk (n := 19) t99_0 rfl) rfl rfl rfl ?_
    refine s_iload (pc1 := 37) (tk (n := 20) t99_0 rfl) rfl rfl rfl ?_
    refine s_imul (pc1 := 38) (tk (n := 21) t99_0 rfl) rfl rfl  ?_
    refine s_iadd (pc1 := 39) (tk (n := 22) t99_0 rfl) rfl rfl  ?_
    refine s_iload_n (pc1 := 40) (tk (n := 23) t99_0 rfl) rfl rfl rfl ?_
    refine s_iadd (pc1 := 41) (tk (n := 24) t99_0 rfl) rfl rfl  ?_
    refine s_call9 (as := [(2, x0), (0, 0), (0, x5), (0, x4), (0, w32 ((w32 ((w32 (x1 * x5)) + (w32 (x2 * x4)))) + x3))]) (st1 := []) (p1 := 44) (M2 := 98) (tk (n := 25) t99_0 rfl) rfl rfl rfl rfl rfl (fun r18 => ?_)
    refine s_iinc (pc1 := 47) (ls1 := [(2, x0), (0, x1), (0, x2), (0, x3), (0, x4), (0, w32 (x5 + 1))]) (tk (n := 26) t99_0 rfl) rfl rfl rfl rfl ?_
    refine s_goto (pc1 := 15) (tk (n := 27) t99_0 rfl) rfl rfl ?_
    rfl
set_option maxRecDepth 100000 in
set_option maxHeartbeats 4000000 in
theorem e_X10_remake (x0 : Int) (h : Hq) : vm 100 [(2, x0)] h = vp 100 2 [(2, x0), (0, 1), (9, 0), (9, 0)] [] h := by
  show vp 100 0 [(2, x0), (9, 0), (9, 0), (9, 0)] [] h = _
  refine s_iconst (pc1 := 1) (tk (n := 0) t100_0 rfl) rfl rfl  ?_
  refine s_istore_n (pc1 := 2) (ls1 := [(2, x0), (0, 1), (9, 0), (9, 0)]) (tk (n := 1) t100_0 rfl) rfl rfl rfl rfl ?_
  rfl
set_option maxRecDepth 100000 in
set_option maxHeartbeats 4000000 in
theorem e_X10_remake_2 (x0 : Int) (x1 : Int) (z2 : Vl) (z3 : Vl) (h : Hq) : vp 100 2 [(2, x0), (0, x1), z2, z3] [] h = if 0 < x0 ∧ (kd x0).1 = 10 then if x1 ≥ (h.2 x0 9) then (some (none, h)) else (vp 100 12 [(2, x0), (0, x1), (0, 0), (9, 0)] [] h) else none := by
  refine s_fg (ls1 := [(2, x0), (0, x1), (9, 0), (9, 0)]) (tk (n := 2) t100_0 rfl) rfl ?_
  refine s_iload_n (pc1 := 3) (tk (n := 2) t100_0 rfl) rfl rfl rfl ?_
  refine s_aload_n (pc1 := 4) (tk (n := 3) t100_0 rfl) rfl rfl rfl ?_
  refine s_getf (pc1 := 7) (c := 10) (t1 := 0) (tk (n := 4) t100_0 rfl) rfl rfl (by decide) rfl rfl ?_
  refine s_ic_ge (pc1 := 10) (pt := 66) (tk (n := 5) t100_0 rfl) rfl rfl rfl ?_ ?_
  · exact s_ret (tk (n := 8) t100_1 rfl) rfl rfl rfl
  · refine s_iconst (pc1 := 11) (tk (n := 6) t100_0 rfl) rfl rfl  ?_
    refine s_istore_n (pc1 := 12) (ls1 := [(2, x0), (0, x1), (0, 0), (9, 0)]) (tk (n := 7) t100_0 rfl) rfl rfl rfl rfl ?_
    rfl
set_option maxRecDepth 100000 in
set_option maxHeartbeats 4000000 in
theorem e_X10_remake_12 (x0 : Int) (x1 : Int) (x2 : Int) (z3 : Vl) (h : Hq) : vp 100 12 [(2, x0), (0, x1), (0, x2), z3] [] h = if 0 < x0 ∧ (kd x0).1 = 10 then if (kd (h.2 x0 2)).1 = 20 ∧ 0 ≤ x1 ∧ x1 < (kd (h.2 x0 2)).2 then if x2 ≥ (h.2 (h.2 x0 2) x1) then (vp 100 2 [(2, x0), (0, w32 (x1 + 1)), (0, x2), (9, 0)] [] h) else (vp 100 24 [(2, x0), (0, x1), (0, x2), (0, 0)] [] h) else none else none := by
  refine s_fg (ls1 := [(2, x0), (0, x1), (0, x2), (9, 0)]) (tk (n := 8) t100_0 rfl) rfl ?_
  refine s_iload_n (pc1 := 13) (tk (n := 8) t100_0 rfl) rfl rfl rfl ?_
  refine s_aload_n (pc1 := 14) (tk (n := 9) t100_0 rfl) rfl rfl rfl ?_
  refine s_getf (pc1 := 17) (c := 10) (t1 := 2) (tk (n := 10) t100_0 rfl) rfl rfl (by decide) rfl rfl ?_
  refine s_iload_n (pc1 := 18) (tk (n := 11) t100_0 rfl) rfl rfl rfl ?_
  refine s_iald (pc1 := 19) (tk (n := 12) t100_0 rfl) rfl rfl  ?_
  refine s_ic_ge (pc1 := 22) (pt := 60) (tk (n := 13) t100_0 rfl) rfl rfl rfl ?_ ?_
  · refine s_iinc (pc1 := 63) (ls1 := [(2, x0), (0, w32 (x1 + 1)), (0, x2), (9, 0)]) (tk (n := 6) t100_1 rfl) rfl rfl rfl rfl ?_
    refine s_goto (pc1 := 2) (tk (n := 7) t100_1 rfl) rfl rfl ?_
    rfl
  · refine s_iconst (pc1 := 23) (tk (n := 14) t100_0 rfl) rfl rfl  ?_
    refine s_istore_n (pc1 := 24) (ls1 := [(2, x0), (0, x1), (0, x2), (0, 0)]) (tk (n := 15) t100_0 rfl) rfl rfl rfl rfl ?_
    rfl
set_option maxRecDepth 100000 in
set_option maxHeartbeats 4000000 in
theorem e_X10_remake_24 (x0 : Int) (x1 : Int) (x2 : Int) (x3 : Int) (h : Hq) : vp 100 24 [(2, x0), (0, x1), (0, x2), (0, x3)] [] h = if 0 < x0 ∧ (kd x0).1 = 10 then if (kd (h.2 x0 1)).1 = 20 ∧ 0 ≤ x1 ∧ x1 < (kd (h.2 x0 1)).2 then if x3 ≥ (h.2 (h.2 x0 1) x1) then (vp 100 12 [(2, x0), (0, x1), (0, w32 (x2 + 1)), (0, x3)] [] h) else (if 0 < x0 ∧ (kd x0).1 = 10 then (vm 101 [(2, x0), (0, x1), (0, x3), (0, x2)] h).bind (fun r15 => if 0 < x0 ∧ (kd x0).1 = 10 then (vm 98 [(2, x0), (0, x1), (0, x3), (0, x2), (0, vx r15)] r15.2).bind (fun r16 => vp 100 24 [(2, x0), (0, x1), (0, x2), (0, w32 (x3 + 1))] [] r16.2) else none) else none) else none else none := by
  refine s_iload_n (pc1 := 25) (tk (n := 16) t100_0 rfl) rfl rfl rfl ?_
  refine s_aload_n (pc1 := 26) (tk (n := 17) t100_0 rfl) rfl rfl rfl ?_
  refine s_getf (pc1 := 29) (c := 10) (t1 := 2) (tk (n := 18) t100_0 rfl) rfl rfl (by decide) rfl rfl ?_
  refine s_iload_n (pc1 := 30) (tk (n := 19) t100_0 rfl) rfl rfl rfl ?_
  refine s_iald (pc1 := 31) (tk (n := 20) t100_0 rfl) rfl rfl  ?_
  refine s_ic_ge (pc1 := 34) (pt := 54) (tk (n := 21) t100_0 rfl) rfl rfl rfl ?_ ?_
  · refine s_iinc (pc1 := 57) (ls1 := [(2, x0), (0, x1), (0, w32 (x2 + 1)), (0, x3)]) (tk (n := 4) t100_1 rfl) rfl rfl rfl rfl ?_
    refine s_goto (pc1 := 12) (tk (n := 5) t100_1 rfl) rfl rfl ?_
    rfl
  · refine s_aload_n (pc1 := 35) (tk (n := 22) t100_0 rfl) rfl rfl rfl ?_
    refine s_iload_n (pc1 := 36) (tk (n := 23) t100_0 rfl) rfl rfl rfl ?_
    refine s_iload_n (pc1 := 37) (tk (n := 24) t100_0 rfl) rfl rfl rfl ?_
    refine s_iload_n (pc1 := 38) (tk (n := 25) t100_0 rfl) rfl rfl rfl ?_
    refine s_aload_n (pc1 := 39) (tk (n := 26) t100_0 rfl) rfl rfl rfl ?_
    refine s_iload_n (pc1 := 40) (tk (n := 27) t100_0 rfl) rfl rfl rfl ?_
    refine s_iload_n (pc1 := 41) (tk (n := 28) t100_0 rfl) rfl rfl rfl ?_
    refine s_iload_n (pc1 := 42) (tk (n := 29) t100_0 rfl) rfl rfl rfl ?_
    refine s_call0 (as := [(2, x0), (0, x1), (0, x3), (0, x2)]) (st1 := [(0, x2), (0, x3), (0, x1), (2, x0)]) (p1 := 45) (M2 := 101) (tk (n := 0) t100_1 rfl) rfl rfl rfl rfl rfl (fun r15 => ?_)
    refine s_call9 (as := [(2, x0), (0, x1), (0, x3), (0, x2), (0, vx r15)]) (st1 := []) (p1 := 48) (M2 := 98) (tk (n := 1) t100_1 rfl) rfl rfl rfl rfl rfl (fun r16 => ?_)
    refine s_iinc (pc1 := 51) (ls1 := [(2, x0), (0, x1), (0, x2), (0, w32 (x3 + 1))]) (tk (n := 2) t100_1 rfl) rfl rfl rfl rfl ?_
    refine s_goto (pc1 := 24) (tk (n := 3) t100_1 rfl) rfl rfl ?_
    rfl
set_option maxRecDepth 100000 in
set_option maxHeartbeats 4000000 in
theorem e_X10_made (x0 : Int) (x1 : Int) (x2 : Int) (x3 : Int) (h : Hq) : vm 101 [(2, x0), (0, x1), (0, x2), (0, x3)] h = vp 101 14 [(2, x0), (0, x1), (0, x2), (0, x3), (0, w32 (x1 - 1)), (0, 0), (0, 0), (0, 0), (9, 0), (9, 0)] [] h := by
  show vp 101 0 [(2, x0), (0, x1), (0, x2), (0, x3), (9, 0), (9, 0), (9, 0), (9, 0), (9, 0), (9, 0)] [] h = _
  refine s_iload_n (pc1 := 1) (tk (n := 0) t101_0 rfl) rfl rfl rfl ?_
  refine s_iconst (pc1 := 2) (tk (n := 1) t101_0 rfl) rfl rfl  ?_
  refine s_isub (pc1 := 3) (tk (n := 2) t101_0 rfl) rfl rfl  ?_
  refine s_istore (pc1 := 5) (ls1 := [(2, x0), (0, x1), (0, x2), (0, x3), (0, w32 (x1 - 1)), (9, 0), (9, 0), (9, 0), (9, 0), (9, 0)]) (tk (n := 3) t101_0 rfl) rfl rfl rfl rfl ?_
  refine s_iconst (pc1 := 6) (tk (n := 4) t101_0 rfl) rfl rfl  ?_
  refine s_istore (pc1 := 8) (ls1 := [(2, x0), (0, x1), (0, x2), (0, x3), (0, w32 (x1 - 1)), (0, 0), (9, 0), (9, 0), (9, 0), (9, 0)]) (tk (n := 5) t101_0 rfl) rfl rfl rfl rfl ?_
  refine s_iconst (pc1 := 9) (tk (n := 6) t101_0 rfl) rfl rfl  ?_
  refine s_istore (pc1 := 11) (ls1 := [(2, x0), (0, x1), (0, x2), (0, x3), (0, w32 (x1 - 1)), (0, 0), (0, 0), (9, 0), (9, 0), (9, 0)]) (tk (n := 7) t101_0 rfl) rfl rfl rfl rfl ?_
  refine s_iconst (pc1 := 12) (tk (n := 8) t101_0 rfl) rfl rfl  ?_
  refine s_istore (pc1 := 14) (ls1 := [(2, x0), (0, x1), (0, x2), (0, x3), (0, w32 (x1 - 1)), (0, 0), (0, 0), (0, 0), (9, 0), (9, 0)]) (tk (n := 9) t101_0 rfl) rfl rfl rfl rfl ?_
  rfl
set_option maxRecDepth 100000 in
set_option maxHeartbeats 4000000 in
theorem e_X10_made_14 (x0 : Int) (z1 : Vl) (x2 : Int) (x3 : Int) (x4 : Int) (x5 : Int) (x6 : Int) (x7 : Int) (z8 : Vl) (z9 : Vl) (h : Hq) : vp 101 14 [(2, x0), z1, (0, x2), (0, x3), (0, x4), (0, x5), (0, x6), (0, x7), z8, z9] [] h = if x7 ≥ 4 then (if x6 ≠ 0 then (if x6 ≠ 0 then some (some (0, w32 (x5.tdiv x6)), h) else none) else (some (some (0, 0), h))) else (if 0 < x0 ∧ (kd x0).1 = 10 then (vm 87 [(2, x0), (0, x4), (0, w32 ((w32 (2 * x2)) + (x7.tmod 2))), (0, w32 ((w32 (2 * x3)) + (w32 (x7.tdiv 2))))] h).bind (fun r24 => if (vx r24) = 0 then (vp 101 14 [(2, x0), (9, 0), (0, x2), (0, x3), (0, x4), (0, x5), (0, x6), (0, w32 (x7 + 1)), (0, w32 ((w32 (2 * x2)) + (x7.tmod 2))), (0, w32 ((w32 (2 * x3)) + (w32 (x7.tdiv 2))))] [] r24.2) else (if 0 < x0 ∧ (kd x0).1 = 10 then (vm 95 [(2, x0), (0, x4), (0, w32 ((w32 (2 * x2)) + (x7.tmod 2))), (0, w32 ((w32 (2 * x3)) + (w32 (x7.tdiv 2))))] r24.2).bind (fun r31 => vp 101 14 [(2, x0), (9, 0), (0, x2), (0, x3), (0, x4), (0, w32 (x5 + (vx r31))), (0, w32 (x6 + 1)), (0, w32 (x7 + 1)), (0, w32 ((w32 (2 * x2)) + (x7.tmod 2))), (0, w32 ((w32 (2 * x3)) + (w32 (x7.tdiv 2))))] [] r31.2) else none)) else none) := by
  refine s_fg (ls1 := [(2, x0), (9, 0), (0, x2), (0, x3), (0, x4), (0, x5), (0, x6), (0, x7), (9, 0), (9, 0)]) (tk (n := 10) t101_0 rfl) rfl ?_
  refine s_iload (pc1 := 16) (tk (n := 10) t101_0 rfl) rfl rfl rfl ?_
  refine s_iconst (pc1 := 17) (tk (n := 11) t101_0 rfl) rfl rfl  ?_
  refine s_ic_ge (pc1 := 20) (pt := 77) (tk (n := 12) t101_0 rfl) rfl rfl rfl ?_ ?_
  · refine s_iload (pc1 := 79) (tk (n := 16) t101_1 rfl) rfl rfl rfl ?_
    refine s_if_ne (pc1 := 82) (pt := 86) (tk (n := 17) t101_1 rfl) rfl rfl rfl ?_ ?_
    · refine s_iload (pc1 := 88) (tk (n := 20) t101_1 rfl) rfl rfl rfl ?_
      refine s_iload (pc1 := 90) (tk (n := 21) t101_1 rfl) rfl rfl rfl ?_
      refine s_idiv (pc1 := 91) (tk (n := 22) t101_1 rfl) rfl rfl  ?_
      exact s_ret (tk (n := 23) t101_1 rfl) rfl rfl rfl
    · refine s_iconst (pc1 := 83) (tk (n := 18) t101_1 rfl) rfl rfl  ?_
      refine s_goto (pc1 := 91) (tk (n := 19) t101_1 rfl) rfl rfl ?_
      exact s_ret (tk (n := 23) t101_1 rfl) rfl rfl rfl
  · refine s_iconst (pc1 := 21) (tk (n := 13) t101_0 rfl) rfl rfl  ?_
    refine s_iload_n (pc1 := 22) (tk (n := 14) t101_0 rfl) rfl rfl rfl ?_
    refine s_imul (pc1 := 23) (tk (n := 15) t101_0 rfl) rfl rfl  ?_
    refine s_iload (pc1 := 25) (tk (n := 16) t101_0 rfl) rfl rfl rfl ?_
    refine s_iconst (pc1 := 26) (tk (n := 17) t101_0 rfl) rfl rfl  ?_
    refine s_iremc (pc1 := 27) (tk (n := 18) t101_0 rfl) rfl rfl (by decide) ?_
    refine s_iadd (pc1 := 28) (tk (n := 19) t101_0 rfl) rfl rfl  ?_
    refine s_istore (pc1 := 30) (ls1 := [(2, x0), (9, 0), (0, x2), (0, x3), (0, x4), (0, x5), (0, x6), (0, x7), (0, w32 ((w32 (2 * x2)) + (x7.tmod 2))), (9, 0)]) (tk (n := 20) t101_0 rfl) rfl rfl rfl rfl ?_
    refine s_iconst (pc1 := 31) (tk (n := 21) t101_0 rfl) rfl rfl  ?_
    refine s_iload_n (pc1 := 32) (tk (n := 22) t101_0 rfl) rfl rfl rfl ?_
    refine s_imul (pc1 := 33) (tk (n := 23) t101_0 rfl) rfl rfl  ?_
    refine s_iload (pc1 := 35) (tk (n := 24) t101_0 rfl) rfl rfl rfl ?_
    refine s_iconst (pc1 := 36) (tk (n := 25) t101_0 rfl) rfl rfl  ?_
    refine s_idivc (pc1 := 37) (tk (n := 26) t101_0 rfl) rfl rfl (by decide) ?_
    refine s_iadd (pc1 := 38) (tk (n := 27) t101_0 rfl) rfl rfl  ?_
    refine s_istore (pc1 := 40) (ls1 := [(2, x0), (9, 0), (0, x2), (0, x3), (0, x4), (0, x5), (0, x6), (0, x7), (0, w32 ((w32 (2 * x2)) + (x7.tmod 2))), (0, w32 ((w32 (2 * x3)) + (w32 (x7.tdiv 2))))]) (tk (n := 28) t101_0 rfl) rfl rfl rfl rfl ?_
    refine s_aload_n (pc1 := 41) (tk (n := 29) t101_0 rfl) rfl rfl rfl ?_
    refine s_iload (pc1 := 43) (tk (n := 0) t101_1 rfl) rfl rfl rfl ?_
    refine s_iload (pc1 := 45) (tk (n := 1) t101_1 rfl) rfl rfl rfl ?_
    refine s_iload (pc1 := 47) (tk (n := 2) t101_1 rfl) rfl rfl rfl ?_
    refine s_call0 (as := [(2, x0), (0, x4), (0, w32 ((w32 (2 * x2)) + (x7.tmod 2))), (0, w32 ((w32 (2 * x3)) + (w32 (x7.tdiv 2))))]) (st1 := []) (p1 := 50) (M2 := 87) (tk (n := 3) t101_1 rfl) rfl rfl rfl rfl rfl (fun r24 => ?_)
    refine s_if_eq (pc1 := 53) (pt := 71) (tk (n := 4) t101_1 rfl) rfl rfl rfl ?_ ?_
    · refine s_iinc (pc1 := 74) (ls1 := [(2, x0), (9, 0), (0, x2), (0, x3), (0, x4), (0, x5), (0, x6), (0, w32 (x7 + 1)), (0, w32 ((w32 (2 * x2)) + (x7.tmod 2))), (0, w32 ((w32 (2 * x3)) + (w32 (x7.tdiv 2))))]) (tk (n := 14) t101_1 rfl) rfl rfl rfl rfl ?_
      refine s_goto (pc1 := 14) (tk (n := 15) t101_1 rfl) rfl rfl ?_
      rfl
    · refine s_iload (pc1 := 55) (tk (n := 5) t101_1 rfl) rfl rfl rfl ?_
      refine s_aload_n (pc1 := 56) (tk (n := 6) t101_1 rfl) rfl rfl rfl ?_
      refine s_iload (pc1 := 58) (tk (n := 7) t101_1 rfl) rfl rfl rfl ?_
      refine s_iload (pc1 := 60) (tk (n := 8) t101_1 rfl) rfl rfl rfl ?_
      refine s_iload (pc1 := 62) (tk (n := 9) t101_1 rfl) rfl rfl rfl ?_
      refine s_call0 (as := [(2, x0), (0, x4), (0, w32 ((w32 (2 * x2)) + (x7.tmod 2))), (0, w32 ((w32 (2 * x3)) + (w32 (x7.tdiv 2))))]) (st1 := [(0, x5)]) (p1 := 65) (M2 := 95) (tk (n := 10) t101_1 rfl) rfl rfl rfl rfl rfl (fun r31 => ?_)
      refine s_iadd (pc1 := 66) (tk (n := 11) t101_1 rfl) rfl rfl  ?_
      refine s_istore (pc1 := 68) (ls1 := [(2, x0), (9, 0), (0, x2), (0, x3), (0, x4), (0, w32 (x5 + (vx r31))), (0, x6), (0, x7), (0, w32 ((w32 (2 * x2)) + (x7.tmod 2))), (0, w32 ((w32 (2 * x3)) + (w32 (x7.tdiv 2))))]) (tk (n := 12) t101_1 rfl) rfl rfl rfl rfl ?_
      refine s_iinc (pc1 := 71) (ls1 := [(2, x0), (9, 0), (0, x2), (0, x3), (0, x4), (0, w32 (x5 + (vx r31))), (0, w32 (x6 + 1)), (0, x7), (0, w32 ((w32 (2 * x2)) + (x7.tmod 2))), (0, w32 ((w32 (2 * x3)) + (w32 (x7.tdiv 2))))]) (tk (n := 13) t101_1 rfl) rfl rfl rfl rfl ?_
      refine s_iinc (pc1 := 74) (ls1 := [(2, x0), (9, 0), (0, x2), (0, x3), (0, x4), (0, w32 (x5 + (vx r31))), (0, w32 (x6 + 1)), (0, w32 (x7 + 1)), (0, w32 ((w32 (2 * x2)) + (x7.tmod 2))), (0, w32 ((w32 (2 * x3)) + (w32 (x7.tdiv 2))))]) (tk (n := 14) t101_1 rfl) rfl rfl rfl rfl ?_
      refine s_goto (pc1 := 14) (tk (n := 15) t101_1 rfl) rfl rfl ?_
      rfl
set_option maxRecDepth 100000 in
set_option maxHeartbeats 4000000 in
theorem e_X10_countStale (x0 : Int) (h : Hq) : vm 102 [(2, x0)] h = vp 102 4 [(2, x0), (0, 0), (0, 1), (9, 0), (9, 0)] [] h := by
  show vp 102 0 [(2, x0), (9, 0), (9, 0), (9, 0), (9, 0)] [] h = _
  refine s_iconst (pc1 := 1) (tk (n := 0) t102_0 rfl) rfl rfl  ?_
  refine s_istore_n (pc1 := 2) (ls1 := [(2, x0), (0, 0), (9, 0), (9, 0), (9, 0)]) (tk (n := 1) t102_0 rfl) rfl rfl rfl rfl ?_
  refine s_iconst (pc1 := 3) (tk (n := 2) t102_0 rfl) rfl rfl  ?_
  refine s_istore_n (pc1 := 4) (ls1 := [(2, x0), (0, 0), (0, 1), (9, 0), (9, 0)]) (tk (n := 3) t102_0 rfl) rfl rfl rfl rfl ?_
  rfl
set_option maxRecDepth 100000 in
set_option maxHeartbeats 4000000 in
theorem e_X10_countStale_4 (x0 : Int) (x1 : Int) (x2 : Int) (z3 : Vl) (z4 : Vl) (h : Hq) : vp 102 4 [(2, x0), (0, x1), (0, x2), z3, z4] [] h = if 0 < x0 ∧ (kd x0).1 = 10 then if x2 ≥ (h.2 x0 9) then (some (some (0, x1), h)) else (vp 102 14 [(2, x0), (0, x1), (0, x2), (0, 0), (9, 0)] [] h) else none := by
  refine s_fg (ls1 := [(2, x0), (0, x1), (0, x2), (9, 0), (9, 0)]) (tk (n := 4) t102_0 rfl) rfl ?_
  refine s_iload_n (pc1 := 5) (tk (n := 4) t102_0 rfl) rfl rfl rfl ?_
  refine s_aload_n (pc1 := 6) (tk (n := 5) t102_0 rfl) rfl rfl rfl ?_
  refine s_getf (pc1 := 9) (c := 10) (t1 := 0) (tk (n := 6) t102_0 rfl) rfl rfl (by decide) rfl rfl ?_
  refine s_ic_ge (pc1 := 12) (pt := 85) (tk (n := 7) t102_0 rfl) rfl rfl rfl ?_ ?_
  · refine s_iload_n (pc1 := 86) (tk (n := 15) t102_1 rfl) rfl rfl rfl ?_
    exact s_ret (tk (n := 16) t102_1 rfl) rfl rfl rfl
  · refine s_iconst (pc1 := 13) (tk (n := 8) t102_0 rfl) rfl rfl  ?_
    refine s_istore_n (pc1 := 14) (ls1 := [(2, x0), (0, x1), (0, x2), (0, 0), (9, 0)]) (tk (n := 9) t102_0 rfl) rfl rfl rfl rfl ?_
    rfl
set_option maxRecDepth 100000 in
set_option maxHeartbeats 4000000 in
theorem e_X10_countStale_14 (x0 : Int) (x1 : Int) (x2 : Int) (x3 : Int) (z4 : Vl) (h : Hq) : vp 102 14 [(2, x0), (0, x1), (0, x2), (0, x3), z4] [] h = if 0 < x0 ∧ (kd x0).1 = 10 then if (kd (h.2 x0 2)).1 = 20 ∧ 0 ≤ x2 ∧ x2 < (kd (h.2 x0 2)).2 then if x3 ≥ (h.2 (h.2 x0 2) x2) then (vp 102 4 [(2, x0), (0, x1), (0, w32 (x2 + 1)), (0, x3), (9, 0)] [] h) else (vp 102 27 [(2, x0), (0, x1), (0, x2), (0, x3), (0, 0)] [] h) else none else none := by
  refine s_fg (ls1 := [(2, x0), (0, x1), (0, x2), (0, x3), (9, 0)]) (tk (n := 10) t102_0 rfl) rfl ?_
  refine s_iload_n (pc1 := 15) (tk (n := 10) t102_0 rfl) rfl rfl rfl ?_
  refine s_aload_n (pc1 := 16) (tk (n := 11) t102_0 rfl) rfl rfl rfl ?_
  refine s_getf (pc1 := 19) (c := 10) (t1 := 2) (tk (n := 12) t102_0 rfl) rfl rfl (by decide) rfl rfl ?_
  refine s_iload_n (pc1 := 20) (tk (n := 13) t102_0 rfl) rfl rfl rfl ?_
  refine s_iald (pc1 := 21) (tk (n := 14) t102_0 rfl) rfl rfl  ?_
  refine s_ic_ge (pc1 := 24) (pt := 79) (tk (n := 15) t102_0 rfl) rfl rfl rfl ?_ ?_
  · refine s_iinc (pc1 := 82) (ls1 := [(2, x0), (0, x1), (0, w32 (x2 + 1)), (0, x3), (9, 0)]) (tk (n := 13) t102_1 rfl) rfl rfl rfl rfl ?_
    refine s_goto (pc1 := 4) (tk (n := 14) t102_1 rfl) rfl rfl ?_
    rfl
  · refine s_iconst (pc1 := 25) (tk (n := 16) t102_0 rfl) rfl rfl  ?_
    refine s_istore (pc1 := 27) (ls1 := [(2, x0), (0, x1), (0, x2), (0, x3), (0, 0)]) (tk (n := 17) t102_0 rfl) rfl rfl rfl rfl ?_
    rfl
set_option maxRecDepth 100000 in
set_option maxHeartbeats 4000000 in
theorem e_X10_countStale_27 (x0 : Int) (x1 : Int) (x2 : Int) (x3 : Int) (x4 : Int) (h : Hq) : vp 102 27 [(2, x0), (0, x1), (0, x2), (0, x3), (0, x4)] [] h = if 0 < x0 ∧ (kd x0).1 = 10 then if (kd (h.2 x0 1)).1 = 20 ∧ 0 ≤ x2 ∧ x2 < (kd (h.2 x0 1)).2 then if x4 ≥ (h.2 (h.2 x0 1) x2) then (vp 102 14 [(2, x0), (0, x1), (0, x2), (0, w32 (x3 + 1)), (0, x4)] [] h) else (if 0 < x0 ∧ (kd x0).1 = 10 then (vm 95 [(2, x0), (0, x2), (0, x4), (0, x3)] h).bind (fun r11 => if 0 < x0 ∧ (kd x0).1 = 10 then if 0 < x0 ∧ (kd x0).1 = 10 then (vm 101 [(2, x0), (0, x2), (0, x4), (0, x3)] r11.2).bind (fun r18 => (vm 44 [(0, r11.2.2 x0 5), (0, vx r18)] r18.2).bind (fun r19 => if (vx r11) = (vx r19) then (vp 102 27 [(2, x0), (0, x1), (0, x2), (0, x3), (0, w32 (x4 + 1))] [] r19.2) else (vp 102 27 [(2, x0), (0, w32 (x1 + 1)), (0, x2), (0, x3), (0, w32 (x4 + 1))] [] r19.2))) else none else none) else none) else none else none := by
  refine s_iload (pc1 := 29) (tk (n := 18) t102_0 rfl) rfl rfl rfl ?_
  refine s_aload_n (pc1 := 30) (tk (n := 19) t102_0 rfl) rfl rfl rfl ?_
  refine s_getf (pc1 := 33) (c := 10) (t1 := 2) (tk (n := 20) t102_0 rfl) rfl rfl (by decide) rfl rfl ?_
  refine s_iload_n (pc1 := 34) (tk (n := 21) t102_0 rfl) rfl rfl rfl ?_
  refine s_iald (pc1 := 35) (tk (n := 22) t102_0 rfl) rfl rfl  ?_
  refine s_ic_ge (pc1 := 38) (pt := 73) (tk (n := 23) t102_0 rfl) rfl rfl rfl ?_ ?_
  · refine s_iinc (pc1 := 76) (ls1 := [(2, x0), (0, x1), (0, x2), (0, w32 (x3 + 1)), (0, x4)]) (tk (n := 11) t102_1 rfl) rfl rfl rfl rfl ?_
    refine s_goto (pc1 := 14) (tk (n := 12) t102_1 rfl) rfl rfl ?_
    rfl
  · refine s_aload_n (pc1 := 39) (tk (n := 24) t102_0 rfl) rfl rfl rfl ?_
    refine s_iload_n (pc1 := 40) (tk (n := 25) t102_0 rfl) rfl rfl rfl ?_
    refine s_iload (pc1 := 42) (tk (n := 26) t102_0 rfl) rfl rfl rfl ?_
    refine s_iload_n (pc1 := 43) (tk (n := 27) t102_0 rfl) rfl rfl rfl ?_
    refine s_call0 (as := [(2, x0), (0, x2), (0, x4), (0, x3)]) (st1 := []) (p1 := 46) (M2 := 95) (tk (n := 28) t102_0 rfl) rfl rfl rfl rfl rfl (fun r11 => ?_)
    refine s_aload_n (pc1 := 47) (tk (n := 29) t102_0 rfl) rfl rfl rfl ?_
    refine s_getf (pc1 := 50) (c := 10) (t1 := 0) (tk (n := 0) t102_1 rfl) rfl rfl (by decide) rfl rfl ?_
    refine s_aload_n (pc1 := 51) (tk (n := 1) t102_1 rfl) rfl rfl rfl ?_
    refine s_iload_n (pc1 := 52) (tk (n := 2) t102_1 rfl) rfl rfl rfl ?_
    refine s_iload (pc1 := 54) (tk (n := 3) t102_1 rfl) rfl rfl rfl ?_
    refine s_iload_n (pc1 := 55) (tk (n := 4) t102_1 rfl) rfl rfl rfl ?_
    refine s_call0 (as := [(2, x0), (0, x2), (0, x4), (0, x3)]) (st1 := [(0, r11.2.2 x0 5), (0, vx r11)]) (p1 := 58) (M2 := 101) (tk (n := 5) t102_1 rfl) rfl rfl rfl rfl rfl (fun r18 => ?_)
    refine s_callS0 (as := [(0, r11.2.2 x0 5), (0, vx r18)]) (st1 := [(0, vx r11)]) (p1 := 61) (M2 := 44) (tk (n := 6) t102_1 rfl) rfl rfl rfl rfl rfl (fun r19 => ?_)
    refine s_ic_eq (pc1 := 64) (pt := 67) (tk (n := 7) t102_1 rfl) rfl rfl rfl ?_ ?_
    · refine s_iinc (pc1 := 70) (ls1 := [(2, x0), (0, x1), (0, x2), (0, x3), (0, w32 (x4 + 1))]) (tk (n := 9) t102_1 rfl) rfl rfl rfl rfl ?_
      refine s_goto (pc1 := 27) (tk (n := 10) t102_1 rfl) rfl rfl ?_
      rfl
    · refine s_iinc (pc1 := 67) (ls1 := [(2, x0), (0, w32 (x1 + 1)), (0, x2), (0, x3), (0, x4)]) (tk (n := 8) t102_1 rfl) rfl rfl rfl rfl ?_
      refine s_iinc (pc1 := 70) (ls1 := [(2, x0), (0, w32 (x1 + 1)), (0, x2), (0, x3), (0, w32 (x4 + 1))]) (tk (n := 9) t102_1 rfl) rfl rfl rfl rfl ?_
      refine s_goto (pc1 := 27) (tk (n := 10) t102_1 rfl) rfl rfl ?_
      rfl
set_option maxRecDepth 100000 in
set_option maxHeartbeats 4000000 in
theorem e_X11_init (x0 : Int) (h : Hq) : vm 103 [(2, x0)] h = if 0 < x0 then if (kd h.1).1 = 21 ∧ (kd h.1).2 = (900 : Int) ∧ 0 ≤ (900 : Int) ∧ (900 : Int) ≤ 1000000 then if (0 < x0 ∧ (kd x0).1 = 11) ∧ True then if (0 < x0 ∧ (kd x0).1 = 11) ∧ True then if (kd (h.1 + 1)).1 = 9 then if 0 < (h.1 + 1) ∧ (kd (h.1 + 1)).1 = 9 then (vm 64 [(2, h.1 + 1)] ((h.1 + 1) + 1, stm (stm h.2 x0 0 h.1) x0 1 0)).bind (fun r13 => if (0 < x0 ∧ (kd x0).1 = 11) ∧ True then if (kd r13.2.1).1 = 7 then if 0 < r13.2.1 ∧ (kd r13.2.1).1 = 7 then (vm 41 [(2, r13.2.1)] (r13.2.1 + 1, stm r13.2.2 x0 2 (h.1 + 1))).bind (fun r18 => if (0 < x0 ∧ (kd x0).1 = 11) ∧ True then if (kd r18.2.1).1 = 5 then if 0 < x0 ∧ (kd x0).1 = 11 then if 0 < ((stm r18.2.2 x0 5 r13.2.1) x0 5) ∧ (kd ((stm r18.2.2 x0 5 r13.2.1) x0 5)).1 = 7 then if (kd ((stm r18.2.2 x0 5 r13.2.1) ((stm r18.2.2 x0 5 r13.2.1) x0 5) 0)).1 = 24 ∧ 0 ≤ (0 : Int) ∧ (0 : Int) < (kd ((stm r18.2.2 x0 5 r13.2.1) ((stm r18.2.2 x0 5 r13.2.1) x0 5) 0)).2 then if 0 < r18.2.1 ∧ (kd r18.2.1).1 = 5 then (vm 33 [(2, r18.2.1), (2, (stm r18.2.2 x0 5 r13.2.1) ((stm r18.2.2 x0 5 r13.2.1) ((stm r18.2.2 x0 5 r13.2.1) x0 5) 0) 0)] (r18.2.1 + 1, stm r18.2.2 x0 5 r13.2.1)).bind (fun r28 => if (0 < x0 ∧ (kd x0).1 = 11) ∧ True then if (kd r28.2.1).1 = 5 then if 0 < x0 ∧ (kd x0).1 = 11 then if 0 < ((stm r28.2.2 x0 3 r18.2.1) x0 5) ∧ (kd ((stm r28.2.2 x0 3 r18.2.1) x0 5)).1 = 7 then if (kd ((stm r28.2.2 x0 3 r18.2.1) ((stm r28.2.2 x0 3 r18.2.1) x0 5) 0)).1 = 24 ∧ 0 ≤ (0 : Int) ∧ (0 : Int) < (kd ((stm r28.2.2 x0 3 r18.2.1) ((stm r28.2.2 x0 3 r18.2.1) x0 5) 0)).2 then if 0 < r28.2.1 ∧ (kd r28.2.1).1 = 5 then (vm 33 [(2, r28.2.1), (2, (stm r28.2.2 x0 3 r18.2.1) ((stm r28.2.2 x0 3 r18.2.1) ((stm r28.2.2 x0 3 r18.2.1) x0 5) 0) 0)] (r28.2.1 + 1, stm r28.2.2 x0 3 r18.2.1)).bind (fun r38 => if (0 < x0 ∧ (kd x0).1 = 11) ∧ True then if (kd r38.2.1).1 = 0 then if 0 < r38.2.1 ∧ (kd r38.2.1).1 = 0 then (vm 0 [(2, r38.2.1)] (r38.2.1 + 1, stm r38.2.2 x0 4 r28.2.1)).bind (fun r43 => if (0 < x0 ∧ (kd x0).1 = 11) ∧ True then if (kd r43.2.1).1 = 1 then if 0 < r43.2.1 ∧ (kd r43.2.1).1 = 1 then (vm 7 [(2, r43.2.1)] (r43.2.1 + 1, stm r43.2.2 x0 6 r38.2.1)).bind (fun r48 => if (0 < x0 ∧ (kd x0).1 = 11) ∧ True then if (kd r48.2.1).1 = 1 then if 0 < r48.2.1 ∧ (kd r48.2.1).1 = 1 then (vm 7 [(2, r48.2.1)] (r48.2.1 + 1, stm r48.2.2 x0 7 r43.2.1)).bind (fun r53 => if (0 < x0 ∧ (kd x0).1 = 11) ∧ True then if (kd r53.2.1).1 = 8 then if 0 < r53.2.1 ∧ (kd r53.2.1).1 = 8 then (vm 59 [(2, r53.2.1)] (r53.2.1 + 1, stm r53.2.2 x0 8 r48.2.1)).bind (fun r58 => if (0 < x0 ∧ (kd x0).1 = 11) ∧ True then if (kd r58.2.1).1 = 2 then if 0 < r58.2.1 ∧ (kd r58.2.1).1 = 2 then (vm 14 [(2, r58.2.1)] (r58.2.1 + 1, stm r58.2.2 x0 9 r53.2.1)).bind (fun r63 => if (0 < x0 ∧ (kd x0).1 = 11) ∧ True then if (kd r63.2.1).1 = 4 then if 0 < r63.2.1 ∧ (kd r63.2.1).1 = 4 then (vm 26 [(2, r63.2.1)] (r63.2.1 + 1, stm r63.2.2 x0 10 r58.2.1)).bind (fun r68 => if (0 < x0 ∧ (kd x0).1 = 11) ∧ True then some (none, (r68.2.1, stm r68.2.2 x0 11 r63.2.1)) else none) else none else none else none) else none else none else none) else none else none else none) else none else none else none) else none else none else none) else none else none else none) else none else none else none else none else none else none) else none else none else none else none else none else none) else none else none else none) else none else none else none else none else none else none := by
  show vp 103 0 [(2, x0)] [] h = _
  refine s_aload_n (pc1 := 1) (tk (n := 0) t103_0 rfl) rfl rfl rfl ?_
  refine s_oini (pc1 := 4) (tk (n := 1) t103_0 rfl) rfl rfl rfl ?_
  refine s_aload_n (pc1 := 5) (tk (n := 2) t103_0 rfl) rfl rfl rfl ?_
  refine s_sipush (pc1 := 8) (tk (n := 3) t103_0 rfl) rfl rfl  ?_
  refine s_newa (pc1 := 10) (c := 21) (tk (n := 4) t103_0 rfl) rfl rfl rfl ?_
  refine s_putf2 (pc1 := 13) (c := 11) (tk (n := 5) t103_0 rfl) rfl rfl rfl rfl rfl ?_
  refine s_aload_n (pc1 := 14) (tk (n := 6) t103_0 rfl) rfl rfl rfl ?_
  refine s_iconst (pc1 := 15) (tk (n := 7) t103_0 rfl) rfl rfl  ?_
  refine s_putf0 (pc1 := 18) (c := 11) (tk (n := 8) t103_0 rfl) rfl rfl rfl rfl rfl ?_
  refine s_aload_n (pc1 := 19) (tk (n := 9) t103_0 rfl) rfl rfl rfl ?_
  refine s_new (pc1 := 22) (c := 9) (tk (n := 10) t103_0 rfl) rfl rfl rfl ?_
  refine s_dup2 (pc1 := 23) (tk (n := 11) t103_0 rfl) rfl rfl  ?_
  refine s_call9 (as := [(2, h.1 + 1)]) (st1 := [(2, h.1 + 1), (2, x0)]) (p1 := 26) (M2 := 64) (tk (n := 12) t103_0 rfl) rfl rfl rfl rfl rfl (fun r13 => ?_)
  refine s_putf2 (pc1 := 29) (c := 11) (tk (n := 13) t103_0 rfl) rfl rfl rfl rfl rfl ?_
  refine s_aload_n (pc1 := 30) (tk (n := 14) t103_0 rfl) rfl rfl rfl ?_
  refine s_new (pc1 := 33) (c := 7) (tk (n := 15) t103_0 rfl) rfl rfl rfl ?_
  refine s_dup2 (pc1 := 34) (tk (n := 16) t103_0 rfl) rfl rfl  ?_
  refine s_call9 (as := [(2, r13.2.1)]) (st1 := [(2, r13.2.1), (2, x0)]) (p1 := 37) (M2 := 41) (tk (n := 17) t103_0 rfl) rfl rfl rfl rfl rfl (fun r18 => ?_)
  refine s_putf2 (pc1 := 40) (c := 11) (tk (n := 18) t103_0 rfl) rfl rfl rfl rfl rfl ?_
  refine s_aload_n (pc1 := 41) (tk (n := 19) t103_0 rfl) rfl rfl rfl ?_
  refine s_new (pc1 := 44) (c := 5) (tk (n := 20) t103_0 rfl) rfl rfl rfl ?_
  refine s_dup2 (pc1 := 45) (tk (n := 21) t103_0 rfl) rfl rfl  ?_
  refine s_aload_n (pc1 := 46) (tk (n := 22) t103_0 rfl) rfl rfl rfl ?_
  refine s_getf (pc1 := 49) (c := 11) (t1 := 2) (tk (n := 23) t103_0 rfl) rfl rfl (by decide) rfl rfl ?_
  refine s_getf (pc1 := 52) (c := 7) (t1 := 2) (tk (n := 24) t103_0 rfl) rfl rfl (by decide) rfl rfl ?_
  refine s_iconst (pc1 := 53) (tk (n := 25) t103_0 rfl) rfl rfl  ?_
  refine s_aald (pc1 := 54) (c := 24) (tk (n := 26) t103_0 rfl) rfl rfl rfl ?_
  refine s_call9 (as := [(2, r18.2.1), (2, (stm r18.2.2 x0 5 r13.2.1) ((stm r18.2.2 x0 5 r13.2.1) ((stm r18.2.2 x0 5 r13.2.1) x0 5) 0) 0)]) (st1 := [(2, r18.2.1), (2, x0)]) (p1 := 57) (M2 := 33) (tk (n := 27) t103_0 rfl) rfl rfl rfl rfl rfl (fun r28 => ?_)
  refine s_putf2 (pc1 := 60) (c := 11) (tk (n := 28) t103_0 rfl) rfl rfl rfl rfl rfl ?_
  refine s_aload_n (pc1 := 61) (tk (n := 29) t103_0 rfl) rfl rfl rfl ?_
  refine s_new (pc1 := 64) (c := 5) (tk (n := 0) t103_1 rfl) rfl rfl rfl ?_
  refine s_dup2 (pc1 := 65) (tk (n := 1) t103_1 rfl) rfl rfl  ?_
  refine s_aload_n (pc1 := 66) (tk (n := 2) t103_1 rfl) rfl rfl rfl ?_
  refine s_getf (pc1 := 69) (c := 11) (t1 := 2) (tk (n := 3) t103_1 rfl) rfl rfl (by decide) rfl rfl ?_
  refine s_getf (pc1 := 72) (c := 7) (t1 := 2) (tk (n := 4) t103_1 rfl) rfl rfl (by decide) rfl rfl ?_
  refine s_iconst (pc1 := 73) (tk (n := 5) t103_1 rfl) rfl rfl  ?_
  refine s_aald (pc1 := 74) (c := 24) (tk (n := 6) t103_1 rfl) rfl rfl rfl ?_
  refine s_call9 (as := [(2, r28.2.1), (2, (stm r28.2.2 x0 3 r18.2.1) ((stm r28.2.2 x0 3 r18.2.1) ((stm r28.2.2 x0 3 r18.2.1) x0 5) 0) 0)]) (st1 := [(2, r28.2.1), (2, x0)]) (p1 := 77) (M2 := 33) (tk (n := 7) t103_1 rfl) rfl rfl rfl rfl rfl (fun r38 => ?_)
  refine s_putf2 (pc1 := 80) (c := 11) (tk (n := 8) t103_1 rfl) rfl rfl rfl rfl rfl ?_
  refine s_aload_n (pc1 := 81) (tk (n := 9) t103_1 rfl) rfl rfl rfl ?_
  refine s_new (pc1 := 84) (c := 0) (tk (n := 10) t103_1 rfl) rfl rfl rfl ?_
  refine s_dup2 (pc1 := 85) (tk (n := 11) t103_1 rfl) rfl rfl  ?_
  refine s_call9 (as := [(2, r38.2.1)]) (st1 := [(2, r38.2.1), (2, x0)]) (p1 := 88) (M2 := 0) (tk (n := 12) t103_1 rfl) rfl rfl rfl rfl rfl (fun r43 => ?_)
  refine s_putf2 (pc1 := 91) (c := 11) (tk (n := 13) t103_1 rfl) rfl rfl rfl rfl rfl ?_
  refine s_aload_n (pc1 := 92) (tk (n := 14) t103_1 rfl) rfl rfl rfl ?_
  refine s_new (pc1 := 95) (c := 1) (tk (n := 15) t103_1 rfl) rfl rfl rfl ?_
  refine s_dup2 (pc1 := 96) (tk (n := 16) t103_1 rfl) rfl rfl  ?_
  refine s_call9 (as := [(2, r43.2.1)]) (st1 := [(2, r43.2.1), (2, x0)]) (p1 := 99) (M2 := 7) (tk (n := 17) t103_1 rfl) rfl rfl rfl rfl rfl (fun r48 => ?_)
  refine s_putf2 (pc1 := 102) (c := 11) (tk (n := 18) t103_1 rfl) rfl rfl rfl rfl rfl ?_
  refine s_aload_n (pc1 := 103) (tk (n := 19) t103_1 rfl) rfl rfl rfl ?_
  refine s_new (pc1 := 106) (c := 1) (tk (n := 20) t103_1 rfl) rfl rfl rfl ?_
  refine s_dup2 (pc1 := 107) (tk (n := 21) t103_1 rfl) rfl rfl  ?_
  refine s_call9 (as := [(2, r48.2.1)]) (st1 := [(2, r48.2.1), (2, x0)]) (p1 := 110) (M2 := 7) (tk (n := 22) t103_1 rfl) rfl rfl rfl rfl rfl (fun r53 => ?_)
  refine s_putf2 (pc1 := 113) (c := 11) (tk (n := 23) t103_1 rfl) rfl rfl rfl rfl rfl ?_
  refine s_aload_n (pc1 := 114) (tk (n := 24) t103_1 rfl) rfl rfl rfl ?_
  refine s_new (pc1 := 117) (c := 8) (tk (n := 25) t103_1 rfl) rfl rfl rfl ?_
  refine s_dup2 (pc1 := 118) (tk (n := 26) t103_1 rfl) rfl rfl  ?_
  refine s_call9 (as := [(2, r53.2.1)]) (st1 := [(2, r53.2.1), (2, x0)]) (p1 := 121) (M2 := 59) (tk (n := 27) t103_1 rfl) rfl rfl rfl rfl rfl (fun r58 => ?_)
  refine s_putf2 (pc1 := 124) (c := 11) (tk (n := 28) t103_1 rfl) rfl rfl rfl rfl rfl ?_
  refine s_aload_n (pc1 := 125) (tk (n := 29) t103_1 rfl) rfl rfl rfl ?_
  refine s_new (pc1 := 128) (c := 2) (tk (n := 0) t103_2 rfl) rfl rfl rfl ?_
  refine s_dup2 (pc1 := 129) (tk (n := 1) t103_2 rfl) rfl rfl  ?_
  refine s_call9 (as := [(2, r58.2.1)]) (st1 := [(2, r58.2.1), (2, x0)]) (p1 := 132) (M2 := 14) (tk (n := 2) t103_2 rfl) rfl rfl rfl rfl rfl (fun r63 => ?_)
  refine s_putf2 (pc1 := 135) (c := 11) (tk (n := 3) t103_2 rfl) rfl rfl rfl rfl rfl ?_
  refine s_aload_n (pc1 := 136) (tk (n := 4) t103_2 rfl) rfl rfl rfl ?_
  refine s_new (pc1 := 139) (c := 4) (tk (n := 5) t103_2 rfl) rfl rfl rfl ?_
  refine s_dup2 (pc1 := 140) (tk (n := 6) t103_2 rfl) rfl rfl  ?_
  refine s_call9 (as := [(2, r63.2.1)]) (st1 := [(2, r63.2.1), (2, x0)]) (p1 := 143) (M2 := 26) (tk (n := 7) t103_2 rfl) rfl rfl rfl rfl rfl (fun r68 => ?_)
  refine s_putf2 (pc1 := 146) (c := 11) (tk (n := 8) t103_2 rfl) rfl rfl rfl rfl rfl ?_
  exact s_ret (tk (n := 9) t103_2 rfl) rfl rfl rfl
set_option maxRecDepth 100000 in
set_option maxHeartbeats 4000000 in
theorem e_X11_feed (x0 : Int) (x1 : Int) (x2 : Int) (x3 : Int) (x4 : Int) (x5 : Int) (h : Hq) : vm 104 [(2, x0), (0, x1), (0, x2), (0, x3), (0, x4), (0, x5)] h = if 0 < x0 ∧ (kd x0).1 = 11 then if (h.2 x0 1) ≤ 880 then (if 0 < x0 ∧ (kd x0).1 = 11 then (vm 105 [(2, x0), (0, x1)] h).bind (fun r7 => if 0 < x0 ∧ (kd x0).1 = 11 then (vm 105 [(2, x0), (0, x2)] r7.2).bind (fun r10 => if 0 < x0 ∧ (kd x0).1 = 11 then (vm 105 [(2, x0), (0, x3)] r10.2).bind (fun r13 => if 0 < x0 ∧ (kd x0).1 = 11 then (vm 105 [(2, x0), (0, x4)] r13.2).bind (fun r16 => if 0 < x0 ∧ (kd x0).1 = 11 then (vm 105 [(2, x0), (0, x5)] r16.2).bind (fun r19 => if 0 < x0 ∧ (kd x0).1 = 11 then some (some (0, r19.2.2 x0 1), r19.2) else none) else none) else none) else none) else none) else none) else (some (some (0, (-1)), h)) else none := by
  show vp 104 0 [(2, x0), (0, x1), (0, x2), (0, x3), (0, x4), (0, x5)] [] h = _
  refine s_aload_n (pc1 := 1) (tk (n := 0) t104_0 rfl) rfl rfl rfl ?_
  refine s_getf (pc1 := 4) (c := 11) (t1 := 0) (tk (n := 1) t104_0 rfl) rfl rfl (by decide) rfl rfl ?_
  refine s_sipush (pc1 := 7) (tk (n := 2) t104_0 rfl) rfl rfl  ?_
  refine s_ic_le (pc1 := 10) (pt := 12) (tk (n := 3) t104_0 rfl) rfl rfl rfl ?_ ?_
  · refine s_aload_n (pc1 := 13) (tk (n := 6) t104_0 rfl) rfl rfl rfl ?_
    refine s_iload_n (pc1 := 14) (tk (n := 7) t104_0 rfl) rfl rfl rfl ?_
    refine s_call9 (as := [(2, x0), (0, x1)]) (st1 := []) (p1 := 17) (M2 := 105) (tk (n := 8) t104_0 rfl) rfl rfl rfl rfl rfl (fun r7 => ?_)
    refine s_aload_n (pc1 := 18) (tk (n := 9) t104_0 rfl) rfl rfl rfl ?_
    refine s_iload_n (pc1 := 19) (tk (n := 10) t104_0 rfl) rfl rfl rfl ?_
    refine s_call9 (as := [(2, x0), (0, x2)]) (st1 := []) (p1 := 22) (M2 := 105) (tk (n := 11) t104_0 rfl) rfl rfl rfl rfl rfl (fun r10 => ?_)
    refine s_aload_n (pc1 := 23) (tk (n := 12) t104_0 rfl) rfl rfl rfl ?_
    refine s_iload_n (pc1 := 24) (tk (n := 13) t104_0 rfl) rfl rfl rfl ?_
    refine s_call9 (as := [(2, x0), (0, x3)]) (st1 := []) (p1 := 27) (M2 := 105) (tk (n := 14) t104_0 rfl) rfl rfl rfl rfl rfl (fun r13 => ?_)
    refine s_aload_n (pc1 := 28) (tk (n := 15) t104_0 rfl) rfl rfl rfl ?_
    refine s_iload (pc1 := 30) (tk (n := 16) t104_0 rfl) rfl rfl rfl ?_
    refine s_call9 (as := [(2, x0), (0, x4)]) (st1 := []) (p1 := 33) (M2 := 105) (tk (n := 17) t104_0 rfl) rfl rfl rfl rfl rfl (fun r16 => ?_)
    refine s_aload_n (pc1 := 34) (tk (n := 18) t104_0 rfl) rfl rfl rfl ?_
    refine s_iload (pc1 := 36) (tk (n := 19) t104_0 rfl) rfl rfl rfl ?_
    refine s_call9 (as := [(2, x0), (0, x5)]) (st1 := []) (p1 := 39) (M2 := 105) (tk (n := 20) t104_0 rfl) rfl rfl rfl rfl rfl (fun r19 => ?_)
    refine s_aload_n (pc1 := 40) (tk (n := 21) t104_0 rfl) rfl rfl rfl ?_
    refine s_getf (pc1 := 43) (c := 11) (t1 := 0) (tk (n := 22) t104_0 rfl) rfl rfl (by decide) rfl rfl ?_
    exact s_ret (tk (n := 23) t104_0 rfl) rfl rfl rfl
  · refine s_iconst (pc1 := 11) (tk (n := 4) t104_0 rfl) rfl rfl  ?_
    exact s_ret (tk (n := 5) t104_0 rfl) rfl rfl rfl
set_option maxRecDepth 100000 in
set_option maxHeartbeats 4000000 in
theorem e_X11_append (x0 : Int) (x1 : Int) (h : Hq) : vm 105 [(2, x0), (0, x1)] h = vp 105 3 [(2, x0), (0, x1), (0, 24)] [] h := by
  show vp 105 0 [(2, x0), (0, x1), (9, 0)] [] h = _
  refine s_bipush (pc1 := 2) (tk (n := 0) t105_0 rfl) rfl rfl  ?_
  refine s_istore_n (pc1 := 3) (ls1 := [(2, x0), (0, x1), (0, 24)]) (tk (n := 1) t105_0 rfl) rfl rfl rfl rfl ?_
  rfl
set_option maxRecDepth 100000 in
set_option maxHeartbeats 4000000 in
theorem e_X11_append_3 (x0 : Int) (x1 : Int) (x2 : Int) (h : Hq) : vp 105 3 [(2, x0), (0, x1), (0, x2)] [] h = if x2 < 0 then (some (none, h)) else (if 0 < x0 ∧ (kd x0).1 = 11 then if (h.2 x0 1) ≥ 900 then (some (none, h)) else (if 0 < x0 ∧ (kd x0).1 = 11 then if 0 < x0 ∧ (kd x0).1 = 11 then if 0 < (h.2 x0 0) ∧ (kd (h.2 x0 0)).1 = 21 ∧ 0 ≤ (h.2 x0 1) ∧ (h.2 x0 1) < (kd (h.2 x0 0)).2 then if 0 < x0 ∧ (kd x0).1 = 11 then if (0 < x0 ∧ (kd x0).1 = 11) ∧ True then vp 105 3 [(2, x0), (0, x1), (0, w32 (x2 + (-8)))] [] (h.1, stm (stm h.2 (h.2 x0 0) (h.2 x0 1) (w8 (w8 (bshr x1 x2)))) x0 1 (w32 (((stm h.2 (h.2 x0 0) (h.2 x0 1) (w8 (w8 (bshr x1 x2)))) x0 1) + 1))) else none else none else none else none else none) else none) := by
  refine s_iload_n (pc1 := 4) (tk (n := 2) t105_0 rfl) rfl rfl rfl ?_
  refine s_if_lt (pc1 := 7) (pt := 46) (tk (n := 3) t105_0 rfl) rfl rfl rfl ?_ ?_
  · exact s_ret (tk (n := 25) t105_0 rfl) rfl rfl rfl
  · refine s_aload_n (pc1 := 8) (tk (n := 4) t105_0 rfl) rfl rfl rfl ?_
    refine s_getf (pc1 := 11) (c := 11) (t1 := 0) (tk (n := 5) t105_0 rfl) rfl rfl (by decide) rfl rfl ?_
    refine s_sipush (pc1 := 14) (tk (n := 6) t105_0 rfl) rfl rfl  ?_
    refine s_ic_ge (pc1 := 17) (pt := 46) (tk (n := 7) t105_0 rfl) rfl rfl rfl ?_ ?_
    · exact s_ret (tk (n := 25) t105_0 rfl) rfl rfl rfl
    · refine s_aload_n (pc1 := 18) (tk (n := 8) t105_0 rfl) rfl rfl rfl ?_
      refine s_getf (pc1 := 21) (c := 11) (t1 := 2) (tk (n := 9) t105_0 rfl) rfl rfl (by decide) rfl rfl ?_
      refine s_aload_n (pc1 := 22) (tk (n := 10) t105_0 rfl) rfl rfl rfl ?_
      refine s_getf (pc1 := 25) (c := 11) (t1 := 0) (tk (n := 11) t105_0 rfl) rfl rfl (by decide) rfl rfl ?_
      refine s_iload_n (pc1 := 26) (tk (n := 12) t105_0 rfl) rfl rfl rfl ?_
      refine s_iload_n (pc1 := 27) (tk (n := 13) t105_0 rfl) rfl rfl rfl ?_
      refine s_ishr (pc1 := 28) (tk (n := 14) t105_0 rfl) rfl rfl  ?_
      refine s_i2b (pc1 := 29) (tk (n := 15) t105_0 rfl) rfl rfl  ?_
      refine s_bast1 (pc1 := 30) (tk (n := 16) t105_0 rfl) rfl rfl  ?_
      refine s_aload_n (pc1 := 31) (tk (n := 17) t105_0 rfl) rfl rfl rfl ?_
      refine s_dup2 (pc1 := 32) (tk (n := 18) t105_0 rfl) rfl rfl  ?_
      refine s_getf (pc1 := 35) (c := 11) (t1 := 0) (tk (n := 19) t105_0 rfl) rfl rfl (by decide) rfl rfl ?_
      refine s_iconst (pc1 := 36) (tk (n := 20) t105_0 rfl) rfl rfl  ?_
      refine s_iadd (pc1 := 37) (tk (n := 21) t105_0 rfl) rfl rfl  ?_
      refine s_putf0 (pc1 := 40) (c := 11) (tk (n := 22) t105_0 rfl) rfl rfl rfl rfl rfl ?_
      refine s_iinc (pc1 := 43) (ls1 := [(2, x0), (0, x1), (0, w32 (x2 + (-8)))]) (tk (n := 23) t105_0 rfl) rfl rfl rfl rfl ?_
      refine s_goto (pc1 := 3) (tk (n := 24) t105_0 rfl) rfl rfl ?_
      rfl
set_option maxRecDepth 100000 in
set_option maxHeartbeats 4000000 in
theorem e_X11_end (x0 : Int) (x1 : Int) (h : Hq) : vm 106 [(2, x0), (0, x1)] h = if x1 < 0 then (some (some (0, (-1)), h)) else (if 0 < x0 ∧ (kd x0).1 = 11 then if x1 ≤ (h.2 x0 1) then (if (0 < x0 ∧ (kd x0).1 = 11) ∧ True then some (some (0, x1), (h.1, stm h.2 x0 1 x1)) else none) else (some (some (0, (-1)), h)) else none) := by
  show vp 106 0 [(2, x0), (0, x1)] [] h = _
  refine s_iload_n (pc1 := 1) (tk (n := 0) t106_0 rfl) rfl rfl rfl ?_
  refine s_if_lt (pc1 := 4) (pt := 12) (tk (n := 1) t106_0 rfl) rfl rfl rfl ?_ ?_
  · refine s_iconst (pc1 := 13) (tk (n := 6) t106_0 rfl) rfl rfl  ?_
    exact s_ret (tk (n := 7) t106_0 rfl) rfl rfl rfl
  · refine s_iload_n (pc1 := 5) (tk (n := 2) t106_0 rfl) rfl rfl rfl ?_
    refine s_aload_n (pc1 := 6) (tk (n := 3) t106_0 rfl) rfl rfl rfl ?_
    refine s_getf (pc1 := 9) (c := 11) (t1 := 0) (tk (n := 4) t106_0 rfl) rfl rfl (by decide) rfl rfl ?_
    refine s_ic_le (pc1 := 12) (pt := 14) (tk (n := 5) t106_0 rfl) rfl rfl rfl ?_ ?_
    · refine s_aload_n (pc1 := 15) (tk (n := 8) t106_0 rfl) rfl rfl rfl ?_
      refine s_iload_n (pc1 := 16) (tk (n := 9) t106_0 rfl) rfl rfl rfl ?_
      refine s_putf0 (pc1 := 19) (c := 11) (tk (n := 10) t106_0 rfl) rfl rfl rfl rfl rfl ?_
      refine s_iload_n (pc1 := 20) (tk (n := 11) t106_0 rfl) rfl rfl rfl ?_
      exact s_ret (tk (n := 12) t106_0 rfl) rfl rfl rfl
    · refine s_iconst (pc1 := 13) (tk (n := 6) t106_0 rfl) rfl rfl  ?_
      exact s_ret (tk (n := 7) t106_0 rfl) rfl rfl rfl
set_option maxRecDepth 100000 in
set_option maxHeartbeats 4000000 in
theorem e_X11_bank (x0 : Int) (h : Hq) : vm 107 [(2, x0)] h = if 0 < x0 ∧ (kd x0).1 = 11 then if 0 < x0 ∧ (kd x0).1 = 11 then if 0 < x0 ∧ (kd x0).1 = 11 then if 0 < x0 ∧ (kd x0).1 = 11 then if 0 < (h.2 x0 2) ∧ (kd (h.2 x0 2)).1 = 9 then (vm 65 [(2, h.2 x0 2), (2, h.2 x0 0), (0, h.2 x0 1), (2, h.2 x0 4)] h).bind (fun r9 => if (0 < x0 ∧ (kd x0).1 = 11) ∧ True then if (vx r9) ≠ 0 then (if 0 < x0 ∧ (kd x0).1 = 11 then if 0 < x0 ∧ (kd x0).1 = 11 then if (0 < x0 ∧ (kd x0).1 = 11) ∧ True then if (0 < x0 ∧ (kd x0).1 = 11) ∧ True then if 0 < x0 ∧ (kd x0).1 = 11 then if 0 < x0 ∧ (kd x0).1 = 11 then if 0 < ((stm (stm (stm r9.2.2 x0 1 0) x0 4 ((stm r9.2.2 x0 1 0) x0 3)) x0 3 ((stm r9.2.2 x0 1 0) x0 4)) x0 5) ∧ (kd ((stm (stm (stm r9.2.2 x0 1 0) x0 4 ((stm r9.2.2 x0 1 0) x0 3)) x0 3 ((stm r9.2.2 x0 1 0) x0 4)) x0 5)).1 = 7 then (vm 42 [(2, (stm (stm (stm r9.2.2 x0 1 0) x0 4 ((stm r9.2.2 x0 1 0) x0 3)) x0 3 ((stm r9.2.2 x0 1 0) x0 4)) x0 5), (2, (stm (stm (stm r9.2.2 x0 1 0) x0 4 ((stm r9.2.2 x0 1 0) x0 3)) x0 3 ((stm r9.2.2 x0 1 0) x0 4)) x0 3)] (r9.2.1, stm (stm (stm r9.2.2 x0 1 0) x0 4 ((stm r9.2.2 x0 1 0) x0 3)) x0 3 ((stm r9.2.2 x0 1 0) x0 4))).bind (fun r30 => if 0 < x0 ∧ (kd x0).1 = 11 then (vm 108 [(2, x0)] r30.2).bind (fun r32 => if 0 < x0 ∧ (kd x0).1 = 11 then if 0 < (r32.2.2 x0 6) ∧ (kd (r32.2.2 x0 6)).1 = 0 then (vm 1 [(2, r32.2.2 x0 6)] r32.2).bind (fun r35 => if 0 < x0 ∧ (kd x0).1 = 11 then if 0 < x0 ∧ (kd x0).1 = 11 then if 0 < (r35.2.2 x0 3) ∧ (kd (r35.2.2 x0 3)).1 = 5 then if 0 < x0 ∧ (kd x0).1 = 11 then if 0 < (r35.2.2 x0 3) ∧ (kd (r35.2.2 x0 3)).1 = 5 then if 0 < x0 ∧ (kd x0).1 = 11 then if 0 < (r35.2.2 x0 3) ∧ (kd (r35.2.2 x0 3)).1 = 5 then if 0 < (r35.2.2 x0 7) ∧ (kd (r35.2.2 x0 7)).1 = 1 then (vm 8 [(2, r35.2.2 x0 7), (0, r35.2.2 (r35.2.2 x0 3) 9), (0, r35.2.2 (r35.2.2 x0 3) 10), (0, r35.2.2 (r35.2.2 x0 3) 11)] r35.2).bind (fun r47 => if 0 < x0 ∧ (kd x0).1 = 11 then if 0 < x0 ∧ (kd x0).1 = 11 then if 0 < (r47.2.2 x0 3) ∧ (kd (r47.2.2 x0 3)).1 = 5 then if 0 < x0 ∧ (kd x0).1 = 11 then if 0 < (r47.2.2 x0 3) ∧ (kd (r47.2.2 x0 3)).1 = 5 then if 0 < x0 ∧ (kd x0).1 = 11 then if 0 < (r47.2.2 x0 3) ∧ (kd (r47.2.2 x0 3)).1 = 5 then if 0 < (r47.2.2 x0 8) ∧ (kd (r47.2.2 x0 8)).1 = 1 then (vm 8 [(2, r47.2.2 x0 8), (0, r47.2.2 (r47.2.2 x0 3) 9), (0, r47.2.2 (r47.2.2 x0 3) 10), (0, r47.2.2 (r47.2.2 x0 3) 11)] r47.2).bind (fun r59 => if 0 < x0 ∧ (kd x0).1 = 11 then if 0 < (r59.2.2 x0 9) ∧ (kd (r59.2.2 x0 9)).1 = 8 then (vm 60 [(2, r59.2.2 x0 9)] r59.2).bind (fun r62 => if 0 < x0 ∧ (kd x0).1 = 11 then if 0 < (r62.2.2 x0 3) ∧ (kd (r62.2.2 x0 3)).1 = 5 then some (some (0, r62.2.2 (r62.2.2 x0 3) 5), r62.2) else none else none) else none else none) else none else none else none else none else none else none else none else none) else none else none else none else none else none else none else none else none) else none else none) else none) else none else none else none else none else none else none else none) else (some (some (0, (-1)), (r9.2.1, stm r9.2.2 x0 1 0))) else none) else none else none else none else none else none := by
  show vp 107 0 [(2, x0), (9, 0), (9, 0)] [] h = _
  refine s_aload_n (pc1 := 1) (tk (n := 0) t107_0 rfl) rfl rfl rfl ?_
  refine s_getf (pc1 := 4) (c := 11) (t1 := 2) (tk (n := 1) t107_0 rfl) rfl rfl (by decide) rfl rfl ?_
  refine s_aload_n (pc1 := 5) (tk (n := 2) t107_0 rfl) rfl rfl rfl ?_
  refine s_getf (pc1 := 8) (c := 11) (t1 := 2) (tk (n := 3) t107_0 rfl) rfl rfl (by decide) rfl rfl ?_
  refine s_aload_n (pc1 := 9) (tk (n := 4) t107_0 rfl) rfl rfl rfl ?_
  refine s_getf (pc1 := 12) (c := 11) (t1 := 0) (tk (n := 5) t107_0 rfl) rfl rfl (by decide) rfl rfl ?_
  refine s_aload_n (pc1 := 13) (tk (n := 6) t107_0 rfl) rfl rfl rfl ?_
  refine s_getf (pc1 := 16) (c := 11) (t1 := 2) (tk (n := 7) t107_0 rfl) rfl rfl (by decide) rfl rfl ?_
  refine s_call0 (as := [(2, h.2 x0 2), (2, h.2 x0 0), (0, h.2 x0 1), (2, h.2 x0 4)]) (st1 := []) (p1 := 19) (M2 := 65) (tk (n := 8) t107_0 rfl) rfl rfl rfl rfl rfl (fun r9 => ?_)
  refine s_istore_n (pc1 := 20) (ls1 := [(2, x0), (0, vx r9), (9, 0)]) (tk (n := 9) t107_0 rfl) rfl rfl rfl rfl ?_
  refine s_aload_n (pc1 := 21) (tk (n := 10) t107_0 rfl) rfl rfl rfl ?_
  refine s_iconst (pc1 := 22) (tk (n := 11) t107_0 rfl) rfl rfl  ?_
  refine s_putf0 (pc1 := 25) (c := 11) (tk (n := 12) t107_0 rfl) rfl rfl rfl rfl rfl ?_
  refine s_iload_n (pc1 := 26) (tk (n := 13) t107_0 rfl) rfl rfl rfl ?_
  refine s_if_ne (pc1 := 29) (pt := 31) (tk (n := 14) t107_0 rfl) rfl rfl rfl ?_ ?_
  · refine s_aload_n (pc1 := 32) (tk (n := 17) t107_0 rfl) rfl rfl rfl ?_
    refine s_getf (pc1 := 35) (c := 11) (t1 := 2) (tk (n := 18) t107_0 rfl) rfl rfl (by decide) rfl rfl ?_
    refine s_astore_n (pc1 := 36) (ls1 := [(2, x0), (0, vx r9), (2, (stm r9.2.2 x0 1 0) x0 4)]) (tk (n := 19) t107_0 rfl) rfl rfl rfl rfl ?_
    refine s_aload_n (pc1 := 37) (tk (n := 20) t107_0 rfl) rfl rfl rfl ?_
    refine s_aload_n (pc1 := 38) (tk (n := 21) t107_0 rfl) rfl rfl rfl ?_
    refine s_getf (pc1 := 41) (c := 11) (t1 := 2) (tk (n := 22) t107_0 rfl) rfl rfl (by decide) rfl rfl ?_
    refine s_putf2 (pc1 := 44) (c := 11) (tk (n := 23) t107_0 rfl) rfl rfl rfl rfl rfl ?_
    refine s_aload_n (pc1 := 45) (tk (n := 24) t107_0 rfl) rfl rfl rfl ?_
    refine s_aload_n (pc1 := 46) (tk (n := 25) t107_0 rfl) rfl rfl rfl ?_
    refine s_putf2 (pc1 := 49) (c := 11) (tk (n := 26) t107_0 rfl) rfl rfl rfl rfl rfl ?_
    refine s_aload_n (pc1 := 50) (tk (n := 27) t107_0 rfl) rfl rfl rfl ?_
    refine s_getf (pc1 := 53) (c := 11) (t1 := 2) (tk (n := 28) t107_0 rfl) rfl rfl (by decide) rfl rfl ?_
    refine s_aload_n (pc1 := 54) (tk (n := 29) t107_0 rfl) rfl rfl rfl ?_
    refine s_getf (pc1 := 57) (c := 11) (t1 := 2) (tk (n := 0) t107_1 rfl) rfl rfl (by decide) rfl rfl ?_
    refine s_call9 (as := [(2, (stm (stm (stm r9.2.2 x0 1 0) x0 4 ((stm r9.2.2 x0 1 0) x0 3)) x0 3 ((stm r9.2.2 x0 1 0) x0 4)) x0 5), (2, (stm (stm (stm r9.2.2 x0 1 0) x0 4 ((stm r9.2.2 x0 1 0) x0 3)) x0 3 ((stm r9.2.2 x0 1 0) x0 4)) x0 3)]) (st1 := []) (p1 := 60) (M2 := 42) (tk (n := 1) t107_1 rfl) rfl rfl rfl rfl rfl (fun r30 => ?_)
    refine s_aload_n (pc1 := 61) (tk (n := 2) t107_1 rfl) rfl rfl rfl ?_
    refine s_call9 (as := [(2, x0)]) (st1 := []) (p1 := 64) (M2 := 108) (tk (n := 3) t107_1 rfl) rfl rfl rfl rfl rfl (fun r32 => ?_)
    refine s_aload_n (pc1 := 65) (tk (n := 4) t107_1 rfl) rfl rfl rfl ?_
    refine s_getf (pc1 := 68) (c := 11) (t1 := 2) (tk (n := 5) t107_1 rfl) rfl rfl (by decide) rfl rfl ?_
    refine s_call9 (as := [(2, r32.2.2 x0 6)]) (st1 := []) (p1 := 71) (M2 := 1) (tk (n := 6) t107_1 rfl) rfl rfl rfl rfl rfl (fun r35 => ?_)
    refine s_aload_n (pc1 := 72) (tk (n := 7) t107_1 rfl) rfl rfl rfl ?_
    refine s_getf (pc1 := 75) (c := 11) (t1 := 2) (tk (n := 8) t107_1 rfl) rfl rfl (by decide) rfl rfl ?_
    refine s_aload_n (pc1 := 76) (tk (n := 9) t107_1 rfl) rfl rfl rfl ?_
    refine s_getf (pc1 := 79) (c := 11) (t1 := 2) (tk (n := 10) t107_1 rfl) rfl rfl (by decide) rfl rfl ?_
    refine s_getf (pc1 := 82) (c := 5) (t1 := 0) (tk (n := 11) t107_1 rfl) rfl rfl (by decide) rfl rfl ?_
    refine s_aload_n (pc1 := 83) (tk (n := 12) t107_1 rfl) rfl rfl rfl ?_
    refine s_getf (pc1 := 86) (c := 11) (t1 := 2) (tk (n := 13) t107_1 rfl) rfl rfl (by decide) rfl rfl ?_
    refine s_getf (pc1 := 89) (c := 5) (t1 := 0) (tk (n := 14) t107_1 rfl) rfl rfl (by decide) rfl rfl ?_
    refine s_aload_n (pc1 := 90) (tk (n := 15) t107_1 rfl) rfl rfl rfl ?_
    refine s_getf (pc1 := 93) (c := 11) (t1 := 2) (tk (n := 16) t107_1 rfl) rfl rfl (by decide) rfl rfl ?_
    refine s_getf (pc1 := 96) (c := 5) (t1 := 0) (tk (n := 17) t107_1 rfl) rfl rfl (by decide) rfl rfl ?_
    refine s_call9 (as := [(2, r35.2.2 x0 7), (0, r35.2.2 (r35.2.2 x0 3) 9), (0, r35.2.2 (r35.2.2 x0 3) 10), (0, r35.2.2 (r35.2.2 x0 3) 11)]) (st1 := []) (p1 := 99) (M2 := 8) (tk (n := 18) t107_1 rfl) rfl rfl rfl rfl rfl (fun r47 => ?_)
    refine s_aload_n (pc1 := 100) (tk (n := 19) t107_1 rfl) rfl rfl rfl ?_
    refine s_getf (pc1 := 103) (c := 11) (t1 := 2) (tk (n := 20) t107_1 rfl) rfl rfl (by decide) rfl rfl ?_
    refine s_aload_n (pc1 := 104) (tk (n := 21) t107_1 rfl) rfl rfl rfl ?_
    refine s_getf (pc1 := 107) (c := 11) (t1 := 2) (tk (n := 22) t107_1 rfl) rfl rfl (by decide) rfl rfl ?_
    refine s_getf (pc1 := 110) (c := 5) (t1 := 0) (tk (n := 23) t107_1 rfl) rfl rfl (by decide) rfl rfl ?_
    refine s_aload_n (pc1 := 111) (tk (n := 24) t107_1 rfl) rfl rfl rfl ?_
    refine s_getf (pc1 := 114) (c := 11) (t1 := 2) (tk (n := 25) t107_1 rfl) rfl rfl (by decide) rfl rfl ?_
    refine s_getf (pc1 := 117) (c := 5) (t1 := 0) (tk (n := 26) t107_1 rfl) rfl rfl (by decide) rfl rfl ?_
    refine s_aload_n (pc1 := 118) (tk (n := 27) t107_1 rfl) rfl rfl rfl ?_
    refine s_getf (pc1 := 121) (c := 11) (t1 := 2) (tk (n := 28) t107_1 rfl) rfl rfl (by decide) rfl rfl ?_
    refine s_getf (pc1 := 124) (c := 5) (t1 := 0) (tk (n := 29) t107_1 rfl) rfl rfl (by decide) rfl rfl ?_
    refine s_call9 (as := [(2, r47.2.2 x0 8), (0, r47.2.2 (r47.2.2 x0 3) 9), (0, r47.2.2 (r47.2.2 x0 3) 10), (0, r47.2.2 (r47.2.2 x0 3) 11)]) (st1 := []) (p1 := 127) (M2 := 8) (tk (n := 0) t107_2 rfl) rfl rfl rfl rfl rfl (fun r59 => ?_)
    refine s_aload_n (pc1 := 128) (tk (n := 1) t107_2 rfl) rfl rfl rfl ?_
    refine s_getf (pc1 := 131) (c := 11) (t1 := 2) (tk (n := 2) t107_2 rfl) rfl rfl (by decide) rfl rfl ?_
    refine s_call9 (as := [(2, r59.2.2 x0 9)]) (st1 := []) (p1 := 134) (M2 := 60) (tk (n := 3) t107_2 rfl) rfl rfl rfl rfl rfl (fun r62 => ?_)
    refine s_aload_n (pc1 := 135) (tk (n := 4) t107_2 rfl) rfl rfl rfl ?_
    refine s_getf (pc1 := 138) (c := 11) (t1 := 2) (tk (n := 5) t107_2 rfl) rfl rfl (by decide) rfl rfl ?_
    refine s_getf (pc1 := 141) (c := 5) (t1 := 0) (tk (n := 6) t107_2 rfl) rfl rfl (by decide) rfl rfl ?_
    exact s_ret (tk (n := 7) t107_2 rfl) rfl rfl rfl
  · refine s_iconst (pc1 := 30) (tk (n := 15) t107_0 rfl) rfl rfl  ?_
    exact s_ret (tk (n := 16) t107_0 rfl) rfl rfl rfl
set_option maxRecDepth 100000 in
set_option maxHeartbeats 4000000 in
theorem e_X11_pourFills (x0 : Int) (h : Hq) : vm 108 [(2, x0)] h = vp 108 2 [(2, x0), (0, 0), (9, 0), (9, 0)] [] h := by
  show vp 108 0 [(2, x0), (9, 0), (9, 0), (9, 0)] [] h = _
  refine s_iconst (pc1 := 1) (tk (n := 0) t108_0 rfl) rfl rfl  ?_
  refine s_istore_n (pc1 := 2) (ls1 := [(2, x0), (0, 0), (9, 0), (9, 0)]) (tk (n := 1) t108_0 rfl) rfl rfl rfl rfl ?_
  rfl
set_option maxRecDepth 100000 in
set_option maxHeartbeats 4000000 in
theorem e_X11_pourFills_2 (x0 : Int) (x1 : Int) (z2 : Vl) (z3 : Vl) (h : Hq) : vp 108 2 [(2, x0), (0, x1), z2, z3] [] h = if 0 < x0 ∧ (kd x0).1 = 11 then if 0 < (h.2 x0 3) ∧ (kd (h.2 x0 3)).1 = 5 then if x1 ≥ (h.2 (h.2 x0 3) 7) then (some (none, h)) else (if 0 < x0 ∧ (kd x0).1 = 11 then if 0 < (h.2 x0 3) ∧ (kd (h.2 x0 3)).1 = 5 then if 0 < x0 ∧ (kd x0).1 = 11 then if 0 < (h.2 x0 3) ∧ (kd (h.2 x0 3)).1 = 5 then if (kd (h.2 (h.2 x0 3) 4)).1 = 20 ∧ 0 ≤ (w32 (4 * x1)) ∧ (w32 (4 * x1)) < (kd (h.2 (h.2 x0 3) 4)).2 then if (kd (h.2 (h.2 x0 3) 3)).1 = 25 ∧ 0 ≤ (h.2 (h.2 (h.2 x0 3) 4) (w32 (4 * x1))) ∧ (h.2 (h.2 (h.2 x0 3) 4) (w32 (4 * x1))) < (kd (h.2 (h.2 x0 3) 3)).2 then if (kd (h.2 (h.2 x0 3) 4)).1 = 20 ∧ 0 ≤ (w32 ((w32 (4 * x1)) + 1)) ∧ (w32 ((w32 (4 * x1)) + 1)) < (kd (h.2 (h.2 x0 3) 4)).2 then if (kd (h.2 (h.2 x0 3) 4)).1 = 20 ∧ 0 ≤ (w32 ((w32 (4 * x1)) + 2)) ∧ (w32 ((w32 (4 * x1)) + 2)) < (kd (h.2 (h.2 x0 3) 4)).2 then if (kd (h.2 (h.2 x0 3) 4)).1 = 20 ∧ 0 ≤ (w32 ((w32 (4 * x1)) + 3)) ∧ (w32 ((w32 (4 * x1)) + 3)) < (kd (h.2 (h.2 x0 3) 4)).2 then if 0 < (h.2 (h.2 (h.2 x0 3) 3) (h.2 (h.2 (h.2 x0 3) 4) (w32 (4 * x1)))) ∧ (kd (h.2 (h.2 (h.2 x0 3) 3) (h.2 (h.2 (h.2 x0 3) 4) (w32 (4 * x1))))).1 = 10 then (vm 99 [(2, h.2 (h.2 (h.2 x0 3) 3) (h.2 (h.2 (h.2 x0 3) 4) (w32 (4 * x1)))), (0, h.2 (h.2 (h.2 x0 3) 4) (w32 ((w32 (4 * x1)) + 1))), (0, h.2 (h.2 (h.2 x0 3) 4) (w32 ((w32 (4 * x1)) + 2))), (0, h.2 (h.2 (h.2 x0 3) 4) (w32 ((w32 (4 * x1)) + 3)))] h).bind (fun r42 => vp 108 2 [(2, x0), (0, w32 (x1 + 1)), (2, h.2 (h.2 x0 3) 4), (2, h.2 (h.2 (h.2 x0 3) 3) (h.2 (h.2 (h.2 x0 3) 4) (w32 (4 * x1))))] [] r42.2) else none else none else none else none else none else none else none else none else none else none) else none else none := by
  refine s_fg (ls1 := [(2, x0), (0, x1), (9, 0), (9, 0)]) (tk (n := 2) t108_0 rfl) rfl ?_
  refine s_iload_n (pc1 := 3) (tk (n := 2) t108_0 rfl) rfl rfl rfl ?_
  refine s_aload_n (pc1 := 4) (tk (n := 3) t108_0 rfl) rfl rfl rfl ?_
  refine s_getf (pc1 := 7) (c := 11) (t1 := 2) (tk (n := 4) t108_0 rfl) rfl rfl (by decide) rfl rfl ?_
  refine s_getf (pc1 := 10) (c := 5) (t1 := 0) (tk (n := 5) t108_0 rfl) rfl rfl (by decide) rfl rfl ?_
  refine s_ic_ge (pc1 := 13) (pt := 66) (tk (n := 6) t108_0 rfl) rfl rfl rfl ?_ ?_
  · exact s_ret (tk (n := 16) t108_1 rfl) rfl rfl rfl
  · refine s_aload_n (pc1 := 14) (tk (n := 7) t108_0 rfl) rfl rfl rfl ?_
    refine s_getf (pc1 := 17) (c := 11) (t1 := 2) (tk (n := 8) t108_0 rfl) rfl rfl (by decide) rfl rfl ?_
    refine s_getf (pc1 := 20) (c := 5) (t1 := 2) (tk (n := 9) t108_0 rfl) rfl rfl (by decide) rfl rfl ?_
    refine s_astore_n (pc1 := 21) (ls1 := [(2, x0), (0, x1), (2, h.2 (h.2 x0 3) 4), (9, 0)]) (tk (n := 10) t108_0 rfl) rfl rfl rfl rfl ?_
    refine s_aload_n (pc1 := 22) (tk (n := 11) t108_0 rfl) rfl rfl rfl ?_
    refine s_getf (pc1 := 25) (c := 11) (t1 := 2) (tk (n := 12) t108_0 rfl) rfl rfl (by decide) rfl rfl ?_
    refine s_getf (pc1 := 28) (c := 5) (t1 := 2) (tk (n := 13) t108_0 rfl) rfl rfl (by decide) rfl rfl ?_
    refine s_aload_n (pc1 := 29) (tk (n := 14) t108_0 rfl) rfl rfl rfl ?_
    refine s_iconst (pc1 := 30) (tk (n := 15) t108_0 rfl) rfl rfl  ?_
    refine s_iload_n (pc1 := 31) (tk (n := 16) t108_0 rfl) rfl rfl rfl ?_
    refine s_imul (pc1 := 32) (tk (n := 17) t108_0 rfl) rfl rfl  ?_
    refine s_iald (pc1 := 33) (tk (n := 18) t108_0 rfl) rfl rfl  ?_
    refine s_aald (pc1 := 34) (c := 25) (tk (n := 19) t108_0 rfl) rfl rfl rfl ?_
    refine s_astore_n (pc1 := 35) (ls1 := [(2, x0), (0, x1), (2, h.2 (h.2 x0 3) 4), (2, h.2 (h.2 (h.2 x0 3) 3) (h.2 (h.2 (h.2 x0 3) 4) (w32 (4 * x1))))]) (tk (n := 20) t108_0 rfl) rfl rfl rfl rfl ?_
    refine s_aload_n (pc1 := 36) (tk (n := 21) t108_0 rfl) rfl rfl rfl ?_
    refine s_aload_n (pc1 := 37) (tk (n := 22) t108_0 rfl) rfl rfl rfl ?_
    refine s_iconst (pc1 := 38) (tk (n := 23) t108_0 rfl) rfl rfl  ?_
    refine s_iload_n (pc1 := 39) (tk (n := 24) t108_0 rfl) rfl rfl rfl ?_
    refine s_imul (pc1 := 40) (tk (n := 25) t108_0 rfl) rfl rfl  ?_
    refine s_iconst (pc1 := 41) (tk (n := 26) t108_0 rfl) rfl rfl  ?_
    refine s_iadd (pc1 := 42) (tk (n := 27) t108_0 rfl) rfl rfl  ?_
    refine s_iald (pc1 := 43) (tk (n := 28) t108_0 rfl) rfl rfl  ?_
    refine s_aload_n (pc1 := 44) (tk (n := 29) t108_0 rfl) rfl rfl rfl ?_
    refine s_iconst (pc1 := 45) (tk (n := 0) t108_1 rfl) rfl rfl  ?_
    refine s_iload_n (pc1 := 46) (tk (n := 1) t108_1 rfl) rfl rfl rfl ?_
    refine s_imul (pc1 := 47) (tk (n := 2) t108_1 rfl) rfl rfl  ?_
    refine s_iconst (pc1 := 48) (tk (n := 3) t108_1 rfl) rfl rfl  ?_
    refine s_iadd (pc1 := 49) (tk (n := 4) t108_1 rfl) rfl rfl  ?_
    refine s_iald (pc1 := 50) (tk (n := 5) t108_1 rfl) rfl rfl  ?_
    refine s_aload_n (pc1 := 51) (tk (n := 6) t108_1 rfl) rfl rfl rfl ?_
    refine s_iconst (pc1 := 52) (tk (n := 7) t108_1 rfl) rfl rfl  ?_
    refine s_iload_n (pc1 := 53) (tk (n := 8) t108_1 rfl) rfl rfl rfl ?_
    refine s_imul (pc1 := 54) (tk (n := 9) t108_1 rfl) rfl rfl  ?_
    refine s_iconst (pc1 := 55) (tk (n := 10) t108_1 rfl) rfl rfl  ?_
    refine s_iadd (pc1 := 56) (tk (n := 11) t108_1 rfl) rfl rfl  ?_
    refine s_iald (pc1 := 57) (tk (n := 12) t108_1 rfl) rfl rfl  ?_
    refine s_call9 (as := [(2, h.2 (h.2 (h.2 x0 3) 3) (h.2 (h.2 (h.2 x0 3) 4) (w32 (4 * x1)))), (0, h.2 (h.2 (h.2 x0 3) 4) (w32 ((w32 (4 * x1)) + 1))), (0, h.2 (h.2 (h.2 x0 3) 4) (w32 ((w32 (4 * x1)) + 2))), (0, h.2 (h.2 (h.2 x0 3) 4) (w32 ((w32 (4 * x1)) + 3)))]) (st1 := []) (p1 := 60) (M2 := 99) (tk (n := 13) t108_1 rfl) rfl rfl rfl rfl rfl (fun r42 => ?_)
    refine s_iinc (pc1 := 63) (ls1 := [(2, x0), (0, w32 (x1 + 1)), (2, h.2 (h.2 x0 3) 4), (2, h.2 (h.2 (h.2 x0 3) 3) (h.2 (h.2 (h.2 x0 3) 4) (w32 (4 * x1))))]) (tk (n := 14) t108_1 rfl) rfl rfl rfl rfl ?_
    refine s_goto (pc1 := 2) (tk (n := 15) t108_1 rfl) rfl rfl ?_
    rfl
set_option maxRecDepth 100000 in
set_option maxHeartbeats 4000000 in
theorem e_X11_fault (x0 : Int) (x1 : Int) (h : Hq) : vm 109 [(2, x0), (0, x1)] h = if x1 ≠ 0 then (if x1 ≠ 1 then (some (some (0, (-1)), h)) else (if 0 < x0 ∧ (kd x0).1 = 11 then if 0 < (h.2 x0 2) ∧ (kd (h.2 x0 2)).1 = 9 then some (some (0, h.2 (h.2 x0 2) 3), h) else none else none)) else (if 0 < x0 ∧ (kd x0).1 = 11 then if 0 < (h.2 x0 2) ∧ (kd (h.2 x0 2)).1 = 9 then some (some (0, h.2 (h.2 x0 2) 2), h) else none else none) := by
  show vp 109 0 [(2, x0), (0, x1)] [] h = _
  refine s_iload_n (pc1 := 1) (tk (n := 0) t109_0 rfl) rfl rfl rfl ?_
  refine s_if_ne (pc1 := 4) (pt := 12) (tk (n := 1) t109_0 rfl) rfl rfl rfl ?_ ?_
  · refine s_iload_n (pc1 := 13) (tk (n := 6) t109_0 rfl) rfl rfl rfl ?_
    refine s_iconst (pc1 := 14) (tk (n := 7) t109_0 rfl) rfl rfl  ?_
    refine s_ic_ne (pc1 := 17) (pt := 27) (tk (n := 8) t109_0 rfl) rfl rfl rfl ?_ ?_
    · refine s_iconst (pc1 := 28) (tk (n := 13) t109_0 rfl) rfl rfl  ?_
      exact s_ret (tk (n := 14) t109_0 rfl) rfl rfl rfl
    · refine s_aload_n (pc1 := 18) (tk (n := 9) t109_0 rfl) rfl rfl rfl ?_
      refine s_getf (pc1 := 21) (c := 11) (t1 := 2) (tk (n := 10) t109_0 rfl) rfl rfl (by decide) rfl rfl ?_
      refine s_getf (pc1 := 24) (c := 9) (t1 := 0) (tk (n := 11) t109_0 rfl) rfl rfl (by decide) rfl rfl ?_
      refine s_goto (pc1 := 28) (tk (n := 12) t109_0 rfl) rfl rfl ?_
      exact s_ret (tk (n := 14) t109_0 rfl) rfl rfl rfl
  · refine s_aload_n (pc1 := 5) (tk (n := 2) t109_0 rfl) rfl rfl rfl ?_
    refine s_getf (pc1 := 8) (c := 11) (t1 := 2) (tk (n := 3) t109_0 rfl) rfl rfl (by decide) rfl rfl ?_
    refine s_getf (pc1 := 11) (c := 9) (t1 := 0) (tk (n := 4) t109_0 rfl) rfl rfl (by decide) rfl rfl ?_
    exact s_ret (tk (n := 5) t109_0 rfl) rfl rfl rfl
set_option maxRecDepth 100000 in
set_option maxHeartbeats 4000000 in
theorem e_X11_kind (x0 : Int) (x1 : Int) (h : Hq) : vm 110 [(2, x0), (0, x1)] h = if 0 < x0 ∧ (kd x0).1 = 11 then if 0 < (h.2 x0 5) ∧ (kd (h.2 x0 5)).1 = 7 then (vm 45 [(2, h.2 x0 5), (0, x1)] h).bind (fun r4 => if (vx r4) = 0 then (some (some (0, (-1)), r4.2)) else (if 0 < x0 ∧ (kd x0).1 = 11 then if 0 < (r4.2.2 x0 5) ∧ (kd (r4.2.2 x0 5)).1 = 7 then if (kd (r4.2.2 (r4.2.2 x0 5) 1)).1 = 20 ∧ 0 ≤ x1 ∧ x1 < (kd (r4.2.2 (r4.2.2 x0 5) 1)).2 then some (some (0, r4.2.2 (r4.2.2 (r4.2.2 x0 5) 1) x1), r4.2) else none else none else none)) else none else none := by
  show vp 110 0 [(2, x0), (0, x1)] [] h = _
  refine s_aload_n (pc1 := 1) (tk (n := 0) t110_0 rfl) rfl rfl rfl ?_
  refine s_getf (pc1 := 4) (c := 11) (t1 := 2) (tk (n := 1) t110_0 rfl) rfl rfl (by decide) rfl rfl ?_
  refine s_iload_n (pc1 := 5) (tk (n := 2) t110_0 rfl) rfl rfl rfl ?_
  refine s_call0 (as := [(2, h.2 x0 5), (0, x1)]) (st1 := []) (p1 := 8) (M2 := 45) (tk (n := 3) t110_0 rfl) rfl rfl rfl rfl rfl (fun r4 => ?_)
  refine s_if_eq (pc1 := 11) (pt := 23) (tk (n := 4) t110_0 rfl) rfl rfl rfl ?_ ?_
  · refine s_iconst (pc1 := 24) (tk (n := 11) t110_0 rfl) rfl rfl  ?_
    exact s_ret (tk (n := 12) t110_0 rfl) rfl rfl rfl
  · refine s_aload_n (pc1 := 12) (tk (n := 5) t110_0 rfl) rfl rfl rfl ?_
    refine s_getf (pc1 := 15) (c := 11) (t1 := 2) (tk (n := 6) t110_0 rfl) rfl rfl (by decide) rfl rfl ?_
    refine s_getf (pc1 := 18) (c := 7) (t1 := 2) (tk (n := 7) t110_0 rfl) rfl rfl (by decide) rfl rfl ?_
    refine s_iload_n (pc1 := 19) (tk (n := 8) t110_0 rfl) rfl rfl rfl ?_
    refine s_iald (pc1 := 20) (tk (n := 9) t110_0 rfl) rfl rfl  ?_
    refine s_goto (pc1 := 24) (tk (n := 10) t110_0 rfl) rfl rfl ?_
    exact s_ret (tk (n := 12) t110_0 rfl) rfl rfl rfl
set_option maxRecDepth 100000 in
set_option maxHeartbeats 4000000 in
theorem e_X11_length (x0 : Int) (x1 : Int) (h : Hq) : vm 111 [(2, x0), (0, x1)] h = if 0 < x0 ∧ (kd x0).1 = 11 then if 0 < (h.2 x0 5) ∧ (kd (h.2 x0 5)).1 = 7 then (vm 45 [(2, h.2 x0 5), (0, x1)] h).bind (fun r4 => if (vx r4) ≠ 0 then (if 0 < x0 ∧ (kd x0).1 = 11 then if 0 < (r4.2.2 x0 5) ∧ (kd (r4.2.2 x0 5)).1 = 7 then if (kd (r4.2.2 (r4.2.2 x0 5) 1)).1 = 20 ∧ 0 ≤ x1 ∧ x1 < (kd (r4.2.2 (r4.2.2 x0 5) 1)).2 then if (r4.2.2 (r4.2.2 (r4.2.2 x0 5) 1) x1) ≠ 10 then (if 0 < x0 ∧ (kd x0).1 = 11 then if 0 < (r4.2.2 x0 5) ∧ (kd (r4.2.2 x0 5)).1 = 7 then if (kd (r4.2.2 (r4.2.2 x0 5) 1)).1 = 20 ∧ 0 ≤ x1 ∧ x1 < (kd (r4.2.2 (r4.2.2 x0 5) 1)).2 then if (r4.2.2 (r4.2.2 (r4.2.2 x0 5) 1) x1) ≠ 11 then (if 0 < x0 ∧ (kd x0).1 = 11 then if 0 < (r4.2.2 x0 5) ∧ (kd (r4.2.2 x0 5)).1 = 7 then if (kd (r4.2.2 (r4.2.2 x0 5) 2)).1 = 20 ∧ 0 ≤ x1 ∧ x1 < (kd (r4.2.2 (r4.2.2 x0 5) 2)).2 then some (some (0, r4.2.2 (r4.2.2 (r4.2.2 x0 5) 2) x1), r4.2) else none else none else none) else (some (some (0, (-3)), r4.2)) else none else none else none) else (some (some (0, (-2)), r4.2)) else none else none else none) else (some (some (0, (-1)), r4.2))) else none else none := by
  show vp 111 0 [(2, x0), (0, x1)] [] h = _
  refine s_aload_n (pc1 := 1) (tk (n := 0) t111_0 rfl) rfl rfl rfl ?_
  refine s_getf (pc1 := 4) (c := 11) (t1 := 2) (tk (n := 1) t111_0 rfl) rfl rfl (by decide) rfl rfl ?_
  refine s_iload_n (pc1 := 5) (tk (n := 2) t111_0 rfl) rfl rfl rfl ?_
  refine s_call0 (as := [(2, h.2 x0 5), (0, x1)]) (st1 := []) (p1 := 8) (M2 := 45) (tk (n := 3) t111_0 rfl) rfl rfl rfl rfl rfl (fun r4 => ?_)
  refine s_if_ne (pc1 := 11) (pt := 13) (tk (n := 4) t111_0 rfl) rfl rfl rfl ?_ ?_
  · refine s_aload_n (pc1 := 14) (tk (n := 7) t111_0 rfl) rfl rfl rfl ?_
    refine s_getf (pc1 := 17) (c := 11) (t1 := 2) (tk (n := 8) t111_0 rfl) rfl rfl (by decide) rfl rfl ?_
    refine s_getf (pc1 := 20) (c := 7) (t1 := 2) (tk (n := 9) t111_0 rfl) rfl rfl (by decide) rfl rfl ?_
    refine s_iload_n (pc1 := 21) (tk (n := 10) t111_0 rfl) rfl rfl rfl ?_
    refine s_iald (pc1 := 22) (tk (n := 11) t111_0 rfl) rfl rfl  ?_
    refine s_bipush (pc1 := 24) (tk (n := 12) t111_0 rfl) rfl rfl  ?_
    refine s_ic_ne (pc1 := 27) (pt := 30) (tk (n := 13) t111_0 rfl) rfl rfl rfl ?_ ?_
    · refine s_aload_n (pc1 := 31) (tk (n := 16) t111_0 rfl) rfl rfl rfl ?_
      refine s_getf (pc1 := 34) (c := 11) (t1 := 2) (tk (n := 17) t111_0 rfl) rfl rfl (by decide) rfl rfl ?_
      refine s_getf (pc1 := 37) (c := 7) (t1 := 2) (tk (n := 18) t111_0 rfl) rfl rfl (by decide) rfl rfl ?_
      refine s_iload_n (pc1 := 38) (tk (n := 19) t111_0 rfl) rfl rfl rfl ?_
      refine s_iald (pc1 := 39) (tk (n := 20) t111_0 rfl) rfl rfl  ?_
      refine s_bipush (pc1 := 41) (tk (n := 21) t111_0 rfl) rfl rfl  ?_
      refine s_ic_ne (pc1 := 44) (pt := 49) (tk (n := 22) t111_0 rfl) rfl rfl rfl ?_ ?_
      · refine s_aload_n (pc1 := 50) (tk (n := 25) t111_0 rfl) rfl rfl rfl ?_
        refine s_getf (pc1 := 53) (c := 11) (t1 := 2) (tk (n := 26) t111_0 rfl) rfl rfl (by decide) rfl rfl ?_
        refine s_getf (pc1 := 56) (c := 7) (t1 := 2) (tk (n := 27) t111_0 rfl) rfl rfl (by decide) rfl rfl ?_
        refine s_iload_n (pc1 := 57) (tk (n := 28) t111_0 rfl) rfl rfl rfl ?_
        refine s_iald (pc1 := 58) (tk (n := 29) t111_0 rfl) rfl rfl  ?_
        exact s_ret (tk (n := 0) t111_1 rfl) rfl rfl rfl
      · refine s_bipush (pc1 := 46) (tk (n := 23) t111_0 rfl) rfl rfl  ?_
        refine s_goto (pc1 := 58) (tk (n := 24) t111_0 rfl) rfl rfl ?_
        exact s_ret (tk (n := 0) t111_1 rfl) rfl rfl rfl
    · refine s_bipush (pc1 := 29) (tk (n := 14) t111_0 rfl) rfl rfl  ?_
      exact s_ret (tk (n := 15) t111_0 rfl) rfl rfl rfl
  · refine s_iconst (pc1 := 12) (tk (n := 5) t111_0 rfl) rfl rfl  ?_
    exact s_ret (tk (n := 6) t111_0 rfl) rfl rfl rfl
set_option maxRecDepth 100000 in
set_option maxHeartbeats 4000000 in
theorem e_X11_peek (x0 : Int) (x1 : Int) (x2 : Int) (x3 : Int) (h : Hq) : vm 112 [(2, x0), (0, x1), (0, x2), (0, x3)] h = if 0 < x0 ∧ (kd x0).1 = 11 then if 0 < (h.2 x0 5) ∧ (kd (h.2 x0 5)).1 = 7 then (vm 45 [(2, h.2 x0 5), (0, x1)] h).bind (fun r4 => if (vx r4) = 0 then (some (some (0, (-1000000001)), r4.2)) else (if x2 < 0 then (some (some (0, (-1000000001)), r4.2)) else (if x2 ≤ 8 then (if 0 < x0 ∧ (kd x0).1 = 11 then if 0 < (r4.2.2 x0 5) ∧ (kd (r4.2.2 x0 5)).1 = 7 then (vm 53 [(2, r4.2.2 x0 5), (0, x1), (0, x2), (0, x3)] r4.2).bind (fun r16 => if (vx r16) = 0 then (if 0 < x0 ∧ (kd x0).1 = 11 then if 0 < (r16.2.2 x0 5) ∧ (kd (r16.2.2 x0 5)).1 = 7 then (vm 47 [(2, r16.2.2 x0 5), (0, x1), (0, x3)] r16.2).bind (fun r24 => some (some (0, vx r24), r24.2)) else none else none) else (some (some (0, w32 ((-1000000001) - (vx r16))), r16.2))) else none else none) else (some (some (0, (-1000000001)), r4.2))))) else none else none := by
  show vp 112 0 [(2, x0), (0, x1), (0, x2), (0, x3), (9, 0)] [] h = _
  refine s_aload_n (pc1 := 1) (tk (n := 0) t112_0 rfl) rfl rfl rfl ?_
  refine s_getf (pc1 := 4) (c := 11) (t1 := 2) (tk (n := 1) t112_0 rfl) rfl rfl (by decide) rfl rfl ?_
  refine s_iload_n (pc1 := 5) (tk (n := 2) t112_0 rfl) rfl rfl rfl ?_
  refine s_call0 (as := [(2, h.2 x0 5), (0, x1)]) (st1 := []) (p1 := 8) (M2 := 45) (tk (n := 3) t112_0 rfl) rfl rfl rfl rfl rfl (fun r4 => ?_)
  refine s_if_eq (pc1 := 11) (pt := 21) (tk (n := 4) t112_0 rfl) rfl rfl rfl ?_ ?_
  · refine s_ldc (pc1 := 23) (tk (n := 10) t112_0 rfl) rfl rfl  ?_
    exact s_ret (tk (n := 11) t112_0 rfl) rfl rfl rfl
  · refine s_iload_n (pc1 := 12) (tk (n := 5) t112_0 rfl) rfl rfl rfl ?_
    refine s_if_lt (pc1 := 15) (pt := 21) (tk (n := 6) t112_0 rfl) rfl rfl rfl ?_ ?_
    · refine s_ldc (pc1 := 23) (tk (n := 10) t112_0 rfl) rfl rfl  ?_
      exact s_ret (tk (n := 11) t112_0 rfl) rfl rfl rfl
    · refine s_iload_n (pc1 := 16) (tk (n := 7) t112_0 rfl) rfl rfl rfl ?_
      refine s_bipush (pc1 := 18) (tk (n := 8) t112_0 rfl) rfl rfl  ?_
      refine s_ic_le (pc1 := 21) (pt := 24) (tk (n := 9) t112_0 rfl) rfl rfl rfl ?_ ?_
      · refine s_aload_n (pc1 := 25) (tk (n := 12) t112_0 rfl) rfl rfl rfl ?_
        refine s_getf (pc1 := 28) (c := 11) (t1 := 2) (tk (n := 13) t112_0 rfl) rfl rfl (by decide) rfl rfl ?_
        refine s_iload_n (pc1 := 29) (tk (n := 14) t112_0 rfl) rfl rfl rfl ?_
        refine s_iload_n (pc1 := 30) (tk (n := 15) t112_0 rfl) rfl rfl rfl ?_
        refine s_iload_n (pc1 := 31) (tk (n := 16) t112_0 rfl) rfl rfl rfl ?_
        refine s_call0 (as := [(2, r4.2.2 x0 5), (0, x1), (0, x2), (0, x3)]) (st1 := []) (p1 := 34) (M2 := 53) (tk (n := 17) t112_0 rfl) rfl rfl rfl rfl rfl (fun r16 => ?_)
        refine s_istore (pc1 := 36) (ls1 := [(2, x0), (0, x1), (0, x2), (0, x3), (0, vx r16)]) (tk (n := 18) t112_0 rfl) rfl rfl rfl rfl ?_
        refine s_iload (pc1 := 38) (tk (n := 19) t112_0 rfl) rfl rfl rfl ?_
        refine s_if_eq (pc1 := 41) (pt := 49) (tk (n := 20) t112_0 rfl) rfl rfl rfl ?_ ?_
        · refine s_aload_n (pc1 := 50) (tk (n := 25) t112_0 rfl) rfl rfl rfl ?_
          refine s_getf (pc1 := 53) (c := 11) (t1 := 2) (tk (n := 26) t112_0 rfl) rfl rfl (by decide) rfl rfl ?_
          refine s_iload_n (pc1 := 54) (tk (n := 27) t112_0 rfl) rfl rfl rfl ?_
          refine s_iload_n (pc1 := 55) (tk (n := 28) t112_0 rfl) rfl rfl rfl ?_
          refine s_call0 (as := [(2, r16.2.2 x0 5), (0, x1), (0, x3)]) (st1 := []) (p1 := 58) (M2 := 47) (tk (n := 29) t112_0 rfl) rfl rfl rfl rfl rfl (fun r24 => ?_)
          exact s_ret (tk (n := 0) t112_1 rfl) rfl rfl rfl
        · refine s_ldc (pc1 := 43) (tk (n := 21) t112_0 rfl) rfl rfl  ?_
          refine s_iload (pc1 := 45) (tk (n := 22) t112_0 rfl) rfl rfl rfl ?_
          refine s_isub (pc1 := 46) (tk (n := 23) t112_0 rfl) rfl rfl  ?_
          refine s_goto (pc1 := 58) (tk (n := 24) t112_0 rfl) rfl rfl ?_
          exact s_ret (tk (n := 0) t112_1 rfl) rfl rfl rfl
      · refine s_ldc (pc1 := 23) (tk (n := 10) t112_0 rfl) rfl rfl  ?_
        exact s_ret (tk (n := 11) t112_0 rfl) rfl rfl rfl
set_option maxRecDepth 100000 in
set_option maxHeartbeats 4000000 in
theorem e_X11_poke (x0 : Int) (x1 : Int) (x2 : Int) (x3 : Int) (x4 : Int) (h : Hq) : vm 113 [(2, x0), (0, x1), (0, x2), (0, x3), (0, x4)] h = if 0 < x0 ∧ (kd x0).1 = 11 then if 0 < (h.2 x0 5) ∧ (kd (h.2 x0 5)).1 = 7 then (vm 45 [(2, h.2 x0 5), (0, x1)] h).bind (fun r4 => if (vx r4) = 0 then (some (some (0, (-1)), r4.2)) else (if x2 < 1 then (some (some (0, (-1)), r4.2)) else (if x2 > 8 then (some (some (0, (-1)), r4.2)) else ((vm 117 [(0, x4), (0, 1000000)] r4.2).bind (fun r14 => if (vx r14) ≠ 0 then (if 0 < x0 ∧ (kd x0).1 = 11 then if 0 < (r14.2.2 x0 5) ∧ (kd (r14.2.2 x0 5)).1 = 7 then (vm 54 [(2, r14.2.2 x0 5), (0, x1), (0, x2), (0, x3)] r14.2).bind (fun r21 => if (vx r21) ≠ 0 then (some (some (0, vx r21), r21.2)) else (if 0 < x0 ∧ (kd x0).1 = 11 then (vm 115 [(2, x0), (0, x1), (0, x3), (0, x2), (0, x4)] r21.2).bind (fun r30 => some (some (0, vx r21), r30.2)) else none)) else none else none) else (some (some (0, (-1)), r14.2))))))) else none else none := by
  show vp 113 0 [(2, x0), (0, x1), (0, x2), (0, x3), (0, x4), (9, 0)] [] h = _
  refine s_aload_n (pc1 := 1) (tk (n := 0) t113_0 rfl) rfl rfl rfl ?_
  refine s_getf (pc1 := 4) (c := 11) (t1 := 2) (tk (n := 1) t113_0 rfl) rfl rfl (by decide) rfl rfl ?_
  refine s_iload_n (pc1 := 5) (tk (n := 2) t113_0 rfl) rfl rfl rfl ?_
  refine s_call0 (as := [(2, h.2 x0 5), (0, x1)]) (st1 := []) (p1 := 8) (M2 := 45) (tk (n := 3) t113_0 rfl) rfl rfl rfl rfl rfl (fun r4 => ?_)
  refine s_if_eq (pc1 := 11) (pt := 32) (tk (n := 4) t113_0 rfl) rfl rfl rfl ?_ ?_
  · refine s_iconst (pc1 := 33) (tk (n := 15) t113_0 rfl) rfl rfl  ?_
    exact s_ret (tk (n := 16) t113_0 rfl) rfl rfl rfl
  · refine s_iload_n (pc1 := 12) (tk (n := 5) t113_0 rfl) rfl rfl rfl ?_
    refine s_iconst (pc1 := 13) (tk (n := 6) t113_0 rfl) rfl rfl  ?_
    refine s_ic_lt (pc1 := 16) (pt := 32) (tk (n := 7) t113_0 rfl) rfl rfl rfl ?_ ?_
    · refine s_iconst (pc1 := 33) (tk (n := 15) t113_0 rfl) rfl rfl  ?_
      exact s_ret (tk (n := 16) t113_0 rfl) rfl rfl rfl
    · refine s_iload_n (pc1 := 17) (tk (n := 8) t113_0 rfl) rfl rfl rfl ?_
      refine s_bipush (pc1 := 19) (tk (n := 9) t113_0 rfl) rfl rfl  ?_
      refine s_ic_gt (pc1 := 22) (pt := 32) (tk (n := 10) t113_0 rfl) rfl rfl rfl ?_ ?_
      · refine s_iconst (pc1 := 33) (tk (n := 15) t113_0 rfl) rfl rfl  ?_
        exact s_ret (tk (n := 16) t113_0 rfl) rfl rfl rfl
      · refine s_iload (pc1 := 24) (tk (n := 11) t113_0 rfl) rfl rfl rfl ?_
        refine s_ldc (pc1 := 26) (tk (n := 12) t113_0 rfl) rfl rfl  ?_
        refine s_callS0 (as := [(0, x4), (0, 1000000)]) (st1 := []) (p1 := 29) (M2 := 117) (tk (n := 13) t113_0 rfl) rfl rfl rfl rfl rfl (fun r14 => ?_)
        refine s_if_ne (pc1 := 32) (pt := 34) (tk (n := 14) t113_0 rfl) rfl rfl rfl ?_ ?_
        · refine s_aload_n (pc1 := 35) (tk (n := 17) t113_0 rfl) rfl rfl rfl ?_
          refine s_getf (pc1 := 38) (c := 11) (t1 := 2) (tk (n := 18) t113_0 rfl) rfl rfl (by decide) rfl rfl ?_
          refine s_iload_n (pc1 := 39) (tk (n := 19) t113_0 rfl) rfl rfl rfl ?_
          refine s_iload_n (pc1 := 40) (tk (n := 20) t113_0 rfl) rfl rfl rfl ?_
          refine s_iload_n (pc1 := 41) (tk (n := 21) t113_0 rfl) rfl rfl rfl ?_
          refine s_call0 (as := [(2, r14.2.2 x0 5), (0, x1), (0, x2), (0, x3)]) (st1 := []) (p1 := 44) (M2 := 54) (tk (n := 22) t113_0 rfl) rfl rfl rfl rfl rfl (fun r21 => ?_)
          refine s_istore (pc1 := 46) (ls1 := [(2, x0), (0, x1), (0, x2), (0, x3), (0, x4), (0, vx r21)]) (tk (n := 23) t113_0 rfl) rfl rfl rfl rfl ?_
          refine s_iload (pc1 := 48) (tk (n := 24) t113_0 rfl) rfl rfl rfl ?_
          refine s_if_ne (pc1 := 51) (pt := 60) (tk (n := 25) t113_0 rfl) rfl rfl rfl ?_ ?_
          · refine s_iload (pc1 := 62) (tk (n := 2) t113_1 rfl) rfl rfl rfl ?_
            exact s_ret (tk (n := 3) t113_1 rfl) rfl rfl rfl
          · refine s_aload_n (pc1 := 52) (tk (n := 26) t113_0 rfl) rfl rfl rfl ?_
            refine s_iload_n (pc1 := 53) (tk (n := 27) t113_0 rfl) rfl rfl rfl ?_
            refine s_iload_n (pc1 := 54) (tk (n := 28) t113_0 rfl) rfl rfl rfl ?_
            refine s_iload_n (pc1 := 55) (tk (n := 29) t113_0 rfl) rfl rfl rfl ?_
            refine s_iload (pc1 := 57) (tk (n := 0) t113_1 rfl) rfl rfl rfl ?_
            refine s_call9 (as := [(2, x0), (0, x1), (0, x3), (0, x2), (0, x4)]) (st1 := []) (p1 := 60) (M2 := 115) (tk (n := 1) t113_1 rfl) rfl rfl rfl rfl rfl (fun r30 => ?_)
            refine s_iload (pc1 := 62) (tk (n := 2) t113_1 rfl) rfl rfl rfl ?_
            exact s_ret (tk (n := 3) t113_1 rfl) rfl rfl rfl
        · refine s_iconst (pc1 := 33) (tk (n := 15) t113_0 rfl) rfl rfl  ?_
          exact s_ret (tk (n := 16) t113_0 rfl) rfl rfl rfl
set_option maxRecDepth 100000 in
set_option maxHeartbeats 4000000 in
theorem e_X11_put (x0 : Int) (x1 : Int) (x2 : Int) (x3 : Int) (x4 : Int) (h : Hq) : vm 114 [(2, x0), (0, x1), (0, x2), (0, x3), (0, x4)] h = if 0 < x0 ∧ (kd x0).1 = 11 then if 0 < (h.2 x0 5) ∧ (kd (h.2 x0 5)).1 = 7 then (vm 45 [(2, h.2 x0 5), (0, x1)] h).bind (fun r4 => if (vx r4) = 0 then (some (some (0, (-1)), r4.2)) else ((vm 116 [(0, x3), (0, x4)] r4.2).bind (fun r8 => if (vx r8) ≠ 0 then (if 0 < x0 ∧ (kd x0).1 = 11 then if 0 < (r8.2.2 x0 5) ∧ (kd (r8.2.2 x0 5)).1 = 7 then (vm 55 [(2, r8.2.2 x0 5), (0, x1), (0, x2), (0, x3)] r8.2).bind (fun r15 => if (vx r15) ≠ 0 then (some (some (0, vx r15), r15.2)) else (if 0 < x0 ∧ (kd x0).1 = 11 then (vm 115 [(2, x0), (0, x1), (0, x2), (0, x3), (0, x4)] r15.2).bind (fun r24 => some (some (0, vx r15), r24.2)) else none)) else none else none) else (some (some (0, (-1)), r8.2))))) else none else none := by
  show vp 114 0 [(2, x0), (0, x1), (0, x2), (0, x3), (0, x4), (9, 0)] [] h = _
  refine s_aload_n (pc1 := 1) (tk (n := 0) t114_0 rfl) rfl rfl rfl ?_
  refine s_getf (pc1 := 4) (c := 11) (t1 := 2) (tk (n := 1) t114_0 rfl) rfl rfl (by decide) rfl rfl ?_
  refine s_iload_n (pc1 := 5) (tk (n := 2) t114_0 rfl) rfl rfl rfl ?_
  refine s_call0 (as := [(2, h.2 x0 5), (0, x1)]) (st1 := []) (p1 := 8) (M2 := 45) (tk (n := 3) t114_0 rfl) rfl rfl rfl rfl rfl (fun r4 => ?_)
  refine s_if_eq (pc1 := 11) (pt := 20) (tk (n := 4) t114_0 rfl) rfl rfl rfl ?_ ?_
  · refine s_iconst (pc1 := 21) (tk (n := 9) t114_0 rfl) rfl rfl  ?_
    exact s_ret (tk (n := 10) t114_0 rfl) rfl rfl rfl
  · refine s_iload_n (pc1 := 12) (tk (n := 5) t114_0 rfl) rfl rfl rfl ?_
    refine s_iload (pc1 := 14) (tk (n := 6) t114_0 rfl) rfl rfl rfl ?_
    refine s_callS0 (as := [(0, x3), (0, x4)]) (st1 := []) (p1 := 17) (M2 := 116) (tk (n := 7) t114_0 rfl) rfl rfl rfl rfl rfl (fun r8 => ?_)
    refine s_if_ne (pc1 := 20) (pt := 22) (tk (n := 8) t114_0 rfl) rfl rfl rfl ?_ ?_
    · refine s_aload_n (pc1 := 23) (tk (n := 11) t114_0 rfl) rfl rfl rfl ?_
      refine s_getf (pc1 := 26) (c := 11) (t1 := 2) (tk (n := 12) t114_0 rfl) rfl rfl (by decide) rfl rfl ?_
      refine s_iload_n (pc1 := 27) (tk (n := 13) t114_0 rfl) rfl rfl rfl ?_
      refine s_iload_n (pc1 := 28) (tk (n := 14) t114_0 rfl) rfl rfl rfl ?_
      refine s_iload_n (pc1 := 29) (tk (n := 15) t114_0 rfl) rfl rfl rfl ?_
      refine s_call0 (as := [(2, r8.2.2 x0 5), (0, x1), (0, x2), (0, x3)]) (st1 := []) (p1 := 32) (M2 := 55) (tk (n := 16) t114_0 rfl) rfl rfl rfl rfl rfl (fun r15 => ?_)
      refine s_istore (pc1 := 34) (ls1 := [(2, x0), (0, x1), (0, x2), (0, x3), (0, x4), (0, vx r15)]) (tk (n := 17) t114_0 rfl) rfl rfl rfl rfl ?_
      refine s_iload (pc1 := 36) (tk (n := 18) t114_0 rfl) rfl rfl rfl ?_
      refine s_if_ne (pc1 := 39) (pt := 48) (tk (n := 19) t114_0 rfl) rfl rfl rfl ?_ ?_
      · refine s_iload (pc1 := 50) (tk (n := 26) t114_0 rfl) rfl rfl rfl ?_
        exact s_ret (tk (n := 27) t114_0 rfl) rfl rfl rfl
      · refine s_aload_n (pc1 := 40) (tk (n := 20) t114_0 rfl) rfl rfl rfl ?_
        refine s_iload_n (pc1 := 41) (tk (n := 21) t114_0 rfl) rfl rfl rfl ?_
        refine s_iload_n (pc1 := 42) (tk (n := 22) t114_0 rfl) rfl rfl rfl ?_
        refine s_iload_n (pc1 := 43) (tk (n := 23) t114_0 rfl) rfl rfl rfl ?_
        refine s_iload (pc1 := 45) (tk (n := 24) t114_0 rfl) rfl rfl rfl ?_
        refine s_call9 (as := [(2, x0), (0, x1), (0, x2), (0, x3), (0, x4)]) (st1 := []) (p1 := 48) (M2 := 115) (tk (n := 25) t114_0 rfl) rfl rfl rfl rfl rfl (fun r24 => ?_)
        refine s_iload (pc1 := 50) (tk (n := 26) t114_0 rfl) rfl rfl rfl ?_
        exact s_ret (tk (n := 27) t114_0 rfl) rfl rfl rfl
    · refine s_iconst (pc1 := 21) (tk (n := 9) t114_0 rfl) rfl rfl  ?_
      exact s_ret (tk (n := 10) t114_0 rfl) rfl rfl rfl
set_option maxRecDepth 100000 in
set_option maxHeartbeats 4000000 in
theorem e_X11_setPlace (x0 : Int) (x1 : Int) (x2 : Int) (x3 : Int) (x4 : Int) (h : Hq) : vm 115 [(2, x0), (0, x1), (0, x2), (0, x3), (0, x4)] h = if 0 < x0 ∧ (kd x0).1 = 11 then if 0 < x0 ∧ (kd x0).1 = 11 then if 0 < (h.2 x0 5) ∧ (kd (h.2 x0 5)).1 = 7 then if (kd (h.2 (h.2 x0 5) 0)).1 = 24 ∧ 0 ≤ x1 ∧ x1 < (kd (h.2 (h.2 x0 5) 0)).2 then if 0 < (h.2 x0 6) ∧ (kd (h.2 x0 6)).1 = 0 then (vm 4 [(2, h.2 x0 6), (0, x1), (2, h.2 (h.2 (h.2 x0 5) 0) x1)] h).bind (fun r9 => if 0 < x0 ∧ (kd x0).1 = 11 then if 0 < (r9.2.2 x0 5) ∧ (kd (r9.2.2 x0 5)).1 = 7 then (vm 56 [(2, r9.2.2 x0 5), (0, x1), (0, x2), (0, x3), (0, x4)] r9.2).bind (fun r16 => if (vx r16) = 0 then (some (none, r16.2)) else (if 0 < x0 ∧ (kd x0).1 = 11 then if 0 < (r16.2.2 x0 6) ∧ (kd (r16.2.2 x0 6)).1 = 0 then (vm 5 [(2, r16.2.2 x0 6)] r16.2).bind (fun r20 => some (none, r20.2)) else none else none)) else none else none) else none else none else none else none else none := by
  show vp 115 0 [(2, x0), (0, x1), (0, x2), (0, x3), (0, x4)] [] h = _
  refine s_aload_n (pc1 := 1) (tk (n := 0) t115_0 rfl) rfl rfl rfl ?_
  refine s_getf (pc1 := 4) (c := 11) (t1 := 2) (tk (n := 1) t115_0 rfl) rfl rfl (by decide) rfl rfl ?_
  refine s_iload_n (pc1 := 5) (tk (n := 2) t115_0 rfl) rfl rfl rfl ?_
  refine s_aload_n (pc1 := 6) (tk (n := 3) t115_0 rfl) rfl rfl rfl ?_
  refine s_getf (pc1 := 9) (c := 11) (t1 := 2) (tk (n := 4) t115_0 rfl) rfl rfl (by decide) rfl rfl ?_
  refine s_getf (pc1 := 12) (c := 7) (t1 := 2) (tk (n := 5) t115_0 rfl) rfl rfl (by decide) rfl rfl ?_
  refine s_iload_n (pc1 := 13) (tk (n := 6) t115_0 rfl) rfl rfl rfl ?_
  refine s_aald (pc1 := 14) (c := 24) (tk (n := 7) t115_0 rfl) rfl rfl rfl ?_
  refine s_call9 (as := [(2, h.2 x0 6), (0, x1), (2, h.2 (h.2 (h.2 x0 5) 0) x1)]) (st1 := []) (p1 := 17) (M2 := 4) (tk (n := 8) t115_0 rfl) rfl rfl rfl rfl rfl (fun r9 => ?_)
  refine s_aload_n (pc1 := 18) (tk (n := 9) t115_0 rfl) rfl rfl rfl ?_
  refine s_getf (pc1 := 21) (c := 11) (t1 := 2) (tk (n := 10) t115_0 rfl) rfl rfl (by decide) rfl rfl ?_
  refine s_iload_n (pc1 := 22) (tk (n := 11) t115_0 rfl) rfl rfl rfl ?_
  refine s_iload_n (pc1 := 23) (tk (n := 12) t115_0 rfl) rfl rfl rfl ?_
  refine s_iload_n (pc1 := 24) (tk (n := 13) t115_0 rfl) rfl rfl rfl ?_
  refine s_iload (pc1 := 26) (tk (n := 14) t115_0 rfl) rfl rfl rfl ?_
  refine s_call0 (as := [(2, r9.2.2 x0 5), (0, x1), (0, x2), (0, x3), (0, x4)]) (st1 := []) (p1 := 29) (M2 := 56) (tk (n := 15) t115_0 rfl) rfl rfl rfl rfl rfl (fun r16 => ?_)
  refine s_if_eq (pc1 := 32) (pt := 39) (tk (n := 16) t115_0 rfl) rfl rfl rfl ?_ ?_
  · exact s_ret (tk (n := 20) t115_0 rfl) rfl rfl rfl
  · refine s_aload_n (pc1 := 33) (tk (n := 17) t115_0 rfl) rfl rfl rfl ?_
    refine s_getf (pc1 := 36) (c := 11) (t1 := 2) (tk (n := 18) t115_0 rfl) rfl rfl (by decide) rfl rfl ?_
    refine s_call9 (as := [(2, r16.2.2 x0 6)]) (st1 := []) (p1 := 39) (M2 := 5) (tk (n := 19) t115_0 rfl) rfl rfl rfl rfl rfl (fun r20 => ?_)
    exact s_ret (tk (n := 20) t115_0 rfl) rfl rfl rfl
set_option maxRecDepth 100000 in
set_option maxHeartbeats 4000000 in
theorem e_X11_isBoxOf (x0 : Int) (x1 : Int) (h : Hq) : vm 116 [(0, x0), (0, x1)] h = if x0 < 0 then (some (some (0, 0), h)) else (if x0 ≤ 10 then (if x0 ≠ 0 then (if x0 ≠ 10 then ((vm 117 [(0, x1), (0, 1000000)] h).bind (fun r13 => if (vx r13) = 0 ∨ (vx r13) = 1 then some (some (0, vx r13), r13.2) else none)) else (if x1 < 0 then (some (some (0, 0), h)) else (if x1 > 6 then (some (some (0, 0), h)) else (some (some (0, 1), h))))) else (some (some (0, 1), h))) else (some (some (0, 0), h))) := by
  show vp 116 0 [(0, x0), (0, x1)] [] h = _
  refine s_iload_n (pc1 := 1) (tk (n := 0) t116_0 rfl) rfl rfl rfl ?_
  refine s_if_lt (pc1 := 4) (pt := 10) (tk (n := 1) t116_0 rfl) rfl rfl rfl ?_ ?_
  · refine s_iconst (pc1 := 11) (tk (n := 5) t116_0 rfl) rfl rfl  ?_
    exact s_retY (tk (n := 6) t116_0 rfl) rfl rfl rfl (by decide)
  · refine s_iload_n (pc1 := 5) (tk (n := 2) t116_0 rfl) rfl rfl rfl ?_
    refine s_bipush (pc1 := 7) (tk (n := 3) t116_0 rfl) rfl rfl  ?_
    refine s_ic_le (pc1 := 10) (pt := 12) (tk (n := 4) t116_0 rfl) rfl rfl rfl ?_ ?_
    · refine s_iload_n (pc1 := 13) (tk (n := 7) t116_0 rfl) rfl rfl rfl ?_
      refine s_if_ne (pc1 := 16) (pt := 18) (tk (n := 8) t116_0 rfl) rfl rfl rfl ?_ ?_
      · refine s_iload_n (pc1 := 19) (tk (n := 11) t116_0 rfl) rfl rfl rfl ?_
        refine s_bipush (pc1 := 21) (tk (n := 12) t116_0 rfl) rfl rfl  ?_
        refine s_ic_ne (pc1 := 24) (pt := 42) (tk (n := 13) t116_0 rfl) rfl rfl rfl ?_ ?_
        · refine s_iload_n (pc1 := 43) (tk (n := 23) t116_0 rfl) rfl rfl rfl ?_
          refine s_ldc (pc1 := 45) (tk (n := 24) t116_0 rfl) rfl rfl  ?_
          refine s_callS0 (as := [(0, x1), (0, 1000000)]) (st1 := []) (p1 := 48) (M2 := 117) (tk (n := 25) t116_0 rfl) rfl rfl rfl rfl rfl (fun r13 => ?_)
          exact s_retG (tk (n := 26) t116_0 rfl) rfl rfl rfl
        · refine s_iload_n (pc1 := 25) (tk (n := 14) t116_0 rfl) rfl rfl rfl ?_
          refine s_if_lt (pc1 := 28) (pt := 38) (tk (n := 15) t116_0 rfl) rfl rfl rfl ?_ ?_
          · refine s_iconst (pc1 := 39) (tk (n := 21) t116_0 rfl) rfl rfl  ?_
            refine s_goto (pc1 := 48) (tk (n := 22) t116_0 rfl) rfl rfl ?_
            exact s_retY (tk (n := 26) t116_0 rfl) rfl rfl rfl (by decide)
          · refine s_iload_n (pc1 := 29) (tk (n := 16) t116_0 rfl) rfl rfl rfl ?_
            refine s_bipush (pc1 := 31) (tk (n := 17) t116_0 rfl) rfl rfl  ?_
            refine s_ic_gt (pc1 := 34) (pt := 38) (tk (n := 18) t116_0 rfl) rfl rfl rfl ?_ ?_
            · refine s_iconst (pc1 := 39) (tk (n := 21) t116_0 rfl) rfl rfl  ?_
              refine s_goto (pc1 := 48) (tk (n := 22) t116_0 rfl) rfl rfl ?_
              exact s_retY (tk (n := 26) t116_0 rfl) rfl rfl rfl (by decide)
            · refine s_iconst (pc1 := 35) (tk (n := 19) t116_0 rfl) rfl rfl  ?_
              refine s_goto (pc1 := 48) (tk (n := 20) t116_0 rfl) rfl rfl ?_
              exact s_retY (tk (n := 26) t116_0 rfl) rfl rfl rfl (by decide)
      · refine s_iconst (pc1 := 17) (tk (n := 9) t116_0 rfl) rfl rfl  ?_
        exact s_retY (tk (n := 10) t116_0 rfl) rfl rfl rfl (by decide)
    · refine s_iconst (pc1 := 11) (tk (n := 5) t116_0 rfl) rfl rfl  ?_
      exact s_retY (tk (n := 6) t116_0 rfl) rfl rfl rfl (by decide)
set_option maxRecDepth 100000 in
set_option maxHeartbeats 4000000 in
theorem e_X11_within (x0 : Int) (x1 : Int) (h : Hq) : vm 117 [(0, x0), (0, x1)] h = if x0 < (w32 (-x1)) then (some (some (0, 0), h)) else (if x0 > x1 then (some (some (0, 0), h)) else (some (some (0, 1), h))) := by
  show vp 117 0 [(0, x0), (0, x1)] [] h = _
  refine s_iload_n (pc1 := 1) (tk (n := 0) t117_0 rfl) rfl rfl rfl ?_
  refine s_iload_n (pc1 := 2) (tk (n := 1) t117_0 rfl) rfl rfl rfl ?_
  refine s_ineg (pc1 := 3) (tk (n := 2) t117_0 rfl) rfl rfl  ?_
  refine s_ic_lt (pc1 := 6) (pt := 15) (tk (n := 3) t117_0 rfl) rfl rfl rfl ?_ ?_
  · refine s_iconst (pc1 := 16) (tk (n := 9) t117_0 rfl) rfl rfl  ?_
    exact s_retY (tk (n := 10) t117_0 rfl) rfl rfl rfl (by decide)
  · refine s_iload_n (pc1 := 7) (tk (n := 4) t117_0 rfl) rfl rfl rfl ?_
    refine s_iload_n (pc1 := 8) (tk (n := 5) t117_0 rfl) rfl rfl rfl ?_
    refine s_ic_gt (pc1 := 11) (pt := 15) (tk (n := 6) t117_0 rfl) rfl rfl rfl ?_ ?_
    · refine s_iconst (pc1 := 16) (tk (n := 9) t117_0 rfl) rfl rfl  ?_
      exact s_retY (tk (n := 10) t117_0 rfl) rfl rfl rfl (by decide)
    · refine s_iconst (pc1 := 12) (tk (n := 7) t117_0 rfl) rfl rfl  ?_
      refine s_goto (pc1 := 16) (tk (n := 8) t117_0 rfl) rfl rfl ?_
      exact s_retY (tk (n := 10) t117_0 rfl) rfl rfl rfl (by decide)
set_option maxRecDepth 100000 in
set_option maxHeartbeats 4000000 in
theorem e_X11_convert (x0 : Int) (x1 : Int) (x2 : Int) (h : Hq) : vm 118 [(2, x0), (0, x1), (0, x2)] h = if x1 = x2 then (some (some (0, (-1)), h)) else (if 0 < x0 ∧ (kd x0).1 = 11 then if 0 < (h.2 x0 5) ∧ (kd (h.2 x0 5)).1 = 7 then (vm 46 [(2, h.2 x0 5), (0, x1)] h).bind (fun r7 => if (vx r7) = 0 then (some (some (0, (-1)), r7.2)) else (if 0 < x0 ∧ (kd x0).1 = 11 then if 0 < (r7.2.2 x0 5) ∧ (kd (r7.2.2 x0 5)).1 = 7 then (vm 46 [(2, r7.2.2 x0 5), (0, x2)] r7.2).bind (fun r12 => if (vx r12) ≠ 0 then (if 0 < x0 ∧ (kd x0).1 = 11 then if 0 < x0 ∧ (kd x0).1 = 11 then if 0 < (r12.2.2 x0 5) ∧ (kd (r12.2.2 x0 5)).1 = 7 then if (kd (r12.2.2 (r12.2.2 x0 5) 0)).1 = 24 ∧ 0 ≤ x2 ∧ x2 < (kd (r12.2.2 (r12.2.2 x0 5) 0)).2 then if 0 < (r12.2.2 x0 6) ∧ (kd (r12.2.2 x0 6)).1 = 0 then (vm 4 [(2, r12.2.2 x0 6), (0, x2), (2, r12.2.2 (r12.2.2 (r12.2.2 x0 5) 0) x2)] r12.2).bind (fun r22 => if 0 < x0 ∧ (kd x0).1 = 11 then if 0 < (r22.2.2 x0 5) ∧ (kd (r22.2.2 x0 5)).1 = 7 then if (kd (r22.2.2 (r22.2.2 x0 5) 2)).1 = 20 ∧ 0 ≤ x1 ∧ x1 < (kd (r22.2.2 (r22.2.2 x0 5) 2)).2 then if 0 < x0 ∧ (kd x0).1 = 11 then if 0 < (r22.2.2 x0 5) ∧ (kd (r22.2.2 x0 5)).1 = 7 then if (kd (r22.2.2 (r22.2.2 x0 5) 2)).1 = 20 ∧ 0 ≤ x2 ∧ x2 < (kd (r22.2.2 (r22.2.2 x0 5) 2)).2 then (vm 314 [(0, r22.2.2 (r22.2.2 (r22.2.2 x0 5) 2) x1), (0, r22.2.2 (r22.2.2 (r22.2.2 x0 5) 2) x2)] r22.2).bind (fun r33 => vp 118 77 [(2, x0), (0, x1), (0, x2), (0, vx r33), (0, 0), (0, 0), (0, 0), (9, 0)] [] r33.2) else none else none else none else none else none else none) else none else none else none else none else none) else (some (some (0, (-1)), r12.2))) else none else none)) else none else none) := by
  show vp 118 0 [(2, x0), (0, x1), (0, x2), (9, 0), (9, 0), (9, 0), (9, 0), (9, 0)] [] h = _
  refine s_iload_n (pc1 := 1) (tk (n := 0) t118_0 rfl) rfl rfl rfl ?_
  refine s_iload_n (pc1 := 2) (tk (n := 1) t118_0 rfl) rfl rfl rfl ?_
  refine s_ic_eq (pc1 := 5) (pt := 27) (tk (n := 2) t118_0 rfl) rfl rfl rfl ?_ ?_
  · refine s_iconst (pc1 := 28) (tk (n := 13) t118_0 rfl) rfl rfl  ?_
    exact s_ret (tk (n := 14) t118_0 rfl) rfl rfl rfl
  · refine s_aload_n (pc1 := 6) (tk (n := 3) t118_0 rfl) rfl rfl rfl ?_
    refine s_getf (pc1 := 9) (c := 11) (t1 := 2) (tk (n := 4) t118_0 rfl) rfl rfl (by decide) rfl rfl ?_
    refine s_iload_n (pc1 := 10) (tk (n := 5) t118_0 rfl) rfl rfl rfl ?_
    refine s_call0 (as := [(2, h.2 x0 5), (0, x1)]) (st1 := []) (p1 := 13) (M2 := 46) (tk (n := 6) t118_0 rfl) rfl rfl rfl rfl rfl (fun r7 => ?_)
    refine s_if_eq (pc1 := 16) (pt := 27) (tk (n := 7) t118_0 rfl) rfl rfl rfl ?_ ?_
    · refine s_iconst (pc1 := 28) (tk (n := 13) t118_0 rfl) rfl rfl  ?_
      exact s_ret (tk (n := 14) t118_0 rfl) rfl rfl rfl
    · refine s_aload_n (pc1 := 17) (tk (n := 8) t118_0 rfl) rfl rfl rfl ?_
      refine s_getf (pc1 := 20) (c := 11) (t1 := 2) (tk (n := 9) t118_0 rfl) rfl rfl (by decide) rfl rfl ?_
      refine s_iload_n (pc1 := 21) (tk (n := 10) t118_0 rfl) rfl rfl rfl ?_
      refine s_call0 (as := [(2, r7.2.2 x0 5), (0, x2)]) (st1 := []) (p1 := 24) (M2 := 46) (tk (n := 11) t118_0 rfl) rfl rfl rfl rfl rfl (fun r12 => ?_)
      refine s_if_ne (pc1 := 27) (pt := 29) (tk (n := 12) t118_0 rfl) rfl rfl rfl ?_ ?_
      · refine s_aload_n (pc1 := 30) (tk (n := 15) t118_0 rfl) rfl rfl rfl ?_
        refine s_getf (pc1 := 33) (c := 11) (t1 := 2) (tk (n := 16) t118_0 rfl) rfl rfl (by decide) rfl rfl ?_
        refine s_iload_n (pc1 := 34) (tk (n := 17) t118_0 rfl) rfl rfl rfl ?_
        refine s_aload_n (pc1 := 35) (tk (n := 18) t118_0 rfl) rfl rfl rfl ?_
        refine s_getf (pc1 := 38) (c := 11) (t1 := 2) (tk (n := 19) t118_0 rfl) rfl rfl (by decide) rfl rfl ?_
        refine s_getf (pc1 := 41) (c := 7) (t1 := 2) (tk (n := 20) t118_0 rfl) rfl rfl (by decide) rfl rfl ?_
        refine s_iload_n (pc1 := 42) (tk (n := 21) t118_0 rfl) rfl rfl rfl ?_
        refine s_aald (pc1 := 43) (c := 24) (tk (n := 22) t118_0 rfl) rfl rfl rfl ?_
        refine s_call9 (as := [(2, r12.2.2 x0 6), (0, x2), (2, r12.2.2 (r12.2.2 (r12.2.2 x0 5) 0) x2)]) (st1 := []) (p1 := 46) (M2 := 4) (tk (n := 23) t118_0 rfl) rfl rfl rfl rfl rfl (fun r22 => ?_)
        refine s_aload_n (pc1 := 47) (tk (n := 24) t118_0 rfl) rfl rfl rfl ?_
        refine s_getf (pc1 := 50) (c := 11) (t1 := 2) (tk (n := 25) t118_0 rfl) rfl rfl (by decide) rfl rfl ?_
        refine s_getf (pc1 := 53) (c := 7) (t1 := 2) (tk (n := 26) t118_0 rfl) rfl rfl (by decide) rfl rfl ?_
        refine s_iload_n (pc1 := 54) (tk (n := 27) t118_0 rfl) rfl rfl rfl ?_
        refine s_iald (pc1 := 55) (tk (n := 28) t118_0 rfl) rfl rfl  ?_
        refine s_aload_n (pc1 := 56) (tk (n := 29) t118_0 rfl) rfl rfl rfl ?_
        refine s_getf (pc1 := 59) (c := 11) (t1 := 2) (tk (n := 0) t118_1 rfl) rfl rfl (by decide) rfl rfl ?_
        refine s_getf (pc1 := 62) (c := 7) (t1 := 2) (tk (n := 1) t118_1 rfl) rfl rfl (by decide) rfl rfl ?_
        refine s_iload_n (pc1 := 63) (tk (n := 2) t118_1 rfl) rfl rfl rfl ?_
        refine s_iald (pc1 := 64) (tk (n := 3) t118_1 rfl) rfl rfl  ?_
        refine s_callS0 (as := [(0, r22.2.2 (r22.2.2 (r22.2.2 x0 5) 2) x1), (0, r22.2.2 (r22.2.2 (r22.2.2 x0 5) 2) x2)]) (st1 := []) (p1 := 67) (M2 := 314) (tk (n := 4) t118_1 rfl) rfl rfl rfl rfl rfl (fun r33 => ?_)
        refine s_istore_n (pc1 := 68) (ls1 := [(2, x0), (0, x1), (0, x2), (0, vx r33), (9, 0), (9, 0), (9, 0), (9, 0)]) (tk (n := 5) t118_1 rfl) rfl rfl rfl rfl ?_
        refine s_iconst (pc1 := 69) (tk (n := 6) t118_1 rfl) rfl rfl  ?_
        refine s_istore (pc1 := 71) (ls1 := [(2, x0), (0, x1), (0, x2), (0, vx r33), (0, 0), (9, 0), (9, 0), (9, 0)]) (tk (n := 7) t118_1 rfl) rfl rfl rfl rfl ?_
        refine s_iconst (pc1 := 72) (tk (n := 8) t118_1 rfl) rfl rfl  ?_
        refine s_istore (pc1 := 74) (ls1 := [(2, x0), (0, x1), (0, x2), (0, vx r33), (0, 0), (0, 0), (9, 0), (9, 0)]) (tk (n := 9) t118_1 rfl) rfl rfl rfl rfl ?_
        refine s_iconst (pc1 := 75) (tk (n := 10) t118_1 rfl) rfl rfl  ?_
        refine s_istore (pc1 := 77) (ls1 := [(2, x0), (0, x1), (0, x2), (0, vx r33), (0, 0), (0, 0), (0, 0), (9, 0)]) (tk (n := 11) t118_1 rfl) rfl rfl rfl rfl ?_
        rfl
      · refine s_iconst (pc1 := 28) (tk (n := 13) t118_0 rfl) rfl rfl  ?_
        exact s_ret (tk (n := 14) t118_0 rfl) rfl rfl rfl
set_option maxRecDepth 100000 in
set_option maxHeartbeats 4000000 in
theorem e_X11_convert_77 (x0 : Int) (x1 : Int) (x2 : Int) (x3 : Int) (x4 : Int) (x5 : Int) (x6 : Int) (z7 : Vl) (h : Hq) : vp 118 77 [(2, x0), (0, x1), (0, x2), (0, x3), (0, x4), (0, x5), (0, x6), z7] [] h = if x6 ≥ x3 then (if x5 = 0 then (some (some (0, x4), h)) else (if 0 < x0 ∧ (kd x0).1 = 11 then if 0 < (h.2 x0 6) ∧ (kd (h.2 x0 6)).1 = 0 then (vm 5 [(2, h.2 x0 6)] h).bind (fun r8 => some (some (0, x4), r8.2)) else none else none)) else (if 0 < x0 ∧ (kd x0).1 = 11 then if 0 < (h.2 x0 5) ∧ (kd (h.2 x0 5)).1 = 7 then (vm 48 [(2, h.2 x0 5), (0, x1), (0, x6)] h).bind (fun r8 => if 0 < x0 ∧ (kd x0).1 = 11 then if 0 < (r8.2.2 x0 5) ∧ (kd (r8.2.2 x0 5)).1 = 7 then if (kd (r8.2.2 (r8.2.2 x0 5) 1)).1 = 20 ∧ 0 ≤ x2 ∧ x2 < (kd (r8.2.2 (r8.2.2 x0 5) 1)).2 then (vm 163 [(0, r8.2.2 (r8.2.2 (r8.2.2 x0 5) 1) x2), (0, vx r8)] r8.2).bind (fun r16 => if (vx r16) ≠ 0 then (if 0 < x0 ∧ (kd x0).1 = 11 then if 0 < x0 ∧ (kd x0).1 = 11 then if 0 < (r16.2.2 x0 5) ∧ (kd (r16.2.2 x0 5)).1 = 7 then if (kd (r16.2.2 (r16.2.2 x0 5) 0)).1 = 24 ∧ 0 ≤ x1 ∧ x1 < (kd (r16.2.2 (r16.2.2 x0 5) 0)).2 then if (kd (r16.2.2 (r16.2.2 (r16.2.2 x0 5) 0) x1)).1 = 20 ∧ 0 ≤ x6 ∧ x6 < (kd (r16.2.2 (r16.2.2 (r16.2.2 x0 5) 0) x1)).2 then if 0 < (r16.2.2 x0 5) ∧ (kd (r16.2.2 x0 5)).1 = 7 then (vm 56 [(2, r16.2.2 x0 5), (0, x2), (0, x6), (0, vx r8), (0, r16.2.2 (r16.2.2 (r16.2.2 (r16.2.2 x0 5) 0) x1) x6)] r16.2).bind (fun r30 => if (vx r30) = 0 then (vp 118 77 [(2, x0), (0, x1), (0, x2), (0, x3), (0, x4), (0, x5), (0, w32 (x6 + 1)), (0, vx r8)] [] r30.2) else (vp 118 77 [(2, x0), (0, x1), (0, x2), (0, x3), (0, x4), (0, 1), (0, w32 (x6 + 1)), (0, vx r8)] [] r30.2)) else none else none else none else none else none else none) else (vp 118 77 [(2, x0), (0, x1), (0, x2), (0, x3), (0, w32 (x4 + 1)), (0, x5), (0, w32 (x6 + 1)), (0, vx r8)] [] r16.2)) else none else none else none) else none else none) := by
  refine s_fg (ls1 := [(2, x0), (0, x1), (0, x2), (0, x3), (0, x4), (0, x5), (0, x6), (9, 0)]) (tk (n := 12) t118_1 rfl) rfl ?_
  refine s_iload (pc1 := 79) (tk (n := 12) t118_1 rfl) rfl rfl rfl ?_
  refine s_iload_n (pc1 := 80) (tk (n := 13) t118_1 rfl) rfl rfl rfl ?_
  refine s_ic_ge (pc1 := 83) (pt := 154) (tk (n := 14) t118_1 rfl) rfl rfl rfl ?_ ?_
  · refine s_iload (pc1 := 156) (tk (n := 19) t118_2 rfl) rfl rfl rfl ?_
    refine s_if_eq (pc1 := 159) (pt := 166) (tk (n := 20) t118_2 rfl) rfl rfl rfl ?_ ?_
    · refine s_iload (pc1 := 168) (tk (n := 24) t118_2 rfl) rfl rfl rfl ?_
      exact s_ret (tk (n := 25) t118_2 rfl) rfl rfl rfl
    · refine s_aload_n (pc1 := 160) (tk (n := 21) t118_2 rfl) rfl rfl rfl ?_
      refine s_getf (pc1 := 163) (c := 11) (t1 := 2) (tk (n := 22) t118_2 rfl) rfl rfl (by decide) rfl rfl ?_
      refine s_call9 (as := [(2, h.2 x0 6)]) (st1 := []) (p1 := 166) (M2 := 5) (tk (n := 23) t118_2 rfl) rfl rfl rfl rfl rfl (fun r8 => ?_)
      refine s_iload (pc1 := 168) (tk (n := 24) t118_2 rfl) rfl rfl rfl ?_
      exact s_ret (tk (n := 25) t118_2 rfl) rfl rfl rfl
  · refine s_aload_n (pc1 := 84) (tk (n := 15) t118_1 rfl) rfl rfl rfl ?_
    refine s_getf (pc1 := 87) (c := 11) (t1 := 2) (tk (n := 16) t118_1 rfl) rfl rfl (by decide) rfl rfl ?_
    refine s_iload_n (pc1 := 88) (tk (n := 17) t118_1 rfl) rfl rfl rfl ?_
    refine s_iload (pc1 := 90) (tk (n := 18) t118_1 rfl) rfl rfl rfl ?_
    refine s_call0 (as := [(2, h.2 x0 5), (0, x1), (0, x6)]) (st1 := []) (p1 := 93) (M2 := 48) (tk (n := 19) t118_1 rfl) rfl rfl rfl rfl rfl (fun r8 => ?_)
    refine s_istore (pc1 := 95) (ls1 := [(2, x0), (0, x1), (0, x2), (0, x3), (0, x4), (0, x5), (0, x6), (0, vx r8)]) (tk (n := 20) t118_1 rfl) rfl rfl rfl rfl ?_
    refine s_aload_n (pc1 := 96) (tk (n := 21) t118_1 rfl) rfl rfl rfl ?_
    refine s_getf (pc1 := 99) (c := 11) (t1 := 2) (tk (n := 22) t118_1 rfl) rfl rfl (by decide) rfl rfl ?_
    refine s_getf (pc1 := 102) (c := 7) (t1 := 2) (tk (n := 23) t118_1 rfl) rfl rfl (by decide) rfl rfl ?_
    refine s_iload_n (pc1 := 103) (tk (n := 24) t118_1 rfl) rfl rfl rfl ?_
    refine s_iald (pc1 := 104) (tk (n := 25) t118_1 rfl) rfl rfl  ?_
    refine s_iload (pc1 := 106) (tk (n := 26) t118_1 rfl) rfl rfl rfl ?_
    refine s_callS0 (as := [(0, r8.2.2 (r8.2.2 (r8.2.2 x0 5) 1) x2), (0, vx r8)]) (st1 := []) (p1 := 109) (M2 := 163) (tk (n := 27) t118_1 rfl) rfl rfl rfl rfl rfl (fun r16 => ?_)
    refine s_if_ne (pc1 := 112) (pt := 118) (tk (n := 28) t118_1 rfl) rfl rfl rfl ?_ ?_
    · refine s_aload_n (pc1 := 119) (tk (n := 1) t118_2 rfl) rfl rfl rfl ?_
      refine s_getf (pc1 := 122) (c := 11) (t1 := 2) (tk (n := 2) t118_2 rfl) rfl rfl (by decide) rfl rfl ?_
      refine s_iload_n (pc1 := 123) (tk (n := 3) t118_2 rfl) rfl rfl rfl ?_
      refine s_iload (pc1 := 125) (tk (n := 4) t118_2 rfl) rfl rfl rfl ?_
      refine s_iload (pc1 := 127) (tk (n := 5) t118_2 rfl) rfl rfl rfl ?_
      refine s_aload_n (pc1 := 128) (tk (n := 6) t118_2 rfl) rfl rfl rfl ?_
      refine s_getf (pc1 := 131) (c := 11) (t1 := 2) (tk (n := 7) t118_2 rfl) rfl rfl (by decide) rfl rfl ?_
      refine s_getf (pc1 := 134) (c := 7) (t1 := 2) (tk (n := 8) t118_2 rfl) rfl rfl (by decide) rfl rfl ?_
      refine s_iload_n (pc1 := 135) (tk (n := 9) t118_2 rfl) rfl rfl rfl ?_
      refine s_aald (pc1 := 136) (c := 24) (tk (n := 10) t118_2 rfl) rfl rfl rfl ?_
      refine s_iload (pc1 := 138) (tk (n := 11) t118_2 rfl) rfl rfl rfl ?_
      refine s_iald (pc1 := 139) (tk (n := 12) t118_2 rfl) rfl rfl  ?_
      refine s_call0 (as := [(2, r16.2.2 x0 5), (0, x2), (0, x6), (0, vx r8), (0, r16.2.2 (r16.2.2 (r16.2.2 (r16.2.2 x0 5) 0) x1) x6)]) (st1 := []) (p1 := 142) (M2 := 56) (tk (n := 13) t118_2 rfl) rfl rfl rfl rfl rfl (fun r30 => ?_)
      refine s_if_eq (pc1 := 145) (pt := 148) (tk (n := 14) t118_2 rfl) rfl rfl rfl ?_ ?_
      · refine s_iinc (pc1 := 151) (ls1 := [(2, x0), (0, x1), (0, x2), (0, x3), (0, x4), (0, x5), (0, w32 (x6 + 1)), (0, vx r8)]) (tk (n := 17) t118_2 rfl) rfl rfl rfl rfl ?_
        refine s_goto (pc1 := 77) (tk (n := 18) t118_2 rfl) rfl rfl ?_
        rfl
      · refine s_iconst (pc1 := 146) (tk (n := 15) t118_2 rfl) rfl rfl  ?_
        refine s_istore (pc1 := 148) (ls1 := [(2, x0), (0, x1), (0, x2), (0, x3), (0, x4), (0, 1), (0, x6), (0, vx r8)]) (tk (n := 16) t118_2 rfl) rfl rfl rfl rfl ?_
        refine s_iinc (pc1 := 151) (ls1 := [(2, x0), (0, x1), (0, x2), (0, x3), (0, x4), (0, 1), (0, w32 (x6 + 1)), (0, vx r8)]) (tk (n := 17) t118_2 rfl) rfl rfl rfl rfl ?_
        refine s_goto (pc1 := 77) (tk (n := 18) t118_2 rfl) rfl rfl ?_
        rfl
    · refine s_iinc (pc1 := 115) (ls1 := [(2, x0), (0, x1), (0, x2), (0, x3), (0, w32 (x4 + 1)), (0, x5), (0, x6), (0, vx r8)]) (tk (n := 29) t118_1 rfl) rfl rfl rfl rfl ?_
      refine s_goto (pc1 := 148) (tk (n := 0) t118_2 rfl) rfl rfl ?_
      refine s_iinc (pc1 := 151) (ls1 := [(2, x0), (0, x1), (0, x2), (0, x3), (0, w32 (x4 + 1)), (0, x5), (0, w32 (x6 + 1)), (0, vx r8)]) (tk (n := 17) t118_2 rfl) rfl rfl rfl rfl ?_
      refine s_goto (pc1 := 77) (tk (n := 18) t118_2 rfl) rfl rfl ?_
      rfl
