set_option maxRecDepth 100000 in
set_option maxHeartbeats 4000000 in
theorem e_X12_bestWalk (x0 : Int) (x1 : Int) (x2 : Int) (h : Hq) : vm 300 [(2, x0), (0, x1), (0, x2)] h = if 0 < x0 ∧ (kd x0).1 = 12 then (vm 236 [(2, x0), (0, x1), (0, x2)] h).bind (fun r4 => if (vx r4) ≠ 0 then (if 0 < x0 ∧ (kd x0).1 = 12 then (vm 294 [(2, x0), (0, x1), (0, x2), (0, 0)] r4.2).bind (fun r12 => vp 300 25 [(2, x0), (0, x1), (0, x2), (0, 0), (0, vx r12), (0, 1), (9, 0)] [] r12.2) else none) else (some (some (0, (-1)), r4.2))) else none := by
  show vp 300 0 [(2, x0), (0, x1), (0, x2), (9, 0), (9, 0), (9, 0), (9, 0)] [] h = _
  refine s_aload_n (pc1 := 1) (tk (n := 0) t300_0 rfl) rfl rfl rfl ?_
  refine s_iload_n (pc1 := 2) (tk (n := 1) t300_0 rfl) rfl rfl rfl ?_
  refine s_iload_n (pc1 := 3) (tk (n := 2) t300_0 rfl) rfl rfl rfl ?_
  refine s_call0 (as := [(2, x0), (0, x1), (0, x2)]) (st1 := []) (p1 := 6) (M2 := 236) (tk (n := 3) t300_0 rfl) rfl rfl rfl rfl rfl (fun r4 => ?_)
  refine s_if_ne (pc1 := 9) (pt := 11) (tk (n := 4) t300_0 rfl) rfl rfl rfl ?_ ?_
  · refine s_iconst (pc1 := 12) (tk (n := 7) t300_0 rfl) rfl rfl  ?_
    refine s_istore_n (pc1 := 13) (ls1 := [(2, x0), (0, x1), (0, x2), (0, 0), (9, 0), (9, 0), (9, 0)]) (tk (n := 8) t300_0 rfl) rfl rfl rfl rfl ?_
    refine s_aload_n (pc1 := 14) (tk (n := 9) t300_0 rfl) rfl rfl rfl ?_
    refine s_iload_n (pc1 := 15) (tk (n := 10) t300_0 rfl) rfl rfl rfl ?_
    refine s_iload_n (pc1 := 16) (tk (n := 11) t300_0 rfl) rfl rfl rfl ?_
    refine s_iconst (pc1 := 17) (tk (n := 12) t300_0 rfl) rfl rfl  ?_
    refine s_call0 (as := [(2, x0), (0, x1), (0, x2), (0, 0)]) (st1 := []) (p1 := 20) (M2 := 294) (tk (n := 13) t300_0 rfl) rfl rfl rfl rfl rfl (fun r12 => ?_)
    refine s_istore (pc1 := 22) (ls1 := [(2, x0), (0, x1), (0, x2), (0, 0), (0, vx r12), (9, 0), (9, 0)]) (tk (n := 14) t300_0 rfl) rfl rfl rfl rfl ?_
    refine s_iconst (pc1 := 23) (tk (n := 15) t300_0 rfl) rfl rfl  ?_
    refine s_istore (pc1 := 25) (ls1 := [(2, x0), (0, x1), (0, x2), (0, 0), (0, vx r12), (0, 1), (9, 0)]) (tk (n := 16) t300_0 rfl) rfl rfl rfl rfl ?_
    rfl
  · refine s_iconst (pc1 := 10) (tk (n := 5) t300_0 rfl) rfl rfl  ?_
    exact s_ret (tk (n := 6) t300_0 rfl) rfl rfl rfl
set_option maxRecDepth 100000 in
set_option maxHeartbeats 4000000 in
theorem e_X12_bestWalk_25 (x0 : Int) (x1 : Int) (x2 : Int) (x3 : Int) (x4 : Int) (x5 : Int) (z6 : Vl) (h : Hq) : vp 300 25 [(2, x0), (0, x1), (0, x2), (0, x3), (0, x4), (0, x5), z6] [] h = if x5 ≥ 4 then (some (some (0, x3), h)) else (if 0 < x0 ∧ (kd x0).1 = 12 then (vm 294 [(2, x0), (0, x1), (0, x2), (0, x5)] h).bind (fun r8 => if (vx r8) < x4 then (vp 300 25 [(2, x0), (0, x1), (0, x2), (0, x5), (0, vx r8), (0, w32 (x5 + 1)), (0, vx r8)] [] r8.2) else (vp 300 25 [(2, x0), (0, x1), (0, x2), (0, x3), (0, x4), (0, w32 (x5 + 1)), (0, vx r8)] [] r8.2)) else none) := by
  refine s_fg (ls1 := [(2, x0), (0, x1), (0, x2), (0, x3), (0, x4), (0, x5), (9, 0)]) (tk (n := 17) t300_0 rfl) rfl ?_
  refine s_iload (pc1 := 27) (tk (n := 17) t300_0 rfl) rfl rfl rfl ?_
  refine s_iconst (pc1 := 28) (tk (n := 18) t300_0 rfl) rfl rfl  ?_
  refine s_ic_ge (pc1 := 31) (pt := 64) (tk (n := 19) t300_0 rfl) rfl rfl rfl ?_ ?_
  · refine s_iload_n (pc1 := 65) (tk (n := 6) t300_1 rfl) rfl rfl rfl ?_
    exact s_ret (tk (n := 7) t300_1 rfl) rfl rfl rfl
  · refine s_aload_n (pc1 := 32) (tk (n := 20) t300_0 rfl) rfl rfl rfl ?_
    refine s_iload_n (pc1 := 33) (tk (n := 21) t300_0 rfl) rfl rfl rfl ?_
    refine s_iload_n (pc1 := 34) (tk (n := 22) t300_0 rfl) rfl rfl rfl ?_
    refine s_iload (pc1 := 36) (tk (n := 23) t300_0 rfl) rfl rfl rfl ?_
    refine s_call0 (as := [(2, x0), (0, x1), (0, x2), (0, x5)]) (st1 := []) (p1 := 39) (M2 := 294) (tk (n := 24) t300_0 rfl) rfl rfl rfl rfl rfl (fun r8 => ?_)
    refine s_istore (pc1 := 41) (ls1 := [(2, x0), (0, x1), (0, x2), (0, x3), (0, x4), (0, x5), (0, vx r8)]) (tk (n := 25) t300_0 rfl) rfl rfl rfl rfl ?_
    refine s_iload (pc1 := 43) (tk (n := 26) t300_0 rfl) rfl rfl rfl ?_
    refine s_iload (pc1 := 45) (tk (n := 27) t300_0 rfl) rfl rfl rfl ?_
    refine s_ic_lt (pc1 := 48) (pt := 51) (tk (n := 28) t300_0 rfl) rfl rfl rfl ?_ ?_
    · refine s_iload (pc1 := 53) (tk (n := 0) t300_1 rfl) rfl rfl rfl ?_
      refine s_istore_n (pc1 := 54) (ls1 := [(2, x0), (0, x1), (0, x2), (0, x5), (0, x4), (0, x5), (0, vx r8)]) (tk (n := 1) t300_1 rfl) rfl rfl rfl rfl ?_
      refine s_iload (pc1 := 56) (tk (n := 2) t300_1 rfl) rfl rfl rfl ?_
      refine s_istore (pc1 := 58) (ls1 := [(2, x0), (0, x1), (0, x2), (0, x5), (0, vx r8), (0, x5), (0, vx r8)]) (tk (n := 3) t300_1 rfl) rfl rfl rfl rfl ?_
      refine s_iinc (pc1 := 61) (ls1 := [(2, x0), (0, x1), (0, x2), (0, x5), (0, vx r8), (0, w32 (x5 + 1)), (0, vx r8)]) (tk (n := 4) t300_1 rfl) rfl rfl rfl rfl ?_
      refine s_goto (pc1 := 25) (tk (n := 5) t300_1 rfl) rfl rfl ?_
      rfl
    · refine s_goto (pc1 := 58) (tk (n := 29) t300_0 rfl) rfl rfl ?_
      refine s_iinc (pc1 := 61) (ls1 := [(2, x0), (0, x1), (0, x2), (0, x3), (0, x4), (0, w32 (x5 + 1)), (0, vx r8)]) (tk (n := 4) t300_1 rfl) rfl rfl rfl rfl ?_
      refine s_goto (pc1 := 25) (tk (n := 5) t300_1 rfl) rfl rfl ?_
      rfl
set_option maxRecDepth 100000 in
set_option maxHeartbeats 4000000 in
theorem e_X12_leaves (x0 : Int) (x1 : Int) (h : Hq) : vm 301 [(2, x0), (0, x1)] h = if 0 < x0 ∧ (kd x0).1 = 12 then if (kd (h.2 x0 13)).1 = 20 ∧ 0 ≤ (0 : Int) ∧ (0 : Int) < (kd (h.2 x0 13)).2 then (vm 165 [(0, x1), (0, 0), (0, w32 ((h.2 (h.2 x0 13) 0) - 1))] h).bind (fun r9 => if (vx r9) ≠ 0 then (vp 301 26 [(2, x0), (0, x1), (0, w32 (4 * x1)), (0, w32 (4 * x1))] [] r9.2) else (some (some (0, (-1)), r9.2))) else none else none := by
  show vp 301 0 [(2, x0), (0, x1), (9, 0), (9, 0)] [] h = _
  refine s_iload_n (pc1 := 1) (tk (n := 0) t301_0 rfl) rfl rfl rfl ?_
  refine s_iconst (pc1 := 2) (tk (n := 1) t301_0 rfl) rfl rfl  ?_
  refine s_aload_n (pc1 := 3) (tk (n := 2) t301_0 rfl) rfl rfl rfl ?_
  refine s_getf (pc1 := 6) (c := 12) (t1 := 2) (tk (n := 3) t301_0 rfl) rfl rfl (by decide) rfl rfl ?_
  refine s_iconst (pc1 := 7) (tk (n := 4) t301_0 rfl) rfl rfl  ?_
  refine s_iald (pc1 := 8) (tk (n := 5) t301_0 rfl) rfl rfl  ?_
  refine s_iconst (pc1 := 9) (tk (n := 6) t301_0 rfl) rfl rfl  ?_
  refine s_isub (pc1 := 10) (tk (n := 7) t301_0 rfl) rfl rfl  ?_
  refine s_callS0 (as := [(0, x1), (0, 0), (0, w32 ((h.2 (h.2 x0 13) 0) - 1))]) (st1 := []) (p1 := 13) (M2 := 165) (tk (n := 8) t301_0 rfl) rfl rfl rfl rfl rfl (fun r9 => ?_)
  refine s_if_ne (pc1 := 16) (pt := 18) (tk (n := 9) t301_0 rfl) rfl rfl rfl ?_ ?_
  · refine s_iconst (pc1 := 19) (tk (n := 12) t301_0 rfl) rfl rfl  ?_
    refine s_iload_n (pc1 := 20) (tk (n := 13) t301_0 rfl) rfl rfl rfl ?_
    refine s_imul (pc1 := 21) (tk (n := 14) t301_0 rfl) rfl rfl  ?_
    refine s_istore_n (pc1 := 22) (ls1 := [(2, x0), (0, x1), (0, w32 (4 * x1)), (9, 0)]) (tk (n := 15) t301_0 rfl) rfl rfl rfl rfl ?_
    refine s_iconst (pc1 := 23) (tk (n := 16) t301_0 rfl) rfl rfl  ?_
    refine s_iload_n (pc1 := 24) (tk (n := 17) t301_0 rfl) rfl rfl rfl ?_
    refine s_imul (pc1 := 25) (tk (n := 18) t301_0 rfl) rfl rfl  ?_
    refine s_istore_n (pc1 := 26) (ls1 := [(2, x0), (0, x1), (0, w32 (4 * x1)), (0, w32 (4 * x1))]) (tk (n := 19) t301_0 rfl) rfl rfl rfl rfl ?_
    rfl
  · refine s_iconst (pc1 := 17) (tk (n := 10) t301_0 rfl) rfl rfl  ?_
    exact s_ret (tk (n := 11) t301_0 rfl) rfl rfl rfl
set_option maxRecDepth 100000 in
set_option maxHeartbeats 4000000 in
theorem e_X12_leaves_26 (x0 : Int) (x1 : Int) (x2 : Int) (x3 : Int) (h : Hq) : vp 301 26 [(2, x0), (0, x1), (0, x2), (0, x3)] [] h = if 0 < x0 ∧ (kd x0).1 = 12 then if (kd (h.2 x0 13)).1 = 20 ∧ 0 ≤ (1 : Int) ∧ (1 : Int) < (kd (h.2 x0 13)).2 then if x3 ≥ (w32 ((w32 (4 * x1)) + (h.2 (h.2 x0 13) 1))) then (if 0 < x0 ∧ (kd x0).1 = 12 then if (kd (h.2 x0 31)).1 = 20 ∧ 0 ≤ x2 ∧ x2 < (kd (h.2 x0 31)).2 then some (some (0, h.2 (h.2 x0 31) x2), h) else none else none) else (if 0 < x0 ∧ (kd x0).1 = 12 then if (kd (h.2 x0 31)).1 = 20 ∧ 0 ≤ x3 ∧ x3 < (kd (h.2 x0 31)).2 then if (h.2 (h.2 x0 31) x3) ≠ (-1) then (if 0 < x0 ∧ (kd x0).1 = 12 then if (kd (h.2 x0 32)).1 = 20 ∧ 0 ≤ x3 ∧ x3 < (kd (h.2 x0 32)).2 then if 0 < x0 ∧ (kd x0).1 = 12 then if (kd (h.2 x0 32)).1 = 20 ∧ 0 ≤ x2 ∧ x2 < (kd (h.2 x0 32)).2 then if (h.2 (h.2 x0 32) x3) ≥ (h.2 (h.2 x0 32) x2) then (vp 301 26 [(2, x0), (0, x1), (0, x2), (0, w32 (x3 + 1))] [] h) else (vp 301 26 [(2, x0), (0, x1), (0, x3), (0, w32 (x3 + 1))] [] h) else none else none else none else none) else (some (some (0, (-1)), h)) else none else none) else none else none := by
  refine s_iload_n (pc1 := 27) (tk (n := 20) t301_0 rfl) rfl rfl rfl ?_
  refine s_iconst (pc1 := 28) (tk (n := 21) t301_0 rfl) rfl rfl  ?_
  refine s_iload_n (pc1 := 29) (tk (n := 22) t301_0 rfl) rfl rfl rfl ?_
  refine s_imul (pc1 := 30) (tk (n := 23) t301_0 rfl) rfl rfl  ?_
  refine s_aload_n (pc1 := 31) (tk (n := 24) t301_0 rfl) rfl rfl rfl ?_
  refine s_getf (pc1 := 34) (c := 12) (t1 := 2) (tk (n := 25) t301_0 rfl) rfl rfl (by decide) rfl rfl ?_
  refine s_iconst (pc1 := 35) (tk (n := 26) t301_0 rfl) rfl rfl  ?_
  refine s_iald (pc1 := 36) (tk (n := 27) t301_0 rfl) rfl rfl  ?_
  refine s_iadd (pc1 := 37) (tk (n := 28) t301_0 rfl) rfl rfl  ?_
  refine s_ic_ge (pc1 := 40) (pt := 75) (tk (n := 29) t301_0 rfl) rfl rfl rfl ?_ ?_
  · refine s_aload_n (pc1 := 76) (tk (n := 21) t301_1 rfl) rfl rfl rfl ?_
    refine s_getf (pc1 := 79) (c := 12) (t1 := 2) (tk (n := 22) t301_1 rfl) rfl rfl (by decide) rfl rfl ?_
    refine s_iload_n (pc1 := 80) (tk (n := 23) t301_1 rfl) rfl rfl rfl ?_
    refine s_iald (pc1 := 81) (tk (n := 24) t301_1 rfl) rfl rfl  ?_
    exact s_ret (tk (n := 25) t301_1 rfl) rfl rfl rfl
  · refine s_aload_n (pc1 := 41) (tk (n := 0) t301_1 rfl) rfl rfl rfl ?_
    refine s_getf (pc1 := 44) (c := 12) (t1 := 2) (tk (n := 1) t301_1 rfl) rfl rfl (by decide) rfl rfl ?_
    refine s_iload_n (pc1 := 45) (tk (n := 2) t301_1 rfl) rfl rfl rfl ?_
    refine s_iald (pc1 := 46) (tk (n := 3) t301_1 rfl) rfl rfl  ?_
    refine s_iconst (pc1 := 47) (tk (n := 4) t301_1 rfl) rfl rfl  ?_
    refine s_ic_ne (pc1 := 50) (pt := 52) (tk (n := 5) t301_1 rfl) rfl rfl rfl ?_ ?_
    · refine s_aload_n (pc1 := 53) (tk (n := 8) t301_1 rfl) rfl rfl rfl ?_
      refine s_getf (pc1 := 56) (c := 12) (t1 := 2) (tk (n := 9) t301_1 rfl) rfl rfl (by decide) rfl rfl ?_
      refine s_iload_n (pc1 := 57) (tk (n := 10) t301_1 rfl) rfl rfl rfl ?_
      refine s_iald (pc1 := 58) (tk (n := 11) t301_1 rfl) rfl rfl  ?_
      refine s_aload_n (pc1 := 59) (tk (n := 12) t301_1 rfl) rfl rfl rfl ?_
      refine s_getf (pc1 := 62) (c := 12) (t1 := 2) (tk (n := 13) t301_1 rfl) rfl rfl (by decide) rfl rfl ?_
      refine s_iload_n (pc1 := 63) (tk (n := 14) t301_1 rfl) rfl rfl rfl ?_
      refine s_iald (pc1 := 64) (tk (n := 15) t301_1 rfl) rfl rfl  ?_
      refine s_ic_ge (pc1 := 67) (pt := 69) (tk (n := 16) t301_1 rfl) rfl rfl rfl ?_ ?_
      · refine s_iinc (pc1 := 72) (ls1 := [(2, x0), (0, x1), (0, x2), (0, w32 (x3 + 1))]) (tk (n := 19) t301_1 rfl) rfl rfl rfl rfl ?_
        refine s_goto (pc1 := 26) (tk (n := 20) t301_1 rfl) rfl rfl ?_
        rfl
      · refine s_iload_n (pc1 := 68) (tk (n := 17) t301_1 rfl) rfl rfl rfl ?_
        refine s_istore_n (pc1 := 69) (ls1 := [(2, x0), (0, x1), (0, x3), (0, x3)]) (tk (n := 18) t301_1 rfl) rfl rfl rfl rfl ?_
        refine s_iinc (pc1 := 72) (ls1 := [(2, x0), (0, x1), (0, x3), (0, w32 (x3 + 1))]) (tk (n := 19) t301_1 rfl) rfl rfl rfl rfl ?_
        refine s_goto (pc1 := 26) (tk (n := 20) t301_1 rfl) rfl rfl ?_
        rfl
    · refine s_iconst (pc1 := 51) (tk (n := 6) t301_1 rfl) rfl rfl  ?_
      exact s_ret (tk (n := 7) t301_1 rfl) rfl rfl rfl
set_option maxRecDepth 100000 in
set_option maxHeartbeats 4000000 in
theorem e_X12_ahead (x0 : Int) (x1 : Int) (h : Hq) : vm 302 [(2, x0), (0, x1)] h = vp 302 4 [(2, x0), (0, x1), (0, 0), (0, 0)] [] h := by
  show vp 302 0 [(2, x0), (0, x1), (9, 0), (9, 0)] [] h = _
  refine s_iconst (pc1 := 1) (tk (n := 0) t302_0 rfl) rfl rfl  ?_
  refine s_istore_n (pc1 := 2) (ls1 := [(2, x0), (0, x1), (0, 0), (9, 0)]) (tk (n := 1) t302_0 rfl) rfl rfl rfl rfl ?_
  refine s_iconst (pc1 := 3) (tk (n := 2) t302_0 rfl) rfl rfl  ?_
  refine s_istore_n (pc1 := 4) (ls1 := [(2, x0), (0, x1), (0, 0), (0, 0)]) (tk (n := 3) t302_0 rfl) rfl rfl rfl rfl ?_
  rfl
set_option maxRecDepth 100000 in
set_option maxHeartbeats 4000000 in
theorem e_X12_ahead_4 (x0 : Int) (x1 : Int) (x2 : Int) (x3 : Int) (h : Hq) : vp 302 4 [(2, x0), (0, x1), (0, x2), (0, x3)] [] h = if x3 ≥ 2400 then (some (some (0, x2), h)) else (if 0 < x0 ∧ (kd x0).1 = 12 then if (kd (h.2 x0 33)).1 = 20 ∧ 0 ≤ x3 ∧ x3 < (kd (h.2 x0 33)).2 then if 0 < x0 ∧ (kd x0).1 = 12 then if (kd (h.2 x0 33)).1 = 20 ∧ 0 ≤ x1 ∧ x1 < (kd (h.2 x0 33)).2 then if (h.2 (h.2 x0 33) x3) > (h.2 (h.2 x0 33) x1) then ((vm 168 [(0, 1)] h).bind (fun r16 => vp 302 4 [(2, x0), (0, x1), (0, w32 (x2 + (vx r16))), (0, w32 (x3 + 1))] [] r16.2)) else (if 0 < x0 ∧ (kd x0).1 = 12 then if (kd (h.2 x0 33)).1 = 20 ∧ 0 ≤ x3 ∧ x3 < (kd (h.2 x0 33)).2 then if 0 < x0 ∧ (kd x0).1 = 12 then if (kd (h.2 x0 33)).1 = 20 ∧ 0 ≤ x1 ∧ x1 < (kd (h.2 x0 33)).2 then if (h.2 (h.2 x0 33) x3) ≠ (h.2 (h.2 x0 33) x1) then ((vm 168 [(0, 0)] h).bind (fun r24 => vp 302 4 [(2, x0), (0, x1), (0, w32 (x2 + (vx r24))), (0, w32 (x3 + 1))] [] r24.2)) else (if x3 ≥ x1 then ((vm 168 [(0, 0)] h).bind (fun r27 => vp 302 4 [(2, x0), (0, x1), (0, w32 (x2 + (vx r27))), (0, w32 (x3 + 1))] [] r27.2)) else ((vm 168 [(0, 1)] h).bind (fun r28 => vp 302 4 [(2, x0), (0, x1), (0, w32 (x2 + (vx r28))), (0, w32 (x3 + 1))] [] r28.2))) else none else none else none else none) else none else none else none else none) := by
  refine s_iload_n (pc1 := 5) (tk (n := 4) t302_0 rfl) rfl rfl rfl ?_
  refine s_sipush (pc1 := 8) (tk (n := 5) t302_0 rfl) rfl rfl  ?_
  refine s_ic_ge (pc1 := 11) (pt := 63) (tk (n := 6) t302_0 rfl) rfl rfl rfl ?_ ?_
  · refine s_iload_n (pc1 := 64) (tk (n := 7) t302_1 rfl) rfl rfl rfl ?_
    exact s_ret (tk (n := 8) t302_1 rfl) rfl rfl rfl
  · refine s_iload_n (pc1 := 12) (tk (n := 7) t302_0 rfl) rfl rfl rfl ?_
    refine s_aload_n (pc1 := 13) (tk (n := 8) t302_0 rfl) rfl rfl rfl ?_
    refine s_getf (pc1 := 16) (c := 12) (t1 := 2) (tk (n := 9) t302_0 rfl) rfl rfl (by decide) rfl rfl ?_
    refine s_iload_n (pc1 := 17) (tk (n := 10) t302_0 rfl) rfl rfl rfl ?_
    refine s_iald (pc1 := 18) (tk (n := 11) t302_0 rfl) rfl rfl  ?_
    refine s_aload_n (pc1 := 19) (tk (n := 12) t302_0 rfl) rfl rfl rfl ?_
    refine s_getf (pc1 := 22) (c := 12) (t1 := 2) (tk (n := 13) t302_0 rfl) rfl rfl (by decide) rfl rfl ?_
    refine s_iload_n (pc1 := 23) (tk (n := 14) t302_0 rfl) rfl rfl rfl ?_
    refine s_iald (pc1 := 24) (tk (n := 15) t302_0 rfl) rfl rfl  ?_
    refine s_ic_gt (pc1 := 27) (pt := 47) (tk (n := 16) t302_0 rfl) rfl rfl rfl ?_ ?_
    · refine s_iconst (pc1 := 48) (tk (n := 29) t302_0 rfl) rfl rfl  ?_
      refine s_goto (pc1 := 52) (tk (n := 0) t302_1 rfl) rfl rfl ?_
      refine s_callS0 (as := [(0, 1)]) (st1 := [(0, x2)]) (p1 := 55) (M2 := 168) (tk (n := 2) t302_1 rfl) rfl rfl rfl rfl rfl (fun r16 => ?_)
      refine s_iadd (pc1 := 56) (tk (n := 3) t302_1 rfl) rfl rfl  ?_
      refine s_istore_n (pc1 := 57) (ls1 := [(2, x0), (0, x1), (0, w32 (x2 + (vx r16))), (0, x3)]) (tk (n := 4) t302_1 rfl) rfl rfl rfl rfl ?_
      refine s_iinc (pc1 := 60) (ls1 := [(2, x0), (0, x1), (0, w32 (x2 + (vx r16))), (0, w32 (x3 + 1))]) (tk (n := 5) t302_1 rfl) rfl rfl rfl rfl ?_
      refine s_goto (pc1 := 4) (tk (n := 6) t302_1 rfl) rfl rfl ?_
      rfl
    · refine s_aload_n (pc1 := 28) (tk (n := 17) t302_0 rfl) rfl rfl rfl ?_
      refine s_getf (pc1 := 31) (c := 12) (t1 := 2) (tk (n := 18) t302_0 rfl) rfl rfl (by decide) rfl rfl ?_
      refine s_iload_n (pc1 := 32) (tk (n := 19) t302_0 rfl) rfl rfl rfl ?_
      refine s_iald (pc1 := 33) (tk (n := 20) t302_0 rfl) rfl rfl  ?_
      refine s_aload_n (pc1 := 34) (tk (n := 21) t302_0 rfl) rfl rfl rfl ?_
      refine s_getf (pc1 := 37) (c := 12) (t1 := 2) (tk (n := 22) t302_0 rfl) rfl rfl (by decide) rfl rfl ?_
      refine s_iload_n (pc1 := 38) (tk (n := 23) t302_0 rfl) rfl rfl rfl ?_
      refine s_iald (pc1 := 39) (tk (n := 24) t302_0 rfl) rfl rfl  ?_
      refine s_ic_ne (pc1 := 42) (pt := 51) (tk (n := 25) t302_0 rfl) rfl rfl rfl ?_ ?_
      · refine s_iconst (pc1 := 52) (tk (n := 1) t302_1 rfl) rfl rfl  ?_
        refine s_callS0 (as := [(0, 0)]) (st1 := [(0, x2)]) (p1 := 55) (M2 := 168) (tk (n := 2) t302_1 rfl) rfl rfl rfl rfl rfl (fun r24 => ?_)
        refine s_iadd (pc1 := 56) (tk (n := 3) t302_1 rfl) rfl rfl  ?_
        refine s_istore_n (pc1 := 57) (ls1 := [(2, x0), (0, x1), (0, w32 (x2 + (vx r24))), (0, x3)]) (tk (n := 4) t302_1 rfl) rfl rfl rfl rfl ?_
        refine s_iinc (pc1 := 60) (ls1 := [(2, x0), (0, x1), (0, w32 (x2 + (vx r24))), (0, w32 (x3 + 1))]) (tk (n := 5) t302_1 rfl) rfl rfl rfl rfl ?_
        refine s_goto (pc1 := 4) (tk (n := 6) t302_1 rfl) rfl rfl ?_
        rfl
      · refine s_iload_n (pc1 := 43) (tk (n := 26) t302_0 rfl) rfl rfl rfl ?_
        refine s_iload_n (pc1 := 44) (tk (n := 27) t302_0 rfl) rfl rfl rfl ?_
        refine s_ic_ge (pc1 := 47) (pt := 51) (tk (n := 28) t302_0 rfl) rfl rfl rfl ?_ ?_
        · refine s_iconst (pc1 := 52) (tk (n := 1) t302_1 rfl) rfl rfl  ?_
          refine s_callS0 (as := [(0, 0)]) (st1 := [(0, x2)]) (p1 := 55) (M2 := 168) (tk (n := 2) t302_1 rfl) rfl rfl rfl rfl rfl (fun r27 => ?_)
          refine s_iadd (pc1 := 56) (tk (n := 3) t302_1 rfl) rfl rfl  ?_
          refine s_istore_n (pc1 := 57) (ls1 := [(2, x0), (0, x1), (0, w32 (x2 + (vx r27))), (0, x3)]) (tk (n := 4) t302_1 rfl) rfl rfl rfl rfl ?_
          refine s_iinc (pc1 := 60) (ls1 := [(2, x0), (0, x1), (0, w32 (x2 + (vx r27))), (0, w32 (x3 + 1))]) (tk (n := 5) t302_1 rfl) rfl rfl rfl rfl ?_
          refine s_goto (pc1 := 4) (tk (n := 6) t302_1 rfl) rfl rfl ?_
          rfl
        · refine s_iconst (pc1 := 48) (tk (n := 29) t302_0 rfl) rfl rfl  ?_
          refine s_goto (pc1 := 52) (tk (n := 0) t302_1 rfl) rfl rfl ?_
          refine s_callS0 (as := [(0, 1)]) (st1 := [(0, x2)]) (p1 := 55) (M2 := 168) (tk (n := 2) t302_1 rfl) rfl rfl rfl rfl rfl (fun r28 => ?_)
          refine s_iadd (pc1 := 56) (tk (n := 3) t302_1 rfl) rfl rfl  ?_
          refine s_istore_n (pc1 := 57) (ls1 := [(2, x0), (0, x1), (0, w32 (x2 + (vx r28))), (0, x3)]) (tk (n := 4) t302_1 rfl) rfl rfl rfl rfl ?_
          refine s_iinc (pc1 := 60) (ls1 := [(2, x0), (0, x1), (0, w32 (x2 + (vx r28))), (0, w32 (x3 + 1))]) (tk (n := 5) t302_1 rfl) rfl rfl rfl rfl ?_
          refine s_goto (pc1 := 4) (tk (n := 6) t302_1 rfl) rfl rfl ?_
          rfl
set_option maxRecDepth 100000 in
set_option maxHeartbeats 4000000 in
theorem e_X12_hottest (x0 : Int) (x1 : Int) (x2 : Int) (h : Hq) : vm 303 [(2, x0), (0, x1), (0, x2)] h = if x1 < 0 then (some (some (0, (-1)), h)) else ((vm 165 [(0, x2), (0, 0), (0, 1)] h).bind (fun r6 => if (vx r6) ≠ 0 then (vp 303 17 [(2, x0), (0, x1), (0, x2), (0, 0)] [] r6.2) else (some (some (0, (-1)), r6.2)))) := by
  show vp 303 0 [(2, x0), (0, x1), (0, x2), (9, 0)] [] h = _
  refine s_iload_n (pc1 := 1) (tk (n := 0) t303_0 rfl) rfl rfl rfl ?_
  refine s_if_lt (pc1 := 4) (pt := 13) (tk (n := 1) t303_0 rfl) rfl rfl rfl ?_ ?_
  · refine s_iconst (pc1 := 14) (tk (n := 7) t303_0 rfl) rfl rfl  ?_
    exact s_ret (tk (n := 8) t303_0 rfl) rfl rfl rfl
  · refine s_iload_n (pc1 := 5) (tk (n := 2) t303_0 rfl) rfl rfl rfl ?_
    refine s_iconst (pc1 := 6) (tk (n := 3) t303_0 rfl) rfl rfl  ?_
    refine s_iconst (pc1 := 7) (tk (n := 4) t303_0 rfl) rfl rfl  ?_
    refine s_callS0 (as := [(0, x2), (0, 0), (0, 1)]) (st1 := []) (p1 := 10) (M2 := 165) (tk (n := 5) t303_0 rfl) rfl rfl rfl rfl rfl (fun r6 => ?_)
    refine s_if_ne (pc1 := 13) (pt := 15) (tk (n := 6) t303_0 rfl) rfl rfl rfl ?_ ?_
    · refine s_iconst (pc1 := 16) (tk (n := 9) t303_0 rfl) rfl rfl  ?_
      refine s_istore_n (pc1 := 17) (ls1 := [(2, x0), (0, x1), (0, x2), (0, 0)]) (tk (n := 10) t303_0 rfl) rfl rfl rfl rfl ?_
      rfl
    · refine s_iconst (pc1 := 14) (tk (n := 7) t303_0 rfl) rfl rfl  ?_
      exact s_ret (tk (n := 8) t303_0 rfl) rfl rfl rfl
set_option maxRecDepth 100000 in
set_option maxHeartbeats 4000000 in
theorem e_X12_hottest_17 (x0 : Int) (x1 : Int) (x2 : Int) (x3 : Int) (h : Hq) : vp 303 17 [(2, x0), (0, x1), (0, x2), (0, x3)] [] h = if x3 ≥ 2400 then (some (some (0, (-1)), h)) else (if 0 < x0 ∧ (kd x0).1 = 12 then if (kd (h.2 x0 33)).1 = 20 ∧ 0 ≤ x3 ∧ x3 < (kd (h.2 x0 33)).2 then if (h.2 (h.2 x0 33) x3) ≤ 0 then (vp 303 17 [(2, x0), (0, x1), (0, x2), (0, w32 (x3 + 1))] [] h) else (if 0 < x0 ∧ (kd x0).1 = 12 then (vm 302 [(2, x0), (0, x3)] h).bind (fun r11 => if (vx r11) ≠ x1 then (vp 303 17 [(2, x0), (0, x1), (0, x2), (0, w32 (x3 + 1))] [] r11.2) else (if x2 ≠ 0 then (if 0 < x0 ∧ (kd x0).1 = 12 then if (kd (r11.2.2 x0 33)).1 = 20 ∧ 0 ≤ x3 ∧ x3 < (kd (r11.2.2 x0 33)).2 then some (some (0, r11.2.2 (r11.2.2 x0 33) x3), r11.2) else none else none) else (some (some (0, x3), r11.2)))) else none) else none else none) := by
  refine s_iload_n (pc1 := 18) (tk (n := 11) t303_0 rfl) rfl rfl rfl ?_
  refine s_sipush (pc1 := 21) (tk (n := 12) t303_0 rfl) rfl rfl  ?_
  refine s_ic_ge (pc1 := 24) (pt := 63) (tk (n := 13) t303_0 rfl) rfl rfl rfl ?_ ?_
  · refine s_iconst (pc1 := 64) (tk (n := 5) t303_1 rfl) rfl rfl  ?_
    exact s_ret (tk (n := 6) t303_1 rfl) rfl rfl rfl
  · refine s_aload_n (pc1 := 25) (tk (n := 14) t303_0 rfl) rfl rfl rfl ?_
    refine s_getf (pc1 := 28) (c := 12) (t1 := 2) (tk (n := 15) t303_0 rfl) rfl rfl (by decide) rfl rfl ?_
    refine s_iload_n (pc1 := 29) (tk (n := 16) t303_0 rfl) rfl rfl rfl ?_
    refine s_iald (pc1 := 30) (tk (n := 17) t303_0 rfl) rfl rfl  ?_
    refine s_if_le (pc1 := 33) (pt := 57) (tk (n := 18) t303_0 rfl) rfl rfl rfl ?_ ?_
    · refine s_iinc (pc1 := 60) (ls1 := [(2, x0), (0, x1), (0, x2), (0, w32 (x3 + 1))]) (tk (n := 3) t303_1 rfl) rfl rfl rfl rfl ?_
      refine s_goto (pc1 := 17) (tk (n := 4) t303_1 rfl) rfl rfl ?_
      rfl
    · refine s_aload_n (pc1 := 34) (tk (n := 19) t303_0 rfl) rfl rfl rfl ?_
      refine s_iload_n (pc1 := 35) (tk (n := 20) t303_0 rfl) rfl rfl rfl ?_
      refine s_call0 (as := [(2, x0), (0, x3)]) (st1 := []) (p1 := 38) (M2 := 302) (tk (n := 21) t303_0 rfl) rfl rfl rfl rfl rfl (fun r11 => ?_)
      refine s_iload_n (pc1 := 39) (tk (n := 22) t303_0 rfl) rfl rfl rfl ?_
      refine s_ic_ne (pc1 := 42) (pt := 57) (tk (n := 23) t303_0 rfl) rfl rfl rfl ?_ ?_
      · refine s_iinc (pc1 := 60) (ls1 := [(2, x0), (0, x1), (0, x2), (0, w32 (x3 + 1))]) (tk (n := 3) t303_1 rfl) rfl rfl rfl rfl ?_
        refine s_goto (pc1 := 17) (tk (n := 4) t303_1 rfl) rfl rfl ?_
        rfl
      · refine s_iload_n (pc1 := 43) (tk (n := 24) t303_0 rfl) rfl rfl rfl ?_
        refine s_if_ne (pc1 := 46) (pt := 50) (tk (n := 25) t303_0 rfl) rfl rfl rfl ?_ ?_
        · refine s_aload_n (pc1 := 51) (tk (n := 28) t303_0 rfl) rfl rfl rfl ?_
          refine s_getf (pc1 := 54) (c := 12) (t1 := 2) (tk (n := 29) t303_0 rfl) rfl rfl (by decide) rfl rfl ?_
          refine s_iload_n (pc1 := 55) (tk (n := 0) t303_1 rfl) rfl rfl rfl ?_
          refine s_iald (pc1 := 56) (tk (n := 1) t303_1 rfl) rfl rfl  ?_
          exact s_ret (tk (n := 2) t303_1 rfl) rfl rfl rfl
        · refine s_iload_n (pc1 := 47) (tk (n := 26) t303_0 rfl) rfl rfl rfl ?_
          refine s_goto (pc1 := 56) (tk (n := 27) t303_0 rfl) rfl rfl ?_
          exact s_ret (tk (n := 2) t303_1 rfl) rfl rfl rfl
set_option maxRecDepth 100000 in
set_option maxHeartbeats 4000000 in
theorem e_X12_sumAll (x0 : Int) (h : Hq) : vm 304 [(2, x0)] h = vp 304 4 [(2, x0), (1, 0), (9, 0), (0, 0), (9, 0)] [] h := by
  show vp 304 0 [(2, x0), (9, 0), (9, 0), (9, 0), (9, 0)] [] h = _
  refine s_lconst (pc1 := 1) (v := 0) (tk (n := 0) t304_0 rfl) rfl rfl rfl ?_
  refine s_lstore_n (pc1 := 2) (ls1 := [(2, x0), (1, 0), (9, 0), (9, 0), (9, 0)]) (tk (n := 1) t304_0 rfl) rfl rfl rfl rfl ?_
  refine s_iconst (pc1 := 3) (tk (n := 2) t304_0 rfl) rfl rfl  ?_
  refine s_istore_n (pc1 := 4) (ls1 := [(2, x0), (1, 0), (9, 0), (0, 0), (9, 0)]) (tk (n := 3) t304_0 rfl) rfl rfl rfl rfl ?_
  rfl
set_option maxRecDepth 100000 in
set_option maxHeartbeats 4000000 in
theorem e_X12_sumAll_4 (x0 : Int) (x1 : Int) (x3 : Int) (z4 : Vl) (h : Hq) : vp 304 4 [(2, x0), (1, x1), (9, 0), (0, x3), z4] [] h = if 0 < x0 ∧ (kd x0).1 = 12 then (vm 207 [(2, x0)] h).bind (fun r3 => if x3 ≥ (vx r3) then (if (if (x1.tmod 1000003) < 0 then -1 else if (x1.tmod 1000003) = 0 then 0 else 1) ≥ 0 then (some (some (0, w32 (x1.tmod 1000003)), r3.2)) else (some (some (0, w32 (w64 ((x1.tmod 1000003) + 1000003))), r3.2))) else (if 0 < x0 ∧ (kd x0).1 = 12 then (vm 232 [(2, x0), (0, x3)] r3.2).bind (fun r8 => vp 304 4 [(2, x0), (1, w64 (x1 + (vx r8))), (9, 0), (0, w32 (x3 + 1)), (9, 0)] [] r8.2) else none)) else none := by
  refine s_fg (ls1 := [(2, x0), (1, x1), (9, 0), (0, x3), (9, 0)]) (tk (n := 4) t304_0 rfl) rfl ?_
  refine s_iload_n (pc1 := 5) (tk (n := 4) t304_0 rfl) rfl rfl rfl ?_
  refine s_aload_n (pc1 := 6) (tk (n := 5) t304_0 rfl) rfl rfl rfl ?_
  refine s_call0 (as := [(2, x0)]) (st1 := [(0, x3)]) (p1 := 9) (M2 := 207) (tk (n := 6) t304_0 rfl) rfl rfl rfl rfl rfl (fun r3 => ?_)
  refine s_ic_ge (pc1 := 12) (pt := 26) (tk (n := 7) t304_0 rfl) rfl rfl rfl ?_ ?_
  · refine s_lload_n (pc1 := 27) (tk (n := 16) t304_0 rfl) rfl rfl rfl ?_
    refine s_ldc2 (pc1 := 30) (tk (n := 17) t304_0 rfl) rfl rfl  ?_
    refine s_lremc (pc1 := 31) (tk (n := 18) t304_0 rfl) rfl rfl (by decide) ?_
    refine s_lstore_n (pc1 := 32) (ls1 := [(2, x0), (1, x1), (9, 0), (1, x1.tmod 1000003), (9, 0)]) (tk (n := 19) t304_0 rfl) rfl rfl rfl rfl ?_
    refine s_lload_n (pc1 := 33) (tk (n := 20) t304_0 rfl) rfl rfl rfl ?_
    refine s_lconst (pc1 := 34) (v := 0) (tk (n := 21) t304_0 rfl) rfl rfl rfl ?_
    refine s_lcmp (pc1 := 35) (tk (n := 22) t304_0 rfl) rfl rfl  ?_
    refine s_if_ge (pc1 := 38) (pt := 46) (tk (n := 23) t304_0 rfl) rfl rfl rfl ?_ ?_
    · refine s_lload_n (pc1 := 47) (tk (n := 28) t304_0 rfl) rfl rfl rfl ?_
      refine s_l2i (pc1 := 48) (tk (n := 29) t304_0 rfl) rfl rfl  ?_
      exact s_ret (tk (n := 0) t304_1 rfl) rfl rfl rfl
    · refine s_lload_n (pc1 := 39) (tk (n := 24) t304_0 rfl) rfl rfl rfl ?_
      refine s_ldc2 (pc1 := 42) (tk (n := 25) t304_0 rfl) rfl rfl  ?_
      refine s_ladd (pc1 := 43) (tk (n := 26) t304_0 rfl) rfl rfl  ?_
      refine s_goto (pc1 := 47) (tk (n := 27) t304_0 rfl) rfl rfl ?_
      refine s_l2i (pc1 := 48) (tk (n := 29) t304_0 rfl) rfl rfl  ?_
      exact s_ret (tk (n := 0) t304_1 rfl) rfl rfl rfl
  · refine s_lload_n (pc1 := 13) (tk (n := 8) t304_0 rfl) rfl rfl rfl ?_
    refine s_aload_n (pc1 := 14) (tk (n := 9) t304_0 rfl) rfl rfl rfl ?_
    refine s_iload_n (pc1 := 15) (tk (n := 10) t304_0 rfl) rfl rfl rfl ?_
    refine s_call1 (as := [(2, x0), (0, x3)]) (st1 := [(1, x1)]) (p1 := 18) (M2 := 232) (tk (n := 11) t304_0 rfl) rfl rfl rfl rfl rfl (fun r8 => ?_)
    refine s_ladd (pc1 := 19) (tk (n := 12) t304_0 rfl) rfl rfl  ?_
    refine s_lstore_n (pc1 := 20) (ls1 := [(2, x0), (1, w64 (x1 + (vx r8))), (9, 0), (0, x3), (9, 0)]) (tk (n := 13) t304_0 rfl) rfl rfl rfl rfl ?_
    refine s_iinc (pc1 := 23) (ls1 := [(2, x0), (1, w64 (x1 + (vx r8))), (9, 0), (0, w32 (x3 + 1)), (9, 0)]) (tk (n := 14) t304_0 rfl) rfl rfl rfl rfl ?_
    refine s_goto (pc1 := 4) (tk (n := 15) t304_0 rfl) rfl rfl ?_
    rfl
set_option maxRecDepth 100000 in
set_option maxHeartbeats 4000000 in
theorem e_X12_image (x0 : Int) (x1 : Int) (h : Hq) : vm 305 [(2, x0), (0, x1)] h = (vm 165 [(0, x1), (0, 0), (0, 1)] h).bind (fun r4 => if (vx r4) ≠ 0 then (if 0 < x0 ∧ (kd x0).1 = 12 then if 0 < (r4.2.2 x0 39) ∧ (kd (r4.2.2 x0 39)).1 = 22 ∧ 0 ≤ x1 ∧ x1 < (kd (r4.2.2 x0 39)).2 then vp 305 20 [(2, x0), (0, x1), (0, 0)] [] (r4.2.1, stm r4.2.2 (r4.2.2 x0 39) x1 (1 % 2)) else none else none) else (some (some (0, (-1)), r4.2))) := by
  show vp 305 0 [(2, x0), (0, x1), (9, 0)] [] h = _
  refine s_iload_n (pc1 := 1) (tk (n := 0) t305_0 rfl) rfl rfl rfl ?_
  refine s_iconst (pc1 := 2) (tk (n := 1) t305_0 rfl) rfl rfl  ?_
  refine s_iconst (pc1 := 3) (tk (n := 2) t305_0 rfl) rfl rfl  ?_
  refine s_callS0 (as := [(0, x1), (0, 0), (0, 1)]) (st1 := []) (p1 := 6) (M2 := 165) (tk (n := 3) t305_0 rfl) rfl rfl rfl rfl rfl (fun r4 => ?_)
  refine s_if_ne (pc1 := 9) (pt := 11) (tk (n := 4) t305_0 rfl) rfl rfl rfl ?_ ?_
  · refine s_aload_n (pc1 := 12) (tk (n := 7) t305_0 rfl) rfl rfl rfl ?_
    refine s_getf (pc1 := 15) (c := 12) (t1 := 2) (tk (n := 8) t305_0 rfl) rfl rfl (by decide) rfl rfl ?_
    refine s_iload_n (pc1 := 16) (tk (n := 9) t305_0 rfl) rfl rfl rfl ?_
    refine s_iconst (pc1 := 17) (tk (n := 10) t305_0 rfl) rfl rfl  ?_
    refine s_bast2 (pc1 := 18) (tk (n := 11) t305_0 rfl) rfl rfl  ?_
    refine s_iconst (pc1 := 19) (tk (n := 12) t305_0 rfl) rfl rfl  ?_
    refine s_istore_n (pc1 := 20) (ls1 := [(2, x0), (0, x1), (0, 0)]) (tk (n := 13) t305_0 rfl) rfl rfl rfl rfl ?_
    rfl
  · refine s_iconst (pc1 := 10) (tk (n := 5) t305_0 rfl) rfl rfl  ?_
    exact s_ret (tk (n := 6) t305_0 rfl) rfl rfl rfl
set_option maxRecDepth 100000 in
set_option maxHeartbeats 4000000 in
theorem e_X12_image_20 (x0 : Int) (x1 : Int) (x2 : Int) (h : Hq) : vp 305 20 [(2, x0), (0, x1), (0, x2)] [] h = if x2 ≥ 2400 then (if 0 < x0 ∧ (kd x0).1 = 12 then (vm 304 [(2, x0)] h).bind (fun r5 => some (some (0, vx r5), r5.2)) else none) else (if 0 < x0 ∧ (kd x0).1 = 12 then if 0 < x0 ∧ (kd x0).1 = 12 then if (kd (h.2 x0 22)).1 = 20 ∧ 0 ≤ x2 ∧ x2 < (kd (h.2 x0 22)).2 then if 0 < (h.2 x0 37) ∧ (kd (h.2 x0 37)).1 = 20 ∧ 0 ≤ (w32 ((w32 (2400 * x1)) + x2)) ∧ (w32 ((w32 (2400 * x1)) + x2)) < (kd (h.2 x0 37)).2 then if 0 < x0 ∧ (kd x0).1 = 12 then if 0 < x0 ∧ (kd x0).1 = 12 then if (kd ((stm h.2 (h.2 x0 37) (w32 ((w32 (2400 * x1)) + x2)) (h.2 (h.2 x0 22) x2)) x0 23)).1 = 20 ∧ 0 ≤ x2 ∧ x2 < (kd ((stm h.2 (h.2 x0 37) (w32 ((w32 (2400 * x1)) + x2)) (h.2 (h.2 x0 22) x2)) x0 23)).2 then if 0 < ((stm h.2 (h.2 x0 37) (w32 ((w32 (2400 * x1)) + x2)) (h.2 (h.2 x0 22) x2)) x0 38) ∧ (kd ((stm h.2 (h.2 x0 37) (w32 ((w32 (2400 * x1)) + x2)) (h.2 (h.2 x0 22) x2)) x0 38)).1 = 20 ∧ 0 ≤ (w32 ((w32 (2400 * x1)) + x2)) ∧ (w32 ((w32 (2400 * x1)) + x2)) < (kd ((stm h.2 (h.2 x0 37) (w32 ((w32 (2400 * x1)) + x2)) (h.2 (h.2 x0 22) x2)) x0 38)).2 then vp 305 20 [(2, x0), (0, x1), (0, w32 (x2 + 1))] [] (h.1, stm (stm h.2 (h.2 x0 37) (w32 ((w32 (2400 * x1)) + x2)) (h.2 (h.2 x0 22) x2)) ((stm h.2 (h.2 x0 37) (w32 ((w32 (2400 * x1)) + x2)) (h.2 (h.2 x0 22) x2)) x0 38) (w32 ((w32 (2400 * x1)) + x2)) ((stm h.2 (h.2 x0 37) (w32 ((w32 (2400 * x1)) + x2)) (h.2 (h.2 x0 22) x2)) ((stm h.2 (h.2 x0 37) (w32 ((w32 (2400 * x1)) + x2)) (h.2 (h.2 x0 22) x2)) x0 23) x2)) else none else none else none else none else none else none else none else none) := by
  refine s_iload_n (pc1 := 21) (tk (n := 14) t305_0 rfl) rfl rfl rfl ?_
  refine s_sipush (pc1 := 24) (tk (n := 15) t305_0 rfl) rfl rfl  ?_
  refine s_ic_ge (pc1 := 27) (pt := 69) (tk (n := 16) t305_0 rfl) rfl rfl rfl ?_ ?_
  · refine s_aload_n (pc1 := 70) (tk (n := 13) t305_1 rfl) rfl rfl rfl ?_
    refine s_call0 (as := [(2, x0)]) (st1 := []) (p1 := 73) (M2 := 304) (tk (n := 14) t305_1 rfl) rfl rfl rfl rfl rfl (fun r5 => ?_)
    exact s_ret (tk (n := 15) t305_1 rfl) rfl rfl rfl
  · refine s_aload_n (pc1 := 28) (tk (n := 17) t305_0 rfl) rfl rfl rfl ?_
    refine s_getf (pc1 := 31) (c := 12) (t1 := 2) (tk (n := 18) t305_0 rfl) rfl rfl (by decide) rfl rfl ?_
    refine s_sipush (pc1 := 34) (tk (n := 19) t305_0 rfl) rfl rfl  ?_
    refine s_iload_n (pc1 := 35) (tk (n := 20) t305_0 rfl) rfl rfl rfl ?_
    refine s_imul (pc1 := 36) (tk (n := 21) t305_0 rfl) rfl rfl  ?_
    refine s_iload_n (pc1 := 37) (tk (n := 22) t305_0 rfl) rfl rfl rfl ?_
    refine s_iadd (pc1 := 38) (tk (n := 23) t305_0 rfl) rfl rfl  ?_
    refine s_aload_n (pc1 := 39) (tk (n := 24) t305_0 rfl) rfl rfl rfl ?_
    refine s_getf (pc1 := 42) (c := 12) (t1 := 2) (tk (n := 25) t305_0 rfl) rfl rfl (by decide) rfl rfl ?_
    refine s_iload_n (pc1 := 43) (tk (n := 26) t305_0 rfl) rfl rfl rfl ?_
    refine s_iald (pc1 := 44) (tk (n := 27) t305_0 rfl) rfl rfl  ?_
    refine s_iast (pc1 := 45) (tk (n := 28) t305_0 rfl) rfl rfl  ?_
    refine s_aload_n (pc1 := 46) (tk (n := 29) t305_0 rfl) rfl rfl rfl ?_
    refine s_getf (pc1 := 49) (c := 12) (t1 := 2) (tk (n := 0) t305_1 rfl) rfl rfl (by decide) rfl rfl ?_
    refine s_sipush (pc1 := 52) (tk (n := 1) t305_1 rfl) rfl rfl  ?_
    refine s_iload_n (pc1 := 53) (tk (n := 2) t305_1 rfl) rfl rfl rfl ?_
    refine s_imul (pc1 := 54) (tk (n := 3) t305_1 rfl) rfl rfl  ?_
    refine s_iload_n (pc1 := 55) (tk (n := 4) t305_1 rfl) rfl rfl rfl ?_
    refine s_iadd (pc1 := 56) (tk (n := 5) t305_1 rfl) rfl rfl  ?_
    refine s_aload_n (pc1 := 57) (tk (n := 6) t305_1 rfl) rfl rfl rfl ?_
    refine s_getf (pc1 := 60) (c := 12) (t1 := 2) (tk (n := 7) t305_1 rfl) rfl rfl (by decide) rfl rfl ?_
    refine s_iload_n (pc1 := 61) (tk (n := 8) t305_1 rfl) rfl rfl rfl ?_
    refine s_iald (pc1 := 62) (tk (n := 9) t305_1 rfl) rfl rfl  ?_
    refine s_iast (pc1 := 63) (tk (n := 10) t305_1 rfl) rfl rfl  ?_
    refine s_iinc (pc1 := 66) (ls1 := [(2, x0), (0, x1), (0, w32 (x2 + 1))]) (tk (n := 11) t305_1 rfl) rfl rfl rfl rfl ?_
    refine s_goto (pc1 := 20) (tk (n := 12) t305_1 rfl) rfl rfl ?_
    rfl
set_option maxRecDepth 100000 in
set_option maxHeartbeats 4000000 in
theorem e_X12_back (x0 : Int) (x1 : Int) (h : Hq) : vm 306 [(2, x0), (0, x1)] h = (vm 165 [(0, x1), (0, 0), (0, 1)] h).bind (fun r4 => if (vx r4) = 0 then (some (some (0, (-1)), r4.2)) else (if 0 < x0 ∧ (kd x0).1 = 12 then if (kd (r4.2.2 x0 39)).1 = 22 ∧ 0 ≤ x1 ∧ x1 < (kd (r4.2.2 x0 39)).2 then if (r4.2.2 (r4.2.2 x0 39) x1) ≠ 0 then (vp 306 22 [(2, x0), (0, x1), (0, 0)] [] r4.2) else (some (some (0, (-1)), r4.2)) else none else none)) := by
  show vp 306 0 [(2, x0), (0, x1), (9, 0)] [] h = _
  refine s_iload_n (pc1 := 1) (tk (n := 0) t306_0 rfl) rfl rfl rfl ?_
  refine s_iconst (pc1 := 2) (tk (n := 1) t306_0 rfl) rfl rfl  ?_
  refine s_iconst (pc1 := 3) (tk (n := 2) t306_0 rfl) rfl rfl  ?_
  refine s_callS0 (as := [(0, x1), (0, 0), (0, 1)]) (st1 := []) (p1 := 6) (M2 := 165) (tk (n := 3) t306_0 rfl) rfl rfl rfl rfl rfl (fun r4 => ?_)
  refine s_if_eq (pc1 := 9) (pt := 18) (tk (n := 4) t306_0 rfl) rfl rfl rfl ?_ ?_
  · refine s_iconst (pc1 := 19) (tk (n := 10) t306_0 rfl) rfl rfl  ?_
    exact s_ret (tk (n := 11) t306_0 rfl) rfl rfl rfl
  · refine s_aload_n (pc1 := 10) (tk (n := 5) t306_0 rfl) rfl rfl rfl ?_
    refine s_getf (pc1 := 13) (c := 12) (t1 := 2) (tk (n := 6) t306_0 rfl) rfl rfl (by decide) rfl rfl ?_
    refine s_iload_n (pc1 := 14) (tk (n := 7) t306_0 rfl) rfl rfl rfl ?_
    refine s_bald (pc1 := 15) (c := 22) (tk (n := 8) t306_0 rfl) rfl rfl rfl ?_
    refine s_if_ne (pc1 := 18) (pt := 20) (tk (n := 9) t306_0 rfl) rfl rfl rfl ?_ ?_
    · refine s_iconst (pc1 := 21) (tk (n := 12) t306_0 rfl) rfl rfl  ?_
      refine s_istore_n (pc1 := 22) (ls1 := [(2, x0), (0, x1), (0, 0)]) (tk (n := 13) t306_0 rfl) rfl rfl rfl rfl ?_
      rfl
    · refine s_iconst (pc1 := 19) (tk (n := 10) t306_0 rfl) rfl rfl  ?_
      exact s_ret (tk (n := 11) t306_0 rfl) rfl rfl rfl
set_option maxRecDepth 100000 in
set_option maxHeartbeats 4000000 in
theorem e_X12_back_22 (x0 : Int) (x1 : Int) (x2 : Int) (h : Hq) : vp 306 22 [(2, x0), (0, x1), (0, x2)] [] h = if x2 ≥ 2400 then (if (0 < x0 ∧ (kd x0).1 = 12) ∧ True then if 0 < x0 ∧ (kd x0).1 = 12 then (vm 304 [(2, x0)] (h.1, stm h.2 x0 26 0)).bind (fun r8 => some (some (0, vx r8), r8.2)) else none else none) else (if 0 < x0 ∧ (kd x0).1 = 12 then if 0 < x0 ∧ (kd x0).1 = 12 then if (kd (h.2 x0 37)).1 = 20 ∧ 0 ≤ (w32 ((w32 (2400 * x1)) + x2)) ∧ (w32 ((w32 (2400 * x1)) + x2)) < (kd (h.2 x0 37)).2 then if 0 < (h.2 x0 22) ∧ (kd (h.2 x0 22)).1 = 20 ∧ 0 ≤ x2 ∧ x2 < (kd (h.2 x0 22)).2 then if 0 < x0 ∧ (kd x0).1 = 12 then if 0 < x0 ∧ (kd x0).1 = 12 then if (kd ((stm h.2 (h.2 x0 22) x2 (h.2 (h.2 x0 37) (w32 ((w32 (2400 * x1)) + x2)))) x0 38)).1 = 20 ∧ 0 ≤ (w32 ((w32 (2400 * x1)) + x2)) ∧ (w32 ((w32 (2400 * x1)) + x2)) < (kd ((stm h.2 (h.2 x0 22) x2 (h.2 (h.2 x0 37) (w32 ((w32 (2400 * x1)) + x2)))) x0 38)).2 then if 0 < ((stm h.2 (h.2 x0 22) x2 (h.2 (h.2 x0 37) (w32 ((w32 (2400 * x1)) + x2)))) x0 23) ∧ (kd ((stm h.2 (h.2 x0 22) x2 (h.2 (h.2 x0 37) (w32 ((w32 (2400 * x1)) + x2)))) x0 23)).1 = 20 ∧ 0 ≤ x2 ∧ x2 < (kd ((stm h.2 (h.2 x0 22) x2 (h.2 (h.2 x0 37) (w32 ((w32 (2400 * x1)) + x2)))) x0 23)).2 then vp 306 22 [(2, x0), (0, x1), (0, w32 (x2 + 1))] [] (h.1, stm (stm h.2 (h.2 x0 22) x2 (h.2 (h.2 x0 37) (w32 ((w32 (2400 * x1)) + x2)))) ((stm h.2 (h.2 x0 22) x2 (h.2 (h.2 x0 37) (w32 ((w32 (2400 * x1)) + x2)))) x0 23) x2 ((stm h.2 (h.2 x0 22) x2 (h.2 (h.2 x0 37) (w32 ((w32 (2400 * x1)) + x2)))) ((stm h.2 (h.2 x0 22) x2 (h.2 (h.2 x0 37) (w32 ((w32 (2400 * x1)) + x2)))) x0 38) (w32 ((w32 (2400 * x1)) + x2)))) else none else none else none else none else none else none else none else none) := by
  refine s_iload_n (pc1 := 23) (tk (n := 14) t306_0 rfl) rfl rfl rfl ?_
  refine s_sipush (pc1 := 26) (tk (n := 15) t306_0 rfl) rfl rfl  ?_
  refine s_ic_ge (pc1 := 29) (pt := 71) (tk (n := 16) t306_0 rfl) rfl rfl rfl ?_ ?_
  · refine s_aload_n (pc1 := 72) (tk (n := 13) t306_1 rfl) rfl rfl rfl ?_
    refine s_iconst (pc1 := 73) (tk (n := 14) t306_1 rfl) rfl rfl  ?_
    refine s_putf0 (pc1 := 76) (c := 12) (tk (n := 15) t306_1 rfl) rfl rfl rfl rfl rfl ?_
    refine s_aload_n (pc1 := 77) (tk (n := 16) t306_1 rfl) rfl rfl rfl ?_
    refine s_call0 (as := [(2, x0)]) (st1 := []) (p1 := 80) (M2 := 304) (tk (n := 17) t306_1 rfl) rfl rfl rfl rfl rfl (fun r8 => ?_)
    exact s_ret (tk (n := 18) t306_1 rfl) rfl rfl rfl
  · refine s_aload_n (pc1 := 30) (tk (n := 17) t306_0 rfl) rfl rfl rfl ?_
    refine s_getf (pc1 := 33) (c := 12) (t1 := 2) (tk (n := 18) t306_0 rfl) rfl rfl (by decide) rfl rfl ?_
    refine s_iload_n (pc1 := 34) (tk (n := 19) t306_0 rfl) rfl rfl rfl ?_
    refine s_aload_n (pc1 := 35) (tk (n := 20) t306_0 rfl) rfl rfl rfl ?_
    refine s_getf (pc1 := 38) (c := 12) (t1 := 2) (tk (n := 21) t306_0 rfl) rfl rfl (by decide) rfl rfl ?_
    refine s_sipush (pc1 := 41) (tk (n := 22) t306_0 rfl) rfl rfl  ?_
    refine s_iload_n (pc1 := 42) (tk (n := 23) t306_0 rfl) rfl rfl rfl ?_
    refine s_imul (pc1 := 43) (tk (n := 24) t306_0 rfl) rfl rfl  ?_
    refine s_iload_n (pc1 := 44) (tk (n := 25) t306_0 rfl) rfl rfl rfl ?_
    refine s_iadd (pc1 := 45) (tk (n := 26) t306_0 rfl) rfl rfl  ?_
    refine s_iald (pc1 := 46) (tk (n := 27) t306_0 rfl) rfl rfl  ?_
    refine s_iast (pc1 := 47) (tk (n := 28) t306_0 rfl) rfl rfl  ?_
    refine s_aload_n (pc1 := 48) (tk (n := 29) t306_0 rfl) rfl rfl rfl ?_
    refine s_getf (pc1 := 51) (c := 12) (t1 := 2) (tk (n := 0) t306_1 rfl) rfl rfl (by decide) rfl rfl ?_
    refine s_iload_n (pc1 := 52) (tk (n := 1) t306_1 rfl) rfl rfl rfl ?_
    refine s_aload_n (pc1 := 53) (tk (n := 2) t306_1 rfl) rfl rfl rfl ?_
    refine s_getf (pc1 := 56) (c := 12) (t1 := 2) (tk (n := 3) t306_1 rfl) rfl rfl (by decide) rfl rfl ?_
    refine s_sipush (pc1 := 59) (tk (n := 4) t306_1 rfl) rfl rfl  ?_
    refine s_iload_n (pc1 := 60) (tk (n := 5) t306_1 rfl) rfl rfl rfl ?_
    refine s_imul (pc1 := 61) (tk (n := 6) t306_1 rfl) rfl rfl  ?_
    refine s_iload_n (pc1 := 62) (tk (n := 7) t306_1 rfl) rfl rfl rfl ?_
    refine s_iadd (pc1 := 63) (tk (n := 8) t306_1 rfl) rfl rfl  ?_
    refine s_iald (pc1 := 64) (tk (n := 9) t306_1 rfl) rfl rfl  ?_
    refine s_iast (pc1 := 65) (tk (n := 10) t306_1 rfl) rfl rfl  ?_
    refine s_iinc (pc1 := 68) (ls1 := [(2, x0), (0, x1), (0, w32 (x2 + 1))]) (tk (n := 11) t306_1 rfl) rfl rfl rfl rfl ?_
    refine s_goto (pc1 := 22) (tk (n := 12) t306_1 rfl) rfl rfl ?_
    rfl
set_option maxRecDepth 100000 in
set_option maxHeartbeats 4000000 in
theorem e_X12_allPlaces (x0 : Int) (h : Hq) : vm 307 [(2, x0)] h = vp 307 4 [(2, x0), (0, 0), (0, 0)] [] h := by
  show vp 307 0 [(2, x0), (9, 0), (9, 0)] [] h = _
  refine s_iconst (pc1 := 1) (tk (n := 0) t307_0 rfl) rfl rfl  ?_
  refine s_istore_n (pc1 := 2) (ls1 := [(2, x0), (0, 0), (9, 0)]) (tk (n := 1) t307_0 rfl) rfl rfl rfl rfl ?_
  refine s_iconst (pc1 := 3) (tk (n := 2) t307_0 rfl) rfl rfl  ?_
  refine s_istore_n (pc1 := 4) (ls1 := [(2, x0), (0, 0), (0, 0)]) (tk (n := 3) t307_0 rfl) rfl rfl rfl rfl ?_
  rfl
set_option maxRecDepth 100000 in
set_option maxHeartbeats 4000000 in
theorem e_X12_allPlaces_4 (x0 : Int) (x1 : Int) (x2 : Int) (h : Hq) : vp 307 4 [(2, x0), (0, x1), (0, x2)] [] h = if 0 < x0 ∧ (kd x0).1 = 12 then (vm 207 [(2, x0)] h).bind (fun r3 => if x2 ≥ (vx r3) then (some (some (0, x1), r3.2)) else (if 0 < x0 ∧ (kd x0).1 = 12 then if (kd (r3.2.2 x0 16)).1 = 20 ∧ 0 ≤ x2 ∧ x2 < (kd (r3.2.2 x0 16)).2 then if (r3.2.2 (r3.2.2 x0 16) x2) > 9 then (vp 307 4 [(2, x0), (0, w32 (x1 + 0)), (0, w32 (x2 + 1))] [] r3.2) else (if 0 < x0 ∧ (kd x0).1 = 12 then if (kd (r3.2.2 x0 17)).1 = 20 ∧ 0 ≤ x2 ∧ x2 < (kd (r3.2.2 x0 17)).2 then vp 307 4 [(2, x0), (0, w32 (x1 + (r3.2.2 (r3.2.2 x0 17) x2))), (0, w32 (x2 + 1))] [] r3.2 else none else none) else none else none)) else none := by
  refine s_iload_n (pc1 := 5) (tk (n := 4) t307_0 rfl) rfl rfl rfl ?_
  refine s_aload_n (pc1 := 6) (tk (n := 5) t307_0 rfl) rfl rfl rfl ?_
  refine s_call0 (as := [(2, x0)]) (st1 := [(0, x2)]) (p1 := 9) (M2 := 207) (tk (n := 6) t307_0 rfl) rfl rfl rfl rfl rfl (fun r3 => ?_)
  refine s_ic_ge (pc1 := 12) (pt := 42) (tk (n := 7) t307_0 rfl) rfl rfl rfl ?_ ?_
  · refine s_iload_n (pc1 := 43) (tk (n := 25) t307_0 rfl) rfl rfl rfl ?_
    exact s_ret (tk (n := 26) t307_0 rfl) rfl rfl rfl
  · refine s_iload_n (pc1 := 13) (tk (n := 8) t307_0 rfl) rfl rfl rfl ?_
    refine s_aload_n (pc1 := 14) (tk (n := 9) t307_0 rfl) rfl rfl rfl ?_
    refine s_getf (pc1 := 17) (c := 12) (t1 := 2) (tk (n := 10) t307_0 rfl) rfl rfl (by decide) rfl rfl ?_
    refine s_iload_n (pc1 := 18) (tk (n := 11) t307_0 rfl) rfl rfl rfl ?_
    refine s_iald (pc1 := 19) (tk (n := 12) t307_0 rfl) rfl rfl  ?_
    refine s_bipush (pc1 := 21) (tk (n := 13) t307_0 rfl) rfl rfl  ?_
    refine s_ic_gt (pc1 := 24) (pt := 33) (tk (n := 14) t307_0 rfl) rfl rfl rfl ?_ ?_
    · refine s_iconst (pc1 := 34) (tk (n := 20) t307_0 rfl) rfl rfl  ?_
      refine s_iadd (pc1 := 35) (tk (n := 21) t307_0 rfl) rfl rfl  ?_
      refine s_istore_n (pc1 := 36) (ls1 := [(2, x0), (0, w32 (x1 + 0)), (0, x2)]) (tk (n := 22) t307_0 rfl) rfl rfl rfl rfl ?_
      refine s_iinc (pc1 := 39) (ls1 := [(2, x0), (0, w32 (x1 + 0)), (0, w32 (x2 + 1))]) (tk (n := 23) t307_0 rfl) rfl rfl rfl rfl ?_
      refine s_goto (pc1 := 4) (tk (n := 24) t307_0 rfl) rfl rfl ?_
      rfl
    · refine s_aload_n (pc1 := 25) (tk (n := 15) t307_0 rfl) rfl rfl rfl ?_
      refine s_getf (pc1 := 28) (c := 12) (t1 := 2) (tk (n := 16) t307_0 rfl) rfl rfl (by decide) rfl rfl ?_
      refine s_iload_n (pc1 := 29) (tk (n := 17) t307_0 rfl) rfl rfl rfl ?_
      refine s_iald (pc1 := 30) (tk (n := 18) t307_0 rfl) rfl rfl  ?_
      refine s_goto (pc1 := 34) (tk (n := 19) t307_0 rfl) rfl rfl ?_
      refine s_iadd (pc1 := 35) (tk (n := 21) t307_0 rfl) rfl rfl  ?_
      refine s_istore_n (pc1 := 36) (ls1 := [(2, x0), (0, w32 (x1 + (r3.2.2 (r3.2.2 x0 17) x2))), (0, x2)]) (tk (n := 22) t307_0 rfl) rfl rfl rfl rfl ?_
      refine s_iinc (pc1 := 39) (ls1 := [(2, x0), (0, w32 (x1 + (r3.2.2 (r3.2.2 x0 17) x2))), (0, w32 (x2 + 1))]) (tk (n := 23) t307_0 rfl) rfl rfl rfl rfl ?_
      refine s_goto (pc1 := 4) (tk (n := 24) t307_0 rfl) rfl rfl ?_
      rfl
set_option maxRecDepth 100000 in
set_option maxHeartbeats 4000000 in
theorem e_X12_about (x0 : Int) (x1 : Int) (h : Hq) : vm 308 [(2, x0), (0, x1)] h = if x1 = 0 then (if 0 < x0 ∧ (kd x0).1 = 12 then (vm 207 [(2, x0)] h).bind (fun r4 => some (some (0, vx r4), r4.2)) else none) else (if x1 = 1 then (if 0 < x0 ∧ (kd x0).1 = 12 then if (kd (h.2 x0 13)).1 = 20 ∧ 0 ≤ (4 : Int) ∧ (4 : Int) < (kd (h.2 x0 13)).2 then some (some (0, h.2 (h.2 x0 13) 4), h) else none else none) else (if x1 = 2 then (if 0 < x0 ∧ (kd x0).1 = 12 then if (kd (h.2 x0 13)).1 = 20 ∧ 0 ≤ (0 : Int) ∧ (0 : Int) < (kd (h.2 x0 13)).2 then some (some (0, h.2 (h.2 x0 13) 0), h) else none else none) else (if x1 = 3 then (if 0 < x0 ∧ (kd x0).1 = 12 then if (kd (h.2 x0 13)).1 = 20 ∧ 0 ≤ (1 : Int) ∧ (1 : Int) < (kd (h.2 x0 13)).2 then some (some (0, h.2 (h.2 x0 13) 1), h) else none else none) else (if x1 = 4 then (if 0 < x0 ∧ (kd x0).1 = 12 then if (kd (h.2 x0 13)).1 = 20 ∧ 0 ≤ (2 : Int) ∧ (2 : Int) < (kd (h.2 x0 13)).2 then some (some (0, h.2 (h.2 x0 13) 2), h) else none else none) else (if x1 = 5 then (if 0 < x0 ∧ (kd x0).1 = 12 then some (some (0, h.2 x0 34), h) else none) else (if x1 = 6 then (if 0 < x0 ∧ (kd x0).1 = 12 then some (some (0, h.2 x0 35), h) else none) else (if x1 = 7 then (if 0 < x0 ∧ (kd x0).1 = 12 then (vm 291 [(2, x0)] h).bind (fun r4 => some (some (0, vx r4), r4.2)) else none) else (if x1 = 8 then (if 0 < x0 ∧ (kd x0).1 = 12 then some (some (0, h.2 x0 26), h) else none) else (if x1 = 9 then (if 0 < x0 ∧ (kd x0).1 = 12 then some (some (0, h.2 x0 1), h) else none) else (if x1 = 10 then (if 0 < x0 ∧ (kd x0).1 = 12 then (vm 307 [(2, x0)] h).bind (fun r4 => some (some (0, vx r4), r4.2)) else none) else (some (some (0, (-1)), h)))))))))))) := by
  show vp 308 0 [(2, x0), (0, x1)] [] h = _
  refine s_iload_n (pc1 := 1) (tk (n := 0) t308_0 rfl) rfl rfl rfl ?_
  refine s_sw (x := x1) (cs := [(0, 60), (1, 65), (2, 72), (3, 79), (4, 86), (5, 93), (6, 98), (7, 103), (8, 108), (9, 113), (10, 118)]) (p0 := 123) (st1 := []) (tk (n := 1) t308_0 rfl) rfl rfl ?_
  refine s_swC (p1 := 60) rfl ?_ ?_
  · refine s_aload_n (pc1 := 61) (tk (n := 2) t308_0 rfl) rfl rfl rfl ?_
    refine s_call0 (as := [(2, x0)]) (st1 := []) (p1 := 64) (M2 := 207) (tk (n := 3) t308_0 rfl) rfl rfl rfl rfl rfl (fun r4 => ?_)
    exact s_ret (tk (n := 4) t308_0 rfl) rfl rfl rfl
  refine s_swC (p1 := 65) rfl ?_ ?_
  · refine s_aload_n (pc1 := 66) (tk (n := 5) t308_0 rfl) rfl rfl rfl ?_
    refine s_getf (pc1 := 69) (c := 12) (t1 := 2) (tk (n := 6) t308_0 rfl) rfl rfl (by decide) rfl rfl ?_
    refine s_iconst (pc1 := 70) (tk (n := 7) t308_0 rfl) rfl rfl  ?_
    refine s_iald (pc1 := 71) (tk (n := 8) t308_0 rfl) rfl rfl  ?_
    exact s_ret (tk (n := 9) t308_0 rfl) rfl rfl rfl
  refine s_swC (p1 := 72) rfl ?_ ?_
  · refine s_aload_n (pc1 := 73) (tk (n := 10) t308_0 rfl) rfl rfl rfl ?_
    refine s_getf (pc1 := 76) (c := 12) (t1 := 2) (tk (n := 11) t308_0 rfl) rfl rfl (by decide) rfl rfl ?_
    refine s_iconst (pc1 := 77) (tk (n := 12) t308_0 rfl) rfl rfl  ?_
    refine s_iald (pc1 := 78) (tk (n := 13) t308_0 rfl) rfl rfl  ?_
    exact s_ret (tk (n := 14) t308_0 rfl) rfl rfl rfl
  refine s_swC (p1 := 79) rfl ?_ ?_
  · refine s_aload_n (pc1 := 80) (tk (n := 15) t308_0 rfl) rfl rfl rfl ?_
    refine s_getf (pc1 := 83) (c := 12) (t1 := 2) (tk (n := 16) t308_0 rfl) rfl rfl (by decide) rfl rfl ?_
    refine s_iconst (pc1 := 84) (tk (n := 17) t308_0 rfl) rfl rfl  ?_
    refine s_iald (pc1 := 85) (tk (n := 18) t308_0 rfl) rfl rfl  ?_
    exact s_ret (tk (n := 19) t308_0 rfl) rfl rfl rfl
  refine s_swC (p1 := 86) rfl ?_ ?_
  · refine s_aload_n (pc1 := 87) (tk (n := 20) t308_0 rfl) rfl rfl rfl ?_
    refine s_getf (pc1 := 90) (c := 12) (t1 := 2) (tk (n := 21) t308_0 rfl) rfl rfl (by decide) rfl rfl ?_
    refine s_iconst (pc1 := 91) (tk (n := 22) t308_0 rfl) rfl rfl  ?_
    refine s_iald (pc1 := 92) (tk (n := 23) t308_0 rfl) rfl rfl  ?_
    exact s_ret (tk (n := 24) t308_0 rfl) rfl rfl rfl
  refine s_swC (p1 := 93) rfl ?_ ?_
  · refine s_aload_n (pc1 := 94) (tk (n := 25) t308_0 rfl) rfl rfl rfl ?_
    refine s_getf (pc1 := 97) (c := 12) (t1 := 0) (tk (n := 26) t308_0 rfl) rfl rfl (by decide) rfl rfl ?_
    exact s_ret (tk (n := 27) t308_0 rfl) rfl rfl rfl
  refine s_swC (p1 := 98) rfl ?_ ?_
  · refine s_aload_n (pc1 := 99) (tk (n := 28) t308_0 rfl) rfl rfl rfl ?_
    refine s_getf (pc1 := 102) (c := 12) (t1 := 0) (tk (n := 29) t308_0 rfl) rfl rfl (by decide) rfl rfl ?_
    exact s_ret (tk (n := 0) t308_1 rfl) rfl rfl rfl
  refine s_swC (p1 := 103) rfl ?_ ?_
  · refine s_aload_n (pc1 := 104) (tk (n := 1) t308_1 rfl) rfl rfl rfl ?_
    refine s_call0 (as := [(2, x0)]) (st1 := []) (p1 := 107) (M2 := 291) (tk (n := 2) t308_1 rfl) rfl rfl rfl rfl rfl (fun r4 => ?_)
    exact s_ret (tk (n := 3) t308_1 rfl) rfl rfl rfl
  refine s_swC (p1 := 108) rfl ?_ ?_
  · refine s_aload_n (pc1 := 109) (tk (n := 4) t308_1 rfl) rfl rfl rfl ?_
    refine s_getf (pc1 := 112) (c := 12) (t1 := 0) (tk (n := 5) t308_1 rfl) rfl rfl (by decide) rfl rfl ?_
    exact s_ret (tk (n := 6) t308_1 rfl) rfl rfl rfl
  refine s_swC (p1 := 113) rfl ?_ ?_
  · refine s_aload_n (pc1 := 114) (tk (n := 7) t308_1 rfl) rfl rfl rfl ?_
    refine s_getf (pc1 := 117) (c := 12) (t1 := 0) (tk (n := 8) t308_1 rfl) rfl rfl (by decide) rfl rfl ?_
    exact s_ret (tk (n := 9) t308_1 rfl) rfl rfl rfl
  refine s_swC (p1 := 118) rfl ?_ ?_
  · refine s_aload_n (pc1 := 119) (tk (n := 10) t308_1 rfl) rfl rfl rfl ?_
    refine s_call0 (as := [(2, x0)]) (st1 := []) (p1 := 122) (M2 := 307) (tk (n := 11) t308_1 rfl) rfl rfl rfl rfl rfl (fun r4 => ?_)
    exact s_ret (tk (n := 12) t308_1 rfl) rfl rfl rfl
  refine s_swN (d1 := 123) rfl ?_
  refine s_iconst (pc1 := 124) (tk (n := 13) t308_1 rfl) rfl rfl  ?_
  exact s_ret (tk (n := 14) t308_1 rfl) rfl rfl rfl
set_option maxRecDepth 100000 in
set_option maxHeartbeats 4000000 in
theorem e_J6_bitCount_0f7a4 (x0 : Int) (h : Hq) : vm 309 [(0, x0)] h = some (some (0, band (w32 ((w32 ((band (w32 ((w32 ((band (w32 (x0 - (band (bushr x0 1) 1431655765))) 858993459) + (band (bushr (w32 (x0 - (band (bushr x0 1) 1431655765))) 2) 858993459))) + (bushr (w32 ((band (w32 (x0 - (band (bushr x0 1) 1431655765))) 858993459) + (band (bushr (w32 (x0 - (band (bushr x0 1) 1431655765))) 2) 858993459))) 4))) 252645135) + (bushr (band (w32 ((w32 ((band (w32 (x0 - (band (bushr x0 1) 1431655765))) 858993459) + (band (bushr (w32 (x0 - (band (bushr x0 1) 1431655765))) 2) 858993459))) + (bushr (w32 ((band (w32 (x0 - (band (bushr x0 1) 1431655765))) 858993459) + (band (bushr (w32 (x0 - (band (bushr x0 1) 1431655765))) 2) 858993459))) 4))) 252645135) 8))) + (bushr (w32 ((band (w32 ((w32 ((band (w32 (x0 - (band (bushr x0 1) 1431655765))) 858993459) + (band (bushr (w32 (x0 - (band (bushr x0 1) 1431655765))) 2) 858993459))) + (bushr (w32 ((band (w32 (x0 - (band (bushr x0 1) 1431655765))) 858993459) + (band (bushr (w32 (x0 - (band (bushr x0 1) 1431655765))) 2) 858993459))) 4))) 252645135) + (bushr (band (w32 ((w32 ((band (w32 (x0 - (band (bushr x0 1) 1431655765))) 858993459) + (band (bushr (w32 (x0 - (band (bushr x0 1) 1431655765))) 2) 858993459))) + (bushr (w32 ((band (w32 (x0 - (band (bushr x0 1) 1431655765))) 858993459) + (band (bushr (w32 (x0 - (band (bushr x0 1) 1431655765))) 2) 858993459))) 4))) 252645135) 8))) 16))) 63), h) := by
  show vp 309 0 [(0, x0)] [] h = _
  refine s_iload_n (pc1 := 1) (tk (n := 0) t309_0 rfl) rfl rfl rfl ?_
  refine s_iload_n (pc1 := 2) (tk (n := 1) t309_0 rfl) rfl rfl rfl ?_
  refine s_iconst (pc1 := 3) (tk (n := 2) t309_0 rfl) rfl rfl  ?_
  refine s_iushr (pc1 := 4) (tk (n := 3) t309_0 rfl) rfl rfl  ?_
  refine s_ldcw (pc1 := 7) (tk (n := 4) t309_0 rfl) rfl rfl  ?_
  refine s_iand (pc1 := 8) (tk (n := 5) t309_0 rfl) rfl rfl  ?_
  refine s_isub (pc1 := 9) (tk (n := 6) t309_0 rfl) rfl rfl  ?_
  refine s_istore_n (pc1 := 10) (ls1 := [(0, w32 (x0 - (band (bushr x0 1) 1431655765)))]) (tk (n := 7) t309_0 rfl) rfl rfl rfl rfl ?_
  refine s_iload_n (pc1 := 11) (tk (n := 8) t309_0 rfl) rfl rfl rfl ?_
  refine s_ldcw (pc1 := 14) (tk (n := 9) t309_0 rfl) rfl rfl  ?_
  refine s_iand (pc1 := 15) (tk (n := 10) t309_0 rfl) rfl rfl  ?_
  refine s_iload_n (pc1 := 16) (tk (n := 11) t309_0 rfl) rfl rfl rfl ?_
  refine s_iconst (pc1 := 17) (tk (n := 12) t309_0 rfl) rfl rfl  ?_
  refine s_iushr (pc1 := 18) (tk (n := 13) t309_0 rfl) rfl rfl  ?_
  refine s_ldcw (pc1 := 21) (tk (n := 14) t309_0 rfl) rfl rfl  ?_
  refine s_iand (pc1 := 22) (tk (n := 15) t309_0 rfl) rfl rfl  ?_
  refine s_iadd (pc1 := 23) (tk (n := 16) t309_0 rfl) rfl rfl  ?_
  refine s_istore_n (pc1 := 24) (ls1 := [(0, w32 ((band (w32 (x0 - (band (bushr x0 1) 1431655765))) 858993459) + (band (bushr (w32 (x0 - (band (bushr x0 1) 1431655765))) 2) 858993459)))]) (tk (n := 17) t309_0 rfl) rfl rfl rfl rfl ?_
  refine s_iload_n (pc1 := 25) (tk (n := 18) t309_0 rfl) rfl rfl rfl ?_
  refine s_iload_n (pc1 := 26) (tk (n := 19) t309_0 rfl) rfl rfl rfl ?_
  refine s_iconst (pc1 := 27) (tk (n := 20) t309_0 rfl) rfl rfl  ?_
  refine s_iushr (pc1 := 28) (tk (n := 21) t309_0 rfl) rfl rfl  ?_
  refine s_iadd (pc1 := 29) (tk (n := 22) t309_0 rfl) rfl rfl  ?_
  refine s_ldcw (pc1 := 32) (tk (n := 23) t309_0 rfl) rfl rfl  ?_
  refine s_iand (pc1 := 33) (tk (n := 24) t309_0 rfl) rfl rfl  ?_
  refine s_istore_n (pc1 := 34) (ls1 := [(0, band (w32 ((w32 ((band (w32 (x0 - (band (bushr x0 1) 1431655765))) 858993459) + (band (bushr (w32 (x0 - (band (bushr x0 1) 1431655765))) 2) 858993459))) + (bushr (w32 ((band (w32 (x0 - (band (bushr x0 1) 1431655765))) 858993459) + (band (bushr (w32 (x0 - (band (bushr x0 1) 1431655765))) 2) 858993459))) 4))) 252645135)]) (tk (n := 25) t309_0 rfl) rfl rfl rfl rfl ?_
  refine s_iload_n (pc1 := 35) (tk (n := 26) t309_0 rfl) rfl rfl rfl ?_
  refine s_iload_n (pc1 := 36) (tk (n := 27) t309_0 rfl) rfl rfl rfl ?_
  refine s_bipush (pc1 := 38) (tk (n := 28) t309_0 rfl) rfl rfl  ?_
  refine s_iushr (pc1 := 39) (tk (n := 29) t309_0 rfl) rfl rfl  ?_
  refine s_iadd (pc1 := 40) (tk (n := 0) t309_1 rfl) rfl rfl  ?_
  refine s_istore_n (pc1 := 41) (ls1 := [(0, w32 ((band (w32 ((w32 ((band (w32 (x0 - (band (bushr x0 1) 1431655765))) 858993459) + (band (bushr (w32 (x0 - (band (bushr x0 1) 1431655765))) 2) 858993459))) + (bushr (w32 ((band (w32 (x0 - (band (bushr x0 1) 1431655765))) 858993459) + (band (bushr (w32 (x0 - (band (bushr x0 1) 1431655765))) 2) 858993459))) 4))) 252645135) + (bushr (band (w32 ((w32 ((band (w32 (x0 - (band (bushr x0 1) 1431655765))) 858993459) + (band (bushr (w32 (x0 - (band (bushr x0 1) 1431655765))) 2) 858993459))) + (bushr (w32 ((band (w32 (x0 - (band (bushr x0 1) 1431655765))) 858993459) + (band (bushr (w32 (x0 - (band (bushr x0 1) 1431655765))) 2) 858993459))) 4))) 252645135) 8)))]) (tk (n := 1) t309_1 rfl) rfl rfl rfl rfl ?_
  refine s_iload_n (pc1 := 42) (tk (n := 2) t309_1 rfl) rfl rfl rfl ?_
  refine s_iload_n (pc1 := 43) (tk (n := 3) t309_1 rfl) rfl rfl rfl ?_
  refine s_bipush (pc1 := 45) (tk (n := 4) t309_1 rfl) rfl rfl  ?_
  refine s_iushr (pc1 := 46) (tk (n := 5) t309_1 rfl) rfl rfl  ?_
  refine s_iadd (pc1 := 47) (tk (n := 6) t309_1 rfl) rfl rfl  ?_
  refine s_istore_n (pc1 := 48) (ls1 := [(0, w32 ((w32 ((band (w32 ((w32 ((band (w32 (x0 - (band (bushr x0 1) 1431655765))) 858993459) + (band (bushr (w32 (x0 - (band (bushr x0 1) 1431655765))) 2) 858993459))) + (bushr (w32 ((band (w32 (x0 - (band (bushr x0 1) 1431655765))) 858993459) + (band (bushr (w32 (x0 - (band (bushr x0 1) 1431655765))) 2) 858993459))) 4))) 252645135) + (bushr (band (w32 ((w32 ((band (w32 (x0 - (band (bushr x0 1) 1431655765))) 858993459) + (band (bushr (w32 (x0 - (band (bushr x0 1) 1431655765))) 2) 858993459))) + (bushr (w32 ((band (w32 (x0 - (band (bushr x0 1) 1431655765))) 858993459) + (band (bushr (w32 (x0 - (band (bushr x0 1) 1431655765))) 2) 858993459))) 4))) 252645135) 8))) + (bushr (w32 ((band (w32 ((w32 ((band (w32 (x0 - (band (bushr x0 1) 1431655765))) 858993459) + (band (bushr (w32 (x0 - (band (bushr x0 1) 1431655765))) 2) 858993459))) + (bushr (w32 ((band (w32 (x0 - (band (bushr x0 1) 1431655765))) 858993459) + (band (bushr (w32 (x0 - (band (bushr x0 1) 1431655765))) 2) 858993459))) 4))) 252645135) + (bushr (band (w32 ((w32 ((band (w32 (x0 - (band (bushr x0 1) 1431655765))) 858993459) + (band (bushr (w32 (x0 - (band (bushr x0 1) 1431655765))) 2) 858993459))) + (bushr (w32 ((band (w32 (x0 - (band (bushr x0 1) 1431655765))) 858993459) + (band (bushr (w32 (x0 - (band (bushr x0 1) 1431655765))) 2) 858993459))) 4))) 252645135) 8))) 16)))]) (tk (n := 7) t309_1 rfl) rfl rfl rfl rfl ?_
  refine s_iload_n (pc1 := 49) (tk (n := 8) t309_1 rfl) rfl rfl rfl ?_
  refine s_bipush (pc1 := 51) (tk (n := 9) t309_1 rfl) rfl rfl  ?_
  refine s_iand (pc1 := 52) (tk (n := 10) t309_1 rfl) rfl rfl  ?_
  exact s_ret (tk (n := 11) t309_1 rfl) rfl rfl rfl
set_option maxRecDepth 100000 in
set_option maxHeartbeats 4000000 in
theorem e_J9_floorMod_7cf53 (x0 : Int) (x1 : Int) (h : Hq) : vm 310 [(0, x0), (0, x1)] h = if x1 ≠ 0 then if (bxor x0 x1) ≥ 0 then (some (some (0, x0.tmod x1), h)) else (if (x0.tmod x1) = 0 then (some (some (0, x0.tmod x1), h)) else (some (some (0, w32 ((x0.tmod x1) + x1)), h))) else none := by
  show vp 310 0 [(0, x0), (0, x1), (9, 0)] [] h = _
  refine s_iload_n (pc1 := 1) (tk (n := 0) t310_0 rfl) rfl rfl rfl ?_
  refine s_iload_n (pc1 := 2) (tk (n := 1) t310_0 rfl) rfl rfl rfl ?_
  refine s_irem (pc1 := 3) (tk (n := 2) t310_0 rfl) rfl rfl  ?_
  refine s_istore_n (pc1 := 4) (ls1 := [(0, x0), (0, x1), (0, x0.tmod x1)]) (tk (n := 3) t310_0 rfl) rfl rfl rfl rfl ?_
  refine s_iload_n (pc1 := 5) (tk (n := 4) t310_0 rfl) rfl rfl rfl ?_
  refine s_iload_n (pc1 := 6) (tk (n := 5) t310_0 rfl) rfl rfl rfl ?_
  refine s_ixor (pc1 := 7) (tk (n := 6) t310_0 rfl) rfl rfl  ?_
  refine s_if_ge (pc1 := 10) (pt := 18) (tk (n := 7) t310_0 rfl) rfl rfl rfl ?_ ?_
  · refine s_iload_n (pc1 := 19) (tk (n := 14) t310_0 rfl) rfl rfl rfl ?_
    exact s_ret (tk (n := 15) t310_0 rfl) rfl rfl rfl
  · refine s_iload_n (pc1 := 11) (tk (n := 8) t310_0 rfl) rfl rfl rfl ?_
    refine s_if_eq (pc1 := 14) (pt := 18) (tk (n := 9) t310_0 rfl) rfl rfl rfl ?_ ?_
    · refine s_iload_n (pc1 := 19) (tk (n := 14) t310_0 rfl) rfl rfl rfl ?_
      exact s_ret (tk (n := 15) t310_0 rfl) rfl rfl rfl
    · refine s_iload_n (pc1 := 15) (tk (n := 10) t310_0 rfl) rfl rfl rfl ?_
      refine s_iload_n (pc1 := 16) (tk (n := 11) t310_0 rfl) rfl rfl rfl ?_
      refine s_iadd (pc1 := 17) (tk (n := 12) t310_0 rfl) rfl rfl  ?_
      exact s_ret (tk (n := 13) t310_0 rfl) rfl rfl rfl
set_option maxRecDepth 100000 in
set_option maxHeartbeats 4000000 in
theorem e_J9_floorMod_f86c9 (x0 : Int) (x2 : Int) (h : Hq) : vm 311 [(1, x0), (1, x2)] h = if x2 ≠ 0 then if (if (lbxor x0 x2) < 0 then -1 else if (lbxor x0 x2) = 0 then 0 else 1) ≥ 0 then (some (some (1, x0.tmod x2), h)) else (if (if (x0.tmod x2) < 0 then -1 else if (x0.tmod x2) = 0 then 0 else 1) = 0 then (some (some (1, x0.tmod x2), h)) else (some (some (1, w64 ((x0.tmod x2) + x2)), h))) else none := by
  show vp 311 0 [(1, x0), (9, 0), (1, x2), (9, 0), (9, 0), (9, 0)] [] h = _
  refine s_lload_n (pc1 := 1) (tk (n := 0) t311_0 rfl) rfl rfl rfl ?_
  refine s_lload_n (pc1 := 2) (tk (n := 1) t311_0 rfl) rfl rfl rfl ?_
  refine s_lrem (pc1 := 3) (tk (n := 2) t311_0 rfl) rfl rfl  ?_
  refine s_lstore (pc1 := 5) (ls1 := [(1, x0), (9, 0), (1, x2), (9, 0), (1, x0.tmod x2), (9, 0)]) (tk (n := 3) t311_0 rfl) rfl rfl rfl rfl ?_
  refine s_lload_n (pc1 := 6) (tk (n := 4) t311_0 rfl) rfl rfl rfl ?_
  refine s_lload_n (pc1 := 7) (tk (n := 5) t311_0 rfl) rfl rfl rfl ?_
  refine s_lxor (pc1 := 8) (tk (n := 6) t311_0 rfl) rfl rfl  ?_
  refine s_lconst (pc1 := 9) (v := 0) (tk (n := 7) t311_0 rfl) rfl rfl rfl ?_
  refine s_lcmp (pc1 := 10) (tk (n := 8) t311_0 rfl) rfl rfl  ?_
  refine s_if_ge (pc1 := 13) (pt := 25) (tk (n := 9) t311_0 rfl) rfl rfl rfl ?_ ?_
  · refine s_lload (pc1 := 27) (tk (n := 18) t311_0 rfl) rfl rfl rfl ?_
    exact s_ret (tk (n := 19) t311_0 rfl) rfl rfl rfl
  · refine s_lload (pc1 := 15) (tk (n := 10) t311_0 rfl) rfl rfl rfl ?_
    refine s_lconst (pc1 := 16) (v := 0) (tk (n := 11) t311_0 rfl) rfl rfl rfl ?_
    refine s_lcmp (pc1 := 17) (tk (n := 12) t311_0 rfl) rfl rfl  ?_
    refine s_if_eq (pc1 := 20) (pt := 25) (tk (n := 13) t311_0 rfl) rfl rfl rfl ?_ ?_
    · refine s_lload (pc1 := 27) (tk (n := 18) t311_0 rfl) rfl rfl rfl ?_
      exact s_ret (tk (n := 19) t311_0 rfl) rfl rfl rfl
    · refine s_lload (pc1 := 22) (tk (n := 14) t311_0 rfl) rfl rfl rfl ?_
      refine s_lload_n (pc1 := 23) (tk (n := 15) t311_0 rfl) rfl rfl rfl ?_
      refine s_ladd (pc1 := 24) (tk (n := 16) t311_0 rfl) rfl rfl  ?_
      exact s_ret (tk (n := 17) t311_0 rfl) rfl rfl rfl
set_option maxRecDepth 100000 in
set_option maxHeartbeats 4000000 in
theorem e_J9_abs_0f7a4 (x0 : Int) (h : Hq) : vm 312 [(0, x0)] h = if x0 ≥ 0 then (some (some (0, x0), h)) else (some (some (0, w32 (-x0)), h)) := by
  show vp 312 0 [(0, x0)] [] h = _
  refine s_iload_n (pc1 := 1) (tk (n := 0) t312_0 rfl) rfl rfl rfl ?_
  refine s_if_ge (pc1 := 4) (pt := 9) (tk (n := 1) t312_0 rfl) rfl rfl rfl ?_ ?_
  · refine s_iload_n (pc1 := 10) (tk (n := 5) t312_0 rfl) rfl rfl rfl ?_
    exact s_ret (tk (n := 6) t312_0 rfl) rfl rfl rfl
  · refine s_iload_n (pc1 := 5) (tk (n := 2) t312_0 rfl) rfl rfl rfl ?_
    refine s_ineg (pc1 := 6) (tk (n := 3) t312_0 rfl) rfl rfl  ?_
    refine s_goto (pc1 := 10) (tk (n := 4) t312_0 rfl) rfl rfl ?_
    exact s_ret (tk (n := 6) t312_0 rfl) rfl rfl rfl
set_option maxRecDepth 100000 in
set_option maxHeartbeats 4000000 in
theorem e_J9_max_7cf53 (x0 : Int) (x1 : Int) (h : Hq) : vm 313 [(0, x0), (0, x1)] h = if x0 < x1 then (some (some (0, x1), h)) else (some (some (0, x0), h)) := by
  show vp 313 0 [(0, x0), (0, x1)] [] h = _
  refine s_iload_n (pc1 := 1) (tk (n := 0) t313_0 rfl) rfl rfl rfl ?_
  refine s_iload_n (pc1 := 2) (tk (n := 1) t313_0 rfl) rfl rfl rfl ?_
  refine s_ic_lt (pc1 := 5) (pt := 9) (tk (n := 2) t313_0 rfl) rfl rfl rfl ?_ ?_
  · refine s_iload_n (pc1 := 10) (tk (n := 5) t313_0 rfl) rfl rfl rfl ?_
    exact s_ret (tk (n := 6) t313_0 rfl) rfl rfl rfl
  · refine s_iload_n (pc1 := 6) (tk (n := 3) t313_0 rfl) rfl rfl rfl ?_
    refine s_goto (pc1 := 10) (tk (n := 4) t313_0 rfl) rfl rfl ?_
    exact s_ret (tk (n := 6) t313_0 rfl) rfl rfl rfl
set_option maxRecDepth 100000 in
set_option maxHeartbeats 4000000 in
theorem e_J9_min_7cf53 (x0 : Int) (x1 : Int) (h : Hq) : vm 314 [(0, x0), (0, x1)] h = if x0 > x1 then (some (some (0, x1), h)) else (some (some (0, x0), h)) := by
  show vp 314 0 [(0, x0), (0, x1)] [] h = _
  refine s_iload_n (pc1 := 1) (tk (n := 0) t314_0 rfl) rfl rfl rfl ?_
  refine s_iload_n (pc1 := 2) (tk (n := 1) t314_0 rfl) rfl rfl rfl ?_
  refine s_ic_gt (pc1 := 5) (pt := 9) (tk (n := 2) t314_0 rfl) rfl rfl rfl ?_ ?_
  · refine s_iload_n (pc1 := 10) (tk (n := 5) t314_0 rfl) rfl rfl rfl ?_
    exact s_ret (tk (n := 6) t314_0 rfl) rfl rfl rfl
  · refine s_iload_n (pc1 := 6) (tk (n := 3) t314_0 rfl) rfl rfl rfl ?_
    refine s_goto (pc1 := 10) (tk (n := 4) t314_0 rfl) rfl rfl ?_
    exact s_ret (tk (n := 6) t314_0 rfl) rfl rfl rfl
set_option maxRecDepth 100000 in
set_option maxHeartbeats 4000000 in
theorem e_J0_length_8abf5 (x0 : Int) (h : Hq) : vm 315 [(2, x0)] h = if -5 ≤ x0 ∧ x0 ≤ -3 then if 20 ≤ (kd (x0 - 3)).1 ∧ (kd (x0 - 3)).1 ≤ 25 then if -5 ≤ x0 ∧ x0 ≤ -3 then (vm 317 [(2, x0)] h).bind (fun r5 => some (some (0, bshr ((kd (x0 - 3)).2) (vx r5)), r5.2)) else none else none else none := by
  show vp 315 0 [(2, x0)] [] h = _
  refine s_aload_n (pc1 := 1) (tk (n := 0) t315_0 rfl) rfl rfl rfl ?_
  refine s_getS (pc1 := 4) (v := (2, x0 - 3)) (tk (n := 1) t315_0 rfl) rfl rfl rfl ?_
  refine s_alen (pc1 := 5) (tk (n := 2) t315_0 rfl) rfl rfl  ?_
  refine s_aload_n (pc1 := 6) (tk (n := 3) t315_0 rfl) rfl rfl rfl ?_
  refine s_call0 (as := [(2, x0)]) (st1 := [(0, (kd (x0 - 3)).2)]) (p1 := 9) (M2 := 317) (tk (n := 4) t315_0 rfl) rfl rfl rfl rfl rfl (fun r5 => ?_)
  refine s_ishr (pc1 := 10) (tk (n := 5) t315_0 rfl) rfl rfl  ?_
  exact s_ret (tk (n := 6) t315_0 rfl) rfl rfl rfl
set_option maxRecDepth 100000 in
set_option maxHeartbeats 4000000 in
theorem e_J0_charAt_5068e (x0 : Int) (x1 : Int) (h : Hq) : vm 316 [(2, x0), (0, x1)] h = if -5 ≤ x0 ∧ x0 ≤ -3 then (vm 318 [(2, x0)] h).bind (fun r2 => if (vx r2) = 0 then (if -5 ≤ x0 ∧ x0 ≤ -3 then none else none) else (if -5 ≤ x0 ∧ x0 ≤ -3 then (vm 320 [(2, x0 - 3), (0, x1)] r2.2).bind (fun r7 => if 0 ≤ (vx r7) ∧ (vx r7) ≤ 65535 then some (some (0, vx r7), r7.2) else none) else none)) else none := by
  show vp 316 0 [(2, x0), (0, x1)] [] h = _
  refine s_aload_n (pc1 := 1) (tk (n := 0) t316_0 rfl) rfl rfl rfl ?_
  refine s_call0 (as := [(2, x0)]) (st1 := []) (p1 := 4) (M2 := 318) (tk (n := 1) t316_0 rfl) rfl rfl rfl rfl rfl (fun r2 => ?_)
  refine s_if_eq (pc1 := 7) (pt := 16) (tk (n := 2) t316_0 rfl) rfl rfl rfl ?_ ?_
  · refine s_aload_n (pc1 := 17) (tk (n := 8) t316_0 rfl) rfl rfl rfl ?_
    refine s_getS (pc1 := 20) (v := (2, x0 - 3)) (tk (n := 9) t316_0 rfl) rfl rfl rfl ?_
    refine s_iload_n (pc1 := 21) (tk (n := 10) t316_0 rfl) rfl rfl rfl ?_
    exact s_no (tk (n := 11) t316_0 rfl) rfl rfl
  · refine s_aload_n (pc1 := 8) (tk (n := 3) t316_0 rfl) rfl rfl rfl ?_
    refine s_getS (pc1 := 11) (v := (2, x0 - 3)) (tk (n := 4) t316_0 rfl) rfl rfl rfl ?_
    refine s_iload_n (pc1 := 12) (tk (n := 5) t316_0 rfl) rfl rfl rfl ?_
    refine s_callS0 (as := [(2, x0 - 3), (0, x1)]) (st1 := []) (p1 := 15) (M2 := 320) (tk (n := 6) t316_0 rfl) rfl rfl rfl rfl rfl (fun r7 => ?_)
    exact s_retG (tk (n := 7) t316_0 rfl) rfl rfl rfl
set_option maxRecDepth 100000 in
set_option maxHeartbeats 4000000 in
theorem e_J0_coder_7d493 (x0 : Int) (h : Hq) : vm 317 [(2, x0)] h = if -5 ≤ x0 ∧ x0 ≤ -3 then some (some (0, 0), h) else none := by
  show vp 317 0 [(2, x0)] [] h = _
  refine s_gets (pc1 := 3) (v := (0, 1)) (tk (n := 0) t317_0 rfl) rfl rfl rfl ?_
  refine s_ifN_eq (pc1 := 6) (tk (n := 1) t317_0 rfl) rfl rfl (by decide) ?_
  refine s_aload_n (pc1 := 7) (tk (n := 2) t317_0 rfl) rfl rfl rfl ?_
  refine s_getS (pc1 := 10) (v := (0, 0)) (tk (n := 3) t317_0 rfl) rfl rfl rfl ?_
  refine s_goto (pc1 := 14) (tk (n := 4) t317_0 rfl) rfl rfl ?_
  exact s_retY (tk (n := 6) t317_0 rfl) rfl rfl rfl (by decide)
set_option maxRecDepth 100000 in
set_option maxHeartbeats 4000000 in
theorem e_J0_isLatin1_aae02 (x0 : Int) (h : Hq) : vm 318 [(2, x0)] h = if -5 ≤ x0 ∧ x0 ≤ -3 then some (some (0, 1), h) else none := by
  show vp 318 0 [(2, x0)] [] h = _
  refine s_gets (pc1 := 3) (v := (0, 1)) (tk (n := 0) t318_0 rfl) rfl rfl rfl ?_
  refine s_ifN_eq (pc1 := 6) (tk (n := 1) t318_0 rfl) rfl rfl (by decide) ?_
  refine s_aload_n (pc1 := 7) (tk (n := 2) t318_0 rfl) rfl rfl rfl ?_
  refine s_getS (pc1 := 10) (v := (0, 0)) (tk (n := 3) t318_0 rfl) rfl rfl rfl ?_
  refine s_ifN_ne (pc1 := 13) (tk (n := 4) t318_0 rfl) rfl rfl (by decide) ?_
  refine s_iconst (pc1 := 14) (tk (n := 5) t318_0 rfl) rfl rfl  ?_
  refine s_goto (pc1 := 18) (tk (n := 6) t318_0 rfl) rfl rfl ?_
  exact s_retY (tk (n := 8) t318_0 rfl) rfl rfl rfl (by decide)
set_option maxRecDepth 100000 in
set_option maxHeartbeats 4000000 in
theorem e_J0_checkIndex_df160 (x0 : Int) (x1 : Int) (h : Hq) : vm 319 [(0, x0), (0, x1)] h = (vm 322 [(0, x0), (0, x1), (2, (-9))] h).bind (fun r4 => some (none, r4.2)) := by
  show vp 319 0 [(0, x0), (0, x1)] [] h = _
  refine s_iload_n (pc1 := 1) (tk (n := 0) t319_0 rfl) rfl rfl rfl ?_
  refine s_iload_n (pc1 := 2) (tk (n := 1) t319_0 rfl) rfl rfl rfl ?_
  refine s_gets (pc1 := 5) (v := (2, (-9))) (tk (n := 2) t319_0 rfl) rfl rfl rfl ?_
  refine s_callS0 (as := [(0, x0), (0, x1), (2, (-9))]) (st1 := []) (p1 := 8) (M2 := 322) (tk (n := 3) t319_0 rfl) rfl rfl rfl rfl rfl (fun r4 => ?_)
  refine s_pop0 (pc1 := 9) (tk (n := 4) t319_0 rfl) rfl rfl  ?_
  exact s_ret (tk (n := 5) t319_0 rfl) rfl rfl rfl
set_option maxRecDepth 100000 in
set_option maxHeartbeats 4000000 in
theorem e_J1_charAt_3b067 (x0 : Int) (x1 : Int) (h : Hq) : vm 320 [(2, x0), (0, x1)] h = if 20 ≤ (kd x0).1 ∧ (kd x0).1 ≤ 25 then (vm 319 [(0, x1), (0, (kd x0).2)] h).bind (fun r4 => if (kd x0).1 = 21 ∧ 0 ≤ x1 ∧ x1 < (kd x0).2 then if 0 ≤ ((band (r4.2.2 x0 x1) 255) % 65536) ∧ ((band (r4.2.2 x0 x1) 255) % 65536) ≤ 65535 then some (some (0, (band (r4.2.2 x0 x1) 255) % 65536), r4.2) else none else none) else none := by
  show vp 320 0 [(2, x0), (0, x1)] [] h = _
  refine s_iload_n (pc1 := 1) (tk (n := 0) t320_0 rfl) rfl rfl rfl ?_
  refine s_aload_n (pc1 := 2) (tk (n := 1) t320_0 rfl) rfl rfl rfl ?_
  refine s_alen (pc1 := 3) (tk (n := 2) t320_0 rfl) rfl rfl  ?_
  refine s_callS9 (as := [(0, x1), (0, (kd x0).2)]) (st1 := []) (p1 := 6) (M2 := 319) (tk (n := 3) t320_0 rfl) rfl rfl rfl rfl rfl (fun r4 => ?_)
  refine s_aload_n (pc1 := 7) (tk (n := 4) t320_0 rfl) rfl rfl rfl ?_
  refine s_iload_n (pc1 := 8) (tk (n := 5) t320_0 rfl) rfl rfl rfl ?_
  refine s_bald (pc1 := 9) (c := 21) (tk (n := 6) t320_0 rfl) rfl rfl rfl ?_
  refine s_sipush (pc1 := 12) (tk (n := 7) t320_0 rfl) rfl rfl  ?_
  refine s_iand (pc1 := 13) (tk (n := 8) t320_0 rfl) rfl rfl  ?_
  refine s_i2c (pc1 := 14) (tk (n := 9) t320_0 rfl) rfl rfl  ?_
  exact s_retG (tk (n := 10) t320_0 rfl) rfl rfl rfl
set_option maxRecDepth 100000 in
set_option maxHeartbeats 4000000 in
theorem e_J7_fill_53178 (x0 : Int) (x1 : Int) (h : Hq) : vm 321 [(2, x0), (0, x1)] h = if 20 ≤ (kd x0).1 ∧ (kd x0).1 ≤ 25 then vp 321 5 [(2, x0), (0, x1), (0, 0), (0, (kd x0).2)] [] h else none := by
  show vp 321 0 [(2, x0), (0, x1), (9, 0), (9, 0)] [] h = _
  refine s_iconst (pc1 := 1) (tk (n := 0) t321_0 rfl) rfl rfl  ?_
  refine s_istore_n (pc1 := 2) (ls1 := [(2, x0), (0, x1), (0, 0), (9, 0)]) (tk (n := 1) t321_0 rfl) rfl rfl rfl rfl ?_
  refine s_aload_n (pc1 := 3) (tk (n := 2) t321_0 rfl) rfl rfl rfl ?_
  refine s_alen (pc1 := 4) (tk (n := 3) t321_0 rfl) rfl rfl  ?_
  refine s_istore_n (pc1 := 5) (ls1 := [(2, x0), (0, x1), (0, 0), (0, (kd x0).2)]) (tk (n := 4) t321_0 rfl) rfl rfl rfl rfl ?_
  rfl
set_option maxRecDepth 100000 in
set_option maxHeartbeats 4000000 in
theorem e_J7_fill_53178_5 (x0 : Int) (x1 : Int) (x2 : Int) (x3 : Int) (h : Hq) : vp 321 5 [(2, x0), (0, x1), (0, x2), (0, x3)] [] h = if x2 ≥ x3 then (some (none, h)) else (if 0 < x0 ∧ (kd x0).1 = 20 ∧ 0 ≤ x2 ∧ x2 < (kd x0).2 then vp 321 5 [(2, x0), (0, x1), (0, w32 (x2 + 1)), (0, x3)] [] (h.1, stm h.2 x0 x2 x1) else none) := by
  refine s_iload_n (pc1 := 6) (tk (n := 5) t321_0 rfl) rfl rfl rfl ?_
  refine s_iload_n (pc1 := 7) (tk (n := 6) t321_0 rfl) rfl rfl rfl ?_
  refine s_ic_ge (pc1 := 10) (pt := 20) (tk (n := 7) t321_0 rfl) rfl rfl rfl ?_ ?_
  · exact s_ret (tk (n := 14) t321_0 rfl) rfl rfl rfl
  · refine s_aload_n (pc1 := 11) (tk (n := 8) t321_0 rfl) rfl rfl rfl ?_
    refine s_iload_n (pc1 := 12) (tk (n := 9) t321_0 rfl) rfl rfl rfl ?_
    refine s_iload_n (pc1 := 13) (tk (n := 10) t321_0 rfl) rfl rfl rfl ?_
    refine s_iast (pc1 := 14) (tk (n := 11) t321_0 rfl) rfl rfl  ?_
    refine s_iinc (pc1 := 17) (ls1 := [(2, x0), (0, x1), (0, w32 (x2 + 1)), (0, x3)]) (tk (n := 12) t321_0 rfl) rfl rfl rfl rfl ?_
    refine s_goto (pc1 := 5) (tk (n := 13) t321_0 rfl) rfl rfl ?_
    rfl
set_option maxRecDepth 100000 in
set_option maxHeartbeats 4000000 in
theorem e_J3_checkIndex_8e157 (x0 : Int) (x1 : Int) (x2 : Int) (h : Hq) : vm 322 [(0, x0), (0, x1), (2, x2)] h = if x0 < 0 then (none) else (if x0 < x1 then (some (some (0, x0), h)) else (none)) := by
  show vp 322 0 [(0, x0), (0, x1), (2, x2)] [] h = _
  refine s_iload_n (pc1 := 1) (tk (n := 0) t322_0 rfl) rfl rfl rfl ?_
  refine s_if_lt (pc1 := 4) (pt := 9) (tk (n := 1) t322_0 rfl) rfl rfl rfl ?_ ?_
  · refine s_aload_n (pc1 := 10) (tk (n := 5) t322_0 rfl) rfl rfl rfl ?_
    refine s_iload_n (pc1 := 11) (tk (n := 6) t322_0 rfl) rfl rfl rfl ?_
    refine s_iload_n (pc1 := 12) (tk (n := 7) t322_0 rfl) rfl rfl rfl ?_
    exact s_no (tk (n := 8) t322_0 rfl) rfl rfl
  · refine s_iload_n (pc1 := 5) (tk (n := 2) t322_0 rfl) rfl rfl rfl ?_
    refine s_iload_n (pc1 := 6) (tk (n := 3) t322_0 rfl) rfl rfl rfl ?_
    refine s_ic_lt (pc1 := 9) (pt := 16) (tk (n := 4) t322_0 rfl) rfl rfl rfl ?_ ?_
    · refine s_iload_n (pc1 := 17) (tk (n := 10) t322_0 rfl) rfl rfl rfl ?_
      exact s_ret (tk (n := 11) t322_0 rfl) rfl rfl rfl
    · refine s_aload_n (pc1 := 10) (tk (n := 5) t322_0 rfl) rfl rfl rfl ?_
      refine s_iload_n (pc1 := 11) (tk (n := 6) t322_0 rfl) rfl rfl rfl ?_
      refine s_iload_n (pc1 := 12) (tk (n := 7) t322_0 rfl) rfl rfl rfl ?_
      exact s_no (tk (n := 8) t322_0 rfl) rfl rfl
set_option maxRecDepth 100000 in
set_option maxHeartbeats 4000000 in
theorem e_L_law (x0 : Int) (h : Hq) : vm 323 [(2, x0)] h = if (kd h.1).1 = 11 then if 0 < h.1 ∧ (kd h.1).1 = 11 then (vm 103 [(2, h.1)] (h.1 + 1, h.2)).bind (fun r3 => if (kd r3.2.1).1 = 12 then if 0 < r3.2.1 ∧ (kd r3.2.1).1 = 12 then (vm 164 [(2, r3.2.1)] (r3.2.1 + 1, r3.2.2)).bind (fun r7 => vp 323 18 [(2, x0), (2, h.1), (2, r3.2.1), (0, 0)] [] r7.2) else none else none) else none else none := by
  show vp 323 0 [(2, x0), (9, 0), (9, 0), (9, 0)] [] h = _
  refine s_new (pc1 := 3) (c := 11) (tk (n := 0) t323_0 rfl) rfl rfl rfl ?_
  refine s_dup2 (pc1 := 4) (tk (n := 1) t323_0 rfl) rfl rfl  ?_
  refine s_call9 (as := [(2, h.1)]) (st1 := [(2, h.1)]) (p1 := 7) (M2 := 103) (tk (n := 2) t323_0 rfl) rfl rfl rfl rfl rfl (fun r3 => ?_)
  refine s_astore_n (pc1 := 8) (ls1 := [(2, x0), (2, h.1), (9, 0), (9, 0)]) (tk (n := 3) t323_0 rfl) rfl rfl rfl rfl ?_
  refine s_new (pc1 := 11) (c := 12) (tk (n := 4) t323_0 rfl) rfl rfl rfl ?_
  refine s_dup2 (pc1 := 12) (tk (n := 5) t323_0 rfl) rfl rfl  ?_
  refine s_call9 (as := [(2, r3.2.1)]) (st1 := [(2, r3.2.1)]) (p1 := 15) (M2 := 164) (tk (n := 6) t323_0 rfl) rfl rfl rfl rfl rfl (fun r7 => ?_)
  refine s_astore_n (pc1 := 16) (ls1 := [(2, x0), (2, h.1), (2, r3.2.1), (9, 0)]) (tk (n := 7) t323_0 rfl) rfl rfl rfl rfl ?_
  refine s_iconst (pc1 := 17) (tk (n := 8) t323_0 rfl) rfl rfl  ?_
  refine s_istore_n (pc1 := 18) (ls1 := [(2, x0), (2, h.1), (2, r3.2.1), (0, 0)]) (tk (n := 9) t323_0 rfl) rfl rfl rfl rfl ?_
  rfl
set_option maxRecDepth 100000 in
set_option maxHeartbeats 4000000 in
theorem e_L_law_18 (x0 : Int) (x1 : Int) (x2 : Int) (x3 : Int) (h : Hq) : vp 323 18 [(2, x0), (2, x1), (2, x2), (0, x3)] [] h = if x0 = -1 then if x3 > (w32 ((h.2 (-1) (-1)) - 8)) then (some (some (0, 1), h)) else (if x0 = -1 ∧ 0 ≤ x3 ∧ x3 < h.2 (-1) (-1) then if (band (h.2 x0 x3) 63) = 0 then (vp 323 232 [(2, x0), (2, x1), (2, x2), (0, x3)] [] h) else (if (band (h.2 x0 x3) 63) = 1 then (vp 323 295 [(2, x0), (2, x1), (2, x2), (0, x3)] [] h) else (if (band (h.2 x0 x3) 63) = 2 then (vp 323 318 [(2, x0), (2, x1), (2, x2), (0, x3)] [] h) else (if (band (h.2 x0 x3) 63) = 3 then (vp 323 331 [(2, x0), (2, x1), (2, x2), (0, x3)] [] h) else (if (band (h.2 x0 x3) 63) = 4 then (vp 323 354 [(2, x0), (2, x1), (2, x2), (0, x3)] [] h) else (if (band (h.2 x0 x3) 63) = 5 then (vp 323 377 [(2, x0), (2, x1), (2, x2), (0, x3)] [] h) else (if (band (h.2 x0 x3) 63) = 6 then (vp 323 400 [(2, x0), (2, x1), (2, x2), (0, x3)] [] h) else (if (band (h.2 x0 x3) 63) = 7 then (vp 323 443 [(2, x0), (2, x1), (2, x2), (0, x3)] [] h) else (if (band (h.2 x0 x3) 63) = 8 then (vp 323 496 [(2, x0), (2, x1), (2, x2), (0, x3)] [] h) else (if (band (h.2 x0 x3) 63) = 9 then (vp 323 549 [(2, x0), (2, x1), (2, x2), (0, x3)] [] h) else (if (band (h.2 x0 x3) 63) = 10 then (vp 323 582 [(2, x0), (2, x1), (2, x2), (0, x3)] [] h) else (if (band (h.2 x0 x3) 63) = 11 then (vp 323 615 [(2, x0), (2, x1), (2, x2), (0, x3)] [] h) else (if (band (h.2 x0 x3) 63) = 12 then (vp 323 639 [(2, x0), (2, x1), (2, x2), (0, x3)] [] h) else (if (band (h.2 x0 x3) 63) = 13 then (vp 323 682 [(2, x0), (2, x1), (2, x2), (0, x3)] [] h) else (if (band (h.2 x0 x3) 63) = 14 then (vp 323 715 [(2, x0), (2, x1), (2, x2), (0, x3)] [] h) else (if (band (h.2 x0 x3) 63) = 15 then (vp 323 728 [(2, x0), (2, x1), (2, x2), (0, x3)] [] h) else (if (band (h.2 x0 x3) 63) = 16 then (vp 323 761 [(2, x0), (2, x1), (2, x2), (0, x3)] [] h) else (if (band (h.2 x0 x3) 63) = 17 then (vp 323 804 [(2, x0), (2, x1), (2, x2), (0, x3)] [] h) else (if (band (h.2 x0 x3) 63) = 18 then (vp 323 857 [(2, x0), (2, x1), (2, x2), (0, x3)] [] h) else (if (band (h.2 x0 x3) 63) = 19 then (vp 323 900 [(2, x0), (2, x1), (2, x2), (0, x3)] [] h) else (if (band (h.2 x0 x3) 63) = 20 then (vp 323 953 [(2, x0), (2, x1), (2, x2), (0, x3)] [] h) else (if (band (h.2 x0 x3) 63) = 21 then (vp 323 1006 [(2, x0), (2, x1), (2, x2), (0, x3)] [] h) else (if (band (h.2 x0 x3) 63) = 22 then (vp 323 1059 [(2, x0), (2, x1), (2, x2), (0, x3)] [] h) else (if (band (h.2 x0 x3) 63) = 23 then (vp 323 1082 [(2, x0), (2, x1), (2, x2), (0, x3)] [] h) else (if (band (h.2 x0 x3) 63) = 24 then (vp 323 1125 [(2, x0), (2, x1), (2, x2), (0, x3)] [] h) else (if (band (h.2 x0 x3) 63) = 25 then (vp 323 1178 [(2, x0), (2, x1), (2, x2), (0, x3)] [] h) else (if (band (h.2 x0 x3) 63) = 26 then (vp 323 1231 [(2, x0), (2, x1), (2, x2), (0, x3)] [] h) else (if (band (h.2 x0 x3) 63) = 27 then (vp 323 1284 [(2, x0), (2, x1), (2, x2), (0, x3)] [] h) else (if (band (h.2 x0 x3) 63) = 28 then (vp 323 1347 [(2, x0), (2, x1), (2, x2), (0, x3)] [] h) else (if (band (h.2 x0 x3) 63) = 29 then (vp 323 1434 [(2, x0), (2, x1), (2, x2), (0, x3)] [] h) else (if (band (h.2 x0 x3) 63) = 30 then (vp 323 1507 [(2, x0), (2, x1), (2, x2), (0, x3)] [] h) else (if (band (h.2 x0 x3) 63) = 31 then (vp 323 1561 [(2, x0), (2, x1), (2, x2), (0, x3)] [] h) else (if (band (h.2 x0 x3) 63) = 32 then (vp 323 1614 [(2, x0), (2, x1), (2, x2), (0, x3)] [] h) else (if (band (h.2 x0 x3) 63) = 33 then (vp 323 1667 [(2, x0), (2, x1), (2, x2), (0, x3)] [] h) else (if (band (h.2 x0 x3) 63) = 34 then (vp 323 1680 [(2, x0), (2, x1), (2, x2), (0, x3)] [] h) else (if (band (h.2 x0 x3) 63) = 35 then (vp 323 1723 [(2, x0), (2, x1), (2, x2), (0, x3)] [] h) else (if (band (h.2 x0 x3) 63) = 36 then (vp 323 1756 [(2, x0), (2, x1), (2, x2), (0, x3)] [] h) else (if (band (h.2 x0 x3) 63) = 37 then (vp 323 1809 [(2, x0), (2, x1), (2, x2), (0, x3)] [] h) else (if (band (h.2 x0 x3) 63) = 38 then (vp 323 1852 [(2, x0), (2, x1), (2, x2), (0, x3)] [] h) else (if (band (h.2 x0 x3) 63) = 39 then (vp 323 1905 [(2, x0), (2, x1), (2, x2), (0, x3)] [] h) else (if (band (h.2 x0 x3) 63) = 40 then (vp 323 1980 [(2, x0), (2, x1), (2, x2), (0, x3)] [] h) else (if (band (h.2 x0 x3) 63) = 41 then (vp 323 2003 [(2, x0), (2, x1), (2, x2), (0, x3)] [] h) else (if (band (h.2 x0 x3) 63) = 42 then (vp 323 2026 [(2, x0), (2, x1), (2, x2), (0, x3)] [] h) else (if (band (h.2 x0 x3) 63) = 43 then (vp 323 2059 [(2, x0), (2, x1), (2, x2), (0, x3)] [] h) else (if (band (h.2 x0 x3) 63) = 44 then (vp 323 2082 [(2, x0), (2, x1), (2, x2), (0, x3)] [] h) else (if (band (h.2 x0 x3) 63) = 45 then (vp 323 2105 [(2, x0), (2, x1), (2, x2), (0, x3)] [] h) else (vp 323 2128 [(2, x0), (2, x1), (2, x2), (0, x3)] [] h)))))))))))))))))))))))))))))))))))))))))))))) else none) else none := by
  refine s_iload_n (pc1 := 19) (tk (n := 10) t323_0 rfl) rfl rfl rfl ?_
  refine s_aload_n (pc1 := 20) (tk (n := 11) t323_0 rfl) rfl rfl rfl ?_
  refine s_alen1 (pc1 := 21) (tk (n := 12) t323_0 rfl) rfl rfl  ?_
  refine s_bipush (pc1 := 23) (tk (n := 13) t323_0 rfl) rfl rfl  ?_
  refine s_isub (pc1 := 24) (tk (n := 14) t323_0 rfl) rfl rfl  ?_
  refine s_ic_gt (pc1 := 27) (pt := 2134) (tk (n := 15) t323_0 rfl) rfl rfl rfl ?_ ?_
  · refine s_iconst (pc1 := 2135) (tk (n := 12) t323_54 rfl) rfl rfl  ?_
    exact s_retY (tk (n := 13) t323_54 rfl) rfl rfl rfl (by decide)
  · refine s_aload_n (pc1 := 28) (tk (n := 16) t323_0 rfl) rfl rfl rfl ?_
    refine s_iload_n (pc1 := 29) (tk (n := 17) t323_0 rfl) rfl rfl rfl ?_
    refine s_iald1 (pc1 := 30) (tk (n := 18) t323_0 rfl) rfl rfl  ?_
    refine s_bipush (pc1 := 32) (tk (n := 19) t323_0 rfl) rfl rfl  ?_
    refine s_iand (pc1 := 33) (tk (n := 20) t323_0 rfl) rfl rfl  ?_
    refine s_sw (x := (band (h.2 x0 x3) 63)) (cs := [(0, 232), (1, 295), (2, 318), (3, 331), (4, 354), (5, 377), (6, 400), (7, 443), (8, 496), (9, 549), (10, 582), (11, 615), (12, 639), (13, 682), (14, 715), (15, 728), (16, 761), (17, 804), (18, 857), (19, 900), (20, 953), (21, 1006), (22, 1059), (23, 1082), (24, 1125), (25, 1178), (26, 1231), (27, 1284), (28, 1347), (29, 1434), (30, 1507), (31, 1561), (32, 1614), (33, 1667), (34, 1680), (35, 1723), (36, 1756), (37, 1809), (38, 1852), (39, 1905), (40, 1980), (41, 2003), (42, 2026), (43, 2059), (44, 2082), (45, 2105)]) (p0 := 2128) (st1 := []) (tk (n := 21) t323_0 rfl) rfl rfl ?_
    refine s_swC (p1 := 232) rfl ?_ ?_
    · rfl
    refine s_swC (p1 := 295) rfl ?_ ?_
    · rfl
    refine s_swC (p1 := 318) rfl ?_ ?_
    · rfl
    refine s_swC (p1 := 331) rfl ?_ ?_
    · rfl
    refine s_swC (p1 := 354) rfl ?_ ?_
    · rfl
    refine s_swC (p1 := 377) rfl ?_ ?_
    · rfl
    refine s_swC (p1 := 400) rfl ?_ ?_
    · rfl
    refine s_swC (p1 := 443) rfl ?_ ?_
    · rfl
    refine s_swC (p1 := 496) rfl ?_ ?_
    · rfl
    refine s_swC (p1 := 549) rfl ?_ ?_
    · rfl
    refine s_swC (p1 := 582) rfl ?_ ?_
    · rfl
    refine s_swC (p1 := 615) rfl ?_ ?_
    · rfl
    refine s_swC (p1 := 639) rfl ?_ ?_
    · rfl
    refine s_swC (p1 := 682) rfl ?_ ?_
    · rfl
    refine s_swC (p1 := 715) rfl ?_ ?_
    · rfl
    refine s_swC (p1 := 728) rfl ?_ ?_
    · rfl
    refine s_swC (p1 := 761) rfl ?_ ?_
    · rfl
    refine s_swC (p1 := 804) rfl ?_ ?_
    · rfl
    refine s_swC (p1 := 857) rfl ?_ ?_
    · rfl
    refine s_swC (p1 := 900) rfl ?_ ?_
    · rfl
    refine s_swC (p1 := 953) rfl ?_ ?_
    · rfl
    refine s_swC (p1 := 1006) rfl ?_ ?_
    · rfl
    refine s_swC (p1 := 1059) rfl ?_ ?_
    · rfl
    refine s_swC (p1 := 1082) rfl ?_ ?_
    · rfl
    refine s_swC (p1 := 1125) rfl ?_ ?_
    · rfl
    refine s_swC (p1 := 1178) rfl ?_ ?_
    · rfl
    refine s_swC (p1 := 1231) rfl ?_ ?_
    · rfl
    refine s_swC (p1 := 1284) rfl ?_ ?_
    · rfl
    refine s_swC (p1 := 1347) rfl ?_ ?_
    · rfl
    refine s_swC (p1 := 1434) rfl ?_ ?_
    · rfl
    refine s_swC (p1 := 1507) rfl ?_ ?_
    · rfl
    refine s_swC (p1 := 1561) rfl ?_ ?_
    · rfl
    refine s_swC (p1 := 1614) rfl ?_ ?_
    · rfl
    refine s_swC (p1 := 1667) rfl ?_ ?_
    · rfl
    refine s_swC (p1 := 1680) rfl ?_ ?_
    · rfl
    refine s_swC (p1 := 1723) rfl ?_ ?_
    · rfl
    refine s_swC (p1 := 1756) rfl ?_ ?_
    · rfl
    refine s_swC (p1 := 1809) rfl ?_ ?_
    · rfl
    refine s_swC (p1 := 1852) rfl ?_ ?_
    · rfl
    refine s_swC (p1 := 1905) rfl ?_ ?_
    · rfl
    refine s_swC (p1 := 1980) rfl ?_ ?_
    · rfl
    refine s_swC (p1 := 2003) rfl ?_ ?_
    · rfl
    refine s_swC (p1 := 2026) rfl ?_ ?_
    · rfl
    refine s_swC (p1 := 2059) rfl ?_ ?_
    · rfl
    refine s_swC (p1 := 2082) rfl ?_ ?_
    · rfl
    refine s_swC (p1 := 2105) rfl ?_ ?_
    · rfl
    refine s_swN (d1 := 2128) rfl ?_
    rfl
set_option maxRecDepth 100000 in
set_option maxHeartbeats 4000000 in
theorem e_L_law_232 (x0 : Int) (x1 : Int) (x2 : Int) (x3 : Int) (h : Hq) : vp 323 232 [(2, x0), (2, x1), (2, x2), (0, x3)] [] h = if x0 = -1 ∧ 0 ≤ (w32 (x3 + 1)) ∧ (w32 (x3 + 1)) < h.2 (-1) (-1) then if x0 = -1 ∧ 0 ≤ (w32 (x3 + 2)) ∧ (w32 (x3 + 2)) < h.2 (-1) (-1) then if x0 = -1 ∧ 0 ≤ (w32 (x3 + 3)) ∧ (w32 (x3 + 3)) < h.2 (-1) (-1) then if x0 = -1 ∧ 0 ≤ (w32 (x3 + 4)) ∧ (w32 (x3 + 4)) < h.2 (-1) (-1) then if x0 = -1 ∧ 0 ≤ (w32 (x3 + 5)) ∧ (w32 (x3 + 5)) < h.2 (-1) (-1) then if 0 < x1 ∧ (kd x1).1 = 11 then (vm 104 [(2, x1), (0, h.2 x0 (w32 (x3 + 1))), (0, h.2 x0 (w32 (x3 + 2))), (0, h.2 x0 (w32 (x3 + 3))), (0, h.2 x0 (w32 (x3 + 4))), (0, h.2 x0 (w32 (x3 + 5)))] h).bind (fun r27 => if x0 = -1 ∧ 0 ≤ (w32 (x3 + 1)) ∧ (w32 (x3 + 1)) < r27.2.2 (-1) (-1) then if x0 = -1 ∧ 0 ≤ (w32 (x3 + 2)) ∧ (w32 (x3 + 2)) < r27.2.2 (-1) (-1) then if x0 = -1 ∧ 0 ≤ (w32 (x3 + 3)) ∧ (w32 (x3 + 3)) < r27.2.2 (-1) (-1) then if x0 = -1 ∧ 0 ≤ (w32 (x3 + 4)) ∧ (w32 (x3 + 4)) < r27.2.2 (-1) (-1) then if x0 = -1 ∧ 0 ≤ (w32 (x3 + 5)) ∧ (w32 (x3 + 5)) < r27.2.2 (-1) (-1) then if 0 < x2 ∧ (kd x2).1 = 12 then (vm 172 [(2, x2), (0, r27.2.2 x0 (w32 (x3 + 1))), (0, r27.2.2 x0 (w32 (x3 + 2))), (0, r27.2.2 x0 (w32 (x3 + 3))), (0, r27.2.2 x0 (w32 (x3 + 4))), (0, r27.2.2 x0 (w32 (x3 + 5)))] r27.2).bind (fun r54 => if (vx r27) = (vx r54) then (vp 323 2128 [(2, x0), (2, x1), (2, x2), (0, x3)] [] r54.2) else (some (some (0, 0), r54.2))) else none else none else none else none else none else none) else none else none else none else none else none else none := by
  refine s_aload_n (pc1 := 233) (tk (n := 22) t323_0 rfl) rfl rfl rfl ?_
  refine s_aload_n (pc1 := 234) (tk (n := 23) t323_0 rfl) rfl rfl rfl ?_
  refine s_iload_n (pc1 := 235) (tk (n := 24) t323_0 rfl) rfl rfl rfl ?_
  refine s_iconst (pc1 := 236) (tk (n := 25) t323_0 rfl) rfl rfl  ?_
  refine s_iadd (pc1 := 237) (tk (n := 26) t323_0 rfl) rfl rfl  ?_
  refine s_iald1 (pc1 := 238) (tk (n := 27) t323_0 rfl) rfl rfl  ?_
  refine s_aload_n (pc1 := 239) (tk (n := 28) t323_0 rfl) rfl rfl rfl ?_
  refine s_iload_n (pc1 := 240) (tk (n := 29) t323_0 rfl) rfl rfl rfl ?_
  refine s_iconst (pc1 := 241) (tk (n := 0) t323_1 rfl) rfl rfl  ?_
  refine s_iadd (pc1 := 242) (tk (n := 1) t323_1 rfl) rfl rfl  ?_
  refine s_iald1 (pc1 := 243) (tk (n := 2) t323_1 rfl) rfl rfl  ?_
  refine s_aload_n (pc1 := 244) (tk (n := 3) t323_1 rfl) rfl rfl rfl ?_
  refine s_iload_n (pc1 := 245) (tk (n := 4) t323_1 rfl) rfl rfl rfl ?_
  refine s_iconst (pc1 := 246) (tk (n := 5) t323_1 rfl) rfl rfl  ?_
  refine s_iadd (pc1 := 247) (tk (n := 6) t323_1 rfl) rfl rfl  ?_
  refine s_iald1 (pc1 := 248) (tk (n := 7) t323_1 rfl) rfl rfl  ?_
  refine s_aload_n (pc1 := 249) (tk (n := 8) t323_1 rfl) rfl rfl rfl ?_
  refine s_iload_n (pc1 := 250) (tk (n := 9) t323_1 rfl) rfl rfl rfl ?_
  refine s_iconst (pc1 := 251) (tk (n := 10) t323_1 rfl) rfl rfl  ?_
  refine s_iadd (pc1 := 252) (tk (n := 11) t323_1 rfl) rfl rfl  ?_
  refine s_iald1 (pc1 := 253) (tk (n := 12) t323_1 rfl) rfl rfl  ?_
  refine s_aload_n (pc1 := 254) (tk (n := 13) t323_1 rfl) rfl rfl rfl ?_
  refine s_iload_n (pc1 := 255) (tk (n := 14) t323_1 rfl) rfl rfl rfl ?_
  refine s_iconst (pc1 := 256) (tk (n := 15) t323_1 rfl) rfl rfl  ?_
  refine s_iadd (pc1 := 257) (tk (n := 16) t323_1 rfl) rfl rfl  ?_
  refine s_iald1 (pc1 := 258) (tk (n := 17) t323_1 rfl) rfl rfl  ?_
  refine s_call0 (as := [(2, x1), (0, h.2 x0 (w32 (x3 + 1))), (0, h.2 x0 (w32 (x3 + 2))), (0, h.2 x0 (w32 (x3 + 3))), (0, h.2 x0 (w32 (x3 + 4))), (0, h.2 x0 (w32 (x3 + 5)))]) (st1 := []) (p1 := 261) (M2 := 104) (tk (n := 18) t323_1 rfl) rfl rfl rfl rfl rfl (fun r27 => ?_)
  refine s_aload_n (pc1 := 262) (tk (n := 19) t323_1 rfl) rfl rfl rfl ?_
  refine s_aload_n (pc1 := 263) (tk (n := 20) t323_1 rfl) rfl rfl rfl ?_
  refine s_iload_n (pc1 := 264) (tk (n := 21) t323_1 rfl) rfl rfl rfl ?_
  refine s_iconst (pc1 := 265) (tk (n := 22) t323_1 rfl) rfl rfl  ?_
  refine s_iadd (pc1 := 266) (tk (n := 23) t323_1 rfl) rfl rfl  ?_
  refine s_iald1 (pc1 := 267) (tk (n := 24) t323_1 rfl) rfl rfl  ?_
  refine s_aload_n (pc1 := 268) (tk (n := 25) t323_1 rfl) rfl rfl rfl ?_
  refine s_iload_n (pc1 := 269) (tk (n := 26) t323_1 rfl) rfl rfl rfl ?_
  refine s_iconst (pc1 := 270) (tk (n := 27) t323_1 rfl) rfl rfl  ?_
  refine s_iadd (pc1 := 271) (tk (n := 28) t323_1 rfl) rfl rfl  ?_
  refine s_iald1 (pc1 := 272) (tk (n := 29) t323_1 rfl) rfl rfl  ?_
  refine s_aload_n (pc1 := 273) (tk (n := 0) t323_2 rfl) rfl rfl rfl ?_
  refine s_iload_n (pc1 := 274) (tk (n := 1) t323_2 rfl) rfl rfl rfl ?_
  refine s_iconst (pc1 := 275) (tk (n := 2) t323_2 rfl) rfl rfl  ?_
  refine s_iadd (pc1 := 276) (tk (n := 3) t323_2 rfl) rfl rfl  ?_
  refine s_iald1 (pc1 := 277) (tk (n := 4) t323_2 rfl) rfl rfl  ?_
  refine s_aload_n (pc1 := 278) (tk (n := 5) t323_2 rfl) rfl rfl rfl ?_
  refine s_iload_n (pc1 := 279) (tk (n := 6) t323_2 rfl) rfl rfl rfl ?_
  refine s_iconst (pc1 := 280) (tk (n := 7) t323_2 rfl) rfl rfl  ?_
  refine s_iadd (pc1 := 281) (tk (n := 8) t323_2 rfl) rfl rfl  ?_
  refine s_iald1 (pc1 := 282) (tk (n := 9) t323_2 rfl) rfl rfl  ?_
  refine s_aload_n (pc1 := 283) (tk (n := 10) t323_2 rfl) rfl rfl rfl ?_
  refine s_iload_n (pc1 := 284) (tk (n := 11) t323_2 rfl) rfl rfl rfl ?_
  refine s_iconst (pc1 := 285) (tk (n := 12) t323_2 rfl) rfl rfl  ?_
  refine s_iadd (pc1 := 286) (tk (n := 13) t323_2 rfl) rfl rfl  ?_
  refine s_iald1 (pc1 := 287) (tk (n := 14) t323_2 rfl) rfl rfl  ?_
  refine s_call0 (as := [(2, x2), (0, r27.2.2 x0 (w32 (x3 + 1))), (0, r27.2.2 x0 (w32 (x3 + 2))), (0, r27.2.2 x0 (w32 (x3 + 3))), (0, r27.2.2 x0 (w32 (x3 + 4))), (0, r27.2.2 x0 (w32 (x3 + 5)))]) (st1 := [(0, vx r27)]) (p1 := 290) (M2 := 172) (tk (n := 15) t323_2 rfl) rfl rfl rfl rfl rfl (fun r54 => ?_)
  refine s_ic_eq (pc1 := 293) (pt := 2128) (tk (n := 16) t323_2 rfl) rfl rfl rfl ?_ ?_
  · rfl
  · refine s_iconst (pc1 := 294) (tk (n := 17) t323_2 rfl) rfl rfl  ?_
    exact s_retY (tk (n := 18) t323_2 rfl) rfl rfl rfl (by decide)
set_option maxRecDepth 100000 in
set_option maxHeartbeats 4000000 in
theorem e_L_law_295 (x0 : Int) (x1 : Int) (x2 : Int) (x3 : Int) (h : Hq) : vp 323 295 [(2, x0), (2, x1), (2, x2), (0, x3)] [] h = if x0 = -1 ∧ 0 ≤ (w32 (x3 + 1)) ∧ (w32 (x3 + 1)) < h.2 (-1) (-1) then if 0 < x1 ∧ (kd x1).1 = 11 then (vm 106 [(2, x1), (0, h.2 x0 (w32 (x3 + 1)))] h).bind (fun r7 => if x0 = -1 ∧ 0 ≤ (w32 (x3 + 1)) ∧ (w32 (x3 + 1)) < r7.2.2 (-1) (-1) then if 0 < x2 ∧ (kd x2).1 = 12 then (vm 174 [(2, x2), (0, r7.2.2 x0 (w32 (x3 + 1)))] r7.2).bind (fun r14 => if (vx r7) = (vx r14) then (vp 323 2128 [(2, x0), (2, x1), (2, x2), (0, x3)] [] r14.2) else (some (some (0, 0), r14.2))) else none else none) else none else none := by
  refine s_aload_n (pc1 := 296) (tk (n := 19) t323_2 rfl) rfl rfl rfl ?_
  refine s_aload_n (pc1 := 297) (tk (n := 20) t323_2 rfl) rfl rfl rfl ?_
  refine s_iload_n (pc1 := 298) (tk (n := 21) t323_2 rfl) rfl rfl rfl ?_
  refine s_iconst (pc1 := 299) (tk (n := 22) t323_2 rfl) rfl rfl  ?_
  refine s_iadd (pc1 := 300) (tk (n := 23) t323_2 rfl) rfl rfl  ?_
  refine s_iald1 (pc1 := 301) (tk (n := 24) t323_2 rfl) rfl rfl  ?_
  refine s_call0 (as := [(2, x1), (0, h.2 x0 (w32 (x3 + 1)))]) (st1 := []) (p1 := 304) (M2 := 106) (tk (n := 25) t323_2 rfl) rfl rfl rfl rfl rfl (fun r7 => ?_)
  refine s_aload_n (pc1 := 305) (tk (n := 26) t323_2 rfl) rfl rfl rfl ?_
  refine s_aload_n (pc1 := 306) (tk (n := 27) t323_2 rfl) rfl rfl rfl ?_
  refine s_iload_n (pc1 := 307) (tk (n := 28) t323_2 rfl) rfl rfl rfl ?_
  refine s_iconst (pc1 := 308) (tk (n := 29) t323_2 rfl) rfl rfl  ?_
  refine s_iadd (pc1 := 309) (tk (n := 0) t323_3 rfl) rfl rfl  ?_
  refine s_iald1 (pc1 := 310) (tk (n := 1) t323_3 rfl) rfl rfl  ?_
  refine s_call0 (as := [(2, x2), (0, r7.2.2 x0 (w32 (x3 + 1)))]) (st1 := [(0, vx r7)]) (p1 := 313) (M2 := 174) (tk (n := 2) t323_3 rfl) rfl rfl rfl rfl rfl (fun r14 => ?_)
  refine s_ic_eq (pc1 := 316) (pt := 2128) (tk (n := 3) t323_3 rfl) rfl rfl rfl ?_ ?_
  · rfl
  · refine s_iconst (pc1 := 317) (tk (n := 4) t323_3 rfl) rfl rfl  ?_
    exact s_retY (tk (n := 5) t323_3 rfl) rfl rfl rfl (by decide)
set_option maxRecDepth 100000 in
set_option maxHeartbeats 4000000 in
theorem e_L_law_318 (x0 : Int) (x1 : Int) (x2 : Int) (x3 : Int) (h : Hq) : vp 323 318 [(2, x0), (2, x1), (2, x2), (0, x3)] [] h = if 0 < x1 ∧ (kd x1).1 = 11 then (vm 107 [(2, x1)] h).bind (fun r2 => if 0 < x2 ∧ (kd x2).1 = 12 then (vm 205 [(2, x2)] r2.2).bind (fun r4 => if (vx r2) = (vx r4) then (vp 323 2128 [(2, x0), (2, x1), (2, x2), (0, x3)] [] r4.2) else (some (some (0, 0), r4.2))) else none) else none := by
  refine s_aload_n (pc1 := 319) (tk (n := 6) t323_3 rfl) rfl rfl rfl ?_
  refine s_call0 (as := [(2, x1)]) (st1 := []) (p1 := 322) (M2 := 107) (tk (n := 7) t323_3 rfl) rfl rfl rfl rfl rfl (fun r2 => ?_)
  refine s_aload_n (pc1 := 323) (tk (n := 8) t323_3 rfl) rfl rfl rfl ?_
  refine s_call0 (as := [(2, x2)]) (st1 := [(0, vx r2)]) (p1 := 326) (M2 := 205) (tk (n := 9) t323_3 rfl) rfl rfl rfl rfl rfl (fun r4 => ?_)
  refine s_ic_eq (pc1 := 329) (pt := 2128) (tk (n := 10) t323_3 rfl) rfl rfl rfl ?_ ?_
  · rfl
  · refine s_iconst (pc1 := 330) (tk (n := 11) t323_3 rfl) rfl rfl  ?_
    exact s_retY (tk (n := 12) t323_3 rfl) rfl rfl rfl (by decide)
set_option maxRecDepth 100000 in
set_option maxHeartbeats 4000000 in
theorem e_L_law_331 (x0 : Int) (x1 : Int) (x2 : Int) (x3 : Int) (h : Hq) : vp 323 331 [(2, x0), (2, x1), (2, x2), (0, x3)] [] h = if x0 = -1 ∧ 0 ≤ (w32 (x3 + 1)) ∧ (w32 (x3 + 1)) < h.2 (-1) (-1) then if 0 < x1 ∧ (kd x1).1 = 11 then (vm 109 [(2, x1), (0, h.2 x0 (w32 (x3 + 1)))] h).bind (fun r7 => if x0 = -1 ∧ 0 ≤ (w32 (x3 + 1)) ∧ (w32 (x3 + 1)) < r7.2.2 (-1) (-1) then if 0 < x2 ∧ (kd x2).1 = 12 then (vm 206 [(2, x2), (0, r7.2.2 x0 (w32 (x3 + 1)))] r7.2).bind (fun r14 => if (vx r7) = (vx r14) then (vp 323 2128 [(2, x0), (2, x1), (2, x2), (0, x3)] [] r14.2) else (some (some (0, 0), r14.2))) else none else none) else none else none := by
  refine s_aload_n (pc1 := 332) (tk (n := 13) t323_3 rfl) rfl rfl rfl ?_
  refine s_aload_n (pc1 := 333) (tk (n := 14) t323_3 rfl) rfl rfl rfl ?_
  refine s_iload_n (pc1 := 334) (tk (n := 15) t323_3 rfl) rfl rfl rfl ?_
  refine s_iconst (pc1 := 335) (tk (n := 16) t323_3 rfl) rfl rfl  ?_
  refine s_iadd (pc1 := 336) (tk (n := 17) t323_3 rfl) rfl rfl  ?_
  refine s_iald1 (pc1 := 337) (tk (n := 18) t323_3 rfl) rfl rfl  ?_
  refine s_call0 (as := [(2, x1), (0, h.2 x0 (w32 (x3 + 1)))]) (st1 := []) (p1 := 340) (M2 := 109) (tk (n := 19) t323_3 rfl) rfl rfl rfl rfl rfl (fun r7 => ?_)
  refine s_aload_n (pc1 := 341) (tk (n := 20) t323_3 rfl) rfl rfl rfl ?_
  refine s_aload_n (pc1 := 342) (tk (n := 21) t323_3 rfl) rfl rfl rfl ?_
  refine s_iload_n (pc1 := 343) (tk (n := 22) t323_3 rfl) rfl rfl rfl ?_
  refine s_iconst (pc1 := 344) (tk (n := 23) t323_3 rfl) rfl rfl  ?_
  refine s_iadd (pc1 := 345) (tk (n := 24) t323_3 rfl) rfl rfl  ?_
  refine s_iald1 (pc1 := 346) (tk (n := 25) t323_3 rfl) rfl rfl  ?_
  refine s_call0 (as := [(2, x2), (0, r7.2.2 x0 (w32 (x3 + 1)))]) (st1 := [(0, vx r7)]) (p1 := 349) (M2 := 206) (tk (n := 26) t323_3 rfl) rfl rfl rfl rfl rfl (fun r14 => ?_)
  refine s_ic_eq (pc1 := 352) (pt := 2128) (tk (n := 27) t323_3 rfl) rfl rfl rfl ?_ ?_
  · rfl
  · refine s_iconst (pc1 := 353) (tk (n := 28) t323_3 rfl) rfl rfl  ?_
    exact s_retY (tk (n := 29) t323_3 rfl) rfl rfl rfl (by decide)
set_option maxRecDepth 100000 in
set_option maxHeartbeats 4000000 in
theorem e_L_law_354 (x0 : Int) (x1 : Int) (x2 : Int) (x3 : Int) (h : Hq) : vp 323 354 [(2, x0), (2, x1), (2, x2), (0, x3)] [] h = if x0 = -1 ∧ 0 ≤ (w32 (x3 + 1)) ∧ (w32 (x3 + 1)) < h.2 (-1) (-1) then if 0 < x1 ∧ (kd x1).1 = 11 then (vm 110 [(2, x1), (0, h.2 x0 (w32 (x3 + 1)))] h).bind (fun r7 => if x0 = -1 ∧ 0 ≤ (w32 (x3 + 1)) ∧ (w32 (x3 + 1)) < r7.2.2 (-1) (-1) then if 0 < x2 ∧ (kd x2).1 = 12 then (vm 215 [(2, x2), (0, r7.2.2 x0 (w32 (x3 + 1)))] r7.2).bind (fun r14 => if (vx r7) = (vx r14) then (vp 323 2128 [(2, x0), (2, x1), (2, x2), (0, x3)] [] r14.2) else (some (some (0, 0), r14.2))) else none else none) else none else none := by
  refine s_aload_n (pc1 := 355) (tk (n := 0) t323_4 rfl) rfl rfl rfl ?_
  refine s_aload_n (pc1 := 356) (tk (n := 1) t323_4 rfl) rfl rfl rfl ?_
  refine s_iload_n (pc1 := 357) (tk (n := 2) t323_4 rfl) rfl rfl rfl ?_
  refine s_iconst (pc1 := 358) (tk (n := 3) t323_4 rfl) rfl rfl  ?_
  refine s_iadd (pc1 := 359) (tk (n := 4) t323_4 rfl) rfl rfl  ?_
  refine s_iald1 (pc1 := 360) (tk (n := 5) t323_4 rfl) rfl rfl  ?_
  refine s_call0 (as := [(2, x1), (0, h.2 x0 (w32 (x3 + 1)))]) (st1 := []) (p1 := 363) (M2 := 110) (tk (n := 6) t323_4 rfl) rfl rfl rfl rfl rfl (fun r7 => ?_)
  refine s_aload_n (pc1 := 364) (tk (n := 7) t323_4 rfl) rfl rfl rfl ?_
  refine s_aload_n (pc1 := 365) (tk (n := 8) t323_4 rfl) rfl rfl rfl ?_
  refine s_iload_n (pc1 := 366) (tk (n := 9) t323_4 rfl) rfl rfl rfl ?_
  refine s_iconst (pc1 := 367) (tk (n := 10) t323_4 rfl) rfl rfl  ?_
  refine s_iadd (pc1 := 368) (tk (n := 11) t323_4 rfl) rfl rfl  ?_
  refine s_iald1 (pc1 := 369) (tk (n := 12) t323_4 rfl) rfl rfl  ?_
  refine s_call0 (as := [(2, x2), (0, r7.2.2 x0 (w32 (x3 + 1)))]) (st1 := [(0, vx r7)]) (p1 := 372) (M2 := 215) (tk (n := 13) t323_4 rfl) rfl rfl rfl rfl rfl (fun r14 => ?_)
  refine s_ic_eq (pc1 := 375) (pt := 2128) (tk (n := 14) t323_4 rfl) rfl rfl rfl ?_ ?_
  · rfl
  · refine s_iconst (pc1 := 376) (tk (n := 15) t323_4 rfl) rfl rfl  ?_
    exact s_retY (tk (n := 16) t323_4 rfl) rfl rfl rfl (by decide)
set_option maxRecDepth 100000 in
set_option maxHeartbeats 4000000 in
theorem e_L_law_377 (x0 : Int) (x1 : Int) (x2 : Int) (x3 : Int) (h : Hq) : vp 323 377 [(2, x0), (2, x1), (2, x2), (0, x3)] [] h = if x0 = -1 ∧ 0 ≤ (w32 (x3 + 1)) ∧ (w32 (x3 + 1)) < h.2 (-1) (-1) then if 0 < x1 ∧ (kd x1).1 = 11 then (vm 111 [(2, x1), (0, h.2 x0 (w32 (x3 + 1)))] h).bind (fun r7 => if x0 = -1 ∧ 0 ≤ (w32 (x3 + 1)) ∧ (w32 (x3 + 1)) < r7.2.2 (-1) (-1) then if 0 < x2 ∧ (kd x2).1 = 12 then (vm 216 [(2, x2), (0, r7.2.2 x0 (w32 (x3 + 1)))] r7.2).bind (fun r14 => if (vx r7) = (vx r14) then (vp 323 2128 [(2, x0), (2, x1), (2, x2), (0, x3)] [] r14.2) else (some (some (0, 0), r14.2))) else none else none) else none else none := by
  refine s_aload_n (pc1 := 378) (tk (n := 17) t323_4 rfl) rfl rfl rfl ?_
  refine s_aload_n (pc1 := 379) (tk (n := 18) t323_4 rfl) rfl rfl rfl ?_
  refine s_iload_n (pc1 := 380) (tk (n := 19) t323_4 rfl) rfl rfl rfl ?_
  refine s_iconst (pc1 := 381) (tk (n := 20) t323_4 rfl) rfl rfl  ?_
  refine s_iadd (pc1 := 382) (tk (n := 21) t323_4 rfl) rfl rfl  ?_
  refine s_iald1 (pc1 := 383) (tk (n := 22) t323_4 rfl) rfl rfl  ?_
  refine s_call0 (as := [(2, x1), (0, h.2 x0 (w32 (x3 + 1)))]) (st1 := []) (p1 := 386) (M2 := 111) (tk (n := 23) t323_4 rfl) rfl rfl rfl rfl rfl (fun r7 => ?_)
  refine s_aload_n (pc1 := 387) (tk (n := 24) t323_4 rfl) rfl rfl rfl ?_
  refine s_aload_n (pc1 := 388) (tk (n := 25) t323_4 rfl) rfl rfl rfl ?_
  refine s_iload_n (pc1 := 389) (tk (n := 26) t323_4 rfl) rfl rfl rfl ?_
  refine s_iconst (pc1 := 390) (tk (n := 27) t323_4 rfl) rfl rfl  ?_
  refine s_iadd (pc1 := 391) (tk (n := 28) t323_4 rfl) rfl rfl  ?_
  refine s_iald1 (pc1 := 392) (tk (n := 29) t323_4 rfl) rfl rfl  ?_
  refine s_call0 (as := [(2, x2), (0, r7.2.2 x0 (w32 (x3 + 1)))]) (st1 := [(0, vx r7)]) (p1 := 395) (M2 := 216) (tk (n := 0) t323_5 rfl) rfl rfl rfl rfl rfl (fun r14 => ?_)
  refine s_ic_eq (pc1 := 398) (pt := 2128) (tk (n := 1) t323_5 rfl) rfl rfl rfl ?_ ?_
  · rfl
  · refine s_iconst (pc1 := 399) (tk (n := 2) t323_5 rfl) rfl rfl  ?_
    exact s_retY (tk (n := 3) t323_5 rfl) rfl rfl rfl (by decide)
set_option maxRecDepth 100000 in
set_option maxHeartbeats 4000000 in
theorem e_L_law_400 (x0 : Int) (x1 : Int) (x2 : Int) (x3 : Int) (h : Hq) : vp 323 400 [(2, x0), (2, x1), (2, x2), (0, x3)] [] h = if x0 = -1 ∧ 0 ≤ (w32 (x3 + 1)) ∧ (w32 (x3 + 1)) < h.2 (-1) (-1) then if x0 = -1 ∧ 0 ≤ (w32 (x3 + 2)) ∧ (w32 (x3 + 2)) < h.2 (-1) (-1) then if x0 = -1 ∧ 0 ≤ (w32 (x3 + 3)) ∧ (w32 (x3 + 3)) < h.2 (-1) (-1) then if 0 < x1 ∧ (kd x1).1 = 11 then (vm 112 [(2, x1), (0, h.2 x0 (w32 (x3 + 1))), (0, h.2 x0 (w32 (x3 + 2))), (0, h.2 x0 (w32 (x3 + 3)))] h).bind (fun r17 => if x0 = -1 ∧ 0 ≤ (w32 (x3 + 1)) ∧ (w32 (x3 + 1)) < r17.2.2 (-1) (-1) then if x0 = -1 ∧ 0 ≤ (w32 (x3 + 2)) ∧ (w32 (x3 + 2)) < r17.2.2 (-1) (-1) then if x0 = -1 ∧ 0 ≤ (w32 (x3 + 3)) ∧ (w32 (x3 + 3)) < r17.2.2 (-1) (-1) then if 0 < x2 ∧ (kd x2).1 = 12 then (vm 217 [(2, x2), (0, r17.2.2 x0 (w32 (x3 + 1))), (0, r17.2.2 x0 (w32 (x3 + 2))), (0, r17.2.2 x0 (w32 (x3 + 3)))] r17.2).bind (fun r34 => if (vx r17) = (vx r34) then (vp 323 2128 [(2, x0), (2, x1), (2, x2), (0, x3)] [] r34.2) else (some (some (0, 0), r34.2))) else none else none else none else none) else none else none else none else none := by
  refine s_aload_n (pc1 := 401) (tk (n := 4) t323_5 rfl) rfl rfl rfl ?_
  refine s_aload_n (pc1 := 402) (tk (n := 5) t323_5 rfl) rfl rfl rfl ?_
  refine s_iload_n (pc1 := 403) (tk (n := 6) t323_5 rfl) rfl rfl rfl ?_
  refine s_iconst (pc1 := 404) (tk (n := 7) t323_5 rfl) rfl rfl  ?_
  refine s_iadd (pc1 := 405) (tk (n := 8) t323_5 rfl) rfl rfl  ?_
  refine s_iald1 (pc1 := 406) (tk (n := 9) t323_5 rfl) rfl rfl  ?_
  refine s_aload_n (pc1 := 407) (tk (n := 10) t323_5 rfl) rfl rfl rfl ?_
  refine s_iload_n (pc1 := 408) (tk (n := 11) t323_5 rfl) rfl rfl rfl ?_
  refine s_iconst (pc1 := 409) (tk (n := 12) t323_5 rfl) rfl rfl  ?_
  refine s_iadd (pc1 := 410) (tk (n := 13) t323_5 rfl) rfl rfl  ?_
  refine s_iald1 (pc1 := 411) (tk (n := 14) t323_5 rfl) rfl rfl  ?_
  refine s_aload_n (pc1 := 412) (tk (n := 15) t323_5 rfl) rfl rfl rfl ?_
  refine s_iload_n (pc1 := 413) (tk (n := 16) t323_5 rfl) rfl rfl rfl ?_
  refine s_iconst (pc1 := 414) (tk (n := 17) t323_5 rfl) rfl rfl  ?_
  refine s_iadd (pc1 := 415) (tk (n := 18) t323_5 rfl) rfl rfl  ?_
  refine s_iald1 (pc1 := 416) (tk (n := 19) t323_5 rfl) rfl rfl  ?_
  refine s_call0 (as := [(2, x1), (0, h.2 x0 (w32 (x3 + 1))), (0, h.2 x0 (w32 (x3 + 2))), (0, h.2 x0 (w32 (x3 + 3)))]) (st1 := []) (p1 := 419) (M2 := 112) (tk (n := 20) t323_5 rfl) rfl rfl rfl rfl rfl (fun r17 => ?_)
  refine s_aload_n (pc1 := 420) (tk (n := 21) t323_5 rfl) rfl rfl rfl ?_
  refine s_aload_n (pc1 := 421) (tk (n := 22) t323_5 rfl) rfl rfl rfl ?_
  refine s_iload_n (pc1 := 422) (tk (n := 23) t323_5 rfl) rfl rfl rfl ?_
  refine s_iconst (pc1 := 423) (tk (n := 24) t323_5 rfl) rfl rfl  ?_
  refine s_iadd (pc1 := 424) (tk (n := 25) t323_5 rfl) rfl rfl  ?_
  refine s_iald1 (pc1 := 425) (tk (n := 26) t323_5 rfl) rfl rfl  ?_
  refine s_aload_n (pc1 := 426) (tk (n := 27) t323_5 rfl) rfl rfl rfl ?_
  refine s_iload_n (pc1 := 427) (tk (n := 28) t323_5 rfl) rfl rfl rfl ?_
  refine s_iconst (pc1 := 428) (tk (n := 29) t323_5 rfl) rfl rfl  ?_
  refine s_iadd (pc1 := 429) (tk (n := 0) t323_6 rfl) rfl rfl  ?_
  refine s_iald1 (pc1 := 430) (tk (n := 1) t323_6 rfl) rfl rfl  ?_
  refine s_aload_n (pc1 := 431) (tk (n := 2) t323_6 rfl) rfl rfl rfl ?_
  refine s_iload_n (pc1 := 432) (tk (n := 3) t323_6 rfl) rfl rfl rfl ?_
  refine s_iconst (pc1 := 433) (tk (n := 4) t323_6 rfl) rfl rfl  ?_
  refine s_iadd (pc1 := 434) (tk (n := 5) t323_6 rfl) rfl rfl  ?_
  refine s_iald1 (pc1 := 435) (tk (n := 6) t323_6 rfl) rfl rfl  ?_
  refine s_call0 (as := [(2, x2), (0, r17.2.2 x0 (w32 (x3 + 1))), (0, r17.2.2 x0 (w32 (x3 + 2))), (0, r17.2.2 x0 (w32 (x3 + 3)))]) (st1 := [(0, vx r17)]) (p1 := 438) (M2 := 217) (tk (n := 7) t323_6 rfl) rfl rfl rfl rfl rfl (fun r34 => ?_)
  refine s_ic_eq (pc1 := 441) (pt := 2128) (tk (n := 8) t323_6 rfl) rfl rfl rfl ?_ ?_
  · rfl
  · refine s_iconst (pc1 := 442) (tk (n := 9) t323_6 rfl) rfl rfl  ?_
    exact s_retY (tk (n := 10) t323_6 rfl) rfl rfl rfl (by decide)
set_option maxRecDepth 100000 in
set_option maxHeartbeats 4000000 in
theorem e_L_law_443 (x0 : Int) (x1 : Int) (x2 : Int) (x3 : Int) (h : Hq) : vp 323 443 [(2, x0), (2, x1), (2, x2), (0, x3)] [] h = if x0 = -1 ∧ 0 ≤ (w32 (x3 + 1)) ∧ (w32 (x3 + 1)) < h.2 (-1) (-1) then if x0 = -1 ∧ 0 ≤ (w32 (x3 + 2)) ∧ (w32 (x3 + 2)) < h.2 (-1) (-1) then if x0 = -1 ∧ 0 ≤ (w32 (x3 + 3)) ∧ (w32 (x3 + 3)) < h.2 (-1) (-1) then if x0 = -1 ∧ 0 ≤ (w32 (x3 + 4)) ∧ (w32 (x3 + 4)) < h.2 (-1) (-1) then if 0 < x1 ∧ (kd x1).1 = 11 then (vm 113 [(2, x1), (0, h.2 x0 (w32 (x3 + 1))), (0, h.2 x0 (w32 (x3 + 2))), (0, h.2 x0 (w32 (x3 + 3))), (0, h.2 x0 (w32 (x3 + 4)))] h).bind (fun r22 => if x0 = -1 ∧ 0 ≤ (w32 (x3 + 1)) ∧ (w32 (x3 + 1)) < r22.2.2 (-1) (-1) then if x0 = -1 ∧ 0 ≤ (w32 (x3 + 2)) ∧ (w32 (x3 + 2)) < r22.2.2 (-1) (-1) then if x0 = -1 ∧ 0 ≤ (w32 (x3 + 3)) ∧ (w32 (x3 + 3)) < r22.2.2 (-1) (-1) then if x0 = -1 ∧ 0 ≤ (w32 (x3 + 4)) ∧ (w32 (x3 + 4)) < r22.2.2 (-1) (-1) then if 0 < x2 ∧ (kd x2).1 = 12 then (vm 224 [(2, x2), (0, r22.2.2 x0 (w32 (x3 + 1))), (0, r22.2.2 x0 (w32 (x3 + 2))), (0, r22.2.2 x0 (w32 (x3 + 3))), (0, r22.2.2 x0 (w32 (x3 + 4)))] r22.2).bind (fun r44 => if (vx r22) = (vx r44) then (vp 323 2128 [(2, x0), (2, x1), (2, x2), (0, x3)] [] r44.2) else (some (some (0, 0), r44.2))) else none else none else none else none else none) else none else none else none else none else none := by
  refine s_aload_n (pc1 := 444) (tk (n := 11) t323_6 rfl) rfl rfl rfl ?_
  refine s_aload_n (pc1 := 445) (tk (n := 12) t323_6 rfl) rfl rfl rfl ?_
  refine s_iload_n (pc1 := 446) (tk (n := 13) t323_6 rfl) rfl rfl rfl ?_
  refine s_iconst (pc1 := 447) (tk (n := 14) t323_6 rfl) rfl rfl  ?_
  refine s_iadd (pc1 := 448) (tk (n := 15) t323_6 rfl) rfl rfl  ?_
  refine s_iald1 (pc1 := 449) (tk (n := 16) t323_6 rfl) rfl rfl  ?_
  refine s_aload_n (pc1 := 450) (tk (n := 17) t323_6 rfl) rfl rfl rfl ?_
  refine s_iload_n (pc1 := 451) (tk (n := 18) t323_6 rfl) rfl rfl rfl ?_
  refine s_iconst (pc1 := 452) (tk (n := 19) t323_6 rfl) rfl rfl  ?_
  refine s_iadd (pc1 := 453) (tk (n := 20) t323_6 rfl) rfl rfl  ?_
  refine s_iald1 (pc1 := 454) (tk (n := 21) t323_6 rfl) rfl rfl  ?_
  refine s_aload_n (pc1 := 455) (tk (n := 22) t323_6 rfl) rfl rfl rfl ?_
  refine s_iload_n (pc1 := 456) (tk (n := 23) t323_6 rfl) rfl rfl rfl ?_
  refine s_iconst (pc1 := 457) (tk (n := 24) t323_6 rfl) rfl rfl  ?_
  refine s_iadd (pc1 := 458) (tk (n := 25) t323_6 rfl) rfl rfl  ?_
  refine s_iald1 (pc1 := 459) (tk (n := 26) t323_6 rfl) rfl rfl  ?_
  refine s_aload_n (pc1 := 460) (tk (n := 27) t323_6 rfl) rfl rfl rfl ?_
  refine s_iload_n (pc1 := 461) (tk (n := 28) t323_6 rfl) rfl rfl rfl ?_
  refine s_iconst (pc1 := 462) (tk (n := 29) t323_6 rfl) rfl rfl  ?_
  refine s_iadd (pc1 := 463) (tk (n := 0) t323_7 rfl) rfl rfl  ?_
  refine s_iald1 (pc1 := 464) (tk (n := 1) t323_7 rfl) rfl rfl  ?_
  refine s_call0 (as := [(2, x1), (0, h.2 x0 (w32 (x3 + 1))), (0, h.2 x0 (w32 (x3 + 2))), (0, h.2 x0 (w32 (x3 + 3))), (0, h.2 x0 (w32 (x3 + 4)))]) (st1 := []) (p1 := 467) (M2 := 113) (tk (n := 2) t323_7 rfl) rfl rfl rfl rfl rfl (fun r22 => ?_)
  refine s_aload_n (pc1 := 468) (tk (n := 3) t323_7 rfl) rfl rfl rfl ?_
  refine s_aload_n (pc1 := 469) (tk (n := 4) t323_7 rfl) rfl rfl rfl ?_
  refine s_iload_n (pc1 := 470) (tk (n := 5) t323_7 rfl) rfl rfl rfl ?_
  refine s_iconst (pc1 := 471) (tk (n := 6) t323_7 rfl) rfl rfl  ?_
  refine s_iadd (pc1 := 472) (tk (n := 7) t323_7 rfl) rfl rfl  ?_
  refine s_iald1 (pc1 := 473) (tk (n := 8) t323_7 rfl) rfl rfl  ?_
  refine s_aload_n (pc1 := 474) (tk (n := 9) t323_7 rfl) rfl rfl rfl ?_
  refine s_iload_n (pc1 := 475) (tk (n := 10) t323_7 rfl) rfl rfl rfl ?_
  refine s_iconst (pc1 := 476) (tk (n := 11) t323_7 rfl) rfl rfl  ?_
  refine s_iadd (pc1 := 477) (tk (n := 12) t323_7 rfl) rfl rfl  ?_
  refine s_iald1 (pc1 := 478) (tk (n := 13) t323_7 rfl) rfl rfl  ?_
  refine s_aload_n (pc1 := 479) (tk (n := 14) t323_7 rfl) rfl rfl rfl ?_
  refine s_iload_n (pc1 := 480) (tk (n := 15) t323_7 rfl) rfl rfl rfl ?_
  refine s_iconst (pc1 := 481) (tk (n := 16) t323_7 rfl) rfl rfl  ?_
  refine s_iadd (pc1 := 482) (tk (n := 17) t323_7 rfl) rfl rfl  ?_
  refine s_iald1 (pc1 := 483) (tk (n := 18) t323_7 rfl) rfl rfl  ?_
  refine s_aload_n (pc1 := 484) (tk (n := 19) t323_7 rfl) rfl rfl rfl ?_
  refine s_iload_n (pc1 := 485) (tk (n := 20) t323_7 rfl) rfl rfl rfl ?_
  refine s_iconst (pc1 := 486) (tk (n := 21) t323_7 rfl) rfl rfl  ?_
  refine s_iadd (pc1 := 487) (tk (n := 22) t323_7 rfl) rfl rfl  ?_
  refine s_iald1 (pc1 := 488) (tk (n := 23) t323_7 rfl) rfl rfl  ?_
  refine s_call0 (as := [(2, x2), (0, r22.2.2 x0 (w32 (x3 + 1))), (0, r22.2.2 x0 (w32 (x3 + 2))), (0, r22.2.2 x0 (w32 (x3 + 3))), (0, r22.2.2 x0 (w32 (x3 + 4)))]) (st1 := [(0, vx r22)]) (p1 := 491) (M2 := 224) (tk (n := 24) t323_7 rfl) rfl rfl rfl rfl rfl (fun r44 => ?_)
  refine s_ic_eq (pc1 := 494) (pt := 2128) (tk (n := 25) t323_7 rfl) rfl rfl rfl ?_ ?_
  · rfl
  · refine s_iconst (pc1 := 495) (tk (n := 26) t323_7 rfl) rfl rfl  ?_
    exact s_retY (tk (n := 27) t323_7 rfl) rfl rfl rfl (by decide)
set_option maxRecDepth 100000 in
set_option maxHeartbeats 4000000 in
theorem e_L_law_496 (x0 : Int) (x1 : Int) (x2 : Int) (x3 : Int) (h : Hq) : vp 323 496 [(2, x0), (2, x1), (2, x2), (0, x3)] [] h = if x0 = -1 ∧ 0 ≤ (w32 (x3 + 1)) ∧ (w32 (x3 + 1)) < h.2 (-1) (-1) then if x0 = -1 ∧ 0 ≤ (w32 (x3 + 2)) ∧ (w32 (x3 + 2)) < h.2 (-1) (-1) then if x0 = -1 ∧ 0 ≤ (w32 (x3 + 3)) ∧ (w32 (x3 + 3)) < h.2 (-1) (-1) then if x0 = -1 ∧ 0 ≤ (w32 (x3 + 4)) ∧ (w32 (x3 + 4)) < h.2 (-1) (-1) then if 0 < x1 ∧ (kd x1).1 = 11 then (vm 114 [(2, x1), (0, h.2 x0 (w32 (x3 + 1))), (0, h.2 x0 (w32 (x3 + 2))), (0, h.2 x0 (w32 (x3 + 3))), (0, h.2 x0 (w32 (x3 + 4)))] h).bind (fun r22 => if x0 = -1 ∧ 0 ≤ (w32 (x3 + 1)) ∧ (w32 (x3 + 1)) < r22.2.2 (-1) (-1) then if x0 = -1 ∧ 0 ≤ (w32 (x3 + 2)) ∧ (w32 (x3 + 2)) < r22.2.2 (-1) (-1) then if x0 = -1 ∧ 0 ≤ (w32 (x3 + 3)) ∧ (w32 (x3 + 3)) < r22.2.2 (-1) (-1) then if x0 = -1 ∧ 0 ≤ (w32 (x3 + 4)) ∧ (w32 (x3 + 4)) < r22.2.2 (-1) (-1) then if 0 < x2 ∧ (kd x2).1 = 12 then (vm 227 [(2, x2), (0, r22.2.2 x0 (w32 (x3 + 1))), (0, r22.2.2 x0 (w32 (x3 + 2))), (0, r22.2.2 x0 (w32 (x3 + 3))), (0, r22.2.2 x0 (w32 (x3 + 4)))] r22.2).bind (fun r44 => if (vx r22) = (vx r44) then (vp 323 2128 [(2, x0), (2, x1), (2, x2), (0, x3)] [] r44.2) else (some (some (0, 0), r44.2))) else none else none else none else none else none) else none else none else none else none else none := by
  refine s_aload_n (pc1 := 497) (tk (n := 28) t323_7 rfl) rfl rfl rfl ?_
  refine s_aload_n (pc1 := 498) (tk (n := 29) t323_7 rfl) rfl rfl rfl ?_
  refine s_iload_n (pc1 := 499) (tk (n := 0) t323_8 rfl) rfl rfl rfl ?_
  refine s_iconst (pc1 := 500) (tk (n := 1) t323_8 rfl) rfl rfl  ?_
  refine s_iadd (pc1 := 501) (tk (n := 2) t323_8 rfl) rfl rfl  ?_
  refine s_iald1 (pc1 := 502) (tk (n := 3) t323_8 rfl) rfl rfl  ?_
  refine s_aload_n (pc1 := 503) (tk (n := 4) t323_8 rfl) rfl rfl rfl ?_
  refine s_iload_n (pc1 := 504) (tk (n := 5) t323_8 rfl) rfl rfl rfl ?_
  refine s_iconst (pc1 := 505) (tk (n := 6) t323_8 rfl) rfl rfl  ?_
  refine s_iadd (pc1 := 506) (tk (n := 7) t323_8 rfl) rfl rfl  ?_
  refine s_iald1 (pc1 := 507) (tk (n := 8) t323_8 rfl) rfl rfl  ?_
  refine s_aload_n (pc1 := 508) (tk (n := 9) t323_8 rfl) rfl rfl rfl ?_
  refine s_iload_n (pc1 := 509) (tk (n := 10) t323_8 rfl) rfl rfl rfl ?_
  refine s_iconst (pc1 := 510) (tk (n := 11) t323_8 rfl) rfl rfl  ?_
  refine s_iadd (pc1 := 511) (tk (n := 12) t323_8 rfl) rfl rfl  ?_
  refine s_iald1 (pc1 := 512) (tk (n := 13) t323_8 rfl) rfl rfl  ?_
  refine s_aload_n (pc1 := 513) (tk (n := 14) t323_8 rfl) rfl rfl rfl ?_
  refine s_iload_n (pc1 := 514) (tk (n := 15) t323_8 rfl) rfl rfl rfl ?_
  refine s_iconst (pc1 := 515) (tk (n := 16) t323_8 rfl) rfl rfl  ?_
  refine s_iadd (pc1 := 516) (tk (n := 17) t323_8 rfl) rfl rfl  ?_
  refine s_iald1 (pc1 := 517) (tk (n := 18) t323_8 rfl) rfl rfl  ?_
  refine s_call0 (as := [(2, x1), (0, h.2 x0 (w32 (x3 + 1))), (0, h.2 x0 (w32 (x3 + 2))), (0, h.2 x0 (w32 (x3 + 3))), (0, h.2 x0 (w32 (x3 + 4)))]) (st1 := []) (p1 := 520) (M2 := 114) (tk (n := 19) t323_8 rfl) rfl rfl rfl rfl rfl (fun r22 => ?_)
  refine s_aload_n (pc1 := 521) (tk (n := 20) t323_8 rfl) rfl rfl rfl ?_
  refine s_aload_n (pc1 := 522) (tk (n := 21) t323_8 rfl) rfl rfl rfl ?_
  refine s_iload_n (pc1 := 523) (tk (n := 22) t323_8 rfl) rfl rfl rfl ?_
  refine s_iconst (pc1 := 524) (tk (n := 23) t323_8 rfl) rfl rfl  ?_
  refine s_iadd (pc1 := 525) (tk (n := 24) t323_8 rfl) rfl rfl  ?_
  refine s_iald1 (pc1 := 526) (tk (n := 25) t323_8 rfl) rfl rfl  ?_
  refine s_aload_n (pc1 := 527) (tk (n := 26) t323_8 rfl) rfl rfl rfl ?_
  refine s_iload_n (pc1 := 528) (tk (n := 27) t323_8 rfl) rfl rfl rfl ?_
  refine s_iconst (pc1 := 529) (tk (n := 28) t323_8 rfl) rfl rfl  ?_
  refine s_iadd (pc1 := 530) (tk (n := 29) t323_8 rfl) rfl rfl  ?_
  refine s_iald1 (pc1 := 531) (tk (n := 0) t323_9 rfl) rfl rfl  ?_
  refine s_aload_n (pc1 := 532) (tk (n := 1) t323_9 rfl) rfl rfl rfl ?_
  refine s_iload_n (pc1 := 533) (tk (n := 2) t323_9 rfl) rfl rfl rfl ?_
  refine s_iconst (pc1 := 534) (tk (n := 3) t323_9 rfl) rfl rfl  ?_
  refine s_iadd (pc1 := 535) (tk (n := 4) t323_9 rfl) rfl rfl  ?_
  refine s_iald1 (pc1 := 536) (tk (n := 5) t323_9 rfl) rfl rfl  ?_
  refine s_aload_n (pc1 := 537) (tk (n := 6) t323_9 rfl) rfl rfl rfl ?_
  refine s_iload_n (pc1 := 538) (tk (n := 7) t323_9 rfl) rfl rfl rfl ?_
  refine s_iconst (pc1 := 539) (tk (n := 8) t323_9 rfl) rfl rfl  ?_
  refine s_iadd (pc1 := 540) (tk (n := 9) t323_9 rfl) rfl rfl  ?_
  refine s_iald1 (pc1 := 541) (tk (n := 10) t323_9 rfl) rfl rfl  ?_
  refine s_call0 (as := [(2, x2), (0, r22.2.2 x0 (w32 (x3 + 1))), (0, r22.2.2 x0 (w32 (x3 + 2))), (0, r22.2.2 x0 (w32 (x3 + 3))), (0, r22.2.2 x0 (w32 (x3 + 4)))]) (st1 := [(0, vx r22)]) (p1 := 544) (M2 := 227) (tk (n := 11) t323_9 rfl) rfl rfl rfl rfl rfl (fun r44 => ?_)
  refine s_ic_eq (pc1 := 547) (pt := 2128) (tk (n := 12) t323_9 rfl) rfl rfl rfl ?_ ?_
  · rfl
  · refine s_iconst (pc1 := 548) (tk (n := 13) t323_9 rfl) rfl rfl  ?_
    exact s_retY (tk (n := 14) t323_9 rfl) rfl rfl rfl (by decide)
set_option maxRecDepth 100000 in
set_option maxHeartbeats 4000000 in
theorem e_L_law_549 (x0 : Int) (x1 : Int) (x2 : Int) (x3 : Int) (h : Hq) : vp 323 549 [(2, x0), (2, x1), (2, x2), (0, x3)] [] h = if x0 = -1 ∧ 0 ≤ (w32 (x3 + 1)) ∧ (w32 (x3 + 1)) < h.2 (-1) (-1) then if x0 = -1 ∧ 0 ≤ (w32 (x3 + 2)) ∧ (w32 (x3 + 2)) < h.2 (-1) (-1) then if 0 < x1 ∧ (kd x1).1 = 11 then (vm 118 [(2, x1), (0, h.2 x0 (w32 (x3 + 1))), (0, h.2 x0 (w32 (x3 + 2)))] h).bind (fun r12 => if x0 = -1 ∧ 0 ≤ (w32 (x3 + 1)) ∧ (w32 (x3 + 1)) < r12.2.2 (-1) (-1) then if x0 = -1 ∧ 0 ≤ (w32 (x3 + 2)) ∧ (w32 (x3 + 2)) < r12.2.2 (-1) (-1) then if 0 < x2 ∧ (kd x2).1 = 12 then (vm 229 [(2, x2), (0, r12.2.2 x0 (w32 (x3 + 1))), (0, r12.2.2 x0 (w32 (x3 + 2)))] r12.2).bind (fun r24 => if (vx r12) = (vx r24) then (vp 323 2128 [(2, x0), (2, x1), (2, x2), (0, x3)] [] r24.2) else (some (some (0, 0), r24.2))) else none else none else none) else none else none else none := by
  refine s_aload_n (pc1 := 550) (tk (n := 15) t323_9 rfl) rfl rfl rfl ?_
  refine s_aload_n (pc1 := 551) (tk (n := 16) t323_9 rfl) rfl rfl rfl ?_
  refine s_iload_n (pc1 := 552) (tk (n := 17) t323_9 rfl) rfl rfl rfl ?_
  refine s_iconst (pc1 := 553) (tk (n := 18) t323_9 rfl) rfl rfl  ?_
  refine s_iadd (pc1 := 554) (tk (n := 19) t323_9 rfl) rfl rfl  ?_
  refine s_iald1 (pc1 := 555) (tk (n := 20) t323_9 rfl) rfl rfl  ?_
  refine s_aload_n (pc1 := 556) (tk (n := 21) t323_9 rfl) rfl rfl rfl ?_
  refine s_iload_n (pc1 := 557) (tk (n := 22) t323_9 rfl) rfl rfl rfl ?_
  refine s_iconst (pc1 := 558) (tk (n := 23) t323_9 rfl) rfl rfl  ?_
  refine s_iadd (pc1 := 559) (tk (n := 24) t323_9 rfl) rfl rfl  ?_
  refine s_iald1 (pc1 := 560) (tk (n := 25) t323_9 rfl) rfl rfl  ?_
  refine s_call0 (as := [(2, x1), (0, h.2 x0 (w32 (x3 + 1))), (0, h.2 x0 (w32 (x3 + 2)))]) (st1 := []) (p1 := 563) (M2 := 118) (tk (n := 26) t323_9 rfl) rfl rfl rfl rfl rfl (fun r12 => ?_)
  refine s_aload_n (pc1 := 564) (tk (n := 27) t323_9 rfl) rfl rfl rfl ?_
  refine s_aload_n (pc1 := 565) (tk (n := 28) t323_9 rfl) rfl rfl rfl ?_
  refine s_iload_n (pc1 := 566) (tk (n := 29) t323_9 rfl) rfl rfl rfl ?_
  refine s_iconst (pc1 := 567) (tk (n := 0) t323_10 rfl) rfl rfl  ?_
  refine s_iadd (pc1 := 568) (tk (n := 1) t323_10 rfl) rfl rfl  ?_
  refine s_iald1 (pc1 := 569) (tk (n := 2) t323_10 rfl) rfl rfl  ?_
  refine s_aload_n (pc1 := 570) (tk (n := 3) t323_10 rfl) rfl rfl rfl ?_
  refine s_iload_n (pc1 := 571) (tk (n := 4) t323_10 rfl) rfl rfl rfl ?_
  refine s_iconst (pc1 := 572) (tk (n := 5) t323_10 rfl) rfl rfl  ?_
  refine s_iadd (pc1 := 573) (tk (n := 6) t323_10 rfl) rfl rfl  ?_
  refine s_iald1 (pc1 := 574) (tk (n := 7) t323_10 rfl) rfl rfl  ?_
  refine s_call0 (as := [(2, x2), (0, r12.2.2 x0 (w32 (x3 + 1))), (0, r12.2.2 x0 (w32 (x3 + 2)))]) (st1 := [(0, vx r12)]) (p1 := 577) (M2 := 229) (tk (n := 8) t323_10 rfl) rfl rfl rfl rfl rfl (fun r24 => ?_)
  refine s_ic_eq (pc1 := 580) (pt := 2128) (tk (n := 9) t323_10 rfl) rfl rfl rfl ?_ ?_
  · rfl
  · refine s_iconst (pc1 := 581) (tk (n := 10) t323_10 rfl) rfl rfl  ?_
    exact s_retY (tk (n := 11) t323_10 rfl) rfl rfl rfl (by decide)
set_option maxRecDepth 100000 in
set_option maxHeartbeats 4000000 in
theorem e_L_law_582 (x0 : Int) (x1 : Int) (x2 : Int) (x3 : Int) (h : Hq) : vp 323 582 [(2, x0), (2, x1), (2, x2), (0, x3)] [] h = if x0 = -1 ∧ 0 ≤ (w32 (x3 + 1)) ∧ (w32 (x3 + 1)) < h.2 (-1) (-1) then if x0 = -1 ∧ 0 ≤ (w32 (x3 + 2)) ∧ (w32 (x3 + 2)) < h.2 (-1) (-1) then if 0 < x1 ∧ (kd x1).1 = 11 then (vm 119 [(2, x1), (0, h.2 x0 (w32 (x3 + 1))), (0, h.2 x0 (w32 (x3 + 2)))] h).bind (fun r12 => if x0 = -1 ∧ 0 ≤ (w32 (x3 + 1)) ∧ (w32 (x3 + 1)) < r12.2.2 (-1) (-1) then if x0 = -1 ∧ 0 ≤ (w32 (x3 + 2)) ∧ (w32 (x3 + 2)) < r12.2.2 (-1) (-1) then if 0 < x2 ∧ (kd x2).1 = 12 then (vm 231 [(2, x2), (0, r12.2.2 x0 (w32 (x3 + 1))), (0, r12.2.2 x0 (w32 (x3 + 2)))] r12.2).bind (fun r24 => if (vx r12) = (vx r24) then (vp 323 2128 [(2, x0), (2, x1), (2, x2), (0, x3)] [] r24.2) else (some (some (0, 0), r24.2))) else none else none else none) else none else none else none := by
  refine s_aload_n (pc1 := 583) (tk (n := 12) t323_10 rfl) rfl rfl rfl ?_
  refine s_aload_n (pc1 := 584) (tk (n := 13) t323_10 rfl) rfl rfl rfl ?_
  refine s_iload_n (pc1 := 585) (tk (n := 14) t323_10 rfl) rfl rfl rfl ?_
  refine s_iconst (pc1 := 586) (tk (n := 15) t323_10 rfl) rfl rfl  ?_
  refine s_iadd (pc1 := 587) (tk (n := 16) t323_10 rfl) rfl rfl  ?_
  refine s_iald1 (pc1 := 588) (tk (n := 17) t323_10 rfl) rfl rfl  ?_
  refine s_aload_n (pc1 := 589) (tk (n := 18) t323_10 rfl) rfl rfl rfl ?_
  refine s_iload_n (pc1 := 590) (tk (n := 19) t323_10 rfl) rfl rfl rfl ?_
  refine s_iconst (pc1 := 591) (tk (n := 20) t323_10 rfl) rfl rfl  ?_
  refine s_iadd (pc1 := 592) (tk (n := 21) t323_10 rfl) rfl rfl  ?_
  refine s_iald1 (pc1 := 593) (tk (n := 22) t323_10 rfl) rfl rfl  ?_
  refine s_call0 (as := [(2, x1), (0, h.2 x0 (w32 (x3 + 1))), (0, h.2 x0 (w32 (x3 + 2)))]) (st1 := []) (p1 := 596) (M2 := 119) (tk (n := 23) t323_10 rfl) rfl rfl rfl rfl rfl (fun r12 => ?_)
  refine s_aload_n (pc1 := 597) (tk (n := 24) t323_10 rfl) rfl rfl rfl ?_
  refine s_aload_n (pc1 := 598) (tk (n := 25) t323_10 rfl) rfl rfl rfl ?_
  refine s_iload_n (pc1 := 599) (tk (n := 26) t323_10 rfl) rfl rfl rfl ?_
  refine s_iconst (pc1 := 600) (tk (n := 27) t323_10 rfl) rfl rfl  ?_
  refine s_iadd (pc1 := 601) (tk (n := 28) t323_10 rfl) rfl rfl  ?_
  refine s_iald1 (pc1 := 602) (tk (n := 29) t323_10 rfl) rfl rfl  ?_
  refine s_aload_n (pc1 := 603) (tk (n := 0) t323_11 rfl) rfl rfl rfl ?_
  refine s_iload_n (pc1 := 604) (tk (n := 1) t323_11 rfl) rfl rfl rfl ?_
  refine s_iconst (pc1 := 605) (tk (n := 2) t323_11 rfl) rfl rfl  ?_
  refine s_iadd (pc1 := 606) (tk (n := 3) t323_11 rfl) rfl rfl  ?_
  refine s_iald1 (pc1 := 607) (tk (n := 4) t323_11 rfl) rfl rfl  ?_
  refine s_call0 (as := [(2, x2), (0, r12.2.2 x0 (w32 (x3 + 1))), (0, r12.2.2 x0 (w32 (x3 + 2)))]) (st1 := [(0, vx r12)]) (p1 := 610) (M2 := 231) (tk (n := 5) t323_11 rfl) rfl rfl rfl rfl rfl (fun r24 => ?_)
  refine s_ic_eq (pc1 := 613) (pt := 2128) (tk (n := 6) t323_11 rfl) rfl rfl rfl ?_ ?_
  · rfl
  · refine s_iconst (pc1 := 614) (tk (n := 7) t323_11 rfl) rfl rfl  ?_
    exact s_retY (tk (n := 8) t323_11 rfl) rfl rfl rfl (by decide)
set_option maxRecDepth 100000 in
set_option maxHeartbeats 4000000 in
theorem e_L_law_615 (x0 : Int) (x1 : Int) (x2 : Int) (x3 : Int) (h : Hq) : vp 323 615 [(2, x0), (2, x1), (2, x2), (0, x3)] [] h = if x0 = -1 ∧ 0 ≤ (w32 (x3 + 1)) ∧ (w32 (x3 + 1)) < h.2 (-1) (-1) then if 0 < x1 ∧ (kd x1).1 = 11 then (vm 120 [(2, x1), (0, h.2 x0 (w32 (x3 + 1)))] h).bind (fun r7 => if x0 = -1 ∧ 0 ≤ (w32 (x3 + 1)) ∧ (w32 (x3 + 1)) < r7.2.2 (-1) (-1) then if 0 < x2 ∧ (kd x2).1 = 12 then (vm 232 [(2, x2), (0, r7.2.2 x0 (w32 (x3 + 1)))] r7.2).bind (fun r14 => if (if (vx r7) < (vx r14) then -1 else if (vx r7) = (vx r14) then 0 else 1) = 0 then (vp 323 2128 [(2, x0), (2, x1), (2, x2), (0, x3)] [] r14.2) else (some (some (0, 0), r14.2))) else none else none) else none else none := by
  refine s_aload_n (pc1 := 616) (tk (n := 9) t323_11 rfl) rfl rfl rfl ?_
  refine s_aload_n (pc1 := 617) (tk (n := 10) t323_11 rfl) rfl rfl rfl ?_
  refine s_iload_n (pc1 := 618) (tk (n := 11) t323_11 rfl) rfl rfl rfl ?_
  refine s_iconst (pc1 := 619) (tk (n := 12) t323_11 rfl) rfl rfl  ?_
  refine s_iadd (pc1 := 620) (tk (n := 13) t323_11 rfl) rfl rfl  ?_
  refine s_iald1 (pc1 := 621) (tk (n := 14) t323_11 rfl) rfl rfl  ?_
  refine s_call1 (as := [(2, x1), (0, h.2 x0 (w32 (x3 + 1)))]) (st1 := []) (p1 := 624) (M2 := 120) (tk (n := 15) t323_11 rfl) rfl rfl rfl rfl rfl (fun r7 => ?_)
  refine s_aload_n (pc1 := 625) (tk (n := 16) t323_11 rfl) rfl rfl rfl ?_
  refine s_aload_n (pc1 := 626) (tk (n := 17) t323_11 rfl) rfl rfl rfl ?_
  refine s_iload_n (pc1 := 627) (tk (n := 18) t323_11 rfl) rfl rfl rfl ?_
  refine s_iconst (pc1 := 628) (tk (n := 19) t323_11 rfl) rfl rfl  ?_
  refine s_iadd (pc1 := 629) (tk (n := 20) t323_11 rfl) rfl rfl  ?_
  refine s_iald1 (pc1 := 630) (tk (n := 21) t323_11 rfl) rfl rfl  ?_
  refine s_call1 (as := [(2, x2), (0, r7.2.2 x0 (w32 (x3 + 1)))]) (st1 := [(1, vx r7)]) (p1 := 633) (M2 := 232) (tk (n := 22) t323_11 rfl) rfl rfl rfl rfl rfl (fun r14 => ?_)
  refine s_lcmp (pc1 := 634) (tk (n := 23) t323_11 rfl) rfl rfl  ?_
  refine s_if_eq (pc1 := 637) (pt := 2128) (tk (n := 24) t323_11 rfl) rfl rfl rfl ?_ ?_
  · rfl
  · refine s_iconst (pc1 := 638) (tk (n := 25) t323_11 rfl) rfl rfl  ?_
    exact s_retY (tk (n := 26) t323_11 rfl) rfl rfl rfl (by decide)
set_option maxRecDepth 100000 in
set_option maxHeartbeats 4000000 in
theorem e_L_law_639 (x0 : Int) (x1 : Int) (x2 : Int) (x3 : Int) (h : Hq) : vp 323 639 [(2, x0), (2, x1), (2, x2), (0, x3)] [] h = if x0 = -1 ∧ 0 ≤ (w32 (x3 + 1)) ∧ (w32 (x3 + 1)) < h.2 (-1) (-1) then if x0 = -1 ∧ 0 ≤ (w32 (x3 + 2)) ∧ (w32 (x3 + 2)) < h.2 (-1) (-1) then if x0 = -1 ∧ 0 ≤ (w32 (x3 + 3)) ∧ (w32 (x3 + 3)) < h.2 (-1) (-1) then if 0 < x1 ∧ (kd x1).1 = 11 then (vm 121 [(2, x1), (0, h.2 x0 (w32 (x3 + 1))), (0, h.2 x0 (w32 (x3 + 2))), (0, h.2 x0 (w32 (x3 + 3)))] h).bind (fun r17 => if x0 = -1 ∧ 0 ≤ (w32 (x3 + 1)) ∧ (w32 (x3 + 1)) < r17.2.2 (-1) (-1) then if x0 = -1 ∧ 0 ≤ (w32 (x3 + 2)) ∧ (w32 (x3 + 2)) < r17.2.2 (-1) (-1) then if x0 = -1 ∧ 0 ≤ (w32 (x3 + 3)) ∧ (w32 (x3 + 3)) < r17.2.2 (-1) (-1) then if 0 < x2 ∧ (kd x2).1 = 12 then (vm 233 [(2, x2), (0, r17.2.2 x0 (w32 (x3 + 1))), (0, r17.2.2 x0 (w32 (x3 + 2))), (0, r17.2.2 x0 (w32 (x3 + 3)))] r17.2).bind (fun r34 => if (vx r17) = (vx r34) then (vp 323 2128 [(2, x0), (2, x1), (2, x2), (0, x3)] [] r34.2) else (some (some (0, 0), r34.2))) else none else none else none else none) else none else none else none else none := by
  refine s_aload_n (pc1 := 640) (tk (n := 27) t323_11 rfl) rfl rfl rfl ?_
  refine s_aload_n (pc1 := 641) (tk (n := 28) t323_11 rfl) rfl rfl rfl ?_
  refine s_iload_n (pc1 := 642) (tk (n := 29) t323_11 rfl) rfl rfl rfl ?_
  refine s_iconst (pc1 := 643) (tk (n := 0) t323_12 rfl) rfl rfl  ?_
  refine s_iadd (pc1 := 644) (tk (n := 1) t323_12 rfl) rfl rfl  ?_
  refine s_iald1 (pc1 := 645) (tk (n := 2) t323_12 rfl) rfl rfl  ?_
  refine s_aload_n (pc1 := 646) (tk (n := 3) t323_12 rfl) rfl rfl rfl ?_
  refine s_iload_n (pc1 := 647) (tk (n := 4) t323_12 rfl) rfl rfl rfl ?_
  refine s_iconst (pc1 := 648) (tk (n := 5) t323_12 rfl) rfl rfl  ?_
  refine s_iadd (pc1 := 649) (tk (n := 6) t323_12 rfl) rfl rfl  ?_
  refine s_iald1 (pc1 := 650) (tk (n := 7) t323_12 rfl) rfl rfl  ?_
  refine s_aload_n (pc1 := 651) (tk (n := 8) t323_12 rfl) rfl rfl rfl ?_
  refine s_iload_n (pc1 := 652) (tk (n := 9) t323_12 rfl) rfl rfl rfl ?_
  refine s_iconst (pc1 := 653) (tk (n := 10) t323_12 rfl) rfl rfl  ?_
  refine s_iadd (pc1 := 654) (tk (n := 11) t323_12 rfl) rfl rfl  ?_
  refine s_iald1 (pc1 := 655) (tk (n := 12) t323_12 rfl) rfl rfl  ?_
  refine s_call0 (as := [(2, x1), (0, h.2 x0 (w32 (x3 + 1))), (0, h.2 x0 (w32 (x3 + 2))), (0, h.2 x0 (w32 (x3 + 3)))]) (st1 := []) (p1 := 658) (M2 := 121) (tk (n := 13) t323_12 rfl) rfl rfl rfl rfl rfl (fun r17 => ?_)
  refine s_aload_n (pc1 := 659) (tk (n := 14) t323_12 rfl) rfl rfl rfl ?_
  refine s_aload_n (pc1 := 660) (tk (n := 15) t323_12 rfl) rfl rfl rfl ?_
  refine s_iload_n (pc1 := 661) (tk (n := 16) t323_12 rfl) rfl rfl rfl ?_
  refine s_iconst (pc1 := 662) (tk (n := 17) t323_12 rfl) rfl rfl  ?_
  refine s_iadd (pc1 := 663) (tk (n := 18) t323_12 rfl) rfl rfl  ?_
  refine s_iald1 (pc1 := 664) (tk (n := 19) t323_12 rfl) rfl rfl  ?_
  refine s_aload_n (pc1 := 665) (tk (n := 20) t323_12 rfl) rfl rfl rfl ?_
  refine s_iload_n (pc1 := 666) (tk (n := 21) t323_12 rfl) rfl rfl rfl ?_
  refine s_iconst (pc1 := 667) (tk (n := 22) t323_12 rfl) rfl rfl  ?_
  refine s_iadd (pc1 := 668) (tk (n := 23) t323_12 rfl) rfl rfl  ?_
  refine s_iald1 (pc1 := 669) (tk (n := 24) t323_12 rfl) rfl rfl  ?_
  refine s_aload_n (pc1 := 670) (tk (n := 25) t323_12 rfl) rfl rfl rfl ?_
  refine s_iload_n (pc1 := 671) (tk (n := 26) t323_12 rfl) rfl rfl rfl ?_
  refine s_iconst (pc1 := 672) (tk (n := 27) t323_12 rfl) rfl rfl  ?_
  refine s_iadd (pc1 := 673) (tk (n := 28) t323_12 rfl) rfl rfl  ?_
  refine s_iald1 (pc1 := 674) (tk (n := 29) t323_12 rfl) rfl rfl  ?_
  refine s_call0 (as := [(2, x2), (0, r17.2.2 x0 (w32 (x3 + 1))), (0, r17.2.2 x0 (w32 (x3 + 2))), (0, r17.2.2 x0 (w32 (x3 + 3)))]) (st1 := [(0, vx r17)]) (p1 := 677) (M2 := 233) (tk (n := 0) t323_13 rfl) rfl rfl rfl rfl rfl (fun r34 => ?_)
  refine s_ic_eq (pc1 := 680) (pt := 2128) (tk (n := 1) t323_13 rfl) rfl rfl rfl ?_ ?_
  · rfl
  · refine s_iconst (pc1 := 681) (tk (n := 2) t323_13 rfl) rfl rfl  ?_
    exact s_retY (tk (n := 3) t323_13 rfl) rfl rfl rfl (by decide)
set_option maxRecDepth 100000 in
set_option maxHeartbeats 4000000 in
theorem e_L_law_682 (x0 : Int) (x1 : Int) (x2 : Int) (x3 : Int) (h : Hq) : vp 323 682 [(2, x0), (2, x1), (2, x2), (0, x3)] [] h = if x0 = -1 ∧ 0 ≤ (w32 (x3 + 1)) ∧ (w32 (x3 + 1)) < h.2 (-1) (-1) then if x0 = -1 ∧ 0 ≤ (w32 (x3 + 2)) ∧ (w32 (x3 + 2)) < h.2 (-1) (-1) then if 0 < x1 ∧ (kd x1).1 = 11 then (vm 122 [(2, x1), (0, h.2 x0 (w32 (x3 + 1))), (0, h.2 x0 (w32 (x3 + 2)))] h).bind (fun r12 => if x0 = -1 ∧ 0 ≤ (w32 (x3 + 1)) ∧ (w32 (x3 + 1)) < r12.2.2 (-1) (-1) then if x0 = -1 ∧ 0 ≤ (w32 (x3 + 2)) ∧ (w32 (x3 + 2)) < r12.2.2 (-1) (-1) then if 0 < x2 ∧ (kd x2).1 = 12 then (vm 230 [(2, x2), (0, r12.2.2 x0 (w32 (x3 + 1))), (0, r12.2.2 x0 (w32 (x3 + 2)))] r12.2).bind (fun r24 => if (vx r12) = (vx r24) then (vp 323 2128 [(2, x0), (2, x1), (2, x2), (0, x3)] [] r24.2) else (some (some (0, 0), r24.2))) else none else none else none) else none else none else none := by
  refine s_aload_n (pc1 := 683) (tk (n := 4) t323_13 rfl) rfl rfl rfl ?_
  refine s_aload_n (pc1 := 684) (tk (n := 5) t323_13 rfl) rfl rfl rfl ?_
  refine s_iload_n (pc1 := 685) (tk (n := 6) t323_13 rfl) rfl rfl rfl ?_
  refine s_iconst (pc1 := 686) (tk (n := 7) t323_13 rfl) rfl rfl  ?_
  refine s_iadd (pc1 := 687) (tk (n := 8) t323_13 rfl) rfl rfl  ?_
  refine s_iald1 (pc1 := 688) (tk (n := 9) t323_13 rfl) rfl rfl  ?_
  refine s_aload_n (pc1 := 689) (tk (n := 10) t323_13 rfl) rfl rfl rfl ?_
  refine s_iload_n (pc1 := 690) (tk (n := 11) t323_13 rfl) rfl rfl rfl ?_
  refine s_iconst (pc1 := 691) (tk (n := 12) t323_13 rfl) rfl rfl  ?_
  refine s_iadd (pc1 := 692) (tk (n := 13) t323_13 rfl) rfl rfl  ?_
  refine s_iald1 (pc1 := 693) (tk (n := 14) t323_13 rfl) rfl rfl  ?_
  refine s_call0 (as := [(2, x1), (0, h.2 x0 (w32 (x3 + 1))), (0, h.2 x0 (w32 (x3 + 2)))]) (st1 := []) (p1 := 696) (M2 := 122) (tk (n := 15) t323_13 rfl) rfl rfl rfl rfl rfl (fun r12 => ?_)
  refine s_aload_n (pc1 := 697) (tk (n := 16) t323_13 rfl) rfl rfl rfl ?_
  refine s_aload_n (pc1 := 698) (tk (n := 17) t323_13 rfl) rfl rfl rfl ?_
  refine s_iload_n (pc1 := 699) (tk (n := 18) t323_13 rfl) rfl rfl rfl ?_
  refine s_iconst (pc1 := 700) (tk (n := 19) t323_13 rfl) rfl rfl  ?_
  refine s_iadd (pc1 := 701) (tk (n := 20) t323_13 rfl) rfl rfl  ?_
  refine s_iald1 (pc1 := 702) (tk (n := 21) t323_13 rfl) rfl rfl  ?_
  refine s_aload_n (pc1 := 703) (tk (n := 22) t323_13 rfl) rfl rfl rfl ?_
  refine s_iload_n (pc1 := 704) (tk (n := 23) t323_13 rfl) rfl rfl rfl ?_
  refine s_iconst (pc1 := 705) (tk (n := 24) t323_13 rfl) rfl rfl  ?_
  refine s_iadd (pc1 := 706) (tk (n := 25) t323_13 rfl) rfl rfl  ?_
  refine s_iald1 (pc1 := 707) (tk (n := 26) t323_13 rfl) rfl rfl  ?_
  refine s_call0 (as := [(2, x2), (0, r12.2.2 x0 (w32 (x3 + 1))), (0, r12.2.2 x0 (w32 (x3 + 2)))]) (st1 := [(0, vx r12)]) (p1 := 710) (M2 := 230) (tk (n := 27) t323_13 rfl) rfl rfl rfl rfl rfl (fun r24 => ?_)
  refine s_ic_eq (pc1 := 713) (pt := 2128) (tk (n := 28) t323_13 rfl) rfl rfl rfl ?_ ?_
  · rfl
  · refine s_iconst (pc1 := 714) (tk (n := 29) t323_13 rfl) rfl rfl  ?_
    exact s_retY (tk (n := 0) t323_14 rfl) rfl rfl rfl (by decide)
set_option maxRecDepth 100000 in
set_option maxHeartbeats 4000000 in
theorem e_L_law_715 (x0 : Int) (x1 : Int) (x2 : Int) (x3 : Int) (h : Hq) : vp 323 715 [(2, x0), (2, x1), (2, x2), (0, x3)] [] h = if 0 < x1 ∧ (kd x1).1 = 11 then (vm 123 [(2, x1)] h).bind (fun r2 => if 0 < x2 ∧ (kd x2).1 = 12 then (vm 220 [(2, x2)] r2.2).bind (fun r4 => if (vx r2) = (vx r4) then (vp 323 2128 [(2, x0), (2, x1), (2, x2), (0, x3)] [] r4.2) else (some (some (0, 0), r4.2))) else none) else none := by
  refine s_aload_n (pc1 := 716) (tk (n := 1) t323_14 rfl) rfl rfl rfl ?_
  refine s_call0 (as := [(2, x1)]) (st1 := []) (p1 := 719) (M2 := 123) (tk (n := 2) t323_14 rfl) rfl rfl rfl rfl rfl (fun r2 => ?_)
  refine s_aload_n (pc1 := 720) (tk (n := 3) t323_14 rfl) rfl rfl rfl ?_
  refine s_call0 (as := [(2, x2)]) (st1 := [(0, vx r2)]) (p1 := 723) (M2 := 220) (tk (n := 4) t323_14 rfl) rfl rfl rfl rfl rfl (fun r4 => ?_)
  refine s_ic_eq (pc1 := 726) (pt := 2128) (tk (n := 5) t323_14 rfl) rfl rfl rfl ?_ ?_
  · rfl
  · refine s_iconst (pc1 := 727) (tk (n := 6) t323_14 rfl) rfl rfl  ?_
    exact s_retY (tk (n := 7) t323_14 rfl) rfl rfl rfl (by decide)
set_option maxRecDepth 100000 in
set_option maxHeartbeats 4000000 in
theorem e_L_law_728 (x0 : Int) (x1 : Int) (x2 : Int) (x3 : Int) (h : Hq) : vp 323 728 [(2, x0), (2, x1), (2, x2), (0, x3)] [] h = if x0 = -1 ∧ 0 ≤ (w32 (x3 + 1)) ∧ (w32 (x3 + 1)) < h.2 (-1) (-1) then if x0 = -1 ∧ 0 ≤ (w32 (x3 + 2)) ∧ (w32 (x3 + 2)) < h.2 (-1) (-1) then if 0 < x1 ∧ (kd x1).1 = 11 then (vm 127 [(2, x1), (0, h.2 x0 (w32 (x3 + 1))), (0, h.2 x0 (w32 (x3 + 2)))] h).bind (fun r12 => if x0 = -1 ∧ 0 ≤ (w32 (x3 + 1)) ∧ (w32 (x3 + 1)) < r12.2.2 (-1) (-1) then if x0 = -1 ∧ 0 ≤ (w32 (x3 + 2)) ∧ (w32 (x3 + 2)) < r12.2.2 (-1) (-1) then if 0 < x2 ∧ (kd x2).1 = 12 then (vm 241 [(2, x2), (0, r12.2.2 x0 (w32 (x3 + 1))), (0, r12.2.2 x0 (w32 (x3 + 2)))] r12.2).bind (fun r24 => if (vx r12) = (vx r24) then (vp 323 2128 [(2, x0), (2, x1), (2, x2), (0, x3)] [] r24.2) else (some (some (0, 0), r24.2))) else none else none else none) else none else none else none := by
  refine s_aload_n (pc1 := 729) (tk (n := 8) t323_14 rfl) rfl rfl rfl ?_
  refine s_aload_n (pc1 := 730) (tk (n := 9) t323_14 rfl) rfl rfl rfl ?_
  refine s_iload_n (pc1 := 731) (tk (n := 10) t323_14 rfl) rfl rfl rfl ?_
  refine s_iconst (pc1 := 732) (tk (n := 11) t323_14 rfl) rfl rfl  ?_
  refine s_iadd (pc1 := 733) (tk (n := 12) t323_14 rfl) rfl rfl  ?_
  refine s_iald1 (pc1 := 734) (tk (n := 13) t323_14 rfl) rfl rfl  ?_
  refine s_aload_n (pc1 := 735) (tk (n := 14) t323_14 rfl) rfl rfl rfl ?_
  refine s_iload_n (pc1 := 736) (tk (n := 15) t323_14 rfl) rfl rfl rfl ?_
  refine s_iconst (pc1 := 737) (tk (n := 16) t323_14 rfl) rfl rfl  ?_
  refine s_iadd (pc1 := 738) (tk (n := 17) t323_14 rfl) rfl rfl  ?_
  refine s_iald1 (pc1 := 739) (tk (n := 18) t323_14 rfl) rfl rfl  ?_
  refine s_call0 (as := [(2, x1), (0, h.2 x0 (w32 (x3 + 1))), (0, h.2 x0 (w32 (x3 + 2)))]) (st1 := []) (p1 := 742) (M2 := 127) (tk (n := 19) t323_14 rfl) rfl rfl rfl rfl rfl (fun r12 => ?_)
  refine s_aload_n (pc1 := 743) (tk (n := 20) t323_14 rfl) rfl rfl rfl ?_
  refine s_aload_n (pc1 := 744) (tk (n := 21) t323_14 rfl) rfl rfl rfl ?_
  refine s_iload_n (pc1 := 745) (tk (n := 22) t323_14 rfl) rfl rfl rfl ?_
  refine s_iconst (pc1 := 746) (tk (n := 23) t323_14 rfl) rfl rfl  ?_
  refine s_iadd (pc1 := 747) (tk (n := 24) t323_14 rfl) rfl rfl  ?_
  refine s_iald1 (pc1 := 748) (tk (n := 25) t323_14 rfl) rfl rfl  ?_
  refine s_aload_n (pc1 := 749) (tk (n := 26) t323_14 rfl) rfl rfl rfl ?_
  refine s_iload_n (pc1 := 750) (tk (n := 27) t323_14 rfl) rfl rfl rfl ?_
  refine s_iconst (pc1 := 751) (tk (n := 28) t323_14 rfl) rfl rfl  ?_
  refine s_iadd (pc1 := 752) (tk (n := 29) t323_14 rfl) rfl rfl  ?_
  refine s_iald1 (pc1 := 753) (tk (n := 0) t323_15 rfl) rfl rfl  ?_
  refine s_call0 (as := [(2, x2), (0, r12.2.2 x0 (w32 (x3 + 1))), (0, r12.2.2 x0 (w32 (x3 + 2)))]) (st1 := [(0, vx r12)]) (p1 := 756) (M2 := 241) (tk (n := 1) t323_15 rfl) rfl rfl rfl rfl rfl (fun r24 => ?_)
  refine s_ic_eq (pc1 := 759) (pt := 2128) (tk (n := 2) t323_15 rfl) rfl rfl rfl ?_ ?_
  · rfl
  · refine s_iconst (pc1 := 760) (tk (n := 3) t323_15 rfl) rfl rfl  ?_
    exact s_retY (tk (n := 4) t323_15 rfl) rfl rfl rfl (by decide)
set_option maxRecDepth 100000 in
set_option maxHeartbeats 4000000 in
theorem e_L_law_761 (x0 : Int) (x1 : Int) (x2 : Int) (x3 : Int) (h : Hq) : vp 323 761 [(2, x0), (2, x1), (2, x2), (0, x3)] [] h = if x0 = -1 ∧ 0 ≤ (w32 (x3 + 1)) ∧ (w32 (x3 + 1)) < h.2 (-1) (-1) then if x0 = -1 ∧ 0 ≤ (w32 (x3 + 2)) ∧ (w32 (x3 + 2)) < h.2 (-1) (-1) then if x0 = -1 ∧ 0 ≤ (w32 (x3 + 3)) ∧ (w32 (x3 + 3)) < h.2 (-1) (-1) then if 0 < x1 ∧ (kd x1).1 = 11 then (vm 128 [(2, x1), (0, h.2 x0 (w32 (x3 + 1))), (0, h.2 x0 (w32 (x3 + 2))), (0, h.2 x0 (w32 (x3 + 3)))] h).bind (fun r17 => if x0 = -1 ∧ 0 ≤ (w32 (x3 + 1)) ∧ (w32 (x3 + 1)) < r17.2.2 (-1) (-1) then if x0 = -1 ∧ 0 ≤ (w32 (x3 + 2)) ∧ (w32 (x3 + 2)) < r17.2.2 (-1) (-1) then if x0 = -1 ∧ 0 ≤ (w32 (x3 + 3)) ∧ (w32 (x3 + 3)) < r17.2.2 (-1) (-1) then if 0 < x2 ∧ (kd x2).1 = 12 then (vm 242 [(2, x2), (0, r17.2.2 x0 (w32 (x3 + 1))), (0, r17.2.2 x0 (w32 (x3 + 2))), (0, r17.2.2 x0 (w32 (x3 + 3)))] r17.2).bind (fun r34 => if (vx r17) = (vx r34) then (vp 323 2128 [(2, x0), (2, x1), (2, x2), (0, x3)] [] r34.2) else (some (some (0, 0), r34.2))) else none else none else none else none) else none else none else none else none := by
  refine s_aload_n (pc1 := 762) (tk (n := 5) t323_15 rfl) rfl rfl rfl ?_
  refine s_aload_n (pc1 := 763) (tk (n := 6) t323_15 rfl) rfl rfl rfl ?_
  refine s_iload_n (pc1 := 764) (tk (n := 7) t323_15 rfl) rfl rfl rfl ?_
  refine s_iconst (pc1 := 765) (tk (n := 8) t323_15 rfl) rfl rfl  ?_
  refine s_iadd (pc1 := 766) (tk (n := 9) t323_15 rfl) rfl rfl  ?_
  refine s_iald1 (pc1 := 767) (tk (n := 10) t323_15 rfl) rfl rfl  ?_
  refine s_aload_n (pc1 := 768) (tk (n := 11) t323_15 rfl) rfl rfl rfl ?_
  refine s_iload_n (pc1 := 769) (tk (n := 12) t323_15 rfl) rfl rfl rfl ?_
  refine s_iconst (pc1 := 770) (tk (n := 13) t323_15 rfl) rfl rfl  ?_
  refine s_iadd (pc1 := 771) (tk (n := 14) t323_15 rfl) rfl rfl  ?_
  refine s_iald1 (pc1 := 772) (tk (n := 15) t323_15 rfl) rfl rfl  ?_
  refine s_aload_n (pc1 := 773) (tk (n := 16) t323_15 rfl) rfl rfl rfl ?_
  refine s_iload_n (pc1 := 774) (tk (n := 17) t323_15 rfl) rfl rfl rfl ?_
  refine s_iconst (pc1 := 775) (tk (n := 18) t323_15 rfl) rfl rfl  ?_
  refine s_iadd (pc1 := 776) (tk (n := 19) t323_15 rfl) rfl rfl  ?_
  refine s_iald1 (pc1 := 777) (tk (n := 20) t323_15 rfl) rfl rfl  ?_
  refine s_call0 (as := [(2, x1), (0, h.2 x0 (w32 (x3 + 1))), (0, h.2 x0 (w32 (x3 + 2))), (0, h.2 x0 (w32 (x3 + 3)))]) (st1 := []) (p1 := 780) (M2 := 128) (tk (n := 21) t323_15 rfl) rfl rfl rfl rfl rfl (fun r17 => ?_)
  refine s_aload_n (pc1 := 781) (tk (n := 22) t323_15 rfl) rfl rfl rfl ?_
  refine s_aload_n (pc1 := 782) (tk (n := 23) t323_15 rfl) rfl rfl rfl ?_
  refine s_iload_n (pc1 := 783) (tk (n := 24) t323_15 rfl) rfl rfl rfl ?_
  refine s_iconst (pc1 := 784) (tk (n := 25) t323_15 rfl) rfl rfl  ?_
  refine s_iadd (pc1 := 785) (tk (n := 26) t323_15 rfl) rfl rfl  ?_
  refine s_iald1 (pc1 := 786) (tk (n := 27) t323_15 rfl) rfl rfl  ?_
  refine s_aload_n (pc1 := 787) (tk (n := 28) t323_15 rfl) rfl rfl rfl ?_
  refine s_iload_n (pc1 := 788) (tk (n := 29) t323_15 rfl) rfl rfl rfl ?_
  refine s_iconst (pc1 := 789) (tk (n := 0) t323_16 rfl) rfl rfl  ?_
  refine s_iadd (pc1 := 790) (tk (n := 1) t323_16 rfl) rfl rfl  ?_
  refine s_iald1 (pc1 := 791) (tk (n := 2) t323_16 rfl) rfl rfl  ?_
  refine s_aload_n (pc1 := 792) (tk (n := 3) t323_16 rfl) rfl rfl rfl ?_
  refine s_iload_n (pc1 := 793) (tk (n := 4) t323_16 rfl) rfl rfl rfl ?_
  refine s_iconst (pc1 := 794) (tk (n := 5) t323_16 rfl) rfl rfl  ?_
  refine s_iadd (pc1 := 795) (tk (n := 6) t323_16 rfl) rfl rfl  ?_
  refine s_iald1 (pc1 := 796) (tk (n := 7) t323_16 rfl) rfl rfl  ?_
  refine s_call0 (as := [(2, x2), (0, r17.2.2 x0 (w32 (x3 + 1))), (0, r17.2.2 x0 (w32 (x3 + 2))), (0, r17.2.2 x0 (w32 (x3 + 3)))]) (st1 := [(0, vx r17)]) (p1 := 799) (M2 := 242) (tk (n := 8) t323_16 rfl) rfl rfl rfl rfl rfl (fun r34 => ?_)
  refine s_ic_eq (pc1 := 802) (pt := 2128) (tk (n := 9) t323_16 rfl) rfl rfl rfl ?_ ?_
  · rfl
  · refine s_iconst (pc1 := 803) (tk (n := 10) t323_16 rfl) rfl rfl  ?_
    exact s_retY (tk (n := 11) t323_16 rfl) rfl rfl rfl (by decide)
set_option maxRecDepth 100000 in
set_option maxHeartbeats 4000000 in
theorem e_L_law_804 (x0 : Int) (x1 : Int) (x2 : Int) (x3 : Int) (h : Hq) : vp 323 804 [(2, x0), (2, x1), (2, x2), (0, x3)] [] h = if x0 = -1 ∧ 0 ≤ (w32 (x3 + 1)) ∧ (w32 (x3 + 1)) < h.2 (-1) (-1) then if x0 = -1 ∧ 0 ≤ (w32 (x3 + 2)) ∧ (w32 (x3 + 2)) < h.2 (-1) (-1) then if x0 = -1 ∧ 0 ≤ (w32 (x3 + 3)) ∧ (w32 (x3 + 3)) < h.2 (-1) (-1) then if x0 = -1 ∧ 0 ≤ (w32 (x3 + 4)) ∧ (w32 (x3 + 4)) < h.2 (-1) (-1) then if 0 < x1 ∧ (kd x1).1 = 11 then (vm 129 [(2, x1), (0, h.2 x0 (w32 (x3 + 1))), (0, h.2 x0 (w32 (x3 + 2))), (0, h.2 x0 (w32 (x3 + 3))), (0, h.2 x0 (w32 (x3 + 4)))] h).bind (fun r22 => if x0 = -1 ∧ 0 ≤ (w32 (x3 + 1)) ∧ (w32 (x3 + 1)) < r22.2.2 (-1) (-1) then if x0 = -1 ∧ 0 ≤ (w32 (x3 + 2)) ∧ (w32 (x3 + 2)) < r22.2.2 (-1) (-1) then if x0 = -1 ∧ 0 ≤ (w32 (x3 + 3)) ∧ (w32 (x3 + 3)) < r22.2.2 (-1) (-1) then if x0 = -1 ∧ 0 ≤ (w32 (x3 + 4)) ∧ (w32 (x3 + 4)) < r22.2.2 (-1) (-1) then if 0 < x2 ∧ (kd x2).1 = 12 then (vm 246 [(2, x2), (0, r22.2.2 x0 (w32 (x3 + 1))), (0, r22.2.2 x0 (w32 (x3 + 2))), (0, r22.2.2 x0 (w32 (x3 + 3))), (0, r22.2.2 x0 (w32 (x3 + 4)))] r22.2).bind (fun r44 => if (vx r22) = (vx r44) then (vp 323 2128 [(2, x0), (2, x1), (2, x2), (0, x3)] [] r44.2) else (some (some (0, 0), r44.2))) else none else none else none else none else none) else none else none else none else none else none := by
  refine s_aload_n (pc1 := 805) (tk (n := 12) t323_16 rfl) rfl rfl rfl ?_
  refine s_aload_n (pc1 := 806) (tk (n := 13) t323_16 rfl) rfl rfl rfl ?_
  refine s_iload_n (pc1 := 807) (tk (n := 14) t323_16 rfl) rfl rfl rfl ?_
  refine s_iconst (pc1 := 808) (tk (n := 15) t323_16 rfl) rfl rfl  ?_
  refine s_iadd (pc1 := 809) (tk (n := 16) t323_16 rfl) rfl rfl  ?_
  refine s_iald1 (pc1 := 810) (tk (n := 17) t323_16 rfl) rfl rfl  ?_
  refine s_aload_n (pc1 := 811) (tk (n := 18) t323_16 rfl) rfl rfl rfl ?_
  refine s_iload_n (pc1 := 812) (tk (n := 19) t323_16 rfl) rfl rfl rfl ?_
  refine s_iconst (pc1 := 813) (tk (n := 20) t323_16 rfl) rfl rfl  ?_
  refine s_iadd (pc1 := 814) (tk (n := 21) t323_16 rfl) rfl rfl  ?_
  refine s_iald1 (pc1 := 815) (tk (n := 22) t323_16 rfl) rfl rfl  ?_
  refine s_aload_n (pc1 := 816) (tk (n := 23) t323_16 rfl) rfl rfl rfl ?_
  refine s_iload_n (pc1 := 817) (tk (n := 24) t323_16 rfl) rfl rfl rfl ?_
  refine s_iconst (pc1 := 818) (tk (n := 25) t323_16 rfl) rfl rfl  ?_
  refine s_iadd (pc1 := 819) (tk (n := 26) t323_16 rfl) rfl rfl  ?_
  refine s_iald1 (pc1 := 820) (tk (n := 27) t323_16 rfl) rfl rfl  ?_
  refine s_aload_n (pc1 := 821) (tk (n := 28) t323_16 rfl) rfl rfl rfl ?_
  refine s_iload_n (pc1 := 822) (tk (n := 29) t323_16 rfl) rfl rfl rfl ?_
  refine s_iconst (pc1 := 823) (tk (n := 0) t323_17 rfl) rfl rfl  ?_
  refine s_iadd (pc1 := 824) (tk (n := 1) t323_17 rfl) rfl rfl  ?_
  refine s_iald1 (pc1 := 825) (tk (n := 2) t323_17 rfl) rfl rfl  ?_
  refine s_call0 (as := [(2, x1), (0, h.2 x0 (w32 (x3 + 1))), (0, h.2 x0 (w32 (x3 + 2))), (0, h.2 x0 (w32 (x3 + 3))), (0, h.2 x0 (w32 (x3 + 4)))]) (st1 := []) (p1 := 828) (M2 := 129) (tk (n := 3) t323_17 rfl) rfl rfl rfl rfl rfl (fun r22 => ?_)
  refine s_aload_n (pc1 := 829) (tk (n := 4) t323_17 rfl) rfl rfl rfl ?_
  refine s_aload_n (pc1 := 830) (tk (n := 5) t323_17 rfl) rfl rfl rfl ?_
  refine s_iload_n (pc1 := 831) (tk (n := 6) t323_17 rfl) rfl rfl rfl ?_
  refine s_iconst (pc1 := 832) (tk (n := 7) t323_17 rfl) rfl rfl  ?_
  refine s_iadd (pc1 := 833) (tk (n := 8) t323_17 rfl) rfl rfl  ?_
  refine s_iald1 (pc1 := 834) (tk (n := 9) t323_17 rfl) rfl rfl  ?_
  refine s_aload_n (pc1 := 835) (tk (n := 10) t323_17 rfl) rfl rfl rfl ?_
  refine s_iload_n (pc1 := 836) (tk (n := 11) t323_17 rfl) rfl rfl rfl ?_
  refine s_iconst (pc1 := 837) (tk (n := 12) t323_17 rfl) rfl rfl  ?_
  refine s_iadd (pc1 := 838) (tk (n := 13) t323_17 rfl) rfl rfl  ?_
  refine s_iald1 (pc1 := 839) (tk (n := 14) t323_17 rfl) rfl rfl  ?_
  refine s_aload_n (pc1 := 840) (tk (n := 15) t323_17 rfl) rfl rfl rfl ?_
  refine s_iload_n (pc1 := 841) (tk (n := 16) t323_17 rfl) rfl rfl rfl ?_
  refine s_iconst (pc1 := 842) (tk (n := 17) t323_17 rfl) rfl rfl  ?_
  refine s_iadd (pc1 := 843) (tk (n := 18) t323_17 rfl) rfl rfl  ?_
  refine s_iald1 (pc1 := 844) (tk (n := 19) t323_17 rfl) rfl rfl  ?_
  refine s_aload_n (pc1 := 845) (tk (n := 20) t323_17 rfl) rfl rfl rfl ?_
  refine s_iload_n (pc1 := 846) (tk (n := 21) t323_17 rfl) rfl rfl rfl ?_
  refine s_iconst (pc1 := 847) (tk (n := 22) t323_17 rfl) rfl rfl  ?_
  refine s_iadd (pc1 := 848) (tk (n := 23) t323_17 rfl) rfl rfl  ?_
  refine s_iald1 (pc1 := 849) (tk (n := 24) t323_17 rfl) rfl rfl  ?_
  refine s_call0 (as := [(2, x2), (0, r22.2.2 x0 (w32 (x3 + 1))), (0, r22.2.2 x0 (w32 (x3 + 2))), (0, r22.2.2 x0 (w32 (x3 + 3))), (0, r22.2.2 x0 (w32 (x3 + 4)))]) (st1 := [(0, vx r22)]) (p1 := 852) (M2 := 246) (tk (n := 25) t323_17 rfl) rfl rfl rfl rfl rfl (fun r44 => ?_)
  refine s_ic_eq (pc1 := 855) (pt := 2128) (tk (n := 26) t323_17 rfl) rfl rfl rfl ?_ ?_
  · rfl
  · refine s_iconst (pc1 := 856) (tk (n := 27) t323_17 rfl) rfl rfl  ?_
    exact s_retY (tk (n := 28) t323_17 rfl) rfl rfl rfl (by decide)
set_option maxRecDepth 100000 in
set_option maxHeartbeats 4000000 in
theorem e_L_law_857 (x0 : Int) (x1 : Int) (x2 : Int) (x3 : Int) (h : Hq) : vp 323 857 [(2, x0), (2, x1), (2, x2), (0, x3)] [] h = if x0 = -1 ∧ 0 ≤ (w32 (x3 + 1)) ∧ (w32 (x3 + 1)) < h.2 (-1) (-1) then if x0 = -1 ∧ 0 ≤ (w32 (x3 + 2)) ∧ (w32 (x3 + 2)) < h.2 (-1) (-1) then if x0 = -1 ∧ 0 ≤ (w32 (x3 + 3)) ∧ (w32 (x3 + 3)) < h.2 (-1) (-1) then if 0 < x1 ∧ (kd x1).1 = 11 then (vm 130 [(2, x1), (0, h.2 x0 (w32 (x3 + 1))), (0, h.2 x0 (w32 (x3 + 2))), (0, h.2 x0 (w32 (x3 + 3)))] h).bind (fun r17 => if x0 = -1 ∧ 0 ≤ (w32 (x3 + 1)) ∧ (w32 (x3 + 1)) < r17.2.2 (-1) (-1) then if x0 = -1 ∧ 0 ≤ (w32 (x3 + 2)) ∧ (w32 (x3 + 2)) < r17.2.2 (-1) (-1) then if x0 = -1 ∧ 0 ≤ (w32 (x3 + 3)) ∧ (w32 (x3 + 3)) < r17.2.2 (-1) (-1) then if 0 < x2 ∧ (kd x2).1 = 12 then (vm 247 [(2, x2), (0, r17.2.2 x0 (w32 (x3 + 1))), (0, r17.2.2 x0 (w32 (x3 + 2))), (0, r17.2.2 x0 (w32 (x3 + 3)))] r17.2).bind (fun r34 => if (vx r17) = (vx r34) then (vp 323 2128 [(2, x0), (2, x1), (2, x2), (0, x3)] [] r34.2) else (some (some (0, 0), r34.2))) else none else none else none else none) else none else none else none else none := by
  refine s_aload_n (pc1 := 858) (tk (n := 29) t323_17 rfl) rfl rfl rfl ?_
  refine s_aload_n (pc1 := 859) (tk (n := 0) t323_18 rfl) rfl rfl rfl ?_
  refine s_iload_n (pc1 := 860) (tk (n := 1) t323_18 rfl) rfl rfl rfl ?_
  refine s_iconst (pc1 := 861) (tk (n := 2) t323_18 rfl) rfl rfl  ?_
  refine s_iadd (pc1 := 862) (tk (n := 3) t323_18 rfl) rfl rfl  ?_
  refine s_iald1 (pc1 := 863) (tk (n := 4) t323_18 rfl) rfl rfl  ?_
  refine s_aload_n (pc1 := 864) (tk (n := 5) t323_18 rfl) rfl rfl rfl ?_
  refine s_iload_n (pc1 := 865) (tk (n := 6) t323_18 rfl) rfl rfl rfl ?_
  refine s_iconst (pc1 := 866) (tk (n := 7) t323_18 rfl) rfl rfl  ?_
  refine s_iadd (pc1 := 867) (tk (n := 8) t323_18 rfl) rfl rfl  ?_
  refine s_iald1 (pc1 := 868) (tk (n := 9) t323_18 rfl) rfl rfl  ?_
  refine s_aload_n (pc1 := 869) (tk (n := 10) t323_18 rfl) rfl rfl rfl ?_
  refine s_iload_n (pc1 := 870) (tk (n := 11) t323_18 rfl) rfl rfl rfl ?_
  refine s_iconst (pc1 := 871) (tk (n := 12) t323_18 rfl) rfl rfl  ?_
  refine s_iadd (pc1 := 872) (tk (n := 13) t323_18 rfl) rfl rfl  ?_
  refine s_iald1 (pc1 := 873) (tk (n := 14) t323_18 rfl) rfl rfl  ?_
  refine s_call0 (as := [(2, x1), (0, h.2 x0 (w32 (x3 + 1))), (0, h.2 x0 (w32 (x3 + 2))), (0, h.2 x0 (w32 (x3 + 3)))]) (st1 := []) (p1 := 876) (M2 := 130) (tk (n := 15) t323_18 rfl) rfl rfl rfl rfl rfl (fun r17 => ?_)
  refine s_aload_n (pc1 := 877) (tk (n := 16) t323_18 rfl) rfl rfl rfl ?_
  refine s_aload_n (pc1 := 878) (tk (n := 17) t323_18 rfl) rfl rfl rfl ?_
  refine s_iload_n (pc1 := 879) (tk (n := 18) t323_18 rfl) rfl rfl rfl ?_
  refine s_iconst (pc1 := 880) (tk (n := 19) t323_18 rfl) rfl rfl  ?_
  refine s_iadd (pc1 := 881) (tk (n := 20) t323_18 rfl) rfl rfl  ?_
  refine s_iald1 (pc1 := 882) (tk (n := 21) t323_18 rfl) rfl rfl  ?_
  refine s_aload_n (pc1 := 883) (tk (n := 22) t323_18 rfl) rfl rfl rfl ?_
  refine s_iload_n (pc1 := 884) (tk (n := 23) t323_18 rfl) rfl rfl rfl ?_
  refine s_iconst (pc1 := 885) (tk (n := 24) t323_18 rfl) rfl rfl  ?_
  refine s_iadd (pc1 := 886) (tk (n := 25) t323_18 rfl) rfl rfl  ?_
  refine s_iald1 (pc1 := 887) (tk (n := 26) t323_18 rfl) rfl rfl  ?_
  refine s_aload_n (pc1 := 888) (tk (n := 27) t323_18 rfl) rfl rfl rfl ?_
  refine s_iload_n (pc1 := 889) (tk (n := 28) t323_18 rfl) rfl rfl rfl ?_
  refine s_iconst (pc1 := 890) (tk (n := 29) t323_18 rfl) rfl rfl  ?_
  refine s_iadd (pc1 := 891) (tk (n := 0) t323_19 rfl) rfl rfl  ?_
  refine s_iald1 (pc1 := 892) (tk (n := 1) t323_19 rfl) rfl rfl  ?_
  refine s_call0 (as := [(2, x2), (0, r17.2.2 x0 (w32 (x3 + 1))), (0, r17.2.2 x0 (w32 (x3 + 2))), (0, r17.2.2 x0 (w32 (x3 + 3)))]) (st1 := [(0, vx r17)]) (p1 := 895) (M2 := 247) (tk (n := 2) t323_19 rfl) rfl rfl rfl rfl rfl (fun r34 => ?_)
  refine s_ic_eq (pc1 := 898) (pt := 2128) (tk (n := 3) t323_19 rfl) rfl rfl rfl ?_ ?_
  · rfl
  · refine s_iconst (pc1 := 899) (tk (n := 4) t323_19 rfl) rfl rfl  ?_
    exact s_retY (tk (n := 5) t323_19 rfl) rfl rfl rfl (by decide)
set_option maxRecDepth 100000 in
set_option maxHeartbeats 4000000 in
theorem e_L_law_900 (x0 : Int) (x1 : Int) (x2 : Int) (x3 : Int) (h : Hq) : vp 323 900 [(2, x0), (2, x1), (2, x2), (0, x3)] [] h = if x0 = -1 ∧ 0 ≤ (w32 (x3 + 1)) ∧ (w32 (x3 + 1)) < h.2 (-1) (-1) then if x0 = -1 ∧ 0 ≤ (w32 (x3 + 2)) ∧ (w32 (x3 + 2)) < h.2 (-1) (-1) then if x0 = -1 ∧ 0 ≤ (w32 (x3 + 3)) ∧ (w32 (x3 + 3)) < h.2 (-1) (-1) then if x0 = -1 ∧ 0 ≤ (w32 (x3 + 4)) ∧ (w32 (x3 + 4)) < h.2 (-1) (-1) then if 0 < x1 ∧ (kd x1).1 = 11 then (vm 131 [(2, x1), (0, h.2 x0 (w32 (x3 + 1))), (0, h.2 x0 (w32 (x3 + 2))), (0, h.2 x0 (w32 (x3 + 3))), (0, h.2 x0 (w32 (x3 + 4)))] h).bind (fun r22 => if x0 = -1 ∧ 0 ≤ (w32 (x3 + 1)) ∧ (w32 (x3 + 1)) < r22.2.2 (-1) (-1) then if x0 = -1 ∧ 0 ≤ (w32 (x3 + 2)) ∧ (w32 (x3 + 2)) < r22.2.2 (-1) (-1) then if x0 = -1 ∧ 0 ≤ (w32 (x3 + 3)) ∧ (w32 (x3 + 3)) < r22.2.2 (-1) (-1) then if x0 = -1 ∧ 0 ≤ (w32 (x3 + 4)) ∧ (w32 (x3 + 4)) < r22.2.2 (-1) (-1) then if 0 < x2 ∧ (kd x2).1 = 12 then (vm 250 [(2, x2), (0, r22.2.2 x0 (w32 (x3 + 1))), (0, r22.2.2 x0 (w32 (x3 + 2))), (0, r22.2.2 x0 (w32 (x3 + 3))), (0, r22.2.2 x0 (w32 (x3 + 4)))] r22.2).bind (fun r44 => if (vx r22) = (vx r44) then (vp 323 2128 [(2, x0), (2, x1), (2, x2), (0, x3)] [] r44.2) else (some (some (0, 0), r44.2))) else none else none else none else none else none) else none else none else none else none else none := by
  refine s_aload_n (pc1 := 901) (tk (n := 6) t323_19 rfl) rfl rfl rfl ?_
  refine s_aload_n (pc1 := 902) (tk (n := 7) t323_19 rfl) rfl rfl rfl ?_
  refine s_iload_n (pc1 := 903) (tk (n := 8) t323_19 rfl) rfl rfl rfl ?_
  refine s_iconst (pc1 := 904) (tk (n := 9) t323_19 rfl) rfl rfl  ?_
  refine s_iadd (pc1 := 905) (tk (n := 10) t323_19 rfl) rfl rfl  ?_
  refine s_iald1 (pc1 := 906) (tk (n := 11) t323_19 rfl) rfl rfl  ?_
  refine s_aload_n (pc1 := 907) (tk (n := 12) t323_19 rfl) rfl rfl rfl ?_
  refine s_iload_n (pc1 := 908) (tk (n := 13) t323_19 rfl) rfl rfl rfl ?_
  refine s_iconst (pc1 := 909) (tk (n := 14) t323_19 rfl) rfl rfl  ?_
  refine s_iadd (pc1 := 910) (tk (n := 15) t323_19 rfl) rfl rfl  ?_
  refine s_iald1 (pc1 := 911) (tk (n := 16) t323_19 rfl) rfl rfl  ?_
  refine s_aload_n (pc1 := 912) (tk (n := 17) t323_19 rfl) rfl rfl rfl ?_
  refine s_iload_n (pc1 := 913) (tk (n := 18) t323_19 rfl) rfl rfl rfl ?_
  refine s_iconst (pc1 := 914) (tk (n := 19) t323_19 rfl) rfl rfl  ?_
  refine s_iadd (pc1 := 915) (tk (n := 20) t323_19 rfl) rfl rfl  ?_
  refine s_iald1 (pc1 := 916) (tk (n := 21) t323_19 rfl) rfl rfl  ?_
  refine s_aload_n (pc1 := 917) (tk (n := 22) t323_19 rfl) rfl rfl rfl ?_
  refine s_iload_n (pc1 := 918) (tk (n := 23) t323_19 rfl) rfl rfl rfl ?_
  refine s_iconst (pc1 := 919) (tk (n := 24) t323_19 rfl) rfl rfl  ?_
  refine s_iadd (pc1 := 920) (tk (n := 25) t323_19 rfl) rfl rfl  ?_
  refine s_iald1 (pc1 := 921) (tk (n := 26) t323_19 rfl) rfl rfl  ?_
  refine s_call0 (as := [(2, x1), (0, h.2 x0 (w32 (x3 + 1))), (0, h.2 x0 (w32 (x3 + 2))), (0, h.2 x0 (w32 (x3 + 3))), (0, h.2 x0 (w32 (x3 + 4)))]) (st1 := []) (p1 := 924) (M2 := 131) (tk (n := 27) t323_19 rfl) rfl rfl rfl rfl rfl (fun r22 => ?_)
  refine s_aload_n (pc1 := 925) (tk (n := 28) t323_19 rfl) rfl rfl rfl ?_
  refine s_aload_n (pc1 := 926) (tk (n := 29) t323_19 rfl) rfl rfl rfl ?_
  refine s_iload_n (pc1 := 927) (tk (n := 0) t323_20 rfl) rfl rfl rfl ?_
  refine s_iconst (pc1 := 928) (tk (n := 1) t323_20 rfl) rfl rfl  ?_
  refine s_iadd (pc1 := 929) (tk (n := 2) t323_20 rfl) rfl rfl  ?_
  refine s_iald1 (pc1 := 930) (tk (n := 3) t323_20 rfl) rfl rfl  ?_
  refine s_aload_n (pc1 := 931) (tk (n := 4) t323_20 rfl) rfl rfl rfl ?_
  refine s_iload_n (pc1 := 932) (tk (n := 5) t323_20 rfl) rfl rfl rfl ?_
  refine s_iconst (pc1 := 933) (tk (n := 6) t323_20 rfl) rfl rfl  ?_
  refine s_iadd (pc1 := 934) (tk (n := 7) t323_20 rfl) rfl rfl  ?_
  refine s_iald1 (pc1 := 935) (tk (n := 8) t323_20 rfl) rfl rfl  ?_
  refine s_aload_n (pc1 := 936) (tk (n := 9) t323_20 rfl) rfl rfl rfl ?_
  refine s_iload_n (pc1 := 937) (tk (n := 10) t323_20 rfl) rfl rfl rfl ?_
  refine s_iconst (pc1 := 938) (tk (n := 11) t323_20 rfl) rfl rfl  ?_
  refine s_iadd (pc1 := 939) (tk (n := 12) t323_20 rfl) rfl rfl  ?_
  refine s_iald1 (pc1 := 940) (tk (n := 13) t323_20 rfl) rfl rfl  ?_
  refine s_aload_n (pc1 := 941) (tk (n := 14) t323_20 rfl) rfl rfl rfl ?_
  refine s_iload_n (pc1 := 942) (tk (n := 15) t323_20 rfl) rfl rfl rfl ?_
  refine s_iconst (pc1 := 943) (tk (n := 16) t323_20 rfl) rfl rfl  ?_
  refine s_iadd (pc1 := 944) (tk (n := 17) t323_20 rfl) rfl rfl  ?_
  refine s_iald1 (pc1 := 945) (tk (n := 18) t323_20 rfl) rfl rfl  ?_
  refine s_call0 (as := [(2, x2), (0, r22.2.2 x0 (w32 (x3 + 1))), (0, r22.2.2 x0 (w32 (x3 + 2))), (0, r22.2.2 x0 (w32 (x3 + 3))), (0, r22.2.2 x0 (w32 (x3 + 4)))]) (st1 := [(0, vx r22)]) (p1 := 948) (M2 := 250) (tk (n := 19) t323_20 rfl) rfl rfl rfl rfl rfl (fun r44 => ?_)
  refine s_ic_eq (pc1 := 951) (pt := 2128) (tk (n := 20) t323_20 rfl) rfl rfl rfl ?_ ?_
  · rfl
  · refine s_iconst (pc1 := 952) (tk (n := 21) t323_20 rfl) rfl rfl  ?_
    exact s_retY (tk (n := 22) t323_20 rfl) rfl rfl rfl (by decide)
set_option maxRecDepth 100000 in
set_option maxHeartbeats 4000000 in
theorem e_L_law_953 (x0 : Int) (x1 : Int) (x2 : Int) (x3 : Int) (h : Hq) : vp 323 953 [(2, x0), (2, x1), (2, x2), (0, x3)] [] h = if x0 = -1 ∧ 0 ≤ (w32 (x3 + 1)) ∧ (w32 (x3 + 1)) < h.2 (-1) (-1) then if x0 = -1 ∧ 0 ≤ (w32 (x3 + 2)) ∧ (w32 (x3 + 2)) < h.2 (-1) (-1) then if x0 = -1 ∧ 0 ≤ (w32 (x3 + 3)) ∧ (w32 (x3 + 3)) < h.2 (-1) (-1) then if x0 = -1 ∧ 0 ≤ (w32 (x3 + 4)) ∧ (w32 (x3 + 4)) < h.2 (-1) (-1) then if 0 < x1 ∧ (kd x1).1 = 11 then (vm 132 [(2, x1), (0, h.2 x0 (w32 (x3 + 1))), (0, h.2 x0 (w32 (x3 + 2))), (0, h.2 x0 (w32 (x3 + 3))), (0, h.2 x0 (w32 (x3 + 4)))] h).bind (fun r22 => if x0 = -1 ∧ 0 ≤ (w32 (x3 + 1)) ∧ (w32 (x3 + 1)) < r22.2.2 (-1) (-1) then if x0 = -1 ∧ 0 ≤ (w32 (x3 + 2)) ∧ (w32 (x3 + 2)) < r22.2.2 (-1) (-1) then if x0 = -1 ∧ 0 ≤ (w32 (x3 + 3)) ∧ (w32 (x3 + 3)) < r22.2.2 (-1) (-1) then if x0 = -1 ∧ 0 ≤ (w32 (x3 + 4)) ∧ (w32 (x3 + 4)) < r22.2.2 (-1) (-1) then if 0 < x2 ∧ (kd x2).1 = 12 then (vm 257 [(2, x2), (0, r22.2.2 x0 (w32 (x3 + 1))), (0, r22.2.2 x0 (w32 (x3 + 2))), (0, r22.2.2 x0 (w32 (x3 + 3))), (0, r22.2.2 x0 (w32 (x3 + 4)))] r22.2).bind (fun r44 => if (vx r22) = (vx r44) then (vp 323 2128 [(2, x0), (2, x1), (2, x2), (0, x3)] [] r44.2) else (some (some (0, 0), r44.2))) else none else none else none else none else none) else none else none else none else none else none := by
  refine s_aload_n (pc1 := 954) (tk (n := 23) t323_20 rfl) rfl rfl rfl ?_
  refine s_aload_n (pc1 := 955) (tk (n := 24) t323_20 rfl) rfl rfl rfl ?_
  refine s_iload_n (pc1 := 956) (tk (n := 25) t323_20 rfl) rfl rfl rfl ?_
  refine s_iconst (pc1 := 957) (tk (n := 26) t323_20 rfl) rfl rfl  ?_
  refine s_iadd (pc1 := 958) (tk (n := 27) t323_20 rfl) rfl rfl  ?_
  refine s_iald1 (pc1 := 959) (tk (n := 28) t323_20 rfl) rfl rfl  ?_
  refine s_aload_n (pc1 := 960) (tk (n := 29) t323_20 rfl) rfl rfl rfl ?_
  refine s_iload_n (pc1 := 961) (tk (n := 0) t323_21 rfl) rfl rfl rfl ?_
  refine s_iconst (pc1 := 962) (tk (n := 1) t323_21 rfl) rfl rfl  ?_
  refine s_iadd (pc1 := 963) (tk (n := 2) t323_21 rfl) rfl rfl  ?_
  refine s_iald1 (pc1 := 964) (tk (n := 3) t323_21 rfl) rfl rfl  ?_
  refine s_aload_n (pc1 := 965) (tk (n := 4) t323_21 rfl) rfl rfl rfl ?_
  refine s_iload_n (pc1 := 966) (tk (n := 5) t323_21 rfl) rfl rfl rfl ?_
  refine s_iconst (pc1 := 967) (tk (n := 6) t323_21 rfl) rfl rfl  ?_
  refine s_iadd (pc1 := 968) (tk (n := 7) t323_21 rfl) rfl rfl  ?_
  refine s_iald1 (pc1 := 969) (tk (n := 8) t323_21 rfl) rfl rfl  ?_
  refine s_aload_n (pc1 := 970) (tk (n := 9) t323_21 rfl) rfl rfl rfl ?_
  refine s_iload_n (pc1 := 971) (tk (n := 10) t323_21 rfl) rfl rfl rfl ?_
  refine s_iconst (pc1 := 972) (tk (n := 11) t323_21 rfl) rfl rfl  ?_
  refine s_iadd (pc1 := 973) (tk (n := 12) t323_21 rfl) rfl rfl  ?_
  refine s_iald1 (pc1 := 974) (tk (n := 13) t323_21 rfl) rfl rfl  ?_
  refine s_call0 (as := [(2, x1), (0, h.2 x0 (w32 (x3 + 1))), (0, h.2 x0 (w32 (x3 + 2))), (0, h.2 x0 (w32 (x3 + 3))), (0, h.2 x0 (w32 (x3 + 4)))]) (st1 := []) (p1 := 977) (M2 := 132) (tk (n := 14) t323_21 rfl) rfl rfl rfl rfl rfl (fun r22 => ?_)
  refine s_aload_n (pc1 := 978) (tk (n := 15) t323_21 rfl) rfl rfl rfl ?_
  refine s_aload_n (pc1 := 979) (tk (n := 16) t323_21 rfl) rfl rfl rfl ?_
  refine s_iload_n (pc1 := 980) (tk (n := 17) t323_21 rfl) rfl rfl rfl ?_
  refine s_iconst (pc1 := 981) (tk (n := 18) t323_21 rfl) rfl rfl  ?_
  refine s_iadd (pc1 := 982) (tk (n := 19) t323_21 rfl) rfl rfl  ?_
  refine s_iald1 (pc1 := 983) (tk (n := 20) t323_21 rfl) rfl rfl  ?_
  refine s_aload_n (pc1 := 984) (tk (n := 21) t323_21 rfl) rfl rfl rfl ?_
  refine s_iload_n (pc1 := 985) (tk (n := 22) t323_21 rfl) rfl rfl rfl ?_
  refine s_iconst (pc1 := 986) (tk (n := 23) t323_21 rfl) rfl rfl  ?_
  refine s_iadd (pc1 := 987) (tk (n := 24) t323_21 rfl) rfl rfl  ?_
  refine s_iald1 (pc1 := 988) (tk (n := 25) t323_21 rfl) rfl rfl  ?_
  refine s_aload_n (pc1 := 989) (tk (n := 26) t323_21 rfl) rfl rfl rfl ?_
  refine s_iload_n (pc1 := 990) (tk (n := 27) t323_21 rfl) rfl rfl rfl ?_
  refine s_iconst (pc1 := 991) (tk (n := 28) t323_21 rfl) rfl rfl  ?_
  refine s_iadd (pc1 := 992) (tk (n := 29) t323_21 rfl) rfl rfl  ?_
  refine s_iald1 (pc1 := 993) (tk (n := 0) t323_22 rfl) rfl rfl  ?_
  refine s_aload_n (pc1 := 994) (tk (n := 1) t323_22 rfl) rfl rfl rfl ?_
  refine s_iload_n (pc1 := 995) (tk (n := 2) t323_22 rfl) rfl rfl rfl ?_
  refine s_iconst (pc1 := 996) (tk (n := 3) t323_22 rfl) rfl rfl  ?_
  refine s_iadd (pc1 := 997) (tk (n := 4) t323_22 rfl) rfl rfl  ?_
  refine s_iald1 (pc1 := 998) (tk (n := 5) t323_22 rfl) rfl rfl  ?_
  refine s_call0 (as := [(2, x2), (0, r22.2.2 x0 (w32 (x3 + 1))), (0, r22.2.2 x0 (w32 (x3 + 2))), (0, r22.2.2 x0 (w32 (x3 + 3))), (0, r22.2.2 x0 (w32 (x3 + 4)))]) (st1 := [(0, vx r22)]) (p1 := 1001) (M2 := 257) (tk (n := 6) t323_22 rfl) rfl rfl rfl rfl rfl (fun r44 => ?_)
  refine s_ic_eq (pc1 := 1004) (pt := 2128) (tk (n := 7) t323_22 rfl) rfl rfl rfl ?_ ?_
  · rfl
  · refine s_iconst (pc1 := 1005) (tk (n := 8) t323_22 rfl) rfl rfl  ?_
    exact s_retY (tk (n := 9) t323_22 rfl) rfl rfl rfl (by decide)
set_option maxRecDepth 100000 in
set_option maxHeartbeats 4000000 in
theorem e_L_law_1006 (x0 : Int) (x1 : Int) (x2 : Int) (x3 : Int) (h : Hq) : vp 323 1006 [(2, x0), (2, x1), (2, x2), (0, x3)] [] h = if x0 = -1 ∧ 0 ≤ (w32 (x3 + 1)) ∧ (w32 (x3 + 1)) < h.2 (-1) (-1) then if x0 = -1 ∧ 0 ≤ (w32 (x3 + 2)) ∧ (w32 (x3 + 2)) < h.2 (-1) (-1) then if x0 = -1 ∧ 0 ≤ (w32 (x3 + 3)) ∧ (w32 (x3 + 3)) < h.2 (-1) (-1) then if x0 = -1 ∧ 0 ≤ (w32 (x3 + 4)) ∧ (w32 (x3 + 4)) < h.2 (-1) (-1) then if 0 < x1 ∧ (kd x1).1 = 11 then (vm 133 [(2, x1), (0, h.2 x0 (w32 (x3 + 1))), (0, h.2 x0 (w32 (x3 + 2))), (0, h.2 x0 (w32 (x3 + 3))), (0, h.2 x0 (w32 (x3 + 4)))] h).bind (fun r22 => if x0 = -1 ∧ 0 ≤ (w32 (x3 + 1)) ∧ (w32 (x3 + 1)) < r22.2.2 (-1) (-1) then if x0 = -1 ∧ 0 ≤ (w32 (x3 + 2)) ∧ (w32 (x3 + 2)) < r22.2.2 (-1) (-1) then if x0 = -1 ∧ 0 ≤ (w32 (x3 + 3)) ∧ (w32 (x3 + 3)) < r22.2.2 (-1) (-1) then if x0 = -1 ∧ 0 ≤ (w32 (x3 + 4)) ∧ (w32 (x3 + 4)) < r22.2.2 (-1) (-1) then if 0 < x2 ∧ (kd x2).1 = 12 then (vm 259 [(2, x2), (0, r22.2.2 x0 (w32 (x3 + 1))), (0, r22.2.2 x0 (w32 (x3 + 2))), (0, r22.2.2 x0 (w32 (x3 + 3))), (0, r22.2.2 x0 (w32 (x3 + 4)))] r22.2).bind (fun r44 => if (vx r22) = (vx r44) then (vp 323 2128 [(2, x0), (2, x1), (2, x2), (0, x3)] [] r44.2) else (some (some (0, 0), r44.2))) else none else none else none else none else none) else none else none else none else none else none := by
  refine s_aload_n (pc1 := 1007) (tk (n := 10) t323_22 rfl) rfl rfl rfl ?_
  refine s_aload_n (pc1 := 1008) (tk (n := 11) t323_22 rfl) rfl rfl rfl ?_
  refine s_iload_n (pc1 := 1009) (tk (n := 12) t323_22 rfl) rfl rfl rfl ?_
  refine s_iconst (pc1 := 1010) (tk (n := 13) t323_22 rfl) rfl rfl  ?_
  refine s_iadd (pc1 := 1011) (tk (n := 14) t323_22 rfl) rfl rfl  ?_
  refine s_iald1 (pc1 := 1012) (tk (n := 15) t323_22 rfl) rfl rfl  ?_
  refine s_aload_n (pc1 := 1013) (tk (n := 16) t323_22 rfl) rfl rfl rfl ?_
  refine s_iload_n (pc1 := 1014) (tk (n := 17) t323_22 rfl) rfl rfl rfl ?_
  refine s_iconst (pc1 := 1015) (tk (n := 18) t323_22 rfl) rfl rfl  ?_
  refine s_iadd (pc1 := 1016) (tk (n := 19) t323_22 rfl) rfl rfl  ?_
  refine s_iald1 (pc1 := 1017) (tk (n := 20) t323_22 rfl) rfl rfl  ?_
  refine s_aload_n (pc1 := 1018) (tk (n := 21) t323_22 rfl) rfl rfl rfl ?_
  refine s_iload_n (pc1 := 1019) (tk (n := 22) t323_22 rfl) rfl rfl rfl ?_
  refine s_iconst (pc1 := 1020) (tk (n := 23) t323_22 rfl) rfl rfl  ?_
  refine s_iadd (pc1 := 1021) (tk (n := 24) t323_22 rfl) rfl rfl  ?_
  refine s_iald1 (pc1 := 1022) (tk (n := 25) t323_22 rfl) rfl rfl  ?_
  refine s_aload_n (pc1 := 1023) (tk (n := 26) t323_22 rfl) rfl rfl rfl ?_
  refine s_iload_n (pc1 := 1024) (tk (n := 27) t323_22 rfl) rfl rfl rfl ?_
  refine s_iconst (pc1 := 1025) (tk (n := 28) t323_22 rfl) rfl rfl  ?_
  refine s_iadd (pc1 := 1026) (tk (n := 29) t323_22 rfl) rfl rfl  ?_
  refine s_iald1 (pc1 := 1027) (tk (n := 0) t323_23 rfl) rfl rfl  ?_
  refine s_call0 (as := [(2, x1), (0, h.2 x0 (w32 (x3 + 1))), (0, h.2 x0 (w32 (x3 + 2))), (0, h.2 x0 (w32 (x3 + 3))), (0, h.2 x0 (w32 (x3 + 4)))]) (st1 := []) (p1 := 1030) (M2 := 133) (tk (n := 1) t323_23 rfl) rfl rfl rfl rfl rfl (fun r22 => ?_)
  refine s_aload_n (pc1 := 1031) (tk (n := 2) t323_23 rfl) rfl rfl rfl ?_
  refine s_aload_n (pc1 := 1032) (tk (n := 3) t323_23 rfl) rfl rfl rfl ?_
  refine s_iload_n (pc1 := 1033) (tk (n := 4) t323_23 rfl) rfl rfl rfl ?_
  refine s_iconst (pc1 := 1034) (tk (n := 5) t323_23 rfl) rfl rfl  ?_
  refine s_iadd (pc1 := 1035) (tk (n := 6) t323_23 rfl) rfl rfl  ?_
  refine s_iald1 (pc1 := 1036) (tk (n := 7) t323_23 rfl) rfl rfl  ?_
  refine s_aload_n (pc1 := 1037) (tk (n := 8) t323_23 rfl) rfl rfl rfl ?_
  refine s_iload_n (pc1 := 1038) (tk (n := 9) t323_23 rfl) rfl rfl rfl ?_
  refine s_iconst (pc1 := 1039) (tk (n := 10) t323_23 rfl) rfl rfl  ?_
  refine s_iadd (pc1 := 1040) (tk (n := 11) t323_23 rfl) rfl rfl  ?_
  refine s_iald1 (pc1 := 1041) (tk (n := 12) t323_23 rfl) rfl rfl  ?_
  refine s_aload_n (pc1 := 1042) (tk (n := 13) t323_23 rfl) rfl rfl rfl ?_
  refine s_iload_n (pc1 := 1043) (tk (n := 14) t323_23 rfl) rfl rfl rfl ?_
  refine s_iconst (pc1 := 1044) (tk (n := 15) t323_23 rfl) rfl rfl  ?_
  refine s_iadd (pc1 := 1045) (tk (n := 16) t323_23 rfl) rfl rfl  ?_
  refine s_iald1 (pc1 := 1046) (tk (n := 17) t323_23 rfl) rfl rfl  ?_
  refine s_aload_n (pc1 := 1047) (tk (n := 18) t323_23 rfl) rfl rfl rfl ?_
  refine s_iload_n (pc1 := 1048) (tk (n := 19) t323_23 rfl) rfl rfl rfl ?_
  refine s_iconst (pc1 := 1049) (tk (n := 20) t323_23 rfl) rfl rfl  ?_
  refine s_iadd (pc1 := 1050) (tk (n := 21) t323_23 rfl) rfl rfl  ?_
  refine s_iald1 (pc1 := 1051) (tk (n := 22) t323_23 rfl) rfl rfl  ?_
  refine s_call0 (as := [(2, x2), (0, r22.2.2 x0 (w32 (x3 + 1))), (0, r22.2.2 x0 (w32 (x3 + 2))), (0, r22.2.2 x0 (w32 (x3 + 3))), (0, r22.2.2 x0 (w32 (x3 + 4)))]) (st1 := [(0, vx r22)]) (p1 := 1054) (M2 := 259) (tk (n := 23) t323_23 rfl) rfl rfl rfl rfl rfl (fun r44 => ?_)
  refine s_ic_eq (pc1 := 1057) (pt := 2128) (tk (n := 24) t323_23 rfl) rfl rfl rfl ?_ ?_
  · rfl
  · refine s_iconst (pc1 := 1058) (tk (n := 25) t323_23 rfl) rfl rfl  ?_
    exact s_retY (tk (n := 26) t323_23 rfl) rfl rfl rfl (by decide)
set_option maxRecDepth 100000 in
set_option maxHeartbeats 4000000 in
theorem e_L_law_1059 (x0 : Int) (x1 : Int) (x2 : Int) (x3 : Int) (h : Hq) : vp 323 1059 [(2, x0), (2, x1), (2, x2), (0, x3)] [] h = if x0 = -1 ∧ 0 ≤ (w32 (x3 + 1)) ∧ (w32 (x3 + 1)) < h.2 (-1) (-1) then if 0 < x1 ∧ (kd x1).1 = 11 then (vm 134 [(2, x1), (0, h.2 x0 (w32 (x3 + 1)))] h).bind (fun r7 => if x0 = -1 ∧ 0 ≤ (w32 (x3 + 1)) ∧ (w32 (x3 + 1)) < r7.2.2 (-1) (-1) then if 0 < x2 ∧ (kd x2).1 = 12 then (vm 260 [(2, x2), (0, r7.2.2 x0 (w32 (x3 + 1)))] r7.2).bind (fun r14 => if (vx r7) = (vx r14) then (vp 323 2128 [(2, x0), (2, x1), (2, x2), (0, x3)] [] r14.2) else (some (some (0, 0), r14.2))) else none else none) else none else none := by
  refine s_aload_n (pc1 := 1060) (tk (n := 27) t323_23 rfl) rfl rfl rfl ?_
  refine s_aload_n (pc1 := 1061) (tk (n := 28) t323_23 rfl) rfl rfl rfl ?_
  refine s_iload_n (pc1 := 1062) (tk (n := 29) t323_23 rfl) rfl rfl rfl ?_
  refine s_iconst (pc1 := 1063) (tk (n := 0) t323_24 rfl) rfl rfl  ?_
  refine s_iadd (pc1 := 1064) (tk (n := 1) t323_24 rfl) rfl rfl  ?_
  refine s_iald1 (pc1 := 1065) (tk (n := 2) t323_24 rfl) rfl rfl  ?_
  refine s_call0 (as := [(2, x1), (0, h.2 x0 (w32 (x3 + 1)))]) (st1 := []) (p1 := 1068) (M2 := 134) (tk (n := 3) t323_24 rfl) rfl rfl rfl rfl rfl (fun r7 => ?_)
  refine s_aload_n (pc1 := 1069) (tk (n := 4) t323_24 rfl) rfl rfl rfl ?_
  refine s_aload_n (pc1 := 1070) (tk (n := 5) t323_24 rfl) rfl rfl rfl ?_
  refine s_iload_n (pc1 := 1071) (tk (n := 6) t323_24 rfl) rfl rfl rfl ?_
  refine s_iconst (pc1 := 1072) (tk (n := 7) t323_24 rfl) rfl rfl  ?_
  refine s_iadd (pc1 := 1073) (tk (n := 8) t323_24 rfl) rfl rfl  ?_
  refine s_iald1 (pc1 := 1074) (tk (n := 9) t323_24 rfl) rfl rfl  ?_
  refine s_call0 (as := [(2, x2), (0, r7.2.2 x0 (w32 (x3 + 1)))]) (st1 := [(0, vx r7)]) (p1 := 1077) (M2 := 260) (tk (n := 10) t323_24 rfl) rfl rfl rfl rfl rfl (fun r14 => ?_)
  refine s_ic_eq (pc1 := 1080) (pt := 2128) (tk (n := 11) t323_24 rfl) rfl rfl rfl ?_ ?_
  · rfl
  · refine s_iconst (pc1 := 1081) (tk (n := 12) t323_24 rfl) rfl rfl  ?_
    exact s_retY (tk (n := 13) t323_24 rfl) rfl rfl rfl (by decide)
set_option maxRecDepth 100000 in
set_option maxHeartbeats 4000000 in
theorem e_L_law_1082 (x0 : Int) (x1 : Int) (x2 : Int) (x3 : Int) (h : Hq) : vp 323 1082 [(2, x0), (2, x1), (2, x2), (0, x3)] [] h = if x0 = -1 ∧ 0 ≤ (w32 (x3 + 1)) ∧ (w32 (x3 + 1)) < h.2 (-1) (-1) then if x0 = -1 ∧ 0 ≤ (w32 (x3 + 2)) ∧ (w32 (x3 + 2)) < h.2 (-1) (-1) then if x0 = -1 ∧ 0 ≤ (w32 (x3 + 3)) ∧ (w32 (x3 + 3)) < h.2 (-1) (-1) then if 0 < x1 ∧ (kd x1).1 = 11 then (vm 136 [(2, x1), (0, h.2 x0 (w32 (x3 + 1))), (0, h.2 x0 (w32 (x3 + 2))), (0, h.2 x0 (w32 (x3 + 3)))] h).bind (fun r17 => if x0 = -1 ∧ 0 ≤ (w32 (x3 + 1)) ∧ (w32 (x3 + 1)) < r17.2.2 (-1) (-1) then if x0 = -1 ∧ 0 ≤ (w32 (x3 + 2)) ∧ (w32 (x3 + 2)) < r17.2.2 (-1) (-1) then if x0 = -1 ∧ 0 ≤ (w32 (x3 + 3)) ∧ (w32 (x3 + 3)) < r17.2.2 (-1) (-1) then if 0 < x2 ∧ (kd x2).1 = 12 then (vm 264 [(2, x2), (0, r17.2.2 x0 (w32 (x3 + 1))), (0, r17.2.2 x0 (w32 (x3 + 2))), (0, r17.2.2 x0 (w32 (x3 + 3)))] r17.2).bind (fun r34 => if (vx r17) = (vx r34) then (vp 323 2128 [(2, x0), (2, x1), (2, x2), (0, x3)] [] r34.2) else (some (some (0, 0), r34.2))) else none else none else none else none) else none else none else none else none := by
  refine s_aload_n (pc1 := 1083) (tk (n := 14) t323_24 rfl) rfl rfl rfl ?_
  refine s_aload_n (pc1 := 1084) (tk (n := 15) t323_24 rfl) rfl rfl rfl ?_
  refine s_iload_n (pc1 := 1085) (tk (n := 16) t323_24 rfl) rfl rfl rfl ?_
  refine s_iconst (pc1 := 1086) (tk (n := 17) t323_24 rfl) rfl rfl  ?_
  refine s_iadd (pc1 := 1087) (tk (n := 18) t323_24 rfl) rfl rfl  ?_
  refine s_iald1 (pc1 := 1088) (tk (n := 19) t323_24 rfl) rfl rfl  ?_
  refine s_aload_n (pc1 := 1089) (tk (n := 20) t323_24 rfl) rfl rfl rfl ?_
  refine s_iload_n (pc1 := 1090) (tk (n := 21) t323_24 rfl) rfl rfl rfl ?_
  refine s_iconst (pc1 := 1091) (tk (n := 22) t323_24 rfl) rfl rfl  ?_
  refine s_iadd (pc1 := 1092) (tk (n := 23) t323_24 rfl) rfl rfl  ?_
  refine s_iald1 (pc1 := 1093) (tk (n := 24) t323_24 rfl) rfl rfl  ?_
  refine s_aload_n (pc1 := 1094) (tk (n := 25) t323_24 rfl) rfl rfl rfl ?_
  refine s_iload_n (pc1 := 1095) (tk (n := 26) t323_24 rfl) rfl rfl rfl ?_
  refine s_iconst (pc1 := 1096) (tk (n := 27) t323_24 rfl) rfl rfl  ?_
  refine s_iadd (pc1 := 1097) (tk (n := 28) t323_24 rfl) rfl rfl  ?_
  refine s_iald1 (pc1 := 1098) (tk (n := 29) t323_24 rfl) rfl rfl  ?_
  refine s_call0 (as := [(2, x1), (0, h.2 x0 (w32 (x3 + 1))), (0, h.2 x0 (w32 (x3 + 2))), (0, h.2 x0 (w32 (x3 + 3)))]) (st1 := []) (p1 := 1101) (M2 := 136) (tk (n := 0) t323_25 rfl) rfl rfl rfl rfl rfl (fun r17 => ?_)
  refine s_aload_n (pc1 := 1102) (tk (n := 1) t323_25 rfl) rfl rfl rfl ?_
  refine s_aload_n (pc1 := 1103) (tk (n := 2) t323_25 rfl) rfl rfl rfl ?_
  refine s_iload_n (pc1 := 1104) (tk (n := 3) t323_25 rfl) rfl rfl rfl ?_
  refine s_iconst (pc1 := 1105) (tk (n := 4) t323_25 rfl) rfl rfl  ?_
  refine s_iadd (pc1 := 1106) (tk (n := 5) t323_25 rfl) rfl rfl  ?_
  refine s_iald1 (pc1 := 1107) (tk (n := 6) t323_25 rfl) rfl rfl  ?_
  refine s_aload_n (pc1 := 1108) (tk (n := 7) t323_25 rfl) rfl rfl rfl ?_
  refine s_iload_n (pc1 := 1109) (tk (n := 8) t323_25 rfl) rfl rfl rfl ?_
  refine s_iconst (pc1 := 1110) (tk (n := 9) t323_25 rfl) rfl rfl  ?_
  refine s_iadd (pc1 := 1111) (tk (n := 10) t323_25 rfl) rfl rfl  ?_
  refine s_iald1 (pc1 := 1112) (tk (n := 11) t323_25 rfl) rfl rfl  ?_
  refine s_aload_n (pc1 := 1113) (tk (n := 12) t323_25 rfl) rfl rfl rfl ?_
  refine s_iload_n (pc1 := 1114) (tk (n := 13) t323_25 rfl) rfl rfl rfl ?_
  refine s_iconst (pc1 := 1115) (tk (n := 14) t323_25 rfl) rfl rfl  ?_
  refine s_iadd (pc1 := 1116) (tk (n := 15) t323_25 rfl) rfl rfl  ?_
  refine s_iald1 (pc1 := 1117) (tk (n := 16) t323_25 rfl) rfl rfl  ?_
  refine s_call0 (as := [(2, x2), (0, r17.2.2 x0 (w32 (x3 + 1))), (0, r17.2.2 x0 (w32 (x3 + 2))), (0, r17.2.2 x0 (w32 (x3 + 3)))]) (st1 := [(0, vx r17)]) (p1 := 1120) (M2 := 264) (tk (n := 17) t323_25 rfl) rfl rfl rfl rfl rfl (fun r34 => ?_)
  refine s_ic_eq (pc1 := 1123) (pt := 2128) (tk (n := 18) t323_25 rfl) rfl rfl rfl ?_ ?_
  · rfl
  · refine s_iconst (pc1 := 1124) (tk (n := 19) t323_25 rfl) rfl rfl  ?_
    exact s_retY (tk (n := 20) t323_25 rfl) rfl rfl rfl (by decide)
set_option maxRecDepth 100000 in
set_option maxHeartbeats 4000000 in
theorem e_L_law_1125 (x0 : Int) (x1 : Int) (x2 : Int) (x3 : Int) (h : Hq) : vp 323 1125 [(2, x0), (2, x1), (2, x2), (0, x3)] [] h = if x0 = -1 ∧ 0 ≤ (w32 (x3 + 1)) ∧ (w32 (x3 + 1)) < h.2 (-1) (-1) then if x0 = -1 ∧ 0 ≤ (w32 (x3 + 2)) ∧ (w32 (x3 + 2)) < h.2 (-1) (-1) then if x0 = -1 ∧ 0 ≤ (w32 (x3 + 3)) ∧ (w32 (x3 + 3)) < h.2 (-1) (-1) then if x0 = -1 ∧ 0 ≤ (w32 (x3 + 4)) ∧ (w32 (x3 + 4)) < h.2 (-1) (-1) then if 0 < x1 ∧ (kd x1).1 = 11 then (vm 138 [(2, x1), (0, h.2 x0 (w32 (x3 + 1))), (0, h.2 x0 (w32 (x3 + 2))), (0, h.2 x0 (w32 (x3 + 3))), (0, h.2 x0 (w32 (x3 + 4)))] h).bind (fun r22 => if x0 = -1 ∧ 0 ≤ (w32 (x3 + 1)) ∧ (w32 (x3 + 1)) < r22.2.2 (-1) (-1) then if x0 = -1 ∧ 0 ≤ (w32 (x3 + 2)) ∧ (w32 (x3 + 2)) < r22.2.2 (-1) (-1) then if x0 = -1 ∧ 0 ≤ (w32 (x3 + 3)) ∧ (w32 (x3 + 3)) < r22.2.2 (-1) (-1) then if x0 = -1 ∧ 0 ≤ (w32 (x3 + 4)) ∧ (w32 (x3 + 4)) < r22.2.2 (-1) (-1) then if 0 < x2 ∧ (kd x2).1 = 12 then (vm 267 [(2, x2), (0, r22.2.2 x0 (w32 (x3 + 1))), (0, r22.2.2 x0 (w32 (x3 + 2))), (0, r22.2.2 x0 (w32 (x3 + 3))), (0, r22.2.2 x0 (w32 (x3 + 4)))] r22.2).bind (fun r44 => if (vx r22) = (vx r44) then (vp 323 2128 [(2, x0), (2, x1), (2, x2), (0, x3)] [] r44.2) else (some (some (0, 0), r44.2))) else none else none else none else none else none) else none else none else none else none else none := by
  refine s_aload_n (pc1 := 1126) (tk (n := 21) t323_25 rfl) rfl rfl rfl ?_
  refine s_aload_n (pc1 := 1127) (tk (n := 22) t323_25 rfl) rfl rfl rfl ?_
  refine s_iload_n (pc1 := 1128) (tk (n := 23) t323_25 rfl) rfl rfl rfl ?_
  refine s_iconst (pc1 := 1129) (tk (n := 24) t323_25 rfl) rfl rfl  ?_
  refine s_iadd (pc1 := 1130) (tk (n := 25) t323_25 rfl) rfl rfl  ?_
  refine s_iald1 (pc1 := 1131) (tk (n := 26) t323_25 rfl) rfl rfl  ?_
  refine s_aload_n (pc1 := 1132) (tk (n := 27) t323_25 rfl) rfl rfl rfl ?_
  refine s_iload_n (pc1 := 1133) (tk (n := 28) t323_25 rfl) rfl rfl rfl ?_
  refine s_iconst (pc1 := 1134) (tk (n := 29) t323_25 rfl) rfl rfl  ?_
  refine s_iadd (pc1 := 1135) (tk (n := 0) t323_26 rfl) rfl rfl  ?_
  refine s_iald1 (pc1 := 1136) (tk (n := 1) t323_26 rfl) rfl rfl  ?_
  refine s_aload_n (pc1 := 1137) (tk (n := 2) t323_26 rfl) rfl rfl rfl ?_
  refine s_iload_n (pc1 := 1138) (tk (n := 3) t323_26 rfl) rfl rfl rfl ?_
  refine s_iconst (pc1 := 1139) (tk (n := 4) t323_26 rfl) rfl rfl  ?_
  refine s_iadd (pc1 := 1140) (tk (n := 5) t323_26 rfl) rfl rfl  ?_
  refine s_iald1 (pc1 := 1141) (tk (n := 6) t323_26 rfl) rfl rfl  ?_
  refine s_aload_n (pc1 := 1142) (tk (n := 7) t323_26 rfl) rfl rfl rfl ?_
  refine s_iload_n (pc1 := 1143) (tk (n := 8) t323_26 rfl) rfl rfl rfl ?_
  refine s_iconst (pc1 := 1144) (tk (n := 9) t323_26 rfl) rfl rfl  ?_
  refine s_iadd (pc1 := 1145) (tk (n := 10) t323_26 rfl) rfl rfl  ?_
  refine s_iald1 (pc1 := 1146) (tk (n := 11) t323_26 rfl) rfl rfl  ?_
  refine s_call0 (as := [(2, x1), (0, h.2 x0 (w32 (x3 + 1))), (0, h.2 x0 (w32 (x3 + 2))), (0, h.2 x0 (w32 (x3 + 3))), (0, h.2 x0 (w32 (x3 + 4)))]) (st1 := []) (p1 := 1149) (M2 := 138) (tk (n := 12) t323_26 rfl) rfl rfl rfl rfl rfl (fun r22 => ?_)
  refine s_aload_n (pc1 := 1150) (tk (n := 13) t323_26 rfl) rfl rfl rfl ?_
  refine s_aload_n (pc1 := 1151) (tk (n := 14) t323_26 rfl) rfl rfl rfl ?_
  refine s_iload_n (pc1 := 1152) (tk (n := 15) t323_26 rfl) rfl rfl rfl ?_
  refine s_iconst (pc1 := 1153) (tk (n := 16) t323_26 rfl) rfl rfl  ?_
  refine s_iadd (pc1 := 1154) (tk (n := 17) t323_26 rfl) rfl rfl  ?_
  refine s_iald1 (pc1 := 1155) (tk (n := 18) t323_26 rfl) rfl rfl  ?_
  refine s_aload_n (pc1 := 1156) (tk (n := 19) t323_26 rfl) rfl rfl rfl ?_
  refine s_iload_n (pc1 := 1157) (tk (n := 20) t323_26 rfl) rfl rfl rfl ?_
  refine s_iconst (pc1 := 1158) (tk (n := 21) t323_26 rfl) rfl rfl  ?_
  refine s_iadd (pc1 := 1159) (tk (n := 22) t323_26 rfl) rfl rfl  ?_
  refine s_iald1 (pc1 := 1160) (tk (n := 23) t323_26 rfl) rfl rfl  ?_
  refine s_aload_n (pc1 := 1161) (tk (n := 24) t323_26 rfl) rfl rfl rfl ?_
  refine s_iload_n (pc1 := 1162) (tk (n := 25) t323_26 rfl) rfl rfl rfl ?_
  refine s_iconst (pc1 := 1163) (tk (n := 26) t323_26 rfl) rfl rfl  ?_
  refine s_iadd (pc1 := 1164) (tk (n := 27) t323_26 rfl) rfl rfl  ?_
  refine s_iald1 (pc1 := 1165) (tk (n := 28) t323_26 rfl) rfl rfl  ?_
  refine s_aload_n (pc1 := 1166) (tk (n := 29) t323_26 rfl) rfl rfl rfl ?_
  refine s_iload_n (pc1 := 1167) (tk (n := 0) t323_27 rfl) rfl rfl rfl ?_
  refine s_iconst (pc1 := 1168) (tk (n := 1) t323_27 rfl) rfl rfl  ?_
  refine s_iadd (pc1 := 1169) (tk (n := 2) t323_27 rfl) rfl rfl  ?_
  refine s_iald1 (pc1 := 1170) (tk (n := 3) t323_27 rfl) rfl rfl  ?_
  refine s_call0 (as := [(2, x2), (0, r22.2.2 x0 (w32 (x3 + 1))), (0, r22.2.2 x0 (w32 (x3 + 2))), (0, r22.2.2 x0 (w32 (x3 + 3))), (0, r22.2.2 x0 (w32 (x3 + 4)))]) (st1 := [(0, vx r22)]) (p1 := 1173) (M2 := 267) (tk (n := 4) t323_27 rfl) rfl rfl rfl rfl rfl (fun r44 => ?_)
  refine s_ic_eq (pc1 := 1176) (pt := 2128) (tk (n := 5) t323_27 rfl) rfl rfl rfl ?_ ?_
  · rfl
  · refine s_iconst (pc1 := 1177) (tk (n := 6) t323_27 rfl) rfl rfl  ?_
    exact s_retY (tk (n := 7) t323_27 rfl) rfl rfl rfl (by decide)
set_option maxRecDepth 100000 in
set_option maxHeartbeats 4000000 in
theorem e_L_law_1178 (x0 : Int) (x1 : Int) (x2 : Int) (x3 : Int) (h : Hq) : vp 323 1178 [(2, x0), (2, x1), (2, x2), (0, x3)] [] h = if x0 = -1 ∧ 0 ≤ (w32 (x3 + 1)) ∧ (w32 (x3 + 1)) < h.2 (-1) (-1) then if x0 = -1 ∧ 0 ≤ (w32 (x3 + 2)) ∧ (w32 (x3 + 2)) < h.2 (-1) (-1) then if x0 = -1 ∧ 0 ≤ (w32 (x3 + 3)) ∧ (w32 (x3 + 3)) < h.2 (-1) (-1) then if x0 = -1 ∧ 0 ≤ (w32 (x3 + 4)) ∧ (w32 (x3 + 4)) < h.2 (-1) (-1) then if 0 < x1 ∧ (kd x1).1 = 11 then (vm 139 [(2, x1), (0, h.2 x0 (w32 (x3 + 1))), (0, h.2 x0 (w32 (x3 + 2))), (0, h.2 x0 (w32 (x3 + 3))), (0, h.2 x0 (w32 (x3 + 4)))] h).bind (fun r22 => if x0 = -1 ∧ 0 ≤ (w32 (x3 + 1)) ∧ (w32 (x3 + 1)) < r22.2.2 (-1) (-1) then if x0 = -1 ∧ 0 ≤ (w32 (x3 + 2)) ∧ (w32 (x3 + 2)) < r22.2.2 (-1) (-1) then if x0 = -1 ∧ 0 ≤ (w32 (x3 + 3)) ∧ (w32 (x3 + 3)) < r22.2.2 (-1) (-1) then if x0 = -1 ∧ 0 ≤ (w32 (x3 + 4)) ∧ (w32 (x3 + 4)) < r22.2.2 (-1) (-1) then if 0 < x2 ∧ (kd x2).1 = 12 then (vm 269 [(2, x2), (0, r22.2.2 x0 (w32 (x3 + 1))), (0, r22.2.2 x0 (w32 (x3 + 2))), (0, r22.2.2 x0 (w32 (x3 + 3))), (0, r22.2.2 x0 (w32 (x3 + 4)))] r22.2).bind (fun r44 => if (vx r22) = (vx r44) then (vp 323 2128 [(2, x0), (2, x1), (2, x2), (0, x3)] [] r44.2) else (some (some (0, 0), r44.2))) else none else none else none else none else none) else none else none else none else none else none := by
  refine s_aload_n (pc1 := 1179) (tk (n := 8) t323_27 rfl) rfl rfl rfl ?_
  refine s_aload_n (pc1 := 1180) (tk (n := 9) t323_27 rfl) rfl rfl rfl ?_
  refine s_iload_n (pc1 := 1181) (tk (n := 10) t323_27 rfl) rfl rfl rfl ?_
  refine s_iconst (pc1 := 1182) (tk (n := 11) t323_27 rfl) rfl rfl  ?_
  refine s_iadd (pc1 := 1183) (tk (n := 12) t323_27 rfl) rfl rfl  ?_
  refine s_iald1 (pc1 := 1184) (tk (n := 13) t323_27 rfl) rfl rfl  ?_
  refine s_aload_n (pc1 := 1185) (tk (n := 14) t323_27 rfl) rfl rfl rfl ?_
  refine s_iload_n (pc1 := 1186) (tk (n := 15) t323_27 rfl) rfl rfl rfl ?_
  refine s_iconst (pc1 := 1187) (tk (n := 16) t323_27 rfl) rfl rfl  ?_
  refine s_iadd (pc1 := 1188) (tk (n := 17) t323_27 rfl) rfl rfl  ?_
  refine s_iald1 (pc1 := 1189) (tk (n := 18) t323_27 rfl) rfl rfl  ?_
  refine s_aload_n (pc1 := 1190) (tk (n := 19) t323_27 rfl) rfl rfl rfl ?_
  refine s_iload_n (pc1 := 1191) (tk (n := 20) t323_27 rfl) rfl rfl rfl ?_
  refine s_iconst (pc1 := 1192) (tk (n := 21) t323_27 rfl) rfl rfl  ?_
  refine s_iadd (pc1 := 1193) (tk (n := 22) t323_27 rfl) rfl rfl  ?_
  refine s_iald1 (pc1 := 1194) (tk (n := 23) t323_27 rfl) rfl rfl  ?_
  refine s_aload_n (pc1 := 1195) (tk (n := 24) t323_27 rfl) rfl rfl rfl ?_
  refine s_iload_n (pc1 := 1196) (tk (n := 25) t323_27 rfl) rfl rfl rfl ?_
  refine s_iconst (pc1 := 1197) (tk (n := 26) t323_27 rfl) rfl rfl  ?_
  refine s_iadd (pc1 := 1198) (tk (n := 27) t323_27 rfl) rfl rfl  ?_
  refine s_iald1 (pc1 := 1199) (tk (n := 28) t323_27 rfl) rfl rfl  ?_
  refine s_call0 (as := [(2, x1), (0, h.2 x0 (w32 (x3 + 1))), (0, h.2 x0 (w32 (x3 + 2))), (0, h.2 x0 (w32 (x3 + 3))), (0, h.2 x0 (w32 (x3 + 4)))]) (st1 := []) (p1 := 1202) (M2 := 139) (tk (n := 29) t323_27 rfl) rfl rfl rfl rfl rfl (fun r22 => ?_)
  refine s_aload_n (pc1 := 1203) (tk (n := 0) t323_28 rfl) rfl rfl rfl ?_
  refine s_aload_n (pc1 := 1204) (tk (n := 1) t323_28 rfl) rfl rfl rfl ?_
  refine s_iload_n (pc1 := 1205) (tk (n := 2) t323_28 rfl) rfl rfl rfl ?_
  refine s_iconst (pc1 := 1206) (tk (n := 3) t323_28 rfl) rfl rfl  ?_
  refine s_iadd (pc1 := 1207) (tk (n := 4) t323_28 rfl) rfl rfl  ?_
  refine s_iald1 (pc1 := 1208) (tk (n := 5) t323_28 rfl) rfl rfl  ?_
  refine s_aload_n (pc1 := 1209) (tk (n := 6) t323_28 rfl) rfl rfl rfl ?_
  refine s_iload_n (pc1 := 1210) (tk (n := 7) t323_28 rfl) rfl rfl rfl ?_
  refine s_iconst (pc1 := 1211) (tk (n := 8) t323_28 rfl) rfl rfl  ?_
  refine s_iadd (pc1 := 1212) (tk (n := 9) t323_28 rfl) rfl rfl  ?_
  refine s_iald1 (pc1 := 1213) (tk (n := 10) t323_28 rfl) rfl rfl  ?_
  refine s_aload_n (pc1 := 1214) (tk (n := 11) t323_28 rfl) rfl rfl rfl ?_
  refine s_iload_n (pc1 := 1215) (tk (n := 12) t323_28 rfl) rfl rfl rfl ?_
  refine s_iconst (pc1 := 1216) (tk (n := 13) t323_28 rfl) rfl rfl  ?_
  refine s_iadd (pc1 := 1217) (tk (n := 14) t323_28 rfl) rfl rfl  ?_
  refine s_iald1 (pc1 := 1218) (tk (n := 15) t323_28 rfl) rfl rfl  ?_
  refine s_aload_n (pc1 := 1219) (tk (n := 16) t323_28 rfl) rfl rfl rfl ?_
  refine s_iload_n (pc1 := 1220) (tk (n := 17) t323_28 rfl) rfl rfl rfl ?_
  refine s_iconst (pc1 := 1221) (tk (n := 18) t323_28 rfl) rfl rfl  ?_
  refine s_iadd (pc1 := 1222) (tk (n := 19) t323_28 rfl) rfl rfl  ?_
  refine s_iald1 (pc1 := 1223) (tk (n := 20) t323_28 rfl) rfl rfl  ?_
  refine s_call0 (as := [(2, x2), (0, r22.2.2 x0 (w32 (x3 + 1))), (0, r22.2.2 x0 (w32 (x3 + 2))), (0, r22.2.2 x0 (w32 (x3 + 3))), (0, r22.2.2 x0 (w32 (x3 + 4)))]) (st1 := [(0, vx r22)]) (p1 := 1226) (M2 := 269) (tk (n := 21) t323_28 rfl) rfl rfl rfl rfl rfl (fun r44 => ?_)
  refine s_ic_eq (pc1 := 1229) (pt := 2128) (tk (n := 22) t323_28 rfl) rfl rfl rfl ?_ ?_
  · rfl
  · refine s_iconst (pc1 := 1230) (tk (n := 23) t323_28 rfl) rfl rfl  ?_
    exact s_retY (tk (n := 24) t323_28 rfl) rfl rfl rfl (by decide)
set_option maxRecDepth 100000 in
set_option maxHeartbeats 4000000 in
theorem e_L_law_1231 (x0 : Int) (x1 : Int) (x2 : Int) (x3 : Int) (h : Hq) : vp 323 1231 [(2, x0), (2, x1), (2, x2), (0, x3)] [] h = if x0 = -1 ∧ 0 ≤ (w32 (x3 + 1)) ∧ (w32 (x3 + 1)) < h.2 (-1) (-1) then if x0 = -1 ∧ 0 ≤ (w32 (x3 + 2)) ∧ (w32 (x3 + 2)) < h.2 (-1) (-1) then if x0 = -1 ∧ 0 ≤ (w32 (x3 + 3)) ∧ (w32 (x3 + 3)) < h.2 (-1) (-1) then if x0 = -1 ∧ 0 ≤ (w32 (x3 + 4)) ∧ (w32 (x3 + 4)) < h.2 (-1) (-1) then if 0 < x1 ∧ (kd x1).1 = 11 then (vm 140 [(2, x1), (0, h.2 x0 (w32 (x3 + 1))), (0, h.2 x0 (w32 (x3 + 2))), (0, h.2 x0 (w32 (x3 + 3))), (0, h.2 x0 (w32 (x3 + 4)))] h).bind (fun r22 => if x0 = -1 ∧ 0 ≤ (w32 (x3 + 1)) ∧ (w32 (x3 + 1)) < r22.2.2 (-1) (-1) then if x0 = -1 ∧ 0 ≤ (w32 (x3 + 2)) ∧ (w32 (x3 + 2)) < r22.2.2 (-1) (-1) then if x0 = -1 ∧ 0 ≤ (w32 (x3 + 3)) ∧ (w32 (x3 + 3)) < r22.2.2 (-1) (-1) then if x0 = -1 ∧ 0 ≤ (w32 (x3 + 4)) ∧ (w32 (x3 + 4)) < r22.2.2 (-1) (-1) then if 0 < x2 ∧ (kd x2).1 = 12 then (vm 272 [(2, x2), (0, r22.2.2 x0 (w32 (x3 + 1))), (0, r22.2.2 x0 (w32 (x3 + 2))), (0, r22.2.2 x0 (w32 (x3 + 3))), (0, r22.2.2 x0 (w32 (x3 + 4)))] r22.2).bind (fun r44 => if (vx r22) = (vx r44) then (vp 323 2128 [(2, x0), (2, x1), (2, x2), (0, x3)] [] r44.2) else (some (some (0, 0), r44.2))) else none else none else none else none else none) else none else none else none else none else none := by
  refine s_aload_n (pc1 := 1232) (tk (n := 25) t323_28 rfl) rfl rfl rfl ?_
  refine s_aload_n (pc1 := 1233) (tk (n := 26) t323_28 rfl) rfl rfl rfl ?_
  refine s_iload_n (pc1 := 1234) (tk (n := 27) t323_28 rfl) rfl rfl rfl ?_
  refine s_iconst (pc1 := 1235) (tk (n := 28) t323_28 rfl) rfl rfl  ?_
  refine s_iadd (pc1 := 1236) (tk (n := 29) t323_28 rfl) rfl rfl  ?_
  refine s_iald1 (pc1 := 1237) (tk (n := 0) t323_29 rfl) rfl rfl  ?_
  refine s_aload_n (pc1 := 1238) (tk (n := 1) t323_29 rfl) rfl rfl rfl ?_
  refine s_iload_n (pc1 := 1239) (tk (n := 2) t323_29 rfl) rfl rfl rfl ?_
  refine s_iconst (pc1 := 1240) (tk (n := 3) t323_29 rfl) rfl rfl  ?_
  refine s_iadd (pc1 := 1241) (tk (n := 4) t323_29 rfl) rfl rfl  ?_
  refine s_iald1 (pc1 := 1242) (tk (n := 5) t323_29 rfl) rfl rfl  ?_
  refine s_aload_n (pc1 := 1243) (tk (n := 6) t323_29 rfl) rfl rfl rfl ?_
  refine s_iload_n (pc1 := 1244) (tk (n := 7) t323_29 rfl) rfl rfl rfl ?_
  refine s_iconst (pc1 := 1245) (tk (n := 8) t323_29 rfl) rfl rfl  ?_
  refine s_iadd (pc1 := 1246) (tk (n := 9) t323_29 rfl) rfl rfl  ?_
  refine s_iald1 (pc1 := 1247) (tk (n := 10) t323_29 rfl) rfl rfl  ?_
  refine s_aload_n (pc1 := 1248) (tk (n := 11) t323_29 rfl) rfl rfl rfl ?_
  refine s_iload_n (pc1 := 1249) (tk (n := 12) t323_29 rfl) rfl rfl rfl ?_
  refine s_iconst (pc1 := 1250) (tk (n := 13) t323_29 rfl) rfl rfl  ?_
  refine s_iadd (pc1 := 1251) (tk (n := 14) t323_29 rfl) rfl rfl  ?_
  refine s_iald1 (pc1 := 1252) (tk (n := 15) t323_29 rfl) rfl rfl  ?_
  refine s_call0 (as := [(2, x1), (0, h.2 x0 (w32 (x3 + 1))), (0, h.2 x0 (w32 (x3 + 2))), (0, h.2 x0 (w32 (x3 + 3))), (0, h.2 x0 (w32 (x3 + 4)))]) (st1 := []) (p1 := 1255) (M2 := 140) (tk (n := 16) t323_29 rfl) rfl rfl rfl rfl rfl (fun r22 => ?_)
  refine s_aload_n (pc1 := 1256) (tk (n := 17) t323_29 rfl) rfl rfl rfl ?_
  refine s_aload_n (pc1 := 1257) (tk (n := 18) t323_29 rfl) rfl rfl rfl ?_
  refine s_iload_n (pc1 := 1258) (tk (n := 19) t323_29 rfl) rfl rfl rfl ?_
  refine s_iconst (pc1 := 1259) (tk (n := 20) t323_29 rfl) rfl rfl  ?_
  refine s_iadd (pc1 := 1260) (tk (n := 21) t323_29 rfl) rfl rfl  ?_
  refine s_iald1 (pc1 := 1261) (tk (n := 22) t323_29 rfl) rfl rfl  ?_
  refine s_aload_n (pc1 := 1262) (tk (n := 23) t323_29 rfl) rfl rfl rfl ?_
  refine s_iload_n (pc1 := 1263) (tk (n := 24) t323_29 rfl) rfl rfl rfl ?_
  refine s_iconst (pc1 := 1264) (tk (n := 25) t323_29 rfl) rfl rfl  ?_
  refine s_iadd (pc1 := 1265) (tk (n := 26) t323_29 rfl) rfl rfl  ?_
  refine s_iald1 (pc1 := 1266) (tk (n := 27) t323_29 rfl) rfl rfl  ?_
  refine s_aload_n (pc1 := 1267) (tk (n := 28) t323_29 rfl) rfl rfl rfl ?_
  refine s_iload_n (pc1 := 1268) (tk (n := 29) t323_29 rfl) rfl rfl rfl ?_
  refine s_iconst (pc1 := 1269) (tk (n := 0) t323_30 rfl) rfl rfl  ?_
  refine s_iadd (pc1 := 1270) (tk (n := 1) t323_30 rfl) rfl rfl  ?_
  refine s_iald1 (pc1 := 1271) (tk (n := 2) t323_30 rfl) rfl rfl  ?_
  refine s_aload_n (pc1 := 1272) (tk (n := 3) t323_30 rfl) rfl rfl rfl ?_
  refine s_iload_n (pc1 := 1273) (tk (n := 4) t323_30 rfl) rfl rfl rfl ?_
  refine s_iconst (pc1 := 1274) (tk (n := 5) t323_30 rfl) rfl rfl  ?_
  refine s_iadd (pc1 := 1275) (tk (n := 6) t323_30 rfl) rfl rfl  ?_
  refine s_iald1 (pc1 := 1276) (tk (n := 7) t323_30 rfl) rfl rfl  ?_
  refine s_call0 (as := [(2, x2), (0, r22.2.2 x0 (w32 (x3 + 1))), (0, r22.2.2 x0 (w32 (x3 + 2))), (0, r22.2.2 x0 (w32 (x3 + 3))), (0, r22.2.2 x0 (w32 (x3 + 4)))]) (st1 := [(0, vx r22)]) (p1 := 1279) (M2 := 272) (tk (n := 8) t323_30 rfl) rfl rfl rfl rfl rfl (fun r44 => ?_)
  refine s_ic_eq (pc1 := 1282) (pt := 2128) (tk (n := 9) t323_30 rfl) rfl rfl rfl ?_ ?_
  · rfl
  · refine s_iconst (pc1 := 1283) (tk (n := 10) t323_30 rfl) rfl rfl  ?_
    exact s_retY (tk (n := 11) t323_30 rfl) rfl rfl rfl (by decide)
set_option maxRecDepth 100000 in
set_option maxHeartbeats 4000000 in
theorem e_L_law_1284 (x0 : Int) (x1 : Int) (x2 : Int) (x3 : Int) (h : Hq) : vp 323 1284 [(2, x0), (2, x1), (2, x2), (0, x3)] [] h = if x0 = -1 ∧ 0 ≤ (w32 (x3 + 1)) ∧ (w32 (x3 + 1)) < h.2 (-1) (-1) then if x0 = -1 ∧ 0 ≤ (w32 (x3 + 2)) ∧ (w32 (x3 + 2)) < h.2 (-1) (-1) then if x0 = -1 ∧ 0 ≤ (w32 (x3 + 3)) ∧ (w32 (x3 + 3)) < h.2 (-1) (-1) then if x0 = -1 ∧ 0 ≤ (w32 (x3 + 4)) ∧ (w32 (x3 + 4)) < h.2 (-1) (-1) then if x0 = -1 ∧ 0 ≤ (w32 (x3 + 5)) ∧ (w32 (x3 + 5)) < h.2 (-1) (-1) then if 0 < x1 ∧ (kd x1).1 = 11 then (vm 142 [(2, x1), (0, h.2 x0 (w32 (x3 + 1))), (0, h.2 x0 (w32 (x3 + 2))), (0, h.2 x0 (w32 (x3 + 3))), (0, h.2 x0 (w32 (x3 + 4))), (0, h.2 x0 (w32 (x3 + 5)))] h).bind (fun r27 => if x0 = -1 ∧ 0 ≤ (w32 (x3 + 1)) ∧ (w32 (x3 + 1)) < r27.2.2 (-1) (-1) then if x0 = -1 ∧ 0 ≤ (w32 (x3 + 2)) ∧ (w32 (x3 + 2)) < r27.2.2 (-1) (-1) then if x0 = -1 ∧ 0 ≤ (w32 (x3 + 3)) ∧ (w32 (x3 + 3)) < r27.2.2 (-1) (-1) then if x0 = -1 ∧ 0 ≤ (w32 (x3 + 4)) ∧ (w32 (x3 + 4)) < r27.2.2 (-1) (-1) then if x0 = -1 ∧ 0 ≤ (w32 (x3 + 5)) ∧ (w32 (x3 + 5)) < r27.2.2 (-1) (-1) then if 0 < x2 ∧ (kd x2).1 = 12 then (vm 276 [(2, x2), (0, r27.2.2 x0 (w32 (x3 + 1))), (0, r27.2.2 x0 (w32 (x3 + 2))), (0, r27.2.2 x0 (w32 (x3 + 3))), (0, r27.2.2 x0 (w32 (x3 + 4))), (0, r27.2.2 x0 (w32 (x3 + 5)))] r27.2).bind (fun r54 => if (vx r27) = (vx r54) then (vp 323 2128 [(2, x0), (2, x1), (2, x2), (0, x3)] [] r54.2) else (some (some (0, 0), r54.2))) else none else none else none else none else none else none) else none else none else none else none else none else none := by
  refine s_aload_n (pc1 := 1285) (tk (n := 12) t323_30 rfl) rfl rfl rfl ?_
  refine s_aload_n (pc1 := 1286) (tk (n := 13) t323_30 rfl) rfl rfl rfl ?_
  refine s_iload_n (pc1 := 1287) (tk (n := 14) t323_30 rfl) rfl rfl rfl ?_
  refine s_iconst (pc1 := 1288) (tk (n := 15) t323_30 rfl) rfl rfl  ?_
  refine s_iadd (pc1 := 1289) (tk (n := 16) t323_30 rfl) rfl rfl  ?_
  refine s_iald1 (pc1 := 1290) (tk (n := 17) t323_30 rfl) rfl rfl  ?_
  refine s_aload_n (pc1 := 1291) (tk (n := 18) t323_30 rfl) rfl rfl rfl ?_
  refine s_iload_n (pc1 := 1292) (tk (n := 19) t323_30 rfl) rfl rfl rfl ?_
  refine s_iconst (pc1 := 1293) (tk (n := 20) t323_30 rfl) rfl rfl  ?_
  refine s_iadd (pc1 := 1294) (tk (n := 21) t323_30 rfl) rfl rfl  ?_
  refine s_iald1 (pc1 := 1295) (tk (n := 22) t323_30 rfl) rfl rfl  ?_
  refine s_aload_n (pc1 := 1296) (tk (n := 23) t323_30 rfl) rfl rfl rfl ?_
  refine s_iload_n (pc1 := 1297) (tk (n := 24) t323_30 rfl) rfl rfl rfl ?_
  refine s_iconst (pc1 := 1298) (tk (n := 25) t323_30 rfl) rfl rfl  ?_
  refine s_iadd (pc1 := 1299) (tk (n := 26) t323_30 rfl) rfl rfl  ?_
  refine s_iald1 (pc1 := 1300) (tk (n := 27) t323_30 rfl) rfl rfl  ?_
  refine s_aload_n (pc1 := 1301) (tk (n := 28) t323_30 rfl) rfl rfl rfl ?_
  refine s_iload_n (pc1 := 1302) (tk (n := 29) t323_30 rfl) rfl rfl rfl ?_
  refine s_iconst (pc1 := 1303) (tk (n := 0) t323_31 rfl) rfl rfl  ?_
  refine s_iadd (pc1 := 1304) (tk (n := 1) t323_31 rfl) rfl rfl  ?_
  refine s_iald1 (pc1 := 1305) (tk (n := 2) t323_31 rfl) rfl rfl  ?_
  refine s_aload_n (pc1 := 1306) (tk (n := 3) t323_31 rfl) rfl rfl rfl ?_
  refine s_iload_n (pc1 := 1307) (tk (n := 4) t323_31 rfl) rfl rfl rfl ?_
  refine s_iconst (pc1 := 1308) (tk (n := 5) t323_31 rfl) rfl rfl  ?_
  refine s_iadd (pc1 := 1309) (tk (n := 6) t323_31 rfl) rfl rfl  ?_
  refine s_iald1 (pc1 := 1310) (tk (n := 7) t323_31 rfl) rfl rfl  ?_
  refine s_call0 (as := [(2, x1), (0, h.2 x0 (w32 (x3 + 1))), (0, h.2 x0 (w32 (x3 + 2))), (0, h.2 x0 (w32 (x3 + 3))), (0, h.2 x0 (w32 (x3 + 4))), (0, h.2 x0 (w32 (x3 + 5)))]) (st1 := []) (p1 := 1313) (M2 := 142) (tk (n := 8) t323_31 rfl) rfl rfl rfl rfl rfl (fun r27 => ?_)
  refine s_aload_n (pc1 := 1314) (tk (n := 9) t323_31 rfl) rfl rfl rfl ?_
  refine s_aload_n (pc1 := 1315) (tk (n := 10) t323_31 rfl) rfl rfl rfl ?_
  refine s_iload_n (pc1 := 1316) (tk (n := 11) t323_31 rfl) rfl rfl rfl ?_
  refine s_iconst (pc1 := 1317) (tk (n := 12) t323_31 rfl) rfl rfl  ?_
  refine s_iadd (pc1 := 1318) (tk (n := 13) t323_31 rfl) rfl rfl  ?_
  refine s_iald1 (pc1 := 1319) (tk (n := 14) t323_31 rfl) rfl rfl  ?_
  refine s_aload_n (pc1 := 1320) (tk (n := 15) t323_31 rfl) rfl rfl rfl ?_
  refine s_iload_n (pc1 := 1321) (tk (n := 16) t323_31 rfl) rfl rfl rfl ?_
  refine s_iconst (pc1 := 1322) (tk (n := 17) t323_31 rfl) rfl rfl  ?_
  refine s_iadd (pc1 := 1323) (tk (n := 18) t323_31 rfl) rfl rfl  ?_
  refine s_iald1 (pc1 := 1324) (tk (n := 19) t323_31 rfl) rfl rfl  ?_
  refine s_aload_n (pc1 := 1325) (tk (n := 20) t323_31 rfl) rfl rfl rfl ?_
  refine s_iload_n (pc1 := 1326) (tk (n := 21) t323_31 rfl) rfl rfl rfl ?_
  refine s_iconst (pc1 := 1327) (tk (n := 22) t323_31 rfl) rfl rfl  ?_
  refine s_iadd (pc1 := 1328) (tk (n := 23) t323_31 rfl) rfl rfl  ?_
  refine s_iald1 (pc1 := 1329) (tk (n := 24) t323_31 rfl) rfl rfl  ?_
  refine s_aload_n (pc1 := 1330) (tk (n := 25) t323_31 rfl) rfl rfl rfl ?_
  refine s_iload_n (pc1 := 1331) (tk (n := 26) t323_31 rfl) rfl rfl rfl ?_
  refine s_iconst (pc1 := 1332) (tk (n := 27) t323_31 rfl) rfl rfl  ?_
  refine s_iadd (pc1 := 1333) (tk (n := 28) t323_31 rfl) rfl rfl  ?_
  refine s_iald1 (pc1 := 1334) (tk (n := 29) t323_31 rfl) rfl rfl  ?_
  refine s_aload_n (pc1 := 1335) (tk (n := 0) t323_32 rfl) rfl rfl rfl ?_
  refine s_iload_n (pc1 := 1336) (tk (n := 1) t323_32 rfl) rfl rfl rfl ?_
  refine s_iconst (pc1 := 1337) (tk (n := 2) t323_32 rfl) rfl rfl  ?_
  refine s_iadd (pc1 := 1338) (tk (n := 3) t323_32 rfl) rfl rfl  ?_
  refine s_iald1 (pc1 := 1339) (tk (n := 4) t323_32 rfl) rfl rfl  ?_
  refine s_call0 (as := [(2, x2), (0, r27.2.2 x0 (w32 (x3 + 1))), (0, r27.2.2 x0 (w32 (x3 + 2))), (0, r27.2.2 x0 (w32 (x3 + 3))), (0, r27.2.2 x0 (w32 (x3 + 4))), (0, r27.2.2 x0 (w32 (x3 + 5)))]) (st1 := [(0, vx r27)]) (p1 := 1342) (M2 := 276) (tk (n := 5) t323_32 rfl) rfl rfl rfl rfl rfl (fun r54 => ?_)
  refine s_ic_eq (pc1 := 1345) (pt := 2128) (tk (n := 6) t323_32 rfl) rfl rfl rfl ?_ ?_
  · rfl
  · refine s_iconst (pc1 := 1346) (tk (n := 7) t323_32 rfl) rfl rfl  ?_
    exact s_retY (tk (n := 8) t323_32 rfl) rfl rfl rfl (by decide)
set_option maxRecDepth 100000 in
set_option maxHeartbeats 4000000 in
theorem e_L_law_1347 (x0 : Int) (x1 : Int) (x2 : Int) (x3 : Int) (h : Hq) : vp 323 1347 [(2, x0), (2, x1), (2, x2), (0, x3)] [] h = if x0 = -1 ∧ 0 ≤ (w32 (x3 + 1)) ∧ (w32 (x3 + 1)) < h.2 (-1) (-1) then if x0 = -1 ∧ 0 ≤ (w32 (x3 + 2)) ∧ (w32 (x3 + 2)) < h.2 (-1) (-1) then if x0 = -1 ∧ 0 ≤ (w32 (x3 + 3)) ∧ (w32 (x3 + 3)) < h.2 (-1) (-1) then if x0 = -1 ∧ 0 ≤ (w32 (x3 + 4)) ∧ (w32 (x3 + 4)) < h.2 (-1) (-1) then if x0 = -1 ∧ 0 ≤ (w32 (x3 + 5)) ∧ (w32 (x3 + 5)) < h.2 (-1) (-1) then if x0 = -1 ∧ 0 ≤ (w32 (x3 + 6)) ∧ (w32 (x3 + 6)) < h.2 (-1) (-1) then if x0 = -1 ∧ 0 ≤ (w32 (x3 + 7)) ∧ (w32 (x3 + 7)) < h.2 (-1) (-1) then if 0 < x1 ∧ (kd x1).1 = 11 then (vm 143 [(2, x1), (0, h.2 x0 (w32 (x3 + 1))), (0, h.2 x0 (w32 (x3 + 2))), (0, h.2 x0 (w32 (x3 + 3))), (0, h.2 x0 (w32 (x3 + 4))), (0, h.2 x0 (w32 (x3 + 5))), (0, h.2 x0 (w32 (x3 + 6))), (0, h.2 x0 (w32 (x3 + 7)))] h).bind (fun r37 => if x0 = -1 ∧ 0 ≤ (w32 (x3 + 1)) ∧ (w32 (x3 + 1)) < r37.2.2 (-1) (-1) then if x0 = -1 ∧ 0 ≤ (w32 (x3 + 2)) ∧ (w32 (x3 + 2)) < r37.2.2 (-1) (-1) then if x0 = -1 ∧ 0 ≤ (w32 (x3 + 3)) ∧ (w32 (x3 + 3)) < r37.2.2 (-1) (-1) then if x0 = -1 ∧ 0 ≤ (w32 (x3 + 4)) ∧ (w32 (x3 + 4)) < r37.2.2 (-1) (-1) then if x0 = -1 ∧ 0 ≤ (w32 (x3 + 5)) ∧ (w32 (x3 + 5)) < r37.2.2 (-1) (-1) then if x0 = -1 ∧ 0 ≤ (w32 (x3 + 6)) ∧ (w32 (x3 + 6)) < r37.2.2 (-1) (-1) then if x0 = -1 ∧ 0 ≤ (w32 (x3 + 7)) ∧ (w32 (x3 + 7)) < r37.2.2 (-1) (-1) then if 0 < x2 ∧ (kd x2).1 = 12 then (vm 277 [(2, x2), (0, r37.2.2 x0 (w32 (x3 + 1))), (0, r37.2.2 x0 (w32 (x3 + 2))), (0, r37.2.2 x0 (w32 (x3 + 3))), (0, r37.2.2 x0 (w32 (x3 + 4))), (0, r37.2.2 x0 (w32 (x3 + 5))), (0, r37.2.2 x0 (w32 (x3 + 6))), (0, r37.2.2 x0 (w32 (x3 + 7)))] r37.2).bind (fun r74 => if (vx r37) = (vx r74) then (vp 323 2128 [(2, x0), (2, x1), (2, x2), (0, x3)] [] r74.2) else (some (some (0, 0), r74.2))) else none else none else none else none else none else none else none else none) else none else none else none else none else none else none else none else none := by
  refine s_aload_n (pc1 := 1348) (tk (n := 9) t323_32 rfl) rfl rfl rfl ?_
  refine s_aload_n (pc1 := 1349) (tk (n := 10) t323_32 rfl) rfl rfl rfl ?_
  refine s_iload_n (pc1 := 1350) (tk (n := 11) t323_32 rfl) rfl rfl rfl ?_
  refine s_iconst (pc1 := 1351) (tk (n := 12) t323_32 rfl) rfl rfl  ?_
  refine s_iadd (pc1 := 1352) (tk (n := 13) t323_32 rfl) rfl rfl  ?_
  refine s_iald1 (pc1 := 1353) (tk (n := 14) t323_32 rfl) rfl rfl  ?_
  refine s_aload_n (pc1 := 1354) (tk (n := 15) t323_32 rfl) rfl rfl rfl ?_
  refine s_iload_n (pc1 := 1355) (tk (n := 16) t323_32 rfl) rfl rfl rfl ?_
  refine s_iconst (pc1 := 1356) (tk (n := 17) t323_32 rfl) rfl rfl  ?_
  refine s_iadd (pc1 := 1357) (tk (n := 18) t323_32 rfl) rfl rfl  ?_
  refine s_iald1 (pc1 := 1358) (tk (n := 19) t323_32 rfl) rfl rfl  ?_
  refine s_aload_n (pc1 := 1359) (tk (n := 20) t323_32 rfl) rfl rfl rfl ?_
  refine s_iload_n (pc1 := 1360) (tk (n := 21) t323_32 rfl) rfl rfl rfl ?_
  refine s_iconst (pc1 := 1361) (tk (n := 22) t323_32 rfl) rfl rfl  ?_
  refine s_iadd (pc1 := 1362) (tk (n := 23) t323_32 rfl) rfl rfl  ?_
  refine s_iald1 (pc1 := 1363) (tk (n := 24) t323_32 rfl) rfl rfl  ?_
  refine s_aload_n (pc1 := 1364) (tk (n := 25) t323_32 rfl) rfl rfl rfl ?_
  refine s_iload_n (pc1 := 1365) (tk (n := 26) t323_32 rfl) rfl rfl rfl ?_
  refine s_iconst (pc1 := 1366) (tk (n := 27) t323_32 rfl) rfl rfl  ?_
  refine s_iadd (pc1 := 1367) (tk (n := 28) t323_32 rfl) rfl rfl  ?_
  refine s_iald1 (pc1 := 1368) (tk (n := 29) t323_32 rfl) rfl rfl  ?_
  refine s_aload_n (pc1 := 1369) (tk (n := 0) t323_33 rfl) rfl rfl rfl ?_
  refine s_iload_n (pc1 := 1370) (tk (n := 1) t323_33 rfl) rfl rfl rfl ?_
  refine s_iconst (pc1 := 1371) (tk (n := 2) t323_33 rfl) rfl rfl  ?_
  refine s_iadd (pc1 := 1372) (tk (n := 3) t323_33 rfl) rfl rfl  ?_
  refine s_iald1 (pc1 := 1373) (tk (n := 4) t323_33 rfl) rfl rfl  ?_
  refine s_aload_n (pc1 := 1374) (tk (n := 5) t323_33 rfl) rfl rfl rfl ?_
  refine s_iload_n (pc1 := 1375) (tk (n := 6) t323_33 rfl) rfl rfl rfl ?_
  refine s_bipush (pc1 := 1377) (tk (n := 7) t323_33 rfl) rfl rfl  ?_
  refine s_iadd (pc1 := 1378) (tk (n := 8) t323_33 rfl) rfl rfl  ?_
  refine s_iald1 (pc1 := 1379) (tk (n := 9) t323_33 rfl) rfl rfl  ?_
  refine s_aload_n (pc1 := 1380) (tk (n := 10) t323_33 rfl) rfl rfl rfl ?_
  refine s_iload_n (pc1 := 1381) (tk (n := 11) t323_33 rfl) rfl rfl rfl ?_
  refine s_bipush (pc1 := 1383) (tk (n := 12) t323_33 rfl) rfl rfl  ?_
  refine s_iadd (pc1 := 1384) (tk (n := 13) t323_33 rfl) rfl rfl  ?_
  refine s_iald1 (pc1 := 1385) (tk (n := 14) t323_33 rfl) rfl rfl  ?_
  refine s_call0 (as := [(2, x1), (0, h.2 x0 (w32 (x3 + 1))), (0, h.2 x0 (w32 (x3 + 2))), (0, h.2 x0 (w32 (x3 + 3))), (0, h.2 x0 (w32 (x3 + 4))), (0, h.2 x0 (w32 (x3 + 5))), (0, h.2 x0 (w32 (x3 + 6))), (0, h.2 x0 (w32 (x3 + 7)))]) (st1 := []) (p1 := 1388) (M2 := 143) (tk (n := 15) t323_33 rfl) rfl rfl rfl rfl rfl (fun r37 => ?_)
  refine s_aload_n (pc1 := 1389) (tk (n := 16) t323_33 rfl) rfl rfl rfl ?_
  refine s_aload_n (pc1 := 1390) (tk (n := 17) t323_33 rfl) rfl rfl rfl ?_
  refine s_iload_n (pc1 := 1391) (tk (n := 18) t323_33 rfl) rfl rfl rfl ?_
  refine s_iconst (pc1 := 1392) (tk (n := 19) t323_33 rfl) rfl rfl  ?_
  refine s_iadd (pc1 := 1393) (tk (n := 20) t323_33 rfl) rfl rfl  ?_
  refine s_iald1 (pc1 := 1394) (tk (n := 21) t323_33 rfl) rfl rfl  ?_
  refine s_aload_n (pc1 := 1395) (tk (n := 22) t323_33 rfl) rfl rfl rfl ?_
  refine s_iload_n (pc1 := 1396) (tk (n := 23) t323_33 rfl) rfl rfl rfl ?_
  refine s_iconst (pc1 := 1397) (tk (n := 24) t323_33 rfl) rfl rfl  ?_
  refine s_iadd (pc1 := 1398) (tk (n := 25) t323_33 rfl) rfl rfl  ?_
  refine s_iald1 (pc1 := 1399) (tk (n := 26) t323_33 rfl) rfl rfl  ?_
  refine s_aload_n (pc1 := 1400) (tk (n := 27) t323_33 rfl) rfl rfl rfl ?_
  refine s_iload_n (pc1 := 1401) (tk (n := 28) t323_33 rfl) rfl rfl rfl ?_
  refine s_iconst (pc1 := 1402) (tk (n := 29) t323_33 rfl) rfl rfl  ?_
  refine s_iadd (pc1 := 1403) (tk (n := 0) t323_34 rfl) rfl rfl  ?_
  refine s_iald1 (pc1 := 1404) (tk (n := 1) t323_34 rfl) rfl rfl  ?_
  refine s_aload_n (pc1 := 1405) (tk (n := 2) t323_34 rfl) rfl rfl rfl ?_
  refine s_iload_n (pc1 := 1406) (tk (n := 3) t323_34 rfl) rfl rfl rfl ?_
  refine s_iconst (pc1 := 1407) (tk (n := 4) t323_34 rfl) rfl rfl  ?_
  refine s_iadd (pc1 := 1408) (tk (n := 5) t323_34 rfl) rfl rfl  ?_
  refine s_iald1 (pc1 := 1409) (tk (n := 6) t323_34 rfl) rfl rfl  ?_
  refine s_aload_n (pc1 := 1410) (tk (n := 7) t323_34 rfl) rfl rfl rfl ?_
  refine s_iload_n (pc1 := 1411) (tk (n := 8) t323_34 rfl) rfl rfl rfl ?_
  refine s_iconst (pc1 := 1412) (tk (n := 9) t323_34 rfl) rfl rfl  ?_
  refine s_iadd (pc1 := 1413) (tk (n := 10) t323_34 rfl) rfl rfl  ?_
  refine s_iald1 (pc1 := 1414) (tk (n := 11) t323_34 rfl) rfl rfl  ?_
  refine s_aload_n (pc1 := 1415) (tk (n := 12) t323_34 rfl) rfl rfl rfl ?_
  refine s_iload_n (pc1 := 1416) (tk (n := 13) t323_34 rfl) rfl rfl rfl ?_
  refine s_bipush (pc1 := 1418) (tk (n := 14) t323_34 rfl) rfl rfl  ?_
  refine s_iadd (pc1 := 1419) (tk (n := 15) t323_34 rfl) rfl rfl  ?_
  refine s_iald1 (pc1 := 1420) (tk (n := 16) t323_34 rfl) rfl rfl  ?_
  refine s_aload_n (pc1 := 1421) (tk (n := 17) t323_34 rfl) rfl rfl rfl ?_
  refine s_iload_n (pc1 := 1422) (tk (n := 18) t323_34 rfl) rfl rfl rfl ?_
  refine s_bipush (pc1 := 1424) (tk (n := 19) t323_34 rfl) rfl rfl  ?_
  refine s_iadd (pc1 := 1425) (tk (n := 20) t323_34 rfl) rfl rfl  ?_
  refine s_iald1 (pc1 := 1426) (tk (n := 21) t323_34 rfl) rfl rfl  ?_
  refine s_call0 (as := [(2, x2), (0, r37.2.2 x0 (w32 (x3 + 1))), (0, r37.2.2 x0 (w32 (x3 + 2))), (0, r37.2.2 x0 (w32 (x3 + 3))), (0, r37.2.2 x0 (w32 (x3 + 4))), (0, r37.2.2 x0 (w32 (x3 + 5))), (0, r37.2.2 x0 (w32 (x3 + 6))), (0, r37.2.2 x0 (w32 (x3 + 7)))]) (st1 := [(0, vx r37)]) (p1 := 1429) (M2 := 277) (tk (n := 22) t323_34 rfl) rfl rfl rfl rfl rfl (fun r74 => ?_)
  refine s_ic_eq (pc1 := 1432) (pt := 2128) (tk (n := 23) t323_34 rfl) rfl rfl rfl ?_ ?_
  · rfl
  · refine s_iconst (pc1 := 1433) (tk (n := 24) t323_34 rfl) rfl rfl  ?_
    exact s_retY (tk (n := 25) t323_34 rfl) rfl rfl rfl (by decide)
set_option maxRecDepth 100000 in
set_option maxHeartbeats 4000000 in
theorem e_L_law_1434 (x0 : Int) (x1 : Int) (x2 : Int) (x3 : Int) (h : Hq) : vp 323 1434 [(2, x0), (2, x1), (2, x2), (0, x3)] [] h = if x0 = -1 ∧ 0 ≤ (w32 (x3 + 1)) ∧ (w32 (x3 + 1)) < h.2 (-1) (-1) then if x0 = -1 ∧ 0 ≤ (w32 (x3 + 2)) ∧ (w32 (x3 + 2)) < h.2 (-1) (-1) then if x0 = -1 ∧ 0 ≤ (w32 (x3 + 3)) ∧ (w32 (x3 + 3)) < h.2 (-1) (-1) then if x0 = -1 ∧ 0 ≤ (w32 (x3 + 4)) ∧ (w32 (x3 + 4)) < h.2 (-1) (-1) then if 0 < x1 ∧ (kd x1).1 = 11 then (vm 145 [(2, x1), (1, lbor (lbshl (h.2 x0 (w32 (x3 + 1))) 32) (lband (h.2 x0 (w32 (x3 + 2))) 4294967295)), (0, h.2 x0 (w32 (x3 + 3))), (0, h.2 x0 (w32 (x3 + 4)))] h).bind (fun r29 => if x0 = -1 ∧ 0 ≤ (w32 (x3 + 1)) ∧ (w32 (x3 + 1)) < r29.2.2 (-1) (-1) then if x0 = -1 ∧ 0 ≤ (w32 (x3 + 2)) ∧ (w32 (x3 + 2)) < r29.2.2 (-1) (-1) then if x0 = -1 ∧ 0 ≤ (w32 (x3 + 3)) ∧ (w32 (x3 + 3)) < r29.2.2 (-1) (-1) then if x0 = -1 ∧ 0 ≤ (w32 (x3 + 4)) ∧ (w32 (x3 + 4)) < r29.2.2 (-1) (-1) then if 0 < x2 ∧ (kd x2).1 = 12 then (vm 280 [(2, x2), (1, lbor (lbshl (r29.2.2 x0 (w32 (x3 + 1))) 32) (lband (r29.2.2 x0 (w32 (x3 + 2))) 4294967295)), (0, r29.2.2 x0 (w32 (x3 + 3))), (0, r29.2.2 x0 (w32 (x3 + 4)))] r29.2).bind (fun r58 => if (vx r29) = (vx r58) then (vp 323 2128 [(2, x0), (2, x1), (2, x2), (0, x3)] [] r58.2) else (some (some (0, 0), r58.2))) else none else none else none else none else none) else none else none else none else none else none := by
  refine s_aload_n (pc1 := 1435) (tk (n := 26) t323_34 rfl) rfl rfl rfl ?_
  refine s_aload_n (pc1 := 1436) (tk (n := 27) t323_34 rfl) rfl rfl rfl ?_
  refine s_iload_n (pc1 := 1437) (tk (n := 28) t323_34 rfl) rfl rfl rfl ?_
  refine s_iconst (pc1 := 1438) (tk (n := 29) t323_34 rfl) rfl rfl  ?_
  refine s_iadd (pc1 := 1439) (tk (n := 0) t323_35 rfl) rfl rfl  ?_
  refine s_iald1 (pc1 := 1440) (tk (n := 1) t323_35 rfl) rfl rfl  ?_
  refine s_i2l (pc1 := 1441) (tk (n := 2) t323_35 rfl) rfl rfl  ?_
  refine s_bipush (pc1 := 1443) (tk (n := 3) t323_35 rfl) rfl rfl  ?_
  refine s_lshl (pc1 := 1444) (tk (n := 4) t323_35 rfl) rfl rfl  ?_
  refine s_aload_n (pc1 := 1445) (tk (n := 5) t323_35 rfl) rfl rfl rfl ?_
  refine s_iload_n (pc1 := 1446) (tk (n := 6) t323_35 rfl) rfl rfl rfl ?_
  refine s_iconst (pc1 := 1447) (tk (n := 7) t323_35 rfl) rfl rfl  ?_
  refine s_iadd (pc1 := 1448) (tk (n := 8) t323_35 rfl) rfl rfl  ?_
  refine s_iald1 (pc1 := 1449) (tk (n := 9) t323_35 rfl) rfl rfl  ?_
  refine s_i2l (pc1 := 1450) (tk (n := 10) t323_35 rfl) rfl rfl  ?_
  refine s_ldc2 (pc1 := 1453) (tk (n := 11) t323_35 rfl) rfl rfl  ?_
  refine s_land (pc1 := 1454) (tk (n := 12) t323_35 rfl) rfl rfl  ?_
  refine s_lor (pc1 := 1455) (tk (n := 13) t323_35 rfl) rfl rfl  ?_
  refine s_aload_n (pc1 := 1456) (tk (n := 14) t323_35 rfl) rfl rfl rfl ?_
  refine s_iload_n (pc1 := 1457) (tk (n := 15) t323_35 rfl) rfl rfl rfl ?_
  refine s_iconst (pc1 := 1458) (tk (n := 16) t323_35 rfl) rfl rfl  ?_
  refine s_iadd (pc1 := 1459) (tk (n := 17) t323_35 rfl) rfl rfl  ?_
  refine s_iald1 (pc1 := 1460) (tk (n := 18) t323_35 rfl) rfl rfl  ?_
  refine s_aload_n (pc1 := 1461) (tk (n := 19) t323_35 rfl) rfl rfl rfl ?_
  refine s_iload_n (pc1 := 1462) (tk (n := 20) t323_35 rfl) rfl rfl rfl ?_
  refine s_iconst (pc1 := 1463) (tk (n := 21) t323_35 rfl) rfl rfl  ?_
  refine s_iadd (pc1 := 1464) (tk (n := 22) t323_35 rfl) rfl rfl  ?_
  refine s_iald1 (pc1 := 1465) (tk (n := 23) t323_35 rfl) rfl rfl  ?_
  refine s_call0 (as := [(2, x1), (1, lbor (lbshl (h.2 x0 (w32 (x3 + 1))) 32) (lband (h.2 x0 (w32 (x3 + 2))) 4294967295)), (0, h.2 x0 (w32 (x3 + 3))), (0, h.2 x0 (w32 (x3 + 4)))]) (st1 := []) (p1 := 1468) (M2 := 145) (tk (n := 24) t323_35 rfl) rfl rfl rfl rfl rfl (fun r29 => ?_)
  refine s_aload_n (pc1 := 1469) (tk (n := 25) t323_35 rfl) rfl rfl rfl ?_
  refine s_aload_n (pc1 := 1470) (tk (n := 26) t323_35 rfl) rfl rfl rfl ?_
  refine s_iload_n (pc1 := 1471) (tk (n := 27) t323_35 rfl) rfl rfl rfl ?_
  refine s_iconst (pc1 := 1472) (tk (n := 28) t323_35 rfl) rfl rfl  ?_
  refine s_iadd (pc1 := 1473) (tk (n := 29) t323_35 rfl) rfl rfl  ?_
  refine s_iald1 (pc1 := 1474) (tk (n := 0) t323_36 rfl) rfl rfl  ?_
  refine s_i2l (pc1 := 1475) (tk (n := 1) t323_36 rfl) rfl rfl  ?_
  refine s_bipush (pc1 := 1477) (tk (n := 2) t323_36 rfl) rfl rfl  ?_
  refine s_lshl (pc1 := 1478) (tk (n := 3) t323_36 rfl) rfl rfl  ?_
  refine s_aload_n (pc1 := 1479) (tk (n := 4) t323_36 rfl) rfl rfl rfl ?_
  refine s_iload_n (pc1 := 1480) (tk (n := 5) t323_36 rfl) rfl rfl rfl ?_
  refine s_iconst (pc1 := 1481) (tk (n := 6) t323_36 rfl) rfl rfl  ?_
  refine s_iadd (pc1 := 1482) (tk (n := 7) t323_36 rfl) rfl rfl  ?_
  refine s_iald1 (pc1 := 1483) (tk (n := 8) t323_36 rfl) rfl rfl  ?_
  refine s_i2l (pc1 := 1484) (tk (n := 9) t323_36 rfl) rfl rfl  ?_
  refine s_ldc2 (pc1 := 1487) (tk (n := 10) t323_36 rfl) rfl rfl  ?_
  refine s_land (pc1 := 1488) (tk (n := 11) t323_36 rfl) rfl rfl  ?_
  refine s_lor (pc1 := 1489) (tk (n := 12) t323_36 rfl) rfl rfl  ?_
  refine s_aload_n (pc1 := 1490) (tk (n := 13) t323_36 rfl) rfl rfl rfl ?_
  refine s_iload_n (pc1 := 1491) (tk (n := 14) t323_36 rfl) rfl rfl rfl ?_
  refine s_iconst (pc1 := 1492) (tk (n := 15) t323_36 rfl) rfl rfl  ?_
  refine s_iadd (pc1 := 1493) (tk (n := 16) t323_36 rfl) rfl rfl  ?_
  refine s_iald1 (pc1 := 1494) (tk (n := 17) t323_36 rfl) rfl rfl  ?_
  refine s_aload_n (pc1 := 1495) (tk (n := 18) t323_36 rfl) rfl rfl rfl ?_
  refine s_iload_n (pc1 := 1496) (tk (n := 19) t323_36 rfl) rfl rfl rfl ?_
  refine s_iconst (pc1 := 1497) (tk (n := 20) t323_36 rfl) rfl rfl  ?_
  refine s_iadd (pc1 := 1498) (tk (n := 21) t323_36 rfl) rfl rfl  ?_
  refine s_iald1 (pc1 := 1499) (tk (n := 22) t323_36 rfl) rfl rfl  ?_
  refine s_call0 (as := [(2, x2), (1, lbor (lbshl (r29.2.2 x0 (w32 (x3 + 1))) 32) (lband (r29.2.2 x0 (w32 (x3 + 2))) 4294967295)), (0, r29.2.2 x0 (w32 (x3 + 3))), (0, r29.2.2 x0 (w32 (x3 + 4)))]) (st1 := [(0, vx r29)]) (p1 := 1502) (M2 := 280) (tk (n := 23) t323_36 rfl) rfl rfl rfl rfl rfl (fun r58 => ?_)
  refine s_ic_eq (pc1 := 1505) (pt := 2128) (tk (n := 24) t323_36 rfl) rfl rfl rfl ?_ ?_
  · rfl
  · refine s_iconst (pc1 := 1506) (tk (n := 25) t323_36 rfl) rfl rfl  ?_
    exact s_retY (tk (n := 26) t323_36 rfl) rfl rfl rfl (by decide)
set_option maxRecDepth 100000 in
set_option maxHeartbeats 4000000 in
theorem e_L_law_1507 (x0 : Int) (x1 : Int) (x2 : Int) (x3 : Int) (h : Hq) : vp 323 1507 [(2, x0), (2, x1), (2, x2), (0, x3)] [] h = if x0 = -1 ∧ 0 ≤ (w32 (x3 + 1)) ∧ (w32 (x3 + 1)) < h.2 (-1) (-1) then if x0 = -1 ∧ 0 ≤ (w32 (x3 + 2)) ∧ (w32 (x3 + 2)) < h.2 (-1) (-1) then if x0 = -1 ∧ 0 ≤ (w32 (x3 + 3)) ∧ (w32 (x3 + 3)) < h.2 (-1) (-1) then if x0 = -1 ∧ 0 ≤ (w32 (x3 + 4)) ∧ (w32 (x3 + 4)) < h.2 (-1) (-1) then if 0 < x1 ∧ (kd x1).1 = 11 then (vm 146 [(2, x1), (0, h.2 x0 (w32 (x3 + 1))), (0, h.2 x0 (w32 (x3 + 2))), (0, h.2 x0 (w32 (x3 + 3))), (0, h.2 x0 (w32 (x3 + 4)))] h).bind (fun r22 => if x0 = -1 ∧ 0 ≤ (w32 (x3 + 1)) ∧ (w32 (x3 + 1)) < r22.2.2 (-1) (-1) then if x0 = -1 ∧ 0 ≤ (w32 (x3 + 2)) ∧ (w32 (x3 + 2)) < r22.2.2 (-1) (-1) then if x0 = -1 ∧ 0 ≤ (w32 (x3 + 3)) ∧ (w32 (x3 + 3)) < r22.2.2 (-1) (-1) then if x0 = -1 ∧ 0 ≤ (w32 (x3 + 4)) ∧ (w32 (x3 + 4)) < r22.2.2 (-1) (-1) then if 0 < x2 ∧ (kd x2).1 = 12 then (vm 285 [(2, x2), (0, r22.2.2 x0 (w32 (x3 + 1))), (0, r22.2.2 x0 (w32 (x3 + 2))), (0, r22.2.2 x0 (w32 (x3 + 3))), (0, r22.2.2 x0 (w32 (x3 + 4)))] r22.2).bind (fun r44 => if (if (vx r22) < (vx r44) then -1 else if (vx r22) = (vx r44) then 0 else 1) = 0 then (vp 323 2128 [(2, x0), (2, x1), (2, x2), (0, x3)] [] r44.2) else (some (some (0, 0), r44.2))) else none else none else none else none else none) else none else none else none else none else none := by
  refine s_aload_n (pc1 := 1508) (tk (n := 27) t323_36 rfl) rfl rfl rfl ?_
  refine s_aload_n (pc1 := 1509) (tk (n := 28) t323_36 rfl) rfl rfl rfl ?_
  refine s_iload_n (pc1 := 1510) (tk (n := 29) t323_36 rfl) rfl rfl rfl ?_
  refine s_iconst (pc1 := 1511) (tk (n := 0) t323_37 rfl) rfl rfl  ?_
  refine s_iadd (pc1 := 1512) (tk (n := 1) t323_37 rfl) rfl rfl  ?_
  refine s_iald1 (pc1 := 1513) (tk (n := 2) t323_37 rfl) rfl rfl  ?_
  refine s_aload_n (pc1 := 1514) (tk (n := 3) t323_37 rfl) rfl rfl rfl ?_
  refine s_iload_n (pc1 := 1515) (tk (n := 4) t323_37 rfl) rfl rfl rfl ?_
  refine s_iconst (pc1 := 1516) (tk (n := 5) t323_37 rfl) rfl rfl  ?_
  refine s_iadd (pc1 := 1517) (tk (n := 6) t323_37 rfl) rfl rfl  ?_
  refine s_iald1 (pc1 := 1518) (tk (n := 7) t323_37 rfl) rfl rfl  ?_
  refine s_aload_n (pc1 := 1519) (tk (n := 8) t323_37 rfl) rfl rfl rfl ?_
  refine s_iload_n (pc1 := 1520) (tk (n := 9) t323_37 rfl) rfl rfl rfl ?_
  refine s_iconst (pc1 := 1521) (tk (n := 10) t323_37 rfl) rfl rfl  ?_
  refine s_iadd (pc1 := 1522) (tk (n := 11) t323_37 rfl) rfl rfl  ?_
  refine s_iald1 (pc1 := 1523) (tk (n := 12) t323_37 rfl) rfl rfl  ?_
  refine s_aload_n (pc1 := 1524) (tk (n := 13) t323_37 rfl) rfl rfl rfl ?_
  refine s_iload_n (pc1 := 1525) (tk (n := 14) t323_37 rfl) rfl rfl rfl ?_
  refine s_iconst (pc1 := 1526) (tk (n := 15) t323_37 rfl) rfl rfl  ?_
  refine s_iadd (pc1 := 1527) (tk (n := 16) t323_37 rfl) rfl rfl  ?_
  refine s_iald1 (pc1 := 1528) (tk (n := 17) t323_37 rfl) rfl rfl  ?_
  refine s_call1 (as := [(2, x1), (0, h.2 x0 (w32 (x3 + 1))), (0, h.2 x0 (w32 (x3 + 2))), (0, h.2 x0 (w32 (x3 + 3))), (0, h.2 x0 (w32 (x3 + 4)))]) (st1 := []) (p1 := 1531) (M2 := 146) (tk (n := 18) t323_37 rfl) rfl rfl rfl rfl rfl (fun r22 => ?_)
  refine s_aload_n (pc1 := 1532) (tk (n := 19) t323_37 rfl) rfl rfl rfl ?_
  refine s_aload_n (pc1 := 1533) (tk (n := 20) t323_37 rfl) rfl rfl rfl ?_
  refine s_iload_n (pc1 := 1534) (tk (n := 21) t323_37 rfl) rfl rfl rfl ?_
  refine s_iconst (pc1 := 1535) (tk (n := 22) t323_37 rfl) rfl rfl  ?_
  refine s_iadd (pc1 := 1536) (tk (n := 23) t323_37 rfl) rfl rfl  ?_
  refine s_iald1 (pc1 := 1537) (tk (n := 24) t323_37 rfl) rfl rfl  ?_
  refine s_aload_n (pc1 := 1538) (tk (n := 25) t323_37 rfl) rfl rfl rfl ?_
  refine s_iload_n (pc1 := 1539) (tk (n := 26) t323_37 rfl) rfl rfl rfl ?_
  refine s_iconst (pc1 := 1540) (tk (n := 27) t323_37 rfl) rfl rfl  ?_
  refine s_iadd (pc1 := 1541) (tk (n := 28) t323_37 rfl) rfl rfl  ?_
  refine s_iald1 (pc1 := 1542) (tk (n := 29) t323_37 rfl) rfl rfl  ?_
  refine s_aload_n (pc1 := 1543) (tk (n := 0) t323_38 rfl) rfl rfl rfl ?_
  refine s_iload_n (pc1 := 1544) (tk (n := 1) t323_38 rfl) rfl rfl rfl ?_
  refine s_iconst (pc1 := 1545) (tk (n := 2) t323_38 rfl) rfl rfl  ?_
  refine s_iadd (pc1 := 1546) (tk (n := 3) t323_38 rfl) rfl rfl  ?_
  refine s_iald1 (pc1 := 1547) (tk (n := 4) t323_38 rfl) rfl rfl  ?_
  refine s_aload_n (pc1 := 1548) (tk (n := 5) t323_38 rfl) rfl rfl rfl ?_
  refine s_iload_n (pc1 := 1549) (tk (n := 6) t323_38 rfl) rfl rfl rfl ?_
  refine s_iconst (pc1 := 1550) (tk (n := 7) t323_38 rfl) rfl rfl  ?_
  refine s_iadd (pc1 := 1551) (tk (n := 8) t323_38 rfl) rfl rfl  ?_
  refine s_iald1 (pc1 := 1552) (tk (n := 9) t323_38 rfl) rfl rfl  ?_
  refine s_call1 (as := [(2, x2), (0, r22.2.2 x0 (w32 (x3 + 1))), (0, r22.2.2 x0 (w32 (x3 + 2))), (0, r22.2.2 x0 (w32 (x3 + 3))), (0, r22.2.2 x0 (w32 (x3 + 4)))]) (st1 := [(1, vx r22)]) (p1 := 1555) (M2 := 285) (tk (n := 10) t323_38 rfl) rfl rfl rfl rfl rfl (fun r44 => ?_)
  refine s_lcmp (pc1 := 1556) (tk (n := 11) t323_38 rfl) rfl rfl  ?_
  refine s_if_eq (pc1 := 1559) (pt := 2128) (tk (n := 12) t323_38 rfl) rfl rfl rfl ?_ ?_
  · rfl
  · refine s_iconst (pc1 := 1560) (tk (n := 13) t323_38 rfl) rfl rfl  ?_
    exact s_retY (tk (n := 14) t323_38 rfl) rfl rfl rfl (by decide)
set_option maxRecDepth 100000 in
set_option maxHeartbeats 4000000 in
theorem e_L_law_1561 (x0 : Int) (x1 : Int) (x2 : Int) (x3 : Int) (h : Hq) : vp 323 1561 [(2, x0), (2, x1), (2, x2), (0, x3)] [] h = if x0 = -1 ∧ 0 ≤ (w32 (x3 + 1)) ∧ (w32 (x3 + 1)) < h.2 (-1) (-1) then if x0 = -1 ∧ 0 ≤ (w32 (x3 + 2)) ∧ (w32 (x3 + 2)) < h.2 (-1) (-1) then if x0 = -1 ∧ 0 ≤ (w32 (x3 + 3)) ∧ (w32 (x3 + 3)) < h.2 (-1) (-1) then if x0 = -1 ∧ 0 ≤ (w32 (x3 + 4)) ∧ (w32 (x3 + 4)) < h.2 (-1) (-1) then if 0 < x1 ∧ (kd x1).1 = 11 then (vm 147 [(2, x1), (0, h.2 x0 (w32 (x3 + 1))), (0, h.2 x0 (w32 (x3 + 2))), (0, h.2 x0 (w32 (x3 + 3))), (0, h.2 x0 (w32 (x3 + 4)))] h).bind (fun r22 => if x0 = -1 ∧ 0 ≤ (w32 (x3 + 1)) ∧ (w32 (x3 + 1)) < r22.2.2 (-1) (-1) then if x0 = -1 ∧ 0 ≤ (w32 (x3 + 2)) ∧ (w32 (x3 + 2)) < r22.2.2 (-1) (-1) then if x0 = -1 ∧ 0 ≤ (w32 (x3 + 3)) ∧ (w32 (x3 + 3)) < r22.2.2 (-1) (-1) then if x0 = -1 ∧ 0 ≤ (w32 (x3 + 4)) ∧ (w32 (x3 + 4)) < r22.2.2 (-1) (-1) then if 0 < x2 ∧ (kd x2).1 = 12 then (vm 286 [(2, x2), (0, r22.2.2 x0 (w32 (x3 + 1))), (0, r22.2.2 x0 (w32 (x3 + 2))), (0, r22.2.2 x0 (w32 (x3 + 3))), (0, r22.2.2 x0 (w32 (x3 + 4)))] r22.2).bind (fun r44 => if (vx r22) = (vx r44) then (vp 323 2128 [(2, x0), (2, x1), (2, x2), (0, x3)] [] r44.2) else (some (some (0, 0), r44.2))) else none else none else none else none else none) else none else none else none else none else none := by
  refine s_aload_n (pc1 := 1562) (tk (n := 15) t323_38 rfl) rfl rfl rfl ?_
  refine s_aload_n (pc1 := 1563) (tk (n := 16) t323_38 rfl) rfl rfl rfl ?_
  refine s_iload_n (pc1 := 1564) (tk (n := 17) t323_38 rfl) rfl rfl rfl ?_
  refine s_iconst (pc1 := 1565) (tk (n := 18) t323_38 rfl) rfl rfl  ?_
  refine s_iadd (pc1 := 1566) (tk (n := 19) t323_38 rfl) rfl rfl  ?_
  refine s_iald1 (pc1 := 1567) (tk (n := 20) t323_38 rfl) rfl rfl  ?_
  refine s_aload_n (pc1 := 1568) (tk (n := 21) t323_38 rfl) rfl rfl rfl ?_
  refine s_iload_n (pc1 := 1569) (tk (n := 22) t323_38 rfl) rfl rfl rfl ?_
  refine s_iconst (pc1 := 1570) (tk (n := 23) t323_38 rfl) rfl rfl  ?_
  refine s_iadd (pc1 := 1571) (tk (n := 24) t323_38 rfl) rfl rfl  ?_
  refine s_iald1 (pc1 := 1572) (tk (n := 25) t323_38 rfl) rfl rfl  ?_
  refine s_aload_n (pc1 := 1573) (tk (n := 26) t323_38 rfl) rfl rfl rfl ?_
  refine s_iload_n (pc1 := 1574) (tk (n := 27) t323_38 rfl) rfl rfl rfl ?_
  refine s_iconst (pc1 := 1575) (tk (n := 28) t323_38 rfl) rfl rfl  ?_
  refine s_iadd (pc1 := 1576) (tk (n := 29) t323_38 rfl) rfl rfl  ?_
  refine s_iald1 (pc1 := 1577) (tk (n := 0) t323_39 rfl) rfl rfl  ?_
  refine s_aload_n (pc1 := 1578) (tk (n := 1) t323_39 rfl) rfl rfl rfl ?_
  refine s_iload_n (pc1 := 1579) (tk (n := 2) t323_39 rfl) rfl rfl rfl ?_
  refine s_iconst (pc1 := 1580) (tk (n := 3) t323_39 rfl) rfl rfl  ?_
  refine s_iadd (pc1 := 1581) (tk (n := 4) t323_39 rfl) rfl rfl  ?_
  refine s_iald1 (pc1 := 1582) (tk (n := 5) t323_39 rfl) rfl rfl  ?_
  refine s_call0 (as := [(2, x1), (0, h.2 x0 (w32 (x3 + 1))), (0, h.2 x0 (w32 (x3 + 2))), (0, h.2 x0 (w32 (x3 + 3))), (0, h.2 x0 (w32 (x3 + 4)))]) (st1 := []) (p1 := 1585) (M2 := 147) (tk (n := 6) t323_39 rfl) rfl rfl rfl rfl rfl (fun r22 => ?_)
  refine s_aload_n (pc1 := 1586) (tk (n := 7) t323_39 rfl) rfl rfl rfl ?_
  refine s_aload_n (pc1 := 1587) (tk (n := 8) t323_39 rfl) rfl rfl rfl ?_
  refine s_iload_n (pc1 := 1588) (tk (n := 9) t323_39 rfl) rfl rfl rfl ?_
  refine s_iconst (pc1 := 1589) (tk (n := 10) t323_39 rfl) rfl rfl  ?_
  refine s_iadd (pc1 := 1590) (tk (n := 11) t323_39 rfl) rfl rfl  ?_
  refine s_iald1 (pc1 := 1591) (tk (n := 12) t323_39 rfl) rfl rfl  ?_
  refine s_aload_n (pc1 := 1592) (tk (n := 13) t323_39 rfl) rfl rfl rfl ?_
  refine s_iload_n (pc1 := 1593) (tk (n := 14) t323_39 rfl) rfl rfl rfl ?_
  refine s_iconst (pc1 := 1594) (tk (n := 15) t323_39 rfl) rfl rfl  ?_
  refine s_iadd (pc1 := 1595) (tk (n := 16) t323_39 rfl) rfl rfl  ?_
  refine s_iald1 (pc1 := 1596) (tk (n := 17) t323_39 rfl) rfl rfl  ?_
  refine s_aload_n (pc1 := 1597) (tk (n := 18) t323_39 rfl) rfl rfl rfl ?_
  refine s_iload_n (pc1 := 1598) (tk (n := 19) t323_39 rfl) rfl rfl rfl ?_
  refine s_iconst (pc1 := 1599) (tk (n := 20) t323_39 rfl) rfl rfl  ?_
  refine s_iadd (pc1 := 1600) (tk (n := 21) t323_39 rfl) rfl rfl  ?_
  refine s_iald1 (pc1 := 1601) (tk (n := 22) t323_39 rfl) rfl rfl  ?_
  refine s_aload_n (pc1 := 1602) (tk (n := 23) t323_39 rfl) rfl rfl rfl ?_
  refine s_iload_n (pc1 := 1603) (tk (n := 24) t323_39 rfl) rfl rfl rfl ?_
  refine s_iconst (pc1 := 1604) (tk (n := 25) t323_39 rfl) rfl rfl  ?_
  refine s_iadd (pc1 := 1605) (tk (n := 26) t323_39 rfl) rfl rfl  ?_
  refine s_iald1 (pc1 := 1606) (tk (n := 27) t323_39 rfl) rfl rfl  ?_
  refine s_call0 (as := [(2, x2), (0, r22.2.2 x0 (w32 (x3 + 1))), (0, r22.2.2 x0 (w32 (x3 + 2))), (0, r22.2.2 x0 (w32 (x3 + 3))), (0, r22.2.2 x0 (w32 (x3 + 4)))]) (st1 := [(0, vx r22)]) (p1 := 1609) (M2 := 286) (tk (n := 28) t323_39 rfl) rfl rfl rfl rfl rfl (fun r44 => ?_)
  refine s_ic_eq (pc1 := 1612) (pt := 2128) (tk (n := 29) t323_39 rfl) rfl rfl rfl ?_ ?_
  · rfl
  · refine s_iconst (pc1 := 1613) (tk (n := 0) t323_40 rfl) rfl rfl  ?_
    exact s_retY (tk (n := 1) t323_40 rfl) rfl rfl rfl (by decide)
set_option maxRecDepth 100000 in
set_option maxHeartbeats 4000000 in
theorem e_L_law_1614 (x0 : Int) (x1 : Int) (x2 : Int) (x3 : Int) (h : Hq) : vp 323 1614 [(2, x0), (2, x1), (2, x2), (0, x3)] [] h = if x0 = -1 ∧ 0 ≤ (w32 (x3 + 1)) ∧ (w32 (x3 + 1)) < h.2 (-1) (-1) then if x0 = -1 ∧ 0 ≤ (w32 (x3 + 2)) ∧ (w32 (x3 + 2)) < h.2 (-1) (-1) then if x0 = -1 ∧ 0 ≤ (w32 (x3 + 3)) ∧ (w32 (x3 + 3)) < h.2 (-1) (-1) then if x0 = -1 ∧ 0 ≤ (w32 (x3 + 4)) ∧ (w32 (x3 + 4)) < h.2 (-1) (-1) then if 0 < x1 ∧ (kd x1).1 = 11 then (vm 148 [(2, x1), (0, h.2 x0 (w32 (x3 + 1))), (0, h.2 x0 (w32 (x3 + 2))), (0, h.2 x0 (w32 (x3 + 3))), (0, h.2 x0 (w32 (x3 + 4)))] h).bind (fun r22 => if x0 = -1 ∧ 0 ≤ (w32 (x3 + 1)) ∧ (w32 (x3 + 1)) < r22.2.2 (-1) (-1) then if x0 = -1 ∧ 0 ≤ (w32 (x3 + 2)) ∧ (w32 (x3 + 2)) < r22.2.2 (-1) (-1) then if x0 = -1 ∧ 0 ≤ (w32 (x3 + 3)) ∧ (w32 (x3 + 3)) < r22.2.2 (-1) (-1) then if x0 = -1 ∧ 0 ≤ (w32 (x3 + 4)) ∧ (w32 (x3 + 4)) < r22.2.2 (-1) (-1) then if 0 < x2 ∧ (kd x2).1 = 12 then (vm 290 [(2, x2), (0, r22.2.2 x0 (w32 (x3 + 1))), (0, r22.2.2 x0 (w32 (x3 + 2))), (0, r22.2.2 x0 (w32 (x3 + 3))), (0, r22.2.2 x0 (w32 (x3 + 4)))] r22.2).bind (fun r44 => if (vx r22) = (vx r44) then (vp 323 2128 [(2, x0), (2, x1), (2, x2), (0, x3)] [] r44.2) else (some (some (0, 0), r44.2))) else none else none else none else none else none) else none else none else none else none else none := by
  refine s_aload_n (pc1 := 1615) (tk (n := 2) t323_40 rfl) rfl rfl rfl ?_
  refine s_aload_n (pc1 := 1616) (tk (n := 3) t323_40 rfl) rfl rfl rfl ?_
  refine s_iload_n (pc1 := 1617) (tk (n := 4) t323_40 rfl) rfl rfl rfl ?_
  refine s_iconst (pc1 := 1618) (tk (n := 5) t323_40 rfl) rfl rfl  ?_
  refine s_iadd (pc1 := 1619) (tk (n := 6) t323_40 rfl) rfl rfl  ?_
  refine s_iald1 (pc1 := 1620) (tk (n := 7) t323_40 rfl) rfl rfl  ?_
  refine s_aload_n (pc1 := 1621) (tk (n := 8) t323_40 rfl) rfl rfl rfl ?_
  refine s_iload_n (pc1 := 1622) (tk (n := 9) t323_40 rfl) rfl rfl rfl ?_
  refine s_iconst (pc1 := 1623) (tk (n := 10) t323_40 rfl) rfl rfl  ?_
  refine s_iadd (pc1 := 1624) (tk (n := 11) t323_40 rfl) rfl rfl  ?_
  refine s_iald1 (pc1 := 1625) (tk (n := 12) t323_40 rfl) rfl rfl  ?_
  refine s_aload_n (pc1 := 1626) (tk (n := 13) t323_40 rfl) rfl rfl rfl ?_
  refine s_iload_n (pc1 := 1627) (tk (n := 14) t323_40 rfl) rfl rfl rfl ?_
  refine s_iconst (pc1 := 1628) (tk (n := 15) t323_40 rfl) rfl rfl  ?_
  refine s_iadd (pc1 := 1629) (tk (n := 16) t323_40 rfl) rfl rfl  ?_
  refine s_iald1 (pc1 := 1630) (tk (n := 17) t323_40 rfl) rfl rfl  ?_
  refine s_aload_n (pc1 := 1631) (tk (n := 18) t323_40 rfl) rfl rfl rfl ?_
  refine s_iload_n (pc1 := 1632) (tk (n := 19) t323_40 rfl) rfl rfl rfl ?_
  refine s_iconst (pc1 := 1633) (tk (n := 20) t323_40 rfl) rfl rfl  ?_
  refine s_iadd (pc1 := 1634) (tk (n := 21) t323_40 rfl) rfl rfl  ?_
  refine s_iald1 (pc1 := 1635) (tk (n := 22) t323_40 rfl) rfl rfl  ?_
  refine s_call0 (as := [(2, x1), (0, h.2 x0 (w32 (x3 + 1))), (0, h.2 x0 (w32 (x3 + 2))), (0, h.2 x0 (w32 (x3 + 3))), (0, h.2 x0 (w32 (x3 + 4)))]) (st1 := []) (p1 := 1638) (M2 := 148) (tk (n := 23) t323_40 rfl) rfl rfl rfl rfl rfl (fun r22 => ?_)
  refine s_aload_n (pc1 := 1639) (tk (n := 24) t323_40 rfl) rfl rfl rfl ?_
  refine s_aload_n (pc1 := 1640) (tk (n := 25) t323_40 rfl) rfl rfl rfl ?_
  refine s_iload_n (pc1 := 1641) (tk (n := 26) t323_40 rfl) rfl rfl rfl ?_
  refine s_iconst (pc1 := 1642) (tk (n := 27) t323_40 rfl) rfl rfl  ?_
  refine s_iadd (pc1 := 1643) (tk (n := 28) t323_40 rfl) rfl rfl  ?_
  refine s_iald1 (pc1 := 1644) (tk (n := 29) t323_40 rfl) rfl rfl  ?_
  refine s_aload_n (pc1 := 1645) (tk (n := 0) t323_41 rfl) rfl rfl rfl ?_
  refine s_iload_n (pc1 := 1646) (tk (n := 1) t323_41 rfl) rfl rfl rfl ?_
  refine s_iconst (pc1 := 1647) (tk (n := 2) t323_41 rfl) rfl rfl  ?_
  refine s_iadd (pc1 := 1648) (tk (n := 3) t323_41 rfl) rfl rfl  ?_
  refine s_iald1 (pc1 := 1649) (tk (n := 4) t323_41 rfl) rfl rfl  ?_
  refine s_aload_n (pc1 := 1650) (tk (n := 5) t323_41 rfl) rfl rfl rfl ?_
  refine s_iload_n (pc1 := 1651) (tk (n := 6) t323_41 rfl) rfl rfl rfl ?_
  refine s_iconst (pc1 := 1652) (tk (n := 7) t323_41 rfl) rfl rfl  ?_
  refine s_iadd (pc1 := 1653) (tk (n := 8) t323_41 rfl) rfl rfl  ?_
  refine s_iald1 (pc1 := 1654) (tk (n := 9) t323_41 rfl) rfl rfl  ?_
  refine s_aload_n (pc1 := 1655) (tk (n := 10) t323_41 rfl) rfl rfl rfl ?_
  refine s_iload_n (pc1 := 1656) (tk (n := 11) t323_41 rfl) rfl rfl rfl ?_
  refine s_iconst (pc1 := 1657) (tk (n := 12) t323_41 rfl) rfl rfl  ?_
  refine s_iadd (pc1 := 1658) (tk (n := 13) t323_41 rfl) rfl rfl  ?_
  refine s_iald1 (pc1 := 1659) (tk (n := 14) t323_41 rfl) rfl rfl  ?_
  refine s_call0 (as := [(2, x2), (0, r22.2.2 x0 (w32 (x3 + 1))), (0, r22.2.2 x0 (w32 (x3 + 2))), (0, r22.2.2 x0 (w32 (x3 + 3))), (0, r22.2.2 x0 (w32 (x3 + 4)))]) (st1 := [(0, vx r22)]) (p1 := 1662) (M2 := 290) (tk (n := 15) t323_41 rfl) rfl rfl rfl rfl rfl (fun r44 => ?_)
  refine s_ic_eq (pc1 := 1665) (pt := 2128) (tk (n := 16) t323_41 rfl) rfl rfl rfl ?_ ?_
  · rfl
  · refine s_iconst (pc1 := 1666) (tk (n := 17) t323_41 rfl) rfl rfl  ?_
    exact s_retY (tk (n := 18) t323_41 rfl) rfl rfl rfl (by decide)
set_option maxRecDepth 100000 in
set_option maxHeartbeats 4000000 in
theorem e_L_law_1667 (x0 : Int) (x1 : Int) (x2 : Int) (x3 : Int) (h : Hq) : vp 323 1667 [(2, x0), (2, x1), (2, x2), (0, x3)] [] h = if 0 < x1 ∧ (kd x1).1 = 11 then (vm 149 [(2, x1)] h).bind (fun r2 => if 0 < x2 ∧ (kd x2).1 = 12 then (vm 292 [(2, x2)] r2.2).bind (fun r4 => if (vx r2) = (vx r4) then (vp 323 2128 [(2, x0), (2, x1), (2, x2), (0, x3)] [] r4.2) else (some (some (0, 0), r4.2))) else none) else none := by
  refine s_aload_n (pc1 := 1668) (tk (n := 19) t323_41 rfl) rfl rfl rfl ?_
  refine s_call0 (as := [(2, x1)]) (st1 := []) (p1 := 1671) (M2 := 149) (tk (n := 20) t323_41 rfl) rfl rfl rfl rfl rfl (fun r2 => ?_)
  refine s_aload_n (pc1 := 1672) (tk (n := 21) t323_41 rfl) rfl rfl rfl ?_
  refine s_call0 (as := [(2, x2)]) (st1 := [(0, vx r2)]) (p1 := 1675) (M2 := 292) (tk (n := 22) t323_41 rfl) rfl rfl rfl rfl rfl (fun r4 => ?_)
  refine s_ic_eq (pc1 := 1678) (pt := 2128) (tk (n := 23) t323_41 rfl) rfl rfl rfl ?_ ?_
  · rfl
  · refine s_iconst (pc1 := 1679) (tk (n := 24) t323_41 rfl) rfl rfl  ?_
    exact s_retY (tk (n := 25) t323_41 rfl) rfl rfl rfl (by decide)
set_option maxRecDepth 100000 in
set_option maxHeartbeats 4000000 in
theorem e_L_law_1680 (x0 : Int) (x1 : Int) (x2 : Int) (x3 : Int) (h : Hq) : vp 323 1680 [(2, x0), (2, x1), (2, x2), (0, x3)] [] h = if x0 = -1 ∧ 0 ≤ (w32 (x3 + 1)) ∧ (w32 (x3 + 1)) < h.2 (-1) (-1) then if x0 = -1 ∧ 0 ≤ (w32 (x3 + 2)) ∧ (w32 (x3 + 2)) < h.2 (-1) (-1) then if x0 = -1 ∧ 0 ≤ (w32 (x3 + 3)) ∧ (w32 (x3 + 3)) < h.2 (-1) (-1) then if 0 < x1 ∧ (kd x1).1 = 11 then (vm 150 [(2, x1), (0, h.2 x0 (w32 (x3 + 1))), (0, h.2 x0 (w32 (x3 + 2))), (0, h.2 x0 (w32 (x3 + 3)))] h).bind (fun r17 => if x0 = -1 ∧ 0 ≤ (w32 (x3 + 1)) ∧ (w32 (x3 + 1)) < r17.2.2 (-1) (-1) then if x0 = -1 ∧ 0 ≤ (w32 (x3 + 2)) ∧ (w32 (x3 + 2)) < r17.2.2 (-1) (-1) then if x0 = -1 ∧ 0 ≤ (w32 (x3 + 3)) ∧ (w32 (x3 + 3)) < r17.2.2 (-1) (-1) then if 0 < x2 ∧ (kd x2).1 = 12 then (vm 295 [(2, x2), (0, r17.2.2 x0 (w32 (x3 + 1))), (0, r17.2.2 x0 (w32 (x3 + 2))), (0, r17.2.2 x0 (w32 (x3 + 3)))] r17.2).bind (fun r34 => if (vx r17) = (vx r34) then (vp 323 2128 [(2, x0), (2, x1), (2, x2), (0, x3)] [] r34.2) else (some (some (0, 0), r34.2))) else none else none else none else none) else none else none else none else none := by
  refine s_aload_n (pc1 := 1681) (tk (n := 26) t323_41 rfl) rfl rfl rfl ?_
  refine s_aload_n (pc1 := 1682) (tk (n := 27) t323_41 rfl) rfl rfl rfl ?_
  refine s_iload_n (pc1 := 1683) (tk (n := 28) t323_41 rfl) rfl rfl rfl ?_
  refine s_iconst (pc1 := 1684) (tk (n := 29) t323_41 rfl) rfl rfl  ?_
  refine s_iadd (pc1 := 1685) (tk (n := 0) t323_42 rfl) rfl rfl  ?_
  refine s_iald1 (pc1 := 1686) (tk (n := 1) t323_42 rfl) rfl rfl  ?_
  refine s_aload_n (pc1 := 1687) (tk (n := 2) t323_42 rfl) rfl rfl rfl ?_
  refine s_iload_n (pc1 := 1688) (tk (n := 3) t323_42 rfl) rfl rfl rfl ?_
  refine s_iconst (pc1 := 1689) (tk (n := 4) t323_42 rfl) rfl rfl  ?_
  refine s_iadd (pc1 := 1690) (tk (n := 5) t323_42 rfl) rfl rfl  ?_
  refine s_iald1 (pc1 := 1691) (tk (n := 6) t323_42 rfl) rfl rfl  ?_
  refine s_aload_n (pc1 := 1692) (tk (n := 7) t323_42 rfl) rfl rfl rfl ?_
  refine s_iload_n (pc1 := 1693) (tk (n := 8) t323_42 rfl) rfl rfl rfl ?_
  refine s_iconst (pc1 := 1694) (tk (n := 9) t323_42 rfl) rfl rfl  ?_
  refine s_iadd (pc1 := 1695) (tk (n := 10) t323_42 rfl) rfl rfl  ?_
  refine s_iald1 (pc1 := 1696) (tk (n := 11) t323_42 rfl) rfl rfl  ?_
  refine s_call0 (as := [(2, x1), (0, h.2 x0 (w32 (x3 + 1))), (0, h.2 x0 (w32 (x3 + 2))), (0, h.2 x0 (w32 (x3 + 3)))]) (st1 := []) (p1 := 1699) (M2 := 150) (tk (n := 12) t323_42 rfl) rfl rfl rfl rfl rfl (fun r17 => ?_)
  refine s_aload_n (pc1 := 1700) (tk (n := 13) t323_42 rfl) rfl rfl rfl ?_
  refine s_aload_n (pc1 := 1701) (tk (n := 14) t323_42 rfl) rfl rfl rfl ?_
  refine s_iload_n (pc1 := 1702) (tk (n := 15) t323_42 rfl) rfl rfl rfl ?_
  refine s_iconst (pc1 := 1703) (tk (n := 16) t323_42 rfl) rfl rfl  ?_
  refine s_iadd (pc1 := 1704) (tk (n := 17) t323_42 rfl) rfl rfl  ?_
  refine s_iald1 (pc1 := 1705) (tk (n := 18) t323_42 rfl) rfl rfl  ?_
  refine s_aload_n (pc1 := 1706) (tk (n := 19) t323_42 rfl) rfl rfl rfl ?_
  refine s_iload_n (pc1 := 1707) (tk (n := 20) t323_42 rfl) rfl rfl rfl ?_
  refine s_iconst (pc1 := 1708) (tk (n := 21) t323_42 rfl) rfl rfl  ?_
  refine s_iadd (pc1 := 1709) (tk (n := 22) t323_42 rfl) rfl rfl  ?_
  refine s_iald1 (pc1 := 1710) (tk (n := 23) t323_42 rfl) rfl rfl  ?_
  refine s_aload_n (pc1 := 1711) (tk (n := 24) t323_42 rfl) rfl rfl rfl ?_
  refine s_iload_n (pc1 := 1712) (tk (n := 25) t323_42 rfl) rfl rfl rfl ?_
  refine s_iconst (pc1 := 1713) (tk (n := 26) t323_42 rfl) rfl rfl  ?_
  refine s_iadd (pc1 := 1714) (tk (n := 27) t323_42 rfl) rfl rfl  ?_
  refine s_iald1 (pc1 := 1715) (tk (n := 28) t323_42 rfl) rfl rfl  ?_
  refine s_call0 (as := [(2, x2), (0, r17.2.2 x0 (w32 (x3 + 1))), (0, r17.2.2 x0 (w32 (x3 + 2))), (0, r17.2.2 x0 (w32 (x3 + 3)))]) (st1 := [(0, vx r17)]) (p1 := 1718) (M2 := 295) (tk (n := 29) t323_42 rfl) rfl rfl rfl rfl rfl (fun r34 => ?_)
  refine s_ic_eq (pc1 := 1721) (pt := 2128) (tk (n := 0) t323_43 rfl) rfl rfl rfl ?_ ?_
  · rfl
  · refine s_iconst (pc1 := 1722) (tk (n := 1) t323_43 rfl) rfl rfl  ?_
    exact s_retY (tk (n := 2) t323_43 rfl) rfl rfl rfl (by decide)
set_option maxRecDepth 100000 in
set_option maxHeartbeats 4000000 in
theorem e_L_law_1723 (x0 : Int) (x1 : Int) (x2 : Int) (x3 : Int) (h : Hq) : vp 323 1723 [(2, x0), (2, x1), (2, x2), (0, x3)] [] h = if x0 = -1 ∧ 0 ≤ (w32 (x3 + 1)) ∧ (w32 (x3 + 1)) < h.2 (-1) (-1) then if x0 = -1 ∧ 0 ≤ (w32 (x3 + 2)) ∧ (w32 (x3 + 2)) < h.2 (-1) (-1) then if 0 < x1 ∧ (kd x1).1 = 11 then (vm 151 [(2, x1), (0, h.2 x0 (w32 (x3 + 1))), (0, h.2 x0 (w32 (x3 + 2)))] h).bind (fun r12 => if x0 = -1 ∧ 0 ≤ (w32 (x3 + 1)) ∧ (w32 (x3 + 1)) < r12.2.2 (-1) (-1) then if x0 = -1 ∧ 0 ≤ (w32 (x3 + 2)) ∧ (w32 (x3 + 2)) < r12.2.2 (-1) (-1) then if 0 < x2 ∧ (kd x2).1 = 12 then (vm 300 [(2, x2), (0, r12.2.2 x0 (w32 (x3 + 1))), (0, r12.2.2 x0 (w32 (x3 + 2)))] r12.2).bind (fun r24 => if (vx r12) = (vx r24) then (vp 323 2128 [(2, x0), (2, x1), (2, x2), (0, x3)] [] r24.2) else (some (some (0, 0), r24.2))) else none else none else none) else none else none else none := by
  refine s_aload_n (pc1 := 1724) (tk (n := 3) t323_43 rfl) rfl rfl rfl ?_
  refine s_aload_n (pc1 := 1725) (tk (n := 4) t323_43 rfl) rfl rfl rfl ?_
  refine s_iload_n (pc1 := 1726) (tk (n := 5) t323_43 rfl) rfl rfl rfl ?_
  refine s_iconst (pc1 := 1727) (tk (n := 6) t323_43 rfl) rfl rfl  ?_
  refine s_iadd (pc1 := 1728) (tk (n := 7) t323_43 rfl) rfl rfl  ?_
  refine s_iald1 (pc1 := 1729) (tk (n := 8) t323_43 rfl) rfl rfl  ?_
  refine s_aload_n (pc1 := 1730) (tk (n := 9) t323_43 rfl) rfl rfl rfl ?_
  refine s_iload_n (pc1 := 1731) (tk (n := 10) t323_43 rfl) rfl rfl rfl ?_
  refine s_iconst (pc1 := 1732) (tk (n := 11) t323_43 rfl) rfl rfl  ?_
  refine s_iadd (pc1 := 1733) (tk (n := 12) t323_43 rfl) rfl rfl  ?_
  refine s_iald1 (pc1 := 1734) (tk (n := 13) t323_43 rfl) rfl rfl  ?_
  refine s_call0 (as := [(2, x1), (0, h.2 x0 (w32 (x3 + 1))), (0, h.2 x0 (w32 (x3 + 2)))]) (st1 := []) (p1 := 1737) (M2 := 151) (tk (n := 14) t323_43 rfl) rfl rfl rfl rfl rfl (fun r12 => ?_)
  refine s_aload_n (pc1 := 1738) (tk (n := 15) t323_43 rfl) rfl rfl rfl ?_
  refine s_aload_n (pc1 := 1739) (tk (n := 16) t323_43 rfl) rfl rfl rfl ?_
  refine s_iload_n (pc1 := 1740) (tk (n := 17) t323_43 rfl) rfl rfl rfl ?_
  refine s_iconst (pc1 := 1741) (tk (n := 18) t323_43 rfl) rfl rfl  ?_
  refine s_iadd (pc1 := 1742) (tk (n := 19) t323_43 rfl) rfl rfl  ?_
  refine s_iald1 (pc1 := 1743) (tk (n := 20) t323_43 rfl) rfl rfl  ?_
  refine s_aload_n (pc1 := 1744) (tk (n := 21) t323_43 rfl) rfl rfl rfl ?_
  refine s_iload_n (pc1 := 1745) (tk (n := 22) t323_43 rfl) rfl rfl rfl ?_
  refine s_iconst (pc1 := 1746) (tk (n := 23) t323_43 rfl) rfl rfl  ?_
  refine s_iadd (pc1 := 1747) (tk (n := 24) t323_43 rfl) rfl rfl  ?_
  refine s_iald1 (pc1 := 1748) (tk (n := 25) t323_43 rfl) rfl rfl  ?_
  refine s_call0 (as := [(2, x2), (0, r12.2.2 x0 (w32 (x3 + 1))), (0, r12.2.2 x0 (w32 (x3 + 2)))]) (st1 := [(0, vx r12)]) (p1 := 1751) (M2 := 300) (tk (n := 26) t323_43 rfl) rfl rfl rfl rfl rfl (fun r24 => ?_)
  refine s_ic_eq (pc1 := 1754) (pt := 2128) (tk (n := 27) t323_43 rfl) rfl rfl rfl ?_ ?_
  · rfl
  · refine s_iconst (pc1 := 1755) (tk (n := 28) t323_43 rfl) rfl rfl  ?_
    exact s_retY (tk (n := 29) t323_43 rfl) rfl rfl rfl (by decide)
set_option maxRecDepth 100000 in
set_option maxHeartbeats 4000000 in
theorem e_L_law_1756 (x0 : Int) (x1 : Int) (x2 : Int) (x3 : Int) (h : Hq) : vp 323 1756 [(2, x0), (2, x1), (2, x2), (0, x3)] [] h = if x0 = -1 ∧ 0 ≤ (w32 (x3 + 1)) ∧ (w32 (x3 + 1)) < h.2 (-1) (-1) then if x0 = -1 ∧ 0 ≤ (w32 (x3 + 2)) ∧ (w32 (x3 + 2)) < h.2 (-1) (-1) then if x0 = -1 ∧ 0 ≤ (w32 (x3 + 3)) ∧ (w32 (x3 + 3)) < h.2 (-1) (-1) then if x0 = -1 ∧ 0 ≤ (w32 (x3 + 4)) ∧ (w32 (x3 + 4)) < h.2 (-1) (-1) then if 0 < x1 ∧ (kd x1).1 = 11 then (vm 152 [(2, x1), (0, h.2 x0 (w32 (x3 + 1))), (0, h.2 x0 (w32 (x3 + 2))), (0, h.2 x0 (w32 (x3 + 3))), (0, h.2 x0 (w32 (x3 + 4)))] h).bind (fun r22 => if x0 = -1 ∧ 0 ≤ (w32 (x3 + 1)) ∧ (w32 (x3 + 1)) < r22.2.2 (-1) (-1) then if x0 = -1 ∧ 0 ≤ (w32 (x3 + 2)) ∧ (w32 (x3 + 2)) < r22.2.2 (-1) (-1) then if x0 = -1 ∧ 0 ≤ (w32 (x3 + 3)) ∧ (w32 (x3 + 3)) < r22.2.2 (-1) (-1) then if x0 = -1 ∧ 0 ≤ (w32 (x3 + 4)) ∧ (w32 (x3 + 4)) < r22.2.2 (-1) (-1) then if 0 < x2 ∧ (kd x2).1 = 12 then (vm 298 [(2, x2), (0, r22.2.2 x0 (w32 (x3 + 1))), (0, r22.2.2 x0 (w32 (x3 + 2))), (0, r22.2.2 x0 (w32 (x3 + 3))), (0, r22.2.2 x0 (w32 (x3 + 4)))] r22.2).bind (fun r44 => if (vx r22) = (vx r44) then (vp 323 2128 [(2, x0), (2, x1), (2, x2), (0, x3)] [] r44.2) else (some (some (0, 0), r44.2))) else none else none else none else none else none) else none else none else none else none else none := by
  refine s_aload_n (pc1 := 1757) (tk (n := 0) t323_44 rfl) rfl rfl rfl ?_
  refine s_aload_n (pc1 := 1758) (tk (n := 1) t323_44 rfl) rfl rfl rfl ?_
  refine s_iload_n (pc1 := 1759) (tk (n := 2) t323_44 rfl) rfl rfl rfl ?_
  refine s_iconst (pc1 := 1760) (tk (n := 3) t323_44 rfl) rfl rfl  ?_
  refine s_iadd (pc1 := 1761) (tk (n := 4) t323_44 rfl) rfl rfl  ?_
  refine s_iald1 (pc1 := 1762) (tk (n := 5) t323_44 rfl) rfl rfl  ?_
  refine s_aload_n (pc1 := 1763) (tk (n := 6) t323_44 rfl) rfl rfl rfl ?_
  refine s_iload_n (pc1 := 1764) (tk (n := 7) t323_44 rfl) rfl rfl rfl ?_
  refine s_iconst (pc1 := 1765) (tk (n := 8) t323_44 rfl) rfl rfl  ?_
  refine s_iadd (pc1 := 1766) (tk (n := 9) t323_44 rfl) rfl rfl  ?_
  refine s_iald1 (pc1 := 1767) (tk (n := 10) t323_44 rfl) rfl rfl  ?_
  refine s_aload_n (pc1 := 1768) (tk (n := 11) t323_44 rfl) rfl rfl rfl ?_
  refine s_iload_n (pc1 := 1769) (tk (n := 12) t323_44 rfl) rfl rfl rfl ?_
  refine s_iconst (pc1 := 1770) (tk (n := 13) t323_44 rfl) rfl rfl  ?_
  refine s_iadd (pc1 := 1771) (tk (n := 14) t323_44 rfl) rfl rfl  ?_
  refine s_iald1 (pc1 := 1772) (tk (n := 15) t323_44 rfl) rfl rfl  ?_
  refine s_aload_n (pc1 := 1773) (tk (n := 16) t323_44 rfl) rfl rfl rfl ?_
  refine s_iload_n (pc1 := 1774) (tk (n := 17) t323_44 rfl) rfl rfl rfl ?_
  refine s_iconst (pc1 := 1775) (tk (n := 18) t323_44 rfl) rfl rfl  ?_
  refine s_iadd (pc1 := 1776) (tk (n := 19) t323_44 rfl) rfl rfl  ?_
  refine s_iald1 (pc1 := 1777) (tk (n := 20) t323_44 rfl) rfl rfl  ?_
  refine s_call0 (as := [(2, x1), (0, h.2 x0 (w32 (x3 + 1))), (0, h.2 x0 (w32 (x3 + 2))), (0, h.2 x0 (w32 (x3 + 3))), (0, h.2 x0 (w32 (x3 + 4)))]) (st1 := []) (p1 := 1780) (M2 := 152) (tk (n := 21) t323_44 rfl) rfl rfl rfl rfl rfl (fun r22 => ?_)
  refine s_aload_n (pc1 := 1781) (tk (n := 22) t323_44 rfl) rfl rfl rfl ?_
  refine s_aload_n (pc1 := 1782) (tk (n := 23) t323_44 rfl) rfl rfl rfl ?_
  refine s_iload_n (pc1 := 1783) (tk (n := 24) t323_44 rfl) rfl rfl rfl ?_
  refine s_iconst (pc1 := 1784) (tk (n := 25) t323_44 rfl) rfl rfl  ?_
  refine s_iadd (pc1 := 1785) (tk (n := 26) t323_44 rfl) rfl rfl  ?_
  refine s_iald1 (pc1 := 1786) (tk (n := 27) t323_44 rfl) rfl rfl  ?_
  refine s_aload_n (pc1 := 1787) (tk (n := 28) t323_44 rfl) rfl rfl rfl ?_
  refine s_iload_n (pc1 := 1788) (tk (n := 29) t323_44 rfl) rfl rfl rfl ?_
  refine s_iconst (pc1 := 1789) (tk (n := 0) t323_45 rfl) rfl rfl  ?_
  refine s_iadd (pc1 := 1790) (tk (n := 1) t323_45 rfl) rfl rfl  ?_
  refine s_iald1 (pc1 := 1791) (tk (n := 2) t323_45 rfl) rfl rfl  ?_
  refine s_aload_n (pc1 := 1792) (tk (n := 3) t323_45 rfl) rfl rfl rfl ?_
  refine s_iload_n (pc1 := 1793) (tk (n := 4) t323_45 rfl) rfl rfl rfl ?_
  refine s_iconst (pc1 := 1794) (tk (n := 5) t323_45 rfl) rfl rfl  ?_
  refine s_iadd (pc1 := 1795) (tk (n := 6) t323_45 rfl) rfl rfl  ?_
  refine s_iald1 (pc1 := 1796) (tk (n := 7) t323_45 rfl) rfl rfl  ?_
  refine s_aload_n (pc1 := 1797) (tk (n := 8) t323_45 rfl) rfl rfl rfl ?_
  refine s_iload_n (pc1 := 1798) (tk (n := 9) t323_45 rfl) rfl rfl rfl ?_
  refine s_iconst (pc1 := 1799) (tk (n := 10) t323_45 rfl) rfl rfl  ?_
  refine s_iadd (pc1 := 1800) (tk (n := 11) t323_45 rfl) rfl rfl  ?_
  refine s_iald1 (pc1 := 1801) (tk (n := 12) t323_45 rfl) rfl rfl  ?_
  refine s_call0 (as := [(2, x2), (0, r22.2.2 x0 (w32 (x3 + 1))), (0, r22.2.2 x0 (w32 (x3 + 2))), (0, r22.2.2 x0 (w32 (x3 + 3))), (0, r22.2.2 x0 (w32 (x3 + 4)))]) (st1 := [(0, vx r22)]) (p1 := 1804) (M2 := 298) (tk (n := 13) t323_45 rfl) rfl rfl rfl rfl rfl (fun r44 => ?_)
  refine s_ic_eq (pc1 := 1807) (pt := 2128) (tk (n := 14) t323_45 rfl) rfl rfl rfl ?_ ?_
  · rfl
  · refine s_iconst (pc1 := 1808) (tk (n := 15) t323_45 rfl) rfl rfl  ?_
    exact s_retY (tk (n := 16) t323_45 rfl) rfl rfl rfl (by decide)
set_option maxRecDepth 100000 in
set_option maxHeartbeats 4000000 in
theorem e_L_law_1809 (x0 : Int) (x1 : Int) (x2 : Int) (x3 : Int) (h : Hq) : vp 323 1809 [(2, x0), (2, x1), (2, x2), (0, x3)] [] h = if x0 = -1 ∧ 0 ≤ (w32 (x3 + 1)) ∧ (w32 (x3 + 1)) < h.2 (-1) (-1) then if x0 = -1 ∧ 0 ≤ (w32 (x3 + 2)) ∧ (w32 (x3 + 2)) < h.2 (-1) (-1) then if x0 = -1 ∧ 0 ≤ (w32 (x3 + 3)) ∧ (w32 (x3 + 3)) < h.2 (-1) (-1) then if 0 < x1 ∧ (kd x1).1 = 11 then (vm 153 [(2, x1), (0, h.2 x0 (w32 (x3 + 1))), (0, h.2 x0 (w32 (x3 + 2))), (0, h.2 x0 (w32 (x3 + 3)))] h).bind (fun r17 => if x0 = -1 ∧ 0 ≤ (w32 (x3 + 1)) ∧ (w32 (x3 + 1)) < r17.2.2 (-1) (-1) then if x0 = -1 ∧ 0 ≤ (w32 (x3 + 2)) ∧ (w32 (x3 + 2)) < r17.2.2 (-1) (-1) then if x0 = -1 ∧ 0 ≤ (w32 (x3 + 3)) ∧ (w32 (x3 + 3)) < r17.2.2 (-1) (-1) then if 0 < x2 ∧ (kd x2).1 = 12 then (vm 299 [(2, x2), (0, r17.2.2 x0 (w32 (x3 + 1))), (0, r17.2.2 x0 (w32 (x3 + 2))), (0, r17.2.2 x0 (w32 (x3 + 3)))] r17.2).bind (fun r34 => if (vx r17) = (vx r34) then (vp 323 2128 [(2, x0), (2, x1), (2, x2), (0, x3)] [] r34.2) else (some (some (0, 0), r34.2))) else none else none else none else none) else none else none else none else none := by
  refine s_aload_n (pc1 := 1810) (tk (n := 17) t323_45 rfl) rfl rfl rfl ?_
  refine s_aload_n (pc1 := 1811) (tk (n := 18) t323_45 rfl) rfl rfl rfl ?_
  refine s_iload_n (pc1 := 1812) (tk (n := 19) t323_45 rfl) rfl rfl rfl ?_
  refine s_iconst (pc1 := 1813) (tk (n := 20) t323_45 rfl) rfl rfl  ?_
  refine s_iadd (pc1 := 1814) (tk (n := 21) t323_45 rfl) rfl rfl  ?_
  refine s_iald1 (pc1 := 1815) (tk (n := 22) t323_45 rfl) rfl rfl  ?_
  refine s_aload_n (pc1 := 1816) (tk (n := 23) t323_45 rfl) rfl rfl rfl ?_
  refine s_iload_n (pc1 := 1817) (tk (n := 24) t323_45 rfl) rfl rfl rfl ?_
  refine s_iconst (pc1 := 1818) (tk (n := 25) t323_45 rfl) rfl rfl  ?_
  refine s_iadd (pc1 := 1819) (tk (n := 26) t323_45 rfl) rfl rfl  ?_
  refine s_iald1 (pc1 := 1820) (tk (n := 27) t323_45 rfl) rfl rfl  ?_
  refine s_aload_n (pc1 := 1821) (tk (n := 28) t323_45 rfl) rfl rfl rfl ?_
  refine s_iload_n (pc1 := 1822) (tk (n := 29) t323_45 rfl) rfl rfl rfl ?_
  refine s_iconst (pc1 := 1823) (tk (n := 0) t323_46 rfl) rfl rfl  ?_
  refine s_iadd (pc1 := 1824) (tk (n := 1) t323_46 rfl) rfl rfl  ?_
  refine s_iald1 (pc1 := 1825) (tk (n := 2) t323_46 rfl) rfl rfl  ?_
  refine s_call0 (as := [(2, x1), (0, h.2 x0 (w32 (x3 + 1))), (0, h.2 x0 (w32 (x3 + 2))), (0, h.2 x0 (w32 (x3 + 3)))]) (st1 := []) (p1 := 1828) (M2 := 153) (tk (n := 3) t323_46 rfl) rfl rfl rfl rfl rfl (fun r17 => ?_)
  refine s_aload_n (pc1 := 1829) (tk (n := 4) t323_46 rfl) rfl rfl rfl ?_
  refine s_aload_n (pc1 := 1830) (tk (n := 5) t323_46 rfl) rfl rfl rfl ?_
  refine s_iload_n (pc1 := 1831) (tk (n := 6) t323_46 rfl) rfl rfl rfl ?_
  refine s_iconst (pc1 := 1832) (tk (n := 7) t323_46 rfl) rfl rfl  ?_
  refine s_iadd (pc1 := 1833) (tk (n := 8) t323_46 rfl) rfl rfl  ?_
  refine s_iald1 (pc1 := 1834) (tk (n := 9) t323_46 rfl) rfl rfl  ?_
  refine s_aload_n (pc1 := 1835) (tk (n := 10) t323_46 rfl) rfl rfl rfl ?_
  refine s_iload_n (pc1 := 1836) (tk (n := 11) t323_46 rfl) rfl rfl rfl ?_
  refine s_iconst (pc1 := 1837) (tk (n := 12) t323_46 rfl) rfl rfl  ?_
  refine s_iadd (pc1 := 1838) (tk (n := 13) t323_46 rfl) rfl rfl  ?_
  refine s_iald1 (pc1 := 1839) (tk (n := 14) t323_46 rfl) rfl rfl  ?_
  refine s_aload_n (pc1 := 1840) (tk (n := 15) t323_46 rfl) rfl rfl rfl ?_
  refine s_iload_n (pc1 := 1841) (tk (n := 16) t323_46 rfl) rfl rfl rfl ?_
  refine s_iconst (pc1 := 1842) (tk (n := 17) t323_46 rfl) rfl rfl  ?_
  refine s_iadd (pc1 := 1843) (tk (n := 18) t323_46 rfl) rfl rfl  ?_
  refine s_iald1 (pc1 := 1844) (tk (n := 19) t323_46 rfl) rfl rfl  ?_
  refine s_call0 (as := [(2, x2), (0, r17.2.2 x0 (w32 (x3 + 1))), (0, r17.2.2 x0 (w32 (x3 + 2))), (0, r17.2.2 x0 (w32 (x3 + 3)))]) (st1 := [(0, vx r17)]) (p1 := 1847) (M2 := 299) (tk (n := 20) t323_46 rfl) rfl rfl rfl rfl rfl (fun r34 => ?_)
  refine s_ic_eq (pc1 := 1850) (pt := 2128) (tk (n := 21) t323_46 rfl) rfl rfl rfl ?_ ?_
  · rfl
  · refine s_iconst (pc1 := 1851) (tk (n := 22) t323_46 rfl) rfl rfl  ?_
    exact s_retY (tk (n := 23) t323_46 rfl) rfl rfl rfl (by decide)
set_option maxRecDepth 100000 in
set_option maxHeartbeats 4000000 in
theorem e_L_law_1852 (x0 : Int) (x1 : Int) (x2 : Int) (x3 : Int) (h : Hq) : vp 323 1852 [(2, x0), (2, x1), (2, x2), (0, x3)] [] h = if x0 = -1 ∧ 0 ≤ (w32 (x3 + 1)) ∧ (w32 (x3 + 1)) < h.2 (-1) (-1) then if x0 = -1 ∧ 0 ≤ (w32 (x3 + 2)) ∧ (w32 (x3 + 2)) < h.2 (-1) (-1) then if x0 = -1 ∧ 0 ≤ (w32 (x3 + 3)) ∧ (w32 (x3 + 3)) < h.2 (-1) (-1) then if x0 = -1 ∧ 0 ≤ (w32 (x3 + 4)) ∧ (w32 (x3 + 4)) < h.2 (-1) (-1) then if 0 < x1 ∧ (kd x1).1 = 11 then (vm 154 [(2, x1), (0, h.2 x0 (w32 (x3 + 1))), (0, h.2 x0 (w32 (x3 + 2))), (0, h.2 x0 (w32 (x3 + 3))), (0, h.2 x0 (w32 (x3 + 4)))] h).bind (fun r22 => if x0 = -1 ∧ 0 ≤ (w32 (x3 + 1)) ∧ (w32 (x3 + 1)) < r22.2.2 (-1) (-1) then if x0 = -1 ∧ 0 ≤ (w32 (x3 + 2)) ∧ (w32 (x3 + 2)) < r22.2.2 (-1) (-1) then if x0 = -1 ∧ 0 ≤ (w32 (x3 + 3)) ∧ (w32 (x3 + 3)) < r22.2.2 (-1) (-1) then if x0 = -1 ∧ 0 ≤ (w32 (x3 + 4)) ∧ (w32 (x3 + 4)) < r22.2.2 (-1) (-1) then if 0 < x2 ∧ (kd x2).1 = 12 then (vm 249 [(2, x2), (0, r22.2.2 x0 (w32 (x3 + 1))), (0, r22.2.2 x0 (w32 (x3 + 2))), (0, r22.2.2 x0 (w32 (x3 + 3))), (0, r22.2.2 x0 (w32 (x3 + 4)))] r22.2).bind (fun r44 => if (vx r22) = (vx r44) then (vp 323 2128 [(2, x0), (2, x1), (2, x2), (0, x3)] [] r44.2) else (some (some (0, 0), r44.2))) else none else none else none else none else none) else none else none else none else none else none := by
  refine s_aload_n (pc1 := 1853) (tk (n := 24) t323_46 rfl) rfl rfl rfl ?_
  refine s_aload_n (pc1 := 1854) (tk (n := 25) t323_46 rfl) rfl rfl rfl ?_
  refine s_iload_n (pc1 := 1855) (tk (n := 26) t323_46 rfl) rfl rfl rfl ?_
  refine s_iconst (pc1 := 1856) (tk (n := 27) t323_46 rfl) rfl rfl  ?_
  refine s_iadd (pc1 := 1857) (tk (n := 28) t323_46 rfl) rfl rfl  ?_
  refine s_iald1 (pc1 := 1858) (tk (n := 29) t323_46 rfl) rfl rfl  ?_
  refine s_aload_n (pc1 := 1859) (tk (n := 0) t323_47 rfl) rfl rfl rfl ?_
  refine s_iload_n (pc1 := 1860) (tk (n := 1) t323_47 rfl) rfl rfl rfl ?_
  refine s_iconst (pc1 := 1861) (tk (n := 2) t323_47 rfl) rfl rfl  ?_
  refine s_iadd (pc1 := 1862) (tk (n := 3) t323_47 rfl) rfl rfl  ?_
  refine s_iald1 (pc1 := 1863) (tk (n := 4) t323_47 rfl) rfl rfl  ?_
  refine s_aload_n (pc1 := 1864) (tk (n := 5) t323_47 rfl) rfl rfl rfl ?_
  refine s_iload_n (pc1 := 1865) (tk (n := 6) t323_47 rfl) rfl rfl rfl ?_
  refine s_iconst (pc1 := 1866) (tk (n := 7) t323_47 rfl) rfl rfl  ?_
  refine s_iadd (pc1 := 1867) (tk (n := 8) t323_47 rfl) rfl rfl  ?_
  refine s_iald1 (pc1 := 1868) (tk (n := 9) t323_47 rfl) rfl rfl  ?_
  refine s_aload_n (pc1 := 1869) (tk (n := 10) t323_47 rfl) rfl rfl rfl ?_
  refine s_iload_n (pc1 := 1870) (tk (n := 11) t323_47 rfl) rfl rfl rfl ?_
  refine s_iconst (pc1 := 1871) (tk (n := 12) t323_47 rfl) rfl rfl  ?_
  refine s_iadd (pc1 := 1872) (tk (n := 13) t323_47 rfl) rfl rfl  ?_
  refine s_iald1 (pc1 := 1873) (tk (n := 14) t323_47 rfl) rfl rfl  ?_
  refine s_call0 (as := [(2, x1), (0, h.2 x0 (w32 (x3 + 1))), (0, h.2 x0 (w32 (x3 + 2))), (0, h.2 x0 (w32 (x3 + 3))), (0, h.2 x0 (w32 (x3 + 4)))]) (st1 := []) (p1 := 1876) (M2 := 154) (tk (n := 15) t323_47 rfl) rfl rfl rfl rfl rfl (fun r22 => ?_)
  refine s_aload_n (pc1 := 1877) (tk (n := 16) t323_47 rfl) rfl rfl rfl ?_
  refine s_aload_n (pc1 := 1878) (tk (n := 17) t323_47 rfl) rfl rfl rfl ?_
  refine s_iload_n (pc1 := 1879) (tk (n := 18) t323_47 rfl) rfl rfl rfl ?_
  refine s_iconst (pc1 := 1880) (tk (n := 19) t323_47 rfl) rfl rfl  ?_
  refine s_iadd (pc1 := 1881) (tk (n := 20) t323_47 rfl) rfl rfl  ?_
  refine s_iald1 (pc1 := 1882) (tk (n := 21) t323_47 rfl) rfl rfl  ?_
  refine s_aload_n (pc1 := 1883) (tk (n := 22) t323_47 rfl) rfl rfl rfl ?_
  refine s_iload_n (pc1 := 1884) (tk (n := 23) t323_47 rfl) rfl rfl rfl ?_
  refine s_iconst (pc1 := 1885) (tk (n := 24) t323_47 rfl) rfl rfl  ?_
  refine s_iadd (pc1 := 1886) (tk (n := 25) t323_47 rfl) rfl rfl  ?_
  refine s_iald1 (pc1 := 1887) (tk (n := 26) t323_47 rfl) rfl rfl  ?_
  refine s_aload_n (pc1 := 1888) (tk (n := 27) t323_47 rfl) rfl rfl rfl ?_
  refine s_iload_n (pc1 := 1889) (tk (n := 28) t323_47 rfl) rfl rfl rfl ?_
  refine s_iconst (pc1 := 1890) (tk (n := 29) t323_47 rfl) rfl rfl  ?_
  refine s_iadd (pc1 := 1891) (tk (n := 0) t323_48 rfl) rfl rfl  ?_
  refine s_iald1 (pc1 := 1892) (tk (n := 1) t323_48 rfl) rfl rfl  ?_
  refine s_aload_n (pc1 := 1893) (tk (n := 2) t323_48 rfl) rfl rfl rfl ?_
  refine s_iload_n (pc1 := 1894) (tk (n := 3) t323_48 rfl) rfl rfl rfl ?_
  refine s_iconst (pc1 := 1895) (tk (n := 4) t323_48 rfl) rfl rfl  ?_
  refine s_iadd (pc1 := 1896) (tk (n := 5) t323_48 rfl) rfl rfl  ?_
  refine s_iald1 (pc1 := 1897) (tk (n := 6) t323_48 rfl) rfl rfl  ?_
  refine s_call0 (as := [(2, x2), (0, r22.2.2 x0 (w32 (x3 + 1))), (0, r22.2.2 x0 (w32 (x3 + 2))), (0, r22.2.2 x0 (w32 (x3 + 3))), (0, r22.2.2 x0 (w32 (x3 + 4)))]) (st1 := [(0, vx r22)]) (p1 := 1900) (M2 := 249) (tk (n := 7) t323_48 rfl) rfl rfl rfl rfl rfl (fun r44 => ?_)
  refine s_ic_eq (pc1 := 1903) (pt := 2128) (tk (n := 8) t323_48 rfl) rfl rfl rfl ?_ ?_
  · rfl
  · refine s_iconst (pc1 := 1904) (tk (n := 9) t323_48 rfl) rfl rfl  ?_
    exact s_retY (tk (n := 10) t323_48 rfl) rfl rfl rfl (by decide)
set_option maxRecDepth 100000 in
set_option maxHeartbeats 4000000 in
theorem e_L_law_1905 (x0 : Int) (x1 : Int) (x2 : Int) (x3 : Int) (h : Hq) : vp 323 1905 [(2, x0), (2, x1), (2, x2), (0, x3)] [] h = if x0 = -1 ∧ 0 ≤ (w32 (x3 + 1)) ∧ (w32 (x3 + 1)) < h.2 (-1) (-1) then if x0 = -1 ∧ 0 ≤ (w32 (x3 + 2)) ∧ (w32 (x3 + 2)) < h.2 (-1) (-1) then if x0 = -1 ∧ 0 ≤ (w32 (x3 + 3)) ∧ (w32 (x3 + 3)) < h.2 (-1) (-1) then if x0 = -1 ∧ 0 ≤ (w32 (x3 + 4)) ∧ (w32 (x3 + 4)) < h.2 (-1) (-1) then if x0 = -1 ∧ 0 ≤ (w32 (x3 + 5)) ∧ (w32 (x3 + 5)) < h.2 (-1) (-1) then if x0 = -1 ∧ 0 ≤ (w32 (x3 + 6)) ∧ (w32 (x3 + 6)) < h.2 (-1) (-1) then if 0 < x1 ∧ (kd x1).1 = 11 then (vm 155 [(2, x1), (0, h.2 x0 (w32 (x3 + 1))), (0, h.2 x0 (w32 (x3 + 2))), (0, h.2 x0 (w32 (x3 + 3))), (0, h.2 x0 (w32 (x3 + 4))), (0, h.2 x0 (w32 (x3 + 5))), (0, h.2 x0 (w32 (x3 + 6)))] h).bind (fun r32 => if x0 = -1 ∧ 0 ≤ (w32 (x3 + 1)) ∧ (w32 (x3 + 1)) < r32.2.2 (-1) (-1) then if x0 = -1 ∧ 0 ≤ (w32 (x3 + 2)) ∧ (w32 (x3 + 2)) < r32.2.2 (-1) (-1) then if x0 = -1 ∧ 0 ≤ (w32 (x3 + 3)) ∧ (w32 (x3 + 3)) < r32.2.2 (-1) (-1) then if x0 = -1 ∧ 0 ≤ (w32 (x3 + 4)) ∧ (w32 (x3 + 4)) < r32.2.2 (-1) (-1) then if x0 = -1 ∧ 0 ≤ (w32 (x3 + 5)) ∧ (w32 (x3 + 5)) < r32.2.2 (-1) (-1) then if x0 = -1 ∧ 0 ≤ (w32 (x3 + 6)) ∧ (w32 (x3 + 6)) < r32.2.2 (-1) (-1) then if 0 < x2 ∧ (kd x2).1 = 12 then (vm 271 [(2, x2), (0, r32.2.2 x0 (w32 (x3 + 1))), (0, r32.2.2 x0 (w32 (x3 + 2))), (0, r32.2.2 x0 (w32 (x3 + 3))), (0, r32.2.2 x0 (w32 (x3 + 4))), (0, r32.2.2 x0 (w32 (x3 + 5))), (0, r32.2.2 x0 (w32 (x3 + 6)))] r32.2).bind (fun r64 => if (vx r32) = (vx r64) then (vp 323 2128 [(2, x0), (2, x1), (2, x2), (0, x3)] [] r64.2) else (some (some (0, 0), r64.2))) else none else none else none else none else none else none else none) else none else none else none else none else none else none else none := by
  refine s_aload_n (pc1 := 1906) (tk (n := 11) t323_48 rfl) rfl rfl rfl ?_
  refine s_aload_n (pc1 := 1907) (tk (n := 12) t323_48 rfl) rfl rfl rfl ?_
  refine s_iload_n (pc1 := 1908) (tk (n := 13) t323_48 rfl) rfl rfl rfl ?_
  refine s_iconst (pc1 := 1909) (tk (n := 14) t323_48 rfl) rfl rfl  ?_
  refine s_iadd (pc1 := 1910) (tk (n := 15) t323_48 rfl) rfl rfl  ?_
  refine s_iald1 (pc1 := 1911) (tk (n := 16) t323_48 rfl) rfl rfl  ?_
  refine s_aload_n (pc1 := 1912) (tk (n := 17) t323_48 rfl) rfl rfl rfl ?_
  refine s_iload_n (pc1 := 1913) (tk (n := 18) t323_48 rfl) rfl rfl rfl ?_
  refine s_iconst (pc1 := 1914) (tk (n := 19) t323_48 rfl) rfl rfl  ?_
  refine s_iadd (pc1 := 1915) (tk (n := 20) t323_48 rfl) rfl rfl  ?_
  refine s_iald1 (pc1 := 1916) (tk (n := 21) t323_48 rfl) rfl rfl  ?_
  refine s_aload_n (pc1 := 1917) (tk (n := 22) t323_48 rfl) rfl rfl rfl ?_
  refine s_iload_n (pc1 := 1918) (tk (n := 23) t323_48 rfl) rfl rfl rfl ?_
  refine s_iconst (pc1 := 1919) (tk (n := 24) t323_48 rfl) rfl rfl  ?_
  refine s_iadd (pc1 := 1920) (tk (n := 25) t323_48 rfl) rfl rfl  ?_
  refine s_iald1 (pc1 := 1921) (tk (n := 26) t323_48 rfl) rfl rfl  ?_
  refine s_aload_n (pc1 := 1922) (tk (n := 27) t323_48 rfl) rfl rfl rfl ?_
  refine s_iload_n (pc1 := 1923) (tk (n := 28) t323_48 rfl) rfl rfl rfl ?_
  refine s_iconst (pc1 := 1924) (tk (n := 29) t323_48 rfl) rfl rfl  ?_
  refine s_iadd (pc1 := 1925) (tk (n := 0) t323_49 rfl) rfl rfl  ?_
  refine s_iald1 (pc1 := 1926) (tk (n := 1) t323_49 rfl) rfl rfl  ?_
  refine s_aload_n (pc1 := 1927) (tk (n := 2) t323_49 rfl) rfl rfl rfl ?_
  refine s_iload_n (pc1 := 1928) (tk (n := 3) t323_49 rfl) rfl rfl rfl ?_
  refine s_iconst (pc1 := 1929) (tk (n := 4) t323_49 rfl) rfl rfl  ?_
  refine s_iadd (pc1 := 1930) (tk (n := 5) t323_49 rfl) rfl rfl  ?_
  refine s_iald1 (pc1 := 1931) (tk (n := 6) t323_49 rfl) rfl rfl  ?_
  refine s_aload_n (pc1 := 1932) (tk (n := 7) t323_49 rfl) rfl rfl rfl ?_
  refine s_iload_n (pc1 := 1933) (tk (n := 8) t323_49 rfl) rfl rfl rfl ?_
  refine s_bipush (pc1 := 1935) (tk (n := 9) t323_49 rfl) rfl rfl  ?_
  refine s_iadd (pc1 := 1936) (tk (n := 10) t323_49 rfl) rfl rfl  ?_
  refine s_iald1 (pc1 := 1937) (tk (n := 11) t323_49 rfl) rfl rfl  ?_
  refine s_call0 (as := [(2, x1), (0, h.2 x0 (w32 (x3 + 1))), (0, h.2 x0 (w32 (x3 + 2))), (0, h.2 x0 (w32 (x3 + 3))), (0, h.2 x0 (w32 (x3 + 4))), (0, h.2 x0 (w32 (x3 + 5))), (0, h.2 x0 (w32 (x3 + 6)))]) (st1 := []) (p1 := 1940) (M2 := 155) (tk (n := 12) t323_49 rfl) rfl rfl rfl rfl rfl (fun r32 => ?_)
  refine s_aload_n (pc1 := 1941) (tk (n := 13) t323_49 rfl) rfl rfl rfl ?_
  refine s_aload_n (pc1 := 1942) (tk (n := 14) t323_49 rfl) rfl rfl rfl ?_
  refine s_iload_n (pc1 := 1943) (tk (n := 15) t323_49 rfl) rfl rfl rfl ?_
  refine s_iconst (pc1 := 1944) (tk (n := 16) t323_49 rfl) rfl rfl  ?_
  refine s_iadd (pc1 := 1945) (tk (n := 17) t323_49 rfl) rfl rfl  ?_
  refine s_iald1 (pc1 := 1946) (tk (n := 18) t323_49 rfl) rfl rfl  ?_
  refine s_aload_n (pc1 := 1947) (tk (n := 19) t323_49 rfl) rfl rfl rfl ?_
  refine s_iload_n (pc1 := 1948) (tk (n := 20) t323_49 rfl) rfl rfl rfl ?_
  refine s_iconst (pc1 := 1949) (tk (n := 21) t323_49 rfl) rfl rfl  ?_
  refine s_iadd (pc1 := 1950) (tk (n := 22) t323_49 rfl) rfl rfl  ?_
  refine s_iald1 (pc1 := 1951) (tk (n := 23) t323_49 rfl) rfl rfl  ?_
  refine s_aload_n (pc1 := 1952) (tk (n := 24) t323_49 rfl) rfl rfl rfl ?_
  refine s_iload_n (pc1 := 1953) (tk (n := 25) t323_49 rfl) rfl rfl rfl ?_
  refine s_iconst (pc1 := 1954) (tk (n := 26) t323_49 rfl) rfl rfl  ?_
  refine s_iadd (pc1 := 1955) (tk (n := 27) t323_49 rfl) rfl rfl  ?_
  refine s_iald1 (pc1 := 1956) (tk (n := 28) t323_49 rfl) rfl rfl  ?_
  refine s_aload_n (pc1 := 1957) (tk (n := 29) t323_49 rfl) rfl rfl rfl ?_
  refine s_iload_n (pc1 := 1958) (tk (n := 0) t323_50 rfl) rfl rfl rfl ?_
  refine s_iconst (pc1 := 1959) (tk (n := 1) t323_50 rfl) rfl rfl  ?_
  refine s_iadd (pc1 := 1960) (tk (n := 2) t323_50 rfl) rfl rfl  ?_
  refine s_iald1 (pc1 := 1961) (tk (n := 3) t323_50 rfl) rfl rfl  ?_
  refine s_aload_n (pc1 := 1962) (tk (n := 4) t323_50 rfl) rfl rfl rfl ?_
  refine s_iload_n (pc1 := 1963) (tk (n := 5) t323_50 rfl) rfl rfl rfl ?_
  refine s_iconst (pc1 := 1964) (tk (n := 6) t323_50 rfl) rfl rfl  ?_
  refine s_iadd (pc1 := 1965) (tk (n := 7) t323_50 rfl) rfl rfl  ?_
  refine s_iald1 (pc1 := 1966) (tk (n := 8) t323_50 rfl) rfl rfl  ?_
  refine s_aload_n (pc1 := 1967) (tk (n := 9) t323_50 rfl) rfl rfl rfl ?_
  refine s_iload_n (pc1 := 1968) (tk (n := 10) t323_50 rfl) rfl rfl rfl ?_
  refine s_bipush (pc1 := 1970) (tk (n := 11) t323_50 rfl) rfl rfl  ?_
  refine s_iadd (pc1 := 1971) (tk (n := 12) t323_50 rfl) rfl rfl  ?_
  refine s_iald1 (pc1 := 1972) (tk (n := 13) t323_50 rfl) rfl rfl  ?_
  refine s_call0 (as := [(2, x2), (0, r32.2.2 x0 (w32 (x3 + 1))), (0, r32.2.2 x0 (w32 (x3 + 2))), (0, r32.2.2 x0 (w32 (x3 + 3))), (0, r32.2.2 x0 (w32 (x3 + 4))), (0, r32.2.2 x0 (w32 (x3 + 5))), (0, r32.2.2 x0 (w32 (x3 + 6)))]) (st1 := [(0, vx r32)]) (p1 := 1975) (M2 := 271) (tk (n := 14) t323_50 rfl) rfl rfl rfl rfl rfl (fun r64 => ?_)
  refine s_ic_eq (pc1 := 1978) (pt := 2128) (tk (n := 15) t323_50 rfl) rfl rfl rfl ?_ ?_
  · rfl
  · refine s_iconst (pc1 := 1979) (tk (n := 16) t323_50 rfl) rfl rfl  ?_
    exact s_retY (tk (n := 17) t323_50 rfl) rfl rfl rfl (by decide)
set_option maxRecDepth 100000 in
set_option maxHeartbeats 4000000 in
theorem e_L_law_1980 (x0 : Int) (x1 : Int) (x2 : Int) (x3 : Int) (h : Hq) : vp 323 1980 [(2, x0), (2, x1), (2, x2), (0, x3)] [] h = if x0 = -1 ∧ 0 ≤ (w32 (x3 + 1)) ∧ (w32 (x3 + 1)) < h.2 (-1) (-1) then if 0 < x1 ∧ (kd x1).1 = 11 then (vm 156 [(2, x1), (0, h.2 x0 (w32 (x3 + 1)))] h).bind (fun r7 => if x0 = -1 ∧ 0 ≤ (w32 (x3 + 1)) ∧ (w32 (x3 + 1)) < r7.2.2 (-1) (-1) then if 0 < x2 ∧ (kd x2).1 = 12 then (vm 261 [(2, x2), (0, r7.2.2 x0 (w32 (x3 + 1)))] r7.2).bind (fun r14 => if (vx r7) = (vx r14) then (vp 323 2128 [(2, x0), (2, x1), (2, x2), (0, x3)] [] r14.2) else (some (some (0, 0), r14.2))) else none else none) else none else none := by
  refine s_aload_n (pc1 := 1981) (tk (n := 18) t323_50 rfl) rfl rfl rfl ?_
  refine s_aload_n (pc1 := 1982) (tk (n := 19) t323_50 rfl) rfl rfl rfl ?_
  refine s_iload_n (pc1 := 1983) (tk (n := 20) t323_50 rfl) rfl rfl rfl ?_
  refine s_iconst (pc1 := 1984) (tk (n := 21) t323_50 rfl) rfl rfl  ?_
  refine s_iadd (pc1 := 1985) (tk (n := 22) t323_50 rfl) rfl rfl  ?_
  refine s_iald1 (pc1 := 1986) (tk (n := 23) t323_50 rfl) rfl rfl  ?_
  refine s_call0 (as := [(2, x1), (0, h.2 x0 (w32 (x3 + 1)))]) (st1 := []) (p1 := 1989) (M2 := 156) (tk (n := 24) t323_50 rfl) rfl rfl rfl rfl rfl (fun r7 => ?_)
  refine s_aload_n (pc1 := 1990) (tk (n := 25) t323_50 rfl) rfl rfl rfl ?_
  refine s_aload_n (pc1 := 1991) (tk (n := 26) t323_50 rfl) rfl rfl rfl ?_
  refine s_iload_n (pc1 := 1992) (tk (n := 27) t323_50 rfl) rfl rfl rfl ?_
  refine s_iconst (pc1 := 1993) (tk (n := 28) t323_50 rfl) rfl rfl  ?_
  refine s_iadd (pc1 := 1994) (tk (n := 29) t323_50 rfl) rfl rfl  ?_
  refine s_iald1 (pc1 := 1995) (tk (n := 0) t323_51 rfl) rfl rfl  ?_
  refine s_call0 (as := [(2, x2), (0, r7.2.2 x0 (w32 (x3 + 1)))]) (st1 := [(0, vx r7)]) (p1 := 1998) (M2 := 261) (tk (n := 1) t323_51 rfl) rfl rfl rfl rfl rfl (fun r14 => ?_)
  refine s_ic_eq (pc1 := 2001) (pt := 2128) (tk (n := 2) t323_51 rfl) rfl rfl rfl ?_ ?_
  · rfl
  · refine s_iconst (pc1 := 2002) (tk (n := 3) t323_51 rfl) rfl rfl  ?_
    exact s_retY (tk (n := 4) t323_51 rfl) rfl rfl rfl (by decide)
set_option maxRecDepth 100000 in
set_option maxHeartbeats 4000000 in
theorem e_L_law_2003 (x0 : Int) (x1 : Int) (x2 : Int) (x3 : Int) (h : Hq) : vp 323 2003 [(2, x0), (2, x1), (2, x2), (0, x3)] [] h = if x0 = -1 ∧ 0 ≤ (w32 (x3 + 1)) ∧ (w32 (x3 + 1)) < h.2 (-1) (-1) then if 0 < x1 ∧ (kd x1).1 = 11 then (vm 157 [(2, x1), (0, h.2 x0 (w32 (x3 + 1)))] h).bind (fun r7 => if x0 = -1 ∧ 0 ≤ (w32 (x3 + 1)) ∧ (w32 (x3 + 1)) < r7.2.2 (-1) (-1) then if 0 < x2 ∧ (kd x2).1 = 12 then (vm 301 [(2, x2), (0, r7.2.2 x0 (w32 (x3 + 1)))] r7.2).bind (fun r14 => if (vx r7) = (vx r14) then (vp 323 2128 [(2, x0), (2, x1), (2, x2), (0, x3)] [] r14.2) else (some (some (0, 0), r14.2))) else none else none) else none else none := by
  refine s_aload_n (pc1 := 2004) (tk (n := 5) t323_51 rfl) rfl rfl rfl ?_
  refine s_aload_n (pc1 := 2005) (tk (n := 6) t323_51 rfl) rfl rfl rfl ?_
  refine s_iload_n (pc1 := 2006) (tk (n := 7) t323_51 rfl) rfl rfl rfl ?_
  refine s_iconst (pc1 := 2007) (tk (n := 8) t323_51 rfl) rfl rfl  ?_
  refine s_iadd (pc1 := 2008) (tk (n := 9) t323_51 rfl) rfl rfl  ?_
  refine s_iald1 (pc1 := 2009) (tk (n := 10) t323_51 rfl) rfl rfl  ?_
  refine s_call0 (as := [(2, x1), (0, h.2 x0 (w32 (x3 + 1)))]) (st1 := []) (p1 := 2012) (M2 := 157) (tk (n := 11) t323_51 rfl) rfl rfl rfl rfl rfl (fun r7 => ?_)
  refine s_aload_n (pc1 := 2013) (tk (n := 12) t323_51 rfl) rfl rfl rfl ?_
  refine s_aload_n (pc1 := 2014) (tk (n := 13) t323_51 rfl) rfl rfl rfl ?_
  refine s_iload_n (pc1 := 2015) (tk (n := 14) t323_51 rfl) rfl rfl rfl ?_
  refine s_iconst (pc1 := 2016) (tk (n := 15) t323_51 rfl) rfl rfl  ?_
  refine s_iadd (pc1 := 2017) (tk (n := 16) t323_51 rfl) rfl rfl  ?_
  refine s_iald1 (pc1 := 2018) (tk (n := 17) t323_51 rfl) rfl rfl  ?_
  refine s_call0 (as := [(2, x2), (0, r7.2.2 x0 (w32 (x3 + 1)))]) (st1 := [(0, vx r7)]) (p1 := 2021) (M2 := 301) (tk (n := 18) t323_51 rfl) rfl rfl rfl rfl rfl (fun r14 => ?_)
  refine s_ic_eq (pc1 := 2024) (pt := 2128) (tk (n := 19) t323_51 rfl) rfl rfl rfl ?_ ?_
  · rfl
  · refine s_iconst (pc1 := 2025) (tk (n := 20) t323_51 rfl) rfl rfl  ?_
    exact s_retY (tk (n := 21) t323_51 rfl) rfl rfl rfl (by decide)
set_option maxRecDepth 100000 in
set_option maxHeartbeats 4000000 in
theorem e_L_law_2026 (x0 : Int) (x1 : Int) (x2 : Int) (x3 : Int) (h : Hq) : vp 323 2026 [(2, x0), (2, x1), (2, x2), (0, x3)] [] h = if x0 = -1 ∧ 0 ≤ (w32 (x3 + 1)) ∧ (w32 (x3 + 1)) < h.2 (-1) (-1) then if x0 = -1 ∧ 0 ≤ (w32 (x3 + 2)) ∧ (w32 (x3 + 2)) < h.2 (-1) (-1) then if 0 < x1 ∧ (kd x1).1 = 11 then (vm 158 [(2, x1), (0, h.2 x0 (w32 (x3 + 1))), (0, h.2 x0 (w32 (x3 + 2)))] h).bind (fun r12 => if x0 = -1 ∧ 0 ≤ (w32 (x3 + 1)) ∧ (w32 (x3 + 1)) < r12.2.2 (-1) (-1) then if x0 = -1 ∧ 0 ≤ (w32 (x3 + 2)) ∧ (w32 (x3 + 2)) < r12.2.2 (-1) (-1) then if 0 < x2 ∧ (kd x2).1 = 12 then (vm 303 [(2, x2), (0, r12.2.2 x0 (w32 (x3 + 1))), (0, r12.2.2 x0 (w32 (x3 + 2)))] r12.2).bind (fun r24 => if (vx r12) = (vx r24) then (vp 323 2128 [(2, x0), (2, x1), (2, x2), (0, x3)] [] r24.2) else (some (some (0, 0), r24.2))) else none else none else none) else none else none else none := by
  refine s_aload_n (pc1 := 2027) (tk (n := 22) t323_51 rfl) rfl rfl rfl ?_
  refine s_aload_n (pc1 := 2028) (tk (n := 23) t323_51 rfl) rfl rfl rfl ?_
  refine s_iload_n (pc1 := 2029) (tk (n := 24) t323_51 rfl) rfl rfl rfl ?_
  refine s_iconst (pc1 := 2030) (tk (n := 25) t323_51 rfl) rfl rfl  ?_
  refine s_iadd (pc1 := 2031) (tk (n := 26) t323_51 rfl) rfl rfl  ?_
  refine s_iald1 (pc1 := 2032) (tk (n := 27) t323_51 rfl) rfl rfl  ?_
  refine s_aload_n (pc1 := 2033) (tk (n := 28) t323_51 rfl) rfl rfl rfl ?_
  refine s_iload_n (pc1 := 2034) (tk (n := 29) t323_51 rfl) rfl rfl rfl ?_
  refine s_iconst (pc1 := 2035) (tk (n := 0) t323_52 rfl) rfl rfl  ?_
  refine s_iadd (pc1 := 2036) (tk (n := 1) t323_52 rfl) rfl rfl  ?_
  refine s_iald1 (pc1 := 2037) (tk (n := 2) t323_52 rfl) rfl rfl  ?_
  refine s_call0 (as := [(2, x1), (0, h.2 x0 (w32 (x3 + 1))), (0, h.2 x0 (w32 (x3 + 2)))]) (st1 := []) (p1 := 2040) (M2 := 158) (tk (n := 3) t323_52 rfl) rfl rfl rfl rfl rfl (fun r12 => ?_)
  refine s_aload_n (pc1 := 2041) (tk (n := 4) t323_52 rfl) rfl rfl rfl ?_
  refine s_aload_n (pc1 := 2042) (tk (n := 5) t323_52 rfl) rfl rfl rfl ?_
  refine s_iload_n (pc1 := 2043) (tk (n := 6) t323_52 rfl) rfl rfl rfl ?_
  refine s_iconst (pc1 := 2044) (tk (n := 7) t323_52 rfl) rfl rfl  ?_
  refine s_iadd (pc1 := 2045) (tk (n := 8) t323_52 rfl) rfl rfl  ?_
  refine s_iald1 (pc1 := 2046) (tk (n := 9) t323_52 rfl) rfl rfl  ?_
  refine s_aload_n (pc1 := 2047) (tk (n := 10) t323_52 rfl) rfl rfl rfl ?_
  refine s_iload_n (pc1 := 2048) (tk (n := 11) t323_52 rfl) rfl rfl rfl ?_
  refine s_iconst (pc1 := 2049) (tk (n := 12) t323_52 rfl) rfl rfl  ?_
  refine s_iadd (pc1 := 2050) (tk (n := 13) t323_52 rfl) rfl rfl  ?_
  refine s_iald1 (pc1 := 2051) (tk (n := 14) t323_52 rfl) rfl rfl  ?_
  refine s_call0 (as := [(2, x2), (0, r12.2.2 x0 (w32 (x3 + 1))), (0, r12.2.2 x0 (w32 (x3 + 2)))]) (st1 := [(0, vx r12)]) (p1 := 2054) (M2 := 303) (tk (n := 15) t323_52 rfl) rfl rfl rfl rfl rfl (fun r24 => ?_)
  refine s_ic_eq (pc1 := 2057) (pt := 2128) (tk (n := 16) t323_52 rfl) rfl rfl rfl ?_ ?_
  · rfl
  · refine s_iconst (pc1 := 2058) (tk (n := 17) t323_52 rfl) rfl rfl  ?_
    exact s_retY (tk (n := 18) t323_52 rfl) rfl rfl rfl (by decide)
set_option maxRecDepth 100000 in
set_option maxHeartbeats 4000000 in
theorem e_L_law_2059 (x0 : Int) (x1 : Int) (x2 : Int) (x3 : Int) (h : Hq) : vp 323 2059 [(2, x0), (2, x1), (2, x2), (0, x3)] [] h = if x0 = -1 ∧ 0 ≤ (w32 (x3 + 1)) ∧ (w32 (x3 + 1)) < h.2 (-1) (-1) then if 0 < x1 ∧ (kd x1).1 = 11 then (vm 159 [(2, x1), (0, h.2 x0 (w32 (x3 + 1)))] h).bind (fun r7 => if x0 = -1 ∧ 0 ≤ (w32 (x3 + 1)) ∧ (w32 (x3 + 1)) < r7.2.2 (-1) (-1) then if 0 < x2 ∧ (kd x2).1 = 12 then (vm 305 [(2, x2), (0, r7.2.2 x0 (w32 (x3 + 1)))] r7.2).bind (fun r14 => if (vx r7) = (vx r14) then (vp 323 2128 [(2, x0), (2, x1), (2, x2), (0, x3)] [] r14.2) else (some (some (0, 0), r14.2))) else none else none) else none else none := by
  refine s_aload_n (pc1 := 2060) (tk (n := 19) t323_52 rfl) rfl rfl rfl ?_
  refine s_aload_n (pc1 := 2061) (tk (n := 20) t323_52 rfl) rfl rfl rfl ?_
  refine s_iload_n (pc1 := 2062) (tk (n := 21) t323_52 rfl) rfl rfl rfl ?_
  refine s_iconst (pc1 := 2063) (tk (n := 22) t323_52 rfl) rfl rfl  ?_
  refine s_iadd (pc1 := 2064) (tk (n := 23) t323_52 rfl) rfl rfl  ?_
  refine s_iald1 (pc1 := 2065) (tk (n := 24) t323_52 rfl) rfl rfl  ?_
  refine s_call0 (as := [(2, x1), (0, h.2 x0 (w32 (x3 + 1)))]) (st1 := []) (p1 := 2068) (M2 := 159) (tk (n := 25) t323_52 rfl) rfl rfl rfl rfl rfl (fun r7 => ?_)
  refine s_aload_n (pc1 := 2069) (tk (n := 26) t323_52 rfl) rfl rfl rfl ?_
  refine s_aload_n (pc1 := 2070) (tk (n := 27) t323_52 rfl) rfl rfl rfl ?_
  refine s_iload_n (pc1 := 2071) (tk (n := 28) t323_52 rfl) rfl rfl rfl ?_
  refine s_iconst (pc1 := 2072) (tk (n := 29) t323_52 rfl) rfl rfl  ?_
  refine s_iadd (pc1 := 2073) (tk (n := 0) t323_53 rfl) rfl rfl  ?_
  refine s_iald1 (pc1 := 2074) (tk (n := 1) t323_53 rfl) rfl rfl  ?_
  refine s_call0 (as := [(2, x2), (0, r7.2.2 x0 (w32 (x3 + 1)))]) (st1 := [(0, vx r7)]) (p1 := 2077) (M2 := 305) (tk (n := 2) t323_53 rfl) rfl rfl rfl rfl rfl (fun r14 => ?_)
  refine s_ic_eq (pc1 := 2080) (pt := 2128) (tk (n := 3) t323_53 rfl) rfl rfl rfl ?_ ?_
  · rfl
  · refine s_iconst (pc1 := 2081) (tk (n := 4) t323_53 rfl) rfl rfl  ?_
    exact s_retY (tk (n := 5) t323_53 rfl) rfl rfl rfl (by decide)
set_option maxRecDepth 100000 in
set_option maxHeartbeats 4000000 in
theorem e_L_law_2082 (x0 : Int) (x1 : Int) (x2 : Int) (x3 : Int) (h : Hq) : vp 323 2082 [(2, x0), (2, x1), (2, x2), (0, x3)] [] h = if x0 = -1 ∧ 0 ≤ (w32 (x3 + 1)) ∧ (w32 (x3 + 1)) < h.2 (-1) (-1) then if 0 < x1 ∧ (kd x1).1 = 11 then (vm 160 [(2, x1), (0, h.2 x0 (w32 (x3 + 1)))] h).bind (fun r7 => if x0 = -1 ∧ 0 ≤ (w32 (x3 + 1)) ∧ (w32 (x3 + 1)) < r7.2.2 (-1) (-1) then if 0 < x2 ∧ (kd x2).1 = 12 then (vm 306 [(2, x2), (0, r7.2.2 x0 (w32 (x3 + 1)))] r7.2).bind (fun r14 => if (vx r7) = (vx r14) then (vp 323 2128 [(2, x0), (2, x1), (2, x2), (0, x3)] [] r14.2) else (some (some (0, 0), r14.2))) else none else none) else none else none := by
  refine s_aload_n (pc1 := 2083) (tk (n := 6) t323_53 rfl) rfl rfl rfl ?_
  refine s_aload_n (pc1 := 2084) (tk (n := 7) t323_53 rfl) rfl rfl rfl ?_
  refine s_iload_n (pc1 := 2085) (tk (n := 8) t323_53 rfl) rfl rfl rfl ?_
  refine s_iconst (pc1 := 2086) (tk (n := 9) t323_53 rfl) rfl rfl  ?_
  refine s_iadd (pc1 := 2087) (tk (n := 10) t323_53 rfl) rfl rfl  ?_
  refine s_iald1 (pc1 := 2088) (tk (n := 11) t323_53 rfl) rfl rfl  ?_
  refine s_call0 (as := [(2, x1), (0, h.2 x0 (w32 (x3 + 1)))]) (st1 := []) (p1 := 2091) (M2 := 160) (tk (n := 12) t323_53 rfl) rfl rfl rfl rfl rfl (fun r7 => ?_)
  refine s_aload_n (pc1 := 2092) (tk (n := 13) t323_53 rfl) rfl rfl rfl ?_
  refine s_aload_n (pc1 := 2093) (tk (n := 14) t323_53 rfl) rfl rfl rfl ?_
  refine s_iload_n (pc1 := 2094) (tk (n := 15) t323_53 rfl) rfl rfl rfl ?_
  refine s_iconst (pc1 := 2095) (tk (n := 16) t323_53 rfl) rfl rfl  ?_
  refine s_iadd (pc1 := 2096) (tk (n := 17) t323_53 rfl) rfl rfl  ?_
  refine s_iald1 (pc1 := 2097) (tk (n := 18) t323_53 rfl) rfl rfl  ?_
  refine s_call0 (as := [(2, x2), (0, r7.2.2 x0 (w32 (x3 + 1)))]) (st1 := [(0, vx r7)]) (p1 := 2100) (M2 := 306) (tk (n := 19) t323_53 rfl) rfl rfl rfl rfl rfl (fun r14 => ?_)
  refine s_ic_eq (pc1 := 2103) (pt := 2128) (tk (n := 20) t323_53 rfl) rfl rfl rfl ?_ ?_
  · rfl
  · refine s_iconst (pc1 := 2104) (tk (n := 21) t323_53 rfl) rfl rfl  ?_
    exact s_retY (tk (n := 22) t323_53 rfl) rfl rfl rfl (by decide)
set_option maxRecDepth 100000 in
set_option maxHeartbeats 4000000 in
theorem e_L_law_2105 (x0 : Int) (x1 : Int) (x2 : Int) (x3 : Int) (h : Hq) : vp 323 2105 [(2, x0), (2, x1), (2, x2), (0, x3)] [] h = if x0 = -1 ∧ 0 ≤ (w32 (x3 + 1)) ∧ (w32 (x3 + 1)) < h.2 (-1) (-1) then if 0 < x1 ∧ (kd x1).1 = 11 then (vm 162 [(2, x1), (0, h.2 x0 (w32 (x3 + 1)))] h).bind (fun r7 => if x0 = -1 ∧ 0 ≤ (w32 (x3 + 1)) ∧ (w32 (x3 + 1)) < r7.2.2 (-1) (-1) then if 0 < x2 ∧ (kd x2).1 = 12 then (vm 308 [(2, x2), (0, r7.2.2 x0 (w32 (x3 + 1)))] r7.2).bind (fun r14 => if (vx r7) = (vx r14) then (vp 323 2128 [(2, x0), (2, x1), (2, x2), (0, x3)] [] r14.2) else (some (some (0, 0), r14.2))) else none else none) else none else none := by
  refine s_aload_n (pc1 := 2106) (tk (n := 23) t323_53 rfl) rfl rfl rfl ?_
  refine s_aload_n (pc1 := 2107) (tk (n := 24) t323_53 rfl) rfl rfl rfl ?_
  refine s_iload_n (pc1 := 2108) (tk (n := 25) t323_53 rfl) rfl rfl rfl ?_
  refine s_iconst (pc1 := 2109) (tk (n := 26) t323_53 rfl) rfl rfl  ?_
  refine s_iadd (pc1 := 2110) (tk (n := 27) t323_53 rfl) rfl rfl  ?_
  refine s_iald1 (pc1 := 2111) (tk (n := 28) t323_53 rfl) rfl rfl  ?_
  refine s_call0 (as := [(2, x1), (0, h.2 x0 (w32 (x3 + 1)))]) (st1 := []) (p1 := 2114) (M2 := 162) (tk (n := 29) t323_53 rfl) rfl rfl rfl rfl rfl (fun r7 => ?_)
  refine s_aload_n (pc1 := 2115) (tk (n := 0) t323_54 rfl) rfl rfl rfl ?_
  refine s_aload_n (pc1 := 2116) (tk (n := 1) t323_54 rfl) rfl rfl rfl ?_
  refine s_iload_n (pc1 := 2117) (tk (n := 2) t323_54 rfl) rfl rfl rfl ?_
  refine s_iconst (pc1 := 2118) (tk (n := 3) t323_54 rfl) rfl rfl  ?_
  refine s_iadd (pc1 := 2119) (tk (n := 4) t323_54 rfl) rfl rfl  ?_
  refine s_iald1 (pc1 := 2120) (tk (n := 5) t323_54 rfl) rfl rfl  ?_
  refine s_call0 (as := [(2, x2), (0, r7.2.2 x0 (w32 (x3 + 1)))]) (st1 := [(0, vx r7)]) (p1 := 2123) (M2 := 308) (tk (n := 6) t323_54 rfl) rfl rfl rfl rfl rfl (fun r14 => ?_)
  refine s_ic_eq (pc1 := 2126) (pt := 2128) (tk (n := 7) t323_54 rfl) rfl rfl rfl ?_ ?_
  · rfl
  · refine s_iconst (pc1 := 2127) (tk (n := 8) t323_54 rfl) rfl rfl  ?_
    exact s_retY (tk (n := 9) t323_54 rfl) rfl rfl rfl (by decide)
set_option maxRecDepth 100000 in
set_option maxHeartbeats 4000000 in
theorem e_L_law_2128 (x0 : Int) (x1 : Int) (x2 : Int) (x3 : Int) (h : Hq) : vp 323 2128 [(2, x0), (2, x1), (2, x2), (0, x3)] [] h = vp 323 18 [(2, x0), (2, x1), (2, x2), (0, w32 (x3 + 8))] [] h := by
  refine s_iinc (pc1 := 2131) (ls1 := [(2, x0), (2, x1), (2, x2), (0, w32 (x3 + 8))]) (tk (n := 10) t323_54 rfl) rfl rfl rfl rfl ?_
  refine s_goto (pc1 := 18) (tk (n := 11) t323_54 rfl) rfl rfl ?_
  rfl
