set_option maxRecDepth 100000 in
set_option maxHeartbeats 4000000 in
theorem e_X11_unlike (x0 : Int) (x1 : Int) (x2 : Int) (h : Hq) : vm 119 [(2, x0), (0, x1), (0, x2)] h = if 0 < x0 ∧ (kd x0).1 = 11 then if 0 < (h.2 x0 5) ∧ (kd (h.2 x0 5)).1 = 7 then (vm 46 [(2, h.2 x0 5), (0, x1)] h).bind (fun r4 => if (vx r4) = 0 then (some (some (0, (-1)), r4.2)) else (if 0 < x0 ∧ (kd x0).1 = 11 then if 0 < (r4.2.2 x0 5) ∧ (kd (r4.2.2 x0 5)).1 = 7 then (vm 46 [(2, r4.2.2 x0 5), (0, x2)] r4.2).bind (fun r9 => if (vx r9) ≠ 0 then (if 0 < x0 ∧ (kd x0).1 = 11 then if 0 < (r9.2.2 x0 5) ∧ (kd (r9.2.2 x0 5)).1 = 7 then if (kd (r9.2.2 (r9.2.2 x0 5) 2)).1 = 20 ∧ 0 ≤ x1 ∧ x1 < (kd (r9.2.2 (r9.2.2 x0 5) 2)).2 then if 0 < x0 ∧ (kd x0).1 = 11 then if 0 < (r9.2.2 x0 5) ∧ (kd (r9.2.2 x0 5)).1 = 7 then if (kd (r9.2.2 (r9.2.2 x0 5) 2)).1 = 20 ∧ 0 ≤ x2 ∧ x2 < (kd (r9.2.2 (r9.2.2 x0 5) 2)).2 then (vm 314 [(0, r9.2.2 (r9.2.2 (r9.2.2 x0 5) 2) x1), (0, r9.2.2 (r9.2.2 (r9.2.2 x0 5) 2) x2)] r9.2).bind (fun r21 => vp 119 49 [(2, x0), (0, x1), (0, x2), (0, vx r21), (0, 0)] [] r21.2) else none else none else none else none else none else none) else (some (some (0, (-1)), r9.2))) else none else none)) else none else none := by
  show vp 119 0 [(2, x0), (0, x1), (0, x2), (9, 0), (9, 0)] [] h = _
  refine s_aload_n (pc1 := 1) (tk (n := 0) t119_0 rfl) rfl rfl rfl ?_
  refine s_getf (pc1 := 4) (c := 11) (t1 := 2) (tk (n := 1) t119_0 rfl) rfl rfl (by decide) rfl rfl ?_
  refine s_iload_n (pc1 := 5) (tk (n := 2) t119_0 rfl) rfl rfl rfl ?_
  refine s_call0 (as := [(2, h.2 x0 5), (0, x1)]) (st1 := []) (p1 := 8) (M2 := 46) (tk (n := 3) t119_0 rfl) rfl rfl rfl rfl rfl (fun r4 => ?_)
  refine s_if_eq (pc1 := 11) (pt := 22) (tk (n := 4) t119_0 rfl) rfl rfl rfl ?_ ?_
  · refine s_iconst (pc1 := 23) (tk (n := 10) t119_0 rfl) rfl rfl  ?_
    exact s_ret (tk (n := 11) t119_0 rfl) rfl rfl rfl
  · refine s_aload_n (pc1 := 12) (tk (n := 5) t119_0 rfl) rfl rfl rfl ?_
    refine s_getf (pc1 := 15) (c := 11) (t1 := 2) (tk (n := 6) t119_0 rfl) rfl rfl (by decide) rfl rfl ?_
    refine s_iload_n (pc1 := 16) (tk (n := 7) t119_0 rfl) rfl rfl rfl ?_
    refine s_call0 (as := [(2, r4.2.2 x0 5), (0, x2)]) (st1 := []) (p1 := 19) (M2 := 46) (tk (n := 8) t119_0 rfl) rfl rfl rfl rfl rfl (fun r9 => ?_)
    refine s_if_ne (pc1 := 22) (pt := 24) (tk (n := 9) t119_0 rfl) rfl rfl rfl ?_ ?_
    · refine s_aload_n (pc1 := 25) (tk (n := 12) t119_0 rfl) rfl rfl rfl ?_
      refine s_getf (pc1 := 28) (c := 11) (t1 := 2) (tk (n := 13) t119_0 rfl) rfl rfl (by decide) rfl rfl ?_
      refine s_getf (pc1 := 31) (c := 7) (t1 := 2) (tk (n := 14) t119_0 rfl) rfl rfl (by decide) rfl rfl ?_
      refine s_iload_n (pc1 := 32) (tk (n := 15) t119_0 rfl) rfl rfl rfl ?_
      refine s_iald (pc1 := 33) (tk (n := 16) t119_0 rfl) rfl rfl  ?_
      refine s_aload_n (pc1 := 34) (tk (n := 17) t119_0 rfl) rfl rfl rfl ?_
      refine s_getf (pc1 := 37) (c := 11) (t1 := 2) (tk (n := 18) t119_0 rfl) rfl rfl (by decide) rfl rfl ?_
      refine s_getf (pc1 := 40) (c := 7) (t1 := 2) (tk (n := 19) t119_0 rfl) rfl rfl (by decide) rfl rfl ?_
      refine s_iload_n (pc1 := 41) (tk (n := 20) t119_0 rfl) rfl rfl rfl ?_
      refine s_iald (pc1 := 42) (tk (n := 21) t119_0 rfl) rfl rfl  ?_
      refine s_callS0 (as := [(0, r9.2.2 (r9.2.2 (r9.2.2 x0 5) 2) x1), (0, r9.2.2 (r9.2.2 (r9.2.2 x0 5) 2) x2)]) (st1 := []) (p1 := 45) (M2 := 314) (tk (n := 22) t119_0 rfl) rfl rfl rfl rfl rfl (fun r21 => ?_)
      refine s_istore_n (pc1 := 46) (ls1 := [(2, x0), (0, x1), (0, x2), (0, vx r21), (9, 0)]) (tk (n := 23) t119_0 rfl) rfl rfl rfl rfl ?_
      refine s_iconst (pc1 := 47) (tk (n := 24) t119_0 rfl) rfl rfl  ?_
      refine s_istore (pc1 := 49) (ls1 := [(2, x0), (0, x1), (0, x2), (0, vx r21), (0, 0)]) (tk (n := 25) t119_0 rfl) rfl rfl rfl rfl ?_
      rfl
    · refine s_iconst (pc1 := 23) (tk (n := 10) t119_0 rfl) rfl rfl  ?_
      exact s_ret (tk (n := 11) t119_0 rfl) rfl rfl rfl
set_option maxRecDepth 100000 in
set_option maxHeartbeats 4000000 in
theorem e_X11_unlike_49 (x0 : Int) (x1 : Int) (x2 : Int) (x3 : Int) (x4 : Int) (h : Hq) : vp 119 49 [(2, x0), (0, x1), (0, x2), (0, x3), (0, x4)] [] h = if x4 ≥ x3 then (some (some (0, (-2)), h)) else (if 0 < x0 ∧ (kd x0).1 = 11 then if 0 < (h.2 x0 5) ∧ (kd (h.2 x0 5)).1 = 7 then (vm 47 [(2, h.2 x0 5), (0, x1), (0, x4)] h).bind (fun r8 => if 0 < x0 ∧ (kd x0).1 = 11 then if 0 < (r8.2.2 x0 5) ∧ (kd (r8.2.2 x0 5)).1 = 7 then (vm 47 [(2, r8.2.2 x0 5), (0, x2), (0, x4)] r8.2).bind (fun r13 => if (vx r8) = (vx r13) then (vp 119 49 [(2, x0), (0, x1), (0, x2), (0, x3), (0, w32 (x4 + 1))] [] r13.2) else (some (some (0, x4), r13.2))) else none else none) else none else none) := by
  refine s_iload (pc1 := 51) (tk (n := 26) t119_0 rfl) rfl rfl rfl ?_
  refine s_iload_n (pc1 := 52) (tk (n := 27) t119_0 rfl) rfl rfl rfl ?_
  refine s_ic_ge (pc1 := 55) (pt := 87) (tk (n := 28) t119_0 rfl) rfl rfl rfl ?_ ?_
  · refine s_bipush (pc1 := 89) (tk (n := 14) t119_1 rfl) rfl rfl  ?_
    exact s_ret (tk (n := 15) t119_1 rfl) rfl rfl rfl
  · refine s_aload_n (pc1 := 56) (tk (n := 29) t119_0 rfl) rfl rfl rfl ?_
    refine s_getf (pc1 := 59) (c := 11) (t1 := 2) (tk (n := 0) t119_1 rfl) rfl rfl (by decide) rfl rfl ?_
    refine s_iload_n (pc1 := 60) (tk (n := 1) t119_1 rfl) rfl rfl rfl ?_
    refine s_iload (pc1 := 62) (tk (n := 2) t119_1 rfl) rfl rfl rfl ?_
    refine s_call0 (as := [(2, h.2 x0 5), (0, x1), (0, x4)]) (st1 := []) (p1 := 65) (M2 := 47) (tk (n := 3) t119_1 rfl) rfl rfl rfl rfl rfl (fun r8 => ?_)
    refine s_aload_n (pc1 := 66) (tk (n := 4) t119_1 rfl) rfl rfl rfl ?_
    refine s_getf (pc1 := 69) (c := 11) (t1 := 2) (tk (n := 5) t119_1 rfl) rfl rfl (by decide) rfl rfl ?_
    refine s_iload_n (pc1 := 70) (tk (n := 6) t119_1 rfl) rfl rfl rfl ?_
    refine s_iload (pc1 := 72) (tk (n := 7) t119_1 rfl) rfl rfl rfl ?_
    refine s_call0 (as := [(2, r8.2.2 x0 5), (0, x2), (0, x4)]) (st1 := [(0, vx r8)]) (p1 := 75) (M2 := 47) (tk (n := 8) t119_1 rfl) rfl rfl rfl rfl rfl (fun r13 => ?_)
    refine s_ic_eq (pc1 := 78) (pt := 81) (tk (n := 9) t119_1 rfl) rfl rfl rfl ?_ ?_
    · refine s_iinc (pc1 := 84) (ls1 := [(2, x0), (0, x1), (0, x2), (0, x3), (0, w32 (x4 + 1))]) (tk (n := 12) t119_1 rfl) rfl rfl rfl rfl ?_
      refine s_goto (pc1 := 49) (tk (n := 13) t119_1 rfl) rfl rfl ?_
      rfl
    · refine s_iload (pc1 := 80) (tk (n := 10) t119_1 rfl) rfl rfl rfl ?_
      exact s_ret (tk (n := 11) t119_1 rfl) rfl rfl rfl
set_option maxRecDepth 100000 in
set_option maxHeartbeats 4000000 in
theorem e_X11_total (x0 : Int) (x1 : Int) (h : Hq) : vm 120 [(2, x0), (0, x1)] h = if 0 < x0 ∧ (kd x0).1 = 11 then if 0 < (h.2 x0 5) ∧ (kd (h.2 x0 5)).1 = 7 then (vm 45 [(2, h.2 x0 5), (0, x1)] h).bind (fun r4 => if (vx r4) = 0 then (some (some (1, 0), r4.2)) else (if 0 < x0 ∧ (kd x0).1 = 11 then if 0 < (r4.2.2 x0 5) ∧ (kd (r4.2.2 x0 5)).1 = 7 then (vm 49 [(2, r4.2.2 x0 5), (0, x1)] r4.2).bind (fun r9 => some (some (1, vx r9), r9.2)) else none else none)) else none else none := by
  show vp 120 0 [(2, x0), (0, x1)] [] h = _
  refine s_aload_n (pc1 := 1) (tk (n := 0) t120_0 rfl) rfl rfl rfl ?_
  refine s_getf (pc1 := 4) (c := 11) (t1 := 2) (tk (n := 1) t120_0 rfl) rfl rfl (by decide) rfl rfl ?_
  refine s_iload_n (pc1 := 5) (tk (n := 2) t120_0 rfl) rfl rfl rfl ?_
  refine s_call0 (as := [(2, h.2 x0 5), (0, x1)]) (st1 := []) (p1 := 8) (M2 := 45) (tk (n := 3) t120_0 rfl) rfl rfl rfl rfl rfl (fun r4 => ?_)
  refine s_if_eq (pc1 := 11) (pt := 22) (tk (n := 4) t120_0 rfl) rfl rfl rfl ?_ ?_
  · refine s_lconst (pc1 := 23) (v := 0) (tk (n := 10) t120_0 rfl) rfl rfl rfl ?_
    exact s_ret (tk (n := 11) t120_0 rfl) rfl rfl rfl
  · refine s_aload_n (pc1 := 12) (tk (n := 5) t120_0 rfl) rfl rfl rfl ?_
    refine s_getf (pc1 := 15) (c := 11) (t1 := 2) (tk (n := 6) t120_0 rfl) rfl rfl (by decide) rfl rfl ?_
    refine s_iload_n (pc1 := 16) (tk (n := 7) t120_0 rfl) rfl rfl rfl ?_
    refine s_call1 (as := [(2, r4.2.2 x0 5), (0, x1)]) (st1 := []) (p1 := 19) (M2 := 49) (tk (n := 8) t120_0 rfl) rfl rfl rfl rfl rfl (fun r9 => ?_)
    refine s_goto (pc1 := 23) (tk (n := 9) t120_0 rfl) rfl rfl ?_
    exact s_ret (tk (n := 11) t120_0 rfl) rfl rfl rfl
set_option maxRecDepth 100000 in
set_option maxHeartbeats 4000000 in
theorem e_X11_find (x0 : Int) (x1 : Int) (x2 : Int) (x3 : Int) (h : Hq) : vm 121 [(2, x0), (0, x1), (0, x2), (0, x3)] h = if 0 < x0 ∧ (kd x0).1 = 11 then if 0 < (h.2 x0 5) ∧ (kd (h.2 x0 5)).1 = 7 then (vm 46 [(2, h.2 x0 5), (0, x1)] h).bind (fun r4 => if (vx r4) = 0 then (some (some (0, (-1)), r4.2)) else (if x2 ≥ 0 then (vp 121 20 [(2, x0), (0, x1), (0, x2), (0, x3), (0, x2)] [] r4.2) else (some (some (0, (-1)), r4.2)))) else none else none := by
  show vp 121 0 [(2, x0), (0, x1), (0, x2), (0, x3), (9, 0)] [] h = _
  refine s_aload_n (pc1 := 1) (tk (n := 0) t121_0 rfl) rfl rfl rfl ?_
  refine s_getf (pc1 := 4) (c := 11) (t1 := 2) (tk (n := 1) t121_0 rfl) rfl rfl (by decide) rfl rfl ?_
  refine s_iload_n (pc1 := 5) (tk (n := 2) t121_0 rfl) rfl rfl rfl ?_
  refine s_call0 (as := [(2, h.2 x0 5), (0, x1)]) (st1 := []) (p1 := 8) (M2 := 46) (tk (n := 3) t121_0 rfl) rfl rfl rfl rfl rfl (fun r4 => ?_)
  refine s_if_eq (pc1 := 11) (pt := 15) (tk (n := 4) t121_0 rfl) rfl rfl rfl ?_ ?_
  · refine s_iconst (pc1 := 16) (tk (n := 7) t121_0 rfl) rfl rfl  ?_
    exact s_ret (tk (n := 8) t121_0 rfl) rfl rfl rfl
  · refine s_iload_n (pc1 := 12) (tk (n := 5) t121_0 rfl) rfl rfl rfl ?_
    refine s_if_ge (pc1 := 15) (pt := 17) (tk (n := 6) t121_0 rfl) rfl rfl rfl ?_ ?_
    · refine s_iload_n (pc1 := 18) (tk (n := 9) t121_0 rfl) rfl rfl rfl ?_
      refine s_istore (pc1 := 20) (ls1 := [(2, x0), (0, x1), (0, x2), (0, x3), (0, x2)]) (tk (n := 10) t121_0 rfl) rfl rfl rfl rfl ?_
      rfl
    · refine s_iconst (pc1 := 16) (tk (n := 7) t121_0 rfl) rfl rfl  ?_
      exact s_ret (tk (n := 8) t121_0 rfl) rfl rfl rfl
set_option maxRecDepth 100000 in
set_option maxHeartbeats 4000000 in
theorem e_X11_find_20 (x0 : Int) (x1 : Int) (z2 : Vl) (x3 : Int) (x4 : Int) (h : Hq) : vp 121 20 [(2, x0), (0, x1), z2, (0, x3), (0, x4)] [] h = if 0 < x0 ∧ (kd x0).1 = 11 then if 0 < (h.2 x0 5) ∧ (kd (h.2 x0 5)).1 = 7 then if (kd (h.2 (h.2 x0 5) 2)).1 = 20 ∧ 0 ≤ x1 ∧ x1 < (kd (h.2 (h.2 x0 5) 2)).2 then if x4 ≥ (h.2 (h.2 (h.2 x0 5) 2) x1) then (some (some (0, (-1)), h)) else (if 0 < x0 ∧ (kd x0).1 = 11 then if 0 < (h.2 x0 5) ∧ (kd (h.2 x0 5)).1 = 7 then (vm 47 [(2, h.2 x0 5), (0, x1), (0, x4)] h).bind (fun r12 => if (vx r12) ≠ x3 then (vp 121 20 [(2, x0), (0, x1), (9, 0), (0, x3), (0, w32 (x4 + 1))] [] r12.2) else (some (some (0, x4), r12.2))) else none else none) else none else none else none := by
  refine s_fg (ls1 := [(2, x0), (0, x1), (9, 0), (0, x3), (0, x4)]) (tk (n := 11) t121_0 rfl) rfl ?_
  refine s_iload (pc1 := 22) (tk (n := 11) t121_0 rfl) rfl rfl rfl ?_
  refine s_aload_n (pc1 := 23) (tk (n := 12) t121_0 rfl) rfl rfl rfl ?_
  refine s_getf (pc1 := 26) (c := 11) (t1 := 2) (tk (n := 13) t121_0 rfl) rfl rfl (by decide) rfl rfl ?_
  refine s_getf (pc1 := 29) (c := 7) (t1 := 2) (tk (n := 14) t121_0 rfl) rfl rfl (by decide) rfl rfl ?_
  refine s_iload_n (pc1 := 30) (tk (n := 15) t121_0 rfl) rfl rfl rfl ?_
  refine s_iald (pc1 := 31) (tk (n := 16) t121_0 rfl) rfl rfl  ?_
  refine s_ic_ge (pc1 := 34) (pt := 57) (tk (n := 17) t121_0 rfl) rfl rfl rfl ?_ ?_
  · refine s_iconst (pc1 := 58) (tk (n := 29) t121_0 rfl) rfl rfl  ?_
    exact s_ret (tk (n := 0) t121_1 rfl) rfl rfl rfl
  · refine s_aload_n (pc1 := 35) (tk (n := 18) t121_0 rfl) rfl rfl rfl ?_
    refine s_getf (pc1 := 38) (c := 11) (t1 := 2) (tk (n := 19) t121_0 rfl) rfl rfl (by decide) rfl rfl ?_
    refine s_iload_n (pc1 := 39) (tk (n := 20) t121_0 rfl) rfl rfl rfl ?_
    refine s_iload (pc1 := 41) (tk (n := 21) t121_0 rfl) rfl rfl rfl ?_
    refine s_call0 (as := [(2, h.2 x0 5), (0, x1), (0, x4)]) (st1 := []) (p1 := 44) (M2 := 47) (tk (n := 22) t121_0 rfl) rfl rfl rfl rfl rfl (fun r12 => ?_)
    refine s_iload_n (pc1 := 45) (tk (n := 23) t121_0 rfl) rfl rfl rfl ?_
    refine s_ic_ne (pc1 := 48) (pt := 51) (tk (n := 24) t121_0 rfl) rfl rfl rfl ?_ ?_
    · refine s_iinc (pc1 := 54) (ls1 := [(2, x0), (0, x1), (9, 0), (0, x3), (0, w32 (x4 + 1))]) (tk (n := 27) t121_0 rfl) rfl rfl rfl rfl ?_
      refine s_goto (pc1 := 20) (tk (n := 28) t121_0 rfl) rfl rfl ?_
      rfl
    · refine s_iload (pc1 := 50) (tk (n := 25) t121_0 rfl) rfl rfl rfl ?_
      exact s_ret (tk (n := 26) t121_0 rfl) rfl rfl rfl
set_option maxRecDepth 100000 in
set_option maxHeartbeats 4000000 in
theorem e_X11_loses (x0 : Int) (x1 : Int) (x2 : Int) (h : Hq) : vm 122 [(2, x0), (0, x1), (0, x2)] h = if 0 < x0 ∧ (kd x0).1 = 11 then if 0 < (h.2 x0 5) ∧ (kd (h.2 x0 5)).1 = 7 then (vm 46 [(2, h.2 x0 5), (0, x1)] h).bind (fun r4 => if (vx r4) = 0 then (some (some (0, (-1)), r4.2)) else (if x2 < 0 then (some (some (0, (-1)), r4.2)) else (if x2 ≤ 9 then (vp 122 28 [(2, x0), (0, x1), (0, x2), (0, 0), (0, 0)] [] r4.2) else (some (some (0, (-1)), r4.2))))) else none else none := by
  show vp 122 0 [(2, x0), (0, x1), (0, x2), (9, 0), (9, 0)] [] h = _
  refine s_aload_n (pc1 := 1) (tk (n := 0) t122_0 rfl) rfl rfl rfl ?_
  refine s_getf (pc1 := 4) (c := 11) (t1 := 2) (tk (n := 1) t122_0 rfl) rfl rfl (by decide) rfl rfl ?_
  refine s_iload_n (pc1 := 5) (tk (n := 2) t122_0 rfl) rfl rfl rfl ?_
  refine s_call0 (as := [(2, h.2 x0 5), (0, x1)]) (st1 := []) (p1 := 8) (M2 := 46) (tk (n := 3) t122_0 rfl) rfl rfl rfl rfl rfl (fun r4 => ?_)
  refine s_if_eq (pc1 := 11) (pt := 21) (tk (n := 4) t122_0 rfl) rfl rfl rfl ?_ ?_
  · refine s_iconst (pc1 := 22) (tk (n := 10) t122_0 rfl) rfl rfl  ?_
    exact s_ret (tk (n := 11) t122_0 rfl) rfl rfl rfl
  · refine s_iload_n (pc1 := 12) (tk (n := 5) t122_0 rfl) rfl rfl rfl ?_
    refine s_if_lt (pc1 := 15) (pt := 21) (tk (n := 6) t122_0 rfl) rfl rfl rfl ?_ ?_
    · refine s_iconst (pc1 := 22) (tk (n := 10) t122_0 rfl) rfl rfl  ?_
      exact s_ret (tk (n := 11) t122_0 rfl) rfl rfl rfl
    · refine s_iload_n (pc1 := 16) (tk (n := 7) t122_0 rfl) rfl rfl rfl ?_
      refine s_bipush (pc1 := 18) (tk (n := 8) t122_0 rfl) rfl rfl  ?_
      refine s_ic_le (pc1 := 21) (pt := 23) (tk (n := 9) t122_0 rfl) rfl rfl rfl ?_ ?_
      · refine s_iconst (pc1 := 24) (tk (n := 12) t122_0 rfl) rfl rfl  ?_
        refine s_istore_n (pc1 := 25) (ls1 := [(2, x0), (0, x1), (0, x2), (0, 0), (9, 0)]) (tk (n := 13) t122_0 rfl) rfl rfl rfl rfl ?_
        refine s_iconst (pc1 := 26) (tk (n := 14) t122_0 rfl) rfl rfl  ?_
        refine s_istore (pc1 := 28) (ls1 := [(2, x0), (0, x1), (0, x2), (0, 0), (0, 0)]) (tk (n := 15) t122_0 rfl) rfl rfl rfl rfl ?_
        rfl
      · refine s_iconst (pc1 := 22) (tk (n := 10) t122_0 rfl) rfl rfl  ?_
        exact s_ret (tk (n := 11) t122_0 rfl) rfl rfl rfl
set_option maxRecDepth 100000 in
set_option maxHeartbeats 4000000 in
theorem e_X11_loses_28 (x0 : Int) (x1 : Int) (x2 : Int) (x3 : Int) (x4 : Int) (h : Hq) : vp 122 28 [(2, x0), (0, x1), (0, x2), (0, x3), (0, x4)] [] h = if 0 < x0 ∧ (kd x0).1 = 11 then if 0 < (h.2 x0 5) ∧ (kd (h.2 x0 5)).1 = 7 then if (kd (h.2 (h.2 x0 5) 2)).1 = 20 ∧ 0 ≤ x1 ∧ x1 < (kd (h.2 (h.2 x0 5) 2)).2 then if x4 ≥ (h.2 (h.2 (h.2 x0 5) 2) x1) then (some (some (0, x3), h)) else (if 0 < x0 ∧ (kd x0).1 = 11 then if 0 < (h.2 x0 5) ∧ (kd (h.2 x0 5)).1 = 7 then (vm 48 [(2, h.2 x0 5), (0, x1), (0, x4)] h).bind (fun r13 => (vm 163 [(0, x2), (0, vx r13)] r13.2).bind (fun r14 => if (vx r14) ≠ 0 then (vp 122 28 [(2, x0), (0, x1), (0, x2), (0, x3), (0, w32 (x4 + 1))] [] r14.2) else (vp 122 28 [(2, x0), (0, x1), (0, x2), (0, w32 (x3 + 1)), (0, w32 (x4 + 1))] [] r14.2))) else none else none) else none else none else none := by
  refine s_iload (pc1 := 30) (tk (n := 16) t122_0 rfl) rfl rfl rfl ?_
  refine s_aload_n (pc1 := 31) (tk (n := 17) t122_0 rfl) rfl rfl rfl ?_
  refine s_getf (pc1 := 34) (c := 11) (t1 := 2) (tk (n := 18) t122_0 rfl) rfl rfl (by decide) rfl rfl ?_
  refine s_getf (pc1 := 37) (c := 7) (t1 := 2) (tk (n := 19) t122_0 rfl) rfl rfl (by decide) rfl rfl ?_
  refine s_iload_n (pc1 := 38) (tk (n := 20) t122_0 rfl) rfl rfl rfl ?_
  refine s_iald (pc1 := 39) (tk (n := 21) t122_0 rfl) rfl rfl  ?_
  refine s_ic_ge (pc1 := 42) (pt := 68) (tk (n := 22) t122_0 rfl) rfl rfl rfl ?_ ?_
  · refine s_iload_n (pc1 := 69) (tk (n := 4) t122_1 rfl) rfl rfl rfl ?_
    exact s_ret (tk (n := 5) t122_1 rfl) rfl rfl rfl
  · refine s_iload_n (pc1 := 43) (tk (n := 23) t122_0 rfl) rfl rfl rfl ?_
    refine s_aload_n (pc1 := 44) (tk (n := 24) t122_0 rfl) rfl rfl rfl ?_
    refine s_getf (pc1 := 47) (c := 11) (t1 := 2) (tk (n := 25) t122_0 rfl) rfl rfl (by decide) rfl rfl ?_
    refine s_iload_n (pc1 := 48) (tk (n := 26) t122_0 rfl) rfl rfl rfl ?_
    refine s_iload (pc1 := 50) (tk (n := 27) t122_0 rfl) rfl rfl rfl ?_
    refine s_call0 (as := [(2, h.2 x0 5), (0, x1), (0, x4)]) (st1 := [(0, x2)]) (p1 := 53) (M2 := 48) (tk (n := 28) t122_0 rfl) rfl rfl rfl rfl rfl (fun r13 => ?_)
    refine s_callS0 (as := [(0, x2), (0, vx r13)]) (st1 := []) (p1 := 56) (M2 := 163) (tk (n := 29) t122_0 rfl) rfl rfl rfl rfl rfl (fun r14 => ?_)
    refine s_if_ne (pc1 := 59) (pt := 62) (tk (n := 0) t122_1 rfl) rfl rfl rfl ?_ ?_
    · refine s_iinc (pc1 := 65) (ls1 := [(2, x0), (0, x1), (0, x2), (0, x3), (0, w32 (x4 + 1))]) (tk (n := 2) t122_1 rfl) rfl rfl rfl rfl ?_
      refine s_goto (pc1 := 28) (tk (n := 3) t122_1 rfl) rfl rfl ?_
      rfl
    · refine s_iinc (pc1 := 62) (ls1 := [(2, x0), (0, x1), (0, x2), (0, w32 (x3 + 1)), (0, x4)]) (tk (n := 1) t122_1 rfl) rfl rfl rfl rfl ?_
      refine s_iinc (pc1 := 65) (ls1 := [(2, x0), (0, x1), (0, x2), (0, w32 (x3 + 1)), (0, w32 (x4 + 1))]) (tk (n := 2) t122_1 rfl) rfl rfl rfl rfl ?_
      refine s_goto (pc1 := 28) (tk (n := 3) t122_1 rfl) rfl rfl ?_
      rfl
set_option maxRecDepth 100000 in
set_option maxHeartbeats 4000000 in
theorem e_X11_undo (x0 : Int) (h : Hq) : vm 123 [(2, x0)] h = if 0 < x0 ∧ (kd x0).1 = 11 then if 0 < (h.2 x0 6) ∧ (kd (h.2 x0 6)).1 = 0 then if (h.2 (h.2 x0 6) 3) ≠ 0 then (if 0 < x0 ∧ (kd x0).1 = 11 then if 0 < x0 ∧ (kd x0).1 = 11 then if 0 < (h.2 x0 6) ∧ (kd (h.2 x0 6)).1 = 0 then (vm 6 [(2, h.2 x0 6), (2, h.2 x0 5)] h).bind (fun r9 => if 0 < x0 ∧ (kd x0).1 = 11 then if 0 < (r9.2.2 x0 6) ∧ (kd (r9.2.2 x0 6)).1 = 0 then some (some (0, r9.2.2 (r9.2.2 x0 6) 3), r9.2) else none else none) else none else none else none) else (some (some (0, (-1)), h)) else none else none := by
  show vp 123 0 [(2, x0)] [] h = _
  refine s_aload_n (pc1 := 1) (tk (n := 0) t123_0 rfl) rfl rfl rfl ?_
  refine s_getf (pc1 := 4) (c := 11) (t1 := 2) (tk (n := 1) t123_0 rfl) rfl rfl (by decide) rfl rfl ?_
  refine s_getf (pc1 := 7) (c := 0) (t1 := 0) (tk (n := 2) t123_0 rfl) rfl rfl (by decide) rfl rfl ?_
  refine s_if_ne (pc1 := 10) (pt := 12) (tk (n := 3) t123_0 rfl) rfl rfl rfl ?_ ?_
  · refine s_aload_n (pc1 := 13) (tk (n := 6) t123_0 rfl) rfl rfl rfl ?_
    refine s_getf (pc1 := 16) (c := 11) (t1 := 2) (tk (n := 7) t123_0 rfl) rfl rfl (by decide) rfl rfl ?_
    refine s_aload_n (pc1 := 17) (tk (n := 8) t123_0 rfl) rfl rfl rfl ?_
    refine s_getf (pc1 := 20) (c := 11) (t1 := 2) (tk (n := 9) t123_0 rfl) rfl rfl (by decide) rfl rfl ?_
    refine s_call9 (as := [(2, h.2 x0 6), (2, h.2 x0 5)]) (st1 := []) (p1 := 23) (M2 := 6) (tk (n := 10) t123_0 rfl) rfl rfl rfl rfl rfl (fun r9 => ?_)
    refine s_aload_n (pc1 := 24) (tk (n := 11) t123_0 rfl) rfl rfl rfl ?_
    refine s_getf (pc1 := 27) (c := 11) (t1 := 2) (tk (n := 12) t123_0 rfl) rfl rfl (by decide) rfl rfl ?_
    refine s_getf (pc1 := 30) (c := 0) (t1 := 0) (tk (n := 13) t123_0 rfl) rfl rfl (by decide) rfl rfl ?_
    exact s_ret (tk (n := 14) t123_0 rfl) rfl rfl rfl
  · refine s_iconst (pc1 := 11) (tk (n := 4) t123_0 rfl) rfl rfl  ?_
    exact s_ret (tk (n := 5) t123_0 rfl) rfl rfl rfl
set_option maxRecDepth 100000 in
set_option maxHeartbeats 4000000 in
theorem e_X11_hasTexture (x0 : Int) (x1 : Int) (h : Hq) : vm 124 [(2, x0), (0, x1)] h = if x1 < 0 then (some (some (0, 0), h)) else (if 0 < x0 ∧ (kd x0).1 = 11 then if 0 < (h.2 x0 3) ∧ (kd (h.2 x0 3)).1 = 5 then if x1 ≥ (h.2 (h.2 x0 3) 6) then (some (some (0, 0), h)) else (some (some (0, 1), h)) else none else none) := by
  show vp 124 0 [(2, x0), (0, x1)] [] h = _
  refine s_iload_n (pc1 := 1) (tk (n := 0) t124_0 rfl) rfl rfl rfl ?_
  refine s_if_lt (pc1 := 4) (pt := 19) (tk (n := 1) t124_0 rfl) rfl rfl rfl ?_ ?_
  · refine s_iconst (pc1 := 20) (tk (n := 9) t124_0 rfl) rfl rfl  ?_
    exact s_retY (tk (n := 10) t124_0 rfl) rfl rfl rfl (by decide)
  · refine s_iload_n (pc1 := 5) (tk (n := 2) t124_0 rfl) rfl rfl rfl ?_
    refine s_aload_n (pc1 := 6) (tk (n := 3) t124_0 rfl) rfl rfl rfl ?_
    refine s_getf (pc1 := 9) (c := 11) (t1 := 2) (tk (n := 4) t124_0 rfl) rfl rfl (by decide) rfl rfl ?_
    refine s_getf (pc1 := 12) (c := 5) (t1 := 0) (tk (n := 5) t124_0 rfl) rfl rfl (by decide) rfl rfl ?_
    refine s_ic_ge (pc1 := 15) (pt := 19) (tk (n := 6) t124_0 rfl) rfl rfl rfl ?_ ?_
    · refine s_iconst (pc1 := 20) (tk (n := 9) t124_0 rfl) rfl rfl  ?_
      exact s_retY (tk (n := 10) t124_0 rfl) rfl rfl rfl (by decide)
    · refine s_iconst (pc1 := 16) (tk (n := 7) t124_0 rfl) rfl rfl  ?_
      refine s_goto (pc1 := 20) (tk (n := 8) t124_0 rfl) rfl rfl ?_
      exact s_retY (tk (n := 10) t124_0 rfl) rfl rfl rfl (by decide)
set_option maxRecDepth 100000 in
set_option maxHeartbeats 4000000 in
theorem e_X11_hasLevel (x0 : Int) (x1 : Int) (x2 : Int) (h : Hq) : vm 125 [(2, x0), (0, x1), (0, x2)] h = if 0 < x0 ∧ (kd x0).1 = 11 then (vm 124 [(2, x0), (0, x1)] h).bind (fun r3 => if (vx r3) = 0 then (some (some (0, 0), r3.2)) else (if 0 < x0 ∧ (kd x0).1 = 11 then if 0 < (r3.2.2 x0 3) ∧ (kd (r3.2.2 x0 3)).1 = 5 then if (kd (r3.2.2 (r3.2.2 x0 3) 3)).1 = 25 ∧ 0 ≤ x1 ∧ x1 < (kd (r3.2.2 (r3.2.2 x0 3) 3)).2 then if 0 < (r3.2.2 (r3.2.2 (r3.2.2 x0 3) 3) x1) ∧ (kd (r3.2.2 (r3.2.2 (r3.2.2 x0 3) 3) x1)).1 = 10 then (vm 86 [(2, r3.2.2 (r3.2.2 (r3.2.2 x0 3) 3) x1), (0, x2)] r3.2).bind (fun r11 => if (vx r11) = 0 then (some (some (0, 0), r11.2)) else (some (some (0, 1), r11.2))) else none else none else none else none)) else none := by
  show vp 125 0 [(2, x0), (0, x1), (0, x2)] [] h = _
  refine s_aload_n (pc1 := 1) (tk (n := 0) t125_0 rfl) rfl rfl rfl ?_
  refine s_iload_n (pc1 := 2) (tk (n := 1) t125_0 rfl) rfl rfl rfl ?_
  refine s_call0 (as := [(2, x0), (0, x1)]) (st1 := []) (p1 := 5) (M2 := 124) (tk (n := 2) t125_0 rfl) rfl rfl rfl rfl rfl (fun r3 => ?_)
  refine s_if_eq (pc1 := 8) (pt := 28) (tk (n := 3) t125_0 rfl) rfl rfl rfl ?_ ?_
  · refine s_iconst (pc1 := 29) (tk (n := 14) t125_0 rfl) rfl rfl  ?_
    exact s_retY (tk (n := 15) t125_0 rfl) rfl rfl rfl (by decide)
  · refine s_aload_n (pc1 := 9) (tk (n := 4) t125_0 rfl) rfl rfl rfl ?_
    refine s_getf (pc1 := 12) (c := 11) (t1 := 2) (tk (n := 5) t125_0 rfl) rfl rfl (by decide) rfl rfl ?_
    refine s_getf (pc1 := 15) (c := 5) (t1 := 2) (tk (n := 6) t125_0 rfl) rfl rfl (by decide) rfl rfl ?_
    refine s_iload_n (pc1 := 16) (tk (n := 7) t125_0 rfl) rfl rfl rfl ?_
    refine s_aald (pc1 := 17) (c := 25) (tk (n := 8) t125_0 rfl) rfl rfl rfl ?_
    refine s_iload_n (pc1 := 18) (tk (n := 9) t125_0 rfl) rfl rfl rfl ?_
    refine s_call0 (as := [(2, r3.2.2 (r3.2.2 (r3.2.2 x0 3) 3) x1), (0, x2)]) (st1 := []) (p1 := 21) (M2 := 86) (tk (n := 10) t125_0 rfl) rfl rfl rfl rfl rfl (fun r11 => ?_)
    refine s_if_eq (pc1 := 24) (pt := 28) (tk (n := 11) t125_0 rfl) rfl rfl rfl ?_ ?_
    · refine s_iconst (pc1 := 29) (tk (n := 14) t125_0 rfl) rfl rfl  ?_
      exact s_retY (tk (n := 15) t125_0 rfl) rfl rfl rfl (by decide)
    · refine s_iconst (pc1 := 25) (tk (n := 12) t125_0 rfl) rfl rfl  ?_
      refine s_goto (pc1 := 29) (tk (n := 13) t125_0 rfl) rfl rfl ?_
      exact s_retY (tk (n := 15) t125_0 rfl) rfl rfl rfl (by decide)
set_option maxRecDepth 100000 in
set_option maxHeartbeats 4000000 in
theorem e_X11_hasTexel (x0 : Int) (x1 : Int) (x2 : Int) (x3 : Int) (x4 : Int) (h : Hq) : vm 126 [(2, x0), (0, x1), (0, x2), (0, x3), (0, x4)] h = if 0 < x0 ∧ (kd x0).1 = 11 then (vm 125 [(2, x0), (0, x1), (0, x2)] h).bind (fun r4 => if (vx r4) = 0 then (some (some (0, 0), r4.2)) else (if 0 < x0 ∧ (kd x0).1 = 11 then if 0 < (r4.2.2 x0 3) ∧ (kd (r4.2.2 x0 3)).1 = 5 then if (kd (r4.2.2 (r4.2.2 x0 3) 3)).1 = 25 ∧ 0 ≤ x1 ∧ x1 < (kd (r4.2.2 (r4.2.2 x0 3) 3)).2 then if 0 < (r4.2.2 (r4.2.2 (r4.2.2 x0 3) 3) x1) ∧ (kd (r4.2.2 (r4.2.2 (r4.2.2 x0 3) 3) x1)).1 = 10 then (vm 87 [(2, r4.2.2 (r4.2.2 (r4.2.2 x0 3) 3) x1), (0, x2), (0, x3), (0, x4)] r4.2).bind (fun r14 => if (vx r14) = 0 then (some (some (0, 0), r14.2)) else (some (some (0, 1), r14.2))) else none else none else none else none)) else none := by
  show vp 126 0 [(2, x0), (0, x1), (0, x2), (0, x3), (0, x4)] [] h = _
  refine s_aload_n (pc1 := 1) (tk (n := 0) t126_0 rfl) rfl rfl rfl ?_
  refine s_iload_n (pc1 := 2) (tk (n := 1) t126_0 rfl) rfl rfl rfl ?_
  refine s_iload_n (pc1 := 3) (tk (n := 2) t126_0 rfl) rfl rfl rfl ?_
  refine s_call0 (as := [(2, x0), (0, x1), (0, x2)]) (st1 := []) (p1 := 6) (M2 := 125) (tk (n := 3) t126_0 rfl) rfl rfl rfl rfl rfl (fun r4 => ?_)
  refine s_if_eq (pc1 := 9) (pt := 32) (tk (n := 4) t126_0 rfl) rfl rfl rfl ?_ ?_
  · refine s_iconst (pc1 := 33) (tk (n := 17) t126_0 rfl) rfl rfl  ?_
    exact s_retY (tk (n := 18) t126_0 rfl) rfl rfl rfl (by decide)
  · refine s_aload_n (pc1 := 10) (tk (n := 5) t126_0 rfl) rfl rfl rfl ?_
    refine s_getf (pc1 := 13) (c := 11) (t1 := 2) (tk (n := 6) t126_0 rfl) rfl rfl (by decide) rfl rfl ?_
    refine s_getf (pc1 := 16) (c := 5) (t1 := 2) (tk (n := 7) t126_0 rfl) rfl rfl (by decide) rfl rfl ?_
    refine s_iload_n (pc1 := 17) (tk (n := 8) t126_0 rfl) rfl rfl rfl ?_
    refine s_aald (pc1 := 18) (c := 25) (tk (n := 9) t126_0 rfl) rfl rfl rfl ?_
    refine s_iload_n (pc1 := 19) (tk (n := 10) t126_0 rfl) rfl rfl rfl ?_
    refine s_iload_n (pc1 := 20) (tk (n := 11) t126_0 rfl) rfl rfl rfl ?_
    refine s_iload (pc1 := 22) (tk (n := 12) t126_0 rfl) rfl rfl rfl ?_
    refine s_call0 (as := [(2, r4.2.2 (r4.2.2 (r4.2.2 x0 3) 3) x1), (0, x2), (0, x3), (0, x4)]) (st1 := []) (p1 := 25) (M2 := 87) (tk (n := 13) t126_0 rfl) rfl rfl rfl rfl rfl (fun r14 => ?_)
    refine s_if_eq (pc1 := 28) (pt := 32) (tk (n := 14) t126_0 rfl) rfl rfl rfl ?_ ?_
    · refine s_iconst (pc1 := 33) (tk (n := 17) t126_0 rfl) rfl rfl  ?_
      exact s_retY (tk (n := 18) t126_0 rfl) rfl rfl rfl (by decide)
    · refine s_iconst (pc1 := 29) (tk (n := 15) t126_0 rfl) rfl rfl  ?_
      refine s_goto (pc1 := 33) (tk (n := 16) t126_0 rfl) rfl rfl ?_
      exact s_retY (tk (n := 18) t126_0 rfl) rfl rfl rfl (by decide)
set_option maxRecDepth 100000 in
set_option maxHeartbeats 4000000 in
theorem e_X11_texture (x0 : Int) (x1 : Int) (x2 : Int) (h : Hq) : vm 127 [(2, x0), (0, x1), (0, x2)] h = if 0 < x0 ∧ (kd x0).1 = 11 then (vm 124 [(2, x0), (0, x1)] h).bind (fun r3 => if (vx r3) ≠ 0 then (if 0 < x0 ∧ (kd x0).1 = 11 then if 0 < (r3.2.2 x0 3) ∧ (kd (r3.2.2 x0 3)).1 = 5 then if (kd (r3.2.2 (r3.2.2 x0 3) 3)).1 = 25 ∧ 0 ≤ x1 ∧ x1 < (kd (r3.2.2 (r3.2.2 x0 3) 3)).2 then if x2 = 0 then (if 0 < (r3.2.2 (r3.2.2 (r3.2.2 x0 3) 3) x1) ∧ (kd (r3.2.2 (r3.2.2 (r3.2.2 x0 3) 3) x1)).1 = 10 then some (some (0, r3.2.2 (r3.2.2 (r3.2.2 (r3.2.2 x0 3) 3) x1) 4), r3.2) else none) else (if x2 = 1 then (if 0 < (r3.2.2 (r3.2.2 (r3.2.2 x0 3) 3) x1) ∧ (kd (r3.2.2 (r3.2.2 (r3.2.2 x0 3) 3) x1)).1 = 10 then if (kd (r3.2.2 (r3.2.2 (r3.2.2 (r3.2.2 x0 3) 3) x1) 0)).1 = 20 ∧ 0 ≤ (0 : Int) ∧ (0 : Int) < (kd (r3.2.2 (r3.2.2 (r3.2.2 (r3.2.2 x0 3) 3) x1) 0)).2 then some (some (0, r3.2.2 (r3.2.2 (r3.2.2 (r3.2.2 (r3.2.2 x0 3) 3) x1) 0) 0), r3.2) else none else none) else (if x2 = 2 then (if 0 < (r3.2.2 (r3.2.2 (r3.2.2 x0 3) 3) x1) ∧ (kd (r3.2.2 (r3.2.2 (r3.2.2 x0 3) 3) x1)).1 = 10 then some (some (0, r3.2.2 (r3.2.2 (r3.2.2 (r3.2.2 x0 3) 3) x1) 7), r3.2) else none) else (if x2 = 3 then (if 0 < (r3.2.2 (r3.2.2 (r3.2.2 x0 3) 3) x1) ∧ (kd (r3.2.2 (r3.2.2 (r3.2.2 x0 3) 3) x1)).1 = 10 then some (some (0, r3.2.2 (r3.2.2 (r3.2.2 (r3.2.2 x0 3) 3) x1) 8), r3.2) else none) else (if x2 = 4 then (if 0 < (r3.2.2 (r3.2.2 (r3.2.2 x0 3) 3) x1) ∧ (kd (r3.2.2 (r3.2.2 (r3.2.2 x0 3) 3) x1)).1 = 10 then some (some (0, r3.2.2 (r3.2.2 (r3.2.2 (r3.2.2 x0 3) 3) x1) 9), r3.2) else none) else (if x2 = 5 then (if 0 < (r3.2.2 (r3.2.2 (r3.2.2 x0 3) 3) x1) ∧ (kd (r3.2.2 (r3.2.2 (r3.2.2 x0 3) 3) x1)).1 = 10 then some (some (0, r3.2.2 (r3.2.2 (r3.2.2 (r3.2.2 x0 3) 3) x1) 10), r3.2) else none) else (if x2 = 6 then (if 0 < (r3.2.2 (r3.2.2 (r3.2.2 x0 3) 3) x1) ∧ (kd (r3.2.2 (r3.2.2 (r3.2.2 x0 3) 3) x1)).1 = 10 then some (some (0, r3.2.2 (r3.2.2 (r3.2.2 (r3.2.2 x0 3) 3) x1) 11), r3.2) else none) else (if x2 = 7 then (if 0 < (r3.2.2 (r3.2.2 (r3.2.2 x0 3) 3) x1) ∧ (kd (r3.2.2 (r3.2.2 (r3.2.2 x0 3) 3) x1)).1 = 10 then (vm 85 [(2, r3.2.2 (r3.2.2 (r3.2.2 x0 3) 3) x1)] r3.2).bind (fun r14 => some (some (0, vx r14), r14.2)) else none) else (some (some (0, (-1)), r3.2))))))))) else none else none else none) else (some (some (0, (-1)), r3.2))) else none := by
  show vp 127 0 [(2, x0), (0, x1), (0, x2), (9, 0)] [] h = _
  refine s_aload_n (pc1 := 1) (tk (n := 0) t127_0 rfl) rfl rfl rfl ?_
  refine s_iload_n (pc1 := 2) (tk (n := 1) t127_0 rfl) rfl rfl rfl ?_
  refine s_call0 (as := [(2, x0), (0, x1)]) (st1 := []) (p1 := 5) (M2 := 124) (tk (n := 2) t127_0 rfl) rfl rfl rfl rfl rfl (fun r3 => ?_)
  refine s_if_ne (pc1 := 8) (pt := 10) (tk (n := 3) t127_0 rfl) rfl rfl rfl ?_ ?_
  · refine s_aload_n (pc1 := 11) (tk (n := 6) t127_0 rfl) rfl rfl rfl ?_
    refine s_getf (pc1 := 14) (c := 11) (t1 := 2) (tk (n := 7) t127_0 rfl) rfl rfl (by decide) rfl rfl ?_
    refine s_getf (pc1 := 17) (c := 5) (t1 := 2) (tk (n := 8) t127_0 rfl) rfl rfl (by decide) rfl rfl ?_
    refine s_iload_n (pc1 := 18) (tk (n := 9) t127_0 rfl) rfl rfl rfl ?_
    refine s_aald (pc1 := 19) (c := 25) (tk (n := 10) t127_0 rfl) rfl rfl rfl ?_
    refine s_astore_n (pc1 := 20) (ls1 := [(2, x0), (0, x1), (0, x2), (2, r3.2.2 (r3.2.2 (r3.2.2 x0 3) 3) x1)]) (tk (n := 11) t127_0 rfl) rfl rfl rfl rfl ?_
    refine s_iload_n (pc1 := 21) (tk (n := 12) t127_0 rfl) rfl rfl rfl ?_
    refine s_sw (x := x2) (cs := [(0, 68), (1, 73), (2, 80), (3, 85), (4, 90), (5, 95), (6, 100), (7, 105)]) (p0 := 110) (st1 := []) (tk (n := 13) t127_0 rfl) rfl rfl ?_
    refine s_swC (p1 := 68) rfl ?_ ?_
    · refine s_aload_n (pc1 := 69) (tk (n := 14) t127_0 rfl) rfl rfl rfl ?_
      refine s_getf (pc1 := 72) (c := 10) (t1 := 0) (tk (n := 15) t127_0 rfl) rfl rfl (by decide) rfl rfl ?_
      exact s_ret (tk (n := 16) t127_0 rfl) rfl rfl rfl
    refine s_swC (p1 := 73) rfl ?_ ?_
    · refine s_aload_n (pc1 := 74) (tk (n := 17) t127_0 rfl) rfl rfl rfl ?_
      refine s_getf (pc1 := 77) (c := 10) (t1 := 2) (tk (n := 18) t127_0 rfl) rfl rfl (by decide) rfl rfl ?_
      refine s_iconst (pc1 := 78) (tk (n := 19) t127_0 rfl) rfl rfl  ?_
      refine s_iald (pc1 := 79) (tk (n := 20) t127_0 rfl) rfl rfl  ?_
      exact s_ret (tk (n := 21) t127_0 rfl) rfl rfl rfl
    refine s_swC (p1 := 80) rfl ?_ ?_
    · refine s_aload_n (pc1 := 81) (tk (n := 22) t127_0 rfl) rfl rfl rfl ?_
      refine s_getf (pc1 := 84) (c := 10) (t1 := 0) (tk (n := 23) t127_0 rfl) rfl rfl (by decide) rfl rfl ?_
      exact s_ret (tk (n := 24) t127_0 rfl) rfl rfl rfl
    refine s_swC (p1 := 85) rfl ?_ ?_
    · refine s_aload_n (pc1 := 86) (tk (n := 25) t127_0 rfl) rfl rfl rfl ?_
      refine s_getf (pc1 := 89) (c := 10) (t1 := 0) (tk (n := 26) t127_0 rfl) rfl rfl (by decide) rfl rfl ?_
      exact s_ret (tk (n := 27) t127_0 rfl) rfl rfl rfl
    refine s_swC (p1 := 90) rfl ?_ ?_
    · refine s_aload_n (pc1 := 91) (tk (n := 28) t127_0 rfl) rfl rfl rfl ?_
      refine s_getf (pc1 := 94) (c := 10) (t1 := 0) (tk (n := 29) t127_0 rfl) rfl rfl (by decide) rfl rfl ?_
      exact s_ret (tk (n := 0) t127_1 rfl) rfl rfl rfl
    refine s_swC (p1 := 95) rfl ?_ ?_
    · refine s_aload_n (pc1 := 96) (tk (n := 1) t127_1 rfl) rfl rfl rfl ?_
      refine s_getf (pc1 := 99) (c := 10) (t1 := 0) (tk (n := 2) t127_1 rfl) rfl rfl (by decide) rfl rfl ?_
      exact s_ret (tk (n := 3) t127_1 rfl) rfl rfl rfl
    refine s_swC (p1 := 100) rfl ?_ ?_
    · refine s_aload_n (pc1 := 101) (tk (n := 4) t127_1 rfl) rfl rfl rfl ?_
      refine s_getf (pc1 := 104) (c := 10) (t1 := 0) (tk (n := 5) t127_1 rfl) rfl rfl (by decide) rfl rfl ?_
      exact s_ret (tk (n := 6) t127_1 rfl) rfl rfl rfl
    refine s_swC (p1 := 105) rfl ?_ ?_
    · refine s_aload_n (pc1 := 106) (tk (n := 7) t127_1 rfl) rfl rfl rfl ?_
      refine s_call0 (as := [(2, r3.2.2 (r3.2.2 (r3.2.2 x0 3) 3) x1)]) (st1 := []) (p1 := 109) (M2 := 85) (tk (n := 8) t127_1 rfl) rfl rfl rfl rfl rfl (fun r14 => ?_)
      exact s_ret (tk (n := 9) t127_1 rfl) rfl rfl rfl
    refine s_swN (d1 := 110) rfl ?_
    refine s_iconst (pc1 := 111) (tk (n := 10) t127_1 rfl) rfl rfl  ?_
    exact s_ret (tk (n := 11) t127_1 rfl) rfl rfl rfl
  · refine s_iconst (pc1 := 9) (tk (n := 4) t127_0 rfl) rfl rfl  ?_
    exact s_ret (tk (n := 5) t127_0 rfl) rfl rfl rfl
set_option maxRecDepth 100000 in
set_option maxHeartbeats 4000000 in
theorem e_X11_level (x0 : Int) (x1 : Int) (x2 : Int) (x3 : Int) (h : Hq) : vm 128 [(2, x0), (0, x1), (0, x2), (0, x3)] h = if 0 < x0 ∧ (kd x0).1 = 11 then (vm 125 [(2, x0), (0, x1), (0, x2)] h).bind (fun r4 => if (vx r4) ≠ 0 then (if 0 < x0 ∧ (kd x0).1 = 11 then if 0 < (r4.2.2 x0 3) ∧ (kd (r4.2.2 x0 3)).1 = 5 then if (kd (r4.2.2 (r4.2.2 x0 3) 3)).1 = 25 ∧ 0 ≤ x1 ∧ x1 < (kd (r4.2.2 (r4.2.2 x0 3) 3)).2 then if x3 = 0 then (if 0 < (r4.2.2 (r4.2.2 (r4.2.2 x0 3) 3) x1) ∧ (kd (r4.2.2 (r4.2.2 (r4.2.2 x0 3) 3) x1)).1 = 10 then if (kd (r4.2.2 (r4.2.2 (r4.2.2 (r4.2.2 x0 3) 3) x1) 1)).1 = 20 ∧ 0 ≤ x2 ∧ x2 < (kd (r4.2.2 (r4.2.2 (r4.2.2 (r4.2.2 x0 3) 3) x1) 1)).2 then some (some (0, r4.2.2 (r4.2.2 (r4.2.2 (r4.2.2 (r4.2.2 x0 3) 3) x1) 1) x2), r4.2) else none else none) else (if x3 = 1 then (if 0 < (r4.2.2 (r4.2.2 (r4.2.2 x0 3) 3) x1) ∧ (kd (r4.2.2 (r4.2.2 (r4.2.2 x0 3) 3) x1)).1 = 10 then if (kd (r4.2.2 (r4.2.2 (r4.2.2 (r4.2.2 x0 3) 3) x1) 2)).1 = 20 ∧ 0 ≤ x2 ∧ x2 < (kd (r4.2.2 (r4.2.2 (r4.2.2 (r4.2.2 x0 3) 3) x1) 2)).2 then some (some (0, r4.2.2 (r4.2.2 (r4.2.2 (r4.2.2 (r4.2.2 x0 3) 3) x1) 2) x2), r4.2) else none else none) else (if x3 = 2 then (if 0 < (r4.2.2 (r4.2.2 (r4.2.2 x0 3) 3) x1) ∧ (kd (r4.2.2 (r4.2.2 (r4.2.2 x0 3) 3) x1)).1 = 10 then if (kd (r4.2.2 (r4.2.2 (r4.2.2 (r4.2.2 x0 3) 3) x1) 0)).1 = 20 ∧ 0 ≤ x2 ∧ x2 < (kd (r4.2.2 (r4.2.2 (r4.2.2 (r4.2.2 x0 3) 3) x1) 0)).2 then some (some (0, r4.2.2 (r4.2.2 (r4.2.2 (r4.2.2 (r4.2.2 x0 3) 3) x1) 0) x2), r4.2) else none else none) else (some (some (0, (-1)), r4.2)))) else none else none else none) else (some (some (0, (-1)), r4.2))) else none := by
  show vp 128 0 [(2, x0), (0, x1), (0, x2), (0, x3), (9, 0)] [] h = _
  refine s_aload_n (pc1 := 1) (tk (n := 0) t128_0 rfl) rfl rfl rfl ?_
  refine s_iload_n (pc1 := 2) (tk (n := 1) t128_0 rfl) rfl rfl rfl ?_
  refine s_iload_n (pc1 := 3) (tk (n := 2) t128_0 rfl) rfl rfl rfl ?_
  refine s_call0 (as := [(2, x0), (0, x1), (0, x2)]) (st1 := []) (p1 := 6) (M2 := 125) (tk (n := 3) t128_0 rfl) rfl rfl rfl rfl rfl (fun r4 => ?_)
  refine s_if_ne (pc1 := 9) (pt := 11) (tk (n := 4) t128_0 rfl) rfl rfl rfl ?_ ?_
  · refine s_aload_n (pc1 := 12) (tk (n := 7) t128_0 rfl) rfl rfl rfl ?_
    refine s_getf (pc1 := 15) (c := 11) (t1 := 2) (tk (n := 8) t128_0 rfl) rfl rfl (by decide) rfl rfl ?_
    refine s_getf (pc1 := 18) (c := 5) (t1 := 2) (tk (n := 9) t128_0 rfl) rfl rfl (by decide) rfl rfl ?_
    refine s_iload_n (pc1 := 19) (tk (n := 10) t128_0 rfl) rfl rfl rfl ?_
    refine s_aald (pc1 := 20) (c := 25) (tk (n := 11) t128_0 rfl) rfl rfl rfl ?_
    refine s_astore (pc1 := 22) (ls1 := [(2, x0), (0, x1), (0, x2), (0, x3), (2, r4.2.2 (r4.2.2 (r4.2.2 x0 3) 3) x1)]) (tk (n := 12) t128_0 rfl) rfl rfl rfl rfl ?_
    refine s_iload_n (pc1 := 23) (tk (n := 13) t128_0 rfl) rfl rfl rfl ?_
    refine s_sw (x := x3) (cs := [(0, 48), (1, 56), (2, 64)]) (p0 := 72) (st1 := []) (tk (n := 14) t128_0 rfl) rfl rfl ?_
    refine s_swC (p1 := 48) rfl ?_ ?_
    · refine s_aload (pc1 := 50) (tk (n := 15) t128_0 rfl) rfl rfl rfl ?_
      refine s_getf (pc1 := 53) (c := 10) (t1 := 2) (tk (n := 16) t128_0 rfl) rfl rfl (by decide) rfl rfl ?_
      refine s_iload_n (pc1 := 54) (tk (n := 17) t128_0 rfl) rfl rfl rfl ?_
      refine s_iald (pc1 := 55) (tk (n := 18) t128_0 rfl) rfl rfl  ?_
      exact s_ret (tk (n := 19) t128_0 rfl) rfl rfl rfl
    refine s_swC (p1 := 56) rfl ?_ ?_
    · refine s_aload (pc1 := 58) (tk (n := 20) t128_0 rfl) rfl rfl rfl ?_
      refine s_getf (pc1 := 61) (c := 10) (t1 := 2) (tk (n := 21) t128_0 rfl) rfl rfl (by decide) rfl rfl ?_
      refine s_iload_n (pc1 := 62) (tk (n := 22) t128_0 rfl) rfl rfl rfl ?_
      refine s_iald (pc1 := 63) (tk (n := 23) t128_0 rfl) rfl rfl  ?_
      exact s_ret (tk (n := 24) t128_0 rfl) rfl rfl rfl
    refine s_swC (p1 := 64) rfl ?_ ?_
    · refine s_aload (pc1 := 66) (tk (n := 25) t128_0 rfl) rfl rfl rfl ?_
      refine s_getf (pc1 := 69) (c := 10) (t1 := 2) (tk (n := 26) t128_0 rfl) rfl rfl (by decide) rfl rfl ?_
      refine s_iload_n (pc1 := 70) (tk (n := 27) t128_0 rfl) rfl rfl rfl ?_
      refine s_iald (pc1 := 71) (tk (n := 28) t128_0 rfl) rfl rfl  ?_
      exact s_ret (tk (n := 29) t128_0 rfl) rfl rfl rfl
    refine s_swN (d1 := 72) rfl ?_
    refine s_iconst (pc1 := 73) (tk (n := 0) t128_1 rfl) rfl rfl  ?_
    exact s_ret (tk (n := 1) t128_1 rfl) rfl rfl rfl
  · refine s_iconst (pc1 := 10) (tk (n := 5) t128_0 rfl) rfl rfl  ?_
    exact s_ret (tk (n := 6) t128_0 rfl) rfl rfl rfl
set_option maxRecDepth 100000 in
set_option maxHeartbeats 4000000 in
theorem e_X11_place (x0 : Int) (x1 : Int) (x2 : Int) (x3 : Int) (x4 : Int) (h : Hq) : vm 129 [(2, x0), (0, x1), (0, x2), (0, x3), (0, x4)] h = if 0 < x0 ∧ (kd x0).1 = 11 then (vm 126 [(2, x0), (0, x1), (0, x2), (0, x3), (0, x4)] h).bind (fun r6 => if (vx r6) = 0 then (some (some (0, (-1)), r6.2)) else (if 0 < x0 ∧ (kd x0).1 = 11 then if 0 < (r6.2.2 x0 3) ∧ (kd (r6.2.2 x0 3)).1 = 5 then if (kd (r6.2.2 (r6.2.2 x0 3) 3)).1 = 25 ∧ 0 ≤ x1 ∧ x1 < (kd (r6.2.2 (r6.2.2 x0 3) 3)).2 then if 0 < (r6.2.2 (r6.2.2 (r6.2.2 x0 3) 3) x1) ∧ (kd (r6.2.2 (r6.2.2 (r6.2.2 x0 3) 3) x1)).1 = 10 then (vm 94 [(2, r6.2.2 (r6.2.2 (r6.2.2 x0 3) 3) x1), (0, x2), (0, x3), (0, x4)] r6.2).bind (fun r16 => some (some (0, vx r16), r16.2)) else none else none else none else none)) else none := by
  show vp 129 0 [(2, x0), (0, x1), (0, x2), (0, x3), (0, x4)] [] h = _
  refine s_aload_n (pc1 := 1) (tk (n := 0) t129_0 rfl) rfl rfl rfl ?_
  refine s_iload_n (pc1 := 2) (tk (n := 1) t129_0 rfl) rfl rfl rfl ?_
  refine s_iload_n (pc1 := 3) (tk (n := 2) t129_0 rfl) rfl rfl rfl ?_
  refine s_iload_n (pc1 := 4) (tk (n := 3) t129_0 rfl) rfl rfl rfl ?_
  refine s_iload (pc1 := 6) (tk (n := 4) t129_0 rfl) rfl rfl rfl ?_
  refine s_call0 (as := [(2, x0), (0, x1), (0, x2), (0, x3), (0, x4)]) (st1 := []) (p1 := 9) (M2 := 126) (tk (n := 5) t129_0 rfl) rfl rfl rfl rfl rfl (fun r6 => ?_)
  refine s_if_eq (pc1 := 12) (pt := 31) (tk (n := 6) t129_0 rfl) rfl rfl rfl ?_ ?_
  · refine s_iconst (pc1 := 32) (tk (n := 17) t129_0 rfl) rfl rfl  ?_
    exact s_ret (tk (n := 18) t129_0 rfl) rfl rfl rfl
  · refine s_aload_n (pc1 := 13) (tk (n := 7) t129_0 rfl) rfl rfl rfl ?_
    refine s_getf (pc1 := 16) (c := 11) (t1 := 2) (tk (n := 8) t129_0 rfl) rfl rfl (by decide) rfl rfl ?_
    refine s_getf (pc1 := 19) (c := 5) (t1 := 2) (tk (n := 9) t129_0 rfl) rfl rfl (by decide) rfl rfl ?_
    refine s_iload_n (pc1 := 20) (tk (n := 10) t129_0 rfl) rfl rfl rfl ?_
    refine s_aald (pc1 := 21) (c := 25) (tk (n := 11) t129_0 rfl) rfl rfl rfl ?_
    refine s_iload_n (pc1 := 22) (tk (n := 12) t129_0 rfl) rfl rfl rfl ?_
    refine s_iload_n (pc1 := 23) (tk (n := 13) t129_0 rfl) rfl rfl rfl ?_
    refine s_iload (pc1 := 25) (tk (n := 14) t129_0 rfl) rfl rfl rfl ?_
    refine s_call0 (as := [(2, r6.2.2 (r6.2.2 (r6.2.2 x0 3) 3) x1), (0, x2), (0, x3), (0, x4)]) (st1 := []) (p1 := 28) (M2 := 94) (tk (n := 15) t129_0 rfl) rfl rfl rfl rfl rfl (fun r16 => ?_)
    refine s_goto (pc1 := 32) (tk (n := 16) t129_0 rfl) rfl rfl ?_
    exact s_ret (tk (n := 18) t129_0 rfl) rfl rfl rfl
set_option maxRecDepth 100000 in
set_option maxHeartbeats 4000000 in
theorem e_X11_at (x0 : Int) (x1 : Int) (x2 : Int) (x3 : Int) (h : Hq) : vm 130 [(2, x0), (0, x1), (0, x2), (0, x3)] h = if 0 < x0 ∧ (kd x0).1 = 11 then (vm 125 [(2, x0), (0, x1), (0, x2)] h).bind (fun r4 => if (vx r4) ≠ 0 then (if 0 < x0 ∧ (kd x0).1 = 11 then if 0 < (r4.2.2 x0 3) ∧ (kd (r4.2.2 x0 3)).1 = 5 then if (kd (r4.2.2 (r4.2.2 x0 3) 3)).1 = 25 ∧ 0 ≤ x1 ∧ x1 < (kd (r4.2.2 (r4.2.2 x0 3) 3)).2 then if 0 < (r4.2.2 (r4.2.2 (r4.2.2 x0 3) 3) x1) ∧ (kd (r4.2.2 (r4.2.2 (r4.2.2 x0 3) 3) x1)).1 = 10 then (vm 88 [(2, r4.2.2 (r4.2.2 (r4.2.2 x0 3) 3) x1), (0, x2), (0, x3)] r4.2).bind (fun r15 => if (vx r15) = 0 then (some (some (0, (-1)), r15.2)) else (if 0 < (r4.2.2 (r4.2.2 (r4.2.2 x0 3) 3) x1) ∧ (kd (r4.2.2 (r4.2.2 (r4.2.2 x0 3) 3) x1)).1 = 10 then (vm 92 [(2, r4.2.2 (r4.2.2 (r4.2.2 x0 3) 3) x1), (0, x2), (0, x3)] r15.2).bind (fun r20 => some (some (0, vx r20), r20.2)) else none)) else none else none else none else none) else (some (some (0, (-1)), r4.2))) else none := by
  show vp 130 0 [(2, x0), (0, x1), (0, x2), (0, x3), (9, 0)] [] h = _
  refine s_aload_n (pc1 := 1) (tk (n := 0) t130_0 rfl) rfl rfl rfl ?_
  refine s_iload_n (pc1 := 2) (tk (n := 1) t130_0 rfl) rfl rfl rfl ?_
  refine s_iload_n (pc1 := 3) (tk (n := 2) t130_0 rfl) rfl rfl rfl ?_
  refine s_call0 (as := [(2, x0), (0, x1), (0, x2)]) (st1 := []) (p1 := 6) (M2 := 125) (tk (n := 3) t130_0 rfl) rfl rfl rfl rfl rfl (fun r4 => ?_)
  refine s_if_ne (pc1 := 9) (pt := 11) (tk (n := 4) t130_0 rfl) rfl rfl rfl ?_ ?_
  · refine s_aload_n (pc1 := 12) (tk (n := 7) t130_0 rfl) rfl rfl rfl ?_
    refine s_getf (pc1 := 15) (c := 11) (t1 := 2) (tk (n := 8) t130_0 rfl) rfl rfl (by decide) rfl rfl ?_
    refine s_getf (pc1 := 18) (c := 5) (t1 := 2) (tk (n := 9) t130_0 rfl) rfl rfl (by decide) rfl rfl ?_
    refine s_iload_n (pc1 := 19) (tk (n := 10) t130_0 rfl) rfl rfl rfl ?_
    refine s_aald (pc1 := 20) (c := 25) (tk (n := 11) t130_0 rfl) rfl rfl rfl ?_
    refine s_astore (pc1 := 22) (ls1 := [(2, x0), (0, x1), (0, x2), (0, x3), (2, r4.2.2 (r4.2.2 (r4.2.2 x0 3) 3) x1)]) (tk (n := 12) t130_0 rfl) rfl rfl rfl rfl ?_
    refine s_aload (pc1 := 24) (tk (n := 13) t130_0 rfl) rfl rfl rfl ?_
    refine s_iload_n (pc1 := 25) (tk (n := 14) t130_0 rfl) rfl rfl rfl ?_
    refine s_iload_n (pc1 := 26) (tk (n := 15) t130_0 rfl) rfl rfl rfl ?_
    refine s_call0 (as := [(2, r4.2.2 (r4.2.2 (r4.2.2 x0 3) 3) x1), (0, x2), (0, x3)]) (st1 := []) (p1 := 29) (M2 := 88) (tk (n := 16) t130_0 rfl) rfl rfl rfl rfl rfl (fun r15 => ?_)
    refine s_if_eq (pc1 := 32) (pt := 42) (tk (n := 17) t130_0 rfl) rfl rfl rfl ?_ ?_
    · refine s_iconst (pc1 := 43) (tk (n := 23) t130_0 rfl) rfl rfl  ?_
      exact s_ret (tk (n := 24) t130_0 rfl) rfl rfl rfl
    · refine s_aload (pc1 := 34) (tk (n := 18) t130_0 rfl) rfl rfl rfl ?_
      refine s_iload_n (pc1 := 35) (tk (n := 19) t130_0 rfl) rfl rfl rfl ?_
      refine s_iload_n (pc1 := 36) (tk (n := 20) t130_0 rfl) rfl rfl rfl ?_
      refine s_call0 (as := [(2, r4.2.2 (r4.2.2 (r4.2.2 x0 3) 3) x1), (0, x2), (0, x3)]) (st1 := []) (p1 := 39) (M2 := 92) (tk (n := 21) t130_0 rfl) rfl rfl rfl rfl rfl (fun r20 => ?_)
      refine s_goto (pc1 := 43) (tk (n := 22) t130_0 rfl) rfl rfl ?_
      exact s_ret (tk (n := 24) t130_0 rfl) rfl rfl rfl
  · refine s_iconst (pc1 := 10) (tk (n := 5) t130_0 rfl) rfl rfl  ?_
    exact s_ret (tk (n := 6) t130_0 rfl) rfl rfl rfl
set_option maxRecDepth 100000 in
set_option maxHeartbeats 4000000 in
theorem e_X11_texel (x0 : Int) (x1 : Int) (x2 : Int) (x3 : Int) (x4 : Int) (h : Hq) : vm 131 [(2, x0), (0, x1), (0, x2), (0, x3), (0, x4)] h = if 0 < x0 ∧ (kd x0).1 = 11 then (vm 126 [(2, x0), (0, x1), (0, x2), (0, x3), (0, x4)] h).bind (fun r6 => if (vx r6) = 0 then (some (some (0, (-1000000001)), r6.2)) else (if 0 < x0 ∧ (kd x0).1 = 11 then if 0 < (r6.2.2 x0 3) ∧ (kd (r6.2.2 x0 3)).1 = 5 then if (kd (r6.2.2 (r6.2.2 x0 3) 3)).1 = 25 ∧ 0 ≤ x1 ∧ x1 < (kd (r6.2.2 (r6.2.2 x0 3) 3)).2 then if 0 < (r6.2.2 (r6.2.2 (r6.2.2 x0 3) 3) x1) ∧ (kd (r6.2.2 (r6.2.2 (r6.2.2 x0 3) 3) x1)).1 = 10 then (vm 95 [(2, r6.2.2 (r6.2.2 (r6.2.2 x0 3) 3) x1), (0, x2), (0, x3), (0, x4)] r6.2).bind (fun r16 => some (some (0, vx r16), r16.2)) else none else none else none else none)) else none := by
  show vp 131 0 [(2, x0), (0, x1), (0, x2), (0, x3), (0, x4)] [] h = _
  refine s_aload_n (pc1 := 1) (tk (n := 0) t131_0 rfl) rfl rfl rfl ?_
  refine s_iload_n (pc1 := 2) (tk (n := 1) t131_0 rfl) rfl rfl rfl ?_
  refine s_iload_n (pc1 := 3) (tk (n := 2) t131_0 rfl) rfl rfl rfl ?_
  refine s_iload_n (pc1 := 4) (tk (n := 3) t131_0 rfl) rfl rfl rfl ?_
  refine s_iload (pc1 := 6) (tk (n := 4) t131_0 rfl) rfl rfl rfl ?_
  refine s_call0 (as := [(2, x0), (0, x1), (0, x2), (0, x3), (0, x4)]) (st1 := []) (p1 := 9) (M2 := 126) (tk (n := 5) t131_0 rfl) rfl rfl rfl rfl rfl (fun r6 => ?_)
  refine s_if_eq (pc1 := 12) (pt := 31) (tk (n := 6) t131_0 rfl) rfl rfl rfl ?_ ?_
  · refine s_ldc (pc1 := 33) (tk (n := 17) t131_0 rfl) rfl rfl  ?_
    exact s_ret (tk (n := 18) t131_0 rfl) rfl rfl rfl
  · refine s_aload_n (pc1 := 13) (tk (n := 7) t131_0 rfl) rfl rfl rfl ?_
    refine s_getf (pc1 := 16) (c := 11) (t1 := 2) (tk (n := 8) t131_0 rfl) rfl rfl (by decide) rfl rfl ?_
    refine s_getf (pc1 := 19) (c := 5) (t1 := 2) (tk (n := 9) t131_0 rfl) rfl rfl (by decide) rfl rfl ?_
    refine s_iload_n (pc1 := 20) (tk (n := 10) t131_0 rfl) rfl rfl rfl ?_
    refine s_aald (pc1 := 21) (c := 25) (tk (n := 11) t131_0 rfl) rfl rfl rfl ?_
    refine s_iload_n (pc1 := 22) (tk (n := 12) t131_0 rfl) rfl rfl rfl ?_
    refine s_iload_n (pc1 := 23) (tk (n := 13) t131_0 rfl) rfl rfl rfl ?_
    refine s_iload (pc1 := 25) (tk (n := 14) t131_0 rfl) rfl rfl rfl ?_
    refine s_call0 (as := [(2, r6.2.2 (r6.2.2 (r6.2.2 x0 3) 3) x1), (0, x2), (0, x3), (0, x4)]) (st1 := []) (p1 := 28) (M2 := 95) (tk (n := 15) t131_0 rfl) rfl rfl rfl rfl rfl (fun r16 => ?_)
    refine s_goto (pc1 := 33) (tk (n := 16) t131_0 rfl) rfl rfl ?_
    exact s_ret (tk (n := 18) t131_0 rfl) rfl rfl rfl
set_option maxRecDepth 100000 in
set_option maxHeartbeats 4000000 in
theorem e_X11_paint (x0 : Int) (x1 : Int) (x2 : Int) (x3 : Int) (x4 : Int) (h : Hq) : vm 132 [(2, x0), (0, x1), (0, x2), (0, x3), (0, x4)] h = if 0 < x0 ∧ (kd x0).1 = 11 then (vm 126 [(2, x0), (0, x1), (0, 0), (0, x2), (0, x3)] h).bind (fun r6 => if (vx r6) = 0 then (some (some (0, (-1)), r6.2)) else ((vm 117 [(0, x4), (0, 1000000)] r6.2).bind (fun r10 => if (vx r10) ≠ 0 then (if 0 < x0 ∧ (kd x0).1 = 11 then if 0 < (r10.2.2 x0 3) ∧ (kd (r10.2.2 x0 3)).1 = 5 then if (kd (r10.2.2 (r10.2.2 x0 3) 3)).1 = 25 ∧ 0 ≤ x1 ∧ x1 < (kd (r10.2.2 (r10.2.2 x0 3) 3)).2 then if 0 < x0 ∧ (kd x0).1 = 11 then if 0 < (r10.2.2 (r10.2.2 (r10.2.2 x0 3) 3) x1) ∧ (kd (r10.2.2 (r10.2.2 (r10.2.2 x0 3) 3) x1)).1 = 10 then if 0 < (r10.2.2 (r10.2.2 (r10.2.2 x0 3) 3) x1) ∧ (kd (r10.2.2 (r10.2.2 (r10.2.2 x0 3) 3) x1)).1 = 10 then if 0 < (r10.2.2 x0 6) ∧ (kd (r10.2.2 x0 6)).1 = 0 then (vm 4 [(2, r10.2.2 x0 6), (0, r10.2.2 (r10.2.2 (r10.2.2 (r10.2.2 x0 3) 3) x1) 4), (2, r10.2.2 (r10.2.2 (r10.2.2 (r10.2.2 x0 3) 3) x1) 6)] r10.2).bind (fun r24 => if 0 < (r10.2.2 (r10.2.2 (r10.2.2 x0 3) 3) x1) ∧ (kd (r10.2.2 (r10.2.2 (r10.2.2 x0 3) 3) x1)).1 = 10 then (vm 98 [(2, r10.2.2 (r10.2.2 (r10.2.2 x0 3) 3) x1), (0, 0), (0, x2), (0, x3), (0, x4)] r24.2).bind (fun r30 => if 0 < (r10.2.2 (r10.2.2 (r10.2.2 x0 3) 3) x1) ∧ (kd (r10.2.2 (r10.2.2 (r10.2.2 x0 3) 3) x1)).1 = 10 then (vm 100 [(2, r10.2.2 (r10.2.2 (r10.2.2 x0 3) 3) x1)] r30.2).bind (fun r32 => if 0 < x0 ∧ (kd x0).1 = 11 then (vm 135 [(2, x0), (2, r10.2.2 (r10.2.2 (r10.2.2 x0 3) 3) x1)] r32.2).bind (fun r35 => some (some (0, vx r35), r35.2)) else none) else none) else none) else none else none else none else none else none else none else none) else (some (some (0, (-1)), r10.2))))) else none := by
  show vp 132 0 [(2, x0), (0, x1), (0, x2), (0, x3), (0, x4), (9, 0)] [] h = _
  refine s_aload_n (pc1 := 1) (tk (n := 0) t132_0 rfl) rfl rfl rfl ?_
  refine s_iload_n (pc1 := 2) (tk (n := 1) t132_0 rfl) rfl rfl rfl ?_
  refine s_iconst (pc1 := 3) (tk (n := 2) t132_0 rfl) rfl rfl  ?_
  refine s_iload_n (pc1 := 4) (tk (n := 3) t132_0 rfl) rfl rfl rfl ?_
  refine s_iload_n (pc1 := 5) (tk (n := 4) t132_0 rfl) rfl rfl rfl ?_
  refine s_call0 (as := [(2, x0), (0, x1), (0, 0), (0, x2), (0, x3)]) (st1 := []) (p1 := 8) (M2 := 126) (tk (n := 5) t132_0 rfl) rfl rfl rfl rfl rfl (fun r6 => ?_)
  refine s_if_eq (pc1 := 11) (pt := 21) (tk (n := 6) t132_0 rfl) rfl rfl rfl ?_ ?_
  · refine s_iconst (pc1 := 22) (tk (n := 11) t132_0 rfl) rfl rfl  ?_
    exact s_ret (tk (n := 12) t132_0 rfl) rfl rfl rfl
  · refine s_iload (pc1 := 13) (tk (n := 7) t132_0 rfl) rfl rfl rfl ?_
    refine s_ldc (pc1 := 15) (tk (n := 8) t132_0 rfl) rfl rfl  ?_
    refine s_callS0 (as := [(0, x4), (0, 1000000)]) (st1 := []) (p1 := 18) (M2 := 117) (tk (n := 9) t132_0 rfl) rfl rfl rfl rfl rfl (fun r10 => ?_)
    refine s_if_ne (pc1 := 21) (pt := 23) (tk (n := 10) t132_0 rfl) rfl rfl rfl ?_ ?_
    · refine s_aload_n (pc1 := 24) (tk (n := 13) t132_0 rfl) rfl rfl rfl ?_
      refine s_getf (pc1 := 27) (c := 11) (t1 := 2) (tk (n := 14) t132_0 rfl) rfl rfl (by decide) rfl rfl ?_
      refine s_getf (pc1 := 30) (c := 5) (t1 := 2) (tk (n := 15) t132_0 rfl) rfl rfl (by decide) rfl rfl ?_
      refine s_iload_n (pc1 := 31) (tk (n := 16) t132_0 rfl) rfl rfl rfl ?_
      refine s_aald (pc1 := 32) (c := 25) (tk (n := 17) t132_0 rfl) rfl rfl rfl ?_
      refine s_astore (pc1 := 34) (ls1 := [(2, x0), (0, x1), (0, x2), (0, x3), (0, x4), (2, r10.2.2 (r10.2.2 (r10.2.2 x0 3) 3) x1)]) (tk (n := 18) t132_0 rfl) rfl rfl rfl rfl ?_
      refine s_aload_n (pc1 := 35) (tk (n := 19) t132_0 rfl) rfl rfl rfl ?_
      refine s_getf (pc1 := 38) (c := 11) (t1 := 2) (tk (n := 20) t132_0 rfl) rfl rfl (by decide) rfl rfl ?_
      refine s_aload (pc1 := 40) (tk (n := 21) t132_0 rfl) rfl rfl rfl ?_
      refine s_getf (pc1 := 43) (c := 10) (t1 := 0) (tk (n := 22) t132_0 rfl) rfl rfl (by decide) rfl rfl ?_
      refine s_aload (pc1 := 45) (tk (n := 23) t132_0 rfl) rfl rfl rfl ?_
      refine s_getf (pc1 := 48) (c := 10) (t1 := 2) (tk (n := 24) t132_0 rfl) rfl rfl (by decide) rfl rfl ?_
      refine s_call9 (as := [(2, r10.2.2 x0 6), (0, r10.2.2 (r10.2.2 (r10.2.2 (r10.2.2 x0 3) 3) x1) 4), (2, r10.2.2 (r10.2.2 (r10.2.2 (r10.2.2 x0 3) 3) x1) 6)]) (st1 := []) (p1 := 51) (M2 := 4) (tk (n := 25) t132_0 rfl) rfl rfl rfl rfl rfl (fun r24 => ?_)
      refine s_aload (pc1 := 53) (tk (n := 26) t132_0 rfl) rfl rfl rfl ?_
      refine s_iconst (pc1 := 54) (tk (n := 27) t132_0 rfl) rfl rfl  ?_
      refine s_iload_n (pc1 := 55) (tk (n := 28) t132_0 rfl) rfl rfl rfl ?_
      refine s_iload_n (pc1 := 56) (tk (n := 29) t132_0 rfl) rfl rfl rfl ?_
      refine s_iload (pc1 := 58) (tk (n := 0) t132_1 rfl) rfl rfl rfl ?_
      refine s_call9 (as := [(2, r10.2.2 (r10.2.2 (r10.2.2 x0 3) 3) x1), (0, 0), (0, x2), (0, x3), (0, x4)]) (st1 := []) (p1 := 61) (M2 := 98) (tk (n := 1) t132_1 rfl) rfl rfl rfl rfl rfl (fun r30 => ?_)
      refine s_aload (pc1 := 63) (tk (n := 2) t132_1 rfl) rfl rfl rfl ?_
      refine s_call9 (as := [(2, r10.2.2 (r10.2.2 (r10.2.2 x0 3) 3) x1)]) (st1 := []) (p1 := 66) (M2 := 100) (tk (n := 3) t132_1 rfl) rfl rfl rfl rfl rfl (fun r32 => ?_)
      refine s_aload_n (pc1 := 67) (tk (n := 4) t132_1 rfl) rfl rfl rfl ?_
      refine s_aload (pc1 := 69) (tk (n := 5) t132_1 rfl) rfl rfl rfl ?_
      refine s_call0 (as := [(2, x0), (2, r10.2.2 (r10.2.2 (r10.2.2 x0 3) 3) x1)]) (st1 := []) (p1 := 72) (M2 := 135) (tk (n := 6) t132_1 rfl) rfl rfl rfl rfl rfl (fun r35 => ?_)
      exact s_ret (tk (n := 7) t132_1 rfl) rfl rfl rfl
    · refine s_iconst (pc1 := 22) (tk (n := 11) t132_0 rfl) rfl rfl  ?_
      exact s_ret (tk (n := 12) t132_0 rfl) rfl rfl rfl
set_option maxRecDepth 100000 in
set_option maxHeartbeats 4000000 in
theorem e_X11_fill (x0 : Int) (x1 : Int) (x2 : Int) (x3 : Int) (x4 : Int) (h : Hq) : vm 133 [(2, x0), (0, x1), (0, x2), (0, x3), (0, x4)] h = (vm 117 [(0, x2), (0, 9999)] h).bind (fun r3 => if (vx r3) = 0 then (vp 133 35 [(2, x0), (0, x1), (0, x2), (0, x3), (0, x4), (9, 0), (9, 0)] [] r3.2) else ((vm 117 [(0, x3), (0, 9999)] r3.2).bind (fun r7 => if (vx r7) = 0 then (vp 133 35 [(2, x0), (0, x1), (0, x2), (0, x3), (0, x4), (9, 0), (9, 0)] [] r7.2) else ((vm 117 [(0, x4), (0, 9999)] r7.2).bind (fun r11 => if (vx r11) = 0 then (vp 133 35 [(2, x0), (0, x1), (0, x2), (0, x3), (0, x4), (9, 0), (9, 0)] [] r11.2) else (if 0 < x0 ∧ (kd x0).1 = 11 then (vm 124 [(2, x0), (0, x1)] r11.2).bind (fun r18 => if (vx r18) = 0 then (some (some (0, (-1)), r18.2)) else (if 0 < x0 ∧ (kd x0).1 = 11 then if 0 < (r18.2.2 x0 3) ∧ (kd (r18.2.2 x0 3)).1 = 5 then if (kd (r18.2.2 (r18.2.2 x0 3) 3)).1 = 25 ∧ 0 ≤ x1 ∧ x1 < (kd (r18.2.2 (r18.2.2 x0 3) 3)).2 then if 0 < x0 ∧ (kd x0).1 = 11 then if 0 < (r18.2.2 (r18.2.2 (r18.2.2 x0 3) 3) x1) ∧ (kd (r18.2.2 (r18.2.2 (r18.2.2 x0 3) 3) x1)).1 = 10 then if 0 < (r18.2.2 (r18.2.2 (r18.2.2 x0 3) 3) x1) ∧ (kd (r18.2.2 (r18.2.2 (r18.2.2 x0 3) 3) x1)).1 = 10 then if 0 < (r18.2.2 x0 6) ∧ (kd (r18.2.2 x0 6)).1 = 0 then (vm 4 [(2, r18.2.2 x0 6), (0, r18.2.2 (r18.2.2 (r18.2.2 (r18.2.2 x0 3) 3) x1) 4), (2, r18.2.2 (r18.2.2 (r18.2.2 (r18.2.2 x0 3) 3) x1) 6)] r18.2).bind (fun r34 => if 0 < (r18.2.2 (r18.2.2 (r18.2.2 x0 3) 3) x1) ∧ (kd (r18.2.2 (r18.2.2 (r18.2.2 x0 3) 3) x1)).1 = 10 then (vm 99 [(2, r18.2.2 (r18.2.2 (r18.2.2 x0 3) 3) x1), (0, x2), (0, x3), (0, x4)] r34.2).bind (fun r39 => if 0 < x0 ∧ (kd x0).1 = 11 then (vm 135 [(2, x0), (2, r18.2.2 (r18.2.2 (r18.2.2 x0 3) 3) x1)] r39.2).bind (fun r42 => some (some (0, vx r42), r42.2)) else none) else none) else none else none else none else none else none else none else none)) else none)))))) := by
  show vp 133 0 [(2, x0), (0, x1), (0, x2), (0, x3), (0, x4), (9, 0), (9, 0)] [] h = _
  refine s_iload_n (pc1 := 1) (tk (n := 0) t133_0 rfl) rfl rfl rfl ?_
  refine s_sipush (pc1 := 4) (tk (n := 1) t133_0 rfl) rfl rfl  ?_
  refine s_callS0 (as := [(0, x2), (0, 9999)]) (st1 := []) (p1 := 7) (M2 := 117) (tk (n := 2) t133_0 rfl) rfl rfl rfl rfl rfl (fun r3 => ?_)
  refine s_if_eq (pc1 := 10) (pt := 35) (tk (n := 3) t133_0 rfl) rfl rfl rfl ?_ ?_
  · rfl
  · refine s_iload_n (pc1 := 11) (tk (n := 4) t133_0 rfl) rfl rfl rfl ?_
    refine s_sipush (pc1 := 14) (tk (n := 5) t133_0 rfl) rfl rfl  ?_
    refine s_callS0 (as := [(0, x3), (0, 9999)]) (st1 := []) (p1 := 17) (M2 := 117) (tk (n := 6) t133_0 rfl) rfl rfl rfl rfl rfl (fun r7 => ?_)
    refine s_if_eq (pc1 := 20) (pt := 35) (tk (n := 7) t133_0 rfl) rfl rfl rfl ?_ ?_
    · rfl
    · refine s_iload (pc1 := 22) (tk (n := 8) t133_0 rfl) rfl rfl rfl ?_
      refine s_sipush (pc1 := 25) (tk (n := 9) t133_0 rfl) rfl rfl  ?_
      refine s_callS0 (as := [(0, x4), (0, 9999)]) (st1 := []) (p1 := 28) (M2 := 117) (tk (n := 10) t133_0 rfl) rfl rfl rfl rfl rfl (fun r11 => ?_)
      refine s_if_eq (pc1 := 31) (pt := 35) (tk (n := 11) t133_0 rfl) rfl rfl rfl ?_ ?_
      · rfl
      · refine s_iconst (pc1 := 32) (tk (n := 12) t133_0 rfl) rfl rfl  ?_
        refine s_goto (pc1 := 36) (tk (n := 13) t133_0 rfl) rfl rfl ?_
        refine s_istore (pc1 := 38) (ls1 := [(2, x0), (0, x1), (0, x2), (0, x3), (0, x4), (0, 1), (9, 0)]) (tk (n := 15) t133_0 rfl) rfl rfl rfl rfl ?_
        refine s_aload_n (pc1 := 39) (tk (n := 16) t133_0 rfl) rfl rfl rfl ?_
        refine s_iload_n (pc1 := 40) (tk (n := 17) t133_0 rfl) rfl rfl rfl ?_
        refine s_call0 (as := [(2, x0), (0, x1)]) (st1 := []) (p1 := 43) (M2 := 124) (tk (n := 18) t133_0 rfl) rfl rfl rfl rfl rfl (fun r18 => ?_)
        refine s_if_eq (pc1 := 46) (pt := 51) (tk (n := 19) t133_0 rfl) rfl rfl rfl ?_ ?_
        · refine s_iconst (pc1 := 52) (tk (n := 22) t133_0 rfl) rfl rfl  ?_
          exact s_ret (tk (n := 23) t133_0 rfl) rfl rfl rfl
        · refine s_iload (pc1 := 48) (tk (n := 20) t133_0 rfl) rfl rfl rfl ?_
          refine s_ifY_ne (pc1 := 51) (pt := 53) (tk (n := 21) t133_0 rfl) rfl rfl rfl (by decide) ?_
          refine s_aload_n (pc1 := 54) (tk (n := 24) t133_0 rfl) rfl rfl rfl ?_
          refine s_getf (pc1 := 57) (c := 11) (t1 := 2) (tk (n := 25) t133_0 rfl) rfl rfl (by decide) rfl rfl ?_
          refine s_getf (pc1 := 60) (c := 5) (t1 := 2) (tk (n := 26) t133_0 rfl) rfl rfl (by decide) rfl rfl ?_
          refine s_iload_n (pc1 := 61) (tk (n := 27) t133_0 rfl) rfl rfl rfl ?_
          refine s_aald (pc1 := 62) (c := 25) (tk (n := 28) t133_0 rfl) rfl rfl rfl ?_
          refine s_astore (pc1 := 64) (ls1 := [(2, x0), (0, x1), (0, x2), (0, x3), (0, x4), (0, 1), (2, r18.2.2 (r18.2.2 (r18.2.2 x0 3) 3) x1)]) (tk (n := 29) t133_0 rfl) rfl rfl rfl rfl ?_
          refine s_aload_n (pc1 := 65) (tk (n := 0) t133_1 rfl) rfl rfl rfl ?_
          refine s_getf (pc1 := 68) (c := 11) (t1 := 2) (tk (n := 1) t133_1 rfl) rfl rfl (by decide) rfl rfl ?_
          refine s_aload (pc1 := 70) (tk (n := 2) t133_1 rfl) rfl rfl rfl ?_
          refine s_getf (pc1 := 73) (c := 10) (t1 := 0) (tk (n := 3) t133_1 rfl) rfl rfl (by decide) rfl rfl ?_
          refine s_aload (pc1 := 75) (tk (n := 4) t133_1 rfl) rfl rfl rfl ?_
          refine s_getf (pc1 := 78) (c := 10) (t1 := 2) (tk (n := 5) t133_1 rfl) rfl rfl (by decide) rfl rfl ?_
          refine s_call9 (as := [(2, r18.2.2 x0 6), (0, r18.2.2 (r18.2.2 (r18.2.2 (r18.2.2 x0 3) 3) x1) 4), (2, r18.2.2 (r18.2.2 (r18.2.2 (r18.2.2 x0 3) 3) x1) 6)]) (st1 := []) (p1 := 81) (M2 := 4) (tk (n := 6) t133_1 rfl) rfl rfl rfl rfl rfl (fun r34 => ?_)
          refine s_aload (pc1 := 83) (tk (n := 7) t133_1 rfl) rfl rfl rfl ?_
          refine s_iload_n (pc1 := 84) (tk (n := 8) t133_1 rfl) rfl rfl rfl ?_
          refine s_iload_n (pc1 := 85) (tk (n := 9) t133_1 rfl) rfl rfl rfl ?_
          refine s_iload (pc1 := 87) (tk (n := 10) t133_1 rfl) rfl rfl rfl ?_
          refine s_call9 (as := [(2, r18.2.2 (r18.2.2 (r18.2.2 x0 3) 3) x1), (0, x2), (0, x3), (0, x4)]) (st1 := []) (p1 := 90) (M2 := 99) (tk (n := 11) t133_1 rfl) rfl rfl rfl rfl rfl (fun r39 => ?_)
          refine s_aload_n (pc1 := 91) (tk (n := 12) t133_1 rfl) rfl rfl rfl ?_
          refine s_aload (pc1 := 93) (tk (n := 13) t133_1 rfl) rfl rfl rfl ?_
          refine s_call0 (as := [(2, x0), (2, r18.2.2 (r18.2.2 (r18.2.2 x0 3) 3) x1)]) (st1 := []) (p1 := 96) (M2 := 135) (tk (n := 14) t133_1 rfl) rfl rfl rfl rfl rfl (fun r42 => ?_)
          exact s_ret (tk (n := 15) t133_1 rfl) rfl rfl rfl
set_option maxRecDepth 100000 in
set_option maxHeartbeats 4000000 in
theorem e_X11_fill_35 (x0 : Int) (x1 : Int) (x2 : Int) (x3 : Int) (x4 : Int) (z5 : Vl) (z6 : Vl) (h : Hq) : vp 133 35 [(2, x0), (0, x1), (0, x2), (0, x3), (0, x4), z5, z6] [] h = if 0 < x0 ∧ (kd x0).1 = 11 then (vm 124 [(2, x0), (0, x1)] h).bind (fun r5 => if (vx r5) = 0 then (some (some (0, (-1)), r5.2)) else (some (some (0, (-1)), r5.2))) else none := by
  refine s_fg (ls1 := [(2, x0), (0, x1), (0, x2), (0, x3), (0, x4), (9, 0), (9, 0)]) (tk (n := 14) t133_0 rfl) rfl ?_
  refine s_iconst (pc1 := 36) (tk (n := 14) t133_0 rfl) rfl rfl  ?_
  refine s_istore (pc1 := 38) (ls1 := [(2, x0), (0, x1), (0, x2), (0, x3), (0, x4), (0, 0), (9, 0)]) (tk (n := 15) t133_0 rfl) rfl rfl rfl rfl ?_
  refine s_aload_n (pc1 := 39) (tk (n := 16) t133_0 rfl) rfl rfl rfl ?_
  refine s_iload_n (pc1 := 40) (tk (n := 17) t133_0 rfl) rfl rfl rfl ?_
  refine s_call0 (as := [(2, x0), (0, x1)]) (st1 := []) (p1 := 43) (M2 := 124) (tk (n := 18) t133_0 rfl) rfl rfl rfl rfl rfl (fun r5 => ?_)
  refine s_if_eq (pc1 := 46) (pt := 51) (tk (n := 19) t133_0 rfl) rfl rfl rfl ?_ ?_
  · refine s_iconst (pc1 := 52) (tk (n := 22) t133_0 rfl) rfl rfl  ?_
    exact s_ret (tk (n := 23) t133_0 rfl) rfl rfl rfl
  · refine s_iload (pc1 := 48) (tk (n := 20) t133_0 rfl) rfl rfl rfl ?_
    refine s_ifN_ne (pc1 := 51) (tk (n := 21) t133_0 rfl) rfl rfl (by decide) ?_
    refine s_iconst (pc1 := 52) (tk (n := 22) t133_0 rfl) rfl rfl  ?_
    exact s_ret (tk (n := 23) t133_0 rfl) rfl rfl rfl
set_option maxRecDepth 100000 in
set_option maxHeartbeats 4000000 in
theorem e_X11_make (x0 : Int) (x1 : Int) (h : Hq) : vm 134 [(2, x0), (0, x1)] h = if 0 < x0 ∧ (kd x0).1 = 11 then (vm 124 [(2, x0), (0, x1)] h).bind (fun r3 => if (vx r3) ≠ 0 then (if 0 < x0 ∧ (kd x0).1 = 11 then if 0 < (r3.2.2 x0 3) ∧ (kd (r3.2.2 x0 3)).1 = 5 then if (kd (r3.2.2 (r3.2.2 x0 3) 3)).1 = 25 ∧ 0 ≤ x1 ∧ x1 < (kd (r3.2.2 (r3.2.2 x0 3) 3)).2 then if 0 < x0 ∧ (kd x0).1 = 11 then if 0 < (r3.2.2 (r3.2.2 (r3.2.2 x0 3) 3) x1) ∧ (kd (r3.2.2 (r3.2.2 (r3.2.2 x0 3) 3) x1)).1 = 10 then if 0 < (r3.2.2 (r3.2.2 (r3.2.2 x0 3) 3) x1) ∧ (kd (r3.2.2 (r3.2.2 (r3.2.2 x0 3) 3) x1)).1 = 10 then if 0 < (r3.2.2 x0 6) ∧ (kd (r3.2.2 x0 6)).1 = 0 then (vm 4 [(2, r3.2.2 x0 6), (0, r3.2.2 (r3.2.2 (r3.2.2 (r3.2.2 x0 3) 3) x1) 4), (2, r3.2.2 (r3.2.2 (r3.2.2 (r3.2.2 x0 3) 3) x1) 6)] r3.2).bind (fun r17 => if 0 < (r3.2.2 (r3.2.2 (r3.2.2 x0 3) 3) x1) ∧ (kd (r3.2.2 (r3.2.2 (r3.2.2 x0 3) 3) x1)).1 = 10 then (vm 100 [(2, r3.2.2 (r3.2.2 (r3.2.2 x0 3) 3) x1)] r17.2).bind (fun r19 => if 0 < x0 ∧ (kd x0).1 = 11 then (vm 135 [(2, x0), (2, r3.2.2 (r3.2.2 (r3.2.2 x0 3) 3) x1)] r19.2).bind (fun r22 => some (some (0, vx r22), r22.2)) else none) else none) else none else none else none else none else none else none else none) else (some (some (0, (-1)), r3.2))) else none := by
  show vp 134 0 [(2, x0), (0, x1), (9, 0)] [] h = _
  refine s_aload_n (pc1 := 1) (tk (n := 0) t134_0 rfl) rfl rfl rfl ?_
  refine s_iload_n (pc1 := 2) (tk (n := 1) t134_0 rfl) rfl rfl rfl ?_
  refine s_call0 (as := [(2, x0), (0, x1)]) (st1 := []) (p1 := 5) (M2 := 124) (tk (n := 2) t134_0 rfl) rfl rfl rfl rfl rfl (fun r3 => ?_)
  refine s_if_ne (pc1 := 8) (pt := 10) (tk (n := 3) t134_0 rfl) rfl rfl rfl ?_ ?_
  · refine s_aload_n (pc1 := 11) (tk (n := 6) t134_0 rfl) rfl rfl rfl ?_
    refine s_getf (pc1 := 14) (c := 11) (t1 := 2) (tk (n := 7) t134_0 rfl) rfl rfl (by decide) rfl rfl ?_
    refine s_getf (pc1 := 17) (c := 5) (t1 := 2) (tk (n := 8) t134_0 rfl) rfl rfl (by decide) rfl rfl ?_
    refine s_iload_n (pc1 := 18) (tk (n := 9) t134_0 rfl) rfl rfl rfl ?_
    refine s_aald (pc1 := 19) (c := 25) (tk (n := 10) t134_0 rfl) rfl rfl rfl ?_
    refine s_astore_n (pc1 := 20) (ls1 := [(2, x0), (0, x1), (2, r3.2.2 (r3.2.2 (r3.2.2 x0 3) 3) x1)]) (tk (n := 11) t134_0 rfl) rfl rfl rfl rfl ?_
    refine s_aload_n (pc1 := 21) (tk (n := 12) t134_0 rfl) rfl rfl rfl ?_
    refine s_getf (pc1 := 24) (c := 11) (t1 := 2) (tk (n := 13) t134_0 rfl) rfl rfl (by decide) rfl rfl ?_
    refine s_aload_n (pc1 := 25) (tk (n := 14) t134_0 rfl) rfl rfl rfl ?_
    refine s_getf (pc1 := 28) (c := 10) (t1 := 0) (tk (n := 15) t134_0 rfl) rfl rfl (by decide) rfl rfl ?_
    refine s_aload_n (pc1 := 29) (tk (n := 16) t134_0 rfl) rfl rfl rfl ?_
    refine s_getf (pc1 := 32) (c := 10) (t1 := 2) (tk (n := 17) t134_0 rfl) rfl rfl (by decide) rfl rfl ?_
    refine s_call9 (as := [(2, r3.2.2 x0 6), (0, r3.2.2 (r3.2.2 (r3.2.2 (r3.2.2 x0 3) 3) x1) 4), (2, r3.2.2 (r3.2.2 (r3.2.2 (r3.2.2 x0 3) 3) x1) 6)]) (st1 := []) (p1 := 35) (M2 := 4) (tk (n := 18) t134_0 rfl) rfl rfl rfl rfl rfl (fun r17 => ?_)
    refine s_aload_n (pc1 := 36) (tk (n := 19) t134_0 rfl) rfl rfl rfl ?_
    refine s_call9 (as := [(2, r3.2.2 (r3.2.2 (r3.2.2 x0 3) 3) x1)]) (st1 := []) (p1 := 39) (M2 := 100) (tk (n := 20) t134_0 rfl) rfl rfl rfl rfl rfl (fun r19 => ?_)
    refine s_aload_n (pc1 := 40) (tk (n := 21) t134_0 rfl) rfl rfl rfl ?_
    refine s_aload_n (pc1 := 41) (tk (n := 22) t134_0 rfl) rfl rfl rfl ?_
    refine s_call0 (as := [(2, x0), (2, r3.2.2 (r3.2.2 (r3.2.2 x0 3) 3) x1)]) (st1 := []) (p1 := 44) (M2 := 135) (tk (n := 23) t134_0 rfl) rfl rfl rfl rfl rfl (fun r22 => ?_)
    exact s_ret (tk (n := 24) t134_0 rfl) rfl rfl rfl
  · refine s_iconst (pc1 := 9) (tk (n := 4) t134_0 rfl) rfl rfl  ?_
    exact s_ret (tk (n := 5) t134_0 rfl) rfl rfl rfl
set_option maxRecDepth 100000 in
set_option maxHeartbeats 4000000 in
theorem e_X11_settle (x0 : Int) (x1 : Int) (h : Hq) : vm 135 [(2, x0), (2, x1)] h = if 0 < x0 ∧ (kd x0).1 = 11 then if 0 < (h.2 x0 6) ∧ (kd (h.2 x0 6)).1 = 0 then (vm 3 [(2, h.2 x0 6)] h).bind (fun r3 => if 0 < x1 ∧ (kd x1).1 = 10 then if (kd (r3.2.2 x1 0)).1 = 20 ∧ 0 ≤ (0 : Int) ∧ (0 : Int) < (kd (r3.2.2 x1 0)).2 then vp 135 18 [(2, x0), (2, x1), (2, vx r3), (0, 0), (0, r3.2.2 (r3.2.2 x1 0) 0)] [] r3.2 else none else none) else none else none := by
  show vp 135 0 [(2, x0), (2, x1), (9, 0), (9, 0), (9, 0)] [] h = _
  refine s_aload_n (pc1 := 1) (tk (n := 0) t135_0 rfl) rfl rfl rfl ?_
  refine s_getf (pc1 := 4) (c := 11) (t1 := 2) (tk (n := 1) t135_0 rfl) rfl rfl (by decide) rfl rfl ?_
  refine s_call2 (as := [(2, h.2 x0 6)]) (st1 := []) (p1 := 7) (M2 := 3) (tk (n := 2) t135_0 rfl) rfl rfl rfl rfl rfl (fun r3 => ?_)
  refine s_astore_n (pc1 := 8) (ls1 := [(2, x0), (2, x1), (2, vx r3), (9, 0), (9, 0)]) (tk (n := 3) t135_0 rfl) rfl rfl rfl rfl ?_
  refine s_iconst (pc1 := 9) (tk (n := 4) t135_0 rfl) rfl rfl  ?_
  refine s_istore_n (pc1 := 10) (ls1 := [(2, x0), (2, x1), (2, vx r3), (0, 0), (9, 0)]) (tk (n := 5) t135_0 rfl) rfl rfl rfl rfl ?_
  refine s_aload_n (pc1 := 11) (tk (n := 6) t135_0 rfl) rfl rfl rfl ?_
  refine s_getf (pc1 := 14) (c := 10) (t1 := 2) (tk (n := 7) t135_0 rfl) rfl rfl (by decide) rfl rfl ?_
  refine s_iconst (pc1 := 15) (tk (n := 8) t135_0 rfl) rfl rfl  ?_
  refine s_iald (pc1 := 16) (tk (n := 9) t135_0 rfl) rfl rfl  ?_
  refine s_istore (pc1 := 18) (ls1 := [(2, x0), (2, x1), (2, vx r3), (0, 0), (0, r3.2.2 (r3.2.2 x1 0) 0)]) (tk (n := 10) t135_0 rfl) rfl rfl rfl rfl ?_
  rfl
set_option maxRecDepth 100000 in
set_option maxHeartbeats 4000000 in
theorem e_X11_settle_18 (x0 : Int) (x1 : Int) (x2 : Int) (x3 : Int) (x4 : Int) (h : Hq) : vp 135 18 [(2, x0), (2, x1), (2, x2), (0, x3), (0, x4)] [] h = if 0 < x1 ∧ (kd x1).1 = 10 then if 0 < x1 ∧ (kd x1).1 = 10 then if (kd (h.2 x1 0)).1 = 20 ∧ 0 ≤ (h.2 x1 9) ∧ (h.2 x1 9) < (kd (h.2 x1 0)).2 then if x4 ≥ (h.2 (h.2 x1 0) (h.2 x1 9)) then (if x3 ≤ 0 then (some (some (0, x3), h)) else (if 0 < x0 ∧ (kd x0).1 = 11 then if 0 < (h.2 x0 6) ∧ (kd (h.2 x0 6)).1 = 0 then (vm 5 [(2, h.2 x0 6)] h).bind (fun r12 => some (some (0, x3), r12.2)) else none else none)) else (if (kd x2).1 = 20 ∧ 0 ≤ x4 ∧ x4 < (kd x2).2 then if 0 < x1 ∧ (kd x1).1 = 10 then if (kd (h.2 x1 6)).1 = 20 ∧ 0 ≤ x4 ∧ x4 < (kd (h.2 x1 6)).2 then if (h.2 x2 x4) = (h.2 (h.2 x1 6) x4) then (vp 135 18 [(2, x0), (2, x1), (2, x2), (0, x3), (0, w32 (x4 + 1))] [] h) else (vp 135 18 [(2, x0), (2, x1), (2, x2), (0, w32 (x3 + 1)), (0, w32 (x4 + 1))] [] h) else none else none else none) else none else none else none := by
  refine s_iload (pc1 := 20) (tk (n := 11) t135_0 rfl) rfl rfl rfl ?_
  refine s_aload_n (pc1 := 21) (tk (n := 12) t135_0 rfl) rfl rfl rfl ?_
  refine s_getf (pc1 := 24) (c := 10) (t1 := 2) (tk (n := 13) t135_0 rfl) rfl rfl (by decide) rfl rfl ?_
  refine s_aload_n (pc1 := 25) (tk (n := 14) t135_0 rfl) rfl rfl rfl ?_
  refine s_getf (pc1 := 28) (c := 10) (t1 := 0) (tk (n := 15) t135_0 rfl) rfl rfl (by decide) rfl rfl ?_
  refine s_iald (pc1 := 29) (tk (n := 16) t135_0 rfl) rfl rfl  ?_
  refine s_ic_ge (pc1 := 32) (pt := 55) (tk (n := 17) t135_0 rfl) rfl rfl rfl ?_ ?_
  · refine s_iload_n (pc1 := 56) (tk (n := 29) t135_0 rfl) rfl rfl rfl ?_
    refine s_if_le (pc1 := 59) (pt := 66) (tk (n := 0) t135_1 rfl) rfl rfl rfl ?_ ?_
    · refine s_iload_n (pc1 := 67) (tk (n := 4) t135_1 rfl) rfl rfl rfl ?_
      exact s_ret (tk (n := 5) t135_1 rfl) rfl rfl rfl
    · refine s_aload_n (pc1 := 60) (tk (n := 1) t135_1 rfl) rfl rfl rfl ?_
      refine s_getf (pc1 := 63) (c := 11) (t1 := 2) (tk (n := 2) t135_1 rfl) rfl rfl (by decide) rfl rfl ?_
      refine s_call9 (as := [(2, h.2 x0 6)]) (st1 := []) (p1 := 66) (M2 := 5) (tk (n := 3) t135_1 rfl) rfl rfl rfl rfl rfl (fun r12 => ?_)
      refine s_iload_n (pc1 := 67) (tk (n := 4) t135_1 rfl) rfl rfl rfl ?_
      exact s_ret (tk (n := 5) t135_1 rfl) rfl rfl rfl
  · refine s_aload_n (pc1 := 33) (tk (n := 18) t135_0 rfl) rfl rfl rfl ?_
    refine s_iload (pc1 := 35) (tk (n := 19) t135_0 rfl) rfl rfl rfl ?_
    refine s_iald (pc1 := 36) (tk (n := 20) t135_0 rfl) rfl rfl  ?_
    refine s_aload_n (pc1 := 37) (tk (n := 21) t135_0 rfl) rfl rfl rfl ?_
    refine s_getf (pc1 := 40) (c := 10) (t1 := 2) (tk (n := 22) t135_0 rfl) rfl rfl (by decide) rfl rfl ?_
    refine s_iload (pc1 := 42) (tk (n := 23) t135_0 rfl) rfl rfl rfl ?_
    refine s_iald (pc1 := 43) (tk (n := 24) t135_0 rfl) rfl rfl  ?_
    refine s_ic_eq (pc1 := 46) (pt := 49) (tk (n := 25) t135_0 rfl) rfl rfl rfl ?_ ?_
    · refine s_iinc (pc1 := 52) (ls1 := [(2, x0), (2, x1), (2, x2), (0, x3), (0, w32 (x4 + 1))]) (tk (n := 27) t135_0 rfl) rfl rfl rfl rfl ?_
      refine s_goto (pc1 := 18) (tk (n := 28) t135_0 rfl) rfl rfl ?_
      rfl
    · refine s_iinc (pc1 := 49) (ls1 := [(2, x0), (2, x1), (2, x2), (0, w32 (x3 + 1)), (0, x4)]) (tk (n := 26) t135_0 rfl) rfl rfl rfl rfl ?_
      refine s_iinc (pc1 := 52) (ls1 := [(2, x0), (2, x1), (2, x2), (0, w32 (x3 + 1)), (0, w32 (x4 + 1))]) (tk (n := 27) t135_0 rfl) rfl rfl rfl rfl ?_
      refine s_goto (pc1 := 18) (tk (n := 28) t135_0 rfl) rfl rfl ?_
      rfl
set_option maxRecDepth 100000 in
set_option maxHeartbeats 4000000 in
theorem e_X11_wrap (x0 : Int) (x1 : Int) (x2 : Int) (x3 : Int) (h : Hq) : vm 136 [(2, x0), (0, x1), (0, x2), (0, x3)] h = if 0 < x0 ∧ (kd x0).1 = 11 then (vm 124 [(2, x0), (0, x1)] h).bind (fun r3 => if (vx r3) = 0 then (some (some (0, (-1)), r3.2)) else ((vm 117 [(0, x2), (0, 99999)] r3.2).bind (fun r7 => if (vx r7) = 0 then (some (some (0, (-1)), r7.2)) else (if x3 < 1 then (some (some (0, (-1)), r7.2)) else (if x3 ≤ 16 then (if 0 < x0 ∧ (kd x0).1 = 11 then if 0 < (r7.2.2 x0 3) ∧ (kd (r7.2.2 x0 3)).1 = 5 then if (kd (r7.2.2 (r7.2.2 x0 3) 3)).1 = 25 ∧ 0 ≤ x1 ∧ x1 < (kd (r7.2.2 (r7.2.2 x0 3) 3)).2 then if 0 < (r7.2.2 (r7.2.2 (r7.2.2 x0 3) 3) x1) ∧ (kd (r7.2.2 (r7.2.2 (r7.2.2 x0 3) 3) x1)).1 = 10 then (vm 97 [(2, r7.2.2 (r7.2.2 (r7.2.2 x0 3) 3) x1), (0, x2), (0, x3)] r7.2).bind (fun r22 => some (some (0, vx r22), r22.2)) else none else none else none else none) else (some (some (0, (-1)), r7.2))))))) else none := by
  show vp 136 0 [(2, x0), (0, x1), (0, x2), (0, x3)] [] h = _
  refine s_aload_n (pc1 := 1) (tk (n := 0) t136_0 rfl) rfl rfl rfl ?_
  refine s_iload_n (pc1 := 2) (tk (n := 1) t136_0 rfl) rfl rfl rfl ?_
  refine s_call0 (as := [(2, x0), (0, x1)]) (st1 := []) (p1 := 5) (M2 := 124) (tk (n := 2) t136_0 rfl) rfl rfl rfl rfl rfl (fun r3 => ?_)
  refine s_if_eq (pc1 := 8) (pt := 29) (tk (n := 3) t136_0 rfl) rfl rfl rfl ?_ ?_
  · refine s_iconst (pc1 := 30) (tk (n := 14) t136_0 rfl) rfl rfl  ?_
    exact s_ret (tk (n := 15) t136_0 rfl) rfl rfl rfl
  · refine s_iload_n (pc1 := 9) (tk (n := 4) t136_0 rfl) rfl rfl rfl ?_
    refine s_ldcw (pc1 := 12) (tk (n := 5) t136_0 rfl) rfl rfl  ?_
    refine s_callS0 (as := [(0, x2), (0, 99999)]) (st1 := []) (p1 := 15) (M2 := 117) (tk (n := 6) t136_0 rfl) rfl rfl rfl rfl rfl (fun r7 => ?_)
    refine s_if_eq (pc1 := 18) (pt := 29) (tk (n := 7) t136_0 rfl) rfl rfl rfl ?_ ?_
    · refine s_iconst (pc1 := 30) (tk (n := 14) t136_0 rfl) rfl rfl  ?_
      exact s_ret (tk (n := 15) t136_0 rfl) rfl rfl rfl
    · refine s_iload_n (pc1 := 19) (tk (n := 8) t136_0 rfl) rfl rfl rfl ?_
      refine s_iconst (pc1 := 20) (tk (n := 9) t136_0 rfl) rfl rfl  ?_
      refine s_ic_lt (pc1 := 23) (pt := 29) (tk (n := 10) t136_0 rfl) rfl rfl rfl ?_ ?_
      · refine s_iconst (pc1 := 30) (tk (n := 14) t136_0 rfl) rfl rfl  ?_
        exact s_ret (tk (n := 15) t136_0 rfl) rfl rfl rfl
      · refine s_iload_n (pc1 := 24) (tk (n := 11) t136_0 rfl) rfl rfl rfl ?_
        refine s_bipush (pc1 := 26) (tk (n := 12) t136_0 rfl) rfl rfl  ?_
        refine s_ic_le (pc1 := 29) (pt := 31) (tk (n := 13) t136_0 rfl) rfl rfl rfl ?_ ?_
        · refine s_aload_n (pc1 := 32) (tk (n := 16) t136_0 rfl) rfl rfl rfl ?_
          refine s_getf (pc1 := 35) (c := 11) (t1 := 2) (tk (n := 17) t136_0 rfl) rfl rfl (by decide) rfl rfl ?_
          refine s_getf (pc1 := 38) (c := 5) (t1 := 2) (tk (n := 18) t136_0 rfl) rfl rfl (by decide) rfl rfl ?_
          refine s_iload_n (pc1 := 39) (tk (n := 19) t136_0 rfl) rfl rfl rfl ?_
          refine s_aald (pc1 := 40) (c := 25) (tk (n := 20) t136_0 rfl) rfl rfl rfl ?_
          refine s_iload_n (pc1 := 41) (tk (n := 21) t136_0 rfl) rfl rfl rfl ?_
          refine s_iload_n (pc1 := 42) (tk (n := 22) t136_0 rfl) rfl rfl rfl ?_
          refine s_call0 (as := [(2, r7.2.2 (r7.2.2 (r7.2.2 x0 3) 3) x1), (0, x2), (0, x3)]) (st1 := []) (p1 := 45) (M2 := 97) (tk (n := 23) t136_0 rfl) rfl rfl rfl rfl rfl (fun r22 => ?_)
          exact s_ret (tk (n := 24) t136_0 rfl) rfl rfl rfl
        · refine s_iconst (pc1 := 30) (tk (n := 14) t136_0 rfl) rfl rfl  ?_
          exact s_ret (tk (n := 15) t136_0 rfl) rfl rfl rfl
set_option maxRecDepth 100000 in
set_option maxHeartbeats 4000000 in
theorem e_X11_canSample (x0 : Int) (x1 : Int) (x2 : Int) (x3 : Int) (x4 : Int) (h : Hq) : vm 137 [(2, x0), (0, x1), (0, x2), (0, x3), (0, x4)] h = if 0 < x0 ∧ (kd x0).1 = 11 then (vm 125 [(2, x0), (0, x1), (0, x2)] h).bind (fun r4 => if (vx r4) = 0 then (some (some (0, 0), r4.2)) else ((vm 117 [(0, x3), (0, 9999)] r4.2).bind (fun r8 => if (vx r8) = 0 then (some (some (0, 0), r8.2)) else ((vm 117 [(0, x4), (0, 9999)] r8.2).bind (fun r12 => if (vx r12) = 0 then (some (some (0, 0), r12.2)) else (some (some (0, 1), r12.2))))))) else none := by
  show vp 137 0 [(2, x0), (0, x1), (0, x2), (0, x3), (0, x4)] [] h = _
  refine s_aload_n (pc1 := 1) (tk (n := 0) t137_0 rfl) rfl rfl rfl ?_
  refine s_iload_n (pc1 := 2) (tk (n := 1) t137_0 rfl) rfl rfl rfl ?_
  refine s_iload_n (pc1 := 3) (tk (n := 2) t137_0 rfl) rfl rfl rfl ?_
  refine s_call0 (as := [(2, x0), (0, x1), (0, x2)]) (st1 := []) (p1 := 6) (M2 := 125) (tk (n := 3) t137_0 rfl) rfl rfl rfl rfl rfl (fun r4 => ?_)
  refine s_if_eq (pc1 := 9) (pt := 34) (tk (n := 4) t137_0 rfl) rfl rfl rfl ?_ ?_
  · refine s_iconst (pc1 := 35) (tk (n := 15) t137_0 rfl) rfl rfl  ?_
    exact s_retY (tk (n := 16) t137_0 rfl) rfl rfl rfl (by decide)
  · refine s_iload_n (pc1 := 10) (tk (n := 5) t137_0 rfl) rfl rfl rfl ?_
    refine s_sipush (pc1 := 13) (tk (n := 6) t137_0 rfl) rfl rfl  ?_
    refine s_callS0 (as := [(0, x3), (0, 9999)]) (st1 := []) (p1 := 16) (M2 := 117) (tk (n := 7) t137_0 rfl) rfl rfl rfl rfl rfl (fun r8 => ?_)
    refine s_if_eq (pc1 := 19) (pt := 34) (tk (n := 8) t137_0 rfl) rfl rfl rfl ?_ ?_
    · refine s_iconst (pc1 := 35) (tk (n := 15) t137_0 rfl) rfl rfl  ?_
      exact s_retY (tk (n := 16) t137_0 rfl) rfl rfl rfl (by decide)
    · refine s_iload (pc1 := 21) (tk (n := 9) t137_0 rfl) rfl rfl rfl ?_
      refine s_sipush (pc1 := 24) (tk (n := 10) t137_0 rfl) rfl rfl  ?_
      refine s_callS0 (as := [(0, x4), (0, 9999)]) (st1 := []) (p1 := 27) (M2 := 117) (tk (n := 11) t137_0 rfl) rfl rfl rfl rfl rfl (fun r12 => ?_)
      refine s_if_eq (pc1 := 30) (pt := 34) (tk (n := 12) t137_0 rfl) rfl rfl rfl ?_ ?_
      · refine s_iconst (pc1 := 35) (tk (n := 15) t137_0 rfl) rfl rfl  ?_
        exact s_retY (tk (n := 16) t137_0 rfl) rfl rfl rfl (by decide)
      · refine s_iconst (pc1 := 31) (tk (n := 13) t137_0 rfl) rfl rfl  ?_
        refine s_goto (pc1 := 35) (tk (n := 14) t137_0 rfl) rfl rfl ?_
        exact s_retY (tk (n := 16) t137_0 rfl) rfl rfl rfl (by decide)
set_option maxRecDepth 100000 in
set_option maxHeartbeats 4000000 in
theorem e_X11_nearest (x0 : Int) (x1 : Int) (x2 : Int) (x3 : Int) (x4 : Int) (h : Hq) : vm 138 [(2, x0), (0, x1), (0, x2), (0, x3), (0, x4)] h = if 0 < x0 ∧ (kd x0).1 = 11 then (vm 137 [(2, x0), (0, x1), (0, x2), (0, x3), (0, x4)] h).bind (fun r6 => if (vx r6) ≠ 0 then (if 0 < x0 ∧ (kd x0).1 = 11 then if 0 < (r6.2.2 x0 3) ∧ (kd (r6.2.2 x0 3)).1 = 5 then if (kd (r6.2.2 (r6.2.2 x0 3) 3)).1 = 25 ∧ 0 ≤ x1 ∧ x1 < (kd (r6.2.2 (r6.2.2 x0 3) 3)).2 then if 0 < (r6.2.2 (r6.2.2 (r6.2.2 x0 3) 3) x1) ∧ (kd (r6.2.2 (r6.2.2 (r6.2.2 x0 3) 3) x1)).1 = 10 then (vm 96 [(2, r6.2.2 (r6.2.2 (r6.2.2 x0 3) 3) x1), (0, x2), (0, bshr (bshr x3 x2) 4), (0, bshr (bshr x4 x2) 4)] r6.2).bind (fun r24 => some (some (0, vx r24), r24.2)) else none else none else none else none) else (some (some (0, (-1000000001)), r6.2))) else none := by
  show vp 138 0 [(2, x0), (0, x1), (0, x2), (0, x3), (0, x4)] [] h = _
  refine s_aload_n (pc1 := 1) (tk (n := 0) t138_0 rfl) rfl rfl rfl ?_
  refine s_iload_n (pc1 := 2) (tk (n := 1) t138_0 rfl) rfl rfl rfl ?_
  refine s_iload_n (pc1 := 3) (tk (n := 2) t138_0 rfl) rfl rfl rfl ?_
  refine s_iload_n (pc1 := 4) (tk (n := 3) t138_0 rfl) rfl rfl rfl ?_
  refine s_iload (pc1 := 6) (tk (n := 4) t138_0 rfl) rfl rfl rfl ?_
  refine s_call0 (as := [(2, x0), (0, x1), (0, x2), (0, x3), (0, x4)]) (st1 := []) (p1 := 9) (M2 := 137) (tk (n := 5) t138_0 rfl) rfl rfl rfl rfl rfl (fun r6 => ?_)
  refine s_if_ne (pc1 := 12) (pt := 15) (tk (n := 6) t138_0 rfl) rfl rfl rfl ?_ ?_
  · refine s_aload_n (pc1 := 16) (tk (n := 9) t138_0 rfl) rfl rfl rfl ?_
    refine s_getf (pc1 := 19) (c := 11) (t1 := 2) (tk (n := 10) t138_0 rfl) rfl rfl (by decide) rfl rfl ?_
    refine s_getf (pc1 := 22) (c := 5) (t1 := 2) (tk (n := 11) t138_0 rfl) rfl rfl (by decide) rfl rfl ?_
    refine s_iload_n (pc1 := 23) (tk (n := 12) t138_0 rfl) rfl rfl rfl ?_
    refine s_aald (pc1 := 24) (c := 25) (tk (n := 13) t138_0 rfl) rfl rfl rfl ?_
    refine s_iload_n (pc1 := 25) (tk (n := 14) t138_0 rfl) rfl rfl rfl ?_
    refine s_iload_n (pc1 := 26) (tk (n := 15) t138_0 rfl) rfl rfl rfl ?_
    refine s_iload_n (pc1 := 27) (tk (n := 16) t138_0 rfl) rfl rfl rfl ?_
    refine s_ishr (pc1 := 28) (tk (n := 17) t138_0 rfl) rfl rfl  ?_
    refine s_iconst (pc1 := 29) (tk (n := 18) t138_0 rfl) rfl rfl  ?_
    refine s_ishr (pc1 := 30) (tk (n := 19) t138_0 rfl) rfl rfl  ?_
    refine s_iload (pc1 := 32) (tk (n := 20) t138_0 rfl) rfl rfl rfl ?_
    refine s_iload_n (pc1 := 33) (tk (n := 21) t138_0 rfl) rfl rfl rfl ?_
    refine s_ishr (pc1 := 34) (tk (n := 22) t138_0 rfl) rfl rfl  ?_
    refine s_iconst (pc1 := 35) (tk (n := 23) t138_0 rfl) rfl rfl  ?_
    refine s_ishr (pc1 := 36) (tk (n := 24) t138_0 rfl) rfl rfl  ?_
    refine s_call0 (as := [(2, r6.2.2 (r6.2.2 (r6.2.2 x0 3) 3) x1), (0, x2), (0, bshr (bshr x3 x2) 4), (0, bshr (bshr x4 x2) 4)]) (st1 := []) (p1 := 39) (M2 := 96) (tk (n := 25) t138_0 rfl) rfl rfl rfl rfl rfl (fun r24 => ?_)
    exact s_ret (tk (n := 26) t138_0 rfl) rfl rfl rfl
  · refine s_ldc (pc1 := 14) (tk (n := 7) t138_0 rfl) rfl rfl  ?_
    exact s_ret (tk (n := 8) t138_0 rfl) rfl rfl rfl
set_option maxRecDepth 100000 in
set_option maxHeartbeats 4000000 in
theorem e_X11_smooth (x0 : Int) (x1 : Int) (x2 : Int) (x3 : Int) (x4 : Int) (h : Hq) : vm 139 [(2, x0), (0, x1), (0, x2), (0, x3), (0, x4)] h = if 0 < x0 ∧ (kd x0).1 = 11 then (vm 137 [(2, x0), (0, x1), (0, x2), (0, x3), (0, x4)] h).bind (fun r6 => if (vx r6) ≠ 0 then (if 0 < x0 ∧ (kd x0).1 = 11 then if 0 < (r6.2.2 x0 3) ∧ (kd (r6.2.2 x0 3)).1 = 5 then if (kd (r6.2.2 (r6.2.2 x0 3) 3)).1 = 25 ∧ 0 ≤ x1 ∧ x1 < (kd (r6.2.2 (r6.2.2 x0 3) 3)).2 then (vm 38 [(2, r6.2.2 (r6.2.2 (r6.2.2 x0 3) 3) x1), (0, x2), (0, x3), (0, x4)] r6.2).bind (fun r16 => some (some (0, vx r16), r16.2)) else none else none else none) else (some (some (0, (-1000000001)), r6.2))) else none := by
  show vp 139 0 [(2, x0), (0, x1), (0, x2), (0, x3), (0, x4)] [] h = _
  refine s_aload_n (pc1 := 1) (tk (n := 0) t139_0 rfl) rfl rfl rfl ?_
  refine s_iload_n (pc1 := 2) (tk (n := 1) t139_0 rfl) rfl rfl rfl ?_
  refine s_iload_n (pc1 := 3) (tk (n := 2) t139_0 rfl) rfl rfl rfl ?_
  refine s_iload_n (pc1 := 4) (tk (n := 3) t139_0 rfl) rfl rfl rfl ?_
  refine s_iload (pc1 := 6) (tk (n := 4) t139_0 rfl) rfl rfl rfl ?_
  refine s_call0 (as := [(2, x0), (0, x1), (0, x2), (0, x3), (0, x4)]) (st1 := []) (p1 := 9) (M2 := 137) (tk (n := 5) t139_0 rfl) rfl rfl rfl rfl rfl (fun r6 => ?_)
  refine s_if_ne (pc1 := 12) (pt := 15) (tk (n := 6) t139_0 rfl) rfl rfl rfl ?_ ?_
  · refine s_aload_n (pc1 := 16) (tk (n := 9) t139_0 rfl) rfl rfl rfl ?_
    refine s_getf (pc1 := 19) (c := 11) (t1 := 2) (tk (n := 10) t139_0 rfl) rfl rfl (by decide) rfl rfl ?_
    refine s_getf (pc1 := 22) (c := 5) (t1 := 2) (tk (n := 11) t139_0 rfl) rfl rfl (by decide) rfl rfl ?_
    refine s_iload_n (pc1 := 23) (tk (n := 12) t139_0 rfl) rfl rfl rfl ?_
    refine s_aald (pc1 := 24) (c := 25) (tk (n := 13) t139_0 rfl) rfl rfl rfl ?_
    refine s_iload_n (pc1 := 25) (tk (n := 14) t139_0 rfl) rfl rfl rfl ?_
    refine s_iload_n (pc1 := 26) (tk (n := 15) t139_0 rfl) rfl rfl rfl ?_
    refine s_iload (pc1 := 28) (tk (n := 16) t139_0 rfl) rfl rfl rfl ?_
    refine s_callS0 (as := [(2, r6.2.2 (r6.2.2 (r6.2.2 x0 3) 3) x1), (0, x2), (0, x3), (0, x4)]) (st1 := []) (p1 := 31) (M2 := 38) (tk (n := 17) t139_0 rfl) rfl rfl rfl rfl rfl (fun r16 => ?_)
    exact s_ret (tk (n := 18) t139_0 rfl) rfl rfl rfl
  · refine s_ldc (pc1 := 14) (tk (n := 7) t139_0 rfl) rfl rfl  ?_
    exact s_ret (tk (n := 8) t139_0 rfl) rfl rfl rfl
set_option maxRecDepth 100000 in
set_option maxHeartbeats 4000000 in
theorem e_X11_blend (x0 : Int) (x1 : Int) (x2 : Int) (x3 : Int) (x4 : Int) (h : Hq) : vm 140 [(2, x0), (0, x1), (0, x2), (0, x3), (0, x4)] h = if 0 < x0 ∧ (kd x0).1 = 11 then (vm 137 [(2, x0), (0, x1), (0, 0), (0, x2), (0, x3)] h).bind (fun r6 => if (vx r6) = 0 then (some (some (0, (-1000000001)), r6.2)) else (if x4 < 0 then (some (some (0, (-1000000001)), r6.2)) else (if x4 ≤ 160 then (if 0 < x0 ∧ (kd x0).1 = 11 then if 0 < (r6.2.2 x0 3) ∧ (kd (r6.2.2 x0 3)).1 = 5 then if (kd (r6.2.2 (r6.2.2 x0 3) 3)).1 = 25 ∧ 0 ≤ x1 ∧ x1 < (kd (r6.2.2 (r6.2.2 x0 3) 3)).2 then (vm 39 [(2, r6.2.2 (r6.2.2 (r6.2.2 x0 3) 3) x1), (0, x2), (0, x3), (0, x4)] r6.2).bind (fun r21 => some (some (0, vx r21), r21.2)) else none else none else none) else (some (some (0, (-1000000001)), r6.2))))) else none := by
  show vp 140 0 [(2, x0), (0, x1), (0, x2), (0, x3), (0, x4)] [] h = _
  refine s_aload_n (pc1 := 1) (tk (n := 0) t140_0 rfl) rfl rfl rfl ?_
  refine s_iload_n (pc1 := 2) (tk (n := 1) t140_0 rfl) rfl rfl rfl ?_
  refine s_iconst (pc1 := 3) (tk (n := 2) t140_0 rfl) rfl rfl  ?_
  refine s_iload_n (pc1 := 4) (tk (n := 3) t140_0 rfl) rfl rfl rfl ?_
  refine s_iload_n (pc1 := 5) (tk (n := 4) t140_0 rfl) rfl rfl rfl ?_
  refine s_call0 (as := [(2, x0), (0, x1), (0, 0), (0, x2), (0, x3)]) (st1 := []) (p1 := 8) (M2 := 137) (tk (n := 5) t140_0 rfl) rfl rfl rfl rfl rfl (fun r6 => ?_)
  refine s_if_eq (pc1 := 11) (pt := 24) (tk (n := 6) t140_0 rfl) rfl rfl rfl ?_ ?_
  · refine s_ldc (pc1 := 26) (tk (n := 12) t140_0 rfl) rfl rfl  ?_
    exact s_ret (tk (n := 13) t140_0 rfl) rfl rfl rfl
  · refine s_iload (pc1 := 13) (tk (n := 7) t140_0 rfl) rfl rfl rfl ?_
    refine s_if_lt (pc1 := 16) (pt := 24) (tk (n := 8) t140_0 rfl) rfl rfl rfl ?_ ?_
    · refine s_ldc (pc1 := 26) (tk (n := 12) t140_0 rfl) rfl rfl  ?_
      exact s_ret (tk (n := 13) t140_0 rfl) rfl rfl rfl
    · refine s_iload (pc1 := 18) (tk (n := 9) t140_0 rfl) rfl rfl rfl ?_
      refine s_sipush (pc1 := 21) (tk (n := 10) t140_0 rfl) rfl rfl  ?_
      refine s_ic_le (pc1 := 24) (pt := 27) (tk (n := 11) t140_0 rfl) rfl rfl rfl ?_ ?_
      · refine s_aload_n (pc1 := 28) (tk (n := 14) t140_0 rfl) rfl rfl rfl ?_
        refine s_getf (pc1 := 31) (c := 11) (t1 := 2) (tk (n := 15) t140_0 rfl) rfl rfl (by decide) rfl rfl ?_
        refine s_getf (pc1 := 34) (c := 5) (t1 := 2) (tk (n := 16) t140_0 rfl) rfl rfl (by decide) rfl rfl ?_
        refine s_iload_n (pc1 := 35) (tk (n := 17) t140_0 rfl) rfl rfl rfl ?_
        refine s_aald (pc1 := 36) (c := 25) (tk (n := 18) t140_0 rfl) rfl rfl rfl ?_
        refine s_iload_n (pc1 := 37) (tk (n := 19) t140_0 rfl) rfl rfl rfl ?_
        refine s_iload_n (pc1 := 38) (tk (n := 20) t140_0 rfl) rfl rfl rfl ?_
        refine s_iload (pc1 := 40) (tk (n := 21) t140_0 rfl) rfl rfl rfl ?_
        refine s_callS0 (as := [(2, r6.2.2 (r6.2.2 (r6.2.2 x0 3) 3) x1), (0, x2), (0, x3), (0, x4)]) (st1 := []) (p1 := 43) (M2 := 39) (tk (n := 22) t140_0 rfl) rfl rfl rfl rfl rfl (fun r21 => ?_)
        exact s_ret (tk (n := 23) t140_0 rfl) rfl rfl rfl
      · refine s_ldc (pc1 := 26) (tk (n := 12) t140_0 rfl) rfl rfl  ?_
        exact s_ret (tk (n := 13) t140_0 rfl) rfl rfl rfl
set_option maxRecDepth 100000 in
set_option maxHeartbeats 4000000 in
theorem e_X11_isFootprint (x0 : Int) (x1 : Int) (x2 : Int) (x3 : Int) (h : Hq) : vm 141 [(0, x0), (0, x1), (0, x2), (0, x3)] h = (vm 117 [(0, x0), (0, 999)] h).bind (fun r3 => if (vx r3) = 0 then (some (some (0, 0), r3.2)) else ((vm 117 [(0, x1), (0, 999)] r3.2).bind (fun r7 => if (vx r7) = 0 then (some (some (0, 0), r7.2)) else ((vm 117 [(0, x2), (0, 999)] r7.2).bind (fun r11 => if (vx r11) = 0 then (some (some (0, 0), r11.2)) else ((vm 117 [(0, x3), (0, 999)] r11.2).bind (fun r15 => if (vx r15) = 0 then (some (some (0, 0), r15.2)) else (some (some (0, 1), r15.2))))))))) := by
  show vp 141 0 [(0, x0), (0, x1), (0, x2), (0, x3)] [] h = _
  refine s_iload_n (pc1 := 1) (tk (n := 0) t141_0 rfl) rfl rfl rfl ?_
  refine s_sipush (pc1 := 4) (tk (n := 1) t141_0 rfl) rfl rfl  ?_
  refine s_callS0 (as := [(0, x0), (0, 999)]) (st1 := []) (p1 := 7) (M2 := 117) (tk (n := 2) t141_0 rfl) rfl rfl rfl rfl rfl (fun r3 => ?_)
  refine s_if_eq (pc1 := 10) (pt := 44) (tk (n := 3) t141_0 rfl) rfl rfl rfl ?_ ?_
  · refine s_iconst (pc1 := 45) (tk (n := 18) t141_0 rfl) rfl rfl  ?_
    exact s_retY (tk (n := 19) t141_0 rfl) rfl rfl rfl (by decide)
  · refine s_iload_n (pc1 := 11) (tk (n := 4) t141_0 rfl) rfl rfl rfl ?_
    refine s_sipush (pc1 := 14) (tk (n := 5) t141_0 rfl) rfl rfl  ?_
    refine s_callS0 (as := [(0, x1), (0, 999)]) (st1 := []) (p1 := 17) (M2 := 117) (tk (n := 6) t141_0 rfl) rfl rfl rfl rfl rfl (fun r7 => ?_)
    refine s_if_eq (pc1 := 20) (pt := 44) (tk (n := 7) t141_0 rfl) rfl rfl rfl ?_ ?_
    · refine s_iconst (pc1 := 45) (tk (n := 18) t141_0 rfl) rfl rfl  ?_
      exact s_retY (tk (n := 19) t141_0 rfl) rfl rfl rfl (by decide)
    · refine s_iload_n (pc1 := 21) (tk (n := 8) t141_0 rfl) rfl rfl rfl ?_
      refine s_sipush (pc1 := 24) (tk (n := 9) t141_0 rfl) rfl rfl  ?_
      refine s_callS0 (as := [(0, x2), (0, 999)]) (st1 := []) (p1 := 27) (M2 := 117) (tk (n := 10) t141_0 rfl) rfl rfl rfl rfl rfl (fun r11 => ?_)
      refine s_if_eq (pc1 := 30) (pt := 44) (tk (n := 11) t141_0 rfl) rfl rfl rfl ?_ ?_
      · refine s_iconst (pc1 := 45) (tk (n := 18) t141_0 rfl) rfl rfl  ?_
        exact s_retY (tk (n := 19) t141_0 rfl) rfl rfl rfl (by decide)
      · refine s_iload_n (pc1 := 31) (tk (n := 12) t141_0 rfl) rfl rfl rfl ?_
        refine s_sipush (pc1 := 34) (tk (n := 13) t141_0 rfl) rfl rfl  ?_
        refine s_callS0 (as := [(0, x3), (0, 999)]) (st1 := []) (p1 := 37) (M2 := 117) (tk (n := 14) t141_0 rfl) rfl rfl rfl rfl rfl (fun r15 => ?_)
        refine s_if_eq (pc1 := 40) (pt := 44) (tk (n := 15) t141_0 rfl) rfl rfl rfl ?_ ?_
        · refine s_iconst (pc1 := 45) (tk (n := 18) t141_0 rfl) rfl rfl  ?_
          exact s_retY (tk (n := 19) t141_0 rfl) rfl rfl rfl (by decide)
        · refine s_iconst (pc1 := 41) (tk (n := 16) t141_0 rfl) rfl rfl  ?_
          refine s_goto (pc1 := 45) (tk (n := 17) t141_0 rfl) rfl rfl ?_
          exact s_retY (tk (n := 19) t141_0 rfl) rfl rfl rfl (by decide)
set_option maxRecDepth 100000 in
set_option maxHeartbeats 4000000 in
theorem e_X11_axis (x0 : Int) (x1 : Int) (x2 : Int) (x3 : Int) (x4 : Int) (x5 : Int) (h : Hq) : vm 142 [(2, x0), (0, x1), (0, x2), (0, x3), (0, x4), (0, x5)] h = (vm 141 [(0, x1), (0, x2), (0, x3), (0, x4)] h).bind (fun r5 => if (vx r5) ≠ 0 then (if 0 < x0 ∧ (kd x0).1 = 11 then if 0 < (r5.2.2 x0 10) ∧ (kd (r5.2.2 x0 10)).1 = 2 then (vm 15 [(2, r5.2.2 x0 10), (0, x1), (0, x2), (0, x3), (0, x4)] r5.2).bind (fun r13 => if x5 = 0 then (if 0 < x0 ∧ (kd x0).1 = 11 then if 0 < (r13.2.2 x0 10) ∧ (kd (r13.2.2 x0 10)).1 = 2 then some (some (0, r13.2.2 (r13.2.2 x0 10) 0), r13.2) else none else none) else (if x5 = 1 then (if 0 < x0 ∧ (kd x0).1 = 11 then if 0 < (r13.2.2 x0 10) ∧ (kd (r13.2.2 x0 10)).1 = 2 then some (some (0, r13.2.2 (r13.2.2 x0 10) 1), r13.2) else none else none) else (if x5 = 2 then (if 0 < x0 ∧ (kd x0).1 = 11 then if 0 < (r13.2.2 x0 10) ∧ (kd (r13.2.2 x0 10)).1 = 2 then some (some (0, r13.2.2 (r13.2.2 x0 10) 2), r13.2) else none else none) else (if x5 = 3 then (if 0 < x0 ∧ (kd x0).1 = 11 then if 0 < (r13.2.2 x0 10) ∧ (kd (r13.2.2 x0 10)).1 = 2 then some (some (0, r13.2.2 (r13.2.2 x0 10) 5), r13.2) else none else none) else (some (some (0, (-1)), r13.2)))))) else none else none) else (some (some (0, (-1)), r5.2))) := by
  show vp 142 0 [(2, x0), (0, x1), (0, x2), (0, x3), (0, x4), (0, x5)] [] h = _
  refine s_iload_n (pc1 := 1) (tk (n := 0) t142_0 rfl) rfl rfl rfl ?_
  refine s_iload_n (pc1 := 2) (tk (n := 1) t142_0 rfl) rfl rfl rfl ?_
  refine s_iload_n (pc1 := 3) (tk (n := 2) t142_0 rfl) rfl rfl rfl ?_
  refine s_iload (pc1 := 5) (tk (n := 3) t142_0 rfl) rfl rfl rfl ?_
  refine s_callS0 (as := [(0, x1), (0, x2), (0, x3), (0, x4)]) (st1 := []) (p1 := 8) (M2 := 141) (tk (n := 4) t142_0 rfl) rfl rfl rfl rfl rfl (fun r5 => ?_)
  refine s_if_ne (pc1 := 11) (pt := 13) (tk (n := 5) t142_0 rfl) rfl rfl rfl ?_ ?_
  · refine s_aload_n (pc1 := 14) (tk (n := 8) t142_0 rfl) rfl rfl rfl ?_
    refine s_getf (pc1 := 17) (c := 11) (t1 := 2) (tk (n := 9) t142_0 rfl) rfl rfl (by decide) rfl rfl ?_
    refine s_iload_n (pc1 := 18) (tk (n := 10) t142_0 rfl) rfl rfl rfl ?_
    refine s_iload_n (pc1 := 19) (tk (n := 11) t142_0 rfl) rfl rfl rfl ?_
    refine s_iload_n (pc1 := 20) (tk (n := 12) t142_0 rfl) rfl rfl rfl ?_
    refine s_iload (pc1 := 22) (tk (n := 13) t142_0 rfl) rfl rfl rfl ?_
    refine s_call9 (as := [(2, r5.2.2 x0 10), (0, x1), (0, x2), (0, x3), (0, x4)]) (st1 := []) (p1 := 25) (M2 := 15) (tk (n := 14) t142_0 rfl) rfl rfl rfl rfl rfl (fun r13 => ?_)
    refine s_iload (pc1 := 27) (tk (n := 15) t142_0 rfl) rfl rfl rfl ?_
    refine s_sw (x := x5) (cs := [(0, 56), (1, 64), (2, 72), (3, 80)]) (p0 := 88) (st1 := []) (tk (n := 16) t142_0 rfl) rfl rfl ?_
    refine s_swC (p1 := 56) rfl ?_ ?_
    · refine s_aload_n (pc1 := 57) (tk (n := 17) t142_0 rfl) rfl rfl rfl ?_
      refine s_getf (pc1 := 60) (c := 11) (t1 := 2) (tk (n := 18) t142_0 rfl) rfl rfl (by decide) rfl rfl ?_
      refine s_getf (pc1 := 63) (c := 2) (t1 := 0) (tk (n := 19) t142_0 rfl) rfl rfl (by decide) rfl rfl ?_
      exact s_ret (tk (n := 20) t142_0 rfl) rfl rfl rfl
    refine s_swC (p1 := 64) rfl ?_ ?_
    · refine s_aload_n (pc1 := 65) (tk (n := 21) t142_0 rfl) rfl rfl rfl ?_
      refine s_getf (pc1 := 68) (c := 11) (t1 := 2) (tk (n := 22) t142_0 rfl) rfl rfl (by decide) rfl rfl ?_
      refine s_getf (pc1 := 71) (c := 2) (t1 := 0) (tk (n := 23) t142_0 rfl) rfl rfl (by decide) rfl rfl ?_
      exact s_ret (tk (n := 24) t142_0 rfl) rfl rfl rfl
    refine s_swC (p1 := 72) rfl ?_ ?_
    · refine s_aload_n (pc1 := 73) (tk (n := 25) t142_0 rfl) rfl rfl rfl ?_
      refine s_getf (pc1 := 76) (c := 11) (t1 := 2) (tk (n := 26) t142_0 rfl) rfl rfl (by decide) rfl rfl ?_
      refine s_getf (pc1 := 79) (c := 2) (t1 := 0) (tk (n := 27) t142_0 rfl) rfl rfl (by decide) rfl rfl ?_
      exact s_ret (tk (n := 28) t142_0 rfl) rfl rfl rfl
    refine s_swC (p1 := 80) rfl ?_ ?_
    · refine s_aload_n (pc1 := 81) (tk (n := 29) t142_0 rfl) rfl rfl rfl ?_
      refine s_getf (pc1 := 84) (c := 11) (t1 := 2) (tk (n := 0) t142_1 rfl) rfl rfl (by decide) rfl rfl ?_
      refine s_getf (pc1 := 87) (c := 2) (t1 := 0) (tk (n := 1) t142_1 rfl) rfl rfl (by decide) rfl rfl ?_
      exact s_ret (tk (n := 2) t142_1 rfl) rfl rfl rfl
    refine s_swN (d1 := 88) rfl ?_
    refine s_iconst (pc1 := 89) (tk (n := 3) t142_1 rfl) rfl rfl  ?_
    exact s_ret (tk (n := 4) t142_1 rfl) rfl rfl rfl
  · refine s_iconst (pc1 := 12) (tk (n := 6) t142_0 rfl) rfl rfl  ?_
    exact s_ret (tk (n := 7) t142_0 rfl) rfl rfl rfl
set_option maxRecDepth 100000 in
set_option maxHeartbeats 4000000 in
theorem e_X11_filtered (x0 : Int) (x1 : Int) (x2 : Int) (x3 : Int) (x4 : Int) (x5 : Int) (x6 : Int) (x7 : Int) (h : Hq) : vm 143 [(2, x0), (0, x1), (0, x2), (0, x3), (0, x4), (0, x5), (0, x6), (0, x7)] h = if 0 < x0 ∧ (kd x0).1 = 11 then (vm 137 [(2, x0), (0, x1), (0, 0), (0, x2), (0, x3)] h).bind (fun r6 => if (vx r6) = 0 then (some (some (0, (-1000000001)), r6.2)) else ((vm 141 [(0, x4), (0, x5), (0, x6), (0, x7)] r6.2).bind (fun r12 => if (vx r12) ≠ 0 then (if 0 < x0 ∧ (kd x0).1 = 11 then if 0 < (r12.2.2 x0 10) ∧ (kd (r12.2.2 x0 10)).1 = 2 then (vm 15 [(2, r12.2.2 x0 10), (0, x4), (0, x5), (0, x6), (0, x7)] r12.2).bind (fun r20 => if 0 < x0 ∧ (kd x0).1 = 11 then if 0 < (r20.2.2 x0 3) ∧ (kd (r20.2.2 x0 3)).1 = 5 then if (kd (r20.2.2 (r20.2.2 x0 3) 3)).1 = 25 ∧ 0 ≤ x1 ∧ x1 < (kd (r20.2.2 (r20.2.2 x0 3) 3)).2 then if 0 < x0 ∧ (kd x0).1 = 11 then (vm 40 [(2, r20.2.2 (r20.2.2 (r20.2.2 x0 3) 3) x1), (2, r20.2.2 x0 10), (0, x2), (0, x3)] r20.2).bind (fun r30 => some (some (0, vx r30), r30.2)) else none else none else none else none) else none else none) else (some (some (0, (-1000000001)), r12.2))))) else none := by
  show vp 143 0 [(2, x0), (0, x1), (0, x2), (0, x3), (0, x4), (0, x5), (0, x6), (0, x7)] [] h = _
  refine s_aload_n (pc1 := 1) (tk (n := 0) t143_0 rfl) rfl rfl rfl ?_
  refine s_iload_n (pc1 := 2) (tk (n := 1) t143_0 rfl) rfl rfl rfl ?_
  refine s_iconst (pc1 := 3) (tk (n := 2) t143_0 rfl) rfl rfl  ?_
  refine s_iload_n (pc1 := 4) (tk (n := 3) t143_0 rfl) rfl rfl rfl ?_
  refine s_iload_n (pc1 := 5) (tk (n := 4) t143_0 rfl) rfl rfl rfl ?_
  refine s_call0 (as := [(2, x0), (0, x1), (0, 0), (0, x2), (0, x3)]) (st1 := []) (p1 := 8) (M2 := 137) (tk (n := 5) t143_0 rfl) rfl rfl rfl rfl rfl (fun r6 => ?_)
  refine s_if_eq (pc1 := 11) (pt := 25) (tk (n := 6) t143_0 rfl) rfl rfl rfl ?_ ?_
  · refine s_ldc (pc1 := 27) (tk (n := 13) t143_0 rfl) rfl rfl  ?_
    exact s_ret (tk (n := 14) t143_0 rfl) rfl rfl rfl
  · refine s_iload (pc1 := 13) (tk (n := 7) t143_0 rfl) rfl rfl rfl ?_
    refine s_iload (pc1 := 15) (tk (n := 8) t143_0 rfl) rfl rfl rfl ?_
    refine s_iload (pc1 := 17) (tk (n := 9) t143_0 rfl) rfl rfl rfl ?_
    refine s_iload (pc1 := 19) (tk (n := 10) t143_0 rfl) rfl rfl rfl ?_
    refine s_callS0 (as := [(0, x4), (0, x5), (0, x6), (0, x7)]) (st1 := []) (p1 := 22) (M2 := 141) (tk (n := 11) t143_0 rfl) rfl rfl rfl rfl rfl (fun r12 => ?_)
    refine s_if_ne (pc1 := 25) (pt := 28) (tk (n := 12) t143_0 rfl) rfl rfl rfl ?_ ?_
    · refine s_aload_n (pc1 := 29) (tk (n := 15) t143_0 rfl) rfl rfl rfl ?_
      refine s_getf (pc1 := 32) (c := 11) (t1 := 2) (tk (n := 16) t143_0 rfl) rfl rfl (by decide) rfl rfl ?_
      refine s_iload (pc1 := 34) (tk (n := 17) t143_0 rfl) rfl rfl rfl ?_
      refine s_iload (pc1 := 36) (tk (n := 18) t143_0 rfl) rfl rfl rfl ?_
      refine s_iload (pc1 := 38) (tk (n := 19) t143_0 rfl) rfl rfl rfl ?_
      refine s_iload (pc1 := 40) (tk (n := 20) t143_0 rfl) rfl rfl rfl ?_
      refine s_call9 (as := [(2, r12.2.2 x0 10), (0, x4), (0, x5), (0, x6), (0, x7)]) (st1 := []) (p1 := 43) (M2 := 15) (tk (n := 21) t143_0 rfl) rfl rfl rfl rfl rfl (fun r20 => ?_)
      refine s_aload_n (pc1 := 44) (tk (n := 22) t143_0 rfl) rfl rfl rfl ?_
      refine s_getf (pc1 := 47) (c := 11) (t1 := 2) (tk (n := 23) t143_0 rfl) rfl rfl (by decide) rfl rfl ?_
      refine s_getf (pc1 := 50) (c := 5) (t1 := 2) (tk (n := 24) t143_0 rfl) rfl rfl (by decide) rfl rfl ?_
      refine s_iload_n (pc1 := 51) (tk (n := 25) t143_0 rfl) rfl rfl rfl ?_
      refine s_aald (pc1 := 52) (c := 25) (tk (n := 26) t143_0 rfl) rfl rfl rfl ?_
      refine s_aload_n (pc1 := 53) (tk (n := 27) t143_0 rfl) rfl rfl rfl ?_
      refine s_getf (pc1 := 56) (c := 11) (t1 := 2) (tk (n := 28) t143_0 rfl) rfl rfl (by decide) rfl rfl ?_
      refine s_iload_n (pc1 := 57) (tk (n := 29) t143_0 rfl) rfl rfl rfl ?_
      refine s_iload_n (pc1 := 58) (tk (n := 0) t143_1 rfl) rfl rfl rfl ?_
      refine s_callS0 (as := [(2, r20.2.2 (r20.2.2 (r20.2.2 x0 3) 3) x1), (2, r20.2.2 x0 10), (0, x2), (0, x3)]) (st1 := []) (p1 := 61) (M2 := 40) (tk (n := 1) t143_1 rfl) rfl rfl rfl rfl rfl (fun r30 => ?_)
      exact s_ret (tk (n := 2) t143_1 rfl) rfl rfl rfl
    · refine s_ldc (pc1 := 27) (tk (n := 13) t143_0 rfl) rfl rfl  ?_
      exact s_ret (tk (n := 14) t143_0 rfl) rfl rfl rfl
set_option maxRecDepth 100000 in
set_option maxHeartbeats 4000000 in
theorem e_X11_isInFour (x0 : Int) (x1 : Int) (h : Hq) : vm 144 [(0, x0), (0, x1)] h = if x0 < 0 then (some (some (0, 0), h)) else (if x0 > 3 then (some (some (0, 0), h)) else (if x1 < 0 then (some (some (0, 0), h)) else (if x1 > 3 then (some (some (0, 0), h)) else (some (some (0, 1), h))))) := by
  show vp 144 0 [(0, x0), (0, x1)] [] h = _
  refine s_iload_n (pc1 := 1) (tk (n := 0) t144_0 rfl) rfl rfl rfl ?_
  refine s_if_lt (pc1 := 4) (pt := 22) (tk (n := 1) t144_0 rfl) rfl rfl rfl ?_ ?_
  · refine s_iconst (pc1 := 23) (tk (n := 12) t144_0 rfl) rfl rfl  ?_
    exact s_retY (tk (n := 13) t144_0 rfl) rfl rfl rfl (by decide)
  · refine s_iload_n (pc1 := 5) (tk (n := 2) t144_0 rfl) rfl rfl rfl ?_
    refine s_iconst (pc1 := 6) (tk (n := 3) t144_0 rfl) rfl rfl  ?_
    refine s_ic_gt (pc1 := 9) (pt := 22) (tk (n := 4) t144_0 rfl) rfl rfl rfl ?_ ?_
    · refine s_iconst (pc1 := 23) (tk (n := 12) t144_0 rfl) rfl rfl  ?_
      exact s_retY (tk (n := 13) t144_0 rfl) rfl rfl rfl (by decide)
    · refine s_iload_n (pc1 := 10) (tk (n := 5) t144_0 rfl) rfl rfl rfl ?_
      refine s_if_lt (pc1 := 13) (pt := 22) (tk (n := 6) t144_0 rfl) rfl rfl rfl ?_ ?_
      · refine s_iconst (pc1 := 23) (tk (n := 12) t144_0 rfl) rfl rfl  ?_
        exact s_retY (tk (n := 13) t144_0 rfl) rfl rfl rfl (by decide)
      · refine s_iload_n (pc1 := 14) (tk (n := 7) t144_0 rfl) rfl rfl rfl ?_
        refine s_iconst (pc1 := 15) (tk (n := 8) t144_0 rfl) rfl rfl  ?_
        refine s_ic_gt (pc1 := 18) (pt := 22) (tk (n := 9) t144_0 rfl) rfl rfl rfl ?_ ?_
        · refine s_iconst (pc1 := 23) (tk (n := 12) t144_0 rfl) rfl rfl  ?_
          exact s_retY (tk (n := 13) t144_0 rfl) rfl rfl rfl (by decide)
        · refine s_iconst (pc1 := 19) (tk (n := 10) t144_0 rfl) rfl rfl  ?_
          refine s_goto (pc1 := 23) (tk (n := 11) t144_0 rfl) rfl rfl ?_
          exact s_retY (tk (n := 13) t144_0 rfl) rfl rfl rfl (by decide)
set_option maxRecDepth 100000 in
set_option maxHeartbeats 4000000 in
theorem e_X11_unpack (x0 : Int) (x1 : Int) (x3 : Int) (x4 : Int) (h : Hq) : vm 145 [(2, x0), (1, x1), (0, x3), (0, x4)] h = (vm 144 [(0, x3), (0, x4)] h).bind (fun r3 => if (vx r3) = 0 then (some (some (0, (-1)), r3.2)) else ((vm 31 [(1, x1), (0, w32 ((w32 (x4 * 4)) + x3))] r3.2).bind (fun r11 => some (some (0, vx r11), r11.2)))) := by
  show vp 145 0 [(2, x0), (1, x1), (9, 0), (0, x3), (0, x4)] [] h = _
  refine s_iload_n (pc1 := 1) (tk (n := 0) t145_0 rfl) rfl rfl rfl ?_
  refine s_iload (pc1 := 3) (tk (n := 1) t145_0 rfl) rfl rfl rfl ?_
  refine s_callS0 (as := [(0, x3), (0, x4)]) (st1 := []) (p1 := 6) (M2 := 144) (tk (n := 2) t145_0 rfl) rfl rfl rfl rfl rfl (fun r3 => ?_)
  refine s_if_eq (pc1 := 9) (pt := 22) (tk (n := 3) t145_0 rfl) rfl rfl rfl ?_ ?_
  · refine s_iconst (pc1 := 23) (tk (n := 12) t145_0 rfl) rfl rfl  ?_
    exact s_ret (tk (n := 13) t145_0 rfl) rfl rfl rfl
  · refine s_lload_n (pc1 := 10) (tk (n := 4) t145_0 rfl) rfl rfl rfl ?_
    refine s_iload (pc1 := 12) (tk (n := 5) t145_0 rfl) rfl rfl rfl ?_
    refine s_iconst (pc1 := 13) (tk (n := 6) t145_0 rfl) rfl rfl  ?_
    refine s_imul (pc1 := 14) (tk (n := 7) t145_0 rfl) rfl rfl  ?_
    refine s_iload_n (pc1 := 15) (tk (n := 8) t145_0 rfl) rfl rfl rfl ?_
    refine s_iadd (pc1 := 16) (tk (n := 9) t145_0 rfl) rfl rfl  ?_
    refine s_callS0 (as := [(1, x1), (0, w32 ((w32 (x4 * 4)) + x3))]) (st1 := []) (p1 := 19) (M2 := 31) (tk (n := 10) t145_0 rfl) rfl rfl rfl rfl rfl (fun r11 => ?_)
    refine s_goto (pc1 := 23) (tk (n := 11) t145_0 rfl) rfl rfl ?_
    exact s_ret (tk (n := 13) t145_0 rfl) rfl rfl rfl
set_option maxRecDepth 100000 in
set_option maxHeartbeats 4000000 in
theorem e_X11_pack (x0 : Int) (x1 : Int) (x2 : Int) (x3 : Int) (x4 : Int) (h : Hq) : vm 146 [(2, x0), (0, x1), (0, x2), (0, x3), (0, x4)] h = if 0 < x0 ∧ (kd x0).1 = 11 then (vm 125 [(2, x0), (0, x1), (0, x2)] h).bind (fun r4 => if (vx r4) = 0 then (some (some (1, 0), r4.2)) else ((vm 144 [(0, x3), (0, x4)] r4.2).bind (fun r8 => if (vx r8) ≠ 0 then (if 0 < x0 ∧ (kd x0).1 = 11 then if 0 < x0 ∧ (kd x0).1 = 11 then if 0 < (r8.2.2 x0 3) ∧ (kd (r8.2.2 x0 3)).1 = 5 then if (kd (r8.2.2 (r8.2.2 x0 3) 3)).1 = 25 ∧ 0 ≤ x1 ∧ x1 < (kd (r8.2.2 (r8.2.2 x0 3) 3)).2 then if 0 < (r8.2.2 x0 11) ∧ (kd (r8.2.2 x0 11)).1 = 4 then (vm 27 [(2, r8.2.2 x0 11), (2, r8.2.2 (r8.2.2 (r8.2.2 x0 3) 3) x1), (0, x2), (0, x3), (0, x4)] r8.2).bind (fun r20 => if 0 < x0 ∧ (kd x0).1 = 11 then if 0 < (r20.2.2 x0 11) ∧ (kd (r20.2.2 x0 11)).1 = 4 then (vm 28 [(2, r20.2.2 x0 11)] r20.2).bind (fun r23 => some (some (1, vx r23), r23.2)) else none else none) else none else none else none else none else none) else (some (some (1, 0), r8.2))))) else none := by
  show vp 146 0 [(2, x0), (0, x1), (0, x2), (0, x3), (0, x4)] [] h = _
  refine s_aload_n (pc1 := 1) (tk (n := 0) t146_0 rfl) rfl rfl rfl ?_
  refine s_iload_n (pc1 := 2) (tk (n := 1) t146_0 rfl) rfl rfl rfl ?_
  refine s_iload_n (pc1 := 3) (tk (n := 2) t146_0 rfl) rfl rfl rfl ?_
  refine s_call0 (as := [(2, x0), (0, x1), (0, x2)]) (st1 := []) (p1 := 6) (M2 := 125) (tk (n := 3) t146_0 rfl) rfl rfl rfl rfl rfl (fun r4 => ?_)
  refine s_if_eq (pc1 := 9) (pt := 18) (tk (n := 4) t146_0 rfl) rfl rfl rfl ?_ ?_
  · refine s_lconst (pc1 := 19) (v := 0) (tk (n := 9) t146_0 rfl) rfl rfl rfl ?_
    exact s_ret (tk (n := 10) t146_0 rfl) rfl rfl rfl
  · refine s_iload_n (pc1 := 10) (tk (n := 5) t146_0 rfl) rfl rfl rfl ?_
    refine s_iload (pc1 := 12) (tk (n := 6) t146_0 rfl) rfl rfl rfl ?_
    refine s_callS0 (as := [(0, x3), (0, x4)]) (st1 := []) (p1 := 15) (M2 := 144) (tk (n := 7) t146_0 rfl) rfl rfl rfl rfl rfl (fun r8 => ?_)
    refine s_if_ne (pc1 := 18) (pt := 20) (tk (n := 8) t146_0 rfl) rfl rfl rfl ?_ ?_
    · refine s_aload_n (pc1 := 21) (tk (n := 11) t146_0 rfl) rfl rfl rfl ?_
      refine s_getf (pc1 := 24) (c := 11) (t1 := 2) (tk (n := 12) t146_0 rfl) rfl rfl (by decide) rfl rfl ?_
      refine s_aload_n (pc1 := 25) (tk (n := 13) t146_0 rfl) rfl rfl rfl ?_
      refine s_getf (pc1 := 28) (c := 11) (t1 := 2) (tk (n := 14) t146_0 rfl) rfl rfl (by decide) rfl rfl ?_
      refine s_getf (pc1 := 31) (c := 5) (t1 := 2) (tk (n := 15) t146_0 rfl) rfl rfl (by decide) rfl rfl ?_
      refine s_iload_n (pc1 := 32) (tk (n := 16) t146_0 rfl) rfl rfl rfl ?_
      refine s_aald (pc1 := 33) (c := 25) (tk (n := 17) t146_0 rfl) rfl rfl rfl ?_
      refine s_iload_n (pc1 := 34) (tk (n := 18) t146_0 rfl) rfl rfl rfl ?_
      refine s_iload_n (pc1 := 35) (tk (n := 19) t146_0 rfl) rfl rfl rfl ?_
      refine s_iload (pc1 := 37) (tk (n := 20) t146_0 rfl) rfl rfl rfl ?_
      refine s_call9 (as := [(2, r8.2.2 x0 11), (2, r8.2.2 (r8.2.2 (r8.2.2 x0 3) 3) x1), (0, x2), (0, x3), (0, x4)]) (st1 := []) (p1 := 40) (M2 := 27) (tk (n := 21) t146_0 rfl) rfl rfl rfl rfl rfl (fun r20 => ?_)
      refine s_aload_n (pc1 := 41) (tk (n := 22) t146_0 rfl) rfl rfl rfl ?_
      refine s_getf (pc1 := 44) (c := 11) (t1 := 2) (tk (n := 23) t146_0 rfl) rfl rfl (by decide) rfl rfl ?_
      refine s_call1 (as := [(2, r20.2.2 x0 11)]) (st1 := []) (p1 := 47) (M2 := 28) (tk (n := 24) t146_0 rfl) rfl rfl rfl rfl rfl (fun r23 => ?_)
      exact s_ret (tk (n := 25) t146_0 rfl) rfl rfl rfl
    · refine s_lconst (pc1 := 19) (v := 0) (tk (n := 9) t146_0 rfl) rfl rfl rfl ?_
      exact s_ret (tk (n := 10) t146_0 rfl) rfl rfl rfl
set_option maxRecDepth 100000 in
set_option maxHeartbeats 4000000 in
theorem e_X11_off (x0 : Int) (x1 : Int) (x2 : Int) (x3 : Int) (x4 : Int) (h : Hq) : vm 147 [(2, x0), (0, x1), (0, x2), (0, x3), (0, x4)] h = if 0 < x0 ∧ (kd x0).1 = 11 then (vm 125 [(2, x0), (0, x1), (0, x2)] h).bind (fun r4 => if (vx r4) = 0 then (some (some (0, (-1)), r4.2)) else ((vm 144 [(0, x3), (0, x4)] r4.2).bind (fun r8 => if (vx r8) ≠ 0 then (if 0 < x0 ∧ (kd x0).1 = 11 then if 0 < x0 ∧ (kd x0).1 = 11 then if 0 < (r8.2.2 x0 3) ∧ (kd (r8.2.2 x0 3)).1 = 5 then if (kd (r8.2.2 (r8.2.2 x0 3) 3)).1 = 25 ∧ 0 ≤ x1 ∧ x1 < (kd (r8.2.2 (r8.2.2 x0 3) 3)).2 then if 0 < (r8.2.2 x0 11) ∧ (kd (r8.2.2 x0 11)).1 = 4 then (vm 27 [(2, r8.2.2 x0 11), (2, r8.2.2 (r8.2.2 (r8.2.2 x0 3) 3) x1), (0, x2), (0, x3), (0, x4)] r8.2).bind (fun r20 => if 0 < x0 ∧ (kd x0).1 = 11 then if 0 < x0 ∧ (kd x0).1 = 11 then if 0 < (r20.2.2 x0 11) ∧ (kd (r20.2.2 x0 11)).1 = 4 then (vm 28 [(2, r20.2.2 x0 11)] r20.2).bind (fun r25 => if 0 < (r20.2.2 x0 11) ∧ (kd (r20.2.2 x0 11)).1 = 4 then (vm 32 [(2, r20.2.2 x0 11), (1, vx r25)] r25.2).bind (fun r26 => some (some (0, vx r26), r26.2)) else none) else none else none else none) else none else none else none else none else none) else (some (some (0, (-1)), r8.2))))) else none := by
  show vp 147 0 [(2, x0), (0, x1), (0, x2), (0, x3), (0, x4)] [] h = _
  refine s_aload_n (pc1 := 1) (tk (n := 0) t147_0 rfl) rfl rfl rfl ?_
  refine s_iload_n (pc1 := 2) (tk (n := 1) t147_0 rfl) rfl rfl rfl ?_
  refine s_iload_n (pc1 := 3) (tk (n := 2) t147_0 rfl) rfl rfl rfl ?_
  refine s_call0 (as := [(2, x0), (0, x1), (0, x2)]) (st1 := []) (p1 := 6) (M2 := 125) (tk (n := 3) t147_0 rfl) rfl rfl rfl rfl rfl (fun r4 => ?_)
  refine s_if_eq (pc1 := 9) (pt := 18) (tk (n := 4) t147_0 rfl) rfl rfl rfl ?_ ?_
  · refine s_iconst (pc1 := 19) (tk (n := 9) t147_0 rfl) rfl rfl  ?_
    exact s_ret (tk (n := 10) t147_0 rfl) rfl rfl rfl
  · refine s_iload_n (pc1 := 10) (tk (n := 5) t147_0 rfl) rfl rfl rfl ?_
    refine s_iload (pc1 := 12) (tk (n := 6) t147_0 rfl) rfl rfl rfl ?_
    refine s_callS0 (as := [(0, x3), (0, x4)]) (st1 := []) (p1 := 15) (M2 := 144) (tk (n := 7) t147_0 rfl) rfl rfl rfl rfl rfl (fun r8 => ?_)
    refine s_if_ne (pc1 := 18) (pt := 20) (tk (n := 8) t147_0 rfl) rfl rfl rfl ?_ ?_
    · refine s_aload_n (pc1 := 21) (tk (n := 11) t147_0 rfl) rfl rfl rfl ?_
      refine s_getf (pc1 := 24) (c := 11) (t1 := 2) (tk (n := 12) t147_0 rfl) rfl rfl (by decide) rfl rfl ?_
      refine s_aload_n (pc1 := 25) (tk (n := 13) t147_0 rfl) rfl rfl rfl ?_
      refine s_getf (pc1 := 28) (c := 11) (t1 := 2) (tk (n := 14) t147_0 rfl) rfl rfl (by decide) rfl rfl ?_
      refine s_getf (pc1 := 31) (c := 5) (t1 := 2) (tk (n := 15) t147_0 rfl) rfl rfl (by decide) rfl rfl ?_
      refine s_iload_n (pc1 := 32) (tk (n := 16) t147_0 rfl) rfl rfl rfl ?_
      refine s_aald (pc1 := 33) (c := 25) (tk (n := 17) t147_0 rfl) rfl rfl rfl ?_
      refine s_iload_n (pc1 := 34) (tk (n := 18) t147_0 rfl) rfl rfl rfl ?_
      refine s_iload_n (pc1 := 35) (tk (n := 19) t147_0 rfl) rfl rfl rfl ?_
      refine s_iload (pc1 := 37) (tk (n := 20) t147_0 rfl) rfl rfl rfl ?_
      refine s_call9 (as := [(2, r8.2.2 x0 11), (2, r8.2.2 (r8.2.2 (r8.2.2 x0 3) 3) x1), (0, x2), (0, x3), (0, x4)]) (st1 := []) (p1 := 40) (M2 := 27) (tk (n := 21) t147_0 rfl) rfl rfl rfl rfl rfl (fun r20 => ?_)
      refine s_aload_n (pc1 := 41) (tk (n := 22) t147_0 rfl) rfl rfl rfl ?_
      refine s_getf (pc1 := 44) (c := 11) (t1 := 2) (tk (n := 23) t147_0 rfl) rfl rfl (by decide) rfl rfl ?_
      refine s_aload_n (pc1 := 45) (tk (n := 24) t147_0 rfl) rfl rfl rfl ?_
      refine s_getf (pc1 := 48) (c := 11) (t1 := 2) (tk (n := 25) t147_0 rfl) rfl rfl (by decide) rfl rfl ?_
      refine s_call1 (as := [(2, r20.2.2 x0 11)]) (st1 := [(2, r20.2.2 x0 11)]) (p1 := 51) (M2 := 28) (tk (n := 26) t147_0 rfl) rfl rfl rfl rfl rfl (fun r25 => ?_)
      refine s_call0 (as := [(2, r20.2.2 x0 11), (1, vx r25)]) (st1 := []) (p1 := 54) (M2 := 32) (tk (n := 27) t147_0 rfl) rfl rfl rfl rfl rfl (fun r26 => ?_)
      exact s_ret (tk (n := 28) t147_0 rfl) rfl rfl rfl
    · refine s_iconst (pc1 := 19) (tk (n := 9) t147_0 rfl) rfl rfl  ?_
      exact s_ret (tk (n := 10) t147_0 rfl) rfl rfl rfl
set_option maxRecDepth 100000 in
set_option maxHeartbeats 4000000 in
theorem e_X11_fetch (x0 : Int) (x1 : Int) (x2 : Int) (x3 : Int) (x4 : Int) (h : Hq) : vm 148 [(2, x0), (0, x1), (0, x2), (0, x3), (0, x4)] h = if 0 < x0 ∧ (kd x0).1 = 11 then (vm 126 [(2, x0), (0, x1), (0, x2), (0, x3), (0, x4)] h).bind (fun r6 => if (vx r6) ≠ 0 then (if 0 < x0 ∧ (kd x0).1 = 11 then if 0 < (r6.2.2 x0 3) ∧ (kd (r6.2.2 x0 3)).1 = 5 then if (kd (r6.2.2 (r6.2.2 x0 3) 3)).1 = 25 ∧ 0 ≤ x1 ∧ x1 < (kd (r6.2.2 (r6.2.2 x0 3) 3)).2 then if 0 < x0 ∧ (kd x0).1 = 11 then if 0 < (r6.2.2 (r6.2.2 (r6.2.2 x0 3) 3) x1) ∧ (kd (r6.2.2 (r6.2.2 (r6.2.2 x0 3) 3) x1)).1 = 10 then if 0 < (r6.2.2 (r6.2.2 (r6.2.2 x0 3) 3) x1) ∧ (kd (r6.2.2 (r6.2.2 (r6.2.2 x0 3) 3) x1)).1 = 10 then (vm 94 [(2, r6.2.2 (r6.2.2 (r6.2.2 x0 3) 3) x1), (0, x2), (0, x3), (0, x4)] r6.2).bind (fun r22 => if 0 < (r6.2.2 x0 7) ∧ (kd (r6.2.2 x0 7)).1 = 1 then (vm 10 [(2, r6.2.2 x0 7), (0, r6.2.2 (r6.2.2 (r6.2.2 (r6.2.2 x0 3) 3) x1) 4), (0, vx r22)] r22.2).bind (fun r23 => if 0 < x0 ∧ (kd x0).1 = 11 then if 0 < (r23.2.2 x0 7) ∧ (kd (r23.2.2 x0 7)).1 = 1 then (vm 12 [(2, r23.2.2 x0 7), (0, vx r23)] r23.2).bind (fun r28 => if 0 < x0 ∧ (kd x0).1 = 11 then if 0 < (r28.2.2 x0 9) ∧ (kd (r28.2.2 x0 9)).1 = 8 then (vm 61 [(2, r28.2.2 x0 9), (0, vx r23), (0, vx r28)] r28.2).bind (fun r34 => if (vx r28) = 0 then (some (some (0, 0), r34.2)) else (some (some (0, 1), r34.2))) else none else none) else none else none) else none) else none else none else none else none else none else none) else (some (some (0, (-1)), r6.2))) else none := by
  show vp 148 0 [(2, x0), (0, x1), (0, x2), (0, x3), (0, x4), (9, 0), (9, 0), (9, 0)] [] h = _
  refine s_aload_n (pc1 := 1) (tk (n := 0) t148_0 rfl) rfl rfl rfl ?_
  refine s_iload_n (pc1 := 2) (tk (n := 1) t148_0 rfl) rfl rfl rfl ?_
  refine s_iload_n (pc1 := 3) (tk (n := 2) t148_0 rfl) rfl rfl rfl ?_
  refine s_iload_n (pc1 := 4) (tk (n := 3) t148_0 rfl) rfl rfl rfl ?_
  refine s_iload (pc1 := 6) (tk (n := 4) t148_0 rfl) rfl rfl rfl ?_
  refine s_call0 (as := [(2, x0), (0, x1), (0, x2), (0, x3), (0, x4)]) (st1 := []) (p1 := 9) (M2 := 126) (tk (n := 5) t148_0 rfl) rfl rfl rfl rfl rfl (fun r6 => ?_)
  refine s_if_ne (pc1 := 12) (pt := 14) (tk (n := 6) t148_0 rfl) rfl rfl rfl ?_ ?_
  · refine s_aload_n (pc1 := 15) (tk (n := 9) t148_0 rfl) rfl rfl rfl ?_
    refine s_getf (pc1 := 18) (c := 11) (t1 := 2) (tk (n := 10) t148_0 rfl) rfl rfl (by decide) rfl rfl ?_
    refine s_getf (pc1 := 21) (c := 5) (t1 := 2) (tk (n := 11) t148_0 rfl) rfl rfl (by decide) rfl rfl ?_
    refine s_iload_n (pc1 := 22) (tk (n := 12) t148_0 rfl) rfl rfl rfl ?_
    refine s_aald (pc1 := 23) (c := 25) (tk (n := 13) t148_0 rfl) rfl rfl rfl ?_
    refine s_astore (pc1 := 25) (ls1 := [(2, x0), (0, x1), (0, x2), (0, x3), (0, x4), (2, r6.2.2 (r6.2.2 (r6.2.2 x0 3) 3) x1), (9, 0), (9, 0)]) (tk (n := 14) t148_0 rfl) rfl rfl rfl rfl ?_
    refine s_aload_n (pc1 := 26) (tk (n := 15) t148_0 rfl) rfl rfl rfl ?_
    refine s_getf (pc1 := 29) (c := 11) (t1 := 2) (tk (n := 16) t148_0 rfl) rfl rfl (by decide) rfl rfl ?_
    refine s_aload (pc1 := 31) (tk (n := 17) t148_0 rfl) rfl rfl rfl ?_
    refine s_getf (pc1 := 34) (c := 10) (t1 := 0) (tk (n := 18) t148_0 rfl) rfl rfl (by decide) rfl rfl ?_
    refine s_aload (pc1 := 36) (tk (n := 19) t148_0 rfl) rfl rfl rfl ?_
    refine s_iload_n (pc1 := 37) (tk (n := 20) t148_0 rfl) rfl rfl rfl ?_
    refine s_iload_n (pc1 := 38) (tk (n := 21) t148_0 rfl) rfl rfl rfl ?_
    refine s_iload (pc1 := 40) (tk (n := 22) t148_0 rfl) rfl rfl rfl ?_
    refine s_call0 (as := [(2, r6.2.2 (r6.2.2 (r6.2.2 x0 3) 3) x1), (0, x2), (0, x3), (0, x4)]) (st1 := [(0, r6.2.2 (r6.2.2 (r6.2.2 (r6.2.2 x0 3) 3) x1) 4), (2, r6.2.2 x0 7)]) (p1 := 43) (M2 := 94) (tk (n := 23) t148_0 rfl) rfl rfl rfl rfl rfl (fun r22 => ?_)
    refine s_call0 (as := [(2, r6.2.2 x0 7), (0, r6.2.2 (r6.2.2 (r6.2.2 (r6.2.2 x0 3) 3) x1) 4), (0, vx r22)]) (st1 := []) (p1 := 46) (M2 := 10) (tk (n := 24) t148_0 rfl) rfl rfl rfl rfl rfl (fun r23 => ?_)
    refine s_istore (pc1 := 48) (ls1 := [(2, x0), (0, x1), (0, x2), (0, x3), (0, x4), (2, r6.2.2 (r6.2.2 (r6.2.2 x0 3) 3) x1), (0, vx r23), (9, 0)]) (tk (n := 25) t148_0 rfl) rfl rfl rfl rfl ?_
    refine s_aload_n (pc1 := 49) (tk (n := 26) t148_0 rfl) rfl rfl rfl ?_
    refine s_getf (pc1 := 52) (c := 11) (t1 := 2) (tk (n := 27) t148_0 rfl) rfl rfl (by decide) rfl rfl ?_
    refine s_iload (pc1 := 54) (tk (n := 28) t148_0 rfl) rfl rfl rfl ?_
    refine s_call0 (as := [(2, r23.2.2 x0 7), (0, vx r23)]) (st1 := []) (p1 := 57) (M2 := 12) (tk (n := 29) t148_0 rfl) rfl rfl rfl rfl rfl (fun r28 => ?_)
    refine s_istore (pc1 := 59) (ls1 := [(2, x0), (0, x1), (0, x2), (0, x3), (0, x4), (2, r6.2.2 (r6.2.2 (r6.2.2 x0 3) 3) x1), (0, vx r23), (0, vx r28)]) (tk (n := 0) t148_1 rfl) rfl rfl rfl rfl ?_
    refine s_aload_n (pc1 := 60) (tk (n := 1) t148_1 rfl) rfl rfl rfl ?_
    refine s_getf (pc1 := 63) (c := 11) (t1 := 2) (tk (n := 2) t148_1 rfl) rfl rfl (by decide) rfl rfl ?_
    refine s_iload (pc1 := 65) (tk (n := 3) t148_1 rfl) rfl rfl rfl ?_
    refine s_iload (pc1 := 67) (tk (n := 4) t148_1 rfl) rfl rfl rfl ?_
    refine s_call9 (as := [(2, r28.2.2 x0 9), (0, vx r23), (0, vx r28)]) (st1 := []) (p1 := 70) (M2 := 61) (tk (n := 5) t148_1 rfl) rfl rfl rfl rfl rfl (fun r34 => ?_)
    refine s_iload (pc1 := 72) (tk (n := 6) t148_1 rfl) rfl rfl rfl ?_
    refine s_if_eq (pc1 := 75) (pt := 79) (tk (n := 7) t148_1 rfl) rfl rfl rfl ?_ ?_
    · refine s_iconst (pc1 := 80) (tk (n := 10) t148_1 rfl) rfl rfl  ?_
      exact s_ret (tk (n := 11) t148_1 rfl) rfl rfl rfl
    · refine s_iconst (pc1 := 76) (tk (n := 8) t148_1 rfl) rfl rfl  ?_
      refine s_goto (pc1 := 80) (tk (n := 9) t148_1 rfl) rfl rfl ?_
      exact s_ret (tk (n := 11) t148_1 rfl) rfl rfl rfl
  · refine s_iconst (pc1 := 13) (tk (n := 7) t148_0 rfl) rfl rfl  ?_
    exact s_ret (tk (n := 8) t148_0 rfl) rfl rfl rfl
set_option maxRecDepth 100000 in
set_option maxHeartbeats 4000000 in
theorem e_X11_flush (x0 : Int) (h : Hq) : vm 149 [(2, x0)] h = if 0 < x0 ∧ (kd x0).1 = 11 then if 0 < (h.2 x0 7) ∧ (kd (h.2 x0 7)).1 = 1 then if 0 < x0 ∧ (kd x0).1 = 11 then if 0 < (h.2 x0 7) ∧ (kd (h.2 x0 7)).1 = 1 then (vm 9 [(2, h.2 x0 7)] h).bind (fun r7 => if 0 < x0 ∧ (kd x0).1 = 11 then if 0 < (r7.2.2 x0 9) ∧ (kd (r7.2.2 x0 9)).1 = 8 then (vm 60 [(2, r7.2.2 x0 9)] r7.2).bind (fun r10 => some (some (0, h.2 (h.2 x0 7) 6), r10.2)) else none else none) else none else none else none else none := by
  show vp 149 0 [(2, x0), (9, 0)] [] h = _
  refine s_aload_n (pc1 := 1) (tk (n := 0) t149_0 rfl) rfl rfl rfl ?_
  refine s_getf (pc1 := 4) (c := 11) (t1 := 2) (tk (n := 1) t149_0 rfl) rfl rfl (by decide) rfl rfl ?_
  refine s_getf (pc1 := 7) (c := 1) (t1 := 0) (tk (n := 2) t149_0 rfl) rfl rfl (by decide) rfl rfl ?_
  refine s_istore_n (pc1 := 8) (ls1 := [(2, x0), (0, h.2 (h.2 x0 7) 6)]) (tk (n := 3) t149_0 rfl) rfl rfl rfl rfl ?_
  refine s_aload_n (pc1 := 9) (tk (n := 4) t149_0 rfl) rfl rfl rfl ?_
  refine s_getf (pc1 := 12) (c := 11) (t1 := 2) (tk (n := 5) t149_0 rfl) rfl rfl (by decide) rfl rfl ?_
  refine s_call9 (as := [(2, h.2 x0 7)]) (st1 := []) (p1 := 15) (M2 := 9) (tk (n := 6) t149_0 rfl) rfl rfl rfl rfl rfl (fun r7 => ?_)
  refine s_aload_n (pc1 := 16) (tk (n := 7) t149_0 rfl) rfl rfl rfl ?_
  refine s_getf (pc1 := 19) (c := 11) (t1 := 2) (tk (n := 8) t149_0 rfl) rfl rfl (by decide) rfl rfl ?_
  refine s_call9 (as := [(2, r7.2.2 x0 9)]) (st1 := []) (p1 := 22) (M2 := 60) (tk (n := 9) t149_0 rfl) rfl rfl rfl rfl rfl (fun r10 => ?_)
  refine s_iload_n (pc1 := 23) (tk (n := 10) t149_0 rfl) rfl rfl rfl ?_
  exact s_ret (tk (n := 11) t149_0 rfl) rfl rfl rfl
set_option maxRecDepth 100000 in
set_option maxHeartbeats 4000000 in
theorem e_X11_walk (x0 : Int) (x1 : Int) (x2 : Int) (x3 : Int) (h : Hq) : vm 150 [(2, x0), (0, x1), (0, x2), (0, x3)] h = if 0 < x0 ∧ (kd x0).1 = 11 then (vm 124 [(2, x0), (0, x1)] h).bind (fun r3 => if (vx r3) = 0 then (some (some (0, (-1)), r3.2)) else (if 0 < x0 ∧ (kd x0).1 = 11 then if 0 < (r3.2.2 x0 3) ∧ (kd (r3.2.2 x0 3)).1 = 5 then if (kd (r3.2.2 (r3.2.2 x0 3) 3)).1 = 25 ∧ 0 ≤ x1 ∧ x1 < (kd (r3.2.2 (r3.2.2 x0 3) 3)).2 then if 0 < (r3.2.2 (r3.2.2 (r3.2.2 x0 3) 3) x1) ∧ (kd (r3.2.2 (r3.2.2 (r3.2.2 x0 3) 3) x1)).1 = 10 then if 0 < x0 ∧ (kd x0).1 = 11 then (vm 152 [(2, x0), (0, x1), (0, x2), (0, x3), (0, r3.2.2 (r3.2.2 (r3.2.2 (r3.2.2 x0 3) 3) x1) 10)] r3.2).bind (fun r15 => some (some (0, vx r15), r15.2)) else none else none else none else none else none)) else none := by
  show vp 150 0 [(2, x0), (0, x1), (0, x2), (0, x3)] [] h = _
  refine s_aload_n (pc1 := 1) (tk (n := 0) t150_0 rfl) rfl rfl rfl ?_
  refine s_iload_n (pc1 := 2) (tk (n := 1) t150_0 rfl) rfl rfl rfl ?_
  refine s_call0 (as := [(2, x0), (0, x1)]) (st1 := []) (p1 := 5) (M2 := 124) (tk (n := 2) t150_0 rfl) rfl rfl rfl rfl rfl (fun r3 => ?_)
  refine s_if_eq (pc1 := 8) (pt := 30) (tk (n := 3) t150_0 rfl) rfl rfl rfl ?_ ?_
  · refine s_iconst (pc1 := 31) (tk (n := 16) t150_0 rfl) rfl rfl  ?_
    exact s_ret (tk (n := 17) t150_0 rfl) rfl rfl rfl
  · refine s_aload_n (pc1 := 9) (tk (n := 4) t150_0 rfl) rfl rfl rfl ?_
    refine s_iload_n (pc1 := 10) (tk (n := 5) t150_0 rfl) rfl rfl rfl ?_
    refine s_iload_n (pc1 := 11) (tk (n := 6) t150_0 rfl) rfl rfl rfl ?_
    refine s_iload_n (pc1 := 12) (tk (n := 7) t150_0 rfl) rfl rfl rfl ?_
    refine s_aload_n (pc1 := 13) (tk (n := 8) t150_0 rfl) rfl rfl rfl ?_
    refine s_getf (pc1 := 16) (c := 11) (t1 := 2) (tk (n := 9) t150_0 rfl) rfl rfl (by decide) rfl rfl ?_
    refine s_getf (pc1 := 19) (c := 5) (t1 := 2) (tk (n := 10) t150_0 rfl) rfl rfl (by decide) rfl rfl ?_
    refine s_iload_n (pc1 := 20) (tk (n := 11) t150_0 rfl) rfl rfl rfl ?_
    refine s_aald (pc1 := 21) (c := 25) (tk (n := 12) t150_0 rfl) rfl rfl rfl ?_
    refine s_getf (pc1 := 24) (c := 10) (t1 := 0) (tk (n := 13) t150_0 rfl) rfl rfl (by decide) rfl rfl ?_
    refine s_call0 (as := [(2, x0), (0, x1), (0, x2), (0, x3), (0, r3.2.2 (r3.2.2 (r3.2.2 (r3.2.2 x0 3) 3) x1) 10)]) (st1 := []) (p1 := 27) (M2 := 152) (tk (n := 14) t150_0 rfl) rfl rfl rfl rfl rfl (fun r15 => ?_)
    refine s_goto (pc1 := 31) (tk (n := 15) t150_0 rfl) rfl rfl ?_
    exact s_ret (tk (n := 17) t150_0 rfl) rfl rfl rfl
set_option maxRecDepth 100000 in
set_option maxHeartbeats 4000000 in
theorem e_X11_bestWalk (x0 : Int) (x1 : Int) (x2 : Int) (h : Hq) : vm 151 [(2, x0), (0, x1), (0, x2)] h = if 0 < x0 ∧ (kd x0).1 = 11 then (vm 125 [(2, x0), (0, x1), (0, x2)] h).bind (fun r4 => if (vx r4) ≠ 0 then (if 0 < x0 ∧ (kd x0).1 = 11 then (vm 150 [(2, x0), (0, x1), (0, x2), (0, 0)] r4.2).bind (fun r12 => vp 151 25 [(2, x0), (0, x1), (0, x2), (0, 0), (0, vx r12), (0, 1), (9, 0)] [] r12.2) else none) else (some (some (0, (-1)), r4.2))) else none := by
  show vp 151 0 [(2, x0), (0, x1), (0, x2), (9, 0), (9, 0), (9, 0), (9, 0)] [] h = _
  refine s_aload_n (pc1 := 1) (tk (n := 0) t151_0 rfl) rfl rfl rfl ?_
  refine s_iload_n (pc1 := 2) (tk (n := 1) t151_0 rfl) rfl rfl rfl ?_
  refine s_iload_n (pc1 := 3) (tk (n := 2) t151_0 rfl) rfl rfl rfl ?_
  refine s_call0 (as := [(2, x0), (0, x1), (0, x2)]) (st1 := []) (p1 := 6) (M2 := 125) (tk (n := 3) t151_0 rfl) rfl rfl rfl rfl rfl (fun r4 => ?_)
  refine s_if_ne (pc1 := 9) (pt := 11) (tk (n := 4) t151_0 rfl) rfl rfl rfl ?_ ?_
  · refine s_iconst (pc1 := 12) (tk (n := 7) t151_0 rfl) rfl rfl  ?_
    refine s_istore_n (pc1 := 13) (ls1 := [(2, x0), (0, x1), (0, x2), (0, 0), (9, 0), (9, 0), (9, 0)]) (tk (n := 8) t151_0 rfl) rfl rfl rfl rfl ?_
    refine s_aload_n (pc1 := 14) (tk (n := 9) t151_0 rfl) rfl rfl rfl ?_
    refine s_iload_n (pc1 := 15) (tk (n := 10) t151_0 rfl) rfl rfl rfl ?_
    refine s_iload_n (pc1 := 16) (tk (n := 11) t151_0 rfl) rfl rfl rfl ?_
    refine s_iconst (pc1 := 17) (tk (n := 12) t151_0 rfl) rfl rfl  ?_
    refine s_call0 (as := [(2, x0), (0, x1), (0, x2), (0, 0)]) (st1 := []) (p1 := 20) (M2 := 150) (tk (n := 13) t151_0 rfl) rfl rfl rfl rfl rfl (fun r12 => ?_)
    refine s_istore (pc1 := 22) (ls1 := [(2, x0), (0, x1), (0, x2), (0, 0), (0, vx r12), (9, 0), (9, 0)]) (tk (n := 14) t151_0 rfl) rfl rfl rfl rfl ?_
    refine s_iconst (pc1 := 23) (tk (n := 15) t151_0 rfl) rfl rfl  ?_
    refine s_istore (pc1 := 25) (ls1 := [(2, x0), (0, x1), (0, x2), (0, 0), (0, vx r12), (0, 1), (9, 0)]) (tk (n := 16) t151_0 rfl) rfl rfl rfl rfl ?_
    rfl
  · refine s_iconst (pc1 := 10) (tk (n := 5) t151_0 rfl) rfl rfl  ?_
    exact s_ret (tk (n := 6) t151_0 rfl) rfl rfl rfl
set_option maxRecDepth 100000 in
set_option maxHeartbeats 4000000 in
theorem e_X11_bestWalk_25 (x0 : Int) (x1 : Int) (x2 : Int) (x3 : Int) (x4 : Int) (x5 : Int) (z6 : Vl) (h : Hq) : vp 151 25 [(2, x0), (0, x1), (0, x2), (0, x3), (0, x4), (0, x5), z6] [] h = if x5 > 3 then (some (some (0, x3), h)) else (if 0 < x0 ∧ (kd x0).1 = 11 then (vm 150 [(2, x0), (0, x1), (0, x2), (0, x5)] h).bind (fun r8 => if (vx r8) ≥ x4 then (vp 151 25 [(2, x0), (0, x1), (0, x2), (0, x3), (0, x4), (0, w32 (x5 + 1)), (0, vx r8)] [] r8.2) else (vp 151 25 [(2, x0), (0, x1), (0, x2), (0, x5), (0, vx r8), (0, w32 (x5 + 1)), (0, vx r8)] [] r8.2)) else none) := by
  refine s_fg (ls1 := [(2, x0), (0, x1), (0, x2), (0, x3), (0, x4), (0, x5), (9, 0)]) (tk (n := 17) t151_0 rfl) rfl ?_
  refine s_iload (pc1 := 27) (tk (n := 17) t151_0 rfl) rfl rfl rfl ?_
  refine s_iconst (pc1 := 28) (tk (n := 18) t151_0 rfl) rfl rfl  ?_
  refine s_ic_gt (pc1 := 31) (pt := 61) (tk (n := 19) t151_0 rfl) rfl rfl rfl ?_ ?_
  · refine s_iload_n (pc1 := 62) (tk (n := 5) t151_1 rfl) rfl rfl rfl ?_
    exact s_ret (tk (n := 6) t151_1 rfl) rfl rfl rfl
  · refine s_aload_n (pc1 := 32) (tk (n := 20) t151_0 rfl) rfl rfl rfl ?_
    refine s_iload_n (pc1 := 33) (tk (n := 21) t151_0 rfl) rfl rfl rfl ?_
    refine s_iload_n (pc1 := 34) (tk (n := 22) t151_0 rfl) rfl rfl rfl ?_
    refine s_iload (pc1 := 36) (tk (n := 23) t151_0 rfl) rfl rfl rfl ?_
    refine s_call0 (as := [(2, x0), (0, x1), (0, x2), (0, x5)]) (st1 := []) (p1 := 39) (M2 := 150) (tk (n := 24) t151_0 rfl) rfl rfl rfl rfl rfl (fun r8 => ?_)
    refine s_istore (pc1 := 41) (ls1 := [(2, x0), (0, x1), (0, x2), (0, x3), (0, x4), (0, x5), (0, vx r8)]) (tk (n := 25) t151_0 rfl) rfl rfl rfl rfl ?_
    refine s_iload (pc1 := 43) (tk (n := 26) t151_0 rfl) rfl rfl rfl ?_
    refine s_iload (pc1 := 45) (tk (n := 27) t151_0 rfl) rfl rfl rfl ?_
    refine s_ic_ge (pc1 := 48) (pt := 55) (tk (n := 28) t151_0 rfl) rfl rfl rfl ?_ ?_
    · refine s_iinc (pc1 := 58) (ls1 := [(2, x0), (0, x1), (0, x2), (0, x3), (0, x4), (0, w32 (x5 + 1)), (0, vx r8)]) (tk (n := 3) t151_1 rfl) rfl rfl rfl rfl ?_
      refine s_goto (pc1 := 25) (tk (n := 4) t151_1 rfl) rfl rfl ?_
      rfl
    · refine s_iload (pc1 := 50) (tk (n := 29) t151_0 rfl) rfl rfl rfl ?_
      refine s_istore (pc1 := 52) (ls1 := [(2, x0), (0, x1), (0, x2), (0, x3), (0, vx r8), (0, x5), (0, vx r8)]) (tk (n := 0) t151_1 rfl) rfl rfl rfl rfl ?_
      refine s_iload (pc1 := 54) (tk (n := 1) t151_1 rfl) rfl rfl rfl ?_
      refine s_istore_n (pc1 := 55) (ls1 := [(2, x0), (0, x1), (0, x2), (0, x5), (0, vx r8), (0, x5), (0, vx r8)]) (tk (n := 2) t151_1 rfl) rfl rfl rfl rfl ?_
      refine s_iinc (pc1 := 58) (ls1 := [(2, x0), (0, x1), (0, x2), (0, x5), (0, vx r8), (0, w32 (x5 + 1)), (0, vx r8)]) (tk (n := 3) t151_1 rfl) rfl rfl rfl rfl ?_
      refine s_goto (pc1 := 25) (tk (n := 4) t151_1 rfl) rfl rfl ?_
      rfl
set_option maxRecDepth 100000 in
set_option maxHeartbeats 4000000 in
theorem e_X11_walkAs (x0 : Int) (x1 : Int) (x2 : Int) (x3 : Int) (x4 : Int) (h : Hq) : vm 152 [(2, x0), (0, x1), (0, x2), (0, x3), (0, x4)] h = if 0 < x0 ∧ (kd x0).1 = 11 then (vm 125 [(2, x0), (0, x1), (0, x2)] h).bind (fun r4 => if (vx r4) = 0 then (some (some (0, (-1)), r4.2)) else (if x3 < 0 then (some (some (0, (-1)), r4.2)) else (if x3 > 3 then (some (some (0, (-1)), r4.2)) else (if x4 < 0 then (some (some (0, (-1)), r4.2)) else (if x4 ≤ 2 then (if 0 < x0 ∧ (kd x0).1 = 11 then if 0 < (r4.2.2 x0 8) ∧ (kd (r4.2.2 x0 8)).1 = 1 then (vm 9 [(2, r4.2.2 x0 8)] r4.2).bind (fun r18 => if 0 < x0 ∧ (kd x0).1 = 11 then if 0 < x0 ∧ (kd x0).1 = 11 then if 0 < (r18.2.2 x0 3) ∧ (kd (r18.2.2 x0 3)).1 = 5 then if (kd (r18.2.2 (r18.2.2 x0 3) 3)).1 = 25 ∧ 0 ≤ x1 ∧ x1 < (kd (r18.2.2 (r18.2.2 x0 3) 3)).2 then if 0 < (r18.2.2 x0 8) ∧ (kd (r18.2.2 x0 8)).1 = 1 then (vm 13 [(2, r18.2.2 x0 8), (2, r18.2.2 (r18.2.2 (r18.2.2 x0 3) 3) x1), (0, x2), (0, x3), (0, x4)] r18.2).bind (fun r29 => some (some (0, vx r29), r29.2)) else none else none else none else none else none) else none else none) else (some (some (0, (-1)), r4.2))))))) else none := by
  show vp 152 0 [(2, x0), (0, x1), (0, x2), (0, x3), (0, x4)] [] h = _
  refine s_aload_n (pc1 := 1) (tk (n := 0) t152_0 rfl) rfl rfl rfl ?_
  refine s_iload_n (pc1 := 2) (tk (n := 1) t152_0 rfl) rfl rfl rfl ?_
  refine s_iload_n (pc1 := 3) (tk (n := 2) t152_0 rfl) rfl rfl rfl ?_
  refine s_call0 (as := [(2, x0), (0, x1), (0, x2)]) (st1 := []) (p1 := 6) (M2 := 125) (tk (n := 3) t152_0 rfl) rfl rfl rfl rfl rfl (fun r4 => ?_)
  refine s_if_eq (pc1 := 9) (pt := 29) (tk (n := 4) t152_0 rfl) rfl rfl rfl ?_ ?_
  · refine s_iconst (pc1 := 30) (tk (n := 15) t152_0 rfl) rfl rfl  ?_
    exact s_ret (tk (n := 16) t152_0 rfl) rfl rfl rfl
  · refine s_iload_n (pc1 := 10) (tk (n := 5) t152_0 rfl) rfl rfl rfl ?_
    refine s_if_lt (pc1 := 13) (pt := 29) (tk (n := 6) t152_0 rfl) rfl rfl rfl ?_ ?_
    · refine s_iconst (pc1 := 30) (tk (n := 15) t152_0 rfl) rfl rfl  ?_
      exact s_ret (tk (n := 16) t152_0 rfl) rfl rfl rfl
    · refine s_iload_n (pc1 := 14) (tk (n := 7) t152_0 rfl) rfl rfl rfl ?_
      refine s_iconst (pc1 := 15) (tk (n := 8) t152_0 rfl) rfl rfl  ?_
      refine s_ic_gt (pc1 := 18) (pt := 29) (tk (n := 9) t152_0 rfl) rfl rfl rfl ?_ ?_
      · refine s_iconst (pc1 := 30) (tk (n := 15) t152_0 rfl) rfl rfl  ?_
        exact s_ret (tk (n := 16) t152_0 rfl) rfl rfl rfl
      · refine s_iload (pc1 := 20) (tk (n := 10) t152_0 rfl) rfl rfl rfl ?_
        refine s_if_lt (pc1 := 23) (pt := 29) (tk (n := 11) t152_0 rfl) rfl rfl rfl ?_ ?_
        · refine s_iconst (pc1 := 30) (tk (n := 15) t152_0 rfl) rfl rfl  ?_
          exact s_ret (tk (n := 16) t152_0 rfl) rfl rfl rfl
        · refine s_iload (pc1 := 25) (tk (n := 12) t152_0 rfl) rfl rfl rfl ?_
          refine s_iconst (pc1 := 26) (tk (n := 13) t152_0 rfl) rfl rfl  ?_
          refine s_ic_le (pc1 := 29) (pt := 31) (tk (n := 14) t152_0 rfl) rfl rfl rfl ?_ ?_
          · refine s_aload_n (pc1 := 32) (tk (n := 17) t152_0 rfl) rfl rfl rfl ?_
            refine s_getf (pc1 := 35) (c := 11) (t1 := 2) (tk (n := 18) t152_0 rfl) rfl rfl (by decide) rfl rfl ?_
            refine s_call9 (as := [(2, r4.2.2 x0 8)]) (st1 := []) (p1 := 38) (M2 := 9) (tk (n := 19) t152_0 rfl) rfl rfl rfl rfl rfl (fun r18 => ?_)
            refine s_aload_n (pc1 := 39) (tk (n := 20) t152_0 rfl) rfl rfl rfl ?_
            refine s_getf (pc1 := 42) (c := 11) (t1 := 2) (tk (n := 21) t152_0 rfl) rfl rfl (by decide) rfl rfl ?_
            refine s_aload_n (pc1 := 43) (tk (n := 22) t152_0 rfl) rfl rfl rfl ?_
            refine s_getf (pc1 := 46) (c := 11) (t1 := 2) (tk (n := 23) t152_0 rfl) rfl rfl (by decide) rfl rfl ?_
            refine s_getf (pc1 := 49) (c := 5) (t1 := 2) (tk (n := 24) t152_0 rfl) rfl rfl (by decide) rfl rfl ?_
            refine s_iload_n (pc1 := 50) (tk (n := 25) t152_0 rfl) rfl rfl rfl ?_
            refine s_aald (pc1 := 51) (c := 25) (tk (n := 26) t152_0 rfl) rfl rfl rfl ?_
            refine s_iload_n (pc1 := 52) (tk (n := 27) t152_0 rfl) rfl rfl rfl ?_
            refine s_iload_n (pc1 := 53) (tk (n := 28) t152_0 rfl) rfl rfl rfl ?_
            refine s_iload (pc1 := 55) (tk (n := 29) t152_0 rfl) rfl rfl rfl ?_
            refine s_call0 (as := [(2, r18.2.2 x0 8), (2, r18.2.2 (r18.2.2 (r18.2.2 x0 3) 3) x1), (0, x2), (0, x3), (0, x4)]) (st1 := []) (p1 := 58) (M2 := 13) (tk (n := 0) t152_1 rfl) rfl rfl rfl rfl rfl (fun r29 => ?_)
            exact s_ret (tk (n := 1) t152_1 rfl) rfl rfl rfl
          · refine s_iconst (pc1 := 30) (tk (n := 15) t152_0 rfl) rfl rfl  ?_
            exact s_ret (tk (n := 16) t152_0 rfl) rfl rfl rfl
set_option maxRecDepth 100000 in
set_option maxHeartbeats 4000000 in
theorem e_X11_bestOrder (x0 : Int) (x1 : Int) (x2 : Int) (x3 : Int) (h : Hq) : vm 153 [(2, x0), (0, x1), (0, x2), (0, x3)] h = if 0 < x0 ∧ (kd x0).1 = 11 then (vm 125 [(2, x0), (0, x1), (0, x2)] h).bind (fun r4 => if (vx r4) = 0 then (some (some (0, (-1)), r4.2)) else (if x3 < 0 then (some (some (0, (-1)), r4.2)) else (if x3 ≤ 3 then (if 0 < x0 ∧ (kd x0).1 = 11 then (vm 152 [(2, x0), (0, x1), (0, x2), (0, x3), (0, 0)] r4.2).bind (fun r18 => vp 153 36 [(2, x0), (0, x1), (0, x2), (0, x3), (0, 0), (0, vx r18), (0, 1), (9, 0)] [] r18.2) else none) else (some (some (0, (-1)), r4.2))))) else none := by
  show vp 153 0 [(2, x0), (0, x1), (0, x2), (0, x3), (9, 0), (9, 0), (9, 0), (9, 0)] [] h = _
  refine s_aload_n (pc1 := 1) (tk (n := 0) t153_0 rfl) rfl rfl rfl ?_
  refine s_iload_n (pc1 := 2) (tk (n := 1) t153_0 rfl) rfl rfl rfl ?_
  refine s_iload_n (pc1 := 3) (tk (n := 2) t153_0 rfl) rfl rfl rfl ?_
  refine s_call0 (as := [(2, x0), (0, x1), (0, x2)]) (st1 := []) (p1 := 6) (M2 := 125) (tk (n := 3) t153_0 rfl) rfl rfl rfl rfl rfl (fun r4 => ?_)
  refine s_if_eq (pc1 := 9) (pt := 18) (tk (n := 4) t153_0 rfl) rfl rfl rfl ?_ ?_
  · refine s_iconst (pc1 := 19) (tk (n := 10) t153_0 rfl) rfl rfl  ?_
    exact s_ret (tk (n := 11) t153_0 rfl) rfl rfl rfl
  · refine s_iload_n (pc1 := 10) (tk (n := 5) t153_0 rfl) rfl rfl rfl ?_
    refine s_if_lt (pc1 := 13) (pt := 18) (tk (n := 6) t153_0 rfl) rfl rfl rfl ?_ ?_
    · refine s_iconst (pc1 := 19) (tk (n := 10) t153_0 rfl) rfl rfl  ?_
      exact s_ret (tk (n := 11) t153_0 rfl) rfl rfl rfl
    · refine s_iload_n (pc1 := 14) (tk (n := 7) t153_0 rfl) rfl rfl rfl ?_
      refine s_iconst (pc1 := 15) (tk (n := 8) t153_0 rfl) rfl rfl  ?_
      refine s_ic_le (pc1 := 18) (pt := 20) (tk (n := 9) t153_0 rfl) rfl rfl rfl ?_ ?_
      · refine s_iconst (pc1 := 21) (tk (n := 12) t153_0 rfl) rfl rfl  ?_
        refine s_istore (pc1 := 23) (ls1 := [(2, x0), (0, x1), (0, x2), (0, x3), (0, 0), (9, 0), (9, 0), (9, 0)]) (tk (n := 13) t153_0 rfl) rfl rfl rfl rfl ?_
        refine s_aload_n (pc1 := 24) (tk (n := 14) t153_0 rfl) rfl rfl rfl ?_
        refine s_iload_n (pc1 := 25) (tk (n := 15) t153_0 rfl) rfl rfl rfl ?_
        refine s_iload_n (pc1 := 26) (tk (n := 16) t153_0 rfl) rfl rfl rfl ?_
        refine s_iload_n (pc1 := 27) (tk (n := 17) t153_0 rfl) rfl rfl rfl ?_
        refine s_iconst (pc1 := 28) (tk (n := 18) t153_0 rfl) rfl rfl  ?_
        refine s_call0 (as := [(2, x0), (0, x1), (0, x2), (0, x3), (0, 0)]) (st1 := []) (p1 := 31) (M2 := 152) (tk (n := 19) t153_0 rfl) rfl rfl rfl rfl rfl (fun r18 => ?_)
        refine s_istore (pc1 := 33) (ls1 := [(2, x0), (0, x1), (0, x2), (0, x3), (0, 0), (0, vx r18), (9, 0), (9, 0)]) (tk (n := 20) t153_0 rfl) rfl rfl rfl rfl ?_
        refine s_iconst (pc1 := 34) (tk (n := 21) t153_0 rfl) rfl rfl  ?_
        refine s_istore (pc1 := 36) (ls1 := [(2, x0), (0, x1), (0, x2), (0, x3), (0, 0), (0, vx r18), (0, 1), (9, 0)]) (tk (n := 22) t153_0 rfl) rfl rfl rfl rfl ?_
        rfl
      · refine s_iconst (pc1 := 19) (tk (n := 10) t153_0 rfl) rfl rfl  ?_
        exact s_ret (tk (n := 11) t153_0 rfl) rfl rfl rfl
set_option maxRecDepth 100000 in
set_option maxHeartbeats 4000000 in
theorem e_X11_bestOrder_36 (x0 : Int) (x1 : Int) (x2 : Int) (x3 : Int) (x4 : Int) (x5 : Int) (x6 : Int) (z7 : Vl) (h : Hq) : vp 153 36 [(2, x0), (0, x1), (0, x2), (0, x3), (0, x4), (0, x5), (0, x6), z7] [] h = if x6 > 2 then (some (some (0, x4), h)) else (if 0 < x0 ∧ (kd x0).1 = 11 then (vm 152 [(2, x0), (0, x1), (0, x2), (0, x3), (0, x6)] h).bind (fun r9 => if (vx r9) ≥ x5 then (vp 153 36 [(2, x0), (0, x1), (0, x2), (0, x3), (0, x4), (0, x5), (0, w32 (x6 + 1)), (0, vx r9)] [] r9.2) else (vp 153 36 [(2, x0), (0, x1), (0, x2), (0, x3), (0, x6), (0, vx r9), (0, w32 (x6 + 1)), (0, vx r9)] [] r9.2)) else none) := by
  refine s_fg (ls1 := [(2, x0), (0, x1), (0, x2), (0, x3), (0, x4), (0, x5), (0, x6), (9, 0)]) (tk (n := 23) t153_0 rfl) rfl ?_
  refine s_iload (pc1 := 38) (tk (n := 23) t153_0 rfl) rfl rfl rfl ?_
  refine s_iconst (pc1 := 39) (tk (n := 24) t153_0 rfl) rfl rfl  ?_
  refine s_ic_gt (pc1 := 42) (pt := 74) (tk (n := 25) t153_0 rfl) rfl rfl rfl ?_ ?_
  · refine s_iload (pc1 := 76) (tk (n := 12) t153_1 rfl) rfl rfl rfl ?_
    exact s_ret (tk (n := 13) t153_1 rfl) rfl rfl rfl
  · refine s_aload_n (pc1 := 43) (tk (n := 26) t153_0 rfl) rfl rfl rfl ?_
    refine s_iload_n (pc1 := 44) (tk (n := 27) t153_0 rfl) rfl rfl rfl ?_
    refine s_iload_n (pc1 := 45) (tk (n := 28) t153_0 rfl) rfl rfl rfl ?_
    refine s_iload_n (pc1 := 46) (tk (n := 29) t153_0 rfl) rfl rfl rfl ?_
    refine s_iload (pc1 := 48) (tk (n := 0) t153_1 rfl) rfl rfl rfl ?_
    refine s_call0 (as := [(2, x0), (0, x1), (0, x2), (0, x3), (0, x6)]) (st1 := []) (p1 := 51) (M2 := 152) (tk (n := 1) t153_1 rfl) rfl rfl rfl rfl rfl (fun r9 => ?_)
    refine s_istore (pc1 := 53) (ls1 := [(2, x0), (0, x1), (0, x2), (0, x3), (0, x4), (0, x5), (0, x6), (0, vx r9)]) (tk (n := 2) t153_1 rfl) rfl rfl rfl rfl ?_
    refine s_iload (pc1 := 55) (tk (n := 3) t153_1 rfl) rfl rfl rfl ?_
    refine s_iload (pc1 := 57) (tk (n := 4) t153_1 rfl) rfl rfl rfl ?_
    refine s_ic_ge (pc1 := 60) (pt := 68) (tk (n := 5) t153_1 rfl) rfl rfl rfl ?_ ?_
    · refine s_iinc (pc1 := 71) (ls1 := [(2, x0), (0, x1), (0, x2), (0, x3), (0, x4), (0, x5), (0, w32 (x6 + 1)), (0, vx r9)]) (tk (n := 10) t153_1 rfl) rfl rfl rfl rfl ?_
      refine s_goto (pc1 := 36) (tk (n := 11) t153_1 rfl) rfl rfl ?_
      rfl
    · refine s_iload (pc1 := 62) (tk (n := 6) t153_1 rfl) rfl rfl rfl ?_
      refine s_istore (pc1 := 64) (ls1 := [(2, x0), (0, x1), (0, x2), (0, x3), (0, x4), (0, vx r9), (0, x6), (0, vx r9)]) (tk (n := 7) t153_1 rfl) rfl rfl rfl rfl ?_
      refine s_iload (pc1 := 66) (tk (n := 8) t153_1 rfl) rfl rfl rfl ?_
      refine s_istore (pc1 := 68) (ls1 := [(2, x0), (0, x1), (0, x2), (0, x3), (0, x6), (0, vx r9), (0, x6), (0, vx r9)]) (tk (n := 9) t153_1 rfl) rfl rfl rfl rfl ?_
      refine s_iinc (pc1 := 71) (ls1 := [(2, x0), (0, x1), (0, x2), (0, x3), (0, x6), (0, vx r9), (0, w32 (x6 + 1)), (0, vx r9)]) (tk (n := 10) t153_1 rfl) rfl rfl rfl rfl ?_
      refine s_goto (pc1 := 36) (tk (n := 11) t153_1 rfl) rfl rfl ?_
      rfl
set_option maxRecDepth 100000 in
set_option maxHeartbeats 4000000 in
theorem e_X11_moved (x0 : Int) (x1 : Int) (x2 : Int) (x3 : Int) (x4 : Int) (h : Hq) : vm 154 [(2, x0), (0, x1), (0, x2), (0, x3), (0, x4)] h = if 0 < x0 ∧ (kd x0).1 = 11 then (vm 125 [(2, x0), (0, x1), (0, x2)] h).bind (fun r4 => if (vx r4) = 0 then (some (some (0, (-1)), r4.2)) else (if x4 < 0 then (some (some (0, (-1)), r4.2)) else (if x4 ≤ 2 then (if 0 < x0 ∧ (kd x0).1 = 11 then if 0 < (r4.2.2 x0 3) ∧ (kd (r4.2.2 x0 3)).1 = 5 then if (kd (r4.2.2 (r4.2.2 x0 3) 3)).1 = 25 ∧ 0 ≤ x1 ∧ x1 < (kd (r4.2.2 (r4.2.2 x0 3) 3)).2 then if 0 < (r4.2.2 (r4.2.2 (r4.2.2 x0 3) 3) x1) ∧ (kd (r4.2.2 (r4.2.2 (r4.2.2 x0 3) 3) x1)).1 = 10 then (vm 88 [(2, r4.2.2 (r4.2.2 (r4.2.2 x0 3) 3) x1), (0, x2), (0, x3)] r4.2).bind (fun r20 => if (vx r20) ≠ 0 then (if 0 < (r4.2.2 (r4.2.2 (r4.2.2 x0 3) 3) x1) ∧ (kd (r4.2.2 (r4.2.2 (r4.2.2 x0 3) 3) x1)).1 = 10 then (vm 92 [(2, r4.2.2 (r4.2.2 (r4.2.2 x0 3) 3) x1), (0, x2), (0, x3)] r20.2).bind (fun r25 => if 0 < (r4.2.2 (r4.2.2 (r4.2.2 x0 3) 3) x1) ∧ (kd (r4.2.2 (r4.2.2 (r4.2.2 x0 3) 3) x1)).1 = 10 then if (kd (r25.2.2 (r4.2.2 (r4.2.2 (r4.2.2 x0 3) 3) x1) 1)).1 = 20 ∧ 0 ≤ x2 ∧ x2 < (kd (r25.2.2 (r4.2.2 (r4.2.2 (r4.2.2 x0 3) 3) x1) 1)).2 then if (r25.2.2 (r25.2.2 (r4.2.2 (r4.2.2 (r4.2.2 x0 3) 3) x1) 1) x2) ≠ 0 then if (r25.2.2 (r25.2.2 (r4.2.2 (r4.2.2 (r4.2.2 x0 3) 3) x1) 1) x2) ≠ 0 then if 0 < (r4.2.2 (r4.2.2 (r4.2.2 x0 3) 3) x1) ∧ (kd (r4.2.2 (r4.2.2 (r4.2.2 x0 3) 3) x1)).1 = 10 then (vm 89 [(2, r4.2.2 (r4.2.2 (r4.2.2 x0 3) 3) x1), (0, x2), (0, (vx r25).tmod (r25.2.2 (r25.2.2 (r4.2.2 (r4.2.2 (r4.2.2 x0 3) 3) x1) 1) x2)), (0, w32 ((vx r25).tdiv (r25.2.2 (r25.2.2 (r4.2.2 (r4.2.2 (r4.2.2 x0 3) 3) x1) 1) x2))), (0, x4)] r25.2).bind (fun r41 => some (some (0, vx r41), r41.2)) else none else none else none else none else none) else none) else (some (some (0, (-1)), r20.2))) else none else none else none else none) else (some (some (0, (-1)), r4.2))))) else none := by
  show vp 154 0 [(2, x0), (0, x1), (0, x2), (0, x3), (0, x4), (9, 0), (9, 0), (9, 0)] [] h = _
  refine s_aload_n (pc1 := 1) (tk (n := 0) t154_0 rfl) rfl rfl rfl ?_
  refine s_iload_n (pc1 := 2) (tk (n := 1) t154_0 rfl) rfl rfl rfl ?_
  refine s_iload_n (pc1 := 3) (tk (n := 2) t154_0 rfl) rfl rfl rfl ?_
  refine s_call0 (as := [(2, x0), (0, x1), (0, x2)]) (st1 := []) (p1 := 6) (M2 := 125) (tk (n := 3) t154_0 rfl) rfl rfl rfl rfl rfl (fun r4 => ?_)
  refine s_if_eq (pc1 := 9) (pt := 20) (tk (n := 4) t154_0 rfl) rfl rfl rfl ?_ ?_
  · refine s_iconst (pc1 := 21) (tk (n := 10) t154_0 rfl) rfl rfl  ?_
    exact s_ret (tk (n := 11) t154_0 rfl) rfl rfl rfl
  · refine s_iload (pc1 := 11) (tk (n := 5) t154_0 rfl) rfl rfl rfl ?_
    refine s_if_lt (pc1 := 14) (pt := 20) (tk (n := 6) t154_0 rfl) rfl rfl rfl ?_ ?_
    · refine s_iconst (pc1 := 21) (tk (n := 10) t154_0 rfl) rfl rfl  ?_
      exact s_ret (tk (n := 11) t154_0 rfl) rfl rfl rfl
    · refine s_iload (pc1 := 16) (tk (n := 7) t154_0 rfl) rfl rfl rfl ?_
      refine s_iconst (pc1 := 17) (tk (n := 8) t154_0 rfl) rfl rfl  ?_
      refine s_ic_le (pc1 := 20) (pt := 22) (tk (n := 9) t154_0 rfl) rfl rfl rfl ?_ ?_
      · refine s_aload_n (pc1 := 23) (tk (n := 12) t154_0 rfl) rfl rfl rfl ?_
        refine s_getf (pc1 := 26) (c := 11) (t1 := 2) (tk (n := 13) t154_0 rfl) rfl rfl (by decide) rfl rfl ?_
        refine s_getf (pc1 := 29) (c := 5) (t1 := 2) (tk (n := 14) t154_0 rfl) rfl rfl (by decide) rfl rfl ?_
        refine s_iload_n (pc1 := 30) (tk (n := 15) t154_0 rfl) rfl rfl rfl ?_
        refine s_aald (pc1 := 31) (c := 25) (tk (n := 16) t154_0 rfl) rfl rfl rfl ?_
        refine s_astore (pc1 := 33) (ls1 := [(2, x0), (0, x1), (0, x2), (0, x3), (0, x4), (2, r4.2.2 (r4.2.2 (r4.2.2 x0 3) 3) x1), (9, 0), (9, 0)]) (tk (n := 17) t154_0 rfl) rfl rfl rfl rfl ?_
        refine s_aload (pc1 := 35) (tk (n := 18) t154_0 rfl) rfl rfl rfl ?_
        refine s_iload_n (pc1 := 36) (tk (n := 19) t154_0 rfl) rfl rfl rfl ?_
        refine s_iload_n (pc1 := 37) (tk (n := 20) t154_0 rfl) rfl rfl rfl ?_
        refine s_call0 (as := [(2, r4.2.2 (r4.2.2 (r4.2.2 x0 3) 3) x1), (0, x2), (0, x3)]) (st1 := []) (p1 := 40) (M2 := 88) (tk (n := 21) t154_0 rfl) rfl rfl rfl rfl rfl (fun r20 => ?_)
        refine s_if_ne (pc1 := 43) (pt := 45) (tk (n := 22) t154_0 rfl) rfl rfl rfl ?_ ?_
        · refine s_aload (pc1 := 47) (tk (n := 25) t154_0 rfl) rfl rfl rfl ?_
          refine s_iload_n (pc1 := 48) (tk (n := 26) t154_0 rfl) rfl rfl rfl ?_
          refine s_iload_n (pc1 := 49) (tk (n := 27) t154_0 rfl) rfl rfl rfl ?_
          refine s_call0 (as := [(2, r4.2.2 (r4.2.2 (r4.2.2 x0 3) 3) x1), (0, x2), (0, x3)]) (st1 := []) (p1 := 52) (M2 := 92) (tk (n := 28) t154_0 rfl) rfl rfl rfl rfl rfl (fun r25 => ?_)
          refine s_istore (pc1 := 54) (ls1 := [(2, x0), (0, x1), (0, x2), (0, x3), (0, x4), (2, r4.2.2 (r4.2.2 (r4.2.2 x0 3) 3) x1), (0, vx r25), (9, 0)]) (tk (n := 29) t154_0 rfl) rfl rfl rfl rfl ?_
          refine s_aload (pc1 := 56) (tk (n := 0) t154_1 rfl) rfl rfl rfl ?_
          refine s_getf (pc1 := 59) (c := 10) (t1 := 2) (tk (n := 1) t154_1 rfl) rfl rfl (by decide) rfl rfl ?_
          refine s_iload_n (pc1 := 60) (tk (n := 2) t154_1 rfl) rfl rfl rfl ?_
          refine s_iald (pc1 := 61) (tk (n := 3) t154_1 rfl) rfl rfl  ?_
          refine s_istore (pc1 := 63) (ls1 := [(2, x0), (0, x1), (0, x2), (0, x3), (0, x4), (2, r4.2.2 (r4.2.2 (r4.2.2 x0 3) 3) x1), (0, vx r25), (0, r25.2.2 (r25.2.2 (r4.2.2 (r4.2.2 (r4.2.2 x0 3) 3) x1) 1) x2)]) (tk (n := 4) t154_1 rfl) rfl rfl rfl rfl ?_
          refine s_aload (pc1 := 65) (tk (n := 5) t154_1 rfl) rfl rfl rfl ?_
          refine s_iload_n (pc1 := 66) (tk (n := 6) t154_1 rfl) rfl rfl rfl ?_
          refine s_iload (pc1 := 68) (tk (n := 7) t154_1 rfl) rfl rfl rfl ?_
          refine s_iload (pc1 := 70) (tk (n := 8) t154_1 rfl) rfl rfl rfl ?_
          refine s_irem (pc1 := 71) (tk (n := 9) t154_1 rfl) rfl rfl  ?_
          refine s_iload (pc1 := 73) (tk (n := 10) t154_1 rfl) rfl rfl rfl ?_
          refine s_iload (pc1 := 75) (tk (n := 11) t154_1 rfl) rfl rfl rfl ?_
          refine s_idiv (pc1 := 76) (tk (n := 12) t154_1 rfl) rfl rfl  ?_
          refine s_iload (pc1 := 78) (tk (n := 13) t154_1 rfl) rfl rfl rfl ?_
          refine s_call0 (as := [(2, r4.2.2 (r4.2.2 (r4.2.2 x0 3) 3) x1), (0, x2), (0, (vx r25).tmod (r25.2.2 (r25.2.2 (r4.2.2 (r4.2.2 (r4.2.2 x0 3) 3) x1) 1) x2)), (0, w32 ((vx r25).tdiv (r25.2.2 (r25.2.2 (r4.2.2 (r4.2.2 (r4.2.2 x0 3) 3) x1) 1) x2))), (0, x4)]) (st1 := []) (p1 := 81) (M2 := 89) (tk (n := 14) t154_1 rfl) rfl rfl rfl rfl rfl (fun r41 => ?_)
          exact s_ret (tk (n := 15) t154_1 rfl) rfl rfl rfl
        · refine s_iconst (pc1 := 44) (tk (n := 23) t154_0 rfl) rfl rfl  ?_
          exact s_ret (tk (n := 24) t154_0 rfl) rfl rfl rfl
      · refine s_iconst (pc1 := 21) (tk (n := 10) t154_0 rfl) rfl rfl  ?_
        exact s_ret (tk (n := 11) t154_0 rfl) rfl rfl rfl
set_option maxRecDepth 100000 in
set_option maxHeartbeats 4000000 in
theorem e_X11_area (x0 : Int) (x1 : Int) (x2 : Int) (x3 : Int) (x4 : Int) (x5 : Int) (x6 : Int) (h : Hq) : vm 155 [(2, x0), (0, x1), (0, x2), (0, x3), (0, x4), (0, x5), (0, x6)] h = (vm 117 [(0, x3), (0, 999)] h).bind (fun r3 => if (vx r3) = 0 then (vp 155 51 [(2, x0), (0, x1), (0, x2), (0, x3), (0, x4), (0, x5), (0, x6), (9, 0), (9, 0), (9, 0), (9, 0), (9, 0)] [] r3.2) else ((vm 117 [(0, x4), (0, 999)] r3.2).bind (fun r7 => if (vx r7) = 0 then (vp 155 51 [(2, x0), (0, x1), (0, x2), (0, x3), (0, x4), (0, x5), (0, x6), (9, 0), (9, 0), (9, 0), (9, 0), (9, 0)] [] r7.2) else (if x5 < 1 then (vp 155 51 [(2, x0), (0, x1), (0, x2), (0, x3), (0, x4), (0, x5), (0, x6), (9, 0), (9, 0), (9, 0), (9, 0), (9, 0)] [] r7.2) else (if x5 > 16 then (vp 155 51 [(2, x0), (0, x1), (0, x2), (0, x3), (0, x4), (0, x5), (0, x6), (9, 0), (9, 0), (9, 0), (9, 0), (9, 0)] [] r7.2) else (if x6 < 1 then (vp 155 51 [(2, x0), (0, x1), (0, x2), (0, x3), (0, x4), (0, x5), (0, x6), (9, 0), (9, 0), (9, 0), (9, 0), (9, 0)] [] r7.2) else (if x6 > 16 then (vp 155 51 [(2, x0), (0, x1), (0, x2), (0, x3), (0, x4), (0, x5), (0, x6), (9, 0), (9, 0), (9, 0), (9, 0), (9, 0)] [] r7.2) else (if 0 < x0 ∧ (kd x0).1 = 11 then (vm 125 [(2, x0), (0, x1), (0, x2)] r7.2).bind (fun r27 => if (vx r27) = 0 then (some (some (0, (-1000000001)), r27.2)) else (if 0 < x0 ∧ (kd x0).1 = 11 then if 0 < (r27.2.2 x0 3) ∧ (kd (r27.2.2 x0 3)).1 = 5 then if (kd (r27.2.2 (r27.2.2 x0 3) 3)).1 = 25 ∧ 0 ≤ x1 ∧ x1 < (kd (r27.2.2 (r27.2.2 x0 3) 3)).2 then vp 155 88 [(2, x0), (0, x1), (0, x2), (0, x3), (0, x4), (0, x5), (0, x6), (0, 1), (2, r27.2.2 (r27.2.2 (r27.2.2 x0 3) 3) x1), (0, 0), (0, 0), (9, 0)] [] r27.2 else none else none else none)) else none)))))))) := by
  show vp 155 0 [(2, x0), (0, x1), (0, x2), (0, x3), (0, x4), (0, x5), (0, x6), (9, 0), (9, 0), (9, 0), (9, 0), (9, 0)] [] h = _
  refine s_iload_n (pc1 := 1) (tk (n := 0) t155_0 rfl) rfl rfl rfl ?_
  refine s_sipush (pc1 := 4) (tk (n := 1) t155_0 rfl) rfl rfl  ?_
  refine s_callS0 (as := [(0, x3), (0, 999)]) (st1 := []) (p1 := 7) (M2 := 117) (tk (n := 2) t155_0 rfl) rfl rfl rfl rfl rfl (fun r3 => ?_)
  refine s_if_eq (pc1 := 10) (pt := 51) (tk (n := 3) t155_0 rfl) rfl rfl rfl ?_ ?_
  · rfl
  · refine s_iload (pc1 := 12) (tk (n := 4) t155_0 rfl) rfl rfl rfl ?_
    refine s_sipush (pc1 := 15) (tk (n := 5) t155_0 rfl) rfl rfl  ?_
    refine s_callS0 (as := [(0, x4), (0, 999)]) (st1 := []) (p1 := 18) (M2 := 117) (tk (n := 6) t155_0 rfl) rfl rfl rfl rfl rfl (fun r7 => ?_)
    refine s_if_eq (pc1 := 21) (pt := 51) (tk (n := 7) t155_0 rfl) rfl rfl rfl ?_ ?_
    · rfl
    · refine s_iload (pc1 := 23) (tk (n := 8) t155_0 rfl) rfl rfl rfl ?_
      refine s_iconst (pc1 := 24) (tk (n := 9) t155_0 rfl) rfl rfl  ?_
      refine s_ic_lt (pc1 := 27) (pt := 51) (tk (n := 10) t155_0 rfl) rfl rfl rfl ?_ ?_
      · rfl
      · refine s_iload (pc1 := 29) (tk (n := 11) t155_0 rfl) rfl rfl rfl ?_
        refine s_bipush (pc1 := 31) (tk (n := 12) t155_0 rfl) rfl rfl  ?_
        refine s_ic_gt (pc1 := 34) (pt := 51) (tk (n := 13) t155_0 rfl) rfl rfl rfl ?_ ?_
        · rfl
        · refine s_iload (pc1 := 36) (tk (n := 14) t155_0 rfl) rfl rfl rfl ?_
          refine s_iconst (pc1 := 37) (tk (n := 15) t155_0 rfl) rfl rfl  ?_
          refine s_ic_lt (pc1 := 40) (pt := 51) (tk (n := 16) t155_0 rfl) rfl rfl rfl ?_ ?_
          · rfl
          · refine s_iload (pc1 := 42) (tk (n := 17) t155_0 rfl) rfl rfl rfl ?_
            refine s_bipush (pc1 := 44) (tk (n := 18) t155_0 rfl) rfl rfl  ?_
            refine s_ic_gt (pc1 := 47) (pt := 51) (tk (n := 19) t155_0 rfl) rfl rfl rfl ?_ ?_
            · rfl
            · refine s_iconst (pc1 := 48) (tk (n := 20) t155_0 rfl) rfl rfl  ?_
              refine s_goto (pc1 := 52) (tk (n := 21) t155_0 rfl) rfl rfl ?_
              refine s_istore (pc1 := 54) (ls1 := [(2, x0), (0, x1), (0, x2), (0, x3), (0, x4), (0, x5), (0, x6), (0, 1), (9, 0), (9, 0), (9, 0), (9, 0)]) (tk (n := 23) t155_0 rfl) rfl rfl rfl rfl ?_
              refine s_aload_n (pc1 := 55) (tk (n := 24) t155_0 rfl) rfl rfl rfl ?_
              refine s_iload_n (pc1 := 56) (tk (n := 25) t155_0 rfl) rfl rfl rfl ?_
              refine s_iload_n (pc1 := 57) (tk (n := 26) t155_0 rfl) rfl rfl rfl ?_
              refine s_call0 (as := [(2, x0), (0, x1), (0, x2)]) (st1 := []) (p1 := 60) (M2 := 125) (tk (n := 27) t155_0 rfl) rfl rfl rfl rfl rfl (fun r27 => ?_)
              refine s_if_eq (pc1 := 63) (pt := 68) (tk (n := 28) t155_0 rfl) rfl rfl rfl ?_ ?_
              · refine s_ldc (pc1 := 70) (tk (n := 1) t155_1 rfl) rfl rfl  ?_
                exact s_ret (tk (n := 2) t155_1 rfl) rfl rfl rfl
              · refine s_iload (pc1 := 65) (tk (n := 29) t155_0 rfl) rfl rfl rfl ?_
                refine s_ifY_ne (pc1 := 68) (pt := 71) (tk (n := 0) t155_1 rfl) rfl rfl rfl (by decide) ?_
                refine s_aload_n (pc1 := 72) (tk (n := 3) t155_1 rfl) rfl rfl rfl ?_
                refine s_getf (pc1 := 75) (c := 11) (t1 := 2) (tk (n := 4) t155_1 rfl) rfl rfl (by decide) rfl rfl ?_
                refine s_getf (pc1 := 78) (c := 5) (t1 := 2) (tk (n := 5) t155_1 rfl) rfl rfl (by decide) rfl rfl ?_
                refine s_iload_n (pc1 := 79) (tk (n := 6) t155_1 rfl) rfl rfl rfl ?_
                refine s_aald (pc1 := 80) (c := 25) (tk (n := 7) t155_1 rfl) rfl rfl rfl ?_
                refine s_astore (pc1 := 82) (ls1 := [(2, x0), (0, x1), (0, x2), (0, x3), (0, x4), (0, x5), (0, x6), (0, 1), (2, r27.2.2 (r27.2.2 (r27.2.2 x0 3) 3) x1), (9, 0), (9, 0), (9, 0)]) (tk (n := 8) t155_1 rfl) rfl rfl rfl rfl ?_
                refine s_iconst (pc1 := 83) (tk (n := 9) t155_1 rfl) rfl rfl  ?_
                refine s_istore (pc1 := 85) (ls1 := [(2, x0), (0, x1), (0, x2), (0, x3), (0, x4), (0, x5), (0, x6), (0, 1), (2, r27.2.2 (r27.2.2 (r27.2.2 x0 3) 3) x1), (0, 0), (9, 0), (9, 0)]) (tk (n := 10) t155_1 rfl) rfl rfl rfl rfl ?_
                refine s_iconst (pc1 := 86) (tk (n := 11) t155_1 rfl) rfl rfl  ?_
                refine s_istore (pc1 := 88) (ls1 := [(2, x0), (0, x1), (0, x2), (0, x3), (0, x4), (0, x5), (0, x6), (0, 1), (2, r27.2.2 (r27.2.2 (r27.2.2 x0 3) 3) x1), (0, 0), (0, 0), (9, 0)]) (tk (n := 12) t155_1 rfl) rfl rfl rfl rfl ?_
                rfl
set_option maxRecDepth 100000 in
set_option maxHeartbeats 4000000 in
theorem e_X11_area_51 (x0 : Int) (x1 : Int) (x2 : Int) (x3 : Int) (x4 : Int) (x5 : Int) (x6 : Int) (z7 : Vl) (z8 : Vl) (z9 : Vl) (z10 : Vl) (z11 : Vl) (h : Hq) : vp 155 51 [(2, x0), (0, x1), (0, x2), (0, x3), (0, x4), (0, x5), (0, x6), z7, z8, z9, z10, z11] [] h = if 0 < x0 ∧ (kd x0).1 = 11 then (vm 125 [(2, x0), (0, x1), (0, x2)] h).bind (fun r6 => if (vx r6) = 0 then (some (some (0, (-1000000001)), r6.2)) else (some (some (0, (-1000000001)), r6.2))) else none := by
  refine s_fg (ls1 := [(2, x0), (0, x1), (0, x2), (0, x3), (0, x4), (0, x5), (0, x6), (9, 0), (9, 0), (9, 0), (9, 0), (9, 0)]) (tk (n := 22) t155_0 rfl) rfl ?_
  refine s_iconst (pc1 := 52) (tk (n := 22) t155_0 rfl) rfl rfl  ?_
  refine s_istore (pc1 := 54) (ls1 := [(2, x0), (0, x1), (0, x2), (0, x3), (0, x4), (0, x5), (0, x6), (0, 0), (9, 0), (9, 0), (9, 0), (9, 0)]) (tk (n := 23) t155_0 rfl) rfl rfl rfl rfl ?_
  refine s_aload_n (pc1 := 55) (tk (n := 24) t155_0 rfl) rfl rfl rfl ?_
  refine s_iload_n (pc1 := 56) (tk (n := 25) t155_0 rfl) rfl rfl rfl ?_
  refine s_iload_n (pc1 := 57) (tk (n := 26) t155_0 rfl) rfl rfl rfl ?_
  refine s_call0 (as := [(2, x0), (0, x1), (0, x2)]) (st1 := []) (p1 := 60) (M2 := 125) (tk (n := 27) t155_0 rfl) rfl rfl rfl rfl rfl (fun r6 => ?_)
  refine s_if_eq (pc1 := 63) (pt := 68) (tk (n := 28) t155_0 rfl) rfl rfl rfl ?_ ?_
  · refine s_ldc (pc1 := 70) (tk (n := 1) t155_1 rfl) rfl rfl  ?_
    exact s_ret (tk (n := 2) t155_1 rfl) rfl rfl rfl
  · refine s_iload (pc1 := 65) (tk (n := 29) t155_0 rfl) rfl rfl rfl ?_
    refine s_ifN_ne (pc1 := 68) (tk (n := 0) t155_1 rfl) rfl rfl (by decide) ?_
    refine s_ldc (pc1 := 70) (tk (n := 1) t155_1 rfl) rfl rfl  ?_
    exact s_ret (tk (n := 2) t155_1 rfl) rfl rfl rfl
set_option maxRecDepth 100000 in
set_option maxHeartbeats 4000000 in
theorem e_X11_area_88 (z0 : Vl) (z1 : Vl) (x2 : Int) (x3 : Int) (x4 : Int) (x5 : Int) (x6 : Int) (z7 : Vl) (x8 : Int) (x9 : Int) (x10 : Int) (z11 : Vl) (h : Hq) : vp 155 88 [z0, z1, (0, x2), (0, x3), (0, x4), (0, x5), (0, x6), z7, (2, x8), (0, x9), (0, x10), z11] [] h = if x10 ≥ x6 then (if (w32 (x5 * x6)) ≠ 0 then some (some (0, w32 (x9.tdiv (w32 (x5 * x6)))), h) else none) else (vp 155 98 [(9, 0), (9, 0), (0, x2), (0, x3), (0, x4), (0, x5), (0, x6), (9, 0), (2, x8), (0, x9), (0, x10), (0, 0)] [] h) := by
  refine s_fg (ls1 := [(9, 0), (9, 0), (0, x2), (0, x3), (0, x4), (0, x5), (0, x6), (9, 0), (2, x8), (0, x9), (0, x10), (9, 0)]) (tk (n := 13) t155_1 rfl) rfl ?_
  refine s_iload (pc1 := 90) (tk (n := 13) t155_1 rfl) rfl rfl rfl ?_
  refine s_iload (pc1 := 92) (tk (n := 14) t155_1 rfl) rfl rfl rfl ?_
  refine s_ic_ge (pc1 := 95) (pt := 137) (tk (n := 15) t155_1 rfl) rfl rfl rfl ?_ ?_
  · refine s_iload (pc1 := 139) (tk (n := 7) t155_2 rfl) rfl rfl rfl ?_
    refine s_iload (pc1 := 141) (tk (n := 8) t155_2 rfl) rfl rfl rfl ?_
    refine s_iload (pc1 := 143) (tk (n := 9) t155_2 rfl) rfl rfl rfl ?_
    refine s_imul (pc1 := 144) (tk (n := 10) t155_2 rfl) rfl rfl  ?_
    refine s_idiv (pc1 := 145) (tk (n := 11) t155_2 rfl) rfl rfl  ?_
    exact s_ret (tk (n := 12) t155_2 rfl) rfl rfl rfl
  · refine s_iconst (pc1 := 96) (tk (n := 16) t155_1 rfl) rfl rfl  ?_
    refine s_istore (pc1 := 98) (ls1 := [(9, 0), (9, 0), (0, x2), (0, x3), (0, x4), (0, x5), (0, x6), (9, 0), (2, x8), (0, x9), (0, x10), (0, 0)]) (tk (n := 17) t155_1 rfl) rfl rfl rfl rfl ?_
    rfl
set_option maxRecDepth 100000 in
set_option maxHeartbeats 4000000 in
theorem e_X11_area_98 (z0 : Vl) (z1 : Vl) (x2 : Int) (x3 : Int) (x4 : Int) (x5 : Int) (x6 : Int) (z7 : Vl) (x8 : Int) (x9 : Int) (x10 : Int) (x11 : Int) (h : Hq) : vp 155 98 [z0, z1, (0, x2), (0, x3), (0, x4), (0, x5), (0, x6), z7, (2, x8), (0, x9), (0, x10), (0, x11)] [] h = if x11 ≥ x5 then (vp 155 88 [(9, 0), (9, 0), (0, x2), (0, x3), (0, x4), (0, x5), (0, x6), (9, 0), (2, x8), (0, x9), (0, w32 (x10 + 1)), (0, x11)] [] h) else (if 0 < x8 ∧ (kd x8).1 = 10 then (vm 96 [(2, x8), (0, x2), (0, w32 (x3 + x11)), (0, w32 (x4 + x10))] h).bind (fun r13 => vp 155 98 [(9, 0), (9, 0), (0, x2), (0, x3), (0, x4), (0, x5), (0, x6), (9, 0), (2, x8), (0, w32 (x9 + (vx r13))), (0, x10), (0, w32 (x11 + 1))] [] r13.2) else none) := by
  refine s_fg (ls1 := [(9, 0), (9, 0), (0, x2), (0, x3), (0, x4), (0, x5), (0, x6), (9, 0), (2, x8), (0, x9), (0, x10), (0, x11)]) (tk (n := 18) t155_1 rfl) rfl ?_
  refine s_iload (pc1 := 100) (tk (n := 18) t155_1 rfl) rfl rfl rfl ?_
  refine s_iload (pc1 := 102) (tk (n := 19) t155_1 rfl) rfl rfl rfl ?_
  refine s_ic_ge (pc1 := 105) (pt := 131) (tk (n := 20) t155_1 rfl) rfl rfl rfl ?_ ?_
  · refine s_iinc (pc1 := 134) (ls1 := [(9, 0), (9, 0), (0, x2), (0, x3), (0, x4), (0, x5), (0, x6), (9, 0), (2, x8), (0, x9), (0, w32 (x10 + 1)), (0, x11)]) (tk (n := 5) t155_2 rfl) rfl rfl rfl rfl ?_
    refine s_goto (pc1 := 88) (tk (n := 6) t155_2 rfl) rfl rfl ?_
    rfl
  · refine s_iload (pc1 := 107) (tk (n := 21) t155_1 rfl) rfl rfl rfl ?_
    refine s_aload (pc1 := 109) (tk (n := 22) t155_1 rfl) rfl rfl rfl ?_
    refine s_iload_n (pc1 := 110) (tk (n := 23) t155_1 rfl) rfl rfl rfl ?_
    refine s_iload_n (pc1 := 111) (tk (n := 24) t155_1 rfl) rfl rfl rfl ?_
    refine s_iload (pc1 := 113) (tk (n := 25) t155_1 rfl) rfl rfl rfl ?_
    refine s_iadd (pc1 := 114) (tk (n := 26) t155_1 rfl) rfl rfl  ?_
    refine s_iload (pc1 := 116) (tk (n := 27) t155_1 rfl) rfl rfl rfl ?_
    refine s_iload (pc1 := 118) (tk (n := 28) t155_1 rfl) rfl rfl rfl ?_
    refine s_iadd (pc1 := 119) (tk (n := 29) t155_1 rfl) rfl rfl  ?_
    refine s_call0 (as := [(2, x8), (0, x2), (0, w32 (x3 + x11)), (0, w32 (x4 + x10))]) (st1 := [(0, x9)]) (p1 := 122) (M2 := 96) (tk (n := 0) t155_2 rfl) rfl rfl rfl rfl rfl (fun r13 => ?_)
    refine s_iadd (pc1 := 123) (tk (n := 1) t155_2 rfl) rfl rfl  ?_
    refine s_istore (pc1 := 125) (ls1 := [(9, 0), (9, 0), (0, x2), (0, x3), (0, x4), (0, x5), (0, x6), (9, 0), (2, x8), (0, w32 (x9 + (vx r13))), (0, x10), (0, x11)]) (tk (n := 2) t155_2 rfl) rfl rfl rfl rfl ?_
    refine s_iinc (pc1 := 128) (ls1 := [(9, 0), (9, 0), (0, x2), (0, x3), (0, x4), (0, x5), (0, x6), (9, 0), (2, x8), (0, w32 (x9 + (vx r13))), (0, x10), (0, w32 (x11 + 1))]) (tk (n := 3) t155_2 rfl) rfl rfl rfl rfl ?_
    refine s_goto (pc1 := 98) (tk (n := 4) t155_2 rfl) rfl rfl ?_
    rfl
set_option maxRecDepth 100000 in
set_option maxHeartbeats 4000000 in
theorem e_X11_stale (x0 : Int) (x1 : Int) (h : Hq) : vm 156 [(2, x0), (0, x1)] h = if 0 < x0 ∧ (kd x0).1 = 11 then (vm 124 [(2, x0), (0, x1)] h).bind (fun r3 => if (vx r3) = 0 then (some (some (0, (-1)), r3.2)) else (if 0 < x0 ∧ (kd x0).1 = 11 then if 0 < (r3.2.2 x0 3) ∧ (kd (r3.2.2 x0 3)).1 = 5 then if (kd (r3.2.2 (r3.2.2 x0 3) 3)).1 = 25 ∧ 0 ≤ x1 ∧ x1 < (kd (r3.2.2 (r3.2.2 x0 3) 3)).2 then if 0 < (r3.2.2 (r3.2.2 (r3.2.2 x0 3) 3) x1) ∧ (kd (r3.2.2 (r3.2.2 (r3.2.2 x0 3) 3) x1)).1 = 10 then (vm 102 [(2, r3.2.2 (r3.2.2 (r3.2.2 x0 3) 3) x1)] r3.2).bind (fun r10 => some (some (0, vx r10), r10.2)) else none else none else none else none)) else none := by
  show vp 156 0 [(2, x0), (0, x1)] [] h = _
  refine s_aload_n (pc1 := 1) (tk (n := 0) t156_0 rfl) rfl rfl rfl ?_
  refine s_iload_n (pc1 := 2) (tk (n := 1) t156_0 rfl) rfl rfl rfl ?_
  refine s_call0 (as := [(2, x0), (0, x1)]) (st1 := []) (p1 := 5) (M2 := 124) (tk (n := 2) t156_0 rfl) rfl rfl rfl rfl rfl (fun r3 => ?_)
  refine s_if_eq (pc1 := 8) (pt := 23) (tk (n := 3) t156_0 rfl) rfl rfl rfl ?_ ?_
  · refine s_iconst (pc1 := 24) (tk (n := 11) t156_0 rfl) rfl rfl  ?_
    exact s_ret (tk (n := 12) t156_0 rfl) rfl rfl rfl
  · refine s_aload_n (pc1 := 9) (tk (n := 4) t156_0 rfl) rfl rfl rfl ?_
    refine s_getf (pc1 := 12) (c := 11) (t1 := 2) (tk (n := 5) t156_0 rfl) rfl rfl (by decide) rfl rfl ?_
    refine s_getf (pc1 := 15) (c := 5) (t1 := 2) (tk (n := 6) t156_0 rfl) rfl rfl (by decide) rfl rfl ?_
    refine s_iload_n (pc1 := 16) (tk (n := 7) t156_0 rfl) rfl rfl rfl ?_
    refine s_aald (pc1 := 17) (c := 25) (tk (n := 8) t156_0 rfl) rfl rfl rfl ?_
    refine s_call0 (as := [(2, r3.2.2 (r3.2.2 (r3.2.2 x0 3) 3) x1)]) (st1 := []) (p1 := 20) (M2 := 102) (tk (n := 9) t156_0 rfl) rfl rfl rfl rfl rfl (fun r10 => ?_)
    refine s_goto (pc1 := 24) (tk (n := 10) t156_0 rfl) rfl rfl ?_
    exact s_ret (tk (n := 12) t156_0 rfl) rfl rfl rfl
set_option maxRecDepth 100000 in
set_option maxHeartbeats 4000000 in
theorem e_X11_leaves (x0 : Int) (x1 : Int) (h : Hq) : vm 157 [(2, x0), (0, x1)] h = if x1 < 0 then (some (some (0, (-1)), h)) else (if 0 < x0 ∧ (kd x0).1 = 11 then if 0 < (h.2 x0 7) ∧ (kd (h.2 x0 7)).1 = 1 then if x1 < (h.2 (h.2 x0 7) 2) then (if 0 < x0 ∧ (kd x0).1 = 11 then if 0 < (h.2 x0 7) ∧ (kd (h.2 x0 7)).1 = 1 then if 0 < x0 ∧ (kd x0).1 = 11 then if 0 < (h.2 x0 7) ∧ (kd (h.2 x0 7)).1 = 1 then (vm 11 [(2, h.2 x0 7), (0, x1)] h).bind (fun r14 => if (kd (h.2 (h.2 x0 7) 0)).1 = 20 ∧ 0 ≤ (vx r14) ∧ (vx r14) < (kd (h.2 (h.2 x0 7) 0)).2 then some (some (0, r14.2.2 (h.2 (h.2 x0 7) 0) (vx r14)), r14.2) else none) else none else none else none else none) else (some (some (0, (-1)), h)) else none else none) := by
  show vp 157 0 [(2, x0), (0, x1)] [] h = _
  refine s_iload_n (pc1 := 1) (tk (n := 0) t157_0 rfl) rfl rfl rfl ?_
  refine s_if_lt (pc1 := 4) (pt := 15) (tk (n := 1) t157_0 rfl) rfl rfl rfl ?_ ?_
  · refine s_iconst (pc1 := 16) (tk (n := 7) t157_0 rfl) rfl rfl  ?_
    exact s_ret (tk (n := 8) t157_0 rfl) rfl rfl rfl
  · refine s_iload_n (pc1 := 5) (tk (n := 2) t157_0 rfl) rfl rfl rfl ?_
    refine s_aload_n (pc1 := 6) (tk (n := 3) t157_0 rfl) rfl rfl rfl ?_
    refine s_getf (pc1 := 9) (c := 11) (t1 := 2) (tk (n := 4) t157_0 rfl) rfl rfl (by decide) rfl rfl ?_
    refine s_getf (pc1 := 12) (c := 1) (t1 := 0) (tk (n := 5) t157_0 rfl) rfl rfl (by decide) rfl rfl ?_
    refine s_ic_lt (pc1 := 15) (pt := 17) (tk (n := 6) t157_0 rfl) rfl rfl rfl ?_ ?_
    · refine s_aload_n (pc1 := 18) (tk (n := 9) t157_0 rfl) rfl rfl rfl ?_
      refine s_getf (pc1 := 21) (c := 11) (t1 := 2) (tk (n := 10) t157_0 rfl) rfl rfl (by decide) rfl rfl ?_
      refine s_getf (pc1 := 24) (c := 1) (t1 := 2) (tk (n := 11) t157_0 rfl) rfl rfl (by decide) rfl rfl ?_
      refine s_aload_n (pc1 := 25) (tk (n := 12) t157_0 rfl) rfl rfl rfl ?_
      refine s_getf (pc1 := 28) (c := 11) (t1 := 2) (tk (n := 13) t157_0 rfl) rfl rfl (by decide) rfl rfl ?_
      refine s_iload_n (pc1 := 29) (tk (n := 14) t157_0 rfl) rfl rfl rfl ?_
      refine s_call0 (as := [(2, h.2 x0 7), (0, x1)]) (st1 := [(2, h.2 (h.2 x0 7) 0)]) (p1 := 32) (M2 := 11) (tk (n := 15) t157_0 rfl) rfl rfl rfl rfl rfl (fun r14 => ?_)
      refine s_iald (pc1 := 33) (tk (n := 16) t157_0 rfl) rfl rfl  ?_
      exact s_ret (tk (n := 17) t157_0 rfl) rfl rfl rfl
    · refine s_iconst (pc1 := 16) (tk (n := 7) t157_0 rfl) rfl rfl  ?_
      exact s_ret (tk (n := 8) t157_0 rfl) rfl rfl rfl
set_option maxRecDepth 100000 in
set_option maxHeartbeats 4000000 in
theorem e_X11_hottest (x0 : Int) (x1 : Int) (x2 : Int) (h : Hq) : vm 158 [(2, x0), (0, x1), (0, x2)] h = if x1 < 0 then (some (some (0, (-1)), h)) else (if x2 < 0 then (some (some (0, (-1)), h)) else (if x2 ≤ 1 then (if 0 < x0 ∧ (kd x0).1 = 11 then if 0 < (h.2 x0 9) ∧ (kd (h.2 x0 9)).1 = 8 then (vm 62 [(2, h.2 x0 9), (0, x1)] h).bind (fun r11 => if (vx r11) = (-1) then (some (some (0, vx r11), r11.2)) else (if x2 ≠ 0 then (if 0 < x0 ∧ (kd x0).1 = 11 then if 0 < (r11.2.2 x0 9) ∧ (kd (r11.2.2 x0 9)).1 = 8 then if (kd (r11.2.2 (r11.2.2 x0 9) 0)).1 = 20 ∧ 0 ≤ (vx r11) ∧ (vx r11) < (kd (r11.2.2 (r11.2.2 x0 9) 0)).2 then some (some (0, r11.2.2 (r11.2.2 (r11.2.2 x0 9) 0) (vx r11)), r11.2) else none else none else none) else (some (some (0, vx r11), r11.2)))) else none else none) else (some (some (0, (-1)), h)))) := by
  show vp 158 0 [(2, x0), (0, x1), (0, x2), (9, 0)] [] h = _
  refine s_iload_n (pc1 := 1) (tk (n := 0) t158_0 rfl) rfl rfl rfl ?_
  refine s_if_lt (pc1 := 4) (pt := 13) (tk (n := 1) t158_0 rfl) rfl rfl rfl ?_ ?_
  · refine s_iconst (pc1 := 14) (tk (n := 7) t158_0 rfl) rfl rfl  ?_
    exact s_ret (tk (n := 8) t158_0 rfl) rfl rfl rfl
  · refine s_iload_n (pc1 := 5) (tk (n := 2) t158_0 rfl) rfl rfl rfl ?_
    refine s_if_lt (pc1 := 8) (pt := 13) (tk (n := 3) t158_0 rfl) rfl rfl rfl ?_ ?_
    · refine s_iconst (pc1 := 14) (tk (n := 7) t158_0 rfl) rfl rfl  ?_
      exact s_ret (tk (n := 8) t158_0 rfl) rfl rfl rfl
    · refine s_iload_n (pc1 := 9) (tk (n := 4) t158_0 rfl) rfl rfl rfl ?_
      refine s_iconst (pc1 := 10) (tk (n := 5) t158_0 rfl) rfl rfl  ?_
      refine s_ic_le (pc1 := 13) (pt := 15) (tk (n := 6) t158_0 rfl) rfl rfl rfl ?_ ?_
      · refine s_aload_n (pc1 := 16) (tk (n := 9) t158_0 rfl) rfl rfl rfl ?_
        refine s_getf (pc1 := 19) (c := 11) (t1 := 2) (tk (n := 10) t158_0 rfl) rfl rfl (by decide) rfl rfl ?_
        refine s_iload_n (pc1 := 20) (tk (n := 11) t158_0 rfl) rfl rfl rfl ?_
        refine s_call0 (as := [(2, h.2 x0 9), (0, x1)]) (st1 := []) (p1 := 23) (M2 := 62) (tk (n := 12) t158_0 rfl) rfl rfl rfl rfl rfl (fun r11 => ?_)
        refine s_istore_n (pc1 := 24) (ls1 := [(2, x0), (0, x1), (0, x2), (0, vx r11)]) (tk (n := 13) t158_0 rfl) rfl rfl rfl rfl ?_
        refine s_iload_n (pc1 := 25) (tk (n := 14) t158_0 rfl) rfl rfl rfl ?_
        refine s_iconst (pc1 := 26) (tk (n := 15) t158_0 rfl) rfl rfl  ?_
        refine s_ic_eq (pc1 := 29) (pt := 33) (tk (n := 16) t158_0 rfl) rfl rfl rfl ?_ ?_
        · refine s_iload_n (pc1 := 34) (tk (n := 19) t158_0 rfl) rfl rfl rfl ?_
          refine s_goto (pc1 := 46) (tk (n := 20) t158_0 rfl) rfl rfl ?_
          exact s_ret (tk (n := 26) t158_0 rfl) rfl rfl rfl
        · refine s_iload_n (pc1 := 30) (tk (n := 17) t158_0 rfl) rfl rfl rfl ?_
          refine s_if_ne (pc1 := 33) (pt := 37) (tk (n := 18) t158_0 rfl) rfl rfl rfl ?_ ?_
          · refine s_aload_n (pc1 := 38) (tk (n := 21) t158_0 rfl) rfl rfl rfl ?_
            refine s_getf (pc1 := 41) (c := 11) (t1 := 2) (tk (n := 22) t158_0 rfl) rfl rfl (by decide) rfl rfl ?_
            refine s_getf (pc1 := 44) (c := 8) (t1 := 2) (tk (n := 23) t158_0 rfl) rfl rfl (by decide) rfl rfl ?_
            refine s_iload_n (pc1 := 45) (tk (n := 24) t158_0 rfl) rfl rfl rfl ?_
            refine s_iald (pc1 := 46) (tk (n := 25) t158_0 rfl) rfl rfl  ?_
            exact s_ret (tk (n := 26) t158_0 rfl) rfl rfl rfl
          · refine s_iload_n (pc1 := 34) (tk (n := 19) t158_0 rfl) rfl rfl rfl ?_
            refine s_goto (pc1 := 46) (tk (n := 20) t158_0 rfl) rfl rfl ?_
            exact s_ret (tk (n := 26) t158_0 rfl) rfl rfl rfl
      · refine s_iconst (pc1 := 14) (tk (n := 7) t158_0 rfl) rfl rfl  ?_
        exact s_ret (tk (n := 8) t158_0 rfl) rfl rfl rfl
set_option maxRecDepth 100000 in
set_option maxHeartbeats 4000000 in
theorem e_X11_image (x0 : Int) (x1 : Int) (h : Hq) : vm 159 [(2, x0), (0, x1)] h = if x1 < 0 then (some (some (0, (-1)), h)) else (if x1 < 2 then (if 0 < x0 ∧ (kd x0).1 = 11 then if 0 < (h.2 x0 5) ∧ (kd (h.2 x0 5)).1 = 7 then (vm 57 [(2, h.2 x0 5), (0, x1)] h).bind (fun r9 => if 0 < x0 ∧ (kd x0).1 = 11 then (vm 161 [(2, x0)] r9.2).bind (fun r11 => some (some (0, vx r11), r11.2)) else none) else none else none) else (some (some (0, (-1)), h))) := by
  show vp 159 0 [(2, x0), (0, x1)] [] h = _
  refine s_iload_n (pc1 := 1) (tk (n := 0) t159_0 rfl) rfl rfl rfl ?_
  refine s_if_lt (pc1 := 4) (pt := 9) (tk (n := 1) t159_0 rfl) rfl rfl rfl ?_ ?_
  · refine s_iconst (pc1 := 10) (tk (n := 5) t159_0 rfl) rfl rfl  ?_
    exact s_ret (tk (n := 6) t159_0 rfl) rfl rfl rfl
  · refine s_iload_n (pc1 := 5) (tk (n := 2) t159_0 rfl) rfl rfl rfl ?_
    refine s_iconst (pc1 := 6) (tk (n := 3) t159_0 rfl) rfl rfl  ?_
    refine s_ic_lt (pc1 := 9) (pt := 11) (tk (n := 4) t159_0 rfl) rfl rfl rfl ?_ ?_
    · refine s_aload_n (pc1 := 12) (tk (n := 7) t159_0 rfl) rfl rfl rfl ?_
      refine s_getf (pc1 := 15) (c := 11) (t1 := 2) (tk (n := 8) t159_0 rfl) rfl rfl (by decide) rfl rfl ?_
      refine s_iload_n (pc1 := 16) (tk (n := 9) t159_0 rfl) rfl rfl rfl ?_
      refine s_call9 (as := [(2, h.2 x0 5), (0, x1)]) (st1 := []) (p1 := 19) (M2 := 57) (tk (n := 10) t159_0 rfl) rfl rfl rfl rfl rfl (fun r9 => ?_)
      refine s_aload_n (pc1 := 20) (tk (n := 11) t159_0 rfl) rfl rfl rfl ?_
      refine s_call0 (as := [(2, x0)]) (st1 := []) (p1 := 23) (M2 := 161) (tk (n := 12) t159_0 rfl) rfl rfl rfl rfl rfl (fun r11 => ?_)
      exact s_ret (tk (n := 13) t159_0 rfl) rfl rfl rfl
    · refine s_iconst (pc1 := 10) (tk (n := 5) t159_0 rfl) rfl rfl  ?_
      exact s_ret (tk (n := 6) t159_0 rfl) rfl rfl rfl
set_option maxRecDepth 100000 in
set_option maxHeartbeats 4000000 in
theorem e_X11_back (x0 : Int) (x1 : Int) (h : Hq) : vm 160 [(2, x0), (0, x1)] h = if x1 < 0 then (some (some (0, (-1)), h)) else (if x1 ≥ 2 then (some (some (0, (-1)), h)) else (if 0 < x0 ∧ (kd x0).1 = 11 then if 0 < (h.2 x0 5) ∧ (kd (h.2 x0 5)).1 = 7 then if (kd (h.2 (h.2 x0 5) 4)).1 = 22 ∧ 0 ≤ x1 ∧ x1 < (kd (h.2 (h.2 x0 5) 4)).2 then if (h.2 (h.2 (h.2 x0 5) 4) x1) ≠ 0 then (if 0 < x0 ∧ (kd x0).1 = 11 then if 0 < (h.2 x0 5) ∧ (kd (h.2 x0 5)).1 = 7 then (vm 58 [(2, h.2 x0 5), (0, x1)] h).bind (fun r15 => if 0 < x0 ∧ (kd x0).1 = 11 then if 0 < (r15.2.2 x0 6) ∧ (kd (r15.2.2 x0 6)).1 = 0 then (vm 1 [(2, r15.2.2 x0 6)] r15.2).bind (fun r18 => if 0 < x0 ∧ (kd x0).1 = 11 then (vm 161 [(2, x0)] r18.2).bind (fun r20 => some (some (0, vx r20), r20.2)) else none) else none else none) else none else none) else (some (some (0, (-1)), h)) else none else none else none)) := by
  show vp 160 0 [(2, x0), (0, x1)] [] h = _
  refine s_iload_n (pc1 := 1) (tk (n := 0) t160_0 rfl) rfl rfl rfl ?_
  refine s_if_lt (pc1 := 4) (pt := 21) (tk (n := 1) t160_0 rfl) rfl rfl rfl ?_ ?_
  · refine s_iconst (pc1 := 22) (tk (n := 11) t160_0 rfl) rfl rfl  ?_
    exact s_ret (tk (n := 12) t160_0 rfl) rfl rfl rfl
  · refine s_iload_n (pc1 := 5) (tk (n := 2) t160_0 rfl) rfl rfl rfl ?_
    refine s_iconst (pc1 := 6) (tk (n := 3) t160_0 rfl) rfl rfl  ?_
    refine s_ic_ge (pc1 := 9) (pt := 21) (tk (n := 4) t160_0 rfl) rfl rfl rfl ?_ ?_
    · refine s_iconst (pc1 := 22) (tk (n := 11) t160_0 rfl) rfl rfl  ?_
      exact s_ret (tk (n := 12) t160_0 rfl) rfl rfl rfl
    · refine s_aload_n (pc1 := 10) (tk (n := 5) t160_0 rfl) rfl rfl rfl ?_
      refine s_getf (pc1 := 13) (c := 11) (t1 := 2) (tk (n := 6) t160_0 rfl) rfl rfl (by decide) rfl rfl ?_
      refine s_getf (pc1 := 16) (c := 7) (t1 := 2) (tk (n := 7) t160_0 rfl) rfl rfl (by decide) rfl rfl ?_
      refine s_iload_n (pc1 := 17) (tk (n := 8) t160_0 rfl) rfl rfl rfl ?_
      refine s_bald (pc1 := 18) (c := 22) (tk (n := 9) t160_0 rfl) rfl rfl rfl ?_
      refine s_if_ne (pc1 := 21) (pt := 23) (tk (n := 10) t160_0 rfl) rfl rfl rfl ?_ ?_
      · refine s_aload_n (pc1 := 24) (tk (n := 13) t160_0 rfl) rfl rfl rfl ?_
        refine s_getf (pc1 := 27) (c := 11) (t1 := 2) (tk (n := 14) t160_0 rfl) rfl rfl (by decide) rfl rfl ?_
        refine s_iload_n (pc1 := 28) (tk (n := 15) t160_0 rfl) rfl rfl rfl ?_
        refine s_call9 (as := [(2, h.2 x0 5), (0, x1)]) (st1 := []) (p1 := 31) (M2 := 58) (tk (n := 16) t160_0 rfl) rfl rfl rfl rfl rfl (fun r15 => ?_)
        refine s_aload_n (pc1 := 32) (tk (n := 17) t160_0 rfl) rfl rfl rfl ?_
        refine s_getf (pc1 := 35) (c := 11) (t1 := 2) (tk (n := 18) t160_0 rfl) rfl rfl (by decide) rfl rfl ?_
        refine s_call9 (as := [(2, r15.2.2 x0 6)]) (st1 := []) (p1 := 38) (M2 := 1) (tk (n := 19) t160_0 rfl) rfl rfl rfl rfl rfl (fun r18 => ?_)
        refine s_aload_n (pc1 := 39) (tk (n := 20) t160_0 rfl) rfl rfl rfl ?_
        refine s_call0 (as := [(2, x0)]) (st1 := []) (p1 := 42) (M2 := 161) (tk (n := 21) t160_0 rfl) rfl rfl rfl rfl rfl (fun r20 => ?_)
        exact s_ret (tk (n := 22) t160_0 rfl) rfl rfl rfl
      · refine s_iconst (pc1 := 22) (tk (n := 11) t160_0 rfl) rfl rfl  ?_
        exact s_ret (tk (n := 12) t160_0 rfl) rfl rfl rfl
set_option maxRecDepth 100000 in
set_option maxHeartbeats 4000000 in
theorem e_X11_remainder (x0 : Int) (h : Hq) : vm 161 [(2, x0)] h = vp 161 4 [(2, x0), (1, 0), (9, 0), (0, 0)] [] h := by
  show vp 161 0 [(2, x0), (9, 0), (9, 0), (9, 0)] [] h = _
  refine s_lconst (pc1 := 1) (v := 0) (tk (n := 0) t161_0 rfl) rfl rfl rfl ?_
  refine s_lstore_n (pc1 := 2) (ls1 := [(2, x0), (1, 0), (9, 0), (9, 0)]) (tk (n := 1) t161_0 rfl) rfl rfl rfl rfl ?_
  refine s_iconst (pc1 := 3) (tk (n := 2) t161_0 rfl) rfl rfl  ?_
  refine s_istore_n (pc1 := 4) (ls1 := [(2, x0), (1, 0), (9, 0), (0, 0)]) (tk (n := 3) t161_0 rfl) rfl rfl rfl rfl ?_
  rfl
set_option maxRecDepth 100000 in
set_option maxHeartbeats 4000000 in
theorem e_X11_remainder_4 (x0 : Int) (x1 : Int) (x3 : Int) (h : Hq) : vp 161 4 [(2, x0), (1, x1), (9, 0), (0, x3)] [] h = if 0 < x0 ∧ (kd x0).1 = 11 then if 0 < (h.2 x0 5) ∧ (kd (h.2 x0 5)).1 = 7 then if x3 ≥ (h.2 (h.2 x0 5) 5) then ((vm 311 [(1, x1), (1, 1000003)] h).bind (fun r8 => some (some (0, w32 (vx r8)), r8.2))) else (if 0 < x0 ∧ (kd x0).1 = 11 then if 0 < (h.2 x0 5) ∧ (kd (h.2 x0 5)).1 = 7 then (vm 49 [(2, h.2 x0 5), (0, x3)] h).bind (fun r10 => vp 161 4 [(2, x0), (1, w64 (x1 + (vx r10))), (9, 0), (0, w32 (x3 + 1))] [] r10.2) else none else none) else none else none := by
  refine s_iload_n (pc1 := 5) (tk (n := 4) t161_0 rfl) rfl rfl rfl ?_
  refine s_aload_n (pc1 := 6) (tk (n := 5) t161_0 rfl) rfl rfl rfl ?_
  refine s_getf (pc1 := 9) (c := 11) (t1 := 2) (tk (n := 6) t161_0 rfl) rfl rfl (by decide) rfl rfl ?_
  refine s_getf (pc1 := 12) (c := 7) (t1 := 0) (tk (n := 7) t161_0 rfl) rfl rfl (by decide) rfl rfl ?_
  refine s_ic_ge (pc1 := 15) (pt := 32) (tk (n := 8) t161_0 rfl) rfl rfl rfl ?_ ?_
  · refine s_lload_n (pc1 := 33) (tk (n := 18) t161_0 rfl) rfl rfl rfl ?_
    refine s_ldc2 (pc1 := 36) (tk (n := 19) t161_0 rfl) rfl rfl  ?_
    refine s_callS1 (as := [(1, x1), (1, 1000003)]) (st1 := []) (p1 := 39) (M2 := 311) (tk (n := 20) t161_0 rfl) rfl rfl rfl rfl rfl (fun r8 => ?_)
    refine s_l2i (pc1 := 40) (tk (n := 21) t161_0 rfl) rfl rfl  ?_
    exact s_ret (tk (n := 22) t161_0 rfl) rfl rfl rfl
  · refine s_lload_n (pc1 := 16) (tk (n := 9) t161_0 rfl) rfl rfl rfl ?_
    refine s_aload_n (pc1 := 17) (tk (n := 10) t161_0 rfl) rfl rfl rfl ?_
    refine s_getf (pc1 := 20) (c := 11) (t1 := 2) (tk (n := 11) t161_0 rfl) rfl rfl (by decide) rfl rfl ?_
    refine s_iload_n (pc1 := 21) (tk (n := 12) t161_0 rfl) rfl rfl rfl ?_
    refine s_call1 (as := [(2, h.2 x0 5), (0, x3)]) (st1 := [(1, x1)]) (p1 := 24) (M2 := 49) (tk (n := 13) t161_0 rfl) rfl rfl rfl rfl rfl (fun r10 => ?_)
    refine s_ladd (pc1 := 25) (tk (n := 14) t161_0 rfl) rfl rfl  ?_
    refine s_lstore_n (pc1 := 26) (ls1 := [(2, x0), (1, w64 (x1 + (vx r10))), (9, 0), (0, x3)]) (tk (n := 15) t161_0 rfl) rfl rfl rfl rfl ?_
    refine s_iinc (pc1 := 29) (ls1 := [(2, x0), (1, w64 (x1 + (vx r10))), (9, 0), (0, w32 (x3 + 1))]) (tk (n := 16) t161_0 rfl) rfl rfl rfl rfl ?_
    refine s_goto (pc1 := 4) (tk (n := 17) t161_0 rfl) rfl rfl ?_
    rfl
set_option maxRecDepth 100000 in
set_option maxHeartbeats 4000000 in
theorem e_X11_about (x0 : Int) (x1 : Int) (h : Hq) : vm 162 [(2, x0), (0, x1)] h = if x1 = 0 then (if 0 < x0 ∧ (kd x0).1 = 11 then if 0 < (h.2 x0 5) ∧ (kd (h.2 x0 5)).1 = 7 then some (some (0, h.2 (h.2 x0 5) 5), h) else none else none) else (if x1 = 1 then (if 0 < x0 ∧ (kd x0).1 = 11 then if 0 < (h.2 x0 3) ∧ (kd (h.2 x0 3)).1 = 5 then some (some (0, h.2 (h.2 x0 3) 6), h) else none else none) else (if x1 = 2 then (if 0 < x0 ∧ (kd x0).1 = 11 then if 0 < (h.2 x0 7) ∧ (kd (h.2 x0 7)).1 = 1 then some (some (0, h.2 (h.2 x0 7) 2), h) else none else none) else (if x1 = 3 then (if 0 < x0 ∧ (kd x0).1 = 11 then if 0 < (h.2 x0 7) ∧ (kd (h.2 x0 7)).1 = 1 then some (some (0, h.2 (h.2 x0 7) 3), h) else none else none) else (if x1 = 4 then (if 0 < x0 ∧ (kd x0).1 = 11 then if 0 < (h.2 x0 7) ∧ (kd (h.2 x0 7)).1 = 1 then some (some (0, h.2 (h.2 x0 7) 4), h) else none else none) else (if x1 = 5 then (if 0 < x0 ∧ (kd x0).1 = 11 then if 0 < (h.2 x0 9) ∧ (kd (h.2 x0 9)).1 = 8 then some (some (0, h.2 (h.2 x0 9) 1), h) else none else none) else (if x1 = 6 then (if 0 < x0 ∧ (kd x0).1 = 11 then if 0 < (h.2 x0 9) ∧ (kd (h.2 x0 9)).1 = 8 then some (some (0, h.2 (h.2 x0 9) 2), h) else none else none) else (if x1 = 7 then (if 0 < x0 ∧ (kd x0).1 = 11 then if 0 < (h.2 x0 7) ∧ (kd (h.2 x0 7)).1 = 1 then some (some (0, h.2 (h.2 x0 7) 6), h) else none else none) else (if x1 = 8 then (if 0 < x0 ∧ (kd x0).1 = 11 then if 0 < (h.2 x0 6) ∧ (kd (h.2 x0 6)).1 = 0 then some (some (0, h.2 (h.2 x0 6) 3), h) else none else none) else (if x1 = 9 then (if 0 < x0 ∧ (kd x0).1 = 11 then some (some (0, h.2 x0 1), h) else none) else (if x1 = 10 then (if 0 < x0 ∧ (kd x0).1 = 11 then if 0 < (h.2 x0 5) ∧ (kd (h.2 x0 5)).1 = 7 then (vm 50 [(2, h.2 x0 5)] h).bind (fun r5 => some (some (0, vx r5), r5.2)) else none else none) else (some (some (0, (-1)), h)))))))))))) := by
  show vp 162 0 [(2, x0), (0, x1)] [] h = _
  refine s_iload_n (pc1 := 1) (tk (n := 0) t162_0 rfl) rfl rfl rfl ?_
  refine s_sw (x := x1) (cs := [(0, 60), (1, 68), (2, 76), (3, 84), (4, 92), (5, 100), (6, 108), (7, 116), (8, 124), (9, 132), (10, 137)]) (p0 := 145) (st1 := []) (tk (n := 1) t162_0 rfl) rfl rfl ?_
  refine s_swC (p1 := 60) rfl ?_ ?_
  · refine s_aload_n (pc1 := 61) (tk (n := 2) t162_0 rfl) rfl rfl rfl ?_
    refine s_getf (pc1 := 64) (c := 11) (t1 := 2) (tk (n := 3) t162_0 rfl) rfl rfl (by decide) rfl rfl ?_
    refine s_getf (pc1 := 67) (c := 7) (t1 := 0) (tk (n := 4) t162_0 rfl) rfl rfl (by decide) rfl rfl ?_
    exact s_ret (tk (n := 5) t162_0 rfl) rfl rfl rfl
  refine s_swC (p1 := 68) rfl ?_ ?_
  · refine s_aload_n (pc1 := 69) (tk (n := 6) t162_0 rfl) rfl rfl rfl ?_
    refine s_getf (pc1 := 72) (c := 11) (t1 := 2) (tk (n := 7) t162_0 rfl) rfl rfl (by decide) rfl rfl ?_
    refine s_getf (pc1 := 75) (c := 5) (t1 := 0) (tk (n := 8) t162_0 rfl) rfl rfl (by decide) rfl rfl ?_
    exact s_ret (tk (n := 9) t162_0 rfl) rfl rfl rfl
  refine s_swC (p1 := 76) rfl ?_ ?_
  · refine s_aload_n (pc1 := 77) (tk (n := 10) t162_0 rfl) rfl rfl rfl ?_
    refine s_getf (pc1 := 80) (c := 11) (t1 := 2) (tk (n := 11) t162_0 rfl) rfl rfl (by decide) rfl rfl ?_
    refine s_getf (pc1 := 83) (c := 1) (t1 := 0) (tk (n := 12) t162_0 rfl) rfl rfl (by decide) rfl rfl ?_
    exact s_ret (tk (n := 13) t162_0 rfl) rfl rfl rfl
  refine s_swC (p1 := 84) rfl ?_ ?_
  · refine s_aload_n (pc1 := 85) (tk (n := 14) t162_0 rfl) rfl rfl rfl ?_
    refine s_getf (pc1 := 88) (c := 11) (t1 := 2) (tk (n := 15) t162_0 rfl) rfl rfl (by decide) rfl rfl ?_
    refine s_getf (pc1 := 91) (c := 1) (t1 := 0) (tk (n := 16) t162_0 rfl) rfl rfl (by decide) rfl rfl ?_
    exact s_ret (tk (n := 17) t162_0 rfl) rfl rfl rfl
  refine s_swC (p1 := 92) rfl ?_ ?_
  · refine s_aload_n (pc1 := 93) (tk (n := 18) t162_0 rfl) rfl rfl rfl ?_
    refine s_getf (pc1 := 96) (c := 11) (t1 := 2) (tk (n := 19) t162_0 rfl) rfl rfl (by decide) rfl rfl ?_
    refine s_getf (pc1 := 99) (c := 1) (t1 := 0) (tk (n := 20) t162_0 rfl) rfl rfl (by decide) rfl rfl ?_
    exact s_ret (tk (n := 21) t162_0 rfl) rfl rfl rfl
  refine s_swC (p1 := 100) rfl ?_ ?_
  · refine s_aload_n (pc1 := 101) (tk (n := 22) t162_0 rfl) rfl rfl rfl ?_
    refine s_getf (pc1 := 104) (c := 11) (t1 := 2) (tk (n := 23) t162_0 rfl) rfl rfl (by decide) rfl rfl ?_
    refine s_getf (pc1 := 107) (c := 8) (t1 := 0) (tk (n := 24) t162_0 rfl) rfl rfl (by decide) rfl rfl ?_
    exact s_ret (tk (n := 25) t162_0 rfl) rfl rfl rfl
  refine s_swC (p1 := 108) rfl ?_ ?_
  · refine s_aload_n (pc1 := 109) (tk (n := 26) t162_0 rfl) rfl rfl rfl ?_
    refine s_getf (pc1 := 112) (c := 11) (t1 := 2) (tk (n := 27) t162_0 rfl) rfl rfl (by decide) rfl rfl ?_
    refine s_getf (pc1 := 115) (c := 8) (t1 := 0) (tk (n := 28) t162_0 rfl) rfl rfl (by decide) rfl rfl ?_
    exact s_ret (tk (n := 29) t162_0 rfl) rfl rfl rfl
  refine s_swC (p1 := 116) rfl ?_ ?_
  · refine s_aload_n (pc1 := 117) (tk (n := 0) t162_1 rfl) rfl rfl rfl ?_
    refine s_getf (pc1 := 120) (c := 11) (t1 := 2) (tk (n := 1) t162_1 rfl) rfl rfl (by decide) rfl rfl ?_
    refine s_getf (pc1 := 123) (c := 1) (t1 := 0) (tk (n := 2) t162_1 rfl) rfl rfl (by decide) rfl rfl ?_
    exact s_ret (tk (n := 3) t162_1 rfl) rfl rfl rfl
  refine s_swC (p1 := 124) rfl ?_ ?_
  · refine s_aload_n (pc1 := 125) (tk (n := 4) t162_1 rfl) rfl rfl rfl ?_
    refine s_getf (pc1 := 128) (c := 11) (t1 := 2) (tk (n := 5) t162_1 rfl) rfl rfl (by decide) rfl rfl ?_
    refine s_getf (pc1 := 131) (c := 0) (t1 := 0) (tk (n := 6) t162_1 rfl) rfl rfl (by decide) rfl rfl ?_
    exact s_ret (tk (n := 7) t162_1 rfl) rfl rfl rfl
  refine s_swC (p1 := 132) rfl ?_ ?_
  · refine s_aload_n (pc1 := 133) (tk (n := 8) t162_1 rfl) rfl rfl rfl ?_
    refine s_getf (pc1 := 136) (c := 11) (t1 := 0) (tk (n := 9) t162_1 rfl) rfl rfl (by decide) rfl rfl ?_
    exact s_ret (tk (n := 10) t162_1 rfl) rfl rfl rfl
  refine s_swC (p1 := 137) rfl ?_ ?_
  · refine s_aload_n (pc1 := 138) (tk (n := 11) t162_1 rfl) rfl rfl rfl ?_
    refine s_getf (pc1 := 141) (c := 11) (t1 := 2) (tk (n := 12) t162_1 rfl) rfl rfl (by decide) rfl rfl ?_
    refine s_call0 (as := [(2, h.2 x0 5)]) (st1 := []) (p1 := 144) (M2 := 50) (tk (n := 13) t162_1 rfl) rfl rfl rfl rfl rfl (fun r5 => ?_)
    exact s_ret (tk (n := 14) t162_1 rfl) rfl rfl rfl
  refine s_swN (d1 := 145) rfl ?_
  refine s_iconst (pc1 := 146) (tk (n := 15) t162_1 rfl) rfl rfl  ?_
  exact s_ret (tk (n := 16) t162_1 rfl) rfl rfl rfl
set_option maxRecDepth 100000 in
set_option maxHeartbeats 4000000 in
theorem e_X11_takes (x0 : Int) (x1 : Int) (h : Hq) : vm 163 [(0, x0), (0, x1)] h = if x0 ≠ 8 then (if x0 ≠ 9 then (if x0 > 7 then (some (some (0, 0), h)) else (if x1 ≤ 0 then (some (some (0, 0), h)) else (if x1 ≥ 9 then (some (some (0, 0), h)) else ((vm 43 [(0, w32 (x1 - 1)), (0, x0)] h).bind (fun r19 => if (vx r19) = 0 then (some (some (0, 0), r19.2)) else (some (some (0, 1), r19.2))))))) else (if x1 = 0 then (some (some (0, 1), h)) else (if x1 ≠ 10 then (some (some (0, 0), h)) else (some (some (0, 1), h))))) else (if x1 = 0 then (some (some (0, 1), h)) else (if x1 ≠ 9 then (some (some (0, 0), h)) else (some (some (0, 1), h)))) := by
  show vp 163 0 [(0, x0), (0, x1)] [] h = _
  refine s_iload_n (pc1 := 1) (tk (n := 0) t163_0 rfl) rfl rfl rfl ?_
  refine s_bipush (pc1 := 3) (tk (n := 1) t163_0 rfl) rfl rfl  ?_
  refine s_ic_ne (pc1 := 6) (pt := 22) (tk (n := 2) t163_0 rfl) rfl rfl rfl ?_ ?_
  · refine s_iload_n (pc1 := 23) (tk (n := 12) t163_0 rfl) rfl rfl rfl ?_
    refine s_bipush (pc1 := 25) (tk (n := 13) t163_0 rfl) rfl rfl  ?_
    refine s_ic_ne (pc1 := 28) (pt := 44) (tk (n := 14) t163_0 rfl) rfl rfl rfl ?_ ?_
    · refine s_iload_n (pc1 := 45) (tk (n := 24) t163_0 rfl) rfl rfl rfl ?_
      refine s_bipush (pc1 := 47) (tk (n := 25) t163_0 rfl) rfl rfl  ?_
      refine s_ic_gt (pc1 := 50) (pt := 74) (tk (n := 26) t163_0 rfl) rfl rfl rfl ?_ ?_
      · refine s_iconst (pc1 := 75) (tk (n := 10) t163_1 rfl) rfl rfl  ?_
        exact s_retY (tk (n := 11) t163_1 rfl) rfl rfl rfl (by decide)
      · refine s_iload_n (pc1 := 51) (tk (n := 27) t163_0 rfl) rfl rfl rfl ?_
        refine s_if_le (pc1 := 54) (pt := 74) (tk (n := 28) t163_0 rfl) rfl rfl rfl ?_ ?_
        · refine s_iconst (pc1 := 75) (tk (n := 10) t163_1 rfl) rfl rfl  ?_
          exact s_retY (tk (n := 11) t163_1 rfl) rfl rfl rfl (by decide)
        · refine s_iload_n (pc1 := 55) (tk (n := 29) t163_0 rfl) rfl rfl rfl ?_
          refine s_bipush (pc1 := 57) (tk (n := 0) t163_1 rfl) rfl rfl  ?_
          refine s_ic_ge (pc1 := 60) (pt := 74) (tk (n := 1) t163_1 rfl) rfl rfl rfl ?_ ?_
          · refine s_iconst (pc1 := 75) (tk (n := 10) t163_1 rfl) rfl rfl  ?_
            exact s_retY (tk (n := 11) t163_1 rfl) rfl rfl rfl (by decide)
          · refine s_iload_n (pc1 := 61) (tk (n := 2) t163_1 rfl) rfl rfl rfl ?_
            refine s_iconst (pc1 := 62) (tk (n := 3) t163_1 rfl) rfl rfl  ?_
            refine s_isub (pc1 := 63) (tk (n := 4) t163_1 rfl) rfl rfl  ?_
            refine s_iload_n (pc1 := 64) (tk (n := 5) t163_1 rfl) rfl rfl rfl ?_
            refine s_callS0 (as := [(0, w32 (x1 - 1)), (0, x0)]) (st1 := []) (p1 := 67) (M2 := 43) (tk (n := 6) t163_1 rfl) rfl rfl rfl rfl rfl (fun r19 => ?_)
            refine s_if_eq (pc1 := 70) (pt := 74) (tk (n := 7) t163_1 rfl) rfl rfl rfl ?_ ?_
            · refine s_iconst (pc1 := 75) (tk (n := 10) t163_1 rfl) rfl rfl  ?_
              exact s_retY (tk (n := 11) t163_1 rfl) rfl rfl rfl (by decide)
            · refine s_iconst (pc1 := 71) (tk (n := 8) t163_1 rfl) rfl rfl  ?_
              refine s_goto (pc1 := 75) (tk (n := 9) t163_1 rfl) rfl rfl ?_
              exact s_retY (tk (n := 11) t163_1 rfl) rfl rfl rfl (by decide)
    · refine s_iload_n (pc1 := 29) (tk (n := 15) t163_0 rfl) rfl rfl rfl ?_
      refine s_if_eq (pc1 := 32) (pt := 38) (tk (n := 16) t163_0 rfl) rfl rfl rfl ?_ ?_
      · refine s_iconst (pc1 := 39) (tk (n := 20) t163_0 rfl) rfl rfl  ?_
        refine s_goto (pc1 := 43) (tk (n := 21) t163_0 rfl) rfl rfl ?_
        exact s_retY (tk (n := 23) t163_0 rfl) rfl rfl rfl (by decide)
      · refine s_iload_n (pc1 := 33) (tk (n := 17) t163_0 rfl) rfl rfl rfl ?_
        refine s_bipush (pc1 := 35) (tk (n := 18) t163_0 rfl) rfl rfl  ?_
        refine s_ic_ne (pc1 := 38) (pt := 42) (tk (n := 19) t163_0 rfl) rfl rfl rfl ?_ ?_
        · refine s_iconst (pc1 := 43) (tk (n := 22) t163_0 rfl) rfl rfl  ?_
          exact s_retY (tk (n := 23) t163_0 rfl) rfl rfl rfl (by decide)
        · refine s_iconst (pc1 := 39) (tk (n := 20) t163_0 rfl) rfl rfl  ?_
          refine s_goto (pc1 := 43) (tk (n := 21) t163_0 rfl) rfl rfl ?_
          exact s_retY (tk (n := 23) t163_0 rfl) rfl rfl rfl (by decide)
  · refine s_iload_n (pc1 := 7) (tk (n := 3) t163_0 rfl) rfl rfl rfl ?_
    refine s_if_eq (pc1 := 10) (pt := 16) (tk (n := 4) t163_0 rfl) rfl rfl rfl ?_ ?_
    · refine s_iconst (pc1 := 17) (tk (n := 8) t163_0 rfl) rfl rfl  ?_
      refine s_goto (pc1 := 21) (tk (n := 9) t163_0 rfl) rfl rfl ?_
      exact s_retY (tk (n := 11) t163_0 rfl) rfl rfl rfl (by decide)
    · refine s_iload_n (pc1 := 11) (tk (n := 5) t163_0 rfl) rfl rfl rfl ?_
      refine s_bipush (pc1 := 13) (tk (n := 6) t163_0 rfl) rfl rfl  ?_
      refine s_ic_ne (pc1 := 16) (pt := 20) (tk (n := 7) t163_0 rfl) rfl rfl rfl ?_ ?_
      · refine s_iconst (pc1 := 21) (tk (n := 10) t163_0 rfl) rfl rfl  ?_
        exact s_retY (tk (n := 11) t163_0 rfl) rfl rfl rfl (by decide)
      · refine s_iconst (pc1 := 17) (tk (n := 8) t163_0 rfl) rfl rfl  ?_
        refine s_goto (pc1 := 21) (tk (n := 9) t163_0 rfl) rfl rfl ?_
        exact s_retY (tk (n := 11) t163_0 rfl) rfl rfl rfl (by decide)
set_option maxRecDepth 100000 in
set_option maxHeartbeats 4000000 in
theorem e_X12_init (x0 : Int) (h : Hq) : vm 164 [(2, x0)] h = if 0 < x0 then if (kd h.1).1 = 20 ∧ (kd h.1).2 = (900 : Int) ∧ 0 ≤ (900 : Int) ∧ (900 : Int) ≤ 1000000 then if (0 < x0 ∧ (kd x0).1 = 12) ∧ True then if (0 < x0 ∧ (kd x0).1 = 12) ∧ True then if (0 < x0 ∧ (kd x0).1 = 12) ∧ True then if (kd (h.1 + 1)).1 = 20 ∧ (kd (h.1 + 1)).2 = (10 : Int) ∧ 0 ≤ (10 : Int) ∧ (10 : Int) ≤ 1000000 then if (0 < x0 ∧ (kd x0).1 = 12) ∧ True then if (kd ((h.1 + 1) + 1)).1 = 23 ∧ (kd ((h.1 + 1) + 1)).2 = (12 : Int) ∧ 0 ≤ (12 : Int) ∧ (12 : Int) ≤ 1000000 then if (0 < x0 ∧ (kd x0).1 = 12) ∧ True then if (kd (((h.1 + 1) + 1) + 1)).1 = 23 ∧ (kd (((h.1 + 1) + 1) + 1)).2 = (8 : Int) ∧ 0 ≤ (8 : Int) ∧ (8 : Int) ≤ 1000000 then if (0 < x0 ∧ (kd x0).1 = 12) ∧ True then if (kd ((((h.1 + 1) + 1) + 1) + 1)).1 = 20 ∧ (kd ((((h.1 + 1) + 1) + 1) + 1)).2 = (12 : Int) ∧ 0 ≤ (12 : Int) ∧ (12 : Int) ≤ 1000000 then if (0 < x0 ∧ (kd x0).1 = 12) ∧ True then if (kd (((((h.1 + 1) + 1) + 1) + 1) + 1)).1 = 20 ∧ (kd (((((h.1 + 1) + 1) + 1) + 1) + 1)).2 = (12 : Int) ∧ 0 ≤ (12 : Int) ∧ (12 : Int) ≤ 1000000 then if (0 < x0 ∧ (kd x0).1 = 12) ∧ True then if (kd ((((((h.1 + 1) + 1) + 1) + 1) + 1) + 1)).1 = 20 ∧ (kd ((((((h.1 + 1) + 1) + 1) + 1) + 1) + 1)).2 = (56 : Int) ∧ 0 ≤ (56 : Int) ∧ (56 : Int) ≤ 1000000 then if (0 < x0 ∧ (kd x0).1 = 12) ∧ True then if (kd (((((((h.1 + 1) + 1) + 1) + 1) + 1) + 1) + 1)).1 = 20 ∧ (kd (((((((h.1 + 1) + 1) + 1) + 1) + 1) + 1) + 1)).2 = (320 : Int) ∧ 0 ≤ (320 : Int) ∧ (320 : Int) ≤ 1000000 then if (0 < x0 ∧ (kd x0).1 = 12) ∧ True then if (kd ((((((((h.1 + 1) + 1) + 1) + 1) + 1) + 1) + 1) + 1)).1 = 20 ∧ (kd ((((((((h.1 + 1) + 1) + 1) + 1) + 1) + 1) + 1) + 1)).2 = (2400 : Int) ∧ 0 ≤ (2400 : Int) ∧ (2400 : Int) ≤ 1000000 then if (0 < x0 ∧ (kd x0).1 = 12) ∧ True then if (kd (((((((((h.1 + 1) + 1) + 1) + 1) + 1) + 1) + 1) + 1) + 1)).1 = 20 ∧ (kd (((((((((h.1 + 1) + 1) + 1) + 1) + 1) + 1) + 1) + 1) + 1)).2 = (2400 : Int) ∧ 0 ≤ (2400 : Int) ∧ (2400 : Int) ≤ 1000000 then if (0 < x0 ∧ (kd x0).1 = 12) ∧ True then if (kd ((((((((((h.1 + 1) + 1) + 1) + 1) + 1) + 1) + 1) + 1) + 1) + 1)).1 = 20 ∧ (kd ((((((((((h.1 + 1) + 1) + 1) + 1) + 1) + 1) + 1) + 1) + 1) + 1)).2 = (48000 : Int) ∧ 0 ≤ (48000 : Int) ∧ (48000 : Int) ≤ 1000000 then if (0 < x0 ∧ (kd x0).1 = 12) ∧ True then if (kd (((((((((((h.1 + 1) + 1) + 1) + 1) + 1) + 1) + 1) + 1) + 1) + 1) + 1)).1 = 20 ∧ (kd (((((((((((h.1 + 1) + 1) + 1) + 1) + 1) + 1) + 1) + 1) + 1) + 1) + 1)).2 = (48000 : Int) ∧ 0 ≤ (48000 : Int) ∧ (48000 : Int) ≤ 1000000 then if (0 < x0 ∧ (kd x0).1 = 12) ∧ True then if (kd ((((((((((((h.1 + 1) + 1) + 1) + 1) + 1) + 1) + 1) + 1) + 1) + 1) + 1) + 1)).1 = 20 ∧ (kd ((((((((((((h.1 + 1) + 1) + 1) + 1) + 1) + 1) + 1) + 1) + 1) + 1) + 1) + 1)).2 = (2400 : Int) ∧ 0 ≤ (2400 : Int) ∧ (2400 : Int) ≤ 1000000 then if (0 < x0 ∧ (kd x0).1 = 12) ∧ True then if (kd (((((((((((((h.1 + 1) + 1) + 1) + 1) + 1) + 1) + 1) + 1) + 1) + 1) + 1) + 1) + 1)).1 = 20 ∧ (kd (((((((((((((h.1 + 1) + 1) + 1) + 1) + 1) + 1) + 1) + 1) + 1) + 1) + 1) + 1) + 1)).2 = (2400 : Int) ∧ 0 ≤ (2400 : Int) ∧ (2400 : Int) ≤ 1000000 then if (0 < x0 ∧ (kd x0).1 = 12) ∧ True then if (0 < x0 ∧ (kd x0).1 = 12) ∧ True then if (kd ((((((((((((((h.1 + 1) + 1) + 1) + 1) + 1) + 1) + 1) + 1) + 1) + 1) + 1) + 1) + 1) + 1)).1 = 20 ∧ (kd ((((((((((((((h.1 + 1) + 1) + 1) + 1) + 1) + 1) + 1) + 1) + 1) + 1) + 1) + 1) + 1) + 1)).2 = (64 : Int) ∧ 0 ≤ (64 : Int) ∧ (64 : Int) ≤ 1000000 then if (0 < x0 ∧ (kd x0).1 = 12) ∧ True then if (kd (((((((((((((((h.1 + 1) + 1) + 1) + 1) + 1) + 1) + 1) + 1) + 1) + 1) + 1) + 1) + 1) + 1) + 1)).1 = 20 ∧ (kd (((((((((((((((h.1 + 1) + 1) + 1) + 1) + 1) + 1) + 1) + 1) + 1) + 1) + 1) + 1) + 1) + 1) + 1)).2 = (64 : Int) ∧ 0 ≤ (64 : Int) ∧ (64 : Int) ≤ 1000000 then if (0 < x0 ∧ (kd x0).1 = 12) ∧ True then if (kd ((((((((((((((((h.1 + 1) + 1) + 1) + 1) + 1) + 1) + 1) + 1) + 1) + 1) + 1) + 1) + 1) + 1) + 1) + 1)).1 = 20 ∧ (kd ((((((((((((((((h.1 + 1) + 1) + 1) + 1) + 1) + 1) + 1) + 1) + 1) + 1) + 1) + 1) + 1) + 1) + 1) + 1)).2 = (2400 : Int) ∧ 0 ≤ (2400 : Int) ∧ (2400 : Int) ≤ 1000000 then if (0 < x0 ∧ (kd x0).1 = 12) ∧ True then if (kd (((((((((((((((((h.1 + 1) + 1) + 1) + 1) + 1) + 1) + 1) + 1) + 1) + 1) + 1) + 1) + 1) + 1) + 1) + 1) + 1)).1 = 20 ∧ (kd (((((((((((((((((h.1 + 1) + 1) + 1) + 1) + 1) + 1) + 1) + 1) + 1) + 1) + 1) + 1) + 1) + 1) + 1) + 1) + 1)).2 = (4800 : Int) ∧ 0 ≤ (4800 : Int) ∧ (4800 : Int) ≤ 1000000 then if (0 < x0 ∧ (kd x0).1 = 12) ∧ True then if (kd ((((((((((((((((((h.1 + 1) + 1) + 1) + 1) + 1) + 1) + 1) + 1) + 1) + 1) + 1) + 1) + 1) + 1) + 1) + 1) + 1) + 1)).1 = 20 ∧ (kd ((((((((((((((((((h.1 + 1) + 1) + 1) + 1) + 1) + 1) + 1) + 1) + 1) + 1) + 1) + 1) + 1) + 1) + 1) + 1) + 1) + 1)).2 = (4800 : Int) ∧ 0 ≤ (4800 : Int) ∧ (4800 : Int) ≤ 1000000 then if (0 < x0 ∧ (kd x0).1 = 12) ∧ True then if (kd (((((((((((((((((((h.1 + 1) + 1) + 1) + 1) + 1) + 1) + 1) + 1) + 1) + 1) + 1) + 1) + 1) + 1) + 1) + 1) + 1) + 1) + 1)).1 = 22 ∧ (kd (((((((((((((((((((h.1 + 1) + 1) + 1) + 1) + 1) + 1) + 1) + 1) + 1) + 1) + 1) + 1) + 1) + 1) + 1) + 1) + 1) + 1) + 1)).2 = (2 : Int) ∧ 0 ≤ (2 : Int) ∧ (2 : Int) ≤ 1000000 then if (0 < x0 ∧ (kd x0).1 = 12) ∧ True then if 0 < x0 ∧ (kd x0).1 = 12 then (vm 191 [(2, x0)] ((((((((((((((((((((h.1 + 1) + 1) + 1) + 1) + 1) + 1) + 1) + 1) + 1) + 1) + 1) + 1) + 1) + 1) + 1) + 1) + 1) + 1) + 1) + 1, stm (stm (stm (stm (stm (stm (stm (stm (stm (stm (stm (stm (stm (stm (stm (stm (stm (stm (stm (stm (stm (stm (stm h.2 x0 0 h.1) x0 9 (-1)) x0 11 (-1)) x0 13 (h.1 + 1)) x0 14 ((h.1 + 1) + 1)) x0 15 (((h.1 + 1) + 1) + 1)) x0 16 ((((h.1 + 1) + 1) + 1) + 1)) x0 17 (((((h.1 + 1) + 1) + 1) + 1) + 1)) x0 18 ((((((h.1 + 1) + 1) + 1) + 1) + 1) + 1)) x0 19 (((((((h.1 + 1) + 1) + 1) + 1) + 1) + 1) + 1)) x0 22 ((((((((h.1 + 1) + 1) + 1) + 1) + 1) + 1) + 1) + 1)) x0 23 (((((((((h.1 + 1) + 1) + 1) + 1) + 1) + 1) + 1) + 1) + 1)) x0 24 ((((((((((h.1 + 1) + 1) + 1) + 1) + 1) + 1) + 1) + 1) + 1) + 1)) x0 25 (((((((((((h.1 + 1) + 1) + 1) + 1) + 1) + 1) + 1) + 1) + 1) + 1) + 1)) x0 27 ((((((((((((h.1 + 1) + 1) + 1) + 1) + 1) + 1) + 1) + 1) + 1) + 1) + 1) + 1)) x0 28 (((((((((((((h.1 + 1) + 1) + 1) + 1) + 1) + 1) + 1) + 1) + 1) + 1) + 1) + 1) + 1)) x0 30 (-1)) x0 31 ((((((((((((((h.1 + 1) + 1) + 1) + 1) + 1) + 1) + 1) + 1) + 1) + 1) + 1) + 1) + 1) + 1)) x0 32 (((((((((((((((h.1 + 1) + 1) + 1) + 1) + 1) + 1) + 1) + 1) + 1) + 1) + 1) + 1) + 1) + 1) + 1)) x0 33 ((((((((((((((((h.1 + 1) + 1) + 1) + 1) + 1) + 1) + 1) + 1) + 1) + 1) + 1) + 1) + 1) + 1) + 1) + 1)) x0 37 (((((((((((((((((h.1 + 1) + 1) + 1) + 1) + 1) + 1) + 1) + 1) + 1) + 1) + 1) + 1) + 1) + 1) + 1) + 1) + 1)) x0 38 ((((((((((((((((((h.1 + 1) + 1) + 1) + 1) + 1) + 1) + 1) + 1) + 1) + 1) + 1) + 1) + 1) + 1) + 1) + 1) + 1) + 1)) x0 39 (((((((((((((((((((h.1 + 1) + 1) + 1) + 1) + 1) + 1) + 1) + 1) + 1) + 1) + 1) + 1) + 1) + 1) + 1) + 1) + 1) + 1) + 1))).bind (fun r93 => if 0 < x0 ∧ (kd x0).1 = 12 then (vm 204 [(2, x0)] r93.2).bind (fun r95 => some (none, r95.2)) else none) else none else none else none else none else none else none else none else none else none else none else none else none else none else none else none else none else none else none else none else none else none else none else none else none else none else none else none else none else none else none else none else none else none else none else none else none else none else none else none else none else none else none else none else none else none := by
  show vp 164 0 [(2, x0)] [] h = _
  refine s_aload_n (pc1 := 1) (tk (n := 0) t164_0 rfl) rfl rfl rfl ?_
  refine s_oini (pc1 := 4) (tk (n := 1) t164_0 rfl) rfl rfl rfl ?_
  refine s_aload_n (pc1 := 5) (tk (n := 2) t164_0 rfl) rfl rfl rfl ?_
  refine s_sipush (pc1 := 8) (tk (n := 3) t164_0 rfl) rfl rfl  ?_
  refine s_newa (pc1 := 10) (c := 20) (tk (n := 4) t164_0 rfl) rfl rfl rfl ?_
  refine s_putf2 (pc1 := 13) (c := 12) (tk (n := 5) t164_0 rfl) rfl rfl rfl rfl rfl ?_
  refine s_aload_n (pc1 := 14) (tk (n := 6) t164_0 rfl) rfl rfl rfl ?_
  refine s_iconst (pc1 := 15) (tk (n := 7) t164_0 rfl) rfl rfl  ?_
  refine s_putf0 (pc1 := 18) (c := 12) (tk (n := 8) t164_0 rfl) rfl rfl rfl rfl rfl ?_
  refine s_aload_n (pc1 := 19) (tk (n := 9) t164_0 rfl) rfl rfl rfl ?_
  refine s_iconst (pc1 := 20) (tk (n := 10) t164_0 rfl) rfl rfl  ?_
  refine s_putf0 (pc1 := 23) (c := 12) (tk (n := 11) t164_0 rfl) rfl rfl rfl rfl rfl ?_
  refine s_aload_n (pc1 := 24) (tk (n := 12) t164_0 rfl) rfl rfl rfl ?_
  refine s_bipush (pc1 := 26) (tk (n := 13) t164_0 rfl) rfl rfl  ?_
  refine s_newa (pc1 := 28) (c := 20) (tk (n := 14) t164_0 rfl) rfl rfl rfl ?_
  refine s_putf2 (pc1 := 31) (c := 12) (tk (n := 15) t164_0 rfl) rfl rfl rfl rfl rfl ?_
  refine s_aload_n (pc1 := 32) (tk (n := 16) t164_0 rfl) rfl rfl rfl ?_
  refine s_bipush (pc1 := 34) (tk (n := 17) t164_0 rfl) rfl rfl  ?_
  refine s_newa (pc1 := 36) (c := 23) (tk (n := 18) t164_0 rfl) rfl rfl rfl ?_
  refine s_putf2 (pc1 := 39) (c := 12) (tk (n := 19) t164_0 rfl) rfl rfl rfl rfl rfl ?_
  refine s_aload_n (pc1 := 40) (tk (n := 20) t164_0 rfl) rfl rfl rfl ?_
  refine s_bipush (pc1 := 42) (tk (n := 21) t164_0 rfl) rfl rfl  ?_
  refine s_newa (pc1 := 44) (c := 23) (tk (n := 22) t164_0 rfl) rfl rfl rfl ?_
  refine s_putf2 (pc1 := 47) (c := 12) (tk (n := 23) t164_0 rfl) rfl rfl rfl rfl rfl ?_
  refine s_aload_n (pc1 := 48) (tk (n := 24) t164_0 rfl) rfl rfl rfl ?_
  refine s_bipush (pc1 := 50) (tk (n := 25) t164_0 rfl) rfl rfl  ?_
  refine s_newa (pc1 := 52) (c := 20) (tk (n := 26) t164_0 rfl) rfl rfl rfl ?_
  refine s_putf2 (pc1 := 55) (c := 12) (tk (n := 27) t164_0 rfl) rfl rfl rfl rfl rfl ?_
  refine s_aload_n (pc1 := 56) (tk (n := 28) t164_0 rfl) rfl rfl rfl ?_
  refine s_bipush (pc1 := 58) (tk (n := 29) t164_0 rfl) rfl rfl  ?_
  refine s_newa (pc1 := 60) (c := 20) (tk (n := 0) t164_1 rfl) rfl rfl rfl ?_
  refine s_putf2 (pc1 := 63) (c := 12) (tk (n := 1) t164_1 rfl) rfl rfl rfl rfl rfl ?_
  refine s_aload_n (pc1 := 64) (tk (n := 2) t164_1 rfl) rfl rfl rfl ?_
  refine s_bipush (pc1 := 66) (tk (n := 3) t164_1 rfl) rfl rfl  ?_
  refine s_newa (pc1 := 68) (c := 20) (tk (n := 4) t164_1 rfl) rfl rfl rfl ?_
  refine s_putf2 (pc1 := 71) (c := 12) (tk (n := 5) t164_1 rfl) rfl rfl rfl rfl rfl ?_
  refine s_aload_n (pc1 := 72) (tk (n := 6) t164_1 rfl) rfl rfl rfl ?_
  refine s_sipush (pc1 := 75) (tk (n := 7) t164_1 rfl) rfl rfl  ?_
  refine s_newa (pc1 := 77) (c := 20) (tk (n := 8) t164_1 rfl) rfl rfl rfl ?_
  refine s_putf2 (pc1 := 80) (c := 12) (tk (n := 9) t164_1 rfl) rfl rfl rfl rfl rfl ?_
  refine s_aload_n (pc1 := 81) (tk (n := 10) t164_1 rfl) rfl rfl rfl ?_
  refine s_sipush (pc1 := 84) (tk (n := 11) t164_1 rfl) rfl rfl  ?_
  refine s_newa (pc1 := 86) (c := 20) (tk (n := 12) t164_1 rfl) rfl rfl rfl ?_
  refine s_putf2 (pc1 := 89) (c := 12) (tk (n := 13) t164_1 rfl) rfl rfl rfl rfl rfl ?_
  refine s_aload_n (pc1 := 90) (tk (n := 14) t164_1 rfl) rfl rfl rfl ?_
  refine s_sipush (pc1 := 93) (tk (n := 15) t164_1 rfl) rfl rfl  ?_
  refine s_newa (pc1 := 95) (c := 20) (tk (n := 16) t164_1 rfl) rfl rfl rfl ?_
  refine s_putf2 (pc1 := 98) (c := 12) (tk (n := 17) t164_1 rfl) rfl rfl rfl rfl rfl ?_
  refine s_aload_n (pc1 := 99) (tk (n := 18) t164_1 rfl) rfl rfl rfl ?_
  refine s_ldc (pc1 := 101) (tk (n := 19) t164_1 rfl) rfl rfl  ?_
  refine s_newa (pc1 := 103) (c := 20) (tk (n := 20) t164_1 rfl) rfl rfl rfl ?_
  refine s_putf2 (pc1 := 106) (c := 12) (tk (n := 21) t164_1 rfl) rfl rfl rfl rfl rfl ?_
  refine s_aload_n (pc1 := 107) (tk (n := 22) t164_1 rfl) rfl rfl rfl ?_
  refine s_ldc (pc1 := 109) (tk (n := 23) t164_1 rfl) rfl rfl  ?_
  refine s_newa (pc1 := 111) (c := 20) (tk (n := 24) t164_1 rfl) rfl rfl rfl ?_
  refine s_putf2 (pc1 := 114) (c := 12) (tk (n := 25) t164_1 rfl) rfl rfl rfl rfl rfl ?_
  refine s_aload_n (pc1 := 115) (tk (n := 26) t164_1 rfl) rfl rfl rfl ?_
  refine s_sipush (pc1 := 118) (tk (n := 27) t164_1 rfl) rfl rfl  ?_
  refine s_newa (pc1 := 120) (c := 20) (tk (n := 28) t164_1 rfl) rfl rfl rfl ?_
  refine s_putf2 (pc1 := 123) (c := 12) (tk (n := 29) t164_1 rfl) rfl rfl rfl rfl rfl ?_
  refine s_aload_n (pc1 := 124) (tk (n := 0) t164_2 rfl) rfl rfl rfl ?_
  refine s_sipush (pc1 := 127) (tk (n := 1) t164_2 rfl) rfl rfl  ?_
  refine s_newa (pc1 := 129) (c := 20) (tk (n := 2) t164_2 rfl) rfl rfl rfl ?_
  refine s_putf2 (pc1 := 132) (c := 12) (tk (n := 3) t164_2 rfl) rfl rfl rfl rfl rfl ?_
  refine s_aload_n (pc1 := 133) (tk (n := 4) t164_2 rfl) rfl rfl rfl ?_
  refine s_iconst (pc1 := 134) (tk (n := 5) t164_2 rfl) rfl rfl  ?_
  refine s_putf0 (pc1 := 137) (c := 12) (tk (n := 6) t164_2 rfl) rfl rfl rfl rfl rfl ?_
  refine s_aload_n (pc1 := 138) (tk (n := 7) t164_2 rfl) rfl rfl rfl ?_
  refine s_bipush (pc1 := 140) (tk (n := 8) t164_2 rfl) rfl rfl  ?_
  refine s_newa (pc1 := 142) (c := 20) (tk (n := 9) t164_2 rfl) rfl rfl rfl ?_
  refine s_putf2 (pc1 := 145) (c := 12) (tk (n := 10) t164_2 rfl) rfl rfl rfl rfl rfl ?_
  refine s_aload_n (pc1 := 146) (tk (n := 11) t164_2 rfl) rfl rfl rfl ?_
  refine s_bipush (pc1 := 148) (tk (n := 12) t164_2 rfl) rfl rfl  ?_
  refine s_newa (pc1 := 150) (c := 20) (tk (n := 13) t164_2 rfl) rfl rfl rfl ?_
  refine s_putf2 (pc1 := 153) (c := 12) (tk (n := 14) t164_2 rfl) rfl rfl rfl rfl rfl ?_
  refine s_aload_n (pc1 := 154) (tk (n := 15) t164_2 rfl) rfl rfl rfl ?_
  refine s_sipush (pc1 := 157) (tk (n := 16) t164_2 rfl) rfl rfl  ?_
  refine s_newa (pc1 := 159) (c := 20) (tk (n := 17) t164_2 rfl) rfl rfl rfl ?_
  refine s_putf2 (pc1 := 162) (c := 12) (tk (n := 18) t164_2 rfl) rfl rfl rfl rfl rfl ?_
  refine s_aload_n (pc1 := 163) (tk (n := 19) t164_2 rfl) rfl rfl rfl ?_
  refine s_sipush (pc1 := 166) (tk (n := 20) t164_2 rfl) rfl rfl  ?_
  refine s_newa (pc1 := 168) (c := 20) (tk (n := 21) t164_2 rfl) rfl rfl rfl ?_
  refine s_putf2 (pc1 := 171) (c := 12) (tk (n := 22) t164_2 rfl) rfl rfl rfl rfl rfl ?_
  refine s_aload_n (pc1 := 172) (tk (n := 23) t164_2 rfl) rfl rfl rfl ?_
  refine s_sipush (pc1 := 175) (tk (n := 24) t164_2 rfl) rfl rfl  ?_
  refine s_newa (pc1 := 177) (c := 20) (tk (n := 25) t164_2 rfl) rfl rfl rfl ?_
  refine s_putf2 (pc1 := 180) (c := 12) (tk (n := 26) t164_2 rfl) rfl rfl rfl rfl rfl ?_
  refine s_aload_n (pc1 := 181) (tk (n := 27) t164_2 rfl) rfl rfl rfl ?_
  refine s_iconst (pc1 := 182) (tk (n := 28) t164_2 rfl) rfl rfl  ?_
  refine s_newa (pc1 := 184) (c := 22) (tk (n := 29) t164_2 rfl) rfl rfl rfl ?_
  refine s_putf2 (pc1 := 187) (c := 12) (tk (n := 0) t164_3 rfl) rfl rfl rfl rfl rfl ?_
  refine s_aload_n (pc1 := 188) (tk (n := 1) t164_3 rfl) rfl rfl rfl ?_
  refine s_call9 (as := [(2, x0)]) (st1 := []) (p1 := 191) (M2 := 191) (tk (n := 2) t164_3 rfl) rfl rfl rfl rfl rfl (fun r93 => ?_)
  refine s_aload_n (pc1 := 192) (tk (n := 3) t164_3 rfl) rfl rfl rfl ?_
  refine s_call9 (as := [(2, x0)]) (st1 := []) (p1 := 195) (M2 := 204) (tk (n := 4) t164_3 rfl) rfl rfl rfl rfl rfl (fun r95 => ?_)
  exact s_ret (tk (n := 5) t164_3 rfl) rfl rfl rfl
set_option maxRecDepth 100000 in
set_option maxHeartbeats 4000000 in
theorem e_X12_isIn (x0 : Int) (x1 : Int) (x2 : Int) (h : Hq) : vm 165 [(0, x0), (0, x1), (0, x2)] h = if x0 < x1 then (some (some (0, 0), h)) else (if x0 > x2 then (some (some (0, 0), h)) else (some (some (0, 1), h))) := by
  show vp 165 0 [(0, x0), (0, x1), (0, x2)] [] h = _
  refine s_iload_n (pc1 := 1) (tk (n := 0) t165_0 rfl) rfl rfl rfl ?_
  refine s_iload_n (pc1 := 2) (tk (n := 1) t165_0 rfl) rfl rfl rfl ?_
  refine s_ic_lt (pc1 := 5) (pt := 14) (tk (n := 2) t165_0 rfl) rfl rfl rfl ?_ ?_
  · refine s_iconst (pc1 := 15) (tk (n := 8) t165_0 rfl) rfl rfl  ?_
    exact s_retY (tk (n := 9) t165_0 rfl) rfl rfl rfl (by decide)
  · refine s_iload_n (pc1 := 6) (tk (n := 3) t165_0 rfl) rfl rfl rfl ?_
    refine s_iload_n (pc1 := 7) (tk (n := 4) t165_0 rfl) rfl rfl rfl ?_
    refine s_ic_gt (pc1 := 10) (pt := 14) (tk (n := 5) t165_0 rfl) rfl rfl rfl ?_ ?_
    · refine s_iconst (pc1 := 15) (tk (n := 8) t165_0 rfl) rfl rfl  ?_
      exact s_retY (tk (n := 9) t165_0 rfl) rfl rfl rfl (by decide)
    · refine s_iconst (pc1 := 11) (tk (n := 6) t165_0 rfl) rfl rfl  ?_
      refine s_goto (pc1 := 15) (tk (n := 7) t165_0 rfl) rfl rfl ?_
      exact s_retY (tk (n := 9) t165_0 rfl) rfl rfl rfl (by decide)
set_option maxRecDepth 100000 in
set_option maxHeartbeats 4000000 in
theorem e_X12_greater (x0 : Int) (x1 : Int) (h : Hq) : vm 166 [(0, x0), (0, x1)] h = if x0 ≤ x1 then (some (some (0, x1), h)) else (some (some (0, x0), h)) := by
  show vp 166 0 [(0, x0), (0, x1)] [] h = _
  refine s_iload_n (pc1 := 1) (tk (n := 0) t166_0 rfl) rfl rfl rfl ?_
  refine s_iload_n (pc1 := 2) (tk (n := 1) t166_0 rfl) rfl rfl rfl ?_
  refine s_ic_le (pc1 := 5) (pt := 9) (tk (n := 2) t166_0 rfl) rfl rfl rfl ?_ ?_
  · refine s_iload_n (pc1 := 10) (tk (n := 5) t166_0 rfl) rfl rfl rfl ?_
    exact s_ret (tk (n := 6) t166_0 rfl) rfl rfl rfl
  · refine s_iload_n (pc1 := 6) (tk (n := 3) t166_0 rfl) rfl rfl rfl ?_
    refine s_goto (pc1 := 10) (tk (n := 4) t166_0 rfl) rfl rfl ?_
    exact s_ret (tk (n := 6) t166_0 rfl) rfl rfl rfl
set_option maxRecDepth 100000 in
set_option maxHeartbeats 4000000 in
theorem e_X12_lesser (x0 : Int) (x1 : Int) (h : Hq) : vm 167 [(0, x0), (0, x1)] h = if x0 ≥ x1 then (some (some (0, x1), h)) else (some (some (0, x0), h)) := by
  show vp 167 0 [(0, x0), (0, x1)] [] h = _
  refine s_iload_n (pc1 := 1) (tk (n := 0) t167_0 rfl) rfl rfl rfl ?_
  refine s_iload_n (pc1 := 2) (tk (n := 1) t167_0 rfl) rfl rfl rfl ?_
  refine s_ic_ge (pc1 := 5) (pt := 9) (tk (n := 2) t167_0 rfl) rfl rfl rfl ?_ ?_
  · refine s_iload_n (pc1 := 10) (tk (n := 5) t167_0 rfl) rfl rfl rfl ?_
    exact s_ret (tk (n := 6) t167_0 rfl) rfl rfl rfl
  · refine s_iload_n (pc1 := 6) (tk (n := 3) t167_0 rfl) rfl rfl rfl ?_
    refine s_goto (pc1 := 10) (tk (n := 4) t167_0 rfl) rfl rfl ?_
    exact s_ret (tk (n := 6) t167_0 rfl) rfl rfl rfl
set_option maxRecDepth 100000 in
set_option maxHeartbeats 4000000 in
theorem e_X12_truth (x0 : Int) (h : Hq) : vm 168 [(0, x0)] h = if x0 = 0 then (some (some (0, 0), h)) else (some (some (0, 1), h)) := by
  show vp 168 0 [(0, x0)] [] h = _
  refine s_iload_n (pc1 := 1) (tk (n := 0) t168_0 rfl) rfl rfl rfl ?_
  refine s_if_eq (pc1 := 4) (pt := 8) (tk (n := 1) t168_0 rfl) rfl rfl rfl ?_ ?_
  · refine s_iconst (pc1 := 9) (tk (n := 4) t168_0 rfl) rfl rfl  ?_
    exact s_ret (tk (n := 5) t168_0 rfl) rfl rfl rfl
  · refine s_iconst (pc1 := 5) (tk (n := 2) t168_0 rfl) rfl rfl  ?_
    refine s_goto (pc1 := 9) (tk (n := 3) t168_0 rfl) rfl rfl ?_
    exact s_ret (tk (n := 5) t168_0 rfl) rfl rfl rfl
set_option maxRecDepth 100000 in
set_option maxHeartbeats 4000000 in
theorem e_X12_plus (x0 : Int) (h : Hq) : vm 169 [(0, x0)] h = if x0 ≥ 0 then (some (some (0, x0), h)) else (some (some (0, w32 (-x0)), h)) := by
  show vp 169 0 [(0, x0)] [] h = _
  refine s_iload_n (pc1 := 1) (tk (n := 0) t169_0 rfl) rfl rfl rfl ?_
  refine s_if_ge (pc1 := 4) (pt := 9) (tk (n := 1) t169_0 rfl) rfl rfl rfl ?_ ?_
  · refine s_iload_n (pc1 := 10) (tk (n := 5) t169_0 rfl) rfl rfl rfl ?_
    exact s_ret (tk (n := 6) t169_0 rfl) rfl rfl rfl
  · refine s_iload_n (pc1 := 5) (tk (n := 2) t169_0 rfl) rfl rfl rfl ?_
    refine s_ineg (pc1 := 6) (tk (n := 3) t169_0 rfl) rfl rfl  ?_
    refine s_goto (pc1 := 10) (tk (n := 4) t169_0 rfl) rfl rfl ?_
    exact s_ret (tk (n := 6) t169_0 rfl) rfl rfl rfl
set_option maxRecDepth 100000 in
set_option maxHeartbeats 4000000 in
theorem e_X12_down (x0 : Int) (x1 : Int) (h : Hq) : vm 170 [(0, x0), (0, x1)] h = if x0 < 0 then (if x1 ≠ 0 then some (some (0, w32 (-(w32 ((w32 ((w32 (x1 - 1)) - x0)).tdiv x1)))), h) else none) else (if x1 ≠ 0 then some (some (0, w32 (x0.tdiv x1)), h) else none) := by
  show vp 170 0 [(0, x0), (0, x1)] [] h = _
  refine s_iload_n (pc1 := 1) (tk (n := 0) t170_0 rfl) rfl rfl rfl ?_
  refine s_if_lt (pc1 := 4) (pt := 10) (tk (n := 1) t170_0 rfl) rfl rfl rfl ?_ ?_
  · refine s_iload_n (pc1 := 11) (tk (n := 6) t170_0 rfl) rfl rfl rfl ?_
    refine s_iconst (pc1 := 12) (tk (n := 7) t170_0 rfl) rfl rfl  ?_
    refine s_isub (pc1 := 13) (tk (n := 8) t170_0 rfl) rfl rfl  ?_
    refine s_iload_n (pc1 := 14) (tk (n := 9) t170_0 rfl) rfl rfl rfl ?_
    refine s_isub (pc1 := 15) (tk (n := 10) t170_0 rfl) rfl rfl  ?_
    refine s_iload_n (pc1 := 16) (tk (n := 11) t170_0 rfl) rfl rfl rfl ?_
    refine s_idiv (pc1 := 17) (tk (n := 12) t170_0 rfl) rfl rfl  ?_
    refine s_ineg (pc1 := 18) (tk (n := 13) t170_0 rfl) rfl rfl  ?_
    exact s_ret (tk (n := 14) t170_0 rfl) rfl rfl rfl
  · refine s_iload_n (pc1 := 5) (tk (n := 2) t170_0 rfl) rfl rfl rfl ?_
    refine s_iload_n (pc1 := 6) (tk (n := 3) t170_0 rfl) rfl rfl rfl ?_
    refine s_idiv (pc1 := 7) (tk (n := 4) t170_0 rfl) rfl rfl  ?_
    refine s_goto (pc1 := 18) (tk (n := 5) t170_0 rfl) rfl rfl ?_
    exact s_ret (tk (n := 14) t170_0 rfl) rfl rfl rfl
set_option maxRecDepth 100000 in
set_option maxHeartbeats 4000000 in
theorem e_X12_up (x0 : Int) (x1 : Int) (h : Hq) : vm 171 [(0, x0), (0, x1)] h = if x1 ≠ 0 then some (some (0, w32 ((w32 ((w32 (x0 + x1)) - 1)).tdiv x1)), h) else none := by
  show vp 171 0 [(0, x0), (0, x1)] [] h = _
  refine s_iload_n (pc1 := 1) (tk (n := 0) t171_0 rfl) rfl rfl rfl ?_
  refine s_iload_n (pc1 := 2) (tk (n := 1) t171_0 rfl) rfl rfl rfl ?_
  refine s_iadd (pc1 := 3) (tk (n := 2) t171_0 rfl) rfl rfl  ?_
  refine s_iconst (pc1 := 4) (tk (n := 3) t171_0 rfl) rfl rfl  ?_
  refine s_isub (pc1 := 5) (tk (n := 4) t171_0 rfl) rfl rfl  ?_
  refine s_iload_n (pc1 := 6) (tk (n := 5) t171_0 rfl) rfl rfl rfl ?_
  refine s_idiv (pc1 := 7) (tk (n := 6) t171_0 rfl) rfl rfl  ?_
  exact s_ret (tk (n := 7) t171_0 rfl) rfl rfl rfl
set_option maxRecDepth 100000 in
set_option maxHeartbeats 4000000 in
theorem e_X12_feed (x0 : Int) (x1 : Int) (x2 : Int) (x3 : Int) (x4 : Int) (x5 : Int) (h : Hq) : vm 172 [(2, x0), (0, x1), (0, x2), (0, x3), (0, x4), (0, x5)] h = if 0 < x0 ∧ (kd x0).1 = 12 then if (w32 ((h.2 x0 1) + 20)) ≤ 900 then (if 0 < x0 ∧ (kd x0).1 = 12 then (vm 173 [(2, x0), (0, x1)] h).bind (fun r9 => if 0 < x0 ∧ (kd x0).1 = 12 then (vm 173 [(2, x0), (0, x2)] r9.2).bind (fun r12 => if 0 < x0 ∧ (kd x0).1 = 12 then (vm 173 [(2, x0), (0, x3)] r12.2).bind (fun r15 => if 0 < x0 ∧ (kd x0).1 = 12 then (vm 173 [(2, x0), (0, x4)] r15.2).bind (fun r18 => if 0 < x0 ∧ (kd x0).1 = 12 then (vm 173 [(2, x0), (0, x5)] r18.2).bind (fun r21 => if 0 < x0 ∧ (kd x0).1 = 12 then some (some (0, r21.2.2 x0 1), r21.2) else none) else none) else none) else none) else none) else none) else (some (some (0, (-1)), h)) else none := by
  show vp 172 0 [(2, x0), (0, x1), (0, x2), (0, x3), (0, x4), (0, x5)] [] h = _
  refine s_aload_n (pc1 := 1) (tk (n := 0) t172_0 rfl) rfl rfl rfl ?_
  refine s_getf (pc1 := 4) (c := 12) (t1 := 0) (tk (n := 1) t172_0 rfl) rfl rfl (by decide) rfl rfl ?_
  refine s_bipush (pc1 := 6) (tk (n := 2) t172_0 rfl) rfl rfl  ?_
  refine s_iadd (pc1 := 7) (tk (n := 3) t172_0 rfl) rfl rfl  ?_
  refine s_sipush (pc1 := 10) (tk (n := 4) t172_0 rfl) rfl rfl  ?_
  refine s_ic_le (pc1 := 13) (pt := 15) (tk (n := 5) t172_0 rfl) rfl rfl rfl ?_ ?_
  · refine s_aload_n (pc1 := 16) (tk (n := 8) t172_0 rfl) rfl rfl rfl ?_
    refine s_iload_n (pc1 := 17) (tk (n := 9) t172_0 rfl) rfl rfl rfl ?_
    refine s_call9 (as := [(2, x0), (0, x1)]) (st1 := []) (p1 := 20) (M2 := 173) (tk (n := 10) t172_0 rfl) rfl rfl rfl rfl rfl (fun r9 => ?_)
    refine s_aload_n (pc1 := 21) (tk (n := 11) t172_0 rfl) rfl rfl rfl ?_
    refine s_iload_n (pc1 := 22) (tk (n := 12) t172_0 rfl) rfl rfl rfl ?_
    refine s_call9 (as := [(2, x0), (0, x2)]) (st1 := []) (p1 := 25) (M2 := 173) (tk (n := 13) t172_0 rfl) rfl rfl rfl rfl rfl (fun r12 => ?_)
    refine s_aload_n (pc1 := 26) (tk (n := 14) t172_0 rfl) rfl rfl rfl ?_
    refine s_iload_n (pc1 := 27) (tk (n := 15) t172_0 rfl) rfl rfl rfl ?_
    refine s_call9 (as := [(2, x0), (0, x3)]) (st1 := []) (p1 := 30) (M2 := 173) (tk (n := 16) t172_0 rfl) rfl rfl rfl rfl rfl (fun r15 => ?_)
    refine s_aload_n (pc1 := 31) (tk (n := 17) t172_0 rfl) rfl rfl rfl ?_
    refine s_iload (pc1 := 33) (tk (n := 18) t172_0 rfl) rfl rfl rfl ?_
    refine s_call9 (as := [(2, x0), (0, x4)]) (st1 := []) (p1 := 36) (M2 := 173) (tk (n := 19) t172_0 rfl) rfl rfl rfl rfl rfl (fun r18 => ?_)
    refine s_aload_n (pc1 := 37) (tk (n := 20) t172_0 rfl) rfl rfl rfl ?_
    refine s_iload (pc1 := 39) (tk (n := 21) t172_0 rfl) rfl rfl rfl ?_
    refine s_call9 (as := [(2, x0), (0, x5)]) (st1 := []) (p1 := 42) (M2 := 173) (tk (n := 22) t172_0 rfl) rfl rfl rfl rfl rfl (fun r21 => ?_)
    refine s_aload_n (pc1 := 43) (tk (n := 23) t172_0 rfl) rfl rfl rfl ?_
    refine s_getf (pc1 := 46) (c := 12) (t1 := 0) (tk (n := 24) t172_0 rfl) rfl rfl (by decide) rfl rfl ?_
    exact s_ret (tk (n := 25) t172_0 rfl) rfl rfl rfl
  · refine s_iconst (pc1 := 14) (tk (n := 6) t172_0 rfl) rfl rfl  ?_
    exact s_ret (tk (n := 7) t172_0 rfl) rfl rfl rfl
set_option maxRecDepth 100000 in
set_option maxHeartbeats 4000000 in
theorem e_X12_four (x0 : Int) (x1 : Int) (h : Hq) : vm 173 [(2, x0), (0, x1)] h = vp 173 3 [(2, x0), (0, x1), (0, 24)] [] h := by
  show vp 173 0 [(2, x0), (0, x1), (9, 0)] [] h = _
  refine s_bipush (pc1 := 2) (tk (n := 0) t173_0 rfl) rfl rfl  ?_
  refine s_istore_n (pc1 := 3) (ls1 := [(2, x0), (0, x1), (0, 24)]) (tk (n := 1) t173_0 rfl) rfl rfl rfl rfl ?_
  rfl
set_option maxRecDepth 100000 in
set_option maxHeartbeats 4000000 in
theorem e_X12_four_3 (x0 : Int) (x1 : Int) (x2 : Int) (h : Hq) : vp 173 3 [(2, x0), (0, x1), (0, x2)] [] h = if x2 < 0 then (some (none, h)) else (if 0 < x0 ∧ (kd x0).1 = 12 then if 0 < x0 ∧ (kd x0).1 = 12 then if 0 < (h.2 x0 0) ∧ (kd (h.2 x0 0)).1 = 20 ∧ 0 ≤ (h.2 x0 1) ∧ (h.2 x0 1) < (kd (h.2 x0 0)).2 then if 0 < x0 ∧ (kd x0).1 = 12 then if (0 < x0 ∧ (kd x0).1 = 12) ∧ True then vp 173 3 [(2, x0), (0, x1), (0, w32 (x2 + (-8)))] [] (h.1, stm (stm h.2 (h.2 x0 0) (h.2 x0 1) (band (bshr x1 x2) 255)) x0 1 (w32 (((stm h.2 (h.2 x0 0) (h.2 x0 1) (band (bshr x1 x2) 255)) x0 1) + 1))) else none else none else none else none else none) := by
  refine s_iload_n (pc1 := 4) (tk (n := 2) t173_0 rfl) rfl rfl rfl ?_
  refine s_if_lt (pc1 := 7) (pt := 39) (tk (n := 3) t173_0 rfl) rfl rfl rfl ?_ ?_
  · exact s_ret (tk (n := 22) t173_0 rfl) rfl rfl rfl
  · refine s_aload_n (pc1 := 8) (tk (n := 4) t173_0 rfl) rfl rfl rfl ?_
    refine s_getf (pc1 := 11) (c := 12) (t1 := 2) (tk (n := 5) t173_0 rfl) rfl rfl (by decide) rfl rfl ?_
    refine s_aload_n (pc1 := 12) (tk (n := 6) t173_0 rfl) rfl rfl rfl ?_
    refine s_getf (pc1 := 15) (c := 12) (t1 := 0) (tk (n := 7) t173_0 rfl) rfl rfl (by decide) rfl rfl ?_
    refine s_iload_n (pc1 := 16) (tk (n := 8) t173_0 rfl) rfl rfl rfl ?_
    refine s_iload_n (pc1 := 17) (tk (n := 9) t173_0 rfl) rfl rfl rfl ?_
    refine s_ishr (pc1 := 18) (tk (n := 10) t173_0 rfl) rfl rfl  ?_
    refine s_sipush (pc1 := 21) (tk (n := 11) t173_0 rfl) rfl rfl  ?_
    refine s_iand (pc1 := 22) (tk (n := 12) t173_0 rfl) rfl rfl  ?_
    refine s_iast (pc1 := 23) (tk (n := 13) t173_0 rfl) rfl rfl  ?_
    refine s_aload_n (pc1 := 24) (tk (n := 14) t173_0 rfl) rfl rfl rfl ?_
    refine s_dup2 (pc1 := 25) (tk (n := 15) t173_0 rfl) rfl rfl  ?_
    refine s_getf (pc1 := 28) (c := 12) (t1 := 0) (tk (n := 16) t173_0 rfl) rfl rfl (by decide) rfl rfl ?_
    refine s_iconst (pc1 := 29) (tk (n := 17) t173_0 rfl) rfl rfl  ?_
    refine s_iadd (pc1 := 30) (tk (n := 18) t173_0 rfl) rfl rfl  ?_
    refine s_putf0 (pc1 := 33) (c := 12) (tk (n := 19) t173_0 rfl) rfl rfl rfl rfl rfl ?_
    refine s_iinc (pc1 := 36) (ls1 := [(2, x0), (0, x1), (0, w32 (x2 + (-8)))]) (tk (n := 20) t173_0 rfl) rfl rfl rfl rfl ?_
    refine s_goto (pc1 := 3) (tk (n := 21) t173_0 rfl) rfl rfl ?_
    rfl
set_option maxRecDepth 100000 in
set_option maxHeartbeats 4000000 in
theorem e_X12_end (x0 : Int) (x1 : Int) (h : Hq) : vm 174 [(2, x0), (0, x1)] h = if 0 < x0 ∧ (kd x0).1 = 12 then (vm 165 [(0, x1), (0, 0), (0, h.2 x0 1)] h).bind (fun r5 => if (vx r5) ≠ 0 then (if (0 < x0 ∧ (kd x0).1 = 12) ∧ True then some (some (0, x1), (r5.2.1, stm r5.2.2 x0 1 x1)) else none) else (some (some (0, (-1)), r5.2))) else none := by
  show vp 174 0 [(2, x0), (0, x1)] [] h = _
  refine s_iload_n (pc1 := 1) (tk (n := 0) t174_0 rfl) rfl rfl rfl ?_
  refine s_iconst (pc1 := 2) (tk (n := 1) t174_0 rfl) rfl rfl  ?_
  refine s_aload_n (pc1 := 3) (tk (n := 2) t174_0 rfl) rfl rfl rfl ?_
  refine s_getf (pc1 := 6) (c := 12) (t1 := 0) (tk (n := 3) t174_0 rfl) rfl rfl (by decide) rfl rfl ?_
  refine s_callS0 (as := [(0, x1), (0, 0), (0, h.2 x0 1)]) (st1 := []) (p1 := 9) (M2 := 165) (tk (n := 4) t174_0 rfl) rfl rfl rfl rfl rfl (fun r5 => ?_)
  refine s_if_ne (pc1 := 12) (pt := 14) (tk (n := 5) t174_0 rfl) rfl rfl rfl ?_ ?_
  · refine s_aload_n (pc1 := 15) (tk (n := 8) t174_0 rfl) rfl rfl rfl ?_
    refine s_iload_n (pc1 := 16) (tk (n := 9) t174_0 rfl) rfl rfl rfl ?_
    refine s_putf0 (pc1 := 19) (c := 12) (tk (n := 10) t174_0 rfl) rfl rfl rfl rfl rfl ?_
    refine s_iload_n (pc1 := 20) (tk (n := 11) t174_0 rfl) rfl rfl rfl ?_
    exact s_ret (tk (n := 12) t174_0 rfl) rfl rfl rfl
  · refine s_iconst (pc1 := 13) (tk (n := 6) t174_0 rfl) rfl rfl  ?_
    exact s_ret (tk (n := 7) t174_0 rfl) rfl rfl rfl
set_option maxRecDepth 100000 in
set_option maxHeartbeats 4000000 in
theorem e_X12_here (x0 : Int) (x1 : Int) (h : Hq) : vm 175 [(2, x0), (0, x1)] h = if 0 < x0 ∧ (kd x0).1 = 12 then if 0 < x0 ∧ (kd x0).1 = 12 then if (w32 ((h.2 x0 3) + x1)) ≥ (h.2 x0 2) then (some (some (0, (-1)), h)) else (if 0 < x0 ∧ (kd x0).1 = 12 then if 0 < x0 ∧ (kd x0).1 = 12 then if (kd (h.2 x0 0)).1 = 20 ∧ 0 ≤ (w32 ((h.2 x0 3) + x1)) ∧ (w32 ((h.2 x0 3) + x1)) < (kd (h.2 x0 0)).2 then some (some (0, h.2 (h.2 x0 0) (w32 ((h.2 x0 3) + x1))), h) else none else none else none) else none else none := by
  show vp 175 0 [(2, x0), (0, x1)] [] h = _
  refine s_aload_n (pc1 := 1) (tk (n := 0) t175_0 rfl) rfl rfl rfl ?_
  refine s_getf (pc1 := 4) (c := 12) (t1 := 0) (tk (n := 1) t175_0 rfl) rfl rfl (by decide) rfl rfl ?_
  refine s_iload_n (pc1 := 5) (tk (n := 2) t175_0 rfl) rfl rfl rfl ?_
  refine s_iadd (pc1 := 6) (tk (n := 3) t175_0 rfl) rfl rfl  ?_
  refine s_aload_n (pc1 := 7) (tk (n := 4) t175_0 rfl) rfl rfl rfl ?_
  refine s_getf (pc1 := 10) (c := 12) (t1 := 0) (tk (n := 5) t175_0 rfl) rfl rfl (by decide) rfl rfl ?_
  refine s_ic_ge (pc1 := 13) (pt := 27) (tk (n := 6) t175_0 rfl) rfl rfl rfl ?_ ?_
  · refine s_iconst (pc1 := 28) (tk (n := 15) t175_0 rfl) rfl rfl  ?_
    exact s_ret (tk (n := 16) t175_0 rfl) rfl rfl rfl
  · refine s_aload_n (pc1 := 14) (tk (n := 7) t175_0 rfl) rfl rfl rfl ?_
    refine s_getf (pc1 := 17) (c := 12) (t1 := 2) (tk (n := 8) t175_0 rfl) rfl rfl (by decide) rfl rfl ?_
    refine s_aload_n (pc1 := 18) (tk (n := 9) t175_0 rfl) rfl rfl rfl ?_
    refine s_getf (pc1 := 21) (c := 12) (t1 := 0) (tk (n := 10) t175_0 rfl) rfl rfl (by decide) rfl rfl ?_
    refine s_iload_n (pc1 := 22) (tk (n := 11) t175_0 rfl) rfl rfl rfl ?_
    refine s_iadd (pc1 := 23) (tk (n := 12) t175_0 rfl) rfl rfl  ?_
    refine s_iald (pc1 := 24) (tk (n := 13) t175_0 rfl) rfl rfl  ?_
    refine s_goto (pc1 := 28) (tk (n := 14) t175_0 rfl) rfl rfl ?_
    exact s_ret (tk (n := 16) t175_0 rfl) rfl rfl rfl
set_option maxRecDepth 100000 in
set_option maxHeartbeats 4000000 in
theorem e_X12_isLetter (x0 : Int) (h : Hq) : vm 176 [(0, x0)] h = if x0 < 97 then (some (some (0, 0), h)) else (if x0 > 122 then (some (some (0, 0), h)) else (some (some (0, 1), h))) := by
  show vp 176 0 [(0, x0)] [] h = _
  refine s_iload_n (pc1 := 1) (tk (n := 0) t176_0 rfl) rfl rfl rfl ?_
  refine s_bipush (pc1 := 3) (tk (n := 1) t176_0 rfl) rfl rfl  ?_
  refine s_ic_lt (pc1 := 6) (pt := 16) (tk (n := 2) t176_0 rfl) rfl rfl rfl ?_ ?_
  · refine s_iconst (pc1 := 17) (tk (n := 8) t176_0 rfl) rfl rfl  ?_
    exact s_retY (tk (n := 9) t176_0 rfl) rfl rfl rfl (by decide)
  · refine s_iload_n (pc1 := 7) (tk (n := 3) t176_0 rfl) rfl rfl rfl ?_
    refine s_bipush (pc1 := 9) (tk (n := 4) t176_0 rfl) rfl rfl  ?_
    refine s_ic_gt (pc1 := 12) (pt := 16) (tk (n := 5) t176_0 rfl) rfl rfl rfl ?_ ?_
    · refine s_iconst (pc1 := 17) (tk (n := 8) t176_0 rfl) rfl rfl  ?_
      exact s_retY (tk (n := 9) t176_0 rfl) rfl rfl rfl (by decide)
    · refine s_iconst (pc1 := 13) (tk (n := 6) t176_0 rfl) rfl rfl  ?_
      refine s_goto (pc1 := 17) (tk (n := 7) t176_0 rfl) rfl rfl ?_
      exact s_retY (tk (n := 9) t176_0 rfl) rfl rfl rfl (by decide)
set_option maxRecDepth 100000 in
set_option maxHeartbeats 4000000 in
theorem e_X12_isDigit (x0 : Int) (h : Hq) : vm 177 [(0, x0)] h = if x0 < 48 then (some (some (0, 0), h)) else (if x0 > 57 then (some (some (0, 0), h)) else (some (some (0, 1), h))) := by
  show vp 177 0 [(0, x0)] [] h = _
  refine s_iload_n (pc1 := 1) (tk (n := 0) t177_0 rfl) rfl rfl rfl ?_
  refine s_bipush (pc1 := 3) (tk (n := 1) t177_0 rfl) rfl rfl  ?_
  refine s_ic_lt (pc1 := 6) (pt := 16) (tk (n := 2) t177_0 rfl) rfl rfl rfl ?_ ?_
  · refine s_iconst (pc1 := 17) (tk (n := 8) t177_0 rfl) rfl rfl  ?_
    exact s_retY (tk (n := 9) t177_0 rfl) rfl rfl rfl (by decide)
  · refine s_iload_n (pc1 := 7) (tk (n := 3) t177_0 rfl) rfl rfl rfl ?_
    refine s_bipush (pc1 := 9) (tk (n := 4) t177_0 rfl) rfl rfl  ?_
    refine s_ic_gt (pc1 := 12) (pt := 16) (tk (n := 5) t177_0 rfl) rfl rfl rfl ?_ ?_
    · refine s_iconst (pc1 := 17) (tk (n := 8) t177_0 rfl) rfl rfl  ?_
      exact s_retY (tk (n := 9) t177_0 rfl) rfl rfl rfl (by decide)
    · refine s_iconst (pc1 := 13) (tk (n := 6) t177_0 rfl) rfl rfl  ?_
      refine s_goto (pc1 := 17) (tk (n := 7) t177_0 rfl) rfl rfl ?_
      exact s_retY (tk (n := 9) t177_0 rfl) rfl rfl rfl (by decide)
theorem e_X12_goOn (x0 : Int) (h : Hq) : vm 178 [(2, x0)] h = vp 178 0 [(2, x0), (9, 0)] [] h := rfl
set_option maxRecDepth 100000 in
set_option maxHeartbeats 4000000 in
theorem e_X12_goOn_0 (x0 : Int) (z1 : Vl) (h : Hq) : vp 178 0 [(2, x0), z1] [] h = if 0 < x0 ∧ (kd x0).1 = 12 then (vm 175 [(2, x0), (0, 0)] h).bind (fun r3 => if (vx r3) = 32 then (if 0 < x0 ∧ (kd x0).1 = 12 then if (0 < x0 ∧ (kd x0).1 = 12) ∧ True then vp 178 0 [(2, x0), (9, 0)] [] (r3.2.1, stm r3.2.2 x0 3 (w32 ((r3.2.2 x0 3) + 1))) else none else none) else (if 0 < x0 ∧ (kd x0).1 = 12 then (vm 175 [(2, x0), (0, 0)] r3.2).bind (fun r8 => if (vx r8) ≠ 10 then (if 0 < x0 ∧ (kd x0).1 = 12 then if (0 < x0 ∧ (kd x0).1 = 12) ∧ True then if (0 < x0 ∧ (kd x0).1 = 12) ∧ True then if (0 < x0 ∧ (kd x0).1 = 12) ∧ True then if 0 < x0 ∧ (kd x0).1 = 12 then (vm 175 [(2, x0), (0, 0)] (r8.2.1, stm (stm (stm r8.2.2 x0 4 (r8.2.2 x0 3)) x0 12 0) x0 6 0)).bind (fun r25 => if (vx r25) ≥ 0 then (if 0 < x0 ∧ (kd x0).1 = 12 then (vm 175 [(2, x0), (0, 0)] r25.2).bind (fun r29 => (vm 176 [(0, vx r29)] r29.2).bind (fun r30 => if (vx r30) = 0 then (if 0 < x0 ∧ (kd x0).1 = 12 then (vm 175 [(2, x0), (0, 0)] r30.2).bind (fun r34 => (vm 177 [(0, vx r34)] r34.2).bind (fun r35 => if (vx r35) = 0 then (if 0 < x0 ∧ (kd x0).1 = 12 then (vm 175 [(2, x0), (0, 0)] r35.2).bind (fun r40 => if (vx r40) ≠ 59 then (if (0 < x0 ∧ (kd x0).1 = 12) ∧ True then if 0 < x0 ∧ (kd x0).1 = 12 then if (0 < x0 ∧ (kd x0).1 = 12) ∧ True then some (none, (r40.2.1, stm (stm r40.2.2 x0 5 4) x0 3 (w32 (((stm r40.2.2 x0 5 4) x0 3) + 1)))) else none else none else none) else (if (0 < x0 ∧ (kd x0).1 = 12) ∧ True then if 0 < x0 ∧ (kd x0).1 = 12 then if (0 < x0 ∧ (kd x0).1 = 12) ∧ True then some (none, (r40.2.1, stm (stm r40.2.2 x0 5 3) x0 3 (w32 (((stm r40.2.2 x0 5 3) x0 3) + 1)))) else none else none else none)) else none) else (vp 178 153 [(2, x0), (0, 0)] [] r35.2))) else none) else (vp 178 78 [(2, x0), (0, 0)] [] r30.2))) else none) else (if (0 < x0 ∧ (kd x0).1 = 12) ∧ True then some (none, (r25.2.1, stm r25.2.2 x0 5 0)) else none)) else none else none else none else none else none) else (if 0 < x0 ∧ (kd x0).1 = 12 then if (0 < x0 ∧ (kd x0).1 = 12) ∧ True then vp 178 0 [(2, x0), (9, 0)] [] (r8.2.1, stm r8.2.2 x0 3 (w32 ((r8.2.2 x0 3) + 1))) else none else none)) else none)) else none := by
  refine s_fg (ls1 := [(2, x0), (9, 0)]) (tk (n := 0) t178_0 rfl) rfl ?_
  refine s_aload_n (pc1 := 1) (tk (n := 0) t178_0 rfl) rfl rfl rfl ?_
  refine s_iconst (pc1 := 2) (tk (n := 1) t178_0 rfl) rfl rfl  ?_
  refine s_call0 (as := [(2, x0), (0, 0)]) (st1 := []) (p1 := 5) (M2 := 175) (tk (n := 2) t178_0 rfl) rfl rfl rfl rfl rfl (fun r3 => ?_)
  refine s_bipush (pc1 := 7) (tk (n := 3) t178_0 rfl) rfl rfl  ?_
  refine s_ic_eq (pc1 := 10) (pt := 20) (tk (n := 4) t178_0 rfl) rfl rfl rfl ?_ ?_
  · refine s_aload_n (pc1 := 21) (tk (n := 10) t178_0 rfl) rfl rfl rfl ?_
    refine s_dup2 (pc1 := 22) (tk (n := 11) t178_0 rfl) rfl rfl  ?_
    refine s_getf (pc1 := 25) (c := 12) (t1 := 0) (tk (n := 12) t178_0 rfl) rfl rfl (by decide) rfl rfl ?_
    refine s_iconst (pc1 := 26) (tk (n := 13) t178_0 rfl) rfl rfl  ?_
    refine s_iadd (pc1 := 27) (tk (n := 14) t178_0 rfl) rfl rfl  ?_
    refine s_putf0 (pc1 := 30) (c := 12) (tk (n := 15) t178_0 rfl) rfl rfl rfl rfl rfl ?_
    refine s_goto (pc1 := 0) (tk (n := 16) t178_0 rfl) rfl rfl ?_
    rfl
  · refine s_aload_n (pc1 := 11) (tk (n := 5) t178_0 rfl) rfl rfl rfl ?_
    refine s_iconst (pc1 := 12) (tk (n := 6) t178_0 rfl) rfl rfl  ?_
    refine s_call0 (as := [(2, x0), (0, 0)]) (st1 := []) (p1 := 15) (M2 := 175) (tk (n := 7) t178_0 rfl) rfl rfl rfl rfl rfl (fun r8 => ?_)
    refine s_bipush (pc1 := 17) (tk (n := 8) t178_0 rfl) rfl rfl  ?_
    refine s_ic_ne (pc1 := 20) (pt := 33) (tk (n := 9) t178_0 rfl) rfl rfl rfl ?_ ?_
    · refine s_aload_n (pc1 := 34) (tk (n := 17) t178_0 rfl) rfl rfl rfl ?_
      refine s_aload_n (pc1 := 35) (tk (n := 18) t178_0 rfl) rfl rfl rfl ?_
      refine s_getf (pc1 := 38) (c := 12) (t1 := 0) (tk (n := 19) t178_0 rfl) rfl rfl (by decide) rfl rfl ?_
      refine s_putf0 (pc1 := 41) (c := 12) (tk (n := 20) t178_0 rfl) rfl rfl rfl rfl rfl ?_
      refine s_iconst (pc1 := 42) (tk (n := 21) t178_0 rfl) rfl rfl  ?_
      refine s_istore_n (pc1 := 43) (ls1 := [(2, x0), (0, 0)]) (tk (n := 22) t178_0 rfl) rfl rfl rfl rfl ?_
      refine s_aload_n (pc1 := 44) (tk (n := 23) t178_0 rfl) rfl rfl rfl ?_
      refine s_lconst (pc1 := 45) (v := 0) (tk (n := 24) t178_0 rfl) rfl rfl rfl ?_
      refine s_putf1 (pc1 := 48) (c := 12) (tk (n := 25) t178_0 rfl) rfl rfl rfl rfl rfl ?_
      refine s_aload_n (pc1 := 49) (tk (n := 26) t178_0 rfl) rfl rfl rfl ?_
      refine s_iconst (pc1 := 50) (tk (n := 27) t178_0 rfl) rfl rfl  ?_
      refine s_putf0 (pc1 := 53) (c := 12) (tk (n := 28) t178_0 rfl) rfl rfl rfl rfl rfl ?_
      refine s_aload_n (pc1 := 54) (tk (n := 29) t178_0 rfl) rfl rfl rfl ?_
      refine s_iconst (pc1 := 55) (tk (n := 0) t178_1 rfl) rfl rfl  ?_
      refine s_call0 (as := [(2, x0), (0, 0)]) (st1 := []) (p1 := 58) (M2 := 175) (tk (n := 1) t178_1 rfl) rfl rfl rfl rfl rfl (fun r25 => ?_)
      refine s_if_ge (pc1 := 61) (pt := 67) (tk (n := 2) t178_1 rfl) rfl rfl rfl ?_ ?_
      · refine s_aload_n (pc1 := 68) (tk (n := 7) t178_1 rfl) rfl rfl rfl ?_
        refine s_iconst (pc1 := 69) (tk (n := 8) t178_1 rfl) rfl rfl  ?_
        refine s_call0 (as := [(2, x0), (0, 0)]) (st1 := []) (p1 := 72) (M2 := 175) (tk (n := 9) t178_1 rfl) rfl rfl rfl rfl rfl (fun r29 => ?_)
        refine s_callS0 (as := [(0, vx r29)]) (st1 := []) (p1 := 75) (M2 := 176) (tk (n := 10) t178_1 rfl) rfl rfl rfl rfl rfl (fun r30 => ?_)
        refine s_if_eq (pc1 := 78) (pt := 142) (tk (n := 11) t178_1 rfl) rfl rfl rfl ?_ ?_
        · refine s_aload_n (pc1 := 143) (tk (n := 15) t178_2 rfl) rfl rfl rfl ?_
          refine s_iconst (pc1 := 144) (tk (n := 16) t178_2 rfl) rfl rfl  ?_
          refine s_call0 (as := [(2, x0), (0, 0)]) (st1 := []) (p1 := 147) (M2 := 175) (tk (n := 17) t178_2 rfl) rfl rfl rfl rfl rfl (fun r34 => ?_)
          refine s_callS0 (as := [(0, vx r34)]) (st1 := []) (p1 := 150) (M2 := 177) (tk (n := 18) t178_2 rfl) rfl rfl rfl rfl rfl (fun r35 => ?_)
          refine s_if_eq (pc1 := 153) (pt := 223) (tk (n := 19) t178_2 rfl) rfl rfl rfl ?_ ?_
          · refine s_aload_n (pc1 := 224) (tk (n := 26) t178_3 rfl) rfl rfl rfl ?_
            refine s_aload_n (pc1 := 225) (tk (n := 27) t178_3 rfl) rfl rfl rfl ?_
            refine s_iconst (pc1 := 226) (tk (n := 28) t178_3 rfl) rfl rfl  ?_
            refine s_call0 (as := [(2, x0), (0, 0)]) (st1 := [(2, x0)]) (p1 := 229) (M2 := 175) (tk (n := 29) t178_3 rfl) rfl rfl rfl rfl rfl (fun r40 => ?_)
            refine s_bipush (pc1 := 231) (tk (n := 0) t178_4 rfl) rfl rfl  ?_
            refine s_ic_ne (pc1 := 234) (pt := 238) (tk (n := 1) t178_4 rfl) rfl rfl rfl ?_ ?_
            · refine s_iconst (pc1 := 239) (tk (n := 4) t178_4 rfl) rfl rfl  ?_
              refine s_putf0 (pc1 := 242) (c := 12) (tk (n := 5) t178_4 rfl) rfl rfl rfl rfl rfl ?_
              refine s_iconst (pc1 := 243) (tk (n := 6) t178_4 rfl) rfl rfl  ?_
              refine s_istore_n (pc1 := 244) (ls1 := [(2, x0), (0, 1)]) (tk (n := 7) t178_4 rfl) rfl rfl rfl rfl ?_
              refine s_aload_n (pc1 := 245) (tk (n := 8) t178_4 rfl) rfl rfl rfl ?_
              refine s_dup2 (pc1 := 246) (tk (n := 9) t178_4 rfl) rfl rfl  ?_
              refine s_getf (pc1 := 249) (c := 12) (t1 := 0) (tk (n := 10) t178_4 rfl) rfl rfl (by decide) rfl rfl ?_
              refine s_iload_n (pc1 := 250) (tk (n := 11) t178_4 rfl) rfl rfl rfl ?_
              refine s_iadd (pc1 := 251) (tk (n := 12) t178_4 rfl) rfl rfl  ?_
              refine s_putf0 (pc1 := 254) (c := 12) (tk (n := 13) t178_4 rfl) rfl rfl rfl rfl rfl ?_
              exact s_ret (tk (n := 14) t178_4 rfl) rfl rfl rfl
            · refine s_iconst (pc1 := 235) (tk (n := 2) t178_4 rfl) rfl rfl  ?_
              refine s_goto (pc1 := 239) (tk (n := 3) t178_4 rfl) rfl rfl ?_
              refine s_putf0 (pc1 := 242) (c := 12) (tk (n := 5) t178_4 rfl) rfl rfl rfl rfl rfl ?_
              refine s_iconst (pc1 := 243) (tk (n := 6) t178_4 rfl) rfl rfl  ?_
              refine s_istore_n (pc1 := 244) (ls1 := [(2, x0), (0, 1)]) (tk (n := 7) t178_4 rfl) rfl rfl rfl rfl ?_
              refine s_aload_n (pc1 := 245) (tk (n := 8) t178_4 rfl) rfl rfl rfl ?_
              refine s_dup2 (pc1 := 246) (tk (n := 9) t178_4 rfl) rfl rfl  ?_
              refine s_getf (pc1 := 249) (c := 12) (t1 := 0) (tk (n := 10) t178_4 rfl) rfl rfl (by decide) rfl rfl ?_
              refine s_iload_n (pc1 := 250) (tk (n := 11) t178_4 rfl) rfl rfl rfl ?_
              refine s_iadd (pc1 := 251) (tk (n := 12) t178_4 rfl) rfl rfl  ?_
              refine s_putf0 (pc1 := 254) (c := 12) (tk (n := 13) t178_4 rfl) rfl rfl rfl rfl rfl ?_
              exact s_ret (tk (n := 14) t178_4 rfl) rfl rfl rfl
          · rfl
        · rfl
      · refine s_aload_n (pc1 := 62) (tk (n := 3) t178_1 rfl) rfl rfl rfl ?_
        refine s_iconst (pc1 := 63) (tk (n := 4) t178_1 rfl) rfl rfl  ?_
        refine s_putf0 (pc1 := 66) (c := 12) (tk (n := 5) t178_1 rfl) rfl rfl rfl rfl rfl ?_
        exact s_ret (tk (n := 6) t178_1 rfl) rfl rfl rfl
    · refine s_aload_n (pc1 := 21) (tk (n := 10) t178_0 rfl) rfl rfl rfl ?_
      refine s_dup2 (pc1 := 22) (tk (n := 11) t178_0 rfl) rfl rfl  ?_
      refine s_getf (pc1 := 25) (c := 12) (t1 := 0) (tk (n := 12) t178_0 rfl) rfl rfl (by decide) rfl rfl ?_
      refine s_iconst (pc1 := 26) (tk (n := 13) t178_0 rfl) rfl rfl  ?_
      refine s_iadd (pc1 := 27) (tk (n := 14) t178_0 rfl) rfl rfl  ?_
      refine s_putf0 (pc1 := 30) (c := 12) (tk (n := 15) t178_0 rfl) rfl rfl rfl rfl rfl ?_
      refine s_goto (pc1 := 0) (tk (n := 16) t178_0 rfl) rfl rfl ?_
      rfl
set_option maxRecDepth 100000 in
set_option maxHeartbeats 4000000 in
theorem e_X12_goOn_78 (x0 : Int) (x1 : Int) (h : Hq) : vp 178 78 [(2, x0), (0, x1)] [] h = if 0 < x0 ∧ (kd x0).1 = 12 then (vm 175 [(2, x0), (0, x1)] h).bind (fun r3 => (vm 176 [(0, vx r3)] r3.2).bind (fun r4 => if (vx r4) = 0 then (if x1 ≤ 8 then (if (0 < x0 ∧ (kd x0).1 = 12) ∧ True then if (0 < x0 ∧ (kd x0).1 = 12) ∧ True then if 0 < x0 ∧ (kd x0).1 = 12 then if (0 < x0 ∧ (kd x0).1 = 12) ∧ True then some (none, (r4.2.1, stm (stm (stm r4.2.2 x0 5 1) x0 7 x1) x0 3 (w32 (((stm (stm r4.2.2 x0 5 1) x0 7 x1) x0 3) + x1)))) else none else none else none else none) else (if (0 < x0 ∧ (kd x0).1 = 12) ∧ True then if (0 < x0 ∧ (kd x0).1 = 12) ∧ True then if 0 < x0 ∧ (kd x0).1 = 12 then if (0 < x0 ∧ (kd x0).1 = 12) ∧ True then some (none, (r4.2.1, stm (stm (stm r4.2.2 x0 5 4) x0 7 x1) x0 3 (w32 (((stm (stm r4.2.2 x0 5 4) x0 7 x1) x0 3) + x1)))) else none else none else none else none)) else (if x1 ≥ 8 then (vp 178 78 [(2, x0), (0, w32 (x1 + 1))] [] r4.2) else (if 0 < x0 ∧ (kd x0).1 = 12 then if 0 < x0 ∧ (kd x0).1 = 12 then (vm 175 [(2, x0), (0, x1)] r4.2).bind (fun r16 => if (0 < x0 ∧ (kd x0).1 = 12) ∧ True then vp 178 78 [(2, x0), (0, w32 (x1 + 1))] [] (r16.2.1, stm r16.2.2 x0 12 (lbor (lbshl (r4.2.2 x0 12) 8) (vx r16))) else none) else none else none)))) else none := by
  refine s_aload_n (pc1 := 79) (tk (n := 12) t178_1 rfl) rfl rfl rfl ?_
  refine s_iload_n (pc1 := 80) (tk (n := 13) t178_1 rfl) rfl rfl rfl ?_
  refine s_call0 (as := [(2, x0), (0, x1)]) (st1 := []) (p1 := 83) (M2 := 175) (tk (n := 14) t178_1 rfl) rfl rfl rfl rfl rfl (fun r3 => ?_)
  refine s_callS0 (as := [(0, vx r3)]) (st1 := []) (p1 := 86) (M2 := 176) (tk (n := 15) t178_1 rfl) rfl rfl rfl rfl rfl (fun r4 => ?_)
  refine s_if_eq (pc1 := 89) (pt := 119) (tk (n := 16) t178_1 rfl) rfl rfl rfl ?_ ?_
  · refine s_aload_n (pc1 := 120) (tk (n := 3) t178_2 rfl) rfl rfl rfl ?_
    refine s_iload_n (pc1 := 121) (tk (n := 4) t178_2 rfl) rfl rfl rfl ?_
    refine s_bipush (pc1 := 123) (tk (n := 5) t178_2 rfl) rfl rfl  ?_
    refine s_ic_le (pc1 := 126) (pt := 130) (tk (n := 6) t178_2 rfl) rfl rfl rfl ?_ ?_
    · refine s_iconst (pc1 := 131) (tk (n := 9) t178_2 rfl) rfl rfl  ?_
      refine s_putf0 (pc1 := 134) (c := 12) (tk (n := 10) t178_2 rfl) rfl rfl rfl rfl rfl ?_
      refine s_aload_n (pc1 := 135) (tk (n := 11) t178_2 rfl) rfl rfl rfl ?_
      refine s_iload_n (pc1 := 136) (tk (n := 12) t178_2 rfl) rfl rfl rfl ?_
      refine s_putf0 (pc1 := 139) (c := 12) (tk (n := 13) t178_2 rfl) rfl rfl rfl rfl rfl ?_
      refine s_goto (pc1 := 244) (tk (n := 14) t178_2 rfl) rfl rfl ?_
      refine s_aload_n (pc1 := 245) (tk (n := 8) t178_4 rfl) rfl rfl rfl ?_
      refine s_dup2 (pc1 := 246) (tk (n := 9) t178_4 rfl) rfl rfl  ?_
      refine s_getf (pc1 := 249) (c := 12) (t1 := 0) (tk (n := 10) t178_4 rfl) rfl rfl (by decide) rfl rfl ?_
      refine s_iload_n (pc1 := 250) (tk (n := 11) t178_4 rfl) rfl rfl rfl ?_
      refine s_iadd (pc1 := 251) (tk (n := 12) t178_4 rfl) rfl rfl  ?_
      refine s_putf0 (pc1 := 254) (c := 12) (tk (n := 13) t178_4 rfl) rfl rfl rfl rfl rfl ?_
      exact s_ret (tk (n := 14) t178_4 rfl) rfl rfl rfl
    · refine s_iconst (pc1 := 127) (tk (n := 7) t178_2 rfl) rfl rfl  ?_
      refine s_goto (pc1 := 131) (tk (n := 8) t178_2 rfl) rfl rfl ?_
      refine s_putf0 (pc1 := 134) (c := 12) (tk (n := 10) t178_2 rfl) rfl rfl rfl rfl rfl ?_
      refine s_aload_n (pc1 := 135) (tk (n := 11) t178_2 rfl) rfl rfl rfl ?_
      refine s_iload_n (pc1 := 136) (tk (n := 12) t178_2 rfl) rfl rfl rfl ?_
      refine s_putf0 (pc1 := 139) (c := 12) (tk (n := 13) t178_2 rfl) rfl rfl rfl rfl rfl ?_
      refine s_goto (pc1 := 244) (tk (n := 14) t178_2 rfl) rfl rfl ?_
      refine s_aload_n (pc1 := 245) (tk (n := 8) t178_4 rfl) rfl rfl rfl ?_
      refine s_dup2 (pc1 := 246) (tk (n := 9) t178_4 rfl) rfl rfl  ?_
      refine s_getf (pc1 := 249) (c := 12) (t1 := 0) (tk (n := 10) t178_4 rfl) rfl rfl (by decide) rfl rfl ?_
      refine s_iload_n (pc1 := 250) (tk (n := 11) t178_4 rfl) rfl rfl rfl ?_
      refine s_iadd (pc1 := 251) (tk (n := 12) t178_4 rfl) rfl rfl  ?_
      refine s_putf0 (pc1 := 254) (c := 12) (tk (n := 13) t178_4 rfl) rfl rfl rfl rfl rfl ?_
      exact s_ret (tk (n := 14) t178_4 rfl) rfl rfl rfl
  · refine s_iload_n (pc1 := 90) (tk (n := 17) t178_1 rfl) rfl rfl rfl ?_
    refine s_bipush (pc1 := 92) (tk (n := 18) t178_1 rfl) rfl rfl  ?_
    refine s_ic_ge (pc1 := 95) (pt := 113) (tk (n := 19) t178_1 rfl) rfl rfl rfl ?_ ?_
    · refine s_iinc (pc1 := 116) (ls1 := [(2, x0), (0, w32 (x1 + 1))]) (tk (n := 1) t178_2 rfl) rfl rfl rfl rfl ?_
      refine s_goto (pc1 := 78) (tk (n := 2) t178_2 rfl) rfl rfl ?_
      rfl
    · refine s_aload_n (pc1 := 96) (tk (n := 20) t178_1 rfl) rfl rfl rfl ?_
      refine s_aload_n (pc1 := 97) (tk (n := 21) t178_1 rfl) rfl rfl rfl ?_
      refine s_getf (pc1 := 100) (c := 12) (t1 := 1) (tk (n := 22) t178_1 rfl) rfl rfl (by decide) rfl rfl ?_
      refine s_bipush (pc1 := 102) (tk (n := 23) t178_1 rfl) rfl rfl  ?_
      refine s_lshl (pc1 := 103) (tk (n := 24) t178_1 rfl) rfl rfl  ?_
      refine s_aload_n (pc1 := 104) (tk (n := 25) t178_1 rfl) rfl rfl rfl ?_
      refine s_iload_n (pc1 := 105) (tk (n := 26) t178_1 rfl) rfl rfl rfl ?_
      refine s_call0 (as := [(2, x0), (0, x1)]) (st1 := [(1, lbshl (r4.2.2 x0 12) 8), (2, x0)]) (p1 := 108) (M2 := 175) (tk (n := 27) t178_1 rfl) rfl rfl rfl rfl rfl (fun r16 => ?_)
      refine s_i2l (pc1 := 109) (tk (n := 28) t178_1 rfl) rfl rfl  ?_
      refine s_lor (pc1 := 110) (tk (n := 29) t178_1 rfl) rfl rfl  ?_
      refine s_putf1 (pc1 := 113) (c := 12) (tk (n := 0) t178_2 rfl) rfl rfl rfl rfl rfl ?_
      refine s_iinc (pc1 := 116) (ls1 := [(2, x0), (0, w32 (x1 + 1))]) (tk (n := 1) t178_2 rfl) rfl rfl rfl rfl ?_
      refine s_goto (pc1 := 78) (tk (n := 2) t178_2 rfl) rfl rfl ?_
      rfl
set_option maxRecDepth 100000 in
set_option maxHeartbeats 4000000 in
theorem e_X12_goOn_153 (x0 : Int) (x1 : Int) (h : Hq) : vp 178 153 [(2, x0), (0, x1)] [] h = if 0 < x0 ∧ (kd x0).1 = 12 then (vm 175 [(2, x0), (0, x1)] h).bind (fun r3 => (vm 177 [(0, vx r3)] r3.2).bind (fun r4 => if (vx r4) = 0 then (if x1 > 4 then (if (0 < x0 ∧ (kd x0).1 = 12) ∧ True then if 0 < x0 ∧ (kd x0).1 = 12 then if (0 < x0 ∧ (kd x0).1 = 12) ∧ True then some (none, (r4.2.1, stm (stm r4.2.2 x0 5 4) x0 3 (w32 (((stm r4.2.2 x0 5 4) x0 3) + x1)))) else none else none else none) else (if 0 < x0 ∧ (kd x0).1 = 12 then (vm 175 [(2, x0), (0, x1)] r4.2).bind (fun r12 => (vm 176 [(0, vx r12)] r12.2).bind (fun r13 => if (vx r13) = 0 then (if (0 < x0 ∧ (kd x0).1 = 12) ∧ True then if 0 < x0 ∧ (kd x0).1 = 12 then if (0 < x0 ∧ (kd x0).1 = 12) ∧ True then some (none, (r13.2.1, stm (stm r13.2.2 x0 5 2) x0 3 (w32 (((stm r13.2.2 x0 5 2) x0 3) + x1)))) else none else none else none) else (if (0 < x0 ∧ (kd x0).1 = 12) ∧ True then if 0 < x0 ∧ (kd x0).1 = 12 then if (0 < x0 ∧ (kd x0).1 = 12) ∧ True then some (none, (r13.2.1, stm (stm r13.2.2 x0 5 4) x0 3 (w32 (((stm r13.2.2 x0 5 4) x0 3) + x1)))) else none else none else none))) else none)) else (if x1 ≥ 4 then (vp 178 153 [(2, x0), (0, w32 (x1 + 1))] [] r4.2) else (if 0 < x0 ∧ (kd x0).1 = 12 then if 0 < x0 ∧ (kd x0).1 = 12 then (vm 175 [(2, x0), (0, x1)] r4.2).bind (fun r16 => if (0 < x0 ∧ (kd x0).1 = 12) ∧ True then vp 178 153 [(2, x0), (0, w32 (x1 + 1))] [] (r16.2.1, stm r16.2.2 x0 6 (w32 ((w32 ((w32 (10 * (r4.2.2 x0 6))) + (vx r16))) - 48))) else none) else none else none)))) else none := by
  refine s_aload_n (pc1 := 154) (tk (n := 20) t178_2 rfl) rfl rfl rfl ?_
  refine s_iload_n (pc1 := 155) (tk (n := 21) t178_2 rfl) rfl rfl rfl ?_
  refine s_call0 (as := [(2, x0), (0, x1)]) (st1 := []) (p1 := 158) (M2 := 175) (tk (n := 22) t178_2 rfl) rfl rfl rfl rfl rfl (fun r3 => ?_)
  refine s_callS0 (as := [(0, vx r3)]) (st1 := []) (p1 := 161) (M2 := 177) (tk (n := 23) t178_2 rfl) rfl rfl rfl rfl rfl (fun r4 => ?_)
  refine s_if_eq (pc1 := 164) (pt := 195) (tk (n := 24) t178_2 rfl) rfl rfl rfl ?_ ?_
  · refine s_aload_n (pc1 := 196) (tk (n := 12) t178_3 rfl) rfl rfl rfl ?_
    refine s_iload_n (pc1 := 197) (tk (n := 13) t178_3 rfl) rfl rfl rfl ?_
    refine s_iconst (pc1 := 198) (tk (n := 14) t178_3 rfl) rfl rfl  ?_
    refine s_ic_gt (pc1 := 201) (pt := 212) (tk (n := 15) t178_3 rfl) rfl rfl rfl ?_ ?_
    · refine s_iconst (pc1 := 213) (tk (n := 21) t178_3 rfl) rfl rfl  ?_
      refine s_goto (pc1 := 217) (tk (n := 22) t178_3 rfl) rfl rfl ?_
      refine s_putf0 (pc1 := 220) (c := 12) (tk (n := 24) t178_3 rfl) rfl rfl rfl rfl rfl ?_
      refine s_goto (pc1 := 244) (tk (n := 25) t178_3 rfl) rfl rfl ?_
      refine s_aload_n (pc1 := 245) (tk (n := 8) t178_4 rfl) rfl rfl rfl ?_
      refine s_dup2 (pc1 := 246) (tk (n := 9) t178_4 rfl) rfl rfl  ?_
      refine s_getf (pc1 := 249) (c := 12) (t1 := 0) (tk (n := 10) t178_4 rfl) rfl rfl (by decide) rfl rfl ?_
      refine s_iload_n (pc1 := 250) (tk (n := 11) t178_4 rfl) rfl rfl rfl ?_
      refine s_iadd (pc1 := 251) (tk (n := 12) t178_4 rfl) rfl rfl  ?_
      refine s_putf0 (pc1 := 254) (c := 12) (tk (n := 13) t178_4 rfl) rfl rfl rfl rfl rfl ?_
      exact s_ret (tk (n := 14) t178_4 rfl) rfl rfl rfl
    · refine s_aload_n (pc1 := 202) (tk (n := 16) t178_3 rfl) rfl rfl rfl ?_
      refine s_iload_n (pc1 := 203) (tk (n := 17) t178_3 rfl) rfl rfl rfl ?_
      refine s_call0 (as := [(2, x0), (0, x1)]) (st1 := [(2, x0)]) (p1 := 206) (M2 := 175) (tk (n := 18) t178_3 rfl) rfl rfl rfl rfl rfl (fun r12 => ?_)
      refine s_callS0 (as := [(0, vx r12)]) (st1 := [(2, x0)]) (p1 := 209) (M2 := 176) (tk (n := 19) t178_3 rfl) rfl rfl rfl rfl rfl (fun r13 => ?_)
      refine s_if_eq (pc1 := 212) (pt := 216) (tk (n := 20) t178_3 rfl) rfl rfl rfl ?_ ?_
      · refine s_iconst (pc1 := 217) (tk (n := 23) t178_3 rfl) rfl rfl  ?_
        refine s_putf0 (pc1 := 220) (c := 12) (tk (n := 24) t178_3 rfl) rfl rfl rfl rfl rfl ?_
        refine s_goto (pc1 := 244) (tk (n := 25) t178_3 rfl) rfl rfl ?_
        refine s_aload_n (pc1 := 245) (tk (n := 8) t178_4 rfl) rfl rfl rfl ?_
        refine s_dup2 (pc1 := 246) (tk (n := 9) t178_4 rfl) rfl rfl  ?_
        refine s_getf (pc1 := 249) (c := 12) (t1 := 0) (tk (n := 10) t178_4 rfl) rfl rfl (by decide) rfl rfl ?_
        refine s_iload_n (pc1 := 250) (tk (n := 11) t178_4 rfl) rfl rfl rfl ?_
        refine s_iadd (pc1 := 251) (tk (n := 12) t178_4 rfl) rfl rfl  ?_
        refine s_putf0 (pc1 := 254) (c := 12) (tk (n := 13) t178_4 rfl) rfl rfl rfl rfl rfl ?_
        exact s_ret (tk (n := 14) t178_4 rfl) rfl rfl rfl
      · refine s_iconst (pc1 := 213) (tk (n := 21) t178_3 rfl) rfl rfl  ?_
        refine s_goto (pc1 := 217) (tk (n := 22) t178_3 rfl) rfl rfl ?_
        refine s_putf0 (pc1 := 220) (c := 12) (tk (n := 24) t178_3 rfl) rfl rfl rfl rfl rfl ?_
        refine s_goto (pc1 := 244) (tk (n := 25) t178_3 rfl) rfl rfl ?_
        refine s_aload_n (pc1 := 245) (tk (n := 8) t178_4 rfl) rfl rfl rfl ?_
        refine s_dup2 (pc1 := 246) (tk (n := 9) t178_4 rfl) rfl rfl  ?_
        refine s_getf (pc1 := 249) (c := 12) (t1 := 0) (tk (n := 10) t178_4 rfl) rfl rfl (by decide) rfl rfl ?_
        refine s_iload_n (pc1 := 250) (tk (n := 11) t178_4 rfl) rfl rfl rfl ?_
        refine s_iadd (pc1 := 251) (tk (n := 12) t178_4 rfl) rfl rfl  ?_
        refine s_putf0 (pc1 := 254) (c := 12) (tk (n := 13) t178_4 rfl) rfl rfl rfl rfl rfl ?_
        exact s_ret (tk (n := 14) t178_4 rfl) rfl rfl rfl
  · refine s_iload_n (pc1 := 165) (tk (n := 25) t178_2 rfl) rfl rfl rfl ?_
    refine s_iconst (pc1 := 166) (tk (n := 26) t178_2 rfl) rfl rfl  ?_
    refine s_ic_ge (pc1 := 169) (pt := 189) (tk (n := 27) t178_2 rfl) rfl rfl rfl ?_ ?_
    · refine s_iinc (pc1 := 192) (ls1 := [(2, x0), (0, w32 (x1 + 1))]) (tk (n := 10) t178_3 rfl) rfl rfl rfl rfl ?_
      refine s_goto (pc1 := 153) (tk (n := 11) t178_3 rfl) rfl rfl ?_
      rfl
    · refine s_aload_n (pc1 := 170) (tk (n := 28) t178_2 rfl) rfl rfl rfl ?_
      refine s_bipush (pc1 := 172) (tk (n := 29) t178_2 rfl) rfl rfl  ?_
      refine s_aload_n (pc1 := 173) (tk (n := 0) t178_3 rfl) rfl rfl rfl ?_
      refine s_getf (pc1 := 176) (c := 12) (t1 := 0) (tk (n := 1) t178_3 rfl) rfl rfl (by decide) rfl rfl ?_
      refine s_imul (pc1 := 177) (tk (n := 2) t178_3 rfl) rfl rfl  ?_
      refine s_aload_n (pc1 := 178) (tk (n := 3) t178_3 rfl) rfl rfl rfl ?_
      refine s_iload_n (pc1 := 179) (tk (n := 4) t178_3 rfl) rfl rfl rfl ?_
      refine s_call0 (as := [(2, x0), (0, x1)]) (st1 := [(0, w32 (10 * (r4.2.2 x0 6))), (2, x0)]) (p1 := 182) (M2 := 175) (tk (n := 5) t178_3 rfl) rfl rfl rfl rfl rfl (fun r16 => ?_)
      refine s_iadd (pc1 := 183) (tk (n := 6) t178_3 rfl) rfl rfl  ?_
      refine s_bipush (pc1 := 185) (tk (n := 7) t178_3 rfl) rfl rfl  ?_
      refine s_isub (pc1 := 186) (tk (n := 8) t178_3 rfl) rfl rfl  ?_
      refine s_putf0 (pc1 := 189) (c := 12) (tk (n := 9) t178_3 rfl) rfl rfl rfl rfl rfl ?_
      refine s_iinc (pc1 := 192) (ls1 := [(2, x0), (0, w32 (x1 + 1))]) (tk (n := 10) t178_3 rfl) rfl rfl rfl rfl ?_
      refine s_goto (pc1 := 153) (tk (n := 11) t178_3 rfl) rfl rfl ?_
      rfl
set_option maxRecDepth 100000 in
set_option maxHeartbeats 4000000 in
theorem e_X12_wrong (x0 : Int) (x1 : Int) (h : Hq) : vm 179 [(2, x0), (0, x1)] h = if 0 < x0 ∧ (kd x0).1 = 12 then if (h.2 x0 8) ≤ 0 then (if 0 < x0 ∧ (kd x0).1 = 12 then if (h.2 x0 5) ≠ 4 then (if (0 < x0 ∧ (kd x0).1 = 12) ∧ True then if 0 < x0 ∧ (kd x0).1 = 12 then if (0 < x0 ∧ (kd x0).1 = 12) ∧ True then some (none, (h.1, stm (stm h.2 x0 8 x1) x0 9 ((stm h.2 x0 8 x1) x0 4))) else none else none else none) else (if (0 < x0 ∧ (kd x0).1 = 12) ∧ True then if 0 < x0 ∧ (kd x0).1 = 12 then if (0 < x0 ∧ (kd x0).1 = 12) ∧ True then some (none, (h.1, stm (stm h.2 x0 8 1) x0 9 ((stm h.2 x0 8 1) x0 4))) else none else none else none) else none) else (some (none, h)) else none := by
  show vp 179 0 [(2, x0), (0, x1)] [] h = _
  refine s_aload_n (pc1 := 1) (tk (n := 0) t179_0 rfl) rfl rfl rfl ?_
  refine s_getf (pc1 := 4) (c := 12) (t1 := 0) (tk (n := 1) t179_0 rfl) rfl rfl (by decide) rfl rfl ?_
  refine s_if_le (pc1 := 7) (pt := 8) (tk (n := 2) t179_0 rfl) rfl rfl rfl ?_ ?_
  · refine s_aload_n (pc1 := 9) (tk (n := 4) t179_0 rfl) rfl rfl rfl ?_
    refine s_aload_n (pc1 := 10) (tk (n := 5) t179_0 rfl) rfl rfl rfl ?_
    refine s_getf (pc1 := 13) (c := 12) (t1 := 0) (tk (n := 6) t179_0 rfl) rfl rfl (by decide) rfl rfl ?_
    refine s_iconst (pc1 := 14) (tk (n := 7) t179_0 rfl) rfl rfl  ?_
    refine s_ic_ne (pc1 := 17) (pt := 21) (tk (n := 8) t179_0 rfl) rfl rfl rfl ?_ ?_
    · refine s_iload_n (pc1 := 22) (tk (n := 11) t179_0 rfl) rfl rfl rfl ?_
      refine s_putf0 (pc1 := 25) (c := 12) (tk (n := 12) t179_0 rfl) rfl rfl rfl rfl rfl ?_
      refine s_aload_n (pc1 := 26) (tk (n := 13) t179_0 rfl) rfl rfl rfl ?_
      refine s_aload_n (pc1 := 27) (tk (n := 14) t179_0 rfl) rfl rfl rfl ?_
      refine s_getf (pc1 := 30) (c := 12) (t1 := 0) (tk (n := 15) t179_0 rfl) rfl rfl (by decide) rfl rfl ?_
      refine s_putf0 (pc1 := 33) (c := 12) (tk (n := 16) t179_0 rfl) rfl rfl rfl rfl rfl ?_
      exact s_ret (tk (n := 17) t179_0 rfl) rfl rfl rfl
    · refine s_iconst (pc1 := 18) (tk (n := 9) t179_0 rfl) rfl rfl  ?_
      refine s_goto (pc1 := 22) (tk (n := 10) t179_0 rfl) rfl rfl ?_
      refine s_putf0 (pc1 := 25) (c := 12) (tk (n := 12) t179_0 rfl) rfl rfl rfl rfl rfl ?_
      refine s_aload_n (pc1 := 26) (tk (n := 13) t179_0 rfl) rfl rfl rfl ?_
      refine s_aload_n (pc1 := 27) (tk (n := 14) t179_0 rfl) rfl rfl rfl ?_
      refine s_getf (pc1 := 30) (c := 12) (t1 := 0) (tk (n := 15) t179_0 rfl) rfl rfl (by decide) rfl rfl ?_
      refine s_putf0 (pc1 := 33) (c := 12) (tk (n := 16) t179_0 rfl) rfl rfl rfl rfl rfl ?_
      exact s_ret (tk (n := 17) t179_0 rfl) rfl rfl rfl
  · exact s_ret (tk (n := 3) t179_0 rfl) rfl rfl rfl
set_option maxRecDepth 100000 in
set_option maxHeartbeats 4000000 in
theorem e_X12_isGood (x0 : Int) (h : Hq) : vm 180 [(2, x0)] h = if 0 < x0 ∧ (kd x0).1 = 12 then if (h.2 x0 8) ≠ 0 then (some (some (0, 0), h)) else (some (some (0, 1), h)) else none := by
  show vp 180 0 [(2, x0)] [] h = _
  refine s_aload_n (pc1 := 1) (tk (n := 0) t180_0 rfl) rfl rfl rfl ?_
  refine s_getf (pc1 := 4) (c := 12) (t1 := 0) (tk (n := 1) t180_0 rfl) rfl rfl (by decide) rfl rfl ?_
  refine s_if_ne (pc1 := 7) (pt := 11) (tk (n := 2) t180_0 rfl) rfl rfl rfl ?_ ?_
  · refine s_iconst (pc1 := 12) (tk (n := 5) t180_0 rfl) rfl rfl  ?_
    exact s_retY (tk (n := 6) t180_0 rfl) rfl rfl rfl (by decide)
  · refine s_iconst (pc1 := 8) (tk (n := 3) t180_0 rfl) rfl rfl  ?_
    refine s_goto (pc1 := 12) (tk (n := 4) t180_0 rfl) rfl rfl ?_
    exact s_retY (tk (n := 6) t180_0 rfl) rfl rfl rfl (by decide)
set_option maxRecDepth 100000 in
set_option maxHeartbeats 4000000 in
theorem e_X12_isWord (x0 : Int) (x1 : Int) (h : Hq) : vm 181 [(2, x0), (1, x1)] h = if 0 < x0 ∧ (kd x0).1 = 12 then if (h.2 x0 8) ≠ 0 then (some (some (0, 0), h)) else (if 0 < x0 ∧ (kd x0).1 = 12 then if (h.2 x0 5) ≠ 1 then (some (some (0, 0), h)) else (if 0 < x0 ∧ (kd x0).1 = 12 then if (if (h.2 x0 12) < x1 then -1 else if (h.2 x0 12) = x1 then 0 else 1) ≠ 0 then (some (some (0, 0), h)) else (some (some (0, 1), h)) else none) else none) else none := by
  show vp 181 0 [(2, x0), (1, x1), (9, 0)] [] h = _
  refine s_aload_n (pc1 := 1) (tk (n := 0) t181_0 rfl) rfl rfl rfl ?_
  refine s_getf (pc1 := 4) (c := 12) (t1 := 0) (tk (n := 1) t181_0 rfl) rfl rfl (by decide) rfl rfl ?_
  refine s_if_ne (pc1 := 7) (pt := 28) (tk (n := 2) t181_0 rfl) rfl rfl rfl ?_ ?_
  · refine s_iconst (pc1 := 29) (tk (n := 14) t181_0 rfl) rfl rfl  ?_
    exact s_retY (tk (n := 15) t181_0 rfl) rfl rfl rfl (by decide)
  · refine s_aload_n (pc1 := 8) (tk (n := 3) t181_0 rfl) rfl rfl rfl ?_
    refine s_getf (pc1 := 11) (c := 12) (t1 := 0) (tk (n := 4) t181_0 rfl) rfl rfl (by decide) rfl rfl ?_
    refine s_iconst (pc1 := 12) (tk (n := 5) t181_0 rfl) rfl rfl  ?_
    refine s_ic_ne (pc1 := 15) (pt := 28) (tk (n := 6) t181_0 rfl) rfl rfl rfl ?_ ?_
    · refine s_iconst (pc1 := 29) (tk (n := 14) t181_0 rfl) rfl rfl  ?_
      exact s_retY (tk (n := 15) t181_0 rfl) rfl rfl rfl (by decide)
    · refine s_aload_n (pc1 := 16) (tk (n := 7) t181_0 rfl) rfl rfl rfl ?_
      refine s_getf (pc1 := 19) (c := 12) (t1 := 1) (tk (n := 8) t181_0 rfl) rfl rfl (by decide) rfl rfl ?_
      refine s_lload_n (pc1 := 20) (tk (n := 9) t181_0 rfl) rfl rfl rfl ?_
      refine s_lcmp (pc1 := 21) (tk (n := 10) t181_0 rfl) rfl rfl  ?_
      refine s_if_ne (pc1 := 24) (pt := 28) (tk (n := 11) t181_0 rfl) rfl rfl rfl ?_ ?_
      · refine s_iconst (pc1 := 29) (tk (n := 14) t181_0 rfl) rfl rfl  ?_
        exact s_retY (tk (n := 15) t181_0 rfl) rfl rfl rfl (by decide)
      · refine s_iconst (pc1 := 25) (tk (n := 12) t181_0 rfl) rfl rfl  ?_
        refine s_goto (pc1 := 29) (tk (n := 13) t181_0 rfl) rfl rfl ?_
        exact s_retY (tk (n := 15) t181_0 rfl) rfl rfl rfl (by decide)
set_option maxRecDepth 100000 in
set_option maxHeartbeats 4000000 in
theorem e_X12_kindHere (x0 : Int) (h : Hq) : vm 182 [(2, x0)] h = if 0 < x0 ∧ (kd x0).1 = 12 then if (h.2 x0 8) > 0 then (some (some (0, (-1)), h)) else (if 0 < x0 ∧ (kd x0).1 = 12 then if (h.2 x0 5) = 1 then (if 0 < x0 ∧ (kd x0).1 = 12 then if (if (h.2 x0 12) < 1651078259 then -1 else if (h.2 x0 12) = 1651078259 then 0 else 1) ≠ 0 then (if 0 < x0 ∧ (kd x0).1 = 12 then if (if (h.2 x0 12) < 422944466291 then -1 else if (h.2 x0 12) = 422944466291 then 0 else 1) ≠ 0 then (if 0 < x0 ∧ (kd x0).1 = 12 then if (if (h.2 x0 12) < 426952979059 then -1 else if (h.2 x0 12) = 426952979059 then 0 else 1) ≠ 0 then (if 0 < x0 ∧ (kd x0).1 = 12 then if (if (h.2 x0 12) < 126892383564915 then -1 else if (h.2 x0 12) = 126892383564915 then 0 else 1) ≠ 0 then (if 0 < x0 ∧ (kd x0).1 = 12 then if (if (h.2 x0 12) < 1768846451 then -1 else if (h.2 x0 12) = 1768846451 then 0 else 1) ≠ 0 then (if 0 < x0 ∧ (kd x0).1 = 12 then if (if (h.2 x0 12) < 465725974387 then -1 else if (h.2 x0 12) = 465725974387 then 0 else 1) ≠ 0 then (if 0 < x0 ∧ (kd x0).1 = 12 then if (if (h.2 x0 12) < 112615911158899 then -1 else if (h.2 x0 12) = 112615911158899 then 0 else 1) ≠ 0 then (if 0 < x0 ∧ (kd x0).1 = 12 then if (if (h.2 x0 12) < 28270047624193395 then -1 else if (h.2 x0 12) = 28270047624193395 then 0 else 1) ≠ 0 then (if 0 < x0 ∧ (kd x0).1 = 12 then if (if (h.2 x0 12) < 127979160431731 then -1 else if (h.2 x0 12) = 127979160431731 then 0 else 1) ≠ 0 then (if 0 < x0 ∧ (kd x0).1 = 12 then if (if (h.2 x0 12) < 512970876019 then -1 else if (h.2 x0 12) = 512970876019 then 0 else 1) ≠ 0 then (some (some (0, (-1)), h)) else (some (some (0, 9), h)) else none) else (some (some (0, 8), h)) else none) else (some (some (0, 7), h)) else none) else (some (some (0, 6), h)) else none) else (some (some (0, 5), h)) else none) else (some (some (0, 4), h)) else none) else (some (some (0, 3), h)) else none) else (some (some (0, 2), h)) else none) else (some (some (0, 1), h)) else none) else (some (some (0, 0), h)) else none) else (some (some (0, (-1)), h)) else none) else none := by
  show vp 182 0 [(2, x0)] [] h = _
  refine s_aload_n (pc1 := 1) (tk (n := 0) t182_0 rfl) rfl rfl rfl ?_
  refine s_getf (pc1 := 4) (c := 12) (t1 := 0) (tk (n := 1) t182_0 rfl) rfl rfl (by decide) rfl rfl ?_
  refine s_if_gt (pc1 := 7) (pt := 15) (tk (n := 2) t182_0 rfl) rfl rfl rfl ?_ ?_
  · refine s_iconst (pc1 := 16) (tk (n := 7) t182_0 rfl) rfl rfl  ?_
    exact s_ret (tk (n := 8) t182_0 rfl) rfl rfl rfl
  · refine s_aload_n (pc1 := 8) (tk (n := 3) t182_0 rfl) rfl rfl rfl ?_
    refine s_getf (pc1 := 11) (c := 12) (t1 := 0) (tk (n := 4) t182_0 rfl) rfl rfl (by decide) rfl rfl ?_
    refine s_iconst (pc1 := 12) (tk (n := 5) t182_0 rfl) rfl rfl  ?_
    refine s_ic_eq (pc1 := 15) (pt := 17) (tk (n := 6) t182_0 rfl) rfl rfl rfl ?_ ?_
    · refine s_aload_n (pc1 := 18) (tk (n := 9) t182_0 rfl) rfl rfl rfl ?_
      refine s_getf (pc1 := 21) (c := 12) (t1 := 1) (tk (n := 10) t182_0 rfl) rfl rfl (by decide) rfl rfl ?_
      refine s_ldc2 (pc1 := 24) (tk (n := 11) t182_0 rfl) rfl rfl  ?_
      refine s_lcmp (pc1 := 25) (tk (n := 12) t182_0 rfl) rfl rfl  ?_
      refine s_if_ne (pc1 := 28) (pt := 30) (tk (n := 13) t182_0 rfl) rfl rfl rfl ?_ ?_
      · refine s_aload_n (pc1 := 31) (tk (n := 16) t182_0 rfl) rfl rfl rfl ?_
        refine s_getf (pc1 := 34) (c := 12) (t1 := 1) (tk (n := 17) t182_0 rfl) rfl rfl (by decide) rfl rfl ?_
        refine s_ldc2 (pc1 := 37) (tk (n := 18) t182_0 rfl) rfl rfl  ?_
        refine s_lcmp (pc1 := 38) (tk (n := 19) t182_0 rfl) rfl rfl  ?_
        refine s_if_ne (pc1 := 41) (pt := 43) (tk (n := 20) t182_0 rfl) rfl rfl rfl ?_ ?_
        · refine s_aload_n (pc1 := 44) (tk (n := 23) t182_0 rfl) rfl rfl rfl ?_
          refine s_getf (pc1 := 47) (c := 12) (t1 := 1) (tk (n := 24) t182_0 rfl) rfl rfl (by decide) rfl rfl ?_
          refine s_ldc2 (pc1 := 50) (tk (n := 25) t182_0 rfl) rfl rfl  ?_
          refine s_lcmp (pc1 := 51) (tk (n := 26) t182_0 rfl) rfl rfl  ?_
          refine s_if_ne (pc1 := 54) (pt := 56) (tk (n := 27) t182_0 rfl) rfl rfl rfl ?_ ?_
          · refine s_aload_n (pc1 := 57) (tk (n := 0) t182_1 rfl) rfl rfl rfl ?_
            refine s_getf (pc1 := 60) (c := 12) (t1 := 1) (tk (n := 1) t182_1 rfl) rfl rfl (by decide) rfl rfl ?_
            refine s_ldc2 (pc1 := 63) (tk (n := 2) t182_1 rfl) rfl rfl  ?_
            refine s_lcmp (pc1 := 64) (tk (n := 3) t182_1 rfl) rfl rfl  ?_
            refine s_if_ne (pc1 := 67) (pt := 69) (tk (n := 4) t182_1 rfl) rfl rfl rfl ?_ ?_
            · refine s_aload_n (pc1 := 70) (tk (n := 7) t182_1 rfl) rfl rfl rfl ?_
              refine s_getf (pc1 := 73) (c := 12) (t1 := 1) (tk (n := 8) t182_1 rfl) rfl rfl (by decide) rfl rfl ?_
              refine s_ldc2 (pc1 := 76) (tk (n := 9) t182_1 rfl) rfl rfl  ?_
              refine s_lcmp (pc1 := 77) (tk (n := 10) t182_1 rfl) rfl rfl  ?_
              refine s_if_ne (pc1 := 80) (pt := 82) (tk (n := 11) t182_1 rfl) rfl rfl rfl ?_ ?_
              · refine s_aload_n (pc1 := 83) (tk (n := 14) t182_1 rfl) rfl rfl rfl ?_
                refine s_getf (pc1 := 86) (c := 12) (t1 := 1) (tk (n := 15) t182_1 rfl) rfl rfl (by decide) rfl rfl ?_
                refine s_ldc2 (pc1 := 89) (tk (n := 16) t182_1 rfl) rfl rfl  ?_
                refine s_lcmp (pc1 := 90) (tk (n := 17) t182_1 rfl) rfl rfl  ?_
                refine s_if_ne (pc1 := 93) (pt := 95) (tk (n := 18) t182_1 rfl) rfl rfl rfl ?_ ?_
                · refine s_aload_n (pc1 := 96) (tk (n := 21) t182_1 rfl) rfl rfl rfl ?_
                  refine s_getf (pc1 := 99) (c := 12) (t1 := 1) (tk (n := 22) t182_1 rfl) rfl rfl (by decide) rfl rfl ?_
                  refine s_ldc2 (pc1 := 102) (tk (n := 23) t182_1 rfl) rfl rfl  ?_
                  refine s_lcmp (pc1 := 103) (tk (n := 24) t182_1 rfl) rfl rfl  ?_
                  refine s_if_ne (pc1 := 106) (pt := 109) (tk (n := 25) t182_1 rfl) rfl rfl rfl ?_ ?_
                  · refine s_aload_n (pc1 := 110) (tk (n := 28) t182_1 rfl) rfl rfl rfl ?_
                    refine s_getf (pc1 := 113) (c := 12) (t1 := 1) (tk (n := 29) t182_1 rfl) rfl rfl (by decide) rfl rfl ?_
                    refine s_ldc2 (pc1 := 116) (tk (n := 0) t182_2 rfl) rfl rfl  ?_
                    refine s_lcmp (pc1 := 117) (tk (n := 1) t182_2 rfl) rfl rfl  ?_
                    refine s_if_ne (pc1 := 120) (pt := 123) (tk (n := 2) t182_2 rfl) rfl rfl rfl ?_ ?_
                    · refine s_aload_n (pc1 := 124) (tk (n := 5) t182_2 rfl) rfl rfl rfl ?_
                      refine s_getf (pc1 := 127) (c := 12) (t1 := 1) (tk (n := 6) t182_2 rfl) rfl rfl (by decide) rfl rfl ?_
                      refine s_ldc2 (pc1 := 130) (tk (n := 7) t182_2 rfl) rfl rfl  ?_
                      refine s_lcmp (pc1 := 131) (tk (n := 8) t182_2 rfl) rfl rfl  ?_
                      refine s_if_ne (pc1 := 134) (pt := 139) (tk (n := 9) t182_2 rfl) rfl rfl rfl ?_ ?_
                      · refine s_aload_n (pc1 := 140) (tk (n := 12) t182_2 rfl) rfl rfl rfl ?_
                        refine s_getf (pc1 := 143) (c := 12) (t1 := 1) (tk (n := 13) t182_2 rfl) rfl rfl (by decide) rfl rfl ?_
                        refine s_ldc2 (pc1 := 146) (tk (n := 14) t182_2 rfl) rfl rfl  ?_
                        refine s_lcmp (pc1 := 147) (tk (n := 15) t182_2 rfl) rfl rfl  ?_
                        refine s_if_ne (pc1 := 150) (pt := 155) (tk (n := 16) t182_2 rfl) rfl rfl rfl ?_ ?_
                        · refine s_iconst (pc1 := 156) (tk (n := 19) t182_2 rfl) rfl rfl  ?_
                          exact s_ret (tk (n := 20) t182_2 rfl) rfl rfl rfl
                        · refine s_bipush (pc1 := 152) (tk (n := 17) t182_2 rfl) rfl rfl  ?_
                          refine s_goto (pc1 := 156) (tk (n := 18) t182_2 rfl) rfl rfl ?_
                          exact s_ret (tk (n := 20) t182_2 rfl) rfl rfl rfl
                      · refine s_bipush (pc1 := 136) (tk (n := 10) t182_2 rfl) rfl rfl  ?_
                        refine s_goto (pc1 := 156) (tk (n := 11) t182_2 rfl) rfl rfl ?_
                        exact s_ret (tk (n := 20) t182_2 rfl) rfl rfl rfl
                    · refine s_bipush (pc1 := 122) (tk (n := 3) t182_2 rfl) rfl rfl  ?_
                      exact s_ret (tk (n := 4) t182_2 rfl) rfl rfl rfl
                  · refine s_bipush (pc1 := 108) (tk (n := 26) t182_1 rfl) rfl rfl  ?_
                    exact s_ret (tk (n := 27) t182_1 rfl) rfl rfl rfl
                · refine s_iconst (pc1 := 94) (tk (n := 19) t182_1 rfl) rfl rfl  ?_
                  exact s_ret (tk (n := 20) t182_1 rfl) rfl rfl rfl
              · refine s_iconst (pc1 := 81) (tk (n := 12) t182_1 rfl) rfl rfl  ?_
                exact s_ret (tk (n := 13) t182_1 rfl) rfl rfl rfl
            · refine s_iconst (pc1 := 68) (tk (n := 5) t182_1 rfl) rfl rfl  ?_
              exact s_ret (tk (n := 6) t182_1 rfl) rfl rfl rfl
          · refine s_iconst (pc1 := 55) (tk (n := 28) t182_0 rfl) rfl rfl  ?_
            exact s_ret (tk (n := 29) t182_0 rfl) rfl rfl rfl
        · refine s_iconst (pc1 := 42) (tk (n := 21) t182_0 rfl) rfl rfl  ?_
          exact s_ret (tk (n := 22) t182_0 rfl) rfl rfl rfl
      · refine s_iconst (pc1 := 29) (tk (n := 14) t182_0 rfl) rfl rfl  ?_
        exact s_ret (tk (n := 15) t182_0 rfl) rfl rfl rfl
    · refine s_iconst (pc1 := 16) (tk (n := 7) t182_0 rfl) rfl rfl  ?_
      exact s_ret (tk (n := 8) t182_0 rfl) rfl rfl rfl
set_option maxRecDepth 100000 in
set_option maxHeartbeats 4000000 in
theorem e_X12_orderHere (x0 : Int) (h : Hq) : vm 183 [(2, x0)] h = if 0 < x0 ∧ (kd x0).1 = 12 then (vm 181 [(2, x0), (1, 1919907699)] h).bind (fun r3 => if (vx r3) = 0 then (if 0 < x0 ∧ (kd x0).1 = 12 then (vm 181 [(2, x0), (1, 499984917875)] r3.2).bind (fun r7 => if (vx r7) = 0 then (if 0 < x0 ∧ (kd x0).1 = 12 then (vm 181 [(2, x0), (1, 109356082685299)] r7.2).bind (fun r11 => if (vx r11) = 0 then (some (some (0, (-1)), r11.2)) else (some (some (0, 2), r11.2))) else none) else (some (some (0, 1), r7.2))) else none) else (some (some (0, 0), r3.2))) else none := by
  show vp 183 0 [(2, x0)] [] h = _
  refine s_aload_n (pc1 := 1) (tk (n := 0) t183_0 rfl) rfl rfl rfl ?_
  refine s_ldc2 (pc1 := 4) (tk (n := 1) t183_0 rfl) rfl rfl  ?_
  refine s_call0 (as := [(2, x0), (1, 1919907699)]) (st1 := []) (p1 := 7) (M2 := 181) (tk (n := 2) t183_0 rfl) rfl rfl rfl rfl rfl (fun r3 => ?_)
  refine s_if_eq (pc1 := 10) (pt := 14) (tk (n := 3) t183_0 rfl) rfl rfl rfl ?_ ?_
  · refine s_aload_n (pc1 := 15) (tk (n := 6) t183_0 rfl) rfl rfl rfl ?_
    refine s_ldc2 (pc1 := 18) (tk (n := 7) t183_0 rfl) rfl rfl  ?_
    refine s_call0 (as := [(2, x0), (1, 499984917875)]) (st1 := []) (p1 := 21) (M2 := 181) (tk (n := 8) t183_0 rfl) rfl rfl rfl rfl rfl (fun r7 => ?_)
    refine s_if_eq (pc1 := 24) (pt := 28) (tk (n := 9) t183_0 rfl) rfl rfl rfl ?_ ?_
    · refine s_aload_n (pc1 := 29) (tk (n := 12) t183_0 rfl) rfl rfl rfl ?_
      refine s_ldc2 (pc1 := 32) (tk (n := 13) t183_0 rfl) rfl rfl  ?_
      refine s_call0 (as := [(2, x0), (1, 109356082685299)]) (st1 := []) (p1 := 35) (M2 := 181) (tk (n := 14) t183_0 rfl) rfl rfl rfl rfl rfl (fun r11 => ?_)
      refine s_if_eq (pc1 := 38) (pt := 42) (tk (n := 15) t183_0 rfl) rfl rfl rfl ?_ ?_
      · refine s_iconst (pc1 := 43) (tk (n := 18) t183_0 rfl) rfl rfl  ?_
        exact s_ret (tk (n := 19) t183_0 rfl) rfl rfl rfl
      · refine s_iconst (pc1 := 39) (tk (n := 16) t183_0 rfl) rfl rfl  ?_
        refine s_goto (pc1 := 43) (tk (n := 17) t183_0 rfl) rfl rfl ?_
        exact s_ret (tk (n := 19) t183_0 rfl) rfl rfl rfl
    · refine s_iconst (pc1 := 25) (tk (n := 10) t183_0 rfl) rfl rfl  ?_
      refine s_goto (pc1 := 43) (tk (n := 11) t183_0 rfl) rfl rfl ?_
      exact s_ret (tk (n := 19) t183_0 rfl) rfl rfl rfl
  · refine s_iconst (pc1 := 11) (tk (n := 4) t183_0 rfl) rfl rfl  ?_
    refine s_goto (pc1 := 43) (tk (n := 5) t183_0 rfl) rfl rfl ?_
    exact s_ret (tk (n := 19) t183_0 rfl) rfl rfl rfl
set_option maxRecDepth 100000 in
set_option maxHeartbeats 4000000 in
theorem e_X12_wrapHere (x0 : Int) (h : Hq) : vm 184 [(2, x0)] h = if 0 < x0 ∧ (kd x0).1 = 12 then (vm 181 [(2, x0), (1, 125780002955636)] h).bind (fun r3 => if (vx r3) = 0 then (if 0 < x0 ∧ (kd x0).1 = 12 then (vm 181 [(2, x0), (1, 427020086640)] r3.2).bind (fun r7 => if (vx r7) = 0 then (if 0 < x0 ∧ (kd x0).1 = 12 then (vm 181 [(2, x0), (1, 120299659095922)] r7.2).bind (fun r11 => if (vx r11) = 0 then (some (some (0, (-1)), r11.2)) else (some (some (0, 2), r11.2))) else none) else (some (some (0, 1), r7.2))) else none) else (some (some (0, 0), r3.2))) else none := by
  show vp 184 0 [(2, x0)] [] h = _
  refine s_aload_n (pc1 := 1) (tk (n := 0) t184_0 rfl) rfl rfl rfl ?_
  refine s_ldc2 (pc1 := 4) (tk (n := 1) t184_0 rfl) rfl rfl  ?_
  refine s_call0 (as := [(2, x0), (1, 125780002955636)]) (st1 := []) (p1 := 7) (M2 := 181) (tk (n := 2) t184_0 rfl) rfl rfl rfl rfl rfl (fun r3 => ?_)
  refine s_if_eq (pc1 := 10) (pt := 14) (tk (n := 3) t184_0 rfl) rfl rfl rfl ?_ ?_
  · refine s_aload_n (pc1 := 15) (tk (n := 6) t184_0 rfl) rfl rfl rfl ?_
    refine s_ldc2 (pc1 := 18) (tk (n := 7) t184_0 rfl) rfl rfl  ?_
    refine s_call0 (as := [(2, x0), (1, 427020086640)]) (st1 := []) (p1 := 21) (M2 := 181) (tk (n := 8) t184_0 rfl) rfl rfl rfl rfl rfl (fun r7 => ?_)
    refine s_if_eq (pc1 := 24) (pt := 28) (tk (n := 9) t184_0 rfl) rfl rfl rfl ?_ ?_
    · refine s_aload_n (pc1 := 29) (tk (n := 12) t184_0 rfl) rfl rfl rfl ?_
      refine s_ldc2 (pc1 := 32) (tk (n := 13) t184_0 rfl) rfl rfl  ?_
      refine s_call0 (as := [(2, x0), (1, 120299659095922)]) (st1 := []) (p1 := 35) (M2 := 181) (tk (n := 14) t184_0 rfl) rfl rfl rfl rfl rfl (fun r11 => ?_)
      refine s_if_eq (pc1 := 38) (pt := 42) (tk (n := 15) t184_0 rfl) rfl rfl rfl ?_ ?_
      · refine s_iconst (pc1 := 43) (tk (n := 18) t184_0 rfl) rfl rfl  ?_
        exact s_ret (tk (n := 19) t184_0 rfl) rfl rfl rfl
      · refine s_iconst (pc1 := 39) (tk (n := 16) t184_0 rfl) rfl rfl  ?_
        refine s_goto (pc1 := 43) (tk (n := 17) t184_0 rfl) rfl rfl ?_
        exact s_ret (tk (n := 19) t184_0 rfl) rfl rfl rfl
    · refine s_iconst (pc1 := 25) (tk (n := 10) t184_0 rfl) rfl rfl  ?_
      refine s_goto (pc1 := 43) (tk (n := 11) t184_0 rfl) rfl rfl ?_
      exact s_ret (tk (n := 19) t184_0 rfl) rfl rfl rfl
  · refine s_iconst (pc1 := 11) (tk (n := 4) t184_0 rfl) rfl rfl  ?_
    refine s_goto (pc1 := 43) (tk (n := 5) t184_0 rfl) rfl rfl ?_
    exact s_ret (tk (n := 19) t184_0 rfl) rfl rfl rfl
set_option maxRecDepth 100000 in
set_option maxHeartbeats 4000000 in
theorem e_X12_isOwn (x0 : Int) (h : Hq) : vm 185 [(2, x0)] h = if 0 < x0 ∧ (kd x0).1 = 12 then if (if (h.2 x0 12) < 426835667045 then -1 else if (h.2 x0 12) = 426835667045 then 0 else 1) = 0 then (some (some (0, 1), h)) else (if 0 < x0 ∧ (kd x0).1 = 12 then if (if (h.2 x0 12) < 25209 then -1 else if (h.2 x0 12) = 25209 then 0 else 1) = 0 then (some (some (0, 1), h)) else (if 0 < x0 ∧ (kd x0).1 = 12 then if (if (h.2 x0 12) < 28518 then -1 else if (h.2 x0 12) = 28518 then 0 else 1) = 0 then (some (some (0, 1), h)) else (if 0 < x0 ∧ (kd x0).1 = 12 then if (if (h.2 x0 12) < 495874699877 then -1 else if (h.2 x0 12) = 495874699877 then 0 else 1) = 0 then (some (some (0, 1), h)) else (if 0 < x0 ∧ (kd x0).1 = 12 then if (if (h.2 x0 12) < 499967946343 then -1 else if (h.2 x0 12) = 499967946343 then 0 else 1) = 0 then (some (some (0, 1), h)) else (if 0 < x0 ∧ (kd x0).1 = 12 then if (if (h.2 x0 12) < 1852796517 then -1 else if (h.2 x0 12) = 1852796517 then 0 else 1) ≠ 0 then (if 0 < x0 ∧ (kd x0).1 = 12 then if (if (h.2 x0 12) < 32762665322771045 then -1 else if (h.2 x0 12) = 32762665322771045 then 0 else 1) = 0 then (some (some (0, 1), h)) else (if 0 < x0 ∧ (kd x0).1 = 12 then if (if (h.2 x0 12) < 28526 then -1 else if (h.2 x0 12) = 28526 then 0 else 1) = 0 then (some (some (0, 1), h)) else (if 0 < x0 ∧ (kd x0).1 = 12 then if (if (h.2 x0 12) < 24948 then -1 else if (h.2 x0 12) = 24948 then 0 else 1) = 0 then (some (some (0, 1), h)) else (if 0 < x0 ∧ (kd x0).1 = 12 then if (if (h.2 x0 12) < 1936292453 then -1 else if (h.2 x0 12) = 1936292453 then 0 else 1) = 0 then (some (some (0, 1), h)) else (if 0 < x0 ∧ (kd x0).1 = 12 then if (if (h.2 x0 12) < 119183033855091 then -1 else if (h.2 x0 12) = 119183033855091 then 0 else 1) = 0 then (some (some (0, 1), h)) else (if 0 < x0 ∧ (kd x0).1 = 12 then if (if (h.2 x0 12) < 1718185068 then -1 else if (h.2 x0 12) = 1718185068 then 0 else 1) ≠ 0 then (if 0 < x0 ∧ (kd x0).1 = 12 then (vm 182 [(2, x0)] h).bind (fun r62 => if (vx r62) ≠ (-1) then (some (some (0, 1), r62.2)) else (if 0 < x0 ∧ (kd x0).1 = 12 then (vm 183 [(2, x0)] r62.2).bind (fun r66 => if (vx r66) ≠ (-1) then (some (some (0, 1), r66.2)) else (if 0 < x0 ∧ (kd x0).1 = 12 then (vm 184 [(2, x0)] r66.2).bind (fun r70 => if (vx r70) = (-1) then (some (some (0, 0), r70.2)) else (some (some (0, 1), r70.2))) else none)) else none)) else none) else (some (some (0, 1), h)) else none) else none) else none) else none) else none) else none) else (some (some (0, 1), h)) else none) else none) else none) else none) else none) else none := by
  show vp 185 0 [(2, x0)] [] h = _
  refine s_aload_n (pc1 := 1) (tk (n := 0) t185_0 rfl) rfl rfl rfl ?_
  refine s_getf (pc1 := 4) (c := 12) (t1 := 1) (tk (n := 1) t185_0 rfl) rfl rfl (by decide) rfl rfl ?_
  refine s_ldc2 (pc1 := 7) (tk (n := 2) t185_0 rfl) rfl rfl  ?_
  refine s_lcmp (pc1 := 8) (tk (n := 3) t185_0 rfl) rfl rfl  ?_
  refine s_if_eq (pc1 := 11) (pt := 66) (tk (n := 4) t185_0 rfl) rfl rfl rfl ?_ ?_
  · refine s_iconst (pc1 := 67) (tk (n := 0) t185_1 rfl) rfl rfl  ?_
    exact s_retY (tk (n := 1) t185_1 rfl) rfl rfl rfl (by decide)
  · refine s_aload_n (pc1 := 12) (tk (n := 5) t185_0 rfl) rfl rfl rfl ?_
    refine s_getf (pc1 := 15) (c := 12) (t1 := 1) (tk (n := 6) t185_0 rfl) rfl rfl (by decide) rfl rfl ?_
    refine s_ldc2 (pc1 := 18) (tk (n := 7) t185_0 rfl) rfl rfl  ?_
    refine s_lcmp (pc1 := 19) (tk (n := 8) t185_0 rfl) rfl rfl  ?_
    refine s_if_eq (pc1 := 22) (pt := 66) (tk (n := 9) t185_0 rfl) rfl rfl rfl ?_ ?_
    · refine s_iconst (pc1 := 67) (tk (n := 0) t185_1 rfl) rfl rfl  ?_
      exact s_retY (tk (n := 1) t185_1 rfl) rfl rfl rfl (by decide)
    · refine s_aload_n (pc1 := 23) (tk (n := 10) t185_0 rfl) rfl rfl rfl ?_
      refine s_getf (pc1 := 26) (c := 12) (t1 := 1) (tk (n := 11) t185_0 rfl) rfl rfl (by decide) rfl rfl ?_
      refine s_ldc2 (pc1 := 29) (tk (n := 12) t185_0 rfl) rfl rfl  ?_
      refine s_lcmp (pc1 := 30) (tk (n := 13) t185_0 rfl) rfl rfl  ?_
      refine s_if_eq (pc1 := 33) (pt := 66) (tk (n := 14) t185_0 rfl) rfl rfl rfl ?_ ?_
      · refine s_iconst (pc1 := 67) (tk (n := 0) t185_1 rfl) rfl rfl  ?_
        exact s_retY (tk (n := 1) t185_1 rfl) rfl rfl rfl (by decide)
      · refine s_aload_n (pc1 := 34) (tk (n := 15) t185_0 rfl) rfl rfl rfl ?_
        refine s_getf (pc1 := 37) (c := 12) (t1 := 1) (tk (n := 16) t185_0 rfl) rfl rfl (by decide) rfl rfl ?_
        refine s_ldc2 (pc1 := 40) (tk (n := 17) t185_0 rfl) rfl rfl  ?_
        refine s_lcmp (pc1 := 41) (tk (n := 18) t185_0 rfl) rfl rfl  ?_
        refine s_if_eq (pc1 := 44) (pt := 66) (tk (n := 19) t185_0 rfl) rfl rfl rfl ?_ ?_
        · refine s_iconst (pc1 := 67) (tk (n := 0) t185_1 rfl) rfl rfl  ?_
          exact s_retY (tk (n := 1) t185_1 rfl) rfl rfl rfl (by decide)
        · refine s_aload_n (pc1 := 45) (tk (n := 20) t185_0 rfl) rfl rfl rfl ?_
          refine s_getf (pc1 := 48) (c := 12) (t1 := 1) (tk (n := 21) t185_0 rfl) rfl rfl (by decide) rfl rfl ?_
          refine s_ldc2 (pc1 := 51) (tk (n := 22) t185_0 rfl) rfl rfl  ?_
          refine s_lcmp (pc1 := 52) (tk (n := 23) t185_0 rfl) rfl rfl  ?_
          refine s_if_eq (pc1 := 55) (pt := 66) (tk (n := 24) t185_0 rfl) rfl rfl rfl ?_ ?_
          · refine s_iconst (pc1 := 67) (tk (n := 0) t185_1 rfl) rfl rfl  ?_
            exact s_retY (tk (n := 1) t185_1 rfl) rfl rfl rfl (by decide)
          · refine s_aload_n (pc1 := 56) (tk (n := 25) t185_0 rfl) rfl rfl rfl ?_
            refine s_getf (pc1 := 59) (c := 12) (t1 := 1) (tk (n := 26) t185_0 rfl) rfl rfl (by decide) rfl rfl ?_
            refine s_ldc2 (pc1 := 62) (tk (n := 27) t185_0 rfl) rfl rfl  ?_
            refine s_lcmp (pc1 := 63) (tk (n := 28) t185_0 rfl) rfl rfl  ?_
            refine s_if_ne (pc1 := 66) (pt := 68) (tk (n := 29) t185_0 rfl) rfl rfl rfl ?_ ?_
            · refine s_aload_n (pc1 := 69) (tk (n := 2) t185_1 rfl) rfl rfl rfl ?_
              refine s_getf (pc1 := 72) (c := 12) (t1 := 1) (tk (n := 3) t185_1 rfl) rfl rfl (by decide) rfl rfl ?_
              refine s_ldc2 (pc1 := 75) (tk (n := 4) t185_1 rfl) rfl rfl  ?_
              refine s_lcmp (pc1 := 76) (tk (n := 5) t185_1 rfl) rfl rfl  ?_
              refine s_if_eq (pc1 := 79) (pt := 134) (tk (n := 6) t185_1 rfl) rfl rfl rfl ?_ ?_
              · refine s_iconst (pc1 := 135) (tk (n := 2) t185_2 rfl) rfl rfl  ?_
                exact s_retY (tk (n := 3) t185_2 rfl) rfl rfl rfl (by decide)
              · refine s_aload_n (pc1 := 80) (tk (n := 7) t185_1 rfl) rfl rfl rfl ?_
                refine s_getf (pc1 := 83) (c := 12) (t1 := 1) (tk (n := 8) t185_1 rfl) rfl rfl (by decide) rfl rfl ?_
                refine s_ldc2 (pc1 := 86) (tk (n := 9) t185_1 rfl) rfl rfl  ?_
                refine s_lcmp (pc1 := 87) (tk (n := 10) t185_1 rfl) rfl rfl  ?_
                refine s_if_eq (pc1 := 90) (pt := 134) (tk (n := 11) t185_1 rfl) rfl rfl rfl ?_ ?_
                · refine s_iconst (pc1 := 135) (tk (n := 2) t185_2 rfl) rfl rfl  ?_
                  exact s_retY (tk (n := 3) t185_2 rfl) rfl rfl rfl (by decide)
                · refine s_aload_n (pc1 := 91) (tk (n := 12) t185_1 rfl) rfl rfl rfl ?_
                  refine s_getf (pc1 := 94) (c := 12) (t1 := 1) (tk (n := 13) t185_1 rfl) rfl rfl (by decide) rfl rfl ?_
                  refine s_ldc2 (pc1 := 97) (tk (n := 14) t185_1 rfl) rfl rfl  ?_
                  refine s_lcmp (pc1 := 98) (tk (n := 15) t185_1 rfl) rfl rfl  ?_
                  refine s_if_eq (pc1 := 101) (pt := 134) (tk (n := 16) t185_1 rfl) rfl rfl rfl ?_ ?_
                  · refine s_iconst (pc1 := 135) (tk (n := 2) t185_2 rfl) rfl rfl  ?_
                    exact s_retY (tk (n := 3) t185_2 rfl) rfl rfl rfl (by decide)
                  · refine s_aload_n (pc1 := 102) (tk (n := 17) t185_1 rfl) rfl rfl rfl ?_
                    refine s_getf (pc1 := 105) (c := 12) (t1 := 1) (tk (n := 18) t185_1 rfl) rfl rfl (by decide) rfl rfl ?_
                    refine s_ldc2 (pc1 := 108) (tk (n := 19) t185_1 rfl) rfl rfl  ?_
                    refine s_lcmp (pc1 := 109) (tk (n := 20) t185_1 rfl) rfl rfl  ?_
                    refine s_if_eq (pc1 := 112) (pt := 134) (tk (n := 21) t185_1 rfl) rfl rfl rfl ?_ ?_
                    · refine s_iconst (pc1 := 135) (tk (n := 2) t185_2 rfl) rfl rfl  ?_
                      exact s_retY (tk (n := 3) t185_2 rfl) rfl rfl rfl (by decide)
                    · refine s_aload_n (pc1 := 113) (tk (n := 22) t185_1 rfl) rfl rfl rfl ?_
                      refine s_getf (pc1 := 116) (c := 12) (t1 := 1) (tk (n := 23) t185_1 rfl) rfl rfl (by decide) rfl rfl ?_
                      refine s_ldc2 (pc1 := 119) (tk (n := 24) t185_1 rfl) rfl rfl  ?_
                      refine s_lcmp (pc1 := 120) (tk (n := 25) t185_1 rfl) rfl rfl  ?_
                      refine s_if_eq (pc1 := 123) (pt := 134) (tk (n := 26) t185_1 rfl) rfl rfl rfl ?_ ?_
                      · refine s_iconst (pc1 := 135) (tk (n := 2) t185_2 rfl) rfl rfl  ?_
                        exact s_retY (tk (n := 3) t185_2 rfl) rfl rfl rfl (by decide)
                      · refine s_aload_n (pc1 := 124) (tk (n := 27) t185_1 rfl) rfl rfl rfl ?_
                        refine s_getf (pc1 := 127) (c := 12) (t1 := 1) (tk (n := 28) t185_1 rfl) rfl rfl (by decide) rfl rfl ?_
                        refine s_ldc2 (pc1 := 130) (tk (n := 29) t185_1 rfl) rfl rfl  ?_
                        refine s_lcmp (pc1 := 131) (tk (n := 0) t185_2 rfl) rfl rfl  ?_
                        refine s_if_ne (pc1 := 134) (pt := 136) (tk (n := 1) t185_2 rfl) rfl rfl rfl ?_ ?_
                        · refine s_aload_n (pc1 := 137) (tk (n := 4) t185_2 rfl) rfl rfl rfl ?_
                          refine s_call0 (as := [(2, x0)]) (st1 := []) (p1 := 140) (M2 := 182) (tk (n := 5) t185_2 rfl) rfl rfl rfl rfl rfl (fun r62 => ?_)
                          refine s_iconst (pc1 := 141) (tk (n := 6) t185_2 rfl) rfl rfl  ?_
                          refine s_ic_ne (pc1 := 144) (pt := 160) (tk (n := 7) t185_2 rfl) rfl rfl rfl ?_ ?_
                          · refine s_iconst (pc1 := 161) (tk (n := 16) t185_2 rfl) rfl rfl  ?_
                            refine s_goto (pc1 := 165) (tk (n := 17) t185_2 rfl) rfl rfl ?_
                            exact s_retY (tk (n := 19) t185_2 rfl) rfl rfl rfl (by decide)
                          · refine s_aload_n (pc1 := 145) (tk (n := 8) t185_2 rfl) rfl rfl rfl ?_
                            refine s_call0 (as := [(2, x0)]) (st1 := []) (p1 := 148) (M2 := 183) (tk (n := 9) t185_2 rfl) rfl rfl rfl rfl rfl (fun r66 => ?_)
                            refine s_iconst (pc1 := 149) (tk (n := 10) t185_2 rfl) rfl rfl  ?_
                            refine s_ic_ne (pc1 := 152) (pt := 160) (tk (n := 11) t185_2 rfl) rfl rfl rfl ?_ ?_
                            · refine s_iconst (pc1 := 161) (tk (n := 16) t185_2 rfl) rfl rfl  ?_
                              refine s_goto (pc1 := 165) (tk (n := 17) t185_2 rfl) rfl rfl ?_
                              exact s_retY (tk (n := 19) t185_2 rfl) rfl rfl rfl (by decide)
                            · refine s_aload_n (pc1 := 153) (tk (n := 12) t185_2 rfl) rfl rfl rfl ?_
                              refine s_call0 (as := [(2, x0)]) (st1 := []) (p1 := 156) (M2 := 184) (tk (n := 13) t185_2 rfl) rfl rfl rfl rfl rfl (fun r70 => ?_)
                              refine s_iconst (pc1 := 157) (tk (n := 14) t185_2 rfl) rfl rfl  ?_
                              refine s_ic_eq (pc1 := 160) (pt := 164) (tk (n := 15) t185_2 rfl) rfl rfl rfl ?_ ?_
                              · refine s_iconst (pc1 := 165) (tk (n := 18) t185_2 rfl) rfl rfl  ?_
                                exact s_retY (tk (n := 19) t185_2 rfl) rfl rfl rfl (by decide)
                              · refine s_iconst (pc1 := 161) (tk (n := 16) t185_2 rfl) rfl rfl  ?_
                                refine s_goto (pc1 := 165) (tk (n := 17) t185_2 rfl) rfl rfl ?_
                                exact s_retY (tk (n := 19) t185_2 rfl) rfl rfl rfl (by decide)
                        · refine s_iconst (pc1 := 135) (tk (n := 2) t185_2 rfl) rfl rfl  ?_
                          exact s_retY (tk (n := 3) t185_2 rfl) rfl rfl rfl (by decide)
            · refine s_iconst (pc1 := 67) (tk (n := 0) t185_1 rfl) rfl rfl  ?_
              exact s_retY (tk (n := 1) t185_1 rfl) rfl rfl rfl (by decide)
set_option maxRecDepth 100000 in
set_option maxHeartbeats 4000000 in
theorem e_X12_needs (x0 : Int) (x1 : Int) (h : Hq) : vm 186 [(2, x0), (1, x1)] h = if 0 < x0 ∧ (kd x0).1 = 12 then (vm 181 [(2, x0), (1, x1)] h).bind (fun r3 => if (vx r3) ≠ 0 then (if 0 < x0 ∧ (kd x0).1 = 12 then (vm 180 [(2, x0)] r3.2).bind (fun r6 => if (vx r6) = 0 then (some (none, r6.2)) else (if 0 < x0 ∧ (kd x0).1 = 12 then (vm 178 [(2, x0)] r6.2).bind (fun r9 => some (none, r9.2)) else none)) else none) else (if 0 < x0 ∧ (kd x0).1 = 12 then (vm 179 [(2, x0), (0, 2)] r3.2).bind (fun r7 => if 0 < x0 ∧ (kd x0).1 = 12 then (vm 180 [(2, x0)] r7.2).bind (fun r9 => if (vx r9) = 0 then (some (none, r9.2)) else (if 0 < x0 ∧ (kd x0).1 = 12 then (vm 178 [(2, x0)] r9.2).bind (fun r12 => some (none, r12.2)) else none)) else none) else none)) else none := by
  show vp 186 0 [(2, x0), (1, x1), (9, 0)] [] h = _
  refine s_aload_n (pc1 := 1) (tk (n := 0) t186_0 rfl) rfl rfl rfl ?_
  refine s_lload_n (pc1 := 2) (tk (n := 1) t186_0 rfl) rfl rfl rfl ?_
  refine s_call0 (as := [(2, x0), (1, x1)]) (st1 := []) (p1 := 5) (M2 := 181) (tk (n := 2) t186_0 rfl) rfl rfl rfl rfl rfl (fun r3 => ?_)
  refine s_if_ne (pc1 := 8) (pt := 13) (tk (n := 3) t186_0 rfl) rfl rfl rfl ?_ ?_
  · refine s_aload_n (pc1 := 14) (tk (n := 7) t186_0 rfl) rfl rfl rfl ?_
    refine s_call0 (as := [(2, x0)]) (st1 := []) (p1 := 17) (M2 := 180) (tk (n := 8) t186_0 rfl) rfl rfl rfl rfl rfl (fun r6 => ?_)
    refine s_if_eq (pc1 := 20) (pt := 24) (tk (n := 9) t186_0 rfl) rfl rfl rfl ?_ ?_
    · exact s_ret (tk (n := 12) t186_0 rfl) rfl rfl rfl
    · refine s_aload_n (pc1 := 21) (tk (n := 10) t186_0 rfl) rfl rfl rfl ?_
      refine s_call9 (as := [(2, x0)]) (st1 := []) (p1 := 24) (M2 := 178) (tk (n := 11) t186_0 rfl) rfl rfl rfl rfl rfl (fun r9 => ?_)
      exact s_ret (tk (n := 12) t186_0 rfl) rfl rfl rfl
  · refine s_aload_n (pc1 := 9) (tk (n := 4) t186_0 rfl) rfl rfl rfl ?_
    refine s_iconst (pc1 := 10) (tk (n := 5) t186_0 rfl) rfl rfl  ?_
    refine s_call9 (as := [(2, x0), (0, 2)]) (st1 := []) (p1 := 13) (M2 := 179) (tk (n := 6) t186_0 rfl) rfl rfl rfl rfl rfl (fun r7 => ?_)
    refine s_aload_n (pc1 := 14) (tk (n := 7) t186_0 rfl) rfl rfl rfl ?_
    refine s_call0 (as := [(2, x0)]) (st1 := []) (p1 := 17) (M2 := 180) (tk (n := 8) t186_0 rfl) rfl rfl rfl rfl rfl (fun r9 => ?_)
    refine s_if_eq (pc1 := 20) (pt := 24) (tk (n := 9) t186_0 rfl) rfl rfl rfl ?_ ?_
    · exact s_ret (tk (n := 12) t186_0 rfl) rfl rfl rfl
    · refine s_aload_n (pc1 := 21) (tk (n := 10) t186_0 rfl) rfl rfl rfl ?_
      refine s_call9 (as := [(2, x0)]) (st1 := []) (p1 := 24) (M2 := 178) (tk (n := 11) t186_0 rfl) rfl rfl rfl rfl rfl (fun r12 => ?_)
      exact s_ret (tk (n := 12) t186_0 rfl) rfl rfl rfl
set_option maxRecDepth 100000 in
set_option maxHeartbeats 4000000 in
theorem e_X12_numberHere (x0 : Int) (x1 : Int) (x2 : Int) (h : Hq) : vm 187 [(2, x0), (0, x1), (0, x2)] h = if 0 < x0 ∧ (kd x0).1 = 12 then if (h.2 x0 8) ≤ 0 then (if 0 < x0 ∧ (kd x0).1 = 12 then if (h.2 x0 5) = 2 then (if 0 < x0 ∧ (kd x0).1 = 12 then (vm 165 [(0, h.2 x0 6), (0, x1), (0, x2)] h).bind (fun r12 => if (vx r12) ≠ 0 then (if 0 < x0 ∧ (kd x0).1 = 12 then some (some (0, r12.2.2 x0 6), r12.2) else none) else (if 0 < x0 ∧ (kd x0).1 = 12 then (vm 179 [(2, x0), (0, 4)] r12.2).bind (fun r16 => if 0 < x0 ∧ (kd x0).1 = 12 then some (some (0, r16.2.2 x0 6), r16.2) else none) else none)) else none) else (if 0 < x0 ∧ (kd x0).1 = 12 then (vm 179 [(2, x0), (0, 2)] h).bind (fun r10 => if 0 < x0 ∧ (kd x0).1 = 12 then some (some (0, r10.2.2 x0 6), r10.2) else none) else none) else none) else (some (some (0, 0), h)) else none := by
  show vp 187 0 [(2, x0), (0, x1), (0, x2)] [] h = _
  refine s_aload_n (pc1 := 1) (tk (n := 0) t187_0 rfl) rfl rfl rfl ?_
  refine s_getf (pc1 := 4) (c := 12) (t1 := 0) (tk (n := 1) t187_0 rfl) rfl rfl (by decide) rfl rfl ?_
  refine s_if_le (pc1 := 7) (pt := 9) (tk (n := 2) t187_0 rfl) rfl rfl rfl ?_ ?_
  · refine s_aload_n (pc1 := 10) (tk (n := 5) t187_0 rfl) rfl rfl rfl ?_
    refine s_getf (pc1 := 13) (c := 12) (t1 := 0) (tk (n := 6) t187_0 rfl) rfl rfl (by decide) rfl rfl ?_
    refine s_iconst (pc1 := 14) (tk (n := 7) t187_0 rfl) rfl rfl  ?_
    refine s_ic_eq (pc1 := 17) (pt := 25) (tk (n := 8) t187_0 rfl) rfl rfl rfl ?_ ?_
    · refine s_aload_n (pc1 := 26) (tk (n := 13) t187_0 rfl) rfl rfl rfl ?_
      refine s_getf (pc1 := 29) (c := 12) (t1 := 0) (tk (n := 14) t187_0 rfl) rfl rfl (by decide) rfl rfl ?_
      refine s_iload_n (pc1 := 30) (tk (n := 15) t187_0 rfl) rfl rfl rfl ?_
      refine s_iload_n (pc1 := 31) (tk (n := 16) t187_0 rfl) rfl rfl rfl ?_
      refine s_callS0 (as := [(0, h.2 x0 6), (0, x1), (0, x2)]) (st1 := []) (p1 := 34) (M2 := 165) (tk (n := 17) t187_0 rfl) rfl rfl rfl rfl rfl (fun r12 => ?_)
      refine s_if_ne (pc1 := 37) (pt := 42) (tk (n := 18) t187_0 rfl) rfl rfl rfl ?_ ?_
      · refine s_aload_n (pc1 := 43) (tk (n := 22) t187_0 rfl) rfl rfl rfl ?_
        refine s_getf (pc1 := 46) (c := 12) (t1 := 0) (tk (n := 23) t187_0 rfl) rfl rfl (by decide) rfl rfl ?_
        exact s_ret (tk (n := 24) t187_0 rfl) rfl rfl rfl
      · refine s_aload_n (pc1 := 38) (tk (n := 19) t187_0 rfl) rfl rfl rfl ?_
        refine s_iconst (pc1 := 39) (tk (n := 20) t187_0 rfl) rfl rfl  ?_
        refine s_call9 (as := [(2, x0), (0, 4)]) (st1 := []) (p1 := 42) (M2 := 179) (tk (n := 21) t187_0 rfl) rfl rfl rfl rfl rfl (fun r16 => ?_)
        refine s_aload_n (pc1 := 43) (tk (n := 22) t187_0 rfl) rfl rfl rfl ?_
        refine s_getf (pc1 := 46) (c := 12) (t1 := 0) (tk (n := 23) t187_0 rfl) rfl rfl (by decide) rfl rfl ?_
        exact s_ret (tk (n := 24) t187_0 rfl) rfl rfl rfl
    · refine s_aload_n (pc1 := 18) (tk (n := 9) t187_0 rfl) rfl rfl rfl ?_
      refine s_iconst (pc1 := 19) (tk (n := 10) t187_0 rfl) rfl rfl  ?_
      refine s_call9 (as := [(2, x0), (0, 2)]) (st1 := []) (p1 := 22) (M2 := 179) (tk (n := 11) t187_0 rfl) rfl rfl rfl rfl rfl (fun r10 => ?_)
      refine s_goto (pc1 := 42) (tk (n := 12) t187_0 rfl) rfl rfl ?_
      refine s_aload_n (pc1 := 43) (tk (n := 22) t187_0 rfl) rfl rfl rfl ?_
      refine s_getf (pc1 := 46) (c := 12) (t1 := 0) (tk (n := 23) t187_0 rfl) rfl rfl (by decide) rfl rfl ?_
      exact s_ret (tk (n := 24) t187_0 rfl) rfl rfl rfl
  · refine s_iconst (pc1 := 8) (tk (n := 3) t187_0 rfl) rfl rfl  ?_
    exact s_ret (tk (n := 4) t187_0 rfl) rfl rfl rfl
set_option maxRecDepth 100000 in
set_option maxHeartbeats 4000000 in
theorem e_X12_number (x0 : Int) (x1 : Int) (x2 : Int) (h : Hq) : vm 188 [(2, x0), (0, x1), (0, x2)] h = if 0 < x0 ∧ (kd x0).1 = 12 then (vm 187 [(2, x0), (0, x1), (0, x2)] h).bind (fun r4 => if 0 < x0 ∧ (kd x0).1 = 12 then (vm 180 [(2, x0)] r4.2).bind (fun r7 => if (vx r7) = 0 then (some (some (0, vx r4), r7.2)) else (if 0 < x0 ∧ (kd x0).1 = 12 then (vm 178 [(2, x0)] r7.2).bind (fun r10 => some (some (0, vx r4), r10.2)) else none)) else none) else none := by
  show vp 188 0 [(2, x0), (0, x1), (0, x2), (9, 0)] [] h = _
  refine s_aload_n (pc1 := 1) (tk (n := 0) t188_0 rfl) rfl rfl rfl ?_
  refine s_iload_n (pc1 := 2) (tk (n := 1) t188_0 rfl) rfl rfl rfl ?_
  refine s_iload_n (pc1 := 3) (tk (n := 2) t188_0 rfl) rfl rfl rfl ?_
  refine s_call0 (as := [(2, x0), (0, x1), (0, x2)]) (st1 := []) (p1 := 6) (M2 := 187) (tk (n := 3) t188_0 rfl) rfl rfl rfl rfl rfl (fun r4 => ?_)
  refine s_istore_n (pc1 := 7) (ls1 := [(2, x0), (0, x1), (0, x2), (0, vx r4)]) (tk (n := 4) t188_0 rfl) rfl rfl rfl rfl ?_
  refine s_aload_n (pc1 := 8) (tk (n := 5) t188_0 rfl) rfl rfl rfl ?_
  refine s_call0 (as := [(2, x0)]) (st1 := []) (p1 := 11) (M2 := 180) (tk (n := 6) t188_0 rfl) rfl rfl rfl rfl rfl (fun r7 => ?_)
  refine s_if_eq (pc1 := 14) (pt := 18) (tk (n := 7) t188_0 rfl) rfl rfl rfl ?_ ?_
  · refine s_iload_n (pc1 := 19) (tk (n := 10) t188_0 rfl) rfl rfl rfl ?_
    exact s_ret (tk (n := 11) t188_0 rfl) rfl rfl rfl
  · refine s_aload_n (pc1 := 15) (tk (n := 8) t188_0 rfl) rfl rfl rfl ?_
    refine s_call9 (as := [(2, x0)]) (st1 := []) (p1 := 18) (M2 := 178) (tk (n := 9) t188_0 rfl) rfl rfl rfl rfl rfl (fun r10 => ?_)
    refine s_iload_n (pc1 := 19) (tk (n := 10) t188_0 rfl) rfl rfl rfl ?_
    exact s_ret (tk (n := 11) t188_0 rfl) rfl rfl rfl
set_option maxRecDepth 100000 in
set_option maxHeartbeats 4000000 in
theorem e_X12_power (x0 : Int) (x1 : Int) (h : Hq) : vm 189 [(2, x0), (0, x1)] h = if 0 < x0 ∧ (kd x0).1 = 12 then (vm 187 [(2, x0), (0, 1), (0, x1)] h).bind (fun r4 => if 0 < x0 ∧ (kd x0).1 = 12 then (vm 180 [(2, x0)] r4.2).bind (fun r7 => if (vx r7) = 0 then (if 0 < x0 ∧ (kd x0).1 = 12 then (vm 180 [(2, x0)] r7.2).bind (fun r10 => if (vx r10) = 0 then (some (some (0, vx r4), r10.2)) else (if 0 < x0 ∧ (kd x0).1 = 12 then (vm 178 [(2, x0)] r10.2).bind (fun r13 => some (some (0, vx r4), r13.2)) else none)) else none) else (if (band (vx r4) (w32 ((vx r4) - 1))) = 0 then (if 0 < x0 ∧ (kd x0).1 = 12 then (vm 180 [(2, x0)] r7.2).bind (fun r16 => if (vx r16) = 0 then (some (some (0, vx r4), r16.2)) else (if 0 < x0 ∧ (kd x0).1 = 12 then (vm 178 [(2, x0)] r16.2).bind (fun r19 => some (some (0, vx r4), r19.2)) else none)) else none) else (if 0 < x0 ∧ (kd x0).1 = 12 then (vm 179 [(2, x0), (0, 4)] r7.2).bind (fun r17 => if 0 < x0 ∧ (kd x0).1 = 12 then (vm 180 [(2, x0)] r17.2).bind (fun r19 => if (vx r19) = 0 then (some (some (0, vx r4), r19.2)) else (if 0 < x0 ∧ (kd x0).1 = 12 then (vm 178 [(2, x0)] r19.2).bind (fun r22 => some (some (0, vx r4), r22.2)) else none)) else none) else none))) else none) else none := by
  show vp 189 0 [(2, x0), (0, x1), (9, 0)] [] h = _
  refine s_aload_n (pc1 := 1) (tk (n := 0) t189_0 rfl) rfl rfl rfl ?_
  refine s_iconst (pc1 := 2) (tk (n := 1) t189_0 rfl) rfl rfl  ?_
  refine s_iload_n (pc1 := 3) (tk (n := 2) t189_0 rfl) rfl rfl rfl ?_
  refine s_call0 (as := [(2, x0), (0, 1), (0, x1)]) (st1 := []) (p1 := 6) (M2 := 187) (tk (n := 3) t189_0 rfl) rfl rfl rfl rfl rfl (fun r4 => ?_)
  refine s_istore_n (pc1 := 7) (ls1 := [(2, x0), (0, x1), (0, vx r4)]) (tk (n := 4) t189_0 rfl) rfl rfl rfl rfl ?_
  refine s_aload_n (pc1 := 8) (tk (n := 5) t189_0 rfl) rfl rfl rfl ?_
  refine s_call0 (as := [(2, x0)]) (st1 := []) (p1 := 11) (M2 := 180) (tk (n := 6) t189_0 rfl) rfl rfl rfl rfl rfl (fun r7 => ?_)
  refine s_if_eq (pc1 := 14) (pt := 27) (tk (n := 7) t189_0 rfl) rfl rfl rfl ?_ ?_
  · refine s_aload_n (pc1 := 28) (tk (n := 17) t189_0 rfl) rfl rfl rfl ?_
    refine s_call0 (as := [(2, x0)]) (st1 := []) (p1 := 31) (M2 := 180) (tk (n := 18) t189_0 rfl) rfl rfl rfl rfl rfl (fun r10 => ?_)
    refine s_if_eq (pc1 := 34) (pt := 38) (tk (n := 19) t189_0 rfl) rfl rfl rfl ?_ ?_
    · refine s_iload_n (pc1 := 39) (tk (n := 22) t189_0 rfl) rfl rfl rfl ?_
      exact s_ret (tk (n := 23) t189_0 rfl) rfl rfl rfl
    · refine s_aload_n (pc1 := 35) (tk (n := 20) t189_0 rfl) rfl rfl rfl ?_
      refine s_call9 (as := [(2, x0)]) (st1 := []) (p1 := 38) (M2 := 178) (tk (n := 21) t189_0 rfl) rfl rfl rfl rfl rfl (fun r13 => ?_)
      refine s_iload_n (pc1 := 39) (tk (n := 22) t189_0 rfl) rfl rfl rfl ?_
      exact s_ret (tk (n := 23) t189_0 rfl) rfl rfl rfl
  · refine s_iload_n (pc1 := 15) (tk (n := 8) t189_0 rfl) rfl rfl rfl ?_
    refine s_iload_n (pc1 := 16) (tk (n := 9) t189_0 rfl) rfl rfl rfl ?_
    refine s_iconst (pc1 := 17) (tk (n := 10) t189_0 rfl) rfl rfl  ?_
    refine s_isub (pc1 := 18) (tk (n := 11) t189_0 rfl) rfl rfl  ?_
    refine s_iand (pc1 := 19) (tk (n := 12) t189_0 rfl) rfl rfl  ?_
    refine s_if_eq (pc1 := 22) (pt := 27) (tk (n := 13) t189_0 rfl) rfl rfl rfl ?_ ?_
    · refine s_aload_n (pc1 := 28) (tk (n := 17) t189_0 rfl) rfl rfl rfl ?_
      refine s_call0 (as := [(2, x0)]) (st1 := []) (p1 := 31) (M2 := 180) (tk (n := 18) t189_0 rfl) rfl rfl rfl rfl rfl (fun r16 => ?_)
      refine s_if_eq (pc1 := 34) (pt := 38) (tk (n := 19) t189_0 rfl) rfl rfl rfl ?_ ?_
      · refine s_iload_n (pc1 := 39) (tk (n := 22) t189_0 rfl) rfl rfl rfl ?_
        exact s_ret (tk (n := 23) t189_0 rfl) rfl rfl rfl
      · refine s_aload_n (pc1 := 35) (tk (n := 20) t189_0 rfl) rfl rfl rfl ?_
        refine s_call9 (as := [(2, x0)]) (st1 := []) (p1 := 38) (M2 := 178) (tk (n := 21) t189_0 rfl) rfl rfl rfl rfl rfl (fun r19 => ?_)
        refine s_iload_n (pc1 := 39) (tk (n := 22) t189_0 rfl) rfl rfl rfl ?_
        exact s_ret (tk (n := 23) t189_0 rfl) rfl rfl rfl
    · refine s_aload_n (pc1 := 23) (tk (n := 14) t189_0 rfl) rfl rfl rfl ?_
      refine s_iconst (pc1 := 24) (tk (n := 15) t189_0 rfl) rfl rfl  ?_
      refine s_call9 (as := [(2, x0), (0, 4)]) (st1 := []) (p1 := 27) (M2 := 179) (tk (n := 16) t189_0 rfl) rfl rfl rfl rfl rfl (fun r17 => ?_)
      refine s_aload_n (pc1 := 28) (tk (n := 17) t189_0 rfl) rfl rfl rfl ?_
      refine s_call0 (as := [(2, x0)]) (st1 := []) (p1 := 31) (M2 := 180) (tk (n := 18) t189_0 rfl) rfl rfl rfl rfl rfl (fun r19 => ?_)
      refine s_if_eq (pc1 := 34) (pt := 38) (tk (n := 19) t189_0 rfl) rfl rfl rfl ?_ ?_
      · refine s_iload_n (pc1 := 39) (tk (n := 22) t189_0 rfl) rfl rfl rfl ?_
        exact s_ret (tk (n := 23) t189_0 rfl) rfl rfl rfl
      · refine s_aload_n (pc1 := 35) (tk (n := 20) t189_0 rfl) rfl rfl rfl ?_
        refine s_call9 (as := [(2, x0)]) (st1 := []) (p1 := 38) (M2 := 178) (tk (n := 21) t189_0 rfl) rfl rfl rfl rfl rfl (fun r22 => ?_)
        refine s_iload_n (pc1 := 39) (tk (n := 22) t189_0 rfl) rfl rfl rfl ?_
        exact s_ret (tk (n := 23) t189_0 rfl) rfl rfl rfl
