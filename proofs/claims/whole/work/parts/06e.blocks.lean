set_option maxRecDepth 100000 in
set_option maxHeartbeats 4000000 in
theorem e_X12_texture (x0 : Int) (x1 : Int) (x2 : Int) (h : Hq) : vm 241 [(2, x0), (0, x1), (0, x2)] h = if 0 < x0 ∧ (kd x0).1 = 12 then (vm 235 [(2, x0), (0, x1)] h).bind (fun r3 => if (vx r3) ≠ 0 then (if x2 ≠ 7 then ((vm 165 [(0, x2), (0, 0), (0, 6)] r3.2).bind (fun r11 => if (vx r11) = 0 then (some (some (0, (-1)), r11.2)) else (if 0 < x0 ∧ (kd x0).1 = 12 then (vm 234 [(2, x0), (0, x1), (0, x2)] r11.2).bind (fun r16 => some (some (0, vx r16), r16.2)) else none))) else (if 0 < x0 ∧ (kd x0).1 = 12 then (vm 234 [(2, x0), (0, x1), (0, 2)] r3.2).bind (fun r11 => if 0 < x0 ∧ (kd x0).1 = 12 then (vm 234 [(2, x0), (0, x1), (0, 3)] r11.2).bind (fun r15 => if 0 < x0 ∧ (kd x0).1 = 12 then (vm 234 [(2, x0), (0, x1), (0, 4)] r15.2).bind (fun r19 => (vm 199 [(0, vx r11), (0, vx r15), (0, vx r19)] r19.2).bind (fun r20 => some (some (0, vx r20), r20.2))) else none) else none) else none)) else (some (some (0, (-1)), r3.2))) else none := by
  show vp 241 0 [(2, x0), (0, x1), (0, x2)] [] h = _
  refine s_aload_n (pc1 := 1) (tk (n := 0) t241_0 rfl) rfl rfl rfl ?_
  refine s_iload_n (pc1 := 2) (tk (n := 1) t241_0 rfl) rfl rfl rfl ?_
  refine s_call0 (as := [(2, x0), (0, x1)]) (st1 := []) (p1 := 5) (M2 := 235) (tk (n := 2) t241_0 rfl) rfl rfl rfl rfl rfl (fun r3 => ?_)
  refine s_if_ne (pc1 := 8) (pt := 10) (tk (n := 3) t241_0 rfl) rfl rfl rfl ?_ ?_
  · refine s_iload_n (pc1 := 11) (tk (n := 6) t241_0 rfl) rfl rfl rfl ?_
    refine s_bipush (pc1 := 13) (tk (n := 7) t241_0 rfl) rfl rfl  ?_
    refine s_ic_ne (pc1 := 16) (pt := 38) (tk (n := 8) t241_0 rfl) rfl rfl rfl ?_ ?_
    · refine s_iload_n (pc1 := 39) (tk (n := 23) t241_0 rfl) rfl rfl rfl ?_
      refine s_iconst (pc1 := 40) (tk (n := 24) t241_0 rfl) rfl rfl  ?_
      refine s_bipush (pc1 := 42) (tk (n := 25) t241_0 rfl) rfl rfl  ?_
      refine s_callS0 (as := [(0, x2), (0, 0), (0, 6)]) (st1 := []) (p1 := 45) (M2 := 165) (tk (n := 26) t241_0 rfl) rfl rfl rfl rfl rfl (fun r11 => ?_)
      refine s_if_eq (pc1 := 48) (pt := 57) (tk (n := 27) t241_0 rfl) rfl rfl rfl ?_ ?_
      · refine s_iconst (pc1 := 58) (tk (n := 3) t241_1 rfl) rfl rfl  ?_
        exact s_ret (tk (n := 4) t241_1 rfl) rfl rfl rfl
      · refine s_aload_n (pc1 := 49) (tk (n := 28) t241_0 rfl) rfl rfl rfl ?_
        refine s_iload_n (pc1 := 50) (tk (n := 29) t241_0 rfl) rfl rfl rfl ?_
        refine s_iload_n (pc1 := 51) (tk (n := 0) t241_1 rfl) rfl rfl rfl ?_
        refine s_call0 (as := [(2, x0), (0, x1), (0, x2)]) (st1 := []) (p1 := 54) (M2 := 234) (tk (n := 1) t241_1 rfl) rfl rfl rfl rfl rfl (fun r16 => ?_)
        refine s_goto (pc1 := 58) (tk (n := 2) t241_1 rfl) rfl rfl ?_
        exact s_ret (tk (n := 4) t241_1 rfl) rfl rfl rfl
    · refine s_aload_n (pc1 := 17) (tk (n := 9) t241_0 rfl) rfl rfl rfl ?_
      refine s_iload_n (pc1 := 18) (tk (n := 10) t241_0 rfl) rfl rfl rfl ?_
      refine s_iconst (pc1 := 19) (tk (n := 11) t241_0 rfl) rfl rfl  ?_
      refine s_call0 (as := [(2, x0), (0, x1), (0, 2)]) (st1 := []) (p1 := 22) (M2 := 234) (tk (n := 12) t241_0 rfl) rfl rfl rfl rfl rfl (fun r11 => ?_)
      refine s_aload_n (pc1 := 23) (tk (n := 13) t241_0 rfl) rfl rfl rfl ?_
      refine s_iload_n (pc1 := 24) (tk (n := 14) t241_0 rfl) rfl rfl rfl ?_
      refine s_iconst (pc1 := 25) (tk (n := 15) t241_0 rfl) rfl rfl  ?_
      refine s_call0 (as := [(2, x0), (0, x1), (0, 3)]) (st1 := [(0, vx r11)]) (p1 := 28) (M2 := 234) (tk (n := 16) t241_0 rfl) rfl rfl rfl rfl rfl (fun r15 => ?_)
      refine s_aload_n (pc1 := 29) (tk (n := 17) t241_0 rfl) rfl rfl rfl ?_
      refine s_iload_n (pc1 := 30) (tk (n := 18) t241_0 rfl) rfl rfl rfl ?_
      refine s_iconst (pc1 := 31) (tk (n := 19) t241_0 rfl) rfl rfl  ?_
      refine s_call0 (as := [(2, x0), (0, x1), (0, 4)]) (st1 := [(0, vx r15), (0, vx r11)]) (p1 := 34) (M2 := 234) (tk (n := 20) t241_0 rfl) rfl rfl rfl rfl rfl (fun r19 => ?_)
      refine s_callS0 (as := [(0, vx r11), (0, vx r15), (0, vx r19)]) (st1 := []) (p1 := 37) (M2 := 199) (tk (n := 21) t241_0 rfl) rfl rfl rfl rfl rfl (fun r20 => ?_)
      exact s_ret (tk (n := 22) t241_0 rfl) rfl rfl rfl
  · refine s_iconst (pc1 := 9) (tk (n := 4) t241_0 rfl) rfl rfl  ?_
    exact s_ret (tk (n := 5) t241_0 rfl) rfl rfl rfl
set_option maxRecDepth 100000 in
set_option maxHeartbeats 4000000 in
theorem e_X12_level (x0 : Int) (x1 : Int) (x2 : Int) (x3 : Int) (h : Hq) : vm 242 [(2, x0), (0, x1), (0, x2), (0, x3)] h = if 0 < x0 ∧ (kd x0).1 = 12 then (vm 236 [(2, x0), (0, x1), (0, x2)] h).bind (fun r4 => if (vx r4) ≠ 0 then (if x3 ≠ 0 then (if x3 ≠ 1 then (if x3 ≠ 2 then (some (some (0, (-1)), r4.2)) else (if 0 < x0 ∧ (kd x0).1 = 12 then (vm 239 [(2, x0), (0, x1), (0, x2)] r4.2).bind (fun r17 => some (some (0, vx r17), r17.2)) else none)) else (if 0 < x0 ∧ (kd x0).1 = 12 then (vm 238 [(2, x0), (0, x1), (0, x2)] r4.2).bind (fun r14 => some (some (0, vx r14), r14.2)) else none)) else (if 0 < x0 ∧ (kd x0).1 = 12 then (vm 237 [(2, x0), (0, x1), (0, x2)] r4.2).bind (fun r11 => some (some (0, vx r11), r11.2)) else none)) else (some (some (0, (-1)), r4.2))) else none := by
  show vp 242 0 [(2, x0), (0, x1), (0, x2), (0, x3)] [] h = _
  refine s_aload_n (pc1 := 1) (tk (n := 0) t242_0 rfl) rfl rfl rfl ?_
  refine s_iload_n (pc1 := 2) (tk (n := 1) t242_0 rfl) rfl rfl rfl ?_
  refine s_iload_n (pc1 := 3) (tk (n := 2) t242_0 rfl) rfl rfl rfl ?_
  refine s_call0 (as := [(2, x0), (0, x1), (0, x2)]) (st1 := []) (p1 := 6) (M2 := 236) (tk (n := 3) t242_0 rfl) rfl rfl rfl rfl rfl (fun r4 => ?_)
  refine s_if_ne (pc1 := 9) (pt := 11) (tk (n := 4) t242_0 rfl) rfl rfl rfl ?_ ?_
  · refine s_iload_n (pc1 := 12) (tk (n := 7) t242_0 rfl) rfl rfl rfl ?_
    refine s_if_ne (pc1 := 15) (pt := 24) (tk (n := 8) t242_0 rfl) rfl rfl rfl ?_ ?_
    · refine s_iload_n (pc1 := 25) (tk (n := 14) t242_0 rfl) rfl rfl rfl ?_
      refine s_iconst (pc1 := 26) (tk (n := 15) t242_0 rfl) rfl rfl  ?_
      refine s_ic_ne (pc1 := 29) (pt := 38) (tk (n := 16) t242_0 rfl) rfl rfl rfl ?_ ?_
      · refine s_iload_n (pc1 := 39) (tk (n := 22) t242_0 rfl) rfl rfl rfl ?_
        refine s_iconst (pc1 := 40) (tk (n := 23) t242_0 rfl) rfl rfl  ?_
        refine s_ic_ne (pc1 := 43) (pt := 52) (tk (n := 24) t242_0 rfl) rfl rfl rfl ?_ ?_
        · refine s_iconst (pc1 := 53) (tk (n := 0) t242_1 rfl) rfl rfl  ?_
          exact s_ret (tk (n := 1) t242_1 rfl) rfl rfl rfl
        · refine s_aload_n (pc1 := 44) (tk (n := 25) t242_0 rfl) rfl rfl rfl ?_
          refine s_iload_n (pc1 := 45) (tk (n := 26) t242_0 rfl) rfl rfl rfl ?_
          refine s_iload_n (pc1 := 46) (tk (n := 27) t242_0 rfl) rfl rfl rfl ?_
          refine s_call0 (as := [(2, x0), (0, x1), (0, x2)]) (st1 := []) (p1 := 49) (M2 := 239) (tk (n := 28) t242_0 rfl) rfl rfl rfl rfl rfl (fun r17 => ?_)
          refine s_goto (pc1 := 53) (tk (n := 29) t242_0 rfl) rfl rfl ?_
          exact s_ret (tk (n := 1) t242_1 rfl) rfl rfl rfl
      · refine s_aload_n (pc1 := 30) (tk (n := 17) t242_0 rfl) rfl rfl rfl ?_
        refine s_iload_n (pc1 := 31) (tk (n := 18) t242_0 rfl) rfl rfl rfl ?_
        refine s_iload_n (pc1 := 32) (tk (n := 19) t242_0 rfl) rfl rfl rfl ?_
        refine s_call0 (as := [(2, x0), (0, x1), (0, x2)]) (st1 := []) (p1 := 35) (M2 := 238) (tk (n := 20) t242_0 rfl) rfl rfl rfl rfl rfl (fun r14 => ?_)
        refine s_goto (pc1 := 53) (tk (n := 21) t242_0 rfl) rfl rfl ?_
        exact s_ret (tk (n := 1) t242_1 rfl) rfl rfl rfl
    · refine s_aload_n (pc1 := 16) (tk (n := 9) t242_0 rfl) rfl rfl rfl ?_
      refine s_iload_n (pc1 := 17) (tk (n := 10) t242_0 rfl) rfl rfl rfl ?_
      refine s_iload_n (pc1 := 18) (tk (n := 11) t242_0 rfl) rfl rfl rfl ?_
      refine s_call0 (as := [(2, x0), (0, x1), (0, x2)]) (st1 := []) (p1 := 21) (M2 := 237) (tk (n := 12) t242_0 rfl) rfl rfl rfl rfl rfl (fun r11 => ?_)
      refine s_goto (pc1 := 53) (tk (n := 13) t242_0 rfl) rfl rfl ?_
      exact s_ret (tk (n := 1) t242_1 rfl) rfl rfl rfl
  · refine s_iconst (pc1 := 10) (tk (n := 5) t242_0 rfl) rfl rfl  ?_
    exact s_ret (tk (n := 6) t242_0 rfl) rfl rfl rfl
set_option maxRecDepth 100000 in
set_option maxHeartbeats 4000000 in
theorem e_X12_curve (x0 : Int) (x1 : Int) (x2 : Int) (x3 : Int) (h : Hq) : vm 243 [(0, x0), (0, x1), (0, x2), (0, x3)] h = vp 243 9 [(0, x0), (0, x1), (0, x2), (0, x3), (0, 0), (0, 0), (0, 0)] [] h := by
  show vp 243 0 [(0, x0), (0, x1), (0, x2), (0, x3), (9, 0), (9, 0), (9, 0)] [] h = _
  refine s_iconst (pc1 := 1) (tk (n := 0) t243_0 rfl) rfl rfl  ?_
  refine s_istore (pc1 := 3) (ls1 := [(0, x0), (0, x1), (0, x2), (0, x3), (0, 0), (9, 0), (9, 0)]) (tk (n := 1) t243_0 rfl) rfl rfl rfl rfl ?_
  refine s_iconst (pc1 := 4) (tk (n := 2) t243_0 rfl) rfl rfl  ?_
  refine s_istore (pc1 := 6) (ls1 := [(0, x0), (0, x1), (0, x2), (0, x3), (0, 0), (0, 0), (9, 0)]) (tk (n := 3) t243_0 rfl) rfl rfl rfl rfl ?_
  refine s_iconst (pc1 := 7) (tk (n := 4) t243_0 rfl) rfl rfl  ?_
  refine s_istore (pc1 := 9) (ls1 := [(0, x0), (0, x1), (0, x2), (0, x3), (0, 0), (0, 0), (0, 0)]) (tk (n := 5) t243_0 rfl) rfl rfl rfl rfl ?_
  rfl
set_option maxRecDepth 100000 in
set_option maxHeartbeats 4000000 in
theorem e_X12_curve_9 (x0 : Int) (x1 : Int) (x2 : Int) (x3 : Int) (x4 : Int) (x5 : Int) (x6 : Int) (h : Hq) : vp 243 9 [(0, x0), (0, x1), (0, x2), (0, x3), (0, x4), (0, x5), (0, x6)] [] h = if (bshl 1 x6) < x2 then (if (bshl 1 x6) ≥ x2 then (vp 243 50 [(0, x0), (0, x1), (0, x2), (0, x3), (0, x4), (0, x5), (0, x6)] [] h) else (vp 243 50 [(0, x0), (0, x1), (0, x2), (0, x3), (0, bor x4 (bshl (band (bshr x0 x6) 1) x5)), (0, w32 (x5 + 1)), (0, x6)] [] h)) else (if (bshl 1 x6) ≥ x3 then (some (some (0, x4), h)) else (if (bshl 1 x6) ≥ x2 then (vp 243 50 [(0, x0), (0, x1), (0, x2), (0, x3), (0, x4), (0, x5), (0, x6)] [] h) else (vp 243 50 [(0, x0), (0, x1), (0, x2), (0, x3), (0, bor x4 (bshl (band (bshr x0 x6) 1) x5)), (0, w32 (x5 + 1)), (0, x6)] [] h))) := by
  refine s_iconst (pc1 := 10) (tk (n := 6) t243_0 rfl) rfl rfl  ?_
  refine s_iload (pc1 := 12) (tk (n := 7) t243_0 rfl) rfl rfl rfl ?_
  refine s_ishl (pc1 := 13) (tk (n := 8) t243_0 rfl) rfl rfl  ?_
  refine s_iload_n (pc1 := 14) (tk (n := 9) t243_0 rfl) rfl rfl rfl ?_
  refine s_ic_lt (pc1 := 17) (pt := 25) (tk (n := 10) t243_0 rfl) rfl rfl rfl ?_ ?_
  · refine s_iconst (pc1 := 26) (tk (n := 16) t243_0 rfl) rfl rfl  ?_
    refine s_iload (pc1 := 28) (tk (n := 17) t243_0 rfl) rfl rfl rfl ?_
    refine s_ishl (pc1 := 29) (tk (n := 18) t243_0 rfl) rfl rfl  ?_
    refine s_iload_n (pc1 := 30) (tk (n := 19) t243_0 rfl) rfl rfl rfl ?_
    refine s_ic_ge (pc1 := 33) (pt := 50) (tk (n := 20) t243_0 rfl) rfl rfl rfl ?_ ?_
    · rfl
    · refine s_iload (pc1 := 35) (tk (n := 21) t243_0 rfl) rfl rfl rfl ?_
      refine s_iload_n (pc1 := 36) (tk (n := 22) t243_0 rfl) rfl rfl rfl ?_
      refine s_iload (pc1 := 38) (tk (n := 23) t243_0 rfl) rfl rfl rfl ?_
      refine s_ishr (pc1 := 39) (tk (n := 24) t243_0 rfl) rfl rfl  ?_
      refine s_iconst (pc1 := 40) (tk (n := 25) t243_0 rfl) rfl rfl  ?_
      refine s_iand (pc1 := 41) (tk (n := 26) t243_0 rfl) rfl rfl  ?_
      refine s_iload (pc1 := 43) (tk (n := 27) t243_0 rfl) rfl rfl rfl ?_
      refine s_ishl (pc1 := 44) (tk (n := 28) t243_0 rfl) rfl rfl  ?_
      refine s_ior (pc1 := 45) (tk (n := 29) t243_0 rfl) rfl rfl  ?_
      refine s_istore (pc1 := 47) (ls1 := [(0, x0), (0, x1), (0, x2), (0, x3), (0, bor x4 (bshl (band (bshr x0 x6) 1) x5)), (0, x5), (0, x6)]) (tk (n := 0) t243_1 rfl) rfl rfl rfl rfl ?_
      refine s_iinc (pc1 := 50) (ls1 := [(0, x0), (0, x1), (0, x2), (0, x3), (0, bor x4 (bshl (band (bshr x0 x6) 1) x5)), (0, w32 (x5 + 1)), (0, x6)]) (tk (n := 1) t243_1 rfl) rfl rfl rfl rfl ?_
      rfl
  · refine s_iconst (pc1 := 18) (tk (n := 11) t243_0 rfl) rfl rfl  ?_
    refine s_iload (pc1 := 20) (tk (n := 12) t243_0 rfl) rfl rfl rfl ?_
    refine s_ishl (pc1 := 21) (tk (n := 13) t243_0 rfl) rfl rfl  ?_
    refine s_iload_n (pc1 := 22) (tk (n := 14) t243_0 rfl) rfl rfl rfl ?_
    refine s_ic_ge (pc1 := 25) (pt := 81) (tk (n := 15) t243_0 rfl) rfl rfl rfl ?_ ?_
    · refine s_iload (pc1 := 83) (tk (n := 20) t243_1 rfl) rfl rfl rfl ?_
      exact s_ret (tk (n := 21) t243_1 rfl) rfl rfl rfl
    · refine s_iconst (pc1 := 26) (tk (n := 16) t243_0 rfl) rfl rfl  ?_
      refine s_iload (pc1 := 28) (tk (n := 17) t243_0 rfl) rfl rfl rfl ?_
      refine s_ishl (pc1 := 29) (tk (n := 18) t243_0 rfl) rfl rfl  ?_
      refine s_iload_n (pc1 := 30) (tk (n := 19) t243_0 rfl) rfl rfl rfl ?_
      refine s_ic_ge (pc1 := 33) (pt := 50) (tk (n := 20) t243_0 rfl) rfl rfl rfl ?_ ?_
      · rfl
      · refine s_iload (pc1 := 35) (tk (n := 21) t243_0 rfl) rfl rfl rfl ?_
        refine s_iload_n (pc1 := 36) (tk (n := 22) t243_0 rfl) rfl rfl rfl ?_
        refine s_iload (pc1 := 38) (tk (n := 23) t243_0 rfl) rfl rfl rfl ?_
        refine s_ishr (pc1 := 39) (tk (n := 24) t243_0 rfl) rfl rfl  ?_
        refine s_iconst (pc1 := 40) (tk (n := 25) t243_0 rfl) rfl rfl  ?_
        refine s_iand (pc1 := 41) (tk (n := 26) t243_0 rfl) rfl rfl  ?_
        refine s_iload (pc1 := 43) (tk (n := 27) t243_0 rfl) rfl rfl rfl ?_
        refine s_ishl (pc1 := 44) (tk (n := 28) t243_0 rfl) rfl rfl  ?_
        refine s_ior (pc1 := 45) (tk (n := 29) t243_0 rfl) rfl rfl  ?_
        refine s_istore (pc1 := 47) (ls1 := [(0, x0), (0, x1), (0, x2), (0, x3), (0, bor x4 (bshl (band (bshr x0 x6) 1) x5)), (0, x5), (0, x6)]) (tk (n := 0) t243_1 rfl) rfl rfl rfl rfl ?_
        refine s_iinc (pc1 := 50) (ls1 := [(0, x0), (0, x1), (0, x2), (0, x3), (0, bor x4 (bshl (band (bshr x0 x6) 1) x5)), (0, w32 (x5 + 1)), (0, x6)]) (tk (n := 1) t243_1 rfl) rfl rfl rfl rfl ?_
        rfl
set_option maxRecDepth 100000 in
set_option maxHeartbeats 4000000 in
theorem e_X12_curve_50 (x0 : Int) (x1 : Int) (x2 : Int) (x3 : Int) (x4 : Int) (x5 : Int) (x6 : Int) (h : Hq) : vp 243 50 [(0, x0), (0, x1), (0, x2), (0, x3), (0, x4), (0, x5), (0, x6)] [] h = if (bshl 1 x6) ≥ x3 then (vp 243 9 [(0, x0), (0, x1), (0, x2), (0, x3), (0, x4), (0, x5), (0, w32 (x6 + 1))] [] h) else (vp 243 9 [(0, x0), (0, x1), (0, x2), (0, x3), (0, bor x4 (bshl (band (bshr x1 x6) 1) x5)), (0, w32 (x5 + 1)), (0, w32 (x6 + 1))] [] h) := by
  refine s_iconst (pc1 := 51) (tk (n := 2) t243_1 rfl) rfl rfl  ?_
  refine s_iload (pc1 := 53) (tk (n := 3) t243_1 rfl) rfl rfl rfl ?_
  refine s_ishl (pc1 := 54) (tk (n := 4) t243_1 rfl) rfl rfl  ?_
  refine s_iload_n (pc1 := 55) (tk (n := 5) t243_1 rfl) rfl rfl rfl ?_
  refine s_ic_ge (pc1 := 58) (pt := 75) (tk (n := 6) t243_1 rfl) rfl rfl rfl ?_ ?_
  · refine s_iinc (pc1 := 78) (ls1 := [(0, x0), (0, x1), (0, x2), (0, x3), (0, x4), (0, x5), (0, w32 (x6 + 1))]) (tk (n := 18) t243_1 rfl) rfl rfl rfl rfl ?_
    refine s_goto (pc1 := 9) (tk (n := 19) t243_1 rfl) rfl rfl ?_
    rfl
  · refine s_iload (pc1 := 60) (tk (n := 7) t243_1 rfl) rfl rfl rfl ?_
    refine s_iload_n (pc1 := 61) (tk (n := 8) t243_1 rfl) rfl rfl rfl ?_
    refine s_iload (pc1 := 63) (tk (n := 9) t243_1 rfl) rfl rfl rfl ?_
    refine s_ishr (pc1 := 64) (tk (n := 10) t243_1 rfl) rfl rfl  ?_
    refine s_iconst (pc1 := 65) (tk (n := 11) t243_1 rfl) rfl rfl  ?_
    refine s_iand (pc1 := 66) (tk (n := 12) t243_1 rfl) rfl rfl  ?_
    refine s_iload (pc1 := 68) (tk (n := 13) t243_1 rfl) rfl rfl rfl ?_
    refine s_ishl (pc1 := 69) (tk (n := 14) t243_1 rfl) rfl rfl  ?_
    refine s_ior (pc1 := 70) (tk (n := 15) t243_1 rfl) rfl rfl  ?_
    refine s_istore (pc1 := 72) (ls1 := [(0, x0), (0, x1), (0, x2), (0, x3), (0, bor x4 (bshl (band (bshr x1 x6) 1) x5)), (0, x5), (0, x6)]) (tk (n := 16) t243_1 rfl) rfl rfl rfl rfl ?_
    refine s_iinc (pc1 := 75) (ls1 := [(0, x0), (0, x1), (0, x2), (0, x3), (0, bor x4 (bshl (band (bshr x1 x6) 1) x5)), (0, w32 (x5 + 1)), (0, x6)]) (tk (n := 17) t243_1 rfl) rfl rfl rfl rfl ?_
    refine s_iinc (pc1 := 78) (ls1 := [(0, x0), (0, x1), (0, x2), (0, x3), (0, bor x4 (bshl (band (bshr x1 x6) 1) x5)), (0, w32 (x5 + 1)), (0, w32 (x6 + 1))]) (tk (n := 18) t243_1 rfl) rfl rfl rfl rfl ?_
    refine s_goto (pc1 := 9) (tk (n := 19) t243_1 rfl) rfl rfl ?_
    rfl
set_option maxRecDepth 100000 in
set_option maxHeartbeats 4000000 in
theorem e_X12_behind (x0 : Int) (x1 : Int) (x2 : Int) (x3 : Int) (x4 : Int) (h : Hq) : vm 244 [(2, x0), (0, x1), (0, x2), (0, x3), (0, x4)] h = if 0 < x0 ∧ (kd x0).1 = 12 then (vm 237 [(2, x0), (0, x1), (0, x2)] h).bind (fun r4 => if 0 < x0 ∧ (kd x0).1 = 12 then (vm 238 [(2, x0), (0, x1), (0, x2)] r4.2).bind (fun r9 => if 0 < x0 ∧ (kd x0).1 = 12 then if (r9.2.2 x0 30) = (-1) then (if 0 < x0 ∧ (kd x0).1 = 12 then (vm 234 [(2, x0), (0, x1), (0, 5)] r9.2).bind (fun r18 => vp 244 37 [(2, x0), (0, x1), (0, x2), (0, x3), (0, x4), (0, vx r4), (0, vx r9), (9, 0)] [(0, vx r18)] r18.2) else none) else (if 0 < x0 ∧ (kd x0).1 = 12 then vp 244 37 [(2, x0), (0, x1), (0, x2), (0, x3), (0, x4), (0, vx r4), (0, vx r9), (9, 0)] [(0, r9.2.2 x0 30)] r9.2 else none) else none) else none) else none := by
  show vp 244 0 [(2, x0), (0, x1), (0, x2), (0, x3), (0, x4), (9, 0), (9, 0), (9, 0)] [] h = _
  refine s_aload_n (pc1 := 1) (tk (n := 0) t244_0 rfl) rfl rfl rfl ?_
  refine s_iload_n (pc1 := 2) (tk (n := 1) t244_0 rfl) rfl rfl rfl ?_
  refine s_iload_n (pc1 := 3) (tk (n := 2) t244_0 rfl) rfl rfl rfl ?_
  refine s_call0 (as := [(2, x0), (0, x1), (0, x2)]) (st1 := []) (p1 := 6) (M2 := 237) (tk (n := 3) t244_0 rfl) rfl rfl rfl rfl rfl (fun r4 => ?_)
  refine s_istore (pc1 := 8) (ls1 := [(2, x0), (0, x1), (0, x2), (0, x3), (0, x4), (0, vx r4), (9, 0), (9, 0)]) (tk (n := 4) t244_0 rfl) rfl rfl rfl rfl ?_
  refine s_aload_n (pc1 := 9) (tk (n := 5) t244_0 rfl) rfl rfl rfl ?_
  refine s_iload_n (pc1 := 10) (tk (n := 6) t244_0 rfl) rfl rfl rfl ?_
  refine s_iload_n (pc1 := 11) (tk (n := 7) t244_0 rfl) rfl rfl rfl ?_
  refine s_call0 (as := [(2, x0), (0, x1), (0, x2)]) (st1 := []) (p1 := 14) (M2 := 238) (tk (n := 8) t244_0 rfl) rfl rfl rfl rfl rfl (fun r9 => ?_)
  refine s_istore (pc1 := 16) (ls1 := [(2, x0), (0, x1), (0, x2), (0, x3), (0, x4), (0, vx r4), (0, vx r9), (9, 0)]) (tk (n := 9) t244_0 rfl) rfl rfl rfl rfl ?_
  refine s_aload_n (pc1 := 17) (tk (n := 10) t244_0 rfl) rfl rfl rfl ?_
  refine s_getf (pc1 := 20) (c := 12) (t1 := 0) (tk (n := 11) t244_0 rfl) rfl rfl (by decide) rfl rfl ?_
  refine s_iconst (pc1 := 21) (tk (n := 12) t244_0 rfl) rfl rfl  ?_
  refine s_ic_eq (pc1 := 24) (pt := 31) (tk (n := 13) t244_0 rfl) rfl rfl rfl ?_ ?_
  · refine s_aload_n (pc1 := 32) (tk (n := 17) t244_0 rfl) rfl rfl rfl ?_
    refine s_iload_n (pc1 := 33) (tk (n := 18) t244_0 rfl) rfl rfl rfl ?_
    refine s_iconst (pc1 := 34) (tk (n := 19) t244_0 rfl) rfl rfl  ?_
    refine s_call0 (as := [(2, x0), (0, x1), (0, 5)]) (st1 := []) (p1 := 37) (M2 := 234) (tk (n := 20) t244_0 rfl) rfl rfl rfl rfl rfl (fun r18 => ?_)
    rfl
  · refine s_aload_n (pc1 := 25) (tk (n := 14) t244_0 rfl) rfl rfl rfl ?_
    refine s_getf (pc1 := 28) (c := 12) (t1 := 0) (tk (n := 15) t244_0 rfl) rfl rfl (by decide) rfl rfl ?_
    refine s_goto (pc1 := 37) (tk (n := 16) t244_0 rfl) rfl rfl ?_
    rfl
set_option maxRecDepth 100000 in
set_option maxHeartbeats 4000000 in
theorem e_X12_behind_37 (z0 : Vl) (z1 : Vl) (z2 : Vl) (x3 : Int) (x4 : Int) (x5 : Int) (x6 : Int) (z7 : Vl) (s0 : Int) (h : Hq) : vp 244 37 [z0, z1, z2, (0, x3), (0, x4), (0, x5), (0, x6), z7] [(0, s0)] h = if s0 ≠ 2 then (if s0 = 0 then (some (some (0, w32 ((w32 (x4 * x5)) + x3)), h)) else (if x5 < 4 then (some (some (0, w32 ((w32 (x4 * x5)) + x3)), h)) else (if x6 ≥ 4 then (some (some (0, w32 ((w32 ((w32 (16 * (w32 ((w32 ((w32 (x4.tdiv 4)) * (w32 (x5.tdiv 4)))) + (w32 (x3.tdiv 4)))))) + (w32 (4 * (x4.tmod 4))))) + (x3.tmod 4))), h)) else (some (some (0, w32 ((w32 (x4 * x5)) + x3)), h))))) else ((vm 243 [(0, x3), (0, x4), (0, x5), (0, x6)] h).bind (fun r9 => some (some (0, vx r9), r9.2))) := by
  refine s_fg (ls1 := [(9, 0), (9, 0), (9, 0), (0, x3), (0, x4), (0, x5), (0, x6), (9, 0)]) (tk (n := 21) t244_0 rfl) rfl ?_
  refine s_istore (pc1 := 39) (ls1 := [(9, 0), (9, 0), (9, 0), (0, x3), (0, x4), (0, x5), (0, x6), (0, s0)]) (tk (n := 21) t244_0 rfl) rfl rfl rfl rfl ?_
  refine s_iload (pc1 := 41) (tk (n := 22) t244_0 rfl) rfl rfl rfl ?_
  refine s_iconst (pc1 := 42) (tk (n := 23) t244_0 rfl) rfl rfl  ?_
  refine s_ic_ne (pc1 := 45) (pt := 56) (tk (n := 24) t244_0 rfl) rfl rfl rfl ?_ ?_
  · refine s_iload (pc1 := 58) (tk (n := 1) t244_1 rfl) rfl rfl rfl ?_
    refine s_if_eq (pc1 := 61) (pt := 73) (tk (n := 2) t244_1 rfl) rfl rfl rfl ?_ ?_
    · refine s_iload (pc1 := 75) (tk (n := 9) t244_1 rfl) rfl rfl rfl ?_
      refine s_iload (pc1 := 77) (tk (n := 10) t244_1 rfl) rfl rfl rfl ?_
      refine s_imul (pc1 := 78) (tk (n := 11) t244_1 rfl) rfl rfl  ?_
      refine s_iload_n (pc1 := 79) (tk (n := 12) t244_1 rfl) rfl rfl rfl ?_
      refine s_iadd (pc1 := 80) (tk (n := 13) t244_1 rfl) rfl rfl  ?_
      exact s_ret (tk (n := 14) t244_1 rfl) rfl rfl rfl
    · refine s_iload (pc1 := 63) (tk (n := 3) t244_1 rfl) rfl rfl rfl ?_
      refine s_iconst (pc1 := 64) (tk (n := 4) t244_1 rfl) rfl rfl  ?_
      refine s_ic_lt (pc1 := 67) (pt := 73) (tk (n := 5) t244_1 rfl) rfl rfl rfl ?_ ?_
      · refine s_iload (pc1 := 75) (tk (n := 9) t244_1 rfl) rfl rfl rfl ?_
        refine s_iload (pc1 := 77) (tk (n := 10) t244_1 rfl) rfl rfl rfl ?_
        refine s_imul (pc1 := 78) (tk (n := 11) t244_1 rfl) rfl rfl  ?_
        refine s_iload_n (pc1 := 79) (tk (n := 12) t244_1 rfl) rfl rfl rfl ?_
        refine s_iadd (pc1 := 80) (tk (n := 13) t244_1 rfl) rfl rfl  ?_
        exact s_ret (tk (n := 14) t244_1 rfl) rfl rfl rfl
      · refine s_iload (pc1 := 69) (tk (n := 6) t244_1 rfl) rfl rfl rfl ?_
        refine s_iconst (pc1 := 70) (tk (n := 7) t244_1 rfl) rfl rfl  ?_
        refine s_ic_ge (pc1 := 73) (pt := 81) (tk (n := 8) t244_1 rfl) rfl rfl rfl ?_ ?_
        · refine s_bipush (pc1 := 83) (tk (n := 15) t244_1 rfl) rfl rfl  ?_
          refine s_iload (pc1 := 85) (tk (n := 16) t244_1 rfl) rfl rfl rfl ?_
          refine s_iconst (pc1 := 86) (tk (n := 17) t244_1 rfl) rfl rfl  ?_
          refine s_idivc (pc1 := 87) (tk (n := 18) t244_1 rfl) rfl rfl (by decide) ?_
          refine s_iload (pc1 := 89) (tk (n := 19) t244_1 rfl) rfl rfl rfl ?_
          refine s_iconst (pc1 := 90) (tk (n := 20) t244_1 rfl) rfl rfl  ?_
          refine s_idivc (pc1 := 91) (tk (n := 21) t244_1 rfl) rfl rfl (by decide) ?_
          refine s_imul (pc1 := 92) (tk (n := 22) t244_1 rfl) rfl rfl  ?_
          refine s_iload_n (pc1 := 93) (tk (n := 23) t244_1 rfl) rfl rfl rfl ?_
          refine s_iconst (pc1 := 94) (tk (n := 24) t244_1 rfl) rfl rfl  ?_
          refine s_idivc (pc1 := 95) (tk (n := 25) t244_1 rfl) rfl rfl (by decide) ?_
          refine s_iadd (pc1 := 96) (tk (n := 26) t244_1 rfl) rfl rfl  ?_
          refine s_imul (pc1 := 97) (tk (n := 27) t244_1 rfl) rfl rfl  ?_
          refine s_iconst (pc1 := 98) (tk (n := 28) t244_1 rfl) rfl rfl  ?_
          refine s_iload (pc1 := 100) (tk (n := 29) t244_1 rfl) rfl rfl rfl ?_
          refine s_iconst (pc1 := 101) (tk (n := 0) t244_2 rfl) rfl rfl  ?_
          refine s_iremc (pc1 := 102) (tk (n := 1) t244_2 rfl) rfl rfl (by decide) ?_
          refine s_imul (pc1 := 103) (tk (n := 2) t244_2 rfl) rfl rfl  ?_
          refine s_iadd (pc1 := 104) (tk (n := 3) t244_2 rfl) rfl rfl  ?_
          refine s_iload_n (pc1 := 105) (tk (n := 4) t244_2 rfl) rfl rfl rfl ?_
          refine s_iconst (pc1 := 106) (tk (n := 5) t244_2 rfl) rfl rfl  ?_
          refine s_iremc (pc1 := 107) (tk (n := 6) t244_2 rfl) rfl rfl (by decide) ?_
          refine s_iadd (pc1 := 108) (tk (n := 7) t244_2 rfl) rfl rfl  ?_
          exact s_ret (tk (n := 8) t244_2 rfl) rfl rfl rfl
        · refine s_iload (pc1 := 75) (tk (n := 9) t244_1 rfl) rfl rfl rfl ?_
          refine s_iload (pc1 := 77) (tk (n := 10) t244_1 rfl) rfl rfl rfl ?_
          refine s_imul (pc1 := 78) (tk (n := 11) t244_1 rfl) rfl rfl  ?_
          refine s_iload_n (pc1 := 79) (tk (n := 12) t244_1 rfl) rfl rfl rfl ?_
          refine s_iadd (pc1 := 80) (tk (n := 13) t244_1 rfl) rfl rfl  ?_
          exact s_ret (tk (n := 14) t244_1 rfl) rfl rfl rfl
  · refine s_iload_n (pc1 := 46) (tk (n := 25) t244_0 rfl) rfl rfl rfl ?_
    refine s_iload (pc1 := 48) (tk (n := 26) t244_0 rfl) rfl rfl rfl ?_
    refine s_iload (pc1 := 50) (tk (n := 27) t244_0 rfl) rfl rfl rfl ?_
    refine s_iload (pc1 := 52) (tk (n := 28) t244_0 rfl) rfl rfl rfl ?_
    refine s_callS0 (as := [(0, x3), (0, x4), (0, x5), (0, x6)]) (st1 := []) (p1 := 55) (M2 := 243) (tk (n := 29) t244_0 rfl) rfl rfl rfl rfl rfl (fun r9 => ?_)
    exact s_ret (tk (n := 0) t244_1 rfl) rfl rfl rfl
set_option maxRecDepth 100000 in
set_option maxHeartbeats 4000000 in
theorem e_X12_placeOf (x0 : Int) (x1 : Int) (x2 : Int) (x3 : Int) (x4 : Int) (h : Hq) : vm 245 [(2, x0), (0, x1), (0, x2), (0, x3), (0, x4)] h = if 0 < x0 ∧ (kd x0).1 = 12 then (vm 239 [(2, x0), (0, x1), (0, x2)] h).bind (fun r4 => if 0 < x0 ∧ (kd x0).1 = 12 then (vm 244 [(2, x0), (0, x1), (0, x2), (0, x3), (0, x4)] r4.2).bind (fun r10 => some (some (0, w32 ((vx r4) + (vx r10))), r10.2)) else none) else none := by
  show vp 245 0 [(2, x0), (0, x1), (0, x2), (0, x3), (0, x4)] [] h = _
  refine s_aload_n (pc1 := 1) (tk (n := 0) t245_0 rfl) rfl rfl rfl ?_
  refine s_iload_n (pc1 := 2) (tk (n := 1) t245_0 rfl) rfl rfl rfl ?_
  refine s_iload_n (pc1 := 3) (tk (n := 2) t245_0 rfl) rfl rfl rfl ?_
  refine s_call0 (as := [(2, x0), (0, x1), (0, x2)]) (st1 := []) (p1 := 6) (M2 := 239) (tk (n := 3) t245_0 rfl) rfl rfl rfl rfl rfl (fun r4 => ?_)
  refine s_aload_n (pc1 := 7) (tk (n := 4) t245_0 rfl) rfl rfl rfl ?_
  refine s_iload_n (pc1 := 8) (tk (n := 5) t245_0 rfl) rfl rfl rfl ?_
  refine s_iload_n (pc1 := 9) (tk (n := 6) t245_0 rfl) rfl rfl rfl ?_
  refine s_iload_n (pc1 := 10) (tk (n := 7) t245_0 rfl) rfl rfl rfl ?_
  refine s_iload (pc1 := 12) (tk (n := 8) t245_0 rfl) rfl rfl rfl ?_
  refine s_call0 (as := [(2, x0), (0, x1), (0, x2), (0, x3), (0, x4)]) (st1 := [(0, vx r4)]) (p1 := 15) (M2 := 244) (tk (n := 9) t245_0 rfl) rfl rfl rfl rfl rfl (fun r10 => ?_)
  refine s_iadd (pc1 := 16) (tk (n := 10) t245_0 rfl) rfl rfl  ?_
  exact s_ret (tk (n := 11) t245_0 rfl) rfl rfl rfl
set_option maxRecDepth 100000 in
set_option maxHeartbeats 4000000 in
theorem e_X12_place (x0 : Int) (x1 : Int) (x2 : Int) (x3 : Int) (x4 : Int) (h : Hq) : vm 246 [(2, x0), (0, x1), (0, x2), (0, x3), (0, x4)] h = if 0 < x0 ∧ (kd x0).1 = 12 then (vm 240 [(2, x0), (0, x1), (0, x2), (0, x3), (0, x4)] h).bind (fun r6 => if (vx r6) = 0 then (some (some (0, (-1)), r6.2)) else (if 0 < x0 ∧ (kd x0).1 = 12 then (vm 245 [(2, x0), (0, x1), (0, x2), (0, x3), (0, x4)] r6.2).bind (fun r13 => some (some (0, vx r13), r13.2)) else none)) else none := by
  show vp 246 0 [(2, x0), (0, x1), (0, x2), (0, x3), (0, x4)] [] h = _
  refine s_aload_n (pc1 := 1) (tk (n := 0) t246_0 rfl) rfl rfl rfl ?_
  refine s_iload_n (pc1 := 2) (tk (n := 1) t246_0 rfl) rfl rfl rfl ?_
  refine s_iload_n (pc1 := 3) (tk (n := 2) t246_0 rfl) rfl rfl rfl ?_
  refine s_iload_n (pc1 := 4) (tk (n := 3) t246_0 rfl) rfl rfl rfl ?_
  refine s_iload (pc1 := 6) (tk (n := 4) t246_0 rfl) rfl rfl rfl ?_
  refine s_call0 (as := [(2, x0), (0, x1), (0, x2), (0, x3), (0, x4)]) (st1 := []) (p1 := 9) (M2 := 240) (tk (n := 5) t246_0 rfl) rfl rfl rfl rfl rfl (fun r6 => ?_)
  refine s_if_eq (pc1 := 12) (pt := 24) (tk (n := 6) t246_0 rfl) rfl rfl rfl ?_ ?_
  · refine s_iconst (pc1 := 25) (tk (n := 14) t246_0 rfl) rfl rfl  ?_
    exact s_ret (tk (n := 15) t246_0 rfl) rfl rfl rfl
  · refine s_aload_n (pc1 := 13) (tk (n := 7) t246_0 rfl) rfl rfl rfl ?_
    refine s_iload_n (pc1 := 14) (tk (n := 8) t246_0 rfl) rfl rfl rfl ?_
    refine s_iload_n (pc1 := 15) (tk (n := 9) t246_0 rfl) rfl rfl rfl ?_
    refine s_iload_n (pc1 := 16) (tk (n := 10) t246_0 rfl) rfl rfl rfl ?_
    refine s_iload (pc1 := 18) (tk (n := 11) t246_0 rfl) rfl rfl rfl ?_
    refine s_call0 (as := [(2, x0), (0, x1), (0, x2), (0, x3), (0, x4)]) (st1 := []) (p1 := 21) (M2 := 245) (tk (n := 12) t246_0 rfl) rfl rfl rfl rfl rfl (fun r13 => ?_)
    refine s_goto (pc1 := 25) (tk (n := 13) t246_0 rfl) rfl rfl ?_
    exact s_ret (tk (n := 15) t246_0 rfl) rfl rfl rfl
set_option maxRecDepth 100000 in
set_option maxHeartbeats 4000000 in
theorem e_X12_at (x0 : Int) (x1 : Int) (x2 : Int) (x3 : Int) (h : Hq) : vm 247 [(2, x0), (0, x1), (0, x2), (0, x3)] h = if 0 < x0 ∧ (kd x0).1 = 12 then (vm 236 [(2, x0), (0, x1), (0, x2)] h).bind (fun r4 => if (vx r4) ≠ 0 then (vp 247 14 [(2, x0), (0, x1), (0, x2), (0, x3), (0, 0), (9, 0)] [] r4.2) else (some (some (0, (-1)), r4.2))) else none := by
  show vp 247 0 [(2, x0), (0, x1), (0, x2), (0, x3), (9, 0), (9, 0)] [] h = _
  refine s_aload_n (pc1 := 1) (tk (n := 0) t247_0 rfl) rfl rfl rfl ?_
  refine s_iload_n (pc1 := 2) (tk (n := 1) t247_0 rfl) rfl rfl rfl ?_
  refine s_iload_n (pc1 := 3) (tk (n := 2) t247_0 rfl) rfl rfl rfl ?_
  refine s_call0 (as := [(2, x0), (0, x1), (0, x2)]) (st1 := []) (p1 := 6) (M2 := 236) (tk (n := 3) t247_0 rfl) rfl rfl rfl rfl rfl (fun r4 => ?_)
  refine s_if_ne (pc1 := 9) (pt := 11) (tk (n := 4) t247_0 rfl) rfl rfl rfl ?_ ?_
  · refine s_iconst (pc1 := 12) (tk (n := 7) t247_0 rfl) rfl rfl  ?_
    refine s_istore (pc1 := 14) (ls1 := [(2, x0), (0, x1), (0, x2), (0, x3), (0, 0), (9, 0)]) (tk (n := 8) t247_0 rfl) rfl rfl rfl rfl ?_
    rfl
  · refine s_iconst (pc1 := 10) (tk (n := 5) t247_0 rfl) rfl rfl  ?_
    exact s_ret (tk (n := 6) t247_0 rfl) rfl rfl rfl
set_option maxRecDepth 100000 in
set_option maxHeartbeats 4000000 in
theorem e_X12_at_14 (x0 : Int) (x1 : Int) (x2 : Int) (x3 : Int) (x4 : Int) (z5 : Vl) (h : Hq) : vp 247 14 [(2, x0), (0, x1), (0, x2), (0, x3), (0, x4), z5] [] h = if 0 < x0 ∧ (kd x0).1 = 12 then (vm 238 [(2, x0), (0, x1), (0, x2)] h).bind (fun r5 => if x4 ≥ (vx r5) then (some (some (0, (-1)), r5.2)) else (vp 247 28 [(2, x0), (0, x1), (0, x2), (0, x3), (0, x4), (0, 0)] [] r5.2)) else none := by
  refine s_fg (ls1 := [(2, x0), (0, x1), (0, x2), (0, x3), (0, x4), (9, 0)]) (tk (n := 9) t247_0 rfl) rfl ?_
  refine s_iload (pc1 := 16) (tk (n := 9) t247_0 rfl) rfl rfl rfl ?_
  refine s_aload_n (pc1 := 17) (tk (n := 10) t247_0 rfl) rfl rfl rfl ?_
  refine s_iload_n (pc1 := 18) (tk (n := 11) t247_0 rfl) rfl rfl rfl ?_
  refine s_iload_n (pc1 := 19) (tk (n := 12) t247_0 rfl) rfl rfl rfl ?_
  refine s_call0 (as := [(2, x0), (0, x1), (0, x2)]) (st1 := [(0, x4)]) (p1 := 22) (M2 := 238) (tk (n := 13) t247_0 rfl) rfl rfl rfl rfl rfl (fun r5 => ?_)
  refine s_ic_ge (pc1 := 25) (pt := 78) (tk (n := 14) t247_0 rfl) rfl rfl rfl ?_ ?_
  · refine s_iconst (pc1 := 79) (tk (n := 14) t247_1 rfl) rfl rfl  ?_
    exact s_ret (tk (n := 15) t247_1 rfl) rfl rfl rfl
  · refine s_iconst (pc1 := 26) (tk (n := 15) t247_0 rfl) rfl rfl  ?_
    refine s_istore (pc1 := 28) (ls1 := [(2, x0), (0, x1), (0, x2), (0, x3), (0, x4), (0, 0)]) (tk (n := 16) t247_0 rfl) rfl rfl rfl rfl ?_
    rfl
set_option maxRecDepth 100000 in
set_option maxHeartbeats 4000000 in
theorem e_X12_at_28 (x0 : Int) (x1 : Int) (x2 : Int) (x3 : Int) (x4 : Int) (x5 : Int) (h : Hq) : vp 247 28 [(2, x0), (0, x1), (0, x2), (0, x3), (0, x4), (0, x5)] [] h = if 0 < x0 ∧ (kd x0).1 = 12 then (vm 237 [(2, x0), (0, x1), (0, x2)] h).bind (fun r5 => if x5 ≥ (vx r5) then (vp 247 14 [(2, x0), (0, x1), (0, x2), (0, x3), (0, w32 (x4 + 1)), (0, x5)] [] r5.2) else (if 0 < x0 ∧ (kd x0).1 = 12 then (vm 244 [(2, x0), (0, x1), (0, x2), (0, x5), (0, x4)] r5.2).bind (fun r12 => if (vx r12) ≠ x3 then (vp 247 28 [(2, x0), (0, x1), (0, x2), (0, x3), (0, x4), (0, w32 (x5 + 1))] [] r12.2) else (if 0 < x0 ∧ (kd x0).1 = 12 then (vm 237 [(2, x0), (0, x1), (0, x2)] r12.2).bind (fun r19 => some (some (0, w32 ((w32 (x4 * (vx r19))) + x5)), r19.2)) else none)) else none)) else none := by
  refine s_iload (pc1 := 30) (tk (n := 17) t247_0 rfl) rfl rfl rfl ?_
  refine s_aload_n (pc1 := 31) (tk (n := 18) t247_0 rfl) rfl rfl rfl ?_
  refine s_iload_n (pc1 := 32) (tk (n := 19) t247_0 rfl) rfl rfl rfl ?_
  refine s_iload_n (pc1 := 33) (tk (n := 20) t247_0 rfl) rfl rfl rfl ?_
  refine s_call0 (as := [(2, x0), (0, x1), (0, x2)]) (st1 := [(0, x5)]) (p1 := 36) (M2 := 237) (tk (n := 21) t247_0 rfl) rfl rfl rfl rfl rfl (fun r5 => ?_)
  refine s_ic_ge (pc1 := 39) (pt := 72) (tk (n := 22) t247_0 rfl) rfl rfl rfl ?_ ?_
  · refine s_iinc (pc1 := 75) (ls1 := [(2, x0), (0, x1), (0, x2), (0, x3), (0, w32 (x4 + 1)), (0, x5)]) (tk (n := 12) t247_1 rfl) rfl rfl rfl rfl ?_
    refine s_goto (pc1 := 14) (tk (n := 13) t247_1 rfl) rfl rfl ?_
    rfl
  · refine s_aload_n (pc1 := 40) (tk (n := 23) t247_0 rfl) rfl rfl rfl ?_
    refine s_iload_n (pc1 := 41) (tk (n := 24) t247_0 rfl) rfl rfl rfl ?_
    refine s_iload_n (pc1 := 42) (tk (n := 25) t247_0 rfl) rfl rfl rfl ?_
    refine s_iload (pc1 := 44) (tk (n := 26) t247_0 rfl) rfl rfl rfl ?_
    refine s_iload (pc1 := 46) (tk (n := 27) t247_0 rfl) rfl rfl rfl ?_
    refine s_call0 (as := [(2, x0), (0, x1), (0, x2), (0, x5), (0, x4)]) (st1 := []) (p1 := 49) (M2 := 244) (tk (n := 28) t247_0 rfl) rfl rfl rfl rfl rfl (fun r12 => ?_)
    refine s_iload_n (pc1 := 50) (tk (n := 29) t247_0 rfl) rfl rfl rfl ?_
    refine s_ic_ne (pc1 := 53) (pt := 66) (tk (n := 0) t247_1 rfl) rfl rfl rfl ?_ ?_
    · refine s_iinc (pc1 := 69) (ls1 := [(2, x0), (0, x1), (0, x2), (0, x3), (0, x4), (0, w32 (x5 + 1))]) (tk (n := 10) t247_1 rfl) rfl rfl rfl rfl ?_
      refine s_goto (pc1 := 28) (tk (n := 11) t247_1 rfl) rfl rfl ?_
      rfl
    · refine s_iload (pc1 := 55) (tk (n := 1) t247_1 rfl) rfl rfl rfl ?_
      refine s_aload_n (pc1 := 56) (tk (n := 2) t247_1 rfl) rfl rfl rfl ?_
      refine s_iload_n (pc1 := 57) (tk (n := 3) t247_1 rfl) rfl rfl rfl ?_
      refine s_iload_n (pc1 := 58) (tk (n := 4) t247_1 rfl) rfl rfl rfl ?_
      refine s_call0 (as := [(2, x0), (0, x1), (0, x2)]) (st1 := [(0, x4)]) (p1 := 61) (M2 := 237) (tk (n := 5) t247_1 rfl) rfl rfl rfl rfl rfl (fun r19 => ?_)
      refine s_imul (pc1 := 62) (tk (n := 6) t247_1 rfl) rfl rfl  ?_
      refine s_iload (pc1 := 64) (tk (n := 7) t247_1 rfl) rfl rfl rfl ?_
      refine s_iadd (pc1 := 65) (tk (n := 8) t247_1 rfl) rfl rfl  ?_
      exact s_ret (tk (n := 9) t247_1 rfl) rfl rfl rfl
set_option maxRecDepth 100000 in
set_option maxHeartbeats 4000000 in
theorem e_X12_texelAt (x0 : Int) (x1 : Int) (x2 : Int) (x3 : Int) (x4 : Int) (h : Hq) : vm 248 [(2, x0), (0, x1), (0, x2), (0, x3), (0, x4)] h = if 0 < x0 ∧ (kd x0).1 = 12 then (vm 234 [(2, x0), (0, x1), (0, 0)] h).bind (fun r5 => if 0 < x0 ∧ (kd x0).1 = 12 then (vm 245 [(2, x0), (0, x1), (0, x2), (0, x3), (0, x4)] r5.2).bind (fun r11 => if 0 < x0 ∧ (kd x0).1 = 12 then (vm 211 [(2, x0), (0, vx r5), (0, vx r11)] r11.2).bind (fun r12 => some (some (0, vx r12), r12.2)) else none) else none) else none := by
  show vp 248 0 [(2, x0), (0, x1), (0, x2), (0, x3), (0, x4)] [] h = _
  refine s_aload_n (pc1 := 1) (tk (n := 0) t248_0 rfl) rfl rfl rfl ?_
  refine s_aload_n (pc1 := 2) (tk (n := 1) t248_0 rfl) rfl rfl rfl ?_
  refine s_iload_n (pc1 := 3) (tk (n := 2) t248_0 rfl) rfl rfl rfl ?_
  refine s_iconst (pc1 := 4) (tk (n := 3) t248_0 rfl) rfl rfl  ?_
  refine s_call0 (as := [(2, x0), (0, x1), (0, 0)]) (st1 := [(2, x0)]) (p1 := 7) (M2 := 234) (tk (n := 4) t248_0 rfl) rfl rfl rfl rfl rfl (fun r5 => ?_)
  refine s_aload_n (pc1 := 8) (tk (n := 5) t248_0 rfl) rfl rfl rfl ?_
  refine s_iload_n (pc1 := 9) (tk (n := 6) t248_0 rfl) rfl rfl rfl ?_
  refine s_iload_n (pc1 := 10) (tk (n := 7) t248_0 rfl) rfl rfl rfl ?_
  refine s_iload_n (pc1 := 11) (tk (n := 8) t248_0 rfl) rfl rfl rfl ?_
  refine s_iload (pc1 := 13) (tk (n := 9) t248_0 rfl) rfl rfl rfl ?_
  refine s_call0 (as := [(2, x0), (0, x1), (0, x2), (0, x3), (0, x4)]) (st1 := [(0, vx r5), (2, x0)]) (p1 := 16) (M2 := 245) (tk (n := 10) t248_0 rfl) rfl rfl rfl rfl rfl (fun r11 => ?_)
  refine s_call0 (as := [(2, x0), (0, vx r5), (0, vx r11)]) (st1 := []) (p1 := 19) (M2 := 211) (tk (n := 11) t248_0 rfl) rfl rfl rfl rfl rfl (fun r12 => ?_)
  exact s_ret (tk (n := 12) t248_0 rfl) rfl rfl rfl
set_option maxRecDepth 100000 in
set_option maxHeartbeats 4000000 in
theorem e_X12_moved (x0 : Int) (x1 : Int) (x2 : Int) (x3 : Int) (x4 : Int) (h : Hq) : vm 249 [(2, x0), (0, x1), (0, x2), (0, x3), (0, x4)] h = if 0 < x0 ∧ (kd x0).1 = 12 then (vm 247 [(2, x0), (0, x1), (0, x2), (0, x3)] h).bind (fun r5 => if (vx r5) = (-1) then (some (some (0, (-1)), r5.2)) else ((vm 165 [(0, x4), (0, 0), (0, 2)] r5.2).bind (fun r13 => if (vx r13) ≠ 0 then (if (0 < x0 ∧ (kd x0).1 = 12) ∧ True then if 0 < x0 ∧ (kd x0).1 = 12 then (vm 237 [(2, x0), (0, x1), (0, x2)] (r13.2.1, stm r13.2.2 x0 30 x4)).bind (fun r25 => if (vx r25) ≠ 0 then if 0 < x0 ∧ (kd x0).1 = 12 then (vm 237 [(2, x0), (0, x1), (0, x2)] r25.2).bind (fun r31 => if (vx r31) ≠ 0 then if 0 < x0 ∧ (kd x0).1 = 12 then (vm 244 [(2, x0), (0, x1), (0, x2), (0, (vx r5).tmod (vx r25)), (0, w32 ((vx r5).tdiv (vx r31)))] r31.2).bind (fun r33 => if (0 < x0 ∧ (kd x0).1 = 12) ∧ True then some (some (0, vx r33), (r33.2.1, stm r33.2.2 x0 30 (-1))) else none) else none else none) else none else none) else none else none) else (some (some (0, (-1)), r13.2))))) else none := by
  show vp 249 0 [(2, x0), (0, x1), (0, x2), (0, x3), (0, x4), (9, 0), (9, 0)] [] h = _
  refine s_aload_n (pc1 := 1) (tk (n := 0) t249_0 rfl) rfl rfl rfl ?_
  refine s_iload_n (pc1 := 2) (tk (n := 1) t249_0 rfl) rfl rfl rfl ?_
  refine s_iload_n (pc1 := 3) (tk (n := 2) t249_0 rfl) rfl rfl rfl ?_
  refine s_iload_n (pc1 := 4) (tk (n := 3) t249_0 rfl) rfl rfl rfl ?_
  refine s_call0 (as := [(2, x0), (0, x1), (0, x2), (0, x3)]) (st1 := []) (p1 := 7) (M2 := 247) (tk (n := 4) t249_0 rfl) rfl rfl rfl rfl rfl (fun r5 => ?_)
  refine s_istore (pc1 := 9) (ls1 := [(2, x0), (0, x1), (0, x2), (0, x3), (0, x4), (0, vx r5), (9, 0)]) (tk (n := 5) t249_0 rfl) rfl rfl rfl rfl ?_
  refine s_iload (pc1 := 11) (tk (n := 6) t249_0 rfl) rfl rfl rfl ?_
  refine s_iconst (pc1 := 12) (tk (n := 7) t249_0 rfl) rfl rfl  ?_
  refine s_ic_eq (pc1 := 15) (pt := 25) (tk (n := 8) t249_0 rfl) rfl rfl rfl ?_ ?_
  · refine s_iconst (pc1 := 26) (tk (n := 14) t249_0 rfl) rfl rfl  ?_
    exact s_ret (tk (n := 15) t249_0 rfl) rfl rfl rfl
  · refine s_iload (pc1 := 17) (tk (n := 9) t249_0 rfl) rfl rfl rfl ?_
    refine s_iconst (pc1 := 18) (tk (n := 10) t249_0 rfl) rfl rfl  ?_
    refine s_iconst (pc1 := 19) (tk (n := 11) t249_0 rfl) rfl rfl  ?_
    refine s_callS0 (as := [(0, x4), (0, 0), (0, 2)]) (st1 := []) (p1 := 22) (M2 := 165) (tk (n := 12) t249_0 rfl) rfl rfl rfl rfl rfl (fun r13 => ?_)
    refine s_if_ne (pc1 := 25) (pt := 27) (tk (n := 13) t249_0 rfl) rfl rfl rfl ?_ ?_
    · refine s_aload_n (pc1 := 28) (tk (n := 16) t249_0 rfl) rfl rfl rfl ?_
      refine s_iload (pc1 := 30) (tk (n := 17) t249_0 rfl) rfl rfl rfl ?_
      refine s_putf0 (pc1 := 33) (c := 12) (tk (n := 18) t249_0 rfl) rfl rfl rfl rfl rfl ?_
      refine s_aload_n (pc1 := 34) (tk (n := 19) t249_0 rfl) rfl rfl rfl ?_
      refine s_iload_n (pc1 := 35) (tk (n := 20) t249_0 rfl) rfl rfl rfl ?_
      refine s_iload_n (pc1 := 36) (tk (n := 21) t249_0 rfl) rfl rfl rfl ?_
      refine s_iload (pc1 := 38) (tk (n := 22) t249_0 rfl) rfl rfl rfl ?_
      refine s_aload_n (pc1 := 39) (tk (n := 23) t249_0 rfl) rfl rfl rfl ?_
      refine s_iload_n (pc1 := 40) (tk (n := 24) t249_0 rfl) rfl rfl rfl ?_
      refine s_iload_n (pc1 := 41) (tk (n := 25) t249_0 rfl) rfl rfl rfl ?_
      refine s_call0 (as := [(2, x0), (0, x1), (0, x2)]) (st1 := [(0, vx r5), (0, x2), (0, x1), (2, x0)]) (p1 := 44) (M2 := 237) (tk (n := 26) t249_0 rfl) rfl rfl rfl rfl rfl (fun r25 => ?_)
      refine s_irem (pc1 := 45) (tk (n := 27) t249_0 rfl) rfl rfl  ?_
      refine s_iload (pc1 := 47) (tk (n := 28) t249_0 rfl) rfl rfl rfl ?_
      refine s_aload_n (pc1 := 48) (tk (n := 29) t249_0 rfl) rfl rfl rfl ?_
      refine s_iload_n (pc1 := 49) (tk (n := 0) t249_1 rfl) rfl rfl rfl ?_
      refine s_iload_n (pc1 := 50) (tk (n := 1) t249_1 rfl) rfl rfl rfl ?_
      refine s_call0 (as := [(2, x0), (0, x1), (0, x2)]) (st1 := [(0, vx r5), (0, (vx r5).tmod (vx r25)), (0, x2), (0, x1), (2, x0)]) (p1 := 53) (M2 := 237) (tk (n := 2) t249_1 rfl) rfl rfl rfl rfl rfl (fun r31 => ?_)
      refine s_idiv (pc1 := 54) (tk (n := 3) t249_1 rfl) rfl rfl  ?_
      refine s_call0 (as := [(2, x0), (0, x1), (0, x2), (0, (vx r5).tmod (vx r25)), (0, w32 ((vx r5).tdiv (vx r31)))]) (st1 := []) (p1 := 57) (M2 := 244) (tk (n := 4) t249_1 rfl) rfl rfl rfl rfl rfl (fun r33 => ?_)
      refine s_istore (pc1 := 59) (ls1 := [(2, x0), (0, x1), (0, x2), (0, x3), (0, x4), (0, vx r5), (0, vx r33)]) (tk (n := 5) t249_1 rfl) rfl rfl rfl rfl ?_
      refine s_aload_n (pc1 := 60) (tk (n := 6) t249_1 rfl) rfl rfl rfl ?_
      refine s_iconst (pc1 := 61) (tk (n := 7) t249_1 rfl) rfl rfl  ?_
      refine s_putf0 (pc1 := 64) (c := 12) (tk (n := 8) t249_1 rfl) rfl rfl rfl rfl rfl ?_
      refine s_iload (pc1 := 66) (tk (n := 9) t249_1 rfl) rfl rfl rfl ?_
      exact s_ret (tk (n := 10) t249_1 rfl) rfl rfl rfl
    · refine s_iconst (pc1 := 26) (tk (n := 14) t249_0 rfl) rfl rfl  ?_
      exact s_ret (tk (n := 15) t249_0 rfl) rfl rfl rfl
set_option maxRecDepth 100000 in
set_option maxHeartbeats 4000000 in
theorem e_X12_texel (x0 : Int) (x1 : Int) (x2 : Int) (x3 : Int) (x4 : Int) (h : Hq) : vm 250 [(2, x0), (0, x1), (0, x2), (0, x3), (0, x4)] h = if 0 < x0 ∧ (kd x0).1 = 12 then (vm 240 [(2, x0), (0, x1), (0, x2), (0, x3), (0, x4)] h).bind (fun r6 => if (vx r6) = 0 then (some (some (0, (-1000000001)), r6.2)) else (if 0 < x0 ∧ (kd x0).1 = 12 then (vm 248 [(2, x0), (0, x1), (0, x2), (0, x3), (0, x4)] r6.2).bind (fun r13 => some (some (0, vx r13), r13.2)) else none)) else none := by
  show vp 250 0 [(2, x0), (0, x1), (0, x2), (0, x3), (0, x4)] [] h = _
  refine s_aload_n (pc1 := 1) (tk (n := 0) t250_0 rfl) rfl rfl rfl ?_
  refine s_iload_n (pc1 := 2) (tk (n := 1) t250_0 rfl) rfl rfl rfl ?_
  refine s_iload_n (pc1 := 3) (tk (n := 2) t250_0 rfl) rfl rfl rfl ?_
  refine s_iload_n (pc1 := 4) (tk (n := 3) t250_0 rfl) rfl rfl rfl ?_
  refine s_iload (pc1 := 6) (tk (n := 4) t250_0 rfl) rfl rfl rfl ?_
  refine s_call0 (as := [(2, x0), (0, x1), (0, x2), (0, x3), (0, x4)]) (st1 := []) (p1 := 9) (M2 := 240) (tk (n := 5) t250_0 rfl) rfl rfl rfl rfl rfl (fun r6 => ?_)
  refine s_if_eq (pc1 := 12) (pt := 24) (tk (n := 6) t250_0 rfl) rfl rfl rfl ?_ ?_
  · refine s_ldcw (pc1 := 27) (tk (n := 14) t250_0 rfl) rfl rfl  ?_
    exact s_ret (tk (n := 15) t250_0 rfl) rfl rfl rfl
  · refine s_aload_n (pc1 := 13) (tk (n := 7) t250_0 rfl) rfl rfl rfl ?_
    refine s_iload_n (pc1 := 14) (tk (n := 8) t250_0 rfl) rfl rfl rfl ?_
    refine s_iload_n (pc1 := 15) (tk (n := 9) t250_0 rfl) rfl rfl rfl ?_
    refine s_iload_n (pc1 := 16) (tk (n := 10) t250_0 rfl) rfl rfl rfl ?_
    refine s_iload (pc1 := 18) (tk (n := 11) t250_0 rfl) rfl rfl rfl ?_
    refine s_call0 (as := [(2, x0), (0, x1), (0, x2), (0, x3), (0, x4)]) (st1 := []) (p1 := 21) (M2 := 248) (tk (n := 12) t250_0 rfl) rfl rfl rfl rfl rfl (fun r13 => ?_)
    refine s_goto (pc1 := 27) (tk (n := 13) t250_0 rfl) rfl rfl ?_
    exact s_ret (tk (n := 15) t250_0 rfl) rfl rfl rfl
set_option maxRecDepth 100000 in
set_option maxHeartbeats 4000000 in
theorem e_X12_colours (x0 : Int) (x1 : Int) (x2 : Int) (x3 : Int) (x4 : Int) (x5 : Int) (h : Hq) : vm 251 [(2, x0), (0, x1), (0, x2), (0, x3), (0, x4), (0, x5)] h = if 0 < x0 ∧ (kd x0).1 = 12 then (vm 234 [(2, x0), (0, x1), (0, 0)] h).bind (fun r5 => if 0 < x0 ∧ (kd x0).1 = 12 then (vm 245 [(2, x0), (0, x1), (0, x2), (0, x3), (0, x4)] r5.2).bind (fun r11 => if 0 < x0 ∧ (kd x0).1 = 12 then if 0 < x0 ∧ (kd x0).1 = 12 then (vm 234 [(2, x0), (0, x1), (0, 0)] r11.2).bind (fun r18 => if (kd (r11.2.2 x0 16)).1 = 20 ∧ 0 ≤ (vx r18) ∧ (vx r18) < (kd (r11.2.2 x0 16)).2 then (vm 214 [(0, x5), (0, r18.2.2 (r11.2.2 x0 16) (vx r18))] r18.2).bind (fun r20 => if 0 < x0 ∧ (kd x0).1 = 12 then (vm 221 [(2, x0), (0, vx r5), (0, vx r11), (0, vx r20)] r20.2).bind (fun r21 => some (none, r21.2)) else none) else none) else none else none) else none) else none := by
  show vp 251 0 [(2, x0), (0, x1), (0, x2), (0, x3), (0, x4), (0, x5)] [] h = _
  refine s_aload_n (pc1 := 1) (tk (n := 0) t251_0 rfl) rfl rfl rfl ?_
  refine s_aload_n (pc1 := 2) (tk (n := 1) t251_0 rfl) rfl rfl rfl ?_
  refine s_iload_n (pc1 := 3) (tk (n := 2) t251_0 rfl) rfl rfl rfl ?_
  refine s_iconst (pc1 := 4) (tk (n := 3) t251_0 rfl) rfl rfl  ?_
  refine s_call0 (as := [(2, x0), (0, x1), (0, 0)]) (st1 := [(2, x0)]) (p1 := 7) (M2 := 234) (tk (n := 4) t251_0 rfl) rfl rfl rfl rfl rfl (fun r5 => ?_)
  refine s_aload_n (pc1 := 8) (tk (n := 5) t251_0 rfl) rfl rfl rfl ?_
  refine s_iload_n (pc1 := 9) (tk (n := 6) t251_0 rfl) rfl rfl rfl ?_
  refine s_iload_n (pc1 := 10) (tk (n := 7) t251_0 rfl) rfl rfl rfl ?_
  refine s_iload_n (pc1 := 11) (tk (n := 8) t251_0 rfl) rfl rfl rfl ?_
  refine s_iload (pc1 := 13) (tk (n := 9) t251_0 rfl) rfl rfl rfl ?_
  refine s_call0 (as := [(2, x0), (0, x1), (0, x2), (0, x3), (0, x4)]) (st1 := [(0, vx r5), (2, x0)]) (p1 := 16) (M2 := 245) (tk (n := 10) t251_0 rfl) rfl rfl rfl rfl rfl (fun r11 => ?_)
  refine s_iload (pc1 := 18) (tk (n := 11) t251_0 rfl) rfl rfl rfl ?_
  refine s_aload_n (pc1 := 19) (tk (n := 12) t251_0 rfl) rfl rfl rfl ?_
  refine s_getf (pc1 := 22) (c := 12) (t1 := 2) (tk (n := 13) t251_0 rfl) rfl rfl (by decide) rfl rfl ?_
  refine s_aload_n (pc1 := 23) (tk (n := 14) t251_0 rfl) rfl rfl rfl ?_
  refine s_iload_n (pc1 := 24) (tk (n := 15) t251_0 rfl) rfl rfl rfl ?_
  refine s_iconst (pc1 := 25) (tk (n := 16) t251_0 rfl) rfl rfl  ?_
  refine s_call0 (as := [(2, x0), (0, x1), (0, 0)]) (st1 := [(2, r11.2.2 x0 16), (0, x5), (0, vx r11), (0, vx r5), (2, x0)]) (p1 := 28) (M2 := 234) (tk (n := 17) t251_0 rfl) rfl rfl rfl rfl rfl (fun r18 => ?_)
  refine s_iald (pc1 := 29) (tk (n := 18) t251_0 rfl) rfl rfl  ?_
  refine s_callS0 (as := [(0, x5), (0, r18.2.2 (r11.2.2 x0 16) (vx r18))]) (st1 := [(0, vx r11), (0, vx r5), (2, x0)]) (p1 := 32) (M2 := 214) (tk (n := 19) t251_0 rfl) rfl rfl rfl rfl rfl (fun r20 => ?_)
  refine s_call9 (as := [(2, x0), (0, vx r5), (0, vx r11), (0, vx r20)]) (st1 := []) (p1 := 35) (M2 := 221) (tk (n := 20) t251_0 rfl) rfl rfl rfl rfl rfl (fun r21 => ?_)
  exact s_ret (tk (n := 21) t251_0 rfl) rfl rfl rfl
set_option maxRecDepth 100000 in
set_option maxHeartbeats 4000000 in
theorem e_X12_below (x0 : Int) (x1 : Int) (x2 : Int) (x3 : Int) (x4 : Int) (h : Hq) : vm 252 [(2, x0), (0, x1), (0, x2), (0, x3), (0, x4)] h = vp 252 9 [(2, x0), (0, x1), (0, x2), (0, x3), (0, x4), (0, 0), (0, 0), (0, 0), (9, 0), (9, 0)] [] h := by
  show vp 252 0 [(2, x0), (0, x1), (0, x2), (0, x3), (0, x4), (9, 0), (9, 0), (9, 0), (9, 0), (9, 0)] [] h = _
  refine s_iconst (pc1 := 1) (tk (n := 0) t252_0 rfl) rfl rfl  ?_
  refine s_istore (pc1 := 3) (ls1 := [(2, x0), (0, x1), (0, x2), (0, x3), (0, x4), (0, 0), (9, 0), (9, 0), (9, 0), (9, 0)]) (tk (n := 1) t252_0 rfl) rfl rfl rfl rfl ?_
  refine s_iconst (pc1 := 4) (tk (n := 2) t252_0 rfl) rfl rfl  ?_
  refine s_istore (pc1 := 6) (ls1 := [(2, x0), (0, x1), (0, x2), (0, x3), (0, x4), (0, 0), (0, 0), (9, 0), (9, 0), (9, 0)]) (tk (n := 3) t252_0 rfl) rfl rfl rfl rfl ?_
  refine s_iconst (pc1 := 7) (tk (n := 4) t252_0 rfl) rfl rfl  ?_
  refine s_istore (pc1 := 9) (ls1 := [(2, x0), (0, x1), (0, x2), (0, x3), (0, x4), (0, 0), (0, 0), (0, 0), (9, 0), (9, 0)]) (tk (n := 5) t252_0 rfl) rfl rfl rfl rfl ?_
  rfl
set_option maxRecDepth 100000 in
set_option maxHeartbeats 4000000 in
theorem e_X12_below_9 (x0 : Int) (x1 : Int) (x2 : Int) (x3 : Int) (x4 : Int) (x5 : Int) (x6 : Int) (x7 : Int) (z8 : Vl) (z9 : Vl) (h : Hq) : vp 252 9 [(2, x0), (0, x1), (0, x2), (0, x3), (0, x4), (0, x5), (0, x6), (0, x7), z8, z9] [] h = if x7 ≥ 4 then (if x6 ≠ 0 then some (some (0, w32 (x5.tdiv x6)), h) else none) else (if 0 < x0 ∧ (kd x0).1 = 12 then (vm 240 [(2, x0), (0, x1), (0, w32 (x2 - 1)), (0, w32 ((w32 (2 * x3)) + (x7.tmod 2))), (0, w32 ((w32 (2 * x4)) + (w32 (x7.tdiv 2))))] h).bind (fun r27 => if (vx r27) ≠ 0 then (if 0 < x0 ∧ (kd x0).1 = 12 then (vm 248 [(2, x0), (0, x1), (0, w32 (x2 - 1)), (0, w32 ((w32 (2 * x3)) + (x7.tmod 2))), (0, w32 ((w32 (2 * x4)) + (w32 (x7.tdiv 2))))] r27.2).bind (fun r37 => vp 252 9 [(2, x0), (0, x1), (0, x2), (0, x3), (0, x4), (0, w32 (x5 + (vx r37))), (0, w32 (x6 + 1)), (0, w32 (x7 + 1)), (0, w32 ((w32 (2 * x3)) + (x7.tmod 2))), (0, w32 ((w32 (2 * x4)) + (w32 (x7.tdiv 2))))] [] r37.2) else none) else (vp 252 9 [(2, x0), (0, x1), (0, x2), (0, x3), (0, x4), (0, x5), (0, x6), (0, w32 (x7 + 1)), (0, w32 ((w32 (2 * x3)) + (x7.tmod 2))), (0, w32 ((w32 (2 * x4)) + (w32 (x7.tdiv 2))))] [] r27.2)) else none) := by
  refine s_fg (ls1 := [(2, x0), (0, x1), (0, x2), (0, x3), (0, x4), (0, x5), (0, x6), (0, x7), (9, 0), (9, 0)]) (tk (n := 6) t252_0 rfl) rfl ?_
  refine s_iload (pc1 := 11) (tk (n := 6) t252_0 rfl) rfl rfl rfl ?_
  refine s_iconst (pc1 := 12) (tk (n := 7) t252_0 rfl) rfl rfl  ?_
  refine s_ic_ge (pc1 := 15) (pt := 80) (tk (n := 8) t252_0 rfl) rfl rfl rfl ?_ ?_
  · refine s_iload (pc1 := 82) (tk (n := 19) t252_1 rfl) rfl rfl rfl ?_
    refine s_iload (pc1 := 84) (tk (n := 20) t252_1 rfl) rfl rfl rfl ?_
    refine s_idiv (pc1 := 85) (tk (n := 21) t252_1 rfl) rfl rfl  ?_
    exact s_ret (tk (n := 22) t252_1 rfl) rfl rfl rfl
  · refine s_iconst (pc1 := 16) (tk (n := 9) t252_0 rfl) rfl rfl  ?_
    refine s_iload_n (pc1 := 17) (tk (n := 10) t252_0 rfl) rfl rfl rfl ?_
    refine s_imul (pc1 := 18) (tk (n := 11) t252_0 rfl) rfl rfl  ?_
    refine s_iload (pc1 := 20) (tk (n := 12) t252_0 rfl) rfl rfl rfl ?_
    refine s_iconst (pc1 := 21) (tk (n := 13) t252_0 rfl) rfl rfl  ?_
    refine s_iremc (pc1 := 22) (tk (n := 14) t252_0 rfl) rfl rfl (by decide) ?_
    refine s_iadd (pc1 := 23) (tk (n := 15) t252_0 rfl) rfl rfl  ?_
    refine s_istore (pc1 := 25) (ls1 := [(2, x0), (0, x1), (0, x2), (0, x3), (0, x4), (0, x5), (0, x6), (0, x7), (0, w32 ((w32 (2 * x3)) + (x7.tmod 2))), (9, 0)]) (tk (n := 16) t252_0 rfl) rfl rfl rfl rfl ?_
    refine s_iconst (pc1 := 26) (tk (n := 17) t252_0 rfl) rfl rfl  ?_
    refine s_iload (pc1 := 28) (tk (n := 18) t252_0 rfl) rfl rfl rfl ?_
    refine s_imul (pc1 := 29) (tk (n := 19) t252_0 rfl) rfl rfl  ?_
    refine s_iload (pc1 := 31) (tk (n := 20) t252_0 rfl) rfl rfl rfl ?_
    refine s_iconst (pc1 := 32) (tk (n := 21) t252_0 rfl) rfl rfl  ?_
    refine s_idivc (pc1 := 33) (tk (n := 22) t252_0 rfl) rfl rfl (by decide) ?_
    refine s_iadd (pc1 := 34) (tk (n := 23) t252_0 rfl) rfl rfl  ?_
    refine s_istore (pc1 := 36) (ls1 := [(2, x0), (0, x1), (0, x2), (0, x3), (0, x4), (0, x5), (0, x6), (0, x7), (0, w32 ((w32 (2 * x3)) + (x7.tmod 2))), (0, w32 ((w32 (2 * x4)) + (w32 (x7.tdiv 2))))]) (tk (n := 24) t252_0 rfl) rfl rfl rfl rfl ?_
    refine s_aload_n (pc1 := 37) (tk (n := 25) t252_0 rfl) rfl rfl rfl ?_
    refine s_iload_n (pc1 := 38) (tk (n := 26) t252_0 rfl) rfl rfl rfl ?_
    refine s_iload_n (pc1 := 39) (tk (n := 27) t252_0 rfl) rfl rfl rfl ?_
    refine s_iconst (pc1 := 40) (tk (n := 28) t252_0 rfl) rfl rfl  ?_
    refine s_isub (pc1 := 41) (tk (n := 29) t252_0 rfl) rfl rfl  ?_
    refine s_iload (pc1 := 43) (tk (n := 0) t252_1 rfl) rfl rfl rfl ?_
    refine s_iload (pc1 := 45) (tk (n := 1) t252_1 rfl) rfl rfl rfl ?_
    refine s_call0 (as := [(2, x0), (0, x1), (0, w32 (x2 - 1)), (0, w32 ((w32 (2 * x3)) + (x7.tmod 2))), (0, w32 ((w32 (2 * x4)) + (w32 (x7.tdiv 2))))]) (st1 := []) (p1 := 48) (M2 := 240) (tk (n := 2) t252_1 rfl) rfl rfl rfl rfl rfl (fun r27 => ?_)
    refine s_if_ne (pc1 := 51) (pt := 54) (tk (n := 3) t252_1 rfl) rfl rfl rfl ?_ ?_
    · refine s_iload (pc1 := 56) (tk (n := 5) t252_1 rfl) rfl rfl rfl ?_
      refine s_aload_n (pc1 := 57) (tk (n := 6) t252_1 rfl) rfl rfl rfl ?_
      refine s_iload_n (pc1 := 58) (tk (n := 7) t252_1 rfl) rfl rfl rfl ?_
      refine s_iload_n (pc1 := 59) (tk (n := 8) t252_1 rfl) rfl rfl rfl ?_
      refine s_iconst (pc1 := 60) (tk (n := 9) t252_1 rfl) rfl rfl  ?_
      refine s_isub (pc1 := 61) (tk (n := 10) t252_1 rfl) rfl rfl  ?_
      refine s_iload (pc1 := 63) (tk (n := 11) t252_1 rfl) rfl rfl rfl ?_
      refine s_iload (pc1 := 65) (tk (n := 12) t252_1 rfl) rfl rfl rfl ?_
      refine s_call0 (as := [(2, x0), (0, x1), (0, w32 (x2 - 1)), (0, w32 ((w32 (2 * x3)) + (x7.tmod 2))), (0, w32 ((w32 (2 * x4)) + (w32 (x7.tdiv 2))))]) (st1 := [(0, x5)]) (p1 := 68) (M2 := 248) (tk (n := 13) t252_1 rfl) rfl rfl rfl rfl rfl (fun r37 => ?_)
      refine s_iadd (pc1 := 69) (tk (n := 14) t252_1 rfl) rfl rfl  ?_
      refine s_istore (pc1 := 71) (ls1 := [(2, x0), (0, x1), (0, x2), (0, x3), (0, x4), (0, w32 (x5 + (vx r37))), (0, x6), (0, x7), (0, w32 ((w32 (2 * x3)) + (x7.tmod 2))), (0, w32 ((w32 (2 * x4)) + (w32 (x7.tdiv 2))))]) (tk (n := 15) t252_1 rfl) rfl rfl rfl rfl ?_
      refine s_iinc (pc1 := 74) (ls1 := [(2, x0), (0, x1), (0, x2), (0, x3), (0, x4), (0, w32 (x5 + (vx r37))), (0, w32 (x6 + 1)), (0, x7), (0, w32 ((w32 (2 * x3)) + (x7.tmod 2))), (0, w32 ((w32 (2 * x4)) + (w32 (x7.tdiv 2))))]) (tk (n := 16) t252_1 rfl) rfl rfl rfl rfl ?_
      refine s_iinc (pc1 := 77) (ls1 := [(2, x0), (0, x1), (0, x2), (0, x3), (0, x4), (0, w32 (x5 + (vx r37))), (0, w32 (x6 + 1)), (0, w32 (x7 + 1)), (0, w32 ((w32 (2 * x3)) + (x7.tmod 2))), (0, w32 ((w32 (2 * x4)) + (w32 (x7.tdiv 2))))]) (tk (n := 17) t252_1 rfl) rfl rfl rfl rfl ?_
      refine s_goto (pc1 := 9) (tk (n := 18) t252_1 rfl) rfl rfl ?_
      rfl
    · refine s_goto (pc1 := 74) (tk (n := 4) t252_1 rfl) rfl rfl ?_
      refine s_iinc (pc1 := 77) (ls1 := [(2, x0), (0, x1), (0, x2), (0, x3), (0, x4), (0, x5), (0, x6), (0, w32 (x7 + 1)), (0, w32 ((w32 (2 * x3)) + (x7.tmod 2))), (0, w32 ((w32 (2 * x4)) + (w32 (x7.tdiv 2))))]) (tk (n := 17) t252_1 rfl) rfl rfl rfl rfl ?_
      refine s_goto (pc1 := 9) (tk (n := 18) t252_1 rfl) rfl rfl ?_
      rfl
set_option maxRecDepth 100000 in
set_option maxHeartbeats 4000000 in
theorem e_X12_makes (x0 : Int) (x1 : Int) (h : Hq) : vm 253 [(2, x0), (0, x1)] h = vp 253 2 [(2, x0), (0, x1), (0, 1), (9, 0), (9, 0)] [] h := by
  show vp 253 0 [(2, x0), (0, x1), (9, 0), (9, 0), (9, 0)] [] h = _
  refine s_iconst (pc1 := 1) (tk (n := 0) t253_0 rfl) rfl rfl  ?_
  refine s_istore_n (pc1 := 2) (ls1 := [(2, x0), (0, x1), (0, 1), (9, 0), (9, 0)]) (tk (n := 1) t253_0 rfl) rfl rfl rfl rfl ?_
  rfl
set_option maxRecDepth 100000 in
set_option maxHeartbeats 4000000 in
theorem e_X12_makes_2 (x0 : Int) (x1 : Int) (x2 : Int) (z3 : Vl) (z4 : Vl) (h : Hq) : vp 253 2 [(2, x0), (0, x1), (0, x2), z3, z4] [] h = if 0 < x0 ∧ (kd x0).1 = 12 then (vm 234 [(2, x0), (0, x1), (0, 4)] h).bind (fun r5 => if x2 ≥ (vx r5) then (some (none, r5.2)) else (vp 253 14 [(2, x0), (0, x1), (0, x2), (0, 0), (9, 0)] [] r5.2)) else none := by
  refine s_fg (ls1 := [(2, x0), (0, x1), (0, x2), (9, 0), (9, 0)]) (tk (n := 2) t253_0 rfl) rfl ?_
  refine s_iload_n (pc1 := 3) (tk (n := 2) t253_0 rfl) rfl rfl rfl ?_
  refine s_aload_n (pc1 := 4) (tk (n := 3) t253_0 rfl) rfl rfl rfl ?_
  refine s_iload_n (pc1 := 5) (tk (n := 4) t253_0 rfl) rfl rfl rfl ?_
  refine s_iconst (pc1 := 6) (tk (n := 5) t253_0 rfl) rfl rfl  ?_
  refine s_call0 (as := [(2, x0), (0, x1), (0, 4)]) (st1 := [(0, x2)]) (p1 := 9) (M2 := 234) (tk (n := 6) t253_0 rfl) rfl rfl rfl rfl rfl (fun r5 => ?_)
  refine s_ic_ge (pc1 := 12) (pt := 74) (tk (n := 7) t253_0 rfl) rfl rfl rfl ?_ ?_
  · exact s_ret (tk (n := 12) t253_1 rfl) rfl rfl rfl
  · refine s_iconst (pc1 := 13) (tk (n := 8) t253_0 rfl) rfl rfl  ?_
    refine s_istore_n (pc1 := 14) (ls1 := [(2, x0), (0, x1), (0, x2), (0, 0), (9, 0)]) (tk (n := 9) t253_0 rfl) rfl rfl rfl rfl ?_
    rfl
set_option maxRecDepth 100000 in
set_option maxHeartbeats 4000000 in
theorem e_X12_makes_14 (x0 : Int) (x1 : Int) (x2 : Int) (x3 : Int) (z4 : Vl) (h : Hq) : vp 253 14 [(2, x0), (0, x1), (0, x2), (0, x3), z4] [] h = if 0 < x0 ∧ (kd x0).1 = 12 then (vm 238 [(2, x0), (0, x1), (0, x2)] h).bind (fun r5 => if x3 ≥ (vx r5) then (vp 253 2 [(2, x0), (0, x1), (0, w32 (x2 + 1)), (0, x3), (9, 0)] [] r5.2) else (vp 253 27 [(2, x0), (0, x1), (0, x2), (0, x3), (0, 0)] [] r5.2)) else none := by
  refine s_fg (ls1 := [(2, x0), (0, x1), (0, x2), (0, x3), (9, 0)]) (tk (n := 10) t253_0 rfl) rfl ?_
  refine s_iload_n (pc1 := 15) (tk (n := 10) t253_0 rfl) rfl rfl rfl ?_
  refine s_aload_n (pc1 := 16) (tk (n := 11) t253_0 rfl) rfl rfl rfl ?_
  refine s_iload_n (pc1 := 17) (tk (n := 12) t253_0 rfl) rfl rfl rfl ?_
  refine s_iload_n (pc1 := 18) (tk (n := 13) t253_0 rfl) rfl rfl rfl ?_
  refine s_call0 (as := [(2, x0), (0, x1), (0, x2)]) (st1 := [(0, x3)]) (p1 := 21) (M2 := 238) (tk (n := 14) t253_0 rfl) rfl rfl rfl rfl rfl (fun r5 => ?_)
  refine s_ic_ge (pc1 := 24) (pt := 68) (tk (n := 15) t253_0 rfl) rfl rfl rfl ?_ ?_
  · refine s_iinc (pc1 := 71) (ls1 := [(2, x0), (0, x1), (0, w32 (x2 + 1)), (0, x3), (9, 0)]) (tk (n := 10) t253_1 rfl) rfl rfl rfl rfl ?_
    refine s_goto (pc1 := 2) (tk (n := 11) t253_1 rfl) rfl rfl ?_
    rfl
  · refine s_iconst (pc1 := 25) (tk (n := 16) t253_0 rfl) rfl rfl  ?_
    refine s_istore (pc1 := 27) (ls1 := [(2, x0), (0, x1), (0, x2), (0, x3), (0, 0)]) (tk (n := 17) t253_0 rfl) rfl rfl rfl rfl ?_
    rfl
set_option maxRecDepth 100000 in
set_option maxHeartbeats 4000000 in
theorem e_X12_makes_27 (x0 : Int) (x1 : Int) (x2 : Int) (x3 : Int) (x4 : Int) (h : Hq) : vp 253 27 [(2, x0), (0, x1), (0, x2), (0, x3), (0, x4)] [] h = if 0 < x0 ∧ (kd x0).1 = 12 then (vm 237 [(2, x0), (0, x1), (0, x2)] h).bind (fun r5 => if x4 ≥ (vx r5) then (vp 253 14 [(2, x0), (0, x1), (0, x2), (0, w32 (x3 + 1)), (0, x4)] [] r5.2) else (if 0 < x0 ∧ (kd x0).1 = 12 then (vm 252 [(2, x0), (0, x1), (0, x2), (0, x4), (0, x3)] r5.2).bind (fun r17 => if 0 < x0 ∧ (kd x0).1 = 12 then (vm 251 [(2, x0), (0, x1), (0, x2), (0, x4), (0, x3), (0, vx r17)] r17.2).bind (fun r18 => vp 253 27 [(2, x0), (0, x1), (0, x2), (0, x3), (0, w32 (x4 + 1))] [] r18.2) else none) else none)) else none := by
  refine s_iload (pc1 := 29) (tk (n := 18) t253_0 rfl) rfl rfl rfl ?_
  refine s_aload_n (pc1 := 30) (tk (n := 19) t253_0 rfl) rfl rfl rfl ?_
  refine s_iload_n (pc1 := 31) (tk (n := 20) t253_0 rfl) rfl rfl rfl ?_
  refine s_iload_n (pc1 := 32) (tk (n := 21) t253_0 rfl) rfl rfl rfl ?_
  refine s_call0 (as := [(2, x0), (0, x1), (0, x2)]) (st1 := [(0, x4)]) (p1 := 35) (M2 := 237) (tk (n := 22) t253_0 rfl) rfl rfl rfl rfl rfl (fun r5 => ?_)
  refine s_ic_ge (pc1 := 38) (pt := 62) (tk (n := 23) t253_0 rfl) rfl rfl rfl ?_ ?_
  · refine s_iinc (pc1 := 65) (ls1 := [(2, x0), (0, x1), (0, x2), (0, w32 (x3 + 1)), (0, x4)]) (tk (n := 8) t253_1 rfl) rfl rfl rfl rfl ?_
    refine s_goto (pc1 := 14) (tk (n := 9) t253_1 rfl) rfl rfl ?_
    rfl
  · refine s_aload_n (pc1 := 39) (tk (n := 24) t253_0 rfl) rfl rfl rfl ?_
    refine s_iload_n (pc1 := 40) (tk (n := 25) t253_0 rfl) rfl rfl rfl ?_
    refine s_iload_n (pc1 := 41) (tk (n := 26) t253_0 rfl) rfl rfl rfl ?_
    refine s_iload (pc1 := 43) (tk (n := 27) t253_0 rfl) rfl rfl rfl ?_
    refine s_iload_n (pc1 := 44) (tk (n := 28) t253_0 rfl) rfl rfl rfl ?_
    refine s_aload_n (pc1 := 45) (tk (n := 29) t253_0 rfl) rfl rfl rfl ?_
    refine s_iload_n (pc1 := 46) (tk (n := 0) t253_1 rfl) rfl rfl rfl ?_
    refine s_iload_n (pc1 := 47) (tk (n := 1) t253_1 rfl) rfl rfl rfl ?_
    refine s_iload (pc1 := 49) (tk (n := 2) t253_1 rfl) rfl rfl rfl ?_
    refine s_iload_n (pc1 := 50) (tk (n := 3) t253_1 rfl) rfl rfl rfl ?_
    refine s_call0 (as := [(2, x0), (0, x1), (0, x2), (0, x4), (0, x3)]) (st1 := [(0, x3), (0, x4), (0, x2), (0, x1), (2, x0)]) (p1 := 53) (M2 := 252) (tk (n := 4) t253_1 rfl) rfl rfl rfl rfl rfl (fun r17 => ?_)
    refine s_call9 (as := [(2, x0), (0, x1), (0, x2), (0, x4), (0, x3), (0, vx r17)]) (st1 := []) (p1 := 56) (M2 := 251) (tk (n := 5) t253_1 rfl) rfl rfl rfl rfl rfl (fun r18 => ?_)
    refine s_iinc (pc1 := 59) (ls1 := [(2, x0), (0, x1), (0, x2), (0, x3), (0, w32 (x4 + 1))]) (tk (n := 6) t253_1 rfl) rfl rfl rfl rfl ?_
    refine s_goto (pc1 := 27) (tk (n := 7) t253_1 rfl) rfl rfl ?_
    rfl
set_option maxRecDepth 100000 in
set_option maxHeartbeats 4000000 in
theorem e_X12_fillsWith (x0 : Int) (x1 : Int) (x2 : Int) (x3 : Int) (x4 : Int) (h : Hq) : vm 254 [(2, x0), (0, x1), (0, x2), (0, x3), (0, x4)] h = vp 254 3 [(2, x0), (0, x1), (0, x2), (0, x3), (0, x4), (0, 0), (9, 0)] [] h := by
  show vp 254 0 [(2, x0), (0, x1), (0, x2), (0, x3), (0, x4), (9, 0), (9, 0)] [] h = _
  refine s_iconst (pc1 := 1) (tk (n := 0) t254_0 rfl) rfl rfl  ?_
  refine s_istore (pc1 := 3) (ls1 := [(2, x0), (0, x1), (0, x2), (0, x3), (0, x4), (0, 0), (9, 0)]) (tk (n := 1) t254_0 rfl) rfl rfl rfl rfl ?_
  rfl
set_option maxRecDepth 100000 in
set_option maxHeartbeats 4000000 in
theorem e_X12_fillsWith_3 (x0 : Int) (x1 : Int) (x2 : Int) (x3 : Int) (x4 : Int) (x5 : Int) (z6 : Vl) (h : Hq) : vp 254 3 [(2, x0), (0, x1), (0, x2), (0, x3), (0, x4), (0, x5), z6] [] h = if 0 < x0 ∧ (kd x0).1 = 12 then (vm 238 [(2, x0), (0, x1), (0, 0)] h).bind (fun r5 => if x5 ≥ (vx r5) then (if 0 < x0 ∧ (kd x0).1 = 12 then (vm 253 [(2, x0), (0, x1)] r5.2).bind (fun r9 => some (none, r9.2)) else none) else (vp 254 17 [(2, x0), (0, x1), (0, x2), (0, x3), (0, x4), (0, x5), (0, 0)] [] r5.2)) else none := by
  refine s_fg (ls1 := [(2, x0), (0, x1), (0, x2), (0, x3), (0, x4), (0, x5), (9, 0)]) (tk (n := 2) t254_0 rfl) rfl ?_
  refine s_iload (pc1 := 5) (tk (n := 2) t254_0 rfl) rfl rfl rfl ?_
  refine s_aload_n (pc1 := 6) (tk (n := 3) t254_0 rfl) rfl rfl rfl ?_
  refine s_iload_n (pc1 := 7) (tk (n := 4) t254_0 rfl) rfl rfl rfl ?_
  refine s_iconst (pc1 := 8) (tk (n := 5) t254_0 rfl) rfl rfl  ?_
  refine s_call0 (as := [(2, x0), (0, x1), (0, 0)]) (st1 := [(0, x5)]) (p1 := 11) (M2 := 238) (tk (n := 6) t254_0 rfl) rfl rfl rfl rfl rfl (fun r5 => ?_)
  refine s_ic_ge (pc1 := 14) (pt := 62) (tk (n := 7) t254_0 rfl) rfl rfl rfl ?_ ?_
  · refine s_aload_n (pc1 := 63) (tk (n := 5) t254_1 rfl) rfl rfl rfl ?_
    refine s_iload_n (pc1 := 64) (tk (n := 6) t254_1 rfl) rfl rfl rfl ?_
    refine s_call9 (as := [(2, x0), (0, x1)]) (st1 := []) (p1 := 67) (M2 := 253) (tk (n := 7) t254_1 rfl) rfl rfl rfl rfl rfl (fun r9 => ?_)
    exact s_ret (tk (n := 8) t254_1 rfl) rfl rfl rfl
  · refine s_iconst (pc1 := 15) (tk (n := 8) t254_0 rfl) rfl rfl  ?_
    refine s_istore (pc1 := 17) (ls1 := [(2, x0), (0, x1), (0, x2), (0, x3), (0, x4), (0, x5), (0, 0)]) (tk (n := 9) t254_0 rfl) rfl rfl rfl rfl ?_
    rfl
set_option maxRecDepth 100000 in
set_option maxHeartbeats 4000000 in
theorem e_X12_fillsWith_17 (x0 : Int) (x1 : Int) (x2 : Int) (x3 : Int) (x4 : Int) (x5 : Int) (x6 : Int) (h : Hq) : vp 254 17 [(2, x0), (0, x1), (0, x2), (0, x3), (0, x4), (0, x5), (0, x6)] [] h = if 0 < x0 ∧ (kd x0).1 = 12 then (vm 237 [(2, x0), (0, x1), (0, 0)] h).bind (fun r5 => if x6 ≥ (vx r5) then (vp 254 3 [(2, x0), (0, x1), (0, x2), (0, x3), (0, x4), (0, w32 (x5 + 1)), (0, x6)] [] r5.2) else (if 0 < x0 ∧ (kd x0).1 = 12 then (vm 251 [(2, x0), (0, x1), (0, 0), (0, x6), (0, x5), (0, w32 ((w32 ((w32 (x2 * x6)) + (w32 (x3 * x5)))) + x4))] r5.2).bind (fun r21 => vp 254 17 [(2, x0), (0, x1), (0, x2), (0, x3), (0, x4), (0, x5), (0, w32 (x6 + 1))] [] r21.2) else none)) else none := by
  refine s_iload (pc1 := 19) (tk (n := 10) t254_0 rfl) rfl rfl rfl ?_
  refine s_aload_n (pc1 := 20) (tk (n := 11) t254_0 rfl) rfl rfl rfl ?_
  refine s_iload_n (pc1 := 21) (tk (n := 12) t254_0 rfl) rfl rfl rfl ?_
  refine s_iconst (pc1 := 22) (tk (n := 13) t254_0 rfl) rfl rfl  ?_
  refine s_call0 (as := [(2, x0), (0, x1), (0, 0)]) (st1 := [(0, x6)]) (p1 := 25) (M2 := 237) (tk (n := 14) t254_0 rfl) rfl rfl rfl rfl rfl (fun r5 => ?_)
  refine s_ic_ge (pc1 := 28) (pt := 56) (tk (n := 15) t254_0 rfl) rfl rfl rfl ?_ ?_
  · refine s_iinc (pc1 := 59) (ls1 := [(2, x0), (0, x1), (0, x2), (0, x3), (0, x4), (0, w32 (x5 + 1)), (0, x6)]) (tk (n := 3) t254_1 rfl) rfl rfl rfl rfl ?_
    refine s_goto (pc1 := 3) (tk (n := 4) t254_1 rfl) rfl rfl ?_
    rfl
  · refine s_aload_n (pc1 := 29) (tk (n := 16) t254_0 rfl) rfl rfl rfl ?_
    refine s_iload_n (pc1 := 30) (tk (n := 17) t254_0 rfl) rfl rfl rfl ?_
    refine s_iconst (pc1 := 31) (tk (n := 18) t254_0 rfl) rfl rfl  ?_
    refine s_iload (pc1 := 33) (tk (n := 19) t254_0 rfl) rfl rfl rfl ?_
    refine s_iload (pc1 := 35) (tk (n := 20) t254_0 rfl) rfl rfl rfl ?_
    refine s_iload_n (pc1 := 36) (tk (n := 21) t254_0 rfl) rfl rfl rfl ?_
    refine s_iload (pc1 := 38) (tk (n := 22) t254_0 rfl) rfl rfl rfl ?_
    refine s_imul (pc1 := 39) (tk (n := 23) t254_0 rfl) rfl rfl  ?_
    refine s_iload_n (pc1 := 40) (tk (n := 24) t254_0 rfl) rfl rfl rfl ?_
    refine s_iload (pc1 := 42) (tk (n := 25) t254_0 rfl) rfl rfl rfl ?_
    refine s_imul (pc1 := 43) (tk (n := 26) t254_0 rfl) rfl rfl  ?_
    refine s_iadd (pc1 := 44) (tk (n := 27) t254_0 rfl) rfl rfl  ?_
    refine s_iload (pc1 := 46) (tk (n := 28) t254_0 rfl) rfl rfl rfl ?_
    refine s_iadd (pc1 := 47) (tk (n := 29) t254_0 rfl) rfl rfl  ?_
    refine s_call9 (as := [(2, x0), (0, x1), (0, 0), (0, x6), (0, x5), (0, w32 ((w32 ((w32 (x2 * x6)) + (w32 (x3 * x5)))) + x4))]) (st1 := []) (p1 := 50) (M2 := 251) (tk (n := 0) t254_1 rfl) rfl rfl rfl rfl rfl (fun r21 => ?_)
    refine s_iinc (pc1 := 53) (ls1 := [(2, x0), (0, x1), (0, x2), (0, x3), (0, x4), (0, x5), (0, w32 (x6 + 1))]) (tk (n := 1) t254_1 rfl) rfl rfl rfl rfl ?_
    refine s_goto (pc1 := 17) (tk (n := 2) t254_1 rfl) rfl rfl ?_
    rfl
set_option maxRecDepth 100000 in
set_option maxHeartbeats 4000000 in
theorem e_X12_changedIn (x0 : Int) (x1 : Int) (h : Hq) : vm 255 [(2, x0), (0, x1)] h = if 0 < x0 ∧ (kd x0).1 = 12 then (vm 234 [(2, x0), (0, x1), (0, 0)] h).bind (fun r7 => if 0 < x0 ∧ (kd x0).1 = 12 then (vm 234 [(2, x0), (0, x1), (0, 1)] r7.2).bind (fun r12 => vp 255 23 [(2, x0), (0, x1), (0, 0), (0, w32 ((w32 (400 * (vx r7))) + (vx r12))), (0, 0)] [] r12.2) else none) else none := by
  show vp 255 0 [(2, x0), (0, x1), (9, 0), (9, 0), (9, 0)] [] h = _
  refine s_iconst (pc1 := 1) (tk (n := 0) t255_0 rfl) rfl rfl  ?_
  refine s_istore_n (pc1 := 2) (ls1 := [(2, x0), (0, x1), (0, 0), (9, 0), (9, 0)]) (tk (n := 1) t255_0 rfl) rfl rfl rfl rfl ?_
  refine s_sipush (pc1 := 5) (tk (n := 2) t255_0 rfl) rfl rfl  ?_
  refine s_aload_n (pc1 := 6) (tk (n := 3) t255_0 rfl) rfl rfl rfl ?_
  refine s_iload_n (pc1 := 7) (tk (n := 4) t255_0 rfl) rfl rfl rfl ?_
  refine s_iconst (pc1 := 8) (tk (n := 5) t255_0 rfl) rfl rfl  ?_
  refine s_call0 (as := [(2, x0), (0, x1), (0, 0)]) (st1 := [(0, 400)]) (p1 := 11) (M2 := 234) (tk (n := 6) t255_0 rfl) rfl rfl rfl rfl rfl (fun r7 => ?_)
  refine s_imul (pc1 := 12) (tk (n := 7) t255_0 rfl) rfl rfl  ?_
  refine s_aload_n (pc1 := 13) (tk (n := 8) t255_0 rfl) rfl rfl rfl ?_
  refine s_iload_n (pc1 := 14) (tk (n := 9) t255_0 rfl) rfl rfl rfl ?_
  refine s_iconst (pc1 := 15) (tk (n := 10) t255_0 rfl) rfl rfl  ?_
  refine s_call0 (as := [(2, x0), (0, x1), (0, 1)]) (st1 := [(0, w32 (400 * (vx r7)))]) (p1 := 18) (M2 := 234) (tk (n := 11) t255_0 rfl) rfl rfl rfl rfl rfl (fun r12 => ?_)
  refine s_iadd (pc1 := 19) (tk (n := 12) t255_0 rfl) rfl rfl  ?_
  refine s_istore_n (pc1 := 20) (ls1 := [(2, x0), (0, x1), (0, 0), (0, w32 ((w32 (400 * (vx r7))) + (vx r12))), (9, 0)]) (tk (n := 13) t255_0 rfl) rfl rfl rfl rfl ?_
  refine s_iconst (pc1 := 21) (tk (n := 14) t255_0 rfl) rfl rfl  ?_
  refine s_istore (pc1 := 23) (ls1 := [(2, x0), (0, x1), (0, 0), (0, w32 ((w32 (400 * (vx r7))) + (vx r12))), (0, 0)]) (tk (n := 15) t255_0 rfl) rfl rfl rfl rfl ?_
  rfl
set_option maxRecDepth 100000 in
set_option maxHeartbeats 4000000 in
theorem e_X12_changedIn_23 (x0 : Int) (x1 : Int) (x2 : Int) (x3 : Int) (x4 : Int) (h : Hq) : vp 255 23 [(2, x0), (0, x1), (0, x2), (0, x3), (0, x4)] [] h = if 0 < x0 ∧ (kd x0).1 = 12 then (vm 234 [(2, x0), (0, x1), (0, 2)] h).bind (fun r5 => if 0 < x0 ∧ (kd x0).1 = 12 then (vm 234 [(2, x0), (0, x1), (0, 3)] r5.2).bind (fun r9 => if 0 < x0 ∧ (kd x0).1 = 12 then (vm 234 [(2, x0), (0, x1), (0, 4)] r9.2).bind (fun r13 => (vm 199 [(0, vx r5), (0, vx r9), (0, vx r13)] r13.2).bind (fun r14 => if x4 ≥ (vx r14) then (some (some (0, x2), r14.2)) else (if 0 < x0 ∧ (kd x0).1 = 12 then if (kd (r14.2.2 x0 22)).1 = 20 ∧ 0 ≤ (w32 (x3 + x4)) ∧ (w32 (x3 + x4)) < (kd (r14.2.2 x0 22)).2 then if 0 < x0 ∧ (kd x0).1 = 12 then if (kd (r14.2.2 x0 27)).1 = 20 ∧ 0 ≤ (w32 (x3 + x4)) ∧ (w32 (x3 + x4)) < (kd (r14.2.2 x0 27)).2 then if (r14.2.2 (r14.2.2 x0 22) (w32 (x3 + x4))) = (r14.2.2 (r14.2.2 x0 27) (w32 (x3 + x4))) then ((vm 168 [(0, 0)] r14.2).bind (fun r31 => vp 255 23 [(2, x0), (0, x1), (0, w32 (x2 + (vx r31))), (0, x3), (0, w32 (x4 + 1))] [] r31.2)) else ((vm 168 [(0, 1)] r14.2).bind (fun r32 => vp 255 23 [(2, x0), (0, x1), (0, w32 (x2 + (vx r32))), (0, x3), (0, w32 (x4 + 1))] [] r32.2)) else none else none else none else none))) else none) else none) else none := by
  refine s_iload (pc1 := 25) (tk (n := 16) t255_0 rfl) rfl rfl rfl ?_
  refine s_aload_n (pc1 := 26) (tk (n := 17) t255_0 rfl) rfl rfl rfl ?_
  refine s_iload_n (pc1 := 27) (tk (n := 18) t255_0 rfl) rfl rfl rfl ?_
  refine s_iconst (pc1 := 28) (tk (n := 19) t255_0 rfl) rfl rfl  ?_
  refine s_call0 (as := [(2, x0), (0, x1), (0, 2)]) (st1 := [(0, x4)]) (p1 := 31) (M2 := 234) (tk (n := 20) t255_0 rfl) rfl rfl rfl rfl rfl (fun r5 => ?_)
  refine s_aload_n (pc1 := 32) (tk (n := 21) t255_0 rfl) rfl rfl rfl ?_
  refine s_iload_n (pc1 := 33) (tk (n := 22) t255_0 rfl) rfl rfl rfl ?_
  refine s_iconst (pc1 := 34) (tk (n := 23) t255_0 rfl) rfl rfl  ?_
  refine s_call0 (as := [(2, x0), (0, x1), (0, 3)]) (st1 := [(0, vx r5), (0, x4)]) (p1 := 37) (M2 := 234) (tk (n := 24) t255_0 rfl) rfl rfl rfl rfl rfl (fun r9 => ?_)
  refine s_aload_n (pc1 := 38) (tk (n := 25) t255_0 rfl) rfl rfl rfl ?_
  refine s_iload_n (pc1 := 39) (tk (n := 26) t255_0 rfl) rfl rfl rfl ?_
  refine s_iconst (pc1 := 40) (tk (n := 27) t255_0 rfl) rfl rfl  ?_
  refine s_call0 (as := [(2, x0), (0, x1), (0, 4)]) (st1 := [(0, vx r9), (0, vx r5), (0, x4)]) (p1 := 43) (M2 := 234) (tk (n := 28) t255_0 rfl) rfl rfl rfl rfl rfl (fun r13 => ?_)
  refine s_callS0 (as := [(0, vx r5), (0, vx r9), (0, vx r13)]) (st1 := [(0, x4)]) (p1 := 46) (M2 := 199) (tk (n := 29) t255_0 rfl) rfl rfl rfl rfl rfl (fun r14 => ?_)
  refine s_ic_ge (pc1 := 49) (pt := 87) (tk (n := 0) t255_1 rfl) rfl rfl rfl ?_ ?_
  · refine s_iload_n (pc1 := 88) (tk (n := 23) t255_1 rfl) rfl rfl rfl ?_
    exact s_ret (tk (n := 24) t255_1 rfl) rfl rfl rfl
  · refine s_iload_n (pc1 := 50) (tk (n := 1) t255_1 rfl) rfl rfl rfl ?_
    refine s_aload_n (pc1 := 51) (tk (n := 2) t255_1 rfl) rfl rfl rfl ?_
    refine s_getf (pc1 := 54) (c := 12) (t1 := 2) (tk (n := 3) t255_1 rfl) rfl rfl (by decide) rfl rfl ?_
    refine s_iload_n (pc1 := 55) (tk (n := 4) t255_1 rfl) rfl rfl rfl ?_
    refine s_iload (pc1 := 57) (tk (n := 5) t255_1 rfl) rfl rfl rfl ?_
    refine s_iadd (pc1 := 58) (tk (n := 6) t255_1 rfl) rfl rfl  ?_
    refine s_iald (pc1 := 59) (tk (n := 7) t255_1 rfl) rfl rfl  ?_
    refine s_aload_n (pc1 := 60) (tk (n := 8) t255_1 rfl) rfl rfl rfl ?_
    refine s_getf (pc1 := 63) (c := 12) (t1 := 2) (tk (n := 9) t255_1 rfl) rfl rfl (by decide) rfl rfl ?_
    refine s_iload_n (pc1 := 64) (tk (n := 10) t255_1 rfl) rfl rfl rfl ?_
    refine s_iload (pc1 := 66) (tk (n := 11) t255_1 rfl) rfl rfl rfl ?_
    refine s_iadd (pc1 := 67) (tk (n := 12) t255_1 rfl) rfl rfl  ?_
    refine s_iald (pc1 := 68) (tk (n := 13) t255_1 rfl) rfl rfl  ?_
    refine s_ic_eq (pc1 := 71) (pt := 75) (tk (n := 14) t255_1 rfl) rfl rfl rfl ?_ ?_
    · refine s_iconst (pc1 := 76) (tk (n := 17) t255_1 rfl) rfl rfl  ?_
      refine s_callS0 (as := [(0, 0)]) (st1 := [(0, x2)]) (p1 := 79) (M2 := 168) (tk (n := 18) t255_1 rfl) rfl rfl rfl rfl rfl (fun r31 => ?_)
      refine s_iadd (pc1 := 80) (tk (n := 19) t255_1 rfl) rfl rfl  ?_
      refine s_istore_n (pc1 := 81) (ls1 := [(2, x0), (0, x1), (0, w32 (x2 + (vx r31))), (0, x3), (0, x4)]) (tk (n := 20) t255_1 rfl) rfl rfl rfl rfl ?_
      refine s_iinc (pc1 := 84) (ls1 := [(2, x0), (0, x1), (0, w32 (x2 + (vx r31))), (0, x3), (0, w32 (x4 + 1))]) (tk (n := 21) t255_1 rfl) rfl rfl rfl rfl ?_
      refine s_goto (pc1 := 23) (tk (n := 22) t255_1 rfl) rfl rfl ?_
      rfl
    · refine s_iconst (pc1 := 72) (tk (n := 15) t255_1 rfl) rfl rfl  ?_
      refine s_goto (pc1 := 76) (tk (n := 16) t255_1 rfl) rfl rfl ?_
      refine s_callS0 (as := [(0, 1)]) (st1 := [(0, x2)]) (p1 := 79) (M2 := 168) (tk (n := 18) t255_1 rfl) rfl rfl rfl rfl rfl (fun r32 => ?_)
      refine s_iadd (pc1 := 80) (tk (n := 19) t255_1 rfl) rfl rfl  ?_
      refine s_istore_n (pc1 := 81) (ls1 := [(2, x0), (0, x1), (0, w32 (x2 + (vx r32))), (0, x3), (0, x4)]) (tk (n := 20) t255_1 rfl) rfl rfl rfl rfl ?_
      refine s_iinc (pc1 := 84) (ls1 := [(2, x0), (0, x1), (0, w32 (x2 + (vx r32))), (0, x3), (0, w32 (x4 + 1))]) (tk (n := 21) t255_1 rfl) rfl rfl rfl rfl ?_
      refine s_goto (pc1 := 23) (tk (n := 22) t255_1 rfl) rfl rfl ?_
      rfl
set_option maxRecDepth 100000 in
set_option maxHeartbeats 4000000 in
theorem e_X12_kept (x0 : Int) (x1 : Int) (h : Hq) : vm 256 [(2, x0), (0, x1)] h = if 0 < x0 ∧ (kd x0).1 = 12 then (vm 255 [(2, x0), (0, x1)] h).bind (fun r3 => if (vx r3) ≤ 0 then (if (0 < x0 ∧ (kd x0).1 = 12) ∧ ((0 : Int) = 0 ∨ (0 : Int) = 1) then if 0 < x0 ∧ (kd x0).1 = 12 then (vm 219 [(2, x0)] (r3.2.1, stm r3.2.2 x0 29 0)).bind (fun r11 => some (some (0, vx r3), r11.2)) else none else none) else (if (0 < x0 ∧ (kd x0).1 = 12) ∧ ((1 : Int) = 0 ∨ (1 : Int) = 1) then if 0 < x0 ∧ (kd x0).1 = 12 then (vm 219 [(2, x0)] (r3.2.1, stm r3.2.2 x0 29 1)).bind (fun r12 => some (some (0, vx r3), r12.2)) else none else none)) else none := by
  show vp 256 0 [(2, x0), (0, x1), (9, 0)] [] h = _
  refine s_aload_n (pc1 := 1) (tk (n := 0) t256_0 rfl) rfl rfl rfl ?_
  refine s_iload_n (pc1 := 2) (tk (n := 1) t256_0 rfl) rfl rfl rfl ?_
  refine s_call0 (as := [(2, x0), (0, x1)]) (st1 := []) (p1 := 5) (M2 := 255) (tk (n := 2) t256_0 rfl) rfl rfl rfl rfl rfl (fun r3 => ?_)
  refine s_istore_n (pc1 := 6) (ls1 := [(2, x0), (0, x1), (0, vx r3)]) (tk (n := 3) t256_0 rfl) rfl rfl rfl rfl ?_
  refine s_aload_n (pc1 := 7) (tk (n := 4) t256_0 rfl) rfl rfl rfl ?_
  refine s_iload_n (pc1 := 8) (tk (n := 5) t256_0 rfl) rfl rfl rfl ?_
  refine s_if_le (pc1 := 11) (pt := 15) (tk (n := 6) t256_0 rfl) rfl rfl rfl ?_ ?_
  · refine s_iconst (pc1 := 16) (tk (n := 9) t256_0 rfl) rfl rfl  ?_
    refine s_putfZ (pc1 := 19) (c := 12) (tk (n := 10) t256_0 rfl) rfl rfl rfl ?_
    refine s_aload_n (pc1 := 20) (tk (n := 11) t256_0 rfl) rfl rfl rfl ?_
    refine s_call9 (as := [(2, x0)]) (st1 := []) (p1 := 23) (M2 := 219) (tk (n := 12) t256_0 rfl) rfl rfl rfl rfl rfl (fun r11 => ?_)
    refine s_iload_n (pc1 := 24) (tk (n := 13) t256_0 rfl) rfl rfl rfl ?_
    exact s_ret (tk (n := 14) t256_0 rfl) rfl rfl rfl
  · refine s_iconst (pc1 := 12) (tk (n := 7) t256_0 rfl) rfl rfl  ?_
    refine s_goto (pc1 := 16) (tk (n := 8) t256_0 rfl) rfl rfl ?_
    refine s_putfZ (pc1 := 19) (c := 12) (tk (n := 10) t256_0 rfl) rfl rfl rfl ?_
    refine s_aload_n (pc1 := 20) (tk (n := 11) t256_0 rfl) rfl rfl rfl ?_
    refine s_call9 (as := [(2, x0)]) (st1 := []) (p1 := 23) (M2 := 219) (tk (n := 12) t256_0 rfl) rfl rfl rfl rfl rfl (fun r12 => ?_)
    refine s_iload_n (pc1 := 24) (tk (n := 13) t256_0 rfl) rfl rfl rfl ?_
    exact s_ret (tk (n := 14) t256_0 rfl) rfl rfl rfl
set_option maxRecDepth 100000 in
set_option maxHeartbeats 4000000 in
theorem e_X12_paint (x0 : Int) (x1 : Int) (x2 : Int) (x3 : Int) (x4 : Int) (h : Hq) : vm 257 [(2, x0), (0, x1), (0, x2), (0, x3), (0, x4)] h = if 0 < x0 ∧ (kd x0).1 = 12 then (vm 240 [(2, x0), (0, x1), (0, 0), (0, x2), (0, x3)] h).bind (fun r6 => if (vx r6) = 0 then (some (some (0, (-1)), r6.2)) else ((vm 223 [(0, x4)] r6.2).bind (fun r9 => if (vx r9) ≠ 0 then (if 0 < x0 ∧ (kd x0).1 = 12 then (vm 218 [(2, x0)] r9.2).bind (fun r12 => if 0 < x0 ∧ (kd x0).1 = 12 then (vm 251 [(2, x0), (0, x1), (0, 0), (0, x2), (0, x3), (0, x4)] r12.2).bind (fun r19 => if 0 < x0 ∧ (kd x0).1 = 12 then (vm 253 [(2, x0), (0, x1)] r19.2).bind (fun r22 => if 0 < x0 ∧ (kd x0).1 = 12 then (vm 256 [(2, x0), (0, x1)] r22.2).bind (fun r25 => some (some (0, vx r25), r25.2)) else none) else none) else none) else none) else (some (some (0, (-1)), r9.2))))) else none := by
  show vp 257 0 [(2, x0), (0, x1), (0, x2), (0, x3), (0, x4)] [] h = _
  refine s_aload_n (pc1 := 1) (tk (n := 0) t257_0 rfl) rfl rfl rfl ?_
  refine s_iload_n (pc1 := 2) (tk (n := 1) t257_0 rfl) rfl rfl rfl ?_
  refine s_iconst (pc1 := 3) (tk (n := 2) t257_0 rfl) rfl rfl  ?_
  refine s_iload_n (pc1 := 4) (tk (n := 3) t257_0 rfl) rfl rfl rfl ?_
  refine s_iload_n (pc1 := 5) (tk (n := 4) t257_0 rfl) rfl rfl rfl ?_
  refine s_call0 (as := [(2, x0), (0, x1), (0, 0), (0, x2), (0, x3)]) (st1 := []) (p1 := 8) (M2 := 240) (tk (n := 5) t257_0 rfl) rfl rfl rfl rfl rfl (fun r6 => ?_)
  refine s_if_eq (pc1 := 11) (pt := 19) (tk (n := 6) t257_0 rfl) rfl rfl rfl ?_ ?_
  · refine s_iconst (pc1 := 20) (tk (n := 10) t257_0 rfl) rfl rfl  ?_
    exact s_ret (tk (n := 11) t257_0 rfl) rfl rfl rfl
  · refine s_iload (pc1 := 13) (tk (n := 7) t257_0 rfl) rfl rfl rfl ?_
    refine s_callS0 (as := [(0, x4)]) (st1 := []) (p1 := 16) (M2 := 223) (tk (n := 8) t257_0 rfl) rfl rfl rfl rfl rfl (fun r9 => ?_)
    refine s_if_ne (pc1 := 19) (pt := 21) (tk (n := 9) t257_0 rfl) rfl rfl rfl ?_ ?_
    · refine s_aload_n (pc1 := 22) (tk (n := 12) t257_0 rfl) rfl rfl rfl ?_
      refine s_call9 (as := [(2, x0)]) (st1 := []) (p1 := 25) (M2 := 218) (tk (n := 13) t257_0 rfl) rfl rfl rfl rfl rfl (fun r12 => ?_)
      refine s_aload_n (pc1 := 26) (tk (n := 14) t257_0 rfl) rfl rfl rfl ?_
      refine s_iload_n (pc1 := 27) (tk (n := 15) t257_0 rfl) rfl rfl rfl ?_
      refine s_iconst (pc1 := 28) (tk (n := 16) t257_0 rfl) rfl rfl  ?_
      refine s_iload_n (pc1 := 29) (tk (n := 17) t257_0 rfl) rfl rfl rfl ?_
      refine s_iload_n (pc1 := 30) (tk (n := 18) t257_0 rfl) rfl rfl rfl ?_
      refine s_iload (pc1 := 32) (tk (n := 19) t257_0 rfl) rfl rfl rfl ?_
      refine s_call9 (as := [(2, x0), (0, x1), (0, 0), (0, x2), (0, x3), (0, x4)]) (st1 := []) (p1 := 35) (M2 := 251) (tk (n := 20) t257_0 rfl) rfl rfl rfl rfl rfl (fun r19 => ?_)
      refine s_aload_n (pc1 := 36) (tk (n := 21) t257_0 rfl) rfl rfl rfl ?_
      refine s_iload_n (pc1 := 37) (tk (n := 22) t257_0 rfl) rfl rfl rfl ?_
      refine s_call9 (as := [(2, x0), (0, x1)]) (st1 := []) (p1 := 40) (M2 := 253) (tk (n := 23) t257_0 rfl) rfl rfl rfl rfl rfl (fun r22 => ?_)
      refine s_aload_n (pc1 := 41) (tk (n := 24) t257_0 rfl) rfl rfl rfl ?_
      refine s_iload_n (pc1 := 42) (tk (n := 25) t257_0 rfl) rfl rfl rfl ?_
      refine s_call0 (as := [(2, x0), (0, x1)]) (st1 := []) (p1 := 45) (M2 := 256) (tk (n := 26) t257_0 rfl) rfl rfl rfl rfl rfl (fun r25 => ?_)
      exact s_ret (tk (n := 27) t257_0 rfl) rfl rfl rfl
    · refine s_iconst (pc1 := 20) (tk (n := 10) t257_0 rfl) rfl rfl  ?_
      exact s_ret (tk (n := 11) t257_0 rfl) rfl rfl rfl
set_option maxRecDepth 100000 in
set_option maxHeartbeats 4000000 in
theorem e_X12_isFill (x0 : Int) (h : Hq) : vm 258 [(0, x0)] h = (vm 165 [(0, x0), (0, (-9999)), (0, 9999)] h).bind (fun r4 => if (vx r4) = 0 ∨ (vx r4) = 1 then some (some (0, vx r4), r4.2) else none) := by
  show vp 258 0 [(0, x0)] [] h = _
  refine s_iload_n (pc1 := 1) (tk (n := 0) t258_0 rfl) rfl rfl rfl ?_
  refine s_sipush (pc1 := 4) (tk (n := 1) t258_0 rfl) rfl rfl  ?_
  refine s_sipush (pc1 := 7) (tk (n := 2) t258_0 rfl) rfl rfl  ?_
  refine s_callS0 (as := [(0, x0), (0, (-9999)), (0, 9999)]) (st1 := []) (p1 := 10) (M2 := 165) (tk (n := 3) t258_0 rfl) rfl rfl rfl rfl rfl (fun r4 => ?_)
  exact s_retG (tk (n := 4) t258_0 rfl) rfl rfl rfl
set_option maxRecDepth 100000 in
set_option maxHeartbeats 4000000 in
theorem e_X12_fill (x0 : Int) (x1 : Int) (x2 : Int) (x3 : Int) (x4 : Int) (h : Hq) : vm 259 [(2, x0), (0, x1), (0, x2), (0, x3), (0, x4)] h = if 0 < x0 ∧ (kd x0).1 = 12 then (vm 235 [(2, x0), (0, x1)] h).bind (fun r3 => if (vx r3) = 0 then (some (some (0, (-1)), r3.2)) else ((vm 258 [(0, x2)] r3.2).bind (fun r6 => if (vx r6) = 0 then (some (some (0, (-1)), r6.2)) else ((vm 258 [(0, x3)] r6.2).bind (fun r9 => if (vx r9) = 0 then (some (some (0, (-1)), r9.2)) else ((vm 258 [(0, x4)] r9.2).bind (fun r12 => if (vx r12) ≠ 0 then (if 0 < x0 ∧ (kd x0).1 = 12 then (vm 218 [(2, x0)] r12.2).bind (fun r15 => if 0 < x0 ∧ (kd x0).1 = 12 then (vm 254 [(2, x0), (0, x1), (0, x2), (0, x3), (0, x4)] r15.2).bind (fun r21 => if 0 < x0 ∧ (kd x0).1 = 12 then (vm 256 [(2, x0), (0, x1)] r21.2).bind (fun r24 => some (some (0, vx r24), r24.2)) else none) else none) else none) else (some (some (0, (-1)), r12.2))))))))) else none := by
  show vp 259 0 [(2, x0), (0, x1), (0, x2), (0, x3), (0, x4)] [] h = _
  refine s_aload_n (pc1 := 1) (tk (n := 0) t259_0 rfl) rfl rfl rfl ?_
  refine s_iload_n (pc1 := 2) (tk (n := 1) t259_0 rfl) rfl rfl rfl ?_
  refine s_call0 (as := [(2, x0), (0, x1)]) (st1 := []) (p1 := 5) (M2 := 235) (tk (n := 2) t259_0 rfl) rfl rfl rfl rfl rfl (fun r3 => ?_)
  refine s_if_eq (pc1 := 8) (pt := 30) (tk (n := 3) t259_0 rfl) rfl rfl rfl ?_ ?_
  · refine s_iconst (pc1 := 31) (tk (n := 13) t259_0 rfl) rfl rfl  ?_
    exact s_ret (tk (n := 14) t259_0 rfl) rfl rfl rfl
  · refine s_iload_n (pc1 := 9) (tk (n := 4) t259_0 rfl) rfl rfl rfl ?_
    refine s_callS0 (as := [(0, x2)]) (st1 := []) (p1 := 12) (M2 := 258) (tk (n := 5) t259_0 rfl) rfl rfl rfl rfl rfl (fun r6 => ?_)
    refine s_if_eq (pc1 := 15) (pt := 30) (tk (n := 6) t259_0 rfl) rfl rfl rfl ?_ ?_
    · refine s_iconst (pc1 := 31) (tk (n := 13) t259_0 rfl) rfl rfl  ?_
      exact s_ret (tk (n := 14) t259_0 rfl) rfl rfl rfl
    · refine s_iload_n (pc1 := 16) (tk (n := 7) t259_0 rfl) rfl rfl rfl ?_
      refine s_callS0 (as := [(0, x3)]) (st1 := []) (p1 := 19) (M2 := 258) (tk (n := 8) t259_0 rfl) rfl rfl rfl rfl rfl (fun r9 => ?_)
      refine s_if_eq (pc1 := 22) (pt := 30) (tk (n := 9) t259_0 rfl) rfl rfl rfl ?_ ?_
      · refine s_iconst (pc1 := 31) (tk (n := 13) t259_0 rfl) rfl rfl  ?_
        exact s_ret (tk (n := 14) t259_0 rfl) rfl rfl rfl
      · refine s_iload (pc1 := 24) (tk (n := 10) t259_0 rfl) rfl rfl rfl ?_
        refine s_callS0 (as := [(0, x4)]) (st1 := []) (p1 := 27) (M2 := 258) (tk (n := 11) t259_0 rfl) rfl rfl rfl rfl rfl (fun r12 => ?_)
        refine s_if_ne (pc1 := 30) (pt := 32) (tk (n := 12) t259_0 rfl) rfl rfl rfl ?_ ?_
        · refine s_aload_n (pc1 := 33) (tk (n := 15) t259_0 rfl) rfl rfl rfl ?_
          refine s_call9 (as := [(2, x0)]) (st1 := []) (p1 := 36) (M2 := 218) (tk (n := 16) t259_0 rfl) rfl rfl rfl rfl rfl (fun r15 => ?_)
          refine s_aload_n (pc1 := 37) (tk (n := 17) t259_0 rfl) rfl rfl rfl ?_
          refine s_iload_n (pc1 := 38) (tk (n := 18) t259_0 rfl) rfl rfl rfl ?_
          refine s_iload_n (pc1 := 39) (tk (n := 19) t259_0 rfl) rfl rfl rfl ?_
          refine s_iload_n (pc1 := 40) (tk (n := 20) t259_0 rfl) rfl rfl rfl ?_
          refine s_iload (pc1 := 42) (tk (n := 21) t259_0 rfl) rfl rfl rfl ?_
          refine s_call9 (as := [(2, x0), (0, x1), (0, x2), (0, x3), (0, x4)]) (st1 := []) (p1 := 45) (M2 := 254) (tk (n := 22) t259_0 rfl) rfl rfl rfl rfl rfl (fun r21 => ?_)
          refine s_aload_n (pc1 := 46) (tk (n := 23) t259_0 rfl) rfl rfl rfl ?_
          refine s_iload_n (pc1 := 47) (tk (n := 24) t259_0 rfl) rfl rfl rfl ?_
          refine s_call0 (as := [(2, x0), (0, x1)]) (st1 := []) (p1 := 50) (M2 := 256) (tk (n := 25) t259_0 rfl) rfl rfl rfl rfl rfl (fun r24 => ?_)
          exact s_ret (tk (n := 26) t259_0 rfl) rfl rfl rfl
        · refine s_iconst (pc1 := 31) (tk (n := 13) t259_0 rfl) rfl rfl  ?_
          exact s_ret (tk (n := 14) t259_0 rfl) rfl rfl rfl
set_option maxRecDepth 100000 in
set_option maxHeartbeats 4000000 in
theorem e_X12_make (x0 : Int) (x1 : Int) (h : Hq) : vm 260 [(2, x0), (0, x1)] h = if 0 < x0 ∧ (kd x0).1 = 12 then (vm 235 [(2, x0), (0, x1)] h).bind (fun r3 => if (vx r3) ≠ 0 then (if 0 < x0 ∧ (kd x0).1 = 12 then (vm 218 [(2, x0)] r3.2).bind (fun r6 => if 0 < x0 ∧ (kd x0).1 = 12 then (vm 253 [(2, x0), (0, x1)] r6.2).bind (fun r9 => if 0 < x0 ∧ (kd x0).1 = 12 then (vm 256 [(2, x0), (0, x1)] r9.2).bind (fun r12 => some (some (0, vx r12), r12.2)) else none) else none) else none) else (some (some (0, (-1)), r3.2))) else none := by
  show vp 260 0 [(2, x0), (0, x1)] [] h = _
  refine s_aload_n (pc1 := 1) (tk (n := 0) t260_0 rfl) rfl rfl rfl ?_
  refine s_iload_n (pc1 := 2) (tk (n := 1) t260_0 rfl) rfl rfl rfl ?_
  refine s_call0 (as := [(2, x0), (0, x1)]) (st1 := []) (p1 := 5) (M2 := 235) (tk (n := 2) t260_0 rfl) rfl rfl rfl rfl rfl (fun r3 => ?_)
  refine s_if_ne (pc1 := 8) (pt := 10) (tk (n := 3) t260_0 rfl) rfl rfl rfl ?_ ?_
  · refine s_aload_n (pc1 := 11) (tk (n := 6) t260_0 rfl) rfl rfl rfl ?_
    refine s_call9 (as := [(2, x0)]) (st1 := []) (p1 := 14) (M2 := 218) (tk (n := 7) t260_0 rfl) rfl rfl rfl rfl rfl (fun r6 => ?_)
    refine s_aload_n (pc1 := 15) (tk (n := 8) t260_0 rfl) rfl rfl rfl ?_
    refine s_iload_n (pc1 := 16) (tk (n := 9) t260_0 rfl) rfl rfl rfl ?_
    refine s_call9 (as := [(2, x0), (0, x1)]) (st1 := []) (p1 := 19) (M2 := 253) (tk (n := 10) t260_0 rfl) rfl rfl rfl rfl rfl (fun r9 => ?_)
    refine s_aload_n (pc1 := 20) (tk (n := 11) t260_0 rfl) rfl rfl rfl ?_
    refine s_iload_n (pc1 := 21) (tk (n := 12) t260_0 rfl) rfl rfl rfl ?_
    refine s_call0 (as := [(2, x0), (0, x1)]) (st1 := []) (p1 := 24) (M2 := 256) (tk (n := 13) t260_0 rfl) rfl rfl rfl rfl rfl (fun r12 => ?_)
    exact s_ret (tk (n := 14) t260_0 rfl) rfl rfl rfl
  · refine s_iconst (pc1 := 9) (tk (n := 4) t260_0 rfl) rfl rfl  ?_
    exact s_ret (tk (n := 5) t260_0 rfl) rfl rfl rfl
set_option maxRecDepth 100000 in
set_option maxHeartbeats 4000000 in
theorem e_X12_stale (x0 : Int) (x1 : Int) (h : Hq) : vm 261 [(2, x0), (0, x1)] h = if 0 < x0 ∧ (kd x0).1 = 12 then (vm 235 [(2, x0), (0, x1)] h).bind (fun r3 => if (vx r3) ≠ 0 then (vp 261 14 [(2, x0), (0, x1), (0, 0), (0, 1), (9, 0), (9, 0)] [] r3.2) else (some (some (0, (-1)), r3.2))) else none := by
  show vp 261 0 [(2, x0), (0, x1), (9, 0), (9, 0), (9, 0), (9, 0)] [] h = _
  refine s_aload_n (pc1 := 1) (tk (n := 0) t261_0 rfl) rfl rfl rfl ?_
  refine s_iload_n (pc1 := 2) (tk (n := 1) t261_0 rfl) rfl rfl rfl ?_
  refine s_call0 (as := [(2, x0), (0, x1)]) (st1 := []) (p1 := 5) (M2 := 235) (tk (n := 2) t261_0 rfl) rfl rfl rfl rfl rfl (fun r3 => ?_)
  refine s_if_ne (pc1 := 8) (pt := 10) (tk (n := 3) t261_0 rfl) rfl rfl rfl ?_ ?_
  · refine s_iconst (pc1 := 11) (tk (n := 6) t261_0 rfl) rfl rfl  ?_
    refine s_istore_n (pc1 := 12) (ls1 := [(2, x0), (0, x1), (0, 0), (9, 0), (9, 0), (9, 0)]) (tk (n := 7) t261_0 rfl) rfl rfl rfl rfl ?_
    refine s_iconst (pc1 := 13) (tk (n := 8) t261_0 rfl) rfl rfl  ?_
    refine s_istore_n (pc1 := 14) (ls1 := [(2, x0), (0, x1), (0, 0), (0, 1), (9, 0), (9, 0)]) (tk (n := 9) t261_0 rfl) rfl rfl rfl rfl ?_
    rfl
  · refine s_iconst (pc1 := 9) (tk (n := 4) t261_0 rfl) rfl rfl  ?_
    exact s_ret (tk (n := 5) t261_0 rfl) rfl rfl rfl
set_option maxRecDepth 100000 in
set_option maxHeartbeats 4000000 in
theorem e_X12_stale_14 (x0 : Int) (x1 : Int) (x2 : Int) (x3 : Int) (z4 : Vl) (z5 : Vl) (h : Hq) : vp 261 14 [(2, x0), (0, x1), (0, x2), (0, x3), z4, z5] [] h = if 0 < x0 ∧ (kd x0).1 = 12 then (vm 234 [(2, x0), (0, x1), (0, 4)] h).bind (fun r5 => if x3 ≥ (vx r5) then (some (some (0, x2), r5.2)) else (vp 261 27 [(2, x0), (0, x1), (0, x2), (0, x3), (0, 0), (9, 0)] [] r5.2)) else none := by
  refine s_fg (ls1 := [(2, x0), (0, x1), (0, x2), (0, x3), (9, 0), (9, 0)]) (tk (n := 10) t261_0 rfl) rfl ?_
  refine s_iload_n (pc1 := 15) (tk (n := 10) t261_0 rfl) rfl rfl rfl ?_
  refine s_aload_n (pc1 := 16) (tk (n := 11) t261_0 rfl) rfl rfl rfl ?_
  refine s_iload_n (pc1 := 17) (tk (n := 12) t261_0 rfl) rfl rfl rfl ?_
  refine s_iconst (pc1 := 18) (tk (n := 13) t261_0 rfl) rfl rfl  ?_
  refine s_call0 (as := [(2, x0), (0, x1), (0, 4)]) (st1 := [(0, x3)]) (p1 := 21) (M2 := 234) (tk (n := 14) t261_0 rfl) rfl rfl rfl rfl rfl (fun r5 => ?_)
  refine s_ic_ge (pc1 := 24) (pt := 118) (tk (n := 15) t261_0 rfl) rfl rfl rfl ?_ ?_
  · refine s_iload_n (pc1 := 119) (tk (n := 6) t261_2 rfl) rfl rfl rfl ?_
    exact s_ret (tk (n := 7) t261_2 rfl) rfl rfl rfl
  · refine s_iconst (pc1 := 25) (tk (n := 16) t261_0 rfl) rfl rfl  ?_
    refine s_istore (pc1 := 27) (ls1 := [(2, x0), (0, x1), (0, x2), (0, x3), (0, 0), (9, 0)]) (tk (n := 17) t261_0 rfl) rfl rfl rfl rfl ?_
    rfl
set_option maxRecDepth 100000 in
set_option maxHeartbeats 4000000 in
theorem e_X12_stale_27 (x0 : Int) (x1 : Int) (x2 : Int) (x3 : Int) (x4 : Int) (z5 : Vl) (h : Hq) : vp 261 27 [(2, x0), (0, x1), (0, x2), (0, x3), (0, x4), z5] [] h = if 0 < x0 ∧ (kd x0).1 = 12 then (vm 238 [(2, x0), (0, x1), (0, x3)] h).bind (fun r5 => if x4 ≥ (vx r5) then (vp 261 14 [(2, x0), (0, x1), (0, x2), (0, w32 (x3 + 1)), (0, x4), (9, 0)] [] r5.2) else (vp 261 41 [(2, x0), (0, x1), (0, x2), (0, x3), (0, x4), (0, 0)] [] r5.2)) else none := by
  refine s_fg (ls1 := [(2, x0), (0, x1), (0, x2), (0, x3), (0, x4), (9, 0)]) (tk (n := 18) t261_0 rfl) rfl ?_
  refine s_iload (pc1 := 29) (tk (n := 18) t261_0 rfl) rfl rfl rfl ?_
  refine s_aload_n (pc1 := 30) (tk (n := 19) t261_0 rfl) rfl rfl rfl ?_
  refine s_iload_n (pc1 := 31) (tk (n := 20) t261_0 rfl) rfl rfl rfl ?_
  refine s_iload_n (pc1 := 32) (tk (n := 21) t261_0 rfl) rfl rfl rfl ?_
  refine s_call0 (as := [(2, x0), (0, x1), (0, x3)]) (st1 := [(0, x4)]) (p1 := 35) (M2 := 238) (tk (n := 22) t261_0 rfl) rfl rfl rfl rfl rfl (fun r5 => ?_)
  refine s_ic_ge (pc1 := 38) (pt := 112) (tk (n := 23) t261_0 rfl) rfl rfl rfl ?_ ?_
  · refine s_iinc (pc1 := 115) (ls1 := [(2, x0), (0, x1), (0, x2), (0, w32 (x3 + 1)), (0, x4), (9, 0)]) (tk (n := 4) t261_2 rfl) rfl rfl rfl rfl ?_
    refine s_goto (pc1 := 14) (tk (n := 5) t261_2 rfl) rfl rfl ?_
    rfl
  · refine s_iconst (pc1 := 39) (tk (n := 24) t261_0 rfl) rfl rfl  ?_
    refine s_istore (pc1 := 41) (ls1 := [(2, x0), (0, x1), (0, x2), (0, x3), (0, x4), (0, 0)]) (tk (n := 25) t261_0 rfl) rfl rfl rfl rfl ?_
    rfl
set_option maxRecDepth 100000 in
set_option maxHeartbeats 4000000 in
theorem e_X12_stale_41 (x0 : Int) (x1 : Int) (x2 : Int) (x3 : Int) (x4 : Int) (x5 : Int) (h : Hq) : vp 261 41 [(2, x0), (0, x1), (0, x2), (0, x3), (0, x4), (0, x5)] [] h = if 0 < x0 ∧ (kd x0).1 = 12 then (vm 237 [(2, x0), (0, x1), (0, x3)] h).bind (fun r5 => if x5 ≥ (vx r5) then (vp 261 27 [(2, x0), (0, x1), (0, x2), (0, x3), (0, w32 (x4 + 1)), (0, x5)] [] r5.2) else (if 0 < x0 ∧ (kd x0).1 = 12 then (vm 248 [(2, x0), (0, x1), (0, x3), (0, x5), (0, x4)] r5.2).bind (fun r13 => if 0 < x0 ∧ (kd x0).1 = 12 then (vm 252 [(2, x0), (0, x1), (0, x3), (0, x5), (0, x4)] r13.2).bind (fun r19 => if 0 < x0 ∧ (kd x0).1 = 12 then if 0 < x0 ∧ (kd x0).1 = 12 then (vm 234 [(2, x0), (0, x1), (0, 0)] r19.2).bind (fun r25 => if (kd (r19.2.2 x0 16)).1 = 20 ∧ 0 ≤ (vx r25) ∧ (vx r25) < (kd (r19.2.2 x0 16)).2 then (vm 214 [(0, vx r19), (0, r25.2.2 (r19.2.2 x0 16) (vx r25))] r25.2).bind (fun r27 => if (vx r13) = (vx r27) then ((vm 168 [(0, 0)] r27.2).bind (fun r30 => vp 261 41 [(2, x0), (0, x1), (0, w32 (x2 + (vx r30))), (0, x3), (0, x4), (0, w32 (x5 + 1))] [] r30.2)) else ((vm 168 [(0, 1)] r27.2).bind (fun r31 => vp 261 41 [(2, x0), (0, x1), (0, w32 (x2 + (vx r31))), (0, x3), (0, x4), (0, w32 (x5 + 1))] [] r31.2))) else none) else none else none) else none) else none)) else none := by
  refine s_iload (pc1 := 43) (tk (n := 26) t261_0 rfl) rfl rfl rfl ?_
  refine s_aload_n (pc1 := 44) (tk (n := 27) t261_0 rfl) rfl rfl rfl ?_
  refine s_iload_n (pc1 := 45) (tk (n := 28) t261_0 rfl) rfl rfl rfl ?_
  refine s_iload_n (pc1 := 46) (tk (n := 29) t261_0 rfl) rfl rfl rfl ?_
  refine s_call0 (as := [(2, x0), (0, x1), (0, x3)]) (st1 := [(0, x5)]) (p1 := 49) (M2 := 237) (tk (n := 0) t261_1 rfl) rfl rfl rfl rfl rfl (fun r5 => ?_)
  refine s_ic_ge (pc1 := 52) (pt := 106) (tk (n := 1) t261_1 rfl) rfl rfl rfl ?_ ?_
  · refine s_iinc (pc1 := 109) (ls1 := [(2, x0), (0, x1), (0, x2), (0, x3), (0, w32 (x4 + 1)), (0, x5)]) (tk (n := 2) t261_2 rfl) rfl rfl rfl rfl ?_
    refine s_goto (pc1 := 27) (tk (n := 3) t261_2 rfl) rfl rfl ?_
    rfl
  · refine s_iload_n (pc1 := 53) (tk (n := 2) t261_1 rfl) rfl rfl rfl ?_
    refine s_aload_n (pc1 := 54) (tk (n := 3) t261_1 rfl) rfl rfl rfl ?_
    refine s_iload_n (pc1 := 55) (tk (n := 4) t261_1 rfl) rfl rfl rfl ?_
    refine s_iload_n (pc1 := 56) (tk (n := 5) t261_1 rfl) rfl rfl rfl ?_
    refine s_iload (pc1 := 58) (tk (n := 6) t261_1 rfl) rfl rfl rfl ?_
    refine s_iload (pc1 := 60) (tk (n := 7) t261_1 rfl) rfl rfl rfl ?_
    refine s_call0 (as := [(2, x0), (0, x1), (0, x3), (0, x5), (0, x4)]) (st1 := [(0, x2)]) (p1 := 63) (M2 := 248) (tk (n := 8) t261_1 rfl) rfl rfl rfl rfl rfl (fun r13 => ?_)
    refine s_aload_n (pc1 := 64) (tk (n := 9) t261_1 rfl) rfl rfl rfl ?_
    refine s_iload_n (pc1 := 65) (tk (n := 10) t261_1 rfl) rfl rfl rfl ?_
    refine s_iload_n (pc1 := 66) (tk (n := 11) t261_1 rfl) rfl rfl rfl ?_
    refine s_iload (pc1 := 68) (tk (n := 12) t261_1 rfl) rfl rfl rfl ?_
    refine s_iload (pc1 := 70) (tk (n := 13) t261_1 rfl) rfl rfl rfl ?_
    refine s_call0 (as := [(2, x0), (0, x1), (0, x3), (0, x5), (0, x4)]) (st1 := [(0, vx r13), (0, x2)]) (p1 := 73) (M2 := 252) (tk (n := 14) t261_1 rfl) rfl rfl rfl rfl rfl (fun r19 => ?_)
    refine s_aload_n (pc1 := 74) (tk (n := 15) t261_1 rfl) rfl rfl rfl ?_
    refine s_getf (pc1 := 77) (c := 12) (t1 := 2) (tk (n := 16) t261_1 rfl) rfl rfl (by decide) rfl rfl ?_
    refine s_aload_n (pc1 := 78) (tk (n := 17) t261_1 rfl) rfl rfl rfl ?_
    refine s_iload_n (pc1 := 79) (tk (n := 18) t261_1 rfl) rfl rfl rfl ?_
    refine s_iconst (pc1 := 80) (tk (n := 19) t261_1 rfl) rfl rfl  ?_
    refine s_call0 (as := [(2, x0), (0, x1), (0, 0)]) (st1 := [(2, r19.2.2 x0 16), (0, vx r19), (0, vx r13), (0, x2)]) (p1 := 83) (M2 := 234) (tk (n := 20) t261_1 rfl) rfl rfl rfl rfl rfl (fun r25 => ?_)
    refine s_iald (pc1 := 84) (tk (n := 21) t261_1 rfl) rfl rfl  ?_
    refine s_callS0 (as := [(0, vx r19), (0, r25.2.2 (r19.2.2 x0 16) (vx r25))]) (st1 := [(0, vx r13), (0, x2)]) (p1 := 87) (M2 := 214) (tk (n := 22) t261_1 rfl) rfl rfl rfl rfl rfl (fun r27 => ?_)
    refine s_ic_eq (pc1 := 90) (pt := 94) (tk (n := 23) t261_1 rfl) rfl rfl rfl ?_ ?_
    · refine s_iconst (pc1 := 95) (tk (n := 26) t261_1 rfl) rfl rfl  ?_
      refine s_callS0 (as := [(0, 0)]) (st1 := [(0, x2)]) (p1 := 98) (M2 := 168) (tk (n := 27) t261_1 rfl) rfl rfl rfl rfl rfl (fun r30 => ?_)
      refine s_iadd (pc1 := 99) (tk (n := 28) t261_1 rfl) rfl rfl  ?_
      refine s_istore_n (pc1 := 100) (ls1 := [(2, x0), (0, x1), (0, w32 (x2 + (vx r30))), (0, x3), (0, x4), (0, x5)]) (tk (n := 29) t261_1 rfl) rfl rfl rfl rfl ?_
      refine s_iinc (pc1 := 103) (ls1 := [(2, x0), (0, x1), (0, w32 (x2 + (vx r30))), (0, x3), (0, x4), (0, w32 (x5 + 1))]) (tk (n := 0) t261_2 rfl) rfl rfl rfl rfl ?_
      refine s_goto (pc1 := 41) (tk (n := 1) t261_2 rfl) rfl rfl ?_
      rfl
    · refine s_iconst (pc1 := 91) (tk (n := 24) t261_1 rfl) rfl rfl  ?_
      refine s_goto (pc1 := 95) (tk (n := 25) t261_1 rfl) rfl rfl ?_
      refine s_callS0 (as := [(0, 1)]) (st1 := [(0, x2)]) (p1 := 98) (M2 := 168) (tk (n := 27) t261_1 rfl) rfl rfl rfl rfl rfl (fun r31 => ?_)
      refine s_iadd (pc1 := 99) (tk (n := 28) t261_1 rfl) rfl rfl  ?_
      refine s_istore_n (pc1 := 100) (ls1 := [(2, x0), (0, x1), (0, w32 (x2 + (vx r31))), (0, x3), (0, x4), (0, x5)]) (tk (n := 29) t261_1 rfl) rfl rfl rfl rfl ?_
      refine s_iinc (pc1 := 103) (ls1 := [(2, x0), (0, x1), (0, w32 (x2 + (vx r31))), (0, x3), (0, x4), (0, w32 (x5 + 1))]) (tk (n := 0) t261_2 rfl) rfl rfl rfl rfl ?_
      refine s_goto (pc1 := 41) (tk (n := 1) t261_2 rfl) rfl rfl ?_
      rfl
set_option maxRecDepth 100000 in
set_option maxHeartbeats 4000000 in
theorem e_X12_rest (x0 : Int) (x1 : Int) (h : Hq) : vm 262 [(0, x0), (0, x1)] h = (vm 170 [(0, x0), (0, x1)] h).bind (fun r5 => some (some (0, w32 (x0 - (w32 (x1 * (vx r5))))), r5.2)) := by
  show vp 262 0 [(0, x0), (0, x1)] [] h = _
  refine s_iload_n (pc1 := 1) (tk (n := 0) t262_0 rfl) rfl rfl rfl ?_
  refine s_iload_n (pc1 := 2) (tk (n := 1) t262_0 rfl) rfl rfl rfl ?_
  refine s_iload_n (pc1 := 3) (tk (n := 2) t262_0 rfl) rfl rfl rfl ?_
  refine s_iload_n (pc1 := 4) (tk (n := 3) t262_0 rfl) rfl rfl rfl ?_
  refine s_callS0 (as := [(0, x0), (0, x1)]) (st1 := [(0, x1), (0, x0)]) (p1 := 7) (M2 := 170) (tk (n := 4) t262_0 rfl) rfl rfl rfl rfl rfl (fun r5 => ?_)
  refine s_imul (pc1 := 8) (tk (n := 5) t262_0 rfl) rfl rfl  ?_
  refine s_isub (pc1 := 9) (tk (n := 6) t262_0 rfl) rfl rfl  ?_
  exact s_ret (tk (n := 7) t262_0 rfl) rfl rfl rfl
set_option maxRecDepth 100000 in
set_option maxHeartbeats 4000000 in
theorem e_X12_wrapped (x0 : Int) (x1 : Int) (x2 : Int) (x3 : Int) (h : Hq) : vm 263 [(2, x0), (0, x1), (0, x2), (0, x3)] h = if 0 < x0 ∧ (kd x0).1 = 12 then (vm 234 [(2, x0), (0, x1), (0, 6)] h).bind (fun r4 => if (vx r4) ≠ 0 then (if 0 < x0 ∧ (kd x0).1 = 12 then (vm 234 [(2, x0), (0, x1), (0, 6)] r4.2).bind (fun r9 => if (vx r9) ≠ 1 then ((vm 262 [(0, x2), (0, w32 (2 * x3))] r9.2).bind (fun r16 => if (vx r16) ≥ x3 then (some (some (0, w32 ((w32 ((w32 (2 * x3)) - 1)) - (vx r16))), r16.2)) else (some (some (0, vx r16), r16.2)))) else (if x2 ≥ 0 then ((vm 167 [(0, x2), (0, w32 (x3 - 1))] r9.2).bind (fun r18 => some (some (0, vx r18), r18.2))) else (some (some (0, 0), r9.2)))) else none) else ((vm 262 [(0, x2), (0, x3)] r4.2).bind (fun r8 => some (some (0, vx r8), r8.2)))) else none := by
  show vp 263 0 [(2, x0), (0, x1), (0, x2), (0, x3), (9, 0)] [] h = _
  refine s_aload_n (pc1 := 1) (tk (n := 0) t263_0 rfl) rfl rfl rfl ?_
  refine s_iload_n (pc1 := 2) (tk (n := 1) t263_0 rfl) rfl rfl rfl ?_
  refine s_bipush (pc1 := 4) (tk (n := 2) t263_0 rfl) rfl rfl  ?_
  refine s_call0 (as := [(2, x0), (0, x1), (0, 6)]) (st1 := []) (p1 := 7) (M2 := 234) (tk (n := 3) t263_0 rfl) rfl rfl rfl rfl rfl (fun r4 => ?_)
  refine s_if_ne (pc1 := 10) (pt := 16) (tk (n := 4) t263_0 rfl) rfl rfl rfl ?_ ?_
  · refine s_aload_n (pc1 := 17) (tk (n := 9) t263_0 rfl) rfl rfl rfl ?_
    refine s_iload_n (pc1 := 18) (tk (n := 10) t263_0 rfl) rfl rfl rfl ?_
    refine s_bipush (pc1 := 20) (tk (n := 11) t263_0 rfl) rfl rfl  ?_
    refine s_call0 (as := [(2, x0), (0, x1), (0, 6)]) (st1 := []) (p1 := 23) (M2 := 234) (tk (n := 12) t263_0 rfl) rfl rfl rfl rfl rfl (fun r9 => ?_)
    refine s_iconst (pc1 := 24) (tk (n := 13) t263_0 rfl) rfl rfl  ?_
    refine s_ic_ne (pc1 := 27) (pt := 43) (tk (n := 14) t263_0 rfl) rfl rfl rfl ?_ ?_
    · refine s_iload_n (pc1 := 44) (tk (n := 25) t263_0 rfl) rfl rfl rfl ?_
      refine s_iconst (pc1 := 45) (tk (n := 26) t263_0 rfl) rfl rfl  ?_
      refine s_iload_n (pc1 := 46) (tk (n := 27) t263_0 rfl) rfl rfl rfl ?_
      refine s_imul (pc1 := 47) (tk (n := 28) t263_0 rfl) rfl rfl  ?_
      refine s_callS0 (as := [(0, x2), (0, w32 (2 * x3))]) (st1 := []) (p1 := 50) (M2 := 262) (tk (n := 29) t263_0 rfl) rfl rfl rfl rfl rfl (fun r16 => ?_)
      refine s_istore (pc1 := 52) (ls1 := [(2, x0), (0, x1), (0, x2), (0, x3), (0, vx r16)]) (tk (n := 0) t263_1 rfl) rfl rfl rfl rfl ?_
      refine s_iload (pc1 := 54) (tk (n := 1) t263_1 rfl) rfl rfl rfl ?_
      refine s_iload_n (pc1 := 55) (tk (n := 2) t263_1 rfl) rfl rfl rfl ?_
      refine s_ic_ge (pc1 := 58) (pt := 63) (tk (n := 3) t263_1 rfl) rfl rfl rfl ?_ ?_
      · refine s_iconst (pc1 := 64) (tk (n := 6) t263_1 rfl) rfl rfl  ?_
        refine s_iload_n (pc1 := 65) (tk (n := 7) t263_1 rfl) rfl rfl rfl ?_
        refine s_imul (pc1 := 66) (tk (n := 8) t263_1 rfl) rfl rfl  ?_
        refine s_iconst (pc1 := 67) (tk (n := 9) t263_1 rfl) rfl rfl  ?_
        refine s_isub (pc1 := 68) (tk (n := 10) t263_1 rfl) rfl rfl  ?_
        refine s_iload (pc1 := 70) (tk (n := 11) t263_1 rfl) rfl rfl rfl ?_
        refine s_isub (pc1 := 71) (tk (n := 12) t263_1 rfl) rfl rfl  ?_
        exact s_ret (tk (n := 13) t263_1 rfl) rfl rfl rfl
      · refine s_iload (pc1 := 60) (tk (n := 4) t263_1 rfl) rfl rfl rfl ?_
        refine s_goto (pc1 := 71) (tk (n := 5) t263_1 rfl) rfl rfl ?_
        exact s_ret (tk (n := 13) t263_1 rfl) rfl rfl rfl
    · refine s_iload_n (pc1 := 28) (tk (n := 15) t263_0 rfl) rfl rfl rfl ?_
      refine s_if_ge (pc1 := 31) (pt := 35) (tk (n := 16) t263_0 rfl) rfl rfl rfl ?_ ?_
      · refine s_iload_n (pc1 := 36) (tk (n := 19) t263_0 rfl) rfl rfl rfl ?_
        refine s_iload_n (pc1 := 37) (tk (n := 20) t263_0 rfl) rfl rfl rfl ?_
        refine s_iconst (pc1 := 38) (tk (n := 21) t263_0 rfl) rfl rfl  ?_
        refine s_isub (pc1 := 39) (tk (n := 22) t263_0 rfl) rfl rfl  ?_
        refine s_callS0 (as := [(0, x2), (0, w32 (x3 - 1))]) (st1 := []) (p1 := 42) (M2 := 167) (tk (n := 23) t263_0 rfl) rfl rfl rfl rfl rfl (fun r18 => ?_)
        exact s_ret (tk (n := 24) t263_0 rfl) rfl rfl rfl
      · refine s_iconst (pc1 := 32) (tk (n := 17) t263_0 rfl) rfl rfl  ?_
        refine s_goto (pc1 := 42) (tk (n := 18) t263_0 rfl) rfl rfl ?_
        exact s_ret (tk (n := 24) t263_0 rfl) rfl rfl rfl
  · refine s_iload_n (pc1 := 11) (tk (n := 5) t263_0 rfl) rfl rfl rfl ?_
    refine s_iload_n (pc1 := 12) (tk (n := 6) t263_0 rfl) rfl rfl rfl ?_
    refine s_callS0 (as := [(0, x2), (0, x3)]) (st1 := []) (p1 := 15) (M2 := 262) (tk (n := 7) t263_0 rfl) rfl rfl rfl rfl rfl (fun r8 => ?_)
    exact s_ret (tk (n := 8) t263_0 rfl) rfl rfl rfl
set_option maxRecDepth 100000 in
set_option maxHeartbeats 4000000 in
theorem e_X12_wrap (x0 : Int) (x1 : Int) (x2 : Int) (x3 : Int) (h : Hq) : vm 264 [(2, x0), (0, x1), (0, x2), (0, x3)] h = if 0 < x0 ∧ (kd x0).1 = 12 then (vm 235 [(2, x0), (0, x1)] h).bind (fun r3 => if (vx r3) = 0 then (some (some (0, (-1)), r3.2)) else ((vm 165 [(0, x2), (0, (-99999)), (0, 99999)] r3.2).bind (fun r8 => if (vx r8) = 0 then (some (some (0, (-1)), r8.2)) else ((vm 165 [(0, x3), (0, 1), (0, 16)] r8.2).bind (fun r13 => if (vx r13) = 0 then (some (some (0, (-1)), r13.2)) else (if 0 < x0 ∧ (kd x0).1 = 12 then (vm 263 [(2, x0), (0, x1), (0, x2), (0, x3)] r13.2).bind (fun r19 => some (some (0, vx r19), r19.2)) else none)))))) else none := by
  show vp 264 0 [(2, x0), (0, x1), (0, x2), (0, x3)] [] h = _
  refine s_aload_n (pc1 := 1) (tk (n := 0) t264_0 rfl) rfl rfl rfl ?_
  refine s_iload_n (pc1 := 2) (tk (n := 1) t264_0 rfl) rfl rfl rfl ?_
  refine s_call0 (as := [(2, x0), (0, x1)]) (st1 := []) (p1 := 5) (M2 := 235) (tk (n := 2) t264_0 rfl) rfl rfl rfl rfl rfl (fun r3 => ?_)
  refine s_if_eq (pc1 := 8) (pt := 41) (tk (n := 3) t264_0 rfl) rfl rfl rfl ?_ ?_
  · refine s_iconst (pc1 := 42) (tk (n := 20) t264_0 rfl) rfl rfl  ?_
    exact s_ret (tk (n := 21) t264_0 rfl) rfl rfl rfl
  · refine s_iload_n (pc1 := 9) (tk (n := 4) t264_0 rfl) rfl rfl rfl ?_
    refine s_ldcw (pc1 := 12) (tk (n := 5) t264_0 rfl) rfl rfl  ?_
    refine s_ldcw (pc1 := 15) (tk (n := 6) t264_0 rfl) rfl rfl  ?_
    refine s_callS0 (as := [(0, x2), (0, (-99999)), (0, 99999)]) (st1 := []) (p1 := 18) (M2 := 165) (tk (n := 7) t264_0 rfl) rfl rfl rfl rfl rfl (fun r8 => ?_)
    refine s_if_eq (pc1 := 21) (pt := 41) (tk (n := 8) t264_0 rfl) rfl rfl rfl ?_ ?_
    · refine s_iconst (pc1 := 42) (tk (n := 20) t264_0 rfl) rfl rfl  ?_
      exact s_ret (tk (n := 21) t264_0 rfl) rfl rfl rfl
    · refine s_iload_n (pc1 := 22) (tk (n := 9) t264_0 rfl) rfl rfl rfl ?_
      refine s_iconst (pc1 := 23) (tk (n := 10) t264_0 rfl) rfl rfl  ?_
      refine s_bipush (pc1 := 25) (tk (n := 11) t264_0 rfl) rfl rfl  ?_
      refine s_callS0 (as := [(0, x3), (0, 1), (0, 16)]) (st1 := []) (p1 := 28) (M2 := 165) (tk (n := 12) t264_0 rfl) rfl rfl rfl rfl rfl (fun r13 => ?_)
      refine s_if_eq (pc1 := 31) (pt := 41) (tk (n := 13) t264_0 rfl) rfl rfl rfl ?_ ?_
      · refine s_iconst (pc1 := 42) (tk (n := 20) t264_0 rfl) rfl rfl  ?_
        exact s_ret (tk (n := 21) t264_0 rfl) rfl rfl rfl
      · refine s_aload_n (pc1 := 32) (tk (n := 14) t264_0 rfl) rfl rfl rfl ?_
        refine s_iload_n (pc1 := 33) (tk (n := 15) t264_0 rfl) rfl rfl rfl ?_
        refine s_iload_n (pc1 := 34) (tk (n := 16) t264_0 rfl) rfl rfl rfl ?_
        refine s_iload_n (pc1 := 35) (tk (n := 17) t264_0 rfl) rfl rfl rfl ?_
        refine s_call0 (as := [(2, x0), (0, x1), (0, x2), (0, x3)]) (st1 := []) (p1 := 38) (M2 := 263) (tk (n := 18) t264_0 rfl) rfl rfl rfl rfl rfl (fun r19 => ?_)
        refine s_goto (pc1 := 42) (tk (n := 19) t264_0 rfl) rfl rfl ?_
        exact s_ret (tk (n := 21) t264_0 rfl) rfl rfl rfl
set_option maxRecDepth 100000 in
set_option maxHeartbeats 4000000 in
theorem e_X12_wrappedTexel (x0 : Int) (x1 : Int) (x2 : Int) (x3 : Int) (x4 : Int) (h : Hq) : vm 265 [(2, x0), (0, x1), (0, x2), (0, x3), (0, x4)] h = if 0 < x0 ∧ (kd x0).1 = 12 then (vm 237 [(2, x0), (0, x1), (0, x2)] h).bind (fun r10 => if 0 < x0 ∧ (kd x0).1 = 12 then (vm 263 [(2, x0), (0, x1), (0, x3), (0, vx r10)] r10.2).bind (fun r11 => if 0 < x0 ∧ (kd x0).1 = 12 then (vm 238 [(2, x0), (0, x1), (0, x2)] r11.2).bind (fun r18 => if 0 < x0 ∧ (kd x0).1 = 12 then (vm 263 [(2, x0), (0, x1), (0, x4), (0, vx r18)] r18.2).bind (fun r19 => if 0 < x0 ∧ (kd x0).1 = 12 then (vm 248 [(2, x0), (0, x1), (0, x2), (0, vx r11), (0, vx r19)] r19.2).bind (fun r20 => some (some (0, vx r20), r20.2)) else none) else none) else none) else none) else none := by
  show vp 265 0 [(2, x0), (0, x1), (0, x2), (0, x3), (0, x4)] [] h = _
  refine s_aload_n (pc1 := 1) (tk (n := 0) t265_0 rfl) rfl rfl rfl ?_
  refine s_iload_n (pc1 := 2) (tk (n := 1) t265_0 rfl) rfl rfl rfl ?_
  refine s_iload_n (pc1 := 3) (tk (n := 2) t265_0 rfl) rfl rfl rfl ?_
  refine s_aload_n (pc1 := 4) (tk (n := 3) t265_0 rfl) rfl rfl rfl ?_
  refine s_iload_n (pc1 := 5) (tk (n := 4) t265_0 rfl) rfl rfl rfl ?_
  refine s_iload_n (pc1 := 6) (tk (n := 5) t265_0 rfl) rfl rfl rfl ?_
  refine s_aload_n (pc1 := 7) (tk (n := 6) t265_0 rfl) rfl rfl rfl ?_
  refine s_iload_n (pc1 := 8) (tk (n := 7) t265_0 rfl) rfl rfl rfl ?_
  refine s_iload_n (pc1 := 9) (tk (n := 8) t265_0 rfl) rfl rfl rfl ?_
  refine s_call0 (as := [(2, x0), (0, x1), (0, x2)]) (st1 := [(0, x3), (0, x1), (2, x0), (0, x2), (0, x1), (2, x0)]) (p1 := 12) (M2 := 237) (tk (n := 9) t265_0 rfl) rfl rfl rfl rfl rfl (fun r10 => ?_)
  refine s_call0 (as := [(2, x0), (0, x1), (0, x3), (0, vx r10)]) (st1 := [(0, x2), (0, x1), (2, x0)]) (p1 := 15) (M2 := 263) (tk (n := 10) t265_0 rfl) rfl rfl rfl rfl rfl (fun r11 => ?_)
  refine s_aload_n (pc1 := 16) (tk (n := 11) t265_0 rfl) rfl rfl rfl ?_
  refine s_iload_n (pc1 := 17) (tk (n := 12) t265_0 rfl) rfl rfl rfl ?_
  refine s_iload (pc1 := 19) (tk (n := 13) t265_0 rfl) rfl rfl rfl ?_
  refine s_aload_n (pc1 := 20) (tk (n := 14) t265_0 rfl) rfl rfl rfl ?_
  refine s_iload_n (pc1 := 21) (tk (n := 15) t265_0 rfl) rfl rfl rfl ?_
  refine s_iload_n (pc1 := 22) (tk (n := 16) t265_0 rfl) rfl rfl rfl ?_
  refine s_call0 (as := [(2, x0), (0, x1), (0, x2)]) (st1 := [(0, x4), (0, x1), (2, x0), (0, vx r11), (0, x2), (0, x1), (2, x0)]) (p1 := 25) (M2 := 238) (tk (n := 17) t265_0 rfl) rfl rfl rfl rfl rfl (fun r18 => ?_)
  refine s_call0 (as := [(2, x0), (0, x1), (0, x4), (0, vx r18)]) (st1 := [(0, vx r11), (0, x2), (0, x1), (2, x0)]) (p1 := 28) (M2 := 263) (tk (n := 18) t265_0 rfl) rfl rfl rfl rfl rfl (fun r19 => ?_)
  refine s_call0 (as := [(2, x0), (0, x1), (0, x2), (0, vx r11), (0, vx r19)]) (st1 := []) (p1 := 31) (M2 := 248) (tk (n := 19) t265_0 rfl) rfl rfl rfl rfl rfl (fun r20 => ?_)
  exact s_ret (tk (n := 20) t265_0 rfl) rfl rfl rfl
set_option maxRecDepth 100000 in
set_option maxHeartbeats 4000000 in
theorem e_X12_isUv (x0 : Int) (x1 : Int) (h : Hq) : vm 266 [(0, x0), (0, x1)] h = (vm 165 [(0, x0), (0, (-9999)), (0, 9999)] h).bind (fun r4 => if (vx r4) = 0 then (some (some (0, 0), r4.2)) else ((vm 165 [(0, x1), (0, (-9999)), (0, 9999)] r4.2).bind (fun r9 => if (vx r9) = 0 then (some (some (0, 0), r9.2)) else (some (some (0, 1), r9.2))))) := by
  show vp 266 0 [(0, x0), (0, x1)] [] h = _
  refine s_iload_n (pc1 := 1) (tk (n := 0) t266_0 rfl) rfl rfl rfl ?_
  refine s_sipush (pc1 := 4) (tk (n := 1) t266_0 rfl) rfl rfl  ?_
  refine s_sipush (pc1 := 7) (tk (n := 2) t266_0 rfl) rfl rfl  ?_
  refine s_callS0 (as := [(0, x0), (0, (-9999)), (0, 9999)]) (st1 := []) (p1 := 10) (M2 := 165) (tk (n := 3) t266_0 rfl) rfl rfl rfl rfl rfl (fun r4 => ?_)
  refine s_if_eq (pc1 := 13) (pt := 30) (tk (n := 4) t266_0 rfl) rfl rfl rfl ?_ ?_
  · refine s_iconst (pc1 := 31) (tk (n := 12) t266_0 rfl) rfl rfl  ?_
    exact s_retY (tk (n := 13) t266_0 rfl) rfl rfl rfl (by decide)
  · refine s_iload_n (pc1 := 14) (tk (n := 5) t266_0 rfl) rfl rfl rfl ?_
    refine s_sipush (pc1 := 17) (tk (n := 6) t266_0 rfl) rfl rfl  ?_
    refine s_sipush (pc1 := 20) (tk (n := 7) t266_0 rfl) rfl rfl  ?_
    refine s_callS0 (as := [(0, x1), (0, (-9999)), (0, 9999)]) (st1 := []) (p1 := 23) (M2 := 165) (tk (n := 8) t266_0 rfl) rfl rfl rfl rfl rfl (fun r9 => ?_)
    refine s_if_eq (pc1 := 26) (pt := 30) (tk (n := 9) t266_0 rfl) rfl rfl rfl ?_ ?_
    · refine s_iconst (pc1 := 31) (tk (n := 12) t266_0 rfl) rfl rfl  ?_
      exact s_retY (tk (n := 13) t266_0 rfl) rfl rfl rfl (by decide)
    · refine s_iconst (pc1 := 27) (tk (n := 10) t266_0 rfl) rfl rfl  ?_
      refine s_goto (pc1 := 31) (tk (n := 11) t266_0 rfl) rfl rfl ?_
      exact s_retY (tk (n := 13) t266_0 rfl) rfl rfl rfl (by decide)
set_option maxRecDepth 100000 in
set_option maxHeartbeats 4000000 in
theorem e_X12_nearest (x0 : Int) (x1 : Int) (x2 : Int) (x3 : Int) (x4 : Int) (h : Hq) : vm 267 [(2, x0), (0, x1), (0, x2), (0, x3), (0, x4)] h = if 0 < x0 ∧ (kd x0).1 = 12 then (vm 236 [(2, x0), (0, x1), (0, x2)] h).bind (fun r4 => if (vx r4) = 0 then (some (some (0, (-1000000001)), r4.2)) else ((vm 266 [(0, x3), (0, x4)] r4.2).bind (fun r8 => if (vx r8) = 0 then (some (some (0, (-1000000001)), r8.2)) else ((vm 170 [(0, x3), (0, bshl 16 x2)] r8.2).bind (fun r17 => (vm 170 [(0, x4), (0, bshl 16 x2)] r17.2).bind (fun r22 => if 0 < x0 ∧ (kd x0).1 = 12 then (vm 265 [(2, x0), (0, x1), (0, x2), (0, vx r17), (0, vx r22)] r22.2).bind (fun r23 => some (some (0, vx r23), r23.2)) else none)))))) else none := by
  show vp 267 0 [(2, x0), (0, x1), (0, x2), (0, x3), (0, x4)] [] h = _
  refine s_aload_n (pc1 := 1) (tk (n := 0) t267_0 rfl) rfl rfl rfl ?_
  refine s_iload_n (pc1 := 2) (tk (n := 1) t267_0 rfl) rfl rfl rfl ?_
  refine s_iload_n (pc1 := 3) (tk (n := 2) t267_0 rfl) rfl rfl rfl ?_
  refine s_call0 (as := [(2, x0), (0, x1), (0, x2)]) (st1 := []) (p1 := 6) (M2 := 236) (tk (n := 3) t267_0 rfl) rfl rfl rfl rfl rfl (fun r4 => ?_)
  refine s_if_eq (pc1 := 9) (pt := 44) (tk (n := 4) t267_0 rfl) rfl rfl rfl ?_ ?_
  · refine s_ldcw (pc1 := 47) (tk (n := 24) t267_0 rfl) rfl rfl  ?_
    exact s_ret (tk (n := 25) t267_0 rfl) rfl rfl rfl
  · refine s_iload_n (pc1 := 10) (tk (n := 5) t267_0 rfl) rfl rfl rfl ?_
    refine s_iload (pc1 := 12) (tk (n := 6) t267_0 rfl) rfl rfl rfl ?_
    refine s_callS0 (as := [(0, x3), (0, x4)]) (st1 := []) (p1 := 15) (M2 := 266) (tk (n := 7) t267_0 rfl) rfl rfl rfl rfl rfl (fun r8 => ?_)
    refine s_if_eq (pc1 := 18) (pt := 44) (tk (n := 8) t267_0 rfl) rfl rfl rfl ?_ ?_
    · refine s_ldcw (pc1 := 47) (tk (n := 24) t267_0 rfl) rfl rfl  ?_
      exact s_ret (tk (n := 25) t267_0 rfl) rfl rfl rfl
    · refine s_aload_n (pc1 := 19) (tk (n := 9) t267_0 rfl) rfl rfl rfl ?_
      refine s_iload_n (pc1 := 20) (tk (n := 10) t267_0 rfl) rfl rfl rfl ?_
      refine s_iload_n (pc1 := 21) (tk (n := 11) t267_0 rfl) rfl rfl rfl ?_
      refine s_iload_n (pc1 := 22) (tk (n := 12) t267_0 rfl) rfl rfl rfl ?_
      refine s_bipush (pc1 := 24) (tk (n := 13) t267_0 rfl) rfl rfl  ?_
      refine s_iload_n (pc1 := 25) (tk (n := 14) t267_0 rfl) rfl rfl rfl ?_
      refine s_ishl (pc1 := 26) (tk (n := 15) t267_0 rfl) rfl rfl  ?_
      refine s_callS0 (as := [(0, x3), (0, bshl 16 x2)]) (st1 := [(0, x2), (0, x1), (2, x0)]) (p1 := 29) (M2 := 170) (tk (n := 16) t267_0 rfl) rfl rfl rfl rfl rfl (fun r17 => ?_)
      refine s_iload (pc1 := 31) (tk (n := 17) t267_0 rfl) rfl rfl rfl ?_
      refine s_bipush (pc1 := 33) (tk (n := 18) t267_0 rfl) rfl rfl  ?_
      refine s_iload_n (pc1 := 34) (tk (n := 19) t267_0 rfl) rfl rfl rfl ?_
      refine s_ishl (pc1 := 35) (tk (n := 20) t267_0 rfl) rfl rfl  ?_
      refine s_callS0 (as := [(0, x4), (0, bshl 16 x2)]) (st1 := [(0, vx r17), (0, x2), (0, x1), (2, x0)]) (p1 := 38) (M2 := 170) (tk (n := 21) t267_0 rfl) rfl rfl rfl rfl rfl (fun r22 => ?_)
      refine s_call0 (as := [(2, x0), (0, x1), (0, x2), (0, vx r17), (0, vx r22)]) (st1 := []) (p1 := 41) (M2 := 265) (tk (n := 22) t267_0 rfl) rfl rfl rfl rfl rfl (fun r23 => ?_)
      refine s_goto (pc1 := 47) (tk (n := 23) t267_0 rfl) rfl rfl ?_
      exact s_ret (tk (n := 25) t267_0 rfl) rfl rfl rfl
set_option maxRecDepth 100000 in
set_option maxHeartbeats 4000000 in
theorem e_X12_smoothAt (x0 : Int) (x1 : Int) (x2 : Int) (x3 : Int) (x4 : Int) (h : Hq) : vm 268 [(2, x0), (0, x1), (0, x2), (0, x3), (0, x4)] h = (vm 170 [(0, x3), (0, bshl 1 x2)] h).bind (fun r5 => (vm 170 [(0, x4), (0, bshl 1 x2)] r5.2).bind (fun r13 => (vm 170 [(0, w32 ((vx r5) - 8)), (0, 16)] r13.2).bind (fun r19 => (vm 170 [(0, w32 ((vx r13) - 8)), (0, 16)] r19.2).bind (fun r23 => (vm 262 [(0, w32 ((vx r5) - 8)), (0, 16)] r23.2).bind (fun r27 => (vm 262 [(0, w32 ((vx r13) - 8)), (0, 16)] r27.2).bind (fun r31 => if 0 < x0 ∧ (kd x0).1 = 12 then (vm 265 [(2, x0), (0, x1), (0, x2), (0, vx r19), (0, vx r23)] r31.2).bind (fun r38 => if 0 < x0 ∧ (kd x0).1 = 12 then (vm 265 [(2, x0), (0, x1), (0, x2), (0, w32 ((vx r19) + 1)), (0, vx r23)] r38.2).bind (fun r56 => if 0 < x0 ∧ (kd x0).1 = 12 then (vm 265 [(2, x0), (0, x1), (0, x2), (0, vx r19), (0, w32 ((vx r23) + 1))] r56.2).bind (fun r73 => if 0 < x0 ∧ (kd x0).1 = 12 then (vm 265 [(2, x0), (0, x1), (0, x2), (0, w32 ((vx r19) + 1)), (0, w32 ((vx r23) + 1))] r73.2).bind (fun r92 => some (some (0, w32 (w64 ((w64 ((w64 ((w64 ((w64 ((vx r38) * (w32 ((w32 (16 - (vx r27))) * (w32 (16 - (vx r31))))))) + (w64 ((vx r56) * (w32 ((vx r27) * (w32 (16 - (vx r31))))))))) + (w64 ((vx r73) * (w32 ((w32 (16 - (vx r27))) * (vx r31))))))) + (w64 ((vx r92) * (w32 ((vx r27) * (vx r31))))))).tdiv 256))), r92.2)) else none) else none) else none) else none)))))) := by
  show vp 268 0 [(2, x0), (0, x1), (0, x2), (0, x3), (0, x4), (9, 0), (9, 0), (9, 0), (9, 0), (9, 0), (9, 0), (9, 0), (9, 0)] [] h = _
  refine s_iload_n (pc1 := 1) (tk (n := 0) t268_0 rfl) rfl rfl rfl ?_
  refine s_iconst (pc1 := 2) (tk (n := 1) t268_0 rfl) rfl rfl  ?_
  refine s_iload_n (pc1 := 3) (tk (n := 2) t268_0 rfl) rfl rfl rfl ?_
  refine s_ishl (pc1 := 4) (tk (n := 3) t268_0 rfl) rfl rfl  ?_
  refine s_callS0 (as := [(0, x3), (0, bshl 1 x2)]) (st1 := []) (p1 := 7) (M2 := 170) (tk (n := 4) t268_0 rfl) rfl rfl rfl rfl rfl (fun r5 => ?_)
  refine s_bipush (pc1 := 9) (tk (n := 5) t268_0 rfl) rfl rfl  ?_
  refine s_isub (pc1 := 10) (tk (n := 6) t268_0 rfl) rfl rfl  ?_
  refine s_istore (pc1 := 12) (ls1 := [(2, x0), (0, x1), (0, x2), (0, x3), (0, x4), (0, w32 ((vx r5) - 8)), (9, 0), (9, 0), (9, 0), (9, 0), (9, 0), (9, 0), (9, 0)]) (tk (n := 7) t268_0 rfl) rfl rfl rfl rfl ?_
  refine s_iload (pc1 := 14) (tk (n := 8) t268_0 rfl) rfl rfl rfl ?_
  refine s_iconst (pc1 := 15) (tk (n := 9) t268_0 rfl) rfl rfl  ?_
  refine s_iload_n (pc1 := 16) (tk (n := 10) t268_0 rfl) rfl rfl rfl ?_
  refine s_ishl (pc1 := 17) (tk (n := 11) t268_0 rfl) rfl rfl  ?_
  refine s_callS0 (as := [(0, x4), (0, bshl 1 x2)]) (st1 := []) (p1 := 20) (M2 := 170) (tk (n := 12) t268_0 rfl) rfl rfl rfl rfl rfl (fun r13 => ?_)
  refine s_bipush (pc1 := 22) (tk (n := 13) t268_0 rfl) rfl rfl  ?_
  refine s_isub (pc1 := 23) (tk (n := 14) t268_0 rfl) rfl rfl  ?_
  refine s_istore (pc1 := 25) (ls1 := [(2, x0), (0, x1), (0, x2), (0, x3), (0, x4), (0, w32 ((vx r5) - 8)), (0, w32 ((vx r13) - 8)), (9, 0), (9, 0), (9, 0), (9, 0), (9, 0), (9, 0)]) (tk (n := 15) t268_0 rfl) rfl rfl rfl rfl ?_
  refine s_iload (pc1 := 27) (tk (n := 16) t268_0 rfl) rfl rfl rfl ?_
  refine s_bipush (pc1 := 29) (tk (n := 17) t268_0 rfl) rfl rfl  ?_
  refine s_callS0 (as := [(0, w32 ((vx r5) - 8)), (0, 16)]) (st1 := []) (p1 := 32) (M2 := 170) (tk (n := 18) t268_0 rfl) rfl rfl rfl rfl rfl (fun r19 => ?_)
  refine s_istore (pc1 := 34) (ls1 := [(2, x0), (0, x1), (0, x2), (0, x3), (0, x4), (0, w32 ((vx r5) - 8)), (0, w32 ((vx r13) - 8)), (0, vx r19), (9, 0), (9, 0), (9, 0), (9, 0), (9, 0)]) (tk (n := 19) t268_0 rfl) rfl rfl rfl rfl ?_
  refine s_iload (pc1 := 36) (tk (n := 20) t268_0 rfl) rfl rfl rfl ?_
  refine s_bipush (pc1 := 38) (tk (n := 21) t268_0 rfl) rfl rfl  ?_
  refine s_callS0 (as := [(0, w32 ((vx r13) - 8)), (0, 16)]) (st1 := []) (p1 := 41) (M2 := 170) (tk (n := 22) t268_0 rfl) rfl rfl rfl rfl rfl (fun r23 => ?_)
  refine s_istore (pc1 := 43) (ls1 := [(2, x0), (0, x1), (0, x2), (0, x3), (0, x4), (0, w32 ((vx r5) - 8)), (0, w32 ((vx r13) - 8)), (0, vx r19), (0, vx r23), (9, 0), (9, 0), (9, 0), (9, 0)]) (tk (n := 23) t268_0 rfl) rfl rfl rfl rfl ?_
  refine s_iload (pc1 := 45) (tk (n := 24) t268_0 rfl) rfl rfl rfl ?_
  refine s_bipush (pc1 := 47) (tk (n := 25) t268_0 rfl) rfl rfl  ?_
  refine s_callS0 (as := [(0, w32 ((vx r5) - 8)), (0, 16)]) (st1 := []) (p1 := 50) (M2 := 262) (tk (n := 26) t268_0 rfl) rfl rfl rfl rfl rfl (fun r27 => ?_)
  refine s_istore (pc1 := 52) (ls1 := [(2, x0), (0, x1), (0, x2), (0, x3), (0, x4), (0, w32 ((vx r5) - 8)), (0, w32 ((vx r13) - 8)), (0, vx r19), (0, vx r23), (0, vx r27), (9, 0), (9, 0), (9, 0)]) (tk (n := 27) t268_0 rfl) rfl rfl rfl rfl ?_
  refine s_iload (pc1 := 54) (tk (n := 28) t268_0 rfl) rfl rfl rfl ?_
  refine s_bipush (pc1 := 56) (tk (n := 29) t268_0 rfl) rfl rfl  ?_
  refine s_callS0 (as := [(0, w32 ((vx r13) - 8)), (0, 16)]) (st1 := []) (p1 := 59) (M2 := 262) (tk (n := 0) t268_1 rfl) rfl rfl rfl rfl rfl (fun r31 => ?_)
  refine s_istore (pc1 := 61) (ls1 := [(2, x0), (0, x1), (0, x2), (0, x3), (0, x4), (0, w32 ((vx r5) - 8)), (0, w32 ((vx r13) - 8)), (0, vx r19), (0, vx r23), (0, vx r27), (0, vx r31), (9, 0), (9, 0)]) (tk (n := 1) t268_1 rfl) rfl rfl rfl rfl ?_
  refine s_aload_n (pc1 := 62) (tk (n := 2) t268_1 rfl) rfl rfl rfl ?_
  refine s_iload_n (pc1 := 63) (tk (n := 3) t268_1 rfl) rfl rfl rfl ?_
  refine s_iload_n (pc1 := 64) (tk (n := 4) t268_1 rfl) rfl rfl rfl ?_
  refine s_iload (pc1 := 66) (tk (n := 5) t268_1 rfl) rfl rfl rfl ?_
  refine s_iload (pc1 := 68) (tk (n := 6) t268_1 rfl) rfl rfl rfl ?_
  refine s_call0 (as := [(2, x0), (0, x1), (0, x2), (0, vx r19), (0, vx r23)]) (st1 := []) (p1 := 71) (M2 := 265) (tk (n := 7) t268_1 rfl) rfl rfl rfl rfl rfl (fun r38 => ?_)
  refine s_i2l (pc1 := 72) (tk (n := 8) t268_1 rfl) rfl rfl  ?_
  refine s_bipush (pc1 := 74) (tk (n := 9) t268_1 rfl) rfl rfl  ?_
  refine s_iload (pc1 := 76) (tk (n := 10) t268_1 rfl) rfl rfl rfl ?_
  refine s_isub (pc1 := 77) (tk (n := 11) t268_1 rfl) rfl rfl  ?_
  refine s_bipush (pc1 := 79) (tk (n := 12) t268_1 rfl) rfl rfl  ?_
  refine s_iload (pc1 := 81) (tk (n := 13) t268_1 rfl) rfl rfl rfl ?_
  refine s_isub (pc1 := 82) (tk (n := 14) t268_1 rfl) rfl rfl  ?_
  refine s_imul (pc1 := 83) (tk (n := 15) t268_1 rfl) rfl rfl  ?_
  refine s_i2l (pc1 := 84) (tk (n := 16) t268_1 rfl) rfl rfl  ?_
  refine s_lmul (pc1 := 85) (tk (n := 17) t268_1 rfl) rfl rfl  ?_
  refine s_aload_n (pc1 := 86) (tk (n := 18) t268_1 rfl) rfl rfl rfl ?_
  refine s_iload_n (pc1 := 87) (tk (n := 19) t268_1 rfl) rfl rfl rfl ?_
  refine s_iload_n (pc1 := 88) (tk (n := 20) t268_1 rfl) rfl rfl rfl ?_
  refine s_iload (pc1 := 90) (tk (n := 21) t268_1 rfl) rfl rfl rfl ?_
  refine s_iconst (pc1 := 91) (tk (n := 22) t268_1 rfl) rfl rfl  ?_
  refine s_iadd (pc1 := 92) (tk (n := 23) t268_1 rfl) rfl rfl  ?_
  refine s_iload (pc1 := 94) (tk (n := 24) t268_1 rfl) rfl rfl rfl ?_
  refine s_call0 (as := [(2, x0), (0, x1), (0, x2), (0, w32 ((vx r19) + 1)), (0, vx r23)]) (st1 := [(1, w64 ((vx r38) * (w32 ((w32 (16 - (vx r27))) * (w32 (16 - (vx r31)))))))]) (p1 := 97) (M2 := 265) (tk (n := 25) t268_1 rfl) rfl rfl rfl rfl rfl (fun r56 => ?_)
  refine s_i2l (pc1 := 98) (tk (n := 26) t268_1 rfl) rfl rfl  ?_
  refine s_iload (pc1 := 100) (tk (n := 27) t268_1 rfl) rfl rfl rfl ?_
  refine s_bipush (pc1 := 102) (tk (n := 28) t268_1 rfl) rfl rfl  ?_
  refine s_iload (pc1 := 104) (tk (n := 29) t268_1 rfl) rfl rfl rfl ?_
  refine s_isub (pc1 := 105) (tk (n := 0) t268_2 rfl) rfl rfl  ?_
  refine s_imul (pc1 := 106) (tk (n := 1) t268_2 rfl) rfl rfl  ?_
  refine s_i2l (pc1 := 107) (tk (n := 2) t268_2 rfl) rfl rfl  ?_
  refine s_lmul (pc1 := 108) (tk (n := 3) t268_2 rfl) rfl rfl  ?_
  refine s_ladd (pc1 := 109) (tk (n := 4) t268_2 rfl) rfl rfl  ?_
  refine s_aload_n (pc1 := 110) (tk (n := 5) t268_2 rfl) rfl rfl rfl ?_
  refine s_iload_n (pc1 := 111) (tk (n := 6) t268_2 rfl) rfl rfl rfl ?_
  refine s_iload_n (pc1 := 112) (tk (n := 7) t268_2 rfl) rfl rfl rfl ?_
  refine s_iload (pc1 := 114) (tk (n := 8) t268_2 rfl) rfl rfl rfl ?_
  refine s_iload (pc1 := 116) (tk (n := 9) t268_2 rfl) rfl rfl rfl ?_
  refine s_iconst (pc1 := 117) (tk (n := 10) t268_2 rfl) rfl rfl  ?_
  refine s_iadd (pc1 := 118) (tk (n := 11) t268_2 rfl) rfl rfl  ?_
  refine s_call0 (as := [(2, x0), (0, x1), (0, x2), (0, vx r19), (0, w32 ((vx r23) + 1))]) (st1 := [(1, w64 ((w64 ((vx r38) * (w32 ((w32 (16 - (vx r27))) * (w32 (16 - (vx r31))))))) + (w64 ((vx r56) * (w32 ((vx r27) * (w32 (16 - (vx r31)))))))))]) (p1 := 121) (M2 := 265) (tk (n := 12) t268_2 rfl) rfl rfl rfl rfl rfl (fun r73 => ?_)
  refine s_i2l (pc1 := 122) (tk (n := 13) t268_2 rfl) rfl rfl  ?_
  refine s_bipush (pc1 := 124) (tk (n := 14) t268_2 rfl) rfl rfl  ?_
  refine s_iload (pc1 := 126) (tk (n := 15) t268_2 rfl) rfl rfl rfl ?_
  refine s_isub (pc1 := 127) (tk (n := 16) t268_2 rfl) rfl rfl  ?_
  refine s_iload (pc1 := 129) (tk (n := 17) t268_2 rfl) rfl rfl rfl ?_
  refine s_imul (pc1 := 130) (tk (n := 18) t268_2 rfl) rfl rfl  ?_
  refine s_i2l (pc1 := 131) (tk (n := 19) t268_2 rfl) rfl rfl  ?_
  refine s_lmul (pc1 := 132) (tk (n := 20) t268_2 rfl) rfl rfl  ?_
  refine s_ladd (pc1 := 133) (tk (n := 21) t268_2 rfl) rfl rfl  ?_
  refine s_aload_n (pc1 := 134) (tk (n := 22) t268_2 rfl) rfl rfl rfl ?_
  refine s_iload_n (pc1 := 135) (tk (n := 23) t268_2 rfl) rfl rfl rfl ?_
  refine s_iload_n (pc1 := 136) (tk (n := 24) t268_2 rfl) rfl rfl rfl ?_
  refine s_iload (pc1 := 138) (tk (n := 25) t268_2 rfl) rfl rfl rfl ?_
  refine s_iconst (pc1 := 139) (tk (n := 26) t268_2 rfl) rfl rfl  ?_
  refine s_iadd (pc1 := 140) (tk (n := 27) t268_2 rfl) rfl rfl  ?_
  refine s_iload (pc1 := 142) (tk (n := 28) t268_2 rfl) rfl rfl rfl ?_
  refine s_iconst (pc1 := 143) (tk (n := 29) t268_2 rfl) rfl rfl  ?_
  refine s_iadd (pc1 := 144) (tk (n := 0) t268_3 rfl) rfl rfl  ?_
  refine s_call0 (as := [(2, x0), (0, x1), (0, x2), (0, w32 ((vx r19) + 1)), (0, w32 ((vx r23) + 1))]) (st1 := [(1, w64 ((w64 ((w64 ((vx r38) * (w32 ((w32 (16 - (vx r27))) * (w32 (16 - (vx r31))))))) + (w64 ((vx r56) * (w32 ((vx r27) * (w32 (16 - (vx r31))))))))) + (w64 ((vx r73) * (w32 ((w32 (16 - (vx r27))) * (vx r31)))))))]) (p1 := 147) (M2 := 265) (tk (n := 1) t268_3 rfl) rfl rfl rfl rfl rfl (fun r92 => ?_)
  refine s_i2l (pc1 := 148) (tk (n := 2) t268_3 rfl) rfl rfl  ?_
  refine s_iload (pc1 := 150) (tk (n := 3) t268_3 rfl) rfl rfl rfl ?_
  refine s_iload (pc1 := 152) (tk (n := 4) t268_3 rfl) rfl rfl rfl ?_
  refine s_imul (pc1 := 153) (tk (n := 5) t268_3 rfl) rfl rfl  ?_
  refine s_i2l (pc1 := 154) (tk (n := 6) t268_3 rfl) rfl rfl  ?_
  refine s_lmul (pc1 := 155) (tk (n := 7) t268_3 rfl) rfl rfl  ?_
  refine s_ladd (pc1 := 156) (tk (n := 8) t268_3 rfl) rfl rfl  ?_
  refine s_lstore (pc1 := 158) (ls1 := [(2, x0), (0, x1), (0, x2), (0, x3), (0, x4), (0, w32 ((vx r5) - 8)), (0, w32 ((vx r13) - 8)), (0, vx r19), (0, vx r23), (0, vx r27), (0, vx r31), (1, w64 ((w64 ((w64 ((w64 ((vx r38) * (w32 ((w32 (16 - (vx r27))) * (w32 (16 - (vx r31))))))) + (w64 ((vx r56) * (w32 ((vx r27) * (w32 (16 - (vx r31))))))))) + (w64 ((vx r73) * (w32 ((w32 (16 - (vx r27))) * (vx r31))))))) + (w64 ((vx r92) * (w32 ((vx r27) * (vx r31))))))), (9, 0)]) (tk (n := 9) t268_3 rfl) rfl rfl rfl rfl ?_
  refine s_lload (pc1 := 160) (tk (n := 10) t268_3 rfl) rfl rfl rfl ?_
  refine s_ldc2 (pc1 := 163) (tk (n := 11) t268_3 rfl) rfl rfl  ?_
  refine s_ldivc (pc1 := 164) (tk (n := 12) t268_3 rfl) rfl rfl (by decide) ?_
  refine s_l2i (pc1 := 165) (tk (n := 13) t268_3 rfl) rfl rfl  ?_
  exact s_ret (tk (n := 14) t268_3 rfl) rfl rfl rfl
set_option maxRecDepth 100000 in
set_option maxHeartbeats 4000000 in
theorem e_X12_smooth (x0 : Int) (x1 : Int) (x2 : Int) (x3 : Int) (x4 : Int) (h : Hq) : vm 269 [(2, x0), (0, x1), (0, x2), (0, x3), (0, x4)] h = if 0 < x0 ∧ (kd x0).1 = 12 then (vm 236 [(2, x0), (0, x1), (0, x2)] h).bind (fun r4 => if (vx r4) = 0 then (some (some (0, (-1000000001)), r4.2)) else ((vm 266 [(0, x3), (0, x4)] r4.2).bind (fun r8 => if (vx r8) = 0 then (some (some (0, (-1000000001)), r8.2)) else (if 0 < x0 ∧ (kd x0).1 = 12 then (vm 268 [(2, x0), (0, x1), (0, x2), (0, x3), (0, x4)] r8.2).bind (fun r15 => some (some (0, vx r15), r15.2)) else none)))) else none := by
  show vp 269 0 [(2, x0), (0, x1), (0, x2), (0, x3), (0, x4)] [] h = _
  refine s_aload_n (pc1 := 1) (tk (n := 0) t269_0 rfl) rfl rfl rfl ?_
  refine s_iload_n (pc1 := 2) (tk (n := 1) t269_0 rfl) rfl rfl rfl ?_
  refine s_iload_n (pc1 := 3) (tk (n := 2) t269_0 rfl) rfl rfl rfl ?_
  refine s_call0 (as := [(2, x0), (0, x1), (0, x2)]) (st1 := []) (p1 := 6) (M2 := 236) (tk (n := 3) t269_0 rfl) rfl rfl rfl rfl rfl (fun r4 => ?_)
  refine s_if_eq (pc1 := 9) (pt := 30) (tk (n := 4) t269_0 rfl) rfl rfl rfl ?_ ?_
  · refine s_ldcw (pc1 := 33) (tk (n := 16) t269_0 rfl) rfl rfl  ?_
    exact s_ret (tk (n := 17) t269_0 rfl) rfl rfl rfl
  · refine s_iload_n (pc1 := 10) (tk (n := 5) t269_0 rfl) rfl rfl rfl ?_
    refine s_iload (pc1 := 12) (tk (n := 6) t269_0 rfl) rfl rfl rfl ?_
    refine s_callS0 (as := [(0, x3), (0, x4)]) (st1 := []) (p1 := 15) (M2 := 266) (tk (n := 7) t269_0 rfl) rfl rfl rfl rfl rfl (fun r8 => ?_)
    refine s_if_eq (pc1 := 18) (pt := 30) (tk (n := 8) t269_0 rfl) rfl rfl rfl ?_ ?_
    · refine s_ldcw (pc1 := 33) (tk (n := 16) t269_0 rfl) rfl rfl  ?_
      exact s_ret (tk (n := 17) t269_0 rfl) rfl rfl rfl
    · refine s_aload_n (pc1 := 19) (tk (n := 9) t269_0 rfl) rfl rfl rfl ?_
      refine s_iload_n (pc1 := 20) (tk (n := 10) t269_0 rfl) rfl rfl rfl ?_
      refine s_iload_n (pc1 := 21) (tk (n := 11) t269_0 rfl) rfl rfl rfl ?_
      refine s_iload_n (pc1 := 22) (tk (n := 12) t269_0 rfl) rfl rfl rfl ?_
      refine s_iload (pc1 := 24) (tk (n := 13) t269_0 rfl) rfl rfl rfl ?_
      refine s_call0 (as := [(2, x0), (0, x1), (0, x2), (0, x3), (0, x4)]) (st1 := []) (p1 := 27) (M2 := 268) (tk (n := 14) t269_0 rfl) rfl rfl rfl rfl rfl (fun r15 => ?_)
      refine s_goto (pc1 := 33) (tk (n := 15) t269_0 rfl) rfl rfl ?_
      exact s_ret (tk (n := 17) t269_0 rfl) rfl rfl rfl
set_option maxRecDepth 100000 in
set_option maxHeartbeats 4000000 in
theorem e_X12_isFar (x0 : Int) (h : Hq) : vm 270 [(0, x0)] h = (vm 165 [(0, x0), (0, (-999)), (0, 999)] h).bind (fun r4 => if (vx r4) = 0 ∨ (vx r4) = 1 then some (some (0, vx r4), r4.2) else none) := by
  show vp 270 0 [(0, x0)] [] h = _
  refine s_iload_n (pc1 := 1) (tk (n := 0) t270_0 rfl) rfl rfl rfl ?_
  refine s_sipush (pc1 := 4) (tk (n := 1) t270_0 rfl) rfl rfl  ?_
  refine s_sipush (pc1 := 7) (tk (n := 2) t270_0 rfl) rfl rfl  ?_
  refine s_callS0 (as := [(0, x0), (0, (-999)), (0, 999)]) (st1 := []) (p1 := 10) (M2 := 165) (tk (n := 3) t270_0 rfl) rfl rfl rfl rfl rfl (fun r4 => ?_)
  exact s_retG (tk (n := 4) t270_0 rfl) rfl rfl rfl
set_option maxRecDepth 100000 in
set_option maxHeartbeats 4000000 in
theorem e_X12_area (x0 : Int) (x1 : Int) (x2 : Int) (x3 : Int) (x4 : Int) (x5 : Int) (x6 : Int) (h : Hq) : vm 271 [(2, x0), (0, x1), (0, x2), (0, x3), (0, x4), (0, x5), (0, x6)] h = if 0 < x0 ∧ (kd x0).1 = 12 then (vm 236 [(2, x0), (0, x1), (0, x2)] h).bind (fun r4 => if (vx r4) = 0 then (some (some (0, (-1000000001)), r4.2)) else ((vm 270 [(0, x3)] r4.2).bind (fun r7 => if (vx r7) = 0 then (some (some (0, (-1000000001)), r7.2)) else ((vm 270 [(0, x4)] r7.2).bind (fun r10 => if (vx r10) = 0 then (some (some (0, (-1000000001)), r10.2)) else ((vm 165 [(0, x5), (0, 1), (0, 16)] r10.2).bind (fun r15 => if (vx r15) = 0 then (some (some (0, (-1000000001)), r15.2)) else ((vm 165 [(0, x6), (0, 1), (0, 16)] r15.2).bind (fun r20 => if (vx r20) ≠ 0 then (vp 271 56 [(2, x0), (0, x1), (0, x2), (0, x3), (0, x4), (0, x5), (0, x6), (0, 0), (0, 0)] [] r20.2) else (some (some (0, (-1000000001)), r20.2))))))))))) else none := by
  show vp 271 0 [(2, x0), (0, x1), (0, x2), (0, x3), (0, x4), (0, x5), (0, x6), (9, 0), (9, 0)] [] h = _
  refine s_aload_n (pc1 := 1) (tk (n := 0) t271_0 rfl) rfl rfl rfl ?_
  refine s_iload_n (pc1 := 2) (tk (n := 1) t271_0 rfl) rfl rfl rfl ?_
  refine s_iload_n (pc1 := 3) (tk (n := 2) t271_0 rfl) rfl rfl rfl ?_
  refine s_call0 (as := [(2, x0), (0, x1), (0, x2)]) (st1 := []) (p1 := 6) (M2 := 236) (tk (n := 3) t271_0 rfl) rfl rfl rfl rfl rfl (fun r4 => ?_)
  refine s_if_eq (pc1 := 9) (pt := 46) (tk (n := 4) t271_0 rfl) rfl rfl rfl ?_ ?_
  · refine s_ldcw (pc1 := 49) (tk (n := 21) t271_0 rfl) rfl rfl  ?_
    exact s_ret (tk (n := 22) t271_0 rfl) rfl rfl rfl
  · refine s_iload_n (pc1 := 10) (tk (n := 5) t271_0 rfl) rfl rfl rfl ?_
    refine s_callS0 (as := [(0, x3)]) (st1 := []) (p1 := 13) (M2 := 270) (tk (n := 6) t271_0 rfl) rfl rfl rfl rfl rfl (fun r7 => ?_)
    refine s_if_eq (pc1 := 16) (pt := 46) (tk (n := 7) t271_0 rfl) rfl rfl rfl ?_ ?_
    · refine s_ldcw (pc1 := 49) (tk (n := 21) t271_0 rfl) rfl rfl  ?_
      exact s_ret (tk (n := 22) t271_0 rfl) rfl rfl rfl
    · refine s_iload (pc1 := 18) (tk (n := 8) t271_0 rfl) rfl rfl rfl ?_
      refine s_callS0 (as := [(0, x4)]) (st1 := []) (p1 := 21) (M2 := 270) (tk (n := 9) t271_0 rfl) rfl rfl rfl rfl rfl (fun r10 => ?_)
      refine s_if_eq (pc1 := 24) (pt := 46) (tk (n := 10) t271_0 rfl) rfl rfl rfl ?_ ?_
      · refine s_ldcw (pc1 := 49) (tk (n := 21) t271_0 rfl) rfl rfl  ?_
        exact s_ret (tk (n := 22) t271_0 rfl) rfl rfl rfl
      · refine s_iload (pc1 := 26) (tk (n := 11) t271_0 rfl) rfl rfl rfl ?_
        refine s_iconst (pc1 := 27) (tk (n := 12) t271_0 rfl) rfl rfl  ?_
        refine s_bipush (pc1 := 29) (tk (n := 13) t271_0 rfl) rfl rfl  ?_
        refine s_callS0 (as := [(0, x5), (0, 1), (0, 16)]) (st1 := []) (p1 := 32) (M2 := 165) (tk (n := 14) t271_0 rfl) rfl rfl rfl rfl rfl (fun r15 => ?_)
        refine s_if_eq (pc1 := 35) (pt := 46) (tk (n := 15) t271_0 rfl) rfl rfl rfl ?_ ?_
        · refine s_ldcw (pc1 := 49) (tk (n := 21) t271_0 rfl) rfl rfl  ?_
          exact s_ret (tk (n := 22) t271_0 rfl) rfl rfl rfl
        · refine s_iload (pc1 := 37) (tk (n := 16) t271_0 rfl) rfl rfl rfl ?_
          refine s_iconst (pc1 := 38) (tk (n := 17) t271_0 rfl) rfl rfl  ?_
          refine s_bipush (pc1 := 40) (tk (n := 18) t271_0 rfl) rfl rfl  ?_
          refine s_callS0 (as := [(0, x6), (0, 1), (0, 16)]) (st1 := []) (p1 := 43) (M2 := 165) (tk (n := 19) t271_0 rfl) rfl rfl rfl rfl rfl (fun r20 => ?_)
          refine s_if_ne (pc1 := 46) (pt := 50) (tk (n := 20) t271_0 rfl) rfl rfl rfl ?_ ?_
          · refine s_iconst (pc1 := 51) (tk (n := 23) t271_0 rfl) rfl rfl  ?_
            refine s_istore (pc1 := 53) (ls1 := [(2, x0), (0, x1), (0, x2), (0, x3), (0, x4), (0, x5), (0, x6), (0, 0), (9, 0)]) (tk (n := 24) t271_0 rfl) rfl rfl rfl rfl ?_
            refine s_iconst (pc1 := 54) (tk (n := 25) t271_0 rfl) rfl rfl  ?_
            refine s_istore (pc1 := 56) (ls1 := [(2, x0), (0, x1), (0, x2), (0, x3), (0, x4), (0, x5), (0, x6), (0, 0), (0, 0)]) (tk (n := 26) t271_0 rfl) rfl rfl rfl rfl ?_
            rfl
          · refine s_ldcw (pc1 := 49) (tk (n := 21) t271_0 rfl) rfl rfl  ?_
            exact s_ret (tk (n := 22) t271_0 rfl) rfl rfl rfl
set_option maxRecDepth 100000 in
set_option maxHeartbeats 4000000 in
theorem e_X12_area_56 (x0 : Int) (x1 : Int) (x2 : Int) (x3 : Int) (x4 : Int) (x5 : Int) (x6 : Int) (x7 : Int) (x8 : Int) (h : Hq) : vp 271 56 [(2, x0), (0, x1), (0, x2), (0, x3), (0, x4), (0, x5), (0, x6), (0, x7), (0, x8)] [] h = if x8 ≥ (w32 (x5 * x6)) then (if (w32 (x5 * x6)) ≠ 0 then some (some (0, w32 (x7.tdiv (w32 (x5 * x6)))), h) else none) else (if x5 ≠ 0 then if x5 ≠ 0 then if 0 < x0 ∧ (kd x0).1 = 12 then (vm 265 [(2, x0), (0, x1), (0, x2), (0, w32 (x3 + (x8.tmod x5))), (0, w32 (x4 + (w32 (x8.tdiv x5))))] h).bind (fun r20 => vp 271 56 [(2, x0), (0, x1), (0, x2), (0, x3), (0, x4), (0, x5), (0, x6), (0, w32 (x7 + (vx r20))), (0, w32 (x8 + 1))] [] r20.2) else none else none else none) := by
  refine s_iload (pc1 := 58) (tk (n := 27) t271_0 rfl) rfl rfl rfl ?_
  refine s_iload (pc1 := 60) (tk (n := 28) t271_0 rfl) rfl rfl rfl ?_
  refine s_iload (pc1 := 62) (tk (n := 29) t271_0 rfl) rfl rfl rfl ?_
  refine s_imul (pc1 := 63) (tk (n := 0) t271_1 rfl) rfl rfl  ?_
  refine s_ic_ge (pc1 := 66) (pt := 98) (tk (n := 1) t271_1 rfl) rfl rfl rfl ?_ ?_
  · refine s_iload (pc1 := 100) (tk (n := 21) t271_1 rfl) rfl rfl rfl ?_
    refine s_iload (pc1 := 102) (tk (n := 22) t271_1 rfl) rfl rfl rfl ?_
    refine s_iload (pc1 := 104) (tk (n := 23) t271_1 rfl) rfl rfl rfl ?_
    refine s_imul (pc1 := 105) (tk (n := 24) t271_1 rfl) rfl rfl  ?_
    refine s_idiv (pc1 := 106) (tk (n := 25) t271_1 rfl) rfl rfl  ?_
    exact s_ret (tk (n := 26) t271_1 rfl) rfl rfl rfl
  · refine s_iload (pc1 := 68) (tk (n := 2) t271_1 rfl) rfl rfl rfl ?_
    refine s_aload_n (pc1 := 69) (tk (n := 3) t271_1 rfl) rfl rfl rfl ?_
    refine s_iload_n (pc1 := 70) (tk (n := 4) t271_1 rfl) rfl rfl rfl ?_
    refine s_iload_n (pc1 := 71) (tk (n := 5) t271_1 rfl) rfl rfl rfl ?_
    refine s_iload_n (pc1 := 72) (tk (n := 6) t271_1 rfl) rfl rfl rfl ?_
    refine s_iload (pc1 := 74) (tk (n := 7) t271_1 rfl) rfl rfl rfl ?_
    refine s_iload (pc1 := 76) (tk (n := 8) t271_1 rfl) rfl rfl rfl ?_
    refine s_irem (pc1 := 77) (tk (n := 9) t271_1 rfl) rfl rfl  ?_
    refine s_iadd (pc1 := 78) (tk (n := 10) t271_1 rfl) rfl rfl  ?_
    refine s_iload (pc1 := 80) (tk (n := 11) t271_1 rfl) rfl rfl rfl ?_
    refine s_iload (pc1 := 82) (tk (n := 12) t271_1 rfl) rfl rfl rfl ?_
    refine s_iload (pc1 := 84) (tk (n := 13) t271_1 rfl) rfl rfl rfl ?_
    refine s_idiv (pc1 := 85) (tk (n := 14) t271_1 rfl) rfl rfl  ?_
    refine s_iadd (pc1 := 86) (tk (n := 15) t271_1 rfl) rfl rfl  ?_
    refine s_call0 (as := [(2, x0), (0, x1), (0, x2), (0, w32 (x3 + (x8.tmod x5))), (0, w32 (x4 + (w32 (x8.tdiv x5))))]) (st1 := [(0, x7)]) (p1 := 89) (M2 := 265) (tk (n := 16) t271_1 rfl) rfl rfl rfl rfl rfl (fun r20 => ?_)
    refine s_iadd (pc1 := 90) (tk (n := 17) t271_1 rfl) rfl rfl  ?_
    refine s_istore (pc1 := 92) (ls1 := [(2, x0), (0, x1), (0, x2), (0, x3), (0, x4), (0, x5), (0, x6), (0, w32 (x7 + (vx r20))), (0, x8)]) (tk (n := 18) t271_1 rfl) rfl rfl rfl rfl ?_
    refine s_iinc (pc1 := 95) (ls1 := [(2, x0), (0, x1), (0, x2), (0, x3), (0, x4), (0, x5), (0, x6), (0, w32 (x7 + (vx r20))), (0, w32 (x8 + 1))]) (tk (n := 19) t271_1 rfl) rfl rfl rfl rfl ?_
    refine s_goto (pc1 := 56) (tk (n := 20) t271_1 rfl) rfl rfl ?_
    rfl
set_option maxRecDepth 100000 in
set_option maxHeartbeats 4000000 in
theorem e_X12_blend (x0 : Int) (x1 : Int) (x2 : Int) (x3 : Int) (x4 : Int) (h : Hq) : vm 272 [(2, x0), (0, x1), (0, x2), (0, x3), (0, x4)] h = if 0 < x0 ∧ (kd x0).1 = 12 then (vm 235 [(2, x0), (0, x1)] h).bind (fun r3 => if (vx r3) = 0 then (some (some (0, (-1000000001)), r3.2)) else ((vm 266 [(0, x2), (0, x3)] r3.2).bind (fun r7 => if (vx r7) = 0 then (some (some (0, (-1000000001)), r7.2)) else ((vm 165 [(0, x4), (0, 0), (0, 160)] r7.2).bind (fun r12 => if (vx r12) ≠ 0 then (if 0 < x0 ∧ (kd x0).1 = 12 then (vm 234 [(2, x0), (0, x1), (0, 4)] r12.2).bind (fun r21 => if (w32 (x4.tdiv 16)) < (w32 ((vx r21) - 1)) then (if 0 < x0 ∧ (kd x0).1 = 12 then (vm 268 [(2, x0), (0, x1), (0, w32 (x4.tdiv 16)), (0, x2), (0, x3)] r21.2).bind (fun r33 => if 0 < x0 ∧ (kd x0).1 = 12 then (vm 268 [(2, x0), (0, x1), (0, w32 ((w32 (x4.tdiv 16)) + 1)), (0, x2), (0, x3)] r33.2).bind (fun r47 => some (some (0, w32 ((w32 ((w32 ((vx r33) * (w32 (16 - (x4.tmod 16))))) + (w32 ((vx r47) * (x4.tmod 16))))).tdiv 16)), r47.2)) else none) else none) else (if 0 < x0 ∧ (kd x0).1 = 12 then (vm 268 [(2, x0), (0, x1), (0, w32 ((vx r21) - 1)), (0, x2), (0, x3)] r21.2).bind (fun r33 => some (some (0, vx r33), r33.2)) else none)) else none) else (some (some (0, (-1000000001)), r12.2))))))) else none := by
  show vp 272 0 [(2, x0), (0, x1), (0, x2), (0, x3), (0, x4), (9, 0), (9, 0)] [] h = _
  refine s_aload_n (pc1 := 1) (tk (n := 0) t272_0 rfl) rfl rfl rfl ?_
  refine s_iload_n (pc1 := 2) (tk (n := 1) t272_0 rfl) rfl rfl rfl ?_
  refine s_call0 (as := [(2, x0), (0, x1)]) (st1 := []) (p1 := 5) (M2 := 235) (tk (n := 2) t272_0 rfl) rfl rfl rfl rfl rfl (fun r3 => ?_)
  refine s_if_eq (pc1 := 8) (pt := 28) (tk (n := 3) t272_0 rfl) rfl rfl rfl ?_ ?_
  · refine s_ldcw (pc1 := 31) (tk (n := 13) t272_0 rfl) rfl rfl  ?_
    exact s_ret (tk (n := 14) t272_0 rfl) rfl rfl rfl
  · refine s_iload_n (pc1 := 9) (tk (n := 4) t272_0 rfl) rfl rfl rfl ?_
    refine s_iload_n (pc1 := 10) (tk (n := 5) t272_0 rfl) rfl rfl rfl ?_
    refine s_callS0 (as := [(0, x2), (0, x3)]) (st1 := []) (p1 := 13) (M2 := 266) (tk (n := 6) t272_0 rfl) rfl rfl rfl rfl rfl (fun r7 => ?_)
    refine s_if_eq (pc1 := 16) (pt := 28) (tk (n := 7) t272_0 rfl) rfl rfl rfl ?_ ?_
    · refine s_ldcw (pc1 := 31) (tk (n := 13) t272_0 rfl) rfl rfl  ?_
      exact s_ret (tk (n := 14) t272_0 rfl) rfl rfl rfl
    · refine s_iload (pc1 := 18) (tk (n := 8) t272_0 rfl) rfl rfl rfl ?_
      refine s_iconst (pc1 := 19) (tk (n := 9) t272_0 rfl) rfl rfl  ?_
      refine s_sipush (pc1 := 22) (tk (n := 10) t272_0 rfl) rfl rfl  ?_
      refine s_callS0 (as := [(0, x4), (0, 0), (0, 160)]) (st1 := []) (p1 := 25) (M2 := 165) (tk (n := 11) t272_0 rfl) rfl rfl rfl rfl rfl (fun r12 => ?_)
      refine s_if_ne (pc1 := 28) (pt := 32) (tk (n := 12) t272_0 rfl) rfl rfl rfl ?_ ?_
      · refine s_iload (pc1 := 34) (tk (n := 15) t272_0 rfl) rfl rfl rfl ?_
        refine s_bipush (pc1 := 36) (tk (n := 16) t272_0 rfl) rfl rfl  ?_
        refine s_idivc (pc1 := 37) (tk (n := 17) t272_0 rfl) rfl rfl (by decide) ?_
        refine s_istore (pc1 := 39) (ls1 := [(2, x0), (0, x1), (0, x2), (0, x3), (0, x4), (0, w32 (x4.tdiv 16)), (9, 0)]) (tk (n := 18) t272_0 rfl) rfl rfl rfl rfl ?_
        refine s_aload_n (pc1 := 40) (tk (n := 19) t272_0 rfl) rfl rfl rfl ?_
        refine s_iload_n (pc1 := 41) (tk (n := 20) t272_0 rfl) rfl rfl rfl ?_
        refine s_iconst (pc1 := 42) (tk (n := 21) t272_0 rfl) rfl rfl  ?_
        refine s_call0 (as := [(2, x0), (0, x1), (0, 4)]) (st1 := []) (p1 := 45) (M2 := 234) (tk (n := 22) t272_0 rfl) rfl rfl rfl rfl rfl (fun r21 => ?_)
        refine s_iconst (pc1 := 46) (tk (n := 23) t272_0 rfl) rfl rfl  ?_
        refine s_isub (pc1 := 47) (tk (n := 24) t272_0 rfl) rfl rfl  ?_
        refine s_istore (pc1 := 49) (ls1 := [(2, x0), (0, x1), (0, x2), (0, x3), (0, x4), (0, w32 (x4.tdiv 16)), (0, w32 ((vx r21) - 1))]) (tk (n := 25) t272_0 rfl) rfl rfl rfl rfl ?_
        refine s_iload (pc1 := 51) (tk (n := 26) t272_0 rfl) rfl rfl rfl ?_
        refine s_iload (pc1 := 53) (tk (n := 27) t272_0 rfl) rfl rfl rfl ?_
        refine s_ic_lt (pc1 := 56) (pt := 66) (tk (n := 28) t272_0 rfl) rfl rfl rfl ?_ ?_
        · refine s_aload_n (pc1 := 67) (tk (n := 6) t272_1 rfl) rfl rfl rfl ?_
          refine s_iload_n (pc1 := 68) (tk (n := 7) t272_1 rfl) rfl rfl rfl ?_
          refine s_iload (pc1 := 70) (tk (n := 8) t272_1 rfl) rfl rfl rfl ?_
          refine s_iload_n (pc1 := 71) (tk (n := 9) t272_1 rfl) rfl rfl rfl ?_
          refine s_iload_n (pc1 := 72) (tk (n := 10) t272_1 rfl) rfl rfl rfl ?_
          refine s_call0 (as := [(2, x0), (0, x1), (0, w32 (x4.tdiv 16)), (0, x2), (0, x3)]) (st1 := []) (p1 := 75) (M2 := 268) (tk (n := 11) t272_1 rfl) rfl rfl rfl rfl rfl (fun r33 => ?_)
          refine s_bipush (pc1 := 77) (tk (n := 12) t272_1 rfl) rfl rfl  ?_
          refine s_iload (pc1 := 79) (tk (n := 13) t272_1 rfl) rfl rfl rfl ?_
          refine s_bipush (pc1 := 81) (tk (n := 14) t272_1 rfl) rfl rfl  ?_
          refine s_iremc (pc1 := 82) (tk (n := 15) t272_1 rfl) rfl rfl (by decide) ?_
          refine s_isub (pc1 := 83) (tk (n := 16) t272_1 rfl) rfl rfl  ?_
          refine s_imul (pc1 := 84) (tk (n := 17) t272_1 rfl) rfl rfl  ?_
          refine s_aload_n (pc1 := 85) (tk (n := 18) t272_1 rfl) rfl rfl rfl ?_
          refine s_iload_n (pc1 := 86) (tk (n := 19) t272_1 rfl) rfl rfl rfl ?_
          refine s_iload (pc1 := 88) (tk (n := 20) t272_1 rfl) rfl rfl rfl ?_
          refine s_iconst (pc1 := 89) (tk (n := 21) t272_1 rfl) rfl rfl  ?_
          refine s_iadd (pc1 := 90) (tk (n := 22) t272_1 rfl) rfl rfl  ?_
          refine s_iload_n (pc1 := 91) (tk (n := 23) t272_1 rfl) rfl rfl rfl ?_
          refine s_iload_n (pc1 := 92) (tk (n := 24) t272_1 rfl) rfl rfl rfl ?_
          refine s_call0 (as := [(2, x0), (0, x1), (0, w32 ((w32 (x4.tdiv 16)) + 1)), (0, x2), (0, x3)]) (st1 := [(0, w32 ((vx r33) * (w32 (16 - (x4.tmod 16)))))]) (p1 := 95) (M2 := 268) (tk (n := 25) t272_1 rfl) rfl rfl rfl rfl rfl (fun r47 => ?_)
          refine s_iload (pc1 := 97) (tk (n := 26) t272_1 rfl) rfl rfl rfl ?_
          refine s_bipush (pc1 := 99) (tk (n := 27) t272_1 rfl) rfl rfl  ?_
          refine s_iremc (pc1 := 100) (tk (n := 28) t272_1 rfl) rfl rfl (by decide) ?_
          refine s_imul (pc1 := 101) (tk (n := 29) t272_1 rfl) rfl rfl  ?_
          refine s_iadd (pc1 := 102) (tk (n := 0) t272_2 rfl) rfl rfl  ?_
          refine s_bipush (pc1 := 104) (tk (n := 1) t272_2 rfl) rfl rfl  ?_
          refine s_idivc (pc1 := 105) (tk (n := 2) t272_2 rfl) rfl rfl (by decide) ?_
          exact s_ret (tk (n := 3) t272_2 rfl) rfl rfl rfl
        · refine s_aload_n (pc1 := 57) (tk (n := 29) t272_0 rfl) rfl rfl rfl ?_
          refine s_iload_n (pc1 := 58) (tk (n := 0) t272_1 rfl) rfl rfl rfl ?_
          refine s_iload (pc1 := 60) (tk (n := 1) t272_1 rfl) rfl rfl rfl ?_
          refine s_iload_n (pc1 := 61) (tk (n := 2) t272_1 rfl) rfl rfl rfl ?_
          refine s_iload_n (pc1 := 62) (tk (n := 3) t272_1 rfl) rfl rfl rfl ?_
          refine s_call0 (as := [(2, x0), (0, x1), (0, w32 ((vx r21) - 1)), (0, x2), (0, x3)]) (st1 := []) (p1 := 65) (M2 := 268) (tk (n := 4) t272_1 rfl) rfl rfl rfl rfl rfl (fun r33 => ?_)
          exact s_ret (tk (n := 5) t272_1 rfl) rfl rfl rfl
      · refine s_ldcw (pc1 := 31) (tk (n := 13) t272_0 rfl) rfl rfl  ?_
        exact s_ret (tk (n := 14) t272_0 rfl) rfl rfl rfl
set_option maxRecDepth 100000 in
set_option maxHeartbeats 4000000 in
theorem e_X12_taps (x0 : Int) (x1 : Int) (h : Hq) : vm 273 [(0, x0), (0, x1)] h = if x0 ≠ 0 then (if x1 ≠ 0 then ((vm 171 [(0, x0), (0, x1)] h).bind (fun r8 => (vm 167 [(0, 8), (0, vx r8)] r8.2).bind (fun r9 => some (some (0, vx r9), r9.2)))) else (some (some (0, 8), h))) else (some (some (0, 1), h)) := by
  show vp 273 0 [(0, x0), (0, x1)] [] h = _
  refine s_iload_n (pc1 := 1) (tk (n := 0) t273_0 rfl) rfl rfl rfl ?_
  refine s_if_ne (pc1 := 4) (pt := 8) (tk (n := 1) t273_0 rfl) rfl rfl rfl ?_ ?_
  · refine s_iload_n (pc1 := 9) (tk (n := 4) t273_0 rfl) rfl rfl rfl ?_
    refine s_if_ne (pc1 := 12) (pt := 17) (tk (n := 5) t273_0 rfl) rfl rfl rfl ?_ ?_
    · refine s_bipush (pc1 := 19) (tk (n := 8) t273_0 rfl) rfl rfl  ?_
      refine s_iload_n (pc1 := 20) (tk (n := 9) t273_0 rfl) rfl rfl rfl ?_
      refine s_iload_n (pc1 := 21) (tk (n := 10) t273_0 rfl) rfl rfl rfl ?_
      refine s_callS0 (as := [(0, x0), (0, x1)]) (st1 := [(0, 8)]) (p1 := 24) (M2 := 171) (tk (n := 11) t273_0 rfl) rfl rfl rfl rfl rfl (fun r8 => ?_)
      refine s_callS0 (as := [(0, 8), (0, vx r8)]) (st1 := []) (p1 := 27) (M2 := 167) (tk (n := 12) t273_0 rfl) rfl rfl rfl rfl rfl (fun r9 => ?_)
      exact s_ret (tk (n := 13) t273_0 rfl) rfl rfl rfl
    · refine s_bipush (pc1 := 14) (tk (n := 6) t273_0 rfl) rfl rfl  ?_
      refine s_goto (pc1 := 27) (tk (n := 7) t273_0 rfl) rfl rfl ?_
      exact s_ret (tk (n := 13) t273_0 rfl) rfl rfl rfl
  · refine s_iconst (pc1 := 5) (tk (n := 2) t273_0 rfl) rfl rfl  ?_
    refine s_goto (pc1 := 27) (tk (n := 3) t273_0 rfl) rfl rfl ?_
    exact s_ret (tk (n := 13) t273_0 rfl) rfl rfl rfl
set_option maxRecDepth 100000 in
set_option maxHeartbeats 4000000 in
theorem e_X12_halvedOften (x0 : Int) (x1 : Int) (h : Hq) : vm 274 [(0, x0), (0, x1)] h = (vm 171 [(0, x0), (0, x1)] h).bind (fun r5 => vp 274 8 [(0, x0), (0, x1), (0, 0), (0, vx r5)] [] r5.2) := by
  show vp 274 0 [(0, x0), (0, x1), (9, 0), (9, 0)] [] h = _
  refine s_iconst (pc1 := 1) (tk (n := 0) t274_0 rfl) rfl rfl  ?_
  refine s_istore_n (pc1 := 2) (ls1 := [(0, x0), (0, x1), (0, 0), (9, 0)]) (tk (n := 1) t274_0 rfl) rfl rfl rfl rfl ?_
  refine s_iload_n (pc1 := 3) (tk (n := 2) t274_0 rfl) rfl rfl rfl ?_
  refine s_iload_n (pc1 := 4) (tk (n := 3) t274_0 rfl) rfl rfl rfl ?_
  refine s_callS0 (as := [(0, x0), (0, x1)]) (st1 := []) (p1 := 7) (M2 := 171) (tk (n := 4) t274_0 rfl) rfl rfl rfl rfl rfl (fun r5 => ?_)
  refine s_istore_n (pc1 := 8) (ls1 := [(0, x0), (0, x1), (0, 0), (0, vx r5)]) (tk (n := 5) t274_0 rfl) rfl rfl rfl rfl ?_
  rfl
set_option maxRecDepth 100000 in
set_option maxHeartbeats 4000000 in
theorem e_X12_halvedOften_8 (z0 : Vl) (z1 : Vl) (x2 : Int) (x3 : Int) (h : Hq) : vp 274 8 [z0, z1, (0, x2), (0, x3)] [] h = if x3 ≤ 16 then (some (some (0, x2), h)) else ((vm 171 [(0, x3), (0, 2)] h).bind (fun r7 => vp 274 8 [(9, 0), (9, 0), (0, w32 (x2 + 1)), (0, vx r7)] [] r7.2)) := by
  refine s_fg (ls1 := [(9, 0), (9, 0), (0, x2), (0, x3)]) (tk (n := 6) t274_0 rfl) rfl ?_
  refine s_iload_n (pc1 := 9) (tk (n := 6) t274_0 rfl) rfl rfl rfl ?_
  refine s_bipush (pc1 := 11) (tk (n := 7) t274_0 rfl) rfl rfl  ?_
  refine s_ic_le (pc1 := 14) (pt := 26) (tk (n := 8) t274_0 rfl) rfl rfl rfl ?_ ?_
  · refine s_iload_n (pc1 := 27) (tk (n := 15) t274_0 rfl) rfl rfl rfl ?_
    exact s_ret (tk (n := 16) t274_0 rfl) rfl rfl rfl
  · refine s_iinc (pc1 := 17) (ls1 := [(9, 0), (9, 0), (0, w32 (x2 + 1)), (0, x3)]) (tk (n := 9) t274_0 rfl) rfl rfl rfl rfl ?_
    refine s_iload_n (pc1 := 18) (tk (n := 10) t274_0 rfl) rfl rfl rfl ?_
    refine s_iconst (pc1 := 19) (tk (n := 11) t274_0 rfl) rfl rfl  ?_
    refine s_callS0 (as := [(0, x3), (0, 2)]) (st1 := []) (p1 := 22) (M2 := 171) (tk (n := 12) t274_0 rfl) rfl rfl rfl rfl rfl (fun r7 => ?_)
    refine s_istore_n (pc1 := 23) (ls1 := [(9, 0), (9, 0), (0, w32 (x2 + 1)), (0, vx r7)]) (tk (n := 13) t274_0 rfl) rfl rfl rfl rfl ?_
    refine s_goto (pc1 := 8) (tk (n := 14) t274_0 rfl) rfl rfl ?_
    rfl
set_option maxRecDepth 100000 in
set_option maxHeartbeats 4000000 in
theorem e_X12_isAxis (x0 : Int) (x1 : Int) (h : Hq) : vm 275 [(0, x0), (0, x1)] h = (vm 165 [(0, x0), (0, (-999)), (0, 999)] h).bind (fun r4 => if (vx r4) = 0 then (some (some (0, 0), r4.2)) else ((vm 165 [(0, x1), (0, (-999)), (0, 999)] r4.2).bind (fun r9 => if (vx r9) = 0 then (some (some (0, 0), r9.2)) else (some (some (0, 1), r9.2))))) := by
  show vp 275 0 [(0, x0), (0, x1)] [] h = _
  refine s_iload_n (pc1 := 1) (tk (n := 0) t275_0 rfl) rfl rfl rfl ?_
  refine s_sipush (pc1 := 4) (tk (n := 1) t275_0 rfl) rfl rfl  ?_
  refine s_sipush (pc1 := 7) (tk (n := 2) t275_0 rfl) rfl rfl  ?_
  refine s_callS0 (as := [(0, x0), (0, (-999)), (0, 999)]) (st1 := []) (p1 := 10) (M2 := 165) (tk (n := 3) t275_0 rfl) rfl rfl rfl rfl rfl (fun r4 => ?_)
  refine s_if_eq (pc1 := 13) (pt := 30) (tk (n := 4) t275_0 rfl) rfl rfl rfl ?_ ?_
  · refine s_iconst (pc1 := 31) (tk (n := 12) t275_0 rfl) rfl rfl  ?_
    exact s_retY (tk (n := 13) t275_0 rfl) rfl rfl rfl (by decide)
  · refine s_iload_n (pc1 := 14) (tk (n := 5) t275_0 rfl) rfl rfl rfl ?_
    refine s_sipush (pc1 := 17) (tk (n := 6) t275_0 rfl) rfl rfl  ?_
    refine s_sipush (pc1 := 20) (tk (n := 7) t275_0 rfl) rfl rfl  ?_
    refine s_callS0 (as := [(0, x1), (0, (-999)), (0, 999)]) (st1 := []) (p1 := 23) (M2 := 165) (tk (n := 8) t275_0 rfl) rfl rfl rfl rfl rfl (fun r9 => ?_)
    refine s_if_eq (pc1 := 26) (pt := 30) (tk (n := 9) t275_0 rfl) rfl rfl rfl ?_ ?_
    · refine s_iconst (pc1 := 31) (tk (n := 12) t275_0 rfl) rfl rfl  ?_
      exact s_retY (tk (n := 13) t275_0 rfl) rfl rfl rfl (by decide)
    · refine s_iconst (pc1 := 27) (tk (n := 10) t275_0 rfl) rfl rfl  ?_
      refine s_goto (pc1 := 31) (tk (n := 11) t275_0 rfl) rfl rfl ?_
      exact s_retY (tk (n := 13) t275_0 rfl) rfl rfl rfl (by decide)
set_option maxRecDepth 100000 in
set_option maxHeartbeats 4000000 in
theorem e_X12_axis (x0 : Int) (x1 : Int) (x2 : Int) (x3 : Int) (x4 : Int) (x5 : Int) (h : Hq) : vm 276 [(2, x0), (0, x1), (0, x2), (0, x3), (0, x4), (0, x5)] h = (vm 275 [(0, x1), (0, x2)] h).bind (fun r3 => if (vx r3) = 0 then (some (some (0, (-1)), r3.2)) else ((vm 275 [(0, x3), (0, x4)] r3.2).bind (fun r7 => if (vx r7) = 0 then (some (some (0, (-1)), r7.2)) else ((vm 165 [(0, x5), (0, 0), (0, 3)] r7.2).bind (fun r12 => if (vx r12) ≠ 0 then ((vm 169 [(0, x1)] r12.2).bind (fun r15 => (vm 169 [(0, x2)] r15.2).bind (fun r17 => (vm 169 [(0, x3)] r17.2).bind (fun r21 => (vm 169 [(0, x4)] r21.2).bind (fun r23 => (vm 166 [(0, w32 ((vx r15) + (vx r17))), (0, w32 ((vx r21) + (vx r23)))] r23.2).bind (fun r28 => (vm 167 [(0, w32 ((vx r15) + (vx r17))), (0, w32 ((vx r21) + (vx r23)))] r28.2).bind (fun r33 => (vm 273 [(0, vx r28), (0, vx r33)] r33.2).bind (fun r34 => if x5 ≠ 0 then (if x5 ≠ 1 then (if x5 ≠ 2 then ((vm 274 [(0, vx r28), (0, vx r34)] r34.2).bind (fun r46 => some (some (0, vx r46), r46.2))) else (if (w32 ((vx r21) + (vx r23))) ≤ (w32 ((vx r15) + (vx r17))) then ((vm 168 [(0, 0)] r34.2).bind (fun r48 => some (some (0, vx r48), r48.2))) else ((vm 168 [(0, 1)] r34.2).bind (fun r49 => some (some (0, vx r49), r49.2))))) else (some (some (0, vx r28), r34.2))) else (some (some (0, vx r34), r34.2)))))))))) else (some (some (0, (-1)), r12.2))))))) := by
  show vp 276 0 [(2, x0), (0, x1), (0, x2), (0, x3), (0, x4), (0, x5), (9, 0), (9, 0), (9, 0), (9, 0)] [] h = _
  refine s_iload_n (pc1 := 1) (tk (n := 0) t276_0 rfl) rfl rfl rfl ?_
  refine s_iload_n (pc1 := 2) (tk (n := 1) t276_0 rfl) rfl rfl rfl ?_
  refine s_callS0 (as := [(0, x1), (0, x2)]) (st1 := []) (p1 := 5) (M2 := 275) (tk (n := 2) t276_0 rfl) rfl rfl rfl rfl rfl (fun r3 => ?_)
  refine s_if_eq (pc1 := 8) (pt := 27) (tk (n := 3) t276_0 rfl) rfl rfl rfl ?_ ?_
  · refine s_iconst (pc1 := 28) (tk (n := 13) t276_0 rfl) rfl rfl  ?_
    exact s_ret (tk (n := 14) t276_0 rfl) rfl rfl rfl
  · refine s_iload_n (pc1 := 9) (tk (n := 4) t276_0 rfl) rfl rfl rfl ?_
    refine s_iload (pc1 := 11) (tk (n := 5) t276_0 rfl) rfl rfl rfl ?_
    refine s_callS0 (as := [(0, x3), (0, x4)]) (st1 := []) (p1 := 14) (M2 := 275) (tk (n := 6) t276_0 rfl) rfl rfl rfl rfl rfl (fun r7 => ?_)
    refine s_if_eq (pc1 := 17) (pt := 27) (tk (n := 7) t276_0 rfl) rfl rfl rfl ?_ ?_
    · refine s_iconst (pc1 := 28) (tk (n := 13) t276_0 rfl) rfl rfl  ?_
      exact s_ret (tk (n := 14) t276_0 rfl) rfl rfl rfl
    · refine s_iload (pc1 := 19) (tk (n := 8) t276_0 rfl) rfl rfl rfl ?_
      refine s_iconst (pc1 := 20) (tk (n := 9) t276_0 rfl) rfl rfl  ?_
      refine s_iconst (pc1 := 21) (tk (n := 10) t276_0 rfl) rfl rfl  ?_
      refine s_callS0 (as := [(0, x5), (0, 0), (0, 3)]) (st1 := []) (p1 := 24) (M2 := 165) (tk (n := 11) t276_0 rfl) rfl rfl rfl rfl rfl (fun r12 => ?_)
      refine s_if_ne (pc1 := 27) (pt := 29) (tk (n := 12) t276_0 rfl) rfl rfl rfl ?_ ?_
      · refine s_iload_n (pc1 := 30) (tk (n := 15) t276_0 rfl) rfl rfl rfl ?_
        refine s_callS0 (as := [(0, x1)]) (st1 := []) (p1 := 33) (M2 := 169) (tk (n := 16) t276_0 rfl) rfl rfl rfl rfl rfl (fun r15 => ?_)
        refine s_iload_n (pc1 := 34) (tk (n := 17) t276_0 rfl) rfl rfl rfl ?_
        refine s_callS0 (as := [(0, x2)]) (st1 := [(0, vx r15)]) (p1 := 37) (M2 := 169) (tk (n := 18) t276_0 rfl) rfl rfl rfl rfl rfl (fun r17 => ?_)
        refine s_iadd (pc1 := 38) (tk (n := 19) t276_0 rfl) rfl rfl  ?_
        refine s_istore (pc1 := 40) (ls1 := [(2, x0), (0, x1), (0, x2), (0, x3), (0, x4), (0, x5), (0, w32 ((vx r15) + (vx r17))), (9, 0), (9, 0), (9, 0)]) (tk (n := 20) t276_0 rfl) rfl rfl rfl rfl ?_
        refine s_iload_n (pc1 := 41) (tk (n := 21) t276_0 rfl) rfl rfl rfl ?_
        refine s_callS0 (as := [(0, x3)]) (st1 := []) (p1 := 44) (M2 := 169) (tk (n := 22) t276_0 rfl) rfl rfl rfl rfl rfl (fun r21 => ?_)
        refine s_iload (pc1 := 46) (tk (n := 23) t276_0 rfl) rfl rfl rfl ?_
        refine s_callS0 (as := [(0, x4)]) (st1 := [(0, vx r21)]) (p1 := 49) (M2 := 169) (tk (n := 24) t276_0 rfl) rfl rfl rfl rfl rfl (fun r23 => ?_)
        refine s_iadd (pc1 := 50) (tk (n := 25) t276_0 rfl) rfl rfl  ?_
        refine s_istore (pc1 := 52) (ls1 := [(2, x0), (0, x1), (0, x2), (0, x3), (0, x4), (0, x5), (0, w32 ((vx r15) + (vx r17))), (0, w32 ((vx r21) + (vx r23))), (9, 0), (9, 0)]) (tk (n := 26) t276_0 rfl) rfl rfl rfl rfl ?_
        refine s_iload (pc1 := 54) (tk (n := 27) t276_0 rfl) rfl rfl rfl ?_
        refine s_iload (pc1 := 56) (tk (n := 28) t276_0 rfl) rfl rfl rfl ?_
        refine s_callS0 (as := [(0, w32 ((vx r15) + (vx r17))), (0, w32 ((vx r21) + (vx r23)))]) (st1 := []) (p1 := 59) (M2 := 166) (tk (n := 29) t276_0 rfl) rfl rfl rfl rfl rfl (fun r28 => ?_)
        refine s_istore (pc1 := 61) (ls1 := [(2, x0), (0, x1), (0, x2), (0, x3), (0, x4), (0, x5), (0, w32 ((vx r15) + (vx r17))), (0, w32 ((vx r21) + (vx r23))), (0, vx r28), (9, 0)]) (tk (n := 0) t276_1 rfl) rfl rfl rfl rfl ?_
        refine s_iload (pc1 := 63) (tk (n := 1) t276_1 rfl) rfl rfl rfl ?_
        refine s_iload (pc1 := 65) (tk (n := 2) t276_1 rfl) rfl rfl rfl ?_
        refine s_iload (pc1 := 67) (tk (n := 3) t276_1 rfl) rfl rfl rfl ?_
        refine s_callS0 (as := [(0, w32 ((vx r15) + (vx r17))), (0, w32 ((vx r21) + (vx r23)))]) (st1 := [(0, vx r28)]) (p1 := 70) (M2 := 167) (tk (n := 4) t276_1 rfl) rfl rfl rfl rfl rfl (fun r33 => ?_)
        refine s_callS0 (as := [(0, vx r28), (0, vx r33)]) (st1 := []) (p1 := 73) (M2 := 273) (tk (n := 5) t276_1 rfl) rfl rfl rfl rfl rfl (fun r34 => ?_)
        refine s_istore (pc1 := 75) (ls1 := [(2, x0), (0, x1), (0, x2), (0, x3), (0, x4), (0, x5), (0, w32 ((vx r15) + (vx r17))), (0, w32 ((vx r21) + (vx r23))), (0, vx r28), (0, vx r34)]) (tk (n := 6) t276_1 rfl) rfl rfl rfl rfl ?_
        refine s_iload (pc1 := 77) (tk (n := 7) t276_1 rfl) rfl rfl rfl ?_
        refine s_if_ne (pc1 := 80) (pt := 85) (tk (n := 8) t276_1 rfl) rfl rfl rfl ?_ ?_
        · refine s_iload (pc1 := 87) (tk (n := 11) t276_1 rfl) rfl rfl rfl ?_
          refine s_iconst (pc1 := 88) (tk (n := 12) t276_1 rfl) rfl rfl  ?_
          refine s_ic_ne (pc1 := 91) (pt := 96) (tk (n := 13) t276_1 rfl) rfl rfl rfl ?_ ?_
          · refine s_iload (pc1 := 98) (tk (n := 16) t276_1 rfl) rfl rfl rfl ?_
            refine s_iconst (pc1 := 99) (tk (n := 17) t276_1 rfl) rfl rfl  ?_
            refine s_ic_ne (pc1 := 102) (pt := 120) (tk (n := 18) t276_1 rfl) rfl rfl rfl ?_ ?_
            · refine s_iload (pc1 := 122) (tk (n := 27) t276_1 rfl) rfl rfl rfl ?_
              refine s_iload (pc1 := 124) (tk (n := 28) t276_1 rfl) rfl rfl rfl ?_
              refine s_callS0 (as := [(0, vx r28), (0, vx r34)]) (st1 := []) (p1 := 127) (M2 := 274) (tk (n := 29) t276_1 rfl) rfl rfl rfl rfl rfl (fun r46 => ?_)
              exact s_ret (tk (n := 0) t276_2 rfl) rfl rfl rfl
            · refine s_iload (pc1 := 104) (tk (n := 19) t276_1 rfl) rfl rfl rfl ?_
              refine s_iload (pc1 := 106) (tk (n := 20) t276_1 rfl) rfl rfl rfl ?_
              refine s_ic_le (pc1 := 109) (pt := 113) (tk (n := 21) t276_1 rfl) rfl rfl rfl ?_ ?_
              · refine s_iconst (pc1 := 114) (tk (n := 24) t276_1 rfl) rfl rfl  ?_
                refine s_callS0 (as := [(0, 0)]) (st1 := []) (p1 := 117) (M2 := 168) (tk (n := 25) t276_1 rfl) rfl rfl rfl rfl rfl (fun r48 => ?_)
                refine s_goto (pc1 := 127) (tk (n := 26) t276_1 rfl) rfl rfl ?_
                exact s_ret (tk (n := 0) t276_2 rfl) rfl rfl rfl
              · refine s_iconst (pc1 := 110) (tk (n := 22) t276_1 rfl) rfl rfl  ?_
                refine s_goto (pc1 := 114) (tk (n := 23) t276_1 rfl) rfl rfl ?_
                refine s_callS0 (as := [(0, 1)]) (st1 := []) (p1 := 117) (M2 := 168) (tk (n := 25) t276_1 rfl) rfl rfl rfl rfl rfl (fun r49 => ?_)
                refine s_goto (pc1 := 127) (tk (n := 26) t276_1 rfl) rfl rfl ?_
                exact s_ret (tk (n := 0) t276_2 rfl) rfl rfl rfl
          · refine s_iload (pc1 := 93) (tk (n := 14) t276_1 rfl) rfl rfl rfl ?_
            refine s_goto (pc1 := 127) (tk (n := 15) t276_1 rfl) rfl rfl ?_
            exact s_ret (tk (n := 0) t276_2 rfl) rfl rfl rfl
        · refine s_iload (pc1 := 82) (tk (n := 9) t276_1 rfl) rfl rfl rfl ?_
          refine s_goto (pc1 := 127) (tk (n := 10) t276_1 rfl) rfl rfl ?_
          exact s_ret (tk (n := 0) t276_2 rfl) rfl rfl rfl
      · refine s_iconst (pc1 := 28) (tk (n := 13) t276_0 rfl) rfl rfl  ?_
        exact s_ret (tk (n := 14) t276_0 rfl) rfl rfl rfl
set_option maxRecDepth 100000 in
set_option maxHeartbeats 4000000 in
theorem e_X12_filtered (x0 : Int) (x1 : Int) (x2 : Int) (x3 : Int) (x4 : Int) (x5 : Int) (x6 : Int) (x7 : Int) (h : Hq) : vm 277 [(2, x0), (0, x1), (0, x2), (0, x3), (0, x4), (0, x5), (0, x6), (0, x7)] h = if 0 < x0 ∧ (kd x0).1 = 12 then (vm 235 [(2, x0), (0, x1)] h).bind (fun r3 => if (vx r3) = 0 then (some (some (0, (-1000000001)), r3.2)) else ((vm 266 [(0, x2), (0, x3)] r3.2).bind (fun r7 => if (vx r7) = 0 then (some (some (0, (-1000000001)), r7.2)) else ((vm 275 [(0, x4), (0, x5)] r7.2).bind (fun r11 => if (vx r11) = 0 then (some (some (0, (-1000000001)), r11.2)) else ((vm 275 [(0, x6), (0, x7)] r11.2).bind (fun r15 => if (vx r15) ≠ 0 then (if 0 < x0 ∧ (kd x0).1 = 12 then (vm 276 [(2, x0), (0, x4), (0, x5), (0, x6), (0, x7), (0, 0)] r15.2).bind (fun r23 => if 0 < x0 ∧ (kd x0).1 = 12 then (vm 234 [(2, x0), (0, x1), (0, 4)] r23.2).bind (fun r28 => if 0 < x0 ∧ (kd x0).1 = 12 then (vm 276 [(2, x0), (0, x4), (0, x5), (0, x6), (0, x7), (0, 3)] r28.2).bind (fun r37 => (vm 167 [(0, w32 ((vx r28) - 1)), (0, vx r37)] r37.2).bind (fun r38 => if 0 < x0 ∧ (kd x0).1 = 12 then (vm 276 [(2, x0), (0, x4), (0, x5), (0, x6), (0, x7), (0, 2)] r38.2).bind (fun r46 => if (vx r46) ≠ 1 then (vp 277 111 [(2, x0), (0, x1), (0, x2), (0, x3), (0, x4), (0, x5), (0, x6), (0, x7), (0, vx r23), (0, vx r38), (0, 0), (0, 0), (0, 0), (9, 0)] [] r46.2) else (vp 277 111 [(2, x0), (0, x1), (0, x2), (0, x3), (0, x4), (0, x5), (0, x6), (0, x7), (0, vx r23), (0, vx r38), (0, 1), (0, 0), (0, 0), (9, 0)] [] r46.2)) else none)) else none) else none) else none) else (some (some (0, (-1000000001)), r15.2))))))))) else none := by
  show vp 277 0 [(2, x0), (0, x1), (0, x2), (0, x3), (0, x4), (0, x5), (0, x6), (0, x7), (9, 0), (9, 0), (9, 0), (9, 0), (9, 0), (9, 0)] [] h = _
  refine s_aload_n (pc1 := 1) (tk (n := 0) t277_0 rfl) rfl rfl rfl ?_
  refine s_iload_n (pc1 := 2) (tk (n := 1) t277_0 rfl) rfl rfl rfl ?_
  refine s_call0 (as := [(2, x0), (0, x1)]) (st1 := []) (p1 := 5) (M2 := 235) (tk (n := 2) t277_0 rfl) rfl rfl rfl rfl rfl (fun r3 => ?_)
  refine s_if_eq (pc1 := 8) (pt := 36) (tk (n := 3) t277_0 rfl) rfl rfl rfl ?_ ?_
  · refine s_ldcw (pc1 := 39) (tk (n := 16) t277_0 rfl) rfl rfl  ?_
    exact s_ret (tk (n := 17) t277_0 rfl) rfl rfl rfl
  · refine s_iload_n (pc1 := 9) (tk (n := 4) t277_0 rfl) rfl rfl rfl ?_
    refine s_iload_n (pc1 := 10) (tk (n := 5) t277_0 rfl) rfl rfl rfl ?_
    refine s_callS0 (as := [(0, x2), (0, x3)]) (st1 := []) (p1 := 13) (M2 := 266) (tk (n := 6) t277_0 rfl) rfl rfl rfl rfl rfl (fun r7 => ?_)
    refine s_if_eq (pc1 := 16) (pt := 36) (tk (n := 7) t277_0 rfl) rfl rfl rfl ?_ ?_
    · refine s_ldcw (pc1 := 39) (tk (n := 16) t277_0 rfl) rfl rfl  ?_
      exact s_ret (tk (n := 17) t277_0 rfl) rfl rfl rfl
    · refine s_iload (pc1 := 18) (tk (n := 8) t277_0 rfl) rfl rfl rfl ?_
      refine s_iload (pc1 := 20) (tk (n := 9) t277_0 rfl) rfl rfl rfl ?_
      refine s_callS0 (as := [(0, x4), (0, x5)]) (st1 := []) (p1 := 23) (M2 := 275) (tk (n := 10) t277_0 rfl) rfl rfl rfl rfl rfl (fun r11 => ?_)
      refine s_if_eq (pc1 := 26) (pt := 36) (tk (n := 11) t277_0 rfl) rfl rfl rfl ?_ ?_
      · refine s_ldcw (pc1 := 39) (tk (n := 16) t277_0 rfl) rfl rfl  ?_
        exact s_ret (tk (n := 17) t277_0 rfl) rfl rfl rfl
      · refine s_iload (pc1 := 28) (tk (n := 12) t277_0 rfl) rfl rfl rfl ?_
        refine s_iload (pc1 := 30) (tk (n := 13) t277_0 rfl) rfl rfl rfl ?_
        refine s_callS0 (as := [(0, x6), (0, x7)]) (st1 := []) (p1 := 33) (M2 := 275) (tk (n := 14) t277_0 rfl) rfl rfl rfl rfl rfl (fun r15 => ?_)
        refine s_if_ne (pc1 := 36) (pt := 40) (tk (n := 15) t277_0 rfl) rfl rfl rfl ?_ ?_
        · refine s_aload_n (pc1 := 41) (tk (n := 18) t277_0 rfl) rfl rfl rfl ?_
          refine s_iload (pc1 := 43) (tk (n := 19) t277_0 rfl) rfl rfl rfl ?_
          refine s_iload (pc1 := 45) (tk (n := 20) t277_0 rfl) rfl rfl rfl ?_
          refine s_iload (pc1 := 47) (tk (n := 21) t277_0 rfl) rfl rfl rfl ?_
          refine s_iload (pc1 := 49) (tk (n := 22) t277_0 rfl) rfl rfl rfl ?_
          refine s_iconst (pc1 := 50) (tk (n := 23) t277_0 rfl) rfl rfl  ?_
          refine s_call0 (as := [(2, x0), (0, x4), (0, x5), (0, x6), (0, x7), (0, 0)]) (st1 := []) (p1 := 53) (M2 := 276) (tk (n := 24) t277_0 rfl) rfl rfl rfl rfl rfl (fun r23 => ?_)
          refine s_istore (pc1 := 55) (ls1 := [(2, x0), (0, x1), (0, x2), (0, x3), (0, x4), (0, x5), (0, x6), (0, x7), (0, vx r23), (9, 0), (9, 0), (9, 0), (9, 0), (9, 0)]) (tk (n := 25) t277_0 rfl) rfl rfl rfl rfl ?_
          refine s_aload_n (pc1 := 56) (tk (n := 26) t277_0 rfl) rfl rfl rfl ?_
          refine s_iload_n (pc1 := 57) (tk (n := 27) t277_0 rfl) rfl rfl rfl ?_
          refine s_iconst (pc1 := 58) (tk (n := 28) t277_0 rfl) rfl rfl  ?_
          refine s_call0 (as := [(2, x0), (0, x1), (0, 4)]) (st1 := []) (p1 := 61) (M2 := 234) (tk (n := 29) t277_0 rfl) rfl rfl rfl rfl rfl (fun r28 => ?_)
          refine s_iconst (pc1 := 62) (tk (n := 0) t277_1 rfl) rfl rfl  ?_
          refine s_isub (pc1 := 63) (tk (n := 1) t277_1 rfl) rfl rfl  ?_
          refine s_aload_n (pc1 := 64) (tk (n := 2) t277_1 rfl) rfl rfl rfl ?_
          refine s_iload (pc1 := 66) (tk (n := 3) t277_1 rfl) rfl rfl rfl ?_
          refine s_iload (pc1 := 68) (tk (n := 4) t277_1 rfl) rfl rfl rfl ?_
          refine s_iload (pc1 := 70) (tk (n := 5) t277_1 rfl) rfl rfl rfl ?_
          refine s_iload (pc1 := 72) (tk (n := 6) t277_1 rfl) rfl rfl rfl ?_
          refine s_iconst (pc1 := 73) (tk (n := 7) t277_1 rfl) rfl rfl  ?_
          refine s_call0 (as := [(2, x0), (0, x4), (0, x5), (0, x6), (0, x7), (0, 3)]) (st1 := [(0, w32 ((vx r28) - 1))]) (p1 := 76) (M2 := 276) (tk (n := 8) t277_1 rfl) rfl rfl rfl rfl rfl (fun r37 => ?_)
          refine s_callS0 (as := [(0, w32 ((vx r28) - 1)), (0, vx r37)]) (st1 := []) (p1 := 79) (M2 := 167) (tk (n := 9) t277_1 rfl) rfl rfl rfl rfl rfl (fun r38 => ?_)
          refine s_istore (pc1 := 81) (ls1 := [(2, x0), (0, x1), (0, x2), (0, x3), (0, x4), (0, x5), (0, x6), (0, x7), (0, vx r23), (0, vx r38), (9, 0), (9, 0), (9, 0), (9, 0)]) (tk (n := 10) t277_1 rfl) rfl rfl rfl rfl ?_
          refine s_aload_n (pc1 := 82) (tk (n := 11) t277_1 rfl) rfl rfl rfl ?_
          refine s_iload (pc1 := 84) (tk (n := 12) t277_1 rfl) rfl rfl rfl ?_
          refine s_iload (pc1 := 86) (tk (n := 13) t277_1 rfl) rfl rfl rfl ?_
          refine s_iload (pc1 := 88) (tk (n := 14) t277_1 rfl) rfl rfl rfl ?_
          refine s_iload (pc1 := 90) (tk (n := 15) t277_1 rfl) rfl rfl rfl ?_
          refine s_iconst (pc1 := 91) (tk (n := 16) t277_1 rfl) rfl rfl  ?_
          refine s_call0 (as := [(2, x0), (0, x4), (0, x5), (0, x6), (0, x7), (0, 2)]) (st1 := []) (p1 := 94) (M2 := 276) (tk (n := 17) t277_1 rfl) rfl rfl rfl rfl rfl (fun r46 => ?_)
          refine s_iconst (pc1 := 95) (tk (n := 18) t277_1 rfl) rfl rfl  ?_
          refine s_ic_ne (pc1 := 98) (pt := 102) (tk (n := 19) t277_1 rfl) rfl rfl rfl ?_ ?_
          · refine s_iconst (pc1 := 103) (tk (n := 22) t277_1 rfl) rfl rfl  ?_
            refine s_istore (pc1 := 105) (ls1 := [(2, x0), (0, x1), (0, x2), (0, x3), (0, x4), (0, x5), (0, x6), (0, x7), (0, vx r23), (0, vx r38), (0, 0), (9, 0), (9, 0), (9, 0)]) (tk (n := 23) t277_1 rfl) rfl rfl rfl rfl ?_
            refine s_iconst (pc1 := 106) (tk (n := 24) t277_1 rfl) rfl rfl  ?_
            refine s_istore (pc1 := 108) (ls1 := [(2, x0), (0, x1), (0, x2), (0, x3), (0, x4), (0, x5), (0, x6), (0, x7), (0, vx r23), (0, vx r38), (0, 0), (0, 0), (9, 0), (9, 0)]) (tk (n := 25) t277_1 rfl) rfl rfl rfl rfl ?_
            refine s_iconst (pc1 := 109) (tk (n := 26) t277_1 rfl) rfl rfl  ?_
            refine s_istore (pc1 := 111) (ls1 := [(2, x0), (0, x1), (0, x2), (0, x3), (0, x4), (0, x5), (0, x6), (0, x7), (0, vx r23), (0, vx r38), (0, 0), (0, 0), (0, 0), (9, 0)]) (tk (n := 27) t277_1 rfl) rfl rfl rfl rfl ?_
            rfl
          · refine s_iconst (pc1 := 99) (tk (n := 20) t277_1 rfl) rfl rfl  ?_
            refine s_goto (pc1 := 103) (tk (n := 21) t277_1 rfl) rfl rfl ?_
            refine s_istore (pc1 := 105) (ls1 := [(2, x0), (0, x1), (0, x2), (0, x3), (0, x4), (0, x5), (0, x6), (0, x7), (0, vx r23), (0, vx r38), (0, 1), (9, 0), (9, 0), (9, 0)]) (tk (n := 23) t277_1 rfl) rfl rfl rfl rfl ?_
            refine s_iconst (pc1 := 106) (tk (n := 24) t277_1 rfl) rfl rfl  ?_
            refine s_istore (pc1 := 108) (ls1 := [(2, x0), (0, x1), (0, x2), (0, x3), (0, x4), (0, x5), (0, x6), (0, x7), (0, vx r23), (0, vx r38), (0, 1), (0, 0), (9, 0), (9, 0)]) (tk (n := 25) t277_1 rfl) rfl rfl rfl rfl ?_
            refine s_iconst (pc1 := 109) (tk (n := 26) t277_1 rfl) rfl rfl  ?_
            refine s_istore (pc1 := 111) (ls1 := [(2, x0), (0, x1), (0, x2), (0, x3), (0, x4), (0, x5), (0, x6), (0, x7), (0, vx r23), (0, vx r38), (0, 1), (0, 0), (0, 0), (9, 0)]) (tk (n := 27) t277_1 rfl) rfl rfl rfl rfl ?_
            rfl
        · refine s_ldcw (pc1 := 39) (tk (n := 16) t277_0 rfl) rfl rfl  ?_
          exact s_ret (tk (n := 17) t277_0 rfl) rfl rfl rfl
set_option maxRecDepth 100000 in
set_option maxHeartbeats 4000000 in
theorem e_X12_filtered_111 (x0 : Int) (x1 : Int) (x2 : Int) (x3 : Int) (x4 : Int) (x5 : Int) (x6 : Int) (x7 : Int) (x8 : Int) (x9 : Int) (x10 : Int) (x11 : Int) (x12 : Int) (z13 : Vl) (h : Hq) : vp 277 111 [(2, x0), (0, x1), (0, x2), (0, x3), (0, x4), (0, x5), (0, x6), (0, x7), (0, x8), (0, x9), (0, x10), (0, x11), (0, x12), z13] [] h = if x12 ≥ x8 then (if x8 ≠ 0 then some (some (0, w32 (x11.tdiv x8)), h) else none) else (if x10 = 0 then (if (w32 (2 * x8)) ≠ 0 then if x10 = 0 then (if (w32 (2 * x8)) ≠ 0 then if 0 < x0 ∧ (kd x0).1 = 12 then (vm 268 [(2, x0), (0, x1), (0, x9), (0, w32 (x2 + (w32 ((w32 (x4 * (w32 ((w32 ((w32 (2 * x12)) + 1)) - x8)))).tdiv (w32 (2 * x8)))))), (0, w32 (x3 + (w32 ((w32 (x5 * (w32 ((w32 ((w32 (2 * x12)) + 1)) - x8)))).tdiv (w32 (2 * x8))))))] h).bind (fun r38 => vp 277 111 [(2, x0), (0, x1), (0, x2), (0, x3), (0, x4), (0, x5), (0, x6), (0, x7), (0, x8), (0, x9), (0, x10), (0, w32 (x11 + (vx r38))), (0, w32 (x12 + 1)), (0, w32 ((w32 ((w32 (2 * x12)) + 1)) - x8))] [] r38.2) else none else none) else (if (w32 (2 * x8)) ≠ 0 then if 0 < x0 ∧ (kd x0).1 = 12 then (vm 268 [(2, x0), (0, x1), (0, x9), (0, w32 (x2 + (w32 ((w32 (x4 * (w32 ((w32 ((w32 (2 * x12)) + 1)) - x8)))).tdiv (w32 (2 * x8)))))), (0, w32 (x3 + (w32 ((w32 (x7 * (w32 ((w32 ((w32 (2 * x12)) + 1)) - x8)))).tdiv (w32 (2 * x8))))))] h).bind (fun r39 => vp 277 111 [(2, x0), (0, x1), (0, x2), (0, x3), (0, x4), (0, x5), (0, x6), (0, x7), (0, x8), (0, x9), (0, x10), (0, w32 (x11 + (vx r39))), (0, w32 (x12 + 1)), (0, w32 ((w32 ((w32 (2 * x12)) + 1)) - x8))] [] r39.2) else none else none) else none) else (if (w32 (2 * x8)) ≠ 0 then if x10 = 0 then (if (w32 (2 * x8)) ≠ 0 then if 0 < x0 ∧ (kd x0).1 = 12 then (vm 268 [(2, x0), (0, x1), (0, x9), (0, w32 (x2 + (w32 ((w32 (x6 * (w32 ((w32 ((w32 (2 * x12)) + 1)) - x8)))).tdiv (w32 (2 * x8)))))), (0, w32 (x3 + (w32 ((w32 (x5 * (w32 ((w32 ((w32 (2 * x12)) + 1)) - x8)))).tdiv (w32 (2 * x8))))))] h).bind (fun r39 => vp 277 111 [(2, x0), (0, x1), (0, x2), (0, x3), (0, x4), (0, x5), (0, x6), (0, x7), (0, x8), (0, x9), (0, x10), (0, w32 (x11 + (vx r39))), (0, w32 (x12 + 1)), (0, w32 ((w32 ((w32 (2 * x12)) + 1)) - x8))] [] r39.2) else none else none) else (if (w32 (2 * x8)) ≠ 0 then if 0 < x0 ∧ (kd x0).1 = 12 then (vm 268 [(2, x0), (0, x1), (0, x9), (0, w32 (x2 + (w32 ((w32 (x6 * (w32 ((w32 ((w32 (2 * x12)) + 1)) - x8)))).tdiv (w32 (2 * x8)))))), (0, w32 (x3 + (w32 ((w32 (x7 * (w32 ((w32 ((w32 (2 * x12)) + 1)) - x8)))).tdiv (w32 (2 * x8))))))] h).bind (fun r40 => vp 277 111 [(2, x0), (0, x1), (0, x2), (0, x3), (0, x4), (0, x5), (0, x6), (0, x7), (0, x8), (0, x9), (0, x10), (0, w32 (x11 + (vx r40))), (0, w32 (x12 + 1)), (0, w32 ((w32 ((w32 (2 * x12)) + 1)) - x8))] [] r40.2) else none else none) else none)) := by
  refine s_fg (ls1 := [(2, x0), (0, x1), (0, x2), (0, x3), (0, x4), (0, x5), (0, x6), (0, x7), (0, x8), (0, x9), (0, x10), (0, x11), (0, x12), (9, 0)]) (tk (n := 28) t277_1 rfl) rfl ?_
  refine s_iload (pc1 := 113) (tk (n := 28) t277_1 rfl) rfl rfl rfl ?_
  refine s_iload (pc1 := 115) (tk (n := 29) t277_1 rfl) rfl rfl rfl ?_
  refine s_ic_ge (pc1 := 118) (pt := 191) (tk (n := 0) t277_2 rfl) rfl rfl rfl ?_ ?_
  · refine s_iload (pc1 := 193) (tk (n := 14) t277_3 rfl) rfl rfl rfl ?_
    refine s_iload (pc1 := 195) (tk (n := 15) t277_3 rfl) rfl rfl rfl ?_
    refine s_idiv (pc1 := 196) (tk (n := 16) t277_3 rfl) rfl rfl  ?_
    exact s_ret (tk (n := 17) t277_3 rfl) rfl rfl rfl
  · refine s_iconst (pc1 := 119) (tk (n := 1) t277_2 rfl) rfl rfl  ?_
    refine s_iload (pc1 := 121) (tk (n := 2) t277_2 rfl) rfl rfl rfl ?_
    refine s_imul (pc1 := 122) (tk (n := 3) t277_2 rfl) rfl rfl  ?_
    refine s_iconst (pc1 := 123) (tk (n := 4) t277_2 rfl) rfl rfl  ?_
    refine s_iadd (pc1 := 124) (tk (n := 5) t277_2 rfl) rfl rfl  ?_
    refine s_iload (pc1 := 126) (tk (n := 6) t277_2 rfl) rfl rfl rfl ?_
    refine s_isub (pc1 := 127) (tk (n := 7) t277_2 rfl) rfl rfl  ?_
    refine s_istore (pc1 := 129) (ls1 := [(2, x0), (0, x1), (0, x2), (0, x3), (0, x4), (0, x5), (0, x6), (0, x7), (0, x8), (0, x9), (0, x10), (0, x11), (0, x12), (0, w32 ((w32 ((w32 (2 * x12)) + 1)) - x8))]) (tk (n := 8) t277_2 rfl) rfl rfl rfl rfl ?_
    refine s_iload (pc1 := 131) (tk (n := 9) t277_2 rfl) rfl rfl rfl ?_
    refine s_aload_n (pc1 := 132) (tk (n := 10) t277_2 rfl) rfl rfl rfl ?_
    refine s_iload_n (pc1 := 133) (tk (n := 11) t277_2 rfl) rfl rfl rfl ?_
    refine s_iload (pc1 := 135) (tk (n := 12) t277_2 rfl) rfl rfl rfl ?_
    refine s_iload_n (pc1 := 136) (tk (n := 13) t277_2 rfl) rfl rfl rfl ?_
    refine s_iload (pc1 := 138) (tk (n := 14) t277_2 rfl) rfl rfl rfl ?_
    refine s_if_eq (pc1 := 141) (pt := 146) (tk (n := 15) t277_2 rfl) rfl rfl rfl ?_ ?_
    · refine s_iload (pc1 := 148) (tk (n := 18) t277_2 rfl) rfl rfl rfl ?_
      refine s_iload (pc1 := 150) (tk (n := 19) t277_2 rfl) rfl rfl rfl ?_
      refine s_imul (pc1 := 151) (tk (n := 20) t277_2 rfl) rfl rfl  ?_
      refine s_iconst (pc1 := 152) (tk (n := 21) t277_2 rfl) rfl rfl  ?_
      refine s_iload (pc1 := 154) (tk (n := 22) t277_2 rfl) rfl rfl rfl ?_
      refine s_imul (pc1 := 155) (tk (n := 23) t277_2 rfl) rfl rfl  ?_
      refine s_idiv (pc1 := 156) (tk (n := 24) t277_2 rfl) rfl rfl  ?_
      refine s_iadd (pc1 := 157) (tk (n := 25) t277_2 rfl) rfl rfl  ?_
      refine s_iload_n (pc1 := 158) (tk (n := 26) t277_2 rfl) rfl rfl rfl ?_
      refine s_iload (pc1 := 160) (tk (n := 27) t277_2 rfl) rfl rfl rfl ?_
      refine s_if_eq (pc1 := 163) (pt := 168) (tk (n := 28) t277_2 rfl) rfl rfl rfl ?_ ?_
      · refine s_iload (pc1 := 170) (tk (n := 1) t277_3 rfl) rfl rfl rfl ?_
        refine s_iload (pc1 := 172) (tk (n := 2) t277_3 rfl) rfl rfl rfl ?_
        refine s_imul (pc1 := 173) (tk (n := 3) t277_3 rfl) rfl rfl  ?_
        refine s_iconst (pc1 := 174) (tk (n := 4) t277_3 rfl) rfl rfl  ?_
        refine s_iload (pc1 := 176) (tk (n := 5) t277_3 rfl) rfl rfl rfl ?_
        refine s_imul (pc1 := 177) (tk (n := 6) t277_3 rfl) rfl rfl  ?_
        refine s_idiv (pc1 := 178) (tk (n := 7) t277_3 rfl) rfl rfl  ?_
        refine s_iadd (pc1 := 179) (tk (n := 8) t277_3 rfl) rfl rfl  ?_
        refine s_call0 (as := [(2, x0), (0, x1), (0, x9), (0, w32 (x2 + (w32 ((w32 (x4 * (w32 ((w32 ((w32 (2 * x12)) + 1)) - x8)))).tdiv (w32 (2 * x8)))))), (0, w32 (x3 + (w32 ((w32 (x5 * (w32 ((w32 ((w32 (2 * x12)) + 1)) - x8)))).tdiv (w32 (2 * x8))))))]) (st1 := [(0, x11)]) (p1 := 182) (M2 := 268) (tk (n := 9) t277_3 rfl) rfl rfl rfl rfl rfl (fun r38 => ?_)
        refine s_iadd (pc1 := 183) (tk (n := 10) t277_3 rfl) rfl rfl  ?_
        refine s_istore (pc1 := 185) (ls1 := [(2, x0), (0, x1), (0, x2), (0, x3), (0, x4), (0, x5), (0, x6), (0, x7), (0, x8), (0, x9), (0, x10), (0, w32 (x11 + (vx r38))), (0, x12), (0, w32 ((w32 ((w32 (2 * x12)) + 1)) - x8))]) (tk (n := 11) t277_3 rfl) rfl rfl rfl rfl ?_
        refine s_iinc (pc1 := 188) (ls1 := [(2, x0), (0, x1), (0, x2), (0, x3), (0, x4), (0, x5), (0, x6), (0, x7), (0, x8), (0, x9), (0, x10), (0, w32 (x11 + (vx r38))), (0, w32 (x12 + 1)), (0, w32 ((w32 ((w32 (2 * x12)) + 1)) - x8))]) (tk (n := 12) t277_3 rfl) rfl rfl rfl rfl ?_
        refine s_goto (pc1 := 111) (tk (n := 13) t277_3 rfl) rfl rfl ?_
        rfl
      · refine s_iload (pc1 := 165) (tk (n := 29) t277_2 rfl) rfl rfl rfl ?_
        refine s_goto (pc1 := 170) (tk (n := 0) t277_3 rfl) rfl rfl ?_
        refine s_iload (pc1 := 172) (tk (n := 2) t277_3 rfl) rfl rfl rfl ?_
        refine s_imul (pc1 := 173) (tk (n := 3) t277_3 rfl) rfl rfl  ?_
        refine s_iconst (pc1 := 174) (tk (n := 4) t277_3 rfl) rfl rfl  ?_
        refine s_iload (pc1 := 176) (tk (n := 5) t277_3 rfl) rfl rfl rfl ?_
        refine s_imul (pc1 := 177) (tk (n := 6) t277_3 rfl) rfl rfl  ?_
        refine s_idiv (pc1 := 178) (tk (n := 7) t277_3 rfl) rfl rfl  ?_
        refine s_iadd (pc1 := 179) (tk (n := 8) t277_3 rfl) rfl rfl  ?_
        refine s_call0 (as := [(2, x0), (0, x1), (0, x9), (0, w32 (x2 + (w32 ((w32 (x4 * (w32 ((w32 ((w32 (2 * x12)) + 1)) - x8)))).tdiv (w32 (2 * x8)))))), (0, w32 (x3 + (w32 ((w32 (x7 * (w32 ((w32 ((w32 (2 * x12)) + 1)) - x8)))).tdiv (w32 (2 * x8))))))]) (st1 := [(0, x11)]) (p1 := 182) (M2 := 268) (tk (n := 9) t277_3 rfl) rfl rfl rfl rfl rfl (fun r39 => ?_)
        refine s_iadd (pc1 := 183) (tk (n := 10) t277_3 rfl) rfl rfl  ?_
        refine s_istore (pc1 := 185) (ls1 := [(2, x0), (0, x1), (0, x2), (0, x3), (0, x4), (0, x5), (0, x6), (0, x7), (0, x8), (0, x9), (0, x10), (0, w32 (x11 + (vx r39))), (0, x12), (0, w32 ((w32 ((w32 (2 * x12)) + 1)) - x8))]) (tk (n := 11) t277_3 rfl) rfl rfl rfl rfl ?_
        refine s_iinc (pc1 := 188) (ls1 := [(2, x0), (0, x1), (0, x2), (0, x3), (0, x4), (0, x5), (0, x6), (0, x7), (0, x8), (0, x9), (0, x10), (0, w32 (x11 + (vx r39))), (0, w32 (x12 + 1)), (0, w32 ((w32 ((w32 (2 * x12)) + 1)) - x8))]) (tk (n := 12) t277_3 rfl) rfl rfl rfl rfl ?_
        refine s_goto (pc1 := 111) (tk (n := 13) t277_3 rfl) rfl rfl ?_
        rfl
    · refine s_iload (pc1 := 143) (tk (n := 16) t277_2 rfl) rfl rfl rfl ?_
      refine s_goto (pc1 := 148) (tk (n := 17) t277_2 rfl) rfl rfl ?_
      refine s_iload (pc1 := 150) (tk (n := 19) t277_2 rfl) rfl rfl rfl ?_
      refine s_imul (pc1 := 151) (tk (n := 20) t277_2 rfl) rfl rfl  ?_
      refine s_iconst (pc1 := 152) (tk (n := 21) t277_2 rfl) rfl rfl  ?_
      refine s_iload (pc1 := 154) (tk (n := 22) t277_2 rfl) rfl rfl rfl ?_
      refine s_imul (pc1 := 155) (tk (n := 23) t277_2 rfl) rfl rfl  ?_
      refine s_idiv (pc1 := 156) (tk (n := 24) t277_2 rfl) rfl rfl  ?_
      refine s_iadd (pc1 := 157) (tk (n := 25) t277_2 rfl) rfl rfl  ?_
      refine s_iload_n (pc1 := 158) (tk (n := 26) t277_2 rfl) rfl rfl rfl ?_
      refine s_iload (pc1 := 160) (tk (n := 27) t277_2 rfl) rfl rfl rfl ?_
      refine s_if_eq (pc1 := 163) (pt := 168) (tk (n := 28) t277_2 rfl) rfl rfl rfl ?_ ?_
      · refine s_iload (pc1 := 170) (tk (n := 1) t277_3 rfl) rfl rfl rfl ?_
        refine s_iload (pc1 := 172) (tk (n := 2) t277_3 rfl) rfl rfl rfl ?_
        refine s_imul (pc1 := 173) (tk (n := 3) t277_3 rfl) rfl rfl  ?_
        refine s_iconst (pc1 := 174) (tk (n := 4) t277_3 rfl) rfl rfl  ?_
        refine s_iload (pc1 := 176) (tk (n := 5) t277_3 rfl) rfl rfl rfl ?_
        refine s_imul (pc1 := 177) (tk (n := 6) t277_3 rfl) rfl rfl  ?_
        refine s_idiv (pc1 := 178) (tk (n := 7) t277_3 rfl) rfl rfl  ?_
        refine s_iadd (pc1 := 179) (tk (n := 8) t277_3 rfl) rfl rfl  ?_
        refine s_call0 (as := [(2, x0), (0, x1), (0, x9), (0, w32 (x2 + (w32 ((w32 (x6 * (w32 ((w32 ((w32 (2 * x12)) + 1)) - x8)))).tdiv (w32 (2 * x8)))))), (0, w32 (x3 + (w32 ((w32 (x5 * (w32 ((w32 ((w32 (2 * x12)) + 1)) - x8)))).tdiv (w32 (2 * x8))))))]) (st1 := [(0, x11)]) (p1 := 182) (M2 := 268) (tk (n := 9) t277_3 rfl) rfl rfl rfl rfl rfl (fun r39 => ?_)
        refine s_iadd (pc1 := 183) (tk (n := 10) t277_3 rfl) rfl rfl  ?_
        refine s_istore (pc1 := 185) (ls1 := [(2, x0), (0, x1), (0, x2), (0, x3), (0, x4), (0, x5), (0, x6), (0, x7), (0, x8), (0, x9), (0, x10), (0, w32 (x11 + (vx r39))), (0, x12), (0, w32 ((w32 ((w32 (2 * x12)) + 1)) - x8))]) (tk (n := 11) t277_3 rfl) rfl rfl rfl rfl ?_
        refine s_iinc (pc1 := 188) (ls1 := [(2, x0), (0, x1), (0, x2), (0, x3), (0, x4), (0, x5), (0, x6), (0, x7), (0, x8), (0, x9), (0, x10), (0, w32 (x11 + (vx r39))), (0, w32 (x12 + 1)), (0, w32 ((w32 ((w32 (2 * x12)) + 1)) - x8))]) (tk (n := 12) t277_3 rfl) rfl rfl rfl rfl ?_
        refine s_goto (pc1 := 111) (tk (n := 13) t277_3 rfl) rfl rfl ?_
        rfl
      · refine s_iload (pc1 := 165) (tk (n := 29) t277_2 rfl) rfl rfl rfl ?_
        refine s_goto (pc1 := 170) (tk (n := 0) t277_3 rfl) rfl rfl ?_
        refine s_iload (pc1 := 172) (tk (n := 2) t277_3 rfl) rfl rfl rfl ?_
        refine s_imul (pc1 := 173) (tk (n := 3) t277_3 rfl) rfl rfl  ?_
        refine s_iconst (pc1 := 174) (tk (n := 4) t277_3 rfl) rfl rfl  ?_
        refine s_iload (pc1 := 176) (tk (n := 5) t277_3 rfl) rfl rfl rfl ?_
        refine s_imul (pc1 := 177) (tk (n := 6) t277_3 rfl) rfl rfl  ?_
        refine s_idiv (pc1 := 178) (tk (n := 7) t277_3 rfl) rfl rfl  ?_
        refine s_iadd (pc1 := 179) (tk (n := 8) t277_3 rfl) rfl rfl  ?_
        refine s_call0 (as := [(2, x0), (0, x1), (0, x9), (0, w32 (x2 + (w32 ((w32 (x6 * (w32 ((w32 ((w32 (2 * x12)) + 1)) - x8)))).tdiv (w32 (2 * x8)))))), (0, w32 (x3 + (w32 ((w32 (x7 * (w32 ((w32 ((w32 (2 * x12)) + 1)) - x8)))).tdiv (w32 (2 * x8))))))]) (st1 := [(0, x11)]) (p1 := 182) (M2 := 268) (tk (n := 9) t277_3 rfl) rfl rfl rfl rfl rfl (fun r40 => ?_)
        refine s_iadd (pc1 := 183) (tk (n := 10) t277_3 rfl) rfl rfl  ?_
        refine s_istore (pc1 := 185) (ls1 := [(2, x0), (0, x1), (0, x2), (0, x3), (0, x4), (0, x5), (0, x6), (0, x7), (0, x8), (0, x9), (0, x10), (0, w32 (x11 + (vx r40))), (0, x12), (0, w32 ((w32 ((w32 (2 * x12)) + 1)) - x8))]) (tk (n := 11) t277_3 rfl) rfl rfl rfl rfl ?_
        refine s_iinc (pc1 := 188) (ls1 := [(2, x0), (0, x1), (0, x2), (0, x3), (0, x4), (0, x5), (0, x6), (0, x7), (0, x8), (0, x9), (0, x10), (0, w32 (x11 + (vx r40))), (0, w32 (x12 + 1)), (0, w32 ((w32 ((w32 (2 * x12)) + 1)) - x8))]) (tk (n := 12) t277_3 rfl) rfl rfl rfl rfl ?_
        refine s_goto (pc1 := 111) (tk (n := 13) t277_3 rfl) rfl rfl ?_
        rfl
set_option maxRecDepth 100000 in
set_option maxHeartbeats 4000000 in
theorem e_X12_choice (x0 : Int) (x1 : Int) (x2 : Int) (h : Hq) : vm 278 [(0, x0), (0, x1), (0, x2)] h = if x2 ≥ 2 then (if x0 ≤ x1 then (if x2 ≠ 2 then (some (some (0, 0), h)) else (some (some (0, w32 ((w32 (x0 + x1)).tdiv 2)), h))) else (if x2 ≠ 2 then (some (some (0, w32 ((w32 (x0 + (w32 (2 * x1)))).tdiv 3)), h)) else (some (some (0, w32 ((w32 ((w32 (2 * x0)) + x1)).tdiv 3)), h)))) else (if x2 ≠ 0 then (some (some (0, x1), h)) else (some (some (0, x0), h))) := by
  show vp 278 0 [(0, x0), (0, x1), (0, x2)] [] h = _
  refine s_iload_n (pc1 := 1) (tk (n := 0) t278_0 rfl) rfl rfl rfl ?_
  refine s_iconst (pc1 := 2) (tk (n := 1) t278_0 rfl) rfl rfl  ?_
  refine s_ic_ge (pc1 := 5) (pt := 15) (tk (n := 2) t278_0 rfl) rfl rfl rfl ?_ ?_
  · refine s_iload_n (pc1 := 16) (tk (n := 9) t278_0 rfl) rfl rfl rfl ?_
    refine s_iload_n (pc1 := 17) (tk (n := 10) t278_0 rfl) rfl rfl rfl ?_
    refine s_ic_le (pc1 := 20) (pt := 43) (tk (n := 11) t278_0 rfl) rfl rfl rfl ?_ ?_
    · refine s_iload_n (pc1 := 44) (tk (n := 1) t278_1 rfl) rfl rfl rfl ?_
      refine s_iconst (pc1 := 45) (tk (n := 2) t278_1 rfl) rfl rfl  ?_
      refine s_ic_ne (pc1 := 48) (pt := 56) (tk (n := 3) t278_1 rfl) rfl rfl rfl ?_ ?_
      · refine s_iconst (pc1 := 57) (tk (n := 10) t278_1 rfl) rfl rfl  ?_
        exact s_ret (tk (n := 11) t278_1 rfl) rfl rfl rfl
      · refine s_iload_n (pc1 := 49) (tk (n := 4) t278_1 rfl) rfl rfl rfl ?_
        refine s_iload_n (pc1 := 50) (tk (n := 5) t278_1 rfl) rfl rfl rfl ?_
        refine s_iadd (pc1 := 51) (tk (n := 6) t278_1 rfl) rfl rfl  ?_
        refine s_iconst (pc1 := 52) (tk (n := 7) t278_1 rfl) rfl rfl  ?_
        refine s_idivc (pc1 := 53) (tk (n := 8) t278_1 rfl) rfl rfl (by decide) ?_
        refine s_goto (pc1 := 57) (tk (n := 9) t278_1 rfl) rfl rfl ?_
        exact s_ret (tk (n := 11) t278_1 rfl) rfl rfl rfl
    · refine s_iload_n (pc1 := 21) (tk (n := 12) t278_0 rfl) rfl rfl rfl ?_
      refine s_iconst (pc1 := 22) (tk (n := 13) t278_0 rfl) rfl rfl  ?_
      refine s_ic_ne (pc1 := 25) (pt := 35) (tk (n := 14) t278_0 rfl) rfl rfl rfl ?_ ?_
      · refine s_iload_n (pc1 := 36) (tk (n := 23) t278_0 rfl) rfl rfl rfl ?_
        refine s_iconst (pc1 := 37) (tk (n := 24) t278_0 rfl) rfl rfl  ?_
        refine s_iload_n (pc1 := 38) (tk (n := 25) t278_0 rfl) rfl rfl rfl ?_
        refine s_imul (pc1 := 39) (tk (n := 26) t278_0 rfl) rfl rfl  ?_
        refine s_iadd (pc1 := 40) (tk (n := 27) t278_0 rfl) rfl rfl  ?_
        refine s_iconst (pc1 := 41) (tk (n := 28) t278_0 rfl) rfl rfl  ?_
        refine s_idivc (pc1 := 42) (tk (n := 29) t278_0 rfl) rfl rfl (by decide) ?_
        exact s_ret (tk (n := 0) t278_1 rfl) rfl rfl rfl
      · refine s_iconst (pc1 := 26) (tk (n := 15) t278_0 rfl) rfl rfl  ?_
        refine s_iload_n (pc1 := 27) (tk (n := 16) t278_0 rfl) rfl rfl rfl ?_
        refine s_imul (pc1 := 28) (tk (n := 17) t278_0 rfl) rfl rfl  ?_
        refine s_iload_n (pc1 := 29) (tk (n := 18) t278_0 rfl) rfl rfl rfl ?_
        refine s_iadd (pc1 := 30) (tk (n := 19) t278_0 rfl) rfl rfl  ?_
        refine s_iconst (pc1 := 31) (tk (n := 20) t278_0 rfl) rfl rfl  ?_
        refine s_idivc (pc1 := 32) (tk (n := 21) t278_0 rfl) rfl rfl (by decide) ?_
        refine s_goto (pc1 := 42) (tk (n := 22) t278_0 rfl) rfl rfl ?_
        exact s_ret (tk (n := 0) t278_1 rfl) rfl rfl rfl
  · refine s_iload_n (pc1 := 6) (tk (n := 3) t278_0 rfl) rfl rfl rfl ?_
    refine s_if_ne (pc1 := 9) (pt := 13) (tk (n := 4) t278_0 rfl) rfl rfl rfl ?_ ?_
    · refine s_iload_n (pc1 := 14) (tk (n := 7) t278_0 rfl) rfl rfl rfl ?_
      exact s_ret (tk (n := 8) t278_0 rfl) rfl rfl rfl
    · refine s_iload_n (pc1 := 10) (tk (n := 5) t278_0 rfl) rfl rfl rfl ?_
      refine s_goto (pc1 := 14) (tk (n := 6) t278_0 rfl) rfl rfl ?_
      exact s_ret (tk (n := 8) t278_0 rfl) rfl rfl rfl
set_option maxRecDepth 100000 in
set_option maxHeartbeats 4000000 in
theorem e_X12_endOf (x0 : Int) (x2 : Int) (h : Hq) : vm 279 [(1, x0), (0, x2)] h = some (some (0, w32 (lband (lbshr x0 (w32 (16 * x2))) 65535)), h) := by
  show vp 279 0 [(1, x0), (9, 0), (0, x2)] [] h = _
  refine s_lload_n (pc1 := 1) (tk (n := 0) t279_0 rfl) rfl rfl rfl ?_
  refine s_bipush (pc1 := 3) (tk (n := 1) t279_0 rfl) rfl rfl  ?_
  refine s_iload_n (pc1 := 4) (tk (n := 2) t279_0 rfl) rfl rfl rfl ?_
  refine s_imul (pc1 := 5) (tk (n := 3) t279_0 rfl) rfl rfl  ?_
  refine s_lshr (pc1 := 6) (tk (n := 4) t279_0 rfl) rfl rfl  ?_
  refine s_ldc2 (pc1 := 9) (tk (n := 5) t279_0 rfl) rfl rfl  ?_
  refine s_land (pc1 := 10) (tk (n := 6) t279_0 rfl) rfl rfl  ?_
  refine s_l2i (pc1 := 11) (tk (n := 7) t279_0 rfl) rfl rfl  ?_
  exact s_ret (tk (n := 8) t279_0 rfl) rfl rfl rfl
set_option maxRecDepth 100000 in
set_option maxHeartbeats 4000000 in
theorem e_X12_unpack (x0 : Int) (x1 : Int) (x3 : Int) (x4 : Int) (h : Hq) : vm 280 [(2, x0), (1, x1), (0, x3), (0, x4)] h = (vm 165 [(0, x3), (0, 0), (0, 3)] h).bind (fun r4 => if (vx r4) = 0 then (some (some (0, (-1)), r4.2)) else ((vm 165 [(0, x4), (0, 0), (0, 3)] r4.2).bind (fun r9 => if (vx r9) = 0 then (some (some (0, (-1)), r9.2)) else ((vm 279 [(1, x1), (0, 0)] r9.2).bind (fun r13 => (vm 279 [(1, x1), (0, 1)] r13.2).bind (fun r16 => (vm 278 [(0, vx r13), (0, vx r16), (0, w32 (lband (lbshr x1 (w32 (32 + (w32 (2 * (w32 ((w32 (4 * x4)) + x3))))))) 3))] r16.2).bind (fun r31 => some (some (0, vx r31), r31.2)))))))) := by
  show vp 280 0 [(2, x0), (1, x1), (9, 0), (0, x3), (0, x4)] [] h = _
  refine s_iload_n (pc1 := 1) (tk (n := 0) t280_0 rfl) rfl rfl rfl ?_
  refine s_iconst (pc1 := 2) (tk (n := 1) t280_0 rfl) rfl rfl  ?_
  refine s_iconst (pc1 := 3) (tk (n := 2) t280_0 rfl) rfl rfl  ?_
  refine s_callS0 (as := [(0, x3), (0, 0), (0, 3)]) (st1 := []) (p1 := 6) (M2 := 165) (tk (n := 3) t280_0 rfl) rfl rfl rfl rfl rfl (fun r4 => ?_)
  refine s_if_eq (pc1 := 9) (pt := 53) (tk (n := 4) t280_0 rfl) rfl rfl rfl ?_ ?_
  · refine s_iconst (pc1 := 54) (tk (n := 2) t280_1 rfl) rfl rfl  ?_
    exact s_ret (tk (n := 3) t280_1 rfl) rfl rfl rfl
  · refine s_iload (pc1 := 11) (tk (n := 5) t280_0 rfl) rfl rfl rfl ?_
    refine s_iconst (pc1 := 12) (tk (n := 6) t280_0 rfl) rfl rfl  ?_
    refine s_iconst (pc1 := 13) (tk (n := 7) t280_0 rfl) rfl rfl  ?_
    refine s_callS0 (as := [(0, x4), (0, 0), (0, 3)]) (st1 := []) (p1 := 16) (M2 := 165) (tk (n := 8) t280_0 rfl) rfl rfl rfl rfl rfl (fun r9 => ?_)
    refine s_if_eq (pc1 := 19) (pt := 53) (tk (n := 9) t280_0 rfl) rfl rfl rfl ?_ ?_
    · refine s_iconst (pc1 := 54) (tk (n := 2) t280_1 rfl) rfl rfl  ?_
      exact s_ret (tk (n := 3) t280_1 rfl) rfl rfl rfl
    · refine s_lload_n (pc1 := 20) (tk (n := 10) t280_0 rfl) rfl rfl rfl ?_
      refine s_iconst (pc1 := 21) (tk (n := 11) t280_0 rfl) rfl rfl  ?_
      refine s_callS0 (as := [(1, x1), (0, 0)]) (st1 := []) (p1 := 24) (M2 := 279) (tk (n := 12) t280_0 rfl) rfl rfl rfl rfl rfl (fun r13 => ?_)
      refine s_lload_n (pc1 := 25) (tk (n := 13) t280_0 rfl) rfl rfl rfl ?_
      refine s_iconst (pc1 := 26) (tk (n := 14) t280_0 rfl) rfl rfl  ?_
      refine s_callS0 (as := [(1, x1), (0, 1)]) (st1 := [(0, vx r13)]) (p1 := 29) (M2 := 279) (tk (n := 15) t280_0 rfl) rfl rfl rfl rfl rfl (fun r16 => ?_)
      refine s_lload_n (pc1 := 30) (tk (n := 16) t280_0 rfl) rfl rfl rfl ?_
      refine s_bipush (pc1 := 32) (tk (n := 17) t280_0 rfl) rfl rfl  ?_
      refine s_iconst (pc1 := 33) (tk (n := 18) t280_0 rfl) rfl rfl  ?_
      refine s_iconst (pc1 := 34) (tk (n := 19) t280_0 rfl) rfl rfl  ?_
      refine s_iload (pc1 := 36) (tk (n := 20) t280_0 rfl) rfl rfl rfl ?_
      refine s_imul (pc1 := 37) (tk (n := 21) t280_0 rfl) rfl rfl  ?_
      refine s_iload_n (pc1 := 38) (tk (n := 22) t280_0 rfl) rfl rfl rfl ?_
      refine s_iadd (pc1 := 39) (tk (n := 23) t280_0 rfl) rfl rfl  ?_
      refine s_imul (pc1 := 40) (tk (n := 24) t280_0 rfl) rfl rfl  ?_
      refine s_iadd (pc1 := 41) (tk (n := 25) t280_0 rfl) rfl rfl  ?_
      refine s_lshr (pc1 := 42) (tk (n := 26) t280_0 rfl) rfl rfl  ?_
      refine s_ldc2 (pc1 := 45) (tk (n := 27) t280_0 rfl) rfl rfl  ?_
      refine s_land (pc1 := 46) (tk (n := 28) t280_0 rfl) rfl rfl  ?_
      refine s_l2i (pc1 := 47) (tk (n := 29) t280_0 rfl) rfl rfl  ?_
      refine s_callS0 (as := [(0, vx r13), (0, vx r16), (0, w32 (lband (lbshr x1 (w32 (32 + (w32 (2 * (w32 ((w32 (4 * x4)) + x3))))))) 3))]) (st1 := []) (p1 := 50) (M2 := 278) (tk (n := 0) t280_1 rfl) rfl rfl rfl rfl rfl (fun r31 => ?_)
      refine s_goto (pc1 := 54) (tk (n := 1) t280_1 rfl) rfl rfl ?_
      exact s_ret (tk (n := 3) t280_1 rfl) rfl rfl rfl
set_option maxRecDepth 100000 in
set_option maxHeartbeats 4000000 in
theorem e_X12_heldTexel (x0 : Int) (x1 : Int) (x2 : Int) (x3 : Int) (x4 : Int) (h : Hq) : vm 281 [(2, x0), (0, x1), (0, x2), (0, x3), (0, x4)] h = if 0 < x0 ∧ (kd x0).1 = 12 then (vm 265 [(2, x0), (0, x1), (0, x2), (0, x3), (0, x4)] h).bind (fun r8 => (vm 166 [(0, 0), (0, vx r8)] r8.2).bind (fun r9 => (vm 167 [(0, 65535), (0, vx r9)] r9.2).bind (fun r10 => some (some (0, vx r10), r10.2)))) else none := by
  show vp 281 0 [(2, x0), (0, x1), (0, x2), (0, x3), (0, x4)] [] h = _
  refine s_ldcw (pc1 := 3) (tk (n := 0) t281_0 rfl) rfl rfl  ?_
  refine s_iconst (pc1 := 4) (tk (n := 1) t281_0 rfl) rfl rfl  ?_
  refine s_aload_n (pc1 := 5) (tk (n := 2) t281_0 rfl) rfl rfl rfl ?_
  refine s_iload_n (pc1 := 6) (tk (n := 3) t281_0 rfl) rfl rfl rfl ?_
  refine s_iload_n (pc1 := 7) (tk (n := 4) t281_0 rfl) rfl rfl rfl ?_
  refine s_iload_n (pc1 := 8) (tk (n := 5) t281_0 rfl) rfl rfl rfl ?_
  refine s_iload (pc1 := 10) (tk (n := 6) t281_0 rfl) rfl rfl rfl ?_
  refine s_call0 (as := [(2, x0), (0, x1), (0, x2), (0, x3), (0, x4)]) (st1 := [(0, 0), (0, 65535)]) (p1 := 13) (M2 := 265) (tk (n := 7) t281_0 rfl) rfl rfl rfl rfl rfl (fun r8 => ?_)
  refine s_callS0 (as := [(0, 0), (0, vx r8)]) (st1 := [(0, 65535)]) (p1 := 16) (M2 := 166) (tk (n := 8) t281_0 rfl) rfl rfl rfl rfl rfl (fun r9 => ?_)
  refine s_callS0 (as := [(0, 65535), (0, vx r9)]) (st1 := []) (p1 := 19) (M2 := 167) (tk (n := 9) t281_0 rfl) rfl rfl rfl rfl rfl (fun r10 => ?_)
  exact s_ret (tk (n := 10) t281_0 rfl) rfl rfl rfl
set_option maxRecDepth 100000 in
set_option maxHeartbeats 4000000 in
theorem e_X12_nearestChoice (x0 : Int) (x1 : Int) (x2 : Int) (h : Hq) : vm 282 [(0, x0), (0, x1), (0, x2)] h = vp 282 5 [(0, x0), (0, x1), (0, x2), (0, 0), (0, 1)] [] h := by
  show vp 282 0 [(0, x0), (0, x1), (0, x2), (9, 0), (9, 0)] [] h = _
  refine s_iconst (pc1 := 1) (tk (n := 0) t282_0 rfl) rfl rfl  ?_
  refine s_istore_n (pc1 := 2) (ls1 := [(0, x0), (0, x1), (0, x2), (0, 0), (9, 0)]) (tk (n := 1) t282_0 rfl) rfl rfl rfl rfl ?_
  refine s_iconst (pc1 := 3) (tk (n := 2) t282_0 rfl) rfl rfl  ?_
  refine s_istore (pc1 := 5) (ls1 := [(0, x0), (0, x1), (0, x2), (0, 0), (0, 1)]) (tk (n := 3) t282_0 rfl) rfl rfl rfl rfl ?_
  rfl
set_option maxRecDepth 100000 in
set_option maxHeartbeats 4000000 in
theorem e_X12_nearestChoice_5 (x0 : Int) (x1 : Int) (x2 : Int) (x3 : Int) (x4 : Int) (h : Hq) : vp 282 5 [(0, x0), (0, x1), (0, x2), (0, x3), (0, x4)] [] h = if x4 ≥ 4 then (some (some (0, x3), h)) else ((vm 278 [(0, x0), (0, x1), (0, x4)] h).bind (fun r7 => (vm 169 [(0, w32 ((vx r7) - x2))] r7.2).bind (fun r10 => (vm 278 [(0, x0), (0, x1), (0, x3)] r10.2).bind (fun r14 => (vm 169 [(0, w32 ((vx r14) - x2))] r14.2).bind (fun r17 => if (vx r10) ≥ (vx r17) then (vp 282 5 [(0, x0), (0, x1), (0, x2), (0, x3), (0, w32 (x4 + 1))] [] r17.2) else (vp 282 5 [(0, x0), (0, x1), (0, x2), (0, x4), (0, w32 (x4 + 1))] [] r17.2)))))) := by
  refine s_iload (pc1 := 7) (tk (n := 4) t282_0 rfl) rfl rfl rfl ?_
  refine s_iconst (pc1 := 8) (tk (n := 5) t282_0 rfl) rfl rfl  ?_
  refine s_ic_ge (pc1 := 11) (pt := 46) (tk (n := 6) t282_0 rfl) rfl rfl rfl ?_ ?_
  · refine s_iload_n (pc1 := 47) (tk (n := 26) t282_0 rfl) rfl rfl rfl ?_
    exact s_ret (tk (n := 27) t282_0 rfl) rfl rfl rfl
  · refine s_iload_n (pc1 := 12) (tk (n := 7) t282_0 rfl) rfl rfl rfl ?_
    refine s_iload_n (pc1 := 13) (tk (n := 8) t282_0 rfl) rfl rfl rfl ?_
    refine s_iload (pc1 := 15) (tk (n := 9) t282_0 rfl) rfl rfl rfl ?_
    refine s_callS0 (as := [(0, x0), (0, x1), (0, x4)]) (st1 := []) (p1 := 18) (M2 := 278) (tk (n := 10) t282_0 rfl) rfl rfl rfl rfl rfl (fun r7 => ?_)
    refine s_iload_n (pc1 := 19) (tk (n := 11) t282_0 rfl) rfl rfl rfl ?_
    refine s_isub (pc1 := 20) (tk (n := 12) t282_0 rfl) rfl rfl  ?_
    refine s_callS0 (as := [(0, w32 ((vx r7) - x2))]) (st1 := []) (p1 := 23) (M2 := 169) (tk (n := 13) t282_0 rfl) rfl rfl rfl rfl rfl (fun r10 => ?_)
    refine s_iload_n (pc1 := 24) (tk (n := 14) t282_0 rfl) rfl rfl rfl ?_
    refine s_iload_n (pc1 := 25) (tk (n := 15) t282_0 rfl) rfl rfl rfl ?_
    refine s_iload_n (pc1 := 26) (tk (n := 16) t282_0 rfl) rfl rfl rfl ?_
    refine s_callS0 (as := [(0, x0), (0, x1), (0, x3)]) (st1 := [(0, vx r10)]) (p1 := 29) (M2 := 278) (tk (n := 17) t282_0 rfl) rfl rfl rfl rfl rfl (fun r14 => ?_)
    refine s_iload_n (pc1 := 30) (tk (n := 18) t282_0 rfl) rfl rfl rfl ?_
    refine s_isub (pc1 := 31) (tk (n := 19) t282_0 rfl) rfl rfl  ?_
    refine s_callS0 (as := [(0, w32 ((vx r14) - x2))]) (st1 := [(0, vx r10)]) (p1 := 34) (M2 := 169) (tk (n := 20) t282_0 rfl) rfl rfl rfl rfl rfl (fun r17 => ?_)
    refine s_ic_ge (pc1 := 37) (pt := 40) (tk (n := 21) t282_0 rfl) rfl rfl rfl ?_ ?_
    · refine s_iinc (pc1 := 43) (ls1 := [(0, x0), (0, x1), (0, x2), (0, x3), (0, w32 (x4 + 1))]) (tk (n := 24) t282_0 rfl) rfl rfl rfl rfl ?_
      refine s_goto (pc1 := 5) (tk (n := 25) t282_0 rfl) rfl rfl ?_
      rfl
    · refine s_iload (pc1 := 39) (tk (n := 22) t282_0 rfl) rfl rfl rfl ?_
      refine s_istore_n (pc1 := 40) (ls1 := [(0, x0), (0, x1), (0, x2), (0, x4), (0, x4)]) (tk (n := 23) t282_0 rfl) rfl rfl rfl rfl ?_
      refine s_iinc (pc1 := 43) (ls1 := [(0, x0), (0, x1), (0, x2), (0, x4), (0, w32 (x4 + 1))]) (tk (n := 24) t282_0 rfl) rfl rfl rfl rfl ?_
      refine s_goto (pc1 := 5) (tk (n := 25) t282_0 rfl) rfl rfl ?_
      rfl
set_option maxRecDepth 100000 in
set_option maxHeartbeats 4000000 in
theorem e_X12_packed (x0 : Int) (x1 : Int) (x2 : Int) (x3 : Int) (x4 : Int) (h : Hq) : vm 283 [(2, x0), (0, x1), (0, x2), (0, x3), (0, x4)] h = vp 283 11 [(2, x0), (0, x1), (0, x2), (0, x3), (0, x4), (0, 0), (0, 65535), (0, 0), (9, 0), (9, 0)] [] h := by
  show vp 283 0 [(2, x0), (0, x1), (0, x2), (0, x3), (0, x4), (9, 0), (9, 0), (9, 0), (9, 0), (9, 0)] [] h = _
  refine s_iconst (pc1 := 1) (tk (n := 0) t283_0 rfl) rfl rfl  ?_
  refine s_istore (pc1 := 3) (ls1 := [(2, x0), (0, x1), (0, x2), (0, x3), (0, x4), (0, 0), (9, 0), (9, 0), (9, 0), (9, 0)]) (tk (n := 1) t283_0 rfl) rfl rfl rfl rfl ?_
  refine s_ldcw (pc1 := 6) (tk (n := 2) t283_0 rfl) rfl rfl  ?_
  refine s_istore (pc1 := 8) (ls1 := [(2, x0), (0, x1), (0, x2), (0, x3), (0, x4), (0, 0), (0, 65535), (9, 0), (9, 0), (9, 0)]) (tk (n := 3) t283_0 rfl) rfl rfl rfl rfl ?_
  refine s_iconst (pc1 := 9) (tk (n := 4) t283_0 rfl) rfl rfl  ?_
  refine s_istore (pc1 := 11) (ls1 := [(2, x0), (0, x1), (0, x2), (0, x3), (0, x4), (0, 0), (0, 65535), (0, 0), (9, 0), (9, 0)]) (tk (n := 5) t283_0 rfl) rfl rfl rfl rfl ?_
  rfl
set_option maxRecDepth 100000 in
set_option maxHeartbeats 4000000 in
theorem e_X12_packed_11 (x0 : Int) (x1 : Int) (x2 : Int) (x3 : Int) (x4 : Int) (x5 : Int) (x6 : Int) (x7 : Int) (z8 : Vl) (z9 : Vl) (h : Hq) : vp 283 11 [(2, x0), (0, x1), (0, x2), (0, x3), (0, x4), (0, x5), (0, x6), (0, x7), z8, z9] [] h = if x7 ≥ 16 then (vp 283 82 [(2, x0), (0, x1), (0, x2), (0, x3), (0, x4), (0, x5), (0, x6), (1, lbor (lbshl x6 16) x5), (9, 0), (0, 0)] [] h) else (if 0 < x0 ∧ (kd x0).1 = 12 then (vm 281 [(2, x0), (0, x1), (0, x2), (0, w32 ((w32 (4 * x3)) + (x7.tmod 4))), (0, w32 ((w32 (4 * x4)) + (w32 (x7.tdiv 4))))] h).bind (fun r21 => (vm 166 [(0, x5), (0, vx r21)] r21.2).bind (fun r25 => (vm 167 [(0, x6), (0, vx r21)] r25.2).bind (fun r29 => vp 283 11 [(2, x0), (0, x1), (0, x2), (0, x3), (0, x4), (0, vx r25), (0, vx r29), (0, w32 (x7 + 1)), (0, vx r21), (9, 0)] [] r29.2))) else none) := by
  refine s_fg (ls1 := [(2, x0), (0, x1), (0, x2), (0, x3), (0, x4), (0, x5), (0, x6), (0, x7), (9, 0), (9, 0)]) (tk (n := 6) t283_0 rfl) rfl ?_
  refine s_iload (pc1 := 13) (tk (n := 6) t283_0 rfl) rfl rfl rfl ?_
  refine s_bipush (pc1 := 15) (tk (n := 7) t283_0 rfl) rfl rfl  ?_
  refine s_ic_ge (pc1 := 18) (pt := 67) (tk (n := 8) t283_0 rfl) rfl rfl rfl ?_ ?_
  · refine s_iload (pc1 := 69) (tk (n := 8) t283_1 rfl) rfl rfl rfl ?_
    refine s_i2l (pc1 := 70) (tk (n := 9) t283_1 rfl) rfl rfl  ?_
    refine s_bipush (pc1 := 72) (tk (n := 10) t283_1 rfl) rfl rfl  ?_
    refine s_lshl (pc1 := 73) (tk (n := 11) t283_1 rfl) rfl rfl  ?_
    refine s_iload (pc1 := 75) (tk (n := 12) t283_1 rfl) rfl rfl rfl ?_
    refine s_i2l (pc1 := 76) (tk (n := 13) t283_1 rfl) rfl rfl  ?_
    refine s_lor (pc1 := 77) (tk (n := 14) t283_1 rfl) rfl rfl  ?_
    refine s_lstore (pc1 := 79) (ls1 := [(2, x0), (0, x1), (0, x2), (0, x3), (0, x4), (0, x5), (0, x6), (1, lbor (lbshl x6 16) x5), (9, 0), (9, 0)]) (tk (n := 15) t283_1 rfl) rfl rfl rfl rfl ?_
    refine s_iconst (pc1 := 80) (tk (n := 16) t283_1 rfl) rfl rfl  ?_
    refine s_istore (pc1 := 82) (ls1 := [(2, x0), (0, x1), (0, x2), (0, x3), (0, x4), (0, x5), (0, x6), (1, lbor (lbshl x6 16) x5), (9, 0), (0, 0)]) (tk (n := 17) t283_1 rfl) rfl rfl rfl rfl ?_
    rfl
  · refine s_aload_n (pc1 := 19) (tk (n := 9) t283_0 rfl) rfl rfl rfl ?_
    refine s_iload_n (pc1 := 20) (tk (n := 10) t283_0 rfl) rfl rfl rfl ?_
    refine s_iload_n (pc1 := 21) (tk (n := 11) t283_0 rfl) rfl rfl rfl ?_
    refine s_iconst (pc1 := 22) (tk (n := 12) t283_0 rfl) rfl rfl  ?_
    refine s_iload_n (pc1 := 23) (tk (n := 13) t283_0 rfl) rfl rfl rfl ?_
    refine s_imul (pc1 := 24) (tk (n := 14) t283_0 rfl) rfl rfl  ?_
    refine s_iload (pc1 := 26) (tk (n := 15) t283_0 rfl) rfl rfl rfl ?_
    refine s_iconst (pc1 := 27) (tk (n := 16) t283_0 rfl) rfl rfl  ?_
    refine s_iremc (pc1 := 28) (tk (n := 17) t283_0 rfl) rfl rfl (by decide) ?_
    refine s_iadd (pc1 := 29) (tk (n := 18) t283_0 rfl) rfl rfl  ?_
    refine s_iconst (pc1 := 30) (tk (n := 19) t283_0 rfl) rfl rfl  ?_
    refine s_iload (pc1 := 32) (tk (n := 20) t283_0 rfl) rfl rfl rfl ?_
    refine s_imul (pc1 := 33) (tk (n := 21) t283_0 rfl) rfl rfl  ?_
    refine s_iload (pc1 := 35) (tk (n := 22) t283_0 rfl) rfl rfl rfl ?_
    refine s_iconst (pc1 := 36) (tk (n := 23) t283_0 rfl) rfl rfl  ?_
    refine s_idivc (pc1 := 37) (tk (n := 24) t283_0 rfl) rfl rfl (by decide) ?_
    refine s_iadd (pc1 := 38) (tk (n := 25) t283_0 rfl) rfl rfl  ?_
    refine s_call0 (as := [(2, x0), (0, x1), (0, x2), (0, w32 ((w32 (4 * x3)) + (x7.tmod 4))), (0, w32 ((w32 (4 * x4)) + (w32 (x7.tdiv 4))))]) (st1 := []) (p1 := 41) (M2 := 281) (tk (n := 26) t283_0 rfl) rfl rfl rfl rfl rfl (fun r21 => ?_)
    refine s_istore (pc1 := 43) (ls1 := [(2, x0), (0, x1), (0, x2), (0, x3), (0, x4), (0, x5), (0, x6), (0, x7), (0, vx r21), (9, 0)]) (tk (n := 27) t283_0 rfl) rfl rfl rfl rfl ?_
    refine s_iload (pc1 := 45) (tk (n := 28) t283_0 rfl) rfl rfl rfl ?_
    refine s_iload (pc1 := 47) (tk (n := 29) t283_0 rfl) rfl rfl rfl ?_
    refine s_callS0 (as := [(0, x5), (0, vx r21)]) (st1 := []) (p1 := 50) (M2 := 166) (tk (n := 0) t283_1 rfl) rfl rfl rfl rfl rfl (fun r25 => ?_)
    refine s_istore (pc1 := 52) (ls1 := [(2, x0), (0, x1), (0, x2), (0, x3), (0, x4), (0, vx r25), (0, x6), (0, x7), (0, vx r21), (9, 0)]) (tk (n := 1) t283_1 rfl) rfl rfl rfl rfl ?_
    refine s_iload (pc1 := 54) (tk (n := 2) t283_1 rfl) rfl rfl rfl ?_
    refine s_iload (pc1 := 56) (tk (n := 3) t283_1 rfl) rfl rfl rfl ?_
    refine s_callS0 (as := [(0, x6), (0, vx r21)]) (st1 := []) (p1 := 59) (M2 := 167) (tk (n := 4) t283_1 rfl) rfl rfl rfl rfl rfl (fun r29 => ?_)
    refine s_istore (pc1 := 61) (ls1 := [(2, x0), (0, x1), (0, x2), (0, x3), (0, x4), (0, vx r25), (0, vx r29), (0, x7), (0, vx r21), (9, 0)]) (tk (n := 5) t283_1 rfl) rfl rfl rfl rfl ?_
    refine s_iinc (pc1 := 64) (ls1 := [(2, x0), (0, x1), (0, x2), (0, x3), (0, x4), (0, vx r25), (0, vx r29), (0, w32 (x7 + 1)), (0, vx r21), (9, 0)]) (tk (n := 6) t283_1 rfl) rfl rfl rfl rfl ?_
    refine s_goto (pc1 := 11) (tk (n := 7) t283_1 rfl) rfl rfl ?_
    rfl
set_option maxRecDepth 100000 in
set_option maxHeartbeats 4000000 in
theorem e_X12_packed_82 (x0 : Int) (x1 : Int) (x2 : Int) (x3 : Int) (x4 : Int) (x5 : Int) (x6 : Int) (x7 : Int) (x9 : Int) (h : Hq) : vp 283 82 [(2, x0), (0, x1), (0, x2), (0, x3), (0, x4), (0, x5), (0, x6), (1, x7), (9, 0), (0, x9)] [] h = if x9 ≥ 16 then (some (some (1, x7), h)) else (if 0 < x0 ∧ (kd x0).1 = 12 then (vm 281 [(2, x0), (0, x1), (0, x2), (0, w32 ((w32 (4 * x3)) + (x9.tmod 4))), (0, w32 ((w32 (4 * x4)) + (w32 (x9.tdiv 4))))] h).bind (fun r24 => (vm 282 [(0, x5), (0, x6), (0, vx r24)] r24.2).bind (fun r25 => vp 283 82 [(2, x0), (0, x1), (0, x2), (0, x3), (0, x4), (0, x5), (0, x6), (1, lbor x7 (lbshl (vx r25) (w32 (32 + (w32 (2 * x9)))))), (9, 0), (0, w32 (x9 + 1))] [] r25.2)) else none) := by
  refine s_iload (pc1 := 84) (tk (n := 18) t283_1 rfl) rfl rfl rfl ?_
  refine s_bipush (pc1 := 86) (tk (n := 19) t283_1 rfl) rfl rfl  ?_
  refine s_ic_ge (pc1 := 89) (pt := 139) (tk (n := 20) t283_1 rfl) rfl rfl rfl ?_ ?_
  · refine s_lload (pc1 := 141) (tk (n := 24) t283_2 rfl) rfl rfl rfl ?_
    exact s_ret (tk (n := 25) t283_2 rfl) rfl rfl rfl
  · refine s_lload (pc1 := 91) (tk (n := 21) t283_1 rfl) rfl rfl rfl ?_
    refine s_iload (pc1 := 93) (tk (n := 22) t283_1 rfl) rfl rfl rfl ?_
    refine s_iload (pc1 := 95) (tk (n := 23) t283_1 rfl) rfl rfl rfl ?_
    refine s_aload_n (pc1 := 96) (tk (n := 24) t283_1 rfl) rfl rfl rfl ?_
    refine s_iload_n (pc1 := 97) (tk (n := 25) t283_1 rfl) rfl rfl rfl ?_
    refine s_iload_n (pc1 := 98) (tk (n := 26) t283_1 rfl) rfl rfl rfl ?_
    refine s_iconst (pc1 := 99) (tk (n := 27) t283_1 rfl) rfl rfl  ?_
    refine s_iload_n (pc1 := 100) (tk (n := 28) t283_1 rfl) rfl rfl rfl ?_
    refine s_imul (pc1 := 101) (tk (n := 29) t283_1 rfl) rfl rfl  ?_
    refine s_iload (pc1 := 103) (tk (n := 0) t283_2 rfl) rfl rfl rfl ?_
    refine s_iconst (pc1 := 104) (tk (n := 1) t283_2 rfl) rfl rfl  ?_
    refine s_iremc (pc1 := 105) (tk (n := 2) t283_2 rfl) rfl rfl (by decide) ?_
    refine s_iadd (pc1 := 106) (tk (n := 3) t283_2 rfl) rfl rfl  ?_
    refine s_iconst (pc1 := 107) (tk (n := 4) t283_2 rfl) rfl rfl  ?_
    refine s_iload (pc1 := 109) (tk (n := 5) t283_2 rfl) rfl rfl rfl ?_
    refine s_imul (pc1 := 110) (tk (n := 6) t283_2 rfl) rfl rfl  ?_
    refine s_iload (pc1 := 112) (tk (n := 7) t283_2 rfl) rfl rfl rfl ?_
    refine s_iconst (pc1 := 113) (tk (n := 8) t283_2 rfl) rfl rfl  ?_
    refine s_idivc (pc1 := 114) (tk (n := 9) t283_2 rfl) rfl rfl (by decide) ?_
    refine s_iadd (pc1 := 115) (tk (n := 10) t283_2 rfl) rfl rfl  ?_
    refine s_call0 (as := [(2, x0), (0, x1), (0, x2), (0, w32 ((w32 (4 * x3)) + (x9.tmod 4))), (0, w32 ((w32 (4 * x4)) + (w32 (x9.tdiv 4))))]) (st1 := [(0, x6), (0, x5), (1, x7)]) (p1 := 118) (M2 := 281) (tk (n := 11) t283_2 rfl) rfl rfl rfl rfl rfl (fun r24 => ?_)
    refine s_callS0 (as := [(0, x5), (0, x6), (0, vx r24)]) (st1 := [(1, x7)]) (p1 := 121) (M2 := 282) (tk (n := 12) t283_2 rfl) rfl rfl rfl rfl rfl (fun r25 => ?_)
    refine s_i2l (pc1 := 122) (tk (n := 13) t283_2 rfl) rfl rfl  ?_
    refine s_bipush (pc1 := 124) (tk (n := 14) t283_2 rfl) rfl rfl  ?_
    refine s_iconst (pc1 := 125) (tk (n := 15) t283_2 rfl) rfl rfl  ?_
    refine s_iload (pc1 := 127) (tk (n := 16) t283_2 rfl) rfl rfl rfl ?_
    refine s_imul (pc1 := 128) (tk (n := 17) t283_2 rfl) rfl rfl  ?_
    refine s_iadd (pc1 := 129) (tk (n := 18) t283_2 rfl) rfl rfl  ?_
    refine s_lshl (pc1 := 130) (tk (n := 19) t283_2 rfl) rfl rfl  ?_
    refine s_lor (pc1 := 131) (tk (n := 20) t283_2 rfl) rfl rfl  ?_
    refine s_lstore (pc1 := 133) (ls1 := [(2, x0), (0, x1), (0, x2), (0, x3), (0, x4), (0, x5), (0, x6), (1, lbor x7 (lbshl (vx r25) (w32 (32 + (w32 (2 * x9)))))), (9, 0), (0, x9)]) (tk (n := 21) t283_2 rfl) rfl rfl rfl rfl ?_
    refine s_iinc (pc1 := 136) (ls1 := [(2, x0), (0, x1), (0, x2), (0, x3), (0, x4), (0, x5), (0, x6), (1, lbor x7 (lbshl (vx r25) (w32 (32 + (w32 (2 * x9)))))), (9, 0), (0, w32 (x9 + 1))]) (tk (n := 22) t283_2 rfl) rfl rfl rfl rfl ?_
    refine s_goto (pc1 := 82) (tk (n := 23) t283_2 rfl) rfl rfl ?_
    rfl
set_option maxRecDepth 100000 in
set_option maxHeartbeats 4000000 in
theorem e_X12_isBlock (x0 : Int) (x1 : Int) (x2 : Int) (x3 : Int) (x4 : Int) (h : Hq) : vm 284 [(2, x0), (0, x1), (0, x2), (0, x3), (0, x4)] h = if 0 < x0 ∧ (kd x0).1 = 12 then (vm 236 [(2, x0), (0, x1), (0, x2)] h).bind (fun r4 => if (vx r4) = 0 then (some (some (0, 0), r4.2)) else ((vm 165 [(0, x3), (0, 0), (0, 3)] r4.2).bind (fun r9 => if (vx r9) = 0 then (some (some (0, 0), r9.2)) else ((vm 165 [(0, x4), (0, 0), (0, 3)] r9.2).bind (fun r14 => if (vx r14) = 0 then (some (some (0, 0), r14.2)) else (some (some (0, 1), r14.2))))))) else none := by
  show vp 284 0 [(2, x0), (0, x1), (0, x2), (0, x3), (0, x4)] [] h = _
  refine s_aload_n (pc1 := 1) (tk (n := 0) t284_0 rfl) rfl rfl rfl ?_
  refine s_iload_n (pc1 := 2) (tk (n := 1) t284_0 rfl) rfl rfl rfl ?_
  refine s_iload_n (pc1 := 3) (tk (n := 2) t284_0 rfl) rfl rfl rfl ?_
  refine s_call0 (as := [(2, x0), (0, x1), (0, x2)]) (st1 := []) (p1 := 6) (M2 := 236) (tk (n := 3) t284_0 rfl) rfl rfl rfl rfl rfl (fun r4 => ?_)
  refine s_if_eq (pc1 := 9) (pt := 32) (tk (n := 4) t284_0 rfl) rfl rfl rfl ?_ ?_
  · refine s_iconst (pc1 := 33) (tk (n := 17) t284_0 rfl) rfl rfl  ?_
    exact s_retY (tk (n := 18) t284_0 rfl) rfl rfl rfl (by decide)
  · refine s_iload_n (pc1 := 10) (tk (n := 5) t284_0 rfl) rfl rfl rfl ?_
    refine s_iconst (pc1 := 11) (tk (n := 6) t284_0 rfl) rfl rfl  ?_
    refine s_iconst (pc1 := 12) (tk (n := 7) t284_0 rfl) rfl rfl  ?_
    refine s_callS0 (as := [(0, x3), (0, 0), (0, 3)]) (st1 := []) (p1 := 15) (M2 := 165) (tk (n := 8) t284_0 rfl) rfl rfl rfl rfl rfl (fun r9 => ?_)
    refine s_if_eq (pc1 := 18) (pt := 32) (tk (n := 9) t284_0 rfl) rfl rfl rfl ?_ ?_
    · refine s_iconst (pc1 := 33) (tk (n := 17) t284_0 rfl) rfl rfl  ?_
      exact s_retY (tk (n := 18) t284_0 rfl) rfl rfl rfl (by decide)
    · refine s_iload (pc1 := 20) (tk (n := 10) t284_0 rfl) rfl rfl rfl ?_
      refine s_iconst (pc1 := 21) (tk (n := 11) t284_0 rfl) rfl rfl  ?_
      refine s_iconst (pc1 := 22) (tk (n := 12) t284_0 rfl) rfl rfl  ?_
      refine s_callS0 (as := [(0, x4), (0, 0), (0, 3)]) (st1 := []) (p1 := 25) (M2 := 165) (tk (n := 13) t284_0 rfl) rfl rfl rfl rfl rfl (fun r14 => ?_)
      refine s_if_eq (pc1 := 28) (pt := 32) (tk (n := 14) t284_0 rfl) rfl rfl rfl ?_ ?_
      · refine s_iconst (pc1 := 33) (tk (n := 17) t284_0 rfl) rfl rfl  ?_
        exact s_retY (tk (n := 18) t284_0 rfl) rfl rfl rfl (by decide)
      · refine s_iconst (pc1 := 29) (tk (n := 15) t284_0 rfl) rfl rfl  ?_
        refine s_goto (pc1 := 33) (tk (n := 16) t284_0 rfl) rfl rfl ?_
        exact s_retY (tk (n := 18) t284_0 rfl) rfl rfl rfl (by decide)
set_option maxRecDepth 100000 in
set_option maxHeartbeats 4000000 in
theorem e_X12_pack (x0 : Int) (x1 : Int) (x2 : Int) (x3 : Int) (x4 : Int) (h : Hq) : vm 285 [(2, x0), (0, x1), (0, x2), (0, x3), (0, x4)] h = if 0 < x0 ∧ (kd x0).1 = 12 then (vm 284 [(2, x0), (0, x1), (0, x2), (0, x3), (0, x4)] h).bind (fun r6 => if (vx r6) = 0 then (some (some (1, 0), r6.2)) else (if 0 < x0 ∧ (kd x0).1 = 12 then (vm 283 [(2, x0), (0, x1), (0, x2), (0, x3), (0, x4)] r6.2).bind (fun r13 => some (some (1, vx r13), r13.2)) else none)) else none := by
  show vp 285 0 [(2, x0), (0, x1), (0, x2), (0, x3), (0, x4)] [] h = _
  refine s_aload_n (pc1 := 1) (tk (n := 0) t285_0 rfl) rfl rfl rfl ?_
  refine s_iload_n (pc1 := 2) (tk (n := 1) t285_0 rfl) rfl rfl rfl ?_
  refine s_iload_n (pc1 := 3) (tk (n := 2) t285_0 rfl) rfl rfl rfl ?_
  refine s_iload_n (pc1 := 4) (tk (n := 3) t285_0 rfl) rfl rfl rfl ?_
  refine s_iload (pc1 := 6) (tk (n := 4) t285_0 rfl) rfl rfl rfl ?_
  refine s_call0 (as := [(2, x0), (0, x1), (0, x2), (0, x3), (0, x4)]) (st1 := []) (p1 := 9) (M2 := 284) (tk (n := 5) t285_0 rfl) rfl rfl rfl rfl rfl (fun r6 => ?_)
  refine s_if_eq (pc1 := 12) (pt := 24) (tk (n := 6) t285_0 rfl) rfl rfl rfl ?_ ?_
  · refine s_lconst (pc1 := 25) (v := 0) (tk (n := 14) t285_0 rfl) rfl rfl rfl ?_
    exact s_ret (tk (n := 15) t285_0 rfl) rfl rfl rfl
  · refine s_aload_n (pc1 := 13) (tk (n := 7) t285_0 rfl) rfl rfl rfl ?_
    refine s_iload_n (pc1 := 14) (tk (n := 8) t285_0 rfl) rfl rfl rfl ?_
    refine s_iload_n (pc1 := 15) (tk (n := 9) t285_0 rfl) rfl rfl rfl ?_
    refine s_iload_n (pc1 := 16) (tk (n := 10) t285_0 rfl) rfl rfl rfl ?_
    refine s_iload (pc1 := 18) (tk (n := 11) t285_0 rfl) rfl rfl rfl ?_
    refine s_call1 (as := [(2, x0), (0, x1), (0, x2), (0, x3), (0, x4)]) (st1 := []) (p1 := 21) (M2 := 283) (tk (n := 12) t285_0 rfl) rfl rfl rfl rfl rfl (fun r13 => ?_)
    refine s_goto (pc1 := 25) (tk (n := 13) t285_0 rfl) rfl rfl ?_
    exact s_ret (tk (n := 15) t285_0 rfl) rfl rfl rfl
set_option maxRecDepth 100000 in
set_option maxHeartbeats 4000000 in
theorem e_X12_off (x0 : Int) (x1 : Int) (x2 : Int) (x3 : Int) (x4 : Int) (h : Hq) : vm 286 [(2, x0), (0, x1), (0, x2), (0, x3), (0, x4)] h = if 0 < x0 ∧ (kd x0).1 = 12 then (vm 284 [(2, x0), (0, x1), (0, x2), (0, x3), (0, x4)] h).bind (fun r6 => if (vx r6) ≠ 0 then (if 0 < x0 ∧ (kd x0).1 = 12 then (vm 283 [(2, x0), (0, x1), (0, x2), (0, x3), (0, x4)] r6.2).bind (fun r13 => vp 286 31 [(2, x0), (0, x1), (0, x2), (0, x3), (0, x4), (1, vx r13), (9, 0), (0, 0), (0, 0)] [] r13.2) else none) else (some (some (0, (-1)), r6.2))) else none := by
  show vp 286 0 [(2, x0), (0, x1), (0, x2), (0, x3), (0, x4), (9, 0), (9, 0), (9, 0), (9, 0)] [] h = _
  refine s_aload_n (pc1 := 1) (tk (n := 0) t286_0 rfl) rfl rfl rfl ?_
  refine s_iload_n (pc1 := 2) (tk (n := 1) t286_0 rfl) rfl rfl rfl ?_
  refine s_iload_n (pc1 := 3) (tk (n := 2) t286_0 rfl) rfl rfl rfl ?_
  refine s_iload_n (pc1 := 4) (tk (n := 3) t286_0 rfl) rfl rfl rfl ?_
  refine s_iload (pc1 := 6) (tk (n := 4) t286_0 rfl) rfl rfl rfl ?_
  refine s_call0 (as := [(2, x0), (0, x1), (0, x2), (0, x3), (0, x4)]) (st1 := []) (p1 := 9) (M2 := 284) (tk (n := 5) t286_0 rfl) rfl rfl rfl rfl rfl (fun r6 => ?_)
  refine s_if_ne (pc1 := 12) (pt := 14) (tk (n := 6) t286_0 rfl) rfl rfl rfl ?_ ?_
  · refine s_aload_n (pc1 := 15) (tk (n := 9) t286_0 rfl) rfl rfl rfl ?_
    refine s_iload_n (pc1 := 16) (tk (n := 10) t286_0 rfl) rfl rfl rfl ?_
    refine s_iload_n (pc1 := 17) (tk (n := 11) t286_0 rfl) rfl rfl rfl ?_
    refine s_iload_n (pc1 := 18) (tk (n := 12) t286_0 rfl) rfl rfl rfl ?_
    refine s_iload (pc1 := 20) (tk (n := 13) t286_0 rfl) rfl rfl rfl ?_
    refine s_call1 (as := [(2, x0), (0, x1), (0, x2), (0, x3), (0, x4)]) (st1 := []) (p1 := 23) (M2 := 283) (tk (n := 14) t286_0 rfl) rfl rfl rfl rfl rfl (fun r13 => ?_)
    refine s_lstore (pc1 := 25) (ls1 := [(2, x0), (0, x1), (0, x2), (0, x3), (0, x4), (1, vx r13), (9, 0), (9, 0), (9, 0)]) (tk (n := 15) t286_0 rfl) rfl rfl rfl rfl ?_
    refine s_iconst (pc1 := 26) (tk (n := 16) t286_0 rfl) rfl rfl  ?_
    refine s_istore (pc1 := 28) (ls1 := [(2, x0), (0, x1), (0, x2), (0, x3), (0, x4), (1, vx r13), (9, 0), (0, 0), (9, 0)]) (tk (n := 17) t286_0 rfl) rfl rfl rfl rfl ?_
    refine s_iconst (pc1 := 29) (tk (n := 18) t286_0 rfl) rfl rfl  ?_
    refine s_istore (pc1 := 31) (ls1 := [(2, x0), (0, x1), (0, x2), (0, x3), (0, x4), (1, vx r13), (9, 0), (0, 0), (0, 0)]) (tk (n := 19) t286_0 rfl) rfl rfl rfl rfl ?_
    rfl
  · refine s_iconst (pc1 := 13) (tk (n := 7) t286_0 rfl) rfl rfl  ?_
    exact s_ret (tk (n := 8) t286_0 rfl) rfl rfl rfl
set_option maxRecDepth 100000 in
set_option maxHeartbeats 4000000 in
theorem e_X12_off_31 (x0 : Int) (x1 : Int) (x2 : Int) (x3 : Int) (x4 : Int) (x5 : Int) (x7 : Int) (x8 : Int) (h : Hq) : vp 286 31 [(2, x0), (0, x1), (0, x2), (0, x3), (0, x4), (1, x5), (9, 0), (0, x7), (0, x8)] [] h = if x8 ≥ 16 then (some (some (0, x7), h)) else (if 0 < x0 ∧ (kd x0).1 = 12 then (vm 281 [(2, x0), (0, x1), (0, x2), (0, w32 ((w32 (4 * x3)) + (x8.tmod 4))), (0, w32 ((w32 (4 * x4)) + (w32 (x8.tdiv 4))))] h).bind (fun r22 => if 0 < x0 ∧ (kd x0).1 = 12 then (vm 280 [(2, x0), (1, x5), (0, x8.tmod 4), (0, w32 (x8.tdiv 4))] r22.2).bind (fun r31 => (vm 169 [(0, w32 ((vx r22) - (vx r31)))] r31.2).bind (fun r33 => vp 286 31 [(2, x0), (0, x1), (0, x2), (0, x3), (0, x4), (1, x5), (9, 0), (0, w32 (x7 + (vx r33))), (0, w32 (x8 + 1))] [] r33.2)) else none) else none) := by
  refine s_iload (pc1 := 33) (tk (n := 20) t286_0 rfl) rfl rfl rfl ?_
  refine s_bipush (pc1 := 35) (tk (n := 21) t286_0 rfl) rfl rfl  ?_
  refine s_ic_ge (pc1 := 38) (pt := 90) (tk (n := 22) t286_0 rfl) rfl rfl rfl ?_ ?_
  · refine s_iload (pc1 := 92) (tk (n := 27) t286_1 rfl) rfl rfl rfl ?_
    exact s_ret (tk (n := 28) t286_1 rfl) rfl rfl rfl
  · refine s_iload (pc1 := 40) (tk (n := 23) t286_0 rfl) rfl rfl rfl ?_
    refine s_aload_n (pc1 := 41) (tk (n := 24) t286_0 rfl) rfl rfl rfl ?_
    refine s_iload_n (pc1 := 42) (tk (n := 25) t286_0 rfl) rfl rfl rfl ?_
    refine s_iload_n (pc1 := 43) (tk (n := 26) t286_0 rfl) rfl rfl rfl ?_
    refine s_iconst (pc1 := 44) (tk (n := 27) t286_0 rfl) rfl rfl  ?_
    refine s_iload_n (pc1 := 45) (tk (n := 28) t286_0 rfl) rfl rfl rfl ?_
    refine s_imul (pc1 := 46) (tk (n := 29) t286_0 rfl) rfl rfl  ?_
    refine s_iload (pc1 := 48) (tk (n := 0) t286_1 rfl) rfl rfl rfl ?_
    refine s_iconst (pc1 := 49) (tk (n := 1) t286_1 rfl) rfl rfl  ?_
    refine s_iremc (pc1 := 50) (tk (n := 2) t286_1 rfl) rfl rfl (by decide) ?_
    refine s_iadd (pc1 := 51) (tk (n := 3) t286_1 rfl) rfl rfl  ?_
    refine s_iconst (pc1 := 52) (tk (n := 4) t286_1 rfl) rfl rfl  ?_
    refine s_iload (pc1 := 54) (tk (n := 5) t286_1 rfl) rfl rfl rfl ?_
    refine s_imul (pc1 := 55) (tk (n := 6) t286_1 rfl) rfl rfl  ?_
    refine s_iload (pc1 := 57) (tk (n := 7) t286_1 rfl) rfl rfl rfl ?_
    refine s_iconst (pc1 := 58) (tk (n := 8) t286_1 rfl) rfl rfl  ?_
    refine s_idivc (pc1 := 59) (tk (n := 9) t286_1 rfl) rfl rfl (by decide) ?_
    refine s_iadd (pc1 := 60) (tk (n := 10) t286_1 rfl) rfl rfl  ?_
    refine s_call0 (as := [(2, x0), (0, x1), (0, x2), (0, w32 ((w32 (4 * x3)) + (x8.tmod 4))), (0, w32 ((w32 (4 * x4)) + (w32 (x8.tdiv 4))))]) (st1 := [(0, x7)]) (p1 := 63) (M2 := 281) (tk (n := 11) t286_1 rfl) rfl rfl rfl rfl rfl (fun r22 => ?_)
    refine s_aload_n (pc1 := 64) (tk (n := 12) t286_1 rfl) rfl rfl rfl ?_
    refine s_lload (pc1 := 66) (tk (n := 13) t286_1 rfl) rfl rfl rfl ?_
    refine s_iload (pc1 := 68) (tk (n := 14) t286_1 rfl) rfl rfl rfl ?_
    refine s_iconst (pc1 := 69) (tk (n := 15) t286_1 rfl) rfl rfl  ?_
    refine s_iremc (pc1 := 70) (tk (n := 16) t286_1 rfl) rfl rfl (by decide) ?_
    refine s_iload (pc1 := 72) (tk (n := 17) t286_1 rfl) rfl rfl rfl ?_
    refine s_iconst (pc1 := 73) (tk (n := 18) t286_1 rfl) rfl rfl  ?_
    refine s_idivc (pc1 := 74) (tk (n := 19) t286_1 rfl) rfl rfl (by decide) ?_
    refine s_call0 (as := [(2, x0), (1, x5), (0, x8.tmod 4), (0, w32 (x8.tdiv 4))]) (st1 := [(0, vx r22), (0, x7)]) (p1 := 77) (M2 := 280) (tk (n := 20) t286_1 rfl) rfl rfl rfl rfl rfl (fun r31 => ?_)
    refine s_isub (pc1 := 78) (tk (n := 21) t286_1 rfl) rfl rfl  ?_
    refine s_callS0 (as := [(0, w32 ((vx r22) - (vx r31)))]) (st1 := [(0, x7)]) (p1 := 81) (M2 := 169) (tk (n := 22) t286_1 rfl) rfl rfl rfl rfl rfl (fun r33 => ?_)
    refine s_iadd (pc1 := 82) (tk (n := 23) t286_1 rfl) rfl rfl  ?_
    refine s_istore (pc1 := 84) (ls1 := [(2, x0), (0, x1), (0, x2), (0, x3), (0, x4), (1, x5), (9, 0), (0, w32 (x7 + (vx r33))), (0, x8)]) (tk (n := 24) t286_1 rfl) rfl rfl rfl rfl ?_
    refine s_iinc (pc1 := 87) (ls1 := [(2, x0), (0, x1), (0, x2), (0, x3), (0, x4), (1, x5), (9, 0), (0, w32 (x7 + (vx r33))), (0, w32 (x8 + 1))]) (tk (n := 25) t286_1 rfl) rfl rfl rfl rfl ?_
    refine s_goto (pc1 := 31) (tk (n := 26) t286_1 rfl) rfl rfl ?_
    rfl
set_option maxRecDepth 100000 in
set_option maxHeartbeats 4000000 in
theorem e_X12_empties (x0 : Int) (h : Hq) : vm 287 [(2, x0)] h = vp 287 2 [(2, x0), (0, 0)] [] h := by
  show vp 287 0 [(2, x0), (9, 0)] [] h = _
  refine s_iconst (pc1 := 1) (tk (n := 0) t287_0 rfl) rfl rfl  ?_
  refine s_istore_n (pc1 := 2) (ls1 := [(2, x0), (0, 0)]) (tk (n := 1) t287_0 rfl) rfl rfl rfl rfl ?_
  rfl
set_option maxRecDepth 100000 in
set_option maxHeartbeats 4000000 in
theorem e_X12_empties_2 (x0 : Int) (x1 : Int) (h : Hq) : vp 287 2 [(2, x0), (0, x1)] [] h = if x1 ≥ 64 then (vp 287 23 [(2, x0), (0, 0)] [] h) else (if 0 < x0 ∧ (kd x0).1 = 12 then if 0 < (h.2 x0 31) ∧ (kd (h.2 x0 31)).1 = 20 ∧ 0 ≤ x1 ∧ x1 < (kd (h.2 x0 31)).2 then vp 287 2 [(2, x0), (0, w32 (x1 + 1))] [] (h.1, stm h.2 (h.2 x0 31) x1 (-1)) else none else none) := by
  refine s_iload_n (pc1 := 3) (tk (n := 2) t287_0 rfl) rfl rfl rfl ?_
  refine s_bipush (pc1 := 5) (tk (n := 3) t287_0 rfl) rfl rfl  ?_
  refine s_ic_ge (pc1 := 8) (pt := 21) (tk (n := 4) t287_0 rfl) rfl rfl rfl ?_ ?_
  · refine s_iconst (pc1 := 22) (tk (n := 12) t287_0 rfl) rfl rfl  ?_
    refine s_istore_n (pc1 := 23) (ls1 := [(2, x0), (0, 0)]) (tk (n := 13) t287_0 rfl) rfl rfl rfl rfl ?_
    rfl
  · refine s_aload_n (pc1 := 9) (tk (n := 5) t287_0 rfl) rfl rfl rfl ?_
    refine s_getf (pc1 := 12) (c := 12) (t1 := 2) (tk (n := 6) t287_0 rfl) rfl rfl (by decide) rfl rfl ?_
    refine s_iload_n (pc1 := 13) (tk (n := 7) t287_0 rfl) rfl rfl rfl ?_
    refine s_iconst (pc1 := 14) (tk (n := 8) t287_0 rfl) rfl rfl  ?_
    refine s_iast (pc1 := 15) (tk (n := 9) t287_0 rfl) rfl rfl  ?_
    refine s_iinc (pc1 := 18) (ls1 := [(2, x0), (0, w32 (x1 + 1))]) (tk (n := 10) t287_0 rfl) rfl rfl rfl rfl ?_
    refine s_goto (pc1 := 2) (tk (n := 11) t287_0 rfl) rfl rfl ?_
    rfl
set_option maxRecDepth 100000 in
set_option maxHeartbeats 4000000 in
theorem e_X12_empties_23 (x0 : Int) (x1 : Int) (h : Hq) : vp 287 23 [(2, x0), (0, x1)] [] h = if x1 ≥ 2400 then (if (0 < x0 ∧ (kd x0).1 = 12) ∧ True then if (0 < x0 ∧ (kd x0).1 = 12) ∧ True then if (0 < x0 ∧ (kd x0).1 = 12) ∧ True then some (none, (h.1, stm (stm (stm h.2 x0 34 0) x0 35 0) x0 36 0)) else none else none else none) else (if 0 < x0 ∧ (kd x0).1 = 12 then if 0 < (h.2 x0 33) ∧ (kd (h.2 x0 33)).1 = 20 ∧ 0 ≤ x1 ∧ x1 < (kd (h.2 x0 33)).2 then vp 287 23 [(2, x0), (0, w32 (x1 + 1))] [] (h.1, stm h.2 (h.2 x0 33) x1 0) else none else none) := by
  refine s_iload_n (pc1 := 24) (tk (n := 14) t287_0 rfl) rfl rfl rfl ?_
  refine s_sipush (pc1 := 27) (tk (n := 15) t287_0 rfl) rfl rfl  ?_
  refine s_ic_ge (pc1 := 30) (pt := 43) (tk (n := 16) t287_0 rfl) rfl rfl rfl ?_ ?_
  · refine s_aload_n (pc1 := 44) (tk (n := 24) t287_0 rfl) rfl rfl rfl ?_
    refine s_iconst (pc1 := 45) (tk (n := 25) t287_0 rfl) rfl rfl  ?_
    refine s_putf0 (pc1 := 48) (c := 12) (tk (n := 26) t287_0 rfl) rfl rfl rfl rfl rfl ?_
    refine s_aload_n (pc1 := 49) (tk (n := 27) t287_0 rfl) rfl rfl rfl ?_
    refine s_iconst (pc1 := 50) (tk (n := 28) t287_0 rfl) rfl rfl  ?_
    refine s_putf0 (pc1 := 53) (c := 12) (tk (n := 29) t287_0 rfl) rfl rfl rfl rfl rfl ?_
    refine s_aload_n (pc1 := 54) (tk (n := 0) t287_1 rfl) rfl rfl rfl ?_
    refine s_iconst (pc1 := 55) (tk (n := 1) t287_1 rfl) rfl rfl  ?_
    refine s_putf0 (pc1 := 58) (c := 12) (tk (n := 2) t287_1 rfl) rfl rfl rfl rfl rfl ?_
    exact s_ret (tk (n := 3) t287_1 rfl) rfl rfl rfl
  · refine s_aload_n (pc1 := 31) (tk (n := 17) t287_0 rfl) rfl rfl rfl ?_
    refine s_getf (pc1 := 34) (c := 12) (t1 := 2) (tk (n := 18) t287_0 rfl) rfl rfl (by decide) rfl rfl ?_
    refine s_iload_n (pc1 := 35) (tk (n := 19) t287_0 rfl) rfl rfl rfl ?_
    refine s_iconst (pc1 := 36) (tk (n := 20) t287_0 rfl) rfl rfl  ?_
    refine s_iast (pc1 := 37) (tk (n := 21) t287_0 rfl) rfl rfl  ?_
    refine s_iinc (pc1 := 40) (ls1 := [(2, x0), (0, w32 (x1 + 1))]) (tk (n := 22) t287_0 rfl) rfl rfl rfl rfl ?_
    refine s_goto (pc1 := 23) (tk (n := 23) t287_0 rfl) rfl rfl ?_
    rfl
set_option maxRecDepth 100000 in
set_option maxHeartbeats 4000000 in
theorem e_X12_lineOf (x0 : Int) (x1 : Int) (x2 : Int) (x3 : Int) (x4 : Int) (h : Hq) : vm 288 [(2, x0), (0, x1), (0, x2), (0, x3), (0, x4)] h = if 0 < x0 ∧ (kd x0).1 = 12 then (vm 234 [(2, x0), (0, x1), (0, 0)] h).bind (fun r5 => if 0 < x0 ∧ (kd x0).1 = 12 then (vm 245 [(2, x0), (0, x1), (0, x2), (0, x3), (0, x4)] r5.2).bind (fun r12 => if 0 < x0 ∧ (kd x0).1 = 12 then if (kd (r12.2.2 x0 13)).1 = 20 ∧ 0 ≤ (2 : Int) ∧ (2 : Int) < (kd (r12.2.2 x0 13)).2 then if (r12.2.2 (r12.2.2 x0 13) 2) ≠ 0 then some (some (0, w32 ((w32 ((w32 (400 * (vx r5))) + (vx r12))).tdiv (r12.2.2 (r12.2.2 x0 13) 2))), r12.2) else none else none else none) else none) else none := by
  show vp 288 0 [(2, x0), (0, x1), (0, x2), (0, x3), (0, x4)] [] h = _
  refine s_sipush (pc1 := 3) (tk (n := 0) t288_0 rfl) rfl rfl  ?_
  refine s_aload_n (pc1 := 4) (tk (n := 1) t288_0 rfl) rfl rfl rfl ?_
  refine s_iload_n (pc1 := 5) (tk (n := 2) t288_0 rfl) rfl rfl rfl ?_
  refine s_iconst (pc1 := 6) (tk (n := 3) t288_0 rfl) rfl rfl  ?_
  refine s_call0 (as := [(2, x0), (0, x1), (0, 0)]) (st1 := [(0, 400)]) (p1 := 9) (M2 := 234) (tk (n := 4) t288_0 rfl) rfl rfl rfl rfl rfl (fun r5 => ?_)
  refine s_imul (pc1 := 10) (tk (n := 5) t288_0 rfl) rfl rfl  ?_
  refine s_aload_n (pc1 := 11) (tk (n := 6) t288_0 rfl) rfl rfl rfl ?_
  refine s_iload_n (pc1 := 12) (tk (n := 7) t288_0 rfl) rfl rfl rfl ?_
  refine s_iload_n (pc1 := 13) (tk (n := 8) t288_0 rfl) rfl rfl rfl ?_
  refine s_iload_n (pc1 := 14) (tk (n := 9) t288_0 rfl) rfl rfl rfl ?_
  refine s_iload (pc1 := 16) (tk (n := 10) t288_0 rfl) rfl rfl rfl ?_
  refine s_call0 (as := [(2, x0), (0, x1), (0, x2), (0, x3), (0, x4)]) (st1 := [(0, w32 (400 * (vx r5)))]) (p1 := 19) (M2 := 245) (tk (n := 11) t288_0 rfl) rfl rfl rfl rfl rfl (fun r12 => ?_)
  refine s_iadd (pc1 := 20) (tk (n := 12) t288_0 rfl) rfl rfl  ?_
  refine s_aload_n (pc1 := 21) (tk (n := 13) t288_0 rfl) rfl rfl rfl ?_
  refine s_getf (pc1 := 24) (c := 12) (t1 := 2) (tk (n := 14) t288_0 rfl) rfl rfl (by decide) rfl rfl ?_
  refine s_iconst (pc1 := 25) (tk (n := 15) t288_0 rfl) rfl rfl  ?_
  refine s_iald (pc1 := 26) (tk (n := 16) t288_0 rfl) rfl rfl  ?_
  refine s_idiv (pc1 := 27) (tk (n := 17) t288_0 rfl) rfl rfl  ?_
  exact s_ret (tk (n := 18) t288_0 rfl) rfl rfl rfl
set_option maxRecDepth 100000 in
set_option maxHeartbeats 4000000 in
theorem e_X12_fetches (x0 : Int) (x1 : Int) (x2 : Int) (h : Hq) : vm 289 [(2, x0), (0, x1), (0, x2)] h = if 0 < x0 ∧ (kd x0).1 = 12 then if (kd (h.2 x0 13)).1 = 20 ∧ 0 ≤ (0 : Int) ∧ (0 : Int) < (kd (h.2 x0 13)).2 then if (h.2 (h.2 x0 13) 0) ≠ 0 then if 0 < x0 ∧ (kd x0).1 = 12 then if (0 < x0 ∧ (kd x0).1 = 12) ∧ True then vp 289 29 [(2, x0), (0, x1), (0, x2), (0, w32 (x1 + (w32 (4 * (x2.tmod (h.2 (h.2 x0 13) 0)))))), (0, w32 (x1 + (w32 (4 * (x2.tmod (h.2 (h.2 x0 13) 0)))))), (0, w32 (x1 + (w32 (4 * (x2.tmod (h.2 (h.2 x0 13) 0))))))] [] (h.1, stm h.2 x0 36 (w32 ((h.2 x0 36) + 1))) else none else none else none else none else none := by
  show vp 289 0 [(2, x0), (0, x1), (0, x2), (9, 0), (9, 0), (9, 0)] [] h = _
  refine s_iload_n (pc1 := 1) (tk (n := 0) t289_0 rfl) rfl rfl rfl ?_
  refine s_iconst (pc1 := 2) (tk (n := 1) t289_0 rfl) rfl rfl  ?_
  refine s_iload_n (pc1 := 3) (tk (n := 2) t289_0 rfl) rfl rfl rfl ?_
  refine s_aload_n (pc1 := 4) (tk (n := 3) t289_0 rfl) rfl rfl rfl ?_
  refine s_getf (pc1 := 7) (c := 12) (t1 := 2) (tk (n := 4) t289_0 rfl) rfl rfl (by decide) rfl rfl ?_
  refine s_iconst (pc1 := 8) (tk (n := 5) t289_0 rfl) rfl rfl  ?_
  refine s_iald (pc1 := 9) (tk (n := 6) t289_0 rfl) rfl rfl  ?_
  refine s_irem (pc1 := 10) (tk (n := 7) t289_0 rfl) rfl rfl  ?_
  refine s_imul (pc1 := 11) (tk (n := 8) t289_0 rfl) rfl rfl  ?_
  refine s_iadd (pc1 := 12) (tk (n := 9) t289_0 rfl) rfl rfl  ?_
  refine s_istore_n (pc1 := 13) (ls1 := [(2, x0), (0, x1), (0, x2), (0, w32 (x1 + (w32 (4 * (x2.tmod (h.2 (h.2 x0 13) 0)))))), (9, 0), (9, 0)]) (tk (n := 10) t289_0 rfl) rfl rfl rfl rfl ?_
  refine s_iload_n (pc1 := 14) (tk (n := 11) t289_0 rfl) rfl rfl rfl ?_
  refine s_istore (pc1 := 16) (ls1 := [(2, x0), (0, x1), (0, x2), (0, w32 (x1 + (w32 (4 * (x2.tmod (h.2 (h.2 x0 13) 0)))))), (0, w32 (x1 + (w32 (4 * (x2.tmod (h.2 (h.2 x0 13) 0)))))), (9, 0)]) (tk (n := 12) t289_0 rfl) rfl rfl rfl rfl ?_
  refine s_aload_n (pc1 := 17) (tk (n := 13) t289_0 rfl) rfl rfl rfl ?_
  refine s_dup2 (pc1 := 18) (tk (n := 14) t289_0 rfl) rfl rfl  ?_
  refine s_getf (pc1 := 21) (c := 12) (t1 := 0) (tk (n := 15) t289_0 rfl) rfl rfl (by decide) rfl rfl ?_
  refine s_iconst (pc1 := 22) (tk (n := 16) t289_0 rfl) rfl rfl  ?_
  refine s_iadd (pc1 := 23) (tk (n := 17) t289_0 rfl) rfl rfl  ?_
  refine s_putf0 (pc1 := 26) (c := 12) (tk (n := 18) t289_0 rfl) rfl rfl rfl rfl rfl ?_
  refine s_iload_n (pc1 := 27) (tk (n := 19) t289_0 rfl) rfl rfl rfl ?_
  refine s_istore (pc1 := 29) (ls1 := [(2, x0), (0, x1), (0, x2), (0, w32 (x1 + (w32 (4 * (x2.tmod (h.2 (h.2 x0 13) 0)))))), (0, w32 (x1 + (w32 (4 * (x2.tmod (h.2 (h.2 x0 13) 0)))))), (0, w32 (x1 + (w32 (4 * (x2.tmod (h.2 (h.2 x0 13) 0))))))]) (tk (n := 20) t289_0 rfl) rfl rfl rfl rfl ?_
  rfl
set_option maxRecDepth 100000 in
set_option maxHeartbeats 4000000 in
theorem e_X12_fetches_29 (x0 : Int) (z1 : Vl) (x2 : Int) (x3 : Int) (x4 : Int) (x5 : Int) (h : Hq) : vp 289 29 [(2, x0), z1, (0, x2), (0, x3), (0, x4), (0, x5)] [] h = if 0 < x0 ∧ (kd x0).1 = 12 then if (kd (h.2 x0 13)).1 = 20 ∧ 0 ≤ (1 : Int) ∧ (1 : Int) < (kd (h.2 x0 13)).2 then if x5 ≥ (w32 (x3 + (h.2 (h.2 x0 13) 1))) then (if 0 < x0 ∧ (kd x0).1 = 12 then if 0 < (h.2 x0 31) ∧ (kd (h.2 x0 31)).1 = 20 ∧ 0 ≤ x4 ∧ x4 < (kd (h.2 x0 31)).2 then if 0 < x0 ∧ (kd x0).1 = 12 then if 0 < x0 ∧ (kd x0).1 = 12 then if 0 < ((stm h.2 (h.2 x0 31) x4 x2) x0 32) ∧ (kd ((stm h.2 (h.2 x0 31) x4 x2) x0 32)).1 = 20 ∧ 0 ≤ x4 ∧ x4 < (kd ((stm h.2 (h.2 x0 31) x4 x2) x0 32)).2 then some (some (0, 0), (h.1, stm (stm h.2 (h.2 x0 31) x4 x2) ((stm h.2 (h.2 x0 31) x4 x2) x0 32) x4 ((stm h.2 (h.2 x0 31) x4 x2) x0 36))) else none else none else none else none else none) else (if 0 < x0 ∧ (kd x0).1 = 12 then if (kd (h.2 x0 31)).1 = 20 ∧ 0 ≤ x5 ∧ x5 < (kd (h.2 x0 31)).2 then if (h.2 (h.2 x0 31) x5) ≠ x2 then (if 0 < x0 ∧ (kd x0).1 = 12 then if (kd (h.2 x0 31)).1 = 20 ∧ 0 ≤ x4 ∧ x4 < (kd (h.2 x0 31)).2 then if (h.2 (h.2 x0 31) x4) = (-1) then (vp 289 29 [(2, x0), (9, 0), (0, x2), (0, x3), (0, x4), (0, w32 (x5 + 1))] [] h) else (if 0 < x0 ∧ (kd x0).1 = 12 then if (kd (h.2 x0 31)).1 = 20 ∧ 0 ≤ x5 ∧ x5 < (kd (h.2 x0 31)).2 then if (h.2 (h.2 x0 31) x5) = (-1) then (vp 289 29 [(2, x0), (9, 0), (0, x2), (0, x3), (0, x5), (0, w32 (x5 + 1))] [] h) else (if 0 < x0 ∧ (kd x0).1 = 12 then if (kd (h.2 x0 32)).1 = 20 ∧ 0 ≤ x5 ∧ x5 < (kd (h.2 x0 32)).2 then if 0 < x0 ∧ (kd x0).1 = 12 then if (kd (h.2 x0 32)).1 = 20 ∧ 0 ≤ x4 ∧ x4 < (kd (h.2 x0 32)).2 then if (h.2 (h.2 x0 32) x5) ≥ (h.2 (h.2 x0 32) x4) then (vp 289 29 [(2, x0), (9, 0), (0, x2), (0, x3), (0, x4), (0, w32 (x5 + 1))] [] h) else (vp 289 29 [(2, x0), (9, 0), (0, x2), (0, x3), (0, x5), (0, w32 (x5 + 1))] [] h) else none else none else none else none) else none else none) else none else none) else (if 0 < x0 ∧ (kd x0).1 = 12 then if 0 < x0 ∧ (kd x0).1 = 12 then if 0 < (h.2 x0 32) ∧ (kd (h.2 x0 32)).1 = 20 ∧ 0 ≤ x5 ∧ x5 < (kd (h.2 x0 32)).2 then some (some (0, 1), (h.1, stm h.2 (h.2 x0 32) x5 (h.2 x0 36))) else none else none else none) else none else none) else none else none := by
  refine s_fg (ls1 := [(2, x0), (9, 0), (0, x2), (0, x3), (0, x4), (0, x5)]) (tk (n := 21) t289_0 rfl) rfl ?_
  refine s_iload (pc1 := 31) (tk (n := 21) t289_0 rfl) rfl rfl rfl ?_
  refine s_iload_n (pc1 := 32) (tk (n := 22) t289_0 rfl) rfl rfl rfl ?_
  refine s_aload_n (pc1 := 33) (tk (n := 23) t289_0 rfl) rfl rfl rfl ?_
  refine s_getf (pc1 := 36) (c := 12) (t1 := 2) (tk (n := 24) t289_0 rfl) rfl rfl (by decide) rfl rfl ?_
  refine s_iconst (pc1 := 37) (tk (n := 25) t289_0 rfl) rfl rfl  ?_
  refine s_iald (pc1 := 38) (tk (n := 26) t289_0 rfl) rfl rfl  ?_
  refine s_iadd (pc1 := 39) (tk (n := 27) t289_0 rfl) rfl rfl  ?_
  refine s_ic_ge (pc1 := 42) (pt := 115) (tk (n := 28) t289_0 rfl) rfl rfl rfl ?_ ?_
  · refine s_aload_n (pc1 := 116) (tk (n := 8) t289_2 rfl) rfl rfl rfl ?_
    refine s_getf (pc1 := 119) (c := 12) (t1 := 2) (tk (n := 9) t289_2 rfl) rfl rfl (by decide) rfl rfl ?_
    refine s_iload (pc1 := 121) (tk (n := 10) t289_2 rfl) rfl rfl rfl ?_
    refine s_iload_n (pc1 := 122) (tk (n := 11) t289_2 rfl) rfl rfl rfl ?_
    refine s_iast (pc1 := 123) (tk (n := 12) t289_2 rfl) rfl rfl  ?_
    refine s_aload_n (pc1 := 124) (tk (n := 13) t289_2 rfl) rfl rfl rfl ?_
    refine s_getf (pc1 := 127) (c := 12) (t1 := 2) (tk (n := 14) t289_2 rfl) rfl rfl (by decide) rfl rfl ?_
    refine s_iload (pc1 := 129) (tk (n := 15) t289_2 rfl) rfl rfl rfl ?_
    refine s_aload_n (pc1 := 130) (tk (n := 16) t289_2 rfl) rfl rfl rfl ?_
    refine s_getf (pc1 := 133) (c := 12) (t1 := 0) (tk (n := 17) t289_2 rfl) rfl rfl (by decide) rfl rfl ?_
    refine s_iast (pc1 := 134) (tk (n := 18) t289_2 rfl) rfl rfl  ?_
    refine s_iconst (pc1 := 135) (tk (n := 19) t289_2 rfl) rfl rfl  ?_
    exact s_retY (tk (n := 20) t289_2 rfl) rfl rfl rfl (by decide)
  · refine s_aload_n (pc1 := 43) (tk (n := 29) t289_0 rfl) rfl rfl rfl ?_
    refine s_getf (pc1 := 46) (c := 12) (t1 := 2) (tk (n := 0) t289_1 rfl) rfl rfl (by decide) rfl rfl ?_
    refine s_iload (pc1 := 48) (tk (n := 1) t289_1 rfl) rfl rfl rfl ?_
    refine s_iald (pc1 := 49) (tk (n := 2) t289_1 rfl) rfl rfl  ?_
    refine s_iload_n (pc1 := 50) (tk (n := 3) t289_1 rfl) rfl rfl rfl ?_
    refine s_ic_ne (pc1 := 53) (pt := 66) (tk (n := 4) t289_1 rfl) rfl rfl rfl ?_ ?_
    · refine s_aload_n (pc1 := 67) (tk (n := 13) t289_1 rfl) rfl rfl rfl ?_
      refine s_getf (pc1 := 70) (c := 12) (t1 := 2) (tk (n := 14) t289_1 rfl) rfl rfl (by decide) rfl rfl ?_
      refine s_iload (pc1 := 72) (tk (n := 15) t289_1 rfl) rfl rfl rfl ?_
      refine s_iald (pc1 := 73) (tk (n := 16) t289_1 rfl) rfl rfl  ?_
      refine s_iconst (pc1 := 74) (tk (n := 17) t289_1 rfl) rfl rfl  ?_
      refine s_ic_eq (pc1 := 77) (pt := 109) (tk (n := 18) t289_1 rfl) rfl rfl rfl ?_ ?_
      · refine s_iinc (pc1 := 112) (ls1 := [(2, x0), (9, 0), (0, x2), (0, x3), (0, x4), (0, w32 (x5 + 1))]) (tk (n := 6) t289_2 rfl) rfl rfl rfl rfl ?_
        refine s_goto (pc1 := 29) (tk (n := 7) t289_2 rfl) rfl rfl ?_
        rfl
      · refine s_aload_n (pc1 := 78) (tk (n := 19) t289_1 rfl) rfl rfl rfl ?_
        refine s_getf (pc1 := 81) (c := 12) (t1 := 2) (tk (n := 20) t289_1 rfl) rfl rfl (by decide) rfl rfl ?_
        refine s_iload (pc1 := 83) (tk (n := 21) t289_1 rfl) rfl rfl rfl ?_
        refine s_iald (pc1 := 84) (tk (n := 22) t289_1 rfl) rfl rfl  ?_
        refine s_iconst (pc1 := 85) (tk (n := 23) t289_1 rfl) rfl rfl  ?_
        refine s_ic_eq (pc1 := 88) (pt := 105) (tk (n := 24) t289_1 rfl) rfl rfl rfl ?_ ?_
        · refine s_iload (pc1 := 107) (tk (n := 4) t289_2 rfl) rfl rfl rfl ?_
          refine s_istore (pc1 := 109) (ls1 := [(2, x0), (9, 0), (0, x2), (0, x3), (0, x5), (0, x5)]) (tk (n := 5) t289_2 rfl) rfl rfl rfl rfl ?_
          refine s_iinc (pc1 := 112) (ls1 := [(2, x0), (9, 0), (0, x2), (0, x3), (0, x5), (0, w32 (x5 + 1))]) (tk (n := 6) t289_2 rfl) rfl rfl rfl rfl ?_
          refine s_goto (pc1 := 29) (tk (n := 7) t289_2 rfl) rfl rfl ?_
          rfl
        · refine s_aload_n (pc1 := 89) (tk (n := 25) t289_1 rfl) rfl rfl rfl ?_
          refine s_getf (pc1 := 92) (c := 12) (t1 := 2) (tk (n := 26) t289_1 rfl) rfl rfl (by decide) rfl rfl ?_
          refine s_iload (pc1 := 94) (tk (n := 27) t289_1 rfl) rfl rfl rfl ?_
          refine s_iald (pc1 := 95) (tk (n := 28) t289_1 rfl) rfl rfl  ?_
          refine s_aload_n (pc1 := 96) (tk (n := 29) t289_1 rfl) rfl rfl rfl ?_
          refine s_getf (pc1 := 99) (c := 12) (t1 := 2) (tk (n := 0) t289_2 rfl) rfl rfl (by decide) rfl rfl ?_
          refine s_iload (pc1 := 101) (tk (n := 1) t289_2 rfl) rfl rfl rfl ?_
          refine s_iald (pc1 := 102) (tk (n := 2) t289_2 rfl) rfl rfl  ?_
          refine s_ic_ge (pc1 := 105) (pt := 109) (tk (n := 3) t289_2 rfl) rfl rfl rfl ?_ ?_
          · refine s_iinc (pc1 := 112) (ls1 := [(2, x0), (9, 0), (0, x2), (0, x3), (0, x4), (0, w32 (x5 + 1))]) (tk (n := 6) t289_2 rfl) rfl rfl rfl rfl ?_
            refine s_goto (pc1 := 29) (tk (n := 7) t289_2 rfl) rfl rfl ?_
            rfl
          · refine s_iload (pc1 := 107) (tk (n := 4) t289_2 rfl) rfl rfl rfl ?_
            refine s_istore (pc1 := 109) (ls1 := [(2, x0), (9, 0), (0, x2), (0, x3), (0, x5), (0, x5)]) (tk (n := 5) t289_2 rfl) rfl rfl rfl rfl ?_
            refine s_iinc (pc1 := 112) (ls1 := [(2, x0), (9, 0), (0, x2), (0, x3), (0, x5), (0, w32 (x5 + 1))]) (tk (n := 6) t289_2 rfl) rfl rfl rfl rfl ?_
            refine s_goto (pc1 := 29) (tk (n := 7) t289_2 rfl) rfl rfl ?_
            rfl
    · refine s_aload_n (pc1 := 54) (tk (n := 5) t289_1 rfl) rfl rfl rfl ?_
      refine s_getf (pc1 := 57) (c := 12) (t1 := 2) (tk (n := 6) t289_1 rfl) rfl rfl (by decide) rfl rfl ?_
      refine s_iload (pc1 := 59) (tk (n := 7) t289_1 rfl) rfl rfl rfl ?_
      refine s_aload_n (pc1 := 60) (tk (n := 8) t289_1 rfl) rfl rfl rfl ?_
      refine s_getf (pc1 := 63) (c := 12) (t1 := 0) (tk (n := 9) t289_1 rfl) rfl rfl (by decide) rfl rfl ?_
      refine s_iast (pc1 := 64) (tk (n := 10) t289_1 rfl) rfl rfl  ?_
      refine s_iconst (pc1 := 65) (tk (n := 11) t289_1 rfl) rfl rfl  ?_
      exact s_retY (tk (n := 12) t289_1 rfl) rfl rfl rfl (by decide)
set_option maxRecDepth 100000 in
set_option maxHeartbeats 4000000 in
theorem e_X12_fetch (x0 : Int) (x1 : Int) (x2 : Int) (x3 : Int) (x4 : Int) (h : Hq) : vm 290 [(2, x0), (0, x1), (0, x2), (0, x3), (0, x4)] h = if 0 < x0 ∧ (kd x0).1 = 12 then (vm 240 [(2, x0), (0, x1), (0, x2), (0, x3), (0, x4)] h).bind (fun r6 => if (vx r6) ≠ 0 then (if 0 < x0 ∧ (kd x0).1 = 12 then (vm 288 [(2, x0), (0, x1), (0, x2), (0, x3), (0, x4)] r6.2).bind (fun r13 => if 0 < x0 ∧ (kd x0).1 = 12 then if (kd (r13.2.2 x0 33)).1 = 20 ∧ 0 ≤ (vx r13) ∧ (vx r13) < (kd (r13.2.2 x0 33)).2 then if 0 < (r13.2.2 x0 33) ∧ (kd (r13.2.2 x0 33)).1 = 20 ∧ 0 ≤ (vx r13) ∧ (vx r13) < (kd (r13.2.2 x0 33)).2 then if 0 < x0 ∧ (kd x0).1 = 12 then (vm 289 [(2, x0), (0, 0), (0, vx r13)] (r13.2.1, stm r13.2.2 (r13.2.2 x0 33) (vx r13) (w32 ((r13.2.2 (r13.2.2 x0 33) (vx r13)) + 1)))).bind (fun r26 => if 0 < x0 ∧ (kd x0).1 = 12 then (vm 168 [(0, vx r26)] r26.2).bind (fun r32 => if (0 < x0 ∧ (kd x0).1 = 12) ∧ True then if 0 < x0 ∧ (kd x0).1 = 12 then if (vx r26) ≠ 0 then ((vm 168 [(0, 0)] (r32.2.1, stm r32.2.2 x0 34 (w32 ((r26.2.2 x0 34) + (vx r32))))).bind (fun r41 => if (0 < x0 ∧ (kd x0).1 = 12) ∧ True then (vm 168 [(0, vx r26)] (r41.2.1, stm r41.2.2 x0 35 (w32 (((stm r32.2.2 x0 34 (w32 ((r26.2.2 x0 34) + (vx r32)))) x0 35) + (vx r41))))).bind (fun r45 => some (some (0, vx r45), r45.2)) else none)) else ((vm 168 [(0, 1)] (r32.2.1, stm r32.2.2 x0 34 (w32 ((r26.2.2 x0 34) + (vx r32))))).bind (fun r42 => if (0 < x0 ∧ (kd x0).1 = 12) ∧ True then (vm 168 [(0, vx r26)] (r42.2.1, stm r42.2.2 x0 35 (w32 (((stm r32.2.2 x0 34 (w32 ((r26.2.2 x0 34) + (vx r32)))) x0 35) + (vx r42))))).bind (fun r46 => some (some (0, vx r46), r46.2)) else none)) else none else none) else none) else none else none else none else none) else none) else (some (some (0, (-1)), r6.2))) else none := by
  show vp 290 0 [(2, x0), (0, x1), (0, x2), (0, x3), (0, x4), (9, 0), (9, 0)] [] h = _
  refine s_aload_n (pc1 := 1) (tk (n := 0) t290_0 rfl) rfl rfl rfl ?_
  refine s_iload_n (pc1 := 2) (tk (n := 1) t290_0 rfl) rfl rfl rfl ?_
  refine s_iload_n (pc1 := 3) (tk (n := 2) t290_0 rfl) rfl rfl rfl ?_
  refine s_iload_n (pc1 := 4) (tk (n := 3) t290_0 rfl) rfl rfl rfl ?_
  refine s_iload (pc1 := 6) (tk (n := 4) t290_0 rfl) rfl rfl rfl ?_
  refine s_call0 (as := [(2, x0), (0, x1), (0, x2), (0, x3), (0, x4)]) (st1 := []) (p1 := 9) (M2 := 240) (tk (n := 5) t290_0 rfl) rfl rfl rfl rfl rfl (fun r6 => ?_)
  refine s_if_ne (pc1 := 12) (pt := 14) (tk (n := 6) t290_0 rfl) rfl rfl rfl ?_ ?_
  · refine s_aload_n (pc1 := 15) (tk (n := 9) t290_0 rfl) rfl rfl rfl ?_
    refine s_iload_n (pc1 := 16) (tk (n := 10) t290_0 rfl) rfl rfl rfl ?_
    refine s_iload_n (pc1 := 17) (tk (n := 11) t290_0 rfl) rfl rfl rfl ?_
    refine s_iload_n (pc1 := 18) (tk (n := 12) t290_0 rfl) rfl rfl rfl ?_
    refine s_iload (pc1 := 20) (tk (n := 13) t290_0 rfl) rfl rfl rfl ?_
    refine s_call0 (as := [(2, x0), (0, x1), (0, x2), (0, x3), (0, x4)]) (st1 := []) (p1 := 23) (M2 := 288) (tk (n := 14) t290_0 rfl) rfl rfl rfl rfl rfl (fun r13 => ?_)
    refine s_istore (pc1 := 25) (ls1 := [(2, x0), (0, x1), (0, x2), (0, x3), (0, x4), (0, vx r13), (9, 0)]) (tk (n := 15) t290_0 rfl) rfl rfl rfl rfl ?_
    refine s_aload_n (pc1 := 26) (tk (n := 16) t290_0 rfl) rfl rfl rfl ?_
    refine s_getf (pc1 := 29) (c := 12) (t1 := 2) (tk (n := 17) t290_0 rfl) rfl rfl (by decide) rfl rfl ?_
    refine s_iload (pc1 := 31) (tk (n := 18) t290_0 rfl) rfl rfl rfl ?_
    refine s_dupP (pc1 := 32) (tk (n := 19) t290_0 rfl) rfl rfl  ?_
    refine s_iald (pc1 := 33) (tk (n := 20) t290_0 rfl) rfl rfl  ?_
    refine s_iconst (pc1 := 34) (tk (n := 21) t290_0 rfl) rfl rfl  ?_
    refine s_iadd (pc1 := 35) (tk (n := 22) t290_0 rfl) rfl rfl  ?_
    refine s_iast (pc1 := 36) (tk (n := 23) t290_0 rfl) rfl rfl  ?_
    refine s_aload_n (pc1 := 37) (tk (n := 24) t290_0 rfl) rfl rfl rfl ?_
    refine s_iconst (pc1 := 38) (tk (n := 25) t290_0 rfl) rfl rfl  ?_
    refine s_iload (pc1 := 40) (tk (n := 26) t290_0 rfl) rfl rfl rfl ?_
    refine s_call0 (as := [(2, x0), (0, 0), (0, vx r13)]) (st1 := []) (p1 := 43) (M2 := 289) (tk (n := 27) t290_0 rfl) rfl rfl rfl rfl rfl (fun r26 => ?_)
    refine s_istore (pc1 := 45) (ls1 := [(2, x0), (0, x1), (0, x2), (0, x3), (0, x4), (0, vx r13), (0, vx r26)]) (tk (n := 28) t290_0 rfl) rfl rfl rfl rfl ?_
    refine s_aload_n (pc1 := 46) (tk (n := 29) t290_0 rfl) rfl rfl rfl ?_
    refine s_dup2 (pc1 := 47) (tk (n := 0) t290_1 rfl) rfl rfl  ?_
    refine s_getf (pc1 := 50) (c := 12) (t1 := 0) (tk (n := 1) t290_1 rfl) rfl rfl (by decide) rfl rfl ?_
    refine s_iload (pc1 := 52) (tk (n := 2) t290_1 rfl) rfl rfl rfl ?_
    refine s_callS0 (as := [(0, vx r26)]) (st1 := [(0, r26.2.2 x0 34), (2, x0)]) (p1 := 55) (M2 := 168) (tk (n := 3) t290_1 rfl) rfl rfl rfl rfl rfl (fun r32 => ?_)
    refine s_iadd (pc1 := 56) (tk (n := 4) t290_1 rfl) rfl rfl  ?_
    refine s_putf0 (pc1 := 59) (c := 12) (tk (n := 5) t290_1 rfl) rfl rfl rfl rfl rfl ?_
    refine s_aload_n (pc1 := 60) (tk (n := 6) t290_1 rfl) rfl rfl rfl ?_
    refine s_dup2 (pc1 := 61) (tk (n := 7) t290_1 rfl) rfl rfl  ?_
    refine s_getf (pc1 := 64) (c := 12) (t1 := 0) (tk (n := 8) t290_1 rfl) rfl rfl (by decide) rfl rfl ?_
    refine s_iload (pc1 := 66) (tk (n := 9) t290_1 rfl) rfl rfl rfl ?_
    refine s_if_ne (pc1 := 69) (pt := 73) (tk (n := 10) t290_1 rfl) rfl rfl rfl ?_ ?_
    · refine s_iconst (pc1 := 74) (tk (n := 13) t290_1 rfl) rfl rfl  ?_
      refine s_callS0 (as := [(0, 0)]) (st1 := [(0, (stm r32.2.2 x0 34 (w32 ((r26.2.2 x0 34) + (vx r32)))) x0 35), (2, x0)]) (p1 := 77) (M2 := 168) (tk (n := 14) t290_1 rfl) rfl rfl rfl rfl rfl (fun r41 => ?_)
      refine s_iadd (pc1 := 78) (tk (n := 15) t290_1 rfl) rfl rfl  ?_
      refine s_putf0 (pc1 := 81) (c := 12) (tk (n := 16) t290_1 rfl) rfl rfl rfl rfl rfl ?_
      refine s_iload (pc1 := 83) (tk (n := 17) t290_1 rfl) rfl rfl rfl ?_
      refine s_callS0 (as := [(0, vx r26)]) (st1 := []) (p1 := 86) (M2 := 168) (tk (n := 18) t290_1 rfl) rfl rfl rfl rfl rfl (fun r45 => ?_)
      exact s_ret (tk (n := 19) t290_1 rfl) rfl rfl rfl
    · refine s_iconst (pc1 := 70) (tk (n := 11) t290_1 rfl) rfl rfl  ?_
      refine s_goto (pc1 := 74) (tk (n := 12) t290_1 rfl) rfl rfl ?_
      refine s_callS0 (as := [(0, 1)]) (st1 := [(0, (stm r32.2.2 x0 34 (w32 ((r26.2.2 x0 34) + (vx r32)))) x0 35), (2, x0)]) (p1 := 77) (M2 := 168) (tk (n := 14) t290_1 rfl) rfl rfl rfl rfl rfl (fun r42 => ?_)
      refine s_iadd (pc1 := 78) (tk (n := 15) t290_1 rfl) rfl rfl  ?_
      refine s_putf0 (pc1 := 81) (c := 12) (tk (n := 16) t290_1 rfl) rfl rfl rfl rfl rfl ?_
      refine s_iload (pc1 := 83) (tk (n := 17) t290_1 rfl) rfl rfl rfl ?_
      refine s_callS0 (as := [(0, vx r26)]) (st1 := []) (p1 := 86) (M2 := 168) (tk (n := 18) t290_1 rfl) rfl rfl rfl rfl rfl (fun r46 => ?_)
      exact s_ret (tk (n := 19) t290_1 rfl) rfl rfl rfl
  · refine s_iconst (pc1 := 13) (tk (n := 7) t290_0 rfl) rfl rfl  ?_
    exact s_ret (tk (n := 8) t290_0 rfl) rfl rfl rfl
set_option maxRecDepth 100000 in
set_option maxHeartbeats 4000000 in
theorem e_X12_heldLines (x0 : Int) (h : Hq) : vm 291 [(2, x0)] h = vp 291 4 [(2, x0), (0, 0), (0, 0)] [] h := by
  show vp 291 0 [(2, x0), (9, 0), (9, 0)] [] h = _
  refine s_iconst (pc1 := 1) (tk (n := 0) t291_0 rfl) rfl rfl  ?_
  refine s_istore_n (pc1 := 2) (ls1 := [(2, x0), (0, 0), (9, 0)]) (tk (n := 1) t291_0 rfl) rfl rfl rfl rfl ?_
  refine s_iconst (pc1 := 3) (tk (n := 2) t291_0 rfl) rfl rfl  ?_
  refine s_istore_n (pc1 := 4) (ls1 := [(2, x0), (0, 0), (0, 0)]) (tk (n := 3) t291_0 rfl) rfl rfl rfl rfl ?_
  rfl
set_option maxRecDepth 100000 in
set_option maxHeartbeats 4000000 in
theorem e_X12_heldLines_4 (x0 : Int) (x1 : Int) (x2 : Int) (h : Hq) : vp 291 4 [(2, x0), (0, x1), (0, x2)] [] h = if x2 ≥ 32 then (some (some (0, x1), h)) else (if 0 < x0 ∧ (kd x0).1 = 12 then if (kd (h.2 x0 31)).1 = 20 ∧ 0 ≤ x2 ∧ x2 < (kd (h.2 x0 31)).2 then if (h.2 (h.2 x0 31) x2) = (-1) then ((vm 168 [(0, 0)] h).bind (fun r12 => vp 291 4 [(2, x0), (0, w32 (x1 + (vx r12))), (0, w32 (x2 + 1))] [] r12.2)) else ((vm 168 [(0, 1)] h).bind (fun r13 => vp 291 4 [(2, x0), (0, w32 (x1 + (vx r13))), (0, w32 (x2 + 1))] [] r13.2)) else none else none) := by
  refine s_iload_n (pc1 := 5) (tk (n := 4) t291_0 rfl) rfl rfl rfl ?_
  refine s_bipush (pc1 := 7) (tk (n := 5) t291_0 rfl) rfl rfl  ?_
  refine s_ic_ge (pc1 := 10) (pt := 37) (tk (n := 6) t291_0 rfl) rfl rfl rfl ?_ ?_
  · refine s_iload_n (pc1 := 38) (tk (n := 22) t291_0 rfl) rfl rfl rfl ?_
    exact s_ret (tk (n := 23) t291_0 rfl) rfl rfl rfl
  · refine s_iload_n (pc1 := 11) (tk (n := 7) t291_0 rfl) rfl rfl rfl ?_
    refine s_aload_n (pc1 := 12) (tk (n := 8) t291_0 rfl) rfl rfl rfl ?_
    refine s_getf (pc1 := 15) (c := 12) (t1 := 2) (tk (n := 9) t291_0 rfl) rfl rfl (by decide) rfl rfl ?_
    refine s_iload_n (pc1 := 16) (tk (n := 10) t291_0 rfl) rfl rfl rfl ?_
    refine s_iald (pc1 := 17) (tk (n := 11) t291_0 rfl) rfl rfl  ?_
    refine s_iconst (pc1 := 18) (tk (n := 12) t291_0 rfl) rfl rfl  ?_
    refine s_ic_eq (pc1 := 21) (pt := 25) (tk (n := 13) t291_0 rfl) rfl rfl rfl ?_ ?_
    · refine s_iconst (pc1 := 26) (tk (n := 16) t291_0 rfl) rfl rfl  ?_
      refine s_callS0 (as := [(0, 0)]) (st1 := [(0, x1)]) (p1 := 29) (M2 := 168) (tk (n := 17) t291_0 rfl) rfl rfl rfl rfl rfl (fun r12 => ?_)
      refine s_iadd (pc1 := 30) (tk (n := 18) t291_0 rfl) rfl rfl  ?_
      refine s_istore_n (pc1 := 31) (ls1 := [(2, x0), (0, w32 (x1 + (vx r12))), (0, x2)]) (tk (n := 19) t291_0 rfl) rfl rfl rfl rfl ?_
      refine s_iinc (pc1 := 34) (ls1 := [(2, x0), (0, w32 (x1 + (vx r12))), (0, w32 (x2 + 1))]) (tk (n := 20) t291_0 rfl) rfl rfl rfl rfl ?_
      refine s_goto (pc1 := 4) (tk (n := 21) t291_0 rfl) rfl rfl ?_
      rfl
    · refine s_iconst (pc1 := 22) (tk (n := 14) t291_0 rfl) rfl rfl  ?_
      refine s_goto (pc1 := 26) (tk (n := 15) t291_0 rfl) rfl rfl ?_
      refine s_callS0 (as := [(0, 1)]) (st1 := [(0, x1)]) (p1 := 29) (M2 := 168) (tk (n := 17) t291_0 rfl) rfl rfl rfl rfl rfl (fun r13 => ?_)
      refine s_iadd (pc1 := 30) (tk (n := 18) t291_0 rfl) rfl rfl  ?_
      refine s_istore_n (pc1 := 31) (ls1 := [(2, x0), (0, w32 (x1 + (vx r13))), (0, x2)]) (tk (n := 19) t291_0 rfl) rfl rfl rfl rfl ?_
      refine s_iinc (pc1 := 34) (ls1 := [(2, x0), (0, w32 (x1 + (vx r13))), (0, w32 (x2 + 1))]) (tk (n := 20) t291_0 rfl) rfl rfl rfl rfl ?_
      refine s_goto (pc1 := 4) (tk (n := 21) t291_0 rfl) rfl rfl ?_
      rfl
set_option maxRecDepth 100000 in
set_option maxHeartbeats 4000000 in
theorem e_X12_flush (x0 : Int) (h : Hq) : vm 292 [(2, x0)] h = if 0 < x0 ∧ (kd x0).1 = 12 then (vm 291 [(2, x0)] h).bind (fun r2 => if 0 < x0 ∧ (kd x0).1 = 12 then (vm 287 [(2, x0)] r2.2).bind (fun r5 => some (some (0, vx r2), r5.2)) else none) else none := by
  show vp 292 0 [(2, x0), (9, 0)] [] h = _
  refine s_aload_n (pc1 := 1) (tk (n := 0) t292_0 rfl) rfl rfl rfl ?_
  refine s_call0 (as := [(2, x0)]) (st1 := []) (p1 := 4) (M2 := 291) (tk (n := 1) t292_0 rfl) rfl rfl rfl rfl rfl (fun r2 => ?_)
  refine s_istore_n (pc1 := 5) (ls1 := [(2, x0), (0, vx r2)]) (tk (n := 2) t292_0 rfl) rfl rfl rfl rfl ?_
  refine s_aload_n (pc1 := 6) (tk (n := 3) t292_0 rfl) rfl rfl rfl ?_
  refine s_call9 (as := [(2, x0)]) (st1 := []) (p1 := 9) (M2 := 287) (tk (n := 4) t292_0 rfl) rfl rfl rfl rfl rfl (fun r5 => ?_)
  refine s_iload_n (pc1 := 10) (tk (n := 5) t292_0 rfl) rfl rfl rfl ?_
  exact s_ret (tk (n := 6) t292_0 rfl) rfl rfl rfl
set_option maxRecDepth 100000 in
set_option maxHeartbeats 4000000 in
theorem e_X12_step (x0 : Int) (x1 : Int) (x2 : Int) (x3 : Int) (x4 : Int) (h : Hq) : vm 293 [(2, x0), (0, x1), (0, x2), (0, x3), (0, x4)] h = if 0 < x0 ∧ (kd x0).1 = 12 then (vm 237 [(2, x0), (0, x1), (0, x2)] h).bind (fun r4 => if 0 < x0 ∧ (kd x0).1 = 12 then (vm 238 [(2, x0), (0, x1), (0, x2)] r4.2).bind (fun r9 => if x3 ≠ 0 then (if x3 ≠ 1 then (if x3 ≠ 2 then ((vm 167 [(0, 4), (0, vx r4)] r9.2).bind (fun r21 => (vm 167 [(0, 4), (0, vx r9)] r21.2).bind (fun r25 => if (w32 ((vx r21) * (vx r25))) ≠ 0 then if (w32 ((vx r21) * (vx r25))) ≠ 0 then if (vx r21) ≠ 0 then if (w32 ((vx r4).tdiv (vx r21))) ≠ 0 then if (vx r21) ≠ 0 then if (vx r21) ≠ 0 then if (w32 ((vx r4).tdiv (vx r21))) ≠ 0 then if (vx r21) ≠ 0 then some (some (0, w32 ((w32 ((w32 ((w32 ((w32 ((w32 ((w32 (x4.tdiv (w32 ((vx r21) * (vx r25))))).tdiv (w32 ((vx r4).tdiv (vx r21))))) * (vx r25))) + (w32 ((x4.tmod (w32 ((vx r21) * (vx r25)))).tdiv (vx r21))))) * (vx r4))) + (w32 (((w32 (x4.tdiv (w32 ((vx r21) * (vx r25))))).tmod (w32 ((vx r4).tdiv (vx r21)))) * (vx r21))))) + ((x4.tmod (w32 ((vx r21) * (vx r25)))).tmod (vx r21)))), r25.2) else none else none else none else none else none else none else none else none))) else (if 0 < x0 ∧ (kd x0).1 = 12 then (vm 247 [(2, x0), (0, x1), (0, x2), (0, x4)] r9.2).bind (fun r23 => some (some (0, vx r23), r23.2)) else none)) else (if (vx r9) ≠ 0 then if (vx r9) ≠ 0 then some (some (0, w32 ((w32 ((x4.tmod (vx r9)) * (vx r4))) + (w32 (x4.tdiv (vx r9))))), r9.2) else none else none)) else (some (some (0, x4), r9.2))) else none) else none := by
  show vp 293 0 [(2, x0), (0, x1), (0, x2), (0, x3), (0, x4), (9, 0), (9, 0), (9, 0), (9, 0), (9, 0), (9, 0)] [] h = _
  refine s_aload_n (pc1 := 1) (tk (n := 0) t293_0 rfl) rfl rfl rfl ?_
  refine s_iload_n (pc1 := 2) (tk (n := 1) t293_0 rfl) rfl rfl rfl ?_
  refine s_iload_n (pc1 := 3) (tk (n := 2) t293_0 rfl) rfl rfl rfl ?_
  refine s_call0 (as := [(2, x0), (0, x1), (0, x2)]) (st1 := []) (p1 := 6) (M2 := 237) (tk (n := 3) t293_0 rfl) rfl rfl rfl rfl rfl (fun r4 => ?_)
  refine s_istore (pc1 := 8) (ls1 := [(2, x0), (0, x1), (0, x2), (0, x3), (0, x4), (0, vx r4), (9, 0), (9, 0), (9, 0), (9, 0), (9, 0)]) (tk (n := 4) t293_0 rfl) rfl rfl rfl rfl ?_
  refine s_aload_n (pc1 := 9) (tk (n := 5) t293_0 rfl) rfl rfl rfl ?_
  refine s_iload_n (pc1 := 10) (tk (n := 6) t293_0 rfl) rfl rfl rfl ?_
  refine s_iload_n (pc1 := 11) (tk (n := 7) t293_0 rfl) rfl rfl rfl ?_
  refine s_call0 (as := [(2, x0), (0, x1), (0, x2)]) (st1 := []) (p1 := 14) (M2 := 238) (tk (n := 8) t293_0 rfl) rfl rfl rfl rfl rfl (fun r9 => ?_)
  refine s_istore (pc1 := 16) (ls1 := [(2, x0), (0, x1), (0, x2), (0, x3), (0, x4), (0, vx r4), (0, vx r9), (9, 0), (9, 0), (9, 0), (9, 0)]) (tk (n := 9) t293_0 rfl) rfl rfl rfl rfl ?_
  refine s_iload_n (pc1 := 17) (tk (n := 10) t293_0 rfl) rfl rfl rfl ?_
  refine s_if_ne (pc1 := 20) (pt := 23) (tk (n := 11) t293_0 rfl) rfl rfl rfl ?_ ?_
  · refine s_iload_n (pc1 := 24) (tk (n := 14) t293_0 rfl) rfl rfl rfl ?_
    refine s_iconst (pc1 := 25) (tk (n := 15) t293_0 rfl) rfl rfl  ?_
    refine s_ic_ne (pc1 := 28) (pt := 43) (tk (n := 16) t293_0 rfl) rfl rfl rfl ?_ ?_
    · refine s_iload_n (pc1 := 44) (tk (n := 27) t293_0 rfl) rfl rfl rfl ?_
      refine s_iconst (pc1 := 45) (tk (n := 28) t293_0 rfl) rfl rfl  ?_
      refine s_ic_ne (pc1 := 48) (pt := 57) (tk (n := 29) t293_0 rfl) rfl rfl rfl ?_ ?_
      · refine s_iconst (pc1 := 58) (tk (n := 6) t293_1 rfl) rfl rfl  ?_
        refine s_iload (pc1 := 60) (tk (n := 7) t293_1 rfl) rfl rfl rfl ?_
        refine s_callS0 (as := [(0, 4), (0, vx r4)]) (st1 := []) (p1 := 63) (M2 := 167) (tk (n := 8) t293_1 rfl) rfl rfl rfl rfl rfl (fun r21 => ?_)
        refine s_istore (pc1 := 65) (ls1 := [(2, x0), (0, x1), (0, x2), (0, x3), (0, x4), (0, vx r4), (0, vx r9), (0, vx r21), (9, 0), (9, 0), (9, 0)]) (tk (n := 9) t293_1 rfl) rfl rfl rfl rfl ?_
        refine s_iconst (pc1 := 66) (tk (n := 10) t293_1 rfl) rfl rfl  ?_
        refine s_iload (pc1 := 68) (tk (n := 11) t293_1 rfl) rfl rfl rfl ?_
        refine s_callS0 (as := [(0, 4), (0, vx r9)]) (st1 := []) (p1 := 71) (M2 := 167) (tk (n := 12) t293_1 rfl) rfl rfl rfl rfl rfl (fun r25 => ?_)
        refine s_istore (pc1 := 73) (ls1 := [(2, x0), (0, x1), (0, x2), (0, x3), (0, x4), (0, vx r4), (0, vx r9), (0, vx r21), (0, vx r25), (9, 0), (9, 0)]) (tk (n := 13) t293_1 rfl) rfl rfl rfl rfl ?_
        refine s_iload (pc1 := 75) (tk (n := 14) t293_1 rfl) rfl rfl rfl ?_
        refine s_iload (pc1 := 77) (tk (n := 15) t293_1 rfl) rfl rfl rfl ?_
        refine s_iload (pc1 := 79) (tk (n := 16) t293_1 rfl) rfl rfl rfl ?_
        refine s_imul (pc1 := 80) (tk (n := 17) t293_1 rfl) rfl rfl  ?_
        refine s_idiv (pc1 := 81) (tk (n := 18) t293_1 rfl) rfl rfl  ?_
        refine s_istore (pc1 := 83) (ls1 := [(2, x0), (0, x1), (0, x2), (0, x3), (0, x4), (0, vx r4), (0, vx r9), (0, vx r21), (0, vx r25), (0, w32 (x4.tdiv (w32 ((vx r21) * (vx r25))))), (9, 0)]) (tk (n := 19) t293_1 rfl) rfl rfl rfl rfl ?_
        refine s_iload (pc1 := 85) (tk (n := 20) t293_1 rfl) rfl rfl rfl ?_
        refine s_iload (pc1 := 87) (tk (n := 21) t293_1 rfl) rfl rfl rfl ?_
        refine s_iload (pc1 := 89) (tk (n := 22) t293_1 rfl) rfl rfl rfl ?_
        refine s_imul (pc1 := 90) (tk (n := 23) t293_1 rfl) rfl rfl  ?_
        refine s_irem (pc1 := 91) (tk (n := 24) t293_1 rfl) rfl rfl  ?_
        refine s_istore (pc1 := 93) (ls1 := [(2, x0), (0, x1), (0, x2), (0, x3), (0, x4), (0, vx r4), (0, vx r9), (0, vx r21), (0, vx r25), (0, w32 (x4.tdiv (w32 ((vx r21) * (vx r25))))), (0, x4.tmod (w32 ((vx r21) * (vx r25))))]) (tk (n := 25) t293_1 rfl) rfl rfl rfl rfl ?_
        refine s_iload (pc1 := 95) (tk (n := 26) t293_1 rfl) rfl rfl rfl ?_
        refine s_iload (pc1 := 97) (tk (n := 27) t293_1 rfl) rfl rfl rfl ?_
        refine s_iload (pc1 := 99) (tk (n := 28) t293_1 rfl) rfl rfl rfl ?_
        refine s_idiv (pc1 := 100) (tk (n := 29) t293_1 rfl) rfl rfl  ?_
        refine s_idiv (pc1 := 101) (tk (n := 0) t293_2 rfl) rfl rfl  ?_
        refine s_iload (pc1 := 103) (tk (n := 1) t293_2 rfl) rfl rfl rfl ?_
        refine s_imul (pc1 := 104) (tk (n := 2) t293_2 rfl) rfl rfl  ?_
        refine s_iload (pc1 := 106) (tk (n := 3) t293_2 rfl) rfl rfl rfl ?_
        refine s_iload (pc1 := 108) (tk (n := 4) t293_2 rfl) rfl rfl rfl ?_
        refine s_idiv (pc1 := 109) (tk (n := 5) t293_2 rfl) rfl rfl  ?_
        refine s_iadd (pc1 := 110) (tk (n := 6) t293_2 rfl) rfl rfl  ?_
        refine s_iload (pc1 := 112) (tk (n := 7) t293_2 rfl) rfl rfl rfl ?_
        refine s_imul (pc1 := 113) (tk (n := 8) t293_2 rfl) rfl rfl  ?_
        refine s_iload (pc1 := 115) (tk (n := 9) t293_2 rfl) rfl rfl rfl ?_
        refine s_iload (pc1 := 117) (tk (n := 10) t293_2 rfl) rfl rfl rfl ?_
        refine s_iload (pc1 := 119) (tk (n := 11) t293_2 rfl) rfl rfl rfl ?_
        refine s_idiv (pc1 := 120) (tk (n := 12) t293_2 rfl) rfl rfl  ?_
        refine s_irem (pc1 := 121) (tk (n := 13) t293_2 rfl) rfl rfl  ?_
        refine s_iload (pc1 := 123) (tk (n := 14) t293_2 rfl) rfl rfl rfl ?_
        refine s_imul (pc1 := 124) (tk (n := 15) t293_2 rfl) rfl rfl  ?_
        refine s_iadd (pc1 := 125) (tk (n := 16) t293_2 rfl) rfl rfl  ?_
        refine s_iload (pc1 := 127) (tk (n := 17) t293_2 rfl) rfl rfl rfl ?_
        refine s_iload (pc1 := 129) (tk (n := 18) t293_2 rfl) rfl rfl rfl ?_
        refine s_irem (pc1 := 130) (tk (n := 19) t293_2 rfl) rfl rfl  ?_
        refine s_iadd (pc1 := 131) (tk (n := 20) t293_2 rfl) rfl rfl  ?_
        exact s_ret (tk (n := 21) t293_2 rfl) rfl rfl rfl
      · refine s_aload_n (pc1 := 49) (tk (n := 0) t293_1 rfl) rfl rfl rfl ?_
        refine s_iload_n (pc1 := 50) (tk (n := 1) t293_1 rfl) rfl rfl rfl ?_
        refine s_iload_n (pc1 := 51) (tk (n := 2) t293_1 rfl) rfl rfl rfl ?_
        refine s_iload (pc1 := 53) (tk (n := 3) t293_1 rfl) rfl rfl rfl ?_
        refine s_call0 (as := [(2, x0), (0, x1), (0, x2), (0, x4)]) (st1 := []) (p1 := 56) (M2 := 247) (tk (n := 4) t293_1 rfl) rfl rfl rfl rfl rfl (fun r23 => ?_)
        exact s_ret (tk (n := 5) t293_1 rfl) rfl rfl rfl
    · refine s_iload (pc1 := 30) (tk (n := 17) t293_0 rfl) rfl rfl rfl ?_
      refine s_iload (pc1 := 32) (tk (n := 18) t293_0 rfl) rfl rfl rfl ?_
      refine s_irem (pc1 := 33) (tk (n := 19) t293_0 rfl) rfl rfl  ?_
      refine s_iload (pc1 := 35) (tk (n := 20) t293_0 rfl) rfl rfl rfl ?_
      refine s_imul (pc1 := 36) (tk (n := 21) t293_0 rfl) rfl rfl  ?_
      refine s_iload (pc1 := 38) (tk (n := 22) t293_0 rfl) rfl rfl rfl ?_
      refine s_iload (pc1 := 40) (tk (n := 23) t293_0 rfl) rfl rfl rfl ?_
      refine s_idiv (pc1 := 41) (tk (n := 24) t293_0 rfl) rfl rfl  ?_
      refine s_iadd (pc1 := 42) (tk (n := 25) t293_0 rfl) rfl rfl  ?_
      exact s_ret (tk (n := 26) t293_0 rfl) rfl rfl rfl
  · refine s_iload (pc1 := 22) (tk (n := 12) t293_0 rfl) rfl rfl rfl ?_
    exact s_ret (tk (n := 13) t293_0 rfl) rfl rfl rfl
set_option maxRecDepth 100000 in
set_option maxHeartbeats 4000000 in
theorem e_X12_missesOf (x0 : Int) (x1 : Int) (x2 : Int) (x3 : Int) (h : Hq) : vm 294 [(2, x0), (0, x1), (0, x2), (0, x3)] h = vp 294 4 [(2, x0), (0, x1), (0, x2), (0, x3), (0, 32), (9, 0), (9, 0), (9, 0)] [] h := by
  show vp 294 0 [(2, x0), (0, x1), (0, x2), (0, x3), (9, 0), (9, 0), (9, 0), (9, 0)] [] h = _
  refine s_bipush (pc1 := 2) (tk (n := 0) t294_0 rfl) rfl rfl  ?_
  refine s_istore (pc1 := 4) (ls1 := [(2, x0), (0, x1), (0, x2), (0, x3), (0, 32), (9, 0), (9, 0), (9, 0)]) (tk (n := 1) t294_0 rfl) rfl rfl rfl rfl ?_
  rfl
set_option maxRecDepth 100000 in
set_option maxHeartbeats 4000000 in
theorem e_X12_missesOf_4 (x0 : Int) (x1 : Int) (x2 : Int) (x3 : Int) (x4 : Int) (z5 : Vl) (z6 : Vl) (z7 : Vl) (h : Hq) : vp 294 4 [(2, x0), (0, x1), (0, x2), (0, x3), (0, x4), z5, z6, z7] [] h = if x4 ≥ 64 then (if 0 < x0 ∧ (kd x0).1 = 12 then (vm 237 [(2, x0), (0, x1), (0, x2)] h).bind (fun r9 => vp 294 39 [(2, x0), (0, x1), (0, x2), (0, x3), (0, 0), (0, vx r9), (0, 0), (9, 0)] [] r9.2) else none) else (if 0 < x0 ∧ (kd x0).1 = 12 then if 0 < (h.2 x0 31) ∧ (kd (h.2 x0 31)).1 = 20 ∧ 0 ≤ x4 ∧ x4 < (kd (h.2 x0 31)).2 then vp 294 4 [(2, x0), (0, x1), (0, x2), (0, x3), (0, w32 (x4 + 1)), (9, 0), (9, 0), (9, 0)] [] (h.1, stm h.2 (h.2 x0 31) x4 (-1)) else none else none) := by
  refine s_fg (ls1 := [(2, x0), (0, x1), (0, x2), (0, x3), (0, x4), (9, 0), (9, 0), (9, 0)]) (tk (n := 2) t294_0 rfl) rfl ?_
  refine s_iload (pc1 := 6) (tk (n := 2) t294_0 rfl) rfl rfl rfl ?_
  refine s_bipush (pc1 := 8) (tk (n := 3) t294_0 rfl) rfl rfl  ?_
  refine s_ic_ge (pc1 := 11) (pt := 25) (tk (n := 4) t294_0 rfl) rfl rfl rfl ?_ ?_
  · refine s_iconst (pc1 := 26) (tk (n := 12) t294_0 rfl) rfl rfl  ?_
    refine s_istore (pc1 := 28) (ls1 := [(2, x0), (0, x1), (0, x2), (0, x3), (0, 0), (9, 0), (9, 0), (9, 0)]) (tk (n := 13) t294_0 rfl) rfl rfl rfl rfl ?_
    refine s_aload_n (pc1 := 29) (tk (n := 14) t294_0 rfl) rfl rfl rfl ?_
    refine s_iload_n (pc1 := 30) (tk (n := 15) t294_0 rfl) rfl rfl rfl ?_
    refine s_iload_n (pc1 := 31) (tk (n := 16) t294_0 rfl) rfl rfl rfl ?_
    refine s_call0 (as := [(2, x0), (0, x1), (0, x2)]) (st1 := []) (p1 := 34) (M2 := 237) (tk (n := 17) t294_0 rfl) rfl rfl rfl rfl rfl (fun r9 => ?_)
    refine s_istore (pc1 := 36) (ls1 := [(2, x0), (0, x1), (0, x2), (0, x3), (0, 0), (0, vx r9), (9, 0), (9, 0)]) (tk (n := 18) t294_0 rfl) rfl rfl rfl rfl ?_
    refine s_iconst (pc1 := 37) (tk (n := 19) t294_0 rfl) rfl rfl  ?_
    refine s_istore (pc1 := 39) (ls1 := [(2, x0), (0, x1), (0, x2), (0, x3), (0, 0), (0, vx r9), (0, 0), (9, 0)]) (tk (n := 20) t294_0 rfl) rfl rfl rfl rfl ?_
    rfl
  · refine s_aload_n (pc1 := 12) (tk (n := 5) t294_0 rfl) rfl rfl rfl ?_
    refine s_getf (pc1 := 15) (c := 12) (t1 := 2) (tk (n := 6) t294_0 rfl) rfl rfl (by decide) rfl rfl ?_
    refine s_iload (pc1 := 17) (tk (n := 7) t294_0 rfl) rfl rfl rfl ?_
    refine s_iconst (pc1 := 18) (tk (n := 8) t294_0 rfl) rfl rfl  ?_
    refine s_iast (pc1 := 19) (tk (n := 9) t294_0 rfl) rfl rfl  ?_
    refine s_iinc (pc1 := 22) (ls1 := [(2, x0), (0, x1), (0, x2), (0, x3), (0, w32 (x4 + 1)), (9, 0), (9, 0), (9, 0)]) (tk (n := 10) t294_0 rfl) rfl rfl rfl rfl ?_
    refine s_goto (pc1 := 4) (tk (n := 11) t294_0 rfl) rfl rfl ?_
    rfl
set_option maxRecDepth 100000 in
set_option maxHeartbeats 4000000 in
theorem e_X12_missesOf_39 (x0 : Int) (x1 : Int) (x2 : Int) (x3 : Int) (x4 : Int) (x5 : Int) (x6 : Int) (z7 : Vl) (h : Hq) : vp 294 39 [(2, x0), (0, x1), (0, x2), (0, x3), (0, x4), (0, x5), (0, x6), z7] [] h = if 0 < x0 ∧ (kd x0).1 = 12 then (vm 238 [(2, x0), (0, x1), (0, x2)] h).bind (fun r6 => if x6 ≥ (w32 (x5 * (vx r6))) then (some (some (0, x4), r6.2)) else (if 0 < x0 ∧ (kd x0).1 = 12 then (vm 293 [(2, x0), (0, x1), (0, x2), (0, x3), (0, x6)] r6.2).bind (fun r14 => if x5 ≠ 0 then if x5 ≠ 0 then if 0 < x0 ∧ (kd x0).1 = 12 then (vm 288 [(2, x0), (0, x1), (0, x2), (0, (vx r14).tmod x5), (0, w32 ((vx r14).tdiv x5))] r14.2).bind (fun r28 => if 0 < x0 ∧ (kd x0).1 = 12 then (vm 289 [(2, x0), (0, 32), (0, vx r28)] r28.2).bind (fun r29 => if (vx r29) ≠ 0 then ((vm 168 [(0, 0)] r29.2).bind (fun r32 => vp 294 39 [(2, x0), (0, x1), (0, x2), (0, x3), (0, w32 (x4 + (vx r32))), (0, x5), (0, w32 (x6 + 1)), (0, vx r14)] [] r32.2)) else ((vm 168 [(0, 1)] r29.2).bind (fun r33 => vp 294 39 [(2, x0), (0, x1), (0, x2), (0, x3), (0, w32 (x4 + (vx r33))), (0, x5), (0, w32 (x6 + 1)), (0, vx r14)] [] r33.2))) else none) else none else none else none) else none)) else none := by
  refine s_fg (ls1 := [(2, x0), (0, x1), (0, x2), (0, x3), (0, x4), (0, x5), (0, x6), (9, 0)]) (tk (n := 21) t294_0 rfl) rfl ?_
  refine s_iload (pc1 := 41) (tk (n := 21) t294_0 rfl) rfl rfl rfl ?_
  refine s_iload (pc1 := 43) (tk (n := 22) t294_0 rfl) rfl rfl rfl ?_
  refine s_aload_n (pc1 := 44) (tk (n := 23) t294_0 rfl) rfl rfl rfl ?_
  refine s_iload_n (pc1 := 45) (tk (n := 24) t294_0 rfl) rfl rfl rfl ?_
  refine s_iload_n (pc1 := 46) (tk (n := 25) t294_0 rfl) rfl rfl rfl ?_
  refine s_call0 (as := [(2, x0), (0, x1), (0, x2)]) (st1 := [(0, x5), (0, x6)]) (p1 := 49) (M2 := 238) (tk (n := 26) t294_0 rfl) rfl rfl rfl rfl rfl (fun r6 => ?_)
  refine s_imul (pc1 := 50) (tk (n := 27) t294_0 rfl) rfl rfl  ?_
  refine s_ic_ge (pc1 := 53) (pt := 108) (tk (n := 28) t294_0 rfl) rfl rfl rfl ?_ ?_
  · refine s_iload (pc1 := 110) (tk (n := 29) t294_1 rfl) rfl rfl rfl ?_
    exact s_ret (tk (n := 0) t294_2 rfl) rfl rfl rfl
  · refine s_aload_n (pc1 := 54) (tk (n := 29) t294_0 rfl) rfl rfl rfl ?_
    refine s_iload_n (pc1 := 55) (tk (n := 0) t294_1 rfl) rfl rfl rfl ?_
    refine s_iload_n (pc1 := 56) (tk (n := 1) t294_1 rfl) rfl rfl rfl ?_
    refine s_iload_n (pc1 := 57) (tk (n := 2) t294_1 rfl) rfl rfl rfl ?_
    refine s_iload (pc1 := 59) (tk (n := 3) t294_1 rfl) rfl rfl rfl ?_
    refine s_call0 (as := [(2, x0), (0, x1), (0, x2), (0, x3), (0, x6)]) (st1 := []) (p1 := 62) (M2 := 293) (tk (n := 4) t294_1 rfl) rfl rfl rfl rfl rfl (fun r14 => ?_)
    refine s_istore (pc1 := 64) (ls1 := [(2, x0), (0, x1), (0, x2), (0, x3), (0, x4), (0, x5), (0, x6), (0, vx r14)]) (tk (n := 5) t294_1 rfl) rfl rfl rfl rfl ?_
    refine s_iload (pc1 := 66) (tk (n := 6) t294_1 rfl) rfl rfl rfl ?_
    refine s_aload_n (pc1 := 67) (tk (n := 7) t294_1 rfl) rfl rfl rfl ?_
    refine s_bipush (pc1 := 69) (tk (n := 8) t294_1 rfl) rfl rfl  ?_
    refine s_aload_n (pc1 := 70) (tk (n := 9) t294_1 rfl) rfl rfl rfl ?_
    refine s_iload_n (pc1 := 71) (tk (n := 10) t294_1 rfl) rfl rfl rfl ?_
    refine s_iload_n (pc1 := 72) (tk (n := 11) t294_1 rfl) rfl rfl rfl ?_
    refine s_iload (pc1 := 74) (tk (n := 12) t294_1 rfl) rfl rfl rfl ?_
    refine s_iload (pc1 := 76) (tk (n := 13) t294_1 rfl) rfl rfl rfl ?_
    refine s_irem (pc1 := 77) (tk (n := 14) t294_1 rfl) rfl rfl  ?_
    refine s_iload (pc1 := 79) (tk (n := 15) t294_1 rfl) rfl rfl rfl ?_
    refine s_iload (pc1 := 81) (tk (n := 16) t294_1 rfl) rfl rfl rfl ?_
    refine s_idiv (pc1 := 82) (tk (n := 17) t294_1 rfl) rfl rfl  ?_
    refine s_call0 (as := [(2, x0), (0, x1), (0, x2), (0, (vx r14).tmod x5), (0, w32 ((vx r14).tdiv x5))]) (st1 := [(0, 32), (2, x0), (0, x4)]) (p1 := 85) (M2 := 288) (tk (n := 18) t294_1 rfl) rfl rfl rfl rfl rfl (fun r28 => ?_)
    refine s_call0 (as := [(2, x0), (0, 32), (0, vx r28)]) (st1 := [(0, x4)]) (p1 := 88) (M2 := 289) (tk (n := 19) t294_1 rfl) rfl rfl rfl rfl rfl (fun r29 => ?_)
    refine s_if_ne (pc1 := 91) (pt := 95) (tk (n := 20) t294_1 rfl) rfl rfl rfl ?_ ?_
    · refine s_iconst (pc1 := 96) (tk (n := 23) t294_1 rfl) rfl rfl  ?_
      refine s_callS0 (as := [(0, 0)]) (st1 := [(0, x4)]) (p1 := 99) (M2 := 168) (tk (n := 24) t294_1 rfl) rfl rfl rfl rfl rfl (fun r32 => ?_)
      refine s_iadd (pc1 := 100) (tk (n := 25) t294_1 rfl) rfl rfl  ?_
      refine s_istore (pc1 := 102) (ls1 := [(2, x0), (0, x1), (0, x2), (0, x3), (0, w32 (x4 + (vx r32))), (0, x5), (0, x6), (0, vx r14)]) (tk (n := 26) t294_1 rfl) rfl rfl rfl rfl ?_
      refine s_iinc (pc1 := 105) (ls1 := [(2, x0), (0, x1), (0, x2), (0, x3), (0, w32 (x4 + (vx r32))), (0, x5), (0, w32 (x6 + 1)), (0, vx r14)]) (tk (n := 27) t294_1 rfl) rfl rfl rfl rfl ?_
      refine s_goto (pc1 := 39) (tk (n := 28) t294_1 rfl) rfl rfl ?_
      rfl
    · refine s_iconst (pc1 := 92) (tk (n := 21) t294_1 rfl) rfl rfl  ?_
      refine s_goto (pc1 := 96) (tk (n := 22) t294_1 rfl) rfl rfl ?_
      refine s_callS0 (as := [(0, 1)]) (st1 := [(0, x4)]) (p1 := 99) (M2 := 168) (tk (n := 24) t294_1 rfl) rfl rfl rfl rfl rfl (fun r33 => ?_)
      refine s_iadd (pc1 := 100) (tk (n := 25) t294_1 rfl) rfl rfl  ?_
      refine s_istore (pc1 := 102) (ls1 := [(2, x0), (0, x1), (0, x2), (0, x3), (0, w32 (x4 + (vx r33))), (0, x5), (0, x6), (0, vx r14)]) (tk (n := 26) t294_1 rfl) rfl rfl rfl rfl ?_
      refine s_iinc (pc1 := 105) (ls1 := [(2, x0), (0, x1), (0, x2), (0, x3), (0, w32 (x4 + (vx r33))), (0, x5), (0, w32 (x6 + 1)), (0, vx r14)]) (tk (n := 27) t294_1 rfl) rfl rfl rfl rfl ?_
      refine s_goto (pc1 := 39) (tk (n := 28) t294_1 rfl) rfl rfl ?_
      rfl
set_option maxRecDepth 100000 in
set_option maxHeartbeats 4000000 in
theorem e_X12_walk (x0 : Int) (x1 : Int) (x2 : Int) (x3 : Int) (h : Hq) : vm 295 [(2, x0), (0, x1), (0, x2), (0, x3)] h = if 0 < x0 ∧ (kd x0).1 = 12 then (vm 236 [(2, x0), (0, x1), (0, x2)] h).bind (fun r4 => if (vx r4) = 0 then (some (some (0, (-1)), r4.2)) else ((vm 165 [(0, x3), (0, 0), (0, 3)] r4.2).bind (fun r9 => if (vx r9) = 0 then (some (some (0, (-1)), r9.2)) else (if 0 < x0 ∧ (kd x0).1 = 12 then (vm 294 [(2, x0), (0, x1), (0, x2), (0, x3)] r9.2).bind (fun r15 => some (some (0, vx r15), r15.2)) else none)))) else none := by
  show vp 295 0 [(2, x0), (0, x1), (0, x2), (0, x3)] [] h = _
  refine s_aload_n (pc1 := 1) (tk (n := 0) t295_0 rfl) rfl rfl rfl ?_
  refine s_iload_n (pc1 := 2) (tk (n := 1) t295_0 rfl) rfl rfl rfl ?_
  refine s_iload_n (pc1 := 3) (tk (n := 2) t295_0 rfl) rfl rfl rfl ?_
  refine s_call0 (as := [(2, x0), (0, x1), (0, x2)]) (st1 := []) (p1 := 6) (M2 := 236) (tk (n := 3) t295_0 rfl) rfl rfl rfl rfl rfl (fun r4 => ?_)
  refine s_if_eq (pc1 := 9) (pt := 28) (tk (n := 4) t295_0 rfl) rfl rfl rfl ?_ ?_
  · refine s_iconst (pc1 := 29) (tk (n := 16) t295_0 rfl) rfl rfl  ?_
    exact s_ret (tk (n := 17) t295_0 rfl) rfl rfl rfl
  · refine s_iload_n (pc1 := 10) (tk (n := 5) t295_0 rfl) rfl rfl rfl ?_
    refine s_iconst (pc1 := 11) (tk (n := 6) t295_0 rfl) rfl rfl  ?_
    refine s_iconst (pc1 := 12) (tk (n := 7) t295_0 rfl) rfl rfl  ?_
    refine s_callS0 (as := [(0, x3), (0, 0), (0, 3)]) (st1 := []) (p1 := 15) (M2 := 165) (tk (n := 8) t295_0 rfl) rfl rfl rfl rfl rfl (fun r9 => ?_)
    refine s_if_eq (pc1 := 18) (pt := 28) (tk (n := 9) t295_0 rfl) rfl rfl rfl ?_ ?_
    · refine s_iconst (pc1 := 29) (tk (n := 16) t295_0 rfl) rfl rfl  ?_
      exact s_ret (tk (n := 17) t295_0 rfl) rfl rfl rfl
    · refine s_aload_n (pc1 := 19) (tk (n := 10) t295_0 rfl) rfl rfl rfl ?_
      refine s_iload_n (pc1 := 20) (tk (n := 11) t295_0 rfl) rfl rfl rfl ?_
      refine s_iload_n (pc1 := 21) (tk (n := 12) t295_0 rfl) rfl rfl rfl ?_
      refine s_iload_n (pc1 := 22) (tk (n := 13) t295_0 rfl) rfl rfl rfl ?_
      refine s_call0 (as := [(2, x0), (0, x1), (0, x2), (0, x3)]) (st1 := []) (p1 := 25) (M2 := 294) (tk (n := 14) t295_0 rfl) rfl rfl rfl rfl rfl (fun r15 => ?_)
      refine s_goto (pc1 := 29) (tk (n := 15) t295_0 rfl) rfl rfl ?_
      exact s_ret (tk (n := 17) t295_0 rfl) rfl rfl rfl
set_option maxRecDepth 100000 in
set_option maxHeartbeats 4000000 in
theorem e_X12_missesAs (x0 : Int) (x1 : Int) (x2 : Int) (x3 : Int) (x4 : Int) (h : Hq) : vm 296 [(2, x0), (0, x1), (0, x2), (0, x3), (0, x4)] h = if (0 < x0 ∧ (kd x0).1 = 12) ∧ True then if 0 < x0 ∧ (kd x0).1 = 12 then (vm 294 [(2, x0), (0, x1), (0, x2), (0, x3)] (h.1, stm h.2 x0 30 x4)).bind (fun r8 => if (0 < x0 ∧ (kd x0).1 = 12) ∧ True then some (some (0, vx r8), (r8.2.1, stm r8.2.2 x0 30 (-1))) else none) else none else none := by
  show vp 296 0 [(2, x0), (0, x1), (0, x2), (0, x3), (0, x4), (9, 0)] [] h = _
  refine s_aload_n (pc1 := 1) (tk (n := 0) t296_0 rfl) rfl rfl rfl ?_
  refine s_iload (pc1 := 3) (tk (n := 1) t296_0 rfl) rfl rfl rfl ?_
  refine s_putf0 (pc1 := 6) (c := 12) (tk (n := 2) t296_0 rfl) rfl rfl rfl rfl rfl ?_
  refine s_aload_n (pc1 := 7) (tk (n := 3) t296_0 rfl) rfl rfl rfl ?_
  refine s_iload_n (pc1 := 8) (tk (n := 4) t296_0 rfl) rfl rfl rfl ?_
  refine s_iload_n (pc1 := 9) (tk (n := 5) t296_0 rfl) rfl rfl rfl ?_
  refine s_iload_n (pc1 := 10) (tk (n := 6) t296_0 rfl) rfl rfl rfl ?_
  refine s_call0 (as := [(2, x0), (0, x1), (0, x2), (0, x3)]) (st1 := []) (p1 := 13) (M2 := 294) (tk (n := 7) t296_0 rfl) rfl rfl rfl rfl rfl (fun r8 => ?_)
  refine s_istore (pc1 := 15) (ls1 := [(2, x0), (0, x1), (0, x2), (0, x3), (0, x4), (0, vx r8)]) (tk (n := 8) t296_0 rfl) rfl rfl rfl rfl ?_
  refine s_aload_n (pc1 := 16) (tk (n := 9) t296_0 rfl) rfl rfl rfl ?_
  refine s_iconst (pc1 := 17) (tk (n := 10) t296_0 rfl) rfl rfl  ?_
  refine s_putf0 (pc1 := 20) (c := 12) (tk (n := 11) t296_0 rfl) rfl rfl rfl rfl rfl ?_
  refine s_iload (pc1 := 22) (tk (n := 12) t296_0 rfl) rfl rfl rfl ?_
  exact s_ret (tk (n := 13) t296_0 rfl) rfl rfl rfl
set_option maxRecDepth 100000 in
set_option maxHeartbeats 4000000 in
theorem e_X12_isWalk (x0 : Int) (x1 : Int) (x2 : Int) (x3 : Int) (h : Hq) : vm 297 [(2, x0), (0, x1), (0, x2), (0, x3)] h = if 0 < x0 ∧ (kd x0).1 = 12 then (vm 236 [(2, x0), (0, x1), (0, x2)] h).bind (fun r4 => if (vx r4) = 0 then (some (some (0, 0), r4.2)) else ((vm 165 [(0, x3), (0, 0), (0, 3)] r4.2).bind (fun r9 => if (vx r9) = 0 then (some (some (0, 0), r9.2)) else (some (some (0, 1), r9.2))))) else none := by
  show vp 297 0 [(2, x0), (0, x1), (0, x2), (0, x3)] [] h = _
  refine s_aload_n (pc1 := 1) (tk (n := 0) t297_0 rfl) rfl rfl rfl ?_
  refine s_iload_n (pc1 := 2) (tk (n := 1) t297_0 rfl) rfl rfl rfl ?_
  refine s_iload_n (pc1 := 3) (tk (n := 2) t297_0 rfl) rfl rfl rfl ?_
  refine s_call0 (as := [(2, x0), (0, x1), (0, x2)]) (st1 := []) (p1 := 6) (M2 := 236) (tk (n := 3) t297_0 rfl) rfl rfl rfl rfl rfl (fun r4 => ?_)
  refine s_if_eq (pc1 := 9) (pt := 22) (tk (n := 4) t297_0 rfl) rfl rfl rfl ?_ ?_
  · refine s_iconst (pc1 := 23) (tk (n := 12) t297_0 rfl) rfl rfl  ?_
    exact s_retY (tk (n := 13) t297_0 rfl) rfl rfl rfl (by decide)
  · refine s_iload_n (pc1 := 10) (tk (n := 5) t297_0 rfl) rfl rfl rfl ?_
    refine s_iconst (pc1 := 11) (tk (n := 6) t297_0 rfl) rfl rfl  ?_
    refine s_iconst (pc1 := 12) (tk (n := 7) t297_0 rfl) rfl rfl  ?_
    refine s_callS0 (as := [(0, x3), (0, 0), (0, 3)]) (st1 := []) (p1 := 15) (M2 := 165) (tk (n := 8) t297_0 rfl) rfl rfl rfl rfl rfl (fun r9 => ?_)
    refine s_if_eq (pc1 := 18) (pt := 22) (tk (n := 9) t297_0 rfl) rfl rfl rfl ?_ ?_
    · refine s_iconst (pc1 := 23) (tk (n := 12) t297_0 rfl) rfl rfl  ?_
      exact s_retY (tk (n := 13) t297_0 rfl) rfl rfl rfl (by decide)
    · refine s_iconst (pc1 := 19) (tk (n := 10) t297_0 rfl) rfl rfl  ?_
      refine s_goto (pc1 := 23) (tk (n := 11) t297_0 rfl) rfl rfl ?_
      exact s_retY (tk (n := 13) t297_0 rfl) rfl rfl rfl (by decide)
set_option maxRecDepth 100000 in
set_option maxHeartbeats 4000000 in
theorem e_X12_walkAs (x0 : Int) (x1 : Int) (x2 : Int) (x3 : Int) (x4 : Int) (h : Hq) : vm 298 [(2, x0), (0, x1), (0, x2), (0, x3), (0, x4)] h = if 0 < x0 ∧ (kd x0).1 = 12 then (vm 297 [(2, x0), (0, x1), (0, x2), (0, x3)] h).bind (fun r5 => if (vx r5) = 0 then (some (some (0, (-1)), r5.2)) else ((vm 165 [(0, x4), (0, 0), (0, 2)] r5.2).bind (fun r10 => if (vx r10) = 0 then (some (some (0, (-1)), r10.2)) else (if 0 < x0 ∧ (kd x0).1 = 12 then (vm 296 [(2, x0), (0, x1), (0, x2), (0, x3), (0, x4)] r10.2).bind (fun r17 => some (some (0, vx r17), r17.2)) else none)))) else none := by
  show vp 298 0 [(2, x0), (0, x1), (0, x2), (0, x3), (0, x4)] [] h = _
  refine s_aload_n (pc1 := 1) (tk (n := 0) t298_0 rfl) rfl rfl rfl ?_
  refine s_iload_n (pc1 := 2) (tk (n := 1) t298_0 rfl) rfl rfl rfl ?_
  refine s_iload_n (pc1 := 3) (tk (n := 2) t298_0 rfl) rfl rfl rfl ?_
  refine s_iload_n (pc1 := 4) (tk (n := 3) t298_0 rfl) rfl rfl rfl ?_
  refine s_call0 (as := [(2, x0), (0, x1), (0, x2), (0, x3)]) (st1 := []) (p1 := 7) (M2 := 297) (tk (n := 4) t298_0 rfl) rfl rfl rfl rfl rfl (fun r5 => ?_)
  refine s_if_eq (pc1 := 10) (pt := 32) (tk (n := 5) t298_0 rfl) rfl rfl rfl ?_ ?_
  · refine s_iconst (pc1 := 33) (tk (n := 18) t298_0 rfl) rfl rfl  ?_
    exact s_ret (tk (n := 19) t298_0 rfl) rfl rfl rfl
  · refine s_iload (pc1 := 12) (tk (n := 6) t298_0 rfl) rfl rfl rfl ?_
    refine s_iconst (pc1 := 13) (tk (n := 7) t298_0 rfl) rfl rfl  ?_
    refine s_iconst (pc1 := 14) (tk (n := 8) t298_0 rfl) rfl rfl  ?_
    refine s_callS0 (as := [(0, x4), (0, 0), (0, 2)]) (st1 := []) (p1 := 17) (M2 := 165) (tk (n := 9) t298_0 rfl) rfl rfl rfl rfl rfl (fun r10 => ?_)
    refine s_if_eq (pc1 := 20) (pt := 32) (tk (n := 10) t298_0 rfl) rfl rfl rfl ?_ ?_
    · refine s_iconst (pc1 := 33) (tk (n := 18) t298_0 rfl) rfl rfl  ?_
      exact s_ret (tk (n := 19) t298_0 rfl) rfl rfl rfl
    · refine s_aload_n (pc1 := 21) (tk (n := 11) t298_0 rfl) rfl rfl rfl ?_
      refine s_iload_n (pc1 := 22) (tk (n := 12) t298_0 rfl) rfl rfl rfl ?_
      refine s_iload_n (pc1 := 23) (tk (n := 13) t298_0 rfl) rfl rfl rfl ?_
      refine s_iload_n (pc1 := 24) (tk (n := 14) t298_0 rfl) rfl rfl rfl ?_
      refine s_iload (pc1 := 26) (tk (n := 15) t298_0 rfl) rfl rfl rfl ?_
      refine s_call0 (as := [(2, x0), (0, x1), (0, x2), (0, x3), (0, x4)]) (st1 := []) (p1 := 29) (M2 := 296) (tk (n := 16) t298_0 rfl) rfl rfl rfl rfl rfl (fun r17 => ?_)
      refine s_goto (pc1 := 33) (tk (n := 17) t298_0 rfl) rfl rfl ?_
      exact s_ret (tk (n := 19) t298_0 rfl) rfl rfl rfl
set_option maxRecDepth 100000 in
set_option maxHeartbeats 4000000 in
theorem e_X12_bestOrder (x0 : Int) (x1 : Int) (x2 : Int) (x3 : Int) (h : Hq) : vm 299 [(2, x0), (0, x1), (0, x2), (0, x3)] h = if 0 < x0 ∧ (kd x0).1 = 12 then (vm 297 [(2, x0), (0, x1), (0, x2), (0, x3)] h).bind (fun r5 => if (vx r5) ≠ 0 then (vp 299 18 [(2, x0), (0, x1), (0, x2), (0, x3), (0, 0), (0, 1)] [] r5.2) else (some (some (0, (-1)), r5.2))) else none := by
  show vp 299 0 [(2, x0), (0, x1), (0, x2), (0, x3), (9, 0), (9, 0)] [] h = _
  refine s_aload_n (pc1 := 1) (tk (n := 0) t299_0 rfl) rfl rfl rfl ?_
  refine s_iload_n (pc1 := 2) (tk (n := 1) t299_0 rfl) rfl rfl rfl ?_
  refine s_iload_n (pc1 := 3) (tk (n := 2) t299_0 rfl) rfl rfl rfl ?_
  refine s_iload_n (pc1 := 4) (tk (n := 3) t299_0 rfl) rfl rfl rfl ?_
  refine s_call0 (as := [(2, x0), (0, x1), (0, x2), (0, x3)]) (st1 := []) (p1 := 7) (M2 := 297) (tk (n := 4) t299_0 rfl) rfl rfl rfl rfl rfl (fun r5 => ?_)
  refine s_if_ne (pc1 := 10) (pt := 12) (tk (n := 5) t299_0 rfl) rfl rfl rfl ?_ ?_
  · refine s_iconst (pc1 := 13) (tk (n := 8) t299_0 rfl) rfl rfl  ?_
    refine s_istore (pc1 := 15) (ls1 := [(2, x0), (0, x1), (0, x2), (0, x3), (0, 0), (9, 0)]) (tk (n := 9) t299_0 rfl) rfl rfl rfl rfl ?_
    refine s_iconst (pc1 := 16) (tk (n := 10) t299_0 rfl) rfl rfl  ?_
    refine s_istore (pc1 := 18) (ls1 := [(2, x0), (0, x1), (0, x2), (0, x3), (0, 0), (0, 1)]) (tk (n := 11) t299_0 rfl) rfl rfl rfl rfl ?_
    rfl
  · refine s_iconst (pc1 := 11) (tk (n := 6) t299_0 rfl) rfl rfl  ?_
    exact s_ret (tk (n := 7) t299_0 rfl) rfl rfl rfl
set_option maxRecDepth 100000 in
set_option maxHeartbeats 4000000 in
theorem e_X12_bestOrder_18 (x0 : Int) (x1 : Int) (x2 : Int) (x3 : Int) (x4 : Int) (x5 : Int) (h : Hq) : vp 299 18 [(2, x0), (0, x1), (0, x2), (0, x3), (0, x4), (0, x5)] [] h = if x5 ≥ 3 then (some (some (0, x4), h)) else (if 0 < x0 ∧ (kd x0).1 = 12 then (vm 296 [(2, x0), (0, x1), (0, x2), (0, x3), (0, x5)] h).bind (fun r9 => if 0 < x0 ∧ (kd x0).1 = 12 then (vm 296 [(2, x0), (0, x1), (0, x2), (0, x3), (0, x4)] r9.2).bind (fun r15 => if (vx r9) ≥ (vx r15) then (vp 299 18 [(2, x0), (0, x1), (0, x2), (0, x3), (0, x4), (0, w32 (x5 + 1))] [] r15.2) else (vp 299 18 [(2, x0), (0, x1), (0, x2), (0, x3), (0, x5), (0, w32 (x5 + 1))] [] r15.2)) else none) else none) := by
  refine s_iload (pc1 := 20) (tk (n := 12) t299_0 rfl) rfl rfl rfl ?_
  refine s_iconst (pc1 := 21) (tk (n := 13) t299_0 rfl) rfl rfl  ?_
  refine s_ic_ge (pc1 := 24) (pt := 55) (tk (n := 14) t299_0 rfl) rfl rfl rfl ?_ ?_
  · refine s_iload (pc1 := 57) (tk (n := 2) t299_1 rfl) rfl rfl rfl ?_
    exact s_ret (tk (n := 3) t299_1 rfl) rfl rfl rfl
  · refine s_aload_n (pc1 := 25) (tk (n := 15) t299_0 rfl) rfl rfl rfl ?_
    refine s_iload_n (pc1 := 26) (tk (n := 16) t299_0 rfl) rfl rfl rfl ?_
    refine s_iload_n (pc1 := 27) (tk (n := 17) t299_0 rfl) rfl rfl rfl ?_
    refine s_iload_n (pc1 := 28) (tk (n := 18) t299_0 rfl) rfl rfl rfl ?_
    refine s_iload (pc1 := 30) (tk (n := 19) t299_0 rfl) rfl rfl rfl ?_
    refine s_call0 (as := [(2, x0), (0, x1), (0, x2), (0, x3), (0, x5)]) (st1 := []) (p1 := 33) (M2 := 296) (tk (n := 20) t299_0 rfl) rfl rfl rfl rfl rfl (fun r9 => ?_)
    refine s_aload_n (pc1 := 34) (tk (n := 21) t299_0 rfl) rfl rfl rfl ?_
    refine s_iload_n (pc1 := 35) (tk (n := 22) t299_0 rfl) rfl rfl rfl ?_
    refine s_iload_n (pc1 := 36) (tk (n := 23) t299_0 rfl) rfl rfl rfl ?_
    refine s_iload_n (pc1 := 37) (tk (n := 24) t299_0 rfl) rfl rfl rfl ?_
    refine s_iload (pc1 := 39) (tk (n := 25) t299_0 rfl) rfl rfl rfl ?_
    refine s_call0 (as := [(2, x0), (0, x1), (0, x2), (0, x3), (0, x4)]) (st1 := [(0, vx r9)]) (p1 := 42) (M2 := 296) (tk (n := 26) t299_0 rfl) rfl rfl rfl rfl rfl (fun r15 => ?_)
    refine s_ic_ge (pc1 := 45) (pt := 49) (tk (n := 27) t299_0 rfl) rfl rfl rfl ?_ ?_
    · refine s_iinc (pc1 := 52) (ls1 := [(2, x0), (0, x1), (0, x2), (0, x3), (0, x4), (0, w32 (x5 + 1))]) (tk (n := 0) t299_1 rfl) rfl rfl rfl rfl ?_
      refine s_goto (pc1 := 18) (tk (n := 1) t299_1 rfl) rfl rfl ?_
      rfl
    · refine s_iload (pc1 := 47) (tk (n := 28) t299_0 rfl) rfl rfl rfl ?_
      refine s_istore (pc1 := 49) (ls1 := [(2, x0), (0, x1), (0, x2), (0, x3), (0, x5), (0, x5)]) (tk (n := 29) t299_0 rfl) rfl rfl rfl rfl ?_
      refine s_iinc (pc1 := 52) (ls1 := [(2, x0), (0, x1), (0, x2), (0, x3), (0, x5), (0, w32 (x5 + 1))]) (tk (n := 0) t299_1 rfl) rfl rfl rfl rfl ?_
      refine s_goto (pc1 := 18) (tk (n := 1) t299_1 rfl) rfl rfl ?_
      rfl
