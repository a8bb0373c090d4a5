set_option maxRecDepth 100000 in
set_option maxHeartbeats 4000000 in
theorem e_X0_init (x0 : Int) (h : Hq) : vm 0 [(2, x0)] h = if 0 < x0 then if (kd h.1).1 = 24 ∧ (kd h.1).2 = (21 : Int) ∧ 0 ≤ (21 : Int) ∧ (21 : Int) ≤ 1000000 then if (0 < x0 ∧ (kd x0).1 = 0) ∧ True then if (kd (h.1 + 1)).1 = 20 ∧ (kd (h.1 + 1)).2 = (21 : Int) ∧ 0 ≤ (21 : Int) ∧ (21 : Int) ≤ 1000000 then if (0 < x0 ∧ (kd x0).1 = 0) ∧ True then some (none, ((h.1 + 1) + 1, stm (stm h.2 x0 0 h.1) x0 1 (h.1 + 1))) else none else none else none else none else none := by
  show vp 0 0 [(2, x0)] [] h = _
  refine s_aload_n (pc1 := 1) (tk (n := 0) t0_0 rfl) rfl rfl rfl ?_
  refine s_oini (pc1 := 4) (tk (n := 1) t0_0 rfl) rfl rfl rfl ?_
  refine s_aload_n (pc1 := 5) (tk (n := 2) t0_0 rfl) rfl rfl rfl ?_
  refine s_bipush (pc1 := 7) (tk (n := 3) t0_0 rfl) rfl rfl  ?_
  refine s_anew (pc1 := 10) (c := 24) (tk (n := 4) t0_0 rfl) rfl rfl rfl ?_
  refine s_putf2 (pc1 := 13) (c := 0) (tk (n := 5) t0_0 rfl) rfl rfl rfl rfl rfl ?_
  refine s_aload_n (pc1 := 14) (tk (n := 6) t0_0 rfl) rfl rfl rfl ?_
  refine s_bipush (pc1 := 16) (tk (n := 7) t0_0 rfl) rfl rfl  ?_
  refine s_newa (pc1 := 18) (c := 20) (tk (n := 8) t0_0 rfl) rfl rfl rfl ?_
  refine s_putf2 (pc1 := 21) (c := 0) (tk (n := 9) t0_0 rfl) rfl rfl rfl rfl rfl ?_
  exact s_ret (tk (n := 10) t0_0 rfl) rfl rfl rfl
set_option maxRecDepth 100000 in
set_option maxHeartbeats 4000000 in
theorem e_X0_clear (x0 : Int) (h : Hq) : vm 1 [(2, x0)] h = if (0 < x0 ∧ (kd x0).1 = 0) ∧ True then if (0 < x0 ∧ (kd x0).1 = 0) ∧ True then some (none, (h.1, stm (stm h.2 x0 2 0) x0 3 0)) else none else none := by
  show vp 1 0 [(2, x0)] [] h = _
  refine s_aload_n (pc1 := 1) (tk (n := 0) t1_0 rfl) rfl rfl rfl ?_
  refine s_iconst (pc1 := 2) (tk (n := 1) t1_0 rfl) rfl rfl  ?_
  refine s_putf0 (pc1 := 5) (c := 0) (tk (n := 2) t1_0 rfl) rfl rfl rfl rfl rfl ?_
  refine s_aload_n (pc1 := 6) (tk (n := 3) t1_0 rfl) rfl rfl rfl ?_
  refine s_iconst (pc1 := 7) (tk (n := 4) t1_0 rfl) rfl rfl  ?_
  refine s_putf0 (pc1 := 10) (c := 0) (tk (n := 5) t1_0 rfl) rfl rfl rfl rfl rfl ?_
  exact s_ret (tk (n := 6) t1_0 rfl) rfl rfl rfl
set_option maxRecDepth 100000 in
set_option maxHeartbeats 4000000 in
theorem e_X0_slot (x0 : Int) (x1 : Int) (h : Hq) : vm 2 [(2, x0), (0, x1)] h = if 0 < x0 ∧ (kd x0).1 = 0 then some (some (0, (w32 ((h.2 x0 2) + x1)).tmod 21), h) else none := by
  show vp 2 0 [(2, x0), (0, x1)] [] h = _
  refine s_aload_n (pc1 := 1) (tk (n := 0) t2_0 rfl) rfl rfl rfl ?_
  refine s_getf (pc1 := 4) (c := 0) (t1 := 0) (tk (n := 1) t2_0 rfl) rfl rfl (by decide) rfl rfl ?_
  refine s_iload_n (pc1 := 5) (tk (n := 2) t2_0 rfl) rfl rfl rfl ?_
  refine s_iadd (pc1 := 6) (tk (n := 3) t2_0 rfl) rfl rfl  ?_
  refine s_bipush (pc1 := 8) (tk (n := 4) t2_0 rfl) rfl rfl  ?_
  refine s_iremc (pc1 := 9) (tk (n := 5) t2_0 rfl) rfl rfl (by decide) ?_
  exact s_ret (tk (n := 6) t2_0 rfl) rfl rfl rfl
set_option maxRecDepth 100000 in
set_option maxHeartbeats 4000000 in
theorem e_X0_begun (x0 : Int) (h : Hq) : vm 3 [(2, x0)] h = if 0 < x0 ∧ (kd x0).1 = 0 then if 0 < x0 ∧ (kd x0).1 = 0 then (vm 2 [(2, x0), (0, h.2 x0 3)] h).bind (fun r4 => if 0 < x0 ∧ (kd x0).1 = 0 then if (kd (r4.2.2 x0 0)).1 = 24 ∧ 0 ≤ (vx r4) ∧ (vx r4) < (kd (r4.2.2 x0 0)).2 then if 0 ≤ (r4.2.2 (r4.2.2 x0 0) (vx r4)) then if (r4.2.2 (r4.2.2 x0 0) (vx r4)) ≠ 0 then (if 0 < x0 ∧ (kd x0).1 = 0 then if (kd (r4.2.2 x0 0)).1 = 24 ∧ 0 ≤ (vx r4) ∧ (vx r4) < (kd (r4.2.2 x0 0)).2 then if 0 < (r4.2.2 (r4.2.2 x0 0) (vx r4)) then some (some (2, r4.2.2 (r4.2.2 x0 0) (vx r4)), r4.2) else none else none else none) else (if 0 < x0 ∧ (kd x0).1 = 0 then if (kd r4.2.1).1 = 20 ∧ (kd r4.2.1).2 = (400 : Int) ∧ 0 ≤ (400 : Int) ∧ (400 : Int) ≤ 1000000 then if 0 < (r4.2.2 x0 0) ∧ (kd (r4.2.2 x0 0)).1 = 24 ∧ (0 ≤ (vx r4) ∧ (vx r4) < (kd (r4.2.2 x0 0)).2) ∧ 0 < r4.2.1 ∧ (kd r4.2.1).1 = 20 then if 0 < x0 ∧ (kd x0).1 = 0 then if (kd ((stm r4.2.2 (r4.2.2 x0 0) (vx r4) r4.2.1) x0 0)).1 = 24 ∧ 0 ≤ (vx r4) ∧ (vx r4) < (kd ((stm r4.2.2 (r4.2.2 x0 0) (vx r4) r4.2.1) x0 0)).2 then if 0 < ((stm r4.2.2 (r4.2.2 x0 0) (vx r4) r4.2.1) ((stm r4.2.2 (r4.2.2 x0 0) (vx r4) r4.2.1) x0 0) (vx r4)) then some (some (2, (stm r4.2.2 (r4.2.2 x0 0) (vx r4) r4.2.1) ((stm r4.2.2 (r4.2.2 x0 0) (vx r4) r4.2.1) x0 0) (vx r4)), (r4.2.1 + 1, stm r4.2.2 (r4.2.2 x0 0) (vx r4) r4.2.1)) else none else none else none else none else none else none) else none else none else none) else none else none := by
  show vp 3 0 [(2, x0), (9, 0)] [] h = _
  refine s_aload_n (pc1 := 1) (tk (n := 0) t3_0 rfl) rfl rfl rfl ?_
  refine s_aload_n (pc1 := 2) (tk (n := 1) t3_0 rfl) rfl rfl rfl ?_
  refine s_getf (pc1 := 5) (c := 0) (t1 := 0) (tk (n := 2) t3_0 rfl) rfl rfl (by decide) rfl rfl ?_
  refine s_call0 (as := [(2, x0), (0, h.2 x0 3)]) (st1 := []) (p1 := 8) (M2 := 2) (tk (n := 3) t3_0 rfl) rfl rfl rfl rfl rfl (fun r4 => ?_)
  refine s_istore_n (pc1 := 9) (ls1 := [(2, x0), (0, vx r4)]) (tk (n := 4) t3_0 rfl) rfl rfl rfl rfl ?_
  refine s_aload_n (pc1 := 10) (tk (n := 5) t3_0 rfl) rfl rfl rfl ?_
  refine s_getf (pc1 := 13) (c := 0) (t1 := 2) (tk (n := 6) t3_0 rfl) rfl rfl (by decide) rfl rfl ?_
  refine s_iload_n (pc1 := 14) (tk (n := 7) t3_0 rfl) rfl rfl rfl ?_
  refine s_aald (pc1 := 15) (c := 24) (tk (n := 8) t3_0 rfl) rfl rfl rfl ?_
  refine s_nonnull (pc1 := 18) (pt := 29) (tk (n := 9) t3_0 rfl) rfl rfl rfl ?_ ?_
  · refine s_aload_n (pc1 := 30) (tk (n := 16) t3_0 rfl) rfl rfl rfl ?_
    refine s_getf (pc1 := 33) (c := 0) (t1 := 2) (tk (n := 17) t3_0 rfl) rfl rfl (by decide) rfl rfl ?_
    refine s_iload_n (pc1 := 34) (tk (n := 18) t3_0 rfl) rfl rfl rfl ?_
    refine s_aald (pc1 := 35) (c := 24) (tk (n := 19) t3_0 rfl) rfl rfl rfl ?_
    exact s_retG (tk (n := 20) t3_0 rfl) rfl rfl rfl
  · refine s_aload_n (pc1 := 19) (tk (n := 10) t3_0 rfl) rfl rfl rfl ?_
    refine s_getf (pc1 := 22) (c := 0) (t1 := 2) (tk (n := 11) t3_0 rfl) rfl rfl (by decide) rfl rfl ?_
    refine s_iload_n (pc1 := 23) (tk (n := 12) t3_0 rfl) rfl rfl rfl ?_
    refine s_sipush (pc1 := 26) (tk (n := 13) t3_0 rfl) rfl rfl  ?_
    refine s_newa (pc1 := 28) (c := 20) (tk (n := 14) t3_0 rfl) rfl rfl rfl ?_
    refine s_aast24 (pc1 := 29) (tk (n := 15) t3_0 rfl) rfl rfl  ?_
    refine s_aload_n (pc1 := 30) (tk (n := 16) t3_0 rfl) rfl rfl rfl ?_
    refine s_getf (pc1 := 33) (c := 0) (t1 := 2) (tk (n := 17) t3_0 rfl) rfl rfl (by decide) rfl rfl ?_
    refine s_iload_n (pc1 := 34) (tk (n := 18) t3_0 rfl) rfl rfl rfl ?_
    refine s_aald (pc1 := 35) (c := 24) (tk (n := 19) t3_0 rfl) rfl rfl rfl ?_
    exact s_retG (tk (n := 20) t3_0 rfl) rfl rfl rfl
set_option maxRecDepth 100000 in
set_option maxHeartbeats 4000000 in
theorem e_X0_begin (x0 : Int) (x1 : Int) (x2 : Int) (h : Hq) : vm 4 [(2, x0), (0, x1), (2, x2)] h = if 0 < x0 ∧ (kd x0).1 = 0 then if 0 < x0 ∧ (kd x0).1 = 0 then if 0 < x0 ∧ (kd x0).1 = 0 then (vm 2 [(2, x0), (0, h.2 x0 3)] h).bind (fun r6 => if 0 < (h.2 x0 1) ∧ (kd (h.2 x0 1)).1 = 20 ∧ 0 ≤ (vx r6) ∧ (vx r6) < (kd (h.2 x0 1)).2 then if 0 < x0 ∧ (kd x0).1 = 0 then (vm 3 [(2, x0)] (r6.2.1, stm r6.2.2 (h.2 x0 1) (vx r6) x1)).bind (fun r12 => if (0 < x2 ∧ 0 < (vx r12) ∧ (kd x2).1 = 20 ∧ (kd (vx r12)).1 = 20) ∧ (0 ≤ (0 : Int) ∧ 0 ≤ (0 : Int) ∧ 0 ≤ (400 : Int)) ∧ (0 : Int) + (400 : Int) ≤ (kd x2).2 ∧ (0 : Int) + (400 : Int) ≤ (kd (vx r12)).2 then some (none, (r12.2.1, cpm r12.2.2 x2 0 (vx r12) 0 400)) else none) else none else none) else none else none else none := by
  show vp 4 0 [(2, x0), (0, x1), (2, x2)] [] h = _
  refine s_aload_n (pc1 := 1) (tk (n := 0) t4_0 rfl) rfl rfl rfl ?_
  refine s_getf (pc1 := 4) (c := 0) (t1 := 2) (tk (n := 1) t4_0 rfl) rfl rfl (by decide) rfl rfl ?_
  refine s_aload_n (pc1 := 5) (tk (n := 2) t4_0 rfl) rfl rfl rfl ?_
  refine s_aload_n (pc1 := 6) (tk (n := 3) t4_0 rfl) rfl rfl rfl ?_
  refine s_getf (pc1 := 9) (c := 0) (t1 := 0) (tk (n := 4) t4_0 rfl) rfl rfl (by decide) rfl rfl ?_
  refine s_call0 (as := [(2, x0), (0, h.2 x0 3)]) (st1 := [(2, h.2 x0 1)]) (p1 := 12) (M2 := 2) (tk (n := 5) t4_0 rfl) rfl rfl rfl rfl rfl (fun r6 => ?_)
  refine s_iload_n (pc1 := 13) (tk (n := 6) t4_0 rfl) rfl rfl rfl ?_
  refine s_iast (pc1 := 14) (tk (n := 7) t4_0 rfl) rfl rfl  ?_
  refine s_aload_n (pc1 := 15) (tk (n := 8) t4_0 rfl) rfl rfl rfl ?_
  refine s_iconst (pc1 := 16) (tk (n := 9) t4_0 rfl) rfl rfl  ?_
  refine s_aload_n (pc1 := 17) (tk (n := 10) t4_0 rfl) rfl rfl rfl ?_
  refine s_call2 (as := [(2, x0)]) (st1 := [(0, 0), (2, x2)]) (p1 := 20) (M2 := 3) (tk (n := 11) t4_0 rfl) rfl rfl rfl rfl rfl (fun r12 => ?_)
  refine s_iconst (pc1 := 21) (tk (n := 12) t4_0 rfl) rfl rfl  ?_
  refine s_sipush (pc1 := 24) (tk (n := 13) t4_0 rfl) rfl rfl  ?_
  refine s_cpy (pc1 := 27) (tk (n := 14) t4_0 rfl) rfl rfl rfl ?_
  exact s_ret (tk (n := 15) t4_0 rfl) rfl rfl rfl
set_option maxRecDepth 100000 in
set_option maxHeartbeats 4000000 in
theorem e_X0_keep (x0 : Int) (h : Hq) : vm 5 [(2, x0)] h = if 0 < x0 ∧ (kd x0).1 = 0 then if (h.2 x0 3) ≥ 20 then (if 0 < x0 ∧ (kd x0).1 = 0 then (vm 2 [(2, x0), (0, 1)] h).bind (fun r8 => if (0 < x0 ∧ (kd x0).1 = 0) ∧ True then some (none, (r8.2.1, stm r8.2.2 x0 2 (vx r8))) else none) else none) else (if 0 < x0 ∧ (kd x0).1 = 0 then if (0 < x0 ∧ (kd x0).1 = 0) ∧ True then some (none, (h.1, stm h.2 x0 3 (w32 ((h.2 x0 3) + 1)))) else none else none) else none := by
  show vp 5 0 [(2, x0)] [] h = _
  refine s_aload_n (pc1 := 1) (tk (n := 0) t5_0 rfl) rfl rfl rfl ?_
  refine s_getf (pc1 := 4) (c := 0) (t1 := 0) (tk (n := 1) t5_0 rfl) rfl rfl (by decide) rfl rfl ?_
  refine s_bipush (pc1 := 6) (tk (n := 2) t5_0 rfl) rfl rfl  ?_
  refine s_ic_ge (pc1 := 9) (pt := 22) (tk (n := 3) t5_0 rfl) rfl rfl rfl ?_ ?_
  · refine s_aload_n (pc1 := 23) (tk (n := 11) t5_0 rfl) rfl rfl rfl ?_
    refine s_aload_n (pc1 := 24) (tk (n := 12) t5_0 rfl) rfl rfl rfl ?_
    refine s_iconst (pc1 := 25) (tk (n := 13) t5_0 rfl) rfl rfl  ?_
    refine s_call0 (as := [(2, x0), (0, 1)]) (st1 := [(2, x0)]) (p1 := 28) (M2 := 2) (tk (n := 14) t5_0 rfl) rfl rfl rfl rfl rfl (fun r8 => ?_)
    refine s_putf0 (pc1 := 31) (c := 0) (tk (n := 15) t5_0 rfl) rfl rfl rfl rfl rfl ?_
    exact s_ret (tk (n := 16) t5_0 rfl) rfl rfl rfl
  · refine s_aload_n (pc1 := 10) (tk (n := 4) t5_0 rfl) rfl rfl rfl ?_
    refine s_dup2 (pc1 := 11) (tk (n := 5) t5_0 rfl) rfl rfl  ?_
    refine s_getf (pc1 := 14) (c := 0) (t1 := 0) (tk (n := 6) t5_0 rfl) rfl rfl (by decide) rfl rfl ?_
    refine s_iconst (pc1 := 15) (tk (n := 7) t5_0 rfl) rfl rfl  ?_
    refine s_iadd (pc1 := 16) (tk (n := 8) t5_0 rfl) rfl rfl  ?_
    refine s_putf0 (pc1 := 19) (c := 0) (tk (n := 9) t5_0 rfl) rfl rfl rfl rfl rfl ?_
    refine s_goto (pc1 := 31) (tk (n := 10) t5_0 rfl) rfl rfl ?_
    exact s_ret (tk (n := 16) t5_0 rfl) rfl rfl rfl
set_option maxRecDepth 100000 in
set_option maxHeartbeats 4000000 in
theorem e_X0_takeBack (x0 : Int) (x1 : Int) (h : Hq) : vm 6 [(2, x0), (2, x1)] h = if 0 < x0 ∧ (kd x0).1 = 0 then if (h.2 x0 3) ≤ 0 then (some (none, h)) else (if 0 < x0 ∧ (kd x0).1 = 0 then if (0 < x0 ∧ (kd x0).1 = 0) ∧ True then if 0 < x0 ∧ (kd x0).1 = 0 then (vm 3 [(2, x0)] (h.1, stm h.2 x0 3 (w32 ((h.2 x0 3) - 1)))).bind (fun r11 => if 0 < x1 ∧ (kd x1).1 = 7 then if 0 < x0 ∧ (kd x0).1 = 0 then if 0 < x0 ∧ (kd x0).1 = 0 then if 0 < x0 ∧ (kd x0).1 = 0 then (vm 2 [(2, x0), (0, r11.2.2 x0 3)] r11.2).bind (fun r20 => if (kd (r11.2.2 x0 1)).1 = 20 ∧ 0 ≤ (vx r20) ∧ (vx r20) < (kd (r11.2.2 x0 1)).2 then if (kd (r11.2.2 x1 0)).1 = 24 ∧ 0 ≤ (r20.2.2 (r11.2.2 x0 1) (vx r20)) ∧ (r20.2.2 (r11.2.2 x0 1) (vx r20)) < (kd (r11.2.2 x1 0)).2 then if (0 < (vx r11) ∧ 0 < (r20.2.2 (r11.2.2 x1 0) (r20.2.2 (r11.2.2 x0 1) (vx r20))) ∧ (kd (vx r11)).1 = 20 ∧ (kd (r20.2.2 (r11.2.2 x1 0) (r20.2.2 (r11.2.2 x0 1) (vx r20)))).1 = 20) ∧ (0 ≤ (0 : Int) ∧ 0 ≤ (0 : Int) ∧ 0 ≤ (400 : Int)) ∧ (0 : Int) + (400 : Int) ≤ (kd (vx r11)).2 ∧ (0 : Int) + (400 : Int) ≤ (kd (r20.2.2 (r11.2.2 x1 0) (r20.2.2 (r11.2.2 x0 1) (vx r20)))).2 then some (none, (r20.2.1, cpm r20.2.2 (vx r11) 0 (r20.2.2 (r11.2.2 x1 0) (r20.2.2 (r11.2.2 x0 1) (vx r20))) 0 400)) else none else none else none) else none else none else none else none) else none else none else none) else none := by
  show vp 6 0 [(2, x0), (2, x1)] [] h = _
  refine s_aload_n (pc1 := 1) (tk (n := 0) t6_0 rfl) rfl rfl rfl ?_
  refine s_getf (pc1 := 4) (c := 0) (t1 := 0) (tk (n := 1) t6_0 rfl) rfl rfl (by decide) rfl rfl ?_
  refine s_if_le (pc1 := 7) (pt := 47) (tk (n := 2) t6_0 rfl) rfl rfl rfl ?_ ?_
  · exact s_ret (tk (n := 25) t6_0 rfl) rfl rfl rfl
  · refine s_aload_n (pc1 := 8) (tk (n := 3) t6_0 rfl) rfl rfl rfl ?_
    refine s_dup2 (pc1 := 9) (tk (n := 4) t6_0 rfl) rfl rfl  ?_
    refine s_getf (pc1 := 12) (c := 0) (t1 := 0) (tk (n := 5) t6_0 rfl) rfl rfl (by decide) rfl rfl ?_
    refine s_iconst (pc1 := 13) (tk (n := 6) t6_0 rfl) rfl rfl  ?_
    refine s_isub (pc1 := 14) (tk (n := 7) t6_0 rfl) rfl rfl  ?_
    refine s_putf0 (pc1 := 17) (c := 0) (tk (n := 8) t6_0 rfl) rfl rfl rfl rfl rfl ?_
    refine s_aload_n (pc1 := 18) (tk (n := 9) t6_0 rfl) rfl rfl rfl ?_
    refine s_call2 (as := [(2, x0)]) (st1 := []) (p1 := 21) (M2 := 3) (tk (n := 10) t6_0 rfl) rfl rfl rfl rfl rfl (fun r11 => ?_)
    refine s_iconst (pc1 := 22) (tk (n := 11) t6_0 rfl) rfl rfl  ?_
    refine s_aload_n (pc1 := 23) (tk (n := 12) t6_0 rfl) rfl rfl rfl ?_
    refine s_getf (pc1 := 26) (c := 7) (t1 := 2) (tk (n := 13) t6_0 rfl) rfl rfl (by decide) rfl rfl ?_
    refine s_aload_n (pc1 := 27) (tk (n := 14) t6_0 rfl) rfl rfl rfl ?_
    refine s_getf (pc1 := 30) (c := 0) (t1 := 2) (tk (n := 15) t6_0 rfl) rfl rfl (by decide) rfl rfl ?_
    refine s_aload_n (pc1 := 31) (tk (n := 16) t6_0 rfl) rfl rfl rfl ?_
    refine s_aload_n (pc1 := 32) (tk (n := 17) t6_0 rfl) rfl rfl rfl ?_
    refine s_getf (pc1 := 35) (c := 0) (t1 := 0) (tk (n := 18) t6_0 rfl) rfl rfl (by decide) rfl rfl ?_
    refine s_call0 (as := [(2, x0), (0, r11.2.2 x0 3)]) (st1 := [(2, r11.2.2 x0 1), (2, r11.2.2 x1 0), (0, 0), (2, vx r11)]) (p1 := 38) (M2 := 2) (tk (n := 19) t6_0 rfl) rfl rfl rfl rfl rfl (fun r20 => ?_)
    refine s_iald (pc1 := 39) (tk (n := 20) t6_0 rfl) rfl rfl  ?_
    refine s_aald (pc1 := 40) (c := 24) (tk (n := 21) t6_0 rfl) rfl rfl rfl ?_
    refine s_iconst (pc1 := 41) (tk (n := 22) t6_0 rfl) rfl rfl  ?_
    refine s_sipush (pc1 := 44) (tk (n := 23) t6_0 rfl) rfl rfl  ?_
    refine s_cpy (pc1 := 47) (tk (n := 24) t6_0 rfl) rfl rfl rfl ?_
    exact s_ret (tk (n := 25) t6_0 rfl) rfl rfl rfl
set_option maxRecDepth 100000 in
set_option maxHeartbeats 4000000 in
theorem e_X1_init (x0 : Int) (h : Hq) : vm 7 [(2, x0)] h = if 0 < x0 then if (kd h.1).1 = 20 ∧ (kd h.1).2 = (32 : Int) ∧ 0 ≤ (32 : Int) ∧ (32 : Int) ≤ 1000000 then if (0 < x0 ∧ (kd x0).1 = 1) ∧ True then if (kd (h.1 + 1)).1 = 20 ∧ (kd (h.1 + 1)).2 = (32 : Int) ∧ 0 ≤ (32 : Int) ∧ (32 : Int) ≤ 1000000 then if (0 < x0 ∧ (kd x0).1 = 1) ∧ True then if (0 < x0 ∧ (kd x0).1 = 1) ∧ True then if (0 < x0 ∧ (kd x0).1 = 1) ∧ True then if (0 < x0 ∧ (kd x0).1 = 1) ∧ True then if 0 < x0 ∧ (kd x0).1 = 1 then (vm 321 [(2, (stm (stm (stm (stm (stm h.2 x0 0 h.1) x0 1 (h.1 + 1)) x0 2 4) x0 3 2) x0 4 4) x0 0), (0, (-1))] ((h.1 + 1) + 1, stm (stm (stm (stm (stm h.2 x0 0 h.1) x0 1 (h.1 + 1)) x0 2 4) x0 3 2) x0 4 4)).bind (fun r23 => some (none, r23.2)) else none else none else none else none else none else none else none else none else none := by
  show vp 7 0 [(2, x0)] [] h = _
  refine s_aload_n (pc1 := 1) (tk (n := 0) t7_0 rfl) rfl rfl rfl ?_
  refine s_oini (pc1 := 4) (tk (n := 1) t7_0 rfl) rfl rfl rfl ?_
  refine s_aload_n (pc1 := 5) (tk (n := 2) t7_0 rfl) rfl rfl rfl ?_
  refine s_bipush (pc1 := 7) (tk (n := 3) t7_0 rfl) rfl rfl  ?_
  refine s_newa (pc1 := 9) (c := 20) (tk (n := 4) t7_0 rfl) rfl rfl rfl ?_
  refine s_putf2 (pc1 := 12) (c := 1) (tk (n := 5) t7_0 rfl) rfl rfl rfl rfl rfl ?_
  refine s_aload_n (pc1 := 13) (tk (n := 6) t7_0 rfl) rfl rfl rfl ?_
  refine s_bipush (pc1 := 15) (tk (n := 7) t7_0 rfl) rfl rfl  ?_
  refine s_newa (pc1 := 17) (c := 20) (tk (n := 8) t7_0 rfl) rfl rfl rfl ?_
  refine s_putf2 (pc1 := 20) (c := 1) (tk (n := 9) t7_0 rfl) rfl rfl rfl rfl rfl ?_
  refine s_aload_n (pc1 := 21) (tk (n := 10) t7_0 rfl) rfl rfl rfl ?_
  refine s_iconst (pc1 := 22) (tk (n := 11) t7_0 rfl) rfl rfl  ?_
  refine s_putf0 (pc1 := 25) (c := 1) (tk (n := 12) t7_0 rfl) rfl rfl rfl rfl rfl ?_
  refine s_aload_n (pc1 := 26) (tk (n := 13) t7_0 rfl) rfl rfl rfl ?_
  refine s_iconst (pc1 := 27) (tk (n := 14) t7_0 rfl) rfl rfl  ?_
  refine s_putf0 (pc1 := 30) (c := 1) (tk (n := 15) t7_0 rfl) rfl rfl rfl rfl rfl ?_
  refine s_aload_n (pc1 := 31) (tk (n := 16) t7_0 rfl) rfl rfl rfl ?_
  refine s_iconst (pc1 := 32) (tk (n := 17) t7_0 rfl) rfl rfl  ?_
  refine s_putf0 (pc1 := 35) (c := 1) (tk (n := 18) t7_0 rfl) rfl rfl rfl rfl rfl ?_
  refine s_aload_n (pc1 := 36) (tk (n := 19) t7_0 rfl) rfl rfl rfl ?_
  refine s_getf (pc1 := 39) (c := 1) (t1 := 2) (tk (n := 20) t7_0 rfl) rfl rfl (by decide) rfl rfl ?_
  refine s_iconst (pc1 := 40) (tk (n := 21) t7_0 rfl) rfl rfl  ?_
  refine s_callS9 (as := [(2, (stm (stm (stm (stm (stm h.2 x0 0 h.1) x0 1 (h.1 + 1)) x0 2 4) x0 3 2) x0 4 4) x0 0), (0, (-1))]) (st1 := []) (p1 := 43) (M2 := 321) (tk (n := 22) t7_0 rfl) rfl rfl rfl rfl rfl (fun r23 => ?_)
  exact s_ret (tk (n := 23) t7_0 rfl) rfl rfl rfl
set_option maxRecDepth 100000 in
set_option maxHeartbeats 4000000 in
theorem e_X1_shape (x0 : Int) (x1 : Int) (x2 : Int) (x3 : Int) (h : Hq) : vm 8 [(2, x0), (0, x1), (0, x2), (0, x3)] h = if (0 < x0 ∧ (kd x0).1 = 1) ∧ True then if (0 < x0 ∧ (kd x0).1 = 1) ∧ True then if (0 < x0 ∧ (kd x0).1 = 1) ∧ True then if 0 < x0 ∧ (kd x0).1 = 1 then (vm 9 [(2, x0)] (h.1, stm (stm (stm h.2 x0 2 x1) x0 3 x2) x0 4 x3)).bind (fun r11 => some (none, r11.2)) else none else none else none else none := by
  show vp 8 0 [(2, x0), (0, x1), (0, x2), (0, x3)] [] h = _
  refine s_aload_n (pc1 := 1) (tk (n := 0) t8_0 rfl) rfl rfl rfl ?_
  refine s_iload_n (pc1 := 2) (tk (n := 1) t8_0 rfl) rfl rfl rfl ?_
  refine s_putf0 (pc1 := 5) (c := 1) (tk (n := 2) t8_0 rfl) rfl rfl rfl rfl rfl ?_
  refine s_aload_n (pc1 := 6) (tk (n := 3) t8_0 rfl) rfl rfl rfl ?_
  refine s_iload_n (pc1 := 7) (tk (n := 4) t8_0 rfl) rfl rfl rfl ?_
  refine s_putf0 (pc1 := 10) (c := 1) (tk (n := 5) t8_0 rfl) rfl rfl rfl rfl rfl ?_
  refine s_aload_n (pc1 := 11) (tk (n := 6) t8_0 rfl) rfl rfl rfl ?_
  refine s_iload_n (pc1 := 12) (tk (n := 7) t8_0 rfl) rfl rfl rfl ?_
  refine s_putf0 (pc1 := 15) (c := 1) (tk (n := 8) t8_0 rfl) rfl rfl rfl rfl rfl ?_
  refine s_aload_n (pc1 := 16) (tk (n := 9) t8_0 rfl) rfl rfl rfl ?_
  refine s_call9 (as := [(2, x0)]) (st1 := []) (p1 := 19) (M2 := 9) (tk (n := 10) t8_0 rfl) rfl rfl rfl rfl rfl (fun r11 => ?_)
  exact s_ret (tk (n := 11) t8_0 rfl) rfl rfl rfl
set_option maxRecDepth 100000 in
set_option maxHeartbeats 4000000 in
theorem e_X1_clear (x0 : Int) (h : Hq) : vm 9 [(2, x0)] h = if 0 < x0 ∧ (kd x0).1 = 1 then (vm 321 [(2, h.2 x0 0), (0, (-1))] h).bind (fun r4 => if (0 < x0 ∧ (kd x0).1 = 1) ∧ True then if (0 < x0 ∧ (kd x0).1 = 1) ∧ True then some (none, (r4.2.1, stm (stm r4.2.2 x0 5 0) x0 6 0)) else none else none) else none := by
  show vp 9 0 [(2, x0)] [] h = _
  refine s_aload_n (pc1 := 1) (tk (n := 0) t9_0 rfl) rfl rfl rfl ?_
  refine s_getf (pc1 := 4) (c := 1) (t1 := 2) (tk (n := 1) t9_0 rfl) rfl rfl (by decide) rfl rfl ?_
  refine s_iconst (pc1 := 5) (tk (n := 2) t9_0 rfl) rfl rfl  ?_
  refine s_callS9 (as := [(2, h.2 x0 0), (0, (-1))]) (st1 := []) (p1 := 8) (M2 := 321) (tk (n := 3) t9_0 rfl) rfl rfl rfl rfl rfl (fun r4 => ?_)
  refine s_aload_n (pc1 := 9) (tk (n := 4) t9_0 rfl) rfl rfl rfl ?_
  refine s_iconst (pc1 := 10) (tk (n := 5) t9_0 rfl) rfl rfl  ?_
  refine s_putf0 (pc1 := 13) (c := 1) (tk (n := 6) t9_0 rfl) rfl rfl rfl rfl rfl ?_
  refine s_aload_n (pc1 := 14) (tk (n := 7) t9_0 rfl) rfl rfl rfl ?_
  refine s_iconst (pc1 := 15) (tk (n := 8) t9_0 rfl) rfl rfl  ?_
  refine s_putf0 (pc1 := 18) (c := 1) (tk (n := 9) t9_0 rfl) rfl rfl rfl rfl rfl ?_
  exact s_ret (tk (n := 10) t9_0 rfl) rfl rfl rfl
set_option maxRecDepth 100000 in
set_option maxHeartbeats 4000000 in
theorem e_X1_lineOf (x0 : Int) (x1 : Int) (x2 : Int) (h : Hq) : vm 10 [(2, x0), (0, x1), (0, x2)] h = if 0 < x0 ∧ (kd x0).1 = 1 then if (h.2 x0 4) ≠ 0 then some (some (0, w32 ((w32 ((w32 (400 * x1)) + x2)).tdiv (h.2 x0 4))), h) else none else none := by
  show vp 10 0 [(2, x0), (0, x1), (0, x2)] [] h = _
  refine s_sipush (pc1 := 3) (tk (n := 0) t10_0 rfl) rfl rfl  ?_
  refine s_iload_n (pc1 := 4) (tk (n := 1) t10_0 rfl) rfl rfl rfl ?_
  refine s_imul (pc1 := 5) (tk (n := 2) t10_0 rfl) rfl rfl  ?_
  refine s_iload_n (pc1 := 6) (tk (n := 3) t10_0 rfl) rfl rfl rfl ?_
  refine s_iadd (pc1 := 7) (tk (n := 4) t10_0 rfl) rfl rfl  ?_
  refine s_aload_n (pc1 := 8) (tk (n := 5) t10_0 rfl) rfl rfl rfl ?_
  refine s_getf (pc1 := 11) (c := 1) (t1 := 0) (tk (n := 6) t10_0 rfl) rfl rfl (by decide) rfl rfl ?_
  refine s_idiv (pc1 := 12) (tk (n := 7) t10_0 rfl) rfl rfl  ?_
  exact s_ret (tk (n := 8) t10_0 rfl) rfl rfl rfl
set_option maxRecDepth 100000 in
set_option maxHeartbeats 4000000 in
theorem e_X1_slotToGive (x0 : Int) (x1 : Int) (h : Hq) : vm 11 [(2, x0), (0, x1)] h = if 0 < x0 ∧ (kd x0).1 = 1 then vp 11 12 [(2, x0), (0, x1), (0, w32 (x1 * (h.2 x0 3))), (0, w32 (x1 * (h.2 x0 3))), (0, w32 (x1 * (h.2 x0 3)))] [] h else none := by
  show vp 11 0 [(2, x0), (0, x1), (9, 0), (9, 0), (9, 0)] [] h = _
  refine s_iload_n (pc1 := 1) (tk (n := 0) t11_0 rfl) rfl rfl rfl ?_
  refine s_aload_n (pc1 := 2) (tk (n := 1) t11_0 rfl) rfl rfl rfl ?_
  refine s_getf (pc1 := 5) (c := 1) (t1 := 0) (tk (n := 2) t11_0 rfl) rfl rfl (by decide) rfl rfl ?_
  refine s_imul (pc1 := 6) (tk (n := 3) t11_0 rfl) rfl rfl  ?_
  refine s_istore_n (pc1 := 7) (ls1 := [(2, x0), (0, x1), (0, w32 (x1 * (h.2 x0 3))), (9, 0), (9, 0)]) (tk (n := 4) t11_0 rfl) rfl rfl rfl rfl ?_
  refine s_iload_n (pc1 := 8) (tk (n := 5) t11_0 rfl) rfl rfl rfl ?_
  refine s_istore_n (pc1 := 9) (ls1 := [(2, x0), (0, x1), (0, w32 (x1 * (h.2 x0 3))), (0, w32 (x1 * (h.2 x0 3))), (9, 0)]) (tk (n := 6) t11_0 rfl) rfl rfl rfl rfl ?_
  refine s_iload_n (pc1 := 10) (tk (n := 7) t11_0 rfl) rfl rfl rfl ?_
  refine s_istore (pc1 := 12) (ls1 := [(2, x0), (0, x1), (0, w32 (x1 * (h.2 x0 3))), (0, w32 (x1 * (h.2 x0 3))), (0, w32 (x1 * (h.2 x0 3)))]) (tk (n := 8) t11_0 rfl) rfl rfl rfl rfl ?_
  rfl
set_option maxRecDepth 100000 in
set_option maxHeartbeats 4000000 in
theorem e_X1_slotToGive_12 (x0 : Int) (z1 : Vl) (x2 : Int) (x3 : Int) (x4 : Int) (h : Hq) : vp 11 12 [(2, x0), z1, (0, x2), (0, x3), (0, x4)] [] h = if 0 < x0 ∧ (kd x0).1 = 1 then if x4 ≥ (w32 (x2 + (h.2 x0 3))) then (some (some (0, x3), h)) else (if 0 < x0 ∧ (kd x0).1 = 1 then if (kd (h.2 x0 0)).1 = 20 ∧ 0 ≤ x4 ∧ x4 < (kd (h.2 x0 0)).2 then if (h.2 (h.2 x0 0) x4) ≠ (-1) then (if 0 < x0 ∧ (kd x0).1 = 1 then if (kd (h.2 x0 1)).1 = 20 ∧ 0 ≤ x4 ∧ x4 < (kd (h.2 x0 1)).2 then if 0 < x0 ∧ (kd x0).1 = 1 then if (kd (h.2 x0 1)).1 = 20 ∧ 0 ≤ x3 ∧ x3 < (kd (h.2 x0 1)).2 then if (h.2 (h.2 x0 1) x4) ≥ (h.2 (h.2 x0 1) x3) then (vp 11 12 [(2, x0), (9, 0), (0, x2), (0, x3), (0, w32 (x4 + 1))] [] h) else (vp 11 12 [(2, x0), (9, 0), (0, x2), (0, x4), (0, w32 (x4 + 1))] [] h) else none else none else none else none) else (some (some (0, x4), h)) else none else none) else none := by
  refine s_fg (ls1 := [(2, x0), (9, 0), (0, x2), (0, x3), (0, x4)]) (tk (n := 9) t11_0 rfl) rfl ?_
  refine s_iload (pc1 := 14) (tk (n := 9) t11_0 rfl) rfl rfl rfl ?_
  refine s_iload_n (pc1 := 15) (tk (n := 10) t11_0 rfl) rfl rfl rfl ?_
  refine s_aload_n (pc1 := 16) (tk (n := 11) t11_0 rfl) rfl rfl rfl ?_
  refine s_getf (pc1 := 19) (c := 1) (t1 := 0) (tk (n := 12) t11_0 rfl) rfl rfl (by decide) rfl rfl ?_
  refine s_iadd (pc1 := 20) (tk (n := 13) t11_0 rfl) rfl rfl  ?_
  refine s_ic_ge (pc1 := 23) (pt := 62) (tk (n := 14) t11_0 rfl) rfl rfl rfl ?_ ?_
  · refine s_iload_n (pc1 := 63) (tk (n := 6) t11_1 rfl) rfl rfl rfl ?_
    exact s_ret (tk (n := 7) t11_1 rfl) rfl rfl rfl
  · refine s_aload_n (pc1 := 24) (tk (n := 15) t11_0 rfl) rfl rfl rfl ?_
    refine s_getf (pc1 := 27) (c := 1) (t1 := 2) (tk (n := 16) t11_0 rfl) rfl rfl (by decide) rfl rfl ?_
    refine s_iload (pc1 := 29) (tk (n := 17) t11_0 rfl) rfl rfl rfl ?_
    refine s_iald (pc1 := 30) (tk (n := 18) t11_0 rfl) rfl rfl  ?_
    refine s_iconst (pc1 := 31) (tk (n := 19) t11_0 rfl) rfl rfl  ?_
    refine s_ic_ne (pc1 := 34) (pt := 37) (tk (n := 20) t11_0 rfl) rfl rfl rfl ?_ ?_
    · refine s_aload_n (pc1 := 38) (tk (n := 23) t11_0 rfl) rfl rfl rfl ?_
      refine s_getf (pc1 := 41) (c := 1) (t1 := 2) (tk (n := 24) t11_0 rfl) rfl rfl (by decide) rfl rfl ?_
      refine s_iload (pc1 := 43) (tk (n := 25) t11_0 rfl) rfl rfl rfl ?_
      refine s_iald (pc1 := 44) (tk (n := 26) t11_0 rfl) rfl rfl  ?_
      refine s_aload_n (pc1 := 45) (tk (n := 27) t11_0 rfl) rfl rfl rfl ?_
      refine s_getf (pc1 := 48) (c := 1) (t1 := 2) (tk (n := 28) t11_0 rfl) rfl rfl (by decide) rfl rfl ?_
      refine s_iload_n (pc1 := 49) (tk (n := 29) t11_0 rfl) rfl rfl rfl ?_
      refine s_iald (pc1 := 50) (tk (n := 0) t11_1 rfl) rfl rfl  ?_
      refine s_ic_ge (pc1 := 53) (pt := 56) (tk (n := 1) t11_1 rfl) rfl rfl rfl ?_ ?_
      · refine s_iinc (pc1 := 59) (ls1 := [(2, x0), (9, 0), (0, x2), (0, x3), (0, w32 (x4 + 1))]) (tk (n := 4) t11_1 rfl) rfl rfl rfl rfl ?_
        refine s_goto (pc1 := 12) (tk (n := 5) t11_1 rfl) rfl rfl ?_
        rfl
      · refine s_iload (pc1 := 55) (tk (n := 2) t11_1 rfl) rfl rfl rfl ?_
        refine s_istore_n (pc1 := 56) (ls1 := [(2, x0), (9, 0), (0, x2), (0, x4), (0, x4)]) (tk (n := 3) t11_1 rfl) rfl rfl rfl rfl ?_
        refine s_iinc (pc1 := 59) (ls1 := [(2, x0), (9, 0), (0, x2), (0, x4), (0, w32 (x4 + 1))]) (tk (n := 4) t11_1 rfl) rfl rfl rfl rfl ?_
        refine s_goto (pc1 := 12) (tk (n := 5) t11_1 rfl) rfl rfl ?_
        rfl
    · refine s_iload (pc1 := 36) (tk (n := 21) t11_0 rfl) rfl rfl rfl ?_
      exact s_ret (tk (n := 22) t11_0 rfl) rfl rfl rfl
set_option maxRecDepth 100000 in
set_option maxHeartbeats 4000000 in
theorem e_X1_holdAgain (x0 : Int) (x1 : Int) (h : Hq) : vm 12 [(2, x0), (0, x1)] h = if 0 < x0 ∧ (kd x0).1 = 1 then if (0 < x0 ∧ (kd x0).1 = 1) ∧ True then if 0 < x0 ∧ (kd x0).1 = 1 then if ((stm h.2 x0 5 (w32 ((h.2 x0 5) + 1))) x0 2) ≠ 0 then if 0 < x0 ∧ (kd x0).1 = 1 then vp 12 24 [(2, x0), (0, x1), (0, w32 ((x1.tmod ((stm h.2 x0 5 (w32 ((h.2 x0 5) + 1))) x0 2)) * ((stm h.2 x0 5 (w32 ((h.2 x0 5) + 1))) x0 3))), (0, w32 ((x1.tmod ((stm h.2 x0 5 (w32 ((h.2 x0 5) + 1))) x0 2)) * ((stm h.2 x0 5 (w32 ((h.2 x0 5) + 1))) x0 3)))] [] (h.1, stm h.2 x0 5 (w32 ((h.2 x0 5) + 1))) else none else none else none else none else none := by
  show vp 12 0 [(2, x0), (0, x1), (9, 0), (9, 0)] [] h = _
  refine s_aload_n (pc1 := 1) (tk (n := 0) t12_0 rfl) rfl rfl rfl ?_
  refine s_dup2 (pc1 := 2) (tk (n := 1) t12_0 rfl) rfl rfl  ?_
  refine s_getf (pc1 := 5) (c := 1) (t1 := 0) (tk (n := 2) t12_0 rfl) rfl rfl (by decide) rfl rfl ?_
  refine s_iconst (pc1 := 6) (tk (n := 3) t12_0 rfl) rfl rfl  ?_
  refine s_iadd (pc1 := 7) (tk (n := 4) t12_0 rfl) rfl rfl  ?_
  refine s_putf0 (pc1 := 10) (c := 1) (tk (n := 5) t12_0 rfl) rfl rfl rfl rfl rfl ?_
  refine s_iload_n (pc1 := 11) (tk (n := 6) t12_0 rfl) rfl rfl rfl ?_
  refine s_aload_n (pc1 := 12) (tk (n := 7) t12_0 rfl) rfl rfl rfl ?_
  refine s_getf (pc1 := 15) (c := 1) (t1 := 0) (tk (n := 8) t12_0 rfl) rfl rfl (by decide) rfl rfl ?_
  refine s_irem (pc1 := 16) (tk (n := 9) t12_0 rfl) rfl rfl  ?_
  refine s_aload_n (pc1 := 17) (tk (n := 10) t12_0 rfl) rfl rfl rfl ?_
  refine s_getf (pc1 := 20) (c := 1) (t1 := 0) (tk (n := 11) t12_0 rfl) rfl rfl (by decide) rfl rfl ?_
  refine s_imul (pc1 := 21) (tk (n := 12) t12_0 rfl) rfl rfl  ?_
  refine s_istore_n (pc1 := 22) (ls1 := [(2, x0), (0, x1), (0, w32 ((x1.tmod ((stm h.2 x0 5 (w32 ((h.2 x0 5) + 1))) x0 2)) * ((stm h.2 x0 5 (w32 ((h.2 x0 5) + 1))) x0 3))), (9, 0)]) (tk (n := 13) t12_0 rfl) rfl rfl rfl rfl ?_
  refine s_iload_n (pc1 := 23) (tk (n := 14) t12_0 rfl) rfl rfl rfl ?_
  refine s_istore_n (pc1 := 24) (ls1 := [(2, x0), (0, x1), (0, w32 ((x1.tmod ((stm h.2 x0 5 (w32 ((h.2 x0 5) + 1))) x0 2)) * ((stm h.2 x0 5 (w32 ((h.2 x0 5) + 1))) x0 3))), (0, w32 ((x1.tmod ((stm h.2 x0 5 (w32 ((h.2 x0 5) + 1))) x0 2)) * ((stm h.2 x0 5 (w32 ((h.2 x0 5) + 1))) x0 3)))]) (tk (n := 15) t12_0 rfl) rfl rfl rfl rfl ?_
  rfl
set_option maxRecDepth 100000 in
set_option maxHeartbeats 4000000 in
theorem e_X1_holdAgain_24 (x0 : Int) (x1 : Int) (x2 : Int) (x3 : Int) (h : Hq) : vp 12 24 [(2, x0), (0, x1), (0, x2), (0, x3)] [] h = if 0 < x0 ∧ (kd x0).1 = 1 then if x3 ≥ (w32 (x2 + (h.2 x0 3))) then (if 0 < x0 ∧ (kd x0).1 = 1 then if (h.2 x0 2) ≠ 0 then if 0 < x0 ∧ (kd x0).1 = 1 then (vm 11 [(2, x0), (0, x1.tmod (h.2 x0 2))] h).bind (fun r12 => if 0 < x0 ∧ (kd x0).1 = 1 then if 0 < x0 ∧ (kd x0).1 = 1 then if (kd (r12.2.2 x0 0)).1 = 20 ∧ 0 ≤ (vx r12) ∧ (vx r12) < (kd (r12.2.2 x0 0)).2 then if (r12.2.2 (r12.2.2 x0 0) (vx r12)) ≠ (-1) then (if (0 < x0 ∧ (kd x0).1 = 1) ∧ True then if 0 < x0 ∧ (kd x0).1 = 1 then if 0 < ((stm r12.2.2 x0 6 (w32 ((r12.2.2 x0 6) + 0))) x0 0) ∧ (kd ((stm r12.2.2 x0 6 (w32 ((r12.2.2 x0 6) + 0))) x0 0)).1 = 20 ∧ 0 ≤ (vx r12) ∧ (vx r12) < (kd ((stm r12.2.2 x0 6 (w32 ((r12.2.2 x0 6) + 0))) x0 0)).2 then if 0 < x0 ∧ (kd x0).1 = 1 then if 0 < x0 ∧ (kd x0).1 = 1 then if 0 < ((stm (stm r12.2.2 x0 6 (w32 ((r12.2.2 x0 6) + 0))) ((stm r12.2.2 x0 6 (w32 ((r12.2.2 x0 6) + 0))) x0 0) (vx r12) x1) x0 1) ∧ (kd ((stm (stm r12.2.2 x0 6 (w32 ((r12.2.2 x0 6) + 0))) ((stm r12.2.2 x0 6 (w32 ((r12.2.2 x0 6) + 0))) x0 0) (vx r12) x1) x0 1)).1 = 20 ∧ 0 ≤ (vx r12) ∧ (vx r12) < (kd ((stm (stm r12.2.2 x0 6 (w32 ((r12.2.2 x0 6) + 0))) ((stm r12.2.2 x0 6 (w32 ((r12.2.2 x0 6) + 0))) x0 0) (vx r12) x1) x0 1)).2 then some (some (0, 0), (r12.2.1, stm (stm (stm r12.2.2 x0 6 (w32 ((r12.2.2 x0 6) + 0))) ((stm r12.2.2 x0 6 (w32 ((r12.2.2 x0 6) + 0))) x0 0) (vx r12) x1) ((stm (stm r12.2.2 x0 6 (w32 ((r12.2.2 x0 6) + 0))) ((stm r12.2.2 x0 6 (w32 ((r12.2.2 x0 6) + 0))) x0 0) (vx r12) x1) x0 1) (vx r12) ((stm (stm r12.2.2 x0 6 (w32 ((r12.2.2 x0 6) + 0))) ((stm r12.2.2 x0 6 (w32 ((r12.2.2 x0 6) + 0))) x0 0) (vx r12) x1) x0 5))) else none else none else none else none else none else none) else (if (0 < x0 ∧ (kd x0).1 = 1) ∧ True then if 0 < x0 ∧ (kd x0).1 = 1 then if 0 < ((stm r12.2.2 x0 6 (w32 ((r12.2.2 x0 6) + 1))) x0 0) ∧ (kd ((stm r12.2.2 x0 6 (w32 ((r12.2.2 x0 6) + 1))) x0 0)).1 = 20 ∧ 0 ≤ (vx r12) ∧ (vx r12) < (kd ((stm r12.2.2 x0 6 (w32 ((r12.2.2 x0 6) + 1))) x0 0)).2 then if 0 < x0 ∧ (kd x0).1 = 1 then if 0 < x0 ∧ (kd x0).1 = 1 then if 0 < ((stm (stm r12.2.2 x0 6 (w32 ((r12.2.2 x0 6) + 1))) ((stm r12.2.2 x0 6 (w32 ((r12.2.2 x0 6) + 1))) x0 0) (vx r12) x1) x0 1) ∧ (kd ((stm (stm r12.2.2 x0 6 (w32 ((r12.2.2 x0 6) + 1))) ((stm r12.2.2 x0 6 (w32 ((r12.2.2 x0 6) + 1))) x0 0) (vx r12) x1) x0 1)).1 = 20 ∧ 0 ≤ (vx r12) ∧ (vx r12) < (kd ((stm (stm r12.2.2 x0 6 (w32 ((r12.2.2 x0 6) + 1))) ((stm r12.2.2 x0 6 (w32 ((r12.2.2 x0 6) + 1))) x0 0) (vx r12) x1) x0 1)).2 then some (some (0, 0), (r12.2.1, stm (stm (stm r12.2.2 x0 6 (w32 ((r12.2.2 x0 6) + 1))) ((stm r12.2.2 x0 6 (w32 ((r12.2.2 x0 6) + 1))) x0 0) (vx r12) x1) ((stm (stm r12.2.2 x0 6 (w32 ((r12.2.2 x0 6) + 1))) ((stm r12.2.2 x0 6 (w32 ((r12.2.2 x0 6) + 1))) x0 0) (vx r12) x1) x0 1) (vx r12) ((stm (stm r12.2.2 x0 6 (w32 ((r12.2.2 x0 6) + 1))) ((stm r12.2.2 x0 6 (w32 ((r12.2.2 x0 6) + 1))) x0 0) (vx r12) x1) x0 5))) else none else none else none else none else none else none) else none else none else none) else none else none else none) else (if 0 < x0 ∧ (kd x0).1 = 1 then if (kd (h.2 x0 0)).1 = 20 ∧ 0 ≤ x3 ∧ x3 < (kd (h.2 x0 0)).2 then if (h.2 (h.2 x0 0) x3) ≠ x1 then (vp 12 24 [(2, x0), (0, x1), (0, x2), (0, w32 (x3 + 1))] [] h) else (if 0 < x0 ∧ (kd x0).1 = 1 then if 0 < x0 ∧ (kd x0).1 = 1 then if 0 < (h.2 x0 1) ∧ (kd (h.2 x0 1)).1 = 20 ∧ 0 ≤ x3 ∧ x3 < (kd (h.2 x0 1)).2 then some (some (0, 1), (h.1, stm h.2 (h.2 x0 1) x3 (h.2 x0 5))) else none else none else none) else none else none) else none := by
  refine s_iload_n (pc1 := 25) (tk (n := 16) t12_0 rfl) rfl rfl rfl ?_
  refine s_iload_n (pc1 := 26) (tk (n := 17) t12_0 rfl) rfl rfl rfl ?_
  refine s_aload_n (pc1 := 27) (tk (n := 18) t12_0 rfl) rfl rfl rfl ?_
  refine s_getf (pc1 := 30) (c := 1) (t1 := 0) (tk (n := 19) t12_0 rfl) rfl rfl (by decide) rfl rfl ?_
  refine s_iadd (pc1 := 31) (tk (n := 20) t12_0 rfl) rfl rfl  ?_
  refine s_ic_ge (pc1 := 34) (pt := 62) (tk (n := 21) t12_0 rfl) rfl rfl rfl ?_ ?_
  · refine s_aload_n (pc1 := 63) (tk (n := 8) t12_1 rfl) rfl rfl rfl ?_
    refine s_iload_n (pc1 := 64) (tk (n := 9) t12_1 rfl) rfl rfl rfl ?_
    refine s_aload_n (pc1 := 65) (tk (n := 10) t12_1 rfl) rfl rfl rfl ?_
    refine s_getf (pc1 := 68) (c := 1) (t1 := 0) (tk (n := 11) t12_1 rfl) rfl rfl (by decide) rfl rfl ?_
    refine s_irem (pc1 := 69) (tk (n := 12) t12_1 rfl) rfl rfl  ?_
    refine s_call0 (as := [(2, x0), (0, x1.tmod (h.2 x0 2))]) (st1 := []) (p1 := 72) (M2 := 11) (tk (n := 13) t12_1 rfl) rfl rfl rfl rfl rfl (fun r12 => ?_)
    refine s_istore_n (pc1 := 73) (ls1 := [(2, x0), (0, x1), (0, x2), (0, vx r12)]) (tk (n := 14) t12_1 rfl) rfl rfl rfl rfl ?_
    refine s_aload_n (pc1 := 74) (tk (n := 15) t12_1 rfl) rfl rfl rfl ?_
    refine s_dup2 (pc1 := 75) (tk (n := 16) t12_1 rfl) rfl rfl  ?_
    refine s_getf (pc1 := 78) (c := 1) (t1 := 0) (tk (n := 17) t12_1 rfl) rfl rfl (by decide) rfl rfl ?_
    refine s_aload_n (pc1 := 79) (tk (n := 18) t12_1 rfl) rfl rfl rfl ?_
    refine s_getf (pc1 := 82) (c := 1) (t1 := 2) (tk (n := 19) t12_1 rfl) rfl rfl (by decide) rfl rfl ?_
    refine s_iload_n (pc1 := 83) (tk (n := 20) t12_1 rfl) rfl rfl rfl ?_
    refine s_iald (pc1 := 84) (tk (n := 21) t12_1 rfl) rfl rfl  ?_
    refine s_iconst (pc1 := 85) (tk (n := 22) t12_1 rfl) rfl rfl  ?_
    refine s_ic_ne (pc1 := 88) (pt := 92) (tk (n := 23) t12_1 rfl) rfl rfl rfl ?_ ?_
    · refine s_iconst (pc1 := 93) (tk (n := 26) t12_1 rfl) rfl rfl  ?_
      refine s_iadd (pc1 := 94) (tk (n := 27) t12_1 rfl) rfl rfl  ?_
      refine s_putf0 (pc1 := 97) (c := 1) (tk (n := 28) t12_1 rfl) rfl rfl rfl rfl rfl ?_
      refine s_aload_n (pc1 := 98) (tk (n := 29) t12_1 rfl) rfl rfl rfl ?_
      refine s_getf (pc1 := 101) (c := 1) (t1 := 2) (tk (n := 0) t12_2 rfl) rfl rfl (by decide) rfl rfl ?_
      refine s_iload_n (pc1 := 102) (tk (n := 1) t12_2 rfl) rfl rfl rfl ?_
      refine s_iload_n (pc1 := 103) (tk (n := 2) t12_2 rfl) rfl rfl rfl ?_
      refine s_iast (pc1 := 104) (tk (n := 3) t12_2 rfl) rfl rfl  ?_
      refine s_aload_n (pc1 := 105) (tk (n := 4) t12_2 rfl) rfl rfl rfl ?_
      refine s_getf (pc1 := 108) (c := 1) (t1 := 2) (tk (n := 5) t12_2 rfl) rfl rfl (by decide) rfl rfl ?_
      refine s_iload_n (pc1 := 109) (tk (n := 6) t12_2 rfl) rfl rfl rfl ?_
      refine s_aload_n (pc1 := 110) (tk (n := 7) t12_2 rfl) rfl rfl rfl ?_
      refine s_getf (pc1 := 113) (c := 1) (t1 := 0) (tk (n := 8) t12_2 rfl) rfl rfl (by decide) rfl rfl ?_
      refine s_iast (pc1 := 114) (tk (n := 9) t12_2 rfl) rfl rfl  ?_
      refine s_iconst (pc1 := 115) (tk (n := 10) t12_2 rfl) rfl rfl  ?_
      exact s_retY (tk (n := 11) t12_2 rfl) rfl rfl rfl (by decide)
    · refine s_iconst (pc1 := 89) (tk (n := 24) t12_1 rfl) rfl rfl  ?_
      refine s_goto (pc1 := 93) (tk (n := 25) t12_1 rfl) rfl rfl ?_
      refine s_iadd (pc1 := 94) (tk (n := 27) t12_1 rfl) rfl rfl  ?_
      refine s_putf0 (pc1 := 97) (c := 1) (tk (n := 28) t12_1 rfl) rfl rfl rfl rfl rfl ?_
      refine s_aload_n (pc1 := 98) (tk (n := 29) t12_1 rfl) rfl rfl rfl ?_
      refine s_getf (pc1 := 101) (c := 1) (t1 := 2) (tk (n := 0) t12_2 rfl) rfl rfl (by decide) rfl rfl ?_
      refine s_iload_n (pc1 := 102) (tk (n := 1) t12_2 rfl) rfl rfl rfl ?_
      refine s_iload_n (pc1 := 103) (tk (n := 2) t12_2 rfl) rfl rfl rfl ?_
      refine s_iast (pc1 := 104) (tk (n := 3) t12_2 rfl) rfl rfl  ?_
      refine s_aload_n (pc1 := 105) (tk (n := 4) t12_2 rfl) rfl rfl rfl ?_
      refine s_getf (pc1 := 108) (c := 1) (t1 := 2) (tk (n := 5) t12_2 rfl) rfl rfl (by decide) rfl rfl ?_
      refine s_iload_n (pc1 := 109) (tk (n := 6) t12_2 rfl) rfl rfl rfl ?_
      refine s_aload_n (pc1 := 110) (tk (n := 7) t12_2 rfl) rfl rfl rfl ?_
      refine s_getf (pc1 := 113) (c := 1) (t1 := 0) (tk (n := 8) t12_2 rfl) rfl rfl (by decide) rfl rfl ?_
      refine s_iast (pc1 := 114) (tk (n := 9) t12_2 rfl) rfl rfl  ?_
      refine s_iconst (pc1 := 115) (tk (n := 10) t12_2 rfl) rfl rfl  ?_
      exact s_retY (tk (n := 11) t12_2 rfl) rfl rfl rfl (by decide)
  · refine s_aload_n (pc1 := 35) (tk (n := 22) t12_0 rfl) rfl rfl rfl ?_
    refine s_getf (pc1 := 38) (c := 1) (t1 := 2) (tk (n := 23) t12_0 rfl) rfl rfl (by decide) rfl rfl ?_
    refine s_iload_n (pc1 := 39) (tk (n := 24) t12_0 rfl) rfl rfl rfl ?_
    refine s_iald (pc1 := 40) (tk (n := 25) t12_0 rfl) rfl rfl  ?_
    refine s_iload_n (pc1 := 41) (tk (n := 26) t12_0 rfl) rfl rfl rfl ?_
    refine s_ic_ne (pc1 := 44) (pt := 56) (tk (n := 27) t12_0 rfl) rfl rfl rfl ?_ ?_
    · refine s_iinc (pc1 := 59) (ls1 := [(2, x0), (0, x1), (0, x2), (0, w32 (x3 + 1))]) (tk (n := 6) t12_1 rfl) rfl rfl rfl rfl ?_
      refine s_goto (pc1 := 24) (tk (n := 7) t12_1 rfl) rfl rfl ?_
      rfl
    · refine s_aload_n (pc1 := 45) (tk (n := 28) t12_0 rfl) rfl rfl rfl ?_
      refine s_getf (pc1 := 48) (c := 1) (t1 := 2) (tk (n := 29) t12_0 rfl) rfl rfl (by decide) rfl rfl ?_
      refine s_iload_n (pc1 := 49) (tk (n := 0) t12_1 rfl) rfl rfl rfl ?_
      refine s_aload_n (pc1 := 50) (tk (n := 1) t12_1 rfl) rfl rfl rfl ?_
      refine s_getf (pc1 := 53) (c := 1) (t1 := 0) (tk (n := 2) t12_1 rfl) rfl rfl (by decide) rfl rfl ?_
      refine s_iast (pc1 := 54) (tk (n := 3) t12_1 rfl) rfl rfl  ?_
      refine s_iconst (pc1 := 55) (tk (n := 4) t12_1 rfl) rfl rfl  ?_
      exact s_retY (tk (n := 5) t12_1 rfl) rfl rfl rfl (by decide)
set_option maxRecDepth 100000 in
set_option maxHeartbeats 4000000 in
theorem e_X1_missesOf (x0 : Int) (x1 : Int) (x2 : Int) (x3 : Int) (x4 : Int) (h : Hq) : vm 13 [(2, x0), (2, x1), (0, x2), (0, x3), (0, x4)] h = vp 13 6 [(2, x0), (2, x1), (0, x2), (0, x3), (0, x4), (0, 0), (0, 0), (9, 0)] [] h := by
  show vp 13 0 [(2, x0), (2, x1), (0, x2), (0, x3), (0, x4), (9, 0), (9, 0), (9, 0)] [] h = _
  refine s_iconst (pc1 := 1) (tk (n := 0) t13_0 rfl) rfl rfl  ?_
  refine s_istore (pc1 := 3) (ls1 := [(2, x0), (2, x1), (0, x2), (0, x3), (0, x4), (0, 0), (9, 0), (9, 0)]) (tk (n := 1) t13_0 rfl) rfl rfl rfl rfl ?_
  refine s_iconst (pc1 := 4) (tk (n := 2) t13_0 rfl) rfl rfl  ?_
  refine s_istore (pc1 := 6) (ls1 := [(2, x0), (2, x1), (0, x2), (0, x3), (0, x4), (0, 0), (0, 0), (9, 0)]) (tk (n := 3) t13_0 rfl) rfl rfl rfl rfl ?_
  rfl
set_option maxRecDepth 100000 in
set_option maxHeartbeats 4000000 in
theorem e_X1_missesOf_6 (x0 : Int) (x1 : Int) (x2 : Int) (x3 : Int) (x4 : Int) (x5 : Int) (x6 : Int) (z7 : Vl) (h : Hq) : vp 13 6 [(2, x0), (2, x1), (0, x2), (0, x3), (0, x4), (0, x5), (0, x6), z7] [] h = if 0 < x1 ∧ (kd x1).1 = 10 then (vm 84 [(2, x1), (0, x2)] h).bind (fun r4 => if x6 ≥ (vx r4) then (some (some (0, x5), r4.2)) else (if 0 < x1 ∧ (kd x1).1 = 10 then if (kd (r4.2.2 x1 0)).1 = 20 ∧ 0 ≤ x2 ∧ x2 < (kd (r4.2.2 x1 0)).2 then if 0 < x1 ∧ (kd x1).1 = 10 then (vm 91 [(2, x1), (0, x2), (0, x6), (0, x3), (0, x4)] r4.2).bind (fun r15 => if 0 < x1 ∧ (kd x1).1 = 10 then if 0 < x0 ∧ (kd x0).1 = 1 then (vm 10 [(2, x0), (0, r15.2.2 x1 4), (0, w32 ((r4.2.2 (r4.2.2 x1 0) x2) + (vx r15)))] r15.2).bind (fun r23 => if 0 < x0 ∧ (kd x0).1 = 1 then (vm 12 [(2, x0), (0, vx r23)] r23.2).bind (fun r24 => if (vx r24) ≠ 0 then (vp 13 6 [(2, x0), (2, x1), (0, x2), (0, x3), (0, x4), (0, x5), (0, w32 (x6 + 1)), (0, w32 ((r4.2.2 (r4.2.2 x1 0) x2) + (vx r15)))] [] r24.2) else (vp 13 6 [(2, x0), (2, x1), (0, x2), (0, x3), (0, x4), (0, w32 (x5 + 1)), (0, w32 (x6 + 1)), (0, w32 ((r4.2.2 (r4.2.2 x1 0) x2) + (vx r15)))] [] r24.2)) else none) else none else none) else none else none else none)) else none := by
  refine s_fg (ls1 := [(2, x0), (2, x1), (0, x2), (0, x3), (0, x4), (0, x5), (0, x6), (9, 0)]) (tk (n := 4) t13_0 rfl) rfl ?_
  refine s_iload (pc1 := 8) (tk (n := 4) t13_0 rfl) rfl rfl rfl ?_
  refine s_aload_n (pc1 := 9) (tk (n := 5) t13_0 rfl) rfl rfl rfl ?_
  refine s_iload_n (pc1 := 10) (tk (n := 6) t13_0 rfl) rfl rfl rfl ?_
  refine s_call0 (as := [(2, x1), (0, x2)]) (st1 := [(0, x6)]) (p1 := 13) (M2 := 84) (tk (n := 7) t13_0 rfl) rfl rfl rfl rfl rfl (fun r4 => ?_)
  refine s_ic_ge (pc1 := 16) (pt := 61) (tk (n := 8) t13_0 rfl) rfl rfl rfl ?_ ?_
  · refine s_iload (pc1 := 63) (tk (n := 2) t13_1 rfl) rfl rfl rfl ?_
    exact s_ret (tk (n := 3) t13_1 rfl) rfl rfl rfl
  · refine s_aload_n (pc1 := 17) (tk (n := 9) t13_0 rfl) rfl rfl rfl ?_
    refine s_getf (pc1 := 20) (c := 10) (t1 := 2) (tk (n := 10) t13_0 rfl) rfl rfl (by decide) rfl rfl ?_
    refine s_iload_n (pc1 := 21) (tk (n := 11) t13_0 rfl) rfl rfl rfl ?_
    refine s_iald (pc1 := 22) (tk (n := 12) t13_0 rfl) rfl rfl  ?_
    refine s_aload_n (pc1 := 23) (tk (n := 13) t13_0 rfl) rfl rfl rfl ?_
    refine s_iload_n (pc1 := 24) (tk (n := 14) t13_0 rfl) rfl rfl rfl ?_
    refine s_iload (pc1 := 26) (tk (n := 15) t13_0 rfl) rfl rfl rfl ?_
    refine s_iload_n (pc1 := 27) (tk (n := 16) t13_0 rfl) rfl rfl rfl ?_
    refine s_iload (pc1 := 29) (tk (n := 17) t13_0 rfl) rfl rfl rfl ?_
    refine s_call0 (as := [(2, x1), (0, x2), (0, x6), (0, x3), (0, x4)]) (st1 := [(0, r4.2.2 (r4.2.2 x1 0) x2)]) (p1 := 32) (M2 := 91) (tk (n := 18) t13_0 rfl) rfl rfl rfl rfl rfl (fun r15 => ?_)
    refine s_iadd (pc1 := 33) (tk (n := 19) t13_0 rfl) rfl rfl  ?_
    refine s_istore (pc1 := 35) (ls1 := [(2, x0), (2, x1), (0, x2), (0, x3), (0, x4), (0, x5), (0, x6), (0, w32 ((r4.2.2 (r4.2.2 x1 0) x2) + (vx r15)))]) (tk (n := 20) t13_0 rfl) rfl rfl rfl rfl ?_
    refine s_aload_n (pc1 := 36) (tk (n := 21) t13_0 rfl) rfl rfl rfl ?_
    refine s_aload_n (pc1 := 37) (tk (n := 22) t13_0 rfl) rfl rfl rfl ?_
    refine s_aload_n (pc1 := 38) (tk (n := 23) t13_0 rfl) rfl rfl rfl ?_
    refine s_getf (pc1 := 41) (c := 10) (t1 := 0) (tk (n := 24) t13_0 rfl) rfl rfl (by decide) rfl rfl ?_
    refine s_iload (pc1 := 43) (tk (n := 25) t13_0 rfl) rfl rfl rfl ?_
    refine s_call0 (as := [(2, x0), (0, r15.2.2 x1 4), (0, w32 ((r4.2.2 (r4.2.2 x1 0) x2) + (vx r15)))]) (st1 := [(2, x0)]) (p1 := 46) (M2 := 10) (tk (n := 26) t13_0 rfl) rfl rfl rfl rfl rfl (fun r23 => ?_)
    refine s_call0 (as := [(2, x0), (0, vx r23)]) (st1 := []) (p1 := 49) (M2 := 12) (tk (n := 27) t13_0 rfl) rfl rfl rfl rfl rfl (fun r24 => ?_)
    refine s_if_ne (pc1 := 52) (pt := 55) (tk (n := 28) t13_0 rfl) rfl rfl rfl ?_ ?_
    · refine s_iinc (pc1 := 58) (ls1 := [(2, x0), (2, x1), (0, x2), (0, x3), (0, x4), (0, x5), (0, w32 (x6 + 1)), (0, w32 ((r4.2.2 (r4.2.2 x1 0) x2) + (vx r15)))]) (tk (n := 0) t13_1 rfl) rfl rfl rfl rfl ?_
      refine s_goto (pc1 := 6) (tk (n := 1) t13_1 rfl) rfl rfl ?_
      rfl
    · refine s_iinc (pc1 := 55) (ls1 := [(2, x0), (2, x1), (0, x2), (0, x3), (0, x4), (0, w32 (x5 + 1)), (0, x6), (0, w32 ((r4.2.2 (r4.2.2 x1 0) x2) + (vx r15)))]) (tk (n := 29) t13_0 rfl) rfl rfl rfl rfl ?_
      refine s_iinc (pc1 := 58) (ls1 := [(2, x0), (2, x1), (0, x2), (0, x3), (0, x4), (0, w32 (x5 + 1)), (0, w32 (x6 + 1)), (0, w32 ((r4.2.2 (r4.2.2 x1 0) x2) + (vx r15)))]) (tk (n := 0) t13_1 rfl) rfl rfl rfl rfl ?_
      refine s_goto (pc1 := 6) (tk (n := 1) t13_1 rfl) rfl rfl ?_
      rfl
set_option maxRecDepth 100000 in
set_option maxHeartbeats 4000000 in
theorem e_X2_init (x0 : Int) (h : Hq) : vm 14 [(2, x0)] h = if 0 < x0 then if (0 < x0 ∧ (kd x0).1 = 2) ∧ True then some (none, (h.1, stm h.2 x0 0 1)) else none else none := by
  show vp 14 0 [(2, x0)] [] h = _
  refine s_aload_n (pc1 := 1) (tk (n := 0) t14_0 rfl) rfl rfl rfl ?_
  refine s_oini (pc1 := 4) (tk (n := 1) t14_0 rfl) rfl rfl rfl ?_
  refine s_aload_n (pc1 := 5) (tk (n := 2) t14_0 rfl) rfl rfl rfl ?_
  refine s_iconst (pc1 := 6) (tk (n := 3) t14_0 rfl) rfl rfl  ?_
  refine s_putf0 (pc1 := 9) (c := 2) (tk (n := 4) t14_0 rfl) rfl rfl rfl rfl rfl ?_
  exact s_ret (tk (n := 5) t14_0 rfl) rfl rfl rfl
set_option maxRecDepth 100000 in
set_option maxHeartbeats 4000000 in
theorem e_X2_measure (x0 : Int) (x1 : Int) (x2 : Int) (x3 : Int) (x4 : Int) (h : Hq) : vm 15 [(2, x0), (0, x1), (0, x2), (0, x3), (0, x4)] h = (vm 312 [(0, x1)] h).bind (fun r2 => (vm 312 [(0, x2)] r2.2).bind (fun r4 => (vm 312 [(0, x3)] r4.2).bind (fun r8 => (vm 312 [(0, x4)] r8.2).bind (fun r10 => if (w32 ((vx r8) + (vx r10))) ≤ (w32 ((vx r2) + (vx r4))) then (if (0 < x0 ∧ (kd x0).1 = 2) ∧ True then (vm 313 [(0, w32 ((vx r2) + (vx r4))), (0, w32 ((vx r8) + (vx r10)))] (r10.2.1, stm r10.2.2 x0 2 0)).bind (fun r22 => if (0 < x0 ∧ (kd x0).1 = 2) ∧ True then if 0 < x0 ∧ (kd x0).1 = 2 then if ((stm r22.2.2 x0 1 (vx r22)) x0 2) ≠ 0 then (vp 15 63 [(2, x0), (0, x1), (0, x2), (0, x3), (0, x4), (0, w32 ((vx r2) + (vx r4))), (0, w32 ((vx r8) + (vx r10))), (9, 0), (9, 0)] [(0, x3), (2, x0)] (r22.2.1, stm r22.2.2 x0 1 (vx r22))) else (vp 15 63 [(2, x0), (0, x1), (0, x2), (0, x3), (0, x4), (0, w32 ((vx r2) + (vx r4))), (0, w32 ((vx r8) + (vx r10))), (9, 0), (9, 0)] [(0, x1), (2, x0)] (r22.2.1, stm r22.2.2 x0 1 (vx r22))) else none else none) else none) else (if (0 < x0 ∧ (kd x0).1 = 2) ∧ True then (vm 313 [(0, w32 ((vx r2) + (vx r4))), (0, w32 ((vx r8) + (vx r10)))] (r10.2.1, stm r10.2.2 x0 2 1)).bind (fun r23 => if (0 < x0 ∧ (kd x0).1 = 2) ∧ True then if 0 < x0 ∧ (kd x0).1 = 2 then if ((stm r23.2.2 x0 1 (vx r23)) x0 2) ≠ 0 then (vp 15 63 [(2, x0), (0, x1), (0, x2), (0, x3), (0, x4), (0, w32 ((vx r2) + (vx r4))), (0, w32 ((vx r8) + (vx r10))), (9, 0), (9, 0)] [(0, x3), (2, x0)] (r23.2.1, stm r23.2.2 x0 1 (vx r23))) else (vp 15 63 [(2, x0), (0, x1), (0, x2), (0, x3), (0, x4), (0, w32 ((vx r2) + (vx r4))), (0, w32 ((vx r8) + (vx r10))), (9, 0), (9, 0)] [(0, x1), (2, x0)] (r23.2.1, stm r23.2.2 x0 1 (vx r23))) else none else none) else none))))) := by
  show vp 15 0 [(2, x0), (0, x1), (0, x2), (0, x3), (0, x4), (9, 0), (9, 0), (9, 0), (9, 0)] [] h = _
  refine s_iload_n (pc1 := 1) (tk (n := 0) t15_0 rfl) rfl rfl rfl ?_
  refine s_callS0 (as := [(0, x1)]) (st1 := []) (p1 := 4) (M2 := 312) (tk (n := 1) t15_0 rfl) rfl rfl rfl rfl rfl (fun r2 => ?_)
  refine s_iload_n (pc1 := 5) (tk (n := 2) t15_0 rfl) rfl rfl rfl ?_
  refine s_callS0 (as := [(0, x2)]) (st1 := [(0, vx r2)]) (p1 := 8) (M2 := 312) (tk (n := 3) t15_0 rfl) rfl rfl rfl rfl rfl (fun r4 => ?_)
  refine s_iadd (pc1 := 9) (tk (n := 4) t15_0 rfl) rfl rfl  ?_
  refine s_istore (pc1 := 11) (ls1 := [(2, x0), (0, x1), (0, x2), (0, x3), (0, x4), (0, w32 ((vx r2) + (vx r4))), (9, 0), (9, 0), (9, 0)]) (tk (n := 5) t15_0 rfl) rfl rfl rfl rfl ?_
  refine s_iload_n (pc1 := 12) (tk (n := 6) t15_0 rfl) rfl rfl rfl ?_
  refine s_callS0 (as := [(0, x3)]) (st1 := []) (p1 := 15) (M2 := 312) (tk (n := 7) t15_0 rfl) rfl rfl rfl rfl rfl (fun r8 => ?_)
  refine s_iload (pc1 := 17) (tk (n := 8) t15_0 rfl) rfl rfl rfl ?_
  refine s_callS0 (as := [(0, x4)]) (st1 := [(0, vx r8)]) (p1 := 20) (M2 := 312) (tk (n := 9) t15_0 rfl) rfl rfl rfl rfl rfl (fun r10 => ?_)
  refine s_iadd (pc1 := 21) (tk (n := 10) t15_0 rfl) rfl rfl  ?_
  refine s_istore (pc1 := 23) (ls1 := [(2, x0), (0, x1), (0, x2), (0, x3), (0, x4), (0, w32 ((vx r2) + (vx r4))), (0, w32 ((vx r8) + (vx r10))), (9, 0), (9, 0)]) (tk (n := 11) t15_0 rfl) rfl rfl rfl rfl ?_
  refine s_aload_n (pc1 := 24) (tk (n := 12) t15_0 rfl) rfl rfl rfl ?_
  refine s_iload (pc1 := 26) (tk (n := 13) t15_0 rfl) rfl rfl rfl ?_
  refine s_iload (pc1 := 28) (tk (n := 14) t15_0 rfl) rfl rfl rfl ?_
  refine s_ic_le (pc1 := 31) (pt := 35) (tk (n := 15) t15_0 rfl) rfl rfl rfl ?_ ?_
  · refine s_iconst (pc1 := 36) (tk (n := 18) t15_0 rfl) rfl rfl  ?_
    refine s_putf0 (pc1 := 39) (c := 2) (tk (n := 19) t15_0 rfl) rfl rfl rfl rfl rfl ?_
    refine s_aload_n (pc1 := 40) (tk (n := 20) t15_0 rfl) rfl rfl rfl ?_
    refine s_iload (pc1 := 42) (tk (n := 21) t15_0 rfl) rfl rfl rfl ?_
    refine s_iload (pc1 := 44) (tk (n := 22) t15_0 rfl) rfl rfl rfl ?_
    refine s_callS0 (as := [(0, w32 ((vx r2) + (vx r4))), (0, w32 ((vx r8) + (vx r10)))]) (st1 := [(2, x0)]) (p1 := 47) (M2 := 313) (tk (n := 23) t15_0 rfl) rfl rfl rfl rfl rfl (fun r22 => ?_)
    refine s_putf0 (pc1 := 50) (c := 2) (tk (n := 24) t15_0 rfl) rfl rfl rfl rfl rfl ?_
    refine s_aload_n (pc1 := 51) (tk (n := 25) t15_0 rfl) rfl rfl rfl ?_
    refine s_aload_n (pc1 := 52) (tk (n := 26) t15_0 rfl) rfl rfl rfl ?_
    refine s_getf (pc1 := 55) (c := 2) (t1 := 0) (tk (n := 27) t15_0 rfl) rfl rfl (by decide) rfl rfl ?_
    refine s_if_ne (pc1 := 58) (pt := 62) (tk (n := 28) t15_0 rfl) rfl rfl rfl ?_ ?_
    · refine s_iload_n (pc1 := 63) (tk (n := 1) t15_1 rfl) rfl rfl rfl ?_
      rfl
    · refine s_iload_n (pc1 := 59) (tk (n := 29) t15_0 rfl) rfl rfl rfl ?_
      refine s_goto (pc1 := 63) (tk (n := 0) t15_1 rfl) rfl rfl ?_
      rfl
  · refine s_iconst (pc1 := 32) (tk (n := 16) t15_0 rfl) rfl rfl  ?_
    refine s_goto (pc1 := 36) (tk (n := 17) t15_0 rfl) rfl rfl ?_
    refine s_putf0 (pc1 := 39) (c := 2) (tk (n := 19) t15_0 rfl) rfl rfl rfl rfl rfl ?_
    refine s_aload_n (pc1 := 40) (tk (n := 20) t15_0 rfl) rfl rfl rfl ?_
    refine s_iload (pc1 := 42) (tk (n := 21) t15_0 rfl) rfl rfl rfl ?_
    refine s_iload (pc1 := 44) (tk (n := 22) t15_0 rfl) rfl rfl rfl ?_
    refine s_callS0 (as := [(0, w32 ((vx r2) + (vx r4))), (0, w32 ((vx r8) + (vx r10)))]) (st1 := [(2, x0)]) (p1 := 47) (M2 := 313) (tk (n := 23) t15_0 rfl) rfl rfl rfl rfl rfl (fun r23 => ?_)
    refine s_putf0 (pc1 := 50) (c := 2) (tk (n := 24) t15_0 rfl) rfl rfl rfl rfl rfl ?_
    refine s_aload_n (pc1 := 51) (tk (n := 25) t15_0 rfl) rfl rfl rfl ?_
    refine s_aload_n (pc1 := 52) (tk (n := 26) t15_0 rfl) rfl rfl rfl ?_
    refine s_getf (pc1 := 55) (c := 2) (t1 := 0) (tk (n := 27) t15_0 rfl) rfl rfl (by decide) rfl rfl ?_
    refine s_if_ne (pc1 := 58) (pt := 62) (tk (n := 28) t15_0 rfl) rfl rfl rfl ?_ ?_
    · refine s_iload_n (pc1 := 63) (tk (n := 1) t15_1 rfl) rfl rfl rfl ?_
      rfl
    · refine s_iload_n (pc1 := 59) (tk (n := 29) t15_0 rfl) rfl rfl rfl ?_
      refine s_goto (pc1 := 63) (tk (n := 0) t15_1 rfl) rfl rfl ?_
      rfl
set_option maxRecDepth 100000 in
set_option maxHeartbeats 4000000 in
theorem e_X2_measure_63 (x0 : Int) (z1 : Vl) (x2 : Int) (z3 : Vl) (x4 : Int) (x5 : Int) (x6 : Int) (z7 : Vl) (z8 : Vl) (s0 : Int) (s1 : Int) (h : Hq) : vp 15 63 [(2, x0), z1, (0, x2), z3, (0, x4), (0, x5), (0, x6), z7, z8] [(0, s1), (2, s0)] h = if (0 < s0 ∧ (kd s0).1 = 2) ∧ True then if 0 < x0 ∧ (kd x0).1 = 2 then if ((stm h.2 s0 3 s1) x0 2) ≠ 0 then (if (0 < x0 ∧ (kd x0).1 = 2) ∧ True then if 0 < x0 ∧ (kd x0).1 = 2 then (vm 314 [(0, x5), (0, x6)] (h.1, stm (stm h.2 s0 3 s1) x0 4 x4)).bind (fun r13 => (vm 16 [(0, (stm (stm h.2 s0 3 s1) x0 4 x4) x0 1), (0, vx r13)] r13.2).bind (fun r14 => if (0 < x0 ∧ (kd x0).1 = 2) ∧ True then if (0 < x0 ∧ (kd x0).1 = 2) ∧ True then if 0 < x0 ∧ (kd x0).1 = 2 then if 0 < x0 ∧ (kd x0).1 = 2 then if 0 < x0 ∧ (kd x0).1 = 2 then if ((stm (stm r14.2.2 x0 0 (vx r14)) x0 5 0) x0 0) ≠ 0 then vp 15 127 [(2, x0), (9, 0), (0, x2), (9, 0), (0, x4), (0, x5), (0, x6), (0, w32 ((w32 ((w32 (((stm (stm r14.2.2 x0 0 (vx r14)) x0 5 0) x0 1) + ((stm (stm r14.2.2 x0 0 (vx r14)) x0 5 0) x0 0))) - 1)).tdiv ((stm (stm r14.2.2 x0 0 (vx r14)) x0 5 0) x0 0))), (0, 0)] [] (r14.2.1, stm (stm r14.2.2 x0 0 (vx r14)) x0 5 0) else none else none else none else none else none else none)) else none else none) else (if (0 < x0 ∧ (kd x0).1 = 2) ∧ True then if 0 < x0 ∧ (kd x0).1 = 2 then (vm 314 [(0, x5), (0, x6)] (h.1, stm (stm h.2 s0 3 s1) x0 4 x2)).bind (fun r14 => (vm 16 [(0, (stm (stm h.2 s0 3 s1) x0 4 x2) x0 1), (0, vx r14)] r14.2).bind (fun r15 => if (0 < x0 ∧ (kd x0).1 = 2) ∧ True then if (0 < x0 ∧ (kd x0).1 = 2) ∧ True then if 0 < x0 ∧ (kd x0).1 = 2 then if 0 < x0 ∧ (kd x0).1 = 2 then if 0 < x0 ∧ (kd x0).1 = 2 then if ((stm (stm r15.2.2 x0 0 (vx r15)) x0 5 0) x0 0) ≠ 0 then vp 15 127 [(2, x0), (9, 0), (0, x2), (9, 0), (0, x4), (0, x5), (0, x6), (0, w32 ((w32 ((w32 (((stm (stm r15.2.2 x0 0 (vx r15)) x0 5 0) x0 1) + ((stm (stm r15.2.2 x0 0 (vx r15)) x0 5 0) x0 0))) - 1)).tdiv ((stm (stm r15.2.2 x0 0 (vx r15)) x0 5 0) x0 0))), (0, 0)] [] (r15.2.1, stm (stm r15.2.2 x0 0 (vx r15)) x0 5 0) else none else none else none else none else none else none)) else none else none) else none else none := by
  refine s_fg (ls1 := [(2, x0), (9, 0), (0, x2), (9, 0), (0, x4), (0, x5), (0, x6), (9, 0), (9, 0)]) (tk (n := 2) t15_1 rfl) rfl ?_
  refine s_putf0 (pc1 := 66) (c := 2) (tk (n := 2) t15_1 rfl) rfl rfl rfl rfl rfl ?_
  refine s_aload_n (pc1 := 67) (tk (n := 3) t15_1 rfl) rfl rfl rfl ?_
  refine s_aload_n (pc1 := 68) (tk (n := 4) t15_1 rfl) rfl rfl rfl ?_
  refine s_getf (pc1 := 71) (c := 2) (t1 := 0) (tk (n := 5) t15_1 rfl) rfl rfl (by decide) rfl rfl ?_
  refine s_if_ne (pc1 := 74) (pt := 78) (tk (n := 6) t15_1 rfl) rfl rfl rfl ?_ ?_
  · refine s_iload (pc1 := 80) (tk (n := 9) t15_1 rfl) rfl rfl rfl ?_
    refine s_putf0 (pc1 := 83) (c := 2) (tk (n := 10) t15_1 rfl) rfl rfl rfl rfl rfl ?_
    refine s_aload_n (pc1 := 84) (tk (n := 11) t15_1 rfl) rfl rfl rfl ?_
    refine s_aload_n (pc1 := 85) (tk (n := 12) t15_1 rfl) rfl rfl rfl ?_
    refine s_getf (pc1 := 88) (c := 2) (t1 := 0) (tk (n := 13) t15_1 rfl) rfl rfl (by decide) rfl rfl ?_
    refine s_iload (pc1 := 90) (tk (n := 14) t15_1 rfl) rfl rfl rfl ?_
    refine s_iload (pc1 := 92) (tk (n := 15) t15_1 rfl) rfl rfl rfl ?_
    refine s_callS0 (as := [(0, x5), (0, x6)]) (st1 := [(0, (stm (stm h.2 s0 3 s1) x0 4 x4) x0 1), (2, x0)]) (p1 := 95) (M2 := 314) (tk (n := 16) t15_1 rfl) rfl rfl rfl rfl rfl (fun r13 => ?_)
    refine s_callS0 (as := [(0, (stm (stm h.2 s0 3 s1) x0 4 x4) x0 1), (0, vx r13)]) (st1 := [(2, x0)]) (p1 := 98) (M2 := 16) (tk (n := 17) t15_1 rfl) rfl rfl rfl rfl rfl (fun r14 => ?_)
    refine s_putf0 (pc1 := 101) (c := 2) (tk (n := 18) t15_1 rfl) rfl rfl rfl rfl rfl ?_
    refine s_aload_n (pc1 := 102) (tk (n := 19) t15_1 rfl) rfl rfl rfl ?_
    refine s_iconst (pc1 := 103) (tk (n := 20) t15_1 rfl) rfl rfl  ?_
    refine s_putf0 (pc1 := 106) (c := 2) (tk (n := 21) t15_1 rfl) rfl rfl rfl rfl rfl ?_
    refine s_aload_n (pc1 := 107) (tk (n := 22) t15_1 rfl) rfl rfl rfl ?_
    refine s_getf (pc1 := 110) (c := 2) (t1 := 0) (tk (n := 23) t15_1 rfl) rfl rfl (by decide) rfl rfl ?_
    refine s_aload_n (pc1 := 111) (tk (n := 24) t15_1 rfl) rfl rfl rfl ?_
    refine s_getf (pc1 := 114) (c := 2) (t1 := 0) (tk (n := 25) t15_1 rfl) rfl rfl (by decide) rfl rfl ?_
    refine s_iadd (pc1 := 115) (tk (n := 26) t15_1 rfl) rfl rfl  ?_
    refine s_iconst (pc1 := 116) (tk (n := 27) t15_1 rfl) rfl rfl  ?_
    refine s_isub (pc1 := 117) (tk (n := 28) t15_1 rfl) rfl rfl  ?_
    refine s_aload_n (pc1 := 118) (tk (n := 29) t15_1 rfl) rfl rfl rfl ?_
    refine s_getf (pc1 := 121) (c := 2) (t1 := 0) (tk (n := 0) t15_2 rfl) rfl rfl (by decide) rfl rfl ?_
    refine s_idiv (pc1 := 122) (tk (n := 1) t15_2 rfl) rfl rfl  ?_
    refine s_istore (pc1 := 124) (ls1 := [(2, x0), (9, 0), (0, x2), (9, 0), (0, x4), (0, x5), (0, x6), (0, w32 ((w32 ((w32 (((stm (stm r14.2.2 x0 0 (vx r14)) x0 5 0) x0 1) + ((stm (stm r14.2.2 x0 0 (vx r14)) x0 5 0) x0 0))) - 1)).tdiv ((stm (stm r14.2.2 x0 0 (vx r14)) x0 5 0) x0 0))), (9, 0)]) (tk (n := 2) t15_2 rfl) rfl rfl rfl rfl ?_
    refine s_iconst (pc1 := 125) (tk (n := 3) t15_2 rfl) rfl rfl  ?_
    refine s_istore (pc1 := 127) (ls1 := [(2, x0), (9, 0), (0, x2), (9, 0), (0, x4), (0, x5), (0, x6), (0, w32 ((w32 ((w32 (((stm (stm r14.2.2 x0 0 (vx r14)) x0 5 0) x0 1) + ((stm (stm r14.2.2 x0 0 (vx r14)) x0 5 0) x0 0))) - 1)).tdiv ((stm (stm r14.2.2 x0 0 (vx r14)) x0 5 0) x0 0))), (0, 0)]) (tk (n := 4) t15_2 rfl) rfl rfl rfl rfl ?_
    rfl
  · refine s_iload_n (pc1 := 75) (tk (n := 7) t15_1 rfl) rfl rfl rfl ?_
    refine s_goto (pc1 := 80) (tk (n := 8) t15_1 rfl) rfl rfl ?_
    refine s_putf0 (pc1 := 83) (c := 2) (tk (n := 10) t15_1 rfl) rfl rfl rfl rfl rfl ?_
    refine s_aload_n (pc1 := 84) (tk (n := 11) t15_1 rfl) rfl rfl rfl ?_
    refine s_aload_n (pc1 := 85) (tk (n := 12) t15_1 rfl) rfl rfl rfl ?_
    refine s_getf (pc1 := 88) (c := 2) (t1 := 0) (tk (n := 13) t15_1 rfl) rfl rfl (by decide) rfl rfl ?_
    refine s_iload (pc1 := 90) (tk (n := 14) t15_1 rfl) rfl rfl rfl ?_
    refine s_iload (pc1 := 92) (tk (n := 15) t15_1 rfl) rfl rfl rfl ?_
    refine s_callS0 (as := [(0, x5), (0, x6)]) (st1 := [(0, (stm (stm h.2 s0 3 s1) x0 4 x2) x0 1), (2, x0)]) (p1 := 95) (M2 := 314) (tk (n := 16) t15_1 rfl) rfl rfl rfl rfl rfl (fun r14 => ?_)
    refine s_callS0 (as := [(0, (stm (stm h.2 s0 3 s1) x0 4 x2) x0 1), (0, vx r14)]) (st1 := [(2, x0)]) (p1 := 98) (M2 := 16) (tk (n := 17) t15_1 rfl) rfl rfl rfl rfl rfl (fun r15 => ?_)
    refine s_putf0 (pc1 := 101) (c := 2) (tk (n := 18) t15_1 rfl) rfl rfl rfl rfl rfl ?_
    refine s_aload_n (pc1 := 102) (tk (n := 19) t15_1 rfl) rfl rfl rfl ?_
    refine s_iconst (pc1 := 103) (tk (n := 20) t15_1 rfl) rfl rfl  ?_
    refine s_putf0 (pc1 := 106) (c := 2) (tk (n := 21) t15_1 rfl) rfl rfl rfl rfl rfl ?_
    refine s_aload_n (pc1 := 107) (tk (n := 22) t15_1 rfl) rfl rfl rfl ?_
    refine s_getf (pc1 := 110) (c := 2) (t1 := 0) (tk (n := 23) t15_1 rfl) rfl rfl (by decide) rfl rfl ?_
    refine s_aload_n (pc1 := 111) (tk (n := 24) t15_1 rfl) rfl rfl rfl ?_
    refine s_getf (pc1 := 114) (c := 2) (t1 := 0) (tk (n := 25) t15_1 rfl) rfl rfl (by decide) rfl rfl ?_
    refine s_iadd (pc1 := 115) (tk (n := 26) t15_1 rfl) rfl rfl  ?_
    refine s_iconst (pc1 := 116) (tk (n := 27) t15_1 rfl) rfl rfl  ?_
    refine s_isub (pc1 := 117) (tk (n := 28) t15_1 rfl) rfl rfl  ?_
    refine s_aload_n (pc1 := 118) (tk (n := 29) t15_1 rfl) rfl rfl rfl ?_
    refine s_getf (pc1 := 121) (c := 2) (t1 := 0) (tk (n := 0) t15_2 rfl) rfl rfl (by decide) rfl rfl ?_
    refine s_idiv (pc1 := 122) (tk (n := 1) t15_2 rfl) rfl rfl  ?_
    refine s_istore (pc1 := 124) (ls1 := [(2, x0), (9, 0), (0, x2), (9, 0), (0, x4), (0, x5), (0, x6), (0, w32 ((w32 ((w32 (((stm (stm r15.2.2 x0 0 (vx r15)) x0 5 0) x0 1) + ((stm (stm r15.2.2 x0 0 (vx r15)) x0 5 0) x0 0))) - 1)).tdiv ((stm (stm r15.2.2 x0 0 (vx r15)) x0 5 0) x0 0))), (9, 0)]) (tk (n := 2) t15_2 rfl) rfl rfl rfl rfl ?_
    refine s_iconst (pc1 := 125) (tk (n := 3) t15_2 rfl) rfl rfl  ?_
    refine s_istore (pc1 := 127) (ls1 := [(2, x0), (9, 0), (0, x2), (9, 0), (0, x4), (0, x5), (0, x6), (0, w32 ((w32 ((w32 (((stm (stm r15.2.2 x0 0 (vx r15)) x0 5 0) x0 1) + ((stm (stm r15.2.2 x0 0 (vx r15)) x0 5 0) x0 0))) - 1)).tdiv ((stm (stm r15.2.2 x0 0 (vx r15)) x0 5 0) x0 0))), (0, 0)]) (tk (n := 4) t15_2 rfl) rfl rfl rfl rfl ?_
    rfl
set_option maxRecDepth 100000 in
set_option maxHeartbeats 4000000 in
theorem e_X2_measure_127 (x0 : Int) (z1 : Vl) (z2 : Vl) (z3 : Vl) (z4 : Vl) (z5 : Vl) (z6 : Vl) (x7 : Int) (x8 : Int) (h : Hq) : vp 15 127 [(2, x0), z1, z2, z3, z4, z5, z6, (0, x7), (0, x8)] [] h = if x8 ≥ 30 then (some (none, h)) else (if x7 ≤ 16 then (some (none, h)) else (if 0 < x0 ∧ (kd x0).1 = 2 then if (0 < x0 ∧ (kd x0).1 = 2) ∧ True then vp 15 127 [(2, x0), (9, 0), (9, 0), (9, 0), (9, 0), (9, 0), (9, 0), (0, w32 ((w32 (x7 + 1)).tdiv 2)), (0, w32 (x8 + 1))] [] (h.1, stm h.2 x0 5 (w32 ((h.2 x0 5) + 1))) else none else none)) := by
  refine s_fg (ls1 := [(2, x0), (9, 0), (9, 0), (9, 0), (9, 0), (9, 0), (9, 0), (0, x7), (0, x8)]) (tk (n := 5) t15_2 rfl) rfl ?_
  refine s_iload (pc1 := 129) (tk (n := 5) t15_2 rfl) rfl rfl rfl ?_
  refine s_bipush (pc1 := 131) (tk (n := 6) t15_2 rfl) rfl rfl  ?_
  refine s_ic_ge (pc1 := 134) (pt := 165) (tk (n := 7) t15_2 rfl) rfl rfl rfl ?_ ?_
  · exact s_ret (tk (n := 25) t15_2 rfl) rfl rfl rfl
  · refine s_iload (pc1 := 136) (tk (n := 8) t15_2 rfl) rfl rfl rfl ?_
    refine s_bipush (pc1 := 138) (tk (n := 9) t15_2 rfl) rfl rfl  ?_
    refine s_ic_le (pc1 := 141) (pt := 165) (tk (n := 10) t15_2 rfl) rfl rfl rfl ?_ ?_
    · exact s_ret (tk (n := 25) t15_2 rfl) rfl rfl rfl
    · refine s_iload (pc1 := 143) (tk (n := 11) t15_2 rfl) rfl rfl rfl ?_
      refine s_iconst (pc1 := 144) (tk (n := 12) t15_2 rfl) rfl rfl  ?_
      refine s_iadd (pc1 := 145) (tk (n := 13) t15_2 rfl) rfl rfl  ?_
      refine s_iconst (pc1 := 146) (tk (n := 14) t15_2 rfl) rfl rfl  ?_
      refine s_idivc (pc1 := 147) (tk (n := 15) t15_2 rfl) rfl rfl (by decide) ?_
      refine s_istore (pc1 := 149) (ls1 := [(2, x0), (9, 0), (9, 0), (9, 0), (9, 0), (9, 0), (9, 0), (0, w32 ((w32 (x7 + 1)).tdiv 2)), (0, x8)]) (tk (n := 16) t15_2 rfl) rfl rfl rfl rfl ?_
      refine s_aload_n (pc1 := 150) (tk (n := 17) t15_2 rfl) rfl rfl rfl ?_
      refine s_dup2 (pc1 := 151) (tk (n := 18) t15_2 rfl) rfl rfl  ?_
      refine s_getf (pc1 := 154) (c := 2) (t1 := 0) (tk (n := 19) t15_2 rfl) rfl rfl (by decide) rfl rfl ?_
      refine s_iconst (pc1 := 155) (tk (n := 20) t15_2 rfl) rfl rfl  ?_
      refine s_iadd (pc1 := 156) (tk (n := 21) t15_2 rfl) rfl rfl  ?_
      refine s_putf0 (pc1 := 159) (c := 2) (tk (n := 22) t15_2 rfl) rfl rfl rfl rfl rfl ?_
      refine s_iinc (pc1 := 162) (ls1 := [(2, x0), (9, 0), (9, 0), (9, 0), (9, 0), (9, 0), (9, 0), (0, w32 ((w32 (x7 + 1)).tdiv 2)), (0, w32 (x8 + 1))]) (tk (n := 23) t15_2 rfl) rfl rfl rfl rfl ?_
      refine s_goto (pc1 := 127) (tk (n := 24) t15_2 rfl) rfl rfl ?_
      rfl
set_option maxRecDepth 100000 in
set_option maxHeartbeats 4000000 in
theorem e_X2_tapsOf (x0 : Int) (x1 : Int) (h : Hq) : vm 16 [(0, x0), (0, x1)] h = if x0 ≠ 0 then (if x1 ≠ 0 then (if x1 ≠ 0 then (vm 314 [(0, 8), (0, w32 ((w32 ((w32 (x0 + x1)) - 1)).tdiv x1))] h).bind (fun r13 => some (some (0, vx r13), r13.2)) else none) else (some (some (0, 8), h))) else (some (some (0, 1), h)) := by
  show vp 16 0 [(0, x0), (0, x1)] [] h = _
  refine s_iload_n (pc1 := 1) (tk (n := 0) t16_0 rfl) rfl rfl rfl ?_
  refine s_if_ne (pc1 := 4) (pt := 6) (tk (n := 1) t16_0 rfl) rfl rfl rfl ?_ ?_
  · refine s_iload_n (pc1 := 7) (tk (n := 4) t16_0 rfl) rfl rfl rfl ?_
    refine s_if_ne (pc1 := 10) (pt := 15) (tk (n := 5) t16_0 rfl) rfl rfl rfl ?_ ?_
    · refine s_bipush (pc1 := 17) (tk (n := 8) t16_0 rfl) rfl rfl  ?_
      refine s_iload_n (pc1 := 18) (tk (n := 9) t16_0 rfl) rfl rfl rfl ?_
      refine s_iload_n (pc1 := 19) (tk (n := 10) t16_0 rfl) rfl rfl rfl ?_
      refine s_iadd (pc1 := 20) (tk (n := 11) t16_0 rfl) rfl rfl  ?_
      refine s_iconst (pc1 := 21) (tk (n := 12) t16_0 rfl) rfl rfl  ?_
      refine s_isub (pc1 := 22) (tk (n := 13) t16_0 rfl) rfl rfl  ?_
      refine s_iload_n (pc1 := 23) (tk (n := 14) t16_0 rfl) rfl rfl rfl ?_
      refine s_idiv (pc1 := 24) (tk (n := 15) t16_0 rfl) rfl rfl  ?_
      refine s_callS0 (as := [(0, 8), (0, w32 ((w32 ((w32 (x0 + x1)) - 1)).tdiv x1))]) (st1 := []) (p1 := 27) (M2 := 314) (tk (n := 16) t16_0 rfl) rfl rfl rfl rfl rfl (fun r13 => ?_)
      exact s_ret (tk (n := 17) t16_0 rfl) rfl rfl rfl
    · refine s_bipush (pc1 := 12) (tk (n := 6) t16_0 rfl) rfl rfl  ?_
      refine s_goto (pc1 := 27) (tk (n := 7) t16_0 rfl) rfl rfl ?_
      exact s_ret (tk (n := 17) t16_0 rfl) rfl rfl rfl
  · refine s_iconst (pc1 := 5) (tk (n := 2) t16_0 rfl) rfl rfl  ?_
    exact s_ret (tk (n := 3) t16_0 rfl) rfl rfl rfl
set_option maxRecDepth 100000 in
set_option maxHeartbeats 4000000 in
theorem e_X3_init (x0 : Int) (h : Hq) : vm 17 [(2, x0)] h = if 0 < x0 then if (kd h.1).1 = 23 ∧ (kd h.1).2 = (28 : Int) ∧ 0 ≤ (28 : Int) ∧ (28 : Int) ≤ 1000000 then if (0 < x0 ∧ (kd x0).1 = 3) ∧ True then if 0 < x0 ∧ (kd x0).1 = 3 then (vm 18 [(2, x0), (2, (-3)), (0, 0)] (h.1 + 1, stm h.2 x0 0 h.1)).bind (fun r10 => if 0 < x0 ∧ (kd x0).1 = 3 then (vm 18 [(2, x0), (2, (-4)), (0, vx r10)] r10.2).bind (fun r15 => if 0 < x0 ∧ (kd x0).1 = 3 then (vm 18 [(2, x0), (2, (-5)), (0, vx r15)] r15.2).bind (fun r20 => some (none, r20.2)) else none) else none) else none else none else none else none := by
  show vp 17 0 [(2, x0), (9, 0)] [] h = _
  refine s_aload_n (pc1 := 1) (tk (n := 0) t17_0 rfl) rfl rfl rfl ?_
  refine s_oini (pc1 := 4) (tk (n := 1) t17_0 rfl) rfl rfl rfl ?_
  refine s_aload_n (pc1 := 5) (tk (n := 2) t17_0 rfl) rfl rfl rfl ?_
  refine s_bipush (pc1 := 7) (tk (n := 3) t17_0 rfl) rfl rfl  ?_
  refine s_newa (pc1 := 9) (c := 23) (tk (n := 4) t17_0 rfl) rfl rfl rfl ?_
  refine s_putf2 (pc1 := 12) (c := 3) (tk (n := 5) t17_0 rfl) rfl rfl rfl rfl rfl ?_
  refine s_aload_n (pc1 := 13) (tk (n := 6) t17_0 rfl) rfl rfl rfl ?_
  refine s_ldcq (pc1 := 15) (tk (n := 7) t17_0 rfl) rfl rfl  ?_
  refine s_iconst (pc1 := 16) (tk (n := 8) t17_0 rfl) rfl rfl  ?_
  refine s_call0 (as := [(2, x0), (2, (-3)), (0, 0)]) (st1 := []) (p1 := 19) (M2 := 18) (tk (n := 9) t17_0 rfl) rfl rfl rfl rfl rfl (fun r10 => ?_)
  refine s_istore_n (pc1 := 20) (ls1 := [(2, x0), (0, vx r10)]) (tk (n := 10) t17_0 rfl) rfl rfl rfl rfl ?_
  refine s_aload_n (pc1 := 21) (tk (n := 11) t17_0 rfl) rfl rfl rfl ?_
  refine s_ldcq (pc1 := 23) (tk (n := 12) t17_0 rfl) rfl rfl  ?_
  refine s_iload_n (pc1 := 24) (tk (n := 13) t17_0 rfl) rfl rfl rfl ?_
  refine s_call0 (as := [(2, x0), (2, (-4)), (0, vx r10)]) (st1 := []) (p1 := 27) (M2 := 18) (tk (n := 14) t17_0 rfl) rfl rfl rfl rfl rfl (fun r15 => ?_)
  refine s_istore_n (pc1 := 28) (ls1 := [(2, x0), (0, vx r15)]) (tk (n := 15) t17_0 rfl) rfl rfl rfl rfl ?_
  refine s_aload_n (pc1 := 29) (tk (n := 16) t17_0 rfl) rfl rfl rfl ?_
  refine s_ldcq (pc1 := 31) (tk (n := 17) t17_0 rfl) rfl rfl  ?_
  refine s_iload_n (pc1 := 32) (tk (n := 18) t17_0 rfl) rfl rfl rfl ?_
  refine s_call0 (as := [(2, x0), (2, (-5)), (0, vx r15)]) (st1 := []) (p1 := 35) (M2 := 18) (tk (n := 19) t17_0 rfl) rfl rfl rfl rfl rfl (fun r20 => ?_)
  refine s_pop0 (pc1 := 36) (tk (n := 20) t17_0 rfl) rfl rfl  ?_
  exact s_ret (tk (n := 21) t17_0 rfl) rfl rfl rfl
set_option maxRecDepth 100000 in
set_option maxHeartbeats 4000000 in
theorem e_X3_learn (x0 : Int) (x1 : Int) (x2 : Int) (h : Hq) : vm 18 [(2, x0), (2, x1), (0, x2)] h = vp 18 8 [(2, x0), (2, x1), (0, x2), (0, x2), (1, 0), (9, 0), (0, 0)] [] h := by
  show vp 18 0 [(2, x0), (2, x1), (0, x2), (9, 0), (9, 0), (9, 0), (9, 0)] [] h = _
  refine s_iload_n (pc1 := 1) (tk (n := 0) t18_0 rfl) rfl rfl rfl ?_
  refine s_istore_n (pc1 := 2) (ls1 := [(2, x0), (2, x1), (0, x2), (0, x2), (9, 0), (9, 0), (9, 0)]) (tk (n := 1) t18_0 rfl) rfl rfl rfl rfl ?_
  refine s_lconst (pc1 := 3) (v := 0) (tk (n := 2) t18_0 rfl) rfl rfl rfl ?_
  refine s_lstore (pc1 := 5) (ls1 := [(2, x0), (2, x1), (0, x2), (0, x2), (1, 0), (9, 0), (9, 0)]) (tk (n := 3) t18_0 rfl) rfl rfl rfl rfl ?_
  refine s_iconst (pc1 := 6) (tk (n := 4) t18_0 rfl) rfl rfl  ?_
  refine s_istore (pc1 := 8) (ls1 := [(2, x0), (2, x1), (0, x2), (0, x2), (1, 0), (9, 0), (0, 0)]) (tk (n := 5) t18_0 rfl) rfl rfl rfl rfl ?_
  rfl
set_option maxRecDepth 100000 in
set_option maxHeartbeats 4000000 in
theorem e_X3_learn_8 (x0 : Int) (x1 : Int) (z2 : Vl) (x3 : Int) (x4 : Int) (x6 : Int) (h : Hq) : vp 18 8 [(2, x0), (2, x1), z2, (0, x3), (1, x4), (9, 0), (0, x6)] [] h = if -5 ≤ x1 ∧ x1 ≤ -3 then (vm 315 [(2, x1)] h).bind (fun r3 => if x6 ≥ (vx r3) then (some (some (0, x3), r3.2)) else (if x3 ≥ 28 then (some (some (0, x3), r3.2)) else (if -5 ≤ x1 ∧ x1 ≤ -3 then (vm 316 [(2, x1), (0, x6)] r3.2).bind (fun r10 => if (vx r10) ≠ 32 then (if -5 ≤ x1 ∧ x1 ≤ -3 then (vm 316 [(2, x1), (0, x6)] r10.2).bind (fun r16 => (vm 19 [(1, x4), (0, vx r16)] r16.2).bind (fun r17 => vp 18 8 [(2, x0), (2, x1), (9, 0), (0, x3), (1, vx r17), (9, 0), (0, w32 (x6 + 1))] [] r17.2)) else none) else (if 0 < x0 ∧ (kd x0).1 = 3 then if 0 < (r10.2.2 x0 0) ∧ (kd (r10.2.2 x0 0)).1 = 23 ∧ 0 ≤ x3 ∧ x3 < (kd (r10.2.2 x0 0)).2 then vp 18 8 [(2, x0), (2, x1), (9, 0), (0, w32 (x3 + 1)), (1, 0), (9, 0), (0, w32 (x6 + 1))] [] (r10.2.1, stm r10.2.2 (r10.2.2 x0 0) x3 x4) else none else none)) else none))) else none := by
  refine s_fg (ls1 := [(2, x0), (2, x1), (9, 0), (0, x3), (1, x4), (9, 0), (0, x6)]) (tk (n := 6) t18_0 rfl) rfl ?_
  refine s_iload (pc1 := 10) (tk (n := 6) t18_0 rfl) rfl rfl rfl ?_
  refine s_aload_n (pc1 := 11) (tk (n := 7) t18_0 rfl) rfl rfl rfl ?_
  refine s_call0 (as := [(2, x1)]) (st1 := [(0, x6)]) (p1 := 14) (M2 := 315) (tk (n := 8) t18_0 rfl) rfl rfl rfl rfl rfl (fun r3 => ?_)
  refine s_ic_ge (pc1 := 17) (pt := 70) (tk (n := 9) t18_0 rfl) rfl rfl rfl ?_ ?_
  · refine s_iload_n (pc1 := 71) (tk (n := 5) t18_1 rfl) rfl rfl rfl ?_
    exact s_ret (tk (n := 6) t18_1 rfl) rfl rfl rfl
  · refine s_iload_n (pc1 := 18) (tk (n := 10) t18_0 rfl) rfl rfl rfl ?_
    refine s_bipush (pc1 := 20) (tk (n := 11) t18_0 rfl) rfl rfl  ?_
    refine s_ic_ge (pc1 := 23) (pt := 70) (tk (n := 12) t18_0 rfl) rfl rfl rfl ?_ ?_
    · refine s_iload_n (pc1 := 71) (tk (n := 5) t18_1 rfl) rfl rfl rfl ?_
      exact s_ret (tk (n := 6) t18_1 rfl) rfl rfl rfl
    · refine s_aload_n (pc1 := 24) (tk (n := 13) t18_0 rfl) rfl rfl rfl ?_
      refine s_iload (pc1 := 26) (tk (n := 14) t18_0 rfl) rfl rfl rfl ?_
      refine s_call0 (as := [(2, x1), (0, x6)]) (st1 := []) (p1 := 29) (M2 := 316) (tk (n := 15) t18_0 rfl) rfl rfl rfl rfl rfl (fun r10 => ?_)
      refine s_bipush (pc1 := 31) (tk (n := 16) t18_0 rfl) rfl rfl  ?_
      refine s_ic_ne (pc1 := 34) (pt := 51) (tk (n := 17) t18_0 rfl) rfl rfl rfl ?_ ?_
      · refine s_lload (pc1 := 53) (tk (n := 27) t18_0 rfl) rfl rfl rfl ?_
        refine s_aload_n (pc1 := 54) (tk (n := 28) t18_0 rfl) rfl rfl rfl ?_
        refine s_iload (pc1 := 56) (tk (n := 29) t18_0 rfl) rfl rfl rfl ?_
        refine s_call0 (as := [(2, x1), (0, x6)]) (st1 := [(1, x4)]) (p1 := 59) (M2 := 316) (tk (n := 0) t18_1 rfl) rfl rfl rfl rfl rfl (fun r16 => ?_)
        refine s_callS1 (as := [(1, x4), (0, vx r16)]) (st1 := []) (p1 := 62) (M2 := 19) (tk (n := 1) t18_1 rfl) rfl rfl rfl rfl rfl (fun r17 => ?_)
        refine s_lstore (pc1 := 64) (ls1 := [(2, x0), (2, x1), (9, 0), (0, x3), (1, vx r17), (9, 0), (0, x6)]) (tk (n := 2) t18_1 rfl) rfl rfl rfl rfl ?_
        refine s_iinc (pc1 := 67) (ls1 := [(2, x0), (2, x1), (9, 0), (0, x3), (1, vx r17), (9, 0), (0, w32 (x6 + 1))]) (tk (n := 3) t18_1 rfl) rfl rfl rfl rfl ?_
        refine s_goto (pc1 := 8) (tk (n := 4) t18_1 rfl) rfl rfl ?_
        rfl
      · refine s_aload_n (pc1 := 35) (tk (n := 18) t18_0 rfl) rfl rfl rfl ?_
        refine s_getf (pc1 := 38) (c := 3) (t1 := 2) (tk (n := 19) t18_0 rfl) rfl rfl (by decide) rfl rfl ?_
        refine s_iload_n (pc1 := 39) (tk (n := 20) t18_0 rfl) rfl rfl rfl ?_
        refine s_lload (pc1 := 41) (tk (n := 21) t18_0 rfl) rfl rfl rfl ?_
        refine s_last (pc1 := 42) (tk (n := 22) t18_0 rfl) rfl rfl  ?_
        refine s_iinc (pc1 := 45) (ls1 := [(2, x0), (2, x1), (9, 0), (0, w32 (x3 + 1)), (1, x4), (9, 0), (0, x6)]) (tk (n := 23) t18_0 rfl) rfl rfl rfl rfl ?_
        refine s_lconst (pc1 := 46) (v := 0) (tk (n := 24) t18_0 rfl) rfl rfl rfl ?_
        refine s_lstore (pc1 := 48) (ls1 := [(2, x0), (2, x1), (9, 0), (0, w32 (x3 + 1)), (1, 0), (9, 0), (0, x6)]) (tk (n := 25) t18_0 rfl) rfl rfl rfl rfl ?_
        refine s_goto (pc1 := 64) (tk (n := 26) t18_0 rfl) rfl rfl ?_
        refine s_iinc (pc1 := 67) (ls1 := [(2, x0), (2, x1), (9, 0), (0, w32 (x3 + 1)), (1, 0), (9, 0), (0, w32 (x6 + 1))]) (tk (n := 3) t18_1 rfl) rfl rfl rfl rfl ?_
        refine s_goto (pc1 := 8) (tk (n := 4) t18_1 rfl) rfl rfl ?_
        rfl
set_option maxRecDepth 100000 in
set_option maxHeartbeats 4000000 in
theorem e_X3_withLetter (x0 : Int) (x2 : Int) (h : Hq) : vm 19 [(1, x0), (0, x2)] h = some (some (1, w64 ((w64 (x0 * 32)) + (w32 ((w32 (x2 - 97)) + 1)))), h) := by
  show vp 19 0 [(1, x0), (9, 0), (0, x2)] [] h = _
  refine s_lload_n (pc1 := 1) (tk (n := 0) t19_0 rfl) rfl rfl rfl ?_
  refine s_ldc2 (pc1 := 4) (tk (n := 1) t19_0 rfl) rfl rfl  ?_
  refine s_lmul (pc1 := 5) (tk (n := 2) t19_0 rfl) rfl rfl  ?_
  refine s_iload_n (pc1 := 6) (tk (n := 3) t19_0 rfl) rfl rfl rfl ?_
  refine s_bipush (pc1 := 8) (tk (n := 4) t19_0 rfl) rfl rfl  ?_
  refine s_isub (pc1 := 9) (tk (n := 5) t19_0 rfl) rfl rfl  ?_
  refine s_iconst (pc1 := 10) (tk (n := 6) t19_0 rfl) rfl rfl  ?_
  refine s_iadd (pc1 := 11) (tk (n := 7) t19_0 rfl) rfl rfl  ?_
  refine s_i2l (pc1 := 12) (tk (n := 8) t19_0 rfl) rfl rfl  ?_
  refine s_ladd (pc1 := 13) (tk (n := 9) t19_0 rfl) rfl rfl  ?_
  exact s_ret (tk (n := 10) t19_0 rfl) rfl rfl rfl
set_option maxRecDepth 100000 in
set_option maxHeartbeats 4000000 in
theorem e_X3_open (x0 : Int) (x1 : Int) (x2 : Int) (h : Hq) : vm 20 [(2, x0), (2, x1), (0, x2)] h = if (0 < x0 ∧ (kd x0).1 = 3) ∧ True then if 20 ≤ (kd x1).1 ∧ (kd x1).1 ≤ 25 then (vm 314 [(0, x2), (0, (kd x1).2)] (h.1, stm h.2 x0 1 x1)).bind (fun r8 => if (0 < x0 ∧ (kd x0).1 = 3) ∧ True then if (0 < x0 ∧ (kd x0).1 = 3) ∧ True then if 0 < x0 ∧ (kd x0).1 = 3 then (vm 21 [(2, x0)] (r8.2.1, stm (stm r8.2.2 x0 2 (vx r8)) x0 3 0)).bind (fun r14 => some (none, r14.2)) else none else none else none) else none else none := by
  show vp 20 0 [(2, x0), (2, x1), (0, x2)] [] h = _
  refine s_aload_n (pc1 := 1) (tk (n := 0) t20_0 rfl) rfl rfl rfl ?_
  refine s_aload_n (pc1 := 2) (tk (n := 1) t20_0 rfl) rfl rfl rfl ?_
  refine s_putf2 (pc1 := 5) (c := 3) (tk (n := 2) t20_0 rfl) rfl rfl rfl rfl rfl ?_
  refine s_aload_n (pc1 := 6) (tk (n := 3) t20_0 rfl) rfl rfl rfl ?_
  refine s_iload_n (pc1 := 7) (tk (n := 4) t20_0 rfl) rfl rfl rfl ?_
  refine s_aload_n (pc1 := 8) (tk (n := 5) t20_0 rfl) rfl rfl rfl ?_
  refine s_alen (pc1 := 9) (tk (n := 6) t20_0 rfl) rfl rfl  ?_
  refine s_callS0 (as := [(0, x2), (0, (kd x1).2)]) (st1 := [(2, x0)]) (p1 := 12) (M2 := 314) (tk (n := 7) t20_0 rfl) rfl rfl rfl rfl rfl (fun r8 => ?_)
  refine s_putf0 (pc1 := 15) (c := 3) (tk (n := 8) t20_0 rfl) rfl rfl rfl rfl rfl ?_
  refine s_aload_n (pc1 := 16) (tk (n := 9) t20_0 rfl) rfl rfl rfl ?_
  refine s_iconst (pc1 := 17) (tk (n := 10) t20_0 rfl) rfl rfl  ?_
  refine s_putf0 (pc1 := 20) (c := 3) (tk (n := 11) t20_0 rfl) rfl rfl rfl rfl rfl ?_
  refine s_aload_n (pc1 := 21) (tk (n := 12) t20_0 rfl) rfl rfl rfl ?_
  refine s_call9 (as := [(2, x0)]) (st1 := []) (p1 := 24) (M2 := 21) (tk (n := 13) t20_0 rfl) rfl rfl rfl rfl rfl (fun r14 => ?_)
  exact s_ret (tk (n := 14) t20_0 rfl) rfl rfl rfl
theorem e_X3_step (x0 : Int) (h : Hq) : vm 21 [(2, x0)] h = vp 21 0 [(2, x0)] [] h := rfl
set_option maxRecDepth 100000 in
set_option maxHeartbeats 4000000 in
theorem e_X3_step_0 (x0 : Int) (h : Hq) : vp 21 0 [(2, x0)] [] h = if 0 < x0 ∧ (kd x0).1 = 3 then if 0 < x0 ∧ (kd x0).1 = 3 then if (h.2 x0 3) ≥ (h.2 x0 2) then (vp 21 52 [(2, x0)] [] h) else (if 0 < x0 ∧ (kd x0).1 = 3 then if 0 < x0 ∧ (kd x0).1 = 3 then if (kd (h.2 x0 1)).1 = 21 ∧ 0 ≤ (h.2 x0 3) ∧ (h.2 x0 3) < (kd (h.2 x0 1)).2 then if (h.2 (h.2 x0 1) (h.2 x0 3)) = 32 then (if 0 < x0 ∧ (kd x0).1 = 3 then if (0 < x0 ∧ (kd x0).1 = 3) ∧ True then vp 21 0 [(2, x0)] [] (h.1, stm h.2 x0 3 (w32 ((h.2 x0 3) + 1))) else none else none) else (if 0 < x0 ∧ (kd x0).1 = 3 then if 0 < x0 ∧ (kd x0).1 = 3 then if (kd (h.2 x0 1)).1 = 21 ∧ 0 ≤ (h.2 x0 3) ∧ (h.2 x0 3) < (kd (h.2 x0 1)).2 then if (h.2 (h.2 x0 1) (h.2 x0 3)) ≠ 10 then (vp 21 52 [(2, x0)] [] h) else (if 0 < x0 ∧ (kd x0).1 = 3 then if (0 < x0 ∧ (kd x0).1 = 3) ∧ True then vp 21 0 [(2, x0)] [] (h.1, stm h.2 x0 3 (w32 ((h.2 x0 3) + 1))) else none else none) else none else none else none) else none else none else none) else none else none := by
  refine s_aload_n (pc1 := 1) (tk (n := 0) t21_0 rfl) rfl rfl rfl ?_
  refine s_getf (pc1 := 4) (c := 3) (t1 := 0) (tk (n := 1) t21_0 rfl) rfl rfl (by decide) rfl rfl ?_
  refine s_aload_n (pc1 := 5) (tk (n := 2) t21_0 rfl) rfl rfl rfl ?_
  refine s_getf (pc1 := 8) (c := 3) (t1 := 0) (tk (n := 3) t21_0 rfl) rfl rfl (by decide) rfl rfl ?_
  refine s_ic_ge (pc1 := 11) (pt := 52) (tk (n := 4) t21_0 rfl) rfl rfl rfl ?_ ?_
  · rfl
  · refine s_aload_n (pc1 := 12) (tk (n := 5) t21_0 rfl) rfl rfl rfl ?_
    refine s_getf (pc1 := 15) (c := 3) (t1 := 2) (tk (n := 6) t21_0 rfl) rfl rfl (by decide) rfl rfl ?_
    refine s_aload_n (pc1 := 16) (tk (n := 7) t21_0 rfl) rfl rfl rfl ?_
    refine s_getf (pc1 := 19) (c := 3) (t1 := 0) (tk (n := 8) t21_0 rfl) rfl rfl (by decide) rfl rfl ?_
    refine s_bald (pc1 := 20) (c := 21) (tk (n := 9) t21_0 rfl) rfl rfl rfl ?_
    refine s_bipush (pc1 := 22) (tk (n := 10) t21_0 rfl) rfl rfl  ?_
    refine s_ic_eq (pc1 := 25) (pt := 39) (tk (n := 11) t21_0 rfl) rfl rfl rfl ?_ ?_
    · refine s_aload_n (pc1 := 40) (tk (n := 19) t21_0 rfl) rfl rfl rfl ?_
      refine s_dup2 (pc1 := 41) (tk (n := 20) t21_0 rfl) rfl rfl  ?_
      refine s_getf (pc1 := 44) (c := 3) (t1 := 0) (tk (n := 21) t21_0 rfl) rfl rfl (by decide) rfl rfl ?_
      refine s_iconst (pc1 := 45) (tk (n := 22) t21_0 rfl) rfl rfl  ?_
      refine s_iadd (pc1 := 46) (tk (n := 23) t21_0 rfl) rfl rfl  ?_
      refine s_putf0 (pc1 := 49) (c := 3) (tk (n := 24) t21_0 rfl) rfl rfl rfl rfl rfl ?_
      refine s_goto (pc1 := 0) (tk (n := 25) t21_0 rfl) rfl rfl ?_
      rfl
    · refine s_aload_n (pc1 := 26) (tk (n := 12) t21_0 rfl) rfl rfl rfl ?_
      refine s_getf (pc1 := 29) (c := 3) (t1 := 2) (tk (n := 13) t21_0 rfl) rfl rfl (by decide) rfl rfl ?_
      refine s_aload_n (pc1 := 30) (tk (n := 14) t21_0 rfl) rfl rfl rfl ?_
      refine s_getf (pc1 := 33) (c := 3) (t1 := 0) (tk (n := 15) t21_0 rfl) rfl rfl (by decide) rfl rfl ?_
      refine s_bald (pc1 := 34) (c := 21) (tk (n := 16) t21_0 rfl) rfl rfl rfl ?_
      refine s_bipush (pc1 := 36) (tk (n := 17) t21_0 rfl) rfl rfl  ?_
      refine s_ic_ne (pc1 := 39) (pt := 52) (tk (n := 18) t21_0 rfl) rfl rfl rfl ?_ ?_
      · rfl
      · refine s_aload_n (pc1 := 40) (tk (n := 19) t21_0 rfl) rfl rfl rfl ?_
        refine s_dup2 (pc1 := 41) (tk (n := 20) t21_0 rfl) rfl rfl  ?_
        refine s_getf (pc1 := 44) (c := 3) (t1 := 0) (tk (n := 21) t21_0 rfl) rfl rfl (by decide) rfl rfl ?_
        refine s_iconst (pc1 := 45) (tk (n := 22) t21_0 rfl) rfl rfl  ?_
        refine s_iadd (pc1 := 46) (tk (n := 23) t21_0 rfl) rfl rfl  ?_
        refine s_putf0 (pc1 := 49) (c := 3) (tk (n := 24) t21_0 rfl) rfl rfl rfl rfl rfl ?_
        refine s_goto (pc1 := 0) (tk (n := 25) t21_0 rfl) rfl rfl ?_
        rfl
set_option maxRecDepth 100000 in
set_option maxHeartbeats 4000000 in
theorem e_X3_step_52 (x0 : Int) (h : Hq) : vp 21 52 [(2, x0)] [] h = if 0 < x0 ∧ (kd x0).1 = 3 then if (0 < x0 ∧ (kd x0).1 = 3) ∧ True then if (0 < x0 ∧ (kd x0).1 = 3) ∧ True then if 0 < x0 ∧ (kd x0).1 = 3 then if 0 < x0 ∧ (kd x0).1 = 3 then if ((stm (stm h.2 x0 5 (h.2 x0 3)) x0 9 (-1)) x0 3) < ((stm (stm h.2 x0 5 (h.2 x0 3)) x0 9 (-1)) x0 2) then (if 0 < x0 ∧ (kd x0).1 = 3 then (vm 22 [(2, x0)] (h.1, stm (stm h.2 x0 5 (h.2 x0 3)) x0 9 (-1))).bind (fun r14 => if (vx r14) = 0 then (if 0 < x0 ∧ (kd x0).1 = 3 then (vm 23 [(2, x0)] r14.2).bind (fun r17 => if (vx r17) = 0 then (if 0 < x0 ∧ (kd x0).1 = 3 then if 0 < x0 ∧ (kd x0).1 = 3 then if (kd (r17.2.2 x0 1)).1 = 21 ∧ 0 ≤ (r17.2.2 x0 3) ∧ (r17.2.2 x0 3) < (kd (r17.2.2 x0 1)).2 then if (r17.2.2 (r17.2.2 x0 1) (r17.2.2 x0 3)) ≠ 59 then (if (0 < x0 ∧ (kd x0).1 = 3) ∧ True then if 0 < x0 ∧ (kd x0).1 = 3 then if (0 < x0 ∧ (kd x0).1 = 3) ∧ True then some (none, (r17.2.1, stm (stm r17.2.2 x0 4 4) x0 3 (w32 (((stm r17.2.2 x0 4 4) x0 3) + 1)))) else none else none else none) else (if (0 < x0 ∧ (kd x0).1 = 3) ∧ True then if 0 < x0 ∧ (kd x0).1 = 3 then if (0 < x0 ∧ (kd x0).1 = 3) ∧ True then some (none, (r17.2.1, stm (stm r17.2.2 x0 4 1) x0 3 (w32 (((stm r17.2.2 x0 4 1) x0 3) + 1)))) else none else none else none) else none else none else none) else (if 0 < x0 ∧ (kd x0).1 = 3 then (vm 25 [(2, x0)] r17.2).bind (fun r20 => some (none, r20.2)) else none)) else none) else (if 0 < x0 ∧ (kd x0).1 = 3 then (vm 24 [(2, x0)] r14.2).bind (fun r17 => some (none, r17.2)) else none)) else none) else (if (0 < x0 ∧ (kd x0).1 = 3) ∧ True then some (none, (h.1, stm (stm (stm h.2 x0 5 (h.2 x0 3)) x0 9 (-1)) x0 4 0)) else none) else none else none else none else none else none := by
  refine s_aload_n (pc1 := 53) (tk (n := 26) t21_0 rfl) rfl rfl rfl ?_
  refine s_aload_n (pc1 := 54) (tk (n := 27) t21_0 rfl) rfl rfl rfl ?_
  refine s_getf (pc1 := 57) (c := 3) (t1 := 0) (tk (n := 28) t21_0 rfl) rfl rfl (by decide) rfl rfl ?_
  refine s_putf0 (pc1 := 60) (c := 3) (tk (n := 29) t21_0 rfl) rfl rfl rfl rfl rfl ?_
  refine s_aload_n (pc1 := 61) (tk (n := 0) t21_1 rfl) rfl rfl rfl ?_
  refine s_iconst (pc1 := 62) (tk (n := 1) t21_1 rfl) rfl rfl  ?_
  refine s_putf0 (pc1 := 65) (c := 3) (tk (n := 2) t21_1 rfl) rfl rfl rfl rfl rfl ?_
  refine s_aload_n (pc1 := 66) (tk (n := 3) t21_1 rfl) rfl rfl rfl ?_
  refine s_getf (pc1 := 69) (c := 3) (t1 := 0) (tk (n := 4) t21_1 rfl) rfl rfl (by decide) rfl rfl ?_
  refine s_aload_n (pc1 := 70) (tk (n := 5) t21_1 rfl) rfl rfl rfl ?_
  refine s_getf (pc1 := 73) (c := 3) (t1 := 0) (tk (n := 6) t21_1 rfl) rfl rfl (by decide) rfl rfl ?_
  refine s_ic_lt (pc1 := 76) (pt := 84) (tk (n := 7) t21_1 rfl) rfl rfl rfl ?_ ?_
  · refine s_aload_n (pc1 := 85) (tk (n := 12) t21_1 rfl) rfl rfl rfl ?_
    refine s_call0 (as := [(2, x0)]) (st1 := []) (p1 := 88) (M2 := 22) (tk (n := 13) t21_1 rfl) rfl rfl rfl rfl rfl (fun r14 => ?_)
    refine s_if_eq (pc1 := 91) (pt := 98) (tk (n := 14) t21_1 rfl) rfl rfl rfl ?_ ?_
    · refine s_aload_n (pc1 := 99) (tk (n := 18) t21_1 rfl) rfl rfl rfl ?_
      refine s_call0 (as := [(2, x0)]) (st1 := []) (p1 := 102) (M2 := 23) (tk (n := 19) t21_1 rfl) rfl rfl rfl rfl rfl (fun r17 => ?_)
      refine s_if_eq (pc1 := 105) (pt := 112) (tk (n := 20) t21_1 rfl) rfl rfl rfl ?_ ?_
      · refine s_aload_n (pc1 := 113) (tk (n := 24) t21_1 rfl) rfl rfl rfl ?_
        refine s_aload_n (pc1 := 114) (tk (n := 25) t21_1 rfl) rfl rfl rfl ?_
        refine s_getf (pc1 := 117) (c := 3) (t1 := 2) (tk (n := 26) t21_1 rfl) rfl rfl (by decide) rfl rfl ?_
        refine s_aload_n (pc1 := 118) (tk (n := 27) t21_1 rfl) rfl rfl rfl ?_
        refine s_getf (pc1 := 121) (c := 3) (t1 := 0) (tk (n := 28) t21_1 rfl) rfl rfl (by decide) rfl rfl ?_
        refine s_bald (pc1 := 122) (c := 21) (tk (n := 29) t21_1 rfl) rfl rfl rfl ?_
        refine s_bipush (pc1 := 124) (tk (n := 0) t21_2 rfl) rfl rfl  ?_
        refine s_ic_ne (pc1 := 127) (pt := 131) (tk (n := 1) t21_2 rfl) rfl rfl rfl ?_ ?_
        · refine s_iconst (pc1 := 132) (tk (n := 4) t21_2 rfl) rfl rfl  ?_
          refine s_putf0 (pc1 := 135) (c := 3) (tk (n := 5) t21_2 rfl) rfl rfl rfl rfl rfl ?_
          refine s_aload_n (pc1 := 136) (tk (n := 6) t21_2 rfl) rfl rfl rfl ?_
          refine s_dup2 (pc1 := 137) (tk (n := 7) t21_2 rfl) rfl rfl  ?_
          refine s_getf (pc1 := 140) (c := 3) (t1 := 0) (tk (n := 8) t21_2 rfl) rfl rfl (by decide) rfl rfl ?_
          refine s_iconst (pc1 := 141) (tk (n := 9) t21_2 rfl) rfl rfl  ?_
          refine s_iadd (pc1 := 142) (tk (n := 10) t21_2 rfl) rfl rfl  ?_
          refine s_putf0 (pc1 := 145) (c := 3) (tk (n := 11) t21_2 rfl) rfl rfl rfl rfl rfl ?_
          exact s_ret (tk (n := 12) t21_2 rfl) rfl rfl rfl
        · refine s_iconst (pc1 := 128) (tk (n := 2) t21_2 rfl) rfl rfl  ?_
          refine s_goto (pc1 := 132) (tk (n := 3) t21_2 rfl) rfl rfl ?_
          refine s_putf0 (pc1 := 135) (c := 3) (tk (n := 5) t21_2 rfl) rfl rfl rfl rfl rfl ?_
          refine s_aload_n (pc1 := 136) (tk (n := 6) t21_2 rfl) rfl rfl rfl ?_
          refine s_dup2 (pc1 := 137) (tk (n := 7) t21_2 rfl) rfl rfl  ?_
          refine s_getf (pc1 := 140) (c := 3) (t1 := 0) (tk (n := 8) t21_2 rfl) rfl rfl (by decide) rfl rfl ?_
          refine s_iconst (pc1 := 141) (tk (n := 9) t21_2 rfl) rfl rfl  ?_
          refine s_iadd (pc1 := 142) (tk (n := 10) t21_2 rfl) rfl rfl  ?_
          refine s_putf0 (pc1 := 145) (c := 3) (tk (n := 11) t21_2 rfl) rfl rfl rfl rfl rfl ?_
          exact s_ret (tk (n := 12) t21_2 rfl) rfl rfl rfl
      · refine s_aload_n (pc1 := 106) (tk (n := 21) t21_1 rfl) rfl rfl rfl ?_
        refine s_call9 (as := [(2, x0)]) (st1 := []) (p1 := 109) (M2 := 25) (tk (n := 22) t21_1 rfl) rfl rfl rfl rfl rfl (fun r20 => ?_)
        refine s_goto (pc1 := 145) (tk (n := 23) t21_1 rfl) rfl rfl ?_
        exact s_ret (tk (n := 12) t21_2 rfl) rfl rfl rfl
    · refine s_aload_n (pc1 := 92) (tk (n := 15) t21_1 rfl) rfl rfl rfl ?_
      refine s_call9 (as := [(2, x0)]) (st1 := []) (p1 := 95) (M2 := 24) (tk (n := 16) t21_1 rfl) rfl rfl rfl rfl rfl (fun r17 => ?_)
      refine s_goto (pc1 := 145) (tk (n := 17) t21_1 rfl) rfl rfl ?_
      exact s_ret (tk (n := 12) t21_2 rfl) rfl rfl rfl
  · refine s_aload_n (pc1 := 77) (tk (n := 8) t21_1 rfl) rfl rfl rfl ?_
    refine s_iconst (pc1 := 78) (tk (n := 9) t21_1 rfl) rfl rfl  ?_
    refine s_putf0 (pc1 := 81) (c := 3) (tk (n := 10) t21_1 rfl) rfl rfl rfl rfl rfl ?_
    refine s_goto (pc1 := 145) (tk (n := 11) t21_1 rfl) rfl rfl ?_
    exact s_ret (tk (n := 12) t21_2 rfl) rfl rfl rfl
set_option maxRecDepth 100000 in
set_option maxHeartbeats 4000000 in
theorem e_X3_isLetterNext (x0 : Int) (h : Hq) : vm 22 [(2, x0)] h = if 0 < x0 ∧ (kd x0).1 = 3 then if 0 < x0 ∧ (kd x0).1 = 3 then if (h.2 x0 3) ≥ (h.2 x0 2) then (some (some (0, 0), h)) else (if 0 < x0 ∧ (kd x0).1 = 3 then if 0 < x0 ∧ (kd x0).1 = 3 then if (kd (h.2 x0 1)).1 = 21 ∧ 0 ≤ (h.2 x0 3) ∧ (h.2 x0 3) < (kd (h.2 x0 1)).2 then if (h.2 (h.2 x0 1) (h.2 x0 3)) < 97 then (some (some (0, 0), h)) else (if 0 < x0 ∧ (kd x0).1 = 3 then if 0 < x0 ∧ (kd x0).1 = 3 then if (kd (h.2 x0 1)).1 = 21 ∧ 0 ≤ (h.2 x0 3) ∧ (h.2 x0 3) < (kd (h.2 x0 1)).2 then if (h.2 (h.2 x0 1) (h.2 x0 3)) > 122 then (some (some (0, 0), h)) else (some (some (0, 1), h)) else none else none else none) else none else none else none) else none else none := by
  show vp 22 0 [(2, x0)] [] h = _
  refine s_aload_n (pc1 := 1) (tk (n := 0) t22_0 rfl) rfl rfl rfl ?_
  refine s_getf (pc1 := 4) (c := 3) (t1 := 0) (tk (n := 1) t22_0 rfl) rfl rfl (by decide) rfl rfl ?_
  refine s_aload_n (pc1 := 5) (tk (n := 2) t22_0 rfl) rfl rfl rfl ?_
  refine s_getf (pc1 := 8) (c := 3) (t1 := 0) (tk (n := 3) t22_0 rfl) rfl rfl (by decide) rfl rfl ?_
  refine s_ic_ge (pc1 := 11) (pt := 43) (tk (n := 4) t22_0 rfl) rfl rfl rfl ?_ ?_
  · refine s_iconst (pc1 := 44) (tk (n := 21) t22_0 rfl) rfl rfl  ?_
    exact s_retY (tk (n := 22) t22_0 rfl) rfl rfl rfl (by decide)
  · refine s_aload_n (pc1 := 12) (tk (n := 5) t22_0 rfl) rfl rfl rfl ?_
    refine s_getf (pc1 := 15) (c := 3) (t1 := 2) (tk (n := 6) t22_0 rfl) rfl rfl (by decide) rfl rfl ?_
    refine s_aload_n (pc1 := 16) (tk (n := 7) t22_0 rfl) rfl rfl rfl ?_
    refine s_getf (pc1 := 19) (c := 3) (t1 := 0) (tk (n := 8) t22_0 rfl) rfl rfl (by decide) rfl rfl ?_
    refine s_bald (pc1 := 20) (c := 21) (tk (n := 9) t22_0 rfl) rfl rfl rfl ?_
    refine s_bipush (pc1 := 22) (tk (n := 10) t22_0 rfl) rfl rfl  ?_
    refine s_ic_lt (pc1 := 25) (pt := 43) (tk (n := 11) t22_0 rfl) rfl rfl rfl ?_ ?_
    · refine s_iconst (pc1 := 44) (tk (n := 21) t22_0 rfl) rfl rfl  ?_
      exact s_retY (tk (n := 22) t22_0 rfl) rfl rfl rfl (by decide)
    · refine s_aload_n (pc1 := 26) (tk (n := 12) t22_0 rfl) rfl rfl rfl ?_
      refine s_getf (pc1 := 29) (c := 3) (t1 := 2) (tk (n := 13) t22_0 rfl) rfl rfl (by decide) rfl rfl ?_
      refine s_aload_n (pc1 := 30) (tk (n := 14) t22_0 rfl) rfl rfl rfl ?_
      refine s_getf (pc1 := 33) (c := 3) (t1 := 0) (tk (n := 15) t22_0 rfl) rfl rfl (by decide) rfl rfl ?_
      refine s_bald (pc1 := 34) (c := 21) (tk (n := 16) t22_0 rfl) rfl rfl rfl ?_
      refine s_bipush (pc1 := 36) (tk (n := 17) t22_0 rfl) rfl rfl  ?_
      refine s_ic_gt (pc1 := 39) (pt := 43) (tk (n := 18) t22_0 rfl) rfl rfl rfl ?_ ?_
      · refine s_iconst (pc1 := 44) (tk (n := 21) t22_0 rfl) rfl rfl  ?_
        exact s_retY (tk (n := 22) t22_0 rfl) rfl rfl rfl (by decide)
      · refine s_iconst (pc1 := 40) (tk (n := 19) t22_0 rfl) rfl rfl  ?_
        refine s_goto (pc1 := 44) (tk (n := 20) t22_0 rfl) rfl rfl ?_
        exact s_retY (tk (n := 22) t22_0 rfl) rfl rfl rfl (by decide)
set_option maxRecDepth 100000 in
set_option maxHeartbeats 4000000 in
theorem e_X3_isDigitNext (x0 : Int) (h : Hq) : vm 23 [(2, x0)] h = if 0 < x0 ∧ (kd x0).1 = 3 then if 0 < x0 ∧ (kd x0).1 = 3 then if (h.2 x0 3) ≥ (h.2 x0 2) then (some (some (0, 0), h)) else (if 0 < x0 ∧ (kd x0).1 = 3 then if 0 < x0 ∧ (kd x0).1 = 3 then if (kd (h.2 x0 1)).1 = 21 ∧ 0 ≤ (h.2 x0 3) ∧ (h.2 x0 3) < (kd (h.2 x0 1)).2 then if (h.2 (h.2 x0 1) (h.2 x0 3)) < 48 then (some (some (0, 0), h)) else (if 0 < x0 ∧ (kd x0).1 = 3 then if 0 < x0 ∧ (kd x0).1 = 3 then if (kd (h.2 x0 1)).1 = 21 ∧ 0 ≤ (h.2 x0 3) ∧ (h.2 x0 3) < (kd (h.2 x0 1)).2 then if (h.2 (h.2 x0 1) (h.2 x0 3)) > 57 then (some (some (0, 0), h)) else (some (some (0, 1), h)) else none else none else none) else none else none else none) else none else none := by
  show vp 23 0 [(2, x0)] [] h = _
  refine s_aload_n (pc1 := 1) (tk (n := 0) t23_0 rfl) rfl rfl rfl ?_
  refine s_getf (pc1 := 4) (c := 3) (t1 := 0) (tk (n := 1) t23_0 rfl) rfl rfl (by decide) rfl rfl ?_
  refine s_aload_n (pc1 := 5) (tk (n := 2) t23_0 rfl) rfl rfl rfl ?_
  refine s_getf (pc1 := 8) (c := 3) (t1 := 0) (tk (n := 3) t23_0 rfl) rfl rfl (by decide) rfl rfl ?_
  refine s_ic_ge (pc1 := 11) (pt := 43) (tk (n := 4) t23_0 rfl) rfl rfl rfl ?_ ?_
  · refine s_iconst (pc1 := 44) (tk (n := 21) t23_0 rfl) rfl rfl  ?_
    exact s_retY (tk (n := 22) t23_0 rfl) rfl rfl rfl (by decide)
  · refine s_aload_n (pc1 := 12) (tk (n := 5) t23_0 rfl) rfl rfl rfl ?_
    refine s_getf (pc1 := 15) (c := 3) (t1 := 2) (tk (n := 6) t23_0 rfl) rfl rfl (by decide) rfl rfl ?_
    refine s_aload_n (pc1 := 16) (tk (n := 7) t23_0 rfl) rfl rfl rfl ?_
    refine s_getf (pc1 := 19) (c := 3) (t1 := 0) (tk (n := 8) t23_0 rfl) rfl rfl (by decide) rfl rfl ?_
    refine s_bald (pc1 := 20) (c := 21) (tk (n := 9) t23_0 rfl) rfl rfl rfl ?_
    refine s_bipush (pc1 := 22) (tk (n := 10) t23_0 rfl) rfl rfl  ?_
    refine s_ic_lt (pc1 := 25) (pt := 43) (tk (n := 11) t23_0 rfl) rfl rfl rfl ?_ ?_
    · refine s_iconst (pc1 := 44) (tk (n := 21) t23_0 rfl) rfl rfl  ?_
      exact s_retY (tk (n := 22) t23_0 rfl) rfl rfl rfl (by decide)
    · refine s_aload_n (pc1 := 26) (tk (n := 12) t23_0 rfl) rfl rfl rfl ?_
      refine s_getf (pc1 := 29) (c := 3) (t1 := 2) (tk (n := 13) t23_0 rfl) rfl rfl (by decide) rfl rfl ?_
      refine s_aload_n (pc1 := 30) (tk (n := 14) t23_0 rfl) rfl rfl rfl ?_
      refine s_getf (pc1 := 33) (c := 3) (t1 := 0) (tk (n := 15) t23_0 rfl) rfl rfl (by decide) rfl rfl ?_
      refine s_bald (pc1 := 34) (c := 21) (tk (n := 16) t23_0 rfl) rfl rfl rfl ?_
      refine s_bipush (pc1 := 36) (tk (n := 17) t23_0 rfl) rfl rfl  ?_
      refine s_ic_gt (pc1 := 39) (pt := 43) (tk (n := 18) t23_0 rfl) rfl rfl rfl ?_ ?_
      · refine s_iconst (pc1 := 44) (tk (n := 21) t23_0 rfl) rfl rfl  ?_
        exact s_retY (tk (n := 22) t23_0 rfl) rfl rfl rfl (by decide)
      · refine s_iconst (pc1 := 40) (tk (n := 19) t23_0 rfl) rfl rfl  ?_
        refine s_goto (pc1 := 44) (tk (n := 20) t23_0 rfl) rfl rfl ?_
        exact s_retY (tk (n := 22) t23_0 rfl) rfl rfl rfl (by decide)
set_option maxRecDepth 100000 in
set_option maxHeartbeats 4000000 in
theorem e_X3_readWord (x0 : Int) (h : Hq) : vm 24 [(2, x0)] h = if (0 < x0 ∧ (kd x0).1 = 3) ∧ True then if (0 < x0 ∧ (kd x0).1 = 3) ∧ True then vp 24 10 [(2, x0), (9, 0)] [] (h.1, stm (stm h.2 x0 7 0) x0 8 0) else none else none := by
  show vp 24 0 [(2, x0), (9, 0)] [] h = _
  refine s_aload_n (pc1 := 1) (tk (n := 0) t24_0 rfl) rfl rfl rfl ?_
  refine s_lconst (pc1 := 2) (v := 0) (tk (n := 1) t24_0 rfl) rfl rfl rfl ?_
  refine s_putf1 (pc1 := 5) (c := 3) (tk (n := 2) t24_0 rfl) rfl rfl rfl rfl rfl ?_
  refine s_aload_n (pc1 := 6) (tk (n := 3) t24_0 rfl) rfl rfl rfl ?_
  refine s_iconst (pc1 := 7) (tk (n := 4) t24_0 rfl) rfl rfl  ?_
  refine s_putf0 (pc1 := 10) (c := 3) (tk (n := 5) t24_0 rfl) rfl rfl rfl rfl rfl ?_
  rfl
set_option maxRecDepth 100000 in
set_option maxHeartbeats 4000000 in
theorem e_X3_readWord_10 (x0 : Int) (z1 : Vl) (h : Hq) : vp 24 10 [(2, x0), z1] [] h = if 0 < x0 ∧ (kd x0).1 = 3 then (vm 22 [(2, x0)] h).bind (fun r2 => if (vx r2) = 0 then (if 0 < x0 ∧ (kd x0).1 = 3 then if (r2.2.2 x0 8) > 8 then (if (0 < x0 ∧ (kd x0).1 = 3) ∧ True then vp 24 100 [(2, x0), (0, 0)] [] (r2.2.1, stm r2.2.2 x0 4 4) else none) else (if (0 < x0 ∧ (kd x0).1 = 3) ∧ True then vp 24 100 [(2, x0), (0, 0)] [] (r2.2.1, stm r2.2.2 x0 4 3) else none) else none) else (if 0 < x0 ∧ (kd x0).1 = 3 then if 0 < x0 ∧ (kd x0).1 = 3 then if (r2.2.2 x0 3) ≥ (r2.2.2 x0 2) then (if 0 < x0 ∧ (kd x0).1 = 3 then if (r2.2.2 x0 8) > 8 then (if (0 < x0 ∧ (kd x0).1 = 3) ∧ True then vp 24 100 [(2, x0), (0, 0)] [] (r2.2.1, stm r2.2.2 x0 4 4) else none) else (if (0 < x0 ∧ (kd x0).1 = 3) ∧ True then vp 24 100 [(2, x0), (0, 0)] [] (r2.2.1, stm r2.2.2 x0 4 3) else none) else none) else (if 0 < x0 ∧ (kd x0).1 = 3 then if (r2.2.2 x0 8) ≥ 8 then (if 0 < x0 ∧ (kd x0).1 = 3 then if (0 < x0 ∧ (kd x0).1 = 3) ∧ True then if 0 < x0 ∧ (kd x0).1 = 3 then if (0 < x0 ∧ (kd x0).1 = 3) ∧ True then vp 24 10 [(2, x0), (9, 0)] [] (r2.2.1, stm (stm r2.2.2 x0 8 (w32 ((r2.2.2 x0 8) + 1))) x0 3 (w32 (((stm r2.2.2 x0 8 (w32 ((r2.2.2 x0 8) + 1))) x0 3) + 1))) else none else none else none else none) else (if 0 < x0 ∧ (kd x0).1 = 3 then if 0 < x0 ∧ (kd x0).1 = 3 then if 0 < x0 ∧ (kd x0).1 = 3 then if (kd (r2.2.2 x0 1)).1 = 21 ∧ 0 ≤ (r2.2.2 x0 3) ∧ (r2.2.2 x0 3) < (kd (r2.2.2 x0 1)).2 then (vm 19 [(1, r2.2.2 x0 7), (0, r2.2.2 (r2.2.2 x0 1) (r2.2.2 x0 3))] r2.2).bind (fun r21 => if (0 < x0 ∧ (kd x0).1 = 3) ∧ True then if 0 < x0 ∧ (kd x0).1 = 3 then if (0 < x0 ∧ (kd x0).1 = 3) ∧ True then if 0 < x0 ∧ (kd x0).1 = 3 then if (0 < x0 ∧ (kd x0).1 = 3) ∧ True then vp 24 10 [(2, x0), (9, 0)] [] (r21.2.1, stm (stm (stm r21.2.2 x0 7 (vx r21)) x0 8 (w32 (((stm r21.2.2 x0 7 (vx r21)) x0 8) + 1))) x0 3 (w32 (((stm (stm r21.2.2 x0 7 (vx r21)) x0 8 (w32 (((stm r21.2.2 x0 7 (vx r21)) x0 8) + 1))) x0 3) + 1))) else none else none else none else none else none) else none else none else none else none) else none) else none else none)) else none := by
  refine s_fg (ls1 := [(2, x0), (9, 0)]) (tk (n := 6) t24_0 rfl) rfl ?_
  refine s_aload_n (pc1 := 11) (tk (n := 6) t24_0 rfl) rfl rfl rfl ?_
  refine s_call0 (as := [(2, x0)]) (st1 := []) (p1 := 14) (M2 := 22) (tk (n := 7) t24_0 rfl) rfl rfl rfl rfl rfl (fun r2 => ?_)
  refine s_if_eq (pc1 := 17) (pt := 80) (tk (n := 8) t24_0 rfl) rfl rfl rfl ?_ ?_
  · refine s_aload_n (pc1 := 81) (tk (n := 11) t24_1 rfl) rfl rfl rfl ?_
    refine s_aload_n (pc1 := 82) (tk (n := 12) t24_1 rfl) rfl rfl rfl ?_
    refine s_getf (pc1 := 85) (c := 3) (t1 := 0) (tk (n := 13) t24_1 rfl) rfl rfl (by decide) rfl rfl ?_
    refine s_bipush (pc1 := 87) (tk (n := 14) t24_1 rfl) rfl rfl  ?_
    refine s_ic_gt (pc1 := 90) (pt := 94) (tk (n := 15) t24_1 rfl) rfl rfl rfl ?_ ?_
    · refine s_iconst (pc1 := 95) (tk (n := 18) t24_1 rfl) rfl rfl  ?_
      refine s_putf0 (pc1 := 98) (c := 3) (tk (n := 19) t24_1 rfl) rfl rfl rfl rfl rfl ?_
      refine s_iconst (pc1 := 99) (tk (n := 20) t24_1 rfl) rfl rfl  ?_
      refine s_istore_n (pc1 := 100) (ls1 := [(2, x0), (0, 0)]) (tk (n := 21) t24_1 rfl) rfl rfl rfl rfl ?_
      rfl
    · refine s_iconst (pc1 := 91) (tk (n := 16) t24_1 rfl) rfl rfl  ?_
      refine s_goto (pc1 := 95) (tk (n := 17) t24_1 rfl) rfl rfl ?_
      refine s_putf0 (pc1 := 98) (c := 3) (tk (n := 19) t24_1 rfl) rfl rfl rfl rfl rfl ?_
      refine s_iconst (pc1 := 99) (tk (n := 20) t24_1 rfl) rfl rfl  ?_
      refine s_istore_n (pc1 := 100) (ls1 := [(2, x0), (0, 0)]) (tk (n := 21) t24_1 rfl) rfl rfl rfl rfl ?_
      rfl
  · refine s_aload_n (pc1 := 18) (tk (n := 9) t24_0 rfl) rfl rfl rfl ?_
    refine s_getf (pc1 := 21) (c := 3) (t1 := 0) (tk (n := 10) t24_0 rfl) rfl rfl (by decide) rfl rfl ?_
    refine s_aload_n (pc1 := 22) (tk (n := 11) t24_0 rfl) rfl rfl rfl ?_
    refine s_getf (pc1 := 25) (c := 3) (t1 := 0) (tk (n := 12) t24_0 rfl) rfl rfl (by decide) rfl rfl ?_
    refine s_ic_ge (pc1 := 28) (pt := 80) (tk (n := 13) t24_0 rfl) rfl rfl rfl ?_ ?_
    · refine s_aload_n (pc1 := 81) (tk (n := 11) t24_1 rfl) rfl rfl rfl ?_
      refine s_aload_n (pc1 := 82) (tk (n := 12) t24_1 rfl) rfl rfl rfl ?_
      refine s_getf (pc1 := 85) (c := 3) (t1 := 0) (tk (n := 13) t24_1 rfl) rfl rfl (by decide) rfl rfl ?_
      refine s_bipush (pc1 := 87) (tk (n := 14) t24_1 rfl) rfl rfl  ?_
      refine s_ic_gt (pc1 := 90) (pt := 94) (tk (n := 15) t24_1 rfl) rfl rfl rfl ?_ ?_
      · refine s_iconst (pc1 := 95) (tk (n := 18) t24_1 rfl) rfl rfl  ?_
        refine s_putf0 (pc1 := 98) (c := 3) (tk (n := 19) t24_1 rfl) rfl rfl rfl rfl rfl ?_
        refine s_iconst (pc1 := 99) (tk (n := 20) t24_1 rfl) rfl rfl  ?_
        refine s_istore_n (pc1 := 100) (ls1 := [(2, x0), (0, 0)]) (tk (n := 21) t24_1 rfl) rfl rfl rfl rfl ?_
        rfl
      · refine s_iconst (pc1 := 91) (tk (n := 16) t24_1 rfl) rfl rfl  ?_
        refine s_goto (pc1 := 95) (tk (n := 17) t24_1 rfl) rfl rfl ?_
        refine s_putf0 (pc1 := 98) (c := 3) (tk (n := 19) t24_1 rfl) rfl rfl rfl rfl rfl ?_
        refine s_iconst (pc1 := 99) (tk (n := 20) t24_1 rfl) rfl rfl  ?_
        refine s_istore_n (pc1 := 100) (ls1 := [(2, x0), (0, 0)]) (tk (n := 21) t24_1 rfl) rfl rfl rfl rfl ?_
        rfl
    · refine s_aload_n (pc1 := 29) (tk (n := 14) t24_0 rfl) rfl rfl rfl ?_
      refine s_getf (pc1 := 32) (c := 3) (t1 := 0) (tk (n := 15) t24_0 rfl) rfl rfl (by decide) rfl rfl ?_
      refine s_bipush (pc1 := 34) (tk (n := 16) t24_0 rfl) rfl rfl  ?_
      refine s_ic_ge (pc1 := 37) (pt := 57) (tk (n := 17) t24_0 rfl) rfl rfl rfl ?_ ?_
      · refine s_aload_n (pc1 := 58) (tk (n := 28) t24_0 rfl) rfl rfl rfl ?_
        refine s_dup2 (pc1 := 59) (tk (n := 29) t24_0 rfl) rfl rfl  ?_
        refine s_getf (pc1 := 62) (c := 3) (t1 := 0) (tk (n := 0) t24_1 rfl) rfl rfl (by decide) rfl rfl ?_
        refine s_iconst (pc1 := 63) (tk (n := 1) t24_1 rfl) rfl rfl  ?_
        refine s_iadd (pc1 := 64) (tk (n := 2) t24_1 rfl) rfl rfl  ?_
        refine s_putf0 (pc1 := 67) (c := 3) (tk (n := 3) t24_1 rfl) rfl rfl rfl rfl rfl ?_
        refine s_aload_n (pc1 := 68) (tk (n := 4) t24_1 rfl) rfl rfl rfl ?_
        refine s_dup2 (pc1 := 69) (tk (n := 5) t24_1 rfl) rfl rfl  ?_
        refine s_getf (pc1 := 72) (c := 3) (t1 := 0) (tk (n := 6) t24_1 rfl) rfl rfl (by decide) rfl rfl ?_
        refine s_iconst (pc1 := 73) (tk (n := 7) t24_1 rfl) rfl rfl  ?_
        refine s_iadd (pc1 := 74) (tk (n := 8) t24_1 rfl) rfl rfl  ?_
        refine s_putf0 (pc1 := 77) (c := 3) (tk (n := 9) t24_1 rfl) rfl rfl rfl rfl rfl ?_
        refine s_goto (pc1 := 10) (tk (n := 10) t24_1 rfl) rfl rfl ?_
        rfl
      · refine s_aload_n (pc1 := 38) (tk (n := 18) t24_0 rfl) rfl rfl rfl ?_
        refine s_aload_n (pc1 := 39) (tk (n := 19) t24_0 rfl) rfl rfl rfl ?_
        refine s_getf (pc1 := 42) (c := 3) (t1 := 1) (tk (n := 20) t24_0 rfl) rfl rfl (by decide) rfl rfl ?_
        refine s_aload_n (pc1 := 43) (tk (n := 21) t24_0 rfl) rfl rfl rfl ?_
        refine s_getf (pc1 := 46) (c := 3) (t1 := 2) (tk (n := 22) t24_0 rfl) rfl rfl (by decide) rfl rfl ?_
        refine s_aload_n (pc1 := 47) (tk (n := 23) t24_0 rfl) rfl rfl rfl ?_
        refine s_getf (pc1 := 50) (c := 3) (t1 := 0) (tk (n := 24) t24_0 rfl) rfl rfl (by decide) rfl rfl ?_
        refine s_bald (pc1 := 51) (c := 21) (tk (n := 25) t24_0 rfl) rfl rfl rfl ?_
        refine s_callS1 (as := [(1, r2.2.2 x0 7), (0, r2.2.2 (r2.2.2 x0 1) (r2.2.2 x0 3))]) (st1 := [(2, x0)]) (p1 := 54) (M2 := 19) (tk (n := 26) t24_0 rfl) rfl rfl rfl rfl rfl (fun r21 => ?_)
        refine s_putf1 (pc1 := 57) (c := 3) (tk (n := 27) t24_0 rfl) rfl rfl rfl rfl rfl ?_
        refine s_aload_n (pc1 := 58) (tk (n := 28) t24_0 rfl) rfl rfl rfl ?_
        refine s_dup2 (pc1 := 59) (tk (n := 29) t24_0 rfl) rfl rfl  ?_
        refine s_getf (pc1 := 62) (c := 3) (t1 := 0) (tk (n := 0) t24_1 rfl) rfl rfl (by decide) rfl rfl ?_
        refine s_iconst (pc1 := 63) (tk (n := 1) t24_1 rfl) rfl rfl  ?_
        refine s_iadd (pc1 := 64) (tk (n := 2) t24_1 rfl) rfl rfl  ?_
        refine s_putf0 (pc1 := 67) (c := 3) (tk (n := 3) t24_1 rfl) rfl rfl rfl rfl rfl ?_
        refine s_aload_n (pc1 := 68) (tk (n := 4) t24_1 rfl) rfl rfl rfl ?_
        refine s_dup2 (pc1 := 69) (tk (n := 5) t24_1 rfl) rfl rfl  ?_
        refine s_getf (pc1 := 72) (c := 3) (t1 := 0) (tk (n := 6) t24_1 rfl) rfl rfl (by decide) rfl rfl ?_
        refine s_iconst (pc1 := 73) (tk (n := 7) t24_1 rfl) rfl rfl  ?_
        refine s_iadd (pc1 := 74) (tk (n := 8) t24_1 rfl) rfl rfl  ?_
        refine s_putf0 (pc1 := 77) (c := 3) (tk (n := 9) t24_1 rfl) rfl rfl rfl rfl rfl ?_
        refine s_goto (pc1 := 10) (tk (n := 10) t24_1 rfl) rfl rfl ?_
        rfl
set_option maxRecDepth 100000 in
set_option maxHeartbeats 4000000 in
theorem e_X3_readWord_100 (x0 : Int) (x1 : Int) (h : Hq) : vp 24 100 [(2, x0), (0, x1)] [] h = if x1 ≥ 28 then (some (none, h)) else (if 0 < x0 ∧ (kd x0).1 = 3 then if (h.2 x0 4) ≠ 3 then (vp 24 100 [(2, x0), (0, w32 (x1 + 1))] [] h) else (if 0 < x0 ∧ (kd x0).1 = 3 then if (kd (h.2 x0 0)).1 = 23 ∧ 0 ≤ x1 ∧ x1 < (kd (h.2 x0 0)).2 then if 0 < x0 ∧ (kd x0).1 = 3 then if (if (h.2 (h.2 x0 0) x1) < (h.2 x0 7) then -1 else if (h.2 (h.2 x0 0) x1) = (h.2 x0 7) then 0 else 1) ≠ 0 then (vp 24 100 [(2, x0), (0, w32 (x1 + 1))] [] h) else (if (0 < x0 ∧ (kd x0).1 = 3) ∧ True then vp 24 100 [(2, x0), (0, w32 (x1 + 1))] [] (h.1, stm h.2 x0 9 x1) else none) else none else none else none) else none) := by
  refine s_iload_n (pc1 := 101) (tk (n := 22) t24_1 rfl) rfl rfl rfl ?_
  refine s_bipush (pc1 := 103) (tk (n := 23) t24_1 rfl) rfl rfl  ?_
  refine s_ic_ge (pc1 := 106) (pt := 139) (tk (n := 24) t24_1 rfl) rfl rfl rfl ?_ ?_
  · exact s_ret (tk (n := 12) t24_2 rfl) rfl rfl rfl
  · refine s_aload_n (pc1 := 107) (tk (n := 25) t24_1 rfl) rfl rfl rfl ?_
    refine s_getf (pc1 := 110) (c := 3) (t1 := 0) (tk (n := 26) t24_1 rfl) rfl rfl (by decide) rfl rfl ?_
    refine s_iconst (pc1 := 111) (tk (n := 27) t24_1 rfl) rfl rfl  ?_
    refine s_ic_ne (pc1 := 114) (pt := 133) (tk (n := 28) t24_1 rfl) rfl rfl rfl ?_ ?_
    · refine s_iinc (pc1 := 136) (ls1 := [(2, x0), (0, w32 (x1 + 1))]) (tk (n := 10) t24_2 rfl) rfl rfl rfl rfl ?_
      refine s_goto (pc1 := 100) (tk (n := 11) t24_2 rfl) rfl rfl ?_
      rfl
    · refine s_aload_n (pc1 := 115) (tk (n := 29) t24_1 rfl) rfl rfl rfl ?_
      refine s_getf (pc1 := 118) (c := 3) (t1 := 2) (tk (n := 0) t24_2 rfl) rfl rfl (by decide) rfl rfl ?_
      refine s_iload_n (pc1 := 119) (tk (n := 1) t24_2 rfl) rfl rfl rfl ?_
      refine s_lald (pc1 := 120) (tk (n := 2) t24_2 rfl) rfl rfl  ?_
      refine s_aload_n (pc1 := 121) (tk (n := 3) t24_2 rfl) rfl rfl rfl ?_
      refine s_getf (pc1 := 124) (c := 3) (t1 := 1) (tk (n := 4) t24_2 rfl) rfl rfl (by decide) rfl rfl ?_
      refine s_lcmp (pc1 := 125) (tk (n := 5) t24_2 rfl) rfl rfl  ?_
      refine s_if_ne (pc1 := 128) (pt := 133) (tk (n := 6) t24_2 rfl) rfl rfl rfl ?_ ?_
      · refine s_iinc (pc1 := 136) (ls1 := [(2, x0), (0, w32 (x1 + 1))]) (tk (n := 10) t24_2 rfl) rfl rfl rfl rfl ?_
        refine s_goto (pc1 := 100) (tk (n := 11) t24_2 rfl) rfl rfl ?_
        rfl
      · refine s_aload_n (pc1 := 129) (tk (n := 7) t24_2 rfl) rfl rfl rfl ?_
        refine s_iload_n (pc1 := 130) (tk (n := 8) t24_2 rfl) rfl rfl rfl ?_
        refine s_putf0 (pc1 := 133) (c := 3) (tk (n := 9) t24_2 rfl) rfl rfl rfl rfl rfl ?_
        refine s_iinc (pc1 := 136) (ls1 := [(2, x0), (0, w32 (x1 + 1))]) (tk (n := 10) t24_2 rfl) rfl rfl rfl rfl ?_
        refine s_goto (pc1 := 100) (tk (n := 11) t24_2 rfl) rfl rfl ?_
        rfl
set_option maxRecDepth 100000 in
set_option maxHeartbeats 4000000 in
theorem e_X3_readNumber (x0 : Int) (h : Hq) : vm 25 [(2, x0)] h = if (0 < x0 ∧ (kd x0).1 = 3) ∧ True then vp 25 7 [(2, x0), (0, 0)] [] (h.1, stm h.2 x0 6 0) else none := by
  show vp 25 0 [(2, x0), (9, 0)] [] h = _
  refine s_aload_n (pc1 := 1) (tk (n := 0) t25_0 rfl) rfl rfl rfl ?_
  refine s_iconst (pc1 := 2) (tk (n := 1) t25_0 rfl) rfl rfl  ?_
  refine s_putf0 (pc1 := 5) (c := 3) (tk (n := 2) t25_0 rfl) rfl rfl rfl rfl rfl ?_
  refine s_iconst (pc1 := 6) (tk (n := 3) t25_0 rfl) rfl rfl  ?_
  refine s_istore_n (pc1 := 7) (ls1 := [(2, x0), (0, 0)]) (tk (n := 4) t25_0 rfl) rfl rfl rfl rfl ?_
  rfl
set_option maxRecDepth 100000 in
set_option maxHeartbeats 4000000 in
theorem e_X3_readNumber_7 (x0 : Int) (x1 : Int) (h : Hq) : vp 25 7 [(2, x0), (0, x1)] [] h = if 0 < x0 ∧ (kd x0).1 = 3 then (vm 23 [(2, x0)] h).bind (fun r2 => if (vx r2) = 0 then (if x1 > 4 then (if (0 < x0 ∧ (kd x0).1 = 3) ∧ True then some (none, (r2.2.1, stm r2.2.2 x0 4 4)) else none) else (if 0 < x0 ∧ (kd x0).1 = 3 then (vm 22 [(2, x0)] r2.2).bind (fun r9 => if (vx r9) ≠ 0 then (if (0 < x0 ∧ (kd x0).1 = 3) ∧ True then some (none, (r9.2.1, stm r9.2.2 x0 4 4)) else none) else (if (0 < x0 ∧ (kd x0).1 = 3) ∧ True then some (none, (r9.2.1, stm r9.2.2 x0 4 2)) else none)) else none)) else (if 0 < x0 ∧ (kd x0).1 = 3 then if 0 < x0 ∧ (kd x0).1 = 3 then if (r2.2.2 x0 3) ≥ (r2.2.2 x0 2) then (if x1 > 4 then (if (0 < x0 ∧ (kd x0).1 = 3) ∧ True then some (none, (r2.2.1, stm r2.2.2 x0 4 4)) else none) else (if 0 < x0 ∧ (kd x0).1 = 3 then (vm 22 [(2, x0)] r2.2).bind (fun r14 => if (vx r14) ≠ 0 then (if (0 < x0 ∧ (kd x0).1 = 3) ∧ True then some (none, (r14.2.1, stm r14.2.2 x0 4 4)) else none) else (if (0 < x0 ∧ (kd x0).1 = 3) ∧ True then some (none, (r14.2.1, stm r14.2.2 x0 4 2)) else none)) else none)) else (if x1 ≥ 4 then (if 0 < x0 ∧ (kd x0).1 = 3 then if (0 < x0 ∧ (kd x0).1 = 3) ∧ True then vp 25 7 [(2, x0), (0, w32 (x1 + 1))] [] (r2.2.1, stm r2.2.2 x0 3 (w32 ((r2.2.2 x0 3) + 1))) else none else none) else (if 0 < x0 ∧ (kd x0).1 = 3 then if 0 < x0 ∧ (kd x0).1 = 3 then if 0 < x0 ∧ (kd x0).1 = 3 then if (kd (r2.2.2 x0 1)).1 = 21 ∧ 0 ≤ (r2.2.2 x0 3) ∧ (r2.2.2 x0 3) < (kd (r2.2.2 x0 1)).2 then if (0 < x0 ∧ (kd x0).1 = 3) ∧ True then if 0 < x0 ∧ (kd x0).1 = 3 then if (0 < x0 ∧ (kd x0).1 = 3) ∧ True then vp 25 7 [(2, x0), (0, w32 (x1 + 1))] [] (r2.2.1, stm (stm r2.2.2 x0 6 (w32 ((w32 ((r2.2.2 x0 6) * 10)) + (w32 ((r2.2.2 (r2.2.2 x0 1) (r2.2.2 x0 3)) - 48))))) x0 3 (w32 (((stm r2.2.2 x0 6 (w32 ((w32 ((r2.2.2 x0 6) * 10)) + (w32 ((r2.2.2 (r2.2.2 x0 1) (r2.2.2 x0 3)) - 48))))) x0 3) + 1))) else none else none else none else none else none else none else none)) else none else none)) else none := by
  refine s_aload_n (pc1 := 8) (tk (n := 5) t25_0 rfl) rfl rfl rfl ?_
  refine s_call0 (as := [(2, x0)]) (st1 := []) (p1 := 11) (M2 := 23) (tk (n := 6) t25_0 rfl) rfl rfl rfl rfl rfl (fun r2 => ?_)
  refine s_if_eq (pc1 := 14) (pt := 70) (tk (n := 7) t25_0 rfl) rfl rfl rfl ?_ ?_
  · refine s_aload_n (pc1 := 71) (tk (n := 8) t25_1 rfl) rfl rfl rfl ?_
    refine s_iload_n (pc1 := 72) (tk (n := 9) t25_1 rfl) rfl rfl rfl ?_
    refine s_iconst (pc1 := 73) (tk (n := 10) t25_1 rfl) rfl rfl  ?_
    refine s_ic_gt (pc1 := 76) (pt := 87) (tk (n := 11) t25_1 rfl) rfl rfl rfl ?_ ?_
    · refine s_iconst (pc1 := 88) (tk (n := 17) t25_1 rfl) rfl rfl  ?_
      refine s_putf0 (pc1 := 91) (c := 3) (tk (n := 18) t25_1 rfl) rfl rfl rfl rfl rfl ?_
      exact s_ret (tk (n := 19) t25_1 rfl) rfl rfl rfl
    · refine s_aload_n (pc1 := 77) (tk (n := 12) t25_1 rfl) rfl rfl rfl ?_
      refine s_call0 (as := [(2, x0)]) (st1 := [(2, x0)]) (p1 := 80) (M2 := 22) (tk (n := 13) t25_1 rfl) rfl rfl rfl rfl rfl (fun r9 => ?_)
      refine s_if_ne (pc1 := 83) (pt := 87) (tk (n := 14) t25_1 rfl) rfl rfl rfl ?_ ?_
      · refine s_iconst (pc1 := 88) (tk (n := 17) t25_1 rfl) rfl rfl  ?_
        refine s_putf0 (pc1 := 91) (c := 3) (tk (n := 18) t25_1 rfl) rfl rfl rfl rfl rfl ?_
        exact s_ret (tk (n := 19) t25_1 rfl) rfl rfl rfl
      · refine s_iconst (pc1 := 84) (tk (n := 15) t25_1 rfl) rfl rfl  ?_
        refine s_goto (pc1 := 88) (tk (n := 16) t25_1 rfl) rfl rfl ?_
        refine s_putf0 (pc1 := 91) (c := 3) (tk (n := 18) t25_1 rfl) rfl rfl rfl rfl rfl ?_
        exact s_ret (tk (n := 19) t25_1 rfl) rfl rfl rfl
  · refine s_aload_n (pc1 := 15) (tk (n := 8) t25_0 rfl) rfl rfl rfl ?_
    refine s_getf (pc1 := 18) (c := 3) (t1 := 0) (tk (n := 9) t25_0 rfl) rfl rfl (by decide) rfl rfl ?_
    refine s_aload_n (pc1 := 19) (tk (n := 10) t25_0 rfl) rfl rfl rfl ?_
    refine s_getf (pc1 := 22) (c := 3) (t1 := 0) (tk (n := 11) t25_0 rfl) rfl rfl (by decide) rfl rfl ?_
    refine s_ic_ge (pc1 := 25) (pt := 70) (tk (n := 12) t25_0 rfl) rfl rfl rfl ?_ ?_
    · refine s_aload_n (pc1 := 71) (tk (n := 8) t25_1 rfl) rfl rfl rfl ?_
      refine s_iload_n (pc1 := 72) (tk (n := 9) t25_1 rfl) rfl rfl rfl ?_
      refine s_iconst (pc1 := 73) (tk (n := 10) t25_1 rfl) rfl rfl  ?_
      refine s_ic_gt (pc1 := 76) (pt := 87) (tk (n := 11) t25_1 rfl) rfl rfl rfl ?_ ?_
      · refine s_iconst (pc1 := 88) (tk (n := 17) t25_1 rfl) rfl rfl  ?_
        refine s_putf0 (pc1 := 91) (c := 3) (tk (n := 18) t25_1 rfl) rfl rfl rfl rfl rfl ?_
        exact s_ret (tk (n := 19) t25_1 rfl) rfl rfl rfl
      · refine s_aload_n (pc1 := 77) (tk (n := 12) t25_1 rfl) rfl rfl rfl ?_
        refine s_call0 (as := [(2, x0)]) (st1 := [(2, x0)]) (p1 := 80) (M2 := 22) (tk (n := 13) t25_1 rfl) rfl rfl rfl rfl rfl (fun r14 => ?_)
        refine s_if_ne (pc1 := 83) (pt := 87) (tk (n := 14) t25_1 rfl) rfl rfl rfl ?_ ?_
        · refine s_iconst (pc1 := 88) (tk (n := 17) t25_1 rfl) rfl rfl  ?_
          refine s_putf0 (pc1 := 91) (c := 3) (tk (n := 18) t25_1 rfl) rfl rfl rfl rfl rfl ?_
          exact s_ret (tk (n := 19) t25_1 rfl) rfl rfl rfl
        · refine s_iconst (pc1 := 84) (tk (n := 15) t25_1 rfl) rfl rfl  ?_
          refine s_goto (pc1 := 88) (tk (n := 16) t25_1 rfl) rfl rfl ?_
          refine s_putf0 (pc1 := 91) (c := 3) (tk (n := 18) t25_1 rfl) rfl rfl rfl rfl rfl ?_
          exact s_ret (tk (n := 19) t25_1 rfl) rfl rfl rfl
    · refine s_iload_n (pc1 := 26) (tk (n := 13) t25_0 rfl) rfl rfl rfl ?_
      refine s_iconst (pc1 := 27) (tk (n := 14) t25_0 rfl) rfl rfl  ?_
      refine s_ic_ge (pc1 := 30) (pt := 54) (tk (n := 15) t25_0 rfl) rfl rfl rfl ?_ ?_
      · refine s_iinc (pc1 := 57) (ls1 := [(2, x0), (0, w32 (x1 + 1))]) (tk (n := 0) t25_1 rfl) rfl rfl rfl rfl ?_
        refine s_aload_n (pc1 := 58) (tk (n := 1) t25_1 rfl) rfl rfl rfl ?_
        refine s_dup2 (pc1 := 59) (tk (n := 2) t25_1 rfl) rfl rfl  ?_
        refine s_getf (pc1 := 62) (c := 3) (t1 := 0) (tk (n := 3) t25_1 rfl) rfl rfl (by decide) rfl rfl ?_
        refine s_iconst (pc1 := 63) (tk (n := 4) t25_1 rfl) rfl rfl  ?_
        refine s_iadd (pc1 := 64) (tk (n := 5) t25_1 rfl) rfl rfl  ?_
        refine s_putf0 (pc1 := 67) (c := 3) (tk (n := 6) t25_1 rfl) rfl rfl rfl rfl rfl ?_
        refine s_goto (pc1 := 7) (tk (n := 7) t25_1 rfl) rfl rfl ?_
        rfl
      · refine s_aload_n (pc1 := 31) (tk (n := 16) t25_0 rfl) rfl rfl rfl ?_
        refine s_aload_n (pc1 := 32) (tk (n := 17) t25_0 rfl) rfl rfl rfl ?_
        refine s_getf (pc1 := 35) (c := 3) (t1 := 0) (tk (n := 18) t25_0 rfl) rfl rfl (by decide) rfl rfl ?_
        refine s_bipush (pc1 := 37) (tk (n := 19) t25_0 rfl) rfl rfl  ?_
        refine s_imul (pc1 := 38) (tk (n := 20) t25_0 rfl) rfl rfl  ?_
        refine s_aload_n (pc1 := 39) (tk (n := 21) t25_0 rfl) rfl rfl rfl ?_
        refine s_getf (pc1 := 42) (c := 3) (t1 := 2) (tk (n := 22) t25_0 rfl) rfl rfl (by decide) rfl rfl ?_
        refine s_aload_n (pc1 := 43) (tk (n := 23) t25_0 rfl) rfl rfl rfl ?_
        refine s_getf (pc1 := 46) (c := 3) (t1 := 0) (tk (n := 24) t25_0 rfl) rfl rfl (by decide) rfl rfl ?_
        refine s_bald (pc1 := 47) (c := 21) (tk (n := 25) t25_0 rfl) rfl rfl rfl ?_
        refine s_bipush (pc1 := 49) (tk (n := 26) t25_0 rfl) rfl rfl  ?_
        refine s_isub (pc1 := 50) (tk (n := 27) t25_0 rfl) rfl rfl  ?_
        refine s_iadd (pc1 := 51) (tk (n := 28) t25_0 rfl) rfl rfl  ?_
        refine s_putf0 (pc1 := 54) (c := 3) (tk (n := 29) t25_0 rfl) rfl rfl rfl rfl rfl ?_
        refine s_iinc (pc1 := 57) (ls1 := [(2, x0), (0, w32 (x1 + 1))]) (tk (n := 0) t25_1 rfl) rfl rfl rfl rfl ?_
        refine s_aload_n (pc1 := 58) (tk (n := 1) t25_1 rfl) rfl rfl rfl ?_
        refine s_dup2 (pc1 := 59) (tk (n := 2) t25_1 rfl) rfl rfl  ?_
        refine s_getf (pc1 := 62) (c := 3) (t1 := 0) (tk (n := 3) t25_1 rfl) rfl rfl (by decide) rfl rfl ?_
        refine s_iconst (pc1 := 63) (tk (n := 4) t25_1 rfl) rfl rfl  ?_
        refine s_iadd (pc1 := 64) (tk (n := 5) t25_1 rfl) rfl rfl  ?_
        refine s_putf0 (pc1 := 67) (c := 3) (tk (n := 6) t25_1 rfl) rfl rfl rfl rfl rfl ?_
        refine s_goto (pc1 := 7) (tk (n := 7) t25_1 rfl) rfl rfl ?_
        rfl
set_option maxRecDepth 100000 in
set_option maxHeartbeats 4000000 in
theorem e_X4_init (x0 : Int) (h : Hq) : vm 26 [(2, x0)] h = if 0 < x0 then if (kd h.1).1 = 20 ∧ (kd h.1).2 = (16 : Int) ∧ 0 ≤ (16 : Int) ∧ (16 : Int) ≤ 1000000 then if (0 < x0 ∧ (kd x0).1 = 4) ∧ True then some (none, (h.1 + 1, stm h.2 x0 0 h.1)) else none else none else none := by
  show vp 26 0 [(2, x0)] [] h = _
  refine s_aload_n (pc1 := 1) (tk (n := 0) t26_0 rfl) rfl rfl rfl ?_
  refine s_oini (pc1 := 4) (tk (n := 1) t26_0 rfl) rfl rfl rfl ?_
  refine s_aload_n (pc1 := 5) (tk (n := 2) t26_0 rfl) rfl rfl rfl ?_
  refine s_bipush (pc1 := 7) (tk (n := 3) t26_0 rfl) rfl rfl  ?_
  refine s_newa (pc1 := 9) (c := 20) (tk (n := 4) t26_0 rfl) rfl rfl rfl ?_
  refine s_putf2 (pc1 := 12) (c := 4) (tk (n := 5) t26_0 rfl) rfl rfl rfl rfl rfl ?_
  exact s_ret (tk (n := 6) t26_0 rfl) rfl rfl rfl
set_option maxRecDepth 100000 in
set_option maxHeartbeats 4000000 in
theorem e_X4_read (x0 : Int) (x1 : Int) (x2 : Int) (x3 : Int) (x4 : Int) (h : Hq) : vm 27 [(2, x0), (2, x1), (0, x2), (0, x3), (0, x4)] h = vp 27 3 [(2, x0), (2, x1), (0, x2), (0, x3), (0, x4), (0, 0), (9, 0)] [] h := by
  show vp 27 0 [(2, x0), (2, x1), (0, x2), (0, x3), (0, x4), (9, 0), (9, 0)] [] h = _
  refine s_iconst (pc1 := 1) (tk (n := 0) t27_0 rfl) rfl rfl  ?_
  refine s_istore (pc1 := 3) (ls1 := [(2, x0), (2, x1), (0, x2), (0, x3), (0, x4), (0, 0), (9, 0)]) (tk (n := 1) t27_0 rfl) rfl rfl rfl rfl ?_
  rfl
set_option maxRecDepth 100000 in
set_option maxHeartbeats 4000000 in
theorem e_X4_read_3 (x0 : Int) (x1 : Int) (x2 : Int) (x3 : Int) (x4 : Int) (x5 : Int) (z6 : Vl) (h : Hq) : vp 27 3 [(2, x0), (2, x1), (0, x2), (0, x3), (0, x4), (0, x5), z6] [] h = if x5 ≥ 16 then (some (none, h)) else (if 0 < x1 ∧ (kd x1).1 = 10 then (vm 96 [(2, x1), (0, x2), (0, w32 ((w32 (4 * x3)) + (x5.tmod 4))), (0, w32 ((w32 (4 * x4)) + (w32 (x5.tdiv 4))))] h).bind (fun r20 => if 0 < x0 ∧ (kd x0).1 = 4 then (vm 314 [(0, vx r20), (0, 65535)] r20.2).bind (fun r28 => (vm 313 [(0, 0), (0, vx r28)] r28.2).bind (fun r29 => if 0 < (r20.2.2 x0 0) ∧ (kd (r20.2.2 x0 0)).1 = 20 ∧ 0 ≤ x5 ∧ x5 < (kd (r20.2.2 x0 0)).2 then vp 27 3 [(2, x0), (2, x1), (0, x2), (0, x3), (0, x4), (0, w32 (x5 + 1)), (0, vx r20)] [] (r29.2.1, stm r29.2.2 (r20.2.2 x0 0) x5 (vx r29)) else none)) else none) else none) := by
  refine s_fg (ls1 := [(2, x0), (2, x1), (0, x2), (0, x3), (0, x4), (0, x5), (9, 0)]) (tk (n := 2) t27_0 rfl) rfl ?_
  refine s_iload (pc1 := 5) (tk (n := 2) t27_0 rfl) rfl rfl rfl ?_
  refine s_bipush (pc1 := 7) (tk (n := 3) t27_0 rfl) rfl rfl  ?_
  refine s_ic_ge (pc1 := 10) (pt := 58) (tk (n := 4) t27_0 rfl) rfl rfl rfl ?_ ?_
  · exact s_ret (tk (n := 4) t27_1 rfl) rfl rfl rfl
  · refine s_aload_n (pc1 := 11) (tk (n := 5) t27_0 rfl) rfl rfl rfl ?_
    refine s_iload_n (pc1 := 12) (tk (n := 6) t27_0 rfl) rfl rfl rfl ?_
    refine s_iconst (pc1 := 13) (tk (n := 7) t27_0 rfl) rfl rfl  ?_
    refine s_iload_n (pc1 := 14) (tk (n := 8) t27_0 rfl) rfl rfl rfl ?_
    refine s_imul (pc1 := 15) (tk (n := 9) t27_0 rfl) rfl rfl  ?_
    refine s_iload (pc1 := 17) (tk (n := 10) t27_0 rfl) rfl rfl rfl ?_
    refine s_iconst (pc1 := 18) (tk (n := 11) t27_0 rfl) rfl rfl  ?_
    refine s_iremc (pc1 := 19) (tk (n := 12) t27_0 rfl) rfl rfl (by decide) ?_
    refine s_iadd (pc1 := 20) (tk (n := 13) t27_0 rfl) rfl rfl  ?_
    refine s_iconst (pc1 := 21) (tk (n := 14) t27_0 rfl) rfl rfl  ?_
    refine s_iload (pc1 := 23) (tk (n := 15) t27_0 rfl) rfl rfl rfl ?_
    refine s_imul (pc1 := 24) (tk (n := 16) t27_0 rfl) rfl rfl  ?_
    refine s_iload (pc1 := 26) (tk (n := 17) t27_0 rfl) rfl rfl rfl ?_
    refine s_iconst (pc1 := 27) (tk (n := 18) t27_0 rfl) rfl rfl  ?_
    refine s_idivc (pc1 := 28) (tk (n := 19) t27_0 rfl) rfl rfl (by decide) ?_
    refine s_iadd (pc1 := 29) (tk (n := 20) t27_0 rfl) rfl rfl  ?_
    refine s_call0 (as := [(2, x1), (0, x2), (0, w32 ((w32 (4 * x3)) + (x5.tmod 4))), (0, w32 ((w32 (4 * x4)) + (w32 (x5.tdiv 4))))]) (st1 := []) (p1 := 32) (M2 := 96) (tk (n := 21) t27_0 rfl) rfl rfl rfl rfl rfl (fun r20 => ?_)
    refine s_istore (pc1 := 34) (ls1 := [(2, x0), (2, x1), (0, x2), (0, x3), (0, x4), (0, x5), (0, vx r20)]) (tk (n := 22) t27_0 rfl) rfl rfl rfl rfl ?_
    refine s_aload_n (pc1 := 35) (tk (n := 23) t27_0 rfl) rfl rfl rfl ?_
    refine s_getf (pc1 := 38) (c := 4) (t1 := 2) (tk (n := 24) t27_0 rfl) rfl rfl (by decide) rfl rfl ?_
    refine s_iload (pc1 := 40) (tk (n := 25) t27_0 rfl) rfl rfl rfl ?_
    refine s_iconst (pc1 := 41) (tk (n := 26) t27_0 rfl) rfl rfl  ?_
    refine s_iload (pc1 := 43) (tk (n := 27) t27_0 rfl) rfl rfl rfl ?_
    refine s_ldc (pc1 := 45) (tk (n := 28) t27_0 rfl) rfl rfl  ?_
    refine s_callS0 (as := [(0, vx r20), (0, 65535)]) (st1 := [(0, 0), (0, x5), (2, r20.2.2 x0 0)]) (p1 := 48) (M2 := 314) (tk (n := 29) t27_0 rfl) rfl rfl rfl rfl rfl (fun r28 => ?_)
    refine s_callS0 (as := [(0, 0), (0, vx r28)]) (st1 := [(0, x5), (2, r20.2.2 x0 0)]) (p1 := 51) (M2 := 313) (tk (n := 0) t27_1 rfl) rfl rfl rfl rfl rfl (fun r29 => ?_)
    refine s_iast (pc1 := 52) (tk (n := 1) t27_1 rfl) rfl rfl  ?_
    refine s_iinc (pc1 := 55) (ls1 := [(2, x0), (2, x1), (0, x2), (0, x3), (0, x4), (0, w32 (x5 + 1)), (0, vx r20)]) (tk (n := 2) t27_1 rfl) rfl rfl rfl rfl ?_
    refine s_goto (pc1 := 3) (tk (n := 3) t27_1 rfl) rfl rfl ?_
    rfl
set_option maxRecDepth 100000 in
set_option maxHeartbeats 4000000 in
theorem e_X4_packed (x0 : Int) (h : Hq) : vm 28 [(2, x0)] h = if 0 < x0 ∧ (kd x0).1 = 4 then if (kd (h.2 x0 0)).1 = 20 ∧ 0 ≤ (0 : Int) ∧ (0 : Int) < (kd (h.2 x0 0)).2 then if 0 < x0 ∧ (kd x0).1 = 4 then if (kd (h.2 x0 0)).1 = 20 ∧ 0 ≤ (0 : Int) ∧ (0 : Int) < (kd (h.2 x0 0)).2 then if 0 < x0 ∧ (kd x0).1 = 4 then if 20 ≤ (kd (h.2 x0 0)).1 ∧ (kd (h.2 x0 0)).1 ≤ 25 then vp 28 26 [(2, x0), (0, h.2 (h.2 x0 0) 0), (0, h.2 (h.2 x0 0) 0), (2, h.2 x0 0), (0, (kd (h.2 x0 0)).2), (0, 0), (9, 0)] [] h else none else none else none else none else none else none := by
  show vp 28 0 [(2, x0), (9, 0), (9, 0), (9, 0), (9, 0), (9, 0), (9, 0)] [] h = _
  refine s_aload_n (pc1 := 1) (tk (n := 0) t28_0 rfl) rfl rfl rfl ?_
  refine s_getf (pc1 := 4) (c := 4) (t1 := 2) (tk (n := 1) t28_0 rfl) rfl rfl (by decide) rfl rfl ?_
  refine s_iconst (pc1 := 5) (tk (n := 2) t28_0 rfl) rfl rfl  ?_
  refine s_iald (pc1 := 6) (tk (n := 3) t28_0 rfl) rfl rfl  ?_
  refine s_istore_n (pc1 := 7) (ls1 := [(2, x0), (0, h.2 (h.2 x0 0) 0), (9, 0), (9, 0), (9, 0), (9, 0), (9, 0)]) (tk (n := 4) t28_0 rfl) rfl rfl rfl rfl ?_
  refine s_aload_n (pc1 := 8) (tk (n := 5) t28_0 rfl) rfl rfl rfl ?_
  refine s_getf (pc1 := 11) (c := 4) (t1 := 2) (tk (n := 6) t28_0 rfl) rfl rfl (by decide) rfl rfl ?_
  refine s_iconst (pc1 := 12) (tk (n := 7) t28_0 rfl) rfl rfl  ?_
  refine s_iald (pc1 := 13) (tk (n := 8) t28_0 rfl) rfl rfl  ?_
  refine s_istore_n (pc1 := 14) (ls1 := [(2, x0), (0, h.2 (h.2 x0 0) 0), (0, h.2 (h.2 x0 0) 0), (9, 0), (9, 0), (9, 0), (9, 0)]) (tk (n := 9) t28_0 rfl) rfl rfl rfl rfl ?_
  refine s_aload_n (pc1 := 15) (tk (n := 10) t28_0 rfl) rfl rfl rfl ?_
  refine s_getf (pc1 := 18) (c := 4) (t1 := 2) (tk (n := 11) t28_0 rfl) rfl rfl (by decide) rfl rfl ?_
  refine s_astore_n (pc1 := 19) (ls1 := [(2, x0), (0, h.2 (h.2 x0 0) 0), (0, h.2 (h.2 x0 0) 0), (2, h.2 x0 0), (9, 0), (9, 0), (9, 0)]) (tk (n := 12) t28_0 rfl) rfl rfl rfl rfl ?_
  refine s_aload_n (pc1 := 20) (tk (n := 13) t28_0 rfl) rfl rfl rfl ?_
  refine s_alen (pc1 := 21) (tk (n := 14) t28_0 rfl) rfl rfl  ?_
  refine s_istore (pc1 := 23) (ls1 := [(2, x0), (0, h.2 (h.2 x0 0) 0), (0, h.2 (h.2 x0 0) 0), (2, h.2 x0 0), (0, (kd (h.2 x0 0)).2), (9, 0), (9, 0)]) (tk (n := 15) t28_0 rfl) rfl rfl rfl rfl ?_
  refine s_iconst (pc1 := 24) (tk (n := 16) t28_0 rfl) rfl rfl  ?_
  refine s_istore (pc1 := 26) (ls1 := [(2, x0), (0, h.2 (h.2 x0 0) 0), (0, h.2 (h.2 x0 0) 0), (2, h.2 x0 0), (0, (kd (h.2 x0 0)).2), (0, 0), (9, 0)]) (tk (n := 17) t28_0 rfl) rfl rfl rfl rfl ?_
  rfl
set_option maxRecDepth 100000 in
set_option maxHeartbeats 4000000 in
theorem e_X4_packed_26 (x0 : Int) (x1 : Int) (x2 : Int) (x3 : Int) (x4 : Int) (x5 : Int) (z6 : Vl) (h : Hq) : vp 28 26 [(2, x0), (0, x1), (0, x2), (2, x3), (0, x4), (0, x5), z6] [] h = if x5 ≥ x4 then (vp 28 71 [(2, x0), (0, x1), (0, x2), (1, lbor (lbshl x2 16) x1), (9, 0), (0, 0), (9, 0)] [] h) else (if (kd x3).1 = 20 ∧ 0 ≤ x5 ∧ x5 < (kd x3).2 then (vm 313 [(0, x1), (0, h.2 x3 x5)] h).bind (fun r10 => (vm 314 [(0, x2), (0, h.2 x3 x5)] r10.2).bind (fun r14 => vp 28 26 [(2, x0), (0, vx r10), (0, vx r14), (2, x3), (0, x4), (0, w32 (x5 + 1)), (0, h.2 x3 x5)] [] r14.2)) else none) := by
  refine s_fg (ls1 := [(2, x0), (0, x1), (0, x2), (2, x3), (0, x4), (0, x5), (9, 0)]) (tk (n := 18) t28_0 rfl) rfl ?_
  refine s_iload (pc1 := 28) (tk (n := 18) t28_0 rfl) rfl rfl rfl ?_
  refine s_iload (pc1 := 30) (tk (n := 19) t28_0 rfl) rfl rfl rfl ?_
  refine s_ic_ge (pc1 := 33) (pt := 59) (tk (n := 20) t28_0 rfl) rfl rfl rfl ?_ ?_
  · refine s_iload_n (pc1 := 60) (tk (n := 5) t28_1 rfl) rfl rfl rfl ?_
    refine s_i2l (pc1 := 61) (tk (n := 6) t28_1 rfl) rfl rfl  ?_
    refine s_bipush (pc1 := 63) (tk (n := 7) t28_1 rfl) rfl rfl  ?_
    refine s_lshl (pc1 := 64) (tk (n := 8) t28_1 rfl) rfl rfl  ?_
    refine s_iload_n (pc1 := 65) (tk (n := 9) t28_1 rfl) rfl rfl rfl ?_
    refine s_i2l (pc1 := 66) (tk (n := 10) t28_1 rfl) rfl rfl  ?_
    refine s_lor (pc1 := 67) (tk (n := 11) t28_1 rfl) rfl rfl  ?_
    refine s_lstore_n (pc1 := 68) (ls1 := [(2, x0), (0, x1), (0, x2), (1, lbor (lbshl x2 16) x1), (9, 0), (0, x5), (9, 0)]) (tk (n := 12) t28_1 rfl) rfl rfl rfl rfl ?_
    refine s_iconst (pc1 := 69) (tk (n := 13) t28_1 rfl) rfl rfl  ?_
    refine s_istore (pc1 := 71) (ls1 := [(2, x0), (0, x1), (0, x2), (1, lbor (lbshl x2 16) x1), (9, 0), (0, 0), (9, 0)]) (tk (n := 14) t28_1 rfl) rfl rfl rfl rfl ?_
    rfl
  · refine s_aload_n (pc1 := 34) (tk (n := 21) t28_0 rfl) rfl rfl rfl ?_
    refine s_iload (pc1 := 36) (tk (n := 22) t28_0 rfl) rfl rfl rfl ?_
    refine s_iald (pc1 := 37) (tk (n := 23) t28_0 rfl) rfl rfl  ?_
    refine s_istore (pc1 := 39) (ls1 := [(2, x0), (0, x1), (0, x2), (2, x3), (0, x4), (0, x5), (0, h.2 x3 x5)]) (tk (n := 24) t28_0 rfl) rfl rfl rfl rfl ?_
    refine s_iload_n (pc1 := 40) (tk (n := 25) t28_0 rfl) rfl rfl rfl ?_
    refine s_iload (pc1 := 42) (tk (n := 26) t28_0 rfl) rfl rfl rfl ?_
    refine s_callS0 (as := [(0, x1), (0, h.2 x3 x5)]) (st1 := []) (p1 := 45) (M2 := 313) (tk (n := 27) t28_0 rfl) rfl rfl rfl rfl rfl (fun r10 => ?_)
    refine s_istore_n (pc1 := 46) (ls1 := [(2, x0), (0, vx r10), (0, x2), (2, x3), (0, x4), (0, x5), (0, h.2 x3 x5)]) (tk (n := 28) t28_0 rfl) rfl rfl rfl rfl ?_
    refine s_iload_n (pc1 := 47) (tk (n := 29) t28_0 rfl) rfl rfl rfl ?_
    refine s_iload (pc1 := 49) (tk (n := 0) t28_1 rfl) rfl rfl rfl ?_
    refine s_callS0 (as := [(0, x2), (0, h.2 x3 x5)]) (st1 := []) (p1 := 52) (M2 := 314) (tk (n := 1) t28_1 rfl) rfl rfl rfl rfl rfl (fun r14 => ?_)
    refine s_istore_n (pc1 := 53) (ls1 := [(2, x0), (0, vx r10), (0, vx r14), (2, x3), (0, x4), (0, x5), (0, h.2 x3 x5)]) (tk (n := 2) t28_1 rfl) rfl rfl rfl rfl ?_
    refine s_iinc (pc1 := 56) (ls1 := [(2, x0), (0, vx r10), (0, vx r14), (2, x3), (0, x4), (0, w32 (x5 + 1)), (0, h.2 x3 x5)]) (tk (n := 3) t28_1 rfl) rfl rfl rfl rfl ?_
    refine s_goto (pc1 := 26) (tk (n := 4) t28_1 rfl) rfl rfl ?_
    rfl
set_option maxRecDepth 100000 in
set_option maxHeartbeats 4000000 in
theorem e_X4_packed_71 (x0 : Int) (x1 : Int) (x2 : Int) (x3 : Int) (x5 : Int) (z6 : Vl) (h : Hq) : vp 28 71 [(2, x0), (0, x1), (0, x2), (1, x3), (9, 0), (0, x5), z6] [] h = if x5 ≥ 16 then (some (some (1, x3), h)) else (if 0 < x0 ∧ (kd x0).1 = 4 then if (kd (h.2 x0 0)).1 = 20 ∧ 0 ≤ x5 ∧ x5 < (kd (h.2 x0 0)).2 then (vm 29 [(0, h.2 (h.2 x0 0) x5), (0, x1), (0, x2)] h).bind (fun r11 => vp 28 71 [(2, x0), (0, x1), (0, x2), (1, lbor x3 (lbshl (vx r11) (w32 (32 + (w32 (2 * x5)))))), (9, 0), (0, w32 (x5 + 1)), (9, 0)] [] r11.2) else none else none) := by
  refine s_fg (ls1 := [(2, x0), (0, x1), (0, x2), (1, x3), (9, 0), (0, x5), (9, 0)]) (tk (n := 15) t28_1 rfl) rfl ?_
  refine s_iload (pc1 := 73) (tk (n := 15) t28_1 rfl) rfl rfl rfl ?_
  refine s_bipush (pc1 := 75) (tk (n := 16) t28_1 rfl) rfl rfl  ?_
  refine s_ic_ge (pc1 := 78) (pt := 108) (tk (n := 17) t28_1 rfl) rfl rfl rfl ?_ ?_
  · refine s_lload_n (pc1 := 109) (tk (n := 7) t28_2 rfl) rfl rfl rfl ?_
    exact s_ret (tk (n := 8) t28_2 rfl) rfl rfl rfl
  · refine s_lload_n (pc1 := 79) (tk (n := 18) t28_1 rfl) rfl rfl rfl ?_
    refine s_aload_n (pc1 := 80) (tk (n := 19) t28_1 rfl) rfl rfl rfl ?_
    refine s_getf (pc1 := 83) (c := 4) (t1 := 2) (tk (n := 20) t28_1 rfl) rfl rfl (by decide) rfl rfl ?_
    refine s_iload (pc1 := 85) (tk (n := 21) t28_1 rfl) rfl rfl rfl ?_
    refine s_iald (pc1 := 86) (tk (n := 22) t28_1 rfl) rfl rfl  ?_
    refine s_iload_n (pc1 := 87) (tk (n := 23) t28_1 rfl) rfl rfl rfl ?_
    refine s_iload_n (pc1 := 88) (tk (n := 24) t28_1 rfl) rfl rfl rfl ?_
    refine s_callS0 (as := [(0, h.2 (h.2 x0 0) x5), (0, x1), (0, x2)]) (st1 := [(1, x3)]) (p1 := 91) (M2 := 29) (tk (n := 25) t28_1 rfl) rfl rfl rfl rfl rfl (fun r11 => ?_)
    refine s_i2l (pc1 := 92) (tk (n := 26) t28_1 rfl) rfl rfl  ?_
    refine s_bipush (pc1 := 94) (tk (n := 27) t28_1 rfl) rfl rfl  ?_
    refine s_iconst (pc1 := 95) (tk (n := 28) t28_1 rfl) rfl rfl  ?_
    refine s_iload (pc1 := 97) (tk (n := 29) t28_1 rfl) rfl rfl rfl ?_
    refine s_imul (pc1 := 98) (tk (n := 0) t28_2 rfl) rfl rfl  ?_
    refine s_iadd (pc1 := 99) (tk (n := 1) t28_2 rfl) rfl rfl  ?_
    refine s_lshl (pc1 := 100) (tk (n := 2) t28_2 rfl) rfl rfl  ?_
    refine s_lor (pc1 := 101) (tk (n := 3) t28_2 rfl) rfl rfl  ?_
    refine s_lstore_n (pc1 := 102) (ls1 := [(2, x0), (0, x1), (0, x2), (1, lbor x3 (lbshl (vx r11) (w32 (32 + (w32 (2 * x5)))))), (9, 0), (0, x5), (9, 0)]) (tk (n := 4) t28_2 rfl) rfl rfl rfl rfl ?_
    refine s_iinc (pc1 := 105) (ls1 := [(2, x0), (0, x1), (0, x2), (1, lbor x3 (lbshl (vx r11) (w32 (32 + (w32 (2 * x5)))))), (9, 0), (0, w32 (x5 + 1)), (9, 0)]) (tk (n := 5) t28_2 rfl) rfl rfl rfl rfl ?_
    refine s_goto (pc1 := 71) (tk (n := 6) t28_2 rfl) rfl rfl ?_
    rfl
set_option maxRecDepth 100000 in
set_option maxHeartbeats 4000000 in
theorem e_X4_nearestChoice (x0 : Int) (x1 : Int) (x2 : Int) (h : Hq) : vm 29 [(0, x0), (0, x1), (0, x2)] h = vp 29 5 [(0, x0), (0, x1), (0, x2), (0, 0), (0, 1)] [] h := by
  show vp 29 0 [(0, x0), (0, x1), (0, x2), (9, 0), (9, 0)] [] h = _
  refine s_iconst (pc1 := 1) (tk (n := 0) t29_0 rfl) rfl rfl  ?_
  refine s_istore_n (pc1 := 2) (ls1 := [(0, x0), (0, x1), (0, x2), (0, 0), (9, 0)]) (tk (n := 1) t29_0 rfl) rfl rfl rfl rfl ?_
  refine s_iconst (pc1 := 3) (tk (n := 2) t29_0 rfl) rfl rfl  ?_
  refine s_istore (pc1 := 5) (ls1 := [(0, x0), (0, x1), (0, x2), (0, 0), (0, 1)]) (tk (n := 3) t29_0 rfl) rfl rfl rfl rfl ?_
  rfl
set_option maxRecDepth 100000 in
set_option maxHeartbeats 4000000 in
theorem e_X4_nearestChoice_5 (x0 : Int) (x1 : Int) (x2 : Int) (x3 : Int) (x4 : Int) (h : Hq) : vp 29 5 [(0, x0), (0, x1), (0, x2), (0, x3), (0, x4)] [] h = if x4 ≥ 4 then (some (some (0, x3), h)) else ((vm 30 [(0, x1), (0, x2), (0, x4)] h).bind (fun r7 => (vm 312 [(0, w32 ((vx r7) - x0))] r7.2).bind (fun r10 => (vm 30 [(0, x1), (0, x2), (0, x3)] r10.2).bind (fun r14 => (vm 312 [(0, w32 ((vx r14) - x0))] r14.2).bind (fun r17 => if (vx r10) ≥ (vx r17) then (vp 29 5 [(0, x0), (0, x1), (0, x2), (0, x3), (0, w32 (x4 + 1))] [] r17.2) else (vp 29 5 [(0, x0), (0, x1), (0, x2), (0, x4), (0, w32 (x4 + 1))] [] r17.2)))))) := by
  refine s_iload (pc1 := 7) (tk (n := 4) t29_0 rfl) rfl rfl rfl ?_
  refine s_iconst (pc1 := 8) (tk (n := 5) t29_0 rfl) rfl rfl  ?_
  refine s_ic_ge (pc1 := 11) (pt := 46) (tk (n := 6) t29_0 rfl) rfl rfl rfl ?_ ?_
  · refine s_iload_n (pc1 := 47) (tk (n := 26) t29_0 rfl) rfl rfl rfl ?_
    exact s_ret (tk (n := 27) t29_0 rfl) rfl rfl rfl
  · refine s_iload_n (pc1 := 12) (tk (n := 7) t29_0 rfl) rfl rfl rfl ?_
    refine s_iload_n (pc1 := 13) (tk (n := 8) t29_0 rfl) rfl rfl rfl ?_
    refine s_iload (pc1 := 15) (tk (n := 9) t29_0 rfl) rfl rfl rfl ?_
    refine s_callS0 (as := [(0, x1), (0, x2), (0, x4)]) (st1 := []) (p1 := 18) (M2 := 30) (tk (n := 10) t29_0 rfl) rfl rfl rfl rfl rfl (fun r7 => ?_)
    refine s_iload_n (pc1 := 19) (tk (n := 11) t29_0 rfl) rfl rfl rfl ?_
    refine s_isub (pc1 := 20) (tk (n := 12) t29_0 rfl) rfl rfl  ?_
    refine s_callS0 (as := [(0, w32 ((vx r7) - x0))]) (st1 := []) (p1 := 23) (M2 := 312) (tk (n := 13) t29_0 rfl) rfl rfl rfl rfl rfl (fun r10 => ?_)
    refine s_iload_n (pc1 := 24) (tk (n := 14) t29_0 rfl) rfl rfl rfl ?_
    refine s_iload_n (pc1 := 25) (tk (n := 15) t29_0 rfl) rfl rfl rfl ?_
    refine s_iload_n (pc1 := 26) (tk (n := 16) t29_0 rfl) rfl rfl rfl ?_
    refine s_callS0 (as := [(0, x1), (0, x2), (0, x3)]) (st1 := [(0, vx r10)]) (p1 := 29) (M2 := 30) (tk (n := 17) t29_0 rfl) rfl rfl rfl rfl rfl (fun r14 => ?_)
    refine s_iload_n (pc1 := 30) (tk (n := 18) t29_0 rfl) rfl rfl rfl ?_
    refine s_isub (pc1 := 31) (tk (n := 19) t29_0 rfl) rfl rfl  ?_
    refine s_callS0 (as := [(0, w32 ((vx r14) - x0))]) (st1 := [(0, vx r10)]) (p1 := 34) (M2 := 312) (tk (n := 20) t29_0 rfl) rfl rfl rfl rfl rfl (fun r17 => ?_)
    refine s_ic_ge (pc1 := 37) (pt := 40) (tk (n := 21) t29_0 rfl) rfl rfl rfl ?_ ?_
    · refine s_iinc (pc1 := 43) (ls1 := [(0, x0), (0, x1), (0, x2), (0, x3), (0, w32 (x4 + 1))]) (tk (n := 24) t29_0 rfl) rfl rfl rfl rfl ?_
      refine s_goto (pc1 := 5) (tk (n := 25) t29_0 rfl) rfl rfl ?_
      rfl
    · refine s_iload (pc1 := 39) (tk (n := 22) t29_0 rfl) rfl rfl rfl ?_
      refine s_istore_n (pc1 := 40) (ls1 := [(0, x0), (0, x1), (0, x2), (0, x4), (0, x4)]) (tk (n := 23) t29_0 rfl) rfl rfl rfl rfl ?_
      refine s_iinc (pc1 := 43) (ls1 := [(0, x0), (0, x1), (0, x2), (0, x4), (0, w32 (x4 + 1))]) (tk (n := 24) t29_0 rfl) rfl rfl rfl rfl ?_
      refine s_goto (pc1 := 5) (tk (n := 25) t29_0 rfl) rfl rfl ?_
      rfl
set_option maxRecDepth 100000 in
set_option maxHeartbeats 4000000 in
theorem e_X4_chosen (x0 : Int) (x1 : Int) (x2 : Int) (h : Hq) : vm 30 [(0, x0), (0, x1), (0, x2)] h = if x2 = 0 then (some (some (0, x0), h)) else (if x2 = 1 then (some (some (0, x1), h)) else (if x2 = 2 then (if x0 ≤ x1 then (some (some (0, w32 ((w32 (x0 + x1)).tdiv 2)), h)) else (some (some (0, w32 ((w32 ((w32 (2 * x0)) + x1)).tdiv 3)), h))) else (if x0 ≤ x1 then (some (some (0, 0), h)) else (some (some (0, w32 ((w32 (x0 + (w32 (2 * x1)))).tdiv 3)), h))))) := by
  show vp 30 0 [(0, x0), (0, x1), (0, x2)] [] h = _
  refine s_iload_n (pc1 := 1) (tk (n := 0) t30_0 rfl) rfl rfl rfl ?_
  refine s_sw (x := x2) (cs := [(0, 28), (1, 30), (2, 32)]) (p0 := 53) (st1 := []) (tk (n := 1) t30_0 rfl) rfl rfl ?_
  refine s_swC (p1 := 28) rfl ?_ ?_
  · refine s_iload_n (pc1 := 29) (tk (n := 2) t30_0 rfl) rfl rfl rfl ?_
    exact s_ret (tk (n := 3) t30_0 rfl) rfl rfl rfl
  refine s_swC (p1 := 30) rfl ?_ ?_
  · refine s_iload_n (pc1 := 31) (tk (n := 4) t30_0 rfl) rfl rfl rfl ?_
    exact s_ret (tk (n := 5) t30_0 rfl) rfl rfl rfl
  refine s_swC (p1 := 32) rfl ?_ ?_
  · refine s_iload_n (pc1 := 33) (tk (n := 6) t30_0 rfl) rfl rfl rfl ?_
    refine s_iload_n (pc1 := 34) (tk (n := 7) t30_0 rfl) rfl rfl rfl ?_
    refine s_ic_le (pc1 := 37) (pt := 47) (tk (n := 8) t30_0 rfl) rfl rfl rfl ?_ ?_
    · refine s_iload_n (pc1 := 48) (tk (n := 17) t30_0 rfl) rfl rfl rfl ?_
      refine s_iload_n (pc1 := 49) (tk (n := 18) t30_0 rfl) rfl rfl rfl ?_
      refine s_iadd (pc1 := 50) (tk (n := 19) t30_0 rfl) rfl rfl  ?_
      refine s_iconst (pc1 := 51) (tk (n := 20) t30_0 rfl) rfl rfl  ?_
      refine s_idivc (pc1 := 52) (tk (n := 21) t30_0 rfl) rfl rfl (by decide) ?_
      exact s_ret (tk (n := 22) t30_0 rfl) rfl rfl rfl
    · refine s_iconst (pc1 := 38) (tk (n := 9) t30_0 rfl) rfl rfl  ?_
      refine s_iload_n (pc1 := 39) (tk (n := 10) t30_0 rfl) rfl rfl rfl ?_
      refine s_imul (pc1 := 40) (tk (n := 11) t30_0 rfl) rfl rfl  ?_
      refine s_iload_n (pc1 := 41) (tk (n := 12) t30_0 rfl) rfl rfl rfl ?_
      refine s_iadd (pc1 := 42) (tk (n := 13) t30_0 rfl) rfl rfl  ?_
      refine s_iconst (pc1 := 43) (tk (n := 14) t30_0 rfl) rfl rfl  ?_
      refine s_idivc (pc1 := 44) (tk (n := 15) t30_0 rfl) rfl rfl (by decide) ?_
      refine s_goto (pc1 := 52) (tk (n := 16) t30_0 rfl) rfl rfl ?_
      exact s_ret (tk (n := 22) t30_0 rfl) rfl rfl rfl
  refine s_swN (d1 := 53) rfl ?_
  refine s_iload_n (pc1 := 54) (tk (n := 23) t30_0 rfl) rfl rfl rfl ?_
  refine s_iload_n (pc1 := 55) (tk (n := 24) t30_0 rfl) rfl rfl rfl ?_
  refine s_ic_le (pc1 := 58) (pt := 68) (tk (n := 25) t30_0 rfl) rfl rfl rfl ?_ ?_
  · refine s_iconst (pc1 := 69) (tk (n := 4) t30_1 rfl) rfl rfl  ?_
    exact s_ret (tk (n := 5) t30_1 rfl) rfl rfl rfl
  · refine s_iload_n (pc1 := 59) (tk (n := 26) t30_0 rfl) rfl rfl rfl ?_
    refine s_iconst (pc1 := 60) (tk (n := 27) t30_0 rfl) rfl rfl  ?_
    refine s_iload_n (pc1 := 61) (tk (n := 28) t30_0 rfl) rfl rfl rfl ?_
    refine s_imul (pc1 := 62) (tk (n := 29) t30_0 rfl) rfl rfl  ?_
    refine s_iadd (pc1 := 63) (tk (n := 0) t30_1 rfl) rfl rfl  ?_
    refine s_iconst (pc1 := 64) (tk (n := 1) t30_1 rfl) rfl rfl  ?_
    refine s_idivc (pc1 := 65) (tk (n := 2) t30_1 rfl) rfl rfl (by decide) ?_
    refine s_goto (pc1 := 69) (tk (n := 3) t30_1 rfl) rfl rfl ?_
    exact s_ret (tk (n := 5) t30_1 rfl) rfl rfl rfl
set_option maxRecDepth 100000 in
set_option maxHeartbeats 4000000 in
theorem e_X4_unpacked (x0 : Int) (x2 : Int) (h : Hq) : vm 31 [(1, x0), (0, x2)] h = (vm 30 [(0, w32 (lband x0 65535)), (0, w32 (lband (lbshr x0 16) 65535)), (0, w32 (lband (lbshr x0 (w32 (32 + (w32 (2 * x2))))) 3))] h).bind (fun r25 => some (some (0, vx r25), r25.2)) := by
  show vp 31 0 [(1, x0), (9, 0), (0, x2), (9, 0), (9, 0)] [] h = _
  refine s_lload_n (pc1 := 1) (tk (n := 0) t31_0 rfl) rfl rfl rfl ?_
  refine s_ldc2 (pc1 := 4) (tk (n := 1) t31_0 rfl) rfl rfl  ?_
  refine s_land (pc1 := 5) (tk (n := 2) t31_0 rfl) rfl rfl  ?_
  refine s_l2i (pc1 := 6) (tk (n := 3) t31_0 rfl) rfl rfl  ?_
  refine s_istore_n (pc1 := 7) (ls1 := [(1, x0), (9, 0), (0, x2), (0, w32 (lband x0 65535)), (9, 0)]) (tk (n := 4) t31_0 rfl) rfl rfl rfl rfl ?_
  refine s_lload_n (pc1 := 8) (tk (n := 5) t31_0 rfl) rfl rfl rfl ?_
  refine s_bipush (pc1 := 10) (tk (n := 6) t31_0 rfl) rfl rfl  ?_
  refine s_lshr (pc1 := 11) (tk (n := 7) t31_0 rfl) rfl rfl  ?_
  refine s_ldc2 (pc1 := 14) (tk (n := 8) t31_0 rfl) rfl rfl  ?_
  refine s_land (pc1 := 15) (tk (n := 9) t31_0 rfl) rfl rfl  ?_
  refine s_l2i (pc1 := 16) (tk (n := 10) t31_0 rfl) rfl rfl  ?_
  refine s_istore (pc1 := 18) (ls1 := [(1, x0), (9, 0), (0, x2), (0, w32 (lband x0 65535)), (0, w32 (lband (lbshr x0 16) 65535))]) (tk (n := 11) t31_0 rfl) rfl rfl rfl rfl ?_
  refine s_iload_n (pc1 := 19) (tk (n := 12) t31_0 rfl) rfl rfl rfl ?_
  refine s_iload (pc1 := 21) (tk (n := 13) t31_0 rfl) rfl rfl rfl ?_
  refine s_lload_n (pc1 := 22) (tk (n := 14) t31_0 rfl) rfl rfl rfl ?_
  refine s_bipush (pc1 := 24) (tk (n := 15) t31_0 rfl) rfl rfl  ?_
  refine s_iconst (pc1 := 25) (tk (n := 16) t31_0 rfl) rfl rfl  ?_
  refine s_iload_n (pc1 := 26) (tk (n := 17) t31_0 rfl) rfl rfl rfl ?_
  refine s_imul (pc1 := 27) (tk (n := 18) t31_0 rfl) rfl rfl  ?_
  refine s_iadd (pc1 := 28) (tk (n := 19) t31_0 rfl) rfl rfl  ?_
  refine s_lshr (pc1 := 29) (tk (n := 20) t31_0 rfl) rfl rfl  ?_
  refine s_ldc2 (pc1 := 32) (tk (n := 21) t31_0 rfl) rfl rfl  ?_
  refine s_land (pc1 := 33) (tk (n := 22) t31_0 rfl) rfl rfl  ?_
  refine s_l2i (pc1 := 34) (tk (n := 23) t31_0 rfl) rfl rfl  ?_
  refine s_callS0 (as := [(0, w32 (lband x0 65535)), (0, w32 (lband (lbshr x0 16) 65535)), (0, w32 (lband (lbshr x0 (w32 (32 + (w32 (2 * x2))))) 3))]) (st1 := []) (p1 := 37) (M2 := 30) (tk (n := 24) t31_0 rfl) rfl rfl rfl rfl rfl (fun r25 => ?_)
  exact s_ret (tk (n := 25) t31_0 rfl) rfl rfl rfl
set_option maxRecDepth 100000 in
set_option maxHeartbeats 4000000 in
theorem e_X4_distanceTo (x0 : Int) (x1 : Int) (h : Hq) : vm 32 [(2, x0), (1, x1)] h = vp 32 5 [(2, x0), (1, x1), (9, 0), (0, 0), (0, 0)] [] h := by
  show vp 32 0 [(2, x0), (1, x1), (9, 0), (9, 0), (9, 0)] [] h = _
  refine s_iconst (pc1 := 1) (tk (n := 0) t32_0 rfl) rfl rfl  ?_
  refine s_istore_n (pc1 := 2) (ls1 := [(2, x0), (1, x1), (9, 0), (0, 0), (9, 0)]) (tk (n := 1) t32_0 rfl) rfl rfl rfl rfl ?_
  refine s_iconst (pc1 := 3) (tk (n := 2) t32_0 rfl) rfl rfl  ?_
  refine s_istore (pc1 := 5) (ls1 := [(2, x0), (1, x1), (9, 0), (0, 0), (0, 0)]) (tk (n := 3) t32_0 rfl) rfl rfl rfl rfl ?_
  rfl
set_option maxRecDepth 100000 in
set_option maxHeartbeats 4000000 in
theorem e_X4_distanceTo_5 (x0 : Int) (x1 : Int) (x3 : Int) (x4 : Int) (h : Hq) : vp 32 5 [(2, x0), (1, x1), (9, 0), (0, x3), (0, x4)] [] h = if x4 ≥ 16 then (some (some (0, x3), h)) else (if 0 < x0 ∧ (kd x0).1 = 4 then if (kd (h.2 x0 0)).1 = 20 ∧ 0 ≤ x4 ∧ x4 < (kd (h.2 x0 0)).2 then (vm 31 [(1, x1), (0, x4)] h).bind (fun r11 => (vm 312 [(0, w32 ((h.2 (h.2 x0 0) x4) - (vx r11)))] r11.2).bind (fun r13 => vp 32 5 [(2, x0), (1, x1), (9, 0), (0, w32 (x3 + (vx r13))), (0, w32 (x4 + 1))] [] r13.2)) else none else none) := by
  refine s_iload (pc1 := 7) (tk (n := 4) t32_0 rfl) rfl rfl rfl ?_
  refine s_bipush (pc1 := 9) (tk (n := 5) t32_0 rfl) rfl rfl  ?_
  refine s_ic_ge (pc1 := 12) (pt := 38) (tk (n := 6) t32_0 rfl) rfl rfl rfl ?_ ?_
  · refine s_iload_n (pc1 := 39) (tk (n := 21) t32_0 rfl) rfl rfl rfl ?_
    exact s_ret (tk (n := 22) t32_0 rfl) rfl rfl rfl
  · refine s_iload_n (pc1 := 13) (tk (n := 7) t32_0 rfl) rfl rfl rfl ?_
    refine s_aload_n (pc1 := 14) (tk (n := 8) t32_0 rfl) rfl rfl rfl ?_
    refine s_getf (pc1 := 17) (c := 4) (t1 := 2) (tk (n := 9) t32_0 rfl) rfl rfl (by decide) rfl rfl ?_
    refine s_iload (pc1 := 19) (tk (n := 10) t32_0 rfl) rfl rfl rfl ?_
    refine s_iald (pc1 := 20) (tk (n := 11) t32_0 rfl) rfl rfl  ?_
    refine s_lload_n (pc1 := 21) (tk (n := 12) t32_0 rfl) rfl rfl rfl ?_
    refine s_iload (pc1 := 23) (tk (n := 13) t32_0 rfl) rfl rfl rfl ?_
    refine s_callS0 (as := [(1, x1), (0, x4)]) (st1 := [(0, h.2 (h.2 x0 0) x4), (0, x3)]) (p1 := 26) (M2 := 31) (tk (n := 14) t32_0 rfl) rfl rfl rfl rfl rfl (fun r11 => ?_)
    refine s_isub (pc1 := 27) (tk (n := 15) t32_0 rfl) rfl rfl  ?_
    refine s_callS0 (as := [(0, w32 ((h.2 (h.2 x0 0) x4) - (vx r11)))]) (st1 := [(0, x3)]) (p1 := 30) (M2 := 312) (tk (n := 16) t32_0 rfl) rfl rfl rfl rfl rfl (fun r13 => ?_)
    refine s_iadd (pc1 := 31) (tk (n := 17) t32_0 rfl) rfl rfl  ?_
    refine s_istore_n (pc1 := 32) (ls1 := [(2, x0), (1, x1), (9, 0), (0, w32 (x3 + (vx r13))), (0, x4)]) (tk (n := 18) t32_0 rfl) rfl rfl rfl rfl ?_
    refine s_iinc (pc1 := 35) (ls1 := [(2, x0), (1, x1), (9, 0), (0, w32 (x3 + (vx r13))), (0, w32 (x4 + 1))]) (tk (n := 19) t32_0 rfl) rfl rfl rfl rfl ?_
    refine s_goto (pc1 := 5) (tk (n := 20) t32_0 rfl) rfl rfl ?_
    rfl
set_option maxRecDepth 100000 in
set_option maxHeartbeats 4000000 in
theorem e_X5_init (x0 : Int) (x1 : Int) (h : Hq) : vm 33 [(2, x0), (2, x1)] h = if 0 < x0 then if (kd h.1).1 = 23 ∧ (kd h.1).2 = (6 : Int) ∧ 0 ≤ (6 : Int) ∧ (6 : Int) ≤ 1000000 then if (0 < x0 ∧ (kd x0).1 = 5) ∧ True then if (kd (h.1 + 1)).1 = 20 ∧ (kd (h.1 + 1)).2 = (6 : Int) ∧ 0 ≤ (6 : Int) ∧ (6 : Int) ≤ 1000000 then if (0 < x0 ∧ (kd x0).1 = 5) ∧ True then if (kd ((h.1 + 1) + 1)).1 = 20 ∧ (kd ((h.1 + 1) + 1)).2 = (6 : Int) ∧ 0 ≤ (6 : Int) ∧ (6 : Int) ≤ 1000000 then if (0 < x0 ∧ (kd x0).1 = 5) ∧ True then if (kd (((h.1 + 1) + 1) + 1)).1 = 25 ∧ (kd (((h.1 + 1) + 1) + 1)).2 = (4 : Int) ∧ 0 ≤ (4 : Int) ∧ (4 : Int) ≤ 1000000 then if (0 < x0 ∧ (kd x0).1 = 5) ∧ True then if (kd ((((h.1 + 1) + 1) + 1) + 1)).1 = 20 ∧ (kd ((((h.1 + 1) + 1) + 1) + 1)).2 = (300 : Int) ∧ 0 ≤ (300 : Int) ∧ (300 : Int) ≤ 1000000 then if (0 < x0 ∧ (kd x0).1 = 5) ∧ True then vp 33 47 [(2, x0), (2, x1), (0, 0)] [] (((((h.1 + 1) + 1) + 1) + 1) + 1, stm (stm (stm (stm (stm h.2 x0 0 h.1) x0 1 (h.1 + 1)) x0 2 ((h.1 + 1) + 1)) x0 3 (((h.1 + 1) + 1) + 1)) x0 4 ((((h.1 + 1) + 1) + 1) + 1)) else none else none else none else none else none else none else none else none else none else none else none := by
  show vp 33 0 [(2, x0), (2, x1), (9, 0)] [] h = _
  refine s_aload_n (pc1 := 1) (tk (n := 0) t33_0 rfl) rfl rfl rfl ?_
  refine s_oini (pc1 := 4) (tk (n := 1) t33_0 rfl) rfl rfl rfl ?_
  refine s_aload_n (pc1 := 5) (tk (n := 2) t33_0 rfl) rfl rfl rfl ?_
  refine s_bipush (pc1 := 7) (tk (n := 3) t33_0 rfl) rfl rfl  ?_
  refine s_newa (pc1 := 9) (c := 23) (tk (n := 4) t33_0 rfl) rfl rfl rfl ?_
  refine s_putf2 (pc1 := 12) (c := 5) (tk (n := 5) t33_0 rfl) rfl rfl rfl rfl rfl ?_
  refine s_aload_n (pc1 := 13) (tk (n := 6) t33_0 rfl) rfl rfl rfl ?_
  refine s_bipush (pc1 := 15) (tk (n := 7) t33_0 rfl) rfl rfl  ?_
  refine s_newa (pc1 := 17) (c := 20) (tk (n := 8) t33_0 rfl) rfl rfl rfl ?_
  refine s_putf2 (pc1 := 20) (c := 5) (tk (n := 9) t33_0 rfl) rfl rfl rfl rfl rfl ?_
  refine s_aload_n (pc1 := 21) (tk (n := 10) t33_0 rfl) rfl rfl rfl ?_
  refine s_bipush (pc1 := 23) (tk (n := 11) t33_0 rfl) rfl rfl  ?_
  refine s_newa (pc1 := 25) (c := 20) (tk (n := 12) t33_0 rfl) rfl rfl rfl ?_
  refine s_putf2 (pc1 := 28) (c := 5) (tk (n := 13) t33_0 rfl) rfl rfl rfl rfl rfl ?_
  refine s_aload_n (pc1 := 29) (tk (n := 14) t33_0 rfl) rfl rfl rfl ?_
  refine s_iconst (pc1 := 30) (tk (n := 15) t33_0 rfl) rfl rfl  ?_
  refine s_anew (pc1 := 33) (c := 25) (tk (n := 16) t33_0 rfl) rfl rfl rfl ?_
  refine s_putf2 (pc1 := 36) (c := 5) (tk (n := 17) t33_0 rfl) rfl rfl rfl rfl rfl ?_
  refine s_aload_n (pc1 := 37) (tk (n := 18) t33_0 rfl) rfl rfl rfl ?_
  refine s_sipush (pc1 := 40) (tk (n := 19) t33_0 rfl) rfl rfl  ?_
  refine s_newa (pc1 := 42) (c := 20) (tk (n := 20) t33_0 rfl) rfl rfl rfl ?_
  refine s_putf2 (pc1 := 45) (c := 5) (tk (n := 21) t33_0 rfl) rfl rfl rfl rfl rfl ?_
  refine s_iconst (pc1 := 46) (tk (n := 22) t33_0 rfl) rfl rfl  ?_
  refine s_istore_n (pc1 := 47) (ls1 := [(2, x0), (2, x1), (0, 0)]) (tk (n := 23) t33_0 rfl) rfl rfl rfl rfl ?_
  rfl
set_option maxRecDepth 100000 in
set_option maxHeartbeats 4000000 in
theorem e_X5_init_47 (x0 : Int) (x1 : Int) (x2 : Int) (h : Hq) : vp 33 47 [(2, x0), (2, x1), (0, x2)] [] h = if x2 ≥ 4 then (some (none, h)) else (if 0 < x0 ∧ (kd x0).1 = 5 then if (kd h.1).1 = 10 then if 0 < h.1 ∧ (kd h.1).1 = 10 then (vm 82 [(2, h.1), (2, x1)] (h.1 + 1, h.2)).bind (fun r10 => if 0 < (h.2 x0 3) ∧ (kd (h.2 x0 3)).1 = 25 ∧ (0 ≤ x2 ∧ x2 < (kd (h.2 x0 3)).2) ∧ 0 < h.1 ∧ (kd h.1).1 = 10 then vp 33 47 [(2, x0), (2, x1), (0, w32 (x2 + 1))] [] (r10.2.1, stm r10.2.2 (h.2 x0 3) x2 h.1) else none) else none else none else none) := by
  refine s_iload_n (pc1 := 48) (tk (n := 24) t33_0 rfl) rfl rfl rfl ?_
  refine s_iconst (pc1 := 49) (tk (n := 25) t33_0 rfl) rfl rfl  ?_
  refine s_ic_ge (pc1 := 52) (pt := 72) (tk (n := 26) t33_0 rfl) rfl rfl rfl ?_ ?_
  · exact s_ret (tk (n := 7) t33_1 rfl) rfl rfl rfl
  · refine s_aload_n (pc1 := 53) (tk (n := 27) t33_0 rfl) rfl rfl rfl ?_
    refine s_getf (pc1 := 56) (c := 5) (t1 := 2) (tk (n := 28) t33_0 rfl) rfl rfl (by decide) rfl rfl ?_
    refine s_iload_n (pc1 := 57) (tk (n := 29) t33_0 rfl) rfl rfl rfl ?_
    refine s_new (pc1 := 60) (c := 10) (tk (n := 0) t33_1 rfl) rfl rfl rfl ?_
    refine s_dup2 (pc1 := 61) (tk (n := 1) t33_1 rfl) rfl rfl  ?_
    refine s_aload_n (pc1 := 62) (tk (n := 2) t33_1 rfl) rfl rfl rfl ?_
    refine s_call9 (as := [(2, h.1), (2, x1)]) (st1 := [(2, h.1), (0, x2), (2, h.2 x0 3)]) (p1 := 65) (M2 := 82) (tk (n := 3) t33_1 rfl) rfl rfl rfl rfl rfl (fun r10 => ?_)
    refine s_aast25 (pc1 := 66) (tk (n := 4) t33_1 rfl) rfl rfl  ?_
    refine s_iinc (pc1 := 69) (ls1 := [(2, x0), (2, x1), (0, w32 (x2 + 1))]) (tk (n := 5) t33_1 rfl) rfl rfl rfl rfl ?_
    refine s_goto (pc1 := 47) (tk (n := 6) t33_1 rfl) rfl rfl ?_
    rfl
set_option maxRecDepth 100000 in
set_option maxHeartbeats 4000000 in
theorem e_X5_clear (x0 : Int) (h : Hq) : vm 34 [(2, x0)] h = if (0 < x0 ∧ (kd x0).1 = 5) ∧ True then if (0 < x0 ∧ (kd x0).1 = 5) ∧ True then if (0 < x0 ∧ (kd x0).1 = 5) ∧ True then if (0 < x0 ∧ (kd x0).1 = 5) ∧ ((0 : Int) = 0 ∨ (0 : Int) = 1) then if (0 < x0 ∧ (kd x0).1 = 5) ∧ True then if (0 < x0 ∧ (kd x0).1 = 5) ∧ True then if (0 < x0 ∧ (kd x0).1 = 5) ∧ True then some (none, (h.1, stm (stm (stm (stm (stm (stm (stm h.2 x0 5 0) x0 6 0) x0 7 0) x0 8 0) x0 9 4) x0 10 2) x0 11 4)) else none else none else none else none else none else none else none := by
  show vp 34 0 [(2, x0)] [] h = _
  refine s_aload_n (pc1 := 1) (tk (n := 0) t34_0 rfl) rfl rfl rfl ?_
  refine s_iconst (pc1 := 2) (tk (n := 1) t34_0 rfl) rfl rfl  ?_
  refine s_putf0 (pc1 := 5) (c := 5) (tk (n := 2) t34_0 rfl) rfl rfl rfl rfl rfl ?_
  refine s_aload_n (pc1 := 6) (tk (n := 3) t34_0 rfl) rfl rfl rfl ?_
  refine s_iconst (pc1 := 7) (tk (n := 4) t34_0 rfl) rfl rfl  ?_
  refine s_putf0 (pc1 := 10) (c := 5) (tk (n := 5) t34_0 rfl) rfl rfl rfl rfl rfl ?_
  refine s_aload_n (pc1 := 11) (tk (n := 6) t34_0 rfl) rfl rfl rfl ?_
  refine s_iconst (pc1 := 12) (tk (n := 7) t34_0 rfl) rfl rfl  ?_
  refine s_putf0 (pc1 := 15) (c := 5) (tk (n := 8) t34_0 rfl) rfl rfl rfl rfl rfl ?_
  refine s_aload_n (pc1 := 16) (tk (n := 9) t34_0 rfl) rfl rfl rfl ?_
  refine s_iconst (pc1 := 17) (tk (n := 10) t34_0 rfl) rfl rfl  ?_
  refine s_putfZ (pc1 := 20) (c := 5) (tk (n := 11) t34_0 rfl) rfl rfl rfl ?_
  refine s_aload_n (pc1 := 21) (tk (n := 12) t34_0 rfl) rfl rfl rfl ?_
  refine s_iconst (pc1 := 22) (tk (n := 13) t34_0 rfl) rfl rfl  ?_
  refine s_putf0 (pc1 := 25) (c := 5) (tk (n := 14) t34_0 rfl) rfl rfl rfl rfl rfl ?_
  refine s_aload_n (pc1 := 26) (tk (n := 15) t34_0 rfl) rfl rfl rfl ?_
  refine s_iconst (pc1 := 27) (tk (n := 16) t34_0 rfl) rfl rfl  ?_
  refine s_putf0 (pc1 := 30) (c := 5) (tk (n := 17) t34_0 rfl) rfl rfl rfl rfl rfl ?_
  refine s_aload_n (pc1 := 31) (tk (n := 18) t34_0 rfl) rfl rfl rfl ?_
  refine s_iconst (pc1 := 32) (tk (n := 19) t34_0 rfl) rfl rfl  ?_
  refine s_putf0 (pc1 := 35) (c := 5) (tk (n := 20) t34_0 rfl) rfl rfl rfl rfl rfl ?_
  exact s_ret (tk (n := 21) t34_0 rfl) rfl rfl rfl
set_option maxRecDepth 100000 in
set_option maxHeartbeats 4000000 in
theorem e_X5_addStore (x0 : Int) (x1 : Int) (x3 : Int) (x4 : Int) (h : Hq) : vm 35 [(2, x0), (1, x1), (0, x3), (0, x4)] h = if 0 < x0 ∧ (kd x0).1 = 5 then if (h.2 x0 5) ≥ 6 then (some (none, h)) else (if 0 < x0 ∧ (kd x0).1 = 5 then if 0 < x0 ∧ (kd x0).1 = 5 then if 0 < (h.2 x0 0) ∧ (kd (h.2 x0 0)).1 = 23 ∧ 0 ≤ (h.2 x0 5) ∧ (h.2 x0 5) < (kd (h.2 x0 0)).2 then if 0 < x0 ∧ (kd x0).1 = 5 then if 0 < x0 ∧ (kd x0).1 = 5 then if 0 < ((stm h.2 (h.2 x0 0) (h.2 x0 5) x1) x0 1) ∧ (kd ((stm h.2 (h.2 x0 0) (h.2 x0 5) x1) x0 1)).1 = 20 ∧ 0 ≤ ((stm h.2 (h.2 x0 0) (h.2 x0 5) x1) x0 5) ∧ ((stm h.2 (h.2 x0 0) (h.2 x0 5) x1) x0 5) < (kd ((stm h.2 (h.2 x0 0) (h.2 x0 5) x1) x0 1)).2 then if 0 < x0 ∧ (kd x0).1 = 5 then if 0 < x0 ∧ (kd x0).1 = 5 then if 0 < ((stm (stm h.2 (h.2 x0 0) (h.2 x0 5) x1) ((stm h.2 (h.2 x0 0) (h.2 x0 5) x1) x0 1) ((stm h.2 (h.2 x0 0) (h.2 x0 5) x1) x0 5) x3) x0 2) ∧ (kd ((stm (stm h.2 (h.2 x0 0) (h.2 x0 5) x1) ((stm h.2 (h.2 x0 0) (h.2 x0 5) x1) x0 1) ((stm h.2 (h.2 x0 0) (h.2 x0 5) x1) x0 5) x3) x0 2)).1 = 20 ∧ 0 ≤ ((stm (stm h.2 (h.2 x0 0) (h.2 x0 5) x1) ((stm h.2 (h.2 x0 0) (h.2 x0 5) x1) x0 1) ((stm h.2 (h.2 x0 0) (h.2 x0 5) x1) x0 5) x3) x0 5) ∧ ((stm (stm h.2 (h.2 x0 0) (h.2 x0 5) x1) ((stm h.2 (h.2 x0 0) (h.2 x0 5) x1) x0 1) ((stm h.2 (h.2 x0 0) (h.2 x0 5) x1) x0 5) x3) x0 5) < (kd ((stm (stm h.2 (h.2 x0 0) (h.2 x0 5) x1) ((stm h.2 (h.2 x0 0) (h.2 x0 5) x1) x0 1) ((stm h.2 (h.2 x0 0) (h.2 x0 5) x1) x0 5) x3) x0 2)).2 then if 0 < x0 ∧ (kd x0).1 = 5 then if (0 < x0 ∧ (kd x0).1 = 5) ∧ True then some (none, (h.1, stm (stm (stm (stm h.2 (h.2 x0 0) (h.2 x0 5) x1) ((stm h.2 (h.2 x0 0) (h.2 x0 5) x1) x0 1) ((stm h.2 (h.2 x0 0) (h.2 x0 5) x1) x0 5) x3) ((stm (stm h.2 (h.2 x0 0) (h.2 x0 5) x1) ((stm h.2 (h.2 x0 0) (h.2 x0 5) x1) x0 1) ((stm h.2 (h.2 x0 0) (h.2 x0 5) x1) x0 5) x3) x0 2) ((stm (stm h.2 (h.2 x0 0) (h.2 x0 5) x1) ((stm h.2 (h.2 x0 0) (h.2 x0 5) x1) x0 1) ((stm h.2 (h.2 x0 0) (h.2 x0 5) x1) x0 5) x3) x0 5) x4) x0 5 (w32 (((stm (stm (stm h.2 (h.2 x0 0) (h.2 x0 5) x1) ((stm h.2 (h.2 x0 0) (h.2 x0 5) x1) x0 1) ((stm h.2 (h.2 x0 0) (h.2 x0 5) x1) x0 5) x3) ((stm (stm h.2 (h.2 x0 0) (h.2 x0 5) x1) ((stm h.2 (h.2 x0 0) (h.2 x0 5) x1) x0 1) ((stm h.2 (h.2 x0 0) (h.2 x0 5) x1) x0 5) x3) x0 2) ((stm (stm h.2 (h.2 x0 0) (h.2 x0 5) x1) ((stm h.2 (h.2 x0 0) (h.2 x0 5) x1) x0 1) ((stm h.2 (h.2 x0 0) (h.2 x0 5) x1) x0 5) x3) x0 5) x4) x0 5) + 1)))) else none else none else none else none else none else none else none else none else none else none else none) else none := by
  show vp 35 0 [(2, x0), (1, x1), (9, 0), (0, x3), (0, x4)] [] h = _
  refine s_aload_n (pc1 := 1) (tk (n := 0) t35_0 rfl) rfl rfl rfl ?_
  refine s_getf (pc1 := 4) (c := 5) (t1 := 0) (tk (n := 1) t35_0 rfl) rfl rfl (by decide) rfl rfl ?_
  refine s_bipush (pc1 := 6) (tk (n := 2) t35_0 rfl) rfl rfl  ?_
  refine s_ic_ge (pc1 := 9) (pt := 50) (tk (n := 3) t35_0 rfl) rfl rfl rfl ?_ ?_
  · exact s_ret (tk (n := 28) t35_0 rfl) rfl rfl rfl
  · refine s_aload_n (pc1 := 10) (tk (n := 4) t35_0 rfl) rfl rfl rfl ?_
    refine s_getf (pc1 := 13) (c := 5) (t1 := 2) (tk (n := 5) t35_0 rfl) rfl rfl (by decide) rfl rfl ?_
    refine s_aload_n (pc1 := 14) (tk (n := 6) t35_0 rfl) rfl rfl rfl ?_
    refine s_getf (pc1 := 17) (c := 5) (t1 := 0) (tk (n := 7) t35_0 rfl) rfl rfl (by decide) rfl rfl ?_
    refine s_lload_n (pc1 := 18) (tk (n := 8) t35_0 rfl) rfl rfl rfl ?_
    refine s_last (pc1 := 19) (tk (n := 9) t35_0 rfl) rfl rfl  ?_
    refine s_aload_n (pc1 := 20) (tk (n := 10) t35_0 rfl) rfl rfl rfl ?_
    refine s_getf (pc1 := 23) (c := 5) (t1 := 2) (tk (n := 11) t35_0 rfl) rfl rfl (by decide) rfl rfl ?_
    refine s_aload_n (pc1 := 24) (tk (n := 12) t35_0 rfl) rfl rfl rfl ?_
    refine s_getf (pc1 := 27) (c := 5) (t1 := 0) (tk (n := 13) t35_0 rfl) rfl rfl (by decide) rfl rfl ?_
    refine s_iload_n (pc1 := 28) (tk (n := 14) t35_0 rfl) rfl rfl rfl ?_
    refine s_iast (pc1 := 29) (tk (n := 15) t35_0 rfl) rfl rfl  ?_
    refine s_aload_n (pc1 := 30) (tk (n := 16) t35_0 rfl) rfl rfl rfl ?_
    refine s_getf (pc1 := 33) (c := 5) (t1 := 2) (tk (n := 17) t35_0 rfl) rfl rfl (by decide) rfl rfl ?_
    refine s_aload_n (pc1 := 34) (tk (n := 18) t35_0 rfl) rfl rfl rfl ?_
    refine s_getf (pc1 := 37) (c := 5) (t1 := 0) (tk (n := 19) t35_0 rfl) rfl rfl (by decide) rfl rfl ?_
    refine s_iload (pc1 := 39) (tk (n := 20) t35_0 rfl) rfl rfl rfl ?_
    refine s_iast (pc1 := 40) (tk (n := 21) t35_0 rfl) rfl rfl  ?_
    refine s_aload_n (pc1 := 41) (tk (n := 22) t35_0 rfl) rfl rfl rfl ?_
    refine s_dup2 (pc1 := 42) (tk (n := 23) t35_0 rfl) rfl rfl  ?_
    refine s_getf (pc1 := 45) (c := 5) (t1 := 0) (tk (n := 24) t35_0 rfl) rfl rfl (by decide) rfl rfl ?_
    refine s_iconst (pc1 := 46) (tk (n := 25) t35_0 rfl) rfl rfl  ?_
    refine s_iadd (pc1 := 47) (tk (n := 26) t35_0 rfl) rfl rfl  ?_
    refine s_putf0 (pc1 := 50) (c := 5) (tk (n := 27) t35_0 rfl) rfl rfl rfl rfl rfl ?_
    exact s_ret (tk (n := 28) t35_0 rfl) rfl rfl rfl
set_option maxRecDepth 100000 in
set_option maxHeartbeats 4000000 in
theorem e_X5_storeNamed (x0 : Int) (x1 : Int) (h : Hq) : vm 36 [(2, x0), (1, x1)] h = vp 36 2 [(2, x0), (1, x1), (9, 0), (0, 0)] [] h := by
  show vp 36 0 [(2, x0), (1, x1), (9, 0), (9, 0)] [] h = _
  refine s_iconst (pc1 := 1) (tk (n := 0) t36_0 rfl) rfl rfl  ?_
  refine s_istore_n (pc1 := 2) (ls1 := [(2, x0), (1, x1), (9, 0), (0, 0)]) (tk (n := 1) t36_0 rfl) rfl rfl rfl rfl ?_
  rfl
set_option maxRecDepth 100000 in
set_option maxHeartbeats 4000000 in
theorem e_X5_storeNamed_2 (x0 : Int) (x1 : Int) (x3 : Int) (h : Hq) : vp 36 2 [(2, x0), (1, x1), (9, 0), (0, x3)] [] h = if 0 < x0 ∧ (kd x0).1 = 5 then if x3 ≥ (h.2 x0 5) then (some (some (0, (-1)), h)) else (if 0 < x0 ∧ (kd x0).1 = 5 then if (kd (h.2 x0 0)).1 = 23 ∧ 0 ≤ x3 ∧ x3 < (kd (h.2 x0 0)).2 then if (if (h.2 (h.2 x0 0) x3) < x1 then -1 else if (h.2 (h.2 x0 0) x3) = x1 then 0 else 1) ≠ 0 then (vp 36 2 [(2, x0), (1, x1), (9, 0), (0, w32 (x3 + 1))] [] h) else (some (some (0, x3), h)) else none else none) else none := by
  refine s_iload_n (pc1 := 3) (tk (n := 2) t36_0 rfl) rfl rfl rfl ?_
  refine s_aload_n (pc1 := 4) (tk (n := 3) t36_0 rfl) rfl rfl rfl ?_
  refine s_getf (pc1 := 7) (c := 5) (t1 := 0) (tk (n := 4) t36_0 rfl) rfl rfl (by decide) rfl rfl ?_
  refine s_ic_ge (pc1 := 10) (pt := 29) (tk (n := 5) t36_0 rfl) rfl rfl rfl ?_ ?_
  · refine s_iconst (pc1 := 30) (tk (n := 17) t36_0 rfl) rfl rfl  ?_
    exact s_ret (tk (n := 18) t36_0 rfl) rfl rfl rfl
  · refine s_aload_n (pc1 := 11) (tk (n := 6) t36_0 rfl) rfl rfl rfl ?_
    refine s_getf (pc1 := 14) (c := 5) (t1 := 2) (tk (n := 7) t36_0 rfl) rfl rfl (by decide) rfl rfl ?_
    refine s_iload_n (pc1 := 15) (tk (n := 8) t36_0 rfl) rfl rfl rfl ?_
    refine s_lald (pc1 := 16) (tk (n := 9) t36_0 rfl) rfl rfl  ?_
    refine s_lload_n (pc1 := 17) (tk (n := 10) t36_0 rfl) rfl rfl rfl ?_
    refine s_lcmp (pc1 := 18) (tk (n := 11) t36_0 rfl) rfl rfl  ?_
    refine s_if_ne (pc1 := 21) (pt := 23) (tk (n := 12) t36_0 rfl) rfl rfl rfl ?_ ?_
    · refine s_iinc (pc1 := 26) (ls1 := [(2, x0), (1, x1), (9, 0), (0, w32 (x3 + 1))]) (tk (n := 15) t36_0 rfl) rfl rfl rfl rfl ?_
      refine s_goto (pc1 := 2) (tk (n := 16) t36_0 rfl) rfl rfl ?_
      rfl
    · refine s_iload_n (pc1 := 22) (tk (n := 13) t36_0 rfl) rfl rfl rfl ?_
      exact s_ret (tk (n := 14) t36_0 rfl) rfl rfl rfl
set_option maxRecDepth 100000 in
set_option maxHeartbeats 4000000 in
theorem e_X5_textureNamed (x0 : Int) (x1 : Int) (h : Hq) : vm 37 [(2, x0), (1, x1)] h = vp 37 2 [(2, x0), (1, x1), (9, 0), (0, 0)] [] h := by
  show vp 37 0 [(2, x0), (1, x1), (9, 0), (9, 0)] [] h = _
  refine s_iconst (pc1 := 1) (tk (n := 0) t37_0 rfl) rfl rfl  ?_
  refine s_istore_n (pc1 := 2) (ls1 := [(2, x0), (1, x1), (9, 0), (0, 0)]) (tk (n := 1) t37_0 rfl) rfl rfl rfl rfl ?_
  rfl
set_option maxRecDepth 100000 in
set_option maxHeartbeats 4000000 in
theorem e_X5_textureNamed_2 (x0 : Int) (x1 : Int) (x3 : Int) (h : Hq) : vp 37 2 [(2, x0), (1, x1), (9, 0), (0, x3)] [] h = if 0 < x0 ∧ (kd x0).1 = 5 then if x3 ≥ (h.2 x0 6) then (some (some (0, (-1)), h)) else (if 0 < x0 ∧ (kd x0).1 = 5 then if (kd (h.2 x0 3)).1 = 25 ∧ 0 ≤ x3 ∧ x3 < (kd (h.2 x0 3)).2 then if 0 < (h.2 (h.2 x0 3) x3) ∧ (kd (h.2 (h.2 x0 3) x3)).1 = 10 then if (if (h.2 (h.2 (h.2 x0 3) x3) 3) < x1 then -1 else if (h.2 (h.2 (h.2 x0 3) x3) 3) = x1 then 0 else 1) ≠ 0 then (vp 37 2 [(2, x0), (1, x1), (9, 0), (0, w32 (x3 + 1))] [] h) else (some (some (0, x3), h)) else none else none else none) else none := by
  refine s_iload_n (pc1 := 3) (tk (n := 2) t37_0 rfl) rfl rfl rfl ?_
  refine s_aload_n (pc1 := 4) (tk (n := 3) t37_0 rfl) rfl rfl rfl ?_
  refine s_getf (pc1 := 7) (c := 5) (t1 := 0) (tk (n := 4) t37_0 rfl) rfl rfl (by decide) rfl rfl ?_
  refine s_ic_ge (pc1 := 10) (pt := 32) (tk (n := 5) t37_0 rfl) rfl rfl rfl ?_ ?_
  · refine s_iconst (pc1 := 33) (tk (n := 18) t37_0 rfl) rfl rfl  ?_
    exact s_ret (tk (n := 19) t37_0 rfl) rfl rfl rfl
  · refine s_aload_n (pc1 := 11) (tk (n := 6) t37_0 rfl) rfl rfl rfl ?_
    refine s_getf (pc1 := 14) (c := 5) (t1 := 2) (tk (n := 7) t37_0 rfl) rfl rfl (by decide) rfl rfl ?_
    refine s_iload_n (pc1 := 15) (tk (n := 8) t37_0 rfl) rfl rfl rfl ?_
    refine s_aald (pc1 := 16) (c := 25) (tk (n := 9) t37_0 rfl) rfl rfl rfl ?_
    refine s_getf (pc1 := 19) (c := 10) (t1 := 1) (tk (n := 10) t37_0 rfl) rfl rfl (by decide) rfl rfl ?_
    refine s_lload_n (pc1 := 20) (tk (n := 11) t37_0 rfl) rfl rfl rfl ?_
    refine s_lcmp (pc1 := 21) (tk (n := 12) t37_0 rfl) rfl rfl  ?_
    refine s_if_ne (pc1 := 24) (pt := 26) (tk (n := 13) t37_0 rfl) rfl rfl rfl ?_ ?_
    · refine s_iinc (pc1 := 29) (ls1 := [(2, x0), (1, x1), (9, 0), (0, w32 (x3 + 1))]) (tk (n := 16) t37_0 rfl) rfl rfl rfl rfl ?_
      refine s_goto (pc1 := 2) (tk (n := 17) t37_0 rfl) rfl rfl ?_
      rfl
    · refine s_iload_n (pc1 := 25) (tk (n := 14) t37_0 rfl) rfl rfl rfl ?_
      exact s_ret (tk (n := 15) t37_0 rfl) rfl rfl rfl
set_option maxRecDepth 100000 in
set_option maxHeartbeats 4000000 in
theorem e_X6_ofFour (x0 : Int) (x1 : Int) (x2 : Int) (x3 : Int) (h : Hq) : vm 38 [(2, x0), (0, x1), (0, x2), (0, x3)] h = if 0 < x0 ∧ (kd x0).1 = 10 then (vm 96 [(2, x0), (0, x1), (0, bshr (w32 ((bshr x2 x1) - 8)) 4), (0, bshr (w32 ((bshr x3 x1) - 8)) 4)] h).bind (fun r33 => if 0 < x0 ∧ (kd x0).1 = 10 then (vm 96 [(2, x0), (0, x1), (0, w32 ((bshr (w32 ((bshr x2 x1) - 8)) 4) + 1)), (0, bshr (w32 ((bshr x3 x1) - 8)) 4)] r33.2).bind (fun r48 => if 0 < x0 ∧ (kd x0).1 = 10 then (vm 96 [(2, x0), (0, x1), (0, bshr (w32 ((bshr x2 x1) - 8)) 4), (0, w32 ((bshr (w32 ((bshr x3 x1) - 8)) 4) + 1))] r48.2).bind (fun r62 => if 0 < x0 ∧ (kd x0).1 = 10 then (vm 96 [(2, x0), (0, x1), (0, w32 ((bshr (w32 ((bshr x2 x1) - 8)) 4) + 1)), (0, w32 ((bshr (w32 ((bshr x3 x1) - 8)) 4) + 1))] r62.2).bind (fun r78 => some (some (0, w32 ((w32 ((w32 ((w32 ((w32 ((w32 ((vx r33) * (w32 (16 - (band (w32 ((bshr x2 x1) - 8)) 15))))) * (w32 (16 - (band (w32 ((bshr x3 x1) - 8)) 15))))) + (w32 ((w32 ((vx r48) * (band (w32 ((bshr x2 x1) - 8)) 15))) * (w32 (16 - (band (w32 ((bshr x3 x1) - 8)) 15))))))) + (w32 ((w32 ((vx r62) * (w32 (16 - (band (w32 ((bshr x2 x1) - 8)) 15))))) * (band (w32 ((bshr x3 x1) - 8)) 15))))) + (w32 ((w32 ((vx r78) * (band (w32 ((bshr x2 x1) - 8)) 15))) * (band (w32 ((bshr x3 x1) - 8)) 15))))).tdiv 256)), r78.2)) else none) else none) else none) else none := by
  show vp 38 0 [(2, x0), (0, x1), (0, x2), (0, x3), (9, 0), (9, 0), (9, 0), (9, 0), (9, 0), (9, 0), (9, 0)] [] h = _
  refine s_iload_n (pc1 := 1) (tk (n := 0) t38_0 rfl) rfl rfl rfl ?_
  refine s_iload_n (pc1 := 2) (tk (n := 1) t38_0 rfl) rfl rfl rfl ?_
  refine s_ishr (pc1 := 3) (tk (n := 2) t38_0 rfl) rfl rfl  ?_
  refine s_bipush (pc1 := 5) (tk (n := 3) t38_0 rfl) rfl rfl  ?_
  refine s_isub (pc1 := 6) (tk (n := 4) t38_0 rfl) rfl rfl  ?_
  refine s_istore (pc1 := 8) (ls1 := [(2, x0), (0, x1), (0, x2), (0, x3), (0, w32 ((bshr x2 x1) - 8)), (9, 0), (9, 0), (9, 0), (9, 0), (9, 0), (9, 0)]) (tk (n := 5) t38_0 rfl) rfl rfl rfl rfl ?_
  refine s_iload_n (pc1 := 9) (tk (n := 6) t38_0 rfl) rfl rfl rfl ?_
  refine s_iload_n (pc1 := 10) (tk (n := 7) t38_0 rfl) rfl rfl rfl ?_
  refine s_ishr (pc1 := 11) (tk (n := 8) t38_0 rfl) rfl rfl  ?_
  refine s_bipush (pc1 := 13) (tk (n := 9) t38_0 rfl) rfl rfl  ?_
  refine s_isub (pc1 := 14) (tk (n := 10) t38_0 rfl) rfl rfl  ?_
  refine s_istore (pc1 := 16) (ls1 := [(2, x0), (0, x1), (0, x2), (0, x3), (0, w32 ((bshr x2 x1) - 8)), (0, w32 ((bshr x3 x1) - 8)), (9, 0), (9, 0), (9, 0), (9, 0), (9, 0)]) (tk (n := 11) t38_0 rfl) rfl rfl rfl rfl ?_
  refine s_iload (pc1 := 18) (tk (n := 12) t38_0 rfl) rfl rfl rfl ?_
  refine s_iconst (pc1 := 19) (tk (n := 13) t38_0 rfl) rfl rfl  ?_
  refine s_ishr (pc1 := 20) (tk (n := 14) t38_0 rfl) rfl rfl  ?_
  refine s_istore (pc1 := 22) (ls1 := [(2, x0), (0, x1), (0, x2), (0, x3), (0, w32 ((bshr x2 x1) - 8)), (0, w32 ((bshr x3 x1) - 8)), (0, bshr (w32 ((bshr x2 x1) - 8)) 4), (9, 0), (9, 0), (9, 0), (9, 0)]) (tk (n := 15) t38_0 rfl) rfl rfl rfl rfl ?_
  refine s_iload (pc1 := 24) (tk (n := 16) t38_0 rfl) rfl rfl rfl ?_
  refine s_iconst (pc1 := 25) (tk (n := 17) t38_0 rfl) rfl rfl  ?_
  refine s_ishr (pc1 := 26) (tk (n := 18) t38_0 rfl) rfl rfl  ?_
  refine s_istore (pc1 := 28) (ls1 := [(2, x0), (0, x1), (0, x2), (0, x3), (0, w32 ((bshr x2 x1) - 8)), (0, w32 ((bshr x3 x1) - 8)), (0, bshr (w32 ((bshr x2 x1) - 8)) 4), (0, bshr (w32 ((bshr x3 x1) - 8)) 4), (9, 0), (9, 0), (9, 0)]) (tk (n := 19) t38_0 rfl) rfl rfl rfl rfl ?_
  refine s_iload (pc1 := 30) (tk (n := 20) t38_0 rfl) rfl rfl rfl ?_
  refine s_bipush (pc1 := 32) (tk (n := 21) t38_0 rfl) rfl rfl  ?_
  refine s_iand (pc1 := 33) (tk (n := 22) t38_0 rfl) rfl rfl  ?_
  refine s_istore (pc1 := 35) (ls1 := [(2, x0), (0, x1), (0, x2), (0, x3), (0, w32 ((bshr x2 x1) - 8)), (0, w32 ((bshr x3 x1) - 8)), (0, bshr (w32 ((bshr x2 x1) - 8)) 4), (0, bshr (w32 ((bshr x3 x1) - 8)) 4), (0, band (w32 ((bshr x2 x1) - 8)) 15), (9, 0), (9, 0)]) (tk (n := 23) t38_0 rfl) rfl rfl rfl rfl ?_
  refine s_iload (pc1 := 37) (tk (n := 24) t38_0 rfl) rfl rfl rfl ?_
  refine s_bipush (pc1 := 39) (tk (n := 25) t38_0 rfl) rfl rfl  ?_
  refine s_iand (pc1 := 40) (tk (n := 26) t38_0 rfl) rfl rfl  ?_
  refine s_istore (pc1 := 42) (ls1 := [(2, x0), (0, x1), (0, x2), (0, x3), (0, w32 ((bshr x2 x1) - 8)), (0, w32 ((bshr x3 x1) - 8)), (0, bshr (w32 ((bshr x2 x1) - 8)) 4), (0, bshr (w32 ((bshr x3 x1) - 8)) 4), (0, band (w32 ((bshr x2 x1) - 8)) 15), (0, band (w32 ((bshr x3 x1) - 8)) 15), (9, 0)]) (tk (n := 27) t38_0 rfl) rfl rfl rfl rfl ?_
  refine s_aload_n (pc1 := 43) (tk (n := 28) t38_0 rfl) rfl rfl rfl ?_
  refine s_iload_n (pc1 := 44) (tk (n := 29) t38_0 rfl) rfl rfl rfl ?_
  refine s_iload (pc1 := 46) (tk (n := 0) t38_1 rfl) rfl rfl rfl ?_
  refine s_iload (pc1 := 48) (tk (n := 1) t38_1 rfl) rfl rfl rfl ?_
  refine s_call0 (as := [(2, x0), (0, x1), (0, bshr (w32 ((bshr x2 x1) - 8)) 4), (0, bshr (w32 ((bshr x3 x1) - 8)) 4)]) (st1 := []) (p1 := 51) (M2 := 96) (tk (n := 2) t38_1 rfl) rfl rfl rfl rfl rfl (fun r33 => ?_)
  refine s_bipush (pc1 := 53) (tk (n := 3) t38_1 rfl) rfl rfl  ?_
  refine s_iload (pc1 := 55) (tk (n := 4) t38_1 rfl) rfl rfl rfl ?_
  refine s_isub (pc1 := 56) (tk (n := 5) t38_1 rfl) rfl rfl  ?_
  refine s_imul (pc1 := 57) (tk (n := 6) t38_1 rfl) rfl rfl  ?_
  refine s_bipush (pc1 := 59) (tk (n := 7) t38_1 rfl) rfl rfl  ?_
  refine s_iload (pc1 := 61) (tk (n := 8) t38_1 rfl) rfl rfl rfl ?_
  refine s_isub (pc1 := 62) (tk (n := 9) t38_1 rfl) rfl rfl  ?_
  refine s_imul (pc1 := 63) (tk (n := 10) t38_1 rfl) rfl rfl  ?_
  refine s_aload_n (pc1 := 64) (tk (n := 11) t38_1 rfl) rfl rfl rfl ?_
  refine s_iload_n (pc1 := 65) (tk (n := 12) t38_1 rfl) rfl rfl rfl ?_
  refine s_iload (pc1 := 67) (tk (n := 13) t38_1 rfl) rfl rfl rfl ?_
  refine s_iconst (pc1 := 68) (tk (n := 14) t38_1 rfl) rfl rfl  ?_
  refine s_iadd (pc1 := 69) (tk (n := 15) t38_1 rfl) rfl rfl  ?_
  refine s_iload (pc1 := 71) (tk (n := 16) t38_1 rfl) rfl rfl rfl ?_
  refine s_call0 (as := [(2, x0), (0, x1), (0, w32 ((bshr (w32 ((bshr x2 x1) - 8)) 4) + 1)), (0, bshr (w32 ((bshr x3 x1) - 8)) 4)]) (st1 := [(0, w32 ((w32 ((vx r33) * (w32 (16 - (band (w32 ((bshr x2 x1) - 8)) 15))))) * (w32 (16 - (band (w32 ((bshr x3 x1) - 8)) 15)))))]) (p1 := 74) (M2 := 96) (tk (n := 17) t38_1 rfl) rfl rfl rfl rfl rfl (fun r48 => ?_)
  refine s_iload (pc1 := 76) (tk (n := 18) t38_1 rfl) rfl rfl rfl ?_
  refine s_imul (pc1 := 77) (tk (n := 19) t38_1 rfl) rfl rfl  ?_
  refine s_bipush (pc1 := 79) (tk (n := 20) t38_1 rfl) rfl rfl  ?_
  refine s_iload (pc1 := 81) (tk (n := 21) t38_1 rfl) rfl rfl rfl ?_
  refine s_isub (pc1 := 82) (tk (n := 22) t38_1 rfl) rfl rfl  ?_
  refine s_imul (pc1 := 83) (tk (n := 23) t38_1 rfl) rfl rfl  ?_
  refine s_iadd (pc1 := 84) (tk (n := 24) t38_1 rfl) rfl rfl  ?_
  refine s_aload_n (pc1 := 85) (tk (n := 25) t38_1 rfl) rfl rfl rfl ?_
  refine s_iload_n (pc1 := 86) (tk (n := 26) t38_1 rfl) rfl rfl rfl ?_
  refine s_iload (pc1 := 88) (tk (n := 27) t38_1 rfl) rfl rfl rfl ?_
  refine s_iload (pc1 := 90) (tk (n := 28) t38_1 rfl) rfl rfl rfl ?_
  refine s_iconst (pc1 := 91) (tk (n := 29) t38_1 rfl) rfl rfl  ?_
  refine s_iadd (pc1 := 92) (tk (n := 0) t38_2 rfl) rfl rfl  ?_
  refine s_call0 (as := [(2, x0), (0, x1), (0, bshr (w32 ((bshr x2 x1) - 8)) 4), (0, w32 ((bshr (w32 ((bshr x3 x1) - 8)) 4) + 1))]) (st1 := [(0, w32 ((w32 ((w32 ((vx r33) * (w32 (16 - (band (w32 ((bshr x2 x1) - 8)) 15))))) * (w32 (16 - (band (w32 ((bshr x3 x1) - 8)) 15))))) + (w32 ((w32 ((vx r48) * (band (w32 ((bshr x2 x1) - 8)) 15))) * (w32 (16 - (band (w32 ((bshr x3 x1) - 8)) 15)))))))]) (p1 := 95) (M2 := 96) (tk (n := 1) t38_2 rfl) rfl rfl rfl rfl rfl (fun r62 => ?_)
  refine s_bipush (pc1 := 97) (tk (n := 2) t38_2 rfl) rfl rfl  ?_
  refine s_iload (pc1 := 99) (tk (n := 3) t38_2 rfl) rfl rfl rfl ?_
  refine s_isub (pc1 := 100) (tk (n := 4) t38_2 rfl) rfl rfl  ?_
  refine s_imul (pc1 := 101) (tk (n := 5) t38_2 rfl) rfl rfl  ?_
  refine s_iload (pc1 := 103) (tk (n := 6) t38_2 rfl) rfl rfl rfl ?_
  refine s_imul (pc1 := 104) (tk (n := 7) t38_2 rfl) rfl rfl  ?_
  refine s_iadd (pc1 := 105) (tk (n := 8) t38_2 rfl) rfl rfl  ?_
  refine s_aload_n (pc1 := 106) (tk (n := 9) t38_2 rfl) rfl rfl rfl ?_
  refine s_iload_n (pc1 := 107) (tk (n := 10) t38_2 rfl) rfl rfl rfl ?_
  refine s_iload (pc1 := 109) (tk (n := 11) t38_2 rfl) rfl rfl rfl ?_
  refine s_iconst (pc1 := 110) (tk (n := 12) t38_2 rfl) rfl rfl  ?_
  refine s_iadd (pc1 := 111) (tk (n := 13) t38_2 rfl) rfl rfl  ?_
  refine s_iload (pc1 := 113) (tk (n := 14) t38_2 rfl) rfl rfl rfl ?_
  refine s_iconst (pc1 := 114) (tk (n := 15) t38_2 rfl) rfl rfl  ?_
  refine s_iadd (pc1 := 115) (tk (n := 16) t38_2 rfl) rfl rfl  ?_
  refine s_call0 (as := [(2, x0), (0, x1), (0, w32 ((bshr (w32 ((bshr x2 x1) - 8)) 4) + 1)), (0, w32 ((bshr (w32 ((bshr x3 x1) - 8)) 4) + 1))]) (st1 := [(0, w32 ((w32 ((w32 ((w32 ((vx r33) * (w32 (16 - (band (w32 ((bshr x2 x1) - 8)) 15))))) * (w32 (16 - (band (w32 ((bshr x3 x1) - 8)) 15))))) + (w32 ((w32 ((vx r48) * (band (w32 ((bshr x2 x1) - 8)) 15))) * (w32 (16 - (band (w32 ((bshr x3 x1) - 8)) 15))))))) + (w32 ((w32 ((vx r62) * (w32 (16 - (band (w32 ((bshr x2 x1) - 8)) 15))))) * (band (w32 ((bshr x3 x1) - 8)) 15)))))]) (p1 := 118) (M2 := 96) (tk (n := 17) t38_2 rfl) rfl rfl rfl rfl rfl (fun r78 => ?_)
  refine s_iload (pc1 := 120) (tk (n := 18) t38_2 rfl) rfl rfl rfl ?_
  refine s_imul (pc1 := 121) (tk (n := 19) t38_2 rfl) rfl rfl  ?_
  refine s_iload (pc1 := 123) (tk (n := 20) t38_2 rfl) rfl rfl rfl ?_
  refine s_imul (pc1 := 124) (tk (n := 21) t38_2 rfl) rfl rfl  ?_
  refine s_iadd (pc1 := 125) (tk (n := 22) t38_2 rfl) rfl rfl  ?_
  refine s_istore (pc1 := 127) (ls1 := [(2, x0), (0, x1), (0, x2), (0, x3), (0, w32 ((bshr x2 x1) - 8)), (0, w32 ((bshr x3 x1) - 8)), (0, bshr (w32 ((bshr x2 x1) - 8)) 4), (0, bshr (w32 ((bshr x3 x1) - 8)) 4), (0, band (w32 ((bshr x2 x1) - 8)) 15), (0, band (w32 ((bshr x3 x1) - 8)) 15), (0, w32 ((w32 ((w32 ((w32 ((w32 ((vx r33) * (w32 (16 - (band (w32 ((bshr x2 x1) - 8)) 15))))) * (w32 (16 - (band (w32 ((bshr x3 x1) - 8)) 15))))) + (w32 ((w32 ((vx r48) * (band (w32 ((bshr x2 x1) - 8)) 15))) * (w32 (16 - (band (w32 ((bshr x3 x1) - 8)) 15))))))) + (w32 ((w32 ((vx r62) * (w32 (16 - (band (w32 ((bshr x2 x1) - 8)) 15))))) * (band (w32 ((bshr x3 x1) - 8)) 15))))) + (w32 ((w32 ((vx r78) * (band (w32 ((bshr x2 x1) - 8)) 15))) * (band (w32 ((bshr x3 x1) - 8)) 15)))))]) (tk (n := 23) t38_2 rfl) rfl rfl rfl rfl ?_
  refine s_iload (pc1 := 129) (tk (n := 24) t38_2 rfl) rfl rfl rfl ?_
  refine s_sipush (pc1 := 132) (tk (n := 25) t38_2 rfl) rfl rfl  ?_
  refine s_idivc (pc1 := 133) (tk (n := 26) t38_2 rfl) rfl rfl (by decide) ?_
  exact s_ret (tk (n := 27) t38_2 rfl) rfl rfl rfl
set_option maxRecDepth 100000 in
set_option maxHeartbeats 4000000 in
theorem e_X6_ofTwoLevels (x0 : Int) (x1 : Int) (x2 : Int) (x3 : Int) (h : Hq) : vm 39 [(2, x0), (0, x1), (0, x2), (0, x3)] h = if 0 < x0 ∧ (kd x0).1 = 10 then if (w32 (x3.tdiv 16)) < (w32 ((h.2 x0 9) - 1)) then ((vm 38 [(2, x0), (0, w32 (x3.tdiv 16)), (0, x1), (0, x2)] h).bind (fun r21 => (vm 38 [(2, x0), (0, w32 ((w32 (x3.tdiv 16)) + 1)), (0, x1), (0, x2)] r21.2).bind (fun r32 => some (some (0, w32 ((w32 ((w32 ((vx r21) * (w32 (16 - (x3.tmod 16))))) + (w32 ((vx r32) * (x3.tmod 16))))).tdiv 16)), r32.2)))) else ((vm 38 [(2, x0), (0, w32 ((h.2 x0 9) - 1)), (0, x1), (0, x2)] h).bind (fun r21 => some (some (0, vx r21), r21.2))) else none := by
  show vp 39 0 [(2, x0), (0, x1), (0, x2), (0, x3), (9, 0), (9, 0), (9, 0)] [] h = _
  refine s_iload_n (pc1 := 1) (tk (n := 0) t39_0 rfl) rfl rfl rfl ?_
  refine s_bipush (pc1 := 3) (tk (n := 1) t39_0 rfl) rfl rfl  ?_
  refine s_idivc (pc1 := 4) (tk (n := 2) t39_0 rfl) rfl rfl (by decide) ?_
  refine s_istore (pc1 := 6) (ls1 := [(2, x0), (0, x1), (0, x2), (0, x3), (0, w32 (x3.tdiv 16)), (9, 0), (9, 0)]) (tk (n := 3) t39_0 rfl) rfl rfl rfl rfl ?_
  refine s_iload_n (pc1 := 7) (tk (n := 4) t39_0 rfl) rfl rfl rfl ?_
  refine s_bipush (pc1 := 9) (tk (n := 5) t39_0 rfl) rfl rfl  ?_
  refine s_iremc (pc1 := 10) (tk (n := 6) t39_0 rfl) rfl rfl (by decide) ?_
  refine s_istore (pc1 := 12) (ls1 := [(2, x0), (0, x1), (0, x2), (0, x3), (0, w32 (x3.tdiv 16)), (0, x3.tmod 16), (9, 0)]) (tk (n := 7) t39_0 rfl) rfl rfl rfl rfl ?_
  refine s_aload_n (pc1 := 13) (tk (n := 8) t39_0 rfl) rfl rfl rfl ?_
  refine s_getf (pc1 := 16) (c := 10) (t1 := 0) (tk (n := 9) t39_0 rfl) rfl rfl (by decide) rfl rfl ?_
  refine s_iconst (pc1 := 17) (tk (n := 10) t39_0 rfl) rfl rfl  ?_
  refine s_isub (pc1 := 18) (tk (n := 11) t39_0 rfl) rfl rfl  ?_
  refine s_istore (pc1 := 20) (ls1 := [(2, x0), (0, x1), (0, x2), (0, x3), (0, w32 (x3.tdiv 16)), (0, x3.tmod 16), (0, w32 ((h.2 x0 9) - 1))]) (tk (n := 12) t39_0 rfl) rfl rfl rfl rfl ?_
  refine s_iload (pc1 := 22) (tk (n := 13) t39_0 rfl) rfl rfl rfl ?_
  refine s_iload (pc1 := 24) (tk (n := 14) t39_0 rfl) rfl rfl rfl ?_
  refine s_ic_lt (pc1 := 27) (pt := 36) (tk (n := 15) t39_0 rfl) rfl rfl rfl ?_ ?_
  · refine s_aload_n (pc1 := 37) (tk (n := 22) t39_0 rfl) rfl rfl rfl ?_
    refine s_iload (pc1 := 39) (tk (n := 23) t39_0 rfl) rfl rfl rfl ?_
    refine s_iload_n (pc1 := 40) (tk (n := 24) t39_0 rfl) rfl rfl rfl ?_
    refine s_iload_n (pc1 := 41) (tk (n := 25) t39_0 rfl) rfl rfl rfl ?_
    refine s_callS0 (as := [(2, x0), (0, w32 (x3.tdiv 16)), (0, x1), (0, x2)]) (st1 := []) (p1 := 44) (M2 := 38) (tk (n := 26) t39_0 rfl) rfl rfl rfl rfl rfl (fun r21 => ?_)
    refine s_bipush (pc1 := 46) (tk (n := 27) t39_0 rfl) rfl rfl  ?_
    refine s_iload (pc1 := 48) (tk (n := 28) t39_0 rfl) rfl rfl rfl ?_
    refine s_isub (pc1 := 49) (tk (n := 29) t39_0 rfl) rfl rfl  ?_
    refine s_imul (pc1 := 50) (tk (n := 0) t39_1 rfl) rfl rfl  ?_
    refine s_aload_n (pc1 := 51) (tk (n := 1) t39_1 rfl) rfl rfl rfl ?_
    refine s_iload (pc1 := 53) (tk (n := 2) t39_1 rfl) rfl rfl rfl ?_
    refine s_iconst (pc1 := 54) (tk (n := 3) t39_1 rfl) rfl rfl  ?_
    refine s_iadd (pc1 := 55) (tk (n := 4) t39_1 rfl) rfl rfl  ?_
    refine s_iload_n (pc1 := 56) (tk (n := 5) t39_1 rfl) rfl rfl rfl ?_
    refine s_iload_n (pc1 := 57) (tk (n := 6) t39_1 rfl) rfl rfl rfl ?_
    refine s_callS0 (as := [(2, x0), (0, w32 ((w32 (x3.tdiv 16)) + 1)), (0, x1), (0, x2)]) (st1 := [(0, w32 ((vx r21) * (w32 (16 - (x3.tmod 16)))))]) (p1 := 60) (M2 := 38) (tk (n := 7) t39_1 rfl) rfl rfl rfl rfl rfl (fun r32 => ?_)
    refine s_iload (pc1 := 62) (tk (n := 8) t39_1 rfl) rfl rfl rfl ?_
    refine s_imul (pc1 := 63) (tk (n := 9) t39_1 rfl) rfl rfl  ?_
    refine s_iadd (pc1 := 64) (tk (n := 10) t39_1 rfl) rfl rfl  ?_
    refine s_bipush (pc1 := 66) (tk (n := 11) t39_1 rfl) rfl rfl  ?_
    refine s_idivc (pc1 := 67) (tk (n := 12) t39_1 rfl) rfl rfl (by decide) ?_
    exact s_ret (tk (n := 13) t39_1 rfl) rfl rfl rfl
  · refine s_aload_n (pc1 := 28) (tk (n := 16) t39_0 rfl) rfl rfl rfl ?_
    refine s_iload (pc1 := 30) (tk (n := 17) t39_0 rfl) rfl rfl rfl ?_
    refine s_iload_n (pc1 := 31) (tk (n := 18) t39_0 rfl) rfl rfl rfl ?_
    refine s_iload_n (pc1 := 32) (tk (n := 19) t39_0 rfl) rfl rfl rfl ?_
    refine s_callS0 (as := [(2, x0), (0, w32 ((h.2 x0 9) - 1)), (0, x1), (0, x2)]) (st1 := []) (p1 := 35) (M2 := 38) (tk (n := 20) t39_0 rfl) rfl rfl rfl rfl rfl (fun r21 => ?_)
    exact s_ret (tk (n := 21) t39_0 rfl) rfl rfl rfl
set_option maxRecDepth 100000 in
set_option maxHeartbeats 4000000 in
theorem e_X6_alongAxis (x0 : Int) (x1 : Int) (x2 : Int) (x3 : Int) (h : Hq) : vm 40 [(2, x0), (2, x1), (0, x2), (0, x3)] h = if 0 < x1 ∧ (kd x1).1 = 2 then if 0 < x1 ∧ (kd x1).1 = 2 then if 0 < x0 ∧ (kd x0).1 = 10 then (vm 314 [(0, h.2 x1 5), (0, w32 ((h.2 x0 9) - 1))] h).bind (fun r10 => vp 40 27 [(2, x0), (2, x1), (0, x2), (0, x3), (0, h.2 x1 0), (0, vx r10), (0, 0), (0, 0), (9, 0), (9, 0), (9, 0)] [] r10.2) else none else none else none := by
  show vp 40 0 [(2, x0), (2, x1), (0, x2), (0, x3), (9, 0), (9, 0), (9, 0), (9, 0), (9, 0), (9, 0), (9, 0)] [] h = _
  refine s_aload_n (pc1 := 1) (tk (n := 0) t40_0 rfl) rfl rfl rfl ?_
  refine s_getf (pc1 := 4) (c := 2) (t1 := 0) (tk (n := 1) t40_0 rfl) rfl rfl (by decide) rfl rfl ?_
  refine s_istore (pc1 := 6) (ls1 := [(2, x0), (2, x1), (0, x2), (0, x3), (0, h.2 x1 0), (9, 0), (9, 0), (9, 0), (9, 0), (9, 0), (9, 0)]) (tk (n := 2) t40_0 rfl) rfl rfl rfl rfl ?_
  refine s_aload_n (pc1 := 7) (tk (n := 3) t40_0 rfl) rfl rfl rfl ?_
  refine s_getf (pc1 := 10) (c := 2) (t1 := 0) (tk (n := 4) t40_0 rfl) rfl rfl (by decide) rfl rfl ?_
  refine s_aload_n (pc1 := 11) (tk (n := 5) t40_0 rfl) rfl rfl rfl ?_
  refine s_getf (pc1 := 14) (c := 10) (t1 := 0) (tk (n := 6) t40_0 rfl) rfl rfl (by decide) rfl rfl ?_
  refine s_iconst (pc1 := 15) (tk (n := 7) t40_0 rfl) rfl rfl  ?_
  refine s_isub (pc1 := 16) (tk (n := 8) t40_0 rfl) rfl rfl  ?_
  refine s_callS0 (as := [(0, h.2 x1 5), (0, w32 ((h.2 x0 9) - 1))]) (st1 := []) (p1 := 19) (M2 := 314) (tk (n := 9) t40_0 rfl) rfl rfl rfl rfl rfl (fun r10 => ?_)
  refine s_istore (pc1 := 21) (ls1 := [(2, x0), (2, x1), (0, x2), (0, x3), (0, h.2 x1 0), (0, vx r10), (9, 0), (9, 0), (9, 0), (9, 0), (9, 0)]) (tk (n := 10) t40_0 rfl) rfl rfl rfl rfl ?_
  refine s_iconst (pc1 := 22) (tk (n := 11) t40_0 rfl) rfl rfl  ?_
  refine s_istore (pc1 := 24) (ls1 := [(2, x0), (2, x1), (0, x2), (0, x3), (0, h.2 x1 0), (0, vx r10), (0, 0), (9, 0), (9, 0), (9, 0), (9, 0)]) (tk (n := 12) t40_0 rfl) rfl rfl rfl rfl ?_
  refine s_iconst (pc1 := 25) (tk (n := 13) t40_0 rfl) rfl rfl  ?_
  refine s_istore (pc1 := 27) (ls1 := [(2, x0), (2, x1), (0, x2), (0, x3), (0, h.2 x1 0), (0, vx r10), (0, 0), (0, 0), (9, 0), (9, 0), (9, 0)]) (tk (n := 14) t40_0 rfl) rfl rfl rfl rfl ?_
  rfl
set_option maxRecDepth 100000 in
set_option maxHeartbeats 4000000 in
theorem e_X6_alongAxis_27 (x0 : Int) (x1 : Int) (x2 : Int) (x3 : Int) (x4 : Int) (x5 : Int) (x6 : Int) (x7 : Int) (z8 : Vl) (z9 : Vl) (z10 : Vl) (h : Hq) : vp 40 27 [(2, x0), (2, x1), (0, x2), (0, x3), (0, x4), (0, x5), (0, x6), (0, x7), z8, z9, z10] [] h = if x7 ≥ x4 then (if x4 ≠ 0 then some (some (0, w32 (x6.tdiv x4)), h) else none) else (if 0 < x1 ∧ (kd x1).1 = 2 then if (w32 (2 * x4)) ≠ 0 then if 0 < x1 ∧ (kd x1).1 = 2 then if (w32 (2 * x4)) ≠ 0 then (vm 38 [(2, x0), (0, x5), (0, w32 (x2 + (w32 ((w32 ((h.2 x1 3) * (w32 ((w32 ((w32 (2 * x7)) + 1)) - x4)))).tdiv (w32 (2 * x4)))))), (0, w32 (x3 + (w32 ((w32 ((h.2 x1 4) * (w32 ((w32 ((w32 (2 * x7)) + 1)) - x4)))).tdiv (w32 (2 * x4))))))] h).bind (fun r39 => vp 40 27 [(2, x0), (2, x1), (0, x2), (0, x3), (0, x4), (0, x5), (0, w32 (x6 + (vx r39))), (0, w32 (x7 + 1)), (0, w32 ((w32 ((w32 (2 * x7)) + 1)) - x4)), (0, w32 (x2 + (w32 ((w32 ((h.2 x1 3) * (w32 ((w32 ((w32 (2 * x7)) + 1)) - x4)))).tdiv (w32 (2 * x4)))))), (0, w32 (x3 + (w32 ((w32 ((h.2 x1 4) * (w32 ((w32 ((w32 (2 * x7)) + 1)) - x4)))).tdiv (w32 (2 * x4))))))] [] r39.2) else none else none else none else none) := by
  refine s_fg (ls1 := [(2, x0), (2, x1), (0, x2), (0, x3), (0, x4), (0, x5), (0, x6), (0, x7), (9, 0), (9, 0), (9, 0)]) (tk (n := 15) t40_0 rfl) rfl ?_
  refine s_iload (pc1 := 29) (tk (n := 15) t40_0 rfl) rfl rfl rfl ?_
  refine s_iload (pc1 := 31) (tk (n := 16) t40_0 rfl) rfl rfl rfl ?_
  refine s_ic_ge (pc1 := 34) (pt := 98) (tk (n := 17) t40_0 rfl) rfl rfl rfl ?_ ?_
  · refine s_iload (pc1 := 100) (tk (n := 28) t40_1 rfl) rfl rfl rfl ?_
    refine s_iload (pc1 := 102) (tk (n := 29) t40_1 rfl) rfl rfl rfl ?_
    refine s_idiv (pc1 := 103) (tk (n := 0) t40_2 rfl) rfl rfl  ?_
    exact s_ret (tk (n := 1) t40_2 rfl) rfl rfl rfl
  · refine s_iconst (pc1 := 35) (tk (n := 18) t40_0 rfl) rfl rfl  ?_
    refine s_iload (pc1 := 37) (tk (n := 19) t40_0 rfl) rfl rfl rfl ?_
    refine s_imul (pc1 := 38) (tk (n := 20) t40_0 rfl) rfl rfl  ?_
    refine s_iconst (pc1 := 39) (tk (n := 21) t40_0 rfl) rfl rfl  ?_
    refine s_iadd (pc1 := 40) (tk (n := 22) t40_0 rfl) rfl rfl  ?_
    refine s_iload (pc1 := 42) (tk (n := 23) t40_0 rfl) rfl rfl rfl ?_
    refine s_isub (pc1 := 43) (tk (n := 24) t40_0 rfl) rfl rfl  ?_
    refine s_istore (pc1 := 45) (ls1 := [(2, x0), (2, x1), (0, x2), (0, x3), (0, x4), (0, x5), (0, x6), (0, x7), (0, w32 ((w32 ((w32 (2 * x7)) + 1)) - x4)), (9, 0), (9, 0)]) (tk (n := 25) t40_0 rfl) rfl rfl rfl rfl ?_
    refine s_iload_n (pc1 := 46) (tk (n := 26) t40_0 rfl) rfl rfl rfl ?_
    refine s_aload_n (pc1 := 47) (tk (n := 27) t40_0 rfl) rfl rfl rfl ?_
    refine s_getf (pc1 := 50) (c := 2) (t1 := 0) (tk (n := 28) t40_0 rfl) rfl rfl (by decide) rfl rfl ?_
    refine s_iload (pc1 := 52) (tk (n := 29) t40_0 rfl) rfl rfl rfl ?_
    refine s_imul (pc1 := 53) (tk (n := 0) t40_1 rfl) rfl rfl  ?_
    refine s_iconst (pc1 := 54) (tk (n := 1) t40_1 rfl) rfl rfl  ?_
    refine s_iload (pc1 := 56) (tk (n := 2) t40_1 rfl) rfl rfl rfl ?_
    refine s_imul (pc1 := 57) (tk (n := 3) t40_1 rfl) rfl rfl  ?_
    refine s_idiv (pc1 := 58) (tk (n := 4) t40_1 rfl) rfl rfl  ?_
    refine s_iadd (pc1 := 59) (tk (n := 5) t40_1 rfl) rfl rfl  ?_
    refine s_istore (pc1 := 61) (ls1 := [(2, x0), (2, x1), (0, x2), (0, x3), (0, x4), (0, x5), (0, x6), (0, x7), (0, w32 ((w32 ((w32 (2 * x7)) + 1)) - x4)), (0, w32 (x2 + (w32 ((w32 ((h.2 x1 3) * (w32 ((w32 ((w32 (2 * x7)) + 1)) - x4)))).tdiv (w32 (2 * x4)))))), (9, 0)]) (tk (n := 6) t40_1 rfl) rfl rfl rfl rfl ?_
    refine s_iload_n (pc1 := 62) (tk (n := 7) t40_1 rfl) rfl rfl rfl ?_
    refine s_aload_n (pc1 := 63) (tk (n := 8) t40_1 rfl) rfl rfl rfl ?_
    refine s_getf (pc1 := 66) (c := 2) (t1 := 0) (tk (n := 9) t40_1 rfl) rfl rfl (by decide) rfl rfl ?_
    refine s_iload (pc1 := 68) (tk (n := 10) t40_1 rfl) rfl rfl rfl ?_
    refine s_imul (pc1 := 69) (tk (n := 11) t40_1 rfl) rfl rfl  ?_
    refine s_iconst (pc1 := 70) (tk (n := 12) t40_1 rfl) rfl rfl  ?_
    refine s_iload (pc1 := 72) (tk (n := 13) t40_1 rfl) rfl rfl rfl ?_
    refine s_imul (pc1 := 73) (tk (n := 14) t40_1 rfl) rfl rfl  ?_
    refine s_idiv (pc1 := 74) (tk (n := 15) t40_1 rfl) rfl rfl  ?_
    refine s_iadd (pc1 := 75) (tk (n := 16) t40_1 rfl) rfl rfl  ?_
    refine s_istore (pc1 := 77) (ls1 := [(2, x0), (2, x1), (0, x2), (0, x3), (0, x4), (0, x5), (0, x6), (0, x7), (0, w32 ((w32 ((w32 (2 * x7)) + 1)) - x4)), (0, w32 (x2 + (w32 ((w32 ((h.2 x1 3) * (w32 ((w32 ((w32 (2 * x7)) + 1)) - x4)))).tdiv (w32 (2 * x4)))))), (0, w32 (x3 + (w32 ((w32 ((h.2 x1 4) * (w32 ((w32 ((w32 (2 * x7)) + 1)) - x4)))).tdiv (w32 (2 * x4))))))]) (tk (n := 17) t40_1 rfl) rfl rfl rfl rfl ?_
    refine s_iload (pc1 := 79) (tk (n := 18) t40_1 rfl) rfl rfl rfl ?_
    refine s_aload_n (pc1 := 80) (tk (n := 19) t40_1 rfl) rfl rfl rfl ?_
    refine s_iload (pc1 := 82) (tk (n := 20) t40_1 rfl) rfl rfl rfl ?_
    refine s_iload (pc1 := 84) (tk (n := 21) t40_1 rfl) rfl rfl rfl ?_
    refine s_iload (pc1 := 86) (tk (n := 22) t40_1 rfl) rfl rfl rfl ?_
    refine s_callS0 (as := [(2, x0), (0, x5), (0, w32 (x2 + (w32 ((w32 ((h.2 x1 3) * (w32 ((w32 ((w32 (2 * x7)) + 1)) - x4)))).tdiv (w32 (2 * x4)))))), (0, w32 (x3 + (w32 ((w32 ((h.2 x1 4) * (w32 ((w32 ((w32 (2 * x7)) + 1)) - x4)))).tdiv (w32 (2 * x4))))))]) (st1 := [(0, x6)]) (p1 := 89) (M2 := 38) (tk (n := 23) t40_1 rfl) rfl rfl rfl rfl rfl (fun r39 => ?_)
    refine s_iadd (pc1 := 90) (tk (n := 24) t40_1 rfl) rfl rfl  ?_
    refine s_istore (pc1 := 92) (ls1 := [(2, x0), (2, x1), (0, x2), (0, x3), (0, x4), (0, x5), (0, w32 (x6 + (vx r39))), (0, x7), (0, w32 ((w32 ((w32 (2 * x7)) + 1)) - x4)), (0, w32 (x2 + (w32 ((w32 ((h.2 x1 3) * (w32 ((w32 ((w32 (2 * x7)) + 1)) - x4)))).tdiv (w32 (2 * x4)))))), (0, w32 (x3 + (w32 ((w32 ((h.2 x1 4) * (w32 ((w32 ((w32 (2 * x7)) + 1)) - x4)))).tdiv (w32 (2 * x4))))))]) (tk (n := 25) t40_1 rfl) rfl rfl rfl rfl ?_
    refine s_iinc (pc1 := 95) (ls1 := [(2, x0), (2, x1), (0, x2), (0, x3), (0, x4), (0, x5), (0, w32 (x6 + (vx r39))), (0, w32 (x7 + 1)), (0, w32 ((w32 ((w32 (2 * x7)) + 1)) - x4)), (0, w32 (x2 + (w32 ((w32 ((h.2 x1 3) * (w32 ((w32 ((w32 (2 * x7)) + 1)) - x4)))).tdiv (w32 (2 * x4)))))), (0, w32 (x3 + (w32 ((w32 ((h.2 x1 4) * (w32 ((w32 ((w32 (2 * x7)) + 1)) - x4)))).tdiv (w32 (2 * x4))))))]) (tk (n := 26) t40_1 rfl) rfl rfl rfl rfl ?_
    refine s_goto (pc1 := 27) (tk (n := 27) t40_1 rfl) rfl rfl ?_
    rfl
set_option maxRecDepth 100000 in
set_option maxHeartbeats 4000000 in
theorem e_X7_init (x0 : Int) (h : Hq) : vm 41 [(2, x0)] h = if 0 < x0 then if ((kd h.1).1 = 24 ∧ (kd h.1).2 = (6 : Int) ∧ 0 ≤ (6 : Int) ∧ (6 : Int) ≤ 1000) ∧ (0 ≤ (400 : Int) ∧ (400 : Int) ≤ 1000) ∧ (List.range (6 : Int).toNat).all (fun i => decide (kd (h.1 + 1 + (i : Int)) = (20, 400))) = true then if (0 < x0 ∧ (kd x0).1 = 7) ∧ True then if (kd (h.1 + 1 + 6)).1 = 20 ∧ (kd (h.1 + 1 + 6)).2 = (6 : Int) ∧ 0 ≤ (6 : Int) ∧ (6 : Int) ≤ 1000000 then if (0 < x0 ∧ (kd x0).1 = 7) ∧ True then if (kd ((h.1 + 1 + 6) + 1)).1 = 20 ∧ (kd ((h.1 + 1 + 6) + 1)).2 = (6 : Int) ∧ 0 ≤ (6 : Int) ∧ (6 : Int) ≤ 1000000 then if (0 < x0 ∧ (kd x0).1 = 7) ∧ True then if ((kd (((h.1 + 1 + 6) + 1) + 1)).1 = 24 ∧ (kd (((h.1 + 1 + 6) + 1) + 1)).2 = (12 : Int) ∧ 0 ≤ (12 : Int) ∧ (12 : Int) ≤ 1000) ∧ (0 ≤ (400 : Int) ∧ (400 : Int) ≤ 1000) ∧ (List.range (12 : Int).toNat).all (fun i => decide (kd ((((h.1 + 1 + 6) + 1) + 1) + 1 + (i : Int)) = (20, 400))) = true then if (0 < x0 ∧ (kd x0).1 = 7) ∧ True then if (kd ((((h.1 + 1 + 6) + 1) + 1) + 1 + 12)).1 = 22 ∧ (kd ((((h.1 + 1 + 6) + 1) + 1) + 1 + 12)).2 = (2 : Int) ∧ 0 ≤ (2 : Int) ∧ (2 : Int) ≤ 1000000 then if (0 < x0 ∧ (kd x0).1 = 7) ∧ True then some (none, (((((h.1 + 1 + 6) + 1) + 1) + 1 + 12) + 1, stm (stm (mnm (stm (stm (stm (mnm h.2 h.1 6) x0 0 h.1) x0 1 (h.1 + 1 + 6)) x0 2 ((h.1 + 1 + 6) + 1)) (((h.1 + 1 + 6) + 1) + 1) 12) x0 3 (((h.1 + 1 + 6) + 1) + 1)) x0 4 ((((h.1 + 1 + 6) + 1) + 1) + 1 + 12))) else none else none else none else none else none else none else none else none else none else none else none := by
  show vp 41 0 [(2, x0)] [] h = _
  refine s_aload_n (pc1 := 1) (tk (n := 0) t41_0 rfl) rfl rfl rfl ?_
  refine s_oini (pc1 := 4) (tk (n := 1) t41_0 rfl) rfl rfl rfl ?_
  refine s_aload_n (pc1 := 5) (tk (n := 2) t41_0 rfl) rfl rfl rfl ?_
  refine s_bipush (pc1 := 7) (tk (n := 3) t41_0 rfl) rfl rfl  ?_
  refine s_sipush (pc1 := 10) (tk (n := 4) t41_0 rfl) rfl rfl  ?_
  refine s_mna (pc1 := 14) (tk (n := 5) t41_0 rfl) rfl rfl  ?_
  refine s_putf2 (pc1 := 17) (c := 7) (tk (n := 6) t41_0 rfl) rfl rfl rfl rfl rfl ?_
  refine s_aload_n (pc1 := 18) (tk (n := 7) t41_0 rfl) rfl rfl rfl ?_
  refine s_bipush (pc1 := 20) (tk (n := 8) t41_0 rfl) rfl rfl  ?_
  refine s_newa (pc1 := 22) (c := 20) (tk (n := 9) t41_0 rfl) rfl rfl rfl ?_
  refine s_putf2 (pc1 := 25) (c := 7) (tk (n := 10) t41_0 rfl) rfl rfl rfl rfl rfl ?_
  refine s_aload_n (pc1 := 26) (tk (n := 11) t41_0 rfl) rfl rfl rfl ?_
  refine s_bipush (pc1 := 28) (tk (n := 12) t41_0 rfl) rfl rfl  ?_
  refine s_newa (pc1 := 30) (c := 20) (tk (n := 13) t41_0 rfl) rfl rfl rfl ?_
  refine s_putf2 (pc1 := 33) (c := 7) (tk (n := 14) t41_0 rfl) rfl rfl rfl rfl rfl ?_
  refine s_aload_n (pc1 := 34) (tk (n := 15) t41_0 rfl) rfl rfl rfl ?_
  refine s_bipush (pc1 := 36) (tk (n := 16) t41_0 rfl) rfl rfl  ?_
  refine s_sipush (pc1 := 39) (tk (n := 17) t41_0 rfl) rfl rfl  ?_
  refine s_mna (pc1 := 43) (tk (n := 18) t41_0 rfl) rfl rfl  ?_
  refine s_putf2 (pc1 := 46) (c := 7) (tk (n := 19) t41_0 rfl) rfl rfl rfl rfl rfl ?_
  refine s_aload_n (pc1 := 47) (tk (n := 20) t41_0 rfl) rfl rfl rfl ?_
  refine s_iconst (pc1 := 48) (tk (n := 21) t41_0 rfl) rfl rfl  ?_
  refine s_newa (pc1 := 50) (c := 22) (tk (n := 22) t41_0 rfl) rfl rfl rfl ?_
  refine s_putf2 (pc1 := 53) (c := 7) (tk (n := 23) t41_0 rfl) rfl rfl rfl rfl rfl ?_
  exact s_ret (tk (n := 24) t41_0 rfl) rfl rfl rfl
set_option maxRecDepth 100000 in
set_option maxHeartbeats 4000000 in
theorem e_X7_open (x0 : Int) (x1 : Int) (h : Hq) : vm 42 [(2, x0), (2, x1)] h = if 0 < x1 ∧ (kd x1).1 = 5 then if (0 < x0 ∧ (kd x0).1 = 7) ∧ True then vp 42 10 [(2, x0), (2, x1), (0, 0)] [] (h.1, stm h.2 x0 5 (h.2 x1 5)) else none else none := by
  show vp 42 0 [(2, x0), (2, x1), (9, 0)] [] h = _
  refine s_aload_n (pc1 := 1) (tk (n := 0) t42_0 rfl) rfl rfl rfl ?_
  refine s_aload_n (pc1 := 2) (tk (n := 1) t42_0 rfl) rfl rfl rfl ?_
  refine s_getf (pc1 := 5) (c := 5) (t1 := 0) (tk (n := 2) t42_0 rfl) rfl rfl (by decide) rfl rfl ?_
  refine s_putf0 (pc1 := 8) (c := 7) (tk (n := 3) t42_0 rfl) rfl rfl rfl rfl rfl ?_
  refine s_iconst (pc1 := 9) (tk (n := 4) t42_0 rfl) rfl rfl  ?_
  refine s_istore_n (pc1 := 10) (ls1 := [(2, x0), (2, x1), (0, 0)]) (tk (n := 5) t42_0 rfl) rfl rfl rfl rfl ?_
  rfl
set_option maxRecDepth 100000 in
set_option maxHeartbeats 4000000 in
theorem e_X7_open_10 (x0 : Int) (x1 : Int) (x2 : Int) (h : Hq) : vp 42 10 [(2, x0), (2, x1), (0, x2)] [] h = if x2 ≥ 2 then (vp 42 30 [(2, x0), (2, x1), (0, 0)] [] h) else (if 0 < x0 ∧ (kd x0).1 = 7 then if 0 < (h.2 x0 4) ∧ (kd (h.2 x0 4)).1 = 22 ∧ 0 ≤ x2 ∧ x2 < (kd (h.2 x0 4)).2 then vp 42 10 [(2, x0), (2, x1), (0, w32 (x2 + 1))] [] (h.1, stm h.2 (h.2 x0 4) x2 (0 % 2)) else none else none) := by
  refine s_iload_n (pc1 := 11) (tk (n := 6) t42_0 rfl) rfl rfl rfl ?_
  refine s_iconst (pc1 := 12) (tk (n := 7) t42_0 rfl) rfl rfl  ?_
  refine s_ic_ge (pc1 := 15) (pt := 28) (tk (n := 8) t42_0 rfl) rfl rfl rfl ?_ ?_
  · refine s_iconst (pc1 := 29) (tk (n := 16) t42_0 rfl) rfl rfl  ?_
    refine s_istore_n (pc1 := 30) (ls1 := [(2, x0), (2, x1), (0, 0)]) (tk (n := 17) t42_0 rfl) rfl rfl rfl rfl ?_
    rfl
  · refine s_aload_n (pc1 := 16) (tk (n := 9) t42_0 rfl) rfl rfl rfl ?_
    refine s_getf (pc1 := 19) (c := 7) (t1 := 2) (tk (n := 10) t42_0 rfl) rfl rfl (by decide) rfl rfl ?_
    refine s_iload_n (pc1 := 20) (tk (n := 11) t42_0 rfl) rfl rfl rfl ?_
    refine s_iconst (pc1 := 21) (tk (n := 12) t42_0 rfl) rfl rfl  ?_
    refine s_bast2 (pc1 := 22) (tk (n := 13) t42_0 rfl) rfl rfl  ?_
    refine s_iinc (pc1 := 25) (ls1 := [(2, x0), (2, x1), (0, w32 (x2 + 1))]) (tk (n := 14) t42_0 rfl) rfl rfl rfl rfl ?_
    refine s_goto (pc1 := 10) (tk (n := 15) t42_0 rfl) rfl rfl ?_
    rfl
set_option maxRecDepth 100000 in
set_option maxHeartbeats 4000000 in
theorem e_X7_open_30 (x0 : Int) (x1 : Int) (x2 : Int) (h : Hq) : vp 42 30 [(2, x0), (2, x1), (0, x2)] [] h = if 0 < x0 ∧ (kd x0).1 = 7 then if x2 ≥ (h.2 x0 5) then (vp 42 96 [(2, x0), (2, x1), (0, 0)] [] h) else (if 0 < x0 ∧ (kd x0).1 = 7 then if 0 < x1 ∧ (kd x1).1 = 5 then if (kd (h.2 x1 1)).1 = 20 ∧ 0 ≤ x2 ∧ x2 < (kd (h.2 x1 1)).2 then if 0 < (h.2 x0 1) ∧ (kd (h.2 x0 1)).1 = 20 ∧ 0 ≤ x2 ∧ x2 < (kd (h.2 x0 1)).2 then if 0 < x0 ∧ (kd x0).1 = 7 then if 0 < x1 ∧ (kd x1).1 = 5 then if (kd ((stm h.2 (h.2 x0 1) x2 (h.2 (h.2 x1 1) x2)) x1 2)).1 = 20 ∧ 0 ≤ x2 ∧ x2 < (kd ((stm h.2 (h.2 x0 1) x2 (h.2 (h.2 x1 1) x2)) x1 2)).2 then if 0 < ((stm h.2 (h.2 x0 1) x2 (h.2 (h.2 x1 1) x2)) x0 2) ∧ (kd ((stm h.2 (h.2 x0 1) x2 (h.2 (h.2 x1 1) x2)) x0 2)).1 = 20 ∧ 0 ≤ x2 ∧ x2 < (kd ((stm h.2 (h.2 x0 1) x2 (h.2 (h.2 x1 1) x2)) x0 2)).2 then if 0 < x0 ∧ (kd x0).1 = 7 then if (kd ((stm (stm h.2 (h.2 x0 1) x2 (h.2 (h.2 x1 1) x2)) ((stm h.2 (h.2 x0 1) x2 (h.2 (h.2 x1 1) x2)) x0 2) x2 ((stm h.2 (h.2 x0 1) x2 (h.2 (h.2 x1 1) x2)) ((stm h.2 (h.2 x0 1) x2 (h.2 (h.2 x1 1) x2)) x1 2) x2)) x0 0)).1 = 24 ∧ 0 ≤ x2 ∧ x2 < (kd ((stm (stm h.2 (h.2 x0 1) x2 (h.2 (h.2 x1 1) x2)) ((stm h.2 (h.2 x0 1) x2 (h.2 (h.2 x1 1) x2)) x0 2) x2 ((stm h.2 (h.2 x0 1) x2 (h.2 (h.2 x1 1) x2)) ((stm h.2 (h.2 x0 1) x2 (h.2 (h.2 x1 1) x2)) x1 2) x2)) x0 0)).2 then if 0 < x0 ∧ (kd x0).1 = 7 then if (kd ((stm (stm h.2 (h.2 x0 1) x2 (h.2 (h.2 x1 1) x2)) ((stm h.2 (h.2 x0 1) x2 (h.2 (h.2 x1 1) x2)) x0 2) x2 ((stm h.2 (h.2 x0 1) x2 (h.2 (h.2 x1 1) x2)) ((stm h.2 (h.2 x0 1) x2 (h.2 (h.2 x1 1) x2)) x1 2) x2)) x0 1)).1 = 20 ∧ 0 ≤ x2 ∧ x2 < (kd ((stm (stm h.2 (h.2 x0 1) x2 (h.2 (h.2 x1 1) x2)) ((stm h.2 (h.2 x0 1) x2 (h.2 (h.2 x1 1) x2)) x0 2) x2 ((stm h.2 (h.2 x0 1) x2 (h.2 (h.2 x1 1) x2)) ((stm h.2 (h.2 x0 1) x2 (h.2 (h.2 x1 1) x2)) x1 2) x2)) x0 1)).2 then if ((stm (stm h.2 (h.2 x0 1) x2 (h.2 (h.2 x1 1) x2)) ((stm h.2 (h.2 x0 1) x2 (h.2 (h.2 x1 1) x2)) x0 2) x2 ((stm h.2 (h.2 x0 1) x2 (h.2 (h.2 x1 1) x2)) ((stm h.2 (h.2 x0 1) x2 (h.2 (h.2 x1 1) x2)) x1 2) x2)) ((stm (stm h.2 (h.2 x0 1) x2 (h.2 (h.2 x1 1) x2)) ((stm h.2 (h.2 x0 1) x2 (h.2 (h.2 x1 1) x2)) x0 2) x2 ((stm h.2 (h.2 x0 1) x2 (h.2 (h.2 x1 1) x2)) ((stm h.2 (h.2 x0 1) x2 (h.2 (h.2 x1 1) x2)) x1 2) x2)) x0 1) x2) < 8 then ((vm 321 [(2, (stm (stm h.2 (h.2 x0 1) x2 (h.2 (h.2 x1 1) x2)) ((stm h.2 (h.2 x0 1) x2 (h.2 (h.2 x1 1) x2)) x0 2) x2 ((stm h.2 (h.2 x0 1) x2 (h.2 (h.2 x1 1) x2)) ((stm h.2 (h.2 x0 1) x2 (h.2 (h.2 x1 1) x2)) x1 2) x2)) ((stm (stm h.2 (h.2 x0 1) x2 (h.2 (h.2 x1 1) x2)) ((stm h.2 (h.2 x0 1) x2 (h.2 (h.2 x1 1) x2)) x0 2) x2 ((stm h.2 (h.2 x0 1) x2 (h.2 (h.2 x1 1) x2)) ((stm h.2 (h.2 x0 1) x2 (h.2 (h.2 x1 1) x2)) x1 2) x2)) x0 0) x2), (0, 0)] (h.1, stm (stm h.2 (h.2 x0 1) x2 (h.2 (h.2 x1 1) x2)) ((stm h.2 (h.2 x0 1) x2 (h.2 (h.2 x1 1) x2)) x0 2) x2 ((stm h.2 (h.2 x0 1) x2 (h.2 (h.2 x1 1) x2)) ((stm h.2 (h.2 x0 1) x2 (h.2 (h.2 x1 1) x2)) x1 2) x2))).bind (fun r32 => vp 42 30 [(2, x0), (2, x1), (0, w32 (x2 + 1))] [] r32.2)) else ((vm 321 [(2, (stm (stm h.2 (h.2 x0 1) x2 (h.2 (h.2 x1 1) x2)) ((stm h.2 (h.2 x0 1) x2 (h.2 (h.2 x1 1) x2)) x0 2) x2 ((stm h.2 (h.2 x0 1) x2 (h.2 (h.2 x1 1) x2)) ((stm h.2 (h.2 x0 1) x2 (h.2 (h.2 x1 1) x2)) x1 2) x2)) ((stm (stm h.2 (h.2 x0 1) x2 (h.2 (h.2 x1 1) x2)) ((stm h.2 (h.2 x0 1) x2 (h.2 (h.2 x1 1) x2)) x0 2) x2 ((stm h.2 (h.2 x0 1) x2 (h.2 (h.2 x1 1) x2)) ((stm h.2 (h.2 x0 1) x2 (h.2 (h.2 x1 1) x2)) x1 2) x2)) x0 0) x2), (0, (-2147483648))] (h.1, stm (stm h.2 (h.2 x0 1) x2 (h.2 (h.2 x1 1) x2)) ((stm h.2 (h.2 x0 1) x2 (h.2 (h.2 x1 1) x2)) x0 2) x2 ((stm h.2 (h.2 x0 1) x2 (h.2 (h.2 x1 1) x2)) ((stm h.2 (h.2 x0 1) x2 (h.2 (h.2 x1 1) x2)) x1 2) x2))).bind (fun r33 => vp 42 30 [(2, x0), (2, x1), (0, w32 (x2 + 1))] [] r33.2)) else none else none else none else none else none else none else none else none else none else none else none else none) else none := by
  refine s_iload_n (pc1 := 31) (tk (n := 18) t42_0 rfl) rfl rfl rfl ?_
  refine s_aload_n (pc1 := 32) (tk (n := 19) t42_0 rfl) rfl rfl rfl ?_
  refine s_getf (pc1 := 35) (c := 7) (t1 := 0) (tk (n := 20) t42_0 rfl) rfl rfl (by decide) rfl rfl ?_
  refine s_ic_ge (pc1 := 38) (pt := 94) (tk (n := 21) t42_0 rfl) rfl rfl rfl ?_ ?_
  · refine s_iconst (pc1 := 95) (tk (n := 24) t42_1 rfl) rfl rfl  ?_
    refine s_istore_n (pc1 := 96) (ls1 := [(2, x0), (2, x1), (0, 0)]) (tk (n := 25) t42_1 rfl) rfl rfl rfl rfl ?_
    rfl
  · refine s_aload_n (pc1 := 39) (tk (n := 22) t42_0 rfl) rfl rfl rfl ?_
    refine s_getf (pc1 := 42) (c := 7) (t1 := 2) (tk (n := 23) t42_0 rfl) rfl rfl (by decide) rfl rfl ?_
    refine s_iload_n (pc1 := 43) (tk (n := 24) t42_0 rfl) rfl rfl rfl ?_
    refine s_aload_n (pc1 := 44) (tk (n := 25) t42_0 rfl) rfl rfl rfl ?_
    refine s_getf (pc1 := 47) (c := 5) (t1 := 2) (tk (n := 26) t42_0 rfl) rfl rfl (by decide) rfl rfl ?_
    refine s_iload_n (pc1 := 48) (tk (n := 27) t42_0 rfl) rfl rfl rfl ?_
    refine s_iald (pc1 := 49) (tk (n := 28) t42_0 rfl) rfl rfl  ?_
    refine s_iast (pc1 := 50) (tk (n := 29) t42_0 rfl) rfl rfl  ?_
    refine s_aload_n (pc1 := 51) (tk (n := 0) t42_1 rfl) rfl rfl rfl ?_
    refine s_getf (pc1 := 54) (c := 7) (t1 := 2) (tk (n := 1) t42_1 rfl) rfl rfl (by decide) rfl rfl ?_
    refine s_iload_n (pc1 := 55) (tk (n := 2) t42_1 rfl) rfl rfl rfl ?_
    refine s_aload_n (pc1 := 56) (tk (n := 3) t42_1 rfl) rfl rfl rfl ?_
    refine s_getf (pc1 := 59) (c := 5) (t1 := 2) (tk (n := 4) t42_1 rfl) rfl rfl (by decide) rfl rfl ?_
    refine s_iload_n (pc1 := 60) (tk (n := 5) t42_1 rfl) rfl rfl rfl ?_
    refine s_iald (pc1 := 61) (tk (n := 6) t42_1 rfl) rfl rfl  ?_
    refine s_iast (pc1 := 62) (tk (n := 7) t42_1 rfl) rfl rfl  ?_
    refine s_aload_n (pc1 := 63) (tk (n := 8) t42_1 rfl) rfl rfl rfl ?_
    refine s_getf (pc1 := 66) (c := 7) (t1 := 2) (tk (n := 9) t42_1 rfl) rfl rfl (by decide) rfl rfl ?_
    refine s_iload_n (pc1 := 67) (tk (n := 10) t42_1 rfl) rfl rfl rfl ?_
    refine s_aald (pc1 := 68) (c := 24) (tk (n := 11) t42_1 rfl) rfl rfl rfl ?_
    refine s_aload_n (pc1 := 69) (tk (n := 12) t42_1 rfl) rfl rfl rfl ?_
    refine s_getf (pc1 := 72) (c := 7) (t1 := 2) (tk (n := 13) t42_1 rfl) rfl rfl (by decide) rfl rfl ?_
    refine s_iload_n (pc1 := 73) (tk (n := 14) t42_1 rfl) rfl rfl rfl ?_
    refine s_iald (pc1 := 74) (tk (n := 15) t42_1 rfl) rfl rfl  ?_
    refine s_bipush (pc1 := 76) (tk (n := 16) t42_1 rfl) rfl rfl  ?_
    refine s_ic_lt (pc1 := 79) (pt := 84) (tk (n := 17) t42_1 rfl) rfl rfl rfl ?_ ?_
    · refine s_iconst (pc1 := 85) (tk (n := 20) t42_1 rfl) rfl rfl  ?_
      refine s_callS9 (as := [(2, (stm (stm h.2 (h.2 x0 1) x2 (h.2 (h.2 x1 1) x2)) ((stm h.2 (h.2 x0 1) x2 (h.2 (h.2 x1 1) x2)) x0 2) x2 ((stm h.2 (h.2 x0 1) x2 (h.2 (h.2 x1 1) x2)) ((stm h.2 (h.2 x0 1) x2 (h.2 (h.2 x1 1) x2)) x1 2) x2)) ((stm (stm h.2 (h.2 x0 1) x2 (h.2 (h.2 x1 1) x2)) ((stm h.2 (h.2 x0 1) x2 (h.2 (h.2 x1 1) x2)) x0 2) x2 ((stm h.2 (h.2 x0 1) x2 (h.2 (h.2 x1 1) x2)) ((stm h.2 (h.2 x0 1) x2 (h.2 (h.2 x1 1) x2)) x1 2) x2)) x0 0) x2), (0, 0)]) (st1 := []) (p1 := 88) (M2 := 321) (tk (n := 21) t42_1 rfl) rfl rfl rfl rfl rfl (fun r32 => ?_)
      refine s_iinc (pc1 := 91) (ls1 := [(2, x0), (2, x1), (0, w32 (x2 + 1))]) (tk (n := 22) t42_1 rfl) rfl rfl rfl rfl ?_
      refine s_goto (pc1 := 30) (tk (n := 23) t42_1 rfl) rfl rfl ?_
      rfl
    · refine s_ldc (pc1 := 81) (tk (n := 18) t42_1 rfl) rfl rfl  ?_
      refine s_goto (pc1 := 85) (tk (n := 19) t42_1 rfl) rfl rfl ?_
      refine s_callS9 (as := [(2, (stm (stm h.2 (h.2 x0 1) x2 (h.2 (h.2 x1 1) x2)) ((stm h.2 (h.2 x0 1) x2 (h.2 (h.2 x1 1) x2)) x0 2) x2 ((stm h.2 (h.2 x0 1) x2 (h.2 (h.2 x1 1) x2)) ((stm h.2 (h.2 x0 1) x2 (h.2 (h.2 x1 1) x2)) x1 2) x2)) ((stm (stm h.2 (h.2 x0 1) x2 (h.2 (h.2 x1 1) x2)) ((stm h.2 (h.2 x0 1) x2 (h.2 (h.2 x1 1) x2)) x0 2) x2 ((stm h.2 (h.2 x0 1) x2 (h.2 (h.2 x1 1) x2)) ((stm h.2 (h.2 x0 1) x2 (h.2 (h.2 x1 1) x2)) x1 2) x2)) x0 0) x2), (0, (-2147483648))]) (st1 := []) (p1 := 88) (M2 := 321) (tk (n := 21) t42_1 rfl) rfl rfl rfl rfl rfl (fun r33 => ?_)
      refine s_iinc (pc1 := 91) (ls1 := [(2, x0), (2, x1), (0, w32 (x2 + 1))]) (tk (n := 22) t42_1 rfl) rfl rfl rfl rfl ?_
      refine s_goto (pc1 := 30) (tk (n := 23) t42_1 rfl) rfl rfl ?_
      rfl
set_option maxRecDepth 100000 in
set_option maxHeartbeats 4000000 in
theorem e_X7_open_96 (x0 : Int) (x1 : Int) (x2 : Int) (h : Hq) : vp 42 96 [(2, x0), (2, x1), (0, x2)] [] h = if 0 < x1 ∧ (kd x1).1 = 5 then if x2 ≥ (h.2 x1 6) then (some (none, h)) else (if 0 < x1 ∧ (kd x1).1 = 5 then if (kd (h.2 x1 3)).1 = 25 ∧ 0 ≤ x2 ∧ x2 < (kd (h.2 x1 3)).2 then if 0 < x0 ∧ (kd x0).1 = 7 then if 0 < x1 ∧ (kd x1).1 = 5 then if (kd (h.2 x1 3)).1 = 25 ∧ 0 ≤ x2 ∧ x2 < (kd (h.2 x1 3)).2 then if 0 < (h.2 (h.2 x1 3) x2) ∧ (kd (h.2 (h.2 x1 3) x2)).1 = 10 then if (kd (h.2 x0 0)).1 = 24 ∧ 0 ≤ (h.2 (h.2 (h.2 x1 3) x2) 4) ∧ (h.2 (h.2 (h.2 x1 3) x2) 4) < (kd (h.2 x0 0)).2 then if (0 < (h.2 (h.2 x1 3) x2) ∧ (kd (h.2 (h.2 x1 3) x2)).1 = 10) ∧ True then vp 42 96 [(2, x0), (2, x1), (0, w32 (x2 + 1))] [] (h.1, stm h.2 (h.2 (h.2 x1 3) x2) 6 (h.2 (h.2 x0 0) (h.2 (h.2 (h.2 x1 3) x2) 4))) else none else none else none else none else none else none else none else none) else none := by
  refine s_iload_n (pc1 := 97) (tk (n := 26) t42_1 rfl) rfl rfl rfl ?_
  refine s_aload_n (pc1 := 98) (tk (n := 27) t42_1 rfl) rfl rfl rfl ?_
  refine s_getf (pc1 := 101) (c := 5) (t1 := 0) (tk (n := 28) t42_1 rfl) rfl rfl (by decide) rfl rfl ?_
  refine s_ic_ge (pc1 := 104) (pt := 133) (tk (n := 29) t42_1 rfl) rfl rfl rfl ?_ ?_
  · exact s_ret (tk (n := 15) t42_2 rfl) rfl rfl rfl
  · refine s_aload_n (pc1 := 105) (tk (n := 0) t42_2 rfl) rfl rfl rfl ?_
    refine s_getf (pc1 := 108) (c := 5) (t1 := 2) (tk (n := 1) t42_2 rfl) rfl rfl (by decide) rfl rfl ?_
    refine s_iload_n (pc1 := 109) (tk (n := 2) t42_2 rfl) rfl rfl rfl ?_
    refine s_aald (pc1 := 110) (c := 25) (tk (n := 3) t42_2 rfl) rfl rfl rfl ?_
    refine s_aload_n (pc1 := 111) (tk (n := 4) t42_2 rfl) rfl rfl rfl ?_
    refine s_getf (pc1 := 114) (c := 7) (t1 := 2) (tk (n := 5) t42_2 rfl) rfl rfl (by decide) rfl rfl ?_
    refine s_aload_n (pc1 := 115) (tk (n := 6) t42_2 rfl) rfl rfl rfl ?_
    refine s_getf (pc1 := 118) (c := 5) (t1 := 2) (tk (n := 7) t42_2 rfl) rfl rfl (by decide) rfl rfl ?_
    refine s_iload_n (pc1 := 119) (tk (n := 8) t42_2 rfl) rfl rfl rfl ?_
    refine s_aald (pc1 := 120) (c := 25) (tk (n := 9) t42_2 rfl) rfl rfl rfl ?_
    refine s_getf (pc1 := 123) (c := 10) (t1 := 0) (tk (n := 10) t42_2 rfl) rfl rfl (by decide) rfl rfl ?_
    refine s_aald (pc1 := 124) (c := 24) (tk (n := 11) t42_2 rfl) rfl rfl rfl ?_
    refine s_putf2 (pc1 := 127) (c := 10) (tk (n := 12) t42_2 rfl) rfl rfl rfl rfl rfl ?_
    refine s_iinc (pc1 := 130) (ls1 := [(2, x0), (2, x1), (0, w32 (x2 + 1))]) (tk (n := 13) t42_2 rfl) rfl rfl rfl rfl ?_
    refine s_goto (pc1 := 96) (tk (n := 14) t42_2 rfl) rfl rfl ?_
    rfl
set_option maxRecDepth 100000 in
set_option maxHeartbeats 4000000 in
theorem e_X7_widens (x0 : Int) (x1 : Int) (h : Hq) : vm 43 [(0, x0), (0, x1)] h = if x0 < 0 then (some (some (0, 0), h)) else (if x0 > 7 then (some (some (0, 0), h)) else (if (kd (-2)).1 = 20 ∧ 0 ≤ x0 ∧ x0 < (kd (-2)).2 then if (band (bshr (h.2 (-2) x0) x1) 1) = 0 then (some (some (0, 0), h)) else (some (some (0, 1), h)) else none)) := by
  show vp 43 0 [(0, x0), (0, x1)] [] h = _
  refine s_iload_n (pc1 := 1) (tk (n := 0) t43_0 rfl) rfl rfl rfl ?_
  refine s_if_lt (pc1 := 4) (pt := 26) (tk (n := 1) t43_0 rfl) rfl rfl rfl ?_ ?_
  · refine s_iconst (pc1 := 27) (tk (n := 15) t43_0 rfl) rfl rfl  ?_
    exact s_retY (tk (n := 16) t43_0 rfl) rfl rfl rfl (by decide)
  · refine s_iload_n (pc1 := 5) (tk (n := 2) t43_0 rfl) rfl rfl rfl ?_
    refine s_bipush (pc1 := 7) (tk (n := 3) t43_0 rfl) rfl rfl  ?_
    refine s_ic_gt (pc1 := 10) (pt := 26) (tk (n := 4) t43_0 rfl) rfl rfl rfl ?_ ?_
    · refine s_iconst (pc1 := 27) (tk (n := 15) t43_0 rfl) rfl rfl  ?_
      exact s_retY (tk (n := 16) t43_0 rfl) rfl rfl rfl (by decide)
    · refine s_gets (pc1 := 13) (v := (2, (-2))) (tk (n := 5) t43_0 rfl) rfl rfl rfl ?_
      refine s_iload_n (pc1 := 14) (tk (n := 6) t43_0 rfl) rfl rfl rfl ?_
      refine s_iald (pc1 := 15) (tk (n := 7) t43_0 rfl) rfl rfl  ?_
      refine s_iload_n (pc1 := 16) (tk (n := 8) t43_0 rfl) rfl rfl rfl ?_
      refine s_ishr (pc1 := 17) (tk (n := 9) t43_0 rfl) rfl rfl  ?_
      refine s_iconst (pc1 := 18) (tk (n := 10) t43_0 rfl) rfl rfl  ?_
      refine s_iand (pc1 := 19) (tk (n := 11) t43_0 rfl) rfl rfl  ?_
      refine s_if_eq (pc1 := 22) (pt := 26) (tk (n := 12) t43_0 rfl) rfl rfl rfl ?_ ?_
      · refine s_iconst (pc1 := 27) (tk (n := 15) t43_0 rfl) rfl rfl  ?_
        exact s_retY (tk (n := 16) t43_0 rfl) rfl rfl rfl (by decide)
      · refine s_iconst (pc1 := 23) (tk (n := 13) t43_0 rfl) rfl rfl  ?_
        refine s_goto (pc1 := 27) (tk (n := 14) t43_0 rfl) rfl rfl ?_
        exact s_retY (tk (n := 16) t43_0 rfl) rfl rfl rfl (by decide)
set_option maxRecDepth 100000 in
set_option maxHeartbeats 4000000 in
theorem e_X7_cut (x0 : Int) (x1 : Int) (h : Hq) : vm 44 [(0, x0), (0, x1)] h = if x0 = 0 then (if x1 = 0 then (some (some (0, 0), h)) else (some (some (0, 1), h))) else (if x0 = 1 then (some (some (0, w8 x1), h)) else (if x0 = 2 then (some (some (0, x1 % 65536), h)) else (if x0 = 3 then (some (some (0, w16 x1), h)) else (some (some (0, x1), h))))) := by
  show vp 44 0 [(0, x0), (0, x1)] [] h = _
  refine s_iload_n (pc1 := 1) (tk (n := 0) t44_0 rfl) rfl rfl rfl ?_
  refine s_sw (x := x0) (cs := [(0, 32), (1, 42), (2, 45), (3, 48)]) (p0 := 51) (st1 := []) (tk (n := 1) t44_0 rfl) rfl rfl ?_
  refine s_swC (p1 := 32) rfl ?_ ?_
  · refine s_iload_n (pc1 := 33) (tk (n := 2) t44_0 rfl) rfl rfl rfl ?_
    refine s_if_eq (pc1 := 36) (pt := 40) (tk (n := 3) t44_0 rfl) rfl rfl rfl ?_ ?_
    · refine s_iconst (pc1 := 41) (tk (n := 6) t44_0 rfl) rfl rfl  ?_
      exact s_ret (tk (n := 7) t44_0 rfl) rfl rfl rfl
    · refine s_iconst (pc1 := 37) (tk (n := 4) t44_0 rfl) rfl rfl  ?_
      refine s_goto (pc1 := 41) (tk (n := 5) t44_0 rfl) rfl rfl ?_
      exact s_ret (tk (n := 7) t44_0 rfl) rfl rfl rfl
  refine s_swC (p1 := 42) rfl ?_ ?_
  · refine s_iload_n (pc1 := 43) (tk (n := 8) t44_0 rfl) rfl rfl rfl ?_
    refine s_i2b (pc1 := 44) (tk (n := 9) t44_0 rfl) rfl rfl  ?_
    exact s_ret (tk (n := 10) t44_0 rfl) rfl rfl rfl
  refine s_swC (p1 := 45) rfl ?_ ?_
  · refine s_iload_n (pc1 := 46) (tk (n := 11) t44_0 rfl) rfl rfl rfl ?_
    refine s_i2c (pc1 := 47) (tk (n := 12) t44_0 rfl) rfl rfl  ?_
    exact s_ret (tk (n := 13) t44_0 rfl) rfl rfl rfl
  refine s_swC (p1 := 48) rfl ?_ ?_
  · refine s_iload_n (pc1 := 49) (tk (n := 14) t44_0 rfl) rfl rfl rfl ?_
    refine s_i2s (pc1 := 50) (tk (n := 15) t44_0 rfl) rfl rfl  ?_
    exact s_ret (tk (n := 16) t44_0 rfl) rfl rfl rfl
  refine s_swN (d1 := 51) rfl ?_
  refine s_iload_n (pc1 := 52) (tk (n := 17) t44_0 rfl) rfl rfl rfl ?_
  exact s_ret (tk (n := 18) t44_0 rfl) rfl rfl rfl
set_option maxRecDepth 100000 in
set_option maxHeartbeats 4000000 in
theorem e_X7_has (x0 : Int) (x1 : Int) (h : Hq) : vm 45 [(2, x0), (0, x1)] h = if x1 < 0 then (some (some (0, 0), h)) else (if 0 < x0 ∧ (kd x0).1 = 7 then if x1 ≥ (h.2 x0 5) then (some (some (0, 0), h)) else (some (some (0, 1), h)) else none) := by
  show vp 45 0 [(2, x0), (0, x1)] [] h = _
  refine s_iload_n (pc1 := 1) (tk (n := 0) t45_0 rfl) rfl rfl rfl ?_
  refine s_if_lt (pc1 := 4) (pt := 16) (tk (n := 1) t45_0 rfl) rfl rfl rfl ?_ ?_
  · refine s_iconst (pc1 := 17) (tk (n := 8) t45_0 rfl) rfl rfl  ?_
    exact s_retY (tk (n := 9) t45_0 rfl) rfl rfl rfl (by decide)
  · refine s_iload_n (pc1 := 5) (tk (n := 2) t45_0 rfl) rfl rfl rfl ?_
    refine s_aload_n (pc1 := 6) (tk (n := 3) t45_0 rfl) rfl rfl rfl ?_
    refine s_getf (pc1 := 9) (c := 7) (t1 := 0) (tk (n := 4) t45_0 rfl) rfl rfl (by decide) rfl rfl ?_
    refine s_ic_ge (pc1 := 12) (pt := 16) (tk (n := 5) t45_0 rfl) rfl rfl rfl ?_ ?_
    · refine s_iconst (pc1 := 17) (tk (n := 8) t45_0 rfl) rfl rfl  ?_
      exact s_retY (tk (n := 9) t45_0 rfl) rfl rfl rfl (by decide)
    · refine s_iconst (pc1 := 13) (tk (n := 6) t45_0 rfl) rfl rfl  ?_
      refine s_goto (pc1 := 17) (tk (n := 7) t45_0 rfl) rfl rfl ?_
      exact s_retY (tk (n := 9) t45_0 rfl) rfl rfl rfl (by decide)
set_option maxRecDepth 100000 in
set_option maxHeartbeats 4000000 in
theorem e_X7_isRow (x0 : Int) (x1 : Int) (h : Hq) : vm 46 [(2, x0), (0, x1)] h = if 0 < x0 ∧ (kd x0).1 = 7 then (vm 45 [(2, x0), (0, x1)] h).bind (fun r3 => if (vx r3) = 0 then (some (some (0, 0), r3.2)) else (if 0 < x0 ∧ (kd x0).1 = 7 then if (kd (r3.2.2 x0 1)).1 = 20 ∧ 0 ≤ x1 ∧ x1 < (kd (r3.2.2 x0 1)).2 then if (r3.2.2 (r3.2.2 x0 1) x1) > 9 then (some (some (0, 0), r3.2)) else (some (some (0, 1), r3.2)) else none else none)) else none := by
  show vp 46 0 [(2, x0), (0, x1)] [] h = _
  refine s_aload_n (pc1 := 1) (tk (n := 0) t46_0 rfl) rfl rfl rfl ?_
  refine s_iload_n (pc1 := 2) (tk (n := 1) t46_0 rfl) rfl rfl rfl ?_
  refine s_call0 (as := [(2, x0), (0, x1)]) (st1 := []) (p1 := 5) (M2 := 45) (tk (n := 2) t46_0 rfl) rfl rfl rfl rfl rfl (fun r3 => ?_)
  refine s_if_eq (pc1 := 8) (pt := 23) (tk (n := 3) t46_0 rfl) rfl rfl rfl ?_ ?_
  · refine s_iconst (pc1 := 24) (tk (n := 12) t46_0 rfl) rfl rfl  ?_
    exact s_retY (tk (n := 13) t46_0 rfl) rfl rfl rfl (by decide)
  · refine s_aload_n (pc1 := 9) (tk (n := 4) t46_0 rfl) rfl rfl rfl ?_
    refine s_getf (pc1 := 12) (c := 7) (t1 := 2) (tk (n := 5) t46_0 rfl) rfl rfl (by decide) rfl rfl ?_
    refine s_iload_n (pc1 := 13) (tk (n := 6) t46_0 rfl) rfl rfl rfl ?_
    refine s_iald (pc1 := 14) (tk (n := 7) t46_0 rfl) rfl rfl  ?_
    refine s_bipush (pc1 := 16) (tk (n := 8) t46_0 rfl) rfl rfl  ?_
    refine s_ic_gt (pc1 := 19) (pt := 23) (tk (n := 9) t46_0 rfl) rfl rfl rfl ?_ ?_
    · refine s_iconst (pc1 := 24) (tk (n := 12) t46_0 rfl) rfl rfl  ?_
      exact s_retY (tk (n := 13) t46_0 rfl) rfl rfl rfl (by decide)
    · refine s_iconst (pc1 := 20) (tk (n := 10) t46_0 rfl) rfl rfl  ?_
      refine s_goto (pc1 := 24) (tk (n := 11) t46_0 rfl) rfl rfl ?_
      exact s_retY (tk (n := 13) t46_0 rfl) rfl rfl rfl (by decide)
set_option maxRecDepth 100000 in
set_option maxHeartbeats 4000000 in
theorem e_X7_numberAt (x0 : Int) (x1 : Int) (x2 : Int) (h : Hq) : vm 47 [(2, x0), (0, x1), (0, x2)] h = if 0 < x0 ∧ (kd x0).1 = 7 then if (kd (h.2 x0 0)).1 = 24 ∧ 0 ≤ x1 ∧ x1 < (kd (h.2 x0 0)).2 then if (kd (h.2 (h.2 x0 0) x1)).1 = 20 ∧ 0 ≤ x2 ∧ x2 < (kd (h.2 (h.2 x0 0) x1)).2 then if (h.2 (h.2 (h.2 x0 0) x1) x2) ≠ (-2147483648) then (some (some (0, h.2 (h.2 (h.2 x0 0) x1) x2), h)) else (some (some (0, (-1)), h)) else none else none else none := by
  show vp 47 0 [(2, x0), (0, x1), (0, x2), (9, 0)] [] h = _
  refine s_aload_n (pc1 := 1) (tk (n := 0) t47_0 rfl) rfl rfl rfl ?_
  refine s_getf (pc1 := 4) (c := 7) (t1 := 2) (tk (n := 1) t47_0 rfl) rfl rfl (by decide) rfl rfl ?_
  refine s_iload_n (pc1 := 5) (tk (n := 2) t47_0 rfl) rfl rfl rfl ?_
  refine s_aald (pc1 := 6) (c := 24) (tk (n := 3) t47_0 rfl) rfl rfl rfl ?_
  refine s_iload_n (pc1 := 7) (tk (n := 4) t47_0 rfl) rfl rfl rfl ?_
  refine s_iald (pc1 := 8) (tk (n := 5) t47_0 rfl) rfl rfl  ?_
  refine s_istore_n (pc1 := 9) (ls1 := [(2, x0), (0, x1), (0, x2), (0, h.2 (h.2 (h.2 x0 0) x1) x2)]) (tk (n := 6) t47_0 rfl) rfl rfl rfl rfl ?_
  refine s_iload_n (pc1 := 10) (tk (n := 7) t47_0 rfl) rfl rfl rfl ?_
  refine s_ldc (pc1 := 12) (tk (n := 8) t47_0 rfl) rfl rfl  ?_
  refine s_ic_ne (pc1 := 15) (pt := 19) (tk (n := 9) t47_0 rfl) rfl rfl rfl ?_ ?_
  · refine s_iload_n (pc1 := 20) (tk (n := 12) t47_0 rfl) rfl rfl rfl ?_
    exact s_ret (tk (n := 13) t47_0 rfl) rfl rfl rfl
  · refine s_iconst (pc1 := 16) (tk (n := 10) t47_0 rfl) rfl rfl  ?_
    refine s_goto (pc1 := 20) (tk (n := 11) t47_0 rfl) rfl rfl ?_
    exact s_ret (tk (n := 13) t47_0 rfl) rfl rfl rfl
set_option maxRecDepth 100000 in
set_option maxHeartbeats 4000000 in
theorem e_X7_boxAt (x0 : Int) (x1 : Int) (x2 : Int) (h : Hq) : vm 48 [(2, x0), (0, x1), (0, x2)] h = if 0 < x0 ∧ (kd x0).1 = 7 then if (kd (h.2 x0 1)).1 = 20 ∧ 0 ≤ x1 ∧ x1 < (kd (h.2 x0 1)).2 then if (h.2 (h.2 x0 1) x1) < 8 then (some (some (0, w32 ((h.2 (h.2 x0 1) x1) + 1)), h)) else (if 0 < x0 ∧ (kd x0).1 = 7 then if (kd (h.2 x0 0)).1 = 24 ∧ 0 ≤ x1 ∧ x1 < (kd (h.2 x0 0)).2 then if (kd (h.2 (h.2 x0 0) x1)).1 = 20 ∧ 0 ≤ x2 ∧ x2 < (kd (h.2 (h.2 x0 0) x1)).2 then if (h.2 (h.2 (h.2 x0 0) x1) x2) ≠ (-2147483648) then (some (some (0, w32 ((h.2 (h.2 x0 1) x1) + 1)), h)) else (some (some (0, 0), h)) else none else none else none) else none else none := by
  show vp 48 0 [(2, x0), (0, x1), (0, x2), (9, 0)] [] h = _
  refine s_aload_n (pc1 := 1) (tk (n := 0) t48_0 rfl) rfl rfl rfl ?_
  refine s_getf (pc1 := 4) (c := 7) (t1 := 2) (tk (n := 1) t48_0 rfl) rfl rfl (by decide) rfl rfl ?_
  refine s_iload_n (pc1 := 5) (tk (n := 2) t48_0 rfl) rfl rfl rfl ?_
  refine s_iald (pc1 := 6) (tk (n := 3) t48_0 rfl) rfl rfl  ?_
  refine s_istore_n (pc1 := 7) (ls1 := [(2, x0), (0, x1), (0, x2), (0, h.2 (h.2 x0 1) x1)]) (tk (n := 4) t48_0 rfl) rfl rfl rfl rfl ?_
  refine s_iload_n (pc1 := 8) (tk (n := 5) t48_0 rfl) rfl rfl rfl ?_
  refine s_bipush (pc1 := 10) (tk (n := 6) t48_0 rfl) rfl rfl  ?_
  refine s_ic_lt (pc1 := 13) (pt := 30) (tk (n := 7) t48_0 rfl) rfl rfl rfl ?_ ?_
  · refine s_iload_n (pc1 := 31) (tk (n := 18) t48_0 rfl) rfl rfl rfl ?_
    refine s_iconst (pc1 := 32) (tk (n := 19) t48_0 rfl) rfl rfl  ?_
    refine s_iadd (pc1 := 33) (tk (n := 20) t48_0 rfl) rfl rfl  ?_
    exact s_ret (tk (n := 21) t48_0 rfl) rfl rfl rfl
  · refine s_aload_n (pc1 := 14) (tk (n := 8) t48_0 rfl) rfl rfl rfl ?_
    refine s_getf (pc1 := 17) (c := 7) (t1 := 2) (tk (n := 9) t48_0 rfl) rfl rfl (by decide) rfl rfl ?_
    refine s_iload_n (pc1 := 18) (tk (n := 10) t48_0 rfl) rfl rfl rfl ?_
    refine s_aald (pc1 := 19) (c := 24) (tk (n := 11) t48_0 rfl) rfl rfl rfl ?_
    refine s_iload_n (pc1 := 20) (tk (n := 12) t48_0 rfl) rfl rfl rfl ?_
    refine s_iald (pc1 := 21) (tk (n := 13) t48_0 rfl) rfl rfl  ?_
    refine s_ldc (pc1 := 23) (tk (n := 14) t48_0 rfl) rfl rfl  ?_
    refine s_ic_ne (pc1 := 26) (pt := 30) (tk (n := 15) t48_0 rfl) rfl rfl rfl ?_ ?_
    · refine s_iload_n (pc1 := 31) (tk (n := 18) t48_0 rfl) rfl rfl rfl ?_
      refine s_iconst (pc1 := 32) (tk (n := 19) t48_0 rfl) rfl rfl  ?_
      refine s_iadd (pc1 := 33) (tk (n := 20) t48_0 rfl) rfl rfl  ?_
      exact s_ret (tk (n := 21) t48_0 rfl) rfl rfl rfl
    · refine s_iconst (pc1 := 27) (tk (n := 16) t48_0 rfl) rfl rfl  ?_
      refine s_goto (pc1 := 33) (tk (n := 17) t48_0 rfl) rfl rfl ?_
      exact s_ret (tk (n := 21) t48_0 rfl) rfl rfl rfl
set_option maxRecDepth 100000 in
set_option maxHeartbeats 4000000 in
theorem e_X7_sumOf (x0 : Int) (x1 : Int) (h : Hq) : vm 49 [(2, x0), (0, x1)] h = vp 49 5 [(2, x0), (0, x1), (1, 0), (9, 0), (0, 0)] [] h := by
  show vp 49 0 [(2, x0), (0, x1), (9, 0), (9, 0), (9, 0)] [] h = _
  refine s_lconst (pc1 := 1) (v := 0) (tk (n := 0) t49_0 rfl) rfl rfl rfl ?_
  refine s_lstore_n (pc1 := 2) (ls1 := [(2, x0), (0, x1), (1, 0), (9, 0), (9, 0)]) (tk (n := 1) t49_0 rfl) rfl rfl rfl rfl ?_
  refine s_iconst (pc1 := 3) (tk (n := 2) t49_0 rfl) rfl rfl  ?_
  refine s_istore (pc1 := 5) (ls1 := [(2, x0), (0, x1), (1, 0), (9, 0), (0, 0)]) (tk (n := 3) t49_0 rfl) rfl rfl rfl rfl ?_
  rfl
set_option maxRecDepth 100000 in
set_option maxHeartbeats 4000000 in
theorem e_X7_sumOf_5 (x0 : Int) (x1 : Int) (x2 : Int) (x4 : Int) (h : Hq) : vp 49 5 [(2, x0), (0, x1), (1, x2), (9, 0), (0, x4)] [] h = if 0 < x0 ∧ (kd x0).1 = 7 then if (kd (h.2 x0 2)).1 = 20 ∧ 0 ≤ x1 ∧ x1 < (kd (h.2 x0 2)).2 then if x4 ≥ (h.2 (h.2 x0 2) x1) then (some (some (1, x2), h)) else (if 0 < x0 ∧ (kd x0).1 = 7 then (vm 47 [(2, x0), (0, x1), (0, x4)] h).bind (fun r11 => vp 49 5 [(2, x0), (0, x1), (1, w64 (x2 + (vx r11))), (9, 0), (0, w32 (x4 + 1))] [] r11.2) else none) else none else none := by
  refine s_iload (pc1 := 7) (tk (n := 4) t49_0 rfl) rfl rfl rfl ?_
  refine s_aload_n (pc1 := 8) (tk (n := 5) t49_0 rfl) rfl rfl rfl ?_
  refine s_getf (pc1 := 11) (c := 7) (t1 := 2) (tk (n := 6) t49_0 rfl) rfl rfl (by decide) rfl rfl ?_
  refine s_iload_n (pc1 := 12) (tk (n := 7) t49_0 rfl) rfl rfl rfl ?_
  refine s_iald (pc1 := 13) (tk (n := 8) t49_0 rfl) rfl rfl  ?_
  refine s_ic_ge (pc1 := 16) (pt := 33) (tk (n := 9) t49_0 rfl) rfl rfl rfl ?_ ?_
  · refine s_lload_n (pc1 := 34) (tk (n := 20) t49_0 rfl) rfl rfl rfl ?_
    exact s_ret (tk (n := 21) t49_0 rfl) rfl rfl rfl
  · refine s_lload_n (pc1 := 17) (tk (n := 10) t49_0 rfl) rfl rfl rfl ?_
    refine s_aload_n (pc1 := 18) (tk (n := 11) t49_0 rfl) rfl rfl rfl ?_
    refine s_iload_n (pc1 := 19) (tk (n := 12) t49_0 rfl) rfl rfl rfl ?_
    refine s_iload (pc1 := 21) (tk (n := 13) t49_0 rfl) rfl rfl rfl ?_
    refine s_call0 (as := [(2, x0), (0, x1), (0, x4)]) (st1 := [(1, x2)]) (p1 := 24) (M2 := 47) (tk (n := 14) t49_0 rfl) rfl rfl rfl rfl rfl (fun r11 => ?_)
    refine s_i2l (pc1 := 25) (tk (n := 15) t49_0 rfl) rfl rfl  ?_
    refine s_ladd (pc1 := 26) (tk (n := 16) t49_0 rfl) rfl rfl  ?_
    refine s_lstore_n (pc1 := 27) (ls1 := [(2, x0), (0, x1), (1, w64 (x2 + (vx r11))), (9, 0), (0, x4)]) (tk (n := 17) t49_0 rfl) rfl rfl rfl rfl ?_
    refine s_iinc (pc1 := 30) (ls1 := [(2, x0), (0, x1), (1, w64 (x2 + (vx r11))), (9, 0), (0, w32 (x4 + 1))]) (tk (n := 18) t49_0 rfl) rfl rfl rfl rfl ?_
    refine s_goto (pc1 := 5) (tk (n := 19) t49_0 rfl) rfl rfl ?_
    rfl
set_option maxRecDepth 100000 in
set_option maxHeartbeats 4000000 in
theorem e_X7_placeCount (x0 : Int) (h : Hq) : vm 50 [(2, x0)] h = vp 50 4 [(2, x0), (0, 0), (0, 0)] [] h := by
  show vp 50 0 [(2, x0), (9, 0), (9, 0)] [] h = _
  refine s_iconst (pc1 := 1) (tk (n := 0) t50_0 rfl) rfl rfl  ?_
  refine s_istore_n (pc1 := 2) (ls1 := [(2, x0), (0, 0), (9, 0)]) (tk (n := 1) t50_0 rfl) rfl rfl rfl rfl ?_
  refine s_iconst (pc1 := 3) (tk (n := 2) t50_0 rfl) rfl rfl  ?_
  refine s_istore_n (pc1 := 4) (ls1 := [(2, x0), (0, 0), (0, 0)]) (tk (n := 3) t50_0 rfl) rfl rfl rfl rfl ?_
  rfl
set_option maxRecDepth 100000 in
set_option maxHeartbeats 4000000 in
theorem e_X7_placeCount_4 (x0 : Int) (x1 : Int) (x2 : Int) (h : Hq) : vp 50 4 [(2, x0), (0, x1), (0, x2)] [] h = if 0 < x0 ∧ (kd x0).1 = 7 then if x2 ≥ (h.2 x0 5) then (some (some (0, x1), h)) else (if 0 < x0 ∧ (kd x0).1 = 7 then if (kd (h.2 x0 2)).1 = 20 ∧ 0 ≤ x2 ∧ x2 < (kd (h.2 x0 2)).2 then vp 50 4 [(2, x0), (0, w32 (x1 + (h.2 (h.2 x0 2) x2))), (0, w32 (x2 + 1))] [] h else none else none) else none := by
  refine s_iload_n (pc1 := 5) (tk (n := 4) t50_0 rfl) rfl rfl rfl ?_
  refine s_aload_n (pc1 := 6) (tk (n := 5) t50_0 rfl) rfl rfl rfl ?_
  refine s_getf (pc1 := 9) (c := 7) (t1 := 0) (tk (n := 6) t50_0 rfl) rfl rfl (by decide) rfl rfl ?_
  refine s_ic_ge (pc1 := 12) (pt := 27) (tk (n := 7) t50_0 rfl) rfl rfl rfl ?_ ?_
  · refine s_iload_n (pc1 := 28) (tk (n := 17) t50_0 rfl) rfl rfl rfl ?_
    exact s_ret (tk (n := 18) t50_0 rfl) rfl rfl rfl
  · refine s_iload_n (pc1 := 13) (tk (n := 8) t50_0 rfl) rfl rfl rfl ?_
    refine s_aload_n (pc1 := 14) (tk (n := 9) t50_0 rfl) rfl rfl rfl ?_
    refine s_getf (pc1 := 17) (c := 7) (t1 := 2) (tk (n := 10) t50_0 rfl) rfl rfl (by decide) rfl rfl ?_
    refine s_iload_n (pc1 := 18) (tk (n := 11) t50_0 rfl) rfl rfl rfl ?_
    refine s_iald (pc1 := 19) (tk (n := 12) t50_0 rfl) rfl rfl  ?_
    refine s_iadd (pc1 := 20) (tk (n := 13) t50_0 rfl) rfl rfl  ?_
    refine s_istore_n (pc1 := 21) (ls1 := [(2, x0), (0, w32 (x1 + (h.2 (h.2 x0 2) x2))), (0, x2)]) (tk (n := 14) t50_0 rfl) rfl rfl rfl rfl ?_
    refine s_iinc (pc1 := 24) (ls1 := [(2, x0), (0, w32 (x1 + (h.2 (h.2 x0 2) x2))), (0, w32 (x2 + 1))]) (tk (n := 15) t50_0 rfl) rfl rfl rfl rfl ?_
    refine s_goto (pc1 := 4) (tk (n := 16) t50_0 rfl) rfl rfl ?_
    rfl
set_option maxRecDepth 100000 in
set_option maxHeartbeats 4000000 in
theorem e_X7_refusedRow (x0 : Int) (x1 : Int) (x2 : Int) (h : Hq) : vm 51 [(2, x0), (0, x1), (0, x2)] h = if 0 < x0 ∧ (kd x0).1 = 7 then if (kd (h.2 x0 1)).1 = 20 ∧ 0 ≤ x1 ∧ x1 < (kd (h.2 x0 1)).2 then if (h.2 (h.2 x0 1) x1) ≠ 11 then (if 0 < x0 ∧ (kd x0).1 = 7 then if (kd (h.2 x0 1)).1 = 20 ∧ 0 ≤ x1 ∧ x1 < (kd (h.2 x0 1)).2 then if (h.2 (h.2 x0 1) x1) = 10 then (some (some (0, 2), h)) else (if x2 = 0 then (some (some (0, 0), h)) else (if 0 < x0 ∧ (kd x0).1 = 7 then if (kd (h.2 x0 1)).1 = 20 ∧ 0 ≤ x1 ∧ x1 < (kd (h.2 x0 1)).2 then if (h.2 (h.2 x0 1) x1) < 8 then (some (some (0, 0), h)) else (some (some (0, 2), h)) else none else none)) else none else none) else (some (some (0, 3), h)) else none else none := by
  show vp 51 0 [(2, x0), (0, x1), (0, x2)] [] h = _
  refine s_aload_n (pc1 := 1) (tk (n := 0) t51_0 rfl) rfl rfl rfl ?_
  refine s_getf (pc1 := 4) (c := 7) (t1 := 2) (tk (n := 1) t51_0 rfl) rfl rfl (by decide) rfl rfl ?_
  refine s_iload_n (pc1 := 5) (tk (n := 2) t51_0 rfl) rfl rfl rfl ?_
  refine s_iald (pc1 := 6) (tk (n := 3) t51_0 rfl) rfl rfl  ?_
  refine s_bipush (pc1 := 8) (tk (n := 4) t51_0 rfl) rfl rfl  ?_
  refine s_ic_ne (pc1 := 11) (pt := 13) (tk (n := 5) t51_0 rfl) rfl rfl rfl ?_ ?_
  · refine s_aload_n (pc1 := 14) (tk (n := 8) t51_0 rfl) rfl rfl rfl ?_
    refine s_getf (pc1 := 17) (c := 7) (t1 := 2) (tk (n := 9) t51_0 rfl) rfl rfl (by decide) rfl rfl ?_
    refine s_iload_n (pc1 := 18) (tk (n := 10) t51_0 rfl) rfl rfl rfl ?_
    refine s_iald (pc1 := 19) (tk (n := 11) t51_0 rfl) rfl rfl  ?_
    refine s_bipush (pc1 := 21) (tk (n := 12) t51_0 rfl) rfl rfl  ?_
    refine s_ic_eq (pc1 := 24) (pt := 39) (tk (n := 13) t51_0 rfl) rfl rfl rfl ?_ ?_
    · refine s_iconst (pc1 := 40) (tk (n := 22) t51_0 rfl) rfl rfl  ?_
      refine s_goto (pc1 := 44) (tk (n := 23) t51_0 rfl) rfl rfl ?_
      exact s_ret (tk (n := 25) t51_0 rfl) rfl rfl rfl
    · refine s_iload_n (pc1 := 25) (tk (n := 14) t51_0 rfl) rfl rfl rfl ?_
      refine s_if_eq (pc1 := 28) (pt := 43) (tk (n := 15) t51_0 rfl) rfl rfl rfl ?_ ?_
      · refine s_iconst (pc1 := 44) (tk (n := 24) t51_0 rfl) rfl rfl  ?_
        exact s_ret (tk (n := 25) t51_0 rfl) rfl rfl rfl
      · refine s_aload_n (pc1 := 29) (tk (n := 16) t51_0 rfl) rfl rfl rfl ?_
        refine s_getf (pc1 := 32) (c := 7) (t1 := 2) (tk (n := 17) t51_0 rfl) rfl rfl (by decide) rfl rfl ?_
        refine s_iload_n (pc1 := 33) (tk (n := 18) t51_0 rfl) rfl rfl rfl ?_
        refine s_iald (pc1 := 34) (tk (n := 19) t51_0 rfl) rfl rfl  ?_
        refine s_bipush (pc1 := 36) (tk (n := 20) t51_0 rfl) rfl rfl  ?_
        refine s_ic_lt (pc1 := 39) (pt := 43) (tk (n := 21) t51_0 rfl) rfl rfl rfl ?_ ?_
        · refine s_iconst (pc1 := 44) (tk (n := 24) t51_0 rfl) rfl rfl  ?_
          exact s_ret (tk (n := 25) t51_0 rfl) rfl rfl rfl
        · refine s_iconst (pc1 := 40) (tk (n := 22) t51_0 rfl) rfl rfl  ?_
          refine s_goto (pc1 := 44) (tk (n := 23) t51_0 rfl) rfl rfl ?_
          exact s_ret (tk (n := 25) t51_0 rfl) rfl rfl rfl
  · refine s_iconst (pc1 := 12) (tk (n := 6) t51_0 rfl) rfl rfl  ?_
    exact s_ret (tk (n := 7) t51_0 rfl) rfl rfl rfl
set_option maxRecDepth 100000 in
set_option maxHeartbeats 4000000 in
theorem e_X7_refusedPlace (x0 : Int) (x1 : Int) (x2 : Int) (x3 : Int) (h : Hq) : vm 52 [(2, x0), (0, x1), (0, x2), (0, x3)] h = if x2 < 0 then (some (some (0, 1), h)) else (if 0 < x0 ∧ (kd x0).1 = 7 then if (kd (h.2 x0 2)).1 = 20 ∧ 0 ≤ x1 ∧ x1 < (kd (h.2 x0 2)).2 then if x2 < (h.2 (h.2 x0 2) x1) then (if x3 = 0 then (some (some (0, 2), h)) else (some (some (0, 0), h))) else (some (some (0, 1), h)) else none else none) := by
  show vp 52 0 [(2, x0), (0, x1), (0, x2), (0, x3)] [] h = _
  refine s_iload_n (pc1 := 1) (tk (n := 0) t52_0 rfl) rfl rfl rfl ?_
  refine s_if_lt (pc1 := 4) (pt := 14) (tk (n := 1) t52_0 rfl) rfl rfl rfl ?_ ?_
  · refine s_iconst (pc1 := 15) (tk (n := 8) t52_0 rfl) rfl rfl  ?_
    exact s_ret (tk (n := 9) t52_0 rfl) rfl rfl rfl
  · refine s_iload_n (pc1 := 5) (tk (n := 2) t52_0 rfl) rfl rfl rfl ?_
    refine s_aload_n (pc1 := 6) (tk (n := 3) t52_0 rfl) rfl rfl rfl ?_
    refine s_getf (pc1 := 9) (c := 7) (t1 := 2) (tk (n := 4) t52_0 rfl) rfl rfl (by decide) rfl rfl ?_
    refine s_iload_n (pc1 := 10) (tk (n := 5) t52_0 rfl) rfl rfl rfl ?_
    refine s_iald (pc1 := 11) (tk (n := 6) t52_0 rfl) rfl rfl  ?_
    refine s_ic_lt (pc1 := 14) (pt := 16) (tk (n := 7) t52_0 rfl) rfl rfl rfl ?_ ?_
    · refine s_iload_n (pc1 := 17) (tk (n := 10) t52_0 rfl) rfl rfl rfl ?_
      refine s_if_eq (pc1 := 20) (pt := 24) (tk (n := 11) t52_0 rfl) rfl rfl rfl ?_ ?_
      · refine s_iconst (pc1 := 25) (tk (n := 14) t52_0 rfl) rfl rfl  ?_
        exact s_ret (tk (n := 15) t52_0 rfl) rfl rfl rfl
      · refine s_iconst (pc1 := 21) (tk (n := 12) t52_0 rfl) rfl rfl  ?_
        refine s_goto (pc1 := 25) (tk (n := 13) t52_0 rfl) rfl rfl ?_
        exact s_ret (tk (n := 15) t52_0 rfl) rfl rfl rfl
    · refine s_iconst (pc1 := 15) (tk (n := 8) t52_0 rfl) rfl rfl  ?_
      exact s_ret (tk (n := 9) t52_0 rfl) rfl rfl rfl
set_option maxRecDepth 100000 in
set_option maxHeartbeats 4000000 in
theorem e_X7_refusedAsking (x0 : Int) (x1 : Int) (x2 : Int) (x3 : Int) (h : Hq) : vm 53 [(2, x0), (0, x1), (0, x2), (0, x3)] h = if x2 ≤ 0 then (if 0 < x0 ∧ (kd x0).1 = 7 then (vm 51 [(2, x0), (0, x1), (0, 0)] h).bind (fun r6 => if x2 = 0 then (if (vx r6) = 0 then (if 0 < x0 ∧ (kd x0).1 = 7 then (vm 52 [(2, x0), (0, x1), (0, x3), (0, 1)] r6.2).bind (fun r19 => some (some (0, vx r19), r19.2)) else none) else (some (some (0, vx r6), r6.2))) else (if 0 < x0 ∧ (kd x0).1 = 7 then if (kd (r6.2.2 x0 1)).1 = 20 ∧ 0 ≤ x1 ∧ x1 < (kd (r6.2.2 x0 1)).2 then (vm 43 [(0, r6.2.2 (r6.2.2 x0 1) x1), (0, w32 (x2 - 1))] r6.2).bind (fun r17 => if (vx r17) = 0 then (if (vx r6) = 0 then (if 0 < x0 ∧ (kd x0).1 = 7 then (vm 52 [(2, x0), (0, x1), (0, x3), (0, 0)] r17.2).bind (fun r27 => some (some (0, vx r27), r27.2)) else none) else (some (some (0, vx r6), r17.2))) else (if (vx r6) = 0 then (if 0 < x0 ∧ (kd x0).1 = 7 then (vm 52 [(2, x0), (0, x1), (0, x3), (0, 1)] r17.2).bind (fun r28 => some (some (0, vx r28), r28.2)) else none) else (some (some (0, vx r6), r17.2)))) else none else none)) else none) else (if 0 < x0 ∧ (kd x0).1 = 7 then (vm 51 [(2, x0), (0, x1), (0, 1)] h).bind (fun r7 => if x2 = 0 then (if (vx r7) = 0 then (if 0 < x0 ∧ (kd x0).1 = 7 then (vm 52 [(2, x0), (0, x1), (0, x3), (0, 1)] r7.2).bind (fun r20 => some (some (0, vx r20), r20.2)) else none) else (some (some (0, vx r7), r7.2))) else (if 0 < x0 ∧ (kd x0).1 = 7 then if (kd (r7.2.2 x0 1)).1 = 20 ∧ 0 ≤ x1 ∧ x1 < (kd (r7.2.2 x0 1)).2 then (vm 43 [(0, r7.2.2 (r7.2.2 x0 1) x1), (0, w32 (x2 - 1))] r7.2).bind (fun r18 => if (vx r18) = 0 then (if (vx r7) = 0 then (if 0 < x0 ∧ (kd x0).1 = 7 then (vm 52 [(2, x0), (0, x1), (0, x3), (0, 0)] r18.2).bind (fun r28 => some (some (0, vx r28), r28.2)) else none) else (some (some (0, vx r7), r18.2))) else (if (vx r7) = 0 then (if 0 < x0 ∧ (kd x0).1 = 7 then (vm 52 [(2, x0), (0, x1), (0, x3), (0, 1)] r18.2).bind (fun r29 => some (some (0, vx r29), r29.2)) else none) else (some (some (0, vx r7), r18.2)))) else none else none)) else none) := by
  show vp 53 0 [(2, x0), (0, x1), (0, x2), (0, x3), (9, 0), (9, 0)] [] h = _
  refine s_aload_n (pc1 := 1) (tk (n := 0) t53_0 rfl) rfl rfl rfl ?_
  refine s_iload_n (pc1 := 2) (tk (n := 1) t53_0 rfl) rfl rfl rfl ?_
  refine s_iload_n (pc1 := 3) (tk (n := 2) t53_0 rfl) rfl rfl rfl ?_
  refine s_if_le (pc1 := 6) (pt := 10) (tk (n := 3) t53_0 rfl) rfl rfl rfl ?_ ?_
  · refine s_iconst (pc1 := 11) (tk (n := 6) t53_0 rfl) rfl rfl  ?_
    refine s_call0 (as := [(2, x0), (0, x1), (0, 0)]) (st1 := []) (p1 := 14) (M2 := 51) (tk (n := 7) t53_0 rfl) rfl rfl rfl rfl rfl (fun r6 => ?_)
    refine s_istore (pc1 := 16) (ls1 := [(2, x0), (0, x1), (0, x2), (0, x3), (0, vx r6), (9, 0)]) (tk (n := 8) t53_0 rfl) rfl rfl rfl rfl ?_
    refine s_iload_n (pc1 := 17) (tk (n := 9) t53_0 rfl) rfl rfl rfl ?_
    refine s_if_eq (pc1 := 20) (pt := 35) (tk (n := 10) t53_0 rfl) rfl rfl rfl ?_ ?_
    · refine s_iconst (pc1 := 36) (tk (n := 20) t53_0 rfl) rfl rfl  ?_
      refine s_goto (pc1 := 40) (tk (n := 21) t53_0 rfl) rfl rfl ?_
      refine s_istore (pc1 := 42) (ls1 := [(2, x0), (0, x1), (0, x2), (0, x3), (0, vx r6), (0, 1)]) (tk (n := 23) t53_0 rfl) rfl rfl rfl rfl ?_
      refine s_iload (pc1 := 44) (tk (n := 24) t53_0 rfl) rfl rfl rfl ?_
      refine s_if_eq (pc1 := 47) (pt := 52) (tk (n := 25) t53_0 rfl) rfl rfl rfl ?_ ?_
      · refine s_aload_n (pc1 := 53) (tk (n := 28) t53_0 rfl) rfl rfl rfl ?_
        refine s_iload_n (pc1 := 54) (tk (n := 29) t53_0 rfl) rfl rfl rfl ?_
        refine s_iload_n (pc1 := 55) (tk (n := 0) t53_1 rfl) rfl rfl rfl ?_
        refine s_iload (pc1 := 57) (tk (n := 1) t53_1 rfl) rfl rfl rfl ?_
        refine s_call0 (as := [(2, x0), (0, x1), (0, x3), (0, 1)]) (st1 := []) (p1 := 60) (M2 := 52) (tk (n := 2) t53_1 rfl) rfl rfl rfl rfl rfl (fun r19 => ?_)
        exact s_ret (tk (n := 3) t53_1 rfl) rfl rfl rfl
      · refine s_iload (pc1 := 49) (tk (n := 26) t53_0 rfl) rfl rfl rfl ?_
        refine s_goto (pc1 := 60) (tk (n := 27) t53_0 rfl) rfl rfl ?_
        exact s_ret (tk (n := 3) t53_1 rfl) rfl rfl rfl
    · refine s_aload_n (pc1 := 21) (tk (n := 11) t53_0 rfl) rfl rfl rfl ?_
      refine s_getf (pc1 := 24) (c := 7) (t1 := 2) (tk (n := 12) t53_0 rfl) rfl rfl (by decide) rfl rfl ?_
      refine s_iload_n (pc1 := 25) (tk (n := 13) t53_0 rfl) rfl rfl rfl ?_
      refine s_iald (pc1 := 26) (tk (n := 14) t53_0 rfl) rfl rfl  ?_
      refine s_iload_n (pc1 := 27) (tk (n := 15) t53_0 rfl) rfl rfl rfl ?_
      refine s_iconst (pc1 := 28) (tk (n := 16) t53_0 rfl) rfl rfl  ?_
      refine s_isub (pc1 := 29) (tk (n := 17) t53_0 rfl) rfl rfl  ?_
      refine s_callS0 (as := [(0, r6.2.2 (r6.2.2 x0 1) x1), (0, w32 (x2 - 1))]) (st1 := []) (p1 := 32) (M2 := 43) (tk (n := 18) t53_0 rfl) rfl rfl rfl rfl rfl (fun r17 => ?_)
      refine s_if_eq (pc1 := 35) (pt := 39) (tk (n := 19) t53_0 rfl) rfl rfl rfl ?_ ?_
      · refine s_iconst (pc1 := 40) (tk (n := 22) t53_0 rfl) rfl rfl  ?_
        refine s_istore (pc1 := 42) (ls1 := [(2, x0), (0, x1), (0, x2), (0, x3), (0, vx r6), (0, 0)]) (tk (n := 23) t53_0 rfl) rfl rfl rfl rfl ?_
        refine s_iload (pc1 := 44) (tk (n := 24) t53_0 rfl) rfl rfl rfl ?_
        refine s_if_eq (pc1 := 47) (pt := 52) (tk (n := 25) t53_0 rfl) rfl rfl rfl ?_ ?_
        · refine s_aload_n (pc1 := 53) (tk (n := 28) t53_0 rfl) rfl rfl rfl ?_
          refine s_iload_n (pc1 := 54) (tk (n := 29) t53_0 rfl) rfl rfl rfl ?_
          refine s_iload_n (pc1 := 55) (tk (n := 0) t53_1 rfl) rfl rfl rfl ?_
          refine s_iload (pc1 := 57) (tk (n := 1) t53_1 rfl) rfl rfl rfl ?_
          refine s_call0 (as := [(2, x0), (0, x1), (0, x3), (0, 0)]) (st1 := []) (p1 := 60) (M2 := 52) (tk (n := 2) t53_1 rfl) rfl rfl rfl rfl rfl (fun r27 => ?_)
          exact s_ret (tk (n := 3) t53_1 rfl) rfl rfl rfl
        · refine s_iload (pc1 := 49) (tk (n := 26) t53_0 rfl) rfl rfl rfl ?_
          refine s_goto (pc1 := 60) (tk (n := 27) t53_0 rfl) rfl rfl ?_
          exact s_ret (tk (n := 3) t53_1 rfl) rfl rfl rfl
      · refine s_iconst (pc1 := 36) (tk (n := 20) t53_0 rfl) rfl rfl  ?_
        refine s_goto (pc1 := 40) (tk (n := 21) t53_0 rfl) rfl rfl ?_
        refine s_istore (pc1 := 42) (ls1 := [(2, x0), (0, x1), (0, x2), (0, x3), (0, vx r6), (0, 1)]) (tk (n := 23) t53_0 rfl) rfl rfl rfl rfl ?_
        refine s_iload (pc1 := 44) (tk (n := 24) t53_0 rfl) rfl rfl rfl ?_
        refine s_if_eq (pc1 := 47) (pt := 52) (tk (n := 25) t53_0 rfl) rfl rfl rfl ?_ ?_
        · refine s_aload_n (pc1 := 53) (tk (n := 28) t53_0 rfl) rfl rfl rfl ?_
          refine s_iload_n (pc1 := 54) (tk (n := 29) t53_0 rfl) rfl rfl rfl ?_
          refine s_iload_n (pc1 := 55) (tk (n := 0) t53_1 rfl) rfl rfl rfl ?_
          refine s_iload (pc1 := 57) (tk (n := 1) t53_1 rfl) rfl rfl rfl ?_
          refine s_call0 (as := [(2, x0), (0, x1), (0, x3), (0, 1)]) (st1 := []) (p1 := 60) (M2 := 52) (tk (n := 2) t53_1 rfl) rfl rfl rfl rfl rfl (fun r28 => ?_)
          exact s_ret (tk (n := 3) t53_1 rfl) rfl rfl rfl
        · refine s_iload (pc1 := 49) (tk (n := 26) t53_0 rfl) rfl rfl rfl ?_
          refine s_goto (pc1 := 60) (tk (n := 27) t53_0 rfl) rfl rfl ?_
          exact s_ret (tk (n := 3) t53_1 rfl) rfl rfl rfl
  · refine s_iconst (pc1 := 7) (tk (n := 4) t53_0 rfl) rfl rfl  ?_
    refine s_goto (pc1 := 11) (tk (n := 5) t53_0 rfl) rfl rfl ?_
    refine s_call0 (as := [(2, x0), (0, x1), (0, 1)]) (st1 := []) (p1 := 14) (M2 := 51) (tk (n := 7) t53_0 rfl) rfl rfl rfl rfl rfl (fun r7 => ?_)
    refine s_istore (pc1 := 16) (ls1 := [(2, x0), (0, x1), (0, x2), (0, x3), (0, vx r7), (9, 0)]) (tk (n := 8) t53_0 rfl) rfl rfl rfl rfl ?_
    refine s_iload_n (pc1 := 17) (tk (n := 9) t53_0 rfl) rfl rfl rfl ?_
    refine s_if_eq (pc1 := 20) (pt := 35) (tk (n := 10) t53_0 rfl) rfl rfl rfl ?_ ?_
    · refine s_iconst (pc1 := 36) (tk (n := 20) t53_0 rfl) rfl rfl  ?_
      refine s_goto (pc1 := 40) (tk (n := 21) t53_0 rfl) rfl rfl ?_
      refine s_istore (pc1 := 42) (ls1 := [(2, x0), (0, x1), (0, x2), (0, x3), (0, vx r7), (0, 1)]) (tk (n := 23) t53_0 rfl) rfl rfl rfl rfl ?_
      refine s_iload (pc1 := 44) (tk (n := 24) t53_0 rfl) rfl rfl rfl ?_
      refine s_if_eq (pc1 := 47) (pt := 52) (tk (n := 25) t53_0 rfl) rfl rfl rfl ?_ ?_
      · refine s_aload_n (pc1 := 53) (tk (n := 28) t53_0 rfl) rfl rfl rfl ?_
        refine s_iload_n (pc1 := 54) (tk (n := 29) t53_0 rfl) rfl rfl rfl ?_
        refine s_iload_n (pc1 := 55) (tk (n := 0) t53_1 rfl) rfl rfl rfl ?_
        refine s_iload (pc1 := 57) (tk (n := 1) t53_1 rfl) rfl rfl rfl ?_
        refine s_call0 (as := [(2, x0), (0, x1), (0, x3), (0, 1)]) (st1 := []) (p1 := 60) (M2 := 52) (tk (n := 2) t53_1 rfl) rfl rfl rfl rfl rfl (fun r20 => ?_)
        exact s_ret (tk (n := 3) t53_1 rfl) rfl rfl rfl
      · refine s_iload (pc1 := 49) (tk (n := 26) t53_0 rfl) rfl rfl rfl ?_
        refine s_goto (pc1 := 60) (tk (n := 27) t53_0 rfl) rfl rfl ?_
        exact s_ret (tk (n := 3) t53_1 rfl) rfl rfl rfl
    · refine s_aload_n (pc1 := 21) (tk (n := 11) t53_0 rfl) rfl rfl rfl ?_
      refine s_getf (pc1 := 24) (c := 7) (t1 := 2) (tk (n := 12) t53_0 rfl) rfl rfl (by decide) rfl rfl ?_
      refine s_iload_n (pc1 := 25) (tk (n := 13) t53_0 rfl) rfl rfl rfl ?_
      refine s_iald (pc1 := 26) (tk (n := 14) t53_0 rfl) rfl rfl  ?_
      refine s_iload_n (pc1 := 27) (tk (n := 15) t53_0 rfl) rfl rfl rfl ?_
      refine s_iconst (pc1 := 28) (tk (n := 16) t53_0 rfl) rfl rfl  ?_
      refine s_isub (pc1 := 29) (tk (n := 17) t53_0 rfl) rfl rfl  ?_
      refine s_callS0 (as := [(0, r7.2.2 (r7.2.2 x0 1) x1), (0, w32 (x2 - 1))]) (st1 := []) (p1 := 32) (M2 := 43) (tk (n := 18) t53_0 rfl) rfl rfl rfl rfl rfl (fun r18 => ?_)
      refine s_if_eq (pc1 := 35) (pt := 39) (tk (n := 19) t53_0 rfl) rfl rfl rfl ?_ ?_
      · refine s_iconst (pc1 := 40) (tk (n := 22) t53_0 rfl) rfl rfl  ?_
        refine s_istore (pc1 := 42) (ls1 := [(2, x0), (0, x1), (0, x2), (0, x3), (0, vx r7), (0, 0)]) (tk (n := 23) t53_0 rfl) rfl rfl rfl rfl ?_
        refine s_iload (pc1 := 44) (tk (n := 24) t53_0 rfl) rfl rfl rfl ?_
        refine s_if_eq (pc1 := 47) (pt := 52) (tk (n := 25) t53_0 rfl) rfl rfl rfl ?_ ?_
        · refine s_aload_n (pc1 := 53) (tk (n := 28) t53_0 rfl) rfl rfl rfl ?_
          refine s_iload_n (pc1 := 54) (tk (n := 29) t53_0 rfl) rfl rfl rfl ?_
          refine s_iload_n (pc1 := 55) (tk (n := 0) t53_1 rfl) rfl rfl rfl ?_
          refine s_iload (pc1 := 57) (tk (n := 1) t53_1 rfl) rfl rfl rfl ?_
          refine s_call0 (as := [(2, x0), (0, x1), (0, x3), (0, 0)]) (st1 := []) (p1 := 60) (M2 := 52) (tk (n := 2) t53_1 rfl) rfl rfl rfl rfl rfl (fun r28 => ?_)
          exact s_ret (tk (n := 3) t53_1 rfl) rfl rfl rfl
        · refine s_iload (pc1 := 49) (tk (n := 26) t53_0 rfl) rfl rfl rfl ?_
          refine s_goto (pc1 := 60) (tk (n := 27) t53_0 rfl) rfl rfl ?_
          exact s_ret (tk (n := 3) t53_1 rfl) rfl rfl rfl
      · refine s_iconst (pc1 := 36) (tk (n := 20) t53_0 rfl) rfl rfl  ?_
        refine s_goto (pc1 := 40) (tk (n := 21) t53_0 rfl) rfl rfl ?_
        refine s_istore (pc1 := 42) (ls1 := [(2, x0), (0, x1), (0, x2), (0, x3), (0, vx r7), (0, 1)]) (tk (n := 23) t53_0 rfl) rfl rfl rfl rfl ?_
        refine s_iload (pc1 := 44) (tk (n := 24) t53_0 rfl) rfl rfl rfl ?_
        refine s_if_eq (pc1 := 47) (pt := 52) (tk (n := 25) t53_0 rfl) rfl rfl rfl ?_ ?_
        · refine s_aload_n (pc1 := 53) (tk (n := 28) t53_0 rfl) rfl rfl rfl ?_
          refine s_iload_n (pc1 := 54) (tk (n := 29) t53_0 rfl) rfl rfl rfl ?_
          refine s_iload_n (pc1 := 55) (tk (n := 0) t53_1 rfl) rfl rfl rfl ?_
          refine s_iload (pc1 := 57) (tk (n := 1) t53_1 rfl) rfl rfl rfl ?_
          refine s_call0 (as := [(2, x0), (0, x1), (0, x3), (0, 1)]) (st1 := []) (p1 := 60) (M2 := 52) (tk (n := 2) t53_1 rfl) rfl rfl rfl rfl rfl (fun r29 => ?_)
          exact s_ret (tk (n := 3) t53_1 rfl) rfl rfl rfl
        · refine s_iload (pc1 := 49) (tk (n := 26) t53_0 rfl) rfl rfl rfl ?_
          refine s_goto (pc1 := 60) (tk (n := 27) t53_0 rfl) rfl rfl ?_
          exact s_ret (tk (n := 3) t53_1 rfl) rfl rfl rfl
set_option maxRecDepth 100000 in
set_option maxHeartbeats 4000000 in
theorem e_X7_refusedPoking (x0 : Int) (x1 : Int) (x2 : Int) (x3 : Int) (h : Hq) : vm 54 [(2, x0), (0, x1), (0, x2), (0, x3)] h = if 0 < x0 ∧ (kd x0).1 = 7 then (vm 51 [(2, x0), (0, x1), (0, 1)] h).bind (fun r4 => if (vx r4) = 0 then (if 0 < x0 ∧ (kd x0).1 = 7 then if (kd (r4.2.2 x0 1)).1 = 20 ∧ 0 ≤ x1 ∧ x1 < (kd (r4.2.2 x0 1)).2 then (vm 163 [(0, r4.2.2 (r4.2.2 x0 1) x1), (0, x2)] r4.2).bind (fun r16 => if 0 < x0 ∧ (kd x0).1 = 7 then (vm 52 [(2, x0), (0, x1), (0, x3), (0, vx r16)] r16.2).bind (fun r17 => some (some (0, vx r17), r17.2)) else none) else none else none) else (some (some (0, vx r4), r4.2))) else none := by
  show vp 54 0 [(2, x0), (0, x1), (0, x2), (0, x3), (9, 0)] [] h = _
  refine s_aload_n (pc1 := 1) (tk (n := 0) t54_0 rfl) rfl rfl rfl ?_
  refine s_iload_n (pc1 := 2) (tk (n := 1) t54_0 rfl) rfl rfl rfl ?_
  refine s_iconst (pc1 := 3) (tk (n := 2) t54_0 rfl) rfl rfl  ?_
  refine s_call0 (as := [(2, x0), (0, x1), (0, 1)]) (st1 := []) (p1 := 6) (M2 := 51) (tk (n := 3) t54_0 rfl) rfl rfl rfl rfl rfl (fun r4 => ?_)
  refine s_istore (pc1 := 8) (ls1 := [(2, x0), (0, x1), (0, x2), (0, x3), (0, vx r4)]) (tk (n := 4) t54_0 rfl) rfl rfl rfl rfl ?_
  refine s_iload (pc1 := 10) (tk (n := 5) t54_0 rfl) rfl rfl rfl ?_
  refine s_if_eq (pc1 := 13) (pt := 18) (tk (n := 6) t54_0 rfl) rfl rfl rfl ?_ ?_
  · refine s_aload_n (pc1 := 19) (tk (n := 9) t54_0 rfl) rfl rfl rfl ?_
    refine s_iload_n (pc1 := 20) (tk (n := 10) t54_0 rfl) rfl rfl rfl ?_
    refine s_iload_n (pc1 := 21) (tk (n := 11) t54_0 rfl) rfl rfl rfl ?_
    refine s_aload_n (pc1 := 22) (tk (n := 12) t54_0 rfl) rfl rfl rfl ?_
    refine s_getf (pc1 := 25) (c := 7) (t1 := 2) (tk (n := 13) t54_0 rfl) rfl rfl (by decide) rfl rfl ?_
    refine s_iload_n (pc1 := 26) (tk (n := 14) t54_0 rfl) rfl rfl rfl ?_
    refine s_iald (pc1 := 27) (tk (n := 15) t54_0 rfl) rfl rfl  ?_
    refine s_iload_n (pc1 := 28) (tk (n := 16) t54_0 rfl) rfl rfl rfl ?_
    refine s_callS0 (as := [(0, r4.2.2 (r4.2.2 x0 1) x1), (0, x2)]) (st1 := [(0, x3), (0, x1), (2, x0)]) (p1 := 31) (M2 := 163) (tk (n := 17) t54_0 rfl) rfl rfl rfl rfl rfl (fun r16 => ?_)
    refine s_call0 (as := [(2, x0), (0, x1), (0, x3), (0, vx r16)]) (st1 := []) (p1 := 34) (M2 := 52) (tk (n := 18) t54_0 rfl) rfl rfl rfl rfl rfl (fun r17 => ?_)
    exact s_ret (tk (n := 19) t54_0 rfl) rfl rfl rfl
  · refine s_iload (pc1 := 15) (tk (n := 7) t54_0 rfl) rfl rfl rfl ?_
    refine s_goto (pc1 := 34) (tk (n := 8) t54_0 rfl) rfl rfl ?_
    exact s_ret (tk (n := 19) t54_0 rfl) rfl rfl rfl
set_option maxRecDepth 100000 in
set_option maxHeartbeats 4000000 in
theorem e_X7_refusedPutting (x0 : Int) (x1 : Int) (x2 : Int) (x3 : Int) (h : Hq) : vm 55 [(2, x0), (0, x1), (0, x2), (0, x3)] h = if 0 < x0 ∧ (kd x0).1 = 7 then (vm 51 [(2, x0), (0, x1), (0, 0)] h).bind (fun r4 => if (vx r4) ≠ 0 then (if (vx r4) = 0 then (if 0 < x0 ∧ (kd x0).1 = 7 then if (kd (r4.2.2 x0 1)).1 = 20 ∧ 0 ≤ x1 ∧ x1 < (kd (r4.2.2 x0 1)).2 then (vm 163 [(0, r4.2.2 (r4.2.2 x0 1) x1), (0, x3)] r4.2).bind (fun r18 => if 0 < x0 ∧ (kd x0).1 = 7 then (vm 52 [(2, x0), (0, x1), (0, x2), (0, vx r18)] r18.2).bind (fun r19 => some (some (0, vx r19), r19.2)) else none) else none else none) else (some (some (0, vx r4), r4.2))) else (if x3 ≠ 0 then (if (vx r4) = 0 then (if 0 < x0 ∧ (kd x0).1 = 7 then if (kd (r4.2.2 x0 1)).1 = 20 ∧ 0 ≤ x1 ∧ x1 < (kd (r4.2.2 x0 1)).2 then (vm 163 [(0, r4.2.2 (r4.2.2 x0 1) x1), (0, x3)] r4.2).bind (fun r20 => if 0 < x0 ∧ (kd x0).1 = 7 then (vm 52 [(2, x0), (0, x1), (0, x2), (0, vx r20)] r20.2).bind (fun r21 => some (some (0, vx r21), r21.2)) else none) else none else none) else (some (some (0, vx r4), r4.2))) else (if 0 < x0 ∧ (kd x0).1 = 7 then if (kd (r4.2.2 x0 1)).1 = 20 ∧ 0 ≤ x1 ∧ x1 < (kd (r4.2.2 x0 1)).2 then if (r4.2.2 (r4.2.2 x0 1) x1) ≥ 8 then (if (vx r4) = 0 then (if 0 < x0 ∧ (kd x0).1 = 7 then if (kd (r4.2.2 x0 1)).1 = 20 ∧ 0 ≤ x1 ∧ x1 < (kd (r4.2.2 x0 1)).2 then (vm 163 [(0, r4.2.2 (r4.2.2 x0 1) x1), (0, x3)] r4.2).bind (fun r26 => if 0 < x0 ∧ (kd x0).1 = 7 then (vm 52 [(2, x0), (0, x1), (0, x2), (0, vx r26)] r26.2).bind (fun r27 => some (some (0, vx r27), r27.2)) else none) else none else none) else (some (some (0, vx r4), r4.2))) else (some (some (0, 2), r4.2)) else none else none))) else none := by
  show vp 55 0 [(2, x0), (0, x1), (0, x2), (0, x3), (9, 0)] [] h = _
  refine s_aload_n (pc1 := 1) (tk (n := 0) t55_0 rfl) rfl rfl rfl ?_
  refine s_iload_n (pc1 := 2) (tk (n := 1) t55_0 rfl) rfl rfl rfl ?_
  refine s_iconst (pc1 := 3) (tk (n := 2) t55_0 rfl) rfl rfl  ?_
  refine s_call0 (as := [(2, x0), (0, x1), (0, 0)]) (st1 := []) (p1 := 6) (M2 := 51) (tk (n := 3) t55_0 rfl) rfl rfl rfl rfl rfl (fun r4 => ?_)
  refine s_istore (pc1 := 8) (ls1 := [(2, x0), (0, x1), (0, x2), (0, x3), (0, vx r4)]) (tk (n := 4) t55_0 rfl) rfl rfl rfl rfl ?_
  refine s_iload (pc1 := 10) (tk (n := 5) t55_0 rfl) rfl rfl rfl ?_
  refine s_if_ne (pc1 := 13) (pt := 31) (tk (n := 6) t55_0 rfl) rfl rfl rfl ?_ ?_
  · refine s_iload (pc1 := 33) (tk (n := 17) t55_0 rfl) rfl rfl rfl ?_
    refine s_if_eq (pc1 := 36) (pt := 41) (tk (n := 18) t55_0 rfl) rfl rfl rfl ?_ ?_
    · refine s_aload_n (pc1 := 42) (tk (n := 21) t55_0 rfl) rfl rfl rfl ?_
      refine s_iload_n (pc1 := 43) (tk (n := 22) t55_0 rfl) rfl rfl rfl ?_
      refine s_iload_n (pc1 := 44) (tk (n := 23) t55_0 rfl) rfl rfl rfl ?_
      refine s_aload_n (pc1 := 45) (tk (n := 24) t55_0 rfl) rfl rfl rfl ?_
      refine s_getf (pc1 := 48) (c := 7) (t1 := 2) (tk (n := 25) t55_0 rfl) rfl rfl (by decide) rfl rfl ?_
      refine s_iload_n (pc1 := 49) (tk (n := 26) t55_0 rfl) rfl rfl rfl ?_
      refine s_iald (pc1 := 50) (tk (n := 27) t55_0 rfl) rfl rfl  ?_
      refine s_iload_n (pc1 := 51) (tk (n := 28) t55_0 rfl) rfl rfl rfl ?_
      refine s_callS0 (as := [(0, r4.2.2 (r4.2.2 x0 1) x1), (0, x3)]) (st1 := [(0, x2), (0, x1), (2, x0)]) (p1 := 54) (M2 := 163) (tk (n := 29) t55_0 rfl) rfl rfl rfl rfl rfl (fun r18 => ?_)
      refine s_call0 (as := [(2, x0), (0, x1), (0, x2), (0, vx r18)]) (st1 := []) (p1 := 57) (M2 := 52) (tk (n := 0) t55_1 rfl) rfl rfl rfl rfl rfl (fun r19 => ?_)
      exact s_ret (tk (n := 1) t55_1 rfl) rfl rfl rfl
    · refine s_iload (pc1 := 38) (tk (n := 19) t55_0 rfl) rfl rfl rfl ?_
      refine s_goto (pc1 := 57) (tk (n := 20) t55_0 rfl) rfl rfl ?_
      exact s_ret (tk (n := 1) t55_1 rfl) rfl rfl rfl
  · refine s_iload_n (pc1 := 14) (tk (n := 7) t55_0 rfl) rfl rfl rfl ?_
    refine s_if_ne (pc1 := 17) (pt := 31) (tk (n := 8) t55_0 rfl) rfl rfl rfl ?_ ?_
    · refine s_iload (pc1 := 33) (tk (n := 17) t55_0 rfl) rfl rfl rfl ?_
      refine s_if_eq (pc1 := 36) (pt := 41) (tk (n := 18) t55_0 rfl) rfl rfl rfl ?_ ?_
      · refine s_aload_n (pc1 := 42) (tk (n := 21) t55_0 rfl) rfl rfl rfl ?_
        refine s_iload_n (pc1 := 43) (tk (n := 22) t55_0 rfl) rfl rfl rfl ?_
        refine s_iload_n (pc1 := 44) (tk (n := 23) t55_0 rfl) rfl rfl rfl ?_
        refine s_aload_n (pc1 := 45) (tk (n := 24) t55_0 rfl) rfl rfl rfl ?_
        refine s_getf (pc1 := 48) (c := 7) (t1 := 2) (tk (n := 25) t55_0 rfl) rfl rfl (by decide) rfl rfl ?_
        refine s_iload_n (pc1 := 49) (tk (n := 26) t55_0 rfl) rfl rfl rfl ?_
        refine s_iald (pc1 := 50) (tk (n := 27) t55_0 rfl) rfl rfl  ?_
        refine s_iload_n (pc1 := 51) (tk (n := 28) t55_0 rfl) rfl rfl rfl ?_
        refine s_callS0 (as := [(0, r4.2.2 (r4.2.2 x0 1) x1), (0, x3)]) (st1 := [(0, x2), (0, x1), (2, x0)]) (p1 := 54) (M2 := 163) (tk (n := 29) t55_0 rfl) rfl rfl rfl rfl rfl (fun r20 => ?_)
        refine s_call0 (as := [(2, x0), (0, x1), (0, x2), (0, vx r20)]) (st1 := []) (p1 := 57) (M2 := 52) (tk (n := 0) t55_1 rfl) rfl rfl rfl rfl rfl (fun r21 => ?_)
        exact s_ret (tk (n := 1) t55_1 rfl) rfl rfl rfl
      · refine s_iload (pc1 := 38) (tk (n := 19) t55_0 rfl) rfl rfl rfl ?_
        refine s_goto (pc1 := 57) (tk (n := 20) t55_0 rfl) rfl rfl ?_
        exact s_ret (tk (n := 1) t55_1 rfl) rfl rfl rfl
    · refine s_aload_n (pc1 := 18) (tk (n := 9) t55_0 rfl) rfl rfl rfl ?_
      refine s_getf (pc1 := 21) (c := 7) (t1 := 2) (tk (n := 10) t55_0 rfl) rfl rfl (by decide) rfl rfl ?_
      refine s_iload_n (pc1 := 22) (tk (n := 11) t55_0 rfl) rfl rfl rfl ?_
      refine s_iald (pc1 := 23) (tk (n := 12) t55_0 rfl) rfl rfl  ?_
      refine s_bipush (pc1 := 25) (tk (n := 13) t55_0 rfl) rfl rfl  ?_
      refine s_ic_ge (pc1 := 28) (pt := 31) (tk (n := 14) t55_0 rfl) rfl rfl rfl ?_ ?_
      · refine s_iload (pc1 := 33) (tk (n := 17) t55_0 rfl) rfl rfl rfl ?_
        refine s_if_eq (pc1 := 36) (pt := 41) (tk (n := 18) t55_0 rfl) rfl rfl rfl ?_ ?_
        · refine s_aload_n (pc1 := 42) (tk (n := 21) t55_0 rfl) rfl rfl rfl ?_
          refine s_iload_n (pc1 := 43) (tk (n := 22) t55_0 rfl) rfl rfl rfl ?_
          refine s_iload_n (pc1 := 44) (tk (n := 23) t55_0 rfl) rfl rfl rfl ?_
          refine s_aload_n (pc1 := 45) (tk (n := 24) t55_0 rfl) rfl rfl rfl ?_
          refine s_getf (pc1 := 48) (c := 7) (t1 := 2) (tk (n := 25) t55_0 rfl) rfl rfl (by decide) rfl rfl ?_
          refine s_iload_n (pc1 := 49) (tk (n := 26) t55_0 rfl) rfl rfl rfl ?_
          refine s_iald (pc1 := 50) (tk (n := 27) t55_0 rfl) rfl rfl  ?_
          refine s_iload_n (pc1 := 51) (tk (n := 28) t55_0 rfl) rfl rfl rfl ?_
          refine s_callS0 (as := [(0, r4.2.2 (r4.2.2 x0 1) x1), (0, x3)]) (st1 := [(0, x2), (0, x1), (2, x0)]) (p1 := 54) (M2 := 163) (tk (n := 29) t55_0 rfl) rfl rfl rfl rfl rfl (fun r26 => ?_)
          refine s_call0 (as := [(2, x0), (0, x1), (0, x2), (0, vx r26)]) (st1 := []) (p1 := 57) (M2 := 52) (tk (n := 0) t55_1 rfl) rfl rfl rfl rfl rfl (fun r27 => ?_)
          exact s_ret (tk (n := 1) t55_1 rfl) rfl rfl rfl
        · refine s_iload (pc1 := 38) (tk (n := 19) t55_0 rfl) rfl rfl rfl ?_
          refine s_goto (pc1 := 57) (tk (n := 20) t55_0 rfl) rfl rfl ?_
          exact s_ret (tk (n := 1) t55_1 rfl) rfl rfl rfl
      · refine s_iconst (pc1 := 29) (tk (n := 15) t55_0 rfl) rfl rfl  ?_
        refine s_istore (pc1 := 31) (ls1 := [(2, x0), (0, x1), (0, x2), (0, x3), (0, 2)]) (tk (n := 16) t55_0 rfl) rfl rfl rfl rfl ?_
        refine s_iload (pc1 := 33) (tk (n := 17) t55_0 rfl) rfl rfl rfl ?_
        refine s_ifN_eq (pc1 := 36) (tk (n := 18) t55_0 rfl) rfl rfl (by decide) ?_
        refine s_iload (pc1 := 38) (tk (n := 19) t55_0 rfl) rfl rfl rfl ?_
        refine s_goto (pc1 := 57) (tk (n := 20) t55_0 rfl) rfl rfl ?_
        exact s_ret (tk (n := 1) t55_1 rfl) rfl rfl rfl
set_option maxRecDepth 100000 in
set_option maxHeartbeats 4000000 in
theorem e_X7_set (x0 : Int) (x1 : Int) (x2 : Int) (x3 : Int) (x4 : Int) (h : Hq) : vm 56 [(2, x0), (0, x1), (0, x2), (0, x3), (0, x4)] h = if 0 < x0 ∧ (kd x0).1 = 7 then if (kd (h.2 x0 0)).1 = 24 ∧ 0 ≤ x1 ∧ x1 < (kd (h.2 x0 0)).2 then if (kd (h.2 (h.2 x0 0) x1)).1 = 20 ∧ 0 ≤ x2 ∧ x2 < (kd (h.2 (h.2 x0 0) x1)).2 then if x3 ≠ 0 then (if x3 < 9 then ((vm 44 [(0, w32 (x3 - 1)), (0, x4)] h).bind (fun r17 => if 0 < x0 ∧ (kd x0).1 = 7 then if (kd (r17.2.2 x0 0)).1 = 24 ∧ 0 ≤ x1 ∧ x1 < (kd (r17.2.2 x0 0)).2 then if 0 < (r17.2.2 (r17.2.2 x0 0) x1) ∧ (kd (r17.2.2 (r17.2.2 x0 0) x1)).1 = 20 ∧ 0 ≤ x2 ∧ x2 < (kd (r17.2.2 (r17.2.2 x0 0) x1)).2 then if x3 ≥ 9 then (some (some (0, 1), (r17.2.1, stm r17.2.2 (r17.2.2 (r17.2.2 x0 0) x1) x2 (vx r17)))) else (if (h.2 (h.2 (h.2 x0 0) x1) x2) = (vx r17) then (some (some (0, 0), (r17.2.1, stm r17.2.2 (r17.2.2 (r17.2.2 x0 0) x1) x2 (vx r17)))) else (some (some (0, 1), (r17.2.1, stm r17.2.2 (r17.2.2 (r17.2.2 x0 0) x1) x2 (vx r17))))) else none else none else none)) else (if 0 < x0 ∧ (kd x0).1 = 7 then if (kd (h.2 x0 0)).1 = 24 ∧ 0 ≤ x1 ∧ x1 < (kd (h.2 x0 0)).2 then if 0 < (h.2 (h.2 x0 0) x1) ∧ (kd (h.2 (h.2 x0 0) x1)).1 = 20 ∧ 0 ≤ x2 ∧ x2 < (kd (h.2 (h.2 x0 0) x1)).2 then if x3 ≥ 9 then (some (some (0, 1), (h.1, stm h.2 (h.2 (h.2 x0 0) x1) x2 x4))) else (if (h.2 (h.2 (h.2 x0 0) x1) x2) = x4 then (some (some (0, 0), (h.1, stm h.2 (h.2 (h.2 x0 0) x1) x2 x4))) else (some (some (0, 1), (h.1, stm h.2 (h.2 (h.2 x0 0) x1) x2 x4)))) else none else none else none)) else (if 0 < x0 ∧ (kd x0).1 = 7 then if (kd (h.2 x0 0)).1 = 24 ∧ 0 ≤ x1 ∧ x1 < (kd (h.2 x0 0)).2 then if 0 < (h.2 (h.2 x0 0) x1) ∧ (kd (h.2 (h.2 x0 0) x1)).1 = 20 ∧ 0 ≤ x2 ∧ x2 < (kd (h.2 (h.2 x0 0) x1)).2 then if x3 ≥ 9 then (some (some (0, 1), (h.1, stm h.2 (h.2 (h.2 x0 0) x1) x2 (-2147483648)))) else (if (h.2 (h.2 (h.2 x0 0) x1) x2) = (-2147483648) then (some (some (0, 0), (h.1, stm h.2 (h.2 (h.2 x0 0) x1) x2 (-2147483648)))) else (some (some (0, 1), (h.1, stm h.2 (h.2 (h.2 x0 0) x1) x2 (-2147483648))))) else none else none else none) else none else none else none := by
  show vp 56 0 [(2, x0), (0, x1), (0, x2), (0, x3), (0, x4), (9, 0), (9, 0)] [] h = _
  refine s_aload_n (pc1 := 1) (tk (n := 0) t56_0 rfl) rfl rfl rfl ?_
  refine s_getf (pc1 := 4) (c := 7) (t1 := 2) (tk (n := 1) t56_0 rfl) rfl rfl (by decide) rfl rfl ?_
  refine s_iload_n (pc1 := 5) (tk (n := 2) t56_0 rfl) rfl rfl rfl ?_
  refine s_aald (pc1 := 6) (c := 24) (tk (n := 3) t56_0 rfl) rfl rfl rfl ?_
  refine s_iload_n (pc1 := 7) (tk (n := 4) t56_0 rfl) rfl rfl rfl ?_
  refine s_iald (pc1 := 8) (tk (n := 5) t56_0 rfl) rfl rfl  ?_
  refine s_istore (pc1 := 10) (ls1 := [(2, x0), (0, x1), (0, x2), (0, x3), (0, x4), (0, h.2 (h.2 (h.2 x0 0) x1) x2), (9, 0)]) (tk (n := 6) t56_0 rfl) rfl rfl rfl rfl ?_
  refine s_iload_n (pc1 := 11) (tk (n := 7) t56_0 rfl) rfl rfl rfl ?_
  refine s_if_ne (pc1 := 14) (pt := 19) (tk (n := 8) t56_0 rfl) rfl rfl rfl ?_ ?_
  · refine s_iload_n (pc1 := 20) (tk (n := 11) t56_0 rfl) rfl rfl rfl ?_
    refine s_bipush (pc1 := 22) (tk (n := 12) t56_0 rfl) rfl rfl  ?_
    refine s_ic_lt (pc1 := 25) (pt := 30) (tk (n := 13) t56_0 rfl) rfl rfl rfl ?_ ?_
    · refine s_iload_n (pc1 := 31) (tk (n := 16) t56_0 rfl) rfl rfl rfl ?_
      refine s_iconst (pc1 := 32) (tk (n := 17) t56_0 rfl) rfl rfl  ?_
      refine s_isub (pc1 := 33) (tk (n := 18) t56_0 rfl) rfl rfl  ?_
      refine s_iload (pc1 := 35) (tk (n := 19) t56_0 rfl) rfl rfl rfl ?_
      refine s_callS0 (as := [(0, w32 (x3 - 1)), (0, x4)]) (st1 := []) (p1 := 38) (M2 := 44) (tk (n := 20) t56_0 rfl) rfl rfl rfl rfl rfl (fun r17 => ?_)
      refine s_istore (pc1 := 40) (ls1 := [(2, x0), (0, x1), (0, x2), (0, x3), (0, x4), (0, h.2 (h.2 (h.2 x0 0) x1) x2), (0, vx r17)]) (tk (n := 21) t56_0 rfl) rfl rfl rfl rfl ?_
      refine s_aload_n (pc1 := 41) (tk (n := 22) t56_0 rfl) rfl rfl rfl ?_
      refine s_getf (pc1 := 44) (c := 7) (t1 := 2) (tk (n := 23) t56_0 rfl) rfl rfl (by decide) rfl rfl ?_
      refine s_iload_n (pc1 := 45) (tk (n := 24) t56_0 rfl) rfl rfl rfl ?_
      refine s_aald (pc1 := 46) (c := 24) (tk (n := 25) t56_0 rfl) rfl rfl rfl ?_
      refine s_iload_n (pc1 := 47) (tk (n := 26) t56_0 rfl) rfl rfl rfl ?_
      refine s_iload (pc1 := 49) (tk (n := 27) t56_0 rfl) rfl rfl rfl ?_
      refine s_iast (pc1 := 50) (tk (n := 28) t56_0 rfl) rfl rfl  ?_
      refine s_iload_n (pc1 := 51) (tk (n := 29) t56_0 rfl) rfl rfl rfl ?_
      refine s_bipush (pc1 := 53) (tk (n := 0) t56_1 rfl) rfl rfl  ?_
      refine s_ic_ge (pc1 := 56) (pt := 63) (tk (n := 1) t56_1 rfl) rfl rfl rfl ?_ ?_
      · refine s_iconst (pc1 := 64) (tk (n := 5) t56_1 rfl) rfl rfl  ?_
        refine s_goto (pc1 := 68) (tk (n := 6) t56_1 rfl) rfl rfl ?_
        exact s_retY (tk (n := 8) t56_1 rfl) rfl rfl rfl (by decide)
      · refine s_iload (pc1 := 58) (tk (n := 2) t56_1 rfl) rfl rfl rfl ?_
        refine s_iload (pc1 := 60) (tk (n := 3) t56_1 rfl) rfl rfl rfl ?_
        refine s_ic_eq (pc1 := 63) (pt := 67) (tk (n := 4) t56_1 rfl) rfl rfl rfl ?_ ?_
        · refine s_iconst (pc1 := 68) (tk (n := 7) t56_1 rfl) rfl rfl  ?_
          exact s_retY (tk (n := 8) t56_1 rfl) rfl rfl rfl (by decide)
        · refine s_iconst (pc1 := 64) (tk (n := 5) t56_1 rfl) rfl rfl  ?_
          refine s_goto (pc1 := 68) (tk (n := 6) t56_1 rfl) rfl rfl ?_
          exact s_retY (tk (n := 8) t56_1 rfl) rfl rfl rfl (by decide)
    · refine s_iload (pc1 := 27) (tk (n := 14) t56_0 rfl) rfl rfl rfl ?_
      refine s_goto (pc1 := 38) (tk (n := 15) t56_0 rfl) rfl rfl ?_
      refine s_istore (pc1 := 40) (ls1 := [(2, x0), (0, x1), (0, x2), (0, x3), (0, x4), (0, h.2 (h.2 (h.2 x0 0) x1) x2), (0, x4)]) (tk (n := 21) t56_0 rfl) rfl rfl rfl rfl ?_
      refine s_aload_n (pc1 := 41) (tk (n := 22) t56_0 rfl) rfl rfl rfl ?_
      refine s_getf (pc1 := 44) (c := 7) (t1 := 2) (tk (n := 23) t56_0 rfl) rfl rfl (by decide) rfl rfl ?_
      refine s_iload_n (pc1 := 45) (tk (n := 24) t56_0 rfl) rfl rfl rfl ?_
      refine s_aald (pc1 := 46) (c := 24) (tk (n := 25) t56_0 rfl) rfl rfl rfl ?_
      refine s_iload_n (pc1 := 47) (tk (n := 26) t56_0 rfl) rfl rfl rfl ?_
      refine s_iload (pc1 := 49) (tk (n := 27) t56_0 rfl) rfl rfl rfl ?_
      refine s_iast (pc1 := 50) (tk (n := 28) t56_0 rfl) rfl rfl  ?_
      refine s_iload_n (pc1 := 51) (tk (n := 29) t56_0 rfl) rfl rfl rfl ?_
      refine s_bipush (pc1 := 53) (tk (n := 0) t56_1 rfl) rfl rfl  ?_
      refine s_ic_ge (pc1 := 56) (pt := 63) (tk (n := 1) t56_1 rfl) rfl rfl rfl ?_ ?_
      · refine s_iconst (pc1 := 64) (tk (n := 5) t56_1 rfl) rfl rfl  ?_
        refine s_goto (pc1 := 68) (tk (n := 6) t56_1 rfl) rfl rfl ?_
        exact s_retY (tk (n := 8) t56_1 rfl) rfl rfl rfl (by decide)
      · refine s_iload (pc1 := 58) (tk (n := 2) t56_1 rfl) rfl rfl rfl ?_
        refine s_iload (pc1 := 60) (tk (n := 3) t56_1 rfl) rfl rfl rfl ?_
        refine s_ic_eq (pc1 := 63) (pt := 67) (tk (n := 4) t56_1 rfl) rfl rfl rfl ?_ ?_
        · refine s_iconst (pc1 := 68) (tk (n := 7) t56_1 rfl) rfl rfl  ?_
          exact s_retY (tk (n := 8) t56_1 rfl) rfl rfl rfl (by decide)
        · refine s_iconst (pc1 := 64) (tk (n := 5) t56_1 rfl) rfl rfl  ?_
          refine s_goto (pc1 := 68) (tk (n := 6) t56_1 rfl) rfl rfl ?_
          exact s_retY (tk (n := 8) t56_1 rfl) rfl rfl rfl (by decide)
  · refine s_ldc (pc1 := 16) (tk (n := 9) t56_0 rfl) rfl rfl  ?_
    refine s_goto (pc1 := 38) (tk (n := 10) t56_0 rfl) rfl rfl ?_
    refine s_istore (pc1 := 40) (ls1 := [(2, x0), (0, x1), (0, x2), (0, x3), (0, x4), (0, h.2 (h.2 (h.2 x0 0) x1) x2), (0, (-2147483648))]) (tk (n := 21) t56_0 rfl) rfl rfl rfl rfl ?_
    refine s_aload_n (pc1 := 41) (tk (n := 22) t56_0 rfl) rfl rfl rfl ?_
    refine s_getf (pc1 := 44) (c := 7) (t1 := 2) (tk (n := 23) t56_0 rfl) rfl rfl (by decide) rfl rfl ?_
    refine s_iload_n (pc1 := 45) (tk (n := 24) t56_0 rfl) rfl rfl rfl ?_
    refine s_aald (pc1 := 46) (c := 24) (tk (n := 25) t56_0 rfl) rfl rfl rfl ?_
    refine s_iload_n (pc1 := 47) (tk (n := 26) t56_0 rfl) rfl rfl rfl ?_
    refine s_iload (pc1 := 49) (tk (n := 27) t56_0 rfl) rfl rfl rfl ?_
    refine s_iast (pc1 := 50) (tk (n := 28) t56_0 rfl) rfl rfl  ?_
    refine s_iload_n (pc1 := 51) (tk (n := 29) t56_0 rfl) rfl rfl rfl ?_
    refine s_bipush (pc1 := 53) (tk (n := 0) t56_1 rfl) rfl rfl  ?_
    refine s_ic_ge (pc1 := 56) (pt := 63) (tk (n := 1) t56_1 rfl) rfl rfl rfl ?_ ?_
    · refine s_iconst (pc1 := 64) (tk (n := 5) t56_1 rfl) rfl rfl  ?_
      refine s_goto (pc1 := 68) (tk (n := 6) t56_1 rfl) rfl rfl ?_
      exact s_retY (tk (n := 8) t56_1 rfl) rfl rfl rfl (by decide)
    · refine s_iload (pc1 := 58) (tk (n := 2) t56_1 rfl) rfl rfl rfl ?_
      refine s_iload (pc1 := 60) (tk (n := 3) t56_1 rfl) rfl rfl rfl ?_
      refine s_ic_eq (pc1 := 63) (pt := 67) (tk (n := 4) t56_1 rfl) rfl rfl rfl ?_ ?_
      · refine s_iconst (pc1 := 68) (tk (n := 7) t56_1 rfl) rfl rfl  ?_
        exact s_retY (tk (n := 8) t56_1 rfl) rfl rfl rfl (by decide)
      · refine s_iconst (pc1 := 64) (tk (n := 5) t56_1 rfl) rfl rfl  ?_
        refine s_goto (pc1 := 68) (tk (n := 6) t56_1 rfl) rfl rfl ?_
        exact s_retY (tk (n := 8) t56_1 rfl) rfl rfl rfl (by decide)
set_option maxRecDepth 100000 in
set_option maxHeartbeats 4000000 in
theorem e_X7_keepImage (x0 : Int) (x1 : Int) (h : Hq) : vm 57 [(2, x0), (0, x1)] h = if 0 < x0 ∧ (kd x0).1 = 7 then if 0 < (h.2 x0 4) ∧ (kd (h.2 x0 4)).1 = 22 ∧ 0 ≤ x1 ∧ x1 < (kd (h.2 x0 4)).2 then vp 57 9 [(2, x0), (0, x1), (0, 0)] [] (h.1, stm h.2 (h.2 x0 4) x1 (1 % 2)) else none else none := by
  show vp 57 0 [(2, x0), (0, x1), (9, 0)] [] h = _
  refine s_aload_n (pc1 := 1) (tk (n := 0) t57_0 rfl) rfl rfl rfl ?_
  refine s_getf (pc1 := 4) (c := 7) (t1 := 2) (tk (n := 1) t57_0 rfl) rfl rfl (by decide) rfl rfl ?_
  refine s_iload_n (pc1 := 5) (tk (n := 2) t57_0 rfl) rfl rfl rfl ?_
  refine s_iconst (pc1 := 6) (tk (n := 3) t57_0 rfl) rfl rfl  ?_
  refine s_bast2 (pc1 := 7) (tk (n := 4) t57_0 rfl) rfl rfl  ?_
  refine s_iconst (pc1 := 8) (tk (n := 5) t57_0 rfl) rfl rfl  ?_
  refine s_istore_n (pc1 := 9) (ls1 := [(2, x0), (0, x1), (0, 0)]) (tk (n := 6) t57_0 rfl) rfl rfl rfl rfl ?_
  rfl
set_option maxRecDepth 100000 in
set_option maxHeartbeats 4000000 in
theorem e_X7_keepImage_9 (x0 : Int) (x1 : Int) (x2 : Int) (h : Hq) : vp 57 9 [(2, x0), (0, x1), (0, x2)] [] h = if 0 < x0 ∧ (kd x0).1 = 7 then if x2 ≥ (h.2 x0 5) then (some (none, h)) else (if 0 < x0 ∧ (kd x0).1 = 7 then if (kd (h.2 x0 0)).1 = 24 ∧ 0 ≤ x2 ∧ x2 < (kd (h.2 x0 0)).2 then if 0 < x0 ∧ (kd x0).1 = 7 then if (kd (h.2 x0 3)).1 = 24 ∧ 0 ≤ (w32 ((w32 (x1 * 6)) + x2)) ∧ (w32 ((w32 (x1 * 6)) + x2)) < (kd (h.2 x0 3)).2 then if (0 < (h.2 (h.2 x0 0) x2) ∧ 0 < (h.2 (h.2 x0 3) (w32 ((w32 (x1 * 6)) + x2))) ∧ (kd (h.2 (h.2 x0 0) x2)).1 = 20 ∧ (kd (h.2 (h.2 x0 3) (w32 ((w32 (x1 * 6)) + x2)))).1 = 20) ∧ (0 ≤ (0 : Int) ∧ 0 ≤ (0 : Int) ∧ 0 ≤ (400 : Int)) ∧ (0 : Int) + (400 : Int) ≤ (kd (h.2 (h.2 x0 0) x2)).2 ∧ (0 : Int) + (400 : Int) ≤ (kd (h.2 (h.2 x0 3) (w32 ((w32 (x1 * 6)) + x2)))).2 then vp 57 9 [(2, x0), (0, x1), (0, w32 (x2 + 1))] [] (h.1, cpm h.2 (h.2 (h.2 x0 0) x2) 0 (h.2 (h.2 x0 3) (w32 ((w32 (x1 * 6)) + x2))) 0 400) else none else none else none else none else none) else none := by
  refine s_iload_n (pc1 := 10) (tk (n := 7) t57_0 rfl) rfl rfl rfl ?_
  refine s_aload_n (pc1 := 11) (tk (n := 8) t57_0 rfl) rfl rfl rfl ?_
  refine s_getf (pc1 := 14) (c := 7) (t1 := 0) (tk (n := 9) t57_0 rfl) rfl rfl (by decide) rfl rfl ?_
  refine s_ic_ge (pc1 := 17) (pt := 48) (tk (n := 10) t57_0 rfl) rfl rfl rfl ?_ ?_
  · exact s_ret (tk (n := 29) t57_0 rfl) rfl rfl rfl
  · refine s_aload_n (pc1 := 18) (tk (n := 11) t57_0 rfl) rfl rfl rfl ?_
    refine s_getf (pc1 := 21) (c := 7) (t1 := 2) (tk (n := 12) t57_0 rfl) rfl rfl (by decide) rfl rfl ?_
    refine s_iload_n (pc1 := 22) (tk (n := 13) t57_0 rfl) rfl rfl rfl ?_
    refine s_aald (pc1 := 23) (c := 24) (tk (n := 14) t57_0 rfl) rfl rfl rfl ?_
    refine s_iconst (pc1 := 24) (tk (n := 15) t57_0 rfl) rfl rfl  ?_
    refine s_aload_n (pc1 := 25) (tk (n := 16) t57_0 rfl) rfl rfl rfl ?_
    refine s_getf (pc1 := 28) (c := 7) (t1 := 2) (tk (n := 17) t57_0 rfl) rfl rfl (by decide) rfl rfl ?_
    refine s_iload_n (pc1 := 29) (tk (n := 18) t57_0 rfl) rfl rfl rfl ?_
    refine s_bipush (pc1 := 31) (tk (n := 19) t57_0 rfl) rfl rfl  ?_
    refine s_imul (pc1 := 32) (tk (n := 20) t57_0 rfl) rfl rfl  ?_
    refine s_iload_n (pc1 := 33) (tk (n := 21) t57_0 rfl) rfl rfl rfl ?_
    refine s_iadd (pc1 := 34) (tk (n := 22) t57_0 rfl) rfl rfl  ?_
    refine s_aald (pc1 := 35) (c := 24) (tk (n := 23) t57_0 rfl) rfl rfl rfl ?_
    refine s_iconst (pc1 := 36) (tk (n := 24) t57_0 rfl) rfl rfl  ?_
    refine s_sipush (pc1 := 39) (tk (n := 25) t57_0 rfl) rfl rfl  ?_
    refine s_cpy (pc1 := 42) (tk (n := 26) t57_0 rfl) rfl rfl rfl ?_
    refine s_iinc (pc1 := 45) (ls1 := [(2, x0), (0, x1), (0, w32 (x2 + 1))]) (tk (n := 27) t57_0 rfl) rfl rfl rfl rfl ?_
    refine s_goto (pc1 := 9) (tk (n := 28) t57_0 rfl) rfl rfl ?_
    rfl
set_option maxRecDepth 100000 in
set_option maxHeartbeats 4000000 in
theorem e_X7_giveBackImage (x0 : Int) (x1 : Int) (h : Hq) : vm 58 [(2, x0), (0, x1)] h = vp 58 2 [(2, x0), (0, x1), (0, 0)] [] h := by
  show vp 58 0 [(2, x0), (0, x1), (9, 0)] [] h = _
  refine s_iconst (pc1 := 1) (tk (n := 0) t58_0 rfl) rfl rfl  ?_
  refine s_istore_n (pc1 := 2) (ls1 := [(2, x0), (0, x1), (0, 0)]) (tk (n := 1) t58_0 rfl) rfl rfl rfl rfl ?_
  rfl
set_option maxRecDepth 100000 in
set_option maxHeartbeats 4000000 in
theorem e_X7_giveBackImage_2 (x0 : Int) (x1 : Int) (x2 : Int) (h : Hq) : vp 58 2 [(2, x0), (0, x1), (0, x2)] [] h = if 0 < x0 ∧ (kd x0).1 = 7 then if x2 ≥ (h.2 x0 5) then (some (none, h)) else (if 0 < x0 ∧ (kd x0).1 = 7 then if (kd (h.2 x0 3)).1 = 24 ∧ 0 ≤ (w32 ((w32 (x1 * 6)) + x2)) ∧ (w32 ((w32 (x1 * 6)) + x2)) < (kd (h.2 x0 3)).2 then if 0 < x0 ∧ (kd x0).1 = 7 then if (kd (h.2 x0 0)).1 = 24 ∧ 0 ≤ x2 ∧ x2 < (kd (h.2 x0 0)).2 then if (0 < (h.2 (h.2 x0 3) (w32 ((w32 (x1 * 6)) + x2))) ∧ 0 < (h.2 (h.2 x0 0) x2) ∧ (kd (h.2 (h.2 x0 3) (w32 ((w32 (x1 * 6)) + x2)))).1 = 20 ∧ (kd (h.2 (h.2 x0 0) x2)).1 = 20) ∧ (0 ≤ (0 : Int) ∧ 0 ≤ (0 : Int) ∧ 0 ≤ (400 : Int)) ∧ (0 : Int) + (400 : Int) ≤ (kd (h.2 (h.2 x0 3) (w32 ((w32 (x1 * 6)) + x2)))).2 ∧ (0 : Int) + (400 : Int) ≤ (kd (h.2 (h.2 x0 0) x2)).2 then vp 58 2 [(2, x0), (0, x1), (0, w32 (x2 + 1))] [] (h.1, cpm h.2 (h.2 (h.2 x0 3) (w32 ((w32 (x1 * 6)) + x2))) 0 (h.2 (h.2 x0 0) x2) 0 400) else none else none else none else none else none) else none := by
  refine s_iload_n (pc1 := 3) (tk (n := 2) t58_0 rfl) rfl rfl rfl ?_
  refine s_aload_n (pc1 := 4) (tk (n := 3) t58_0 rfl) rfl rfl rfl ?_
  refine s_getf (pc1 := 7) (c := 7) (t1 := 0) (tk (n := 4) t58_0 rfl) rfl rfl (by decide) rfl rfl ?_
  refine s_ic_ge (pc1 := 10) (pt := 41) (tk (n := 5) t58_0 rfl) rfl rfl rfl ?_ ?_
  · exact s_ret (tk (n := 24) t58_0 rfl) rfl rfl rfl
  · refine s_aload_n (pc1 := 11) (tk (n := 6) t58_0 rfl) rfl rfl rfl ?_
    refine s_getf (pc1 := 14) (c := 7) (t1 := 2) (tk (n := 7) t58_0 rfl) rfl rfl (by decide) rfl rfl ?_
    refine s_iload_n (pc1 := 15) (tk (n := 8) t58_0 rfl) rfl rfl rfl ?_
    refine s_bipush (pc1 := 17) (tk (n := 9) t58_0 rfl) rfl rfl  ?_
    refine s_imul (pc1 := 18) (tk (n := 10) t58_0 rfl) rfl rfl  ?_
    refine s_iload_n (pc1 := 19) (tk (n := 11) t58_0 rfl) rfl rfl rfl ?_
    refine s_iadd (pc1 := 20) (tk (n := 12) t58_0 rfl) rfl rfl  ?_
    refine s_aald (pc1 := 21) (c := 24) (tk (n := 13) t58_0 rfl) rfl rfl rfl ?_
    refine s_iconst (pc1 := 22) (tk (n := 14) t58_0 rfl) rfl rfl  ?_
    refine s_aload_n (pc1 := 23) (tk (n := 15) t58_0 rfl) rfl rfl rfl ?_
    refine s_getf (pc1 := 26) (c := 7) (t1 := 2) (tk (n := 16) t58_0 rfl) rfl rfl (by decide) rfl rfl ?_
    refine s_iload_n (pc1 := 27) (tk (n := 17) t58_0 rfl) rfl rfl rfl ?_
    refine s_aald (pc1 := 28) (c := 24) (tk (n := 18) t58_0 rfl) rfl rfl rfl ?_
    refine s_iconst (pc1 := 29) (tk (n := 19) t58_0 rfl) rfl rfl  ?_
    refine s_sipush (pc1 := 32) (tk (n := 20) t58_0 rfl) rfl rfl  ?_
    refine s_cpy (pc1 := 35) (tk (n := 21) t58_0 rfl) rfl rfl rfl ?_
    refine s_iinc (pc1 := 38) (ls1 := [(2, x0), (0, x1), (0, w32 (x2 + 1))]) (tk (n := 22) t58_0 rfl) rfl rfl rfl rfl ?_
    refine s_goto (pc1 := 2) (tk (n := 23) t58_0 rfl) rfl rfl ?_
    rfl
set_option maxRecDepth 100000 in
set_option maxHeartbeats 4000000 in
theorem e_X8_init (x0 : Int) (h : Hq) : vm 59 [(2, x0)] h = if 0 < x0 then if (kd h.1).1 = 20 ∧ (kd h.1).2 = (2400 : Int) ∧ 0 ≤ (2400 : Int) ∧ (2400 : Int) ≤ 1000000 then if (0 < x0 ∧ (kd x0).1 = 8) ∧ True then some (none, (h.1 + 1, stm h.2 x0 0 h.1)) else none else none else none := by
  show vp 59 0 [(2, x0)] [] h = _
  refine s_aload_n (pc1 := 1) (tk (n := 0) t59_0 rfl) rfl rfl rfl ?_
  refine s_oini (pc1 := 4) (tk (n := 1) t59_0 rfl) rfl rfl rfl ?_
  refine s_aload_n (pc1 := 5) (tk (n := 2) t59_0 rfl) rfl rfl rfl ?_
  refine s_sipush (pc1 := 8) (tk (n := 3) t59_0 rfl) rfl rfl  ?_
  refine s_newa (pc1 := 10) (c := 20) (tk (n := 4) t59_0 rfl) rfl rfl rfl ?_
  refine s_putf2 (pc1 := 13) (c := 8) (tk (n := 5) t59_0 rfl) rfl rfl rfl rfl rfl ?_
  exact s_ret (tk (n := 6) t59_0 rfl) rfl rfl rfl
set_option maxRecDepth 100000 in
set_option maxHeartbeats 4000000 in
theorem e_X8_clear (x0 : Int) (h : Hq) : vm 60 [(2, x0)] h = if 0 < x0 ∧ (kd x0).1 = 8 then (vm 321 [(2, h.2 x0 0), (0, 0)] h).bind (fun r4 => if (0 < x0 ∧ (kd x0).1 = 8) ∧ True then if (0 < x0 ∧ (kd x0).1 = 8) ∧ True then some (none, (r4.2.1, stm (stm r4.2.2 x0 1 0) x0 2 0)) else none else none) else none := by
  show vp 60 0 [(2, x0)] [] h = _
  refine s_aload_n (pc1 := 1) (tk (n := 0) t60_0 rfl) rfl rfl rfl ?_
  refine s_getf (pc1 := 4) (c := 8) (t1 := 2) (tk (n := 1) t60_0 rfl) rfl rfl (by decide) rfl rfl ?_
  refine s_iconst (pc1 := 5) (tk (n := 2) t60_0 rfl) rfl rfl  ?_
  refine s_callS9 (as := [(2, h.2 x0 0), (0, 0)]) (st1 := []) (p1 := 8) (M2 := 321) (tk (n := 3) t60_0 rfl) rfl rfl rfl rfl rfl (fun r4 => ?_)
  refine s_aload_n (pc1 := 9) (tk (n := 4) t60_0 rfl) rfl rfl rfl ?_
  refine s_iconst (pc1 := 10) (tk (n := 5) t60_0 rfl) rfl rfl  ?_
  refine s_putf0 (pc1 := 13) (c := 8) (tk (n := 6) t60_0 rfl) rfl rfl rfl rfl rfl ?_
  refine s_aload_n (pc1 := 14) (tk (n := 7) t60_0 rfl) rfl rfl rfl ?_
  refine s_iconst (pc1 := 15) (tk (n := 8) t60_0 rfl) rfl rfl  ?_
  refine s_putf0 (pc1 := 18) (c := 8) (tk (n := 9) t60_0 rfl) rfl rfl rfl rfl rfl ?_
  exact s_ret (tk (n := 10) t60_0 rfl) rfl rfl rfl
set_option maxRecDepth 100000 in
set_option maxHeartbeats 4000000 in
theorem e_X8_count (x0 : Int) (x1 : Int) (x2 : Int) (h : Hq) : vm 61 [(2, x0), (0, x1), (0, x2)] h = if 0 < x0 ∧ (kd x0).1 = 8 then if (kd (h.2 x0 0)).1 = 20 ∧ 0 ≤ x1 ∧ x1 < (kd (h.2 x0 0)).2 then if 0 < (h.2 x0 0) ∧ (kd (h.2 x0 0)).1 = 20 ∧ 0 ≤ x1 ∧ x1 < (kd (h.2 x0 0)).2 then if 0 < x0 ∧ (kd x0).1 = 8 then if x2 = 0 then (if (0 < x0 ∧ (kd x0).1 = 8) ∧ True then if 0 < x0 ∧ (kd x0).1 = 8 then if x2 = 0 then (if (0 < x0 ∧ (kd x0).1 = 8) ∧ True then some (none, (h.1, stm (stm (stm h.2 (h.2 x0 0) x1 (w32 ((h.2 (h.2 x0 0) x1) + 1))) x0 1 (w32 (((stm h.2 (h.2 x0 0) x1 (w32 ((h.2 (h.2 x0 0) x1) + 1))) x0 1) + 0))) x0 2 (w32 (((stm (stm h.2 (h.2 x0 0) x1 (w32 ((h.2 (h.2 x0 0) x1) + 1))) x0 1 (w32 (((stm h.2 (h.2 x0 0) x1 (w32 ((h.2 (h.2 x0 0) x1) + 1))) x0 1) + 0))) x0 2) + 1)))) else none) else (if (0 < x0 ∧ (kd x0).1 = 8) ∧ True then some (none, (h.1, stm (stm (stm h.2 (h.2 x0 0) x1 (w32 ((h.2 (h.2 x0 0) x1) + 1))) x0 1 (w32 (((stm h.2 (h.2 x0 0) x1 (w32 ((h.2 (h.2 x0 0) x1) + 1))) x0 1) + 0))) x0 2 (w32 (((stm (stm h.2 (h.2 x0 0) x1 (w32 ((h.2 (h.2 x0 0) x1) + 1))) x0 1 (w32 (((stm h.2 (h.2 x0 0) x1 (w32 ((h.2 (h.2 x0 0) x1) + 1))) x0 1) + 0))) x0 2) + 0)))) else none) else none else none) else (if (0 < x0 ∧ (kd x0).1 = 8) ∧ True then if 0 < x0 ∧ (kd x0).1 = 8 then if x2 = 0 then (if (0 < x0 ∧ (kd x0).1 = 8) ∧ True then some (none, (h.1, stm (stm (stm h.2 (h.2 x0 0) x1 (w32 ((h.2 (h.2 x0 0) x1) + 1))) x0 1 (w32 (((stm h.2 (h.2 x0 0) x1 (w32 ((h.2 (h.2 x0 0) x1) + 1))) x0 1) + 1))) x0 2 (w32 (((stm (stm h.2 (h.2 x0 0) x1 (w32 ((h.2 (h.2 x0 0) x1) + 1))) x0 1 (w32 (((stm h.2 (h.2 x0 0) x1 (w32 ((h.2 (h.2 x0 0) x1) + 1))) x0 1) + 1))) x0 2) + 1)))) else none) else (if (0 < x0 ∧ (kd x0).1 = 8) ∧ True then some (none, (h.1, stm (stm (stm h.2 (h.2 x0 0) x1 (w32 ((h.2 (h.2 x0 0) x1) + 1))) x0 1 (w32 (((stm h.2 (h.2 x0 0) x1 (w32 ((h.2 (h.2 x0 0) x1) + 1))) x0 1) + 1))) x0 2 (w32 (((stm (stm h.2 (h.2 x0 0) x1 (w32 ((h.2 (h.2 x0 0) x1) + 1))) x0 1 (w32 (((stm h.2 (h.2 x0 0) x1 (w32 ((h.2 (h.2 x0 0) x1) + 1))) x0 1) + 1))) x0 2) + 0)))) else none) else none else none) else none else none else none else none := by
  show vp 61 0 [(2, x0), (0, x1), (0, x2)] [] h = _
  refine s_aload_n (pc1 := 1) (tk (n := 0) t61_0 rfl) rfl rfl rfl ?_
  refine s_getf (pc1 := 4) (c := 8) (t1 := 2) (tk (n := 1) t61_0 rfl) rfl rfl (by decide) rfl rfl ?_
  refine s_iload_n (pc1 := 5) (tk (n := 2) t61_0 rfl) rfl rfl rfl ?_
  refine s_dupP (pc1 := 6) (tk (n := 3) t61_0 rfl) rfl rfl  ?_
  refine s_iald (pc1 := 7) (tk (n := 4) t61_0 rfl) rfl rfl  ?_
  refine s_iconst (pc1 := 8) (tk (n := 5) t61_0 rfl) rfl rfl  ?_
  refine s_iadd (pc1 := 9) (tk (n := 6) t61_0 rfl) rfl rfl  ?_
  refine s_iast (pc1 := 10) (tk (n := 7) t61_0 rfl) rfl rfl  ?_
  refine s_aload_n (pc1 := 11) (tk (n := 8) t61_0 rfl) rfl rfl rfl ?_
  refine s_dup2 (pc1 := 12) (tk (n := 9) t61_0 rfl) rfl rfl  ?_
  refine s_getf (pc1 := 15) (c := 8) (t1 := 0) (tk (n := 10) t61_0 rfl) rfl rfl (by decide) rfl rfl ?_
  refine s_iload_n (pc1 := 16) (tk (n := 11) t61_0 rfl) rfl rfl rfl ?_
  refine s_if_eq (pc1 := 19) (pt := 23) (tk (n := 12) t61_0 rfl) rfl rfl rfl ?_ ?_
  · refine s_iconst (pc1 := 24) (tk (n := 15) t61_0 rfl) rfl rfl  ?_
    refine s_iadd (pc1 := 25) (tk (n := 16) t61_0 rfl) rfl rfl  ?_
    refine s_putf0 (pc1 := 28) (c := 8) (tk (n := 17) t61_0 rfl) rfl rfl rfl rfl rfl ?_
    refine s_aload_n (pc1 := 29) (tk (n := 18) t61_0 rfl) rfl rfl rfl ?_
    refine s_dup2 (pc1 := 30) (tk (n := 19) t61_0 rfl) rfl rfl  ?_
    refine s_getf (pc1 := 33) (c := 8) (t1 := 0) (tk (n := 20) t61_0 rfl) rfl rfl (by decide) rfl rfl ?_
    refine s_iload_n (pc1 := 34) (tk (n := 21) t61_0 rfl) rfl rfl rfl ?_
    refine s_if_eq (pc1 := 37) (pt := 41) (tk (n := 22) t61_0 rfl) rfl rfl rfl ?_ ?_
    · refine s_iconst (pc1 := 42) (tk (n := 25) t61_0 rfl) rfl rfl  ?_
      refine s_iadd (pc1 := 43) (tk (n := 26) t61_0 rfl) rfl rfl  ?_
      refine s_putf0 (pc1 := 46) (c := 8) (tk (n := 27) t61_0 rfl) rfl rfl rfl rfl rfl ?_
      exact s_ret (tk (n := 28) t61_0 rfl) rfl rfl rfl
    · refine s_iconst (pc1 := 38) (tk (n := 23) t61_0 rfl) rfl rfl  ?_
      refine s_goto (pc1 := 42) (tk (n := 24) t61_0 rfl) rfl rfl ?_
      refine s_iadd (pc1 := 43) (tk (n := 26) t61_0 rfl) rfl rfl  ?_
      refine s_putf0 (pc1 := 46) (c := 8) (tk (n := 27) t61_0 rfl) rfl rfl rfl rfl rfl ?_
      exact s_ret (tk (n := 28) t61_0 rfl) rfl rfl rfl
  · refine s_iconst (pc1 := 20) (tk (n := 13) t61_0 rfl) rfl rfl  ?_
    refine s_goto (pc1 := 24) (tk (n := 14) t61_0 rfl) rfl rfl ?_
    refine s_iadd (pc1 := 25) (tk (n := 16) t61_0 rfl) rfl rfl  ?_
    refine s_putf0 (pc1 := 28) (c := 8) (tk (n := 17) t61_0 rfl) rfl rfl rfl rfl rfl ?_
    refine s_aload_n (pc1 := 29) (tk (n := 18) t61_0 rfl) rfl rfl rfl ?_
    refine s_dup2 (pc1 := 30) (tk (n := 19) t61_0 rfl) rfl rfl  ?_
    refine s_getf (pc1 := 33) (c := 8) (t1 := 0) (tk (n := 20) t61_0 rfl) rfl rfl (by decide) rfl rfl ?_
    refine s_iload_n (pc1 := 34) (tk (n := 21) t61_0 rfl) rfl rfl rfl ?_
    refine s_if_eq (pc1 := 37) (pt := 41) (tk (n := 22) t61_0 rfl) rfl rfl rfl ?_ ?_
    · refine s_iconst (pc1 := 42) (tk (n := 25) t61_0 rfl) rfl rfl  ?_
      refine s_iadd (pc1 := 43) (tk (n := 26) t61_0 rfl) rfl rfl  ?_
      refine s_putf0 (pc1 := 46) (c := 8) (tk (n := 27) t61_0 rfl) rfl rfl rfl rfl rfl ?_
      exact s_ret (tk (n := 28) t61_0 rfl) rfl rfl rfl
    · refine s_iconst (pc1 := 38) (tk (n := 23) t61_0 rfl) rfl rfl  ?_
      refine s_goto (pc1 := 42) (tk (n := 24) t61_0 rfl) rfl rfl ?_
      refine s_iadd (pc1 := 43) (tk (n := 26) t61_0 rfl) rfl rfl  ?_
      refine s_putf0 (pc1 := 46) (c := 8) (tk (n := 27) t61_0 rfl) rfl rfl rfl rfl rfl ?_
      exact s_ret (tk (n := 28) t61_0 rfl) rfl rfl rfl
set_option maxRecDepth 100000 in
set_option maxHeartbeats 4000000 in
theorem e_X8_ranked (x0 : Int) (x1 : Int) (h : Hq) : vm 62 [(2, x0), (0, x1)] h = if 0 < x0 ∧ (kd x0).1 = 8 then (vm 63 [(2, x0), (0, 2147483647)] h).bind (fun r5 => vp 62 12 [(2, x0), (0, x1), (0, x1), (0, vx r5), (0, 0), (9, 0)] [] r5.2) else none := by
  show vp 62 0 [(2, x0), (0, x1), (9, 0), (9, 0), (9, 0), (9, 0)] [] h = _
  refine s_iload_n (pc1 := 1) (tk (n := 0) t62_0 rfl) rfl rfl rfl ?_
  refine s_istore_n (pc1 := 2) (ls1 := [(2, x0), (0, x1), (0, x1), (9, 0), (9, 0), (9, 0)]) (tk (n := 1) t62_0 rfl) rfl rfl rfl rfl ?_
  refine s_aload_n (pc1 := 3) (tk (n := 2) t62_0 rfl) rfl rfl rfl ?_
  refine s_ldc (pc1 := 5) (tk (n := 3) t62_0 rfl) rfl rfl  ?_
  refine s_call0 (as := [(2, x0), (0, 2147483647)]) (st1 := []) (p1 := 8) (M2 := 63) (tk (n := 4) t62_0 rfl) rfl rfl rfl rfl rfl (fun r5 => ?_)
  refine s_istore_n (pc1 := 9) (ls1 := [(2, x0), (0, x1), (0, x1), (0, vx r5), (9, 0), (9, 0)]) (tk (n := 5) t62_0 rfl) rfl rfl rfl rfl ?_
  refine s_iconst (pc1 := 10) (tk (n := 6) t62_0 rfl) rfl rfl  ?_
  refine s_istore (pc1 := 12) (ls1 := [(2, x0), (0, x1), (0, x1), (0, vx r5), (0, 0), (9, 0)]) (tk (n := 7) t62_0 rfl) rfl rfl rfl rfl ?_
  rfl
set_option maxRecDepth 100000 in
set_option maxHeartbeats 4000000 in
theorem e_X8_ranked_12 (x0 : Int) (z1 : Vl) (x2 : Int) (x3 : Int) (x4 : Int) (z5 : Vl) (h : Hq) : vp 62 12 [(2, x0), z1, (0, x2), (0, x3), (0, x4), z5] [] h = if 0 < x0 ∧ (kd x0).1 = 8 then if 20 ≤ (kd (h.2 x0 0)).1 ∧ (kd (h.2 x0 0)).1 ≤ 25 then if x4 ≥ ((kd (h.2 x0 0)).2) then (some (some (0, (-1)), h)) else (if x3 ≤ 0 then (some (some (0, (-1)), h)) else (vp 62 29 [(2, x0), (9, 0), (0, x2), (0, x3), (0, x4), (0, 0)] [] h)) else none else none := by
  refine s_fg (ls1 := [(2, x0), (9, 0), (0, x2), (0, x3), (0, x4), (9, 0)]) (tk (n := 8) t62_0 rfl) rfl ?_
  refine s_iload (pc1 := 14) (tk (n := 8) t62_0 rfl) rfl rfl rfl ?_
  refine s_aload_n (pc1 := 15) (tk (n := 9) t62_0 rfl) rfl rfl rfl ?_
  refine s_getf (pc1 := 18) (c := 8) (t1 := 2) (tk (n := 10) t62_0 rfl) rfl rfl (by decide) rfl rfl ?_
  refine s_alen (pc1 := 19) (tk (n := 11) t62_0 rfl) rfl rfl  ?_
  refine s_ic_ge (pc1 := 22) (pt := 78) (tk (n := 12) t62_0 rfl) rfl rfl rfl ?_ ?_
  · refine s_iconst (pc1 := 79) (tk (n := 11) t62_1 rfl) rfl rfl  ?_
    exact s_ret (tk (n := 12) t62_1 rfl) rfl rfl rfl
  · refine s_iload_n (pc1 := 23) (tk (n := 13) t62_0 rfl) rfl rfl rfl ?_
    refine s_if_le (pc1 := 26) (pt := 78) (tk (n := 14) t62_0 rfl) rfl rfl rfl ?_ ?_
    · refine s_iconst (pc1 := 79) (tk (n := 11) t62_1 rfl) rfl rfl  ?_
      exact s_ret (tk (n := 12) t62_1 rfl) rfl rfl rfl
    · refine s_iconst (pc1 := 27) (tk (n := 15) t62_0 rfl) rfl rfl  ?_
      refine s_istore (pc1 := 29) (ls1 := [(2, x0), (9, 0), (0, x2), (0, x3), (0, x4), (0, 0)]) (tk (n := 16) t62_0 rfl) rfl rfl rfl rfl ?_
      rfl
set_option maxRecDepth 100000 in
set_option maxHeartbeats 4000000 in
theorem e_X8_ranked_29 (x0 : Int) (z1 : Vl) (x2 : Int) (x3 : Int) (x4 : Int) (x5 : Int) (h : Hq) : vp 62 29 [(2, x0), z1, (0, x2), (0, x3), (0, x4), (0, x5)] [] h = if 0 < x0 ∧ (kd x0).1 = 8 then if 20 ≤ (kd (h.2 x0 0)).1 ∧ (kd (h.2 x0 0)).1 ≤ 25 then if x5 ≥ ((kd (h.2 x0 0)).2) then (if 0 < x0 ∧ (kd x0).1 = 8 then (vm 63 [(2, x0), (0, x3)] h).bind (fun r8 => vp 62 12 [(2, x0), (9, 0), (0, x2), (0, vx r8), (0, w32 (x4 + 1)), (0, x5)] [] r8.2) else none) else (if 0 < x0 ∧ (kd x0).1 = 8 then if (kd (h.2 x0 0)).1 = 20 ∧ 0 ≤ x5 ∧ x5 < (kd (h.2 x0 0)).2 then if (h.2 (h.2 x0 0) x5) ≠ x3 then (vp 62 29 [(2, x0), (9, 0), (0, x2), (0, x3), (0, x4), (0, w32 (x5 + 1))] [] h) else (if x2 ≠ 0 then (vp 62 29 [(2, x0), (9, 0), (0, w32 (x2 + (-1))), (0, x3), (0, x4), (0, w32 (x5 + 1))] [] h) else (some (some (0, x5), h))) else none else none) else none else none := by
  refine s_fg (ls1 := [(2, x0), (9, 0), (0, x2), (0, x3), (0, x4), (0, x5)]) (tk (n := 17) t62_0 rfl) rfl ?_
  refine s_iload (pc1 := 31) (tk (n := 17) t62_0 rfl) rfl rfl rfl ?_
  refine s_aload_n (pc1 := 32) (tk (n := 18) t62_0 rfl) rfl rfl rfl ?_
  refine s_getf (pc1 := 35) (c := 8) (t1 := 2) (tk (n := 19) t62_0 rfl) rfl rfl (by decide) rfl rfl ?_
  refine s_alen (pc1 := 36) (tk (n := 20) t62_0 rfl) rfl rfl  ?_
  refine s_ic_ge (pc1 := 39) (pt := 66) (tk (n := 21) t62_0 rfl) rfl rfl rfl ?_ ?_
  · refine s_aload_n (pc1 := 67) (tk (n := 5) t62_1 rfl) rfl rfl rfl ?_
    refine s_iload_n (pc1 := 68) (tk (n := 6) t62_1 rfl) rfl rfl rfl ?_
    refine s_call0 (as := [(2, x0), (0, x3)]) (st1 := []) (p1 := 71) (M2 := 63) (tk (n := 7) t62_1 rfl) rfl rfl rfl rfl rfl (fun r8 => ?_)
    refine s_istore_n (pc1 := 72) (ls1 := [(2, x0), (9, 0), (0, x2), (0, vx r8), (0, x4), (0, x5)]) (tk (n := 8) t62_1 rfl) rfl rfl rfl rfl ?_
    refine s_iinc (pc1 := 75) (ls1 := [(2, x0), (9, 0), (0, x2), (0, vx r8), (0, w32 (x4 + 1)), (0, x5)]) (tk (n := 9) t62_1 rfl) rfl rfl rfl rfl ?_
    refine s_goto (pc1 := 12) (tk (n := 10) t62_1 rfl) rfl rfl ?_
    rfl
  · refine s_aload_n (pc1 := 40) (tk (n := 22) t62_0 rfl) rfl rfl rfl ?_
    refine s_getf (pc1 := 43) (c := 8) (t1 := 2) (tk (n := 23) t62_0 rfl) rfl rfl (by decide) rfl rfl ?_
    refine s_iload (pc1 := 45) (tk (n := 24) t62_0 rfl) rfl rfl rfl ?_
    refine s_iald (pc1 := 46) (tk (n := 25) t62_0 rfl) rfl rfl  ?_
    refine s_iload_n (pc1 := 47) (tk (n := 26) t62_0 rfl) rfl rfl rfl ?_
    refine s_ic_ne (pc1 := 50) (pt := 60) (tk (n := 27) t62_0 rfl) rfl rfl rfl ?_ ?_
    · refine s_iinc (pc1 := 63) (ls1 := [(2, x0), (9, 0), (0, x2), (0, x3), (0, x4), (0, w32 (x5 + 1))]) (tk (n := 3) t62_1 rfl) rfl rfl rfl rfl ?_
      refine s_goto (pc1 := 29) (tk (n := 4) t62_1 rfl) rfl rfl ?_
      rfl
    · refine s_iload_n (pc1 := 51) (tk (n := 28) t62_0 rfl) rfl rfl rfl ?_
      refine s_if_ne (pc1 := 54) (pt := 57) (tk (n := 29) t62_0 rfl) rfl rfl rfl ?_ ?_
      · refine s_iinc (pc1 := 60) (ls1 := [(2, x0), (9, 0), (0, w32 (x2 + (-1))), (0, x3), (0, x4), (0, x5)]) (tk (n := 2) t62_1 rfl) rfl rfl rfl rfl ?_
        refine s_iinc (pc1 := 63) (ls1 := [(2, x0), (9, 0), (0, w32 (x2 + (-1))), (0, x3), (0, x4), (0, w32 (x5 + 1))]) (tk (n := 3) t62_1 rfl) rfl rfl rfl rfl ?_
        refine s_goto (pc1 := 29) (tk (n := 4) t62_1 rfl) rfl rfl ?_
        rfl
      · refine s_iload (pc1 := 56) (tk (n := 0) t62_1 rfl) rfl rfl rfl ?_
        exact s_ret (tk (n := 1) t62_1 rfl) rfl rfl rfl
set_option maxRecDepth 100000 in
set_option maxHeartbeats 4000000 in
theorem e_X8_greatestBelow (x0 : Int) (x1 : Int) (h : Hq) : vm 63 [(2, x0), (0, x1)] h = if 0 < x0 ∧ (kd x0).1 = 8 then if 20 ≤ (kd (h.2 x0 0)).1 ∧ (kd (h.2 x0 0)).1 ≤ 25 then vp 63 14 [(2, x0), (0, x1), (0, 0), (2, h.2 x0 0), (0, (kd (h.2 x0 0)).2), (0, 0), (9, 0)] [] h else none else none := by
  show vp 63 0 [(2, x0), (0, x1), (9, 0), (9, 0), (9, 0), (9, 0), (9, 0)] [] h = _
  refine s_iconst (pc1 := 1) (tk (n := 0) t63_0 rfl) rfl rfl  ?_
  refine s_istore_n (pc1 := 2) (ls1 := [(2, x0), (0, x1), (0, 0), (9, 0), (9, 0), (9, 0), (9, 0)]) (tk (n := 1) t63_0 rfl) rfl rfl rfl rfl ?_
  refine s_aload_n (pc1 := 3) (tk (n := 2) t63_0 rfl) rfl rfl rfl ?_
  refine s_getf (pc1 := 6) (c := 8) (t1 := 2) (tk (n := 3) t63_0 rfl) rfl rfl (by decide) rfl rfl ?_
  refine s_astore_n (pc1 := 7) (ls1 := [(2, x0), (0, x1), (0, 0), (2, h.2 x0 0), (9, 0), (9, 0), (9, 0)]) (tk (n := 4) t63_0 rfl) rfl rfl rfl rfl ?_
  refine s_aload_n (pc1 := 8) (tk (n := 5) t63_0 rfl) rfl rfl rfl ?_
  refine s_alen (pc1 := 9) (tk (n := 6) t63_0 rfl) rfl rfl  ?_
  refine s_istore (pc1 := 11) (ls1 := [(2, x0), (0, x1), (0, 0), (2, h.2 x0 0), (0, (kd (h.2 x0 0)).2), (9, 0), (9, 0)]) (tk (n := 7) t63_0 rfl) rfl rfl rfl rfl ?_
  refine s_iconst (pc1 := 12) (tk (n := 8) t63_0 rfl) rfl rfl  ?_
  refine s_istore (pc1 := 14) (ls1 := [(2, x0), (0, x1), (0, 0), (2, h.2 x0 0), (0, (kd (h.2 x0 0)).2), (0, 0), (9, 0)]) (tk (n := 9) t63_0 rfl) rfl rfl rfl rfl ?_
  rfl
set_option maxRecDepth 100000 in
set_option maxHeartbeats 4000000 in
theorem e_X8_greatestBelow_14 (z0 : Vl) (x1 : Int) (x2 : Int) (x3 : Int) (x4 : Int) (x5 : Int) (z6 : Vl) (h : Hq) : vp 63 14 [z0, (0, x1), (0, x2), (2, x3), (0, x4), (0, x5), z6] [] h = if x5 ≥ x4 then (some (some (0, x2), h)) else (if (kd x3).1 = 20 ∧ 0 ≤ x5 ∧ x5 < (kd x3).2 then if (h.2 x3 x5) ≥ x1 then (vp 63 14 [(9, 0), (0, x1), (0, x2), (2, x3), (0, x4), (0, w32 (x5 + 1)), (0, h.2 x3 x5)] [] h) else ((vm 313 [(0, x2), (0, h.2 x3 x5)] h).bind (fun r13 => vp 63 14 [(9, 0), (0, x1), (0, vx r13), (2, x3), (0, x4), (0, w32 (x5 + 1)), (0, h.2 x3 x5)] [] r13.2)) else none) := by
  refine s_fg (ls1 := [(9, 0), (0, x1), (0, x2), (2, x3), (0, x4), (0, x5), (9, 0)]) (tk (n := 10) t63_0 rfl) rfl ?_
  refine s_iload (pc1 := 16) (tk (n := 10) t63_0 rfl) rfl rfl rfl ?_
  refine s_iload (pc1 := 18) (tk (n := 11) t63_0 rfl) rfl rfl rfl ?_
  refine s_ic_ge (pc1 := 21) (pt := 46) (tk (n := 12) t63_0 rfl) rfl rfl rfl ?_ ?_
  · refine s_iload_n (pc1 := 47) (tk (n := 26) t63_0 rfl) rfl rfl rfl ?_
    exact s_ret (tk (n := 27) t63_0 rfl) rfl rfl rfl
  · refine s_aload_n (pc1 := 22) (tk (n := 13) t63_0 rfl) rfl rfl rfl ?_
    refine s_iload (pc1 := 24) (tk (n := 14) t63_0 rfl) rfl rfl rfl ?_
    refine s_iald (pc1 := 25) (tk (n := 15) t63_0 rfl) rfl rfl  ?_
    refine s_istore (pc1 := 27) (ls1 := [(9, 0), (0, x1), (0, x2), (2, x3), (0, x4), (0, x5), (0, h.2 x3 x5)]) (tk (n := 16) t63_0 rfl) rfl rfl rfl rfl ?_
    refine s_iload (pc1 := 29) (tk (n := 17) t63_0 rfl) rfl rfl rfl ?_
    refine s_iload_n (pc1 := 30) (tk (n := 18) t63_0 rfl) rfl rfl rfl ?_
    refine s_ic_ge (pc1 := 33) (pt := 40) (tk (n := 19) t63_0 rfl) rfl rfl rfl ?_ ?_
    · refine s_iinc (pc1 := 43) (ls1 := [(9, 0), (0, x1), (0, x2), (2, x3), (0, x4), (0, w32 (x5 + 1)), (0, h.2 x3 x5)]) (tk (n := 24) t63_0 rfl) rfl rfl rfl rfl ?_
      refine s_goto (pc1 := 14) (tk (n := 25) t63_0 rfl) rfl rfl ?_
      rfl
    · refine s_iload_n (pc1 := 34) (tk (n := 20) t63_0 rfl) rfl rfl rfl ?_
      refine s_iload (pc1 := 36) (tk (n := 21) t63_0 rfl) rfl rfl rfl ?_
      refine s_callS0 (as := [(0, x2), (0, h.2 x3 x5)]) (st1 := []) (p1 := 39) (M2 := 313) (tk (n := 22) t63_0 rfl) rfl rfl rfl rfl rfl (fun r13 => ?_)
      refine s_istore_n (pc1 := 40) (ls1 := [(9, 0), (0, x1), (0, vx r13), (2, x3), (0, x4), (0, x5), (0, h.2 x3 x5)]) (tk (n := 23) t63_0 rfl) rfl rfl rfl rfl ?_
      refine s_iinc (pc1 := 43) (ls1 := [(9, 0), (0, x1), (0, vx r13), (2, x3), (0, x4), (0, w32 (x5 + 1)), (0, h.2 x3 x5)]) (tk (n := 24) t63_0 rfl) rfl rfl rfl rfl ?_
      refine s_goto (pc1 := 14) (tk (n := 25) t63_0 rfl) rfl rfl ?_
      rfl
