set_option maxRecDepth 100000 in
set_option maxHeartbeats 4000000 in
theorem e_X12_nameHere (x0 : Int) (h : Hq) : vm 190 [(2, x0)] h = if 0 < x0 ∧ (kd x0).1 = 12 then if (h.2 x0 8) ≤ 0 then (if 0 < x0 ∧ (kd x0).1 = 12 then if (h.2 x0 5) ≠ 1 then (if 0 < x0 ∧ (kd x0).1 = 12 then (vm 179 [(2, x0), (0, 2)] h).bind (fun r10 => if 0 < x0 ∧ (kd x0).1 = 12 then some (some (1, r10.2.2 x0 12), r10.2) else none) else none) else (if 0 < x0 ∧ (kd x0).1 = 12 then if (h.2 x0 7) > 7 then (if 0 < x0 ∧ (kd x0).1 = 12 then (vm 179 [(2, x0), (0, 2)] h).bind (fun r14 => if 0 < x0 ∧ (kd x0).1 = 12 then some (some (1, r14.2.2 x0 12), r14.2) else none) else none) else (if 0 < x0 ∧ (kd x0).1 = 12 then (vm 185 [(2, x0)] h).bind (fun r13 => if (vx r13) = 0 then (if 0 < x0 ∧ (kd x0).1 = 12 then some (some (1, r13.2.2 x0 12), r13.2) else none) else (if 0 < x0 ∧ (kd x0).1 = 12 then (vm 179 [(2, x0), (0, 2)] r13.2).bind (fun r17 => if 0 < x0 ∧ (kd x0).1 = 12 then some (some (1, r17.2.2 x0 12), r17.2) else none) else none)) else none) else none) else none) else (some (some (1, 0), h)) else none := by
  show vp 190 0 [(2, x0)] [] h = _
  refine s_aload_n (pc1 := 1) (tk (n := 0) t190_0 rfl) rfl rfl rfl ?_
  refine s_getf (pc1 := 4) (c := 12) (t1 := 0) (tk (n := 1) t190_0 rfl) rfl rfl (by decide) rfl rfl ?_
  refine s_if_le (pc1 := 7) (pt := 9) (tk (n := 2) t190_0 rfl) rfl rfl rfl ?_ ?_
  · refine s_aload_n (pc1 := 10) (tk (n := 5) t190_0 rfl) rfl rfl rfl ?_
    refine s_getf (pc1 := 13) (c := 12) (t1 := 0) (tk (n := 6) t190_0 rfl) rfl rfl (by decide) rfl rfl ?_
    refine s_iconst (pc1 := 14) (tk (n := 7) t190_0 rfl) rfl rfl  ?_
    refine s_ic_ne (pc1 := 17) (pt := 33) (tk (n := 8) t190_0 rfl) rfl rfl rfl ?_ ?_
    · refine s_aload_n (pc1 := 34) (tk (n := 16) t190_0 rfl) rfl rfl rfl ?_
      refine s_iconst (pc1 := 35) (tk (n := 17) t190_0 rfl) rfl rfl  ?_
      refine s_call9 (as := [(2, x0), (0, 2)]) (st1 := []) (p1 := 38) (M2 := 179) (tk (n := 18) t190_0 rfl) rfl rfl rfl rfl rfl (fun r10 => ?_)
      refine s_aload_n (pc1 := 39) (tk (n := 19) t190_0 rfl) rfl rfl rfl ?_
      refine s_getf (pc1 := 42) (c := 12) (t1 := 1) (tk (n := 20) t190_0 rfl) rfl rfl (by decide) rfl rfl ?_
      exact s_ret (tk (n := 21) t190_0 rfl) rfl rfl rfl
    · refine s_aload_n (pc1 := 18) (tk (n := 9) t190_0 rfl) rfl rfl rfl ?_
      refine s_getf (pc1 := 21) (c := 12) (t1 := 0) (tk (n := 10) t190_0 rfl) rfl rfl (by decide) rfl rfl ?_
      refine s_bipush (pc1 := 23) (tk (n := 11) t190_0 rfl) rfl rfl  ?_
      refine s_ic_gt (pc1 := 26) (pt := 33) (tk (n := 12) t190_0 rfl) rfl rfl rfl ?_ ?_
      · refine s_aload_n (pc1 := 34) (tk (n := 16) t190_0 rfl) rfl rfl rfl ?_
        refine s_iconst (pc1 := 35) (tk (n := 17) t190_0 rfl) rfl rfl  ?_
        refine s_call9 (as := [(2, x0), (0, 2)]) (st1 := []) (p1 := 38) (M2 := 179) (tk (n := 18) t190_0 rfl) rfl rfl rfl rfl rfl (fun r14 => ?_)
        refine s_aload_n (pc1 := 39) (tk (n := 19) t190_0 rfl) rfl rfl rfl ?_
        refine s_getf (pc1 := 42) (c := 12) (t1 := 1) (tk (n := 20) t190_0 rfl) rfl rfl (by decide) rfl rfl ?_
        exact s_ret (tk (n := 21) t190_0 rfl) rfl rfl rfl
      · refine s_aload_n (pc1 := 27) (tk (n := 13) t190_0 rfl) rfl rfl rfl ?_
        refine s_call0 (as := [(2, x0)]) (st1 := []) (p1 := 30) (M2 := 185) (tk (n := 14) t190_0 rfl) rfl rfl rfl rfl rfl (fun r13 => ?_)
        refine s_if_eq (pc1 := 33) (pt := 38) (tk (n := 15) t190_0 rfl) rfl rfl rfl ?_ ?_
        · refine s_aload_n (pc1 := 39) (tk (n := 19) t190_0 rfl) rfl rfl rfl ?_
          refine s_getf (pc1 := 42) (c := 12) (t1 := 1) (tk (n := 20) t190_0 rfl) rfl rfl (by decide) rfl rfl ?_
          exact s_ret (tk (n := 21) t190_0 rfl) rfl rfl rfl
        · refine s_aload_n (pc1 := 34) (tk (n := 16) t190_0 rfl) rfl rfl rfl ?_
          refine s_iconst (pc1 := 35) (tk (n := 17) t190_0 rfl) rfl rfl  ?_
          refine s_call9 (as := [(2, x0), (0, 2)]) (st1 := []) (p1 := 38) (M2 := 179) (tk (n := 18) t190_0 rfl) rfl rfl rfl rfl rfl (fun r17 => ?_)
          refine s_aload_n (pc1 := 39) (tk (n := 19) t190_0 rfl) rfl rfl rfl ?_
          refine s_getf (pc1 := 42) (c := 12) (t1 := 1) (tk (n := 20) t190_0 rfl) rfl rfl (by decide) rfl rfl ?_
          exact s_ret (tk (n := 21) t190_0 rfl) rfl rfl rfl
  · refine s_lconst (pc1 := 8) (v := 0) (tk (n := 3) t190_0 rfl) rfl rfl rfl ?_
    exact s_ret (tk (n := 4) t190_0 rfl) rfl rfl rfl
set_option maxRecDepth 100000 in
set_option maxHeartbeats 4000000 in
theorem e_X12_begins (x0 : Int) (h : Hq) : vm 191 [(2, x0)] h = if 0 < x0 ∧ (kd x0).1 = 12 then if 0 < (h.2 x0 13) ∧ (kd (h.2 x0 13)).1 = 20 ∧ 0 ≤ (5 : Int) ∧ (5 : Int) < (kd (h.2 x0 13)).2 then if 0 < x0 ∧ (kd x0).1 = 12 then if 0 < ((stm h.2 (h.2 x0 13) 5 4) x0 13) ∧ (kd ((stm h.2 (h.2 x0 13) 5 4) x0 13)).1 = 20 ∧ 0 ≤ (6 : Int) ∧ (6 : Int) < (kd ((stm h.2 (h.2 x0 13) 5 4) x0 13)).2 then if 0 < x0 ∧ (kd x0).1 = 12 then if 0 < ((stm (stm h.2 (h.2 x0 13) 5 4) ((stm h.2 (h.2 x0 13) 5 4) x0 13) 6 2) x0 13) ∧ (kd ((stm (stm h.2 (h.2 x0 13) 5 4) ((stm h.2 (h.2 x0 13) 5 4) x0 13) 6 2) x0 13)).1 = 20 ∧ 0 ≤ (7 : Int) ∧ (7 : Int) < (kd ((stm (stm h.2 (h.2 x0 13) 5 4) ((stm h.2 (h.2 x0 13) 5 4) x0 13) 6 2) x0 13)).2 then if 0 < x0 ∧ (kd x0).1 = 12 then if 0 < ((stm (stm (stm h.2 (h.2 x0 13) 5 4) ((stm h.2 (h.2 x0 13) 5 4) x0 13) 6 2) ((stm (stm h.2 (h.2 x0 13) 5 4) ((stm h.2 (h.2 x0 13) 5 4) x0 13) 6 2) x0 13) 7 4) x0 13) ∧ (kd ((stm (stm (stm h.2 (h.2 x0 13) 5 4) ((stm h.2 (h.2 x0 13) 5 4) x0 13) 6 2) ((stm (stm h.2 (h.2 x0 13) 5 4) ((stm h.2 (h.2 x0 13) 5 4) x0 13) 6 2) x0 13) 7 4) x0 13)).1 = 20 ∧ 0 ≤ (8 : Int) ∧ (8 : Int) < (kd ((stm (stm (stm h.2 (h.2 x0 13) 5 4) ((stm h.2 (h.2 x0 13) 5 4) x0 13) 6 2) ((stm (stm h.2 (h.2 x0 13) 5 4) ((stm h.2 (h.2 x0 13) 5 4) x0 13) 6 2) x0 13) 7 4) x0 13)).2 then if 0 < x0 ∧ (kd x0).1 = 12 then if 0 < ((stm (stm (stm (stm h.2 (h.2 x0 13) 5 4) ((stm h.2 (h.2 x0 13) 5 4) x0 13) 6 2) ((stm (stm h.2 (h.2 x0 13) 5 4) ((stm h.2 (h.2 x0 13) 5 4) x0 13) 6 2) x0 13) 7 4) ((stm (stm (stm h.2 (h.2 x0 13) 5 4) ((stm h.2 (h.2 x0 13) 5 4) x0 13) 6 2) ((stm (stm h.2 (h.2 x0 13) 5 4) ((stm h.2 (h.2 x0 13) 5 4) x0 13) 6 2) x0 13) 7 4) x0 13) 8 0) x0 13) ∧ (kd ((stm (stm (stm (stm h.2 (h.2 x0 13) 5 4) ((stm h.2 (h.2 x0 13) 5 4) x0 13) 6 2) ((stm (stm h.2 (h.2 x0 13) 5 4) ((stm h.2 (h.2 x0 13) 5 4) x0 13) 6 2) x0 13) 7 4) ((stm (stm (stm h.2 (h.2 x0 13) 5 4) ((stm h.2 (h.2 x0 13) 5 4) x0 13) 6 2) ((stm (stm h.2 (h.2 x0 13) 5 4) ((stm h.2 (h.2 x0 13) 5 4) x0 13) 6 2) x0 13) 7 4) x0 13) 8 0) x0 13)).1 = 20 ∧ 0 ≤ (9 : Int) ∧ (9 : Int) < (kd ((stm (stm (stm (stm h.2 (h.2 x0 13) 5 4) ((stm h.2 (h.2 x0 13) 5 4) x0 13) 6 2) ((stm (stm h.2 (h.2 x0 13) 5 4) ((stm h.2 (h.2 x0 13) 5 4) x0 13) 6 2) x0 13) 7 4) ((stm (stm (stm h.2 (h.2 x0 13) 5 4) ((stm h.2 (h.2 x0 13) 5 4) x0 13) 6 2) ((stm (stm h.2 (h.2 x0 13) 5 4) ((stm h.2 (h.2 x0 13) 5 4) x0 13) 6 2) x0 13) 7 4) x0 13) 8 0) x0 13)).2 then if (0 < x0 ∧ (kd x0).1 = 12) ∧ True then if (0 < x0 ∧ (kd x0).1 = 12) ∧ ((0 : Int) = 0 ∨ (0 : Int) = 1) then some (none, (h.1, stm (stm (stm (stm (stm (stm (stm h.2 (h.2 x0 13) 5 4) ((stm h.2 (h.2 x0 13) 5 4) x0 13) 6 2) ((stm (stm h.2 (h.2 x0 13) 5 4) ((stm h.2 (h.2 x0 13) 5 4) x0 13) 6 2) x0 13) 7 4) ((stm (stm (stm h.2 (h.2 x0 13) 5 4) ((stm h.2 (h.2 x0 13) 5 4) x0 13) 6 2) ((stm (stm h.2 (h.2 x0 13) 5 4) ((stm h.2 (h.2 x0 13) 5 4) x0 13) 6 2) x0 13) 7 4) x0 13) 8 0) ((stm (stm (stm (stm h.2 (h.2 x0 13) 5 4) ((stm h.2 (h.2 x0 13) 5 4) x0 13) 6 2) ((stm (stm h.2 (h.2 x0 13) 5 4) ((stm h.2 (h.2 x0 13) 5 4) x0 13) 6 2) x0 13) 7 4) ((stm (stm (stm h.2 (h.2 x0 13) 5 4) ((stm h.2 (h.2 x0 13) 5 4) x0 13) 6 2) ((stm (stm h.2 (h.2 x0 13) 5 4) ((stm h.2 (h.2 x0 13) 5 4) x0 13) 6 2) x0 13) 7 4) x0 13) 8 0) x0 13) 9 0) x0 20 0) x0 21 0)) else none else none else none else none else none else none else none else none else none else none else none else none := by
  show vp 191 0 [(2, x0)] [] h = _
  refine s_aload_n (pc1 := 1) (tk (n := 0) t191_0 rfl) rfl rfl rfl ?_
  refine s_getf (pc1 := 4) (c := 12) (t1 := 2) (tk (n := 1) t191_0 rfl) rfl rfl (by decide) rfl rfl ?_
  refine s_iconst (pc1 := 5) (tk (n := 2) t191_0 rfl) rfl rfl  ?_
  refine s_iconst (pc1 := 6) (tk (n := 3) t191_0 rfl) rfl rfl  ?_
  refine s_iast (pc1 := 7) (tk (n := 4) t191_0 rfl) rfl rfl  ?_
  refine s_aload_n (pc1 := 8) (tk (n := 5) t191_0 rfl) rfl rfl rfl ?_
  refine s_getf (pc1 := 11) (c := 12) (t1 := 2) (tk (n := 6) t191_0 rfl) rfl rfl (by decide) rfl rfl ?_
  refine s_bipush (pc1 := 13) (tk (n := 7) t191_0 rfl) rfl rfl  ?_
  refine s_iconst (pc1 := 14) (tk (n := 8) t191_0 rfl) rfl rfl  ?_
  refine s_iast (pc1 := 15) (tk (n := 9) t191_0 rfl) rfl rfl  ?_
  refine s_aload_n (pc1 := 16) (tk (n := 10) t191_0 rfl) rfl rfl rfl ?_
  refine s_getf (pc1 := 19) (c := 12) (t1 := 2) (tk (n := 11) t191_0 rfl) rfl rfl (by decide) rfl rfl ?_
  refine s_bipush (pc1 := 21) (tk (n := 12) t191_0 rfl) rfl rfl  ?_
  refine s_iconst (pc1 := 22) (tk (n := 13) t191_0 rfl) rfl rfl  ?_
  refine s_iast (pc1 := 23) (tk (n := 14) t191_0 rfl) rfl rfl  ?_
  refine s_aload_n (pc1 := 24) (tk (n := 15) t191_0 rfl) rfl rfl rfl ?_
  refine s_getf (pc1 := 27) (c := 12) (t1 := 2) (tk (n := 16) t191_0 rfl) rfl rfl (by decide) rfl rfl ?_
  refine s_bipush (pc1 := 29) (tk (n := 17) t191_0 rfl) rfl rfl  ?_
  refine s_iconst (pc1 := 30) (tk (n := 18) t191_0 rfl) rfl rfl  ?_
  refine s_iast (pc1 := 31) (tk (n := 19) t191_0 rfl) rfl rfl  ?_
  refine s_aload_n (pc1 := 32) (tk (n := 20) t191_0 rfl) rfl rfl rfl ?_
  refine s_getf (pc1 := 35) (c := 12) (t1 := 2) (tk (n := 21) t191_0 rfl) rfl rfl (by decide) rfl rfl ?_
  refine s_bipush (pc1 := 37) (tk (n := 22) t191_0 rfl) rfl rfl  ?_
  refine s_iconst (pc1 := 38) (tk (n := 23) t191_0 rfl) rfl rfl  ?_
  refine s_iast (pc1 := 39) (tk (n := 24) t191_0 rfl) rfl rfl  ?_
  refine s_aload_n (pc1 := 40) (tk (n := 25) t191_0 rfl) rfl rfl rfl ?_
  refine s_iconst (pc1 := 41) (tk (n := 26) t191_0 rfl) rfl rfl  ?_
  refine s_putf0 (pc1 := 44) (c := 12) (tk (n := 27) t191_0 rfl) rfl rfl rfl rfl rfl ?_
  refine s_aload_n (pc1 := 45) (tk (n := 28) t191_0 rfl) rfl rfl rfl ?_
  refine s_iconst (pc1 := 46) (tk (n := 29) t191_0 rfl) rfl rfl  ?_
  refine s_putfZ (pc1 := 49) (c := 12) (tk (n := 0) t191_1 rfl) rfl rfl rfl ?_
  exact s_ret (tk (n := 1) t191_1 rfl) rfl rfl rfl
set_option maxRecDepth 100000 in
set_option maxHeartbeats 4000000 in
theorem e_X12_storeNamed (x0 : Int) (x1 : Int) (h : Hq) : vm 192 [(2, x0), (1, x1)] h = vp 192 2 [(2, x0), (1, x1), (9, 0), (0, 0)] [] h := by
  show vp 192 0 [(2, x0), (1, x1), (9, 0), (9, 0)] [] h = _
  refine s_iconst (pc1 := 1) (tk (n := 0) t192_0 rfl) rfl rfl  ?_
  refine s_istore_n (pc1 := 2) (ls1 := [(2, x0), (1, x1), (9, 0), (0, 0)]) (tk (n := 1) t192_0 rfl) rfl rfl rfl rfl ?_
  rfl
set_option maxRecDepth 100000 in
set_option maxHeartbeats 4000000 in
theorem e_X12_storeNamed_2 (x0 : Int) (x1 : Int) (x3 : Int) (h : Hq) : vp 192 2 [(2, x0), (1, x1), (9, 0), (0, x3)] [] h = if 0 < x0 ∧ (kd x0).1 = 12 then if (kd (h.2 x0 13)).1 = 20 ∧ 0 ≤ (8 : Int) ∧ (8 : Int) < (kd (h.2 x0 13)).2 then if x3 ≥ (h.2 (h.2 x0 13) 8) then (some (some (0, (-1)), h)) else (if 0 < x0 ∧ (kd x0).1 = 12 then if (kd (h.2 x0 14)).1 = 23 ∧ 0 ≤ (w32 (6 + x3)) ∧ (w32 (6 + x3)) < (kd (h.2 x0 14)).2 then if (if (h.2 (h.2 x0 14) (w32 (6 + x3))) < x1 then -1 else if (h.2 (h.2 x0 14) (w32 (6 + x3))) = x1 then 0 else 1) ≠ 0 then (vp 192 2 [(2, x0), (1, x1), (9, 0), (0, w32 (x3 + 1))] [] h) else (some (some (0, x3), h)) else none else none) else none else none := by
  refine s_iload_n (pc1 := 3) (tk (n := 2) t192_0 rfl) rfl rfl rfl ?_
  refine s_aload_n (pc1 := 4) (tk (n := 3) t192_0 rfl) rfl rfl rfl ?_
  refine s_getf (pc1 := 7) (c := 12) (t1 := 2) (tk (n := 4) t192_0 rfl) rfl rfl (by decide) rfl rfl ?_
  refine s_bipush (pc1 := 9) (tk (n := 5) t192_0 rfl) rfl rfl  ?_
  refine s_iald (pc1 := 10) (tk (n := 6) t192_0 rfl) rfl rfl  ?_
  refine s_ic_ge (pc1 := 13) (pt := 35) (tk (n := 7) t192_0 rfl) rfl rfl rfl ?_ ?_
  · refine s_iconst (pc1 := 36) (tk (n := 21) t192_0 rfl) rfl rfl  ?_
    exact s_ret (tk (n := 22) t192_0 rfl) rfl rfl rfl
  · refine s_aload_n (pc1 := 14) (tk (n := 8) t192_0 rfl) rfl rfl rfl ?_
    refine s_getf (pc1 := 17) (c := 12) (t1 := 2) (tk (n := 9) t192_0 rfl) rfl rfl (by decide) rfl rfl ?_
    refine s_bipush (pc1 := 19) (tk (n := 10) t192_0 rfl) rfl rfl  ?_
    refine s_iload_n (pc1 := 20) (tk (n := 11) t192_0 rfl) rfl rfl rfl ?_
    refine s_iadd (pc1 := 21) (tk (n := 12) t192_0 rfl) rfl rfl  ?_
    refine s_lald (pc1 := 22) (tk (n := 13) t192_0 rfl) rfl rfl  ?_
    refine s_lload_n (pc1 := 23) (tk (n := 14) t192_0 rfl) rfl rfl rfl ?_
    refine s_lcmp (pc1 := 24) (tk (n := 15) t192_0 rfl) rfl rfl  ?_
    refine s_if_ne (pc1 := 27) (pt := 29) (tk (n := 16) t192_0 rfl) rfl rfl rfl ?_ ?_
    · refine s_iinc (pc1 := 32) (ls1 := [(2, x0), (1, x1), (9, 0), (0, w32 (x3 + 1))]) (tk (n := 19) t192_0 rfl) rfl rfl rfl rfl ?_
      refine s_goto (pc1 := 2) (tk (n := 20) t192_0 rfl) rfl rfl ?_
      rfl
    · refine s_iload_n (pc1 := 28) (tk (n := 17) t192_0 rfl) rfl rfl rfl ?_
      exact s_ret (tk (n := 18) t192_0 rfl) rfl rfl rfl
set_option maxRecDepth 100000 in
set_option maxHeartbeats 4000000 in
theorem e_X12_textureNamed (x0 : Int) (x1 : Int) (h : Hq) : vm 193 [(2, x0), (1, x1)] h = vp 193 2 [(2, x0), (1, x1), (9, 0), (0, 0)] [] h := by
  show vp 193 0 [(2, x0), (1, x1), (9, 0), (9, 0)] [] h = _
  refine s_iconst (pc1 := 1) (tk (n := 0) t193_0 rfl) rfl rfl  ?_
  refine s_istore_n (pc1 := 2) (ls1 := [(2, x0), (1, x1), (9, 0), (0, 0)]) (tk (n := 1) t193_0 rfl) rfl rfl rfl rfl ?_
  rfl
set_option maxRecDepth 100000 in
set_option maxHeartbeats 4000000 in
theorem e_X12_textureNamed_2 (x0 : Int) (x1 : Int) (x3 : Int) (h : Hq) : vp 193 2 [(2, x0), (1, x1), (9, 0), (0, x3)] [] h = if 0 < x0 ∧ (kd x0).1 = 12 then if (kd (h.2 x0 13)).1 = 20 ∧ 0 ≤ (9 : Int) ∧ (9 : Int) < (kd (h.2 x0 13)).2 then if x3 ≥ (h.2 (h.2 x0 13) 9) then (some (some (0, (-1)), h)) else (if 0 < x0 ∧ (kd x0).1 = 12 then if (kd (h.2 x0 15)).1 = 23 ∧ 0 ≤ (w32 (4 + x3)) ∧ (w32 (4 + x3)) < (kd (h.2 x0 15)).2 then if (if (h.2 (h.2 x0 15) (w32 (4 + x3))) < x1 then -1 else if (h.2 (h.2 x0 15) (w32 (4 + x3))) = x1 then 0 else 1) ≠ 0 then (vp 193 2 [(2, x0), (1, x1), (9, 0), (0, w32 (x3 + 1))] [] h) else (some (some (0, x3), h)) else none else none) else none else none := by
  refine s_iload_n (pc1 := 3) (tk (n := 2) t193_0 rfl) rfl rfl rfl ?_
  refine s_aload_n (pc1 := 4) (tk (n := 3) t193_0 rfl) rfl rfl rfl ?_
  refine s_getf (pc1 := 7) (c := 12) (t1 := 2) (tk (n := 4) t193_0 rfl) rfl rfl (by decide) rfl rfl ?_
  refine s_bipush (pc1 := 9) (tk (n := 5) t193_0 rfl) rfl rfl  ?_
  refine s_iald (pc1 := 10) (tk (n := 6) t193_0 rfl) rfl rfl  ?_
  refine s_ic_ge (pc1 := 13) (pt := 34) (tk (n := 7) t193_0 rfl) rfl rfl rfl ?_ ?_
  · refine s_iconst (pc1 := 35) (tk (n := 21) t193_0 rfl) rfl rfl  ?_
    exact s_ret (tk (n := 22) t193_0 rfl) rfl rfl rfl
  · refine s_aload_n (pc1 := 14) (tk (n := 8) t193_0 rfl) rfl rfl rfl ?_
    refine s_getf (pc1 := 17) (c := 12) (t1 := 2) (tk (n := 9) t193_0 rfl) rfl rfl (by decide) rfl rfl ?_
    refine s_iconst (pc1 := 18) (tk (n := 10) t193_0 rfl) rfl rfl  ?_
    refine s_iload_n (pc1 := 19) (tk (n := 11) t193_0 rfl) rfl rfl rfl ?_
    refine s_iadd (pc1 := 20) (tk (n := 12) t193_0 rfl) rfl rfl  ?_
    refine s_lald (pc1 := 21) (tk (n := 13) t193_0 rfl) rfl rfl  ?_
    refine s_lload_n (pc1 := 22) (tk (n := 14) t193_0 rfl) rfl rfl rfl ?_
    refine s_lcmp (pc1 := 23) (tk (n := 15) t193_0 rfl) rfl rfl  ?_
    refine s_if_ne (pc1 := 26) (pt := 28) (tk (n := 16) t193_0 rfl) rfl rfl rfl ?_ ?_
    · refine s_iinc (pc1 := 31) (ls1 := [(2, x0), (1, x1), (9, 0), (0, w32 (x3 + 1))]) (tk (n := 19) t193_0 rfl) rfl rfl rfl rfl ?_
      refine s_goto (pc1 := 2) (tk (n := 20) t193_0 rfl) rfl rfl ?_
      rfl
    · refine s_iload_n (pc1 := 27) (tk (n := 17) t193_0 rfl) rfl rfl rfl ?_
      exact s_ret (tk (n := 18) t193_0 rfl) rfl rfl rfl
set_option maxRecDepth 100000 in
set_option maxHeartbeats 4000000 in
theorem e_X12_newName (x0 : Int) (h : Hq) : vm 194 [(2, x0)] h = if 0 < x0 ∧ (kd x0).1 = 12 then (vm 190 [(2, x0)] h).bind (fun r2 => if 0 < x0 ∧ (kd x0).1 = 12 then (vm 180 [(2, x0)] r2.2).bind (fun r5 => if (vx r5) = 0 then (if 0 < x0 ∧ (kd x0).1 = 12 then (vm 180 [(2, x0)] r5.2).bind (fun r8 => if (vx r8) = 0 then (some (some (1, vx r2), r8.2)) else (if 0 < x0 ∧ (kd x0).1 = 12 then (vm 178 [(2, x0)] r8.2).bind (fun r11 => some (some (1, vx r2), r11.2)) else none)) else none) else (if 0 < x0 ∧ (kd x0).1 = 12 then (vm 192 [(2, x0), (1, vx r2)] r5.2).bind (fun r9 => if (vx r9) ≠ (-1) then (if 0 < x0 ∧ (kd x0).1 = 12 then (vm 179 [(2, x0), (0, 3)] r9.2).bind (fun r14 => if 0 < x0 ∧ (kd x0).1 = 12 then (vm 180 [(2, x0)] r14.2).bind (fun r16 => if (vx r16) = 0 then (some (some (1, vx r2), r16.2)) else (if 0 < x0 ∧ (kd x0).1 = 12 then (vm 178 [(2, x0)] r16.2).bind (fun r19 => some (some (1, vx r2), r19.2)) else none)) else none) else none) else (if 0 < x0 ∧ (kd x0).1 = 12 then (vm 193 [(2, x0), (1, vx r2)] r9.2).bind (fun r14 => if (vx r14) = (-1) then (if 0 < x0 ∧ (kd x0).1 = 12 then (vm 180 [(2, x0)] r14.2).bind (fun r18 => if (vx r18) = 0 then (some (some (1, vx r2), r18.2)) else (if 0 < x0 ∧ (kd x0).1 = 12 then (vm 178 [(2, x0)] r18.2).bind (fun r21 => some (some (1, vx r2), r21.2)) else none)) else none) else (if 0 < x0 ∧ (kd x0).1 = 12 then (vm 179 [(2, x0), (0, 3)] r14.2).bind (fun r19 => if 0 < x0 ∧ (kd x0).1 = 12 then (vm 180 [(2, x0)] r19.2).bind (fun r21 => if (vx r21) = 0 then (some (some (1, vx r2), r21.2)) else (if 0 < x0 ∧ (kd x0).1 = 12 then (vm 178 [(2, x0)] r21.2).bind (fun r24 => some (some (1, vx r2), r24.2)) else none)) else none) else none)) else none)) else none)) else none) else none := by
  show vp 194 0 [(2, x0), (9, 0), (9, 0)] [] h = _
  refine s_aload_n (pc1 := 1) (tk (n := 0) t194_0 rfl) rfl rfl rfl ?_
  refine s_call1 (as := [(2, x0)]) (st1 := []) (p1 := 4) (M2 := 190) (tk (n := 1) t194_0 rfl) rfl rfl rfl rfl rfl (fun r2 => ?_)
  refine s_lstore_n (pc1 := 5) (ls1 := [(2, x0), (1, vx r2), (9, 0)]) (tk (n := 2) t194_0 rfl) rfl rfl rfl rfl ?_
  refine s_aload_n (pc1 := 6) (tk (n := 3) t194_0 rfl) rfl rfl rfl ?_
  refine s_call0 (as := [(2, x0)]) (st1 := []) (p1 := 9) (M2 := 180) (tk (n := 4) t194_0 rfl) rfl rfl rfl rfl rfl (fun r5 => ?_)
  refine s_if_eq (pc1 := 12) (pt := 35) (tk (n := 5) t194_0 rfl) rfl rfl rfl ?_ ?_
  · refine s_aload_n (pc1 := 36) (tk (n := 19) t194_0 rfl) rfl rfl rfl ?_
    refine s_call0 (as := [(2, x0)]) (st1 := []) (p1 := 39) (M2 := 180) (tk (n := 20) t194_0 rfl) rfl rfl rfl rfl rfl (fun r8 => ?_)
    refine s_if_eq (pc1 := 42) (pt := 46) (tk (n := 21) t194_0 rfl) rfl rfl rfl ?_ ?_
    · refine s_lload_n (pc1 := 47) (tk (n := 24) t194_0 rfl) rfl rfl rfl ?_
      exact s_ret (tk (n := 25) t194_0 rfl) rfl rfl rfl
    · refine s_aload_n (pc1 := 43) (tk (n := 22) t194_0 rfl) rfl rfl rfl ?_
      refine s_call9 (as := [(2, x0)]) (st1 := []) (p1 := 46) (M2 := 178) (tk (n := 23) t194_0 rfl) rfl rfl rfl rfl rfl (fun r11 => ?_)
      refine s_lload_n (pc1 := 47) (tk (n := 24) t194_0 rfl) rfl rfl rfl ?_
      exact s_ret (tk (n := 25) t194_0 rfl) rfl rfl rfl
  · refine s_aload_n (pc1 := 13) (tk (n := 6) t194_0 rfl) rfl rfl rfl ?_
    refine s_lload_n (pc1 := 14) (tk (n := 7) t194_0 rfl) rfl rfl rfl ?_
    refine s_call0 (as := [(2, x0), (1, vx r2)]) (st1 := []) (p1 := 17) (M2 := 192) (tk (n := 8) t194_0 rfl) rfl rfl rfl rfl rfl (fun r9 => ?_)
    refine s_iconst (pc1 := 18) (tk (n := 9) t194_0 rfl) rfl rfl  ?_
    refine s_ic_ne (pc1 := 21) (pt := 30) (tk (n := 10) t194_0 rfl) rfl rfl rfl ?_ ?_
    · refine s_aload_n (pc1 := 31) (tk (n := 16) t194_0 rfl) rfl rfl rfl ?_
      refine s_iconst (pc1 := 32) (tk (n := 17) t194_0 rfl) rfl rfl  ?_
      refine s_call9 (as := [(2, x0), (0, 3)]) (st1 := []) (p1 := 35) (M2 := 179) (tk (n := 18) t194_0 rfl) rfl rfl rfl rfl rfl (fun r14 => ?_)
      refine s_aload_n (pc1 := 36) (tk (n := 19) t194_0 rfl) rfl rfl rfl ?_
      refine s_call0 (as := [(2, x0)]) (st1 := []) (p1 := 39) (M2 := 180) (tk (n := 20) t194_0 rfl) rfl rfl rfl rfl rfl (fun r16 => ?_)
      refine s_if_eq (pc1 := 42) (pt := 46) (tk (n := 21) t194_0 rfl) rfl rfl rfl ?_ ?_
      · refine s_lload_n (pc1 := 47) (tk (n := 24) t194_0 rfl) rfl rfl rfl ?_
        exact s_ret (tk (n := 25) t194_0 rfl) rfl rfl rfl
      · refine s_aload_n (pc1 := 43) (tk (n := 22) t194_0 rfl) rfl rfl rfl ?_
        refine s_call9 (as := [(2, x0)]) (st1 := []) (p1 := 46) (M2 := 178) (tk (n := 23) t194_0 rfl) rfl rfl rfl rfl rfl (fun r19 => ?_)
        refine s_lload_n (pc1 := 47) (tk (n := 24) t194_0 rfl) rfl rfl rfl ?_
        exact s_ret (tk (n := 25) t194_0 rfl) rfl rfl rfl
    · refine s_aload_n (pc1 := 22) (tk (n := 11) t194_0 rfl) rfl rfl rfl ?_
      refine s_lload_n (pc1 := 23) (tk (n := 12) t194_0 rfl) rfl rfl rfl ?_
      refine s_call0 (as := [(2, x0), (1, vx r2)]) (st1 := []) (p1 := 26) (M2 := 193) (tk (n := 13) t194_0 rfl) rfl rfl rfl rfl rfl (fun r14 => ?_)
      refine s_iconst (pc1 := 27) (tk (n := 14) t194_0 rfl) rfl rfl  ?_
      refine s_ic_eq (pc1 := 30) (pt := 35) (tk (n := 15) t194_0 rfl) rfl rfl rfl ?_ ?_
      · refine s_aload_n (pc1 := 36) (tk (n := 19) t194_0 rfl) rfl rfl rfl ?_
        refine s_call0 (as := [(2, x0)]) (st1 := []) (p1 := 39) (M2 := 180) (tk (n := 20) t194_0 rfl) rfl rfl rfl rfl rfl (fun r18 => ?_)
        refine s_if_eq (pc1 := 42) (pt := 46) (tk (n := 21) t194_0 rfl) rfl rfl rfl ?_ ?_
        · refine s_lload_n (pc1 := 47) (tk (n := 24) t194_0 rfl) rfl rfl rfl ?_
          exact s_ret (tk (n := 25) t194_0 rfl) rfl rfl rfl
        · refine s_aload_n (pc1 := 43) (tk (n := 22) t194_0 rfl) rfl rfl rfl ?_
          refine s_call9 (as := [(2, x0)]) (st1 := []) (p1 := 46) (M2 := 178) (tk (n := 23) t194_0 rfl) rfl rfl rfl rfl rfl (fun r21 => ?_)
          refine s_lload_n (pc1 := 47) (tk (n := 24) t194_0 rfl) rfl rfl rfl ?_
          exact s_ret (tk (n := 25) t194_0 rfl) rfl rfl rfl
      · refine s_aload_n (pc1 := 31) (tk (n := 16) t194_0 rfl) rfl rfl rfl ?_
        refine s_iconst (pc1 := 32) (tk (n := 17) t194_0 rfl) rfl rfl  ?_
        refine s_call9 (as := [(2, x0), (0, 3)]) (st1 := []) (p1 := 35) (M2 := 179) (tk (n := 18) t194_0 rfl) rfl rfl rfl rfl rfl (fun r19 => ?_)
        refine s_aload_n (pc1 := 36) (tk (n := 19) t194_0 rfl) rfl rfl rfl ?_
        refine s_call0 (as := [(2, x0)]) (st1 := []) (p1 := 39) (M2 := 180) (tk (n := 20) t194_0 rfl) rfl rfl rfl rfl rfl (fun r21 => ?_)
        refine s_if_eq (pc1 := 42) (pt := 46) (tk (n := 21) t194_0 rfl) rfl rfl rfl ?_ ?_
        · refine s_lload_n (pc1 := 47) (tk (n := 24) t194_0 rfl) rfl rfl rfl ?_
          exact s_ret (tk (n := 25) t194_0 rfl) rfl rfl rfl
        · refine s_aload_n (pc1 := 43) (tk (n := 22) t194_0 rfl) rfl rfl rfl ?_
          refine s_call9 (as := [(2, x0)]) (st1 := []) (p1 := 46) (M2 := 178) (tk (n := 23) t194_0 rfl) rfl rfl rfl rfl rfl (fun r24 => ?_)
          refine s_lload_n (pc1 := 47) (tk (n := 24) t194_0 rfl) rfl rfl rfl ?_
          exact s_ret (tk (n := 25) t194_0 rfl) rfl rfl rfl
set_option maxRecDepth 100000 in
set_option maxHeartbeats 4000000 in
theorem e_X12_cacheLine (x0 : Int) (h : Hq) : vm 195 [(2, x0)] h = if 0 < x0 ∧ (kd x0).1 = 12 then if (h.2 x0 21) = 0 then (if 0 < x0 ∧ (kd x0).1 = 12 then (vm 180 [(2, x0)] h).bind (fun r5 => if (vx r5) = 0 then (vp 195 23 [(2, x0), (9, 0), (9, 0), (9, 0)] [] r5.2) else (if 0 < x0 ∧ (kd x0).1 = 12 then (vm 178 [(2, x0)] r5.2).bind (fun r8 => vp 195 23 [(2, x0), (9, 0), (9, 0), (9, 0)] [] r8.2) else none)) else none) else (if 0 < x0 ∧ (kd x0).1 = 12 then (vm 179 [(2, x0), (0, 2)] h).bind (fun r6 => if 0 < x0 ∧ (kd x0).1 = 12 then (vm 180 [(2, x0)] r6.2).bind (fun r8 => if (vx r8) = 0 then (vp 195 23 [(2, x0), (9, 0), (9, 0), (9, 0)] [] r8.2) else (if 0 < x0 ∧ (kd x0).1 = 12 then (vm 178 [(2, x0)] r8.2).bind (fun r11 => vp 195 23 [(2, x0), (9, 0), (9, 0), (9, 0)] [] r11.2) else none)) else none) else none) else none := by
  show vp 195 0 [(2, x0), (9, 0), (9, 0), (9, 0)] [] h = _
  refine s_aload_n (pc1 := 1) (tk (n := 0) t195_0 rfl) rfl rfl rfl ?_
  refine s_getf (pc1 := 4) (c := 12) (t1 := 0) (tk (n := 1) t195_0 rfl) rfl rfl (by decide) rfl rfl ?_
  refine s_if_eq (pc1 := 7) (pt := 12) (tk (n := 2) t195_0 rfl) rfl rfl rfl ?_ ?_
  · refine s_aload_n (pc1 := 13) (tk (n := 6) t195_0 rfl) rfl rfl rfl ?_
    refine s_call0 (as := [(2, x0)]) (st1 := []) (p1 := 16) (M2 := 180) (tk (n := 7) t195_0 rfl) rfl rfl rfl rfl rfl (fun r5 => ?_)
    refine s_if_eq (pc1 := 19) (pt := 23) (tk (n := 8) t195_0 rfl) rfl rfl rfl ?_ ?_
    · rfl
    · refine s_aload_n (pc1 := 20) (tk (n := 9) t195_0 rfl) rfl rfl rfl ?_
      refine s_call9 (as := [(2, x0)]) (st1 := []) (p1 := 23) (M2 := 178) (tk (n := 10) t195_0 rfl) rfl rfl rfl rfl rfl (fun r8 => ?_)
      rfl
  · refine s_aload_n (pc1 := 8) (tk (n := 3) t195_0 rfl) rfl rfl rfl ?_
    refine s_iconst (pc1 := 9) (tk (n := 4) t195_0 rfl) rfl rfl  ?_
    refine s_call9 (as := [(2, x0), (0, 2)]) (st1 := []) (p1 := 12) (M2 := 179) (tk (n := 5) t195_0 rfl) rfl rfl rfl rfl rfl (fun r6 => ?_)
    refine s_aload_n (pc1 := 13) (tk (n := 6) t195_0 rfl) rfl rfl rfl ?_
    refine s_call0 (as := [(2, x0)]) (st1 := []) (p1 := 16) (M2 := 180) (tk (n := 7) t195_0 rfl) rfl rfl rfl rfl rfl (fun r8 => ?_)
    refine s_if_eq (pc1 := 19) (pt := 23) (tk (n := 8) t195_0 rfl) rfl rfl rfl ?_ ?_
    · rfl
    · refine s_aload_n (pc1 := 20) (tk (n := 9) t195_0 rfl) rfl rfl rfl ?_
      refine s_call9 (as := [(2, x0)]) (st1 := []) (p1 := 23) (M2 := 178) (tk (n := 10) t195_0 rfl) rfl rfl rfl rfl rfl (fun r11 => ?_)
      rfl
set_option maxRecDepth 100000 in
set_option maxHeartbeats 4000000 in
theorem e_X12_cacheLine_23 (x0 : Int) (z1 : Vl) (z2 : Vl) (z3 : Vl) (h : Hq) : vp 195 23 [(2, x0), z1, z2, z3] [] h = if (0 < x0 ∧ (kd x0).1 = 12) ∧ ((1 : Int) = 0 ∨ (1 : Int) = 1) then if 0 < x0 ∧ (kd x0).1 = 12 then (vm 189 [(2, x0), (0, 8)] (h.1, stm h.2 x0 21 1)).bind (fun r6 => if 0 < x0 ∧ (kd x0).1 = 12 then (vm 186 [(2, x0), (1, 25209)] r6.2).bind (fun r10 => if 0 < x0 ∧ (kd x0).1 = 12 then (vm 188 [(2, x0), (0, 1), (0, 4)] r10.2).bind (fun r14 => if 0 < x0 ∧ (kd x0).1 = 12 then (vm 186 [(2, x0), (1, 28518)] r14.2).bind (fun r18 => if 0 < x0 ∧ (kd x0).1 = 12 then (vm 189 [(2, x0), (0, 16)] r18.2).bind (fun r21 => if 0 < x0 ∧ (kd x0).1 = 12 then if (r21.2.2 x0 8) ≤ 0 then (if 0 < x0 ∧ (kd x0).1 = 12 then if 0 < (r21.2.2 x0 13) ∧ (kd (r21.2.2 x0 13)).1 = 20 ∧ 0 ≤ (5 : Int) ∧ (5 : Int) < (kd (r21.2.2 x0 13)).2 then if 0 < x0 ∧ (kd x0).1 = 12 then if 0 < ((stm r21.2.2 (r21.2.2 x0 13) 5 (vx r6)) x0 13) ∧ (kd ((stm r21.2.2 (r21.2.2 x0 13) 5 (vx r6)) x0 13)).1 = 20 ∧ 0 ≤ (6 : Int) ∧ (6 : Int) < (kd ((stm r21.2.2 (r21.2.2 x0 13) 5 (vx r6)) x0 13)).2 then if 0 < x0 ∧ (kd x0).1 = 12 then if 0 < ((stm (stm r21.2.2 (r21.2.2 x0 13) 5 (vx r6)) ((stm r21.2.2 (r21.2.2 x0 13) 5 (vx r6)) x0 13) 6 (vx r14)) x0 13) ∧ (kd ((stm (stm r21.2.2 (r21.2.2 x0 13) 5 (vx r6)) ((stm r21.2.2 (r21.2.2 x0 13) 5 (vx r6)) x0 13) 6 (vx r14)) x0 13)).1 = 20 ∧ 0 ≤ (7 : Int) ∧ (7 : Int) < (kd ((stm (stm r21.2.2 (r21.2.2 x0 13) 5 (vx r6)) ((stm r21.2.2 (r21.2.2 x0 13) 5 (vx r6)) x0 13) 6 (vx r14)) x0 13)).2 then some (none, (r21.2.1, stm (stm (stm r21.2.2 (r21.2.2 x0 13) 5 (vx r6)) ((stm r21.2.2 (r21.2.2 x0 13) 5 (vx r6)) x0 13) 6 (vx r14)) ((stm (stm r21.2.2 (r21.2.2 x0 13) 5 (vx r6)) ((stm r21.2.2 (r21.2.2 x0 13) 5 (vx r6)) x0 13) 6 (vx r14)) x0 13) 7 (vx r21))) else none else none else none else none else none else none) else (some (none, r21.2)) else none) else none) else none) else none) else none) else none else none := by
  refine s_fg (ls1 := [(2, x0), (9, 0), (9, 0), (9, 0)]) (tk (n := 11) t195_0 rfl) rfl ?_
  refine s_aload_n (pc1 := 24) (tk (n := 11) t195_0 rfl) rfl rfl rfl ?_
  refine s_iconst (pc1 := 25) (tk (n := 12) t195_0 rfl) rfl rfl  ?_
  refine s_putfZ (pc1 := 28) (c := 12) (tk (n := 13) t195_0 rfl) rfl rfl rfl ?_
  refine s_aload_n (pc1 := 29) (tk (n := 14) t195_0 rfl) rfl rfl rfl ?_
  refine s_bipush (pc1 := 31) (tk (n := 15) t195_0 rfl) rfl rfl  ?_
  refine s_call0 (as := [(2, x0), (0, 8)]) (st1 := []) (p1 := 34) (M2 := 189) (tk (n := 16) t195_0 rfl) rfl rfl rfl rfl rfl (fun r6 => ?_)
  refine s_istore_n (pc1 := 35) (ls1 := [(2, x0), (0, vx r6), (9, 0), (9, 0)]) (tk (n := 17) t195_0 rfl) rfl rfl rfl rfl ?_
  refine s_aload_n (pc1 := 36) (tk (n := 18) t195_0 rfl) rfl rfl rfl ?_
  refine s_ldc2 (pc1 := 39) (tk (n := 19) t195_0 rfl) rfl rfl  ?_
  refine s_call9 (as := [(2, x0), (1, 25209)]) (st1 := []) (p1 := 42) (M2 := 186) (tk (n := 20) t195_0 rfl) rfl rfl rfl rfl rfl (fun r10 => ?_)
  refine s_aload_n (pc1 := 43) (tk (n := 21) t195_0 rfl) rfl rfl rfl ?_
  refine s_iconst (pc1 := 44) (tk (n := 22) t195_0 rfl) rfl rfl  ?_
  refine s_iconst (pc1 := 45) (tk (n := 23) t195_0 rfl) rfl rfl  ?_
  refine s_call0 (as := [(2, x0), (0, 1), (0, 4)]) (st1 := []) (p1 := 48) (M2 := 188) (tk (n := 24) t195_0 rfl) rfl rfl rfl rfl rfl (fun r14 => ?_)
  refine s_istore_n (pc1 := 49) (ls1 := [(2, x0), (0, vx r6), (0, vx r14), (9, 0)]) (tk (n := 25) t195_0 rfl) rfl rfl rfl rfl ?_
  refine s_aload_n (pc1 := 50) (tk (n := 26) t195_0 rfl) rfl rfl rfl ?_
  refine s_ldc2 (pc1 := 53) (tk (n := 27) t195_0 rfl) rfl rfl  ?_
  refine s_call9 (as := [(2, x0), (1, 28518)]) (st1 := []) (p1 := 56) (M2 := 186) (tk (n := 28) t195_0 rfl) rfl rfl rfl rfl rfl (fun r18 => ?_)
  refine s_aload_n (pc1 := 57) (tk (n := 29) t195_0 rfl) rfl rfl rfl ?_
  refine s_bipush (pc1 := 59) (tk (n := 0) t195_1 rfl) rfl rfl  ?_
  refine s_call0 (as := [(2, x0), (0, 16)]) (st1 := []) (p1 := 62) (M2 := 189) (tk (n := 1) t195_1 rfl) rfl rfl rfl rfl rfl (fun r21 => ?_)
  refine s_istore_n (pc1 := 63) (ls1 := [(2, x0), (0, vx r6), (0, vx r14), (0, vx r21)]) (tk (n := 2) t195_1 rfl) rfl rfl rfl rfl ?_
  refine s_aload_n (pc1 := 64) (tk (n := 3) t195_1 rfl) rfl rfl rfl ?_
  refine s_getf (pc1 := 67) (c := 12) (t1 := 0) (tk (n := 4) t195_1 rfl) rfl rfl (by decide) rfl rfl ?_
  refine s_if_le (pc1 := 70) (pt := 71) (tk (n := 5) t195_1 rfl) rfl rfl rfl ?_ ?_
  · refine s_aload_n (pc1 := 72) (tk (n := 7) t195_1 rfl) rfl rfl rfl ?_
    refine s_getf (pc1 := 75) (c := 12) (t1 := 2) (tk (n := 8) t195_1 rfl) rfl rfl (by decide) rfl rfl ?_
    refine s_iconst (pc1 := 76) (tk (n := 9) t195_1 rfl) rfl rfl  ?_
    refine s_iload_n (pc1 := 77) (tk (n := 10) t195_1 rfl) rfl rfl rfl ?_
    refine s_iast (pc1 := 78) (tk (n := 11) t195_1 rfl) rfl rfl  ?_
    refine s_aload_n (pc1 := 79) (tk (n := 12) t195_1 rfl) rfl rfl rfl ?_
    refine s_getf (pc1 := 82) (c := 12) (t1 := 2) (tk (n := 13) t195_1 rfl) rfl rfl (by decide) rfl rfl ?_
    refine s_bipush (pc1 := 84) (tk (n := 14) t195_1 rfl) rfl rfl  ?_
    refine s_iload_n (pc1 := 85) (tk (n := 15) t195_1 rfl) rfl rfl rfl ?_
    refine s_iast (pc1 := 86) (tk (n := 16) t195_1 rfl) rfl rfl  ?_
    refine s_aload_n (pc1 := 87) (tk (n := 17) t195_1 rfl) rfl rfl rfl ?_
    refine s_getf (pc1 := 90) (c := 12) (t1 := 2) (tk (n := 18) t195_1 rfl) rfl rfl (by decide) rfl rfl ?_
    refine s_bipush (pc1 := 92) (tk (n := 19) t195_1 rfl) rfl rfl  ?_
    refine s_iload_n (pc1 := 93) (tk (n := 20) t195_1 rfl) rfl rfl rfl ?_
    refine s_iast (pc1 := 94) (tk (n := 21) t195_1 rfl) rfl rfl  ?_
    exact s_ret (tk (n := 22) t195_1 rfl) rfl rfl rfl
  · exact s_ret (tk (n := 6) t195_1 rfl) rfl rfl rfl
set_option maxRecDepth 100000 in
set_option maxHeartbeats 4000000 in
theorem e_X12_storeLine (x0 : Int) (x1 : Int) (h : Hq) : vm 196 [(2, x0), (0, x1)] h = if 0 < x0 ∧ (kd x0).1 = 12 then if (kd (h.2 x0 13)).1 = 20 ∧ 0 ≤ (8 : Int) ∧ (8 : Int) < (kd (h.2 x0 13)).2 then if (h.2 (h.2 x0 13) 8) ≠ 6 then (if 0 < x0 ∧ (kd x0).1 = 12 then (vm 180 [(2, x0)] h).bind (fun r10 => if (vx r10) = 0 then (vp 196 30 [(2, x0), (0, x1), (0, h.2 (h.2 x0 13) 8), (9, 0), (9, 0), (9, 0), (9, 0)] [] r10.2) else (if 0 < x0 ∧ (kd x0).1 = 12 then (vm 178 [(2, x0)] r10.2).bind (fun r13 => vp 196 30 [(2, x0), (0, x1), (0, h.2 (h.2 x0 13) 8), (9, 0), (9, 0), (9, 0), (9, 0)] [] r13.2) else none)) else none) else (if 0 < x0 ∧ (kd x0).1 = 12 then (vm 179 [(2, x0), (0, 2)] h).bind (fun r11 => if 0 < x0 ∧ (kd x0).1 = 12 then (vm 180 [(2, x0)] r11.2).bind (fun r13 => if (vx r13) = 0 then (vp 196 30 [(2, x0), (0, x1), (0, h.2 (h.2 x0 13) 8), (9, 0), (9, 0), (9, 0), (9, 0)] [] r13.2) else (if 0 < x0 ∧ (kd x0).1 = 12 then (vm 178 [(2, x0)] r13.2).bind (fun r16 => vp 196 30 [(2, x0), (0, x1), (0, h.2 (h.2 x0 13) 8), (9, 0), (9, 0), (9, 0), (9, 0)] [] r16.2) else none)) else none) else none) else none else none := by
  show vp 196 0 [(2, x0), (0, x1), (9, 0), (9, 0), (9, 0), (9, 0), (9, 0)] [] h = _
  refine s_aload_n (pc1 := 1) (tk (n := 0) t196_0 rfl) rfl rfl rfl ?_
  refine s_getf (pc1 := 4) (c := 12) (t1 := 2) (tk (n := 1) t196_0 rfl) rfl rfl (by decide) rfl rfl ?_
  refine s_bipush (pc1 := 6) (tk (n := 2) t196_0 rfl) rfl rfl  ?_
  refine s_iald (pc1 := 7) (tk (n := 3) t196_0 rfl) rfl rfl  ?_
  refine s_istore_n (pc1 := 8) (ls1 := [(2, x0), (0, x1), (0, h.2 (h.2 x0 13) 8), (9, 0), (9, 0), (9, 0), (9, 0)]) (tk (n := 4) t196_0 rfl) rfl rfl rfl rfl ?_
  refine s_iload_n (pc1 := 9) (tk (n := 5) t196_0 rfl) rfl rfl rfl ?_
  refine s_bipush (pc1 := 11) (tk (n := 6) t196_0 rfl) rfl rfl  ?_
  refine s_ic_ne (pc1 := 14) (pt := 19) (tk (n := 7) t196_0 rfl) rfl rfl rfl ?_ ?_
  · refine s_aload_n (pc1 := 20) (tk (n := 11) t196_0 rfl) rfl rfl rfl ?_
    refine s_call0 (as := [(2, x0)]) (st1 := []) (p1 := 23) (M2 := 180) (tk (n := 12) t196_0 rfl) rfl rfl rfl rfl rfl (fun r10 => ?_)
    refine s_if_eq (pc1 := 26) (pt := 30) (tk (n := 13) t196_0 rfl) rfl rfl rfl ?_ ?_
    · rfl
    · refine s_aload_n (pc1 := 27) (tk (n := 14) t196_0 rfl) rfl rfl rfl ?_
      refine s_call9 (as := [(2, x0)]) (st1 := []) (p1 := 30) (M2 := 178) (tk (n := 15) t196_0 rfl) rfl rfl rfl rfl rfl (fun r13 => ?_)
      rfl
  · refine s_aload_n (pc1 := 15) (tk (n := 8) t196_0 rfl) rfl rfl rfl ?_
    refine s_iconst (pc1 := 16) (tk (n := 9) t196_0 rfl) rfl rfl  ?_
    refine s_call9 (as := [(2, x0), (0, 2)]) (st1 := []) (p1 := 19) (M2 := 179) (tk (n := 10) t196_0 rfl) rfl rfl rfl rfl rfl (fun r11 => ?_)
    refine s_aload_n (pc1 := 20) (tk (n := 11) t196_0 rfl) rfl rfl rfl ?_
    refine s_call0 (as := [(2, x0)]) (st1 := []) (p1 := 23) (M2 := 180) (tk (n := 12) t196_0 rfl) rfl rfl rfl rfl rfl (fun r13 => ?_)
    refine s_if_eq (pc1 := 26) (pt := 30) (tk (n := 13) t196_0 rfl) rfl rfl rfl ?_ ?_
    · rfl
    · refine s_aload_n (pc1 := 27) (tk (n := 14) t196_0 rfl) rfl rfl rfl ?_
      refine s_call9 (as := [(2, x0)]) (st1 := []) (p1 := 30) (M2 := 178) (tk (n := 15) t196_0 rfl) rfl rfl rfl rfl rfl (fun r16 => ?_)
      rfl
set_option maxRecDepth 100000 in
set_option maxHeartbeats 4000000 in
theorem e_X12_storeLine_30 (x0 : Int) (x1 : Int) (x2 : Int) (z3 : Vl) (z4 : Vl) (z5 : Vl) (z6 : Vl) (h : Hq) : vp 196 30 [(2, x0), (0, x1), (0, x2), z3, z4, z5, z6] [] h = if 0 < x0 ∧ (kd x0).1 = 12 then (vm 194 [(2, x0)] h).bind (fun r2 => if x1 ≠ (-1) then (vp 196 84 [(2, x0), (0, x1), (0, x2), (1, vx r2), (9, 0), (0, x1), (0, 0)] [] r2.2) else (if 0 < x0 ∧ (kd x0).1 = 12 then (vm 182 [(2, x0)] r2.2).bind (fun r12 => if (vx r12) ≠ (-1) then (if 0 < x0 ∧ (kd x0).1 = 12 then (vm 180 [(2, x0)] r12.2).bind (fun r18 => if (vx r18) = 0 then (if 0 < x0 ∧ (kd x0).1 = 12 then (vm 188 [(2, x0), (0, 1), (0, 400)] r18.2).bind (fun r23 => vp 196 84 [(2, x0), (0, x1), (0, x2), (1, vx r2), (9, 0), (0, vx r12), (0, vx r23)] [] r23.2) else none) else (if 0 < x0 ∧ (kd x0).1 = 12 then (vm 178 [(2, x0)] r18.2).bind (fun r21 => if 0 < x0 ∧ (kd x0).1 = 12 then (vm 188 [(2, x0), (0, 1), (0, 400)] r21.2).bind (fun r25 => vp 196 84 [(2, x0), (0, x1), (0, x2), (1, vx r2), (9, 0), (0, vx r12), (0, vx r25)] [] r25.2) else none) else none)) else none) else (if 0 < x0 ∧ (kd x0).1 = 12 then (vm 179 [(2, x0), (0, 2)] r12.2).bind (fun r19 => if 0 < x0 ∧ (kd x0).1 = 12 then (vm 180 [(2, x0)] r19.2).bind (fun r21 => if (vx r21) = 0 then (if 0 < x0 ∧ (kd x0).1 = 12 then (vm 188 [(2, x0), (0, 1), (0, 400)] r21.2).bind (fun r26 => vp 196 84 [(2, x0), (0, x1), (0, x2), (1, vx r2), (9, 0), (0, vx r12), (0, vx r26)] [] r26.2) else none) else (if 0 < x0 ∧ (kd x0).1 = 12 then (vm 178 [(2, x0)] r21.2).bind (fun r24 => if 0 < x0 ∧ (kd x0).1 = 12 then (vm 188 [(2, x0), (0, 1), (0, 400)] r24.2).bind (fun r28 => vp 196 84 [(2, x0), (0, x1), (0, x2), (1, vx r2), (9, 0), (0, vx r12), (0, vx r28)] [] r28.2) else none) else none)) else none) else none)) else none)) else none := by
  refine s_fg (ls1 := [(2, x0), (0, x1), (0, x2), (9, 0), (9, 0), (9, 0), (9, 0)]) (tk (n := 16) t196_0 rfl) rfl ?_
  refine s_aload_n (pc1 := 31) (tk (n := 16) t196_0 rfl) rfl rfl rfl ?_
  refine s_call1 (as := [(2, x0)]) (st1 := []) (p1 := 34) (M2 := 194) (tk (n := 17) t196_0 rfl) rfl rfl rfl rfl rfl (fun r2 => ?_)
  refine s_lstore_n (pc1 := 35) (ls1 := [(2, x0), (0, x1), (0, x2), (1, vx r2), (9, 0), (9, 0), (9, 0)]) (tk (n := 18) t196_0 rfl) rfl rfl rfl rfl ?_
  refine s_iload_n (pc1 := 36) (tk (n := 19) t196_0 rfl) rfl rfl rfl ?_
  refine s_istore (pc1 := 38) (ls1 := [(2, x0), (0, x1), (0, x2), (1, vx r2), (9, 0), (0, x1), (9, 0)]) (tk (n := 20) t196_0 rfl) rfl rfl rfl rfl ?_
  refine s_iconst (pc1 := 39) (tk (n := 21) t196_0 rfl) rfl rfl  ?_
  refine s_istore (pc1 := 41) (ls1 := [(2, x0), (0, x1), (0, x2), (1, vx r2), (9, 0), (0, x1), (0, 0)]) (tk (n := 22) t196_0 rfl) rfl rfl rfl rfl ?_
  refine s_iload_n (pc1 := 42) (tk (n := 23) t196_0 rfl) rfl rfl rfl ?_
  refine s_iconst (pc1 := 43) (tk (n := 24) t196_0 rfl) rfl rfl  ?_
  refine s_ic_ne (pc1 := 46) (pt := 84) (tk (n := 25) t196_0 rfl) rfl rfl rfl ?_ ?_
  · rfl
  · refine s_aload_n (pc1 := 47) (tk (n := 26) t196_0 rfl) rfl rfl rfl ?_
    refine s_call0 (as := [(2, x0)]) (st1 := []) (p1 := 50) (M2 := 182) (tk (n := 27) t196_0 rfl) rfl rfl rfl rfl rfl (fun r12 => ?_)
    refine s_istore (pc1 := 52) (ls1 := [(2, x0), (0, x1), (0, x2), (1, vx r2), (9, 0), (0, vx r12), (0, 0)]) (tk (n := 28) t196_0 rfl) rfl rfl rfl rfl ?_
    refine s_iload (pc1 := 54) (tk (n := 29) t196_0 rfl) rfl rfl rfl ?_
    refine s_iconst (pc1 := 55) (tk (n := 0) t196_1 rfl) rfl rfl  ?_
    refine s_ic_ne (pc1 := 58) (pt := 63) (tk (n := 1) t196_1 rfl) rfl rfl rfl ?_ ?_
    · refine s_aload_n (pc1 := 64) (tk (n := 5) t196_1 rfl) rfl rfl rfl ?_
      refine s_call0 (as := [(2, x0)]) (st1 := []) (p1 := 67) (M2 := 180) (tk (n := 6) t196_1 rfl) rfl rfl rfl rfl rfl (fun r18 => ?_)
      refine s_if_eq (pc1 := 70) (pt := 74) (tk (n := 7) t196_1 rfl) rfl rfl rfl ?_ ?_
      · refine s_aload_n (pc1 := 75) (tk (n := 10) t196_1 rfl) rfl rfl rfl ?_
        refine s_iconst (pc1 := 76) (tk (n := 11) t196_1 rfl) rfl rfl  ?_
        refine s_sipush (pc1 := 79) (tk (n := 12) t196_1 rfl) rfl rfl  ?_
        refine s_call0 (as := [(2, x0), (0, 1), (0, 400)]) (st1 := []) (p1 := 82) (M2 := 188) (tk (n := 13) t196_1 rfl) rfl rfl rfl rfl rfl (fun r23 => ?_)
        refine s_istore (pc1 := 84) (ls1 := [(2, x0), (0, x1), (0, x2), (1, vx r2), (9, 0), (0, vx r12), (0, vx r23)]) (tk (n := 14) t196_1 rfl) rfl rfl rfl rfl ?_
        rfl
      · refine s_aload_n (pc1 := 71) (tk (n := 8) t196_1 rfl) rfl rfl rfl ?_
        refine s_call9 (as := [(2, x0)]) (st1 := []) (p1 := 74) (M2 := 178) (tk (n := 9) t196_1 rfl) rfl rfl rfl rfl rfl (fun r21 => ?_)
        refine s_aload_n (pc1 := 75) (tk (n := 10) t196_1 rfl) rfl rfl rfl ?_
        refine s_iconst (pc1 := 76) (tk (n := 11) t196_1 rfl) rfl rfl  ?_
        refine s_sipush (pc1 := 79) (tk (n := 12) t196_1 rfl) rfl rfl  ?_
        refine s_call0 (as := [(2, x0), (0, 1), (0, 400)]) (st1 := []) (p1 := 82) (M2 := 188) (tk (n := 13) t196_1 rfl) rfl rfl rfl rfl rfl (fun r25 => ?_)
        refine s_istore (pc1 := 84) (ls1 := [(2, x0), (0, x1), (0, x2), (1, vx r2), (9, 0), (0, vx r12), (0, vx r25)]) (tk (n := 14) t196_1 rfl) rfl rfl rfl rfl ?_
        rfl
    · refine s_aload_n (pc1 := 59) (tk (n := 2) t196_1 rfl) rfl rfl rfl ?_
      refine s_iconst (pc1 := 60) (tk (n := 3) t196_1 rfl) rfl rfl  ?_
      refine s_call9 (as := [(2, x0), (0, 2)]) (st1 := []) (p1 := 63) (M2 := 179) (tk (n := 4) t196_1 rfl) rfl rfl rfl rfl rfl (fun r19 => ?_)
      refine s_aload_n (pc1 := 64) (tk (n := 5) t196_1 rfl) rfl rfl rfl ?_
      refine s_call0 (as := [(2, x0)]) (st1 := []) (p1 := 67) (M2 := 180) (tk (n := 6) t196_1 rfl) rfl rfl rfl rfl rfl (fun r21 => ?_)
      refine s_if_eq (pc1 := 70) (pt := 74) (tk (n := 7) t196_1 rfl) rfl rfl rfl ?_ ?_
      · refine s_aload_n (pc1 := 75) (tk (n := 10) t196_1 rfl) rfl rfl rfl ?_
        refine s_iconst (pc1 := 76) (tk (n := 11) t196_1 rfl) rfl rfl  ?_
        refine s_sipush (pc1 := 79) (tk (n := 12) t196_1 rfl) rfl rfl  ?_
        refine s_call0 (as := [(2, x0), (0, 1), (0, 400)]) (st1 := []) (p1 := 82) (M2 := 188) (tk (n := 13) t196_1 rfl) rfl rfl rfl rfl rfl (fun r26 => ?_)
        refine s_istore (pc1 := 84) (ls1 := [(2, x0), (0, x1), (0, x2), (1, vx r2), (9, 0), (0, vx r12), (0, vx r26)]) (tk (n := 14) t196_1 rfl) rfl rfl rfl rfl ?_
        rfl
      · refine s_aload_n (pc1 := 71) (tk (n := 8) t196_1 rfl) rfl rfl rfl ?_
        refine s_call9 (as := [(2, x0)]) (st1 := []) (p1 := 74) (M2 := 178) (tk (n := 9) t196_1 rfl) rfl rfl rfl rfl rfl (fun r24 => ?_)
        refine s_aload_n (pc1 := 75) (tk (n := 10) t196_1 rfl) rfl rfl rfl ?_
        refine s_iconst (pc1 := 76) (tk (n := 11) t196_1 rfl) rfl rfl  ?_
        refine s_sipush (pc1 := 79) (tk (n := 12) t196_1 rfl) rfl rfl  ?_
        refine s_call0 (as := [(2, x0), (0, 1), (0, 400)]) (st1 := []) (p1 := 82) (M2 := 188) (tk (n := 13) t196_1 rfl) rfl rfl rfl rfl rfl (fun r28 => ?_)
        refine s_istore (pc1 := 84) (ls1 := [(2, x0), (0, x1), (0, x2), (1, vx r2), (9, 0), (0, vx r12), (0, vx r28)]) (tk (n := 14) t196_1 rfl) rfl rfl rfl rfl ?_
        rfl
set_option maxRecDepth 100000 in
set_option maxHeartbeats 4000000 in
theorem e_X12_storeLine_84 (x0 : Int) (z1 : Vl) (x2 : Int) (x3 : Int) (x5 : Int) (x6 : Int) (h : Hq) : vp 196 84 [(2, x0), z1, (0, x2), (1, x3), (9, 0), (0, x5), (0, x6)] [] h = if 0 < x0 ∧ (kd x0).1 = 12 then if (h.2 x0 8) ≤ 0 then (if 0 < x0 ∧ (kd x0).1 = 12 then if 0 < (h.2 x0 14) ∧ (kd (h.2 x0 14)).1 = 23 ∧ 0 ≤ (w32 (6 + x2)) ∧ (w32 (6 + x2)) < (kd (h.2 x0 14)).2 then if 0 < x0 ∧ (kd x0).1 = 12 then if 0 < ((stm h.2 (h.2 x0 14) (w32 (6 + x2)) x3) x0 16) ∧ (kd ((stm h.2 (h.2 x0 14) (w32 (6 + x2)) x3) x0 16)).1 = 20 ∧ 0 ≤ (w32 (6 + x2)) ∧ (w32 (6 + x2)) < (kd ((stm h.2 (h.2 x0 14) (w32 (6 + x2)) x3) x0 16)).2 then if 0 < x0 ∧ (kd x0).1 = 12 then if 0 < ((stm (stm h.2 (h.2 x0 14) (w32 (6 + x2)) x3) ((stm h.2 (h.2 x0 14) (w32 (6 + x2)) x3) x0 16) (w32 (6 + x2)) x5) x0 17) ∧ (kd ((stm (stm h.2 (h.2 x0 14) (w32 (6 + x2)) x3) ((stm h.2 (h.2 x0 14) (w32 (6 + x2)) x3) x0 16) (w32 (6 + x2)) x5) x0 17)).1 = 20 ∧ 0 ≤ (w32 (6 + x2)) ∧ (w32 (6 + x2)) < (kd ((stm (stm h.2 (h.2 x0 14) (w32 (6 + x2)) x3) ((stm h.2 (h.2 x0 14) (w32 (6 + x2)) x3) x0 16) (w32 (6 + x2)) x5) x0 17)).2 then if 0 < x0 ∧ (kd x0).1 = 12 then if (kd ((stm (stm (stm h.2 (h.2 x0 14) (w32 (6 + x2)) x3) ((stm h.2 (h.2 x0 14) (w32 (6 + x2)) x3) x0 16) (w32 (6 + x2)) x5) ((stm (stm h.2 (h.2 x0 14) (w32 (6 + x2)) x3) ((stm h.2 (h.2 x0 14) (w32 (6 + x2)) x3) x0 16) (w32 (6 + x2)) x5) x0 17) (w32 (6 + x2)) x6) x0 13)).1 = 20 ∧ 0 ≤ (8 : Int) ∧ (8 : Int) < (kd ((stm (stm (stm h.2 (h.2 x0 14) (w32 (6 + x2)) x3) ((stm h.2 (h.2 x0 14) (w32 (6 + x2)) x3) x0 16) (w32 (6 + x2)) x5) ((stm (stm h.2 (h.2 x0 14) (w32 (6 + x2)) x3) ((stm h.2 (h.2 x0 14) (w32 (6 + x2)) x3) x0 16) (w32 (6 + x2)) x5) x0 17) (w32 (6 + x2)) x6) x0 13)).2 then if 0 < ((stm (stm (stm h.2 (h.2 x0 14) (w32 (6 + x2)) x3) ((stm h.2 (h.2 x0 14) (w32 (6 + x2)) x3) x0 16) (w32 (6 + x2)) x5) ((stm (stm h.2 (h.2 x0 14) (w32 (6 + x2)) x3) ((stm h.2 (h.2 x0 14) (w32 (6 + x2)) x3) x0 16) (w32 (6 + x2)) x5) x0 17) (w32 (6 + x2)) x6) x0 13) ∧ (kd ((stm (stm (stm h.2 (h.2 x0 14) (w32 (6 + x2)) x3) ((stm h.2 (h.2 x0 14) (w32 (6 + x2)) x3) x0 16) (w32 (6 + x2)) x5) ((stm (stm h.2 (h.2 x0 14) (w32 (6 + x2)) x3) ((stm h.2 (h.2 x0 14) (w32 (6 + x2)) x3) x0 16) (w32 (6 + x2)) x5) x0 17) (w32 (6 + x2)) x6) x0 13)).1 = 20 ∧ 0 ≤ (8 : Int) ∧ (8 : Int) < (kd ((stm (stm (stm h.2 (h.2 x0 14) (w32 (6 + x2)) x3) ((stm h.2 (h.2 x0 14) (w32 (6 + x2)) x3) x0 16) (w32 (6 + x2)) x5) ((stm (stm h.2 (h.2 x0 14) (w32 (6 + x2)) x3) ((stm h.2 (h.2 x0 14) (w32 (6 + x2)) x3) x0 16) (w32 (6 + x2)) x5) x0 17) (w32 (6 + x2)) x6) x0 13)).2 then some (none, (h.1, stm (stm (stm (stm h.2 (h.2 x0 14) (w32 (6 + x2)) x3) ((stm h.2 (h.2 x0 14) (w32 (6 + x2)) x3) x0 16) (w32 (6 + x2)) x5) ((stm (stm h.2 (h.2 x0 14) (w32 (6 + x2)) x3) ((stm h.2 (h.2 x0 14) (w32 (6 + x2)) x3) x0 16) (w32 (6 + x2)) x5) x0 17) (w32 (6 + x2)) x6) ((stm (stm (stm h.2 (h.2 x0 14) (w32 (6 + x2)) x3) ((stm h.2 (h.2 x0 14) (w32 (6 + x2)) x3) x0 16) (w32 (6 + x2)) x5) ((stm (stm h.2 (h.2 x0 14) (w32 (6 + x2)) x3) ((stm h.2 (h.2 x0 14) (w32 (6 + x2)) x3) x0 16) (w32 (6 + x2)) x5) x0 17) (w32 (6 + x2)) x6) x0 13) 8 (w32 (((stm (stm (stm h.2 (h.2 x0 14) (w32 (6 + x2)) x3) ((stm h.2 (h.2 x0 14) (w32 (6 + x2)) x3) x0 16) (w32 (6 + x2)) x5) ((stm (stm h.2 (h.2 x0 14) (w32 (6 + x2)) x3) ((stm h.2 (h.2 x0 14) (w32 (6 + x2)) x3) x0 16) (w32 (6 + x2)) x5) x0 17) (w32 (6 + x2)) x6) ((stm (stm (stm h.2 (h.2 x0 14) (w32 (6 + x2)) x3) ((stm h.2 (h.2 x0 14) (w32 (6 + x2)) x3) x0 16) (w32 (6 + x2)) x5) ((stm (stm h.2 (h.2 x0 14) (w32 (6 + x2)) x3) ((stm h.2 (h.2 x0 14) (w32 (6 + x2)) x3) x0 16) (w32 (6 + x2)) x5) x0 17) (w32 (6 + x2)) x6) x0 13) 8) + 1)))) else none else none else none else none else none else none else none else none else none) else (some (none, h)) else none := by
  refine s_fg (ls1 := [(2, x0), (9, 0), (0, x2), (1, x3), (9, 0), (0, x5), (0, x6)]) (tk (n := 15) t196_1 rfl) rfl ?_
  refine s_aload_n (pc1 := 85) (tk (n := 15) t196_1 rfl) rfl rfl rfl ?_
  refine s_getf (pc1 := 88) (c := 12) (t1 := 0) (tk (n := 16) t196_1 rfl) rfl rfl (by decide) rfl rfl ?_
  refine s_if_le (pc1 := 91) (pt := 92) (tk (n := 17) t196_1 rfl) rfl rfl rfl ?_ ?_
  · refine s_aload_n (pc1 := 93) (tk (n := 19) t196_1 rfl) rfl rfl rfl ?_
    refine s_getf (pc1 := 96) (c := 12) (t1 := 2) (tk (n := 20) t196_1 rfl) rfl rfl (by decide) rfl rfl ?_
    refine s_bipush (pc1 := 98) (tk (n := 21) t196_1 rfl) rfl rfl  ?_
    refine s_iload_n (pc1 := 99) (tk (n := 22) t196_1 rfl) rfl rfl rfl ?_
    refine s_iadd (pc1 := 100) (tk (n := 23) t196_1 rfl) rfl rfl  ?_
    refine s_lload_n (pc1 := 101) (tk (n := 24) t196_1 rfl) rfl rfl rfl ?_
    refine s_last (pc1 := 102) (tk (n := 25) t196_1 rfl) rfl rfl  ?_
    refine s_aload_n (pc1 := 103) (tk (n := 26) t196_1 rfl) rfl rfl rfl ?_
    refine s_getf (pc1 := 106) (c := 12) (t1 := 2) (tk (n := 27) t196_1 rfl) rfl rfl (by decide) rfl rfl ?_
    refine s_bipush (pc1 := 108) (tk (n := 28) t196_1 rfl) rfl rfl  ?_
    refine s_iload_n (pc1 := 109) (tk (n := 29) t196_1 rfl) rfl rfl rfl ?_
    refine s_iadd (pc1 := 110) (tk (n := 0) t196_2 rfl) rfl rfl  ?_
    refine s_iload (pc1 := 112) (tk (n := 1) t196_2 rfl) rfl rfl rfl ?_
    refine s_iast (pc1 := 113) (tk (n := 2) t196_2 rfl) rfl rfl  ?_
    refine s_aload_n (pc1 := 114) (tk (n := 3) t196_2 rfl) rfl rfl rfl ?_
    refine s_getf (pc1 := 117) (c := 12) (t1 := 2) (tk (n := 4) t196_2 rfl) rfl rfl (by decide) rfl rfl ?_
    refine s_bipush (pc1 := 119) (tk (n := 5) t196_2 rfl) rfl rfl  ?_
    refine s_iload_n (pc1 := 120) (tk (n := 6) t196_2 rfl) rfl rfl rfl ?_
    refine s_iadd (pc1 := 121) (tk (n := 7) t196_2 rfl) rfl rfl  ?_
    refine s_iload (pc1 := 123) (tk (n := 8) t196_2 rfl) rfl rfl rfl ?_
    refine s_iast (pc1 := 124) (tk (n := 9) t196_2 rfl) rfl rfl  ?_
    refine s_aload_n (pc1 := 125) (tk (n := 10) t196_2 rfl) rfl rfl rfl ?_
    refine s_getf (pc1 := 128) (c := 12) (t1 := 2) (tk (n := 11) t196_2 rfl) rfl rfl (by decide) rfl rfl ?_
    refine s_bipush (pc1 := 130) (tk (n := 12) t196_2 rfl) rfl rfl  ?_
    refine s_dupP (pc1 := 131) (tk (n := 13) t196_2 rfl) rfl rfl  ?_
    refine s_iald (pc1 := 132) (tk (n := 14) t196_2 rfl) rfl rfl  ?_
    refine s_iconst (pc1 := 133) (tk (n := 15) t196_2 rfl) rfl rfl  ?_
    refine s_iadd (pc1 := 134) (tk (n := 16) t196_2 rfl) rfl rfl  ?_
    refine s_iast (pc1 := 135) (tk (n := 17) t196_2 rfl) rfl rfl  ?_
    exact s_ret (tk (n := 18) t196_2 rfl) rfl rfl rfl
  · exact s_ret (tk (n := 18) t196_1 rfl) rfl rfl rfl
set_option maxRecDepth 100000 in
set_option maxHeartbeats 4000000 in
theorem e_X12_halvings (x0 : Int) (h : Hq) : vm 197 [(0, x0)] h = vp 197 4 [(0, x0), (0, 0), (0, x0)] [] h := by
  show vp 197 0 [(0, x0), (9, 0), (9, 0)] [] h = _
  refine s_iconst (pc1 := 1) (tk (n := 0) t197_0 rfl) rfl rfl  ?_
  refine s_istore_n (pc1 := 2) (ls1 := [(0, x0), (0, 0), (9, 0)]) (tk (n := 1) t197_0 rfl) rfl rfl rfl rfl ?_
  refine s_iload_n (pc1 := 3) (tk (n := 2) t197_0 rfl) rfl rfl rfl ?_
  refine s_istore_n (pc1 := 4) (ls1 := [(0, x0), (0, 0), (0, x0)]) (tk (n := 3) t197_0 rfl) rfl rfl rfl rfl ?_
  rfl
set_option maxRecDepth 100000 in
set_option maxHeartbeats 4000000 in
theorem e_X12_halvings_4 (z0 : Vl) (x1 : Int) (x2 : Int) (h : Hq) : vp 197 4 [z0, (0, x1), (0, x2)] [] h = if x2 ≤ 1 then (some (some (0, x1), h)) else (vp 197 4 [(9, 0), (0, w32 (x1 + 1)), (0, w32 (x2.tdiv 2))] [] h) := by
  refine s_fg (ls1 := [(9, 0), (0, x1), (0, x2)]) (tk (n := 4) t197_0 rfl) rfl ?_
  refine s_iload_n (pc1 := 5) (tk (n := 4) t197_0 rfl) rfl rfl rfl ?_
  refine s_iconst (pc1 := 6) (tk (n := 5) t197_0 rfl) rfl rfl  ?_
  refine s_ic_le (pc1 := 9) (pt := 19) (tk (n := 6) t197_0 rfl) rfl rfl rfl ?_ ?_
  · refine s_iload_n (pc1 := 20) (tk (n := 13) t197_0 rfl) rfl rfl rfl ?_
    exact s_ret (tk (n := 14) t197_0 rfl) rfl rfl rfl
  · refine s_iinc (pc1 := 12) (ls1 := [(9, 0), (0, w32 (x1 + 1)), (0, x2)]) (tk (n := 7) t197_0 rfl) rfl rfl rfl rfl ?_
    refine s_iload_n (pc1 := 13) (tk (n := 8) t197_0 rfl) rfl rfl rfl ?_
    refine s_iconst (pc1 := 14) (tk (n := 9) t197_0 rfl) rfl rfl  ?_
    refine s_idivc (pc1 := 15) (tk (n := 10) t197_0 rfl) rfl rfl (by decide) ?_
    refine s_istore_n (pc1 := 16) (ls1 := [(9, 0), (0, w32 (x1 + 1)), (0, w32 (x2.tdiv 2))]) (tk (n := 11) t197_0 rfl) rfl rfl rfl rfl ?_
    refine s_goto (pc1 := 4) (tk (n := 12) t197_0 rfl) rfl rfl ?_
    rfl
set_option maxRecDepth 100000 in
set_option maxHeartbeats 4000000 in
theorem e_X12_halved (x0 : Int) (x1 : Int) (h : Hq) : vm 198 [(0, x0), (0, x1)] h = (vm 166 [(0, 1), (0, bshr x0 x1)] h).bind (fun r5 => some (some (0, vx r5), r5.2)) := by
  show vp 198 0 [(0, x0), (0, x1)] [] h = _
  refine s_iconst (pc1 := 1) (tk (n := 0) t198_0 rfl) rfl rfl  ?_
  refine s_iload_n (pc1 := 2) (tk (n := 1) t198_0 rfl) rfl rfl rfl ?_
  refine s_iload_n (pc1 := 3) (tk (n := 2) t198_0 rfl) rfl rfl rfl ?_
  refine s_ishr (pc1 := 4) (tk (n := 3) t198_0 rfl) rfl rfl  ?_
  refine s_callS0 (as := [(0, 1), (0, bshr x0 x1)]) (st1 := []) (p1 := 7) (M2 := 166) (tk (n := 4) t198_0 rfl) rfl rfl rfl rfl rfl (fun r5 => ?_)
  exact s_ret (tk (n := 5) t198_0 rfl) rfl rfl rfl
set_option maxRecDepth 100000 in
set_option maxHeartbeats 4000000 in
theorem e_X12_placesOf (x0 : Int) (x1 : Int) (x2 : Int) (h : Hq) : vm 199 [(0, x0), (0, x1), (0, x2)] h = vp 199 5 [(0, x0), (0, x1), (0, x2), (0, 0), (0, 0)] [] h := by
  show vp 199 0 [(0, x0), (0, x1), (0, x2), (9, 0), (9, 0)] [] h = _
  refine s_iconst (pc1 := 1) (tk (n := 0) t199_0 rfl) rfl rfl  ?_
  refine s_istore_n (pc1 := 2) (ls1 := [(0, x0), (0, x1), (0, x2), (0, 0), (9, 0)]) (tk (n := 1) t199_0 rfl) rfl rfl rfl rfl ?_
  refine s_iconst (pc1 := 3) (tk (n := 2) t199_0 rfl) rfl rfl  ?_
  refine s_istore (pc1 := 5) (ls1 := [(0, x0), (0, x1), (0, x2), (0, 0), (0, 0)]) (tk (n := 3) t199_0 rfl) rfl rfl rfl rfl ?_
  rfl
set_option maxRecDepth 100000 in
set_option maxHeartbeats 4000000 in
theorem e_X12_placesOf_5 (x0 : Int) (x1 : Int) (x2 : Int) (x3 : Int) (x4 : Int) (h : Hq) : vp 199 5 [(0, x0), (0, x1), (0, x2), (0, x3), (0, x4)] [] h = if x4 ≥ x2 then (some (some (0, x3), h)) else ((vm 198 [(0, x0), (0, x4)] h).bind (fun r7 => (vm 198 [(0, x1), (0, x4)] r7.2).bind (fun r10 => vp 199 5 [(0, x0), (0, x1), (0, x2), (0, w32 (x3 + (w32 ((vx r7) * (vx r10))))), (0, w32 (x4 + 1))] [] r10.2))) := by
  refine s_iload (pc1 := 7) (tk (n := 4) t199_0 rfl) rfl rfl rfl ?_
  refine s_iload_n (pc1 := 8) (tk (n := 5) t199_0 rfl) rfl rfl rfl ?_
  refine s_ic_ge (pc1 := 11) (pt := 33) (tk (n := 6) t199_0 rfl) rfl rfl rfl ?_ ?_
  · refine s_iload_n (pc1 := 34) (tk (n := 19) t199_0 rfl) rfl rfl rfl ?_
    exact s_ret (tk (n := 20) t199_0 rfl) rfl rfl rfl
  · refine s_iload_n (pc1 := 12) (tk (n := 7) t199_0 rfl) rfl rfl rfl ?_
    refine s_iload_n (pc1 := 13) (tk (n := 8) t199_0 rfl) rfl rfl rfl ?_
    refine s_iload (pc1 := 15) (tk (n := 9) t199_0 rfl) rfl rfl rfl ?_
    refine s_callS0 (as := [(0, x0), (0, x4)]) (st1 := [(0, x3)]) (p1 := 18) (M2 := 198) (tk (n := 10) t199_0 rfl) rfl rfl rfl rfl rfl (fun r7 => ?_)
    refine s_iload_n (pc1 := 19) (tk (n := 11) t199_0 rfl) rfl rfl rfl ?_
    refine s_iload (pc1 := 21) (tk (n := 12) t199_0 rfl) rfl rfl rfl ?_
    refine s_callS0 (as := [(0, x1), (0, x4)]) (st1 := [(0, vx r7), (0, x3)]) (p1 := 24) (M2 := 198) (tk (n := 13) t199_0 rfl) rfl rfl rfl rfl rfl (fun r10 => ?_)
    refine s_imul (pc1 := 25) (tk (n := 14) t199_0 rfl) rfl rfl  ?_
    refine s_iadd (pc1 := 26) (tk (n := 15) t199_0 rfl) rfl rfl  ?_
    refine s_istore_n (pc1 := 27) (ls1 := [(0, x0), (0, x1), (0, x2), (0, w32 (x3 + (w32 ((vx r7) * (vx r10))))), (0, x4)]) (tk (n := 16) t199_0 rfl) rfl rfl rfl rfl ?_
    refine s_iinc (pc1 := 30) (ls1 := [(0, x0), (0, x1), (0, x2), (0, w32 (x3 + (w32 ((vx r7) * (vx r10))))), (0, w32 (x4 + 1))]) (tk (n := 17) t199_0 rfl) rfl rfl rfl rfl ?_
    refine s_goto (pc1 := 5) (tk (n := 18) t199_0 rfl) rfl rfl ?_
    rfl
set_option maxRecDepth 100000 in
set_option maxHeartbeats 4000000 in
theorem e_X12_textureLine (x0 : Int) (h : Hq) : vm 200 [(2, x0)] h = if 0 < x0 ∧ (kd x0).1 = 12 then if (kd (h.2 x0 13)).1 = 20 ∧ 0 ≤ (9 : Int) ∧ (9 : Int) < (kd (h.2 x0 13)).2 then if (h.2 (h.2 x0 13) 9) ≠ 4 then (vp 200 18 [(2, x0), (0, h.2 (h.2 x0 13) 9), (9, 0), (9, 0), (9, 0), (9, 0), (9, 0), (9, 0), (9, 0), (9, 0), (9, 0), (9, 0), (9, 0), (9, 0)] [] h) else (if 0 < x0 ∧ (kd x0).1 = 12 then (vm 179 [(2, x0), (0, 2)] h).bind (fun r11 => vp 200 18 [(2, x0), (0, h.2 (h.2 x0 13) 9), (9, 0), (9, 0), (9, 0), (9, 0), (9, 0), (9, 0), (9, 0), (9, 0), (9, 0), (9, 0), (9, 0), (9, 0)] [] r11.2) else none) else none else none := by
  show vp 200 0 [(2, x0), (9, 0), (9, 0), (9, 0), (9, 0), (9, 0), (9, 0), (9, 0), (9, 0), (9, 0), (9, 0), (9, 0), (9, 0), (9, 0)] [] h = _
  refine s_aload_n (pc1 := 1) (tk (n := 0) t200_0 rfl) rfl rfl rfl ?_
  refine s_getf (pc1 := 4) (c := 12) (t1 := 2) (tk (n := 1) t200_0 rfl) rfl rfl (by decide) rfl rfl ?_
  refine s_bipush (pc1 := 6) (tk (n := 2) t200_0 rfl) rfl rfl  ?_
  refine s_iald (pc1 := 7) (tk (n := 3) t200_0 rfl) rfl rfl  ?_
  refine s_istore_n (pc1 := 8) (ls1 := [(2, x0), (0, h.2 (h.2 x0 13) 9), (9, 0), (9, 0), (9, 0), (9, 0), (9, 0), (9, 0), (9, 0), (9, 0), (9, 0), (9, 0), (9, 0), (9, 0)]) (tk (n := 4) t200_0 rfl) rfl rfl rfl rfl ?_
  refine s_iload_n (pc1 := 9) (tk (n := 5) t200_0 rfl) rfl rfl rfl ?_
  refine s_iconst (pc1 := 10) (tk (n := 6) t200_0 rfl) rfl rfl  ?_
  refine s_ic_ne (pc1 := 13) (pt := 18) (tk (n := 7) t200_0 rfl) rfl rfl rfl ?_ ?_
  · rfl
  · refine s_aload_n (pc1 := 14) (tk (n := 8) t200_0 rfl) rfl rfl rfl ?_
    refine s_iconst (pc1 := 15) (tk (n := 9) t200_0 rfl) rfl rfl  ?_
    refine s_call9 (as := [(2, x0), (0, 2)]) (st1 := []) (p1 := 18) (M2 := 179) (tk (n := 10) t200_0 rfl) rfl rfl rfl rfl rfl (fun r11 => ?_)
    rfl
set_option maxRecDepth 100000 in
set_option maxHeartbeats 4000000 in
theorem e_X12_textureLine_18 (x0 : Int) (x1 : Int) (z2 : Vl) (z3 : Vl) (z4 : Vl) (z5 : Vl) (z6 : Vl) (z7 : Vl) (z8 : Vl) (z9 : Vl) (z10 : Vl) (z11 : Vl) (z12 : Vl) (z13 : Vl) (h : Hq) : vp 200 18 [(2, x0), (0, x1), z2, z3, z4, z5, z6, z7, z8, z9, z10, z11, z12, z13] [] h = if 0 < x0 ∧ (kd x0).1 = 12 then (vm 180 [(2, x0)] h).bind (fun r2 => if (vx r2) = 0 then (vp 200 29 [(2, x0), (0, x1), (9, 0), (9, 0), (9, 0), (9, 0), (9, 0), (9, 0), (9, 0), (9, 0), (9, 0), (9, 0), (9, 0), (9, 0)] [] r2.2) else (if 0 < x0 ∧ (kd x0).1 = 12 then (vm 178 [(2, x0)] r2.2).bind (fun r5 => vp 200 29 [(2, x0), (0, x1), (9, 0), (9, 0), (9, 0), (9, 0), (9, 0), (9, 0), (9, 0), (9, 0), (9, 0), (9, 0), (9, 0), (9, 0)] [] r5.2) else none)) else none := by
  refine s_fg (ls1 := [(2, x0), (0, x1), (9, 0), (9, 0), (9, 0), (9, 0), (9, 0), (9, 0), (9, 0), (9, 0), (9, 0), (9, 0), (9, 0), (9, 0)]) (tk (n := 11) t200_0 rfl) rfl ?_
  refine s_aload_n (pc1 := 19) (tk (n := 11) t200_0 rfl) rfl rfl rfl ?_
  refine s_call0 (as := [(2, x0)]) (st1 := []) (p1 := 22) (M2 := 180) (tk (n := 12) t200_0 rfl) rfl rfl rfl rfl rfl (fun r2 => ?_)
  refine s_if_eq (pc1 := 25) (pt := 29) (tk (n := 13) t200_0 rfl) rfl rfl rfl ?_ ?_
  · rfl
  · refine s_aload_n (pc1 := 26) (tk (n := 14) t200_0 rfl) rfl rfl rfl ?_
    refine s_call9 (as := [(2, x0)]) (st1 := []) (p1 := 29) (M2 := 178) (tk (n := 15) t200_0 rfl) rfl rfl rfl rfl rfl (fun r5 => ?_)
    rfl
set_option maxRecDepth 100000 in
set_option maxHeartbeats 4000000 in
theorem e_X12_textureLine_29 (x0 : Int) (x1 : Int) (z2 : Vl) (z3 : Vl) (z4 : Vl) (z5 : Vl) (z6 : Vl) (z7 : Vl) (z8 : Vl) (z9 : Vl) (z10 : Vl) (z11 : Vl) (z12 : Vl) (z13 : Vl) (h : Hq) : vp 200 29 [(2, x0), (0, x1), z2, z3, z4, z5, z6, z7, z8, z9, z10, z11, z12, z13] [] h = if 0 < x0 ∧ (kd x0).1 = 12 then (vm 194 [(2, x0)] h).bind (fun r2 => if 0 < x0 ∧ (kd x0).1 = 12 then (vm 186 [(2, x0), (1, 28526)] r2.2).bind (fun r6 => if 0 < x0 ∧ (kd x0).1 = 12 then (vm 190 [(2, x0)] r6.2).bind (fun r8 => if 0 < x0 ∧ (kd x0).1 = 12 then (vm 180 [(2, x0)] r8.2).bind (fun r11 => if (vx r11) = 0 then (if 0 < x0 ∧ (kd x0).1 = 12 then (vm 180 [(2, x0)] r11.2).bind (fun r16 => if (vx r16) = 0 then (vp 200 103 [(2, x0), (0, x1), (1, vx r2), (9, 0), (1, vx r8), (9, 0), (0, (-1)), (9, 0), (9, 0), (9, 0), (9, 0), (9, 0), (9, 0), (9, 0)] [] r16.2) else (vp 200 98 [(2, x0), (0, x1), (1, vx r2), (9, 0), (1, vx r8), (9, 0), (0, (-1)), (9, 0), (9, 0), (9, 0), (9, 0), (9, 0), (9, 0), (9, 0)] [] r16.2)) else none) else (if 0 < x0 ∧ (kd x0).1 = 12 then (vm 192 [(2, x0), (1, vx r8)] r11.2).bind (fun r15 => if 0 < x0 ∧ (kd x0).1 = 12 then (vm 180 [(2, x0)] r15.2).bind (fun r19 => if (vx r19) = 0 then (vp 200 103 [(2, x0), (0, x1), (1, vx r2), (9, 0), (1, vx r8), (9, 0), (0, vx r15), (9, 0), (9, 0), (9, 0), (9, 0), (9, 0), (9, 0), (9, 0)] [] r19.2) else (if (vx r15) = (-1) then (vp 200 98 [(2, x0), (0, x1), (1, vx r2), (9, 0), (1, vx r8), (9, 0), (0, vx r15), (9, 0), (9, 0), (9, 0), (9, 0), (9, 0), (9, 0), (9, 0)] [] r19.2) else (if 0 < x0 ∧ (kd x0).1 = 12 then if (kd (r19.2.2 x0 16)).1 = 20 ∧ 0 ≤ (w32 (6 + (vx r15))) ∧ (w32 (6 + (vx r15))) < (kd (r19.2.2 x0 16)).2 then (vm 165 [(0, r19.2.2 (r19.2.2 x0 16) (w32 (6 + (vx r15)))), (0, 1), (0, 7)] r19.2).bind (fun r32 => if (vx r32) ≠ 0 then (vp 200 103 [(2, x0), (0, x1), (1, vx r2), (9, 0), (1, vx r8), (9, 0), (0, vx r15), (9, 0), (9, 0), (9, 0), (9, 0), (9, 0), (9, 0), (9, 0)] [] r32.2) else (vp 200 98 [(2, x0), (0, x1), (1, vx r2), (9, 0), (1, vx r8), (9, 0), (0, vx r15), (9, 0), (9, 0), (9, 0), (9, 0), (9, 0), (9, 0), (9, 0)] [] r32.2)) else none else none))) else none) else none)) else none) else none) else none) else none := by
  refine s_fg (ls1 := [(2, x0), (0, x1), (9, 0), (9, 0), (9, 0), (9, 0), (9, 0), (9, 0), (9, 0), (9, 0), (9, 0), (9, 0), (9, 0), (9, 0)]) (tk (n := 16) t200_0 rfl) rfl ?_
  refine s_aload_n (pc1 := 30) (tk (n := 16) t200_0 rfl) rfl rfl rfl ?_
  refine s_call1 (as := [(2, x0)]) (st1 := []) (p1 := 33) (M2 := 194) (tk (n := 17) t200_0 rfl) rfl rfl rfl rfl rfl (fun r2 => ?_)
  refine s_lstore_n (pc1 := 34) (ls1 := [(2, x0), (0, x1), (1, vx r2), (9, 0), (9, 0), (9, 0), (9, 0), (9, 0), (9, 0), (9, 0), (9, 0), (9, 0), (9, 0), (9, 0)]) (tk (n := 18) t200_0 rfl) rfl rfl rfl rfl ?_
  refine s_aload_n (pc1 := 35) (tk (n := 19) t200_0 rfl) rfl rfl rfl ?_
  refine s_ldc2 (pc1 := 38) (tk (n := 20) t200_0 rfl) rfl rfl  ?_
  refine s_call9 (as := [(2, x0), (1, 28526)]) (st1 := []) (p1 := 41) (M2 := 186) (tk (n := 21) t200_0 rfl) rfl rfl rfl rfl rfl (fun r6 => ?_)
  refine s_aload_n (pc1 := 42) (tk (n := 22) t200_0 rfl) rfl rfl rfl ?_
  refine s_call1 (as := [(2, x0)]) (st1 := []) (p1 := 45) (M2 := 190) (tk (n := 23) t200_0 rfl) rfl rfl rfl rfl rfl (fun r8 => ?_)
  refine s_lstore (pc1 := 47) (ls1 := [(2, x0), (0, x1), (1, vx r2), (9, 0), (1, vx r8), (9, 0), (9, 0), (9, 0), (9, 0), (9, 0), (9, 0), (9, 0), (9, 0), (9, 0)]) (tk (n := 24) t200_0 rfl) rfl rfl rfl rfl ?_
  refine s_aload_n (pc1 := 48) (tk (n := 25) t200_0 rfl) rfl rfl rfl ?_
  refine s_call0 (as := [(2, x0)]) (st1 := []) (p1 := 51) (M2 := 180) (tk (n := 26) t200_0 rfl) rfl rfl rfl rfl rfl (fun r11 => ?_)
  refine s_if_eq (pc1 := 54) (pt := 63) (tk (n := 27) t200_0 rfl) rfl rfl rfl ?_ ?_
  · refine s_iconst (pc1 := 64) (tk (n := 2) t200_1 rfl) rfl rfl  ?_
    refine s_istore (pc1 := 66) (ls1 := [(2, x0), (0, x1), (1, vx r2), (9, 0), (1, vx r8), (9, 0), (0, (-1)), (9, 0), (9, 0), (9, 0), (9, 0), (9, 0), (9, 0), (9, 0)]) (tk (n := 3) t200_1 rfl) rfl rfl rfl rfl ?_
    refine s_aload_n (pc1 := 67) (tk (n := 4) t200_1 rfl) rfl rfl rfl ?_
    refine s_call0 (as := [(2, x0)]) (st1 := []) (p1 := 70) (M2 := 180) (tk (n := 5) t200_1 rfl) rfl rfl rfl rfl rfl (fun r16 => ?_)
    refine s_if_eq (pc1 := 73) (pt := 103) (tk (n := 6) t200_1 rfl) rfl rfl rfl ?_ ?_
    · rfl
    · refine s_iload (pc1 := 75) (tk (n := 7) t200_1 rfl) rfl rfl rfl ?_
      refine s_iconst (pc1 := 76) (tk (n := 8) t200_1 rfl) rfl rfl  ?_
      refine s_icY_eq (pc1 := 79) (pt := 98) (tk (n := 9) t200_1 rfl) rfl rfl rfl (by decide) ?_
      rfl
  · refine s_aload_n (pc1 := 55) (tk (n := 28) t200_0 rfl) rfl rfl rfl ?_
    refine s_lload (pc1 := 57) (tk (n := 29) t200_0 rfl) rfl rfl rfl ?_
    refine s_call0 (as := [(2, x0), (1, vx r8)]) (st1 := []) (p1 := 60) (M2 := 192) (tk (n := 0) t200_1 rfl) rfl rfl rfl rfl rfl (fun r15 => ?_)
    refine s_goto (pc1 := 64) (tk (n := 1) t200_1 rfl) rfl rfl ?_
    refine s_istore (pc1 := 66) (ls1 := [(2, x0), (0, x1), (1, vx r2), (9, 0), (1, vx r8), (9, 0), (0, vx r15), (9, 0), (9, 0), (9, 0), (9, 0), (9, 0), (9, 0), (9, 0)]) (tk (n := 3) t200_1 rfl) rfl rfl rfl rfl ?_
    refine s_aload_n (pc1 := 67) (tk (n := 4) t200_1 rfl) rfl rfl rfl ?_
    refine s_call0 (as := [(2, x0)]) (st1 := []) (p1 := 70) (M2 := 180) (tk (n := 5) t200_1 rfl) rfl rfl rfl rfl rfl (fun r19 => ?_)
    refine s_if_eq (pc1 := 73) (pt := 103) (tk (n := 6) t200_1 rfl) rfl rfl rfl ?_ ?_
    · rfl
    · refine s_iload (pc1 := 75) (tk (n := 7) t200_1 rfl) rfl rfl rfl ?_
      refine s_iconst (pc1 := 76) (tk (n := 8) t200_1 rfl) rfl rfl  ?_
      refine s_ic_eq (pc1 := 79) (pt := 98) (tk (n := 9) t200_1 rfl) rfl rfl rfl ?_ ?_
      · rfl
      · refine s_aload_n (pc1 := 80) (tk (n := 10) t200_1 rfl) rfl rfl rfl ?_
        refine s_getf (pc1 := 83) (c := 12) (t1 := 2) (tk (n := 11) t200_1 rfl) rfl rfl (by decide) rfl rfl ?_
        refine s_bipush (pc1 := 85) (tk (n := 12) t200_1 rfl) rfl rfl  ?_
        refine s_iload (pc1 := 87) (tk (n := 13) t200_1 rfl) rfl rfl rfl ?_
        refine s_iadd (pc1 := 88) (tk (n := 14) t200_1 rfl) rfl rfl  ?_
        refine s_iald (pc1 := 89) (tk (n := 15) t200_1 rfl) rfl rfl  ?_
        refine s_iconst (pc1 := 90) (tk (n := 16) t200_1 rfl) rfl rfl  ?_
        refine s_bipush (pc1 := 92) (tk (n := 17) t200_1 rfl) rfl rfl  ?_
        refine s_callS0 (as := [(0, r19.2.2 (r19.2.2 x0 16) (w32 (6 + (vx r15)))), (0, 1), (0, 7)]) (st1 := []) (p1 := 95) (M2 := 165) (tk (n := 18) t200_1 rfl) rfl rfl rfl rfl rfl (fun r32 => ?_)
        refine s_if_ne (pc1 := 98) (pt := 103) (tk (n := 19) t200_1 rfl) rfl rfl rfl ?_ ?_
        · rfl
        · rfl
set_option maxRecDepth 100000 in
set_option maxHeartbeats 4000000 in
theorem e_X12_textureLine_98 (x0 : Int) (x1 : Int) (x2 : Int) (z4 : Vl) (z5 : Vl) (x6 : Int) (z7 : Vl) (z8 : Vl) (z9 : Vl) (z10 : Vl) (z11 : Vl) (z12 : Vl) (z13 : Vl) (h : Hq) : vp 200 98 [(2, x0), (0, x1), (1, x2), (9, 0), z4, z5, (0, x6), z7, z8, z9, z10, z11, z12, z13] [] h = if 0 < x0 ∧ (kd x0).1 = 12 then (vm 179 [(2, x0), (0, 3)] h).bind (fun r3 => vp 200 103 [(2, x0), (0, x1), (1, x2), (9, 0), (9, 0), (9, 0), (0, x6), (9, 0), (9, 0), (9, 0), (9, 0), (9, 0), (9, 0), (9, 0)] [] r3.2) else none := by
  refine s_fg (ls1 := [(2, x0), (0, x1), (1, x2), (9, 0), (9, 0), (9, 0), (0, x6), (9, 0), (9, 0), (9, 0), (9, 0), (9, 0), (9, 0), (9, 0)]) (tk (n := 20) t200_1 rfl) rfl ?_
  refine s_aload_n (pc1 := 99) (tk (n := 20) t200_1 rfl) rfl rfl rfl ?_
  refine s_iconst (pc1 := 100) (tk (n := 21) t200_1 rfl) rfl rfl  ?_
  refine s_call9 (as := [(2, x0), (0, 3)]) (st1 := []) (p1 := 103) (M2 := 179) (tk (n := 22) t200_1 rfl) rfl rfl rfl rfl rfl (fun r3 => ?_)
  rfl
set_option maxRecDepth 100000 in
set_option maxHeartbeats 4000000 in
theorem e_X12_textureLine_103 (x0 : Int) (x1 : Int) (x2 : Int) (z4 : Vl) (z5 : Vl) (x6 : Int) (z7 : Vl) (z8 : Vl) (z9 : Vl) (z10 : Vl) (z11 : Vl) (z12 : Vl) (z13 : Vl) (h : Hq) : vp 200 103 [(2, x0), (0, x1), (1, x2), (9, 0), z4, z5, (0, x6), z7, z8, z9, z10, z11, z12, z13] [] h = if 0 < x0 ∧ (kd x0).1 = 12 then (vm 180 [(2, x0)] h).bind (fun r2 => if (vx r2) = 0 then (if 0 < x0 ∧ (kd x0).1 = 12 then (vm 186 [(2, x0), (1, 24948)] r2.2).bind (fun r6 => if 0 < x0 ∧ (kd x0).1 = 12 then (vm 188 [(2, x0), (0, 0), (0, 399)] r6.2).bind (fun r10 => if 0 < x0 ∧ (kd x0).1 = 12 then (vm 186 [(2, x0), (1, 1936292453)] r10.2).bind (fun r14 => if 0 < x0 ∧ (kd x0).1 = 12 then (vm 189 [(2, x0), (0, 16)] r14.2).bind (fun r17 => if 0 < x0 ∧ (kd x0).1 = 12 then (vm 186 [(2, x0), (1, 25209)] r17.2).bind (fun r21 => if 0 < x0 ∧ (kd x0).1 = 12 then (vm 189 [(2, x0), (0, 16)] r21.2).bind (fun r24 => if 0 < x0 ∧ (kd x0).1 = 12 then (vm 186 [(2, x0), (1, 119183033855091)] r24.2).bind (fun r28 => (vm 166 [(0, vx r17), (0, vx r24)] r28.2).bind (fun r34 => (vm 197 [(0, vx r34)] r34.2).bind (fun r35 => if 0 < x0 ∧ (kd x0).1 = 12 then (vm 187 [(2, x0), (0, 1), (0, w32 (1 + (vx r35)))] r35.2).bind (fun r37 => if 0 < x0 ∧ (kd x0).1 = 12 then (vm 180 [(2, x0)] r37.2).bind (fun r40 => if (vx r40) = 0 then (vp 200 224 [(2, x0), (0, x1), (1, x2), (9, 0), (9, 0), (9, 0), (0, x6), (0, vx r10), (0, vx r17), (0, vx r24), (0, vx r37), (9, 0), (9, 0), (9, 0)] [] r40.2) else ((vm 199 [(0, vx r17), (0, vx r24), (0, vx r37)] r40.2).bind (fun r46 => if 0 < x0 ∧ (kd x0).1 = 12 then if (kd (r46.2.2 x0 17)).1 = 20 ∧ 0 ≤ (w32 (6 + x6)) ∧ (w32 (6 + x6)) < (kd (r46.2.2 x0 17)).2 then if (w32 ((vx r10) + (vx r46))) ≤ (r46.2.2 (r46.2.2 x0 17) (w32 (6 + x6))) then (vp 200 224 [(2, x0), (0, x1), (1, x2), (9, 0), (9, 0), (9, 0), (0, x6), (0, vx r10), (0, vx r17), (0, vx r24), (0, vx r37), (9, 0), (9, 0), (9, 0)] [] r46.2) else (if 0 < x0 ∧ (kd x0).1 = 12 then (vm 179 [(2, x0), (0, 5)] r46.2).bind (fun r57 => vp 200 224 [(2, x0), (0, x1), (1, x2), (9, 0), (9, 0), (9, 0), (0, x6), (0, vx r10), (0, vx r17), (0, vx r24), (0, vx r37), (9, 0), (9, 0), (9, 0)] [] r57.2) else none) else none else none))) else none) else none))) else none) else none) else none) else none) else none) else none) else none) else (if 0 < x0 ∧ (kd x0).1 = 12 then (vm 178 [(2, x0)] r2.2).bind (fun r5 => if 0 < x0 ∧ (kd x0).1 = 12 then (vm 186 [(2, x0), (1, 24948)] r5.2).bind (fun r8 => if 0 < x0 ∧ (kd x0).1 = 12 then (vm 188 [(2, x0), (0, 0), (0, 399)] r8.2).bind (fun r12 => if 0 < x0 ∧ (kd x0).1 = 12 then (vm 186 [(2, x0), (1, 1936292453)] r12.2).bind (fun r16 => if 0 < x0 ∧ (kd x0).1 = 12 then (vm 189 [(2, x0), (0, 16)] r16.2).bind (fun r19 => if 0 < x0 ∧ (kd x0).1 = 12 then (vm 186 [(2, x0), (1, 25209)] r19.2).bind (fun r23 => if 0 < x0 ∧ (kd x0).1 = 12 then (vm 189 [(2, x0), (0, 16)] r23.2).bind (fun r26 => if 0 < x0 ∧ (kd x0).1 = 12 then (vm 186 [(2, x0), (1, 119183033855091)] r26.2).bind (fun r30 => (vm 166 [(0, vx r19), (0, vx r26)] r30.2).bind (fun r36 => (vm 197 [(0, vx r36)] r36.2).bind (fun r37 => if 0 < x0 ∧ (kd x0).1 = 12 then (vm 187 [(2, x0), (0, 1), (0, w32 (1 + (vx r37)))] r37.2).bind (fun r39 => if 0 < x0 ∧ (kd x0).1 = 12 then (vm 180 [(2, x0)] r39.2).bind (fun r42 => if (vx r42) = 0 then (vp 200 224 [(2, x0), (0, x1), (1, x2), (9, 0), (9, 0), (9, 0), (0, x6), (0, vx r12), (0, vx r19), (0, vx r26), (0, vx r39), (9, 0), (9, 0), (9, 0)] [] r42.2) else ((vm 199 [(0, vx r19), (0, vx r26), (0, vx r39)] r42.2).bind (fun r48 => if 0 < x0 ∧ (kd x0).1 = 12 then if (kd (r48.2.2 x0 17)).1 = 20 ∧ 0 ≤ (w32 (6 + x6)) ∧ (w32 (6 + x6)) < (kd (r48.2.2 x0 17)).2 then if (w32 ((vx r12) + (vx r48))) ≤ (r48.2.2 (r48.2.2 x0 17) (w32 (6 + x6))) then (vp 200 224 [(2, x0), (0, x1), (1, x2), (9, 0), (9, 0), (9, 0), (0, x6), (0, vx r12), (0, vx r19), (0, vx r26), (0, vx r39), (9, 0), (9, 0), (9, 0)] [] r48.2) else (if 0 < x0 ∧ (kd x0).1 = 12 then (vm 179 [(2, x0), (0, 5)] r48.2).bind (fun r59 => vp 200 224 [(2, x0), (0, x1), (1, x2), (9, 0), (9, 0), (9, 0), (0, x6), (0, vx r12), (0, vx r19), (0, vx r26), (0, vx r39), (9, 0), (9, 0), (9, 0)] [] r59.2) else none) else none else none))) else none) else none))) else none) else none) else none) else none) else none) else none) else none) else none)) else none := by
  refine s_fg (ls1 := [(2, x0), (0, x1), (1, x2), (9, 0), (9, 0), (9, 0), (0, x6), (9, 0), (9, 0), (9, 0), (9, 0), (9, 0), (9, 0), (9, 0)]) (tk (n := 23) t200_1 rfl) rfl ?_
  refine s_aload_n (pc1 := 104) (tk (n := 23) t200_1 rfl) rfl rfl rfl ?_
  refine s_call0 (as := [(2, x0)]) (st1 := []) (p1 := 107) (M2 := 180) (tk (n := 24) t200_1 rfl) rfl rfl rfl rfl rfl (fun r2 => ?_)
  refine s_if_eq (pc1 := 110) (pt := 114) (tk (n := 25) t200_1 rfl) rfl rfl rfl ?_ ?_
  · refine s_aload_n (pc1 := 115) (tk (n := 28) t200_1 rfl) rfl rfl rfl ?_
    refine s_ldc2 (pc1 := 118) (tk (n := 29) t200_1 rfl) rfl rfl  ?_
    refine s_call9 (as := [(2, x0), (1, 24948)]) (st1 := []) (p1 := 121) (M2 := 186) (tk (n := 0) t200_2 rfl) rfl rfl rfl rfl rfl (fun r6 => ?_)
    refine s_aload_n (pc1 := 122) (tk (n := 1) t200_2 rfl) rfl rfl rfl ?_
    refine s_iconst (pc1 := 123) (tk (n := 2) t200_2 rfl) rfl rfl  ?_
    refine s_sipush (pc1 := 126) (tk (n := 3) t200_2 rfl) rfl rfl  ?_
    refine s_call0 (as := [(2, x0), (0, 0), (0, 399)]) (st1 := []) (p1 := 129) (M2 := 188) (tk (n := 4) t200_2 rfl) rfl rfl rfl rfl rfl (fun r10 => ?_)
    refine s_istore (pc1 := 131) (ls1 := [(2, x0), (0, x1), (1, x2), (9, 0), (9, 0), (9, 0), (0, x6), (0, vx r10), (9, 0), (9, 0), (9, 0), (9, 0), (9, 0), (9, 0)]) (tk (n := 5) t200_2 rfl) rfl rfl rfl rfl ?_
    refine s_aload_n (pc1 := 132) (tk (n := 6) t200_2 rfl) rfl rfl rfl ?_
    refine s_ldc2 (pc1 := 135) (tk (n := 7) t200_2 rfl) rfl rfl  ?_
    refine s_call9 (as := [(2, x0), (1, 1936292453)]) (st1 := []) (p1 := 138) (M2 := 186) (tk (n := 8) t200_2 rfl) rfl rfl rfl rfl rfl (fun r14 => ?_)
    refine s_aload_n (pc1 := 139) (tk (n := 9) t200_2 rfl) rfl rfl rfl ?_
    refine s_bipush (pc1 := 141) (tk (n := 10) t200_2 rfl) rfl rfl  ?_
    refine s_call0 (as := [(2, x0), (0, 16)]) (st1 := []) (p1 := 144) (M2 := 189) (tk (n := 11) t200_2 rfl) rfl rfl rfl rfl rfl (fun r17 => ?_)
    refine s_istore (pc1 := 146) (ls1 := [(2, x0), (0, x1), (1, x2), (9, 0), (9, 0), (9, 0), (0, x6), (0, vx r10), (0, vx r17), (9, 0), (9, 0), (9, 0), (9, 0), (9, 0)]) (tk (n := 12) t200_2 rfl) rfl rfl rfl rfl ?_
    refine s_aload_n (pc1 := 147) (tk (n := 13) t200_2 rfl) rfl rfl rfl ?_
    refine s_ldc2 (pc1 := 150) (tk (n := 14) t200_2 rfl) rfl rfl  ?_
    refine s_call9 (as := [(2, x0), (1, 25209)]) (st1 := []) (p1 := 153) (M2 := 186) (tk (n := 15) t200_2 rfl) rfl rfl rfl rfl rfl (fun r21 => ?_)
    refine s_aload_n (pc1 := 154) (tk (n := 16) t200_2 rfl) rfl rfl rfl ?_
    refine s_bipush (pc1 := 156) (tk (n := 17) t200_2 rfl) rfl rfl  ?_
    refine s_call0 (as := [(2, x0), (0, 16)]) (st1 := []) (p1 := 159) (M2 := 189) (tk (n := 18) t200_2 rfl) rfl rfl rfl rfl rfl (fun r24 => ?_)
    refine s_istore (pc1 := 161) (ls1 := [(2, x0), (0, x1), (1, x2), (9, 0), (9, 0), (9, 0), (0, x6), (0, vx r10), (0, vx r17), (0, vx r24), (9, 0), (9, 0), (9, 0), (9, 0)]) (tk (n := 19) t200_2 rfl) rfl rfl rfl rfl ?_
    refine s_aload_n (pc1 := 162) (tk (n := 20) t200_2 rfl) rfl rfl rfl ?_
    refine s_ldc2 (pc1 := 165) (tk (n := 21) t200_2 rfl) rfl rfl  ?_
    refine s_call9 (as := [(2, x0), (1, 119183033855091)]) (st1 := []) (p1 := 168) (M2 := 186) (tk (n := 22) t200_2 rfl) rfl rfl rfl rfl rfl (fun r28 => ?_)
    refine s_aload_n (pc1 := 169) (tk (n := 23) t200_2 rfl) rfl rfl rfl ?_
    refine s_iconst (pc1 := 170) (tk (n := 24) t200_2 rfl) rfl rfl  ?_
    refine s_iconst (pc1 := 171) (tk (n := 25) t200_2 rfl) rfl rfl  ?_
    refine s_iload (pc1 := 173) (tk (n := 26) t200_2 rfl) rfl rfl rfl ?_
    refine s_iload (pc1 := 175) (tk (n := 27) t200_2 rfl) rfl rfl rfl ?_
    refine s_callS0 (as := [(0, vx r17), (0, vx r24)]) (st1 := [(0, 1), (0, 1), (2, x0)]) (p1 := 178) (M2 := 166) (tk (n := 28) t200_2 rfl) rfl rfl rfl rfl rfl (fun r34 => ?_)
    refine s_callS0 (as := [(0, vx r34)]) (st1 := [(0, 1), (0, 1), (2, x0)]) (p1 := 181) (M2 := 197) (tk (n := 29) t200_2 rfl) rfl rfl rfl rfl rfl (fun r35 => ?_)
    refine s_iadd (pc1 := 182) (tk (n := 0) t200_3 rfl) rfl rfl  ?_
    refine s_call0 (as := [(2, x0), (0, 1), (0, w32 (1 + (vx r35)))]) (st1 := []) (p1 := 185) (M2 := 187) (tk (n := 1) t200_3 rfl) rfl rfl rfl rfl rfl (fun r37 => ?_)
    refine s_istore (pc1 := 187) (ls1 := [(2, x0), (0, x1), (1, x2), (9, 0), (9, 0), (9, 0), (0, x6), (0, vx r10), (0, vx r17), (0, vx r24), (0, vx r37), (9, 0), (9, 0), (9, 0)]) (tk (n := 2) t200_3 rfl) rfl rfl rfl rfl ?_
    refine s_aload_n (pc1 := 188) (tk (n := 3) t200_3 rfl) rfl rfl rfl ?_
    refine s_call0 (as := [(2, x0)]) (st1 := []) (p1 := 191) (M2 := 180) (tk (n := 4) t200_3 rfl) rfl rfl rfl rfl rfl (fun r40 => ?_)
    refine s_if_eq (pc1 := 194) (pt := 224) (tk (n := 5) t200_3 rfl) rfl rfl rfl ?_ ?_
    · rfl
    · refine s_iload (pc1 := 196) (tk (n := 6) t200_3 rfl) rfl rfl rfl ?_
      refine s_iload (pc1 := 198) (tk (n := 7) t200_3 rfl) rfl rfl rfl ?_
      refine s_iload (pc1 := 200) (tk (n := 8) t200_3 rfl) rfl rfl rfl ?_
      refine s_iload (pc1 := 202) (tk (n := 9) t200_3 rfl) rfl rfl rfl ?_
      refine s_callS0 (as := [(0, vx r17), (0, vx r24), (0, vx r37)]) (st1 := [(0, vx r10)]) (p1 := 205) (M2 := 199) (tk (n := 10) t200_3 rfl) rfl rfl rfl rfl rfl (fun r46 => ?_)
      refine s_iadd (pc1 := 206) (tk (n := 11) t200_3 rfl) rfl rfl  ?_
      refine s_aload_n (pc1 := 207) (tk (n := 12) t200_3 rfl) rfl rfl rfl ?_
      refine s_getf (pc1 := 210) (c := 12) (t1 := 2) (tk (n := 13) t200_3 rfl) rfl rfl (by decide) rfl rfl ?_
      refine s_bipush (pc1 := 212) (tk (n := 14) t200_3 rfl) rfl rfl  ?_
      refine s_iload (pc1 := 214) (tk (n := 15) t200_3 rfl) rfl rfl rfl ?_
      refine s_iadd (pc1 := 215) (tk (n := 16) t200_3 rfl) rfl rfl  ?_
      refine s_iald (pc1 := 216) (tk (n := 17) t200_3 rfl) rfl rfl  ?_
      refine s_ic_le (pc1 := 219) (pt := 224) (tk (n := 18) t200_3 rfl) rfl rfl rfl ?_ ?_
      · rfl
      · refine s_aload_n (pc1 := 220) (tk (n := 19) t200_3 rfl) rfl rfl rfl ?_
        refine s_iconst (pc1 := 221) (tk (n := 20) t200_3 rfl) rfl rfl  ?_
        refine s_call9 (as := [(2, x0), (0, 5)]) (st1 := []) (p1 := 224) (M2 := 179) (tk (n := 21) t200_3 rfl) rfl rfl rfl rfl rfl (fun r57 => ?_)
        rfl
  · refine s_aload_n (pc1 := 111) (tk (n := 26) t200_1 rfl) rfl rfl rfl ?_
    refine s_call9 (as := [(2, x0)]) (st1 := []) (p1 := 114) (M2 := 178) (tk (n := 27) t200_1 rfl) rfl rfl rfl rfl rfl (fun r5 => ?_)
    refine s_aload_n (pc1 := 115) (tk (n := 28) t200_1 rfl) rfl rfl rfl ?_
    refine s_ldc2 (pc1 := 118) (tk (n := 29) t200_1 rfl) rfl rfl  ?_
    refine s_call9 (as := [(2, x0), (1, 24948)]) (st1 := []) (p1 := 121) (M2 := 186) (tk (n := 0) t200_2 rfl) rfl rfl rfl rfl rfl (fun r8 => ?_)
    refine s_aload_n (pc1 := 122) (tk (n := 1) t200_2 rfl) rfl rfl rfl ?_
    refine s_iconst (pc1 := 123) (tk (n := 2) t200_2 rfl) rfl rfl  ?_
    refine s_sipush (pc1 := 126) (tk (n := 3) t200_2 rfl) rfl rfl  ?_
    refine s_call0 (as := [(2, x0), (0, 0), (0, 399)]) (st1 := []) (p1 := 129) (M2 := 188) (tk (n := 4) t200_2 rfl) rfl rfl rfl rfl rfl (fun r12 => ?_)
    refine s_istore (pc1 := 131) (ls1 := [(2, x0), (0, x1), (1, x2), (9, 0), (9, 0), (9, 0), (0, x6), (0, vx r12), (9, 0), (9, 0), (9, 0), (9, 0), (9, 0), (9, 0)]) (tk (n := 5) t200_2 rfl) rfl rfl rfl rfl ?_
    refine s_aload_n (pc1 := 132) (tk (n := 6) t200_2 rfl) rfl rfl rfl ?_
    refine s_ldc2 (pc1 := 135) (tk (n := 7) t200_2 rfl) rfl rfl  ?_
    refine s_call9 (as := [(2, x0), (1, 1936292453)]) (st1 := []) (p1 := 138) (M2 := 186) (tk (n := 8) t200_2 rfl) rfl rfl rfl rfl rfl (fun r16 => ?_)
    refine s_aload_n (pc1 := 139) (tk (n := 9) t200_2 rfl) rfl rfl rfl ?_
    refine s_bipush (pc1 := 141) (tk (n := 10) t200_2 rfl) rfl rfl  ?_
    refine s_call0 (as := [(2, x0), (0, 16)]) (st1 := []) (p1 := 144) (M2 := 189) (tk (n := 11) t200_2 rfl) rfl rfl rfl rfl rfl (fun r19 => ?_)
    refine s_istore (pc1 := 146) (ls1 := [(2, x0), (0, x1), (1, x2), (9, 0), (9, 0), (9, 0), (0, x6), (0, vx r12), (0, vx r19), (9, 0), (9, 0), (9, 0), (9, 0), (9, 0)]) (tk (n := 12) t200_2 rfl) rfl rfl rfl rfl ?_
    refine s_aload_n (pc1 := 147) (tk (n := 13) t200_2 rfl) rfl rfl rfl ?_
    refine s_ldc2 (pc1 := 150) (tk (n := 14) t200_2 rfl) rfl rfl  ?_
    refine s_call9 (as := [(2, x0), (1, 25209)]) (st1 := []) (p1 := 153) (M2 := 186) (tk (n := 15) t200_2 rfl) rfl rfl rfl rfl rfl (fun r23 => ?_)
    refine s_aload_n (pc1 := 154) (tk (n := 16) t200_2 rfl) rfl rfl rfl ?_
    refine s_bipush (pc1 := 156) (tk (n := 17) t200_2 rfl) rfl rfl  ?_
    refine s_call0 (as := [(2, x0), (0, 16)]) (st1 := []) (p1 := 159) (M2 := 189) (tk (n := 18) t200_2 rfl) rfl rfl rfl rfl rfl (fun r26 => ?_)
    refine s_istore (pc1 := 161) (ls1 := [(2, x0), (0, x1), (1, x2), (9, 0), (9, 0), (9, 0), (0, x6), (0, vx r12), (0, vx r19), (0, vx r26), (9, 0), (9, 0), (9, 0), (9, 0)]) (tk (n := 19) t200_2 rfl) rfl rfl rfl rfl ?_
    refine s_aload_n (pc1 := 162) (tk (n := 20) t200_2 rfl) rfl rfl rfl ?_
    refine s_ldc2 (pc1 := 165) (tk (n := 21) t200_2 rfl) rfl rfl  ?_
    refine s_call9 (as := [(2, x0), (1, 119183033855091)]) (st1 := []) (p1 := 168) (M2 := 186) (tk (n := 22) t200_2 rfl) rfl rfl rfl rfl rfl (fun r30 => ?_)
    refine s_aload_n (pc1 := 169) (tk (n := 23) t200_2 rfl) rfl rfl rfl ?_
    refine s_iconst (pc1 := 170) (tk (n := 24) t200_2 rfl) rfl rfl  ?_
    refine s_iconst (pc1 := 171) (tk (n := 25) t200_2 rfl) rfl rfl  ?_
    refine s_iload (pc1 := 173) (tk (n := 26) t200_2 rfl) rfl rfl rfl ?_
    refine s_iload (pc1 := 175) (tk (n := 27) t200_2 rfl) rfl rfl rfl ?_
    refine s_callS0 (as := [(0, vx r19), (0, vx r26)]) (st1 := [(0, 1), (0, 1), (2, x0)]) (p1 := 178) (M2 := 166) (tk (n := 28) t200_2 rfl) rfl rfl rfl rfl rfl (fun r36 => ?_)
    refine s_callS0 (as := [(0, vx r36)]) (st1 := [(0, 1), (0, 1), (2, x0)]) (p1 := 181) (M2 := 197) (tk (n := 29) t200_2 rfl) rfl rfl rfl rfl rfl (fun r37 => ?_)
    refine s_iadd (pc1 := 182) (tk (n := 0) t200_3 rfl) rfl rfl  ?_
    refine s_call0 (as := [(2, x0), (0, 1), (0, w32 (1 + (vx r37)))]) (st1 := []) (p1 := 185) (M2 := 187) (tk (n := 1) t200_3 rfl) rfl rfl rfl rfl rfl (fun r39 => ?_)
    refine s_istore (pc1 := 187) (ls1 := [(2, x0), (0, x1), (1, x2), (9, 0), (9, 0), (9, 0), (0, x6), (0, vx r12), (0, vx r19), (0, vx r26), (0, vx r39), (9, 0), (9, 0), (9, 0)]) (tk (n := 2) t200_3 rfl) rfl rfl rfl rfl ?_
    refine s_aload_n (pc1 := 188) (tk (n := 3) t200_3 rfl) rfl rfl rfl ?_
    refine s_call0 (as := [(2, x0)]) (st1 := []) (p1 := 191) (M2 := 180) (tk (n := 4) t200_3 rfl) rfl rfl rfl rfl rfl (fun r42 => ?_)
    refine s_if_eq (pc1 := 194) (pt := 224) (tk (n := 5) t200_3 rfl) rfl rfl rfl ?_ ?_
    · rfl
    · refine s_iload (pc1 := 196) (tk (n := 6) t200_3 rfl) rfl rfl rfl ?_
      refine s_iload (pc1 := 198) (tk (n := 7) t200_3 rfl) rfl rfl rfl ?_
      refine s_iload (pc1 := 200) (tk (n := 8) t200_3 rfl) rfl rfl rfl ?_
      refine s_iload (pc1 := 202) (tk (n := 9) t200_3 rfl) rfl rfl rfl ?_
      refine s_callS0 (as := [(0, vx r19), (0, vx r26), (0, vx r39)]) (st1 := [(0, vx r12)]) (p1 := 205) (M2 := 199) (tk (n := 10) t200_3 rfl) rfl rfl rfl rfl rfl (fun r48 => ?_)
      refine s_iadd (pc1 := 206) (tk (n := 11) t200_3 rfl) rfl rfl  ?_
      refine s_aload_n (pc1 := 207) (tk (n := 12) t200_3 rfl) rfl rfl rfl ?_
      refine s_getf (pc1 := 210) (c := 12) (t1 := 2) (tk (n := 13) t200_3 rfl) rfl rfl (by decide) rfl rfl ?_
      refine s_bipush (pc1 := 212) (tk (n := 14) t200_3 rfl) rfl rfl  ?_
      refine s_iload (pc1 := 214) (tk (n := 15) t200_3 rfl) rfl rfl rfl ?_
      refine s_iadd (pc1 := 215) (tk (n := 16) t200_3 rfl) rfl rfl  ?_
      refine s_iald (pc1 := 216) (tk (n := 17) t200_3 rfl) rfl rfl  ?_
      refine s_ic_le (pc1 := 219) (pt := 224) (tk (n := 18) t200_3 rfl) rfl rfl rfl ?_ ?_
      · rfl
      · refine s_aload_n (pc1 := 220) (tk (n := 19) t200_3 rfl) rfl rfl rfl ?_
        refine s_iconst (pc1 := 221) (tk (n := 20) t200_3 rfl) rfl rfl  ?_
        refine s_call9 (as := [(2, x0), (0, 5)]) (st1 := []) (p1 := 224) (M2 := 179) (tk (n := 21) t200_3 rfl) rfl rfl rfl rfl rfl (fun r59 => ?_)
        rfl
set_option maxRecDepth 100000 in
set_option maxHeartbeats 4000000 in
theorem e_X12_textureLine_224 (x0 : Int) (x1 : Int) (x2 : Int) (z4 : Vl) (z5 : Vl) (x6 : Int) (x7 : Int) (x8 : Int) (x9 : Int) (x10 : Int) (z11 : Vl) (z12 : Vl) (z13 : Vl) (h : Hq) : vp 200 224 [(2, x0), (0, x1), (1, x2), (9, 0), z4, z5, (0, x6), (0, x7), (0, x8), (0, x9), (0, x10), z11, z12, z13] [] h = if 0 < x0 ∧ (kd x0).1 = 12 then (vm 180 [(2, x0)] h).bind (fun r2 => if (vx r2) = 0 then (vp 200 235 [(2, x0), (0, x1), (1, x2), (9, 0), (9, 0), (9, 0), (0, x6), (0, x7), (0, x8), (0, x9), (0, x10), (9, 0), (9, 0), (9, 0)] [] r2.2) else (if 0 < x0 ∧ (kd x0).1 = 12 then (vm 178 [(2, x0)] r2.2).bind (fun r5 => vp 200 235 [(2, x0), (0, x1), (1, x2), (9, 0), (9, 0), (9, 0), (0, x6), (0, x7), (0, x8), (0, x9), (0, x10), (9, 0), (9, 0), (9, 0)] [] r5.2) else none)) else none := by
  refine s_fg (ls1 := [(2, x0), (0, x1), (1, x2), (9, 0), (9, 0), (9, 0), (0, x6), (0, x7), (0, x8), (0, x9), (0, x10), (9, 0), (9, 0), (9, 0)]) (tk (n := 22) t200_3 rfl) rfl ?_
  refine s_aload_n (pc1 := 225) (tk (n := 22) t200_3 rfl) rfl rfl rfl ?_
  refine s_call0 (as := [(2, x0)]) (st1 := []) (p1 := 228) (M2 := 180) (tk (n := 23) t200_3 rfl) rfl rfl rfl rfl rfl (fun r2 => ?_)
  refine s_if_eq (pc1 := 231) (pt := 235) (tk (n := 24) t200_3 rfl) rfl rfl rfl ?_ ?_
  · rfl
  · refine s_aload_n (pc1 := 232) (tk (n := 25) t200_3 rfl) rfl rfl rfl ?_
    refine s_call9 (as := [(2, x0)]) (st1 := []) (p1 := 235) (M2 := 178) (tk (n := 26) t200_3 rfl) rfl rfl rfl rfl rfl (fun r5 => ?_)
    rfl
set_option maxRecDepth 100000 in
set_option maxHeartbeats 4000000 in
theorem e_X12_textureLine_235 (x0 : Int) (x1 : Int) (x2 : Int) (z4 : Vl) (z5 : Vl) (x6 : Int) (x7 : Int) (x8 : Int) (x9 : Int) (x10 : Int) (z11 : Vl) (z12 : Vl) (z13 : Vl) (h : Hq) : vp 200 235 [(2, x0), (0, x1), (1, x2), (9, 0), z4, z5, (0, x6), (0, x7), (0, x8), (0, x9), (0, x10), z11, z12, z13] [] h = if 0 < x0 ∧ (kd x0).1 = 12 then (vm 183 [(2, x0)] h).bind (fun r2 => if (vx r2) ≠ (-1) then (vp 200 252 [(2, x0), (0, x1), (1, x2), (9, 0), (9, 0), (9, 0), (0, x6), (0, x7), (0, x8), (0, x9), (0, x10), (0, vx r2), (9, 0), (9, 0)] [] r2.2) else (if 0 < x0 ∧ (kd x0).1 = 12 then (vm 179 [(2, x0), (0, 2)] r2.2).bind (fun r9 => vp 200 252 [(2, x0), (0, x1), (1, x2), (9, 0), (9, 0), (9, 0), (0, x6), (0, x7), (0, x8), (0, x9), (0, x10), (0, vx r2), (9, 0), (9, 0)] [] r9.2) else none)) else none := by
  refine s_fg (ls1 := [(2, x0), (0, x1), (1, x2), (9, 0), (9, 0), (9, 0), (0, x6), (0, x7), (0, x8), (0, x9), (0, x10), (9, 0), (9, 0), (9, 0)]) (tk (n := 27) t200_3 rfl) rfl ?_
  refine s_aload_n (pc1 := 236) (tk (n := 27) t200_3 rfl) rfl rfl rfl ?_
  refine s_call0 (as := [(2, x0)]) (st1 := []) (p1 := 239) (M2 := 183) (tk (n := 28) t200_3 rfl) rfl rfl rfl rfl rfl (fun r2 => ?_)
  refine s_istore (pc1 := 241) (ls1 := [(2, x0), (0, x1), (1, x2), (9, 0), (9, 0), (9, 0), (0, x6), (0, x7), (0, x8), (0, x9), (0, x10), (0, vx r2), (9, 0), (9, 0)]) (tk (n := 29) t200_3 rfl) rfl rfl rfl rfl ?_
  refine s_iload (pc1 := 243) (tk (n := 0) t200_4 rfl) rfl rfl rfl ?_
  refine s_iconst (pc1 := 244) (tk (n := 1) t200_4 rfl) rfl rfl  ?_
  refine s_ic_ne (pc1 := 247) (pt := 252) (tk (n := 2) t200_4 rfl) rfl rfl rfl ?_ ?_
  · rfl
  · refine s_aload_n (pc1 := 248) (tk (n := 3) t200_4 rfl) rfl rfl rfl ?_
    refine s_iconst (pc1 := 249) (tk (n := 4) t200_4 rfl) rfl rfl  ?_
    refine s_call9 (as := [(2, x0), (0, 2)]) (st1 := []) (p1 := 252) (M2 := 179) (tk (n := 5) t200_4 rfl) rfl rfl rfl rfl rfl (fun r9 => ?_)
    rfl
set_option maxRecDepth 100000 in
set_option maxHeartbeats 4000000 in
theorem e_X12_textureLine_252 (x0 : Int) (x1 : Int) (x2 : Int) (z4 : Vl) (z5 : Vl) (x6 : Int) (x7 : Int) (x8 : Int) (x9 : Int) (x10 : Int) (x11 : Int) (z12 : Vl) (z13 : Vl) (h : Hq) : vp 200 252 [(2, x0), (0, x1), (1, x2), (9, 0), z4, z5, (0, x6), (0, x7), (0, x8), (0, x9), (0, x10), (0, x11), z12, z13] [] h = if 0 < x0 ∧ (kd x0).1 = 12 then (vm 180 [(2, x0)] h).bind (fun r2 => if (vx r2) = 0 then (vp 200 263 [(2, x0), (0, x1), (1, x2), (9, 0), (9, 0), (9, 0), (0, x6), (0, x7), (0, x8), (0, x9), (0, x10), (0, x11), (9, 0), (9, 0)] [] r2.2) else (if 0 < x0 ∧ (kd x0).1 = 12 then (vm 178 [(2, x0)] r2.2).bind (fun r5 => vp 200 263 [(2, x0), (0, x1), (1, x2), (9, 0), (9, 0), (9, 0), (0, x6), (0, x7), (0, x8), (0, x9), (0, x10), (0, x11), (9, 0), (9, 0)] [] r5.2) else none)) else none := by
  refine s_fg (ls1 := [(2, x0), (0, x1), (1, x2), (9, 0), (9, 0), (9, 0), (0, x6), (0, x7), (0, x8), (0, x9), (0, x10), (0, x11), (9, 0), (9, 0)]) (tk (n := 6) t200_4 rfl) rfl ?_
  refine s_aload_n (pc1 := 253) (tk (n := 6) t200_4 rfl) rfl rfl rfl ?_
  refine s_call0 (as := [(2, x0)]) (st1 := []) (p1 := 256) (M2 := 180) (tk (n := 7) t200_4 rfl) rfl rfl rfl rfl rfl (fun r2 => ?_)
  refine s_if_eq (pc1 := 259) (pt := 263) (tk (n := 8) t200_4 rfl) rfl rfl rfl ?_ ?_
  · rfl
  · refine s_aload_n (pc1 := 260) (tk (n := 9) t200_4 rfl) rfl rfl rfl ?_
    refine s_call9 (as := [(2, x0)]) (st1 := []) (p1 := 263) (M2 := 178) (tk (n := 10) t200_4 rfl) rfl rfl rfl rfl rfl (fun r5 => ?_)
    rfl
set_option maxRecDepth 100000 in
set_option maxHeartbeats 4000000 in
theorem e_X12_textureLine_263 (x0 : Int) (x1 : Int) (x2 : Int) (z4 : Vl) (z5 : Vl) (x6 : Int) (x7 : Int) (x8 : Int) (x9 : Int) (x10 : Int) (x11 : Int) (z12 : Vl) (z13 : Vl) (h : Hq) : vp 200 263 [(2, x0), (0, x1), (1, x2), (9, 0), z4, z5, (0, x6), (0, x7), (0, x8), (0, x9), (0, x10), (0, x11), z12, z13] [] h = if 0 < x0 ∧ (kd x0).1 = 12 then (vm 184 [(2, x0)] h).bind (fun r2 => if (vx r2) ≠ (-1) then (if 0 < x0 ∧ (kd x0).1 = 12 then (vm 180 [(2, x0)] r2.2).bind (fun r8 => if (vx r8) = 0 then (vp 200 291 [(2, x0), (0, x1), (1, x2), (9, 0), (9, 0), (9, 0), (0, x6), (0, x7), (0, x8), (0, x9), (0, x10), (0, x11), (0, vx r2), (9, 0)] [] r8.2) else (if 0 < x0 ∧ (kd x0).1 = 12 then (vm 178 [(2, x0)] r8.2).bind (fun r11 => vp 200 291 [(2, x0), (0, x1), (1, x2), (9, 0), (9, 0), (9, 0), (0, x6), (0, x7), (0, x8), (0, x9), (0, x10), (0, x11), (0, vx r2), (9, 0)] [] r11.2) else none)) else none) else (if 0 < x0 ∧ (kd x0).1 = 12 then (vm 179 [(2, x0), (0, 2)] r2.2).bind (fun r9 => if 0 < x0 ∧ (kd x0).1 = 12 then (vm 180 [(2, x0)] r9.2).bind (fun r11 => if (vx r11) = 0 then (vp 200 291 [(2, x0), (0, x1), (1, x2), (9, 0), (9, 0), (9, 0), (0, x6), (0, x7), (0, x8), (0, x9), (0, x10), (0, x11), (0, vx r2), (9, 0)] [] r11.2) else (if 0 < x0 ∧ (kd x0).1 = 12 then (vm 178 [(2, x0)] r11.2).bind (fun r14 => vp 200 291 [(2, x0), (0, x1), (1, x2), (9, 0), (9, 0), (9, 0), (0, x6), (0, x7), (0, x8), (0, x9), (0, x10), (0, x11), (0, vx r2), (9, 0)] [] r14.2) else none)) else none) else none)) else none := by
  refine s_fg (ls1 := [(2, x0), (0, x1), (1, x2), (9, 0), (9, 0), (9, 0), (0, x6), (0, x7), (0, x8), (0, x9), (0, x10), (0, x11), (9, 0), (9, 0)]) (tk (n := 11) t200_4 rfl) rfl ?_
  refine s_aload_n (pc1 := 264) (tk (n := 11) t200_4 rfl) rfl rfl rfl ?_
  refine s_call0 (as := [(2, x0)]) (st1 := []) (p1 := 267) (M2 := 184) (tk (n := 12) t200_4 rfl) rfl rfl rfl rfl rfl (fun r2 => ?_)
  refine s_istore (pc1 := 269) (ls1 := [(2, x0), (0, x1), (1, x2), (9, 0), (9, 0), (9, 0), (0, x6), (0, x7), (0, x8), (0, x9), (0, x10), (0, x11), (0, vx r2), (9, 0)]) (tk (n := 13) t200_4 rfl) rfl rfl rfl rfl ?_
  refine s_iload (pc1 := 271) (tk (n := 14) t200_4 rfl) rfl rfl rfl ?_
  refine s_iconst (pc1 := 272) (tk (n := 15) t200_4 rfl) rfl rfl  ?_
  refine s_ic_ne (pc1 := 275) (pt := 280) (tk (n := 16) t200_4 rfl) rfl rfl rfl ?_ ?_
  · refine s_aload_n (pc1 := 281) (tk (n := 20) t200_4 rfl) rfl rfl rfl ?_
    refine s_call0 (as := [(2, x0)]) (st1 := []) (p1 := 284) (M2 := 180) (tk (n := 21) t200_4 rfl) rfl rfl rfl rfl rfl (fun r8 => ?_)
    refine s_if_eq (pc1 := 287) (pt := 291) (tk (n := 22) t200_4 rfl) rfl rfl rfl ?_ ?_
    · rfl
    · refine s_aload_n (pc1 := 288) (tk (n := 23) t200_4 rfl) rfl rfl rfl ?_
      refine s_call9 (as := [(2, x0)]) (st1 := []) (p1 := 291) (M2 := 178) (tk (n := 24) t200_4 rfl) rfl rfl rfl rfl rfl (fun r11 => ?_)
      rfl
  · refine s_aload_n (pc1 := 276) (tk (n := 17) t200_4 rfl) rfl rfl rfl ?_
    refine s_iconst (pc1 := 277) (tk (n := 18) t200_4 rfl) rfl rfl  ?_
    refine s_call9 (as := [(2, x0), (0, 2)]) (st1 := []) (p1 := 280) (M2 := 179) (tk (n := 19) t200_4 rfl) rfl rfl rfl rfl rfl (fun r9 => ?_)
    refine s_aload_n (pc1 := 281) (tk (n := 20) t200_4 rfl) rfl rfl rfl ?_
    refine s_call0 (as := [(2, x0)]) (st1 := []) (p1 := 284) (M2 := 180) (tk (n := 21) t200_4 rfl) rfl rfl rfl rfl rfl (fun r11 => ?_)
    refine s_if_eq (pc1 := 287) (pt := 291) (tk (n := 22) t200_4 rfl) rfl rfl rfl ?_ ?_
    · rfl
    · refine s_aload_n (pc1 := 288) (tk (n := 23) t200_4 rfl) rfl rfl rfl ?_
      refine s_call9 (as := [(2, x0)]) (st1 := []) (p1 := 291) (M2 := 178) (tk (n := 24) t200_4 rfl) rfl rfl rfl rfl rfl (fun r14 => ?_)
      rfl
set_option maxRecDepth 100000 in
set_option maxHeartbeats 4000000 in
theorem e_X12_textureLine_291 (x0 : Int) (x1 : Int) (x2 : Int) (z4 : Vl) (z5 : Vl) (x6 : Int) (x7 : Int) (x8 : Int) (x9 : Int) (x10 : Int) (x11 : Int) (x12 : Int) (z13 : Vl) (h : Hq) : vp 200 291 [(2, x0), (0, x1), (1, x2), (9, 0), z4, z5, (0, x6), (0, x7), (0, x8), (0, x9), (0, x10), (0, x11), (0, x12), z13] [] h = if 0 < x0 ∧ (kd x0).1 = 12 then if (h.2 x0 8) ≤ 0 then (if 0 < x0 ∧ (kd x0).1 = 12 then if 0 < (h.2 x0 15) ∧ (kd (h.2 x0 15)).1 = 23 ∧ 0 ≤ (w32 (4 + x1)) ∧ (w32 (4 + x1)) < (kd (h.2 x0 15)).2 then if 0 < x0 ∧ (kd x0).1 = 12 then if 0 < ((stm h.2 (h.2 x0 15) (w32 (4 + x1)) x2) x0 18) ∧ (kd ((stm h.2 (h.2 x0 15) (w32 (4 + x1)) x2) x0 18)).1 = 20 ∧ 0 ≤ (w32 ((w32 (28 + (w32 (7 * x1)))) + 0)) ∧ (w32 ((w32 (28 + (w32 (7 * x1)))) + 0)) < (kd ((stm h.2 (h.2 x0 15) (w32 (4 + x1)) x2) x0 18)).2 then if 0 < x0 ∧ (kd x0).1 = 12 then if 0 < ((stm (stm h.2 (h.2 x0 15) (w32 (4 + x1)) x2) ((stm h.2 (h.2 x0 15) (w32 (4 + x1)) x2) x0 18) (w32 ((w32 (28 + (w32 (7 * x1)))) + 0)) x6) x0 18) ∧ (kd ((stm (stm h.2 (h.2 x0 15) (w32 (4 + x1)) x2) ((stm h.2 (h.2 x0 15) (w32 (4 + x1)) x2) x0 18) (w32 ((w32 (28 + (w32 (7 * x1)))) + 0)) x6) x0 18)).1 = 20 ∧ 0 ≤ (w32 ((w32 (28 + (w32 (7 * x1)))) + 1)) ∧ (w32 ((w32 (28 + (w32 (7 * x1)))) + 1)) < (kd ((stm (stm h.2 (h.2 x0 15) (w32 (4 + x1)) x2) ((stm h.2 (h.2 x0 15) (w32 (4 + x1)) x2) x0 18) (w32 ((w32 (28 + (w32 (7 * x1)))) + 0)) x6) x0 18)).2 then if 0 < x0 ∧ (kd x0).1 = 12 then if 0 < ((stm (stm (stm h.2 (h.2 x0 15) (w32 (4 + x1)) x2) ((stm h.2 (h.2 x0 15) (w32 (4 + x1)) x2) x0 18) (w32 ((w32 (28 + (w32 (7 * x1)))) + 0)) x6) ((stm (stm h.2 (h.2 x0 15) (w32 (4 + x1)) x2) ((stm h.2 (h.2 x0 15) (w32 (4 + x1)) x2) x0 18) (w32 ((w32 (28 + (w32 (7 * x1)))) + 0)) x6) x0 18) (w32 ((w32 (28 + (w32 (7 * x1)))) + 1)) x7) x0 18) ∧ (kd ((stm (stm (stm h.2 (h.2 x0 15) (w32 (4 + x1)) x2) ((stm h.2 (h.2 x0 15) (w32 (4 + x1)) x2) x0 18) (w32 ((w32 (28 + (w32 (7 * x1)))) + 0)) x6) ((stm (stm h.2 (h.2 x0 15) (w32 (4 + x1)) x2) ((stm h.2 (h.2 x0 15) (w32 (4 + x1)) x2) x0 18) (w32 ((w32 (28 + (w32 (7 * x1)))) + 0)) x6) x0 18) (w32 ((w32 (28 + (w32 (7 * x1)))) + 1)) x7) x0 18)).1 = 20 ∧ 0 ≤ (w32 ((w32 (28 + (w32 (7 * x1)))) + 2)) ∧ (w32 ((w32 (28 + (w32 (7 * x1)))) + 2)) < (kd ((stm (stm (stm h.2 (h.2 x0 15) (w32 (4 + x1)) x2) ((stm h.2 (h.2 x0 15) (w32 (4 + x1)) x2) x0 18) (w32 ((w32 (28 + (w32 (7 * x1)))) + 0)) x6) ((stm (stm h.2 (h.2 x0 15) (w32 (4 + x1)) x2) ((stm h.2 (h.2 x0 15) (w32 (4 + x1)) x2) x0 18) (w32 ((w32 (28 + (w32 (7 * x1)))) + 0)) x6) x0 18) (w32 ((w32 (28 + (w32 (7 * x1)))) + 1)) x7) x0 18)).2 then if 0 < x0 ∧ (kd x0).1 = 12 then if 0 < ((stm (stm (stm (stm h.2 (h.2 x0 15) (w32 (4 + x1)) x2) ((stm h.2 (h.2 x0 15) (w32 (4 + x1)) x2) x0 18) (w32 ((w32 (28 + (w32 (7 * x1)))) + 0)) x6) ((stm (stm h.2 (h.2 x0 15) (w32 (4 + x1)) x2) ((stm h.2 (h.2 x0 15) (w32 (4 + x1)) x2) x0 18) (w32 ((w32 (28 + (w32 (7 * x1)))) + 0)) x6) x0 18) (w32 ((w32 (28 + (w32 (7 * x1)))) + 1)) x7) ((stm (stm (stm h.2 (h.2 x0 15) (w32 (4 + x1)) x2) ((stm h.2 (h.2 x0 15) (w32 (4 + x1)) x2) x0 18) (w32 ((w32 (28 + (w32 (7 * x1)))) + 0)) x6) ((stm (stm h.2 (h.2 x0 15) (w32 (4 + x1)) x2) ((stm h.2 (h.2 x0 15) (w32 (4 + x1)) x2) x0 18) (w32 ((w32 (28 + (w32 (7 * x1)))) + 0)) x6) x0 18) (w32 ((w32 (28 + (w32 (7 * x1)))) + 1)) x7) x0 18) (w32 ((w32 (28 + (w32 (7 * x1)))) + 2)) x8) x0 18) ∧ (kd ((stm (stm (stm (stm h.2 (h.2 x0 15) (w32 (4 + x1)) x2) ((stm h.2 (h.2 x0 15) (w32 (4 + x1)) x2) x0 18) (w32 ((w32 (28 + (w32 (7 * x1)))) + 0)) x6) ((stm (stm h.2 (h.2 x0 15) (w32 (4 + x1)) x2) ((stm h.2 (h.2 x0 15) (w32 (4 + x1)) x2) x0 18) (w32 ((w32 (28 + (w32 (7 * x1)))) + 0)) x6) x0 18) (w32 ((w32 (28 + (w32 (7 * x1)))) + 1)) x7) ((stm (stm (stm h.2 (h.2 x0 15) (w32 (4 + x1)) x2) ((stm h.2 (h.2 x0 15) (w32 (4 + x1)) x2) x0 18) (w32 ((w32 (28 + (w32 (7 * x1)))) + 0)) x6) ((stm (stm h.2 (h.2 x0 15) (w32 (4 + x1)) x2) ((stm h.2 (h.2 x0 15) (w32 (4 + x1)) x2) x0 18) (w32 ((w32 (28 + (w32 (7 * x1)))) + 0)) x6) x0 18) (w32 ((w32 (28 + (w32 (7 * x1)))) + 1)) x7) x0 18) (w32 ((w32 (28 + (w32 (7 * x1)))) + 2)) x8) x0 18)).1 = 20 ∧ 0 ≤ (w32 ((w32 (28 + (w32 (7 * x1)))) + 3)) ∧ (w32 ((w32 (28 + (w32 (7 * x1)))) + 3)) < (kd ((stm (stm (stm (stm h.2 (h.2 x0 15) (w32 (4 + x1)) x2) ((stm h.2 (h.2 x0 15) (w32 (4 + x1)) x2) x0 18) (w32 ((w32 (28 + (w32 (7 * x1)))) + 0)) x6) ((stm (stm h.2 (h.2 x0 15) (w32 (4 + x1)) x2) ((stm h.2 (h.2 x0 15) (w32 (4 + x1)) x2) x0 18) (w32 ((w32 (28 + (w32 (7 * x1)))) + 0)) x6) x0 18) (w32 ((w32 (28 + (w32 (7 * x1)))) + 1)) x7) ((stm (stm (stm h.2 (h.2 x0 15) (w32 (4 + x1)) x2) ((stm h.2 (h.2 x0 15) (w32 (4 + x1)) x2) x0 18) (w32 ((w32 (28 + (w32 (7 * x1)))) + 0)) x6) ((stm (stm h.2 (h.2 x0 15) (w32 (4 + x1)) x2) ((stm h.2 (h.2 x0 15) (w32 (4 + x1)) x2) x0 18) (w32 ((w32 (28 + (w32 (7 * x1)))) + 0)) x6) x0 18) (w32 ((w32 (28 + (w32 (7 * x1)))) + 1)) x7) x0 18) (w32 ((w32 (28 + (w32 (7 * x1)))) + 2)) x8) x0 18)).2 then if 0 < x0 ∧ (kd x0).1 = 12 then if 0 < ((stm (stm (stm (stm (stm h.2 (h.2 x0 15) (w32 (4 + x1)) x2) ((stm h.2 (h.2 x0 15) (w32 (4 + x1)) x2) x0 18) (w32 ((w32 (28 + (w32 (7 * x1)))) + 0)) x6) ((stm (stm h.2 (h.2 x0 15) (w32 (4 + x1)) x2) ((stm h.2 (h.2 x0 15) (w32 (4 + x1)) x2) x0 18) (w32 ((w32 (28 + (w32 (7 * x1)))) + 0)) x6) x0 18) (w32 ((w32 (28 + (w32 (7 * x1)))) + 1)) x7) ((stm (stm (stm h.2 (h.2 x0 15) (w32 (4 + x1)) x2) ((stm h.2 (h.2 x0 15) (w32 (4 + x1)) x2) x0 18) (w32 ((w32 (28 + (w32 (7 * x1)))) + 0)) x6) ((stm (stm h.2 (h.2 x0 15) (w32 (4 + x1)) x2) ((stm h.2 (h.2 x0 15) (w32 (4 + x1)) x2) x0 18) (w32 ((w32 (28 + (w32 (7 * x1)))) + 0)) x6) x0 18) (w32 ((w32 (28 + (w32 (7 * x1)))) + 1)) x7) x0 18) (w32 ((w32 (28 + (w32 (7 * x1)))) + 2)) x8) ((stm (stm (stm (stm h.2 (h.2 x0 15) (w32 (4 + x1)) x2) ((stm h.2 (h.2 x0 15) (w32 (4 + x1)) x2) x0 18) (w32 ((w32 (28 + (w32 (7 * x1)))) + 0)) x6) ((stm (stm h.2 (h.2 x0 15) (w32 (4 + x1)) x2) ((stm h.2 (h.2 x0 15) (w32 (4 + x1)) x2) x0 18) (w32 ((w32 (28 + (w32 (7 * x1)))) + 0)) x6) x0 18) (w32 ((w32 (28 + (w32 (7 * x1)))) + 1)) x7) ((stm (stm (stm h.2 (h.2 x0 15) (w32 (4 + x1)) x2) ((stm h.2 (h.2 x0 15) (w32 (4 + x1)) x2) x0 18) (w32 ((w32 (28 + (w32 (7 * x1)))) + 0)) x6) ((stm (stm h.2 (h.2 x0 15) (w32 (4 + x1)) x2) ((stm h.2 (h.2 x0 15) (w32 (4 + x1)) x2) x0 18) (w32 ((w32 (28 + (w32 (7 * x1)))) + 0)) x6) x0 18) (w32 ((w32 (28 + (w32 (7 * x1)))) + 1)) x7) x0 18) (w32 ((w32 (28 + (w32 (7 * x1)))) + 2)) x8) x0 18) (w32 ((w32 (28 + (w32 (7 * x1)))) + 3)) x9) x0 18) ∧ (kd ((stm (stm (stm (stm (stm h.2 (h.2 x0 15) (w32 (4 + x1)) x2) ((stm h.2 (h.2 x0 15) (w32 (4 + x1)) x2) x0 18) (w32 ((w32 (28 + (w32 (7 * x1)))) + 0)) x6) ((stm (stm h.2 (h.2 x0 15) (w32 (4 + x1)) x2) ((stm h.2 (h.2 x0 15) (w32 (4 + x1)) x2) x0 18) (w32 ((w32 (28 + (w32 (7 * x1)))) + 0)) x6) x0 18) (w32 ((w32 (28 + (w32 (7 * x1)))) + 1)) x7) ((stm (stm (stm h.2 (h.2 x0 15) (w32 (4 + x1)) x2) ((stm h.2 (h.2 x0 15) (w32 (4 + x1)) x2) x0 18) (w32 ((w32 (28 + (w32 (7 * x1)))) + 0)) x6) ((stm (stm h.2 (h.2 x0 15) (w32 (4 + x1)) x2) ((stm h.2 (h.2 x0 15) (w32 (4 + x1)) x2) x0 18) (w32 ((w32 (28 + (w32 (7 * x1)))) + 0)) x6) x0 18) (w32 ((w32 (28 + (w32 (7 * x1)))) + 1)) x7) x0 18) (w32 ((w32 (28 + (w32 (7 * x1)))) + 2)) x8) ((stm (stm (stm (stm h.2 (h.2 x0 15) (w32 (4 + x1)) x2) ((stm h.2 (h.2 x0 15) (w32 (4 + x1)) x2) x0 18) (w32 ((w32 (28 + (w32 (7 * x1)))) + 0)) x6) ((stm (stm h.2 (h.2 x0 15) (w32 (4 + x1)) x2) ((stm h.2 (h.2 x0 15) (w32 (4 + x1)) x2) x0 18) (w32 ((w32 (28 + (w32 (7 * x1)))) + 0)) x6) x0 18) (w32 ((w32 (28 + (w32 (7 * x1)))) + 1)) x7) ((stm (stm (stm h.2 (h.2 x0 15) (w32 (4 + x1)) x2) ((stm h.2 (h.2 x0 15) (w32 (4 + x1)) x2) x0 18) (w32 ((w32 (28 + (w32 (7 * x1)))) + 0)) x6) ((stm (stm h.2 (h.2 x0 15) (w32 (4 + x1)) x2) ((stm h.2 (h.2 x0 15) (w32 (4 + x1)) x2) x0 18) (w32 ((w32 (28 + (w32 (7 * x1)))) + 0)) x6) x0 18) (w32 ((w32 (28 + (w32 (7 * x1)))) + 1)) x7) x0 18) (w32 ((w32 (28 + (w32 (7 * x1)))) + 2)) x8) x0 18) (w32 ((w32 (28 + (w32 (7 * x1)))) + 3)) x9) x0 18)).1 = 20 ∧ 0 ≤ (w32 ((w32 (28 + (w32 (7 * x1)))) + 4)) ∧ (w32 ((w32 (28 + (w32 (7 * x1)))) + 4)) < (kd ((stm (stm (stm (stm (stm h.2 (h.2 x0 15) (w32 (4 + x1)) x2) ((stm h.2 (h.2 x0 15) (w32 (4 + x1)) x2) x0 18) (w32 ((w32 (28 + (w32 (7 * x1)))) + 0)) x6) ((stm (stm h.2 (h.2 x0 15) (w32 (4 + x1)) x2) ((stm h.2 (h.2 x0 15) (w32 (4 + x1)) x2) x0 18) (w32 ((w32 (28 + (w32 (7 * x1)))) + 0)) x6) x0 18) (w32 ((w32 (28 + (w32 (7 * x1)))) + 1)) x7) ((stm (stm (stm h.2 (h.2 x0 15) (w32 (4 + x1)) x2) ((stm h.2 (h.2 x0 15) (w32 (4 + x1)) x2) x0 18) (w32 ((w32 (28 + (w32 (7 * x1)))) + 0)) x6) ((stm (stm h.2 (h.2 x0 15) (w32 (4 + x1)) x2) ((stm h.2 (h.2 x0 15) (w32 (4 + x1)) x2) x0 18) (w32 ((w32 (28 + (w32 (7 * x1)))) + 0)) x6) x0 18) (w32 ((w32 (28 + (w32 (7 * x1)))) + 1)) x7) x0 18) (w32 ((w32 (28 + (w32 (7 * x1)))) + 2)) x8) ((stm (stm (stm (stm h.2 (h.2 x0 15) (w32 (4 + x1)) x2) ((stm h.2 (h.2 x0 15) (w32 (4 + x1)) x2) x0 18) (w32 ((w32 (28 + (w32 (7 * x1)))) + 0)) x6) ((stm (stm h.2 (h.2 x0 15) (w32 (4 + x1)) x2) ((stm h.2 (h.2 x0 15) (w32 (4 + x1)) x2) x0 18) (w32 ((w32 (28 + (w32 (7 * x1)))) + 0)) x6) x0 18) (w32 ((w32 (28 + (w32 (7 * x1)))) + 1)) x7) ((stm (stm (stm h.2 (h.2 x0 15) (w32 (4 + x1)) x2) ((stm h.2 (h.2 x0 15) (w32 (4 + x1)) x2) x0 18) (w32 ((w32 (28 + (w32 (7 * x1)))) + 0)) x6) ((stm (stm h.2 (h.2 x0 15) (w32 (4 + x1)) x2) ((stm h.2 (h.2 x0 15) (w32 (4 + x1)) x2) x0 18) (w32 ((w32 (28 + (w32 (7 * x1)))) + 0)) x6) x0 18) (w32 ((w32 (28 + (w32 (7 * x1)))) + 1)) x7) x0 18) (w32 ((w32 (28 + (w32 (7 * x1)))) + 2)) x8) x0 18) (w32 ((w32 (28 + (w32 (7 * x1)))) + 3)) x9) x0 18)).2 then if 0 < x0 ∧ (kd x0).1 = 12 then if 0 < ((stm (stm (stm (stm (stm (stm h.2 (h.2 x0 15) (w32 (4 + x1)) x2) ((stm h.2 (h.2 x0 15) (w32 (4 + x1)) x2) x0 18) (w32 ((w32 (28 + (w32 (7 * x1)))) + 0)) x6) ((stm (stm h.2 (h.2 x0 15) (w32 (4 + x1)) x2) ((stm h.2 (h.2 x0 15) (w32 (4 + x1)) x2) x0 18) (w32 ((w32 (28 + (w32 (7 * x1)))) + 0)) x6) x0 18) (w32 ((w32 (28 + (w32 (7 * x1)))) + 1)) x7) ((stm (stm (stm h.2 (h.2 x0 15) (w32 (4 + x1)) x2) ((stm h.2 (h.2 x0 15) (w32 (4 + x1)) x2) x0 18) (w32 ((w32 (28 + (w32 (7 * x1)))) + 0)) x6) ((stm (stm h.2 (h.2 x0 15) (w32 (4 + x1)) x2) ((stm h.2 (h.2 x0 15) (w32 (4 + x1)) x2) x0 18) (w32 ((w32 (28 + (w32 (7 * x1)))) + 0)) x6) x0 18) (w32 ((w32 (28 + (w32 (7 * x1)))) + 1)) x7) x0 18) (w32 ((w32 (28 + (w32 (7 * x1)))) + 2)) x8) ((stm (stm (stm (stm h.2 (h.2 x0 15) (w32 (4 + x1)) x2) ((stm h.2 (h.2 x0 15) (w32 (4 + x1)) x2) x0 18) (w32 ((w32 (28 + (w32 (7 * x1)))) + 0)) x6) ((stm (stm h.2 (h.2 x0 15) (w32 (4 + x1)) x2) ((stm h.2 (h.2 x0 15) (w32 (4 + x1)) x2) x0 18) (w32 ((w32 (28 + (w32 (7 * x1)))) + 0)) x6) x0 18) (w32 ((w32 (28 + (w32 (7 * x1)))) + 1)) x7) ((stm (stm (stm h.2 (h.2 x0 15) (w32 (4 + x1)) x2) ((stm h.2 (h.2 x0 15) (w32 (4 + x1)) x2) x0 18) (w32 ((w32 (28 + (w32 (7 * x1)))) + 0)) x6) ((stm (stm h.2 (h.2 x0 15) (w32 (4 + x1)) x2) ((stm h.2 (h.2 x0 15) (w32 (4 + x1)) x2) x0 18) (w32 ((w32 (28 + (w32 (7 * x1)))) + 0)) x6) x0 18) (w32 ((w32 (28 + (w32 (7 * x1)))) + 1)) x7) x0 18) (w32 ((w32 (28 + (w32 (7 * x1)))) + 2)) x8) x0 18) (w32 ((w32 (28 + (w32 (7 * x1)))) + 3)) x9) ((stm (stm (stm (stm (stm h.2 (h.2 x0 15) (w32 (4 + x1)) x2) ((stm h.2 (h.2 x0 15) (w32 (4 + x1)) x2) x0 18) (w32 ((w32 (28 + (w32 (7 * x1)))) + 0)) x6) ((stm (stm h.2 (h.2 x0 15) (w32 (4 + x1)) x2) ((stm h.2 (h.2 x0 15) (w32 (4 + x1)) x2) x0 18) (w32 ((w32 (28 + (w32 (7 * x1)))) + 0)) x6) x0 18) (w32 ((w32 (28 + (w32 (7 * x1)))) + 1)) x7) ((stm (stm (stm h.2 (h.2 x0 15) (w32 (4 + x1)) x2) ((stm h.2 (h.2 x0 15) (w32 (4 + x1)) x2) x0 18) (w32 ((w32 (28 + (w32 (7 * x1)))) + 0)) x6) ((stm (stm h.2 (h.2 x0 15) (w32 (4 + x1)) x2) ((stm h.2 (h.2 x0 15) (w32 (4 + x1)) x2) x0 18) (w32 ((w32 (28 + (w32 (7 * x1)))) + 0)) x6) x0 18) (w32 ((w32 (28 + (w32 (7 * x1)))) + 1)) x7) x0 18) (w32 ((w32 (28 + (w32 (7 * x1)))) + 2)) x8) ((stm (stm (stm (stm h.2 (h.2 x0 15) (w32 (4 + x1)) x2) ((stm h.2 (h.2 x0 15) (w32 (4 + x1)) x2) x0 18) (w32 ((w32 (28 + (w32 (7 * x1)))) + 0)) x6) ((stm (stm h.2 (h.2 x0 15) (w32 (4 + x1)) x2) ((stm h.2 (h.2 x0 15) (w32 (4 + x1)) x2) x0 18) (w32 ((w32 (28 + (w32 (7 * x1)))) + 0)) x6) x0 18) (w32 ((w32 (28 + (w32 (7 * x1)))) + 1)) x7) ((stm (stm (stm h.2 (h.2 x0 15) (w32 (4 + x1)) x2) ((stm h.2 (h.2 x0 15) (w32 (4 + x1)) x2) x0 18) (w32 ((w32 (28 + (w32 (7 * x1)))) + 0)) x6) ((stm (stm h.2 (h.2 x0 15) (w32 (4 + x1)) x2) ((stm h.2 (h.2 x0 15) (w32 (4 + x1)) x2) x0 18) (w32 ((w32 (28 + (w32 (7 * x1)))) + 0)) x6) x0 18) (w32 ((w32 (28 + (w32 (7 * x1)))) + 1)) x7) x0 18) (w32 ((w32 (28 + (w32 (7 * x1)))) + 2)) x8) x0 18) (w32 ((w32 (28 + (w32 (7 * x1)))) + 3)) x9) x0 18) (w32 ((w32 (28 + (w32 (7 * x1)))) + 4)) x10) x0 18) ∧ (kd ((stm (stm (stm (stm (stm (stm h.2 (h.2 x0 15) (w32 (4 + x1)) x2) ((stm h.2 (h.2 x0 15) (w32 (4 + x1)) x2) x0 18) (w32 ((w32 (28 + (w32 (7 * x1)))) + 0)) x6) ((stm (stm h.2 (h.2 x0 15) (w32 (4 + x1)) x2) ((stm h.2 (h.2 x0 15) (w32 (4 + x1)) x2) x0 18) (w32 ((w32 (28 + (w32 (7 * x1)))) + 0)) x6) x0 18) (w32 ((w32 (28 + (w32 (7 * x1)))) + 1)) x7) ((stm (stm (stm h.2 (h.2 x0 15) (w32 (4 + x1)) x2) ((stm h.2 (h.2 x0 15) (w32 (4 + x1)) x2) x0 18) (w32 ((w32 (28 + (w32 (7 * x1)))) + 0)) x6) ((stm (stm h.2 (h.2 x0 15) (w32 (4 + x1)) x2) ((stm h.2 (h.2 x0 15) (w32 (4 + x1)) x2) x0 18) (w32 ((w32 (28 + (w32 (7 * x1)))) + 0)) x6) x0 18) (w32 ((w32 (28 + (w32 (7 * x1)))) + 1)) x7) x0 18) (w32 ((w32 (28 + (w32 (7 * x1)))) + 2)) x8) ((stm (stm (stm (stm h.2 (h.2 x0 15) (w32 (4 + x1)) x2) ((stm h.2 (h.2 x0 15) (w32 (4 + x1)) x2) x0 18) (w32 ((w32 (28 + (w32 (7 * x1)))) + 0)) x6) ((stm (stm h.2 (h.2 x0 15) (w32 (4 + x1)) x2) ((stm h.2 (h.2 x0 15) (w32 (4 + x1)) x2) x0 18) (w32 ((w32 (28 + (w32 (7 * x1)))) + 0)) x6) x0 18) (w32 ((w32 (28 + (w32 (7 * x1)))) + 1)) x7) ((stm (stm (stm h.2 (h.2 x0 15) (w32 (4 + x1)) x2) ((stm h.2 (h.2 x0 15) (w32 (4 + x1)) x2) x0 18) (w32 ((w32 (28 + (w32 (7 * x1)))) + 0)) x6) ((stm (stm h.2 (h.2 x0 15) (w32 (4 + x1)) x2) ((stm h.2 (h.2 x0 15) (w32 (4 + x1)) x2) x0 18) (w32 ((w32 (28 + (w32 (7 * x1)))) + 0)) x6) x0 18) (w32 ((w32 (28 + (w32 (7 * x1)))) + 1)) x7) x0 18) (w32 ((w32 (28 + (w32 (7 * x1)))) + 2)) x8) x0 18) (w32 ((w32 (28 + (w32 (7 * x1)))) + 3)) x9) ((stm (stm (stm (stm (stm h.2 (h.2 x0 15) (w32 (4 + x1)) x2) ((stm h.2 (h.2 x0 15) (w32 (4 + x1)) x2) x0 18) (w32 ((w32 (28 + (w32 (7 * x1)))) + 0)) x6) ((stm (stm h.2 (h.2 x0 15) (w32 (4 + x1)) x2) ((stm h.2 (h.2 x0 15) (w32 (4 + x1)) x2) x0 18) (w32 ((w32 (28 + (w32 (7 * x1)))) + 0)) x6) x0 18) (w32 ((w32 (28 + (w32 (7 * x1)))) + 1)) x7) ((stm (stm (stm h.2 (h.2 x0 15) (w32 (4 + x1)) x2) ((stm h.2 (h.2 x0 15) (w32 (4 + x1)) x2) x0 18) (w32 ((w32 (28 + (w32 (7 * x1)))) + 0)) x6) ((stm (stm h.2 (h.2 x0 15) (w32 (4 + x1)) x2) ((stm h.2 (h.2 x0 15) (w32 (4 + x1)) x2) x0 18) (w32 ((w32 (28 + (w32 (7 * x1)))) + 0)) x6) x0 18) (w32 ((w32 (28 + (w32 (7 * x1)))) + 1)) x7) x0 18) (w32 ((w32 (28 + (w32 (7 * x1)))) + 2)) x8) ((stm (stm (stm (stm h.2 (h.2 x0 15) (w32 (4 + x1)) x2) ((stm h.2 (h.2 x0 15) (w32 (4 + x1)) x2) x0 18) (w32 ((w32 (28 + (w32 (7 * x1)))) + 0)) x6) ((stm (stm h.2 (h.2 x0 15) (w32 (4 + x1)) x2) ((stm h.2 (h.2 x0 15) (w32 (4 + x1)) x2) x0 18) (w32 ((w32 (28 + (w32 (7 * x1)))) + 0)) x6) x0 18) (w32 ((w32 (28 + (w32 (7 * x1)))) + 1)) x7) ((stm (stm (stm h.2 (h.2 x0 15) (w32 (4 + x1)) x2) ((stm h.2 (h.2 x0 15) (w32 (4 + x1)) x2) x0 18) (w32 ((w32 (28 + (w32 (7 * x1)))) + 0)) x6) ((stm (stm h.2 (h.2 x0 15) (w32 (4 + x1)) x2) ((stm h.2 (h.2 x0 15) (w32 (4 + x1)) x2) x0 18) (w32 ((w32 (28 + (w32 (7 * x1)))) + 0)) x6) x0 18) (w32 ((w32 (28 + (w32 (7 * x1)))) + 1)) x7) x0 18) (w32 ((w32 (28 + (w32 (7 * x1)))) + 2)) x8) x0 18) (w32 ((w32 (28 + (w32 (7 * x1)))) + 3)) x9) x0 18) (w32 ((w32 (28 + (w32 (7 * x1)))) + 4)) x10) x0 18)).1 = 20 ∧ 0 ≤ (w32 ((w32 (28 + (w32 (7 * x1)))) + 5)) ∧ (w32 ((w32 (28 + (w32 (7 * x1)))) + 5)) < (kd ((stm (stm (stm (stm (stm (stm h.2 (h.2 x0 15) (w32 (4 + x1)) x2) ((stm h.2 (h.2 x0 15) (w32 (4 + x1)) x2) x0 18) (w32 ((w32 (28 + (w32 (7 * x1)))) + 0)) x6) ((stm (stm h.2 (h.2 x0 15) (w32 (4 + x1)) x2) ((stm h.2 (h.2 x0 15) (w32 (4 + x1)) x2) x0 18) (w32 ((w32 (28 + (w32 (7 * x1)))) + 0)) x6) x0 18) (w32 ((w32 (28 + (w32 (7 * x1)))) + 1)) x7) ((stm (stm (stm h.2 (h.2 x0 15) (w32 (4 + x1)) x2) ((stm h.2 (h.2 x0 15) (w32 (4 + x1)) x2) x0 18) (w32 ((w32 (28 + (w32 (7 * x1)))) + 0)) x6) ((stm (stm h.2 (h.2 x0 15) (w32 (4 + x1)) x2) ((stm h.2 (h.2 x0 15) (w32 (4 + x1)) x2) x0 18) (w32 ((w32 (28 + (w32 (7 * x1)))) + 0)) x6) x0 18) (w32 ((w32 (28 + (w32 (7 * x1)))) + 1)) x7) x0 18) (w32 ((w32 (28 + (w32 (7 * x1)))) + 2)) x8) ((stm (stm (stm (stm h.2 (h.2 x0 15) (w32 (4 + x1)) x2) ((stm h.2 (h.2 x0 15) (w32 (4 + x1)) x2) x0 18) (w32 ((w32 (28 + (w32 (7 * x1)))) + 0)) x6) ((stm (stm h.2 (h.2 x0 15) (w32 (4 + x1)) x2) ((stm h.2 (h.2 x0 15) (w32 (4 + x1)) x2) x0 18) (w32 ((w32 (28 + (w32 (7 * x1)))) + 0)) x6) x0 18) (w32 ((w32 (28 + (w32 (7 * x1)))) + 1)) x7) ((stm (stm (stm h.2 (h.2 x0 15) (w32 (4 + x1)) x2) ((stm h.2 (h.2 x0 15) (w32 (4 + x1)) x2) x0 18) (w32 ((w32 (28 + (w32 (7 * x1)))) + 0)) x6) ((stm (stm h.2 (h.2 x0 15) (w32 (4 + x1)) x2) ((stm h.2 (h.2 x0 15) (w32 (4 + x1)) x2) x0 18) (w32 ((w32 (28 + (w32 (7 * x1)))) + 0)) x6) x0 18) (w32 ((w32 (28 + (w32 (7 * x1)))) + 1)) x7) x0 18) (w32 ((w32 (28 + (w32 (7 * x1)))) + 2)) x8) x0 18) (w32 ((w32 (28 + (w32 (7 * x1)))) + 3)) x9) ((stm (stm (stm (stm (stm h.2 (h.2 x0 15) (w32 (4 + x1)) x2) ((stm h.2 (h.2 x0 15) (w32 (4 + x1)) x2) x0 18) (w32 ((w32 (28 + (w32 (7 * x1)))) + 0)) x6) ((stm (stm h.2 (h.2 x0 15) (w32 (4 + x1)) x2) ((stm h.2 (h.2 x0 15) (w32 (4 + x1)) x2) x0 18) (w32 ((w32 (28 + (w32 (7 * x1)))) + 0)) x6) x0 18) (w32 ((w32 (28 + (w32 (7 * x1)))) + 1)) x7) ((stm (stm (stm h.2 (h.2 x0 15) (w32 (4 + x1)) x2) ((stm h.2 (h.2 x0 15) (w32 (4 + x1)) x2) x0 18) (w32 ((w32 (28 + (w32 (7 * x1)))) + 0)) x6) ((stm (stm h.2 (h.2 x0 15) (w32 (4 + x1)) x2) ((stm h.2 (h.2 x0 15) (w32 (4 + x1)) x2) x0 18) (w32 ((w32 (28 + (w32 (7 * x1)))) + 0)) x6) x0 18) (w32 ((w32 (28 + (w32 (7 * x1)))) + 1)) x7) x0 18) (w32 ((w32 (28 + (w32 (7 * x1)))) + 2)) x8) ((stm (stm (stm (stm h.2 (h.2 x0 15) (w32 (4 + x1)) x2) ((stm h.2 (h.2 x0 15) (w32 (4 + x1)) x2) x0 18) (w32 ((w32 (28 + (w32 (7 * x1)))) + 0)) x6) ((stm (stm h.2 (h.2 x0 15) (w32 (4 + x1)) x2) ((stm h.2 (h.2 x0 15) (w32 (4 + x1)) x2) x0 18) (w32 ((w32 (28 + (w32 (7 * x1)))) + 0)) x6) x0 18) (w32 ((w32 (28 + (w32 (7 * x1)))) + 1)) x7) ((stm (stm (stm h.2 (h.2 x0 15) (w32 (4 + x1)) x2) ((stm h.2 (h.2 x0 15) (w32 (4 + x1)) x2) x0 18) (w32 ((w32 (28 + (w32 (7 * x1)))) + 0)) x6) ((stm (stm h.2 (h.2 x0 15) (w32 (4 + x1)) x2) ((stm h.2 (h.2 x0 15) (w32 (4 + x1)) x2) x0 18) (w32 ((w32 (28 + (w32 (7 * x1)))) + 0)) x6) x0 18) (w32 ((w32 (28 + (w32 (7 * x1)))) + 1)) x7) x0 18) (w32 ((w32 (28 + (w32 (7 * x1)))) + 2)) x8) x0 18) (w32 ((w32 (28 + (w32 (7 * x1)))) + 3)) x9) x0 18) (w32 ((w32 (28 + (w32 (7 * x1)))) + 4)) x10) x0 18)).2 then if 0 < x0 ∧ (kd x0).1 = 12 then if 0 < ((stm (stm (stm (stm (stm (stm (stm h.2 (h.2 x0 15) (w32 (4 + x1)) x2) ((stm h.2 (h.2 x0 15) (w32 (4 + x1)) x2) x0 18) (w32 ((w32 (28 + (w32 (7 * x1)))) + 0)) x6) ((stm (stm h.2 (h.2 x0 15) (w32 (4 + x1)) x2) ((stm h.2 (h.2 x0 15) (w32 (4 + x1)) x2) x0 18) (w32 ((w32 (28 + (w32 (7 * x1)))) + 0)) x6) x0 18) (w32 ((w32 (28 + (w32 (7 * x1)))) + 1)) x7) ((stm (stm (stm h.2 (h.2 x0 15) (w32 (4 + x1)) x2) ((stm h.2 (h.2 x0 15) (w32 (4 + x1)) x2) x0 18) (w32 ((w32 (28 + (w32 (7 * x1)))) + 0)) x6) ((stm (stm h.2 (h.2 x0 15) (w32 (4 + x1)) x2) ((stm h.2 (h.2 x0 15) (w32 (4 + x1)) x2) x0 18) (w32 ((w32 (28 + (w32 (7 * x1)))) + 0)) x6) x0 18) (w32 ((w32 (28 + (w32 (7 * x1)))) + 1)) x7) x0 18) (w32 ((w32 (28 + (w32 (7 * x1)))) + 2)) x8) ((stm (stm (stm (stm h.2 (h.2 x0 15) (w32 (4 + x1)) x2) ((stm h.2 (h.2 x0 15) (w32 (4 + x1)) x2) x0 18) (w32 ((w32 (28 + (w32 (7 * x1)))) + 0)) x6) ((stm (stm h.2 (h.2 x0 15) (w32 (4 + x1)) x2) ((stm h.2 (h.2 x0 15) (w32 (4 + x1)) x2) x0 18) (w32 ((w32 (28 + (w32 (7 * x1)))) + 0)) x6) x0 18) (w32 ((w32 (28 + (w32 (7 * x1)))) + 1)) x7) ((stm (stm (stm h.2 (h.2 x0 15) (w32 (4 + x1)) x2) ((stm h.2 (h.2 x0 15) (w32 (4 + x1)) x2) x0 18) (w32 ((w32 (28 + (w32 (7 * x1)))) + 0)) x6) ((stm (stm h.2 (h.2 x0 15) (w32 (4 + x1)) x2) ((stm h.2 (h.2 x0 15) (w32 (4 + x1)) x2) x0 18) (w32 ((w32 (28 + (w32 (7 * x1)))) + 0)) x6) x0 18) (w32 ((w32 (28 + (w32 (7 * x1)))) + 1)) x7) x0 18) (w32 ((w32 (28 + (w32 (7 * x1)))) + 2)) x8) x0 18) (w32 ((w32 (28 + (w32 (7 * x1)))) + 3)) x9) ((stm (stm (stm (stm (stm h.2 (h.2 x0 15) (w32 (4 + x1)) x2) ((stm h.2 (h.2 x0 15) (w32 (4 + x1)) x2) x0 18) (w32 ((w32 (28 + (w32 (7 * x1)))) + 0)) x6) ((stm (stm h.2 (h.2 x0 15) (w32 (4 + x1)) x2) ((stm h.2 (h.2 x0 15) (w32 (4 + x1)) x2) x0 18) (w32 ((w32 (28 + (w32 (7 * x1)))) + 0)) x6) x0 18) (w32 ((w32 (28 + (w32 (7 * x1)))) + 1)) x7) ((stm (stm (stm h.2 (h.2 x0 15) (w32 (4 + x1)) x2) ((stm h.2 (h.2 x0 15) (w32 (4 + x1)) x2) x0 18) (w32 ((w32 (28 + (w32 (7 * x1)))) + 0)) x6) ((stm (stm h.2 (h.2 x0 15) (w32 (4 + x1)) x2) ((stm h.2 (h.2 x0 15) (w32 (4 + x1)) x2) x0 18) (w32 ((w32 (28 + (w32 (7 * x1)))) + 0)) x6) x0 18) (w32 ((w32 (28 + (w32 (7 * x1)))) + 1)) x7) x0 18) (w32 ((w32 (28 + (w32 (7 * x1)))) + 2)) x8) ((stm (stm (stm (stm h.2 (h.2 x0 15) (w32 (4 + x1)) x2) ((stm h.2 (h.2 x0 15) (w32 (4 + x1)) x2) x0 18) (w32 ((w32 (28 + (w32 (7 * x1)))) + 0)) x6) ((stm (stm h.2 (h.2 x0 15) (w32 (4 + x1)) x2) ((stm h.2 (h.2 x0 15) (w32 (4 + x1)) x2) x0 18) (w32 ((w32 (28 + (w32 (7 * x1)))) + 0)) x6) x0 18) (w32 ((w32 (28 + (w32 (7 * x1)))) + 1)) x7) ((stm (stm (stm h.2 (h.2 x0 15) (w32 (4 + x1)) x2) ((stm h.2 (h.2 x0 15) (w32 (4 + x1)) x2) x0 18) (w32 ((w32 (28 + (w32 (7 * x1)))) + 0)) x6) ((stm (stm h.2 (h.2 x0 15) (w32 (4 + x1)) x2) ((stm h.2 (h.2 x0 15) (w32 (4 + x1)) x2) x0 18) (w32 ((w32 (28 + (w32 (7 * x1)))) + 0)) x6) x0 18) (w32 ((w32 (28 + (w32 (7 * x1)))) + 1)) x7) x0 18) (w32 ((w32 (28 + (w32 (7 * x1)))) + 2)) x8) x0 18) (w32 ((w32 (28 + (w32 (7 * x1)))) + 3)) x9) x0 18) (w32 ((w32 (28 + (w32 (7 * x1)))) + 4)) x10) ((stm (stm (stm (stm (stm (stm h.2 (h.2 x0 15) (w32 (4 + x1)) x2) ((stm h.2 (h.2 x0 15) (w32 (4 + x1)) x2) x0 18) (w32 ((w32 (28 + (w32 (7 * x1)))) + 0)) x6) ((stm (stm h.2 (h.2 x0 15) (w32 (4 + x1)) x2) ((stm h.2 (h.2 x0 15) (w32 (4 + x1)) x2) x0 18) (w32 ((w32 (28 + (w32 (7 * x1)))) + 0)) x6) x0 18) (w32 ((w32 (28 + (w32 (7 * x1)))) + 1)) x7) ((stm (stm (stm h.2 (h.2 x0 15) (w32 (4 + x1)) x2) ((stm h.2 (h.2 x0 15) (w32 (4 + x1)) x2) x0 18) (w32 ((w32 (28 + (w32 (7 * x1)))) + 0)) x6) ((stm (stm h.2 (h.2 x0 15) (w32 (4 + x1)) x2) ((stm h.2 (h.2 x0 15) (w32 (4 + x1)) x2) x0 18) (w32 ((w32 (28 + (w32 (7 * x1)))) + 0)) x6) x0 18) (w32 ((w32 (28 + (w32 (7 * x1)))) + 1)) x7) x0 18) (w32 ((w32 (28 + (w32 (7 * x1)))) + 2)) x8) ((stm (stm (stm (stm h.2 (h.2 x0 15) (w32 (4 + x1)) x2) ((stm h.2 (h.2 x0 15) (w32 (4 + x1)) x2) x0 18) (w32 ((w32 (28 + (w32 (7 * x1)))) + 0)) x6) ((stm (stm h.2 (h.2 x0 15) (w32 (4 + x1)) x2) ((stm h.2 (h.2 x0 15) (w32 (4 + x1)) x2) x0 18) (w32 ((w32 (28 + (w32 (7 * x1)))) + 0)) x6) x0 18) (w32 ((w32 (28 + (w32 (7 * x1)))) + 1)) x7) ((stm (stm (stm h.2 (h.2 x0 15) (w32 (4 + x1)) x2) ((stm h.2 (h.2 x0 15) (w32 (4 + x1)) x2) x0 18) (w32 ((w32 (28 + (w32 (7 * x1)))) + 0)) x6) ((stm (stm h.2 (h.2 x0 15) (w32 (4 + x1)) x2) ((stm h.2 (h.2 x0 15) (w32 (4 + x1)) x2) x0 18) (w32 ((w32 (28 + (w32 (7 * x1)))) + 0)) x6) x0 18) (w32 ((w32 (28 + (w32 (7 * x1)))) + 1)) x7) x0 18) (w32 ((w32 (28 + (w32 (7 * x1)))) + 2)) x8) x0 18) (w32 ((w32 (28 + (w32 (7 * x1)))) + 3)) x9) ((stm (stm (stm (stm (stm h.2 (h.2 x0 15) (w32 (4 + x1)) x2) ((stm h.2 (h.2 x0 15) (w32 (4 + x1)) x2) x0 18) (w32 ((w32 (28 + (w32 (7 * x1)))) + 0)) x6) ((stm (stm h.2 (h.2 x0 15) (w32 (4 + x1)) x2) ((stm h.2 (h.2 x0 15) (w32 (4 + x1)) x2) x0 18) (w32 ((w32 (28 + (w32 (7 * x1)))) + 0)) x6) x0 18) (w32 ((w32 (28 + (w32 (7 * x1)))) + 1)) x7) ((stm (stm (stm h.2 (h.2 x0 15) (w32 (4 + x1)) x2) ((stm h.2 (h.2 x0 15) (w32 (4 + x1)) x2) x0 18) (w32 ((w32 (28 + (w32 (7 * x1)))) + 0)) x6) ((stm (stm h.2 (h.2 x0 15) (w32 (4 + x1)) x2) ((stm h.2 (h.2 x0 15) (w32 (4 + x1)) x2) x0 18) (w32 ((w32 (28 + (w32 (7 * x1)))) + 0)) x6) x0 18) (w32 ((w32 (28 + (w32 (7 * x1)))) + 1)) x7) x0 18) (w32 ((w32 (28 + (w32 (7 * x1)))) + 2)) x8) ((stm (stm (stm (stm h.2 (h.2 x0 15) (w32 (4 + x1)) x2) ((stm h.2 (h.2 x0 15) (w32 (4 + x1)) x2) x0 18) (w32 ((w32 (28 + (w32 (7 * x1)))) + 0)) x6) ((stm (stm h.2 (h.2 x0 15) (w32 (4 + x1)) x2) ((stm h.2 (h.2 x0 15) (w32 (4 + x1)) x2) x0 18) (w32 ((w32 (28 + (w32 (7 * x1)))) + 0)) x6) x0 18) (w32 ((w32 (28 + (w32 (7 * x1)))) + 1)) x7) ((stm (stm (stm h.2 (h.2 x0 15) (w32 (4 + x1)) x2) ((stm h.2 (h.2 x0 15) (w32 (4 + x1)) x2) x0 18) (w32 ((w32 (28 + (w32 (7 * x1)))) + 0)) x6) ((stm (stm h.2 (h.2 x0 15) (w32 (4 + x1)) x2) ((stm h.2 (h.2 x0 15) (w32 (4 + x1)) x2) x0 18) (w32 ((w32 (28 + (w32 (7 * x1)))) + 0)) x6) x0 18) (w32 ((w32 (28 + (w32 (7 * x1)))) + 1)) x7) x0 18) (w32 ((w32 (28 + (w32 (7 * x1)))) + 2)) x8) x0 18) (w32 ((w32 (28 + (w32 (7 * x1)))) + 3)) x9) x0 18) (w32 ((w32 (28 + (w32 (7 * x1)))) + 4)) x10) x0 18) (w32 ((w32 (28 + (w32 (7 * x1)))) + 5)) x11) x0 18) ∧ (kd ((stm (stm (stm (stm (stm (stm (stm h.2 (h.2 x0 15) (w32 (4 + x1)) x2) ((stm h.2 (h.2 x0 15) (w32 (4 + x1)) x2) x0 18) (w32 ((w32 (28 + (w32 (7 * x1)))) + 0)) x6) ((stm (stm h.2 (h.2 x0 15) (w32 (4 + x1)) x2) ((stm h.2 (h.2 x0 15) (w32 (4 + x1)) x2) x0 18) (w32 ((w32 (28 + (w32 (7 * x1)))) + 0)) x6) x0 18) (w32 ((w32 (28 + (w32 (7 * x1)))) + 1)) x7) ((stm (stm (stm h.2 (h.2 x0 15) (w32 (4 + x1)) x2) ((stm h.2 (h.2 x0 15) (w32 (4 + x1)) x2) x0 18) (w32 ((w32 (28 + (w32 (7 * x1)))) + 0)) x6) ((stm (stm h.2 (h.2 x0 15) (w32 (4 + x1)) x2) ((stm h.2 (h.2 x0 15) (w32 (4 + x1)) x2) x0 18) (w32 ((w32 (28 + (w32 (7 * x1)))) + 0)) x6) x0 18) (w32 ((w32 (28 + (w32 (7 * x1)))) + 1)) x7) x0 18) (w32 ((w32 (28 + (w32 (7 * x1)))) + 2)) x8) ((stm (stm (stm (stm h.2 (h.2 x0 15) (w32 (4 + x1)) x2) ((stm h.2 (h.2 x0 15) (w32 (4 + x1)) x2) x0 18) (w32 ((w32 (28 + (w32 (7 * x1)))) + 0)) x6) ((stm (stm h.2 (h.2 x0 15) (w32 (4 + x1)) x2) ((stm h.2 (h.2 x0 15) (w32 (4 + x1)) x2) x0 18) (w32 ((w32 (28 + (w32 (7 * x1)))) + 0)) x6) x0 18) (w32 ((w32 (28 + (w32 (7 * x1)))) + 1)) x7) ((stm (stm (stm h.2 (h.2 x0 15) (w32 (4 + x1)) x2) ((stm h.2 (h.2 x0 15) (w32 (4 + x1)) x2) x0 18) (w32 ((w32 (28 + (w32 (7 * x1)))) + 0)) x6) ((stm (stm h.2 (h.2 x0 15) (w32 (4 + x1)) x2) ((stm h.2 (h.2 x0 15) (w32 (4 + x1)) x2) x0 18) (w32 ((w32 (28 + (w32 (7 * x1)))) + 0)) x6) x0 18) (w32 ((w32 (28 + (w32 (7 * x1)))) + 1)) x7) x0 18) (w32 ((w32 (28 + (w32 (7 * x1)))) + 2)) x8) x0 18) (w32 ((w32 (28 + (w32 (7 * x1)))) + 3)) x9) ((stm (stm (stm (stm (stm h.2 (h.2 x0 15) (w32 (4 + x1)) x2) ((stm h.2 (h.2 x0 15) (w32 (4 + x1)) x2) x0 18) (w32 ((w32 (28 + (w32 (7 * x1)))) + 0)) x6) ((stm (stm h.2 (h.2 x0 15) (w32 (4 + x1)) x2) ((stm h.2 (h.2 x0 15) (w32 (4 + x1)) x2) x0 18) (w32 ((w32 (28 + (w32 (7 * x1)))) + 0)) x6) x0 18) (w32 ((w32 (28 + (w32 (7 * x1)))) + 1)) x7) ((stm (stm (stm h.2 (h.2 x0 15) (w32 (4 + x1)) x2) ((stm h.2 (h.2 x0 15) (w32 (4 + x1)) x2) x0 18) (w32 ((w32 (28 + (w32 (7 * x1)))) + 0)) x6) ((stm (stm h.2 (h.2 x0 15) (w32 (4 + x1)) x2) ((stm h.2 (h.2 x0 15) (w32 (4 + x1)) x2) x0 18) (w32 ((w32 (28 + (w32 (7 * x1)))) + 0)) x6) x0 18) (w32 ((w32 (28 + (w32 (7 * x1)))) + 1)) x7) x0 18) (w32 ((w32 (28 + (w32 (7 * x1)))) + 2)) x8) ((stm (stm (stm (stm h.2 (h.2 x0 15) (w32 (4 + x1)) x2) ((stm h.2 (h.2 x0 15) (w32 (4 + x1)) x2) x0 18) (w32 ((w32 (28 + (w32 (7 * x1)))) + 0)) x6) ((stm (stm h.2 (h.2 x0 15) (w32 (4 + x1)) x2) ((stm h.2 (h.2 x0 15) (w32 (4 + x1)) x2) x0 18) (w32 ((w32 (28 + (w32 (7 * x1)))) + 0)) x6) x0 18) (w32 ((w32 (28 + (w32 (7 * x1)))) + 1)) x7) ((stm (stm (stm h.2 (h.2 x0 15) (w32 (4 + x1)) x2) ((stm h.2 (h.2 x0 15) (w32 (4 + x1)) x2) x0 18) (w32 ((w32 (28 + (w32 (7 * x1)))) + 0)) x6) ((stm (stm h.2 (h.2 x0 15) (w32 (4 + x1)) x2) ((stm h.2 (h.2 x0 15) (w32 (4 + x1)) x2) x0 18) (w32 ((w32 (28 + (w32 (7 * x1)))) + 0)) x6) x0 18) (w32 ((w32 (28 + (w32 (7 * x1)))) + 1)) x7) x0 18) (w32 ((w32 (28 + (w32 (7 * x1)))) + 2)) x8) x0 18) (w32 ((w32 (28 + (w32 (7 * x1)))) + 3)) x9) x0 18) (w32 ((w32 (28 + (w32 (7 * x1)))) + 4)) x10) ((stm (stm (stm (stm (stm (stm h.2 (h.2 x0 15) (w32 (4 + x1)) x2) ((stm h.2 (h.2 x0 15) (w32 (4 + x1)) x2) x0 18) (w32 ((w32 (28 + (w32 (7 * x1)))) + 0)) x6) ((stm (stm h.2 (h.2 x0 15) (w32 (4 + x1)) x2) ((stm h.2 (h.2 x0 15) (w32 (4 + x1)) x2) x0 18) (w32 ((w32 (28 + (w32 (7 * x1)))) + 0)) x6) x0 18) (w32 ((w32 (28 + (w32 (7 * x1)))) + 1)) x7) ((stm (stm (stm h.2 (h.2 x0 15) (w32 (4 + x1)) x2) ((stm h.2 (h.2 x0 15) (w32 (4 + x1)) x2) x0 18) (w32 ((w32 (28 + (w32 (7 * x1)))) + 0)) x6) ((stm (stm h.2 (h.2 x0 15) (w32 (4 + x1)) x2) ((stm h.2 (h.2 x0 15) (w32 (4 + x1)) x2) x0 18) (w32 ((w32 (28 + (w32 (7 * x1)))) + 0)) x6) x0 18) (w32 ((w32 (28 + (w32 (7 * x1)))) + 1)) x7) x0 18) (w32 ((w32 (28 + (w32 (7 * x1)))) + 2)) x8) ((stm (stm (stm (stm h.2 (h.2 x0 15) (w32 (4 + x1)) x2) ((stm h.2 (h.2 x0 15) (w32 (4 + x1)) x2) x0 18) (w32 ((w32 (28 + (w32 (7 * x1)))) + 0)) x6) ((stm (stm h.2 (h.2 x0 15) (w32 (4 + x1)) x2) ((stm h.2 (h.2 x0 15) (w32 (4 + x1)) x2) x0 18) (w32 ((w32 (28 + (w32 (7 * x1)))) + 0)) x6) x0 18) (w32 ((w32 (28 + (w32 (7 * x1)))) + 1)) x7) ((stm (stm (stm h.2 (h.2 x0 15) (w32 (4 + x1)) x2) ((stm h.2 (h.2 x0 15) (w32 (4 + x1)) x2) x0 18) (w32 ((w32 (28 + (w32 (7 * x1)))) + 0)) x6) ((stm (stm h.2 (h.2 x0 15) (w32 (4 + x1)) x2) ((stm h.2 (h.2 x0 15) (w32 (4 + x1)) x2) x0 18) (w32 ((w32 (28 + (w32 (7 * x1)))) + 0)) x6) x0 18) (w32 ((w32 (28 + (w32 (7 * x1)))) + 1)) x7) x0 18) (w32 ((w32 (28 + (w32 (7 * x1)))) + 2)) x8) x0 18) (w32 ((w32 (28 + (w32 (7 * x1)))) + 3)) x9) ((stm (stm (stm (stm (stm h.2 (h.2 x0 15) (w32 (4 + x1)) x2) ((stm h.2 (h.2 x0 15) (w32 (4 + x1)) x2) x0 18) (w32 ((w32 (28 + (w32 (7 * x1)))) + 0)) x6) ((stm (stm h.2 (h.2 x0 15) (w32 (4 + x1)) x2) ((stm h.2 (h.2 x0 15) (w32 (4 + x1)) x2) x0 18) (w32 ((w32 (28 + (w32 (7 * x1)))) + 0)) x6) x0 18) (w32 ((w32 (28 + (w32 (7 * x1)))) + 1)) x7) ((stm (stm (stm h.2 (h.2 x0 15) (w32 (4 + x1)) x2) ((stm h.2 (h.2 x0 15) (w32 (4 + x1)) x2) x0 18) (w32 ((w32 (28 + (w32 (7 * x1)))) + 0)) x6) ((stm (stm h.2 (h.2 x0 15) (w32 (4 + x1)) x2) ((stm h.2 (h.2 x0 15) (w32 (4 + x1)) x2) x0 18) (w32 ((w32 (28 + (w32 (7 * x1)))) + 0)) x6) x0 18) (w32 ((w32 (28 + (w32 (7 * x1)))) + 1)) x7) x0 18) (w32 ((w32 (28 + (w32 (7 * x1)))) + 2)) x8) ((stm (stm (stm (stm h.2 (h.2 x0 15) (w32 (4 + x1)) x2) ((stm h.2 (h.2 x0 15) (w32 (4 + x1)) x2) x0 18) (w32 ((w32 (28 + (w32 (7 * x1)))) + 0)) x6) ((stm (stm h.2 (h.2 x0 15) (w32 (4 + x1)) x2) ((stm h.2 (h.2 x0 15) (w32 (4 + x1)) x2) x0 18) (w32 ((w32 (28 + (w32 (7 * x1)))) + 0)) x6) x0 18) (w32 ((w32 (28 + (w32 (7 * x1)))) + 1)) x7) ((stm (stm (stm h.2 (h.2 x0 15) (w32 (4 + x1)) x2) ((stm h.2 (h.2 x0 15) (w32 (4 + x1)) x2) x0 18) (w32 ((w32 (28 + (w32 (7 * x1)))) + 0)) x6) ((stm (stm h.2 (h.2 x0 15) (w32 (4 + x1)) x2) ((stm h.2 (h.2 x0 15) (w32 (4 + x1)) x2) x0 18) (w32 ((w32 (28 + (w32 (7 * x1)))) + 0)) x6) x0 18) (w32 ((w32 (28 + (w32 (7 * x1)))) + 1)) x7) x0 18) (w32 ((w32 (28 + (w32 (7 * x1)))) + 2)) x8) x0 18) (w32 ((w32 (28 + (w32 (7 * x1)))) + 3)) x9) x0 18) (w32 ((w32 (28 + (w32 (7 * x1)))) + 4)) x10) x0 18) (w32 ((w32 (28 + (w32 (7 * x1)))) + 5)) x11) x0 18)).1 = 20 ∧ 0 ≤ (w32 ((w32 (28 + (w32 (7 * x1)))) + 6)) ∧ (w32 ((w32 (28 + (w32 (7 * x1)))) + 6)) < (kd ((stm (stm (stm (stm (stm (stm (stm h.2 (h.2 x0 15) (w32 (4 + x1)) x2) ((stm h.2 (h.2 x0 15) (w32 (4 + x1)) x2) x0 18) (w32 ((w32 (28 + (w32 (7 * x1)))) + 0)) x6) ((stm (stm h.2 (h.2 x0 15) (w32 (4 + x1)) x2) ((stm h.2 (h.2 x0 15) (w32 (4 + x1)) x2) x0 18) (w32 ((w32 (28 + (w32 (7 * x1)))) + 0)) x6) x0 18) (w32 ((w32 (28 + (w32 (7 * x1)))) + 1)) x7) ((stm (stm (stm h.2 (h.2 x0 15) (w32 (4 + x1)) x2) ((stm h.2 (h.2 x0 15) (w32 (4 + x1)) x2) x0 18) (w32 ((w32 (28 + (w32 (7 * x1)))) + 0)) x6) ((stm (stm h.2 (h.2 x0 15) (w32 (4 + x1)) x2) ((stm h.2 (h.2 x0 15) (w32 (4 + x1)) x2) x0 18) (w32 ((w32 (28 + (w32 (7 * x1)))) + 0)) x6) x0 18) (w32 ((w32 (28 + (w32 (7 * x1)))) + 1)) x7) x0 18) (w32 ((w32 (28 + (w32 (7 * x1)))) + 2)) x8) ((stm (stm (stm (stm h.2 (h.2 x0 15) (w32 (4 + x1)) x2) ((stm h.2 (h.2 x0 15) (w32 (4 + x1)) x2) x0 18) (w32 ((w32 (28 + (w32 (7 * x1)))) + 0)) x6) ((stm (stm h.2 (h.2 x0 15) (w32 (4 + x1)) x2) ((stm h.2 (h.2 x0 15) (w32 (4 + x1)) x2) x0 18) (w32 ((w32 (28 + (w32 (7 * x1)))) + 0)) x6) x0 18) (w32 ((w32 (28 + (w32 (7 * x1)))) + 1)) x7) ((stm (stm (stm h.2 (h.2 x0 15) (w32 (4 + x1)) x2) ((stm h.2 (h.2 x0 15) (w32 (4 + x1)) x2) x0 18) (w32 ((w32 (28 + (w32 (7 * x1)))) + 0)) x6) ((stm (stm h.2 (h.2 x0 15) (w32 (4 + x1)) x2) ((stm h.2 (h.2 x0 15) (w32 (4 + x1)) x2) x0 18) (w32 ((w32 (28 + (w32 (7 * x1)))) + 0)) x6) x0 18) (w32 ((w32 (28 + (w32 (7 * x1)))) + 1)) x7) x0 18) (w32 ((w32 (28 + (w32 (7 * x1)))) + 2)) x8) x0 18) (w32 ((w32 (28 + (w32 (7 * x1)))) + 3)) x9) ((stm (stm (stm (stm (stm h.2 (h.2 x0 15) (w32 (4 + x1)) x2) ((stm h.2 (h.2 x0 15) (w32 (4 + x1)) x2) x0 18) (w32 ((w32 (28 + (w32 (7 * x1)))) + 0)) x6) ((stm (stm h.2 (h.2 x0 15) (w32 (4 + x1)) x2) ((stm h.2 (h.2 x0 15) (w32 (4 + x1)) x2) x0 18) (w32 ((w32 (28 + (w32 (7 * x1)))) + 0)) x6) x0 18) (w32 ((w32 (28 + (w32 (7 * x1)))) + 1)) x7) ((stm (stm (stm h.2 (h.2 x0 15) (w32 (4 + x1)) x2) ((stm h.2 (h.2 x0 15) (w32 (4 + x1)) x2) x0 18) (w32 ((w32 (28 + (w32 (7 * x1)))) + 0)) x6) ((stm (stm h.2 (h.2 x0 15) (w32 (4 + x1)) x2) ((stm h.2 (h.2 x0 15) (w32 (4 + x1)) x2) x0 18) (w32 ((w32 (28 + (w32 (7 * x1)))) + 0)) x6) x0 18) (w32 ((w32 (28 + (w32 (7 * x1)))) + 1)) x7) x0 18) (w32 ((w32 (28 + (w32 (7 * x1)))) + 2)) x8) ((stm (stm (stm (stm h.2 (h.2 x0 15) (w32 (4 + x1)) x2) ((stm h.2 (h.2 x0 15) (w32 (4 + x1)) x2) x0 18) (w32 ((w32 (28 + (w32 (7 * x1)))) + 0)) x6) ((stm (stm h.2 (h.2 x0 15) (w32 (4 + x1)) x2) ((stm h.2 (h.2 x0 15) (w32 (4 + x1)) x2) x0 18) (w32 ((w32 (28 + (w32 (7 * x1)))) + 0)) x6) x0 18) (w32 ((w32 (28 + (w32 (7 * x1)))) + 1)) x7) ((stm (stm (stm h.2 (h.2 x0 15) (w32 (4 + x1)) x2) ((stm h.2 (h.2 x0 15) (w32 (4 + x1)) x2) x0 18) (w32 ((w32 (28 + (w32 (7 * x1)))) + 0)) x6) ((stm (stm h.2 (h.2 x0 15) (w32 (4 + x1)) x2) ((stm h.2 (h.2 x0 15) (w32 (4 + x1)) x2) x0 18) (w32 ((w32 (28 + (w32 (7 * x1)))) + 0)) x6) x0 18) (w32 ((w32 (28 + (w32 (7 * x1)))) + 1)) x7) x0 18) (w32 ((w32 (28 + (w32 (7 * x1)))) + 2)) x8) x0 18) (w32 ((w32 (28 + (w32 (7 * x1)))) + 3)) x9) x0 18) (w32 ((w32 (28 + (w32 (7 * x1)))) + 4)) x10) ((stm (stm (stm (stm (stm (stm h.2 (h.2 x0 15) (w32 (4 + x1)) x2) ((stm h.2 (h.2 x0 15) (w32 (4 + x1)) x2) x0 18) (w32 ((w32 (28 + (w32 (7 * x1)))) + 0)) x6) ((stm (stm h.2 (h.2 x0 15) (w32 (4 + x1)) x2) ((stm h.2 (h.2 x0 15) (w32 (4 + x1)) x2) x0 18) (w32 ((w32 (28 + (w32 (7 * x1)))) + 0)) x6) x0 18) (w32 ((w32 (28 + (w32 (7 * x1)))) + 1)) x7) ((stm (stm (stm h.2 (h.2 x0 15) (w32 (4 + x1)) x2) ((stm h.2 (h.2 x0 15) (w32 (4 + x1)) x2) x0 18) (w32 ((w32 (28 + (w32 (7 * x1)))) + 0)) x6) ((stm (stm h.2 (h.2 x0 15) (w32 (4 + x1)) x2) ((stm h.2 (h.2 x0 15) (w32 (4 + x1)) x2) x0 18) (w32 ((w32 (28 + (w32 (7 * x1)))) + 0)) x6) x0 18) (w32 ((w32 (28 + (w32 (7 * x1)))) + 1)) x7) x0 18) (w32 ((w32 (28 + (w32 (7 * x1)))) + 2)) x8) ((stm (stm (stm (stm h.2 (h.2 x0 15) (w32 (4 + x1)) x2) ((stm h.2 (h.2 x0 15) (w32 (4 + x1)) x2) x0 18) (w32 ((w32 (28 + (w32 (7 * x1)))) + 0)) x6) ((stm (stm h.2 (h.2 x0 15) (w32 (4 + x1)) x2) ((stm h.2 (h.2 x0 15) (w32 (4 + x1)) x2) x0 18) (w32 ((w32 (28 + (w32 (7 * x1)))) + 0)) x6) x0 18) (w32 ((w32 (28 + (w32 (7 * x1)))) + 1)) x7) ((stm (stm (stm h.2 (h.2 x0 15) (w32 (4 + x1)) x2) ((stm h.2 (h.2 x0 15) (w32 (4 + x1)) x2) x0 18) (w32 ((w32 (28 + (w32 (7 * x1)))) + 0)) x6) ((stm (stm h.2 (h.2 x0 15) (w32 (4 + x1)) x2) ((stm h.2 (h.2 x0 15) (w32 (4 + x1)) x2) x0 18) (w32 ((w32 (28 + (w32 (7 * x1)))) + 0)) x6) x0 18) (w32 ((w32 (28 + (w32 (7 * x1)))) + 1)) x7) x0 18) (w32 ((w32 (28 + (w32 (7 * x1)))) + 2)) x8) x0 18) (w32 ((w32 (28 + (w32 (7 * x1)))) + 3)) x9) ((stm (stm (stm (stm (stm h.2 (h.2 x0 15) (w32 (4 + x1)) x2) ((stm h.2 (h.2 x0 15) (w32 (4 + x1)) x2) x0 18) (w32 ((w32 (28 + (w32 (7 * x1)))) + 0)) x6) ((stm (stm h.2 (h.2 x0 15) (w32 (4 + x1)) x2) ((stm h.2 (h.2 x0 15) (w32 (4 + x1)) x2) x0 18) (w32 ((w32 (28 + (w32 (7 * x1)))) + 0)) x6) x0 18) (w32 ((w32 (28 + (w32 (7 * x1)))) + 1)) x7) ((stm (stm (stm h.2 (h.2 x0 15) (w32 (4 + x1)) x2) ((stm h.2 (h.2 x0 15) (w32 (4 + x1)) x2) x0 18) (w32 ((w32 (28 + (w32 (7 * x1)))) + 0)) x6) ((stm (stm h.2 (h.2 x0 15) (w32 (4 + x1)) x2) ((stm h.2 (h.2 x0 15) (w32 (4 + x1)) x2) x0 18) (w32 ((w32 (28 + (w32 (7 * x1)))) + 0)) x6) x0 18) (w32 ((w32 (28 + (w32 (7 * x1)))) + 1)) x7) x0 18) (w32 ((w32 (28 + (w32 (7 * x1)))) + 2)) x8) ((stm (stm (stm (stm h.2 (h.2 x0 15) (w32 (4 + x1)) x2) ((stm h.2 (h.2 x0 15) (w32 (4 + x1)) x2) x0 18) (w32 ((w32 (28 + (w32 (7 * x1)))) + 0)) x6) ((stm (stm h.2 (h.2 x0 15) (w32 (4 + x1)) x2) ((stm h.2 (h.2 x0 15) (w32 (4 + x1)) x2) x0 18) (w32 ((w32 (28 + (w32 (7 * x1)))) + 0)) x6) x0 18) (w32 ((w32 (28 + (w32 (7 * x1)))) + 1)) x7) ((stm (stm (stm h.2 (h.2 x0 15) (w32 (4 + x1)) x2) ((stm h.2 (h.2 x0 15) (w32 (4 + x1)) x2) x0 18) (w32 ((w32 (28 + (w32 (7 * x1)))) + 0)) x6) ((stm (stm h.2 (h.2 x0 15) (w32 (4 + x1)) x2) ((stm h.2 (h.2 x0 15) (w32 (4 + x1)) x2) x0 18) (w32 ((w32 (28 + (w32 (7 * x1)))) + 0)) x6) x0 18) (w32 ((w32 (28 + (w32 (7 * x1)))) + 1)) x7) x0 18) (w32 ((w32 (28 + (w32 (7 * x1)))) + 2)) x8) x0 18) (w32 ((w32 (28 + (w32 (7 * x1)))) + 3)) x9) x0 18) (w32 ((w32 (28 + (w32 (7 * x1)))) + 4)) x10) x0 18) (w32 ((w32 (28 + (w32 (7 * x1)))) + 5)) x11) x0 18)).2 then if 0 < x0 ∧ (kd x0).1 = 12 then if (kd ((stm (stm (stm (stm (stm (stm (stm (stm h.2 (h.2 x0 15) (w32 (4 + x1)) x2) ((stm h.2 (h.2 x0 15) (w32 (4 + x1)) x2) x0 18) (w32 ((w32 (28 + (w32 (7 * x1)))) + 0)) x6) ((stm (stm h.2 (h.2 x0 15) (w32 (4 + x1)) x2) ((stm h.2 (h.2 x0 15) (w32 (4 + x1)) x2) x0 18) (w32 ((w32 (28 + (w32 (7 * x1)))) + 0)) x6) x0 18) (w32 ((w32 (28 + (w32 (7 * x1)))) + 1)) x7) ((stm (stm (stm h.2 (h.2 x0 15) (w32 (4 + x1)) x2) ((stm h.2 (h.2 x0 15) (w32 (4 + x1)) x2) x0 18) (w32 ((w32 (28 + (w32 (7 * x1)))) + 0)) x6) ((stm (stm h.2 (h.2 x0 15) (w32 (4 + x1)) x2) ((stm h.2 (h.2 x0 15) (w32 (4 + x1)) x2) x0 18) (w32 ((w32 (28 + (w32 (7 * x1)))) + 0)) x6) x0 18) (w32 ((w32 (28 + (w32 (7 * x1)))) + 1)) x7) x0 18) (w32 ((w32 (28 + (w32 (7 * x1)))) + 2)) x8) ((stm (stm (stm (stm h.2 (h.2 x0 15) (w32 (4 + x1)) x2) ((stm h.2 (h.2 x0 15) (w32 (4 + x1)) x2) x0 18) (w32 ((w32 (28 + (w32 (7 * x1)))) + 0)) x6) ((stm (stm h.2 (h.2 x0 15) (w32 (4 + x1)) x2) ((stm h.2 (h.2 x0 15) (w32 (4 + x1)) x2) x0 18) (w32 ((w32 (28 + (w32 (7 * x1)))) + 0)) x6) x0 18) (w32 ((w32 (28 + (w32 (7 * x1)))) + 1)) x7) ((stm (stm (stm h.2 (h.2 x0 15) (w32 (4 + x1)) x2) ((stm h.2 (h.2 x0 15) (w32 (4 + x1)) x2) x0 18) (w32 ((w32 (28 + (w32 (7 * x1)))) + 0)) x6) ((stm (stm h.2 (h.2 x0 15) (w32 (4 + x1)) x2) ((stm h.2 (h.2 x0 15) (w32 (4 + x1)) x2) x0 18) (w32 ((w32 (28 + (w32 (7 * x1)))) + 0)) x6) x0 18) (w32 ((w32 (28 + (w32 (7 * x1)))) + 1)) x7) x0 18) (w32 ((w32 (28 + (w32 (7 * x1)))) + 2)) x8) x0 18) (w32 ((w32 (28 + (w32 (7 * x1)))) + 3)) x9) ((stm (stm (stm (stm (stm h.2 (h.2 x0 15) (w32 (4 + x1)) x2) ((stm h.2 (h.2 x0 15) (w32 (4 + x1)) x2) x0 18) (w32 ((w32 (28 + (w32 (7 * x1)))) + 0)) x6) ((stm (stm h.2 (h.2 x0 15) (w32 (4 + x1)) x2) ((stm h.2 (h.2 x0 15) (w32 (4 + x1)) x2) x0 18) (w32 ((w32 (28 + (w32 (7 * x1)))) + 0)) x6) x0 18) (w32 ((w32 (28 + (w32 (7 * x1)))) + 1)) x7) ((stm (stm (stm h.2 (h.2 x0 15) (w32 (4 + x1)) x2) ((stm h.2 (h.2 x0 15) (w32 (4 + x1)) x2) x0 18) (w32 ((w32 (28 + (w32 (7 * x1)))) + 0)) x6) ((stm (stm h.2 (h.2 x0 15) (w32 (4 + x1)) x2) ((stm h.2 (h.2 x0 15) (w32 (4 + x1)) x2) x0 18) (w32 ((w32 (28 + (w32 (7 * x1)))) + 0)) x6) x0 18) (w32 ((w32 (28 + (w32 (7 * x1)))) + 1)) x7) x0 18) (w32 ((w32 (28 + (w32 (7 * x1)))) + 2)) x8) ((stm (stm (stm (stm h.2 (h.2 x0 15) (w32 (4 + x1)) x2) ((stm h.2 (h.2 x0 15) (w32 (4 + x1)) x2) x0 18) (w32 ((w32 (28 + (w32 (7 * x1)))) + 0)) x6) ((stm (stm h.2 (h.2 x0 15) (w32 (4 + x1)) x2) ((stm h.2 (h.2 x0 15) (w32 (4 + x1)) x2) x0 18) (w32 ((w32 (28 + (w32 (7 * x1)))) + 0)) x6) x0 18) (w32 ((w32 (28 + (w32 (7 * x1)))) + 1)) x7) ((stm (stm (stm h.2 (h.2 x0 15) (w32 (4 + x1)) x2) ((stm h.2 (h.2 x0 15) (w32 (4 + x1)) x2) x0 18) (w32 ((w32 (28 + (w32 (7 * x1)))) + 0)) x6) ((stm (stm h.2 (h.2 x0 15) (w32 (4 + x1)) x2) ((stm h.2 (h.2 x0 15) (w32 (4 + x1)) x2) x0 18) (w32 ((w32 (28 + (w32 (7 * x1)))) + 0)) x6) x0 18) (w32 ((w32 (28 + (w32 (7 * x1)))) + 1)) x7) x0 18) (w32 ((w32 (28 + (w32 (7 * x1)))) + 2)) x8) x0 18) (w32 ((w32 (28 + (w32 (7 * x1)))) + 3)) x9) x0 18) (w32 ((w32 (28 + (w32 (7 * x1)))) + 4)) x10) ((stm (stm (stm (stm (stm (stm h.2 (h.2 x0 15) (w32 (4 + x1)) x2) ((stm h.2 (h.2 x0 15) (w32 (4 + x1)) x2) x0 18) (w32 ((w32 (28 + (w32 (7 * x1)))) + 0)) x6) ((stm (stm h.2 (h.2 x0 15) (w32 (4 + x1)) x2) ((stm h.2 (h.2 x0 15) (w32 (4 + x1)) x2) x0 18) (w32 ((w32 (28 + (w32 (7 * x1)))) + 0)) x6) x0 18) (w32 ((w32 (28 + (w32 (7 * x1)))) + 1)) x7) ((stm (stm (stm h.2 (h.2 x0 15) (w32 (4 + x1)) x2) ((stm h.2 (h.2 x0 15) (w32 (4 + x1)) x2) x0 18) (w32 ((w32 (28 + (w32 (7 * x1)))) + 0)) x6) ((stm (stm h.2 (h.2 x0 15) (w32 (4 + x1)) x2) ((stm h.2 (h.2 x0 15) (w32 (4 + x1)) x2) x0 18) (w32 ((w32 (28 + (w32 (7 * x1)))) + 0)) x6) x0 18) (w32 ((w32 (28 + (w32 (7 * x1)))) + 1)) x7) x0 18) (w32 ((w32 (28 + (w32 (7 * x1)))) + 2)) x8) ((stm (stm (stm (stm h.2 (h.2 x0 15) (w32 (4 + x1)) x2) ((stm h.2 (h.2 x0 15) (w32 (4 + x1)) x2) x0 18) (w32 ((w32 (28 + (w32 (7 * x1)))) + 0)) x6) ((stm (stm h.2 (h.2 x0 15) (w32 (4 + x1)) x2) ((stm h.2 (h.2 x0 15) (w32 (4 + x1)) x2) x0 18) (w32 ((w32 (28 + (w32 (7 * x1)))) + 0)) x6) x0 18) (w32 ((w32 (28 + (w32 (7 * x1)))) + 1)) x7) ((stm (stm (stm h.2 (h.2 x0 15) (w32 (4 + x1)) x2) ((stm h.2 (h.2 x0 15) (w32 (4 + x1)) x2) x0 18) (w32 ((w32 (28 + (w32 (7 * x1)))) + 0)) x6) ((stm (stm h.2 (h.2 x0 15) (w32 (4 + x1)) x2) ((stm h.2 (h.2 x0 15) (w32 (4 + x1)) x2) x0 18) (w32 ((w32 (28 + (w32 (7 * x1)))) + 0)) x6) x0 18) (w32 ((w32 (28 + (w32 (7 * x1)))) + 1)) x7) x0 18) (w32 ((w32 (28 + (w32 (7 * x1)))) + 2)) x8) x0 18) (w32 ((w32 (28 + (w32 (7 * x1)))) + 3)) x9) ((stm (stm (stm (stm (stm h.2 (h.2 x0 15) (w32 (4 + x1)) x2) ((stm h.2 (h.2 x0 15) (w32 (4 + x1)) x2) x0 18) (w32 ((w32 (28 + (w32 (7 * x1)))) + 0)) x6) ((stm (stm h.2 (h.2 x0 15) (w32 (4 + x1)) x2) ((stm h.2 (h.2 x0 15) (w32 (4 + x1)) x2) x0 18) (w32 ((w32 (28 + (w32 (7 * x1)))) + 0)) x6) x0 18) (w32 ((w32 (28 + (w32 (7 * x1)))) + 1)) x7) ((stm (stm (stm h.2 (h.2 x0 15) (w32 (4 + x1)) x2) ((stm h.2 (h.2 x0 15) (w32 (4 + x1)) x2) x0 18) (w32 ((w32 (28 + (w32 (7 * x1)))) + 0)) x6) ((stm (stm h.2 (h.2 x0 15) (w32 (4 + x1)) x2) ((stm h.2 (h.2 x0 15) (w32 (4 + x1)) x2) x0 18) (w32 ((w32 (28 + (w32 (7 * x1)))) + 0)) x6) x0 18) (w32 ((w32 (28 + (w32 (7 * x1)))) + 1)) x7) x0 18) (w32 ((w32 (28 + (w32 (7 * x1)))) + 2)) x8) ((stm (stm (stm (stm h.2 (h.2 x0 15) (w32 (4 + x1)) x2) ((stm h.2 (h.2 x0 15) (w32 (4 + x1)) x2) x0 18) (w32 ((w32 (28 + (w32 (7 * x1)))) + 0)) x6) ((stm (stm h.2 (h.2 x0 15) (w32 (4 + x1)) x2) ((stm h.2 (h.2 x0 15) (w32 (4 + x1)) x2) x0 18) (w32 ((w32 (28 + (w32 (7 * x1)))) + 0)) x6) x0 18) (w32 ((w32 (28 + (w32 (7 * x1)))) + 1)) x7) ((stm (stm (stm h.2 (h.2 x0 15) (w32 (4 + x1)) x2) ((stm h.2 (h.2 x0 15) (w32 (4 + x1)) x2) x0 18) (w32 ((w32 (28 + (w32 (7 * x1)))) + 0)) x6) ((stm (stm h.2 (h.2 x0 15) (w32 (4 + x1)) x2) ((stm h.2 (h.2 x0 15) (w32 (4 + x1)) x2) x0 18) (w32 ((w32 (28 + (w32 (7 * x1)))) + 0)) x6) x0 18) (w32 ((w32 (28 + (w32 (7 * x1)))) + 1)) x7) x0 18) (w32 ((w32 (28 + (w32 (7 * x1)))) + 2)) x8) x0 18) (w32 ((w32 (28 + (w32 (7 * x1)))) + 3)) x9) x0 18) (w32 ((w32 (28 + (w32 (7 * x1)))) + 4)) x10) x0 18) (w32 ((w32 (28 + (w32 (7 * x1)))) + 5)) x11) ((stm (stm (stm (stm (stm (stm (stm h.2 (h.2 x0 15) (w32 (4 + x1)) x2) ((stm h.2 (h.2 x0 15) (w32 (4 + x1)) x2) x0 18) (w32 ((w32 (28 + (w32 (7 * x1)))) + 0)) x6) ((stm (stm h.2 (h.2 x0 15) (w32 (4 + x1)) x2) ((stm h.2 (h.2 x0 15) (w32 (4 + x1)) x2) x0 18) (w32 ((w32 (28 + (w32 (7 * x1)))) + 0)) x6) x0 18) (w32 ((w32 (28 + (w32 (7 * x1)))) + 1)) x7) ((stm (stm (stm h.2 (h.2 x0 15) (w32 (4 + x1)) x2) ((stm h.2 (h.2 x0 15) (w32 (4 + x1)) x2) x0 18) (w32 ((w32 (28 + (w32 (7 * x1)))) + 0)) x6) ((stm (stm h.2 (h.2 x0 15) (w32 (4 + x1)) x2) ((stm h.2 (h.2 x0 15) (w32 (4 + x1)) x2) x0 18) (w32 ((w32 (28 + (w32 (7 * x1)))) + 0)) x6) x0 18) (w32 ((w32 (28 + (w32 (7 * x1)))) + 1)) x7) x0 18) (w32 ((w32 (28 + (w32 (7 * x1)))) + 2)) x8) ((stm (stm (stm (stm h.2 (h.2 x0 15) (w32 (4 + x1)) x2) ((stm h.2 (h.2 x0 15) (w32 (4 + x1)) x2) x0 18) (w32 ((w32 (28 + (w32 (7 * x1)))) + 0)) x6) ((stm (stm h.2 (h.2 x0 15) (w32 (4 + x1)) x2) ((stm h.2 (h.2 x0 15) (w32 (4 + x1)) x2) x0 18) (w32 ((w32 (28 + (w32 (7 * x1)))) + 0)) x6) x0 18) (w32 ((w32 (28 + (w32 (7 * x1)))) + 1)) x7) ((stm (stm (stm h.2 (h.2 x0 15) (w32 (4 + x1)) x2) ((stm h.2 (h.2 x0 15) (w32 (4 + x1)) x2) x0 18) (w32 ((w32 (28 + (w32 (7 * x1)))) + 0)) x6) ((stm (stm h.2 (h.2 x0 15) (w32 (4 + x1)) x2) ((stm h.2 (h.2 x0 15) (w32 (4 + x1)) x2) x0 18) (w32 ((w32 (28 + (w32 (7 * x1)))) + 0)) x6) x0 18) (w32 ((w32 (28 + (w32 (7 * x1)))) + 1)) x7) x0 18) (w32 ((w32 (28 + (w32 (7 * x1)))) + 2)) x8) x0 18) (w32 ((w32 (28 + (w32 (7 * x1)))) + 3)) x9) ((stm (stm (stm (stm (stm h.2 (h.2 x0 15) (w32 (4 + x1)) x2) ((stm h.2 (h.2 x0 15) (w32 (4 + x1)) x2) x0 18) (w32 ((w32 (28 + (w32 (7 * x1)))) + 0)) x6) ((stm (stm h.2 (h.2 x0 15) (w32 (4 + x1)) x2) ((stm h.2 (h.2 x0 15) (w32 (4 + x1)) x2) x0 18) (w32 ((w32 (28 + (w32 (7 * x1)))) + 0)) x6) x0 18) (w32 ((w32 (28 + (w32 (7 * x1)))) + 1)) x7) ((stm (stm (stm h.2 (h.2 x0 15) (w32 (4 + x1)) x2) ((stm h.2 (h.2 x0 15) (w32 (4 + x1)) x2) x0 18) (w32 ((w32 (28 + (w32 (7 * x1)))) + 0)) x6) ((stm (stm h.2 (h.2 x0 15) (w32 (4 + x1)) x2) ((stm h.2 (h.2 x0 15) (w32 (4 + x1)) x2) x0 18) (w32 ((w32 (28 + (w32 (7 * x1)))) + 0)) x6) x0 18) (w32 ((w32 (28 + (w32 (7 * x1)))) + 1)) x7) x0 18) (w32 ((w32 (28 + (w32 (7 * x1)))) + 2)) x8) ((stm (stm (stm (stm h.2 (h.2 x0 15) (w32 (4 + x1)) x2) ((stm h.2 (h.2 x0 15) (w32 (4 + x1)) x2) x0 18) (w32 ((w32 (28 + (w32 (7 * x1)))) + 0)) x6) ((stm (stm h.2 (h.2 x0 15) (w32 (4 + x1)) x2) ((stm h.2 (h.2 x0 15) (w32 (4 + x1)) x2) x0 18) (w32 ((w32 (28 + (w32 (7 * x1)))) + 0)) x6) x0 18) (w32 ((w32 (28 + (w32 (7 * x1)))) + 1)) x7) ((stm (stm (stm h.2 (h.2 x0 15) (w32 (4 + x1)) x2) ((stm h.2 (h.2 x0 15) (w32 (4 + x1)) x2) x0 18) (w32 ((w32 (28 + (w32 (7 * x1)))) + 0)) x6) ((stm (stm h.2 (h.2 x0 15) (w32 (4 + x1)) x2) ((stm h.2 (h.2 x0 15) (w32 (4 + x1)) x2) x0 18) (w32 ((w32 (28 + (w32 (7 * x1)))) + 0)) x6) x0 18) (w32 ((w32 (28 + (w32 (7 * x1)))) + 1)) x7) x0 18) (w32 ((w32 (28 + (w32 (7 * x1)))) + 2)) x8) x0 18) (w32 ((w32 (28 + (w32 (7 * x1)))) + 3)) x9) x0 18) (w32 ((w32 (28 + (w32 (7 * x1)))) + 4)) x10) ((stm (stm (stm (stm (stm (stm h.2 (h.2 x0 15) (w32 (4 + x1)) x2) ((stm h.2 (h.2 x0 15) (w32 (4 + x1)) x2) x0 18) (w32 ((w32 (28 + (w32 (7 * x1)))) + 0)) x6) ((stm (stm h.2 (h.2 x0 15) (w32 (4 + x1)) x2) ((stm h.2 (h.2 x0 15) (w32 (4 + x1)) x2) x0 18) (w32 ((w32 (28 + (w32 (7 * x1)))) + 0)) x6) x0 18) (w32 ((w32 (28 + (w32 (7 * x1)))) + 1)) x7) ((stm (stm (stm h.2 (h.2 x0 15) (w32 (4 + x1)) x2) ((stm h.2 (h.2 x0 15) (w32 (4 + x1)) x2) x0 18) (w32 ((w32 (28 + (w32 (7 * x1)))) + 0)) x6) ((stm (stm h.2 (h.2 x0 15) (w32 (4 + x1)) x2) ((stm h.2 (h.2 x0 15) (w32 (4 + x1)) x2) x0 18) (w32 ((w32 (28 + (w32 (7 * x1)))) + 0)) x6) x0 18) (w32 ((w32 (28 + (w32 (7 * x1)))) + 1)) x7) x0 18) (w32 ((w32 (28 + (w32 (7 * x1)))) + 2)) x8) ((stm (stm (stm (stm h.2 (h.2 x0 15) (w32 (4 + x1)) x2) ((stm h.2 (h.2 x0 15) (w32 (4 + x1)) x2) x0 18) (w32 ((w32 (28 + (w32 (7 * x1)))) + 0)) x6) ((stm (stm h.2 (h.2 x0 15) (w32 (4 + x1)) x2) ((stm h.2 (h.2 x0 15) (w32 (4 + x1)) x2) x0 18) (w32 ((w32 (28 + (w32 (7 * x1)))) + 0)) x6) x0 18) (w32 ((w32 (28 + (w32 (7 * x1)))) + 1)) x7) ((stm (stm (stm h.2 (h.2 x0 15) (w32 (4 + x1)) x2) ((stm h.2 (h.2 x0 15) (w32 (4 + x1)) x2) x0 18) (w32 ((w32 (28 + (w32 (7 * x1)))) + 0)) x6) ((stm (stm h.2 (h.2 x0 15) (w32 (4 + x1)) x2) ((stm h.2 (h.2 x0 15) (w32 (4 + x1)) x2) x0 18) (w32 ((w32 (28 + (w32 (7 * x1)))) + 0)) x6) x0 18) (w32 ((w32 (28 + (w32 (7 * x1)))) + 1)) x7) x0 18) (w32 ((w32 (28 + (w32 (7 * x1)))) + 2)) x8) x0 18) (w32 ((w32 (28 + (w32 (7 * x1)))) + 3)) x9) ((stm (stm (stm (stm (stm h.2 (h.2 x0 15) (w32 (4 + x1)) x2) ((stm h.2 (h.2 x0 15) (w32 (4 + x1)) x2) x0 18) (w32 ((w32 (28 + (w32 (7 * x1)))) + 0)) x6) ((stm (stm h.2 (h.2 x0 15) (w32 (4 + x1)) x2) ((stm h.2 (h.2 x0 15) (w32 (4 + x1)) x2) x0 18) (w32 ((w32 (28 + (w32 (7 * x1)))) + 0)) x6) x0 18) (w32 ((w32 (28 + (w32 (7 * x1)))) + 1)) x7) ((stm (stm (stm h.2 (h.2 x0 15) (w32 (4 + x1)) x2) ((stm h.2 (h.2 x0 15) (w32 (4 + x1)) x2) x0 18) (w32 ((w32 (28 + (w32 (7 * x1)))) + 0)) x6) ((stm (stm h.2 (h.2 x0 15) (w32 (4 + x1)) x2) ((stm h.2 (h.2 x0 15) (w32 (4 + x1)) x2) x0 18) (w32 ((w32 (28 + (w32 (7 * x1)))) + 0)) x6) x0 18) (w32 ((w32 (28 + (w32 (7 * x1)))) + 1)) x7) x0 18) (w32 ((w32 (28 + (w32 (7 * x1)))) + 2)) x8) ((stm (stm (stm (stm h.2 (h.2 x0 15) (w32 (4 + x1)) x2) ((stm h.2 (h.2 x0 15) (w32 (4 + x1)) x2) x0 18) (w32 ((w32 (28 + (w32 (7 * x1)))) + 0)) x6) ((stm (stm h.2 (h.2 x0 15) (w32 (4 + x1)) x2) ((stm h.2 (h.2 x0 15) (w32 (4 + x1)) x2) x0 18) (w32 ((w32 (28 + (w32 (7 * x1)))) + 0)) x6) x0 18) (w32 ((w32 (28 + (w32 (7 * x1)))) + 1)) x7) ((stm (stm (stm h.2 (h.2 x0 15) (w32 (4 + x1)) x2) ((stm h.2 (h.2 x0 15) (w32 (4 + x1)) x2) x0 18) (w32 ((w32 (28 + (w32 (7 * x1)))) + 0)) x6) ((stm (stm h.2 (h.2 x0 15) (w32 (4 + x1)) x2) ((stm h.2 (h.2 x0 15) (w32 (4 + x1)) x2) x0 18) (w32 ((w32 (28 + (w32 (7 * x1)))) + 0)) x6) x0 18) (w32 ((w32 (28 + (w32 (7 * x1)))) + 1)) x7) x0 18) (w32 ((w32 (28 + (w32 (7 * x1)))) + 2)) x8) x0 18) (w32 ((w32 (28 + (w32 (7 * x1)))) + 3)) x9) x0 18) (w32 ((w32 (28 + (w32 (7 * x1)))) + 4)) x10) x0 18) (w32 ((w32 (28 + (w32 (7 * x1)))) + 5)) x11) x0 18) (w32 ((w32 (28 + (w32 (7 * x1)))) + 6)) x12) x0 13)).1 = 20 ∧ 0 ≤ (9 : Int) ∧ (9 : Int) < (kd ((stm (stm (stm (stm (stm (stm (stm (stm h.2 (h.2 x0 15) (w32 (4 + x1)) x2) ((stm h.2 (h.2 x0 15) (w32 (4 + x1)) x2) x0 18) (w32 ((w32 (28 + (w32 (7 * x1)))) + 0)) x6) ((stm (stm h.2 (h.2 x0 15) (w32 (4 + x1)) x2) ((stm h.2 (h.2 x0 15) (w32 (4 + x1)) x2) x0 18) (w32 ((w32 (28 + (w32 (7 * x1)))) + 0)) x6) x0 18) (w32 ((w32 (28 + (w32 (7 * x1)))) + 1)) x7) ((stm (stm (stm h.2 (h.2 x0 15) (w32 (4 + x1)) x2) ((stm h.2 (h.2 x0 15) (w32 (4 + x1)) x2) x0 18) (w32 ((w32 (28 + (w32 (7 * x1)))) + 0)) x6) ((stm (stm h.2 (h.2 x0 15) (w32 (4 + x1)) x2) ((stm h.2 (h.2 x0 15) (w32 (4 + x1)) x2) x0 18) (w32 ((w32 (28 + (w32 (7 * x1)))) + 0)) x6) x0 18) (w32 ((w32 (28 + (w32 (7 * x1)))) + 1)) x7) x0 18) (w32 ((w32 (28 + (w32 (7 * x1)))) + 2)) x8) ((stm (stm (stm (stm h.2 (h.2 x0 15) (w32 (4 + x1)) x2) ((stm h.2 (h.2 x0 15) (w32 (4 + x1)) x2) x0 18) (w32 ((w32 (28 + (w32 (7 * x1)))) + 0)) x6) ((stm (stm h.2 (h.2 x0 15) (w32 (4 + x1)) x2) ((stm h.2 (h.2 x0 15) (w32 (4 + x1)) x2) x0 18) (w32 ((w32 (28 + (w32 (7 * x1)))) + 0)) x6) x0 18) (w32 ((w32 (28 + (w32 (7 * x1)))) + 1)) x7) ((stm (stm (stm h.2 (h.2 x0 15) (w32 (4 + x1)) x2) ((stm h.2 (h.2 x0 15) (w32 (4 + x1)) x2) x0 18) (w32 ((w32 (28 + (w32 (7 * x1)))) + 0)) x6) ((stm (stm h.2 (h.2 x0 15) (w32 (4 + x1)) x2) ((stm h.2 (h.2 x0 15) (w32 (4 + x1)) x2) x0 18) (w32 ((w32 (28 + (w32 (7 * x1)))) + 0)) x6) x0 18) (w32 ((w32 (28 + (w32 (7 * x1)))) + 1)) x7) x0 18) (w32 ((w32 (28 + (w32 (7 * x1)))) + 2)) x8) x0 18) (w32 ((w32 (28 + (w32 (7 * x1)))) + 3)) x9) ((stm (stm (stm (stm (stm h.2 (h.2 x0 15) (w32 (4 + x1)) x2) ((stm h.2 (h.2 x0 15) (w32 (4 + x1)) x2) x0 18) (w32 ((w32 (28 + (w32 (7 * x1)))) + 0)) x6) ((stm (stm h.2 (h.2 x0 15) (w32 (4 + x1)) x2) ((stm h.2 (h.2 x0 15) (w32 (4 + x1)) x2) x0 18) (w32 ((w32 (28 + (w32 (7 * x1)))) + 0)) x6) x0 18) (w32 ((w32 (28 + (w32 (7 * x1)))) + 1)) x7) ((stm (stm (stm h.2 (h.2 x0 15) (w32 (4 + x1)) x2) ((stm h.2 (h.2 x0 15) (w32 (4 + x1)) x2) x0 18) (w32 ((w32 (28 + (w32 (7 * x1)))) + 0)) x6) ((stm (stm h.2 (h.2 x0 15) (w32 (4 + x1)) x2) ((stm h.2 (h.2 x0 15) (w32 (4 + x1)) x2) x0 18) (w32 ((w32 (28 + (w32 (7 * x1)))) + 0)) x6) x0 18) (w32 ((w32 (28 + (w32 (7 * x1)))) + 1)) x7) x0 18) (w32 ((w32 (28 + (w32 (7 * x1)))) + 2)) x8) ((stm (stm (stm (stm h.2 (h.2 x0 15) (w32 (4 + x1)) x2) ((stm h.2 (h.2 x0 15) (w32 (4 + x1)) x2) x0 18) (w32 ((w32 (28 + (w32 (7 * x1)))) + 0)) x6) ((stm (stm h.2 (h.2 x0 15) (w32 (4 + x1)) x2) ((stm h.2 (h.2 x0 15) (w32 (4 + x1)) x2) x0 18) (w32 ((w32 (28 + (w32 (7 * x1)))) + 0)) x6) x0 18) (w32 ((w32 (28 + (w32 (7 * x1)))) + 1)) x7) ((stm (stm (stm h.2 (h.2 x0 15) (w32 (4 + x1)) x2) ((stm h.2 (h.2 x0 15) (w32 (4 + x1)) x2) x0 18) (w32 ((w32 (28 + (w32 (7 * x1)))) + 0)) x6) ((stm (stm h.2 (h.2 x0 15) (w32 (4 + x1)) x2) ((stm h.2 (h.2 x0 15) (w32 (4 + x1)) x2) x0 18) (w32 ((w32 (28 + (w32 (7 * x1)))) + 0)) x6) x0 18) (w32 ((w32 (28 + (w32 (7 * x1)))) + 1)) x7) x0 18) (w32 ((w32 (28 + (w32 (7 * x1)))) + 2)) x8) x0 18) (w32 ((w32 (28 + (w32 (7 * x1)))) + 3)) x9) x0 18) (w32 ((w32 (28 + (w32 (7 * x1)))) + 4)) x10) ((stm (stm (stm (stm (stm (stm h.2 (h.2 x0 15) (w32 (4 + x1)) x2) ((stm h.2 (h.2 x0 15) (w32 (4 + x1)) x2) x0 18) (w32 ((w32 (28 + (w32 (7 * x1)))) + 0)) x6) ((stm (stm h.2 (h.2 x0 15) (w32 (4 + x1)) x2) ((stm h.2 (h.2 x0 15) (w32 (4 + x1)) x2) x0 18) (w32 ((w32 (28 + (w32 (7 * x1)))) + 0)) x6) x0 18) (w32 ((w32 (28 + (w32 (7 * x1)))) + 1)) x7) ((stm (stm (stm h.2 (h.2 x0 15) (w32 (4 + x1)) x2) ((stm h.2 (h.2 x0 15) (w32 (4 + x1)) x2) x0 18) (w32 ((w32 (28 + (w32 (7 * x1)))) + 0)) x6) ((stm (stm h.2 (h.2 x0 15) (w32 (4 + x1)) x2) ((stm h.2 (h.2 x0 15) (w32 (4 + x1)) x2) x0 18) (w32 ((w32 (28 + (w32 (7 * x1)))) + 0)) x6) x0 18) (w32 ((w32 (28 + (w32 (7 * x1)))) + 1)) x7) x0 18) (w32 ((w32 (28 + (w32 (7 * x1)))) + 2)) x8) ((stm (stm (stm (stm h.2 (h.2 x0 15) (w32 (4 + x1)) x2) ((stm h.2 (h.2 x0 15) (w32 (4 + x1)) x2) x0 18) (w32 ((w32 (28 + (w32 (7 * x1)))) + 0)) x6) ((stm (stm h.2 (h.2 x0 15) (w32 (4 + x1)) x2) ((stm h.2 (h.2 x0 15) (w32 (4 + x1)) x2) x0 18) (w32 ((w32 (28 + (w32 (7 * x1)))) + 0)) x6) x0 18) (w32 ((w32 (28 + (w32 (7 * x1)))) + 1)) x7) ((stm (stm (stm h.2 (h.2 x0 15) (w32 (4 + x1)) x2) ((stm h.2 (h.2 x0 15) (w32 (4 + x1)) x2) x0 18) (w32 ((w32 (28 + (w32 (7 * x1)))) + 0)) x6) ((stm (stm h.2 (h.2 x0 15) (w32 (4 + x1)) x2) ((stm h.2 (h.2 x0 15) (w32 (4 + x1)) x2) x0 18) (w32 ((w32 (28 + (w32 (7 * x1)))) + 0)) x6) x0 18) (w32 ((w32 (28 + (w32 (7 * x1)))) + 1)) x7) x0 18) (w32 ((w32 (28 + (w32 (7 * x1)))) + 2)) x8) x0 18) (w32 ((w32 (28 + (w32 (7 * x1)))) + 3)) x9) ((stm (stm (stm (stm (stm h.2 (h.2 x0 15) (w32 (4 + x1)) x2) ((stm h.2 (h.2 x0 15) (w32 (4 + x1)) x2) x0 18) (w32 ((w32 (28 + (w32 (7 * x1)))) + 0)) x6) ((stm (stm h.2 (h.2 x0 15) (w32 (4 + x1)) x2) ((stm h.2 (h.2 x0 15) (w32 (4 + x1)) x2) x0 18) (w32 ((w32 (28 + (w32 (7 * x1)))) + 0)) x6) x0 18) (w32 ((w32 (28 + (w32 (7 * x1)))) + 1)) x7) ((stm (stm (stm h.2 (h.2 x0 15) (w32 (4 + x1)) x2) ((stm h.2 (h.2 x0 15) (w32 (4 + x1)) x2) x0 18) (w32 ((w32 (28 + (w32 (7 * x1)))) + 0)) x6) ((stm (stm h.2 (h.2 x0 15) (w32 (4 + x1)) x2) ((stm h.2 (h.2 x0 15) (w32 (4 + x1)) x2) x0 18) (w32 ((w32 (28 + (w32 (7 * x1)))) + 0)) x6) x0 18) (w32 ((w32 (28 + (w32 (7 * x1)))) + 1)) x7) x0 18) (w32 ((w32 (28 + (w32 (7 * x1)))) + 2)) x8) ((stm (stm (stm (stm h.2 (h.2 x0 15) (w32 (4 + x1)) x2) ((stm h.2 (h.2 x0 15) (w32 (4 + x1)) x2) x0 18) (w32 ((w32 (28 + (w32 (7 * x1)))) + 0)) x6) ((stm (stm h.2 (h.2 x0 15) (w32 (4 + x1)) x2) ((stm h.2 (h.2 x0 15) (w32 (4 + x1)) x2) x0 18) (w32 ((w32 (28 + (w32 (7 * x1)))) + 0)) x6) x0 18) (w32 ((w32 (28 + (w32 (7 * x1)))) + 1)) x7) ((stm (stm (stm h.2 (h.2 x0 15) (w32 (4 + x1)) x2) ((stm h.2 (h.2 x0 15) (w32 (4 + x1)) x2) x0 18) (w32 ((w32 (28 + (w32 (7 * x1)))) + 0)) x6) ((stm (stm h.2 (h.2 x0 15) (w32 (4 + x1)) x2) ((stm h.2 (h.2 x0 15) (w32 (4 + x1)) x2) x0 18) (w32 ((w32 (28 + (w32 (7 * x1)))) + 0)) x6) x0 18) (w32 ((w32 (28 + (w32 (7 * x1)))) + 1)) x7) x0 18) (w32 ((w32 (28 + (w32 (7 * x1)))) + 2)) x8) x0 18) (w32 ((w32 (28 + (w32 (7 * x1)))) + 3)) x9) x0 18) (w32 ((w32 (28 + (w32 (7 * x1)))) + 4)) x10) x0 18) (w32 ((w32 (28 + (w32 (7 * x1)))) + 5)) x11) ((stm (stm (stm (stm (stm (stm (stm h.2 (h.2 x0 15) (w32 (4 + x1)) x2) ((stm h.2 (h.2 x0 15) (w32 (4 + x1)) x2) x0 18) (w32 ((w32 (28 + (w32 (7 * x1)))) + 0)) x6) ((stm (stm h.2 (h.2 x0 15) (w32 (4 + x1)) x2) ((stm h.2 (h.2 x0 15) (w32 (4 + x1)) x2) x0 18) (w32 ((w32 (28 + (w32 (7 * x1)))) + 0)) x6) x0 18) (w32 ((w32 (28 + (w32 (7 * x1)))) + 1)) x7) ((stm (stm (stm h.2 (h.2 x0 15) (w32 (4 + x1)) x2) ((stm h.2 (h.2 x0 15) (w32 (4 + x1)) x2) x0 18) (w32 ((w32 (28 + (w32 (7 * x1)))) + 0)) x6) ((stm (stm h.2 (h.2 x0 15) (w32 (4 + x1)) x2) ((stm h.2 (h.2 x0 15) (w32 (4 + x1)) x2) x0 18) (w32 ((w32 (28 + (w32 (7 * x1)))) + 0)) x6) x0 18) (w32 ((w32 (28 + (w32 (7 * x1)))) + 1)) x7) x0 18) (w32 ((w32 (28 + (w32 (7 * x1)))) + 2)) x8) ((stm (stm (stm (stm h.2 (h.2 x0 15) (w32 (4 + x1)) x2) ((stm h.2 (h.2 x0 15) (w32 (4 + x1)) x2) x0 18) (w32 ((w32 (28 + (w32 (7 * x1)))) + 0)) x6) ((stm (stm h.2 (h.2 x0 15) (w32 (4 + x1)) x2) ((stm h.2 (h.2 x0 15) (w32 (4 + x1)) x2) x0 18) (w32 ((w32 (28 + (w32 (7 * x1)))) + 0)) x6) x0 18) (w32 ((w32 (28 + (w32 (7 * x1)))) + 1)) x7) ((stm (stm (stm h.2 (h.2 x0 15) (w32 (4 + x1)) x2) ((stm h.2 (h.2 x0 15) (w32 (4 + x1)) x2) x0 18) (w32 ((w32 (28 + (w32 (7 * x1)))) + 0)) x6) ((stm (stm h.2 (h.2 x0 15) (w32 (4 + x1)) x2) ((stm h.2 (h.2 x0 15) (w32 (4 + x1)) x2) x0 18) (w32 ((w32 (28 + (w32 (7 * x1)))) + 0)) x6) x0 18) (w32 ((w32 (28 + (w32 (7 * x1)))) + 1)) x7) x0 18) (w32 ((w32 (28 + (w32 (7 * x1)))) + 2)) x8) x0 18) (w32 ((w32 (28 + (w32 (7 * x1)))) + 3)) x9) ((stm (stm (stm (stm (stm h.2 (h.2 x0 15) (w32 (4 + x1)) x2) ((stm h.2 (h.2 x0 15) (w32 (4 + x1)) x2) x0 18) (w32 ((w32 (28 + (w32 (7 * x1)))) + 0)) x6) ((stm (stm h.2 (h.2 x0 15) (w32 (4 + x1)) x2) ((stm h.2 (h.2 x0 15) (w32 (4 + x1)) x2) x0 18) (w32 ((w32 (28 + (w32 (7 * x1)))) + 0)) x6) x0 18) (w32 ((w32 (28 + (w32 (7 * x1)))) + 1)) x7) ((stm (stm (stm h.2 (h.2 x0 15) (w32 (4 + x1)) x2) ((stm h.2 (h.2 x0 15) (w32 (4 + x1)) x2) x0 18) (w32 ((w32 (28 + (w32 (7 * x1)))) + 0)) x6) ((stm (stm h.2 (h.2 x0 15) (w32 (4 + x1)) x2) ((stm h.2 (h.2 x0 15) (w32 (4 + x1)) x2) x0 18) (w32 ((w32 (28 + (w32 (7 * x1)))) + 0)) x6) x0 18) (w32 ((w32 (28 + (w32 (7 * x1)))) + 1)) x7) x0 18) (w32 ((w32 (28 + (w32 (7 * x1)))) + 2)) x8) ((stm (stm (stm (stm h.2 (h.2 x0 15) (w32 (4 + x1)) x2) ((stm h.2 (h.2 x0 15) (w32 (4 + x1)) x2) x0 18) (w32 ((w32 (28 + (w32 (7 * x1)))) + 0)) x6) ((stm (stm h.2 (h.2 x0 15) (w32 (4 + x1)) x2) ((stm h.2 (h.2 x0 15) (w32 (4 + x1)) x2) x0 18) (w32 ((w32 (28 + (w32 (7 * x1)))) + 0)) x6) x0 18) (w32 ((w32 (28 + (w32 (7 * x1)))) + 1)) x7) ((stm (stm (stm h.2 (h.2 x0 15) (w32 (4 + x1)) x2) ((stm h.2 (h.2 x0 15) (w32 (4 + x1)) x2) x0 18) (w32 ((w32 (28 + (w32 (7 * x1)))) + 0)) x6) ((stm (stm h.2 (h.2 x0 15) (w32 (4 + x1)) x2) ((stm h.2 (h.2 x0 15) (w32 (4 + x1)) x2) x0 18) (w32 ((w32 (28 + (w32 (7 * x1)))) + 0)) x6) x0 18) (w32 ((w32 (28 + (w32 (7 * x1)))) + 1)) x7) x0 18) (w32 ((w32 (28 + (w32 (7 * x1)))) + 2)) x8) x0 18) (w32 ((w32 (28 + (w32 (7 * x1)))) + 3)) x9) x0 18) (w32 ((w32 (28 + (w32 (7 * x1)))) + 4)) x10) ((stm (stm (stm (stm (stm (stm h.2 (h.2 x0 15) (w32 (4 + x1)) x2) ((stm h.2 (h.2 x0 15) (w32 (4 + x1)) x2) x0 18) (w32 ((w32 (28 + (w32 (7 * x1)))) + 0)) x6) ((stm (stm h.2 (h.2 x0 15) (w32 (4 + x1)) x2) ((stm h.2 (h.2 x0 15) (w32 (4 + x1)) x2) x0 18) (w32 ((w32 (28 + (w32 (7 * x1)))) + 0)) x6) x0 18) (w32 ((w32 (28 + (w32 (7 * x1)))) + 1)) x7) ((stm (stm (stm h.2 (h.2 x0 15) (w32 (4 + x1)) x2) ((stm h.2 (h.2 x0 15) (w32 (4 + x1)) x2) x0 18) (w32 ((w32 (28 + (w32 (7 * x1)))) + 0)) x6) ((stm (stm h.2 (h.2 x0 15) (w32 (4 + x1)) x2) ((stm h.2 (h.2 x0 15) (w32 (4 + x1)) x2) x0 18) (w32 ((w32 (28 + (w32 (7 * x1)))) + 0)) x6) x0 18) (w32 ((w32 (28 + (w32 (7 * x1)))) + 1)) x7) x0 18) (w32 ((w32 (28 + (w32 (7 * x1)))) + 2)) x8) ((stm (stm (stm (stm h.2 (h.2 x0 15) (w32 (4 + x1)) x2) ((stm h.2 (h.2 x0 15) (w32 (4 + x1)) x2) x0 18) (w32 ((w32 (28 + (w32 (7 * x1)))) + 0)) x6) ((stm (stm h.2 (h.2 x0 15) (w32 (4 + x1)) x2) ((stm h.2 (h.2 x0 15) (w32 (4 + x1)) x2) x0 18) (w32 ((w32 (28 + (w32 (7 * x1)))) + 0)) x6) x0 18) (w32 ((w32 (28 + (w32 (7 * x1)))) + 1)) x7) ((stm (stm (stm h.2 (h.2 x0 15) (w32 (4 + x1)) x2) ((stm h.2 (h.2 x0 15) (w32 (4 + x1)) x2) x0 18) (w32 ((w32 (28 + (w32 (7 * x1)))) + 0)) x6) ((stm (stm h.2 (h.2 x0 15) (w32 (4 + x1)) x2) ((stm h.2 (h.2 x0 15) (w32 (4 + x1)) x2) x0 18) (w32 ((w32 (28 + (w32 (7 * x1)))) + 0)) x6) x0 18) (w32 ((w32 (28 + (w32 (7 * x1)))) + 1)) x7) x0 18) (w32 ((w32 (28 + (w32 (7 * x1)))) + 2)) x8) x0 18) (w32 ((w32 (28 + (w32 (7 * x1)))) + 3)) x9) ((stm (stm (stm (stm (stm h.2 (h.2 x0 15) (w32 (4 + x1)) x2) ((stm h.2 (h.2 x0 15) (w32 (4 + x1)) x2) x0 18) (w32 ((w32 (28 + (w32 (7 * x1)))) + 0)) x6) ((stm (stm h.2 (h.2 x0 15) (w32 (4 + x1)) x2) ((stm h.2 (h.2 x0 15) (w32 (4 + x1)) x2) x0 18) (w32 ((w32 (28 + (w32 (7 * x1)))) + 0)) x6) x0 18) (w32 ((w32 (28 + (w32 (7 * x1)))) + 1)) x7) ((stm (stm (stm h.2 (h.2 x0 15) (w32 (4 + x1)) x2) ((stm h.2 (h.2 x0 15) (w32 (4 + x1)) x2) x0 18) (w32 ((w32 (28 + (w32 (7 * x1)))) + 0)) x6) ((stm (stm h.2 (h.2 x0 15) (w32 (4 + x1)) x2) ((stm h.2 (h.2 x0 15) (w32 (4 + x1)) x2) x0 18) (w32 ((w32 (28 + (w32 (7 * x1)))) + 0)) x6) x0 18) (w32 ((w32 (28 + (w32 (7 * x1)))) + 1)) x7) x0 18) (w32 ((w32 (28 + (w32 (7 * x1)))) + 2)) x8) ((stm (stm (stm (stm h.2 (h.2 x0 15) (w32 (4 + x1)) x2) ((stm h.2 (h.2 x0 15) (w32 (4 + x1)) x2) x0 18) (w32 ((w32 (28 + (w32 (7 * x1)))) + 0)) x6) ((stm (stm h.2 (h.2 x0 15) (w32 (4 + x1)) x2) ((stm h.2 (h.2 x0 15) (w32 (4 + x1)) x2) x0 18) (w32 ((w32 (28 + (w32 (7 * x1)))) + 0)) x6) x0 18) (w32 ((w32 (28 + (w32 (7 * x1)))) + 1)) x7) ((stm (stm (stm h.2 (h.2 x0 15) (w32 (4 + x1)) x2) ((stm h.2 (h.2 x0 15) (w32 (4 + x1)) x2) x0 18) (w32 ((w32 (28 + (w32 (7 * x1)))) + 0)) x6) ((stm (stm h.2 (h.2 x0 15) (w32 (4 + x1)) x2) ((stm h.2 (h.2 x0 15) (w32 (4 + x1)) x2) x0 18) (w32 ((w32 (28 + (w32 (7 * x1)))) + 0)) x6) x0 18) (w32 ((w32 (28 + (w32 (7 * x1)))) + 1)) x7) x0 18) (w32 ((w32 (28 + (w32 (7 * x1)))) + 2)) x8) x0 18) (w32 ((w32 (28 + (w32 (7 * x1)))) + 3)) x9) x0 18) (w32 ((w32 (28 + (w32 (7 * x1)))) + 4)) x10) x0 18) (w32 ((w32 (28 + (w32 (7 * x1)))) + 5)) x11) x0 18) (w32 ((w32 (28 + (w32 (7 * x1)))) + 6)) x12) x0 13)).2 then if 0 < ((stm (stm (stm (stm (stm (stm (stm (stm h.2 (h.2 x0 15) (w32 (4 + x1)) x2) ((stm h.2 (h.2 x0 15) (w32 (4 + x1)) x2) x0 18) (w32 ((w32 (28 + (w32 (7 * x1)))) + 0)) x6) ((stm (stm h.2 (h.2 x0 15) (w32 (4 + x1)) x2) ((stm h.2 (h.2 x0 15) (w32 (4 + x1)) x2) x0 18) (w32 ((w32 (28 + (w32 (7 * x1)))) + 0)) x6) x0 18) (w32 ((w32 (28 + (w32 (7 * x1)))) + 1)) x7) ((stm (stm (stm h.2 (h.2 x0 15) (w32 (4 + x1)) x2) ((stm h.2 (h.2 x0 15) (w32 (4 + x1)) x2) x0 18) (w32 ((w32 (28 + (w32 (7 * x1)))) + 0)) x6) ((stm (stm h.2 (h.2 x0 15) (w32 (4 + x1)) x2) ((stm h.2 (h.2 x0 15) (w32 (4 + x1)) x2) x0 18) (w32 ((w32 (28 + (w32 (7 * x1)))) + 0)) x6) x0 18) (w32 ((w32 (28 + (w32 (7 * x1)))) + 1)) x7) x0 18) (w32 ((w32 (28 + (w32 (7 * x1)))) + 2)) x8) ((stm (stm (stm (stm h.2 (h.2 x0 15) (w32 (4 + x1)) x2) ((stm h.2 (h.2 x0 15) (w32 (4 + x1)) x2) x0 18) (w32 ((w32 (28 + (w32 (7 * x1)))) + 0)) x6) ((stm (stm h.2 (h.2 x0 15) (w32 (4 + x1)) x2) ((stm h.2 (h.2 x0 15) (w32 (4 + x1)) x2) x0 18) (w32 ((w32 (28 + (w32 (7 * x1)))) + 0)) x6) x0 18) (w32 ((w32 (28 + (w32 (7 * x1)))) + 1)) x7) ((stm (stm (stm h.2 (h.2 x0 15) (w32 (4 + x1)) x2) ((stm h.2 (h.2 x0 15) (w32 (4 + x1)) x2) x0 18) (w32 ((w32 (28 + (w32 (7 * x1)))) + 0)) x6) ((stm (stm h.2 (h.2 x0 15) (w32 (4 + x1)) x2) ((stm h.2 (h.2 x0 15) (w32 (4 + x1)) x2) x0 18) (w32 ((w32 (28 + (w32 (7 * x1)))) + 0)) x6) x0 18) (w32 ((w32 (28 + (w32 (7 * x1)))) + 1)) x7) x0 18) (w32 ((w32 (28 + (w32 (7 * x1)))) + 2)) x8) x0 18) (w32 ((w32 (28 + (w32 (7 * x1)))) + 3)) x9) ((stm (stm (stm (stm (stm h.2 (h.2 x0 15) (w32 (4 + x1)) x2) ((stm h.2 (h.2 x0 15) (w32 (4 + x1)) x2) x0 18) (w32 ((w32 (28 + (w32 (7 * x1)))) + 0)) x6) ((stm (stm h.2 (h.2 x0 15) (w32 (4 + x1)) x2) ((stm h.2 (h.2 x0 15) (w32 (4 + x1)) x2) x0 18) (w32 ((w32 (28 + (w32 (7 * x1)))) + 0)) x6) x0 18) (w32 ((w32 (28 + (w32 (7 * x1)))) + 1)) x7) ((stm (stm (stm h.2 (h.2 x0 15) (w32 (4 + x1)) x2) ((stm h.2 (h.2 x0 15) (w32 (4 + x1)) x2) x0 18) (w32 ((w32 (28 + (w32 (7 * x1)))) + 0)) x6) ((stm (stm h.2 (h.2 x0 15) (w32 (4 + x1)) x2) ((stm h.2 (h.2 x0 15) (w32 (4 + x1)) x2) x0 18) (w32 ((w32 (28 + (w32 (7 * x1)))) + 0)) x6) x0 18) (w32 ((w32 (28 + (w32 (7 * x1)))) + 1)) x7) x0 18) (w32 ((w32 (28 + (w32 (7 * x1)))) + 2)) x8) ((stm (stm (stm (stm h.2 (h.2 x0 15) (w32 (4 + x1)) x2) ((stm h.2 (h.2 x0 15) (w32 (4 + x1)) x2) x0 18) (w32 ((w32 (28 + (w32 (7 * x1)))) + 0)) x6) ((stm (stm h.2 (h.2 x0 15) (w32 (4 + x1)) x2) ((stm h.2 (h.2 x0 15) (w32 (4 + x1)) x2) x0 18) (w32 ((w32 (28 + (w32 (7 * x1)))) + 0)) x6) x0 18) (w32 ((w32 (28 + (w32 (7 * x1)))) + 1)) x7) ((stm (stm (stm h.2 (h.2 x0 15) (w32 (4 + x1)) x2) ((stm h.2 (h.2 x0 15) (w32 (4 + x1)) x2) x0 18) (w32 ((w32 (28 + (w32 (7 * x1)))) + 0)) x6) ((stm (stm h.2 (h.2 x0 15) (w32 (4 + x1)) x2) ((stm h.2 (h.2 x0 15) (w32 (4 + x1)) x2) x0 18) (w32 ((w32 (28 + (w32 (7 * x1)))) + 0)) x6) x0 18) (w32 ((w32 (28 + (w32 (7 * x1)))) + 1)) x7) x0 18) (w32 ((w32 (28 + (w32 (7 * x1)))) + 2)) x8) x0 18) (w32 ((w32 (28 + (w32 (7 * x1)))) + 3)) x9) x0 18) (w32 ((w32 (28 + (w32 (7 * x1)))) + 4)) x10) ((stm (stm (stm (stm (stm (stm h.2 (h.2 x0 15) (w32 (4 + x1)) x2) ((stm h.2 (h.2 x0 15) (w32 (4 + x1)) x2) x0 18) (w32 ((w32 (28 + (w32 (7 * x1)))) + 0)) x6) ((stm (stm h.2 (h.2 x0 15) (w32 (4 + x1)) x2) ((stm h.2 (h.2 x0 15) (w32 (4 + x1)) x2) x0 18) (w32 ((w32 (28 + (w32 (7 * x1)))) + 0)) x6) x0 18) (w32 ((w32 (28 + (w32 (7 * x1)))) + 1)) x7) ((stm (stm (stm h.2 (h.2 x0 15) (w32 (4 + x1)) x2) ((stm h.2 (h.2 x0 15) (w32 (4 + x1)) x2) x0 18) (w32 ((w32 (28 + (w32 (7 * x1)))) + 0)) x6) ((stm (stm h.2 (h.2 x0 15) (w32 (4 + x1)) x2) ((stm h.2 (h.2 x0 15) (w32 (4 + x1)) x2) x0 18) (w32 ((w32 (28 + (w32 (7 * x1)))) + 0)) x6) x0 18) (w32 ((w32 (28 + (w32 (7 * x1)))) + 1)) x7) x0 18) (w32 ((w32 (28 + (w32 (7 * x1)))) + 2)) x8) ((stm (stm (stm (stm h.2 (h.2 x0 15) (w32 (4 + x1)) x2) ((stm h.2 (h.2 x0 15) (w32 (4 + x1)) x2) x0 18) (w32 ((w32 (28 + (w32 (7 * x1)))) + 0)) x6) ((stm (stm h.2 (h.2 x0 15) (w32 (4 + x1)) x2) ((stm h.2 (h.2 x0 15) (w32 (4 + x1)) x2) x0 18) (w32 ((w32 (28 + (w32 (7 * x1)))) + 0)) x6) x0 18) (w32 ((w32 (28 + (w32 (7 * x1)))) + 1)) x7) ((stm (stm (stm h.2 (h.2 x0 15) (w32 (4 + x1)) x2) ((stm h.2 (h.2 x0 15) (w32 (4 + x1)) x2) x0 18) (w32 ((w32 (28 + (w32 (7 * x1)))) + 0)) x6) ((stm (stm h.2 (h.2 x0 15) (w32 (4 + x1)) x2) ((stm h.2 (h.2 x0 15) (w32 (4 + x1)) x2) x0 18) (w32 ((w32 (28 + (w32 (7 * x1)))) + 0)) x6) x0 18) (w32 ((w32 (28 + (w32 (7 * x1)))) + 1)) x7) x0 18) (w32 ((w32 (28 + (w32 (7 * x1)))) + 2)) x8) x0 18) (w32 ((w32 (28 + (w32 (7 * x1)))) + 3)) x9) ((stm (stm (stm (stm (stm h.2 (h.2 x0 15) (w32 (4 + x1)) x2) ((stm h.2 (h.2 x0 15) (w32 (4 + x1)) x2) x0 18) (w32 ((w32 (28 + (w32 (7 * x1)))) + 0)) x6) ((stm (stm h.2 (h.2 x0 15) (w32 (4 + x1)) x2) ((stm h.2 (h.2 x0 15) (w32 (4 + x1)) x2) x0 18) (w32 ((w32 (28 + (w32 (7 * x1)))) + 0)) x6) x0 18) (w32 ((w32 (28 + (w32 (7 * x1)))) + 1)) x7) ((stm (stm (stm h.2 (h.2 x0 15) (w32 (4 + x1)) x2) ((stm h.2 (h.2 x0 15) (w32 (4 + x1)) x2) x0 18) (w32 ((w32 (28 + (w32 (7 * x1)))) + 0)) x6) ((stm (stm h.2 (h.2 x0 15) (w32 (4 + x1)) x2) ((stm h.2 (h.2 x0 15) (w32 (4 + x1)) x2) x0 18) (w32 ((w32 (28 + (w32 (7 * x1)))) + 0)) x6) x0 18) (w32 ((w32 (28 + (w32 (7 * x1)))) + 1)) x7) x0 18) (w32 ((w32 (28 + (w32 (7 * x1)))) + 2)) x8) ((stm (stm (stm (stm h.2 (h.2 x0 15) (w32 (4 + x1)) x2) ((stm h.2 (h.2 x0 15) (w32 (4 + x1)) x2) x0 18) (w32 ((w32 (28 + (w32 (7 * x1)))) + 0)) x6) ((stm (stm h.2 (h.2 x0 15) (w32 (4 + x1)) x2) ((stm h.2 (h.2 x0 15) (w32 (4 + x1)) x2) x0 18) (w32 ((w32 (28 + (w32 (7 * x1)))) + 0)) x6) x0 18) (w32 ((w32 (28 + (w32 (7 * x1)))) + 1)) x7) ((stm (stm (stm h.2 (h.2 x0 15) (w32 (4 + x1)) x2) ((stm h.2 (h.2 x0 15) (w32 (4 + x1)) x2) x0 18) (w32 ((w32 (28 + (w32 (7 * x1)))) + 0)) x6) ((stm (stm h.2 (h.2 x0 15) (w32 (4 + x1)) x2) ((stm h.2 (h.2 x0 15) (w32 (4 + x1)) x2) x0 18) (w32 ((w32 (28 + (w32 (7 * x1)))) + 0)) x6) x0 18) (w32 ((w32 (28 + (w32 (7 * x1)))) + 1)) x7) x0 18) (w32 ((w32 (28 + (w32 (7 * x1)))) + 2)) x8) x0 18) (w32 ((w32 (28 + (w32 (7 * x1)))) + 3)) x9) x0 18) (w32 ((w32 (28 + (w32 (7 * x1)))) + 4)) x10) x0 18) (w32 ((w32 (28 + (w32 (7 * x1)))) + 5)) x11) ((stm (stm (stm (stm (stm (stm (stm h.2 (h.2 x0 15) (w32 (4 + x1)) x2) ((stm h.2 (h.2 x0 15) (w32 (4 + x1)) x2) x0 18) (w32 ((w32 (28 + (w32 (7 * x1)))) + 0)) x6) ((stm (stm h.2 (h.2 x0 15) (w32 (4 + x1)) x2) ((stm h.2 (h.2 x0 15) (w32 (4 + x1)) x2) x0 18) (w32 ((w32 (28 + (w32 (7 * x1)))) + 0)) x6) x0 18) (w32 ((w32 (28 + (w32 (7 * x1)))) + 1)) x7) ((stm (stm (stm h.2 (h.2 x0 15) (w32 (4 + x1)) x2) ((stm h.2 (h.2 x0 15) (w32 (4 + x1)) x2) x0 18) (w32 ((w32 (28 + (w32 (7 * x1)))) + 0)) x6) ((stm (stm h.2 (h.2 x0 15) (w32 (4 + x1)) x2) ((stm h.2 (h.2 x0 15) (w32 (4 + x1)) x2) x0 18) (w32 ((w32 (28 + (w32 (7 * x1)))) + 0)) x6) x0 18) (w32 ((w32 (28 + (w32 (7 * x1)))) + 1)) x7) x0 18) (w32 ((w32 (28 + (w32 (7 * x1)))) + 2)) x8) ((stm (stm (stm (stm h.2 (h.2 x0 15) (w32 (4 + x1)) x2) ((stm h.2 (h.2 x0 15) (w32 (4 + x1)) x2) x0 18) (w32 ((w32 (28 + (w32 (7 * x1)))) + 0)) x6) ((stm (stm h.2 (h.2 x0 15) (w32 (4 + x1)) x2) ((stm h.2 (h.2 x0 15) (w32 (4 + x1)) x2) x0 18) (w32 ((w32 (28 + (w32 (7 * x1)))) + 0)) x6) x0 18) (w32 ((w32 (28 + (w32 (7 * x1)))) + 1)) x7) ((stm (stm (stm h.2 (h.2 x0 15) (w32 (4 + x1)) x2) ((stm h.2 (h.2 x0 15) (w32 (4 + x1)) x2) x0 18) (w32 ((w32 (28 + (w32 (7 * x1)))) + 0)) x6) ((stm (stm h.2 (h.2 x0 15) (w32 (4 + x1)) x2) ((stm h.2 (h.2 x0 15) (w32 (4 + x1)) x2) x0 18) (w32 ((w32 (28 + (w32 (7 * x1)))) + 0)) x6) x0 18) (w32 ((w32 (28 + (w32 (7 * x1)))) + 1)) x7) x0 18) (w32 ((w32 (28 + (w32 (7 * x1)))) + 2)) x8) x0 18) (w32 ((w32 (28 + (w32 (7 * x1)))) + 3)) x9) ((stm (stm (stm (stm (stm h.2 (h.2 x0 15) (w32 (4 + x1)) x2) ((stm h.2 (h.2 x0 15) (w32 (4 + x1)) x2) x0 18) (w32 ((w32 (28 + (w32 (7 * x1)))) + 0)) x6) ((stm (stm h.2 (h.2 x0 15) (w32 (4 + x1)) x2) ((stm h.2 (h.2 x0 15) (w32 (4 + x1)) x2) x0 18) (w32 ((w32 (28 + (w32 (7 * x1)))) + 0)) x6) x0 18) (w32 ((w32 (28 + (w32 (7 * x1)))) + 1)) x7) ((stm (stm (stm h.2 (h.2 x0 15) (w32 (4 + x1)) x2) ((stm h.2 (h.2 x0 15) (w32 (4 + x1)) x2) x0 18) (w32 ((w32 (28 + (w32 (7 * x1)))) + 0)) x6) ((stm (stm h.2 (h.2 x0 15) (w32 (4 + x1)) x2) ((stm h.2 (h.2 x0 15) (w32 (4 + x1)) x2) x0 18) (w32 ((w32 (28 + (w32 (7 * x1)))) + 0)) x6) x0 18) (w32 ((w32 (28 + (w32 (7 * x1)))) + 1)) x7) x0 18) (w32 ((w32 (28 + (w32 (7 * x1)))) + 2)) x8) ((stm (stm (stm (stm h.2 (h.2 x0 15) (w32 (4 + x1)) x2) ((stm h.2 (h.2 x0 15) (w32 (4 + x1)) x2) x0 18) (w32 ((w32 (28 + (w32 (7 * x1)))) + 0)) x6) ((stm (stm h.2 (h.2 x0 15) (w32 (4 + x1)) x2) ((stm h.2 (h.2 x0 15) (w32 (4 + x1)) x2) x0 18) (w32 ((w32 (28 + (w32 (7 * x1)))) + 0)) x6) x0 18) (w32 ((w32 (28 + (w32 (7 * x1)))) + 1)) x7) ((stm (stm (stm h.2 (h.2 x0 15) (w32 (4 + x1)) x2) ((stm h.2 (h.2 x0 15) (w32 (4 + x1)) x2) x0 18) (w32 ((w32 (28 + (w32 (7 * x1)))) + 0)) x6) ((stm (stm h.2 (h.2 x0 15) (w32 (4 + x1)) x2) ((stm h.2 (h.2 x0 15) (w32 (4 + x1)) x2) x0 18) (w32 ((w32 (28 + (w32 (7 * x1)))) + 0)) x6) x0 18) (w32 ((w32 (28 + (w32 (7 * x1)))) + 1)) x7) x0 18) (w32 ((w32 (28 + (w32 (7 * x1)))) + 2)) x8) x0 18) (w32 ((w32 (28 + (w32 (7 * x1)))) + 3)) x9) x0 18) (w32 ((w32 (28 + (w32 (7 * x1)))) + 4)) x10) ((stm (stm (stm (stm (stm (stm h.2 (h.2 x0 15) (w32 (4 + x1)) x2) ((stm h.2 (h.2 x0 15) (w32 (4 + x1)) x2) x0 18) (w32 ((w32 (28 + (w32 (7 * x1)))) + 0)) x6) ((stm (stm h.2 (h.2 x0 15) (w32 (4 + x1)) x2) ((stm h.2 (h.2 x0 15) (w32 (4 + x1)) x2) x0 18) (w32 ((w32 (28 + (w32 (7 * x1)))) + 0)) x6) x0 18) (w32 ((w32 (28 + (w32 (7 * x1)))) + 1)) x7) ((stm (stm (stm h.2 (h.2 x0 15) (w32 (4 + x1)) x2) ((stm h.2 (h.2 x0 15) (w32 (4 + x1)) x2) x0 18) (w32 ((w32 (28 + (w32 (7 * x1)))) + 0)) x6) ((stm (stm h.2 (h.2 x0 15) (w32 (4 + x1)) x2) ((stm h.2 (h.2 x0 15) (w32 (4 + x1)) x2) x0 18) (w32 ((w32 (28 + (w32 (7 * x1)))) + 0)) x6) x0 18) (w32 ((w32 (28 + (w32 (7 * x1)))) + 1)) x7) x0 18) (w32 ((w32 (28 + (w32 (7 * x1)))) + 2)) x8) ((stm (stm (stm (stm h.2 (h.2 x0 15) (w32 (4 + x1)) x2) ((stm h.2 (h.2 x0 15) (w32 (4 + x1)) x2) x0 18) (w32 ((w32 (28 + (w32 (7 * x1)))) + 0)) x6) ((stm (stm h.2 (h.2 x0 15) (w32 (4 + x1)) x2) ((stm h.2 (h.2 x0 15) (w32 (4 + x1)) x2) x0 18) (w32 ((w32 (28 + (w32 (7 * x1)))) + 0)) x6) x0 18) (w32 ((w32 (28 + (w32 (7 * x1)))) + 1)) x7) ((stm (stm (stm h.2 (h.2 x0 15) (w32 (4 + x1)) x2) ((stm h.2 (h.2 x0 15) (w32 (4 + x1)) x2) x0 18) (w32 ((w32 (28 + (w32 (7 * x1)))) + 0)) x6) ((stm (stm h.2 (h.2 x0 15) (w32 (4 + x1)) x2) ((stm h.2 (h.2 x0 15) (w32 (4 + x1)) x2) x0 18) (w32 ((w32 (28 + (w32 (7 * x1)))) + 0)) x6) x0 18) (w32 ((w32 (28 + (w32 (7 * x1)))) + 1)) x7) x0 18) (w32 ((w32 (28 + (w32 (7 * x1)))) + 2)) x8) x0 18) (w32 ((w32 (28 + (w32 (7 * x1)))) + 3)) x9) ((stm (stm (stm (stm (stm h.2 (h.2 x0 15) (w32 (4 + x1)) x2) ((stm h.2 (h.2 x0 15) (w32 (4 + x1)) x2) x0 18) (w32 ((w32 (28 + (w32 (7 * x1)))) + 0)) x6) ((stm (stm h.2 (h.2 x0 15) (w32 (4 + x1)) x2) ((stm h.2 (h.2 x0 15) (w32 (4 + x1)) x2) x0 18) (w32 ((w32 (28 + (w32 (7 * x1)))) + 0)) x6) x0 18) (w32 ((w32 (28 + (w32 (7 * x1)))) + 1)) x7) ((stm (stm (stm h.2 (h.2 x0 15) (w32 (4 + x1)) x2) ((stm h.2 (h.2 x0 15) (w32 (4 + x1)) x2) x0 18) (w32 ((w32 (28 + (w32 (7 * x1)))) + 0)) x6) ((stm (stm h.2 (h.2 x0 15) (w32 (4 + x1)) x2) ((stm h.2 (h.2 x0 15) (w32 (4 + x1)) x2) x0 18) (w32 ((w32 (28 + (w32 (7 * x1)))) + 0)) x6) x0 18) (w32 ((w32 (28 + (w32 (7 * x1)))) + 1)) x7) x0 18) (w32 ((w32 (28 + (w32 (7 * x1)))) + 2)) x8) ((stm (stm (stm (stm h.2 (h.2 x0 15) (w32 (4 + x1)) x2) ((stm h.2 (h.2 x0 15) (w32 (4 + x1)) x2) x0 18) (w32 ((w32 (28 + (w32 (7 * x1)))) + 0)) x6) ((stm (stm h.2 (h.2 x0 15) (w32 (4 + x1)) x2) ((stm h.2 (h.2 x0 15) (w32 (4 + x1)) x2) x0 18) (w32 ((w32 (28 + (w32 (7 * x1)))) + 0)) x6) x0 18) (w32 ((w32 (28 + (w32 (7 * x1)))) + 1)) x7) ((stm (stm (stm h.2 (h.2 x0 15) (w32 (4 + x1)) x2) ((stm h.2 (h.2 x0 15) (w32 (4 + x1)) x2) x0 18) (w32 ((w32 (28 + (w32 (7 * x1)))) + 0)) x6) ((stm (stm h.2 (h.2 x0 15) (w32 (4 + x1)) x2) ((stm h.2 (h.2 x0 15) (w32 (4 + x1)) x2) x0 18) (w32 ((w32 (28 + (w32 (7 * x1)))) + 0)) x6) x0 18) (w32 ((w32 (28 + (w32 (7 * x1)))) + 1)) x7) x0 18) (w32 ((w32 (28 + (w32 (7 * x1)))) + 2)) x8) x0 18) (w32 ((w32 (28 + (w32 (7 * x1)))) + 3)) x9) x0 18) (w32 ((w32 (28 + (w32 (7 * x1)))) + 4)) x10) x0 18) (w32 ((w32 (28 + (w32 (7 * x1)))) + 5)) x11) x0 18) (w32 ((w32 (28 + (w32 (7 * x1)))) + 6)) x12) x0 13) ∧ (kd ((stm (stm (stm (stm (stm (stm (stm (stm h.2 (h.2 x0 15) (w32 (4 + x1)) x2) ((stm h.2 (h.2 x0 15) (w32 (4 + x1)) x2) x0 18) (w32 ((w32 (28 + (w32 (7 * x1)))) + 0)) x6) ((stm (stm h.2 (h.2 x0 15) (w32 (4 + x1)) x2) ((stm h.2 (h.2 x0 15) (w32 (4 + x1)) x2) x0 18) (w32 ((w32 (28 + (w32 (7 * x1)))) + 0)) x6) x0 18) (w32 ((w32 (28 + (w32 (7 * x1)))) + 1)) x7) ((stm (stm (stm h.2 (h.2 x0 15) (w32 (4 + x1)) x2) ((stm h.2 (h.2 x0 15) (w32 (4 + x1)) x2) x0 18) (w32 ((w32 (28 + (w32 (7 * x1)))) + 0)) x6) ((stm (stm h.2 (h.2 x0 15) (w32 (4 + x1)) x2) ((stm h.2 (h.2 x0 15) (w32 (4 + x1)) x2) x0 18) (w32 ((w32 (28 + (w32 (7 * x1)))) + 0)) x6) x0 18) (w32 ((w32 (28 + (w32 (7 * x1)))) + 1)) x7) x0 18) (w32 ((w32 (28 + (w32 (7 * x1)))) + 2)) x8) ((stm (stm (stm (stm h.2 (h.2 x0 15) (w32 (4 + x1)) x2) ((stm h.2 (h.2 x0 15) (w32 (4 + x1)) x2) x0 18) (w32 ((w32 (28 + (w32 (7 * x1)))) + 0)) x6) ((stm (stm h.2 (h.2 x0 15) (w32 (4 + x1)) x2) ((stm h.2 (h.2 x0 15) (w32 (4 + x1)) x2) x0 18) (w32 ((w32 (28 + (w32 (7 * x1)))) + 0)) x6) x0 18) (w32 ((w32 (28 + (w32 (7 * x1)))) + 1)) x7) ((stm (stm (stm h.2 (h.2 x0 15) (w32 (4 + x1)) x2) ((stm h.2 (h.2 x0 15) (w32 (4 + x1)) x2) x0 18) (w32 ((w32 (28 + (w32 (7 * x1)))) + 0)) x6) ((stm (stm h.2 (h.2 x0 15) (w32 (4 + x1)) x2) ((stm h.2 (h.2 x0 15) (w32 (4 + x1)) x2) x0 18) (w32 ((w32 (28 + (w32 (7 * x1)))) + 0)) x6) x0 18) (w32 ((w32 (28 + (w32 (7 * x1)))) + 1)) x7) x0 18) (w32 ((w32 (28 + (w32 (7 * x1)))) + 2)) x8) x0 18) (w32 ((w32 (28 + (w32 (7 * x1)))) + 3)) x9) ((stm (stm (stm (stm (stm h.2 (h.2 x0 15) (w32 (4 + x1)) x2) ((stm h.2 (h.2 x0 15) (w32 (4 + x1)) x2) x0 18) (w32 ((w32 (28 + (w32 (7 * x1)))) + 0)) x6) ((stm (stm h.2 (h.2 x0 15) (w32 (4 + x1)) x2) ((stm h.2 (h.2 x0 15) (w32 (4 + x1)) x2) x0 18) (w32 ((w32 (28 + (w32 (7 * x1)))) + 0)) x6) x0 18) (w32 ((w32 (28 + (w32 (7 * x1)))) + 1)) x7) ((stm (stm (stm h.2 (h.2 x0 15) (w32 (4 + x1)) x2) ((stm h.2 (h.2 x0 15) (w32 (4 + x1)) x2) x0 18) (w32 ((w32 (28 + (w32 (7 * x1)))) + 0)) x6) ((stm (stm h.2 (h.2 x0 15) (w32 (4 + x1)) x2) ((stm h.2 (h.2 x0 15) (w32 (4 + x1)) x2) x0 18) (w32 ((w32 (28 + (w32 (7 * x1)))) + 0)) x6) x0 18) (w32 ((w32 (28 + (w32 (7 * x1)))) + 1)) x7) x0 18) (w32 ((w32 (28 + (w32 (7 * x1)))) + 2)) x8) ((stm (stm (stm (stm h.2 (h.2 x0 15) (w32 (4 + x1)) x2) ((stm h.2 (h.2 x0 15) (w32 (4 + x1)) x2) x0 18) (w32 ((w32 (28 + (w32 (7 * x1)))) + 0)) x6) ((stm (stm h.2 (h.2 x0 15) (w32 (4 + x1)) x2) ((stm h.2 (h.2 x0 15) (w32 (4 + x1)) x2) x0 18) (w32 ((w32 (28 + (w32 (7 * x1)))) + 0)) x6) x0 18) (w32 ((w32 (28 + (w32 (7 * x1)))) + 1)) x7) ((stm (stm (stm h.2 (h.2 x0 15) (w32 (4 + x1)) x2) ((stm h.2 (h.2 x0 15) (w32 (4 + x1)) x2) x0 18) (w32 ((w32 (28 + (w32 (7 * x1)))) + 0)) x6) ((stm (stm h.2 (h.2 x0 15) (w32 (4 + x1)) x2) ((stm h.2 (h.2 x0 15) (w32 (4 + x1)) x2) x0 18) (w32 ((w32 (28 + (w32 (7 * x1)))) + 0)) x6) x0 18) (w32 ((w32 (28 + (w32 (7 * x1)))) + 1)) x7) x0 18) (w32 ((w32 (28 + (w32 (7 * x1)))) + 2)) x8) x0 18) (w32 ((w32 (28 + (w32 (7 * x1)))) + 3)) x9) x0 18) (w32 ((w32 (28 + (w32 (7 * x1)))) + 4)) x10) ((stm (stm (stm (stm (stm (stm h.2 (h.2 x0 15) (w32 (4 + x1)) x2) ((stm h.2 (h.2 x0 15) (w32 (4 + x1)) x2) x0 18) (w32 ((w32 (28 + (w32 (7 * x1)))) + 0)) x6) ((stm (stm h.2 (h.2 x0 15) (w32 (4 + x1)) x2) ((stm h.2 (h.2 x0 15) (w32 (4 + x1)) x2) x0 18) (w32 ((w32 (28 + (w32 (7 * x1)))) + 0)) x6) x0 18) (w32 ((w32 (28 + (w32 (7 * x1)))) + 1)) x7) ((stm (stm (stm h.2 (h.2 x0 15) (w32 (4 + x1)) x2) ((stm h.2 (h.2 x0 15) (w32 (4 + x1)) x2) x0 18) (w32 ((w32 (28 + (w32 (7 * x1)))) + 0)) x6) ((stm (stm h.2 (h.2 x0 15) (w32 (4 + x1)) x2) ((stm h.2 (h.2 x0 15) (w32 (4 + x1)) x2) x0 18) (w32 ((w32 (28 + (w32 (7 * x1)))) + 0)) x6) x0 18) (w32 ((w32 (28 + (w32 (7 * x1)))) + 1)) x7) x0 18) (w32 ((w32 (28 + (w32 (7 * x1)))) + 2)) x8) ((stm (stm (stm (stm h.2 (h.2 x0 15) (w32 (4 + x1)) x2) ((stm h.2 (h.2 x0 15) (w32 (4 + x1)) x2) x0 18) (w32 ((w32 (28 + (w32 (7 * x1)))) + 0)) x6) ((stm (stm h.2 (h.2 x0 15) (w32 (4 + x1)) x2) ((stm h.2 (h.2 x0 15) (w32 (4 + x1)) x2) x0 18) (w32 ((w32 (28 + (w32 (7 * x1)))) + 0)) x6) x0 18) (w32 ((w32 (28 + (w32 (7 * x1)))) + 1)) x7) ((stm (stm (stm h.2 (h.2 x0 15) (w32 (4 + x1)) x2) ((stm h.2 (h.2 x0 15) (w32 (4 + x1)) x2) x0 18) (w32 ((w32 (28 + (w32 (7 * x1)))) + 0)) x6) ((stm (stm h.2 (h.2 x0 15) (w32 (4 + x1)) x2) ((stm h.2 (h.2 x0 15) (w32 (4 + x1)) x2) x0 18) (w32 ((w32 (28 + (w32 (7 * x1)))) + 0)) x6) x0 18) (w32 ((w32 (28 + (w32 (7 * x1)))) + 1)) x7) x0 18) (w32 ((w32 (28 + (w32 (7 * x1)))) + 2)) x8) x0 18) (w32 ((w32 (28 + (w32 (7 * x1)))) + 3)) x9) ((stm (stm (stm (stm (stm h.2 (h.2 x0 15) (w32 (4 + x1)) x2) ((stm h.2 (h.2 x0 15) (w32 (4 + x1)) x2) x0 18) (w32 ((w32 (28 + (w32 (7 * x1)))) + 0)) x6) ((stm (stm h.2 (h.2 x0 15) (w32 (4 + x1)) x2) ((stm h.2 (h.2 x0 15) (w32 (4 + x1)) x2) x0 18) (w32 ((w32 (28 + (w32 (7 * x1)))) + 0)) x6) x0 18) (w32 ((w32 (28 + (w32 (7 * x1)))) + 1)) x7) ((stm (stm (stm h.2 (h.2 x0 15) (w32 (4 + x1)) x2) ((stm h.2 (h.2 x0 15) (w32 (4 + x1)) x2) x0 18) (w32 ((w32 (28 + (w32 (7 * x1)))) + 0)) x6) ((stm (stm h.2 (h.2 x0 15) (w32 (4 + x1)) x2) ((stm h.2 (h.2 x0 15) (w32 (4 + x1)) x2) x0 18) (w32 ((w32 (28 + (w32 (7 * x1)))) + 0)) x6) x0 18) (w32 ((w32 (28 + (w32 (7 * x1)))) + 1)) x7) x0 18) (w32 ((w32 (28 + (w32 (7 * x1)))) + 2)) x8) ((stm (stm (stm (stm h.2 (h.2 x0 15) (w32 (4 + x1)) x2) ((stm h.2 (h.2 x0 15) (w32 (4 + x1)) x2) x0 18) (w32 ((w32 (28 + (w32 (7 * x1)))) + 0)) x6) ((stm (stm h.2 (h.2 x0 15) (w32 (4 + x1)) x2) ((stm h.2 (h.2 x0 15) (w32 (4 + x1)) x2) x0 18) (w32 ((w32 (28 + (w32 (7 * x1)))) + 0)) x6) x0 18) (w32 ((w32 (28 + (w32 (7 * x1)))) + 1)) x7) ((stm (stm (stm h.2 (h.2 x0 15) (w32 (4 + x1)) x2) ((stm h.2 (h.2 x0 15) (w32 (4 + x1)) x2) x0 18) (w32 ((w32 (28 + (w32 (7 * x1)))) + 0)) x6) ((stm (stm h.2 (h.2 x0 15) (w32 (4 + x1)) x2) ((stm h.2 (h.2 x0 15) (w32 (4 + x1)) x2) x0 18) (w32 ((w32 (28 + (w32 (7 * x1)))) + 0)) x6) x0 18) (w32 ((w32 (28 + (w32 (7 * x1)))) + 1)) x7) x0 18) (w32 ((w32 (28 + (w32 (7 * x1)))) + 2)) x8) x0 18) (w32 ((w32 (28 + (w32 (7 * x1)))) + 3)) x9) x0 18) (w32 ((w32 (28 + (w32 (7 * x1)))) + 4)) x10) x0 18) (w32 ((w32 (28 + (w32 (7 * x1)))) + 5)) x11) ((stm (stm (stm (stm (stm (stm (stm h.2 (h.2 x0 15) (w32 (4 + x1)) x2) ((stm h.2 (h.2 x0 15) (w32 (4 + x1)) x2) x0 18) (w32 ((w32 (28 + (w32 (7 * x1)))) + 0)) x6) ((stm (stm h.2 (h.2 x0 15) (w32 (4 + x1)) x2) ((stm h.2 (h.2 x0 15) (w32 (4 + x1)) x2) x0 18) (w32 ((w32 (28 + (w32 (7 * x1)))) + 0)) x6) x0 18) (w32 ((w32 (28 + (w32 (7 * x1)))) + 1)) x7) ((stm (stm (stm h.2 (h.2 x0 15) (w32 (4 + x1)) x2) ((stm h.2 (h.2 x0 15) (w32 (4 + x1)) x2) x0 18) (w32 ((w32 (28 + (w32 (7 * x1)))) + 0)) x6) ((stm (stm h.2 (h.2 x0 15) (w32 (4 + x1)) x2) ((stm h.2 (h.2 x0 15) (w32 (4 + x1)) x2) x0 18) (w32 ((w32 (28 + (w32 (7 * x1)))) + 0)) x6) x0 18) (w32 ((w32 (28 + (w32 (7 * x1)))) + 1)) x7) x0 18) (w32 ((w32 (28 + (w32 (7 * x1)))) + 2)) x8) ((stm (stm (stm (stm h.2 (h.2 x0 15) (w32 (4 + x1)) x2) ((stm h.2 (h.2 x0 15) (w32 (4 + x1)) x2) x0 18) (w32 ((w32 (28 + (w32 (7 * x1)))) + 0)) x6) ((stm (stm h.2 (h.2 x0 15) (w32 (4 + x1)) x2) ((stm h.2 (h.2 x0 15) (w32 (4 + x1)) x2) x0 18) (w32 ((w32 (28 + (w32 (7 * x1)))) + 0)) x6) x0 18) (w32 ((w32 (28 + (w32 (7 * x1)))) + 1)) x7) ((stm (stm (stm h.2 (h.2 x0 15) (w32 (4 + x1)) x2) ((stm h.2 (h.2 x0 15) (w32 (4 + x1)) x2) x0 18) (w32 ((w32 (28 + (w32 (7 * x1)))) + 0)) x6) ((stm (stm h.2 (h.2 x0 15) (w32 (4 + x1)) x2) ((stm h.2 (h.2 x0 15) (w32 (4 + x1)) x2) x0 18) (w32 ((w32 (28 + (w32 (7 * x1)))) + 0)) x6) x0 18) (w32 ((w32 (28 + (w32 (7 * x1)))) + 1)) x7) x0 18) (w32 ((w32 (28 + (w32 (7 * x1)))) + 2)) x8) x0 18) (w32 ((w32 (28 + (w32 (7 * x1)))) + 3)) x9) ((stm (stm (stm (stm (stm h.2 (h.2 x0 15) (w32 (4 + x1)) x2) ((stm h.2 (h.2 x0 15) (w32 (4 + x1)) x2) x0 18) (w32 ((w32 (28 + (w32 (7 * x1)))) + 0)) x6) ((stm (stm h.2 (h.2 x0 15) (w32 (4 + x1)) x2) ((stm h.2 (h.2 x0 15) (w32 (4 + x1)) x2) x0 18) (w32 ((w32 (28 + (w32 (7 * x1)))) + 0)) x6) x0 18) (w32 ((w32 (28 + (w32 (7 * x1)))) + 1)) x7) ((stm (stm (stm h.2 (h.2 x0 15) (w32 (4 + x1)) x2) ((stm h.2 (h.2 x0 15) (w32 (4 + x1)) x2) x0 18) (w32 ((w32 (28 + (w32 (7 * x1)))) + 0)) x6) ((stm (stm h.2 (h.2 x0 15) (w32 (4 + x1)) x2) ((stm h.2 (h.2 x0 15) (w32 (4 + x1)) x2) x0 18) (w32 ((w32 (28 + (w32 (7 * x1)))) + 0)) x6) x0 18) (w32 ((w32 (28 + (w32 (7 * x1)))) + 1)) x7) x0 18) (w32 ((w32 (28 + (w32 (7 * x1)))) + 2)) x8) ((stm (stm (stm (stm h.2 (h.2 x0 15) (w32 (4 + x1)) x2) ((stm h.2 (h.2 x0 15) (w32 (4 + x1)) x2) x0 18) (w32 ((w32 (28 + (w32 (7 * x1)))) + 0)) x6) ((stm (stm h.2 (h.2 x0 15) (w32 (4 + x1)) x2) ((stm h.2 (h.2 x0 15) (w32 (4 + x1)) x2) x0 18) (w32 ((w32 (28 + (w32 (7 * x1)))) + 0)) x6) x0 18) (w32 ((w32 (28 + (w32 (7 * x1)))) + 1)) x7) ((stm (stm (stm h.2 (h.2 x0 15) (w32 (4 + x1)) x2) ((stm h.2 (h.2 x0 15) (w32 (4 + x1)) x2) x0 18) (w32 ((w32 (28 + (w32 (7 * x1)))) + 0)) x6) ((stm (stm h.2 (h.2 x0 15) (w32 (4 + x1)) x2) ((stm h.2 (h.2 x0 15) (w32 (4 + x1)) x2) x0 18) (w32 ((w32 (28 + (w32 (7 * x1)))) + 0)) x6) x0 18) (w32 ((w32 (28 + (w32 (7 * x1)))) + 1)) x7) x0 18) (w32 ((w32 (28 + (w32 (7 * x1)))) + 2)) x8) x0 18) (w32 ((w32 (28 + (w32 (7 * x1)))) + 3)) x9) x0 18) (w32 ((w32 (28 + (w32 (7 * x1)))) + 4)) x10) ((stm (stm (stm (stm (stm (stm h.2 (h.2 x0 15) (w32 (4 + x1)) x2) ((stm h.2 (h.2 x0 15) (w32 (4 + x1)) x2) x0 18) (w32 ((w32 (28 + (w32 (7 * x1)))) + 0)) x6) ((stm (stm h.2 (h.2 x0 15) (w32 (4 + x1)) x2) ((stm h.2 (h.2 x0 15) (w32 (4 + x1)) x2) x0 18) (w32 ((w32 (28 + (w32 (7 * x1)))) + 0)) x6) x0 18) (w32 ((w32 (28 + (w32 (7 * x1)))) + 1)) x7) ((stm (stm (stm h.2 (h.2 x0 15) (w32 (4 + x1)) x2) ((stm h.2 (h.2 x0 15) (w32 (4 + x1)) x2) x0 18) (w32 ((w32 (28 + (w32 (7 * x1)))) + 0)) x6) ((stm (stm h.2 (h.2 x0 15) (w32 (4 + x1)) x2) ((stm h.2 (h.2 x0 15) (w32 (4 + x1)) x2) x0 18) (w32 ((w32 (28 + (w32 (7 * x1)))) + 0)) x6) x0 18) (w32 ((w32 (28 + (w32 (7 * x1)))) + 1)) x7) x0 18) (w32 ((w32 (28 + (w32 (7 * x1)))) + 2)) x8) ((stm (stm (stm (stm h.2 (h.2 x0 15) (w32 (4 + x1)) x2) ((stm h.2 (h.2 x0 15) (w32 (4 + x1)) x2) x0 18) (w32 ((w32 (28 + (w32 (7 * x1)))) + 0)) x6) ((stm (stm h.2 (h.2 x0 15) (w32 (4 + x1)) x2) ((stm h.2 (h.2 x0 15) (w32 (4 + x1)) x2) x0 18) (w32 ((w32 (28 + (w32 (7 * x1)))) + 0)) x6) x0 18) (w32 ((w32 (28 + (w32 (7 * x1)))) + 1)) x7) ((stm (stm (stm h.2 (h.2 x0 15) (w32 (4 + x1)) x2) ((stm h.2 (h.2 x0 15) (w32 (4 + x1)) x2) x0 18) (w32 ((w32 (28 + (w32 (7 * x1)))) + 0)) x6) ((stm (stm h.2 (h.2 x0 15) (w32 (4 + x1)) x2) ((stm h.2 (h.2 x0 15) (w32 (4 + x1)) x2) x0 18) (w32 ((w32 (28 + (w32 (7 * x1)))) + 0)) x6) x0 18) (w32 ((w32 (28 + (w32 (7 * x1)))) + 1)) x7) x0 18) (w32 ((w32 (28 + (w32 (7 * x1)))) + 2)) x8) x0 18) (w32 ((w32 (28 + (w32 (7 * x1)))) + 3)) x9) ((stm (stm (stm (stm (stm h.2 (h.2 x0 15) (w32 (4 + x1)) x2) ((stm h.2 (h.2 x0 15) (w32 (4 + x1)) x2) x0 18) (w32 ((w32 (28 + (w32 (7 * x1)))) + 0)) x6) ((stm (stm h.2 (h.2 x0 15) (w32 (4 + x1)) x2) ((stm h.2 (h.2 x0 15) (w32 (4 + x1)) x2) x0 18) (w32 ((w32 (28 + (w32 (7 * x1)))) + 0)) x6) x0 18) (w32 ((w32 (28 + (w32 (7 * x1)))) + 1)) x7) ((stm (stm (stm h.2 (h.2 x0 15) (w32 (4 + x1)) x2) ((stm h.2 (h.2 x0 15) (w32 (4 + x1)) x2) x0 18) (w32 ((w32 (28 + (w32 (7 * x1)))) + 0)) x6) ((stm (stm h.2 (h.2 x0 15) (w32 (4 + x1)) x2) ((stm h.2 (h.2 x0 15) (w32 (4 + x1)) x2) x0 18) (w32 ((w32 (28 + (w32 (7 * x1)))) + 0)) x6) x0 18) (w32 ((w32 (28 + (w32 (7 * x1)))) + 1)) x7) x0 18) (w32 ((w32 (28 + (w32 (7 * x1)))) + 2)) x8) ((stm (stm (stm (stm h.2 (h.2 x0 15) (w32 (4 + x1)) x2) ((stm h.2 (h.2 x0 15) (w32 (4 + x1)) x2) x0 18) (w32 ((w32 (28 + (w32 (7 * x1)))) + 0)) x6) ((stm (stm h.2 (h.2 x0 15) (w32 (4 + x1)) x2) ((stm h.2 (h.2 x0 15) (w32 (4 + x1)) x2) x0 18) (w32 ((w32 (28 + (w32 (7 * x1)))) + 0)) x6) x0 18) (w32 ((w32 (28 + (w32 (7 * x1)))) + 1)) x7) ((stm (stm (stm h.2 (h.2 x0 15) (w32 (4 + x1)) x2) ((stm h.2 (h.2 x0 15) (w32 (4 + x1)) x2) x0 18) (w32 ((w32 (28 + (w32 (7 * x1)))) + 0)) x6) ((stm (stm h.2 (h.2 x0 15) (w32 (4 + x1)) x2) ((stm h.2 (h.2 x0 15) (w32 (4 + x1)) x2) x0 18) (w32 ((w32 (28 + (w32 (7 * x1)))) + 0)) x6) x0 18) (w32 ((w32 (28 + (w32 (7 * x1)))) + 1)) x7) x0 18) (w32 ((w32 (28 + (w32 (7 * x1)))) + 2)) x8) x0 18) (w32 ((w32 (28 + (w32 (7 * x1)))) + 3)) x9) x0 18) (w32 ((w32 (28 + (w32 (7 * x1)))) + 4)) x10) x0 18) (w32 ((w32 (28 + (w32 (7 * x1)))) + 5)) x11) x0 18) (w32 ((w32 (28 + (w32 (7 * x1)))) + 6)) x12) x0 13)).1 = 20 ∧ 0 ≤ (9 : Int) ∧ (9 : Int) < (kd ((stm (stm (stm (stm (stm (stm (stm (stm h.2 (h.2 x0 15) (w32 (4 + x1)) x2) ((stm h.2 (h.2 x0 15) (w32 (4 + x1)) x2) x0 18) (w32 ((w32 (28 + (w32 (7 * x1)))) + 0)) x6) ((stm (stm h.2 (h.2 x0 15) (w32 (4 + x1)) x2) ((stm h.2 (h.2 x0 15) (w32 (4 + x1)) x2) x0 18) (w32 ((w32 (28 + (w32 (7 * x1)))) + 0)) x6) x0 18) (w32 ((w32 (28 + (w32 (7 * x1)))) + 1)) x7) ((stm (stm (stm h.2 (h.2 x0 15) (w32 (4 + x1)) x2) ((stm h.2 (h.2 x0 15) (w32 (4 + x1)) x2) x0 18) (w32 ((w32 (28 + (w32 (7 * x1)))) + 0)) x6) ((stm (stm h.2 (h.2 x0 15) (w32 (4 + x1)) x2) ((stm h.2 (h.2 x0 15) (w32 (4 + x1)) x2) x0 18) (w32 ((w32 (28 + (w32 (7 * x1)))) + 0)) x6) x0 18) (w32 ((w32 (28 + (w32 (7 * x1)))) + 1)) x7) x0 18) (w32 ((w32 (28 + (w32 (7 * x1)))) + 2)) x8) ((stm (stm (stm (stm h.2 (h.2 x0 15) (w32 (4 + x1)) x2) ((stm h.2 (h.2 x0 15) (w32 (4 + x1)) x2) x0 18) (w32 ((w32 (28 + (w32 (7 * x1)))) + 0)) x6) ((stm (stm h.2 (h.2 x0 15) (w32 (4 + x1)) x2) ((stm h.2 (h.2 x0 15) (w32 (4 + x1)) x2) x0 18) (w32 ((w32 (28 + (w32 (7 * x1)))) + 0)) x6) x0 18) (w32 ((w32 (28 + (w32 (7 * x1)))) + 1)) x7) ((stm (stm (stm h.2 (h.2 x0 15) (w32 (4 + x1)) x2) ((stm h.2 (h.2 x0 15) (w32 (4 + x1)) x2) x0 18) (w32 ((w32 (28 + (w32 (7 * x1)))) + 0)) x6) ((stm (stm h.2 (h.2 x0 15) (w32 (4 + x1)) x2) ((stm h.2 (h.2 x0 15) (w32 (4 + x1)) x2) x0 18) (w32 ((w32 (28 + (w32 (7 * x1)))) + 0)) x6) x0 18) (w32 ((w32 (28 + (w32 (7 * x1)))) + 1)) x7) x0 18) (w32 ((w32 (28 + (w32 (7 * x1)))) + 2)) x8) x0 18) (w32 ((w32 (28 + (w32 (7 * x1)))) + 3)) x9) ((stm (stm (stm (stm (stm h.2 (h.2 x0 15) (w32 (4 + x1)) x2) ((stm h.2 (h.2 x0 15) (w32 (4 + x1)) x2) x0 18) (w32 ((w32 (28 + (w32 (7 * x1)))) + 0)) x6) ((stm (stm h.2 (h.2 x0 15) (w32 (4 + x1)) x2) ((stm h.2 (h.2 x0 15) (w32 (4 + x1)) x2) x0 18) (w32 ((w32 (28 + (w32 (7 * x1)))) + 0)) x6) x0 18) (w32 ((w32 (28 + (w32 (7 * x1)))) + 1)) x7) ((stm (stm (stm h.2 (h.2 x0 15) (w32 (4 + x1)) x2) ((stm h.2 (h.2 x0 15) (w32 (4 + x1)) x2) x0 18) (w32 ((w32 (28 + (w32 (7 * x1)))) + 0)) x6) ((stm (stm h.2 (h.2 x0 15) (w32 (4 + x1)) x2) ((stm h.2 (h.2 x0 15) (w32 (4 + x1)) x2) x0 18) (w32 ((w32 (28 + (w32 (7 * x1)))) + 0)) x6) x0 18) (w32 ((w32 (28 + (w32 (7 * x1)))) + 1)) x7) x0 18) (w32 ((w32 (28 + (w32 (7 * x1)))) + 2)) x8) ((stm (stm (stm (stm h.2 (h.2 x0 15) (w32 (4 + x1)) x2) ((stm h.2 (h.2 x0 15) (w32 (4 + x1)) x2) x0 18) (w32 ((w32 (28 + (w32 (7 * x1)))) + 0)) x6) ((stm (stm h.2 (h.2 x0 15) (w32 (4 + x1)) x2) ((stm h.2 (h.2 x0 15) (w32 (4 + x1)) x2) x0 18) (w32 ((w32 (28 + (w32 (7 * x1)))) + 0)) x6) x0 18) (w32 ((w32 (28 + (w32 (7 * x1)))) + 1)) x7) ((stm (stm (stm h.2 (h.2 x0 15) (w32 (4 + x1)) x2) ((stm h.2 (h.2 x0 15) (w32 (4 + x1)) x2) x0 18) (w32 ((w32 (28 + (w32 (7 * x1)))) + 0)) x6) ((stm (stm h.2 (h.2 x0 15) (w32 (4 + x1)) x2) ((stm h.2 (h.2 x0 15) (w32 (4 + x1)) x2) x0 18) (w32 ((w32 (28 + (w32 (7 * x1)))) + 0)) x6) x0 18) (w32 ((w32 (28 + (w32 (7 * x1)))) + 1)) x7) x0 18) (w32 ((w32 (28 + (w32 (7 * x1)))) + 2)) x8) x0 18) (w32 ((w32 (28 + (w32 (7 * x1)))) + 3)) x9) x0 18) (w32 ((w32 (28 + (w32 (7 * x1)))) + 4)) x10) ((stm (stm (stm (stm (stm (stm h.2 (h.2 x0 15) (w32 (4 + x1)) x2) ((stm h.2 (h.2 x0 15) (w32 (4 + x1)) x2) x0 18) (w32 ((w32 (28 + (w32 (7 * x1)))) + 0)) x6) ((stm (stm h.2 (h.2 x0 15) (w32 (4 + x1)) x2) ((stm h.2 (h.2 x0 15) (w32 (4 + x1)) x2) x0 18) (w32 ((w32 (28 + (w32 (7 * x1)))) + 0)) x6) x0 18) (w32 ((w32 (28 + (w32 (7 * x1)))) + 1)) x7) ((stm (stm (stm h.2 (h.2 x0 15) (w32 (4 + x1)) x2) ((stm h.2 (h.2 x0 15) (w32 (4 + x1)) x2) x0 18) (w32 ((w32 (28 + (w32 (7 * x1)))) + 0)) x6) ((stm (stm h.2 (h.2 x0 15) (w32 (4 + x1)) x2) ((stm h.2 (h.2 x0 15) (w32 (4 + x1)) x2) x0 18) (w32 ((w32 (28 + (w32 (7 * x1)))) + 0)) x6) x0 18) (w32 ((w32 (28 + (w32 (7 * x1)))) + 1)) x7) x0 18) (w32 ((w32 (28 + (w32 (7 * x1)))) + 2)) x8) ((stm (stm (stm (stm h.2 (h.2 x0 15) (w32 (4 + x1)) x2) ((stm h.2 (h.2 x0 15) (w32 (4 + x1)) x2) x0 18) (w32 ((w32 (28 + (w32 (7 * x1)))) + 0)) x6) ((stm (stm h.2 (h.2 x0 15) (w32 (4 + x1)) x2) ((stm h.2 (h.2 x0 15) (w32 (4 + x1)) x2) x0 18) (w32 ((w32 (28 + (w32 (7 * x1)))) + 0)) x6) x0 18) (w32 ((w32 (28 + (w32 (7 * x1)))) + 1)) x7) ((stm (stm (stm h.2 (h.2 x0 15) (w32 (4 + x1)) x2) ((stm h.2 (h.2 x0 15) (w32 (4 + x1)) x2) x0 18) (w32 ((w32 (28 + (w32 (7 * x1)))) + 0)) x6) ((stm (stm h.2 (h.2 x0 15) (w32 (4 + x1)) x2) ((stm h.2 (h.2 x0 15) (w32 (4 + x1)) x2) x0 18) (w32 ((w32 (28 + (w32 (7 * x1)))) + 0)) x6) x0 18) (w32 ((w32 (28 + (w32 (7 * x1)))) + 1)) x7) x0 18) (w32 ((w32 (28 + (w32 (7 * x1)))) + 2)) x8) x0 18) (w32 ((w32 (28 + (w32 (7 * x1)))) + 3)) x9) ((stm (stm (stm (stm (stm h.2 (h.2 x0 15) (w32 (4 + x1)) x2) ((stm h.2 (h.2 x0 15) (w32 (4 + x1)) x2) x0 18) (w32 ((w32 (28 + (w32 (7 * x1)))) + 0)) x6) ((stm (stm h.2 (h.2 x0 15) (w32 (4 + x1)) x2) ((stm h.2 (h.2 x0 15) (w32 (4 + x1)) x2) x0 18) (w32 ((w32 (28 + (w32 (7 * x1)))) + 0)) x6) x0 18) (w32 ((w32 (28 + (w32 (7 * x1)))) + 1)) x7) ((stm (stm (stm h.2 (h.2 x0 15) (w32 (4 + x1)) x2) ((stm h.2 (h.2 x0 15) (w32 (4 + x1)) x2) x0 18) (w32 ((w32 (28 + (w32 (7 * x1)))) + 0)) x6) ((stm (stm h.2 (h.2 x0 15) (w32 (4 + x1)) x2) ((stm h.2 (h.2 x0 15) (w32 (4 + x1)) x2) x0 18) (w32 ((w32 (28 + (w32 (7 * x1)))) + 0)) x6) x0 18) (w32 ((w32 (28 + (w32 (7 * x1)))) + 1)) x7) x0 18) (w32 ((w32 (28 + (w32 (7 * x1)))) + 2)) x8) ((stm (stm (stm (stm h.2 (h.2 x0 15) (w32 (4 + x1)) x2) ((stm h.2 (h.2 x0 15) (w32 (4 + x1)) x2) x0 18) (w32 ((w32 (28 + (w32 (7 * x1)))) + 0)) x6) ((stm (stm h.2 (h.2 x0 15) (w32 (4 + x1)) x2) ((stm h.2 (h.2 x0 15) (w32 (4 + x1)) x2) x0 18) (w32 ((w32 (28 + (w32 (7 * x1)))) + 0)) x6) x0 18) (w32 ((w32 (28 + (w32 (7 * x1)))) + 1)) x7) ((stm (stm (stm h.2 (h.2 x0 15) (w32 (4 + x1)) x2) ((stm h.2 (h.2 x0 15) (w32 (4 + x1)) x2) x0 18) (w32 ((w32 (28 + (w32 (7 * x1)))) + 0)) x6) ((stm (stm h.2 (h.2 x0 15) (w32 (4 + x1)) x2) ((stm h.2 (h.2 x0 15) (w32 (4 + x1)) x2) x0 18) (w32 ((w32 (28 + (w32 (7 * x1)))) + 0)) x6) x0 18) (w32 ((w32 (28 + (w32 (7 * x1)))) + 1)) x7) x0 18) (w32 ((w32 (28 + (w32 (7 * x1)))) + 2)) x8) x0 18) (w32 ((w32 (28 + (w32 (7 * x1)))) + 3)) x9) x0 18) (w32 ((w32 (28 + (w32 (7 * x1)))) + 4)) x10) x0 18) (w32 ((w32 (28 + (w32 (7 * x1)))) + 5)) x11) ((stm (stm (stm (stm (stm (stm (stm h.2 (h.2 x0 15) (w32 (4 + x1)) x2) ((stm h.2 (h.2 x0 15) (w32 (4 + x1)) x2) x0 18) (w32 ((w32 (28 + (w32 (7 * x1)))) + 0)) x6) ((stm (stm h.2 (h.2 x0 15) (w32 (4 + x1)) x2) ((stm h.2 (h.2 x0 15) (w32 (4 + x1)) x2) x0 18) (w32 ((w32 (28 + (w32 (7 * x1)))) + 0)) x6) x0 18) (w32 ((w32 (28 + (w32 (7 * x1)))) + 1)) x7) ((stm (stm (stm h.2 (h.2 x0 15) (w32 (4 + x1)) x2) ((stm h.2 (h.2 x0 15) (w32 (4 + x1)) x2) x0 18) (w32 ((w32 (28 + (w32 (7 * x1)))) + 0)) x6) ((stm (stm h.2 (h.2 x0 15) (w32 (4 + x1)) x2) ((stm h.2 (h.2 x0 15) (w32 (4 + x1)) x2) x0 18) (w32 ((w32 (28 + (w32 (7 * x1)))) + 0)) x6) x0 18) (w32 ((w32 (28 + (w32 (7 * x1)))) + 1)) x7) x0 18) (w32 ((w32 (28 + (w32 (7 * x1)))) + 2)) x8) ((stm (stm (stm (stm h.2 (h.2 x0 15) (w32 (4 + x1)) x2) ((stm h.2 (h.2 x0 15) (w32 (4 + x1)) x2) x0 18) (w32 ((w32 (28 + (w32 (7 * x1)))) + 0)) x6) ((stm (stm h.2 (h.2 x0 15) (w32 (4 + x1)) x2) ((stm h.2 (h.2 x0 15) (w32 (4 + x1)) x2) x0 18) (w32 ((w32 (28 + (w32 (7 * x1)))) + 0)) x6) x0 18) (w32 ((w32 (28 + (w32 (7 * x1)))) + 1)) x7) ((stm (stm (stm h.2 (h.2 x0 15) (w32 (4 + x1)) x2) ((stm h.2 (h.2 x0 15) (w32 (4 + x1)) x2) x0 18) (w32 ((w32 (28 + (w32 (7 * x1)))) + 0)) x6) ((stm (stm h.2 (h.2 x0 15) (w32 (4 + x1)) x2) ((stm h.2 (h.2 x0 15) (w32 (4 + x1)) x2) x0 18) (w32 ((w32 (28 + (w32 (7 * x1)))) + 0)) x6) x0 18) (w32 ((w32 (28 + (w32 (7 * x1)))) + 1)) x7) x0 18) (w32 ((w32 (28 + (w32 (7 * x1)))) + 2)) x8) x0 18) (w32 ((w32 (28 + (w32 (7 * x1)))) + 3)) x9) ((stm (stm (stm (stm (stm h.2 (h.2 x0 15) (w32 (4 + x1)) x2) ((stm h.2 (h.2 x0 15) (w32 (4 + x1)) x2) x0 18) (w32 ((w32 (28 + (w32 (7 * x1)))) + 0)) x6) ((stm (stm h.2 (h.2 x0 15) (w32 (4 + x1)) x2) ((stm h.2 (h.2 x0 15) (w32 (4 + x1)) x2) x0 18) (w32 ((w32 (28 + (w32 (7 * x1)))) + 0)) x6) x0 18) (w32 ((w32 (28 + (w32 (7 * x1)))) + 1)) x7) ((stm (stm (stm h.2 (h.2 x0 15) (w32 (4 + x1)) x2) ((stm h.2 (h.2 x0 15) (w32 (4 + x1)) x2) x0 18) (w32 ((w32 (28 + (w32 (7 * x1)))) + 0)) x6) ((stm (stm h.2 (h.2 x0 15) (w32 (4 + x1)) x2) ((stm h.2 (h.2 x0 15) (w32 (4 + x1)) x2) x0 18) (w32 ((w32 (28 + (w32 (7 * x1)))) + 0)) x6) x0 18) (w32 ((w32 (28 + (w32 (7 * x1)))) + 1)) x7) x0 18) (w32 ((w32 (28 + (w32 (7 * x1)))) + 2)) x8) ((stm (stm (stm (stm h.2 (h.2 x0 15) (w32 (4 + x1)) x2) ((stm h.2 (h.2 x0 15) (w32 (4 + x1)) x2) x0 18) (w32 ((w32 (28 + (w32 (7 * x1)))) + 0)) x6) ((stm (stm h.2 (h.2 x0 15) (w32 (4 + x1)) x2) ((stm h.2 (h.2 x0 15) (w32 (4 + x1)) x2) x0 18) (w32 ((w32 (28 + (w32 (7 * x1)))) + 0)) x6) x0 18) (w32 ((w32 (28 + (w32 (7 * x1)))) + 1)) x7) ((stm (stm (stm h.2 (h.2 x0 15) (w32 (4 + x1)) x2) ((stm h.2 (h.2 x0 15) (w32 (4 + x1)) x2) x0 18) (w32 ((w32 (28 + (w32 (7 * x1)))) + 0)) x6) ((stm (stm h.2 (h.2 x0 15) (w32 (4 + x1)) x2) ((stm h.2 (h.2 x0 15) (w32 (4 + x1)) x2) x0 18) (w32 ((w32 (28 + (w32 (7 * x1)))) + 0)) x6) x0 18) (w32 ((w32 (28 + (w32 (7 * x1)))) + 1)) x7) x0 18) (w32 ((w32 (28 + (w32 (7 * x1)))) + 2)) x8) x0 18) (w32 ((w32 (28 + (w32 (7 * x1)))) + 3)) x9) x0 18) (w32 ((w32 (28 + (w32 (7 * x1)))) + 4)) x10) ((stm (stm (stm (stm (stm (stm h.2 (h.2 x0 15) (w32 (4 + x1)) x2) ((stm h.2 (h.2 x0 15) (w32 (4 + x1)) x2) x0 18) (w32 ((w32 (28 + (w32 (7 * x1)))) + 0)) x6) ((stm (stm h.2 (h.2 x0 15) (w32 (4 + x1)) x2) ((stm h.2 (h.2 x0 15) (w32 (4 + x1)) x2) x0 18) (w32 ((w32 (28 + (w32 (7 * x1)))) + 0)) x6) x0 18) (w32 ((w32 (28 + (w32 (7 * x1)))) + 1)) x7) ((stm (stm (stm h.2 (h.2 x0 15) (w32 (4 + x1)) x2) ((stm h.2 (h.2 x0 15) (w32 (4 + x1)) x2) x0 18) (w32 ((w32 (28 + (w32 (7 * x1)))) + 0)) x6) ((stm (stm h.2 (h.2 x0 15) (w32 (4 + x1)) x2) ((stm h.2 (h.2 x0 15) (w32 (4 + x1)) x2) x0 18) (w32 ((w32 (28 + (w32 (7 * x1)))) + 0)) x6) x0 18) (w32 ((w32 (28 + (w32 (7 * x1)))) + 1)) x7) x0 18) (w32 ((w32 (28 + (w32 (7 * x1)))) + 2)) x8) ((stm (stm (stm (stm h.2 (h.2 x0 15) (w32 (4 + x1)) x2) ((stm h.2 (h.2 x0 15) (w32 (4 + x1)) x2) x0 18) (w32 ((w32 (28 + (w32 (7 * x1)))) + 0)) x6) ((stm (stm h.2 (h.2 x0 15) (w32 (4 + x1)) x2) ((stm h.2 (h.2 x0 15) (w32 (4 + x1)) x2) x0 18) (w32 ((w32 (28 + (w32 (7 * x1)))) + 0)) x6) x0 18) (w32 ((w32 (28 + (w32 (7 * x1)))) + 1)) x7) ((stm (stm (stm h.2 (h.2 x0 15) (w32 (4 + x1)) x2) ((stm h.2 (h.2 x0 15) (w32 (4 + x1)) x2) x0 18) (w32 ((w32 (28 + (w32 (7 * x1)))) + 0)) x6) ((stm (stm h.2 (h.2 x0 15) (w32 (4 + x1)) x2) ((stm h.2 (h.2 x0 15) (w32 (4 + x1)) x2) x0 18) (w32 ((w32 (28 + (w32 (7 * x1)))) + 0)) x6) x0 18) (w32 ((w32 (28 + (w32 (7 * x1)))) + 1)) x7) x0 18) (w32 ((w32 (28 + (w32 (7 * x1)))) + 2)) x8) x0 18) (w32 ((w32 (28 + (w32 (7 * x1)))) + 3)) x9) ((stm (stm (stm (stm (stm h.2 (h.2 x0 15) (w32 (4 + x1)) x2) ((stm h.2 (h.2 x0 15) (w32 (4 + x1)) x2) x0 18) (w32 ((w32 (28 + (w32 (7 * x1)))) + 0)) x6) ((stm (stm h.2 (h.2 x0 15) (w32 (4 + x1)) x2) ((stm h.2 (h.2 x0 15) (w32 (4 + x1)) x2) x0 18) (w32 ((w32 (28 + (w32 (7 * x1)))) + 0)) x6) x0 18) (w32 ((w32 (28 + (w32 (7 * x1)))) + 1)) x7) ((stm (stm (stm h.2 (h.2 x0 15) (w32 (4 + x1)) x2) ((stm h.2 (h.2 x0 15) (w32 (4 + x1)) x2) x0 18) (w32 ((w32 (28 + (w32 (7 * x1)))) + 0)) x6) ((stm (stm h.2 (h.2 x0 15) (w32 (4 + x1)) x2) ((stm h.2 (h.2 x0 15) (w32 (4 + x1)) x2) x0 18) (w32 ((w32 (28 + (w32 (7 * x1)))) + 0)) x6) x0 18) (w32 ((w32 (28 + (w32 (7 * x1)))) + 1)) x7) x0 18) (w32 ((w32 (28 + (w32 (7 * x1)))) + 2)) x8) ((stm (stm (stm (stm h.2 (h.2 x0 15) (w32 (4 + x1)) x2) ((stm h.2 (h.2 x0 15) (w32 (4 + x1)) x2) x0 18) (w32 ((w32 (28 + (w32 (7 * x1)))) + 0)) x6) ((stm (stm h.2 (h.2 x0 15) (w32 (4 + x1)) x2) ((stm h.2 (h.2 x0 15) (w32 (4 + x1)) x2) x0 18) (w32 ((w32 (28 + (w32 (7 * x1)))) + 0)) x6) x0 18) (w32 ((w32 (28 + (w32 (7 * x1)))) + 1)) x7) ((stm (stm (stm h.2 (h.2 x0 15) (w32 (4 + x1)) x2) ((stm h.2 (h.2 x0 15) (w32 (4 + x1)) x2) x0 18) (w32 ((w32 (28 + (w32 (7 * x1)))) + 0)) x6) ((stm (stm h.2 (h.2 x0 15) (w32 (4 + x1)) x2) ((stm h.2 (h.2 x0 15) (w32 (4 + x1)) x2) x0 18) (w32 ((w32 (28 + (w32 (7 * x1)))) + 0)) x6) x0 18) (w32 ((w32 (28 + (w32 (7 * x1)))) + 1)) x7) x0 18) (w32 ((w32 (28 + (w32 (7 * x1)))) + 2)) x8) x0 18) (w32 ((w32 (28 + (w32 (7 * x1)))) + 3)) x9) x0 18) (w32 ((w32 (28 + (w32 (7 * x1)))) + 4)) x10) x0 18) (w32 ((w32 (28 + (w32 (7 * x1)))) + 5)) x11) x0 18) (w32 ((w32 (28 + (w32 (7 * x1)))) + 6)) x12) x0 13)).2 then some (none, (h.1, stm (stm (stm (stm (stm (stm (stm (stm (stm h.2 (h.2 x0 15) (w32 (4 + x1)) x2) ((stm h.2 (h.2 x0 15) (w32 (4 + x1)) x2) x0 18) (w32 ((w32 (28 + (w32 (7 * x1)))) + 0)) x6) ((stm (stm h.2 (h.2 x0 15) (w32 (4 + x1)) x2) ((stm h.2 (h.2 x0 15) (w32 (4 + x1)) x2) x0 18) (w32 ((w32 (28 + (w32 (7 * x1)))) + 0)) x6) x0 18) (w32 ((w32 (28 + (w32 (7 * x1)))) + 1)) x7) ((stm (stm (stm h.2 (h.2 x0 15) (w32 (4 + x1)) x2) ((stm h.2 (h.2 x0 15) (w32 (4 + x1)) x2) x0 18) (w32 ((w32 (28 + (w32 (7 * x1)))) + 0)) x6) ((stm (stm h.2 (h.2 x0 15) (w32 (4 + x1)) x2) ((stm h.2 (h.2 x0 15) (w32 (4 + x1)) x2) x0 18) (w32 ((w32 (28 + (w32 (7 * x1)))) + 0)) x6) x0 18) (w32 ((w32 (28 + (w32 (7 * x1)))) + 1)) x7) x0 18) (w32 ((w32 (28 + (w32 (7 * x1)))) + 2)) x8) ((stm (stm (stm (stm h.2 (h.2 x0 15) (w32 (4 + x1)) x2) ((stm h.2 (h.2 x0 15) (w32 (4 + x1)) x2) x0 18) (w32 ((w32 (28 + (w32 (7 * x1)))) + 0)) x6) ((stm (stm h.2 (h.2 x0 15) (w32 (4 + x1)) x2) ((stm h.2 (h.2 x0 15) (w32 (4 + x1)) x2) x0 18) (w32 ((w32 (28 + (w32 (7 * x1)))) + 0)) x6) x0 18) (w32 ((w32 (28 + (w32 (7 * x1)))) + 1)) x7) ((stm (stm (stm h.2 (h.2 x0 15) (w32 (4 + x1)) x2) ((stm h.2 (h.2 x0 15) (w32 (4 + x1)) x2) x0 18) (w32 ((w32 (28 + (w32 (7 * x1)))) + 0)) x6) ((stm (stm h.2 (h.2 x0 15) (w32 (4 + x1)) x2) ((stm h.2 (h.2 x0 15) (w32 (4 + x1)) x2) x0 18) (w32 ((w32 (28 + (w32 (7 * x1)))) + 0)) x6) x0 18) (w32 ((w32 (28 + (w32 (7 * x1)))) + 1)) x7) x0 18) (w32 ((w32 (28 + (w32 (7 * x1)))) + 2)) x8) x0 18) (w32 ((w32 (28 + (w32 (7 * x1)))) + 3)) x9) ((stm (stm (stm (stm (stm h.2 (h.2 x0 15) (w32 (4 + x1)) x2) ((stm h.2 (h.2 x0 15) (w32 (4 + x1)) x2) x0 18) (w32 ((w32 (28 + (w32 (7 * x1)))) + 0)) x6) ((stm (stm h.2 (h.2 x0 15) (w32 (4 + x1)) x2) ((stm h.2 (h.2 x0 15) (w32 (4 + x1)) x2) x0 18) (w32 ((w32 (28 + (w32 (7 * x1)))) + 0)) x6) x0 18) (w32 ((w32 (28 + (w32 (7 * x1)))) + 1)) x7) ((stm (stm (stm h.2 (h.2 x0 15) (w32 (4 + x1)) x2) ((stm h.2 (h.2 x0 15) (w32 (4 + x1)) x2) x0 18) (w32 ((w32 (28 + (w32 (7 * x1)))) + 0)) x6) ((stm (stm h.2 (h.2 x0 15) (w32 (4 + x1)) x2) ((stm h.2 (h.2 x0 15) (w32 (4 + x1)) x2) x0 18) (w32 ((w32 (28 + (w32 (7 * x1)))) + 0)) x6) x0 18) (w32 ((w32 (28 + (w32 (7 * x1)))) + 1)) x7) x0 18) (w32 ((w32 (28 + (w32 (7 * x1)))) + 2)) x8) ((stm (stm (stm (stm h.2 (h.2 x0 15) (w32 (4 + x1)) x2) ((stm h.2 (h.2 x0 15) (w32 (4 + x1)) x2) x0 18) (w32 ((w32 (28 + (w32 (7 * x1)))) + 0)) x6) ((stm (stm h.2 (h.2 x0 15) (w32 (4 + x1)) x2) ((stm h.2 (h.2 x0 15) (w32 (4 + x1)) x2) x0 18) (w32 ((w32 (28 + (w32 (7 * x1)))) + 0)) x6) x0 18) (w32 ((w32 (28 + (w32 (7 * x1)))) + 1)) x7) ((stm (stm (stm h.2 (h.2 x0 15) (w32 (4 + x1)) x2) ((stm h.2 (h.2 x0 15) (w32 (4 + x1)) x2) x0 18) (w32 ((w32 (28 + (w32 (7 * x1)))) + 0)) x6) ((stm (stm h.2 (h.2 x0 15) (w32 (4 + x1)) x2) ((stm h.2 (h.2 x0 15) (w32 (4 + x1)) x2) x0 18) (w32 ((w32 (28 + (w32 (7 * x1)))) + 0)) x6) x0 18) (w32 ((w32 (28 + (w32 (7 * x1)))) + 1)) x7) x0 18) (w32 ((w32 (28 + (w32 (7 * x1)))) + 2)) x8) x0 18) (w32 ((w32 (28 + (w32 (7 * x1)))) + 3)) x9) x0 18) (w32 ((w32 (28 + (w32 (7 * x1)))) + 4)) x10) ((stm (stm (stm (stm (stm (stm h.2 (h.2 x0 15) (w32 (4 + x1)) x2) ((stm h.2 (h.2 x0 15) (w32 (4 + x1)) x2) x0 18) (w32 ((w32 (28 + (w32 (7 * x1)))) + 0)) x6) ((stm (stm h.2 (h.2 x0 15) (w32 (4 + x1)) x2) ((stm h.2 (h.2 x0 15) (w32 (4 + x1)) x2) x0 18) (w32 ((w32 (28 + (w32 (7 * x1)))) + 0)) x6) x0 18) (w32 ((w32 (28 + (w32 (7 * x1)))) + 1)) x7) ((stm (stm (stm h.2 (h.2 x0 15) (w32 (4 + x1)) x2) ((stm h.2 (h.2 x0 15) (w32 (4 + x1)) x2) x0 18) (w32 ((w32 (28 + (w32 (7 * x1)))) + 0)) x6) ((stm (stm h.2 (h.2 x0 15) (w32 (4 + x1)) x2) ((stm h.2 (h.2 x0 15) (w32 (4 + x1)) x2) x0 18) (w32 ((w32 (28 + (w32 (7 * x1)))) + 0)) x6) x0 18) (w32 ((w32 (28 + (w32 (7 * x1)))) + 1)) x7) x0 18) (w32 ((w32 (28 + (w32 (7 * x1)))) + 2)) x8) ((stm (stm (stm (stm h.2 (h.2 x0 15) (w32 (4 + x1)) x2) ((stm h.2 (h.2 x0 15) (w32 (4 + x1)) x2) x0 18) (w32 ((w32 (28 + (w32 (7 * x1)))) + 0)) x6) ((stm (stm h.2 (h.2 x0 15) (w32 (4 + x1)) x2) ((stm h.2 (h.2 x0 15) (w32 (4 + x1)) x2) x0 18) (w32 ((w32 (28 + (w32 (7 * x1)))) + 0)) x6) x0 18) (w32 ((w32 (28 + (w32 (7 * x1)))) + 1)) x7) ((stm (stm (stm h.2 (h.2 x0 15) (w32 (4 + x1)) x2) ((stm h.2 (h.2 x0 15) (w32 (4 + x1)) x2) x0 18) (w32 ((w32 (28 + (w32 (7 * x1)))) + 0)) x6) ((stm (stm h.2 (h.2 x0 15) (w32 (4 + x1)) x2) ((stm h.2 (h.2 x0 15) (w32 (4 + x1)) x2) x0 18) (w32 ((w32 (28 + (w32 (7 * x1)))) + 0)) x6) x0 18) (w32 ((w32 (28 + (w32 (7 * x1)))) + 1)) x7) x0 18) (w32 ((w32 (28 + (w32 (7 * x1)))) + 2)) x8) x0 18) (w32 ((w32 (28 + (w32 (7 * x1)))) + 3)) x9) ((stm (stm (stm (stm (stm h.2 (h.2 x0 15) (w32 (4 + x1)) x2) ((stm h.2 (h.2 x0 15) (w32 (4 + x1)) x2) x0 18) (w32 ((w32 (28 + (w32 (7 * x1)))) + 0)) x6) ((stm (stm h.2 (h.2 x0 15) (w32 (4 + x1)) x2) ((stm h.2 (h.2 x0 15) (w32 (4 + x1)) x2) x0 18) (w32 ((w32 (28 + (w32 (7 * x1)))) + 0)) x6) x0 18) (w32 ((w32 (28 + (w32 (7 * x1)))) + 1)) x7) ((stm (stm (stm h.2 (h.2 x0 15) (w32 (4 + x1)) x2) ((stm h.2 (h.2 x0 15) (w32 (4 + x1)) x2) x0 18) (w32 ((w32 (28 + (w32 (7 * x1)))) + 0)) x6) ((stm (stm h.2 (h.2 x0 15) (w32 (4 + x1)) x2) ((stm h.2 (h.2 x0 15) (w32 (4 + x1)) x2) x0 18) (w32 ((w32 (28 + (w32 (7 * x1)))) + 0)) x6) x0 18) (w32 ((w32 (28 + (w32 (7 * x1)))) + 1)) x7) x0 18) (w32 ((w32 (28 + (w32 (7 * x1)))) + 2)) x8) ((stm (stm (stm (stm h.2 (h.2 x0 15) (w32 (4 + x1)) x2) ((stm h.2 (h.2 x0 15) (w32 (4 + x1)) x2) x0 18) (w32 ((w32 (28 + (w32 (7 * x1)))) + 0)) x6) ((stm (stm h.2 (h.2 x0 15) (w32 (4 + x1)) x2) ((stm h.2 (h.2 x0 15) (w32 (4 + x1)) x2) x0 18) (w32 ((w32 (28 + (w32 (7 * x1)))) + 0)) x6) x0 18) (w32 ((w32 (28 + (w32 (7 * x1)))) + 1)) x7) ((stm (stm (stm h.2 (h.2 x0 15) (w32 (4 + x1)) x2) ((stm h.2 (h.2 x0 15) (w32 (4 + x1)) x2) x0 18) (w32 ((w32 (28 + (w32 (7 * x1)))) + 0)) x6) ((stm (stm h.2 (h.2 x0 15) (w32 (4 + x1)) x2) ((stm h.2 (h.2 x0 15) (w32 (4 + x1)) x2) x0 18) (w32 ((w32 (28 + (w32 (7 * x1)))) + 0)) x6) x0 18) (w32 ((w32 (28 + (w32 (7 * x1)))) + 1)) x7) x0 18) (w32 ((w32 (28 + (w32 (7 * x1)))) + 2)) x8) x0 18) (w32 ((w32 (28 + (w32 (7 * x1)))) + 3)) x9) x0 18) (w32 ((w32 (28 + (w32 (7 * x1)))) + 4)) x10) x0 18) (w32 ((w32 (28 + (w32 (7 * x1)))) + 5)) x11) ((stm (stm (stm (stm (stm (stm (stm h.2 (h.2 x0 15) (w32 (4 + x1)) x2) ((stm h.2 (h.2 x0 15) (w32 (4 + x1)) x2) x0 18) (w32 ((w32 (28 + (w32 (7 * x1)))) + 0)) x6) ((stm (stm h.2 (h.2 x0 15) (w32 (4 + x1)) x2) ((stm h.2 (h.2 x0 15) (w32 (4 + x1)) x2) x0 18) (w32 ((w32 (28 + (w32 (7 * x1)))) + 0)) x6) x0 18) (w32 ((w32 (28 + (w32 (7 * x1)))) + 1)) x7) ((stm (stm (stm h.2 (h.2 x0 15) (w32 (4 + x1)) x2) ((stm h.2 (h.2 x0 15) (w32 (4 + x1)) x2) x0 18) (w32 ((w32 (28 + (w32 (7 * x1)))) + 0)) x6) ((stm (stm h.2 (h.2 x0 15) (w32 (4 + x1)) x2) ((stm h.2 (h.2 x0 15) (w32 (4 + x1)) x2) x0 18) (w32 ((w32 (28 + (w32 (7 * x1)))) + 0)) x6) x0 18) (w32 ((w32 (28 + (w32 (7 * x1)))) + 1)) x7) x0 18) (w32 ((w32 (28 + (w32 (7 * x1)))) + 2)) x8) ((stm (stm (stm (stm h.2 (h.2 x0 15) (w32 (4 + x1)) x2) ((stm h.2 (h.2 x0 15) (w32 (4 + x1)) x2) x0 18) (w32 ((w32 (28 + (w32 (7 * x1)))) + 0)) x6) ((stm (stm h.2 (h.2 x0 15) (w32 (4 + x1)) x2) ((stm h.2 (h.2 x0 15) (w32 (4 + x1)) x2) x0 18) (w32 ((w32 (28 + (w32 (7 * x1)))) + 0)) x6) x0 18) (w32 ((w32 (28 + (w32 (7 * x1)))) + 1)) x7) ((stm (stm (stm h.2 (h.2 x0 15) (w32 (4 + x1)) x2) ((stm h.2 (h.2 x0 15) (w32 (4 + x1)) x2) x0 18) (w32 ((w32 (28 + (w32 (7 * x1)))) + 0)) x6) ((stm (stm h.2 (h.2 x0 15) (w32 (4 + x1)) x2) ((stm h.2 (h.2 x0 15) (w32 (4 + x1)) x2) x0 18) (w32 ((w32 (28 + (w32 (7 * x1)))) + 0)) x6) x0 18) (w32 ((w32 (28 + (w32 (7 * x1)))) + 1)) x7) x0 18) (w32 ((w32 (28 + (w32 (7 * x1)))) + 2)) x8) x0 18) (w32 ((w32 (28 + (w32 (7 * x1)))) + 3)) x9) ((stm (stm (stm (stm (stm h.2 (h.2 x0 15) (w32 (4 + x1)) x2) ((stm h.2 (h.2 x0 15) (w32 (4 + x1)) x2) x0 18) (w32 ((w32 (28 + (w32 (7 * x1)))) + 0)) x6) ((stm (stm h.2 (h.2 x0 15) (w32 (4 + x1)) x2) ((stm h.2 (h.2 x0 15) (w32 (4 + x1)) x2) x0 18) (w32 ((w32 (28 + (w32 (7 * x1)))) + 0)) x6) x0 18) (w32 ((w32 (28 + (w32 (7 * x1)))) + 1)) x7) ((stm (stm (stm h.2 (h.2 x0 15) (w32 (4 + x1)) x2) ((stm h.2 (h.2 x0 15) (w32 (4 + x1)) x2) x0 18) (w32 ((w32 (28 + (w32 (7 * x1)))) + 0)) x6) ((stm (stm h.2 (h.2 x0 15) (w32 (4 + x1)) x2) ((stm h.2 (h.2 x0 15) (w32 (4 + x1)) x2) x0 18) (w32 ((w32 (28 + (w32 (7 * x1)))) + 0)) x6) x0 18) (w32 ((w32 (28 + (w32 (7 * x1)))) + 1)) x7) x0 18) (w32 ((w32 (28 + (w32 (7 * x1)))) + 2)) x8) ((stm (stm (stm (stm h.2 (h.2 x0 15) (w32 (4 + x1)) x2) ((stm h.2 (h.2 x0 15) (w32 (4 + x1)) x2) x0 18) (w32 ((w32 (28 + (w32 (7 * x1)))) + 0)) x6) ((stm (stm h.2 (h.2 x0 15) (w32 (4 + x1)) x2) ((stm h.2 (h.2 x0 15) (w32 (4 + x1)) x2) x0 18) (w32 ((w32 (28 + (w32 (7 * x1)))) + 0)) x6) x0 18) (w32 ((w32 (28 + (w32 (7 * x1)))) + 1)) x7) ((stm (stm (stm h.2 (h.2 x0 15) (w32 (4 + x1)) x2) ((stm h.2 (h.2 x0 15) (w32 (4 + x1)) x2) x0 18) (w32 ((w32 (28 + (w32 (7 * x1)))) + 0)) x6) ((stm (stm h.2 (h.2 x0 15) (w32 (4 + x1)) x2) ((stm h.2 (h.2 x0 15) (w32 (4 + x1)) x2) x0 18) (w32 ((w32 (28 + (w32 (7 * x1)))) + 0)) x6) x0 18) (w32 ((w32 (28 + (w32 (7 * x1)))) + 1)) x7) x0 18) (w32 ((w32 (28 + (w32 (7 * x1)))) + 2)) x8) x0 18) (w32 ((w32 (28 + (w32 (7 * x1)))) + 3)) x9) x0 18) (w32 ((w32 (28 + (w32 (7 * x1)))) + 4)) x10) ((stm (stm (stm (stm (stm (stm h.2 (h.2 x0 15) (w32 (4 + x1)) x2) ((stm h.2 (h.2 x0 15) (w32 (4 + x1)) x2) x0 18) (w32 ((w32 (28 + (w32 (7 * x1)))) + 0)) x6) ((stm (stm h.2 (h.2 x0 15) (w32 (4 + x1)) x2) ((stm h.2 (h.2 x0 15) (w32 (4 + x1)) x2) x0 18) (w32 ((w32 (28 + (w32 (7 * x1)))) + 0)) x6) x0 18) (w32 ((w32 (28 + (w32 (7 * x1)))) + 1)) x7) ((stm (stm (stm h.2 (h.2 x0 15) (w32 (4 + x1)) x2) ((stm h.2 (h.2 x0 15) (w32 (4 + x1)) x2) x0 18) (w32 ((w32 (28 + (w32 (7 * x1)))) + 0)) x6) ((stm (stm h.2 (h.2 x0 15) (w32 (4 + x1)) x2) ((stm h.2 (h.2 x0 15) (w32 (4 + x1)) x2) x0 18) (w32 ((w32 (28 + (w32 (7 * x1)))) + 0)) x6) x0 18) (w32 ((w32 (28 + (w32 (7 * x1)))) + 1)) x7) x0 18) (w32 ((w32 (28 + (w32 (7 * x1)))) + 2)) x8) ((stm (stm (stm (stm h.2 (h.2 x0 15) (w32 (4 + x1)) x2) ((stm h.2 (h.2 x0 15) (w32 (4 + x1)) x2) x0 18) (w32 ((w32 (28 + (w32 (7 * x1)))) + 0)) x6) ((stm (stm h.2 (h.2 x0 15) (w32 (4 + x1)) x2) ((stm h.2 (h.2 x0 15) (w32 (4 + x1)) x2) x0 18) (w32 ((w32 (28 + (w32 (7 * x1)))) + 0)) x6) x0 18) (w32 ((w32 (28 + (w32 (7 * x1)))) + 1)) x7) ((stm (stm (stm h.2 (h.2 x0 15) (w32 (4 + x1)) x2) ((stm h.2 (h.2 x0 15) (w32 (4 + x1)) x2) x0 18) (w32 ((w32 (28 + (w32 (7 * x1)))) + 0)) x6) ((stm (stm h.2 (h.2 x0 15) (w32 (4 + x1)) x2) ((stm h.2 (h.2 x0 15) (w32 (4 + x1)) x2) x0 18) (w32 ((w32 (28 + (w32 (7 * x1)))) + 0)) x6) x0 18) (w32 ((w32 (28 + (w32 (7 * x1)))) + 1)) x7) x0 18) (w32 ((w32 (28 + (w32 (7 * x1)))) + 2)) x8) x0 18) (w32 ((w32 (28 + (w32 (7 * x1)))) + 3)) x9) ((stm (stm (stm (stm (stm h.2 (h.2 x0 15) (w32 (4 + x1)) x2) ((stm h.2 (h.2 x0 15) (w32 (4 + x1)) x2) x0 18) (w32 ((w32 (28 + (w32 (7 * x1)))) + 0)) x6) ((stm (stm h.2 (h.2 x0 15) (w32 (4 + x1)) x2) ((stm h.2 (h.2 x0 15) (w32 (4 + x1)) x2) x0 18) (w32 ((w32 (28 + (w32 (7 * x1)))) + 0)) x6) x0 18) (w32 ((w32 (28 + (w32 (7 * x1)))) + 1)) x7) ((stm (stm (stm h.2 (h.2 x0 15) (w32 (4 + x1)) x2) ((stm h.2 (h.2 x0 15) (w32 (4 + x1)) x2) x0 18) (w32 ((w32 (28 + (w32 (7 * x1)))) + 0)) x6) ((stm (stm h.2 (h.2 x0 15) (w32 (4 + x1)) x2) ((stm h.2 (h.2 x0 15) (w32 (4 + x1)) x2) x0 18) (w32 ((w32 (28 + (w32 (7 * x1)))) + 0)) x6) x0 18) (w32 ((w32 (28 + (w32 (7 * x1)))) + 1)) x7) x0 18) (w32 ((w32 (28 + (w32 (7 * x1)))) + 2)) x8) ((stm (stm (stm (stm h.2 (h.2 x0 15) (w32 (4 + x1)) x2) ((stm h.2 (h.2 x0 15) (w32 (4 + x1)) x2) x0 18) (w32 ((w32 (28 + (w32 (7 * x1)))) + 0)) x6) ((stm (stm h.2 (h.2 x0 15) (w32 (4 + x1)) x2) ((stm h.2 (h.2 x0 15) (w32 (4 + x1)) x2) x0 18) (w32 ((w32 (28 + (w32 (7 * x1)))) + 0)) x6) x0 18) (w32 ((w32 (28 + (w32 (7 * x1)))) + 1)) x7) ((stm (stm (stm h.2 (h.2 x0 15) (w32 (4 + x1)) x2) ((stm h.2 (h.2 x0 15) (w32 (4 + x1)) x2) x0 18) (w32 ((w32 (28 + (w32 (7 * x1)))) + 0)) x6) ((stm (stm h.2 (h.2 x0 15) (w32 (4 + x1)) x2) ((stm h.2 (h.2 x0 15) (w32 (4 + x1)) x2) x0 18) (w32 ((w32 (28 + (w32 (7 * x1)))) + 0)) x6) x0 18) (w32 ((w32 (28 + (w32 (7 * x1)))) + 1)) x7) x0 18) (w32 ((w32 (28 + (w32 (7 * x1)))) + 2)) x8) x0 18) (w32 ((w32 (28 + (w32 (7 * x1)))) + 3)) x9) x0 18) (w32 ((w32 (28 + (w32 (7 * x1)))) + 4)) x10) x0 18) (w32 ((w32 (28 + (w32 (7 * x1)))) + 5)) x11) x0 18) (w32 ((w32 (28 + (w32 (7 * x1)))) + 6)) x12) ((stm (stm (stm (stm (stm (stm (stm (stm h.2 (h.2 x0 15) (w32 (4 + x1)) x2) ((stm h.2 (h.2 x0 15) (w32 (4 + x1)) x2) x0 18) (w32 ((w32 (28 + (w32 (7 * x1)))) + 0)) x6) ((stm (stm h.2 (h.2 x0 15) (w32 (4 + x1)) x2) ((stm h.2 (h.2 x0 15) (w32 (4 + x1)) x2) x0 18) (w32 ((w32 (28 + (w32 (7 * x1)))) + 0)) x6) x0 18) (w32 ((w32 (28 + (w32 (7 * x1)))) + 1)) x7) ((stm (stm (stm h.2 (h.2 x0 15) (w32 (4 + x1)) x2) ((stm h.2 (h.2 x0 15) (w32 (4 + x1)) x2) x0 18) (w32 ((w32 (28 + (w32 (7 * x1)))) + 0)) x6) ((stm (stm h.2 (h.2 x0 15) (w32 (4 + x1)) x2) ((stm h.2 (h.2 x0 15) (w32 (4 + x1)) x2) x0 18) (w32 ((w32 (28 + (w32 (7 * x1)))) + 0)) x6) x0 18) (w32 ((w32 (28 + (w32 (7 * x1)))) + 1)) x7) x0 18) (w32 ((w32 (28 + (w32 (7 * x1)))) + 2)) x8) ((stm (stm (stm (stm h.2 (h.2 x0 15) (w32 (4 + x1)) x2) ((stm h.2 (h.2 x0 15) (w32 (4 + x1)) x2) x0 18) (w32 ((w32 (28 + (w32 (7 * x1)))) + 0)) x6) ((stm (stm h.2 (h.2 x0 15) (w32 (4 + x1)) x2) ((stm h.2 (h.2 x0 15) (w32 (4 + x1)) x2) x0 18) (w32 ((w32 (28 + (w32 (7 * x1)))) + 0)) x6) x0 18) (w32 ((w32 (28 + (w32 (7 * x1)))) + 1)) x7) ((stm (stm (stm h.2 (h.2 x0 15) (w32 (4 + x1)) x2) ((stm h.2 (h.2 x0 15) (w32 (4 + x1)) x2) x0 18) (w32 ((w32 (28 + (w32 (7 * x1)))) + 0)) x6) ((stm (stm h.2 (h.2 x0 15) (w32 (4 + x1)) x2) ((stm h.2 (h.2 x0 15) (w32 (4 + x1)) x2) x0 18) (w32 ((w32 (28 + (w32 (7 * x1)))) + 0)) x6) x0 18) (w32 ((w32 (28 + (w32 (7 * x1)))) + 1)) x7) x0 18) (w32 ((w32 (28 + (w32 (7 * x1)))) + 2)) x8) x0 18) (w32 ((w32 (28 + (w32 (7 * x1)))) + 3)) x9) ((stm (stm (stm (stm (stm h.2 (h.2 x0 15) (w32 (4 + x1)) x2) ((stm h.2 (h.2 x0 15) (w32 (4 + x1)) x2) x0 18) (w32 ((w32 (28 + (w32 (7 * x1)))) + 0)) x6) ((stm (stm h.2 (h.2 x0 15) (w32 (4 + x1)) x2) ((stm h.2 (h.2 x0 15) (w32 (4 + x1)) x2) x0 18) (w32 ((w32 (28 + (w32 (7 * x1)))) + 0)) x6) x0 18) (w32 ((w32 (28 + (w32 (7 * x1)))) + 1)) x7) ((stm (stm (stm h.2 (h.2 x0 15) (w32 (4 + x1)) x2) ((stm h.2 (h.2 x0 15) (w32 (4 + x1)) x2) x0 18) (w32 ((w32 (28 + (w32 (7 * x1)))) + 0)) x6) ((stm (stm h.2 (h.2 x0 15) (w32 (4 + x1)) x2) ((stm h.2 (h.2 x0 15) (w32 (4 + x1)) x2) x0 18) (w32 ((w32 (28 + (w32 (7 * x1)))) + 0)) x6) x0 18) (w32 ((w32 (28 + (w32 (7 * x1)))) + 1)) x7) x0 18) (w32 ((w32 (28 + (w32 (7 * x1)))) + 2)) x8) ((stm (stm (stm (stm h.2 (h.2 x0 15) (w32 (4 + x1)) x2) ((stm h.2 (h.2 x0 15) (w32 (4 + x1)) x2) x0 18) (w32 ((w32 (28 + (w32 (7 * x1)))) + 0)) x6) ((stm (stm h.2 (h.2 x0 15) (w32 (4 + x1)) x2) ((stm h.2 (h.2 x0 15) (w32 (4 + x1)) x2) x0 18) (w32 ((w32 (28 + (w32 (7 * x1)))) + 0)) x6) x0 18) (w32 ((w32 (28 + (w32 (7 * x1)))) + 1)) x7) ((stm (stm (stm h.2 (h.2 x0 15) (w32 (4 + x1)) x2) ((stm h.2 (h.2 x0 15) (w32 (4 + x1)) x2) x0 18) (w32 ((w32 (28 + (w32 (7 * x1)))) + 0)) x6) ((stm (stm h.2 (h.2 x0 15) (w32 (4 + x1)) x2) ((stm h.2 (h.2 x0 15) (w32 (4 + x1)) x2) x0 18) (w32 ((w32 (28 + (w32 (7 * x1)))) + 0)) x6) x0 18) (w32 ((w32 (28 + (w32 (7 * x1)))) + 1)) x7) x0 18) (w32 ((w32 (28 + (w32 (7 * x1)))) + 2)) x8) x0 18) (w32 ((w32 (28 + (w32 (7 * x1)))) + 3)) x9) x0 18) (w32 ((w32 (28 + (w32 (7 * x1)))) + 4)) x10) ((stm (stm (stm (stm (stm (stm h.2 (h.2 x0 15) (w32 (4 + x1)) x2) ((stm h.2 (h.2 x0 15) (w32 (4 + x1)) x2) x0 18) (w32 ((w32 (28 + (w32 (7 * x1)))) + 0)) x6) ((stm (stm h.2 (h.2 x0 15) (w32 (4 + x1)) x2) ((stm h.2 (h.2 x0 15) (w32 (4 + x1)) x2) x0 18) (w32 ((w32 (28 + (w32 (7 * x1)))) + 0)) x6) x0 18) (w32 ((w32 (28 + (w32 (7 * x1)))) + 1)) x7) ((stm (stm (stm h.2 (h.2 x0 15) (w32 (4 + x1)) x2) ((stm h.2 (h.2 x0 15) (w32 (4 + x1)) x2) x0 18) (w32 ((w32 (28 + (w32 (7 * x1)))) + 0)) x6) ((stm (stm h.2 (h.2 x0 15) (w32 (4 + x1)) x2) ((stm h.2 (h.2 x0 15) (w32 (4 + x1)) x2) x0 18) (w32 ((w32 (28 + (w32 (7 * x1)))) + 0)) x6) x0 18) (w32 ((w32 (28 + (w32 (7 * x1)))) + 1)) x7) x0 18) (w32 ((w32 (28 + (w32 (7 * x1)))) + 2)) x8) ((stm (stm (stm (stm h.2 (h.2 x0 15) (w32 (4 + x1)) x2) ((stm h.2 (h.2 x0 15) (w32 (4 + x1)) x2) x0 18) (w32 ((w32 (28 + (w32 (7 * x1)))) + 0)) x6) ((stm (stm h.2 (h.2 x0 15) (w32 (4 + x1)) x2) ((stm h.2 (h.2 x0 15) (w32 (4 + x1)) x2) x0 18) (w32 ((w32 (28 + (w32 (7 * x1)))) + 0)) x6) x0 18) (w32 ((w32 (28 + (w32 (7 * x1)))) + 1)) x7) ((stm (stm (stm h.2 (h.2 x0 15) (w32 (4 + x1)) x2) ((stm h.2 (h.2 x0 15) (w32 (4 + x1)) x2) x0 18) (w32 ((w32 (28 + (w32 (7 * x1)))) + 0)) x6) ((stm (stm h.2 (h.2 x0 15) (w32 (4 + x1)) x2) ((stm h.2 (h.2 x0 15) (w32 (4 + x1)) x2) x0 18) (w32 ((w32 (28 + (w32 (7 * x1)))) + 0)) x6) x0 18) (w32 ((w32 (28 + (w32 (7 * x1)))) + 1)) x7) x0 18) (w32 ((w32 (28 + (w32 (7 * x1)))) + 2)) x8) x0 18) (w32 ((w32 (28 + (w32 (7 * x1)))) + 3)) x9) ((stm (stm (stm (stm (stm h.2 (h.2 x0 15) (w32 (4 + x1)) x2) ((stm h.2 (h.2 x0 15) (w32 (4 + x1)) x2) x0 18) (w32 ((w32 (28 + (w32 (7 * x1)))) + 0)) x6) ((stm (stm h.2 (h.2 x0 15) (w32 (4 + x1)) x2) ((stm h.2 (h.2 x0 15) (w32 (4 + x1)) x2) x0 18) (w32 ((w32 (28 + (w32 (7 * x1)))) + 0)) x6) x0 18) (w32 ((w32 (28 + (w32 (7 * x1)))) + 1)) x7) ((stm (stm (stm h.2 (h.2 x0 15) (w32 (4 + x1)) x2) ((stm h.2 (h.2 x0 15) (w32 (4 + x1)) x2) x0 18) (w32 ((w32 (28 + (w32 (7 * x1)))) + 0)) x6) ((stm (stm h.2 (h.2 x0 15) (w32 (4 + x1)) x2) ((stm h.2 (h.2 x0 15) (w32 (4 + x1)) x2) x0 18) (w32 ((w32 (28 + (w32 (7 * x1)))) + 0)) x6) x0 18) (w32 ((w32 (28 + (w32 (7 * x1)))) + 1)) x7) x0 18) (w32 ((w32 (28 + (w32 (7 * x1)))) + 2)) x8) ((stm (stm (stm (stm h.2 (h.2 x0 15) (w32 (4 + x1)) x2) ((stm h.2 (h.2 x0 15) (w32 (4 + x1)) x2) x0 18) (w32 ((w32 (28 + (w32 (7 * x1)))) + 0)) x6) ((stm (stm h.2 (h.2 x0 15) (w32 (4 + x1)) x2) ((stm h.2 (h.2 x0 15) (w32 (4 + x1)) x2) x0 18) (w32 ((w32 (28 + (w32 (7 * x1)))) + 0)) x6) x0 18) (w32 ((w32 (28 + (w32 (7 * x1)))) + 1)) x7) ((stm (stm (stm h.2 (h.2 x0 15) (w32 (4 + x1)) x2) ((stm h.2 (h.2 x0 15) (w32 (4 + x1)) x2) x0 18) (w32 ((w32 (28 + (w32 (7 * x1)))) + 0)) x6) ((stm (stm h.2 (h.2 x0 15) (w32 (4 + x1)) x2) ((stm h.2 (h.2 x0 15) (w32 (4 + x1)) x2) x0 18) (w32 ((w32 (28 + (w32 (7 * x1)))) + 0)) x6) x0 18) (w32 ((w32 (28 + (w32 (7 * x1)))) + 1)) x7) x0 18) (w32 ((w32 (28 + (w32 (7 * x1)))) + 2)) x8) x0 18) (w32 ((w32 (28 + (w32 (7 * x1)))) + 3)) x9) x0 18) (w32 ((w32 (28 + (w32 (7 * x1)))) + 4)) x10) x0 18) (w32 ((w32 (28 + (w32 (7 * x1)))) + 5)) x11) ((stm (stm (stm (stm (stm (stm (stm h.2 (h.2 x0 15) (w32 (4 + x1)) x2) ((stm h.2 (h.2 x0 15) (w32 (4 + x1)) x2) x0 18) (w32 ((w32 (28 + (w32 (7 * x1)))) + 0)) x6) ((stm (stm h.2 (h.2 x0 15) (w32 (4 + x1)) x2) ((stm h.2 (h.2 x0 15) (w32 (4 + x1)) x2) x0 18) (w32 ((w32 (28 + (w32 (7 * x1)))) + 0)) x6) x0 18) (w32 ((w32 (28 + (w32 (7 * x1)))) + 1)) x7) ((stm (stm (stm h.2 (h.2 x0 15) (w32 (4 + x1)) x2) ((stm h.2 (h.2 x0 15) (w32 (4 + x1)) x2) x0 18) (w32 ((w32 (28 + (w32 (7 * x1)))) + 0)) x6) ((stm (stm h.2 (h.2 x0 15) (w32 (4 + x1)) x2) ((stm h.2 (h.2 x0 15) (w32 (4 + x1)) x2) x0 18) (w32 ((w32 (28 + (w32 (7 * x1)))) + 0)) x6) x0 18) (w32 ((w32 (28 + (w32 (7 * x1)))) + 1)) x7) x0 18) (w32 ((w32 (28 + (w32 (7 * x1)))) + 2)) x8) ((stm (stm (stm (stm h.2 (h.2 x0 15) (w32 (4 + x1)) x2) ((stm h.2 (h.2 x0 15) (w32 (4 + x1)) x2) x0 18) (w32 ((w32 (28 + (w32 (7 * x1)))) + 0)) x6) ((stm (stm h.2 (h.2 x0 15) (w32 (4 + x1)) x2) ((stm h.2 (h.2 x0 15) (w32 (4 + x1)) x2) x0 18) (w32 ((w32 (28 + (w32 (7 * x1)))) + 0)) x6) x0 18) (w32 ((w32 (28 + (w32 (7 * x1)))) + 1)) x7) ((stm (stm (stm h.2 (h.2 x0 15) (w32 (4 + x1)) x2) ((stm h.2 (h.2 x0 15) (w32 (4 + x1)) x2) x0 18) (w32 ((w32 (28 + (w32 (7 * x1)))) + 0)) x6) ((stm (stm h.2 (h.2 x0 15) (w32 (4 + x1)) x2) ((stm h.2 (h.2 x0 15) (w32 (4 + x1)) x2) x0 18) (w32 ((w32 (28 + (w32 (7 * x1)))) + 0)) x6) x0 18) (w32 ((w32 (28 + (w32 (7 * x1)))) + 1)) x7) x0 18) (w32 ((w32 (28 + (w32 (7 * x1)))) + 2)) x8) x0 18) (w32 ((w32 (28 + (w32 (7 * x1)))) + 3)) x9) ((stm (stm (stm (stm (stm h.2 (h.2 x0 15) (w32 (4 + x1)) x2) ((stm h.2 (h.2 x0 15) (w32 (4 + x1)) x2) x0 18) (w32 ((w32 (28 + (w32 (7 * x1)))) + 0)) x6) ((stm (stm h.2 (h.2 x0 15) (w32 (4 + x1)) x2) ((stm h.2 (h.2 x0 15) (w32 (4 + x1)) x2) x0 18) (w32 ((w32 (28 + (w32 (7 * x1)))) + 0)) x6) x0 18) (w32 ((w32 (28 + (w32 (7 * x1)))) + 1)) x7) ((stm (stm (stm h.2 (h.2 x0 15) (w32 (4 + x1)) x2) ((stm h.2 (h.2 x0 15) (w32 (4 + x1)) x2) x0 18) (w32 ((w32 (28 + (w32 (7 * x1)))) + 0)) x6) ((stm (stm h.2 (h.2 x0 15) (w32 (4 + x1)) x2) ((stm h.2 (h.2 x0 15) (w32 (4 + x1)) x2) x0 18) (w32 ((w32 (28 + (w32 (7 * x1)))) + 0)) x6) x0 18) (w32 ((w32 (28 + (w32 (7 * x1)))) + 1)) x7) x0 18) (w32 ((w32 (28 + (w32 (7 * x1)))) + 2)) x8) ((stm (stm (stm (stm h.2 (h.2 x0 15) (w32 (4 + x1)) x2) ((stm h.2 (h.2 x0 15) (w32 (4 + x1)) x2) x0 18) (w32 ((w32 (28 + (w32 (7 * x1)))) + 0)) x6) ((stm (stm h.2 (h.2 x0 15) (w32 (4 + x1)) x2) ((stm h.2 (h.2 x0 15) (w32 (4 + x1)) x2) x0 18) (w32 ((w32 (28 + (w32 (7 * x1)))) + 0)) x6) x0 18) (w32 ((w32 (28 + (w32 (7 * x1)))) + 1)) x7) ((stm (stm (stm h.2 (h.2 x0 15) (w32 (4 + x1)) x2) ((stm h.2 (h.2 x0 15) (w32 (4 + x1)) x2) x0 18) (w32 ((w32 (28 + (w32 (7 * x1)))) + 0)) x6) ((stm (stm h.2 (h.2 x0 15) (w32 (4 + x1)) x2) ((stm h.2 (h.2 x0 15) (w32 (4 + x1)) x2) x0 18) (w32 ((w32 (28 + (w32 (7 * x1)))) + 0)) x6) x0 18) (w32 ((w32 (28 + (w32 (7 * x1)))) + 1)) x7) x0 18) (w32 ((w32 (28 + (w32 (7 * x1)))) + 2)) x8) x0 18) (w32 ((w32 (28 + (w32 (7 * x1)))) + 3)) x9) x0 18) (w32 ((w32 (28 + (w32 (7 * x1)))) + 4)) x10) ((stm (stm (stm (stm (stm (stm h.2 (h.2 x0 15) (w32 (4 + x1)) x2) ((stm h.2 (h.2 x0 15) (w32 (4 + x1)) x2) x0 18) (w32 ((w32 (28 + (w32 (7 * x1)))) + 0)) x6) ((stm (stm h.2 (h.2 x0 15) (w32 (4 + x1)) x2) ((stm h.2 (h.2 x0 15) (w32 (4 + x1)) x2) x0 18) (w32 ((w32 (28 + (w32 (7 * x1)))) + 0)) x6) x0 18) (w32 ((w32 (28 + (w32 (7 * x1)))) + 1)) x7) ((stm (stm (stm h.2 (h.2 x0 15) (w32 (4 + x1)) x2) ((stm h.2 (h.2 x0 15) (w32 (4 + x1)) x2) x0 18) (w32 ((w32 (28 + (w32 (7 * x1)))) + 0)) x6) ((stm (stm h.2 (h.2 x0 15) (w32 (4 + x1)) x2) ((stm h.2 (h.2 x0 15) (w32 (4 + x1)) x2) x0 18) (w32 ((w32 (28 + (w32 (7 * x1)))) + 0)) x6) x0 18) (w32 ((w32 (28 + (w32 (7 * x1)))) + 1)) x7) x0 18) (w32 ((w32 (28 + (w32 (7 * x1)))) + 2)) x8) ((stm (stm (stm (stm h.2 (h.2 x0 15) (w32 (4 + x1)) x2) ((stm h.2 (h.2 x0 15) (w32 (4 + x1)) x2) x0 18) (w32 ((w32 (28 + (w32 (7 * x1)))) + 0)) x6) ((stm (stm h.2 (h.2 x0 15) (w32 (4 + x1)) x2) ((stm h.2 (h.2 x0 15) (w32 (4 + x1)) x2) x0 18) (w32 ((w32 (28 + (w32 (7 * x1)))) + 0)) x6) x0 18) (w32 ((w32 (28 + (w32 (7 * x1)))) + 1)) x7) ((stm (stm (stm h.2 (h.2 x0 15) (w32 (4 + x1)) x2) ((stm h.2 (h.2 x0 15) (w32 (4 + x1)) x2) x0 18) (w32 ((w32 (28 + (w32 (7 * x1)))) + 0)) x6) ((stm (stm h.2 (h.2 x0 15) (w32 (4 + x1)) x2) ((stm h.2 (h.2 x0 15) (w32 (4 + x1)) x2) x0 18) (w32 ((w32 (28 + (w32 (7 * x1)))) + 0)) x6) x0 18) (w32 ((w32 (28 + (w32 (7 * x1)))) + 1)) x7) x0 18) (w32 ((w32 (28 + (w32 (7 * x1)))) + 2)) x8) x0 18) (w32 ((w32 (28 + (w32 (7 * x1)))) + 3)) x9) ((stm (stm (stm (stm (stm h.2 (h.2 x0 15) (w32 (4 + x1)) x2) ((stm h.2 (h.2 x0 15) (w32 (4 + x1)) x2) x0 18) (w32 ((w32 (28 + (w32 (7 * x1)))) + 0)) x6) ((stm (stm h.2 (h.2 x0 15) (w32 (4 + x1)) x2) ((stm h.2 (h.2 x0 15) (w32 (4 + x1)) x2) x0 18) (w32 ((w32 (28 + (w32 (7 * x1)))) + 0)) x6) x0 18) (w32 ((w32 (28 + (w32 (7 * x1)))) + 1)) x7) ((stm (stm (stm h.2 (h.2 x0 15) (w32 (4 + x1)) x2) ((stm h.2 (h.2 x0 15) (w32 (4 + x1)) x2) x0 18) (w32 ((w32 (28 + (w32 (7 * x1)))) + 0)) x6) ((stm (stm h.2 (h.2 x0 15) (w32 (4 + x1)) x2) ((stm h.2 (h.2 x0 15) (w32 (4 + x1)) x2) x0 18) (w32 ((w32 (28 + (w32 (7 * x1)))) + 0)) x6) x0 18) (w32 ((w32 (28 + (w32 (7 * x1)))) + 1)) x7) x0 18) (w32 ((w32 (28 + (w32 (7 * x1)))) + 2)) x8) ((stm (stm (stm (stm h.2 (h.2 x0 15) (w32 (4 + x1)) x2) ((stm h.2 (h.2 x0 15) (w32 (4 + x1)) x2) x0 18) (w32 ((w32 (28 + (w32 (7 * x1)))) + 0)) x6) ((stm (stm h.2 (h.2 x0 15) (w32 (4 + x1)) x2) ((stm h.2 (h.2 x0 15) (w32 (4 + x1)) x2) x0 18) (w32 ((w32 (28 + (w32 (7 * x1)))) + 0)) x6) x0 18) (w32 ((w32 (28 + (w32 (7 * x1)))) + 1)) x7) ((stm (stm (stm h.2 (h.2 x0 15) (w32 (4 + x1)) x2) ((stm h.2 (h.2 x0 15) (w32 (4 + x1)) x2) x0 18) (w32 ((w32 (28 + (w32 (7 * x1)))) + 0)) x6) ((stm (stm h.2 (h.2 x0 15) (w32 (4 + x1)) x2) ((stm h.2 (h.2 x0 15) (w32 (4 + x1)) x2) x0 18) (w32 ((w32 (28 + (w32 (7 * x1)))) + 0)) x6) x0 18) (w32 ((w32 (28 + (w32 (7 * x1)))) + 1)) x7) x0 18) (w32 ((w32 (28 + (w32 (7 * x1)))) + 2)) x8) x0 18) (w32 ((w32 (28 + (w32 (7 * x1)))) + 3)) x9) x0 18) (w32 ((w32 (28 + (w32 (7 * x1)))) + 4)) x10) x0 18) (w32 ((w32 (28 + (w32 (7 * x1)))) + 5)) x11) x0 18) (w32 ((w32 (28 + (w32 (7 * x1)))) + 6)) x12) x0 13) 9 (w32 (((stm (stm (stm (stm (stm (stm (stm (stm h.2 (h.2 x0 15) (w32 (4 + x1)) x2) ((stm h.2 (h.2 x0 15) (w32 (4 + x1)) x2) x0 18) (w32 ((w32 (28 + (w32 (7 * x1)))) + 0)) x6) ((stm (stm h.2 (h.2 x0 15) (w32 (4 + x1)) x2) ((stm h.2 (h.2 x0 15) (w32 (4 + x1)) x2) x0 18) (w32 ((w32 (28 + (w32 (7 * x1)))) + 0)) x6) x0 18) (w32 ((w32 (28 + (w32 (7 * x1)))) + 1)) x7) ((stm (stm (stm h.2 (h.2 x0 15) (w32 (4 + x1)) x2) ((stm h.2 (h.2 x0 15) (w32 (4 + x1)) x2) x0 18) (w32 ((w32 (28 + (w32 (7 * x1)))) + 0)) x6) ((stm (stm h.2 (h.2 x0 15) (w32 (4 + x1)) x2) ((stm h.2 (h.2 x0 15) (w32 (4 + x1)) x2) x0 18) (w32 ((w32 (28 + (w32 (7 * x1)))) + 0)) x6) x0 18) (w32 ((w32 (28 + (w32 (7 * x1)))) + 1)) x7) x0 18) (w32 ((w32 (28 + (w32 (7 * x1)))) + 2)) x8) ((stm (stm (stm (stm h.2 (h.2 x0 15) (w32 (4 + x1)) x2) ((stm h.2 (h.2 x0 15) (w32 (4 + x1)) x2) x0 18) (w32 ((w32 (28 + (w32 (7 * x1)))) + 0)) x6) ((stm (stm h.2 (h.2 x0 15) (w32 (4 + x1)) x2) ((stm h.2 (h.2 x0 15) (w32 (4 + x1)) x2) x0 18) (w32 ((w32 (28 + (w32 (7 * x1)))) + 0)) x6) x0 18) (w32 ((w32 (28 + (w32 (7 * x1)))) + 1)) x7) ((stm (stm (stm h.2 (h.2 x0 15) (w32 (4 + x1)) x2) ((stm h.2 (h.2 x0 15) (w32 (4 + x1)) x2) x0 18) (w32 ((w32 (28 + (w32 (7 * x1)))) + 0)) x6) ((stm (stm h.2 (h.2 x0 15) (w32 (4 + x1)) x2) ((stm h.2 (h.2 x0 15) (w32 (4 + x1)) x2) x0 18) (w32 ((w32 (28 + (w32 (7 * x1)))) + 0)) x6) x0 18) (w32 ((w32 (28 + (w32 (7 * x1)))) + 1)) x7) x0 18) (w32 ((w32 (28 + (w32 (7 * x1)))) + 2)) x8) x0 18) (w32 ((w32 (28 + (w32 (7 * x1)))) + 3)) x9) ((stm (stm (stm (stm (stm h.2 (h.2 x0 15) (w32 (4 + x1)) x2) ((stm h.2 (h.2 x0 15) (w32 (4 + x1)) x2) x0 18) (w32 ((w32 (28 + (w32 (7 * x1)))) + 0)) x6) ((stm (stm h.2 (h.2 x0 15) (w32 (4 + x1)) x2) ((stm h.2 (h.2 x0 15) (w32 (4 + x1)) x2) x0 18) (w32 ((w32 (28 + (w32 (7 * x1)))) + 0)) x6) x0 18) (w32 ((w32 (28 + (w32 (7 * x1)))) + 1)) x7) ((stm (stm (stm h.2 (h.2 x0 15) (w32 (4 + x1)) x2) ((stm h.2 (h.2 x0 15) (w32 (4 + x1)) x2) x0 18) (w32 ((w32 (28 + (w32 (7 * x1)))) + 0)) x6) ((stm (stm h.2 (h.2 x0 15) (w32 (4 + x1)) x2) ((stm h.2 (h.2 x0 15) (w32 (4 + x1)) x2) x0 18) (w32 ((w32 (28 + (w32 (7 * x1)))) + 0)) x6) x0 18) (w32 ((w32 (28 + (w32 (7 * x1)))) + 1)) x7) x0 18) (w32 ((w32 (28 + (w32 (7 * x1)))) + 2)) x8) ((stm (stm (stm (stm h.2 (h.2 x0 15) (w32 (4 + x1)) x2) ((stm h.2 (h.2 x0 15) (w32 (4 + x1)) x2) x0 18) (w32 ((w32 (28 + (w32 (7 * x1)))) + 0)) x6) ((stm (stm h.2 (h.2 x0 15) (w32 (4 + x1)) x2) ((stm h.2 (h.2 x0 15) (w32 (4 + x1)) x2) x0 18) (w32 ((w32 (28 + (w32 (7 * x1)))) + 0)) x6) x0 18) (w32 ((w32 (28 + (w32 (7 * x1)))) + 1)) x7) ((stm (stm (stm h.2 (h.2 x0 15) (w32 (4 + x1)) x2) ((stm h.2 (h.2 x0 15) (w32 (4 + x1)) x2) x0 18) (w32 ((w32 (28 + (w32 (7 * x1)))) + 0)) x6) ((stm (stm h.2 (h.2 x0 15) (w32 (4 + x1)) x2) ((stm h.2 (h.2 x0 15) (w32 (4 + x1)) x2) x0 18) (w32 ((w32 (28 + (w32 (7 * x1)))) + 0)) x6) x0 18) (w32 ((w32 (28 + (w32 (7 * x1)))) + 1)) x7) x0 18) (w32 ((w32 (28 + (w32 (7 * x1)))) + 2)) x8) x0 18) (w32 ((w32 (28 + (w32 (7 * x1)))) + 3)) x9) x0 18) (w32 ((w32 (28 + (w32 (7 * x1)))) + 4)) x10) ((stm (stm (stm (stm (stm (stm h.2 (h.2 x0 15) (w32 (4 + x1)) x2) ((stm h.2 (h.2 x0 15) (w32 (4 + x1)) x2) x0 18) (w32 ((w32 (28 + (w32 (7 * x1)))) + 0)) x6) ((stm (stm h.2 (h.2 x0 15) (w32 (4 + x1)) x2) ((stm h.2 (h.2 x0 15) (w32 (4 + x1)) x2) x0 18) (w32 ((w32 (28 + (w32 (7 * x1)))) + 0)) x6) x0 18) (w32 ((w32 (28 + (w32 (7 * x1)))) + 1)) x7) ((stm (stm (stm h.2 (h.2 x0 15) (w32 (4 + x1)) x2) ((stm h.2 (h.2 x0 15) (w32 (4 + x1)) x2) x0 18) (w32 ((w32 (28 + (w32 (7 * x1)))) + 0)) x6) ((stm (stm h.2 (h.2 x0 15) (w32 (4 + x1)) x2) ((stm h.2 (h.2 x0 15) (w32 (4 + x1)) x2) x0 18) (w32 ((w32 (28 + (w32 (7 * x1)))) + 0)) x6) x0 18) (w32 ((w32 (28 + (w32 (7 * x1)))) + 1)) x7) x0 18) (w32 ((w32 (28 + (w32 (7 * x1)))) + 2)) x8) ((stm (stm (stm (stm h.2 (h.2 x0 15) (w32 (4 + x1)) x2) ((stm h.2 (h.2 x0 15) (w32 (4 + x1)) x2) x0 18) (w32 ((w32 (28 + (w32 (7 * x1)))) + 0)) x6) ((stm (stm h.2 (h.2 x0 15) (w32 (4 + x1)) x2) ((stm h.2 (h.2 x0 15) (w32 (4 + x1)) x2) x0 18) (w32 ((w32 (28 + (w32 (7 * x1)))) + 0)) x6) x0 18) (w32 ((w32 (28 + (w32 (7 * x1)))) + 1)) x7) ((stm (stm (stm h.2 (h.2 x0 15) (w32 (4 + x1)) x2) ((stm h.2 (h.2 x0 15) (w32 (4 + x1)) x2) x0 18) (w32 ((w32 (28 + (w32 (7 * x1)))) + 0)) x6) ((stm (stm h.2 (h.2 x0 15) (w32 (4 + x1)) x2) ((stm h.2 (h.2 x0 15) (w32 (4 + x1)) x2) x0 18) (w32 ((w32 (28 + (w32 (7 * x1)))) + 0)) x6) x0 18) (w32 ((w32 (28 + (w32 (7 * x1)))) + 1)) x7) x0 18) (w32 ((w32 (28 + (w32 (7 * x1)))) + 2)) x8) x0 18) (w32 ((w32 (28 + (w32 (7 * x1)))) + 3)) x9) ((stm (stm (stm (stm (stm h.2 (h.2 x0 15) (w32 (4 + x1)) x2) ((stm h.2 (h.2 x0 15) (w32 (4 + x1)) x2) x0 18) (w32 ((w32 (28 + (w32 (7 * x1)))) + 0)) x6) ((stm (stm h.2 (h.2 x0 15) (w32 (4 + x1)) x2) ((stm h.2 (h.2 x0 15) (w32 (4 + x1)) x2) x0 18) (w32 ((w32 (28 + (w32 (7 * x1)))) + 0)) x6) x0 18) (w32 ((w32 (28 + (w32 (7 * x1)))) + 1)) x7) ((stm (stm (stm h.2 (h.2 x0 15) (w32 (4 + x1)) x2) ((stm h.2 (h.2 x0 15) (w32 (4 + x1)) x2) x0 18) (w32 ((w32 (28 + (w32 (7 * x1)))) + 0)) x6) ((stm (stm h.2 (h.2 x0 15) (w32 (4 + x1)) x2) ((stm h.2 (h.2 x0 15) (w32 (4 + x1)) x2) x0 18) (w32 ((w32 (28 + (w32 (7 * x1)))) + 0)) x6) x0 18) (w32 ((w32 (28 + (w32 (7 * x1)))) + 1)) x7) x0 18) (w32 ((w32 (28 + (w32 (7 * x1)))) + 2)) x8) ((stm (stm (stm (stm h.2 (h.2 x0 15) (w32 (4 + x1)) x2) ((stm h.2 (h.2 x0 15) (w32 (4 + x1)) x2) x0 18) (w32 ((w32 (28 + (w32 (7 * x1)))) + 0)) x6) ((stm (stm h.2 (h.2 x0 15) (w32 (4 + x1)) x2) ((stm h.2 (h.2 x0 15) (w32 (4 + x1)) x2) x0 18) (w32 ((w32 (28 + (w32 (7 * x1)))) + 0)) x6) x0 18) (w32 ((w32 (28 + (w32 (7 * x1)))) + 1)) x7) ((stm (stm (stm h.2 (h.2 x0 15) (w32 (4 + x1)) x2) ((stm h.2 (h.2 x0 15) (w32 (4 + x1)) x2) x0 18) (w32 ((w32 (28 + (w32 (7 * x1)))) + 0)) x6) ((stm (stm h.2 (h.2 x0 15) (w32 (4 + x1)) x2) ((stm h.2 (h.2 x0 15) (w32 (4 + x1)) x2) x0 18) (w32 ((w32 (28 + (w32 (7 * x1)))) + 0)) x6) x0 18) (w32 ((w32 (28 + (w32 (7 * x1)))) + 1)) x7) x0 18) (w32 ((w32 (28 + (w32 (7 * x1)))) + 2)) x8) x0 18) (w32 ((w32 (28 + (w32 (7 * x1)))) + 3)) x9) x0 18) (w32 ((w32 (28 + (w32 (7 * x1)))) + 4)) x10) x0 18) (w32 ((w32 (28 + (w32 (7 * x1)))) + 5)) x11) ((stm (stm (stm (stm (stm (stm (stm h.2 (h.2 x0 15) (w32 (4 + x1)) x2) ((stm h.2 (h.2 x0 15) (w32 (4 + x1)) x2) x0 18) (w32 ((w32 (28 + (w32 (7 * x1)))) + 0)) x6) ((stm (stm h.2 (h.2 x0 15) (w32 (4 + x1)) x2) ((stm h.2 (h.2 x0 15) (w32 (4 + x1)) x2) x0 18) (w32 ((w32 (28 + (w32 (7 * x1)))) + 0)) x6) x0 18) (w32 ((w32 (28 + (w32 (7 * x1)))) + 1)) x7) ((stm (stm (stm h.2 (h.2 x0 15) (w32 (4 + x1)) x2) ((stm h.2 (h.2 x0 15) (w32 (4 + x1)) x2) x0 18) (w32 ((w32 (28 + (w32 (7 * x1)))) + 0)) x6) ((stm (stm h.2 (h.2 x0 15) (w32 (4 + x1)) x2) ((stm h.2 (h.2 x0 15) (w32 (4 + x1)) x2) x0 18) (w32 ((w32 (28 + (w32 (7 * x1)))) + 0)) x6) x0 18) (w32 ((w32 (28 + (w32 (7 * x1)))) + 1)) x7) x0 18) (w32 ((w32 (28 + (w32 (7 * x1)))) + 2)) x8) ((stm (stm (stm (stm h.2 (h.2 x0 15) (w32 (4 + x1)) x2) ((stm h.2 (h.2 x0 15) (w32 (4 + x1)) x2) x0 18) (w32 ((w32 (28 + (w32 (7 * x1)))) + 0)) x6) ((stm (stm h.2 (h.2 x0 15) (w32 (4 + x1)) x2) ((stm h.2 (h.2 x0 15) (w32 (4 + x1)) x2) x0 18) (w32 ((w32 (28 + (w32 (7 * x1)))) + 0)) x6) x0 18) (w32 ((w32 (28 + (w32 (7 * x1)))) + 1)) x7) ((stm (stm (stm h.2 (h.2 x0 15) (w32 (4 + x1)) x2) ((stm h.2 (h.2 x0 15) (w32 (4 + x1)) x2) x0 18) (w32 ((w32 (28 + (w32 (7 * x1)))) + 0)) x6) ((stm (stm h.2 (h.2 x0 15) (w32 (4 + x1)) x2) ((stm h.2 (h.2 x0 15) (w32 (4 + x1)) x2) x0 18) (w32 ((w32 (28 + (w32 (7 * x1)))) + 0)) x6) x0 18) (w32 ((w32 (28 + (w32 (7 * x1)))) + 1)) x7) x0 18) (w32 ((w32 (28 + (w32 (7 * x1)))) + 2)) x8) x0 18) (w32 ((w32 (28 + (w32 (7 * x1)))) + 3)) x9) ((stm (stm (stm (stm (stm h.2 (h.2 x0 15) (w32 (4 + x1)) x2) ((stm h.2 (h.2 x0 15) (w32 (4 + x1)) x2) x0 18) (w32 ((w32 (28 + (w32 (7 * x1)))) + 0)) x6) ((stm (stm h.2 (h.2 x0 15) (w32 (4 + x1)) x2) ((stm h.2 (h.2 x0 15) (w32 (4 + x1)) x2) x0 18) (w32 ((w32 (28 + (w32 (7 * x1)))) + 0)) x6) x0 18) (w32 ((w32 (28 + (w32 (7 * x1)))) + 1)) x7) ((stm (stm (stm h.2 (h.2 x0 15) (w32 (4 + x1)) x2) ((stm h.2 (h.2 x0 15) (w32 (4 + x1)) x2) x0 18) (w32 ((w32 (28 + (w32 (7 * x1)))) + 0)) x6) ((stm (stm h.2 (h.2 x0 15) (w32 (4 + x1)) x2) ((stm h.2 (h.2 x0 15) (w32 (4 + x1)) x2) x0 18) (w32 ((w32 (28 + (w32 (7 * x1)))) + 0)) x6) x0 18) (w32 ((w32 (28 + (w32 (7 * x1)))) + 1)) x7) x0 18) (w32 ((w32 (28 + (w32 (7 * x1)))) + 2)) x8) ((stm (stm (stm (stm h.2 (h.2 x0 15) (w32 (4 + x1)) x2) ((stm h.2 (h.2 x0 15) (w32 (4 + x1)) x2) x0 18) (w32 ((w32 (28 + (w32 (7 * x1)))) + 0)) x6) ((stm (stm h.2 (h.2 x0 15) (w32 (4 + x1)) x2) ((stm h.2 (h.2 x0 15) (w32 (4 + x1)) x2) x0 18) (w32 ((w32 (28 + (w32 (7 * x1)))) + 0)) x6) x0 18) (w32 ((w32 (28 + (w32 (7 * x1)))) + 1)) x7) ((stm (stm (stm h.2 (h.2 x0 15) (w32 (4 + x1)) x2) ((stm h.2 (h.2 x0 15) (w32 (4 + x1)) x2) x0 18) (w32 ((w32 (28 + (w32 (7 * x1)))) + 0)) x6) ((stm (stm h.2 (h.2 x0 15) (w32 (4 + x1)) x2) ((stm h.2 (h.2 x0 15) (w32 (4 + x1)) x2) x0 18) (w32 ((w32 (28 + (w32 (7 * x1)))) + 0)) x6) x0 18) (w32 ((w32 (28 + (w32 (7 * x1)))) + 1)) x7) x0 18) (w32 ((w32 (28 + (w32 (7 * x1)))) + 2)) x8) x0 18) (w32 ((w32 (28 + (w32 (7 * x1)))) + 3)) x9) x0 18) (w32 ((w32 (28 + (w32 (7 * x1)))) + 4)) x10) ((stm (stm (stm (stm (stm (stm h.2 (h.2 x0 15) (w32 (4 + x1)) x2) ((stm h.2 (h.2 x0 15) (w32 (4 + x1)) x2) x0 18) (w32 ((w32 (28 + (w32 (7 * x1)))) + 0)) x6) ((stm (stm h.2 (h.2 x0 15) (w32 (4 + x1)) x2) ((stm h.2 (h.2 x0 15) (w32 (4 + x1)) x2) x0 18) (w32 ((w32 (28 + (w32 (7 * x1)))) + 0)) x6) x0 18) (w32 ((w32 (28 + (w32 (7 * x1)))) + 1)) x7) ((stm (stm (stm h.2 (h.2 x0 15) (w32 (4 + x1)) x2) ((stm h.2 (h.2 x0 15) (w32 (4 + x1)) x2) x0 18) (w32 ((w32 (28 + (w32 (7 * x1)))) + 0)) x6) ((stm (stm h.2 (h.2 x0 15) (w32 (4 + x1)) x2) ((stm h.2 (h.2 x0 15) (w32 (4 + x1)) x2) x0 18) (w32 ((w32 (28 + (w32 (7 * x1)))) + 0)) x6) x0 18) (w32 ((w32 (28 + (w32 (7 * x1)))) + 1)) x7) x0 18) (w32 ((w32 (28 + (w32 (7 * x1)))) + 2)) x8) ((stm (stm (stm (stm h.2 (h.2 x0 15) (w32 (4 + x1)) x2) ((stm h.2 (h.2 x0 15) (w32 (4 + x1)) x2) x0 18) (w32 ((w32 (28 + (w32 (7 * x1)))) + 0)) x6) ((stm (stm h.2 (h.2 x0 15) (w32 (4 + x1)) x2) ((stm h.2 (h.2 x0 15) (w32 (4 + x1)) x2) x0 18) (w32 ((w32 (28 + (w32 (7 * x1)))) + 0)) x6) x0 18) (w32 ((w32 (28 + (w32 (7 * x1)))) + 1)) x7) ((stm (stm (stm h.2 (h.2 x0 15) (w32 (4 + x1)) x2) ((stm h.2 (h.2 x0 15) (w32 (4 + x1)) x2) x0 18) (w32 ((w32 (28 + (w32 (7 * x1)))) + 0)) x6) ((stm (stm h.2 (h.2 x0 15) (w32 (4 + x1)) x2) ((stm h.2 (h.2 x0 15) (w32 (4 + x1)) x2) x0 18) (w32 ((w32 (28 + (w32 (7 * x1)))) + 0)) x6) x0 18) (w32 ((w32 (28 + (w32 (7 * x1)))) + 1)) x7) x0 18) (w32 ((w32 (28 + (w32 (7 * x1)))) + 2)) x8) x0 18) (w32 ((w32 (28 + (w32 (7 * x1)))) + 3)) x9) ((stm (stm (stm (stm (stm h.2 (h.2 x0 15) (w32 (4 + x1)) x2) ((stm h.2 (h.2 x0 15) (w32 (4 + x1)) x2) x0 18) (w32 ((w32 (28 + (w32 (7 * x1)))) + 0)) x6) ((stm (stm h.2 (h.2 x0 15) (w32 (4 + x1)) x2) ((stm h.2 (h.2 x0 15) (w32 (4 + x1)) x2) x0 18) (w32 ((w32 (28 + (w32 (7 * x1)))) + 0)) x6) x0 18) (w32 ((w32 (28 + (w32 (7 * x1)))) + 1)) x7) ((stm (stm (stm h.2 (h.2 x0 15) (w32 (4 + x1)) x2) ((stm h.2 (h.2 x0 15) (w32 (4 + x1)) x2) x0 18) (w32 ((w32 (28 + (w32 (7 * x1)))) + 0)) x6) ((stm (stm h.2 (h.2 x0 15) (w32 (4 + x1)) x2) ((stm h.2 (h.2 x0 15) (w32 (4 + x1)) x2) x0 18) (w32 ((w32 (28 + (w32 (7 * x1)))) + 0)) x6) x0 18) (w32 ((w32 (28 + (w32 (7 * x1)))) + 1)) x7) x0 18) (w32 ((w32 (28 + (w32 (7 * x1)))) + 2)) x8) ((stm (stm (stm (stm h.2 (h.2 x0 15) (w32 (4 + x1)) x2) ((stm h.2 (h.2 x0 15) (w32 (4 + x1)) x2) x0 18) (w32 ((w32 (28 + (w32 (7 * x1)))) + 0)) x6) ((stm (stm h.2 (h.2 x0 15) (w32 (4 + x1)) x2) ((stm h.2 (h.2 x0 15) (w32 (4 + x1)) x2) x0 18) (w32 ((w32 (28 + (w32 (7 * x1)))) + 0)) x6) x0 18) (w32 ((w32 (28 + (w32 (7 * x1)))) + 1)) x7) ((stm (stm (stm h.2 (h.2 x0 15) (w32 (4 + x1)) x2) ((stm h.2 (h.2 x0 15) (w32 (4 + x1)) x2) x0 18) (w32 ((w32 (28 + (w32 (7 * x1)))) + 0)) x6) ((stm (stm h.2 (h.2 x0 15) (w32 (4 + x1)) x2) ((stm h.2 (h.2 x0 15) (w32 (4 + x1)) x2) x0 18) (w32 ((w32 (28 + (w32 (7 * x1)))) + 0)) x6) x0 18) (w32 ((w32 (28 + (w32 (7 * x1)))) + 1)) x7) x0 18) (w32 ((w32 (28 + (w32 (7 * x1)))) + 2)) x8) x0 18) (w32 ((w32 (28 + (w32 (7 * x1)))) + 3)) x9) x0 18) (w32 ((w32 (28 + (w32 (7 * x1)))) + 4)) x10) x0 18) (w32 ((w32 (28 + (w32 (7 * x1)))) + 5)) x11) x0 18) (w32 ((w32 (28 + (w32 (7 * x1)))) + 6)) x12) ((stm (stm (stm (stm (stm (stm (stm (stm h.2 (h.2 x0 15) (w32 (4 + x1)) x2) ((stm h.2 (h.2 x0 15) (w32 (4 + x1)) x2) x0 18) (w32 ((w32 (28 + (w32 (7 * x1)))) + 0)) x6) ((stm (stm h.2 (h.2 x0 15) (w32 (4 + x1)) x2) ((stm h.2 (h.2 x0 15) (w32 (4 + x1)) x2) x0 18) (w32 ((w32 (28 + (w32 (7 * x1)))) + 0)) x6) x0 18) (w32 ((w32 (28 + (w32 (7 * x1)))) + 1)) x7) ((stm (stm (stm h.2 (h.2 x0 15) (w32 (4 + x1)) x2) ((stm h.2 (h.2 x0 15) (w32 (4 + x1)) x2) x0 18) (w32 ((w32 (28 + (w32 (7 * x1)))) + 0)) x6) ((stm (stm h.2 (h.2 x0 15) (w32 (4 + x1)) x2) ((stm h.2 (h.2 x0 15) (w32 (4 + x1)) x2) x0 18) (w32 ((w32 (28 + (w32 (7 * x1)))) + 0)) x6) x0 18) (w32 ((w32 (28 + (w32 (7 * x1)))) + 1)) x7) x0 18) (w32 ((w32 (28 + (w32 (7 * x1)))) + 2)) x8) ((stm (stm (stm (stm h.2 (h.2 x0 15) (w32 (4 + x1)) x2) ((stm h.2 (h.2 x0 15) (w32 (4 + x1)) x2) x0 18) (w32 ((w32 (28 + (w32 (7 * x1)))) + 0)) x6) ((stm (stm h.2 (h.2 x0 15) (w32 (4 + x1)) x2) ((stm h.2 (h.2 x0 15) (w32 (4 + x1)) x2) x0 18) (w32 ((w32 (28 + (w32 (7 * x1)))) + 0)) x6) x0 18) (w32 ((w32 (28 + (w32 (7 * x1)))) + 1)) x7) ((stm (stm (stm h.2 (h.2 x0 15) (w32 (4 + x1)) x2) ((stm h.2 (h.2 x0 15) (w32 (4 + x1)) x2) x0 18) (w32 ((w32 (28 + (w32 (7 * x1)))) + 0)) x6) ((stm (stm h.2 (h.2 x0 15) (w32 (4 + x1)) x2) ((stm h.2 (h.2 x0 15) (w32 (4 + x1)) x2) x0 18) (w32 ((w32 (28 + (w32 (7 * x1)))) + 0)) x6) x0 18) (w32 ((w32 (28 + (w32 (7 * x1)))) + 1)) x7) x0 18) (w32 ((w32 (28 + (w32 (7 * x1)))) + 2)) x8) x0 18) (w32 ((w32 (28 + (w32 (7 * x1)))) + 3)) x9) ((stm (stm (stm (stm (stm h.2 (h.2 x0 15) (w32 (4 + x1)) x2) ((stm h.2 (h.2 x0 15) (w32 (4 + x1)) x2) x0 18) (w32 ((w32 (28 + (w32 (7 * x1)))) + 0)) x6) ((stm (stm h.2 (h.2 x0 15) (w32 (4 + x1)) x2) ((stm h.2 (h.2 x0 15) (w32 (4 + x1)) x2) x0 18) (w32 ((w32 (28 + (w32 (7 * x1)))) + 0)) x6) x0 18) (w32 ((w32 (28 + (w32 (7 * x1)))) + 1)) x7) ((stm (stm (stm h.2 (h.2 x0 15) (w32 (4 + x1)) x2) ((stm h.2 (h.2 x0 15) (w32 (4 + x1)) x2) x0 18) (w32 ((w32 (28 + (w32 (7 * x1)))) + 0)) x6) ((stm (stm h.2 (h.2 x0 15) (w32 (4 + x1)) x2) ((stm h.2 (h.2 x0 15) (w32 (4 + x1)) x2) x0 18) (w32 ((w32 (28 + (w32 (7 * x1)))) + 0)) x6) x0 18) (w32 ((w32 (28 + (w32 (7 * x1)))) + 1)) x7) x0 18) (w32 ((w32 (28 + (w32 (7 * x1)))) + 2)) x8) ((stm (stm (stm (stm h.2 (h.2 x0 15) (w32 (4 + x1)) x2) ((stm h.2 (h.2 x0 15) (w32 (4 + x1)) x2) x0 18) (w32 ((w32 (28 + (w32 (7 * x1)))) + 0)) x6) ((stm (stm h.2 (h.2 x0 15) (w32 (4 + x1)) x2) ((stm h.2 (h.2 x0 15) (w32 (4 + x1)) x2) x0 18) (w32 ((w32 (28 + (w32 (7 * x1)))) + 0)) x6) x0 18) (w32 ((w32 (28 + (w32 (7 * x1)))) + 1)) x7) ((stm (stm (stm h.2 (h.2 x0 15) (w32 (4 + x1)) x2) ((stm h.2 (h.2 x0 15) (w32 (4 + x1)) x2) x0 18) (w32 ((w32 (28 + (w32 (7 * x1)))) + 0)) x6) ((stm (stm h.2 (h.2 x0 15) (w32 (4 + x1)) x2) ((stm h.2 (h.2 x0 15) (w32 (4 + x1)) x2) x0 18) (w32 ((w32 (28 + (w32 (7 * x1)))) + 0)) x6) x0 18) (w32 ((w32 (28 + (w32 (7 * x1)))) + 1)) x7) x0 18) (w32 ((w32 (28 + (w32 (7 * x1)))) + 2)) x8) x0 18) (w32 ((w32 (28 + (w32 (7 * x1)))) + 3)) x9) x0 18) (w32 ((w32 (28 + (w32 (7 * x1)))) + 4)) x10) ((stm (stm (stm (stm (stm (stm h.2 (h.2 x0 15) (w32 (4 + x1)) x2) ((stm h.2 (h.2 x0 15) (w32 (4 + x1)) x2) x0 18) (w32 ((w32 (28 + (w32 (7 * x1)))) + 0)) x6) ((stm (stm h.2 (h.2 x0 15) (w32 (4 + x1)) x2) ((stm h.2 (h.2 x0 15) (w32 (4 + x1)) x2) x0 18) (w32 ((w32 (28 + (w32 (7 * x1)))) + 0)) x6) x0 18) (w32 ((w32 (28 + (w32 (7 * x1)))) + 1)) x7) ((stm (stm (stm h.2 (h.2 x0 15) (w32 (4 + x1)) x2) ((stm h.2 (h.2 x0 15) (w32 (4 + x1)) x2) x0 18) (w32 ((w32 (28 + (w32 (7 * x1)))) + 0)) x6) ((stm (stm h.2 (h.2 x0 15) (w32 (4 + x1)) x2) ((stm h.2 (h.2 x0 15) (w32 (4 + x1)) x2) x0 18) (w32 ((w32 (28 + (w32 (7 * x1)))) + 0)) x6) x0 18) (w32 ((w32 (28 + (w32 (7 * x1)))) + 1)) x7) x0 18) (w32 ((w32 (28 + (w32 (7 * x1)))) + 2)) x8) ((stm (stm (stm (stm h.2 (h.2 x0 15) (w32 (4 + x1)) x2) ((stm h.2 (h.2 x0 15) (w32 (4 + x1)) x2) x0 18) (w32 ((w32 (28 + (w32 (7 * x1)))) + 0)) x6) ((stm (stm h.2 (h.2 x0 15) (w32 (4 + x1)) x2) ((stm h.2 (h.2 x0 15) (w32 (4 + x1)) x2) x0 18) (w32 ((w32 (28 + (w32 (7 * x1)))) + 0)) x6) x0 18) (w32 ((w32 (28 + (w32 (7 * x1)))) + 1)) x7) ((stm (stm (stm h.2 (h.2 x0 15) (w32 (4 + x1)) x2) ((stm h.2 (h.2 x0 15) (w32 (4 + x1)) x2) x0 18) (w32 ((w32 (28 + (w32 (7 * x1)))) + 0)) x6) ((stm (stm h.2 (h.2 x0 15) (w32 (4 + x1)) x2) ((stm h.2 (h.2 x0 15) (w32 (4 + x1)) x2) x0 18) (w32 ((w32 (28 + (w32 (7 * x1)))) + 0)) x6) x0 18) (w32 ((w32 (28 + (w32 (7 * x1)))) + 1)) x7) x0 18) (w32 ((w32 (28 + (w32 (7 * x1)))) + 2)) x8) x0 18) (w32 ((w32 (28 + (w32 (7 * x1)))) + 3)) x9) ((stm (stm (stm (stm (stm h.2 (h.2 x0 15) (w32 (4 + x1)) x2) ((stm h.2 (h.2 x0 15) (w32 (4 + x1)) x2) x0 18) (w32 ((w32 (28 + (w32 (7 * x1)))) + 0)) x6) ((stm (stm h.2 (h.2 x0 15) (w32 (4 + x1)) x2) ((stm h.2 (h.2 x0 15) (w32 (4 + x1)) x2) x0 18) (w32 ((w32 (28 + (w32 (7 * x1)))) + 0)) x6) x0 18) (w32 ((w32 (28 + (w32 (7 * x1)))) + 1)) x7) ((stm (stm (stm h.2 (h.2 x0 15) (w32 (4 + x1)) x2) ((stm h.2 (h.2 x0 15) (w32 (4 + x1)) x2) x0 18) (w32 ((w32 (28 + (w32 (7 * x1)))) + 0)) x6) ((stm (stm h.2 (h.2 x0 15) (w32 (4 + x1)) x2) ((stm h.2 (h.2 x0 15) (w32 (4 + x1)) x2) x0 18) (w32 ((w32 (28 + (w32 (7 * x1)))) + 0)) x6) x0 18) (w32 ((w32 (28 + (w32 (7 * x1)))) + 1)) x7) x0 18) (w32 ((w32 (28 + (w32 (7 * x1)))) + 2)) x8) ((stm (stm (stm (stm h.2 (h.2 x0 15) (w32 (4 + x1)) x2) ((stm h.2 (h.2 x0 15) (w32 (4 + x1)) x2) x0 18) (w32 ((w32 (28 + (w32 (7 * x1)))) + 0)) x6) ((stm (stm h.2 (h.2 x0 15) (w32 (4 + x1)) x2) ((stm h.2 (h.2 x0 15) (w32 (4 + x1)) x2) x0 18) (w32 ((w32 (28 + (w32 (7 * x1)))) + 0)) x6) x0 18) (w32 ((w32 (28 + (w32 (7 * x1)))) + 1)) x7) ((stm (stm (stm h.2 (h.2 x0 15) (w32 (4 + x1)) x2) ((stm h.2 (h.2 x0 15) (w32 (4 + x1)) x2) x0 18) (w32 ((w32 (28 + (w32 (7 * x1)))) + 0)) x6) ((stm (stm h.2 (h.2 x0 15) (w32 (4 + x1)) x2) ((stm h.2 (h.2 x0 15) (w32 (4 + x1)) x2) x0 18) (w32 ((w32 (28 + (w32 (7 * x1)))) + 0)) x6) x0 18) (w32 ((w32 (28 + (w32 (7 * x1)))) + 1)) x7) x0 18) (w32 ((w32 (28 + (w32 (7 * x1)))) + 2)) x8) x0 18) (w32 ((w32 (28 + (w32 (7 * x1)))) + 3)) x9) x0 18) (w32 ((w32 (28 + (w32 (7 * x1)))) + 4)) x10) x0 18) (w32 ((w32 (28 + (w32 (7 * x1)))) + 5)) x11) ((stm (stm (stm (stm (stm (stm (stm h.2 (h.2 x0 15) (w32 (4 + x1)) x2) ((stm h.2 (h.2 x0 15) (w32 (4 + x1)) x2) x0 18) (w32 ((w32 (28 + (w32 (7 * x1)))) + 0)) x6) ((stm (stm h.2 (h.2 x0 15) (w32 (4 + x1)) x2) ((stm h.2 (h.2 x0 15) (w32 (4 + x1)) x2) x0 18) (w32 ((w32 (28 + (w32 (7 * x1)))) + 0)) x6) x0 18) (w32 ((w32 (28 + (w32 (7 * x1)))) + 1)) x7) ((stm (stm (stm h.2 (h.2 x0 15) (w32 (4 + x1)) x2) ((stm h.2 (h.2 x0 15) (w32 (4 + x1)) x2) x0 18) (w32 ((w32 (28 + (w32 (7 * x1)))) + 0)) x6) ((stm (stm h.2 (h.2 x0 15) (w32 (4 + x1)) x2) ((stm h.2 (h.2 x0 15) (w32 (4 + x1)) x2) x0 18) (w32 ((w32 (28 + (w32 (7 * x1)))) + 0)) x6) x0 18) (w32 ((w32 (28 + (w32 (7 * x1)))) + 1)) x7) x0 18) (w32 ((w32 (28 + (w32 (7 * x1)))) + 2)) x8) ((stm (stm (stm (stm h.2 (h.2 x0 15) (w32 (4 + x1)) x2) ((stm h.2 (h.2 x0 15) (w32 (4 + x1)) x2) x0 18) (w32 ((w32 (28 + (w32 (7 * x1)))) + 0)) x6) ((stm (stm h.2 (h.2 x0 15) (w32 (4 + x1)) x2) ((stm h.2 (h.2 x0 15) (w32 (4 + x1)) x2) x0 18) (w32 ((w32 (28 + (w32 (7 * x1)))) + 0)) x6) x0 18) (w32 ((w32 (28 + (w32 (7 * x1)))) + 1)) x7) ((stm (stm (stm h.2 (h.2 x0 15) (w32 (4 + x1)) x2) ((stm h.2 (h.2 x0 15) (w32 (4 + x1)) x2) x0 18) (w32 ((w32 (28 + (w32 (7 * x1)))) + 0)) x6) ((stm (stm h.2 (h.2 x0 15) (w32 (4 + x1)) x2) ((stm h.2 (h.2 x0 15) (w32 (4 + x1)) x2) x0 18) (w32 ((w32 (28 + (w32 (7 * x1)))) + 0)) x6) x0 18) (w32 ((w32 (28 + (w32 (7 * x1)))) + 1)) x7) x0 18) (w32 ((w32 (28 + (w32 (7 * x1)))) + 2)) x8) x0 18) (w32 ((w32 (28 + (w32 (7 * x1)))) + 3)) x9) ((stm (stm (stm (stm (stm h.2 (h.2 x0 15) (w32 (4 + x1)) x2) ((stm h.2 (h.2 x0 15) (w32 (4 + x1)) x2) x0 18) (w32 ((w32 (28 + (w32 (7 * x1)))) + 0)) x6) ((stm (stm h.2 (h.2 x0 15) (w32 (4 + x1)) x2) ((stm h.2 (h.2 x0 15) (w32 (4 + x1)) x2) x0 18) (w32 ((w32 (28 + (w32 (7 * x1)))) + 0)) x6) x0 18) (w32 ((w32 (28 + (w32 (7 * x1)))) + 1)) x7) ((stm (stm (stm h.2 (h.2 x0 15) (w32 (4 + x1)) x2) ((stm h.2 (h.2 x0 15) (w32 (4 + x1)) x2) x0 18) (w32 ((w32 (28 + (w32 (7 * x1)))) + 0)) x6) ((stm (stm h.2 (h.2 x0 15) (w32 (4 + x1)) x2) ((stm h.2 (h.2 x0 15) (w32 (4 + x1)) x2) x0 18) (w32 ((w32 (28 + (w32 (7 * x1)))) + 0)) x6) x0 18) (w32 ((w32 (28 + (w32 (7 * x1)))) + 1)) x7) x0 18) (w32 ((w32 (28 + (w32 (7 * x1)))) + 2)) x8) ((stm (stm (stm (stm h.2 (h.2 x0 15) (w32 (4 + x1)) x2) ((stm h.2 (h.2 x0 15) (w32 (4 + x1)) x2) x0 18) (w32 ((w32 (28 + (w32 (7 * x1)))) + 0)) x6) ((stm (stm h.2 (h.2 x0 15) (w32 (4 + x1)) x2) ((stm h.2 (h.2 x0 15) (w32 (4 + x1)) x2) x0 18) (w32 ((w32 (28 + (w32 (7 * x1)))) + 0)) x6) x0 18) (w32 ((w32 (28 + (w32 (7 * x1)))) + 1)) x7) ((stm (stm (stm h.2 (h.2 x0 15) (w32 (4 + x1)) x2) ((stm h.2 (h.2 x0 15) (w32 (4 + x1)) x2) x0 18) (w32 ((w32 (28 + (w32 (7 * x1)))) + 0)) x6) ((stm (stm h.2 (h.2 x0 15) (w32 (4 + x1)) x2) ((stm h.2 (h.2 x0 15) (w32 (4 + x1)) x2) x0 18) (w32 ((w32 (28 + (w32 (7 * x1)))) + 0)) x6) x0 18) (w32 ((w32 (28 + (w32 (7 * x1)))) + 1)) x7) x0 18) (w32 ((w32 (28 + (w32 (7 * x1)))) + 2)) x8) x0 18) (w32 ((w32 (28 + (w32 (7 * x1)))) + 3)) x9) x0 18) (w32 ((w32 (28 + (w32 (7 * x1)))) + 4)) x10) ((stm (stm (stm (stm (stm (stm h.2 (h.2 x0 15) (w32 (4 + x1)) x2) ((stm h.2 (h.2 x0 15) (w32 (4 + x1)) x2) x0 18) (w32 ((w32 (28 + (w32 (7 * x1)))) + 0)) x6) ((stm (stm h.2 (h.2 x0 15) (w32 (4 + x1)) x2) ((stm h.2 (h.2 x0 15) (w32 (4 + x1)) x2) x0 18) (w32 ((w32 (28 + (w32 (7 * x1)))) + 0)) x6) x0 18) (w32 ((w32 (28 + (w32 (7 * x1)))) + 1)) x7) ((stm (stm (stm h.2 (h.2 x0 15) (w32 (4 + x1)) x2) ((stm h.2 (h.2 x0 15) (w32 (4 + x1)) x2) x0 18) (w32 ((w32 (28 + (w32 (7 * x1)))) + 0)) x6) ((stm (stm h.2 (h.2 x0 15) (w32 (4 + x1)) x2) ((stm h.2 (h.2 x0 15) (w32 (4 + x1)) x2) x0 18) (w32 ((w32 (28 + (w32 (7 * x1)))) + 0)) x6) x0 18) (w32 ((w32 (28 + (w32 (7 * x1)))) + 1)) x7) x0 18) (w32 ((w32 (28 + (w32 (7 * x1)))) + 2)) x8) ((stm (stm (stm (stm h.2 (h.2 x0 15) (w32 (4 + x1)) x2) ((stm h.2 (h.2 x0 15) (w32 (4 + x1)) x2) x0 18) (w32 ((w32 (28 + (w32 (7 * x1)))) + 0)) x6) ((stm (stm h.2 (h.2 x0 15) (w32 (4 + x1)) x2) ((stm h.2 (h.2 x0 15) (w32 (4 + x1)) x2) x0 18) (w32 ((w32 (28 + (w32 (7 * x1)))) + 0)) x6) x0 18) (w32 ((w32 (28 + (w32 (7 * x1)))) + 1)) x7) ((stm (stm (stm h.2 (h.2 x0 15) (w32 (4 + x1)) x2) ((stm h.2 (h.2 x0 15) (w32 (4 + x1)) x2) x0 18) (w32 ((w32 (28 + (w32 (7 * x1)))) + 0)) x6) ((stm (stm h.2 (h.2 x0 15) (w32 (4 + x1)) x2) ((stm h.2 (h.2 x0 15) (w32 (4 + x1)) x2) x0 18) (w32 ((w32 (28 + (w32 (7 * x1)))) + 0)) x6) x0 18) (w32 ((w32 (28 + (w32 (7 * x1)))) + 1)) x7) x0 18) (w32 ((w32 (28 + (w32 (7 * x1)))) + 2)) x8) x0 18) (w32 ((w32 (28 + (w32 (7 * x1)))) + 3)) x9) ((stm (stm (stm (stm (stm h.2 (h.2 x0 15) (w32 (4 + x1)) x2) ((stm h.2 (h.2 x0 15) (w32 (4 + x1)) x2) x0 18) (w32 ((w32 (28 + (w32 (7 * x1)))) + 0)) x6) ((stm (stm h.2 (h.2 x0 15) (w32 (4 + x1)) x2) ((stm h.2 (h.2 x0 15) (w32 (4 + x1)) x2) x0 18) (w32 ((w32 (28 + (w32 (7 * x1)))) + 0)) x6) x0 18) (w32 ((w32 (28 + (w32 (7 * x1)))) + 1)) x7) ((stm (stm (stm h.2 (h.2 x0 15) (w32 (4 + x1)) x2) ((stm h.2 (h.2 x0 15) (w32 (4 + x1)) x2) x0 18) (w32 ((w32 (28 + (w32 (7 * x1)))) + 0)) x6) ((stm (stm h.2 (h.2 x0 15) (w32 (4 + x1)) x2) ((stm h.2 (h.2 x0 15) (w32 (4 + x1)) x2) x0 18) (w32 ((w32 (28 + (w32 (7 * x1)))) + 0)) x6) x0 18) (w32 ((w32 (28 + (w32 (7 * x1)))) + 1)) x7) x0 18) (w32 ((w32 (28 + (w32 (7 * x1)))) + 2)) x8) ((stm (stm (stm (stm h.2 (h.2 x0 15) (w32 (4 + x1)) x2) ((stm h.2 (h.2 x0 15) (w32 (4 + x1)) x2) x0 18) (w32 ((w32 (28 + (w32 (7 * x1)))) + 0)) x6) ((stm (stm h.2 (h.2 x0 15) (w32 (4 + x1)) x2) ((stm h.2 (h.2 x0 15) (w32 (4 + x1)) x2) x0 18) (w32 ((w32 (28 + (w32 (7 * x1)))) + 0)) x6) x0 18) (w32 ((w32 (28 + (w32 (7 * x1)))) + 1)) x7) ((stm (stm (stm h.2 (h.2 x0 15) (w32 (4 + x1)) x2) ((stm h.2 (h.2 x0 15) (w32 (4 + x1)) x2) x0 18) (w32 ((w32 (28 + (w32 (7 * x1)))) + 0)) x6) ((stm (stm h.2 (h.2 x0 15) (w32 (4 + x1)) x2) ((stm h.2 (h.2 x0 15) (w32 (4 + x1)) x2) x0 18) (w32 ((w32 (28 + (w32 (7 * x1)))) + 0)) x6) x0 18) (w32 ((w32 (28 + (w32 (7 * x1)))) + 1)) x7) x0 18) (w32 ((w32 (28 + (w32 (7 * x1)))) + 2)) x8) x0 18) (w32 ((w32 (28 + (w32 (7 * x1)))) + 3)) x9) x0 18) (w32 ((w32 (28 + (w32 (7 * x1)))) + 4)) x10) x0 18) (w32 ((w32 (28 + (w32 (7 * x1)))) + 5)) x11) x0 18) (w32 ((w32 (28 + (w32 (7 * x1)))) + 6)) x12) x0 13) 9) + 1)))) else none else none else none else none else none else none else none else none else none else none else none else none else none else none else none else none else none else none else none) else (some (none, h)) else none := by
  refine s_fg (ls1 := [(2, x0), (0, x1), (1, x2), (9, 0), (9, 0), (9, 0), (0, x6), (0, x7), (0, x8), (0, x9), (0, x10), (0, x11), (0, x12), (9, 0)]) (tk (n := 25) t200_4 rfl) rfl ?_
  refine s_aload_n (pc1 := 292) (tk (n := 25) t200_4 rfl) rfl rfl rfl ?_
  refine s_getf (pc1 := 295) (c := 12) (t1 := 0) (tk (n := 26) t200_4 rfl) rfl rfl (by decide) rfl rfl ?_
  refine s_if_le (pc1 := 298) (pt := 299) (tk (n := 27) t200_4 rfl) rfl rfl rfl ?_ ?_
  · refine s_aload_n (pc1 := 300) (tk (n := 29) t200_4 rfl) rfl rfl rfl ?_
    refine s_getf (pc1 := 303) (c := 12) (t1 := 2) (tk (n := 0) t200_5 rfl) rfl rfl (by decide) rfl rfl ?_
    refine s_iconst (pc1 := 304) (tk (n := 1) t200_5 rfl) rfl rfl  ?_
    refine s_iload_n (pc1 := 305) (tk (n := 2) t200_5 rfl) rfl rfl rfl ?_
    refine s_iadd (pc1 := 306) (tk (n := 3) t200_5 rfl) rfl rfl  ?_
    refine s_lload_n (pc1 := 307) (tk (n := 4) t200_5 rfl) rfl rfl rfl ?_
    refine s_last (pc1 := 308) (tk (n := 5) t200_5 rfl) rfl rfl  ?_
    refine s_bipush (pc1 := 310) (tk (n := 6) t200_5 rfl) rfl rfl  ?_
    refine s_bipush (pc1 := 312) (tk (n := 7) t200_5 rfl) rfl rfl  ?_
    refine s_iload_n (pc1 := 313) (tk (n := 8) t200_5 rfl) rfl rfl rfl ?_
    refine s_imul (pc1 := 314) (tk (n := 9) t200_5 rfl) rfl rfl  ?_
    refine s_iadd (pc1 := 315) (tk (n := 10) t200_5 rfl) rfl rfl  ?_
    refine s_istore (pc1 := 317) (ls1 := [(2, x0), (0, x1), (1, x2), (9, 0), (9, 0), (9, 0), (0, x6), (0, x7), (0, x8), (0, x9), (0, x10), (0, x11), (0, x12), (0, w32 (28 + (w32 (7 * x1))))]) (tk (n := 11) t200_5 rfl) rfl rfl rfl rfl ?_
    refine s_aload_n (pc1 := 318) (tk (n := 12) t200_5 rfl) rfl rfl rfl ?_
    refine s_getf (pc1 := 321) (c := 12) (t1 := 2) (tk (n := 13) t200_5 rfl) rfl rfl (by decide) rfl rfl ?_
    refine s_iload (pc1 := 323) (tk (n := 14) t200_5 rfl) rfl rfl rfl ?_
    refine s_iconst (pc1 := 324) (tk (n := 15) t200_5 rfl) rfl rfl  ?_
    refine s_iadd (pc1 := 325) (tk (n := 16) t200_5 rfl) rfl rfl  ?_
    refine s_iload (pc1 := 327) (tk (n := 17) t200_5 rfl) rfl rfl rfl ?_
    refine s_iast (pc1 := 328) (tk (n := 18) t200_5 rfl) rfl rfl  ?_
    refine s_aload_n (pc1 := 329) (tk (n := 19) t200_5 rfl) rfl rfl rfl ?_
    refine s_getf (pc1 := 332) (c := 12) (t1 := 2) (tk (n := 20) t200_5 rfl) rfl rfl (by decide) rfl rfl ?_
    refine s_iload (pc1 := 334) (tk (n := 21) t200_5 rfl) rfl rfl rfl ?_
    refine s_iconst (pc1 := 335) (tk (n := 22) t200_5 rfl) rfl rfl  ?_
    refine s_iadd (pc1 := 336) (tk (n := 23) t200_5 rfl) rfl rfl  ?_
    refine s_iload (pc1 := 338) (tk (n := 24) t200_5 rfl) rfl rfl rfl ?_
    refine s_iast (pc1 := 339) (tk (n := 25) t200_5 rfl) rfl rfl  ?_
    refine s_aload_n (pc1 := 340) (tk (n := 26) t200_5 rfl) rfl rfl rfl ?_
    refine s_getf (pc1 := 343) (c := 12) (t1 := 2) (tk (n := 27) t200_5 rfl) rfl rfl (by decide) rfl rfl ?_
    refine s_iload (pc1 := 345) (tk (n := 28) t200_5 rfl) rfl rfl rfl ?_
    refine s_iconst (pc1 := 346) (tk (n := 29) t200_5 rfl) rfl rfl  ?_
    refine s_iadd (pc1 := 347) (tk (n := 0) t200_6 rfl) rfl rfl  ?_
    refine s_iload (pc1 := 349) (tk (n := 1) t200_6 rfl) rfl rfl rfl ?_
    refine s_iast (pc1 := 350) (tk (n := 2) t200_6 rfl) rfl rfl  ?_
    refine s_aload_n (pc1 := 351) (tk (n := 3) t200_6 rfl) rfl rfl rfl ?_
    refine s_getf (pc1 := 354) (c := 12) (t1 := 2) (tk (n := 4) t200_6 rfl) rfl rfl (by decide) rfl rfl ?_
    refine s_iload (pc1 := 356) (tk (n := 5) t200_6 rfl) rfl rfl rfl ?_
    refine s_iconst (pc1 := 357) (tk (n := 6) t200_6 rfl) rfl rfl  ?_
    refine s_iadd (pc1 := 358) (tk (n := 7) t200_6 rfl) rfl rfl  ?_
    refine s_iload (pc1 := 360) (tk (n := 8) t200_6 rfl) rfl rfl rfl ?_
    refine s_iast (pc1 := 361) (tk (n := 9) t200_6 rfl) rfl rfl  ?_
    refine s_aload_n (pc1 := 362) (tk (n := 10) t200_6 rfl) rfl rfl rfl ?_
    refine s_getf (pc1 := 365) (c := 12) (t1 := 2) (tk (n := 11) t200_6 rfl) rfl rfl (by decide) rfl rfl ?_
    refine s_iload (pc1 := 367) (tk (n := 12) t200_6 rfl) rfl rfl rfl ?_
    refine s_iconst (pc1 := 368) (tk (n := 13) t200_6 rfl) rfl rfl  ?_
    refine s_iadd (pc1 := 369) (tk (n := 14) t200_6 rfl) rfl rfl  ?_
    refine s_iload (pc1 := 371) (tk (n := 15) t200_6 rfl) rfl rfl rfl ?_
    refine s_iast (pc1 := 372) (tk (n := 16) t200_6 rfl) rfl rfl  ?_
    refine s_aload_n (pc1 := 373) (tk (n := 17) t200_6 rfl) rfl rfl rfl ?_
    refine s_getf (pc1 := 376) (c := 12) (t1 := 2) (tk (n := 18) t200_6 rfl) rfl rfl (by decide) rfl rfl ?_
    refine s_iload (pc1 := 378) (tk (n := 19) t200_6 rfl) rfl rfl rfl ?_
    refine s_iconst (pc1 := 379) (tk (n := 20) t200_6 rfl) rfl rfl  ?_
    refine s_iadd (pc1 := 380) (tk (n := 21) t200_6 rfl) rfl rfl  ?_
    refine s_iload (pc1 := 382) (tk (n := 22) t200_6 rfl) rfl rfl rfl ?_
    refine s_iast (pc1 := 383) (tk (n := 23) t200_6 rfl) rfl rfl  ?_
    refine s_aload_n (pc1 := 384) (tk (n := 24) t200_6 rfl) rfl rfl rfl ?_
    refine s_getf (pc1 := 387) (c := 12) (t1 := 2) (tk (n := 25) t200_6 rfl) rfl rfl (by decide) rfl rfl ?_
    refine s_iload (pc1 := 389) (tk (n := 26) t200_6 rfl) rfl rfl rfl ?_
    refine s_bipush (pc1 := 391) (tk (n := 27) t200_6 rfl) rfl rfl  ?_
    refine s_iadd (pc1 := 392) (tk (n := 28) t200_6 rfl) rfl rfl  ?_
    refine s_iload (pc1 := 394) (tk (n := 29) t200_6 rfl) rfl rfl rfl ?_
    refine s_iast (pc1 := 395) (tk (n := 0) t200_7 rfl) rfl rfl  ?_
    refine s_aload_n (pc1 := 396) (tk (n := 1) t200_7 rfl) rfl rfl rfl ?_
    refine s_getf (pc1 := 399) (c := 12) (t1 := 2) (tk (n := 2) t200_7 rfl) rfl rfl (by decide) rfl rfl ?_
    refine s_bipush (pc1 := 401) (tk (n := 3) t200_7 rfl) rfl rfl  ?_
    refine s_dupP (pc1 := 402) (tk (n := 4) t200_7 rfl) rfl rfl  ?_
    refine s_iald (pc1 := 403) (tk (n := 5) t200_7 rfl) rfl rfl  ?_
    refine s_iconst (pc1 := 404) (tk (n := 6) t200_7 rfl) rfl rfl  ?_
    refine s_iadd (pc1 := 405) (tk (n := 7) t200_7 rfl) rfl rfl  ?_
    refine s_iast (pc1 := 406) (tk (n := 8) t200_7 rfl) rfl rfl  ?_
    exact s_ret (tk (n := 9) t200_7 rfl) rfl rfl rfl
  · exact s_ret (tk (n := 28) t200_4 rfl) rfl rfl rfl
set_option maxRecDepth 100000 in
set_option maxHeartbeats 4000000 in
theorem e_X12_fillLine (x0 : Int) (h : Hq) : vm 201 [(2, x0)] h = if 0 < x0 ∧ (kd x0).1 = 12 then (vm 178 [(2, x0)] h).bind (fun r2 => if 0 < x0 ∧ (kd x0).1 = 12 then (vm 190 [(2, x0)] r2.2).bind (fun r4 => if 0 < x0 ∧ (kd x0).1 = 12 then (vm 180 [(2, x0)] r4.2).bind (fun r7 => if (vx r7) = 0 then (if 0 < x0 ∧ (kd x0).1 = 12 then (vm 180 [(2, x0)] r7.2).bind (fun r12 => if (vx r12) = 0 then (vp 201 43 [(2, x0), (1, vx r4), (9, 0), (0, (-1)), (9, 0)] [] r12.2) else (if 0 < x0 ∧ (kd x0).1 = 12 then (vm 179 [(2, x0), (0, 3)] r12.2).bind (fun r19 => vp 201 43 [(2, x0), (1, vx r4), (9, 0), (0, (-1)), (9, 0)] [] r19.2) else none)) else none) else (if 0 < x0 ∧ (kd x0).1 = 12 then (vm 193 [(2, x0), (1, vx r4)] r7.2).bind (fun r11 => if 0 < x0 ∧ (kd x0).1 = 12 then (vm 180 [(2, x0)] r11.2).bind (fun r15 => if (vx r15) = 0 then (vp 201 43 [(2, x0), (1, vx r4), (9, 0), (0, vx r11), (9, 0)] [] r15.2) else (if (vx r11) ≠ (-1) then (vp 201 43 [(2, x0), (1, vx r4), (9, 0), (0, vx r11), (9, 0)] [] r15.2) else (if 0 < x0 ∧ (kd x0).1 = 12 then (vm 179 [(2, x0), (0, 3)] r15.2).bind (fun r22 => vp 201 43 [(2, x0), (1, vx r4), (9, 0), (0, vx r11), (9, 0)] [] r22.2) else none))) else none) else none)) else none) else none) else none := by
  show vp 201 0 [(2, x0), (9, 0), (9, 0), (9, 0), (9, 0)] [] h = _
  refine s_aload_n (pc1 := 1) (tk (n := 0) t201_0 rfl) rfl rfl rfl ?_
  refine s_call9 (as := [(2, x0)]) (st1 := []) (p1 := 4) (M2 := 178) (tk (n := 1) t201_0 rfl) rfl rfl rfl rfl rfl (fun r2 => ?_)
  refine s_aload_n (pc1 := 5) (tk (n := 2) t201_0 rfl) rfl rfl rfl ?_
  refine s_call1 (as := [(2, x0)]) (st1 := []) (p1 := 8) (M2 := 190) (tk (n := 3) t201_0 rfl) rfl rfl rfl rfl rfl (fun r4 => ?_)
  refine s_lstore_n (pc1 := 9) (ls1 := [(2, x0), (1, vx r4), (9, 0), (9, 0), (9, 0)]) (tk (n := 4) t201_0 rfl) rfl rfl rfl rfl ?_
  refine s_aload_n (pc1 := 10) (tk (n := 5) t201_0 rfl) rfl rfl rfl ?_
  refine s_call0 (as := [(2, x0)]) (st1 := []) (p1 := 13) (M2 := 180) (tk (n := 6) t201_0 rfl) rfl rfl rfl rfl rfl (fun r7 => ?_)
  refine s_if_eq (pc1 := 16) (pt := 24) (tk (n := 7) t201_0 rfl) rfl rfl rfl ?_ ?_
  · refine s_iconst (pc1 := 25) (tk (n := 12) t201_0 rfl) rfl rfl  ?_
    refine s_istore_n (pc1 := 26) (ls1 := [(2, x0), (1, vx r4), (9, 0), (0, (-1)), (9, 0)]) (tk (n := 13) t201_0 rfl) rfl rfl rfl rfl ?_
    refine s_aload_n (pc1 := 27) (tk (n := 14) t201_0 rfl) rfl rfl rfl ?_
    refine s_call0 (as := [(2, x0)]) (st1 := []) (p1 := 30) (M2 := 180) (tk (n := 15) t201_0 rfl) rfl rfl rfl rfl rfl (fun r12 => ?_)
    refine s_if_eq (pc1 := 33) (pt := 43) (tk (n := 16) t201_0 rfl) rfl rfl rfl ?_ ?_
    · rfl
    · refine s_iload_n (pc1 := 34) (tk (n := 17) t201_0 rfl) rfl rfl rfl ?_
      refine s_iconst (pc1 := 35) (tk (n := 18) t201_0 rfl) rfl rfl  ?_
      refine s_icN_ne (pc1 := 38) (tk (n := 19) t201_0 rfl) rfl rfl (by decide) ?_
      refine s_aload_n (pc1 := 39) (tk (n := 20) t201_0 rfl) rfl rfl rfl ?_
      refine s_iconst (pc1 := 40) (tk (n := 21) t201_0 rfl) rfl rfl  ?_
      refine s_call9 (as := [(2, x0), (0, 3)]) (st1 := []) (p1 := 43) (M2 := 179) (tk (n := 22) t201_0 rfl) rfl rfl rfl rfl rfl (fun r19 => ?_)
      rfl
  · refine s_aload_n (pc1 := 17) (tk (n := 8) t201_0 rfl) rfl rfl rfl ?_
    refine s_lload_n (pc1 := 18) (tk (n := 9) t201_0 rfl) rfl rfl rfl ?_
    refine s_call0 (as := [(2, x0), (1, vx r4)]) (st1 := []) (p1 := 21) (M2 := 193) (tk (n := 10) t201_0 rfl) rfl rfl rfl rfl rfl (fun r11 => ?_)
    refine s_goto (pc1 := 25) (tk (n := 11) t201_0 rfl) rfl rfl ?_
    refine s_istore_n (pc1 := 26) (ls1 := [(2, x0), (1, vx r4), (9, 0), (0, vx r11), (9, 0)]) (tk (n := 13) t201_0 rfl) rfl rfl rfl rfl ?_
    refine s_aload_n (pc1 := 27) (tk (n := 14) t201_0 rfl) rfl rfl rfl ?_
    refine s_call0 (as := [(2, x0)]) (st1 := []) (p1 := 30) (M2 := 180) (tk (n := 15) t201_0 rfl) rfl rfl rfl rfl rfl (fun r15 => ?_)
    refine s_if_eq (pc1 := 33) (pt := 43) (tk (n := 16) t201_0 rfl) rfl rfl rfl ?_ ?_
    · rfl
    · refine s_iload_n (pc1 := 34) (tk (n := 17) t201_0 rfl) rfl rfl rfl ?_
      refine s_iconst (pc1 := 35) (tk (n := 18) t201_0 rfl) rfl rfl  ?_
      refine s_ic_ne (pc1 := 38) (pt := 43) (tk (n := 19) t201_0 rfl) rfl rfl rfl ?_ ?_
      · rfl
      · refine s_aload_n (pc1 := 39) (tk (n := 20) t201_0 rfl) rfl rfl rfl ?_
        refine s_iconst (pc1 := 40) (tk (n := 21) t201_0 rfl) rfl rfl  ?_
        refine s_call9 (as := [(2, x0), (0, 3)]) (st1 := []) (p1 := 43) (M2 := 179) (tk (n := 22) t201_0 rfl) rfl rfl rfl rfl rfl (fun r22 => ?_)
        rfl
set_option maxRecDepth 100000 in
set_option maxHeartbeats 4000000 in
theorem e_X12_fillLine_43 (x0 : Int) (z1 : Vl) (z2 : Vl) (x3 : Int) (z4 : Vl) (h : Hq) : vp 201 43 [(2, x0), z1, z2, (0, x3), z4] [] h = if 0 < x0 ∧ (kd x0).1 = 12 then (vm 180 [(2, x0)] h).bind (fun r2 => if (vx r2) = 0 then (if 0 < x0 ∧ (kd x0).1 = 12 then if 0 < x0 ∧ (kd x0).1 = 12 then if 0 < (r2.2.2 x0 19) ∧ (kd (r2.2.2 x0 19)).1 = 20 ∧ 0 ≤ (w32 (4 * (r2.2.2 x0 20))) ∧ (w32 (4 * (r2.2.2 x0 20))) < (kd (r2.2.2 x0 19)).2 then vp 201 69 [(2, x0), (9, 0), (9, 0), (0, x3), (0, 1)] [] (r2.2.1, stm r2.2.2 (r2.2.2 x0 19) (w32 (4 * (r2.2.2 x0 20))) x3) else none else none else none) else (if 0 < x0 ∧ (kd x0).1 = 12 then (vm 178 [(2, x0)] r2.2).bind (fun r5 => if 0 < x0 ∧ (kd x0).1 = 12 then if 0 < x0 ∧ (kd x0).1 = 12 then if 0 < (r5.2.2 x0 19) ∧ (kd (r5.2.2 x0 19)).1 = 20 ∧ 0 ≤ (w32 (4 * (r5.2.2 x0 20))) ∧ (w32 (4 * (r5.2.2 x0 20))) < (kd (r5.2.2 x0 19)).2 then vp 201 69 [(2, x0), (9, 0), (9, 0), (0, x3), (0, 1)] [] (r5.2.1, stm r5.2.2 (r5.2.2 x0 19) (w32 (4 * (r5.2.2 x0 20))) x3) else none else none else none) else none)) else none := by
  refine s_fg (ls1 := [(2, x0), (9, 0), (9, 0), (0, x3), (9, 0)]) (tk (n := 23) t201_0 rfl) rfl ?_
  refine s_aload_n (pc1 := 44) (tk (n := 23) t201_0 rfl) rfl rfl rfl ?_
  refine s_call0 (as := [(2, x0)]) (st1 := []) (p1 := 47) (M2 := 180) (tk (n := 24) t201_0 rfl) rfl rfl rfl rfl rfl (fun r2 => ?_)
  refine s_if_eq (pc1 := 50) (pt := 54) (tk (n := 25) t201_0 rfl) rfl rfl rfl ?_ ?_
  · refine s_aload_n (pc1 := 55) (tk (n := 28) t201_0 rfl) rfl rfl rfl ?_
    refine s_getf (pc1 := 58) (c := 12) (t1 := 2) (tk (n := 29) t201_0 rfl) rfl rfl (by decide) rfl rfl ?_
    refine s_iconst (pc1 := 59) (tk (n := 0) t201_1 rfl) rfl rfl  ?_
    refine s_aload_n (pc1 := 60) (tk (n := 1) t201_1 rfl) rfl rfl rfl ?_
    refine s_getf (pc1 := 63) (c := 12) (t1 := 0) (tk (n := 2) t201_1 rfl) rfl rfl (by decide) rfl rfl ?_
    refine s_imul (pc1 := 64) (tk (n := 3) t201_1 rfl) rfl rfl  ?_
    refine s_iload_n (pc1 := 65) (tk (n := 4) t201_1 rfl) rfl rfl rfl ?_
    refine s_iast (pc1 := 66) (tk (n := 5) t201_1 rfl) rfl rfl  ?_
    refine s_iconst (pc1 := 67) (tk (n := 6) t201_1 rfl) rfl rfl  ?_
    refine s_istore (pc1 := 69) (ls1 := [(2, x0), (9, 0), (9, 0), (0, x3), (0, 1)]) (tk (n := 7) t201_1 rfl) rfl rfl rfl rfl ?_
    rfl
  · refine s_aload_n (pc1 := 51) (tk (n := 26) t201_0 rfl) rfl rfl rfl ?_
    refine s_call9 (as := [(2, x0)]) (st1 := []) (p1 := 54) (M2 := 178) (tk (n := 27) t201_0 rfl) rfl rfl rfl rfl rfl (fun r5 => ?_)
    refine s_aload_n (pc1 := 55) (tk (n := 28) t201_0 rfl) rfl rfl rfl ?_
    refine s_getf (pc1 := 58) (c := 12) (t1 := 2) (tk (n := 29) t201_0 rfl) rfl rfl (by decide) rfl rfl ?_
    refine s_iconst (pc1 := 59) (tk (n := 0) t201_1 rfl) rfl rfl  ?_
    refine s_aload_n (pc1 := 60) (tk (n := 1) t201_1 rfl) rfl rfl rfl ?_
    refine s_getf (pc1 := 63) (c := 12) (t1 := 0) (tk (n := 2) t201_1 rfl) rfl rfl (by decide) rfl rfl ?_
    refine s_imul (pc1 := 64) (tk (n := 3) t201_1 rfl) rfl rfl  ?_
    refine s_iload_n (pc1 := 65) (tk (n := 4) t201_1 rfl) rfl rfl rfl ?_
    refine s_iast (pc1 := 66) (tk (n := 5) t201_1 rfl) rfl rfl  ?_
    refine s_iconst (pc1 := 67) (tk (n := 6) t201_1 rfl) rfl rfl  ?_
    refine s_istore (pc1 := 69) (ls1 := [(2, x0), (9, 0), (9, 0), (0, x3), (0, 1)]) (tk (n := 7) t201_1 rfl) rfl rfl rfl rfl ?_
    rfl
set_option maxRecDepth 100000 in
set_option maxHeartbeats 4000000 in
theorem e_X12_fillLine_69 (x0 : Int) (z1 : Vl) (z2 : Vl) (z3 : Vl) (x4 : Int) (h : Hq) : vp 201 69 [(2, x0), z1, z2, z3, (0, x4)] [] h = if x4 ≥ 4 then (if 0 < x0 ∧ (kd x0).1 = 12 then if (0 < x0 ∧ (kd x0).1 = 12) ∧ True then some (none, (h.1, stm h.2 x0 20 (w32 ((h.2 x0 20) + 1)))) else none else none) else (if 0 < x0 ∧ (kd x0).1 = 12 then if 0 < x0 ∧ (kd x0).1 = 12 then if 0 < x0 ∧ (kd x0).1 = 12 then (vm 188 [(2, x0), (0, 0), (0, 9999)] h).bind (fun r15 => if 0 < (h.2 x0 19) ∧ (kd (h.2 x0 19)).1 = 20 ∧ 0 ≤ (w32 ((w32 (4 * (h.2 x0 20))) + x4)) ∧ (w32 ((w32 (4 * (h.2 x0 20))) + x4)) < (kd (h.2 x0 19)).2 then vp 201 69 [(2, x0), (9, 0), (9, 0), (9, 0), (0, w32 (x4 + 1))] [] (r15.2.1, stm r15.2.2 (h.2 x0 19) (w32 ((w32 (4 * (h.2 x0 20))) + x4)) (vx r15)) else none) else none else none else none) := by
  refine s_fg (ls1 := [(2, x0), (9, 0), (9, 0), (9, 0), (0, x4)]) (tk (n := 8) t201_1 rfl) rfl ?_
  refine s_iload (pc1 := 71) (tk (n := 8) t201_1 rfl) rfl rfl rfl ?_
  refine s_iconst (pc1 := 72) (tk (n := 9) t201_1 rfl) rfl rfl  ?_
  refine s_ic_ge (pc1 := 75) (pt := 103) (tk (n := 10) t201_1 rfl) rfl rfl rfl ?_ ?_
  · refine s_aload_n (pc1 := 104) (tk (n := 26) t201_1 rfl) rfl rfl rfl ?_
    refine s_dup2 (pc1 := 105) (tk (n := 27) t201_1 rfl) rfl rfl  ?_
    refine s_getf (pc1 := 108) (c := 12) (t1 := 0) (tk (n := 28) t201_1 rfl) rfl rfl (by decide) rfl rfl ?_
    refine s_iconst (pc1 := 109) (tk (n := 29) t201_1 rfl) rfl rfl  ?_
    refine s_iadd (pc1 := 110) (tk (n := 0) t201_2 rfl) rfl rfl  ?_
    refine s_putf0 (pc1 := 113) (c := 12) (tk (n := 1) t201_2 rfl) rfl rfl rfl rfl rfl ?_
    exact s_ret (tk (n := 2) t201_2 rfl) rfl rfl rfl
  · refine s_aload_n (pc1 := 76) (tk (n := 11) t201_1 rfl) rfl rfl rfl ?_
    refine s_getf (pc1 := 79) (c := 12) (t1 := 2) (tk (n := 12) t201_1 rfl) rfl rfl (by decide) rfl rfl ?_
    refine s_iconst (pc1 := 80) (tk (n := 13) t201_1 rfl) rfl rfl  ?_
    refine s_aload_n (pc1 := 81) (tk (n := 14) t201_1 rfl) rfl rfl rfl ?_
    refine s_getf (pc1 := 84) (c := 12) (t1 := 0) (tk (n := 15) t201_1 rfl) rfl rfl (by decide) rfl rfl ?_
    refine s_imul (pc1 := 85) (tk (n := 16) t201_1 rfl) rfl rfl  ?_
    refine s_iload (pc1 := 87) (tk (n := 17) t201_1 rfl) rfl rfl rfl ?_
    refine s_iadd (pc1 := 88) (tk (n := 18) t201_1 rfl) rfl rfl  ?_
    refine s_aload_n (pc1 := 89) (tk (n := 19) t201_1 rfl) rfl rfl rfl ?_
    refine s_iconst (pc1 := 90) (tk (n := 20) t201_1 rfl) rfl rfl  ?_
    refine s_sipush (pc1 := 93) (tk (n := 21) t201_1 rfl) rfl rfl  ?_
    refine s_call0 (as := [(2, x0), (0, 0), (0, 9999)]) (st1 := [(0, w32 ((w32 (4 * (h.2 x0 20))) + x4)), (2, h.2 x0 19)]) (p1 := 96) (M2 := 188) (tk (n := 22) t201_1 rfl) rfl rfl rfl rfl rfl (fun r15 => ?_)
    refine s_iast (pc1 := 97) (tk (n := 23) t201_1 rfl) rfl rfl  ?_
    refine s_iinc (pc1 := 100) (ls1 := [(2, x0), (9, 0), (9, 0), (9, 0), (0, w32 (x4 + 1))]) (tk (n := 24) t201_1 rfl) rfl rfl rfl rfl ?_
    refine s_goto (pc1 := 69) (tk (n := 25) t201_1 rfl) rfl rfl ?_
    rfl
set_option maxRecDepth 100000 in
set_option maxHeartbeats 4000000 in
theorem e_X12_line (x0 : Int) (h : Hq) : vm 202 [(2, x0)] h = if 0 < x0 ∧ (kd x0).1 = 12 then (vm 181 [(2, x0), (1, 426835667045)] h).bind (fun r3 => if (vx r3) = 0 then (if 0 < x0 ∧ (kd x0).1 = 12 then (vm 181 [(2, x0), (1, 495874699877)] r3.2).bind (fun r7 => if (vx r7) = 0 then (if 0 < x0 ∧ (kd x0).1 = 12 then (vm 181 [(2, x0), (1, 499967946343)] r7.2).bind (fun r11 => if (vx r11) = 0 then (if 0 < x0 ∧ (kd x0).1 = 12 then (vm 181 [(2, x0), (1, 1852796517)] r11.2).bind (fun r15 => if (vx r15) = 0 then (if 0 < x0 ∧ (kd x0).1 = 12 then (vm 181 [(2, x0), (1, 32762665322771045)] r15.2).bind (fun r19 => if (vx r19) = 0 then (if 0 < x0 ∧ (kd x0).1 = 12 then (vm 181 [(2, x0), (1, 1718185068)] r19.2).bind (fun r23 => if (vx r23) = 0 then (if 0 < x0 ∧ (kd x0).1 = 12 then (vm 179 [(2, x0), (0, 2)] r23.2).bind (fun r27 => vp 202 112 [(2, x0)] [] r27.2) else none) else (if 0 < x0 ∧ (kd x0).1 = 12 then (vm 201 [(2, x0)] r23.2).bind (fun r26 => vp 202 112 [(2, x0)] [] r26.2) else none)) else none) else (if 0 < x0 ∧ (kd x0).1 = 12 then (vm 200 [(2, x0)] r19.2).bind (fun r22 => vp 202 112 [(2, x0)] [] r22.2) else none)) else none) else (if 0 < x0 ∧ (kd x0).1 = 12 then (vm 196 [(2, x0), (0, 11)] r15.2).bind (fun r19 => vp 202 112 [(2, x0)] [] r19.2) else none)) else none) else (if 0 < x0 ∧ (kd x0).1 = 12 then (vm 196 [(2, x0), (0, 10)] r11.2).bind (fun r15 => vp 202 112 [(2, x0)] [] r15.2) else none)) else none) else (if 0 < x0 ∧ (kd x0).1 = 12 then (vm 196 [(2, x0), (0, (-1))] r7.2).bind (fun r11 => vp 202 112 [(2, x0)] [] r11.2) else none)) else none) else (if 0 < x0 ∧ (kd x0).1 = 12 then (vm 195 [(2, x0)] r3.2).bind (fun r6 => vp 202 112 [(2, x0)] [] r6.2) else none)) else none := by
  show vp 202 0 [(2, x0)] [] h = _
  refine s_aload_n (pc1 := 1) (tk (n := 0) t202_0 rfl) rfl rfl rfl ?_
  refine s_ldc2 (pc1 := 4) (tk (n := 1) t202_0 rfl) rfl rfl  ?_
  refine s_call0 (as := [(2, x0), (1, 426835667045)]) (st1 := []) (p1 := 7) (M2 := 181) (tk (n := 2) t202_0 rfl) rfl rfl rfl rfl rfl (fun r3 => ?_)
  refine s_if_eq (pc1 := 10) (pt := 17) (tk (n := 3) t202_0 rfl) rfl rfl rfl ?_ ?_
  · refine s_aload_n (pc1 := 18) (tk (n := 7) t202_0 rfl) rfl rfl rfl ?_
    refine s_ldc2 (pc1 := 21) (tk (n := 8) t202_0 rfl) rfl rfl  ?_
    refine s_call0 (as := [(2, x0), (1, 495874699877)]) (st1 := []) (p1 := 24) (M2 := 181) (tk (n := 9) t202_0 rfl) rfl rfl rfl rfl rfl (fun r7 => ?_)
    refine s_if_eq (pc1 := 27) (pt := 35) (tk (n := 10) t202_0 rfl) rfl rfl rfl ?_ ?_
    · refine s_aload_n (pc1 := 36) (tk (n := 15) t202_0 rfl) rfl rfl rfl ?_
      refine s_ldc2 (pc1 := 39) (tk (n := 16) t202_0 rfl) rfl rfl  ?_
      refine s_call0 (as := [(2, x0), (1, 499967946343)]) (st1 := []) (p1 := 42) (M2 := 181) (tk (n := 17) t202_0 rfl) rfl rfl rfl rfl rfl (fun r11 => ?_)
      refine s_if_eq (pc1 := 45) (pt := 54) (tk (n := 18) t202_0 rfl) rfl rfl rfl ?_ ?_
      · refine s_aload_n (pc1 := 55) (tk (n := 23) t202_0 rfl) rfl rfl rfl ?_
        refine s_ldc2 (pc1 := 58) (tk (n := 24) t202_0 rfl) rfl rfl  ?_
        refine s_call0 (as := [(2, x0), (1, 1852796517)]) (st1 := []) (p1 := 61) (M2 := 181) (tk (n := 25) t202_0 rfl) rfl rfl rfl rfl rfl (fun r15 => ?_)
        refine s_if_eq (pc1 := 64) (pt := 73) (tk (n := 26) t202_0 rfl) rfl rfl rfl ?_ ?_
        · refine s_aload_n (pc1 := 74) (tk (n := 1) t202_1 rfl) rfl rfl rfl ?_
          refine s_ldc2 (pc1 := 77) (tk (n := 2) t202_1 rfl) rfl rfl  ?_
          refine s_call0 (as := [(2, x0), (1, 32762665322771045)]) (st1 := []) (p1 := 80) (M2 := 181) (tk (n := 3) t202_1 rfl) rfl rfl rfl rfl rfl (fun r19 => ?_)
          refine s_if_eq (pc1 := 83) (pt := 90) (tk (n := 4) t202_1 rfl) rfl rfl rfl ?_ ?_
          · refine s_aload_n (pc1 := 91) (tk (n := 8) t202_1 rfl) rfl rfl rfl ?_
            refine s_ldc2 (pc1 := 94) (tk (n := 9) t202_1 rfl) rfl rfl  ?_
            refine s_call0 (as := [(2, x0), (1, 1718185068)]) (st1 := []) (p1 := 97) (M2 := 181) (tk (n := 10) t202_1 rfl) rfl rfl rfl rfl rfl (fun r23 => ?_)
            refine s_if_eq (pc1 := 100) (pt := 107) (tk (n := 11) t202_1 rfl) rfl rfl rfl ?_ ?_
            · refine s_aload_n (pc1 := 108) (tk (n := 15) t202_1 rfl) rfl rfl rfl ?_
              refine s_iconst (pc1 := 109) (tk (n := 16) t202_1 rfl) rfl rfl  ?_
              refine s_call9 (as := [(2, x0), (0, 2)]) (st1 := []) (p1 := 112) (M2 := 179) (tk (n := 17) t202_1 rfl) rfl rfl rfl rfl rfl (fun r27 => ?_)
              rfl
            · refine s_aload_n (pc1 := 101) (tk (n := 12) t202_1 rfl) rfl rfl rfl ?_
              refine s_call9 (as := [(2, x0)]) (st1 := []) (p1 := 104) (M2 := 201) (tk (n := 13) t202_1 rfl) rfl rfl rfl rfl rfl (fun r26 => ?_)
              refine s_goto (pc1 := 112) (tk (n := 14) t202_1 rfl) rfl rfl ?_
              rfl
          · refine s_aload_n (pc1 := 84) (tk (n := 5) t202_1 rfl) rfl rfl rfl ?_
            refine s_call9 (as := [(2, x0)]) (st1 := []) (p1 := 87) (M2 := 200) (tk (n := 6) t202_1 rfl) rfl rfl rfl rfl rfl (fun r22 => ?_)
            refine s_goto (pc1 := 112) (tk (n := 7) t202_1 rfl) rfl rfl ?_
            rfl
        · refine s_aload_n (pc1 := 65) (tk (n := 27) t202_0 rfl) rfl rfl rfl ?_
          refine s_bipush (pc1 := 67) (tk (n := 28) t202_0 rfl) rfl rfl  ?_
          refine s_call9 (as := [(2, x0), (0, 11)]) (st1 := []) (p1 := 70) (M2 := 196) (tk (n := 29) t202_0 rfl) rfl rfl rfl rfl rfl (fun r19 => ?_)
          refine s_goto (pc1 := 112) (tk (n := 0) t202_1 rfl) rfl rfl ?_
          rfl
      · refine s_aload_n (pc1 := 46) (tk (n := 19) t202_0 rfl) rfl rfl rfl ?_
        refine s_bipush (pc1 := 48) (tk (n := 20) t202_0 rfl) rfl rfl  ?_
        refine s_call9 (as := [(2, x0), (0, 10)]) (st1 := []) (p1 := 51) (M2 := 196) (tk (n := 21) t202_0 rfl) rfl rfl rfl rfl rfl (fun r15 => ?_)
        refine s_goto (pc1 := 112) (tk (n := 22) t202_0 rfl) rfl rfl ?_
        rfl
    · refine s_aload_n (pc1 := 28) (tk (n := 11) t202_0 rfl) rfl rfl rfl ?_
      refine s_iconst (pc1 := 29) (tk (n := 12) t202_0 rfl) rfl rfl  ?_
      refine s_call9 (as := [(2, x0), (0, (-1))]) (st1 := []) (p1 := 32) (M2 := 196) (tk (n := 13) t202_0 rfl) rfl rfl rfl rfl rfl (fun r11 => ?_)
      refine s_goto (pc1 := 112) (tk (n := 14) t202_0 rfl) rfl rfl ?_
      rfl
  · refine s_aload_n (pc1 := 11) (tk (n := 4) t202_0 rfl) rfl rfl rfl ?_
    refine s_call9 (as := [(2, x0)]) (st1 := []) (p1 := 14) (M2 := 195) (tk (n := 5) t202_0 rfl) rfl rfl rfl rfl rfl (fun r6 => ?_)
    refine s_goto (pc1 := 112) (tk (n := 6) t202_0 rfl) rfl rfl ?_
    rfl
set_option maxRecDepth 100000 in
set_option maxHeartbeats 4000000 in
theorem e_X12_line_112 (x0 : Int) (h : Hq) : vp 202 112 [(2, x0)] [] h = if 0 < x0 ∧ (kd x0).1 = 12 then (vm 180 [(2, x0)] h).bind (fun r2 => if (vx r2) = 0 then (if 0 < x0 ∧ (kd x0).1 = 12 then (vm 180 [(2, x0)] r2.2).bind (fun r5 => if (vx r5) = 0 then (some (none, r5.2)) else (if 0 < x0 ∧ (kd x0).1 = 12 then (vm 178 [(2, x0)] r5.2).bind (fun r8 => some (none, r8.2)) else none)) else none) else (if 0 < x0 ∧ (kd x0).1 = 12 then if (r2.2.2 x0 5) = 3 then (if 0 < x0 ∧ (kd x0).1 = 12 then (vm 180 [(2, x0)] r2.2).bind (fun r9 => if (vx r9) = 0 then (some (none, r9.2)) else (if 0 < x0 ∧ (kd x0).1 = 12 then (vm 178 [(2, x0)] r9.2).bind (fun r12 => some (none, r12.2)) else none)) else none) else (if 0 < x0 ∧ (kd x0).1 = 12 then (vm 179 [(2, x0), (0, 2)] r2.2).bind (fun r10 => if 0 < x0 ∧ (kd x0).1 = 12 then (vm 180 [(2, x0)] r10.2).bind (fun r12 => if (vx r12) = 0 then (some (none, r12.2)) else (if 0 < x0 ∧ (kd x0).1 = 12 then (vm 178 [(2, x0)] r12.2).bind (fun r15 => some (none, r15.2)) else none)) else none) else none) else none)) else none := by
  refine s_aload_n (pc1 := 113) (tk (n := 18) t202_1 rfl) rfl rfl rfl ?_
  refine s_call0 (as := [(2, x0)]) (st1 := []) (p1 := 116) (M2 := 180) (tk (n := 19) t202_1 rfl) rfl rfl rfl rfl rfl (fun r2 => ?_)
  refine s_if_eq (pc1 := 119) (pt := 132) (tk (n := 20) t202_1 rfl) rfl rfl rfl ?_ ?_
  · refine s_aload_n (pc1 := 133) (tk (n := 28) t202_1 rfl) rfl rfl rfl ?_
    refine s_call0 (as := [(2, x0)]) (st1 := []) (p1 := 136) (M2 := 180) (tk (n := 29) t202_1 rfl) rfl rfl rfl rfl rfl (fun r5 => ?_)
    refine s_if_eq (pc1 := 139) (pt := 143) (tk (n := 0) t202_2 rfl) rfl rfl rfl ?_ ?_
    · exact s_ret (tk (n := 3) t202_2 rfl) rfl rfl rfl
    · refine s_aload_n (pc1 := 140) (tk (n := 1) t202_2 rfl) rfl rfl rfl ?_
      refine s_call9 (as := [(2, x0)]) (st1 := []) (p1 := 143) (M2 := 178) (tk (n := 2) t202_2 rfl) rfl rfl rfl rfl rfl (fun r8 => ?_)
      exact s_ret (tk (n := 3) t202_2 rfl) rfl rfl rfl
  · refine s_aload_n (pc1 := 120) (tk (n := 21) t202_1 rfl) rfl rfl rfl ?_
    refine s_getf (pc1 := 123) (c := 12) (t1 := 0) (tk (n := 22) t202_1 rfl) rfl rfl (by decide) rfl rfl ?_
    refine s_iconst (pc1 := 124) (tk (n := 23) t202_1 rfl) rfl rfl  ?_
    refine s_ic_eq (pc1 := 127) (pt := 132) (tk (n := 24) t202_1 rfl) rfl rfl rfl ?_ ?_
    · refine s_aload_n (pc1 := 133) (tk (n := 28) t202_1 rfl) rfl rfl rfl ?_
      refine s_call0 (as := [(2, x0)]) (st1 := []) (p1 := 136) (M2 := 180) (tk (n := 29) t202_1 rfl) rfl rfl rfl rfl rfl (fun r9 => ?_)
      refine s_if_eq (pc1 := 139) (pt := 143) (tk (n := 0) t202_2 rfl) rfl rfl rfl ?_ ?_
      · exact s_ret (tk (n := 3) t202_2 rfl) rfl rfl rfl
      · refine s_aload_n (pc1 := 140) (tk (n := 1) t202_2 rfl) rfl rfl rfl ?_
        refine s_call9 (as := [(2, x0)]) (st1 := []) (p1 := 143) (M2 := 178) (tk (n := 2) t202_2 rfl) rfl rfl rfl rfl rfl (fun r12 => ?_)
        exact s_ret (tk (n := 3) t202_2 rfl) rfl rfl rfl
    · refine s_aload_n (pc1 := 128) (tk (n := 25) t202_1 rfl) rfl rfl rfl ?_
      refine s_iconst (pc1 := 129) (tk (n := 26) t202_1 rfl) rfl rfl  ?_
      refine s_call9 (as := [(2, x0), (0, 2)]) (st1 := []) (p1 := 132) (M2 := 179) (tk (n := 27) t202_1 rfl) rfl rfl rfl rfl rfl (fun r10 => ?_)
      refine s_aload_n (pc1 := 133) (tk (n := 28) t202_1 rfl) rfl rfl rfl ?_
      refine s_call0 (as := [(2, x0)]) (st1 := []) (p1 := 136) (M2 := 180) (tk (n := 29) t202_1 rfl) rfl rfl rfl rfl rfl (fun r12 => ?_)
      refine s_if_eq (pc1 := 139) (pt := 143) (tk (n := 0) t202_2 rfl) rfl rfl rfl ?_ ?_
      · exact s_ret (tk (n := 3) t202_2 rfl) rfl rfl rfl
      · refine s_aload_n (pc1 := 140) (tk (n := 1) t202_2 rfl) rfl rfl rfl ?_
        refine s_call9 (as := [(2, x0)]) (st1 := []) (p1 := 143) (M2 := 178) (tk (n := 2) t202_2 rfl) rfl rfl rfl rfl rfl (fun r15 => ?_)
        exact s_ret (tk (n := 3) t202_2 rfl) rfl rfl rfl
set_option maxRecDepth 100000 in
set_option maxHeartbeats 4000000 in
theorem e_X12_takesHalf (x0 : Int) (h : Hq) : vm 203 [(2, x0)] h = if 20 ≤ (kd x0).1 ∧ (kd x0).1 ≤ 25 then vp 203 7 [(2, x0), (0, w32 (((kd x0).2).tdiv 2)), (0, 0)] [] h else none := by
  show vp 203 0 [(2, x0), (9, 0), (9, 0)] [] h = _
  refine s_aload_n (pc1 := 1) (tk (n := 0) t203_0 rfl) rfl rfl rfl ?_
  refine s_alen (pc1 := 2) (tk (n := 1) t203_0 rfl) rfl rfl  ?_
  refine s_iconst (pc1 := 3) (tk (n := 2) t203_0 rfl) rfl rfl  ?_
  refine s_idivc (pc1 := 4) (tk (n := 3) t203_0 rfl) rfl rfl (by decide) ?_
  refine s_istore_n (pc1 := 5) (ls1 := [(2, x0), (0, w32 (((kd x0).2).tdiv 2)), (9, 0)]) (tk (n := 4) t203_0 rfl) rfl rfl rfl rfl ?_
  refine s_iconst (pc1 := 6) (tk (n := 5) t203_0 rfl) rfl rfl  ?_
  refine s_istore_n (pc1 := 7) (ls1 := [(2, x0), (0, w32 (((kd x0).2).tdiv 2)), (0, 0)]) (tk (n := 6) t203_0 rfl) rfl rfl rfl rfl ?_
  rfl
set_option maxRecDepth 100000 in
set_option maxHeartbeats 4000000 in
theorem e_X12_takesHalf_7 (x0 : Int) (x1 : Int) (x2 : Int) (h : Hq) : vp 203 7 [(2, x0), (0, x1), (0, x2)] [] h = if x2 ≥ x1 then (some (none, h)) else (if (kd x0).1 = 20 ∧ 0 ≤ (w32 (x1 + x2)) ∧ (w32 (x1 + x2)) < (kd x0).2 then if 0 < x0 ∧ (kd x0).1 = 20 ∧ 0 ≤ x2 ∧ x2 < (kd x0).2 then vp 203 7 [(2, x0), (0, x1), (0, w32 (x2 + 1))] [] (h.1, stm h.2 x0 x2 (h.2 x0 (w32 (x1 + x2)))) else none else none) := by
  refine s_iload_n (pc1 := 8) (tk (n := 7) t203_0 rfl) rfl rfl rfl ?_
  refine s_iload_n (pc1 := 9) (tk (n := 8) t203_0 rfl) rfl rfl rfl ?_
  refine s_ic_ge (pc1 := 12) (pt := 26) (tk (n := 9) t203_0 rfl) rfl rfl rfl ?_ ?_
  · exact s_ret (tk (n := 20) t203_0 rfl) rfl rfl rfl
  · refine s_aload_n (pc1 := 13) (tk (n := 10) t203_0 rfl) rfl rfl rfl ?_
    refine s_iload_n (pc1 := 14) (tk (n := 11) t203_0 rfl) rfl rfl rfl ?_
    refine s_aload_n (pc1 := 15) (tk (n := 12) t203_0 rfl) rfl rfl rfl ?_
    refine s_iload_n (pc1 := 16) (tk (n := 13) t203_0 rfl) rfl rfl rfl ?_
    refine s_iload_n (pc1 := 17) (tk (n := 14) t203_0 rfl) rfl rfl rfl ?_
    refine s_iadd (pc1 := 18) (tk (n := 15) t203_0 rfl) rfl rfl  ?_
    refine s_iald (pc1 := 19) (tk (n := 16) t203_0 rfl) rfl rfl  ?_
    refine s_iast (pc1 := 20) (tk (n := 17) t203_0 rfl) rfl rfl  ?_
    refine s_iinc (pc1 := 23) (ls1 := [(2, x0), (0, x1), (0, w32 (x2 + 1))]) (tk (n := 18) t203_0 rfl) rfl rfl rfl rfl ?_
    refine s_goto (pc1 := 7) (tk (n := 19) t203_0 rfl) rfl rfl ?_
    rfl
set_option maxRecDepth 100000 in
set_option maxHeartbeats 4000000 in
theorem e_X12_takesOver (x0 : Int) (h : Hq) : vm 204 [(2, x0)] h = if 0 < x0 ∧ (kd x0).1 = 12 then (vm 203 [(2, h.2 x0 13)] h).bind (fun r3 => if 0 < x0 ∧ (kd x0).1 = 12 then (vm 203 [(2, r3.2.2 x0 16)] r3.2).bind (fun r6 => if 0 < x0 ∧ (kd x0).1 = 12 then (vm 203 [(2, r6.2.2 x0 17)] r6.2).bind (fun r9 => if 0 < x0 ∧ (kd x0).1 = 12 then (vm 203 [(2, r9.2.2 x0 18)] r9.2).bind (fun r12 => vp 204 30 [(2, x0), (0, 0), (9, 0)] [] r12.2) else none) else none) else none) else none := by
  show vp 204 0 [(2, x0), (9, 0), (9, 0)] [] h = _
  refine s_aload_n (pc1 := 1) (tk (n := 0) t204_0 rfl) rfl rfl rfl ?_
  refine s_getf (pc1 := 4) (c := 12) (t1 := 2) (tk (n := 1) t204_0 rfl) rfl rfl (by decide) rfl rfl ?_
  refine s_callS9 (as := [(2, h.2 x0 13)]) (st1 := []) (p1 := 7) (M2 := 203) (tk (n := 2) t204_0 rfl) rfl rfl rfl rfl rfl (fun r3 => ?_)
  refine s_aload_n (pc1 := 8) (tk (n := 3) t204_0 rfl) rfl rfl rfl ?_
  refine s_getf (pc1 := 11) (c := 12) (t1 := 2) (tk (n := 4) t204_0 rfl) rfl rfl (by decide) rfl rfl ?_
  refine s_callS9 (as := [(2, r3.2.2 x0 16)]) (st1 := []) (p1 := 14) (M2 := 203) (tk (n := 5) t204_0 rfl) rfl rfl rfl rfl rfl (fun r6 => ?_)
  refine s_aload_n (pc1 := 15) (tk (n := 6) t204_0 rfl) rfl rfl rfl ?_
  refine s_getf (pc1 := 18) (c := 12) (t1 := 2) (tk (n := 7) t204_0 rfl) rfl rfl (by decide) rfl rfl ?_
  refine s_callS9 (as := [(2, r6.2.2 x0 17)]) (st1 := []) (p1 := 21) (M2 := 203) (tk (n := 8) t204_0 rfl) rfl rfl rfl rfl rfl (fun r9 => ?_)
  refine s_aload_n (pc1 := 22) (tk (n := 9) t204_0 rfl) rfl rfl rfl ?_
  refine s_getf (pc1 := 25) (c := 12) (t1 := 2) (tk (n := 10) t204_0 rfl) rfl rfl (by decide) rfl rfl ?_
  refine s_callS9 (as := [(2, r9.2.2 x0 18)]) (st1 := []) (p1 := 28) (M2 := 203) (tk (n := 11) t204_0 rfl) rfl rfl rfl rfl rfl (fun r12 => ?_)
  refine s_iconst (pc1 := 29) (tk (n := 12) t204_0 rfl) rfl rfl  ?_
  refine s_istore_n (pc1 := 30) (ls1 := [(2, x0), (0, 0), (9, 0)]) (tk (n := 13) t204_0 rfl) rfl rfl rfl rfl ?_
  rfl
set_option maxRecDepth 100000 in
set_option maxHeartbeats 4000000 in
theorem e_X12_takesOver_30 (x0 : Int) (x1 : Int) (z2 : Vl) (h : Hq) : vp 204 30 [(2, x0), (0, x1), z2] [] h = if x1 ≥ 2400 then (vp 204 99 [(2, x0), (0, 0), (9, 0)] [] h) else (if 0 < x0 ∧ (kd x0).1 = 12 then if 0 < x0 ∧ (kd x0).1 = 12 then (vm 210 [(2, x0), (0, w32 (x1.tdiv 400)), (0, x1.tmod 400)] h).bind (fun r14 => if (vx r14) = 0 then (if 0 < (h.2 x0 22) ∧ (kd (h.2 x0 22)).1 = 20 ∧ 0 ≤ x1 ∧ x1 < (kd (h.2 x0 22)).2 then if 0 < x0 ∧ (kd x0).1 = 12 then if 0 < ((stm r14.2.2 (h.2 x0 22) x1 0) x0 23) ∧ (kd ((stm r14.2.2 (h.2 x0 22) x1 0) x0 23)).1 = 20 ∧ 0 ≤ x1 ∧ x1 < (kd ((stm r14.2.2 (h.2 x0 22) x1 0) x0 23)).2 then vp 204 30 [(2, x0), (0, w32 (x1 + 1)), (9, 0)] [] (r14.2.1, stm (stm r14.2.2 (h.2 x0 22) x1 0) ((stm r14.2.2 (h.2 x0 22) x1 0) x0 23) x1 0) else none else none else none) else (if 0 < x0 ∧ (kd x0).1 = 12 then if (kd (r14.2.2 x0 16)).1 = 20 ∧ 0 ≤ (w32 (x1.tdiv 400)) ∧ (w32 (x1.tdiv 400)) < (kd (r14.2.2 x0 16)).2 then if (r14.2.2 (r14.2.2 x0 16) (w32 (x1.tdiv 400))) < 8 then (if 0 < (h.2 x0 22) ∧ (kd (h.2 x0 22)).1 = 20 ∧ 0 ≤ x1 ∧ x1 < (kd (h.2 x0 22)).2 then if 0 < x0 ∧ (kd x0).1 = 12 then if 0 < ((stm r14.2.2 (h.2 x0 22) x1 0) x0 23) ∧ (kd ((stm r14.2.2 (h.2 x0 22) x1 0) x0 23)).1 = 20 ∧ 0 ≤ x1 ∧ x1 < (kd ((stm r14.2.2 (h.2 x0 22) x1 0) x0 23)).2 then vp 204 30 [(2, x0), (0, w32 (x1 + 1)), (9, 0)] [] (r14.2.1, stm (stm r14.2.2 (h.2 x0 22) x1 0) ((stm r14.2.2 (h.2 x0 22) x1 0) x0 23) x1 0) else none else none else none) else (if 0 < (h.2 x0 22) ∧ (kd (h.2 x0 22)).1 = 20 ∧ 0 ≤ x1 ∧ x1 < (kd (h.2 x0 22)).2 then if 0 < x0 ∧ (kd x0).1 = 12 then if 0 < ((stm r14.2.2 (h.2 x0 22) x1 (-1)) x0 23) ∧ (kd ((stm r14.2.2 (h.2 x0 22) x1 (-1)) x0 23)).1 = 20 ∧ 0 ≤ x1 ∧ x1 < (kd ((stm r14.2.2 (h.2 x0 22) x1 (-1)) x0 23)).2 then vp 204 30 [(2, x0), (0, w32 (x1 + 1)), (9, 0)] [] (r14.2.1, stm (stm r14.2.2 (h.2 x0 22) x1 (-1)) ((stm r14.2.2 (h.2 x0 22) x1 (-1)) x0 23) x1 0) else none else none else none) else none else none)) else none else none) := by
  refine s_fg (ls1 := [(2, x0), (0, x1), (9, 0)]) (tk (n := 14) t204_0 rfl) rfl ?_
  refine s_iload_n (pc1 := 31) (tk (n := 14) t204_0 rfl) rfl rfl rfl ?_
  refine s_sipush (pc1 := 34) (tk (n := 15) t204_0 rfl) rfl rfl  ?_
  refine s_ic_ge (pc1 := 37) (pt := 97) (tk (n := 16) t204_0 rfl) rfl rfl rfl ?_ ?_
  · refine s_iconst (pc1 := 98) (tk (n := 20) t204_1 rfl) rfl rfl  ?_
    refine s_istore_n (pc1 := 99) (ls1 := [(2, x0), (0, 0), (9, 0)]) (tk (n := 21) t204_1 rfl) rfl rfl rfl rfl ?_
    rfl
  · refine s_aload_n (pc1 := 38) (tk (n := 17) t204_0 rfl) rfl rfl rfl ?_
    refine s_getf (pc1 := 41) (c := 12) (t1 := 2) (tk (n := 18) t204_0 rfl) rfl rfl (by decide) rfl rfl ?_
    refine s_iload_n (pc1 := 42) (tk (n := 19) t204_0 rfl) rfl rfl rfl ?_
    refine s_aload_n (pc1 := 43) (tk (n := 20) t204_0 rfl) rfl rfl rfl ?_
    refine s_iload_n (pc1 := 44) (tk (n := 21) t204_0 rfl) rfl rfl rfl ?_
    refine s_sipush (pc1 := 47) (tk (n := 22) t204_0 rfl) rfl rfl  ?_
    refine s_idivc (pc1 := 48) (tk (n := 23) t204_0 rfl) rfl rfl (by decide) ?_
    refine s_iload_n (pc1 := 49) (tk (n := 24) t204_0 rfl) rfl rfl rfl ?_
    refine s_sipush (pc1 := 52) (tk (n := 25) t204_0 rfl) rfl rfl  ?_
    refine s_iremc (pc1 := 53) (tk (n := 26) t204_0 rfl) rfl rfl (by decide) ?_
    refine s_call0 (as := [(2, x0), (0, w32 (x1.tdiv 400)), (0, x1.tmod 400)]) (st1 := [(0, x1), (2, h.2 x0 22)]) (p1 := 56) (M2 := 210) (tk (n := 27) t204_0 rfl) rfl rfl rfl rfl rfl (fun r14 => ?_)
    refine s_if_eq (pc1 := 59) (pt := 82) (tk (n := 28) t204_0 rfl) rfl rfl rfl ?_ ?_
    · refine s_iconst (pc1 := 83) (tk (n := 11) t204_1 rfl) rfl rfl  ?_
      refine s_iast (pc1 := 84) (tk (n := 12) t204_1 rfl) rfl rfl  ?_
      refine s_aload_n (pc1 := 85) (tk (n := 13) t204_1 rfl) rfl rfl rfl ?_
      refine s_getf (pc1 := 88) (c := 12) (t1 := 2) (tk (n := 14) t204_1 rfl) rfl rfl (by decide) rfl rfl ?_
      refine s_iload_n (pc1 := 89) (tk (n := 15) t204_1 rfl) rfl rfl rfl ?_
      refine s_iconst (pc1 := 90) (tk (n := 16) t204_1 rfl) rfl rfl  ?_
      refine s_iast (pc1 := 91) (tk (n := 17) t204_1 rfl) rfl rfl  ?_
      refine s_iinc (pc1 := 94) (ls1 := [(2, x0), (0, w32 (x1 + 1)), (9, 0)]) (tk (n := 18) t204_1 rfl) rfl rfl rfl rfl ?_
      refine s_goto (pc1 := 30) (tk (n := 19) t204_1 rfl) rfl rfl ?_
      rfl
    · refine s_aload_n (pc1 := 60) (tk (n := 29) t204_0 rfl) rfl rfl rfl ?_
      refine s_getf (pc1 := 63) (c := 12) (t1 := 2) (tk (n := 0) t204_1 rfl) rfl rfl (by decide) rfl rfl ?_
      refine s_iload_n (pc1 := 64) (tk (n := 1) t204_1 rfl) rfl rfl rfl ?_
      refine s_sipush (pc1 := 67) (tk (n := 2) t204_1 rfl) rfl rfl  ?_
      refine s_idivc (pc1 := 68) (tk (n := 3) t204_1 rfl) rfl rfl (by decide) ?_
      refine s_iald (pc1 := 69) (tk (n := 4) t204_1 rfl) rfl rfl  ?_
      refine s_bipush (pc1 := 71) (tk (n := 5) t204_1 rfl) rfl rfl  ?_
      refine s_ic_lt (pc1 := 74) (pt := 78) (tk (n := 6) t204_1 rfl) rfl rfl rfl ?_ ?_
      · refine s_iconst (pc1 := 79) (tk (n := 9) t204_1 rfl) rfl rfl  ?_
        refine s_goto (pc1 := 83) (tk (n := 10) t204_1 rfl) rfl rfl ?_
        refine s_iast (pc1 := 84) (tk (n := 12) t204_1 rfl) rfl rfl  ?_
        refine s_aload_n (pc1 := 85) (tk (n := 13) t204_1 rfl) rfl rfl rfl ?_
        refine s_getf (pc1 := 88) (c := 12) (t1 := 2) (tk (n := 14) t204_1 rfl) rfl rfl (by decide) rfl rfl ?_
        refine s_iload_n (pc1 := 89) (tk (n := 15) t204_1 rfl) rfl rfl rfl ?_
        refine s_iconst (pc1 := 90) (tk (n := 16) t204_1 rfl) rfl rfl  ?_
        refine s_iast (pc1 := 91) (tk (n := 17) t204_1 rfl) rfl rfl  ?_
        refine s_iinc (pc1 := 94) (ls1 := [(2, x0), (0, w32 (x1 + 1)), (9, 0)]) (tk (n := 18) t204_1 rfl) rfl rfl rfl rfl ?_
        refine s_goto (pc1 := 30) (tk (n := 19) t204_1 rfl) rfl rfl ?_
        rfl
      · refine s_iconst (pc1 := 75) (tk (n := 7) t204_1 rfl) rfl rfl  ?_
        refine s_goto (pc1 := 83) (tk (n := 8) t204_1 rfl) rfl rfl ?_
        refine s_iast (pc1 := 84) (tk (n := 12) t204_1 rfl) rfl rfl  ?_
        refine s_aload_n (pc1 := 85) (tk (n := 13) t204_1 rfl) rfl rfl rfl ?_
        refine s_getf (pc1 := 88) (c := 12) (t1 := 2) (tk (n := 14) t204_1 rfl) rfl rfl (by decide) rfl rfl ?_
        refine s_iload_n (pc1 := 89) (tk (n := 15) t204_1 rfl) rfl rfl rfl ?_
        refine s_iconst (pc1 := 90) (tk (n := 16) t204_1 rfl) rfl rfl  ?_
        refine s_iast (pc1 := 91) (tk (n := 17) t204_1 rfl) rfl rfl  ?_
        refine s_iinc (pc1 := 94) (ls1 := [(2, x0), (0, w32 (x1 + 1)), (9, 0)]) (tk (n := 18) t204_1 rfl) rfl rfl rfl rfl ?_
        refine s_goto (pc1 := 30) (tk (n := 19) t204_1 rfl) rfl rfl ?_
        rfl
set_option maxRecDepth 100000 in
set_option maxHeartbeats 4000000 in
theorem e_X12_takesOver_99 (x0 : Int) (x1 : Int) (z2 : Vl) (h : Hq) : vp 204 99 [(2, x0), (0, x1), z2] [] h = if 0 < x0 ∧ (kd x0).1 = 12 then if x1 ≥ (h.2 x0 20) then (if (0 < x0 ∧ (kd x0).1 = 12) ∧ True then if 0 < x0 ∧ (kd x0).1 = 12 then (vm 287 [(2, x0)] (h.1, stm h.2 x0 26 0)).bind (fun r9 => vp 204 168 [(2, x0), (0, 0), (9, 0)] [] r9.2) else none else none) else (if 0 < x0 ∧ (kd x0).1 = 12 then if (kd (h.2 x0 19)).1 = 20 ∧ 0 ≤ (w32 (4 * x1)) ∧ (w32 (4 * x1)) < (kd (h.2 x0 19)).2 then if 0 < x0 ∧ (kd x0).1 = 12 then if (kd (h.2 x0 19)).1 = 20 ∧ 0 ≤ (w32 ((w32 (4 * x1)) + 1)) ∧ (w32 ((w32 (4 * x1)) + 1)) < (kd (h.2 x0 19)).2 then if 0 < x0 ∧ (kd x0).1 = 12 then if (kd (h.2 x0 19)).1 = 20 ∧ 0 ≤ (w32 ((w32 (4 * x1)) + 2)) ∧ (w32 ((w32 (4 * x1)) + 2)) < (kd (h.2 x0 19)).2 then if 0 < x0 ∧ (kd x0).1 = 12 then if (kd (h.2 x0 19)).1 = 20 ∧ 0 ≤ (w32 ((w32 (4 * x1)) + 3)) ∧ (w32 ((w32 (4 * x1)) + 3)) < (kd (h.2 x0 19)).2 then if 0 < x0 ∧ (kd x0).1 = 12 then (vm 254 [(2, x0), (0, h.2 (h.2 x0 19) (w32 (4 * x1))), (0, h.2 (h.2 x0 19) (w32 ((w32 (4 * x1)) + 1))), (0, h.2 (h.2 x0 19) (w32 ((w32 (4 * x1)) + 2))), (0, h.2 (h.2 x0 19) (w32 ((w32 (4 * x1)) + 3)))] h).bind (fun r38 => vp 204 99 [(2, x0), (0, w32 (x1 + 1)), (0, h.2 (h.2 x0 19) (w32 (4 * x1)))] [] r38.2) else none else none else none else none else none else none else none else none else none) else none := by
  refine s_fg (ls1 := [(2, x0), (0, x1), (9, 0)]) (tk (n := 22) t204_1 rfl) rfl ?_
  refine s_iload_n (pc1 := 100) (tk (n := 22) t204_1 rfl) rfl rfl rfl ?_
  refine s_aload_n (pc1 := 101) (tk (n := 23) t204_1 rfl) rfl rfl rfl ?_
  refine s_getf (pc1 := 104) (c := 12) (t1 := 0) (tk (n := 24) t204_1 rfl) rfl rfl (by decide) rfl rfl ?_
  refine s_ic_ge (pc1 := 107) (pt := 157) (tk (n := 25) t204_1 rfl) rfl rfl rfl ?_ ?_
  · refine s_aload_n (pc1 := 158) (tk (n := 2) t204_3 rfl) rfl rfl rfl ?_
    refine s_iconst (pc1 := 159) (tk (n := 3) t204_3 rfl) rfl rfl  ?_
    refine s_putf0 (pc1 := 162) (c := 12) (tk (n := 4) t204_3 rfl) rfl rfl rfl rfl rfl ?_
    refine s_aload_n (pc1 := 163) (tk (n := 5) t204_3 rfl) rfl rfl rfl ?_
    refine s_call9 (as := [(2, x0)]) (st1 := []) (p1 := 166) (M2 := 287) (tk (n := 6) t204_3 rfl) rfl rfl rfl rfl rfl (fun r9 => ?_)
    refine s_iconst (pc1 := 167) (tk (n := 7) t204_3 rfl) rfl rfl  ?_
    refine s_istore_n (pc1 := 168) (ls1 := [(2, x0), (0, 0), (9, 0)]) (tk (n := 8) t204_3 rfl) rfl rfl rfl rfl ?_
    rfl
  · refine s_aload_n (pc1 := 108) (tk (n := 26) t204_1 rfl) rfl rfl rfl ?_
    refine s_getf (pc1 := 111) (c := 12) (t1 := 2) (tk (n := 27) t204_1 rfl) rfl rfl (by decide) rfl rfl ?_
    refine s_iconst (pc1 := 112) (tk (n := 28) t204_1 rfl) rfl rfl  ?_
    refine s_iload_n (pc1 := 113) (tk (n := 29) t204_1 rfl) rfl rfl rfl ?_
    refine s_imul (pc1 := 114) (tk (n := 0) t204_2 rfl) rfl rfl  ?_
    refine s_iald (pc1 := 115) (tk (n := 1) t204_2 rfl) rfl rfl  ?_
    refine s_istore_n (pc1 := 116) (ls1 := [(2, x0), (0, x1), (0, h.2 (h.2 x0 19) (w32 (4 * x1)))]) (tk (n := 2) t204_2 rfl) rfl rfl rfl rfl ?_
    refine s_aload_n (pc1 := 117) (tk (n := 3) t204_2 rfl) rfl rfl rfl ?_
    refine s_iload_n (pc1 := 118) (tk (n := 4) t204_2 rfl) rfl rfl rfl ?_
    refine s_aload_n (pc1 := 119) (tk (n := 5) t204_2 rfl) rfl rfl rfl ?_
    refine s_getf (pc1 := 122) (c := 12) (t1 := 2) (tk (n := 6) t204_2 rfl) rfl rfl (by decide) rfl rfl ?_
    refine s_iconst (pc1 := 123) (tk (n := 7) t204_2 rfl) rfl rfl  ?_
    refine s_iload_n (pc1 := 124) (tk (n := 8) t204_2 rfl) rfl rfl rfl ?_
    refine s_imul (pc1 := 125) (tk (n := 9) t204_2 rfl) rfl rfl  ?_
    refine s_iconst (pc1 := 126) (tk (n := 10) t204_2 rfl) rfl rfl  ?_
    refine s_iadd (pc1 := 127) (tk (n := 11) t204_2 rfl) rfl rfl  ?_
    refine s_iald (pc1 := 128) (tk (n := 12) t204_2 rfl) rfl rfl  ?_
    refine s_aload_n (pc1 := 129) (tk (n := 13) t204_2 rfl) rfl rfl rfl ?_
    refine s_getf (pc1 := 132) (c := 12) (t1 := 2) (tk (n := 14) t204_2 rfl) rfl rfl (by decide) rfl rfl ?_
    refine s_iconst (pc1 := 133) (tk (n := 15) t204_2 rfl) rfl rfl  ?_
    refine s_iload_n (pc1 := 134) (tk (n := 16) t204_2 rfl) rfl rfl rfl ?_
    refine s_imul (pc1 := 135) (tk (n := 17) t204_2 rfl) rfl rfl  ?_
    refine s_iconst (pc1 := 136) (tk (n := 18) t204_2 rfl) rfl rfl  ?_
    refine s_iadd (pc1 := 137) (tk (n := 19) t204_2 rfl) rfl rfl  ?_
    refine s_iald (pc1 := 138) (tk (n := 20) t204_2 rfl) rfl rfl  ?_
    refine s_aload_n (pc1 := 139) (tk (n := 21) t204_2 rfl) rfl rfl rfl ?_
    refine s_getf (pc1 := 142) (c := 12) (t1 := 2) (tk (n := 22) t204_2 rfl) rfl rfl (by decide) rfl rfl ?_
    refine s_iconst (pc1 := 143) (tk (n := 23) t204_2 rfl) rfl rfl  ?_
    refine s_iload_n (pc1 := 144) (tk (n := 24) t204_2 rfl) rfl rfl rfl ?_
    refine s_imul (pc1 := 145) (tk (n := 25) t204_2 rfl) rfl rfl  ?_
    refine s_iconst (pc1 := 146) (tk (n := 26) t204_2 rfl) rfl rfl  ?_
    refine s_iadd (pc1 := 147) (tk (n := 27) t204_2 rfl) rfl rfl  ?_
    refine s_iald (pc1 := 148) (tk (n := 28) t204_2 rfl) rfl rfl  ?_
    refine s_call9 (as := [(2, x0), (0, h.2 (h.2 x0 19) (w32 (4 * x1))), (0, h.2 (h.2 x0 19) (w32 ((w32 (4 * x1)) + 1))), (0, h.2 (h.2 x0 19) (w32 ((w32 (4 * x1)) + 2))), (0, h.2 (h.2 x0 19) (w32 ((w32 (4 * x1)) + 3)))]) (st1 := []) (p1 := 151) (M2 := 254) (tk (n := 29) t204_2 rfl) rfl rfl rfl rfl rfl (fun r38 => ?_)
    refine s_iinc (pc1 := 154) (ls1 := [(2, x0), (0, w32 (x1 + 1)), (0, h.2 (h.2 x0 19) (w32 (4 * x1)))]) (tk (n := 0) t204_3 rfl) rfl rfl rfl rfl ?_
    refine s_goto (pc1 := 99) (tk (n := 1) t204_3 rfl) rfl rfl ?_
    rfl
set_option maxRecDepth 100000 in
set_option maxHeartbeats 4000000 in
theorem e_X12_takesOver_168 (x0 : Int) (x1 : Int) (z2 : Vl) (h : Hq) : vp 204 168 [(2, x0), (0, x1), z2] [] h = if x1 ≥ 2 then (some (none, h)) else (if 0 < x0 ∧ (kd x0).1 = 12 then if 0 < (h.2 x0 39) ∧ (kd (h.2 x0 39)).1 = 22 ∧ 0 ≤ x1 ∧ x1 < (kd (h.2 x0 39)).2 then vp 204 168 [(2, x0), (0, w32 (x1 + 1)), (9, 0)] [] (h.1, stm h.2 (h.2 x0 39) x1 (0 % 2)) else none else none) := by
  refine s_fg (ls1 := [(2, x0), (0, x1), (9, 0)]) (tk (n := 9) t204_3 rfl) rfl ?_
  refine s_iload_n (pc1 := 169) (tk (n := 9) t204_3 rfl) rfl rfl rfl ?_
  refine s_iconst (pc1 := 170) (tk (n := 10) t204_3 rfl) rfl rfl  ?_
  refine s_ic_ge (pc1 := 173) (pt := 186) (tk (n := 11) t204_3 rfl) rfl rfl rfl ?_ ?_
  · exact s_ret (tk (n := 19) t204_3 rfl) rfl rfl rfl
  · refine s_aload_n (pc1 := 174) (tk (n := 12) t204_3 rfl) rfl rfl rfl ?_
    refine s_getf (pc1 := 177) (c := 12) (t1 := 2) (tk (n := 13) t204_3 rfl) rfl rfl (by decide) rfl rfl ?_
    refine s_iload_n (pc1 := 178) (tk (n := 14) t204_3 rfl) rfl rfl rfl ?_
    refine s_iconst (pc1 := 179) (tk (n := 15) t204_3 rfl) rfl rfl  ?_
    refine s_bast2 (pc1 := 180) (tk (n := 16) t204_3 rfl) rfl rfl  ?_
    refine s_iinc (pc1 := 183) (ls1 := [(2, x0), (0, w32 (x1 + 1)), (9, 0)]) (tk (n := 17) t204_3 rfl) rfl rfl rfl rfl ?_
    refine s_goto (pc1 := 168) (tk (n := 18) t204_3 rfl) rfl rfl ?_
    rfl
set_option maxRecDepth 100000 in
set_option maxHeartbeats 4000000 in
theorem e_X12_bank (x0 : Int) (h : Hq) : vm 205 [(2, x0)] h = if 0 < x0 ∧ (kd x0).1 = 12 then if (0 < x0 ∧ (kd x0).1 = 12) ∧ True then if (0 < x0 ∧ (kd x0).1 = 12) ∧ True then if (0 < x0 ∧ (kd x0).1 = 12) ∧ True then if (0 < x0 ∧ (kd x0).1 = 12) ∧ True then if (0 < x0 ∧ (kd x0).1 = 12) ∧ True then if 0 < x0 ∧ (kd x0).1 = 12 then (vm 191 [(2, x0)] (h.1, stm (stm (stm (stm (stm h.2 x0 2 (h.2 x0 1)) x0 1 0) x0 3 0) x0 8 0) x0 9 (-1))).bind (fun r18 => if 0 < x0 ∧ (kd x0).1 = 12 then (vm 178 [(2, x0)] r18.2).bind (fun r20 => vp 205 36 [(2, x0)] [] r20.2) else none) else none else none else none else none else none else none else none := by
  show vp 205 0 [(2, x0)] [] h = _
  refine s_aload_n (pc1 := 1) (tk (n := 0) t205_0 rfl) rfl rfl rfl ?_
  refine s_aload_n (pc1 := 2) (tk (n := 1) t205_0 rfl) rfl rfl rfl ?_
  refine s_getf (pc1 := 5) (c := 12) (t1 := 0) (tk (n := 2) t205_0 rfl) rfl rfl (by decide) rfl rfl ?_
  refine s_putf0 (pc1 := 8) (c := 12) (tk (n := 3) t205_0 rfl) rfl rfl rfl rfl rfl ?_
  refine s_aload_n (pc1 := 9) (tk (n := 4) t205_0 rfl) rfl rfl rfl ?_
  refine s_iconst (pc1 := 10) (tk (n := 5) t205_0 rfl) rfl rfl  ?_
  refine s_putf0 (pc1 := 13) (c := 12) (tk (n := 6) t205_0 rfl) rfl rfl rfl rfl rfl ?_
  refine s_aload_n (pc1 := 14) (tk (n := 7) t205_0 rfl) rfl rfl rfl ?_
  refine s_iconst (pc1 := 15) (tk (n := 8) t205_0 rfl) rfl rfl  ?_
  refine s_putf0 (pc1 := 18) (c := 12) (tk (n := 9) t205_0 rfl) rfl rfl rfl rfl rfl ?_
  refine s_aload_n (pc1 := 19) (tk (n := 10) t205_0 rfl) rfl rfl rfl ?_
  refine s_iconst (pc1 := 20) (tk (n := 11) t205_0 rfl) rfl rfl  ?_
  refine s_putf0 (pc1 := 23) (c := 12) (tk (n := 12) t205_0 rfl) rfl rfl rfl rfl rfl ?_
  refine s_aload_n (pc1 := 24) (tk (n := 13) t205_0 rfl) rfl rfl rfl ?_
  refine s_iconst (pc1 := 25) (tk (n := 14) t205_0 rfl) rfl rfl  ?_
  refine s_putf0 (pc1 := 28) (c := 12) (tk (n := 15) t205_0 rfl) rfl rfl rfl rfl rfl ?_
  refine s_aload_n (pc1 := 29) (tk (n := 16) t205_0 rfl) rfl rfl rfl ?_
  refine s_call9 (as := [(2, x0)]) (st1 := []) (p1 := 32) (M2 := 191) (tk (n := 17) t205_0 rfl) rfl rfl rfl rfl rfl (fun r18 => ?_)
  refine s_aload_n (pc1 := 33) (tk (n := 18) t205_0 rfl) rfl rfl rfl ?_
  refine s_call9 (as := [(2, x0)]) (st1 := []) (p1 := 36) (M2 := 178) (tk (n := 19) t205_0 rfl) rfl rfl rfl rfl rfl (fun r20 => ?_)
  rfl
set_option maxRecDepth 100000 in
set_option maxHeartbeats 4000000 in
theorem e_X12_bank_36 (x0 : Int) (h : Hq) : vp 205 36 [(2, x0)] [] h = if 0 < x0 ∧ (kd x0).1 = 12 then (vm 180 [(2, x0)] h).bind (fun r2 => if (vx r2) = 0 then (if 0 < x0 ∧ (kd x0).1 = 12 then if (0 < x0 ∧ (kd x0).1 = 12) ∧ True then if 0 < x0 ∧ (kd x0).1 = 12 then if (0 < x0 ∧ (kd x0).1 = 12) ∧ True then if 0 < x0 ∧ (kd x0).1 = 12 then if ((stm (stm r2.2.2 x0 10 (r2.2.2 x0 8)) x0 11 ((stm r2.2.2 x0 10 (r2.2.2 x0 8)) x0 9)) x0 8) ≤ 0 then (if 0 < x0 ∧ (kd x0).1 = 12 then (vm 204 [(2, x0)] (r2.2.1, stm (stm r2.2.2 x0 10 (r2.2.2 x0 8)) x0 11 ((stm r2.2.2 x0 10 (r2.2.2 x0 8)) x0 9))).bind (fun r16 => if 0 < x0 ∧ (kd x0).1 = 12 then (vm 207 [(2, x0)] r16.2).bind (fun r18 => some (some (0, vx r18), r18.2)) else none) else none) else (some (some (0, (-1)), (r2.2.1, stm (stm r2.2.2 x0 10 (r2.2.2 x0 8)) x0 11 ((stm r2.2.2 x0 10 (r2.2.2 x0 8)) x0 9)))) else none else none else none else none else none) else (if 0 < x0 ∧ (kd x0).1 = 12 then if (r2.2.2 x0 5) = 0 then (if 0 < x0 ∧ (kd x0).1 = 12 then if (0 < x0 ∧ (kd x0).1 = 12) ∧ True then if 0 < x0 ∧ (kd x0).1 = 12 then if (0 < x0 ∧ (kd x0).1 = 12) ∧ True then if 0 < x0 ∧ (kd x0).1 = 12 then if ((stm (stm r2.2.2 x0 10 (r2.2.2 x0 8)) x0 11 ((stm r2.2.2 x0 10 (r2.2.2 x0 8)) x0 9)) x0 8) ≤ 0 then (if 0 < x0 ∧ (kd x0).1 = 12 then (vm 204 [(2, x0)] (r2.2.1, stm (stm r2.2.2 x0 10 (r2.2.2 x0 8)) x0 11 ((stm r2.2.2 x0 10 (r2.2.2 x0 8)) x0 9))).bind (fun r19 => if 0 < x0 ∧ (kd x0).1 = 12 then (vm 207 [(2, x0)] r19.2).bind (fun r21 => some (some (0, vx r21), r21.2)) else none) else none) else (some (some (0, (-1)), (r2.2.1, stm (stm r2.2.2 x0 10 (r2.2.2 x0 8)) x0 11 ((stm r2.2.2 x0 10 (r2.2.2 x0 8)) x0 9)))) else none else none else none else none else none) else (if 0 < x0 ∧ (kd x0).1 = 12 then (vm 202 [(2, x0)] r2.2).bind (fun r8 => vp 205 36 [(2, x0)] [] r8.2) else none) else none)) else none := by
  refine s_aload_n (pc1 := 37) (tk (n := 20) t205_0 rfl) rfl rfl rfl ?_
  refine s_call0 (as := [(2, x0)]) (st1 := []) (p1 := 40) (M2 := 180) (tk (n := 21) t205_0 rfl) rfl rfl rfl rfl rfl (fun r2 => ?_)
  refine s_if_eq (pc1 := 43) (pt := 57) (tk (n := 22) t205_0 rfl) rfl rfl rfl ?_ ?_
  · refine s_aload_n (pc1 := 58) (tk (n := 29) t205_0 rfl) rfl rfl rfl ?_
    refine s_aload_n (pc1 := 59) (tk (n := 0) t205_1 rfl) rfl rfl rfl ?_
    refine s_getf (pc1 := 62) (c := 12) (t1 := 0) (tk (n := 1) t205_1 rfl) rfl rfl (by decide) rfl rfl ?_
    refine s_putf0 (pc1 := 65) (c := 12) (tk (n := 2) t205_1 rfl) rfl rfl rfl rfl rfl ?_
    refine s_aload_n (pc1 := 66) (tk (n := 3) t205_1 rfl) rfl rfl rfl ?_
    refine s_aload_n (pc1 := 67) (tk (n := 4) t205_1 rfl) rfl rfl rfl ?_
    refine s_getf (pc1 := 70) (c := 12) (t1 := 0) (tk (n := 5) t205_1 rfl) rfl rfl (by decide) rfl rfl ?_
    refine s_putf0 (pc1 := 73) (c := 12) (tk (n := 6) t205_1 rfl) rfl rfl rfl rfl rfl ?_
    refine s_aload_n (pc1 := 74) (tk (n := 7) t205_1 rfl) rfl rfl rfl ?_
    refine s_getf (pc1 := 77) (c := 12) (t1 := 0) (tk (n := 8) t205_1 rfl) rfl rfl (by decide) rfl rfl ?_
    refine s_if_le (pc1 := 80) (pt := 82) (tk (n := 9) t205_1 rfl) rfl rfl rfl ?_ ?_
    · refine s_aload_n (pc1 := 83) (tk (n := 12) t205_1 rfl) rfl rfl rfl ?_
      refine s_call9 (as := [(2, x0)]) (st1 := []) (p1 := 86) (M2 := 204) (tk (n := 13) t205_1 rfl) rfl rfl rfl rfl rfl (fun r16 => ?_)
      refine s_aload_n (pc1 := 87) (tk (n := 14) t205_1 rfl) rfl rfl rfl ?_
      refine s_call0 (as := [(2, x0)]) (st1 := []) (p1 := 90) (M2 := 207) (tk (n := 15) t205_1 rfl) rfl rfl rfl rfl rfl (fun r18 => ?_)
      exact s_ret (tk (n := 16) t205_1 rfl) rfl rfl rfl
    · refine s_iconst (pc1 := 81) (tk (n := 10) t205_1 rfl) rfl rfl  ?_
      exact s_ret (tk (n := 11) t205_1 rfl) rfl rfl rfl
  · refine s_aload_n (pc1 := 44) (tk (n := 23) t205_0 rfl) rfl rfl rfl ?_
    refine s_getf (pc1 := 47) (c := 12) (t1 := 0) (tk (n := 24) t205_0 rfl) rfl rfl (by decide) rfl rfl ?_
    refine s_if_eq (pc1 := 50) (pt := 57) (tk (n := 25) t205_0 rfl) rfl rfl rfl ?_ ?_
    · refine s_aload_n (pc1 := 58) (tk (n := 29) t205_0 rfl) rfl rfl rfl ?_
      refine s_aload_n (pc1 := 59) (tk (n := 0) t205_1 rfl) rfl rfl rfl ?_
      refine s_getf (pc1 := 62) (c := 12) (t1 := 0) (tk (n := 1) t205_1 rfl) rfl rfl (by decide) rfl rfl ?_
      refine s_putf0 (pc1 := 65) (c := 12) (tk (n := 2) t205_1 rfl) rfl rfl rfl rfl rfl ?_
      refine s_aload_n (pc1 := 66) (tk (n := 3) t205_1 rfl) rfl rfl rfl ?_
      refine s_aload_n (pc1 := 67) (tk (n := 4) t205_1 rfl) rfl rfl rfl ?_
      refine s_getf (pc1 := 70) (c := 12) (t1 := 0) (tk (n := 5) t205_1 rfl) rfl rfl (by decide) rfl rfl ?_
      refine s_putf0 (pc1 := 73) (c := 12) (tk (n := 6) t205_1 rfl) rfl rfl rfl rfl rfl ?_
      refine s_aload_n (pc1 := 74) (tk (n := 7) t205_1 rfl) rfl rfl rfl ?_
      refine s_getf (pc1 := 77) (c := 12) (t1 := 0) (tk (n := 8) t205_1 rfl) rfl rfl (by decide) rfl rfl ?_
      refine s_if_le (pc1 := 80) (pt := 82) (tk (n := 9) t205_1 rfl) rfl rfl rfl ?_ ?_
      · refine s_aload_n (pc1 := 83) (tk (n := 12) t205_1 rfl) rfl rfl rfl ?_
        refine s_call9 (as := [(2, x0)]) (st1 := []) (p1 := 86) (M2 := 204) (tk (n := 13) t205_1 rfl) rfl rfl rfl rfl rfl (fun r19 => ?_)
        refine s_aload_n (pc1 := 87) (tk (n := 14) t205_1 rfl) rfl rfl rfl ?_
        refine s_call0 (as := [(2, x0)]) (st1 := []) (p1 := 90) (M2 := 207) (tk (n := 15) t205_1 rfl) rfl rfl rfl rfl rfl (fun r21 => ?_)
        exact s_ret (tk (n := 16) t205_1 rfl) rfl rfl rfl
      · refine s_iconst (pc1 := 81) (tk (n := 10) t205_1 rfl) rfl rfl  ?_
        exact s_ret (tk (n := 11) t205_1 rfl) rfl rfl rfl
    · refine s_aload_n (pc1 := 51) (tk (n := 26) t205_0 rfl) rfl rfl rfl ?_
      refine s_call9 (as := [(2, x0)]) (st1 := []) (p1 := 54) (M2 := 202) (tk (n := 27) t205_0 rfl) rfl rfl rfl rfl rfl (fun r8 => ?_)
      refine s_goto (pc1 := 36) (tk (n := 28) t205_0 rfl) rfl rfl ?_
      rfl
set_option maxRecDepth 100000 in
set_option maxHeartbeats 4000000 in
theorem e_X12_fault (x0 : Int) (x1 : Int) (h : Hq) : vm 206 [(2, x0), (0, x1)] h = if x1 ≠ 0 then (if x1 ≠ 1 then (some (some (0, (-1)), h)) else (if 0 < x0 ∧ (kd x0).1 = 12 then some (some (0, h.2 x0 11), h) else none)) else (if 0 < x0 ∧ (kd x0).1 = 12 then some (some (0, h.2 x0 10), h) else none) := by
  show vp 206 0 [(2, x0), (0, x1)] [] h = _
  refine s_iload_n (pc1 := 1) (tk (n := 0) t206_0 rfl) rfl rfl rfl ?_
  refine s_if_ne (pc1 := 4) (pt := 11) (tk (n := 1) t206_0 rfl) rfl rfl rfl ?_ ?_
  · refine s_iload_n (pc1 := 12) (tk (n := 5) t206_0 rfl) rfl rfl rfl ?_
    refine s_iconst (pc1 := 13) (tk (n := 6) t206_0 rfl) rfl rfl  ?_
    refine s_ic_ne (pc1 := 16) (pt := 23) (tk (n := 7) t206_0 rfl) rfl rfl rfl ?_ ?_
    · refine s_iconst (pc1 := 24) (tk (n := 11) t206_0 rfl) rfl rfl  ?_
      exact s_ret (tk (n := 12) t206_0 rfl) rfl rfl rfl
    · refine s_aload_n (pc1 := 17) (tk (n := 8) t206_0 rfl) rfl rfl rfl ?_
      refine s_getf (pc1 := 20) (c := 12) (t1 := 0) (tk (n := 9) t206_0 rfl) rfl rfl (by decide) rfl rfl ?_
      refine s_goto (pc1 := 24) (tk (n := 10) t206_0 rfl) rfl rfl ?_
      exact s_ret (tk (n := 12) t206_0 rfl) rfl rfl rfl
  · refine s_aload_n (pc1 := 5) (tk (n := 2) t206_0 rfl) rfl rfl rfl ?_
    refine s_getf (pc1 := 8) (c := 12) (t1 := 0) (tk (n := 3) t206_0 rfl) rfl rfl (by decide) rfl rfl ?_
    refine s_goto (pc1 := 24) (tk (n := 4) t206_0 rfl) rfl rfl ?_
    exact s_ret (tk (n := 12) t206_0 rfl) rfl rfl rfl
set_option maxRecDepth 100000 in
set_option maxHeartbeats 4000000 in
theorem e_X12_stores (x0 : Int) (h : Hq) : vm 207 [(2, x0)] h = if 0 < x0 ∧ (kd x0).1 = 12 then if (kd (h.2 x0 13)).1 = 20 ∧ 0 ≤ (3 : Int) ∧ (3 : Int) < (kd (h.2 x0 13)).2 then some (some (0, h.2 (h.2 x0 13) 3), h) else none else none := by
  show vp 207 0 [(2, x0)] [] h = _
  refine s_aload_n (pc1 := 1) (tk (n := 0) t207_0 rfl) rfl rfl rfl ?_
  refine s_getf (pc1 := 4) (c := 12) (t1 := 2) (tk (n := 1) t207_0 rfl) rfl rfl (by decide) rfl rfl ?_
  refine s_iconst (pc1 := 5) (tk (n := 2) t207_0 rfl) rfl rfl  ?_
  refine s_iald (pc1 := 6) (tk (n := 3) t207_0 rfl) rfl rfl  ?_
  exact s_ret (tk (n := 4) t207_0 rfl) rfl rfl rfl
set_option maxRecDepth 100000 in
set_option maxHeartbeats 4000000 in
theorem e_X12_isStore (x0 : Int) (x1 : Int) (h : Hq) : vm 208 [(2, x0), (0, x1)] h = if 0 < x0 ∧ (kd x0).1 = 12 then (vm 207 [(2, x0)] h).bind (fun r4 => (vm 165 [(0, x1), (0, 0), (0, w32 ((vx r4) - 1))] r4.2).bind (fun r7 => if (vx r7) = 0 ∨ (vx r7) = 1 then some (some (0, vx r7), r7.2) else none)) else none := by
  show vp 208 0 [(2, x0), (0, x1)] [] h = _
  refine s_iload_n (pc1 := 1) (tk (n := 0) t208_0 rfl) rfl rfl rfl ?_
  refine s_iconst (pc1 := 2) (tk (n := 1) t208_0 rfl) rfl rfl  ?_
  refine s_aload_n (pc1 := 3) (tk (n := 2) t208_0 rfl) rfl rfl rfl ?_
  refine s_call0 (as := [(2, x0)]) (st1 := [(0, 0), (0, x1)]) (p1 := 6) (M2 := 207) (tk (n := 3) t208_0 rfl) rfl rfl rfl rfl rfl (fun r4 => ?_)
  refine s_iconst (pc1 := 7) (tk (n := 4) t208_0 rfl) rfl rfl  ?_
  refine s_isub (pc1 := 8) (tk (n := 5) t208_0 rfl) rfl rfl  ?_
  refine s_callS0 (as := [(0, x1), (0, 0), (0, w32 ((vx r4) - 1))]) (st1 := []) (p1 := 11) (M2 := 165) (tk (n := 6) t208_0 rfl) rfl rfl rfl rfl rfl (fun r7 => ?_)
  exact s_retG (tk (n := 7) t208_0 rfl) rfl rfl rfl
set_option maxRecDepth 100000 in
set_option maxHeartbeats 4000000 in
theorem e_X12_isRow (x0 : Int) (x1 : Int) (h : Hq) : vm 209 [(2, x0), (0, x1)] h = if 0 < x0 ∧ (kd x0).1 = 12 then (vm 208 [(2, x0), (0, x1)] h).bind (fun r3 => if (vx r3) = 0 then (some (some (0, 0), r3.2)) else (if 0 < x0 ∧ (kd x0).1 = 12 then if (kd (r3.2.2 x0 16)).1 = 20 ∧ 0 ≤ x1 ∧ x1 < (kd (r3.2.2 x0 16)).2 then if (r3.2.2 (r3.2.2 x0 16) x1) > 9 then (some (some (0, 0), r3.2)) else (some (some (0, 1), r3.2)) else none else none)) else none := by
  show vp 209 0 [(2, x0), (0, x1)] [] h = _
  refine s_aload_n (pc1 := 1) (tk (n := 0) t209_0 rfl) rfl rfl rfl ?_
  refine s_iload_n (pc1 := 2) (tk (n := 1) t209_0 rfl) rfl rfl rfl ?_
  refine s_call0 (as := [(2, x0), (0, x1)]) (st1 := []) (p1 := 5) (M2 := 208) (tk (n := 2) t209_0 rfl) rfl rfl rfl rfl rfl (fun r3 => ?_)
  refine s_if_eq (pc1 := 8) (pt := 23) (tk (n := 3) t209_0 rfl) rfl rfl rfl ?_ ?_
  · refine s_iconst (pc1 := 24) (tk (n := 12) t209_0 rfl) rfl rfl  ?_
    exact s_retY (tk (n := 13) t209_0 rfl) rfl rfl rfl (by decide)
  · refine s_aload_n (pc1 := 9) (tk (n := 4) t209_0 rfl) rfl rfl rfl ?_
    refine s_getf (pc1 := 12) (c := 12) (t1 := 2) (tk (n := 5) t209_0 rfl) rfl rfl (by decide) rfl rfl ?_
    refine s_iload_n (pc1 := 13) (tk (n := 6) t209_0 rfl) rfl rfl rfl ?_
    refine s_iald (pc1 := 14) (tk (n := 7) t209_0 rfl) rfl rfl  ?_
    refine s_bipush (pc1 := 16) (tk (n := 8) t209_0 rfl) rfl rfl  ?_
    refine s_ic_gt (pc1 := 19) (pt := 23) (tk (n := 9) t209_0 rfl) rfl rfl rfl ?_ ?_
    · refine s_iconst (pc1 := 24) (tk (n := 12) t209_0 rfl) rfl rfl  ?_
      exact s_retY (tk (n := 13) t209_0 rfl) rfl rfl rfl (by decide)
    · refine s_iconst (pc1 := 20) (tk (n := 10) t209_0 rfl) rfl rfl  ?_
      refine s_goto (pc1 := 24) (tk (n := 11) t209_0 rfl) rfl rfl ?_
      exact s_retY (tk (n := 13) t209_0 rfl) rfl rfl rfl (by decide)
set_option maxRecDepth 100000 in
set_option maxHeartbeats 4000000 in
theorem e_X12_stands (x0 : Int) (x1 : Int) (x2 : Int) (h : Hq) : vm 210 [(2, x0), (0, x1), (0, x2)] h = if 0 < x0 ∧ (kd x0).1 = 12 then (vm 209 [(2, x0), (0, x1)] h).bind (fun r3 => if (vx r3) = 0 then (some (some (0, 0), r3.2)) else (if 0 < x0 ∧ (kd x0).1 = 12 then if (kd (r3.2.2 x0 17)).1 = 20 ∧ 0 ≤ x1 ∧ x1 < (kd (r3.2.2 x0 17)).2 then (vm 165 [(0, x2), (0, 0), (0, w32 ((r3.2.2 (r3.2.2 x0 17) x1) - 1))] r3.2).bind (fun r13 => if (vx r13) = 0 then (some (some (0, 0), r13.2)) else (some (some (0, 1), r13.2))) else none else none)) else none := by
  show vp 210 0 [(2, x0), (0, x1), (0, x2)] [] h = _
  refine s_aload_n (pc1 := 1) (tk (n := 0) t210_0 rfl) rfl rfl rfl ?_
  refine s_iload_n (pc1 := 2) (tk (n := 1) t210_0 rfl) rfl rfl rfl ?_
  refine s_call0 (as := [(2, x0), (0, x1)]) (st1 := []) (p1 := 5) (M2 := 209) (tk (n := 2) t210_0 rfl) rfl rfl rfl rfl rfl (fun r3 => ?_)
  refine s_if_eq (pc1 := 8) (pt := 28) (tk (n := 3) t210_0 rfl) rfl rfl rfl ?_ ?_
  · refine s_iconst (pc1 := 29) (tk (n := 16) t210_0 rfl) rfl rfl  ?_
    exact s_retY (tk (n := 17) t210_0 rfl) rfl rfl rfl (by decide)
  · refine s_iload_n (pc1 := 9) (tk (n := 4) t210_0 rfl) rfl rfl rfl ?_
    refine s_iconst (pc1 := 10) (tk (n := 5) t210_0 rfl) rfl rfl  ?_
    refine s_aload_n (pc1 := 11) (tk (n := 6) t210_0 rfl) rfl rfl rfl ?_
    refine s_getf (pc1 := 14) (c := 12) (t1 := 2) (tk (n := 7) t210_0 rfl) rfl rfl (by decide) rfl rfl ?_
    refine s_iload_n (pc1 := 15) (tk (n := 8) t210_0 rfl) rfl rfl rfl ?_
    refine s_iald (pc1 := 16) (tk (n := 9) t210_0 rfl) rfl rfl  ?_
    refine s_iconst (pc1 := 17) (tk (n := 10) t210_0 rfl) rfl rfl  ?_
    refine s_isub (pc1 := 18) (tk (n := 11) t210_0 rfl) rfl rfl  ?_
    refine s_callS0 (as := [(0, x2), (0, 0), (0, w32 ((r3.2.2 (r3.2.2 x0 17) x1) - 1))]) (st1 := []) (p1 := 21) (M2 := 165) (tk (n := 12) t210_0 rfl) rfl rfl rfl rfl rfl (fun r13 => ?_)
    refine s_if_eq (pc1 := 24) (pt := 28) (tk (n := 13) t210_0 rfl) rfl rfl rfl ?_ ?_
    · refine s_iconst (pc1 := 29) (tk (n := 16) t210_0 rfl) rfl rfl  ?_
      exact s_retY (tk (n := 17) t210_0 rfl) rfl rfl rfl (by decide)
    · refine s_iconst (pc1 := 25) (tk (n := 14) t210_0 rfl) rfl rfl  ?_
      refine s_goto (pc1 := 29) (tk (n := 15) t210_0 rfl) rfl rfl ?_
      exact s_retY (tk (n := 17) t210_0 rfl) rfl rfl rfl (by decide)
set_option maxRecDepth 100000 in
set_option maxHeartbeats 4000000 in
theorem e_X12_numberAt (x0 : Int) (x1 : Int) (x2 : Int) (h : Hq) : vm 211 [(2, x0), (0, x1), (0, x2)] h = if 0 < x0 ∧ (kd x0).1 = 12 then if (kd (h.2 x0 22)).1 = 20 ∧ 0 ≤ (w32 ((w32 (400 * x1)) + x2)) ∧ (w32 ((w32 (400 * x1)) + x2)) < (kd (h.2 x0 22)).2 then some (some (0, h.2 (h.2 x0 22) (w32 ((w32 (400 * x1)) + x2))), h) else none else none := by
  show vp 211 0 [(2, x0), (0, x1), (0, x2)] [] h = _
  refine s_aload_n (pc1 := 1) (tk (n := 0) t211_0 rfl) rfl rfl rfl ?_
  refine s_getf (pc1 := 4) (c := 12) (t1 := 2) (tk (n := 1) t211_0 rfl) rfl rfl (by decide) rfl rfl ?_
  refine s_sipush (pc1 := 7) (tk (n := 2) t211_0 rfl) rfl rfl  ?_
  refine s_iload_n (pc1 := 8) (tk (n := 3) t211_0 rfl) rfl rfl rfl ?_
  refine s_imul (pc1 := 9) (tk (n := 4) t211_0 rfl) rfl rfl  ?_
  refine s_iload_n (pc1 := 10) (tk (n := 5) t211_0 rfl) rfl rfl rfl ?_
  refine s_iadd (pc1 := 11) (tk (n := 6) t211_0 rfl) rfl rfl  ?_
  refine s_iald (pc1 := 12) (tk (n := 7) t211_0 rfl) rfl rfl  ?_
  exact s_ret (tk (n := 8) t211_0 rfl) rfl rfl rfl
set_option maxRecDepth 100000 in
set_option maxHeartbeats 4000000 in
theorem e_X12_isNumeric (x0 : Int) (h : Hq) : vm 212 [(0, x0)] h = if x0 > 7 then (some (some (0, 0), h)) else (some (some (0, 1), h)) := by
  show vp 212 0 [(0, x0)] [] h = _
  refine s_iload_n (pc1 := 1) (tk (n := 0) t212_0 rfl) rfl rfl rfl ?_
  refine s_bipush (pc1 := 3) (tk (n := 1) t212_0 rfl) rfl rfl  ?_
  refine s_ic_gt (pc1 := 6) (pt := 10) (tk (n := 2) t212_0 rfl) rfl rfl rfl ?_ ?_
  · refine s_iconst (pc1 := 11) (tk (n := 5) t212_0 rfl) rfl rfl  ?_
    exact s_retY (tk (n := 6) t212_0 rfl) rfl rfl rfl (by decide)
  · refine s_iconst (pc1 := 7) (tk (n := 3) t212_0 rfl) rfl rfl  ?_
    refine s_goto (pc1 := 11) (tk (n := 4) t212_0 rfl) rfl rfl ?_
    exact s_retY (tk (n := 6) t212_0 rfl) rfl rfl rfl (by decide)
set_option maxRecDepth 100000 in
set_option maxHeartbeats 4000000 in
theorem e_X12_widens (x0 : Int) (x1 : Int) (h : Hq) : vm 213 [(0, x0), (0, x1)] h = if x0 ≠ x1 then (if x0 = 0 then (some (some (0, 0), h)) else (if x1 < 3 then (some (some (0, 0), h)) else (if x1 ≤ 7 then (if x0 = 1 then (some (some (0, 1), h)) else (if x0 ≠ 2 then (if x0 < 3 then (some (some (0, 0), h)) else (if x1 ≤ x0 then (some (some (0, 0), h)) else (some (some (0, 1), h)))) else (if x1 > 3 then (some (some (0, 1), h)) else (if x0 < 3 then (some (some (0, 0), h)) else (if x1 ≤ x0 then (some (some (0, 0), h)) else (some (some (0, 1), h))))))) else (some (some (0, 0), h))))) else (some (some (0, 1), h)) := by
  show vp 213 0 [(0, x0), (0, x1)] [] h = _
  refine s_iload_n (pc1 := 1) (tk (n := 0) t213_0 rfl) rfl rfl rfl ?_
  refine s_iload_n (pc1 := 2) (tk (n := 1) t213_0 rfl) rfl rfl rfl ?_
  refine s_ic_ne (pc1 := 5) (pt := 7) (tk (n := 2) t213_0 rfl) rfl rfl rfl ?_ ?_
  · refine s_iload_n (pc1 := 8) (tk (n := 5) t213_0 rfl) rfl rfl rfl ?_
    refine s_if_eq (pc1 := 11) (pt := 22) (tk (n := 6) t213_0 rfl) rfl rfl rfl ?_ ?_
    · refine s_iconst (pc1 := 23) (tk (n := 13) t213_0 rfl) rfl rfl  ?_
      exact s_retY (tk (n := 14) t213_0 rfl) rfl rfl rfl (by decide)
    · refine s_iload_n (pc1 := 12) (tk (n := 7) t213_0 rfl) rfl rfl rfl ?_
      refine s_iconst (pc1 := 13) (tk (n := 8) t213_0 rfl) rfl rfl  ?_
      refine s_ic_lt (pc1 := 16) (pt := 22) (tk (n := 9) t213_0 rfl) rfl rfl rfl ?_ ?_
      · refine s_iconst (pc1 := 23) (tk (n := 13) t213_0 rfl) rfl rfl  ?_
        exact s_retY (tk (n := 14) t213_0 rfl) rfl rfl rfl (by decide)
      · refine s_iload_n (pc1 := 17) (tk (n := 10) t213_0 rfl) rfl rfl rfl ?_
        refine s_bipush (pc1 := 19) (tk (n := 11) t213_0 rfl) rfl rfl  ?_
        refine s_ic_le (pc1 := 22) (pt := 24) (tk (n := 12) t213_0 rfl) rfl rfl rfl ?_ ?_
        · refine s_iload_n (pc1 := 25) (tk (n := 15) t213_0 rfl) rfl rfl rfl ?_
          refine s_iconst (pc1 := 26) (tk (n := 16) t213_0 rfl) rfl rfl  ?_
          refine s_ic_eq (pc1 := 29) (pt := 49) (tk (n := 17) t213_0 rfl) rfl rfl rfl ?_ ?_
          · refine s_iconst (pc1 := 50) (tk (n := 0) t213_1 rfl) rfl rfl  ?_
            refine s_goto (pc1 := 54) (tk (n := 1) t213_1 rfl) rfl rfl ?_
            exact s_retY (tk (n := 3) t213_1 rfl) rfl rfl rfl (by decide)
          · refine s_iload_n (pc1 := 30) (tk (n := 18) t213_0 rfl) rfl rfl rfl ?_
            refine s_iconst (pc1 := 31) (tk (n := 19) t213_0 rfl) rfl rfl  ?_
            refine s_ic_ne (pc1 := 34) (pt := 39) (tk (n := 20) t213_0 rfl) rfl rfl rfl ?_ ?_
            · refine s_iload_n (pc1 := 40) (tk (n := 24) t213_0 rfl) rfl rfl rfl ?_
              refine s_iconst (pc1 := 41) (tk (n := 25) t213_0 rfl) rfl rfl  ?_
              refine s_ic_lt (pc1 := 44) (pt := 53) (tk (n := 26) t213_0 rfl) rfl rfl rfl ?_ ?_
              · refine s_iconst (pc1 := 54) (tk (n := 2) t213_1 rfl) rfl rfl  ?_
                exact s_retY (tk (n := 3) t213_1 rfl) rfl rfl rfl (by decide)
              · refine s_iload_n (pc1 := 45) (tk (n := 27) t213_0 rfl) rfl rfl rfl ?_
                refine s_iload_n (pc1 := 46) (tk (n := 28) t213_0 rfl) rfl rfl rfl ?_
                refine s_ic_le (pc1 := 49) (pt := 53) (tk (n := 29) t213_0 rfl) rfl rfl rfl ?_ ?_
                · refine s_iconst (pc1 := 54) (tk (n := 2) t213_1 rfl) rfl rfl  ?_
                  exact s_retY (tk (n := 3) t213_1 rfl) rfl rfl rfl (by decide)
                · refine s_iconst (pc1 := 50) (tk (n := 0) t213_1 rfl) rfl rfl  ?_
                  refine s_goto (pc1 := 54) (tk (n := 1) t213_1 rfl) rfl rfl ?_
                  exact s_retY (tk (n := 3) t213_1 rfl) rfl rfl rfl (by decide)
            · refine s_iload_n (pc1 := 35) (tk (n := 21) t213_0 rfl) rfl rfl rfl ?_
              refine s_iconst (pc1 := 36) (tk (n := 22) t213_0 rfl) rfl rfl  ?_
              refine s_ic_gt (pc1 := 39) (pt := 49) (tk (n := 23) t213_0 rfl) rfl rfl rfl ?_ ?_
              · refine s_iconst (pc1 := 50) (tk (n := 0) t213_1 rfl) rfl rfl  ?_
                refine s_goto (pc1 := 54) (tk (n := 1) t213_1 rfl) rfl rfl ?_
                exact s_retY (tk (n := 3) t213_1 rfl) rfl rfl rfl (by decide)
              · refine s_iload_n (pc1 := 40) (tk (n := 24) t213_0 rfl) rfl rfl rfl ?_
                refine s_iconst (pc1 := 41) (tk (n := 25) t213_0 rfl) rfl rfl  ?_
                refine s_ic_lt (pc1 := 44) (pt := 53) (tk (n := 26) t213_0 rfl) rfl rfl rfl ?_ ?_
                · refine s_iconst (pc1 := 54) (tk (n := 2) t213_1 rfl) rfl rfl  ?_
                  exact s_retY (tk (n := 3) t213_1 rfl) rfl rfl rfl (by decide)
                · refine s_iload_n (pc1 := 45) (tk (n := 27) t213_0 rfl) rfl rfl rfl ?_
                  refine s_iload_n (pc1 := 46) (tk (n := 28) t213_0 rfl) rfl rfl rfl ?_
                  refine s_ic_le (pc1 := 49) (pt := 53) (tk (n := 29) t213_0 rfl) rfl rfl rfl ?_ ?_
                  · refine s_iconst (pc1 := 54) (tk (n := 2) t213_1 rfl) rfl rfl  ?_
                    exact s_retY (tk (n := 3) t213_1 rfl) rfl rfl rfl (by decide)
                  · refine s_iconst (pc1 := 50) (tk (n := 0) t213_1 rfl) rfl rfl  ?_
                    refine s_goto (pc1 := 54) (tk (n := 1) t213_1 rfl) rfl rfl ?_
                    exact s_retY (tk (n := 3) t213_1 rfl) rfl rfl rfl (by decide)
        · refine s_iconst (pc1 := 23) (tk (n := 13) t213_0 rfl) rfl rfl  ?_
          exact s_retY (tk (n := 14) t213_0 rfl) rfl rfl rfl (by decide)
  · refine s_iconst (pc1 := 6) (tk (n := 3) t213_0 rfl) rfl rfl  ?_
    exact s_retY (tk (n := 4) t213_0 rfl) rfl rfl rfl (by decide)
set_option maxRecDepth 100000 in
set_option maxHeartbeats 4000000 in
theorem e_X12_cut (x0 : Int) (x1 : Int) (h : Hq) : vm 214 [(0, x0), (0, x1)] h = if x1 = 0 then (if x0 = 0 then ((vm 168 [(0, 0)] h).bind (fun r6 => some (some (0, vx r6), r6.2))) else ((vm 168 [(0, 1)] h).bind (fun r7 => some (some (0, vx r7), r7.2)))) else (if x1 = 1 then (some (some (0, w32 ((band x0 255) - (w32 (2 * (band x0 128))))), h)) else (if x1 = 2 then (some (some (0, band x0 65535), h)) else (if x1 = 3 then (some (some (0, w32 ((band x0 65535) - (w32 (2 * (band x0 32768))))), h)) else (some (some (0, x0), h))))) := by
  show vp 214 0 [(0, x0), (0, x1)] [] h = _
  refine s_iload_n (pc1 := 1) (tk (n := 0) t214_0 rfl) rfl rfl rfl ?_
  refine s_sw (x := x1) (cs := [(0, 32), (1, 45), (2, 59), (3, 65)]) (p0 := 79) (st1 := []) (tk (n := 1) t214_0 rfl) rfl rfl ?_
  refine s_swC (p1 := 32) rfl ?_ ?_
  · refine s_iload_n (pc1 := 33) (tk (n := 2) t214_0 rfl) rfl rfl rfl ?_
    refine s_if_eq (pc1 := 36) (pt := 40) (tk (n := 3) t214_0 rfl) rfl rfl rfl ?_ ?_
    · refine s_iconst (pc1 := 41) (tk (n := 6) t214_0 rfl) rfl rfl  ?_
      refine s_callS0 (as := [(0, 0)]) (st1 := []) (p1 := 44) (M2 := 168) (tk (n := 7) t214_0 rfl) rfl rfl rfl rfl rfl (fun r6 => ?_)
      exact s_ret (tk (n := 8) t214_0 rfl) rfl rfl rfl
    · refine s_iconst (pc1 := 37) (tk (n := 4) t214_0 rfl) rfl rfl  ?_
      refine s_goto (pc1 := 41) (tk (n := 5) t214_0 rfl) rfl rfl ?_
      refine s_callS0 (as := [(0, 1)]) (st1 := []) (p1 := 44) (M2 := 168) (tk (n := 7) t214_0 rfl) rfl rfl rfl rfl rfl (fun r7 => ?_)
      exact s_ret (tk (n := 8) t214_0 rfl) rfl rfl rfl
  refine s_swC (p1 := 45) rfl ?_ ?_
  · refine s_iload_n (pc1 := 46) (tk (n := 9) t214_0 rfl) rfl rfl rfl ?_
    refine s_sipush (pc1 := 49) (tk (n := 10) t214_0 rfl) rfl rfl  ?_
    refine s_iand (pc1 := 50) (tk (n := 11) t214_0 rfl) rfl rfl  ?_
    refine s_iconst (pc1 := 51) (tk (n := 12) t214_0 rfl) rfl rfl  ?_
    refine s_iload_n (pc1 := 52) (tk (n := 13) t214_0 rfl) rfl rfl rfl ?_
    refine s_sipush (pc1 := 55) (tk (n := 14) t214_0 rfl) rfl rfl  ?_
    refine s_iand (pc1 := 56) (tk (n := 15) t214_0 rfl) rfl rfl  ?_
    refine s_imul (pc1 := 57) (tk (n := 16) t214_0 rfl) rfl rfl  ?_
    refine s_isub (pc1 := 58) (tk (n := 17) t214_0 rfl) rfl rfl  ?_
    exact s_ret (tk (n := 18) t214_0 rfl) rfl rfl rfl
  refine s_swC (p1 := 59) rfl ?_ ?_
  · refine s_iload_n (pc1 := 60) (tk (n := 19) t214_0 rfl) rfl rfl rfl ?_
    refine s_ldcw (pc1 := 63) (tk (n := 20) t214_0 rfl) rfl rfl  ?_
    refine s_iand (pc1 := 64) (tk (n := 21) t214_0 rfl) rfl rfl  ?_
    exact s_ret (tk (n := 22) t214_0 rfl) rfl rfl rfl
  refine s_swC (p1 := 65) rfl ?_ ?_
  · refine s_iload_n (pc1 := 66) (tk (n := 23) t214_0 rfl) rfl rfl rfl ?_
    refine s_ldcw (pc1 := 69) (tk (n := 24) t214_0 rfl) rfl rfl  ?_
    refine s_iand (pc1 := 70) (tk (n := 25) t214_0 rfl) rfl rfl  ?_
    refine s_iconst (pc1 := 71) (tk (n := 26) t214_0 rfl) rfl rfl  ?_
    refine s_iload_n (pc1 := 72) (tk (n := 27) t214_0 rfl) rfl rfl rfl ?_
    refine s_ldcw (pc1 := 75) (tk (n := 28) t214_0 rfl) rfl rfl  ?_
    refine s_iand (pc1 := 76) (tk (n := 29) t214_0 rfl) rfl rfl  ?_
    refine s_imul (pc1 := 77) (tk (n := 0) t214_1 rfl) rfl rfl  ?_
    refine s_isub (pc1 := 78) (tk (n := 1) t214_1 rfl) rfl rfl  ?_
    exact s_ret (tk (n := 2) t214_1 rfl) rfl rfl rfl
  refine s_swN (d1 := 79) rfl ?_
  refine s_iload_n (pc1 := 80) (tk (n := 3) t214_1 rfl) rfl rfl rfl ?_
  exact s_ret (tk (n := 4) t214_1 rfl) rfl rfl rfl
set_option maxRecDepth 100000 in
set_option maxHeartbeats 4000000 in
theorem e_X12_kind (x0 : Int) (x1 : Int) (h : Hq) : vm 215 [(2, x0), (0, x1)] h = if 0 < x0 ∧ (kd x0).1 = 12 then (vm 208 [(2, x0), (0, x1)] h).bind (fun r3 => if (vx r3) = 0 then (some (some (0, (-1)), r3.2)) else (if 0 < x0 ∧ (kd x0).1 = 12 then if (kd (r3.2.2 x0 16)).1 = 20 ∧ 0 ≤ x1 ∧ x1 < (kd (r3.2.2 x0 16)).2 then some (some (0, r3.2.2 (r3.2.2 x0 16) x1), r3.2) else none else none)) else none := by
  show vp 215 0 [(2, x0), (0, x1)] [] h = _
  refine s_aload_n (pc1 := 1) (tk (n := 0) t215_0 rfl) rfl rfl rfl ?_
  refine s_iload_n (pc1 := 2) (tk (n := 1) t215_0 rfl) rfl rfl rfl ?_
  refine s_call0 (as := [(2, x0), (0, x1)]) (st1 := []) (p1 := 5) (M2 := 208) (tk (n := 2) t215_0 rfl) rfl rfl rfl rfl rfl (fun r3 => ?_)
  refine s_if_eq (pc1 := 8) (pt := 17) (tk (n := 3) t215_0 rfl) rfl rfl rfl ?_ ?_
  · refine s_iconst (pc1 := 18) (tk (n := 9) t215_0 rfl) rfl rfl  ?_
    exact s_ret (tk (n := 10) t215_0 rfl) rfl rfl rfl
  · refine s_aload_n (pc1 := 9) (tk (n := 4) t215_0 rfl) rfl rfl rfl ?_
    refine s_getf (pc1 := 12) (c := 12) (t1 := 2) (tk (n := 5) t215_0 rfl) rfl rfl (by decide) rfl rfl ?_
    refine s_iload_n (pc1 := 13) (tk (n := 6) t215_0 rfl) rfl rfl rfl ?_
    refine s_iald (pc1 := 14) (tk (n := 7) t215_0 rfl) rfl rfl  ?_
    refine s_goto (pc1 := 18) (tk (n := 8) t215_0 rfl) rfl rfl ?_
    exact s_ret (tk (n := 10) t215_0 rfl) rfl rfl rfl
set_option maxRecDepth 100000 in
set_option maxHeartbeats 4000000 in
theorem e_X12_length (x0 : Int) (x1 : Int) (h : Hq) : vm 216 [(2, x0), (0, x1)] h = if 0 < x0 ∧ (kd x0).1 = 12 then (vm 208 [(2, x0), (0, x1)] h).bind (fun r3 => if (vx r3) ≠ 0 then (if 0 < x0 ∧ (kd x0).1 = 12 then if (kd (r3.2.2 x0 16)).1 = 20 ∧ 0 ≤ x1 ∧ x1 < (kd (r3.2.2 x0 16)).2 then if (r3.2.2 (r3.2.2 x0 16) x1) ≠ 10 then (if 0 < x0 ∧ (kd x0).1 = 12 then if (kd (r3.2.2 x0 16)).1 = 20 ∧ 0 ≤ x1 ∧ x1 < (kd (r3.2.2 x0 16)).2 then if (r3.2.2 (r3.2.2 x0 16) x1) ≠ 11 then (if 0 < x0 ∧ (kd x0).1 = 12 then if (kd (r3.2.2 x0 17)).1 = 20 ∧ 0 ≤ x1 ∧ x1 < (kd (r3.2.2 x0 17)).2 then some (some (0, r3.2.2 (r3.2.2 x0 17) x1), r3.2) else none else none) else (some (some (0, (-3)), r3.2)) else none else none) else (some (some (0, (-2)), r3.2)) else none else none) else (some (some (0, (-1)), r3.2))) else none := by
  show vp 216 0 [(2, x0), (0, x1)] [] h = _
  refine s_aload_n (pc1 := 1) (tk (n := 0) t216_0 rfl) rfl rfl rfl ?_
  refine s_iload_n (pc1 := 2) (tk (n := 1) t216_0 rfl) rfl rfl rfl ?_
  refine s_call0 (as := [(2, x0), (0, x1)]) (st1 := []) (p1 := 5) (M2 := 208) (tk (n := 2) t216_0 rfl) rfl rfl rfl rfl rfl (fun r3 => ?_)
  refine s_if_ne (pc1 := 8) (pt := 12) (tk (n := 3) t216_0 rfl) rfl rfl rfl ?_ ?_
  · refine s_aload_n (pc1 := 13) (tk (n := 6) t216_0 rfl) rfl rfl rfl ?_
    refine s_getf (pc1 := 16) (c := 12) (t1 := 2) (tk (n := 7) t216_0 rfl) rfl rfl (by decide) rfl rfl ?_
    refine s_iload_n (pc1 := 17) (tk (n := 8) t216_0 rfl) rfl rfl rfl ?_
    refine s_iald (pc1 := 18) (tk (n := 9) t216_0 rfl) rfl rfl  ?_
    refine s_bipush (pc1 := 20) (tk (n := 10) t216_0 rfl) rfl rfl  ?_
    refine s_ic_ne (pc1 := 23) (pt := 28) (tk (n := 11) t216_0 rfl) rfl rfl rfl ?_ ?_
    · refine s_aload_n (pc1 := 29) (tk (n := 14) t216_0 rfl) rfl rfl rfl ?_
      refine s_getf (pc1 := 32) (c := 12) (t1 := 2) (tk (n := 15) t216_0 rfl) rfl rfl (by decide) rfl rfl ?_
      refine s_iload_n (pc1 := 33) (tk (n := 16) t216_0 rfl) rfl rfl rfl ?_
      refine s_iald (pc1 := 34) (tk (n := 17) t216_0 rfl) rfl rfl  ?_
      refine s_bipush (pc1 := 36) (tk (n := 18) t216_0 rfl) rfl rfl  ?_
      refine s_ic_ne (pc1 := 39) (pt := 44) (tk (n := 19) t216_0 rfl) rfl rfl rfl ?_ ?_
      · refine s_aload_n (pc1 := 45) (tk (n := 22) t216_0 rfl) rfl rfl rfl ?_
        refine s_getf (pc1 := 48) (c := 12) (t1 := 2) (tk (n := 23) t216_0 rfl) rfl rfl (by decide) rfl rfl ?_
        refine s_iload_n (pc1 := 49) (tk (n := 24) t216_0 rfl) rfl rfl rfl ?_
        refine s_iald (pc1 := 50) (tk (n := 25) t216_0 rfl) rfl rfl  ?_
        exact s_ret (tk (n := 26) t216_0 rfl) rfl rfl rfl
      · refine s_bipush (pc1 := 41) (tk (n := 20) t216_0 rfl) rfl rfl  ?_
        refine s_goto (pc1 := 50) (tk (n := 21) t216_0 rfl) rfl rfl ?_
        exact s_ret (tk (n := 26) t216_0 rfl) rfl rfl rfl
    · refine s_bipush (pc1 := 25) (tk (n := 12) t216_0 rfl) rfl rfl  ?_
      refine s_goto (pc1 := 50) (tk (n := 13) t216_0 rfl) rfl rfl ?_
      exact s_ret (tk (n := 26) t216_0 rfl) rfl rfl rfl
  · refine s_iconst (pc1 := 9) (tk (n := 4) t216_0 rfl) rfl rfl  ?_
    refine s_goto (pc1 := 50) (tk (n := 5) t216_0 rfl) rfl rfl ?_
    exact s_ret (tk (n := 26) t216_0 rfl) rfl rfl rfl
set_option maxRecDepth 100000 in
set_option maxHeartbeats 4000000 in
theorem e_X12_peek (x0 : Int) (x1 : Int) (x2 : Int) (x3 : Int) (h : Hq) : vm 217 [(2, x0), (0, x1), (0, x2), (0, x3)] h = if 0 < x0 ∧ (kd x0).1 = 12 then (vm 208 [(2, x0), (0, x1)] h).bind (fun r3 => if (vx r3) = 0 then (some (some (0, (-1000000001)), r3.2)) else ((vm 165 [(0, x2), (0, 0), (0, 8)] r3.2).bind (fun r8 => if (vx r8) ≠ 0 then (if 0 < x0 ∧ (kd x0).1 = 12 then if (kd (r8.2.2 x0 16)).1 = 20 ∧ 0 ≤ x1 ∧ x1 < (kd (r8.2.2 x0 16)).2 then if (r8.2.2 (r8.2.2 x0 16) x1) ≠ 11 then (if (r8.2.2 (r8.2.2 x0 16) x1) = 10 then (some (some (0, (-1000000003)), r8.2)) else (if x2 ≤ 0 then (if 0 < x0 ∧ (kd x0).1 = 12 then (vm 210 [(2, x0), (0, x1), (0, x3)] r8.2).bind (fun r26 => if (vx r26) ≠ 0 then (if x2 ≤ 0 then (if 0 < x0 ∧ (kd x0).1 = 12 then (vm 211 [(2, x0), (0, x1), (0, x3)] r26.2).bind (fun r33 => some (some (0, vx r33), r33.2)) else none) else ((vm 213 [(0, r8.2.2 (r8.2.2 x0 16) x1), (0, w32 (x2 - 1))] r26.2).bind (fun r34 => if (vx r34) ≠ 0 then (if 0 < x0 ∧ (kd x0).1 = 12 then (vm 211 [(2, x0), (0, x1), (0, x3)] r34.2).bind (fun r39 => some (some (0, vx r39), r39.2)) else none) else (some (some (0, (-1000000003)), r34.2))))) else (some (some (0, (-1000000002)), r26.2))) else none) else (if (r8.2.2 (r8.2.2 x0 16) x1) < 8 then (if 0 < x0 ∧ (kd x0).1 = 12 then (vm 210 [(2, x0), (0, x1), (0, x3)] r8.2).bind (fun r29 => if (vx r29) ≠ 0 then (if x2 ≤ 0 then (if 0 < x0 ∧ (kd x0).1 = 12 then (vm 211 [(2, x0), (0, x1), (0, x3)] r29.2).bind (fun r36 => some (some (0, vx r36), r36.2)) else none) else ((vm 213 [(0, r8.2.2 (r8.2.2 x0 16) x1), (0, w32 (x2 - 1))] r29.2).bind (fun r37 => if (vx r37) ≠ 0 then (if 0 < x0 ∧ (kd x0).1 = 12 then (vm 211 [(2, x0), (0, x1), (0, x3)] r37.2).bind (fun r42 => some (some (0, vx r42), r42.2)) else none) else (some (some (0, (-1000000003)), r37.2))))) else (some (some (0, (-1000000002)), r29.2))) else none) else (some (some (0, (-1000000003)), r8.2))))) else (some (some (0, (-1000000004)), r8.2)) else none else none) else (some (some (0, (-1000000001)), r8.2))))) else none := by
  show vp 217 0 [(2, x0), (0, x1), (0, x2), (0, x3), (9, 0)] [] h = _
  refine s_aload_n (pc1 := 1) (tk (n := 0) t217_0 rfl) rfl rfl rfl ?_
  refine s_iload_n (pc1 := 2) (tk (n := 1) t217_0 rfl) rfl rfl rfl ?_
  refine s_call0 (as := [(2, x0), (0, x1)]) (st1 := []) (p1 := 5) (M2 := 208) (tk (n := 2) t217_0 rfl) rfl rfl rfl rfl rfl (fun r3 => ?_)
  refine s_if_eq (pc1 := 8) (pt := 18) (tk (n := 3) t217_0 rfl) rfl rfl rfl ?_ ?_
  · refine s_ldcw (pc1 := 21) (tk (n := 9) t217_0 rfl) rfl rfl  ?_
    exact s_ret (tk (n := 10) t217_0 rfl) rfl rfl rfl
  · refine s_iload_n (pc1 := 9) (tk (n := 4) t217_0 rfl) rfl rfl rfl ?_
    refine s_iconst (pc1 := 10) (tk (n := 5) t217_0 rfl) rfl rfl  ?_
    refine s_bipush (pc1 := 12) (tk (n := 6) t217_0 rfl) rfl rfl  ?_
    refine s_callS0 (as := [(0, x2), (0, 0), (0, 8)]) (st1 := []) (p1 := 15) (M2 := 165) (tk (n := 7) t217_0 rfl) rfl rfl rfl rfl rfl (fun r8 => ?_)
    refine s_if_ne (pc1 := 18) (pt := 22) (tk (n := 8) t217_0 rfl) rfl rfl rfl ?_ ?_
    · refine s_aload_n (pc1 := 23) (tk (n := 11) t217_0 rfl) rfl rfl rfl ?_
      refine s_getf (pc1 := 26) (c := 12) (t1 := 2) (tk (n := 12) t217_0 rfl) rfl rfl (by decide) rfl rfl ?_
      refine s_iload_n (pc1 := 27) (tk (n := 13) t217_0 rfl) rfl rfl rfl ?_
      refine s_iald (pc1 := 28) (tk (n := 14) t217_0 rfl) rfl rfl  ?_
      refine s_istore (pc1 := 30) (ls1 := [(2, x0), (0, x1), (0, x2), (0, x3), (0, r8.2.2 (r8.2.2 x0 16) x1)]) (tk (n := 15) t217_0 rfl) rfl rfl rfl rfl ?_
      refine s_iload (pc1 := 32) (tk (n := 16) t217_0 rfl) rfl rfl rfl ?_
      refine s_bipush (pc1 := 34) (tk (n := 17) t217_0 rfl) rfl rfl  ?_
      refine s_ic_ne (pc1 := 37) (pt := 41) (tk (n := 18) t217_0 rfl) rfl rfl rfl ?_ ?_
      · refine s_iload (pc1 := 43) (tk (n := 21) t217_0 rfl) rfl rfl rfl ?_
        refine s_bipush (pc1 := 45) (tk (n := 22) t217_0 rfl) rfl rfl  ?_
        refine s_ic_eq (pc1 := 48) (pt := 59) (tk (n := 23) t217_0 rfl) rfl rfl rfl ?_ ?_
        · refine s_ldcw (pc1 := 62) (tk (n := 29) t217_0 rfl) rfl rfl  ?_
          exact s_ret (tk (n := 0) t217_1 rfl) rfl rfl rfl
        · refine s_iload_n (pc1 := 49) (tk (n := 24) t217_0 rfl) rfl rfl rfl ?_
          refine s_if_le (pc1 := 52) (pt := 63) (tk (n := 25) t217_0 rfl) rfl rfl rfl ?_ ?_
          · refine s_aload_n (pc1 := 64) (tk (n := 1) t217_1 rfl) rfl rfl rfl ?_
            refine s_iload_n (pc1 := 65) (tk (n := 2) t217_1 rfl) rfl rfl rfl ?_
            refine s_iload_n (pc1 := 66) (tk (n := 3) t217_1 rfl) rfl rfl rfl ?_
            refine s_call0 (as := [(2, x0), (0, x1), (0, x3)]) (st1 := []) (p1 := 69) (M2 := 210) (tk (n := 4) t217_1 rfl) rfl rfl rfl rfl rfl (fun r26 => ?_)
            refine s_if_ne (pc1 := 72) (pt := 76) (tk (n := 5) t217_1 rfl) rfl rfl rfl ?_ ?_
            · refine s_iload_n (pc1 := 77) (tk (n := 8) t217_1 rfl) rfl rfl rfl ?_
              refine s_if_le (pc1 := 80) (pt := 97) (tk (n := 9) t217_1 rfl) rfl rfl rfl ?_ ?_
              · refine s_aload_n (pc1 := 98) (tk (n := 18) t217_1 rfl) rfl rfl rfl ?_
                refine s_iload_n (pc1 := 99) (tk (n := 19) t217_1 rfl) rfl rfl rfl ?_
                refine s_iload_n (pc1 := 100) (tk (n := 20) t217_1 rfl) rfl rfl rfl ?_
                refine s_call0 (as := [(2, x0), (0, x1), (0, x3)]) (st1 := []) (p1 := 103) (M2 := 211) (tk (n := 21) t217_1 rfl) rfl rfl rfl rfl rfl (fun r33 => ?_)
                exact s_ret (tk (n := 22) t217_1 rfl) rfl rfl rfl
              · refine s_iload (pc1 := 82) (tk (n := 10) t217_1 rfl) rfl rfl rfl ?_
                refine s_iload_n (pc1 := 83) (tk (n := 11) t217_1 rfl) rfl rfl rfl ?_
                refine s_iconst (pc1 := 84) (tk (n := 12) t217_1 rfl) rfl rfl  ?_
                refine s_isub (pc1 := 85) (tk (n := 13) t217_1 rfl) rfl rfl  ?_
                refine s_callS0 (as := [(0, r8.2.2 (r8.2.2 x0 16) x1), (0, w32 (x2 - 1))]) (st1 := []) (p1 := 88) (M2 := 213) (tk (n := 14) t217_1 rfl) rfl rfl rfl rfl rfl (fun r34 => ?_)
                refine s_if_ne (pc1 := 91) (pt := 97) (tk (n := 15) t217_1 rfl) rfl rfl rfl ?_ ?_
                · refine s_aload_n (pc1 := 98) (tk (n := 18) t217_1 rfl) rfl rfl rfl ?_
                  refine s_iload_n (pc1 := 99) (tk (n := 19) t217_1 rfl) rfl rfl rfl ?_
                  refine s_iload_n (pc1 := 100) (tk (n := 20) t217_1 rfl) rfl rfl rfl ?_
                  refine s_call0 (as := [(2, x0), (0, x1), (0, x3)]) (st1 := []) (p1 := 103) (M2 := 211) (tk (n := 21) t217_1 rfl) rfl rfl rfl rfl rfl (fun r39 => ?_)
                  exact s_ret (tk (n := 22) t217_1 rfl) rfl rfl rfl
                · refine s_ldcw (pc1 := 94) (tk (n := 16) t217_1 rfl) rfl rfl  ?_
                  refine s_goto (pc1 := 103) (tk (n := 17) t217_1 rfl) rfl rfl ?_
                  exact s_ret (tk (n := 22) t217_1 rfl) rfl rfl rfl
            · refine s_ldcw (pc1 := 75) (tk (n := 6) t217_1 rfl) rfl rfl  ?_
              exact s_ret (tk (n := 7) t217_1 rfl) rfl rfl rfl
          · refine s_iload (pc1 := 54) (tk (n := 26) t217_0 rfl) rfl rfl rfl ?_
            refine s_bipush (pc1 := 56) (tk (n := 27) t217_0 rfl) rfl rfl  ?_
            refine s_ic_lt (pc1 := 59) (pt := 63) (tk (n := 28) t217_0 rfl) rfl rfl rfl ?_ ?_
            · refine s_aload_n (pc1 := 64) (tk (n := 1) t217_1 rfl) rfl rfl rfl ?_
              refine s_iload_n (pc1 := 65) (tk (n := 2) t217_1 rfl) rfl rfl rfl ?_
              refine s_iload_n (pc1 := 66) (tk (n := 3) t217_1 rfl) rfl rfl rfl ?_
              refine s_call0 (as := [(2, x0), (0, x1), (0, x3)]) (st1 := []) (p1 := 69) (M2 := 210) (tk (n := 4) t217_1 rfl) rfl rfl rfl rfl rfl (fun r29 => ?_)
              refine s_if_ne (pc1 := 72) (pt := 76) (tk (n := 5) t217_1 rfl) rfl rfl rfl ?_ ?_
              · refine s_iload_n (pc1 := 77) (tk (n := 8) t217_1 rfl) rfl rfl rfl ?_
                refine s_if_le (pc1 := 80) (pt := 97) (tk (n := 9) t217_1 rfl) rfl rfl rfl ?_ ?_
                · refine s_aload_n (pc1 := 98) (tk (n := 18) t217_1 rfl) rfl rfl rfl ?_
                  refine s_iload_n (pc1 := 99) (tk (n := 19) t217_1 rfl) rfl rfl rfl ?_
                  refine s_iload_n (pc1 := 100) (tk (n := 20) t217_1 rfl) rfl rfl rfl ?_
                  refine s_call0 (as := [(2, x0), (0, x1), (0, x3)]) (st1 := []) (p1 := 103) (M2 := 211) (tk (n := 21) t217_1 rfl) rfl rfl rfl rfl rfl (fun r36 => ?_)
                  exact s_ret (tk (n := 22) t217_1 rfl) rfl rfl rfl
                · refine s_iload (pc1 := 82) (tk (n := 10) t217_1 rfl) rfl rfl rfl ?_
                  refine s_iload_n (pc1 := 83) (tk (n := 11) t217_1 rfl) rfl rfl rfl ?_
                  refine s_iconst (pc1 := 84) (tk (n := 12) t217_1 rfl) rfl rfl  ?_
                  refine s_isub (pc1 := 85) (tk (n := 13) t217_1 rfl) rfl rfl  ?_
                  refine s_callS0 (as := [(0, r8.2.2 (r8.2.2 x0 16) x1), (0, w32 (x2 - 1))]) (st1 := []) (p1 := 88) (M2 := 213) (tk (n := 14) t217_1 rfl) rfl rfl rfl rfl rfl (fun r37 => ?_)
                  refine s_if_ne (pc1 := 91) (pt := 97) (tk (n := 15) t217_1 rfl) rfl rfl rfl ?_ ?_
                  · refine s_aload_n (pc1 := 98) (tk (n := 18) t217_1 rfl) rfl rfl rfl ?_
                    refine s_iload_n (pc1 := 99) (tk (n := 19) t217_1 rfl) rfl rfl rfl ?_
                    refine s_iload_n (pc1 := 100) (tk (n := 20) t217_1 rfl) rfl rfl rfl ?_
                    refine s_call0 (as := [(2, x0), (0, x1), (0, x3)]) (st1 := []) (p1 := 103) (M2 := 211) (tk (n := 21) t217_1 rfl) rfl rfl rfl rfl rfl (fun r42 => ?_)
                    exact s_ret (tk (n := 22) t217_1 rfl) rfl rfl rfl
                  · refine s_ldcw (pc1 := 94) (tk (n := 16) t217_1 rfl) rfl rfl  ?_
                    refine s_goto (pc1 := 103) (tk (n := 17) t217_1 rfl) rfl rfl ?_
                    exact s_ret (tk (n := 22) t217_1 rfl) rfl rfl rfl
              · refine s_ldcw (pc1 := 75) (tk (n := 6) t217_1 rfl) rfl rfl  ?_
                exact s_ret (tk (n := 7) t217_1 rfl) rfl rfl rfl
            · refine s_ldcw (pc1 := 62) (tk (n := 29) t217_0 rfl) rfl rfl  ?_
              exact s_ret (tk (n := 0) t217_1 rfl) rfl rfl rfl
      · refine s_ldcw (pc1 := 40) (tk (n := 19) t217_0 rfl) rfl rfl  ?_
        exact s_ret (tk (n := 20) t217_0 rfl) rfl rfl rfl
    · refine s_ldcw (pc1 := 21) (tk (n := 9) t217_0 rfl) rfl rfl  ?_
      exact s_ret (tk (n := 10) t217_0 rfl) rfl rfl rfl
set_option maxRecDepth 100000 in
set_option maxHeartbeats 4000000 in
theorem e_X12_begin (x0 : Int) (h : Hq) : vm 218 [(2, x0)] h = vp 218 2 [(2, x0), (0, 0)] [] h := by
  show vp 218 0 [(2, x0), (9, 0)] [] h = _
  refine s_iconst (pc1 := 1) (tk (n := 0) t218_0 rfl) rfl rfl  ?_
  refine s_istore_n (pc1 := 2) (ls1 := [(2, x0), (0, 0)]) (tk (n := 1) t218_0 rfl) rfl rfl rfl rfl ?_
  rfl
set_option maxRecDepth 100000 in
set_option maxHeartbeats 4000000 in
theorem e_X12_begin_2 (x0 : Int) (x1 : Int) (h : Hq) : vp 218 2 [(2, x0), (0, x1)] [] h = if x1 ≥ 2400 then (if (0 < x0 ∧ (kd x0).1 = 12) ∧ ((0 : Int) = 0 ∨ (0 : Int) = 1) then some (none, (h.1, stm h.2 x0 29 0)) else none) else (if 0 < x0 ∧ (kd x0).1 = 12 then if 0 < x0 ∧ (kd x0).1 = 12 then if (kd (h.2 x0 22)).1 = 20 ∧ 0 ≤ x1 ∧ x1 < (kd (h.2 x0 22)).2 then if 0 < (h.2 x0 27) ∧ (kd (h.2 x0 27)).1 = 20 ∧ 0 ≤ x1 ∧ x1 < (kd (h.2 x0 27)).2 then if 0 < x0 ∧ (kd x0).1 = 12 then if 0 < x0 ∧ (kd x0).1 = 12 then if (kd ((stm h.2 (h.2 x0 27) x1 (h.2 (h.2 x0 22) x1)) x0 23)).1 = 20 ∧ 0 ≤ x1 ∧ x1 < (kd ((stm h.2 (h.2 x0 27) x1 (h.2 (h.2 x0 22) x1)) x0 23)).2 then if 0 < ((stm h.2 (h.2 x0 27) x1 (h.2 (h.2 x0 22) x1)) x0 28) ∧ (kd ((stm h.2 (h.2 x0 27) x1 (h.2 (h.2 x0 22) x1)) x0 28)).1 = 20 ∧ 0 ≤ x1 ∧ x1 < (kd ((stm h.2 (h.2 x0 27) x1 (h.2 (h.2 x0 22) x1)) x0 28)).2 then vp 218 2 [(2, x0), (0, w32 (x1 + 1))] [] (h.1, stm (stm h.2 (h.2 x0 27) x1 (h.2 (h.2 x0 22) x1)) ((stm h.2 (h.2 x0 27) x1 (h.2 (h.2 x0 22) x1)) x0 28) x1 ((stm h.2 (h.2 x0 27) x1 (h.2 (h.2 x0 22) x1)) ((stm h.2 (h.2 x0 27) x1 (h.2 (h.2 x0 22) x1)) x0 23) x1)) else none else none else none else none else none else none else none else none) := by
  refine s_iload_n (pc1 := 3) (tk (n := 2) t218_0 rfl) rfl rfl rfl ?_
  refine s_sipush (pc1 := 6) (tk (n := 3) t218_0 rfl) rfl rfl  ?_
  refine s_ic_ge (pc1 := 9) (pt := 39) (tk (n := 4) t218_0 rfl) rfl rfl rfl ?_ ?_
  · refine s_aload_n (pc1 := 40) (tk (n := 23) t218_0 rfl) rfl rfl rfl ?_
    refine s_iconst (pc1 := 41) (tk (n := 24) t218_0 rfl) rfl rfl  ?_
    refine s_putfZ (pc1 := 44) (c := 12) (tk (n := 25) t218_0 rfl) rfl rfl rfl ?_
    exact s_ret (tk (n := 26) t218_0 rfl) rfl rfl rfl
  · refine s_aload_n (pc1 := 10) (tk (n := 5) t218_0 rfl) rfl rfl rfl ?_
    refine s_getf (pc1 := 13) (c := 12) (t1 := 2) (tk (n := 6) t218_0 rfl) rfl rfl (by decide) rfl rfl ?_
    refine s_iload_n (pc1 := 14) (tk (n := 7) t218_0 rfl) rfl rfl rfl ?_
    refine s_aload_n (pc1 := 15) (tk (n := 8) t218_0 rfl) rfl rfl rfl ?_
    refine s_getf (pc1 := 18) (c := 12) (t1 := 2) (tk (n := 9) t218_0 rfl) rfl rfl (by decide) rfl rfl ?_
    refine s_iload_n (pc1 := 19) (tk (n := 10) t218_0 rfl) rfl rfl rfl ?_
    refine s_iald (pc1 := 20) (tk (n := 11) t218_0 rfl) rfl rfl  ?_
    refine s_iast (pc1 := 21) (tk (n := 12) t218_0 rfl) rfl rfl  ?_
    refine s_aload_n (pc1 := 22) (tk (n := 13) t218_0 rfl) rfl rfl rfl ?_
    refine s_getf (pc1 := 25) (c := 12) (t1 := 2) (tk (n := 14) t218_0 rfl) rfl rfl (by decide) rfl rfl ?_
    refine s_iload_n (pc1 := 26) (tk (n := 15) t218_0 rfl) rfl rfl rfl ?_
    refine s_aload_n (pc1 := 27) (tk (n := 16) t218_0 rfl) rfl rfl rfl ?_
    refine s_getf (pc1 := 30) (c := 12) (t1 := 2) (tk (n := 17) t218_0 rfl) rfl rfl (by decide) rfl rfl ?_
    refine s_iload_n (pc1 := 31) (tk (n := 18) t218_0 rfl) rfl rfl rfl ?_
    refine s_iald (pc1 := 32) (tk (n := 19) t218_0 rfl) rfl rfl  ?_
    refine s_iast (pc1 := 33) (tk (n := 20) t218_0 rfl) rfl rfl  ?_
    refine s_iinc (pc1 := 36) (ls1 := [(2, x0), (0, w32 (x1 + 1))]) (tk (n := 21) t218_0 rfl) rfl rfl rfl rfl ?_
    refine s_goto (pc1 := 2) (tk (n := 22) t218_0 rfl) rfl rfl ?_
    rfl
set_option maxRecDepth 100000 in
set_option maxHeartbeats 4000000 in
theorem e_X12_keeps (x0 : Int) (h : Hq) : vm 219 [(2, x0)] h = if 0 < x0 ∧ (kd x0).1 = 12 then if (h.2 x0 29) ≠ 0 then (if 0 < x0 ∧ (kd x0).1 = 12 then if (h.2 x0 26) ≠ 20 then (vp 219 77 [(2, x0), (0, 0)] [] h) else (vp 219 21 [(2, x0), (0, 2400)] [] h) else none) else (some (none, h)) else none := by
  show vp 219 0 [(2, x0), (9, 0)] [] h = _
  refine s_aload_n (pc1 := 1) (tk (n := 0) t219_0 rfl) rfl rfl rfl ?_
  refine s_getf (pc1 := 4) (c := 12) (t1 := 0) (tk (n := 1) t219_0 rfl) rfl rfl (by decide) rfl rfl ?_
  refine s_if_ne (pc1 := 7) (pt := 8) (tk (n := 2) t219_0 rfl) rfl rfl rfl ?_ ?_
  · refine s_aload_n (pc1 := 9) (tk (n := 4) t219_0 rfl) rfl rfl rfl ?_
    refine s_getf (pc1 := 12) (c := 12) (t1 := 0) (tk (n := 5) t219_0 rfl) rfl rfl (by decide) rfl rfl ?_
    refine s_bipush (pc1 := 14) (tk (n := 6) t219_0 rfl) rfl rfl  ?_
    refine s_ic_ne (pc1 := 17) (pt := 75) (tk (n := 7) t219_0 rfl) rfl rfl rfl ?_ ?_
    · refine s_iconst (pc1 := 76) (tk (n := 11) t219_1 rfl) rfl rfl  ?_
      refine s_istore_n (pc1 := 77) (ls1 := [(2, x0), (0, 0)]) (tk (n := 12) t219_1 rfl) rfl rfl rfl rfl ?_
      rfl
    · refine s_sipush (pc1 := 20) (tk (n := 8) t219_0 rfl) rfl rfl  ?_
      refine s_istore_n (pc1 := 21) (ls1 := [(2, x0), (0, 2400)]) (tk (n := 9) t219_0 rfl) rfl rfl rfl rfl ?_
      rfl
  · exact s_ret (tk (n := 3) t219_0 rfl) rfl rfl rfl
set_option maxRecDepth 100000 in
set_option maxHeartbeats 4000000 in
theorem e_X12_keeps_21 (x0 : Int) (x1 : Int) (h : Hq) : vp 219 21 [(2, x0), (0, x1)] [] h = if x1 ≥ 48000 then (if 0 < x0 ∧ (kd x0).1 = 12 then if (0 < x0 ∧ (kd x0).1 = 12) ∧ True then vp 219 77 [(2, x0), (0, 0)] [] (h.1, stm h.2 x0 26 (w32 ((h.2 x0 26) - 1))) else none else none) else (if 0 < x0 ∧ (kd x0).1 = 12 then if 0 < x0 ∧ (kd x0).1 = 12 then if (kd (h.2 x0 24)).1 = 20 ∧ 0 ≤ x1 ∧ x1 < (kd (h.2 x0 24)).2 then if 0 < (h.2 x0 24) ∧ (kd (h.2 x0 24)).1 = 20 ∧ 0 ≤ (w32 (x1 - 2400)) ∧ (w32 (x1 - 2400)) < (kd (h.2 x0 24)).2 then if 0 < x0 ∧ (kd x0).1 = 12 then if 0 < x0 ∧ (kd x0).1 = 12 then if (kd ((stm h.2 (h.2 x0 24) (w32 (x1 - 2400)) (h.2 (h.2 x0 24) x1)) x0 25)).1 = 20 ∧ 0 ≤ x1 ∧ x1 < (kd ((stm h.2 (h.2 x0 24) (w32 (x1 - 2400)) (h.2 (h.2 x0 24) x1)) x0 25)).2 then if 0 < ((stm h.2 (h.2 x0 24) (w32 (x1 - 2400)) (h.2 (h.2 x0 24) x1)) x0 25) ∧ (kd ((stm h.2 (h.2 x0 24) (w32 (x1 - 2400)) (h.2 (h.2 x0 24) x1)) x0 25)).1 = 20 ∧ 0 ≤ (w32 (x1 - 2400)) ∧ (w32 (x1 - 2400)) < (kd ((stm h.2 (h.2 x0 24) (w32 (x1 - 2400)) (h.2 (h.2 x0 24) x1)) x0 25)).2 then vp 219 21 [(2, x0), (0, w32 (x1 + 1))] [] (h.1, stm (stm h.2 (h.2 x0 24) (w32 (x1 - 2400)) (h.2 (h.2 x0 24) x1)) ((stm h.2 (h.2 x0 24) (w32 (x1 - 2400)) (h.2 (h.2 x0 24) x1)) x0 25) (w32 (x1 - 2400)) ((stm h.2 (h.2 x0 24) (w32 (x1 - 2400)) (h.2 (h.2 x0 24) x1)) ((stm h.2 (h.2 x0 24) (w32 (x1 - 2400)) (h.2 (h.2 x0 24) x1)) x0 25) x1)) else none else none else none else none else none else none else none else none) := by
  refine s_iload_n (pc1 := 22) (tk (n := 10) t219_0 rfl) rfl rfl rfl ?_
  refine s_ldc (pc1 := 24) (tk (n := 11) t219_0 rfl) rfl rfl  ?_
  refine s_ic_ge (pc1 := 27) (pt := 65) (tk (n := 12) t219_0 rfl) rfl rfl rfl ?_ ?_
  · refine s_aload_n (pc1 := 66) (tk (n := 5) t219_1 rfl) rfl rfl rfl ?_
    refine s_dup2 (pc1 := 67) (tk (n := 6) t219_1 rfl) rfl rfl  ?_
    refine s_getf (pc1 := 70) (c := 12) (t1 := 0) (tk (n := 7) t219_1 rfl) rfl rfl (by decide) rfl rfl ?_
    refine s_iconst (pc1 := 71) (tk (n := 8) t219_1 rfl) rfl rfl  ?_
    refine s_isub (pc1 := 72) (tk (n := 9) t219_1 rfl) rfl rfl  ?_
    refine s_putf0 (pc1 := 75) (c := 12) (tk (n := 10) t219_1 rfl) rfl rfl rfl rfl rfl ?_
    refine s_iconst (pc1 := 76) (tk (n := 11) t219_1 rfl) rfl rfl  ?_
    refine s_istore_n (pc1 := 77) (ls1 := [(2, x0), (0, 0)]) (tk (n := 12) t219_1 rfl) rfl rfl rfl rfl ?_
    rfl
  · refine s_aload_n (pc1 := 28) (tk (n := 13) t219_0 rfl) rfl rfl rfl ?_
    refine s_getf (pc1 := 31) (c := 12) (t1 := 2) (tk (n := 14) t219_0 rfl) rfl rfl (by decide) rfl rfl ?_
    refine s_iload_n (pc1 := 32) (tk (n := 15) t219_0 rfl) rfl rfl rfl ?_
    refine s_sipush (pc1 := 35) (tk (n := 16) t219_0 rfl) rfl rfl  ?_
    refine s_isub (pc1 := 36) (tk (n := 17) t219_0 rfl) rfl rfl  ?_
    refine s_aload_n (pc1 := 37) (tk (n := 18) t219_0 rfl) rfl rfl rfl ?_
    refine s_getf (pc1 := 40) (c := 12) (t1 := 2) (tk (n := 19) t219_0 rfl) rfl rfl (by decide) rfl rfl ?_
    refine s_iload_n (pc1 := 41) (tk (n := 20) t219_0 rfl) rfl rfl rfl ?_
    refine s_iald (pc1 := 42) (tk (n := 21) t219_0 rfl) rfl rfl  ?_
    refine s_iast (pc1 := 43) (tk (n := 22) t219_0 rfl) rfl rfl  ?_
    refine s_aload_n (pc1 := 44) (tk (n := 23) t219_0 rfl) rfl rfl rfl ?_
    refine s_getf (pc1 := 47) (c := 12) (t1 := 2) (tk (n := 24) t219_0 rfl) rfl rfl (by decide) rfl rfl ?_
    refine s_iload_n (pc1 := 48) (tk (n := 25) t219_0 rfl) rfl rfl rfl ?_
    refine s_sipush (pc1 := 51) (tk (n := 26) t219_0 rfl) rfl rfl  ?_
    refine s_isub (pc1 := 52) (tk (n := 27) t219_0 rfl) rfl rfl  ?_
    refine s_aload_n (pc1 := 53) (tk (n := 28) t219_0 rfl) rfl rfl rfl ?_
    refine s_getf (pc1 := 56) (c := 12) (t1 := 2) (tk (n := 29) t219_0 rfl) rfl rfl (by decide) rfl rfl ?_
    refine s_iload_n (pc1 := 57) (tk (n := 0) t219_1 rfl) rfl rfl rfl ?_
    refine s_iald (pc1 := 58) (tk (n := 1) t219_1 rfl) rfl rfl  ?_
    refine s_iast (pc1 := 59) (tk (n := 2) t219_1 rfl) rfl rfl  ?_
    refine s_iinc (pc1 := 62) (ls1 := [(2, x0), (0, w32 (x1 + 1))]) (tk (n := 3) t219_1 rfl) rfl rfl rfl rfl ?_
    refine s_goto (pc1 := 21) (tk (n := 4) t219_1 rfl) rfl rfl ?_
    rfl
set_option maxRecDepth 100000 in
set_option maxHeartbeats 4000000 in
theorem e_X12_keeps_77 (x0 : Int) (x1 : Int) (h : Hq) : vp 219 77 [(2, x0), (0, x1)] [] h = if x1 ≥ 2400 then (if 0 < x0 ∧ (kd x0).1 = 12 then if (0 < x0 ∧ (kd x0).1 = 12) ∧ True then some (none, (h.1, stm h.2 x0 26 (w32 ((h.2 x0 26) + 1)))) else none else none) else (if 0 < x0 ∧ (kd x0).1 = 12 then if 0 < x0 ∧ (kd x0).1 = 12 then if 0 < x0 ∧ (kd x0).1 = 12 then if (kd (h.2 x0 27)).1 = 20 ∧ 0 ≤ x1 ∧ x1 < (kd (h.2 x0 27)).2 then if 0 < (h.2 x0 24) ∧ (kd (h.2 x0 24)).1 = 20 ∧ 0 ≤ (w32 ((w32 (2400 * (h.2 x0 26))) + x1)) ∧ (w32 ((w32 (2400 * (h.2 x0 26))) + x1)) < (kd (h.2 x0 24)).2 then if 0 < x0 ∧ (kd x0).1 = 12 then if 0 < x0 ∧ (kd x0).1 = 12 then if 0 < x0 ∧ (kd x0).1 = 12 then if (kd ((stm h.2 (h.2 x0 24) (w32 ((w32 (2400 * (h.2 x0 26))) + x1)) (h.2 (h.2 x0 27) x1)) x0 28)).1 = 20 ∧ 0 ≤ x1 ∧ x1 < (kd ((stm h.2 (h.2 x0 24) (w32 ((w32 (2400 * (h.2 x0 26))) + x1)) (h.2 (h.2 x0 27) x1)) x0 28)).2 then if 0 < ((stm h.2 (h.2 x0 24) (w32 ((w32 (2400 * (h.2 x0 26))) + x1)) (h.2 (h.2 x0 27) x1)) x0 25) ∧ (kd ((stm h.2 (h.2 x0 24) (w32 ((w32 (2400 * (h.2 x0 26))) + x1)) (h.2 (h.2 x0 27) x1)) x0 25)).1 = 20 ∧ 0 ≤ (w32 ((w32 (2400 * ((stm h.2 (h.2 x0 24) (w32 ((w32 (2400 * (h.2 x0 26))) + x1)) (h.2 (h.2 x0 27) x1)) x0 26))) + x1)) ∧ (w32 ((w32 (2400 * ((stm h.2 (h.2 x0 24) (w32 ((w32 (2400 * (h.2 x0 26))) + x1)) (h.2 (h.2 x0 27) x1)) x0 26))) + x1)) < (kd ((stm h.2 (h.2 x0 24) (w32 ((w32 (2400 * (h.2 x0 26))) + x1)) (h.2 (h.2 x0 27) x1)) x0 25)).2 then vp 219 77 [(2, x0), (0, w32 (x1 + 1))] [] (h.1, stm (stm h.2 (h.2 x0 24) (w32 ((w32 (2400 * (h.2 x0 26))) + x1)) (h.2 (h.2 x0 27) x1)) ((stm h.2 (h.2 x0 24) (w32 ((w32 (2400 * (h.2 x0 26))) + x1)) (h.2 (h.2 x0 27) x1)) x0 25) (w32 ((w32 (2400 * ((stm h.2 (h.2 x0 24) (w32 ((w32 (2400 * (h.2 x0 26))) + x1)) (h.2 (h.2 x0 27) x1)) x0 26))) + x1)) ((stm h.2 (h.2 x0 24) (w32 ((w32 (2400 * (h.2 x0 26))) + x1)) (h.2 (h.2 x0 27) x1)) ((stm h.2 (h.2 x0 24) (w32 ((w32 (2400 * (h.2 x0 26))) + x1)) (h.2 (h.2 x0 27) x1)) x0 28) x1)) else none else none else none else none else none else none else none else none else none else none) := by
  refine s_iload_n (pc1 := 78) (tk (n := 13) t219_1 rfl) rfl rfl rfl ?_
  refine s_sipush (pc1 := 81) (tk (n := 14) t219_1 rfl) rfl rfl  ?_
  refine s_ic_ge (pc1 := 84) (pt := 132) (tk (n := 15) t219_1 rfl) rfl rfl rfl ?_ ?_
  · refine s_aload_n (pc1 := 133) (tk (n := 14) t219_2 rfl) rfl rfl rfl ?_
    refine s_dup2 (pc1 := 134) (tk (n := 15) t219_2 rfl) rfl rfl  ?_
    refine s_getf (pc1 := 137) (c := 12) (t1 := 0) (tk (n := 16) t219_2 rfl) rfl rfl (by decide) rfl rfl ?_
    refine s_iconst (pc1 := 138) (tk (n := 17) t219_2 rfl) rfl rfl  ?_
    refine s_iadd (pc1 := 139) (tk (n := 18) t219_2 rfl) rfl rfl  ?_
    refine s_putf0 (pc1 := 142) (c := 12) (tk (n := 19) t219_2 rfl) rfl rfl rfl rfl rfl ?_
    exact s_ret (tk (n := 20) t219_2 rfl) rfl rfl rfl
  · refine s_aload_n (pc1 := 85) (tk (n := 16) t219_1 rfl) rfl rfl rfl ?_
    refine s_getf (pc1 := 88) (c := 12) (t1 := 2) (tk (n := 17) t219_1 rfl) rfl rfl (by decide) rfl rfl ?_
    refine s_sipush (pc1 := 91) (tk (n := 18) t219_1 rfl) rfl rfl  ?_
    refine s_aload_n (pc1 := 92) (tk (n := 19) t219_1 rfl) rfl rfl rfl ?_
    refine s_getf (pc1 := 95) (c := 12) (t1 := 0) (tk (n := 20) t219_1 rfl) rfl rfl (by decide) rfl rfl ?_
    refine s_imul (pc1 := 96) (tk (n := 21) t219_1 rfl) rfl rfl  ?_
    refine s_iload_n (pc1 := 97) (tk (n := 22) t219_1 rfl) rfl rfl rfl ?_
    refine s_iadd (pc1 := 98) (tk (n := 23) t219_1 rfl) rfl rfl  ?_
    refine s_aload_n (pc1 := 99) (tk (n := 24) t219_1 rfl) rfl rfl rfl ?_
    refine s_getf (pc1 := 102) (c := 12) (t1 := 2) (tk (n := 25) t219_1 rfl) rfl rfl (by decide) rfl rfl ?_
    refine s_iload_n (pc1 := 103) (tk (n := 26) t219_1 rfl) rfl rfl rfl ?_
    refine s_iald (pc1 := 104) (tk (n := 27) t219_1 rfl) rfl rfl  ?_
    refine s_iast (pc1 := 105) (tk (n := 28) t219_1 rfl) rfl rfl  ?_
    refine s_aload_n (pc1 := 106) (tk (n := 29) t219_1 rfl) rfl rfl rfl ?_
    refine s_getf (pc1 := 109) (c := 12) (t1 := 2) (tk (n := 0) t219_2 rfl) rfl rfl (by decide) rfl rfl ?_
    refine s_sipush (pc1 := 112) (tk (n := 1) t219_2 rfl) rfl rfl  ?_
    refine s_aload_n (pc1 := 113) (tk (n := 2) t219_2 rfl) rfl rfl rfl ?_
    refine s_getf (pc1 := 116) (c := 12) (t1 := 0) (tk (n := 3) t219_2 rfl) rfl rfl (by decide) rfl rfl ?_
    refine s_imul (pc1 := 117) (tk (n := 4) t219_2 rfl) rfl rfl  ?_
    refine s_iload_n (pc1 := 118) (tk (n := 5) t219_2 rfl) rfl rfl rfl ?_
    refine s_iadd (pc1 := 119) (tk (n := 6) t219_2 rfl) rfl rfl  ?_
    refine s_aload_n (pc1 := 120) (tk (n := 7) t219_2 rfl) rfl rfl rfl ?_
    refine s_getf (pc1 := 123) (c := 12) (t1 := 2) (tk (n := 8) t219_2 rfl) rfl rfl (by decide) rfl rfl ?_
    refine s_iload_n (pc1 := 124) (tk (n := 9) t219_2 rfl) rfl rfl rfl ?_
    refine s_iald (pc1 := 125) (tk (n := 10) t219_2 rfl) rfl rfl  ?_
    refine s_iast (pc1 := 126) (tk (n := 11) t219_2 rfl) rfl rfl  ?_
    refine s_iinc (pc1 := 129) (ls1 := [(2, x0), (0, w32 (x1 + 1))]) (tk (n := 12) t219_2 rfl) rfl rfl rfl rfl ?_
    refine s_goto (pc1 := 77) (tk (n := 13) t219_2 rfl) rfl rfl ?_
    rfl
set_option maxRecDepth 100000 in
set_option maxHeartbeats 4000000 in
theorem e_X12_undo (x0 : Int) (h : Hq) : vm 220 [(2, x0)] h = if 0 < x0 ∧ (kd x0).1 = 12 then if (h.2 x0 26) ≠ 0 then (if 0 < x0 ∧ (kd x0).1 = 12 then if (0 < x0 ∧ (kd x0).1 = 12) ∧ True then vp 220 21 [(2, x0), (0, 0)] [] (h.1, stm h.2 x0 26 (w32 ((h.2 x0 26) - 1))) else none else none) else (some (some (0, (-1)), h)) else none := by
  show vp 220 0 [(2, x0), (9, 0)] [] h = _
  refine s_aload_n (pc1 := 1) (tk (n := 0) t220_0 rfl) rfl rfl rfl ?_
  refine s_getf (pc1 := 4) (c := 12) (t1 := 0) (tk (n := 1) t220_0 rfl) rfl rfl (by decide) rfl rfl ?_
  refine s_if_ne (pc1 := 7) (pt := 9) (tk (n := 2) t220_0 rfl) rfl rfl rfl ?_ ?_
  · refine s_aload_n (pc1 := 10) (tk (n := 5) t220_0 rfl) rfl rfl rfl ?_
    refine s_dup2 (pc1 := 11) (tk (n := 6) t220_0 rfl) rfl rfl  ?_
    refine s_getf (pc1 := 14) (c := 12) (t1 := 0) (tk (n := 7) t220_0 rfl) rfl rfl (by decide) rfl rfl ?_
    refine s_iconst (pc1 := 15) (tk (n := 8) t220_0 rfl) rfl rfl  ?_
    refine s_isub (pc1 := 16) (tk (n := 9) t220_0 rfl) rfl rfl  ?_
    refine s_putf0 (pc1 := 19) (c := 12) (tk (n := 10) t220_0 rfl) rfl rfl rfl rfl rfl ?_
    refine s_iconst (pc1 := 20) (tk (n := 11) t220_0 rfl) rfl rfl  ?_
    refine s_istore_n (pc1 := 21) (ls1 := [(2, x0), (0, 0)]) (tk (n := 12) t220_0 rfl) rfl rfl rfl rfl ?_
    rfl
  · refine s_iconst (pc1 := 8) (tk (n := 3) t220_0 rfl) rfl rfl  ?_
    exact s_ret (tk (n := 4) t220_0 rfl) rfl rfl rfl
set_option maxRecDepth 100000 in
set_option maxHeartbeats 4000000 in
theorem e_X12_undo_21 (x0 : Int) (x1 : Int) (h : Hq) : vp 220 21 [(2, x0), (0, x1)] [] h = if x1 ≥ 2400 then (if 0 < x0 ∧ (kd x0).1 = 12 then some (some (0, h.2 x0 26), h) else none) else (if 0 < x0 ∧ (kd x0).1 = 12 then if 0 < x0 ∧ (kd x0).1 = 12 then if 0 < x0 ∧ (kd x0).1 = 12 then if (kd (h.2 x0 24)).1 = 20 ∧ 0 ≤ (w32 ((w32 (2400 * (h.2 x0 26))) + x1)) ∧ (w32 ((w32 (2400 * (h.2 x0 26))) + x1)) < (kd (h.2 x0 24)).2 then if 0 < (h.2 x0 22) ∧ (kd (h.2 x0 22)).1 = 20 ∧ 0 ≤ x1 ∧ x1 < (kd (h.2 x0 22)).2 then if 0 < x0 ∧ (kd x0).1 = 12 then if 0 < x0 ∧ (kd x0).1 = 12 then if 0 < x0 ∧ (kd x0).1 = 12 then if (kd ((stm h.2 (h.2 x0 22) x1 (h.2 (h.2 x0 24) (w32 ((w32 (2400 * (h.2 x0 26))) + x1)))) x0 25)).1 = 20 ∧ 0 ≤ (w32 ((w32 (2400 * ((stm h.2 (h.2 x0 22) x1 (h.2 (h.2 x0 24) (w32 ((w32 (2400 * (h.2 x0 26))) + x1)))) x0 26))) + x1)) ∧ (w32 ((w32 (2400 * ((stm h.2 (h.2 x0 22) x1 (h.2 (h.2 x0 24) (w32 ((w32 (2400 * (h.2 x0 26))) + x1)))) x0 26))) + x1)) < (kd ((stm h.2 (h.2 x0 22) x1 (h.2 (h.2 x0 24) (w32 ((w32 (2400 * (h.2 x0 26))) + x1)))) x0 25)).2 then if 0 < ((stm h.2 (h.2 x0 22) x1 (h.2 (h.2 x0 24) (w32 ((w32 (2400 * (h.2 x0 26))) + x1)))) x0 23) ∧ (kd ((stm h.2 (h.2 x0 22) x1 (h.2 (h.2 x0 24) (w32 ((w32 (2400 * (h.2 x0 26))) + x1)))) x0 23)).1 = 20 ∧ 0 ≤ x1 ∧ x1 < (kd ((stm h.2 (h.2 x0 22) x1 (h.2 (h.2 x0 24) (w32 ((w32 (2400 * (h.2 x0 26))) + x1)))) x0 23)).2 then vp 220 21 [(2, x0), (0, w32 (x1 + 1))] [] (h.1, stm (stm h.2 (h.2 x0 22) x1 (h.2 (h.2 x0 24) (w32 ((w32 (2400 * (h.2 x0 26))) + x1)))) ((stm h.2 (h.2 x0 22) x1 (h.2 (h.2 x0 24) (w32 ((w32 (2400 * (h.2 x0 26))) + x1)))) x0 23) x1 ((stm h.2 (h.2 x0 22) x1 (h.2 (h.2 x0 24) (w32 ((w32 (2400 * (h.2 x0 26))) + x1)))) ((stm h.2 (h.2 x0 22) x1 (h.2 (h.2 x0 24) (w32 ((w32 (2400 * (h.2 x0 26))) + x1)))) x0 25) (w32 ((w32 (2400 * ((stm h.2 (h.2 x0 22) x1 (h.2 (h.2 x0 24) (w32 ((w32 (2400 * (h.2 x0 26))) + x1)))) x0 26))) + x1)))) else none else none else none else none else none else none else none else none else none else none) := by
  refine s_iload_n (pc1 := 22) (tk (n := 13) t220_0 rfl) rfl rfl rfl ?_
  refine s_sipush (pc1 := 25) (tk (n := 14) t220_0 rfl) rfl rfl  ?_
  refine s_ic_ge (pc1 := 28) (pt := 76) (tk (n := 15) t220_0 rfl) rfl rfl rfl ?_ ?_
  · refine s_aload_n (pc1 := 77) (tk (n := 14) t220_1 rfl) rfl rfl rfl ?_
    refine s_getf (pc1 := 80) (c := 12) (t1 := 0) (tk (n := 15) t220_1 rfl) rfl rfl (by decide) rfl rfl ?_
    exact s_ret (tk (n := 16) t220_1 rfl) rfl rfl rfl
  · refine s_aload_n (pc1 := 29) (tk (n := 16) t220_0 rfl) rfl rfl rfl ?_
    refine s_getf (pc1 := 32) (c := 12) (t1 := 2) (tk (n := 17) t220_0 rfl) rfl rfl (by decide) rfl rfl ?_
    refine s_iload_n (pc1 := 33) (tk (n := 18) t220_0 rfl) rfl rfl rfl ?_
    refine s_aload_n (pc1 := 34) (tk (n := 19) t220_0 rfl) rfl rfl rfl ?_
    refine s_getf (pc1 := 37) (c := 12) (t1 := 2) (tk (n := 20) t220_0 rfl) rfl rfl (by decide) rfl rfl ?_
    refine s_sipush (pc1 := 40) (tk (n := 21) t220_0 rfl) rfl rfl  ?_
    refine s_aload_n (pc1 := 41) (tk (n := 22) t220_0 rfl) rfl rfl rfl ?_
    refine s_getf (pc1 := 44) (c := 12) (t1 := 0) (tk (n := 23) t220_0 rfl) rfl rfl (by decide) rfl rfl ?_
    refine s_imul (pc1 := 45) (tk (n := 24) t220_0 rfl) rfl rfl  ?_
    refine s_iload_n (pc1 := 46) (tk (n := 25) t220_0 rfl) rfl rfl rfl ?_
    refine s_iadd (pc1 := 47) (tk (n := 26) t220_0 rfl) rfl rfl  ?_
    refine s_iald (pc1 := 48) (tk (n := 27) t220_0 rfl) rfl rfl  ?_
    refine s_iast (pc1 := 49) (tk (n := 28) t220_0 rfl) rfl rfl  ?_
    refine s_aload_n (pc1 := 50) (tk (n := 29) t220_0 rfl) rfl rfl rfl ?_
    refine s_getf (pc1 := 53) (c := 12) (t1 := 2) (tk (n := 0) t220_1 rfl) rfl rfl (by decide) rfl rfl ?_
    refine s_iload_n (pc1 := 54) (tk (n := 1) t220_1 rfl) rfl rfl rfl ?_
    refine s_aload_n (pc1 := 55) (tk (n := 2) t220_1 rfl) rfl rfl rfl ?_
    refine s_getf (pc1 := 58) (c := 12) (t1 := 2) (tk (n := 3) t220_1 rfl) rfl rfl (by decide) rfl rfl ?_
    refine s_sipush (pc1 := 61) (tk (n := 4) t220_1 rfl) rfl rfl  ?_
    refine s_aload_n (pc1 := 62) (tk (n := 5) t220_1 rfl) rfl rfl rfl ?_
    refine s_getf (pc1 := 65) (c := 12) (t1 := 0) (tk (n := 6) t220_1 rfl) rfl rfl (by decide) rfl rfl ?_
    refine s_imul (pc1 := 66) (tk (n := 7) t220_1 rfl) rfl rfl  ?_
    refine s_iload_n (pc1 := 67) (tk (n := 8) t220_1 rfl) rfl rfl rfl ?_
    refine s_iadd (pc1 := 68) (tk (n := 9) t220_1 rfl) rfl rfl  ?_
    refine s_iald (pc1 := 69) (tk (n := 10) t220_1 rfl) rfl rfl  ?_
    refine s_iast (pc1 := 70) (tk (n := 11) t220_1 rfl) rfl rfl  ?_
    refine s_iinc (pc1 := 73) (ls1 := [(2, x0), (0, w32 (x1 + 1))]) (tk (n := 12) t220_1 rfl) rfl rfl rfl rfl ?_
    refine s_goto (pc1 := 21) (tk (n := 13) t220_1 rfl) rfl rfl ?_
    rfl
set_option maxRecDepth 100000 in
set_option maxHeartbeats 4000000 in
theorem e_X12_sets (x0 : Int) (x1 : Int) (x2 : Int) (x3 : Int) (h : Hq) : vm 221 [(2, x0), (0, x1), (0, x2), (0, x3)] h = if 0 < x0 ∧ (kd x0).1 = 12 then if (h.2 x0 29) ≠ 0 then (if (0 < x0 ∧ (kd x0).1 = 12) ∧ ((1 : Int) = 0 ∨ (1 : Int) = 1) then if 0 < x0 ∧ (kd x0).1 = 12 then if 0 < ((stm h.2 x0 29 1) x0 22) ∧ (kd ((stm h.2 x0 29 1) x0 22)).1 = 20 ∧ 0 ≤ (w32 ((w32 (400 * x1)) + x2)) ∧ (w32 ((w32 (400 * x1)) + x2)) < (kd ((stm h.2 x0 29 1) x0 22)).2 then some (none, (h.1, stm (stm h.2 x0 29 1) ((stm h.2 x0 29 1) x0 22) (w32 ((w32 (400 * x1)) + x2)) x3)) else none else none else none) else (if 0 < x0 ∧ (kd x0).1 = 12 then if (kd (h.2 x0 22)).1 = 20 ∧ 0 ≤ (w32 ((w32 (400 * x1)) + x2)) ∧ (w32 ((w32 (400 * x1)) + x2)) < (kd (h.2 x0 22)).2 then if (h.2 (h.2 x0 22) (w32 ((w32 (400 * x1)) + x2))) = x3 then (if (0 < x0 ∧ (kd x0).1 = 12) ∧ ((0 : Int) = 0 ∨ (0 : Int) = 1) then if 0 < x0 ∧ (kd x0).1 = 12 then if 0 < ((stm h.2 x0 29 0) x0 22) ∧ (kd ((stm h.2 x0 29 0) x0 22)).1 = 20 ∧ 0 ≤ (w32 ((w32 (400 * x1)) + x2)) ∧ (w32 ((w32 (400 * x1)) + x2)) < (kd ((stm h.2 x0 29 0) x0 22)).2 then some (none, (h.1, stm (stm h.2 x0 29 0) ((stm h.2 x0 29 0) x0 22) (w32 ((w32 (400 * x1)) + x2)) x3)) else none else none else none) else (if (0 < x0 ∧ (kd x0).1 = 12) ∧ ((1 : Int) = 0 ∨ (1 : Int) = 1) then if 0 < x0 ∧ (kd x0).1 = 12 then if 0 < ((stm h.2 x0 29 1) x0 22) ∧ (kd ((stm h.2 x0 29 1) x0 22)).1 = 20 ∧ 0 ≤ (w32 ((w32 (400 * x1)) + x2)) ∧ (w32 ((w32 (400 * x1)) + x2)) < (kd ((stm h.2 x0 29 1) x0 22)).2 then some (none, (h.1, stm (stm h.2 x0 29 1) ((stm h.2 x0 29 1) x0 22) (w32 ((w32 (400 * x1)) + x2)) x3)) else none else none else none) else none else none) else none := by
  show vp 221 0 [(2, x0), (0, x1), (0, x2), (0, x3), (9, 0)] [] h = _
  refine s_sipush (pc1 := 3) (tk (n := 0) t221_0 rfl) rfl rfl  ?_
  refine s_iload_n (pc1 := 4) (tk (n := 1) t221_0 rfl) rfl rfl rfl ?_
  refine s_imul (pc1 := 5) (tk (n := 2) t221_0 rfl) rfl rfl  ?_
  refine s_iload_n (pc1 := 6) (tk (n := 3) t221_0 rfl) rfl rfl rfl ?_
  refine s_iadd (pc1 := 7) (tk (n := 4) t221_0 rfl) rfl rfl  ?_
  refine s_istore (pc1 := 9) (ls1 := [(2, x0), (0, x1), (0, x2), (0, x3), (0, w32 ((w32 (400 * x1)) + x2))]) (tk (n := 5) t221_0 rfl) rfl rfl rfl rfl ?_
  refine s_aload_n (pc1 := 10) (tk (n := 6) t221_0 rfl) rfl rfl rfl ?_
  refine s_aload_n (pc1 := 11) (tk (n := 7) t221_0 rfl) rfl rfl rfl ?_
  refine s_getf (pc1 := 14) (c := 12) (t1 := 0) (tk (n := 8) t221_0 rfl) rfl rfl (by decide) rfl rfl ?_
  refine s_if_ne (pc1 := 17) (pt := 28) (tk (n := 9) t221_0 rfl) rfl rfl rfl ?_ ?_
  · refine s_iconst (pc1 := 29) (tk (n := 16) t221_0 rfl) rfl rfl  ?_
    refine s_goto (pc1 := 33) (tk (n := 17) t221_0 rfl) rfl rfl ?_
    refine s_putfZ (pc1 := 36) (c := 12) (tk (n := 19) t221_0 rfl) rfl rfl rfl ?_
    refine s_aload_n (pc1 := 37) (tk (n := 20) t221_0 rfl) rfl rfl rfl ?_
    refine s_getf (pc1 := 40) (c := 12) (t1 := 2) (tk (n := 21) t221_0 rfl) rfl rfl (by decide) rfl rfl ?_
    refine s_iload (pc1 := 42) (tk (n := 22) t221_0 rfl) rfl rfl rfl ?_
    refine s_iload_n (pc1 := 43) (tk (n := 23) t221_0 rfl) rfl rfl rfl ?_
    refine s_iast (pc1 := 44) (tk (n := 24) t221_0 rfl) rfl rfl  ?_
    exact s_ret (tk (n := 25) t221_0 rfl) rfl rfl rfl
  · refine s_aload_n (pc1 := 18) (tk (n := 10) t221_0 rfl) rfl rfl rfl ?_
    refine s_getf (pc1 := 21) (c := 12) (t1 := 2) (tk (n := 11) t221_0 rfl) rfl rfl (by decide) rfl rfl ?_
    refine s_iload (pc1 := 23) (tk (n := 12) t221_0 rfl) rfl rfl rfl ?_
    refine s_iald (pc1 := 24) (tk (n := 13) t221_0 rfl) rfl rfl  ?_
    refine s_iload_n (pc1 := 25) (tk (n := 14) t221_0 rfl) rfl rfl rfl ?_
    refine s_ic_eq (pc1 := 28) (pt := 32) (tk (n := 15) t221_0 rfl) rfl rfl rfl ?_ ?_
    · refine s_iconst (pc1 := 33) (tk (n := 18) t221_0 rfl) rfl rfl  ?_
      refine s_putfZ (pc1 := 36) (c := 12) (tk (n := 19) t221_0 rfl) rfl rfl rfl ?_
      refine s_aload_n (pc1 := 37) (tk (n := 20) t221_0 rfl) rfl rfl rfl ?_
      refine s_getf (pc1 := 40) (c := 12) (t1 := 2) (tk (n := 21) t221_0 rfl) rfl rfl (by decide) rfl rfl ?_
      refine s_iload (pc1 := 42) (tk (n := 22) t221_0 rfl) rfl rfl rfl ?_
      refine s_iload_n (pc1 := 43) (tk (n := 23) t221_0 rfl) rfl rfl rfl ?_
      refine s_iast (pc1 := 44) (tk (n := 24) t221_0 rfl) rfl rfl  ?_
      exact s_ret (tk (n := 25) t221_0 rfl) rfl rfl rfl
    · refine s_iconst (pc1 := 29) (tk (n := 16) t221_0 rfl) rfl rfl  ?_
      refine s_goto (pc1 := 33) (tk (n := 17) t221_0 rfl) rfl rfl ?_
      refine s_putfZ (pc1 := 36) (c := 12) (tk (n := 19) t221_0 rfl) rfl rfl rfl ?_
      refine s_aload_n (pc1 := 37) (tk (n := 20) t221_0 rfl) rfl rfl rfl ?_
      refine s_getf (pc1 := 40) (c := 12) (t1 := 2) (tk (n := 21) t221_0 rfl) rfl rfl (by decide) rfl rfl ?_
      refine s_iload (pc1 := 42) (tk (n := 22) t221_0 rfl) rfl rfl rfl ?_
      refine s_iload_n (pc1 := 43) (tk (n := 23) t221_0 rfl) rfl rfl rfl ?_
      refine s_iast (pc1 := 44) (tk (n := 24) t221_0 rfl) rfl rfl  ?_
      exact s_ret (tk (n := 25) t221_0 rfl) rfl rfl rfl
set_option maxRecDepth 100000 in
set_option maxHeartbeats 4000000 in
theorem e_X12_places (x0 : Int) (x1 : Int) (x2 : Int) (x3 : Int) (x4 : Int) (h : Hq) : vm 222 [(2, x0), (0, x1), (0, x2), (0, x3), (0, x4)] h = if 0 < x0 ∧ (kd x0).1 = 12 then if (h.2 x0 29) ≠ 0 then (vp 222 38 [(2, x0), (0, x1), (0, x2), (0, x3), (0, x4), (0, w32 ((w32 (400 * x1)) + x2))] [(0, 1), (2, x0)] h) else (if x4 ≠ 0 then (vp 222 38 [(2, x0), (0, x1), (0, x2), (0, x3), (0, x4), (0, w32 ((w32 (400 * x1)) + x2))] [(0, 1), (2, x0)] h) else (if 0 < x0 ∧ (kd x0).1 = 12 then if (kd (h.2 x0 23)).1 = 20 ∧ 0 ≤ (w32 ((w32 (400 * x1)) + x2)) ∧ (w32 ((w32 (400 * x1)) + x2)) < (kd (h.2 x0 23)).2 then if (h.2 (h.2 x0 23) (w32 ((w32 (400 * x1)) + x2))) ≠ 1 then (vp 222 38 [(2, x0), (0, x1), (0, x2), (0, x3), (0, x4), (0, w32 ((w32 (400 * x1)) + x2))] [(0, 0), (2, x0)] h) else (vp 222 38 [(2, x0), (0, x1), (0, x2), (0, x3), (0, x4), (0, w32 ((w32 (400 * x1)) + x2))] [(0, 1), (2, x0)] h) else none else none)) else none := by
  show vp 222 0 [(2, x0), (0, x1), (0, x2), (0, x3), (0, x4), (9, 0)] [] h = _
  refine s_sipush (pc1 := 3) (tk (n := 0) t222_0 rfl) rfl rfl  ?_
  refine s_iload_n (pc1 := 4) (tk (n := 1) t222_0 rfl) rfl rfl rfl ?_
  refine s_imul (pc1 := 5) (tk (n := 2) t222_0 rfl) rfl rfl  ?_
  refine s_iload_n (pc1 := 6) (tk (n := 3) t222_0 rfl) rfl rfl rfl ?_
  refine s_iadd (pc1 := 7) (tk (n := 4) t222_0 rfl) rfl rfl  ?_
  refine s_istore (pc1 := 9) (ls1 := [(2, x0), (0, x1), (0, x2), (0, x3), (0, x4), (0, w32 ((w32 (400 * x1)) + x2))]) (tk (n := 5) t222_0 rfl) rfl rfl rfl rfl ?_
  refine s_aload_n (pc1 := 10) (tk (n := 6) t222_0 rfl) rfl rfl rfl ?_
  refine s_aload_n (pc1 := 11) (tk (n := 7) t222_0 rfl) rfl rfl rfl ?_
  refine s_getf (pc1 := 14) (c := 12) (t1 := 0) (tk (n := 8) t222_0 rfl) rfl rfl (by decide) rfl rfl ?_
  refine s_if_ne (pc1 := 17) (pt := 33) (tk (n := 9) t222_0 rfl) rfl rfl rfl ?_ ?_
  · refine s_iconst (pc1 := 34) (tk (n := 18) t222_0 rfl) rfl rfl  ?_
    refine s_goto (pc1 := 38) (tk (n := 19) t222_0 rfl) rfl rfl ?_
    rfl
  · refine s_iload (pc1 := 19) (tk (n := 10) t222_0 rfl) rfl rfl rfl ?_
    refine s_if_ne (pc1 := 22) (pt := 33) (tk (n := 11) t222_0 rfl) rfl rfl rfl ?_ ?_
    · refine s_iconst (pc1 := 34) (tk (n := 18) t222_0 rfl) rfl rfl  ?_
      refine s_goto (pc1 := 38) (tk (n := 19) t222_0 rfl) rfl rfl ?_
      rfl
    · refine s_aload_n (pc1 := 23) (tk (n := 12) t222_0 rfl) rfl rfl rfl ?_
      refine s_getf (pc1 := 26) (c := 12) (t1 := 2) (tk (n := 13) t222_0 rfl) rfl rfl (by decide) rfl rfl ?_
      refine s_iload (pc1 := 28) (tk (n := 14) t222_0 rfl) rfl rfl rfl ?_
      refine s_iald (pc1 := 29) (tk (n := 15) t222_0 rfl) rfl rfl  ?_
      refine s_iconst (pc1 := 30) (tk (n := 16) t222_0 rfl) rfl rfl  ?_
      refine s_ic_ne (pc1 := 33) (pt := 37) (tk (n := 17) t222_0 rfl) rfl rfl rfl ?_ ?_
      · refine s_iconst (pc1 := 38) (tk (n := 20) t222_0 rfl) rfl rfl  ?_
        rfl
      · refine s_iconst (pc1 := 34) (tk (n := 18) t222_0 rfl) rfl rfl  ?_
        refine s_goto (pc1 := 38) (tk (n := 19) t222_0 rfl) rfl rfl ?_
        rfl
set_option maxRecDepth 100000 in
set_option maxHeartbeats 4000000 in
theorem e_X12_places_38 (x0 : Int) (z1 : Vl) (z2 : Vl) (x3 : Int) (x4 : Int) (x5 : Int) (s0 : Int) (s1 : Int) (h : Hq) : vp 222 38 [(2, x0), z1, z2, (0, x3), (0, x4), (0, x5)] [(0, s1), (2, s0)] h = if (0 < s0 ∧ (kd s0).1 = 12) ∧ (s1 = 0 ∨ s1 = 1) then if 0 < x0 ∧ (kd x0).1 = 12 then if x4 = 0 then (if 0 < ((stm h.2 s0 29 s1) x0 22) ∧ (kd ((stm h.2 s0 29 s1) x0 22)).1 = 20 ∧ 0 ≤ x5 ∧ x5 < (kd ((stm h.2 s0 29 s1) x0 22)).2 then if 0 < x0 ∧ (kd x0).1 = 12 then (vm 168 [(0, x4)] (h.1, stm (stm h.2 s0 29 s1) ((stm h.2 s0 29 s1) x0 22) x5 (-1))).bind (fun r13 => if 0 < ((stm (stm h.2 s0 29 s1) ((stm h.2 s0 29 s1) x0 22) x5 (-1)) x0 23) ∧ (kd ((stm (stm h.2 s0 29 s1) ((stm h.2 s0 29 s1) x0 22) x5 (-1)) x0 23)).1 = 20 ∧ 0 ≤ x5 ∧ x5 < (kd ((stm (stm h.2 s0 29 s1) ((stm h.2 s0 29 s1) x0 22) x5 (-1)) x0 23)).2 then some (none, (r13.2.1, stm r13.2.2 ((stm (stm h.2 s0 29 s1) ((stm h.2 s0 29 s1) x0 22) x5 (-1)) x0 23) x5 (vx r13))) else none) else none else none) else (if 0 < ((stm h.2 s0 29 s1) x0 22) ∧ (kd ((stm h.2 s0 29 s1) x0 22)).1 = 20 ∧ 0 ≤ x5 ∧ x5 < (kd ((stm h.2 s0 29 s1) x0 22)).2 then if 0 < x0 ∧ (kd x0).1 = 12 then (vm 168 [(0, x4)] (h.1, stm (stm h.2 s0 29 s1) ((stm h.2 s0 29 s1) x0 22) x5 x3)).bind (fun r14 => if 0 < ((stm (stm h.2 s0 29 s1) ((stm h.2 s0 29 s1) x0 22) x5 x3) x0 23) ∧ (kd ((stm (stm h.2 s0 29 s1) ((stm h.2 s0 29 s1) x0 22) x5 x3) x0 23)).1 = 20 ∧ 0 ≤ x5 ∧ x5 < (kd ((stm (stm h.2 s0 29 s1) ((stm h.2 s0 29 s1) x0 22) x5 x3) x0 23)).2 then some (none, (r14.2.1, stm r14.2.2 ((stm (stm h.2 s0 29 s1) ((stm h.2 s0 29 s1) x0 22) x5 x3) x0 23) x5 (vx r14))) else none) else none else none) else none else none := by
  refine s_fg (ls1 := [(2, x0), (9, 0), (9, 0), (0, x3), (0, x4), (0, x5)]) (tk (n := 21) t222_0 rfl) rfl ?_
  refine s_putfZ (pc1 := 41) (c := 12) (tk (n := 21) t222_0 rfl) rfl rfl rfl ?_
  refine s_aload_n (pc1 := 42) (tk (n := 22) t222_0 rfl) rfl rfl rfl ?_
  refine s_getf (pc1 := 45) (c := 12) (t1 := 2) (tk (n := 23) t222_0 rfl) rfl rfl (by decide) rfl rfl ?_
  refine s_iload (pc1 := 47) (tk (n := 24) t222_0 rfl) rfl rfl rfl ?_
  refine s_iload (pc1 := 49) (tk (n := 25) t222_0 rfl) rfl rfl rfl ?_
  refine s_if_eq (pc1 := 52) (pt := 56) (tk (n := 26) t222_0 rfl) rfl rfl rfl ?_ ?_
  · refine s_iconst (pc1 := 57) (tk (n := 29) t222_0 rfl) rfl rfl  ?_
    refine s_iast (pc1 := 58) (tk (n := 0) t222_1 rfl) rfl rfl  ?_
    refine s_aload_n (pc1 := 59) (tk (n := 1) t222_1 rfl) rfl rfl rfl ?_
    refine s_getf (pc1 := 62) (c := 12) (t1 := 2) (tk (n := 2) t222_1 rfl) rfl rfl (by decide) rfl rfl ?_
    refine s_iload (pc1 := 64) (tk (n := 3) t222_1 rfl) rfl rfl rfl ?_
    refine s_iload (pc1 := 66) (tk (n := 4) t222_1 rfl) rfl rfl rfl ?_
    refine s_callS0 (as := [(0, x4)]) (st1 := [(0, x5), (2, (stm (stm h.2 s0 29 s1) ((stm h.2 s0 29 s1) x0 22) x5 (-1)) x0 23)]) (p1 := 69) (M2 := 168) (tk (n := 5) t222_1 rfl) rfl rfl rfl rfl rfl (fun r13 => ?_)
    refine s_iast (pc1 := 70) (tk (n := 6) t222_1 rfl) rfl rfl  ?_
    exact s_ret (tk (n := 7) t222_1 rfl) rfl rfl rfl
  · refine s_iload_n (pc1 := 53) (tk (n := 27) t222_0 rfl) rfl rfl rfl ?_
    refine s_goto (pc1 := 57) (tk (n := 28) t222_0 rfl) rfl rfl ?_
    refine s_iast (pc1 := 58) (tk (n := 0) t222_1 rfl) rfl rfl  ?_
    refine s_aload_n (pc1 := 59) (tk (n := 1) t222_1 rfl) rfl rfl rfl ?_
    refine s_getf (pc1 := 62) (c := 12) (t1 := 2) (tk (n := 2) t222_1 rfl) rfl rfl (by decide) rfl rfl ?_
    refine s_iload (pc1 := 64) (tk (n := 3) t222_1 rfl) rfl rfl rfl ?_
    refine s_iload (pc1 := 66) (tk (n := 4) t222_1 rfl) rfl rfl rfl ?_
    refine s_callS0 (as := [(0, x4)]) (st1 := [(0, x5), (2, (stm (stm h.2 s0 29 s1) ((stm h.2 s0 29 s1) x0 22) x5 x3) x0 23)]) (p1 := 69) (M2 := 168) (tk (n := 5) t222_1 rfl) rfl rfl rfl rfl rfl (fun r14 => ?_)
    refine s_iast (pc1 := 70) (tk (n := 6) t222_1 rfl) rfl rfl  ?_
    exact s_ret (tk (n := 7) t222_1 rfl) rfl rfl rfl
set_option maxRecDepth 100000 in
set_option maxHeartbeats 4000000 in
theorem e_X12_isValue (x0 : Int) (h : Hq) : vm 223 [(0, x0)] h = (vm 165 [(0, x0), (0, (-1000000)), (0, 1000000)] h).bind (fun r4 => if (vx r4) = 0 ∨ (vx r4) = 1 then some (some (0, vx r4), r4.2) else none) := by
  show vp 223 0 [(0, x0)] [] h = _
  refine s_iload_n (pc1 := 1) (tk (n := 0) t223_0 rfl) rfl rfl rfl ?_
  refine s_ldcw (pc1 := 4) (tk (n := 1) t223_0 rfl) rfl rfl  ?_
  refine s_ldcw (pc1 := 7) (tk (n := 2) t223_0 rfl) rfl rfl  ?_
  refine s_callS0 (as := [(0, x0), (0, (-1000000)), (0, 1000000)]) (st1 := []) (p1 := 10) (M2 := 165) (tk (n := 3) t223_0 rfl) rfl rfl rfl rfl rfl (fun r4 => ?_)
  exact s_retG (tk (n := 4) t223_0 rfl) rfl rfl rfl
set_option maxRecDepth 100000 in
set_option maxHeartbeats 4000000 in
theorem e_X12_poke (x0 : Int) (x1 : Int) (x2 : Int) (x3 : Int) (x4 : Int) (h : Hq) : vm 224 [(2, x0), (0, x1), (0, x2), (0, x3), (0, x4)] h = if 0 < x0 ∧ (kd x0).1 = 12 then (vm 208 [(2, x0), (0, x1)] h).bind (fun r3 => if (vx r3) = 0 then (some (some (0, (-1)), r3.2)) else ((vm 165 [(0, x2), (0, 1), (0, 8)] r3.2).bind (fun r8 => if (vx r8) = 0 then (some (some (0, (-1)), r8.2)) else ((vm 223 [(0, x4)] r8.2).bind (fun r11 => if (vx r11) ≠ 0 then (if 0 < x0 ∧ (kd x0).1 = 12 then if (kd (r11.2.2 x0 16)).1 = 20 ∧ 0 ≤ x1 ∧ x1 < (kd (r11.2.2 x0 16)).2 then if (r11.2.2 (r11.2.2 x0 16) x1) ≠ 11 then (if (r11.2.2 (r11.2.2 x0 16) x1) < 8 then (if 0 < x0 ∧ (kd x0).1 = 12 then (vm 210 [(2, x0), (0, x1), (0, x3)] r11.2).bind (fun r27 => if (vx r27) ≠ 0 then ((vm 213 [(0, w32 (x2 - 1)), (0, r11.2.2 (r11.2.2 x0 16) x1)] r27.2).bind (fun r33 => if (vx r33) ≠ 0 then (if 0 < x0 ∧ (kd x0).1 = 12 then (vm 218 [(2, x0)] r33.2).bind (fun r36 => (vm 214 [(0, x4), (0, w32 (x2 - 1))] r36.2).bind (fun r44 => if 0 < x0 ∧ (kd x0).1 = 12 then (vm 221 [(2, x0), (0, x1), (0, x3), (0, vx r44)] r44.2).bind (fun r45 => if 0 < x0 ∧ (kd x0).1 = 12 then (vm 219 [(2, x0)] r45.2).bind (fun r47 => some (some (0, 0), r47.2)) else none) else none)) else none) else (some (some (0, 2), r33.2)))) else (some (some (0, 1), r27.2))) else none) else (some (some (0, 2), r11.2))) else (some (some (0, 3), r11.2)) else none else none) else (some (some (0, (-1)), r11.2))))))) else none := by
  show vp 224 0 [(2, x0), (0, x1), (0, x2), (0, x3), (0, x4), (9, 0)] [] h = _
  refine s_aload_n (pc1 := 1) (tk (n := 0) t224_0 rfl) rfl rfl rfl ?_
  refine s_iload_n (pc1 := 2) (tk (n := 1) t224_0 rfl) rfl rfl rfl ?_
  refine s_call0 (as := [(2, x0), (0, x1)]) (st1 := []) (p1 := 5) (M2 := 208) (tk (n := 2) t224_0 rfl) rfl rfl rfl rfl rfl (fun r3 => ?_)
  refine s_if_eq (pc1 := 8) (pt := 26) (tk (n := 3) t224_0 rfl) rfl rfl rfl ?_ ?_
  · refine s_iconst (pc1 := 27) (tk (n := 12) t224_0 rfl) rfl rfl  ?_
    exact s_ret (tk (n := 13) t224_0 rfl) rfl rfl rfl
  · refine s_iload_n (pc1 := 9) (tk (n := 4) t224_0 rfl) rfl rfl rfl ?_
    refine s_iconst (pc1 := 10) (tk (n := 5) t224_0 rfl) rfl rfl  ?_
    refine s_bipush (pc1 := 12) (tk (n := 6) t224_0 rfl) rfl rfl  ?_
    refine s_callS0 (as := [(0, x2), (0, 1), (0, 8)]) (st1 := []) (p1 := 15) (M2 := 165) (tk (n := 7) t224_0 rfl) rfl rfl rfl rfl rfl (fun r8 => ?_)
    refine s_if_eq (pc1 := 18) (pt := 26) (tk (n := 8) t224_0 rfl) rfl rfl rfl ?_ ?_
    · refine s_iconst (pc1 := 27) (tk (n := 12) t224_0 rfl) rfl rfl  ?_
      exact s_ret (tk (n := 13) t224_0 rfl) rfl rfl rfl
    · refine s_iload (pc1 := 20) (tk (n := 9) t224_0 rfl) rfl rfl rfl ?_
      refine s_callS0 (as := [(0, x4)]) (st1 := []) (p1 := 23) (M2 := 223) (tk (n := 10) t224_0 rfl) rfl rfl rfl rfl rfl (fun r11 => ?_)
      refine s_if_ne (pc1 := 26) (pt := 28) (tk (n := 11) t224_0 rfl) rfl rfl rfl ?_ ?_
      · refine s_aload_n (pc1 := 29) (tk (n := 14) t224_0 rfl) rfl rfl rfl ?_
        refine s_getf (pc1 := 32) (c := 12) (t1 := 2) (tk (n := 15) t224_0 rfl) rfl rfl (by decide) rfl rfl ?_
        refine s_iload_n (pc1 := 33) (tk (n := 16) t224_0 rfl) rfl rfl rfl ?_
        refine s_iald (pc1 := 34) (tk (n := 17) t224_0 rfl) rfl rfl  ?_
        refine s_istore (pc1 := 36) (ls1 := [(2, x0), (0, x1), (0, x2), (0, x3), (0, x4), (0, r11.2.2 (r11.2.2 x0 16) x1)]) (tk (n := 18) t224_0 rfl) rfl rfl rfl rfl ?_
        refine s_iload (pc1 := 38) (tk (n := 19) t224_0 rfl) rfl rfl rfl ?_
        refine s_bipush (pc1 := 40) (tk (n := 20) t224_0 rfl) rfl rfl  ?_
        refine s_ic_ne (pc1 := 43) (pt := 45) (tk (n := 21) t224_0 rfl) rfl rfl rfl ?_ ?_
        · refine s_iload (pc1 := 47) (tk (n := 24) t224_0 rfl) rfl rfl rfl ?_
          refine s_bipush (pc1 := 49) (tk (n := 25) t224_0 rfl) rfl rfl  ?_
          refine s_ic_lt (pc1 := 52) (pt := 54) (tk (n := 26) t224_0 rfl) rfl rfl rfl ?_ ?_
          · refine s_aload_n (pc1 := 55) (tk (n := 29) t224_0 rfl) rfl rfl rfl ?_
            refine s_iload_n (pc1 := 56) (tk (n := 0) t224_1 rfl) rfl rfl rfl ?_
            refine s_iload_n (pc1 := 57) (tk (n := 1) t224_1 rfl) rfl rfl rfl ?_
            refine s_call0 (as := [(2, x0), (0, x1), (0, x3)]) (st1 := []) (p1 := 60) (M2 := 210) (tk (n := 2) t224_1 rfl) rfl rfl rfl rfl rfl (fun r27 => ?_)
            refine s_if_ne (pc1 := 63) (pt := 65) (tk (n := 3) t224_1 rfl) rfl rfl rfl ?_ ?_
            · refine s_iload_n (pc1 := 66) (tk (n := 6) t224_1 rfl) rfl rfl rfl ?_
              refine s_iconst (pc1 := 67) (tk (n := 7) t224_1 rfl) rfl rfl  ?_
              refine s_isub (pc1 := 68) (tk (n := 8) t224_1 rfl) rfl rfl  ?_
              refine s_iload (pc1 := 70) (tk (n := 9) t224_1 rfl) rfl rfl rfl ?_
              refine s_callS0 (as := [(0, w32 (x2 - 1)), (0, r11.2.2 (r11.2.2 x0 16) x1)]) (st1 := []) (p1 := 73) (M2 := 213) (tk (n := 10) t224_1 rfl) rfl rfl rfl rfl rfl (fun r33 => ?_)
              refine s_if_ne (pc1 := 76) (pt := 78) (tk (n := 11) t224_1 rfl) rfl rfl rfl ?_ ?_
              · refine s_aload_n (pc1 := 79) (tk (n := 14) t224_1 rfl) rfl rfl rfl ?_
                refine s_call9 (as := [(2, x0)]) (st1 := []) (p1 := 82) (M2 := 218) (tk (n := 15) t224_1 rfl) rfl rfl rfl rfl rfl (fun r36 => ?_)
                refine s_aload_n (pc1 := 83) (tk (n := 16) t224_1 rfl) rfl rfl rfl ?_
                refine s_iload_n (pc1 := 84) (tk (n := 17) t224_1 rfl) rfl rfl rfl ?_
                refine s_iload_n (pc1 := 85) (tk (n := 18) t224_1 rfl) rfl rfl rfl ?_
                refine s_iload (pc1 := 87) (tk (n := 19) t224_1 rfl) rfl rfl rfl ?_
                refine s_iload_n (pc1 := 88) (tk (n := 20) t224_1 rfl) rfl rfl rfl ?_
                refine s_iconst (pc1 := 89) (tk (n := 21) t224_1 rfl) rfl rfl  ?_
                refine s_isub (pc1 := 90) (tk (n := 22) t224_1 rfl) rfl rfl  ?_
                refine s_callS0 (as := [(0, x4), (0, w32 (x2 - 1))]) (st1 := [(0, x3), (0, x1), (2, x0)]) (p1 := 93) (M2 := 214) (tk (n := 23) t224_1 rfl) rfl rfl rfl rfl rfl (fun r44 => ?_)
                refine s_call9 (as := [(2, x0), (0, x1), (0, x3), (0, vx r44)]) (st1 := []) (p1 := 96) (M2 := 221) (tk (n := 24) t224_1 rfl) rfl rfl rfl rfl rfl (fun r45 => ?_)
                refine s_aload_n (pc1 := 97) (tk (n := 25) t224_1 rfl) rfl rfl rfl ?_
                refine s_call9 (as := [(2, x0)]) (st1 := []) (p1 := 100) (M2 := 219) (tk (n := 26) t224_1 rfl) rfl rfl rfl rfl rfl (fun r47 => ?_)
                refine s_iconst (pc1 := 101) (tk (n := 27) t224_1 rfl) rfl rfl  ?_
                exact s_ret (tk (n := 28) t224_1 rfl) rfl rfl rfl
              · refine s_iconst (pc1 := 77) (tk (n := 12) t224_1 rfl) rfl rfl  ?_
                exact s_ret (tk (n := 13) t224_1 rfl) rfl rfl rfl
            · refine s_iconst (pc1 := 64) (tk (n := 4) t224_1 rfl) rfl rfl  ?_
              exact s_ret (tk (n := 5) t224_1 rfl) rfl rfl rfl
          · refine s_iconst (pc1 := 53) (tk (n := 27) t224_0 rfl) rfl rfl  ?_
            exact s_ret (tk (n := 28) t224_0 rfl) rfl rfl rfl
        · refine s_iconst (pc1 := 44) (tk (n := 22) t224_0 rfl) rfl rfl  ?_
          exact s_ret (tk (n := 23) t224_0 rfl) rfl rfl rfl
      · refine s_iconst (pc1 := 27) (tk (n := 12) t224_0 rfl) rfl rfl  ?_
        exact s_ret (tk (n := 13) t224_0 rfl) rfl rfl rfl
set_option maxRecDepth 100000 in
set_option maxHeartbeats 4000000 in
theorem e_X12_refusedBy (x0 : Int) (x1 : Int) (h : Hq) : vm 225 [(0, x0), (0, x1)] h = (vm 212 [(0, x0)] h).bind (fun r2 => if (vx r2) = 0 then (if x1 = 0 then (some (some (0, 0), r2.2)) else (if x0 ≠ 8 then (if x1 ≠ 10 then (some (some (0, 2), r2.2)) else (some (some (0, 0), r2.2))) else (if x1 ≠ 9 then (some (some (0, 2), r2.2)) else (some (some (0, 0), r2.2))))) else ((vm 165 [(0, x1), (0, 1), (0, 8)] r2.2).bind (fun r7 => if (vx r7) = 0 then (some (some (0, 2), r7.2)) else ((vm 213 [(0, w32 (x1 - 1)), (0, x0)] r7.2).bind (fun r13 => if (vx r13) = 0 then (some (some (0, 2), r13.2)) else (some (some (0, 0), r13.2))))))) := by
  show vp 225 0 [(0, x0), (0, x1)] [] h = _
  refine s_iload_n (pc1 := 1) (tk (n := 0) t225_0 rfl) rfl rfl rfl ?_
  refine s_callS0 (as := [(0, x0)]) (st1 := []) (p1 := 4) (M2 := 212) (tk (n := 1) t225_0 rfl) rfl rfl rfl rfl rfl (fun r2 => ?_)
  refine s_if_eq (pc1 := 7) (pt := 33) (tk (n := 2) t225_0 rfl) rfl rfl rfl ?_ ?_
  · refine s_iload_n (pc1 := 34) (tk (n := 18) t225_0 rfl) rfl rfl rfl ?_
    refine s_if_eq (pc1 := 37) (pt := 54) (tk (n := 19) t225_0 rfl) rfl rfl rfl ?_ ?_
    · refine s_iconst (pc1 := 55) (tk (n := 28) t225_0 rfl) rfl rfl  ?_
      refine s_goto (pc1 := 59) (tk (n := 29) t225_0 rfl) rfl rfl ?_
      exact s_ret (tk (n := 1) t225_1 rfl) rfl rfl rfl
    · refine s_iload_n (pc1 := 38) (tk (n := 20) t225_0 rfl) rfl rfl rfl ?_
      refine s_iload_n (pc1 := 39) (tk (n := 21) t225_0 rfl) rfl rfl rfl ?_
      refine s_bipush (pc1 := 41) (tk (n := 22) t225_0 rfl) rfl rfl  ?_
      refine s_ic_ne (pc1 := 44) (pt := 49) (tk (n := 23) t225_0 rfl) rfl rfl rfl ?_ ?_
      · refine s_bipush (pc1 := 51) (tk (n := 26) t225_0 rfl) rfl rfl  ?_
        refine s_ic_ne (pc1 := 54) (pt := 58) (tk (n := 27) t225_0 rfl) rfl rfl rfl ?_ ?_
        · refine s_iconst (pc1 := 59) (tk (n := 0) t225_1 rfl) rfl rfl  ?_
          exact s_ret (tk (n := 1) t225_1 rfl) rfl rfl rfl
        · refine s_iconst (pc1 := 55) (tk (n := 28) t225_0 rfl) rfl rfl  ?_
          refine s_goto (pc1 := 59) (tk (n := 29) t225_0 rfl) rfl rfl ?_
          exact s_ret (tk (n := 1) t225_1 rfl) rfl rfl rfl
      · refine s_bipush (pc1 := 46) (tk (n := 24) t225_0 rfl) rfl rfl  ?_
        refine s_goto (pc1 := 51) (tk (n := 25) t225_0 rfl) rfl rfl ?_
        refine s_ic_ne (pc1 := 54) (pt := 58) (tk (n := 27) t225_0 rfl) rfl rfl rfl ?_ ?_
        · refine s_iconst (pc1 := 59) (tk (n := 0) t225_1 rfl) rfl rfl  ?_
          exact s_ret (tk (n := 1) t225_1 rfl) rfl rfl rfl
        · refine s_iconst (pc1 := 55) (tk (n := 28) t225_0 rfl) rfl rfl  ?_
          refine s_goto (pc1 := 59) (tk (n := 29) t225_0 rfl) rfl rfl ?_
          exact s_ret (tk (n := 1) t225_1 rfl) rfl rfl rfl
  · refine s_iload_n (pc1 := 8) (tk (n := 3) t225_0 rfl) rfl rfl rfl ?_
    refine s_iconst (pc1 := 9) (tk (n := 4) t225_0 rfl) rfl rfl  ?_
    refine s_bipush (pc1 := 11) (tk (n := 5) t225_0 rfl) rfl rfl  ?_
    refine s_callS0 (as := [(0, x1), (0, 1), (0, 8)]) (st1 := []) (p1 := 14) (M2 := 165) (tk (n := 6) t225_0 rfl) rfl rfl rfl rfl rfl (fun r7 => ?_)
    refine s_if_eq (pc1 := 17) (pt := 31) (tk (n := 7) t225_0 rfl) rfl rfl rfl ?_ ?_
    · refine s_iconst (pc1 := 32) (tk (n := 16) t225_0 rfl) rfl rfl  ?_
      exact s_ret (tk (n := 17) t225_0 rfl) rfl rfl rfl
    · refine s_iload_n (pc1 := 18) (tk (n := 8) t225_0 rfl) rfl rfl rfl ?_
      refine s_iconst (pc1 := 19) (tk (n := 9) t225_0 rfl) rfl rfl  ?_
      refine s_isub (pc1 := 20) (tk (n := 10) t225_0 rfl) rfl rfl  ?_
      refine s_iload_n (pc1 := 21) (tk (n := 11) t225_0 rfl) rfl rfl rfl ?_
      refine s_callS0 (as := [(0, w32 (x1 - 1)), (0, x0)]) (st1 := []) (p1 := 24) (M2 := 213) (tk (n := 12) t225_0 rfl) rfl rfl rfl rfl rfl (fun r13 => ?_)
      refine s_if_eq (pc1 := 27) (pt := 31) (tk (n := 13) t225_0 rfl) rfl rfl rfl ?_ ?_
      · refine s_iconst (pc1 := 32) (tk (n := 16) t225_0 rfl) rfl rfl  ?_
        exact s_ret (tk (n := 17) t225_0 rfl) rfl rfl rfl
      · refine s_iconst (pc1 := 28) (tk (n := 14) t225_0 rfl) rfl rfl  ?_
        refine s_goto (pc1 := 32) (tk (n := 15) t225_0 rfl) rfl rfl ?_
        exact s_ret (tk (n := 17) t225_0 rfl) rfl rfl rfl
set_option maxRecDepth 100000 in
set_option maxHeartbeats 4000000 in
theorem e_X12_boxes (x0 : Int) (x1 : Int) (x2 : Int) (x3 : Int) (x4 : Int) (h : Hq) : vm 226 [(2, x0), (0, x1), (0, x2), (0, x3), (0, x4)] h = if x3 = 0 then (if x3 ≤ 0 then (if 0 < x0 ∧ (kd x0).1 = 12 then (vm 222 [(2, x0), (0, x1), (0, x2), (0, x4), (0, 0)] h).bind (fun r10 => some (none, r10.2)) else none) else (if 0 < x0 ∧ (kd x0).1 = 12 then (vm 222 [(2, x0), (0, x1), (0, x2), (0, x4), (0, 1)] h).bind (fun r11 => some (none, r11.2)) else none)) else (if x3 ≤ 8 then ((vm 214 [(0, x4), (0, w32 (x3 - 1))] h).bind (fun r13 => if 0 < x0 ∧ (kd x0).1 = 12 then (vm 221 [(2, x0), (0, x1), (0, x2), (0, vx r13)] r13.2).bind (fun r14 => some (none, r14.2)) else none)) else (if x3 ≤ 0 then (if 0 < x0 ∧ (kd x0).1 = 12 then (vm 222 [(2, x0), (0, x1), (0, x2), (0, x4), (0, 0)] h).bind (fun r13 => some (none, r13.2)) else none) else (if 0 < x0 ∧ (kd x0).1 = 12 then (vm 222 [(2, x0), (0, x1), (0, x2), (0, x4), (0, 1)] h).bind (fun r14 => some (none, r14.2)) else none))) := by
  show vp 226 0 [(2, x0), (0, x1), (0, x2), (0, x3), (0, x4)] [] h = _
  refine s_iload_n (pc1 := 1) (tk (n := 0) t226_0 rfl) rfl rfl rfl ?_
  refine s_if_eq (pc1 := 4) (pt := 10) (tk (n := 1) t226_0 rfl) rfl rfl rfl ?_ ?_
  · refine s_aload_n (pc1 := 11) (tk (n := 5) t226_0 rfl) rfl rfl rfl ?_
    refine s_iload_n (pc1 := 12) (tk (n := 6) t226_0 rfl) rfl rfl rfl ?_
    refine s_iload_n (pc1 := 13) (tk (n := 7) t226_0 rfl) rfl rfl rfl ?_
    refine s_iload (pc1 := 15) (tk (n := 8) t226_0 rfl) rfl rfl rfl ?_
    refine s_iload_n (pc1 := 16) (tk (n := 9) t226_0 rfl) rfl rfl rfl ?_
    refine s_if_le (pc1 := 19) (pt := 23) (tk (n := 10) t226_0 rfl) rfl rfl rfl ?_ ?_
    · refine s_iconst (pc1 := 24) (tk (n := 13) t226_0 rfl) rfl rfl  ?_
      refine s_call9 (as := [(2, x0), (0, x1), (0, x2), (0, x4), (0, 0)]) (st1 := []) (p1 := 27) (M2 := 222) (tk (n := 14) t226_0 rfl) rfl rfl rfl rfl rfl (fun r10 => ?_)
      refine s_goto (pc1 := 44) (tk (n := 15) t226_0 rfl) rfl rfl ?_
      exact s_ret (tk (n := 25) t226_0 rfl) rfl rfl rfl
    · refine s_iconst (pc1 := 20) (tk (n := 11) t226_0 rfl) rfl rfl  ?_
      refine s_goto (pc1 := 24) (tk (n := 12) t226_0 rfl) rfl rfl ?_
      refine s_call9 (as := [(2, x0), (0, x1), (0, x2), (0, x4), (0, 1)]) (st1 := []) (p1 := 27) (M2 := 222) (tk (n := 14) t226_0 rfl) rfl rfl rfl rfl rfl (fun r11 => ?_)
      refine s_goto (pc1 := 44) (tk (n := 15) t226_0 rfl) rfl rfl ?_
      exact s_ret (tk (n := 25) t226_0 rfl) rfl rfl rfl
  · refine s_iload_n (pc1 := 5) (tk (n := 2) t226_0 rfl) rfl rfl rfl ?_
    refine s_bipush (pc1 := 7) (tk (n := 3) t226_0 rfl) rfl rfl  ?_
    refine s_ic_le (pc1 := 10) (pt := 30) (tk (n := 4) t226_0 rfl) rfl rfl rfl ?_ ?_
    · refine s_aload_n (pc1 := 31) (tk (n := 16) t226_0 rfl) rfl rfl rfl ?_
      refine s_iload_n (pc1 := 32) (tk (n := 17) t226_0 rfl) rfl rfl rfl ?_
      refine s_iload_n (pc1 := 33) (tk (n := 18) t226_0 rfl) rfl rfl rfl ?_
      refine s_iload (pc1 := 35) (tk (n := 19) t226_0 rfl) rfl rfl rfl ?_
      refine s_iload_n (pc1 := 36) (tk (n := 20) t226_0 rfl) rfl rfl rfl ?_
      refine s_iconst (pc1 := 37) (tk (n := 21) t226_0 rfl) rfl rfl  ?_
      refine s_isub (pc1 := 38) (tk (n := 22) t226_0 rfl) rfl rfl  ?_
      refine s_callS0 (as := [(0, x4), (0, w32 (x3 - 1))]) (st1 := [(0, x2), (0, x1), (2, x0)]) (p1 := 41) (M2 := 214) (tk (n := 23) t226_0 rfl) rfl rfl rfl rfl rfl (fun r13 => ?_)
      refine s_call9 (as := [(2, x0), (0, x1), (0, x2), (0, vx r13)]) (st1 := []) (p1 := 44) (M2 := 221) (tk (n := 24) t226_0 rfl) rfl rfl rfl rfl rfl (fun r14 => ?_)
      exact s_ret (tk (n := 25) t226_0 rfl) rfl rfl rfl
    · refine s_aload_n (pc1 := 11) (tk (n := 5) t226_0 rfl) rfl rfl rfl ?_
      refine s_iload_n (pc1 := 12) (tk (n := 6) t226_0 rfl) rfl rfl rfl ?_
      refine s_iload_n (pc1 := 13) (tk (n := 7) t226_0 rfl) rfl rfl rfl ?_
      refine s_iload (pc1 := 15) (tk (n := 8) t226_0 rfl) rfl rfl rfl ?_
      refine s_iload_n (pc1 := 16) (tk (n := 9) t226_0 rfl) rfl rfl rfl ?_
      refine s_if_le (pc1 := 19) (pt := 23) (tk (n := 10) t226_0 rfl) rfl rfl rfl ?_ ?_
      · refine s_iconst (pc1 := 24) (tk (n := 13) t226_0 rfl) rfl rfl  ?_
        refine s_call9 (as := [(2, x0), (0, x1), (0, x2), (0, x4), (0, 0)]) (st1 := []) (p1 := 27) (M2 := 222) (tk (n := 14) t226_0 rfl) rfl rfl rfl rfl rfl (fun r13 => ?_)
        refine s_goto (pc1 := 44) (tk (n := 15) t226_0 rfl) rfl rfl ?_
        exact s_ret (tk (n := 25) t226_0 rfl) rfl rfl rfl
      · refine s_iconst (pc1 := 20) (tk (n := 11) t226_0 rfl) rfl rfl  ?_
        refine s_goto (pc1 := 24) (tk (n := 12) t226_0 rfl) rfl rfl ?_
        refine s_call9 (as := [(2, x0), (0, x1), (0, x2), (0, x4), (0, 1)]) (st1 := []) (p1 := 27) (M2 := 222) (tk (n := 14) t226_0 rfl) rfl rfl rfl rfl rfl (fun r14 => ?_)
        refine s_goto (pc1 := 44) (tk (n := 15) t226_0 rfl) rfl rfl ?_
        exact s_ret (tk (n := 25) t226_0 rfl) rfl rfl rfl
set_option maxRecDepth 100000 in
set_option maxHeartbeats 4000000 in
theorem e_X12_put (x0 : Int) (x1 : Int) (x2 : Int) (x3 : Int) (x4 : Int) (h : Hq) : vm 227 [(2, x0), (0, x1), (0, x2), (0, x3), (0, x4)] h = if 0 < x0 ∧ (kd x0).1 = 12 then (vm 208 [(2, x0), (0, x1)] h).bind (fun r3 => if (vx r3) = 0 then (some (some (0, (-1)), r3.2)) else ((vm 165 [(0, x3), (0, 0), (0, 10)] r3.2).bind (fun r8 => if (vx r8) = 0 then (some (some (0, (-1)), r8.2)) else (if x3 ≠ 10 then ((vm 165 [(0, x3), (0, 1), (0, 9)] r8.2).bind (fun r16 => if (vx r16) = 0 then (vp 227 55 [(2, x0), (0, x1), (0, x2), (0, x3), (0, x4), (9, 0)] [] r16.2) else ((vm 223 [(0, x4)] r16.2).bind (fun r19 => if (vx r19) ≠ 0 then (vp 227 55 [(2, x0), (0, x1), (0, x2), (0, x3), (0, x4), (9, 0)] [] r19.2) else (some (some (0, (-1)), r19.2)))))) else ((vm 165 [(0, x4), (0, 0), (0, 6)] r8.2).bind (fun r16 => if (vx r16) = 0 then (some (some (0, (-1)), r16.2)) else ((vm 165 [(0, x3), (0, 1), (0, 9)] r16.2).bind (fun r21 => if (vx r21) = 0 then (vp 227 55 [(2, x0), (0, x1), (0, x2), (0, x3), (0, x4), (9, 0)] [] r21.2) else ((vm 223 [(0, x4)] r21.2).bind (fun r24 => if (vx r24) ≠ 0 then (vp 227 55 [(2, x0), (0, x1), (0, x2), (0, x3), (0, x4), (9, 0)] [] r24.2) else (some (some (0, (-1)), r24.2)))))))))))) else none := by
  show vp 227 0 [(2, x0), (0, x1), (0, x2), (0, x3), (0, x4), (9, 0)] [] h = _
  refine s_aload_n (pc1 := 1) (tk (n := 0) t227_0 rfl) rfl rfl rfl ?_
  refine s_iload_n (pc1 := 2) (tk (n := 1) t227_0 rfl) rfl rfl rfl ?_
  refine s_call0 (as := [(2, x0), (0, x1)]) (st1 := []) (p1 := 5) (M2 := 208) (tk (n := 2) t227_0 rfl) rfl rfl rfl rfl rfl (fun r3 => ?_)
  refine s_if_eq (pc1 := 8) (pt := 53) (tk (n := 3) t227_0 rfl) rfl rfl rfl ?_ ?_
  · refine s_iconst (pc1 := 54) (tk (n := 25) t227_0 rfl) rfl rfl  ?_
    exact s_ret (tk (n := 26) t227_0 rfl) rfl rfl rfl
  · refine s_iload_n (pc1 := 9) (tk (n := 4) t227_0 rfl) rfl rfl rfl ?_
    refine s_iconst (pc1 := 10) (tk (n := 5) t227_0 rfl) rfl rfl  ?_
    refine s_bipush (pc1 := 12) (tk (n := 6) t227_0 rfl) rfl rfl  ?_
    refine s_callS0 (as := [(0, x3), (0, 0), (0, 10)]) (st1 := []) (p1 := 15) (M2 := 165) (tk (n := 7) t227_0 rfl) rfl rfl rfl rfl rfl (fun r8 => ?_)
    refine s_if_eq (pc1 := 18) (pt := 53) (tk (n := 8) t227_0 rfl) rfl rfl rfl ?_ ?_
    · refine s_iconst (pc1 := 54) (tk (n := 25) t227_0 rfl) rfl rfl  ?_
      exact s_ret (tk (n := 26) t227_0 rfl) rfl rfl rfl
    · refine s_iload_n (pc1 := 19) (tk (n := 9) t227_0 rfl) rfl rfl rfl ?_
      refine s_bipush (pc1 := 21) (tk (n := 10) t227_0 rfl) rfl rfl  ?_
      refine s_ic_ne (pc1 := 24) (pt := 35) (tk (n := 11) t227_0 rfl) rfl rfl rfl ?_ ?_
      · refine s_iload_n (pc1 := 36) (tk (n := 17) t227_0 rfl) rfl rfl rfl ?_
        refine s_iconst (pc1 := 37) (tk (n := 18) t227_0 rfl) rfl rfl  ?_
        refine s_bipush (pc1 := 39) (tk (n := 19) t227_0 rfl) rfl rfl  ?_
        refine s_callS0 (as := [(0, x3), (0, 1), (0, 9)]) (st1 := []) (p1 := 42) (M2 := 165) (tk (n := 20) t227_0 rfl) rfl rfl rfl rfl rfl (fun r16 => ?_)
        refine s_if_eq (pc1 := 45) (pt := 55) (tk (n := 21) t227_0 rfl) rfl rfl rfl ?_ ?_
        · rfl
        · refine s_iload (pc1 := 47) (tk (n := 22) t227_0 rfl) rfl rfl rfl ?_
          refine s_callS0 (as := [(0, x4)]) (st1 := []) (p1 := 50) (M2 := 223) (tk (n := 23) t227_0 rfl) rfl rfl rfl rfl rfl (fun r19 => ?_)
          refine s_if_ne (pc1 := 53) (pt := 55) (tk (n := 24) t227_0 rfl) rfl rfl rfl ?_ ?_
          · rfl
          · refine s_iconst (pc1 := 54) (tk (n := 25) t227_0 rfl) rfl rfl  ?_
            exact s_ret (tk (n := 26) t227_0 rfl) rfl rfl rfl
      · refine s_iload (pc1 := 26) (tk (n := 12) t227_0 rfl) rfl rfl rfl ?_
        refine s_iconst (pc1 := 27) (tk (n := 13) t227_0 rfl) rfl rfl  ?_
        refine s_bipush (pc1 := 29) (tk (n := 14) t227_0 rfl) rfl rfl  ?_
        refine s_callS0 (as := [(0, x4), (0, 0), (0, 6)]) (st1 := []) (p1 := 32) (M2 := 165) (tk (n := 15) t227_0 rfl) rfl rfl rfl rfl rfl (fun r16 => ?_)
        refine s_if_eq (pc1 := 35) (pt := 53) (tk (n := 16) t227_0 rfl) rfl rfl rfl ?_ ?_
        · refine s_iconst (pc1 := 54) (tk (n := 25) t227_0 rfl) rfl rfl  ?_
          exact s_ret (tk (n := 26) t227_0 rfl) rfl rfl rfl
        · refine s_iload_n (pc1 := 36) (tk (n := 17) t227_0 rfl) rfl rfl rfl ?_
          refine s_iconst (pc1 := 37) (tk (n := 18) t227_0 rfl) rfl rfl  ?_
          refine s_bipush (pc1 := 39) (tk (n := 19) t227_0 rfl) rfl rfl  ?_
          refine s_callS0 (as := [(0, x3), (0, 1), (0, 9)]) (st1 := []) (p1 := 42) (M2 := 165) (tk (n := 20) t227_0 rfl) rfl rfl rfl rfl rfl (fun r21 => ?_)
          refine s_if_eq (pc1 := 45) (pt := 55) (tk (n := 21) t227_0 rfl) rfl rfl rfl ?_ ?_
          · rfl
          · refine s_iload (pc1 := 47) (tk (n := 22) t227_0 rfl) rfl rfl rfl ?_
            refine s_callS0 (as := [(0, x4)]) (st1 := []) (p1 := 50) (M2 := 223) (tk (n := 23) t227_0 rfl) rfl rfl rfl rfl rfl (fun r24 => ?_)
            refine s_if_ne (pc1 := 53) (pt := 55) (tk (n := 24) t227_0 rfl) rfl rfl rfl ?_ ?_
            · rfl
            · refine s_iconst (pc1 := 54) (tk (n := 25) t227_0 rfl) rfl rfl  ?_
              exact s_ret (tk (n := 26) t227_0 rfl) rfl rfl rfl
set_option maxRecDepth 100000 in
set_option maxHeartbeats 4000000 in
theorem e_X12_put_55 (x0 : Int) (x1 : Int) (x2 : Int) (x3 : Int) (x4 : Int) (z5 : Vl) (h : Hq) : vp 227 55 [(2, x0), (0, x1), (0, x2), (0, x3), (0, x4), z5] [] h = if 0 < x0 ∧ (kd x0).1 = 12 then if (kd (h.2 x0 16)).1 = 20 ∧ 0 ≤ x1 ∧ x1 < (kd (h.2 x0 16)).2 then if (h.2 (h.2 x0 16) x1) ≠ 11 then (if (h.2 (h.2 x0 16) x1) = 10 then (some (some (0, 2), h)) else ((vm 212 [(0, h.2 (h.2 x0 16) x1)] h).bind (fun r13 => if (vx r13) = 0 then (if 0 < x0 ∧ (kd x0).1 = 12 then (vm 210 [(2, x0), (0, x1), (0, x2)] r13.2).bind (fun r18 => if (vx r18) ≠ 0 then ((vm 225 [(0, h.2 (h.2 x0 16) x1), (0, x3)] r18.2).bind (fun r22 => if (vx r22) = 0 then (if 0 < x0 ∧ (kd x0).1 = 12 then (vm 218 [(2, x0)] r22.2).bind (fun r25 => if 0 < x0 ∧ (kd x0).1 = 12 then (vm 226 [(2, x0), (0, x1), (0, x2), (0, x3), (0, x4)] r25.2).bind (fun r31 => if 0 < x0 ∧ (kd x0).1 = 12 then (vm 219 [(2, x0)] r31.2).bind (fun r33 => some (some (0, 0), r33.2)) else none) else none) else none) else (some (some (0, 2), r22.2)))) else (some (some (0, 1), r18.2))) else none) else (if x3 ≠ 0 then (if 0 < x0 ∧ (kd x0).1 = 12 then (vm 210 [(2, x0), (0, x1), (0, x2)] r13.2).bind (fun r20 => if (vx r20) ≠ 0 then ((vm 225 [(0, h.2 (h.2 x0 16) x1), (0, x3)] r20.2).bind (fun r24 => if (vx r24) = 0 then (if 0 < x0 ∧ (kd x0).1 = 12 then (vm 218 [(2, x0)] r24.2).bind (fun r27 => if 0 < x0 ∧ (kd x0).1 = 12 then (vm 226 [(2, x0), (0, x1), (0, x2), (0, x3), (0, x4)] r27.2).bind (fun r33 => if 0 < x0 ∧ (kd x0).1 = 12 then (vm 219 [(2, x0)] r33.2).bind (fun r35 => some (some (0, 0), r35.2)) else none) else none) else none) else (some (some (0, 2), r24.2)))) else (some (some (0, 1), r20.2))) else none) else (some (some (0, 2), r13.2)))))) else (some (some (0, 3), h)) else none else none := by
  refine s_fg (ls1 := [(2, x0), (0, x1), (0, x2), (0, x3), (0, x4), (9, 0)]) (tk (n := 27) t227_0 rfl) rfl ?_
  refine s_aload_n (pc1 := 56) (tk (n := 27) t227_0 rfl) rfl rfl rfl ?_
  refine s_getf (pc1 := 59) (c := 12) (t1 := 2) (tk (n := 28) t227_0 rfl) rfl rfl (by decide) rfl rfl ?_
  refine s_iload_n (pc1 := 60) (tk (n := 29) t227_0 rfl) rfl rfl rfl ?_
  refine s_iald (pc1 := 61) (tk (n := 0) t227_1 rfl) rfl rfl  ?_
  refine s_istore (pc1 := 63) (ls1 := [(2, x0), (0, x1), (0, x2), (0, x3), (0, x4), (0, h.2 (h.2 x0 16) x1)]) (tk (n := 1) t227_1 rfl) rfl rfl rfl rfl ?_
  refine s_iload (pc1 := 65) (tk (n := 2) t227_1 rfl) rfl rfl rfl ?_
  refine s_bipush (pc1 := 67) (tk (n := 3) t227_1 rfl) rfl rfl  ?_
  refine s_ic_ne (pc1 := 70) (pt := 72) (tk (n := 4) t227_1 rfl) rfl rfl rfl ?_ ?_
  · refine s_iload (pc1 := 74) (tk (n := 7) t227_1 rfl) rfl rfl rfl ?_
    refine s_bipush (pc1 := 76) (tk (n := 8) t227_1 rfl) rfl rfl  ?_
    refine s_ic_eq (pc1 := 79) (pt := 91) (tk (n := 9) t227_1 rfl) rfl rfl rfl ?_ ?_
    · refine s_iconst (pc1 := 92) (tk (n := 15) t227_1 rfl) rfl rfl  ?_
      exact s_ret (tk (n := 16) t227_1 rfl) rfl rfl rfl
    · refine s_iload (pc1 := 81) (tk (n := 10) t227_1 rfl) rfl rfl rfl ?_
      refine s_callS0 (as := [(0, h.2 (h.2 x0 16) x1)]) (st1 := []) (p1 := 84) (M2 := 212) (tk (n := 11) t227_1 rfl) rfl rfl rfl rfl rfl (fun r13 => ?_)
      refine s_if_eq (pc1 := 87) (pt := 93) (tk (n := 12) t227_1 rfl) rfl rfl rfl ?_ ?_
      · refine s_aload_n (pc1 := 94) (tk (n := 17) t227_1 rfl) rfl rfl rfl ?_
        refine s_iload_n (pc1 := 95) (tk (n := 18) t227_1 rfl) rfl rfl rfl ?_
        refine s_iload_n (pc1 := 96) (tk (n := 19) t227_1 rfl) rfl rfl rfl ?_
        refine s_call0 (as := [(2, x0), (0, x1), (0, x2)]) (st1 := []) (p1 := 99) (M2 := 210) (tk (n := 20) t227_1 rfl) rfl rfl rfl rfl rfl (fun r18 => ?_)
        refine s_if_ne (pc1 := 102) (pt := 104) (tk (n := 21) t227_1 rfl) rfl rfl rfl ?_ ?_
        · refine s_iload (pc1 := 106) (tk (n := 24) t227_1 rfl) rfl rfl rfl ?_
          refine s_iload_n (pc1 := 107) (tk (n := 25) t227_1 rfl) rfl rfl rfl ?_
          refine s_callS0 (as := [(0, h.2 (h.2 x0 16) x1), (0, x3)]) (st1 := []) (p1 := 110) (M2 := 225) (tk (n := 26) t227_1 rfl) rfl rfl rfl rfl rfl (fun r22 => ?_)
          refine s_if_eq (pc1 := 113) (pt := 115) (tk (n := 27) t227_1 rfl) rfl rfl rfl ?_ ?_
          · refine s_aload_n (pc1 := 116) (tk (n := 0) t227_2 rfl) rfl rfl rfl ?_
            refine s_call9 (as := [(2, x0)]) (st1 := []) (p1 := 119) (M2 := 218) (tk (n := 1) t227_2 rfl) rfl rfl rfl rfl rfl (fun r25 => ?_)
            refine s_aload_n (pc1 := 120) (tk (n := 2) t227_2 rfl) rfl rfl rfl ?_
            refine s_iload_n (pc1 := 121) (tk (n := 3) t227_2 rfl) rfl rfl rfl ?_
            refine s_iload_n (pc1 := 122) (tk (n := 4) t227_2 rfl) rfl rfl rfl ?_
            refine s_iload_n (pc1 := 123) (tk (n := 5) t227_2 rfl) rfl rfl rfl ?_
            refine s_iload (pc1 := 125) (tk (n := 6) t227_2 rfl) rfl rfl rfl ?_
            refine s_call9 (as := [(2, x0), (0, x1), (0, x2), (0, x3), (0, x4)]) (st1 := []) (p1 := 128) (M2 := 226) (tk (n := 7) t227_2 rfl) rfl rfl rfl rfl rfl (fun r31 => ?_)
            refine s_aload_n (pc1 := 129) (tk (n := 8) t227_2 rfl) rfl rfl rfl ?_
            refine s_call9 (as := [(2, x0)]) (st1 := []) (p1 := 132) (M2 := 219) (tk (n := 9) t227_2 rfl) rfl rfl rfl rfl rfl (fun r33 => ?_)
            refine s_iconst (pc1 := 133) (tk (n := 10) t227_2 rfl) rfl rfl  ?_
            exact s_ret (tk (n := 11) t227_2 rfl) rfl rfl rfl
          · refine s_iconst (pc1 := 114) (tk (n := 28) t227_1 rfl) rfl rfl  ?_
            exact s_ret (tk (n := 29) t227_1 rfl) rfl rfl rfl
        · refine s_iconst (pc1 := 103) (tk (n := 22) t227_1 rfl) rfl rfl  ?_
          exact s_ret (tk (n := 23) t227_1 rfl) rfl rfl rfl
      · refine s_iload_n (pc1 := 88) (tk (n := 13) t227_1 rfl) rfl rfl rfl ?_
        refine s_if_ne (pc1 := 91) (pt := 93) (tk (n := 14) t227_1 rfl) rfl rfl rfl ?_ ?_
        · refine s_aload_n (pc1 := 94) (tk (n := 17) t227_1 rfl) rfl rfl rfl ?_
          refine s_iload_n (pc1 := 95) (tk (n := 18) t227_1 rfl) rfl rfl rfl ?_
          refine s_iload_n (pc1 := 96) (tk (n := 19) t227_1 rfl) rfl rfl rfl ?_
          refine s_call0 (as := [(2, x0), (0, x1), (0, x2)]) (st1 := []) (p1 := 99) (M2 := 210) (tk (n := 20) t227_1 rfl) rfl rfl rfl rfl rfl (fun r20 => ?_)
          refine s_if_ne (pc1 := 102) (pt := 104) (tk (n := 21) t227_1 rfl) rfl rfl rfl ?_ ?_
          · refine s_iload (pc1 := 106) (tk (n := 24) t227_1 rfl) rfl rfl rfl ?_
            refine s_iload_n (pc1 := 107) (tk (n := 25) t227_1 rfl) rfl rfl rfl ?_
            refine s_callS0 (as := [(0, h.2 (h.2 x0 16) x1), (0, x3)]) (st1 := []) (p1 := 110) (M2 := 225) (tk (n := 26) t227_1 rfl) rfl rfl rfl rfl rfl (fun r24 => ?_)
            refine s_if_eq (pc1 := 113) (pt := 115) (tk (n := 27) t227_1 rfl) rfl rfl rfl ?_ ?_
            · refine s_aload_n (pc1 := 116) (tk (n := 0) t227_2 rfl) rfl rfl rfl ?_
              refine s_call9 (as := [(2, x0)]) (st1 := []) (p1 := 119) (M2 := 218) (tk (n := 1) t227_2 rfl) rfl rfl rfl rfl rfl (fun r27 => ?_)
              refine s_aload_n (pc1 := 120) (tk (n := 2) t227_2 rfl) rfl rfl rfl ?_
              refine s_iload_n (pc1 := 121) (tk (n := 3) t227_2 rfl) rfl rfl rfl ?_
              refine s_iload_n (pc1 := 122) (tk (n := 4) t227_2 rfl) rfl rfl rfl ?_
              refine s_iload_n (pc1 := 123) (tk (n := 5) t227_2 rfl) rfl rfl rfl ?_
              refine s_iload (pc1 := 125) (tk (n := 6) t227_2 rfl) rfl rfl rfl ?_
              refine s_call9 (as := [(2, x0), (0, x1), (0, x2), (0, x3), (0, x4)]) (st1 := []) (p1 := 128) (M2 := 226) (tk (n := 7) t227_2 rfl) rfl rfl rfl rfl rfl (fun r33 => ?_)
              refine s_aload_n (pc1 := 129) (tk (n := 8) t227_2 rfl) rfl rfl rfl ?_
              refine s_call9 (as := [(2, x0)]) (st1 := []) (p1 := 132) (M2 := 219) (tk (n := 9) t227_2 rfl) rfl rfl rfl rfl rfl (fun r35 => ?_)
              refine s_iconst (pc1 := 133) (tk (n := 10) t227_2 rfl) rfl rfl  ?_
              exact s_ret (tk (n := 11) t227_2 rfl) rfl rfl rfl
            · refine s_iconst (pc1 := 114) (tk (n := 28) t227_1 rfl) rfl rfl  ?_
              exact s_ret (tk (n := 29) t227_1 rfl) rfl rfl rfl
          · refine s_iconst (pc1 := 103) (tk (n := 22) t227_1 rfl) rfl rfl  ?_
            exact s_ret (tk (n := 23) t227_1 rfl) rfl rfl rfl
        · refine s_iconst (pc1 := 92) (tk (n := 15) t227_1 rfl) rfl rfl  ?_
          exact s_ret (tk (n := 16) t227_1 rfl) rfl rfl rfl
  · refine s_iconst (pc1 := 71) (tk (n := 5) t227_1 rfl) rfl rfl  ?_
    exact s_ret (tk (n := 6) t227_1 rfl) rfl rfl rfl
set_option maxRecDepth 100000 in
set_option maxHeartbeats 4000000 in
theorem e_X12_boxOf (x0 : Int) (x1 : Int) (x2 : Int) (h : Hq) : vm 228 [(2, x0), (0, x1), (0, x2)] h = if 0 < x0 ∧ (kd x0).1 = 12 then if (kd (h.2 x0 16)).1 = 20 ∧ 0 ≤ x1 ∧ x1 < (kd (h.2 x0 16)).2 then (vm 212 [(0, h.2 (h.2 x0 16) x1)] h).bind (fun r5 => if (vx r5) = 0 then (if 0 < x0 ∧ (kd x0).1 = 12 then if (kd (r5.2.2 x0 23)).1 = 20 ∧ 0 ≤ (w32 ((w32 (400 * x1)) + x2)) ∧ (w32 ((w32 (400 * x1)) + x2)) < (kd (r5.2.2 x0 23)).2 then if (r5.2.2 (r5.2.2 x0 23) (w32 ((w32 (400 * x1)) + x2))) ≠ 0 then (if 0 < x0 ∧ (kd x0).1 = 12 then if (kd (r5.2.2 x0 16)).1 = 20 ∧ 0 ≤ x1 ∧ x1 < (kd (r5.2.2 x0 16)).2 then some (some (0, w32 ((r5.2.2 (r5.2.2 x0 16) x1) + 1)), r5.2) else none else none) else (some (some (0, 0), r5.2)) else none else none) else (if 0 < x0 ∧ (kd x0).1 = 12 then if (kd (r5.2.2 x0 16)).1 = 20 ∧ 0 ≤ x1 ∧ x1 < (kd (r5.2.2 x0 16)).2 then some (some (0, w32 ((r5.2.2 (r5.2.2 x0 16) x1) + 1)), r5.2) else none else none)) else none else none := by
  show vp 228 0 [(2, x0), (0, x1), (0, x2)] [] h = _
  refine s_aload_n (pc1 := 1) (tk (n := 0) t228_0 rfl) rfl rfl rfl ?_
  refine s_getf (pc1 := 4) (c := 12) (t1 := 2) (tk (n := 1) t228_0 rfl) rfl rfl (by decide) rfl rfl ?_
  refine s_iload_n (pc1 := 5) (tk (n := 2) t228_0 rfl) rfl rfl rfl ?_
  refine s_iald (pc1 := 6) (tk (n := 3) t228_0 rfl) rfl rfl  ?_
  refine s_callS0 (as := [(0, h.2 (h.2 x0 16) x1)]) (st1 := []) (p1 := 9) (M2 := 212) (tk (n := 4) t228_0 rfl) rfl rfl rfl rfl rfl (fun r5 => ?_)
  refine s_if_eq (pc1 := 12) (pt := 23) (tk (n := 5) t228_0 rfl) rfl rfl rfl ?_ ?_
  · refine s_aload_n (pc1 := 24) (tk (n := 13) t228_0 rfl) rfl rfl rfl ?_
    refine s_getf (pc1 := 27) (c := 12) (t1 := 2) (tk (n := 14) t228_0 rfl) rfl rfl (by decide) rfl rfl ?_
    refine s_sipush (pc1 := 30) (tk (n := 15) t228_0 rfl) rfl rfl  ?_
    refine s_iload_n (pc1 := 31) (tk (n := 16) t228_0 rfl) rfl rfl rfl ?_
    refine s_imul (pc1 := 32) (tk (n := 17) t228_0 rfl) rfl rfl  ?_
    refine s_iload_n (pc1 := 33) (tk (n := 18) t228_0 rfl) rfl rfl rfl ?_
    refine s_iadd (pc1 := 34) (tk (n := 19) t228_0 rfl) rfl rfl  ?_
    refine s_iald (pc1 := 35) (tk (n := 20) t228_0 rfl) rfl rfl  ?_
    refine s_if_ne (pc1 := 38) (pt := 42) (tk (n := 21) t228_0 rfl) rfl rfl rfl ?_ ?_
    · refine s_aload_n (pc1 := 43) (tk (n := 24) t228_0 rfl) rfl rfl rfl ?_
      refine s_getf (pc1 := 46) (c := 12) (t1 := 2) (tk (n := 25) t228_0 rfl) rfl rfl (by decide) rfl rfl ?_
      refine s_iload_n (pc1 := 47) (tk (n := 26) t228_0 rfl) rfl rfl rfl ?_
      refine s_iald (pc1 := 48) (tk (n := 27) t228_0 rfl) rfl rfl  ?_
      refine s_iconst (pc1 := 49) (tk (n := 28) t228_0 rfl) rfl rfl  ?_
      refine s_iadd (pc1 := 50) (tk (n := 29) t228_0 rfl) rfl rfl  ?_
      exact s_ret (tk (n := 0) t228_1 rfl) rfl rfl rfl
    · refine s_iconst (pc1 := 39) (tk (n := 22) t228_0 rfl) rfl rfl  ?_
      refine s_goto (pc1 := 50) (tk (n := 23) t228_0 rfl) rfl rfl ?_
      exact s_ret (tk (n := 0) t228_1 rfl) rfl rfl rfl
  · refine s_aload_n (pc1 := 13) (tk (n := 6) t228_0 rfl) rfl rfl rfl ?_
    refine s_getf (pc1 := 16) (c := 12) (t1 := 2) (tk (n := 7) t228_0 rfl) rfl rfl (by decide) rfl rfl ?_
    refine s_iload_n (pc1 := 17) (tk (n := 8) t228_0 rfl) rfl rfl rfl ?_
    refine s_iald (pc1 := 18) (tk (n := 9) t228_0 rfl) rfl rfl  ?_
    refine s_iconst (pc1 := 19) (tk (n := 10) t228_0 rfl) rfl rfl  ?_
    refine s_iadd (pc1 := 20) (tk (n := 11) t228_0 rfl) rfl rfl  ?_
    refine s_goto (pc1 := 50) (tk (n := 12) t228_0 rfl) rfl rfl ?_
    exact s_ret (tk (n := 0) t228_1 rfl) rfl rfl rfl
set_option maxRecDepth 100000 in
set_option maxHeartbeats 4000000 in
theorem e_X12_convert (x0 : Int) (x1 : Int) (x2 : Int) (h : Hq) : vm 229 [(2, x0), (0, x1), (0, x2)] h = if x1 = x2 then (some (some (0, (-1)), h)) else (if 0 < x0 ∧ (kd x0).1 = 12 then (vm 209 [(2, x0), (0, x1)] h).bind (fun r6 => if (vx r6) = 0 then (some (some (0, (-1)), r6.2)) else (if 0 < x0 ∧ (kd x0).1 = 12 then (vm 209 [(2, x0), (0, x2)] r6.2).bind (fun r10 => if (vx r10) ≠ 0 then (if 0 < x0 ∧ (kd x0).1 = 12 then (vm 218 [(2, x0)] r10.2).bind (fun r15 => vp 229 32 [(2, x0), (0, x1), (0, x2), (0, 0), (0, 0), (9, 0)] [] r15.2) else none) else (some (some (0, (-1)), r10.2))) else none)) else none) := by
  show vp 229 0 [(2, x0), (0, x1), (0, x2), (9, 0), (9, 0), (9, 0)] [] h = _
  refine s_iload_n (pc1 := 1) (tk (n := 0) t229_0 rfl) rfl rfl rfl ?_
  refine s_iload_n (pc1 := 2) (tk (n := 1) t229_0 rfl) rfl rfl rfl ?_
  refine s_ic_eq (pc1 := 5) (pt := 21) (tk (n := 2) t229_0 rfl) rfl rfl rfl ?_ ?_
  · refine s_iconst (pc1 := 22) (tk (n := 11) t229_0 rfl) rfl rfl  ?_
    exact s_ret (tk (n := 12) t229_0 rfl) rfl rfl rfl
  · refine s_aload_n (pc1 := 6) (tk (n := 3) t229_0 rfl) rfl rfl rfl ?_
    refine s_iload_n (pc1 := 7) (tk (n := 4) t229_0 rfl) rfl rfl rfl ?_
    refine s_call0 (as := [(2, x0), (0, x1)]) (st1 := []) (p1 := 10) (M2 := 209) (tk (n := 5) t229_0 rfl) rfl rfl rfl rfl rfl (fun r6 => ?_)
    refine s_if_eq (pc1 := 13) (pt := 21) (tk (n := 6) t229_0 rfl) rfl rfl rfl ?_ ?_
    · refine s_iconst (pc1 := 22) (tk (n := 11) t229_0 rfl) rfl rfl  ?_
      exact s_ret (tk (n := 12) t229_0 rfl) rfl rfl rfl
    · refine s_aload_n (pc1 := 14) (tk (n := 7) t229_0 rfl) rfl rfl rfl ?_
      refine s_iload_n (pc1 := 15) (tk (n := 8) t229_0 rfl) rfl rfl rfl ?_
      refine s_call0 (as := [(2, x0), (0, x2)]) (st1 := []) (p1 := 18) (M2 := 209) (tk (n := 9) t229_0 rfl) rfl rfl rfl rfl rfl (fun r10 => ?_)
      refine s_if_ne (pc1 := 21) (pt := 23) (tk (n := 10) t229_0 rfl) rfl rfl rfl ?_ ?_
      · refine s_iconst (pc1 := 24) (tk (n := 13) t229_0 rfl) rfl rfl  ?_
        refine s_istore_n (pc1 := 25) (ls1 := [(2, x0), (0, x1), (0, x2), (0, 0), (9, 0), (9, 0)]) (tk (n := 14) t229_0 rfl) rfl rfl rfl rfl ?_
        refine s_aload_n (pc1 := 26) (tk (n := 15) t229_0 rfl) rfl rfl rfl ?_
        refine s_call9 (as := [(2, x0)]) (st1 := []) (p1 := 29) (M2 := 218) (tk (n := 16) t229_0 rfl) rfl rfl rfl rfl rfl (fun r15 => ?_)
        refine s_iconst (pc1 := 30) (tk (n := 17) t229_0 rfl) rfl rfl  ?_
        refine s_istore (pc1 := 32) (ls1 := [(2, x0), (0, x1), (0, x2), (0, 0), (0, 0), (9, 0)]) (tk (n := 18) t229_0 rfl) rfl rfl rfl rfl ?_
        rfl
      · refine s_iconst (pc1 := 22) (tk (n := 11) t229_0 rfl) rfl rfl  ?_
        exact s_ret (tk (n := 12) t229_0 rfl) rfl rfl rfl
set_option maxRecDepth 100000 in
set_option maxHeartbeats 4000000 in
theorem e_X12_convert_32 (x0 : Int) (x1 : Int) (x2 : Int) (x3 : Int) (x4 : Int) (z5 : Vl) (h : Hq) : vp 229 32 [(2, x0), (0, x1), (0, x2), (0, x3), (0, x4), z5] [] h = if 0 < x0 ∧ (kd x0).1 = 12 then if (kd (h.2 x0 17)).1 = 20 ∧ 0 ≤ x1 ∧ x1 < (kd (h.2 x0 17)).2 then if 0 < x0 ∧ (kd x0).1 = 12 then if (kd (h.2 x0 17)).1 = 20 ∧ 0 ≤ x2 ∧ x2 < (kd (h.2 x0 17)).2 then (vm 167 [(0, h.2 (h.2 x0 17) x1), (0, h.2 (h.2 x0 17) x2)] h).bind (fun r10 => if x4 ≥ (vx r10) then (if 0 < x0 ∧ (kd x0).1 = 12 then (vm 219 [(2, x0)] r10.2).bind (fun r13 => some (some (0, x3), r13.2)) else none) else (if 0 < x0 ∧ (kd x0).1 = 12 then (vm 228 [(2, x0), (0, x1), (0, x4)] r10.2).bind (fun r15 => if 0 < x0 ∧ (kd x0).1 = 12 then if (kd (r15.2.2 x0 16)).1 = 20 ∧ 0 ≤ x2 ∧ x2 < (kd (r15.2.2 x0 16)).2 then (vm 225 [(0, r15.2.2 (r15.2.2 x0 16) x2), (0, vx r15)] r15.2).bind (fun r22 => if (vx r22) = 0 then (if 0 < x0 ∧ (kd x0).1 = 12 then (vm 211 [(2, x0), (0, x1), (0, x4)] r22.2).bind (fun r31 => if 0 < x0 ∧ (kd x0).1 = 12 then (vm 226 [(2, x0), (0, x2), (0, x4), (0, vx r15), (0, vx r31)] r31.2).bind (fun r32 => vp 229 32 [(2, x0), (0, x1), (0, x2), (0, x3), (0, w32 (x4 + 1)), (0, vx r15)] [] r32.2) else none) else none) else (vp 229 32 [(2, x0), (0, x1), (0, x2), (0, w32 (x3 + 1)), (0, w32 (x4 + 1)), (0, vx r15)] [] r22.2)) else none else none) else none)) else none else none else none else none := by
  refine s_fg (ls1 := [(2, x0), (0, x1), (0, x2), (0, x3), (0, x4), (9, 0)]) (tk (n := 19) t229_0 rfl) rfl ?_
  refine s_iload (pc1 := 34) (tk (n := 19) t229_0 rfl) rfl rfl rfl ?_
  refine s_aload_n (pc1 := 35) (tk (n := 20) t229_0 rfl) rfl rfl rfl ?_
  refine s_getf (pc1 := 38) (c := 12) (t1 := 2) (tk (n := 21) t229_0 rfl) rfl rfl (by decide) rfl rfl ?_
  refine s_iload_n (pc1 := 39) (tk (n := 22) t229_0 rfl) rfl rfl rfl ?_
  refine s_iald (pc1 := 40) (tk (n := 23) t229_0 rfl) rfl rfl  ?_
  refine s_aload_n (pc1 := 41) (tk (n := 24) t229_0 rfl) rfl rfl rfl ?_
  refine s_getf (pc1 := 44) (c := 12) (t1 := 2) (tk (n := 25) t229_0 rfl) rfl rfl (by decide) rfl rfl ?_
  refine s_iload_n (pc1 := 45) (tk (n := 26) t229_0 rfl) rfl rfl rfl ?_
  refine s_iald (pc1 := 46) (tk (n := 27) t229_0 rfl) rfl rfl  ?_
  refine s_callS0 (as := [(0, h.2 (h.2 x0 17) x1), (0, h.2 (h.2 x0 17) x2)]) (st1 := [(0, x4)]) (p1 := 49) (M2 := 167) (tk (n := 28) t229_0 rfl) rfl rfl rfl rfl rfl (fun r10 => ?_)
  refine s_ic_ge (pc1 := 52) (pt := 103) (tk (n := 29) t229_0 rfl) rfl rfl rfl ?_ ?_
  · refine s_aload_n (pc1 := 104) (tk (n := 25) t229_1 rfl) rfl rfl rfl ?_
    refine s_call9 (as := [(2, x0)]) (st1 := []) (p1 := 107) (M2 := 219) (tk (n := 26) t229_1 rfl) rfl rfl rfl rfl rfl (fun r13 => ?_)
    refine s_iload_n (pc1 := 108) (tk (n := 27) t229_1 rfl) rfl rfl rfl ?_
    exact s_ret (tk (n := 28) t229_1 rfl) rfl rfl rfl
  · refine s_aload_n (pc1 := 53) (tk (n := 0) t229_1 rfl) rfl rfl rfl ?_
    refine s_iload_n (pc1 := 54) (tk (n := 1) t229_1 rfl) rfl rfl rfl ?_
    refine s_iload (pc1 := 56) (tk (n := 2) t229_1 rfl) rfl rfl rfl ?_
    refine s_call0 (as := [(2, x0), (0, x1), (0, x4)]) (st1 := []) (p1 := 59) (M2 := 228) (tk (n := 3) t229_1 rfl) rfl rfl rfl rfl rfl (fun r15 => ?_)
    refine s_istore (pc1 := 61) (ls1 := [(2, x0), (0, x1), (0, x2), (0, x3), (0, x4), (0, vx r15)]) (tk (n := 4) t229_1 rfl) rfl rfl rfl rfl ?_
    refine s_aload_n (pc1 := 62) (tk (n := 5) t229_1 rfl) rfl rfl rfl ?_
    refine s_getf (pc1 := 65) (c := 12) (t1 := 2) (tk (n := 6) t229_1 rfl) rfl rfl (by decide) rfl rfl ?_
    refine s_iload_n (pc1 := 66) (tk (n := 7) t229_1 rfl) rfl rfl rfl ?_
    refine s_iald (pc1 := 67) (tk (n := 8) t229_1 rfl) rfl rfl  ?_
    refine s_iload (pc1 := 69) (tk (n := 9) t229_1 rfl) rfl rfl rfl ?_
    refine s_callS0 (as := [(0, r15.2.2 (r15.2.2 x0 16) x2), (0, vx r15)]) (st1 := []) (p1 := 72) (M2 := 225) (tk (n := 10) t229_1 rfl) rfl rfl rfl rfl rfl (fun r22 => ?_)
    refine s_if_eq (pc1 := 75) (pt := 81) (tk (n := 11) t229_1 rfl) rfl rfl rfl ?_ ?_
    · refine s_aload_n (pc1 := 82) (tk (n := 14) t229_1 rfl) rfl rfl rfl ?_
      refine s_iload_n (pc1 := 83) (tk (n := 15) t229_1 rfl) rfl rfl rfl ?_
      refine s_iload (pc1 := 85) (tk (n := 16) t229_1 rfl) rfl rfl rfl ?_
      refine s_iload (pc1 := 87) (tk (n := 17) t229_1 rfl) rfl rfl rfl ?_
      refine s_aload_n (pc1 := 88) (tk (n := 18) t229_1 rfl) rfl rfl rfl ?_
      refine s_iload_n (pc1 := 89) (tk (n := 19) t229_1 rfl) rfl rfl rfl ?_
      refine s_iload (pc1 := 91) (tk (n := 20) t229_1 rfl) rfl rfl rfl ?_
      refine s_call0 (as := [(2, x0), (0, x1), (0, x4)]) (st1 := [(0, vx r15), (0, x4), (0, x2), (2, x0)]) (p1 := 94) (M2 := 211) (tk (n := 21) t229_1 rfl) rfl rfl rfl rfl rfl (fun r31 => ?_)
      refine s_call9 (as := [(2, x0), (0, x2), (0, x4), (0, vx r15), (0, vx r31)]) (st1 := []) (p1 := 97) (M2 := 226) (tk (n := 22) t229_1 rfl) rfl rfl rfl rfl rfl (fun r32 => ?_)
      refine s_iinc (pc1 := 100) (ls1 := [(2, x0), (0, x1), (0, x2), (0, x3), (0, w32 (x4 + 1)), (0, vx r15)]) (tk (n := 23) t229_1 rfl) rfl rfl rfl rfl ?_
      refine s_goto (pc1 := 32) (tk (n := 24) t229_1 rfl) rfl rfl ?_
      rfl
    · refine s_iinc (pc1 := 78) (ls1 := [(2, x0), (0, x1), (0, x2), (0, w32 (x3 + 1)), (0, x4), (0, vx r15)]) (tk (n := 12) t229_1 rfl) rfl rfl rfl rfl ?_
      refine s_goto (pc1 := 97) (tk (n := 13) t229_1 rfl) rfl rfl ?_
      refine s_iinc (pc1 := 100) (ls1 := [(2, x0), (0, x1), (0, x2), (0, w32 (x3 + 1)), (0, w32 (x4 + 1)), (0, vx r15)]) (tk (n := 23) t229_1 rfl) rfl rfl rfl rfl ?_
      refine s_goto (pc1 := 32) (tk (n := 24) t229_1 rfl) rfl rfl ?_
      rfl
set_option maxRecDepth 100000 in
set_option maxHeartbeats 4000000 in
theorem e_X12_loses (x0 : Int) (x1 : Int) (x2 : Int) (h : Hq) : vm 230 [(2, x0), (0, x1), (0, x2)] h = if 0 < x0 ∧ (kd x0).1 = 12 then (vm 209 [(2, x0), (0, x1)] h).bind (fun r3 => if (vx r3) = 0 then (some (some (0, (-1)), r3.2)) else ((vm 165 [(0, x2), (0, 0), (0, 9)] r3.2).bind (fun r8 => if (vx r8) ≠ 0 then (vp 230 25 [(2, x0), (0, x1), (0, x2), (0, 0), (0, 0)] [] r8.2) else (some (some (0, (-1)), r8.2))))) else none := by
  show vp 230 0 [(2, x0), (0, x1), (0, x2), (9, 0), (9, 0)] [] h = _
  refine s_aload_n (pc1 := 1) (tk (n := 0) t230_0 rfl) rfl rfl rfl ?_
  refine s_iload_n (pc1 := 2) (tk (n := 1) t230_0 rfl) rfl rfl rfl ?_
  refine s_call0 (as := [(2, x0), (0, x1)]) (st1 := []) (p1 := 5) (M2 := 209) (tk (n := 2) t230_0 rfl) rfl rfl rfl rfl rfl (fun r3 => ?_)
  refine s_if_eq (pc1 := 8) (pt := 18) (tk (n := 3) t230_0 rfl) rfl rfl rfl ?_ ?_
  · refine s_iconst (pc1 := 19) (tk (n := 9) t230_0 rfl) rfl rfl  ?_
    exact s_ret (tk (n := 10) t230_0 rfl) rfl rfl rfl
  · refine s_iload_n (pc1 := 9) (tk (n := 4) t230_0 rfl) rfl rfl rfl ?_
    refine s_iconst (pc1 := 10) (tk (n := 5) t230_0 rfl) rfl rfl  ?_
    refine s_bipush (pc1 := 12) (tk (n := 6) t230_0 rfl) rfl rfl  ?_
    refine s_callS0 (as := [(0, x2), (0, 0), (0, 9)]) (st1 := []) (p1 := 15) (M2 := 165) (tk (n := 7) t230_0 rfl) rfl rfl rfl rfl rfl (fun r8 => ?_)
    refine s_if_ne (pc1 := 18) (pt := 20) (tk (n := 8) t230_0 rfl) rfl rfl rfl ?_ ?_
    · refine s_iconst (pc1 := 21) (tk (n := 11) t230_0 rfl) rfl rfl  ?_
      refine s_istore_n (pc1 := 22) (ls1 := [(2, x0), (0, x1), (0, x2), (0, 0), (9, 0)]) (tk (n := 12) t230_0 rfl) rfl rfl rfl rfl ?_
      refine s_iconst (pc1 := 23) (tk (n := 13) t230_0 rfl) rfl rfl  ?_
      refine s_istore (pc1 := 25) (ls1 := [(2, x0), (0, x1), (0, x2), (0, 0), (0, 0)]) (tk (n := 14) t230_0 rfl) rfl rfl rfl rfl ?_
      rfl
    · refine s_iconst (pc1 := 19) (tk (n := 9) t230_0 rfl) rfl rfl  ?_
      exact s_ret (tk (n := 10) t230_0 rfl) rfl rfl rfl
set_option maxRecDepth 100000 in
set_option maxHeartbeats 4000000 in
theorem e_X12_loses_25 (x0 : Int) (x1 : Int) (x2 : Int) (x3 : Int) (x4 : Int) (h : Hq) : vp 230 25 [(2, x0), (0, x1), (0, x2), (0, x3), (0, x4)] [] h = if 0 < x0 ∧ (kd x0).1 = 12 then if (kd (h.2 x0 17)).1 = 20 ∧ 0 ≤ x1 ∧ x1 < (kd (h.2 x0 17)).2 then if x4 ≥ (h.2 (h.2 x0 17) x1) then (some (some (0, x3), h)) else (if 0 < x0 ∧ (kd x0).1 = 12 then (vm 228 [(2, x0), (0, x1), (0, x4)] h).bind (fun r12 => (vm 225 [(0, x2), (0, vx r12)] r12.2).bind (fun r13 => if (vx r13) = 0 then ((vm 168 [(0, 0)] r13.2).bind (fun r16 => vp 230 25 [(2, x0), (0, x1), (0, x2), (0, w32 (x3 + (vx r16))), (0, w32 (x4 + 1))] [] r16.2)) else ((vm 168 [(0, 1)] r13.2).bind (fun r17 => vp 230 25 [(2, x0), (0, x1), (0, x2), (0, w32 (x3 + (vx r17))), (0, w32 (x4 + 1))] [] r17.2)))) else none) else none else none := by
  refine s_iload (pc1 := 27) (tk (n := 15) t230_0 rfl) rfl rfl rfl ?_
  refine s_aload_n (pc1 := 28) (tk (n := 16) t230_0 rfl) rfl rfl rfl ?_
  refine s_getf (pc1 := 31) (c := 12) (t1 := 2) (tk (n := 17) t230_0 rfl) rfl rfl (by decide) rfl rfl ?_
  refine s_iload_n (pc1 := 32) (tk (n := 18) t230_0 rfl) rfl rfl rfl ?_
  refine s_iald (pc1 := 33) (tk (n := 19) t230_0 rfl) rfl rfl  ?_
  refine s_ic_ge (pc1 := 36) (pt := 67) (tk (n := 20) t230_0 rfl) rfl rfl rfl ?_ ?_
  · refine s_iload_n (pc1 := 68) (tk (n := 7) t230_1 rfl) rfl rfl rfl ?_
    exact s_ret (tk (n := 8) t230_1 rfl) rfl rfl rfl
  · refine s_iload_n (pc1 := 37) (tk (n := 21) t230_0 rfl) rfl rfl rfl ?_
    refine s_iload_n (pc1 := 38) (tk (n := 22) t230_0 rfl) rfl rfl rfl ?_
    refine s_aload_n (pc1 := 39) (tk (n := 23) t230_0 rfl) rfl rfl rfl ?_
    refine s_iload_n (pc1 := 40) (tk (n := 24) t230_0 rfl) rfl rfl rfl ?_
    refine s_iload (pc1 := 42) (tk (n := 25) t230_0 rfl) rfl rfl rfl ?_
    refine s_call0 (as := [(2, x0), (0, x1), (0, x4)]) (st1 := [(0, x2), (0, x3)]) (p1 := 45) (M2 := 228) (tk (n := 26) t230_0 rfl) rfl rfl rfl rfl rfl (fun r12 => ?_)
    refine s_callS0 (as := [(0, x2), (0, vx r12)]) (st1 := [(0, x3)]) (p1 := 48) (M2 := 225) (tk (n := 27) t230_0 rfl) rfl rfl rfl rfl rfl (fun r13 => ?_)
    refine s_if_eq (pc1 := 51) (pt := 55) (tk (n := 28) t230_0 rfl) rfl rfl rfl ?_ ?_
    · refine s_iconst (pc1 := 56) (tk (n := 1) t230_1 rfl) rfl rfl  ?_
      refine s_callS0 (as := [(0, 0)]) (st1 := [(0, x3)]) (p1 := 59) (M2 := 168) (tk (n := 2) t230_1 rfl) rfl rfl rfl rfl rfl (fun r16 => ?_)
      refine s_iadd (pc1 := 60) (tk (n := 3) t230_1 rfl) rfl rfl  ?_
      refine s_istore_n (pc1 := 61) (ls1 := [(2, x0), (0, x1), (0, x2), (0, w32 (x3 + (vx r16))), (0, x4)]) (tk (n := 4) t230_1 rfl) rfl rfl rfl rfl ?_
      refine s_iinc (pc1 := 64) (ls1 := [(2, x0), (0, x1), (0, x2), (0, w32 (x3 + (vx r16))), (0, w32 (x4 + 1))]) (tk (n := 5) t230_1 rfl) rfl rfl rfl rfl ?_
      refine s_goto (pc1 := 25) (tk (n := 6) t230_1 rfl) rfl rfl ?_
      rfl
    · refine s_iconst (pc1 := 52) (tk (n := 29) t230_0 rfl) rfl rfl  ?_
      refine s_goto (pc1 := 56) (tk (n := 0) t230_1 rfl) rfl rfl ?_
      refine s_callS0 (as := [(0, 1)]) (st1 := [(0, x3)]) (p1 := 59) (M2 := 168) (tk (n := 2) t230_1 rfl) rfl rfl rfl rfl rfl (fun r17 => ?_)
      refine s_iadd (pc1 := 60) (tk (n := 3) t230_1 rfl) rfl rfl  ?_
      refine s_istore_n (pc1 := 61) (ls1 := [(2, x0), (0, x1), (0, x2), (0, w32 (x3 + (vx r17))), (0, x4)]) (tk (n := 4) t230_1 rfl) rfl rfl rfl rfl ?_
      refine s_iinc (pc1 := 64) (ls1 := [(2, x0), (0, x1), (0, x2), (0, w32 (x3 + (vx r17))), (0, w32 (x4 + 1))]) (tk (n := 5) t230_1 rfl) rfl rfl rfl rfl ?_
      refine s_goto (pc1 := 25) (tk (n := 6) t230_1 rfl) rfl rfl ?_
      rfl
set_option maxRecDepth 100000 in
set_option maxHeartbeats 4000000 in
theorem e_X12_unlike (x0 : Int) (x1 : Int) (x2 : Int) (h : Hq) : vm 231 [(2, x0), (0, x1), (0, x2)] h = if 0 < x0 ∧ (kd x0).1 = 12 then (vm 209 [(2, x0), (0, x1)] h).bind (fun r3 => if (vx r3) = 0 then (some (some (0, (-1)), r3.2)) else (if 0 < x0 ∧ (kd x0).1 = 12 then (vm 209 [(2, x0), (0, x2)] r3.2).bind (fun r7 => if (vx r7) ≠ 0 then (vp 231 20 [(2, x0), (0, x1), (0, x2), (0, 0)] [] r7.2) else (some (some (0, (-1)), r7.2))) else none)) else none := by
  show vp 231 0 [(2, x0), (0, x1), (0, x2), (9, 0)] [] h = _
  refine s_aload_n (pc1 := 1) (tk (n := 0) t231_0 rfl) rfl rfl rfl ?_
  refine s_iload_n (pc1 := 2) (tk (n := 1) t231_0 rfl) rfl rfl rfl ?_
  refine s_call0 (as := [(2, x0), (0, x1)]) (st1 := []) (p1 := 5) (M2 := 209) (tk (n := 2) t231_0 rfl) rfl rfl rfl rfl rfl (fun r3 => ?_)
  refine s_if_eq (pc1 := 8) (pt := 16) (tk (n := 3) t231_0 rfl) rfl rfl rfl ?_ ?_
  · refine s_iconst (pc1 := 17) (tk (n := 8) t231_0 rfl) rfl rfl  ?_
    exact s_ret (tk (n := 9) t231_0 rfl) rfl rfl rfl
  · refine s_aload_n (pc1 := 9) (tk (n := 4) t231_0 rfl) rfl rfl rfl ?_
    refine s_iload_n (pc1 := 10) (tk (n := 5) t231_0 rfl) rfl rfl rfl ?_
    refine s_call0 (as := [(2, x0), (0, x2)]) (st1 := []) (p1 := 13) (M2 := 209) (tk (n := 6) t231_0 rfl) rfl rfl rfl rfl rfl (fun r7 => ?_)
    refine s_if_ne (pc1 := 16) (pt := 18) (tk (n := 7) t231_0 rfl) rfl rfl rfl ?_ ?_
    · refine s_iconst (pc1 := 19) (tk (n := 10) t231_0 rfl) rfl rfl  ?_
      refine s_istore_n (pc1 := 20) (ls1 := [(2, x0), (0, x1), (0, x2), (0, 0)]) (tk (n := 11) t231_0 rfl) rfl rfl rfl rfl ?_
      rfl
    · refine s_iconst (pc1 := 17) (tk (n := 8) t231_0 rfl) rfl rfl  ?_
      exact s_ret (tk (n := 9) t231_0 rfl) rfl rfl rfl
set_option maxRecDepth 100000 in
set_option maxHeartbeats 4000000 in
theorem e_X12_unlike_20 (x0 : Int) (x1 : Int) (x2 : Int) (x3 : Int) (h : Hq) : vp 231 20 [(2, x0), (0, x1), (0, x2), (0, x3)] [] h = if 0 < x0 ∧ (kd x0).1 = 12 then if (kd (h.2 x0 17)).1 = 20 ∧ 0 ≤ x1 ∧ x1 < (kd (h.2 x0 17)).2 then if 0 < x0 ∧ (kd x0).1 = 12 then if (kd (h.2 x0 17)).1 = 20 ∧ 0 ≤ x2 ∧ x2 < (kd (h.2 x0 17)).2 then (vm 167 [(0, h.2 (h.2 x0 17) x1), (0, h.2 (h.2 x0 17) x2)] h).bind (fun r10 => if x3 ≥ (vx r10) then (some (some (0, (-2)), r10.2)) else (if 0 < x0 ∧ (kd x0).1 = 12 then (vm 211 [(2, x0), (0, x1), (0, x3)] r10.2).bind (fun r15 => if 0 < x0 ∧ (kd x0).1 = 12 then (vm 211 [(2, x0), (0, x2), (0, x3)] r15.2).bind (fun r19 => if (vx r15) = (vx r19) then (vp 231 20 [(2, x0), (0, x1), (0, x2), (0, w32 (x3 + 1))] [] r19.2) else (some (some (0, x3), r19.2))) else none) else none)) else none else none else none else none := by
  refine s_iload_n (pc1 := 21) (tk (n := 12) t231_0 rfl) rfl rfl rfl ?_
  refine s_aload_n (pc1 := 22) (tk (n := 13) t231_0 rfl) rfl rfl rfl ?_
  refine s_getf (pc1 := 25) (c := 12) (t1 := 2) (tk (n := 14) t231_0 rfl) rfl rfl (by decide) rfl rfl ?_
  refine s_iload_n (pc1 := 26) (tk (n := 15) t231_0 rfl) rfl rfl rfl ?_
  refine s_iald (pc1 := 27) (tk (n := 16) t231_0 rfl) rfl rfl  ?_
  refine s_aload_n (pc1 := 28) (tk (n := 17) t231_0 rfl) rfl rfl rfl ?_
  refine s_getf (pc1 := 31) (c := 12) (t1 := 2) (tk (n := 18) t231_0 rfl) rfl rfl (by decide) rfl rfl ?_
  refine s_iload_n (pc1 := 32) (tk (n := 19) t231_0 rfl) rfl rfl rfl ?_
  refine s_iald (pc1 := 33) (tk (n := 20) t231_0 rfl) rfl rfl  ?_
  refine s_callS0 (as := [(0, h.2 (h.2 x0 17) x1), (0, h.2 (h.2 x0 17) x2)]) (st1 := [(0, x3)]) (p1 := 36) (M2 := 167) (tk (n := 21) t231_0 rfl) rfl rfl rfl rfl rfl (fun r10 => ?_)
  refine s_ic_ge (pc1 := 39) (pt := 62) (tk (n := 22) t231_0 rfl) rfl rfl rfl ?_ ?_
  · refine s_bipush (pc1 := 64) (tk (n := 6) t231_1 rfl) rfl rfl  ?_
    exact s_ret (tk (n := 7) t231_1 rfl) rfl rfl rfl
  · refine s_aload_n (pc1 := 40) (tk (n := 23) t231_0 rfl) rfl rfl rfl ?_
    refine s_iload_n (pc1 := 41) (tk (n := 24) t231_0 rfl) rfl rfl rfl ?_
    refine s_iload_n (pc1 := 42) (tk (n := 25) t231_0 rfl) rfl rfl rfl ?_
    refine s_call0 (as := [(2, x0), (0, x1), (0, x3)]) (st1 := []) (p1 := 45) (M2 := 211) (tk (n := 26) t231_0 rfl) rfl rfl rfl rfl rfl (fun r15 => ?_)
    refine s_aload_n (pc1 := 46) (tk (n := 27) t231_0 rfl) rfl rfl rfl ?_
    refine s_iload_n (pc1 := 47) (tk (n := 28) t231_0 rfl) rfl rfl rfl ?_
    refine s_iload_n (pc1 := 48) (tk (n := 29) t231_0 rfl) rfl rfl rfl ?_
    refine s_call0 (as := [(2, x0), (0, x2), (0, x3)]) (st1 := [(0, vx r15)]) (p1 := 51) (M2 := 211) (tk (n := 0) t231_1 rfl) rfl rfl rfl rfl rfl (fun r19 => ?_)
    refine s_ic_eq (pc1 := 54) (pt := 56) (tk (n := 1) t231_1 rfl) rfl rfl rfl ?_ ?_
    · refine s_iinc (pc1 := 59) (ls1 := [(2, x0), (0, x1), (0, x2), (0, w32 (x3 + 1))]) (tk (n := 4) t231_1 rfl) rfl rfl rfl rfl ?_
      refine s_goto (pc1 := 20) (tk (n := 5) t231_1 rfl) rfl rfl ?_
      rfl
    · refine s_iload_n (pc1 := 55) (tk (n := 2) t231_1 rfl) rfl rfl rfl ?_
      exact s_ret (tk (n := 3) t231_1 rfl) rfl rfl rfl
set_option maxRecDepth 100000 in
set_option maxHeartbeats 4000000 in
theorem e_X12_total (x0 : Int) (x1 : Int) (h : Hq) : vm 232 [(2, x0), (0, x1)] h = vp 232 5 [(2, x0), (0, x1), (1, 0), (9, 0), (0, 0)] [] h := by
  show vp 232 0 [(2, x0), (0, x1), (9, 0), (9, 0), (9, 0)] [] h = _
  refine s_lconst (pc1 := 1) (v := 0) (tk (n := 0) t232_0 rfl) rfl rfl rfl ?_
  refine s_lstore_n (pc1 := 2) (ls1 := [(2, x0), (0, x1), (1, 0), (9, 0), (9, 0)]) (tk (n := 1) t232_0 rfl) rfl rfl rfl rfl ?_
  refine s_iconst (pc1 := 3) (tk (n := 2) t232_0 rfl) rfl rfl  ?_
  refine s_istore (pc1 := 5) (ls1 := [(2, x0), (0, x1), (1, 0), (9, 0), (0, 0)]) (tk (n := 3) t232_0 rfl) rfl rfl rfl rfl ?_
  rfl
set_option maxRecDepth 100000 in
set_option maxHeartbeats 4000000 in
theorem e_X12_total_5 (x0 : Int) (x1 : Int) (x2 : Int) (x4 : Int) (h : Hq) : vp 232 5 [(2, x0), (0, x1), (1, x2), (9, 0), (0, x4)] [] h = if 0 < x0 ∧ (kd x0).1 = 12 then (vm 209 [(2, x0), (0, x1)] h).bind (fun r3 => if (vx r3) = 0 then (some (some (1, x2), r3.2)) else (if 0 < x0 ∧ (kd x0).1 = 12 then if (kd (r3.2.2 x0 17)).1 = 20 ∧ 0 ≤ x1 ∧ x1 < (kd (r3.2.2 x0 17)).2 then if x4 ≥ (r3.2.2 (r3.2.2 x0 17) x1) then (some (some (1, x2), r3.2)) else (if 0 < x0 ∧ (kd x0).1 = 12 then (vm 211 [(2, x0), (0, x1), (0, x4)] r3.2).bind (fun r15 => vp 232 5 [(2, x0), (0, x1), (1, w64 (x2 + (vx r15))), (9, 0), (0, w32 (x4 + 1))] [] r15.2) else none) else none else none)) else none := by
  refine s_aload_n (pc1 := 6) (tk (n := 4) t232_0 rfl) rfl rfl rfl ?_
  refine s_iload_n (pc1 := 7) (tk (n := 5) t232_0 rfl) rfl rfl rfl ?_
  refine s_call0 (as := [(2, x0), (0, x1)]) (st1 := []) (p1 := 10) (M2 := 209) (tk (n := 6) t232_0 rfl) rfl rfl rfl rfl rfl (fun r3 => ?_)
  refine s_if_eq (pc1 := 13) (pt := 41) (tk (n := 7) t232_0 rfl) rfl rfl rfl ?_ ?_
  · refine s_lload_n (pc1 := 42) (tk (n := 24) t232_0 rfl) rfl rfl rfl ?_
    exact s_ret (tk (n := 25) t232_0 rfl) rfl rfl rfl
  · refine s_iload (pc1 := 15) (tk (n := 8) t232_0 rfl) rfl rfl rfl ?_
    refine s_aload_n (pc1 := 16) (tk (n := 9) t232_0 rfl) rfl rfl rfl ?_
    refine s_getf (pc1 := 19) (c := 12) (t1 := 2) (tk (n := 10) t232_0 rfl) rfl rfl (by decide) rfl rfl ?_
    refine s_iload_n (pc1 := 20) (tk (n := 11) t232_0 rfl) rfl rfl rfl ?_
    refine s_iald (pc1 := 21) (tk (n := 12) t232_0 rfl) rfl rfl  ?_
    refine s_ic_ge (pc1 := 24) (pt := 41) (tk (n := 13) t232_0 rfl) rfl rfl rfl ?_ ?_
    · refine s_lload_n (pc1 := 42) (tk (n := 24) t232_0 rfl) rfl rfl rfl ?_
      exact s_ret (tk (n := 25) t232_0 rfl) rfl rfl rfl
    · refine s_lload_n (pc1 := 25) (tk (n := 14) t232_0 rfl) rfl rfl rfl ?_
      refine s_aload_n (pc1 := 26) (tk (n := 15) t232_0 rfl) rfl rfl rfl ?_
      refine s_iload_n (pc1 := 27) (tk (n := 16) t232_0 rfl) rfl rfl rfl ?_
      refine s_iload (pc1 := 29) (tk (n := 17) t232_0 rfl) rfl rfl rfl ?_
      refine s_call0 (as := [(2, x0), (0, x1), (0, x4)]) (st1 := [(1, x2)]) (p1 := 32) (M2 := 211) (tk (n := 18) t232_0 rfl) rfl rfl rfl rfl rfl (fun r15 => ?_)
      refine s_i2l (pc1 := 33) (tk (n := 19) t232_0 rfl) rfl rfl  ?_
      refine s_ladd (pc1 := 34) (tk (n := 20) t232_0 rfl) rfl rfl  ?_
      refine s_lstore_n (pc1 := 35) (ls1 := [(2, x0), (0, x1), (1, w64 (x2 + (vx r15))), (9, 0), (0, x4)]) (tk (n := 21) t232_0 rfl) rfl rfl rfl rfl ?_
      refine s_iinc (pc1 := 38) (ls1 := [(2, x0), (0, x1), (1, w64 (x2 + (vx r15))), (9, 0), (0, w32 (x4 + 1))]) (tk (n := 22) t232_0 rfl) rfl rfl rfl rfl ?_
      refine s_goto (pc1 := 5) (tk (n := 23) t232_0 rfl) rfl rfl ?_
      rfl
set_option maxRecDepth 100000 in
set_option maxHeartbeats 4000000 in
theorem e_X12_find (x0 : Int) (x1 : Int) (x2 : Int) (x3 : Int) (h : Hq) : vm 233 [(2, x0), (0, x1), (0, x2), (0, x3)] h = if 0 < x0 ∧ (kd x0).1 = 12 then (vm 209 [(2, x0), (0, x1)] h).bind (fun r3 => if (vx r3) = 0 then (some (some (0, (-1)), r3.2)) else (if x2 ≥ 0 then (vp 233 17 [(2, x0), (0, x1), (0, x2), (0, x3), (0, x2)] [] r3.2) else (some (some (0, (-1)), r3.2)))) else none := by
  show vp 233 0 [(2, x0), (0, x1), (0, x2), (0, x3), (9, 0)] [] h = _
  refine s_aload_n (pc1 := 1) (tk (n := 0) t233_0 rfl) rfl rfl rfl ?_
  refine s_iload_n (pc1 := 2) (tk (n := 1) t233_0 rfl) rfl rfl rfl ?_
  refine s_call0 (as := [(2, x0), (0, x1)]) (st1 := []) (p1 := 5) (M2 := 209) (tk (n := 2) t233_0 rfl) rfl rfl rfl rfl rfl (fun r3 => ?_)
  refine s_if_eq (pc1 := 8) (pt := 12) (tk (n := 3) t233_0 rfl) rfl rfl rfl ?_ ?_
  · refine s_iconst (pc1 := 13) (tk (n := 6) t233_0 rfl) rfl rfl  ?_
    exact s_ret (tk (n := 7) t233_0 rfl) rfl rfl rfl
  · refine s_iload_n (pc1 := 9) (tk (n := 4) t233_0 rfl) rfl rfl rfl ?_
    refine s_if_ge (pc1 := 12) (pt := 14) (tk (n := 5) t233_0 rfl) rfl rfl rfl ?_ ?_
    · refine s_iload_n (pc1 := 15) (tk (n := 8) t233_0 rfl) rfl rfl rfl ?_
      refine s_istore (pc1 := 17) (ls1 := [(2, x0), (0, x1), (0, x2), (0, x3), (0, x2)]) (tk (n := 9) t233_0 rfl) rfl rfl rfl rfl ?_
      rfl
    · refine s_iconst (pc1 := 13) (tk (n := 6) t233_0 rfl) rfl rfl  ?_
      exact s_ret (tk (n := 7) t233_0 rfl) rfl rfl rfl
set_option maxRecDepth 100000 in
set_option maxHeartbeats 4000000 in
theorem e_X12_find_17 (x0 : Int) (x1 : Int) (z2 : Vl) (x3 : Int) (x4 : Int) (h : Hq) : vp 233 17 [(2, x0), (0, x1), z2, (0, x3), (0, x4)] [] h = if 0 < x0 ∧ (kd x0).1 = 12 then if (kd (h.2 x0 17)).1 = 20 ∧ 0 ≤ x1 ∧ x1 < (kd (h.2 x0 17)).2 then if x4 ≥ (h.2 (h.2 x0 17) x1) then (some (some (0, (-1)), h)) else (if 0 < x0 ∧ (kd x0).1 = 12 then (vm 211 [(2, x0), (0, x1), (0, x4)] h).bind (fun r10 => if (vx r10) ≠ x3 then (vp 233 17 [(2, x0), (0, x1), (9, 0), (0, x3), (0, w32 (x4 + 1))] [] r10.2) else (some (some (0, x4), r10.2))) else none) else none else none := by
  refine s_fg (ls1 := [(2, x0), (0, x1), (9, 0), (0, x3), (0, x4)]) (tk (n := 10) t233_0 rfl) rfl ?_
  refine s_iload (pc1 := 19) (tk (n := 10) t233_0 rfl) rfl rfl rfl ?_
  refine s_aload_n (pc1 := 20) (tk (n := 11) t233_0 rfl) rfl rfl rfl ?_
  refine s_getf (pc1 := 23) (c := 12) (t1 := 2) (tk (n := 12) t233_0 rfl) rfl rfl (by decide) rfl rfl ?_
  refine s_iload_n (pc1 := 24) (tk (n := 13) t233_0 rfl) rfl rfl rfl ?_
  refine s_iald (pc1 := 25) (tk (n := 14) t233_0 rfl) rfl rfl  ?_
  refine s_ic_ge (pc1 := 28) (pt := 48) (tk (n := 15) t233_0 rfl) rfl rfl rfl ?_ ?_
  · refine s_iconst (pc1 := 49) (tk (n := 26) t233_0 rfl) rfl rfl  ?_
    exact s_ret (tk (n := 27) t233_0 rfl) rfl rfl rfl
  · refine s_aload_n (pc1 := 29) (tk (n := 16) t233_0 rfl) rfl rfl rfl ?_
    refine s_iload_n (pc1 := 30) (tk (n := 17) t233_0 rfl) rfl rfl rfl ?_
    refine s_iload (pc1 := 32) (tk (n := 18) t233_0 rfl) rfl rfl rfl ?_
    refine s_call0 (as := [(2, x0), (0, x1), (0, x4)]) (st1 := []) (p1 := 35) (M2 := 211) (tk (n := 19) t233_0 rfl) rfl rfl rfl rfl rfl (fun r10 => ?_)
    refine s_iload_n (pc1 := 36) (tk (n := 20) t233_0 rfl) rfl rfl rfl ?_
    refine s_ic_ne (pc1 := 39) (pt := 42) (tk (n := 21) t233_0 rfl) rfl rfl rfl ?_ ?_
    · refine s_iinc (pc1 := 45) (ls1 := [(2, x0), (0, x1), (9, 0), (0, x3), (0, w32 (x4 + 1))]) (tk (n := 24) t233_0 rfl) rfl rfl rfl rfl ?_
      refine s_goto (pc1 := 17) (tk (n := 25) t233_0 rfl) rfl rfl ?_
      rfl
    · refine s_iload (pc1 := 41) (tk (n := 22) t233_0 rfl) rfl rfl rfl ?_
      exact s_ret (tk (n := 23) t233_0 rfl) rfl rfl rfl
set_option maxRecDepth 100000 in
set_option maxHeartbeats 4000000 in
theorem e_X12_of (x0 : Int) (x1 : Int) (x2 : Int) (h : Hq) : vm 234 [(2, x0), (0, x1), (0, x2)] h = if 0 < x0 ∧ (kd x0).1 = 12 then if (kd (h.2 x0 18)).1 = 20 ∧ 0 ≤ (w32 ((w32 (7 * x1)) + x2)) ∧ (w32 ((w32 (7 * x1)) + x2)) < (kd (h.2 x0 18)).2 then some (some (0, h.2 (h.2 x0 18) (w32 ((w32 (7 * x1)) + x2))), h) else none else none := by
  show vp 234 0 [(2, x0), (0, x1), (0, x2)] [] h = _
  refine s_aload_n (pc1 := 1) (tk (n := 0) t234_0 rfl) rfl rfl rfl ?_
  refine s_getf (pc1 := 4) (c := 12) (t1 := 2) (tk (n := 1) t234_0 rfl) rfl rfl (by decide) rfl rfl ?_
  refine s_bipush (pc1 := 6) (tk (n := 2) t234_0 rfl) rfl rfl  ?_
  refine s_iload_n (pc1 := 7) (tk (n := 3) t234_0 rfl) rfl rfl rfl ?_
  refine s_imul (pc1 := 8) (tk (n := 4) t234_0 rfl) rfl rfl  ?_
  refine s_iload_n (pc1 := 9) (tk (n := 5) t234_0 rfl) rfl rfl rfl ?_
  refine s_iadd (pc1 := 10) (tk (n := 6) t234_0 rfl) rfl rfl  ?_
  refine s_iald (pc1 := 11) (tk (n := 7) t234_0 rfl) rfl rfl  ?_
  exact s_ret (tk (n := 8) t234_0 rfl) rfl rfl rfl
set_option maxRecDepth 100000 in
set_option maxHeartbeats 4000000 in
theorem e_X12_isTexture (x0 : Int) (x1 : Int) (h : Hq) : vm 235 [(2, x0), (0, x1)] h = if 0 < x0 ∧ (kd x0).1 = 12 then if (kd (h.2 x0 13)).1 = 20 ∧ 0 ≤ (4 : Int) ∧ (4 : Int) < (kd (h.2 x0 13)).2 then (vm 165 [(0, x1), (0, 0), (0, w32 ((h.2 (h.2 x0 13) 4) - 1))] h).bind (fun r9 => if (vx r9) = 0 ∨ (vx r9) = 1 then some (some (0, vx r9), r9.2) else none) else none else none := by
  show vp 235 0 [(2, x0), (0, x1)] [] h = _
  refine s_iload_n (pc1 := 1) (tk (n := 0) t235_0 rfl) rfl rfl rfl ?_
  refine s_iconst (pc1 := 2) (tk (n := 1) t235_0 rfl) rfl rfl  ?_
  refine s_aload_n (pc1 := 3) (tk (n := 2) t235_0 rfl) rfl rfl rfl ?_
  refine s_getf (pc1 := 6) (c := 12) (t1 := 2) (tk (n := 3) t235_0 rfl) rfl rfl (by decide) rfl rfl ?_
  refine s_iconst (pc1 := 7) (tk (n := 4) t235_0 rfl) rfl rfl  ?_
  refine s_iald (pc1 := 8) (tk (n := 5) t235_0 rfl) rfl rfl  ?_
  refine s_iconst (pc1 := 9) (tk (n := 6) t235_0 rfl) rfl rfl  ?_
  refine s_isub (pc1 := 10) (tk (n := 7) t235_0 rfl) rfl rfl  ?_
  refine s_callS0 (as := [(0, x1), (0, 0), (0, w32 ((h.2 (h.2 x0 13) 4) - 1))]) (st1 := []) (p1 := 13) (M2 := 165) (tk (n := 8) t235_0 rfl) rfl rfl rfl rfl rfl (fun r9 => ?_)
  exact s_retG (tk (n := 9) t235_0 rfl) rfl rfl rfl
set_option maxRecDepth 100000 in
set_option maxHeartbeats 4000000 in
theorem e_X12_isLevel (x0 : Int) (x1 : Int) (x2 : Int) (h : Hq) : vm 236 [(2, x0), (0, x1), (0, x2)] h = if 0 < x0 ∧ (kd x0).1 = 12 then (vm 235 [(2, x0), (0, x1)] h).bind (fun r3 => if (vx r3) = 0 then (some (some (0, 0), r3.2)) else (if 0 < x0 ∧ (kd x0).1 = 12 then (vm 234 [(2, x0), (0, x1), (0, 4)] r3.2).bind (fun r10 => (vm 165 [(0, x2), (0, 0), (0, w32 ((vx r10) - 1))] r10.2).bind (fun r13 => if (vx r13) = 0 then (some (some (0, 0), r13.2)) else (some (some (0, 1), r13.2)))) else none)) else none := by
  show vp 236 0 [(2, x0), (0, x1), (0, x2)] [] h = _
  refine s_aload_n (pc1 := 1) (tk (n := 0) t236_0 rfl) rfl rfl rfl ?_
  refine s_iload_n (pc1 := 2) (tk (n := 1) t236_0 rfl) rfl rfl rfl ?_
  refine s_call0 (as := [(2, x0), (0, x1)]) (st1 := []) (p1 := 5) (M2 := 235) (tk (n := 2) t236_0 rfl) rfl rfl rfl rfl rfl (fun r3 => ?_)
  refine s_if_eq (pc1 := 8) (pt := 28) (tk (n := 3) t236_0 rfl) rfl rfl rfl ?_ ?_
  · refine s_iconst (pc1 := 29) (tk (n := 16) t236_0 rfl) rfl rfl  ?_
    exact s_retY (tk (n := 17) t236_0 rfl) rfl rfl rfl (by decide)
  · refine s_iload_n (pc1 := 9) (tk (n := 4) t236_0 rfl) rfl rfl rfl ?_
    refine s_iconst (pc1 := 10) (tk (n := 5) t236_0 rfl) rfl rfl  ?_
    refine s_aload_n (pc1 := 11) (tk (n := 6) t236_0 rfl) rfl rfl rfl ?_
    refine s_iload_n (pc1 := 12) (tk (n := 7) t236_0 rfl) rfl rfl rfl ?_
    refine s_iconst (pc1 := 13) (tk (n := 8) t236_0 rfl) rfl rfl  ?_
    refine s_call0 (as := [(2, x0), (0, x1), (0, 4)]) (st1 := [(0, 0), (0, x2)]) (p1 := 16) (M2 := 234) (tk (n := 9) t236_0 rfl) rfl rfl rfl rfl rfl (fun r10 => ?_)
    refine s_iconst (pc1 := 17) (tk (n := 10) t236_0 rfl) rfl rfl  ?_
    refine s_isub (pc1 := 18) (tk (n := 11) t236_0 rfl) rfl rfl  ?_
    refine s_callS0 (as := [(0, x2), (0, 0), (0, w32 ((vx r10) - 1))]) (st1 := []) (p1 := 21) (M2 := 165) (tk (n := 12) t236_0 rfl) rfl rfl rfl rfl rfl (fun r13 => ?_)
    refine s_if_eq (pc1 := 24) (pt := 28) (tk (n := 13) t236_0 rfl) rfl rfl rfl ?_ ?_
    · refine s_iconst (pc1 := 29) (tk (n := 16) t236_0 rfl) rfl rfl  ?_
      exact s_retY (tk (n := 17) t236_0 rfl) rfl rfl rfl (by decide)
    · refine s_iconst (pc1 := 25) (tk (n := 14) t236_0 rfl) rfl rfl  ?_
      refine s_goto (pc1 := 29) (tk (n := 15) t236_0 rfl) rfl rfl ?_
      exact s_retY (tk (n := 17) t236_0 rfl) rfl rfl rfl (by decide)
set_option maxRecDepth 100000 in
set_option maxHeartbeats 4000000 in
theorem e_X12_wide (x0 : Int) (x1 : Int) (x2 : Int) (h : Hq) : vm 237 [(2, x0), (0, x1), (0, x2)] h = if 0 < x0 ∧ (kd x0).1 = 12 then (vm 234 [(2, x0), (0, x1), (0, 2)] h).bind (fun r4 => (vm 198 [(0, vx r4), (0, x2)] r4.2).bind (fun r6 => some (some (0, vx r6), r6.2))) else none := by
  show vp 237 0 [(2, x0), (0, x1), (0, x2)] [] h = _
  refine s_aload_n (pc1 := 1) (tk (n := 0) t237_0 rfl) rfl rfl rfl ?_
  refine s_iload_n (pc1 := 2) (tk (n := 1) t237_0 rfl) rfl rfl rfl ?_
  refine s_iconst (pc1 := 3) (tk (n := 2) t237_0 rfl) rfl rfl  ?_
  refine s_call0 (as := [(2, x0), (0, x1), (0, 2)]) (st1 := []) (p1 := 6) (M2 := 234) (tk (n := 3) t237_0 rfl) rfl rfl rfl rfl rfl (fun r4 => ?_)
  refine s_iload_n (pc1 := 7) (tk (n := 4) t237_0 rfl) rfl rfl rfl ?_
  refine s_callS0 (as := [(0, vx r4), (0, x2)]) (st1 := []) (p1 := 10) (M2 := 198) (tk (n := 5) t237_0 rfl) rfl rfl rfl rfl rfl (fun r6 => ?_)
  exact s_ret (tk (n := 6) t237_0 rfl) rfl rfl rfl
set_option maxRecDepth 100000 in
set_option maxHeartbeats 4000000 in
theorem e_X12_high (x0 : Int) (x1 : Int) (x2 : Int) (h : Hq) : vm 238 [(2, x0), (0, x1), (0, x2)] h = if 0 < x0 ∧ (kd x0).1 = 12 then (vm 234 [(2, x0), (0, x1), (0, 3)] h).bind (fun r4 => (vm 198 [(0, vx r4), (0, x2)] r4.2).bind (fun r6 => some (some (0, vx r6), r6.2))) else none := by
  show vp 238 0 [(2, x0), (0, x1), (0, x2)] [] h = _
  refine s_aload_n (pc1 := 1) (tk (n := 0) t238_0 rfl) rfl rfl rfl ?_
  refine s_iload_n (pc1 := 2) (tk (n := 1) t238_0 rfl) rfl rfl rfl ?_
  refine s_iconst (pc1 := 3) (tk (n := 2) t238_0 rfl) rfl rfl  ?_
  refine s_call0 (as := [(2, x0), (0, x1), (0, 3)]) (st1 := []) (p1 := 6) (M2 := 234) (tk (n := 3) t238_0 rfl) rfl rfl rfl rfl rfl (fun r4 => ?_)
  refine s_iload_n (pc1 := 7) (tk (n := 4) t238_0 rfl) rfl rfl rfl ?_
  refine s_callS0 (as := [(0, vx r4), (0, x2)]) (st1 := []) (p1 := 10) (M2 := 198) (tk (n := 5) t238_0 rfl) rfl rfl rfl rfl rfl (fun r6 => ?_)
  exact s_ret (tk (n := 6) t238_0 rfl) rfl rfl rfl
set_option maxRecDepth 100000 in
set_option maxHeartbeats 4000000 in
theorem e_X12_firstOf (x0 : Int) (x1 : Int) (x2 : Int) (h : Hq) : vm 239 [(2, x0), (0, x1), (0, x2)] h = if 0 < x0 ∧ (kd x0).1 = 12 then (vm 234 [(2, x0), (0, x1), (0, 1)] h).bind (fun r4 => if 0 < x0 ∧ (kd x0).1 = 12 then (vm 234 [(2, x0), (0, x1), (0, 2)] r4.2).bind (fun r8 => if 0 < x0 ∧ (kd x0).1 = 12 then (vm 234 [(2, x0), (0, x1), (0, 3)] r8.2).bind (fun r12 => (vm 199 [(0, vx r8), (0, vx r12), (0, x2)] r12.2).bind (fun r14 => some (some (0, w32 ((vx r4) + (vx r14))), r14.2))) else none) else none) else none := by
  show vp 239 0 [(2, x0), (0, x1), (0, x2)] [] h = _
  refine s_aload_n (pc1 := 1) (tk (n := 0) t239_0 rfl) rfl rfl rfl ?_
  refine s_iload_n (pc1 := 2) (tk (n := 1) t239_0 rfl) rfl rfl rfl ?_
  refine s_iconst (pc1 := 3) (tk (n := 2) t239_0 rfl) rfl rfl  ?_
  refine s_call0 (as := [(2, x0), (0, x1), (0, 1)]) (st1 := []) (p1 := 6) (M2 := 234) (tk (n := 3) t239_0 rfl) rfl rfl rfl rfl rfl (fun r4 => ?_)
  refine s_aload_n (pc1 := 7) (tk (n := 4) t239_0 rfl) rfl rfl rfl ?_
  refine s_iload_n (pc1 := 8) (tk (n := 5) t239_0 rfl) rfl rfl rfl ?_
  refine s_iconst (pc1 := 9) (tk (n := 6) t239_0 rfl) rfl rfl  ?_
  refine s_call0 (as := [(2, x0), (0, x1), (0, 2)]) (st1 := [(0, vx r4)]) (p1 := 12) (M2 := 234) (tk (n := 7) t239_0 rfl) rfl rfl rfl rfl rfl (fun r8 => ?_)
  refine s_aload_n (pc1 := 13) (tk (n := 8) t239_0 rfl) rfl rfl rfl ?_
  refine s_iload_n (pc1 := 14) (tk (n := 9) t239_0 rfl) rfl rfl rfl ?_
  refine s_iconst (pc1 := 15) (tk (n := 10) t239_0 rfl) rfl rfl  ?_
  refine s_call0 (as := [(2, x0), (0, x1), (0, 3)]) (st1 := [(0, vx r8), (0, vx r4)]) (p1 := 18) (M2 := 234) (tk (n := 11) t239_0 rfl) rfl rfl rfl rfl rfl (fun r12 => ?_)
  refine s_iload_n (pc1 := 19) (tk (n := 12) t239_0 rfl) rfl rfl rfl ?_
  refine s_callS0 (as := [(0, vx r8), (0, vx r12), (0, x2)]) (st1 := [(0, vx r4)]) (p1 := 22) (M2 := 199) (tk (n := 13) t239_0 rfl) rfl rfl rfl rfl rfl (fun r14 => ?_)
  refine s_iadd (pc1 := 23) (tk (n := 14) t239_0 rfl) rfl rfl  ?_
  exact s_ret (tk (n := 15) t239_0 rfl) rfl rfl rfl
set_option maxRecDepth 100000 in
set_option maxHeartbeats 4000000 in
theorem e_X12_isTexel (x0 : Int) (x1 : Int) (x2 : Int) (x3 : Int) (x4 : Int) (h : Hq) : vm 240 [(2, x0), (0, x1), (0, x2), (0, x3), (0, x4)] h = if 0 < x0 ∧ (kd x0).1 = 12 then (vm 236 [(2, x0), (0, x1), (0, x2)] h).bind (fun r4 => if (vx r4) = 0 then (some (some (0, 0), r4.2)) else (if 0 < x0 ∧ (kd x0).1 = 12 then (vm 237 [(2, x0), (0, x1), (0, x2)] r4.2).bind (fun r11 => (vm 165 [(0, x3), (0, 0), (0, w32 ((vx r11) - 1))] r11.2).bind (fun r14 => if (vx r14) = 0 then (some (some (0, 0), r14.2)) else (if 0 < x0 ∧ (kd x0).1 = 12 then (vm 238 [(2, x0), (0, x1), (0, x2)] r14.2).bind (fun r21 => (vm 165 [(0, x4), (0, 0), (0, w32 ((vx r21) - 1))] r21.2).bind (fun r24 => if (vx r24) = 0 then (some (some (0, 0), r24.2)) else (some (some (0, 1), r24.2)))) else none))) else none)) else none := by
  show vp 240 0 [(2, x0), (0, x1), (0, x2), (0, x3), (0, x4)] [] h = _
  refine s_aload_n (pc1 := 1) (tk (n := 0) t240_0 rfl) rfl rfl rfl ?_
  refine s_iload_n (pc1 := 2) (tk (n := 1) t240_0 rfl) rfl rfl rfl ?_
  refine s_iload_n (pc1 := 3) (tk (n := 2) t240_0 rfl) rfl rfl rfl ?_
  refine s_call0 (as := [(2, x0), (0, x1), (0, x2)]) (st1 := []) (p1 := 6) (M2 := 236) (tk (n := 3) t240_0 rfl) rfl rfl rfl rfl rfl (fun r4 => ?_)
  refine s_if_eq (pc1 := 9) (pt := 46) (tk (n := 4) t240_0 rfl) rfl rfl rfl ?_ ?_
  · refine s_iconst (pc1 := 47) (tk (n := 27) t240_0 rfl) rfl rfl  ?_
    exact s_retY (tk (n := 28) t240_0 rfl) rfl rfl rfl (by decide)
  · refine s_iload_n (pc1 := 10) (tk (n := 5) t240_0 rfl) rfl rfl rfl ?_
    refine s_iconst (pc1 := 11) (tk (n := 6) t240_0 rfl) rfl rfl  ?_
    refine s_aload_n (pc1 := 12) (tk (n := 7) t240_0 rfl) rfl rfl rfl ?_
    refine s_iload_n (pc1 := 13) (tk (n := 8) t240_0 rfl) rfl rfl rfl ?_
    refine s_iload_n (pc1 := 14) (tk (n := 9) t240_0 rfl) rfl rfl rfl ?_
    refine s_call0 (as := [(2, x0), (0, x1), (0, x2)]) (st1 := [(0, 0), (0, x3)]) (p1 := 17) (M2 := 237) (tk (n := 10) t240_0 rfl) rfl rfl rfl rfl rfl (fun r11 => ?_)
    refine s_iconst (pc1 := 18) (tk (n := 11) t240_0 rfl) rfl rfl  ?_
    refine s_isub (pc1 := 19) (tk (n := 12) t240_0 rfl) rfl rfl  ?_
    refine s_callS0 (as := [(0, x3), (0, 0), (0, w32 ((vx r11) - 1))]) (st1 := []) (p1 := 22) (M2 := 165) (tk (n := 13) t240_0 rfl) rfl rfl rfl rfl rfl (fun r14 => ?_)
    refine s_if_eq (pc1 := 25) (pt := 46) (tk (n := 14) t240_0 rfl) rfl rfl rfl ?_ ?_
    · refine s_iconst (pc1 := 47) (tk (n := 27) t240_0 rfl) rfl rfl  ?_
      exact s_retY (tk (n := 28) t240_0 rfl) rfl rfl rfl (by decide)
    · refine s_iload (pc1 := 27) (tk (n := 15) t240_0 rfl) rfl rfl rfl ?_
      refine s_iconst (pc1 := 28) (tk (n := 16) t240_0 rfl) rfl rfl  ?_
      refine s_aload_n (pc1 := 29) (tk (n := 17) t240_0 rfl) rfl rfl rfl ?_
      refine s_iload_n (pc1 := 30) (tk (n := 18) t240_0 rfl) rfl rfl rfl ?_
      refine s_iload_n (pc1 := 31) (tk (n := 19) t240_0 rfl) rfl rfl rfl ?_
      refine s_call0 (as := [(2, x0), (0, x1), (0, x2)]) (st1 := [(0, 0), (0, x4)]) (p1 := 34) (M2 := 238) (tk (n := 20) t240_0 rfl) rfl rfl rfl rfl rfl (fun r21 => ?_)
      refine s_iconst (pc1 := 35) (tk (n := 21) t240_0 rfl) rfl rfl  ?_
      refine s_isub (pc1 := 36) (tk (n := 22) t240_0 rfl) rfl rfl  ?_
      refine s_callS0 (as := [(0, x4), (0, 0), (0, w32 ((vx r21) - 1))]) (st1 := []) (p1 := 39) (M2 := 165) (tk (n := 23) t240_0 rfl) rfl rfl rfl rfl rfl (fun r24 => ?_)
      refine s_if_eq (pc1 := 42) (pt := 46) (tk (n := 24) t240_0 rfl) rfl rfl rfl ?_ ?_
      · refine s_iconst (pc1 := 47) (tk (n := 27) t240_0 rfl) rfl rfl  ?_
        exact s_retY (tk (n := 28) t240_0 rfl) rfl rfl rfl (by decide)
      · refine s_iconst (pc1 := 43) (tk (n := 25) t240_0 rfl) rfl rfl  ?_
        refine s_goto (pc1 := 47) (tk (n := 26) t240_0 rfl) rfl rfl ?_
        exact s_retY (tk (n := 28) t240_0 rfl) rfl rfl rfl (by decide)
