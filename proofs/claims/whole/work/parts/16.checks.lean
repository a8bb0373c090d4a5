/-! THE CHECKS: what the simulation asks of each class and of each place of the code, by evaluation -/
def newP : List (Nat × Nat) := [(2091, 1011), (2112, 1012), (2167, 1015), (1037, 1003), (2200, 1016), (1197, 1009), (0, 1021), (1162, 1008), (2148, 1014), (1031, 1002), (1204, 1010), (1023, 1001), (5188, 1017)]
def newQ (k : Nat) : Nat := if k = 20 then 1194 else if k = 21 then 1138 else if k = 22 then 1195 else 1139
def nfB (ty : FieldType) : Bool := match ty with
  | .boolean => true
  | .int => true
  | .long => true
  | .object _ => true
  | .array _ => true
  | _ => false
noncomputable def clsOk (ci : Nat) : Bool := match classes[ci]? with
  | some r => (u_ws r.1 r.2.1 r.2.2).all goodWord && (List.range r.2.2).all (fun k => decide (parseFieldDescriptor (r.2.1 k).2.2.1 = some (CY ci k))) && (List.range r.2.2).all (fun a => (List.range r.2.2).all (fun b => Nat.beq a b || decide ((r.2.1 a).2.1 ≠ (r.2.1 b).2.1))) && (List.range r.2.2).all (fun k => nfB (CY ci k))
  | none => false
set_option maxRecDepth 100000 in
theorem cls_ok0 : ∀ ci ∈ List.range 13, clsOk ci = true := by decide +kernel
theorem u_inA : ∀ (ci : Nat) (r : vw_C), classes[ci]? = some r → ∀ w ∈ u_ws r.1 r.2.1 r.2.2, w ∈ lw_tbl
  | 0, r, h => by cases h; exact u_in0
  | 1, r, h => by cases h; exact u_in1
  | 2, r, h => by cases h; exact u_in2
  | 3, r, h => by cases h; exact u_in3
  | 4, r, h => by cases h; exact u_in4
  | 5, r, h => by cases h; exact u_in5
  | 6, r, h => by cases h; exact u_in6
  | 7, r, h => by cases h; exact u_in7
  | 8, r, h => by cases h; exact u_in8
  | 9, r, h => by cases h; exact u_in9
  | 10, r, h => by cases h; exact u_in10
  | 11, r, h => by cases h; exact u_in11
  | 12, r, h => by cases h; exact u_in12
  | n + 13, r, h => by cases h
def sta (m : Nat) : Bool := match mtL[m]? with
  | some q => Nat.beq q.2.2.2.1 0
  | none => false
/-- a call's method, its place in the table or among the links of nest mates -/
noncomputable def lnk (M j m : Nat) (p v : Int) : Bool := if v < 3 then decide (tw p.toNat = some (.methodLink (CL M) j (Yn m))) else decide ((nstL[p.toNat]?).map (fun q => (q.1, q.2.1, q.2.2.1)) = some (CL M, j, Yn m))
noncomputable def ckV1 (M j m n : Nat) (rc mx p v : Int) (k : Nat) : Bool :=
  Nat.blt m 323 && (Nat.ble mx.toNat (ML m) && (Nat.ble (FR m + 1) (FR M) && (Nat.ble (8 + (ML m + 11) + LO m) (LO M) && (Nat.blt (RT m) 10 &&
  (decide ((parseMethodDescriptor (Yn m).desc).map (fun d => d.parameters.length) = some (if k = 0 then n else n - 1)) && (lnk M j m p v &&
  (if k = 0 then sta m else if k = 1 then (!(sta m) && (!(isI m) && (decide (v < 3) && (if rc = 30 then decide ((Yn m).cls = "java/lang/String") else (Nat.blt rc.toNat 20 && decide ((classes[rc.toNat]?).map (fun r => r.1) = some (Yn m).cls))))))
    else (!(sta m) && (isI m && (decide (Rt m = none) && (decide (rc ≠ 30) && Nat.blt 0 n)))))))))))
noncomputable def ckV (M j : Nat) (o : List Int) (k : Nat) : Bool := match o with
  | [M', n, rc, mx, p, v] => ckV1 M j M'.toNat n.toNat rc mx p v k
  | _ => false
def retB (t : Int) (r : Option FieldType) : Bool := match r with
  | some .int => decide (t = 0)
  | some .boolean => decide (t = 3)
  | some .byte => decide (t = 4)
  | some .char => decide (t = 5)
  | _ => false
noncomputable def ckF (M j : Nat) (p ci k t : Int) : Bool := match classes[ci.toNat]? with
  | some r => Nat.blt ci.toNat 13 && (decide (0 ≤ k) && (Nat.blt k.toNat r.2.2 && (decide (tw p.toNat = some (.fieldLink (CL M) j (r.2.1 k.toNat).1 (r.2.1 k.toNat).2.1 (r.2.1 k.toNat).2.2.1)) && Nat.beq (tg3 t) (tyg (CY ci.toNat k.toNat)))))
  | none => false
noncomputable def ckP (M : Nat) (ci k t : Int) : Bool := match classes[ci.toNat]? with
  | some r => (!(r.2.1 k.toNat).2.2.2 || (isI M && decide ((r.2.1 k.toNat).1 = CL M))) && (match CY ci.toNat k.toNat with
    | .boolean => decide (t = 3)
    | ty => nfB ty)
  | none => false
noncomputable def ckN (M j : Nat) (p ci : Int) : Bool := match classes[ci.toNat]? with
  | some r => Nat.blt ci.toNat 13 && (decide (tw p.toNat = some (.classLink (CL M) j r.1)) && (match newP[ci.toNat]? with
    | some q => decide (tw q.1 = some (.instantiable r.1 r.2.2)) && decide (tw q.2 = some (.initialized r.1))
    | none => false))
  | none => false
noncomputable def ckI (M pc len : Nat) (o : List Int) (i : Instr) : Bool := match i with
  | .iconst n => Nat.beq len 1 && decide (-2147483648 ≤ n ∧ n < 2147483648)
  | .bipush n => Nat.beq len 2 && decide (-128 ≤ n ∧ n ≤ 127)
  | .sipush n => Nat.beq len 3 && decide (-32768 ≤ n ∧ n ≤ 32767)
  | .ldc j => Nat.beq len 2 && (match o with
    | [p, v] => decide (tw p.toNat = some (.constant (CL M) j (Int32.ofInt v))) && decide (-2147483648 ≤ v ∧ v < 2147483648)
    | [k] => decide (-5 ≤ k ∧ k ≤ -3) && decide ((strL[(-3 - k).toNat]?).map (fun q => (q.1, q.2.1)) = some (CL M, j))
    | _ => false)
  | .ldc_w j => Nat.beq len 3 && (match o with
    | [p, v] => decide (tw p.toNat = some (.constant (CL M) j (Int32.ofInt v))) && decide (-2147483648 ≤ v ∧ v < 2147483648)
    | _ => false)
  | .ldc2_w j => Nat.beq len 3 && (match o with
    | [p, v] => decide (tw p.toNat = some (.constantLong (CL M) j (Int64.ofInt v))) && decide (-9223372036854775808 ≤ v ∧ v < 9223372036854775808)
    | _ => false)
  | .iload _ => Nat.beq len 2
  | .lload _ => Nat.beq len 2
  | .aload _ => Nat.beq len 2
  | .istore _ => Nat.beq len 2
  | .lstore _ => Nat.beq len 2
  | .astore _ => Nat.beq len 2
  | .iinc _ n => Nat.beq len 3 && decide (-2147483648 ≤ n ∧ n < 2147483648)
  | .ifCond _ off => Nat.beq len 3 && decide (0 ≤ (pc : Int) + off)
  | .if_icmp _ off => Nat.beq len 3 && decide (0 ≤ (pc : Int) + off)
  | .ifnonnull off => Nat.beq len 3 && decide (0 ≤ (pc : Int) + off)
  | .goto off => Nat.beq len 3 && decide (0 ≤ (pc : Int) + off)
  | .tableswitch d lo hi offs => decide (0 ≤ (pc : Int) + d) && (decide (hi + 1 = lo + offs.toList.length) && offs.toList.all (fun off => decide (0 ≤ (pc : Int) + off)))
  | .getfield j => Nat.beq len 3 && (match o with
    | [p, ci, k, t] => if ci = 99 then decide (tw p.toNat = some (.fieldLink (CL M) j "java/lang/String" (if k = 0 then "value" else "coder") (if k = 0 then "[B" else "B"))) else ckF M j p ci k t
    | _ => false)
  | .putfield j => Nat.beq len 3 && (match o with
    | [p, ci, k, t] => ckF M j p ci k t && ckP M ci k t
    | _ => false)
  | .getstatic j => Nat.beq len 3 && (match o with
    | [p, s] => if s = 0 then decide (tw p.toNat = some (.fieldLink (CL M) j "java/lang/String" "COMPACT_STRINGS" "Z")) else if s = 1 then decide (tw p.toNat = some (.fieldLink (CL M) j "TexelBank$Stores" "WIDER" "[I")) else decide (tw p.toNat = some (.fieldLink (CL M) j "jdk/internal/util/Preconditions" "SIOOBE_FORMATTER" "Ljava/util/function/BiFunction;"))
    | _ => false)
  | .baload => Nat.beq len 1 && (match o with
    | [k] => decide (k = 21 ∨ k = 22)
    | _ => false)
  | .bastore => Nat.beq len 1 && (match o with
    | [k] => decide (k = 21 ∨ k = 22)
    | _ => false)
  | .aaload => Nat.beq len 1 && (match o with
    | [k] => decide (k = 24 ∨ k = 25)
    | _ => false)
  | .aastore => Nat.beq len 1 && (match o with
    | [k] => decide (k = 24 ∨ k = 25)
    | _ => false)
  | .newarray t => Nat.beq len 2 && (match o with
    | [p, k] => decide (k = 20 ∨ k = 21 ∨ k = 22 ∨ k = 23) && (decide (t = atK k.toNat) && decide (tw (newQ k.toNat) = some (.arrayClass (newarray.typeOf (atK k.toNat)))))
    | _ => false)
  | .anewarray j => Nat.beq len 3 && (match o with
    | [p, k] => (decide (k = 25) && decide (tw p.toNat = some (.classLink (CL M) j "TexelBank$Texture"))) || (decide (k = 24) && decide (tw p.toNat = some (.classLink (CL M) j "[I")))
    | _ => false)
  | .multianewarray j n => Nat.beq len 4 && (Nat.beq n 2 && (match o with
    | p :: _ => decide (tw p.toNat = some (.classLink (CL M) j "[[I"))
    | _ => false))
  | .new j => Nat.beq len 3 && (match o with
    | [p, ci] => ckN M j p ci
    | _ => false)
  | .invokestatic j => Nat.beq len 3 && (match o with
    | [p] => decide (tw p.toNat = some (.methodLink (CL M) j arraycopyName)) && (Nat.ble 1 (FR M) && Nat.ble 60 (LO M))
    | [] => true
    | o => ckV M j o 0)
  | .invokevirtual j => Nat.beq len 3 && ckV M j o 1
  | .invokespecial j => Nat.beq len 3 && (match o with
    | [p] => decide (tw p.toNat = some (.methodLink (CL M) j objectInit)) && (Nat.ble 1 (FR M) && Nat.ble 60 (LO M))
    | o => ckV M j o 2)
  | .ireturn => Nat.beq len 1 && (match o with
    | [t] => retB t (Rt M)
    | _ => false)
  | .lreturn => Nat.beq len 1 && decide (Rt M = some .long)
  | .areturn => Nat.beq len 1 && (match Rt M with
    | some (.array _) => true
    | _ => false)
  | .return_ => Nat.beq len 1 && decide (Rt M = none)
  | _ => Nat.beq len 1
def dcd (c : ByteArray) (pc len : Nat) (i : Instr) : Bool := match decode c pc with
  | .ok r => decide (r.1 = i) && Nat.beq r.2 len
  | .error _ => false
noncomputable def ck (M : Nat) (q : Nat × Nat × Instr × List Int × List Nat) : Bool := dcd (Bt M) q.1 q.2.1 q.2.2.1 && ckI M q.1 q.2.1 q.2.2.2.1 q.2.2.1
set_option maxRecDepth 100000 in
theorem wd_oini : tw 1028 = some (.instanceMethod objectInit) ∧ tw 1029 = some (.code objectInit ⟨#[0xb1]⟩ 1 none) := by decide +kernel
set_option maxRecDepth 100000 in
theorem wd_cpy : tw 4051 = some (.native arraycopyName) ∧ tw 4050 = some (.static arraycopyName) ∧ tw 1020 = some (.initialized "java/lang/System") := by decide +kernel
set_option maxRecDepth 100000 in
theorem wd_int : tw 1194 = some (.arrayClass .int) := by decide +kernel
