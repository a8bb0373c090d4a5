/-! THE PURE MACHINE: values are tagged whole numbers (0 int, 1 long, 2 reference; 9 nothing), the memory is one function. Its kinds of cells, its code tables come as arguments of 'act', 'ex'. -/
abbrev Vl : Type := Nat × Int
abbrev Mm : Type := Int → Int → Int
abbrev Hq : Type := Int × Mm
abbrev DP : Type := (p : Prop) ×' Decidable p
abbrev Go : Type := Nat × List Vl × List Vl × Hq
abbrev XA : Type := Go ⊕ ((DP × Nat × Go) ⊕ ((Int × List (Int × Nat) × Go) ⊕ ((Nat × List Vl × Go) ⊕ (Option Vl × Hq))))
abbrev AC : Type := Option (DP × XA)
abbrev Rs : Type := Option Vl × Hq
def w32 (x : Int) : Int := (x + 2147483648) % 4294967296 - 2147483648
def w64 (x : Int) : Int := (x + 9223372036854775808) % 18446744073709551616 - 9223372036854775808
def w8 (x : Int) : Int := (x + 128) % 256 - 128
def w16 (x : Int) : Int := (x + 32768) % 65536 - 32768
def band (x y : Int) : Int := (Int32.ofInt x &&& Int32.ofInt y).toInt
def bor (x y : Int) : Int := (Int32.ofInt x ||| Int32.ofInt y).toInt
def bxor (x y : Int) : Int := (Int32.ofInt x ^^^ Int32.ofInt y).toInt
def bshl (x y : Int) : Int := (Int32.ofInt x <<< (Int32.ofInt y &&& 31)).toInt
def bshr (x y : Int) : Int := (Int32.ofInt x >>> (Int32.ofInt y &&& 31)).toInt
def bushr (x y : Int) : Int := ((Int32.ofInt x).toUInt32 >>> ((Int32.ofInt y).toUInt32 &&& Int32.toUInt32 31)).toInt32.toInt
def lband (x y : Int) : Int := (Int64.ofInt x &&& Int64.ofInt y).toInt
def lbor (x y : Int) : Int := (Int64.ofInt x ||| Int64.ofInt y).toInt
def lbxor (x y : Int) : Int := (Int64.ofInt x ^^^ Int64.ofInt y).toInt
def lbshl (x y : Int) : Int := (Int64.ofInt x <<< ((Int32.ofInt y).toInt64 &&& 63)).toInt
def lbshr (x y : Int) : Int := (Int64.ofInt x >>> ((Int32.ofInt y).toInt64 &&& 63)).toInt
def stm (m : Mm) (a i v : Int) : Mm := fun o k => if o = a ∧ k = i then v else m o k
def cpm (m : Mm) (a d b s n : Int) : Mm := fun o k => if o = b ∧ s ≤ k ∧ k < s + n then m a (d + (k - s)) else m o k
def mnm (m : Mm) (a n : Int) : Mm := fun o k => if o = a ∧ 0 ≤ k ∧ k < n then a + 1 + k else m o k
def tt : DP := ⟨True, instDecidableTrue⟩
def nx (pc : Nat) (ls st : List Vl) (h : Hq) : AC := some (tt, .inl (pc, ls, st, h))
def nxg (g : DP) (pc : Nat) (ls st : List Vl) (h : Hq) : AC := some (g, .inl (pc, ls, st, h))
def brq (c : DP) (pt pf : Nat) (ls st : List Vl) (h : Hq) : AC := some (tt, .inr (.inl (c, pt, pf, ls, st, h)))
def tgt (pc : Nat) (off : Int) : Nat := ((pc : Int) + off).toNat
def kill1 (ls : List Vl) (k : Nat) : List Vl := match k with
  | 0 => ls
  | j + 1 => match ls[j]? with
    | some v => cond (Nat.beq v.1 1) (ls.set j (9, 0)) ls
    | none => ls
def set1 (ls : List Vl) (k : Nat) (v : Vl) : List Vl := (kill1 ls k).set k v
def set2 (ls : List Vl) (k : Nat) (v : Vl) : List Vl := ((kill1 ls k).set (k + 1) (9, 0)).set k v
def ldq (t k pc len : Nat) (ls st : List Vl) (h : Hq) : AC := match ls[k]? with
  | some v => cond (Nat.beq v.1 t) (nx (pc + len) ls (v :: st) h) none
  | none => none
def st1 (t k pc len : Nat) (ls st : List Vl) (h : Hq) : AC := match st with
  | v :: r => cond (Nat.beq v.1 t && Nat.blt k ls.length) (nx (pc + len) (set1 ls k v) r h) none
  | [] => none
def st2 (k pc len : Nat) (ls st : List Vl) (h : Hq) : AC := match st with
  | v :: r => cond (Nat.beq v.1 1 && Nat.blt (k + 1) ls.length) (nx (pc + len) (set2 ls k v) r h) none
  | [] => none
def u1 (a b : Nat) (f : Int → Int) (pc len : Nat) (ls st : List Vl) (h : Hq) : AC := match st with
  | x :: r => cond (Nat.beq x.1 a) (nx (pc + len) ls ((b, f x.2) :: r) h) none
  | [] => none
def b2 (ta tb tc : Nat) (f : Int → Int → Int) (pc len : Nat) (ls st : List Vl) (h : Hq) : AC := match st with
  | y :: x :: r => cond (Nat.beq x.1 ta && Nat.beq y.1 tb) (nx (pc + len) ls ((tc, f x.2 y.2) :: r) h) none
  | _ => none
def b2z (t : Nat) (f : Int → Int → Int) (pc len : Nat) (ls st : List Vl) (h : Hq) : AC := match st with
  | y :: x :: r => cond (Nat.beq x.1 t && Nat.beq y.1 t) (nxg ⟨y.2 ≠ 0, inferInstance⟩ (pc + len) ls ((t, f x.2 y.2) :: r) h) none
  | _ => none
def cmp0 (c : Jvm.ClassFile.Cond) (x y : Int) : DP := match c with
  | .eq => ⟨x = y, inferInstance⟩
  | .ne => ⟨x ≠ y, inferInstance⟩
  | .lt => ⟨x < y, inferInstance⟩
  | .ge => ⟨x ≥ y, inferInstance⟩
  | .gt => ⟨x > y, inferInstance⟩
  | .le => ⟨x ≤ y, inferInstance⟩
def tg3 (t : Int) : Nat := if t = 1 then 1 else if t = 2 then 2 else 0
def swc (pc : Nat) : Int → List Int → List (Int × Nat)
  | _, [] => []
  | v, o :: r => (v, tgt pc o) :: swc pc (v + 1) r
def cats : List Vl → Nat
  | [] => 0
  | v :: r => (if Nat.beq v.1 1 = true then 2 else 1) + cats r
def okT (t : Int) (v : Int) : DP := if t = 3 then ⟨v = 0 ∨ v = 1, inferInstance⟩ else if t = 4 then ⟨-128 ≤ v ∧ v ≤ 127, inferInstance⟩ else if t = 5 then ⟨0 ≤ v ∧ v ≤ 65535, inferInstance⟩ else tt
def dAnd (a b : DP) : DP := ⟨a.1 ∧ b.1, @instDecidableAnd _ _ a.2 b.2⟩
def entL : List Vl → List Vl
  | [] => []
  | v :: r => v :: cond (Nat.beq v.1 1) ((9, 0) :: entL r) (entL r)
section AM
variable (kd : Int → Nat × Int)
def ald (k : Nat) (t pc len : Nat) (ls st : List Vl) (h : Hq) : AC := match st with
  | i :: a :: r => cond (Nat.beq i.1 0 && Nat.beq a.1 2) (nxg ⟨(kd a.2).1 = k ∧ 0 ≤ i.2 ∧ i.2 < (kd a.2).2, inferInstance⟩ (pc + len) ls ((t, h.2 a.2 i.2) :: r) h) none
  | _ => none
def ast (k : Nat) (t : Nat) (f : Int → Int) (pc len : Nat) (ls st : List Vl) (h : Hq) : AC := match st with
  | v :: i :: a :: r => cond (Nat.beq v.1 t && Nat.beq i.1 0 && Nat.beq a.1 2) (nxg ⟨0 < a.2 ∧ (kd a.2).1 = k ∧ 0 ≤ i.2 ∧ i.2 < (kd a.2).2, inferInstance⟩ (pc + len) ls r (h.1, stm h.2 a.2 i.2 (f v.2))) none
  | _ => none
def inv (o : List Int) (vr : Bool) (pc len : Nat) (ls st : List Vl) (h : Hq) : AC := match o with
  | M :: n :: rc :: mx :: _ => cond (Nat.ble n.toNat st.length && Nat.ble (cats (st.drop n.toNat)) 8 && Nat.ble (entL (st.take n.toNat).reverse).length mx.toNat)
      (some (match vr, (st.take n.toNat).reverse with
        | true, v :: _ => cond (Nat.beq v.1 2) ((if rc = 30 then ⟨-5 ≤ v.2 ∧ v.2 ≤ -3, inferInstance⟩ else ⟨0 < v.2 ∧ (kd v.2).1 = rc.toNat, inferInstance⟩ : DP)) ⟨False, instDecidableFalse⟩
        | true, [] => ⟨False, instDecidableFalse⟩
        | false, _ => tt, .inr (.inr (.inr (.inl (M.toNat, (st.take n.toNat).reverse, pc + len, ls, st.drop n.toNat, h)))))) none
  | _ => none
def act (i : Instr) (o : List Int) (pc len : Nat) (ls st : List Vl) (h : Hq) : AC :=
  match i with
  | .iconst n => nx (pc + len) ls ((0, n) :: st) h
  | .bipush n => nx (pc + len) ls ((0, n) :: st) h
  | .sipush n => nx (pc + len) ls ((0, n) :: st) h
  | .lconst n => nx (pc + len) ls ((1, ((n : Nat) : Int)) :: st) h
  | .ldc _ => match o with
    | [_, v] => nx (pc + len) ls ((0, v) :: st) h
    | [k] => nx (pc + len) ls ((2, k) :: st) h
    | _ => none
  | .ldc_w _ => match o with
    | [_, v] => nx (pc + len) ls ((0, v) :: st) h
    | _ => none
  | .ldc2_w _ => match o with
    | [_, v] => nx (pc + len) ls ((1, v) :: st) h
    | _ => none
  | .iload k => ldq 0 k pc len ls st h
  | .iload_n k => ldq 0 k pc len ls st h
  | .lload k => ldq 1 k pc len ls st h
  | .lload_n k => ldq 1 k pc len ls st h
  | .aload k => ldq 2 k pc len ls st h
  | .aload_n k => ldq 2 k pc len ls st h
  | .istore k => st1 0 k pc len ls st h
  | .istore_n k => st1 0 k pc len ls st h
  | .astore k => st1 2 k pc len ls st h
  | .astore_n k => st1 2 k pc len ls st h
  | .lstore k => st2 k pc len ls st h
  | .lstore_n k => st2 k pc len ls st h
  | .iinc k n => match ls[k]? with
    | some v => cond (Nat.beq v.1 0) (nx (pc + len) (set1 ls k (0, w32 (v.2 + n))) st h) none
    | none => none
  | .iadd => b2 0 0 0 (fun x y => w32 (x + y)) pc len ls st h
  | .isub => b2 0 0 0 (fun x y => w32 (x - y)) pc len ls st h
  | .imul => b2 0 0 0 (fun x y => w32 (x * y)) pc len ls st h
  | .idiv => b2z 0 (fun x y => w32 (x.tdiv y)) pc len ls st h
  | .irem => b2z 0 (fun x y => x.tmod y) pc len ls st h
  | .ineg => u1 0 0 (fun x => w32 (-x)) pc len ls st h
  | .iand => b2 0 0 0 band pc len ls st h
  | .ior => b2 0 0 0 bor pc len ls st h
  | .ixor => b2 0 0 0 bxor pc len ls st h
  | .ishl => b2 0 0 0 bshl pc len ls st h
  | .ishr => b2 0 0 0 bshr pc len ls st h
  | .iushr => b2 0 0 0 bushr pc len ls st h
  | .ladd => b2 1 1 1 (fun x y => w64 (x + y)) pc len ls st h
  | .lmul => b2 1 1 1 (fun x y => w64 (x * y)) pc len ls st h
  | .ldiv => b2z 1 (fun x y => w64 (x.tdiv y)) pc len ls st h
  | .lrem => b2z 1 (fun x y => x.tmod y) pc len ls st h
  | .land => b2 1 1 1 lband pc len ls st h
  | .lor => b2 1 1 1 lbor pc len ls st h
  | .lxor => b2 1 1 1 lbxor pc len ls st h
  | .lshl => b2 1 0 1 lbshl pc len ls st h
  | .lshr => b2 1 0 1 lbshr pc len ls st h
  | .i2l => u1 0 1 (fun x => x) pc len ls st h
  | .l2i => u1 1 0 w32 pc len ls st h
  | .i2b => u1 0 0 w8 pc len ls st h
  | .i2s => u1 0 0 w16 pc len ls st h
  | .i2c => u1 0 0 (fun x => x % 65536) pc len ls st h
  | .lcmp => b2 1 1 0 (fun x y => if x < y then -1 else if x = y then 0 else 1) pc len ls st h
  | .dup => match st with
    | x :: r => cond (Nat.beq x.1 1) none (nx (pc + len) ls (x :: x :: r) h)
    | [] => none
  | .pop => match st with
    | x :: r => cond (Nat.beq x.1 1) none (nx (pc + len) ls r h)
    | [] => none
  | .dup2 => match st with
    | x :: y :: r => cond (Nat.beq x.1 1 || Nat.beq y.1 1) none (nx (pc + len) ls (x :: y :: x :: y :: r) h)
    | _ => none
  | .ifCond c off => match st with
    | x :: r => cond (Nat.beq x.1 0) (brq (cmp0 c x.2 0) (tgt pc off) (pc + len) ls r h) none
    | [] => none
  | .if_icmp c off => match st with
    | y :: x :: r => cond (Nat.beq x.1 0 && Nat.beq y.1 0) (brq (cmp0 c x.2 y.2) (tgt pc off) (pc + len) ls r h) none
    | _ => none
  | .ifnonnull off => match st with
    | x :: r => cond (Nat.beq x.1 2) (some (⟨0 ≤ x.2, inferInstance⟩, .inr (.inl (⟨x.2 ≠ 0, inferInstance⟩, tgt pc off, pc + len, ls, r, h)))) none
    | [] => none
  | .goto off => nx (tgt pc off) ls st h
  | .tableswitch d lo _ offs => match st with
    | x :: r => cond (Nat.beq x.1 0) (some (tt, .inr (.inr (.inl (x.2, swc pc lo offs.toList, tgt pc d, ls, r, h))))) none
    | [] => none
  | .getfield _ => match o with
    | [_, ci, k, t] => match st with
      | x :: r => cond (Nat.beq x.1 2)
          (if ci = 99 then nxg ⟨-5 ≤ x.2 ∧ x.2 ≤ -3, inferInstance⟩ (pc + len) ls ((if k = 0 then (2, x.2 - 3) else (0, 0)) :: r) h
           else nxg ⟨0 < x.2 ∧ (kd x.2).1 = ci.toNat, inferInstance⟩ (pc + len) ls ((tg3 t, h.2 x.2 k) :: r) h) none
      | [] => none
    | _ => none
  | .putfield _ => match o with
    | [_, ci, k, t] => match st with
      | v :: x :: r => cond (Nat.beq x.1 2 && Nat.beq v.1 (tg3 t)) (nxg (dAnd ⟨0 < x.2 ∧ (kd x.2).1 = ci.toNat, inferInstance⟩ (okT t v.2)) (pc + len) ls r (h.1, stm h.2 x.2 k v.2)) none
      | _ => none
    | _ => none
  | .getstatic _ => match o with
    | [_, s] => nx (pc + len) ls ((if s = 0 then (0, 1) else if s = 1 then (2, -2) else (2, -9)) :: st) h
    | _ => none
  | .iaload => match o with
    | [] => ald kd 20 0 pc len ls st h
    | _ => match st with
      | i :: a :: r => cond (Nat.beq i.1 0 && Nat.beq a.1 2) (nxg ⟨a.2 = -1 ∧ 0 ≤ i.2 ∧ i.2 < h.2 (-1) (-1), inferInstance⟩ (pc + len) ls ((0, h.2 a.2 i.2) :: r) h) none
      | _ => none
  | .baload => match o with
    | [k] => ald kd k.toNat 0 pc len ls st h
    | _ => none
  | .laload => ald kd 23 1 pc len ls st h
  | .aaload => match o with
    | [k] => ald kd k.toNat 2 pc len ls st h
    | _ => none
  | .iastore => ast kd 20 0 (fun v => v) pc len ls st h
  | .bastore => match o with
    | [k] => ast kd k.toNat 0 (fun v => if k = 21 then w8 v else v % 2) pc len ls st h
    | _ => none
  | .lastore => ast kd 23 1 (fun v => v) pc len ls st h
  | .aastore => match o with
    | [k] => match st with
      | v :: i :: a :: r => cond (Nat.beq v.1 2 && Nat.beq i.1 0 && Nat.beq a.1 2) (nxg ⟨0 < a.2 ∧ (kd a.2).1 = k.toNat ∧ (0 ≤ i.2 ∧ i.2 < (kd a.2).2) ∧ 0 < v.2 ∧ (kd v.2).1 = (if k = 24 then 20 else 10), inferInstance⟩ (pc + len) ls r (h.1, stm h.2 a.2 i.2 v.2)) none
      | _ => none
    | _ => none
  | .arraylength => match o with
    | [] => match st with
      | a :: r => cond (Nat.beq a.1 2) (nxg ⟨20 ≤ (kd a.2).1 ∧ (kd a.2).1 ≤ 25, inferInstance⟩ (pc + len) ls ((0, (kd a.2).2) :: r) h) none
      | [] => none
    | _ => match st with
      | a :: r => cond (Nat.beq a.1 2) (nxg ⟨a.2 = -1, inferInstance⟩ (pc + len) ls ((0, h.2 (-1) (-1)) :: r) h) none
      | [] => none
  | .newarray _ => match o with
    | [_, k] => match st with
      | n :: r => cond (Nat.beq n.1 0) (nxg ⟨(kd h.1).1 = k.toNat ∧ (kd h.1).2 = n.2 ∧ 0 ≤ n.2 ∧ n.2 ≤ 1000000, inferInstance⟩ (pc + len) ls ((2, h.1) :: r) (h.1 + 1, h.2)) none
      | [] => none
    | _ => none
  | .anewarray _ => match o with
    | [_, k] => match st with
      | n :: r => cond (Nat.beq n.1 0) (nxg ⟨(kd h.1).1 = k.toNat ∧ (kd h.1).2 = n.2 ∧ 0 ≤ n.2 ∧ n.2 ≤ 1000000, inferInstance⟩ (pc + len) ls ((2, h.1) :: r) (h.1 + 1, h.2)) none
      | [] => none
    | _ => none
  | .multianewarray _ _ => match st with
    | b :: a :: r => cond (Nat.beq a.1 0 && Nat.beq b.1 0) (nxg ⟨((kd h.1).1 = 24 ∧ (kd h.1).2 = a.2 ∧ 0 ≤ a.2 ∧ a.2 ≤ 1000) ∧ (0 ≤ b.2 ∧ b.2 ≤ 1000) ∧ (List.range a.2.toNat).all (fun i => decide (kd (h.1 + 1 + (i : Int)) = (20, b.2))) = true, inferInstance⟩ (pc + len) ls ((2, h.1) :: r) (h.1 + 1 + a.2, mnm h.2 h.1 a.2)) none
    | _ => none
  | .new _ => match o with
    | [_, ci] => nxg ⟨(kd h.1).1 = ci.toNat, inferInstance⟩ (pc + len) ls ((2, h.1) :: st) (h.1 + 1, h.2)
    | _ => none
  | .invokestatic _ => match o with
    | [_] => match st with
      | n :: d :: b :: s :: a :: r => cond (Nat.beq n.1 0 && Nat.beq d.1 0 && Nat.beq b.1 2 && Nat.beq s.1 0 && Nat.beq a.1 2 && Nat.ble (cats r) 8)
          (nxg ⟨(0 < a.2 ∧ 0 < b.2 ∧ (kd a.2).1 = 20 ∧ (kd b.2).1 = 20) ∧ (0 ≤ s.2 ∧ 0 ≤ d.2 ∧ 0 ≤ n.2) ∧ s.2 + n.2 ≤ (kd a.2).2 ∧ d.2 + n.2 ≤ (kd b.2).2, inferInstance⟩ (pc + len) ls r (h.1, cpm h.2 a.2 s.2 b.2 d.2 n.2)) none
      | _ => none
    | _ => inv kd o false pc len ls st h
  | .invokevirtual _ => inv kd o true pc len ls st h
  | .invokespecial _ => match o with
    | [_] => match st with
      | x :: r => cond (Nat.beq x.1 2 && Nat.ble (cats r) 8) (nxg ⟨0 < x.2, inferInstance⟩ (pc + len) ls r h) none
      | [] => none
    | _ => inv kd o true pc len ls st h
  | .ireturn => match o with
    | [t] => match st with
      | [v] => cond (Nat.beq v.1 0) (some (okT t v.2, .inr (.inr (.inr (.inr (some v, h)))))) none
      | _ => none
    | _ => none
  | .lreturn => match st with
    | [v] => cond (Nat.beq v.1 1) (some (tt, .inr (.inr (.inr (.inr (some v, h)))))) none
    | _ => none
  | .areturn => match st with
    | [v] => cond (Nat.beq v.1 2) (some (⟨0 < v.2, inferInstance⟩, .inr (.inr (.inr (.inr (some v, h)))))) none
    | _ => none
  | .return_ => match st with
    | [] => some (tt, .inr (.inr (.inr (.inr (none, h)))))
    | _ => none
  | _ => none
end AM
/-! the evaluation: with fuel, and its limit -/
abbrev Cd : Type := List (Nat × Nat × Instr × List Int × List Nat)
def lk (pc : Nat) (c : Cd) : Option (Nat × Instr × List Int × List Nat) := c.foldr (fun q acc => cond (Nat.beq q.1 pc) (some q.2) acc) none
def fgt (d : List Nat) (ls : List Vl) : List Vl := d.foldr (fun k l => l.set k (9, 0)) ls
def swi {α : Type} (x : Int) (cs : List (Int × Nat)) (k : Nat → α) (d : Nat) : α := match cs with
  | [] => k d
  | q :: r => if x = q.1 then k q.2 else swi x r k d
/-- what a call answers: its number; the tag is the method's own -/
def vx (r : Rs) : Int := (r.1.getD (9, 0)).2
def psh (t : Nat) (r : Rs) (st : List Vl) : List Vl := cond (Nat.beq t 9) st ((t, vx r) :: st)
def rtag (v : Option Vl) : Nat := match v with
  | some x => cond (Nat.blt x.1 9) x.1 10
  | none => 9
def entM (n : Nat) (as : List Vl) : List Vl := entL as ++ List.replicate (n - (entL as).length) (9, 0)
def bdy (RT : Nat → Nat) (rt : Nat) (call : Nat → List Vl → Hq → Option Rs) (cont : Nat → List Vl → List Vl → Hq → Option Rs) (a : AC) : Option Rs := match a with
  | none => none
  | some q => @ite _ q.1.1 q.1.2 (match q.2 with
    | .inl g => cont g.1 g.2.1 g.2.2.1 g.2.2.2
    | .inr (.inl g) => @ite _ g.1.1 g.1.2 (cont g.2.1 g.2.2.2.1 g.2.2.2.2.1 g.2.2.2.2.2) (cont g.2.2.1 g.2.2.2.1 g.2.2.2.2.1 g.2.2.2.2.2)
    | .inr (.inr (.inl g)) => swi g.1 g.2.1 (fun pc => cont pc g.2.2.2.1 g.2.2.2.2.1 g.2.2.2.2.2) g.2.2.1
    | .inr (.inr (.inr (.inl g))) => (call g.1 g.2.1 g.2.2.2.2.2).bind (fun r => cont g.2.2.1 g.2.2.2.1 (psh (RT g.1) r g.2.2.2.2.1) r.2)
    | .inr (.inr (.inr (.inr g))) => cond (Nat.beq (rtag g.1) rt) (some g) none) none
section EV
variable (kd : Int → Nat × Int) (cdt : Nat → Cd) (ML RT : Nat → Nat)
def stp (call : Nat → List Vl → Hq → Option Rs) (cont : Nat → List Vl → List Vl → Hq → Option Rs) (M pc : Nat) (ls st : List Vl) (h : Hq) : Option Rs := match lk pc (cdt M) with
  | none => none
  | some q => bdy RT (RT M) call cont (act kd q.2.1 q.2.2.1 pc q.1 (fgt q.2.2.2 ls) st h)
def ex : Nat → Nat → Nat → List Vl → List Vl → Hq → Option Rs
  | 0, _, _, _, _, _ => none
  | n + 1, M, pc, ls, st, h => stp kd cdt RT (fun M' as h' => ex n M' 0 (entM (ML M') as) [] h') (fun pc' ls' st' h' => ex n M pc' ls' st' h') M pc ls st h
end EV
theorem swi_le {x : Int} {k k' : Nat → Option Rs} (hk : ∀ p r, k p = some r → k' p = some r) {d : Nat} {r : Rs} : ∀ cs : List (Int × Nat), swi x cs k d = some r → swi x cs k' d = some r
  | [], h => hk _ _ h
  | q :: cs, h => by
    unfold swi at h ⊢
    split at h
    · rw [if_pos (by assumption)]; exact hk _ _ h
    · rw [if_neg (by assumption)]; exact swi_le hk cs h
theorem bdy_le {RT : Nat → Nat} {rt : Nat} {call call' : Nat → List Vl → Hq → Option Rs} {cont cont' : Nat → List Vl → List Vl → Hq → Option Rs} (h1 : ∀ M as h r, call M as h = some r → call' M as h = some r) (h2 : ∀ pc ls st h r, cont pc ls st h = some r → cont' pc ls st h = some r) (a : AC) (r : Rs) (h : bdy RT rt call cont a = some r) : bdy RT rt call' cont' a = some r := by
  cases a with
  | none => cases h
  | some q =>
    obtain ⟨⟨g, dg⟩, x⟩ := q
    unfold bdy at h ⊢
    dsimp only at h ⊢
    by_cases hg : g
    · rw [if_pos hg] at h ⊢
      rcases x with x | x | x | x | x
      · exact h2 _ _ _ _ _ h
      · obtain ⟨⟨c, dc⟩, y⟩ := x
        dsimp only at h ⊢
        by_cases hc : c
        · rw [if_pos hc] at h ⊢; exact h2 _ _ _ _ _ h
        · rw [if_neg hc] at h ⊢; exact h2 _ _ _ _ _ h
      · exact swi_le (fun p r h => h2 _ _ _ _ _ h) _ h
      · dsimp only at h ⊢
        cases hc : call x.1 x.2.1 x.2.2.2.2.2 with
        | none => rw [hc] at h; cases h
        | some z =>
          rw [hc] at h
          rw [h1 _ _ _ _ hc]
          exact h2 _ _ _ _ _ h
      · exact h
    · rw [if_neg hg] at h; cases h
section EV2
variable {kd : Int → Nat × Int} {cdt : Nat → Cd} {ML RT : Nat → Nat}
theorem stp_le {call call' : Nat → List Vl → Hq → Option Rs} {cont cont' : Nat → List Vl → List Vl → Hq → Option Rs} (h1 : ∀ M as h r, call M as h = some r → call' M as h = some r) (h2 : ∀ pc ls st h r, cont pc ls st h = some r → cont' pc ls st h = some r) {M pc ls st h r} (h0 : stp kd cdt RT call cont M pc ls st h = some r) : stp kd cdt RT call' cont' M pc ls st h = some r := by
  unfold stp at h0 ⊢
  cases hl : lk pc (cdt M) with
  | none => rw [hl] at h0; cases h0
  | some q => rw [hl] at h0; exact bdy_le h1 h2 _ _ h0
theorem ex_succ : ∀ (n M pc : Nat) (ls st : List Vl) (h : Hq) (r : Rs), ex kd cdt ML RT n M pc ls st h = some r → ex kd cdt ML RT (n + 1) M pc ls st h = some r
  | 0, _, _, _, _, _, _, h => by cases h
  | n + 1, M, pc, ls, st, h, r, h0 => stp_le (fun M' as h' r' hh => ex_succ n _ _ _ _ _ _ hh) (fun pc' ls' st' h' r' hh => ex_succ n _ _ _ _ _ _ hh) h0
theorem ex_le {n n' : Nat} (hn : n ≤ n') {M pc : Nat} {ls st : List Vl} {h : Hq} {r : Rs} (h0 : ex kd cdt ML RT n M pc ls st h = some r) : ex kd cdt ML RT n' M pc ls st h = some r := by
  induction hn with
  | refl => exact h0
  | step _ ih => exact ex_succ _ _ _ _ _ _ _ ih
end EV2
section EV3
variable (kd : Int → Nat × Int) (cdt : Nat → Cd) (ML RT : Nat → Nat)
/-- the value that all fuels from some on give -/
noncomputable def evp (M pc : Nat) (ls st : List Vl) (h : Hq) : Option Rs := Classical.epsilon (fun v => (∀ r, v = some r ↔ ∃ n, ex kd cdt ML RT n M pc ls st h = some r))
noncomputable def evm (M : Nat) (as : List Vl) (h : Hq) : Option Rs := evp kd cdt ML RT M 0 (entM (ML M) as) [] h
end EV3
section EV4
variable {kd : Int → Nat × Int} {cdt : Nat → Cd} {ML RT : Nat → Nat}
theorem evp_iff {M pc : Nat} {ls st : List Vl} {h : Hq} (r : Rs) : evp kd cdt ML RT M pc ls st h = some r ↔ ∃ n, ex kd cdt ML RT n M pc ls st h = some r := by
  have key : ∃ v : Option Rs, ∀ r, v = some r ↔ ∃ n, ex kd cdt ML RT n M pc ls st h = some r := by
    by_cases he : ∃ r n, ex kd cdt ML RT n M pc ls st h = some r
    · obtain ⟨r, n, hr⟩ := he
      refine ⟨some r, fun r' => ⟨fun e => ⟨n, by rw [hr, e]⟩, fun ⟨n', hr'⟩ => ?_⟩⟩
      have e1 := ex_le (Nat.le_max_left n n') hr
      have e2 := ex_le (Nat.le_max_right n n') hr'
      exact e1.symm.trans e2
    · exact ⟨none, fun r => ⟨fun e => (by cases e), fun ⟨n, hr⟩ => absurd ⟨r, n, hr⟩ he⟩⟩
  exact Classical.epsilon_spec key r
theorem swi_fin {x : Int} {k : Nat → Option Rs} {K : Nat → Nat → Option Rs} (hK : ∀ p r, k p = some r → ∃ n, K n p = some r) {d : Nat} {r : Rs} : ∀ cs : List (Int × Nat), swi x cs k d = some r → ∃ n, swi x cs (K n) d = some r
  | [], h => hK _ _ h
  | q :: cs, h => by
    unfold swi at h ⊢
    by_cases e : x = q.1
    · rw [if_pos e] at h
      obtain ⟨n, hn⟩ := hK _ _ h
      exact ⟨n, by rw [if_pos e]; exact hn⟩
    · rw [if_neg e] at h
      obtain ⟨n, hn⟩ := swi_fin hK cs h
      exact ⟨n, by rw [if_neg e]; exact hn⟩
/-- the limit's own equation -/
theorem evp_eq (M pc : Nat) (ls st : List Vl) (h : Hq) : evp kd cdt ML RT M pc ls st h = stp kd cdt RT (evm kd cdt ML RT) (evp kd cdt ML RT M) M pc ls st h := by
  apply Option.ext
  intro r
  rw [evp_iff]
  constructor
  · rintro ⟨n, hn⟩
    cases n with
    | zero => cases hn
    | succ n => exact stp_le (fun M' as h' r' hh => (evp_iff r').mpr ⟨n, hh⟩) (fun pc' ls' st' h' r' hh => (evp_iff r').mpr ⟨n, hh⟩) hn
  · intro hr
    suffices hs : ∃ n, stp kd cdt RT (fun M' as h' => ex kd cdt ML RT n M' 0 (entM (ML M') as) [] h') (fun pc' ls' st' h' => ex kd cdt ML RT n M pc' ls' st' h') M pc ls st h = some r by
      obtain ⟨n, hn⟩ := hs
      exact ⟨n + 1, hn⟩
    unfold stp at hr ⊢
    cases hl : lk pc (cdt M) with
    | none => rw [hl] at hr; cases hr
    | some q =>
      rw [hl] at hr
      dsimp only at hr ⊢
      generalize act kd q.2.1 q.2.2.1 pc q.1 (fgt q.2.2.2 ls) st h = a at hr ⊢
      cases a with
      | none => cases hr
      | some q =>
        obtain ⟨⟨g, dg⟩, x⟩ := q
        unfold bdy at hr ⊢
        dsimp only at hr ⊢
        by_cases hg : g
        · rw [if_pos hg] at hr
          simp only [if_pos hg]
          rcases x with x | x | x | x | x
          · exact (evp_iff r).mp hr
          · obtain ⟨⟨c, dc⟩, y⟩ := x
            dsimp only at hr ⊢
            by_cases hc : c
            · rw [if_pos hc] at hr
              simp only [if_pos hc]
              exact (evp_iff r).mp hr
            · rw [if_neg hc] at hr
              simp only [if_neg hc]
              exact (evp_iff r).mp hr
          · exact swi_fin (K := fun n pc => ex kd cdt ML RT n M pc x.2.2.2.1 x.2.2.2.2.1 x.2.2.2.2.2) (fun p r h => (evp_iff r).mp h) _ hr
          · dsimp only at hr ⊢
            cases hc : evm kd cdt ML RT x.1 x.2.1 x.2.2.2.2.2 with
            | none => rw [hc] at hr; cases hr
            | some z =>
              rw [hc] at hr
              obtain ⟨n1, h1⟩ := (evp_iff z).mp hc
              obtain ⟨n2, h2⟩ := (evp_iff r).mp (show evp kd cdt ML RT M _ _ _ _ = some r from hr)
              refine ⟨max n1 n2, ?_⟩
              rw [ex_le (Nat.le_max_left n1 n2) h1]
              exact ex_le (Nat.le_max_right n1 n2) h2
          · exact ⟨0, hr⟩
        · rw [if_neg hg] at hr; cases hr
/-- many steps at once, up to the places 'sp' -/
noncomputable def unr (kd : Int → Nat × Int) (cdt : Nat → Cd) (ML RT : Nat → Nat) (sp : List Nat) (M : Nat) : Nat → Nat → List Vl → List Vl → Hq → Option Rs
  | 0, pc, ls, st, h => evp kd cdt ML RT M pc ls st h
  | n + 1, pc, ls, st, h => stp kd cdt RT (evm kd cdt ML RT) (fun pc' ls' st' h' => cond (sp.foldr (fun k b => Nat.beq k pc' || b) false) (evp kd cdt ML RT M pc' ls' st' h') (unr kd cdt ML RT sp M n pc' ls' st' h')) M pc ls st h
theorem unr_eq (sp : List Nat) (M : Nat) : ∀ (n pc : Nat) (ls st : List Vl) (h : Hq), evp kd cdt ML RT M pc ls st h = unr kd cdt ML RT sp M n pc ls st h
  | 0, _, _, _, _ => rfl
  | n + 1, pc, ls, st, h => by
    rw [evp_eq]
    unfold unr
    congr 1
    funext pc' ls' st' h'
    cases sp.foldr (fun k b => Nat.beq k pc' || b) false with
    | true => rfl
    | false => exact unr_eq sp M n pc' ls' st' h'
end EV4
