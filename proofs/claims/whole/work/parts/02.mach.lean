/-! THE PURE MACHINE: a value is an int, a long, a reference by its cell's number (or null), or a thing outside (a String constant by its number, the script, a caught throwable) -/
abbrev zV : Type := Int ⊕ (Int ⊕ (Option Nat ⊕ Nat))
abbrev zI (z : Int) : zV := Sum.inl z
abbrev zL (z : Int) : zV := Sum.inr (Sum.inl z)
abbrev zR (r : Option Nat) : zV := Sum.inr (Sum.inr (Sum.inl r))
abbrev zT (i : Nat) : zV := Sum.inr (Sum.inr (Sum.inr i))
def zcat : zV → Nat
  | .inr (.inl _) => 2
  | _ => 1
abbrev zLo : Type := List (Option zV)
/-- how many cells there are; a cell's kind (0 .. 9 an object by its class, 10 int[], 11 long[], 12 byte[], 13 boolean[], 14 int[][], 15 long[][]), its length, the references that it holds -/
abbrev zG : Type := Nat × (Nat → Nat) × (Nat → Nat) × (Nat → Nat → Option Nat)
/-- the numbers that the cells hold -/
abbrev zM : Type := Nat → Nat → Int
abbrev zK : Type := Nat × Nat
abbrev zIns : Type := Instr × Nat × Nat × Nat × Int
abbrev zQ : Type := Option zV → zG → zM → Prop
abbrev zRun : Type := Nat → List zV → zG → zM → zQ → Prop
abbrev zP : Type := Nat → zLo → List zV → zG → zM → zK → Prop
def wr (z : Int) : Int := z.bmod 4294967296
def wl (z : Int) : Int := z.bmod 18446744073709551616
def wb (z : Int) : Int := z.bmod 256
def zu (h : zM) (c i : Nat) (v : Int) : zM := fun c' i' => if c' = c ∧ i' = i then v else h c' i'
def zgu (G : zG) (c i : Nat) (v : Option Nat) : zG := (G.1, G.2.1, G.2.2.1, fun c' i' => if c' = c ∧ i' = i then v else G.2.2.2 c' i')
/-- a new cell -/
def zgn (G : zG) (kd n : Nat) : zG := (G.1 + 1, fun c => if c = G.1 then kd else G.2.1 c, fun c => if c = G.1 then n else G.2.2.1 c, fun c i => if c = G.1 then none else G.2.2.2 c i)
def zhn (h : zM) (c : Nat) : zM := fun c' i => if c' = c then 0 else h c' i
/-- new T[n][m]: the outer one, then its rows -/
def zgm (G : zG) (kd ki n m : Nat) : zG := (G.1 + 1 + n, fun c => if c = G.1 then kd else if G.1 < c ∧ c ≤ G.1 + n then ki else G.2.1 c, fun c => if c = G.1 then n else if G.1 < c ∧ c ≤ G.1 + n then m else G.2.2.1 c, fun c i => if c = G.1 then (if i < n then some (G.1 + 1 + i) else none) else if G.1 < c ∧ c ≤ G.1 + n then none else G.2.2.2 c i)
def zhm (h : zM) (c n : Nat) : zM := fun c' i => if c ≤ c' ∧ c' ≤ c + n then 0 else h c' i
/-- a copy of n places between rows -/
def zcp (h : zM) (a sp b dp n : Nat) : zM := fun c i => if c = b ∧ dp ≤ i ∧ i < dp + n then h a (sp + (i - dp)) else h c i
def zclr : Option zV → Option zV
  | some (.inr (.inl _)) => none
  | v => v
def zst1 : zLo → Nat → zV → zLo
  | [], _, _ => []
  | _ :: t, 0, v => some v :: t
  | x :: t, 1, v => zclr x :: zst1 t 0 v
  | x :: t, n + 2, v => x :: zst1 t (n + 1) v
def zst2 : zLo → Nat → zV → zLo
  | [], _, _ => []
  | _ :: t, 0, v => some v :: t.set 0 none
  | x :: t, 1, v => zclr x :: zst2 t 0 v
  | x :: t, n + 2, v => x :: zst2 t (n + 1) v
def zcmp (c : Jvm.ClassFile.Cond) (x y : Int) : Prop := match c with
  | .eq => x = y
  | .ne => ¬ x = y
  | .lt => x < y
  | .ge => y ≤ x
  | .gt => y < x
  | .le => x ≤ y
def ztsw (pc : Nat) (dflt lo hi : Int) (offs : Array Int) (x : Int) : Nat := if x < lo ∨ hi < x then ((pc : Int) + dflt).toNat else ((pc : Int) + offs.getD (x - lo).toNat 0).toNat
def zlc (x y : Int) : Int := if y < x then 1 else if x = y then 0 else -1
def zand (x y : Int) : Int := (Int32.ofInt x &&& Int32.ofInt y).toInt
def zor (x y : Int) : Int := (Int32.ofInt x ||| Int32.ofInt y).toInt
def zxl (x y : Int) : Int := (Int64.ofInt x ^^^ Int64.ofInt y).toInt
def zsum (st : List zV) : Nat := (st.map zcat).sum
/-- the arguments of a call off the stack: the first first -/
def zpop : Nat → List zV → List zV → Option (List zV × List zV)
  | 0, acc, st => some (acc, st)
  | n + 1, acc, v :: st => zpop n (v :: acc) st
  | _ + 1, _, [] => none
/-- the tables of the program: how many fields a class has; its String constants' letters; how many cells and slots a method may make; the class of a method's object -/
abbrev zTb : Type := (Nat → Nat) × (Nat → List Int) × (Nat → zK) × (Nat → Nat)
section ZF
variable (tb : zTb) (Rn : zRun) (cd : Nat → Option zIns) (bud : zK) (rt : Nat) (scr : Nat × Nat × (Nat → Int)) (Q : zQ) (P : zP)
def zF (pc : Nat) (lo : zLo) (st : List zV) (G : zG) (h : zM) (k : zK) : Prop :=
  match cd pc with
  | none => False
  | some (j, len, a, b, z) =>
    match j, st with
    | .iconst _, st => P (pc + len) lo (zI z :: st) G h k
    | .bipush _, st => P (pc + len) lo (zI z :: st) G h k
    | .sipush _, st => P (pc + len) lo (zI z :: st) G h k
    | .lconst _, st => P (pc + len) lo (zL z :: st) G h k
    | .ldc2_w _, st => P (pc + len) lo (zL z :: st) G h k
    | .ldc _, st => if a = 0 then P (pc + len) lo (zI z :: st) G h k else P (pc + len) lo (zT b :: st) G h k
    | .ldc_w _, st => if a = 0 then P (pc + len) lo (zI z :: st) G h k else P (pc + len) lo (zT b :: st) G h k
    | .iload_n _, st => ∃ x, lo[a]? = some (some (zI x)) ∧ P (pc + len) lo (zI x :: st) G h k
    | .iload _, st => ∃ x, lo[a]? = some (some (zI x)) ∧ P (pc + len) lo (zI x :: st) G h k
    | .lload_n _, st => ∃ x, lo[a]? = some (some (zL x)) ∧ P (pc + len) lo (zL x :: st) G h k
    | .lload _, st => ∃ x, lo[a]? = some (some (zL x)) ∧ P (pc + len) lo (zL x :: st) G h k
    | .aload_n _, st => ∃ x, lo[a]? = some (some (.inr (.inr x))) ∧ P (pc + len) lo (.inr (.inr x) :: st) G h k
    | .aload _, st => ∃ x, lo[a]? = some (some (.inr (.inr x))) ∧ P (pc + len) lo (.inr (.inr x) :: st) G h k
    | .istore_n _, .inl x :: st => a < lo.length ∧ P (pc + len) (zst1 lo a (zI x)) st G h k
    | .istore _, .inl x :: st => a < lo.length ∧ P (pc + len) (zst1 lo a (zI x)) st G h k
    | .lstore_n _, .inr (.inl x) :: st => a + 1 < lo.length ∧ P (pc + len) (zst2 lo a (zL x)) st G h k
    | .lstore _, .inr (.inl x) :: st => a + 1 < lo.length ∧ P (pc + len) (zst2 lo a (zL x)) st G h k
    | .astore_n _, .inr (.inr x) :: st => a < lo.length ∧ P (pc + len) (zst1 lo a (.inr (.inr x))) st G h k
    | .astore _, .inr (.inr x) :: st => a < lo.length ∧ P (pc + len) (zst1 lo a (.inr (.inr x))) st G h k
    | .iinc _ _, st => ∃ x, lo[a]? = some (some (zI x)) ∧ P (pc + len) (zst1 lo a (zI (wr (x + z)))) st G h k
    | .iadd, .inl y :: .inl x :: st => P (pc + len) lo (zI (wr (x + y)) :: st) G h k
    | .isub, .inl y :: .inl x :: st => P (pc + len) lo (zI (wr (x - y)) :: st) G h k
    | .imul, .inl y :: .inl x :: st => P (pc + len) lo (zI (wr (x * y)) :: st) G h k
    | .idiv, .inl y :: .inl x :: st => y ≠ 0 ∧ P (pc + len) lo (zI (wr (x.tdiv y)) :: st) G h k
    | .irem, .inl y :: .inl x :: st => y ≠ 0 ∧ P (pc + len) lo (zI (x.tmod y) :: st) G h k
    | .iand, .inl y :: .inl x :: st => P (pc + len) lo (zI (zand x y) :: st) G h k
    | .ior, .inl y :: .inl x :: st => P (pc + len) lo (zI (zor x y) :: st) G h k
    | .ishl, .inl y :: .inl x :: st => (0 ≤ y ∧ y < 32) ∧ P (pc + len) lo (zI (wr (x * 2 ^ y.toNat)) :: st) G h k
    | .ishr, .inl y :: .inl x :: st => (0 ≤ y ∧ y < 32) ∧ P (pc + len) lo (zI (x / 2 ^ y.toNat) :: st) G h k
    | .i2l, .inl x :: st => P (pc + len) lo (zL x :: st) G h k
    | .i2b, .inl x :: st => P (pc + len) lo (zI (wb x) :: st) G h k
    | .ladd, .inr (.inl y) :: .inr (.inl x) :: st => P (pc + len) lo (zL (wl (x + y)) :: st) G h k
    | .lsub, .inr (.inl y) :: .inr (.inl x) :: st => P (pc + len) lo (zL (wl (x - y)) :: st) G h k
    | .lmul, .inr (.inl y) :: .inr (.inl x) :: st => P (pc + len) lo (zL (wl (x * y)) :: st) G h k
    | .ldiv, .inr (.inl y) :: .inr (.inl x) :: st => y ≠ 0 ∧ P (pc + len) lo (zL (wl (x.tdiv y)) :: st) G h k
    | .lxor, .inr (.inl y) :: .inr (.inl x) :: st => P (pc + len) lo (zL (zxl x y) :: st) G h k
    | .lneg, .inr (.inl x) :: st => P (pc + len) lo (zL (wl (-x)) :: st) G h k
    | .lcmp, .inr (.inl y) :: .inr (.inl x) :: st => P (pc + len) lo (zI (zlc x y) :: st) G h k
    | .dup, v :: st => zcat v = 1 ∧ P (pc + len) lo (v :: v :: st) G h k
    | .pop, v :: st => zcat v = 1 ∧ P (pc + len) lo st G h k
    | .dup2, v :: w :: st => zcat v = 1 ∧ zcat w = 1 ∧ P (pc + len) lo (v :: w :: v :: w :: st) G h k
    | .goto _, st => P a lo st G h k
    | .ifCond c _, .inl x :: st => (zcmp c x 0 → P a lo st G h k) ∧ (¬ zcmp c x 0 → P (pc + len) lo st G h k)
    | .if_icmp c _, .inl y :: .inl x :: st => (zcmp c x y → P a lo st G h k) ∧ (¬ zcmp c x y → P (pc + len) lo st G h k)
    | .ifnull _, .inr (.inr (.inl r)) :: st => (r = none → P a lo st G h k) ∧ (∀ q, r = some q → P (pc + len) lo st G h k)
    | .ifnonnull _, .inr (.inr (.inl r)) :: st => (r = none → P (pc + len) lo st G h k) ∧ (∀ q, r = some q → P a lo st G h k)
    | .tableswitch dflt l hi offs, .inl x :: st => P (ztsw pc dflt l hi offs x) lo st G h k
    | .getfield _, .inr (.inr (.inl (some r))) :: st => G.2.1 r = a ∧ (if z = 2 then P (pc + len) lo (zR (G.2.2.2 r b) :: st) G h k else if z = 1 then P (pc + len) lo (zL (h r b) :: st) G h k else P (pc + len) lo (zI (h r b) :: st) G h k)
    | .putfield _, .inl x :: .inr (.inr (.inl (some r))) :: st => G.2.1 r = a ∧ (z = 0 ∨ z = 3 ∧ (x = 0 ∨ x = 1)) ∧ P (pc + len) lo st G (zu h r b x) k
    | .putfield _, .inr (.inl x) :: .inr (.inr (.inl (some r))) :: st => G.2.1 r = a ∧ z = 1 ∧ P (pc + len) lo st G (zu h r b x) k
    | .putfield _, .inr (.inr (.inl q)) :: .inr (.inr (.inl (some r))) :: st => G.2.1 r = a ∧ z = 2 ∧ P (pc + len) lo st (zgu G r b q) h k
    | .iaload, .inl i :: .inr (.inr (.inl (some r))) :: st => G.2.1 r = 10 ∧ (0 ≤ i ∧ i < G.2.2.1 r) ∧ P (pc + len) lo (zI (h r i.toNat) :: st) G h k
    | .iaload, .inl i :: .inr (.inr (.inr s)) :: st => s = 1000 ∧ scr.1 = 1 ∧ (0 ≤ i ∧ i < scr.2.1) ∧ P (pc + len) lo (zI (scr.2.2 i.toNat) :: st) G h k
    | .laload, .inl i :: .inr (.inr (.inl (some r))) :: st => G.2.1 r = 11 ∧ (0 ≤ i ∧ i < G.2.2.1 r) ∧ P (pc + len) lo (zL (h r i.toNat) :: st) G h k
    | .baload, .inl i :: .inr (.inr (.inl (some r))) :: st => (a = 12 ∨ a = 13) ∧ G.2.1 r = a ∧ (0 ≤ i ∧ i < G.2.2.1 r) ∧ P (pc + len) lo (zI (h r i.toNat) :: st) G h k
    | .aaload, .inl i :: .inr (.inr (.inl (some r))) :: st => (a = 14 ∨ a = 15) ∧ G.2.1 r = a ∧ (0 ≤ i ∧ i < G.2.2.1 r) ∧ P (pc + len) lo (zR (G.2.2.2 r i.toNat) :: st) G h k
    | .iastore, .inl x :: .inl i :: .inr (.inr (.inl (some r))) :: st => G.2.1 r = 10 ∧ (0 ≤ i ∧ i < G.2.2.1 r) ∧ P (pc + len) lo st G (zu h r i.toNat x) k
    | .lastore, .inr (.inl x) :: .inl i :: .inr (.inr (.inl (some r))) :: st => G.2.1 r = 11 ∧ (0 ≤ i ∧ i < G.2.2.1 r) ∧ P (pc + len) lo st G (zu h r i.toNat x) k
    | .bastore, .inl x :: .inl i :: .inr (.inr (.inl (some r))) :: st => (a = 12 ∨ a = 13 ∧ (x = 0 ∨ x = 1)) ∧ G.2.1 r = a ∧ (0 ≤ i ∧ i < G.2.2.1 r) ∧ P (pc + len) lo st G (zu h r i.toNat (wb x)) k
    | .arraylength, .inr (.inr (.inl (some r))) :: st => 10 ≤ G.2.1 r ∧ G.2.1 r ≤ 13 ∧ G.2.2.1 r < 2147483648 ∧ P (pc + len) lo (zI (G.2.2.1 r) :: st) G h k
    | .arraylength, .inr (.inr (.inr s)) :: st => s = 1000 ∧ scr.1 = 1 ∧ scr.2.1 < 2147483648 ∧ P (pc + len) lo (zI scr.2.1 :: st) G h k
    | .newarray _, .inl n :: st => 0 ≤ n ∧ n ≤ 1000000 ∧ k.1 + 1 ≤ bud.1 ∧ k.2 + n.toNat ≤ bud.2 ∧ P (pc + len) lo (zR (some G.1) :: st) (zgn G a n.toNat) (zhn h G.1) (k.1 + 1, k.2 + n.toNat)
    | .multianewarray _ _, .inl m :: .inl n :: st => 0 ≤ n ∧ n ≤ 1000000 ∧ 0 ≤ m ∧ m ≤ 1000000 ∧ k.1 + (1 + n.toNat) ≤ bud.1 ∧ k.2 + (n.toNat + n.toNat * m.toNat) ≤ bud.2 ∧ P (pc + len) lo (zR (some G.1) :: st) (zgm G a b n.toNat m.toNat) (zhm h G.1 n.toNat) (k.1 + 1 + n.toNat, k.2 + n.toNat + n.toNat * m.toNat)
    | .new _, st => if z = 99 then zsum st ≤ 8 ∧ k.1 + 1 ≤ bud.1 ∧ k.2 + 6 ≤ bud.2 ∧ Q (some (zT 2000)) G h else k.1 + 1 ≤ bud.1 ∧ k.2 + tb.1 a ≤ bud.2 ∧ P (pc + len) lo (zR (some G.1) :: st) (zgn G a (tb.1 a)) (zhn h G.1) (k.1 + 1, k.2 + tb.1 a)
    | .invokespecial _, st => if z = 9 then ∃ r st', st = zR (some r) :: st' ∧ zsum st' ≤ 8 ∧ P (pc + len) lo st' G h k else
        ∃ As r st', zpop b [] st = some (As, zR (some r) :: st') ∧ zsum st' ≤ 8 ∧ G.2.1 r = tb.2.2.2 a ∧ k.1 + (tb.2.2.1 a).1 ≤ bud.1 ∧ k.2 + (tb.2.2.1 a).2 ≤ bud.2 ∧ Rn a (zR (some r) :: As) G h (fun v G' h' => v = none ∧ P (pc + len) lo st' G' h' (k.1 + (tb.2.2.1 a).1, k.2 + (tb.2.2.1 a).2))
    | .invokevirtual _, st => if z = 6 then ∃ As r st', zpop b [] st = some (As, zR (some r) :: st') ∧ zsum st' ≤ 8 ∧ G.2.1 r = 7 ∧ k.1 + 1 ≤ bud.1 ∧ k.2 + 6 ≤ bud.2 ∧ Rn a (zR (some r) :: As) G h (fun v G' h' => if v = some (zT 2000) then P 12 lo [zT 2000] G' h' (k.1 + 1, k.2 + 6) else P (pc + len) lo (v.toList ++ st') G' h' (k.1 + 1, k.2 + 6)) else if z = 7 then ∃ s st', st = zT s :: st' ∧ s < 16 ∧ zsum st' ≤ 8 ∧ P (pc + len) lo (zI ((tb.2.1 s).length) :: st') G h k else if z = 8 then ∃ s i st', st = zI i :: zT s :: st' ∧ s < 16 ∧ zsum st' ≤ 8 ∧ (0 ≤ i ∧ i < (tb.2.1 s).length) ∧ P (pc + len) lo (zI ((tb.2.1 s).getD i.toNat 0) :: st') G h k else
        ∃ As r st', zpop b [] st = some (As, zR (some r) :: st') ∧ zsum st' ≤ 8 ∧ G.2.1 r = tb.2.2.2 a ∧ k.1 + (tb.2.2.1 a).1 ≤ bud.1 ∧ k.2 + (tb.2.2.1 a).2 ≤ bud.2 ∧ Rn a (zR (some r) :: As) G h (fun v G' h' => P (pc + len) lo (v.toList ++ st') G' h' (k.1 + (tb.2.2.1 a).1, k.2 + (tb.2.2.1 a).2))
    | .invokestatic _, st => if z = 5 then ∃ n dp r2 sp r1 st', st = zI n :: zI dp :: zR (some r2) :: zI sp :: zR (some r1) :: st' ∧ zsum st' ≤ 8 ∧ (b = 10 ∨ b = 11) ∧ G.2.1 r1 = b ∧ G.2.1 r2 = b ∧ 0 ≤ sp ∧ 0 ≤ dp ∧ 0 ≤ n ∧ sp + n ≤ G.2.2.1 r1 ∧ dp + n ≤ G.2.2.1 r2 ∧ P (pc + len) lo st' G (zcp h r1 sp.toNat r2 dp.toNat n.toNat) k else
        ∃ As st', zpop b [] st = some (As, st') ∧ zsum st' ≤ 8 ∧ k.1 + (tb.2.2.1 a).1 ≤ bud.1 ∧ k.2 + (tb.2.2.1 a).2 ≤ bud.2 ∧ Rn a As G h (fun v G' h' => P (pc + len) lo (v.toList ++ st') G' h' (k.1 + (tb.2.2.1 a).1, k.2 + (tb.2.2.1 a).2))
    | .ireturn, [.inl x] => (rt = 1 ∨ rt = 2 ∧ (x = 0 ∨ x = 1)) ∧ Q (some (zI x)) G h
    | .lreturn, [.inr (.inl x)] => rt = 3 ∧ Q (some (zL x)) G h
    | .return_, [] => rt = 0 ∧ Q none G h
    | _, _ => False
/-- the least one that is closed: from here the method comes to an end with Q -/
def zW (pc : Nat) (lo : zLo) (st : List zV) (G : zG) (h : zM) (k : zK) : Prop :=
  ∀ P : zP, (∀ pc lo st G h k, zF tb Rn cd bud rt scr Q P pc lo st G h k → P pc lo st G h k) → P pc lo st G h k
end ZF
