/-! WHAT A METHOD's WALK STANDS ON -/
abbrev zMi : Type := Nat → Option (MethodName × ByteArray × Nat × Option FieldType)
def zat : Nat → FieldType
  | 10 => .int
  | 11 => .long
  | 12 => .byte
  | 13 => .boolean
  | 14 => .array .int
  | _ => .array .long
def ztys (cA : Nat → ClassId) : List (ClassId × FieldType) := [(cA 10, .int), (cA 11, .long), (cA 12, .byte), (cA 13, .boolean), (cA 14, .array .int), (cA 15, .array .long)]
/-- the class tables: the fields' types, names apart, what the words say of them -/
def zClOk (cl : List vw_C) (fty : Nat → Nat → FieldType) (Ts : List Cond) (tb : zTb) : Prop := ∀ (ci : Nat) (C : String) (T : u_T) (N : Nat), cl[ci]? = some (C, T, N) → ci < 10 ∧ tb.1 ci = N ∧ (∀ k, k < N → parseFieldDescriptor (T k).2.2.1 = some (fty ci k) ∧ zfc (fty ci k) ≠ 9) ∧ (∀ a, a < N → ∀ b, b < N → a ≠ b → (T a).2.1 ≠ (T b).2.1) ∧ (∀ w ∈ u_ws C T N, w ∈ Ts) ∧ Cond.instantiable C N ∈ Ts ∧ Cond.initialized C ∈ Ts
/-- what a call of the method a, with b arguments beside the object, needs of the words -/
def zIv (Ts Tg : List Cond) (mi : zMi) (own : String) (idx a b : Nat) (X : MethodName → Option FieldType → Prop) : Prop := ∃ (y : MethodName) (by' : ByteArray) (ml : Nat) (rt' : Option FieldType), mi a = some (y, by', ml, rt') ∧ Cond.code y by' ml rt' ∈ Tg ∧ Cond.initialized y.cls ∈ Ts ∧ (y.cls ≠ "java/lang/invoke/MethodHandle" ∧ y.cls ≠ "java/lang/invoke/VarHandle" ∧ (parseMethodDescriptor y.desc).map (fun d => d.parameters.length) = some b) ∧ ml ≤ 40 ∧ X y rt' ∧ (Cond.methodLink own idx y ∈ Ts ∨ ∃ host, Cond.methodLinkNest own idx y host ∈ Ts)
/-- what an instruction needs of the words -/
def zLk (cl : List vw_C) (fty : Nat → Nat → FieldType) (Ts Tg : List Cond) (mi : zMi) (tb : zTb) (sref : String → Nat → Nat → Prop) (own nm : String) (pc : Nat) (j : Instr) (len a b : Nat) (z : Int) : Prop := match j with
  | .iconst n => len = 1 ∧ (Int32.ofInt n).toInt = z
  | .bipush n => len = 2 ∧ (Int8.ofInt n).toInt32.toInt = z
  | .sipush n => len = 3 ∧ (Int16.ofInt n).toInt32.toInt = z
  | .lconst n => len = 1 ∧ (Int64.ofNat (n : Nat)).toInt = z
  | .ldc2_w idx => len = 3 ∧ ∃ v : Int64, v.toInt = z ∧ Cond.constantLong own idx v ∈ Ts
  | .ldc idx => len = 2 ∧ (a = 0 → ∃ v : Int32, v.toInt = z ∧ Cond.constant own idx v ∈ Ts) ∧ (¬ a = 0 → sref own idx b)
  | .ldc_w idx => len = 3 ∧ (a = 0 → ∃ v : Int32, v.toInt = z ∧ Cond.constant own idx v ∈ Ts) ∧ (¬ a = 0 → sref own idx b)
  | .iload_n i => len = 1 ∧ (i : Nat) = a
  | .lload_n i => len = 1 ∧ (i : Nat) = a
  | .aload_n i => len = 1 ∧ (i : Nat) = a
  | .istore_n i => len = 1 ∧ (i : Nat) = a
  | .lstore_n i => len = 1 ∧ (i : Nat) = a
  | .astore_n i => len = 1 ∧ (i : Nat) = a
  | .iload i => len = 2 ∧ i = a
  | .lload i => len = 2 ∧ i = a
  | .aload i => len = 2 ∧ i = a
  | .istore i => len = 2 ∧ i = a
  | .lstore i => len = 2 ∧ i = a
  | .astore i => len = 2 ∧ i = a
  | .iinc i n => len = 3 ∧ i = a ∧ (Int32.ofInt n).toInt = z
  | .goto off => len = 3 ∧ (pc : Int) + off = (a : Int)
  | .ifCond _ off => len = 3 ∧ (pc : Int) + off = (a : Int)
  | .if_icmp _ off => len = 3 ∧ (pc : Int) + off = (a : Int)
  | .ifnull off => len = 3 ∧ (pc : Int) + off = (a : Int)
  | .ifnonnull off => len = 3 ∧ (pc : Int) + off = (a : Int)
  | .tableswitch dflt lo hi offs => 0 ≤ (pc : Int) + dflt ∧ hi < lo + offs.size ∧ ∀ o ∈ offs.toList, 0 ≤ (pc : Int) + o
  | .getfield idx => len = 3 ∧ ∃ (C : String) (T : u_T) (N : Nat), cl[a]? = some (C, T, N) ∧ b < N ∧ (zfc (fty a b) : Int) = z ∧ (Cond.fieldLink own idx (T b).1 (T b).2.1 (T b).2.2.1 ∈ Ts ∨ ∃ host, Cond.fieldLinkNest own idx (T b).1 (T b).2.1 (T b).2.2.1 host ∈ Ts)
  | .putfield idx => len = 3 ∧ ∃ (C : String) (T : u_T) (N : Nat), cl[a]? = some (C, T, N) ∧ b < N ∧ (zfc (fty a b) : Int) = z ∧ ((Cond.fieldLink own idx (T b).1 (T b).2.1 (T b).2.2.1 ∈ Ts ∧ ((T b).2.2.2 = false ∨ (T b).2.2.2 = true ∧ nm = "<init>" ∧ (T b).1 = own)) ∨ ∃ host, Cond.fieldLinkNest own idx (T b).1 (T b).2.1 (T b).2.2.1 host ∈ Ts ∧ (T b).2.2.2 = false)
  | .newarray t => len = 2 ∧ Cond.arrayClass (newarray.typeOf t) ∈ Ts ∧ newarray.typeOf t = zat a ∧ 10 ≤ a ∧ a ≤ 13
  | .multianewarray idx n => len = 4 ∧ n = 2 ∧ ((a = 14 ∧ b = 10) ∨ (a = 15 ∧ b = 11)) ∧ Cond.classLink own idx ("[" ++ (zat a).toString) ∈ Ts ∧ Cond.arrayOver (zat a) ∈ Ts ∧ Cond.arrayClass (zat b) ∈ Ts
  | .new idx => len = 3 ∧ (z = 99 → own = "StayHouse" ∧ nm = "led" ∧ pc = 43) ∧ (¬ z = 99 → ∃ (C : String) (T : u_T) (N : Nat), cl[a]? = some (C, T, N) ∧ Cond.classLink own idx C ∈ Ts)
  | .invokespecial idx => len = 3 ∧ (z = 9 → Cond.methodLink own idx objectInit ∈ Ts ∧ Cond.instanceMethod objectInit ∈ Ts ∧ Cond.code objectInit ⟨#[0xb1]⟩ 1 none ∈ Ts) ∧ (¬ z = 9 → zIv Ts Tg mi own idx a b (fun y r => Cond.instanceMethod y ∈ Ts ∧ y.name = "<init>" ∧ r = none))
  | .invokevirtual idx => len = 3 ∧ (z = 6 → own = "StayHouseLaw" ∧ nm = "led" ∧ pc = 4 ∧ b = 1 ∧ a = 92) ∧ (z = 7 → Cond.methodLink own idx ⟨"java/lang/String", "length", "()I"⟩ ∈ Ts) ∧ (z = 8 → Cond.methodLink own idx ⟨"java/lang/String", "charAt", "(I)C"⟩ ∈ Ts) ∧ (¬ z = 6 → ¬ z = 7 → ¬ z = 8 → zIv Ts Tg mi own idx a b (fun y _ => Cond.instanceMethod y ∈ Ts ∧ Cond.selects y.cls y y ∈ Ts ∧ ∃ (T : u_T) (N : Nat), cl[tb.2.2.2 a]? = some (y.cls, T, N)))
  | .invokestatic idx => len = 3 ∧ (z = 5 → Cond.methodLink own idx arraycopyName ∈ Ts ∧ Cond.native arraycopyName ∈ Ts ∧ Cond.static arraycopyName ∈ Ts ∧ Cond.initialized "java/lang/System" ∈ Ts) ∧ (¬ z = 5 → ¬ z = 6 → zIv Ts Tg mi own idx a b (fun y _ => Cond.static y ∈ Ts)) ∧ (z = 6 → own = "StayHouseLaw" ∧ nm = "law" ∧ b = 3 ∧ a = 220)
  | _ => len = 1
def zrm (tb : zTb) (d a : Nat) : Room := { frames := d + 10, cells := (tb.2.2.1 a).1, slots := (tb.2.2.1 a).2, locals := 60 * d + 400 }
section ZC
variable (cl : List vw_C) (fty : Nat → Nat → FieldType) (Ts Tg : List Cond) (mi : zMi) (tb : zTb) (sref : String → Nat → Nat → Prop) (D : va_G) (cA : Nat → ClassId) (adK : Nat → Nat) (sa : Nat) (ZX : (Nat → Prop) → State → Heap → Prop)
def zPre (ws : va_W) (sz : Nat) (U : State) : Prop := U.heap.size = sz ∧ va_P D cl ws U.heap ∧ va_K D cl (ztys cA) U ∧ ZX (va_A ws sz) U U.heap ∧ va_D (fun _ => True) ws
def zQc (Q : zQ) (ws0 : va_W) (A : Nat → Prop) : Array Value → State → Outcome → State → Prop := fun _ st oc t =>
  (∃ (v : Option zV) (cv : Option Value) (G : zG) (h : zM) (ws : va_W), oc = .returned cv ∧ zor' adK sa ws v cv ∧ Q v G h ∧ zRel cl fty cA G h ws ∧ zext ws0 ws ∧ va_P D cl ws t.heap ∧ va_D A ws) ∧ va_F A st t
/-- what is shut under the machine's own steps -/
def zZX : Prop := ∀ (A B : Nat → Prop) (u U : State) (H H1 : Heap), ZX A u H → u.WarmedH U.vm → (∀ a : Nat, a < H.size → ¬ A a → H1[a]? = H[a]?) → (∀ q, B q → A q) → ZX B U H1
/-- the callees' contracts, at depth d -/
def zCal (l : Launch) (Rn : zRun) (d : Nat) : Prop := ∀ (a : Nat) (As : List zV) (G : zG) (h : zM) (Q : zQ) (y : MethodName) (by' : ByteArray) (ml : Nat) (rt : Option FieldType) (ws : va_W) (cas : List Value) (sz : Nat), Rn a As G h Q → mi a = some (y, by', ml, rt) → zRel cl fty cA G h ws → zsr adK sa ws As cas →
  Met l y (Cond.code y by' ml rt :: Tg) (zrm tb d a) (va_Pc cas (zPre cl D cA ZX ws sz)) (zQc cl fty D cA adK sa Q ws (va_A ws sz)) (tb.2.2.1 a).1 (tb.2.2.1 a).2 (va_A ws sz)
section ZC2
variable (p : Program) (l : Launch) (e : Env) (R : Room) (s : State) (m : MethodId) (args : Array Value) (below : List Frame) (meth : Method) (c : Code) (cc : ByteArray) (nL : Nat) (bud : zK) (A : Nat → Prop) (ws0 : va_W) (QQ : State → Prop)
/-- a state of the pure machine, in whatever heap it stands: the machine comes to QQ -/
def zSt (pc : Nat) (lo : zLo) (st : List zV) (G : zG) (h : zM) (k : zK) : Prop := ∀ (H : Heap) (locs : List Loc) (ws : va_W) (ls : Array Slot) (cs : List Value), zRel cl fty cA G h ws → va_P D cl ws H → va_D A ws → va_S A s.heap H locs → zext ws0 ws → zlr adK sa ws lo ls → zsr adK sa ws st cs → lo.length = nL → (k.1 ≤ bud.1 ∧ k.2 ≤ bud.2) →
  W p l e R s m args below meth c H locs k.1 k.2 QQ (F0 m pc ls cs)
def zCtx (own nm : String) (rt : Nat) (scr : Nat × Nat × (Nat → Int)) (Q : zQ) (Rn : zRun) (cd : Nat → Option zIns) (d : Nat) : Prop :=
  p.tables.exec = Jvm.exec ∧ c.code = cc ∧ c.maxLocals = nL ∧ s.vm.findClass own = some m.cls ∧ (∀ w ∈ Ts, w.before args s = true) ∧ (∀ w ∈ Tg, w ∈ Ts ∧ ((w.onTables && w.keeps) = true ∨ ∃ ty, w = .arrayClass ty)) ∧ zClOk cl fty Ts tb ∧ va_K D cl (ztys cA) s ∧ (∀ q, s.heap.size ≤ q → A q) ∧ ZX A s s.heap ∧ zZX ZX
  ∧ (∀ pc j len a b z, cd pc = some (j, len, a, b, z) → decode cc pc = .ok (j, len) ∧ zLk cl fty Ts Tg mi tb sref own nm pc j len a b z)
  ∧ (nm = "<init>" → meth.name = "<init>") ∧ (bud.1 ≤ R.cells ∧ bud.2 ≤ R.slots ∧ d + 11 ≤ R.frames ∧ 60 * (d + 1) + 400 ≤ R.locals)
  ∧ zCal cl fty Tg mi tb D cA adK sa ZX l Rn d
  ∧ (∀ (x : Int32) (G : zG) (h : zM) (ws : va_W) (H : Heap) (locs : List Loc) (ls : Array Slot) (pc : Nat), decode cc pc = .ok (.ireturn, 1) → (rt = 1 ∨ rt = 2 ∧ (x.toInt = 0 ∨ x.toInt = 1)) → Q (some (zI x.toInt)) G h → zRel cl fty cA G h ws → va_P D cl ws H → va_D A ws → va_S A s.heap H locs → zext ws0 ws → W p l e R s m args below meth c H locs bud.1 bud.2 QQ (F0 m pc ls [.int x]))
  ∧ (∀ (x : Int64) (G : zG) (h : zM) (ws : va_W) (H : Heap) (locs : List Loc) (ls : Array Slot) (pc : Nat), decode cc pc = .ok (.lreturn, 1) → rt = 3 → Q (some (zL x.toInt)) G h → zRel cl fty cA G h ws → va_P D cl ws H → va_D A ws → va_S A s.heap H locs → zext ws0 ws → W p l e R s m args below meth c H locs bud.1 bud.2 QQ (F0 m pc ls [.long x]))
  ∧ (∀ (G : zG) (h : zM) (ws : va_W) (H : Heap) (locs : List Loc) (ls : Array Slot) (pc : Nat), decode cc pc = .ok (.return_, 1) → rt = 0 → Q none G h → zRel cl fty cA G h ws → va_P D cl ws H → va_D A ws → va_S A s.heap H locs → zext ws0 ws → W p l e R s m args below meth c H locs bud.1 bud.2 QQ (F0 m pc ls []))
  ∧ (scr.1 = 1 → ∃ xs : Nat → Int32, va_X sa scr.2.1 xs s s.heap ∧ sa < s.heap.size ∧ ¬ A sa ∧ ∀ j, scr.2.2 j = (xs j).toInt)
  ∧ (∀ (pc idx id : Nat) (H : Heap) (locs : List Loc) (ls : Array Slot) (cs : List Value) (k1 k2 : Nat), sref own idx id → (decode cc pc = .ok (.ldc idx, 2) → W p l e R s m args below meth c H locs k1 k2 QQ (F0 m (pc + 2) ls (.ref (adK id) :: cs)) → W p l e R s m args below meth c H locs k1 k2 QQ (F0 m pc ls cs)) ∧ (decode cc pc = .ok (.ldc_w idx, 3) → W p l e R s m args below meth c H locs k1 k2 QQ (F0 m (pc + 3) ls (.ref (adK id) :: cs)) → W p l e R s m args below meth c H locs k1 k2 QQ (F0 m pc ls cs)))
  ∧ (∀ (pc idx id : Nat) (H : Heap) (locs : List Loc) (ls : Array Slot) (cs : List Value) (k1 k2 : Nat), id < 16 → va_S A s.heap H locs → ls.size = nL → (cs.map fun v => v.category).sum ≤ 8 → k1 ≤ R.cells → k2 ≤ R.slots → decode cc pc = .ok (.invokevirtual idx, 3) →
      (Cond.methodLink own idx ⟨"java/lang/String", "length", "()I"⟩ ∈ Ts → (∀ x : Int32, x.toInt = (tb.2.1 id).length → W p l e R s m args below meth c H locs k1 k2 QQ (F0 m (pc + 3) ls (.int x :: cs))) → W p l e R s m args below meth c H locs k1 k2 QQ (F0 m pc ls (.ref (adK id) :: cs)))
      ∧ (Cond.methodLink own idx ⟨"java/lang/String", "charAt", "(I)C"⟩ ∈ Ts → ∀ i : Int32, 0 ≤ i.toInt → i.toInt < (tb.2.1 id).length → (∀ x : Int32, x.toInt = (tb.2.1 id).getD i.toInt.toNat 0 → W p l e R s m args below meth c H locs k1 k2 QQ (F0 m (pc + 3) ls (.int x :: cs))) → W p l e R s m args below meth c H locs k1 k2 QQ (F0 m pc ls (.int i :: .ref (adK id) :: cs))))
  ∧ (own = "StayHouse" → nm = "led" → ∀ (lo : zLo) (st : List zV) (G : zG) (h : zM) (k : zK), zsum st ≤ 8 → k.1 + 1 ≤ bud.1 → k.2 + 6 ≤ bud.2 → Q (some (zT 2000)) G h → zSt cl fty D cA adK sa p l e R s m args below meth c nL bud A ws0 QQ 43 lo st G h k)
  ∧ (own = "StayHouseLaw" → nm = "led" → ∀ (a idx : Nat) (lo : zLo) (st : List zV) (G : zG) (h : zM) (k : zK) (As : List zV) (r : Nat) (st' : List zV), decode cc 4 = .ok (.invokevirtual idx, 3) → a = 92 → zpop 1 [] st = some (As, zR (some r) :: st') → zsum st' ≤ 8 → G.2.1 r = 7 → k.1 + 1 ≤ bud.1 → k.2 + 6 ≤ bud.2 → Rn a (zR (some r) :: As) G h (fun v G' h' => if v = some (zT 2000) then zSt cl fty D cA adK sa p l e R s m args below meth c nL bud A ws0 QQ 12 lo [zT 2000] G' h' (k.1 + 1, k.2 + 6) else zSt cl fty D cA adK sa p l e R s m args below meth c nL bud A ws0 QQ (4 + 3) lo (v.toList ++ st') G' h' (k.1 + 1, k.2 + 6)) → zSt cl fty D cA adK sa p l e R s m args below meth c nL bud A ws0 QQ 4 lo st G h k)
  ∧ (own = "StayHouseLaw" → nm = "law" → ∀ (pc a idx : Nat) (lo : zLo) (st : List zV) (G : zG) (h : zM) (k : zK) (As : List zV) (st' : List zV), decode cc pc = .ok (.invokestatic idx, 3) → a = 220 → zpop 3 [] st = some (As, st') → zsum st' ≤ 8 → k.1 + (tb.2.2.1 a).1 ≤ bud.1 → k.2 + (tb.2.2.1 a).2 ≤ bud.2 → Rn a As G h (fun v G' h' => zSt cl fty D cA adK sa p l e R s m args below meth c nL bud A ws0 QQ (pc + 3) lo (v.toList ++ st') G' h' (k.1 + (tb.2.2.1 a).1, k.2 + (tb.2.2.1 a).2)) → zSt cl fty D cA adK sa p l e R s m args below meth c nL bud A ws0 QQ pc lo st G h k)
end ZC2
end ZC
