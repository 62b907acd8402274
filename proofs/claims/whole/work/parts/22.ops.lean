def zRow (n : Nat) : Nat → Option zIns := match zMR[n]? with
  | some e => fun pc => e.2.2.2.2.2.2.2.2.2.2.2.lookup pc
  | none => fun _ => none
def zBud (n : Nat) : zK := match zMR[n]? with
  | some e => e.2.2.2.2.2.2.2.1
  | none => (0, 0)
def zRt (n : Nat) : Nat := match zMR[n]? with
  | some e => e.2.2.2.2.2.2.2.2.1
  | none => 0
def zMl (n : Nat) : Nat := match zMR[n]? with
  | some e => e.2.2.1
  | none => 0
/-- a method's run, at depth d of calls -/
abbrev zR' (d : Nat) : zRun := zRunD ztb zmt' d
/-- inside of method n -/
def zE (n d : Nat) (Q : zQ) (pc : Nat) (lo : zLo) (st : List zV) (G : zG) (h : zM) (k : zK) : Prop := zW ztb (zRunD ztb zmt' d) (zRow n) (zBud n) (zRt n) (0, 0, fun _ => 0) Q pc lo st G h k
theorem zE_iff {n d : Nat} {Q : zQ} {pc : Nat} {lo : zLo} {st : List zV} {G : zG} {h : zM} {k : zK} : zE n d Q pc lo st G h k ↔ zF ztb (zRunD ztb zmt' d) (zRow n) (zBud n) (zRt n) (0, 0, fun _ => 0) Q (zE n d Q) pc lo st G h k := zW_iff (zRunD_mono ztb zmt' d)
theorem zrun_iff {n d : Nat} (hn : n < zMR.length) {As : List zV} {G : zG} {h : zM} {Q : zQ} (hl : (zent (zMl n) As).length = zMl n) : zRunD ztb zmt' (d + 1) n As G h Q ↔ zE n d Q 0 (zent (zMl n) As) [] G h (0, 0) := by
  obtain ⟨e, he⟩ : ∃ e, zMR[n]? = some e := ⟨zMR[n], List.getElem?_eq_getElem hn⟩
  have h1 : zmt' n = some (zRow n, zBud n, zRt n, zMl n) := by
    unfold zmt' zRow zBud zRt zMl
    rw [he]
  constructor
  · rintro ⟨e0, h2, h3, h4⟩
    rw [h1] at h2
    cases h2
    exact h4
  · intro h4
    exact ⟨_, h1, hl, h4⟩
theorem zcmp_eq {x y : Int} : zcmp .eq x y ↔ x = y := Iff.rfl
theorem zcmp_ne {x y : Int} : zcmp .ne x y ↔ ¬ x = y := Iff.rfl
theorem zcmp_lt {x y : Int} : zcmp .lt x y ↔ x < y := Iff.rfl
theorem zcmp_ge {x y : Int} : zcmp .ge x y ↔ y ≤ x := Iff.rfl
theorem zcmp_gt {x y : Int} : zcmp .gt x y ↔ y < x := Iff.rfl
theorem zcmp_le {x y : Int} : zcmp .le x y ↔ x ≤ y := Iff.rfl
section OPS
variable {n d : Nat} {Q : zQ} {pc : Nat} {lo : zLo} {st : List zV} {G : zG} {h : zM} {k : zK} {len a b : Nat} {z : Int} {x y i : Int} {r r1 r2 q : Nat} {v w : zV}
theorem E_iconst {c : Int} (hc : zRow n pc = some (.iconst c, len, a, b, z)) : zE n d Q pc lo (st) G h k ↔ zE n d Q (pc + len) lo (zI z :: st) G h k := by
  rw [zE_iff]
  unfold zF
  rw [hc]

theorem E_bipush {c : Int} (hc : zRow n pc = some (.bipush c, len, a, b, z)) : zE n d Q pc lo (st) G h k ↔ zE n d Q (pc + len) lo (zI z :: st) G h k := by
  rw [zE_iff]
  unfold zF
  rw [hc]

theorem E_sipush {c : Int} (hc : zRow n pc = some (.sipush c, len, a, b, z)) : zE n d Q pc lo (st) G h k ↔ zE n d Q (pc + len) lo (zI z :: st) G h k := by
  rw [zE_iff]
  unfold zF
  rw [hc]

theorem E_lconst {c : Fin 2} (hc : zRow n pc = some (.lconst c, len, a, b, z)) : zE n d Q pc lo (st) G h k ↔ zE n d Q (pc + len) lo (zL z :: st) G h k := by
  rw [zE_iff]
  unfold zF
  rw [hc]

theorem E_ldc2_w {c : Nat} (hc : zRow n pc = some (.ldc2_w c, len, a, b, z)) : zE n d Q pc lo (st) G h k ↔ zE n d Q (pc + len) lo (zL z :: st) G h k := by
  rw [zE_iff]
  unfold zF
  rw [hc]

theorem E_ldcI {c : Nat} (hc : zRow n pc = some (.ldc c, len, a, b, z)) (ha : a = 0) : zE n d Q pc lo (st) G h k ↔ zE n d Q (pc + len) lo (zI z :: st) G h k := by
  rw [zE_iff]
  unfold zF
  rw [hc]
  dsimp only
  rw [if_pos ha]

theorem E_ldcS {c : Nat} (hc : zRow n pc = some (.ldc c, len, a, b, z)) (ha : ¬ a = 0) : zE n d Q pc lo (st) G h k ↔ zE n d Q (pc + len) lo (zT b :: st) G h k := by
  rw [zE_iff]
  unfold zF
  rw [hc]
  dsimp only
  rw [if_neg ha]

theorem E_ldc_wI {c : Nat} (hc : zRow n pc = some (.ldc_w c, len, a, b, z)) (ha : a = 0) : zE n d Q pc lo (st) G h k ↔ zE n d Q (pc + len) lo (zI z :: st) G h k := by
  rw [zE_iff]
  unfold zF
  rw [hc]
  dsimp only
  rw [if_pos ha]

theorem E_ldc_wS {c : Nat} (hc : zRow n pc = some (.ldc_w c, len, a, b, z)) (ha : ¬ a = 0) : zE n d Q pc lo (st) G h k ↔ zE n d Q (pc + len) lo (zT b :: st) G h k := by
  rw [zE_iff]
  unfold zF
  rw [hc]
  dsimp only
  rw [if_neg ha]

theorem E_iload_n {c : Fin 4} (hc : zRow n pc = some (.iload_n c, len, a, b, z)) (hl : lo[a]? = some (some (zI x))) : zE n d Q pc lo (st) G h k ↔ zE n d Q (pc + len) lo (zI x :: st) G h k := by
  rw [zE_iff]
  unfold zF
  rw [hc]
  exact ⟨fun ⟨x9, h1, h2⟩ => by rw [hl] at h1; cases h1; exact h2, fun h2 => ⟨x, hl, h2⟩⟩

theorem E_iload {c : Nat} (hc : zRow n pc = some (.iload c, len, a, b, z)) (hl : lo[a]? = some (some (zI x))) : zE n d Q pc lo (st) G h k ↔ zE n d Q (pc + len) lo (zI x :: st) G h k := by
  rw [zE_iff]
  unfold zF
  rw [hc]
  exact ⟨fun ⟨x9, h1, h2⟩ => by rw [hl] at h1; cases h1; exact h2, fun h2 => ⟨x, hl, h2⟩⟩

theorem E_lload_n {c : Fin 4} (hc : zRow n pc = some (.lload_n c, len, a, b, z)) (hl : lo[a]? = some (some (zL x))) : zE n d Q pc lo (st) G h k ↔ zE n d Q (pc + len) lo (zL x :: st) G h k := by
  rw [zE_iff]
  unfold zF
  rw [hc]
  exact ⟨fun ⟨x9, h1, h2⟩ => by rw [hl] at h1; cases h1; exact h2, fun h2 => ⟨x, hl, h2⟩⟩

theorem E_lload {c : Nat} (hc : zRow n pc = some (.lload c, len, a, b, z)) (hl : lo[a]? = some (some (zL x))) : zE n d Q pc lo (st) G h k ↔ zE n d Q (pc + len) lo (zL x :: st) G h k := by
  rw [zE_iff]
  unfold zF
  rw [hc]
  exact ⟨fun ⟨x9, h1, h2⟩ => by rw [hl] at h1; cases h1; exact h2, fun h2 => ⟨x, hl, h2⟩⟩

theorem E_aload_n {w9 : Option Nat ⊕ Nat} {c : Fin 4} (hc : zRow n pc = some (.aload_n c, len, a, b, z)) (hl : lo[a]? = some (some (.inr (.inr w9)))) : zE n d Q pc lo (st) G h k ↔ zE n d Q (pc + len) lo (.inr (.inr w9) :: st) G h k := by
  rw [zE_iff]
  unfold zF
  rw [hc]
  exact ⟨fun ⟨x9, h1, h2⟩ => by rw [hl] at h1; cases h1; exact h2, fun h2 => ⟨w9, hl, h2⟩⟩

theorem E_istore_n {c : Fin 4} (hc : zRow n pc = some (.istore_n c, len, a, b, z)) (ha : a < lo.length) : zE n d Q pc lo (zI x :: st) G h k ↔ zE n d Q (pc + len) (zst1 lo a (zI x)) (st) G h k := by
  rw [zE_iff]
  unfold zF
  rw [hc]
  exact ⟨fun h1 => h1.2, fun h1 => ⟨ha, h1⟩⟩

theorem E_lstore_n {c : Fin 4} (hc : zRow n pc = some (.lstore_n c, len, a, b, z)) (ha : a + 1 < lo.length) : zE n d Q pc lo (zL x :: st) G h k ↔ zE n d Q (pc + len) (zst2 lo a (zL x)) (st) G h k := by
  rw [zE_iff]
  unfold zF
  rw [hc]
  exact ⟨fun h1 => h1.2, fun h1 => ⟨ha, h1⟩⟩

theorem E_astore_n {w9 : Option Nat ⊕ Nat} {c : Fin 4} (hc : zRow n pc = some (.astore_n c, len, a, b, z)) (ha : a < lo.length) : zE n d Q pc lo (.inr (.inr w9) :: st) G h k ↔ zE n d Q (pc + len) (zst1 lo a (.inr (.inr w9))) (st) G h k := by
  rw [zE_iff]
  unfold zF
  rw [hc]
  exact ⟨fun h1 => h1.2, fun h1 => ⟨ha, h1⟩⟩

theorem E_aload {w9 : Option Nat ⊕ Nat} {c : Nat} (hc : zRow n pc = some (.aload c, len, a, b, z)) (hl : lo[a]? = some (some (.inr (.inr w9)))) : zE n d Q pc lo (st) G h k ↔ zE n d Q (pc + len) lo (.inr (.inr w9) :: st) G h k := by
  rw [zE_iff]
  unfold zF
  rw [hc]
  exact ⟨fun ⟨x9, h1, h2⟩ => by rw [hl] at h1; cases h1; exact h2, fun h2 => ⟨w9, hl, h2⟩⟩

theorem E_istore {c : Nat} (hc : zRow n pc = some (.istore c, len, a, b, z)) (ha : a < lo.length) : zE n d Q pc lo (zI x :: st) G h k ↔ zE n d Q (pc + len) (zst1 lo a (zI x)) (st) G h k := by
  rw [zE_iff]
  unfold zF
  rw [hc]
  exact ⟨fun h1 => h1.2, fun h1 => ⟨ha, h1⟩⟩

theorem E_lstore {c : Nat} (hc : zRow n pc = some (.lstore c, len, a, b, z)) (ha : a + 1 < lo.length) : zE n d Q pc lo (zL x :: st) G h k ↔ zE n d Q (pc + len) (zst2 lo a (zL x)) (st) G h k := by
  rw [zE_iff]
  unfold zF
  rw [hc]
  exact ⟨fun h1 => h1.2, fun h1 => ⟨ha, h1⟩⟩

theorem E_astore {w9 : Option Nat ⊕ Nat} {c : Nat} (hc : zRow n pc = some (.astore c, len, a, b, z)) (ha : a < lo.length) : zE n d Q pc lo (.inr (.inr w9) :: st) G h k ↔ zE n d Q (pc + len) (zst1 lo a (.inr (.inr w9))) (st) G h k := by
  rw [zE_iff]
  unfold zF
  rw [hc]
  exact ⟨fun h1 => h1.2, fun h1 => ⟨ha, h1⟩⟩

theorem E_iinc {c : Nat} {e : Int} (hc : zRow n pc = some (.iinc c e, len, a, b, z)) (hl : lo[a]? = some (some (zI x))) : zE n d Q pc lo (st) G h k ↔ zE n d Q (pc + len) (zst1 lo a (zI (wr (x + z)))) (st) G h k := by
  rw [zE_iff]
  unfold zF
  rw [hc]
  exact ⟨fun ⟨x9, h1, h2⟩ => by rw [hl] at h1; cases h1; exact h2, fun h2 => ⟨x, hl, h2⟩⟩

theorem E_iadd (hc : zRow n pc = some (.iadd, len, a, b, z)) : zE n d Q pc lo (zI y :: zI x :: st) G h k ↔ zE n d Q (pc + len) lo (zI (wr (x + y)) :: st) G h k := by
  rw [zE_iff]
  unfold zF
  rw [hc]

theorem E_isub (hc : zRow n pc = some (.isub, len, a, b, z)) : zE n d Q pc lo (zI y :: zI x :: st) G h k ↔ zE n d Q (pc + len) lo (zI (wr (x - y)) :: st) G h k := by
  rw [zE_iff]
  unfold zF
  rw [hc]

theorem E_imul (hc : zRow n pc = some (.imul, len, a, b, z)) : zE n d Q pc lo (zI y :: zI x :: st) G h k ↔ zE n d Q (pc + len) lo (zI (wr (x * y)) :: st) G h k := by
  rw [zE_iff]
  unfold zF
  rw [hc]

theorem E_iand (hc : zRow n pc = some (.iand, len, a, b, z)) : zE n d Q pc lo (zI y :: zI x :: st) G h k ↔ zE n d Q (pc + len) lo (zI (zand x y) :: st) G h k := by
  rw [zE_iff]
  unfold zF
  rw [hc]

theorem E_ior (hc : zRow n pc = some (.ior, len, a, b, z)) : zE n d Q pc lo (zI y :: zI x :: st) G h k ↔ zE n d Q (pc + len) lo (zI (zor x y) :: st) G h k := by
  rw [zE_iff]
  unfold zF
  rw [hc]

theorem E_idiv (hc : zRow n pc = some (.idiv, len, a, b, z)) : zE n d Q pc lo (zI y :: zI x :: st) G h k ↔ (y ≠ 0 ∧ zE n d Q (pc + len) lo (zI (wr (x.tdiv y)) :: st) G h k) := by
  rw [zE_iff]
  unfold zF
  rw [hc]

theorem E_irem (hc : zRow n pc = some (.irem, len, a, b, z)) : zE n d Q pc lo (zI y :: zI x :: st) G h k ↔ (y ≠ 0 ∧ zE n d Q (pc + len) lo (zI (x.tmod y) :: st) G h k) := by
  rw [zE_iff]
  unfold zF
  rw [hc]

theorem E_ishl (hc : zRow n pc = some (.ishl, len, a, b, z)) : zE n d Q pc lo (zI y :: zI x :: st) G h k ↔ ((0 ≤ y ∧ y < 32) ∧ zE n d Q (pc + len) lo (zI (wr (x * 2 ^ y.toNat)) :: st) G h k) := by
  rw [zE_iff]
  unfold zF
  rw [hc]

theorem E_ishr (hc : zRow n pc = some (.ishr, len, a, b, z)) : zE n d Q pc lo (zI y :: zI x :: st) G h k ↔ ((0 ≤ y ∧ y < 32) ∧ zE n d Q (pc + len) lo (zI (x / 2 ^ y.toNat) :: st) G h k) := by
  rw [zE_iff]
  unfold zF
  rw [hc]

theorem E_i2l (hc : zRow n pc = some (.i2l, len, a, b, z)) : zE n d Q pc lo (zI x :: st) G h k ↔ zE n d Q (pc + len) lo (zL x :: st) G h k := by
  rw [zE_iff]
  unfold zF
  rw [hc]

theorem E_i2b (hc : zRow n pc = some (.i2b, len, a, b, z)) : zE n d Q pc lo (zI x :: st) G h k ↔ zE n d Q (pc + len) lo (zI (wb x) :: st) G h k := by
  rw [zE_iff]
  unfold zF
  rw [hc]

theorem E_ladd (hc : zRow n pc = some (.ladd, len, a, b, z)) : zE n d Q pc lo (zL y :: zL x :: st) G h k ↔ zE n d Q (pc + len) lo (zL (wl (x + y)) :: st) G h k := by
  rw [zE_iff]
  unfold zF
  rw [hc]

theorem E_lsub (hc : zRow n pc = some (.lsub, len, a, b, z)) : zE n d Q pc lo (zL y :: zL x :: st) G h k ↔ zE n d Q (pc + len) lo (zL (wl (x - y)) :: st) G h k := by
  rw [zE_iff]
  unfold zF
  rw [hc]

theorem E_lmul (hc : zRow n pc = some (.lmul, len, a, b, z)) : zE n d Q pc lo (zL y :: zL x :: st) G h k ↔ zE n d Q (pc + len) lo (zL (wl (x * y)) :: st) G h k := by
  rw [zE_iff]
  unfold zF
  rw [hc]

theorem E_lxor (hc : zRow n pc = some (.lxor, len, a, b, z)) : zE n d Q pc lo (zL y :: zL x :: st) G h k ↔ zE n d Q (pc + len) lo (zL (zxl x y) :: st) G h k := by
  rw [zE_iff]
  unfold zF
  rw [hc]

theorem E_ldiv (hc : zRow n pc = some (.ldiv, len, a, b, z)) : zE n d Q pc lo (zL y :: zL x :: st) G h k ↔ (y ≠ 0 ∧ zE n d Q (pc + len) lo (zL (wl (x.tdiv y)) :: st) G h k) := by
  rw [zE_iff]
  unfold zF
  rw [hc]

theorem E_lneg (hc : zRow n pc = some (.lneg, len, a, b, z)) : zE n d Q pc lo (zL x :: st) G h k ↔ zE n d Q (pc + len) lo (zL (wl (-x)) :: st) G h k := by
  rw [zE_iff]
  unfold zF
  rw [hc]

theorem E_lcmp (hc : zRow n pc = some (.lcmp, len, a, b, z)) : zE n d Q pc lo (zL y :: zL x :: st) G h k ↔ zE n d Q (pc + len) lo (zI (zlc x y) :: st) G h k := by
  rw [zE_iff]
  unfold zF
  rw [hc]

theorem E_dup (hc : zRow n pc = some (.dup, len, a, b, z)) (hv : zcat v = 1) : zE n d Q pc lo (v :: st) G h k ↔ zE n d Q (pc + len) lo (v :: v :: st) G h k := by
  rw [zE_iff]
  unfold zF
  rw [hc]
  exact ⟨fun h1 => h1.2, fun h1 => ⟨hv, h1⟩⟩

theorem E_pop (hc : zRow n pc = some (.pop, len, a, b, z)) (hv : zcat v = 1) : zE n d Q pc lo (v :: st) G h k ↔ zE n d Q (pc + len) lo (st) G h k := by
  rw [zE_iff]
  unfold zF
  rw [hc]
  exact ⟨fun h1 => h1.2, fun h1 => ⟨hv, h1⟩⟩

theorem E_dup2 (hc : zRow n pc = some (.dup2, len, a, b, z)) (hv : zcat v = 1) (hw : zcat w = 1) : zE n d Q pc lo (v :: w :: st) G h k ↔ zE n d Q (pc + len) lo (v :: w :: v :: w :: st) G h k := by
  rw [zE_iff]
  unfold zF
  rw [hc]
  exact ⟨fun h1 => h1.2.2, fun h1 => ⟨hv, hw, h1⟩⟩

theorem E_goto {c : Int} (hc : zRow n pc = some (.goto c, len, a, b, z)) : zE n d Q pc lo (st) G h k ↔ zE n d Q a lo (st) G h k := by
  rw [zE_iff]
  unfold zF
  rw [hc]

theorem E_if_eq {c : Int} (hc : zRow n pc = some (.ifCond .eq c, len, a, b, z)) : zE n d Q pc lo (zI x :: st) G h k ↔ ((x = 0 → zE n d Q a lo (st) G h k) ∧ (¬ (x = 0) → zE n d Q (pc + len) lo (st) G h k)) := by
  rw [zE_iff]
  unfold zF
  rw [hc]
  exact Iff.rfl

theorem E_if_ne {c : Int} (hc : zRow n pc = some (.ifCond .ne c, len, a, b, z)) : zE n d Q pc lo (zI x :: st) G h k ↔ ((¬ x = 0 → zE n d Q a lo (st) G h k) ∧ (¬ (¬ x = 0) → zE n d Q (pc + len) lo (st) G h k)) := by
  rw [zE_iff]
  unfold zF
  rw [hc]
  exact Iff.rfl

theorem E_if_lt {c : Int} (hc : zRow n pc = some (.ifCond .lt c, len, a, b, z)) : zE n d Q pc lo (zI x :: st) G h k ↔ ((x < 0 → zE n d Q a lo (st) G h k) ∧ (¬ (x < 0) → zE n d Q (pc + len) lo (st) G h k)) := by
  rw [zE_iff]
  unfold zF
  rw [hc]
  exact Iff.rfl

theorem E_if_ge {c : Int} (hc : zRow n pc = some (.ifCond .ge c, len, a, b, z)) : zE n d Q pc lo (zI x :: st) G h k ↔ ((0 ≤ x → zE n d Q a lo (st) G h k) ∧ (¬ (0 ≤ x) → zE n d Q (pc + len) lo (st) G h k)) := by
  rw [zE_iff]
  unfold zF
  rw [hc]
  exact Iff.rfl

theorem E_if_gt {c : Int} (hc : zRow n pc = some (.ifCond .gt c, len, a, b, z)) : zE n d Q pc lo (zI x :: st) G h k ↔ ((0 < x → zE n d Q a lo (st) G h k) ∧ (¬ (0 < x) → zE n d Q (pc + len) lo (st) G h k)) := by
  rw [zE_iff]
  unfold zF
  rw [hc]
  exact Iff.rfl

theorem E_if_le {c : Int} (hc : zRow n pc = some (.ifCond .le c, len, a, b, z)) : zE n d Q pc lo (zI x :: st) G h k ↔ ((x ≤ 0 → zE n d Q a lo (st) G h k) ∧ (¬ (x ≤ 0) → zE n d Q (pc + len) lo (st) G h k)) := by
  rw [zE_iff]
  unfold zF
  rw [hc]
  exact Iff.rfl

theorem E_icmp_eq {c : Int} (hc : zRow n pc = some (.if_icmp .eq c, len, a, b, z)) : zE n d Q pc lo (zI y :: zI x :: st) G h k ↔ ((x = y → zE n d Q a lo (st) G h k) ∧ (¬ (x = y) → zE n d Q (pc + len) lo (st) G h k)) := by
  rw [zE_iff]
  unfold zF
  rw [hc]
  exact Iff.rfl

theorem E_icmp_ne {c : Int} (hc : zRow n pc = some (.if_icmp .ne c, len, a, b, z)) : zE n d Q pc lo (zI y :: zI x :: st) G h k ↔ ((¬ x = y → zE n d Q a lo (st) G h k) ∧ (¬ (¬ x = y) → zE n d Q (pc + len) lo (st) G h k)) := by
  rw [zE_iff]
  unfold zF
  rw [hc]
  exact Iff.rfl

theorem E_icmp_lt {c : Int} (hc : zRow n pc = some (.if_icmp .lt c, len, a, b, z)) : zE n d Q pc lo (zI y :: zI x :: st) G h k ↔ ((x < y → zE n d Q a lo (st) G h k) ∧ (¬ (x < y) → zE n d Q (pc + len) lo (st) G h k)) := by
  rw [zE_iff]
  unfold zF
  rw [hc]
  exact Iff.rfl

theorem E_icmp_ge {c : Int} (hc : zRow n pc = some (.if_icmp .ge c, len, a, b, z)) : zE n d Q pc lo (zI y :: zI x :: st) G h k ↔ ((y ≤ x → zE n d Q a lo (st) G h k) ∧ (¬ (y ≤ x) → zE n d Q (pc + len) lo (st) G h k)) := by
  rw [zE_iff]
  unfold zF
  rw [hc]
  exact Iff.rfl

theorem E_icmp_gt {c : Int} (hc : zRow n pc = some (.if_icmp .gt c, len, a, b, z)) : zE n d Q pc lo (zI y :: zI x :: st) G h k ↔ ((y < x → zE n d Q a lo (st) G h k) ∧ (¬ (y < x) → zE n d Q (pc + len) lo (st) G h k)) := by
  rw [zE_iff]
  unfold zF
  rw [hc]
  exact Iff.rfl

theorem E_icmp_le {c : Int} (hc : zRow n pc = some (.if_icmp .le c, len, a, b, z)) : zE n d Q pc lo (zI y :: zI x :: st) G h k ↔ ((x ≤ y → zE n d Q a lo (st) G h k) ∧ (¬ (x ≤ y) → zE n d Q (pc + len) lo (st) G h k)) := by
  rw [zE_iff]
  unfold zF
  rw [hc]
  exact Iff.rfl

theorem E_ifnull {c : Int} {q9 : Option Nat} (hc : zRow n pc = some (.ifnull c, len, a, b, z)) : zE n d Q pc lo (zR q9 :: st) G h k ↔ ((q9 = none → zE n d Q a lo (st) G h k) ∧ (∀ q, q9 = some q → zE n d Q (pc + len) lo (st) G h k)) := by
  rw [zE_iff]
  unfold zF
  rw [hc]

theorem E_ifnonnull {c : Int} {q9 : Option Nat} (hc : zRow n pc = some (.ifnonnull c, len, a, b, z)) : zE n d Q pc lo (zR q9 :: st) G h k ↔ ((q9 = none → zE n d Q (pc + len) lo (st) G h k) ∧ (∀ q, q9 = some q → zE n d Q a lo (st) G h k)) := by
  rw [zE_iff]
  unfold zF
  rw [hc]

theorem E_tableswitch {c1 c2 c3 : Int} {c4 : Array Int} (hc : zRow n pc = some (.tableswitch c1 c2 c3 c4, len, a, b, z)) : zE n d Q pc lo (zI x :: st) G h k ↔ zE n d Q (ztsw pc c1 c2 c3 c4 x) lo (st) G h k := by
  rw [zE_iff]
  unfold zF
  rw [hc]

theorem E_getR {c : Nat} (hc : zRow n pc = some (.getfield c, len, a, b, z)) (hz : z = 2) : zE n d Q pc lo (zR (some r) :: st) G h k ↔ (G.2.1 r = a ∧ zE n d Q (pc + len) lo (zR (G.2.2.2 r b) :: st) G h k) := by
  rw [zE_iff]
  unfold zF
  rw [hc]
  dsimp only
  rw [if_pos hz]

theorem E_getL {c : Nat} (hc : zRow n pc = some (.getfield c, len, a, b, z)) (hz : z = 1) : zE n d Q pc lo (zR (some r) :: st) G h k ↔ (G.2.1 r = a ∧ zE n d Q (pc + len) lo (zL (h r b) :: st) G h k) := by
  rw [zE_iff]
  unfold zF
  rw [hc]
  dsimp only
  rw [if_neg (by omega), if_pos hz]

theorem E_getI {c : Nat} (hc : zRow n pc = some (.getfield c, len, a, b, z)) (hz : ¬ z = 2 ∧ ¬ z = 1) : zE n d Q pc lo (zR (some r) :: st) G h k ↔ (G.2.1 r = a ∧ zE n d Q (pc + len) lo (zI (h r b) :: st) G h k) := by
  rw [zE_iff]
  unfold zF
  rw [hc]
  dsimp only
  rw [if_neg hz.1, if_neg hz.2]

theorem E_putI {c : Nat} (hc : zRow n pc = some (.putfield c, len, a, b, z)) (hz : z = 0) : zE n d Q pc lo (zI x :: zR (some r) :: st) G h k ↔ (G.2.1 r = a ∧ zE n d Q (pc + len) lo (st) G (zu h r b x) k) := by
  rw [zE_iff]
  unfold zF
  rw [hc]
  exact ⟨fun h1 => ⟨h1.1, h1.2.2⟩, fun h1 => ⟨h1.1, Or.inl hz, h1.2⟩⟩

theorem E_putZ {c : Nat} (hc : zRow n pc = some (.putfield c, len, a, b, z)) (hz : z = 3) : zE n d Q pc lo (zI x :: zR (some r) :: st) G h k ↔ (G.2.1 r = a ∧ (x = 0 ∨ x = 1) ∧ zE n d Q (pc + len) lo (st) G (zu h r b x) k) := by
  rw [zE_iff]
  unfold zF
  rw [hc]
  exact ⟨fun h1 => ⟨h1.1, (h1.2.1.resolve_left (by omega)).2, h1.2.2⟩, fun h1 => ⟨h1.1, Or.inr ⟨hz, h1.2.1⟩, h1.2.2⟩⟩

theorem E_putL {c : Nat} (hc : zRow n pc = some (.putfield c, len, a, b, z)) (hz : z = 1) : zE n d Q pc lo (zL x :: zR (some r) :: st) G h k ↔ (G.2.1 r = a ∧ zE n d Q (pc + len) lo (st) G (zu h r b x) k) := by
  rw [zE_iff]
  unfold zF
  rw [hc]
  exact ⟨fun h1 => ⟨h1.1, h1.2.2⟩, fun h1 => ⟨h1.1, hz, h1.2⟩⟩

theorem E_putR {c : Nat} {q9 : Option Nat} (hc : zRow n pc = some (.putfield c, len, a, b, z)) (hz : z = 2) : zE n d Q pc lo (zR q9 :: zR (some r) :: st) G h k ↔ (G.2.1 r = a ∧ zE n d Q (pc + len) lo (st) (zgu G r b q9) h k) := by
  rw [zE_iff]
  unfold zF
  rw [hc]
  exact ⟨fun h1 => ⟨h1.1, h1.2.2⟩, fun h1 => ⟨h1.1, hz, h1.2⟩⟩

theorem E_iaload (hc : zRow n pc = some (.iaload, len, a, b, z)) : zE n d Q pc lo (zI i :: zR (some r) :: st) G h k ↔ (G.2.1 r = 10 ∧ (0 ≤ i ∧ i < G.2.2.1 r) ∧ zE n d Q (pc + len) lo (zI (h r i.toNat) :: st) G h k) := by
  rw [zE_iff]
  unfold zF
  rw [hc]

theorem E_laload (hc : zRow n pc = some (.laload, len, a, b, z)) : zE n d Q pc lo (zI i :: zR (some r) :: st) G h k ↔ (G.2.1 r = 11 ∧ (0 ≤ i ∧ i < G.2.2.1 r) ∧ zE n d Q (pc + len) lo (zL (h r i.toNat) :: st) G h k) := by
  rw [zE_iff]
  unfold zF
  rw [hc]

theorem E_baload (hc : zRow n pc = some (.baload, len, a, b, z)) (ha : a = 12 ∨ a = 13) : zE n d Q pc lo (zI i :: zR (some r) :: st) G h k ↔ (G.2.1 r = a ∧ (0 ≤ i ∧ i < G.2.2.1 r) ∧ zE n d Q (pc + len) lo (zI (h r i.toNat) :: st) G h k) := by
  rw [zE_iff]
  unfold zF
  rw [hc]
  exact ⟨fun h1 => h1.2, fun h1 => ⟨ha, h1⟩⟩

theorem E_aaload (hc : zRow n pc = some (.aaload, len, a, b, z)) (ha : a = 14 ∨ a = 15) : zE n d Q pc lo (zI i :: zR (some r) :: st) G h k ↔ (G.2.1 r = a ∧ (0 ≤ i ∧ i < G.2.2.1 r) ∧ zE n d Q (pc + len) lo (zR (G.2.2.2 r i.toNat) :: st) G h k) := by
  rw [zE_iff]
  unfold zF
  rw [hc]
  exact ⟨fun h1 => h1.2, fun h1 => ⟨ha, h1⟩⟩

theorem E_iastore (hc : zRow n pc = some (.iastore, len, a, b, z)) : zE n d Q pc lo (zI x :: zI i :: zR (some r) :: st) G h k ↔ (G.2.1 r = 10 ∧ (0 ≤ i ∧ i < G.2.2.1 r) ∧ zE n d Q (pc + len) lo (st) G (zu h r i.toNat x) k) := by
  rw [zE_iff]
  unfold zF
  rw [hc]

theorem E_lastore (hc : zRow n pc = some (.lastore, len, a, b, z)) : zE n d Q pc lo (zL x :: zI i :: zR (some r) :: st) G h k ↔ (G.2.1 r = 11 ∧ (0 ≤ i ∧ i < G.2.2.1 r) ∧ zE n d Q (pc + len) lo (st) G (zu h r i.toNat x) k) := by
  rw [zE_iff]
  unfold zF
  rw [hc]

theorem E_bastoreB (hc : zRow n pc = some (.bastore, len, a, b, z)) (ha : a = 12) : zE n d Q pc lo (zI x :: zI i :: zR (some r) :: st) G h k ↔ (G.2.1 r = a ∧ (0 ≤ i ∧ i < G.2.2.1 r) ∧ zE n d Q (pc + len) lo (st) G (zu h r i.toNat (wb x)) k) := by
  rw [zE_iff]
  unfold zF
  rw [hc]
  exact ⟨fun h1 => h1.2, fun h1 => ⟨Or.inl ha, h1⟩⟩

theorem E_bastoreZ (hc : zRow n pc = some (.bastore, len, a, b, z)) (ha : a = 13) : zE n d Q pc lo (zI x :: zI i :: zR (some r) :: st) G h k ↔ ((x = 0 ∨ x = 1) ∧ G.2.1 r = a ∧ (0 ≤ i ∧ i < G.2.2.1 r) ∧ zE n d Q (pc + len) lo (st) G (zu h r i.toNat (wb x)) k) := by
  rw [zE_iff]
  unfold zF
  rw [hc]
  exact ⟨fun h1 => ⟨(h1.1.resolve_left (by omega)).2, h1.2⟩, fun h1 => ⟨Or.inr ⟨ha, h1.1⟩, h1.2⟩⟩

theorem E_arraylength (hc : zRow n pc = some (.arraylength, len, a, b, z)) : zE n d Q pc lo (zR (some r) :: st) G h k ↔ (10 ≤ G.2.1 r ∧ G.2.1 r ≤ 13 ∧ G.2.2.1 r < 2147483648 ∧ zE n d Q (pc + len) lo (zI (G.2.2.1 r) :: st) G h k) := by
  rw [zE_iff]
  unfold zF
  rw [hc]

theorem E_newarray {c : ArrayType} (hc : zRow n pc = some (.newarray c, len, a, b, z)) : zE n d Q pc lo (zI i :: st) G h k ↔ (0 ≤ i ∧ i ≤ 1000000 ∧ k.1 + 1 ≤ (zBud n).1 ∧ k.2 + i.toNat ≤ (zBud n).2 ∧ zE n d Q (pc + len) lo (zR (some G.1) :: st) (zgn G a i.toNat) (zhn h G.1) (k.1 + 1, k.2 + i.toNat)) := by
  rw [zE_iff]
  unfold zF
  rw [hc]

theorem E_multi {c e : Nat} (hc : zRow n pc = some (.multianewarray c e, len, a, b, z)) : zE n d Q pc lo (zI x :: zI i :: st) G h k ↔ (0 ≤ i ∧ i ≤ 1000000 ∧ 0 ≤ x ∧ x ≤ 1000000 ∧ k.1 + (1 + i.toNat) ≤ (zBud n).1 ∧ k.2 + (i.toNat + i.toNat * x.toNat) ≤ (zBud n).2 ∧ zE n d Q (pc + len) lo (zR (some G.1) :: st) (zgm G a b i.toNat x.toNat) (zhm h G.1 i.toNat) (k.1 + 1 + i.toNat, k.2 + i.toNat + i.toNat * x.toNat)) := by
  rw [zE_iff]
  unfold zF
  rw [hc]

theorem E_new {c : Nat} (hc : zRow n pc = some (.new c, len, a, b, z)) (hz : ¬ z = 99) : zE n d Q pc lo (st) G h k ↔ (k.1 + 1 ≤ (zBud n).1 ∧ k.2 + ztb.1 a ≤ (zBud n).2 ∧ zE n d Q (pc + len) lo (zR (some G.1) :: st) (zgn G a (ztb.1 a)) (zhn h G.1) (k.1 + 1, k.2 + ztb.1 a)) := by
  rw [zE_iff]
  unfold zF
  rw [hc]
  dsimp only
  rw [if_neg hz]

theorem E_throw {c : Nat} (hc : zRow n pc = some (.new c, len, a, b, z)) (hz : z = 99) : zE n d Q pc lo (st) G h k ↔ (zsum st ≤ 8 ∧ k.1 + 1 ≤ (zBud n).1 ∧ k.2 + 6 ≤ (zBud n).2 ∧ Q (some (zT 2000)) G h) := by
  rw [zE_iff]
  unfold zF
  rw [hc]
  dsimp only
  rw [if_pos hz]

theorem E_objInit {c : Nat} (hc : zRow n pc = some (.invokespecial c, len, a, b, z)) (hz : z = 9) (hs : zsum st ≤ 8) : zE n d Q pc lo (zR (some r) :: st) G h k ↔ zE n d Q (pc + len) lo (st) G h k := by
  rw [zE_iff]
  unfold zF
  rw [hc]
  dsimp only
  rw [if_pos hz]
  exact ⟨fun ⟨r9, s9, h1, h2, h3⟩ => by cases h1; exact h3, fun h1 => ⟨r, st, rfl, hs, h1⟩⟩

theorem E_invI {c : Nat} {As st9 : List zV} (hc : zRow n pc = some (.invokespecial c, len, a, b, z)) (hz : ¬ z = 9) (hp : zpop b [] st9 = some (As, zR (some r) :: st)) (hs : zsum st ≤ 8) : zE n d Q pc lo (st9) G h k ↔ (G.2.1 r = ztb.2.2.2 a ∧ k.1 + (ztb.2.2.1 a).1 ≤ (zBud n).1 ∧ k.2 + (ztb.2.2.1 a).2 ≤ (zBud n).2 ∧ zRunD ztb zmt' d a (zR (some r) :: As) G h (fun v G' h' => v = none ∧ zE n d Q (pc + len) lo (st) G' h' (k.1 + (ztb.2.2.1 a).1, k.2 + (ztb.2.2.1 a).2))) := by
  rw [zE_iff]
  unfold zF
  rw [hc]
  dsimp only
  rw [if_neg hz]
  exact ⟨fun ⟨A9, r9, s9, h1, h2, h3⟩ => by rw [hp] at h1; cases h1; exact h3, fun h1 => ⟨As, r, st, hp, hs, h1⟩⟩

theorem E_invV {c : Nat} {As st9 : List zV} (hc : zRow n pc = some (.invokevirtual c, len, a, b, z)) (hz : ¬ z = 6 ∧ ¬ z = 7 ∧ ¬ z = 8) (hp : zpop b [] st9 = some (As, zR (some r) :: st)) (hs : zsum st ≤ 8) : zE n d Q pc lo (st9) G h k ↔ (G.2.1 r = ztb.2.2.2 a ∧ k.1 + (ztb.2.2.1 a).1 ≤ (zBud n).1 ∧ k.2 + (ztb.2.2.1 a).2 ≤ (zBud n).2 ∧ zRunD ztb zmt' d a (zR (some r) :: As) G h (fun v G' h' => zE n d Q (pc + len) lo (v.toList ++ st) G' h' (k.1 + (ztb.2.2.1 a).1, k.2 + (ztb.2.2.1 a).2))) := by
  rw [zE_iff]
  unfold zF
  rw [hc]
  dsimp only
  rw [if_neg hz.1, if_neg hz.2.1, if_neg hz.2.2]
  exact ⟨fun ⟨A9, r9, s9, h1, h2, h3⟩ => by rw [hp] at h1; cases h1; exact h3, fun h1 => ⟨As, r, st, hp, hs, h1⟩⟩

theorem E_strlen {c : Nat} (hc : zRow n pc = some (.invokevirtual c, len, a, b, z)) (hz : z = 7) (hs : zsum st ≤ 8) : zE n d Q pc lo (zT q :: st) G h k ↔ (q < 16 ∧ zE n d Q (pc + len) lo (zI ((ztb.2.1 q).length) :: st) G h k) := by
  rw [zE_iff]
  unfold zF
  rw [hc]
  dsimp only
  rw [if_neg (by omega), if_pos hz]
  exact ⟨fun ⟨r9, s9, h1, h2, h3, h4⟩ => by cases h1; exact ⟨h2, h4⟩, fun h1 => ⟨q, st, rfl, h1.1, hs, h1.2⟩⟩

theorem E_strat {c : Nat} (hc : zRow n pc = some (.invokevirtual c, len, a, b, z)) (hz : z = 8) (hs : zsum st ≤ 8) : zE n d Q pc lo (zI i :: zT q :: st) G h k ↔ (q < 16 ∧ (0 ≤ i ∧ i < (ztb.2.1 q).length) ∧ zE n d Q (pc + len) lo (zI ((ztb.2.1 q).getD i.toNat 0) :: st) G h k) := by
  rw [zE_iff]
  unfold zF
  rw [hc]
  dsimp only
  rw [if_neg (by omega), if_neg (by omega), if_pos hz]
  exact ⟨fun ⟨r9, i9, s9, h1, h2, h3, h4, h5⟩ => by cases h1; exact ⟨h2, h4, h5⟩, fun h1 => ⟨q, i, st, rfl, h1.1, hs, h1.2.1, h1.2.2⟩⟩

theorem E_copy {c : Nat} (hc : zRow n pc = some (.invokestatic c, len, a, b, z)) (hz : z = 5) (hb : b = 10 ∨ b = 11) (hs : zsum st ≤ 8) : zE n d Q pc lo (zI i :: zI y :: zR (some r2) :: zI x :: zR (some r1) :: st) G h k ↔ (G.2.1 r1 = b ∧ G.2.1 r2 = b ∧ 0 ≤ x ∧ 0 ≤ y ∧ 0 ≤ i ∧ x + i ≤ G.2.2.1 r1 ∧ y + i ≤ G.2.2.1 r2 ∧ zE n d Q (pc + len) lo (st) G (zcp h r1 x.toNat r2 y.toNat i.toNat) k) := by
  rw [zE_iff]
  unfold zF
  rw [hc]
  dsimp only
  rw [if_pos hz]
  exact ⟨fun ⟨n9, d9, a9, s9, b9, t9, h1, h2, h3, h4⟩ => by cases h1; exact h4, fun h1 => ⟨i, y, r2, x, r1, st, rfl, hs, hb, h1⟩⟩

theorem E_invS {c : Nat} {As st9 : List zV} (hc : zRow n pc = some (.invokestatic c, len, a, b, z)) (hz : ¬ z = 5) (hp : zpop b [] st9 = some (As, st)) (hs : zsum st ≤ 8) : zE n d Q pc lo (st9) G h k ↔ (k.1 + (ztb.2.2.1 a).1 ≤ (zBud n).1 ∧ k.2 + (ztb.2.2.1 a).2 ≤ (zBud n).2 ∧ zRunD ztb zmt' d a As G h (fun v G' h' => zE n d Q (pc + len) lo (v.toList ++ st) G' h' (k.1 + (ztb.2.2.1 a).1, k.2 + (ztb.2.2.1 a).2))) := by
  rw [zE_iff]
  unfold zF
  rw [hc]
  dsimp only
  rw [if_neg hz]
  exact ⟨fun ⟨A9, s9, h1, h2, h3⟩ => by rw [hp] at h1; cases h1; exact h3, fun h1 => ⟨As, st, hp, hs, h1⟩⟩

theorem E_iret (hc : zRow n pc = some (.ireturn, len, a, b, z)) (hr : zRt n = 1) : zE n d Q pc lo ([zI x]) G h k ↔ Q (some (zI x)) G h := by
  rw [zE_iff]
  unfold zF
  rw [hc]
  exact ⟨fun h1 => h1.2, fun h1 => ⟨Or.inl hr, h1⟩⟩

theorem E_zret (hc : zRow n pc = some (.ireturn, len, a, b, z)) (hr : zRt n = 2) : zE n d Q pc lo ([zI x]) G h k ↔ ((x = 0 ∨ x = 1) ∧ Q (some (zI x)) G h) := by
  rw [zE_iff]
  unfold zF
  rw [hc]
  exact ⟨fun h1 => ⟨(h1.1.resolve_left (by omega)).2, h1.2⟩, fun h1 => ⟨Or.inr ⟨hr, h1.1⟩, h1.2⟩⟩

theorem E_lret (hc : zRow n pc = some (.lreturn, len, a, b, z)) (hr : zRt n = 3) : zE n d Q pc lo ([zL x]) G h k ↔ Q (some (zL x)) G h := by
  rw [zE_iff]
  unfold zF
  rw [hc]
  exact ⟨fun h1 => h1.2, fun h1 => ⟨hr, h1⟩⟩

theorem E_vret (hc : zRow n pc = some (.return_, len, a, b, z)) (hr : zRt n = 0) : zE n d Q pc lo ([]) G h k ↔ Q none G h := by
  rw [zE_iff]
  unfold zF
  rw [hc]
  exact ⟨fun h1 => h1.2, fun h1 => ⟨hr, h1⟩⟩

end OPS
