/-! WHAT LIES OUTSIDE THE WORLD: the String constants, the statics that the JDK's methods read, the words that stay but aren't a contract's -/
def zNk2 : Cond → Bool
  | .declares _ => true
  | .castable .. => true
  | _ => false
def zslen : List Nat := zstr.map List.length
def zsbyt : List (List Int32) := zstr.map (fun l => l.map Int32.ofInt)
def zSX : List (Nat × Nat × String × Nat) := [(3, 64, "baker", 0), (3, 74, "sort", 1), (3, 79, "prices", 2), (3, 84, "keep", 3), (3, 127, "costs", 4), (3, 135, "fits", 5), (3, 139, "enters", 6), (3, 143, "new", 7), (3, 148, "worth", 8), (3, 152, "leaves", 9), (3, 156, "stays", 10), (3, 160, "near", 11), (3, 162, "far", 12), (3, 167, "one", 13), (3, 169, "two", 14), (7, 314, "no such year", 15), (9, 216, "baker", 0), (9, 221, "sort", 1), (9, 225, "prices", 2), (9, 229, "keep", 3), (9, 247, "costs", 4), (9, 253, "fits", 5), (9, 255, "enters", 6), (9, 263, "new", 7), (9, 265, "worth", 8), (9, 267, "leaves", 9), (9, 268, "stays", 10), (9, 270, "far", 12), (9, 272, "near", 11), (9, 286, "two", 14), (9, 288, "one", 13)]
theorem zSX_eq : zSX.map (fun x => (x.1, x.2.1, x.2.2.2)) = zSR := rfl
def zZs (adK adV : Nat → Nat) (A : Nat → Prop) (U : State) (H : Heap) : Prop :=
  vk_S 16 zslen zsbyt adK adV A U H ∧ (∀ x ∈ zSX, vk_R (zonm x.1) x.2.1 x.2.2.1 (adK x.2.2.2) U) ∧ va_Z "java/lang/String" "COMPACT_STRINGS" "Z" (.int 1) A U H ∧ va_Zq "jdk/internal/util/Preconditions" "SIOOBE_FORMATTER" "Ljava/util/function/BiFunction;" A U H
  ∧ (∀ w ∈ lw_tbl, (zNk w || zNk2 w) = true → va_Nw w U) ∧ vx_Zq Bundle.tN "UNASSIGNED_STACK" Bundle.steD A U H ∧ vx_Zq Bundle.tN "SUPPRESSED_SENTINEL" Bundle.listD A U H
/-- arrays over a kind of arrays stay -/
theorem va_AOA.moved {ty : FieldType} {u U : State} (hvm : u.vm.Alike U.vm) (h : va_Nw (.arrayOver ty) u) : va_Nw (.arrayOver ty) U := by
  have hf : ∀ n, U.vm.findClass n = u.vm.findClass n := fun n => hvm.findClass n _
  have key : ∀ cq : Option ClassId, ((cq.bind fun comp => (u.vm.classes.findIdx? fun (x : Class) => match x.kind with | .array component _ => component == comp | _ => false).bind fun c => (u.vm.classes[c]?).map fun (k : Class) => match k.kind with
      | .array _ t2 => decide (t2 = ty) && decide (u.vm.findClass ("[" ++ ty.toString) = some c)
      | _ => false) == some true) = true → ((cq.bind fun comp => (U.vm.classes.findIdx? fun (x : Class) => match x.kind with | .array component _ => component == comp | _ => false).bind fun c => (U.vm.classes[c]?).map fun (k : Class) => match k.kind with
      | .array _ t2 => decide (t2 = ty) && decide (u.vm.findClass ("[" ++ ty.toString) = some c)
      | _ => false) == some true) = true := by
    intro cq h
    cases cq with
    | none => exact h
    | some comp =>
      rw [Option.bind_some] at h ⊢
      have hi : (U.vm.classes.findIdx? fun (x : Class) => match x.kind with | .array component _ => component == comp | _ => false) = (u.vm.classes.findIdx? fun (x : Class) => match x.kind with | .array component _ => component == comp | _ => false) := by
        first
          | exact (va_idx_bare U.vm comp).symm.trans ((congrArg (fun v : Vm => v.classes.findIdx? fun (x : Class) => match x.kind with | .array component _ => component == comp | _ => false) hvm.bare_eq).trans (va_idx_bare u.vm comp))
          | exact (va_idx_bare U.vm comp).symm.trans ((congrArg (fun v : Vm => v.classes.findIdx? fun (x : Class) => match x.kind with | .array component _ => component == comp | _ => false) hvm.bare_eq.symm).trans (va_idx_bare u.vm comp))
      rw [hi]
      cases hci : (u.vm.classes.findIdx? fun (x : Class) => match x.kind with | .array component _ => component == comp | _ => false) with
      | none => rw [hci] at h; exact h
      | some c =>
        rw [hci] at h
        rw [Option.bind_some] at h ⊢
        cases hk : u.vm.classes[c]? with
        | none => rw [hk] at h; simp at h
        | some k =>
          obtain ⟨k', hk', he⟩ := hvm.2.2 _ _ hk
          rw [hk] at h
          rw [hk']
          have hkind : k'.kind = k.kind := by rw [he]
          simp only [Option.map_some] at h ⊢
          rw [hkind]
          exact h
  unfold va_Nw Cond.before Cond.holds at h ⊢
  simp only [Cond.value, hf] at h ⊢
  exact key _ h
theorem zNw_warm {w : Cond} (hw : (zNk w || zNk2 w) = true) {s U : State} (hW : s.WarmedH U.vm) (h : va_Nw w s) : va_Nw w U := by
  cases w <;> first
    | (simp [zNk, zNk2] at hw; done)
    | exact va_Nw.warmF hW h
    | exact va_Nw.warmM hW h
    | exact va_Nw.warmD hW h
    | exact va_Nw.warmC hW h
    | exact va_AOA.moved hW.alike h
theorem zZs_shut (adK adV : Nat → Nat) : zZX (zZs adK adV) := by
  intro A B u U H H1 h hW hk hAB
  obtain ⟨h1, h2, h3, h4, h5, h6, h7⟩ := h
  exact ⟨((h1.moved hW.alike).kept hk).narrow hAB, fun x hx => (h2 x hx).warm hW, ((h3.moved hW.alike).kept hk).narrow hAB, ((h4.moved hW.alike).kept hk).narrow hAB, fun w hw hn => zNw_warm hn hW (h5 w hw hn), ((h6.moved hW.alike).kept hk).narrow hAB, ((h7.moved hW.alike).kept hk).narrow hAB⟩


theorem zSX_of {own : String} {idx id : Nat} (h : zsref own idx id) : ∃ x ∈ zSX, own = zonm x.1 ∧ x.2.1 = idx ∧ x.2.2.2 = id := by
  obtain ⟨x, hx, h1, h2, h3⟩ := h
  rw [← zSX_eq] at hx
  obtain ⟨y, hy, rfl⟩ := List.mem_map.mp hx
  exact ⟨y, hy, h1, h2, h3⟩
section STR
variable {adK adV : Nat → Nat} {p : Program} {l : Launch} {e : Env} {R : Room} {s : State} {m : MethodId} {args : Array Value} {below : List Frame} {meth : Method} {c : Code} {cc : ByteArray} {A : Nat → Prop} {QQ : State → Prop} {own : String}
theorem zldc (hx : p.tables.exec = Jvm.exec) (hb : c.code = cc) (hown : s.vm.findClass own = some m.cls) (hZ : zZs adK adV A s s.heap) (pc idx id : Nat) (H : Heap) (locs : List Loc) (ls : Array Slot) (cs : List Value) (k1 k2 : Nat) (hs : zsref own idx id) :
    (decode cc pc = .ok (.ldc idx, 2) → W p l e R s m args below meth c H locs k1 k2 QQ (F0 m (pc + 2) ls (.ref (adK id) :: cs)) → W p l e R s m args below meth c H locs k1 k2 QQ (F0 m pc ls cs)) ∧ (decode cc pc = .ok (.ldc_w idx, 3) → W p l e R s m args below meth c H locs k1 k2 QQ (F0 m (pc + 3) ls (.ref (adK id) :: cs)) → W p l e R s m args below meth c H locs k1 k2 QQ (F0 m pc ls cs)) := by
  obtain ⟨x, hx1, rfl, rfl, rfl⟩ := zSX_of hs
  have hR := hZ.2.1 x hx1
  refine ⟨fun hdg kk => va_ldcS hx hb hown hR hdg kk, fun hdg kk => ?_⟩
  intro T hT X
  obtain ⟨t, a1, b1⟩ := kk T hT X
  exact ⟨t, X.ldcStringW hx hown (text := x.2.2.1) (a := adK x.2.2.2) (vk_R.same rfl hR).1 (vk_R.same rfl hR).2 (g := F0 m pc ls cs) rfl (by rw [hb]; exact hdg) t a1, b1⟩
end STR
