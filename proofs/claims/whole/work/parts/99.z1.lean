/-! what stands at the start -/
theorem zlaw_arr {args : Array Value} {s : State} {ty : FieldType} (h : (Cond.arrayClass ty).before args s = true) : ∃ cA : ClassId, ArrOfT s cA ty ∧ s.vm.findClass ("[" ++ ty.toString) = some cA := by
  obtain ⟨c, k, comp, h1, h2, h3⟩ := Cond.arrayClass_spec h
  exact ⟨c, fun n z => ⟨fun k h => (by cases h), k, h2, comp, h3⟩, h1⟩
theorem zlaw_ovr {args : Array Value} {s : State} {t : FieldType} (h : (Cond.arrayOver (.array t)).before args s = true) : ∃ cA : ClassId, ArrOfT s cA (.array t) ∧ s.vm.findClass ("[" ++ (FieldType.array t).toString) = some cA := by
  unfold Cond.before Cond.holds at h
  simp only [Cond.value] at h
  have key : ∀ cq : Option ClassId, ((cq.bind fun comp => (s.vm.classes.findIdx? fun (x : Class) => match x.kind with | .array component _ => component == comp | _ => false).bind fun c => (s.vm.classes[c]?).map fun (k : Class) => match k.kind with
      | .array _ t2 => decide (t2 = .array t) && decide (s.vm.findClass ("[" ++ (FieldType.array t).toString) = some c)
      | _ => false) == some true) = true → ∃ cA : ClassId, ArrOfT s cA (.array t) ∧ s.vm.findClass ("[" ++ (FieldType.array t).toString) = some cA := by
    intro cq h
    cases cq with
    | none => simp at h
    | some comp =>
      rw [Option.bind_some] at h
      cases hi : (s.vm.classes.findIdx? fun (x : Class) => match x.kind with | .array component _ => component == comp | _ => false) with
      | none => rw [hi] at h; simp at h
      | some c =>
        rw [hi, Option.bind_some] at h
        cases hk : s.vm.classes[c]? with
        | none => rw [hk] at h; simp at h
        | some k =>
          rw [hk] at h
          simp only [Option.map_some] at h
          cases hkd : k.kind with
          | array cm t2 =>
            rw [hkd] at h
            simp only [beq_iff_eq, Option.some.injEq, Bool.and_eq_true, decide_eq_true_eq] at h
            refine ⟨c, fun n z => ⟨fun k h => (by cases h), k, hk, cm, ?_⟩, h.2⟩
            rw [hkd, h.1]
          | _ => rw [hkd] at h; simp at h
  exact key _ h
theorem zlaw_K {args : Array Value} {s : State} (hts : ∀ w ∈ lw_tbl, w.before args s = true) : ∃ (D : va_G) (cA : Nat → ClassId), va_K D zcl (ztys cA) s := by
  have hz : ∀ w ∈ zTs, w.before args s = true := fun w hw => hts w (List.mem_filter.mp hw).1
  have h0 : ∀ c : Nat, ∃ d : ClassId × (Nat → Nat), ∀ q : vw_C, zcl[c]? = some q → u_Kn s q.1 q.2.1 q.2.2 d.1 d.2 := by
    intro c
    cases hq : zcl[c]? with
    | none => exact ⟨(0, fun _ => 0), fun q h => nomatch h⟩
    | some q =>
      obtain ⟨C, T, N⟩ := q
      obtain ⟨-, -, -, -, hin, hi, -⟩ := zCl_ok c C T N hq
      obtain ⟨cC, iS, h⟩ := u_known hz hin (hz _ hi)
      exact ⟨(cC, iS), fun q' e => by cases e; exact h⟩
  obtain ⟨ad, had⟩ := Classical.axiomOfChoice h0
  obtain ⟨c0, a0, b0⟩ := zlaw_arr (hz _ (zAC_ok 10 (by decide) (by decide)))
  obtain ⟨c1, a1, b1⟩ := zlaw_arr (hz _ (zAC_ok 11 (by decide) (by decide)))
  obtain ⟨c2, a2, b2⟩ := zlaw_arr (hz _ (zAC_ok 12 (by decide) (by decide)))
  obtain ⟨c3, a3, b3⟩ := zlaw_arr (hz _ (zAC_ok 13 (by decide) (by decide)))
  obtain ⟨c4, a4, b4⟩ := zlaw_ovr (t := .int) (hz _ zAO_ok.1)
  obtain ⟨c5, a5, b5⟩ := zlaw_ovr (t := .long) (hz _ zAO_ok.2)
  refine ⟨(fun c => (ad c).1, fun c => (ad c).2), fun n => if n = 10 then c0 else if n = 11 then c1 else if n = 12 then c2 else if n = 13 then c3 else if n = 14 then c4 else c5, fun c q h => had c q h, fun k q h => ?_⟩
  have hk : k < 6 := (List.getElem?_eq_some_iff.mp h).1
  rcases (show k = 0 ∨ k = 1 ∨ k = 2 ∨ k = 3 ∨ k = 4 ∨ k = 5 by omega) with rfl | rfl | rfl | rfl | rfl | rfl
  · cases h; exact ⟨a0, b0⟩
  · cases h; exact ⟨a1, b1⟩
  · cases h; exact ⟨a2, b2⟩
  · cases h; exact ⟨a3, b3⟩
  · cases h; exact ⟨a4, b4⟩
  · cases h; exact ⟨a5, b5⟩
def ztm (i : Nat) : Term := if i = 15 then .string "StayHouse" 314 else .string "StayHouse$Reader" ([64, 74, 79, 84, 127, 135, 139, 143, 148, 152, 156, 160, 162, 167, 169].getD i 0)
theorem zg1 : ∀ i, i < 16 → Cond.exactly (ztm i) "java/lang/String" ∈ flatC (Jvm.Cond.and given_1 narrow_1) := by decide +kernel
theorem zg2 : ∀ i, i < 16 → Cond.eq (.field (ztm i) "java/lang/String" "coder" "B") (.int 0) ∈ flatC (Jvm.Cond.and given_1 narrow_1) := by decide +kernel
theorem zg3 : ∀ i, i < 16 → Cond.arrayOf (.field (ztm i) "java/lang/String" "value" "[B") .byte ∈ flatC (Jvm.Cond.and given_1 narrow_1) := by decide +kernel
theorem zg4 : ∀ i, i < 16 → Cond.eq (.length (.field (ztm i) "java/lang/String" "value" "[B")) (.int (Int32.ofNat (zslen.getD i 0))) ∈ flatC (Jvm.Cond.and given_1 narrow_1) := by decide +kernel
theorem zg5 : ∀ i, i < 16 → ∀ j, j < zslen.getD i 0 → Cond.eq (.elem (.field (ztm i) "java/lang/String" "value" "[B") (.int (Int32.ofNat j))) (.int ((zsbyt.getD i []).getD j 0)) ∈ flatC (Jvm.Cond.and given_1 narrow_1) := by decide +kernel
theorem zg6 : ∀ i, i < 16 → zslen.getD i 0 < 2 ^ 31 := by decide +kernel
/-- two of the constants differ in length or in a byte -/
theorem zg7 : ∀ i, i < 16 → ∀ j, j < 16 → i ≠ j → Int32.ofNat (zslen.getD i 0) ≠ Int32.ofNat (zslen.getD j 0) ∨ (zslen.getD i 0 = zslen.getD j 0 ∧ ∃ k, k < 12 ∧ (k < zslen.getD i 0 ∧ (zsbyt.getD i []).getD k 0 ≠ (zsbyt.getD j []).getD k 0)) := by decide +kernel
theorem zg8 : ∀ x ∈ zSX, Cond.stringRef (zonm x.1) x.2.1 x.2.2.1 ∈ lw_tbl := by decide +kernel
theorem zg9 : ∀ x ∈ zSX, x.2.2.2 < 16 ∧ (Term.string (zonm x.1) x.2.1 = ztm x.2.2.2 ∨ Cond.eq (ztm x.2.2.2) (.string (zonm x.1) x.2.1) ∈ flatC (Jvm.Cond.and given_1 narrow_1)) := by decide +kernel
theorem zg10 : Cond.eq (.static "java/lang/String" "COMPACT_STRINGS" "Z") (.int 1) ∈ flatC (Jvm.Cond.and given_1 narrow_1) ∧ Cond.isRef (.static "jdk/internal/util/Preconditions" "SIOOBE_FORMATTER" "Ljava/util/function/BiFunction;") ∈ flatC (Jvm.Cond.and given_1 narrow_1) ∧ Cond.isRef (.static Bundle.tN "UNASSIGNED_STACK" Bundle.steD) ∈ flatC (Jvm.Cond.and given_1 narrow_1) ∧ Cond.isRef (.static Bundle.tN "SUPPRESSED_SENTINEL" Bundle.listD) ∈ flatC (Jvm.Cond.and given_1 narrow_1) := by decide +kernel
theorem zg11 : Cond.laysStatic "java/lang/String" "COMPACT_STRINGS" "Z" ∈ lw_tbl ∧ Cond.initialized "java/lang/String" ∈ lw_tbl ∧ Cond.laysStatic "jdk/internal/util/Preconditions" "SIOOBE_FORMATTER" "Ljava/util/function/BiFunction;" ∈ lw_tbl ∧ Cond.initialized "jdk/internal/util/Preconditions" ∈ lw_tbl ∧ Cond.laysStatic Bundle.tN "UNASSIGNED_STACK" Bundle.steD ∈ lw_tbl ∧ Cond.laysStatic Bundle.tN "SUPPRESSED_SENTINEL" Bundle.listD ∈ lw_tbl ∧ Cond.initialized Bundle.tN ∈ lw_tbl := by decide +kernel
theorem zeqR {args : Array Value} {s : State} {t u : Term} {a : Nat} (h : (Cond.eq t u).before args s = true) (ht : t.eval args s none [] s = some (.ref a)) : u.eval args s none [] s = some (.ref a) := by
  cases hv : u.eval args s none [] s with
  | none => simp [Cond.before, Cond.holds, Cond.value, ht, hv] at h
  | some w =>
    simp only [Cond.before, Cond.holds, Cond.value, ht, hv] at h
    cases w <;> simp_all
theorem zneR {args : Array Value} {s : State} {t u : Term} {a b : Nat} (ht : t.eval args s none [] s = some (.ref a)) (hu : u.eval args s none [] s = some (.ref b)) (h : a ≠ b) : (Cond.not (.eq t u)).before args s = true := by
  simp [Cond.before, Cond.holds, Cond.value, ht, hu, h]
theorem zfeq {args : Array Value} {s : State} {t u : Term} (h : t.eval args s none [] s = u.eval args s none [] s) : (Term.length (.field t "java/lang/String" "value" "[B")).eval args s none [] s = (Term.length (.field u "java/lang/String" "value" "[B")).eval args s none [] s ∧ ∀ k, (Term.elem (.field t "java/lang/String" "value" "[B") k).eval args s none [] s = (Term.elem (.field u "java/lang/String" "value" "[B") k).eval args s none [] s := by
  simp only [Term.eval, h, implies_true, and_self]
theorem zlaw_Z {args : Array Value} {s : State} (hts : ∀ w ∈ lw_tbl, w.before args s = true) (hgv : (Jvm.Cond.and given_1 narrow_1).before args s = true) : ∃ adK adV : Nat → Nat, zZs adK adV (va_A [] s.heap.size) s s.heap := by
  have hg := flat_of_before _ hgv
  have hA : ∀ a : Nat, a < s.heap.size → ¬ va_A [] s.heap.size a := by
    rintro a ha (⟨k, e, h⟩ | h)
    · simp at h
    · omega
  have hev : ∀ i, i < 16 → ∃ a, (ztm i).eval args s none [] s = some (.ref a) := by
    intro i hi
    obtain ⟨a, c, cA, kA, q1, -⟩ := Cond.exactly_spec (args := args) (first := s) (o := none) (s := s) (idx := []) (t := ztm i) (cls := "java/lang/String") (hg _ (zg1 i hi))
    exact ⟨a, q1⟩
  have hne : ∀ i j : Nat, i < 16 → j < 16 → i ≠ j → (Cond.not (Cond.eq (ztm i) (ztm j))).before args s = true ∨ (Cond.not (Cond.eq (ztm j) (ztm i))).before args s = true := by
    intro i j hi hj hij
    obtain ⟨a, ha⟩ := hev i hi
    obtain ⟨b, hb⟩ := hev j hj
    refine Or.inl (zneR ha hb ?_)
    intro e
    subst e
    obtain ⟨f1, f2⟩ := zfeq (ha.trans hb.symm)
    have l1 := va_eqt (hg _ (zg4 i hi))
    have l2 := va_eqt (hg _ (zg4 j hj))
    rw [f1, l2] at l1
    rcases zg7 i hi j hj hij with q | ⟨q1, k, -, q2, q3⟩
    · exact q (by injection l1 with l1; injection l1 with l1; exact l1.symm)
    · have m1 := va_eqt (hg _ (zg5 i hi k q2))
      have m2 := va_eqt (hg _ (zg5 j hj k (by rw [← q1]; exact q2)))
      rw [f2, m2] at m1
      exact q3 (by injection m1 with m1; injection m1 with m1; exact m1.symm)
  obtain ⟨adK, adV, hS, hE⟩ := vk_Sof (A := va_A [] s.heap.size) zg6 (fun i hi => hg _ (zg1 i hi)) (fun i hi => hg _ (zg2 i hi)) (fun i hi => hg _ (zg3 i hi)) (fun i hi => hg _ (zg4 i hi)) (fun i hi j hj => hg _ (zg5 i hi j hj)) hne hA
  refine ⟨adK, adV, hS, ?_, va_Zof (hts _ zg11.1) (hts _ zg11.2.1) (va_eqi (hg _ zg10.1)) hA, va_Zqof (hts _ zg11.2.2.1) (hts _ zg11.2.2.2.1) (hg _ zg10.2.1) hA, ?_, vx_Zqof (hts _ zg11.2.2.2.2.1) (hts _ zg11.2.2.2.2.2.2) (hg _ zg10.2.2.1) hA, vx_Zqof (hts _ zg11.2.2.2.2.2.1) (hts _ zg11.2.2.2.2.2.2) (hg _ zg10.2.2.2) hA⟩
  · intro x hx
    obtain ⟨h1, h2⟩ := zg9 x hx
    have he := hE _ h1
    refine vk_R.of (A := args) (hts _ (zg8 x hx)) ?_
    rcases h2 with h2 | h2
    · rw [h2]; exact he
    · exact zeqR (hg _ h2) he
  · intro w hw hn
    have h := hts w hw
    cases w <;> first
      | (simp [zNk, zNk2] at hn; done)
      | exact va_Nw.of rfl h
      | exact h
theorem zlaw_s : code.size = 1359 := by decide +kernel
theorem zu1_no {bs : ByteArray} {pc : Nat} (hn : ¬ pc < bs.size) {α : Type} (f : Nat → Decoder α) : (ReaderT.run (Reader.u1 >>= f) bs).run pc = .error (HasTruncated.truncated pc) := by
  have hu : ((Reader.u1 : Decoder Nat) bs pc : Except DecodeError (Nat × Nat)) = .error (HasTruncated.truncated pc) := by
    show (dite (pc < bs.size) _ _ : Decoder Nat) bs pc = _
    rw [dif_neg hn]
    rfl
  show Except.bind ((Reader.u1 : Decoder Nat) bs pc) _ = _
  rw [hu]
  rfl
theorem zlaw_o {pc : Nat} (h : 1359 ≤ pc) (x : Instr × Nat) : decode code pc ≠ .ok x := by
  intro e
  have hn : ¬ pc < code.size := by rw [zlaw_s]; omega
  unfold decode Decoder.instr Reader.runAt at e
  rw [zu1_no hn] at e
  cases e
def zlaw_c (pc : Nat) : Bool := match decode code pc with
  | .ok (.invokestatic i, _) => i == 140
  | _ => true
theorem zlaw_c0 : ∀ pc, pc < 100 → zlaw_c (pc + 0) = true := by decide +kernel
theorem zlaw_c1 : ∀ pc, pc < 100 → zlaw_c (pc + 100) = true := by decide +kernel
theorem zlaw_c2 : ∀ pc, pc < 100 → zlaw_c (pc + 200) = true := by decide +kernel
theorem zlaw_c3 : ∀ pc, pc < 100 → zlaw_c (pc + 300) = true := by decide +kernel
theorem zlaw_c4 : ∀ pc, pc < 100 → zlaw_c (pc + 400) = true := by decide +kernel
theorem zlaw_c5 : ∀ pc, pc < 100 → zlaw_c (pc + 500) = true := by decide +kernel
theorem zlaw_c6 : ∀ pc, pc < 100 → zlaw_c (pc + 600) = true := by decide +kernel
theorem zlaw_c7 : ∀ pc, pc < 100 → zlaw_c (pc + 700) = true := by decide +kernel
theorem zlaw_c8 : ∀ pc, pc < 100 → zlaw_c (pc + 800) = true := by decide +kernel
theorem zlaw_c9 : ∀ pc, pc < 100 → zlaw_c (pc + 900) = true := by decide +kernel
theorem zlaw_c10 : ∀ pc, pc < 100 → zlaw_c (pc + 1000) = true := by decide +kernel
theorem zlaw_c11 : ∀ pc, pc < 100 → zlaw_c (pc + 1100) = true := by decide +kernel
theorem zlaw_c12 : ∀ pc, pc < 100 → zlaw_c (pc + 1200) = true := by decide +kernel
theorem zlaw_c13 : ∀ pc, pc < 100 → zlaw_c (pc + 1300) = true := by decide +kernel

theorem zlaw_i {pc idx : Nat} (h : decode code pc = .ok (.invokestatic idx, 3)) : idx = 140 := by
  have k : zlaw_c pc = true := by
    by_cases q : pc < 1400
    · rcases (show pc < 100 ∨ (100 ≤ pc ∧ pc < 200) ∨ (200 ≤ pc ∧ pc < 300) ∨ (300 ≤ pc ∧ pc < 400) ∨ (400 ≤ pc ∧ pc < 500) ∨ (500 ≤ pc ∧ pc < 600) ∨ (600 ≤ pc ∧ pc < 700) ∨ (700 ≤ pc ∧ pc < 800) ∨ (800 ≤ pc ∧ pc < 900) ∨ (900 ≤ pc ∧ pc < 1000) ∨ (1000 ≤ pc ∧ pc < 1100) ∨ (1100 ≤ pc ∧ pc < 1200) ∨ (1200 ≤ pc ∧ pc < 1300) ∨ (1300 ≤ pc ∧ pc < 1400) by omega) with q | q | q | q | q | q | q | q | q | q | q | q | q | q
      · exact zlaw_c0 pc q
      · have := zlaw_c1 (pc - 100) (by omega)
        rw [show pc - 100 + 100 = pc by omega] at this
        exact this
      · have := zlaw_c2 (pc - 200) (by omega)
        rw [show pc - 200 + 200 = pc by omega] at this
        exact this
      · have := zlaw_c3 (pc - 300) (by omega)
        rw [show pc - 300 + 300 = pc by omega] at this
        exact this
      · have := zlaw_c4 (pc - 400) (by omega)
        rw [show pc - 400 + 400 = pc by omega] at this
        exact this
      · have := zlaw_c5 (pc - 500) (by omega)
        rw [show pc - 500 + 500 = pc by omega] at this
        exact this
      · have := zlaw_c6 (pc - 600) (by omega)
        rw [show pc - 600 + 600 = pc by omega] at this
        exact this
      · have := zlaw_c7 (pc - 700) (by omega)
        rw [show pc - 700 + 700 = pc by omega] at this
        exact this
      · have := zlaw_c8 (pc - 800) (by omega)
        rw [show pc - 800 + 800 = pc by omega] at this
        exact this
      · have := zlaw_c9 (pc - 900) (by omega)
        rw [show pc - 900 + 900 = pc by omega] at this
        exact this
      · have := zlaw_c10 (pc - 1000) (by omega)
        rw [show pc - 1000 + 1000 = pc by omega] at this
        exact this
      · have := zlaw_c11 (pc - 1100) (by omega)
        rw [show pc - 1100 + 1100 = pc by omega] at this
        exact this
      · have := zlaw_c12 (pc - 1200) (by omega)
        rw [show pc - 1200 + 1200 = pc by omega] at this
        exact this
      · have := zlaw_c13 (pc - 1300) (by omega)
        rw [show pc - 1300 + 1300 = pc by omega] at this
        exact this
    · exact absurd h (zlaw_o (by omega) _)
  unfold zlaw_c at k
  rw [h] at k
  simpa using k
theorem zlw_w1 : Cond.methodLink RL 140 yL_led ∈ zTg := by decide +kernel
theorem zlw_w2 : Cond.static yL_led ∈ zTg := by decide +kernel
theorem zlw_w3 : Cond.initialized yL_led.cls ∈ zTg := by decide +kernel
theorem zlw_w4 : Cond.codeWith yL_led cL_led 4 (some .int) [(0, 9, 12, 13)] ∈ zTg := by decide +kernel
theorem zlw_good : GoodIn zTs (va_wsS RL 140 yL_led (Cond.codeWith yL_led cL_led 4 (some .int) [(0, 9, 12, 13)] :: zTg)) := by
  intro w hw
  unfold va_wsS at hw
  have : w ∈ zTg := by
    simp only [List.mem_append, List.mem_cons, List.not_mem_nil, or_false] at hw
    rcases hw with h | h
    · rcases h with rfl | rfl | rfl
      · first | exact zlw_w1 | exact zlw_w2 | exact zlw_w3
      · first | exact zlw_w1 | exact zlw_w2 | exact zlw_w3
      · first | exact zlw_w1 | exact zlw_w2 | exact zlw_w3
    · rcases h with rfl | h
      · exact zlw_w4
      · exact h
  exact zTg_good w this
theorem ze220 : ztb.2.2.1 220 = (1, 6) := by decide +kernel
