def zMono (Rn : zRun) : Prop := ∀ (a : Nat) (As : List zV) (G : zG) (h : zM) (Q1 Q2 : zQ), (∀ v G h, Q1 v G h → Q2 v G h) → Rn a As G h Q1 → Rn a As G h Q2
set_option maxHeartbeats 4000000 in
theorem zF_mono {tb : zTb} {Rn : zRun} {cd : Nat → Option zIns} {bud : zK} {rt : Nat} {scr : Nat × Nat × (Nat → Int)} {Q1 Q2 : zQ} {P1 P2 : zP} (hR : zMono Rn) (hQ : ∀ v G h, Q1 v G h → Q2 v G h) (hP : ∀ pc lo st G h k, P1 pc lo st G h k → P2 pc lo st G h k) {pc : Nat} {lo : zLo} {st : List zV} {G : zG} {h : zM} {k : zK} (H : zF tb Rn cd bud rt scr Q1 P1 pc lo st G h k) : zF tb Rn cd bud rt scr Q2 P2 pc lo st G h k := by
  unfold zF at H ⊢
  split at H
  · exact H.elim
  · next j len a b z e =>
    try simp only [e]
    split at H <;> first
      | exact H.elim
      | exact hP _ _ _ _ _ _ H
      | exact ⟨H.1, hP _ _ _ _ _ _ H.2⟩
      | exact ⟨H.1, H.2.1, hP _ _ _ _ _ _ H.2.2⟩
      | exact ⟨H.1, H.2.1, H.2.2.1, hP _ _ _ _ _ _ H.2.2.2⟩
      | exact ⟨H.1, H.2.1, H.2.2.1, H.2.2.2.1, hP _ _ _ _ _ _ H.2.2.2.2⟩
      | exact ⟨H.1, H.2.1, H.2.2.1, H.2.2.2.1, H.2.2.2.2.1, H.2.2.2.2.2.1, hP _ _ _ _ _ _ H.2.2.2.2.2.2⟩
      | exact ⟨fun c => hP _ _ _ _ _ _ (H.1 c), fun c => hP _ _ _ _ _ _ (H.2 c)⟩
      | exact ⟨fun c => hP _ _ _ _ _ _ (H.1 c), fun q c => hP _ _ _ _ _ _ (H.2 q c)⟩
      | exact ⟨H.1, hQ _ _ _ H.2⟩
      | exact H.imp fun x hx => ⟨hx.1, hP _ _ _ _ _ _ hx.2⟩
      | (split at H
         · rename_i e1
           rw [if_pos e1]
           exact hP _ _ _ _ _ _ H
         · rename_i e1
           rw [if_neg e1]
           exact hP _ _ _ _ _ _ H)
      | skip
    · obtain ⟨e0, H⟩ := H
      refine ⟨e0, ?_⟩
      split at H
      · rename_i e1
        rw [if_pos e1]
        exact hP _ _ _ _ _ _ H
      · rename_i e1
        rw [if_neg e1]
        split at H
        · rename_i e2
          rw [if_pos e2]
          exact hP _ _ _ _ _ _ H
        · rename_i e2
          rw [if_neg e2]
          exact hP _ _ _ _ _ _ H
    · split at H
      · rename_i e1
        rw [if_pos e1]
        exact ⟨H.1, H.2.1, H.2.2.1, hQ _ _ _ H.2.2.2⟩
      · rename_i e1
        rw [if_neg e1]
        exact ⟨H.1, H.2.1, hP _ _ _ _ _ _ H.2.2⟩
    · split at H
      · rename_i e1
        rw [if_pos e1]
        obtain ⟨r, st', h1, h2, h3⟩ := H
        exact ⟨r, st', h1, h2, hP _ _ _ _ _ _ h3⟩
      · rename_i e1
        rw [if_neg e1]
        obtain ⟨As, r, st', h1, h2, h3, h4, h5, h6⟩ := H
        exact ⟨As, r, st', h1, h2, h3, h4, h5, hR _ _ _ _ _ _ (fun v G h x => ⟨x.1, hP _ _ _ _ _ _ x.2⟩) h6⟩
    · split at H
      · rename_i e1
        rw [if_pos e1]
        obtain ⟨As, r, st', h1, h2, h3, h4, h5, h6⟩ := H
        refine ⟨As, r, st', h1, h2, h3, h4, h5, hR _ _ _ _ _ _ (fun v G h x => ?_) h6⟩
        split at x
        · rename_i e2
          rw [if_pos e2]
          exact hP _ _ _ _ _ _ x
        · rename_i e2
          rw [if_neg e2]
          exact hP _ _ _ _ _ _ x
      · rename_i e0
        rw [if_neg e0]
        split at H
        · rename_i e1
          rw [if_pos e1]
          obtain ⟨s, st', h1, h2, h3, h4⟩ := H
          exact ⟨s, st', h1, h2, h3, hP _ _ _ _ _ _ h4⟩
        · rename_i e1
          rw [if_neg e1]
          split at H
          · rename_i e2
            rw [if_pos e2]
            obtain ⟨s, i, st', h1, h2, h3, h4, h5⟩ := H
            exact ⟨s, i, st', h1, h2, h3, h4, hP _ _ _ _ _ _ h5⟩
          · rename_i e2
            rw [if_neg e2]
            obtain ⟨As, r, st', h1, h2, h3, h4, h5, h6⟩ := H
            exact ⟨As, r, st', h1, h2, h3, h4, h5, hR _ _ _ _ _ _ (fun v G h x => hP _ _ _ _ _ _ x) h6⟩
    · split at H
      · rename_i e1
        rw [if_pos e1]
        obtain ⟨n, dp, r2, sp, r1, st', h1, h2, h3, h4, h5, h6, h7, h8, h9, h10, h11⟩ := H
        exact ⟨n, dp, r2, sp, r1, st', h1, h2, h3, h4, h5, h6, h7, h8, h9, h10, hP _ _ _ _ _ _ h11⟩
      · rename_i e1
        rw [if_neg e1]
        obtain ⟨As, st', h1, h2, h3, h4, h5⟩ := H
        exact ⟨As, st', h1, h2, h3, h4, hR _ _ _ _ _ _ (fun v G h x => hP _ _ _ _ _ _ x) h5⟩
theorem zW_iff {tb : zTb} {Rn : zRun} {cd : Nat → Option zIns} {bud : zK} {rt : Nat} {scr : Nat × Nat × (Nat → Int)} {Q : zQ} (hR : zMono Rn) {pc : Nat} {lo : zLo} {st : List zV} {G : zG} {h : zM} {k : zK} :
    zW tb Rn cd bud rt scr Q pc lo st G h k ↔ zF tb Rn cd bud rt scr Q (zW tb Rn cd bud rt scr Q) pc lo st G h k := by
  have hin : ∀ pc lo st G h k, zF tb Rn cd bud rt scr Q (zW tb Rn cd bud rt scr Q) pc lo st G h k → zW tb Rn cd bud rt scr Q pc lo st G h k := fun pc lo st G h k H P hP => hP _ _ _ _ _ _ (zF_mono hR (fun _ _ _ x => x) (fun pc lo st G h k x => x P hP) H)
  refine ⟨fun H => ?_, hin pc lo st G h k⟩
  exact H (fun pc lo st G h k => zF tb Rn cd bud rt scr Q (zW tb Rn cd bud rt scr Q) pc lo st G h k) (fun pc lo st G h k x => zF_mono hR (fun _ _ _ y => y) hin x)
theorem zW_mono {tb : zTb} {Rn : zRun} {cd : Nat → Option zIns} {bud : zK} {rt : Nat} {scr : Nat × Nat × (Nat → Int)} {Q1 Q2 : zQ} (hR : zMono Rn) (hQ : ∀ v G h, Q1 v G h → Q2 v G h) {pc : Nat} {lo : zLo} {st : List zV} {G : zG} {h : zM} {k : zK}
    (H : zW tb Rn cd bud rt scr Q1 pc lo st G h k) : zW tb Rn cd bud rt scr Q2 pc lo st G h k :=
  H _ (fun _ _ _ _ _ _ x => (zW_iff hR).mpr (zF_mono hR hQ (fun _ _ _ _ _ _ y => y) x))
/-- a method: its code, how much it may make, what it answers (0 nothing, 1 an int, 2 a boolean, 3 a long), how many locals -/
abbrev zMe : Type := (Nat → Option zIns) × zK × Nat × Nat
def zent (n : Nat) (As : List zV) : zLo := let l := As.flatMap (fun v => if zcat v = 2 then [some v, none] else [some v]); l ++ List.replicate (n - l.length) none
def zRunD (tb : zTb) (mt : Nat → Option zMe) : Nat → zRun
  | 0 => fun _ _ _ _ _ => False
  | d + 1 => fun i As G h Q => ∃ e, mt i = some e ∧ (zent e.2.2.2 As).length = e.2.2.2 ∧ zW tb (zRunD tb mt d) e.1 e.2.1 e.2.2.1 (0, 0, fun _ => 0) Q 0 (zent e.2.2.2 As) [] G h (0, 0)
theorem zRunD_mono (tb : zTb) (mt : Nat → Option zMe) : ∀ d, zMono (zRunD tb mt d)
  | 0 => fun _ _ _ _ _ _ _ H => H.elim
  | d + 1 => fun _ _ _ _ _ _ hQ H => H.imp fun _ H => ⟨H.1, H.2.1, zW_mono (zRunD_mono tb mt d) hQ H.2.2⟩
