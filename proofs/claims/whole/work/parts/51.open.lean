/-! a town by a law -/
def aLaw (T : aTn) (law : Int) : aTn := (T.1, T.2.1, T.2.2.1, if law = 1 then 0 else T.2.2.2.1, T.2.2.2.2.1, fun j i => if j = 5 ∧ law = 2 then T.2.2.2.2.2 5 i / 2 else if j = 5 ∧ law = 3 then 0 else if j = 7 ∧ law = 4 then 1 else if j = 7 ∧ law = 5 then 0 else T.2.2.2.2.2 j i)
theorem aLaw_0 (T : aTn) : aLaw T 0 = T := by
  unfold aLaw
  simp only [show ¬ (0 : Int) = 1 by decide, show ¬ (0 : Int) = 2 by decide, show ¬ (0 : Int) = 3 by decide, show ¬ (0 : Int) = 4 by decide, show ¬ (0 : Int) = 5 by decide, and_false, if_false]
theorem aLaw_o {T : aTn} {law : Int} {j i : Nat} (h5 : ¬ j = 5) (h7 : ¬ j = 7) : tr (aLaw T law) j i = tr T j i := by
  unfold tr aLaw
  simp only [h5, h7, false_and, if_false]
theorem aLaw_5 {T : aTn} {law : Int} {i : Nat} : tr (aLaw T law) 5 i = if law = 2 then tr T 5 i / 2 else if law = 3 then 0 else tr T 5 i := by
  unfold tr aLaw
  simp only [true_and, show ¬ (5 : Nat) = 7 by decide, false_and, if_false]
theorem aLaw_7 {T : aTn} {law : Int} {i : Nat} : tr (aLaw T law) 7 i = if law = 4 then 1 else if law = 5 then 0 else tr T 7 i := by
  unfold tr aLaw
  simp only [true_and, show ¬ (7 : Nat) = 5 by decide, false_and, if_false]
theorem aLaw_w {T : aTn} (hw : wT T) (law : Int) : wT (aLaw T law) := by
  refine ⟨hw.1, hw.2.1, hw.2.2.1, ?_, hw.2.2.2.2.1, fun i => ?_⟩
  · show (if law = 1 then 0 else tw T) = 0 ∨ (if law = 1 then 0 else tw T) = 1
    have := hw.2.2.2.1
    split
    · left; rfl
    · exact this
  · have h1 := hw.2.2.2.2.2 i
    rw [aLaw_5, aLaw_7, aLaw_o (by decide) (by decide), aLaw_o (by decide) (by decide), aLaw_o (by decide) (by decide), aLaw_o (by decide) (by decide), aLaw_o (by decide) (by decide), aLaw_o (by decide) (by decide), aLaw_o (by decide) (by decide)]
    obtain ⟨a1, a2, a3, a4, a5, a6, a7, a8, a9⟩ := h1
    refine ⟨a1, a2, a3, a4, a5, ?_, a7, ?_, a9⟩
    · split
      · omega
      · split <;> omega
    · split
      · right; rfl
      · split
        · left; rfl
        · exact a8
def pO (T : aTn) (f : Nat → Nat) : Nat → Int := fun b => tr T 8 (f b)
theorem pO_b {T : aTn} (hw : wT T) (f : Nat → Nat) : bP (pO T f) := fun _ => (hw.2.2.2.2.2 _).2.2.2.2.2.2.2.2
section OM
variable {d : Nat} {Q : zQ} {G : zG} {h : zM} {T : aTn} {u Y : Nat} {od nw : Nat → Nat} {law : Int}
theorem c_open (hg : gS G) (kt : kT h 18 T) (hw : wT T) (hY : h 38 0 = (Y : Int)) (h40 : Y ≤ 40) (ho : ∀ b, b < nB T → h 40 (Y * 3 + b) = (od b : Int) ∧ od b < nP T) (hn : ∀ b, b < nB T → h 41 (Y * 3 + b) = (nw b : Int) ∧ nw b < nP T) (K : ∀ h' : zM, (∀ c i, ¬ c = 28 → ¬ c = 29 → h' c i = h c i) → (∀ b, b < nB T → h' 28 b = pO T od b) → (∀ b, b < nB T → h' 29 b = pO T nw b) → Q none G h') : zRunD ztb zmt' (d + 2) 106 [zR (some 0)] G h Q := by
  rw [r106]
  have hb3 := hw.1
  have hp3 := hw.2.2.1
  have lp : ∀ j b (hh : zM) (l2 : Option zV), b + j = nB T → (∀ c i, ¬ c = 28 → ¬ c = 29 → hh c i = h c i) → (∀ i, i < b → hh 28 i = pO T od i) → (∀ i, i < b → hh 29 i = pO T nw i) → zE 106 (d + 1) Q 2 [some (zR (some 0)), some (zI b), l2] [] G hh (0, 0) := by
    intro j
    induction j with
    | zero =>
      intro b hh l2 hb f m1 m2
      have hb' : b = nB T := by omega
      have e1 : hh 18 9 = (nB T : Int) := by rw [f _ _ (by omega) (by omega)]; exact kt.1
      subst hb'
      rw [e106_2]
      simp only [e106_0, e106_1, e106_3, e106_4, e106_7, e106_10, e106_13, e106_14, e106_17, e106_18, e106_21, e106_22, e106_23, e106_26, e106_27, e106_28, e106_31, e106_34, e106_35, e106_36, e106_37, e106_40, e106_43, e106_44, e106_45, e106_48, e106_51, e106_54, zs0, zsI, zsL, zsR, ztl1, ztl0, zc0, zcI, zcL, zcR, true_and, and_true, true_implies, false_implies, implies_true, not_true_eq_false, not_false_eq_true, and_self, Int.toNat_natCast, Nat.reduceAdd, Nat.reduceLeDiff, Nat.reduceLT, forall_eq', Option.some.injEq, zarR, zarI, zarL, zle, zq0, zq1, zq2, zq3, zq4, zq5, zq6, zq8, zq9, zq10, zq20, zq7, zq12, zq24, zq40, zq41, zq48, zq100, zq120, zq123, zq480, zq492, zq700, zq729, zq2187, zq2916, zq8748, ne_eq, Int.reduceEq, Int.reduceLT, Int.reduceLE, Int.reduceToNat, Int.reduceMul, Int.reduceAdd, Int.reduceNeg, gk0 hg, gr0_0 hg, gr0_2 hg, gr0_3 hg, gr0_4 hg, gr0_5 hg, gr0_6 hg, gr0_7 hg, gr0_8 hg, gr0_9 hg, gr0_10 hg, gk18 hg, gr18_0 hg, gr18_1 hg, gr18_2 hg, gr18_3 hg, gr18_4 hg, gr18_5 hg, gr18_6 hg, gr18_7 hg, gr18_8 hg, or_true, true_or, if_true, if_false, false_and, and_false, false_or, or_false, e1, Int.le_refl]
      exact K hh f m1 m2
    | succ j ih =>
      intro b hh l2 hb f m1 m2
      have e1 : hh 18 9 = (nB T : Int) := by rw [f _ _ (by omega) (by omega)]; exact kt.1
      have c : ¬ (nB T : Int) ≤ b := by omega
      have w1 : ((Y * 3 + b : Nat) : Int) < 123 := by omega
      obtain ⟨o1, o2⟩ := ho b (by omega)
      obtain ⟨n1, n2⟩ := hn b (by omega)
      have e2 : hh 40 (Y * 3 + b) = (od b : Int) := by rw [f _ _ (by omega) (by omega)]; exact o1
      have e3 : hh 41 (Y * 3 + b) = (nw b : Int) := by rw [f _ _ (by omega) (by omega)]; exact n1
      have fc := fun Q' => f_counter (d := d) (Q := Q') (h := hh) hg (Y := Y) (b := b) (by rw [f _ _ (by omega) (by omega)]; exact hY) h40 (by omega)
      have sp := fun Q' => c_setP16 (d := d) (Q := Q') (h := hh) hg (b := b) (o := od b) (n := nw b) (by omega) (by omega) (by omega)
      have p1 : hh 27 (od b) = pO T od b := by rw [f _ _ (by omega) (by omega)]; exact kt.2.2.2.2.2.2.2.2.2.2.2.2.2 _ o2
      have p2 : hh 27 (nw b) = pO T nw b := by rw [f _ _ (by omega) (by omega)]; exact kt.2.2.2.2.2.2.2.2.2.2.2.2.2 _ n2
      rw [e106_2]
      simp only [e106_0, e106_1, e106_3, e106_4, e106_7, e106_10, e106_13, e106_14, e106_17, e106_18, e106_21, e106_22, e106_23, e106_26, e106_27, e106_28, e106_31, e106_34, e106_35, e106_36, e106_37, e106_40, e106_43, e106_44, e106_45, e106_48, e106_51, e106_54, zs0, zsI, zsL, zsR, ztl1, ztl0, zc0, zcI, zcL, zcR, true_and, and_true, true_implies, false_implies, implies_true, not_true_eq_false, not_false_eq_true, and_self, Int.toNat_natCast, Nat.reduceAdd, Nat.reduceLeDiff, Nat.reduceLT, forall_eq', Option.some.injEq, zarR, zarI, zarL, zle, zq0, zq1, zq2, zq3, zq4, zq5, zq6, zq8, zq9, zq10, zq20, zq7, zq12, zq24, zq40, zq41, zq48, zq100, zq120, zq123, zq480, zq492, zq700, zq729, zq2187, zq2916, zq8748, ne_eq, Int.reduceEq, Int.reduceLT, Int.reduceLE, Int.reduceToNat, Int.reduceMul, Int.reduceAdd, Int.reduceNeg, gk0 hg, gr0_0 hg, gr0_2 hg, gr0_3 hg, gr0_4 hg, gr0_5 hg, gr0_6 hg, gr0_7 hg, gr0_8 hg, gr0_9 hg, gr0_10 hg, gk18 hg, gr18_0 hg, gr18_1 hg, gr18_2 hg, gr18_3 hg, gr18_4 hg, gr18_5 hg, gr18_6 hg, gr18_7 hg, gr18_8 hg, gk38 hg, gr38_1 hg, gr38_2 hg, gr38_3 hg, gr38_4 hg, gr38_5 hg, gr38_6 hg, gk40 hg, gl40 hg, gk41 hg, gl41 hg, gk17 hg, gr17_0 hg, gr17_1 hg, gr17_2 hg, gr17_3 hg, or_true, true_or, if_true, if_false, false_and, and_false, false_or, or_false, e1, c, fc, w1, e2, e3, sp, wr_s (show b < 2147483647 by omega)]
      apply ih (b + 1) _ _ (by omega)
      · intro c i q1 q2
        rw [zu_c q2, zu_c q1]
        exact f c i q1 q2
      · intro i hi
        rw [zu_c (by decide)]
        by_cases q : i = b
        · subst q
          rw [zu_at]
          exact p1
        · rw [zu_i (by omega)]
          exact m1 i (by omega)
      · intro i hi
        by_cases q : i = b
        · subst q
          rw [zu_at]
          exact p2
        · rw [zu_i (by omega), zu_c (by decide)]
          exact m2 i (by omega)
  simp only [e106_0, e106_1, e106_3, e106_4, e106_7, e106_10, e106_13, e106_14, e106_17, e106_18, e106_21, e106_22, e106_23, e106_26, e106_27, e106_28, e106_31, e106_34, e106_35, e106_36, e106_37, e106_40, e106_43, e106_44, e106_45, e106_48, e106_51, e106_54, zs0, zsI, zsL, zsR, ztl1, ztl0, zc0, zcI, zcL, zcR, true_and, and_true, true_implies, false_implies, implies_true, not_true_eq_false, not_false_eq_true, and_self, Int.toNat_natCast, Nat.reduceAdd, Nat.reduceLeDiff, Nat.reduceLT, forall_eq', Option.some.injEq, zarR, zarI, zarL, zle, zq0, zq1, zq2, zq3, zq4, zq5, zq6, zq8, zq9, zq10, zq20, zq7, zq12, zq24, zq40, zq41, zq48, zq100, zq120, zq123, zq480, zq492, zq700, zq729, zq2187, zq2916, zq8748, ne_eq, Int.reduceEq, Int.reduceLT, Int.reduceLE, Int.reduceToNat, Int.reduceMul, Int.reduceAdd, Int.reduceNeg, or_true, true_or, if_true, if_false, false_and, and_false, false_or, or_false]
  exact lp (nB T) 0 h none (by omega) (fun _ _ _ _ => rfl) (fun i hi => by omega) (fun i hi => by omega)
theorem m_asked (hg : gS G) (hu : gU G u) (rt : rT h u T) (hw : wT T) (ho : ∀ b, b < nB T → h 102 b = (od b : Int) ∧ od b < nP T) (hn : ∀ b, b < nB T → h 103 b = (nw b : Int) ∧ nw b < nP T) (K : ∀ h' : zM, (∀ c i, ¬ c = 94 → ¬ c = 95 → h' c i = h c i) → (∀ b, b < nB T → h' 94 b = pO T od b) → (∀ b, b < nB T → h' 95 b = pO T nw b) → Q none G h') : zRunD ztb zmt' (d + 1) 157 [zR (some 91)] G h Q := by
  rw [r157]
  have hb3 := hw.1
  have hp3 := hw.2.2.1
  have u1 := hu.1
  have lp : ∀ j b (hh : zM), b + j = nB T → (∀ c i, ¬ c = 94 → ¬ c = 95 → hh c i = h c i) → (∀ i, i < b → hh 94 i = pO T od i) → (∀ i, i < b → hh 95 i = pO T nw i) → zE 157 d Q 2 [some (zR (some 91)), some (zI b)] [] G hh (0, 0) := by
    intro j
    induction j with
    | zero =>
      intro b hh hb f m1 m2
      have hb' : b = nB T := by omega
      have e1 : hh u 0 = (nB T : Int) := by rw [f _ _ (by omega) (by omega)]; exact rt.1
      subst hb'
      rw [e157_2]
      simp only [e157_0, e157_1, e157_3, e157_4, e157_7, e157_10, e157_13, e157_14, e157_17, e157_18, e157_19, e157_22, e157_25, e157_26, e157_29, e157_30, e157_31, e157_32, e157_33, e157_34, e157_37, e157_38, e157_39, e157_42, e157_45, e157_46, e157_49, e157_50, e157_51, e157_52, e157_53, e157_56, e157_59, zs0, zsI, zsL, zsR, ztl1, ztl0, zc0, zcI, zcL, zcR, true_and, and_true, true_implies, false_implies, implies_true, not_true_eq_false, not_false_eq_true, and_self, Int.toNat_natCast, Nat.reduceAdd, Nat.reduceLeDiff, Nat.reduceLT, forall_eq', Option.some.injEq, zarR, zarI, zarL, zle, zq0, zq1, zq2, zq3, zq4, zq5, zq6, zq8, zq9, zq10, zq20, zq7, zq12, zq24, zq40, zq41, zq48, zq100, zq120, zq123, zq480, zq492, zq700, zq729, zq2187, zq2916, zq8748, ne_eq, Int.reduceEq, Int.reduceLT, Int.reduceLE, Int.reduceToNat, Int.reduceMul, Int.reduceAdd, Int.reduceNeg, gk91 hg, gr91_5 hg, gr91_22 hg, gr91_23 hg, gr91_24 hg, gr91_25 hg, gr91_26 hg, gr91_27 hg, gr91_28 hg, gr91_29 hg, gr91_32 hg, gr91_33 hg, gr91_34 hg, gr91_35 hg, gr91_36 hg, gr91_37 hg, gr91_38 hg, gr91_39 hg, gr91_40 hg, gr91_41 hg, gr91_42 hg, gr91_44 hg, gr91_45 hg, gr91_46 hg, gr91_48 hg, gr91_49 hg, gr91_50 hg, gr91_51 hg, gr91_52 hg, or_true, true_or, if_true, if_false, false_and, and_false, false_or, or_false, hu, e1, Int.le_refl]
      exact K hh f m1 m2
    | succ j ih =>
      intro b hh hb f m1 m2
      have e1 : hh u 0 = (nB T : Int) := by rw [f _ _ (by omega) (by omega)]; exact rt.1
      have c : ¬ (nB T : Int) ≤ b := by omega
      have b3 : (b : Int) < 3 := by omega
      obtain ⟨o1, o2⟩ := ho b (by omega)
      obtain ⟨n1, n2⟩ := hn b (by omega)
      have o3 : (od b : Int) < 3 := by omega
      have n3 : (nw b : Int) < 3 := by omega
      have e2 : hh 102 b = (od b : Int) := by rw [f _ _ (by omega) (by omega)]; exact o1
      have e3 : hh 103 b = (nw b : Int) := by rw [f _ _ (by omega) (by omega)]; exact n1
      have p1 : hh (u + 4) (od b) = pO T od b := by rw [f _ _ (by omega) (by omega)]; exact rt.2.2.2.2.2.2.2.2.1 _ o2
      have p2 : hh (u + 4) (nw b) = pO T nw b := by rw [f _ _ (by omega) (by omega)]; exact rt.2.2.2.2.2.2.2.2.1 _ n2
      have u9 : ¬ u + 4 = 94 := by omega
      rw [e157_2]
      simp only [e157_0, e157_1, e157_3, e157_4, e157_7, e157_10, e157_13, e157_14, e157_17, e157_18, e157_19, e157_22, e157_25, e157_26, e157_29, e157_30, e157_31, e157_32, e157_33, e157_34, e157_37, e157_38, e157_39, e157_42, e157_45, e157_46, e157_49, e157_50, e157_51, e157_52, e157_53, e157_56, e157_59, zs0, zsI, zsL, zsR, ztl1, ztl0, zc0, zcI, zcL, zcR, true_and, and_true, true_implies, false_implies, implies_true, not_true_eq_false, not_false_eq_true, and_self, Int.toNat_natCast, Nat.reduceAdd, Nat.reduceLeDiff, Nat.reduceLT, forall_eq', Option.some.injEq, zarR, zarI, zarL, zle, zq0, zq1, zq2, zq3, zq4, zq5, zq6, zq8, zq9, zq10, zq20, zq7, zq12, zq24, zq40, zq41, zq48, zq100, zq120, zq123, zq480, zq492, zq700, zq729, zq2187, zq2916, zq8748, ne_eq, Int.reduceEq, Int.reduceLT, Int.reduceLE, Int.reduceToNat, Int.reduceMul, Int.reduceAdd, Int.reduceNeg, gk91 hg, gr91_5 hg, gr91_22 hg, gr91_23 hg, gr91_24 hg, gr91_25 hg, gr91_26 hg, gr91_27 hg, gr91_28 hg, gr91_29 hg, gr91_32 hg, gr91_33 hg, gr91_34 hg, gr91_35 hg, gr91_36 hg, gr91_37 hg, gr91_38 hg, gr91_39 hg, gr91_40 hg, gr91_41 hg, gr91_42 hg, gr91_44 hg, gr91_45 hg, gr91_46 hg, gr91_48 hg, gr91_49 hg, gr91_50 hg, gr91_51 hg, gr91_52 hg, gk94 hg, gl94 hg, gk95 hg, gl95 hg, gk102 hg, gl102 hg, gk103 hg, gl103 hg, or_true, true_or, if_true, if_false, false_and, and_false, false_or, or_false, hu, e1, c, b3, e2, o3, p1, zu_c (show ¬ 103 = 94 by decide), zu_c u9, e3, n3, p2, wr_s (show b < 2147483647 by omega)]
      apply ih (b + 1) _ (by omega)
      · intro c i q1 q2
        rw [zu_c q2, zu_c q1]
        exact f c i q1 q2
      · intro i hi
        rw [zu_c (by decide)]
        by_cases q : i = b
        · subst q
          exact zu_at
        · rw [zu_i (by omega)]
          exact m1 i (by omega)
      · intro i hi
        by_cases q : i = b
        · subst q
          exact zu_at
        · rw [zu_i (by omega), zu_c (by decide)]
          exact m2 i (by omega)
  simp only [e157_0, e157_1, e157_3, e157_4, e157_7, e157_10, e157_13, e157_14, e157_17, e157_18, e157_19, e157_22, e157_25, e157_26, e157_29, e157_30, e157_31, e157_32, e157_33, e157_34, e157_37, e157_38, e157_39, e157_42, e157_45, e157_46, e157_49, e157_50, e157_51, e157_52, e157_53, e157_56, e157_59, zs0, zsI, zsL, zsR, ztl1, ztl0, zc0, zcI, zcL, zcR, true_and, and_true, true_implies, false_implies, implies_true, not_true_eq_false, not_false_eq_true, and_self, Int.toNat_natCast, Nat.reduceAdd, Nat.reduceLeDiff, Nat.reduceLT, forall_eq', Option.some.injEq, zarR, zarI, zarL, zle, zq0, zq1, zq2, zq3, zq4, zq5, zq6, zq8, zq9, zq10, zq20, zq7, zq12, zq24, zq40, zq41, zq48, zq100, zq120, zq123, zq480, zq492, zq700, zq729, zq2187, zq2916, zq8748, ne_eq, Int.reduceEq, Int.reduceLT, Int.reduceLE, Int.reduceToNat, Int.reduceMul, Int.reduceAdd, Int.reduceNeg, or_true, true_or, if_true, if_false, false_and, and_false, false_or, or_false]
  exact lp (nB T) 0 h (by omega) (fun _ _ _ _ => rfl) (fun i hi => by omega) (fun i hi => by omega)
theorem m_lays (hg : gS G) (hu : gU G u) (rt : rT h u T) (hw : wT T) (hl : 0 ≤ law ∧ law ≤ 5) (K : ∀ h' : zM, (∀ c i, ¬ (c = 91 ∧ 16 ≤ i ∧ i ≤ 21) → ¬ c = 93 → h' c i = h c i) → rV h' u (aLaw T law) → h' 91 19 = -1 → h' 91 20 = -1 → h' 91 21 = 0 → Q none G h') : zRunD ztb zmt' (d + 1) 143 [zR (some 91), zI law] G h Q := by
  rw [r143]
  have hb3 := hw.1
  have u1 := hu.1
  have key : ∀ (h1 : zM), (∀ c i, ¬ (c = 91 ∧ 16 ≤ i ∧ i ≤ 21) → h1 c i = h c i) → h1 91 16 = tw (aLaw T law) → h1 91 17 = (if law = 2 then 1 else if law = 3 then 2 else 0) → h1 91 18 = (if law = 4 then 1 else if law = 5 then 2 else 0) → h1 91 19 = -1 → h1 91 20 = -1 → h1 91 21 = 0 → zE 143 d Q 85 [some (zR (some 91)), some (zI law), none] [] G h1 (0, 0) := by
    intro h1 f v1 v2 v3 v4 v5 v6
    have lp : ∀ j b (hh : zM), b + j = 3 → (∀ c i, ¬ c = 93 → hh c i = h1 c i) → (∀ i, i < b → hh 93 i = h1 (u + 2) i) → zE 143 d Q 87 [some (zR (some 91)), some (zI law), some (zI b)] [] G hh (0, 0) := by
      intro j
      induction j with
      | zero =>
        intro b hh hb g m
        have hb' : b = 3 := by omega
        subst hb'
        rw [e143_87]
        simp only [e143_0, e143_1, e143_2, e143_5, e143_8, e143_11, e143_12, e143_13, e143_16, e143_17, e143_20, e143_21, e143_24, e143_25, e143_26, e143_27, e143_30, e143_31, e143_34, e143_35, e143_36, e143_39, e143_40, e143_43, e143_44, e143_47, e143_48, e143_49, e143_50, e143_53, e143_54, e143_57, e143_58, e143_59, e143_62, e143_63, e143_66, e143_67, e143_70, e143_71, e143_72, e143_75, e143_76, e143_77, e143_80, e143_81, e143_82, e143_85, e143_86, e143_88, e143_89, e143_92, e143_93, e143_96, e143_97, e143_98, e143_101, e143_104, e143_105, e143_106, e143_107, e143_110, e143_113, zs0, zsI, zsL, zsR, ztl1, ztl0, zc0, zcI, zcL, zcR, true_and, and_true, true_implies, false_implies, implies_true, not_true_eq_false, not_false_eq_true, and_self, Int.toNat_natCast, Nat.reduceAdd, Nat.reduceLeDiff, Nat.reduceLT, forall_eq', Option.some.injEq, zarR, zarI, zarL, zle, zq0, zq1, zq2, zq3, zq4, zq5, zq6, zq8, zq9, zq10, zq20, zq7, zq12, zq24, zq40, zq41, zq48, zq100, zq120, zq123, zq480, zq492, zq700, zq729, zq2187, zq2916, zq8748, ne_eq, Int.reduceEq, Int.reduceLT, Int.reduceLE, Int.reduceToNat, Int.reduceMul, Int.reduceAdd, Int.reduceNeg, gk91 hg, gr91_5 hg, gr91_22 hg, gr91_23 hg, gr91_24 hg, gr91_25 hg, gr91_26 hg, gr91_27 hg, gr91_28 hg, gr91_29 hg, gr91_32 hg, gr91_33 hg, gr91_34 hg, gr91_35 hg, gr91_36 hg, gr91_37 hg, gr91_38 hg, gr91_39 hg, gr91_40 hg, gr91_41 hg, gr91_42 hg, gr91_44 hg, gr91_45 hg, gr91_46 hg, gr91_48 hg, gr91_49 hg, gr91_50 hg, gr91_51 hg, gr91_52 hg, or_true, true_or, if_true, if_false, false_and, and_false, false_or, or_false, Int.le_refl]
        have gf : ∀ c i, u ≤ c → hh c i = h c i := fun c i q => by rw [g c i (by omega), f c i (by omega)]
        obtain ⟨c1, c2, c3, c4, c5, c6, c7, c8, c9, c10, c11, c12, c13, c14⟩ := rt
        apply K
        · intro c i q1 q2
          rw [g c i q2, f c i q1]
        · refine ⟨?_, ?_, ?_, ?_, ?_, ?_, ?_, ?_, ?_, ?_, ?_, ?_, ?_, ?_⟩
          · rw [gf _ _ (by omega)]; exact c1
          · rw [gf _ _ (by omega)]; exact c2
          · rw [gf _ _ (by omega)]; exact c3
          · rw [gf _ _ (by omega)]; exact c4
          · rw [g _ _ (by decide)]; exact v1
          · intro i hi; rw [aLaw_o (by decide) (by decide), gf _ _ (by omega)]; exact c6 i hi
          · intro i hi
            have hi' : i < nB T := hi
            rw [aLaw_o (by decide) (by decide), m i (by omega), f _ _ (by omega)]; exact c7 i hi
          · intro i hi; rw [aLaw_o (by decide) (by decide), gf _ _ (by omega)]; exact c9 i hi
          · intro i hi; rw [aLaw_o (by decide) (by decide), gf _ _ (by omega)]; exact c10 i hi
          · intro i hi; rw [aLaw_o (by decide) (by decide), gf _ _ (by omega)]; exact c11 i hi
          · intro i hi
            have b5 := (hw.2.2.2.2.2 i).2.2.2.2.2.1
            rw [aLaw_5, gf (u + 7) i (by omega), c12 i hi, g 91 17 (by decide), v2]
            refine ⟨?_, b5⟩
            unfold rLv
            by_cases l2 : law = 2
            · rw [if_pos l2, if_pos l2]; rfl
            · rw [if_neg l2, if_neg l2]
              by_cases l3 : law = 3
              · rw [if_pos l3, if_pos l3]; rfl
              · rw [if_neg l3, if_neg l3]; rfl
          · intro i hi; rw [aLaw_o (by decide) (by decide), gf _ _ (by omega)]; exact c13 i hi
          · intro i hi
            have b7 := (hw.2.2.2.2.2 i).2.2.2.2.2.2.2.1
            rw [aLaw_7, gf (u + 9) i (by omega), c14 i hi, g 91 18 (by decide), g 91 19 (by decide), v3, v4, if_pos rfl]
            refine ⟨?_, b7⟩
            unfold rFar
            by_cases l2 : law = 4
            · rw [if_pos l2, if_pos l2]; rfl
            · rw [if_neg l2, if_neg l2]
              by_cases l3 : law = 5
              · rw [if_pos l3, if_pos l3]; rfl
              · rw [if_neg l3, if_neg l3]; rfl
          · rw [g _ _ (by decide), v2]
            split
            · right; left; rfl
            · split
              · right; right; rfl
              · left; rfl
        · rw [g _ _ (by decide)]; exact v4
        · rw [g _ _ (by decide)]; exact v5
        · rw [g _ _ (by decide)]; exact v6
      | succ j ih =>
        intro b hh hb g m
        have c : ¬ (3 : Int) ≤ b := by omega
        have b3 : (b : Int) < 3 := by omega
        rw [e143_87]
        simp only [e143_0, e143_1, e143_2, e143_5, e143_8, e143_11, e143_12, e143_13, e143_16, e143_17, e143_20, e143_21, e143_24, e143_25, e143_26, e143_27, e143_30, e143_31, e143_34, e143_35, e143_36, e143_39, e143_40, e143_43, e143_44, e143_47, e143_48, e143_49, e143_50, e143_53, e143_54, e143_57, e143_58, e143_59, e143_62, e143_63, e143_66, e143_67, e143_70, e143_71, e143_72, e143_75, e143_76, e143_77, e143_80, e143_81, e143_82, e143_85, e143_86, e143_88, e143_89, e143_92, e143_93, e143_96, e143_97, e143_98, e143_101, e143_104, e143_105, e143_106, e143_107, e143_110, e143_113, zs0, zsI, zsL, zsR, ztl1, ztl0, zc0, zcI, zcL, zcR, true_and, and_true, true_implies, false_implies, implies_true, not_true_eq_false, not_false_eq_true, and_self, Int.toNat_natCast, Nat.reduceAdd, Nat.reduceLeDiff, Nat.reduceLT, forall_eq', Option.some.injEq, zarR, zarI, zarL, zle, zq0, zq1, zq2, zq3, zq4, zq5, zq6, zq8, zq9, zq10, zq20, zq7, zq12, zq24, zq40, zq41, zq48, zq100, zq120, zq123, zq480, zq492, zq700, zq729, zq2187, zq2916, zq8748, ne_eq, Int.reduceEq, Int.reduceLT, Int.reduceLE, Int.reduceToNat, Int.reduceMul, Int.reduceAdd, Int.reduceNeg, gk91 hg, gr91_5 hg, gr91_22 hg, gr91_23 hg, gr91_24 hg, gr91_25 hg, gr91_26 hg, gr91_27 hg, gr91_28 hg, gr91_29 hg, gr91_32 hg, gr91_33 hg, gr91_34 hg, gr91_35 hg, gr91_36 hg, gr91_37 hg, gr91_38 hg, gr91_39 hg, gr91_40 hg, gr91_41 hg, gr91_42 hg, gr91_44 hg, gr91_45 hg, gr91_46 hg, gr91_48 hg, gr91_49 hg, gr91_50 hg, gr91_51 hg, gr91_52 hg, gk93 hg, gl93 hg, or_true, true_or, if_true, if_false, false_and, and_false, false_or, or_false, hu, c, b3, wr_s (show b < 2147483647 by omega)]
        apply ih (b + 1) _ (by omega)
        · intro c i q
          rw [zu_c q]
          exact g c i q
        · intro i hi
          by_cases q : i = b
          · subst q
            rw [zu_at]
            exact g _ _ (by omega)
          · rw [zu_i (by omega)]
            exact m i (by omega)
    simp only [e143_85, e143_86, e143_88, e143_89, e143_92, e143_93, e143_96, e143_97, e143_98, e143_101, e143_104, e143_105, e143_106, e143_107, e143_110, e143_113, zs0, zsI, zsL, zsR, ztl1, ztl0, zc0, zcI, zcL, zcR, true_and, and_true, true_implies, false_implies, implies_true, not_true_eq_false, not_false_eq_true, and_self, Int.toNat_natCast, Nat.reduceAdd, Nat.reduceLeDiff, Nat.reduceLT, forall_eq', Option.some.injEq, zarR, zarI, zarL, zle, zq0, zq1, zq2, zq3, zq4, zq5, zq6, zq8, zq9, zq10, zq20, zq7, zq12, zq24, zq40, zq41, zq48, zq100, zq120, zq123, zq480, zq492, zq700, zq729, zq2187, zq2916, zq8748, ne_eq, Int.reduceEq, Int.reduceLT, Int.reduceLE, Int.reduceToNat, Int.reduceMul, Int.reduceAdd, Int.reduceNeg]
    exact lp 3 0 h1 (by omega) (fun _ _ _ => rfl) (fun i hi => by omega)
  have fin : ∀ t lv lk : Int, t = tw (aLaw T law) → lv = (if law = 2 then 1 else if law = 3 then 2 else 0) → lk = (if law = 4 then 1 else if law = 5 then 2 else 0) → zE 143 d Q 85 [some (zR (some 91)), some (zI law), none] [] G (zu (zu (zu (zu (zu (zu h 91 16 t) 91 17 lv) 91 18 lk) 91 19 (-1)) 91 20 (-1)) 91 21 0) (0, 0) := by
    intro t lv lk e1 e2 e3
    apply key
    · intro c i q
      unfold zu
      rw [if_neg (by omega), if_neg (by omega), if_neg (by omega), if_neg (by omega), if_neg (by omega), if_neg (by omega)]
    · rw [zu_i (by decide), zu_i (by decide), zu_i (by decide), zu_i (by decide), zu_i (by decide), zu_at, e1]
    · rw [zu_i (by decide), zu_i (by decide), zu_i (by decide), zu_i (by decide), zu_at, e2]
    · rw [zu_i (by decide), zu_i (by decide), zu_i (by decide), zu_at, e3]
    · rw [zu_i (by decide), zu_i (by decide), zu_at]
    · rw [zu_i (by decide), zu_at]
    · rw [zu_at]
  clear key
  have t5 := rt.2.2.2.2.1
  have twl : tw (aLaw T law) = if law = 1 then 0 else tw T := rfl
  have hl' : law = 0 ∨ law = 1 ∨ law = 2 ∨ law = 3 ∨ law = 4 ∨ law = 5 := by omega
  rcases hw.2.2.2.1 with t0 | t0 <;> rw [t0] at t5 twl <;> rcases hl' with rfl | rfl | rfl | rfl | rfl | rfl <;> simp only [e143_0, e143_1, e143_2, e143_5, e143_8, e143_11, e143_12, e143_13, e143_16, e143_17, e143_20, e143_21, e143_24, e143_25, e143_26, e143_27, e143_30, e143_31, e143_34, e143_35, e143_36, e143_39, e143_40, e143_43, e143_44, e143_47, e143_48, e143_49, e143_50, e143_53, e143_54, e143_57, e143_58, e143_59, e143_62, e143_63, e143_66, e143_67, e143_70, e143_71, e143_72, e143_75, e143_76, e143_77, e143_80, e143_81, e143_82, zs0, zsI, zsL, zsR, ztl1, ztl0, zc0, zcI, zcL, zcR, true_and, and_true, true_implies, false_implies, implies_true, not_true_eq_false, not_false_eq_true, and_self, Int.toNat_natCast, Nat.reduceAdd, Nat.reduceLeDiff, Nat.reduceLT, forall_eq', Option.some.injEq, zarR, zarI, zarL, zle, zq0, zq1, zq2, zq3, zq4, zq5, zq6, zq8, zq9, zq10, zq20, zq7, zq12, zq24, zq40, zq41, zq48, zq100, zq120, zq123, zq480, zq492, zq700, zq729, zq2187, zq2916, zq8748, ne_eq, Int.reduceEq, Int.reduceLT, Int.reduceLE, Int.reduceToNat, Int.reduceMul, Int.reduceAdd, Int.reduceNeg, gk91 hg, gr91_5 hg, gr91_22 hg, gr91_23 hg, gr91_24 hg, gr91_25 hg, gr91_26 hg, gr91_27 hg, gr91_28 hg, gr91_29 hg, gr91_32 hg, gr91_33 hg, gr91_34 hg, gr91_35 hg, gr91_36 hg, gr91_37 hg, gr91_38 hg, gr91_39 hg, gr91_40 hg, gr91_41 hg, gr91_42 hg, gr91_44 hg, gr91_45 hg, gr91_46 hg, gr91_48 hg, gr91_49 hg, gr91_50 hg, gr91_51 hg, gr91_52 hg, hu, t5, or_true, true_or] <;> exact fin _ _ _ (by rw [twl]; rfl) rfl rfl
end OM
