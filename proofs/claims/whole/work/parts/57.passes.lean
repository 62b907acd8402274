theorem sdN_stop {sd : Int} {s : Nat} (h : sdN sd s ≤ 0) (j : Nat) : sdN sd (s + j) = sdN sd s := by
  induction j with
  | zero => rfl
  | succ j ih =>
    rw [← Nat.add_assoc, sdN, if_neg (by omega), ih]
section PS
variable {d : Nat} {Q : zQ} {G : zG} {h : zM} {T : aTn} {own oth : Nat → Int} {Y u : Nat} {sd : Int} {p : (Nat → Nat → Int) × Int} {B : Int}
theorem m_fresh (hg : gS G) (hu : gU G u) (K : ∀ h' : zM, (∀ c i, ¬ c = 100 → h' c i = h c i) → (∀ s, s < 4 → h' 100 s = h (u + 5) s) → Q none G h') : zRunD ztb zmt' (d + 1) 153 [zR (some 91)] G h Q := by
  rw [r153]
  have u1 := hu.1
  have lp : ∀ j s (hh : zM), s + j = 4 → (∀ c i, ¬ c = 100 → hh c i = h c i) → (∀ i, i < s → hh 100 i = h (u + 5) i) → zE 153 d Q 2 [some (zR (some 91)), some (zI s)] [] G hh (0, 0) := by
    intro j
    induction j with
    | zero =>
      intro s hh hs f m
      have hs' : s = 4 := by omega
      subst hs'
      rw [e153_2]
      simp only [e153_0, e153_1, e153_3, e153_4, e153_7, e153_8, e153_11, e153_12, e153_13, e153_16, e153_19, e153_20, e153_21, e153_22, e153_25, e153_28, zs0, zsI, zsL, zsR, ztl1, ztl0, zc0, zcI, zcL, zcR, true_and, and_true, true_implies, false_implies, implies_true, not_true_eq_false, not_false_eq_true, and_self, Int.toNat_natCast, Nat.reduceAdd, Nat.reduceLeDiff, Nat.reduceLT, forall_eq', Option.some.injEq, zarR, zarI, zarL, zle, zq0, zq1, zq2, zq3, zq4, zq5, zq6, zq8, zq9, zq10, zq20, zq7, zq12, zq24, zq40, zq41, zq48, zq100, zq120, zq123, zq480, zq492, zq700, zq729, zq2187, zq2916, zq8748, ne_eq, Int.reduceEq, Int.reduceLT, Int.reduceLE, Int.reduceToNat, Int.reduceMul, Int.reduceAdd, Int.reduceNeg, gk91 hg, gr91_5 hg, gr91_22 hg, gr91_23 hg, gr91_24 hg, gr91_25 hg, gr91_26 hg, gr91_27 hg, gr91_28 hg, gr91_29 hg, gr91_32 hg, gr91_33 hg, gr91_34 hg, gr91_35 hg, gr91_36 hg, gr91_37 hg, gr91_38 hg, gr91_39 hg, gr91_40 hg, gr91_41 hg, gr91_42 hg, gr91_44 hg, gr91_45 hg, gr91_46 hg, gr91_48 hg, gr91_49 hg, gr91_50 hg, gr91_51 hg, gr91_52 hg, or_true, true_or, if_true, if_false, false_and, and_false, false_or, or_false, show ((4 : Nat) : Int) = 4 from rfl, Int.le_refl]
      exact K hh f m
    | succ j ih =>
      intro s hh hs f m
      have c : ¬ (4 : Int) ≤ s := by omega
      have s4 : (s : Int) < 4 := by omega
      rw [e153_2]
      simp only [e153_0, e153_1, e153_3, e153_4, e153_7, e153_8, e153_11, e153_12, e153_13, e153_16, e153_19, e153_20, e153_21, e153_22, e153_25, e153_28, zs0, zsI, zsL, zsR, ztl1, ztl0, zc0, zcI, zcL, zcR, true_and, and_true, true_implies, false_implies, implies_true, not_true_eq_false, not_false_eq_true, and_self, Int.toNat_natCast, Nat.reduceAdd, Nat.reduceLeDiff, Nat.reduceLT, forall_eq', Option.some.injEq, zarR, zarI, zarL, zle, zq0, zq1, zq2, zq3, zq4, zq5, zq6, zq8, zq9, zq10, zq20, zq7, zq12, zq24, zq40, zq41, zq48, zq100, zq120, zq123, zq480, zq492, zq700, zq729, zq2187, zq2916, zq8748, ne_eq, Int.reduceEq, Int.reduceLT, Int.reduceLE, Int.reduceToNat, Int.reduceMul, Int.reduceAdd, Int.reduceNeg, gk91 hg, gr91_5 hg, gr91_22 hg, gr91_23 hg, gr91_24 hg, gr91_25 hg, gr91_26 hg, gr91_27 hg, gr91_28 hg, gr91_29 hg, gr91_32 hg, gr91_33 hg, gr91_34 hg, gr91_35 hg, gr91_36 hg, gr91_37 hg, gr91_38 hg, gr91_39 hg, gr91_40 hg, gr91_41 hg, gr91_42 hg, gr91_44 hg, gr91_45 hg, gr91_46 hg, gr91_48 hg, gr91_49 hg, gr91_50 hg, gr91_51 hg, gr91_52 hg, gk100 hg, gl100 hg, or_true, true_or, if_true, if_false, false_and, and_false, false_or, or_false, hu, c, s4, wr_s (show s < 2147483647 by omega)]
      apply ih (s + 1) _ (by omega)
      · intro c i q
        rw [zu_c q]
        exact f c i q
      · intro i hi
        by_cases q : i = s
        · subst q
          rw [zu_at]
          exact f _ _ (by omega)
        · rw [zu_i (by omega)]
          exact m i (by omega)
  simp only [e153_0, e153_1, e153_3, e153_4, e153_7, e153_8, e153_11, e153_12, e153_13, e153_16, e153_19, e153_20, e153_21, e153_22, e153_25, e153_28, zs0, zsI, zsL, zsR, ztl1, ztl0, zc0, zcI, zcL, zcR, true_and, and_true, true_implies, false_implies, implies_true, not_true_eq_false, not_false_eq_true, and_self, Int.toNat_natCast, Nat.reduceAdd, Nat.reduceLeDiff, Nat.reduceLT, forall_eq', Option.some.injEq, zarR, zarI, zarL, zle, zq0, zq1, zq2, zq3, zq4, zq5, zq6, zq8, zq9, zq10, zq20, zq7, zq12, zq24, zq40, zq41, zq48, zq100, zq120, zq123, zq480, zq492, zq700, zq729, zq2187, zq2916, zq8748, ne_eq, Int.reduceEq, Int.reduceLT, Int.reduceLE, Int.reduceToNat, Int.reduceMul, Int.reduceAdd, Int.reduceNeg, or_true, true_or, if_true, if_false, false_and, and_false, false_or, or_false]
  exact lp 4 0 h (by omega) (fun _ _ _ => rfl) (fun i hi => by omega)
theorem m_draws (hg : gS G) (hu : gU G u) (V : rV h u T) (hw : wT T) (hsd : h 91 30 = sd) (hb : 0 ≤ sd ∧ sd ≤ 65536) (K : ∀ h' : zM, (∀ c i, ¬ c = 100 → ¬ (c = 91 ∧ i = 30) → h' c i = h c i) → (∀ s, s < nS T → h' 100 s = frN T sd s) → h' 91 30 = sdN sd (nS T) → Q none G h') : zRunD ztb zmt' (d + 2) 163 [zR (some 91)] G h Q := by
  rw [r163]
  have u1 := hu.1
  have hs4 := hw.2.1
  have lp : ∀ j s (hh : zM) (l2 : Option zV), s + j = nS T → (∀ c i, ¬ c = 100 → ¬ (c = 91 ∧ i = 30) → hh c i = h c i) → hh 91 30 = sdN sd s → (∀ i, i < s → hh 100 i = frN T sd i) → (∀ i, s ≤ i → i < nS T → hh 100 i = tr T 3 i) → zE 163 (d + 1) Q 6 [some (zR (some 91)), some (zI s), l2] [] G hh (0, 0) := by
    intro j
    induction j with
    | zero =>
      intro s hh l2 hs f m1 m2 m3
      have hs' : s = nS T := by omega
      subst hs'
      have e1 : hh u 1 = (nS T : Int) := by rw [f _ _ (by omega) (by omega)]; exact V.2.1
      rw [e163_6]
      simp only [e163_0, e163_1, e163_4, e163_5, e163_7, e163_8, e163_11, e163_14, e163_17, e163_18, e163_21, e163_24, e163_25, e163_27, e163_28, e163_31, e163_32, e163_34, e163_35, e163_38, e163_39, e163_42, e163_43, e163_46, e163_47, e163_48, e163_49, e163_52, e163_53, e163_54, e163_55, e163_56, e163_57, e163_58, e163_59, e163_62, e163_63, e163_64, e163_67, e163_68, e163_71, e163_72, e163_73, e163_76, e163_79, zs0, zsI, zsL, zsR, ztl1, ztl0, zc0, zcI, zcL, zcR, true_and, and_true, true_implies, false_implies, implies_true, not_true_eq_false, not_false_eq_true, and_self, Int.toNat_natCast, Nat.reduceAdd, Nat.reduceLeDiff, Nat.reduceLT, forall_eq', Option.some.injEq, zarR, zarI, zarL, zle, zq0, zq1, zq2, zq3, zq4, zq5, zq6, zq8, zq9, zq10, zq20, zq7, zq12, zq24, zq40, zq41, zq48, zq100, zq120, zq123, zq480, zq492, zq700, zq729, zq2187, zq2916, zq8748, ne_eq, Int.reduceEq, Int.reduceLT, Int.reduceLE, Int.reduceToNat, Int.reduceMul, Int.reduceAdd, Int.reduceNeg, gk91 hg, gr91_5 hg, gr91_22 hg, gr91_23 hg, gr91_24 hg, gr91_25 hg, gr91_26 hg, gr91_27 hg, gr91_28 hg, gr91_29 hg, gr91_32 hg, gr91_33 hg, gr91_34 hg, gr91_35 hg, gr91_36 hg, gr91_37 hg, gr91_38 hg, gr91_39 hg, gr91_40 hg, gr91_41 hg, gr91_42 hg, gr91_44 hg, gr91_45 hg, gr91_46 hg, gr91_48 hg, gr91_49 hg, gr91_50 hg, gr91_51 hg, gr91_52 hg, or_true, true_or, if_true, if_false, false_and, and_false, false_or, or_false, hu, e1, Int.le_refl]
      exact K hh f m2 m1
    | succ j ih =>
      intro s hh l2 hs f m1 m2 m3
      have e1 : hh u 1 = (nS T : Int) := by rw [f _ _ (by omega) (by omega)]; exact V.2.1
      have c : ¬ (nS T : Int) ≤ s := by omega
      have s4 : (s : Int) < 4 := by omega
      have b3 := (hw.2.2.2.2.2 s).2.2.2.1
      have sb := sdN_b hb s
      have sb1 := sdN_b hb (s + 1)
      have e3 := m3 s (Nat.le_refl _) (by omega)
      rw [e163_6]
      by_cases hz : sdN sd s ≤ 0
      · simp only [e163_0, e163_1, e163_4, e163_5, e163_7, e163_8, e163_11, e163_14, e163_17, e163_18, e163_21, e163_24, e163_25, e163_27, e163_28, e163_31, e163_32, e163_34, e163_35, e163_38, e163_39, e163_42, e163_43, e163_46, e163_47, e163_48, e163_49, e163_52, e163_53, e163_54, e163_55, e163_56, e163_57, e163_58, e163_59, e163_62, e163_63, e163_64, e163_67, e163_68, e163_71, e163_72, e163_73, e163_76, e163_79, zs0, zsI, zsL, zsR, ztl1, ztl0, zc0, zcI, zcL, zcR, true_and, and_true, true_implies, false_implies, implies_true, not_true_eq_false, not_false_eq_true, and_self, Int.toNat_natCast, Nat.reduceAdd, Nat.reduceLeDiff, Nat.reduceLT, forall_eq', Option.some.injEq, zarR, zarI, zarL, zle, zq0, zq1, zq2, zq3, zq4, zq5, zq6, zq8, zq9, zq10, zq20, zq7, zq12, zq24, zq40, zq41, zq48, zq100, zq120, zq123, zq480, zq492, zq700, zq729, zq2187, zq2916, zq8748, ne_eq, Int.reduceEq, Int.reduceLT, Int.reduceLE, Int.reduceToNat, Int.reduceMul, Int.reduceAdd, Int.reduceNeg, gk91 hg, gr91_5 hg, gr91_22 hg, gr91_23 hg, gr91_24 hg, gr91_25 hg, gr91_26 hg, gr91_27 hg, gr91_28 hg, gr91_29 hg, gr91_32 hg, gr91_33 hg, gr91_34 hg, gr91_35 hg, gr91_36 hg, gr91_37 hg, gr91_38 hg, gr91_39 hg, gr91_40 hg, gr91_41 hg, gr91_42 hg, gr91_44 hg, gr91_45 hg, gr91_46 hg, gr91_48 hg, gr91_49 hg, gr91_50 hg, gr91_51 hg, gr91_52 hg, or_true, true_or, if_true, if_false, false_and, and_false, false_or, or_false, hu, e1, c, m1, hz]
        apply K hh f
        · intro i hi
          by_cases q : i < s
          · exact m2 i q
          · rw [m3 i (by omega) hi]
            unfold frN
            have := sdN_stop hz (i - s)
            rw [show s + (i - s) = i by omega] at this
            rw [if_neg (by omega)]
        · rw [m1]
          have := sdN_stop hz (nS T - s)
          rw [show s + (nS T - s) = nS T by omega] at this
          exact this.symm
      · have w1 : wr (75 * sdN sd s) = 75 * sdN sd s := wr_id (by omega)
        have w2 : wr (75 * sdN sd s + 74) = 75 * sdN sd s + 74 := wr_id (by omega)
        have w3 : (75 * sdN sd s + 74).tmod 65537 = sdN sd (s + 1) := by
          rw [Int.tmod_eq_emod_of_nonneg (by omega), sdN, if_pos (by omega)]
        have w4 : (sdN sd (s + 1)).tmod 3 = sdN sd (s + 1) % 3 := Int.tmod_eq_emod_of_nonneg (by omega)
        have w5 : wr (tr T 3 s + sdN sd (s + 1) % 3) = tr T 3 s + sdN sd (s + 1) % 3 := wr_id (by omega)
        have w6 : wr (tr T 3 s + sdN sd (s + 1) % 3 - 1) = tr T 3 s + sdN sd (s + 1) % 3 - 1 := wr_id (by omega)
        have nxt : ∀ fr : Int, fr = frN T sd s → zE 163 (d + 1) Q 6 [some (zR (some 91)), some (zI ((s + 1 : Nat) : Int)), some (zI (tr T 3 s + sdN sd (s + 1) % 3 - 1))] [] G (zu (zu hh 91 30 (sdN sd (s + 1))) 100 s fr) (0, 0) := by
          intro fr hfr
          apply ih (s + 1) _ _ (by omega)
          · intro c i q1 q2
            rw [zu_c q1, zu, if_neg q2]
            exact f c i q1 q2
          · rw [zu_c (by decide), zu_at]
          · intro i hi
            by_cases q : i = s
            · subst q
              rw [zu_at, hfr]
            · rw [zu_i (by omega), zu_c (by decide)]
              exact m2 i (by omega)
          · intro i q1 q2
            rw [zu_i (by omega), zu_c (by decide)]
            exact m3 i (by omega) q2
        by_cases hn : 0 ≤ tr T 3 s + sdN sd (s + 1) % 3 - 1
        · simp only [e163_0, e163_1, e163_4, e163_5, e163_7, e163_8, e163_11, e163_14, e163_17, e163_18, e163_21, e163_24, e163_25, e163_27, e163_28, e163_31, e163_32, e163_34, e163_35, e163_38, e163_39, e163_42, e163_43, e163_46, e163_47, e163_48, e163_49, e163_52, e163_53, e163_54, e163_55, e163_56, e163_57, e163_58, e163_59, e163_62, e163_63, e163_64, e163_67, e163_68, e163_71, e163_72, e163_73, e163_76, e163_79, zs0, zsI, zsL, zsR, ztl1, ztl0, zc0, zcI, zcL, zcR, true_and, and_true, true_implies, false_implies, implies_true, not_true_eq_false, not_false_eq_true, and_self, Int.toNat_natCast, Nat.reduceAdd, Nat.reduceLeDiff, Nat.reduceLT, forall_eq', Option.some.injEq, zarR, zarI, zarL, zle, zq0, zq1, zq2, zq3, zq4, zq5, zq6, zq8, zq9, zq10, zq20, zq7, zq12, zq24, zq40, zq41, zq48, zq100, zq120, zq123, zq480, zq492, zq700, zq729, zq2187, zq2916, zq8748, ne_eq, Int.reduceEq, Int.reduceLT, Int.reduceLE, Int.reduceToNat, Int.reduceMul, Int.reduceAdd, Int.reduceNeg, gk91 hg, gr91_5 hg, gr91_22 hg, gr91_23 hg, gr91_24 hg, gr91_25 hg, gr91_26 hg, gr91_27 hg, gr91_28 hg, gr91_29 hg, gr91_32 hg, gr91_33 hg, gr91_34 hg, gr91_35 hg, gr91_36 hg, gr91_37 hg, gr91_38 hg, gr91_39 hg, gr91_40 hg, gr91_41 hg, gr91_42 hg, gr91_44 hg, gr91_45 hg, gr91_46 hg, gr91_48 hg, gr91_49 hg, gr91_50 hg, gr91_51 hg, gr91_52 hg, gk100 hg, gl100 hg, or_true, true_or, if_true, if_false, false_and, and_false, false_or, or_false, hu, e1, c, m1, hz, w1, w2, w3, zu_at, zu_c (show ¬ 100 = 91 by decide), s4, e3, w4, w5, w6, hn, wr_s (show s < 2147483647 by omega)]
          exact nxt _ (by unfold frN; rw [if_pos (by omega)]; omega)
        · simp only [e163_0, e163_1, e163_4, e163_5, e163_7, e163_8, e163_11, e163_14, e163_17, e163_18, e163_21, e163_24, e163_25, e163_27, e163_28, e163_31, e163_32, e163_34, e163_35, e163_38, e163_39, e163_42, e163_43, e163_46, e163_47, e163_48, e163_49, e163_52, e163_53, e163_54, e163_55, e163_56, e163_57, e163_58, e163_59, e163_62, e163_63, e163_64, e163_67, e163_68, e163_71, e163_72, e163_73, e163_76, e163_79, zs0, zsI, zsL, zsR, ztl1, ztl0, zc0, zcI, zcL, zcR, true_and, and_true, true_implies, false_implies, implies_true, not_true_eq_false, not_false_eq_true, and_self, Int.toNat_natCast, Nat.reduceAdd, Nat.reduceLeDiff, Nat.reduceLT, forall_eq', Option.some.injEq, zarR, zarI, zarL, zle, zq0, zq1, zq2, zq3, zq4, zq5, zq6, zq8, zq9, zq10, zq20, zq7, zq12, zq24, zq40, zq41, zq48, zq100, zq120, zq123, zq480, zq492, zq700, zq729, zq2187, zq2916, zq8748, ne_eq, Int.reduceEq, Int.reduceLT, Int.reduceLE, Int.reduceToNat, Int.reduceMul, Int.reduceAdd, Int.reduceNeg, gk91 hg, gr91_5 hg, gr91_22 hg, gr91_23 hg, gr91_24 hg, gr91_25 hg, gr91_26 hg, gr91_27 hg, gr91_28 hg, gr91_29 hg, gr91_32 hg, gr91_33 hg, gr91_34 hg, gr91_35 hg, gr91_36 hg, gr91_37 hg, gr91_38 hg, gr91_39 hg, gr91_40 hg, gr91_41 hg, gr91_42 hg, gr91_44 hg, gr91_45 hg, gr91_46 hg, gr91_48 hg, gr91_49 hg, gr91_50 hg, gr91_51 hg, gr91_52 hg, gk100 hg, gl100 hg, or_true, true_or, if_true, if_false, false_and, and_false, false_or, or_false, hu, e1, c, m1, hz, w1, w2, w3, zu_at, zu_c (show ¬ 100 = 91 by decide), s4, e3, w4, w5, w6, hn, wr_s (show s < 2147483647 by omega)]
          exact nxt _ (by unfold frN; rw [if_pos (by omega)]; omega)
  simp only [e163_0, e163_1, zs0, zsI, zsL, zsR, ztl1, ztl0, zc0, zcI, zcL, zcR, true_and, and_true, true_implies, false_implies, implies_true, not_true_eq_false, not_false_eq_true, and_self, Int.toNat_natCast, Nat.reduceAdd, Nat.reduceLeDiff, Nat.reduceLT, forall_eq', Option.some.injEq, zarR, zarI, zarL, zle, zq0, zq1, zq2, zq3, zq4, zq5, zq6, zq8, zq9, zq10, zq20, zq7, zq12, zq24, zq40, zq41, zq48, zq100, zq120, zq123, zq480, zq492, zq700, zq729, zq2187, zq2916, zq8748, ne_eq, Int.reduceEq, Int.reduceLT, Int.reduceLE, Int.reduceToNat, Int.reduceMul, Int.reduceAdd, Int.reduceNeg, gk91 hg, gr91_5 hg, gr91_22 hg, gr91_23 hg, gr91_24 hg, gr91_25 hg, gr91_26 hg, gr91_27 hg, gr91_28 hg, gr91_29 hg, gr91_32 hg, gr91_33 hg, gr91_34 hg, gr91_35 hg, gr91_36 hg, gr91_37 hg, gr91_38 hg, gr91_39 hg, gr91_40 hg, gr91_41 hg, gr91_42 hg, gr91_44 hg, gr91_45 hg, gr91_46 hg, gr91_48 hg, gr91_49 hg, gr91_50 hg, gr91_51 hg, gr91_52 hg]
  apply m_fresh (d := d) hg hu
  intro h1 f1 m1
  simp only [e163_4, e163_5, e163_7, e163_8, e163_11, e163_14, e163_17, e163_18, e163_21, e163_24, e163_25, e163_27, e163_28, e163_31, e163_32, e163_34, e163_35, e163_38, e163_39, e163_42, e163_43, e163_46, e163_47, e163_48, e163_49, e163_52, e163_53, e163_54, e163_55, e163_56, e163_57, e163_58, e163_59, e163_62, e163_63, e163_64, e163_67, e163_68, e163_71, e163_72, e163_73, e163_76, e163_79, zs0, zsI, zsL, zsR, ztl1, ztl0, zc0, zcI, zcL, zcR, true_and, and_true, true_implies, false_implies, implies_true, not_true_eq_false, not_false_eq_true, and_self, Int.toNat_natCast, Nat.reduceAdd, Nat.reduceLeDiff, Nat.reduceLT, forall_eq', Option.some.injEq, zarR, zarI, zarL, zle, zq0, zq1, zq2, zq3, zq4, zq5, zq6, zq8, zq9, zq10, zq20, zq7, zq12, zq24, zq40, zq41, zq48, zq100, zq120, zq123, zq480, zq492, zq700, zq729, zq2187, zq2916, zq8748, ne_eq, Int.reduceEq, Int.reduceLT, Int.reduceLE, Int.reduceToNat, Int.reduceMul, Int.reduceAdd, Int.reduceNeg]
  apply lp (nS T) 0 h1 _ (by omega)
  · intro c i q1 q2
    exact f1 c i q1
  · rw [f1 _ _ (by decide)]
    exact hsd
  · intro i hi
    omega
  · intro i _ hi
    rw [m1 i (by omega)]
    exact V.2.2.2.2.2.2.2.2.1 i hi
end PS
