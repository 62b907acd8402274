section SG
variable {d : Nat} {Q : zQ} {G : zG} {h : zM} {T : aTn} {ac : Nat → Nat} {nn nf : Nat → Int} {hd : Nat → Nat → Int} {B : Int} {Y n y : Nat} {law : Int}
theorem c_obey (hg : gS G) (kt : kT h 49 T) (hw : wT T) (hl : 0 ≤ law ∧ law ≤ 5) (K : ∀ h' : zM, (∀ c i, c < 49 ∨ 58 < c → h' c i = h c i) → kT h' 49 (aLaw T law) → Q none G h') : zRunD ztb zmt' (d + 1) 47 [zR (some 49), zI law] G h Q := by
  rw [r47]
  have hs4 := hw.2.1
  have lp : ∀ j s (h1 : zM), s + j = nS T → (∀ c i, ¬ (c = 49 ∧ i = 12) → ¬ c = 55 → ¬ c = 57 → h1 c i = h c i) → h1 49 12 = tw (aLaw T law) → (∀ i, i < s → h1 55 i = tr (aLaw T law) 5 i) → (∀ i, i < s → h1 57 i = tr (aLaw T law) 7 i) → (∀ i, s ≤ i → i < nS T → h1 55 i = tr T 5 i) → (∀ i, s ≤ i → i < nS T → h1 57 i = tr T 7 i) → zE 47 d Q 12 [some (zR (some 49)), some (zI law), some (zI s)] [] G h1 (0, 0) := by
    intro j
    induction j with
    | zero =>
      intro s h1 hs f v m1 m2 m3 m4
      have hs' : s = nS T := by omega
      subst hs'
      have e10 : h1 49 10 = (nS T : Int) := by rw [f _ _ (by omega) (by omega) (by omega)]; exact kt.2.1
      rw [e47_12]
      simp only [e47_0, e47_1, e47_2, e47_5, e47_6, e47_7, e47_10, e47_11, e47_13, e47_14, e47_17, e47_20, e47_21, e47_22, e47_25, e47_26, e47_29, e47_30, e47_31, e47_34, e47_35, e47_36, e47_37, e47_38, e47_39, e47_42, e47_43, e47_44, e47_47, e47_48, e47_51, e47_52, e47_53, e47_54, e47_57, e47_58, e47_59, e47_62, e47_63, e47_66, e47_67, e47_68, e47_69, e47_72, e47_73, e47_74, e47_77, e47_78, e47_81, e47_82, e47_83, e47_84, e47_87, e47_90, zs0, zsI, zsL, zsR, ztl1, ztl0, zc0, zcI, zcL, zcR, true_and, and_true, true_implies, false_implies, implies_true, not_true_eq_false, not_false_eq_true, and_self, Int.toNat_natCast, Nat.reduceAdd, Nat.reduceLeDiff, Nat.reduceLT, forall_eq', Option.some.injEq, zarR, zarI, zarL, zle, zq0, zq1, zq2, zq3, zq4, zq5, zq6, zq8, zq9, zq10, zq20, zq7, zq12, zq24, zq40, zq41, zq48, zq100, zq120, zq123, zq480, zq492, zq700, zq729, zq2187, zq2916, zq8748, ne_eq, Int.reduceEq, Int.reduceLT, Int.reduceLE, Int.reduceToNat, Int.reduceMul, Int.reduceAdd, Int.reduceNeg, gk49 hg, gr49_0 hg, gr49_1 hg, gr49_2 hg, gr49_3 hg, gr49_4 hg, gr49_5 hg, gr49_6 hg, gr49_7 hg, gr49_8 hg, or_true, true_or, if_true, if_false, false_and, and_false, false_or, or_false, e10, Int.le_refl]
      obtain ⟨c1, c2, c3, c4, c5, c6, c7, c8, c9, c10, c11, c12, c13, c14⟩ := kt
      apply K h1
      · intro c i q
        exact f c i (by omega) (by omega) (by omega)
      · refine ⟨?_, ?_, ?_, v, ?_, ?_, ?_, ?_, ?_, ?_, m1, ?_, m2, ?_⟩
        · rw [f _ _ (by omega) (by omega) (by omega)]; exact c1
        · rw [f _ _ (by omega) (by omega) (by omega)]; exact c2
        · rw [f _ _ (by omega) (by omega) (by omega)]; exact c3
        · rw [f _ _ (by omega) (by omega) (by omega)]; exact c5
        · intro i hi; rw [aLaw_o (by decide) (by decide), f _ _ (by omega) (by omega) (by omega)]; exact c6 i hi
        · intro i hi; rw [aLaw_o (by decide) (by decide), f _ _ (by omega) (by omega) (by omega)]; exact c7 i hi
        · intro i hi; rw [aLaw_o (by decide) (by decide), f _ _ (by omega) (by omega) (by omega)]; exact c8 i hi
        · intro i hi; rw [aLaw_o (by decide) (by decide), f _ _ (by omega) (by omega) (by omega)]; exact c9 i hi
        · intro i hi; rw [aLaw_o (by decide) (by decide), f _ _ (by omega) (by omega) (by omega)]; exact c10 i hi
        · intro i hi; rw [aLaw_o (by decide) (by decide), f _ _ (by omega) (by omega) (by omega)]; exact c12 i hi
        · intro i hi; rw [aLaw_o (by decide) (by decide), f _ _ (by omega) (by omega) (by omega)]; exact c14 i hi
    | succ j ih =>
      intro s h1 hs f v m1 m2 m3 m4
      have e10 : h1 49 10 = (nS T : Int) := by rw [f _ _ (by omega) (by omega) (by omega)]; exact kt.2.1
      have c : ¬ (nS T : Int) ≤ s := by omega
      have s4 : (s : Int) < 4 := by omega
      have b5 := (hw.2.2.2.2.2 s).2.2.2.2.2.1
      have e5 := m3 s (Nat.le_refl _) (by omega)
      have e7 := m4 s (Nat.le_refl _) (by omega)
      have nxt : ∀ h2 : zM, (∀ c i, ¬ (c = 55 ∧ i = s) → ¬ (c = 57 ∧ i = s) → h2 c i = h1 c i) → h2 55 s = tr (aLaw T law) 5 s → h2 57 s = tr (aLaw T law) 7 s → zE 47 d Q 12 [some (zR (some 49)), some (zI law), some (zI ((s + 1 : Nat) : Int))] [] G h2 (0, 0) := by
        intro h2 f2 v5 v7
        apply ih (s + 1) h2 (by omega)
        · intro c i q1 q2 q3
          rw [f2 c i (by omega) (by omega)]
          exact f c i q1 q2 q3
        · rw [f2 _ _ (by omega) (by omega)]; exact v
        · intro i hi
          by_cases q : i = s
          · subst q; exact v5
          · rw [f2 _ _ (by omega) (by omega)]; exact m1 i (by omega)
        · intro i hi
          by_cases q : i = s
          · subst q; exact v7
          · rw [f2 _ _ (by omega) (by omega)]; exact m2 i (by omega)
        · intro i q1 q2
          rw [f2 _ _ (by omega) (by omega)]; exact m3 i (by omega) q2
        · intro i q1 q2
          rw [f2 _ _ (by omega) (by omega)]; exact m4 i (by omega) q2
      have l5 : tr (aLaw T law) 5 s = if law = 2 then tr T 5 s / 2 else if law = 3 then 0 else tr T 5 s := aLaw_5
      have l7 : tr (aLaw T law) 7 s = if law = 4 then 1 else if law = 5 then 0 else tr T 7 s := aLaw_7
      have hl' : law = 0 ∨ law = 1 ∨ law = 2 ∨ law = 3 ∨ law = 4 ∨ law = 5 := by omega
      rw [e47_12]
      rcases hl' with q | q | q | q | q | q
      · simp only [e47_0, e47_1, e47_2, e47_5, e47_6, e47_7, e47_10, e47_11, e47_13, e47_14, e47_17, e47_20, e47_21, e47_22, e47_25, e47_26, e47_29, e47_30, e47_31, e47_34, e47_35, e47_36, e47_37, e47_38, e47_39, e47_42, e47_43, e47_44, e47_47, e47_48, e47_51, e47_52, e47_53, e47_54, e47_57, e47_58, e47_59, e47_62, e47_63, e47_66, e47_67, e47_68, e47_69, e47_72, e47_73, e47_74, e47_77, e47_78, e47_81, e47_82, e47_83, e47_84, e47_87, e47_90, zs0, zsI, zsL, zsR, ztl1, ztl0, zc0, zcI, zcL, zcR, true_and, and_true, true_implies, false_implies, implies_true, not_true_eq_false, not_false_eq_true, and_self, Int.toNat_natCast, Nat.reduceAdd, Nat.reduceLeDiff, Nat.reduceLT, forall_eq', Option.some.injEq, zarR, zarI, zarL, zle, zq0, zq1, zq2, zq3, zq4, zq5, zq6, zq8, zq9, zq10, zq20, zq7, zq12, zq24, zq40, zq41, zq48, zq100, zq120, zq123, zq480, zq492, zq700, zq729, zq2187, zq2916, zq8748, ne_eq, Int.reduceEq, Int.reduceLT, Int.reduceLE, Int.reduceToNat, Int.reduceMul, Int.reduceAdd, Int.reduceNeg, gk49 hg, gr49_0 hg, gr49_1 hg, gr49_2 hg, gr49_3 hg, gr49_4 hg, gr49_5 hg, gr49_6 hg, gr49_7 hg, gr49_8 hg, or_true, true_or, if_true, if_false, false_and, and_false, false_or, or_false, e10, c, q, wr_s (show s < 2147483647 by omega)]
        rw [← q]
        exact nxt h1 (fun _ _ _ _ => rfl) (by rw [l5, e5, q]; rfl) (by rw [l7, e7, q]; rfl)
      · simp only [e47_0, e47_1, e47_2, e47_5, e47_6, e47_7, e47_10, e47_11, e47_13, e47_14, e47_17, e47_20, e47_21, e47_22, e47_25, e47_26, e47_29, e47_30, e47_31, e47_34, e47_35, e47_36, e47_37, e47_38, e47_39, e47_42, e47_43, e47_44, e47_47, e47_48, e47_51, e47_52, e47_53, e47_54, e47_57, e47_58, e47_59, e47_62, e47_63, e47_66, e47_67, e47_68, e47_69, e47_72, e47_73, e47_74, e47_77, e47_78, e47_81, e47_82, e47_83, e47_84, e47_87, e47_90, zs0, zsI, zsL, zsR, ztl1, ztl0, zc0, zcI, zcL, zcR, true_and, and_true, true_implies, false_implies, implies_true, not_true_eq_false, not_false_eq_true, and_self, Int.toNat_natCast, Nat.reduceAdd, Nat.reduceLeDiff, Nat.reduceLT, forall_eq', Option.some.injEq, zarR, zarI, zarL, zle, zq0, zq1, zq2, zq3, zq4, zq5, zq6, zq8, zq9, zq10, zq20, zq7, zq12, zq24, zq40, zq41, zq48, zq100, zq120, zq123, zq480, zq492, zq700, zq729, zq2187, zq2916, zq8748, ne_eq, Int.reduceEq, Int.reduceLT, Int.reduceLE, Int.reduceToNat, Int.reduceMul, Int.reduceAdd, Int.reduceNeg, gk49 hg, gr49_0 hg, gr49_1 hg, gr49_2 hg, gr49_3 hg, gr49_4 hg, gr49_5 hg, gr49_6 hg, gr49_7 hg, gr49_8 hg, or_true, true_or, if_true, if_false, false_and, and_false, false_or, or_false, e10, c, q, wr_s (show s < 2147483647 by omega)]
        rw [← q]
        exact nxt h1 (fun _ _ _ _ => rfl) (by rw [l5, e5, q]; rfl) (by rw [l7, e7, q]; rfl)
      · have w : wr ((tr T 5 s).tdiv 2) = tr T 5 s / 2 := by
          rw [Int.tdiv_eq_ediv_of_nonneg (by omega), wr_id (by omega)]
        simp only [e47_0, e47_1, e47_2, e47_5, e47_6, e47_7, e47_10, e47_11, e47_13, e47_14, e47_17, e47_20, e47_21, e47_22, e47_25, e47_26, e47_29, e47_30, e47_31, e47_34, e47_35, e47_36, e47_37, e47_38, e47_39, e47_42, e47_43, e47_44, e47_47, e47_48, e47_51, e47_52, e47_53, e47_54, e47_57, e47_58, e47_59, e47_62, e47_63, e47_66, e47_67, e47_68, e47_69, e47_72, e47_73, e47_74, e47_77, e47_78, e47_81, e47_82, e47_83, e47_84, e47_87, e47_90, zs0, zsI, zsL, zsR, ztl1, ztl0, zc0, zcI, zcL, zcR, true_and, and_true, true_implies, false_implies, implies_true, not_true_eq_false, not_false_eq_true, and_self, Int.toNat_natCast, Nat.reduceAdd, Nat.reduceLeDiff, Nat.reduceLT, forall_eq', Option.some.injEq, zarR, zarI, zarL, zle, zq0, zq1, zq2, zq3, zq4, zq5, zq6, zq8, zq9, zq10, zq20, zq7, zq12, zq24, zq40, zq41, zq48, zq100, zq120, zq123, zq480, zq492, zq700, zq729, zq2187, zq2916, zq8748, ne_eq, Int.reduceEq, Int.reduceLT, Int.reduceLE, Int.reduceToNat, Int.reduceMul, Int.reduceAdd, Int.reduceNeg, gk49 hg, gr49_0 hg, gr49_1 hg, gr49_2 hg, gr49_3 hg, gr49_4 hg, gr49_5 hg, gr49_6 hg, gr49_7 hg, gr49_8 hg, gk55 hg, gl55 hg, or_true, true_or, if_true, if_false, false_and, and_false, false_or, or_false, e10, c, q, s4, e5, w, wr_s (show s < 2147483647 by omega)]
        rw [← q]
        exact nxt _ (fun c i q1 q2 => by unfold zu; rw [if_neg q1]) (by rw [zu_at, l5, q]; rfl) (by rw [zu_c (by decide), l7, e7, q]; rfl)
      · simp only [e47_0, e47_1, e47_2, e47_5, e47_6, e47_7, e47_10, e47_11, e47_13, e47_14, e47_17, e47_20, e47_21, e47_22, e47_25, e47_26, e47_29, e47_30, e47_31, e47_34, e47_35, e47_36, e47_37, e47_38, e47_39, e47_42, e47_43, e47_44, e47_47, e47_48, e47_51, e47_52, e47_53, e47_54, e47_57, e47_58, e47_59, e47_62, e47_63, e47_66, e47_67, e47_68, e47_69, e47_72, e47_73, e47_74, e47_77, e47_78, e47_81, e47_82, e47_83, e47_84, e47_87, e47_90, zs0, zsI, zsL, zsR, ztl1, ztl0, zc0, zcI, zcL, zcR, true_and, and_true, true_implies, false_implies, implies_true, not_true_eq_false, not_false_eq_true, and_self, Int.toNat_natCast, Nat.reduceAdd, Nat.reduceLeDiff, Nat.reduceLT, forall_eq', Option.some.injEq, zarR, zarI, zarL, zle, zq0, zq1, zq2, zq3, zq4, zq5, zq6, zq8, zq9, zq10, zq20, zq7, zq12, zq24, zq40, zq41, zq48, zq100, zq120, zq123, zq480, zq492, zq700, zq729, zq2187, zq2916, zq8748, ne_eq, Int.reduceEq, Int.reduceLT, Int.reduceLE, Int.reduceToNat, Int.reduceMul, Int.reduceAdd, Int.reduceNeg, gk49 hg, gr49_0 hg, gr49_1 hg, gr49_2 hg, gr49_3 hg, gr49_4 hg, gr49_5 hg, gr49_6 hg, gr49_7 hg, gr49_8 hg, gk55 hg, gl55 hg, or_true, true_or, if_true, if_false, false_and, and_false, false_or, or_false, e10, c, q, s4, wr_s (show s < 2147483647 by omega)]
        rw [← q]
        exact nxt _ (fun c i q1 q2 => by unfold zu; rw [if_neg q1]) (by rw [zu_at, l5, q]; rfl) (by rw [zu_c (by decide), l7, e7, q]; rfl)
      · simp only [e47_0, e47_1, e47_2, e47_5, e47_6, e47_7, e47_10, e47_11, e47_13, e47_14, e47_17, e47_20, e47_21, e47_22, e47_25, e47_26, e47_29, e47_30, e47_31, e47_34, e47_35, e47_36, e47_37, e47_38, e47_39, e47_42, e47_43, e47_44, e47_47, e47_48, e47_51, e47_52, e47_53, e47_54, e47_57, e47_58, e47_59, e47_62, e47_63, e47_66, e47_67, e47_68, e47_69, e47_72, e47_73, e47_74, e47_77, e47_78, e47_81, e47_82, e47_83, e47_84, e47_87, e47_90, zs0, zsI, zsL, zsR, ztl1, ztl0, zc0, zcI, zcL, zcR, true_and, and_true, true_implies, false_implies, implies_true, not_true_eq_false, not_false_eq_true, and_self, Int.toNat_natCast, Nat.reduceAdd, Nat.reduceLeDiff, Nat.reduceLT, forall_eq', Option.some.injEq, zarR, zarI, zarL, zle, zq0, zq1, zq2, zq3, zq4, zq5, zq6, zq8, zq9, zq10, zq20, zq7, zq12, zq24, zq40, zq41, zq48, zq100, zq120, zq123, zq480, zq492, zq700, zq729, zq2187, zq2916, zq8748, ne_eq, Int.reduceEq, Int.reduceLT, Int.reduceLE, Int.reduceToNat, Int.reduceMul, Int.reduceAdd, Int.reduceNeg, gk49 hg, gr49_0 hg, gr49_1 hg, gr49_2 hg, gr49_3 hg, gr49_4 hg, gr49_5 hg, gr49_6 hg, gr49_7 hg, gr49_8 hg, gk57 hg, gl57 hg, or_true, true_or, if_true, if_false, false_and, and_false, false_or, or_false, e10, c, q, s4, wr_s (show s < 2147483647 by omega)]
        rw [← q]
        exact nxt _ (fun c i q1 q2 => by unfold zu; rw [if_neg q2]) (by rw [zu_c (by decide), l5, e5, q]; rfl) (by rw [zu_at, l7, q]; rfl)
      · simp only [e47_0, e47_1, e47_2, e47_5, e47_6, e47_7, e47_10, e47_11, e47_13, e47_14, e47_17, e47_20, e47_21, e47_22, e47_25, e47_26, e47_29, e47_30, e47_31, e47_34, e47_35, e47_36, e47_37, e47_38, e47_39, e47_42, e47_43, e47_44, e47_47, e47_48, e47_51, e47_52, e47_53, e47_54, e47_57, e47_58, e47_59, e47_62, e47_63, e47_66, e47_67, e47_68, e47_69, e47_72, e47_73, e47_74, e47_77, e47_78, e47_81, e47_82, e47_83, e47_84, e47_87, e47_90, zs0, zsI, zsL, zsR, ztl1, ztl0, zc0, zcI, zcL, zcR, true_and, and_true, true_implies, false_implies, implies_true, not_true_eq_false, not_false_eq_true, and_self, Int.toNat_natCast, Nat.reduceAdd, Nat.reduceLeDiff, Nat.reduceLT, forall_eq', Option.some.injEq, zarR, zarI, zarL, zle, zq0, zq1, zq2, zq3, zq4, zq5, zq6, zq8, zq9, zq10, zq20, zq7, zq12, zq24, zq40, zq41, zq48, zq100, zq120, zq123, zq480, zq492, zq700, zq729, zq2187, zq2916, zq8748, ne_eq, Int.reduceEq, Int.reduceLT, Int.reduceLE, Int.reduceToNat, Int.reduceMul, Int.reduceAdd, Int.reduceNeg, gk49 hg, gr49_0 hg, gr49_1 hg, gr49_2 hg, gr49_3 hg, gr49_4 hg, gr49_5 hg, gr49_6 hg, gr49_7 hg, gr49_8 hg, gk57 hg, gl57 hg, or_true, true_or, if_true, if_false, false_and, and_false, false_or, or_false, e10, c, q, s4, wr_s (show s < 2147483647 by omega)]
        rw [← q]
        exact nxt _ (fun c i q1 q2 => by unfold zu; rw [if_neg q2]) (by rw [zu_c (by decide), l5, e5, q]; rfl) (by rw [zu_at, l7, q]; rfl)
  have twl : tw (aLaw T law) = if law = 1 then 0 else tw T := rfl
  by_cases c1 : law = 1
  · have l0 := lp (nS T) 0 (zu h 49 12 0) (by omega) (fun c i q _ _ => by unfold zu; rw [if_neg q]) (by rw [zu_at, twl, if_pos c1]) (fun i hi => by omega) (fun i hi => by omega) (fun i _ hi => by rw [zu_c (by decide)]; exact kt.2.2.2.2.2.2.2.2.2.2.1 i hi) (fun i _ hi => by rw [zu_c (by decide)]; exact kt.2.2.2.2.2.2.2.2.2.2.2.2.1 i hi)
    rw [c1] at l0 ⊢
    simp only [e47_0, e47_1, e47_2, e47_5, e47_6, e47_7, e47_10, e47_11, e47_13, e47_14, e47_17, e47_20, e47_21, e47_22, e47_25, e47_26, e47_29, e47_30, e47_31, e47_34, e47_35, e47_36, e47_37, e47_38, e47_39, e47_42, e47_43, e47_44, e47_47, e47_48, e47_51, e47_52, e47_53, e47_54, e47_57, e47_58, e47_59, e47_62, e47_63, e47_66, e47_67, e47_68, e47_69, e47_72, e47_73, e47_74, e47_77, e47_78, e47_81, e47_82, e47_83, e47_84, e47_87, e47_90, zs0, zsI, zsL, zsR, ztl1, ztl0, zc0, zcI, zcL, zcR, true_and, and_true, true_implies, false_implies, implies_true, not_true_eq_false, not_false_eq_true, and_self, Int.toNat_natCast, Nat.reduceAdd, Nat.reduceLeDiff, Nat.reduceLT, forall_eq', Option.some.injEq, zarR, zarI, zarL, zle, zq0, zq1, zq2, zq3, zq4, zq5, zq6, zq8, zq9, zq10, zq20, zq7, zq12, zq24, zq40, zq41, zq48, zq100, zq120, zq123, zq480, zq492, zq700, zq729, zq2187, zq2916, zq8748, ne_eq, Int.reduceEq, Int.reduceLT, Int.reduceLE, Int.reduceToNat, Int.reduceMul, Int.reduceAdd, Int.reduceNeg, gk49 hg, gr49_0 hg, gr49_1 hg, gr49_2 hg, gr49_3 hg, gr49_4 hg, gr49_5 hg, gr49_6 hg, gr49_7 hg, gr49_8 hg, or_true, true_or, if_true, if_false, false_and, and_false, false_or, or_false]
    exact l0
  · have l0 := lp (nS T) 0 h (by omega) (fun c i q _ _ => rfl) (by rw [twl, if_neg c1]; exact kt.2.2.2.1) (fun i hi => by omega) (fun i hi => by omega) (fun i _ hi => kt.2.2.2.2.2.2.2.2.2.2.1 i hi) (fun i _ hi => kt.2.2.2.2.2.2.2.2.2.2.2.2.1 i hi)
    simp only [e47_0, e47_1, e47_2, e47_5, e47_6, e47_7, e47_10, e47_11, e47_13, e47_14, e47_17, e47_20, e47_21, e47_22, e47_25, e47_26, e47_29, e47_30, e47_31, e47_34, e47_35, e47_36, e47_37, e47_38, e47_39, e47_42, e47_43, e47_44, e47_47, e47_48, e47_51, e47_52, e47_53, e47_54, e47_57, e47_58, e47_59, e47_62, e47_63, e47_66, e47_67, e47_68, e47_69, e47_72, e47_73, e47_74, e47_77, e47_78, e47_81, e47_82, e47_83, e47_84, e47_87, e47_90, zs0, zsI, zsL, zsR, ztl1, ztl0, zc0, zcI, zcL, zcR, true_and, and_true, true_implies, false_implies, implies_true, not_true_eq_false, not_false_eq_true, and_self, Int.toNat_natCast, Nat.reduceAdd, Nat.reduceLeDiff, Nat.reduceLT, forall_eq', Option.some.injEq, zarR, zarI, zarL, zle, zq0, zq1, zq2, zq3, zq4, zq5, zq6, zq8, zq9, zq10, zq20, zq7, zq12, zq24, zq40, zq41, zq48, zq100, zq120, zq123, zq480, zq492, zq700, zq729, zq2187, zq2916, zq8748, ne_eq, Int.reduceEq, Int.reduceLT, Int.reduceLE, Int.reduceToNat, Int.reduceMul, Int.reduceAdd, Int.reduceNeg, gk49 hg, gr49_0 hg, gr49_1 hg, gr49_2 hg, gr49_3 hg, gr49_4 hg, gr49_5 hg, gr49_6 hg, gr49_7 hg, gr49_8 hg, or_true, true_or, if_true, if_false, false_and, and_false, false_or, or_false, c1]
    exact l0
/-- so many new ones as told -/
def nf0 (T : aTn) (s : Nat) : Int := if tr T 7 s = 1 then tr T 3 s else 0
def nn0 (T : aTn) (s : Nat) : Int := tr T 3 s - nf0 T s
theorem fB00 {T : aTn} (hw : wT T) : fB (nn0 T) (nf0 T) := fB0 hw
theorem c_stage4 (hg : gS G) (kt : kT h 18 T) (hw : wT T) (hl : 0 ≤ law ∧ law ≤ 5) (K : ∀ h' : zM, (∀ c i, c < 46 ∨ 69 < c → h' c i = h c i) → kT h' 49 (aLaw T law) → (∀ b, b < 3 → h' 69 b = (nA (aLaw T law) : Nat)) → (∀ s, s < nS T → h' 62 s = nn0 (aLaw T law) s) → (∀ s, s < nS T → h' 63 s = nf0 (aLaw T law) s) → h' 46 14 = 0 → Q none G h') : zRunD ztb zmt' (d + 3) 32 [zR (some 46), zR (some 18), zI law] G h Q := by
  rw [r32]
  have hw2 := aLaw_w hw law
  have hp3 := hw2.2.2.1
  simp only [e32_0, e32_1, e32_4, e32_5, zs0, zsI, zsL, zsR, ztl1, ztl0, zc0, zcI, zcL, zcR, true_and, and_true, true_implies, false_implies, implies_true, not_true_eq_false, not_false_eq_true, and_self, Int.toNat_natCast, Nat.reduceAdd, Nat.reduceLeDiff, Nat.reduceLT, forall_eq', Option.some.injEq, zarR, zarI, zarL, zle, zq0, zq1, zq2, zq3, zq4, zq5, zq6, zq8, zq9, zq10, zq20, zq7, zq12, zq24, zq40, zq41, zq48, zq100, zq120, zq123, zq480, zq492, zq700, zq729, zq2187, zq2916, zq8748, ne_eq, Int.reduceEq, Int.reduceLT, Int.reduceLE, Int.reduceToNat, Int.reduceMul, Int.reduceAdd, Int.reduceNeg, gk46 hg, gr46_0 hg, gr46_1 hg, gr46_2 hg, gr46_3 hg, gr46_4 hg, gr46_6 hg, gr46_7 hg, gr46_8 hg, gr46_9 hg, gr46_10 hg, gr46_11 hg, gr46_12 hg, gr46_13 hg, gk49 hg, gr49_0 hg, gr49_1 hg, gr49_2 hg, gr49_3 hg, gr49_4 hg, gr49_5 hg, gr49_6 hg, gr49_7 hg, gr49_8 hg]
  apply c_copy49 (d := d + 1) hg kt hw
  intro h1 f1 kt1 _
  simp only [e32_8, e32_9, e32_12, e32_13, zs0, zsI, zsL, zsR, ztl1, ztl0, zc0, zcI, zcL, zcR, true_and, and_true, true_implies, false_implies, implies_true, not_true_eq_false, not_false_eq_true, and_self, Int.toNat_natCast, Nat.reduceAdd, Nat.reduceLeDiff, Nat.reduceLT, forall_eq', Option.some.injEq, zarR, zarI, zarL, zle, zq0, zq1, zq2, zq3, zq4, zq5, zq6, zq8, zq9, zq10, zq20, zq7, zq12, zq24, zq40, zq41, zq48, zq100, zq120, zq123, zq480, zq492, zq700, zq729, zq2187, zq2916, zq8748, ne_eq, Int.reduceEq, Int.reduceLT, Int.reduceLE, Int.reduceToNat, Int.reduceMul, Int.reduceAdd, Int.reduceNeg, gk46 hg, gr46_0 hg, gr46_1 hg, gr46_2 hg, gr46_3 hg, gr46_4 hg, gr46_6 hg, gr46_7 hg, gr46_8 hg, gr46_9 hg, gr46_10 hg, gr46_11 hg, gr46_12 hg, gr46_13 hg, gk49 hg, gr49_0 hg, gr49_1 hg, gr49_2 hg, gr49_3 hg, gr49_4 hg, gr49_5 hg, gr49_6 hg, gr49_7 hg, gr49_8 hg]
  apply c_obey (d := d + 1) hg kt1 hw hl
  intro h2 f2 kt2
  have ca := fun Q' => c_acts47 (d := d + 1) (Q := Q') (h := h2) (T := aLaw T law) hg kt2 (by omega)
  have sf := fun Q' => s_fill (d := d + 1) (Q := Q') (h := h2) (r := 69) (N := 3) (v := ((nA (aLaw T law) : Nat) : Int)) (gk69 hg) (gl69 hg) (by decide)
  simp only [e32_16, e32_17, e32_20, e32_21, e32_24, e32_27, e32_30, e32_31, e32_34, zs0, zsI, zsL, zsR, ztl1, ztl0, zc0, zcI, zcL, zcR, true_and, and_true, true_implies, false_implies, implies_true, not_true_eq_false, not_false_eq_true, and_self, Int.toNat_natCast, Nat.reduceAdd, Nat.reduceLeDiff, Nat.reduceLT, forall_eq', Option.some.injEq, zarR, zarI, zarL, zle, zq0, zq1, zq2, zq3, zq4, zq5, zq6, zq8, zq9, zq10, zq20, zq7, zq12, zq24, zq40, zq41, zq48, zq100, zq120, zq123, zq480, zq492, zq700, zq729, zq2187, zq2916, zq8748, ne_eq, Int.reduceEq, Int.reduceLT, Int.reduceLE, Int.reduceToNat, Int.reduceMul, Int.reduceAdd, Int.reduceNeg, gk46 hg, gr46_0 hg, gr46_1 hg, gr46_2 hg, gr46_3 hg, gr46_4 hg, gr46_6 hg, gr46_7 hg, gr46_8 hg, gr46_9 hg, gr46_10 hg, gr46_11 hg, gr46_12 hg, gr46_13 hg, gk49 hg, gr49_0 hg, gr49_1 hg, gr49_2 hg, gr49_3 hg, gr49_4 hg, gr49_5 hg, gr49_6 hg, gr49_7 hg, gr49_8 hg, gk47 hg, gr47_0 hg, gr47_1 hg, gr47_2 hg, gr47_3 hg, gr47_4 hg, gr47_5 hg, gr47_6 hg, gr47_7 hg, gr47_8 hg, ca, sf]
  apply c_asTold47 (d := d) hg (kT_frame kt2 (fun c i q1 q2 => zfl_c (by omega))) hw2
  intro h3 f3 m1 m2
  simp only [e32_0, e32_1, e32_4, e32_5, e32_8, e32_9, e32_12, e32_13, e32_16, e32_17, e32_20, e32_21, e32_24, e32_27, e32_30, e32_31, e32_34, e32_37, e32_38, e32_39, e32_42, zs0, zsI, zsL, zsR, ztl1, ztl0, zc0, zcI, zcL, zcR, true_and, and_true, true_implies, false_implies, implies_true, not_true_eq_false, not_false_eq_true, and_self, Int.toNat_natCast, Nat.reduceAdd, Nat.reduceLeDiff, Nat.reduceLT, forall_eq', Option.some.injEq, zarR, zarI, zarL, zle, zq0, zq1, zq2, zq3, zq4, zq5, zq6, zq8, zq9, zq10, zq20, zq7, zq12, zq24, zq40, zq41, zq48, zq100, zq120, zq123, zq480, zq492, zq700, zq729, zq2187, zq2916, zq8748, ne_eq, Int.reduceEq, Int.reduceLT, Int.reduceLE, Int.reduceToNat, Int.reduceMul, Int.reduceAdd, Int.reduceNeg, gk46 hg, gr46_0 hg, gr46_1 hg, gr46_2 hg, gr46_3 hg, gr46_4 hg, gr46_6 hg, gr46_7 hg, gr46_8 hg, gr46_9 hg, gr46_10 hg, gr46_11 hg, gr46_12 hg, gr46_13 hg, or_true, true_or, if_true, if_false, false_and, and_false, false_or, or_false]
  apply K
  · intro c i q
    rw [zu_c (by omega), f3 c i (by omega) (by omega), zfl_c (by omega), f2 c i (by omega), f1 c i (by omega)]
  · exact kT_frame kt2 (fun c i q1 q2 => by rw [zu_c (by omega), f3 c i (by omega) (by omega), zfl_c (by omega)])
  · intro b hb
    rw [zu_c (by decide), f3 _ _ (by decide) (by decide), zfl_at hb]
  · intro s hs
    rw [zu_c (by decide)]
    exact m1 s hs
  · intro s hs
    rw [zu_c (by decide)]
    exact m2 s hs
  · exact zu_at
/-- the stage set for a rest over n years -/
def sg (T : aTn) (n : Nat) (hd : Nat → Nat → Int) (nn nf : Nat → Int) (ac : Nat → Nat) (h : zM) : Prop := kT h 49 T ∧ (∀ b, b < nB T → h 69 b = (ac b : Nat)) ∧ (∀ s, s < nS T → h 62 s = nn s) ∧ (∀ s, s < nS T → h 63 s = nf s) ∧ (h 46 14 = 0 ∨ h 46 14 = 1) ∧ (∀ s b, s < nS T → b < 3 → h (76 + n) (b * 4 + s) = hd s b)
theorem c_stage7 (hg : gS G) (kt : kT h 18 T) (hw : wT T) (hl : 0 ≤ law ∧ law ≤ 5) (hn : n < 4) (hY : h 38 0 = (Y : Int)) (h40 : Y ≤ 40) (K : ∀ h' : zM, (∀ c i, c < 46 ∨ 86 < c → h' c i = h c i) → sg (aLaw T law) n (hdC T h Y) (nn0 (aLaw T law)) (nf0 (aLaw T law)) (fun _ => nA (aLaw T law)) h' → h' 46 14 = 0 → Q none G h') : zRunD ztb zmt' (d + 4) 108 [zR (some 0), zI law, zI n] G h Q := by
  rw [r108]
  have hb3 := hw.1
  have hs4 := hw.2.1
  simp only [e108_0, e108_1, e108_4, e108_5, e108_8, e108_9, zs0, zsI, zsL, zsR, ztl1, ztl0, zc0, zcI, zcL, zcR, true_and, and_true, true_implies, false_implies, implies_true, not_true_eq_false, not_false_eq_true, and_self, Int.toNat_natCast, Nat.reduceAdd, Nat.reduceLeDiff, Nat.reduceLT, forall_eq', Option.some.injEq, zarR, zarI, zarL, zle, zq0, zq1, zq2, zq3, zq4, zq5, zq6, zq8, zq9, zq10, zq20, zq7, zq12, zq24, zq40, zq41, zq48, zq100, zq120, zq123, zq480, zq492, zq700, zq729, zq2187, zq2916, zq8748, ne_eq, Int.reduceEq, Int.reduceLT, Int.reduceLE, Int.reduceToNat, Int.reduceMul, Int.reduceAdd, Int.reduceNeg, gk0 hg, gr0_0 hg, gr0_2 hg, gr0_3 hg, gr0_4 hg, gr0_5 hg, gr0_6 hg, gr0_7 hg, gr0_8 hg, gr0_9 hg, gr0_10 hg, gk46 hg, gr46_0 hg, gr46_1 hg, gr46_2 hg, gr46_3 hg, gr46_4 hg, gr46_6 hg, gr46_7 hg, gr46_8 hg, gr46_9 hg, gr46_10 hg, gr46_11 hg, gr46_12 hg, gr46_13 hg]
  apply c_stage4 (d := d) hg kt hw hl
  intro h1 f1 kt1 a1 a2 a3 a4
  have hY1 : h1 38 0 = (Y : Int) := by rw [f1 _ _ (by omega)]; exact hY
  have g7 := g75 hg hn
  have n4 : (n : Int) < 4 := by omega
  have w : wr ((Y : Int) * 12) = ((Y * 12 : Nat) : Int) := wrN (by omega) (by omega)
  have b1 : ((Y * 12 : Nat) : Int) + 12 ≤ 492 := by omega
  simp only [e108_0, e108_1, e108_4, e108_5, e108_8, e108_9, e108_12, e108_13, e108_16, e108_19, e108_20, e108_23, e108_26, e108_28, e108_29, e108_30, e108_33, e108_36, e108_37, e108_38, e108_39, e108_41, e108_44, zs0, zsI, zsL, zsR, ztl1, ztl0, zc0, zcI, zcL, zcR, true_and, and_true, true_implies, false_implies, implies_true, not_true_eq_false, not_false_eq_true, and_self, Int.toNat_natCast, Nat.reduceAdd, Nat.reduceLeDiff, Nat.reduceLT, forall_eq', Option.some.injEq, zarR, zarI, zarL, zle, zq0, zq1, zq2, zq3, zq4, zq5, zq6, zq8, zq9, zq10, zq20, zq7, zq12, zq24, zq40, zq41, zq48, zq100, zq120, zq123, zq480, zq492, zq700, zq729, zq2187, zq2916, zq8748, ne_eq, Int.reduceEq, Int.reduceLT, Int.reduceLE, Int.reduceToNat, Int.reduceMul, Int.reduceAdd, Int.reduceNeg, gk0 hg, gr0_0 hg, gr0_2 hg, gr0_3 hg, gr0_4 hg, gr0_5 hg, gr0_6 hg, gr0_7 hg, gr0_8 hg, gr0_9 hg, gr0_10 hg, gk38 hg, gr38_1 hg, gr38_2 hg, gr38_3 hg, gr38_4 hg, gr38_5 hg, gr38_6 hg, gk39 hg, gl39 hg, gk46 hg, gr46_0 hg, gr46_1 hg, gr46_2 hg, gr46_3 hg, gr46_4 hg, gr46_6 hg, gr46_7 hg, gr46_8 hg, gr46_9 hg, gr46_10 hg, gr46_11 hg, gr46_12 hg, gr46_13 hg, gk75 hg, gl75 hg, gr75_0 hg, gr75_1 hg, gr75_2 hg, gr75_3 hg, or_true, true_or, if_true, if_false, false_and, and_false, false_or, or_false, hY1, w, n4, g7.1, g7.2.1, g7.2.2, b1, Int.le_refl]
  apply K
  · intro c i q
    rw [zcp_c (by omega), f1 c i (by omega)]
  · refine ⟨kT_frame kt1 (fun c i q1 q2 => zcp_c (by omega)), ?_, ?_, ?_, ?_, ?_⟩
    · intro b hb
      rw [zcp_c (by omega)]
      exact a1 b (by have hb' : b < nB T := hb; omega)
    · intro s hs
      rw [zcp_c (by omega)]
      exact a2 s hs
    · intro s hs
      rw [zcp_c (by omega)]
      exact a3 s hs
    · left
      rw [zcp_c (by omega)]
      exact a4
    · intro s b q1 q2
      have q1' : s < nS T := q1
      have q := zcp_i (h := h1) (a := 39) (sp := Y * 12) (b := 76 + n) (dp := 0) (n := 12) (i := b * 4 + s) (by omega)
      rw [Nat.zero_add] at q
      rw [q, f1 _ _ (by omega)]
      unfold hdC
      rw [if_pos ⟨q1', q2⟩, Nat.add_assoc]
  · rw [zcp_c (by omega)]
    exact a4
theorem c_set (hg : gS G) (hw : wT T) (hc : acOk T ac) (hf : fB nn nf) (h1 : 1 ≤ y) (h3 : y ≤ 3) (hN : y * (tg ac (nB T) * nB T) ≤ 2187) (b1 : hB hd B) (b2 : -100 ≤ B) (b3 : B + 100 * y ≤ 2000000) (h20 : nB T = 2 → ∀ s, hd s 2 = 0) (hP : sPre T ac nn nf y hd h) (K : ∀ h', sPost T ac nn nf y hd h h' → Q (some (zI ((calm ac (nB T) (rW T ac nn nf y hd) : Nat) : Int))) G h') : zRunD ztb zmt' (d + 8) 40 [zR (some 46), zI (y : Nat)] G h Q := by
  have hy : y = 1 ∨ y = 2 ∨ y = 3 := by omega
  rcases hy with rfl | rfl | rfl
  · exact c_settle (d := d + 4) hg hw hc hf 1 (by decide) (by decide) hN hd B h Q b1 b2 b3 h20 hP K
  · exact c_settle (d := d + 2) hg hw hc hf 2 (by decide) (by decide) hN hd B h Q b1 b2 b3 h20 hP K
  · exact c_settle (d := d) hg hw hc hf 3 (by decide) (by decide) hN hd B h Q b1 b2 b3 h20 hP K
theorem sg_pre (hs : sg T n hd nn nf ac h) {h' : zM} (f : ∀ c i, ¬ (c = 46 ∧ i = 5) → ¬ (c = 48 ∧ i = 4) → ¬ c = 59 → ¬ c = 60 → ¬ c = 61 → ¬ c = 70 → ¬ c = 71 → ¬ c = 72 → h' c i = h c i) (hO : tOk h' T ac) : sPre T ac nn nf n hd h' := by
  obtain ⟨a1, a2, a3, a4, a5, a6⟩ := hs
  refine ⟨kT_frame a1 (fun c i q1 q2 => f c i (by omega) (by omega) (by omega) (by omega) (by omega) (by omega) (by omega) (by omega)), hO, ?_, ?_, ?_, ?_⟩
  · intro s b q1 q2
    rw [f _ _ (by omega) (by omega) (by omega) (by omega) (by omega) (by omega) (by omega) (by omega)]
    exact a6 s b q1 q2
  · intro s q
    rw [f _ _ (by omega) (by omega) (by omega) (by omega) (by omega) (by omega) (by omega) (by omega)]
    exact a3 s q
  · intro s q
    rw [f _ _ (by omega) (by omega) (by omega) (by omega) (by omega) (by omega) (by omega) (by omega)]
    exact a4 s q
  · rw [f _ _ (by omega) (by omega) (by omega) (by omega) (by omega) (by omega) (by omega) (by omega)]
    exact a5
theorem sFr_out {N : Nat} {h h' : zM} (hy : y ≤ 3) (f : sFr N y h h') : ∀ c i, c < 46 ∨ 86 < c → h' c i = h c i := fun c i q => f c i (by omega) (by omega) (by omega) (by omega) (by omega) (by omega) (by omega) (by omega)
theorem c_war (hg : gS G) (hw : wT T) (hc : acOk T ac) (hf : fB nn nf) (h1 : 1 ≤ n) (h3 : n ≤ 3) (hN : n * (tg ac (nB T) * nB T) ≤ 2187) (b1 : hB hd B) (b2 : -100 ≤ B) (b3 : B + 100 * n ≤ 2000000) (h20 : nB T = 2 → ∀ s, hd s 2 = 0) (hs : sg T n hd nn nf ac h) {b : Nat} (hb : b < nB T) (K : ∀ h' : zM, (∀ c i, c < 46 ∨ 86 < c → h' c i = h c i) → Q (some (zL (vV T ac nn nf n hd b))) G h') : zRunD ztb zmt' (d + 9) 109 [zR (some 0), zI b, zI n] G h Q := by
  rw [r109]
  have hb3 := hw.1
  simp only [e109_0, e109_1, e109_4, e109_5, zs0, zsI, zsL, zsR, ztl1, ztl0, zc0, zcI, zcL, zcR, true_and, and_true, true_implies, false_implies, implies_true, not_true_eq_false, not_false_eq_true, and_self, Int.toNat_natCast, Nat.reduceAdd, Nat.reduceLeDiff, Nat.reduceLT, forall_eq', Option.some.injEq, zarR, zarI, zarL, zle, zq0, zq1, zq2, zq3, zq4, zq5, zq6, zq8, zq9, zq10, zq20, zq7, zq12, zq24, zq40, zq41, zq48, zq100, zq120, zq123, zq480, zq492, zq700, zq729, zq2187, zq2916, zq8748, ne_eq, Int.reduceEq, Int.reduceLT, Int.reduceLE, Int.reduceToNat, Int.reduceMul, Int.reduceAdd, Int.reduceNeg, gk0 hg, gr0_0 hg, gr0_2 hg, gr0_3 hg, gr0_4 hg, gr0_5 hg, gr0_6 hg, gr0_7 hg, gr0_8 hg, gr0_9 hg, gr0_10 hg, gk46 hg, gr46_0 hg, gr46_1 hg, gr46_2 hg, gr46_3 hg, gr46_4 hg, gr46_6 hg, gr46_7 hg, gr46_8 hg, gr46_9 hg, gr46_10 hg, gr46_11 hg, gr46_12 hg, gr46_13 hg]
  apply c_tab (d := d + 3) hg hs.1 hw hc hs.2.1
  intro h1' f1 hO
  have hP := sg_pre hs f1 hO
  simp only [e109_8, e109_9, e109_12, e109_13, zs0, zsI, zsL, zsR, ztl1, ztl0, zc0, zcI, zcL, zcR, true_and, and_true, true_implies, false_implies, implies_true, not_true_eq_false, not_false_eq_true, and_self, Int.toNat_natCast, Nat.reduceAdd, Nat.reduceLeDiff, Nat.reduceLT, forall_eq', Option.some.injEq, zarR, zarI, zarL, zle, zq0, zq1, zq2, zq3, zq4, zq5, zq6, zq8, zq9, zq10, zq20, zq7, zq12, zq24, zq40, zq41, zq48, zq100, zq120, zq123, zq480, zq492, zq700, zq729, zq2187, zq2916, zq8748, ne_eq, Int.reduceEq, Int.reduceLT, Int.reduceLE, Int.reduceToNat, Int.reduceMul, Int.reduceAdd, Int.reduceNeg, gk0 hg, gr0_0 hg, gr0_2 hg, gr0_3 hg, gr0_4 hg, gr0_5 hg, gr0_6 hg, gr0_7 hg, gr0_8 hg, gr0_9 hg, gr0_10 hg, gk46 hg, gr46_0 hg, gr46_1 hg, gr46_2 hg, gr46_3 hg, gr46_4 hg, gr46_6 hg, gr46_7 hg, gr46_8 hg, gr46_9 hg, gr46_10 hg, gr46_11 hg, gr46_12 hg, gr46_13 hg]
  apply c_set hg hw hc hf h1 h3 hN b1 b2 b3 h20 hP
  intro h2 hp
  have g8 := g80 hg (y := n) (by omega)
  have n4 : (n : Int) < 4 := by omega
  have b3' : (b : Int) < 3 := by omega
  have ev := hp.2.1 b hb
  simp only [e109_0, e109_1, e109_4, e109_5, e109_8, e109_9, e109_12, e109_13, e109_16, e109_17, e109_18, e109_21, e109_24, e109_25, e109_26, e109_27, e109_28, zs0, zsI, zsL, zsR, ztl1, ztl0, zc0, zcI, zcL, zcR, true_and, and_true, true_implies, false_implies, implies_true, not_true_eq_false, not_false_eq_true, and_self, Int.toNat_natCast, Nat.reduceAdd, Nat.reduceLeDiff, Nat.reduceLT, forall_eq', Option.some.injEq, zarR, zarI, zarL, zle, zq0, zq1, zq2, zq3, zq4, zq5, zq6, zq8, zq9, zq10, zq20, zq7, zq12, zq24, zq40, zq41, zq48, zq100, zq120, zq123, zq480, zq492, zq700, zq729, zq2187, zq2916, zq8748, ne_eq, Int.reduceEq, Int.reduceLT, Int.reduceLE, Int.reduceToNat, Int.reduceMul, Int.reduceAdd, Int.reduceNeg, gk0 hg, gr0_0 hg, gr0_2 hg, gr0_3 hg, gr0_4 hg, gr0_5 hg, gr0_6 hg, gr0_7 hg, gr0_8 hg, gr0_9 hg, gr0_10 hg, gk46 hg, gr46_0 hg, gr46_1 hg, gr46_2 hg, gr46_3 hg, gr46_4 hg, gr46_6 hg, gr46_7 hg, gr46_8 hg, gr46_9 hg, gr46_10 hg, gr46_11 hg, gr46_12 hg, gr46_13 hg, gk80 hg, gl80 hg, gr80_0 hg, gr80_1 hg, gr80_2 hg, gr80_3 hg, or_true, true_or, if_true, if_false, false_and, and_false, false_or, or_false, n4, b3', g8.1, g8.2.1, g8.2.2, ev]
  apply K
  intro c i q
  rw [sFr_out h3 hp.1 c i q, f1 c i (by omega) (by omega) (by omega) (by omega) (by omega) (by omega) (by omega) (by omega)]
end SG
