section BR16
variable {d : Nat} {Q : zQ} {G : zG} {h : zM} {T : aTn}
theorem c_bring16 (hg : gS G) {s : Nat} {f r : Int} (hs : s < 4) (hf : 0 ≤ f ∧ f ≤ 100) (hr : 0 ≤ r ∧ r ≤ f) : zRunD ztb zmt' (d + 1) 54 [zR (some 16), zI s, zI f, zI r] G h Q ↔ Q (some (zI (if h 32 s = r ∧ h 31 s = f - r then 0 else 1))) G (zu (zu h 32 s r) 31 s (f - r)) := by
  rw [r54]
  have s4 : (s : Int) < 4 := by omega
  have w : wr (f - r) = f - r := wr_id (by omega)
  by_cases c1 : h 32 s = r
  · by_cases c2 : h 31 s = f - r
    · rw [if_pos ⟨c1, c2⟩]
      simp only [e54_0, e54_1, e54_4, e54_5, e54_6, e54_7, e54_10, e54_11, e54_14, e54_15, e54_16, e54_17, e54_18, e54_19, e54_22, e54_23, e54_26, e54_27, e54_29, e54_30, e54_33, e54_34, e54_35, e54_36, e54_37, e54_40, e54_41, e54_42, e54_43, e54_44, e54_45, e54_47, zs0, zsI, zsL, zsR, ztl1, ztl0, zc0, zcI, zcL, zcR, true_and, and_true, true_implies, false_implies, implies_true, not_true_eq_false, not_false_eq_true, and_self, Int.toNat_natCast, Nat.reduceAdd, Nat.reduceLeDiff, Nat.reduceLT, forall_eq', Option.some.injEq, zarR, zarI, zarL, zle, zq0, zq1, zq2, zq3, zq4, zq5, zq6, zq8, zq9, zq10, zq20, zq7, zq12, zq24, zq40, zq41, zq48, zq100, zq120, zq123, zq480, zq492, zq700, zq729, zq2187, zq2916, zq8748, ne_eq, Int.reduceEq, Int.reduceLT, Int.reduceLE, Int.reduceToNat, Int.reduceMul, Int.reduceAdd, Int.reduceNeg, gk16 hg, gr16_0 hg, gr16_1 hg, gr16_2 hg, gr16_3 hg, gr16_4 hg, gr16_5 hg, gr16_6 hg, gr16_7 hg, gr16_8 hg, gk31 hg, gl31 hg, gk32 hg, gl32 hg, or_true, true_or, if_true, if_false, false_and, and_false, false_or, or_false, s4, w, c1, c2]
    · rw [if_neg (fun q => c2 q.2)]
      simp only [e54_0, e54_1, e54_4, e54_5, e54_6, e54_7, e54_10, e54_11, e54_14, e54_15, e54_16, e54_17, e54_18, e54_19, e54_22, e54_23, e54_26, e54_27, e54_29, e54_30, e54_33, e54_34, e54_35, e54_36, e54_37, e54_40, e54_41, e54_42, e54_43, e54_44, e54_45, e54_47, zs0, zsI, zsL, zsR, ztl1, ztl0, zc0, zcI, zcL, zcR, true_and, and_true, true_implies, false_implies, implies_true, not_true_eq_false, not_false_eq_true, and_self, Int.toNat_natCast, Nat.reduceAdd, Nat.reduceLeDiff, Nat.reduceLT, forall_eq', Option.some.injEq, zarR, zarI, zarL, zle, zq0, zq1, zq2, zq3, zq4, zq5, zq6, zq8, zq9, zq10, zq20, zq7, zq12, zq24, zq40, zq41, zq48, zq100, zq120, zq123, zq480, zq492, zq700, zq729, zq2187, zq2916, zq8748, ne_eq, Int.reduceEq, Int.reduceLT, Int.reduceLE, Int.reduceToNat, Int.reduceMul, Int.reduceAdd, Int.reduceNeg, gk16 hg, gr16_0 hg, gr16_1 hg, gr16_2 hg, gr16_3 hg, gr16_4 hg, gr16_5 hg, gr16_6 hg, gr16_7 hg, gr16_8 hg, gk31 hg, gl31 hg, gk32 hg, gl32 hg, or_true, true_or, if_true, if_false, false_and, and_false, false_or, or_false, s4, w, c1, c2]
  · rw [if_neg (fun q => c1 q.1)]
    simp only [e54_0, e54_1, e54_4, e54_5, e54_6, e54_7, e54_10, e54_11, e54_14, e54_15, e54_16, e54_17, e54_18, e54_19, e54_22, e54_23, e54_26, e54_27, e54_29, e54_30, e54_33, e54_34, e54_35, e54_36, e54_37, e54_40, e54_41, e54_42, e54_43, e54_44, e54_45, e54_47, zs0, zsI, zsL, zsR, ztl1, ztl0, zc0, zcI, zcL, zcR, true_and, and_true, true_implies, false_implies, implies_true, not_true_eq_false, not_false_eq_true, and_self, Int.toNat_natCast, Nat.reduceAdd, Nat.reduceLeDiff, Nat.reduceLT, forall_eq', Option.some.injEq, zarR, zarI, zarL, zle, zq0, zq1, zq2, zq3, zq4, zq5, zq6, zq8, zq9, zq10, zq20, zq7, zq12, zq24, zq40, zq41, zq48, zq100, zq120, zq123, zq480, zq492, zq700, zq729, zq2187, zq2916, zq8748, ne_eq, Int.reduceEq, Int.reduceLT, Int.reduceLE, Int.reduceToNat, Int.reduceMul, Int.reduceAdd, Int.reduceNeg, gk16 hg, gr16_0 hg, gr16_1 hg, gr16_2 hg, gr16_3 hg, gr16_4 hg, gr16_5 hg, gr16_6 hg, gr16_7 hg, gr16_8 hg, gk31 hg, gl31 hg, gk32 hg, gl32 hg, or_true, true_or, if_true, if_false, false_and, and_false, false_or, or_false, s4, w, c1]
theorem c_asTold16 (hg : gS G) (kt : kT h 18 T) (hw : wT T) (K : ∀ h' : zM, (∀ c i, ¬ c = 31 → ¬ c = 32 → h' c i = h c i) → (∀ s, s < nS T → h' 31 s = tr T 3 s - (if tr T 7 s = 1 then tr T 3 s else 0)) → (∀ s, s < nS T → h' 32 s = (if tr T 7 s = 1 then tr T 3 s else 0)) → Q none G h') : zRunD ztb zmt' (d + 2) 53 [zR (some 16)] G h Q := by
  rw [r53]
  have hs4 := hw.2.1
  have lp : ∀ j s (hh : zM), s + j = nS T → (∀ c i, ¬ c = 31 → ¬ c = 32 → hh c i = h c i) → (∀ i, i < s → hh 31 i = tr T 3 i - (if tr T 7 i = 1 then tr T 3 i else 0)) → (∀ i, i < s → hh 32 i = (if tr T 7 i = 1 then tr T 3 i else 0)) → zE 53 (d + 1) Q 2 [some (zR (some 16)), some (zI s)] [] G hh (0, 0) := by
    intro j
    induction j with
    | zero =>
      intro s hh hs f m1 m2
      have hs' : s = nS T := by omega
      have e1 : hh 18 10 = (nS T : Int) := by rw [f _ _ (by omega) (by omega)]; exact kt.2.1
      subst hs'
      rw [e53_2]
      simp only [e53_0, e53_1, e53_3, e53_4, e53_7, e53_10, e53_13, e53_14, e53_15, e53_16, e53_19, e53_22, e53_23, e53_24, e53_25, e53_28, e53_31, e53_32, e53_33, e53_34, e53_37, e53_38, e53_41, e53_44, e53_45, e53_46, e53_49, e53_50, e53_53, e53_54, e53_57, e53_60, zs0, zsI, zsL, zsR, ztl1, ztl0, zc0, zcI, zcL, zcR, true_and, and_true, true_implies, false_implies, implies_true, not_true_eq_false, not_false_eq_true, and_self, Int.toNat_natCast, Nat.reduceAdd, Nat.reduceLeDiff, Nat.reduceLT, forall_eq', Option.some.injEq, zarR, zarI, zarL, zle, zq0, zq1, zq2, zq3, zq4, zq5, zq6, zq8, zq9, zq10, zq20, zq7, zq12, zq24, zq40, zq41, zq48, zq100, zq120, zq123, zq480, zq492, zq700, zq729, zq2187, zq2916, zq8748, ne_eq, Int.reduceEq, Int.reduceLT, Int.reduceLE, Int.reduceToNat, Int.reduceMul, Int.reduceAdd, Int.reduceNeg, gk16 hg, gr16_0 hg, gr16_1 hg, gr16_2 hg, gr16_3 hg, gr16_4 hg, gr16_5 hg, gr16_6 hg, gr16_7 hg, gr16_8 hg, gk18 hg, gr18_0 hg, gr18_1 hg, gr18_2 hg, gr18_3 hg, gr18_4 hg, gr18_5 hg, gr18_6 hg, gr18_7 hg, gr18_8 hg, or_true, true_or, if_true, if_false, false_and, and_false, false_or, or_false, e1, Int.le_refl]
      exact K hh f m1 m2
    | succ j ih =>
      intro s hh hs f m1 m2
      have e1 : hh 18 10 = (nS T : Int) := by rw [f _ _ (by omega) (by omega)]; exact kt.2.1
      have c : ¬ (nS T : Int) ≤ s := by omega
      have s4 : (s : Int) < 4 := by omega
      have b3 := (hw.2.2.2.2.2 s).2.2.2.1
      have b7 := (hw.2.2.2.2.2 s).2.2.2.2.2.2.2.1
      have e3 : hh 22 s = tr T 3 s := by rw [f _ _ (by omega) (by omega)]; exact kt.2.2.2.2.2.2.2.2.1 s (by omega)
      have e7 : hh 26 s = tr T 7 s := by rw [f _ _ (by omega) (by omega)]; exact kt.2.2.2.2.2.2.2.2.2.2.2.2.1 s (by omega)
      have nxt : ∀ r : Int, r = (if tr T 7 s = 1 then tr T 3 s else 0) → zE 53 (d + 1) Q 2 [some (zR (some 16)), some (zI ((s + 1 : Nat) : Int))] [] G (zu (zu hh 32 s r) 31 s (tr T 3 s - r)) (0, 0) := by
        intro r hr
        apply ih (s + 1) _ (by omega)
        · intro c i q1 q2
          rw [zu_c q1, zu_c q2]
          exact f c i q1 q2
        · intro i hi
          by_cases q : i = s
          · subst q
            rw [zu_at, hr]
          · rw [zu_i (by omega), zu_c (by decide)]
            exact m1 i (by omega)
        · intro i hi
          rw [zu_c (by decide)]
          by_cases q : i = s
          · subst q
            rw [zu_at, hr]
          · rw [zu_i (by omega)]
            exact m2 i (by omega)
      rw [e53_2]
      rcases b7 with b7 | b7
      · have cb := fun Q' => c_bring16 (d := d) (Q := Q') (h := hh) hg (s := s) (f := tr T 3 s) (r := 0) (by omega) (by omega) (by omega)
        rw [b7] at e7
        simp only [e53_0, e53_1, e53_3, e53_4, e53_7, e53_10, e53_13, e53_14, e53_15, e53_16, e53_19, e53_22, e53_23, e53_24, e53_25, e53_28, e53_31, e53_32, e53_33, e53_34, e53_37, e53_38, e53_41, e53_44, e53_45, e53_46, e53_49, e53_50, e53_53, e53_54, e53_57, e53_60, zs0, zsI, zsL, zsR, ztl1, ztl0, zc0, zcI, zcL, zcR, true_and, and_true, true_implies, false_implies, implies_true, not_true_eq_false, not_false_eq_true, and_self, Int.toNat_natCast, Nat.reduceAdd, Nat.reduceLeDiff, Nat.reduceLT, forall_eq', Option.some.injEq, zarR, zarI, zarL, zle, zq0, zq1, zq2, zq3, zq4, zq5, zq6, zq8, zq9, zq10, zq20, zq7, zq12, zq24, zq40, zq41, zq48, zq100, zq120, zq123, zq480, zq492, zq700, zq729, zq2187, zq2916, zq8748, ne_eq, Int.reduceEq, Int.reduceLT, Int.reduceLE, Int.reduceToNat, Int.reduceMul, Int.reduceAdd, Int.reduceNeg, gk16 hg, gr16_0 hg, gr16_1 hg, gr16_2 hg, gr16_3 hg, gr16_4 hg, gr16_5 hg, gr16_6 hg, gr16_7 hg, gr16_8 hg, gk18 hg, gr18_0 hg, gr18_1 hg, gr18_2 hg, gr18_3 hg, gr18_4 hg, gr18_5 hg, gr18_6 hg, gr18_7 hg, gr18_8 hg, gk22 hg, gl22 hg, gk26 hg, gl26 hg, or_true, true_or, if_true, if_false, false_and, and_false, false_or, or_false, e1, c, s4, e3, e7, cb, wr_s (show s < 2147483647 by omega)]
        exact nxt 0 (by rw [b7]; rfl)
      · have cb := fun Q' => c_bring16 (d := d) (Q := Q') (h := hh) hg (s := s) (f := tr T 3 s) (r := tr T 3 s) (by omega) (by omega) (by omega)
        rw [b7] at e7
        simp only [e53_0, e53_1, e53_3, e53_4, e53_7, e53_10, e53_13, e53_14, e53_15, e53_16, e53_19, e53_22, e53_23, e53_24, e53_25, e53_28, e53_31, e53_32, e53_33, e53_34, e53_37, e53_38, e53_41, e53_44, e53_45, e53_46, e53_49, e53_50, e53_53, e53_54, e53_57, e53_60, zs0, zsI, zsL, zsR, ztl1, ztl0, zc0, zcI, zcL, zcR, true_and, and_true, true_implies, false_implies, implies_true, not_true_eq_false, not_false_eq_true, and_self, Int.toNat_natCast, Nat.reduceAdd, Nat.reduceLeDiff, Nat.reduceLT, forall_eq', Option.some.injEq, zarR, zarI, zarL, zle, zq0, zq1, zq2, zq3, zq4, zq5, zq6, zq8, zq9, zq10, zq20, zq7, zq12, zq24, zq40, zq41, zq48, zq100, zq120, zq123, zq480, zq492, zq700, zq729, zq2187, zq2916, zq8748, ne_eq, Int.reduceEq, Int.reduceLT, Int.reduceLE, Int.reduceToNat, Int.reduceMul, Int.reduceAdd, Int.reduceNeg, gk16 hg, gr16_0 hg, gr16_1 hg, gr16_2 hg, gr16_3 hg, gr16_4 hg, gr16_5 hg, gr16_6 hg, gr16_7 hg, gr16_8 hg, gk18 hg, gr18_0 hg, gr18_1 hg, gr18_2 hg, gr18_3 hg, gr18_4 hg, gr18_5 hg, gr18_6 hg, gr18_7 hg, gr18_8 hg, gk22 hg, gl22 hg, gk26 hg, gl26 hg, or_true, true_or, if_true, if_false, false_and, and_false, false_or, or_false, e1, c, s4, e3, e7, cb, wr_s (show s < 2147483647 by omega)]
        exact nxt (tr T 3 s) (by rw [b7, if_pos rfl])
  simp only [e53_0, e53_1, e53_3, e53_4, e53_7, e53_10, e53_13, e53_14, e53_15, e53_16, e53_19, e53_22, e53_23, e53_24, e53_25, e53_28, e53_31, e53_32, e53_33, e53_34, e53_37, e53_38, e53_41, e53_44, e53_45, e53_46, e53_49, e53_50, e53_53, e53_54, e53_57, e53_60, zs0, zsI, zsL, zsR, ztl1, ztl0, zc0, zcI, zcL, zcR, true_and, and_true, true_implies, false_implies, implies_true, not_true_eq_false, not_false_eq_true, and_self, Int.toNat_natCast, Nat.reduceAdd, Nat.reduceLeDiff, Nat.reduceLT, forall_eq', Option.some.injEq, zarR, zarI, zarL, zle, zq0, zq1, zq2, zq3, zq4, zq5, zq6, zq8, zq9, zq10, zq20, zq7, zq12, zq24, zq40, zq41, zq48, zq100, zq120, zq123, zq480, zq492, zq700, zq729, zq2187, zq2916, zq8748, ne_eq, Int.reduceEq, Int.reduceLT, Int.reduceLE, Int.reduceToNat, Int.reduceMul, Int.reduceAdd, Int.reduceNeg, or_true, true_or, if_true, if_false, false_and, and_false, false_or, or_false]
  exact lp (nS T) 0 h (by omega) (fun _ _ _ _ => rfl) (fun i hi => by omega) (fun i hi => by omega)
end BR16
section BR47
variable {d : Nat} {Q : zQ} {G : zG} {h : zM} {T : aTn}
theorem c_bring47 (hg : gS G) {s : Nat} {f r : Int} (hs : s < 4) (hf : 0 ≤ f ∧ f ≤ 100) (hr : 0 ≤ r ∧ r ≤ f) : zRunD ztb zmt' (d + 1) 54 [zR (some 47), zI s, zI f, zI r] G h Q ↔ Q (some (zI (if h 63 s = r ∧ h 62 s = f - r then 0 else 1))) G (zu (zu h 63 s r) 62 s (f - r)) := by
  rw [r54]
  have s4 : (s : Int) < 4 := by omega
  have w : wr (f - r) = f - r := wr_id (by omega)
  by_cases c1 : h 63 s = r
  · by_cases c2 : h 62 s = f - r
    · rw [if_pos ⟨c1, c2⟩]
      simp only [e54_0, e54_1, e54_4, e54_5, e54_6, e54_7, e54_10, e54_11, e54_14, e54_15, e54_16, e54_17, e54_18, e54_19, e54_22, e54_23, e54_26, e54_27, e54_29, e54_30, e54_33, e54_34, e54_35, e54_36, e54_37, e54_40, e54_41, e54_42, e54_43, e54_44, e54_45, e54_47, zs0, zsI, zsL, zsR, ztl1, ztl0, zc0, zcI, zcL, zcR, true_and, and_true, true_implies, false_implies, implies_true, not_true_eq_false, not_false_eq_true, and_self, Int.toNat_natCast, Nat.reduceAdd, Nat.reduceLeDiff, Nat.reduceLT, forall_eq', Option.some.injEq, zarR, zarI, zarL, zle, zq0, zq1, zq2, zq3, zq4, zq5, zq6, zq8, zq9, zq10, zq20, zq7, zq12, zq24, zq40, zq41, zq48, zq100, zq120, zq123, zq480, zq492, zq700, zq729, zq2187, zq2916, zq8748, ne_eq, Int.reduceEq, Int.reduceLT, Int.reduceLE, Int.reduceToNat, Int.reduceMul, Int.reduceAdd, Int.reduceNeg, gk47 hg, gr47_0 hg, gr47_1 hg, gr47_2 hg, gr47_3 hg, gr47_4 hg, gr47_5 hg, gr47_6 hg, gr47_7 hg, gr47_8 hg, gk62 hg, gl62 hg, gk63 hg, gl63 hg, or_true, true_or, if_true, if_false, false_and, and_false, false_or, or_false, s4, w, c1, c2]
    · rw [if_neg (fun q => c2 q.2)]
      simp only [e54_0, e54_1, e54_4, e54_5, e54_6, e54_7, e54_10, e54_11, e54_14, e54_15, e54_16, e54_17, e54_18, e54_19, e54_22, e54_23, e54_26, e54_27, e54_29, e54_30, e54_33, e54_34, e54_35, e54_36, e54_37, e54_40, e54_41, e54_42, e54_43, e54_44, e54_45, e54_47, zs0, zsI, zsL, zsR, ztl1, ztl0, zc0, zcI, zcL, zcR, true_and, and_true, true_implies, false_implies, implies_true, not_true_eq_false, not_false_eq_true, and_self, Int.toNat_natCast, Nat.reduceAdd, Nat.reduceLeDiff, Nat.reduceLT, forall_eq', Option.some.injEq, zarR, zarI, zarL, zle, zq0, zq1, zq2, zq3, zq4, zq5, zq6, zq8, zq9, zq10, zq20, zq7, zq12, zq24, zq40, zq41, zq48, zq100, zq120, zq123, zq480, zq492, zq700, zq729, zq2187, zq2916, zq8748, ne_eq, Int.reduceEq, Int.reduceLT, Int.reduceLE, Int.reduceToNat, Int.reduceMul, Int.reduceAdd, Int.reduceNeg, gk47 hg, gr47_0 hg, gr47_1 hg, gr47_2 hg, gr47_3 hg, gr47_4 hg, gr47_5 hg, gr47_6 hg, gr47_7 hg, gr47_8 hg, gk62 hg, gl62 hg, gk63 hg, gl63 hg, or_true, true_or, if_true, if_false, false_and, and_false, false_or, or_false, s4, w, c1, c2]
  · rw [if_neg (fun q => c1 q.1)]
    simp only [e54_0, e54_1, e54_4, e54_5, e54_6, e54_7, e54_10, e54_11, e54_14, e54_15, e54_16, e54_17, e54_18, e54_19, e54_22, e54_23, e54_26, e54_27, e54_29, e54_30, e54_33, e54_34, e54_35, e54_36, e54_37, e54_40, e54_41, e54_42, e54_43, e54_44, e54_45, e54_47, zs0, zsI, zsL, zsR, ztl1, ztl0, zc0, zcI, zcL, zcR, true_and, and_true, true_implies, false_implies, implies_true, not_true_eq_false, not_false_eq_true, and_self, Int.toNat_natCast, Nat.reduceAdd, Nat.reduceLeDiff, Nat.reduceLT, forall_eq', Option.some.injEq, zarR, zarI, zarL, zle, zq0, zq1, zq2, zq3, zq4, zq5, zq6, zq8, zq9, zq10, zq20, zq7, zq12, zq24, zq40, zq41, zq48, zq100, zq120, zq123, zq480, zq492, zq700, zq729, zq2187, zq2916, zq8748, ne_eq, Int.reduceEq, Int.reduceLT, Int.reduceLE, Int.reduceToNat, Int.reduceMul, Int.reduceAdd, Int.reduceNeg, gk47 hg, gr47_0 hg, gr47_1 hg, gr47_2 hg, gr47_3 hg, gr47_4 hg, gr47_5 hg, gr47_6 hg, gr47_7 hg, gr47_8 hg, gk62 hg, gl62 hg, gk63 hg, gl63 hg, or_true, true_or, if_true, if_false, false_and, and_false, false_or, or_false, s4, w, c1]
theorem c_asTold47 (hg : gS G) (kt : kT h 49 T) (hw : wT T) (K : ∀ h' : zM, (∀ c i, ¬ c = 62 → ¬ c = 63 → h' c i = h c i) → (∀ s, s < nS T → h' 62 s = tr T 3 s - (if tr T 7 s = 1 then tr T 3 s else 0)) → (∀ s, s < nS T → h' 63 s = (if tr T 7 s = 1 then tr T 3 s else 0)) → Q none G h') : zRunD ztb zmt' (d + 2) 53 [zR (some 47)] G h Q := by
  rw [r53]
  have hs4 := hw.2.1
  have lp : ∀ j s (hh : zM), s + j = nS T → (∀ c i, ¬ c = 62 → ¬ c = 63 → hh c i = h c i) → (∀ i, i < s → hh 62 i = tr T 3 i - (if tr T 7 i = 1 then tr T 3 i else 0)) → (∀ i, i < s → hh 63 i = (if tr T 7 i = 1 then tr T 3 i else 0)) → zE 53 (d + 1) Q 2 [some (zR (some 47)), some (zI s)] [] G hh (0, 0) := by
    intro j
    induction j with
    | zero =>
      intro s hh hs f m1 m2
      have hs' : s = nS T := by omega
      have e1 : hh 49 10 = (nS T : Int) := by rw [f _ _ (by omega) (by omega)]; exact kt.2.1
      subst hs'
      rw [e53_2]
      simp only [e53_0, e53_1, e53_3, e53_4, e53_7, e53_10, e53_13, e53_14, e53_15, e53_16, e53_19, e53_22, e53_23, e53_24, e53_25, e53_28, e53_31, e53_32, e53_33, e53_34, e53_37, e53_38, e53_41, e53_44, e53_45, e53_46, e53_49, e53_50, e53_53, e53_54, e53_57, e53_60, zs0, zsI, zsL, zsR, ztl1, ztl0, zc0, zcI, zcL, zcR, true_and, and_true, true_implies, false_implies, implies_true, not_true_eq_false, not_false_eq_true, and_self, Int.toNat_natCast, Nat.reduceAdd, Nat.reduceLeDiff, Nat.reduceLT, forall_eq', Option.some.injEq, zarR, zarI, zarL, zle, zq0, zq1, zq2, zq3, zq4, zq5, zq6, zq8, zq9, zq10, zq20, zq7, zq12, zq24, zq40, zq41, zq48, zq100, zq120, zq123, zq480, zq492, zq700, zq729, zq2187, zq2916, zq8748, ne_eq, Int.reduceEq, Int.reduceLT, Int.reduceLE, Int.reduceToNat, Int.reduceMul, Int.reduceAdd, Int.reduceNeg, gk47 hg, gr47_0 hg, gr47_1 hg, gr47_2 hg, gr47_3 hg, gr47_4 hg, gr47_5 hg, gr47_6 hg, gr47_7 hg, gr47_8 hg, gk49 hg, gr49_0 hg, gr49_1 hg, gr49_2 hg, gr49_3 hg, gr49_4 hg, gr49_5 hg, gr49_6 hg, gr49_7 hg, gr49_8 hg, or_true, true_or, if_true, if_false, false_and, and_false, false_or, or_false, e1, Int.le_refl]
      exact K hh f m1 m2
    | succ j ih =>
      intro s hh hs f m1 m2
      have e1 : hh 49 10 = (nS T : Int) := by rw [f _ _ (by omega) (by omega)]; exact kt.2.1
      have c : ¬ (nS T : Int) ≤ s := by omega
      have s4 : (s : Int) < 4 := by omega
      have b3 := (hw.2.2.2.2.2 s).2.2.2.1
      have b7 := (hw.2.2.2.2.2 s).2.2.2.2.2.2.2.1
      have e3 : hh 53 s = tr T 3 s := by rw [f _ _ (by omega) (by omega)]; exact kt.2.2.2.2.2.2.2.2.1 s (by omega)
      have e7 : hh 57 s = tr T 7 s := by rw [f _ _ (by omega) (by omega)]; exact kt.2.2.2.2.2.2.2.2.2.2.2.2.1 s (by omega)
      have nxt : ∀ r : Int, r = (if tr T 7 s = 1 then tr T 3 s else 0) → zE 53 (d + 1) Q 2 [some (zR (some 47)), some (zI ((s + 1 : Nat) : Int))] [] G (zu (zu hh 63 s r) 62 s (tr T 3 s - r)) (0, 0) := by
        intro r hr
        apply ih (s + 1) _ (by omega)
        · intro c i q1 q2
          rw [zu_c q1, zu_c q2]
          exact f c i q1 q2
        · intro i hi
          by_cases q : i = s
          · subst q
            rw [zu_at, hr]
          · rw [zu_i (by omega), zu_c (by decide)]
            exact m1 i (by omega)
        · intro i hi
          rw [zu_c (by decide)]
          by_cases q : i = s
          · subst q
            rw [zu_at, hr]
          · rw [zu_i (by omega)]
            exact m2 i (by omega)
      rw [e53_2]
      rcases b7 with b7 | b7
      · have cb := fun Q' => c_bring47 (d := d) (Q := Q') (h := hh) hg (s := s) (f := tr T 3 s) (r := 0) (by omega) (by omega) (by omega)
        rw [b7] at e7
        simp only [e53_0, e53_1, e53_3, e53_4, e53_7, e53_10, e53_13, e53_14, e53_15, e53_16, e53_19, e53_22, e53_23, e53_24, e53_25, e53_28, e53_31, e53_32, e53_33, e53_34, e53_37, e53_38, e53_41, e53_44, e53_45, e53_46, e53_49, e53_50, e53_53, e53_54, e53_57, e53_60, zs0, zsI, zsL, zsR, ztl1, ztl0, zc0, zcI, zcL, zcR, true_and, and_true, true_implies, false_implies, implies_true, not_true_eq_false, not_false_eq_true, and_self, Int.toNat_natCast, Nat.reduceAdd, Nat.reduceLeDiff, Nat.reduceLT, forall_eq', Option.some.injEq, zarR, zarI, zarL, zle, zq0, zq1, zq2, zq3, zq4, zq5, zq6, zq8, zq9, zq10, zq20, zq7, zq12, zq24, zq40, zq41, zq48, zq100, zq120, zq123, zq480, zq492, zq700, zq729, zq2187, zq2916, zq8748, ne_eq, Int.reduceEq, Int.reduceLT, Int.reduceLE, Int.reduceToNat, Int.reduceMul, Int.reduceAdd, Int.reduceNeg, gk47 hg, gr47_0 hg, gr47_1 hg, gr47_2 hg, gr47_3 hg, gr47_4 hg, gr47_5 hg, gr47_6 hg, gr47_7 hg, gr47_8 hg, gk49 hg, gr49_0 hg, gr49_1 hg, gr49_2 hg, gr49_3 hg, gr49_4 hg, gr49_5 hg, gr49_6 hg, gr49_7 hg, gr49_8 hg, gk53 hg, gl53 hg, gk57 hg, gl57 hg, or_true, true_or, if_true, if_false, false_and, and_false, false_or, or_false, e1, c, s4, e3, e7, cb, wr_s (show s < 2147483647 by omega)]
        exact nxt 0 (by rw [b7]; rfl)
      · have cb := fun Q' => c_bring47 (d := d) (Q := Q') (h := hh) hg (s := s) (f := tr T 3 s) (r := tr T 3 s) (by omega) (by omega) (by omega)
        rw [b7] at e7
        simp only [e53_0, e53_1, e53_3, e53_4, e53_7, e53_10, e53_13, e53_14, e53_15, e53_16, e53_19, e53_22, e53_23, e53_24, e53_25, e53_28, e53_31, e53_32, e53_33, e53_34, e53_37, e53_38, e53_41, e53_44, e53_45, e53_46, e53_49, e53_50, e53_53, e53_54, e53_57, e53_60, zs0, zsI, zsL, zsR, ztl1, ztl0, zc0, zcI, zcL, zcR, true_and, and_true, true_implies, false_implies, implies_true, not_true_eq_false, not_false_eq_true, and_self, Int.toNat_natCast, Nat.reduceAdd, Nat.reduceLeDiff, Nat.reduceLT, forall_eq', Option.some.injEq, zarR, zarI, zarL, zle, zq0, zq1, zq2, zq3, zq4, zq5, zq6, zq8, zq9, zq10, zq20, zq7, zq12, zq24, zq40, zq41, zq48, zq100, zq120, zq123, zq480, zq492, zq700, zq729, zq2187, zq2916, zq8748, ne_eq, Int.reduceEq, Int.reduceLT, Int.reduceLE, Int.reduceToNat, Int.reduceMul, Int.reduceAdd, Int.reduceNeg, gk47 hg, gr47_0 hg, gr47_1 hg, gr47_2 hg, gr47_3 hg, gr47_4 hg, gr47_5 hg, gr47_6 hg, gr47_7 hg, gr47_8 hg, gk49 hg, gr49_0 hg, gr49_1 hg, gr49_2 hg, gr49_3 hg, gr49_4 hg, gr49_5 hg, gr49_6 hg, gr49_7 hg, gr49_8 hg, gk53 hg, gl53 hg, gk57 hg, gl57 hg, or_true, true_or, if_true, if_false, false_and, and_false, false_or, or_false, e1, c, s4, e3, e7, cb, wr_s (show s < 2147483647 by omega)]
        exact nxt (tr T 3 s) (by rw [b7, if_pos rfl])
  simp only [e53_0, e53_1, e53_3, e53_4, e53_7, e53_10, e53_13, e53_14, e53_15, e53_16, e53_19, e53_22, e53_23, e53_24, e53_25, e53_28, e53_31, e53_32, e53_33, e53_34, e53_37, e53_38, e53_41, e53_44, e53_45, e53_46, e53_49, e53_50, e53_53, e53_54, e53_57, e53_60, zs0, zsI, zsL, zsR, ztl1, ztl0, zc0, zcI, zcL, zcR, true_and, and_true, true_implies, false_implies, implies_true, not_true_eq_false, not_false_eq_true, and_self, Int.toNat_natCast, Nat.reduceAdd, Nat.reduceLeDiff, Nat.reduceLT, forall_eq', Option.some.injEq, zarR, zarI, zarL, zle, zq0, zq1, zq2, zq3, zq4, zq5, zq6, zq8, zq9, zq10, zq20, zq7, zq12, zq24, zq40, zq41, zq48, zq100, zq120, zq123, zq480, zq492, zq700, zq729, zq2187, zq2916, zq8748, ne_eq, Int.reduceEq, Int.reduceLT, Int.reduceLE, Int.reduceToNat, Int.reduceMul, Int.reduceAdd, Int.reduceNeg, or_true, true_or, if_true, if_false, false_and, and_false, false_or, or_false]
  exact lp (nS T) 0 h (by omega) (fun _ _ _ _ => rfl) (fun i hi => by omega) (fun i hi => by omega)
end BR47
