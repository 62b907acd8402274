/-! the other side: its town lies at u, its object at 91 -/
abbrev gU (G : zG) (u : Nat) : Prop := 121 ≤ u ∧ G.2.2.2 91 3 = some u ∧ G.2.1 u = 8 ∧ G.2.2.2 u 6 = some (u + 1) ∧ G.2.2.2 u 7 = some (u + 2) ∧ G.2.2.2 u 8 = some (u + 3) ∧ G.2.2.2 u 9 = some (u + 4) ∧ G.2.2.2 u 10 = some (u + 5) ∧ G.2.2.2 u 11 = some (u + 6) ∧ G.2.2.2 u 12 = some (u + 7) ∧ G.2.2.2 u 13 = some (u + 8) ∧ G.2.2.2 u 14 = some (u + 9) ∧ G.2.2.2 u 15 = some (u + 10) ∧ G.2.1 (u + 1) = 10 ∧ G.2.1 (u + 2) = 10 ∧ G.2.1 (u + 3) = 10 ∧ G.2.1 (u + 4) = 10 ∧ G.2.1 (u + 5) = 10 ∧ G.2.1 (u + 6) = 10 ∧ G.2.1 (u + 7) = 10 ∧ G.2.1 (u + 8) = 10 ∧ G.2.1 (u + 9) = 13 ∧ G.2.1 (u + 10) = 11 ∧ G.2.2.1 (u + 1) = 3 ∧ G.2.2.1 (u + 2) = 3 ∧ G.2.2.1 (u + 3) = 3 ∧ G.2.2.1 (u + 4) = 3 ∧ G.2.2.1 (u + 5) = 4 ∧ G.2.2.1 (u + 6) = 4 ∧ G.2.2.1 (u + 7) = 4 ∧ G.2.2.1 (u + 8) = 4 ∧ G.2.2.1 (u + 9) = 4 ∧ G.2.2.1 (u + 10) = 7
def rLv (c v : Int) : Int := if c = 2 then 0 else if c = 1 then v / 2 else v
def rFar (c v : Int) : Int := if c = 1 then 1 else if c = 0 then v else 0
/-- the town as its law has it -/
def rV (h : zM) (u : Nat) (T : aTn) : Prop := h u 0 = (nB T : Int) ∧ h u 1 = (nS T : Int) ∧ h u 2 = (nP T : Int) ∧ h u 3 = kp T ∧ h 91 16 = tw T ∧ (∀ i, i < nB T → h (u + 1) i = tr T 0 i) ∧ (∀ i, i < nB T → h 93 i = tr T 1 i) ∧ (∀ i, i < nP T → h (u + 4) i = tr T 8 i) ∧ (∀ i, i < nS T → h (u + 5) i = tr T 3 i) ∧ (∀ i, i < nS T → h (u + 6) i = tr T 4 i) ∧ (∀ i, i < nS T → rLv (h 91 17) (h (u + 7) i) = tr T 5 i ∧ 0 ≤ h (u + 7) i ∧ h (u + 7) i ≤ 99) ∧ (∀ i, i < nS T → h (u + 8) i = tr T 6 i) ∧ (∀ i, i < nS T → (if h 91 19 = -1 then rFar (h 91 18) (h (u + 9) i) else 0) = tr T 7 i ∧ (h (u + 9) i = 0 ∨ h (u + 9) i = 1)) ∧ (h 91 17 = 0 ∨ h 91 17 = 1 ∨ h 91 17 = 2)
theorem rV_frame {h h' : zM} {u : Nat} {T : aTn} (hk : rV h u T) (h1 : ∀ c i, u ≤ c → h' c i = h c i) (h2 : ∀ i, h' 93 i = h 93 i) (h3 : ∀ i, 16 ≤ i → i ≤ 19 → h' 91 i = h 91 i) : rV h' u T := by
  unfold rV at hk ⊢
  simp only [h1 u _ (Nat.le_refl u), h1 (u + 1) _ (Nat.le_add_right u _), h1 (u + 4) _ (Nat.le_add_right u _), h1 (u + 5) _ (Nat.le_add_right u _), h1 (u + 6) _ (Nat.le_add_right u _), h1 (u + 7) _ (Nat.le_add_right u _), h1 (u + 8) _ (Nat.le_add_right u _), h1 (u + 9) _ (Nat.le_add_right u _), h2, h3 16 (by decide) (by decide), h3 17 (by decide) (by decide), h3 18 (by decide) (by decide), h3 19 (by decide) (by decide)]
  exact hk
def fI (f : Nat) : Int := if f = 3 then -1 else f
def tI (t : Nat) : Int := if t = 3 then -2 else t
theorem fI_lt {f : Nat} (h : f < 3) : (f : Int) = fI f := by
  unfold fI
  rw [if_neg (by omega)]
theorem tI_lt {f : Nat} (h : f < 3) : (f : Int) = tI f := by
  unfold tI
  rw [if_neg (by omega)]
def aLv (T : aTn) (s f t : Nat) : Int := if f = t ∨ f = 3 then 0 else if tr T 1 f = tr T 1 t then tr T 5 s / 2 else tr T 5 s
section RM
variable {d : Nat} {Q : zQ} {G : zG} {h : zM} {T : aTn} {own oth : Nat → Int} {s f t u : Nat} {far x z : Int}
theorem m_leaving (hg : gS G) (hu : gU G u) (hV : rV h u T) (hx : x = fI f) (hw : wT T) (hs : s < nS T) (hf : f < nB T ∨ f = 3) (ht : t < nB T) : zRunD ztb zmt' (d + 1) 145 [zR (some 91), zI x, zI s, zI t] G h Q ↔ Q (some (zI (aLv T s f t))) G h := by
  rw [r145]
  have hB := hw.1
  have hns := hw.2.1
  have s4 : (s : Int) < 4 := by omega
  have t3 : (t : Int) < 3 := by omega
  have e1 := hV.2.2.2.2.2.2.1 t ht
  obtain ⟨e2, e3, e4⟩ := hV.2.2.2.2.2.2.2.2.2.2.1 s hs
  have e5 := hV.2.2.2.2.2.2.2.2.2.2.2.2.2
  unfold aLv
  by_cases hf3 : f = 3
  · have hx' : x = -1 := by rw [hx]; unfold fI; rw [if_pos hf3]
    simp only [e145_0, e145_1, e145_2, e145_5, e145_6, e145_7, e145_10, e145_11, e145_14, e145_15, e145_18, e145_19, e145_20, e145_21, e145_24, e145_25, e145_28, e145_29, e145_32, e145_35, e145_36, e145_37, e145_38, e145_39, e145_42, e145_43, e145_46, e145_49, e145_50, e145_51, e145_53, e145_54, e145_57, e145_58, e145_59, e145_60, e145_63, e145_64, e145_65, e145_68, e145_70, e145_71, e145_72, e145_75, e145_77, zs0, zsI, zsL, zsR, ztl1, ztl0, zc0, zcI, zcL, zcR, true_and, and_true, true_implies, false_implies, implies_true, not_true_eq_false, not_false_eq_true, and_self, Int.toNat_natCast, Nat.reduceAdd, Nat.reduceLeDiff, Nat.reduceLT, forall_eq', Option.some.injEq, zarR, zarI, zarL, zle, zq0, zq1, zq2, zq3, zq4, zq5, zq6, zq8, zq9, zq10, zq20, zq7, zq12, zq24, zq40, zq41, zq48, zq100, zq120, zq123, zq480, zq492, zq700, zq729, zq2187, zq2916, zq8748, ne_eq, Int.reduceEq, Int.reduceLT, Int.reduceLE, Int.reduceToNat, Int.reduceMul, Int.reduceAdd, Int.reduceNeg, hx']
    rw [if_pos (Or.inr hf3)]
  · have hx' : x = (f : Int) := by rw [hx]; unfold fI; rw [if_neg hf3]
    subst hx'
    have c1 : ¬ (f : Int) = -1 := by omega
    by_cases hft : f = t
    · have c2 : (f : Int) = t := by omega
      rw [if_pos (Or.inl hft)]
      simp only [e145_0, e145_1, e145_2, e145_5, e145_6, e145_7, e145_10, e145_11, e145_14, e145_15, e145_18, e145_19, e145_20, e145_21, e145_24, e145_25, e145_28, e145_29, e145_32, e145_35, e145_36, e145_37, e145_38, e145_39, e145_42, e145_43, e145_46, e145_49, e145_50, e145_51, e145_53, e145_54, e145_57, e145_58, e145_59, e145_60, e145_63, e145_64, e145_65, e145_68, e145_70, e145_71, e145_72, e145_75, e145_77, zs0, zsI, zsL, zsR, ztl1, ztl0, zc0, zcI, zcL, zcR, true_and, and_true, true_implies, false_implies, implies_true, not_true_eq_false, not_false_eq_true, and_self, Int.toNat_natCast, Nat.reduceAdd, Nat.reduceLeDiff, Nat.reduceLT, forall_eq', Option.some.injEq, zarR, zarI, zarL, zle, zq0, zq1, zq2, zq3, zq4, zq5, zq6, zq8, zq9, zq10, zq20, zq7, zq12, zq24, zq40, zq41, zq48, zq100, zq120, zq123, zq480, zq492, zq700, zq729, zq2187, zq2916, zq8748, ne_eq, Int.reduceEq, Int.reduceLT, Int.reduceLE, Int.reduceToNat, Int.reduceMul, Int.reduceAdd, Int.reduceNeg, c1, c2]
      exact ⟨fun q => (q.2 (by omega)), fun q => ⟨fun _ => q, fun _ => q⟩⟩
    · have c2 : ¬ (f : Int) = t := by omega
      have f3 : (f : Int) < 3 := by omega
      rw [if_neg (by omega)]
      have e6 := hV.2.2.2.2.2.2.1 f (by omega)
      rcases e5 with e5 | e5 | e5
      · rw [e5, rLv, if_neg (by decide), if_neg (by decide)] at e2
        by_cases c3 : tr T 1 f = tr T 1 t
        · simp only [e145_0, e145_1, e145_2, e145_5, e145_6, e145_7, e145_10, e145_11, e145_14, e145_15, e145_18, e145_19, e145_20, e145_21, e145_24, e145_25, e145_28, e145_29, e145_32, e145_35, e145_36, e145_37, e145_38, e145_39, e145_42, e145_43, e145_46, e145_49, e145_50, e145_51, e145_53, e145_54, e145_57, e145_58, e145_59, e145_60, e145_63, e145_64, e145_65, e145_68, e145_70, e145_71, e145_72, e145_75, e145_77, zs0, zsI, zsL, zsR, ztl1, ztl0, zc0, zcI, zcL, zcR, true_and, and_true, true_implies, false_implies, implies_true, not_true_eq_false, not_false_eq_true, and_self, Int.toNat_natCast, Nat.reduceAdd, Nat.reduceLeDiff, Nat.reduceLT, forall_eq', Option.some.injEq, zarR, zarI, zarL, zle, zq0, zq1, zq2, zq3, zq4, zq5, zq6, zq8, zq9, zq10, zq20, zq7, zq12, zq24, zq40, zq41, zq48, zq100, zq120, zq123, zq480, zq492, zq700, zq729, zq2187, zq2916, zq8748, ne_eq, Int.reduceEq, Int.reduceLT, Int.reduceLE, Int.reduceToNat, Int.reduceMul, Int.reduceAdd, Int.reduceNeg, gk91 hg, gr91_5 hg, gr91_22 hg, gr91_23 hg, gr91_24 hg, gr91_25 hg, gr91_26 hg, gr91_27 hg, gr91_28 hg, gr91_29 hg, gr91_32 hg, gr91_33 hg, gr91_34 hg, gr91_35 hg, gr91_36 hg, gr91_37 hg, gr91_38 hg, gr91_39 hg, gr91_40 hg, gr91_41 hg, gr91_42 hg, gr91_44 hg, gr91_45 hg, gr91_46 hg, gr91_48 hg, gr91_49 hg, gr91_50 hg, gr91_51 hg, gr91_52 hg, gk93 hg, gl93 hg, hu, s4, t3, f3, c1, c2, e1, e2, e5, e6, c3, if_true]
          rw [Int.tdiv_eq_ediv_of_nonneg (by omega), wr_id (by omega)]
        · simp only [e145_0, e145_1, e145_2, e145_5, e145_6, e145_7, e145_10, e145_11, e145_14, e145_15, e145_18, e145_19, e145_20, e145_21, e145_24, e145_25, e145_28, e145_29, e145_32, e145_35, e145_36, e145_37, e145_38, e145_39, e145_42, e145_43, e145_46, e145_49, e145_50, e145_51, e145_53, e145_54, e145_57, e145_58, e145_59, e145_60, e145_63, e145_64, e145_65, e145_68, e145_70, e145_71, e145_72, e145_75, e145_77, zs0, zsI, zsL, zsR, ztl1, ztl0, zc0, zcI, zcL, zcR, true_and, and_true, true_implies, false_implies, implies_true, not_true_eq_false, not_false_eq_true, and_self, Int.toNat_natCast, Nat.reduceAdd, Nat.reduceLeDiff, Nat.reduceLT, forall_eq', Option.some.injEq, zarR, zarI, zarL, zle, zq0, zq1, zq2, zq3, zq4, zq5, zq6, zq8, zq9, zq10, zq20, zq7, zq12, zq24, zq40, zq41, zq48, zq100, zq120, zq123, zq480, zq492, zq700, zq729, zq2187, zq2916, zq8748, ne_eq, Int.reduceEq, Int.reduceLT, Int.reduceLE, Int.reduceToNat, Int.reduceMul, Int.reduceAdd, Int.reduceNeg, gk91 hg, gr91_5 hg, gr91_22 hg, gr91_23 hg, gr91_24 hg, gr91_25 hg, gr91_26 hg, gr91_27 hg, gr91_28 hg, gr91_29 hg, gr91_32 hg, gr91_33 hg, gr91_34 hg, gr91_35 hg, gr91_36 hg, gr91_37 hg, gr91_38 hg, gr91_39 hg, gr91_40 hg, gr91_41 hg, gr91_42 hg, gr91_44 hg, gr91_45 hg, gr91_46 hg, gr91_48 hg, gr91_49 hg, gr91_50 hg, gr91_51 hg, gr91_52 hg, gk93 hg, gl93 hg, hu, s4, t3, f3, c1, c2, e1, e2, e5, e6, c3, if_false]
      · rw [e5, rLv, if_neg (by decide), if_pos rfl] at e2
        have e7 : wr ((h (u + 7) s).tdiv 2) = tr T 5 s := by
          rw [Int.tdiv_eq_ediv_of_nonneg (by omega), wr_id (by omega), e2]
        have e8 : 0 ≤ tr T 5 s ∧ tr T 5 s ≤ 99 := by omega
        by_cases c3 : tr T 1 f = tr T 1 t
        · simp only [e145_0, e145_1, e145_2, e145_5, e145_6, e145_7, e145_10, e145_11, e145_14, e145_15, e145_18, e145_19, e145_20, e145_21, e145_24, e145_25, e145_28, e145_29, e145_32, e145_35, e145_36, e145_37, e145_38, e145_39, e145_42, e145_43, e145_46, e145_49, e145_50, e145_51, e145_53, e145_54, e145_57, e145_58, e145_59, e145_60, e145_63, e145_64, e145_65, e145_68, e145_70, e145_71, e145_72, e145_75, e145_77, zs0, zsI, zsL, zsR, ztl1, ztl0, zc0, zcI, zcL, zcR, true_and, and_true, true_implies, false_implies, implies_true, not_true_eq_false, not_false_eq_true, and_self, Int.toNat_natCast, Nat.reduceAdd, Nat.reduceLeDiff, Nat.reduceLT, forall_eq', Option.some.injEq, zarR, zarI, zarL, zle, zq0, zq1, zq2, zq3, zq4, zq5, zq6, zq8, zq9, zq10, zq20, zq7, zq12, zq24, zq40, zq41, zq48, zq100, zq120, zq123, zq480, zq492, zq700, zq729, zq2187, zq2916, zq8748, ne_eq, Int.reduceEq, Int.reduceLT, Int.reduceLE, Int.reduceToNat, Int.reduceMul, Int.reduceAdd, Int.reduceNeg, gk91 hg, gr91_5 hg, gr91_22 hg, gr91_23 hg, gr91_24 hg, gr91_25 hg, gr91_26 hg, gr91_27 hg, gr91_28 hg, gr91_29 hg, gr91_32 hg, gr91_33 hg, gr91_34 hg, gr91_35 hg, gr91_36 hg, gr91_37 hg, gr91_38 hg, gr91_39 hg, gr91_40 hg, gr91_41 hg, gr91_42 hg, gr91_44 hg, gr91_45 hg, gr91_46 hg, gr91_48 hg, gr91_49 hg, gr91_50 hg, gr91_51 hg, gr91_52 hg, gk93 hg, gl93 hg, hu, s4, t3, f3, c1, c2, e1, e7, e5, e6, c3, if_true]
          clear e7
          rw [Int.tdiv_eq_ediv_of_nonneg (by omega), wr_id (by omega)]
        · simp only [e145_0, e145_1, e145_2, e145_5, e145_6, e145_7, e145_10, e145_11, e145_14, e145_15, e145_18, e145_19, e145_20, e145_21, e145_24, e145_25, e145_28, e145_29, e145_32, e145_35, e145_36, e145_37, e145_38, e145_39, e145_42, e145_43, e145_46, e145_49, e145_50, e145_51, e145_53, e145_54, e145_57, e145_58, e145_59, e145_60, e145_63, e145_64, e145_65, e145_68, e145_70, e145_71, e145_72, e145_75, e145_77, zs0, zsI, zsL, zsR, ztl1, ztl0, zc0, zcI, zcL, zcR, true_and, and_true, true_implies, false_implies, implies_true, not_true_eq_false, not_false_eq_true, and_self, Int.toNat_natCast, Nat.reduceAdd, Nat.reduceLeDiff, Nat.reduceLT, forall_eq', Option.some.injEq, zarR, zarI, zarL, zle, zq0, zq1, zq2, zq3, zq4, zq5, zq6, zq8, zq9, zq10, zq20, zq7, zq12, zq24, zq40, zq41, zq48, zq100, zq120, zq123, zq480, zq492, zq700, zq729, zq2187, zq2916, zq8748, ne_eq, Int.reduceEq, Int.reduceLT, Int.reduceLE, Int.reduceToNat, Int.reduceMul, Int.reduceAdd, Int.reduceNeg, gk91 hg, gr91_5 hg, gr91_22 hg, gr91_23 hg, gr91_24 hg, gr91_25 hg, gr91_26 hg, gr91_27 hg, gr91_28 hg, gr91_29 hg, gr91_32 hg, gr91_33 hg, gr91_34 hg, gr91_35 hg, gr91_36 hg, gr91_37 hg, gr91_38 hg, gr91_39 hg, gr91_40 hg, gr91_41 hg, gr91_42 hg, gr91_44 hg, gr91_45 hg, gr91_46 hg, gr91_48 hg, gr91_49 hg, gr91_50 hg, gr91_51 hg, gr91_52 hg, gk93 hg, gl93 hg, hu, s4, t3, f3, c1, c2, e1, e7, e5, e6, c3, if_false]
      · rw [e5, rLv, if_pos rfl] at e2
        simp only [e145_0, e145_1, e145_2, e145_5, e145_6, e145_7, e145_10, e145_11, e145_14, e145_15, e145_18, e145_19, e145_20, e145_21, e145_24, e145_25, e145_28, e145_29, e145_32, e145_35, e145_36, e145_37, e145_38, e145_39, e145_42, e145_43, e145_46, e145_49, e145_50, e145_51, e145_53, e145_54, e145_57, e145_58, e145_59, e145_60, e145_63, e145_64, e145_65, e145_68, e145_70, e145_71, e145_72, e145_75, e145_77, zs0, zsI, zsL, zsR, ztl1, ztl0, zc0, zcI, zcL, zcR, true_and, and_true, true_implies, false_implies, implies_true, not_true_eq_false, not_false_eq_true, and_self, Int.toNat_natCast, Nat.reduceAdd, Nat.reduceLeDiff, Nat.reduceLT, forall_eq', Option.some.injEq, zarR, zarI, zarL, zle, zq0, zq1, zq2, zq3, zq4, zq5, zq6, zq8, zq9, zq10, zq20, zq7, zq12, zq24, zq40, zq41, zq48, zq100, zq120, zq123, zq480, zq492, zq700, zq729, zq2187, zq2916, zq8748, ne_eq, Int.reduceEq, Int.reduceLT, Int.reduceLE, Int.reduceToNat, Int.reduceMul, Int.reduceAdd, Int.reduceNeg, gk91 hg, gr91_5 hg, gr91_22 hg, gr91_23 hg, gr91_24 hg, gr91_25 hg, gr91_26 hg, gr91_27 hg, gr91_28 hg, gr91_29 hg, gr91_32 hg, gr91_33 hg, gr91_34 hg, gr91_35 hg, gr91_36 hg, gr91_37 hg, gr91_38 hg, gr91_39 hg, gr91_40 hg, gr91_41 hg, gr91_42 hg, gr91_44 hg, gr91_45 hg, gr91_46 hg, gr91_48 hg, gr91_49 hg, gr91_50 hg, gr91_51 hg, gr91_52 hg, c1, c2, e5, ← e2]
        split <;> exact Iff.rfl
theorem aNear_lv {T : aTn} {own oth : Nat → Int} {s f t : Nat} (ht : ¬ t = 3) : aNear T own oth s f t = tr T 4 s - (if f = t then own t else oth t) - aLv T s f t := by
  unfold aNear
  rw [if_neg ht]
  rfl
theorem aLv_b {T : aTn} (hw : wT T) (s f t : Nat) : 0 ≤ aLv T s f t ∧ aLv T s f t ≤ 99 := by
  have h1 := hw.2.2.2.2.2 s
  unfold aLv
  split
  · omega
  · split <;> omega
theorem m_near (hg : gS G) (hu : gU G u) (hV : rV h u T) (hw : wT T) (hx : x = fI f) (hz : z = tI t) (hs : s < nS T) (hf : f < nB T ∨ f = 3) (ht : t < nB T ∨ t = 3) (ho : t < 3 → h 94 t = own t) (hn : t < 3 → h 95 t = oth t) (bo : bP own) (bn : bP oth) : zRunD ztb zmt' (d + 2) 146 [zR (some 91), zI x, zI s, zI z] G h Q ↔ Q (some (zI (aNear T own oth s f t))) G h := by
  rw [r146]
  have hB := hw.1
  have hns := hw.2.1
  have s4 : (s : Int) < 4 := by omega
  have e1 := hV.2.2.2.2.2.2.2.2.2.1 s hs
  have b0 := hw.2.2.2.2.2 s
  have b1 := bo t
  have b2 := bn t
  by_cases h3 : t = 3
  · have hz' : z = -2 := by rw [hz]; unfold tI; rw [if_pos h3]
    simp only [e146_0, e146_1, e146_3, e146_6, e146_7, e146_8, e146_9, e146_12, e146_15, e146_16, e146_17, e146_18, e146_19, e146_22, e146_23, e146_26, e146_27, e146_28, e146_31, e146_32, e146_35, e146_36, e146_37, e146_38, e146_39, e146_40, e146_41, e146_42, e146_45, e146_46, zs0, zsI, zsL, zsR, ztl1, ztl0, zc0, zcI, zcL, zcR, true_and, and_true, true_implies, false_implies, implies_true, not_true_eq_false, not_false_eq_true, and_self, Int.toNat_natCast, Nat.reduceAdd, Nat.reduceLeDiff, Nat.reduceLT, forall_eq', Option.some.injEq, zarR, zarI, zarL, zle, zq0, zq1, zq2, zq3, zq4, zq5, zq6, zq8, zq9, zq10, zq20, zq7, zq12, zq24, zq40, zq41, zq48, zq100, zq120, zq123, zq480, zq492, zq700, zq729, zq2187, zq2916, zq8748, ne_eq, Int.reduceEq, Int.reduceLT, Int.reduceLE, Int.reduceToNat, Int.reduceMul, Int.reduceAdd, Int.reduceNeg, hz', aNear, h3, if_true]
  · have hz' : z = (t : Int) := by rw [hz]; unfold tI; rw [if_neg h3]
    subst hz'
    have t3 : (t : Int) < 3 := by omega
    have c1 : ¬ (t : Int) = -2 := by omega
    have b3 := aLv_b hw s f t
    rw [aNear_lv h3]
    have hl : ∀ Q' : zQ, zRunD ztb zmt' (d + 1) 145 [zR (some 91), zI x, zI s, zI t] G h Q' ↔ Q' (some (zI (aLv T s f t))) G h := fun Q' => m_leaving hg hu hV hx hw hs hf (by omega)
    by_cases hft : f = t
    · have c2 : x = (t : Int) := by rw [hx, ← fI_lt (by omega)]; omega
      rw [c2] at hl
      rw [hft] at hl b3
      simp only [e146_0, e146_1, e146_3, e146_6, e146_7, e146_8, e146_9, e146_12, e146_15, e146_16, e146_17, e146_18, e146_19, e146_22, e146_23, e146_26, e146_27, e146_28, e146_31, e146_32, e146_35, e146_36, e146_37, e146_38, e146_39, e146_40, e146_41, e146_42, e146_45, e146_46, zs0, zsI, zsL, zsR, ztl1, ztl0, zc0, zcI, zcL, zcR, true_and, and_true, true_implies, false_implies, implies_true, not_true_eq_false, not_false_eq_true, and_self, Int.toNat_natCast, Nat.reduceAdd, Nat.reduceLeDiff, Nat.reduceLT, forall_eq', Option.some.injEq, zarR, zarI, zarL, zle, zq0, zq1, zq2, zq3, zq4, zq5, zq6, zq8, zq9, zq10, zq20, zq7, zq12, zq24, zq40, zq41, zq48, zq100, zq120, zq123, zq480, zq492, zq700, zq729, zq2187, zq2916, zq8748, ne_eq, Int.reduceEq, Int.reduceLT, Int.reduceLE, Int.reduceToNat, Int.reduceMul, Int.reduceAdd, Int.reduceNeg, gk91 hg, gr91_5 hg, gr91_22 hg, gr91_23 hg, gr91_24 hg, gr91_25 hg, gr91_26 hg, gr91_27 hg, gr91_28 hg, gr91_29 hg, gr91_32 hg, gr91_33 hg, gr91_34 hg, gr91_35 hg, gr91_36 hg, gr91_37 hg, gr91_38 hg, gr91_39 hg, gr91_40 hg, gr91_41 hg, gr91_42 hg, gr91_44 hg, gr91_45 hg, gr91_46 hg, gr91_48 hg, gr91_49 hg, gr91_50 hg, gr91_51 hg, gr91_52 hg, gk94 hg, gl94 hg, gk95 hg, gl95 hg, hu, s4, t3, c1, c2, e1, ho (by omega), hft, if_true, hl]
      simp (disch := omega) only [wr_id]
    · have c2 : ¬ x = (t : Int) := by rw [hx]; unfold fI; split <;> omega
      simp only [e146_0, e146_1, e146_3, e146_6, e146_7, e146_8, e146_9, e146_12, e146_15, e146_16, e146_17, e146_18, e146_19, e146_22, e146_23, e146_26, e146_27, e146_28, e146_31, e146_32, e146_35, e146_36, e146_37, e146_38, e146_39, e146_40, e146_41, e146_42, e146_45, e146_46, zs0, zsI, zsL, zsR, ztl1, ztl0, zc0, zcI, zcL, zcR, true_and, and_true, true_implies, false_implies, implies_true, not_true_eq_false, not_false_eq_true, and_self, Int.toNat_natCast, Nat.reduceAdd, Nat.reduceLeDiff, Nat.reduceLT, forall_eq', Option.some.injEq, zarR, zarI, zarL, zle, zq0, zq1, zq2, zq3, zq4, zq5, zq6, zq8, zq9, zq10, zq20, zq7, zq12, zq24, zq40, zq41, zq48, zq100, zq120, zq123, zq480, zq492, zq700, zq729, zq2187, zq2916, zq8748, ne_eq, Int.reduceEq, Int.reduceLT, Int.reduceLE, Int.reduceToNat, Int.reduceMul, Int.reduceAdd, Int.reduceNeg, gk91 hg, gr91_5 hg, gr91_22 hg, gr91_23 hg, gr91_24 hg, gr91_25 hg, gr91_26 hg, gr91_27 hg, gr91_28 hg, gr91_29 hg, gr91_32 hg, gr91_33 hg, gr91_34 hg, gr91_35 hg, gr91_36 hg, gr91_37 hg, gr91_38 hg, gr91_39 hg, gr91_40 hg, gr91_41 hg, gr91_42 hg, gr91_44 hg, gr91_45 hg, gr91_46 hg, gr91_48 hg, gr91_49 hg, gr91_50 hg, gr91_51 hg, gr91_52 hg, gk94 hg, gl94 hg, gk95 hg, gl95 hg, hu, s4, t3, c1, c2, e1, hn (by omega), hft, if_false, hl]
      simp (disch := omega) only [wr_id]
theorem m_most (hg : gS G) (hu : gU G u) (hV : rV h u T) (hw : wT T) (hx : x = fI f) (hs : s < nS T) (hf : f < nB T ∨ f = 3) (ho : ∀ t, t < nB T → h 94 t = own t) (hn : ∀ t, t < nB T → h 95 t = oth t) (bo : bP own) (bn : bP oth) : zRunD ztb zmt' (d + 3) 147 [zR (some 91), zI x, zI s] G h Q ↔ Q (some (zI (aMost T own oth s f (nB T)))) G h := by
  rw [r147]
  have hb := hw.1
  have e1 := hV.1
  have lp : ∀ j i, i + j = nB T → (zE 147 (d + 2) Q 5 [some (zR (some 91)), some (zI x), some (zI s), some (zI (aMost T own oth s f i)), some (zI i)] [] G h (0, 0) ↔ Q (some (zI (aMost T own oth s f (nB T)))) G h) := by
    intro j
    induction j with
    | zero =>
      intro i hi
      have c : (nB T : Int) ≤ i := by omega
      have hi' : i = nB T := by omega
      rw [e147_5]
      simp only [e147_0, e147_1, e147_2, e147_3, e147_7, e147_8, e147_11, e147_14, e147_17, e147_18, e147_19, e147_20, e147_22, e147_25, e147_26, e147_29, e147_30, e147_31, e147_32, e147_34, e147_37, e147_40, e147_41, e147_42, e147_45, e147_48, e147_49, zs0, zsI, zsL, zsR, ztl1, ztl0, zc0, zcI, zcL, zcR, true_and, and_true, true_implies, false_implies, implies_true, not_true_eq_false, not_false_eq_true, and_self, Int.toNat_natCast, Nat.reduceAdd, Nat.reduceLeDiff, Nat.reduceLT, forall_eq', Option.some.injEq, zarR, zarI, zarL, zle, zq0, zq1, zq2, zq3, zq4, zq5, zq6, zq8, zq9, zq10, zq20, zq7, zq12, zq24, zq40, zq41, zq48, zq100, zq120, zq123, zq480, zq492, zq700, zq729, zq2187, zq2916, zq8748, ne_eq, Int.reduceEq, Int.reduceLT, Int.reduceLE, Int.reduceToNat, Int.reduceMul, Int.reduceAdd, Int.reduceNeg, gk91 hg, gr91_5 hg, gr91_22 hg, gr91_23 hg, gr91_24 hg, gr91_25 hg, gr91_26 hg, gr91_27 hg, gr91_28 hg, gr91_29 hg, gr91_32 hg, gr91_33 hg, gr91_34 hg, gr91_35 hg, gr91_36 hg, gr91_37 hg, gr91_38 hg, gr91_39 hg, gr91_40 hg, gr91_41 hg, gr91_42 hg, gr91_44 hg, gr91_45 hg, gr91_46 hg, gr91_48 hg, gr91_49 hg, gr91_50 hg, gr91_51 hg, gr91_52 hg, hu, e1, c]
      rw [hi']
    | succ j ih =>
      intro i hi
      have c : ¬ (nB T : Int) ≤ i := by omega
      have hh := fun Q' => m_near (d := d) (Q := Q') (t := i) hg hu hV hw hx (tI_lt (by omega)) hs hf (by omega) (fun _ => ho i (by omega)) (fun _ => hn i (by omega)) bo bn
      have hi2 := ih (i + 1) (by omega)
      rw [e147_5]
      by_cases c2 : aNear T own oth s f i ≤ aMost T own oth s f i
      · simp only [aMost, Int.max_eq_left c2] at hi2
        simp only [e147_0, e147_1, e147_2, e147_3, e147_7, e147_8, e147_11, e147_14, e147_17, e147_18, e147_19, e147_20, e147_22, e147_25, e147_26, e147_29, e147_30, e147_31, e147_32, e147_34, e147_37, e147_40, e147_41, e147_42, e147_45, e147_48, e147_49, zs0, zsI, zsL, zsR, ztl1, ztl0, zc0, zcI, zcL, zcR, true_and, and_true, true_implies, false_implies, implies_true, not_true_eq_false, not_false_eq_true, and_self, Int.toNat_natCast, Nat.reduceAdd, Nat.reduceLeDiff, Nat.reduceLT, forall_eq', Option.some.injEq, zarR, zarI, zarL, zle, zq0, zq1, zq2, zq3, zq4, zq5, zq6, zq8, zq9, zq10, zq20, zq7, zq12, zq24, zq40, zq41, zq48, zq100, zq120, zq123, zq480, zq492, zq700, zq729, zq2187, zq2916, zq8748, ne_eq, Int.reduceEq, Int.reduceLT, Int.reduceLE, Int.reduceToNat, Int.reduceMul, Int.reduceAdd, Int.reduceNeg, gk91 hg, gr91_5 hg, gr91_22 hg, gr91_23 hg, gr91_24 hg, gr91_25 hg, gr91_26 hg, gr91_27 hg, gr91_28 hg, gr91_29 hg, gr91_32 hg, gr91_33 hg, gr91_34 hg, gr91_35 hg, gr91_36 hg, gr91_37 hg, gr91_38 hg, gr91_39 hg, gr91_40 hg, gr91_41 hg, gr91_42 hg, gr91_44 hg, gr91_45 hg, gr91_46 hg, gr91_48 hg, gr91_49 hg, gr91_50 hg, gr91_51 hg, gr91_52 hg, hu, e1, c, hh, c2, wr_s (show i < 2147483647 by omega)]
        exact hi2
      · simp only [aMost, Int.max_eq_right (show aMost T own oth s f i ≤ aNear T own oth s f i by omega)] at hi2
        simp only [e147_0, e147_1, e147_2, e147_3, e147_7, e147_8, e147_11, e147_14, e147_17, e147_18, e147_19, e147_20, e147_22, e147_25, e147_26, e147_29, e147_30, e147_31, e147_32, e147_34, e147_37, e147_40, e147_41, e147_42, e147_45, e147_48, e147_49, zs0, zsI, zsL, zsR, ztl1, ztl0, zc0, zcI, zcL, zcR, true_and, and_true, true_implies, false_implies, implies_true, not_true_eq_false, not_false_eq_true, and_self, Int.toNat_natCast, Nat.reduceAdd, Nat.reduceLeDiff, Nat.reduceLT, forall_eq', Option.some.injEq, zarR, zarI, zarL, zle, zq0, zq1, zq2, zq3, zq4, zq5, zq6, zq8, zq9, zq10, zq20, zq7, zq12, zq24, zq40, zq41, zq48, zq100, zq120, zq123, zq480, zq492, zq700, zq729, zq2187, zq2916, zq8748, ne_eq, Int.reduceEq, Int.reduceLT, Int.reduceLE, Int.reduceToNat, Int.reduceMul, Int.reduceAdd, Int.reduceNeg, gk91 hg, gr91_5 hg, gr91_22 hg, gr91_23 hg, gr91_24 hg, gr91_25 hg, gr91_26 hg, gr91_27 hg, gr91_28 hg, gr91_29 hg, gr91_32 hg, gr91_33 hg, gr91_34 hg, gr91_35 hg, gr91_36 hg, gr91_37 hg, gr91_38 hg, gr91_39 hg, gr91_40 hg, gr91_41 hg, gr91_42 hg, gr91_44 hg, gr91_45 hg, gr91_46 hg, gr91_48 hg, gr91_49 hg, gr91_50 hg, gr91_51 hg, gr91_52 hg, hu, e1, c, hh, c2, wr_s (show i < 2147483647 by omega)]
        exact hi2
  simp only [e147_0, e147_1, e147_2, e147_3, e147_7, e147_8, e147_11, e147_14, e147_17, e147_18, e147_19, e147_20, e147_22, e147_25, e147_26, e147_29, e147_30, e147_31, e147_32, e147_34, e147_37, e147_40, e147_41, e147_42, e147_45, e147_48, e147_49, zs0, zsI, zsL, zsR, ztl1, ztl0, zc0, zcI, zcL, zcR, true_and, and_true, true_implies, false_implies, implies_true, not_true_eq_false, not_false_eq_true, and_self, Int.toNat_natCast, Nat.reduceAdd, Nat.reduceLeDiff, Nat.reduceLT, forall_eq', Option.some.injEq, zarR, zarI, zarL, zle, zq0, zq1, zq2, zq3, zq4, zq5, zq6, zq8, zq9, zq10, zq20, zq7, zq12, zq24, zq40, zq41, zq48, zq100, zq120, zq123, zq480, zq492, zq700, zq729, zq2187, zq2916, zq8748, ne_eq, Int.reduceEq, Int.reduceLT, Int.reduceLE, Int.reduceToNat, Int.reduceMul, Int.reduceAdd, Int.reduceNeg]
  exact lp (nB T) 0 (by omega)
theorem m_value (hg : gS G) (hu : gU G u) (hV : rV h u T) (hw : wT T) (hx : x = fI f) (hz : z = tI t) (hs : s < nS T) (hf : f < nB T ∨ f = 3) (ht : t < nB T ∨ t = 3) (ho : ∀ t, t < nB T → h 94 t = own t) (hn : ∀ t, t < nB T → h 95 t = oth t) (bo : bP own) (bn : bP oth) : zRunD ztb zmt' (d + 4) 148 [zR (some 91), zI x, zI s, zI z, zI far] G h Q ↔ Q (some (zI (aHas T own oth s far f t))) G h := by
  rw [r148]
  have hb := hw.1
  have e1 := hV.2.2.2.1
  have hkp := hw.2.2.2.2.1
  have b1 := aMost_b hw bo bn s t (nB T)
  have b2 : 0 ≤ kp T * aMost T own oth s t (nB T) := Int.mul_nonneg hkp.1 b1.1
  have b3 : kp T * aMost T own oth s t (nB T) ≤ 100 * 199 := Int.mul_le_mul hkp.2 b1.2 b1.1 (by decide)
  have b4 := aNear_b hw bo bn s f t
  have hh : ∀ Q' : zQ, zRunD ztb zmt' (d + 3) 146 [zR (some 91), zI x, zI s, zI z] G h Q' ↔ Q' (some (zI (aNear T own oth s f t))) G h := fun Q' => m_near (d := d + 1) hg hu hV hw hx hz hs hf (by omega) (fun _ => ho t (by omega)) (fun _ => hn t (by omega)) bo bn
  by_cases h0 : far = 0
  · simp only [e148_0, e148_1, e148_2, e148_3, e148_4, e148_7, e148_9, e148_11, e148_14, e148_16, e148_17, e148_19, e148_20, e148_23, e148_26, e148_27, e148_28, e148_30, e148_33, e148_34, e148_37, e148_38, e148_39, e148_42, e148_43, e148_45, e148_46, e148_47, zs0, zsI, zsL, zsR, ztl1, ztl0, zc0, zcI, zcL, zcR, true_and, and_true, true_implies, false_implies, implies_true, not_true_eq_false, not_false_eq_true, and_self, Int.toNat_natCast, Nat.reduceAdd, Nat.reduceLeDiff, Nat.reduceLT, forall_eq', Option.some.injEq, zarR, zarI, zarL, zle, zq0, zq1, zq2, zq3, zq4, zq5, zq6, zq8, zq9, zq10, zq20, zq7, zq12, zq24, zq40, zq41, zq48, zq100, zq120, zq123, zq480, zq492, zq700, zq729, zq2187, zq2916, zq8748, ne_eq, Int.reduceEq, Int.reduceLT, Int.reduceLE, Int.reduceToNat, Int.reduceMul, Int.reduceAdd, Int.reduceNeg, gk91 hg, gr91_5 hg, gr91_22 hg, gr91_23 hg, gr91_24 hg, gr91_25 hg, gr91_26 hg, gr91_27 hg, gr91_28 hg, gr91_29 hg, gr91_32 hg, gr91_33 hg, gr91_34 hg, gr91_35 hg, gr91_36 hg, gr91_37 hg, gr91_38 hg, gr91_39 hg, gr91_40 hg, gr91_41 hg, gr91_42 hg, gr91_44 hg, gr91_45 hg, gr91_46 hg, gr91_48 hg, gr91_49 hg, gr91_50 hg, gr91_51 hg, gr91_52 hg, h0, hh, aHas0]
  · have hm : ∀ {y : Int} (_ : y = fI t) (Q' : zQ), zRunD ztb zmt' (d + 3) 147 [zR (some 91), zI y, zI s] G h Q' ↔ Q' (some (zI (aMost T own oth s t (nB T)))) G h := fun hy Q' => m_most (d := d) hg hu hV hw hy hs (by omega) ho hn bo bn
    rw [aHas, if_neg h0, aAh]
    by_cases h3 : t = 3
    · have hz' : z = -2 := by rw [hz]; unfold tI; rw [if_pos h3]
      have hm' := hm (y := -1) (by unfold fI; rw [if_pos h3])
      rw [hz'] at hh
      simp only [e148_0, e148_1, e148_2, e148_3, e148_4, e148_7, e148_9, e148_11, e148_14, e148_16, e148_17, e148_19, e148_20, e148_23, e148_26, e148_27, e148_28, e148_30, e148_33, e148_34, e148_37, e148_38, e148_39, e148_42, e148_43, e148_45, e148_46, e148_47, zs0, zsI, zsL, zsR, ztl1, ztl0, zc0, zcI, zcL, zcR, true_and, and_true, true_implies, false_implies, implies_true, not_true_eq_false, not_false_eq_true, and_self, Int.toNat_natCast, Nat.reduceAdd, Nat.reduceLeDiff, Nat.reduceLT, forall_eq', Option.some.injEq, zarR, zarI, zarL, zle, zq0, zq1, zq2, zq3, zq4, zq5, zq6, zq8, zq9, zq10, zq20, zq7, zq12, zq24, zq40, zq41, zq48, zq100, zq120, zq123, zq480, zq492, zq700, zq729, zq2187, zq2916, zq8748, ne_eq, Int.reduceEq, Int.reduceLT, Int.reduceLE, Int.reduceToNat, Int.reduceMul, Int.reduceAdd, Int.reduceNeg, gk91 hg, gr91_5 hg, gr91_22 hg, gr91_23 hg, gr91_24 hg, gr91_25 hg, gr91_26 hg, gr91_27 hg, gr91_28 hg, gr91_29 hg, gr91_32 hg, gr91_33 hg, gr91_34 hg, gr91_35 hg, gr91_36 hg, gr91_37 hg, gr91_38 hg, gr91_39 hg, gr91_40 hg, gr91_41 hg, gr91_42 hg, gr91_44 hg, gr91_45 hg, gr91_46 hg, gr91_48 hg, gr91_49 hg, gr91_50 hg, gr91_51 hg, gr91_52 hg, hu, h0, hh, hz', hm', e1]
      simp (disch := omega) only [wr_id, Int.tdiv_eq_ediv_of_nonneg]
    · have hz' : z = (t : Int) := by rw [hz]; unfold tI; rw [if_neg h3]
      subst hz'
      have c1 : ¬ (t : Int) = -2 := by omega
      have hm' := hm (y := t) (fI_lt (by omega))
      simp only [e148_0, e148_1, e148_2, e148_3, e148_4, e148_7, e148_9, e148_11, e148_14, e148_16, e148_17, e148_19, e148_20, e148_23, e148_26, e148_27, e148_28, e148_30, e148_33, e148_34, e148_37, e148_38, e148_39, e148_42, e148_43, e148_45, e148_46, e148_47, zs0, zsI, zsL, zsR, ztl1, ztl0, zc0, zcI, zcL, zcR, true_and, and_true, true_implies, false_implies, implies_true, not_true_eq_false, not_false_eq_true, and_self, Int.toNat_natCast, Nat.reduceAdd, Nat.reduceLeDiff, Nat.reduceLT, forall_eq', Option.some.injEq, zarR, zarI, zarL, zle, zq0, zq1, zq2, zq3, zq4, zq5, zq6, zq8, zq9, zq10, zq20, zq7, zq12, zq24, zq40, zq41, zq48, zq100, zq120, zq123, zq480, zq492, zq700, zq729, zq2187, zq2916, zq8748, ne_eq, Int.reduceEq, Int.reduceLT, Int.reduceLE, Int.reduceToNat, Int.reduceMul, Int.reduceAdd, Int.reduceNeg, gk91 hg, gr91_5 hg, gr91_22 hg, gr91_23 hg, gr91_24 hg, gr91_25 hg, gr91_26 hg, gr91_27 hg, gr91_28 hg, gr91_29 hg, gr91_32 hg, gr91_33 hg, gr91_34 hg, gr91_35 hg, gr91_36 hg, gr91_37 hg, gr91_38 hg, gr91_39 hg, gr91_40 hg, gr91_41 hg, gr91_42 hg, gr91_44 hg, gr91_45 hg, gr91_46 hg, gr91_48 hg, gr91_49 hg, gr91_50 hg, gr91_51 hg, gr91_52 hg, hu, h0, hh, c1, hm', e1]
      simp (disch := omega) only [wr_id, Int.tdiv_eq_ediv_of_nonneg]
theorem m_choice (hg : gS G) (hu : gU G u) (hV : rV h u T) (hw : wT T) (hx : x = fI f) (hs : s < nS T) (hf : f < nB T ∨ f = 3) (ho : ∀ t, t < nB T → h 94 t = own t) (hn : ∀ t, t < nB T → h 95 t = oth t) (bo : bP own) (bn : bP oth) : zRunD ztb zmt' (d + 5) 149 [zR (some 91), zI x, zI s, zI far] G h Q ↔ Q (some (zI (tI (aCh T own oth s far f)))) G h := by
  rw [r149]
  have hb := hw.1
  have e1 := hV.1
  have hv : ∀ {z : Int} (t : Nat) (_ : z = tI t) (_ : t < nB T ∨ t = 3) (Q' : zQ), zRunD ztb zmt' (d + 4) 148 [zR (some 91), zI x, zI s, zI z, zI far] G h Q' ↔ Q' (some (zI (aHas T own oth s far f t))) G h := fun t hz ht Q' => m_value hg hu hV hw hx hz hs (by omega) ht ho hn bo bn
  have h3 := hv (z := -2) 3 (by decide) (Or.inr rfl)
  have hlt : ∀ n, n ≤ nB T → (aChU T own oth s far f n).2 < nB T := by
    intro n
    induction n with
    | zero =>
      intro _
      unfold aChU
      dsimp only
      split <;> omega
    | succ n ih =>
      intro hn
      unfold aChU
      split
      · dsimp only
        omega
      · exact ih (by omega)
  have lp : ∀ j i (l7 : Option zV), i + j = nB T → (zE 149 (d + 4) Q 26 [some (zR (some 91)), some (zI x), some (zI s), some (zI far), some (zI ((aChU T own oth s far f i).2 : Nat)), some (zI (aChU T own oth s far f i).1), some (zI i), l7] [] G h (0, 0) ↔ Q (some (zI (tI (aCh T own oth s far f)))) G h) := by
    intro j
    induction j with
    | zero =>
      intro i l7 hi
      have c : (nB T : Int) ≤ i := by omega
      have hi' : i = nB T := by omega
      subst hi'
      rw [e149_26]
      by_cases c2 : aHas T own oth s far f 3 ≤ (aChU T own oth s far f (nB T)).1
      · have c3 : ¬ (aChU T own oth s far f (nB T)).1 < aHas T own oth s far f 3 := by omega
        have c4 := hlt (nB T) (Nat.le_refl _)
        simp only [e149_0, e149_1, e149_2, e149_5, e149_6, e149_9, e149_10, e149_12, e149_13, e149_14, e149_15, e149_17, e149_18, e149_21, e149_23, e149_24, e149_28, e149_29, e149_32, e149_35, e149_38, e149_39, e149_40, e149_41, e149_43, e149_44, e149_47, e149_49, e149_51, e149_53, e149_56, e149_59, e149_61, e149_63, e149_65, e149_67, e149_70, e149_73, e149_74, e149_75, e149_76, e149_78, e149_79, e149_82, e149_84, e149_87, e149_89, e149_92, e149_94, zs0, zsI, zsL, zsR, ztl1, ztl0, zc0, zcI, zcL, zcR, true_and, and_true, true_implies, false_implies, implies_true, not_true_eq_false, not_false_eq_true, and_self, Int.toNat_natCast, Nat.reduceAdd, Nat.reduceLeDiff, Nat.reduceLT, forall_eq', Option.some.injEq, zarR, zarI, zarL, zle, zq0, zq1, zq2, zq3, zq4, zq5, zq6, zq8, zq9, zq10, zq20, zq7, zq12, zq24, zq40, zq41, zq48, zq100, zq120, zq123, zq480, zq492, zq700, zq729, zq2187, zq2916, zq8748, ne_eq, Int.reduceEq, Int.reduceLT, Int.reduceLE, Int.reduceToNat, Int.reduceMul, Int.reduceAdd, Int.reduceNeg, gk91 hg, gr91_5 hg, gr91_22 hg, gr91_23 hg, gr91_24 hg, gr91_25 hg, gr91_26 hg, gr91_27 hg, gr91_28 hg, gr91_29 hg, gr91_32 hg, gr91_33 hg, gr91_34 hg, gr91_35 hg, gr91_36 hg, gr91_37 hg, gr91_38 hg, gr91_39 hg, gr91_40 hg, gr91_41 hg, gr91_42 hg, gr91_44 hg, gr91_45 hg, gr91_46 hg, gr91_48 hg, gr91_49 hg, gr91_50 hg, gr91_51 hg, gr91_52 hg, hu, e1, c, h3, c2, aCh, c3, if_false]
        rw [tI_lt (by omega)]
      · have c3 : (aChU T own oth s far f (nB T)).1 < aHas T own oth s far f 3 := by omega
        simp only [e149_0, e149_1, e149_2, e149_5, e149_6, e149_9, e149_10, e149_12, e149_13, e149_14, e149_15, e149_17, e149_18, e149_21, e149_23, e149_24, e149_28, e149_29, e149_32, e149_35, e149_38, e149_39, e149_40, e149_41, e149_43, e149_44, e149_47, e149_49, e149_51, e149_53, e149_56, e149_59, e149_61, e149_63, e149_65, e149_67, e149_70, e149_73, e149_74, e149_75, e149_76, e149_78, e149_79, e149_82, e149_84, e149_87, e149_89, e149_92, e149_94, zs0, zsI, zsL, zsR, ztl1, ztl0, zc0, zcI, zcL, zcR, true_and, and_true, true_implies, false_implies, implies_true, not_true_eq_false, not_false_eq_true, and_self, Int.toNat_natCast, Nat.reduceAdd, Nat.reduceLeDiff, Nat.reduceLT, forall_eq', Option.some.injEq, zarR, zarI, zarL, zle, zq0, zq1, zq2, zq3, zq4, zq5, zq6, zq8, zq9, zq10, zq20, zq7, zq12, zq24, zq40, zq41, zq48, zq100, zq120, zq123, zq480, zq492, zq700, zq729, zq2187, zq2916, zq8748, ne_eq, Int.reduceEq, Int.reduceLT, Int.reduceLE, Int.reduceToNat, Int.reduceMul, Int.reduceAdd, Int.reduceNeg, gk91 hg, gr91_5 hg, gr91_22 hg, gr91_23 hg, gr91_24 hg, gr91_25 hg, gr91_26 hg, gr91_27 hg, gr91_28 hg, gr91_29 hg, gr91_32 hg, gr91_33 hg, gr91_34 hg, gr91_35 hg, gr91_36 hg, gr91_37 hg, gr91_38 hg, gr91_39 hg, gr91_40 hg, gr91_41 hg, gr91_42 hg, gr91_44 hg, gr91_45 hg, gr91_46 hg, gr91_48 hg, gr91_49 hg, gr91_50 hg, gr91_51 hg, gr91_52 hg, hu, e1, c, h3, c2, aCh, c3, if_true]
        exact Iff.rfl
    | succ j ih =>
      intro i l7 hi
      have c : ¬ (nB T : Int) ≤ i := by omega
      have hi2 := ih (i + 1) (some (zI (aHas T own oth s far f i))) (by omega)
      have hvi := hv (z := i) i (tI_lt (by omega)) (Or.inl (by omega))
      rw [e149_26]
      by_cases c2 : (aChU T own oth s far f i).1 < aHas T own oth s far f i
      · simp only [aChU, c2, if_true] at hi2
        simp only [e149_0, e149_1, e149_2, e149_5, e149_6, e149_9, e149_10, e149_12, e149_13, e149_14, e149_15, e149_17, e149_18, e149_21, e149_23, e149_24, e149_28, e149_29, e149_32, e149_35, e149_38, e149_39, e149_40, e149_41, e149_43, e149_44, e149_47, e149_49, e149_51, e149_53, e149_56, e149_59, e149_61, e149_63, e149_65, e149_67, e149_70, e149_73, e149_74, e149_75, e149_76, e149_78, e149_79, e149_82, e149_84, e149_87, e149_89, e149_92, e149_94, zs0, zsI, zsL, zsR, ztl1, ztl0, zc0, zcI, zcL, zcR, true_and, and_true, true_implies, false_implies, implies_true, not_true_eq_false, not_false_eq_true, and_self, Int.toNat_natCast, Nat.reduceAdd, Nat.reduceLeDiff, Nat.reduceLT, forall_eq', Option.some.injEq, zarR, zarI, zarL, zle, zq0, zq1, zq2, zq3, zq4, zq5, zq6, zq8, zq9, zq10, zq20, zq7, zq12, zq24, zq40, zq41, zq48, zq100, zq120, zq123, zq480, zq492, zq700, zq729, zq2187, zq2916, zq8748, ne_eq, Int.reduceEq, Int.reduceLT, Int.reduceLE, Int.reduceToNat, Int.reduceMul, Int.reduceAdd, Int.reduceNeg, gk91 hg, gr91_5 hg, gr91_22 hg, gr91_23 hg, gr91_24 hg, gr91_25 hg, gr91_26 hg, gr91_27 hg, gr91_28 hg, gr91_29 hg, gr91_32 hg, gr91_33 hg, gr91_34 hg, gr91_35 hg, gr91_36 hg, gr91_37 hg, gr91_38 hg, gr91_39 hg, gr91_40 hg, gr91_41 hg, gr91_42 hg, gr91_44 hg, gr91_45 hg, gr91_46 hg, gr91_48 hg, gr91_49 hg, gr91_50 hg, gr91_51 hg, gr91_52 hg, hu, e1, c, hvi, c2, wr_s (show i < 2147483647 by omega)]
        exact hi2
      · simp only [aChU, c2, if_false] at hi2
        simp only [e149_0, e149_1, e149_2, e149_5, e149_6, e149_9, e149_10, e149_12, e149_13, e149_14, e149_15, e149_17, e149_18, e149_21, e149_23, e149_24, e149_28, e149_29, e149_32, e149_35, e149_38, e149_39, e149_40, e149_41, e149_43, e149_44, e149_47, e149_49, e149_51, e149_53, e149_56, e149_59, e149_61, e149_63, e149_65, e149_67, e149_70, e149_73, e149_74, e149_75, e149_76, e149_78, e149_79, e149_82, e149_84, e149_87, e149_89, e149_92, e149_94, zs0, zsI, zsL, zsR, ztl1, ztl0, zc0, zcI, zcL, zcR, true_and, and_true, true_implies, false_implies, implies_true, not_true_eq_false, not_false_eq_true, and_self, Int.toNat_natCast, Nat.reduceAdd, Nat.reduceLeDiff, Nat.reduceLT, forall_eq', Option.some.injEq, zarR, zarI, zarL, zle, zq0, zq1, zq2, zq3, zq4, zq5, zq6, zq8, zq9, zq10, zq20, zq7, zq12, zq24, zq40, zq41, zq48, zq100, zq120, zq123, zq480, zq492, zq700, zq729, zq2187, zq2916, zq8748, ne_eq, Int.reduceEq, Int.reduceLT, Int.reduceLE, Int.reduceToNat, Int.reduceMul, Int.reduceAdd, Int.reduceNeg, gk91 hg, gr91_5 hg, gr91_22 hg, gr91_23 hg, gr91_24 hg, gr91_25 hg, gr91_26 hg, gr91_27 hg, gr91_28 hg, gr91_29 hg, gr91_32 hg, gr91_33 hg, gr91_34 hg, gr91_35 hg, gr91_36 hg, gr91_37 hg, gr91_38 hg, gr91_39 hg, gr91_40 hg, gr91_41 hg, gr91_42 hg, gr91_44 hg, gr91_45 hg, gr91_46 hg, gr91_48 hg, gr91_49 hg, gr91_50 hg, gr91_51 hg, gr91_52 hg, hu, e1, c, hvi, c2, wr_s (show i < 2147483647 by omega)]
        exact hi2
  have l0 := fun l7 => lp (nB T) 0 l7 (by omega)
  by_cases hf3 : f = 3
  · have hx' : x = -1 := by rw [hx]; unfold fI; rw [if_pos hf3]
    have hv0 := hv (z := 0) 0 (by decide) (Or.inl (by omega))
    simp only [aChU, hf3, if_true, zq0, hx'] at l0 hv0
    simp only [e149_0, e149_1, e149_2, e149_5, e149_6, e149_9, e149_10, e149_12, e149_13, e149_14, e149_15, e149_17, e149_18, e149_21, e149_23, e149_24, e149_28, e149_29, e149_32, e149_35, e149_38, e149_39, e149_40, e149_41, e149_43, e149_44, e149_47, e149_49, e149_51, e149_53, e149_56, e149_59, e149_61, e149_63, e149_65, e149_67, e149_70, e149_73, e149_74, e149_75, e149_76, e149_78, e149_79, e149_82, e149_84, e149_87, e149_89, e149_92, e149_94, zs0, zsI, zsL, zsR, ztl1, ztl0, zc0, zcI, zcL, zcR, true_and, and_true, true_implies, false_implies, implies_true, not_true_eq_false, not_false_eq_true, and_self, Int.toNat_natCast, Nat.reduceAdd, Nat.reduceLeDiff, Nat.reduceLT, forall_eq', Option.some.injEq, zarR, zarI, zarL, zle, zq0, zq1, zq2, zq3, zq4, zq5, zq6, zq8, zq9, zq10, zq20, zq7, zq12, zq24, zq40, zq41, zq48, zq100, zq120, zq123, zq480, zq492, zq700, zq729, zq2187, zq2916, zq8748, ne_eq, Int.reduceEq, Int.reduceLT, Int.reduceLE, Int.reduceToNat, Int.reduceMul, Int.reduceAdd, Int.reduceNeg, gk91 hg, gr91_5 hg, gr91_22 hg, gr91_23 hg, gr91_24 hg, gr91_25 hg, gr91_26 hg, gr91_27 hg, gr91_28 hg, gr91_29 hg, gr91_32 hg, gr91_33 hg, gr91_34 hg, gr91_35 hg, gr91_36 hg, gr91_37 hg, gr91_38 hg, gr91_39 hg, gr91_40 hg, gr91_41 hg, gr91_42 hg, gr91_44 hg, gr91_45 hg, gr91_46 hg, gr91_48 hg, gr91_49 hg, gr91_50 hg, gr91_51 hg, gr91_52 hg, hx', hv0]
    rw [hf3]
    exact l0 _
  · have hx' : x = (f : Int) := by rw [hx]; unfold fI; rw [if_neg hf3]
    have c2 : ¬ (f : Int) = -1 := by omega
    have hv0 := hv (z := f) f (tI_lt (by omega)) (by omega)
    simp only [aChU, hf3, if_false, zq0, hx'] at l0 hv0
    simp only [e149_0, e149_1, e149_2, e149_5, e149_6, e149_9, e149_10, e149_12, e149_13, e149_14, e149_15, e149_17, e149_18, e149_21, e149_23, e149_24, e149_28, e149_29, e149_32, e149_35, e149_38, e149_39, e149_40, e149_41, e149_43, e149_44, e149_47, e149_49, e149_51, e149_53, e149_56, e149_59, e149_61, e149_63, e149_65, e149_67, e149_70, e149_73, e149_74, e149_75, e149_76, e149_78, e149_79, e149_82, e149_84, e149_87, e149_89, e149_92, e149_94, zs0, zsI, zsL, zsR, ztl1, ztl0, zc0, zcI, zcL, zcR, true_and, and_true, true_implies, false_implies, implies_true, not_true_eq_false, not_false_eq_true, and_self, Int.toNat_natCast, Nat.reduceAdd, Nat.reduceLeDiff, Nat.reduceLT, forall_eq', Option.some.injEq, zarR, zarI, zarL, zle, zq0, zq1, zq2, zq3, zq4, zq5, zq6, zq8, zq9, zq10, zq20, zq7, zq12, zq24, zq40, zq41, zq48, zq100, zq120, zq123, zq480, zq492, zq700, zq729, zq2187, zq2916, zq8748, ne_eq, Int.reduceEq, Int.reduceLT, Int.reduceLE, Int.reduceToNat, Int.reduceMul, Int.reduceAdd, Int.reduceNeg, gk91 hg, gr91_5 hg, gr91_22 hg, gr91_23 hg, gr91_24 hg, gr91_25 hg, gr91_26 hg, gr91_27 hg, gr91_28 hg, gr91_29 hg, gr91_32 hg, gr91_33 hg, gr91_34 hg, gr91_35 hg, gr91_36 hg, gr91_37 hg, gr91_38 hg, gr91_39 hg, gr91_40 hg, gr91_41 hg, gr91_42 hg, gr91_44 hg, gr91_45 hg, gr91_46 hg, gr91_48 hg, gr91_49 hg, gr91_50 hg, gr91_51 hg, gr91_52 hg, hx', c2, hv0]
    exact l0 _
theorem m_cell {a b : Nat} (ha : (a : Int) < 1000) (hb : (b : Int) < 1000) : zRunD ztb zmt' (d + 1) 150 [zI a, zI b] G h Q ↔ Q (some (zI ((3 * a + b : Nat) : Int))) G h := by
  rw [r150]
  simp only [e150_0, e150_1, e150_2, e150_3, e150_4, e150_5, zs0, zsI, zsL, zsR, ztl1, ztl0, zc0, zcI, zcL, zcR, true_and, and_true, true_implies, false_implies, implies_true, not_true_eq_false, not_false_eq_true, and_self, Int.toNat_natCast, Nat.reduceAdd, Nat.reduceLeDiff, Nat.reduceLT, forall_eq', Option.some.injEq, zarR, zarI, zarL, zle, zq0, zq1, zq2, zq3, zq4, zq5, zq6, zq8, zq9, zq10, zq20, zq7, zq12, zq24, zq40, zq41, zq48, zq100, zq120, zq123, zq480, zq492, zq700, zq729, zq2187, zq2916, zq8748, ne_eq, Int.reduceEq, Int.reduceLT, Int.reduceLE, Int.reduceToNat, Int.reduceMul, Int.reduceAdd, Int.reduceNeg, wrN (z := 3 * (a : Int)) (m := 3 * a) (by omega) (by omega), wrN (z := ((3 * a : Nat) : Int) + (b : Int)) (m := 3 * a + b) (by omega) (by omega)]
theorem m_looks (hg : gS G) (hu : gU G u) (hs : s < 4) (hb : h (u + 9) s = 0 ∨ h (u + 9) s = 1) : zRunD ztb zmt' (d + 1) 144 [zR (some 91), zI s] G h Q ↔ Q (some (zI (rFar (h 91 18) (h (u + 9) s)))) G h := by
  rw [r144]
  have s4 : (s : Int) < 4 := by omega
  unfold rFar
  by_cases c1 : h 91 18 = 1
  · simp only [e144_0, e144_1, e144_4, e144_5, e144_8, e144_9, e144_12, e144_15, e144_16, e144_19, e144_22, e144_23, e144_24, e144_27, e144_28, e144_31, e144_32, zs0, zsI, zsL, zsR, ztl1, ztl0, zc0, zcI, zcL, zcR, true_and, and_true, true_implies, false_implies, implies_true, not_true_eq_false, not_false_eq_true, and_self, Int.toNat_natCast, Nat.reduceAdd, Nat.reduceLeDiff, Nat.reduceLT, forall_eq', Option.some.injEq, zarR, zarI, zarL, zle, zq0, zq1, zq2, zq3, zq4, zq5, zq6, zq8, zq9, zq10, zq20, zq7, zq12, zq24, zq40, zq41, zq48, zq100, zq120, zq123, zq480, zq492, zq700, zq729, zq2187, zq2916, zq8748, ne_eq, Int.reduceEq, Int.reduceLT, Int.reduceLE, Int.reduceToNat, Int.reduceMul, Int.reduceAdd, Int.reduceNeg, gk91 hg, gr91_5 hg, gr91_22 hg, gr91_23 hg, gr91_24 hg, gr91_25 hg, gr91_26 hg, gr91_27 hg, gr91_28 hg, gr91_29 hg, gr91_32 hg, gr91_33 hg, gr91_34 hg, gr91_35 hg, gr91_36 hg, gr91_37 hg, gr91_38 hg, gr91_39 hg, gr91_40 hg, gr91_41 hg, gr91_42 hg, gr91_44 hg, gr91_45 hg, gr91_46 hg, gr91_48 hg, gr91_49 hg, gr91_50 hg, gr91_51 hg, gr91_52 hg, c1, if_true, or_true]
  · by_cases c2 : h 91 18 = 0
    · rcases hb with c3 | c3
      · simp only [e144_0, e144_1, e144_4, e144_5, e144_8, e144_9, e144_12, e144_15, e144_16, e144_19, e144_22, e144_23, e144_24, e144_27, e144_28, e144_31, e144_32, zs0, zsI, zsL, zsR, ztl1, ztl0, zc0, zcI, zcL, zcR, true_and, and_true, true_implies, false_implies, implies_true, not_true_eq_false, not_false_eq_true, and_self, Int.toNat_natCast, Nat.reduceAdd, Nat.reduceLeDiff, Nat.reduceLT, forall_eq', Option.some.injEq, zarR, zarI, zarL, zle, zq0, zq1, zq2, zq3, zq4, zq5, zq6, zq8, zq9, zq10, zq20, zq7, zq12, zq24, zq40, zq41, zq48, zq100, zq120, zq123, zq480, zq492, zq700, zq729, zq2187, zq2916, zq8748, ne_eq, Int.reduceEq, Int.reduceLT, Int.reduceLE, Int.reduceToNat, Int.reduceMul, Int.reduceAdd, Int.reduceNeg, gk91 hg, gr91_5 hg, gr91_22 hg, gr91_23 hg, gr91_24 hg, gr91_25 hg, gr91_26 hg, gr91_27 hg, gr91_28 hg, gr91_29 hg, gr91_32 hg, gr91_33 hg, gr91_34 hg, gr91_35 hg, gr91_36 hg, gr91_37 hg, gr91_38 hg, gr91_39 hg, gr91_40 hg, gr91_41 hg, gr91_42 hg, gr91_44 hg, gr91_45 hg, gr91_46 hg, gr91_48 hg, gr91_49 hg, gr91_50 hg, gr91_51 hg, gr91_52 hg, hu, s4, c2, c3, if_true, if_false, true_or, reduceIte, Int.reduceEq]
      · simp only [e144_0, e144_1, e144_4, e144_5, e144_8, e144_9, e144_12, e144_15, e144_16, e144_19, e144_22, e144_23, e144_24, e144_27, e144_28, e144_31, e144_32, zs0, zsI, zsL, zsR, ztl1, ztl0, zc0, zcI, zcL, zcR, true_and, and_true, true_implies, false_implies, implies_true, not_true_eq_false, not_false_eq_true, and_self, Int.toNat_natCast, Nat.reduceAdd, Nat.reduceLeDiff, Nat.reduceLT, forall_eq', Option.some.injEq, zarR, zarI, zarL, zle, zq0, zq1, zq2, zq3, zq4, zq5, zq6, zq8, zq9, zq10, zq20, zq7, zq12, zq24, zq40, zq41, zq48, zq100, zq120, zq123, zq480, zq492, zq700, zq729, zq2187, zq2916, zq8748, ne_eq, Int.reduceEq, Int.reduceLT, Int.reduceLE, Int.reduceToNat, Int.reduceMul, Int.reduceAdd, Int.reduceNeg, gk91 hg, gr91_5 hg, gr91_22 hg, gr91_23 hg, gr91_24 hg, gr91_25 hg, gr91_26 hg, gr91_27 hg, gr91_28 hg, gr91_29 hg, gr91_32 hg, gr91_33 hg, gr91_34 hg, gr91_35 hg, gr91_36 hg, gr91_37 hg, gr91_38 hg, gr91_39 hg, gr91_40 hg, gr91_41 hg, gr91_42 hg, gr91_44 hg, gr91_45 hg, gr91_46 hg, gr91_48 hg, gr91_49 hg, gr91_50 hg, gr91_51 hg, gr91_52 hg, hu, s4, c2, c3, if_true, if_false, or_true, reduceIte, Int.reduceEq]
    · simp only [e144_0, e144_1, e144_4, e144_5, e144_8, e144_9, e144_12, e144_15, e144_16, e144_19, e144_22, e144_23, e144_24, e144_27, e144_28, e144_31, e144_32, zs0, zsI, zsL, zsR, ztl1, ztl0, zc0, zcI, zcL, zcR, true_and, and_true, true_implies, false_implies, implies_true, not_true_eq_false, not_false_eq_true, and_self, Int.toNat_natCast, Nat.reduceAdd, Nat.reduceLeDiff, Nat.reduceLT, forall_eq', Option.some.injEq, zarR, zarI, zarL, zle, zq0, zq1, zq2, zq3, zq4, zq5, zq6, zq8, zq9, zq10, zq20, zq7, zq12, zq24, zq40, zq41, zq48, zq100, zq120, zq123, zq480, zq492, zq700, zq729, zq2187, zq2916, zq8748, ne_eq, Int.reduceEq, Int.reduceLT, Int.reduceLE, Int.reduceToNat, Int.reduceMul, Int.reduceAdd, Int.reduceNeg, gk91 hg, gr91_5 hg, gr91_22 hg, gr91_23 hg, gr91_24 hg, gr91_25 hg, gr91_26 hg, gr91_27 hg, gr91_28 hg, gr91_29 hg, gr91_32 hg, gr91_33 hg, gr91_34 hg, gr91_35 hg, gr91_36 hg, gr91_37 hg, gr91_38 hg, gr91_39 hg, gr91_40 hg, gr91_41 hg, gr91_42 hg, gr91_44 hg, gr91_45 hg, gr91_46 hg, gr91_48 hg, gr91_49 hg, gr91_50 hg, gr91_51 hg, gr91_52 hg, c1, c2, if_false, true_or]
end RM
