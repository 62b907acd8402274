theorem mF_fr {G : zG} {h h1 : zM} (hk : gK G) (f : cfr h h1) (i : Nat) : mF G h1 i = mF G h i := by
  unfold mF
  cases e : G.2.2.2 91 3 with
  | none => rfl
  | some u =>
    have := hk u e
    exact f u i (Or.inl (by omega))
theorem INV_mF {G : zG} {h : zM} (hI : INV G h) : mF G h 0 = h 18 9 ∧ mF G h 1 = h 18 10 := by
  unfold mF
  rcases hI.2.2.2 with a | ⟨u, T, Y, a⟩
  · rw [a.1]
    exact ⟨a.2.1.symm, a.2.2.1.symm⟩
  · rw [a.1.2.1]
    obtain ⟨a1, a2, a3, a4, a5, a6, a7⟩ := a
    exact ⟨a5.1.trans a4.1.symm, a5.2.1.trans a4.2.1.symm⟩
theorem INV_T {G : zG} {h : zM} (hI : INV G h) (hb : 0 < h 18 9 ∨ 0 < h 18 10) : ∃ u T Y, IT G u T Y h h := by
  rcases hI.2.2.2 with a | a
  · have h1 := a.2.1
    have h2 := a.2.2.1
    omega
  · exact a
theorem mEnd {h : zM} {v : Int} : mfr h (zu (zu (zu h 91 0 0) 91 1 v) 91 2 (-1)) ∧ (zu (zu (zu h 91 0 0) 91 1 v) 91 2 (-1)) 91 1 = v ∧ (zu (zu (zu h 91 0 0) 91 1 v) 91 2 (-1)) 91 2 = -1 := by
  refine ⟨((mfr.z (by omega)).tr (mfr.z (by omega))).tr (mfr.z (by omega)), ?_, zu_at⟩
  rw [zu_i (by decide)]
  exact zu_at
theorem PR_0 {k : Int → zV} {d n m : Nat} {As : List zV} {G : zG} {h : zM} (z : Int) (hI : INV G h) (hc : ∀ Q : zQ, Q (some (k z)) G h → zRunD ztb zmt' (d + 16) n (zR (some 0) :: As) G h Q) (hm : ∀ Q : zQ, Q (some (k z)) G (zu h 91 0 0) → zRunD ztb zmt' (d + 16) m (zR (some 91) :: As) G h Q) : PR k d n m As G h := by
  apply hc
  refine ⟨rfl, z, rfl, ?_⟩
  apply hm
  refine ⟨rfl, INV_fr hI ?_ ?_⟩
  · intro c i q
    exact mfr.z (by omega) c i (Or.inr (Or.inl q))
  · obtain ⟨a1, a2, a3⟩ := hI.2.2.1
    exact ⟨a1, a2, a3⟩
section AS
variable {d : Nat} {G : zG} {h : zM} {x y z : Int}
theorem p_fault (hI : INV G h) : PR zI d 61 141 [] G h := by
  have hg := hI.1
  refine PR_0 (h 0 12) hI ?_ ?_
  · intro Q K
    rw [r61]
    simp only [e61_0, e61_1, e61_4, zs0, zsI, zsL, zsR, ztl1, ztl0, zc0, zcI, zcL, zcR, true_and, and_true, true_implies, false_implies, implies_true, not_true_eq_false, not_false_eq_true, and_self, Int.toNat_natCast, Nat.reduceAdd, Nat.reduceLeDiff, Nat.reduceLT, forall_eq', Option.some.injEq, zarR, zarI, zarL, zle, zq0, zq1, zq2, zq3, zq4, zq5, zq6, zq8, zq9, zq10, zq20, zq7, zq12, zq24, zq40, zq41, zq48, zq100, zq120, zq123, zq480, zq492, zq700, zq729, zq2187, zq2916, zq8748, ne_eq, Int.reduceEq, Int.reduceLT, Int.reduceLE, Int.reduceToNat, Int.reduceMul, Int.reduceAdd, Int.reduceNeg, gk0 hg, gr0_0 hg, gr0_2 hg, gr0_3 hg, gr0_4 hg, gr0_5 hg, gr0_6 hg, gr0_7 hg, gr0_8 hg, gr0_9 hg, gr0_10 hg, or_true, true_or, if_true, if_false, false_and, and_false, false_or, or_false]
    exact K
  · intro Q K
    rw [r141]
    simp only [e141_0, e141_1, e141_2, e141_5, e141_6, e141_9, zs0, zsI, zsL, zsR, ztl1, ztl0, zc0, zcI, zcL, zcR, true_and, and_true, true_implies, false_implies, implies_true, not_true_eq_false, not_false_eq_true, and_self, Int.toNat_natCast, Nat.reduceAdd, Nat.reduceLeDiff, Nat.reduceLT, forall_eq', Option.some.injEq, zarR, zarI, zarL, zle, zq0, zq1, zq2, zq3, zq4, zq5, zq6, zq8, zq9, zq10, zq20, zq7, zq12, zq24, zq40, zq41, zq48, zq100, zq120, zq123, zq480, zq492, zq700, zq729, zq2187, zq2916, zq8748, ne_eq, Int.reduceEq, Int.reduceLT, Int.reduceLE, Int.reduceToNat, Int.reduceMul, Int.reduceAdd, Int.reduceNeg, gk91 hg, gr91_5 hg, gr91_22 hg, gr91_23 hg, gr91_24 hg, gr91_25 hg, gr91_26 hg, gr91_27 hg, gr91_28 hg, gr91_29 hg, gr91_32 hg, gr91_33 hg, gr91_34 hg, gr91_35 hg, gr91_36 hg, gr91_37 hg, gr91_38 hg, gr91_39 hg, gr91_40 hg, gr91_41 hg, gr91_42 hg, gr91_44 hg, gr91_45 hg, gr91_46 hg, gr91_48 hg, gr91_49 hg, gr91_50 hg, gr91_51 hg, gr91_52 hg, or_true, true_or, if_true, if_false, false_and, and_false, false_or, or_false, zu_i (show ¬ 13 = 0 by decide), hI.2.2.1.2.1]
    exact K
theorem p_trouble (hI : INV G h) : PR zI d 96 213 [] G h := by
  have hg := hI.1
  refine PR_0 (h 0 11) hI ?_ ?_
  · intro Q K
    rw [r96]
    simp only [e96_0, e96_1, e96_4, zs0, zsI, zsL, zsR, ztl1, ztl0, zc0, zcI, zcL, zcR, true_and, and_true, true_implies, false_implies, implies_true, not_true_eq_false, not_false_eq_true, and_self, Int.toNat_natCast, Nat.reduceAdd, Nat.reduceLeDiff, Nat.reduceLT, forall_eq', Option.some.injEq, zarR, zarI, zarL, zle, zq0, zq1, zq2, zq3, zq4, zq5, zq6, zq8, zq9, zq10, zq20, zq7, zq12, zq24, zq40, zq41, zq48, zq100, zq120, zq123, zq480, zq492, zq700, zq729, zq2187, zq2916, zq8748, ne_eq, Int.reduceEq, Int.reduceLT, Int.reduceLE, Int.reduceToNat, Int.reduceMul, Int.reduceAdd, Int.reduceNeg, gk0 hg, gr0_0 hg, gr0_2 hg, gr0_3 hg, gr0_4 hg, gr0_5 hg, gr0_6 hg, gr0_7 hg, gr0_8 hg, gr0_9 hg, gr0_10 hg, or_true, true_or, if_true, if_false, false_and, and_false, false_or, or_false]
    exact K
  · intro Q K
    rw [r213]
    simp only [e213_0, e213_1, e213_2, e213_5, e213_6, e213_9, zs0, zsI, zsL, zsR, ztl1, ztl0, zc0, zcI, zcL, zcR, true_and, and_true, true_implies, false_implies, implies_true, not_true_eq_false, not_false_eq_true, and_self, Int.toNat_natCast, Nat.reduceAdd, Nat.reduceLeDiff, Nat.reduceLT, forall_eq', Option.some.injEq, zarR, zarI, zarL, zle, zq0, zq1, zq2, zq3, zq4, zq5, zq6, zq8, zq9, zq10, zq20, zq7, zq12, zq24, zq40, zq41, zq48, zq100, zq120, zq123, zq480, zq492, zq700, zq729, zq2187, zq2916, zq8748, ne_eq, Int.reduceEq, Int.reduceLT, Int.reduceLE, Int.reduceToNat, Int.reduceMul, Int.reduceAdd, Int.reduceNeg, gk91 hg, gr91_5 hg, gr91_22 hg, gr91_23 hg, gr91_24 hg, gr91_25 hg, gr91_26 hg, gr91_27 hg, gr91_28 hg, gr91_29 hg, gr91_32 hg, gr91_33 hg, gr91_34 hg, gr91_35 hg, gr91_36 hg, gr91_37 hg, gr91_38 hg, gr91_39 hg, gr91_40 hg, gr91_41 hg, gr91_42 hg, gr91_44 hg, gr91_45 hg, gr91_46 hg, gr91_48 hg, gr91_49 hg, gr91_50 hg, gr91_51 hg, gr91_52 hg, or_true, true_or, if_true, if_false, false_and, and_false, false_or, or_false, zu_i (show ¬ 1 = 0 by decide), hI.2.2.1.1]
    exact K
theorem p_where (hI : INV G h) : PR zI d 62 142 [] G h := by
  have hg := hI.1
  refine PR_0 (if h 0 11 = 4 then h 0 13 else -1) hI ?_ ?_
  · intro Q K
    rw [r62]
    by_cases c : h 0 11 = 4
    · rw [if_pos c] at K
      simp only [e62_0, e62_1, e62_4, e62_5, e62_8, e62_9, e62_12, e62_15, e62_16, zs0, zsI, zsL, zsR, ztl1, ztl0, zc0, zcI, zcL, zcR, true_and, and_true, true_implies, false_implies, implies_true, not_true_eq_false, not_false_eq_true, and_self, Int.toNat_natCast, Nat.reduceAdd, Nat.reduceLeDiff, Nat.reduceLT, forall_eq', Option.some.injEq, zarR, zarI, zarL, zle, zq0, zq1, zq2, zq3, zq4, zq5, zq6, zq8, zq9, zq10, zq20, zq7, zq12, zq24, zq40, zq41, zq48, zq100, zq120, zq123, zq480, zq492, zq700, zq729, zq2187, zq2916, zq8748, ne_eq, Int.reduceEq, Int.reduceLT, Int.reduceLE, Int.reduceToNat, Int.reduceMul, Int.reduceAdd, Int.reduceNeg, gk0 hg, gr0_0 hg, gr0_2 hg, gr0_3 hg, gr0_4 hg, gr0_5 hg, gr0_6 hg, gr0_7 hg, gr0_8 hg, gr0_9 hg, gr0_10 hg, or_true, true_or, if_true, if_false, false_and, and_false, false_or, or_false, c]
      exact K
    · rw [if_neg c] at K
      simp only [e62_0, e62_1, e62_4, e62_5, e62_8, e62_9, e62_12, e62_15, e62_16, zs0, zsI, zsL, zsR, ztl1, ztl0, zc0, zcI, zcL, zcR, true_and, and_true, true_implies, false_implies, implies_true, not_true_eq_false, not_false_eq_true, and_self, Int.toNat_natCast, Nat.reduceAdd, Nat.reduceLeDiff, Nat.reduceLT, forall_eq', Option.some.injEq, zarR, zarI, zarL, zle, zq0, zq1, zq2, zq3, zq4, zq5, zq6, zq8, zq9, zq10, zq20, zq7, zq12, zq24, zq40, zq41, zq48, zq100, zq120, zq123, zq480, zq492, zq700, zq729, zq2187, zq2916, zq8748, ne_eq, Int.reduceEq, Int.reduceLT, Int.reduceLE, Int.reduceToNat, Int.reduceMul, Int.reduceAdd, Int.reduceNeg, gk0 hg, gr0_0 hg, gr0_2 hg, gr0_3 hg, gr0_4 hg, gr0_5 hg, gr0_6 hg, gr0_7 hg, gr0_8 hg, gr0_9 hg, gr0_10 hg, or_true, true_or, if_true, if_false, false_and, and_false, false_or, or_false, c]
      exact K
  · intro Q K
    rw [r142]
    have a := hI.2.2.1.2.2
    rw [← a] at K
    simp only [e142_0, e142_1, e142_2, e142_5, e142_6, e142_9, zs0, zsI, zsL, zsR, ztl1, ztl0, zc0, zcI, zcL, zcR, true_and, and_true, true_implies, false_implies, implies_true, not_true_eq_false, not_false_eq_true, and_self, Int.toNat_natCast, Nat.reduceAdd, Nat.reduceLeDiff, Nat.reduceLT, forall_eq', Option.some.injEq, zarR, zarI, zarL, zle, zq0, zq1, zq2, zq3, zq4, zq5, zq6, zq8, zq9, zq10, zq20, zq7, zq12, zq24, zq40, zq41, zq48, zq100, zq120, zq123, zq480, zq492, zq700, zq729, zq2187, zq2916, zq8748, ne_eq, Int.reduceEq, Int.reduceLT, Int.reduceLE, Int.reduceToNat, Int.reduceMul, Int.reduceAdd, Int.reduceNeg, gk91 hg, gr91_5 hg, gr91_22 hg, gr91_23 hg, gr91_24 hg, gr91_25 hg, gr91_26 hg, gr91_27 hg, gr91_28 hg, gr91_29 hg, gr91_32 hg, gr91_33 hg, gr91_34 hg, gr91_35 hg, gr91_36 hg, gr91_37 hg, gr91_38 hg, gr91_39 hg, gr91_40 hg, gr91_41 hg, gr91_42 hg, gr91_44 hg, gr91_45 hg, gr91_46 hg, gr91_48 hg, gr91_49 hg, gr91_50 hg, gr91_51 hg, gr91_52 hg, or_true, true_or, if_true, if_false, false_and, and_false, false_or, or_false, zu_i (show ¬ 2 = 0 by decide)]
    exact K
theorem p_held (hI : INV G h) : PR zI d 71 167 [zI x, zI y] G h := by
  have hg := hI.1
  have hk := INV_gK hI
  obtain ⟨mb, ms⟩ := INV_mF hI
  have bad : rng 0 (h 18 9) x = 0 ∨ rng 0 (h 18 9) x = 1 ∧ rng 0 (h 18 10) y = 0 → PR zI d 71 167 [zI x, zI y] G h := by
    intro hb
    refine PR_q (z := -1) (tr := 1) hI (by decide) ?_ ?_
    · intro Q K
      rw [r71]
      rcases hb with e | ⟨e, k⟩
      · simp only [e71_0, e71_1, e71_2, e71_5, e71_8, e71_9, e71_10, e71_13, e71_16, e71_17, e71_18, e71_21, e71_22, e71_23, e71_24, e71_25, e71_28, e71_29, e71_32, e71_35, e71_36, e71_39, e71_40, e71_41, e71_44, e71_45, zs0, zsI, zsL, zsR, ztl1, ztl0, zc0, zcI, zcL, zcR, true_and, and_true, true_implies, false_implies, implies_true, not_true_eq_false, not_false_eq_true, and_self, Int.toNat_natCast, Nat.reduceAdd, Nat.reduceLeDiff, Nat.reduceLT, forall_eq', Option.some.injEq, zarR, zarI, zarL, zle, zq0, zq1, zq2, zq3, zq4, zq5, zq6, zq8, zq9, zq10, zq20, zq7, zq12, zq24, zq40, zq41, zq48, zq100, zq120, zq123, zq480, zq492, zq700, zq729, zq2187, zq2916, zq8748, ne_eq, Int.reduceEq, Int.reduceLT, Int.reduceLE, Int.reduceToNat, Int.reduceMul, Int.reduceAdd, Int.reduceNeg, gk0 hg, gr0_0 hg, gr0_2 hg, gr0_3 hg, gr0_4 hg, gr0_5 hg, gr0_6 hg, gr0_7 hg, gr0_8 hg, gr0_9 hg, gr0_10 hg, or_true, true_or, if_true, if_false, false_and, and_false, false_or, or_false, f_isBaker hg, e]
        exact K _ cfr.z zu_at
      · simp only [e71_0, e71_1, e71_2, e71_5, e71_8, e71_9, e71_10, e71_13, e71_16, e71_17, e71_18, e71_21, e71_22, e71_23, e71_24, e71_25, e71_28, e71_29, e71_32, e71_35, e71_36, e71_39, e71_40, e71_41, e71_44, e71_45, zs0, zsI, zsL, zsR, ztl1, ztl0, zc0, zcI, zcL, zcR, true_and, and_true, true_implies, false_implies, implies_true, not_true_eq_false, not_false_eq_true, and_self, Int.toNat_natCast, Nat.reduceAdd, Nat.reduceLeDiff, Nat.reduceLT, forall_eq', Option.some.injEq, zarR, zarI, zarL, zle, zq0, zq1, zq2, zq3, zq4, zq5, zq6, zq8, zq9, zq10, zq20, zq7, zq12, zq24, zq40, zq41, zq48, zq100, zq120, zq123, zq480, zq492, zq700, zq729, zq2187, zq2916, zq8748, ne_eq, Int.reduceEq, Int.reduceLT, Int.reduceLE, Int.reduceToNat, Int.reduceMul, Int.reduceAdd, Int.reduceNeg, gk0 hg, gr0_0 hg, gr0_2 hg, gr0_3 hg, gr0_4 hg, gr0_5 hg, gr0_6 hg, gr0_7 hg, gr0_8 hg, gr0_9 hg, gr0_10 hg, or_true, true_or, if_true, if_false, false_and, and_false, false_or, or_false, f_isBaker hg, f_isSort hg, e, k]
        exact K _ cfr.z zu_at
    · intro h1 f1 Q K
      rw [r167]
      rcases hb with e | ⟨e, k⟩
      · simp only [e167_0, e167_1, e167_2, e167_5, e167_6, e167_7, e167_10, e167_13, e167_14, e167_15, e167_18, e167_21, e167_22, e167_23, e167_26, e167_27, e167_28, e167_31, e167_32, e167_35, e167_38, e167_39, e167_40, e167_43, zs0, zsI, zsL, zsR, ztl1, ztl0, zc0, zcI, zcL, zcR, true_and, and_true, true_implies, false_implies, implies_true, not_true_eq_false, not_false_eq_true, and_self, Int.toNat_natCast, Nat.reduceAdd, Nat.reduceLeDiff, Nat.reduceLT, forall_eq', Option.some.injEq, zarR, zarI, zarL, zle, zq0, zq1, zq2, zq3, zq4, zq5, zq6, zq8, zq9, zq10, zq20, zq7, zq12, zq24, zq40, zq41, zq48, zq100, zq120, zq123, zq480, zq492, zq700, zq729, zq2187, zq2916, zq8748, ne_eq, Int.reduceEq, Int.reduceLT, Int.reduceLE, Int.reduceToNat, Int.reduceMul, Int.reduceAdd, Int.reduceNeg, gk91 hg, gr91_5 hg, gr91_22 hg, gr91_23 hg, gr91_24 hg, gr91_25 hg, gr91_26 hg, gr91_27 hg, gr91_28 hg, gr91_29 hg, gr91_32 hg, gr91_33 hg, gr91_34 hg, gr91_35 hg, gr91_36 hg, gr91_37 hg, gr91_38 hg, gr91_39 hg, gr91_40 hg, gr91_41 hg, gr91_42 hg, gr91_44 hg, gr91_45 hg, gr91_46 hg, gr91_48 hg, gr91_49 hg, gr91_50 hg, gr91_51 hg, gr91_52 hg, or_true, true_or, if_true, if_false, false_and, and_false, false_or, or_false, m_isBaker hg hk, mF_z hk (show 91 < 121 by decide), mF_fr hk f1, mb, e, m_refused hg]
        exact K _ mEnd.1 mEnd.2.1 mEnd.2.2
      · simp only [e167_0, e167_1, e167_2, e167_5, e167_6, e167_7, e167_10, e167_13, e167_14, e167_15, e167_18, e167_21, e167_22, e167_23, e167_26, e167_27, e167_28, e167_31, e167_32, e167_35, e167_38, e167_39, e167_40, e167_43, zs0, zsI, zsL, zsR, ztl1, ztl0, zc0, zcI, zcL, zcR, true_and, and_true, true_implies, false_implies, implies_true, not_true_eq_false, not_false_eq_true, and_self, Int.toNat_natCast, Nat.reduceAdd, Nat.reduceLeDiff, Nat.reduceLT, forall_eq', Option.some.injEq, zarR, zarI, zarL, zle, zq0, zq1, zq2, zq3, zq4, zq5, zq6, zq8, zq9, zq10, zq20, zq7, zq12, zq24, zq40, zq41, zq48, zq100, zq120, zq123, zq480, zq492, zq700, zq729, zq2187, zq2916, zq8748, ne_eq, Int.reduceEq, Int.reduceLT, Int.reduceLE, Int.reduceToNat, Int.reduceMul, Int.reduceAdd, Int.reduceNeg, gk91 hg, gr91_5 hg, gr91_22 hg, gr91_23 hg, gr91_24 hg, gr91_25 hg, gr91_26 hg, gr91_27 hg, gr91_28 hg, gr91_29 hg, gr91_32 hg, gr91_33 hg, gr91_34 hg, gr91_35 hg, gr91_36 hg, gr91_37 hg, gr91_38 hg, gr91_39 hg, gr91_40 hg, gr91_41 hg, gr91_42 hg, gr91_44 hg, gr91_45 hg, gr91_46 hg, gr91_48 hg, gr91_49 hg, gr91_50 hg, gr91_51 hg, gr91_52 hg, or_true, true_or, if_true, if_false, false_and, and_false, false_or, or_false, m_isBaker hg hk, m_isSort hg hk, mF_z hk (show 91 < 121 by decide), mF_fr hk f1, mb, ms, e, k, m_refused hg]
        exact K _ mEnd.1 mEnd.2.1 mEnd.2.2
  rcases rng_c 0 (h 18 9) x with ⟨e, e1, e2⟩ | ⟨e, e2⟩
  · rcases rng_c 0 (h 18 10) y with ⟨k, k1, k2⟩ | ⟨k, k2⟩
    · obtain ⟨u, T, Y, hu, hu2, hw, kt, rt, i4, i5⟩ := INV_T hI (by omega)
      obtain ⟨b, rfl⟩ := Int.eq_ofNat_of_zero_le e1
      obtain ⟨s, rfl⟩ := Int.eq_ofNat_of_zero_le k1
      have hb : b < nB T := by have := kt.1; omega
      have hs : s < nS T := by have := kt.2.1; omega
      have hb3 := hw.1
      have hs4 := hw.2.1
      have hY := i4.1.1
      have fs := fun Q' => f_seat (d := d + 14) (Q := Q') (h := zu h 0 11 0) hg (Y := Y) (b := b) (s := s) (by rw [zu_c (by decide)]; exact i4.1.2.1) hY (by omega) (by omega)
      have w1 : ((Y * 12 + b * 4 + s : Nat) : Int) < 492 := by omega
      have w2 : ((3 * s + b : Nat) : Int) < 24 := by omega
      refine PR_q (z := h 39 (Y * 12 + b * 4 + s)) (tr := 0) hI (by decide) ?_ ?_
      · intro Q K
        rw [r71]
        simp only [e71_0, e71_1, e71_2, e71_5, e71_8, e71_9, e71_10, e71_13, e71_16, e71_17, e71_18, e71_21, e71_22, e71_23, e71_24, e71_25, e71_28, e71_29, e71_32, e71_35, e71_36, e71_39, e71_40, e71_41, e71_44, e71_45, zs0, zsI, zsL, zsR, ztl1, ztl0, zc0, zcI, zcL, zcR, true_and, and_true, true_implies, false_implies, implies_true, not_true_eq_false, not_false_eq_true, and_self, Int.toNat_natCast, Nat.reduceAdd, Nat.reduceLeDiff, Nat.reduceLT, forall_eq', Option.some.injEq, zarR, zarI, zarL, zle, zq0, zq1, zq2, zq3, zq4, zq5, zq6, zq8, zq9, zq10, zq20, zq7, zq12, zq24, zq40, zq41, zq48, zq100, zq120, zq123, zq480, zq492, zq700, zq729, zq2187, zq2916, zq8748, ne_eq, Int.reduceEq, Int.reduceLT, Int.reduceLE, Int.reduceToNat, Int.reduceMul, Int.reduceAdd, Int.reduceNeg, gk0 hg, gr0_0 hg, gr0_2 hg, gr0_3 hg, gr0_4 hg, gr0_5 hg, gr0_6 hg, gr0_7 hg, gr0_8 hg, gr0_9 hg, gr0_10 hg, gk38 hg, gr38_1 hg, gr38_2 hg, gr38_3 hg, gr38_4 hg, gr38_5 hg, gr38_6 hg, gk39 hg, gl39 hg, or_true, true_or, if_true, if_false, false_and, and_false, false_or, or_false, f_isBaker hg, f_isSort hg, e, k, fs, w1, zu_c (show ¬ 39 = 0 by decide)]
        exact K _ cfr.z zu_at
      · intro h1 f1 Q K
        rw [r167]
        have v : h1 101 (3 * s + b) = h 39 (Y * 12 + b * 4 + s) := by
          rw [f1 101 _ (by omega)]
          exact (i4.2.2.2.1.1 s b hs hb).symm
        have fc := fun h' Q' => m_cell (d := d + 14) (Q := Q') (G := G) (h := h') (a := s) (b := b) (by omega) (by omega)
        simp only [e167_0, e167_1, e167_2, e167_5, e167_6, e167_7, e167_10, e167_13, e167_14, e167_15, e167_18, e167_21, e167_22, e167_23, e167_26, e167_27, e167_28, e167_31, e167_32, e167_35, e167_38, e167_39, e167_40, e167_43, zs0, zsI, zsL, zsR, ztl1, ztl0, zc0, zcI, zcL, zcR, true_and, and_true, true_implies, false_implies, implies_true, not_true_eq_false, not_false_eq_true, and_self, Int.toNat_natCast, Nat.reduceAdd, Nat.reduceLeDiff, Nat.reduceLT, forall_eq', Option.some.injEq, zarR, zarI, zarL, zle, zq0, zq1, zq2, zq3, zq4, zq5, zq6, zq8, zq9, zq10, zq20, zq7, zq12, zq24, zq40, zq41, zq48, zq100, zq120, zq123, zq480, zq492, zq700, zq729, zq2187, zq2916, zq8748, ne_eq, Int.reduceEq, Int.reduceLT, Int.reduceLE, Int.reduceToNat, Int.reduceMul, Int.reduceAdd, Int.reduceNeg, gk91 hg, gr91_5 hg, gr91_22 hg, gr91_23 hg, gr91_24 hg, gr91_25 hg, gr91_26 hg, gr91_27 hg, gr91_28 hg, gr91_29 hg, gr91_32 hg, gr91_33 hg, gr91_34 hg, gr91_35 hg, gr91_36 hg, gr91_37 hg, gr91_38 hg, gr91_39 hg, gr91_40 hg, gr91_41 hg, gr91_42 hg, gr91_44 hg, gr91_45 hg, gr91_46 hg, gr91_48 hg, gr91_49 hg, gr91_50 hg, gr91_51 hg, gr91_52 hg, gk101 hg, gl101 hg, or_true, true_or, if_true, if_false, false_and, and_false, false_or, or_false, m_isBaker hg hk, m_isSort hg hk, mF_z hk (show 91 < 121 by decide), mF_fr hk f1, mb, ms, e, k, fc, w2, zu_c (show ¬ 101 = 91 by decide), v, m_done hg]
        exact K _ mEnd.1 mEnd.2.1 mEnd.2.2
    · exact bad (Or.inr ⟨e, k⟩)
  · exact bad (Or.inl e)
theorem p_earned (hI : INV G h) : PR zL d 72 168 [zI x, zI y] G h := by
  have hg := hI.1
  have hk := INV_gK hI
  obtain ⟨mb, ms⟩ := INV_mF hI
  have hyy : h 91 31 = h 38 0 := by
    rcases hI.2.2.2 with a | ⟨u, T, Y, a⟩
    · rw [a.2.2.2.2.2.2.1, a.2.2.2.2.2.2.2.1]
    · obtain ⟨a1, a2, a3, a4, a5, a6, a7⟩ := a
      rw [a6.1.2.1, a6.1.2.2]
  have bad : rng 0 (h 18 9) x = 0 ∨ rng 0 (h 18 9) x = 1 ∧ (y < 0 ∨ h 38 0 ≤ y) → PR zL d 72 168 [zI x, zI y] G h := by
    intro hb
    refine PR_q (z := -9223372036854775808) (tr := 1) hI (by decide) ?_ ?_
    · intro Q K
      rw [r72]
      rcases hb with e | ⟨e, k⟩
      · simp only [e72_0, e72_1, e72_2, e72_5, e72_8, e72_9, e72_12, e72_13, e72_14, e72_17, e72_20, e72_23, e72_24, e72_25, e72_28, e72_31, e72_32, e72_33, e72_34, e72_37, e72_38, e72_41, e72_44, e72_45, e72_46, e72_47, e72_48, e72_49, e72_50, zs0, zsI, zsL, zsR, ztl1, ztl0, zc0, zcI, zcL, zcR, true_and, and_true, true_implies, false_implies, implies_true, not_true_eq_false, not_false_eq_true, and_self, Int.toNat_natCast, Nat.reduceAdd, Nat.reduceLeDiff, Nat.reduceLT, forall_eq', Option.some.injEq, zarR, zarI, zarL, zle, zq0, zq1, zq2, zq3, zq4, zq5, zq6, zq8, zq9, zq10, zq20, zq7, zq12, zq24, zq40, zq41, zq48, zq100, zq120, zq123, zq480, zq492, zq700, zq729, zq2187, zq2916, zq8748, ne_eq, Int.reduceEq, Int.reduceLT, Int.reduceLE, Int.reduceToNat, Int.reduceMul, Int.reduceAdd, Int.reduceNeg, gk0 hg, gr0_0 hg, gr0_2 hg, gr0_3 hg, gr0_4 hg, gr0_5 hg, gr0_6 hg, gr0_7 hg, gr0_8 hg, gr0_9 hg, gr0_10 hg, or_true, true_or, if_true, if_false, false_and, and_false, false_or, or_false, f_isBaker hg, e]
        exact K _ cfr.z zu_at
      · by_cases k2 : y < 0
        · simp only [e72_0, e72_1, e72_2, e72_5, e72_8, e72_9, e72_12, e72_13, e72_14, e72_17, e72_20, e72_23, e72_24, e72_25, e72_28, e72_31, e72_32, e72_33, e72_34, e72_37, e72_38, e72_41, e72_44, e72_45, e72_46, e72_47, e72_48, e72_49, e72_50, zs0, zsI, zsL, zsR, ztl1, ztl0, zc0, zcI, zcL, zcR, true_and, and_true, true_implies, false_implies, implies_true, not_true_eq_false, not_false_eq_true, and_self, Int.toNat_natCast, Nat.reduceAdd, Nat.reduceLeDiff, Nat.reduceLT, forall_eq', Option.some.injEq, zarR, zarI, zarL, zle, zq0, zq1, zq2, zq3, zq4, zq5, zq6, zq8, zq9, zq10, zq20, zq7, zq12, zq24, zq40, zq41, zq48, zq100, zq120, zq123, zq480, zq492, zq700, zq729, zq2187, zq2916, zq8748, ne_eq, Int.reduceEq, Int.reduceLT, Int.reduceLE, Int.reduceToNat, Int.reduceMul, Int.reduceAdd, Int.reduceNeg, gk0 hg, gr0_0 hg, gr0_2 hg, gr0_3 hg, gr0_4 hg, gr0_5 hg, gr0_6 hg, gr0_7 hg, gr0_8 hg, gr0_9 hg, gr0_10 hg, or_true, true_or, if_true, if_false, false_and, and_false, false_or, or_false, f_isBaker hg, e, k2]
          exact K _ cfr.z zu_at
        · have k3 : ¬ y < h 38 0 := by omega
          simp only [e72_0, e72_1, e72_2, e72_5, e72_8, e72_9, e72_12, e72_13, e72_14, e72_17, e72_20, e72_23, e72_24, e72_25, e72_28, e72_31, e72_32, e72_33, e72_34, e72_37, e72_38, e72_41, e72_44, e72_45, e72_46, e72_47, e72_48, e72_49, e72_50, zs0, zsI, zsL, zsR, ztl1, ztl0, zc0, zcI, zcL, zcR, true_and, and_true, true_implies, false_implies, implies_true, not_true_eq_false, not_false_eq_true, and_self, Int.toNat_natCast, Nat.reduceAdd, Nat.reduceLeDiff, Nat.reduceLT, forall_eq', Option.some.injEq, zarR, zarI, zarL, zle, zq0, zq1, zq2, zq3, zq4, zq5, zq6, zq8, zq9, zq10, zq20, zq7, zq12, zq24, zq40, zq41, zq48, zq100, zq120, zq123, zq480, zq492, zq700, zq729, zq2187, zq2916, zq8748, ne_eq, Int.reduceEq, Int.reduceLT, Int.reduceLE, Int.reduceToNat, Int.reduceMul, Int.reduceAdd, Int.reduceNeg, gk0 hg, gr0_0 hg, gr0_2 hg, gr0_3 hg, gr0_4 hg, gr0_5 hg, gr0_6 hg, gr0_7 hg, gr0_8 hg, gr0_9 hg, gr0_10 hg, gk38 hg, gr38_1 hg, gr38_2 hg, gr38_3 hg, gr38_4 hg, gr38_5 hg, gr38_6 hg, or_true, true_or, if_true, if_false, false_and, and_false, false_or, or_false, f_isBaker hg, e, k2, k3]
          exact K _ cfr.z zu_at
    · intro h1 f1 Q K
      rw [r168]
      rcases hb with e | ⟨e, k⟩
      · simp only [e168_0, e168_1, e168_2, e168_5, e168_6, e168_7, e168_10, e168_13, e168_14, e168_17, e168_18, e168_19, e168_22, e168_25, e168_26, e168_27, e168_30, e168_31, e168_32, e168_33, e168_34, e168_35, e168_36, e168_37, e168_40, e168_43, e168_44, e168_45, e168_48, zs0, zsI, zsL, zsR, ztl1, ztl0, zc0, zcI, zcL, zcR, true_and, and_true, true_implies, false_implies, implies_true, not_true_eq_false, not_false_eq_true, and_self, Int.toNat_natCast, Nat.reduceAdd, Nat.reduceLeDiff, Nat.reduceLT, forall_eq', Option.some.injEq, zarR, zarI, zarL, zle, zq0, zq1, zq2, zq3, zq4, zq5, zq6, zq8, zq9, zq10, zq20, zq7, zq12, zq24, zq40, zq41, zq48, zq100, zq120, zq123, zq480, zq492, zq700, zq729, zq2187, zq2916, zq8748, ne_eq, Int.reduceEq, Int.reduceLT, Int.reduceLE, Int.reduceToNat, Int.reduceMul, Int.reduceAdd, Int.reduceNeg, gk91 hg, gr91_5 hg, gr91_22 hg, gr91_23 hg, gr91_24 hg, gr91_25 hg, gr91_26 hg, gr91_27 hg, gr91_28 hg, gr91_29 hg, gr91_32 hg, gr91_33 hg, gr91_34 hg, gr91_35 hg, gr91_36 hg, gr91_37 hg, gr91_38 hg, gr91_39 hg, gr91_40 hg, gr91_41 hg, gr91_42 hg, gr91_44 hg, gr91_45 hg, gr91_46 hg, gr91_48 hg, gr91_49 hg, gr91_50 hg, gr91_51 hg, gr91_52 hg, or_true, true_or, if_true, if_false, false_and, and_false, false_or, or_false, m_isBaker hg hk, mF_z hk (show 91 < 121 by decide), mF_fr hk f1, mb, e, m_lost hg]
        exact K _ mEnd.1 mEnd.2.1 mEnd.2.2
      · by_cases k2 : y < 0
        · simp only [e168_0, e168_1, e168_2, e168_5, e168_6, e168_7, e168_10, e168_13, e168_14, e168_17, e168_18, e168_19, e168_22, e168_25, e168_26, e168_27, e168_30, e168_31, e168_32, e168_33, e168_34, e168_35, e168_36, e168_37, e168_40, e168_43, e168_44, e168_45, e168_48, zs0, zsI, zsL, zsR, ztl1, ztl0, zc0, zcI, zcL, zcR, true_and, and_true, true_implies, false_implies, implies_true, not_true_eq_false, not_false_eq_true, and_self, Int.toNat_natCast, Nat.reduceAdd, Nat.reduceLeDiff, Nat.reduceLT, forall_eq', Option.some.injEq, zarR, zarI, zarL, zle, zq0, zq1, zq2, zq3, zq4, zq5, zq6, zq8, zq9, zq10, zq20, zq7, zq12, zq24, zq40, zq41, zq48, zq100, zq120, zq123, zq480, zq492, zq700, zq729, zq2187, zq2916, zq8748, ne_eq, Int.reduceEq, Int.reduceLT, Int.reduceLE, Int.reduceToNat, Int.reduceMul, Int.reduceAdd, Int.reduceNeg, gk91 hg, gr91_5 hg, gr91_22 hg, gr91_23 hg, gr91_24 hg, gr91_25 hg, gr91_26 hg, gr91_27 hg, gr91_28 hg, gr91_29 hg, gr91_32 hg, gr91_33 hg, gr91_34 hg, gr91_35 hg, gr91_36 hg, gr91_37 hg, gr91_38 hg, gr91_39 hg, gr91_40 hg, gr91_41 hg, gr91_42 hg, gr91_44 hg, gr91_45 hg, gr91_46 hg, gr91_48 hg, gr91_49 hg, gr91_50 hg, gr91_51 hg, gr91_52 hg, or_true, true_or, if_true, if_false, false_and, and_false, false_or, or_false, m_isBaker hg hk, mF_z hk (show 91 < 121 by decide), mF_fr hk f1, mb, e, k2, m_lost hg]
          exact K _ mEnd.1 mEnd.2.1 mEnd.2.2
        · have k3 : h 38 0 ≤ y := by omega
          have v : h1 91 31 = h 38 0 := by rw [f1 91 31 (by omega)]; exact hyy
          simp only [e168_0, e168_1, e168_2, e168_5, e168_6, e168_7, e168_10, e168_13, e168_14, e168_17, e168_18, e168_19, e168_22, e168_25, e168_26, e168_27, e168_30, e168_31, e168_32, e168_33, e168_34, e168_35, e168_36, e168_37, e168_40, e168_43, e168_44, e168_45, e168_48, zs0, zsI, zsL, zsR, ztl1, ztl0, zc0, zcI, zcL, zcR, true_and, and_true, true_implies, false_implies, implies_true, not_true_eq_false, not_false_eq_true, and_self, Int.toNat_natCast, Nat.reduceAdd, Nat.reduceLeDiff, Nat.reduceLT, forall_eq', Option.some.injEq, zarR, zarI, zarL, zle, zq0, zq1, zq2, zq3, zq4, zq5, zq6, zq8, zq9, zq10, zq20, zq7, zq12, zq24, zq40, zq41, zq48, zq100, zq120, zq123, zq480, zq492, zq700, zq729, zq2187, zq2916, zq8748, ne_eq, Int.reduceEq, Int.reduceLT, Int.reduceLE, Int.reduceToNat, Int.reduceMul, Int.reduceAdd, Int.reduceNeg, gk91 hg, gr91_5 hg, gr91_22 hg, gr91_23 hg, gr91_24 hg, gr91_25 hg, gr91_26 hg, gr91_27 hg, gr91_28 hg, gr91_29 hg, gr91_32 hg, gr91_33 hg, gr91_34 hg, gr91_35 hg, gr91_36 hg, gr91_37 hg, gr91_38 hg, gr91_39 hg, gr91_40 hg, gr91_41 hg, gr91_42 hg, gr91_44 hg, gr91_45 hg, gr91_46 hg, gr91_48 hg, gr91_49 hg, gr91_50 hg, gr91_51 hg, gr91_52 hg, or_true, true_or, if_true, if_false, false_and, and_false, false_or, or_false, m_isBaker hg hk, mF_z hk (show 91 < 121 by decide), mF_fr hk f1, mb, e, k2, zu_i (show ¬ 31 = 0 by decide), v, k3, m_lost hg]
          exact K _ mEnd.1 mEnd.2.1 mEnd.2.2
  rcases rng_c 0 (h 18 9) x with ⟨e, e1, e2⟩ | ⟨e, e2⟩
  · by_cases k : y < 0 ∨ h 38 0 ≤ y
    · exact bad (Or.inr ⟨e, k⟩)
    · obtain ⟨u, T, Y, hu, hu2, hw, kt, rt, i4, i5⟩ := INV_T hI (by omega)
      obtain ⟨b, rfl⟩ := Int.eq_ofNat_of_zero_le e1
      obtain ⟨s, rfl⟩ := Int.eq_ofNat_of_zero_le (show 0 ≤ y by omega)
      have hYe := i4.1.2.1
      have hb3 := hw.1
      have hbk := kt.1
      have hY := i4.1.1
      have k1 : ¬ (s : Int) < 0 := by omega
      have k2 : (s : Int) < h 38 0 := by omega
      have k4 : ¬ h 38 0 ≤ (s : Int) := by omega
      have w1 : ((s * 3 + b : Nat) : Int) < 120 := by omega
      have w2 : ((3 * s + b : Nat) : Int) < 120 := by omega
      have hs : s < Y := by omega
      refine PR_q (z := h 43 (s * 3 + b)) (tr := 0) hI (by decide) ?_ ?_
      · intro Q K
        rw [r72]
        simp only [e72_0, e72_1, e72_2, e72_5, e72_8, e72_9, e72_12, e72_13, e72_14, e72_17, e72_20, e72_23, e72_24, e72_25, e72_28, e72_31, e72_32, e72_33, e72_34, e72_37, e72_38, e72_41, e72_44, e72_45, e72_46, e72_47, e72_48, e72_49, e72_50, zs0, zsI, zsL, zsR, ztl1, ztl0, zc0, zcI, zcL, zcR, true_and, and_true, true_implies, false_implies, implies_true, not_true_eq_false, not_false_eq_true, and_self, Int.toNat_natCast, Nat.reduceAdd, Nat.reduceLeDiff, Nat.reduceLT, forall_eq', Option.some.injEq, zarR, zarI, zarL, zle, zq0, zq1, zq2, zq3, zq4, zq5, zq6, zq8, zq9, zq10, zq20, zq7, zq12, zq24, zq40, zq41, zq48, zq100, zq120, zq123, zq480, zq492, zq700, zq729, zq2187, zq2916, zq8748, ne_eq, Int.reduceEq, Int.reduceLT, Int.reduceLE, Int.reduceToNat, Int.reduceMul, Int.reduceAdd, Int.reduceNeg, gk0 hg, gr0_0 hg, gr0_2 hg, gr0_3 hg, gr0_4 hg, gr0_5 hg, gr0_6 hg, gr0_7 hg, gr0_8 hg, gr0_9 hg, gr0_10 hg, gk38 hg, gr38_1 hg, gr38_2 hg, gr38_3 hg, gr38_4 hg, gr38_5 hg, gr38_6 hg, gk43 hg, gl43 hg, or_true, true_or, if_true, if_false, false_and, and_false, false_or, or_false, f_isBaker hg, e, k1, k2, wrN (z := (s : Int) * 3) (m := s * 3) (by omega) (by omega), wrN (z := ((s * 3 : Nat) : Int) + (b : Int)) (m := s * 3 + b) (by omega) (by omega), w1, zu_c (show ¬ 43 = 0 by decide)]
        exact K _ cfr.z zu_at
      · intro h1 f1 Q K
        rw [r168]
        have v : h1 91 31 = h 38 0 := by rw [f1 91 31 (by omega)]; exact hyy
        have v2 : h1 108 (3 * s + b) = h 43 (s * 3 + b) := by
          rw [f1 108 _ (by omega)]
          exact (i4.2.2.2.2.1 s b hs (by omega)).symm
        simp only [e168_0, e168_1, e168_2, e168_5, e168_6, e168_7, e168_10, e168_13, e168_14, e168_17, e168_18, e168_19, e168_22, e168_25, e168_26, e168_27, e168_30, e168_31, e168_32, e168_33, e168_34, e168_35, e168_36, e168_37, e168_40, e168_43, e168_44, e168_45, e168_48, zs0, zsI, zsL, zsR, ztl1, ztl0, zc0, zcI, zcL, zcR, true_and, and_true, true_implies, false_implies, implies_true, not_true_eq_false, not_false_eq_true, and_self, Int.toNat_natCast, Nat.reduceAdd, Nat.reduceLeDiff, Nat.reduceLT, forall_eq', Option.some.injEq, zarR, zarI, zarL, zle, zq0, zq1, zq2, zq3, zq4, zq5, zq6, zq8, zq9, zq10, zq20, zq7, zq12, zq24, zq40, zq41, zq48, zq100, zq120, zq123, zq480, zq492, zq700, zq729, zq2187, zq2916, zq8748, ne_eq, Int.reduceEq, Int.reduceLT, Int.reduceLE, Int.reduceToNat, Int.reduceMul, Int.reduceAdd, Int.reduceNeg, gk91 hg, gr91_5 hg, gr91_22 hg, gr91_23 hg, gr91_24 hg, gr91_25 hg, gr91_26 hg, gr91_27 hg, gr91_28 hg, gr91_29 hg, gr91_32 hg, gr91_33 hg, gr91_34 hg, gr91_35 hg, gr91_36 hg, gr91_37 hg, gr91_38 hg, gr91_39 hg, gr91_40 hg, gr91_41 hg, gr91_42 hg, gr91_44 hg, gr91_45 hg, gr91_46 hg, gr91_48 hg, gr91_49 hg, gr91_50 hg, gr91_51 hg, gr91_52 hg, gk108 hg, gl108 hg, or_true, true_or, if_true, if_false, false_and, and_false, false_or, or_false, m_isBaker hg hk, mF_z hk (show 91 < 121 by decide), mF_fr hk f1, mb, e, k1, k4, zu_i (show ¬ 31 = 0 by decide), v, wrN (z := 3 * (s : Int)) (m := 3 * s) (by omega) (by omega), wrN (z := ((3 * s : Nat) : Int) + (b : Int)) (m := 3 * s + b) (by omega) (by omega), w2, zu_c (show ¬ 108 = 91 by decide), v2, m_told hg]
        exact K _ mEnd.1 mEnd.2.1 mEnd.2.2
  · exact bad (Or.inl e)
end AS
