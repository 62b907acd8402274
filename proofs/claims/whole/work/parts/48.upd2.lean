theorem I4_seed {T : aTn} (hw : wT T) {Y : Nat} {g h g' h' : zM} (hI : I4 T Y g h) {v : Int} (hv : 0 ≤ v ∧ v ≤ 65536) (h1 : ∀ c i, 38 ≤ c → c ≤ 44 → ¬ (c = 42 ∧ i = Y) → g' c i = g c i) (k0 : g' 42 Y = v) (h2 : h' 91 30 = v) (h3 : h' 91 31 = h 91 31) (h4 : ∀ i, i < 12 → h' 101 i = h 101 i) (h5 : ∀ c i, 102 ≤ c → c ≤ 109 → h' c i = h c i) : I4 T Y g' h' := by
  have hns := hw.2.1
  have hnb := hw.1
  unfold I4 at hI ⊢
  obtain ⟨a1, ⟨a2, b2, b3⟩, a3, ⟨a4, a5, a6⟩, a7⟩ := hI
  have g38' : ∀ i, g' 38 i = g 38 i := fun i => h1 38 i (by decide) (by decide) (by omega)
  have g39' : ∀ i, g' 39 i = g 39 i := fun i => h1 39 i (by decide) (by decide) (by omega)
  have g40' : ∀ i, g' 40 i = g 40 i := fun i => h1 40 i (by decide) (by decide) (by omega)
  have g41' : ∀ i, g' 41 i = g 41 i := fun i => h1 41 i (by decide) (by decide) (by omega)
  have g43' : ∀ i, g' 43 i = g 43 i := fun i => h1 43 i (by decide) (by decide) (by omega)
  have g44' : ∀ i, g' 44 i = g 44 i := fun i => h1 44 i (by decide) (by decide) (by omega)
  simp only [g38', g39', g40', g41', g43', g44', h2, h3, h5 102 _ (by decide) (by decide), h5 103 _ (by decide) (by decide), h5 104 _ (by decide) (by decide), h5 105 _ (by decide) (by decide), h5 106 _ (by decide) (by decide), h5 107 _ (by decide) (by decide), h5 108 _ (by decide) (by decide), h5 109 _ (by decide) (by decide)]
  refine ⟨a1, ⟨k0, ?_, ?_⟩, a3, ⟨?_, a5, a6⟩, a7⟩
  · intro y hy
    rw [h1 42 _ (by decide) (by decide) (by omega)]
    exact b2 y hy
  · intro y hy
    by_cases q : y = Y
    · rw [q, k0]
      exact hv
    · rw [h1 42 _ (by decide) (by decide) (by omega)]
      exact b3 y hy
  · intro s b q1 q2
    rw [h4 _ (by omega)]
    exact a4 s b q1 q2
/-- a baker's costs become v -/
def aCst (T : aTn) (b : Nat) (v : Int) : aTn := (T.1, T.2.1, T.2.2.1, T.2.2.2.1, T.2.2.2.2.1, fun j i => if j = 0 ∧ i = b then v else T.2.2.2.2.2 j i)
theorem aCst_0 {T : aTn} {b : Nat} {v : Int} {i : Nat} : tr (aCst T b v) 0 i = if i = b then v else tr T 0 i := by
  unfold tr aCst
  dsimp only
  by_cases h : i = b
  · rw [if_pos h, if_pos ⟨rfl, h⟩]
  · rw [if_neg h, if_neg (fun q => h q.2)]
theorem aCst_s {T : aTn} {b : Nat} {v : Int} {j i : Nat} (hj : ¬ j = 0) : tr (aCst T b v) j i = tr T j i := by
  unfold tr aCst
  dsimp only
  rw [if_neg (fun q => hj q.1)]
theorem aCst_w {T : aTn} (hw : wT T) {b : Nat} {v : Int} (hv : 0 ≤ v ∧ v ≤ 99) : wT (aCst T b v) := by
  refine ⟨hw.1, hw.2.1, hw.2.2.1, hw.2.2.2.1, hw.2.2.2.2.1, fun i => ?_⟩
  have h1 := hw.2.2.2.2.2 i
  rw [aCst_0, aCst_s (by decide), aCst_s (by decide), aCst_s (by decide), aCst_s (by decide), aCst_s (by decide), aCst_s (by decide), aCst_s (by decide), aCst_s (by decide)]
  refine ⟨?_, h1.2⟩
  split
  · exact hv
  · exact h1.1
section UQ
variable {d : Nat} {G : zG} {h : zM} {x y z : Int}
theorem rng00 : rng 0 0 0 = 0 := by decide
theorem q_none : ∀ q : Nat, ((none : Option Nat) = some q) = False := fun q => by simp
theorem q_some {u : Nat} : (some u = none) = False := by simp
theorem INV_rng (hI : INV G h) : (rng 0 (h 18 9) 0 = 0 ∧ I0 G h h) ∨ (rng 0 (h 18 9) 0 = 1 ∧ ∃ u T Y, IT G u T Y h h) := by
  rcases hI.2.2.2 with a | a
  · left
    rw [a.2.1]
    exact ⟨rng00, a⟩
  · right
    refine ⟨?_, a⟩
    obtain ⟨u, T, Y, hu, hu2, hw, kt, rt, i4, i5⟩ := a
    have h1 := hw.1
    unfold rng
    rw [kt.1, if_pos (by omega)]
theorem p_seed (hI : INV G h) : PR zI d 67 162 [zI x] G h := by
  have hg := hI.1
  have hk := INV_gK hI
  rcases INV_rng hI with ⟨e, a⟩ | ⟨e, u, T, Y, hu, hu2, hw, kt, rt, i4, i5⟩
  · have un := a.1
    refine PR_q (z := 0) (tr := 1) hI (by decide) ?_ ?_
    · intro Q K
      rw [r67]
      simp only [e67_0, e67_1, e67_4, e67_7, e67_8, e67_9, e67_12, e67_13, e67_14, e67_15, e67_18, e67_19, e67_21, e67_24, e67_25, e67_26, e67_29, e67_30, e67_31, e67_32, e67_33, e67_36, e67_37, e67_40, e67_43, e67_44, e67_47, e67_50, e67_51, e67_52, e67_53, zs0, zsI, zsL, zsR, ztl1, ztl0, zc0, zcI, zcL, zcR, true_and, and_true, true_implies, false_implies, implies_true, not_true_eq_false, not_false_eq_true, and_self, Int.toNat_natCast, Nat.reduceAdd, Nat.reduceLeDiff, Nat.reduceLT, forall_eq', Option.some.injEq, zarR, zarI, zarL, zle, zq0, zq1, zq2, zq3, zq4, zq5, zq6, zq8, zq9, zq10, zq20, zq7, zq12, zq24, zq40, zq41, zq48, zq100, zq120, zq123, zq480, zq492, zq700, zq729, zq2187, zq2916, zq8748, ne_eq, Int.reduceEq, Int.reduceLT, Int.reduceLE, Int.reduceToNat, Int.reduceMul, Int.reduceAdd, Int.reduceNeg, gk0 hg, gr0_0 hg, gr0_2 hg, gr0_3 hg, gr0_4 hg, gr0_5 hg, gr0_6 hg, gr0_7 hg, gr0_8 hg, gr0_9 hg, gr0_10 hg, or_true, true_or, if_true, if_false, false_and, and_false, false_or, or_false, f_isTown hg, e]
      exact K _ cfr.z zu_at
    · intro h1 f1 Q K
      rw [r162]
      simp only [e162_0, e162_1, e162_2, e162_5, e162_6, e162_9, e162_12, e162_13, e162_14, e162_17, e162_18, e162_19, e162_20, e162_23, e162_26, e162_29, e162_30, e162_31, e162_34, e162_35, e162_36, e162_37, e162_40, e162_41, e162_44, zs0, zsI, zsL, zsR, ztl1, ztl0, zc0, zcI, zcL, zcR, true_and, and_true, true_implies, false_implies, implies_true, not_true_eq_false, not_false_eq_true, and_self, Int.toNat_natCast, Nat.reduceAdd, Nat.reduceLeDiff, Nat.reduceLT, forall_eq', Option.some.injEq, zarR, zarI, zarL, zle, zq0, zq1, zq2, zq3, zq4, zq5, zq6, zq8, zq9, zq10, zq20, zq7, zq12, zq24, zq40, zq41, zq48, zq100, zq120, zq123, zq480, zq492, zq700, zq729, zq2187, zq2916, zq8748, ne_eq, Int.reduceEq, Int.reduceLT, Int.reduceLE, Int.reduceToNat, Int.reduceMul, Int.reduceAdd, Int.reduceNeg, gk91 hg, gr91_5 hg, gr91_22 hg, gr91_23 hg, gr91_24 hg, gr91_25 hg, gr91_26 hg, gr91_27 hg, gr91_28 hg, gr91_29 hg, gr91_32 hg, gr91_33 hg, gr91_34 hg, gr91_35 hg, gr91_36 hg, gr91_37 hg, gr91_38 hg, gr91_39 hg, gr91_40 hg, gr91_41 hg, gr91_42 hg, gr91_44 hg, gr91_45 hg, gr91_46 hg, gr91_48 hg, gr91_49 hg, gr91_50 hg, gr91_51 hg, gr91_52 hg, or_true, true_or, if_true, if_false, false_and, and_false, false_or, or_false, un, q_none, m_denied hg]
      exact K _ mEnd.1 mEnd.2.1 mEnd.2.2
  · have u1 := hu.1
    rcases rng_c 0 65537 x with ⟨l, l1, l2⟩ | ⟨l, l2⟩
    · have hY := i4.1.1
      have hYe := i4.1.2.1
      have l3 : ¬ x < 0 := by omega
      have w1 : (Y : Int) < 41 := by omega
      refine PR_u (fun h1 => h1 = zu (zu h 0 11 0) 42 Y x) 1 ?_ ?_
      · intro Q K
        rw [r67]
        simp only [e67_0, e67_1, e67_4, e67_7, e67_8, e67_9, e67_12, e67_13, e67_14, e67_15, e67_18, e67_19, e67_21, e67_24, e67_25, e67_26, e67_29, e67_30, e67_31, e67_32, e67_33, e67_36, e67_37, e67_40, e67_43, e67_44, e67_47, e67_50, e67_51, e67_52, e67_53, zs0, zsI, zsL, zsR, ztl1, ztl0, zc0, zcI, zcL, zcR, true_and, and_true, true_implies, false_implies, implies_true, not_true_eq_false, not_false_eq_true, and_self, Int.toNat_natCast, Nat.reduceAdd, Nat.reduceLeDiff, Nat.reduceLT, forall_eq', Option.some.injEq, zarR, zarI, zarL, zle, zq0, zq1, zq2, zq3, zq4, zq5, zq6, zq8, zq9, zq10, zq20, zq7, zq12, zq24, zq40, zq41, zq48, zq100, zq120, zq123, zq480, zq492, zq700, zq729, zq2187, zq2916, zq8748, ne_eq, Int.reduceEq, Int.reduceLT, Int.reduceLE, Int.reduceToNat, Int.reduceMul, Int.reduceAdd, Int.reduceNeg, gk0 hg, gr0_0 hg, gr0_2 hg, gr0_3 hg, gr0_4 hg, gr0_5 hg, gr0_6 hg, gr0_7 hg, gr0_8 hg, gr0_9 hg, gr0_10 hg, gk38 hg, gr38_1 hg, gr38_2 hg, gr38_3 hg, gr38_4 hg, gr38_5 hg, gr38_6 hg, gk42 hg, gl42 hg, or_true, true_or, if_true, if_false, false_and, and_false, false_or, or_false, f_isTown hg, e, l3, l2, zu_c (show ¬ 38 = 0 by decide), hYe, w1]
        exact K _ rfl
      · rintro h1 rfl Q K
        rw [r162]
        simp only [e162_0, e162_1, e162_2, e162_5, e162_6, e162_9, e162_12, e162_13, e162_14, e162_17, e162_18, e162_19, e162_20, e162_23, e162_26, e162_29, e162_30, e162_31, e162_34, e162_35, e162_36, e162_37, e162_40, e162_41, e162_44, zs0, zsI, zsL, zsR, ztl1, ztl0, zc0, zcI, zcL, zcR, true_and, and_true, true_implies, false_implies, implies_true, not_true_eq_false, not_false_eq_true, and_self, Int.toNat_natCast, Nat.reduceAdd, Nat.reduceLeDiff, Nat.reduceLT, forall_eq', Option.some.injEq, zarR, zarI, zarL, zle, zq0, zq1, zq2, zq3, zq4, zq5, zq6, zq8, zq9, zq10, zq20, zq7, zq12, zq24, zq40, zq41, zq48, zq100, zq120, zq123, zq480, zq492, zq700, zq729, zq2187, zq2916, zq8748, ne_eq, Int.reduceEq, Int.reduceLT, Int.reduceLE, Int.reduceToNat, Int.reduceMul, Int.reduceAdd, Int.reduceNeg, gk91 hg, gr91_5 hg, gr91_22 hg, gr91_23 hg, gr91_24 hg, gr91_25 hg, gr91_26 hg, gr91_27 hg, gr91_28 hg, gr91_29 hg, gr91_32 hg, gr91_33 hg, gr91_34 hg, gr91_35 hg, gr91_36 hg, gr91_37 hg, gr91_38 hg, gr91_39 hg, gr91_40 hg, gr91_41 hg, gr91_42 hg, gr91_44 hg, gr91_45 hg, gr91_46 hg, gr91_48 hg, gr91_49 hg, gr91_50 hg, gr91_51 hg, gr91_52 hg, or_true, true_or, if_true, if_false, false_and, and_false, false_or, or_false, hu, q_some, m_in, l, m_granted hg]
        apply K
        have fr : ∀ c i, ¬ (c = 0 ∧ i = 11) → ¬ (c = 42 ∧ i = Y) → ¬ (c = 91 ∧ i < 3) → ¬ (c = 91 ∧ i = 30) → (zu (zu (zu (zu (zu (zu h 0 11 0) 42 Y x) 91 0 0) 91 30 x) 91 1 0) 91 2 (-1)) c i = h c i := by
          intro c i q1 q2 q3 q4
          unfold zu
          rw [if_neg (by omega), if_neg (by omega), if_neg (by omega), if_neg (by omega), if_neg (by omega), if_neg (by omega)]
        have v1 : (zu (zu (zu (zu (zu (zu h 0 11 0) 42 Y x) 91 0 0) 91 30 x) 91 1 0) 91 2 (-1)) 0 11 = 0 := by
          rw [zu_c (by decide), zu_c (by decide), zu_c (by decide), zu_c (by decide), zu_c (by decide), zu_at]
        have v2 : (zu (zu (zu (zu (zu (zu h 0 11 0) 42 Y x) 91 0 0) 91 30 x) 91 1 0) 91 2 (-1)) 42 Y = x := by
          rw [zu_c (by decide), zu_c (by decide), zu_c (by decide), zu_c (by decide), zu_at]
        have v3 : (zu (zu (zu (zu (zu (zu h 0 11 0) 42 Y x) 91 0 0) 91 30 x) 91 1 0) 91 2 (-1)) 91 30 = x := by
          rw [zu_i (by decide), zu_i (by decide), zu_at]
        have v4 : (zu (zu (zu (zu (zu (zu h 0 11 0) 42 Y x) 91 0 0) 91 30 x) 91 1 0) 91 2 (-1)) 91 1 = 0 := by
          rw [zu_i (by decide), zu_at]
        have v5 : (zu (zu (zu (zu (zu (zu h 0 11 0) 42 Y x) 91 0 0) 91 30 x) 91 1 0) 91 2 (-1)) 91 2 = -1 := zu_at
        generalize (zu (zu (zu (zu (zu (zu h 0 11 0) 42 Y x) 91 0 0) 91 30 x) 91 1 0) 91 2 (-1)) = h2 at fr v1 v2 v3 v4 v5 ⊢
        refine ⟨hg, I1_fr hI.2.1 (fr _ _ (by omega) (by omega) (by omega) (by omega)) (fun i => fr _ _ (by omega) (by omega) (by omega) (by omega)) (fr _ _ (by omega) (by omega) (by omega) (by omega)) (fun i => fr _ _ (by omega) (by omega) (by omega) (by omega)), I2_ok hI.2.2.1 v1 v4 v5 (fr _ _ (by omega) (by omega) (by omega) (by omega)) (fr _ _ (by omega) (by omega) (by omega) (by omega)), Or.inr ⟨u, T, Y, hu, hu2, hw, kT_frame kt (fun c i _ _ => fr _ _ (by omega) (by omega) (by omega) (by omega)), rT_frame rt (fun c i _ => fr _ _ (by omega) (by omega) (by omega) (by omega)), ?_, I5_fr i5 (fun c i _ _ => fr _ _ (by omega) (by omega) (by omega) (by omega)) (fr _ _ (by omega) (by omega) (by omega) (by omega)) (fun c i _ _ => fr _ _ (by omega) (by omega) (by omega) (by omega))⟩⟩
        exact I4_seed hw i4 (v := x) (by omega) (fun c i _ _ _ => fr _ _ (by omega) (by omega) (by omega) (by omega)) v2 v3 (fr _ _ (by omega) (by omega) (by omega) (by omega)) (fun i _ => fr _ _ (by omega) (by omega) (by omega) (by omega)) (fun c i _ _ => fr _ _ (by omega) (by omega) (by omega) (by omega))
    · refine PR_q (z := 0) (tr := 2) hI (by decide) ?_ ?_
      · intro Q K
        rw [r67]
        by_cases l3 : x < 0
        · simp only [e67_0, e67_1, e67_4, e67_7, e67_8, e67_9, e67_12, e67_13, e67_14, e67_15, e67_18, e67_19, e67_21, e67_24, e67_25, e67_26, e67_29, e67_30, e67_31, e67_32, e67_33, e67_36, e67_37, e67_40, e67_43, e67_44, e67_47, e67_50, e67_51, e67_52, e67_53, zs0, zsI, zsL, zsR, ztl1, ztl0, zc0, zcI, zcL, zcR, true_and, and_true, true_implies, false_implies, implies_true, not_true_eq_false, not_false_eq_true, and_self, Int.toNat_natCast, Nat.reduceAdd, Nat.reduceLeDiff, Nat.reduceLT, forall_eq', Option.some.injEq, zarR, zarI, zarL, zle, zq0, zq1, zq2, zq3, zq4, zq5, zq6, zq8, zq9, zq10, zq20, zq7, zq12, zq24, zq40, zq41, zq48, zq100, zq120, zq123, zq480, zq492, zq700, zq729, zq2187, zq2916, zq8748, ne_eq, Int.reduceEq, Int.reduceLT, Int.reduceLE, Int.reduceToNat, Int.reduceMul, Int.reduceAdd, Int.reduceNeg, gk0 hg, gr0_0 hg, gr0_2 hg, gr0_3 hg, gr0_4 hg, gr0_5 hg, gr0_6 hg, gr0_7 hg, gr0_8 hg, gr0_9 hg, gr0_10 hg, or_true, true_or, if_true, if_false, false_and, and_false, false_or, or_false, f_isTown hg, e, l3]
          exact K _ cfr.z zu_at
        · have l4 : ¬ x < 65537 := by omega
          simp only [e67_0, e67_1, e67_4, e67_7, e67_8, e67_9, e67_12, e67_13, e67_14, e67_15, e67_18, e67_19, e67_21, e67_24, e67_25, e67_26, e67_29, e67_30, e67_31, e67_32, e67_33, e67_36, e67_37, e67_40, e67_43, e67_44, e67_47, e67_50, e67_51, e67_52, e67_53, zs0, zsI, zsL, zsR, ztl1, ztl0, zc0, zcI, zcL, zcR, true_and, and_true, true_implies, false_implies, implies_true, not_true_eq_false, not_false_eq_true, and_self, Int.toNat_natCast, Nat.reduceAdd, Nat.reduceLeDiff, Nat.reduceLT, forall_eq', Option.some.injEq, zarR, zarI, zarL, zle, zq0, zq1, zq2, zq3, zq4, zq5, zq6, zq8, zq9, zq10, zq20, zq7, zq12, zq24, zq40, zq41, zq48, zq100, zq120, zq123, zq480, zq492, zq700, zq729, zq2187, zq2916, zq8748, ne_eq, Int.reduceEq, Int.reduceLT, Int.reduceLE, Int.reduceToNat, Int.reduceMul, Int.reduceAdd, Int.reduceNeg, gk0 hg, gr0_0 hg, gr0_2 hg, gr0_3 hg, gr0_4 hg, gr0_5 hg, gr0_6 hg, gr0_7 hg, gr0_8 hg, gr0_9 hg, gr0_10 hg, or_true, true_or, if_true, if_false, false_and, and_false, false_or, or_false, f_isTown hg, e, l3, l4]
          exact K _ cfr.z zu_at
      · intro h1 f1 Q K
        rw [r162]
        simp only [e162_0, e162_1, e162_2, e162_5, e162_6, e162_9, e162_12, e162_13, e162_14, e162_17, e162_18, e162_19, e162_20, e162_23, e162_26, e162_29, e162_30, e162_31, e162_34, e162_35, e162_36, e162_37, e162_40, e162_41, e162_44, zs0, zsI, zsL, zsR, ztl1, ztl0, zc0, zcI, zcL, zcR, true_and, and_true, true_implies, false_implies, implies_true, not_true_eq_false, not_false_eq_true, and_self, Int.toNat_natCast, Nat.reduceAdd, Nat.reduceLeDiff, Nat.reduceLT, forall_eq', Option.some.injEq, zarR, zarI, zarL, zle, zq0, zq1, zq2, zq3, zq4, zq5, zq6, zq8, zq9, zq10, zq20, zq7, zq12, zq24, zq40, zq41, zq48, zq100, zq120, zq123, zq480, zq492, zq700, zq729, zq2187, zq2916, zq8748, ne_eq, Int.reduceEq, Int.reduceLT, Int.reduceLE, Int.reduceToNat, Int.reduceMul, Int.reduceAdd, Int.reduceNeg, gk91 hg, gr91_5 hg, gr91_22 hg, gr91_23 hg, gr91_24 hg, gr91_25 hg, gr91_26 hg, gr91_27 hg, gr91_28 hg, gr91_29 hg, gr91_32 hg, gr91_33 hg, gr91_34 hg, gr91_35 hg, gr91_36 hg, gr91_37 hg, gr91_38 hg, gr91_39 hg, gr91_40 hg, gr91_41 hg, gr91_42 hg, gr91_44 hg, gr91_45 hg, gr91_46 hg, gr91_48 hg, gr91_49 hg, gr91_50 hg, gr91_51 hg, gr91_52 hg, or_true, true_or, if_true, if_false, false_and, and_false, false_or, or_false, hu, q_some, m_in, l, m_denied hg]
        exact K _ mEnd.1 mEnd.2.1 mEnd.2.2
theorem p_change (hI : INV G h) : PR zI d 91 208 [zI x, zI y] G h := by
  have hg := hI.1
  have hk := INV_gK hI
  obtain ⟨mb, ms⟩ := INV_mF hI
  rcases rng_c 0 (h 18 9) x with ⟨e, e1, e2⟩ | ⟨e, e2⟩
  · rcases rng_c 0 100 y with ⟨l, l1, l2⟩ | ⟨l, l2⟩
    · obtain ⟨u, T, Y, hu, hu2, hw, kt, rt, i4, i5⟩ := INV_T hI (by omega)
      obtain ⟨b, rfl⟩ := Int.eq_ofNat_of_zero_le e1
      have hb : b < nB T := by have := kt.1; omega
      have hb3 := hw.1
      have u1 := hu.1
      have b3 : (b : Int) < 3 := by omega
      have l3 : ¬ y < 0 := by omega
      have l4 : y ≤ 99 := by omega
      have e5 := kt.2.2.2.2.2.1 b hb
      have r5' := rt.2.2.2.2.2.1 b hb
      have bc := (hw.2.2.2.2.2 b).1
      have wq : wr (y - tr T 0 b) = y - tr T 0 b := wr_id (by omega)
      refine PR_u (fun h1 => h1 = zu (zu h 0 11 0) 19 b y) (y - tr T 0 b) ?_ ?_
      · intro Q K
        rw [r91]
        simp only [e91_0, e91_1, e91_2, e91_5, e91_8, e91_9, e91_10, e91_13, e91_16, e91_17, e91_18, e91_21, e91_22, e91_24, e91_27, e91_28, e91_29, e91_32, e91_35, e91_36, e91_37, e91_38, e91_41, e91_42, e91_43, e91_46, e91_49, e91_50, e91_51, e91_52, e91_53, e91_54, e91_57, e91_60, e91_61, e91_62, e91_63, e91_64, zs0, zsI, zsL, zsR, ztl1, ztl0, zc0, zcI, zcL, zcR, true_and, and_true, true_implies, false_implies, implies_true, not_true_eq_false, not_false_eq_true, and_self, Int.toNat_natCast, Nat.reduceAdd, Nat.reduceLeDiff, Nat.reduceLT, forall_eq', Option.some.injEq, zarR, zarI, zarL, zle, zq0, zq1, zq2, zq3, zq4, zq5, zq6, zq8, zq9, zq10, zq20, zq7, zq12, zq24, zq40, zq41, zq48, zq100, zq120, zq123, zq480, zq492, zq700, zq729, zq2187, zq2916, zq8748, ne_eq, Int.reduceEq, Int.reduceLT, Int.reduceLE, Int.reduceToNat, Int.reduceMul, Int.reduceAdd, Int.reduceNeg, gk0 hg, gr0_0 hg, gr0_2 hg, gr0_3 hg, gr0_4 hg, gr0_5 hg, gr0_6 hg, gr0_7 hg, gr0_8 hg, gr0_9 hg, gr0_10 hg, gk18 hg, gr18_0 hg, gr18_1 hg, gr18_2 hg, gr18_3 hg, gr18_4 hg, gr18_5 hg, gr18_6 hg, gr18_7 hg, gr18_8 hg, gk19 hg, gl19 hg, or_true, true_or, if_true, if_false, false_and, and_false, false_or, or_false, f_isBaker hg, e, l3, l4, b3, zu_c (show ¬ 19 = 0 by decide), e5, wq]
        exact K _ rfl
      · rintro h1 rfl Q K
        rw [r208]
        have v : (zu (zu (zu h 0 11 0) 19 b y) 91 0 0) (u + 1) b = tr T 0 b := by rw [zu_c (by omega), zu_c (by omega), zu_c (by omega)]; exact r5'
        simp only [e208_0, e208_1, e208_2, e208_5, e208_6, e208_7, e208_10, e208_13, e208_14, e208_15, e208_17, e208_20, e208_23, e208_24, e208_25, e208_26, e208_29, e208_32, e208_33, e208_36, e208_37, e208_40, e208_41, e208_44, e208_45, e208_46, e208_47, e208_50, e208_53, e208_54, e208_55, e208_56, e208_57, e208_58, e208_61, e208_64, e208_65, e208_66, e208_67, e208_68, e208_69, e208_72, zs0, zsI, zsL, zsR, ztl1, ztl0, zc0, zcI, zcL, zcR, true_and, and_true, true_implies, false_implies, implies_true, not_true_eq_false, not_false_eq_true, and_self, Int.toNat_natCast, Nat.reduceAdd, Nat.reduceLeDiff, Nat.reduceLT, forall_eq', Option.some.injEq, zarR, zarI, zarL, zle, zq0, zq1, zq2, zq3, zq4, zq5, zq6, zq8, zq9, zq10, zq20, zq7, zq12, zq24, zq40, zq41, zq48, zq100, zq120, zq123, zq480, zq492, zq700, zq729, zq2187, zq2916, zq8748, ne_eq, Int.reduceEq, Int.reduceLT, Int.reduceLE, Int.reduceToNat, Int.reduceMul, Int.reduceAdd, Int.reduceNeg, gk91 hg, gr91_5 hg, gr91_22 hg, gr91_23 hg, gr91_24 hg, gr91_25 hg, gr91_26 hg, gr91_27 hg, gr91_28 hg, gr91_29 hg, gr91_32 hg, gr91_33 hg, gr91_34 hg, gr91_35 hg, gr91_36 hg, gr91_37 hg, gr91_38 hg, gr91_39 hg, gr91_40 hg, gr91_41 hg, gr91_42 hg, gr91_44 hg, gr91_45 hg, gr91_46 hg, gr91_48 hg, gr91_49 hg, gr91_50 hg, gr91_51 hg, gr91_52 hg, or_true, true_or, if_true, if_false, false_and, and_false, false_or, or_false, hu, m_isBaker hg hk, m_in, mF_z hk (show 91 < 121 by decide), mF_z hk (show 19 < 121 by decide), mF_z hk (show 0 < 121 by decide), mb, e, l, b3, v, wq, m_done hg]
        apply K
        have fr : ∀ c i, ¬ (c = 0 ∧ i = 11) → ¬ (c = 19 ∧ i = b) → ¬ (c = 91 ∧ i < 3) → ¬ (c = u + 1 ∧ i = b) → (zu (zu (zu (zu (zu (zu h 0 11 0) 19 b y) 91 0 0) (u + 1) b y) 91 1 0) 91 2 (-1)) c i = h c i := by
          intro c i q1 q2 q3 q4
          unfold zu
          rw [if_neg (by omega), if_neg (by omega), if_neg (by omega), if_neg (by omega), if_neg (by omega), if_neg (by omega)]
        have v1 : (zu (zu (zu (zu (zu (zu h 0 11 0) 19 b y) 91 0 0) (u + 1) b y) 91 1 0) 91 2 (-1)) 0 11 = 0 := by
          rw [zu_c (by decide), zu_c (by decide), zu_c (by omega), zu_c (by decide), zu_c (by decide), zu_at]
        have v2 : (zu (zu (zu (zu (zu (zu h 0 11 0) 19 b y) 91 0 0) (u + 1) b y) 91 1 0) 91 2 (-1)) 19 b = y := by
          rw [zu_c (by decide), zu_c (by decide), zu_c (by omega), zu_c (by decide), zu_at]
        have v3 : (zu (zu (zu (zu (zu (zu h 0 11 0) 19 b y) 91 0 0) (u + 1) b y) 91 1 0) 91 2 (-1)) (u + 1) b = y := by
          rw [zu_c (by omega), zu_c (by omega), zu_at]
        have v4 : (zu (zu (zu (zu (zu (zu h 0 11 0) 19 b y) 91 0 0) (u + 1) b y) 91 1 0) 91 2 (-1)) 91 1 = 0 := by
          rw [zu_i (by decide), zu_at]
        have v5 : (zu (zu (zu (zu (zu (zu h 0 11 0) 19 b y) 91 0 0) (u + 1) b y) 91 1 0) 91 2 (-1)) 91 2 = -1 := zu_at
        generalize (zu (zu (zu (zu (zu (zu h 0 11 0) 19 b y) 91 0 0) (u + 1) b y) 91 1 0) 91 2 (-1)) = h2 at fr v1 v2 v3 v4 v5 ⊢
        have k4 : I4 T Y h2 h2 := I4_fr hw i4 (fun c i _ _ => fr _ _ (by omega) (by omega) (by omega) (by omega)) (fr _ _ (by omega) (by omega) (by omega) (by omega)) (fr _ _ (by omega) (by omega) (by omega) (by omega)) (fun i _ => fr _ _ (by omega) (by omega) (by omega) (by omega)) (fun c i _ _ => fr _ _ (by omega) (by omega) (by omega) (by omega))
        have k5 : I5 T h2 h2 := I5_fr i5 (fun c i _ _ => fr _ _ (by omega) (by omega) (by omega) (by omega)) (fr _ _ (by omega) (by omega) (by omega) (by omega)) (fun c i _ _ => fr _ _ (by omega) (by omega) (by omega) (by omega))
        refine ⟨hg, I1_fr hI.2.1 (fr _ _ (by omega) (by omega) (by omega) (by omega)) (fun i => fr _ _ (by omega) (by omega) (by omega) (by omega)) (fr _ _ (by omega) (by omega) (by omega) (by omega)) (fun i => fr _ _ (by omega) (by omega) (by omega) (by omega)), I2_ok hI.2.2.1 v1 v4 v5 (fr _ _ (by omega) (by omega) (by omega) (by omega)) (fr _ _ (by omega) (by omega) (by omega) (by omega)), Or.inr ⟨u, aCst T b y, Y, hu, hu2, aCst_w hw (by omega), ?_, ?_, k4, k5⟩⟩
        · obtain ⟨c1, c2, c3, c4, c5, c6, c7, c8, c9, c10, c11, c12, c13, c14⟩ := kt
          refine ⟨?_, ?_, ?_, ?_, ?_, ?_, ?_, ?_, ?_, ?_, ?_, ?_, ?_, ?_⟩
          · rw [fr _ _ (by omega) (by omega) (by omega) (by omega)]; exact c1
          · rw [fr _ _ (by omega) (by omega) (by omega) (by omega)]; exact c2
          · rw [fr _ _ (by omega) (by omega) (by omega) (by omega)]; exact c3
          · rw [fr _ _ (by omega) (by omega) (by omega) (by omega)]; exact c4
          · rw [fr _ _ (by omega) (by omega) (by omega) (by omega)]; exact c5
          · intro i hi
            rw [aCst_0]
            by_cases q : i = b
            · rw [if_pos q, q]; exact v2
            · rw [if_neg q, fr _ _ (by omega) (by omega) (by omega) (by omega)]; exact c6 i hi
          · intro i hi; rw [aCst_s (by decide), fr _ _ (by omega) (by omega) (by omega) (by omega)]; exact c7 i hi
          · intro i hi; rw [aCst_s (by decide), fr _ _ (by omega) (by omega) (by omega) (by omega)]; exact c8 i hi
          · intro i hi; rw [aCst_s (by decide), fr _ _ (by omega) (by omega) (by omega) (by omega)]; exact c9 i hi
          · intro i hi; rw [aCst_s (by decide), fr _ _ (by omega) (by omega) (by omega) (by omega)]; exact c10 i hi
          · intro i hi; rw [aCst_s (by decide), fr _ _ (by omega) (by omega) (by omega) (by omega)]; exact c11 i hi
          · intro i hi; rw [aCst_s (by decide), fr _ _ (by omega) (by omega) (by omega) (by omega)]; exact c12 i hi
          · intro i hi; rw [aCst_s (by decide), fr _ _ (by omega) (by omega) (by omega) (by omega)]; exact c13 i hi
          · intro i hi; rw [aCst_s (by decide), fr _ _ (by omega) (by omega) (by omega) (by omega)]; exact c14 i hi
        · obtain ⟨c1, c2, c3, c4, c5, c6, c7, c8, c9, c10, c11, c12, c13, c14⟩ := rt
          refine ⟨?_, ?_, ?_, ?_, ?_, ?_, ?_, ?_, ?_, ?_, ?_, ?_, ?_, ?_⟩
          · rw [fr _ _ (by omega) (by omega) (by omega) (by omega)]; exact c1
          · rw [fr _ _ (by omega) (by omega) (by omega) (by omega)]; exact c2
          · rw [fr _ _ (by omega) (by omega) (by omega) (by omega)]; exact c3
          · rw [fr _ _ (by omega) (by omega) (by omega) (by omega)]; exact c4
          · rw [fr _ _ (by omega) (by omega) (by omega) (by omega)]; exact c5
          · intro i hi
            rw [aCst_0]
            by_cases q : i = b
            · rw [if_pos q, q]; exact v3
            · rw [if_neg q, fr _ _ (by omega) (by omega) (by omega) (by omega)]; exact c6 i hi
          · intro i hi; rw [aCst_s (by decide), fr _ _ (by omega) (by omega) (by omega) (by omega)]; exact c7 i hi
          · intro i hi; rw [aCst_s (by decide), fr _ _ (by omega) (by omega) (by omega) (by omega)]; exact c8 i hi
          · intro i hi; rw [aCst_s (by decide), fr _ _ (by omega) (by omega) (by omega) (by omega)]; exact c9 i hi
          · intro i hi; rw [aCst_s (by decide), fr _ _ (by omega) (by omega) (by omega) (by omega)]; exact c10 i hi
          · intro i hi; rw [aCst_s (by decide), fr _ _ (by omega) (by omega) (by omega) (by omega)]; exact c11 i hi
          · intro i hi; rw [aCst_s (by decide), fr _ _ (by omega) (by omega) (by omega) (by omega)]; exact c12 i hi
          · intro i hi; rw [aCst_s (by decide), fr _ _ (by omega) (by omega) (by omega) (by omega)]; exact c13 i hi
          · intro i hi; rw [aCst_s (by decide), fr _ _ (by omega) (by omega) (by omega) (by omega)]; exact c14 i hi
    · refine PR_q (z := -1000) (tr := 2) hI (by decide) ?_ ?_
      · intro Q K
        rw [r91]
        by_cases l3 : y < 0
        · simp only [e91_0, e91_1, e91_2, e91_5, e91_8, e91_9, e91_10, e91_13, e91_16, e91_17, e91_18, e91_21, e91_22, e91_24, e91_27, e91_28, e91_29, e91_32, e91_35, e91_36, e91_37, e91_38, e91_41, e91_42, e91_43, e91_46, e91_49, e91_50, e91_51, e91_52, e91_53, e91_54, e91_57, e91_60, e91_61, e91_62, e91_63, e91_64, zs0, zsI, zsL, zsR, ztl1, ztl0, zc0, zcI, zcL, zcR, true_and, and_true, true_implies, false_implies, implies_true, not_true_eq_false, not_false_eq_true, and_self, Int.toNat_natCast, Nat.reduceAdd, Nat.reduceLeDiff, Nat.reduceLT, forall_eq', Option.some.injEq, zarR, zarI, zarL, zle, zq0, zq1, zq2, zq3, zq4, zq5, zq6, zq8, zq9, zq10, zq20, zq7, zq12, zq24, zq40, zq41, zq48, zq100, zq120, zq123, zq480, zq492, zq700, zq729, zq2187, zq2916, zq8748, ne_eq, Int.reduceEq, Int.reduceLT, Int.reduceLE, Int.reduceToNat, Int.reduceMul, Int.reduceAdd, Int.reduceNeg, gk0 hg, gr0_0 hg, gr0_2 hg, gr0_3 hg, gr0_4 hg, gr0_5 hg, gr0_6 hg, gr0_7 hg, gr0_8 hg, gr0_9 hg, gr0_10 hg, or_true, true_or, if_true, if_false, false_and, and_false, false_or, or_false, f_isBaker hg, e, l3]
          exact K _ cfr.z zu_at
        · have l4 : ¬ y ≤ 99 := by omega
          simp only [e91_0, e91_1, e91_2, e91_5, e91_8, e91_9, e91_10, e91_13, e91_16, e91_17, e91_18, e91_21, e91_22, e91_24, e91_27, e91_28, e91_29, e91_32, e91_35, e91_36, e91_37, e91_38, e91_41, e91_42, e91_43, e91_46, e91_49, e91_50, e91_51, e91_52, e91_53, e91_54, e91_57, e91_60, e91_61, e91_62, e91_63, e91_64, zs0, zsI, zsL, zsR, ztl1, ztl0, zc0, zcI, zcL, zcR, true_and, and_true, true_implies, false_implies, implies_true, not_true_eq_false, not_false_eq_true, and_self, Int.toNat_natCast, Nat.reduceAdd, Nat.reduceLeDiff, Nat.reduceLT, forall_eq', Option.some.injEq, zarR, zarI, zarL, zle, zq0, zq1, zq2, zq3, zq4, zq5, zq6, zq8, zq9, zq10, zq20, zq7, zq12, zq24, zq40, zq41, zq48, zq100, zq120, zq123, zq480, zq492, zq700, zq729, zq2187, zq2916, zq8748, ne_eq, Int.reduceEq, Int.reduceLT, Int.reduceLE, Int.reduceToNat, Int.reduceMul, Int.reduceAdd, Int.reduceNeg, gk0 hg, gr0_0 hg, gr0_2 hg, gr0_3 hg, gr0_4 hg, gr0_5 hg, gr0_6 hg, gr0_7 hg, gr0_8 hg, gr0_9 hg, gr0_10 hg, or_true, true_or, if_true, if_false, false_and, and_false, false_or, or_false, f_isBaker hg, e, l3, l4]
          exact K _ cfr.z zu_at
      · intro h1 f1 Q K
        rw [r208]
        simp only [e208_0, e208_1, e208_2, e208_5, e208_6, e208_7, e208_10, e208_13, e208_14, e208_15, e208_17, e208_20, e208_23, e208_24, e208_25, e208_26, e208_29, e208_32, e208_33, e208_36, e208_37, e208_40, e208_41, e208_44, e208_45, e208_46, e208_47, e208_50, e208_53, e208_54, e208_55, e208_56, e208_57, e208_58, e208_61, e208_64, e208_65, e208_66, e208_67, e208_68, e208_69, e208_72, zs0, zsI, zsL, zsR, ztl1, ztl0, zc0, zcI, zcL, zcR, true_and, and_true, true_implies, false_implies, implies_true, not_true_eq_false, not_false_eq_true, and_self, Int.toNat_natCast, Nat.reduceAdd, Nat.reduceLeDiff, Nat.reduceLT, forall_eq', Option.some.injEq, zarR, zarI, zarL, zle, zq0, zq1, zq2, zq3, zq4, zq5, zq6, zq8, zq9, zq10, zq20, zq7, zq12, zq24, zq40, zq41, zq48, zq100, zq120, zq123, zq480, zq492, zq700, zq729, zq2187, zq2916, zq8748, ne_eq, Int.reduceEq, Int.reduceLT, Int.reduceLE, Int.reduceToNat, Int.reduceMul, Int.reduceAdd, Int.reduceNeg, gk91 hg, gr91_5 hg, gr91_22 hg, gr91_23 hg, gr91_24 hg, gr91_25 hg, gr91_26 hg, gr91_27 hg, gr91_28 hg, gr91_29 hg, gr91_32 hg, gr91_33 hg, gr91_34 hg, gr91_35 hg, gr91_36 hg, gr91_37 hg, gr91_38 hg, gr91_39 hg, gr91_40 hg, gr91_41 hg, gr91_42 hg, gr91_44 hg, gr91_45 hg, gr91_46 hg, gr91_48 hg, gr91_49 hg, gr91_50 hg, gr91_51 hg, gr91_52 hg, or_true, true_or, if_true, if_false, false_and, and_false, false_or, or_false, m_isBaker hg hk, m_in, mF_z hk (show 91 < 121 by decide), mF_fr hk f1, mb, e, l, m_refused hg]
        exact K _ mEnd.1 mEnd.2.1 mEnd.2.2
  · refine PR_q (z := -1000) (tr := 1) hI (by decide) ?_ ?_
    · intro Q K
      rw [r91]
      simp only [e91_0, e91_1, e91_2, e91_5, e91_8, e91_9, e91_10, e91_13, e91_16, e91_17, e91_18, e91_21, e91_22, e91_24, e91_27, e91_28, e91_29, e91_32, e91_35, e91_36, e91_37, e91_38, e91_41, e91_42, e91_43, e91_46, e91_49, e91_50, e91_51, e91_52, e91_53, e91_54, e91_57, e91_60, e91_61, e91_62, e91_63, e91_64, zs0, zsI, zsL, zsR, ztl1, ztl0, zc0, zcI, zcL, zcR, true_and, and_true, true_implies, false_implies, implies_true, not_true_eq_false, not_false_eq_true, and_self, Int.toNat_natCast, Nat.reduceAdd, Nat.reduceLeDiff, Nat.reduceLT, forall_eq', Option.some.injEq, zarR, zarI, zarL, zle, zq0, zq1, zq2, zq3, zq4, zq5, zq6, zq8, zq9, zq10, zq20, zq7, zq12, zq24, zq40, zq41, zq48, zq100, zq120, zq123, zq480, zq492, zq700, zq729, zq2187, zq2916, zq8748, ne_eq, Int.reduceEq, Int.reduceLT, Int.reduceLE, Int.reduceToNat, Int.reduceMul, Int.reduceAdd, Int.reduceNeg, gk0 hg, gr0_0 hg, gr0_2 hg, gr0_3 hg, gr0_4 hg, gr0_5 hg, gr0_6 hg, gr0_7 hg, gr0_8 hg, gr0_9 hg, gr0_10 hg, or_true, true_or, if_true, if_false, false_and, and_false, false_or, or_false, f_isBaker hg, e]
      exact K _ cfr.z zu_at
    · intro h1 f1 Q K
      rw [r208]
      simp only [e208_0, e208_1, e208_2, e208_5, e208_6, e208_7, e208_10, e208_13, e208_14, e208_15, e208_17, e208_20, e208_23, e208_24, e208_25, e208_26, e208_29, e208_32, e208_33, e208_36, e208_37, e208_40, e208_41, e208_44, e208_45, e208_46, e208_47, e208_50, e208_53, e208_54, e208_55, e208_56, e208_57, e208_58, e208_61, e208_64, e208_65, e208_66, e208_67, e208_68, e208_69, e208_72, zs0, zsI, zsL, zsR, ztl1, ztl0, zc0, zcI, zcL, zcR, true_and, and_true, true_implies, false_implies, implies_true, not_true_eq_false, not_false_eq_true, and_self, Int.toNat_natCast, Nat.reduceAdd, Nat.reduceLeDiff, Nat.reduceLT, forall_eq', Option.some.injEq, zarR, zarI, zarL, zle, zq0, zq1, zq2, zq3, zq4, zq5, zq6, zq8, zq9, zq10, zq20, zq7, zq12, zq24, zq40, zq41, zq48, zq100, zq120, zq123, zq480, zq492, zq700, zq729, zq2187, zq2916, zq8748, ne_eq, Int.reduceEq, Int.reduceLT, Int.reduceLE, Int.reduceToNat, Int.reduceMul, Int.reduceAdd, Int.reduceNeg, gk91 hg, gr91_5 hg, gr91_22 hg, gr91_23 hg, gr91_24 hg, gr91_25 hg, gr91_26 hg, gr91_27 hg, gr91_28 hg, gr91_29 hg, gr91_32 hg, gr91_33 hg, gr91_34 hg, gr91_35 hg, gr91_36 hg, gr91_37 hg, gr91_38 hg, gr91_39 hg, gr91_40 hg, gr91_41 hg, gr91_42 hg, gr91_44 hg, gr91_45 hg, gr91_46 hg, gr91_48 hg, gr91_49 hg, gr91_50 hg, gr91_51 hg, gr91_52 hg, or_true, true_or, if_true, if_false, false_and, and_false, false_or, or_false, m_isBaker hg hk, mF_z hk (show 91 < 121 by decide), mF_fr hk f1, mb, e, m_refused hg]
      exact K _ mEnd.1 mEnd.2.1 mEnd.2.2
end UQ
