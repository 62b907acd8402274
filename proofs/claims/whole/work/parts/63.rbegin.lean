section RB
variable {d : Nat} {Q : zQ} {G : zG} {h : zM} {T : aTn} {ac : Nat → Nat} {nn nf : Nat → Int} {hd : Nat → Nat → Int} {B : Int} {Y n y u : Nat} {law : Int}
theorem m_much (hg : gS G) (hu : gU G u) (V : rV h u T) (hw : wT T) (hc : acOk T ac) (hA : rA h T ac) (hn : n ≤ 3) : zRunD ztb zmt' (d + 3) 171 [zR (some 91), zI n] G h Q ↔ Q (some (zI (if 20000 < tg ac (nB T) ^ n then 1 else 0))) G h := by
  rw [r171]
  have t1 := tg_b hw hc
  have ma := fun Q' => m_allActs (d := d) (Q := Q') hg hu V hw hc hA
  have pb : ∀ i, i ≤ 3 → tg ac (nB T) ^ i ≤ 387420489 := by
    intro i hi
    have h1 : tg ac (nB T) ^ i ≤ 729 ^ i := Nat.pow_le_pow_left t1.2 i
    have h2 : 729 ^ i ≤ 729 ^ 3 := Nat.pow_le_pow_right (by decide) hi
    omega
  have lp : ∀ j i, i + j = n → (zE 171 (d + 2) Q 5 [some (zR (some 91)), some (zI n), some (zL ((tg ac (nB T) ^ i : Nat) : Int)), none, some (zI i)] [] G h (0, 0) ↔ Q (some (zI (if 20000 < tg ac (nB T) ^ n then 1 else 0))) G h) := by
    intro j
    induction j with
    | zero =>
      intro i hi
      have hi' : i = n := by omega
      subst hi'
      rw [e171_5]
      by_cases c : 20000 < tg ac (nB T) ^ i
      · have c2 : ¬ zlc ((tg ac (nB T) ^ i : Nat) : Int) 20000 ≤ 0 := by rw [zlc_le]; omega
        rw [if_pos c]
        simp only [e171_0, e171_1, e171_2, e171_3, e171_7, e171_8, e171_11, e171_12, e171_13, e171_16, e171_17, e171_18, e171_19, e171_22, e171_25, e171_26, e171_29, e171_30, e171_33, e171_34, e171_37, e171_38, zs0, zsI, zsL, zsR, ztl1, ztl0, zc0, zcI, zcL, zcR, true_and, and_true, true_implies, false_implies, implies_true, not_true_eq_false, not_false_eq_true, and_self, Int.toNat_natCast, Nat.reduceAdd, Nat.reduceLeDiff, Nat.reduceLT, forall_eq', Option.some.injEq, zarR, zarI, zarL, zle, zq0, zq1, zq2, zq3, zq4, zq5, zq6, zq8, zq9, zq10, zq20, zq7, zq12, zq24, zq40, zq41, zq48, zq100, zq120, zq123, zq480, zq492, zq700, zq729, zq2187, zq2916, zq8748, ne_eq, Int.reduceEq, Int.reduceLT, Int.reduceLE, Int.reduceToNat, Int.reduceMul, Int.reduceAdd, Int.reduceNeg, or_true, true_or, if_true, if_false, false_and, and_false, false_or, or_false, Int.le_refl, c2]
      · have c2 : zlc ((tg ac (nB T) ^ i : Nat) : Int) 20000 ≤ 0 := by rw [zlc_le]; omega
        rw [if_neg c]
        simp only [e171_0, e171_1, e171_2, e171_3, e171_7, e171_8, e171_11, e171_12, e171_13, e171_16, e171_17, e171_18, e171_19, e171_22, e171_25, e171_26, e171_29, e171_30, e171_33, e171_34, e171_37, e171_38, zs0, zsI, zsL, zsR, ztl1, ztl0, zc0, zcI, zcL, zcR, true_and, and_true, true_implies, false_implies, implies_true, not_true_eq_false, not_false_eq_true, and_self, Int.toNat_natCast, Nat.reduceAdd, Nat.reduceLeDiff, Nat.reduceLT, forall_eq', Option.some.injEq, zarR, zarI, zarL, zle, zq0, zq1, zq2, zq3, zq4, zq5, zq6, zq8, zq9, zq10, zq20, zq7, zq12, zq24, zq40, zq41, zq48, zq100, zq120, zq123, zq480, zq492, zq700, zq729, zq2187, zq2916, zq8748, ne_eq, Int.reduceEq, Int.reduceLT, Int.reduceLE, Int.reduceToNat, Int.reduceMul, Int.reduceAdd, Int.reduceNeg, or_true, true_or, if_true, if_false, false_and, and_false, false_or, or_false, Int.le_refl, c2]
    | succ j ih =>
      intro i hi
      have c : ¬ (n : Int) ≤ i := by omega
      have p1 := pb (i + 1) (by omega)
      have w : wl (((tg ac (nB T) ^ i : Nat) : Int) * (tg ac (nB T) : Int)) = ((tg ac (nB T) ^ (i + 1) : Nat) : Int) := by
        rw [← Int.natCast_mul, show tg ac (nB T) ^ i * tg ac (nB T) = tg ac (nB T) ^ (i + 1) by rw [Nat.pow_succ]]
        exact wl_id (by omega)
      rw [e171_5]
      simp only [e171_0, e171_1, e171_2, e171_3, e171_7, e171_8, e171_11, e171_12, e171_13, e171_16, e171_17, e171_18, e171_19, e171_22, e171_25, e171_26, e171_29, e171_30, e171_33, e171_34, e171_37, e171_38, zs0, zsI, zsL, zsR, ztl1, ztl0, zc0, zcI, zcL, zcR, true_and, and_true, true_implies, false_implies, implies_true, not_true_eq_false, not_false_eq_true, and_self, Int.toNat_natCast, Nat.reduceAdd, Nat.reduceLeDiff, Nat.reduceLT, forall_eq', Option.some.injEq, zarR, zarI, zarL, zle, zq0, zq1, zq2, zq3, zq4, zq5, zq6, zq8, zq9, zq10, zq20, zq7, zq12, zq24, zq40, zq41, zq48, zq100, zq120, zq123, zq480, zq492, zq700, zq729, zq2187, zq2916, zq8748, ne_eq, Int.reduceEq, Int.reduceLT, Int.reduceLE, Int.reduceToNat, Int.reduceMul, Int.reduceAdd, Int.reduceNeg, gk91 hg, gr91_5 hg, gr91_22 hg, gr91_23 hg, gr91_24 hg, gr91_25 hg, gr91_26 hg, gr91_27 hg, gr91_28 hg, gr91_29 hg, gr91_32 hg, gr91_33 hg, gr91_34 hg, gr91_35 hg, gr91_36 hg, gr91_37 hg, gr91_38 hg, gr91_39 hg, gr91_40 hg, gr91_41 hg, gr91_42 hg, gr91_44 hg, gr91_45 hg, gr91_46 hg, gr91_48 hg, gr91_49 hg, gr91_50 hg, gr91_51 hg, gr91_52 hg, or_true, true_or, if_true, if_false, false_and, and_false, false_or, or_false, c, ma, w, wr_s (show i < 2147483647 by omega)]
      exact ih (i + 1) (by omega)
  have l0 := lp n 0 (by omega)
  rw [Nat.pow_zero] at l0
  simp only [zq0, zq1] at l0
  simp only [e171_0, e171_1, e171_2, e171_3, e171_7, e171_8, e171_11, e171_12, e171_13, e171_16, e171_17, e171_18, e171_19, e171_22, e171_25, e171_26, e171_29, e171_30, e171_33, e171_34, e171_37, e171_38, zs0, zsI, zsL, zsR, ztl1, ztl0, zc0, zcI, zcL, zcR, true_and, and_true, true_implies, false_implies, implies_true, not_true_eq_false, not_false_eq_true, and_self, Int.toNat_natCast, Nat.reduceAdd, Nat.reduceLeDiff, Nat.reduceLT, forall_eq', Option.some.injEq, zarR, zarI, zarL, zle, zq0, zq1, zq2, zq3, zq4, zq5, zq6, zq8, zq9, zq10, zq20, zq7, zq12, zq24, zq40, zq41, zq48, zq100, zq120, zq123, zq480, zq492, zq700, zq729, zq2187, zq2916, zq8748, ne_eq, Int.reduceEq, Int.reduceLT, Int.reduceLE, Int.reduceToNat, Int.reduceMul, Int.reduceAdd, Int.reduceNeg]
  exact l0
theorem m_begins (hg : gS G) (hu : gU G u) (hn : n ≤ 3) (K : ∀ h' : zM, (∀ c i, ¬ c = 100 → ¬ (c = 91 ∧ i = 43) → ¬ (c = 110 ∧ 12 * n ≤ i ∧ i < 12 * n + 12) → h' c i = h c i) → (∀ s, s < 4 → h' 100 s = h (u + 5) s) → h' 91 43 = 0 → (∀ k, k < 12 → h' 110 (12 * n + k) = h 101 k) → Q none G h') : zRunD ztb zmt' (d + 2) 186 [zR (some 91), zI n] G h Q := by
  rw [r186]
  have u1 := hu.1
  simp only [e186_0, e186_1, zs0, zsI, zsL, zsR, ztl1, ztl0, zc0, zcI, zcL, zcR, true_and, and_true, true_implies, false_implies, implies_true, not_true_eq_false, not_false_eq_true, and_self, Int.toNat_natCast, Nat.reduceAdd, Nat.reduceLeDiff, Nat.reduceLT, forall_eq', Option.some.injEq, zarR, zarI, zarL, zle, zq0, zq1, zq2, zq3, zq4, zq5, zq6, zq8, zq9, zq10, zq20, zq7, zq12, zq24, zq40, zq41, zq48, zq100, zq120, zq123, zq480, zq492, zq700, zq729, zq2187, zq2916, zq8748, ne_eq, Int.reduceEq, Int.reduceLT, Int.reduceLE, Int.reduceToNat, Int.reduceMul, Int.reduceAdd, Int.reduceNeg, gk91 hg, gr91_5 hg, gr91_22 hg, gr91_23 hg, gr91_24 hg, gr91_25 hg, gr91_26 hg, gr91_27 hg, gr91_28 hg, gr91_29 hg, gr91_32 hg, gr91_33 hg, gr91_34 hg, gr91_35 hg, gr91_36 hg, gr91_37 hg, gr91_38 hg, gr91_39 hg, gr91_40 hg, gr91_41 hg, gr91_42 hg, gr91_44 hg, gr91_45 hg, gr91_46 hg, gr91_48 hg, gr91_49 hg, gr91_50 hg, gr91_51 hg, gr91_52 hg]
  apply m_fresh (d := d) hg hu
  intro h1 f1 m1
  have lp : ∀ j k (h2 : zM), k + j = 12 → (∀ c i, ¬ (c = 91 ∧ i = 43) → ¬ (c = 110 ∧ 12 * n ≤ i ∧ i < 12 * n + 12) → h2 c i = h1 c i) → h2 91 43 = 0 → (∀ i, i < k → h2 110 (12 * n + i) = h1 101 i) → zE 186 (d + 1) Q 11 [some (zR (some 91)), some (zI n), some (zI k)] [] G h2 (0, 0) := by
    intro j
    induction j with
    | zero =>
      intro k h2 hk f v m
      have hk' : k = 12 := by omega
      subst hk'
      rw [e186_11]
      simp only [e186_0, e186_1, e186_4, e186_5, e186_6, e186_9, e186_10, e186_12, e186_14, e186_17, e186_18, e186_21, e186_23, e186_24, e186_25, e186_26, e186_27, e186_28, e186_31, e186_32, e186_33, e186_34, e186_37, e186_40, zs0, zsI, zsL, zsR, ztl1, ztl0, zc0, zcI, zcL, zcR, true_and, and_true, true_implies, false_implies, implies_true, not_true_eq_false, not_false_eq_true, and_self, Int.toNat_natCast, Nat.reduceAdd, Nat.reduceLeDiff, Nat.reduceLT, forall_eq', Option.some.injEq, zarR, zarI, zarL, zle, zq0, zq1, zq2, zq3, zq4, zq5, zq6, zq8, zq9, zq10, zq20, zq7, zq12, zq24, zq40, zq41, zq48, zq100, zq120, zq123, zq480, zq492, zq700, zq729, zq2187, zq2916, zq8748, ne_eq, Int.reduceEq, Int.reduceLT, Int.reduceLE, Int.reduceToNat, Int.reduceMul, Int.reduceAdd, Int.reduceNeg, gk91 hg, gr91_5 hg, gr91_22 hg, gr91_23 hg, gr91_24 hg, gr91_25 hg, gr91_26 hg, gr91_27 hg, gr91_28 hg, gr91_29 hg, gr91_32 hg, gr91_33 hg, gr91_34 hg, gr91_35 hg, gr91_36 hg, gr91_37 hg, gr91_38 hg, gr91_39 hg, gr91_40 hg, gr91_41 hg, gr91_42 hg, gr91_44 hg, gr91_45 hg, gr91_46 hg, gr91_48 hg, gr91_49 hg, gr91_50 hg, gr91_51 hg, gr91_52 hg, or_true, true_or, if_true, if_false, false_and, and_false, false_or, or_false, Int.le_refl]
      apply K h2
      · intro c i q1 q2 q3
        rw [f c i q2 q3, f1 c i q1]
      · intro s hs
        rw [f _ _ (by omega) (by omega)]
        exact m1 s hs
      · exact v
      · intro k hk
        rw [m k hk, f1 _ _ (by decide)]
    | succ j ih =>
      intro k h2 hk f v m
      have c : ¬ (12 : Int) ≤ k := by omega
      have k1 : ((12 * n + k : Nat) : Int) < 48 := by omega
      have k2 : (k : Int) < 24 := by omega
      rw [e186_11]
      simp only [e186_0, e186_1, e186_4, e186_5, e186_6, e186_9, e186_10, e186_12, e186_14, e186_17, e186_18, e186_21, e186_23, e186_24, e186_25, e186_26, e186_27, e186_28, e186_31, e186_32, e186_33, e186_34, e186_37, e186_40, zs0, zsI, zsL, zsR, ztl1, ztl0, zc0, zcI, zcL, zcR, true_and, and_true, true_implies, false_implies, implies_true, not_true_eq_false, not_false_eq_true, and_self, Int.toNat_natCast, Nat.reduceAdd, Nat.reduceLeDiff, Nat.reduceLT, forall_eq', Option.some.injEq, zarR, zarI, zarL, zle, zq0, zq1, zq2, zq3, zq4, zq5, zq6, zq8, zq9, zq10, zq20, zq7, zq12, zq24, zq40, zq41, zq48, zq100, zq120, zq123, zq480, zq492, zq700, zq729, zq2187, zq2916, zq8748, ne_eq, Int.reduceEq, Int.reduceLT, Int.reduceLE, Int.reduceToNat, Int.reduceMul, Int.reduceAdd, Int.reduceNeg, gk91 hg, gr91_5 hg, gr91_22 hg, gr91_23 hg, gr91_24 hg, gr91_25 hg, gr91_26 hg, gr91_27 hg, gr91_28 hg, gr91_29 hg, gr91_32 hg, gr91_33 hg, gr91_34 hg, gr91_35 hg, gr91_36 hg, gr91_37 hg, gr91_38 hg, gr91_39 hg, gr91_40 hg, gr91_41 hg, gr91_42 hg, gr91_44 hg, gr91_45 hg, gr91_46 hg, gr91_48 hg, gr91_49 hg, gr91_50 hg, gr91_51 hg, gr91_52 hg, gk110 hg, gl110 hg, gk101 hg, gl101 hg, or_true, true_or, if_true, if_false, false_and, and_false, false_or, or_false, c, k1, k2, wrN (z := 12 * (n : Int)) (m := 12 * n) (by omega) (by omega), wrN (z := ((12 * n : Nat) : Int) + (k : Int)) (m := 12 * n + k) (by omega) (by omega), wr_s (show k < 2147483647 by omega)]
      apply ih (k + 1) _ (by omega)
      · intro c i q1 q2
        rw [zu, if_neg (by omega)]
        exact f c i q1 q2
      · rw [zu_c (by decide)]; exact v
      · intro i hi
        by_cases q : i = k
        · subst q
          rw [zu_at]
          exact f _ _ (by omega) (by omega)
        · rw [zu_i (by omega)]
          exact m i (by omega)
  simp only [e186_0, e186_1, e186_4, e186_5, e186_6, e186_9, e186_10, e186_12, e186_14, e186_17, e186_18, e186_21, e186_23, e186_24, e186_25, e186_26, e186_27, e186_28, e186_31, e186_32, e186_33, e186_34, e186_37, e186_40, zs0, zsI, zsL, zsR, ztl1, ztl0, zc0, zcI, zcL, zcR, true_and, and_true, true_implies, false_implies, implies_true, not_true_eq_false, not_false_eq_true, and_self, Int.toNat_natCast, Nat.reduceAdd, Nat.reduceLeDiff, Nat.reduceLT, forall_eq', Option.some.injEq, zarR, zarI, zarL, zle, zq0, zq1, zq2, zq3, zq4, zq5, zq6, zq8, zq9, zq10, zq20, zq7, zq12, zq24, zq40, zq41, zq48, zq100, zq120, zq123, zq480, zq492, zq700, zq729, zq2187, zq2916, zq8748, ne_eq, Int.reduceEq, Int.reduceLT, Int.reduceLE, Int.reduceToNat, Int.reduceMul, Int.reduceAdd, Int.reduceNeg, gk91 hg, gr91_5 hg, gr91_22 hg, gr91_23 hg, gr91_24 hg, gr91_25 hg, gr91_26 hg, gr91_27 hg, gr91_28 hg, gr91_29 hg, gr91_32 hg, gr91_33 hg, gr91_34 hg, gr91_35 hg, gr91_36 hg, gr91_37 hg, gr91_38 hg, gr91_39 hg, gr91_40 hg, gr91_41 hg, gr91_42 hg, gr91_44 hg, gr91_45 hg, gr91_46 hg, gr91_48 hg, gr91_49 hg, gr91_50 hg, gr91_51 hg, gr91_52 hg, or_true, true_or, if_true, if_false, false_and, and_false, false_or, or_false]
  apply lp 12 0 _ (by omega)
  · intro c i q1 q2
    rw [zu, if_neg q1]
  · exact zu_at
  · intro i hi
    omega
theorem m_rests (hg : gS G) (hu : gU G u) (hw : wT T) (hc : acOk T ac) (hf : fB nn nf) (h1 : 1 ≤ y) (h3 : y ≤ 3) (b1 : hB hd B) (b2 : -100 ≤ B) (b3 : B + 100 * y ≤ 2000000) (h20 : nB T = 2 → ∀ s, hd s 2 = 0) (hP : rPre T ac nn nf u y hd h) (K : ∀ h', rPost T ac nn nf y hd h h' → Q (some (zI ((calm ac (nB T) (rW T ac nn nf y hd) : Nat) : Int))) G h') : zRunD ztb zmt' (d + 12) 185 [zR (some 91), zI y] G h Q := by
  rw [r185]
  have hy : y = 1 ∨ y = 2 ∨ y = 3 := by omega
  rcases hy with rfl | rfl | rfl
  · have q : ((1 : Nat) : Int) = 1 := rfl
    simp only [e185_0, e185_1, e185_2, e185_5, e185_6, e185_9, e185_12, e185_13, e185_14, e185_17, e185_18, e185_21, e185_24, e185_25, e185_28, zs0, zsI, zsL, zsR, ztl1, ztl0, zc0, zcI, zcL, zcR, true_and, and_true, true_implies, false_implies, implies_true, not_true_eq_false, not_false_eq_true, and_self, Int.toNat_natCast, Nat.reduceAdd, Nat.reduceLeDiff, Nat.reduceLT, forall_eq', Option.some.injEq, zarR, zarI, zarL, zle, zq0, zq1, zq2, zq3, zq4, zq5, zq6, zq8, zq9, zq10, zq20, zq7, zq12, zq24, zq40, zq41, zq48, zq100, zq120, zq123, zq480, zq492, zq700, zq729, zq2187, zq2916, zq8748, ne_eq, Int.reduceEq, Int.reduceLT, Int.reduceLE, Int.reduceToNat, Int.reduceMul, Int.reduceAdd, Int.reduceNeg, gk91 hg, gr91_5 hg, gr91_22 hg, gr91_23 hg, gr91_24 hg, gr91_25 hg, gr91_26 hg, gr91_27 hg, gr91_28 hg, gr91_29 hg, gr91_32 hg, gr91_33 hg, gr91_34 hg, gr91_35 hg, gr91_36 hg, gr91_37 hg, gr91_38 hg, gr91_39 hg, gr91_40 hg, gr91_41 hg, gr91_42 hg, gr91_44 hg, gr91_45 hg, gr91_46 hg, gr91_48 hg, gr91_49 hg, gr91_50 hg, gr91_51 hg, gr91_52 hg, q]
    apply m_rest1 (d := d + 2) hg hu hw hc hf hd B h _ b1 b2 b3 h20 hP
    intro h' hp
    simp only [e185_0, e185_1, e185_2, e185_5, e185_6, e185_9, e185_12, e185_13, e185_14, e185_17, e185_18, e185_21, e185_24, e185_25, e185_28, zs0, zsI, zsL, zsR, ztl1, ztl0, zc0, zcI, zcL, zcR, true_and, and_true, true_implies, false_implies, implies_true, not_true_eq_false, not_false_eq_true, and_self, Int.toNat_natCast, Nat.reduceAdd, Nat.reduceLeDiff, Nat.reduceLT, forall_eq', Option.some.injEq, zarR, zarI, zarL, zle, zq0, zq1, zq2, zq3, zq4, zq5, zq6, zq8, zq9, zq10, zq20, zq7, zq12, zq24, zq40, zq41, zq48, zq100, zq120, zq123, zq480, zq492, zq700, zq729, zq2187, zq2916, zq8748, ne_eq, Int.reduceEq, Int.reduceLT, Int.reduceLE, Int.reduceToNat, Int.reduceMul, Int.reduceAdd, Int.reduceNeg]
    exact K h' hp
  · have q : ((2 : Nat) : Int) = 2 := rfl
    simp only [e185_0, e185_1, e185_2, e185_5, e185_6, e185_9, e185_12, e185_13, e185_14, e185_17, e185_18, e185_21, e185_24, e185_25, e185_28, zs0, zsI, zsL, zsR, ztl1, ztl0, zc0, zcI, zcL, zcR, true_and, and_true, true_implies, false_implies, implies_true, not_true_eq_false, not_false_eq_true, and_self, Int.toNat_natCast, Nat.reduceAdd, Nat.reduceLeDiff, Nat.reduceLT, forall_eq', Option.some.injEq, zarR, zarI, zarL, zle, zq0, zq1, zq2, zq3, zq4, zq5, zq6, zq8, zq9, zq10, zq20, zq7, zq12, zq24, zq40, zq41, zq48, zq100, zq120, zq123, zq480, zq492, zq700, zq729, zq2187, zq2916, zq8748, ne_eq, Int.reduceEq, Int.reduceLT, Int.reduceLE, Int.reduceToNat, Int.reduceMul, Int.reduceAdd, Int.reduceNeg, gk91 hg, gr91_5 hg, gr91_22 hg, gr91_23 hg, gr91_24 hg, gr91_25 hg, gr91_26 hg, gr91_27 hg, gr91_28 hg, gr91_29 hg, gr91_32 hg, gr91_33 hg, gr91_34 hg, gr91_35 hg, gr91_36 hg, gr91_37 hg, gr91_38 hg, gr91_39 hg, gr91_40 hg, gr91_41 hg, gr91_42 hg, gr91_44 hg, gr91_45 hg, gr91_46 hg, gr91_48 hg, gr91_49 hg, gr91_50 hg, gr91_51 hg, gr91_52 hg, q]
    apply m_rest2 (d := d + 1) hg hu hw hc hf hd B h _ b1 b2 b3 h20 hP
    intro h' hp
    simp only [e185_0, e185_1, e185_2, e185_5, e185_6, e185_9, e185_12, e185_13, e185_14, e185_17, e185_18, e185_21, e185_24, e185_25, e185_28, zs0, zsI, zsL, zsR, ztl1, ztl0, zc0, zcI, zcL, zcR, true_and, and_true, true_implies, false_implies, implies_true, not_true_eq_false, not_false_eq_true, and_self, Int.toNat_natCast, Nat.reduceAdd, Nat.reduceLeDiff, Nat.reduceLT, forall_eq', Option.some.injEq, zarR, zarI, zarL, zle, zq0, zq1, zq2, zq3, zq4, zq5, zq6, zq8, zq9, zq10, zq20, zq7, zq12, zq24, zq40, zq41, zq48, zq100, zq120, zq123, zq480, zq492, zq700, zq729, zq2187, zq2916, zq8748, ne_eq, Int.reduceEq, Int.reduceLT, Int.reduceLE, Int.reduceToNat, Int.reduceMul, Int.reduceAdd, Int.reduceNeg]
    exact K h' hp
  · have q : ((3 : Nat) : Int) = 3 := rfl
    simp only [e185_0, e185_1, e185_2, e185_5, e185_6, e185_9, e185_12, e185_13, e185_14, e185_17, e185_18, e185_21, e185_24, e185_25, e185_28, zs0, zsI, zsL, zsR, ztl1, ztl0, zc0, zcI, zcL, zcR, true_and, and_true, true_implies, false_implies, implies_true, not_true_eq_false, not_false_eq_true, and_self, Int.toNat_natCast, Nat.reduceAdd, Nat.reduceLeDiff, Nat.reduceLT, forall_eq', Option.some.injEq, zarR, zarI, zarL, zle, zq0, zq1, zq2, zq3, zq4, zq5, zq6, zq8, zq9, zq10, zq20, zq7, zq12, zq24, zq40, zq41, zq48, zq100, zq120, zq123, zq480, zq492, zq700, zq729, zq2187, zq2916, zq8748, ne_eq, Int.reduceEq, Int.reduceLT, Int.reduceLE, Int.reduceToNat, Int.reduceMul, Int.reduceAdd, Int.reduceNeg, gk91 hg, gr91_5 hg, gr91_22 hg, gr91_23 hg, gr91_24 hg, gr91_25 hg, gr91_26 hg, gr91_27 hg, gr91_28 hg, gr91_29 hg, gr91_32 hg, gr91_33 hg, gr91_34 hg, gr91_35 hg, gr91_36 hg, gr91_37 hg, gr91_38 hg, gr91_39 hg, gr91_40 hg, gr91_41 hg, gr91_42 hg, gr91_44 hg, gr91_45 hg, gr91_46 hg, gr91_48 hg, gr91_49 hg, gr91_50 hg, gr91_51 hg, gr91_52 hg, q]
    apply m_rest3 (d := d) hg hu hw hc hf hd B h _ b1 b2 b3 h20 hP
    intro h' hp
    simp only [e185_0, e185_1, e185_2, e185_5, e185_6, e185_9, e185_12, e185_13, e185_14, e185_17, e185_18, e185_21, e185_24, e185_25, e185_28, zs0, zsI, zsL, zsR, ztl1, ztl0, zc0, zcI, zcL, zcR, true_and, and_true, true_implies, false_implies, implies_true, not_true_eq_false, not_false_eq_true, and_self, Int.toNat_natCast, Nat.reduceAdd, Nat.reduceLeDiff, Nat.reduceLT, forall_eq', Option.some.injEq, zarR, zarI, zarL, zle, zq0, zq1, zq2, zq3, zq4, zq5, zq6, zq8, zq9, zq10, zq20, zq7, zq12, zq24, zq40, zq41, zq48, zq100, zq120, zq123, zq480, zq492, zq700, zq729, zq2187, zq2916, zq8748, ne_eq, Int.reduceEq, Int.reduceLT, Int.reduceLE, Int.reduceToNat, Int.reduceMul, Int.reduceAdd, Int.reduceNeg]
    exact K h' hp
theorem rFr_out {h h' : zM} (f : rFr y h h') : ∀ c i, c < 91 ∨ c = 91 ∧ ¬ i = 43 ∨ 91 < c ∧ c < 94 ∨ 99 < c ∧ c < 110 ∨ 114 < c → h' c i = h c i := fun c i q => f c i (by omega) (by omega) (by omega) (by omega) (by omega) (by omega) (by omega)
theorem m_worthOf (hg : gS G) (hu : gU G u) (hw : wT T) (hc : acOk T ac) (hf : fB nn nf) (h1 : 1 ≤ n) (h3 : n ≤ 3) (b1 : hB hd B) (b2 : -100 ≤ B) (b3 : B + 100 * n ≤ 2000000) (h20 : nB T = 2 → ∀ s, hd s 2 = 0) (hP : rPre T ac nn nf u n hd h) {b : Nat} (hb : b < nB T) (K : ∀ h', rPost T ac nn nf n hd h h' → Q (some (zL (vV T ac nn nf n hd b))) G h') : zRunD ztb zmt' (d + 13) 199 [zR (some 91), zI b, zI n] G h Q := by
  rw [r199]
  have hb3 := hw.1
  have t1 := tg_b hw hc
  have cb := calm_b (ac := ac) (nb := nB T) (w := rW T ac nn nf n hd) (by omega)
  simp only [e199_0, e199_1, e199_2, zs0, zsI, zsL, zsR, ztl1, ztl0, zc0, zcI, zcL, zcR, true_and, and_true, true_implies, false_implies, implies_true, not_true_eq_false, not_false_eq_true, and_self, Int.toNat_natCast, Nat.reduceAdd, Nat.reduceLeDiff, Nat.reduceLT, forall_eq', Option.some.injEq, zarR, zarI, zarL, zle, zq0, zq1, zq2, zq3, zq4, zq5, zq6, zq8, zq9, zq10, zq20, zq7, zq12, zq24, zq40, zq41, zq48, zq100, zq120, zq123, zq480, zq492, zq700, zq729, zq2187, zq2916, zq8748, ne_eq, Int.reduceEq, Int.reduceLT, Int.reduceLE, Int.reduceToNat, Int.reduceMul, Int.reduceAdd, Int.reduceNeg, gk91 hg, gr91_5 hg, gr91_22 hg, gr91_23 hg, gr91_24 hg, gr91_25 hg, gr91_26 hg, gr91_27 hg, gr91_28 hg, gr91_29 hg, gr91_32 hg, gr91_33 hg, gr91_34 hg, gr91_35 hg, gr91_36 hg, gr91_37 hg, gr91_38 hg, gr91_39 hg, gr91_40 hg, gr91_41 hg, gr91_42 hg, gr91_44 hg, gr91_45 hg, gr91_46 hg, gr91_48 hg, gr91_49 hg, gr91_50 hg, gr91_51 hg, gr91_52 hg]
  apply m_rests (d := d) hg hu hw hc hf h1 h3 b1 b2 b3 h20 hP
  intro h' hp
  have wa := fun Q' => m_worthAt (d := d + 11) (Q := Q') (G := G) (h := h') (y := n) (a := calm ac (nB T) (rW T ac nn nf n hd)) (b := b) (by omega) (by omega) (by omega)
  have i1 : (((n * 729 + calm ac (nB T) (rW T ac nn nf n hd)) * 3 + b : Nat) : Int) < 8748 := by omega
  have ev := hp.2.2.1 (calm ac (nB T) (rW T ac nn nf n hd)) b cb hb
  simp only [e199_0, e199_1, e199_2, e199_5, e199_6, e199_7, e199_10, e199_11, e199_12, e199_13, e199_16, e199_17, zs0, zsI, zsL, zsR, ztl1, ztl0, zc0, zcI, zcL, zcR, true_and, and_true, true_implies, false_implies, implies_true, not_true_eq_false, not_false_eq_true, and_self, Int.toNat_natCast, Nat.reduceAdd, Nat.reduceLeDiff, Nat.reduceLT, forall_eq', Option.some.injEq, zarR, zarI, zarL, zle, zq0, zq1, zq2, zq3, zq4, zq5, zq6, zq8, zq9, zq10, zq20, zq7, zq12, zq24, zq40, zq41, zq48, zq100, zq120, zq123, zq480, zq492, zq700, zq729, zq2187, zq2916, zq8748, ne_eq, Int.reduceEq, Int.reduceLT, Int.reduceLE, Int.reduceToNat, Int.reduceMul, Int.reduceAdd, Int.reduceNeg, gk91 hg, gr91_5 hg, gr91_22 hg, gr91_23 hg, gr91_24 hg, gr91_25 hg, gr91_26 hg, gr91_27 hg, gr91_28 hg, gr91_29 hg, gr91_32 hg, gr91_33 hg, gr91_34 hg, gr91_35 hg, gr91_36 hg, gr91_37 hg, gr91_38 hg, gr91_39 hg, gr91_40 hg, gr91_41 hg, gr91_42 hg, gr91_44 hg, gr91_45 hg, gr91_46 hg, gr91_48 hg, gr91_49 hg, gr91_50 hg, gr91_51 hg, gr91_52 hg, gk111 hg, gl111 hg, or_true, true_or, if_true, if_false, false_and, and_false, false_or, or_false, wa, i1, ev]
  exact K h' hp
theorem rPre_mk (hw : wT T) (V : rV h u T) (hA : rA h T ac) (h19 : h 91 19 = -1) (m100 : ∀ s, s < nS T → h 100 s = tr T 3 s) (m110 : ∀ s b, s < nS T → b < nB T → h 110 (12 * n + (3 * s + b)) = hd s b) (h43 : h 91 43 = 0) : rPre T ac (nn0 T) (nf0 T) u n hd h := by
  refine ⟨V, hA, m110, ?_, ?_, Or.inl h43⟩
  · intro s hs
    have b3 := (hw.2.2.2.2.2 s).2.2.2.1
    rw [m100 s hs, h19, if_pos rfl]
    refine ⟨by omega, ?_, rfl⟩
    unfold nf0
    rcases (hw.2.2.2.2.2 s).2.2.2.2.2.2.2.1 with b7 | b7
    · rw [if_neg (by omega), if_pos b7]
    · rw [if_pos b7, if_neg (by omega)]
  · rw [h19]
    decide
/-- nobody promises -/
theorem rA_all (hw : wT T) (h20 : h 91 20 = -1) (h21 : h 91 21 = 0) : rA h T (fun _ => nA T) := by
  intro b hb
  rw [h20, h21, if_neg (by omega)]
  refine ⟨?_, by decide, by decide⟩
  unfold nA
  rcases hw.2.2.2.1 with t | t
  · rw [if_pos t, if_neg (by omega), Int.mul_one]
  · rw [if_neg (by omega), if_pos t, Int.natCast_mul]
theorem acOk_all (hw : wT T) : acOk T (fun _ => nA T) := fun _ => ⟨(nA_b hw).1, Nat.le_refl _⟩
theorem tg_all (hw : wT T) (a : Nat) : tg (fun _ => a) (nB T) = a ^ nB T := by
  have h2 : nB T = 2 ∨ nB T = 3 := by have := hw.1; omega
  rcases h2 with h2 | h2 <;> rw [h2]
  · show tgU _ _ 2 = _
    unfold tgU tgU tgU
    rw [Nat.pow_succ, Nat.pow_succ, Nat.pow_zero]
  · show tgU _ _ 3 = _
    unfold tgU tgU tgU tgU
    rw [Nat.pow_succ, Nat.pow_succ, Nat.pow_succ, Nat.pow_zero]
theorem much_N {t m nb : Nat} (h1 : t ^ m ≤ 20000) (h2 : t ≤ 729) (h3 : 1 ≤ m) (h4 : m ≤ 3) (h5 : nb ≤ 3) : m * (t * nb) ≤ 2187 := by
  have hm : m = 1 ∨ m = 2 ∨ m = 3 := by omega
  have g : ∀ k, t ≤ k → t * nb ≤ k * 3 := fun k hk => Nat.mul_le_mul hk h5
  rcases hm with rfl | rfl | rfl
  · have := g 729 h2
    omega
  · have q : t ≤ 141 := by
      by_cases c : t ≤ 141
      · exact c
      · have : 142 ^ 2 ≤ t ^ 2 := Nat.pow_le_pow_left (by omega) 2
        omega
    have := g 141 q
    omega
  · have q : t ≤ 27 := by
      by_cases c : t ≤ 27
      · exact c
      · have : 28 ^ 3 ≤ t ^ 3 := Nat.pow_le_pow_left (by omega) 3
        omega
    have := g 27 q
    omega
end RB
