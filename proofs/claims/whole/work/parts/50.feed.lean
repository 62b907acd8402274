theorem wb_b (z : Int) : -128 ≤ wb z ∧ wb z ≤ 127 := by
  unfold wb Int.bmod
  dsimp only
  split <;> omega
def bt (x : Int) (j : Nat) : Int := wb (wb (x / 2 ^ (24 - 8 * j)))
def sel5 (a b c e f : Int) (k : Nat) : Int := if k < 4 then a else if k < 8 then b else if k < 12 then c else if k < 16 then e else f
/-- how many of the first years somebody left -/
def cnt (lf : Nat → Int) : Nat → Int
  | 0 => 0
  | y + 1 => cnt lf y + (if 0 < lf y then 1 else 0)
theorem cnt_le (lf : Nat → Int) (y j : Nat) : cnt lf y ≤ cnt lf (y + j) ∧ 0 ≤ cnt lf y ∧ cnt lf y ≤ y := by
  have h0 : ∀ y, 0 ≤ cnt lf y ∧ cnt lf y ≤ y := by
    intro y
    induction y with
    | zero => exact ⟨Int.le_refl 0, Int.le_refl 0⟩
    | succ y ih =>
      unfold cnt
      split <;> omega
  refine ⟨?_, h0 y⟩
  induction j with
  | zero => exact Int.le_refl _
  | succ j ih =>
    rw [← Nat.add_assoc, cnt]
    split <;> omega
theorem cnt_lt {lf : Nat → Int} {y z : Nat} (h : y < z) (h2 : 0 < lf y) : cnt lf y < cnt lf z := by
  have h3 : cnt lf (y + 1) = cnt lf y + 1 := by
    rw [cnt, if_pos h2]
  have h4 := (cnt_le lf (y + 1) (z - (y + 1))).1
  rw [show y + 1 + (z - (y + 1)) = z by omega] at h4
  omega
section FE
variable {d : Nat} {Q : zQ} {G : zG} {h : zM} {x : Int}
theorem c_put (hg : gS G) {n : Nat} (hn : h 0 1 = (n : Int)) (h4 : n + 4 ≤ 700) (K : ∀ h', (∀ c i, ¬ (c = 0 ∧ i = 1) → ¬ (c = 1 ∧ n ≤ i ∧ i < n + 4) → h' c i = h c i) → h' 0 1 = ((n + 4 : Nat) : Int) → (∀ j, j < 4 → h' 1 (n + j) = bt x j) → Q none G h') : zRunD ztb zmt' (d + 1) 59 [zR (some 0), zI x] G h Q := by
  rw [r59]
  have lp : ∀ j k (hh : zM), k + j = 4 → (∀ c i, ¬ (c = 0 ∧ i = 1) → ¬ (c = 1 ∧ n ≤ i ∧ i < n + k) → hh c i = h c i) → hh 0 1 = ((n + k : Nat) : Int) → (∀ i, i < k → hh 1 (n + i) = bt x i) → zE 59 d Q 3 [some (zR (some 0)), some (zI x), some (zI (24 - 8 * (k : Int)))] [] G hh (0, 0) := by
    intro j
    induction j with
    | zero =>
      intro k hh hk f m1 m2
      have hk' : k = 4 := by omega
      subst hk'
      have c1 : (24 - 8 * ((4 : Nat) : Int)) < 0 := by decide
      rw [e59_3]
      simp only [e59_0, e59_2, e59_4, e59_7, e59_8, e59_11, e59_14, e59_17, e59_18, e59_21, e59_22, e59_25, e59_26, e59_27, e59_28, e59_29, e59_30, e59_31, e59_32, e59_35, e59_36, e59_37, e59_40, e59_43, e59_46, c1, true_implies, not_true_eq_false, false_implies, and_true]
      exact K hh f m1 m2
    | succ j ih =>
      intro k hh hk f m1 m2
      have c1 : ¬ (24 - 8 * (k : Int)) < 0 := by omega
      have c2 : ¬ (700 : Int) ≤ ((n + k : Nat) : Int) := by omega
      have c3 : 0 ≤ 24 - 8 * (k : Int) := by omega
      have c4 : 24 - 8 * (k : Int) < 32 := by omega
      have c5 : ((n + k : Nat) : Int) < 700 := by omega
      have t : (24 - 8 * (k : Int)).toNat = 24 - 8 * k := by omega
      have w1 : wr (((n + k : Nat) : Int) + 1) = ((n + (k + 1) : Nat) : Int) := by
        rw [wr_id (by omega)]
        omega
      have w2 : wr (24 - 8 * (k : Int) + (-8)) = 24 - 8 * ((k + 1 : Nat) : Int) := by
        rw [wr_id (by omega)]
        omega
      rw [e59_3]
      simp only [e59_0, e59_2, e59_4, e59_7, e59_8, e59_11, e59_14, e59_17, e59_18, e59_21, e59_22, e59_25, e59_26, e59_27, e59_28, e59_29, e59_30, e59_31, e59_32, e59_35, e59_36, e59_37, e59_40, e59_43, e59_46, zs0, zsI, zsL, zsR, ztl1, ztl0, zc0, zcI, zcL, zcR, true_and, and_true, true_implies, false_implies, implies_true, not_true_eq_false, not_false_eq_true, and_self, Int.toNat_natCast, Nat.reduceAdd, Nat.reduceLeDiff, Nat.reduceLT, forall_eq', Option.some.injEq, zarR, zarI, zarL, zle, zq0, zq1, zq2, zq3, zq4, zq5, zq6, zq8, zq9, zq10, zq20, zq7, zq12, zq24, zq40, zq41, zq48, zq100, zq120, zq123, zq480, zq492, zq700, zq729, zq2187, zq2916, zq8748, ne_eq, Int.reduceEq, Int.reduceLT, Int.reduceLE, Int.reduceToNat, Int.reduceMul, Int.reduceAdd, Int.reduceNeg, gk0 hg, gr0_0 hg, gr0_2 hg, gr0_3 hg, gr0_4 hg, gr0_5 hg, gr0_6 hg, gr0_7 hg, gr0_8 hg, gr0_9 hg, gr0_10 hg, gk1 hg, gl1 hg, or_true, true_or, if_true, if_false, false_and, and_false, false_or, or_false, c1, c2, c3, c4, c5, t, m1, zu_c (show ¬ 0 = 1 by decide), w1, w2]
      apply ih (k + 1) _ (by omega)
      · intro c i q1 q2
        unfold zu
        rw [if_neg (by omega), if_neg (by omega)]
        exact f c i (by omega) (by omega)
      · exact zu_at
      · intro i hi
        rw [zu_c (by decide)]
        by_cases q : i = k
        · subst q
          rw [zu_at]
          rfl
        · rw [zu_i (by omega)]
          exact m2 i (by omega)
  have l0 := lp 4 0 h (by omega) (fun c i _ _ => rfl) hn (fun i hi => by omega)
  rw [show (24 - 8 * ((0 : Nat) : Int)) = 24 from rfl] at l0
  simp only [e59_0, e59_2, e59_4, e59_7, e59_8, e59_11, e59_14, e59_17, e59_18, e59_21, e59_22, e59_25, e59_26, e59_27, e59_28, e59_29, e59_30, e59_31, e59_32, e59_35, e59_36, e59_37, e59_40, e59_43, e59_46, zs0, zsI, zsL, zsR, ztl1, ztl0, zc0, zcI, zcL, zcR, true_and, and_true, true_implies, false_implies, implies_true, not_true_eq_false, not_false_eq_true, and_self, Int.toNat_natCast, Nat.reduceAdd, Nat.reduceLeDiff, Nat.reduceLT, forall_eq', Option.some.injEq, zarR, zarI, zarL, zle, zq0, zq1, zq2, zq3, zq4, zq5, zq6, zq8, zq9, zq10, zq20, zq7, zq12, zq24, zq40, zq41, zq48, zq100, zq120, zq123, zq480, zq492, zq700, zq729, zq2187, zq2916, zq8748, ne_eq, Int.reduceEq, Int.reduceLT, Int.reduceLE, Int.reduceToNat, Int.reduceMul, Int.reduceAdd, Int.reduceNeg]
  exact l0
theorem c_feed (hg : gS G) {a b c e f : Int} {n : Nat} (hn : h 0 1 = (n : Int)) (h4 : n + 20 ≤ 700) (K : ∀ h', (∀ c i, ¬ (c = 0 ∧ i = 1) → ¬ (c = 1 ∧ n ≤ i ∧ i < n + 20) → h' c i = h c i) → h' 0 1 = ((n + 20 : Nat) : Int) → (∀ j, j < 20 → h' 1 (n + j) = bt (sel5 a b c e f j) (j % 4)) → Q (some (zI ((n + 20 : Nat) : Int))) G h') : zRunD ztb zmt' (d + 16) 58 [zR (some 0), zI a, zI b, zI c, zI e, zI f] G h Q := by
  rw [r58]
  have w : wr ((n : Int) + 20) ≤ 700 := by rw [wr_id (by omega)]; omega
  simp only [e58_0, e58_1, e58_4, e58_6, e58_7, e58_10, e58_13, e58_14, e58_15, e58_16, e58_17, zs0, zsI, zsL, zsR, ztl1, ztl0, zc0, zcI, zcL, zcR, true_and, and_true, true_implies, false_implies, implies_true, not_true_eq_false, not_false_eq_true, and_self, Int.toNat_natCast, Nat.reduceAdd, Nat.reduceLeDiff, Nat.reduceLT, forall_eq', Option.some.injEq, zarR, zarI, zarL, zle, zq0, zq1, zq2, zq3, zq4, zq5, zq6, zq8, zq9, zq10, zq20, zq7, zq12, zq24, zq40, zq41, zq48, zq100, zq120, zq123, zq480, zq492, zq700, zq729, zq2187, zq2916, zq8748, ne_eq, Int.reduceEq, Int.reduceLT, Int.reduceLE, Int.reduceToNat, Int.reduceMul, Int.reduceAdd, Int.reduceNeg, gk0 hg, gr0_0 hg, gr0_2 hg, gr0_3 hg, gr0_4 hg, gr0_5 hg, gr0_6 hg, gr0_7 hg, gr0_8 hg, gr0_9 hg, gr0_10 hg, hn, w]
  apply c_put (d := d + 14) hg hn (by omega)
  intro h1 f1 m1 t1
  simp only [e58_20, e58_21, e58_22, zs0, zsI, zsL, zsR, ztl1, ztl0, zc0, zcI, zcL, zcR, true_and, and_true, true_implies, false_implies, implies_true, not_true_eq_false, not_false_eq_true, and_self, Int.toNat_natCast, Nat.reduceAdd, Nat.reduceLeDiff, Nat.reduceLT, forall_eq', Option.some.injEq, zarR, zarI, zarL, zle, zq0, zq1, zq2, zq3, zq4, zq5, zq6, zq8, zq9, zq10, zq20, zq7, zq12, zq24, zq40, zq41, zq48, zq100, zq120, zq123, zq480, zq492, zq700, zq729, zq2187, zq2916, zq8748, ne_eq, Int.reduceEq, Int.reduceLT, Int.reduceLE, Int.reduceToNat, Int.reduceMul, Int.reduceAdd, Int.reduceNeg, gk0 hg, gr0_0 hg, gr0_2 hg, gr0_3 hg, gr0_4 hg, gr0_5 hg, gr0_6 hg, gr0_7 hg, gr0_8 hg, gr0_9 hg, gr0_10 hg]
  apply c_put (d := d + 14) hg m1 (by omega)
  intro h2 f2 m2 t2
  simp only [e58_20, e58_21, e58_22, e58_25, e58_26, e58_27, zs0, zsI, zsL, zsR, ztl1, ztl0, zc0, zcI, zcL, zcR, true_and, and_true, true_implies, false_implies, implies_true, not_true_eq_false, not_false_eq_true, and_self, Int.toNat_natCast, Nat.reduceAdd, Nat.reduceLeDiff, Nat.reduceLT, forall_eq', Option.some.injEq, zarR, zarI, zarL, zle, zq0, zq1, zq2, zq3, zq4, zq5, zq6, zq8, zq9, zq10, zq20, zq7, zq12, zq24, zq40, zq41, zq48, zq100, zq120, zq123, zq480, zq492, zq700, zq729, zq2187, zq2916, zq8748, ne_eq, Int.reduceEq, Int.reduceLT, Int.reduceLE, Int.reduceToNat, Int.reduceMul, Int.reduceAdd, Int.reduceNeg, gk0 hg, gr0_0 hg, gr0_2 hg, gr0_3 hg, gr0_4 hg, gr0_5 hg, gr0_6 hg, gr0_7 hg, gr0_8 hg, gr0_9 hg, gr0_10 hg]
  apply c_put (d := d + 14) hg m2 (by omega)
  intro h3 f3 m3 t3
  simp only [e58_20, e58_21, e58_22, e58_25, e58_26, e58_27, e58_30, e58_31, e58_33, zs0, zsI, zsL, zsR, ztl1, ztl0, zc0, zcI, zcL, zcR, true_and, and_true, true_implies, false_implies, implies_true, not_true_eq_false, not_false_eq_true, and_self, Int.toNat_natCast, Nat.reduceAdd, Nat.reduceLeDiff, Nat.reduceLT, forall_eq', Option.some.injEq, zarR, zarI, zarL, zle, zq0, zq1, zq2, zq3, zq4, zq5, zq6, zq8, zq9, zq10, zq20, zq7, zq12, zq24, zq40, zq41, zq48, zq100, zq120, zq123, zq480, zq492, zq700, zq729, zq2187, zq2916, zq8748, ne_eq, Int.reduceEq, Int.reduceLT, Int.reduceLE, Int.reduceToNat, Int.reduceMul, Int.reduceAdd, Int.reduceNeg, gk0 hg, gr0_0 hg, gr0_2 hg, gr0_3 hg, gr0_4 hg, gr0_5 hg, gr0_6 hg, gr0_7 hg, gr0_8 hg, gr0_9 hg, gr0_10 hg]
  apply c_put (d := d + 14) hg m3 (by omega)
  intro h5 f5 m5 t5
  simp only [e58_20, e58_21, e58_22, e58_25, e58_26, e58_27, e58_30, e58_31, e58_33, e58_36, e58_37, e58_39, zs0, zsI, zsL, zsR, ztl1, ztl0, zc0, zcI, zcL, zcR, true_and, and_true, true_implies, false_implies, implies_true, not_true_eq_false, not_false_eq_true, and_self, Int.toNat_natCast, Nat.reduceAdd, Nat.reduceLeDiff, Nat.reduceLT, forall_eq', Option.some.injEq, zarR, zarI, zarL, zle, zq0, zq1, zq2, zq3, zq4, zq5, zq6, zq8, zq9, zq10, zq20, zq7, zq12, zq24, zq40, zq41, zq48, zq100, zq120, zq123, zq480, zq492, zq700, zq729, zq2187, zq2916, zq8748, ne_eq, Int.reduceEq, Int.reduceLT, Int.reduceLE, Int.reduceToNat, Int.reduceMul, Int.reduceAdd, Int.reduceNeg, gk0 hg, gr0_0 hg, gr0_2 hg, gr0_3 hg, gr0_4 hg, gr0_5 hg, gr0_6 hg, gr0_7 hg, gr0_8 hg, gr0_9 hg, gr0_10 hg]
  apply c_put (d := d + 14) hg m5 (by omega)
  intro h6 f6 m6 t6
  simp only [e58_42, e58_43, e58_46, zs0, zsI, zsL, zsR, ztl1, ztl0, zc0, zcI, zcL, zcR, true_and, and_true, true_implies, false_implies, implies_true, not_true_eq_false, not_false_eq_true, and_self, Int.toNat_natCast, Nat.reduceAdd, Nat.reduceLeDiff, Nat.reduceLT, forall_eq', Option.some.injEq, zarR, zarI, zarL, zle, zq0, zq1, zq2, zq3, zq4, zq5, zq6, zq8, zq9, zq10, zq20, zq7, zq12, zq24, zq40, zq41, zq48, zq100, zq120, zq123, zq480, zq492, zq700, zq729, zq2187, zq2916, zq8748, ne_eq, Int.reduceEq, Int.reduceLT, Int.reduceLE, Int.reduceToNat, Int.reduceMul, Int.reduceAdd, Int.reduceNeg, gk0 hg, gr0_0 hg, gr0_2 hg, gr0_3 hg, gr0_4 hg, gr0_5 hg, gr0_6 hg, gr0_7 hg, gr0_8 hg, gr0_9 hg, gr0_10 hg, m6]
  rw [show n + 4 + 4 + 4 + 4 + 4 = n + 20 by omega] at m6 ⊢
  apply K h6
  · intro c i q1 q2
    rw [f6 c i q1 (by omega), f5 c i q1 (by omega), f3 c i q1 (by omega), f2 c i q1 (by omega), f1 c i q1 (by omega)]
  · exact m6
  · intro j hj
    unfold sel5
    by_cases j1 : j < 4
    · rw [if_pos j1, f6 _ _ (by omega) (by omega), f5 _ _ (by omega) (by omega), f3 _ _ (by omega) (by omega), f2 _ _ (by omega) (by omega), t1 j j1, Nat.mod_eq_of_lt j1]
    · rw [if_neg j1]
      by_cases j2 : j < 8
      · have q := t2 (j - 4) (by omega)
        rw [show n + 4 + (j - 4) = n + j by omega, show j - 4 = j % 4 by omega] at q
        rw [if_pos j2, f6 _ _ (by omega) (by omega), f5 _ _ (by omega) (by omega), f3 _ _ (by omega) (by omega), q]
      · rw [if_neg j2]
        by_cases j3 : j < 12
        · have q := t3 (j - 8) (by omega)
          rw [show n + 4 + 4 + (j - 8) = n + j by omega, show j - 8 = j % 4 by omega] at q
          rw [if_pos j3, f6 _ _ (by omega) (by omega), f5 _ _ (by omega) (by omega), q]
        · rw [if_neg j3]
          by_cases j5 : j < 16
          · have q := t5 (j - 12) (by omega)
            rw [show n + 4 + 4 + 4 + (j - 12) = n + j by omega, show j - 12 = j % 4 by omega] at q
            rw [if_pos j5, f6 _ _ (by omega) (by omega), q]
          · have q := t6 (j - 16) (by omega)
            rw [show n + 4 + 4 + 4 + 4 + (j - 16) = n + j by omega, show j - 16 = j % 4 by omega] at q
            rw [if_neg j5, q]
theorem m_feed (hg : gS G) {a b c e f : Int} {n : Nat} (hn : h 91 6 = (n : Int)) (h4 : n + 20 ≤ 700) (K : ∀ h', (∀ c i, ¬ (c = 91 ∧ i = 0) → ¬ (c = 91 ∧ i = 6) → ¬ (c = 92 ∧ n ≤ i ∧ i < n + 20) → h' c i = h c i) → h' 91 6 = ((n + 20 : Nat) : Int) → (∀ j, j < 20 → h' 92 (n + j) = bt (sel5 a b c e f j) (j % 4)) → Q (some (zI ((n + 20 : Nat) : Int))) G h') : zRunD ztb zmt' (d + 16) 139 [zR (some 91), zI a, zI b, zI c, zI e, zI f] G h Q := by
  rw [r139]
  have w : wr ((n : Int) + 20) ≤ 700 := by rw [wr_id (by omega)]; omega
  have lp : ∀ j k (hh : zM) (l7 : Option zV), k + j = 20 → (∀ c i, ¬ (c = 91 ∧ i = 0) → ¬ (c = 91 ∧ i = 6) → ¬ (c = 92 ∧ n ≤ i ∧ i < n + k) → hh c i = h c i) → hh 91 6 = ((n + k : Nat) : Int) → (∀ i, i < k → hh 92 (n + i) = bt (sel5 a b c e f i) (i % 4)) → zE 139 (d + 15) Q 23 [some (zR (some 91)), some (zI a), some (zI b), some (zI c), some (zI e), some (zI f), some (zI k), l7] [] G hh (0, 0) := by
    intro j
    induction j with
    | zero =>
      intro k hh l7 hk g m1 m2
      have hk' : k = 20 := by omega
      subst hk'
      rw [e139_23]
      simp only [e139_0, e139_1, e139_2, e139_5, e139_6, e139_9, e139_11, e139_12, e139_15, e139_18, e139_19, e139_20, e139_21, e139_25, e139_27, e139_30, e139_32, e139_33, e139_36, e139_37, e139_40, e139_42, e139_44, e139_47, e139_48, e139_51, e139_53, e139_55, e139_58, e139_59, e139_62, e139_64, e139_66, e139_69, e139_71, e139_74, e139_76, e139_78, e139_79, e139_82, e139_83, e139_86, e139_88, e139_90, e139_92, e139_94, e139_95, e139_96, e139_97, e139_98, e139_99, e139_100, e139_101, e139_102, e139_103, e139_106, e139_107, e139_108, e139_111, e139_114, e139_117, e139_118, e139_121, zs0, zsI, zsL, zsR, ztl1, ztl0, zc0, zcI, zcL, zcR, true_and, and_true, true_implies, false_implies, implies_true, not_true_eq_false, not_false_eq_true, and_self, Int.toNat_natCast, Nat.reduceAdd, Nat.reduceLeDiff, Nat.reduceLT, forall_eq', Option.some.injEq, zarR, zarI, zarL, zle, zq0, zq1, zq2, zq3, zq4, zq5, zq6, zq8, zq9, zq10, zq20, zq7, zq12, zq24, zq40, zq41, zq48, zq100, zq120, zq123, zq480, zq492, zq700, zq729, zq2187, zq2916, zq8748, ne_eq, Int.reduceEq, Int.reduceLT, Int.reduceLE, Int.reduceToNat, Int.reduceMul, Int.reduceAdd, Int.reduceNeg, gk91 hg, gr91_5 hg, gr91_22 hg, gr91_23 hg, gr91_24 hg, gr91_25 hg, gr91_26 hg, gr91_27 hg, gr91_28 hg, gr91_29 hg, gr91_32 hg, gr91_33 hg, gr91_34 hg, gr91_35 hg, gr91_36 hg, gr91_37 hg, gr91_38 hg, gr91_39 hg, gr91_40 hg, gr91_41 hg, gr91_42 hg, gr91_44 hg, gr91_45 hg, gr91_46 hg, gr91_48 hg, gr91_49 hg, gr91_50 hg, gr91_51 hg, gr91_52 hg, or_true, true_or, if_true, if_false, false_and, and_false, false_or, or_false, Int.le_refl, m1]
      exact K hh g m1 m2
    | succ j ih =>
      intro k hh l7 hk g m1 m2
      have c20 : ¬ (20 : Int) ≤ k := by omega
      have c5 : ((n + k : Nat) : Int) < 700 := by omega
      have t : wr (24 - wr (8 * (k : Int).tmod 4)) = ((24 - 8 * (k % 4) : Nat) : Int) := by
        rw [Int.tmod_eq_emod_of_nonneg (by omega), wr_id (z := 8 * _) (by omega), wr_id (by omega)]
        omega
      have t2 : ((24 - 8 * (k % 4) : Nat) : Int) < 32 := by omega
      have w1 : wr (((n + k : Nat) : Int) + 1) = ((n + (k + 1) : Nat) : Int) := by
        rw [wr_id (by omega)]
        omega
      have rest : ∀ v : Int, v = sel5 a b c e f k → zE 139 (d + 15) Q 76 [some (zR (some 91)), some (zI a), some (zI b), some (zI c), some (zI e), some (zI f), some (zI k), l7] [zI v] G hh (0, 0) := by
        intro v hv
        simp only [e139_0, e139_1, e139_2, e139_5, e139_6, e139_9, e139_11, e139_12, e139_15, e139_18, e139_19, e139_20, e139_21, e139_25, e139_27, e139_30, e139_32, e139_33, e139_36, e139_37, e139_40, e139_42, e139_44, e139_47, e139_48, e139_51, e139_53, e139_55, e139_58, e139_59, e139_62, e139_64, e139_66, e139_69, e139_71, e139_74, e139_76, e139_78, e139_79, e139_82, e139_83, e139_86, e139_88, e139_90, e139_92, e139_94, e139_95, e139_96, e139_97, e139_98, e139_99, e139_100, e139_101, e139_102, e139_103, e139_106, e139_107, e139_108, e139_111, e139_114, e139_117, e139_118, e139_121, zs0, zsI, zsL, zsR, ztl1, ztl0, zc0, zcI, zcL, zcR, true_and, and_true, true_implies, false_implies, implies_true, not_true_eq_false, not_false_eq_true, and_self, Int.toNat_natCast, Nat.reduceAdd, Nat.reduceLeDiff, Nat.reduceLT, forall_eq', Option.some.injEq, zarR, zarI, zarL, zle, zq0, zq1, zq2, zq3, zq4, zq5, zq6, zq8, zq9, zq10, zq20, zq7, zq12, zq24, zq40, zq41, zq48, zq100, zq120, zq123, zq480, zq492, zq700, zq729, zq2187, zq2916, zq8748, ne_eq, Int.reduceEq, Int.reduceLT, Int.reduceLE, Int.reduceToNat, Int.reduceMul, Int.reduceAdd, Int.reduceNeg, gk91 hg, gr91_5 hg, gr91_22 hg, gr91_23 hg, gr91_24 hg, gr91_25 hg, gr91_26 hg, gr91_27 hg, gr91_28 hg, gr91_29 hg, gr91_32 hg, gr91_33 hg, gr91_34 hg, gr91_35 hg, gr91_36 hg, gr91_37 hg, gr91_38 hg, gr91_39 hg, gr91_40 hg, gr91_41 hg, gr91_42 hg, gr91_44 hg, gr91_45 hg, gr91_46 hg, gr91_48 hg, gr91_49 hg, gr91_50 hg, gr91_51 hg, gr91_52 hg, gk92 hg, gl92 hg, or_true, true_or, if_true, if_false, false_and, and_false, false_or, or_false, c5, t, t2, m1, zu_c (show ¬ 91 = 92 by decide), w1, wr_s (show k < 2147483647 by omega)]
        apply ih (k + 1) _ _ (by omega)
        · intro c i q1 q2 q3
          unfold zu
          rw [if_neg (by omega), if_neg (by omega)]
          exact g c i (by omega) (by omega) (by omega)
        · exact zu_at
        · intro i hi
          rw [zu_c (by decide)]
          by_cases q : i = k
          · subst q
            rw [zu_at, hv]
            rfl
          · rw [zu_i (by omega)]
            exact m2 i (by omega)
      rw [e139_23]
      by_cases k1 : k < 4
      · have b1 : ¬ (4 : Int) ≤ k := by omega
        simp only [e139_0, e139_1, e139_2, e139_5, e139_6, e139_9, e139_11, e139_12, e139_15, e139_18, e139_19, e139_20, e139_21, e139_25, e139_27, e139_30, e139_32, e139_33, e139_36, e139_37, e139_40, e139_42, e139_44, e139_47, e139_48, e139_51, e139_53, e139_55, e139_58, e139_59, e139_62, e139_64, e139_66, e139_69, e139_71, e139_74, e139_78, e139_79, e139_82, e139_83, e139_86, e139_88, e139_90, e139_92, e139_94, e139_95, e139_96, e139_97, e139_98, e139_99, e139_100, e139_101, e139_102, e139_103, e139_106, e139_107, e139_108, e139_111, e139_114, e139_117, e139_118, e139_121, zs0, zsI, zsL, zsR, ztl1, ztl0, zc0, zcI, zcL, zcR, true_and, and_true, true_implies, false_implies, implies_true, not_true_eq_false, not_false_eq_true, and_self, Int.toNat_natCast, Nat.reduceAdd, Nat.reduceLeDiff, Nat.reduceLT, forall_eq', Option.some.injEq, zarR, zarI, zarL, zle, zq0, zq1, zq2, zq3, zq4, zq5, zq6, zq8, zq9, zq10, zq20, zq7, zq12, zq24, zq40, zq41, zq48, zq100, zq120, zq123, zq480, zq492, zq700, zq729, zq2187, zq2916, zq8748, ne_eq, Int.reduceEq, Int.reduceLT, Int.reduceLE, Int.reduceToNat, Int.reduceMul, Int.reduceAdd, Int.reduceNeg, c20, b1]
        exact rest _ (by unfold sel5; rw [if_pos k1])
      · have b1 : (4 : Int) ≤ k := by omega
        by_cases k2 : k < 8
        · have b2 : ¬ (8 : Int) ≤ k := by omega
          simp only [e139_0, e139_1, e139_2, e139_5, e139_6, e139_9, e139_11, e139_12, e139_15, e139_18, e139_19, e139_20, e139_21, e139_25, e139_27, e139_30, e139_32, e139_33, e139_36, e139_37, e139_40, e139_42, e139_44, e139_47, e139_48, e139_51, e139_53, e139_55, e139_58, e139_59, e139_62, e139_64, e139_66, e139_69, e139_71, e139_74, e139_78, e139_79, e139_82, e139_83, e139_86, e139_88, e139_90, e139_92, e139_94, e139_95, e139_96, e139_97, e139_98, e139_99, e139_100, e139_101, e139_102, e139_103, e139_106, e139_107, e139_108, e139_111, e139_114, e139_117, e139_118, e139_121, zs0, zsI, zsL, zsR, ztl1, ztl0, zc0, zcI, zcL, zcR, true_and, and_true, true_implies, false_implies, implies_true, not_true_eq_false, not_false_eq_true, and_self, Int.toNat_natCast, Nat.reduceAdd, Nat.reduceLeDiff, Nat.reduceLT, forall_eq', Option.some.injEq, zarR, zarI, zarL, zle, zq0, zq1, zq2, zq3, zq4, zq5, zq6, zq8, zq9, zq10, zq20, zq7, zq12, zq24, zq40, zq41, zq48, zq100, zq120, zq123, zq480, zq492, zq700, zq729, zq2187, zq2916, zq8748, ne_eq, Int.reduceEq, Int.reduceLT, Int.reduceLE, Int.reduceToNat, Int.reduceMul, Int.reduceAdd, Int.reduceNeg, c20, b1, b2]
          exact rest _ (by unfold sel5; rw [if_neg k1, if_pos k2])
        · have b2 : (8 : Int) ≤ k := by omega
          by_cases k3 : k < 12
          · have b3 : ¬ (12 : Int) ≤ k := by omega
            simp only [e139_0, e139_1, e139_2, e139_5, e139_6, e139_9, e139_11, e139_12, e139_15, e139_18, e139_19, e139_20, e139_21, e139_25, e139_27, e139_30, e139_32, e139_33, e139_36, e139_37, e139_40, e139_42, e139_44, e139_47, e139_48, e139_51, e139_53, e139_55, e139_58, e139_59, e139_62, e139_64, e139_66, e139_69, e139_71, e139_74, e139_78, e139_79, e139_82, e139_83, e139_86, e139_88, e139_90, e139_92, e139_94, e139_95, e139_96, e139_97, e139_98, e139_99, e139_100, e139_101, e139_102, e139_103, e139_106, e139_107, e139_108, e139_111, e139_114, e139_117, e139_118, e139_121, zs0, zsI, zsL, zsR, ztl1, ztl0, zc0, zcI, zcL, zcR, true_and, and_true, true_implies, false_implies, implies_true, not_true_eq_false, not_false_eq_true, and_self, Int.toNat_natCast, Nat.reduceAdd, Nat.reduceLeDiff, Nat.reduceLT, forall_eq', Option.some.injEq, zarR, zarI, zarL, zle, zq0, zq1, zq2, zq3, zq4, zq5, zq6, zq8, zq9, zq10, zq20, zq7, zq12, zq24, zq40, zq41, zq48, zq100, zq120, zq123, zq480, zq492, zq700, zq729, zq2187, zq2916, zq8748, ne_eq, Int.reduceEq, Int.reduceLT, Int.reduceLE, Int.reduceToNat, Int.reduceMul, Int.reduceAdd, Int.reduceNeg, c20, b1, b2, b3]
            exact rest _ (by unfold sel5; rw [if_neg k1, if_neg k2, if_pos k3])
          · have b3 : (12 : Int) ≤ k := by omega
            by_cases k5 : k < 16
            · have b5 : ¬ (16 : Int) ≤ k := by omega
              simp only [e139_0, e139_1, e139_2, e139_5, e139_6, e139_9, e139_11, e139_12, e139_15, e139_18, e139_19, e139_20, e139_21, e139_25, e139_27, e139_30, e139_32, e139_33, e139_36, e139_37, e139_40, e139_42, e139_44, e139_47, e139_48, e139_51, e139_53, e139_55, e139_58, e139_59, e139_62, e139_64, e139_66, e139_69, e139_71, e139_74, e139_78, e139_79, e139_82, e139_83, e139_86, e139_88, e139_90, e139_92, e139_94, e139_95, e139_96, e139_97, e139_98, e139_99, e139_100, e139_101, e139_102, e139_103, e139_106, e139_107, e139_108, e139_111, e139_114, e139_117, e139_118, e139_121, zs0, zsI, zsL, zsR, ztl1, ztl0, zc0, zcI, zcL, zcR, true_and, and_true, true_implies, false_implies, implies_true, not_true_eq_false, not_false_eq_true, and_self, Int.toNat_natCast, Nat.reduceAdd, Nat.reduceLeDiff, Nat.reduceLT, forall_eq', Option.some.injEq, zarR, zarI, zarL, zle, zq0, zq1, zq2, zq3, zq4, zq5, zq6, zq8, zq9, zq10, zq20, zq7, zq12, zq24, zq40, zq41, zq48, zq100, zq120, zq123, zq480, zq492, zq700, zq729, zq2187, zq2916, zq8748, ne_eq, Int.reduceEq, Int.reduceLT, Int.reduceLE, Int.reduceToNat, Int.reduceMul, Int.reduceAdd, Int.reduceNeg, c20, b1, b2, b3, b5]
              exact rest _ (by unfold sel5; rw [if_neg k1, if_neg k2, if_neg k3, if_pos k5])
            · have b5 : (16 : Int) ≤ k := by omega
              simp only [e139_0, e139_1, e139_2, e139_5, e139_6, e139_9, e139_11, e139_12, e139_15, e139_18, e139_19, e139_20, e139_21, e139_25, e139_27, e139_30, e139_32, e139_33, e139_36, e139_37, e139_40, e139_42, e139_44, e139_47, e139_48, e139_51, e139_53, e139_55, e139_58, e139_59, e139_62, e139_64, e139_66, e139_69, e139_71, e139_74, e139_78, e139_79, e139_82, e139_83, e139_86, e139_88, e139_90, e139_92, e139_94, e139_95, e139_96, e139_97, e139_98, e139_99, e139_100, e139_101, e139_102, e139_103, e139_106, e139_107, e139_108, e139_111, e139_114, e139_117, e139_118, e139_121, zs0, zsI, zsL, zsR, ztl1, ztl0, zc0, zcI, zcL, zcR, true_and, and_true, true_implies, false_implies, implies_true, not_true_eq_false, not_false_eq_true, and_self, Int.toNat_natCast, Nat.reduceAdd, Nat.reduceLeDiff, Nat.reduceLT, forall_eq', Option.some.injEq, zarR, zarI, zarL, zle, zq0, zq1, zq2, zq3, zq4, zq5, zq6, zq8, zq9, zq10, zq20, zq7, zq12, zq24, zq40, zq41, zq48, zq100, zq120, zq123, zq480, zq492, zq700, zq729, zq2187, zq2916, zq8748, ne_eq, Int.reduceEq, Int.reduceLT, Int.reduceLE, Int.reduceToNat, Int.reduceMul, Int.reduceAdd, Int.reduceNeg, c20, b1, b2, b3, b5]
              exact rest _ (by unfold sel5; rw [if_neg k1, if_neg k2, if_neg k3, if_neg k5])
  simp only [e139_0, e139_1, e139_2, e139_5, e139_6, e139_9, e139_11, e139_12, e139_15, e139_18, e139_19, e139_20, e139_21, e139_25, e139_27, e139_30, e139_32, e139_33, e139_36, e139_37, e139_40, e139_42, e139_44, e139_47, e139_48, e139_51, e139_53, e139_55, e139_58, e139_59, e139_62, e139_64, e139_66, e139_69, e139_71, e139_74, e139_76, e139_78, e139_79, e139_82, e139_83, e139_86, e139_88, e139_90, e139_92, e139_94, e139_95, e139_96, e139_97, e139_98, e139_99, e139_100, e139_101, e139_102, e139_103, e139_106, e139_107, e139_108, e139_111, e139_114, e139_117, e139_118, e139_121, zs0, zsI, zsL, zsR, ztl1, ztl0, zc0, zcI, zcL, zcR, true_and, and_true, true_implies, false_implies, implies_true, not_true_eq_false, not_false_eq_true, and_self, Int.toNat_natCast, Nat.reduceAdd, Nat.reduceLeDiff, Nat.reduceLT, forall_eq', Option.some.injEq, zarR, zarI, zarL, zle, zq0, zq1, zq2, zq3, zq4, zq5, zq6, zq8, zq9, zq10, zq20, zq7, zq12, zq24, zq40, zq41, zq48, zq100, zq120, zq123, zq480, zq492, zq700, zq729, zq2187, zq2916, zq8748, ne_eq, Int.reduceEq, Int.reduceLT, Int.reduceLE, Int.reduceToNat, Int.reduceMul, Int.reduceAdd, Int.reduceNeg, gk91 hg, gr91_5 hg, gr91_22 hg, gr91_23 hg, gr91_24 hg, gr91_25 hg, gr91_26 hg, gr91_27 hg, gr91_28 hg, gr91_29 hg, gr91_32 hg, gr91_33 hg, gr91_34 hg, gr91_35 hg, gr91_36 hg, gr91_37 hg, gr91_38 hg, gr91_39 hg, gr91_40 hg, gr91_41 hg, gr91_42 hg, gr91_44 hg, gr91_45 hg, gr91_46 hg, gr91_48 hg, gr91_49 hg, gr91_50 hg, gr91_51 hg, gr91_52 hg, zu_i (show ¬ 6 = 0 by decide), hn, w]
  apply lp 20 0 _ _ (by omega)
  · intro c i q1 q2 q3
    unfold zu
    rw [if_neg q1]
  · rw [zu_i (by decide), hn]
    rfl
  · intro i hi
    omega
theorem p_feed (hI : INV G h) {a b c e f : Int} : PR zI d 58 139 [zI a, zI b, zI c, zI e, zI f] G h := by
  have hg := hI.1
  obtain ⟨n, n1, n2, n3, n4⟩ := hI.2.1
  by_cases hn : n + 20 ≤ 700
  · refine PR_u (fun h1 => (∀ c i, ¬ (c = 0 ∧ i = 1) → ¬ (c = 1 ∧ n ≤ i ∧ i < n + 20) → h1 c i = h c i) ∧ h1 0 1 = ((n + 20 : Nat) : Int) ∧ (∀ j, j < 20 → h1 1 (n + j) = bt (sel5 a b c e f j) (j % 4))) ((n + 20 : Nat) : Int) ?_ ?_
    · intro Q K
      apply c_feed hg n1 hn
      intro h1 f1 m1 t1
      exact K h1 ⟨f1, m1, t1⟩
    · rintro h1 ⟨f1, m1, t1⟩ Q K
      apply m_feed hg (n := n) (by rw [f1 _ _ (by omega) (by omega)]; exact n2) hn
      intro h2 f2 m2 t2
      apply K
      have fr : ∀ c i, ¬ (c = 0 ∧ i = 1) → ¬ (c = 1 ∧ n ≤ i ∧ i < n + 20) → ¬ (c = 91 ∧ i = 0) → ¬ (c = 91 ∧ i = 6) → ¬ (c = 92 ∧ n ≤ i ∧ i < n + 20) → h2 c i = h c i := by
        intro c i q1 q2 q3 q4 q5
        rw [f2 c i q3 q4 q5, f1 c i q1 q2]
      have hc : ∀ c i, core c i → ¬ c = 0 → ¬ c = 1 → ¬ (c = 91 ∧ i = 6) → ¬ c = 92 → h2 c i = h c i := by
        intro c i q q1 q2 q3 q4
        unfold core at q
        exact fr c i (by omega) (by omega) (by omega) (by omega) (by omega)
      refine ⟨hg, ⟨n + 20, ?_, m2, hn, ?_⟩, ?_, ?_⟩
      · rw [f2 _ _ (by omega) (by omega) (by omega)]
        exact m1
      · intro i hi
        by_cases q : i < n
        · rw [fr _ _ (by omega) (by omega) (by omega) (by omega) (by omega), fr _ _ (by omega) (by omega) (by omega) (by omega) (by omega)]
          exact n4 i q
        · have a1 := t1 (i - n) (by omega)
          have a2 := t2 (i - n) (by omega)
          rw [show n + (i - n) = i by omega] at a1 a2
          rw [f2 1 i (by omega) (by omega) (by omega), a1, a2]
          exact ⟨rfl, wb_b _⟩
      · obtain ⟨a1, a2, a3⟩ := hI.2.2.1
        unfold I2
        rw [fr _ _ (by omega) (by omega) (by omega) (by omega) (by omega), fr _ _ (by omega) (by omega) (by omega) (by omega) (by omega), fr _ _ (by omega) (by omega) (by omega) (by omega) (by omega), fr _ _ (by omega) (by omega) (by omega) (by omega) (by omega), fr _ _ (by omega) (by omega) (by omega) (by omega) (by omega), fr _ _ (by omega) (by omega) (by omega) (by omega) (by omega)]
        exact ⟨a1, a2, a3⟩
      · rcases hI.2.2.2 with a | ⟨u, T, Y, a⟩
        · left
          unfold I0 at a ⊢
          rw [fr _ _ (by omega) (by omega) (by omega) (by omega) (by omega), fr _ _ (by omega) (by omega) (by omega) (by omega) (by omega), fr _ _ (by omega) (by omega) (by omega) (by omega) (by omega), fr _ _ (by omega) (by omega) (by omega) (by omega) (by omega), fr _ _ (by omega) (by omega) (by omega) (by omega) (by omega), fr _ _ (by omega) (by omega) (by omega) (by omega) (by omega), fr _ _ (by omega) (by omega) (by omega) (by omega) (by omega), fr _ _ (by omega) (by omega) (by omega) (by omega) (by omega), fr _ _ (by omega) (by omega) (by omega) (by omega) (by omega)]
          exact a
        · right
          obtain ⟨hu, hu2, hw, kt, rt, i4, i5⟩ := a
          have u1 := hu.1
          exact ⟨u, T, Y, hu, hu2, hw, kT_frame kt (fun c i _ _ => fr _ _ (by omega) (by omega) (by omega) (by omega) (by omega)), rT_frame rt (fun c i _ => fr _ _ (by omega) (by omega) (by omega) (by omega) (by omega)), I4_fr hw i4 (fun c i _ _ => fr _ _ (by omega) (by omega) (by omega) (by omega) (by omega)) (fr _ _ (by omega) (by omega) (by omega) (by omega) (by omega)) (fr _ _ (by omega) (by omega) (by omega) (by omega) (by omega)) (fun i _ => fr _ _ (by omega) (by omega) (by omega) (by omega) (by omega)) (fun c i _ _ => fr _ _ (by omega) (by omega) (by omega) (by omega) (by omega)), I5_fr i5 (fun c i _ _ => fr _ _ (by omega) (by omega) (by omega) (by omega) (by omega)) (fr _ _ (by omega) (by omega) (by omega) (by omega) (by omega)) (fun c i _ _ => fr _ _ (by omega) (by omega) (by omega) (by omega) (by omega))⟩
  · have w : ¬ wr ((n : Int) + 20) ≤ 700 := by rw [wr_id (by omega)]; omega
    refine PR_0 (-1) hI ?_ ?_
    · intro Q K
      rw [r58]
      simp only [e58_0, e58_1, e58_4, e58_6, e58_7, e58_10, e58_13, e58_14, e58_15, e58_16, e58_17, e58_20, e58_21, e58_22, e58_25, e58_26, e58_27, e58_30, e58_31, e58_33, e58_36, e58_37, e58_39, e58_42, e58_43, e58_46, zs0, zsI, zsL, zsR, ztl1, ztl0, zc0, zcI, zcL, zcR, true_and, and_true, true_implies, false_implies, implies_true, not_true_eq_false, not_false_eq_true, and_self, Int.toNat_natCast, Nat.reduceAdd, Nat.reduceLeDiff, Nat.reduceLT, forall_eq', Option.some.injEq, zarR, zarI, zarL, zle, zq0, zq1, zq2, zq3, zq4, zq5, zq6, zq8, zq9, zq10, zq20, zq7, zq12, zq24, zq40, zq41, zq48, zq100, zq120, zq123, zq480, zq492, zq700, zq729, zq2187, zq2916, zq8748, ne_eq, Int.reduceEq, Int.reduceLT, Int.reduceLE, Int.reduceToNat, Int.reduceMul, Int.reduceAdd, Int.reduceNeg, gk0 hg, gr0_0 hg, gr0_2 hg, gr0_3 hg, gr0_4 hg, gr0_5 hg, gr0_6 hg, gr0_7 hg, gr0_8 hg, gr0_9 hg, gr0_10 hg, or_true, true_or, if_true, if_false, false_and, and_false, false_or, or_false, n1, w]
      exact K
    · intro Q K
      rw [r139]
      simp only [e139_0, e139_1, e139_2, e139_5, e139_6, e139_9, e139_11, e139_12, e139_15, e139_18, e139_19, e139_20, e139_21, e139_25, e139_27, e139_30, e139_32, e139_33, e139_36, e139_37, e139_40, e139_42, e139_44, e139_47, e139_48, e139_51, e139_53, e139_55, e139_58, e139_59, e139_62, e139_64, e139_66, e139_69, e139_71, e139_74, e139_76, e139_78, e139_79, e139_82, e139_83, e139_86, e139_88, e139_90, e139_92, e139_94, e139_95, e139_96, e139_97, e139_98, e139_99, e139_100, e139_101, e139_102, e139_103, e139_106, e139_107, e139_108, e139_111, e139_114, e139_117, e139_118, e139_121, zs0, zsI, zsL, zsR, ztl1, ztl0, zc0, zcI, zcL, zcR, true_and, and_true, true_implies, false_implies, implies_true, not_true_eq_false, not_false_eq_true, and_self, Int.toNat_natCast, Nat.reduceAdd, Nat.reduceLeDiff, Nat.reduceLT, forall_eq', Option.some.injEq, zarR, zarI, zarL, zle, zq0, zq1, zq2, zq3, zq4, zq5, zq6, zq8, zq9, zq10, zq20, zq7, zq12, zq24, zq40, zq41, zq48, zq100, zq120, zq123, zq480, zq492, zq700, zq729, zq2187, zq2916, zq8748, ne_eq, Int.reduceEq, Int.reduceLT, Int.reduceLE, Int.reduceToNat, Int.reduceMul, Int.reduceAdd, Int.reduceNeg, gk91 hg, gr91_5 hg, gr91_22 hg, gr91_23 hg, gr91_24 hg, gr91_25 hg, gr91_26 hg, gr91_27 hg, gr91_28 hg, gr91_29 hg, gr91_32 hg, gr91_33 hg, gr91_34 hg, gr91_35 hg, gr91_36 hg, gr91_37 hg, gr91_38 hg, gr91_39 hg, gr91_40 hg, gr91_41 hg, gr91_42 hg, gr91_44 hg, gr91_45 hg, gr91_46 hg, gr91_48 hg, gr91_49 hg, gr91_50 hg, gr91_51 hg, gr91_52 hg, or_true, true_or, if_true, if_false, false_and, and_false, false_or, or_false, zu_i (show ¬ 6 = 0 by decide), n2, w]
      exact K
theorem c_led (hg : gS G) {Y : Nat} (hY : h 38 0 = (Y : Int)) (h40 : Y ≤ 40) (K1 : ∀ y : Nat, y < Y → 0 < h 44 y → cnt (h 44) y = x → Q (some (zI y)) G h) (K2 : (∀ y, y < Y → 0 < h 44 y → ¬ cnt (h 44) y = x) → Q (some (zT 2000)) G h) : zRunD ztb zmt' (d + 1) 92 [zR (some 0), zI x] G h Q := by
  rw [r92]
  have lp : ∀ j y, y + j = Y → (∀ y', y' < y → 0 < h 44 y' → ¬ cnt (h 44) y' = x) → zE 92 d Q 4 [some (zR (some 0)), some (zI x), some (zI (cnt (h 44) y)), some (zI y)] [] G h (0, 0) := by
    intro j
    induction j with
    | zero =>
      intro y hy hm
      have hy' : y = Y := by omega
      subst hy'
      rw [e92_4]
      simp only [e92_0, e92_1, e92_2, e92_3, e92_5, e92_6, e92_9, e92_12, e92_15, e92_16, e92_19, e92_22, e92_23, e92_24, e92_27, e92_28, e92_29, e92_32, e92_33, e92_34, e92_37, e92_40, e92_43, zs0, zsI, zsL, zsR, ztl1, ztl0, zc0, zcI, zcL, zcR, true_and, and_true, true_implies, false_implies, implies_true, not_true_eq_false, not_false_eq_true, and_self, Int.toNat_natCast, Nat.reduceAdd, Nat.reduceLeDiff, Nat.reduceLT, forall_eq', Option.some.injEq, zarR, zarI, zarL, zle, zq0, zq1, zq2, zq3, zq4, zq5, zq6, zq8, zq9, zq10, zq20, zq7, zq12, zq24, zq40, zq41, zq48, zq100, zq120, zq123, zq480, zq492, zq700, zq729, zq2187, zq2916, zq8748, ne_eq, Int.reduceEq, Int.reduceLT, Int.reduceLE, Int.reduceToNat, Int.reduceMul, Int.reduceAdd, Int.reduceNeg, gk0 hg, gr0_0 hg, gr0_2 hg, gr0_3 hg, gr0_4 hg, gr0_5 hg, gr0_6 hg, gr0_7 hg, gr0_8 hg, gr0_9 hg, gr0_10 hg, gk38 hg, gr38_1 hg, gr38_2 hg, gr38_3 hg, gr38_4 hg, gr38_5 hg, gr38_6 hg, or_true, true_or, if_true, if_false, false_and, and_false, false_or, or_false, hY, Int.le_refl, Nat.zero_add, Nat.le_refl]
      exact K2 hm
    | succ j ih =>
      intro y hy hm
      have c1 : ¬ (Y : Int) ≤ y := by omega
      have y40 : (y : Int) < 40 := by omega
      have cb := cnt_le (h 44) y 0
      rw [e92_4]
      by_cases c2 : h 44 y ≤ 0
      · simp only [e92_0, e92_1, e92_2, e92_3, e92_5, e92_6, e92_9, e92_12, e92_15, e92_16, e92_19, e92_22, e92_23, e92_24, e92_27, e92_28, e92_29, e92_32, e92_33, e92_34, e92_37, e92_40, e92_43, zs0, zsI, zsL, zsR, ztl1, ztl0, zc0, zcI, zcL, zcR, true_and, and_true, true_implies, false_implies, implies_true, not_true_eq_false, not_false_eq_true, and_self, Int.toNat_natCast, Nat.reduceAdd, Nat.reduceLeDiff, Nat.reduceLT, forall_eq', Option.some.injEq, zarR, zarI, zarL, zle, zq0, zq1, zq2, zq3, zq4, zq5, zq6, zq8, zq9, zq10, zq20, zq7, zq12, zq24, zq40, zq41, zq48, zq100, zq120, zq123, zq480, zq492, zq700, zq729, zq2187, zq2916, zq8748, ne_eq, Int.reduceEq, Int.reduceLT, Int.reduceLE, Int.reduceToNat, Int.reduceMul, Int.reduceAdd, Int.reduceNeg, gk0 hg, gr0_0 hg, gr0_2 hg, gr0_3 hg, gr0_4 hg, gr0_5 hg, gr0_6 hg, gr0_7 hg, gr0_8 hg, gr0_9 hg, gr0_10 hg, gk38 hg, gr38_1 hg, gr38_2 hg, gr38_3 hg, gr38_4 hg, gr38_5 hg, gr38_6 hg, gk44 hg, gl44 hg, or_true, true_or, if_true, if_false, false_and, and_false, false_or, or_false, hY, c1, y40, c2, wr_s (show y < 2147483647 by omega)]
        have i2 := ih (y + 1) (by omega) (fun y' q1 q2 => by
          by_cases q : y' = y
          · subst q
            omega
          · exact hm y' (by omega) q2)
        rw [cnt, if_neg (by omega), Int.add_zero] at i2
        exact i2
      · by_cases c3 : cnt (h 44) y = x
        · simp only [e92_0, e92_1, e92_2, e92_3, e92_5, e92_6, e92_9, e92_12, e92_15, e92_16, e92_19, e92_22, e92_23, e92_24, e92_27, e92_28, e92_29, e92_32, e92_33, e92_34, e92_37, e92_40, e92_43, zs0, zsI, zsL, zsR, ztl1, ztl0, zc0, zcI, zcL, zcR, true_and, and_true, true_implies, false_implies, implies_true, not_true_eq_false, not_false_eq_true, and_self, Int.toNat_natCast, Nat.reduceAdd, Nat.reduceLeDiff, Nat.reduceLT, forall_eq', Option.some.injEq, zarR, zarI, zarL, zle, zq0, zq1, zq2, zq3, zq4, zq5, zq6, zq8, zq9, zq10, zq20, zq7, zq12, zq24, zq40, zq41, zq48, zq100, zq120, zq123, zq480, zq492, zq700, zq729, zq2187, zq2916, zq8748, ne_eq, Int.reduceEq, Int.reduceLT, Int.reduceLE, Int.reduceToNat, Int.reduceMul, Int.reduceAdd, Int.reduceNeg, gk0 hg, gr0_0 hg, gr0_2 hg, gr0_3 hg, gr0_4 hg, gr0_5 hg, gr0_6 hg, gr0_7 hg, gr0_8 hg, gr0_9 hg, gr0_10 hg, gk38 hg, gr38_1 hg, gr38_2 hg, gr38_3 hg, gr38_4 hg, gr38_5 hg, gr38_6 hg, gk44 hg, gl44 hg, or_true, true_or, if_true, if_false, false_and, and_false, false_or, or_false, hY, c1, y40, c2, c3]
          exact K1 y (by omega) (by omega) c3
        · have w : wr (cnt (h 44) y + 1) = cnt (h 44) y + 1 := wr_id (by omega)
          simp only [e92_0, e92_1, e92_2, e92_3, e92_5, e92_6, e92_9, e92_12, e92_15, e92_16, e92_19, e92_22, e92_23, e92_24, e92_27, e92_28, e92_29, e92_32, e92_33, e92_34, e92_37, e92_40, e92_43, zs0, zsI, zsL, zsR, ztl1, ztl0, zc0, zcI, zcL, zcR, true_and, and_true, true_implies, false_implies, implies_true, not_true_eq_false, not_false_eq_true, and_self, Int.toNat_natCast, Nat.reduceAdd, Nat.reduceLeDiff, Nat.reduceLT, forall_eq', Option.some.injEq, zarR, zarI, zarL, zle, zq0, zq1, zq2, zq3, zq4, zq5, zq6, zq8, zq9, zq10, zq20, zq7, zq12, zq24, zq40, zq41, zq48, zq100, zq120, zq123, zq480, zq492, zq700, zq729, zq2187, zq2916, zq8748, ne_eq, Int.reduceEq, Int.reduceLT, Int.reduceLE, Int.reduceToNat, Int.reduceMul, Int.reduceAdd, Int.reduceNeg, gk0 hg, gr0_0 hg, gr0_2 hg, gr0_3 hg, gr0_4 hg, gr0_5 hg, gr0_6 hg, gr0_7 hg, gr0_8 hg, gr0_9 hg, gr0_10 hg, gk38 hg, gr38_1 hg, gr38_2 hg, gr38_3 hg, gr38_4 hg, gr38_5 hg, gr38_6 hg, gk44 hg, gl44 hg, or_true, true_or, if_true, if_false, false_and, and_false, false_or, or_false, hY, c1, y40, c2, c3, w, wr_s (show y < 2147483647 by omega)]
          have i2 := ih (y + 1) (by omega) (fun y' q1 q2 => by
            by_cases q : y' = y
            · subst q
              exact c3
            · exact hm y' (by omega) q2)
          rw [cnt, if_pos (by omega)] at i2
          exact i2
  simp only [e92_0, e92_1, e92_2, e92_3, e92_5, e92_6, e92_9, e92_12, e92_15, e92_16, e92_19, e92_22, e92_23, e92_24, e92_27, e92_28, e92_29, e92_32, e92_33, e92_34, e92_37, e92_40, e92_43, zs0, zsI, zsL, zsR, ztl1, ztl0, zc0, zcI, zcL, zcR, true_and, and_true, true_implies, false_implies, implies_true, not_true_eq_false, not_false_eq_true, and_self, Int.toNat_natCast, Nat.reduceAdd, Nat.reduceLeDiff, Nat.reduceLT, forall_eq', Option.some.injEq, zarR, zarI, zarL, zle, zq0, zq1, zq2, zq3, zq4, zq5, zq6, zq8, zq9, zq10, zq20, zq7, zq12, zq24, zq40, zq41, zq48, zq100, zq120, zq123, zq480, zq492, zq700, zq729, zq2187, zq2916, zq8748, ne_eq, Int.reduceEq, Int.reduceLT, Int.reduceLE, Int.reduceToNat, Int.reduceMul, Int.reduceAdd, Int.reduceNeg, or_true, true_or, if_true, if_false, false_and, and_false, false_or, or_false]
  exact lp Y 0 (by omega) (fun y' q => by omega)
theorem m_led (hg : gS G) {Y : Nat} (hY : h 91 31 = (Y : Int)) (h40 : Y ≤ 40) (hp : ∀ y, y < Y → 0 ≤ h 109 y) (K1 : ∀ y : Nat, y < Y → 0 < h 109 y → cnt (h 109) y = x → Q (some (zI y)) G (zu h 91 0 0)) (K2 : (∀ y, y < Y → 0 < h 109 y → ¬ cnt (h 109) y = x) → Q (some (zI 0)) G (zu (zu h 91 0 0) 91 0 1)) : zRunD ztb zmt' (d + 1) 209 [zR (some 91), zI x] G h Q := by
  rw [r209]
  have lp : ∀ j y, y + j = Y → (∀ y', y' < y → 0 < h 109 y' → ¬ cnt (h 109) y' = x) → zE 209 d Q 9 [some (zR (some 91)), some (zI x), some (zI (cnt (h 109) y)), some (zI y)] [] G (zu h 91 0 0) (0, 0) := by
    intro j
    induction j with
    | zero =>
      intro y hy hm
      have hy' : y = Y := by omega
      subst hy'
      rw [e209_9]
      simp only [e209_0, e209_1, e209_2, e209_5, e209_6, e209_7, e209_8, e209_10, e209_11, e209_14, e209_17, e209_18, e209_21, e209_22, e209_23, e209_26, e209_29, e209_30, e209_31, e209_34, e209_35, e209_36, e209_39, e209_42, e209_45, e209_46, e209_47, e209_50, e209_51, zs0, zsI, zsL, zsR, ztl1, ztl0, zc0, zcI, zcL, zcR, true_and, and_true, true_implies, false_implies, implies_true, not_true_eq_false, not_false_eq_true, and_self, Int.toNat_natCast, Nat.reduceAdd, Nat.reduceLeDiff, Nat.reduceLT, forall_eq', Option.some.injEq, zarR, zarI, zarL, zle, zq0, zq1, zq2, zq3, zq4, zq5, zq6, zq8, zq9, zq10, zq20, zq7, zq12, zq24, zq40, zq41, zq48, zq100, zq120, zq123, zq480, zq492, zq700, zq729, zq2187, zq2916, zq8748, ne_eq, Int.reduceEq, Int.reduceLT, Int.reduceLE, Int.reduceToNat, Int.reduceMul, Int.reduceAdd, Int.reduceNeg, gk91 hg, gr91_5 hg, gr91_22 hg, gr91_23 hg, gr91_24 hg, gr91_25 hg, gr91_26 hg, gr91_27 hg, gr91_28 hg, gr91_29 hg, gr91_32 hg, gr91_33 hg, gr91_34 hg, gr91_35 hg, gr91_36 hg, gr91_37 hg, gr91_38 hg, gr91_39 hg, gr91_40 hg, gr91_41 hg, gr91_42 hg, gr91_44 hg, gr91_45 hg, gr91_46 hg, gr91_48 hg, gr91_49 hg, gr91_50 hg, gr91_51 hg, gr91_52 hg, or_true, true_or, if_true, if_false, false_and, and_false, false_or, or_false, zu_i (show ¬ 31 = 0 by decide), hY, Int.le_refl]
      exact K2 hm
    | succ j ih =>
      intro y hy hm
      have c1 : ¬ (Y : Int) ≤ y := by omega
      have y40 : (y : Int) < 40 := by omega
      have cb := cnt_le (h 109) y 0
      have p0 := hp y (by omega)
      rw [e209_9]
      by_cases c2 : h 109 y = 0
      · simp only [e209_0, e209_1, e209_2, e209_5, e209_6, e209_7, e209_8, e209_10, e209_11, e209_14, e209_17, e209_18, e209_21, e209_22, e209_23, e209_26, e209_29, e209_30, e209_31, e209_34, e209_35, e209_36, e209_39, e209_42, e209_45, e209_46, e209_47, e209_50, e209_51, zs0, zsI, zsL, zsR, ztl1, ztl0, zc0, zcI, zcL, zcR, true_and, and_true, true_implies, false_implies, implies_true, not_true_eq_false, not_false_eq_true, and_self, Int.toNat_natCast, Nat.reduceAdd, Nat.reduceLeDiff, Nat.reduceLT, forall_eq', Option.some.injEq, zarR, zarI, zarL, zle, zq0, zq1, zq2, zq3, zq4, zq5, zq6, zq8, zq9, zq10, zq20, zq7, zq12, zq24, zq40, zq41, zq48, zq100, zq120, zq123, zq480, zq492, zq700, zq729, zq2187, zq2916, zq8748, ne_eq, Int.reduceEq, Int.reduceLT, Int.reduceLE, Int.reduceToNat, Int.reduceMul, Int.reduceAdd, Int.reduceNeg, gk91 hg, gr91_5 hg, gr91_22 hg, gr91_23 hg, gr91_24 hg, gr91_25 hg, gr91_26 hg, gr91_27 hg, gr91_28 hg, gr91_29 hg, gr91_32 hg, gr91_33 hg, gr91_34 hg, gr91_35 hg, gr91_36 hg, gr91_37 hg, gr91_38 hg, gr91_39 hg, gr91_40 hg, gr91_41 hg, gr91_42 hg, gr91_44 hg, gr91_45 hg, gr91_46 hg, gr91_48 hg, gr91_49 hg, gr91_50 hg, gr91_51 hg, gr91_52 hg, gk109 hg, gl109 hg, or_true, true_or, if_true, if_false, false_and, and_false, false_or, or_false, zu_i (show ¬ 31 = 0 by decide), zu_c (show ¬ 109 = 91 by decide), hY, c1, y40, c2, wr_s (show y < 2147483647 by omega)]
        have i2 := ih (y + 1) (by omega) (fun y' q1 q2 => by
          by_cases q : y' = y
          · subst q
            omega
          · exact hm y' (by omega) q2)
        rw [cnt, if_neg (by omega), Int.add_zero] at i2
        exact i2
      · by_cases c3 : cnt (h 109) y = x
        · simp only [e209_0, e209_1, e209_2, e209_5, e209_6, e209_7, e209_8, e209_10, e209_11, e209_14, e209_17, e209_18, e209_21, e209_22, e209_23, e209_26, e209_29, e209_30, e209_31, e209_34, e209_35, e209_36, e209_39, e209_42, e209_45, e209_46, e209_47, e209_50, e209_51, zs0, zsI, zsL, zsR, ztl1, ztl0, zc0, zcI, zcL, zcR, true_and, and_true, true_implies, false_implies, implies_true, not_true_eq_false, not_false_eq_true, and_self, Int.toNat_natCast, Nat.reduceAdd, Nat.reduceLeDiff, Nat.reduceLT, forall_eq', Option.some.injEq, zarR, zarI, zarL, zle, zq0, zq1, zq2, zq3, zq4, zq5, zq6, zq8, zq9, zq10, zq20, zq7, zq12, zq24, zq40, zq41, zq48, zq100, zq120, zq123, zq480, zq492, zq700, zq729, zq2187, zq2916, zq8748, ne_eq, Int.reduceEq, Int.reduceLT, Int.reduceLE, Int.reduceToNat, Int.reduceMul, Int.reduceAdd, Int.reduceNeg, gk91 hg, gr91_5 hg, gr91_22 hg, gr91_23 hg, gr91_24 hg, gr91_25 hg, gr91_26 hg, gr91_27 hg, gr91_28 hg, gr91_29 hg, gr91_32 hg, gr91_33 hg, gr91_34 hg, gr91_35 hg, gr91_36 hg, gr91_37 hg, gr91_38 hg, gr91_39 hg, gr91_40 hg, gr91_41 hg, gr91_42 hg, gr91_44 hg, gr91_45 hg, gr91_46 hg, gr91_48 hg, gr91_49 hg, gr91_50 hg, gr91_51 hg, gr91_52 hg, gk109 hg, gl109 hg, or_true, true_or, if_true, if_false, false_and, and_false, false_or, or_false, zu_i (show ¬ 31 = 0 by decide), zu_c (show ¬ 109 = 91 by decide), hY, c1, y40, c2, c3]
          exact K1 y (by omega) (by omega) c3
        · have w : wr (cnt (h 109) y + 1) = cnt (h 109) y + 1 := wr_id (by omega)
          simp only [e209_0, e209_1, e209_2, e209_5, e209_6, e209_7, e209_8, e209_10, e209_11, e209_14, e209_17, e209_18, e209_21, e209_22, e209_23, e209_26, e209_29, e209_30, e209_31, e209_34, e209_35, e209_36, e209_39, e209_42, e209_45, e209_46, e209_47, e209_50, e209_51, zs0, zsI, zsL, zsR, ztl1, ztl0, zc0, zcI, zcL, zcR, true_and, and_true, true_implies, false_implies, implies_true, not_true_eq_false, not_false_eq_true, and_self, Int.toNat_natCast, Nat.reduceAdd, Nat.reduceLeDiff, Nat.reduceLT, forall_eq', Option.some.injEq, zarR, zarI, zarL, zle, zq0, zq1, zq2, zq3, zq4, zq5, zq6, zq8, zq9, zq10, zq20, zq7, zq12, zq24, zq40, zq41, zq48, zq100, zq120, zq123, zq480, zq492, zq700, zq729, zq2187, zq2916, zq8748, ne_eq, Int.reduceEq, Int.reduceLT, Int.reduceLE, Int.reduceToNat, Int.reduceMul, Int.reduceAdd, Int.reduceNeg, gk91 hg, gr91_5 hg, gr91_22 hg, gr91_23 hg, gr91_24 hg, gr91_25 hg, gr91_26 hg, gr91_27 hg, gr91_28 hg, gr91_29 hg, gr91_32 hg, gr91_33 hg, gr91_34 hg, gr91_35 hg, gr91_36 hg, gr91_37 hg, gr91_38 hg, gr91_39 hg, gr91_40 hg, gr91_41 hg, gr91_42 hg, gr91_44 hg, gr91_45 hg, gr91_46 hg, gr91_48 hg, gr91_49 hg, gr91_50 hg, gr91_51 hg, gr91_52 hg, gk109 hg, gl109 hg, or_true, true_or, if_true, if_false, false_and, and_false, false_or, or_false, zu_i (show ¬ 31 = 0 by decide), zu_c (show ¬ 109 = 91 by decide), hY, c1, y40, c2, c3, w, wr_s (show y < 2147483647 by omega)]
          have i2 := ih (y + 1) (by omega) (fun y' q1 q2 => by
            by_cases q : y' = y
            · subst q
              exact c3
            · exact hm y' (by omega) q2)
          rw [cnt, if_pos (by omega)] at i2
          exact i2
  simp only [e209_0, e209_1, e209_2, e209_5, e209_6, e209_7, e209_8, e209_10, e209_11, e209_14, e209_17, e209_18, e209_21, e209_22, e209_23, e209_26, e209_29, e209_30, e209_31, e209_34, e209_35, e209_36, e209_39, e209_42, e209_45, e209_46, e209_47, e209_50, e209_51, zs0, zsI, zsL, zsR, ztl1, ztl0, zc0, zcI, zcL, zcR, true_and, and_true, true_implies, false_implies, implies_true, not_true_eq_false, not_false_eq_true, and_self, Int.toNat_natCast, Nat.reduceAdd, Nat.reduceLeDiff, Nat.reduceLT, forall_eq', Option.some.injEq, zarR, zarI, zarL, zle, zq0, zq1, zq2, zq3, zq4, zq5, zq6, zq8, zq9, zq10, zq20, zq7, zq12, zq24, zq40, zq41, zq48, zq100, zq120, zq123, zq480, zq492, zq700, zq729, zq2187, zq2916, zq8748, ne_eq, Int.reduceEq, Int.reduceLT, Int.reduceLE, Int.reduceToNat, Int.reduceMul, Int.reduceAdd, Int.reduceNeg, gk91 hg, gr91_5 hg, gr91_22 hg, gr91_23 hg, gr91_24 hg, gr91_25 hg, gr91_26 hg, gr91_27 hg, gr91_28 hg, gr91_29 hg, gr91_32 hg, gr91_33 hg, gr91_34 hg, gr91_35 hg, gr91_36 hg, gr91_37 hg, gr91_38 hg, gr91_39 hg, gr91_40 hg, gr91_41 hg, gr91_42 hg, gr91_44 hg, gr91_45 hg, gr91_46 hg, gr91_48 hg, gr91_49 hg, gr91_50 hg, gr91_51 hg, gr91_52 hg, or_true, true_or, if_true, if_false, false_and, and_false, false_or, or_false]
  exact lp Y 0 (by omega) (fun y' q => by omega)
end FE
