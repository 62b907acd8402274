theorem I4_again {T : aTn} (hw : wT T) {Y y : Nat} {g h g' h' : zM} (hI : I4 T Y g h) (hy : y < Y) (h1 : ∀ c i, 39 ≤ c → c ≤ 44 → g' c i = g c i) (k0 : g' 38 0 = (y : Int)) (h2 : h' 91 30 = h 107 y) (h3 : h' 91 31 = (y : Int)) (h4 : ∀ i, i < 12 → h' 101 i = h 104 (12 * y + i)) (h6 : ∀ b, b < 3 → h' 102 b = h 105 (3 * y + b)) (h7 : ∀ b, b < 3 → h' 103 b = h 106 (3 * y + b)) (h5 : ∀ c i, 104 ≤ c → c ≤ 109 → h' c i = h c i) : I4 T y g' h' := by
  have hns := hw.2.1
  have hnb := hw.1
  unfold I4 at hI ⊢
  obtain ⟨a1, ⟨a2, b2, b3⟩, ⟨c1, c2, c3⟩, ⟨a4, a5, a6⟩, a7, a8⟩ := hI
  simp only [h1 39 _ (by decide) (by decide), h1 40 _ (by decide) (by decide), h1 41 _ (by decide) (by decide), h1 42 _ (by decide) (by decide), h1 43 _ (by decide) (by decide), h1 44 _ (by decide) (by decide), h2, h5 104 _ (by decide) (by decide), h5 105 _ (by decide) (by decide), h5 106 _ (by decide) (by decide), h5 107 _ (by decide) (by decide), h5 108 _ (by decide) (by decide), h5 109 _ (by decide) (by decide)]
  refine ⟨⟨by omega, k0, h3⟩, ⟨b2 y hy, fun z hz => b2 z (by omega), fun z hz => b3 z (by omega)⟩, ⟨?_, fun z b hz hb => c2 z b (by omega) hb, fun z b hz hb => c3 z b (by omega) hb⟩, ⟨?_, fun z s b hz hs hb => a5 z s b (by omega) hs hb, fun z s hz hs => a6 z s (by omega) hs⟩, fun z b hz hb => a7 z b (by omega) hb, fun z hz => a8 z (by omega)⟩
  · intro b hb
    rw [h6 b hb, h7 b hb]
    exact c2 y b hy hb
  · intro s b hs hb
    rw [h4 _ (by omega)]
    exact a5 y s b hy hs hb
section AG
variable {d : Nat} {G : zG} {h : zM} {x : Int}
theorem m_again (hg : gS G) {u : Nat} (hu : gU G u) {Y y : Nat} (hY : h 91 31 = (Y : Int)) (h40 : Y ≤ 40) (hy : y < Y) {Q : zQ} (K : ∀ h' : zM, (∀ c i, ¬ (c = 91 ∧ i < 3) → ¬ (c = 91 ∧ i = 30) → ¬ (c = 91 ∧ i = 31) → ¬ (c = 101 ∧ i < 12) → ¬ (c = 102) → ¬ (c = 103) → h' c i = h c i) → h' 91 1 = 0 → h' 91 2 = -1 → h' 91 30 = h 107 y → h' 91 31 = (y : Int) → (∀ i, i < 12 → h' 101 i = h 104 (12 * y + i)) → (∀ b, b < 3 → h' 102 b = h 105 (3 * y + b)) → (∀ b, b < 3 → h' 103 b = h 106 (3 * y + b)) → Q (some (zI 1)) G h') : zRunD ztb zmt' (d + 16) 166 [zR (some 91), zI y] G h Q := by
  have u1 := hu.1
  rw [r166]
  have l : rng 0 ((Y : Int) + 1) (y : Int) = 1 := by unfold rng; rw [if_pos (by omega)]
  have ne : ¬ (y : Int) = (Y : Int) := by omega
  have y40 : (y : Int) < 40 := by omega
  have lp2 : ∀ j k (hh : zM), k + j = 3 → (∀ c i, ¬ (c = 91 ∧ i = 0) → ¬ (c = 101 ∧ i < 12) → ¬ (c = 102 ∧ i < k) → ¬ (c = 103 ∧ i < k) → hh c i = h c i) → (∀ i, i < 12 → hh 101 i = h 104 (12 * y + i)) → (∀ b, b < k → hh 102 b = h 105 (3 * y + b)) → (∀ b, b < k → hh 103 b = h 106 (3 * y + b)) → zE 166 (d + 15) Q 82 [some (zR (some 91)), some (zI y), some (zI k)] [] G hh (0, 0) := by
    intro j
    induction j with
    | zero =>
      intro k hh hk f m1 m2 m3
      have hk' : k = 3 := by omega
      subst hk'
      have e1 : hh 107 y = h 107 y := f _ _ (by omega) (by omega) (by omega) (by omega)
      rw [e166_82]
      simp only [e166_0, e166_1, e166_2, e166_5, e166_6, e166_9, e166_12, e166_13, e166_14, e166_17, e166_18, e166_19, e166_20, e166_21, e166_24, e166_27, e166_30, e166_31, e166_32, e166_35, e166_36, e166_37, e166_38, e166_41, e166_44, e166_45, e166_48, e166_49, e166_50, e166_52, e166_54, e166_57, e166_58, e166_61, e166_62, e166_63, e166_66, e166_68, e166_69, e166_70, e166_71, e166_72, e166_73, e166_74, e166_77, e166_80, e166_81, e166_83, e166_84, e166_87, e166_88, e166_91, e166_92, e166_93, e166_96, e166_97, e166_98, e166_99, e166_100, e166_101, e166_102, e166_103, e166_104, e166_107, e166_108, e166_109, e166_112, e166_113, e166_114, e166_115, e166_116, e166_117, e166_118, e166_119, e166_122, e166_125, e166_126, e166_127, e166_130, e166_131, e166_132, e166_135, e166_136, e166_137, e166_140, e166_141, e166_144, zs0, zsI, zsL, zsR, ztl1, ztl0, zc0, zcI, zcL, zcR, true_and, and_true, true_implies, false_implies, implies_true, not_true_eq_false, not_false_eq_true, and_self, Int.toNat_natCast, Nat.reduceAdd, Nat.reduceLeDiff, Nat.reduceLT, forall_eq', Option.some.injEq, zarR, zarI, zarL, zle, zq0, zq1, zq2, zq3, zq4, zq5, zq6, zq8, zq9, zq10, zq20, zq7, zq12, zq24, zq40, zq41, zq48, zq100, zq120, zq123, zq480, zq492, zq700, zq729, zq2187, zq2916, zq8748, ne_eq, Int.reduceEq, Int.reduceLT, Int.reduceLE, Int.reduceToNat, Int.reduceMul, Int.reduceAdd, Int.reduceNeg, gk91 hg, gr91_5 hg, gr91_22 hg, gr91_23 hg, gr91_24 hg, gr91_25 hg, gr91_26 hg, gr91_27 hg, gr91_28 hg, gr91_29 hg, gr91_32 hg, gr91_33 hg, gr91_34 hg, gr91_35 hg, gr91_36 hg, gr91_37 hg, gr91_38 hg, gr91_39 hg, gr91_40 hg, gr91_41 hg, gr91_42 hg, gr91_44 hg, gr91_45 hg, gr91_46 hg, gr91_48 hg, gr91_49 hg, gr91_50 hg, gr91_51 hg, gr91_52 hg, gk107 hg, gl107 hg, or_true, true_or, if_true, if_false, false_and, and_false, false_or, or_false, y40, Int.le_refl, e1, m_granted hg]
      apply K
      · intro c i q1 q2 q3 q4 q5 q6
        unfold zu
        rw [if_neg (by omega), if_neg (by omega), if_neg (by omega), if_neg (by omega)]
        exact f c i (by omega) (by omega) (by omega) (by omega)
      · rw [zu_i (by decide), zu_at]
      · exact zu_at
      · rw [zu_i (by decide), zu_i (by decide), zu_i (by decide), zu_at]
      · rw [zu_i (by decide), zu_i (by decide), zu_at]
      · intro i hi
        rw [zu_c (by decide), zu_c (by decide), zu_c (by decide), zu_c (by decide)]
        exact m1 i hi
      · intro i hi
        rw [zu_c (by decide), zu_c (by decide), zu_c (by decide), zu_c (by decide)]
        exact m2 i hi
      · intro i hi
        rw [zu_c (by decide), zu_c (by decide), zu_c (by decide), zu_c (by decide)]
        exact m3 i hi
    | succ j ih =>
      intro k hh hk f m1 m2 m3
      have c3 : ¬ (3 : Int) ≤ k := by omega
      have k3 : (k : Int) < 3 := by omega
      have w1 : ((3 * y + k : Nat) : Int) < 120 := by omega
      rw [e166_82]
      simp only [e166_0, e166_1, e166_2, e166_5, e166_6, e166_9, e166_12, e166_13, e166_14, e166_17, e166_18, e166_19, e166_20, e166_21, e166_24, e166_27, e166_30, e166_31, e166_32, e166_35, e166_36, e166_37, e166_38, e166_41, e166_44, e166_45, e166_48, e166_49, e166_50, e166_52, e166_54, e166_57, e166_58, e166_61, e166_62, e166_63, e166_66, e166_68, e166_69, e166_70, e166_71, e166_72, e166_73, e166_74, e166_77, e166_80, e166_81, e166_83, e166_84, e166_87, e166_88, e166_91, e166_92, e166_93, e166_96, e166_97, e166_98, e166_99, e166_100, e166_101, e166_102, e166_103, e166_104, e166_107, e166_108, e166_109, e166_112, e166_113, e166_114, e166_115, e166_116, e166_117, e166_118, e166_119, e166_122, e166_125, e166_126, e166_127, e166_130, e166_131, e166_132, e166_135, e166_136, e166_137, e166_140, e166_141, e166_144, zs0, zsI, zsL, zsR, ztl1, ztl0, zc0, zcI, zcL, zcR, true_and, and_true, true_implies, false_implies, implies_true, not_true_eq_false, not_false_eq_true, and_self, Int.toNat_natCast, Nat.reduceAdd, Nat.reduceLeDiff, Nat.reduceLT, forall_eq', Option.some.injEq, zarR, zarI, zarL, zle, zq0, zq1, zq2, zq3, zq4, zq5, zq6, zq8, zq9, zq10, zq20, zq7, zq12, zq24, zq40, zq41, zq48, zq100, zq120, zq123, zq480, zq492, zq700, zq729, zq2187, zq2916, zq8748, ne_eq, Int.reduceEq, Int.reduceLT, Int.reduceLE, Int.reduceToNat, Int.reduceMul, Int.reduceAdd, Int.reduceNeg, gk91 hg, gr91_5 hg, gr91_22 hg, gr91_23 hg, gr91_24 hg, gr91_25 hg, gr91_26 hg, gr91_27 hg, gr91_28 hg, gr91_29 hg, gr91_32 hg, gr91_33 hg, gr91_34 hg, gr91_35 hg, gr91_36 hg, gr91_37 hg, gr91_38 hg, gr91_39 hg, gr91_40 hg, gr91_41 hg, gr91_42 hg, gr91_44 hg, gr91_45 hg, gr91_46 hg, gr91_48 hg, gr91_49 hg, gr91_50 hg, gr91_51 hg, gr91_52 hg, gk102 hg, gl102 hg, gk103 hg, gl103 hg, gk105 hg, gl105 hg, gk106 hg, gl106 hg, or_true, true_or, if_true, if_false, false_and, and_false, false_or, or_false, c3, k3, w1, wrN (z := 3 * (y : Int)) (m := 3 * y) (by omega) (by omega), wrN (z := ((3 * y : Nat) : Int) + (k : Int)) (m := 3 * y + k) (by omega) (by omega), wr_s (show k < 2147483647 by omega)]
      apply ih (k + 1) _ (by omega)
      · intro c i q1 q2 q3 q4
        unfold zu
        rw [if_neg (by omega), if_neg (by omega)]
        exact f c i (by omega) (by omega) (by omega) (by omega)
      · intro i hi
        rw [zu_c (by decide), zu_c (by decide)]
        exact m1 i hi
      · intro b hb
        rw [zu_c (by decide)]
        by_cases q : b = k
        · subst q
          rw [zu_at]
          exact f _ _ (by omega) (by omega) (by omega) (by omega)
        · rw [zu_i (by omega)]
          exact m2 b (by omega)
      · intro b hb
        by_cases q : b = k
        · subst q
          rw [zu_at, zu_c (by decide)]
          exact f _ _ (by omega) (by omega) (by omega) (by omega)
        · rw [zu_i (by omega), zu_c (by decide)]
          exact m3 b (by omega)
  have lp1 : ∀ j k (hh : zM), k + j = 12 → (∀ c i, ¬ (c = 91 ∧ i = 0) → ¬ (c = 101 ∧ i < k) → hh c i = h c i) → (∀ i, i < k → hh 101 i = h 104 (12 * y + i)) → zE 166 (d + 15) Q 51 [some (zR (some 91)), some (zI y), some (zI k)] [] G hh (0, 0) := by
    intro j
    induction j with
    | zero =>
      intro k hh hk f m1
      have hk' : k = 12 := by omega
      subst hk'
      rw [e166_51]
      simp only [e166_0, e166_1, e166_2, e166_5, e166_6, e166_9, e166_12, e166_13, e166_14, e166_17, e166_18, e166_19, e166_20, e166_21, e166_24, e166_27, e166_30, e166_31, e166_32, e166_35, e166_36, e166_37, e166_38, e166_41, e166_44, e166_45, e166_48, e166_49, e166_50, e166_52, e166_54, e166_57, e166_58, e166_61, e166_62, e166_63, e166_66, e166_68, e166_69, e166_70, e166_71, e166_72, e166_73, e166_74, e166_77, e166_80, e166_81, e166_83, e166_84, e166_87, e166_88, e166_91, e166_92, e166_93, e166_96, e166_97, e166_98, e166_99, e166_100, e166_101, e166_102, e166_103, e166_104, e166_107, e166_108, e166_109, e166_112, e166_113, e166_114, e166_115, e166_116, e166_117, e166_118, e166_119, e166_122, e166_125, e166_126, e166_127, e166_130, e166_131, e166_132, e166_135, e166_136, e166_137, e166_140, e166_141, e166_144, zs0, zsI, zsL, zsR, ztl1, ztl0, zc0, zcI, zcL, zcR, true_and, and_true, true_implies, false_implies, implies_true, not_true_eq_false, not_false_eq_true, and_self, Int.toNat_natCast, Nat.reduceAdd, Nat.reduceLeDiff, Nat.reduceLT, forall_eq', Option.some.injEq, zarR, zarI, zarL, zle, zq0, zq1, zq2, zq3, zq4, zq5, zq6, zq8, zq9, zq10, zq20, zq7, zq12, zq24, zq40, zq41, zq48, zq100, zq120, zq123, zq480, zq492, zq700, zq729, zq2187, zq2916, zq8748, ne_eq, Int.reduceEq, Int.reduceLT, Int.reduceLE, Int.reduceToNat, Int.reduceMul, Int.reduceAdd, Int.reduceNeg, gk91 hg, gr91_5 hg, gr91_22 hg, gr91_23 hg, gr91_24 hg, gr91_25 hg, gr91_26 hg, gr91_27 hg, gr91_28 hg, gr91_29 hg, gr91_32 hg, gr91_33 hg, gr91_34 hg, gr91_35 hg, gr91_36 hg, gr91_37 hg, gr91_38 hg, gr91_39 hg, gr91_40 hg, gr91_41 hg, gr91_42 hg, gr91_44 hg, gr91_45 hg, gr91_46 hg, gr91_48 hg, gr91_49 hg, gr91_50 hg, gr91_51 hg, gr91_52 hg, or_true, true_or, if_true, if_false, false_and, and_false, false_or, or_false, Int.le_refl]
      apply lp2 3 0 _ (by omega)
      · intro c i q1 q2 q3 q4
        exact f c i (by omega) (by omega)
      · exact m1
      · intro b hb
        omega
      · intro b hb
        omega
    | succ j ih =>
      intro k hh hk f m1
      have c3 : ¬ (12 : Int) ≤ k := by omega
      have k3 : (k : Int) < 24 := by omega
      have w1 : ((12 * y + k : Nat) : Int) < 480 := by omega
      rw [e166_51]
      simp only [e166_0, e166_1, e166_2, e166_5, e166_6, e166_9, e166_12, e166_13, e166_14, e166_17, e166_18, e166_19, e166_20, e166_21, e166_24, e166_27, e166_30, e166_31, e166_32, e166_35, e166_36, e166_37, e166_38, e166_41, e166_44, e166_45, e166_48, e166_49, e166_50, e166_52, e166_54, e166_57, e166_58, e166_61, e166_62, e166_63, e166_66, e166_68, e166_69, e166_70, e166_71, e166_72, e166_73, e166_74, e166_77, e166_80, e166_81, e166_83, e166_84, e166_87, e166_88, e166_91, e166_92, e166_93, e166_96, e166_97, e166_98, e166_99, e166_100, e166_101, e166_102, e166_103, e166_104, e166_107, e166_108, e166_109, e166_112, e166_113, e166_114, e166_115, e166_116, e166_117, e166_118, e166_119, e166_122, e166_125, e166_126, e166_127, e166_130, e166_131, e166_132, e166_135, e166_136, e166_137, e166_140, e166_141, e166_144, zs0, zsI, zsL, zsR, ztl1, ztl0, zc0, zcI, zcL, zcR, true_and, and_true, true_implies, false_implies, implies_true, not_true_eq_false, not_false_eq_true, and_self, Int.toNat_natCast, Nat.reduceAdd, Nat.reduceLeDiff, Nat.reduceLT, forall_eq', Option.some.injEq, zarR, zarI, zarL, zle, zq0, zq1, zq2, zq3, zq4, zq5, zq6, zq8, zq9, zq10, zq20, zq7, zq12, zq24, zq40, zq41, zq48, zq100, zq120, zq123, zq480, zq492, zq700, zq729, zq2187, zq2916, zq8748, ne_eq, Int.reduceEq, Int.reduceLT, Int.reduceLE, Int.reduceToNat, Int.reduceMul, Int.reduceAdd, Int.reduceNeg, gk91 hg, gr91_5 hg, gr91_22 hg, gr91_23 hg, gr91_24 hg, gr91_25 hg, gr91_26 hg, gr91_27 hg, gr91_28 hg, gr91_29 hg, gr91_32 hg, gr91_33 hg, gr91_34 hg, gr91_35 hg, gr91_36 hg, gr91_37 hg, gr91_38 hg, gr91_39 hg, gr91_40 hg, gr91_41 hg, gr91_42 hg, gr91_44 hg, gr91_45 hg, gr91_46 hg, gr91_48 hg, gr91_49 hg, gr91_50 hg, gr91_51 hg, gr91_52 hg, gk101 hg, gl101 hg, gk104 hg, gl104 hg, or_true, true_or, if_true, if_false, false_and, and_false, false_or, or_false, c3, k3, w1, wrN (z := 12 * (y : Int)) (m := 12 * y) (by omega) (by omega), wrN (z := ((12 * y : Nat) : Int) + (k : Int)) (m := 12 * y + k) (by omega) (by omega), wr_s (show k < 2147483647 by omega)]
      apply ih (k + 1) _ (by omega)
      · intro c i q1 q2
        unfold zu
        rw [if_neg (by omega)]
        exact f c i (by omega) (by omega)
      · intro i hi
        by_cases q : i = k
        · subst q
          rw [zu_at]
          exact f _ _ (by omega) (by omega)
        · rw [zu_i (by omega)]
          exact m1 i (by omega)
  simp only [e166_0, e166_1, e166_2, e166_5, e166_6, e166_9, e166_12, e166_13, e166_14, e166_17, e166_18, e166_19, e166_20, e166_21, e166_24, e166_27, e166_30, e166_31, e166_32, e166_35, e166_36, e166_37, e166_38, e166_41, e166_44, e166_45, e166_48, e166_49, e166_50, e166_52, e166_54, e166_57, e166_58, e166_61, e166_62, e166_63, e166_66, e166_68, e166_69, e166_70, e166_71, e166_72, e166_73, e166_74, e166_77, e166_80, e166_81, e166_83, e166_84, e166_87, e166_88, e166_91, e166_92, e166_93, e166_96, e166_97, e166_98, e166_99, e166_100, e166_101, e166_102, e166_103, e166_104, e166_107, e166_108, e166_109, e166_112, e166_113, e166_114, e166_115, e166_116, e166_117, e166_118, e166_119, e166_122, e166_125, e166_126, e166_127, e166_130, e166_131, e166_132, e166_135, e166_136, e166_137, e166_140, e166_141, e166_144, zs0, zsI, zsL, zsR, ztl1, ztl0, zc0, zcI, zcL, zcR, true_and, and_true, true_implies, false_implies, implies_true, not_true_eq_false, not_false_eq_true, and_self, Int.toNat_natCast, Nat.reduceAdd, Nat.reduceLeDiff, Nat.reduceLT, forall_eq', Option.some.injEq, zarR, zarI, zarL, zle, zq0, zq1, zq2, zq3, zq4, zq5, zq6, zq8, zq9, zq10, zq20, zq7, zq12, zq24, zq40, zq41, zq48, zq100, zq120, zq123, zq480, zq492, zq700, zq729, zq2187, zq2916, zq8748, ne_eq, Int.reduceEq, Int.reduceLT, Int.reduceLE, Int.reduceToNat, Int.reduceMul, Int.reduceAdd, Int.reduceNeg, gk91 hg, gr91_5 hg, gr91_22 hg, gr91_23 hg, gr91_24 hg, gr91_25 hg, gr91_26 hg, gr91_27 hg, gr91_28 hg, gr91_29 hg, gr91_32 hg, gr91_33 hg, gr91_34 hg, gr91_35 hg, gr91_36 hg, gr91_37 hg, gr91_38 hg, gr91_39 hg, gr91_40 hg, gr91_41 hg, gr91_42 hg, gr91_44 hg, gr91_45 hg, gr91_46 hg, gr91_48 hg, gr91_49 hg, gr91_50 hg, gr91_51 hg, gr91_52 hg, or_true, true_or, if_true, if_false, false_and, and_false, false_or, or_false, hu, q_some, m_in, zu_i (show ¬ 31 = 0 by decide), hY, l, ne]
  apply lp1 12 0 _ (by omega)
  · intro c i q1 q2
    unfold zu
    rw [if_neg (by omega)]
  · intro i hi
    omega
theorem p_again (hI : INV G h) : PR zI d 70 166 [zI x] G h := by
  have hg := hI.1
  have hk := INV_gK hI
  rcases INV_rng hI with ⟨e, a⟩ | ⟨e, u, T, Y, hu, hu2, hw, kt, rt, i4, i5⟩
  · have un := a.1
    refine PR_q (z := 0) (tr := 1) hI (by decide) ?_ ?_
    · intro Q K
      rw [r70]
      simp only [e70_0, e70_1, e70_4, e70_7, e70_8, e70_9, e70_12, e70_13, e70_14, e70_15, e70_18, e70_19, e70_20, e70_23, e70_26, e70_29, e70_30, e70_31, e70_34, e70_35, e70_36, e70_37, e70_38, e70_41, e70_42, e70_45, e70_46, e70_49, e70_50, zs0, zsI, zsL, zsR, ztl1, ztl0, zc0, zcI, zcL, zcR, true_and, and_true, true_implies, false_implies, implies_true, not_true_eq_false, not_false_eq_true, and_self, Int.toNat_natCast, Nat.reduceAdd, Nat.reduceLeDiff, Nat.reduceLT, forall_eq', Option.some.injEq, zarR, zarI, zarL, zle, zq0, zq1, zq2, zq3, zq4, zq5, zq6, zq8, zq9, zq10, zq20, zq7, zq12, zq24, zq40, zq41, zq48, zq100, zq120, zq123, zq480, zq492, zq700, zq729, zq2187, zq2916, zq8748, ne_eq, Int.reduceEq, Int.reduceLT, Int.reduceLE, Int.reduceToNat, Int.reduceMul, Int.reduceAdd, Int.reduceNeg, gk0 hg, gr0_0 hg, gr0_2 hg, gr0_3 hg, gr0_4 hg, gr0_5 hg, gr0_6 hg, gr0_7 hg, gr0_8 hg, gr0_9 hg, gr0_10 hg, or_true, true_or, if_true, if_false, false_and, and_false, false_or, or_false, f_isTown hg, e]
      exact K _ cfr.z zu_at
    · intro h1 f1 Q K
      rw [r166]
      simp only [e166_0, e166_1, e166_2, e166_5, e166_6, e166_9, e166_12, e166_13, e166_14, e166_17, e166_18, e166_19, e166_20, e166_21, e166_24, e166_27, e166_30, e166_31, e166_32, e166_35, e166_36, e166_37, e166_38, e166_41, e166_44, e166_45, e166_48, e166_49, e166_50, e166_52, e166_54, e166_57, e166_58, e166_61, e166_62, e166_63, e166_66, e166_68, e166_69, e166_70, e166_71, e166_72, e166_73, e166_74, e166_77, e166_80, e166_81, e166_83, e166_84, e166_87, e166_88, e166_91, e166_92, e166_93, e166_96, e166_97, e166_98, e166_99, e166_100, e166_101, e166_102, e166_103, e166_104, e166_107, e166_108, e166_109, e166_112, e166_113, e166_114, e166_115, e166_116, e166_117, e166_118, e166_119, e166_122, e166_125, e166_126, e166_127, e166_130, e166_131, e166_132, e166_135, e166_136, e166_137, e166_140, e166_141, e166_144, zs0, zsI, zsL, zsR, ztl1, ztl0, zc0, zcI, zcL, zcR, true_and, and_true, true_implies, false_implies, implies_true, not_true_eq_false, not_false_eq_true, and_self, Int.toNat_natCast, Nat.reduceAdd, Nat.reduceLeDiff, Nat.reduceLT, forall_eq', Option.some.injEq, zarR, zarI, zarL, zle, zq0, zq1, zq2, zq3, zq4, zq5, zq6, zq8, zq9, zq10, zq20, zq7, zq12, zq24, zq40, zq41, zq48, zq100, zq120, zq123, zq480, zq492, zq700, zq729, zq2187, zq2916, zq8748, ne_eq, Int.reduceEq, Int.reduceLT, Int.reduceLE, Int.reduceToNat, Int.reduceMul, Int.reduceAdd, Int.reduceNeg, gk91 hg, gr91_5 hg, gr91_22 hg, gr91_23 hg, gr91_24 hg, gr91_25 hg, gr91_26 hg, gr91_27 hg, gr91_28 hg, gr91_29 hg, gr91_32 hg, gr91_33 hg, gr91_34 hg, gr91_35 hg, gr91_36 hg, gr91_37 hg, gr91_38 hg, gr91_39 hg, gr91_40 hg, gr91_41 hg, gr91_42 hg, gr91_44 hg, gr91_45 hg, gr91_46 hg, gr91_48 hg, gr91_49 hg, gr91_50 hg, gr91_51 hg, gr91_52 hg, or_true, true_or, if_true, if_false, false_and, and_false, false_or, or_false, un, q_none, m_denied hg]
      exact K _ mEnd.1 mEnd.2.1 mEnd.2.2
  · have u1 := hu.1
    have hY := i4.1.1
    have hYe := i4.1.2.1
    have hYm := i4.1.2.2
    rcases rng_c 0 ((Y : Int) + 1) x with ⟨l, l1, l2⟩ | ⟨l, l2⟩
    · obtain ⟨y, rfl⟩ := Int.eq_ofNat_of_zero_le l1
      have l3 : ¬ (y : Int) < 0 := by omega
      have l4 : (y : Int) ≤ Y := by omega
      refine PR_u (fun h1 => h1 = zu (zu h 0 11 0) 38 0 (y : Int)) 1 ?_ ?_
      · intro Q K
        rw [r70]
        simp only [e70_0, e70_1, e70_4, e70_7, e70_8, e70_9, e70_12, e70_13, e70_14, e70_15, e70_18, e70_19, e70_20, e70_23, e70_26, e70_29, e70_30, e70_31, e70_34, e70_35, e70_36, e70_37, e70_38, e70_41, e70_42, e70_45, e70_46, e70_49, e70_50, zs0, zsI, zsL, zsR, ztl1, ztl0, zc0, zcI, zcL, zcR, true_and, and_true, true_implies, false_implies, implies_true, not_true_eq_false, not_false_eq_true, and_self, Int.toNat_natCast, Nat.reduceAdd, Nat.reduceLeDiff, Nat.reduceLT, forall_eq', Option.some.injEq, zarR, zarI, zarL, zle, zq0, zq1, zq2, zq3, zq4, zq5, zq6, zq8, zq9, zq10, zq20, zq7, zq12, zq24, zq40, zq41, zq48, zq100, zq120, zq123, zq480, zq492, zq700, zq729, zq2187, zq2916, zq8748, ne_eq, Int.reduceEq, Int.reduceLT, Int.reduceLE, Int.reduceToNat, Int.reduceMul, Int.reduceAdd, Int.reduceNeg, gk0 hg, gr0_0 hg, gr0_2 hg, gr0_3 hg, gr0_4 hg, gr0_5 hg, gr0_6 hg, gr0_7 hg, gr0_8 hg, gr0_9 hg, gr0_10 hg, gk38 hg, gr38_1 hg, gr38_2 hg, gr38_3 hg, gr38_4 hg, gr38_5 hg, gr38_6 hg, or_true, true_or, if_true, if_false, false_and, and_false, false_or, or_false, f_isTown hg, e, l3, l4, hYe]
        exact K _ rfl
      · rintro h1 rfl Q K
        by_cases hyy : y = Y
        · have ne : (y : Int) = (Y : Int) := by omega
          rw [r166]
          simp only [e166_0, e166_1, e166_2, e166_5, e166_6, e166_9, e166_12, e166_13, e166_14, e166_17, e166_18, e166_19, e166_20, e166_21, e166_24, e166_27, e166_30, e166_31, e166_32, e166_35, e166_36, e166_37, e166_38, e166_41, e166_44, e166_45, e166_48, e166_49, e166_50, e166_52, e166_54, e166_57, e166_58, e166_61, e166_62, e166_63, e166_66, e166_68, e166_69, e166_70, e166_71, e166_72, e166_73, e166_74, e166_77, e166_80, e166_81, e166_83, e166_84, e166_87, e166_88, e166_91, e166_92, e166_93, e166_96, e166_97, e166_98, e166_99, e166_100, e166_101, e166_102, e166_103, e166_104, e166_107, e166_108, e166_109, e166_112, e166_113, e166_114, e166_115, e166_116, e166_117, e166_118, e166_119, e166_122, e166_125, e166_126, e166_127, e166_130, e166_131, e166_132, e166_135, e166_136, e166_137, e166_140, e166_141, e166_144, zs0, zsI, zsL, zsR, ztl1, ztl0, zc0, zcI, zcL, zcR, true_and, and_true, true_implies, false_implies, implies_true, not_true_eq_false, not_false_eq_true, and_self, Int.toNat_natCast, Nat.reduceAdd, Nat.reduceLeDiff, Nat.reduceLT, forall_eq', Option.some.injEq, zarR, zarI, zarL, zle, zq0, zq1, zq2, zq3, zq4, zq5, zq6, zq8, zq9, zq10, zq20, zq7, zq12, zq24, zq40, zq41, zq48, zq100, zq120, zq123, zq480, zq492, zq700, zq729, zq2187, zq2916, zq8748, ne_eq, Int.reduceEq, Int.reduceLT, Int.reduceLE, Int.reduceToNat, Int.reduceMul, Int.reduceAdd, Int.reduceNeg, gk91 hg, gr91_5 hg, gr91_22 hg, gr91_23 hg, gr91_24 hg, gr91_25 hg, gr91_26 hg, gr91_27 hg, gr91_28 hg, gr91_29 hg, gr91_32 hg, gr91_33 hg, gr91_34 hg, gr91_35 hg, gr91_36 hg, gr91_37 hg, gr91_38 hg, gr91_39 hg, gr91_40 hg, gr91_41 hg, gr91_42 hg, gr91_44 hg, gr91_45 hg, gr91_46 hg, gr91_48 hg, gr91_49 hg, gr91_50 hg, gr91_51 hg, gr91_52 hg, or_true, true_or, if_true, if_false, false_and, and_false, false_or, or_false, hu, q_some, m_in, zu_i (show ¬ 31 = 0 by decide), zu_c (show ¬ 91 = 38 by decide), zu_c (show ¬ 91 = 0 by decide), hYm, l, ne, m_granted hg]
          have l' := l
          rw [ne] at l'
          simp only [l', e166_0, e166_1, e166_2, e166_5, e166_6, e166_9, e166_12, e166_13, e166_14, e166_17, e166_18, e166_19, e166_20, e166_21, e166_24, e166_27, e166_30, e166_31, e166_32, e166_35, e166_36, e166_37, e166_38, e166_41, e166_44, e166_45, e166_48, e166_49, e166_50, e166_52, e166_54, e166_57, e166_58, e166_61, e166_62, e166_63, e166_66, e166_68, e166_69, e166_70, e166_71, e166_72, e166_73, e166_74, e166_77, e166_80, e166_81, e166_83, e166_84, e166_87, e166_88, e166_91, e166_92, e166_93, e166_96, e166_97, e166_98, e166_99, e166_100, e166_101, e166_102, e166_103, e166_104, e166_107, e166_108, e166_109, e166_112, e166_113, e166_114, e166_115, e166_116, e166_117, e166_118, e166_119, e166_122, e166_125, e166_126, e166_127, e166_130, e166_131, e166_132, e166_135, e166_136, e166_137, e166_140, e166_141, e166_144, zs0, zsI, zsL, zsR, ztl1, ztl0, zc0, zcI, zcL, zcR, true_and, and_true, true_implies, false_implies, implies_true, not_true_eq_false, not_false_eq_true, and_self, Int.toNat_natCast, Nat.reduceAdd, Nat.reduceLeDiff, Nat.reduceLT, forall_eq', Option.some.injEq, zarR, zarI, zarL, zle, zq0, zq1, zq2, zq3, zq4, zq5, zq6, zq8, zq9, zq10, zq20, zq7, zq12, zq24, zq40, zq41, zq48, zq100, zq120, zq123, zq480, zq492, zq700, zq729, zq2187, zq2916, zq8748, ne_eq, Int.reduceEq, Int.reduceLT, Int.reduceLE, Int.reduceToNat, Int.reduceMul, Int.reduceAdd, Int.reduceNeg, gk91 hg, gr91_5 hg, gr91_22 hg, gr91_23 hg, gr91_24 hg, gr91_25 hg, gr91_26 hg, gr91_27 hg, gr91_28 hg, gr91_29 hg, gr91_32 hg, gr91_33 hg, gr91_34 hg, gr91_35 hg, gr91_36 hg, gr91_37 hg, gr91_38 hg, gr91_39 hg, gr91_40 hg, gr91_41 hg, gr91_42 hg, gr91_44 hg, gr91_45 hg, gr91_46 hg, gr91_48 hg, gr91_49 hg, gr91_50 hg, gr91_51 hg, gr91_52 hg, or_true, true_or, if_true, if_false, false_and, and_false, false_or, or_false, m_granted hg]
          apply K
          have fr : ∀ c i, ¬ (c = 0 ∧ i = 11) → ¬ (c = 91 ∧ i < 3) → (zu (zu (zu (zu (zu h 0 11 0) 38 0 (Y : Int)) 91 0 0) 91 1 0) 91 2 (-1)) c i = h c i := by
            intro c i q1 q3
            unfold zu
            by_cases q5 : c = 38 ∧ i = 0
            · rw [if_neg (by omega), if_neg (by omega), if_neg (by omega), if_pos q5, q5.1, q5.2, hYe]
            · rw [if_neg (by omega), if_neg (by omega), if_neg (by omega), if_neg q5, if_neg (by omega)]
          have v1 : (zu (zu (zu (zu (zu h 0 11 0) 38 0 (Y : Int)) 91 0 0) 91 1 0) 91 2 (-1)) 0 11 = 0 := by
            rw [zu_c (by decide), zu_c (by decide), zu_c (by decide), zu_c (by decide), zu_at]
          have v4 : (zu (zu (zu (zu (zu h 0 11 0) 38 0 (Y : Int)) 91 0 0) 91 1 0) 91 2 (-1)) 91 1 = 0 := by
            rw [zu_i (by decide), zu_at]
          have v5 : (zu (zu (zu (zu (zu h 0 11 0) 38 0 (Y : Int)) 91 0 0) 91 1 0) 91 2 (-1)) 91 2 = -1 := zu_at
          generalize (zu (zu (zu (zu (zu h 0 11 0) 38 0 (Y : Int)) 91 0 0) 91 1 0) 91 2 (-1)) = h2 at fr v1 v4 v5 ⊢
          exact INV_fr hI (fun c i q => by unfold core at q; exact fr c i (by omega) (by omega)) (I2_ok hI.2.2.1 v1 v4 v5 (fr _ _ (by omega) (by omega)) (fr _ _ (by omega) (by omega)))
        · apply m_again hg hu (Y := Y) (y := y) (by rw [zu_c (by decide), zu_c (by decide)]; exact hYm) hY (by omega)
          intro h2 f m1 m2 m3 m4 m5 m6 m7
          have fr : ∀ c i, ¬ (c = 0 ∧ i = 11) → ¬ (c = 38 ∧ i = 0) → ¬ (c = 91 ∧ i < 3) → ¬ (c = 91 ∧ i = 30) → ¬ (c = 91 ∧ i = 31) → ¬ (c = 101 ∧ i < 12) → ¬ c = 102 → ¬ c = 103 → h2 c i = h c i := by
            intro c i q1 q2 q3 q4 q5 q6 q7 q8
            rw [f c i q3 q4 q5 q6 q7 q8]
            unfold zu
            rw [if_neg q2, if_neg q1]
          have v1 : h2 0 11 = 0 := by rw [f _ _ (by omega) (by omega) (by omega) (by omega) (by omega) (by omega), zu_c (by decide), zu_at]
          have v2 : h2 38 0 = (y : Int) := by rw [f _ _ (by omega) (by omega) (by omega) (by omega) (by omega) (by omega), zu_at]
          apply K
          refine ⟨hg, I1_fr hI.2.1 (fr _ _ (by omega) (by omega) (by omega) (by omega) (by omega) (by omega) (by omega) (by omega)) (fun i => fr _ _ (by omega) (by omega) (by omega) (by omega) (by omega) (by omega) (by omega) (by omega)) (fr _ _ (by omega) (by omega) (by omega) (by omega) (by omega) (by omega) (by omega) (by omega)) (fun i => fr _ _ (by omega) (by omega) (by omega) (by omega) (by omega) (by omega) (by omega) (by omega)), I2_ok hI.2.2.1 v1 m1 m2 (fr _ _ (by omega) (by omega) (by omega) (by omega) (by omega) (by omega) (by omega) (by omega)) (fr _ _ (by omega) (by omega) (by omega) (by omega) (by omega) (by omega) (by omega) (by omega)), Or.inr ⟨u, T, y, hu, hu2, hw, kT_frame kt (fun c i _ _ => fr _ _ (by omega) (by omega) (by omega) (by omega) (by omega) (by omega) (by omega) (by omega)), rT_frame rt (fun c i _ => fr _ _ (by omega) (by omega) (by omega) (by omega) (by omega) (by omega) (by omega) (by omega)), ?_, I5_fr i5 (fun c i _ _ => fr _ _ (by omega) (by omega) (by omega) (by omega) (by omega) (by omega) (by omega) (by omega)) (fr _ _ (by omega) (by omega) (by omega) (by omega) (by omega) (by omega) (by omega) (by omega)) (fun c i _ _ => fr _ _ (by omega) (by omega) (by omega) (by omega) (by omega) (by omega) (by omega) (by omega))⟩⟩
          refine I4_again hw i4 (y := y) (by omega) (fun c i _ _ => fr _ _ (by omega) (by omega) (by omega) (by omega) (by omega) (by omega) (by omega) (by omega)) v2 ?_ m4 ?_ ?_ ?_ (fun c i _ _ => fr _ _ (by omega) (by omega) (by omega) (by omega) (by omega) (by omega) (by omega) (by omega))
          · rw [m3, zu_c (by decide), zu_c (by decide)]
          · intro i hi
            rw [m5 i hi, zu_c (by decide), zu_c (by decide)]
          · intro b hb
            rw [m6 b hb, zu_c (by decide), zu_c (by decide)]
          · intro b hb
            rw [m7 b hb, zu_c (by decide), zu_c (by decide)]
    · refine PR_q (z := 0) (tr := 2) hI (by decide) ?_ ?_
      · intro Q K
        rw [r70]
        by_cases l3 : x < 0
        · simp only [e70_0, e70_1, e70_4, e70_7, e70_8, e70_9, e70_12, e70_13, e70_14, e70_15, e70_18, e70_19, e70_20, e70_23, e70_26, e70_29, e70_30, e70_31, e70_34, e70_35, e70_36, e70_37, e70_38, e70_41, e70_42, e70_45, e70_46, e70_49, e70_50, zs0, zsI, zsL, zsR, ztl1, ztl0, zc0, zcI, zcL, zcR, true_and, and_true, true_implies, false_implies, implies_true, not_true_eq_false, not_false_eq_true, and_self, Int.toNat_natCast, Nat.reduceAdd, Nat.reduceLeDiff, Nat.reduceLT, forall_eq', Option.some.injEq, zarR, zarI, zarL, zle, zq0, zq1, zq2, zq3, zq4, zq5, zq6, zq8, zq9, zq10, zq20, zq7, zq12, zq24, zq40, zq41, zq48, zq100, zq120, zq123, zq480, zq492, zq700, zq729, zq2187, zq2916, zq8748, ne_eq, Int.reduceEq, Int.reduceLT, Int.reduceLE, Int.reduceToNat, Int.reduceMul, Int.reduceAdd, Int.reduceNeg, gk0 hg, gr0_0 hg, gr0_2 hg, gr0_3 hg, gr0_4 hg, gr0_5 hg, gr0_6 hg, gr0_7 hg, gr0_8 hg, gr0_9 hg, gr0_10 hg, or_true, true_or, if_true, if_false, false_and, and_false, false_or, or_false, f_isTown hg, e, l3]
          exact K _ cfr.z zu_at
        · have l4 : ¬ x ≤ (Y : Int) := by omega
          simp only [e70_0, e70_1, e70_4, e70_7, e70_8, e70_9, e70_12, e70_13, e70_14, e70_15, e70_18, e70_19, e70_20, e70_23, e70_26, e70_29, e70_30, e70_31, e70_34, e70_35, e70_36, e70_37, e70_38, e70_41, e70_42, e70_45, e70_46, e70_49, e70_50, zs0, zsI, zsL, zsR, ztl1, ztl0, zc0, zcI, zcL, zcR, true_and, and_true, true_implies, false_implies, implies_true, not_true_eq_false, not_false_eq_true, and_self, Int.toNat_natCast, Nat.reduceAdd, Nat.reduceLeDiff, Nat.reduceLT, forall_eq', Option.some.injEq, zarR, zarI, zarL, zle, zq0, zq1, zq2, zq3, zq4, zq5, zq6, zq8, zq9, zq10, zq20, zq7, zq12, zq24, zq40, zq41, zq48, zq100, zq120, zq123, zq480, zq492, zq700, zq729, zq2187, zq2916, zq8748, ne_eq, Int.reduceEq, Int.reduceLT, Int.reduceLE, Int.reduceToNat, Int.reduceMul, Int.reduceAdd, Int.reduceNeg, gk0 hg, gr0_0 hg, gr0_2 hg, gr0_3 hg, gr0_4 hg, gr0_5 hg, gr0_6 hg, gr0_7 hg, gr0_8 hg, gr0_9 hg, gr0_10 hg, gk38 hg, gr38_1 hg, gr38_2 hg, gr38_3 hg, gr38_4 hg, gr38_5 hg, gr38_6 hg, or_true, true_or, if_true, if_false, false_and, and_false, false_or, or_false, f_isTown hg, e, l3, l4, hYe]
          exact K _ cfr.z zu_at
      · intro h1 f1 Q K
        have v : h1 91 31 = (Y : Int) := by rw [f1 91 31 (by omega)]; exact hYm
        rw [r166]
        simp only [e166_0, e166_1, e166_2, e166_5, e166_6, e166_9, e166_12, e166_13, e166_14, e166_17, e166_18, e166_19, e166_20, e166_21, e166_24, e166_27, e166_30, e166_31, e166_32, e166_35, e166_36, e166_37, e166_38, e166_41, e166_44, e166_45, e166_48, e166_49, e166_50, e166_52, e166_54, e166_57, e166_58, e166_61, e166_62, e166_63, e166_66, e166_68, e166_69, e166_70, e166_71, e166_72, e166_73, e166_74, e166_77, e166_80, e166_81, e166_83, e166_84, e166_87, e166_88, e166_91, e166_92, e166_93, e166_96, e166_97, e166_98, e166_99, e166_100, e166_101, e166_102, e166_103, e166_104, e166_107, e166_108, e166_109, e166_112, e166_113, e166_114, e166_115, e166_116, e166_117, e166_118, e166_119, e166_122, e166_125, e166_126, e166_127, e166_130, e166_131, e166_132, e166_135, e166_136, e166_137, e166_140, e166_141, e166_144, zs0, zsI, zsL, zsR, ztl1, ztl0, zc0, zcI, zcL, zcR, true_and, and_true, true_implies, false_implies, implies_true, not_true_eq_false, not_false_eq_true, and_self, Int.toNat_natCast, Nat.reduceAdd, Nat.reduceLeDiff, Nat.reduceLT, forall_eq', Option.some.injEq, zarR, zarI, zarL, zle, zq0, zq1, zq2, zq3, zq4, zq5, zq6, zq8, zq9, zq10, zq20, zq7, zq12, zq24, zq40, zq41, zq48, zq100, zq120, zq123, zq480, zq492, zq700, zq729, zq2187, zq2916, zq8748, ne_eq, Int.reduceEq, Int.reduceLT, Int.reduceLE, Int.reduceToNat, Int.reduceMul, Int.reduceAdd, Int.reduceNeg, gk91 hg, gr91_5 hg, gr91_22 hg, gr91_23 hg, gr91_24 hg, gr91_25 hg, gr91_26 hg, gr91_27 hg, gr91_28 hg, gr91_29 hg, gr91_32 hg, gr91_33 hg, gr91_34 hg, gr91_35 hg, gr91_36 hg, gr91_37 hg, gr91_38 hg, gr91_39 hg, gr91_40 hg, gr91_41 hg, gr91_42 hg, gr91_44 hg, gr91_45 hg, gr91_46 hg, gr91_48 hg, gr91_49 hg, gr91_50 hg, gr91_51 hg, gr91_52 hg, or_true, true_or, if_true, if_false, false_and, and_false, false_or, or_false, hu, q_some, m_in, zu_i (show ¬ 31 = 0 by decide), v, l, m_denied hg]
        exact K _ mEnd.1 mEnd.2.1 mEnd.2.2
end AG
