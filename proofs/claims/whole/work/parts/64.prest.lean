theorem tA_c (T : aTn) (n law : Int) : (tA T n law = 2 ∧ rng 1 4 n = 0) ∨ (tA T n law = 3 ∧ rng 1 4 n = 1 ∧ ∃ m : Nat, n = (m : Int) ∧ 1 ≤ m ∧ m ≤ 3 ∧ 20000 < (nA (aLaw T law) ^ nB T) ^ m) ∨ (tA T n law = 0 ∧ rng 1 4 n = 1 ∧ ∃ m : Nat, n = (m : Int) ∧ 1 ≤ m ∧ m ≤ 3 ∧ (nA (aLaw T law) ^ nB T) ^ m ≤ 20000) := by
  rcases rng_c 1 4 n with ⟨e, e1, e2⟩ | ⟨e, e1⟩
  · right
    obtain ⟨m, rfl⟩ := Int.eq_ofNat_of_zero_le (show 0 ≤ n by omega)
    unfold tA
    rw [if_neg (by omega), Int.toNat_natCast]
    have p : nA (aLaw T law) ^ (m * nB T) = (nA (aLaw T law) ^ nB T) ^ m := by rw [Nat.mul_comm, Nat.pow_mul]
    rw [p]
    by_cases c : 20000 < (nA (aLaw T law) ^ nB T) ^ m
    · left
      rw [if_pos c]
      exact ⟨rfl, e, m, rfl, by omega, by omega, c⟩
    · right
      rw [if_neg c]
      exact ⟨rfl, e, m, rfl, by omega, by omega, by omega⟩
  · left
    unfold tA
    rw [if_pos (by omega)]
    exact ⟨rfl, e⟩
theorem hdC_fr {T : aTn} {h h' : zM} {Y : Nat} (f : ∀ i, h' 39 i = h 39 i) : hdC T h' Y = hdC T h Y := by
  funext s b
  unfold hdC
  rw [f]
theorem much_ok {T : aTn} (hw : wT T) {m : Nat} (h1 : 1 ≤ m) (h3 : m ≤ 3) (h : (nA T ^ nB T) ^ m ≤ 20000) {ac : Nat → Nat} (hc : acOk T ac) : m * (tg ac (nB T) * nB T) ≤ 2187 := by
  have hb := hw.1
  have t1 := tg_b hw hc
  have le : tg ac (nB T) ≤ nA T ^ nB T := by
    have h2 : nB T = 2 ∨ nB T = 3 := by omega
    rcases h2 with h2 | h2 <;> rw [h2]
    · show tgU _ _ 2 ≤ _
      unfold tgU tgU tgU
      rw [Nat.pow_succ, Nat.pow_succ, Nat.pow_zero]
      exact Nat.mul_le_mul (Nat.mul_le_mul (Nat.le_refl _) (hc _).2) (hc _).2
    · show tgU _ _ 3 ≤ _
      unfold tgU tgU tgU tgU
      rw [Nat.pow_succ, Nat.pow_succ, Nat.pow_succ, Nat.pow_zero]
      exact Nat.mul_le_mul (Nat.mul_le_mul (Nat.mul_le_mul (Nat.le_refl _) (hc _).2) (hc _).2) (hc _).2
  exact much_N (Nat.le_trans (Nat.pow_le_pow_left le m) h) t1.2 h1 h3 hb.2
section PR1
variable {d : Nat} {Q : zQ} {G : zG} {h : zM} {T : aTn} {u m Y : Nat} {x y z : Int}
theorem m_much' (hg : gS G) (hu : gU G u) (V : rV h u T) (hw : wT T) (h20 : h 91 20 = -1) (h21 : h 91 21 = 0) (hn : m ≤ 3) : zRunD ztb zmt' (d + 3) 171 [zR (some 91), zI m] G h Q ↔ Q (some (zI (if 20000 < (nA T ^ nB T) ^ m then 1 else 0))) G h := by
  rw [m_much hg hu V hw (acOk_all hw) (rA_all hw h20 h21) hn, tg_all hw]
/-- what is held, as the other has it -/
theorem hd_m {h h' : zM} (hw : wT T) (i4 : I4 T Y h h) (f : ∀ k, k < 12 → h' 110 (12 * m + k) = h 101 k) : ∀ s b, s < nS T → b < nB T → h' 110 (12 * m + (3 * s + b)) = hdC T h Y s b := by
  intro s b q1 q2
  have hb := hw.1
  have hs := hw.2.1
  rw [f _ (by omega), ← i4.2.2.2.1.1 s b q1 q2]
  unfold hdC
  rw [if_pos ⟨q1, by omega⟩]
theorem p_rest (hI : INV G h) : PR zI d 73 187 [zI x] G h := by
  have hg := hI.1
  have hk := INV_gK hI
  rcases INV_rng hI with ⟨e, a⟩ | ⟨e, u, T, Y, hu, hu2, hw, kt, rt, i4, i5⟩
  · have un := a.1
    refine PR_q (z := -1) (tr := 1) hI (by decide) ?_ ?_
    · intro Q K
      rw [r73]
      simp only [e73_0, e73_1, e73_2, e73_5, e73_8, e73_9, e73_10, e73_11, e73_14, e73_17, e73_18, e73_21, e73_22, e73_25, e73_28, e73_29, e73_30, e73_31, e73_32, e73_33, e73_36, e73_37, e73_40, e73_41, e73_44, e73_45, e73_48, e73_49, e73_52, e73_53, e73_54, e73_56, e73_57, e73_60, e73_63, e73_66, e73_67, e73_70, e73_73, e73_74, e73_75, e73_78, e73_79, e73_82, e73_83, e73_84, e73_87, e73_90, e73_91, e73_92, e73_95, e73_98, e73_99, e73_100, e73_103, e73_104, e73_107, e73_108, e73_109, e73_112, e73_115, e73_116, e73_117, e73_120, e73_123, e73_124, e73_125, e73_128, e73_131, e73_132, e73_133, e73_134, e73_135, e73_136, e73_139, e73_142, e73_143, e73_146, e73_147, e73_150, e73_151, e73_154, e73_157, e73_160, e73_161, e73_164, e73_165, zs0, zsI, zsL, zsR, ztl1, ztl0, zc0, zcI, zcL, zcR, true_and, and_true, true_implies, false_implies, implies_true, not_true_eq_false, not_false_eq_true, and_self, Int.toNat_natCast, Nat.reduceAdd, Nat.reduceLeDiff, Nat.reduceLT, forall_eq', Option.some.injEq, zarR, zarI, zarL, zle, zq0, zq1, zq2, zq3, zq4, zq5, zq6, zq8, zq9, zq10, zq20, zq7, zq12, zq24, zq40, zq41, zq48, zq100, zq120, zq123, zq480, zq492, zq700, zq729, zq2187, zq2916, zq8748, ne_eq, Int.reduceEq, Int.reduceLT, Int.reduceLE, Int.reduceToNat, Int.reduceMul, Int.reduceAdd, Int.reduceNeg, gk0 hg, gr0_0 hg, gr0_2 hg, gr0_3 hg, gr0_4 hg, gr0_5 hg, gr0_6 hg, gr0_7 hg, gr0_8 hg, gr0_9 hg, gr0_10 hg, or_true, true_or, if_true, if_false, false_and, and_false, false_or, or_false, f_isTown hg, e, zu_at]
      exact K _ cfr.z zu_at
    · intro h1 f1 Q K
      rw [r187]
      simp only [e187_0, e187_1, e187_2, e187_5, e187_6, e187_9, e187_12, e187_13, e187_14, e187_17, e187_18, e187_19, e187_20, e187_21, e187_24, e187_27, e187_28, e187_29, e187_32, e187_33, e187_34, e187_35, e187_38, e187_39, e187_40, e187_43, e187_46, e187_47, e187_48, e187_51, e187_52, e187_53, e187_54, e187_57, e187_58, e187_59, e187_62, e187_63, e187_64, e187_66, e187_67, e187_70, e187_73, e187_76, e187_77, e187_80, e187_81, e187_82, e187_83, e187_84, e187_85, e187_88, e187_91, e187_92, e187_93, e187_96, e187_97, e187_98, e187_99, e187_100, e187_101, e187_104, e187_107, e187_108, e187_109, e187_112, e187_113, e187_114, e187_117, e187_118, e187_119, e187_120, e187_123, e187_124, e187_125, e187_128, e187_131, e187_132, e187_133, e187_136, e187_137, e187_138, e187_141, e187_144, e187_145, e187_148, e187_149, e187_152, zs0, zsI, zsL, zsR, ztl1, ztl0, zc0, zcI, zcL, zcR, true_and, and_true, true_implies, false_implies, implies_true, not_true_eq_false, not_false_eq_true, and_self, Int.toNat_natCast, Nat.reduceAdd, Nat.reduceLeDiff, Nat.reduceLT, forall_eq', Option.some.injEq, zarR, zarI, zarL, zle, zq0, zq1, zq2, zq3, zq4, zq5, zq6, zq8, zq9, zq10, zq20, zq7, zq12, zq24, zq40, zq41, zq48, zq100, zq120, zq123, zq480, zq492, zq700, zq729, zq2187, zq2916, zq8748, ne_eq, Int.reduceEq, Int.reduceLT, Int.reduceLE, Int.reduceToNat, Int.reduceMul, Int.reduceAdd, Int.reduceNeg, gk91 hg, gr91_5 hg, gr91_22 hg, gr91_23 hg, gr91_24 hg, gr91_25 hg, gr91_26 hg, gr91_27 hg, gr91_28 hg, gr91_29 hg, gr91_32 hg, gr91_33 hg, gr91_34 hg, gr91_35 hg, gr91_36 hg, gr91_37 hg, gr91_38 hg, gr91_39 hg, gr91_40 hg, gr91_41 hg, gr91_42 hg, gr91_44 hg, gr91_45 hg, gr91_46 hg, gr91_48 hg, gr91_49 hg, gr91_50 hg, gr91_51 hg, gr91_52 hg, or_true, true_or, if_true, if_false, false_and, and_false, false_or, or_false, un, q_none, m_refused hg]
      exact K _ mEnd.1 mEnd.2.1 mEnd.2.2
  · have u1 := hu.1
    have hY := i4.1.1
    have hYe := i4.1.2.1
    have hb3 := hw.1
    have hs4 := hw.2.1
    have ca := fun Q' => c_ahead (d := d + 13) (Q := Q') (h := h) (n := x) (law := 0) hg kt hw
    have tc := tA_c T x 0
    rw [aLaw_0] at tc
    rcases tc with ⟨t, l⟩ | ⟨t, l, m, rfl, m1, m3, hm⟩ | ⟨t, l, m, rfl, m1, m3, hm⟩
    · refine PR_q (z := -1) (tr := 2) hI (by decide) ?_ ?_
      · intro Q K
        rw [r73]
        simp only [e73_0, e73_1, e73_2, e73_5, e73_8, e73_9, e73_10, e73_11, e73_14, e73_17, e73_18, e73_21, e73_22, e73_25, e73_28, e73_29, e73_30, e73_31, e73_32, e73_33, e73_36, e73_37, e73_40, e73_41, e73_44, e73_45, e73_48, e73_49, e73_52, e73_53, e73_54, e73_56, e73_57, e73_60, e73_63, e73_66, e73_67, e73_70, e73_73, e73_74, e73_75, e73_78, e73_79, e73_82, e73_83, e73_84, e73_87, e73_90, e73_91, e73_92, e73_95, e73_98, e73_99, e73_100, e73_103, e73_104, e73_107, e73_108, e73_109, e73_112, e73_115, e73_116, e73_117, e73_120, e73_123, e73_124, e73_125, e73_128, e73_131, e73_132, e73_133, e73_134, e73_135, e73_136, e73_139, e73_142, e73_143, e73_146, e73_147, e73_150, e73_151, e73_154, e73_157, e73_160, e73_161, e73_164, e73_165, zs0, zsI, zsL, zsR, ztl1, ztl0, zc0, zcI, zcL, zcR, true_and, and_true, true_implies, false_implies, implies_true, not_true_eq_false, not_false_eq_true, and_self, Int.toNat_natCast, Nat.reduceAdd, Nat.reduceLeDiff, Nat.reduceLT, forall_eq', Option.some.injEq, zarR, zarI, zarL, zle, zq0, zq1, zq2, zq3, zq4, zq5, zq6, zq8, zq9, zq10, zq20, zq7, zq12, zq24, zq40, zq41, zq48, zq100, zq120, zq123, zq480, zq492, zq700, zq729, zq2187, zq2916, zq8748, ne_eq, Int.reduceEq, Int.reduceLT, Int.reduceLE, Int.reduceToNat, Int.reduceMul, Int.reduceAdd, Int.reduceNeg, gk0 hg, gr0_0 hg, gr0_2 hg, gr0_3 hg, gr0_4 hg, gr0_5 hg, gr0_6 hg, gr0_7 hg, gr0_8 hg, gr0_9 hg, gr0_10 hg, or_true, true_or, if_true, if_false, false_and, and_false, false_or, or_false, f_isTown hg, e, ca, t, zu_at]
        exact K _ cfr.z zu_at
      · intro h1 f1 Q K
        rw [r187]
        simp only [e187_0, e187_1, e187_2, e187_5, e187_6, e187_9, e187_12, e187_13, e187_14, e187_17, e187_18, e187_19, e187_20, e187_21, e187_24, e187_27, e187_28, e187_29, e187_32, e187_33, e187_34, e187_35, e187_38, e187_39, e187_40, e187_43, e187_46, e187_47, e187_48, e187_51, e187_52, e187_53, e187_54, e187_57, e187_58, e187_59, e187_62, e187_63, e187_64, e187_66, e187_67, e187_70, e187_73, e187_76, e187_77, e187_80, e187_81, e187_82, e187_83, e187_84, e187_85, e187_88, e187_91, e187_92, e187_93, e187_96, e187_97, e187_98, e187_99, e187_100, e187_101, e187_104, e187_107, e187_108, e187_109, e187_112, e187_113, e187_114, e187_117, e187_118, e187_119, e187_120, e187_123, e187_124, e187_125, e187_128, e187_131, e187_132, e187_133, e187_136, e187_137, e187_138, e187_141, e187_144, e187_145, e187_148, e187_149, e187_152, zs0, zsI, zsL, zsR, ztl1, ztl0, zc0, zcI, zcL, zcR, true_and, and_true, true_implies, false_implies, implies_true, not_true_eq_false, not_false_eq_true, and_self, Int.toNat_natCast, Nat.reduceAdd, Nat.reduceLeDiff, Nat.reduceLT, forall_eq', Option.some.injEq, zarR, zarI, zarL, zle, zq0, zq1, zq2, zq3, zq4, zq5, zq6, zq8, zq9, zq10, zq20, zq7, zq12, zq24, zq40, zq41, zq48, zq100, zq120, zq123, zq480, zq492, zq700, zq729, zq2187, zq2916, zq8748, ne_eq, Int.reduceEq, Int.reduceLT, Int.reduceLE, Int.reduceToNat, Int.reduceMul, Int.reduceAdd, Int.reduceNeg, gk91 hg, gr91_5 hg, gr91_22 hg, gr91_23 hg, gr91_24 hg, gr91_25 hg, gr91_26 hg, gr91_27 hg, gr91_28 hg, gr91_29 hg, gr91_32 hg, gr91_33 hg, gr91_34 hg, gr91_35 hg, gr91_36 hg, gr91_37 hg, gr91_38 hg, gr91_39 hg, gr91_40 hg, gr91_41 hg, gr91_42 hg, gr91_44 hg, gr91_45 hg, gr91_46 hg, gr91_48 hg, gr91_49 hg, gr91_50 hg, gr91_51 hg, gr91_52 hg, or_true, true_or, if_true, if_false, false_and, and_false, false_or, or_false, hu, q_some, m_in, l, m_refused hg]
        exact K _ mEnd.1 mEnd.2.1 mEnd.2.2
    · refine PR_q (z := -1) (tr := 3) hI (by decide) ?_ ?_
      · intro Q K
        rw [r73]
        simp only [e73_0, e73_1, e73_2, e73_5, e73_8, e73_9, e73_10, e73_11, e73_14, e73_17, e73_18, e73_21, e73_22, e73_25, e73_28, e73_29, e73_30, e73_31, e73_32, e73_33, e73_36, e73_37, e73_40, e73_41, e73_44, e73_45, e73_48, e73_49, e73_52, e73_53, e73_54, e73_56, e73_57, e73_60, e73_63, e73_66, e73_67, e73_70, e73_73, e73_74, e73_75, e73_78, e73_79, e73_82, e73_83, e73_84, e73_87, e73_90, e73_91, e73_92, e73_95, e73_98, e73_99, e73_100, e73_103, e73_104, e73_107, e73_108, e73_109, e73_112, e73_115, e73_116, e73_117, e73_120, e73_123, e73_124, e73_125, e73_128, e73_131, e73_132, e73_133, e73_134, e73_135, e73_136, e73_139, e73_142, e73_143, e73_146, e73_147, e73_150, e73_151, e73_154, e73_157, e73_160, e73_161, e73_164, e73_165, zs0, zsI, zsL, zsR, ztl1, ztl0, zc0, zcI, zcL, zcR, true_and, and_true, true_implies, false_implies, implies_true, not_true_eq_false, not_false_eq_true, and_self, Int.toNat_natCast, Nat.reduceAdd, Nat.reduceLeDiff, Nat.reduceLT, forall_eq', Option.some.injEq, zarR, zarI, zarL, zle, zq0, zq1, zq2, zq3, zq4, zq5, zq6, zq8, zq9, zq10, zq20, zq7, zq12, zq24, zq40, zq41, zq48, zq100, zq120, zq123, zq480, zq492, zq700, zq729, zq2187, zq2916, zq8748, ne_eq, Int.reduceEq, Int.reduceLT, Int.reduceLE, Int.reduceToNat, Int.reduceMul, Int.reduceAdd, Int.reduceNeg, gk0 hg, gr0_0 hg, gr0_2 hg, gr0_3 hg, gr0_4 hg, gr0_5 hg, gr0_6 hg, gr0_7 hg, gr0_8 hg, gr0_9 hg, gr0_10 hg, or_true, true_or, if_true, if_false, false_and, and_false, false_or, or_false, f_isTown hg, e, ca, t, zu_at]
        exact K _ cfr.z zu_at
      · intro h1 f1 Q K
        rw [r187]
        simp only [e187_0, e187_1, e187_2, e187_5, e187_6, e187_9, e187_12, e187_13, e187_14, e187_17, e187_18, e187_19, e187_20, e187_21, e187_24, e187_27, e187_28, e187_29, e187_32, e187_33, e187_34, e187_35, zs0, zsI, zsL, zsR, ztl1, ztl0, zc0, zcI, zcL, zcR, true_and, and_true, true_implies, false_implies, implies_true, not_true_eq_false, not_false_eq_true, and_self, Int.toNat_natCast, Nat.reduceAdd, Nat.reduceLeDiff, Nat.reduceLT, forall_eq', Option.some.injEq, zarR, zarI, zarL, zle, zq0, zq1, zq2, zq3, zq4, zq5, zq6, zq8, zq9, zq10, zq20, zq7, zq12, zq24, zq40, zq41, zq48, zq100, zq120, zq123, zq480, zq492, zq700, zq729, zq2187, zq2916, zq8748, ne_eq, Int.reduceEq, Int.reduceLT, Int.reduceLE, Int.reduceToNat, Int.reduceMul, Int.reduceAdd, Int.reduceNeg, gk91 hg, gr91_5 hg, gr91_22 hg, gr91_23 hg, gr91_24 hg, gr91_25 hg, gr91_26 hg, gr91_27 hg, gr91_28 hg, gr91_29 hg, gr91_32 hg, gr91_33 hg, gr91_34 hg, gr91_35 hg, gr91_36 hg, gr91_37 hg, gr91_38 hg, gr91_39 hg, gr91_40 hg, gr91_41 hg, gr91_42 hg, gr91_44 hg, gr91_45 hg, gr91_46 hg, gr91_48 hg, gr91_49 hg, gr91_50 hg, gr91_51 hg, gr91_52 hg, hu, q_some, m_in, l]
        have rt0 : rT (zu h1 91 0 0) u T := rT_frame rt (fun c i q => by rw [zu_c (by omega), f1 c i (Or.inl (by omega))])
        apply m_lays hg hu rt0 hw (by decide)
        intro h2 f2 V2 v19 v20 v21
        rw [aLaw_0] at V2
        have mm := fun Q' => m_much' (d := d + 12) (Q := Q') (h := h2) (m := m) hg hu V2 hw v20 v21 m3
        rw [if_pos hm] at mm
        simp only [e187_0, e187_1, e187_2, e187_5, e187_6, e187_9, e187_12, e187_13, e187_14, e187_17, e187_18, e187_19, e187_20, e187_21, e187_24, e187_27, e187_28, e187_29, e187_32, e187_33, e187_34, e187_35, e187_38, e187_39, e187_40, e187_43, e187_46, e187_47, e187_48, e187_51, e187_52, e187_53, e187_54, e187_57, e187_58, e187_59, e187_62, e187_63, e187_64, e187_66, e187_67, e187_70, e187_73, e187_76, e187_77, e187_80, e187_81, e187_82, e187_83, e187_84, e187_85, e187_88, e187_91, e187_92, e187_93, e187_96, e187_97, e187_98, e187_99, e187_100, e187_101, e187_104, e187_107, e187_108, e187_109, e187_112, e187_113, e187_114, e187_117, e187_118, e187_119, e187_120, e187_123, e187_124, e187_125, e187_128, e187_131, e187_132, e187_133, e187_136, e187_137, e187_138, e187_141, e187_144, e187_145, e187_148, e187_149, e187_152, zs0, zsI, zsL, zsR, ztl1, ztl0, zc0, zcI, zcL, zcR, true_and, and_true, true_implies, false_implies, implies_true, not_true_eq_false, not_false_eq_true, and_self, Int.toNat_natCast, Nat.reduceAdd, Nat.reduceLeDiff, Nat.reduceLT, forall_eq', Option.some.injEq, zarR, zarI, zarL, zle, zq0, zq1, zq2, zq3, zq4, zq5, zq6, zq8, zq9, zq10, zq20, zq7, zq12, zq24, zq40, zq41, zq48, zq100, zq120, zq123, zq480, zq492, zq700, zq729, zq2187, zq2916, zq8748, ne_eq, Int.reduceEq, Int.reduceLT, Int.reduceLE, Int.reduceToNat, Int.reduceMul, Int.reduceAdd, Int.reduceNeg, gk91 hg, gr91_5 hg, gr91_22 hg, gr91_23 hg, gr91_24 hg, gr91_25 hg, gr91_26 hg, gr91_27 hg, gr91_28 hg, gr91_29 hg, gr91_32 hg, gr91_33 hg, gr91_34 hg, gr91_35 hg, gr91_36 hg, gr91_37 hg, gr91_38 hg, gr91_39 hg, gr91_40 hg, gr91_41 hg, gr91_42 hg, gr91_44 hg, gr91_45 hg, gr91_46 hg, gr91_48 hg, gr91_49 hg, gr91_50 hg, gr91_51 hg, gr91_52 hg, or_true, true_or, if_true, if_false, false_and, and_false, false_or, or_false, mm, m_refused hg]
        apply K
        · intro c i q
          unfold core at q
          show (if c = 91 ∧ i = 2 then -1 else if c = 91 ∧ i = 1 then 3 else h2 c i) = h1 c i
          rw [if_neg (by omega), if_neg (by omega), f2 c i (by omega) (by omega), zu, if_neg (by omega)]
        · rw [zu_i (by decide), zu_at]
        · exact zu_at
    · have ok := I4_pOk i4
      have hN := much_ok hw m1 m3 hm (acOk_all hw)
      have t1 := tg_b hw (acOk_all hw)
      have cb := calm_b (ac := fun _ => nA T) (nb := nB T) (w := rW T (fun _ => nA T) (nn0 T) (nf0 T) m (hdC T h Y)) (by omega)
      have main : ∀ z : Int, (z = 1 ∧ rU T (fun _ => nA T) (nn0 T) (nf0 T) m (hdC T h Y) ∨ z = 0 ∧ ¬ rU T (fun _ => nA T) (nn0 T) (nf0 T) m (hdC T h Y)) → PR zI d 73 187 [zI (m : Int)] G h := by
        intro z hz
        have za : ∀ v : Int, (v = 0 ∨ v = 1) → (v = 1 ↔ rU T (fun _ => nA T) (nn0 T) (nf0 T) m (hdC T h Y)) → v = z := by
          intro v q1 q2
          rcases hz with ⟨e1, e2⟩ | ⟨e1, e2⟩
          · rw [e1]; exact q2.mpr e2
          · rcases q1 with q1 | q1
            · rw [e1]; exact q1
            · exact absurd (q2.mp q1) e2
        have all : ∃ a : Nat, a = calm (fun _ => nA T) (nB T) (rW T (fun _ => nA T) (nn0 T) (nf0 T) m (hdC T h Y)) := ⟨_, rfl⟩
        obtain ⟨a, ha⟩ := all
        rw [← ha] at cb
        refine PR_u (fun hc => (∀ c i, c < 46 ∨ 90 < c → ¬ (c = 0 ∧ i = 11) → hc c i = h c i) ∧ hc 0 11 = 0 ∧ hc 87 0 = 1 ∧ (∀ b, b < nB T → hc 88 b = (aOld T (aAct (fun _ => nA T) (nB T) a b) : Nat) ∧ hc 89 b = (aNw T (aAct (fun _ => nA T) (nB T) a b) : Nat) ∧ hc 90 b = vV T (fun _ => nA T) (nn0 T) (nf0 T) m (hdC T h Y) b)) z ?_ ?_
        · intro Q K
          rw [r73]
          have kt0 : kT (zu h 0 11 0) 18 T := kT_frame kt (fun c i q1 q2 => zu_c (by omega))
          simp only [e73_0, e73_1, e73_2, e73_5, e73_8, e73_9, e73_10, e73_11, e73_14, e73_17, e73_18, e73_21, e73_22, e73_25, e73_28, e73_29, e73_30, e73_31, e73_32, e73_33, zs0, zsI, zsL, zsR, ztl1, ztl0, zc0, zcI, zcL, zcR, true_and, and_true, true_implies, false_implies, implies_true, not_true_eq_false, not_false_eq_true, and_self, Int.toNat_natCast, Nat.reduceAdd, Nat.reduceLeDiff, Nat.reduceLT, forall_eq', Option.some.injEq, zarR, zarI, zarL, zle, zq0, zq1, zq2, zq3, zq4, zq5, zq6, zq8, zq9, zq10, zq20, zq7, zq12, zq24, zq40, zq41, zq48, zq100, zq120, zq123, zq480, zq492, zq700, zq729, zq2187, zq2916, zq8748, ne_eq, Int.reduceEq, Int.reduceLT, Int.reduceLE, Int.reduceToNat, Int.reduceMul, Int.reduceAdd, Int.reduceNeg, gk0 hg, gr0_0 hg, gr0_2 hg, gr0_3 hg, gr0_4 hg, gr0_5 hg, gr0_6 hg, gr0_7 hg, gr0_8 hg, gr0_9 hg, gr0_10 hg, f_isTown hg, e, ca, t, zu_at]
          apply c_stage7 (d := d + 11) (n := m) (Y := Y) hg kt0 hw (by decide) (by omega) (by rw [zu_c (by decide)]; exact hYe) hY
          intro h1 f1 s1 u14
          rw [aLaw_0, hdC_fr (h := h) (fun i => zu_c (by decide))] at s1
          simp only [e73_36, e73_37, e73_40, e73_41, zs0, zsI, zsL, zsR, ztl1, ztl0, zc0, zcI, zcL, zcR, true_and, and_true, true_implies, false_implies, implies_true, not_true_eq_false, not_false_eq_true, and_self, Int.toNat_natCast, Nat.reduceAdd, Nat.reduceLeDiff, Nat.reduceLT, forall_eq', Option.some.injEq, zarR, zarI, zarL, zle, zq0, zq1, zq2, zq3, zq4, zq5, zq6, zq8, zq9, zq10, zq20, zq7, zq12, zq24, zq40, zq41, zq48, zq100, zq120, zq123, zq480, zq492, zq700, zq729, zq2187, zq2916, zq8748, ne_eq, Int.reduceEq, Int.reduceLT, Int.reduceLE, Int.reduceToNat, Int.reduceMul, Int.reduceAdd, Int.reduceNeg, gk0 hg, gr0_0 hg, gr0_2 hg, gr0_3 hg, gr0_4 hg, gr0_5 hg, gr0_6 hg, gr0_7 hg, gr0_8 hg, gr0_9 hg, gr0_10 hg, gk46 hg, gr46_0 hg, gr46_1 hg, gr46_2 hg, gr46_3 hg, gr46_4 hg, gr46_6 hg, gr46_7 hg, gr46_8 hg, gr46_9 hg, gr46_10 hg, gr46_11 hg, gr46_12 hg, gr46_13 hg]
          apply c_tab (d := d + 10) hg s1.1 hw (acOk_all hw) s1.2.1
          intro h2 f2 hO
          have hP := sg_pre s1 f2 hO
          simp only [e73_44, e73_45, e73_48, e73_49, zs0, zsI, zsL, zsR, ztl1, ztl0, zc0, zcI, zcL, zcR, true_and, and_true, true_implies, false_implies, implies_true, not_true_eq_false, not_false_eq_true, and_self, Int.toNat_natCast, Nat.reduceAdd, Nat.reduceLeDiff, Nat.reduceLT, forall_eq', Option.some.injEq, zarR, zarI, zarL, zle, zq0, zq1, zq2, zq3, zq4, zq5, zq6, zq8, zq9, zq10, zq20, zq7, zq12, zq24, zq40, zq41, zq48, zq100, zq120, zq123, zq480, zq492, zq700, zq729, zq2187, zq2916, zq8748, ne_eq, Int.reduceEq, Int.reduceLT, Int.reduceLE, Int.reduceToNat, Int.reduceMul, Int.reduceAdd, Int.reduceNeg, gk0 hg, gr0_0 hg, gr0_2 hg, gr0_3 hg, gr0_4 hg, gr0_5 hg, gr0_6 hg, gr0_7 hg, gr0_8 hg, gr0_9 hg, gr0_10 hg, gk46 hg, gr46_0 hg, gr46_1 hg, gr46_2 hg, gr46_3 hg, gr46_4 hg, gr46_6 hg, gr46_7 hg, gr46_8 hg, gr46_9 hg, gr46_10 hg, gr46_11 hg, gr46_12 hg, gr46_13 hg]
          apply c_set (d := d + 7) hg hw (acOk_all hw) (fB00 hw) m1 m3 hN ok.1 (by omega) (by omega) ok.2.2 hP
          intro h3 hp
          rw [← ha]
          have o3 := sFr_out m3 hp.1
          have f3 : ∀ c i, c < 46 ∨ 86 < c → ¬ (c = 0 ∧ i = 11) → h3 c i = h c i := fun c i q q2 => by rw [o3 c i q, f2 c i (by omega) (by omega) (by omega) (by omega) (by omega) (by omega) (by omega) (by omega), f1 c i q, zu, if_neg q2]
          have t3 : h3 0 11 = 0 := by rw [o3 _ _ (by omega), f2 _ _ (by omega) (by omega) (by omega) (by omega) (by omega) (by omega) (by omega) (by omega), f1 _ _ (by omega), zu_at]
          have sR3 : ∀ hh : zM, (∀ c i, c < 87 → hh c i = h3 c i) → sR hh T (fun _ => nA T) := by
            intro hh q
            have k9 : ∀ i, h3 69 i = h2 69 i := fun i => hp.1 69 i (by omega) (by omega) (by omega) (by omega) (by omega) (by omega) (by omega) (by omega)
            have k0 : ∀ i, h3 70 i = h2 70 i := fun i => hp.1 70 i (by omega) (by omega) (by omega) (by omega) (by omega) (by omega) (by omega) (by omega)
            exact ⟨fun b hb => by rw [q _ _ (by decide), k9]; exact hO.1.1 b hb, fun b hb => by rw [q _ _ (by decide), k0]; exact hO.1.2 b hb⟩
          have u3 : h3 46 14 = z := by
            apply za _ hp.2.2.1
            rw [hp.2.2.2]
            constructor
            · intro q
              rcases q with q | q
              · rw [f2 _ _ (by omega) (by omega) (by omega) (by omega) (by omega) (by omega) (by omega) (by omega), u14] at q
                omega
              · exact q
            · exact Or.inr
          have g8 := g80 hg (y := m) (by omega)
          have n4 : (m : Int) < 4 := by omega
          have lp : ∀ j b (hh : zM), b + j = nB T → (∀ c i, c < 88 ∨ 90 < c → hh c i = h3 c i) → (∀ i, i < b → hh 88 i = (aOld T (aAct (fun _ => nA T) (nB T) a i) : Nat) ∧ hh 89 i = (aNw T (aAct (fun _ => nA T) (nB T) a i) : Nat) ∧ hh 90 i = vV T (fun _ => nA T) (nn0 T) (nf0 T) m (hdC T h Y) i) → zE 73 (d + 15) Q 55 [some (zR (some 0)), some (zI (m : Int)), some (zI (a : Nat)), some (zI b)] [] G hh (0, 0) := by
            intro j
            induction j with
            | zero =>
              intro b hh hb f mm
              have hb' : b = nB T := by omega
              have e9 : hh 18 9 = (nB T : Int) := by rw [f _ _ (by omega), f3 _ _ (by omega) (by omega)]; exact kt.1
              have e14 : hh 46 14 = z := by rw [f _ _ (by omega)]; exact u3
              have z1 : z = 0 ∨ z = 1 := by rcases hz with ⟨q, _⟩ | ⟨q, _⟩ <;> omega
              subst hb'
              rw [e73_55]
              have kk := K (zu hh 87 0 1) ⟨?_, ?_, zu_at, ?_⟩
              · rcases z1 with z1 | z1
                · rw [z1] at e14 kk
                  simp only [e73_0, e73_1, e73_2, e73_5, e73_8, e73_9, e73_10, e73_11, e73_14, e73_17, e73_18, e73_21, e73_22, e73_25, e73_28, e73_29, e73_30, e73_31, e73_32, e73_33, e73_36, e73_37, e73_40, e73_41, e73_44, e73_45, e73_48, e73_49, e73_52, e73_53, e73_54, e73_56, e73_57, e73_60, e73_63, e73_66, e73_67, e73_70, e73_73, e73_74, e73_75, e73_78, e73_79, e73_82, e73_83, e73_84, e73_87, e73_90, e73_91, e73_92, e73_95, e73_98, e73_99, e73_100, e73_103, e73_104, e73_107, e73_108, e73_109, e73_112, e73_115, e73_116, e73_117, e73_120, e73_123, e73_124, e73_125, e73_128, e73_131, e73_132, e73_133, e73_134, e73_135, e73_136, e73_139, e73_142, e73_143, e73_146, e73_147, e73_150, e73_151, e73_154, e73_157, e73_160, e73_161, e73_164, e73_165, zs0, zsI, zsL, zsR, ztl1, ztl0, zc0, zcI, zcL, zcR, true_and, and_true, true_implies, false_implies, implies_true, not_true_eq_false, not_false_eq_true, and_self, Int.toNat_natCast, Nat.reduceAdd, Nat.reduceLeDiff, Nat.reduceLT, forall_eq', Option.some.injEq, zarR, zarI, zarL, zle, zq0, zq1, zq2, zq3, zq4, zq5, zq6, zq8, zq9, zq10, zq20, zq7, zq12, zq24, zq40, zq41, zq48, zq100, zq120, zq123, zq480, zq492, zq700, zq729, zq2187, zq2916, zq8748, ne_eq, Int.reduceEq, Int.reduceLT, Int.reduceLE, Int.reduceToNat, Int.reduceMul, Int.reduceAdd, Int.reduceNeg, gk0 hg, gr0_0 hg, gr0_2 hg, gr0_3 hg, gr0_4 hg, gr0_5 hg, gr0_6 hg, gr0_7 hg, gr0_8 hg, gr0_9 hg, gr0_10 hg, gk18 hg, gr18_0 hg, gr18_1 hg, gr18_2 hg, gr18_3 hg, gr18_4 hg, gr18_5 hg, gr18_6 hg, gr18_7 hg, gr18_8 hg, gk87 hg, gr87_1 hg, gr87_2 hg, gr87_3 hg, gk46 hg, gr46_0 hg, gr46_1 hg, gr46_2 hg, gr46_3 hg, gr46_4 hg, gr46_6 hg, gr46_7 hg, gr46_8 hg, gr46_9 hg, gr46_10 hg, gr46_11 hg, gr46_12 hg, gr46_13 hg, or_true, true_or, if_true, if_false, false_and, and_false, false_or, or_false, e9, Int.le_refl, zu_c (show ¬ 46 = 87 by decide), e14]
                  exact kk
                · rw [z1] at e14 kk
                  simp only [e73_0, e73_1, e73_2, e73_5, e73_8, e73_9, e73_10, e73_11, e73_14, e73_17, e73_18, e73_21, e73_22, e73_25, e73_28, e73_29, e73_30, e73_31, e73_32, e73_33, e73_36, e73_37, e73_40, e73_41, e73_44, e73_45, e73_48, e73_49, e73_52, e73_53, e73_54, e73_56, e73_57, e73_60, e73_63, e73_66, e73_67, e73_70, e73_73, e73_74, e73_75, e73_78, e73_79, e73_82, e73_83, e73_84, e73_87, e73_90, e73_91, e73_92, e73_95, e73_98, e73_99, e73_100, e73_103, e73_104, e73_107, e73_108, e73_109, e73_112, e73_115, e73_116, e73_117, e73_120, e73_123, e73_124, e73_125, e73_128, e73_131, e73_132, e73_133, e73_134, e73_135, e73_136, e73_139, e73_142, e73_143, e73_146, e73_147, e73_150, e73_151, e73_154, e73_157, e73_160, e73_161, e73_164, e73_165, zs0, zsI, zsL, zsR, ztl1, ztl0, zc0, zcI, zcL, zcR, true_and, and_true, true_implies, false_implies, implies_true, not_true_eq_false, not_false_eq_true, and_self, Int.toNat_natCast, Nat.reduceAdd, Nat.reduceLeDiff, Nat.reduceLT, forall_eq', Option.some.injEq, zarR, zarI, zarL, zle, zq0, zq1, zq2, zq3, zq4, zq5, zq6, zq8, zq9, zq10, zq20, zq7, zq12, zq24, zq40, zq41, zq48, zq100, zq120, zq123, zq480, zq492, zq700, zq729, zq2187, zq2916, zq8748, ne_eq, Int.reduceEq, Int.reduceLT, Int.reduceLE, Int.reduceToNat, Int.reduceMul, Int.reduceAdd, Int.reduceNeg, gk0 hg, gr0_0 hg, gr0_2 hg, gr0_3 hg, gr0_4 hg, gr0_5 hg, gr0_6 hg, gr0_7 hg, gr0_8 hg, gr0_9 hg, gr0_10 hg, gk18 hg, gr18_0 hg, gr18_1 hg, gr18_2 hg, gr18_3 hg, gr18_4 hg, gr18_5 hg, gr18_6 hg, gr18_7 hg, gr18_8 hg, gk87 hg, gr87_1 hg, gr87_2 hg, gr87_3 hg, gk46 hg, gr46_0 hg, gr46_1 hg, gr46_2 hg, gr46_3 hg, gr46_4 hg, gr46_6 hg, gr46_7 hg, gr46_8 hg, gr46_9 hg, gr46_10 hg, gr46_11 hg, gr46_12 hg, gr46_13 hg, or_true, true_or, if_true, if_false, false_and, and_false, false_or, or_false, e9, Int.le_refl, zu_c (show ¬ 46 = 87 by decide), e14]
                  exact kk
              · intro c i q1 q2
                rw [zu_c (by omega), f c i (by omega), f3 c i (by omega) q2]
              · rw [zu_c (by decide), f _ _ (by omega)]
                exact t3
              · intro i hi
                rw [zu_c (by decide), zu_c (by decide), zu_c (by decide)]
                exact mm i hi
            | succ j ih =>
              intro b hh hb f mm
              have e9 : hh 18 9 = (nB T : Int) := by rw [f _ _ (by omega), f3 _ _ (by omega) (by omega)]; exact kt.1
              have c : ¬ (nB T : Int) ≤ b := by omega
              have b3 : (b : Int) < 3 := by omega
              have a1000 : ((aAct (fun _ => nA T) (nB T) a b : Nat) : Int) < 1000 := by
                have q1 := aAct_b (acOk_all hw) (nB T) a b
                have q2 := nA_b hw
                omega
              have kt5 : ∀ h5 : zM, (∀ c i, c < 88 → h5 c i = hh c i) → kT h5 18 T := fun h5 q => kT_frame kt (fun c i q1 q2 => by rw [q c i (by omega), f c i (by omega), f3 c i (by omega) (by omega)])
              have ra := fun (h5 : zM) (q : ∀ c i, c < 88 → h5 c i = hh c i) Q' => c_ract (d := d + 14) (Q := Q') (h := h5) (all := a) (b := b) hg hw (acOk_all hw) (sR3 h5 (fun c i q2 => by rw [q c i (by omega), f c i (by omega)])) (by omega) (by omega)
              have co := fun (h5 : zM) (q : ∀ c i, c < 88 → h5 c i = hh c i) Q' => c_old16 (d := d + 14) (Q := Q') (h := h5) (T := T) (a := aAct (fun _ => nA T) (nB T) a b) hg (kt5 h5 q) (by have := hw.2.2.1; omega) a1000
              have cn := fun (h5 : zM) (q : ∀ c i, c < 88 → h5 c i = hh c i) Q' => c_new16 (d := d + 14) (Q := Q') (h := h5) (T := T) (a := aAct (fun _ => nA T) (nB T) a b) hg (kt5 h5 q) (by have := hw.2.2.1; omega)
              have ev : hh (81 + m) b = vV T (fun _ => nA T) (nn0 T) (nf0 T) m (hdC T h Y) b := by rw [f _ _ (by omega)]; exact hp.2.1 b (by omega)
              have ra1 := ra hh (fun _ _ _ => rfl)
              have co1 := co hh (fun _ _ _ => rfl)
              have ra2 := ra (zu hh 88 b (aOld T (aAct (fun _ => nA T) (nB T) a b) : Nat)) (fun c i q => zu_c (by omega))
              have cn2 := cn (zu hh 88 b (aOld T (aAct (fun _ => nA T) (nB T) a b) : Nat)) (fun c i q => zu_c (by omega))
              rw [e73_55]
              simp only [e73_0, e73_1, e73_2, e73_5, e73_8, e73_9, e73_10, e73_11, e73_14, e73_17, e73_18, e73_21, e73_22, e73_25, e73_28, e73_29, e73_30, e73_31, e73_32, e73_33, e73_36, e73_37, e73_40, e73_41, e73_44, e73_45, e73_48, e73_49, e73_52, e73_53, e73_54, e73_56, e73_57, e73_60, e73_63, e73_66, e73_67, e73_70, e73_73, e73_74, e73_75, e73_78, e73_79, e73_82, e73_83, e73_84, e73_87, e73_90, e73_91, e73_92, e73_95, e73_98, e73_99, e73_100, e73_103, e73_104, e73_107, e73_108, e73_109, e73_112, e73_115, e73_116, e73_117, e73_120, e73_123, e73_124, e73_125, e73_128, e73_131, e73_132, e73_133, e73_134, e73_135, e73_136, e73_139, e73_142, e73_143, e73_146, e73_147, e73_150, e73_151, e73_154, e73_157, e73_160, e73_161, e73_164, e73_165, zs0, zsI, zsL, zsR, ztl1, ztl0, zc0, zcI, zcL, zcR, true_and, and_true, true_implies, false_implies, implies_true, not_true_eq_false, not_false_eq_true, and_self, Int.toNat_natCast, Nat.reduceAdd, Nat.reduceLeDiff, Nat.reduceLT, forall_eq', Option.some.injEq, zarR, zarI, zarL, zle, zq0, zq1, zq2, zq3, zq4, zq5, zq6, zq8, zq9, zq10, zq20, zq7, zq12, zq24, zq40, zq41, zq48, zq100, zq120, zq123, zq480, zq492, zq700, zq729, zq2187, zq2916, zq8748, ne_eq, Int.reduceEq, Int.reduceLT, Int.reduceLE, Int.reduceToNat, Int.reduceMul, Int.reduceAdd, Int.reduceNeg, gk0 hg, gr0_0 hg, gr0_2 hg, gr0_3 hg, gr0_4 hg, gr0_5 hg, gr0_6 hg, gr0_7 hg, gr0_8 hg, gr0_9 hg, gr0_10 hg, gk18 hg, gr18_0 hg, gr18_1 hg, gr18_2 hg, gr18_3 hg, gr18_4 hg, gr18_5 hg, gr18_6 hg, gr18_7 hg, gr18_8 hg, gk87 hg, gr87_1 hg, gr87_2 hg, gr87_3 hg, gk88 hg, gl88 hg, gk89 hg, gl89 hg, gk90 hg, gl90 hg, gk46 hg, gr46_0 hg, gr46_1 hg, gr46_2 hg, gr46_3 hg, gr46_4 hg, gr46_6 hg, gr46_7 hg, gr46_8 hg, gr46_9 hg, gr46_10 hg, gr46_11 hg, gr46_12 hg, gr46_13 hg, gk80 hg, gl80 hg, gr80_0 hg, gr80_1 hg, gr80_2 hg, gr80_3 hg, or_true, true_or, if_true, if_false, false_and, and_false, false_or, or_false, e9, c, ra1, co1, b3, ra2, cn2, n4, g8.1, g8.2.1, g8.2.2, zu_c (show ¬ 81 + m = 89 by omega), zu_c (show ¬ 81 + m = 88 by omega), ev, wr_s (show b < 2147483647 by omega)]
              apply ih (b + 1) _ (by omega)
              · intro c i q
                rw [zu_c (by omega), zu_c (by omega), zu_c (by omega)]
                exact f c i q
              · intro i hi
                by_cases q : i = b
                · subst q
                  refine ⟨?_, ?_, zu_at⟩
                  · rw [zu_c (by decide), zu_c (by decide), zu_at]
                  · rw [zu_c (by decide), zu_at]
                · obtain ⟨p1, p2, p3⟩ := mm i (by omega)
                  refine ⟨?_, ?_, ?_⟩
                  · rw [zu_c (by decide), zu_c (by decide), zu_i q]; exact p1
                  · rw [zu_c (by decide), zu_i q, zu_c (by decide)]; exact p2
                  · rw [zu_i q, zu_c (by decide), zu_c (by decide)]; exact p3
          simp only [e73_52, e73_53, e73_54, e73_56, e73_57, e73_60, e73_63, e73_66, e73_67, e73_70, e73_73, e73_74, e73_75, e73_78, e73_79, e73_82, e73_83, e73_84, e73_87, e73_90, e73_91, e73_92, e73_95, e73_98, e73_99, e73_100, e73_103, e73_104, e73_107, e73_108, e73_109, e73_112, e73_115, e73_116, e73_117, e73_120, e73_123, e73_124, e73_125, e73_128, e73_131, e73_132, e73_133, e73_134, e73_135, e73_136, e73_139, e73_142, e73_143, e73_146, e73_147, e73_150, e73_151, e73_154, e73_157, e73_160, e73_161, e73_164, e73_165, zs0, zsI, zsL, zsR, ztl1, ztl0, zc0, zcI, zcL, zcR, true_and, and_true, true_implies, false_implies, implies_true, not_true_eq_false, not_false_eq_true, and_self, Int.toNat_natCast, Nat.reduceAdd, Nat.reduceLeDiff, Nat.reduceLT, forall_eq', Option.some.injEq, zarR, zarI, zarL, zle, zq0, zq1, zq2, zq3, zq4, zq5, zq6, zq8, zq9, zq10, zq20, zq7, zq12, zq24, zq40, zq41, zq48, zq100, zq120, zq123, zq480, zq492, zq700, zq729, zq2187, zq2916, zq8748, ne_eq, Int.reduceEq, Int.reduceLT, Int.reduceLE, Int.reduceToNat, Int.reduceMul, Int.reduceAdd, Int.reduceNeg]
          exact lp (nB T) 0 h3 (by omega) (fun _ _ _ => rfl) (fun i hi => by omega)
        · rintro hc ⟨fc, t0, k87, kv⟩ Q K
          rw [r187]
          have rt0 : rT (zu hc 91 0 0) u T := rT_frame rt (fun c i q => by rw [zu_c (by omega), fc c i (by omega) (by omega)])
          simp only [e187_0, e187_1, e187_2, e187_5, e187_6, e187_9, e187_12, e187_13, e187_14, e187_17, e187_18, e187_19, e187_20, e187_21, e187_24, e187_27, e187_28, e187_29, e187_32, e187_33, e187_34, e187_35, zs0, zsI, zsL, zsR, ztl1, ztl0, zc0, zcI, zcL, zcR, true_and, and_true, true_implies, false_implies, implies_true, not_true_eq_false, not_false_eq_true, and_self, Int.toNat_natCast, Nat.reduceAdd, Nat.reduceLeDiff, Nat.reduceLT, forall_eq', Option.some.injEq, zarR, zarI, zarL, zle, zq0, zq1, zq2, zq3, zq4, zq5, zq6, zq8, zq9, zq10, zq20, zq7, zq12, zq24, zq40, zq41, zq48, zq100, zq120, zq123, zq480, zq492, zq700, zq729, zq2187, zq2916, zq8748, ne_eq, Int.reduceEq, Int.reduceLT, Int.reduceLE, Int.reduceToNat, Int.reduceMul, Int.reduceAdd, Int.reduceNeg, gk91 hg, gr91_5 hg, gr91_22 hg, gr91_23 hg, gr91_24 hg, gr91_25 hg, gr91_26 hg, gr91_27 hg, gr91_28 hg, gr91_29 hg, gr91_32 hg, gr91_33 hg, gr91_34 hg, gr91_35 hg, gr91_36 hg, gr91_37 hg, gr91_38 hg, gr91_39 hg, gr91_40 hg, gr91_41 hg, gr91_42 hg, gr91_44 hg, gr91_45 hg, gr91_46 hg, gr91_48 hg, gr91_49 hg, gr91_50 hg, gr91_51 hg, gr91_52 hg, hu, q_some, m_in, l]
          apply m_lays hg hu rt0 hw (by decide)
          intro h2 f2 V2 v19 v20 v21
          rw [aLaw_0] at V2
          have mm := fun Q' => m_much' (d := d + 12) (Q := Q') (h := h2) (m := m) hg hu V2 hw v20 v21 m3
          rw [if_neg (by omega)] at mm
          simp only [e187_38, e187_39, e187_40, e187_43, e187_46, e187_47, e187_48, e187_51, e187_52, e187_53, e187_54, zs0, zsI, zsL, zsR, ztl1, ztl0, zc0, zcI, zcL, zcR, true_and, and_true, true_implies, false_implies, implies_true, not_true_eq_false, not_false_eq_true, and_self, Int.toNat_natCast, Nat.reduceAdd, Nat.reduceLeDiff, Nat.reduceLT, forall_eq', Option.some.injEq, zarR, zarI, zarL, zle, zq0, zq1, zq2, zq3, zq4, zq5, zq6, zq8, zq9, zq10, zq20, zq7, zq12, zq24, zq40, zq41, zq48, zq100, zq120, zq123, zq480, zq492, zq700, zq729, zq2187, zq2916, zq8748, ne_eq, Int.reduceEq, Int.reduceLT, Int.reduceLE, Int.reduceToNat, Int.reduceMul, Int.reduceAdd, Int.reduceNeg, gk91 hg, gr91_5 hg, gr91_22 hg, gr91_23 hg, gr91_24 hg, gr91_25 hg, gr91_26 hg, gr91_27 hg, gr91_28 hg, gr91_29 hg, gr91_32 hg, gr91_33 hg, gr91_34 hg, gr91_35 hg, gr91_36 hg, gr91_37 hg, gr91_38 hg, gr91_39 hg, gr91_40 hg, gr91_41 hg, gr91_42 hg, gr91_44 hg, gr91_45 hg, gr91_46 hg, gr91_48 hg, gr91_49 hg, gr91_50 hg, gr91_51 hg, gr91_52 hg, mm]
          apply m_begins (n := m) hg hu m3
          intro h3 f3 a1 a2 a3
          have V3 : rV h3 u T := rV_frame V2 (fun c i q => f3 c i (by omega) (by omega) (by omega)) (fun i => f3 _ _ (by omega) (by omega) (by omega)) (fun i _ _ => f3 _ _ (by omega) (by omega) (by omega))
          have w20 : h3 91 20 = -1 := by rw [f3 _ _ (by omega) (by omega) (by omega)]; exact v20
          have w21 : h3 91 21 = 0 := by rw [f3 _ _ (by omega) (by omega) (by omega)]; exact v21
          have f2' : ∀ c i, ¬ (c = 91 ∧ i = 0) → ¬ (c = 91 ∧ 16 ≤ i ∧ i ≤ 21) → ¬ c = 93 → h2 c i = hc c i := fun c i q1 q2 q3 => by rw [f2 c i q2 q3, zu, if_neg q1]
          have hP : rPre T (fun _ => nA T) (nn0 T) (nf0 T) u m (hdC T h Y) h3 := rPre_mk hw V3 (rA_all hw w20 w21) (by rw [f3 _ _ (by omega) (by omega) (by omega)]; exact v19) (fun s hs => by rw [a1 s (by omega)]; exact V2.2.2.2.2.2.2.2.2.1 s hs) (hd_m hw i4 (fun k hk => by rw [a3 k hk, f2' _ _ (by omega) (by omega) (by omega), fc _ _ (by omega) (by omega)])) a2
          simp only [e187_57, e187_58, e187_59, zs0, zsI, zsL, zsR, ztl1, ztl0, zc0, zcI, zcL, zcR, true_and, and_true, true_implies, false_implies, implies_true, not_true_eq_false, not_false_eq_true, and_self, Int.toNat_natCast, Nat.reduceAdd, Nat.reduceLeDiff, Nat.reduceLT, forall_eq', Option.some.injEq, zarR, zarI, zarL, zle, zq0, zq1, zq2, zq3, zq4, zq5, zq6, zq8, zq9, zq10, zq20, zq7, zq12, zq24, zq40, zq41, zq48, zq100, zq120, zq123, zq480, zq492, zq700, zq729, zq2187, zq2916, zq8748, ne_eq, Int.reduceEq, Int.reduceLT, Int.reduceLE, Int.reduceToNat, Int.reduceMul, Int.reduceAdd, Int.reduceNeg, gk91 hg, gr91_5 hg, gr91_22 hg, gr91_23 hg, gr91_24 hg, gr91_25 hg, gr91_26 hg, gr91_27 hg, gr91_28 hg, gr91_29 hg, gr91_32 hg, gr91_33 hg, gr91_34 hg, gr91_35 hg, gr91_36 hg, gr91_37 hg, gr91_38 hg, gr91_39 hg, gr91_40 hg, gr91_41 hg, gr91_42 hg, gr91_44 hg, gr91_45 hg, gr91_46 hg, gr91_48 hg, gr91_49 hg, gr91_50 hg, gr91_51 hg, gr91_52 hg]
          apply m_rests (d := d + 3) hg hu hw (acOk_all hw) (fB00 hw) m1 m3 ok.1 (by omega) (by omega) ok.2.2 hP
          intro h4 hp
          rw [← ha]
          have o4 := rFr_out hp.1
          have V4 : rV h4 u T := rV_frame V3 (fun c i q => o4 c i (by omega)) (fun i => o4 _ _ (by omega)) (fun i _ _ => o4 _ _ (by omega))
          have A4 : rA h4 T (fun _ => nA T) := rA_fr hP.2.1 (o4 _ _ (by omega)) (o4 _ _ (by omega))
          have f4 : ∀ c i, c < 91 ∨ 91 < c ∧ c < 93 ∨ 100 < c ∧ c < 110 ∨ 114 < c ∨ c = 91 ∧ (i = 6 ∨ i = 13 ∨ i = 30 ∨ i = 31 ∨ i = 47) → h4 c i = hc c i := fun c i q => by rw [o4 c i (by omega), f3 c i (by omega) (by omega) (by omega), f2' c i (by omega) (by omega) (by omega)]
          have u4 : h4 91 43 = z := by
            apply za _ hp.2.2.2.1
            rw [hp.2.2.2.2]
            constructor
            · intro q
              rcases q with q | q
              · rw [a2] at q
                omega
              · exact q
            · exact Or.inr
          have z1 : z = 0 ∨ z = 1 := by rcases hz with ⟨q, _⟩ | ⟨q, _⟩ <;> omega
          have lp : ∀ j b (hh : zM), b + j = nB T → (∀ c i, c < 115 ∨ 117 < c → hh c i = h4 c i) → (∀ i, i < b → hh 115 i = (aOld T (aAct (fun _ => nA T) (nB T) a i) : Nat) ∧ hh 116 i = (aNw T (aAct (fun _ => nA T) (nB T) a i) : Nat) ∧ hh 117 i = vV T (fun _ => nA T) (nn0 T) (nf0 T) m (hdC T h Y) i) → zE 187 (d + 15) Q 65 [some (zR (some 91)), some (zI (m : Int)), some (zI (a : Nat)), some (zI b)] [] G hh (0, 0) := by
            intro j
            induction j with
            | zero =>
              intro b hh hb f mm
              have hb' : b = nB T := by omega
              have e9 : hh u 0 = (nB T : Int) := by rw [f _ _ (by omega)]; exact V4.1
              have e43 : hh 91 43 = z := by rw [f _ _ (by omega)]; exact u4
              subst hb'
              rw [e187_65]
              have fin : Q (some (zI z)) G (zu (zu (zu hh 91 47 1) 91 1 0) 91 2 (-1)) := by
                apply K
                have fr : ∀ c i, ¬ (c = 91 ∧ i = 1) → ¬ (c = 91 ∧ i = 2) → ¬ (c = 91 ∧ i = 47) → (zu (zu (zu hh 91 47 1) 91 1 0) 91 2 (-1)) c i = hh c i := by
                  intro c i q1 q2 q3
                  unfold zu
                  rw [if_neg q2, if_neg q1, if_neg q3]
                have v4 : (zu (zu (zu hh 91 47 1) 91 1 0) 91 2 (-1)) 91 1 = 0 := by rw [zu_i (by decide), zu_at]
                have v5 : (zu (zu (zu hh 91 47 1) 91 1 0) 91 2 (-1)) 91 2 = -1 := zu_at
                have v6 : (zu (zu (zu hh 91 47 1) 91 1 0) 91 2 (-1)) 91 47 = 1 := by rw [zu_i (by decide), zu_i (by decide), zu_at]
                generalize (zu (zu (zu hh 91 47 1) 91 1 0) 91 2 (-1)) = hf at fr v4 v5 v6 ⊢
                have lo : ∀ c i, c < 91 → hf c i = hc c i := fun c i q => by rw [fr c i (by omega) (by omega) (by omega), f c i (by omega), f4 c i (by omega)]
                have lo2 : ∀ c i, c < 46 → ¬ (c = 0 ∧ i = 11) → hf c i = h c i := fun c i q q2 => by rw [lo c i (by omega), fc c i (by omega) q2]
                have hi : ∀ c i, 91 < c ∧ c < 93 ∨ 100 < c ∧ c < 110 ∨ 117 < c ∨ c = 91 ∧ (i = 6 ∨ i = 13 ∨ i = 30 ∨ i = 31) → hf c i = h c i := fun c i q => by rw [fr c i (by omega) (by omega) (by omega), f c i (by omega), f4 c i (by omega), fc c i (by omega) (by omega)]
                refine ⟨hg, I1_fr hI.2.1 (lo2 _ _ (by omega) (by omega)) (fun i => lo2 _ _ (by omega) (by omega)) (hi _ _ (by omega)) (fun i => hi _ _ (by omega)), I2_ok hI.2.2.1 (by rw [lo _ _ (by decide)]; exact t0) v4 v5 (lo2 _ _ (by omega) (by omega)) (hi _ _ (by omega)), Or.inr ⟨u, T, Y, hu, hu2, hw, kT_frame kt (fun c i _ _ => lo2 _ _ (by omega) (by omega)), rT_frame rt (fun c i _ => hi _ _ (by omega)), I4_fr hw i4 (fun c i _ _ => lo2 _ _ (by omega) (by omega)) (hi _ _ (by omega)) (hi _ _ (by omega)) (fun i _ => hi _ _ (by omega)) (fun c i _ _ => hi _ _ (by omega)), ?_⟩⟩
                refine ⟨Or.inr (by rw [lo _ _ (by decide)]; exact k87), by rw [v6, lo _ _ (by decide), k87], fun _ b hb => ?_⟩
                obtain ⟨p1, p2, p3⟩ := kv b hb
                obtain ⟨q1, q2, q3⟩ := mm b hb
                have r1 := aOld_b hw (aAct_b (acOk_all hw) (nB T) a b)
                have r2 := aNw_b hw (aAct_b (acOk_all hw) (nB T) a b)
                rw [lo 88 b (by decide), lo 89 b (by decide), lo 90 b (by decide), fr 115 b (by omega) (by omega) (by omega), fr 116 b (by omega) (by omega) (by omega), fr 117 b (by omega) (by omega) (by omega), p1, p2, p3, q1, q2, q3]
                exact ⟨rfl, rfl, rfl, by omega, by omega⟩
              rcases z1 with z1 | z1
              · rw [z1] at e43 fin
                simp only [e187_0, e187_1, e187_2, e187_5, e187_6, e187_9, e187_12, e187_13, e187_14, e187_17, e187_18, e187_19, e187_20, e187_21, e187_24, e187_27, e187_28, e187_29, e187_32, e187_33, e187_34, e187_35, e187_38, e187_39, e187_40, e187_43, e187_46, e187_47, e187_48, e187_51, e187_52, e187_53, e187_54, e187_57, e187_58, e187_59, e187_62, e187_63, e187_64, e187_66, e187_67, e187_70, e187_73, e187_76, e187_77, e187_80, e187_81, e187_82, e187_83, e187_84, e187_85, e187_88, e187_91, e187_92, e187_93, e187_96, e187_97, e187_98, e187_99, e187_100, e187_101, e187_104, e187_107, e187_108, e187_109, e187_112, e187_113, e187_114, e187_117, e187_118, e187_119, e187_120, e187_123, e187_124, e187_125, e187_128, e187_131, e187_132, e187_133, e187_136, e187_137, e187_138, e187_141, e187_144, e187_145, e187_148, e187_149, e187_152, zs0, zsI, zsL, zsR, ztl1, ztl0, zc0, zcI, zcL, zcR, true_and, and_true, true_implies, false_implies, implies_true, not_true_eq_false, not_false_eq_true, and_self, Int.toNat_natCast, Nat.reduceAdd, Nat.reduceLeDiff, Nat.reduceLT, forall_eq', Option.some.injEq, zarR, zarI, zarL, zle, zq0, zq1, zq2, zq3, zq4, zq5, zq6, zq8, zq9, zq10, zq20, zq7, zq12, zq24, zq40, zq41, zq48, zq100, zq120, zq123, zq480, zq492, zq700, zq729, zq2187, zq2916, zq8748, ne_eq, Int.reduceEq, Int.reduceLT, Int.reduceLE, Int.reduceToNat, Int.reduceMul, Int.reduceAdd, Int.reduceNeg, gk91 hg, gr91_5 hg, gr91_22 hg, gr91_23 hg, gr91_24 hg, gr91_25 hg, gr91_26 hg, gr91_27 hg, gr91_28 hg, gr91_29 hg, gr91_32 hg, gr91_33 hg, gr91_34 hg, gr91_35 hg, gr91_36 hg, gr91_37 hg, gr91_38 hg, gr91_39 hg, gr91_40 hg, gr91_41 hg, gr91_42 hg, gr91_44 hg, gr91_45 hg, gr91_46 hg, gr91_48 hg, gr91_49 hg, gr91_50 hg, gr91_51 hg, gr91_52 hg, or_true, true_or, if_true, if_false, false_and, and_false, false_or, or_false, hu, e9, Int.le_refl, zu_i (show ¬ 43 = 47 by decide), e43, m_done hg]
                exact fin
              · rw [z1] at e43 fin
                simp only [e187_0, e187_1, e187_2, e187_5, e187_6, e187_9, e187_12, e187_13, e187_14, e187_17, e187_18, e187_19, e187_20, e187_21, e187_24, e187_27, e187_28, e187_29, e187_32, e187_33, e187_34, e187_35, e187_38, e187_39, e187_40, e187_43, e187_46, e187_47, e187_48, e187_51, e187_52, e187_53, e187_54, e187_57, e187_58, e187_59, e187_62, e187_63, e187_64, e187_66, e187_67, e187_70, e187_73, e187_76, e187_77, e187_80, e187_81, e187_82, e187_83, e187_84, e187_85, e187_88, e187_91, e187_92, e187_93, e187_96, e187_97, e187_98, e187_99, e187_100, e187_101, e187_104, e187_107, e187_108, e187_109, e187_112, e187_113, e187_114, e187_117, e187_118, e187_119, e187_120, e187_123, e187_124, e187_125, e187_128, e187_131, e187_132, e187_133, e187_136, e187_137, e187_138, e187_141, e187_144, e187_145, e187_148, e187_149, e187_152, zs0, zsI, zsL, zsR, ztl1, ztl0, zc0, zcI, zcL, zcR, true_and, and_true, true_implies, false_implies, implies_true, not_true_eq_false, not_false_eq_true, and_self, Int.toNat_natCast, Nat.reduceAdd, Nat.reduceLeDiff, Nat.reduceLT, forall_eq', Option.some.injEq, zarR, zarI, zarL, zle, zq0, zq1, zq2, zq3, zq4, zq5, zq6, zq8, zq9, zq10, zq20, zq7, zq12, zq24, zq40, zq41, zq48, zq100, zq120, zq123, zq480, zq492, zq700, zq729, zq2187, zq2916, zq8748, ne_eq, Int.reduceEq, Int.reduceLT, Int.reduceLE, Int.reduceToNat, Int.reduceMul, Int.reduceAdd, Int.reduceNeg, gk91 hg, gr91_5 hg, gr91_22 hg, gr91_23 hg, gr91_24 hg, gr91_25 hg, gr91_26 hg, gr91_27 hg, gr91_28 hg, gr91_29 hg, gr91_32 hg, gr91_33 hg, gr91_34 hg, gr91_35 hg, gr91_36 hg, gr91_37 hg, gr91_38 hg, gr91_39 hg, gr91_40 hg, gr91_41 hg, gr91_42 hg, gr91_44 hg, gr91_45 hg, gr91_46 hg, gr91_48 hg, gr91_49 hg, gr91_50 hg, gr91_51 hg, gr91_52 hg, or_true, true_or, if_true, if_false, false_and, and_false, false_or, or_false, hu, e9, Int.le_refl, zu_i (show ¬ 43 = 47 by decide), e43, m_done hg]
                exact fin
            | succ j ih =>
              intro b hh hb f mm
              have e9 : hh u 0 = (nB T : Int) := by rw [f _ _ (by omega)]; exact V4.1
              have c : ¬ (nB T : Int) ≤ b := by omega
              have b3 : (b : Int) < 3 := by omega
              have a1000 : ((aAct (fun _ => nA T) (nB T) a b : Nat) : Int) < 1000 := by
                have q1 := aAct_b (acOk_all hw) (nB T) a b
                have q2 := nA_b hw
                omega
              have V5 : ∀ h5 : zM, (∀ c i, c < 115 ∨ 117 < c → h5 c i = hh c i) → rV h5 u T := fun h5 q => rV_frame V4 (fun c i q1 => by rw [q c i (by omega), f c i (by omega)]) (fun i => by rw [q _ _ (by omega), f _ _ (by omega)]) (fun i _ _ => by rw [q _ _ (by omega), f _ _ (by omega)])
              have A5 : ∀ h5 : zM, (∀ c i, c < 115 ∨ 117 < c → h5 c i = hh c i) → rA h5 T (fun _ => nA T) := fun h5 q => rA_fr A4 (by rw [q _ _ (by omega), f _ _ (by omega)]) (by rw [q _ _ (by omega), f _ _ (by omega)])
              have ra := fun (h5 : zM) (q : ∀ c i, c < 115 ∨ 117 < c → h5 c i = hh c i) Q' => m_ract (d := d + 12) (Q := Q') (h := h5) (all := a) (b := b) hg hu (V5 h5 q) hw (acOk_all hw) (A5 h5 q) (by omega) (by omega)
              have co := fun (h5 : zM) (q : ∀ c i, c < 115 ∨ 117 < c → h5 c i = hh c i) Q' => m_old (d := d + 14) (Q := Q') (h := h5) (a := aAct (fun _ => nA T) (nB T) a b) hg hu (V5 h5 q) hw a1000
              have cn := fun (h5 : zM) (q : ∀ c i, c < 115 ∨ 117 < c → h5 c i = hh c i) Q' => m_new (d := d + 14) (Q := Q') (h := h5) (a := aAct (fun _ => nA T) (nB T) a b) hg hu (V5 h5 q) hw
              have wa := fun h5 Q' => m_worthAt (d := d + 14) (Q := Q') (G := G) (h := h5) (y := m) (a := a) (b := b) (by omega) (by omega) (by omega)
              have i1 : (((m * 729 + a) * 3 + b : Nat) : Int) < 8748 := by omega
              have ev : hh 111 ((m * 729 + a) * 3 + b) = vV T (fun _ => nA T) (nn0 T) (nf0 T) m (hdC T h Y) b := by
                rw [f _ _ (by omega), hp.2.2.1 a b cb (by omega)]
                unfold vV
                rw [← ha]
              have ra1 := ra hh (fun _ _ _ => rfl)
              have co1 := co hh (fun _ _ _ => rfl)
              have ra2 := ra (zu hh 115 b (aOld T (aAct (fun _ => nA T) (nB T) a b) : Nat)) (fun c i q => zu_c (by omega))
              have cn2 := cn (zu hh 115 b (aOld T (aAct (fun _ => nA T) (nB T) a b) : Nat)) (fun c i q => zu_c (by omega))
              rw [e187_65]
              simp only [e187_0, e187_1, e187_2, e187_5, e187_6, e187_9, e187_12, e187_13, e187_14, e187_17, e187_18, e187_19, e187_20, e187_21, e187_24, e187_27, e187_28, e187_29, e187_32, e187_33, e187_34, e187_35, e187_38, e187_39, e187_40, e187_43, e187_46, e187_47, e187_48, e187_51, e187_52, e187_53, e187_54, e187_57, e187_58, e187_59, e187_62, e187_63, e187_64, e187_66, e187_67, e187_70, e187_73, e187_76, e187_77, e187_80, e187_81, e187_82, e187_83, e187_84, e187_85, e187_88, e187_91, e187_92, e187_93, e187_96, e187_97, e187_98, e187_99, e187_100, e187_101, e187_104, e187_107, e187_108, e187_109, e187_112, e187_113, e187_114, e187_117, e187_118, e187_119, e187_120, e187_123, e187_124, e187_125, e187_128, e187_131, e187_132, e187_133, e187_136, e187_137, e187_138, e187_141, e187_144, e187_145, e187_148, e187_149, e187_152, zs0, zsI, zsL, zsR, ztl1, ztl0, zc0, zcI, zcL, zcR, true_and, and_true, true_implies, false_implies, implies_true, not_true_eq_false, not_false_eq_true, and_self, Int.toNat_natCast, Nat.reduceAdd, Nat.reduceLeDiff, Nat.reduceLT, forall_eq', Option.some.injEq, zarR, zarI, zarL, zle, zq0, zq1, zq2, zq3, zq4, zq5, zq6, zq8, zq9, zq10, zq20, zq7, zq12, zq24, zq40, zq41, zq48, zq100, zq120, zq123, zq480, zq492, zq700, zq729, zq2187, zq2916, zq8748, ne_eq, Int.reduceEq, Int.reduceLT, Int.reduceLE, Int.reduceToNat, Int.reduceMul, Int.reduceAdd, Int.reduceNeg, gk91 hg, gr91_5 hg, gr91_22 hg, gr91_23 hg, gr91_24 hg, gr91_25 hg, gr91_26 hg, gr91_27 hg, gr91_28 hg, gr91_29 hg, gr91_32 hg, gr91_33 hg, gr91_34 hg, gr91_35 hg, gr91_36 hg, gr91_37 hg, gr91_38 hg, gr91_39 hg, gr91_40 hg, gr91_41 hg, gr91_42 hg, gr91_44 hg, gr91_45 hg, gr91_46 hg, gr91_48 hg, gr91_49 hg, gr91_50 hg, gr91_51 hg, gr91_52 hg, gk115 hg, gl115 hg, gk116 hg, gl116 hg, gk117 hg, gl117 hg, gk111 hg, gl111 hg, or_true, true_or, if_true, if_false, false_and, and_false, false_or, or_false, hu, e9, c, ra1, co1, b3, ra2, cn2, wa, i1, zu_c (show ¬ 111 = 116 by omega), zu_c (show ¬ 111 = 115 by omega), ev, wr_s (show b < 2147483647 by omega)]
              apply ih (b + 1) _ (by omega)
              · intro c i q
                rw [zu_c (by omega), zu_c (by omega), zu_c (by omega)]
                exact f c i q
              · intro i hi
                by_cases q : i = b
                · subst q
                  refine ⟨?_, ?_, zu_at⟩
                  · rw [zu_c (by decide), zu_c (by decide), zu_at]
                  · rw [zu_c (by decide), zu_at]
                · obtain ⟨p1, p2, p3⟩ := mm i (by omega)
                  refine ⟨?_, ?_, ?_⟩
                  · rw [zu_c (by decide), zu_c (by decide), zu_i q]; exact p1
                  · rw [zu_c (by decide), zu_i q, zu_c (by decide)]; exact p2
                  · rw [zu_i q, zu_c (by decide), zu_c (by decide)]; exact p3
          simp only [e187_62, e187_63, e187_64, e187_66, e187_67, e187_70, e187_73, e187_76, e187_77, e187_80, e187_81, e187_82, e187_83, e187_84, e187_85, e187_88, e187_91, e187_92, e187_93, e187_96, e187_97, e187_98, e187_99, e187_100, e187_101, e187_104, e187_107, e187_108, e187_109, e187_112, e187_113, e187_114, e187_117, e187_118, e187_119, e187_120, e187_123, e187_124, e187_125, e187_128, e187_131, e187_132, e187_133, e187_136, e187_137, e187_138, e187_141, e187_144, e187_145, e187_148, e187_149, e187_152, zs0, zsI, zsL, zsR, ztl1, ztl0, zc0, zcI, zcL, zcR, true_and, and_true, true_implies, false_implies, implies_true, not_true_eq_false, not_false_eq_true, and_self, Int.toNat_natCast, Nat.reduceAdd, Nat.reduceLeDiff, Nat.reduceLT, forall_eq', Option.some.injEq, zarR, zarI, zarL, zle, zq0, zq1, zq2, zq3, zq4, zq5, zq6, zq8, zq9, zq10, zq20, zq7, zq12, zq24, zq40, zq41, zq48, zq100, zq120, zq123, zq480, zq492, zq700, zq729, zq2187, zq2916, zq8748, ne_eq, Int.reduceEq, Int.reduceLT, Int.reduceLE, Int.reduceToNat, Int.reduceMul, Int.reduceAdd, Int.reduceNeg]
          exact lp (nB T) 0 h4 (by omega) (fun _ _ _ => rfl) (fun i hi => by omega)
      by_cases hU : rU T (fun _ => nA T) (nn0 T) (nf0 T) m (hdC T h Y)
      · exact main 1 (Or.inl ⟨rfl, hU⟩)
      · exact main 0 (Or.inr ⟨rfl, hU⟩)
end PR1
