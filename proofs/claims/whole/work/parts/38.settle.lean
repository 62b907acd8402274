section SE
variable {d : Nat} {G : zG} {T : aTn} {ac : Nat → Nat} {nn nf : Nat → Int} {m : Nat}
theorem c_settle1 (hg : gS G) (hw : wT T) (hc : acOk T ac) (hf : fB nn nf) (hm : m < 3) (hN : (m + 1) * (tg ac (nB T) * nB T) ≤ 2187) (SS : ¬ m = 0 → SP G T ac nn nf d m) : SP G T ac nn nf d (m + 1) := by
  intro hd B h Q b1 b2 b3 h20 hP K
  have dp : d + 2 * (m + 1) + 2 = d + 2 * m + 3 + 1 := by omega
  rw [dp, r40]
  have hBk := hw.1
  have tb := tg_b hw hc
  have hsm : (m + 1) * (tg ac (nB T) * nB T) = m * (tg ac (nB T) * nB T) + tg ac (nB T) * nB T := Nat.succ_mul _ _
  have hN2 : m * (tg ac (nB T) * nB T) + tg ac (nB T) * nB T ≤ 2187 := by omega
  have hwb : ∀ a b, -100000000000 ≤ rW T ac nn nf (m + 1) hd a b ∧ rW T ac nn nf (m + 1) hd a b ≤ 100000000000 := by
    intro a b
    have := rW_b hw (ac := ac) hf (m + 1) b1 (by omega) b2 a b
    omega
  -- the end
  have fin : ∀ (h1 : zM) (l6 l7 l8 : Option zV), sI T ac nn nf m hd h h1 (tg ac (nB T)) → zE 40 (d + 2 * m + 3) Q 116 [some (zR (some 46)), some (zI ((m + 1 : Nat) : Int)), some (zI ((m * (tg ac (nB T) * nB T) : Nat) : Int)), some (zI ((calm ac (nB T) (rW T ac nn nf (m + 1) hd) : Nat) : Int)), some (zL (least ac (nB T) (rW T ac nn nf (m + 1) hd))), none, l6, l7, l8] [] G h1 (0, 0) := by
    intro h1 l6 l7 l8 hI
    obtain ⟨f0, f1, f2, f3, f4⟩ := hI
    have cb := calm_b (ac := ac) (nb := nB T) (w := rW T ac nn nf (m + 1) hd) tb.1
    have ix := idx_b cb (show nB T - 1 < nB T by omega)
    have hg80 := g80 hg (show m + 1 < 4 by omega)
    have m1 : ((calm ac (nB T) (rW T ac nn nf (m + 1) hd) : Nat) : Int) * (nB T : Int) = ((calm ac (nB T) (rW T ac nn nf (m + 1) hd) * nB T : Nat) : Int) := (Int.natCast_mul _ _).symm
    have m4 : ((m + 1 : Nat) : Int) < 4 := by omega
    have w5 : (0 : Int) + (nB T : Int) ≤ 3 := by omega
    have post : ∀ h2 : zM, (∀ c i, ¬ (c = 46 ∧ i = 14) → h2 c i = h1 c i) → (h2 46 14 = 0 ∨ h2 46 14 = 1) → (h2 46 14 = 1 ↔ h1 46 14 = 1 ∨ 0 < least ac (nB T) (rW T ac nn nf (m + 1) hd)) → zE 40 (d + 2 * m + 3) Q 128 [some (zR (some 46)), some (zI ((m + 1 : Nat) : Int)), some (zI ((m * (tg ac (nB T) * nB T) : Nat) : Int)), some (zI ((calm ac (nB T) (rW T ac nn nf (m + 1) hd) : Nat) : Int)), some (zL (least ac (nB T) (rW T ac nn nf (m + 1) hd))), none, l6, l7, l8] [] G h2 (0, 0) := by
      intro h2 g0 g1 g2
      have e1 : h2 49 9 = (nB T : Int) := by
        rw [g0 _ _ (by omega), f0 _ _ (by decide) (by decide) (by omega) (by omega) (by omega) (by omega) (by omega) (by omega)]
        exact hP.1.1
      have KK : Q (some (zI ((calm ac (nB T) (rW T ac nn nf (m + 1) hd) : Nat) : Int))) G (zcp h2 73 (m * (tg ac (nB T) * nB T) + calm ac (nB T) (rW T ac nn nf (m + 1) hd) * nB T) (81 + (m + 1)) 0 (nB T)) := by
        apply K
        refine ⟨?_, ?_, ?_, ?_⟩
        · intro c i q1 q2 q3 q4 q5 q6 q7 q8
          rw [zcp_c (by omega), g0 c i q4]
          exact f0 c i q1 q2 q3 q4 q5 q6 q7 q8
        · intro b q
          have := zcp_i (h := h2) (a := 73) (sp := m * (tg ac (nB T) * nB T) + calm ac (nB T) (rW T ac nn nf (m + 1) hd) * nB T) (b := 81 + (m + 1)) (dp := 0) (n := nB T) (i := b) q
          rw [Nat.zero_add] at this
          rw [this, g0 _ _ (by omega), f1 _ b cb q]
          rfl
        · rw [zcp_c (by omega)]
          exact g1
        · rw [zcp_c (by omega), g2, f4, rU]
          constructor
          · rintro ((q | q) | q)
            · exact Or.inl q
            · exact Or.inr (Or.inr q)
            · exact Or.inr (Or.inl q)
          · rintro (q | q | q)
            · exact Or.inl (Or.inl q)
            · exact Or.inr q
            · exact Or.inl (Or.inr q)
      clear hsm
      generalize calm ac (nB T) (rW T ac nn nf (m + 1) hd) * nB T = CN at *
      generalize m * (tg ac (nB T) * nB T) = S at *
      generalize tg ac (nB T) * nB T = N at *
      have w6 : ((S + CN : Nat) : Int) + (nB T : Int) ≤ 2187 := by omega
      simp only [e40_0, e40_1, e40_2, e40_5, e40_6, e40_7, e40_10, e40_11, e40_12, e40_13, e40_14, e40_15, e40_16, e40_19, e40_20, e40_21, e40_24, e40_27, e40_28, e40_29, e40_30, e40_32, e40_33, e40_36, e40_39, e40_40, e40_41, e40_42, e40_43, e40_46, e40_49, e40_52, e40_53, e40_54, e40_55, e40_56, e40_57, e40_60, e40_63, e40_65, e40_66, e40_70, e40_71, e40_74, e40_77, e40_79, e40_80, e40_81, e40_84, e40_85, e40_87, e40_88, e40_90, e40_93, e40_95, e40_97, e40_99, e40_100, e40_103, e40_105, e40_107, e40_109, e40_110, e40_113, e40_116, e40_118, e40_119, e40_120, e40_123, e40_124, e40_125, e40_128, e40_129, e40_132, e40_133, e40_134, e40_135, e40_138, e40_141, e40_142, e40_143, e40_144, e40_147, e40_148, e40_149, e40_150, e40_151, e40_154, e40_157, e40_160, e40_161, zs0, zsI, zsL, zsR, ztl1, ztl0, zc0, zcI, zcL, zcR, true_and, and_true, true_implies, false_implies, implies_true, not_true_eq_false, not_false_eq_true, and_self, Int.toNat_natCast, Nat.reduceAdd, Nat.reduceLeDiff, Nat.reduceLT, forall_eq', Option.some.injEq, zarR, zarI, zarL, zle, zq0, zq1, zq2, zq3, zq4, zq5, zq6, zq8, zq9, zq10, zq20, zq7, zq12, zq24, zq40, zq41, zq48, zq100, zq120, zq123, zq480, zq492, zq700, zq729, zq2187, zq2916, zq8748, ne_eq, Int.reduceEq, Int.reduceLT, Int.reduceLE, Int.reduceToNat, Int.reduceMul, Int.reduceAdd, Int.reduceNeg, gk46 hg, gr46_0 hg, gr46_1 hg, gr46_2 hg, gr46_3 hg, gr46_4 hg, gr46_6 hg, gr46_7 hg, gr46_8 hg, gr46_9 hg, gr46_10 hg, gr46_11 hg, gr46_12 hg, gr46_13 hg, gk49 hg, gr49_0 hg, gr49_1 hg, gr49_2 hg, gr49_3 hg, gr49_4 hg, gr49_5 hg, gr49_6 hg, gr49_7 hg, gr49_8 hg, gk73 hg, gl73 hg, gk80 hg, gl80 hg, gr80_0 hg, gr80_1 hg, gr80_2 hg, gr80_3 hg, e1, m1, wrN (z := (CN : Int)) (m := CN) rfl (by omega), wrN (z := (S : Int) + (CN : Int)) (m := S + CN) (by omega) (by omega), m4, hg80, w5, w6]
      exact KK
    by_cases c : least ac (nB T) (rW T ac nn nf (m + 1) hd) ≤ 0
    · simp only [e40_0, e40_1, e40_2, e40_5, e40_6, e40_7, e40_10, e40_11, e40_12, e40_13, e40_14, e40_15, e40_16, e40_19, e40_20, e40_21, e40_24, e40_27, e40_28, e40_29, e40_30, e40_32, e40_33, e40_36, e40_39, e40_40, e40_41, e40_42, e40_43, e40_46, e40_49, e40_52, e40_53, e40_54, e40_55, e40_56, e40_57, e40_60, e40_63, e40_65, e40_66, e40_70, e40_71, e40_74, e40_77, e40_79, e40_80, e40_81, e40_84, e40_85, e40_87, e40_88, e40_90, e40_93, e40_95, e40_97, e40_99, e40_100, e40_103, e40_105, e40_107, e40_109, e40_110, e40_113, e40_116, e40_118, e40_119, e40_120, e40_123, e40_124, e40_125, e40_129, e40_132, e40_133, e40_134, e40_135, e40_138, e40_141, e40_142, e40_143, e40_144, e40_147, e40_148, e40_149, e40_150, e40_151, e40_154, e40_157, e40_160, e40_161, zs0, zsI, zsL, zsR, ztl1, ztl0, zc0, zcI, zcL, zcR, true_and, and_true, true_implies, false_implies, implies_true, not_true_eq_false, not_false_eq_true, and_self, Int.toNat_natCast, Nat.reduceAdd, Nat.reduceLeDiff, Nat.reduceLT, forall_eq', Option.some.injEq, zarR, zarI, zarL, zle, zq0, zq1, zq2, zq3, zq4, zq5, zq6, zq8, zq9, zq10, zq20, zq7, zq12, zq24, zq40, zq41, zq48, zq100, zq120, zq123, zq480, zq492, zq700, zq729, zq2187, zq2916, zq8748, ne_eq, Int.reduceEq, Int.reduceLT, Int.reduceLE, Int.reduceToNat, Int.reduceMul, Int.reduceAdd, Int.reduceNeg, zlc_le, c]
      exact post h1 (fun _ _ _ => rfl) f3 ⟨Or.inl, fun q => q.elim id (fun q => by omega)⟩
    · simp only [e40_0, e40_1, e40_2, e40_5, e40_6, e40_7, e40_10, e40_11, e40_12, e40_13, e40_14, e40_15, e40_16, e40_19, e40_20, e40_21, e40_24, e40_27, e40_28, e40_29, e40_30, e40_32, e40_33, e40_36, e40_39, e40_40, e40_41, e40_42, e40_43, e40_46, e40_49, e40_52, e40_53, e40_54, e40_55, e40_56, e40_57, e40_60, e40_63, e40_65, e40_66, e40_70, e40_71, e40_74, e40_77, e40_79, e40_80, e40_81, e40_84, e40_85, e40_87, e40_88, e40_90, e40_93, e40_95, e40_97, e40_99, e40_100, e40_103, e40_105, e40_107, e40_109, e40_110, e40_113, e40_116, e40_118, e40_119, e40_120, e40_123, e40_124, e40_125, e40_129, e40_132, e40_133, e40_134, e40_135, e40_138, e40_141, e40_142, e40_143, e40_144, e40_147, e40_148, e40_149, e40_150, e40_151, e40_154, e40_157, e40_160, e40_161, zs0, zsI, zsL, zsR, ztl1, ztl0, zc0, zcI, zcL, zcR, true_and, and_true, true_implies, false_implies, implies_true, not_true_eq_false, not_false_eq_true, and_self, Int.toNat_natCast, Nat.reduceAdd, Nat.reduceLeDiff, Nat.reduceLT, forall_eq', Option.some.injEq, zarR, zarI, zarL, zle, zq0, zq1, zq2, zq3, zq4, zq5, zq6, zq8, zq9, zq10, zq20, zq7, zq12, zq24, zq40, zq41, zq48, zq100, zq120, zq123, zq480, zq492, zq700, zq729, zq2187, zq2916, zq8748, ne_eq, Int.reduceEq, Int.reduceLT, Int.reduceLE, Int.reduceToNat, Int.reduceMul, Int.reduceAdd, Int.reduceNeg, gk46 hg, gr46_0 hg, gr46_1 hg, gr46_2 hg, gr46_3 hg, gr46_4 hg, gr46_6 hg, gr46_7 hg, gr46_8 hg, gr46_9 hg, gr46_10 hg, gr46_11 hg, gr46_12 hg, gr46_13 hg, zlc_le, c, or_true]
      exact post _ (fun c i q => by unfold zu; rw [if_neg q]) (Or.inr zu_at) ⟨fun _ => Or.inr (by omega), fun _ => zu_at⟩
  -- the calmest
  have cml : ∀ j k (h1 : zM) (l7 l8 : Option zV), k + 1 + j = tg ac (nB T) → sI T ac nn nf m hd h h1 (tg ac (nB T)) → zE 40 (d + 2 * m + 3) Q 68 [some (zR (some 46)), some (zI ((m + 1 : Nat) : Int)), some (zI ((m * (tg ac (nB T) * nB T) : Nat) : Int)), some (zI (((cm ac (nB T) (rW T ac nn nf (m + 1) hd) k).2 : Nat) : Int)), some (zL (cm ac (nB T) (rW T ac nn nf (m + 1) hd) k).1), none, some (zI ((k + 1 : Nat) : Int)), l7, l8] [] G h1 (0, 0) := by
    intro j
    induction j with
    | zero =>
      intro k h1 l7 l8 hk hI
      have e1 : h1 46 5 = ((tg ac (nB T) : Nat) : Int) := by
        rw [hI.1 _ _ (by decide) (by decide) (by omega) (by omega) (by omega) (by omega) (by omega) (by omega)]
        exact hP.2.1.2.1
      have c : ((tg ac (nB T) : Nat) : Int) ≤ ((k + 1 : Nat) : Int) := by omega
      have fi := fin h1 (some (zI ((k + 1 : Nat) : Int))) l7 l8 hI
      have ek : tg ac (nB T) - 1 = k := by omega
      unfold calm least at fi
      rw [ek] at fi
      rw [e40_68]
      simp only [e40_0, e40_1, e40_2, e40_5, e40_6, e40_7, e40_10, e40_11, e40_12, e40_13, e40_14, e40_15, e40_16, e40_19, e40_20, e40_21, e40_24, e40_27, e40_28, e40_29, e40_30, e40_32, e40_33, e40_36, e40_39, e40_40, e40_41, e40_42, e40_43, e40_46, e40_49, e40_52, e40_53, e40_54, e40_55, e40_56, e40_57, e40_60, e40_63, e40_65, e40_66, e40_70, e40_71, e40_74, e40_77, e40_79, e40_80, e40_81, e40_84, e40_85, e40_87, e40_88, e40_90, e40_93, e40_95, e40_97, e40_99, e40_100, e40_103, e40_105, e40_107, e40_109, e40_110, e40_113, e40_118, e40_119, e40_120, e40_123, e40_124, e40_125, e40_128, e40_129, e40_132, e40_133, e40_134, e40_135, e40_138, e40_141, e40_142, e40_143, e40_144, e40_147, e40_148, e40_149, e40_150, e40_151, e40_154, e40_157, e40_160, e40_161, zs0, zsI, zsL, zsR, ztl1, ztl0, zc0, zcI, zcL, zcR, true_and, and_true, true_implies, false_implies, implies_true, not_true_eq_false, not_false_eq_true, and_self, Int.toNat_natCast, Nat.reduceAdd, Nat.reduceLeDiff, Nat.reduceLT, forall_eq', Option.some.injEq, zarR, zarI, zarL, zle, zq0, zq1, zq2, zq3, zq4, zq5, zq6, zq8, zq9, zq10, zq20, zq7, zq12, zq24, zq40, zq41, zq48, zq100, zq120, zq123, zq480, zq492, zq700, zq729, zq2187, zq2916, zq8748, ne_eq, Int.reduceEq, Int.reduceLT, Int.reduceLE, Int.reduceToNat, Int.reduceMul, Int.reduceAdd, Int.reduceNeg, gk46 hg, gr46_0 hg, gr46_1 hg, gr46_2 hg, gr46_3 hg, gr46_4 hg, gr46_6 hg, gr46_7 hg, gr46_8 hg, gr46_9 hg, gr46_10 hg, gr46_11 hg, gr46_12 hg, gr46_13 hg, e1, c]
      exact fi
    | succ j ih =>
      intro k h1 l7 l8 hk hI
      have e1 : h1 46 5 = ((tg ac (nB T) : Nat) : Int) := by
        rw [hI.1 _ _ (by decide) (by decide) (by omega) (by omega) (by omega) (by omega) (by omega) (by omega)]
        exact hP.2.1.2.1
      have c : ¬ ((tg ac (nB T) : Nat) : Int) ≤ ((k + 1 : Nat) : Int) := by omega
      have fi := fin h1 (some (zI ((k + 1 : Nat) : Int))) l7 l8 hI
      have pT1 : kT h1 49 T := kT_frame hP.1 (fun c i q1 q2 => hI.1 c i (by omega) (by omega) (by omega) (by omega) (by omega) (by omega) (by omega) (by omega))
      have pR1 : sR h1 T ac := ⟨fun b q => by rw [hI.1 _ _ (by decide) (by decide) (by omega) (by omega) (by omega) (by omega) (by omega) (by omega)]; exact hP.2.1.1.1 b q, fun b q => by rw [hI.1 _ _ (by decide) (by decide) (by omega) (by omega) (by omega) (by omega) (by omega) (by omega)]; exact hP.2.1.1.2 b q⟩
      rw [e40_68]
      by_cases c2 : (cm ac (nB T) (rW T ac nn nf (m + 1) hd) k).1 ≤ 0
      · have ek : tg ac (nB T) - 1 = k + (j + 1) := by omega
        unfold calm least at fi
        rw [ek, cm_stop k (j + 1) c2] at fi
        simp only [e40_0, e40_1, e40_2, e40_5, e40_6, e40_7, e40_10, e40_11, e40_12, e40_13, e40_14, e40_15, e40_16, e40_19, e40_20, e40_21, e40_24, e40_27, e40_28, e40_29, e40_30, e40_32, e40_33, e40_36, e40_39, e40_40, e40_41, e40_42, e40_43, e40_46, e40_49, e40_52, e40_53, e40_54, e40_55, e40_56, e40_57, e40_60, e40_63, e40_65, e40_66, e40_70, e40_71, e40_74, e40_77, e40_79, e40_80, e40_81, e40_84, e40_85, e40_87, e40_88, e40_90, e40_93, e40_95, e40_97, e40_99, e40_100, e40_103, e40_105, e40_107, e40_109, e40_110, e40_113, e40_118, e40_119, e40_120, e40_123, e40_124, e40_125, e40_128, e40_129, e40_132, e40_133, e40_134, e40_135, e40_138, e40_141, e40_142, e40_143, e40_144, e40_147, e40_148, e40_149, e40_150, e40_151, e40_154, e40_157, e40_160, e40_161, zs0, zsI, zsL, zsR, ztl1, ztl0, zc0, zcI, zcL, zcR, true_and, and_true, true_implies, false_implies, implies_true, not_true_eq_false, not_false_eq_true, and_self, Int.toNat_natCast, Nat.reduceAdd, Nat.reduceLeDiff, Nat.reduceLT, forall_eq', Option.some.injEq, zarR, zarI, zarL, zle, zq0, zq1, zq2, zq3, zq4, zq5, zq6, zq8, zq9, zq10, zq20, zq7, zq12, zq24, zq40, zq41, zq48, zq100, zq120, zq123, zq480, zq492, zq700, zq729, zq2187, zq2916, zq8748, ne_eq, Int.reduceEq, Int.reduceLT, Int.reduceLE, Int.reduceToNat, Int.reduceMul, Int.reduceAdd, Int.reduceNeg, gk46 hg, gr46_0 hg, gr46_1 hg, gr46_2 hg, gr46_3 hg, gr46_4 hg, gr46_6 hg, gr46_7 hg, gr46_8 hg, gr46_9 hg, gr46_10 hg, gr46_11 hg, gr46_12 hg, gr46_13 hg, e1, c, zlc_le, c2]
        exact fi
      · have p0 := pull_0 (ac := ac) (nb := nB T) (w := rW T ac nn nf (m + 1) hd) (k + 1)
        simp only [e40_0, e40_1, e40_2, e40_5, e40_6, e40_7, e40_10, e40_11, e40_12, e40_13, e40_14, e40_15, e40_16, e40_19, e40_20, e40_21, e40_24, e40_27, e40_28, e40_29, e40_30, e40_32, e40_33, e40_36, e40_39, e40_40, e40_41, e40_42, e40_43, e40_46, e40_49, e40_52, e40_53, e40_54, e40_55, e40_56, e40_57, e40_60, e40_63, e40_65, e40_66, e40_70, e40_71, e40_74, e40_77, e40_79, e40_80, e40_81, e40_84, e40_85, e40_87, e40_88, e40_90, e40_93, e40_95, e40_97, e40_99, e40_100, e40_103, e40_105, e40_107, e40_109, e40_110, e40_113, e40_118, e40_119, e40_120, e40_123, e40_124, e40_125, e40_128, e40_129, e40_132, e40_133, e40_134, e40_135, e40_138, e40_141, e40_142, e40_143, e40_144, e40_147, e40_148, e40_149, e40_150, e40_151, e40_154, e40_157, e40_160, e40_161, zs0, zsI, zsL, zsR, ztl1, ztl0, zc0, zcI, zcL, zcR, true_and, and_true, true_implies, false_implies, implies_true, not_true_eq_false, not_false_eq_true, and_self, Int.toNat_natCast, Nat.reduceAdd, Nat.reduceLeDiff, Nat.reduceLT, forall_eq', Option.some.injEq, zarR, zarI, zarL, zle, zq0, zq1, zq2, zq3, zq4, zq5, zq6, zq8, zq9, zq10, zq20, zq7, zq12, zq24, zq40, zq41, zq48, zq100, zq120, zq123, zq480, zq492, zq700, zq729, zq2187, zq2916, zq8748, ne_eq, Int.reduceEq, Int.reduceLT, Int.reduceLE, Int.reduceToNat, Int.reduceMul, Int.reduceAdd, Int.reduceNeg, gk46 hg, gr46_0 hg, gr46_1 hg, gr46_2 hg, gr46_3 hg, gr46_4 hg, gr46_6 hg, gr46_7 hg, gr46_8 hg, gr46_9 hg, gr46_10 hg, gr46_11 hg, gr46_12 hg, gr46_13 hg, e1, c, zlc_le, c2]
        apply c_pull (d := d + 2 * m + 1) (w := rW T ac nn nf (m + 1) hd) hg pT1 hw hc pR1 (by omega) (by omega) hI.2.1 hwb
        intro v hv
        have go := fun l7 l8 => ih (k + 1) h1 l7 l8 (by omega) hI
        by_cases c3 : (cm ac (nB T) (rW T ac nn nf (m + 1) hd) k).1 ≤ v
        · have c4 : ¬ pull ac (nB T) (rW T ac nn nf (m + 1) hd) (k + 1) < (cm ac (nB T) (rW T ac nn nf (m + 1) hd) k).1 := by omega
          simp only [cm, c4, if_false] at go
          simp only [e40_0, e40_1, e40_2, e40_5, e40_6, e40_7, e40_10, e40_11, e40_12, e40_13, e40_14, e40_15, e40_16, e40_19, e40_20, e40_21, e40_24, e40_27, e40_28, e40_29, e40_30, e40_32, e40_33, e40_36, e40_39, e40_40, e40_41, e40_42, e40_43, e40_46, e40_49, e40_52, e40_53, e40_54, e40_55, e40_56, e40_57, e40_60, e40_63, e40_65, e40_66, e40_70, e40_71, e40_74, e40_77, e40_79, e40_80, e40_81, e40_84, e40_85, e40_87, e40_88, e40_90, e40_93, e40_95, e40_97, e40_99, e40_100, e40_103, e40_105, e40_107, e40_109, e40_110, e40_113, e40_118, e40_119, e40_120, e40_123, e40_124, e40_125, e40_128, e40_129, e40_132, e40_133, e40_134, e40_135, e40_138, e40_141, e40_142, e40_143, e40_144, e40_147, e40_148, e40_149, e40_150, e40_151, e40_154, e40_157, e40_160, e40_161, zs0, zsI, zsL, zsR, ztl1, ztl0, zc0, zcI, zcL, zcR, true_and, and_true, true_implies, false_implies, implies_true, not_true_eq_false, not_false_eq_true, and_self, Int.toNat_natCast, Nat.reduceAdd, Nat.reduceLeDiff, Nat.reduceLT, forall_eq', Option.some.injEq, zarR, zarI, zarL, zle, zq0, zq1, zq2, zq3, zq4, zq5, zq6, zq8, zq9, zq10, zq20, zq7, zq12, zq24, zq40, zq41, zq48, zq100, zq120, zq123, zq480, zq492, zq700, zq729, zq2187, zq2916, zq8748, ne_eq, Int.reduceEq, Int.reduceLT, Int.reduceLE, Int.reduceToNat, Int.reduceMul, Int.reduceAdd, Int.reduceNeg, zlc_ge, c3, wr_s (show k + 1 < 2147483647 by omega)]
          exact go _ _
        · have c5 : v = pull ac (nB T) (rW T ac nn nf (m + 1) hd) (k + 1) := by omega
          have c4 : pull ac (nB T) (rW T ac nn nf (m + 1) hd) (k + 1) < (cm ac (nB T) (rW T ac nn nf (m + 1) hd) k).1 := by omega
          simp only [cm, c4, if_true] at go
          rw [← c5] at go
          simp only [e40_0, e40_1, e40_2, e40_5, e40_6, e40_7, e40_10, e40_11, e40_12, e40_13, e40_14, e40_15, e40_16, e40_19, e40_20, e40_21, e40_24, e40_27, e40_28, e40_29, e40_30, e40_32, e40_33, e40_36, e40_39, e40_40, e40_41, e40_42, e40_43, e40_46, e40_49, e40_52, e40_53, e40_54, e40_55, e40_56, e40_57, e40_60, e40_63, e40_65, e40_66, e40_70, e40_71, e40_74, e40_77, e40_79, e40_80, e40_81, e40_84, e40_85, e40_87, e40_88, e40_90, e40_93, e40_95, e40_97, e40_99, e40_100, e40_103, e40_105, e40_107, e40_109, e40_110, e40_113, e40_118, e40_119, e40_120, e40_123, e40_124, e40_125, e40_128, e40_129, e40_132, e40_133, e40_134, e40_135, e40_138, e40_141, e40_142, e40_143, e40_144, e40_147, e40_148, e40_149, e40_150, e40_151, e40_154, e40_157, e40_160, e40_161, zs0, zsI, zsL, zsR, ztl1, ztl0, zc0, zcI, zcL, zcR, true_and, and_true, true_implies, false_implies, implies_true, not_true_eq_false, not_false_eq_true, and_self, Int.toNat_natCast, Nat.reduceAdd, Nat.reduceLeDiff, Nat.reduceLT, forall_eq', Option.some.injEq, zarR, zarI, zarL, zle, zq0, zq1, zq2, zq3, zq4, zq5, zq6, zq8, zq9, zq10, zq20, zq7, zq12, zq24, zq40, zq41, zq48, zq100, zq120, zq123, zq480, zq492, zq700, zq729, zq2187, zq2916, zq8748, ne_eq, Int.reduceEq, Int.reduceLT, Int.reduceLE, Int.reduceToNat, Int.reduceMul, Int.reduceAdd, Int.reduceNeg, zlc_ge, c3, wr_s (show k + 1 < 2147483647 by omega)]
          exact go _ _
  -- the weighing
  have wl_ : ∀ j all (h1 : zM), all + j = tg ac (nB T) → sI T ac nn nf m hd h h1 all → zE 40 (d + 2 * m + 3) Q 31 [some (zR (some 46)), some (zI ((m + 1 : Nat) : Int)), some (zI ((m * (tg ac (nB T) * nB T) : Nat) : Int)), some (zI all), none, none, none, none, none] [] G h1 (0, 0) := by
    intro j
    induction j with
    | zero =>
      intro all h1 hj hI
      have hj' : all = tg ac (nB T) := by omega
      subst hj'
      have e1 : h1 46 5 = ((tg ac (nB T) : Nat) : Int) := by
        rw [hI.1 _ _ (by decide) (by decide) (by omega) (by omega) (by omega) (by omega) (by omega) (by omega)]
        exact hP.2.1.2.1
      have pT1 : kT h1 49 T := kT_frame hP.1 (fun c i q1 q2 => hI.1 c i (by omega) (by omega) (by omega) (by omega) (by omega) (by omega) (by omega) (by omega))
      have pR1 : sR h1 T ac := ⟨fun b q => by rw [hI.1 _ _ (by decide) (by decide) (by omega) (by omega) (by omega) (by omega) (by omega) (by omega)]; exact hP.2.1.1.1 b q, fun b q => by rw [hI.1 _ _ (by decide) (by decide) (by omega) (by omega) (by omega) (by omega) (by omega) (by omega)]; exact hP.2.1.1.2 b q⟩
      rw [e40_31]
      simp only [e40_0, e40_1, e40_2, e40_5, e40_6, e40_7, e40_10, e40_11, e40_12, e40_13, e40_14, e40_15, e40_16, e40_19, e40_20, e40_21, e40_24, e40_27, e40_28, e40_29, e40_30, e40_32, e40_33, e40_36, e40_39, e40_40, e40_41, e40_42, e40_43, e40_46, e40_49, e40_52, e40_53, e40_54, e40_55, e40_56, e40_57, e40_60, e40_63, e40_65, e40_66, e40_70, e40_71, e40_74, e40_77, e40_79, e40_80, e40_81, e40_84, e40_85, e40_87, e40_88, e40_90, e40_93, e40_95, e40_97, e40_99, e40_100, e40_103, e40_105, e40_107, e40_109, e40_110, e40_113, e40_116, e40_118, e40_119, e40_120, e40_123, e40_124, e40_125, e40_128, e40_129, e40_132, e40_133, e40_134, e40_135, e40_138, e40_141, e40_142, e40_143, e40_144, e40_147, e40_148, e40_149, e40_150, e40_151, e40_154, e40_157, e40_160, e40_161, zs0, zsI, zsL, zsR, ztl1, ztl0, zc0, zcI, zcL, zcR, true_and, and_true, true_implies, false_implies, implies_true, not_true_eq_false, not_false_eq_true, and_self, Int.toNat_natCast, Nat.reduceAdd, Nat.reduceLeDiff, Nat.reduceLT, forall_eq', Option.some.injEq, zarR, zarI, zarL, zle, zq0, zq1, zq2, zq3, zq4, zq5, zq6, zq8, zq9, zq10, zq20, zq7, zq12, zq24, zq40, zq41, zq48, zq100, zq120, zq123, zq480, zq492, zq700, zq729, zq2187, zq2916, zq8748, ne_eq, Int.reduceEq, Int.reduceLT, Int.reduceLE, Int.reduceToNat, Int.reduceMul, Int.reduceAdd, Int.reduceNeg, gk46 hg, gr46_0 hg, gr46_1 hg, gr46_2 hg, gr46_3 hg, gr46_4 hg, gr46_6 hg, gr46_7 hg, gr46_8 hg, gr46_9 hg, gr46_10 hg, gr46_11 hg, gr46_12 hg, gr46_13 hg, e1, Int.le_refl]
      have pu := c_pull (d := d + 2 * m + 1) (all := 0) (w := rW T ac nn nf (m + 1) hd) (en := -9223372036854775808) (Q := fun v G' h' => zE 40 (d + 2 * m + 3) Q 63 [some (zR (some 46)), some (zI ((m + 1 : Nat) : Int)), some (zI ((m * (tg ac (nB T) * nB T) : Nat) : Int)), some (zI 0), none, none, none, none, none] (v.toList ++ []) G' h' (0, 0)) hg pT1 hw hc pR1 (by omega) (by omega) hI.2.1 hwb
      apply pu
      intro v hv
      have hv' : v = pull ac (nB T) (rW T ac nn nf (m + 1) hd) 0 := by
        rcases hv with hv | hv
        · exact hv
        · exact absurd rfl hv.1
      subst hv'
      simp only [e40_0, e40_1, e40_2, e40_5, e40_6, e40_7, e40_10, e40_11, e40_12, e40_13, e40_14, e40_15, e40_16, e40_19, e40_20, e40_21, e40_24, e40_27, e40_28, e40_29, e40_30, e40_32, e40_33, e40_36, e40_39, e40_40, e40_41, e40_42, e40_43, e40_46, e40_49, e40_52, e40_53, e40_54, e40_55, e40_56, e40_57, e40_60, e40_63, e40_65, e40_66, e40_70, e40_71, e40_74, e40_77, e40_79, e40_80, e40_81, e40_84, e40_85, e40_87, e40_88, e40_90, e40_93, e40_95, e40_97, e40_99, e40_100, e40_103, e40_105, e40_107, e40_109, e40_110, e40_113, e40_116, e40_118, e40_119, e40_120, e40_123, e40_124, e40_125, e40_128, e40_129, e40_132, e40_133, e40_134, e40_135, e40_138, e40_141, e40_142, e40_143, e40_144, e40_147, e40_148, e40_149, e40_150, e40_151, e40_154, e40_157, e40_160, e40_161, zs0, zsI, zsL, zsR, ztl1, ztl0, zc0, zcI, zcL, zcR, true_and, and_true, true_implies, false_implies, implies_true, not_true_eq_false, not_false_eq_true, and_self, Int.toNat_natCast, Nat.reduceAdd, Nat.reduceLeDiff, Nat.reduceLT, forall_eq', Option.some.injEq, zarR, zarI, zarL, zle, zq0, zq1, zq2, zq3, zq4, zq5, zq6, zq8, zq9, zq10, zq20, zq7, zq12, zq24, zq40, zq41, zq48, zq100, zq120, zq123, zq480, zq492, zq700, zq729, zq2187, zq2916, zq8748, ne_eq, Int.reduceEq, Int.reduceLT, Int.reduceLE, Int.reduceToNat, Int.reduceMul, Int.reduceAdd, Int.reduceNeg]
      exact cml (tg ac (nB T) - 1) 0 h1 _ _ (by omega) hI
    | succ j ih =>
      intro all h1 hj hI
      have e1 : h1 46 5 = ((tg ac (nB T) : Nat) : Int) := by
        rw [hI.1 _ _ (by decide) (by decide) (by omega) (by omega) (by omega) (by omega) (by omega) (by omega)]
        exact hP.2.1.2.1
      have c : ¬ ((tg ac (nB T) : Nat) : Int) ≤ all := by omega
      rw [e40_31]
      simp only [e40_0, e40_1, e40_2, e40_5, e40_6, e40_7, e40_10, e40_11, e40_12, e40_13, e40_14, e40_15, e40_16, e40_19, e40_20, e40_21, e40_24, e40_27, e40_28, e40_29, e40_30, e40_32, e40_33, e40_36, e40_39, e40_40, e40_41, e40_42, e40_43, e40_46, e40_49, e40_52, e40_53, e40_54, e40_55, e40_56, e40_57, e40_60, e40_63, e40_65, e40_66, e40_70, e40_71, e40_74, e40_77, e40_79, e40_80, e40_81, e40_84, e40_85, e40_87, e40_88, e40_90, e40_93, e40_95, e40_97, e40_99, e40_100, e40_103, e40_105, e40_107, e40_109, e40_110, e40_113, e40_116, e40_118, e40_119, e40_120, e40_123, e40_124, e40_125, e40_128, e40_129, e40_132, e40_133, e40_134, e40_135, e40_138, e40_141, e40_142, e40_143, e40_144, e40_147, e40_148, e40_149, e40_150, e40_151, e40_154, e40_157, e40_160, e40_161, zs0, zsI, zsL, zsR, ztl1, ztl0, zc0, zcI, zcL, zcR, true_and, and_true, true_implies, false_implies, implies_true, not_true_eq_false, not_false_eq_true, and_self, Int.toNat_natCast, Nat.reduceAdd, Nat.reduceLeDiff, Nat.reduceLT, forall_eq', Option.some.injEq, zarR, zarI, zarL, zle, zq0, zq1, zq2, zq3, zq4, zq5, zq6, zq8, zq9, zq10, zq20, zq7, zq12, zq24, zq40, zq41, zq48, zq100, zq120, zq123, zq480, zq492, zq700, zq729, zq2187, zq2916, zq8748, ne_eq, Int.reduceEq, Int.reduceLT, Int.reduceLE, Int.reduceToNat, Int.reduceMul, Int.reduceAdd, Int.reduceNeg, gk46 hg, gr46_0 hg, gr46_1 hg, gr46_2 hg, gr46_3 hg, gr46_4 hg, gr46_6 hg, gr46_7 hg, gr46_8 hg, gr46_9 hg, gr46_10 hg, gr46_11 hg, gr46_12 hg, gr46_13 hg, e1, c]
      apply c_weigh (d := d) hg hw hc hf hm hN b1 b2 (by omega) h20 hP SS (by omega) hI
      intro h2 hI2
      simp only [e40_0, e40_1, e40_2, e40_5, e40_6, e40_7, e40_10, e40_11, e40_12, e40_13, e40_14, e40_15, e40_16, e40_19, e40_20, e40_21, e40_24, e40_27, e40_28, e40_29, e40_30, e40_32, e40_33, e40_36, e40_39, e40_40, e40_41, e40_42, e40_43, e40_46, e40_49, e40_52, e40_53, e40_54, e40_55, e40_56, e40_57, e40_60, e40_63, e40_65, e40_66, e40_70, e40_71, e40_74, e40_77, e40_79, e40_80, e40_81, e40_84, e40_85, e40_87, e40_88, e40_90, e40_93, e40_95, e40_97, e40_99, e40_100, e40_103, e40_105, e40_107, e40_109, e40_110, e40_113, e40_116, e40_118, e40_119, e40_120, e40_123, e40_124, e40_125, e40_128, e40_129, e40_132, e40_133, e40_134, e40_135, e40_138, e40_141, e40_142, e40_143, e40_144, e40_147, e40_148, e40_149, e40_150, e40_151, e40_154, e40_157, e40_160, e40_161, zs0, zsI, zsL, zsR, ztl1, ztl0, zc0, zcI, zcL, zcR, true_and, and_true, true_implies, false_implies, implies_true, not_true_eq_false, not_false_eq_true, and_self, Int.toNat_natCast, Nat.reduceAdd, Nat.reduceLeDiff, Nat.reduceLT, forall_eq', Option.some.injEq, zarR, zarI, zarL, zle, zq0, zq1, zq2, zq3, zq4, zq5, zq6, zq8, zq9, zq10, zq20, zq7, zq12, zq24, zq40, zq41, zq48, zq100, zq120, zq123, zq480, zq492, zq700, zq729, zq2187, zq2916, zq8748, ne_eq, Int.reduceEq, Int.reduceLT, Int.reduceLE, Int.reduceToNat, Int.reduceMul, Int.reduceAdd, Int.reduceNeg, wr_s (show all < 2147483647 by omega)]
      exact ih (all + 1) h2 (by omega) hI2
  have I0 : sI T ac nn nf m hd h h 0 := by
    refine ⟨fun _ _ _ _ _ _ _ _ _ _ => rfl, fun a b q => by omega, fun _ a b q => by omega, hP.2.2.2.2.2, ?_⟩
    constructor
    · exact Or.inl
    · rintro (q | ⟨_, a, q, _⟩)
      · exact q
      · omega
  have st := wl_ (tg ac (nB T)) 0 h (by omega) I0
  have e1 := hP.1.1
  have e2 := hP.2.1.2.1
  have c1 : ¬ ((m + 1 : Nat) : Int) < 1 := by omega
  have c2 : ((m + 1 : Nat) : Int) ≤ 3 := by omega
  have wm : ((m + 1 : Nat) : Int) - 1 = (m : Int) := by omega
  have m1 : (m : Int) * ((tg ac (nB T) : Nat) : Int) = ((m * tg ac (nB T) : Nat) : Int) := (Int.natCast_mul _ _).symm
  have m2 : ((m * tg ac (nB T) : Nat) : Int) * (nB T : Int) = ((m * tg ac (nB T) * nB T : Nat) : Int) := (Int.natCast_mul _ _).symm
  have m3 : m * tg ac (nB T) * nB T = m * (tg ac (nB T) * nB T) := Nat.mul_assoc _ _ _
  have m4 : m * tg ac (nB T) ≤ 2 * 729 := Nat.mul_le_mul (by omega) tb.2
  rw [← m3] at st hsm
  clear wl_ cml fin
  generalize m * tg ac (nB T) = MT at *
  generalize MT * nB T = S at *
  simp only [e40_0, e40_1, e40_2, e40_5, e40_6, e40_7, e40_10, e40_11, e40_12, e40_13, e40_14, e40_15, e40_16, e40_19, e40_20, e40_21, e40_24, e40_27, e40_28, e40_29, e40_30, e40_32, e40_33, e40_36, e40_39, e40_40, e40_41, e40_42, e40_43, e40_46, e40_49, e40_52, e40_53, e40_54, e40_55, e40_56, e40_57, e40_60, e40_63, e40_65, e40_66, e40_70, e40_71, e40_74, e40_77, e40_79, e40_80, e40_81, e40_84, e40_85, e40_87, e40_88, e40_90, e40_93, e40_95, e40_97, e40_99, e40_100, e40_103, e40_105, e40_107, e40_109, e40_110, e40_113, e40_116, e40_118, e40_119, e40_120, e40_123, e40_124, e40_125, e40_128, e40_129, e40_132, e40_133, e40_134, e40_135, e40_138, e40_141, e40_142, e40_143, e40_144, e40_147, e40_148, e40_149, e40_150, e40_151, e40_154, e40_157, e40_160, e40_161, zs0, zsI, zsL, zsR, ztl1, ztl0, zc0, zcI, zcL, zcR, true_and, and_true, true_implies, false_implies, implies_true, not_true_eq_false, not_false_eq_true, and_self, Int.toNat_natCast, Nat.reduceAdd, Nat.reduceLeDiff, Nat.reduceLT, forall_eq', Option.some.injEq, zarR, zarI, zarL, zle, zq0, zq1, zq2, zq3, zq4, zq5, zq6, zq8, zq9, zq10, zq20, zq7, zq12, zq24, zq40, zq41, zq48, zq100, zq120, zq123, zq480, zq492, zq700, zq729, zq2187, zq2916, zq8748, ne_eq, Int.reduceEq, Int.reduceLT, Int.reduceLE, Int.reduceToNat, Int.reduceMul, Int.reduceAdd, Int.reduceNeg, gk46 hg, gr46_0 hg, gr46_1 hg, gr46_2 hg, gr46_3 hg, gr46_4 hg, gr46_6 hg, gr46_7 hg, gr46_8 hg, gr46_9 hg, gr46_10 hg, gr46_11 hg, gr46_12 hg, gr46_13 hg, gk49 hg, gr49_0 hg, gr49_1 hg, gr49_2 hg, gr49_3 hg, gr49_4 hg, gr49_5 hg, gr49_6 hg, gr49_7 hg, gr49_8 hg, c1, c2, wm, wr_id (z := (m : Int)) (by omega), e1, e2, m1, wrN (z := (MT : Int)) (m := MT) rfl (by omega), m2, wrN (z := (S : Int)) (m := S) rfl (by omega)]
  exact st
theorem c_settle (hg : gS G) (hw : wT T) (hc : acOk T ac) (hf : fB nn nf) : ∀ y, 1 ≤ y → y ≤ 3 → y * (tg ac (nB T) * nB T) ≤ 2187 → SP G T ac nn nf d y := by
  intro y
  induction y with
  | zero => intro q; omega
  | succ m ih =>
    intro _ q2 q3
    have hsm : (m + 1) * (tg ac (nB T) * nB T) = m * (tg ac (nB T) * nB T) + tg ac (nB T) * nB T := Nat.succ_mul _ _
    exact c_settle1 hg hw hc hf (by omega) q3 (fun hm0 => ih (by omega) (by omega) (by omega))
end SE
