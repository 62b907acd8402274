section PY
variable {d : Nat} {Q : zQ} {G : zG} {h : zM} {T : aTn} {own oth : Nat → Int} {Y : Nat} {sd : Int} {p : (Nat → Nat → Int) × Int} {B : Int}
theorem c_close (hg : gS G) (kt : kT h 18 T) (hw : wT T) (hY : h 38 0 = (Y : Int)) (h40 : Y < 40) {lf : Nat → Int} (hlf : ∀ s, s < nS T → h 36 s = lf s) (hb : ∀ k, k ≤ nS T → 0 ≤ sumL lf k ∧ sumL lf k ≤ 100000000) (K : ∀ h' : zM, (∀ c i, ¬ (c = 38 ∧ i = 0) → c < 39 ∨ 44 < c → h' c i = h c i) → h' 38 0 = ((Y + 1 : Nat) : Int) → (∀ i, i < (Y + 1) * 12 → h' 39 i = h 39 i) → (∀ i, i < 12 → h' 39 ((Y + 1) * 12 + i) = h 37 i) → (∀ i, i < (Y + 1) * 3 → h' 40 i = h 40 i ∧ h' 41 i = h 41 i) → (∀ b, b < 3 → h' 40 ((Y + 1) * 3 + b) = h 40 (Y * 3 + b) ∧ h' 41 ((Y + 1) * 3 + b) = h 41 (Y * 3 + b)) → (∀ i, ¬ i = Y + 1 → h' 42 i = h 42 i) → h' 42 (Y + 1) = sd → (∀ i, i < Y * 3 → h' 43 i = h 43 i) → (∀ b, b < 3 → h' 43 (Y * 3 + b) = h 34 b) → (∀ i, ¬ i = Y → h' 44 i = h 44 i) → h' 44 Y = sumL lf (nS T) → Q (some (zI (sumL lf (nS T)))) G h') : zRunD ztb zmt' (d + 1) 4 [zR (some 38), zR (some 16), zI sd] G h Q := by
  rw [r4]
  have hs4 := hw.2.1
  have e10 := kt.2.1
  have c40 : (Y : Int) < 40 := by omega
  have lp : ∀ j s, s + j = nS T → zE 4 d Q 16 [some (zR (some 38)), some (zR (some 16)), some (zI sd), some (zI (sumL lf s)), some (zI s)] [] G h (0, 0) := by
    intro j
    induction j with
    | zero =>
      intro s hs
      have hs' : s = nS T := by omega
      subst hs'
      have w1 : wr ((Y : Int) * 3) = ((Y * 3 : Nat) : Int) := wrN (by omega) (by omega)
      have w2 : wr ((Y : Int) + 1) = ((Y + 1 : Nat) : Int) := wr_s (by omega)
      have w3 : wr (((Y + 1 : Nat) : Int) * 3) = (((Y + 1) * 3 : Nat) : Int) := wrN (by omega) (by omega)
      have w4 : wr (((Y + 1 : Nat) : Int) * 12) = (((Y + 1) * 12 : Nat) : Int) := wrN (by omega) (by omega)
      have b1 : ((Y * 3 : Nat) : Int) + 3 ≤ 120 := by omega
      have b2 : ((Y * 3 : Nat) : Int) + 3 ≤ 123 := by omega
      have b3 : (((Y + 1) * 3 : Nat) : Int) + 3 ≤ 123 := by omega
      have b4 : (((Y + 1) * 12 : Nat) : Int) + 12 ≤ 492 := by omega
      have b5 : ((Y + 1 : Nat) : Int) < 41 := by omega
      rw [e4_16]
      simp only [e4_0, e4_1, e4_4, e4_6, e4_9, e4_10, e4_11, e4_12, e4_13, e4_14, e4_18, e4_19, e4_22, e4_25, e4_28, e4_29, e4_30, e4_33, e4_35, e4_36, e4_37, e4_38, e4_41, e4_44, e4_45, e4_48, e4_49, e4_52, e4_53, e4_54, e4_55, e4_58, e4_59, e4_60, e4_63, e4_64, e4_67, e4_68, e4_69, e4_70, e4_73, e4_74, e4_77, e4_78, e4_81, e4_82, e4_83, e4_84, e4_87, e4_88, e4_91, e4_92, e4_93, e4_94, e4_95, e4_96, e4_99, e4_100, e4_103, e4_104, e4_107, e4_108, e4_109, e4_110, e4_113, e4_114, e4_117, e4_118, e4_119, e4_120, e4_121, e4_122, e4_125, e4_126, e4_127, e4_130, e4_131, e4_132, e4_135, e4_136, e4_139, e4_140, e4_141, e4_144, e4_145, e4_148, e4_150, e4_151, e4_153, e4_156, e4_157, e4_160, e4_161, e4_164, e4_165, e4_166, e4_167, zs0, zsI, zsL, zsR, ztl1, ztl0, zc0, zcI, zcL, zcR, true_and, and_true, true_implies, false_implies, implies_true, not_true_eq_false, not_false_eq_true, and_self, Int.toNat_natCast, Nat.reduceAdd, Nat.reduceLeDiff, Nat.reduceLT, forall_eq', Option.some.injEq, zarR, zarI, zarL, zle, zq0, zq1, zq2, zq3, zq4, zq5, zq6, zq8, zq9, zq10, zq20, zq7, zq12, zq24, zq40, zq41, zq48, zq100, zq120, zq123, zq480, zq492, zq700, zq729, zq2187, zq2916, zq8748, ne_eq, Int.reduceEq, Int.reduceLT, Int.reduceLE, Int.reduceToNat, Int.reduceMul, Int.reduceAdd, Int.reduceNeg, gk38 hg, gr38_1 hg, gr38_2 hg, gr38_3 hg, gr38_4 hg, gr38_5 hg, gr38_6 hg, gk16 hg, gr16_0 hg, gr16_1 hg, gr16_2 hg, gr16_3 hg, gr16_4 hg, gr16_5 hg, gr16_6 hg, gr16_7 hg, gr16_8 hg, gk18 hg, gr18_0 hg, gr18_1 hg, gr18_2 hg, gr18_3 hg, gr18_4 hg, gr18_5 hg, gr18_6 hg, gr18_7 hg, gr18_8 hg, gk36 hg, gl36 hg, gk44 hg, gl44 hg, gk34 hg, gl34 hg, gk43 hg, gl43 hg, gk40 hg, gl40 hg, gk41 hg, gl41 hg, gk37 hg, gl37 hg, gk39 hg, gl39 hg, gk42 hg, gl42 hg, or_true, true_or, if_true, if_false, false_and, and_false, false_or, or_false, e10, Int.le_refl, zu_c (show ¬ 38 = 44 by decide), zcp_c (show ¬ 38 = 43 by decide), zcp_c (show ¬ 38 = 40 by decide), zcp_c (show ¬ 38 = 41 by decide), zcp_c (show ¬ 38 = 39 by decide), zu_at, hY, c40, w1, w2, w3, w4, b1, b2, b3, b4, b5]
      apply K
      · intro c i q1 q2
        rw [zu_c (by omega), zcp_c (by omega), zu, if_neg q1, zcp_c (by omega), zcp_c (by omega), zcp_c (by omega), zu_c (by omega)]
      · rw [zu_c (by decide), zcp_c (by decide), zu_at]
      · intro i hi
        rw [zu_c (by decide), zcp_o (by omega), zu_c (by decide), zcp_c (by decide), zcp_c (by decide), zcp_c (by decide), zu_c (by decide)]
      · intro i hi
        rw [zu_c (by decide), zcp_i hi, zu_c (by decide), zcp_c (by decide), zcp_c (by decide), zcp_c (by decide), zu_c (by decide), Nat.zero_add]
      · intro i hi
        constructor
        · rw [zu_c (by decide), zcp_c (by decide), zu_c (by decide), zcp_c (by decide), zcp_o (by omega), zcp_c (by decide), zu_c (by decide)]
        · rw [zu_c (by decide), zcp_c (by decide), zu_c (by decide), zcp_o (by omega), zcp_c (by decide), zcp_c (by decide), zu_c (by decide)]
      · intro b hb
        constructor
        · rw [zu_c (by decide), zcp_c (by decide), zu_c (by decide), zcp_c (by decide), zcp_i hb, zcp_c (by decide), zu_c (by decide)]
        · rw [zu_c (by decide), zcp_c (by decide), zu_c (by decide), zcp_i hb, zcp_c (by decide), zcp_c (by decide), zu_c (by decide)]
      · intro i hi
        rw [zu_i hi, zcp_c (by decide), zu_c (by decide), zcp_c (by decide), zcp_c (by decide), zcp_c (by decide), zu_c (by decide)]
      · exact zu_at
      · intro i hi
        rw [zu_c (by decide), zcp_c (by decide), zu_c (by decide), zcp_c (by decide), zcp_c (by decide), zcp_o (by omega), zu_c (by decide)]
      · intro b hb
        rw [zu_c (by decide), zcp_c (by decide), zu_c (by decide), zcp_c (by decide), zcp_c (by decide), zcp_i hb, zu_c (by decide), Nat.zero_add]
      · intro i hi
        rw [zu_c (by decide), zcp_c (by decide), zu_c (by decide), zcp_c (by decide), zcp_c (by decide), zcp_c (by decide), zu_i hi]
      · rw [zu_c (by decide), zcp_c (by decide), zu_c (by decide), zcp_c (by decide), zcp_c (by decide), zcp_c (by decide), zu_at]
    | succ j ih =>
      intro s hs
      have c : ¬ (nS T : Int) ≤ s := by omega
      have s4 : (s : Int) < 4 := by omega
      have el := hlf s (by omega)
      have b1 := hb (s + 1) (by omega)
      unfold sumL at b1
      have w : wr (sumL lf s + lf s) = sumL lf s + lf s := wr_id (by omega)
      rw [e4_16]
      simp only [e4_0, e4_1, e4_4, e4_6, e4_9, e4_10, e4_11, e4_12, e4_13, e4_14, e4_18, e4_19, e4_22, e4_25, e4_28, e4_29, e4_30, e4_33, e4_35, e4_36, e4_37, e4_38, e4_41, e4_44, e4_45, e4_48, e4_49, e4_52, e4_53, e4_54, e4_55, e4_58, e4_59, e4_60, e4_63, e4_64, e4_67, e4_68, e4_69, e4_70, e4_73, e4_74, e4_77, e4_78, e4_81, e4_82, e4_83, e4_84, e4_87, e4_88, e4_91, e4_92, e4_93, e4_94, e4_95, e4_96, e4_99, e4_100, e4_103, e4_104, e4_107, e4_108, e4_109, e4_110, e4_113, e4_114, e4_117, e4_118, e4_119, e4_120, e4_121, e4_122, e4_125, e4_126, e4_127, e4_130, e4_131, e4_132, e4_135, e4_136, e4_139, e4_140, e4_141, e4_144, e4_145, e4_148, e4_150, e4_151, e4_153, e4_156, e4_157, e4_160, e4_161, e4_164, e4_165, e4_166, e4_167, zs0, zsI, zsL, zsR, ztl1, ztl0, zc0, zcI, zcL, zcR, true_and, and_true, true_implies, false_implies, implies_true, not_true_eq_false, not_false_eq_true, and_self, Int.toNat_natCast, Nat.reduceAdd, Nat.reduceLeDiff, Nat.reduceLT, forall_eq', Option.some.injEq, zarR, zarI, zarL, zle, zq0, zq1, zq2, zq3, zq4, zq5, zq6, zq8, zq9, zq10, zq20, zq7, zq12, zq24, zq40, zq41, zq48, zq100, zq120, zq123, zq480, zq492, zq700, zq729, zq2187, zq2916, zq8748, ne_eq, Int.reduceEq, Int.reduceLT, Int.reduceLE, Int.reduceToNat, Int.reduceMul, Int.reduceAdd, Int.reduceNeg, gk16 hg, gr16_0 hg, gr16_1 hg, gr16_2 hg, gr16_3 hg, gr16_4 hg, gr16_5 hg, gr16_6 hg, gr16_7 hg, gr16_8 hg, gk18 hg, gr18_0 hg, gr18_1 hg, gr18_2 hg, gr18_3 hg, gr18_4 hg, gr18_5 hg, gr18_6 hg, gr18_7 hg, gr18_8 hg, gk36 hg, gl36 hg, or_true, true_or, if_true, if_false, false_and, and_false, false_or, or_false, e10, c, s4, el, w, wr_s (show s < 2147483647 by omega)]
      exact ih (s + 1) (by omega)
  simp only [e4_0, e4_1, e4_4, e4_6, e4_9, e4_10, e4_11, e4_12, e4_13, e4_14, e4_18, e4_19, e4_22, e4_25, e4_28, e4_29, e4_30, e4_33, e4_35, e4_36, e4_37, e4_38, e4_41, e4_44, e4_45, e4_48, e4_49, e4_52, e4_53, e4_54, e4_55, e4_58, e4_59, e4_60, e4_63, e4_64, e4_67, e4_68, e4_69, e4_70, e4_73, e4_74, e4_77, e4_78, e4_81, e4_82, e4_83, e4_84, e4_87, e4_88, e4_91, e4_92, e4_93, e4_94, e4_95, e4_96, e4_99, e4_100, e4_103, e4_104, e4_107, e4_108, e4_109, e4_110, e4_113, e4_114, e4_117, e4_118, e4_119, e4_120, e4_121, e4_122, e4_125, e4_126, e4_127, e4_130, e4_131, e4_132, e4_135, e4_136, e4_139, e4_140, e4_141, e4_144, e4_145, e4_148, e4_150, e4_151, e4_153, e4_156, e4_157, e4_160, e4_161, e4_164, e4_165, e4_166, e4_167, zs0, zsI, zsL, zsR, ztl1, ztl0, zc0, zcI, zcL, zcR, true_and, and_true, true_implies, false_implies, implies_true, not_true_eq_false, not_false_eq_true, and_self, Int.toNat_natCast, Nat.reduceAdd, Nat.reduceLeDiff, Nat.reduceLT, forall_eq', Option.some.injEq, zarR, zarI, zarL, zle, zq0, zq1, zq2, zq3, zq4, zq5, zq6, zq8, zq9, zq10, zq20, zq7, zq12, zq24, zq40, zq41, zq48, zq100, zq120, zq123, zq480, zq492, zq700, zq729, zq2187, zq2916, zq8748, ne_eq, Int.reduceEq, Int.reduceLT, Int.reduceLE, Int.reduceToNat, Int.reduceMul, Int.reduceAdd, Int.reduceNeg, gk38 hg, gr38_1 hg, gr38_2 hg, gr38_3 hg, gr38_4 hg, gr38_5 hg, gr38_6 hg, or_true, true_or, if_true, if_false, false_and, and_false, false_or, or_false, hY, c40]
  exact lp (nS T) 0 (by omega)
theorem c_passYear (hg : gS G) (kt : kT h 18 T) (hw : wT T) (ho : ∀ t, t < nB T → h 28 t = own t) (hh : ∀ t, t < nB T → h 29 t = oth t) (bo : bP own) (bn : bP oth) (hch : ∀ s, s < nS T → h 45 s = aPk T own oth s) (hY : h 38 0 = (Y : Int)) (h40 : Y < 40) (hp : pOk T p B) (hB : B + 100 ≤ 2000000) (hheld : ∀ s b, s < nS T → b < 3 → h 39 (Y * 12 + b * 4 + s) = p.1 s b) (hsd : h 42 Y = p.2) (K : ∀ h' : zM, (∀ c i, ¬ (c = 38 ∧ i = 0) → c < 39 ∨ 44 < c → c < 31 ∨ 37 < c → h' c i = h c i) → h' 38 0 = ((Y + 1 : Nat) : Int) → (∀ i, i < (Y + 1) * 12 → h' 39 i = h 39 i) → (∀ s b, s < nS T → b < 3 → h' 39 ((Y + 1) * 12 + b * 4 + s) = (yNx T own oth p).1 s b) → (∀ i, i < (Y + 1) * 3 → h' 40 i = h 40 i ∧ h' 41 i = h 41 i) → (∀ b, b < 3 → h' 40 ((Y + 1) * 3 + b) = h 40 (Y * 3 + b) ∧ h' 41 ((Y + 1) * 3 + b) = h 41 (Y * 3 + b)) → (∀ i, ¬ i = Y + 1 → h' 42 i = h 42 i) → h' 42 (Y + 1) = (yNx T own oth p).2 → (∀ i, i < Y * 3 → h' 43 i = h 43 i) → (∀ b, b < 3 → h' 43 (Y * 3 + b) = yE T own oth p b) → (∀ i, ¬ i = Y → h' 44 i = h 44 i) → h' 44 Y = yL T own oth p → Q (some (zI (yL T own oth p))) G h') : zRunD ztb zmt' (d + 3) 69 [zR (some 0)] G h Q := by
  rw [r69]
  have hs4 := hw.2.1
  have hb3 := hw.1
  have nok := yN_ok hw hp hB
  have c41 : (Y : Int) < 41 := by omega
  have lp : ∀ j s (h1 : zM) (l3 : Option zV), s + j = nS T → (∀ c i, ¬ c = 31 → ¬ c = 32 → h1 c i = h c i) → (∀ i, i < s → h1 31 i = nnN T p.2 i) → (∀ i, i < s → h1 32 i = nfN T p.2 i) → zE 69 (d + 2) Q 18 [some (zR (some 0)), some (zI (sdN p.2 s)), some (zI s), l3] [] G h1 (0, 0) := by
    intro j
    induction j with
    | zero =>
      intro s h1 l3 hs f m1 m2
      have hs' : s = nS T := by omega
      subst hs'
      have kt1 : kT h1 18 T := kT_frame kt (fun c i q1 q2 => f c i (by omega) (by omega))
      have e10 := kt1.2.1
      have hY1 : h1 38 0 = (Y : Int) := by rw [f _ _ (by decide) (by decide)]; exact hY
      have w1 : wr ((Y : Int) * 12) = ((Y * 12 : Nat) : Int) := wrN (by omega) (by omega)
      rw [e69_18]
      simp only [e69_19, e69_20, e69_23, e69_26, e69_29, e69_30, e69_33, e69_36, e69_37, e69_38, e69_39, e69_40, e69_43, e69_45, e69_46, e69_47, e69_49, e69_50, e69_52, e69_53, e69_54, e69_55, e69_56, e69_57, e69_58, e69_59, e69_60, e69_61, e69_62, e69_65, e69_66, e69_67, e69_70, e69_71, e69_72, e69_73, e69_76, e69_79, e69_80, e69_81, e69_82, e69_85, e69_86, e69_89, e69_90, e69_93, e69_94, e69_97, e69_100, e69_101, e69_104, e69_105, e69_108, e69_111, e69_112, e69_115, e69_118, e69_120, e69_121, e69_122, e69_125, e69_126, zs0, zsI, zsL, zsR, ztl1, ztl0, zc0, zcI, zcL, zcR, true_and, and_true, true_implies, false_implies, implies_true, not_true_eq_false, not_false_eq_true, and_self, Int.toNat_natCast, Nat.reduceAdd, Nat.reduceLeDiff, Nat.reduceLT, forall_eq', Option.some.injEq, zarR, zarI, zarL, zle, zq0, zq1, zq2, zq3, zq4, zq5, zq6, zq8, zq9, zq10, zq20, zq7, zq12, zq24, zq40, zq41, zq48, zq100, zq120, zq123, zq480, zq492, zq700, zq729, zq2187, zq2916, zq8748, ne_eq, Int.reduceEq, Int.reduceLT, Int.reduceLE, Int.reduceToNat, Int.reduceMul, Int.reduceAdd, Int.reduceNeg, gk0 hg, gr0_0 hg, gr0_2 hg, gr0_3 hg, gr0_4 hg, gr0_5 hg, gr0_6 hg, gr0_7 hg, gr0_8 hg, gr0_9 hg, gr0_10 hg, gk18 hg, gr18_0 hg, gr18_1 hg, gr18_2 hg, gr18_3 hg, gr18_4 hg, gr18_5 hg, gr18_6 hg, gr18_7 hg, gr18_8 hg, gk38 hg, gr38_1 hg, gr38_2 hg, gr38_3 hg, gr38_4 hg, gr38_5 hg, gr38_6 hg, gk16 hg, gr16_0 hg, gr16_1 hg, gr16_2 hg, gr16_3 hg, gr16_4 hg, gr16_5 hg, gr16_6 hg, gr16_7 hg, gr16_8 hg, e10, Int.le_refl, hY1, w1]
      rw [show (0 : Int) = ((0 : Nat) : Int) from rfl]
      apply c_pass16 (n := yN T p) (to := aTo T own oth) (own := own) (oth := oth) hg kt1 hw (fun t ht => by rw [f _ _ (by decide) (by decide)]; exact ho t ht) (fun t ht => by rw [f _ _ (by decide) (by decide)]; exact hh t ht) bo bn nok (gk39 hg) (by rw [gl39 hg]; omega) (by omega) (by omega) (gk45 hg) (by rw [gl45 hg]; omega) (by omega) (by omega)
      · intro s k q1 q2
        rw [f _ _ (by decide) (by decide), hheld s k q1 q2]
        unfold yN aN
        rw [if_pos q2]
      · intro s q1
        rw [m1 s q1]
        rfl
      · intro s q1
        rw [m2 s q1]
        rfl
      · intro s k q1 q2 q3
        rw [f _ _ (by decide) (by decide), Nat.zero_add, hch s q1]
        apply aPk_to hw
        by_cases q4 : k = 2 ∧ nB T = 2
        · have q5 : yN T p s 2 = p.1 s 2 := rfl
          rw [q4.1, q5, hp.2.2 q4.2 s] at q3
          omega
        · omega
      · intro s k q1 q2 q3
        by_cases q4 : k = 2 ∧ nB T = 2
        · have q5 : yN T p s 2 = p.1 s 2 := rfl
          rw [q4.1, q5, hp.2.2 q4.2 s] at q3
          omega
        · have b2 := aCh_b hw (own := own) (oth := oth) (s := s) (far := 0) (f := 3) (Or.inl rfl)
          have b4 := aCh_b hw (own := own) (oth := oth) (s := s) (far := 1) (f := 3) (Or.inl rfl)
          unfold aTo
          split
          · have b1 := aCh_b hw (own := own) (oth := oth) (s := s) (far := tr T 7 s) (f := k) (Or.inr (by omega))
            omega
          · split <;> omega
      · intro h2 g0 g1 g2 g3 g4
        have kt2 : kT h2 18 T := kT_frame kt1 (fun c i q1 q2 => g0 c i (by omega))
        simp only [e69_129, e69_130, e69_133, e69_134, e69_137, e69_138, zs0, zsI, zsL, zsR, ztl1, ztl0, zc0, zcI, zcL, zcR, true_and, and_true, true_implies, false_implies, implies_true, not_true_eq_false, not_false_eq_true, and_self, Int.toNat_natCast, Nat.reduceAdd, Nat.reduceLeDiff, Nat.reduceLT, forall_eq', Option.some.injEq, zarR, zarI, zarL, zle, zq0, zq1, zq2, zq3, zq4, zq5, zq6, zq8, zq9, zq10, zq20, zq7, zq12, zq24, zq40, zq41, zq48, zq100, zq120, zq123, zq480, zq492, zq700, zq729, zq2187, zq2916, zq8748, ne_eq, Int.reduceEq, Int.reduceLT, Int.reduceLE, Int.reduceToNat, Int.reduceMul, Int.reduceAdd, Int.reduceNeg, gk0 hg, gr0_0 hg, gr0_2 hg, gr0_3 hg, gr0_4 hg, gr0_5 hg, gr0_6 hg, gr0_7 hg, gr0_8 hg, gr0_9 hg, gr0_10 hg, gk38 hg, gr38_1 hg, gr38_2 hg, gr38_3 hg, gr38_4 hg, gr38_5 hg, gr38_6 hg]
        apply c_close (d := d + 1) (lf := fun s => aLeft (yN T p) (aTo T own oth) s 5) hg kt2 hw (Y := Y) (by rw [g0 _ _ (by omega)]; exact hY1) h40 g1 (fun k hk => by have := yL_b (own := own) (oth := oth) hw nok k; omega)
        intro h3 k0 k1 k2 k3 k4 k5 k6 k7 k8 k9 k10 k11
        have hf : ∀ c i, c < 31 ∨ 37 < c → h2 c i = h c i := fun c i q => by rw [g0 c i (by omega), f c i (by omega) (by omega)]
        simp only [e69_141, zs0, zsI, zsL, zsR, ztl1, ztl0, zc0, zcI, zcL, zcR, true_and, and_true, true_implies, false_implies, implies_true, not_true_eq_false, not_false_eq_true, and_self, Int.toNat_natCast, Nat.reduceAdd, Nat.reduceLeDiff, Nat.reduceLT, forall_eq', Option.some.injEq, zarR, zarI, zarL, zle, zq0, zq1, zq2, zq3, zq4, zq5, zq6, zq8, zq9, zq10, zq20, zq7, zq12, zq24, zq40, zq41, zq48, zq100, zq120, zq123, zq480, zq492, zq700, zq729, zq2187, zq2916, zq8748, ne_eq, Int.reduceEq, Int.reduceLT, Int.reduceLE, Int.reduceToNat, Int.reduceMul, Int.reduceAdd, Int.reduceNeg]
        apply K h3
        · intro c i q1 q2 q3
          rw [k0 c i q1 q2, hf c i q3]
        · exact k1
        · intro i hi
          rw [k2 i hi, hf _ _ (by omega)]
        · intro s b q1 q2
          rw [show (Y + 1) * 12 + b * 4 + s = (Y + 1) * 12 + (b * 4 + s) by omega, k3 _ (by omega), g4 b s q2 q1]
          unfold yNx
          dsimp only
          rw [if_pos q1]
        · intro i hi
          rw [(k4 i hi).1, (k4 i hi).2, hf _ _ (by omega), hf _ _ (by omega)]
          exact ⟨rfl, rfl⟩
        · intro b hb
          rw [(k5 b hb).1, (k5 b hb).2, hf _ _ (by omega), hf _ _ (by omega)]
          exact ⟨rfl, rfl⟩
        · intro i hi
          rw [k6 i hi, hf _ _ (by omega)]
        · rw [k7]
          rfl
        · intro i hi
          rw [k8 i hi, hf _ _ (by omega)]
        · intro b hb
          rw [k9 b hb, g3 b hb]
          rfl
        · intro i hi
          rw [k10 i hi, hf _ _ (by omega)]
        · rw [k11]
          rfl
    | succ j ih =>
      intro s h1 l3 hs f m1 m2
      have kt1 : kT h1 18 T := kT_frame kt (fun c i q1 q2 => f c i (by omega) (by omega))
      have e10 := kt1.2.1
      have c : ¬ (nS T : Int) ≤ s := by omega
      have s4 : (s : Int) < 4 := by omega
      have b3 := (hw.2.2.2.2.2 s).2.2.2.1
      have b7 := (hw.2.2.2.2.2 s).2.2.2.2.2.2.2.1
      have e3 := kt1.2.2.2.2.2.2.2.2.1 s (by omega)
      have e7 := kt1.2.2.2.2.2.2.2.2.2.2.2.2.1 s (by omega)
      have sb := sdN_b hp.2.1 s
      have sb1 := sdN_b hp.2.1 (s + 1)
      have fb := frN_b hw hp.2.1 s
      have rest : ∀ s1 fr : Int, s1 = sdN p.2 (s + 1) → fr = frN T p.2 s → zE 69 (d + 2) Q 66 [some (zR (some 0)), some (zI s1), some (zI s), some (zI fr)] [] G h1 (0, 0) := by
        intro s1 fr hs1 hfr
        have nxt : ∀ r : Int, r = nfN T p.2 s → zE 69 (d + 2) Q 18 [some (zR (some 0)), some (zI s1), some (zI ((s + 1 : Nat) : Int)), some (zI fr)] [] G (zu (zu h1 32 s r) 31 s (fr - r)) (0, 0) := by
          intro r hr
          rw [hs1]
          apply ih (s + 1) _ _ (by omega)
          · intro c i q1 q2
            rw [zu_c q1, zu_c q2]
            exact f c i q1 q2
          · intro i hi
            by_cases q : i = s
            · subst q
              rw [zu_at, hr, hfr]
              rfl
            · rw [zu_i (by omega), zu_c (by decide)]
              exact m1 i (by omega)
          · intro i hi
            rw [zu_c (by decide)]
            by_cases q : i = s
            · subst q
              rw [zu_at, hr]
            · rw [zu_i (by omega)]
              exact m2 i (by omega)
        rcases b7 with b7 | b7
        · have cb := fun Q' => c_bring16 (d := d + 1) (Q := Q') (h := h1) hg (s := s) (f := fr) (r := 0) (by omega) (by omega) (by omega)
          rw [b7] at e7
          simp only [e69_0, e69_1, e69_4, e69_7, e69_8, e69_11, e69_14, e69_15, e69_16, e69_17, e69_19, e69_20, e69_23, e69_26, e69_29, e69_30, e69_33, e69_36, e69_37, e69_38, e69_39, e69_40, e69_43, e69_45, e69_46, e69_47, e69_49, e69_50, e69_52, e69_53, e69_54, e69_55, e69_56, e69_57, e69_58, e69_59, e69_60, e69_61, e69_62, e69_65, e69_66, e69_67, e69_70, e69_71, e69_72, e69_73, e69_76, e69_79, e69_80, e69_81, e69_82, e69_85, e69_86, e69_89, e69_90, e69_93, e69_94, e69_97, e69_100, e69_101, e69_104, e69_105, e69_108, e69_111, e69_112, e69_115, e69_118, e69_120, e69_121, e69_122, e69_125, e69_126, e69_129, e69_130, e69_133, e69_134, e69_137, e69_138, e69_141, zs0, zsI, zsL, zsR, ztl1, ztl0, zc0, zcI, zcL, zcR, true_and, and_true, true_implies, false_implies, implies_true, not_true_eq_false, not_false_eq_true, and_self, Int.toNat_natCast, Nat.reduceAdd, Nat.reduceLeDiff, Nat.reduceLT, forall_eq', Option.some.injEq, zarR, zarI, zarL, zle, zq0, zq1, zq2, zq3, zq4, zq5, zq6, zq8, zq9, zq10, zq20, zq7, zq12, zq24, zq40, zq41, zq48, zq100, zq120, zq123, zq480, zq492, zq700, zq729, zq2187, zq2916, zq8748, ne_eq, Int.reduceEq, Int.reduceLT, Int.reduceLE, Int.reduceToNat, Int.reduceMul, Int.reduceAdd, Int.reduceNeg, gk0 hg, gr0_0 hg, gr0_2 hg, gr0_3 hg, gr0_4 hg, gr0_5 hg, gr0_6 hg, gr0_7 hg, gr0_8 hg, gr0_9 hg, gr0_10 hg, gk16 hg, gr16_0 hg, gr16_1 hg, gr16_2 hg, gr16_3 hg, gr16_4 hg, gr16_5 hg, gr16_6 hg, gr16_7 hg, gr16_8 hg, gk18 hg, gr18_0 hg, gr18_1 hg, gr18_2 hg, gr18_3 hg, gr18_4 hg, gr18_5 hg, gr18_6 hg, gr18_7 hg, gr18_8 hg, gk26 hg, gl26 hg, or_true, true_or, if_true, if_false, false_and, and_false, false_or, or_false, s4, e7, cb, wr_s (show s < 2147483647 by omega)]
          exact nxt 0 (by unfold nfN; rw [b7]; rfl)
        · have cb := fun Q' => c_bring16 (d := d + 1) (Q := Q') (h := h1) hg (s := s) (f := fr) (r := fr) (by omega) (by omega) (by omega)
          rw [b7] at e7
          simp only [e69_0, e69_1, e69_4, e69_7, e69_8, e69_11, e69_14, e69_15, e69_16, e69_17, e69_19, e69_20, e69_23, e69_26, e69_29, e69_30, e69_33, e69_36, e69_37, e69_38, e69_39, e69_40, e69_43, e69_45, e69_46, e69_47, e69_49, e69_50, e69_52, e69_53, e69_54, e69_55, e69_56, e69_57, e69_58, e69_59, e69_60, e69_61, e69_62, e69_65, e69_66, e69_67, e69_70, e69_71, e69_72, e69_73, e69_76, e69_79, e69_80, e69_81, e69_82, e69_85, e69_86, e69_89, e69_90, e69_93, e69_94, e69_97, e69_100, e69_101, e69_104, e69_105, e69_108, e69_111, e69_112, e69_115, e69_118, e69_120, e69_121, e69_122, e69_125, e69_126, e69_129, e69_130, e69_133, e69_134, e69_137, e69_138, e69_141, zs0, zsI, zsL, zsR, ztl1, ztl0, zc0, zcI, zcL, zcR, true_and, and_true, true_implies, false_implies, implies_true, not_true_eq_false, not_false_eq_true, and_self, Int.toNat_natCast, Nat.reduceAdd, Nat.reduceLeDiff, Nat.reduceLT, forall_eq', Option.some.injEq, zarR, zarI, zarL, zle, zq0, zq1, zq2, zq3, zq4, zq5, zq6, zq8, zq9, zq10, zq20, zq7, zq12, zq24, zq40, zq41, zq48, zq100, zq120, zq123, zq480, zq492, zq700, zq729, zq2187, zq2916, zq8748, ne_eq, Int.reduceEq, Int.reduceLT, Int.reduceLE, Int.reduceToNat, Int.reduceMul, Int.reduceAdd, Int.reduceNeg, gk0 hg, gr0_0 hg, gr0_2 hg, gr0_3 hg, gr0_4 hg, gr0_5 hg, gr0_6 hg, gr0_7 hg, gr0_8 hg, gr0_9 hg, gr0_10 hg, gk16 hg, gr16_0 hg, gr16_1 hg, gr16_2 hg, gr16_3 hg, gr16_4 hg, gr16_5 hg, gr16_6 hg, gr16_7 hg, gr16_8 hg, gk18 hg, gr18_0 hg, gr18_1 hg, gr18_2 hg, gr18_3 hg, gr18_4 hg, gr18_5 hg, gr18_6 hg, gr18_7 hg, gr18_8 hg, gk26 hg, gl26 hg, or_true, true_or, if_true, if_false, false_and, and_false, false_or, or_false, s4, e7, cb, wr_s (show s < 2147483647 by omega)]
          exact nxt fr (by unfold nfN; rw [b7, if_pos rfl, hfr])
      rw [e69_18]
      by_cases hz : sdN p.2 s ≤ 0
      · simp only [e69_0, e69_1, e69_4, e69_7, e69_8, e69_11, e69_14, e69_15, e69_16, e69_17, e69_19, e69_20, e69_23, e69_26, e69_29, e69_30, e69_33, e69_36, e69_37, e69_38, e69_39, e69_40, e69_43, e69_45, e69_46, e69_47, e69_49, e69_50, e69_52, e69_53, e69_54, e69_55, e69_56, e69_57, e69_58, e69_59, e69_60, e69_61, e69_62, e69_65, e69_67, e69_70, e69_71, e69_72, e69_73, e69_76, e69_79, e69_80, e69_81, e69_82, e69_85, e69_86, e69_89, e69_90, e69_93, e69_94, e69_97, e69_100, e69_101, e69_104, e69_105, e69_108, e69_111, e69_112, e69_115, e69_118, e69_120, e69_121, e69_122, e69_125, e69_126, e69_129, e69_130, e69_133, e69_134, e69_137, e69_138, e69_141, zs0, zsI, zsL, zsR, ztl1, ztl0, zc0, zcI, zcL, zcR, true_and, and_true, true_implies, false_implies, implies_true, not_true_eq_false, not_false_eq_true, and_self, Int.toNat_natCast, Nat.reduceAdd, Nat.reduceLeDiff, Nat.reduceLT, forall_eq', Option.some.injEq, zarR, zarI, zarL, zle, zq0, zq1, zq2, zq3, zq4, zq5, zq6, zq8, zq9, zq10, zq20, zq7, zq12, zq24, zq40, zq41, zq48, zq100, zq120, zq123, zq480, zq492, zq700, zq729, zq2187, zq2916, zq8748, ne_eq, Int.reduceEq, Int.reduceLT, Int.reduceLE, Int.reduceToNat, Int.reduceMul, Int.reduceAdd, Int.reduceNeg, gk0 hg, gr0_0 hg, gr0_2 hg, gr0_3 hg, gr0_4 hg, gr0_5 hg, gr0_6 hg, gr0_7 hg, gr0_8 hg, gr0_9 hg, gr0_10 hg, gk18 hg, gr18_0 hg, gr18_1 hg, gr18_2 hg, gr18_3 hg, gr18_4 hg, gr18_5 hg, gr18_6 hg, gr18_7 hg, gr18_8 hg, gk22 hg, gl22 hg, e10, c, s4, e3, hz]
        apply rest
        · unfold sdN
          rw [if_neg (by omega)]
          cases s <;> rfl
        · unfold frN
          rw [if_neg (by omega)]
      · have w1 : wr (75 * sdN p.2 s) = 75 * sdN p.2 s := wr_id (by omega)
        have w2 : wr (75 * sdN p.2 s + 74) = 75 * sdN p.2 s + 74 := wr_id (by omega)
        have w3 : (75 * sdN p.2 s + 74).tmod 65537 = sdN p.2 (s + 1) := by
          rw [Int.tmod_eq_emod_of_nonneg (by omega), sdN, if_pos (by omega)]
        have w4 : (sdN p.2 (s + 1)).tmod 3 = sdN p.2 (s + 1) % 3 := Int.tmod_eq_emod_of_nonneg (by omega)
        have w5 : wr (tr T 3 s + sdN p.2 (s + 1) % 3) = tr T 3 s + sdN p.2 (s + 1) % 3 := wr_id (by omega)
        have w6 : wr (tr T 3 s + sdN p.2 (s + 1) % 3 - 1) = tr T 3 s + sdN p.2 (s + 1) % 3 - 1 := wr_id (by omega)
        simp only [e69_0, e69_1, e69_4, e69_7, e69_8, e69_11, e69_14, e69_15, e69_16, e69_17, e69_19, e69_20, e69_23, e69_26, e69_29, e69_30, e69_33, e69_36, e69_37, e69_38, e69_39, e69_40, e69_43, e69_45, e69_46, e69_47, e69_49, e69_50, e69_52, e69_53, e69_54, e69_55, e69_56, e69_57, e69_58, e69_59, e69_60, e69_61, e69_62, e69_65, e69_67, e69_70, e69_71, e69_72, e69_73, e69_76, e69_79, e69_80, e69_81, e69_82, e69_85, e69_86, e69_89, e69_90, e69_93, e69_94, e69_97, e69_100, e69_101, e69_104, e69_105, e69_108, e69_111, e69_112, e69_115, e69_118, e69_120, e69_121, e69_122, e69_125, e69_126, e69_129, e69_130, e69_133, e69_134, e69_137, e69_138, e69_141, zs0, zsI, zsL, zsR, ztl1, ztl0, zc0, zcI, zcL, zcR, true_and, and_true, true_implies, false_implies, implies_true, not_true_eq_false, not_false_eq_true, and_self, Int.toNat_natCast, Nat.reduceAdd, Nat.reduceLeDiff, Nat.reduceLT, forall_eq', Option.some.injEq, zarR, zarI, zarL, zle, zq0, zq1, zq2, zq3, zq4, zq5, zq6, zq8, zq9, zq10, zq20, zq7, zq12, zq24, zq40, zq41, zq48, zq100, zq120, zq123, zq480, zq492, zq700, zq729, zq2187, zq2916, zq8748, ne_eq, Int.reduceEq, Int.reduceLT, Int.reduceLE, Int.reduceToNat, Int.reduceMul, Int.reduceAdd, Int.reduceNeg, gk0 hg, gr0_0 hg, gr0_2 hg, gr0_3 hg, gr0_4 hg, gr0_5 hg, gr0_6 hg, gr0_7 hg, gr0_8 hg, gr0_9 hg, gr0_10 hg, gk18 hg, gr18_0 hg, gr18_1 hg, gr18_2 hg, gr18_3 hg, gr18_4 hg, gr18_5 hg, gr18_6 hg, gr18_7 hg, gr18_8 hg, gk22 hg, gl22 hg, e10, c, s4, e3, hz, w1, w2, w3, w4, w5, w6, s_max]
        apply rest
        · rfl
        · unfold frN
          rw [if_pos (by omega)]
  have l0 := fun l3 => lp (nS T) 0 h l3 (by omega) (fun _ _ _ _ => rfl) (fun i hi => by omega) (fun i hi => by omega)
  simp only [e69_0, e69_1, e69_4, e69_7, e69_8, e69_11, e69_14, e69_15, e69_16, e69_17, e69_19, e69_20, e69_23, e69_26, e69_29, e69_30, e69_33, e69_36, e69_37, e69_38, e69_39, e69_40, e69_43, e69_45, e69_46, e69_47, e69_49, e69_50, e69_52, e69_53, e69_54, e69_55, e69_56, e69_57, e69_58, e69_59, e69_60, e69_61, e69_62, e69_65, e69_66, e69_67, e69_70, e69_71, e69_72, e69_73, e69_76, e69_79, e69_80, e69_81, e69_82, e69_85, e69_86, e69_89, e69_90, e69_93, e69_94, e69_97, e69_100, e69_101, e69_104, e69_105, e69_108, e69_111, e69_112, e69_115, e69_118, e69_120, e69_121, e69_122, e69_125, e69_126, e69_129, e69_130, e69_133, e69_134, e69_137, e69_138, e69_141, zs0, zsI, zsL, zsR, ztl1, ztl0, zc0, zcI, zcL, zcR, true_and, and_true, true_implies, false_implies, implies_true, not_true_eq_false, not_false_eq_true, and_self, Int.toNat_natCast, Nat.reduceAdd, Nat.reduceLeDiff, Nat.reduceLT, forall_eq', Option.some.injEq, zarR, zarI, zarL, zle, zq0, zq1, zq2, zq3, zq4, zq5, zq6, zq8, zq9, zq10, zq20, zq7, zq12, zq24, zq40, zq41, zq48, zq100, zq120, zq123, zq480, zq492, zq700, zq729, zq2187, zq2916, zq8748, ne_eq, Int.reduceEq, Int.reduceLT, Int.reduceLE, Int.reduceToNat, Int.reduceMul, Int.reduceAdd, Int.reduceNeg, gk0 hg, gr0_0 hg, gr0_2 hg, gr0_3 hg, gr0_4 hg, gr0_5 hg, gr0_6 hg, gr0_7 hg, gr0_8 hg, gr0_9 hg, gr0_10 hg, gk38 hg, gr38_1 hg, gr38_2 hg, gr38_3 hg, gr38_4 hg, gr38_5 hg, gr38_6 hg, gk42 hg, gl42 hg, hY, c41, hsd]
  exact l0 _
end PY
