section PT
variable {d : Nat} {Q : zQ} {G : zG} {h : zM} {T : aTn} {own oth : Nat → Int} {Y u : Nat} {sd : Int} {p : (Nat → Nat → Int) × Int} {B : Int}
theorem m_passes (hg : gS G) (hu : gU G u) (V : rV h u T) (hw : wT T) (ho : ∀ t, t < nB T → h 94 t = own t) (hh : ∀ t, t < nB T → h 95 t = oth t) (bo : bP own) (bn : bP oth) (h19 : h 91 19 = -1) (hY : h 91 31 = (Y : Int)) (h40 : Y < 40) (hp : pOk T p B) (hB : B + 100 ≤ 2000000) (hheld : ∀ s b, s < nS T → b < nB T → h 101 (3 * s + b) = p.1 s b) (hsd : h 91 30 = p.2) (K : ∀ h' : zM, (∀ c i, ¬ (c = 91 ∧ i = 30) → ¬ (c = 91 ∧ i = 31) → c < 96 ∨ 101 < c → c < 104 ∨ 109 < c → h' c i = h c i) → (∀ s b, s < nS T → b < 3 → h' 101 (3 * s + b) = (yNx T own oth p).1 s b) → (∀ i, i < 12 * Y → h' 104 i = h 104 i) → (∀ k, k < 12 → h' 104 (12 * Y + k) = h 101 k) → (∀ i, i < 3 * Y → h' 105 i = h 105 i ∧ h' 106 i = h 106 i) → (∀ b, b < 3 → h' 105 (3 * Y + b) = h 102 b ∧ h' 106 (3 * Y + b) = h 103 b) → (∀ i, ¬ i = Y → h' 107 i = h 107 i) → h' 107 Y = p.2 → h' 91 30 = (yNx T own oth p).2 → h' 91 31 = ((Y + 1 : Nat) : Int) → (∀ i, i < 3 * Y → h' 108 i = h 108 i) → (∀ b, b < 3 → h' 108 (3 * Y + b) = yE T own oth p b) → (∀ i, ¬ i = Y → h' 109 i = h 109 i) → h' 109 Y = yL T own oth p → Q (some (zI (yL T own oth p))) G h') : zRunD ztb zmt' (d + 8) 164 [zR (some 91)] G h Q := by
  rw [r164]
  have u1 := hu.1
  have hs4 := hw.2.1
  have hb3 := hw.1
  have nok := yN_ok hw hp hB
  have c40 : (Y : Int) < 40 := by omega
  have w12 : wr (12 * (Y : Int)) = ((12 * Y : Nat) : Int) := wrN (by omega) (by omega)
  have w3 : wr (3 * (Y : Int)) = ((3 * Y : Nat) : Int) := wrN (by omega) (by omega)
  -- the last loop
  have l187 : ∀ j k (h1 : zM), k + j = 12 → h1 91 31 = (Y : Int) → (∀ h2 : zM, (∀ c i, ¬ (c = 91 ∧ i = 31) → ¬ (c = 101 ∧ i < 12) → h2 c i = h1 c i) → (∀ i, k ≤ i → i < 12 → h2 101 i = h1 101 (12 + i)) → (∀ i, i < k → h2 101 i = h1 101 i) → h2 91 31 = ((Y + 1 : Nat) : Int) → Q (some (zI (yL T own oth p))) G h2) → zE 164 (d + 7) Q 187 [some (zR (some 91)), some (zI (yL T own oth p)), some (zI k)] [] G h1 (0, 0) := by
    intro j
    induction j with
    | zero =>
      intro k h1 hk y1 KK
      have hk' : k = 12 := by omega
      subst hk'
      rw [e164_187]
      simp only [e164_0, e164_1, e164_3, e164_5, e164_8, e164_9, e164_12, e164_14, e164_15, e164_18, e164_19, e164_20, e164_21, e164_22, e164_25, e164_26, e164_27, e164_28, e164_31, e164_34, e164_35, e164_37, e164_38, e164_41, e164_42, e164_45, e164_46, e164_47, e164_50, e164_51, e164_52, e164_53, e164_54, e164_57, e164_58, e164_59, e164_60, e164_61, e164_64, e164_65, e164_66, e164_69, e164_70, e164_71, e164_72, e164_73, e164_76, e164_77, e164_78, e164_79, e164_82, e164_85, e164_86, e164_89, e164_90, e164_93, e164_94, e164_97, e164_98, e164_99, e164_102, e164_103, e164_104, e164_107, e164_108, e164_110, e164_113, e164_114, e164_115, e164_116, e164_118, e164_119, e164_122, e164_125, e164_128, e164_129, e164_130, e164_133, e164_134, e164_135, e164_136, e164_137, e164_140, e164_143, e164_144, e164_146, e164_147, e164_150, e164_151, e164_154, e164_155, e164_156, e164_159, e164_160, e164_161, e164_162, e164_163, e164_166, e164_167, e164_168, e164_169, e164_172, e164_175, e164_176, e164_179, e164_180, e164_183, e164_184, e164_185, e164_186, e164_188, e164_190, e164_193, e164_194, e164_197, e164_198, e164_199, e164_202, e164_204, e164_205, e164_206, e164_207, e164_208, e164_211, e164_214, e164_215, e164_216, e164_219, e164_220, e164_221, e164_224, e164_225, zs0, zsI, zsL, zsR, ztl1, ztl0, zc0, zcI, zcL, zcR, true_and, and_true, true_implies, false_implies, implies_true, not_true_eq_false, not_false_eq_true, and_self, Int.toNat_natCast, Nat.reduceAdd, Nat.reduceLeDiff, Nat.reduceLT, forall_eq', Option.some.injEq, zarR, zarI, zarL, zle, zq0, zq1, zq2, zq3, zq4, zq5, zq6, zq8, zq9, zq10, zq20, zq7, zq12, zq24, zq40, zq41, zq48, zq100, zq120, zq123, zq480, zq492, zq700, zq729, zq2187, zq2916, zq8748, ne_eq, Int.reduceEq, Int.reduceLT, Int.reduceLE, Int.reduceToNat, Int.reduceMul, Int.reduceAdd, Int.reduceNeg, gk91 hg, gr91_5 hg, gr91_22 hg, gr91_23 hg, gr91_24 hg, gr91_25 hg, gr91_26 hg, gr91_27 hg, gr91_28 hg, gr91_29 hg, gr91_32 hg, gr91_33 hg, gr91_34 hg, gr91_35 hg, gr91_36 hg, gr91_37 hg, gr91_38 hg, gr91_39 hg, gr91_40 hg, gr91_41 hg, gr91_42 hg, gr91_44 hg, gr91_45 hg, gr91_46 hg, gr91_48 hg, gr91_49 hg, gr91_50 hg, gr91_51 hg, gr91_52 hg, or_true, true_or, if_true, if_false, false_and, and_false, false_or, or_false, Int.le_refl, y1, wr_s (show Y < 2147483647 by omega)]
      apply KK
      · intro c i q1 q2
        unfold zu
        rw [if_neg q1]
      · intro i q1 q2
        omega
      · intro i q
        rw [zu_c (by decide)]
      · exact zu_at
    | succ j ih =>
      intro k h1 hk y1 KK
      have c : ¬ (12 : Int) ≤ k := by omega
      have k24 : (k : Int) < 24 := by omega
      have k24' : ((12 + k : Nat) : Int) < 24 := by omega
      rw [e164_187]
      simp only [e164_0, e164_1, e164_3, e164_5, e164_8, e164_9, e164_12, e164_14, e164_15, e164_18, e164_19, e164_20, e164_21, e164_22, e164_25, e164_26, e164_27, e164_28, e164_31, e164_34, e164_35, e164_37, e164_38, e164_41, e164_42, e164_45, e164_46, e164_47, e164_50, e164_51, e164_52, e164_53, e164_54, e164_57, e164_58, e164_59, e164_60, e164_61, e164_64, e164_65, e164_66, e164_69, e164_70, e164_71, e164_72, e164_73, e164_76, e164_77, e164_78, e164_79, e164_82, e164_85, e164_86, e164_89, e164_90, e164_93, e164_94, e164_97, e164_98, e164_99, e164_102, e164_103, e164_104, e164_107, e164_108, e164_110, e164_113, e164_114, e164_115, e164_116, e164_118, e164_119, e164_122, e164_125, e164_128, e164_129, e164_130, e164_133, e164_134, e164_135, e164_136, e164_137, e164_140, e164_143, e164_144, e164_146, e164_147, e164_150, e164_151, e164_154, e164_155, e164_156, e164_159, e164_160, e164_161, e164_162, e164_163, e164_166, e164_167, e164_168, e164_169, e164_172, e164_175, e164_176, e164_179, e164_180, e164_183, e164_184, e164_185, e164_186, e164_188, e164_190, e164_193, e164_194, e164_197, e164_198, e164_199, e164_202, e164_204, e164_205, e164_206, e164_207, e164_208, e164_211, e164_214, e164_215, e164_216, e164_219, e164_220, e164_221, e164_224, e164_225, zs0, zsI, zsL, zsR, ztl1, ztl0, zc0, zcI, zcL, zcR, true_and, and_true, true_implies, false_implies, implies_true, not_true_eq_false, not_false_eq_true, and_self, Int.toNat_natCast, Nat.reduceAdd, Nat.reduceLeDiff, Nat.reduceLT, forall_eq', Option.some.injEq, zarR, zarI, zarL, zle, zq0, zq1, zq2, zq3, zq4, zq5, zq6, zq8, zq9, zq10, zq20, zq7, zq12, zq24, zq40, zq41, zq48, zq100, zq120, zq123, zq480, zq492, zq700, zq729, zq2187, zq2916, zq8748, ne_eq, Int.reduceEq, Int.reduceLT, Int.reduceLE, Int.reduceToNat, Int.reduceMul, Int.reduceAdd, Int.reduceNeg, gk91 hg, gr91_5 hg, gr91_22 hg, gr91_23 hg, gr91_24 hg, gr91_25 hg, gr91_26 hg, gr91_27 hg, gr91_28 hg, gr91_29 hg, gr91_32 hg, gr91_33 hg, gr91_34 hg, gr91_35 hg, gr91_36 hg, gr91_37 hg, gr91_38 hg, gr91_39 hg, gr91_40 hg, gr91_41 hg, gr91_42 hg, gr91_44 hg, gr91_45 hg, gr91_46 hg, gr91_48 hg, gr91_49 hg, gr91_50 hg, gr91_51 hg, gr91_52 hg, gk101 hg, gl101 hg, or_true, true_or, if_true, if_false, false_and, and_false, false_or, or_false, c, k24, k24', wrN (z := 12 + (k : Int)) (m := 12 + k) (by omega) (by omega), wr_s (show k < 2147483647 by omega)]
      apply ih (k + 1) _ (by omega) (by rw [zu_c (by decide)]; exact y1)
      intro h2 f m1 m2 m3
      apply KK h2
      · intro c i q1 q2
        rw [f c i q1 q2, zu, if_neg (by omega)]
      · intro i q1 q2
        by_cases q : i = k
        · subst q
          rw [m2 i (by omega), zu_at]
        · rw [m1 i (by omega) q2, zu_i (by omega)]
      · intro i q
        rw [m2 i (by omega), zu_i (by omega)]
      · exact m3
  have l145 : ∀ j k (h1 : zM), k + j = 3 → h1 91 31 = (Y : Int) → (∀ h2 : zM, (∀ c i, ¬ (c = 108 ∧ 3 * Y + k ≤ i ∧ i < 3 * Y + 3) → h2 c i = h1 c i) → (∀ b, k ≤ b → b < 3 → h2 108 (3 * Y + b) = h1 96 b) → zE 164 (d + 7) Q 175 [some (zR (some 91)), some (zI (yL T own oth p)), some (zI 3)] [] G h2 (0, 0)) → zE 164 (d + 7) Q 145 [some (zR (some 91)), some (zI (yL T own oth p)), some (zI k)] [] G h1 (0, 0) := by
    intro j
    induction j with
    | zero =>
      intro k h1 hk y1 KK
      have hk' : k = 3 := by omega
      subst hk'
      rw [e164_145]
      simp only [e164_0, e164_1, e164_3, e164_5, e164_8, e164_9, e164_12, e164_14, e164_15, e164_18, e164_19, e164_20, e164_21, e164_22, e164_25, e164_26, e164_27, e164_28, e164_31, e164_34, e164_35, e164_37, e164_38, e164_41, e164_42, e164_45, e164_46, e164_47, e164_50, e164_51, e164_52, e164_53, e164_54, e164_57, e164_58, e164_59, e164_60, e164_61, e164_64, e164_65, e164_66, e164_69, e164_70, e164_71, e164_72, e164_73, e164_76, e164_77, e164_78, e164_79, e164_82, e164_85, e164_86, e164_89, e164_90, e164_93, e164_94, e164_97, e164_98, e164_99, e164_102, e164_103, e164_104, e164_107, e164_108, e164_110, e164_113, e164_114, e164_115, e164_116, e164_118, e164_119, e164_122, e164_125, e164_128, e164_129, e164_130, e164_133, e164_134, e164_135, e164_136, e164_137, e164_140, e164_143, e164_144, e164_146, e164_147, e164_150, e164_151, e164_154, e164_155, e164_156, e164_159, e164_160, e164_161, e164_162, e164_163, e164_166, e164_167, e164_168, e164_169, e164_172, e164_176, e164_179, e164_180, e164_183, e164_184, e164_185, e164_186, e164_188, e164_190, e164_193, e164_194, e164_197, e164_198, e164_199, e164_202, e164_204, e164_205, e164_206, e164_207, e164_208, e164_211, e164_214, e164_215, e164_216, e164_219, e164_220, e164_221, e164_224, e164_225, zs0, zsI, zsL, zsR, ztl1, ztl0, zc0, zcI, zcL, zcR, true_and, and_true, true_implies, false_implies, implies_true, not_true_eq_false, not_false_eq_true, and_self, Int.toNat_natCast, Nat.reduceAdd, Nat.reduceLeDiff, Nat.reduceLT, forall_eq', Option.some.injEq, zarR, zarI, zarL, zle, zq0, zq1, zq2, zq3, zq4, zq5, zq6, zq8, zq9, zq10, zq20, zq7, zq12, zq24, zq40, zq41, zq48, zq100, zq120, zq123, zq480, zq492, zq700, zq729, zq2187, zq2916, zq8748, ne_eq, Int.reduceEq, Int.reduceLT, Int.reduceLE, Int.reduceToNat, Int.reduceMul, Int.reduceAdd, Int.reduceNeg, Int.le_refl]
      exact KK h1 (fun _ _ _ => rfl) (fun b q1 q2 => by omega)
    | succ j ih =>
      intro k h1 hk y1 KK
      have c : ¬ (3 : Int) ≤ k := by omega
      have k3 : (k : Int) < 3 := by omega
      have k4 : ((3 * Y + k : Nat) : Int) < 120 := by omega
      rw [e164_145]
      simp only [e164_0, e164_1, e164_3, e164_5, e164_8, e164_9, e164_12, e164_14, e164_15, e164_18, e164_19, e164_20, e164_21, e164_22, e164_25, e164_26, e164_27, e164_28, e164_31, e164_34, e164_35, e164_37, e164_38, e164_41, e164_42, e164_45, e164_46, e164_47, e164_50, e164_51, e164_52, e164_53, e164_54, e164_57, e164_58, e164_59, e164_60, e164_61, e164_64, e164_65, e164_66, e164_69, e164_70, e164_71, e164_72, e164_73, e164_76, e164_77, e164_78, e164_79, e164_82, e164_85, e164_86, e164_89, e164_90, e164_93, e164_94, e164_97, e164_98, e164_99, e164_102, e164_103, e164_104, e164_107, e164_108, e164_110, e164_113, e164_114, e164_115, e164_116, e164_118, e164_119, e164_122, e164_125, e164_128, e164_129, e164_130, e164_133, e164_134, e164_135, e164_136, e164_137, e164_140, e164_143, e164_144, e164_146, e164_147, e164_150, e164_151, e164_154, e164_155, e164_156, e164_159, e164_160, e164_161, e164_162, e164_163, e164_166, e164_167, e164_168, e164_169, e164_172, e164_176, e164_179, e164_180, e164_183, e164_184, e164_185, e164_186, e164_188, e164_190, e164_193, e164_194, e164_197, e164_198, e164_199, e164_202, e164_204, e164_205, e164_206, e164_207, e164_208, e164_211, e164_214, e164_215, e164_216, e164_219, e164_220, e164_221, e164_224, e164_225, zs0, zsI, zsL, zsR, ztl1, ztl0, zc0, zcI, zcL, zcR, true_and, and_true, true_implies, false_implies, implies_true, not_true_eq_false, not_false_eq_true, and_self, Int.toNat_natCast, Nat.reduceAdd, Nat.reduceLeDiff, Nat.reduceLT, forall_eq', Option.some.injEq, zarR, zarI, zarL, zle, zq0, zq1, zq2, zq3, zq4, zq5, zq6, zq8, zq9, zq10, zq20, zq7, zq12, zq24, zq40, zq41, zq48, zq100, zq120, zq123, zq480, zq492, zq700, zq729, zq2187, zq2916, zq8748, ne_eq, Int.reduceEq, Int.reduceLT, Int.reduceLE, Int.reduceToNat, Int.reduceMul, Int.reduceAdd, Int.reduceNeg, gk91 hg, gr91_5 hg, gr91_22 hg, gr91_23 hg, gr91_24 hg, gr91_25 hg, gr91_26 hg, gr91_27 hg, gr91_28 hg, gr91_29 hg, gr91_32 hg, gr91_33 hg, gr91_34 hg, gr91_35 hg, gr91_36 hg, gr91_37 hg, gr91_38 hg, gr91_39 hg, gr91_40 hg, gr91_41 hg, gr91_42 hg, gr91_44 hg, gr91_45 hg, gr91_46 hg, gr91_48 hg, gr91_49 hg, gr91_50 hg, gr91_51 hg, gr91_52 hg, gk96 hg, gl96 hg, gk108 hg, gl108 hg, c, y1, w3, wrN (z := ((3 * Y : Nat) : Int) + (k : Int)) (m := 3 * Y + k) (by omega) (by omega), k3, k4, wr_s (show k < 2147483647 by omega)]
      apply ih (k + 1) _ (by omega) (by rw [zu_c (by decide)]; exact y1)
      intro h2 f m1
      apply KK h2
      · intro c i q1
        rw [f c i (by omega), zu, if_neg (by omega)]
      · intro b q1 q2
        by_cases q : b = k
        · subst q
          rw [f _ _ (by omega), zu_at]
        · rw [m1 b (by omega) q2, zu_c (by decide)]
  have l117 : ∀ j s (h1 : zM), s + j = nS T → h1 u 1 = (nS T : Int) → (∀ s, s < nS T → h1 98 s = aLeft (yN T p) (aTo T own oth) s 5) → zE 164 (d + 7) Q 143 [some (zR (some 91)), some (zI (yL T own oth p)), some (zI (nS T : Int))] [] G h1 (0, 0) → zE 164 (d + 7) Q 117 [some (zR (some 91)), some (zI (sumL (fun s => aLeft (yN T p) (aTo T own oth) s 5) s)), some (zI s)] [] G h1 (0, 0) := by
    intro j
    induction j with
    | zero =>
      intro s h1 hs e1 m KK
      have hs' : s = nS T := by omega
      subst hs'
      rw [e164_117]
      simp only [e164_0, e164_1, e164_3, e164_5, e164_8, e164_9, e164_12, e164_14, e164_15, e164_18, e164_19, e164_20, e164_21, e164_22, e164_25, e164_26, e164_27, e164_28, e164_31, e164_34, e164_35, e164_37, e164_38, e164_41, e164_42, e164_45, e164_46, e164_47, e164_50, e164_51, e164_52, e164_53, e164_54, e164_57, e164_58, e164_59, e164_60, e164_61, e164_64, e164_65, e164_66, e164_69, e164_70, e164_71, e164_72, e164_73, e164_76, e164_77, e164_78, e164_79, e164_82, e164_85, e164_86, e164_89, e164_90, e164_93, e164_94, e164_97, e164_98, e164_99, e164_102, e164_103, e164_104, e164_107, e164_108, e164_110, e164_113, e164_114, e164_115, e164_116, e164_118, e164_119, e164_122, e164_125, e164_128, e164_129, e164_130, e164_133, e164_134, e164_135, e164_136, e164_137, e164_140, e164_144, e164_146, e164_147, e164_150, e164_151, e164_154, e164_155, e164_156, e164_159, e164_160, e164_161, e164_162, e164_163, e164_166, e164_167, e164_168, e164_169, e164_172, e164_175, e164_176, e164_179, e164_180, e164_183, e164_184, e164_185, e164_186, e164_188, e164_190, e164_193, e164_194, e164_197, e164_198, e164_199, e164_202, e164_204, e164_205, e164_206, e164_207, e164_208, e164_211, e164_214, e164_215, e164_216, e164_219, e164_220, e164_221, e164_224, e164_225, zs0, zsI, zsL, zsR, ztl1, ztl0, zc0, zcI, zcL, zcR, true_and, and_true, true_implies, false_implies, implies_true, not_true_eq_false, not_false_eq_true, and_self, Int.toNat_natCast, Nat.reduceAdd, Nat.reduceLeDiff, Nat.reduceLT, forall_eq', Option.some.injEq, zarR, zarI, zarL, zle, zq0, zq1, zq2, zq3, zq4, zq5, zq6, zq8, zq9, zq10, zq20, zq7, zq12, zq24, zq40, zq41, zq48, zq100, zq120, zq123, zq480, zq492, zq700, zq729, zq2187, zq2916, zq8748, ne_eq, Int.reduceEq, Int.reduceLT, Int.reduceLE, Int.reduceToNat, Int.reduceMul, Int.reduceAdd, Int.reduceNeg, gk91 hg, gr91_5 hg, gr91_22 hg, gr91_23 hg, gr91_24 hg, gr91_25 hg, gr91_26 hg, gr91_27 hg, gr91_28 hg, gr91_29 hg, gr91_32 hg, gr91_33 hg, gr91_34 hg, gr91_35 hg, gr91_36 hg, gr91_37 hg, gr91_38 hg, gr91_39 hg, gr91_40 hg, gr91_41 hg, gr91_42 hg, gr91_44 hg, gr91_45 hg, gr91_46 hg, gr91_48 hg, gr91_49 hg, gr91_50 hg, gr91_51 hg, gr91_52 hg, hu, e1, Int.le_refl]
      exact KK
    | succ j ih =>
      intro s h1 hs e1 m KK
      have c : ¬ (nS T : Int) ≤ s := by omega
      have s4 : (s : Int) < 4 := by omega
      have e98 := m s (by omega)
      have b1 := yL_b (own := own) (oth := oth) hw nok (s + 1)
      unfold sumL at b1
      have w : wr (sumL (fun s => aLeft (yN T p) (aTo T own oth) s 5) s + aLeft (yN T p) (aTo T own oth) s 5) = sumL (fun s => aLeft (yN T p) (aTo T own oth) s 5) s + aLeft (yN T p) (aTo T own oth) s 5 := wr_id (by omega)
      rw [e164_117]
      simp only [e164_0, e164_1, e164_3, e164_5, e164_8, e164_9, e164_12, e164_14, e164_15, e164_18, e164_19, e164_20, e164_21, e164_22, e164_25, e164_26, e164_27, e164_28, e164_31, e164_34, e164_35, e164_37, e164_38, e164_41, e164_42, e164_45, e164_46, e164_47, e164_50, e164_51, e164_52, e164_53, e164_54, e164_57, e164_58, e164_59, e164_60, e164_61, e164_64, e164_65, e164_66, e164_69, e164_70, e164_71, e164_72, e164_73, e164_76, e164_77, e164_78, e164_79, e164_82, e164_85, e164_86, e164_89, e164_90, e164_93, e164_94, e164_97, e164_98, e164_99, e164_102, e164_103, e164_104, e164_107, e164_108, e164_110, e164_113, e164_114, e164_115, e164_116, e164_118, e164_119, e164_122, e164_125, e164_128, e164_129, e164_130, e164_133, e164_134, e164_135, e164_136, e164_137, e164_140, e164_144, e164_146, e164_147, e164_150, e164_151, e164_154, e164_155, e164_156, e164_159, e164_160, e164_161, e164_162, e164_163, e164_166, e164_167, e164_168, e164_169, e164_172, e164_175, e164_176, e164_179, e164_180, e164_183, e164_184, e164_185, e164_186, e164_188, e164_190, e164_193, e164_194, e164_197, e164_198, e164_199, e164_202, e164_204, e164_205, e164_206, e164_207, e164_208, e164_211, e164_214, e164_215, e164_216, e164_219, e164_220, e164_221, e164_224, e164_225, zs0, zsI, zsL, zsR, ztl1, ztl0, zc0, zcI, zcL, zcR, true_and, and_true, true_implies, false_implies, implies_true, not_true_eq_false, not_false_eq_true, and_self, Int.toNat_natCast, Nat.reduceAdd, Nat.reduceLeDiff, Nat.reduceLT, forall_eq', Option.some.injEq, zarR, zarI, zarL, zle, zq0, zq1, zq2, zq3, zq4, zq5, zq6, zq8, zq9, zq10, zq20, zq7, zq12, zq24, zq40, zq41, zq48, zq100, zq120, zq123, zq480, zq492, zq700, zq729, zq2187, zq2916, zq8748, ne_eq, Int.reduceEq, Int.reduceLT, Int.reduceLE, Int.reduceToNat, Int.reduceMul, Int.reduceAdd, Int.reduceNeg, gk91 hg, gr91_5 hg, gr91_22 hg, gr91_23 hg, gr91_24 hg, gr91_25 hg, gr91_26 hg, gr91_27 hg, gr91_28 hg, gr91_29 hg, gr91_32 hg, gr91_33 hg, gr91_34 hg, gr91_35 hg, gr91_36 hg, gr91_37 hg, gr91_38 hg, gr91_39 hg, gr91_40 hg, gr91_41 hg, gr91_42 hg, gr91_44 hg, gr91_45 hg, gr91_46 hg, gr91_48 hg, gr91_49 hg, gr91_50 hg, gr91_51 hg, gr91_52 hg, gk98 hg, gl98 hg, hu, e1, c, s4, e98, w, wr_s (show s < 2147483647 by omega)]
      exact ih (s + 1) h1 (by omega) e1 m KK
  -- from the draws on
  have mid : ∀ (h1 : zM), (∀ c i, c < 104 ∨ 107 < c → h1 c i = h c i) → (∀ i, i < 12 * Y → h1 104 i = h 104 i) → (∀ k, k < 12 → h1 104 (12 * Y + k) = h 101 k) → (∀ i, i < 3 * Y → h1 105 i = h 105 i ∧ h1 106 i = h 106 i) → (∀ b, b < 3 → h1 105 (3 * Y + b) = h 102 b ∧ h1 106 (3 * Y + b) = h 103 b) → (∀ i, h1 107 i = h 107 i) → zE 164 (d + 7) Q 85 [some (zR (some 91)), some (zI 3), none] [] G h1 (0, 0) := by
    intro h1 f a1 a2 a3 a4 a5
    have V0 : rV (zu h1 107 Y p.2) u T := rV_frame V (fun c i q => by rw [zu_c (by omega), f c i (by omega)]) (fun i => by rw [zu_c (by decide), f _ _ (by decide)]) (fun i _ _ => by rw [zu_c (by decide), f _ _ (by decide)])
    have y1 : h1 91 31 = (Y : Int) := by rw [f _ _ (by decide)]; exact hY
    have s1 : h1 91 30 = p.2 := by rw [f _ _ (by decide)]; exact hsd
    simp only [e164_85, e164_86, e164_89, e164_90, e164_93, e164_94, e164_97, e164_98, e164_99, zs0, zsI, zsL, zsR, ztl1, ztl0, zc0, zcI, zcL, zcR, true_and, and_true, true_implies, false_implies, implies_true, not_true_eq_false, not_false_eq_true, and_self, Int.toNat_natCast, Nat.reduceAdd, Nat.reduceLeDiff, Nat.reduceLT, forall_eq', Option.some.injEq, zarR, zarI, zarL, zle, zq0, zq1, zq2, zq3, zq4, zq5, zq6, zq8, zq9, zq10, zq20, zq7, zq12, zq24, zq40, zq41, zq48, zq100, zq120, zq123, zq480, zq492, zq700, zq729, zq2187, zq2916, zq8748, ne_eq, Int.reduceEq, Int.reduceLT, Int.reduceLE, Int.reduceToNat, Int.reduceMul, Int.reduceAdd, Int.reduceNeg, gk91 hg, gr91_5 hg, gr91_22 hg, gr91_23 hg, gr91_24 hg, gr91_25 hg, gr91_26 hg, gr91_27 hg, gr91_28 hg, gr91_29 hg, gr91_32 hg, gr91_33 hg, gr91_34 hg, gr91_35 hg, gr91_36 hg, gr91_37 hg, gr91_38 hg, gr91_39 hg, gr91_40 hg, gr91_41 hg, gr91_42 hg, gr91_44 hg, gr91_45 hg, gr91_46 hg, gr91_48 hg, gr91_49 hg, gr91_50 hg, gr91_51 hg, gr91_52 hg, gk107 hg, gl107 hg, y1, s1, c40]
    apply m_draws (d := d + 5) hg hu V0 hw (sd := p.2) (by rw [zu_c (by decide)]; exact s1) hp.2.1
    intro h2 f2 m1 m2
    have hf2 : ∀ c i, ¬ c = 100 → ¬ (c = 91 ∧ i = 30) → c < 104 ∨ 107 < c → h2 c i = h c i := fun c i q1 q2 q3 => by rw [f2 c i q1 q2, zu_c (by omega), f c i q3]
    have V2 : rV h2 u T := rV_frame V0 (fun c i q => f2 c i (by omega) (by omega)) (fun i => f2 _ _ (by decide) (by omega)) (fun i _ _ => f2 _ _ (by decide) (by omega))
    have e19 : h2 91 19 = -1 := by rw [hf2 _ _ (by decide) (by omega) (by decide)]; exact h19
    simp only [e164_102, e164_103, e164_104, e164_107, e164_108, e164_110, zs0, zsI, zsL, zsR, ztl1, ztl0, zc0, zcI, zcL, zcR, true_and, and_true, true_implies, false_implies, implies_true, not_true_eq_false, not_false_eq_true, and_self, Int.toNat_natCast, Nat.reduceAdd, Nat.reduceLeDiff, Nat.reduceLT, forall_eq', Option.some.injEq, zarR, zarI, zarL, zle, zq0, zq1, zq2, zq3, zq4, zq5, zq6, zq8, zq9, zq10, zq20, zq7, zq12, zq24, zq40, zq41, zq48, zq100, zq120, zq123, zq480, zq492, zq700, zq729, zq2187, zq2916, zq8748, ne_eq, Int.reduceEq, Int.reduceLT, Int.reduceLE, Int.reduceToNat, Int.reduceMul, Int.reduceAdd, Int.reduceNeg, gk91 hg, gr91_5 hg, gr91_22 hg, gr91_23 hg, gr91_24 hg, gr91_25 hg, gr91_26 hg, gr91_27 hg, gr91_28 hg, gr91_29 hg, gr91_32 hg, gr91_33 hg, gr91_34 hg, gr91_35 hg, gr91_36 hg, gr91_37 hg, gr91_38 hg, gr91_39 hg, gr91_40 hg, gr91_41 hg, gr91_42 hg, gr91_44 hg, gr91_45 hg, gr91_46 hg, gr91_48 hg, gr91_49 hg, gr91_50 hg, gr91_51 hg, gr91_52 hg]
    rw [show (0 : Int) = ((0 : Nat) : Int) from rfl, show (12 : Int) = ((12 : Nat) : Int) from rfl]
    apply m_goes (d := d) (own := own) (oth := oth) (n := yN T p) hg hu V2 hw (fun t ht => by rw [hf2 _ _ (by decide) (by omega) (by decide)]; exact ho t ht) (fun t ht => by rw [hf2 _ _ (by decide) (by omega) (by decide)]; exact hh t ht) bo bn nok (by decide) (gk101 hg) (by rw [gl101 hg]; decide) (by rw [gl101 hg]; decide) (by decide) (by decide)
    · intro s k q1 q2
      rw [hf2 _ _ (by decide) (by omega) (by decide), Nat.zero_add, hheld s k q1 q2]
      unfold yN aN
      rw [if_pos (by omega)]
    · intro q s
      exact hp.2.2 q s
    · intro s q
      rw [e19, if_pos rfl, m1 s q]
      show nfN T p.2 s = _
      unfold nfN
      rcases (hw.2.2.2.2.2 s).2.2.2.2.2.2.2.1 with b7 | b7
      · rw [if_pos b7, if_neg (by omega)]
      · rw [if_pos b7, if_neg (by omega)]
    · intro s q
      rw [m1 s q]
      rfl
    · intro s q
      rw [m1 s q]
      exact frN_b hw hp.2.1 s
    · rw [e19]
      decide
    · intro h3 f3 g1 g2 g3 g4
      have hf3 : ∀ c i, ¬ (c = 91 ∧ i = 30) → c < 96 ∨ 101 < c → c < 104 ∨ 107 < c → h3 c i = h c i := fun c i q1 q2 q3 => by rw [f3 c i (by omega) (by omega) (by omega) (by omega) (by omega), hf2 c i (by omega) q1 q3]
      have r3 : ∀ c i, 104 ≤ c → c ≤ 106 → h3 c i = h1 c i := fun c i q1 q2 => by rw [f3 c i (by omega) (by omega) (by omega) (by omega) (by omega), f2 c i (by omega) (by omega), zu_c (by omega)]
      have r7 : ∀ i, h3 107 i = (zu h1 107 Y p.2) 107 i := fun i => by rw [f3 _ i (by omega) (by omega) (by omega) (by omega) (by omega), f2 _ i (by omega) (by omega)]
      have s3 : h3 91 30 = sdN p.2 (nS T) := by rw [f3 _ _ (by omega) (by omega) (by omega) (by omega) (by omega)]; exact m2
      have y3 : h3 91 31 = (Y : Int) := by rw [hf3 _ _ (by omega) (by omega) (by omega)]; exact hY
      have e1 : h3 u 1 = (nS T : Int) := by rw [hf3 _ _ (by omega) (by omega) (by omega)]; exact V.2.1
      simp only [e164_113, e164_114, e164_115, e164_116, zs0, zsI, zsL, zsR, ztl1, ztl0, zc0, zcI, zcL, zcR, true_and, and_true, true_implies, false_implies, implies_true, not_true_eq_false, not_false_eq_true, and_self, Int.toNat_natCast, Nat.reduceAdd, Nat.reduceLeDiff, Nat.reduceLT, forall_eq', Option.some.injEq, zarR, zarI, zarL, zle, zq0, zq1, zq2, zq3, zq4, zq5, zq6, zq8, zq9, zq10, zq20, zq7, zq12, zq24, zq40, zq41, zq48, zq100, zq120, zq123, zq480, zq492, zq700, zq729, zq2187, zq2916, zq8748, ne_eq, Int.reduceEq, Int.reduceLT, Int.reduceLE, Int.reduceToNat, Int.reduceMul, Int.reduceAdd, Int.reduceNeg]
      have k117 := l117 (nS T) 0 h3 (by omega) e1 g1
      rw [show sumL (fun s => aLeft (yN T p) (aTo T own oth) s 5) 0 = 0 from rfl, zq0] at k117
      apply k117
      simp only [e164_143, e164_144, zs0, zsI, zsL, zsR, ztl1, ztl0, zc0, zcI, zcL, zcR, true_and, and_true, true_implies, false_implies, implies_true, not_true_eq_false, not_false_eq_true, and_self, Int.toNat_natCast, Nat.reduceAdd, Nat.reduceLeDiff, Nat.reduceLT, forall_eq', Option.some.injEq, zarR, zarI, zarL, zle, zq0, zq1, zq2, zq3, zq4, zq5, zq6, zq8, zq9, zq10, zq20, zq7, zq12, zq24, zq40, zq41, zq48, zq100, zq120, zq123, zq480, zq492, zq700, zq729, zq2187, zq2916, zq8748, ne_eq, Int.reduceEq, Int.reduceLT, Int.reduceLE, Int.reduceToNat, Int.reduceMul, Int.reduceAdd, Int.reduceNeg]
      have k145 := l145 3 0 h3 (by omega) y3
      rw [zq0] at k145
      apply k145
      intro h4 f4 g5
      have y4 : h4 91 31 = (Y : Int) := by rw [f4 _ _ (by omega)]; exact y3
      simp only [e164_175, e164_176, e164_179, e164_180, e164_183, e164_184, e164_185, e164_186, zs0, zsI, zsL, zsR, ztl1, ztl0, zc0, zcI, zcL, zcR, true_and, and_true, true_implies, false_implies, implies_true, not_true_eq_false, not_false_eq_true, and_self, Int.toNat_natCast, Nat.reduceAdd, Nat.reduceLeDiff, Nat.reduceLT, forall_eq', Option.some.injEq, zarR, zarI, zarL, zle, zq0, zq1, zq2, zq3, zq4, zq5, zq6, zq8, zq9, zq10, zq20, zq7, zq12, zq24, zq40, zq41, zq48, zq100, zq120, zq123, zq480, zq492, zq700, zq729, zq2187, zq2916, zq8748, ne_eq, Int.reduceEq, Int.reduceLT, Int.reduceLE, Int.reduceToNat, Int.reduceMul, Int.reduceAdd, Int.reduceNeg, gk91 hg, gr91_5 hg, gr91_22 hg, gr91_23 hg, gr91_24 hg, gr91_25 hg, gr91_26 hg, gr91_27 hg, gr91_28 hg, gr91_29 hg, gr91_32 hg, gr91_33 hg, gr91_34 hg, gr91_35 hg, gr91_36 hg, gr91_37 hg, gr91_38 hg, gr91_39 hg, gr91_40 hg, gr91_41 hg, gr91_42 hg, gr91_44 hg, gr91_45 hg, gr91_46 hg, gr91_48 hg, gr91_49 hg, gr91_50 hg, gr91_51 hg, gr91_52 hg, gk109 hg, gl109 hg, y4, c40]
      have k187 := l187 12 0 (zu h4 109 Y (yL T own oth p)) (by omega) (by rw [zu_c (by decide)]; exact y4)
      rw [zq0] at k187
      apply k187
      intro h5 f5 g6 g7 g8
      have hf5 : ∀ c i, ¬ (c = 91 ∧ i = 31) → ¬ (c = 101 ∧ i < 12) → ¬ (c = 108 ∧ 3 * Y ≤ i ∧ i < 3 * Y + 3) → ¬ (c = 109 ∧ i = Y) → h5 c i = h3 c i := fun c i q1 q2 q3 q4 => by rw [f5 c i q1 q2, zu, if_neg q4, f4 c i (by omega)]
      apply K h5
      · intro c i q1 q2 q3 q4
        rw [hf5 c i (by omega) (by omega) (by omega) (by omega), hf3 c i q1 q3 (by omega)]
      · intro s b q1 q2
        rw [g6 _ (by omega) (by omega), zu_c (by decide), f4 _ _ (by omega), g4 b s q2 (by omega)]
        rfl
      · intro i hi
        rw [hf5 _ _ (by omega) (by omega) (by omega) (by omega), r3 _ _ (by omega) (by omega)]
        exact a1 i hi
      · intro k hk
        rw [hf5 _ _ (by omega) (by omega) (by omega) (by omega), r3 _ _ (by omega) (by omega)]
        exact a2 k hk
      · intro i hi
        rw [hf5 _ _ (by omega) (by omega) (by omega) (by omega), hf5 _ _ (by omega) (by omega) (by omega) (by omega), r3 _ _ (by omega) (by omega), r3 _ _ (by omega) (by omega)]
        exact a3 i hi
      · intro b hb
        rw [hf5 _ _ (by omega) (by omega) (by omega) (by omega), hf5 _ _ (by omega) (by omega) (by omega) (by omega), r3 _ _ (by omega) (by omega), r3 _ _ (by omega) (by omega)]
        exact a4 b hb
      · intro i hi
        rw [hf5 _ _ (by omega) (by omega) (by omega) (by omega), r7, zu_i hi]
        exact a5 i
      · rw [hf5 _ _ (by omega) (by omega) (by omega) (by omega), r7, zu_at]
      · rw [hf5 _ _ (by omega) (by omega) (by omega) (by omega), s3]
        rfl
      · exact g8
      · intro i hi
        rw [hf5 _ _ (by omega) (by omega) (by omega) (by omega), hf3 _ _ (by omega) (by omega) (by omega)]
      · intro b hb
        rw [f5 _ _ (by omega) (by omega), zu_c (by decide), g5 b (by omega) hb, g3 b hb]
        rfl
      · intro i hi
        rw [hf5 _ _ (by omega) (by omega) (by omega) (by omega), hf3 _ _ (by omega) (by omega) (by omega)]
      · rw [f5 _ _ (by omega) (by omega), zu_at]
  have l36 : ∀ j k (h1 : zM), k + j = 3 → h1 91 31 = (Y : Int) → (∀ h2 : zM, (∀ c i, ¬ (c = 105 ∧ 3 * Y + k ≤ i ∧ i < 3 * Y + 3) → ¬ (c = 106 ∧ 3 * Y + k ≤ i ∧ i < 3 * Y + 3) → h2 c i = h1 c i) → (∀ b, k ≤ b → b < 3 → h2 105 (3 * Y + b) = h1 102 b ∧ h2 106 (3 * Y + b) = h1 103 b) → zE 164 (d + 7) Q 85 [some (zR (some 91)), some (zI 3), none] [] G h2 (0, 0)) → zE 164 (d + 7) Q 36 [some (zR (some 91)), some (zI k), none] [] G h1 (0, 0) := by
    intro j
    induction j with
    | zero =>
      intro k h1 hk y1 KK
      have hk' : k = 3 := by omega
      subst hk'
      rw [e164_36]
      simp only [e164_0, e164_1, e164_3, e164_5, e164_8, e164_9, e164_12, e164_14, e164_15, e164_18, e164_19, e164_20, e164_21, e164_22, e164_25, e164_26, e164_27, e164_28, e164_31, e164_34, e164_35, e164_37, e164_38, e164_41, e164_42, e164_45, e164_46, e164_47, e164_50, e164_51, e164_52, e164_53, e164_54, e164_57, e164_58, e164_59, e164_60, e164_61, e164_64, e164_65, e164_66, e164_69, e164_70, e164_71, e164_72, e164_73, e164_76, e164_77, e164_78, e164_79, e164_82, e164_86, e164_89, e164_90, e164_93, e164_94, e164_97, e164_98, e164_99, e164_102, e164_103, e164_104, e164_107, e164_108, e164_110, e164_113, e164_114, e164_115, e164_116, e164_118, e164_119, e164_122, e164_125, e164_128, e164_129, e164_130, e164_133, e164_134, e164_135, e164_136, e164_137, e164_140, e164_143, e164_144, e164_146, e164_147, e164_150, e164_151, e164_154, e164_155, e164_156, e164_159, e164_160, e164_161, e164_162, e164_163, e164_166, e164_167, e164_168, e164_169, e164_172, e164_175, e164_176, e164_179, e164_180, e164_183, e164_184, e164_185, e164_186, e164_188, e164_190, e164_193, e164_194, e164_197, e164_198, e164_199, e164_202, e164_204, e164_205, e164_206, e164_207, e164_208, e164_211, e164_214, e164_215, e164_216, e164_219, e164_220, e164_221, e164_224, e164_225, zs0, zsI, zsL, zsR, ztl1, ztl0, zc0, zcI, zcL, zcR, true_and, and_true, true_implies, false_implies, implies_true, not_true_eq_false, not_false_eq_true, and_self, Int.toNat_natCast, Nat.reduceAdd, Nat.reduceLeDiff, Nat.reduceLT, forall_eq', Option.some.injEq, zarR, zarI, zarL, zle, zq0, zq1, zq2, zq3, zq4, zq5, zq6, zq8, zq9, zq10, zq20, zq7, zq12, zq24, zq40, zq41, zq48, zq100, zq120, zq123, zq480, zq492, zq700, zq729, zq2187, zq2916, zq8748, ne_eq, Int.reduceEq, Int.reduceLT, Int.reduceLE, Int.reduceToNat, Int.reduceMul, Int.reduceAdd, Int.reduceNeg, Int.le_refl]
      exact KK h1 (fun _ _ _ _ => rfl) (fun b q1 q2 => by omega)
    | succ j ih =>
      intro k h1 hk y1 KK
      have c : ¬ (3 : Int) ≤ k := by omega
      have k3 : (k : Int) < 3 := by omega
      have k4 : ((3 * Y + k : Nat) : Int) < 120 := by omega
      rw [e164_36]
      simp only [e164_0, e164_1, e164_3, e164_5, e164_8, e164_9, e164_12, e164_14, e164_15, e164_18, e164_19, e164_20, e164_21, e164_22, e164_25, e164_26, e164_27, e164_28, e164_31, e164_34, e164_35, e164_37, e164_38, e164_41, e164_42, e164_45, e164_46, e164_47, e164_50, e164_51, e164_52, e164_53, e164_54, e164_57, e164_58, e164_59, e164_60, e164_61, e164_64, e164_65, e164_66, e164_69, e164_70, e164_71, e164_72, e164_73, e164_76, e164_77, e164_78, e164_79, e164_82, e164_86, e164_89, e164_90, e164_93, e164_94, e164_97, e164_98, e164_99, e164_102, e164_103, e164_104, e164_107, e164_108, e164_110, e164_113, e164_114, e164_115, e164_116, e164_118, e164_119, e164_122, e164_125, e164_128, e164_129, e164_130, e164_133, e164_134, e164_135, e164_136, e164_137, e164_140, e164_143, e164_144, e164_146, e164_147, e164_150, e164_151, e164_154, e164_155, e164_156, e164_159, e164_160, e164_161, e164_162, e164_163, e164_166, e164_167, e164_168, e164_169, e164_172, e164_175, e164_176, e164_179, e164_180, e164_183, e164_184, e164_185, e164_186, e164_188, e164_190, e164_193, e164_194, e164_197, e164_198, e164_199, e164_202, e164_204, e164_205, e164_206, e164_207, e164_208, e164_211, e164_214, e164_215, e164_216, e164_219, e164_220, e164_221, e164_224, e164_225, zs0, zsI, zsL, zsR, ztl1, ztl0, zc0, zcI, zcL, zcR, true_and, and_true, true_implies, false_implies, implies_true, not_true_eq_false, not_false_eq_true, and_self, Int.toNat_natCast, Nat.reduceAdd, Nat.reduceLeDiff, Nat.reduceLT, forall_eq', Option.some.injEq, zarR, zarI, zarL, zle, zq0, zq1, zq2, zq3, zq4, zq5, zq6, zq8, zq9, zq10, zq20, zq7, zq12, zq24, zq40, zq41, zq48, zq100, zq120, zq123, zq480, zq492, zq700, zq729, zq2187, zq2916, zq8748, ne_eq, Int.reduceEq, Int.reduceLT, Int.reduceLE, Int.reduceToNat, Int.reduceMul, Int.reduceAdd, Int.reduceNeg, gk91 hg, gr91_5 hg, gr91_22 hg, gr91_23 hg, gr91_24 hg, gr91_25 hg, gr91_26 hg, gr91_27 hg, gr91_28 hg, gr91_29 hg, gr91_32 hg, gr91_33 hg, gr91_34 hg, gr91_35 hg, gr91_36 hg, gr91_37 hg, gr91_38 hg, gr91_39 hg, gr91_40 hg, gr91_41 hg, gr91_42 hg, gr91_44 hg, gr91_45 hg, gr91_46 hg, gr91_48 hg, gr91_49 hg, gr91_50 hg, gr91_51 hg, gr91_52 hg, gk102 hg, gl102 hg, gk103 hg, gl103 hg, gk105 hg, gl105 hg, gk106 hg, gl106 hg, c, y1, zu_c (show ¬ 91 = 105 by decide), zu_c (show ¬ 103 = 105 by decide), w3, wrN (z := ((3 * Y : Nat) : Int) + (k : Int)) (m := 3 * Y + k) (by omega) (by omega), k3, k4, wr_s (show k < 2147483647 by omega)]
      apply ih (k + 1) _ (by omega) (by rw [zu_c (by decide), zu_c (by decide)]; exact y1)
      intro h2 f m1
      apply KK h2
      · intro c i q1 q2
        rw [f c i (by omega) (by omega), zu, if_neg (by omega), zu, if_neg (by omega)]
      · intro b q1 q2
        by_cases q : b = k
        · subst q
          rw [f _ _ (by omega) (by omega), f _ _ (by omega) (by omega), zu_c (by decide), zu_at, zu_at]
          exact ⟨rfl, rfl⟩
        · have := m1 b (by omega) q2
          rw [zu_c (by decide), zu_c (by decide), zu_c (by decide), zu_c (by decide)] at this
          exact this
  have l2 : ∀ j k (h1 : zM), k + j = 12 → h1 91 31 = (Y : Int) → (∀ h2 : zM, (∀ c i, ¬ (c = 104 ∧ 12 * Y + k ≤ i ∧ i < 12 * Y + 12) → h2 c i = h1 c i) → (∀ i, k ≤ i → i < 12 → h2 104 (12 * Y + i) = h1 101 i) → zE 164 (d + 7) Q 34 [some (zR (some 91)), some (zI 12), none] [] G h2 (0, 0)) → zE 164 (d + 7) Q 2 [some (zR (some 91)), some (zI k), none] [] G h1 (0, 0) := by
    intro j
    induction j with
    | zero =>
      intro k h1 hk y1 KK
      have hk' : k = 12 := by omega
      subst hk'
      rw [e164_2]
      simp only [e164_0, e164_1, e164_3, e164_5, e164_8, e164_9, e164_12, e164_14, e164_15, e164_18, e164_19, e164_20, e164_21, e164_22, e164_25, e164_26, e164_27, e164_28, e164_31, e164_35, e164_37, e164_38, e164_41, e164_42, e164_45, e164_46, e164_47, e164_50, e164_51, e164_52, e164_53, e164_54, e164_57, e164_58, e164_59, e164_60, e164_61, e164_64, e164_65, e164_66, e164_69, e164_70, e164_71, e164_72, e164_73, e164_76, e164_77, e164_78, e164_79, e164_82, e164_85, e164_86, e164_89, e164_90, e164_93, e164_94, e164_97, e164_98, e164_99, e164_102, e164_103, e164_104, e164_107, e164_108, e164_110, e164_113, e164_114, e164_115, e164_116, e164_118, e164_119, e164_122, e164_125, e164_128, e164_129, e164_130, e164_133, e164_134, e164_135, e164_136, e164_137, e164_140, e164_143, e164_144, e164_146, e164_147, e164_150, e164_151, e164_154, e164_155, e164_156, e164_159, e164_160, e164_161, e164_162, e164_163, e164_166, e164_167, e164_168, e164_169, e164_172, e164_175, e164_176, e164_179, e164_180, e164_183, e164_184, e164_185, e164_186, e164_188, e164_190, e164_193, e164_194, e164_197, e164_198, e164_199, e164_202, e164_204, e164_205, e164_206, e164_207, e164_208, e164_211, e164_214, e164_215, e164_216, e164_219, e164_220, e164_221, e164_224, e164_225, zs0, zsI, zsL, zsR, ztl1, ztl0, zc0, zcI, zcL, zcR, true_and, and_true, true_implies, false_implies, implies_true, not_true_eq_false, not_false_eq_true, and_self, Int.toNat_natCast, Nat.reduceAdd, Nat.reduceLeDiff, Nat.reduceLT, forall_eq', Option.some.injEq, zarR, zarI, zarL, zle, zq0, zq1, zq2, zq3, zq4, zq5, zq6, zq8, zq9, zq10, zq20, zq7, zq12, zq24, zq40, zq41, zq48, zq100, zq120, zq123, zq480, zq492, zq700, zq729, zq2187, zq2916, zq8748, ne_eq, Int.reduceEq, Int.reduceLT, Int.reduceLE, Int.reduceToNat, Int.reduceMul, Int.reduceAdd, Int.reduceNeg, Int.le_refl]
      exact KK h1 (fun _ _ _ => rfl) (fun b q1 q2 => by omega)
    | succ j ih =>
      intro k h1 hk y1 KK
      have c : ¬ (12 : Int) ≤ k := by omega
      have k3 : (k : Int) < 24 := by omega
      have k4 : ((12 * Y + k : Nat) : Int) < 480 := by omega
      rw [e164_2]
      simp only [e164_0, e164_1, e164_3, e164_5, e164_8, e164_9, e164_12, e164_14, e164_15, e164_18, e164_19, e164_20, e164_21, e164_22, e164_25, e164_26, e164_27, e164_28, e164_31, e164_35, e164_37, e164_38, e164_41, e164_42, e164_45, e164_46, e164_47, e164_50, e164_51, e164_52, e164_53, e164_54, e164_57, e164_58, e164_59, e164_60, e164_61, e164_64, e164_65, e164_66, e164_69, e164_70, e164_71, e164_72, e164_73, e164_76, e164_77, e164_78, e164_79, e164_82, e164_85, e164_86, e164_89, e164_90, e164_93, e164_94, e164_97, e164_98, e164_99, e164_102, e164_103, e164_104, e164_107, e164_108, e164_110, e164_113, e164_114, e164_115, e164_116, e164_118, e164_119, e164_122, e164_125, e164_128, e164_129, e164_130, e164_133, e164_134, e164_135, e164_136, e164_137, e164_140, e164_143, e164_144, e164_146, e164_147, e164_150, e164_151, e164_154, e164_155, e164_156, e164_159, e164_160, e164_161, e164_162, e164_163, e164_166, e164_167, e164_168, e164_169, e164_172, e164_175, e164_176, e164_179, e164_180, e164_183, e164_184, e164_185, e164_186, e164_188, e164_190, e164_193, e164_194, e164_197, e164_198, e164_199, e164_202, e164_204, e164_205, e164_206, e164_207, e164_208, e164_211, e164_214, e164_215, e164_216, e164_219, e164_220, e164_221, e164_224, e164_225, zs0, zsI, zsL, zsR, ztl1, ztl0, zc0, zcI, zcL, zcR, true_and, and_true, true_implies, false_implies, implies_true, not_true_eq_false, not_false_eq_true, and_self, Int.toNat_natCast, Nat.reduceAdd, Nat.reduceLeDiff, Nat.reduceLT, forall_eq', Option.some.injEq, zarR, zarI, zarL, zle, zq0, zq1, zq2, zq3, zq4, zq5, zq6, zq8, zq9, zq10, zq20, zq7, zq12, zq24, zq40, zq41, zq48, zq100, zq120, zq123, zq480, zq492, zq700, zq729, zq2187, zq2916, zq8748, ne_eq, Int.reduceEq, Int.reduceLT, Int.reduceLE, Int.reduceToNat, Int.reduceMul, Int.reduceAdd, Int.reduceNeg, gk91 hg, gr91_5 hg, gr91_22 hg, gr91_23 hg, gr91_24 hg, gr91_25 hg, gr91_26 hg, gr91_27 hg, gr91_28 hg, gr91_29 hg, gr91_32 hg, gr91_33 hg, gr91_34 hg, gr91_35 hg, gr91_36 hg, gr91_37 hg, gr91_38 hg, gr91_39 hg, gr91_40 hg, gr91_41 hg, gr91_42 hg, gr91_44 hg, gr91_45 hg, gr91_46 hg, gr91_48 hg, gr91_49 hg, gr91_50 hg, gr91_51 hg, gr91_52 hg, gk101 hg, gl101 hg, gk104 hg, gl104 hg, c, y1, w12, wrN (z := ((12 * Y : Nat) : Int) + (k : Int)) (m := 12 * Y + k) (by omega) (by omega), k3, k4, wr_s (show k < 2147483647 by omega)]
      apply ih (k + 1) _ (by omega) (by rw [zu_c (by decide)]; exact y1)
      intro h2 f m1
      apply KK h2
      · intro c i q1
        rw [f c i (by omega), zu, if_neg (by omega)]
      · intro b q1 q2
        by_cases q : b = k
        · subst q
          rw [f _ _ (by omega), zu_at]
        · have := m1 b (by omega) q2
          rw [zu_c (by decide)] at this
          exact this
  have k2 := l2 12 0 h (by omega) hY
  rw [zq0] at k2
  simp only [e164_0, e164_1, zs0, zsI, zsL, zsR, ztl1, ztl0, zc0, zcI, zcL, zcR, true_and, and_true, true_implies, false_implies, implies_true, not_true_eq_false, not_false_eq_true, and_self, Int.toNat_natCast, Nat.reduceAdd, Nat.reduceLeDiff, Nat.reduceLT, forall_eq', Option.some.injEq, zarR, zarI, zarL, zle, zq0, zq1, zq2, zq3, zq4, zq5, zq6, zq8, zq9, zq10, zq20, zq7, zq12, zq24, zq40, zq41, zq48, zq100, zq120, zq123, zq480, zq492, zq700, zq729, zq2187, zq2916, zq8748, ne_eq, Int.reduceEq, Int.reduceLT, Int.reduceLE, Int.reduceToNat, Int.reduceMul, Int.reduceAdd, Int.reduceNeg]
  apply k2
  intro h1 f1 m1
  simp only [e164_34, e164_35, zs0, zsI, zsL, zsR, ztl1, ztl0, zc0, zcI, zcL, zcR, true_and, and_true, true_implies, false_implies, implies_true, not_true_eq_false, not_false_eq_true, and_self, Int.toNat_natCast, Nat.reduceAdd, Nat.reduceLeDiff, Nat.reduceLT, forall_eq', Option.some.injEq, zarR, zarI, zarL, zle, zq0, zq1, zq2, zq3, zq4, zq5, zq6, zq8, zq9, zq10, zq20, zq7, zq12, zq24, zq40, zq41, zq48, zq100, zq120, zq123, zq480, zq492, zq700, zq729, zq2187, zq2916, zq8748, ne_eq, Int.reduceEq, Int.reduceLT, Int.reduceLE, Int.reduceToNat, Int.reduceMul, Int.reduceAdd, Int.reduceNeg]
  have k36 := l36 3 0 h1 (by omega) (by rw [f1 _ _ (by omega)]; exact hY)
  rw [zq0] at k36
  apply k36
  intro h2 f2 m2
  apply mid h2
  · intro c i q
    rw [f2 c i (by omega) (by omega), f1 c i (by omega)]
  · intro i hi
    rw [f2 _ _ (by omega) (by omega), f1 _ _ (by omega)]
  · intro k hk
    rw [f2 _ _ (by omega) (by omega)]
    exact m1 k (by omega) hk
  · intro i hi
    rw [f2 _ _ (by omega) (by omega), f2 _ _ (by omega) (by omega), f1 _ _ (by omega), f1 _ _ (by omega)]
    exact ⟨rfl, rfl⟩
  · intro b hb
    have := m2 b (by omega) hb
    rw [f1 _ _ (by omega), f1 _ _ (by omega)] at this
    exact this
  · intro i
    rw [f2 _ _ (by omega) (by omega), f1 _ _ (by omega)]
end PT
