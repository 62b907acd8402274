section YR16
variable {d : Nat} {Q : zQ} {G : zG} {h : zM} {T : aTn} {own oth : Nat → Int} {s k t : Nat} {n : Int}
theorem c_move16 (hg : gS G) (hT : kT h 18 T) (hw : wT T) (hs4 : s < 4) (hk : k < 5) (ht : t < nB T ∨ t = 3) (ho : ∀ t, t < nB T → h 28 t = own t) (hh : ∀ t, t < nB T → h 29 t = oth t) (bo : bP own) (bn : bP oth) (hn : 0 ≤ n ∧ n ≤ 2000000) (b1 : 0 ≤ h 36 s ∧ h 36 s ≤ 100000000) (b2 : 0 ≤ h 35 s ∧ h 35 s ≤ 100000000000) (b3 : t < 3 → -100000000000 ≤ h 34 t ∧ h 34 t ≤ 100000000000) (b4 : t < 3 → 0 ≤ h 33 t ∧ h 33 t ≤ 100000000)
    (K : ∀ h' : zM, (∀ c i, ¬ (c = 36 ∧ i = s) → ¬ (c = 35 ∧ i = s) → ¬ (c = 34 ∧ i = t) → ¬ (c = 33 ∧ i = t) → h' c i = h c i) → h' 36 s = h 36 s + (if k < 3 ∧ ¬ k = t then n else 0) → h' 35 s = h 35 s + (if t = 3 then 0 else n * yPr own oth k t) → (t < 3 → h' 34 t = h 34 t + n * (yPr own oth k t - tr T 0 t)) → (t < 3 → h' 33 t = h 33 t + n) → Q none G h') : zRunD ztb zmt' (d + 1) 56 [zR (some 16), zI s, zI n, zI k, zI t] G h Q := by
  rw [r56]
  have hb := hw.1
  have s4 : (s : Int) < 4 := by omega
  have key : ∀ (h1 : zM), (∀ c i, ¬ (c = 36 ∧ i = s) → h1 c i = h c i) → h1 36 s = h 36 s + (if k < 3 ∧ ¬ k = t then n else 0) → zE 56 d Q 21 [some (zR (some 16)), some (zI s), some (zI n), some (zI k), some (zI t), none, none] [] G h1 (0, 0) := by
    intro h1 hf h2
    by_cases h3 : t = 3
    · subst h3
      simp only [e56_0, e56_1, e56_2, e56_5, e56_6, e56_8, e56_11, e56_12, e56_15, e56_16, e56_17, e56_18, e56_19, e56_20, e56_21, e56_23, e56_24, e56_27, e56_28, e56_29, e56_31, e56_34, e56_35, e56_38, e56_41, e56_43, e56_44, e56_45, e56_48, e56_49, e56_52, e56_55, e56_57, e56_58, e56_59, e56_61, e56_62, e56_65, e56_66, e56_67, e56_68, e56_69, e56_70, e56_72, e56_73, e56_74, e56_75, e56_76, e56_79, e56_81, e56_82, e56_83, e56_84, e56_85, e56_87, e56_88, e56_91, e56_94, e56_96, e56_97, e56_98, e56_99, e56_100, e56_101, e56_102, e56_103, e56_106, e56_108, e56_109, e56_110, e56_111, e56_112, e56_113, zs0, zsI, zsL, zsR, ztl1, ztl0, zc0, zcI, zcL, zcR, true_and, and_true, true_implies, false_implies, implies_true, not_true_eq_false, not_false_eq_true, and_self, Int.toNat_natCast, Nat.reduceAdd, Nat.reduceLeDiff, Nat.reduceLT, forall_eq', Option.some.injEq, zarR, zarI, zarL, zle, zq0, zq1, zq2, zq3, zq4, zq5, zq6, zq8, zq9, zq10, zq20, zq7, zq12, zq24, zq40, zq41, zq48, zq100, zq120, zq123, zq480, zq492, zq700, zq729, zq2187, zq2916, zq8748, ne_eq, Int.reduceEq, Int.reduceLT, Int.reduceLE, Int.reduceToNat, Int.reduceMul, Int.reduceAdd, Int.reduceNeg]
      apply K
      · intro c i q1 _ _ _
        exact hf c i q1
      · exact h2
      · rw [hf _ _ (by omega), if_pos rfl, Int.add_zero]
      · intro q; omega
      · intro q; omega
    · have t3 : t < 3 := by omega
      have t3' : (t : Int) < 3 := by omega
      have n3 : ¬ (t : Int) = 3 := by omega
      have e1 : h1 28 t = own t := by rw [hf _ _ (by omega)]; exact ho t (by omega)
      have e2 : h1 29 t = oth t := by rw [hf _ _ (by omega)]; exact hh t (by omega)
      have e3 : h1 19 t = tr T 0 t := by rw [hf _ _ (by omega)]; exact hT.2.2.2.2.2.1 t (by omega)
      have e4 : h1 35 s = h 35 s := hf _ _ (by omega)
      have e5 : h1 34 t = h 34 t := hf _ _ (by omega)
      have e6 : h1 33 t = h 33 t := hf _ _ (by omega)
      have b3' := b3 t3
      have b4' := b4 t3
      have p1 := yPr_b bo bn k t
      have p2 := (hw.2.2.2.2.2 t).1
      have p3 := mulb hn.1 hn.2 p1.1 p1.2 (by decide) (by decide)
      have p4 := mulb (p := yPr own oth k t - tr T 0 t) (lo := -199) (hi := 199) hn.1 hn.2 (by omega) (by omega) (by decide) (by decide)
      have fin : Q none G (zu (zu (zu h1 35 s (h 35 s + n * yPr own oth k t)) 34 t (h 34 t + n * (yPr own oth k t - tr T 0 t))) 33 t (h 33 t + n)) := by
        apply K
        · intro c i q1 q2 q3 q4
          unfold zu
          rw [if_neg q4, if_neg q3, if_neg q2]
          exact hf c i q1
        · rw [zu_c (by decide), zu_c (by decide), zu_c (by decide)]
          exact h2
        · rw [zu_c (by decide), zu_c (by decide), zu_at, if_neg h3]
        · intro _
          rw [zu_c (by decide), zu_at]
        · intro _
          rw [zu_at]
      by_cases hkt : k = t
      · have c1 : (k : Int) = t := by omega
        have pe : yPr own oth k t = own t := if_pos hkt
        rw [pe] at p3 p4 fin p1
        simp only [e56_0, e56_1, e56_2, e56_5, e56_6, e56_8, e56_11, e56_12, e56_15, e56_16, e56_17, e56_18, e56_19, e56_20, e56_21, e56_23, e56_24, e56_27, e56_28, e56_29, e56_31, e56_34, e56_35, e56_38, e56_41, e56_43, e56_44, e56_45, e56_48, e56_49, e56_52, e56_55, e56_57, e56_58, e56_59, e56_61, e56_62, e56_65, e56_66, e56_67, e56_68, e56_69, e56_70, e56_72, e56_73, e56_74, e56_75, e56_76, e56_79, e56_81, e56_82, e56_83, e56_84, e56_85, e56_87, e56_88, e56_91, e56_94, e56_96, e56_97, e56_98, e56_99, e56_100, e56_101, e56_102, e56_103, e56_106, e56_108, e56_109, e56_110, e56_111, e56_112, e56_113, zs0, zsI, zsL, zsR, ztl1, ztl0, zc0, zcI, zcL, zcR, true_and, and_true, true_implies, false_implies, implies_true, not_true_eq_false, not_false_eq_true, and_self, Int.toNat_natCast, Nat.reduceAdd, Nat.reduceLeDiff, Nat.reduceLT, forall_eq', Option.some.injEq, zarR, zarI, zarL, zle, zq0, zq1, zq2, zq3, zq4, zq5, zq6, zq8, zq9, zq10, zq20, zq7, zq12, zq24, zq40, zq41, zq48, zq100, zq120, zq123, zq480, zq492, zq700, zq729, zq2187, zq2916, zq8748, ne_eq, Int.reduceEq, Int.reduceLT, Int.reduceLE, Int.reduceToNat, Int.reduceMul, Int.reduceAdd, Int.reduceNeg, gk16 hg, gr16_0 hg, gr16_1 hg, gr16_2 hg, gr16_3 hg, gr16_4 hg, gr16_5 hg, gr16_6 hg, gr16_7 hg, gr16_8 hg, gk17 hg, gr17_0 hg, gr17_1 hg, gr17_2 hg, gr17_3 hg, gk18 hg, gr18_0 hg, gr18_1 hg, gr18_2 hg, gr18_3 hg, gr18_4 hg, gr18_5 hg, gr18_6 hg, gr18_7 hg, gr18_8 hg, gk28 hg, gl28 hg, gk29 hg, gl29 hg, gk19 hg, gl19 hg, gk33 hg, gl33 hg, gk34 hg, gl34 hg, gk35 hg, gl35 hg, gk36 hg, gl36 hg, n3, t3', s4, c1, e1, e2, e3, e4, e5, e6, zu_c (show ¬ 34 = 35 by decide), zu_c (show ¬ 33 = 34 by decide), zu_c (show ¬ 33 = 35 by decide), zu_c (show ¬ 19 = 35 by decide)]
        simp (disch := omega) only [wr_id, wl_id]
        exact fin
      · have c1 : ¬ (k : Int) = t := by omega
        have pe : yPr own oth k t = oth t := if_neg hkt
        rw [pe] at p3 p4 fin p1
        simp only [e56_0, e56_1, e56_2, e56_5, e56_6, e56_8, e56_11, e56_12, e56_15, e56_16, e56_17, e56_18, e56_19, e56_20, e56_21, e56_23, e56_24, e56_27, e56_28, e56_29, e56_31, e56_34, e56_35, e56_38, e56_41, e56_43, e56_44, e56_45, e56_48, e56_49, e56_52, e56_55, e56_57, e56_58, e56_59, e56_61, e56_62, e56_65, e56_66, e56_67, e56_68, e56_69, e56_70, e56_72, e56_73, e56_74, e56_75, e56_76, e56_79, e56_81, e56_82, e56_83, e56_84, e56_85, e56_87, e56_88, e56_91, e56_94, e56_96, e56_97, e56_98, e56_99, e56_100, e56_101, e56_102, e56_103, e56_106, e56_108, e56_109, e56_110, e56_111, e56_112, e56_113, zs0, zsI, zsL, zsR, ztl1, ztl0, zc0, zcI, zcL, zcR, true_and, and_true, true_implies, false_implies, implies_true, not_true_eq_false, not_false_eq_true, and_self, Int.toNat_natCast, Nat.reduceAdd, Nat.reduceLeDiff, Nat.reduceLT, forall_eq', Option.some.injEq, zarR, zarI, zarL, zle, zq0, zq1, zq2, zq3, zq4, zq5, zq6, zq8, zq9, zq10, zq20, zq7, zq12, zq24, zq40, zq41, zq48, zq100, zq120, zq123, zq480, zq492, zq700, zq729, zq2187, zq2916, zq8748, ne_eq, Int.reduceEq, Int.reduceLT, Int.reduceLE, Int.reduceToNat, Int.reduceMul, Int.reduceAdd, Int.reduceNeg, gk16 hg, gr16_0 hg, gr16_1 hg, gr16_2 hg, gr16_3 hg, gr16_4 hg, gr16_5 hg, gr16_6 hg, gr16_7 hg, gr16_8 hg, gk17 hg, gr17_0 hg, gr17_1 hg, gr17_2 hg, gr17_3 hg, gk18 hg, gr18_0 hg, gr18_1 hg, gr18_2 hg, gr18_3 hg, gr18_4 hg, gr18_5 hg, gr18_6 hg, gr18_7 hg, gr18_8 hg, gk28 hg, gl28 hg, gk29 hg, gl29 hg, gk19 hg, gl19 hg, gk33 hg, gl33 hg, gk34 hg, gl34 hg, gk35 hg, gl35 hg, gk36 hg, gl36 hg, n3, t3', s4, c1, e1, e2, e3, e4, e5, e6, zu_c (show ¬ 34 = 35 by decide), zu_c (show ¬ 33 = 34 by decide), zu_c (show ¬ 33 = 35 by decide), zu_c (show ¬ 19 = 35 by decide)]
        simp (disch := omega) only [wr_id, wl_id]
        exact fin
  by_cases hk3 : k < 3
  · have c0 : ¬ (3 : Int) ≤ k := by omega
    by_cases hkt : k = t
    · have c1 : (k : Int) = t := by omega
      simp only [e56_0, e56_1, e56_2, e56_5, e56_6, e56_8, e56_11, e56_12, e56_15, e56_16, e56_17, e56_18, e56_19, e56_20, zs0, zsI, zsL, zsR, ztl1, ztl0, zc0, zcI, zcL, zcR, true_and, and_true, true_implies, false_implies, implies_true, not_true_eq_false, not_false_eq_true, and_self, Int.toNat_natCast, Nat.reduceAdd, Nat.reduceLeDiff, Nat.reduceLT, forall_eq', Option.some.injEq, zarR, zarI, zarL, zle, zq0, zq1, zq2, zq3, zq4, zq5, zq6, zq8, zq9, zq10, zq20, zq7, zq12, zq24, zq40, zq41, zq48, zq100, zq120, zq123, zq480, zq492, zq700, zq729, zq2187, zq2916, zq8748, ne_eq, Int.reduceEq, Int.reduceLT, Int.reduceLE, Int.reduceToNat, Int.reduceMul, Int.reduceAdd, Int.reduceNeg, c0, c1]
      rw [← c1] at key ⊢
      have kk := key h (fun _ _ _ => rfl) (by rw [if_neg (fun q => q.2 hkt), Int.add_zero])
      exact ⟨fun _ => kk, fun _ => kk⟩
    · have c1 : ¬ (k : Int) = t := by omega
      simp only [e56_0, e56_1, e56_2, e56_5, e56_6, e56_8, e56_11, e56_12, e56_15, e56_16, e56_17, e56_18, e56_19, e56_20, zs0, zsI, zsL, zsR, ztl1, ztl0, zc0, zcI, zcL, zcR, true_and, and_true, true_implies, false_implies, implies_true, not_true_eq_false, not_false_eq_true, and_self, Int.toNat_natCast, Nat.reduceAdd, Nat.reduceLeDiff, Nat.reduceLT, forall_eq', Option.some.injEq, zarR, zarI, zarL, zle, zq0, zq1, zq2, zq3, zq4, zq5, zq6, zq8, zq9, zq10, zq20, zq7, zq12, zq24, zq40, zq41, zq48, zq100, zq120, zq123, zq480, zq492, zq700, zq729, zq2187, zq2916, zq8748, ne_eq, Int.reduceEq, Int.reduceLT, Int.reduceLE, Int.reduceToNat, Int.reduceMul, Int.reduceAdd, Int.reduceNeg, gk16 hg, gr16_0 hg, gr16_1 hg, gr16_2 hg, gr16_3 hg, gr16_4 hg, gr16_5 hg, gr16_6 hg, gr16_7 hg, gr16_8 hg, gk36 hg, gl36 hg, c0, c1, s4]
      rw [wr_id (by omega)]
      apply key
      · intro c i q1
        unfold zu
        rw [if_neg q1]
      · rw [zu_at, if_pos ⟨hk3, hkt⟩]
  · have c0 : (3 : Int) ≤ k := by omega
    simp only [e56_0, e56_1, e56_2, e56_5, e56_6, e56_8, e56_11, e56_12, e56_15, e56_16, e56_17, e56_18, e56_19, e56_20, zs0, zsI, zsL, zsR, ztl1, ztl0, zc0, zcI, zcL, zcR, true_and, and_true, true_implies, false_implies, implies_true, not_true_eq_false, not_false_eq_true, and_self, Int.toNat_natCast, Nat.reduceAdd, Nat.reduceLeDiff, Nat.reduceLT, forall_eq', Option.some.injEq, zarR, zarI, zarL, zle, zq0, zq1, zq2, zq3, zq4, zq5, zq6, zq8, zq9, zq10, zq20, zq7, zq12, zq24, zq40, zq41, zq48, zq100, zq120, zq123, zq480, zq492, zq700, zq729, zq2187, zq2916, zq8748, ne_eq, Int.reduceEq, Int.reduceLT, Int.reduceLE, Int.reduceToNat, Int.reduceMul, Int.reduceAdd, Int.reduceNeg, c0]
    exact key h (fun _ _ _ => rfl) (by rw [if_neg (fun q => hk3 q.1), Int.add_zero])
def yI16 (T : aTn) (own oth : Nat → Int) (n : Nat → Nat → Int) (to : Nat → Nat → Nat) (h h1 : zM) (s k : Nat) : Prop := (∀ c i, c < 33 ∨ 37 < c → h1 c i = h c i) ∧ (∀ s', s' < s → h1 36 s' = aLeft n to s' 5) ∧ (∀ s', s' < s → h1 35 s' = aPaid own oth n to s' 5) ∧ (∀ b s', b < 3 → s' < s → h1 37 (b * 4 + s') = aNext T n to b s') ∧ (∀ b, b < 3 → h1 34 b = aEarS T own oth n to b s + aEar T own oth n to b s k) ∧ (∀ b, b < 3 → h1 33 b = aCame n to b s k) ∧ h1 36 s = aLeft n to s k ∧ h1 35 s = aPaid own oth n to s k
theorem c_pass16 (hg : gS G) (hT : kT h 18 T) (hw : wT T) (ho : ∀ t, t < nB T → h 28 t = own t) (hh : ∀ t, t < nB T → h 29 t = oth t) (bo : bP own) (bn : bP oth) {rh ha rc ca : Nat} {n : Nat → Nat → Int} {to : Nat → Nat → Nat} (hn : nOk n) (k1 : G.2.1 rh = 10) (k2 : ha + 12 ≤ G.2.2.1 rh) (k3 : (ha : Int) < 100000) (k4 : rh < 33 ∨ 37 < rh) (k5 : G.2.1 rc = 10) (k6 : ca + nS T ≤ G.2.2.1 rc) (k7 : (ca : Int) < 100000) (k8 : rc < 33 ∨ 37 < rc)
    (hheld : ∀ s k, s < nS T → k < 3 → h rh (ha + k * 4 + s) = n s k) (hnear : ∀ s, s < nS T → h 31 s = n s 3) (hfar : ∀ s, s < nS T → h 32 s = n s 4)
    (hch : ∀ s k, s < nS T → k < 5 → 0 < n s k → zand (h rc (ca + s) / 2 ^ (2 * k)) 3 = (to s k : Nat)) (hto : ∀ s k, s < nS T → k < 5 → 0 < n s k → to s k < nB T ∨ to s k = 3)
    (K : ∀ h' : zM, (∀ c i, c < 33 ∨ 37 < c → h' c i = h c i) → (∀ s, s < nS T → h' 36 s = aLeft n to s 5) → (∀ s, s < nS T → h' 35 s = aPaid own oth n to s 5) → (∀ b, b < 3 → h' 34 b = aEarS T own oth n to b (nS T)) → (∀ b s, b < 3 → s < nS T → h' 37 (b * 4 + s) = aNext T n to b s) → Q none G h') : zRunD ztb zmt' (d + 2) 55 [zR (some 16), zR (some rh), zI ha, zR (some rc), zI ca] G h Q := by
  rw [r55]
  have hb := hw.1
  have hns := hw.2.1
  -- the kinds
  have kinds : ∀ j k s (h1 : zM) (l7 : Option zV), s < nS T → k + j = 5 → yI16 T own oth n to h h1 s k → (∀ (h2 : zM) (l7 : Option zV), yI16 T own oth n to h h2 s 5 → zE 55 (d + 1) Q 136 [some (zR (some 16)), some (zR (some rh)), some (zI ha), some (zR (some rc)), some (zI ca), some (zI s), some (zI 5), l7] [] G h2 (0, 0)) → zE 55 (d + 1) Q 50 [some (zR (some 16)), some (zR (some rh)), some (zI ha), some (zR (some rc)), some (zI ca), some (zI s), some (zI k), l7] [] G h1 (0, 0) := by
    intro j
    induction j with
    | zero =>
      intro k s h1 l7 hs hk hI KK
      have hk' : k = 5 := by omega
      subst hk'
      rw [e55_50]
      simp only [e55_0, e55_1, e55_4, e55_5, e55_8, e55_9, e55_13, e55_14, e55_17, e55_20, e55_23, e55_24, e55_27, e55_29, e55_30, e55_31, e55_32, e55_35, e55_37, e55_38, e55_39, e55_40, e55_43, e55_44, e55_47, e55_48, e55_52, e55_53, e55_56, e55_58, e55_59, e55_62, e55_63, e55_66, e55_68, e55_69, e55_72, e55_74, e55_75, e55_78, e55_79, e55_82, e55_84, e55_85, e55_88, e55_89, e55_90, e55_92, e55_93, e55_94, e55_95, e55_97, e55_98, e55_99, e55_101, e55_103, e55_106, e55_107, e55_109, e55_111, e55_113, e55_114, e55_116, e55_118, e55_119, e55_120, e55_121, e55_123, e55_124, e55_125, e55_126, e55_127, e55_130, e55_133, e55_137, e55_141, e55_142, e55_145, e55_146, e55_149, e55_151, e55_152, e55_153, e55_155, e55_156, e55_157, e55_160, e55_162, e55_163, e55_164, e55_167, e55_170, e55_172, e55_173, e55_174, e55_176, e55_177, e55_178, e55_181, e55_184, e55_187, e55_190, zs0, zsI, zsL, zsR, ztl1, ztl0, zc0, zcI, zcL, zcR, true_and, and_true, true_implies, false_implies, implies_true, not_true_eq_false, not_false_eq_true, and_self, Int.toNat_natCast, Nat.reduceAdd, Nat.reduceLeDiff, Nat.reduceLT, forall_eq', Option.some.injEq, zarR, zarI, zarL, zle, zq0, zq1, zq2, zq3, zq4, zq5, zq6, zq8, zq9, zq10, zq20, zq7, zq12, zq24, zq40, zq41, zq48, zq100, zq120, zq123, zq480, zq492, zq700, zq729, zq2187, zq2916, zq8748, ne_eq, Int.reduceEq, Int.reduceLT, Int.reduceLE, Int.reduceToNat, Int.reduceMul, Int.reduceAdd, Int.reduceNeg]
      exact KK h1 l7 hI
    | succ j ih =>
      intro k s h1 l7 hs hk hI KK
      obtain ⟨f0, f1, f2, f3, f4, f5, f6, f7⟩ := hI
      have n1 := nOk1 hn s k (by omega)
      have c5 : ¬ (5 : Int) ≤ k := by omega
      have s4 : (s : Int) < 4 := by omega
      have rest : zE 55 (d + 1) Q 99 [some (zR (some 16)), some (zR (some rh)), some (zI ha), some (zR (some rc)), some (zI ca), some (zI s), some (zI k), l7] [zI (n s k)] G h1 (0, 0) := by
        by_cases hz : n s k ≤ 0
        · have hz0 : n s k = 0 := by omega
          simp only [e55_0, e55_1, e55_4, e55_5, e55_8, e55_9, e55_13, e55_14, e55_17, e55_20, e55_23, e55_24, e55_27, e55_29, e55_30, e55_31, e55_32, e55_35, e55_37, e55_38, e55_39, e55_40, e55_43, e55_44, e55_47, e55_48, e55_52, e55_53, e55_56, e55_58, e55_59, e55_62, e55_63, e55_66, e55_68, e55_69, e55_72, e55_74, e55_75, e55_78, e55_79, e55_82, e55_84, e55_85, e55_88, e55_89, e55_90, e55_92, e55_93, e55_94, e55_95, e55_97, e55_98, e55_99, e55_101, e55_103, e55_106, e55_107, e55_109, e55_111, e55_113, e55_114, e55_116, e55_118, e55_119, e55_120, e55_121, e55_123, e55_124, e55_125, e55_126, e55_127, e55_130, e55_133, e55_136, e55_137, e55_141, e55_142, e55_145, e55_146, e55_149, e55_151, e55_152, e55_153, e55_155, e55_156, e55_157, e55_160, e55_162, e55_163, e55_164, e55_167, e55_170, e55_172, e55_173, e55_174, e55_176, e55_177, e55_178, e55_181, e55_184, e55_187, e55_190, zs0, zsI, zsL, zsR, ztl1, ztl0, zc0, zcI, zcL, zcR, true_and, and_true, true_implies, false_implies, implies_true, not_true_eq_false, not_false_eq_true, and_self, Int.toNat_natCast, Nat.reduceAdd, Nat.reduceLeDiff, Nat.reduceLT, forall_eq', Option.some.injEq, zarR, zarI, zarL, zle, zq0, zq1, zq2, zq3, zq4, zq5, zq6, zq8, zq9, zq10, zq20, zq7, zq12, zq24, zq40, zq41, zq48, zq100, zq120, zq123, zq480, zq492, zq700, zq729, zq2187, zq2916, zq8748, ne_eq, Int.reduceEq, Int.reduceLT, Int.reduceLE, Int.reduceToNat, Int.reduceMul, Int.reduceAdd, Int.reduceNeg, hz, wr_s (show k < 2147483647 by omega)]
          apply ih (k + 1) s h1 _ hs (by omega) _ KK
          refine ⟨f0, f1, f2, f3, ?_, ?_, ?_, ?_⟩
          · intro b hb3
            rw [f4 b hb3, aEar, hz0, Int.zero_mul]
            split <;> rw [Int.add_zero]
          · intro b hb3
            rw [f5 b hb3, aCame, hz0]
            split <;> rw [Int.add_zero]
          · rw [f6, aLeft, hz0]
            split <;> rw [Int.add_zero]
          · rw [f7, aPaid, hz0, Int.zero_mul]
            split <;> rw [Int.add_zero]
        · have hp : 0 < n s k := by omega
          have w2 : ((ca + s : Nat) : Int) < (G.2.2.1 rc : Int) := by omega
          have w4 : ((2 * k : Nat) : Int) < 32 := by omega
          have w5 : h1 rc (ca + s) = h rc (ca + s) := f0 rc _ k8
          have w6 := hch s k hs (by omega) hp
          have w7 := hto s k hs (by omega) hp
          have g1 := aLeft_b (to := to) hn s k (by omega)
          have g2 := aPaid_b (to := to) hn bo bn s k (by omega)
          have hT1 : kT h1 18 T := kT_frame hT (fun c i q1 q2 => f0 c i (by omega))
          simp only [e55_0, e55_1, e55_4, e55_5, e55_8, e55_9, e55_13, e55_14, e55_17, e55_20, e55_23, e55_24, e55_27, e55_29, e55_30, e55_31, e55_32, e55_35, e55_37, e55_38, e55_39, e55_40, e55_43, e55_44, e55_47, e55_48, e55_52, e55_53, e55_56, e55_58, e55_59, e55_62, e55_63, e55_66, e55_68, e55_69, e55_72, e55_74, e55_75, e55_78, e55_79, e55_82, e55_84, e55_85, e55_88, e55_89, e55_90, e55_92, e55_93, e55_94, e55_95, e55_97, e55_98, e55_99, e55_101, e55_103, e55_106, e55_107, e55_109, e55_111, e55_113, e55_114, e55_116, e55_118, e55_119, e55_120, e55_121, e55_123, e55_124, e55_125, e55_126, e55_127, e55_130, e55_133, e55_136, e55_137, e55_141, e55_142, e55_145, e55_146, e55_149, e55_151, e55_152, e55_153, e55_155, e55_156, e55_157, e55_160, e55_162, e55_163, e55_164, e55_167, e55_170, e55_172, e55_173, e55_174, e55_176, e55_177, e55_178, e55_181, e55_184, e55_187, e55_190, zs0, zsI, zsL, zsR, ztl1, ztl0, zc0, zcI, zcL, zcR, true_and, and_true, true_implies, false_implies, implies_true, not_true_eq_false, not_false_eq_true, and_self, Int.toNat_natCast, Nat.reduceAdd, Nat.reduceLeDiff, Nat.reduceLT, forall_eq', Option.some.injEq, zarR, zarI, zarL, zle, zq0, zq1, zq2, zq3, zq4, zq5, zq6, zq8, zq9, zq10, zq20, zq7, zq12, zq24, zq40, zq41, zq48, zq100, zq120, zq123, zq480, zq492, zq700, zq729, zq2187, zq2916, zq8748, ne_eq, Int.reduceEq, Int.reduceLT, Int.reduceLE, Int.reduceToNat, Int.reduceMul, Int.reduceAdd, Int.reduceNeg, gk16 hg, gr16_0 hg, gr16_1 hg, gr16_2 hg, gr16_3 hg, gr16_4 hg, gr16_5 hg, gr16_6 hg, gr16_7 hg, gr16_8 hg, hz, wrN (z := (ca : Int) + s) (m := ca + s) (by omega) (by omega), w2, wrN (z := 2 * (k : Int)) (m := 2 * k) (by omega) (by omega), w4, w5, w6, k5]
          clear w6
          apply c_move16 (d := d) (T := T) (own := own) (oth := oth) hg hT1 hw (by omega) (by omega) w7 (fun t ht => by rw [f0 _ _ (by omega)]; exact ho t ht) (fun t ht => by rw [f0 _ _ (by omega)]; exact hh t ht) bo bn n1
          · rw [f6]
            omega
          · rw [f7]
            omega
          · intro t3
            rw [f4 _ t3]
            have g3 := aEar_b (to := to) hw hn bo bn (to s k) s k (by omega)
            have g4 := aEarS_b (to := to) hw hn bo bn (to s k) s
            omega
          · intro t3
            rw [f5 _ t3]
            have g3 := aCame_b (to := to) hn (to s k) s k (by omega)
            omega
          · intro h2 m0 m1 m2 m3 m4
            simp only [e55_0, e55_1, e55_4, e55_5, e55_8, e55_9, e55_13, e55_14, e55_17, e55_20, e55_23, e55_24, e55_27, e55_29, e55_30, e55_31, e55_32, e55_35, e55_37, e55_38, e55_39, e55_40, e55_43, e55_44, e55_47, e55_48, e55_52, e55_53, e55_56, e55_58, e55_59, e55_62, e55_63, e55_66, e55_68, e55_69, e55_72, e55_74, e55_75, e55_78, e55_79, e55_82, e55_84, e55_85, e55_88, e55_89, e55_90, e55_92, e55_93, e55_94, e55_95, e55_97, e55_98, e55_99, e55_101, e55_103, e55_106, e55_107, e55_109, e55_111, e55_113, e55_114, e55_116, e55_118, e55_119, e55_120, e55_121, e55_123, e55_124, e55_125, e55_126, e55_127, e55_130, e55_133, e55_136, e55_137, e55_141, e55_142, e55_145, e55_146, e55_149, e55_151, e55_152, e55_153, e55_155, e55_156, e55_157, e55_160, e55_162, e55_163, e55_164, e55_167, e55_170, e55_172, e55_173, e55_174, e55_176, e55_177, e55_178, e55_181, e55_184, e55_187, e55_190, zs0, zsI, zsL, zsR, ztl1, ztl0, zc0, zcI, zcL, zcR, true_and, and_true, true_implies, false_implies, implies_true, not_true_eq_false, not_false_eq_true, and_self, Int.toNat_natCast, Nat.reduceAdd, Nat.reduceLeDiff, Nat.reduceLT, forall_eq', Option.some.injEq, zarR, zarI, zarL, zle, zq0, zq1, zq2, zq3, zq4, zq5, zq6, zq8, zq9, zq10, zq20, zq7, zq12, zq24, zq40, zq41, zq48, zq100, zq120, zq123, zq480, zq492, zq700, zq729, zq2187, zq2916, zq8748, ne_eq, Int.reduceEq, Int.reduceLT, Int.reduceLE, Int.reduceToNat, Int.reduceMul, Int.reduceAdd, Int.reduceNeg, wr_s (show k < 2147483647 by omega)]
            apply ih (k + 1) s h2 _ hs (by omega) _ KK
            refine ⟨?_, ?_, ?_, ?_, ?_, ?_, ?_, ?_⟩
            · intro c i q1
              rw [m0 c i (by omega) (by omega) (by omega) (by omega)]
              exact f0 c i q1
            · intro s' q1
              rw [m0 _ _ (by omega) (by omega) (by omega) (by omega)]
              exact f1 s' q1
            · intro s' q1
              rw [m0 _ _ (by omega) (by omega) (by omega) (by omega)]
              exact f2 s' q1
            · intro b s' q1 q2
              rw [m0 _ _ (by omega) (by omega) (by omega) (by omega)]
              exact f3 b s' q1 q2
            · intro b q1
              by_cases q2 : to s k = b
              · subst q2
                rw [m3 q1, f4 _ q1, aEar, if_pos rfl, Int.add_assoc]
              · rw [m0 _ _ (by omega) (by omega) (by omega) (by omega), f4 b q1, aEar, if_neg q2, Int.add_zero]
            · intro b q1
              by_cases q2 : to s k = b
              · subst q2
                rw [m4 q1, f5 _ q1, aCame, if_pos rfl]
              · rw [m0 _ _ (by omega) (by omega) (by omega) (by omega), f5 b q1, aCame, if_neg q2, Int.add_zero]
            · rw [m1, f6, aLeft]
            · rw [m2, f7, aPaid]
      rw [e55_50]
      by_cases hk3 : k = 3
      · subst hk3
        have e1 : h1 31 s = n s 3 := by rw [f0 _ _ (by omega)]; exact hnear s hs
        simp only [e55_0, e55_1, e55_4, e55_5, e55_8, e55_9, e55_13, e55_14, e55_17, e55_20, e55_23, e55_24, e55_27, e55_29, e55_30, e55_31, e55_32, e55_35, e55_37, e55_38, e55_39, e55_40, e55_43, e55_44, e55_47, e55_48, e55_52, e55_53, e55_56, e55_58, e55_59, e55_62, e55_63, e55_66, e55_68, e55_69, e55_72, e55_74, e55_75, e55_78, e55_79, e55_82, e55_84, e55_85, e55_88, e55_89, e55_90, e55_92, e55_93, e55_94, e55_95, e55_97, e55_98, e55_101, e55_103, e55_106, e55_107, e55_109, e55_111, e55_113, e55_114, e55_116, e55_118, e55_119, e55_120, e55_121, e55_123, e55_124, e55_125, e55_126, e55_127, e55_130, e55_133, e55_136, e55_137, e55_141, e55_142, e55_145, e55_146, e55_149, e55_151, e55_152, e55_153, e55_155, e55_156, e55_157, e55_160, e55_162, e55_163, e55_164, e55_167, e55_170, e55_172, e55_173, e55_174, e55_176, e55_177, e55_178, e55_181, e55_184, e55_187, e55_190, zs0, zsI, zsL, zsR, ztl1, ztl0, zc0, zcI, zcL, zcR, true_and, and_true, true_implies, false_implies, implies_true, not_true_eq_false, not_false_eq_true, and_self, Int.toNat_natCast, Nat.reduceAdd, Nat.reduceLeDiff, Nat.reduceLT, forall_eq', Option.some.injEq, zarR, zarI, zarL, zle, zq0, zq1, zq2, zq3, zq4, zq5, zq6, zq8, zq9, zq10, zq20, zq7, zq12, zq24, zq40, zq41, zq48, zq100, zq120, zq123, zq480, zq492, zq700, zq729, zq2187, zq2916, zq8748, ne_eq, Int.reduceEq, Int.reduceLT, Int.reduceLE, Int.reduceToNat, Int.reduceMul, Int.reduceAdd, Int.reduceNeg, gk16 hg, gr16_0 hg, gr16_1 hg, gr16_2 hg, gr16_3 hg, gr16_4 hg, gr16_5 hg, gr16_6 hg, gr16_7 hg, gr16_8 hg, gk31 hg, gl31 hg, gk32 hg, gl32 hg, s4, e1]
        exact rest
      · have c3 : ¬ (k : Int) = 3 := by omega
        by_cases hk4 : k = 4
        · subst hk4
          have e1 : h1 32 s = n s 4 := by rw [f0 _ _ (by omega)]; exact hfar s hs
          simp only [e55_0, e55_1, e55_4, e55_5, e55_8, e55_9, e55_13, e55_14, e55_17, e55_20, e55_23, e55_24, e55_27, e55_29, e55_30, e55_31, e55_32, e55_35, e55_37, e55_38, e55_39, e55_40, e55_43, e55_44, e55_47, e55_48, e55_52, e55_53, e55_56, e55_58, e55_59, e55_62, e55_63, e55_66, e55_68, e55_69, e55_72, e55_74, e55_75, e55_78, e55_79, e55_82, e55_84, e55_85, e55_88, e55_89, e55_90, e55_92, e55_93, e55_94, e55_95, e55_97, e55_98, e55_101, e55_103, e55_106, e55_107, e55_109, e55_111, e55_113, e55_114, e55_116, e55_118, e55_119, e55_120, e55_121, e55_123, e55_124, e55_125, e55_126, e55_127, e55_130, e55_133, e55_136, e55_137, e55_141, e55_142, e55_145, e55_146, e55_149, e55_151, e55_152, e55_153, e55_155, e55_156, e55_157, e55_160, e55_162, e55_163, e55_164, e55_167, e55_170, e55_172, e55_173, e55_174, e55_176, e55_177, e55_178, e55_181, e55_184, e55_187, e55_190, zs0, zsI, zsL, zsR, ztl1, ztl0, zc0, zcI, zcL, zcR, true_and, and_true, true_implies, false_implies, implies_true, not_true_eq_false, not_false_eq_true, and_self, Int.toNat_natCast, Nat.reduceAdd, Nat.reduceLeDiff, Nat.reduceLT, forall_eq', Option.some.injEq, zarR, zarI, zarL, zle, zq0, zq1, zq2, zq3, zq4, zq5, zq6, zq8, zq9, zq10, zq20, zq7, zq12, zq24, zq40, zq41, zq48, zq100, zq120, zq123, zq480, zq492, zq700, zq729, zq2187, zq2916, zq8748, ne_eq, Int.reduceEq, Int.reduceLT, Int.reduceLE, Int.reduceToNat, Int.reduceMul, Int.reduceAdd, Int.reduceNeg, gk16 hg, gr16_0 hg, gr16_1 hg, gr16_2 hg, gr16_3 hg, gr16_4 hg, gr16_5 hg, gr16_6 hg, gr16_7 hg, gr16_8 hg, gk31 hg, gl31 hg, gk32 hg, gl32 hg, s4, e1, show ((4 : Nat) : Int) = 4 from rfl]
          exact rest
        · have c4 : ¬ (k : Int) = 4 := by omega
          have e1 : h1 rh (ha + k * 4 + s) = n s k := by rw [f0 _ _ k4]; exact hheld s k hs (by omega)
          have w4 : ((ha + k * 4 + s : Nat) : Int) < (G.2.2.1 rh : Int) := by omega
          simp only [e55_0, e55_1, e55_4, e55_5, e55_8, e55_9, e55_13, e55_14, e55_17, e55_20, e55_23, e55_24, e55_27, e55_29, e55_30, e55_31, e55_32, e55_35, e55_37, e55_38, e55_39, e55_40, e55_43, e55_44, e55_47, e55_48, e55_52, e55_53, e55_56, e55_58, e55_59, e55_62, e55_63, e55_66, e55_68, e55_69, e55_72, e55_74, e55_75, e55_78, e55_79, e55_82, e55_84, e55_85, e55_88, e55_89, e55_90, e55_92, e55_93, e55_94, e55_95, e55_97, e55_98, e55_101, e55_103, e55_106, e55_107, e55_109, e55_111, e55_113, e55_114, e55_116, e55_118, e55_119, e55_120, e55_121, e55_123, e55_124, e55_125, e55_126, e55_127, e55_130, e55_133, e55_136, e55_137, e55_141, e55_142, e55_145, e55_146, e55_149, e55_151, e55_152, e55_153, e55_155, e55_156, e55_157, e55_160, e55_162, e55_163, e55_164, e55_167, e55_170, e55_172, e55_173, e55_174, e55_176, e55_177, e55_178, e55_181, e55_184, e55_187, e55_190, zs0, zsI, zsL, zsR, ztl1, ztl0, zc0, zcI, zcL, zcR, true_and, and_true, true_implies, false_implies, implies_true, not_true_eq_false, not_false_eq_true, and_self, Int.toNat_natCast, Nat.reduceAdd, Nat.reduceLeDiff, Nat.reduceLT, forall_eq', Option.some.injEq, zarR, zarI, zarL, zle, zq0, zq1, zq2, zq3, zq4, zq5, zq6, zq8, zq9, zq10, zq20, zq7, zq12, zq24, zq40, zq41, zq48, zq100, zq120, zq123, zq480, zq492, zq700, zq729, zq2187, zq2916, zq8748, ne_eq, Int.reduceEq, Int.reduceLT, Int.reduceLE, Int.reduceToNat, Int.reduceMul, Int.reduceAdd, Int.reduceNeg, gk16 hg, gr16_0 hg, gr16_1 hg, gr16_2 hg, gr16_3 hg, gr16_4 hg, gr16_5 hg, gr16_6 hg, gr16_7 hg, gr16_8 hg, c5, c3, c4, wrN (z := (k : Int) * 4) (m := k * 4) (by omega) (by omega), wrN (z := (ha : Int) + ((k * 4 : Nat) : Int)) (m := ha + k * 4) (by omega) (by omega), wrN (z := ((ha + k * 4 : Nat) : Int) + (s : Int)) (m := ha + k * 4 + s) (by omega) (by omega), w4, k1, e1]
          exact rest
  -- what is held next
  have nexts : ∀ j b s (h1 : zM) (l7 : Option zV), s < nS T → b + j = 3 → (yI16 T own oth n to h h1 s 5 ∧ ∀ b', b' < b → h1 37 (b' * 4 + s) = aNext T n to b' s) → (∀ (h2 : zM) (l6 l7 : Option zV), (yI16 T own oth n to h h2 s 5 ∧ ∀ b', b' < 3 → h2 37 (b' * 4 + s) = aNext T n to b' s) → zE 55 (d + 1) Q 184 [some (zR (some 16)), some (zR (some rh)), some (zI ha), some (zR (some rc)), some (zI ca), some (zI s), some (zI 3), l7] [] G h2 (0, 0)) → zE 55 (d + 1) Q 139 [some (zR (some 16)), some (zR (some rh)), some (zI ha), some (zR (some rc)), some (zI ca), some (zI s), some (zI b), l7] [] G h1 (0, 0) := by
    intro j
    induction j with
    | zero =>
      intro b s h1 l7 hs hb3 hI KK
      have hb' : b = 3 := by omega
      subst hb'
      rw [e55_139]
      simp only [e55_0, e55_1, e55_4, e55_5, e55_8, e55_9, e55_13, e55_14, e55_17, e55_20, e55_23, e55_24, e55_27, e55_29, e55_30, e55_31, e55_32, e55_35, e55_37, e55_38, e55_39, e55_40, e55_43, e55_44, e55_47, e55_48, e55_52, e55_53, e55_56, e55_58, e55_59, e55_62, e55_63, e55_66, e55_68, e55_69, e55_72, e55_74, e55_75, e55_78, e55_79, e55_82, e55_84, e55_85, e55_88, e55_89, e55_90, e55_92, e55_93, e55_94, e55_95, e55_97, e55_98, e55_99, e55_101, e55_103, e55_106, e55_107, e55_109, e55_111, e55_113, e55_114, e55_116, e55_118, e55_119, e55_120, e55_121, e55_123, e55_124, e55_125, e55_126, e55_127, e55_130, e55_133, e55_136, e55_137, e55_141, e55_142, e55_145, e55_146, e55_149, e55_151, e55_152, e55_153, e55_155, e55_156, e55_157, e55_160, e55_162, e55_163, e55_164, e55_167, e55_170, e55_172, e55_173, e55_174, e55_176, e55_177, e55_178, e55_181, e55_187, e55_190, zs0, zsI, zsL, zsR, ztl1, ztl0, zc0, zcI, zcL, zcR, true_and, and_true, true_implies, false_implies, implies_true, not_true_eq_false, not_false_eq_true, and_self, Int.toNat_natCast, Nat.reduceAdd, Nat.reduceLeDiff, Nat.reduceLT, forall_eq', Option.some.injEq, zarR, zarI, zarL, zle, zq0, zq1, zq2, zq3, zq4, zq5, zq6, zq8, zq9, zq10, zq20, zq7, zq12, zq24, zq40, zq41, zq48, zq100, zq120, zq123, zq480, zq492, zq700, zq729, zq2187, zq2916, zq8748, ne_eq, Int.reduceEq, Int.reduceLT, Int.reduceLE, Int.reduceToNat, Int.reduceMul, Int.reduceAdd, Int.reduceNeg, Int.le_refl]
      exact KK h1 none l7 hI
    | succ j ih =>
      intro b s h1 l7 hs hb3 hI KK
      obtain ⟨⟨f0, f1, f2, f3, f4, f5, f6, f7⟩, g0⟩ := hI
      have c3 : ¬ (3 : Int) ≤ b := by omega
      have s4 : (s : Int) < 4 := by omega
      have b3 : (b : Int) < 3 := by omega
      have hT1 : kT h1 18 T := kT_frame hT (fun c i q1 q2 => f0 c i (by omega))
      have e1 := hT1.2.2.2.2.2.2.2.2.2.2.2.1 s (by omega)
      have e2 := f5 b (by omega)
      have g3 := aCame_b (to := to) hn b s 5 (by omega)
      have g4 := (hw.2.2.2.2.2 s).2.2.2.2.2.2.1
      have g5 := mulb g3.1 g3.2 g4.1 g4.2 (by decide) (by decide)
      have w3 : ((b * 4 + s : Nat) : Int) < 12 := by omega
      rw [e55_139]
      simp only [e55_0, e55_1, e55_4, e55_5, e55_8, e55_9, e55_13, e55_14, e55_17, e55_20, e55_23, e55_24, e55_27, e55_29, e55_30, e55_31, e55_32, e55_35, e55_37, e55_38, e55_39, e55_40, e55_43, e55_44, e55_47, e55_48, e55_52, e55_53, e55_56, e55_58, e55_59, e55_62, e55_63, e55_66, e55_68, e55_69, e55_72, e55_74, e55_75, e55_78, e55_79, e55_82, e55_84, e55_85, e55_88, e55_89, e55_90, e55_92, e55_93, e55_94, e55_95, e55_97, e55_98, e55_99, e55_101, e55_103, e55_106, e55_107, e55_109, e55_111, e55_113, e55_114, e55_116, e55_118, e55_119, e55_120, e55_121, e55_123, e55_124, e55_125, e55_126, e55_127, e55_130, e55_133, e55_136, e55_137, e55_141, e55_142, e55_145, e55_146, e55_149, e55_151, e55_152, e55_153, e55_155, e55_156, e55_157, e55_160, e55_162, e55_163, e55_164, e55_167, e55_170, e55_172, e55_173, e55_174, e55_176, e55_177, e55_178, e55_181, e55_184, e55_187, e55_190, zs0, zsI, zsL, zsR, ztl1, ztl0, zc0, zcI, zcL, zcR, true_and, and_true, true_implies, false_implies, implies_true, not_true_eq_false, not_false_eq_true, and_self, Int.toNat_natCast, Nat.reduceAdd, Nat.reduceLeDiff, Nat.reduceLT, forall_eq', Option.some.injEq, zarR, zarI, zarL, zle, zq0, zq1, zq2, zq3, zq4, zq5, zq6, zq8, zq9, zq10, zq20, zq7, zq12, zq24, zq40, zq41, zq48, zq100, zq120, zq123, zq480, zq492, zq700, zq729, zq2187, zq2916, zq8748, ne_eq, Int.reduceEq, Int.reduceLT, Int.reduceLE, Int.reduceToNat, Int.reduceMul, Int.reduceAdd, Int.reduceNeg, gk16 hg, gr16_0 hg, gr16_1 hg, gr16_2 hg, gr16_3 hg, gr16_4 hg, gr16_5 hg, gr16_6 hg, gr16_7 hg, gr16_8 hg, gk18 hg, gr18_0 hg, gr18_1 hg, gr18_2 hg, gr18_3 hg, gr18_4 hg, gr18_5 hg, gr18_6 hg, gr18_7 hg, gr18_8 hg, gk33 hg, gl33 hg, gk37 hg, gl37 hg, gk25 hg, gl25 hg, c3, s4, b3, e1, e2, wrN (z := (b : Int) * 4) (m := b * 4) (by omega) (by omega), wrN (z := ((b * 4 : Nat) : Int) + (s : Int)) (m := b * 4 + s) (by omega) (by omega), w3, wr_s (show b < 2147483647 by omega)]
      rw [wr_id (z := aCame n to b s 5 * tr T 6 s) (by omega), Int.tdiv_eq_ediv_of_nonneg (by omega), wr_id (by omega)]
      apply ih (b + 1) s _ _ hs (by omega) _ KK
      refine ⟨⟨?_, ?_, ?_, ?_, ?_, ?_, ?_, ?_⟩, ?_⟩
      · intro c i q1
        rw [zu_c (by omega)]
        exact f0 c i q1
      · intro s' q1
        rw [zu_c (by decide)]
        exact f1 s' q1
      · intro s' q1
        rw [zu_c (by decide)]
        exact f2 s' q1
      · intro b' s' q1 q2
        rw [zu_i (by omega)]
        exact f3 b' s' q1 q2
      · intro b' q1
        rw [zu_c (by decide)]
        exact f4 b' q1
      · intro b' q1
        rw [zu_c (by decide)]
        exact f5 b' q1
      · rw [zu_c (by decide)]
        exact f6
      · rw [zu_c (by decide)]
        exact f7
      · intro b' q1
        by_cases q2 : b' = b
        · subst q2
          exact zu_at
        · rw [zu_i (by omega)]
          exact g0 b' (by omega)
  -- the sorts
  have lp : ∀ j s (h1 : zM) (l6 l7 : Option zV), s + j = nS T → ((∀ c i, c < 33 ∨ 37 < c → h1 c i = h c i) ∧ (∀ s', s' < s → h1 36 s' = aLeft n to s' 5) ∧ (∀ s', s' < s → h1 35 s' = aPaid own oth n to s' 5) ∧ (∀ b s', b < 3 → s' < s → h1 37 (b * 4 + s') = aNext T n to b s') ∧ (∀ b, b < 3 → h1 34 b = aEarS T own oth n to b s)) → zE 55 (d + 1) Q 11 [some (zR (some 16)), some (zR (some rh)), some (zI ha), some (zR (some rc)), some (zI ca), some (zI s), l6, l7] [] G h1 (0, 0) := by
    intro j
    induction j with
    | zero =>
      intro s h1 l6 l7 hs hI
      obtain ⟨f0, f1, f2, f3, f4⟩ := hI
      have hT1 : kT h1 18 T := kT_frame hT (fun c i q1 q2 => f0 c i (by omega))
      have e1 := hT1.2.1
      have hs' : s = nS T := by omega
      subst hs'
      rw [e55_11]
      simp only [e55_0, e55_1, e55_4, e55_5, e55_8, e55_9, e55_13, e55_14, e55_17, e55_20, e55_23, e55_24, e55_27, e55_29, e55_30, e55_31, e55_32, e55_35, e55_37, e55_38, e55_39, e55_40, e55_43, e55_44, e55_47, e55_48, e55_52, e55_53, e55_56, e55_58, e55_59, e55_62, e55_63, e55_66, e55_68, e55_69, e55_72, e55_74, e55_75, e55_78, e55_79, e55_82, e55_84, e55_85, e55_88, e55_89, e55_90, e55_92, e55_93, e55_94, e55_95, e55_97, e55_98, e55_99, e55_101, e55_103, e55_106, e55_107, e55_109, e55_111, e55_113, e55_114, e55_116, e55_118, e55_119, e55_120, e55_121, e55_123, e55_124, e55_125, e55_126, e55_127, e55_130, e55_133, e55_136, e55_137, e55_141, e55_142, e55_145, e55_146, e55_149, e55_151, e55_152, e55_153, e55_155, e55_156, e55_157, e55_160, e55_162, e55_163, e55_164, e55_167, e55_170, e55_172, e55_173, e55_174, e55_176, e55_177, e55_178, e55_181, e55_184, e55_187, e55_190, zs0, zsI, zsL, zsR, ztl1, ztl0, zc0, zcI, zcL, zcR, true_and, and_true, true_implies, false_implies, implies_true, not_true_eq_false, not_false_eq_true, and_self, Int.toNat_natCast, Nat.reduceAdd, Nat.reduceLeDiff, Nat.reduceLT, forall_eq', Option.some.injEq, zarR, zarI, zarL, zle, zq0, zq1, zq2, zq3, zq4, zq5, zq6, zq8, zq9, zq10, zq20, zq7, zq12, zq24, zq40, zq41, zq48, zq100, zq120, zq123, zq480, zq492, zq700, zq729, zq2187, zq2916, zq8748, ne_eq, Int.reduceEq, Int.reduceLT, Int.reduceLE, Int.reduceToNat, Int.reduceMul, Int.reduceAdd, Int.reduceNeg, gk16 hg, gr16_0 hg, gr16_1 hg, gr16_2 hg, gr16_3 hg, gr16_4 hg, gr16_5 hg, gr16_6 hg, gr16_7 hg, gr16_8 hg, gk18 hg, gr18_0 hg, gr18_1 hg, gr18_2 hg, gr18_3 hg, gr18_4 hg, gr18_5 hg, gr18_6 hg, gr18_7 hg, gr18_8 hg, e1, Int.le_refl]
      exact K h1 f0 f1 f2 f4 (fun b s q1 q2 => f3 b s q1 q2)
    | succ j ih =>
      intro s h1 l6 l7 hs hI
      obtain ⟨f0, f1, f2, f3, f4⟩ := hI
      have hT1 : kT h1 18 T := kT_frame hT (fun c i q1 q2 => f0 c i (by omega))
      have e1 := hT1.2.1
      have c : ¬ (nS T : Int) ≤ s := by omega
      have s4 : (s : Int) < 4 := by omega
      have hfl : ∀ (h9 : zM) (Q' : zQ), zRunD ztb zmt' (d + 1) 219 [zR (some 33), zI 0] G h9 Q' ↔ Q' none G (zfl h9 33 3 0) := fun h9 Q' => s_fill (d := d) (gk33 hg) (gl33 hg) (by omega)
      rw [e55_11]
      simp only [e55_0, e55_1, e55_4, e55_5, e55_8, e55_9, e55_13, e55_14, e55_17, e55_20, e55_23, e55_24, e55_27, e55_29, e55_30, e55_31, e55_32, e55_35, e55_37, e55_38, e55_39, e55_40, e55_43, e55_44, e55_47, e55_48, e55_52, e55_53, e55_56, e55_58, e55_59, e55_62, e55_63, e55_66, e55_68, e55_69, e55_72, e55_74, e55_75, e55_78, e55_79, e55_82, e55_84, e55_85, e55_88, e55_89, e55_90, e55_92, e55_93, e55_94, e55_95, e55_97, e55_98, e55_99, e55_101, e55_103, e55_106, e55_107, e55_109, e55_111, e55_113, e55_114, e55_116, e55_118, e55_119, e55_120, e55_121, e55_123, e55_124, e55_125, e55_126, e55_127, e55_130, e55_133, e55_136, e55_137, e55_141, e55_142, e55_145, e55_146, e55_149, e55_151, e55_152, e55_153, e55_155, e55_156, e55_157, e55_160, e55_162, e55_163, e55_164, e55_167, e55_170, e55_172, e55_173, e55_174, e55_176, e55_177, e55_178, e55_181, e55_184, e55_187, e55_190, zs0, zsI, zsL, zsR, ztl1, ztl0, zc0, zcI, zcL, zcR, true_and, and_true, true_implies, false_implies, implies_true, not_true_eq_false, not_false_eq_true, and_self, Int.toNat_natCast, Nat.reduceAdd, Nat.reduceLeDiff, Nat.reduceLT, forall_eq', Option.some.injEq, zarR, zarI, zarL, zle, zq0, zq1, zq2, zq3, zq4, zq5, zq6, zq8, zq9, zq10, zq20, zq7, zq12, zq24, zq40, zq41, zq48, zq100, zq120, zq123, zq480, zq492, zq700, zq729, zq2187, zq2916, zq8748, ne_eq, Int.reduceEq, Int.reduceLT, Int.reduceLE, Int.reduceToNat, Int.reduceMul, Int.reduceAdd, Int.reduceNeg, gk16 hg, gr16_0 hg, gr16_1 hg, gr16_2 hg, gr16_3 hg, gr16_4 hg, gr16_5 hg, gr16_6 hg, gr16_7 hg, gr16_8 hg, gk18 hg, gr18_0 hg, gr18_1 hg, gr18_2 hg, gr18_3 hg, gr18_4 hg, gr18_5 hg, gr18_6 hg, gr18_7 hg, gr18_8 hg, gk35 hg, gl35 hg, gk36 hg, gl36 hg, e1, c, s4, hfl]
      apply kinds 5 0 s _ _ (by omega) (by omega)
      · refine ⟨?_, ?_, ?_, ?_, ?_, ?_, ?_, ?_⟩
        · intro c i q1
          rw [zfl_c (by omega), zu_c (by omega), zu_c (by omega)]
          exact f0 c i q1
        · intro s' q1
          rw [zfl_c (by decide), zu_i (by omega), zu_c (by decide)]
          exact f1 s' q1
        · intro s' q1
          rw [zfl_c (by decide), zu_c (by decide), zu_i (by omega)]
          exact f2 s' q1
        · intro b s' q1 q2
          rw [zfl_c (by decide), zu_c (by decide), zu_c (by decide)]
          exact f3 b s' q1 q2
        · intro b q1
          rw [zfl_c (by decide), zu_c (by decide), zu_c (by decide), f4 b q1, aEar, Int.add_zero]
        · intro b q1
          rw [zfl_at q1]
          rfl
        · rw [zfl_c (by decide), zu_at]
          rfl
        · rw [zfl_c (by decide), zu_c (by decide), zu_at]
          rfl
      · intro h2 l7 hI2
        simp only [e55_0, e55_1, e55_4, e55_5, e55_8, e55_9, e55_13, e55_14, e55_17, e55_20, e55_23, e55_24, e55_27, e55_29, e55_30, e55_31, e55_32, e55_35, e55_37, e55_38, e55_39, e55_40, e55_43, e55_44, e55_47, e55_48, e55_52, e55_53, e55_56, e55_58, e55_59, e55_62, e55_63, e55_66, e55_68, e55_69, e55_72, e55_74, e55_75, e55_78, e55_79, e55_82, e55_84, e55_85, e55_88, e55_89, e55_90, e55_92, e55_93, e55_94, e55_95, e55_97, e55_98, e55_99, e55_101, e55_103, e55_106, e55_107, e55_109, e55_111, e55_113, e55_114, e55_116, e55_118, e55_119, e55_120, e55_121, e55_123, e55_124, e55_125, e55_126, e55_127, e55_130, e55_133, e55_136, e55_137, e55_141, e55_142, e55_145, e55_146, e55_149, e55_151, e55_152, e55_153, e55_155, e55_156, e55_157, e55_160, e55_162, e55_163, e55_164, e55_167, e55_170, e55_172, e55_173, e55_174, e55_176, e55_177, e55_178, e55_181, e55_184, e55_187, e55_190, zs0, zsI, zsL, zsR, ztl1, ztl0, zc0, zcI, zcL, zcR, true_and, and_true, true_implies, false_implies, implies_true, not_true_eq_false, not_false_eq_true, and_self, Int.toNat_natCast, Nat.reduceAdd, Nat.reduceLeDiff, Nat.reduceLT, forall_eq', Option.some.injEq, zarR, zarI, zarL, zle, zq0, zq1, zq2, zq3, zq4, zq5, zq6, zq8, zq9, zq10, zq20, zq7, zq12, zq24, zq40, zq41, zq48, zq100, zq120, zq123, zq480, zq492, zq700, zq729, zq2187, zq2916, zq8748, ne_eq, Int.reduceEq, Int.reduceLT, Int.reduceLE, Int.reduceToNat, Int.reduceMul, Int.reduceAdd, Int.reduceNeg]
        apply nexts 3 0 s h2 _ (by omega) (by omega) ⟨hI2, fun b' q => by omega⟩
        intro h3 l6 l7 hI3
        obtain ⟨⟨m0, m1, m2, m3, m4, m5, m6, m7⟩, mg⟩ := hI3
        simp only [e55_0, e55_1, e55_4, e55_5, e55_8, e55_9, e55_13, e55_14, e55_17, e55_20, e55_23, e55_24, e55_27, e55_29, e55_30, e55_31, e55_32, e55_35, e55_37, e55_38, e55_39, e55_40, e55_43, e55_44, e55_47, e55_48, e55_52, e55_53, e55_56, e55_58, e55_59, e55_62, e55_63, e55_66, e55_68, e55_69, e55_72, e55_74, e55_75, e55_78, e55_79, e55_82, e55_84, e55_85, e55_88, e55_89, e55_90, e55_92, e55_93, e55_94, e55_95, e55_97, e55_98, e55_99, e55_101, e55_103, e55_106, e55_107, e55_109, e55_111, e55_113, e55_114, e55_116, e55_118, e55_119, e55_120, e55_121, e55_123, e55_124, e55_125, e55_126, e55_127, e55_130, e55_133, e55_136, e55_137, e55_141, e55_142, e55_145, e55_146, e55_149, e55_151, e55_152, e55_153, e55_155, e55_156, e55_157, e55_160, e55_162, e55_163, e55_164, e55_167, e55_170, e55_172, e55_173, e55_174, e55_176, e55_177, e55_178, e55_181, e55_184, e55_187, e55_190, zs0, zsI, zsL, zsR, ztl1, ztl0, zc0, zcI, zcL, zcR, true_and, and_true, true_implies, false_implies, implies_true, not_true_eq_false, not_false_eq_true, and_self, Int.toNat_natCast, Nat.reduceAdd, Nat.reduceLeDiff, Nat.reduceLT, forall_eq', Option.some.injEq, zarR, zarI, zarL, zle, zq0, zq1, zq2, zq3, zq4, zq5, zq6, zq8, zq9, zq10, zq20, zq7, zq12, zq24, zq40, zq41, zq48, zq100, zq120, zq123, zq480, zq492, zq700, zq729, zq2187, zq2916, zq8748, ne_eq, Int.reduceEq, Int.reduceLT, Int.reduceLE, Int.reduceToNat, Int.reduceMul, Int.reduceAdd, Int.reduceNeg, wr_s (show s < 2147483647 by omega)]
        apply ih (s + 1) h3 _ _ (by omega)
        refine ⟨m0, ?_, ?_, ?_, ?_⟩
        · intro s' q1
          by_cases q2 : s' = s
          · subst q2
            exact m6
          · exact m1 s' (by omega)
        · intro s' q1
          by_cases q2 : s' = s
          · subst q2
            exact m7
          · exact m2 s' (by omega)
        · intro b s' q1 q3
          by_cases q2 : s' = s
          · subst q2
            exact mg b q1
          · exact m3 b s' q1 (by omega)
        · intro b q1
          rw [m4 b q1]
          rfl
  have hfl : ∀ (h9 : zM) (Q' : zQ), zRunD ztb zmt' (d + 1) 218 [zR (some 34), zL 0] G h9 Q' ↔ Q' none G (zfl h9 34 3 0) := fun h9 Q' => s_fillL (d := d) (gk34 hg) (gl34 hg) (by omega)
  simp only [e55_0, e55_1, e55_4, e55_5, e55_8, e55_9, e55_13, e55_14, e55_17, e55_20, e55_23, e55_24, e55_27, e55_29, e55_30, e55_31, e55_32, e55_35, e55_37, e55_38, e55_39, e55_40, e55_43, e55_44, e55_47, e55_48, e55_52, e55_53, e55_56, e55_58, e55_59, e55_62, e55_63, e55_66, e55_68, e55_69, e55_72, e55_74, e55_75, e55_78, e55_79, e55_82, e55_84, e55_85, e55_88, e55_89, e55_90, e55_92, e55_93, e55_94, e55_95, e55_97, e55_98, e55_99, e55_101, e55_103, e55_106, e55_107, e55_109, e55_111, e55_113, e55_114, e55_116, e55_118, e55_119, e55_120, e55_121, e55_123, e55_124, e55_125, e55_126, e55_127, e55_130, e55_133, e55_136, e55_137, e55_141, e55_142, e55_145, e55_146, e55_149, e55_151, e55_152, e55_153, e55_155, e55_156, e55_157, e55_160, e55_162, e55_163, e55_164, e55_167, e55_170, e55_172, e55_173, e55_174, e55_176, e55_177, e55_178, e55_181, e55_184, e55_187, e55_190, zs0, zsI, zsL, zsR, ztl1, ztl0, zc0, zcI, zcL, zcR, true_and, and_true, true_implies, false_implies, implies_true, not_true_eq_false, not_false_eq_true, and_self, Int.toNat_natCast, Nat.reduceAdd, Nat.reduceLeDiff, Nat.reduceLT, forall_eq', Option.some.injEq, zarR, zarI, zarL, zle, zq0, zq1, zq2, zq3, zq4, zq5, zq6, zq8, zq9, zq10, zq20, zq7, zq12, zq24, zq40, zq41, zq48, zq100, zq120, zq123, zq480, zq492, zq700, zq729, zq2187, zq2916, zq8748, ne_eq, Int.reduceEq, Int.reduceLT, Int.reduceLE, Int.reduceToNat, Int.reduceMul, Int.reduceAdd, Int.reduceNeg, gk16 hg, gr16_0 hg, gr16_1 hg, gr16_2 hg, gr16_3 hg, gr16_4 hg, gr16_5 hg, gr16_6 hg, gr16_7 hg, gr16_8 hg, hfl]
  apply lp (nS T) 0 _ _ _ (by omega)
  refine ⟨?_, ?_, ?_, ?_, ?_⟩
  · intro c i q1
    rw [zfl_c (by omega)]
  · intro s' q
    omega
  · intro s' q
    omega
  · intro b s' _ q
    omega
  · intro b q
    rw [zfl_at q]
    rfl
end YR16
section YR47
variable {d : Nat} {Q : zQ} {G : zG} {h : zM} {T : aTn} {own oth : Nat → Int} {s k t : Nat} {n : Int}
theorem c_move47 (hg : gS G) (hT : kT h 49 T) (hw : wT T) (hs4 : s < 4) (hk : k < 5) (ht : t < nB T ∨ t = 3) (ho : ∀ t, t < nB T → h 59 t = own t) (hh : ∀ t, t < nB T → h 60 t = oth t) (bo : bP own) (bn : bP oth) (hn : 0 ≤ n ∧ n ≤ 2000000) (b1 : 0 ≤ h 67 s ∧ h 67 s ≤ 100000000) (b2 : 0 ≤ h 66 s ∧ h 66 s ≤ 100000000000) (b3 : t < 3 → -100000000000 ≤ h 65 t ∧ h 65 t ≤ 100000000000) (b4 : t < 3 → 0 ≤ h 64 t ∧ h 64 t ≤ 100000000)
    (K : ∀ h' : zM, (∀ c i, ¬ (c = 67 ∧ i = s) → ¬ (c = 66 ∧ i = s) → ¬ (c = 65 ∧ i = t) → ¬ (c = 64 ∧ i = t) → h' c i = h c i) → h' 67 s = h 67 s + (if k < 3 ∧ ¬ k = t then n else 0) → h' 66 s = h 66 s + (if t = 3 then 0 else n * yPr own oth k t) → (t < 3 → h' 65 t = h 65 t + n * (yPr own oth k t - tr T 0 t)) → (t < 3 → h' 64 t = h 64 t + n) → Q none G h') : zRunD ztb zmt' (d + 1) 56 [zR (some 47), zI s, zI n, zI k, zI t] G h Q := by
  rw [r56]
  have hb := hw.1
  have s4 : (s : Int) < 4 := by omega
  have key : ∀ (h1 : zM), (∀ c i, ¬ (c = 67 ∧ i = s) → h1 c i = h c i) → h1 67 s = h 67 s + (if k < 3 ∧ ¬ k = t then n else 0) → zE 56 d Q 21 [some (zR (some 47)), some (zI s), some (zI n), some (zI k), some (zI t), none, none] [] G h1 (0, 0) := by
    intro h1 hf h2
    by_cases h3 : t = 3
    · subst h3
      simp only [e56_0, e56_1, e56_2, e56_5, e56_6, e56_8, e56_11, e56_12, e56_15, e56_16, e56_17, e56_18, e56_19, e56_20, e56_21, e56_23, e56_24, e56_27, e56_28, e56_29, e56_31, e56_34, e56_35, e56_38, e56_41, e56_43, e56_44, e56_45, e56_48, e56_49, e56_52, e56_55, e56_57, e56_58, e56_59, e56_61, e56_62, e56_65, e56_66, e56_67, e56_68, e56_69, e56_70, e56_72, e56_73, e56_74, e56_75, e56_76, e56_79, e56_81, e56_82, e56_83, e56_84, e56_85, e56_87, e56_88, e56_91, e56_94, e56_96, e56_97, e56_98, e56_99, e56_100, e56_101, e56_102, e56_103, e56_106, e56_108, e56_109, e56_110, e56_111, e56_112, e56_113, zs0, zsI, zsL, zsR, ztl1, ztl0, zc0, zcI, zcL, zcR, true_and, and_true, true_implies, false_implies, implies_true, not_true_eq_false, not_false_eq_true, and_self, Int.toNat_natCast, Nat.reduceAdd, Nat.reduceLeDiff, Nat.reduceLT, forall_eq', Option.some.injEq, zarR, zarI, zarL, zle, zq0, zq1, zq2, zq3, zq4, zq5, zq6, zq8, zq9, zq10, zq20, zq7, zq12, zq24, zq40, zq41, zq48, zq100, zq120, zq123, zq480, zq492, zq700, zq729, zq2187, zq2916, zq8748, ne_eq, Int.reduceEq, Int.reduceLT, Int.reduceLE, Int.reduceToNat, Int.reduceMul, Int.reduceAdd, Int.reduceNeg]
      apply K
      · intro c i q1 _ _ _
        exact hf c i q1
      · exact h2
      · rw [hf _ _ (by omega), if_pos rfl, Int.add_zero]
      · intro q; omega
      · intro q; omega
    · have t3 : t < 3 := by omega
      have t3' : (t : Int) < 3 := by omega
      have n3 : ¬ (t : Int) = 3 := by omega
      have e1 : h1 59 t = own t := by rw [hf _ _ (by omega)]; exact ho t (by omega)
      have e2 : h1 60 t = oth t := by rw [hf _ _ (by omega)]; exact hh t (by omega)
      have e3 : h1 50 t = tr T 0 t := by rw [hf _ _ (by omega)]; exact hT.2.2.2.2.2.1 t (by omega)
      have e4 : h1 66 s = h 66 s := hf _ _ (by omega)
      have e5 : h1 65 t = h 65 t := hf _ _ (by omega)
      have e6 : h1 64 t = h 64 t := hf _ _ (by omega)
      have b3' := b3 t3
      have b4' := b4 t3
      have p1 := yPr_b bo bn k t
      have p2 := (hw.2.2.2.2.2 t).1
      have p3 := mulb hn.1 hn.2 p1.1 p1.2 (by decide) (by decide)
      have p4 := mulb (p := yPr own oth k t - tr T 0 t) (lo := -199) (hi := 199) hn.1 hn.2 (by omega) (by omega) (by decide) (by decide)
      have fin : Q none G (zu (zu (zu h1 66 s (h 66 s + n * yPr own oth k t)) 65 t (h 65 t + n * (yPr own oth k t - tr T 0 t))) 64 t (h 64 t + n)) := by
        apply K
        · intro c i q1 q2 q3 q4
          unfold zu
          rw [if_neg q4, if_neg q3, if_neg q2]
          exact hf c i q1
        · rw [zu_c (by decide), zu_c (by decide), zu_c (by decide)]
          exact h2
        · rw [zu_c (by decide), zu_c (by decide), zu_at, if_neg h3]
        · intro _
          rw [zu_c (by decide), zu_at]
        · intro _
          rw [zu_at]
      by_cases hkt : k = t
      · have c1 : (k : Int) = t := by omega
        have pe : yPr own oth k t = own t := if_pos hkt
        rw [pe] at p3 p4 fin p1
        simp only [e56_0, e56_1, e56_2, e56_5, e56_6, e56_8, e56_11, e56_12, e56_15, e56_16, e56_17, e56_18, e56_19, e56_20, e56_21, e56_23, e56_24, e56_27, e56_28, e56_29, e56_31, e56_34, e56_35, e56_38, e56_41, e56_43, e56_44, e56_45, e56_48, e56_49, e56_52, e56_55, e56_57, e56_58, e56_59, e56_61, e56_62, e56_65, e56_66, e56_67, e56_68, e56_69, e56_70, e56_72, e56_73, e56_74, e56_75, e56_76, e56_79, e56_81, e56_82, e56_83, e56_84, e56_85, e56_87, e56_88, e56_91, e56_94, e56_96, e56_97, e56_98, e56_99, e56_100, e56_101, e56_102, e56_103, e56_106, e56_108, e56_109, e56_110, e56_111, e56_112, e56_113, zs0, zsI, zsL, zsR, ztl1, ztl0, zc0, zcI, zcL, zcR, true_and, and_true, true_implies, false_implies, implies_true, not_true_eq_false, not_false_eq_true, and_self, Int.toNat_natCast, Nat.reduceAdd, Nat.reduceLeDiff, Nat.reduceLT, forall_eq', Option.some.injEq, zarR, zarI, zarL, zle, zq0, zq1, zq2, zq3, zq4, zq5, zq6, zq8, zq9, zq10, zq20, zq7, zq12, zq24, zq40, zq41, zq48, zq100, zq120, zq123, zq480, zq492, zq700, zq729, zq2187, zq2916, zq8748, ne_eq, Int.reduceEq, Int.reduceLT, Int.reduceLE, Int.reduceToNat, Int.reduceMul, Int.reduceAdd, Int.reduceNeg, gk47 hg, gr47_0 hg, gr47_1 hg, gr47_2 hg, gr47_3 hg, gr47_4 hg, gr47_5 hg, gr47_6 hg, gr47_7 hg, gr47_8 hg, gk48 hg, gr48_0 hg, gr48_1 hg, gr48_2 hg, gr48_3 hg, gk49 hg, gr49_0 hg, gr49_1 hg, gr49_2 hg, gr49_3 hg, gr49_4 hg, gr49_5 hg, gr49_6 hg, gr49_7 hg, gr49_8 hg, gk59 hg, gl59 hg, gk60 hg, gl60 hg, gk50 hg, gl50 hg, gk64 hg, gl64 hg, gk65 hg, gl65 hg, gk66 hg, gl66 hg, gk67 hg, gl67 hg, n3, t3', s4, c1, e1, e2, e3, e4, e5, e6, zu_c (show ¬ 65 = 66 by decide), zu_c (show ¬ 64 = 65 by decide), zu_c (show ¬ 64 = 66 by decide), zu_c (show ¬ 50 = 66 by decide)]
        simp (disch := omega) only [wr_id, wl_id]
        exact fin
      · have c1 : ¬ (k : Int) = t := by omega
        have pe : yPr own oth k t = oth t := if_neg hkt
        rw [pe] at p3 p4 fin p1
        simp only [e56_0, e56_1, e56_2, e56_5, e56_6, e56_8, e56_11, e56_12, e56_15, e56_16, e56_17, e56_18, e56_19, e56_20, e56_21, e56_23, e56_24, e56_27, e56_28, e56_29, e56_31, e56_34, e56_35, e56_38, e56_41, e56_43, e56_44, e56_45, e56_48, e56_49, e56_52, e56_55, e56_57, e56_58, e56_59, e56_61, e56_62, e56_65, e56_66, e56_67, e56_68, e56_69, e56_70, e56_72, e56_73, e56_74, e56_75, e56_76, e56_79, e56_81, e56_82, e56_83, e56_84, e56_85, e56_87, e56_88, e56_91, e56_94, e56_96, e56_97, e56_98, e56_99, e56_100, e56_101, e56_102, e56_103, e56_106, e56_108, e56_109, e56_110, e56_111, e56_112, e56_113, zs0, zsI, zsL, zsR, ztl1, ztl0, zc0, zcI, zcL, zcR, true_and, and_true, true_implies, false_implies, implies_true, not_true_eq_false, not_false_eq_true, and_self, Int.toNat_natCast, Nat.reduceAdd, Nat.reduceLeDiff, Nat.reduceLT, forall_eq', Option.some.injEq, zarR, zarI, zarL, zle, zq0, zq1, zq2, zq3, zq4, zq5, zq6, zq8, zq9, zq10, zq20, zq7, zq12, zq24, zq40, zq41, zq48, zq100, zq120, zq123, zq480, zq492, zq700, zq729, zq2187, zq2916, zq8748, ne_eq, Int.reduceEq, Int.reduceLT, Int.reduceLE, Int.reduceToNat, Int.reduceMul, Int.reduceAdd, Int.reduceNeg, gk47 hg, gr47_0 hg, gr47_1 hg, gr47_2 hg, gr47_3 hg, gr47_4 hg, gr47_5 hg, gr47_6 hg, gr47_7 hg, gr47_8 hg, gk48 hg, gr48_0 hg, gr48_1 hg, gr48_2 hg, gr48_3 hg, gk49 hg, gr49_0 hg, gr49_1 hg, gr49_2 hg, gr49_3 hg, gr49_4 hg, gr49_5 hg, gr49_6 hg, gr49_7 hg, gr49_8 hg, gk59 hg, gl59 hg, gk60 hg, gl60 hg, gk50 hg, gl50 hg, gk64 hg, gl64 hg, gk65 hg, gl65 hg, gk66 hg, gl66 hg, gk67 hg, gl67 hg, n3, t3', s4, c1, e1, e2, e3, e4, e5, e6, zu_c (show ¬ 65 = 66 by decide), zu_c (show ¬ 64 = 65 by decide), zu_c (show ¬ 64 = 66 by decide), zu_c (show ¬ 50 = 66 by decide)]
        simp (disch := omega) only [wr_id, wl_id]
        exact fin
  by_cases hk3 : k < 3
  · have c0 : ¬ (3 : Int) ≤ k := by omega
    by_cases hkt : k = t
    · have c1 : (k : Int) = t := by omega
      simp only [e56_0, e56_1, e56_2, e56_5, e56_6, e56_8, e56_11, e56_12, e56_15, e56_16, e56_17, e56_18, e56_19, e56_20, zs0, zsI, zsL, zsR, ztl1, ztl0, zc0, zcI, zcL, zcR, true_and, and_true, true_implies, false_implies, implies_true, not_true_eq_false, not_false_eq_true, and_self, Int.toNat_natCast, Nat.reduceAdd, Nat.reduceLeDiff, Nat.reduceLT, forall_eq', Option.some.injEq, zarR, zarI, zarL, zle, zq0, zq1, zq2, zq3, zq4, zq5, zq6, zq8, zq9, zq10, zq20, zq7, zq12, zq24, zq40, zq41, zq48, zq100, zq120, zq123, zq480, zq492, zq700, zq729, zq2187, zq2916, zq8748, ne_eq, Int.reduceEq, Int.reduceLT, Int.reduceLE, Int.reduceToNat, Int.reduceMul, Int.reduceAdd, Int.reduceNeg, c0, c1]
      rw [← c1] at key ⊢
      have kk := key h (fun _ _ _ => rfl) (by rw [if_neg (fun q => q.2 hkt), Int.add_zero])
      exact ⟨fun _ => kk, fun _ => kk⟩
    · have c1 : ¬ (k : Int) = t := by omega
      simp only [e56_0, e56_1, e56_2, e56_5, e56_6, e56_8, e56_11, e56_12, e56_15, e56_16, e56_17, e56_18, e56_19, e56_20, zs0, zsI, zsL, zsR, ztl1, ztl0, zc0, zcI, zcL, zcR, true_and, and_true, true_implies, false_implies, implies_true, not_true_eq_false, not_false_eq_true, and_self, Int.toNat_natCast, Nat.reduceAdd, Nat.reduceLeDiff, Nat.reduceLT, forall_eq', Option.some.injEq, zarR, zarI, zarL, zle, zq0, zq1, zq2, zq3, zq4, zq5, zq6, zq8, zq9, zq10, zq20, zq7, zq12, zq24, zq40, zq41, zq48, zq100, zq120, zq123, zq480, zq492, zq700, zq729, zq2187, zq2916, zq8748, ne_eq, Int.reduceEq, Int.reduceLT, Int.reduceLE, Int.reduceToNat, Int.reduceMul, Int.reduceAdd, Int.reduceNeg, gk47 hg, gr47_0 hg, gr47_1 hg, gr47_2 hg, gr47_3 hg, gr47_4 hg, gr47_5 hg, gr47_6 hg, gr47_7 hg, gr47_8 hg, gk67 hg, gl67 hg, c0, c1, s4]
      rw [wr_id (by omega)]
      apply key
      · intro c i q1
        unfold zu
        rw [if_neg q1]
      · rw [zu_at, if_pos ⟨hk3, hkt⟩]
  · have c0 : (3 : Int) ≤ k := by omega
    simp only [e56_0, e56_1, e56_2, e56_5, e56_6, e56_8, e56_11, e56_12, e56_15, e56_16, e56_17, e56_18, e56_19, e56_20, zs0, zsI, zsL, zsR, ztl1, ztl0, zc0, zcI, zcL, zcR, true_and, and_true, true_implies, false_implies, implies_true, not_true_eq_false, not_false_eq_true, and_self, Int.toNat_natCast, Nat.reduceAdd, Nat.reduceLeDiff, Nat.reduceLT, forall_eq', Option.some.injEq, zarR, zarI, zarL, zle, zq0, zq1, zq2, zq3, zq4, zq5, zq6, zq8, zq9, zq10, zq20, zq7, zq12, zq24, zq40, zq41, zq48, zq100, zq120, zq123, zq480, zq492, zq700, zq729, zq2187, zq2916, zq8748, ne_eq, Int.reduceEq, Int.reduceLT, Int.reduceLE, Int.reduceToNat, Int.reduceMul, Int.reduceAdd, Int.reduceNeg, c0]
    exact key h (fun _ _ _ => rfl) (by rw [if_neg (fun q => hk3 q.1), Int.add_zero])
def yI47 (T : aTn) (own oth : Nat → Int) (n : Nat → Nat → Int) (to : Nat → Nat → Nat) (h h1 : zM) (s k : Nat) : Prop := (∀ c i, c < 64 ∨ 68 < c → h1 c i = h c i) ∧ (∀ s', s' < s → h1 67 s' = aLeft n to s' 5) ∧ (∀ s', s' < s → h1 66 s' = aPaid own oth n to s' 5) ∧ (∀ b s', b < 3 → s' < s → h1 68 (b * 4 + s') = aNext T n to b s') ∧ (∀ b, b < 3 → h1 65 b = aEarS T own oth n to b s + aEar T own oth n to b s k) ∧ (∀ b, b < 3 → h1 64 b = aCame n to b s k) ∧ h1 67 s = aLeft n to s k ∧ h1 66 s = aPaid own oth n to s k
theorem c_pass47 (hg : gS G) (hT : kT h 49 T) (hw : wT T) (ho : ∀ t, t < nB T → h 59 t = own t) (hh : ∀ t, t < nB T → h 60 t = oth t) (bo : bP own) (bn : bP oth) {rh ha rc ca : Nat} {n : Nat → Nat → Int} {to : Nat → Nat → Nat} (hn : nOk n) (k1 : G.2.1 rh = 10) (k2 : ha + 12 ≤ G.2.2.1 rh) (k3 : (ha : Int) < 100000) (k4 : rh < 64 ∨ 68 < rh) (k5 : G.2.1 rc = 10) (k6 : ca + nS T ≤ G.2.2.1 rc) (k7 : (ca : Int) < 100000) (k8 : rc < 64 ∨ 68 < rc)
    (hheld : ∀ s k, s < nS T → k < 3 → h rh (ha + k * 4 + s) = n s k) (hnear : ∀ s, s < nS T → h 62 s = n s 3) (hfar : ∀ s, s < nS T → h 63 s = n s 4)
    (hch : ∀ s k, s < nS T → k < 5 → 0 < n s k → zand (h rc (ca + s) / 2 ^ (2 * k)) 3 = (to s k : Nat)) (hto : ∀ s k, s < nS T → k < 5 → 0 < n s k → to s k < nB T ∨ to s k = 3)
    (K : ∀ h' : zM, (∀ c i, c < 64 ∨ 68 < c → h' c i = h c i) → (∀ s, s < nS T → h' 67 s = aLeft n to s 5) → (∀ s, s < nS T → h' 66 s = aPaid own oth n to s 5) → (∀ b, b < 3 → h' 65 b = aEarS T own oth n to b (nS T)) → (∀ b s, b < 3 → s < nS T → h' 68 (b * 4 + s) = aNext T n to b s) → Q none G h') : zRunD ztb zmt' (d + 2) 55 [zR (some 47), zR (some rh), zI ha, zR (some rc), zI ca] G h Q := by
  rw [r55]
  have hb := hw.1
  have hns := hw.2.1
  -- the kinds
  have kinds : ∀ j k s (h1 : zM) (l7 : Option zV), s < nS T → k + j = 5 → yI47 T own oth n to h h1 s k → (∀ (h2 : zM) (l7 : Option zV), yI47 T own oth n to h h2 s 5 → zE 55 (d + 1) Q 136 [some (zR (some 47)), some (zR (some rh)), some (zI ha), some (zR (some rc)), some (zI ca), some (zI s), some (zI 5), l7] [] G h2 (0, 0)) → zE 55 (d + 1) Q 50 [some (zR (some 47)), some (zR (some rh)), some (zI ha), some (zR (some rc)), some (zI ca), some (zI s), some (zI k), l7] [] G h1 (0, 0) := by
    intro j
    induction j with
    | zero =>
      intro k s h1 l7 hs hk hI KK
      have hk' : k = 5 := by omega
      subst hk'
      rw [e55_50]
      simp only [e55_0, e55_1, e55_4, e55_5, e55_8, e55_9, e55_13, e55_14, e55_17, e55_20, e55_23, e55_24, e55_27, e55_29, e55_30, e55_31, e55_32, e55_35, e55_37, e55_38, e55_39, e55_40, e55_43, e55_44, e55_47, e55_48, e55_52, e55_53, e55_56, e55_58, e55_59, e55_62, e55_63, e55_66, e55_68, e55_69, e55_72, e55_74, e55_75, e55_78, e55_79, e55_82, e55_84, e55_85, e55_88, e55_89, e55_90, e55_92, e55_93, e55_94, e55_95, e55_97, e55_98, e55_99, e55_101, e55_103, e55_106, e55_107, e55_109, e55_111, e55_113, e55_114, e55_116, e55_118, e55_119, e55_120, e55_121, e55_123, e55_124, e55_125, e55_126, e55_127, e55_130, e55_133, e55_137, e55_141, e55_142, e55_145, e55_146, e55_149, e55_151, e55_152, e55_153, e55_155, e55_156, e55_157, e55_160, e55_162, e55_163, e55_164, e55_167, e55_170, e55_172, e55_173, e55_174, e55_176, e55_177, e55_178, e55_181, e55_184, e55_187, e55_190, zs0, zsI, zsL, zsR, ztl1, ztl0, zc0, zcI, zcL, zcR, true_and, and_true, true_implies, false_implies, implies_true, not_true_eq_false, not_false_eq_true, and_self, Int.toNat_natCast, Nat.reduceAdd, Nat.reduceLeDiff, Nat.reduceLT, forall_eq', Option.some.injEq, zarR, zarI, zarL, zle, zq0, zq1, zq2, zq3, zq4, zq5, zq6, zq8, zq9, zq10, zq20, zq7, zq12, zq24, zq40, zq41, zq48, zq100, zq120, zq123, zq480, zq492, zq700, zq729, zq2187, zq2916, zq8748, ne_eq, Int.reduceEq, Int.reduceLT, Int.reduceLE, Int.reduceToNat, Int.reduceMul, Int.reduceAdd, Int.reduceNeg]
      exact KK h1 l7 hI
    | succ j ih =>
      intro k s h1 l7 hs hk hI KK
      obtain ⟨f0, f1, f2, f3, f4, f5, f6, f7⟩ := hI
      have n1 := nOk1 hn s k (by omega)
      have c5 : ¬ (5 : Int) ≤ k := by omega
      have s4 : (s : Int) < 4 := by omega
      have rest : zE 55 (d + 1) Q 99 [some (zR (some 47)), some (zR (some rh)), some (zI ha), some (zR (some rc)), some (zI ca), some (zI s), some (zI k), l7] [zI (n s k)] G h1 (0, 0) := by
        by_cases hz : n s k ≤ 0
        · have hz0 : n s k = 0 := by omega
          simp only [e55_0, e55_1, e55_4, e55_5, e55_8, e55_9, e55_13, e55_14, e55_17, e55_20, e55_23, e55_24, e55_27, e55_29, e55_30, e55_31, e55_32, e55_35, e55_37, e55_38, e55_39, e55_40, e55_43, e55_44, e55_47, e55_48, e55_52, e55_53, e55_56, e55_58, e55_59, e55_62, e55_63, e55_66, e55_68, e55_69, e55_72, e55_74, e55_75, e55_78, e55_79, e55_82, e55_84, e55_85, e55_88, e55_89, e55_90, e55_92, e55_93, e55_94, e55_95, e55_97, e55_98, e55_99, e55_101, e55_103, e55_106, e55_107, e55_109, e55_111, e55_113, e55_114, e55_116, e55_118, e55_119, e55_120, e55_121, e55_123, e55_124, e55_125, e55_126, e55_127, e55_130, e55_133, e55_136, e55_137, e55_141, e55_142, e55_145, e55_146, e55_149, e55_151, e55_152, e55_153, e55_155, e55_156, e55_157, e55_160, e55_162, e55_163, e55_164, e55_167, e55_170, e55_172, e55_173, e55_174, e55_176, e55_177, e55_178, e55_181, e55_184, e55_187, e55_190, zs0, zsI, zsL, zsR, ztl1, ztl0, zc0, zcI, zcL, zcR, true_and, and_true, true_implies, false_implies, implies_true, not_true_eq_false, not_false_eq_true, and_self, Int.toNat_natCast, Nat.reduceAdd, Nat.reduceLeDiff, Nat.reduceLT, forall_eq', Option.some.injEq, zarR, zarI, zarL, zle, zq0, zq1, zq2, zq3, zq4, zq5, zq6, zq8, zq9, zq10, zq20, zq7, zq12, zq24, zq40, zq41, zq48, zq100, zq120, zq123, zq480, zq492, zq700, zq729, zq2187, zq2916, zq8748, ne_eq, Int.reduceEq, Int.reduceLT, Int.reduceLE, Int.reduceToNat, Int.reduceMul, Int.reduceAdd, Int.reduceNeg, hz, wr_s (show k < 2147483647 by omega)]
          apply ih (k + 1) s h1 _ hs (by omega) _ KK
          refine ⟨f0, f1, f2, f3, ?_, ?_, ?_, ?_⟩
          · intro b hb3
            rw [f4 b hb3, aEar, hz0, Int.zero_mul]
            split <;> rw [Int.add_zero]
          · intro b hb3
            rw [f5 b hb3, aCame, hz0]
            split <;> rw [Int.add_zero]
          · rw [f6, aLeft, hz0]
            split <;> rw [Int.add_zero]
          · rw [f7, aPaid, hz0, Int.zero_mul]
            split <;> rw [Int.add_zero]
        · have hp : 0 < n s k := by omega
          have w2 : ((ca + s : Nat) : Int) < (G.2.2.1 rc : Int) := by omega
          have w4 : ((2 * k : Nat) : Int) < 32 := by omega
          have w5 : h1 rc (ca + s) = h rc (ca + s) := f0 rc _ k8
          have w6 := hch s k hs (by omega) hp
          have w7 := hto s k hs (by omega) hp
          have g1 := aLeft_b (to := to) hn s k (by omega)
          have g2 := aPaid_b (to := to) hn bo bn s k (by omega)
          have hT1 : kT h1 49 T := kT_frame hT (fun c i q1 q2 => f0 c i (by omega))
          simp only [e55_0, e55_1, e55_4, e55_5, e55_8, e55_9, e55_13, e55_14, e55_17, e55_20, e55_23, e55_24, e55_27, e55_29, e55_30, e55_31, e55_32, e55_35, e55_37, e55_38, e55_39, e55_40, e55_43, e55_44, e55_47, e55_48, e55_52, e55_53, e55_56, e55_58, e55_59, e55_62, e55_63, e55_66, e55_68, e55_69, e55_72, e55_74, e55_75, e55_78, e55_79, e55_82, e55_84, e55_85, e55_88, e55_89, e55_90, e55_92, e55_93, e55_94, e55_95, e55_97, e55_98, e55_99, e55_101, e55_103, e55_106, e55_107, e55_109, e55_111, e55_113, e55_114, e55_116, e55_118, e55_119, e55_120, e55_121, e55_123, e55_124, e55_125, e55_126, e55_127, e55_130, e55_133, e55_136, e55_137, e55_141, e55_142, e55_145, e55_146, e55_149, e55_151, e55_152, e55_153, e55_155, e55_156, e55_157, e55_160, e55_162, e55_163, e55_164, e55_167, e55_170, e55_172, e55_173, e55_174, e55_176, e55_177, e55_178, e55_181, e55_184, e55_187, e55_190, zs0, zsI, zsL, zsR, ztl1, ztl0, zc0, zcI, zcL, zcR, true_and, and_true, true_implies, false_implies, implies_true, not_true_eq_false, not_false_eq_true, and_self, Int.toNat_natCast, Nat.reduceAdd, Nat.reduceLeDiff, Nat.reduceLT, forall_eq', Option.some.injEq, zarR, zarI, zarL, zle, zq0, zq1, zq2, zq3, zq4, zq5, zq6, zq8, zq9, zq10, zq20, zq7, zq12, zq24, zq40, zq41, zq48, zq100, zq120, zq123, zq480, zq492, zq700, zq729, zq2187, zq2916, zq8748, ne_eq, Int.reduceEq, Int.reduceLT, Int.reduceLE, Int.reduceToNat, Int.reduceMul, Int.reduceAdd, Int.reduceNeg, gk47 hg, gr47_0 hg, gr47_1 hg, gr47_2 hg, gr47_3 hg, gr47_4 hg, gr47_5 hg, gr47_6 hg, gr47_7 hg, gr47_8 hg, hz, wrN (z := (ca : Int) + s) (m := ca + s) (by omega) (by omega), w2, wrN (z := 2 * (k : Int)) (m := 2 * k) (by omega) (by omega), w4, w5, w6, k5]
          clear w6
          apply c_move47 (d := d) (T := T) (own := own) (oth := oth) hg hT1 hw (by omega) (by omega) w7 (fun t ht => by rw [f0 _ _ (by omega)]; exact ho t ht) (fun t ht => by rw [f0 _ _ (by omega)]; exact hh t ht) bo bn n1
          · rw [f6]
            omega
          · rw [f7]
            omega
          · intro t3
            rw [f4 _ t3]
            have g3 := aEar_b (to := to) hw hn bo bn (to s k) s k (by omega)
            have g4 := aEarS_b (to := to) hw hn bo bn (to s k) s
            omega
          · intro t3
            rw [f5 _ t3]
            have g3 := aCame_b (to := to) hn (to s k) s k (by omega)
            omega
          · intro h2 m0 m1 m2 m3 m4
            simp only [e55_0, e55_1, e55_4, e55_5, e55_8, e55_9, e55_13, e55_14, e55_17, e55_20, e55_23, e55_24, e55_27, e55_29, e55_30, e55_31, e55_32, e55_35, e55_37, e55_38, e55_39, e55_40, e55_43, e55_44, e55_47, e55_48, e55_52, e55_53, e55_56, e55_58, e55_59, e55_62, e55_63, e55_66, e55_68, e55_69, e55_72, e55_74, e55_75, e55_78, e55_79, e55_82, e55_84, e55_85, e55_88, e55_89, e55_90, e55_92, e55_93, e55_94, e55_95, e55_97, e55_98, e55_99, e55_101, e55_103, e55_106, e55_107, e55_109, e55_111, e55_113, e55_114, e55_116, e55_118, e55_119, e55_120, e55_121, e55_123, e55_124, e55_125, e55_126, e55_127, e55_130, e55_133, e55_136, e55_137, e55_141, e55_142, e55_145, e55_146, e55_149, e55_151, e55_152, e55_153, e55_155, e55_156, e55_157, e55_160, e55_162, e55_163, e55_164, e55_167, e55_170, e55_172, e55_173, e55_174, e55_176, e55_177, e55_178, e55_181, e55_184, e55_187, e55_190, zs0, zsI, zsL, zsR, ztl1, ztl0, zc0, zcI, zcL, zcR, true_and, and_true, true_implies, false_implies, implies_true, not_true_eq_false, not_false_eq_true, and_self, Int.toNat_natCast, Nat.reduceAdd, Nat.reduceLeDiff, Nat.reduceLT, forall_eq', Option.some.injEq, zarR, zarI, zarL, zle, zq0, zq1, zq2, zq3, zq4, zq5, zq6, zq8, zq9, zq10, zq20, zq7, zq12, zq24, zq40, zq41, zq48, zq100, zq120, zq123, zq480, zq492, zq700, zq729, zq2187, zq2916, zq8748, ne_eq, Int.reduceEq, Int.reduceLT, Int.reduceLE, Int.reduceToNat, Int.reduceMul, Int.reduceAdd, Int.reduceNeg, wr_s (show k < 2147483647 by omega)]
            apply ih (k + 1) s h2 _ hs (by omega) _ KK
            refine ⟨?_, ?_, ?_, ?_, ?_, ?_, ?_, ?_⟩
            · intro c i q1
              rw [m0 c i (by omega) (by omega) (by omega) (by omega)]
              exact f0 c i q1
            · intro s' q1
              rw [m0 _ _ (by omega) (by omega) (by omega) (by omega)]
              exact f1 s' q1
            · intro s' q1
              rw [m0 _ _ (by omega) (by omega) (by omega) (by omega)]
              exact f2 s' q1
            · intro b s' q1 q2
              rw [m0 _ _ (by omega) (by omega) (by omega) (by omega)]
              exact f3 b s' q1 q2
            · intro b q1
              by_cases q2 : to s k = b
              · subst q2
                rw [m3 q1, f4 _ q1, aEar, if_pos rfl, Int.add_assoc]
              · rw [m0 _ _ (by omega) (by omega) (by omega) (by omega), f4 b q1, aEar, if_neg q2, Int.add_zero]
            · intro b q1
              by_cases q2 : to s k = b
              · subst q2
                rw [m4 q1, f5 _ q1, aCame, if_pos rfl]
              · rw [m0 _ _ (by omega) (by omega) (by omega) (by omega), f5 b q1, aCame, if_neg q2, Int.add_zero]
            · rw [m1, f6, aLeft]
            · rw [m2, f7, aPaid]
      rw [e55_50]
      by_cases hk3 : k = 3
      · subst hk3
        have e1 : h1 62 s = n s 3 := by rw [f0 _ _ (by omega)]; exact hnear s hs
        simp only [e55_0, e55_1, e55_4, e55_5, e55_8, e55_9, e55_13, e55_14, e55_17, e55_20, e55_23, e55_24, e55_27, e55_29, e55_30, e55_31, e55_32, e55_35, e55_37, e55_38, e55_39, e55_40, e55_43, e55_44, e55_47, e55_48, e55_52, e55_53, e55_56, e55_58, e55_59, e55_62, e55_63, e55_66, e55_68, e55_69, e55_72, e55_74, e55_75, e55_78, e55_79, e55_82, e55_84, e55_85, e55_88, e55_89, e55_90, e55_92, e55_93, e55_94, e55_95, e55_97, e55_98, e55_101, e55_103, e55_106, e55_107, e55_109, e55_111, e55_113, e55_114, e55_116, e55_118, e55_119, e55_120, e55_121, e55_123, e55_124, e55_125, e55_126, e55_127, e55_130, e55_133, e55_136, e55_137, e55_141, e55_142, e55_145, e55_146, e55_149, e55_151, e55_152, e55_153, e55_155, e55_156, e55_157, e55_160, e55_162, e55_163, e55_164, e55_167, e55_170, e55_172, e55_173, e55_174, e55_176, e55_177, e55_178, e55_181, e55_184, e55_187, e55_190, zs0, zsI, zsL, zsR, ztl1, ztl0, zc0, zcI, zcL, zcR, true_and, and_true, true_implies, false_implies, implies_true, not_true_eq_false, not_false_eq_true, and_self, Int.toNat_natCast, Nat.reduceAdd, Nat.reduceLeDiff, Nat.reduceLT, forall_eq', Option.some.injEq, zarR, zarI, zarL, zle, zq0, zq1, zq2, zq3, zq4, zq5, zq6, zq8, zq9, zq10, zq20, zq7, zq12, zq24, zq40, zq41, zq48, zq100, zq120, zq123, zq480, zq492, zq700, zq729, zq2187, zq2916, zq8748, ne_eq, Int.reduceEq, Int.reduceLT, Int.reduceLE, Int.reduceToNat, Int.reduceMul, Int.reduceAdd, Int.reduceNeg, gk47 hg, gr47_0 hg, gr47_1 hg, gr47_2 hg, gr47_3 hg, gr47_4 hg, gr47_5 hg, gr47_6 hg, gr47_7 hg, gr47_8 hg, gk62 hg, gl62 hg, gk63 hg, gl63 hg, s4, e1]
        exact rest
      · have c3 : ¬ (k : Int) = 3 := by omega
        by_cases hk4 : k = 4
        · subst hk4
          have e1 : h1 63 s = n s 4 := by rw [f0 _ _ (by omega)]; exact hfar s hs
          simp only [e55_0, e55_1, e55_4, e55_5, e55_8, e55_9, e55_13, e55_14, e55_17, e55_20, e55_23, e55_24, e55_27, e55_29, e55_30, e55_31, e55_32, e55_35, e55_37, e55_38, e55_39, e55_40, e55_43, e55_44, e55_47, e55_48, e55_52, e55_53, e55_56, e55_58, e55_59, e55_62, e55_63, e55_66, e55_68, e55_69, e55_72, e55_74, e55_75, e55_78, e55_79, e55_82, e55_84, e55_85, e55_88, e55_89, e55_90, e55_92, e55_93, e55_94, e55_95, e55_97, e55_98, e55_101, e55_103, e55_106, e55_107, e55_109, e55_111, e55_113, e55_114, e55_116, e55_118, e55_119, e55_120, e55_121, e55_123, e55_124, e55_125, e55_126, e55_127, e55_130, e55_133, e55_136, e55_137, e55_141, e55_142, e55_145, e55_146, e55_149, e55_151, e55_152, e55_153, e55_155, e55_156, e55_157, e55_160, e55_162, e55_163, e55_164, e55_167, e55_170, e55_172, e55_173, e55_174, e55_176, e55_177, e55_178, e55_181, e55_184, e55_187, e55_190, zs0, zsI, zsL, zsR, ztl1, ztl0, zc0, zcI, zcL, zcR, true_and, and_true, true_implies, false_implies, implies_true, not_true_eq_false, not_false_eq_true, and_self, Int.toNat_natCast, Nat.reduceAdd, Nat.reduceLeDiff, Nat.reduceLT, forall_eq', Option.some.injEq, zarR, zarI, zarL, zle, zq0, zq1, zq2, zq3, zq4, zq5, zq6, zq8, zq9, zq10, zq20, zq7, zq12, zq24, zq40, zq41, zq48, zq100, zq120, zq123, zq480, zq492, zq700, zq729, zq2187, zq2916, zq8748, ne_eq, Int.reduceEq, Int.reduceLT, Int.reduceLE, Int.reduceToNat, Int.reduceMul, Int.reduceAdd, Int.reduceNeg, gk47 hg, gr47_0 hg, gr47_1 hg, gr47_2 hg, gr47_3 hg, gr47_4 hg, gr47_5 hg, gr47_6 hg, gr47_7 hg, gr47_8 hg, gk62 hg, gl62 hg, gk63 hg, gl63 hg, s4, e1, show ((4 : Nat) : Int) = 4 from rfl]
          exact rest
        · have c4 : ¬ (k : Int) = 4 := by omega
          have e1 : h1 rh (ha + k * 4 + s) = n s k := by rw [f0 _ _ k4]; exact hheld s k hs (by omega)
          have w4 : ((ha + k * 4 + s : Nat) : Int) < (G.2.2.1 rh : Int) := by omega
          simp only [e55_0, e55_1, e55_4, e55_5, e55_8, e55_9, e55_13, e55_14, e55_17, e55_20, e55_23, e55_24, e55_27, e55_29, e55_30, e55_31, e55_32, e55_35, e55_37, e55_38, e55_39, e55_40, e55_43, e55_44, e55_47, e55_48, e55_52, e55_53, e55_56, e55_58, e55_59, e55_62, e55_63, e55_66, e55_68, e55_69, e55_72, e55_74, e55_75, e55_78, e55_79, e55_82, e55_84, e55_85, e55_88, e55_89, e55_90, e55_92, e55_93, e55_94, e55_95, e55_97, e55_98, e55_101, e55_103, e55_106, e55_107, e55_109, e55_111, e55_113, e55_114, e55_116, e55_118, e55_119, e55_120, e55_121, e55_123, e55_124, e55_125, e55_126, e55_127, e55_130, e55_133, e55_136, e55_137, e55_141, e55_142, e55_145, e55_146, e55_149, e55_151, e55_152, e55_153, e55_155, e55_156, e55_157, e55_160, e55_162, e55_163, e55_164, e55_167, e55_170, e55_172, e55_173, e55_174, e55_176, e55_177, e55_178, e55_181, e55_184, e55_187, e55_190, zs0, zsI, zsL, zsR, ztl1, ztl0, zc0, zcI, zcL, zcR, true_and, and_true, true_implies, false_implies, implies_true, not_true_eq_false, not_false_eq_true, and_self, Int.toNat_natCast, Nat.reduceAdd, Nat.reduceLeDiff, Nat.reduceLT, forall_eq', Option.some.injEq, zarR, zarI, zarL, zle, zq0, zq1, zq2, zq3, zq4, zq5, zq6, zq8, zq9, zq10, zq20, zq7, zq12, zq24, zq40, zq41, zq48, zq100, zq120, zq123, zq480, zq492, zq700, zq729, zq2187, zq2916, zq8748, ne_eq, Int.reduceEq, Int.reduceLT, Int.reduceLE, Int.reduceToNat, Int.reduceMul, Int.reduceAdd, Int.reduceNeg, gk47 hg, gr47_0 hg, gr47_1 hg, gr47_2 hg, gr47_3 hg, gr47_4 hg, gr47_5 hg, gr47_6 hg, gr47_7 hg, gr47_8 hg, c5, c3, c4, wrN (z := (k : Int) * 4) (m := k * 4) (by omega) (by omega), wrN (z := (ha : Int) + ((k * 4 : Nat) : Int)) (m := ha + k * 4) (by omega) (by omega), wrN (z := ((ha + k * 4 : Nat) : Int) + (s : Int)) (m := ha + k * 4 + s) (by omega) (by omega), w4, k1, e1]
          exact rest
  -- what is held next
  have nexts : ∀ j b s (h1 : zM) (l7 : Option zV), s < nS T → b + j = 3 → (yI47 T own oth n to h h1 s 5 ∧ ∀ b', b' < b → h1 68 (b' * 4 + s) = aNext T n to b' s) → (∀ (h2 : zM) (l6 l7 : Option zV), (yI47 T own oth n to h h2 s 5 ∧ ∀ b', b' < 3 → h2 68 (b' * 4 + s) = aNext T n to b' s) → zE 55 (d + 1) Q 184 [some (zR (some 47)), some (zR (some rh)), some (zI ha), some (zR (some rc)), some (zI ca), some (zI s), some (zI 3), l7] [] G h2 (0, 0)) → zE 55 (d + 1) Q 139 [some (zR (some 47)), some (zR (some rh)), some (zI ha), some (zR (some rc)), some (zI ca), some (zI s), some (zI b), l7] [] G h1 (0, 0) := by
    intro j
    induction j with
    | zero =>
      intro b s h1 l7 hs hb3 hI KK
      have hb' : b = 3 := by omega
      subst hb'
      rw [e55_139]
      simp only [e55_0, e55_1, e55_4, e55_5, e55_8, e55_9, e55_13, e55_14, e55_17, e55_20, e55_23, e55_24, e55_27, e55_29, e55_30, e55_31, e55_32, e55_35, e55_37, e55_38, e55_39, e55_40, e55_43, e55_44, e55_47, e55_48, e55_52, e55_53, e55_56, e55_58, e55_59, e55_62, e55_63, e55_66, e55_68, e55_69, e55_72, e55_74, e55_75, e55_78, e55_79, e55_82, e55_84, e55_85, e55_88, e55_89, e55_90, e55_92, e55_93, e55_94, e55_95, e55_97, e55_98, e55_99, e55_101, e55_103, e55_106, e55_107, e55_109, e55_111, e55_113, e55_114, e55_116, e55_118, e55_119, e55_120, e55_121, e55_123, e55_124, e55_125, e55_126, e55_127, e55_130, e55_133, e55_136, e55_137, e55_141, e55_142, e55_145, e55_146, e55_149, e55_151, e55_152, e55_153, e55_155, e55_156, e55_157, e55_160, e55_162, e55_163, e55_164, e55_167, e55_170, e55_172, e55_173, e55_174, e55_176, e55_177, e55_178, e55_181, e55_187, e55_190, zs0, zsI, zsL, zsR, ztl1, ztl0, zc0, zcI, zcL, zcR, true_and, and_true, true_implies, false_implies, implies_true, not_true_eq_false, not_false_eq_true, and_self, Int.toNat_natCast, Nat.reduceAdd, Nat.reduceLeDiff, Nat.reduceLT, forall_eq', Option.some.injEq, zarR, zarI, zarL, zle, zq0, zq1, zq2, zq3, zq4, zq5, zq6, zq8, zq9, zq10, zq20, zq7, zq12, zq24, zq40, zq41, zq48, zq100, zq120, zq123, zq480, zq492, zq700, zq729, zq2187, zq2916, zq8748, ne_eq, Int.reduceEq, Int.reduceLT, Int.reduceLE, Int.reduceToNat, Int.reduceMul, Int.reduceAdd, Int.reduceNeg, Int.le_refl]
      exact KK h1 none l7 hI
    | succ j ih =>
      intro b s h1 l7 hs hb3 hI KK
      obtain ⟨⟨f0, f1, f2, f3, f4, f5, f6, f7⟩, g0⟩ := hI
      have c3 : ¬ (3 : Int) ≤ b := by omega
      have s4 : (s : Int) < 4 := by omega
      have b3 : (b : Int) < 3 := by omega
      have hT1 : kT h1 49 T := kT_frame hT (fun c i q1 q2 => f0 c i (by omega))
      have e1 := hT1.2.2.2.2.2.2.2.2.2.2.2.1 s (by omega)
      have e2 := f5 b (by omega)
      have g3 := aCame_b (to := to) hn b s 5 (by omega)
      have g4 := (hw.2.2.2.2.2 s).2.2.2.2.2.2.1
      have g5 := mulb g3.1 g3.2 g4.1 g4.2 (by decide) (by decide)
      have w3 : ((b * 4 + s : Nat) : Int) < 12 := by omega
      rw [e55_139]
      simp only [e55_0, e55_1, e55_4, e55_5, e55_8, e55_9, e55_13, e55_14, e55_17, e55_20, e55_23, e55_24, e55_27, e55_29, e55_30, e55_31, e55_32, e55_35, e55_37, e55_38, e55_39, e55_40, e55_43, e55_44, e55_47, e55_48, e55_52, e55_53, e55_56, e55_58, e55_59, e55_62, e55_63, e55_66, e55_68, e55_69, e55_72, e55_74, e55_75, e55_78, e55_79, e55_82, e55_84, e55_85, e55_88, e55_89, e55_90, e55_92, e55_93, e55_94, e55_95, e55_97, e55_98, e55_99, e55_101, e55_103, e55_106, e55_107, e55_109, e55_111, e55_113, e55_114, e55_116, e55_118, e55_119, e55_120, e55_121, e55_123, e55_124, e55_125, e55_126, e55_127, e55_130, e55_133, e55_136, e55_137, e55_141, e55_142, e55_145, e55_146, e55_149, e55_151, e55_152, e55_153, e55_155, e55_156, e55_157, e55_160, e55_162, e55_163, e55_164, e55_167, e55_170, e55_172, e55_173, e55_174, e55_176, e55_177, e55_178, e55_181, e55_184, e55_187, e55_190, zs0, zsI, zsL, zsR, ztl1, ztl0, zc0, zcI, zcL, zcR, true_and, and_true, true_implies, false_implies, implies_true, not_true_eq_false, not_false_eq_true, and_self, Int.toNat_natCast, Nat.reduceAdd, Nat.reduceLeDiff, Nat.reduceLT, forall_eq', Option.some.injEq, zarR, zarI, zarL, zle, zq0, zq1, zq2, zq3, zq4, zq5, zq6, zq8, zq9, zq10, zq20, zq7, zq12, zq24, zq40, zq41, zq48, zq100, zq120, zq123, zq480, zq492, zq700, zq729, zq2187, zq2916, zq8748, ne_eq, Int.reduceEq, Int.reduceLT, Int.reduceLE, Int.reduceToNat, Int.reduceMul, Int.reduceAdd, Int.reduceNeg, gk47 hg, gr47_0 hg, gr47_1 hg, gr47_2 hg, gr47_3 hg, gr47_4 hg, gr47_5 hg, gr47_6 hg, gr47_7 hg, gr47_8 hg, gk49 hg, gr49_0 hg, gr49_1 hg, gr49_2 hg, gr49_3 hg, gr49_4 hg, gr49_5 hg, gr49_6 hg, gr49_7 hg, gr49_8 hg, gk64 hg, gl64 hg, gk68 hg, gl68 hg, gk56 hg, gl56 hg, c3, s4, b3, e1, e2, wrN (z := (b : Int) * 4) (m := b * 4) (by omega) (by omega), wrN (z := ((b * 4 : Nat) : Int) + (s : Int)) (m := b * 4 + s) (by omega) (by omega), w3, wr_s (show b < 2147483647 by omega)]
      rw [wr_id (z := aCame n to b s 5 * tr T 6 s) (by omega), Int.tdiv_eq_ediv_of_nonneg (by omega), wr_id (by omega)]
      apply ih (b + 1) s _ _ hs (by omega) _ KK
      refine ⟨⟨?_, ?_, ?_, ?_, ?_, ?_, ?_, ?_⟩, ?_⟩
      · intro c i q1
        rw [zu_c (by omega)]
        exact f0 c i q1
      · intro s' q1
        rw [zu_c (by decide)]
        exact f1 s' q1
      · intro s' q1
        rw [zu_c (by decide)]
        exact f2 s' q1
      · intro b' s' q1 q2
        rw [zu_i (by omega)]
        exact f3 b' s' q1 q2
      · intro b' q1
        rw [zu_c (by decide)]
        exact f4 b' q1
      · intro b' q1
        rw [zu_c (by decide)]
        exact f5 b' q1
      · rw [zu_c (by decide)]
        exact f6
      · rw [zu_c (by decide)]
        exact f7
      · intro b' q1
        by_cases q2 : b' = b
        · subst q2
          exact zu_at
        · rw [zu_i (by omega)]
          exact g0 b' (by omega)
  -- the sorts
  have lp : ∀ j s (h1 : zM) (l6 l7 : Option zV), s + j = nS T → ((∀ c i, c < 64 ∨ 68 < c → h1 c i = h c i) ∧ (∀ s', s' < s → h1 67 s' = aLeft n to s' 5) ∧ (∀ s', s' < s → h1 66 s' = aPaid own oth n to s' 5) ∧ (∀ b s', b < 3 → s' < s → h1 68 (b * 4 + s') = aNext T n to b s') ∧ (∀ b, b < 3 → h1 65 b = aEarS T own oth n to b s)) → zE 55 (d + 1) Q 11 [some (zR (some 47)), some (zR (some rh)), some (zI ha), some (zR (some rc)), some (zI ca), some (zI s), l6, l7] [] G h1 (0, 0) := by
    intro j
    induction j with
    | zero =>
      intro s h1 l6 l7 hs hI
      obtain ⟨f0, f1, f2, f3, f4⟩ := hI
      have hT1 : kT h1 49 T := kT_frame hT (fun c i q1 q2 => f0 c i (by omega))
      have e1 := hT1.2.1
      have hs' : s = nS T := by omega
      subst hs'
      rw [e55_11]
      simp only [e55_0, e55_1, e55_4, e55_5, e55_8, e55_9, e55_13, e55_14, e55_17, e55_20, e55_23, e55_24, e55_27, e55_29, e55_30, e55_31, e55_32, e55_35, e55_37, e55_38, e55_39, e55_40, e55_43, e55_44, e55_47, e55_48, e55_52, e55_53, e55_56, e55_58, e55_59, e55_62, e55_63, e55_66, e55_68, e55_69, e55_72, e55_74, e55_75, e55_78, e55_79, e55_82, e55_84, e55_85, e55_88, e55_89, e55_90, e55_92, e55_93, e55_94, e55_95, e55_97, e55_98, e55_99, e55_101, e55_103, e55_106, e55_107, e55_109, e55_111, e55_113, e55_114, e55_116, e55_118, e55_119, e55_120, e55_121, e55_123, e55_124, e55_125, e55_126, e55_127, e55_130, e55_133, e55_136, e55_137, e55_141, e55_142, e55_145, e55_146, e55_149, e55_151, e55_152, e55_153, e55_155, e55_156, e55_157, e55_160, e55_162, e55_163, e55_164, e55_167, e55_170, e55_172, e55_173, e55_174, e55_176, e55_177, e55_178, e55_181, e55_184, e55_187, e55_190, zs0, zsI, zsL, zsR, ztl1, ztl0, zc0, zcI, zcL, zcR, true_and, and_true, true_implies, false_implies, implies_true, not_true_eq_false, not_false_eq_true, and_self, Int.toNat_natCast, Nat.reduceAdd, Nat.reduceLeDiff, Nat.reduceLT, forall_eq', Option.some.injEq, zarR, zarI, zarL, zle, zq0, zq1, zq2, zq3, zq4, zq5, zq6, zq8, zq9, zq10, zq20, zq7, zq12, zq24, zq40, zq41, zq48, zq100, zq120, zq123, zq480, zq492, zq700, zq729, zq2187, zq2916, zq8748, ne_eq, Int.reduceEq, Int.reduceLT, Int.reduceLE, Int.reduceToNat, Int.reduceMul, Int.reduceAdd, Int.reduceNeg, gk47 hg, gr47_0 hg, gr47_1 hg, gr47_2 hg, gr47_3 hg, gr47_4 hg, gr47_5 hg, gr47_6 hg, gr47_7 hg, gr47_8 hg, gk49 hg, gr49_0 hg, gr49_1 hg, gr49_2 hg, gr49_3 hg, gr49_4 hg, gr49_5 hg, gr49_6 hg, gr49_7 hg, gr49_8 hg, e1, Int.le_refl]
      exact K h1 f0 f1 f2 f4 (fun b s q1 q2 => f3 b s q1 q2)
    | succ j ih =>
      intro s h1 l6 l7 hs hI
      obtain ⟨f0, f1, f2, f3, f4⟩ := hI
      have hT1 : kT h1 49 T := kT_frame hT (fun c i q1 q2 => f0 c i (by omega))
      have e1 := hT1.2.1
      have c : ¬ (nS T : Int) ≤ s := by omega
      have s4 : (s : Int) < 4 := by omega
      have hfl : ∀ (h9 : zM) (Q' : zQ), zRunD ztb zmt' (d + 1) 219 [zR (some 64), zI 0] G h9 Q' ↔ Q' none G (zfl h9 64 3 0) := fun h9 Q' => s_fill (d := d) (gk64 hg) (gl64 hg) (by omega)
      rw [e55_11]
      simp only [e55_0, e55_1, e55_4, e55_5, e55_8, e55_9, e55_13, e55_14, e55_17, e55_20, e55_23, e55_24, e55_27, e55_29, e55_30, e55_31, e55_32, e55_35, e55_37, e55_38, e55_39, e55_40, e55_43, e55_44, e55_47, e55_48, e55_52, e55_53, e55_56, e55_58, e55_59, e55_62, e55_63, e55_66, e55_68, e55_69, e55_72, e55_74, e55_75, e55_78, e55_79, e55_82, e55_84, e55_85, e55_88, e55_89, e55_90, e55_92, e55_93, e55_94, e55_95, e55_97, e55_98, e55_99, e55_101, e55_103, e55_106, e55_107, e55_109, e55_111, e55_113, e55_114, e55_116, e55_118, e55_119, e55_120, e55_121, e55_123, e55_124, e55_125, e55_126, e55_127, e55_130, e55_133, e55_136, e55_137, e55_141, e55_142, e55_145, e55_146, e55_149, e55_151, e55_152, e55_153, e55_155, e55_156, e55_157, e55_160, e55_162, e55_163, e55_164, e55_167, e55_170, e55_172, e55_173, e55_174, e55_176, e55_177, e55_178, e55_181, e55_184, e55_187, e55_190, zs0, zsI, zsL, zsR, ztl1, ztl0, zc0, zcI, zcL, zcR, true_and, and_true, true_implies, false_implies, implies_true, not_true_eq_false, not_false_eq_true, and_self, Int.toNat_natCast, Nat.reduceAdd, Nat.reduceLeDiff, Nat.reduceLT, forall_eq', Option.some.injEq, zarR, zarI, zarL, zle, zq0, zq1, zq2, zq3, zq4, zq5, zq6, zq8, zq9, zq10, zq20, zq7, zq12, zq24, zq40, zq41, zq48, zq100, zq120, zq123, zq480, zq492, zq700, zq729, zq2187, zq2916, zq8748, ne_eq, Int.reduceEq, Int.reduceLT, Int.reduceLE, Int.reduceToNat, Int.reduceMul, Int.reduceAdd, Int.reduceNeg, gk47 hg, gr47_0 hg, gr47_1 hg, gr47_2 hg, gr47_3 hg, gr47_4 hg, gr47_5 hg, gr47_6 hg, gr47_7 hg, gr47_8 hg, gk49 hg, gr49_0 hg, gr49_1 hg, gr49_2 hg, gr49_3 hg, gr49_4 hg, gr49_5 hg, gr49_6 hg, gr49_7 hg, gr49_8 hg, gk66 hg, gl66 hg, gk67 hg, gl67 hg, e1, c, s4, hfl]
      apply kinds 5 0 s _ _ (by omega) (by omega)
      · refine ⟨?_, ?_, ?_, ?_, ?_, ?_, ?_, ?_⟩
        · intro c i q1
          rw [zfl_c (by omega), zu_c (by omega), zu_c (by omega)]
          exact f0 c i q1
        · intro s' q1
          rw [zfl_c (by decide), zu_i (by omega), zu_c (by decide)]
          exact f1 s' q1
        · intro s' q1
          rw [zfl_c (by decide), zu_c (by decide), zu_i (by omega)]
          exact f2 s' q1
        · intro b s' q1 q2
          rw [zfl_c (by decide), zu_c (by decide), zu_c (by decide)]
          exact f3 b s' q1 q2
        · intro b q1
          rw [zfl_c (by decide), zu_c (by decide), zu_c (by decide), f4 b q1, aEar, Int.add_zero]
        · intro b q1
          rw [zfl_at q1]
          rfl
        · rw [zfl_c (by decide), zu_at]
          rfl
        · rw [zfl_c (by decide), zu_c (by decide), zu_at]
          rfl
      · intro h2 l7 hI2
        simp only [e55_0, e55_1, e55_4, e55_5, e55_8, e55_9, e55_13, e55_14, e55_17, e55_20, e55_23, e55_24, e55_27, e55_29, e55_30, e55_31, e55_32, e55_35, e55_37, e55_38, e55_39, e55_40, e55_43, e55_44, e55_47, e55_48, e55_52, e55_53, e55_56, e55_58, e55_59, e55_62, e55_63, e55_66, e55_68, e55_69, e55_72, e55_74, e55_75, e55_78, e55_79, e55_82, e55_84, e55_85, e55_88, e55_89, e55_90, e55_92, e55_93, e55_94, e55_95, e55_97, e55_98, e55_99, e55_101, e55_103, e55_106, e55_107, e55_109, e55_111, e55_113, e55_114, e55_116, e55_118, e55_119, e55_120, e55_121, e55_123, e55_124, e55_125, e55_126, e55_127, e55_130, e55_133, e55_136, e55_137, e55_141, e55_142, e55_145, e55_146, e55_149, e55_151, e55_152, e55_153, e55_155, e55_156, e55_157, e55_160, e55_162, e55_163, e55_164, e55_167, e55_170, e55_172, e55_173, e55_174, e55_176, e55_177, e55_178, e55_181, e55_184, e55_187, e55_190, zs0, zsI, zsL, zsR, ztl1, ztl0, zc0, zcI, zcL, zcR, true_and, and_true, true_implies, false_implies, implies_true, not_true_eq_false, not_false_eq_true, and_self, Int.toNat_natCast, Nat.reduceAdd, Nat.reduceLeDiff, Nat.reduceLT, forall_eq', Option.some.injEq, zarR, zarI, zarL, zle, zq0, zq1, zq2, zq3, zq4, zq5, zq6, zq8, zq9, zq10, zq20, zq7, zq12, zq24, zq40, zq41, zq48, zq100, zq120, zq123, zq480, zq492, zq700, zq729, zq2187, zq2916, zq8748, ne_eq, Int.reduceEq, Int.reduceLT, Int.reduceLE, Int.reduceToNat, Int.reduceMul, Int.reduceAdd, Int.reduceNeg]
        apply nexts 3 0 s h2 _ (by omega) (by omega) ⟨hI2, fun b' q => by omega⟩
        intro h3 l6 l7 hI3
        obtain ⟨⟨m0, m1, m2, m3, m4, m5, m6, m7⟩, mg⟩ := hI3
        simp only [e55_0, e55_1, e55_4, e55_5, e55_8, e55_9, e55_13, e55_14, e55_17, e55_20, e55_23, e55_24, e55_27, e55_29, e55_30, e55_31, e55_32, e55_35, e55_37, e55_38, e55_39, e55_40, e55_43, e55_44, e55_47, e55_48, e55_52, e55_53, e55_56, e55_58, e55_59, e55_62, e55_63, e55_66, e55_68, e55_69, e55_72, e55_74, e55_75, e55_78, e55_79, e55_82, e55_84, e55_85, e55_88, e55_89, e55_90, e55_92, e55_93, e55_94, e55_95, e55_97, e55_98, e55_99, e55_101, e55_103, e55_106, e55_107, e55_109, e55_111, e55_113, e55_114, e55_116, e55_118, e55_119, e55_120, e55_121, e55_123, e55_124, e55_125, e55_126, e55_127, e55_130, e55_133, e55_136, e55_137, e55_141, e55_142, e55_145, e55_146, e55_149, e55_151, e55_152, e55_153, e55_155, e55_156, e55_157, e55_160, e55_162, e55_163, e55_164, e55_167, e55_170, e55_172, e55_173, e55_174, e55_176, e55_177, e55_178, e55_181, e55_184, e55_187, e55_190, zs0, zsI, zsL, zsR, ztl1, ztl0, zc0, zcI, zcL, zcR, true_and, and_true, true_implies, false_implies, implies_true, not_true_eq_false, not_false_eq_true, and_self, Int.toNat_natCast, Nat.reduceAdd, Nat.reduceLeDiff, Nat.reduceLT, forall_eq', Option.some.injEq, zarR, zarI, zarL, zle, zq0, zq1, zq2, zq3, zq4, zq5, zq6, zq8, zq9, zq10, zq20, zq7, zq12, zq24, zq40, zq41, zq48, zq100, zq120, zq123, zq480, zq492, zq700, zq729, zq2187, zq2916, zq8748, ne_eq, Int.reduceEq, Int.reduceLT, Int.reduceLE, Int.reduceToNat, Int.reduceMul, Int.reduceAdd, Int.reduceNeg, wr_s (show s < 2147483647 by omega)]
        apply ih (s + 1) h3 _ _ (by omega)
        refine ⟨m0, ?_, ?_, ?_, ?_⟩
        · intro s' q1
          by_cases q2 : s' = s
          · subst q2
            exact m6
          · exact m1 s' (by omega)
        · intro s' q1
          by_cases q2 : s' = s
          · subst q2
            exact m7
          · exact m2 s' (by omega)
        · intro b s' q1 q3
          by_cases q2 : s' = s
          · subst q2
            exact mg b q1
          · exact m3 b s' q1 (by omega)
        · intro b q1
          rw [m4 b q1]
          rfl
  have hfl : ∀ (h9 : zM) (Q' : zQ), zRunD ztb zmt' (d + 1) 218 [zR (some 65), zL 0] G h9 Q' ↔ Q' none G (zfl h9 65 3 0) := fun h9 Q' => s_fillL (d := d) (gk65 hg) (gl65 hg) (by omega)
  simp only [e55_0, e55_1, e55_4, e55_5, e55_8, e55_9, e55_13, e55_14, e55_17, e55_20, e55_23, e55_24, e55_27, e55_29, e55_30, e55_31, e55_32, e55_35, e55_37, e55_38, e55_39, e55_40, e55_43, e55_44, e55_47, e55_48, e55_52, e55_53, e55_56, e55_58, e55_59, e55_62, e55_63, e55_66, e55_68, e55_69, e55_72, e55_74, e55_75, e55_78, e55_79, e55_82, e55_84, e55_85, e55_88, e55_89, e55_90, e55_92, e55_93, e55_94, e55_95, e55_97, e55_98, e55_99, e55_101, e55_103, e55_106, e55_107, e55_109, e55_111, e55_113, e55_114, e55_116, e55_118, e55_119, e55_120, e55_121, e55_123, e55_124, e55_125, e55_126, e55_127, e55_130, e55_133, e55_136, e55_137, e55_141, e55_142, e55_145, e55_146, e55_149, e55_151, e55_152, e55_153, e55_155, e55_156, e55_157, e55_160, e55_162, e55_163, e55_164, e55_167, e55_170, e55_172, e55_173, e55_174, e55_176, e55_177, e55_178, e55_181, e55_184, e55_187, e55_190, zs0, zsI, zsL, zsR, ztl1, ztl0, zc0, zcI, zcL, zcR, true_and, and_true, true_implies, false_implies, implies_true, not_true_eq_false, not_false_eq_true, and_self, Int.toNat_natCast, Nat.reduceAdd, Nat.reduceLeDiff, Nat.reduceLT, forall_eq', Option.some.injEq, zarR, zarI, zarL, zle, zq0, zq1, zq2, zq3, zq4, zq5, zq6, zq8, zq9, zq10, zq20, zq7, zq12, zq24, zq40, zq41, zq48, zq100, zq120, zq123, zq480, zq492, zq700, zq729, zq2187, zq2916, zq8748, ne_eq, Int.reduceEq, Int.reduceLT, Int.reduceLE, Int.reduceToNat, Int.reduceMul, Int.reduceAdd, Int.reduceNeg, gk47 hg, gr47_0 hg, gr47_1 hg, gr47_2 hg, gr47_3 hg, gr47_4 hg, gr47_5 hg, gr47_6 hg, gr47_7 hg, gr47_8 hg, hfl]
  apply lp (nS T) 0 _ _ _ (by omega)
  refine ⟨?_, ?_, ?_, ?_, ?_⟩
  · intro c i q1
    rw [zfl_c (by omega)]
  · intro s' q
    omega
  · intro s' q
    omega
  · intro b s' _ q
    omega
  · intro b q
    rw [zfl_at q]
    rfl
end YR47
