theorem zu2 {h : zM} {c i j : Nat} {v : Int} : zu h c i v c j = if j = i then v else h c j := by
  unfold zu
  by_cases q : j = i
  · rw [if_pos ⟨rfl, q⟩, if_pos q]
  · rw [if_neg (fun z => q z.2), if_neg q]
/-- the value as the one adds it up -/
def vC (tp : Nat → Int) (p : Nat) : Nat → Int
  | 0 => 0
  | l + 1 => wr (wr (wr (10 * vC tp p l) + tp (p + l)) - 48)
theorem vC_nmb {tp : Nat → Int} {p l : Nat} (hl : l ≤ 3) (h : ∀ i, i < l → 48 ≤ tp (p + i) ∧ tp (p + i) ≤ 57) : vC tp p l = nmb tp p l ∧ 0 ≤ nmb tp p l ∧ nmb tp p l + 1 ≤ 10 ^ l := by
  induction l with
  | zero => exact ⟨rfl, Int.le_refl 0, (show (0 : Int) + 1 ≤ 10 ^ 0 by decide)⟩
  | succ l ih =>
    obtain ⟨h1, h2, h3⟩ := ih (by omega) (fun i hi => h i (by omega))
    have h4 := h l (by omega)
    have h5 : nmb tp p l + 1 ≤ 100 := by
      have q : l = 0 ∨ l = 1 ∨ l = 2 := by omega
      rcases q with rfl | rfl | rfl
      · exact Int.le_trans h3 (by decide)
      · exact Int.le_trans h3 (by decide)
      · exact h3
    unfold vC nmb
    rw [h1, wr_id (z := 10 * _) (by omega), wr_id (z := _ + tp (p + l)) (by omega), wr_id (by omega), Int.pow_succ]
    refine ⟨by omega, by omega, by omega⟩
/-- the one's token is the one at q -/
def TKc (tp : Nat → Int) (n : Nat) (h : zM) (q : Nat) : Prop := q ≤ n ∧ h 2 5 = (kd tp n q : Nat) ∧ h 2 6 = (st tp n q : Nat) ∧ (kd tp n q = 1 → h 2 7 = ((rn tp n q - st tp n q : Nat) : Int)) ∧ (kd tp n q = 2 → h 2 8 = nb tp n q) ∧ (¬ kd tp n q = 5 → h 2 4 = (nxt tp n q : Nat))
section CT
variable {d : Nat} {Q : zQ} {G : zG} {h : zM} {n q : Nat}
theorem c_kindOf {b : Int} : zRunD ztb zmt' (d + 1) 18 [zR (some 2), zI b] G h Q ↔ Q (some (zI (kB b : Nat))) G h := by
  rw [r18]
  unfold kB
  by_cases c1 : b < 97
  · rw [if_neg (by omega)]
    by_cases c3 : b < 48
    · rw [if_neg (by omega)]
      have c5 : ¬ b = 59 := by omega
      rw [if_neg c5]
      by_cases c6 : b = 44
      · rw [if_pos c6]
        simp only [e18_0, e18_1, e18_3, e18_6, e18_7, e18_9, e18_12, e18_13, e18_14, e18_15, e18_17, e18_20, e18_21, e18_23, e18_26, e18_27, e18_28, e18_29, e18_31, e18_34, e18_35, e18_38, e18_39, e18_41, e18_44, e18_45, e18_48, e18_49, zs0, zsI, zsL, zsR, ztl1, ztl0, zc0, zcI, zcL, zcR, true_and, and_true, true_implies, false_implies, implies_true, not_true_eq_false, not_false_eq_true, and_self, Int.toNat_natCast, Nat.reduceAdd, Nat.reduceLeDiff, Nat.reduceLT, forall_eq', Option.some.injEq, zarR, zarI, zarL, zle, zq0, zq1, zq2, zq3, zq4, zq5, zq6, zq8, zq9, zq10, zq20, zq7, zq12, zq24, zq40, zq41, zq48, zq100, zq120, zq123, zq480, zq492, zq700, zq729, zq2187, zq2916, zq8748, ne_eq, Int.reduceEq, Int.reduceLT, Int.reduceLE, Int.reduceToNat, Int.reduceMul, Int.reduceAdd, Int.reduceNeg, or_true, true_or, if_true, if_false, false_and, and_false, false_or, or_false, c1, c3, c5, c6]
      · rw [if_neg c6]
        simp only [e18_0, e18_1, e18_3, e18_6, e18_7, e18_9, e18_12, e18_13, e18_14, e18_15, e18_17, e18_20, e18_21, e18_23, e18_26, e18_27, e18_28, e18_29, e18_31, e18_34, e18_35, e18_38, e18_39, e18_41, e18_44, e18_45, e18_48, e18_49, zs0, zsI, zsL, zsR, ztl1, ztl0, zc0, zcI, zcL, zcR, true_and, and_true, true_implies, false_implies, implies_true, not_true_eq_false, not_false_eq_true, and_self, Int.toNat_natCast, Nat.reduceAdd, Nat.reduceLeDiff, Nat.reduceLT, forall_eq', Option.some.injEq, zarR, zarI, zarL, zle, zq0, zq1, zq2, zq3, zq4, zq5, zq6, zq8, zq9, zq10, zq20, zq7, zq12, zq24, zq40, zq41, zq48, zq100, zq120, zq123, zq480, zq492, zq700, zq729, zq2187, zq2916, zq8748, ne_eq, Int.reduceEq, Int.reduceLT, Int.reduceLE, Int.reduceToNat, Int.reduceMul, Int.reduceAdd, Int.reduceNeg, or_true, true_or, if_true, if_false, false_and, and_false, false_or, or_false, c1, c3, c5, c6]
    · by_cases c4 : 57 < b
      · rw [if_neg (by omega)]
        by_cases c5 : b = 59
        · rw [if_pos c5]
          simp only [e18_0, e18_1, e18_3, e18_6, e18_7, e18_9, e18_12, e18_13, e18_14, e18_15, e18_17, e18_20, e18_21, e18_23, e18_26, e18_27, e18_28, e18_29, e18_31, e18_34, e18_35, e18_38, e18_39, e18_41, e18_44, e18_45, e18_48, e18_49, zs0, zsI, zsL, zsR, ztl1, ztl0, zc0, zcI, zcL, zcR, true_and, and_true, true_implies, false_implies, implies_true, not_true_eq_false, not_false_eq_true, and_self, Int.toNat_natCast, Nat.reduceAdd, Nat.reduceLeDiff, Nat.reduceLT, forall_eq', Option.some.injEq, zarR, zarI, zarL, zle, zq0, zq1, zq2, zq3, zq4, zq5, zq6, zq8, zq9, zq10, zq20, zq7, zq12, zq24, zq40, zq41, zq48, zq100, zq120, zq123, zq480, zq492, zq700, zq729, zq2187, zq2916, zq8748, ne_eq, Int.reduceEq, Int.reduceLT, Int.reduceLE, Int.reduceToNat, Int.reduceMul, Int.reduceAdd, Int.reduceNeg, or_true, true_or, if_true, if_false, false_and, and_false, false_or, or_false, c1, c3, c4, c5]
        · have c6 : ¬ b = 44 := by omega
          rw [if_neg c5, if_neg c6]
          simp only [e18_0, e18_1, e18_3, e18_6, e18_7, e18_9, e18_12, e18_13, e18_14, e18_15, e18_17, e18_20, e18_21, e18_23, e18_26, e18_27, e18_28, e18_29, e18_31, e18_34, e18_35, e18_38, e18_39, e18_41, e18_44, e18_45, e18_48, e18_49, zs0, zsI, zsL, zsR, ztl1, ztl0, zc0, zcI, zcL, zcR, true_and, and_true, true_implies, false_implies, implies_true, not_true_eq_false, not_false_eq_true, and_self, Int.toNat_natCast, Nat.reduceAdd, Nat.reduceLeDiff, Nat.reduceLT, forall_eq', Option.some.injEq, zarR, zarI, zarL, zle, zq0, zq1, zq2, zq3, zq4, zq5, zq6, zq8, zq9, zq10, zq20, zq7, zq12, zq24, zq40, zq41, zq48, zq100, zq120, zq123, zq480, zq492, zq700, zq729, zq2187, zq2916, zq8748, ne_eq, Int.reduceEq, Int.reduceLT, Int.reduceLE, Int.reduceToNat, Int.reduceMul, Int.reduceAdd, Int.reduceNeg, or_true, true_or, if_true, if_false, false_and, and_false, false_or, or_false, c1, c3, c4, c5, c6]
      · rw [if_pos (by omega)]
        simp only [e18_0, e18_1, e18_3, e18_6, e18_7, e18_9, e18_12, e18_13, e18_14, e18_15, e18_17, e18_20, e18_21, e18_23, e18_26, e18_27, e18_28, e18_29, e18_31, e18_34, e18_35, e18_38, e18_39, e18_41, e18_44, e18_45, e18_48, e18_49, zs0, zsI, zsL, zsR, ztl1, ztl0, zc0, zcI, zcL, zcR, true_and, and_true, true_implies, false_implies, implies_true, not_true_eq_false, not_false_eq_true, and_self, Int.toNat_natCast, Nat.reduceAdd, Nat.reduceLeDiff, Nat.reduceLT, forall_eq', Option.some.injEq, zarR, zarI, zarL, zle, zq0, zq1, zq2, zq3, zq4, zq5, zq6, zq8, zq9, zq10, zq20, zq7, zq12, zq24, zq40, zq41, zq48, zq100, zq120, zq123, zq480, zq492, zq700, zq729, zq2187, zq2916, zq8748, ne_eq, Int.reduceEq, Int.reduceLT, Int.reduceLE, Int.reduceToNat, Int.reduceMul, Int.reduceAdd, Int.reduceNeg, or_true, true_or, if_true, if_false, false_and, and_false, false_or, or_false, c1, c3, c4]
  · by_cases c2 : 122 < b
    · have c3 : ¬ b < 48 := by omega
      have c4 : 57 < b := by omega
      have c5 : ¬ b = 59 := by omega
      have c6 : ¬ b = 44 := by omega
      rw [if_neg (by omega), if_neg (by omega), if_neg c5, if_neg c6]
      simp only [e18_0, e18_1, e18_3, e18_6, e18_7, e18_9, e18_12, e18_13, e18_14, e18_15, e18_17, e18_20, e18_21, e18_23, e18_26, e18_27, e18_28, e18_29, e18_31, e18_34, e18_35, e18_38, e18_39, e18_41, e18_44, e18_45, e18_48, e18_49, zs0, zsI, zsL, zsR, ztl1, ztl0, zc0, zcI, zcL, zcR, true_and, and_true, true_implies, false_implies, implies_true, not_true_eq_false, not_false_eq_true, and_self, Int.toNat_natCast, Nat.reduceAdd, Nat.reduceLeDiff, Nat.reduceLT, forall_eq', Option.some.injEq, zarR, zarI, zarL, zle, zq0, zq1, zq2, zq3, zq4, zq5, zq6, zq8, zq9, zq10, zq20, zq7, zq12, zq24, zq40, zq41, zq48, zq100, zq120, zq123, zq480, zq492, zq700, zq729, zq2187, zq2916, zq8748, ne_eq, Int.reduceEq, Int.reduceLT, Int.reduceLE, Int.reduceToNat, Int.reduceMul, Int.reduceAdd, Int.reduceNeg, or_true, true_or, if_true, if_false, false_and, and_false, false_or, or_false, c1, c2, c3, c4, c5, c6]
    · rw [if_pos (by omega)]
      simp only [e18_0, e18_1, e18_3, e18_6, e18_7, e18_9, e18_12, e18_13, e18_14, e18_15, e18_17, e18_20, e18_21, e18_23, e18_26, e18_27, e18_28, e18_29, e18_31, e18_34, e18_35, e18_38, e18_39, e18_41, e18_44, e18_45, e18_48, e18_49, zs0, zsI, zsL, zsR, ztl1, ztl0, zc0, zcI, zcL, zcR, true_and, and_true, true_implies, false_implies, implies_true, not_true_eq_false, not_false_eq_true, and_self, Int.toNat_natCast, Nat.reduceAdd, Nat.reduceLeDiff, Nat.reduceLT, forall_eq', Option.some.injEq, zarR, zarI, zarL, zle, zq0, zq1, zq2, zq3, zq4, zq5, zq6, zq8, zq9, zq10, zq20, zq7, zq12, zq24, zq40, zq41, zq48, zq100, zq120, zq123, zq480, zq492, zq700, zq729, zq2187, zq2916, zq8748, ne_eq, Int.reduceEq, Int.reduceLT, Int.reduceLE, Int.reduceToNat, Int.reduceMul, Int.reduceAdd, Int.reduceNeg, or_true, true_or, if_true, if_false, false_and, and_false, false_or, or_false, c1, c2]
theorem c_next (hg : gS G) (ht : G.2.2.2 2 2 = some 1) (h3 : h 2 3 = (n : Int)) (hn : n ≤ 700) (h4 : h 2 4 = (q : Int)) (hq : q ≤ n) (K : ∀ h' : zM, (∀ c i, ¬ (c = 2 ∧ 4 ≤ i ∧ i ≤ 8) → h' c i = h c i) → TKc (h 1) n h' q → Q none G h') : zRunD ztb zmt' (d + 2) 17 [zR (some 2)] G h Q := by
  rw [r17]
  have blank : ∀ j p (h1 : zM), p + j = n → (∀ c i, ¬ (c = 2 ∧ i = 4) → h1 c i = h c i) → h1 2 4 = (p : Int) → (∀ h2 : zM, (∀ c i, ¬ (c = 2 ∧ i = 4) → h2 c i = h c i) → h2 2 4 = (skp (h 1) j p : Nat) → zE 17 (d + 1) Q 38 [some (zR (some 2))] [] G h2 (0, 0)) → zE 17 (d + 1) Q 0 [some (zR (some 2))] [] G h1 (0, 0) := by
    intro j
    induction j with
    | zero =>
      intro p h1 hj f e4 KK
      have e3 : h1 2 3 = (n : Int) := by rw [f _ _ (by omega)]; exact h3
      have c : (n : Int) ≤ p := by omega
      rw [e17_0]
      simp only [e17_1, e17_4, e17_5, e17_8, e17_11, e17_12, e17_15, e17_16, e17_19, e17_20, e17_22, e17_25, e17_26, e17_27, e17_30, e17_31, e17_32, e17_35, zs0, zsI, zsL, zsR, ztl1, ztl0, zc0, zcI, zcL, zcR, true_and, and_true, true_implies, false_implies, implies_true, not_true_eq_false, not_false_eq_true, and_self, Int.toNat_natCast, Nat.reduceAdd, Nat.reduceLeDiff, Nat.reduceLT, forall_eq', Option.some.injEq, zarR, zarI, zarL, zle, zq0, zq1, zq2, zq3, zq4, zq5, zq6, zq8, zq9, zq10, zq20, zq7, zq12, zq24, zq40, zq41, zq48, zq100, zq120, zq123, zq480, zq492, zq700, zq729, zq2187, zq2916, zq8748, ne_eq, Int.reduceEq, Int.reduceLT, Int.reduceLE, Int.reduceToNat, Int.reduceMul, Int.reduceAdd, Int.reduceNeg, gk2 hg, gr2_9 hg, gr2_10 hg, e3, e4, c]
      exact KK h1 f e4
    | succ j ih =>
      intro p h1 hj f e4 KK
      have e3 : h1 2 3 = (n : Int) := by rw [f _ _ (by omega)]; exact h3
      have c : ¬ (n : Int) ≤ p := by omega
      have p7 : (p : Int) < 700 := by omega
      have e1 : h1 1 p = h 1 p := f _ _ (by omega)
      rw [e17_0]
      by_cases z : h 1 p = 32
      · simp only [e17_1, e17_4, e17_5, e17_8, e17_11, e17_12, e17_15, e17_16, e17_19, e17_20, e17_22, e17_25, e17_26, e17_27, e17_30, e17_31, e17_32, e17_35, zs0, zsI, zsL, zsR, ztl1, ztl0, zc0, zcI, zcL, zcR, true_and, and_true, true_implies, false_implies, implies_true, not_true_eq_false, not_false_eq_true, and_self, Int.toNat_natCast, Nat.reduceAdd, Nat.reduceLeDiff, Nat.reduceLT, forall_eq', Option.some.injEq, zarR, zarI, zarL, zle, zq0, zq1, zq2, zq3, zq4, zq5, zq6, zq8, zq9, zq10, zq20, zq7, zq12, zq24, zq40, zq41, zq48, zq100, zq120, zq123, zq480, zq492, zq700, zq729, zq2187, zq2916, zq8748, ne_eq, Int.reduceEq, Int.reduceLT, Int.reduceLE, Int.reduceToNat, Int.reduceMul, Int.reduceAdd, Int.reduceNeg, gk2 hg, gr2_9 hg, gr2_10 hg, gk1 hg, gl1 hg, ht, e3, e4, c, p7, e1, z, wr_s (show p < 2147483647 by omega)]
        apply ih (p + 1) _ (by omega)
        · intro c i z
          rw [zu, if_neg z]
          exact f c i z
        · exact zu_at
        · intro h2 f2 m2
          apply KK h2 f2
          rw [skp, if_pos z]
          exact m2
      · simp only [e17_1, e17_4, e17_5, e17_8, e17_11, e17_12, e17_15, e17_16, e17_19, e17_20, e17_22, e17_25, e17_26, e17_27, e17_30, e17_31, e17_32, e17_35, zs0, zsI, zsL, zsR, ztl1, ztl0, zc0, zcI, zcL, zcR, true_and, and_true, true_implies, false_implies, implies_true, not_true_eq_false, not_false_eq_true, and_self, Int.toNat_natCast, Nat.reduceAdd, Nat.reduceLeDiff, Nat.reduceLT, forall_eq', Option.some.injEq, zarR, zarI, zarL, zle, zq0, zq1, zq2, zq3, zq4, zq5, zq6, zq8, zq9, zq10, zq20, zq7, zq12, zq24, zq40, zq41, zq48, zq100, zq120, zq123, zq480, zq492, zq700, zq729, zq2187, zq2916, zq8748, ne_eq, Int.reduceEq, Int.reduceLT, Int.reduceLE, Int.reduceToNat, Int.reduceMul, Int.reduceAdd, Int.reduceNeg, gk2 hg, gr2_9 hg, gr2_10 hg, gk1 hg, gl1 hg, ht, e3, e4, c, p7, e1, z]
        apply KK h1 f
        rw [skp, if_neg z]
        exact e4
  apply blank (n - q) q h (by omega) (fun _ _ _ => rfl) h4
  intro h1 f1 e4
  have sb := st_b (tp := h 1) q hq
  have rb := rn_b (tp := h 1) q hq
  have est : skp (h 1) (n - q) q = st (h 1) n q := rfl
  rw [est] at e4
  generalize hsg : st (h 1) n q = s at sb rb e4
  have e3 : h1 2 3 = (n : Int) := by rw [f1 _ _ (by omega)]; exact h3
  have e1 : h1 1 s = h 1 s := f1 _ _ (by omega)
  by_cases hs : n ≤ s
  · have c : (n : Int) ≤ s := by omega
    have k0 : kd (h 1) n q = 0 := by unfold kd; rw [hsg, if_pos hs]
    have w0 : wr ((s : Int) - s) = 0 := by rw [Int.sub_self]; rfl
    simp only [e17_38, e17_39, e17_40, e17_43, e17_46, e17_47, e17_48, e17_51, e17_52, e17_53, e17_56, e17_57, e17_60, e17_63, e17_64, e17_65, e17_68, e17_69, e17_72, e17_73, e17_76, e17_79, e17_80, e17_83, e17_84, e17_87, e17_88, e17_91, e17_92, e17_95, e17_96, e17_99, e17_100, e17_103, e17_104, e17_107, e17_108, e17_109, e17_112, e17_113, e17_114, e17_117, e17_118, e17_121, e17_122, e17_125, e17_128, e17_129, e17_132, e17_133, e17_136, e17_137, e17_140, e17_141, e17_144, e17_145, e17_146, e17_149, e17_150, e17_153, e17_154, e17_157, e17_158, e17_161, e17_164, e17_165, e17_167, e17_168, e17_171, e17_172, e17_173, e17_176, e17_177, e17_180, e17_181, e17_182, e17_184, e17_185, e17_188, e17_189, e17_190, e17_193, e17_194, e17_195, e17_198, e17_201, e17_202, e17_203, e17_206, e17_207, e17_210, e17_211, e17_214, e17_215, e17_218, e17_219, e17_222, e17_223, e17_226, e17_228, e17_231, e17_232, e17_235, e17_236, e17_239, e17_240, e17_243, e17_244, e17_247, e17_248, e17_249, e17_252, zs0, zsI, zsL, zsR, ztl1, ztl0, zc0, zcI, zcL, zcR, true_and, and_true, true_implies, false_implies, implies_true, not_true_eq_false, not_false_eq_true, and_self, Int.toNat_natCast, Nat.reduceAdd, Nat.reduceLeDiff, Nat.reduceLT, forall_eq', Option.some.injEq, zarR, zarI, zarL, zle, zq0, zq1, zq2, zq3, zq4, zq5, zq6, zq8, zq9, zq10, zq20, zq7, zq12, zq24, zq40, zq41, zq48, zq100, zq120, zq123, zq480, zq492, zq700, zq729, zq2187, zq2916, zq8748, ne_eq, Int.reduceEq, Int.reduceLT, Int.reduceLE, Int.reduceToNat, Int.reduceMul, Int.reduceAdd, Int.reduceNeg, gk2 hg, gr2_9 hg, gr2_10 hg, gk1 hg, gl1 hg, e3, e4, c, zu2, Nat.reduceEqDiff, if_true, if_false, w0]
    apply K
    · intro c i z
      rw [zu, if_neg (by omega), zu, if_neg (by omega), zu, if_neg (by omega), zu, if_neg (by omega)]
      exact f1 c i (by omega)
    · refine ⟨hq, ?_, ?_, fun z => by omega, fun z => by omega, fun _ => ?_⟩
      · rw [k0]
        simp only [zu2, Nat.reduceEqDiff, if_true, if_false]
        rfl
      · simp only [zu2, Nat.reduceEqDiff, if_true, if_false, hsg]
      · rw [(kd_0 hq k0).2]
        simp only [zu2, Nat.reduceEqDiff, if_true, if_false, e4]
        omega
  · have c : ¬ (n : Int) ≤ s := by omega
    have s7 : (s : Int) < 700 := by omega
    obtain ⟨k, hkk⟩ : ∃ k, k = kB (h 1 s) := ⟨_, rfl⟩
    have kb := kB_b (h 1 s)
    rw [← hkk] at kb
    have ck := fun h9 Q' => c_kindOf (d := d) (Q := Q') (G := G) (h := h9) (b := h 1 s)
    rw [← hkk] at ck
    by_cases k345 : 3 ≤ k
    · have kk : kd (h 1) n q = k := by
        unfold kd
        rw [hsg, if_neg hs, ← hkk, if_neg (by omega), if_neg (by omega)]
      have nx : nxt (h 1) n q = s + 1 := by
        unfold nxt
        rw [hsg, if_neg hs, ← hkk, if_neg (by omega)]
      have w1 : wr (((s + 1 : Nat) : Int) - s) = 1 := by rw [wr_id (by omega)]; omega
      have n1 : ¬ (k : Int) = 1 := by omega
      have n2 : ¬ (k : Int) = 2 := by omega
      have fin : ∀ h2 : zM, (∀ c i, ¬ (c = 2 ∧ 4 ≤ i ∧ i ≤ 8) → h2 c i = h1 c i) → h2 2 4 = ((s + 1 : Nat) : Int) → h2 2 5 = (k : Int) → h2 2 6 = (s : Int) → zE 17 (d + 1) Q 117 [some (zR (some 2))] [] G h2 (0, 0) := by
        intro h2 f2 a4 a5 a6
        have e3' : h2 2 3 = (n : Int) := by rw [f2 _ _ (by omega)]; exact e3
        have fin2 : Q none G (zu h2 2 7 1) := by
          apply K
          · intro c i z
            rw [zu, if_neg (by omega), f2 c i z, f1 c i (by omega)]
          · refine ⟨hq, ?_, ?_, fun z => by omega, fun z => by omega, fun _ => ?_⟩
            · rw [zu_i (by decide), a5, kk]
            · rw [zu_i (by decide), a6, hsg]
            · rw [zu_i (by decide), a4, nx]
        rw [e17_117]
        by_cases c9 : (n : Int) ≤ ((s + 1 : Nat) : Int)
        · simp only [e17_118, e17_121, e17_122, e17_125, e17_128, e17_129, e17_132, e17_133, e17_136, e17_137, e17_140, e17_141, e17_144, e17_145, e17_146, e17_149, e17_150, e17_153, e17_154, e17_157, e17_158, e17_161, e17_164, e17_165, e17_167, e17_168, e17_171, e17_172, e17_173, e17_176, e17_177, e17_180, e17_181, e17_182, e17_184, e17_185, e17_188, e17_189, e17_190, e17_193, e17_194, e17_195, e17_198, e17_201, e17_202, e17_203, e17_206, e17_207, e17_210, e17_211, e17_214, e17_215, e17_218, e17_219, e17_222, e17_223, e17_226, e17_228, e17_231, e17_232, e17_235, e17_236, e17_239, e17_240, e17_243, e17_244, e17_247, e17_248, e17_249, e17_252, zs0, zsI, zsL, zsR, ztl1, ztl0, zc0, zcI, zcL, zcR, true_and, and_true, true_implies, false_implies, implies_true, not_true_eq_false, not_false_eq_true, and_self, Int.toNat_natCast, Nat.reduceAdd, Nat.reduceLeDiff, Nat.reduceLT, forall_eq', Option.some.injEq, zarR, zarI, zarL, zle, zq0, zq1, zq2, zq3, zq4, zq5, zq6, zq8, zq9, zq10, zq20, zq7, zq12, zq24, zq40, zq41, zq48, zq100, zq120, zq123, zq480, zq492, zq700, zq729, zq2187, zq2916, zq8748, ne_eq, Int.reduceEq, Int.reduceLT, Int.reduceLE, Int.reduceToNat, Int.reduceMul, Int.reduceAdd, Int.reduceNeg, gk2 hg, gr2_9 hg, gr2_10 hg, e3', a4, a5, a6, c9, w1, zu2, Nat.reduceEqDiff, if_true, if_false, n1, n2]
          exact fin2
        · simp only [e17_118, e17_121, e17_122, e17_125, e17_128, e17_129, e17_132, e17_133, e17_136, e17_137, e17_140, e17_141, e17_144, e17_145, e17_146, e17_149, e17_150, e17_153, e17_154, e17_157, e17_158, e17_161, e17_164, e17_165, e17_167, e17_168, e17_171, e17_172, e17_173, e17_176, e17_177, e17_180, e17_181, e17_182, e17_184, e17_185, e17_188, e17_189, e17_190, e17_193, e17_194, e17_195, e17_198, e17_201, e17_202, e17_203, e17_206, e17_207, e17_210, e17_211, e17_214, e17_215, e17_218, e17_219, e17_222, e17_223, e17_226, e17_228, e17_231, e17_232, e17_235, e17_236, e17_239, e17_240, e17_243, e17_244, e17_247, e17_248, e17_249, e17_252, zs0, zsI, zsL, zsR, ztl1, ztl0, zc0, zcI, zcL, zcR, true_and, and_true, true_implies, false_implies, implies_true, not_true_eq_false, not_false_eq_true, and_self, Int.toNat_natCast, Nat.reduceAdd, Nat.reduceLeDiff, Nat.reduceLT, forall_eq', Option.some.injEq, zarR, zarI, zarL, zle, zq0, zq1, zq2, zq3, zq4, zq5, zq6, zq8, zq9, zq10, zq20, zq7, zq12, zq24, zq40, zq41, zq48, zq100, zq120, zq123, zq480, zq492, zq700, zq729, zq2187, zq2916, zq8748, ne_eq, Int.reduceEq, Int.reduceLT, Int.reduceLE, Int.reduceToNat, Int.reduceMul, Int.reduceAdd, Int.reduceNeg, gk2 hg, gr2_9 hg, gr2_10 hg, e3', a4, a5, a6, c9, w1, zu2, Nat.reduceEqDiff, if_true, if_false, n1, n2]
          exact fin2
      have fin1 := fin (zu (zu (zu (zu h1 2 6 (s : Int)) 2 8 0) 2 5 (k : Int)) 2 4 ((s + 1 : Nat) : Int)) (fun c i z => by rw [zu, if_neg (by omega), zu, if_neg (by omega), zu, if_neg (by omega), zu, if_neg (by omega)]) zu_at (by rw [zu_i (by decide), zu_at]) (by rw [zu_i (by decide), zu_i (by decide), zu_i (by decide), zu_at])
      have hk' : k = 3 ∨ k = 4 ∨ k = 5 := by omega
      clear w1
      rcases hk' with k3 | k4 | k5
      · rw [k3] at ck fin1
        simp only [e17_38, e17_39, e17_40, e17_43, e17_46, e17_47, e17_48, e17_51, e17_52, e17_53, e17_56, e17_57, e17_60, e17_63, e17_64, e17_65, e17_68, e17_69, e17_72, e17_73, e17_76, e17_79, e17_80, e17_83, e17_84, e17_87, e17_88, e17_91, e17_92, e17_95, e17_96, e17_99, e17_100, e17_103, e17_104, e17_107, e17_108, e17_109, e17_112, e17_113, e17_114, zs0, zsI, zsL, zsR, ztl1, ztl0, zc0, zcI, zcL, zcR, true_and, and_true, true_implies, false_implies, implies_true, not_true_eq_false, not_false_eq_true, and_self, Int.toNat_natCast, Nat.reduceAdd, Nat.reduceLeDiff, Nat.reduceLT, forall_eq', Option.some.injEq, zarR, zarI, zarL, zle, zq0, zq1, zq2, zq3, zq4, zq5, zq6, zq8, zq9, zq10, zq20, zq7, zq12, zq24, zq40, zq41, zq48, zq100, zq120, zq123, zq480, zq492, zq700, zq729, zq2187, zq2916, zq8748, ne_eq, Int.reduceEq, Int.reduceLT, Int.reduceLE, Int.reduceToNat, Int.reduceMul, Int.reduceAdd, Int.reduceNeg, gk2 hg, gr2_9 hg, gr2_10 hg, gk1 hg, gl1 hg, ht, e3, e4, e1, c, s7, ck, zu2, zu_c (show ¬ 1 = 2 by decide), Nat.reduceEqDiff, if_true, if_false, wr_s (show s < 2147483647 by omega), or_true, true_or] at fin1 ⊢
        exact fin1
      · rw [k4] at ck fin1
        simp only [e17_38, e17_39, e17_40, e17_43, e17_46, e17_47, e17_48, e17_51, e17_52, e17_53, e17_56, e17_57, e17_60, e17_63, e17_64, e17_65, e17_68, e17_69, e17_72, e17_73, e17_76, e17_79, e17_80, e17_83, e17_84, e17_87, e17_88, e17_91, e17_92, e17_95, e17_96, e17_99, e17_100, e17_103, e17_104, e17_107, e17_108, e17_109, e17_112, e17_113, e17_114, zs0, zsI, zsL, zsR, ztl1, ztl0, zc0, zcI, zcL, zcR, true_and, and_true, true_implies, false_implies, implies_true, not_true_eq_false, not_false_eq_true, and_self, Int.toNat_natCast, Nat.reduceAdd, Nat.reduceLeDiff, Nat.reduceLT, forall_eq', Option.some.injEq, zarR, zarI, zarL, zle, zq0, zq1, zq2, zq3, zq4, zq5, zq6, zq8, zq9, zq10, zq20, zq7, zq12, zq24, zq40, zq41, zq48, zq100, zq120, zq123, zq480, zq492, zq700, zq729, zq2187, zq2916, zq8748, ne_eq, Int.reduceEq, Int.reduceLT, Int.reduceLE, Int.reduceToNat, Int.reduceMul, Int.reduceAdd, Int.reduceNeg, gk2 hg, gr2_9 hg, gr2_10 hg, gk1 hg, gl1 hg, ht, e3, e4, e1, c, s7, ck, zu2, zu_c (show ¬ 1 = 2 by decide), Nat.reduceEqDiff, if_true, if_false, wr_s (show s < 2147483647 by omega), or_true, true_or] at fin1 ⊢
        exact fin1
      · rw [k5] at ck fin1
        simp only [e17_38, e17_39, e17_40, e17_43, e17_46, e17_47, e17_48, e17_51, e17_52, e17_53, e17_56, e17_57, e17_60, e17_63, e17_64, e17_65, e17_68, e17_69, e17_72, e17_73, e17_76, e17_79, e17_80, e17_83, e17_84, e17_87, e17_88, e17_91, e17_92, e17_95, e17_96, e17_99, e17_100, e17_103, e17_104, e17_107, e17_108, e17_109, e17_112, e17_113, e17_114, zs0, zsI, zsL, zsR, ztl1, ztl0, zc0, zcI, zcL, zcR, true_and, and_true, true_implies, false_implies, implies_true, not_true_eq_false, not_false_eq_true, and_self, Int.toNat_natCast, Nat.reduceAdd, Nat.reduceLeDiff, Nat.reduceLT, forall_eq', Option.some.injEq, zarR, zarI, zarL, zle, zq0, zq1, zq2, zq3, zq4, zq5, zq6, zq8, zq9, zq10, zq20, zq7, zq12, zq24, zq40, zq41, zq48, zq100, zq120, zq123, zq480, zq492, zq700, zq729, zq2187, zq2916, zq8748, ne_eq, Int.reduceEq, Int.reduceLT, Int.reduceLE, Int.reduceToNat, Int.reduceMul, Int.reduceAdd, Int.reduceNeg, gk2 hg, gr2_9 hg, gr2_10 hg, gk1 hg, gl1 hg, ht, e3, e4, e1, c, s7, ck, zu2, zu_c (show ¬ 1 = 2 by decide), Nat.reduceEqDiff, if_true, if_false, wr_s (show s < 2147483647 by omega), or_true, true_or] at fin1 ⊢
        exact fin1
    · have hk12 : k = 1 ∨ k = 2 := by omega
      have ern : rn (h 1) n q = rnE (h 1) k (n - s) s := by unfold rn; rw [hsg, ← hkk]
      -- the run
      have run : ∀ j l (h2 : zM), s + l + j = n → (∀ c i, ¬ (c = 2 ∧ 4 ≤ i ∧ i ≤ 8) → h2 c i = h1 c i) → h2 2 4 = ((s + l : Nat) : Int) → h2 2 5 = (k : Int) → h2 2 6 = (s : Int) → h2 2 8 = vC (h 1) s l → (∀ (l' : Nat) (h5 : zM), s + l' = rnE (h 1) k j (s + l) → (∀ c i, ¬ (c = 2 ∧ 4 ≤ i ∧ i ≤ 8) → h5 c i = h1 c i) → h5 2 4 = ((s + l' : Nat) : Int) → h5 2 5 = (k : Int) → h5 2 6 = (s : Int) → h5 2 8 = vC (h 1) s l' → zE 17 (d + 1) Q 201 [some (zR (some 2))] [] G h5 (0, 0)) → zE 17 (d + 1) Q 117 [some (zR (some 2))] [] G h2 (0, 0) := by
        intro j
        induction j with
        | zero =>
          intro l h2 hj f2 a4 a5 a6 a8 KK
          have e3' : h2 2 3 = (n : Int) := by rw [f2 _ _ (by omega)]; exact e3
          have c9 : (n : Int) ≤ ((s + l : Nat) : Int) := by omega
          rw [e17_117]
          simp only [e17_118, e17_121, e17_122, e17_125, e17_128, e17_129, e17_132, e17_133, e17_136, e17_137, e17_140, e17_141, e17_144, e17_145, e17_146, e17_149, e17_150, e17_153, e17_154, e17_157, e17_158, e17_161, e17_164, e17_165, e17_167, e17_168, e17_171, e17_172, e17_173, e17_176, e17_177, e17_180, e17_181, e17_182, e17_184, e17_185, e17_188, e17_189, e17_190, e17_193, e17_194, e17_195, e17_198, zs0, zsI, zsL, zsR, ztl1, ztl0, zc0, zcI, zcL, zcR, true_and, and_true, true_implies, false_implies, implies_true, not_true_eq_false, not_false_eq_true, and_self, Int.toNat_natCast, Nat.reduceAdd, Nat.reduceLeDiff, Nat.reduceLT, forall_eq', Option.some.injEq, zarR, zarI, zarL, zle, zq0, zq1, zq2, zq3, zq4, zq5, zq6, zq8, zq9, zq10, zq20, zq7, zq12, zq24, zq40, zq41, zq48, zq100, zq120, zq123, zq480, zq492, zq700, zq729, zq2187, zq2916, zq8748, ne_eq, Int.reduceEq, Int.reduceLT, Int.reduceLE, Int.reduceToNat, Int.reduceMul, Int.reduceAdd, Int.reduceNeg, gk2 hg, gr2_9 hg, gr2_10 hg, e3', a4, c9]
          exact KK l h2 rfl f2 a4 a5 a6 a8
        | succ j ih =>
          intro l h2 hj f2 a4 a5 a6 a8 KK
          have e3' : h2 2 3 = (n : Int) := by rw [f2 _ _ (by omega)]; exact e3
          have c9 : ¬ (n : Int) ≤ ((s + l : Nat) : Int) := by omega
          have l7 : ((s + l : Nat) : Int) < 700 := by omega
          have e1' : h2 1 (s + l) = h 1 (s + l) := by rw [f2 _ _ (by omega), f1 _ _ (by omega)]
          have ck2 := fun Q' => c_kindOf (d := d) (Q := Q') (G := G) (h := h2) (b := h 1 (s + l))
          have k12 : (k : Int) = 1 ∨ ¬ (k : Int) = 1 ∧ (k : Int) = 2 := by omega
          rw [e17_117]
          by_cases z : kB (h 1 (s + l)) = k
          · rw [z] at ck2
            have nx2 := ih (l + 1) (zu (zu h2 2 8 (vC (h 1) s (l + 1))) 2 4 ((s + (l + 1) : Nat) : Int)) (by omega) (fun c i z => by rw [zu, if_neg (by omega), zu, if_neg (by omega)]; exact f2 c i z) zu_at (by rw [zu_i (by decide), zu_i (by decide)]; exact a5) (by rw [zu_i (by decide), zu_i (by decide)]; exact a6) (by rw [zu_i (by decide), zu_at]) (fun l' h5 z1 => KK l' h5 (by rw [rnE, if_pos z]; exact z1))
            have w9 : wr (((s + l : Nat) : Int) + 1) = ((s + (l + 1) : Nat) : Int) := wr_s (by omega)
            rw [vC] at nx2
            rcases k12 with k1 | ⟨k1, k2⟩
            · simp only [e17_118, e17_121, e17_122, e17_125, e17_128, e17_129, e17_132, e17_133, e17_136, e17_137, e17_140, e17_141, e17_144, e17_145, e17_146, e17_149, e17_150, e17_153, e17_154, e17_157, e17_158, e17_161, e17_164, e17_165, e17_167, e17_168, e17_171, e17_172, e17_173, e17_176, e17_177, e17_180, e17_181, e17_182, e17_184, e17_185, e17_188, e17_189, e17_190, e17_193, e17_194, e17_195, e17_198, zs0, zsI, zsL, zsR, ztl1, ztl0, zc0, zcI, zcL, zcR, true_and, and_true, true_implies, false_implies, implies_true, not_true_eq_false, not_false_eq_true, and_self, Int.toNat_natCast, Nat.reduceAdd, Nat.reduceLeDiff, Nat.reduceLT, forall_eq', Option.some.injEq, zarR, zarI, zarL, zle, zq0, zq1, zq2, zq3, zq4, zq5, zq6, zq8, zq9, zq10, zq20, zq7, zq12, zq24, zq40, zq41, zq48, zq100, zq120, zq123, zq480, zq492, zq700, zq729, zq2187, zq2916, zq8748, ne_eq, Int.reduceEq, Int.reduceLT, Int.reduceLE, Int.reduceToNat, Int.reduceMul, Int.reduceAdd, Int.reduceNeg, gk2 hg, gr2_9 hg, gr2_10 hg, gk1 hg, gl1 hg, ht, e3', a4, a5, a8, c9, l7, e1', ck2, k1, zu2, Nat.reduceEqDiff, if_true, if_false, w9]
              exact nx2
            · simp only [e17_118, e17_121, e17_122, e17_125, e17_128, e17_129, e17_132, e17_133, e17_136, e17_137, e17_140, e17_141, e17_144, e17_145, e17_146, e17_149, e17_150, e17_153, e17_154, e17_157, e17_158, e17_161, e17_164, e17_165, e17_167, e17_168, e17_171, e17_172, e17_173, e17_176, e17_177, e17_180, e17_181, e17_182, e17_184, e17_185, e17_188, e17_189, e17_190, e17_193, e17_194, e17_195, e17_198, zs0, zsI, zsL, zsR, ztl1, ztl0, zc0, zcI, zcL, zcR, true_and, and_true, true_implies, false_implies, implies_true, not_true_eq_false, not_false_eq_true, and_self, Int.toNat_natCast, Nat.reduceAdd, Nat.reduceLeDiff, Nat.reduceLT, forall_eq', Option.some.injEq, zarR, zarI, zarL, zle, zq0, zq1, zq2, zq3, zq4, zq5, zq6, zq8, zq9, zq10, zq20, zq7, zq12, zq24, zq40, zq41, zq48, zq100, zq120, zq123, zq480, zq492, zq700, zq729, zq2187, zq2916, zq8748, ne_eq, Int.reduceEq, Int.reduceLT, Int.reduceLE, Int.reduceToNat, Int.reduceMul, Int.reduceAdd, Int.reduceNeg, gk2 hg, gr2_9 hg, gr2_10 hg, gk1 hg, gl1 hg, ht, e3', a4, a5, a8, c9, l7, e1', ck2, k2, zu2, Nat.reduceEqDiff, if_true, if_false, w9]
              exact nx2
          · have z' : ¬ ((kB (h 1 (s + l)) : Nat) : Int) = (k : Int) := by omega
            have fin := KK l h2 (by rw [rnE, if_neg z]) f2 a4 a5 a6 a8
            rcases k12 with k1 | ⟨k1, k2⟩
            · rw [k1] at z' a5
              simp only [e17_118, e17_121, e17_122, e17_125, e17_128, e17_129, e17_132, e17_133, e17_136, e17_137, e17_140, e17_141, e17_144, e17_145, e17_146, e17_149, e17_150, e17_153, e17_154, e17_157, e17_158, e17_161, e17_164, e17_165, e17_167, e17_168, e17_171, e17_172, e17_173, e17_176, e17_177, e17_180, e17_181, e17_182, e17_184, e17_185, e17_188, e17_189, e17_190, e17_193, e17_194, e17_195, e17_198, zs0, zsI, zsL, zsR, ztl1, ztl0, zc0, zcI, zcL, zcR, true_and, and_true, true_implies, false_implies, implies_true, not_true_eq_false, not_false_eq_true, and_self, Int.toNat_natCast, Nat.reduceAdd, Nat.reduceLeDiff, Nat.reduceLT, forall_eq', Option.some.injEq, zarR, zarI, zarL, zle, zq0, zq1, zq2, zq3, zq4, zq5, zq6, zq8, zq9, zq10, zq20, zq7, zq12, zq24, zq40, zq41, zq48, zq100, zq120, zq123, zq480, zq492, zq700, zq729, zq2187, zq2916, zq8748, ne_eq, Int.reduceEq, Int.reduceLT, Int.reduceLE, Int.reduceToNat, Int.reduceMul, Int.reduceAdd, Int.reduceNeg, gk2 hg, gr2_9 hg, gr2_10 hg, gk1 hg, gl1 hg, ht, e3', a4, a5, c9, l7, e1', ck2, z']
              exact fin
            · rw [k2] at z' a5
              simp only [e17_118, e17_121, e17_122, e17_125, e17_128, e17_129, e17_132, e17_133, e17_136, e17_137, e17_140, e17_141, e17_144, e17_145, e17_146, e17_149, e17_150, e17_153, e17_154, e17_157, e17_158, e17_161, e17_164, e17_165, e17_167, e17_168, e17_171, e17_172, e17_173, e17_176, e17_177, e17_180, e17_181, e17_182, e17_184, e17_185, e17_188, e17_189, e17_190, e17_193, e17_194, e17_195, e17_198, zs0, zsI, zsL, zsR, ztl1, ztl0, zc0, zcI, zcL, zcR, true_and, and_true, true_implies, false_implies, implies_true, not_true_eq_false, not_false_eq_true, and_self, Int.toNat_natCast, Nat.reduceAdd, Nat.reduceLeDiff, Nat.reduceLT, forall_eq', Option.some.injEq, zarR, zarI, zarL, zle, zq0, zq1, zq2, zq3, zq4, zq5, zq6, zq8, zq9, zq10, zq20, zq7, zq12, zq24, zq40, zq41, zq48, zq100, zq120, zq123, zq480, zq492, zq700, zq729, zq2187, zq2916, zq8748, ne_eq, Int.reduceEq, Int.reduceLT, Int.reduceLE, Int.reduceToNat, Int.reduceMul, Int.reduceAdd, Int.reduceNeg, gk2 hg, gr2_9 hg, gr2_10 hg, gk1 hg, gl1 hg, ht, e3', a4, a5, c9, l7, e1', ck2, z']
              exact fin
      have r0 := run (n - s) 0 (zu (zu (zu h1 2 6 (s : Int)) 2 8 0) 2 5 (k : Int)) (by omega) (fun c i z => by rw [zu, if_neg (by omega), zu, if_neg (by omega), zu, if_neg (by omega)]) (by rw [zu_i (by decide), zu_i (by decide), zu_i (by decide), e4]; rfl) zu_at (by rw [zu_i (by decide), zu_i (by decide), zu_at]) (by rw [zu_i (by decide), zu_at]; rfl)
      have main : zE 17 (d + 1) Q 117 [some (zR (some 2))] [] G (zu (zu (zu h1 2 6 (s : Int)) 2 8 0) 2 5 (k : Int)) (0, 0) := by
        apply r0
        intro l h5 hl f5 a4 a5 a6 a8
        rw [Nat.add_zero, ← ern] at hl
        have w1 : wr (((s + l : Nat) : Int) - s) = (l : Int) := wrN (by omega) (by omega)
        have hrl : rn (h 1) n q - st (h 1) n q = l := by rw [hsg]; omega
        have frm : ∀ c i, ¬ (c = 2 ∧ 4 ≤ i ∧ i ≤ 8) → h5 c i = h c i := fun c i z => by rw [f5 c i z, f1 c i (by omega)]
        rcases hk12 with k1 | k2
        · rw [k1] at a5
          have nx1 : nxt (h 1) n q = s + l := by unfold nxt; rw [hsg, if_neg hs, ← hkk, if_pos (Or.inl k1)]; omega
          by_cases l8 : 8 < l
          · have l8' : (8 : Int) < (l : Int) := by omega
            have kk : kd (h 1) n q = 5 := by
              unfold kd
              rw [hrl, hsg, if_neg hs, ← hkk, if_pos k1, if_pos l8]
            simp only [e17_201, e17_202, e17_203, e17_206, e17_207, e17_210, e17_211, e17_214, e17_215, e17_218, e17_219, e17_222, e17_223, e17_226, e17_228, e17_231, e17_232, e17_235, e17_236, e17_239, e17_240, e17_243, e17_244, e17_247, e17_248, e17_249, e17_252, zs0, zsI, zsL, zsR, ztl1, ztl0, zc0, zcI, zcL, zcR, true_and, and_true, true_implies, false_implies, implies_true, not_true_eq_false, not_false_eq_true, and_self, Int.toNat_natCast, Nat.reduceAdd, Nat.reduceLeDiff, Nat.reduceLT, forall_eq', Option.some.injEq, zarR, zarI, zarL, zle, zq0, zq1, zq2, zq3, zq4, zq5, zq6, zq8, zq9, zq10, zq20, zq7, zq12, zq24, zq40, zq41, zq48, zq100, zq120, zq123, zq480, zq492, zq700, zq729, zq2187, zq2916, zq8748, ne_eq, Int.reduceEq, Int.reduceLT, Int.reduceLE, Int.reduceToNat, Int.reduceMul, Int.reduceAdd, Int.reduceNeg, gk2 hg, gr2_9 hg, gr2_10 hg, a4, a5, a6, w1, zu2, Nat.reduceEqDiff, if_true, if_false, l8']
            clear w1
            apply K
            · intro c i z
              rw [zu, if_neg (by omega), zu, if_neg (by omega)]
              exact frm c i z
            · refine ⟨hq, by rw [kk, zu_at]; rfl, by rw [zu_i (by decide), zu_i (by decide), a6, hsg], fun z => by omega, fun z => by omega, fun z => absurd kk z⟩
          · have l8' : ¬ (8 : Int) < (l : Int) := by omega
            have kk : kd (h 1) n q = 1 := by
              unfold kd
              rw [hrl, hsg, if_neg hs, ← hkk, if_pos k1, if_neg l8]
            simp only [e17_201, e17_202, e17_203, e17_206, e17_207, e17_210, e17_211, e17_214, e17_215, e17_218, e17_219, e17_222, e17_223, e17_226, e17_228, e17_231, e17_232, e17_235, e17_236, e17_239, e17_240, e17_243, e17_244, e17_247, e17_248, e17_249, e17_252, zs0, zsI, zsL, zsR, ztl1, ztl0, zc0, zcI, zcL, zcR, true_and, and_true, true_implies, false_implies, implies_true, not_true_eq_false, not_false_eq_true, and_self, Int.toNat_natCast, Nat.reduceAdd, Nat.reduceLeDiff, Nat.reduceLT, forall_eq', Option.some.injEq, zarR, zarI, zarL, zle, zq0, zq1, zq2, zq3, zq4, zq5, zq6, zq8, zq9, zq10, zq20, zq7, zq12, zq24, zq40, zq41, zq48, zq100, zq120, zq123, zq480, zq492, zq700, zq729, zq2187, zq2916, zq8748, ne_eq, Int.reduceEq, Int.reduceLT, Int.reduceLE, Int.reduceToNat, Int.reduceMul, Int.reduceAdd, Int.reduceNeg, gk2 hg, gr2_9 hg, gr2_10 hg, a4, a5, a6, w1, zu2, Nat.reduceEqDiff, if_true, if_false, l8']
            clear w1
            apply K
            · intro c i z
              rw [zu, if_neg (by omega)]
              exact frm c i z
            · refine ⟨hq, by rw [kk, zu_i (by decide), a5], by rw [zu_i (by decide), a6, hsg], fun _ => by rw [zu_at, hrl], fun z => by omega, fun _ => by rw [zu_i (by decide), a4, nx1]⟩
        · rw [k2] at a5
          have nx1 : nxt (h 1) n q = s + l := by unfold nxt; rw [hsg, if_neg hs, ← hkk, if_pos (Or.inr k2)]; omega
          by_cases l8 : 3 < l
          · have l8' : ¬ (l : Int) ≤ 3 := by omega
            have kk : kd (h 1) n q = 5 := by
              unfold kd
              rw [hrl, hsg, if_neg hs, ← hkk, if_neg (by omega), if_pos k2, if_pos l8]
            simp only [e17_201, e17_202, e17_203, e17_206, e17_207, e17_210, e17_211, e17_214, e17_215, e17_218, e17_219, e17_222, e17_223, e17_226, e17_228, e17_231, e17_232, e17_235, e17_236, e17_239, e17_240, e17_243, e17_244, e17_247, e17_248, e17_249, e17_252, zs0, zsI, zsL, zsR, ztl1, ztl0, zc0, zcI, zcL, zcR, true_and, and_true, true_implies, false_implies, implies_true, not_true_eq_false, not_false_eq_true, and_self, Int.toNat_natCast, Nat.reduceAdd, Nat.reduceLeDiff, Nat.reduceLT, forall_eq', Option.some.injEq, zarR, zarI, zarL, zle, zq0, zq1, zq2, zq3, zq4, zq5, zq6, zq8, zq9, zq10, zq20, zq7, zq12, zq24, zq40, zq41, zq48, zq100, zq120, zq123, zq480, zq492, zq700, zq729, zq2187, zq2916, zq8748, ne_eq, Int.reduceEq, Int.reduceLT, Int.reduceLE, Int.reduceToNat, Int.reduceMul, Int.reduceAdd, Int.reduceNeg, gk2 hg, gr2_9 hg, gr2_10 hg, a4, a5, a6, w1, zu2, Nat.reduceEqDiff, if_true, if_false, l8']
            clear w1
            apply K
            · intro c i z
              rw [zu, if_neg (by omega), zu, if_neg (by omega)]
              exact frm c i z
            · refine ⟨hq, by rw [kk, zu_at]; rfl, by rw [zu_i (by decide), zu_i (by decide), a6, hsg], fun z => by omega, fun z => by omega, fun z => absurd kk z⟩
          · have l8' : (l : Int) ≤ 3 := by omega
            have kk : kd (h 1) n q = 2 := by
              unfold kd
              rw [hrl, hsg, if_neg hs, ← hkk, if_neg (by omega), if_pos k2, if_neg l8]
            have dg := (kd_2 kk).2.2.2.2.2
            have vn := vC_nmb (tp := h 1) (p := s) (l := l) (by omega) (fun i hi => dg _ (by omega) (by omega))
            simp only [e17_201, e17_202, e17_203, e17_206, e17_207, e17_210, e17_211, e17_214, e17_215, e17_218, e17_219, e17_222, e17_223, e17_226, e17_228, e17_231, e17_232, e17_235, e17_236, e17_239, e17_240, e17_243, e17_244, e17_247, e17_248, e17_249, e17_252, zs0, zsI, zsL, zsR, ztl1, ztl0, zc0, zcI, zcL, zcR, true_and, and_true, true_implies, false_implies, implies_true, not_true_eq_false, not_false_eq_true, and_self, Int.toNat_natCast, Nat.reduceAdd, Nat.reduceLeDiff, Nat.reduceLT, forall_eq', Option.some.injEq, zarR, zarI, zarL, zle, zq0, zq1, zq2, zq3, zq4, zq5, zq6, zq8, zq9, zq10, zq20, zq7, zq12, zq24, zq40, zq41, zq48, zq100, zq120, zq123, zq480, zq492, zq700, zq729, zq2187, zq2916, zq8748, ne_eq, Int.reduceEq, Int.reduceLT, Int.reduceLE, Int.reduceToNat, Int.reduceMul, Int.reduceAdd, Int.reduceNeg, gk2 hg, gr2_9 hg, gr2_10 hg, a4, a5, a6, w1, zu2, Nat.reduceEqDiff, if_true, if_false, l8']
            clear w1
            apply K
            · intro c i z
              rw [zu, if_neg (by omega)]
              exact frm c i z
            · refine ⟨hq, by rw [kk, zu_i (by decide), a5], by rw [zu_i (by decide), a6, hsg], fun z => by omega, fun _ => ?_, fun _ => by rw [zu_i (by decide), a4, nx1]⟩
              rw [zu_i (by decide), a8, vn.1]
              unfold nb
              rw [hrl, hsg]
      rcases hk12 with k1 | k2
      · rw [k1] at ck main
        simp only [e17_38, e17_39, e17_40, e17_43, e17_46, e17_47, e17_48, e17_51, e17_52, e17_53, e17_56, e17_57, e17_60, e17_63, e17_64, e17_65, e17_68, e17_69, e17_72, e17_73, e17_76, e17_79, e17_80, e17_83, e17_84, e17_87, e17_88, e17_91, e17_92, e17_95, e17_96, e17_99, e17_100, e17_103, e17_104, e17_107, e17_108, e17_109, e17_112, e17_113, e17_114, zs0, zsI, zsL, zsR, ztl1, ztl0, zc0, zcI, zcL, zcR, true_and, and_true, true_implies, false_implies, implies_true, not_true_eq_false, not_false_eq_true, and_self, Int.toNat_natCast, Nat.reduceAdd, Nat.reduceLeDiff, Nat.reduceLT, forall_eq', Option.some.injEq, zarR, zarI, zarL, zle, zq0, zq1, zq2, zq3, zq4, zq5, zq6, zq8, zq9, zq10, zq20, zq7, zq12, zq24, zq40, zq41, zq48, zq100, zq120, zq123, zq480, zq492, zq700, zq729, zq2187, zq2916, zq8748, ne_eq, Int.reduceEq, Int.reduceLT, Int.reduceLE, Int.reduceToNat, Int.reduceMul, Int.reduceAdd, Int.reduceNeg, gk2 hg, gr2_9 hg, gr2_10 hg, gk1 hg, gl1 hg, ht, e3, e4, e1, c, s7, ck, zu2, zu_c (show ¬ 1 = 2 by decide), Nat.reduceEqDiff, if_true, if_false] at main ⊢
        exact main
      · rw [k2] at ck main
        simp only [e17_38, e17_39, e17_40, e17_43, e17_46, e17_47, e17_48, e17_51, e17_52, e17_53, e17_56, e17_57, e17_60, e17_63, e17_64, e17_65, e17_68, e17_69, e17_72, e17_73, e17_76, e17_79, e17_80, e17_83, e17_84, e17_87, e17_88, e17_91, e17_92, e17_95, e17_96, e17_99, e17_100, e17_103, e17_104, e17_107, e17_108, e17_109, e17_112, e17_113, e17_114, zs0, zsI, zsL, zsR, ztl1, ztl0, zc0, zcI, zcL, zcR, true_and, and_true, true_implies, false_implies, implies_true, not_true_eq_false, not_false_eq_true, and_self, Int.toNat_natCast, Nat.reduceAdd, Nat.reduceLeDiff, Nat.reduceLT, forall_eq', Option.some.injEq, zarR, zarI, zarL, zle, zq0, zq1, zq2, zq3, zq4, zq5, zq6, zq8, zq9, zq10, zq20, zq7, zq12, zq24, zq40, zq41, zq48, zq100, zq120, zq123, zq480, zq492, zq700, zq729, zq2187, zq2916, zq8748, ne_eq, Int.reduceEq, Int.reduceLT, Int.reduceLE, Int.reduceToNat, Int.reduceMul, Int.reduceAdd, Int.reduceNeg, gk2 hg, gr2_9 hg, gr2_10 hg, gk1 hg, gl1 hg, ht, e3, e4, e1, c, s7, ck, zu2, zu_c (show ¬ 1 = 2 by decide), Nat.reduceEqDiff, if_true, if_false] at main ⊢
        exact main
end CT
