def aSum (n : Nat → Nat → Int) (s : Nat) : Nat → Int
  | 0 => 0
  | k + 1 => aSum n s k + n s k
section GB
variable {T : aTn} {own oth : Nat → Int} {n : Nat → Nat → Int} {to : Nat → Nat → Nat}
theorem aLeft5 (s : Nat) : aLeft n to s 5 = aLeft n to s 3 := by
  have h1 : aLeft n to s 5 = aLeft n to s 3 + (if 3 < 3 ∧ ¬ 3 = to s 3 then n s 3 else 0) + (if 4 < 3 ∧ ¬ 4 = to s 4 then n s 4 else 0) := rfl
  rw [h1, if_neg (by omega), if_neg (by omega), Int.add_zero, Int.add_zero]
theorem aPaid5 (s : Nat) : aPaid own oth n to s 5 = aPaid own oth n to s 3 + (if to s 3 = 3 then 0 else n s 3 * yPr own oth 3 (to s 3)) + (if to s 4 = 3 then 0 else n s 4 * yPr own oth 4 (to s 4)) := rfl
theorem aEar5 (b s : Nat) : aEar T own oth n to b s 5 = aEar T own oth n to b s 3 + (if to s 3 = b then n s 3 * (yPr own oth 3 b - tr T 0 b) else 0) + (if to s 4 = b then n s 4 * (yPr own oth 4 b - tr T 0 b) else 0) := rfl
theorem aCame5 (b s : Nat) : aCame n to b s 5 = aCame n to b s 3 + (if to s 3 = b then n s 3 else 0) + (if to s 4 = b then n s 4 else 0) := rfl
theorem aSum5 (s : Nat) : aSum n s 5 = n s 0 + n s 1 + n s 2 + n s 3 + n s 4 := by
  simp only [aSum, Int.zero_add]
theorem aSum3 (s : Nat) : aSum n s 3 = n s 0 + n s 1 + n s 2 := by
  simp only [aSum, Int.zero_add]
theorem aSum_b (hn : nOk n) (s k : Nat) : 0 ≤ aSum n s k := by
  induction k with
  | zero => exact Int.le_refl 0
  | succ k ih =>
    have := hn.1 s k
    unfold aSum
    omega
theorem aSum_m (hn : nOk n) (s k : Nat) (hk : k < 5) : aSum n s k + n s k ≤ 2000000 := by
  have h0 := hn.1 s 0
  have h1 := hn.1 s 1
  have h2 := hn.1 s 2
  have h3 := hn.1 s 3
  have h4 := hn.1 s 4
  have h5 := hn.2 s
  have hk' : k = 0 ∨ k = 1 ∨ k = 2 ∨ k = 3 ∨ k = 4 := by omega
  rcases hk' with rfl | rfl | rfl | rfl | rfl <;> simp only [aSum] <;> omega
theorem aEar_t (hw : wT T) (hn : nOk n) (ho : bP own) (hh : bP oth) (b s k : Nat) : -(199 * aSum n s k) ≤ aEar T own oth n to b s k ∧ aEar T own oth n to b s k ≤ 199 * aSum n s k := by
  induction k with
  | zero => unfold aEar aSum; omega
  | succ k ih =>
    have h2 := hn.1 s k
    have h3 := yPr_b ho hh k b
    have h5 := (hw.2.2.2.2.2 b).1
    have h4 := mulb (p := yPr own oth k b - tr T 0 b) (lo := -199) (hi := 199) h2 (Int.le_refl _) (by omega) (by omega) (by decide) (by decide)
    unfold aEar aSum
    split <;> omega
theorem aEarS_t (hw : wT T) (hn : nOk n) (ho : bP own) (hh : bP oth) (b s : Nat) : -(398000000 * (s : Int)) ≤ aEarS T own oth n to b s ∧ aEarS T own oth n to b s ≤ 398000000 * s := by
  induction s with
  | zero => unfold aEarS; omega
  | succ s ih =>
    have h1 := aEar_t (to := to) hw hn ho hh b s 5
    have h2 := aSum5 (n := n) s
    have h3 := hn.2 s
    unfold aEarS
    omega
theorem aPaid_t (hn : nOk n) (ho : bP own) (hh : bP oth) (s k : Nat) : 0 ≤ aPaid own oth n to s k ∧ aPaid own oth n to s k ≤ 199 * aSum n s k := by
  induction k with
  | zero => unfold aPaid aSum; omega
  | succ k ih =>
    have h2 := hn.1 s k
    have h3 := yPr_b ho hh k (to s k)
    have h4 := mulb h2 (Int.le_refl _) h3.1 h3.2 (by decide) (by decide)
    unfold aPaid aSum
    split <;> omega
end GB
section GO
variable {d : Nat} {Q : zQ} {G : zG} {h : zM} {T : aTn} {own oth : Nat → Int} {s f t u : Nat} {far x n : Int}
theorem m_chooses (hg : gS G) (hu : gU G u) (hV : rV h u T) (hw : wT T) (hx : x = fI f) (hs : s < nS T) (hf : f < nB T ∨ f = 3) (ho : ∀ t, t < nB T → h 94 t = own t) (hh : ∀ t, t < nB T → h 95 t = oth t) (bo : bP own) (bn : bP oth) (ht : t = aCh T own oth s far f) (hn : 0 ≤ n ∧ n ≤ 2000000) (b1 : 0 ≤ h 98 s ∧ h 98 s ≤ 100000000) (b2 : 0 ≤ h 97 s ∧ h 97 s + 199 * n ≤ 2147483647) (b3 : t < 3 → -2147483648 ≤ h 96 t - 199 * n ∧ h 96 t + 199 * n ≤ 2147483647) (b4 : t < 3 → 0 ≤ h 99 (3 * s + t) ∧ h 99 (3 * s + t) ≤ 100000000)
    (K : ∀ h' : zM, (∀ c i, ¬ (c = 98 ∧ i = s) → ¬ (c = 97 ∧ i = s) → ¬ (c = 96 ∧ i = t) → ¬ (c = 99 ∧ i = 3 * s + t ∧ t < 3) → h' c i = h c i) → h' 98 s = h 98 s + (if f < 3 ∧ ¬ f = t then n else 0) → h' 97 s = h 97 s + (if t = 3 then 0 else n * yPr own oth f t) → (t < 3 → h' 96 t = h 96 t + n * (yPr own oth f t - tr T 0 t)) → (t < 3 → h' 99 (3 * s + t) = h 99 (3 * s + t) + n) → Q none G h') : zRunD ztb zmt' (d + 6) 151 [zR (some 91), zI x, zI s, zI n, zI far] G h Q := by
  rw [r151]
  have hb := hw.1
  have hns := hw.2.1
  have s4 : (s : Int) < 4 := by omega
  by_cases hn0 : n = 0
  · subst hn0
    simp only [e151_0, e151_1, e151_4, e151_5, e151_6, e151_7, e151_8, e151_10, e151_13, e151_15, e151_16, e151_17, e151_20, e151_22, e151_23, e151_26, e151_27, e151_30, e151_31, e151_32, e151_33, e151_34, e151_35, e151_36, e151_38, e151_40, e151_43, e151_44, e151_45, e151_47, e151_50, e151_51, e151_54, e151_56, e151_57, e151_60, e151_61, e151_64, e151_66, e151_67, e151_69, e151_70, e151_73, e151_74, e151_75, e151_76, e151_77, e151_79, e151_80, e151_81, e151_82, e151_83, e151_86, e151_88, e151_89, e151_90, e151_91, e151_93, e151_94, e151_97, e151_100, e151_102, e151_103, e151_104, e151_105, e151_106, e151_107, e151_108, e151_111, e151_112, e151_114, e151_117, e151_118, e151_119, e151_120, e151_121, e151_122, zs0, zsI, zsL, zsR, ztl1, ztl0, zc0, zcI, zcL, zcR, true_and, and_true, true_implies, false_implies, implies_true, not_true_eq_false, not_false_eq_true, and_self, Int.toNat_natCast, Nat.reduceAdd, Nat.reduceLeDiff, Nat.reduceLT, forall_eq', Option.some.injEq, zarR, zarI, zarL, zle, zq0, zq1, zq2, zq3, zq4, zq5, zq6, zq8, zq9, zq10, zq20, zq7, zq12, zq24, zq40, zq41, zq48, zq100, zq120, zq123, zq480, zq492, zq700, zq729, zq2187, zq2916, zq8748, ne_eq, Int.reduceEq, Int.reduceLT, Int.reduceLE, Int.reduceToNat, Int.reduceMul, Int.reduceAdd, Int.reduceNeg]
    apply K
    · intro c i _ _ _ _
      rfl
    · split <;> rw [Int.add_zero]
    · rw [Int.zero_mul]
      split <;> rw [Int.add_zero]
    · intro _
      rw [Int.zero_mul, Int.add_zero]
    · intro _
      rw [Int.add_zero]
  · have tb := aCh_b hw (own := own) (oth := oth) (s := s) (far := far) (f := f) (by omega)
    rw [← ht] at tb
    have hc : ∀ Q' : zQ, zRunD ztb zmt' (d + 5) 149 [zR (some 91), zI x, zI s, zI far] G h Q' ↔ Q' (some (zI (tI t))) G h := fun Q' => by rw [ht]; exact m_choice hg hu hV hw hx hs hf ho hh bo bn
    have key : ∀ (h1 : zM), (∀ c i, ¬ (c = 98 ∧ i = s) → h1 c i = h c i) → h1 98 s = h 98 s + (if f < 3 ∧ ¬ f = t then n else 0) → zE 151 (d + 5) Q 36 [some (zR (some 91)), some (zI x), some (zI s), some (zI n), some (zI far), some (zI (tI t)), none] [] G h1 (0, 0) := by
      intro h1 hf1 h2
      by_cases h3 : t = 3
      · have ht3 : tI t = -2 := by unfold tI; rw [if_pos h3]
        simp only [e151_0, e151_1, e151_4, e151_5, e151_6, e151_7, e151_8, e151_10, e151_13, e151_15, e151_16, e151_17, e151_20, e151_22, e151_23, e151_26, e151_27, e151_30, e151_31, e151_32, e151_33, e151_34, e151_35, e151_36, e151_38, e151_40, e151_43, e151_44, e151_45, e151_47, e151_50, e151_51, e151_54, e151_56, e151_57, e151_60, e151_61, e151_64, e151_66, e151_67, e151_69, e151_70, e151_73, e151_74, e151_75, e151_76, e151_77, e151_79, e151_80, e151_81, e151_82, e151_83, e151_86, e151_88, e151_89, e151_90, e151_91, e151_93, e151_94, e151_97, e151_100, e151_102, e151_103, e151_104, e151_105, e151_106, e151_107, e151_108, e151_111, e151_112, e151_114, e151_117, e151_118, e151_119, e151_120, e151_121, e151_122, zs0, zsI, zsL, zsR, ztl1, ztl0, zc0, zcI, zcL, zcR, true_and, and_true, true_implies, false_implies, implies_true, not_true_eq_false, not_false_eq_true, and_self, Int.toNat_natCast, Nat.reduceAdd, Nat.reduceLeDiff, Nat.reduceLT, forall_eq', Option.some.injEq, zarR, zarI, zarL, zle, zq0, zq1, zq2, zq3, zq4, zq5, zq6, zq8, zq9, zq10, zq20, zq7, zq12, zq24, zq40, zq41, zq48, zq100, zq120, zq123, zq480, zq492, zq700, zq729, zq2187, zq2916, zq8748, ne_eq, Int.reduceEq, Int.reduceLT, Int.reduceLE, Int.reduceToNat, Int.reduceMul, Int.reduceAdd, Int.reduceNeg, ht3]
        apply K
        · intro c i q1 _ _ _
          exact hf1 c i q1
        · exact h2
        · rw [hf1 _ _ (by omega), if_pos h3, Int.add_zero]
        · intro q; omega
        · intro q; omega
      · have t3 : t < 3 := by omega
        have t3' : (t : Int) < 3 := by omega
        have n3 : ¬ (t : Int) = -2 := by omega
        have ht3 : tI t = (t : Int) := (tI_lt t3).symm
        have e1 : h1 94 t = own t := by rw [hf1 _ _ (by omega)]; exact ho t (by omega)
        have e2 : h1 95 t = oth t := by rw [hf1 _ _ (by omega)]; exact hh t (by omega)
        have e3 : h1 (u + 1) t = tr T 0 t := by rw [hf1 _ _ (by omega)]; exact hV.2.2.2.2.2.1 t (by omega)
        have e4 : h1 97 s = h 97 s := hf1 _ _ (by omega)
        have e5 : h1 96 t = h 96 t := hf1 _ _ (by omega)
        have e6 : h1 99 (3 * s + t) = h 99 (3 * s + t) := hf1 _ _ (by omega)
        have b3' := b3 t3
        have b4' := b4 t3
        have p1 := yPr_b bo bn f t
        have p2 := (hw.2.2.2.2.2 t).1
        have p3 := mulb hn.1 (Int.le_refl _) p1.1 p1.2 (by decide) (by decide)
        have p4 := mulb (p := yPr own oth f t - tr T 0 t) (lo := -199) (hi := 199) hn.1 (Int.le_refl _) (by omega) (by omega) (by decide) (by decide)
        have u1 : ¬ u + 1 = 97 := by omega
        have hcl : ∀ (h9 : zM) (Q' : zQ), zRunD ztb zmt' (d + 5) 150 [zI s, zI t] G h9 Q' ↔ Q' (some (zI ((3 * s + t : Nat) : Int))) G h9 := fun h9 Q' => m_cell (d := d + 4) (by omega) (by omega)
        have w1 : ((3 * s + t : Nat) : Int) < 12 := by omega
        have fin : Q none G (zu (zu (zu h1 97 s (h 97 s + n * yPr own oth f t)) 96 t (h 96 t + n * (yPr own oth f t - tr T 0 t))) 99 (3 * s + t) (h 99 (3 * s + t) + n)) := by
          apply K
          · intro c i q1 q2 q3 q4
            unfold zu
            rw [if_neg (by omega), if_neg q3, if_neg q2]
            exact hf1 c i q1
          · rw [zu_c (by decide), zu_c (by decide), zu_c (by decide)]
            exact h2
          · rw [zu_c (by decide), zu_c (by decide), zu_at, if_neg h3]
          · intro _
            rw [zu_c (by decide), zu_at]
          · intro _
            rw [zu_at]
        by_cases hkt : f = t
        · have c1 : x = (t : Int) := by rw [hx, ← fI_lt (by omega)]; omega
          have pe : yPr own oth f t = own t := if_pos hkt
          rw [pe] at p3 p4 fin p1
          simp only [e151_0, e151_1, e151_4, e151_5, e151_6, e151_7, e151_8, e151_10, e151_13, e151_15, e151_16, e151_17, e151_20, e151_22, e151_23, e151_26, e151_27, e151_30, e151_31, e151_32, e151_33, e151_34, e151_35, e151_36, e151_38, e151_40, e151_43, e151_44, e151_45, e151_47, e151_50, e151_51, e151_54, e151_56, e151_57, e151_60, e151_61, e151_64, e151_66, e151_67, e151_69, e151_70, e151_73, e151_74, e151_75, e151_76, e151_77, e151_79, e151_80, e151_81, e151_82, e151_83, e151_86, e151_88, e151_89, e151_90, e151_91, e151_93, e151_94, e151_97, e151_100, e151_102, e151_103, e151_104, e151_105, e151_106, e151_107, e151_108, e151_111, e151_112, e151_114, e151_117, e151_118, e151_119, e151_120, e151_121, e151_122, zs0, zsI, zsL, zsR, ztl1, ztl0, zc0, zcI, zcL, zcR, true_and, and_true, true_implies, false_implies, implies_true, not_true_eq_false, not_false_eq_true, and_self, Int.toNat_natCast, Nat.reduceAdd, Nat.reduceLeDiff, Nat.reduceLT, forall_eq', Option.some.injEq, zarR, zarI, zarL, zle, zq0, zq1, zq2, zq3, zq4, zq5, zq6, zq8, zq9, zq10, zq20, zq7, zq12, zq24, zq40, zq41, zq48, zq100, zq120, zq123, zq480, zq492, zq700, zq729, zq2187, zq2916, zq8748, ne_eq, Int.reduceEq, Int.reduceLT, Int.reduceLE, Int.reduceToNat, Int.reduceMul, Int.reduceAdd, Int.reduceNeg, gk91 hg, gr91_5 hg, gr91_22 hg, gr91_23 hg, gr91_24 hg, gr91_25 hg, gr91_26 hg, gr91_27 hg, gr91_28 hg, gr91_29 hg, gr91_32 hg, gr91_33 hg, gr91_34 hg, gr91_35 hg, gr91_36 hg, gr91_37 hg, gr91_38 hg, gr91_39 hg, gr91_40 hg, gr91_41 hg, gr91_42 hg, gr91_44 hg, gr91_45 hg, gr91_46 hg, gr91_48 hg, gr91_49 hg, gr91_50 hg, gr91_51 hg, gr91_52 hg, gk94 hg, gl94 hg, gk95 hg, gl95 hg, gk96 hg, gl96 hg, gk97 hg, gl97 hg, gk99 hg, gl99 hg, hu, ht3, n3, t3', s4, c1, e1, e2, e3, e4, e5, e6, hcl, w1, zu_c (show ¬ 96 = 97 by decide), zu_c (show ¬ 99 = 96 by decide), zu_c (show ¬ 99 = 97 by decide), zu_c u1]
          simp (disch := omega) only [wr_id]
          exact fin
        · have c1 : ¬ x = (t : Int) := by rw [hx]; unfold fI; split <;> omega
          have pe : yPr own oth f t = oth t := if_neg hkt
          rw [pe] at p3 p4 fin p1
          simp only [e151_0, e151_1, e151_4, e151_5, e151_6, e151_7, e151_8, e151_10, e151_13, e151_15, e151_16, e151_17, e151_20, e151_22, e151_23, e151_26, e151_27, e151_30, e151_31, e151_32, e151_33, e151_34, e151_35, e151_36, e151_38, e151_40, e151_43, e151_44, e151_45, e151_47, e151_50, e151_51, e151_54, e151_56, e151_57, e151_60, e151_61, e151_64, e151_66, e151_67, e151_69, e151_70, e151_73, e151_74, e151_75, e151_76, e151_77, e151_79, e151_80, e151_81, e151_82, e151_83, e151_86, e151_88, e151_89, e151_90, e151_91, e151_93, e151_94, e151_97, e151_100, e151_102, e151_103, e151_104, e151_105, e151_106, e151_107, e151_108, e151_111, e151_112, e151_114, e151_117, e151_118, e151_119, e151_120, e151_121, e151_122, zs0, zsI, zsL, zsR, ztl1, ztl0, zc0, zcI, zcL, zcR, true_and, and_true, true_implies, false_implies, implies_true, not_true_eq_false, not_false_eq_true, and_self, Int.toNat_natCast, Nat.reduceAdd, Nat.reduceLeDiff, Nat.reduceLT, forall_eq', Option.some.injEq, zarR, zarI, zarL, zle, zq0, zq1, zq2, zq3, zq4, zq5, zq6, zq8, zq9, zq10, zq20, zq7, zq12, zq24, zq40, zq41, zq48, zq100, zq120, zq123, zq480, zq492, zq700, zq729, zq2187, zq2916, zq8748, ne_eq, Int.reduceEq, Int.reduceLT, Int.reduceLE, Int.reduceToNat, Int.reduceMul, Int.reduceAdd, Int.reduceNeg, gk91 hg, gr91_5 hg, gr91_22 hg, gr91_23 hg, gr91_24 hg, gr91_25 hg, gr91_26 hg, gr91_27 hg, gr91_28 hg, gr91_29 hg, gr91_32 hg, gr91_33 hg, gr91_34 hg, gr91_35 hg, gr91_36 hg, gr91_37 hg, gr91_38 hg, gr91_39 hg, gr91_40 hg, gr91_41 hg, gr91_42 hg, gr91_44 hg, gr91_45 hg, gr91_46 hg, gr91_48 hg, gr91_49 hg, gr91_50 hg, gr91_51 hg, gr91_52 hg, gk94 hg, gl94 hg, gk95 hg, gl95 hg, gk96 hg, gl96 hg, gk97 hg, gl97 hg, gk99 hg, gl99 hg, hu, ht3, n3, t3', s4, c1, e1, e2, e3, e4, e5, e6, hcl, w1, zu_c (show ¬ 96 = 97 by decide), zu_c (show ¬ 99 = 96 by decide), zu_c (show ¬ 99 = 97 by decide), zu_c u1]
          simp (disch := omega) only [wr_id]
          exact fin
    by_cases hf3 : f = 3
    · have hx' : x = -1 := by rw [hx]; unfold fI; rw [if_pos hf3]
      rw [hx'] at key hc
      simp only [e151_0, e151_1, e151_4, e151_5, e151_6, e151_7, e151_8, e151_10, e151_13, e151_15, e151_16, e151_17, e151_20, e151_22, e151_23, e151_26, e151_27, e151_30, e151_31, e151_32, e151_33, e151_34, e151_35, zs0, zsI, zsL, zsR, ztl1, ztl0, zc0, zcI, zcL, zcR, true_and, and_true, true_implies, false_implies, implies_true, not_true_eq_false, not_false_eq_true, and_self, Int.toNat_natCast, Nat.reduceAdd, Nat.reduceLeDiff, Nat.reduceLT, forall_eq', Option.some.injEq, zarR, zarI, zarL, zle, zq0, zq1, zq2, zq3, zq4, zq5, zq6, zq8, zq9, zq10, zq20, zq7, zq12, zq24, zq40, zq41, zq48, zq100, zq120, zq123, zq480, zq492, zq700, zq729, zq2187, zq2916, zq8748, ne_eq, Int.reduceEq, Int.reduceLT, Int.reduceLE, Int.reduceToNat, Int.reduceMul, Int.reduceAdd, Int.reduceNeg, gk91 hg, gr91_5 hg, gr91_22 hg, gr91_23 hg, gr91_24 hg, gr91_25 hg, gr91_26 hg, gr91_27 hg, gr91_28 hg, gr91_29 hg, gr91_32 hg, gr91_33 hg, gr91_34 hg, gr91_35 hg, gr91_36 hg, gr91_37 hg, gr91_38 hg, gr91_39 hg, gr91_40 hg, gr91_41 hg, gr91_42 hg, gr91_44 hg, gr91_45 hg, gr91_46 hg, gr91_48 hg, gr91_49 hg, gr91_50 hg, gr91_51 hg, gr91_52 hg, hn0, hc, hx']
      exact key h (fun _ _ _ => rfl) (by rw [if_neg (by omega), Int.add_zero])
    · have hx' : x = (f : Int) := by rw [hx]; unfold fI; rw [if_neg hf3]
      have c1 : ¬ x = -1 := by omega
      by_cases hft : f = t
      · have c2 : tI t = x := by rw [← tI_lt (by omega)]; omega
        simp only [e151_0, e151_1, e151_4, e151_5, e151_6, e151_7, e151_8, e151_10, e151_13, e151_15, e151_16, e151_17, e151_20, e151_22, e151_23, e151_26, e151_27, e151_30, e151_31, e151_32, e151_33, e151_34, e151_35, zs0, zsI, zsL, zsR, ztl1, ztl0, zc0, zcI, zcL, zcR, true_and, and_true, true_implies, false_implies, implies_true, not_true_eq_false, not_false_eq_true, and_self, Int.toNat_natCast, Nat.reduceAdd, Nat.reduceLeDiff, Nat.reduceLT, forall_eq', Option.some.injEq, zarR, zarI, zarL, zle, zq0, zq1, zq2, zq3, zq4, zq5, zq6, zq8, zq9, zq10, zq20, zq7, zq12, zq24, zq40, zq41, zq48, zq100, zq120, zq123, zq480, zq492, zq700, zq729, zq2187, zq2916, zq8748, ne_eq, Int.reduceEq, Int.reduceLT, Int.reduceLE, Int.reduceToNat, Int.reduceMul, Int.reduceAdd, Int.reduceNeg, gk91 hg, gr91_5 hg, gr91_22 hg, gr91_23 hg, gr91_24 hg, gr91_25 hg, gr91_26 hg, gr91_27 hg, gr91_28 hg, gr91_29 hg, gr91_32 hg, gr91_33 hg, gr91_34 hg, gr91_35 hg, gr91_36 hg, gr91_37 hg, gr91_38 hg, gr91_39 hg, gr91_40 hg, gr91_41 hg, gr91_42 hg, gr91_44 hg, gr91_45 hg, gr91_46 hg, gr91_48 hg, gr91_49 hg, gr91_50 hg, gr91_51 hg, gr91_52 hg, hn0, hc, c1, c2]
        rw [c2] at key
        exact key h (fun _ _ _ => rfl) (by rw [if_neg (by omega), Int.add_zero])
      · have c2 : ¬ tI t = x := by unfold tI; split <;> omega
        simp only [e151_0, e151_1, e151_4, e151_5, e151_6, e151_7, e151_8, e151_10, e151_13, e151_15, e151_16, e151_17, e151_20, e151_22, e151_23, e151_26, e151_27, e151_30, e151_31, e151_32, e151_33, e151_34, e151_35, zs0, zsI, zsL, zsR, ztl1, ztl0, zc0, zcI, zcL, zcR, true_and, and_true, true_implies, false_implies, implies_true, not_true_eq_false, not_false_eq_true, and_self, Int.toNat_natCast, Nat.reduceAdd, Nat.reduceLeDiff, Nat.reduceLT, forall_eq', Option.some.injEq, zarR, zarI, zarL, zle, zq0, zq1, zq2, zq3, zq4, zq5, zq6, zq8, zq9, zq10, zq20, zq7, zq12, zq24, zq40, zq41, zq48, zq100, zq120, zq123, zq480, zq492, zq700, zq729, zq2187, zq2916, zq8748, ne_eq, Int.reduceEq, Int.reduceLT, Int.reduceLE, Int.reduceToNat, Int.reduceMul, Int.reduceAdd, Int.reduceNeg, gk91 hg, gr91_5 hg, gr91_22 hg, gr91_23 hg, gr91_24 hg, gr91_25 hg, gr91_26 hg, gr91_27 hg, gr91_28 hg, gr91_29 hg, gr91_32 hg, gr91_33 hg, gr91_34 hg, gr91_35 hg, gr91_36 hg, gr91_37 hg, gr91_38 hg, gr91_39 hg, gr91_40 hg, gr91_41 hg, gr91_42 hg, gr91_44 hg, gr91_45 hg, gr91_46 hg, gr91_48 hg, gr91_49 hg, gr91_50 hg, gr91_51 hg, gr91_52 hg, gk98 hg, gl98 hg, hn0, hc, c1, c2, s4]
        rw [wr_id (by omega)]
        apply key
        · intro c i q1
          unfold zu
          rw [if_neg q1]
        · rw [zu_at, if_pos ⟨by omega, hft⟩]
def gI (T : aTn) (own oth : Nat → Int) (n : Nat → Nat → Int) (to : Nat → Nat → Nat) (h h1 : zM) (s : Nat) : Prop := (∀ c i, ¬ c = 96 → ¬ c = 97 → ¬ c = 98 → ¬ c = 99 → h1 c i = h c i) ∧ (∀ s', s' < s → h1 98 s' = aLeft n to s' 5) ∧ (∀ s', s' < s → h1 97 s' = aPaid own oth n to s' 5) ∧ (∀ b s', b < 3 → s' < s → h1 99 (3 * s' + b) = aCame n to b s' 5)
def gJ (T : aTn) (own oth : Nat → Int) (n : Nat → Nat → Int) (to : Nat → Nat → Nat) (h h1 : zM) (s : Nat) (L P : Int) (E C : Nat → Int) : Prop := gI T own oth n to h h1 s ∧ h1 98 s = L ∧ h1 97 s = P ∧ (∀ b, b < 3 → h1 96 b = aEarS T own oth n to b s + E b) ∧ (∀ b, b < 3 → h1 99 (3 * s + b) = C b) ∧ (∀ b s', b < 3 → s < s' → s' < 4 → h1 99 (3 * s' + b) = 0)
theorem gJ_step {T : aTn} {own oth : Nat → Int} {n : Nat → Nat → Int} {to : Nat → Nat → Nat} {h h1 h2 : zM} {s f t : Nat} {L P N : Int} {E C : Nat → Int} (hJ : gJ T own oth n to h h1 s L P E C) (m0 : ∀ c i, ¬ (c = 98 ∧ i = s) → ¬ (c = 97 ∧ i = s) → ¬ (c = 96 ∧ i = t) → ¬ (c = 99 ∧ i = 3 * s + t ∧ t < 3) → h2 c i = h1 c i) (m1 : h2 98 s = h1 98 s + (if f < 3 ∧ ¬ f = t then N else 0)) (m2 : h2 97 s = h1 97 s + (if t = 3 then 0 else N * yPr own oth f t)) (m3 : t < 3 → h2 96 t = h1 96 t + N * (yPr own oth f t - tr T 0 t)) (m4 : t < 3 → h2 99 (3 * s + t) = h1 99 (3 * s + t) + N) : gJ T own oth n to h h2 s (L + (if f < 3 ∧ ¬ f = t then N else 0)) (P + (if t = 3 then 0 else N * yPr own oth f t)) (fun b => E b + (if t = b then N * (yPr own oth f b - tr T 0 b) else 0)) (fun b => C b + (if t = b then N else 0)) := by
  obtain ⟨⟨f0, f1, f2, f3⟩, f4, f5, f6, f7, f8⟩ := hJ
  refine ⟨⟨?_, ?_, ?_, ?_⟩, ?_, ?_, ?_, ?_, ?_⟩
  · intro c i q1 q2 q3 q4
    rw [m0 c i (by omega) (by omega) (by omega) (by omega)]
    exact f0 c i q1 q2 q3 q4
  · intro s' q1
    rw [m0 _ _ (by omega) (by omega) (by omega) (by omega)]
    exact f1 s' q1
  · intro s' q1
    rw [m0 _ _ (by omega) (by omega) (by omega) (by omega)]
    exact f2 s' q1
  · intro b s' q1 q2
    rw [m0 _ _ (by omega) (by omega) (by omega) (by omega)]
    exact f3 b s' q1 q2
  · rw [m1, f4]
  · rw [m2, f5]
  · intro b q1
    dsimp only
    by_cases q2 : t = b
    · subst q2
      rw [m3 q1, f6 _ q1, if_pos rfl, Int.add_assoc]
    · rw [m0 _ _ (by omega) (by omega) (by omega) (by omega), f6 b q1, if_neg q2, Int.add_zero]
  · intro b q1
    dsimp only
    by_cases q2 : t = b
    · subst q2
      rw [m4 q1, f7 _ q1, if_pos rfl]
    · rw [m0 _ _ (by omega) (by omega) (by omega) (by omega), f7 b q1, if_neg q2, Int.add_zero]
  · intro b s' q1 q2 q3
    rw [m0 _ _ (by omega) (by omega) (by omega) (by omega)]
    exact f8 b s' q1 q2 q3
theorem m_goes (hg : gS G) (hu : gU G u) (hV : rV h u T) (hw : wT T) (ho : ∀ t, t < nB T → h 94 t = own t) (hh : ∀ t, t < nB T → h 95 t = oth t) (bo : bP own) (bn : bP oth) {r a z : Nat} {n : Nat → Nat → Int} (hn : nOk n) (k0 : 100 < r ∧ r < 121) (k1 : G.2.1 r = 10) (k2 : a + 12 ≤ G.2.2.1 r) (k3 : z + 12 ≤ G.2.2.1 r) (k4 : (a : Int) < 1000) (k5 : (z : Int) < 1000)
    (hheld : ∀ s k, s < nS T → k < nB T → h r (a + (3 * s + k)) = n s k) (hz2 : nB T = 2 → ∀ s, n s 2 = 0) (hp4 : ∀ s, s < nS T → n s 4 = if h 91 19 = -1 then (if tr T 7 s = 0 then 0 else h 100 s) else h 100 s * h 91 19 / 100) (hp3 : ∀ s, s < nS T → n s 3 = h 100 s - n s 4) (hfr : ∀ s, s < nS T → 0 ≤ h 100 s ∧ h 100 s ≤ 100) (hed : -1 ≤ h 91 19 ∧ h 91 19 ≤ 100)
    (K : ∀ h' : zM, (∀ c i, ¬ c = 96 → ¬ c = 97 → ¬ c = 98 → ¬ c = 99 → ¬ (c = r ∧ z ≤ i ∧ i < z + 12) → h' c i = h c i) → (∀ s, s < nS T → h' 98 s = aLeft n (aTo T own oth) s 5) → (∀ s, s < nS T → h' 97 s = aPaid own oth n (aTo T own oth) s 5) → (∀ b, b < 3 → h' 96 b = aEarS T own oth n (aTo T own oth) b (nS T)) → (∀ b s, b < 3 → s < 4 → h' r (z + (3 * s + b)) = if s < nS T then aNext T n (aTo T own oth) b s else 0) → Q none G h') : zRunD ztb zmt' (d + 7) 152 [zR (some 91), zR (some r), zI a, zI z] G h Q := by
  rw [r152]
  have hb := hw.1
  have hns := hw.2.1
  -- the rows of what is held next
  have wrt : ∀ (h2 : zM) (l4 l5 l6 : Option zV), gI T own oth n (aTo T own oth) h h2 (nS T) → (∀ b, b < 3 → h2 96 b = aEarS T own oth n (aTo T own oth) b (nS T)) → zE 152 (d + 6) Q 222 [some (zR (some 91)), some (zR (some r)), some (zI a), some (zI z), l4, l5, l6] [] G h2 (0, 0) := by
    intro h2 l4 l5 l6 hI hE
    obtain ⟨f0, f1, f2, f3⟩ := hI
    have hV2 : rV h2 u T := rV_frame hV (fun c i q => f0 c i (by omega) (by omega) (by omega) (by omega)) (fun i => f0 _ _ (by decide) (by decide) (by decide) (by decide)) (fun i _ _ => f0 _ _ (by decide) (by decide) (by decide) (by decide))
    have inn : ∀ jb b s (h3 : zM), s < 4 → b + jb = 3 → (∀ c i, ¬ (c = r ∧ z ≤ i ∧ i < z + 12) → h3 c i = h2 c i) → (∀ b' s', b' < 3 → s' < s ∨ s' = s ∧ b' < b → h3 r (z + (3 * s' + b')) = if s' < nS T then aNext T n (aTo T own oth) b' s' else 0) → (∀ h4 : zM, (∀ c i, ¬ (c = r ∧ z ≤ i ∧ i < z + 12) → h4 c i = h2 c i) → (∀ b' s', b' < 3 → s' < s + 1 → h4 r (z + (3 * s' + b')) = if s' < nS T then aNext T n (aTo T own oth) b' s' else 0) → zE 152 (d + 6) Q 299 [some (zR (some 91)), some (zR (some r)), some (zI a), some (zI z), some (zI s), some (zI 3), l6] [] G h4 (0, 0)) → zE 152 (d + 6) Q 234 [some (zR (some 91)), some (zR (some r)), some (zI a), some (zI z), some (zI s), some (zI b), l6] [] G h3 (0, 0) := by
      intro jb
      induction jb with
      | zero =>
        intro b s h3 hs hb3 m0 m1 KK
        have hb' : b = 3 := by omega
        subst hb'
        rw [e152_234]
        simp only [e152_0, e152_1, e152_5, e152_6, e152_9, e152_10, e152_13, e152_15, e152_16, e152_17, e152_20, e152_23, e152_24, e152_28, e152_30, e152_33, e152_34, e152_37, e152_39, e152_40, e152_41, e152_44, e152_47, e152_48, e152_52, e152_53, e152_56, e152_59, e152_62, e152_63, e152_66, e152_68, e152_69, e152_70, e152_71, e152_74, e152_76, e152_77, e152_78, e152_79, e152_82, e152_83, e152_86, e152_87, e152_89, e152_92, e152_95, e152_96, e152_99, e152_100, e152_102, e152_103, e152_107, e152_108, e152_111, e152_114, e152_117, e152_118, e152_120, e152_122, e152_123, e152_124, e152_126, e152_128, e152_131, e152_132, e152_133, e152_135, e152_138, e152_141, e152_144, e152_145, e152_148, e152_149, e152_152, e152_154, e152_157, e152_158, e152_161, e152_163, e152_164, e152_167, e152_168, e152_171, e152_172, e152_175, e152_177, e152_178, e152_179, e152_182, e152_183, e152_185, e152_186, e152_188, e152_189, e152_190, e152_192, e152_194, e152_195, e152_198, e152_199, e152_200, e152_202, e152_203, e152_206, e152_208, e152_209, e152_211, e152_212, e152_213, e152_216, e152_219, e152_222, e152_223, e152_227, e152_228, e152_231, e152_232, e152_236, e152_237, e152_240, e152_241, e152_242, e152_244, e152_246, e152_249, e152_250, e152_252, e152_253, e152_256, e152_259, e152_262, e152_263, e152_266, e152_268, e152_270, e152_273, e152_274, e152_275, e152_278, e152_281, e152_283, e152_284, e152_285, e152_287, e152_288, e152_291, e152_292, e152_293, e152_296, e152_302, e152_305, zs0, zsI, zsL, zsR, ztl1, ztl0, zc0, zcI, zcL, zcR, true_and, and_true, true_implies, false_implies, implies_true, not_true_eq_false, not_false_eq_true, and_self, Int.toNat_natCast, Nat.reduceAdd, Nat.reduceLeDiff, Nat.reduceLT, forall_eq', Option.some.injEq, zarR, zarI, zarL, zle, zq0, zq1, zq2, zq3, zq4, zq5, zq6, zq8, zq9, zq10, zq20, zq7, zq12, zq24, zq40, zq41, zq48, zq100, zq120, zq123, zq480, zq492, zq700, zq729, zq2187, zq2916, zq8748, ne_eq, Int.reduceEq, Int.reduceLT, Int.reduceLE, Int.reduceToNat, Int.reduceMul, Int.reduceAdd, Int.reduceNeg, Int.le_refl]
        exact KK h3 m0 (fun b' s' q1 q2 => m1 b' s' q1 (by omega))
      | succ jb ihb =>
        intro b s h3 hs hb3 m0 m1 KK
        have c3 : ¬ (3 : Int) ≤ b := by omega
        have e1 : h3 u 1 = (nS T : Int) := by rw [m0 _ _ (by omega)]; exact hV2.2.1
        have hcl : ∀ (h9 : zM) (Q' : zQ), zRunD ztb zmt' (d + 6) 150 [zI s, zI b] G h9 Q' ↔ Q' (some (zI ((3 * s + b : Nat) : Int))) G h9 := fun h9 Q' => m_cell (d := d + 5) (by omega) (by omega)
        have w1 : ((3 * s + b : Nat) : Int) < 12 := by omega
        have w2 : ((z + (3 * s + b) : Nat) : Int) < (G.2.2.1 r : Int) := by omega
        have val : ∀ v : Int, v = (if s < nS T then aNext T n (aTo T own oth) b s else 0) → zE 152 (d + 6) Q 292 [some (zR (some 91)), some (zR (some r)), some (zI a), some (zI z), some (zI s), some (zI b), l6] [zI v, zI ((z + (3 * s + b) : Nat) : Int), zR (some r)] G h3 (0, 0) := by
          intro v hv
          simp only [e152_0, e152_1, e152_5, e152_6, e152_9, e152_10, e152_13, e152_15, e152_16, e152_17, e152_20, e152_23, e152_24, e152_28, e152_30, e152_33, e152_34, e152_37, e152_39, e152_40, e152_41, e152_44, e152_47, e152_48, e152_52, e152_53, e152_56, e152_59, e152_62, e152_63, e152_66, e152_68, e152_69, e152_70, e152_71, e152_74, e152_76, e152_77, e152_78, e152_79, e152_82, e152_83, e152_86, e152_87, e152_89, e152_92, e152_95, e152_96, e152_99, e152_100, e152_102, e152_103, e152_107, e152_108, e152_111, e152_114, e152_117, e152_118, e152_120, e152_122, e152_123, e152_124, e152_126, e152_128, e152_131, e152_132, e152_133, e152_135, e152_138, e152_141, e152_144, e152_145, e152_148, e152_149, e152_152, e152_154, e152_157, e152_158, e152_161, e152_163, e152_164, e152_167, e152_168, e152_171, e152_172, e152_175, e152_177, e152_178, e152_179, e152_182, e152_183, e152_185, e152_186, e152_188, e152_189, e152_190, e152_192, e152_194, e152_195, e152_198, e152_199, e152_200, e152_202, e152_203, e152_206, e152_208, e152_209, e152_211, e152_212, e152_213, e152_216, e152_219, e152_222, e152_223, e152_227, e152_228, e152_231, e152_232, e152_236, e152_237, e152_240, e152_241, e152_242, e152_244, e152_246, e152_249, e152_250, e152_252, e152_253, e152_256, e152_259, e152_262, e152_263, e152_266, e152_268, e152_270, e152_273, e152_274, e152_275, e152_278, e152_281, e152_283, e152_284, e152_285, e152_287, e152_288, e152_291, e152_292, e152_293, e152_296, e152_299, e152_302, e152_305, zs0, zsI, zsL, zsR, ztl1, ztl0, zc0, zcI, zcL, zcR, true_and, and_true, true_implies, false_implies, implies_true, not_true_eq_false, not_false_eq_true, and_self, Int.toNat_natCast, Nat.reduceAdd, Nat.reduceLeDiff, Nat.reduceLT, forall_eq', Option.some.injEq, zarR, zarI, zarL, zle, zq0, zq1, zq2, zq3, zq4, zq5, zq6, zq8, zq9, zq10, zq20, zq7, zq12, zq24, zq40, zq41, zq48, zq100, zq120, zq123, zq480, zq492, zq700, zq729, zq2187, zq2916, zq8748, ne_eq, Int.reduceEq, Int.reduceLT, Int.reduceLE, Int.reduceToNat, Int.reduceMul, Int.reduceAdd, Int.reduceNeg, k1, w2, wr_s (show b < 2147483647 by omega)]
          apply ihb (b + 1) s _ hs (by omega) _ _ KK
          · intro c i q1
            unfold zu
            rw [if_neg (by omega)]
            exact m0 c i q1
          · intro b' s' q1 q2
            by_cases q3 : b' = b ∧ s' = s
            · obtain ⟨rfl, rfl⟩ := q3
              rw [zu_at, hv]
            · rw [zu_i (by omega)]
              exact m1 b' s' q1 (by omega)
        rw [e152_234]
        by_cases hss : s < nS T
        · have c4 : ¬ (nS T : Int) ≤ s := by omega
          have s4 : (s : Int) < 4 := by omega
          have e2 : h3 99 (3 * s + b) = aCame n (aTo T own oth) b s 5 := by rw [m0 _ _ (by omega)]; exact f3 b s (by omega) hss
          have e3 : h3 (u + 8) s = tr T 6 s := by rw [m0 _ _ (by omega)]; exact hV2.2.2.2.2.2.2.2.2.2.2.2.1 s hss
          have g3 := aCame_b (to := aTo T own oth) hn b s 5 (by omega)
          have g4 := (hw.2.2.2.2.2 s).2.2.2.2.2.2.1
          have g5 := mulb g3.1 g3.2 g4.1 g4.2 (by decide) (by decide)
          simp only [e152_0, e152_1, e152_5, e152_6, e152_9, e152_10, e152_13, e152_15, e152_16, e152_17, e152_20, e152_23, e152_24, e152_28, e152_30, e152_33, e152_34, e152_37, e152_39, e152_40, e152_41, e152_44, e152_47, e152_48, e152_52, e152_53, e152_56, e152_59, e152_62, e152_63, e152_66, e152_68, e152_69, e152_70, e152_71, e152_74, e152_76, e152_77, e152_78, e152_79, e152_82, e152_83, e152_86, e152_87, e152_89, e152_92, e152_95, e152_96, e152_99, e152_100, e152_102, e152_103, e152_107, e152_108, e152_111, e152_114, e152_117, e152_118, e152_120, e152_122, e152_123, e152_124, e152_126, e152_128, e152_131, e152_132, e152_133, e152_135, e152_138, e152_141, e152_144, e152_145, e152_148, e152_149, e152_152, e152_154, e152_157, e152_158, e152_161, e152_163, e152_164, e152_167, e152_168, e152_171, e152_172, e152_175, e152_177, e152_178, e152_179, e152_182, e152_183, e152_185, e152_186, e152_188, e152_189, e152_190, e152_192, e152_194, e152_195, e152_198, e152_199, e152_200, e152_202, e152_203, e152_206, e152_208, e152_209, e152_211, e152_212, e152_213, e152_216, e152_219, e152_222, e152_223, e152_227, e152_228, e152_231, e152_232, e152_236, e152_237, e152_240, e152_241, e152_242, e152_244, e152_246, e152_249, e152_250, e152_252, e152_253, e152_256, e152_259, e152_262, e152_263, e152_266, e152_268, e152_270, e152_273, e152_274, e152_275, e152_278, e152_281, e152_283, e152_284, e152_285, e152_287, e152_288, e152_291, e152_293, e152_296, e152_299, e152_302, e152_305, zs0, zsI, zsL, zsR, ztl1, ztl0, zc0, zcI, zcL, zcR, true_and, and_true, true_implies, false_implies, implies_true, not_true_eq_false, not_false_eq_true, and_self, Int.toNat_natCast, Nat.reduceAdd, Nat.reduceLeDiff, Nat.reduceLT, forall_eq', Option.some.injEq, zarR, zarI, zarL, zle, zq0, zq1, zq2, zq3, zq4, zq5, zq6, zq8, zq9, zq10, zq20, zq7, zq12, zq24, zq40, zq41, zq48, zq100, zq120, zq123, zq480, zq492, zq700, zq729, zq2187, zq2916, zq8748, ne_eq, Int.reduceEq, Int.reduceLT, Int.reduceLE, Int.reduceToNat, Int.reduceMul, Int.reduceAdd, Int.reduceNeg, gk91 hg, gr91_5 hg, gr91_22 hg, gr91_23 hg, gr91_24 hg, gr91_25 hg, gr91_26 hg, gr91_27 hg, gr91_28 hg, gr91_29 hg, gr91_32 hg, gr91_33 hg, gr91_34 hg, gr91_35 hg, gr91_36 hg, gr91_37 hg, gr91_38 hg, gr91_39 hg, gr91_40 hg, gr91_41 hg, gr91_42 hg, gr91_44 hg, gr91_45 hg, gr91_46 hg, gr91_48 hg, gr91_49 hg, gr91_50 hg, gr91_51 hg, gr91_52 hg, gk99 hg, gl99 hg, hu, c3, c4, s4, e1, e2, e3, hcl, w1, wrN (z := (z : Int) + ((3 * s + b : Nat) : Int)) (m := z + (3 * s + b)) (by omega) (by omega)]
          rw [wr_id (z := aCame n (aTo T own oth) b s 5 * tr T 6 s) (by omega), Int.tdiv_eq_ediv_of_nonneg (by omega), wr_id (by omega)]
          exact val _ (by rw [if_pos hss, aNext])
        · have c4 : (nS T : Int) ≤ s := by omega
          simp only [e152_0, e152_1, e152_5, e152_6, e152_9, e152_10, e152_13, e152_15, e152_16, e152_17, e152_20, e152_23, e152_24, e152_28, e152_30, e152_33, e152_34, e152_37, e152_39, e152_40, e152_41, e152_44, e152_47, e152_48, e152_52, e152_53, e152_56, e152_59, e152_62, e152_63, e152_66, e152_68, e152_69, e152_70, e152_71, e152_74, e152_76, e152_77, e152_78, e152_79, e152_82, e152_83, e152_86, e152_87, e152_89, e152_92, e152_95, e152_96, e152_99, e152_100, e152_102, e152_103, e152_107, e152_108, e152_111, e152_114, e152_117, e152_118, e152_120, e152_122, e152_123, e152_124, e152_126, e152_128, e152_131, e152_132, e152_133, e152_135, e152_138, e152_141, e152_144, e152_145, e152_148, e152_149, e152_152, e152_154, e152_157, e152_158, e152_161, e152_163, e152_164, e152_167, e152_168, e152_171, e152_172, e152_175, e152_177, e152_178, e152_179, e152_182, e152_183, e152_185, e152_186, e152_188, e152_189, e152_190, e152_192, e152_194, e152_195, e152_198, e152_199, e152_200, e152_202, e152_203, e152_206, e152_208, e152_209, e152_211, e152_212, e152_213, e152_216, e152_219, e152_222, e152_223, e152_227, e152_228, e152_231, e152_232, e152_236, e152_237, e152_240, e152_241, e152_242, e152_244, e152_246, e152_249, e152_250, e152_252, e152_253, e152_256, e152_259, e152_262, e152_263, e152_266, e152_268, e152_270, e152_273, e152_274, e152_275, e152_278, e152_281, e152_283, e152_284, e152_285, e152_287, e152_288, e152_291, e152_293, e152_296, e152_299, e152_302, e152_305, zs0, zsI, zsL, zsR, ztl1, ztl0, zc0, zcI, zcL, zcR, true_and, and_true, true_implies, false_implies, implies_true, not_true_eq_false, not_false_eq_true, and_self, Int.toNat_natCast, Nat.reduceAdd, Nat.reduceLeDiff, Nat.reduceLT, forall_eq', Option.some.injEq, zarR, zarI, zarL, zle, zq0, zq1, zq2, zq3, zq4, zq5, zq6, zq8, zq9, zq10, zq20, zq7, zq12, zq24, zq40, zq41, zq48, zq100, zq120, zq123, zq480, zq492, zq700, zq729, zq2187, zq2916, zq8748, ne_eq, Int.reduceEq, Int.reduceLT, Int.reduceLE, Int.reduceToNat, Int.reduceMul, Int.reduceAdd, Int.reduceNeg, gk91 hg, gr91_5 hg, gr91_22 hg, gr91_23 hg, gr91_24 hg, gr91_25 hg, gr91_26 hg, gr91_27 hg, gr91_28 hg, gr91_29 hg, gr91_32 hg, gr91_33 hg, gr91_34 hg, gr91_35 hg, gr91_36 hg, gr91_37 hg, gr91_38 hg, gr91_39 hg, gr91_40 hg, gr91_41 hg, gr91_42 hg, gr91_44 hg, gr91_45 hg, gr91_46 hg, gr91_48 hg, gr91_49 hg, gr91_50 hg, gr91_51 hg, gr91_52 hg, gk99 hg, gl99 hg, hu, c3, c4, e1, hcl, wrN (z := (z : Int) + ((3 * s + b : Nat) : Int)) (m := z + (3 * s + b)) (by omega) (by omega)]
          exact val 0 (by rw [if_neg hss])
    have out : ∀ js s (h3 : zM) (l5 : Option zV), s + js = 4 → (∀ c i, ¬ (c = r ∧ z ≤ i ∧ i < z + 12) → h3 c i = h2 c i) → (∀ b' s', b' < 3 → s' < s → h3 r (z + (3 * s' + b')) = if s' < nS T then aNext T n (aTo T own oth) b' s' else 0) → zE 152 (d + 6) Q 225 [some (zR (some 91)), some (zR (some r)), some (zI a), some (zI z), some (zI s), l5, l6] [] G h3 (0, 0) := by
      intro js
      induction js with
      | zero =>
        intro s h3 l5 hs m0 m1
        have hs' : s = 4 := by omega
        subst hs'
        rw [e152_225]
        simp only [e152_0, e152_1, e152_5, e152_6, e152_9, e152_10, e152_13, e152_15, e152_16, e152_17, e152_20, e152_23, e152_24, e152_28, e152_30, e152_33, e152_34, e152_37, e152_39, e152_40, e152_41, e152_44, e152_47, e152_48, e152_52, e152_53, e152_56, e152_59, e152_62, e152_63, e152_66, e152_68, e152_69, e152_70, e152_71, e152_74, e152_76, e152_77, e152_78, e152_79, e152_82, e152_83, e152_86, e152_87, e152_89, e152_92, e152_95, e152_96, e152_99, e152_100, e152_102, e152_103, e152_107, e152_108, e152_111, e152_114, e152_117, e152_118, e152_120, e152_122, e152_123, e152_124, e152_126, e152_128, e152_131, e152_132, e152_133, e152_135, e152_138, e152_141, e152_144, e152_145, e152_148, e152_149, e152_152, e152_154, e152_157, e152_158, e152_161, e152_163, e152_164, e152_167, e152_168, e152_171, e152_172, e152_175, e152_177, e152_178, e152_179, e152_182, e152_183, e152_185, e152_186, e152_188, e152_189, e152_190, e152_192, e152_194, e152_195, e152_198, e152_199, e152_200, e152_202, e152_203, e152_206, e152_208, e152_209, e152_211, e152_212, e152_213, e152_216, e152_219, e152_222, e152_223, e152_227, e152_228, e152_231, e152_232, e152_236, e152_237, e152_240, e152_241, e152_242, e152_244, e152_246, e152_249, e152_250, e152_252, e152_253, e152_256, e152_259, e152_262, e152_263, e152_266, e152_268, e152_270, e152_273, e152_274, e152_275, e152_278, e152_281, e152_283, e152_284, e152_285, e152_287, e152_288, e152_291, e152_292, e152_293, e152_296, e152_299, e152_302, e152_305, zs0, zsI, zsL, zsR, ztl1, ztl0, zc0, zcI, zcL, zcR, true_and, and_true, true_implies, false_implies, implies_true, not_true_eq_false, not_false_eq_true, and_self, Int.toNat_natCast, Nat.reduceAdd, Nat.reduceLeDiff, Nat.reduceLT, forall_eq', Option.some.injEq, zarR, zarI, zarL, zle, zq0, zq1, zq2, zq3, zq4, zq5, zq6, zq8, zq9, zq10, zq20, zq7, zq12, zq24, zq40, zq41, zq48, zq100, zq120, zq123, zq480, zq492, zq700, zq729, zq2187, zq2916, zq8748, ne_eq, Int.reduceEq, Int.reduceLT, Int.reduceLE, Int.reduceToNat, Int.reduceMul, Int.reduceAdd, Int.reduceNeg, Int.le_refl]
        apply K h3
        · intro c i q1 q2 q3 q4 q5
          rw [m0 c i q5]
          exact f0 c i q1 q2 q3 q4
        · intro s q
          rw [m0 _ _ (by omega)]
          exact f1 s q
        · intro s q
          rw [m0 _ _ (by omega)]
          exact f2 s q
        · intro b q
          rw [m0 _ _ (by omega)]
          exact hE b q
        · exact m1
      | succ js ihs =>
        intro s h3 l5 hs m0 m1
        have c4 : ¬ (4 : Int) ≤ s := by omega
        rw [e152_225]
        simp only [e152_0, e152_1, e152_5, e152_6, e152_9, e152_10, e152_13, e152_15, e152_16, e152_17, e152_20, e152_23, e152_24, e152_28, e152_30, e152_33, e152_34, e152_37, e152_39, e152_40, e152_41, e152_44, e152_47, e152_48, e152_52, e152_53, e152_56, e152_59, e152_62, e152_63, e152_66, e152_68, e152_69, e152_70, e152_71, e152_74, e152_76, e152_77, e152_78, e152_79, e152_82, e152_83, e152_86, e152_87, e152_89, e152_92, e152_95, e152_96, e152_99, e152_100, e152_102, e152_103, e152_107, e152_108, e152_111, e152_114, e152_117, e152_118, e152_120, e152_122, e152_123, e152_124, e152_126, e152_128, e152_131, e152_132, e152_133, e152_135, e152_138, e152_141, e152_144, e152_145, e152_148, e152_149, e152_152, e152_154, e152_157, e152_158, e152_161, e152_163, e152_164, e152_167, e152_168, e152_171, e152_172, e152_175, e152_177, e152_178, e152_179, e152_182, e152_183, e152_185, e152_186, e152_188, e152_189, e152_190, e152_192, e152_194, e152_195, e152_198, e152_199, e152_200, e152_202, e152_203, e152_206, e152_208, e152_209, e152_211, e152_212, e152_213, e152_216, e152_219, e152_222, e152_223, e152_227, e152_228, e152_231, e152_232, e152_236, e152_237, e152_240, e152_241, e152_242, e152_244, e152_246, e152_249, e152_250, e152_252, e152_253, e152_256, e152_259, e152_262, e152_263, e152_266, e152_268, e152_270, e152_273, e152_274, e152_275, e152_278, e152_281, e152_283, e152_284, e152_285, e152_287, e152_288, e152_291, e152_292, e152_293, e152_296, e152_299, e152_302, e152_305, zs0, zsI, zsL, zsR, ztl1, ztl0, zc0, zcI, zcL, zcR, true_and, and_true, true_implies, false_implies, implies_true, not_true_eq_false, not_false_eq_true, and_self, Int.toNat_natCast, Nat.reduceAdd, Nat.reduceLeDiff, Nat.reduceLT, forall_eq', Option.some.injEq, zarR, zarI, zarL, zle, zq0, zq1, zq2, zq3, zq4, zq5, zq6, zq8, zq9, zq10, zq20, zq7, zq12, zq24, zq40, zq41, zq48, zq100, zq120, zq123, zq480, zq492, zq700, zq729, zq2187, zq2916, zq8748, ne_eq, Int.reduceEq, Int.reduceLT, Int.reduceLE, Int.reduceToNat, Int.reduceMul, Int.reduceAdd, Int.reduceNeg, c4]
        apply inn 3 0 s h3 (by omega) (by omega) m0 (fun b' s' q1 q2 => m1 b' s' q1 (by omega))
        intro h4 p0 p1
        simp only [e152_0, e152_1, e152_5, e152_6, e152_9, e152_10, e152_13, e152_15, e152_16, e152_17, e152_20, e152_23, e152_24, e152_28, e152_30, e152_33, e152_34, e152_37, e152_39, e152_40, e152_41, e152_44, e152_47, e152_48, e152_52, e152_53, e152_56, e152_59, e152_62, e152_63, e152_66, e152_68, e152_69, e152_70, e152_71, e152_74, e152_76, e152_77, e152_78, e152_79, e152_82, e152_83, e152_86, e152_87, e152_89, e152_92, e152_95, e152_96, e152_99, e152_100, e152_102, e152_103, e152_107, e152_108, e152_111, e152_114, e152_117, e152_118, e152_120, e152_122, e152_123, e152_124, e152_126, e152_128, e152_131, e152_132, e152_133, e152_135, e152_138, e152_141, e152_144, e152_145, e152_148, e152_149, e152_152, e152_154, e152_157, e152_158, e152_161, e152_163, e152_164, e152_167, e152_168, e152_171, e152_172, e152_175, e152_177, e152_178, e152_179, e152_182, e152_183, e152_185, e152_186, e152_188, e152_189, e152_190, e152_192, e152_194, e152_195, e152_198, e152_199, e152_200, e152_202, e152_203, e152_206, e152_208, e152_209, e152_211, e152_212, e152_213, e152_216, e152_219, e152_222, e152_223, e152_227, e152_228, e152_231, e152_232, e152_236, e152_237, e152_240, e152_241, e152_242, e152_244, e152_246, e152_249, e152_250, e152_252, e152_253, e152_256, e152_259, e152_262, e152_263, e152_266, e152_268, e152_270, e152_273, e152_274, e152_275, e152_278, e152_281, e152_283, e152_284, e152_285, e152_287, e152_288, e152_291, e152_292, e152_293, e152_296, e152_299, e152_302, e152_305, zs0, zsI, zsL, zsR, ztl1, ztl0, zc0, zcI, zcL, zcR, true_and, and_true, true_implies, false_implies, implies_true, not_true_eq_false, not_false_eq_true, and_self, Int.toNat_natCast, Nat.reduceAdd, Nat.reduceLeDiff, Nat.reduceLT, forall_eq', Option.some.injEq, zarR, zarI, zarL, zle, zq0, zq1, zq2, zq3, zq4, zq5, zq6, zq8, zq9, zq10, zq20, zq7, zq12, zq24, zq40, zq41, zq48, zq100, zq120, zq123, zq480, zq492, zq700, zq729, zq2187, zq2916, zq8748, ne_eq, Int.reduceEq, Int.reduceLT, Int.reduceLE, Int.reduceToNat, Int.reduceMul, Int.reduceAdd, Int.reduceNeg, wr_s (show s < 2147483647 by omega)]
        exact ihs (s + 1) h4 _ (by omega) p0 p1
    simp only [e152_0, e152_1, e152_5, e152_6, e152_9, e152_10, e152_13, e152_15, e152_16, e152_17, e152_20, e152_23, e152_24, e152_28, e152_30, e152_33, e152_34, e152_37, e152_39, e152_40, e152_41, e152_44, e152_47, e152_48, e152_52, e152_53, e152_56, e152_59, e152_62, e152_63, e152_66, e152_68, e152_69, e152_70, e152_71, e152_74, e152_76, e152_77, e152_78, e152_79, e152_82, e152_83, e152_86, e152_87, e152_89, e152_92, e152_95, e152_96, e152_99, e152_100, e152_102, e152_103, e152_107, e152_108, e152_111, e152_114, e152_117, e152_118, e152_120, e152_122, e152_123, e152_124, e152_126, e152_128, e152_131, e152_132, e152_133, e152_135, e152_138, e152_141, e152_144, e152_145, e152_148, e152_149, e152_152, e152_154, e152_157, e152_158, e152_161, e152_163, e152_164, e152_167, e152_168, e152_171, e152_172, e152_175, e152_177, e152_178, e152_179, e152_182, e152_183, e152_185, e152_186, e152_188, e152_189, e152_190, e152_192, e152_194, e152_195, e152_198, e152_199, e152_200, e152_202, e152_203, e152_206, e152_208, e152_209, e152_211, e152_212, e152_213, e152_216, e152_219, e152_222, e152_223, e152_227, e152_228, e152_231, e152_232, e152_236, e152_237, e152_240, e152_241, e152_242, e152_244, e152_246, e152_249, e152_250, e152_252, e152_253, e152_256, e152_259, e152_262, e152_263, e152_266, e152_268, e152_270, e152_273, e152_274, e152_275, e152_278, e152_281, e152_283, e152_284, e152_285, e152_287, e152_288, e152_291, e152_292, e152_293, e152_296, e152_299, e152_302, e152_305, zs0, zsI, zsL, zsR, ztl1, ztl0, zc0, zcI, zcL, zcR, true_and, and_true, true_implies, false_implies, implies_true, not_true_eq_false, not_false_eq_true, and_self, Int.toNat_natCast, Nat.reduceAdd, Nat.reduceLeDiff, Nat.reduceLT, forall_eq', Option.some.injEq, zarR, zarI, zarL, zle, zq0, zq1, zq2, zq3, zq4, zq5, zq6, zq8, zq9, zq10, zq20, zq7, zq12, zq24, zq40, zq41, zq48, zq100, zq120, zq123, zq480, zq492, zq700, zq729, zq2187, zq2916, zq8748, ne_eq, Int.reduceEq, Int.reduceLT, Int.reduceLE, Int.reduceToNat, Int.reduceMul, Int.reduceAdd, Int.reduceNeg]
    exact out 4 0 h2 _ (by omega) (fun _ _ _ => rfl) (fun b' s' _ q => by omega)
  -- the sorts
  have srt : ∀ j s (h1 : zM) (l5 l6 : Option zV), s + j = nS T → gI T own oth n (aTo T own oth) h h1 s → (∀ b, b < 3 → h1 96 b = aEarS T own oth n (aTo T own oth) b s) → (∀ b s', b < 3 → s ≤ s' → s' < 4 → h1 99 (3 * s' + b) = 0) → zE 152 (d + 6) Q 50 [some (zR (some 91)), some (zR (some r)), some (zI a), some (zI z), some (zI s), l5, l6] [] G h1 (0, 0) := by
    intro j
    induction j with
    | zero =>
      intro s h1 l5 l6 hs hI hE hZ
      have hs' : s = nS T := by omega
      subst hs'
      have e1 : h1 u 1 = (nS T : Int) := by rw [hI.1 _ _ (by omega) (by omega) (by omega) (by omega)]; exact hV.2.1
      rw [e152_50]
      simp only [e152_0, e152_1, e152_5, e152_6, e152_9, e152_10, e152_13, e152_15, e152_16, e152_17, e152_20, e152_23, e152_24, e152_28, e152_30, e152_33, e152_34, e152_37, e152_39, e152_40, e152_41, e152_44, e152_47, e152_48, e152_52, e152_53, e152_56, e152_59, e152_62, e152_63, e152_66, e152_68, e152_69, e152_70, e152_71, e152_74, e152_76, e152_77, e152_78, e152_79, e152_82, e152_83, e152_86, e152_87, e152_89, e152_92, e152_95, e152_96, e152_99, e152_100, e152_102, e152_103, e152_107, e152_108, e152_111, e152_114, e152_117, e152_118, e152_120, e152_122, e152_123, e152_124, e152_126, e152_128, e152_131, e152_132, e152_133, e152_135, e152_138, e152_141, e152_144, e152_145, e152_148, e152_149, e152_152, e152_154, e152_157, e152_158, e152_161, e152_163, e152_164, e152_167, e152_168, e152_171, e152_172, e152_175, e152_177, e152_178, e152_179, e152_182, e152_183, e152_185, e152_186, e152_188, e152_189, e152_190, e152_192, e152_194, e152_195, e152_198, e152_199, e152_200, e152_202, e152_203, e152_206, e152_208, e152_209, e152_211, e152_212, e152_213, e152_216, e152_219, e152_223, e152_227, e152_228, e152_231, e152_232, e152_236, e152_237, e152_240, e152_241, e152_242, e152_244, e152_246, e152_249, e152_250, e152_252, e152_253, e152_256, e152_259, e152_262, e152_263, e152_266, e152_268, e152_270, e152_273, e152_274, e152_275, e152_278, e152_281, e152_283, e152_284, e152_285, e152_287, e152_288, e152_291, e152_292, e152_293, e152_296, e152_299, e152_302, e152_305, zs0, zsI, zsL, zsR, ztl1, ztl0, zc0, zcI, zcL, zcR, true_and, and_true, true_implies, false_implies, implies_true, not_true_eq_false, not_false_eq_true, and_self, Int.toNat_natCast, Nat.reduceAdd, Nat.reduceLeDiff, Nat.reduceLT, forall_eq', Option.some.injEq, zarR, zarI, zarL, zle, zq0, zq1, zq2, zq3, zq4, zq5, zq6, zq8, zq9, zq10, zq20, zq7, zq12, zq24, zq40, zq41, zq48, zq100, zq120, zq123, zq480, zq492, zq700, zq729, zq2187, zq2916, zq8748, ne_eq, Int.reduceEq, Int.reduceLT, Int.reduceLE, Int.reduceToNat, Int.reduceMul, Int.reduceAdd, Int.reduceNeg, gk91 hg, gr91_5 hg, gr91_22 hg, gr91_23 hg, gr91_24 hg, gr91_25 hg, gr91_26 hg, gr91_27 hg, gr91_28 hg, gr91_29 hg, gr91_32 hg, gr91_33 hg, gr91_34 hg, gr91_35 hg, gr91_36 hg, gr91_37 hg, gr91_38 hg, gr91_39 hg, gr91_40 hg, gr91_41 hg, gr91_42 hg, gr91_44 hg, gr91_45 hg, gr91_46 hg, gr91_48 hg, gr91_49 hg, gr91_50 hg, gr91_51 hg, gr91_52 hg, hu, e1, Int.le_refl]
      exact wrt h1 _ _ _ hI hE
    | succ j ih =>
      intro s h1 l5 l6 hs hI hE hZ
      have hs4 : s < 4 := by omega
      have s4 : (s : Int) < 4 := by omega
      have hss : s < nS T := by omega
      have c : ¬ (nS T : Int) ≤ s := by omega
      have e1 : h1 u 1 = (nS T : Int) := by rw [hI.1 _ _ (by omega) (by omega) (by omega) (by omega)]; exact hV.2.1
      have n3 := nOk1 hn s 3 (by omega)
      have n4 := nOk1 hn s 4 (by omega)
      have t5 := aSum5 (n := n) s
      have t5' := hn.2 s
      have t3 := aSum3 (n := n) s
      have h0s := hn.1 s 0
      have h1s := hn.1 s 1
      have h2s := hn.1 s 2
      have vV : ∀ h2 : zM, gI T own oth n (aTo T own oth) h h2 s → rV h2 u T ∧ (∀ t, t < nB T → h2 94 t = own t) ∧ (∀ t, t < nB T → h2 95 t = oth t) := fun h2 hI2 => ⟨rV_frame hV (fun c i q => hI2.1 c i (by omega) (by omega) (by omega) (by omega)) (fun i => hI2.1 _ _ (by decide) (by decide) (by decide) (by decide)) (fun i _ _ => hI2.1 _ _ (by decide) (by decide) (by decide) (by decide)), fun t ht => by rw [hI2.1 _ _ (by decide) (by decide) (by decide) (by decide)]; exact ho t ht, fun t ht => by rw [hI2.1 _ _ (by decide) (by decide) (by decide) (by decide)]; exact hh t ht⟩
      -- the new ones
      have news : ∀ (h2 : zM) (l6 : Option zV), gJ T own oth n (aTo T own oth) h h2 s (aLeft n (aTo T own oth) s 3) (aPaid own oth n (aTo T own oth) s 3) (fun b => aEar T own oth n (aTo T own oth) b s 3) (fun b => aCame n (aTo T own oth) b s 3) → zE 152 (d + 6) Q 144 [some (zR (some 91)), some (zR (some r)), some (zI a), some (zI z), some (zI s), some (zI (tr T 7 s)), l6] [] G h2 (0, 0) := by
        intro h2 l6 hJ
        have hJ' := hJ
        obtain ⟨hI2, f4, f5, f6, f7, f8⟩ := hJ'
        have e19 : h2 91 19 = h 91 19 := hI2.1 _ _ (by decide) (by decide) (by decide) (by decide)
        have e100 : h2 100 s = h 100 s := hI2.1 _ _ (by decide) (by decide) (by decide) (by decide)
        have hf100 := hfr s hss
        have go : zE 152 (d + 6) Q 186 [some (zR (some 91)), some (zR (some r)), some (zI a), some (zI z), some (zI s), some (zI (tr T 7 s)), l6] [zI (n s 4)] G h2 (0, 0) := by
          obtain ⟨hV2, ho2, hh2⟩ := vV h2 hI2
          have g1 := aLeft_b (to := aTo T own oth) hn s 3 (by omega)
          have g2 := aPaid_t (to := aTo T own oth) hn bo bn s 3
          simp only [e152_0, e152_1, e152_5, e152_6, e152_9, e152_10, e152_13, e152_15, e152_16, e152_17, e152_20, e152_23, e152_24, e152_28, e152_30, e152_33, e152_34, e152_37, e152_39, e152_40, e152_41, e152_44, e152_47, e152_48, e152_52, e152_53, e152_56, e152_59, e152_62, e152_63, e152_66, e152_68, e152_69, e152_70, e152_71, e152_74, e152_76, e152_77, e152_78, e152_79, e152_82, e152_83, e152_86, e152_87, e152_89, e152_92, e152_95, e152_96, e152_99, e152_100, e152_102, e152_103, e152_107, e152_108, e152_111, e152_114, e152_117, e152_118, e152_120, e152_122, e152_123, e152_124, e152_126, e152_128, e152_131, e152_132, e152_133, e152_135, e152_138, e152_141, e152_144, e152_145, e152_148, e152_149, e152_152, e152_154, e152_157, e152_158, e152_161, e152_163, e152_164, e152_167, e152_168, e152_171, e152_172, e152_175, e152_177, e152_178, e152_179, e152_182, e152_183, e152_185, e152_186, e152_188, e152_189, e152_190, e152_192, e152_194, e152_195, e152_198, e152_199, e152_200, e152_202, e152_203, e152_206, e152_208, e152_209, e152_211, e152_212, e152_213, e152_216, e152_219, e152_222, e152_223, e152_227, e152_228, e152_231, e152_232, e152_236, e152_237, e152_240, e152_241, e152_242, e152_244, e152_246, e152_249, e152_250, e152_252, e152_253, e152_256, e152_259, e152_262, e152_263, e152_266, e152_268, e152_270, e152_273, e152_274, e152_275, e152_278, e152_281, e152_283, e152_284, e152_285, e152_287, e152_288, e152_291, e152_292, e152_293, e152_296, e152_299, e152_302, e152_305, zs0, zsI, zsL, zsR, ztl1, ztl0, zc0, zcI, zcL, zcR, true_and, and_true, true_implies, false_implies, implies_true, not_true_eq_false, not_false_eq_true, and_self, Int.toNat_natCast, Nat.reduceAdd, Nat.reduceLeDiff, Nat.reduceLT, forall_eq', Option.some.injEq, zarR, zarI, zarL, zle, zq0, zq1, zq2, zq3, zq4, zq5, zq6, zq8, zq9, zq10, zq20, zq7, zq12, zq24, zq40, zq41, zq48, zq100, zq120, zq123, zq480, zq492, zq700, zq729, zq2187, zq2916, zq8748, ne_eq, Int.reduceEq, Int.reduceLT, Int.reduceLE, Int.reduceToNat, Int.reduceMul, Int.reduceAdd, Int.reduceNeg, gk91 hg, gr91_5 hg, gr91_22 hg, gr91_23 hg, gr91_24 hg, gr91_25 hg, gr91_26 hg, gr91_27 hg, gr91_28 hg, gr91_29 hg, gr91_32 hg, gr91_33 hg, gr91_34 hg, gr91_35 hg, gr91_36 hg, gr91_37 hg, gr91_38 hg, gr91_39 hg, gr91_40 hg, gr91_41 hg, gr91_42 hg, gr91_44 hg, gr91_45 hg, gr91_46 hg, gr91_48 hg, gr91_49 hg, gr91_50 hg, gr91_51 hg, gr91_52 hg]
          apply m_chooses (d := d) (T := T) (own := own) (oth := oth) (f := 3) (t := aTo T own oth s 4) hg hu hV2 hw (by decide) hss (Or.inr rfl) ho2 hh2 bo bn (by rfl) n4
          · rw [f4]
            omega
          · rw [f5]
            omega
          · intro q
            rw [f6 _ q]
            dsimp only
            have g3 := aEarS_t (to := aTo T own oth) hw hn bo bn (aTo T own oth s 4) s
            have g4 := aEar_t (to := aTo T own oth) hw hn bo bn (aTo T own oth s 4) s 3
            omega
          · intro q
            rw [f7 _ q]
            dsimp only
            have g3 := aCame_b (to := aTo T own oth) hn (aTo T own oth s 4) s 3 (by omega)
            omega
          · intro h3 m0 m1 m2 m3 m4
            have hK := gJ_step hJ m0 m1 m2 m3 m4
            have hK' := hK
            obtain ⟨hI3, p4, p5, p6, p7, p8⟩ := hK'
            obtain ⟨hV3, ho3, hh3⟩ := vV h3 hI3
            have e100' : h3 100 s = h 100 s := hI3.1 _ _ (by decide) (by decide) (by decide) (by decide)
            have pr4 := yPr_b bo bn 3 (aTo T own oth s 4)
            have mp4 := mulb n4.1 (Int.le_refl _) pr4.1 pr4.2 (by decide) (by decide)
            have q3 := hp3 s hss
            simp only [e152_0, e152_1, e152_5, e152_6, e152_9, e152_10, e152_13, e152_15, e152_16, e152_17, e152_20, e152_23, e152_24, e152_28, e152_30, e152_33, e152_34, e152_37, e152_39, e152_40, e152_41, e152_44, e152_47, e152_48, e152_52, e152_53, e152_56, e152_59, e152_62, e152_63, e152_66, e152_68, e152_69, e152_70, e152_71, e152_74, e152_76, e152_77, e152_78, e152_79, e152_82, e152_83, e152_86, e152_87, e152_89, e152_92, e152_95, e152_96, e152_99, e152_100, e152_102, e152_103, e152_107, e152_108, e152_111, e152_114, e152_117, e152_118, e152_120, e152_122, e152_123, e152_124, e152_126, e152_128, e152_131, e152_132, e152_133, e152_135, e152_138, e152_141, e152_144, e152_145, e152_148, e152_149, e152_152, e152_154, e152_157, e152_158, e152_161, e152_163, e152_164, e152_167, e152_168, e152_171, e152_172, e152_175, e152_177, e152_178, e152_179, e152_182, e152_183, e152_185, e152_186, e152_188, e152_189, e152_190, e152_192, e152_194, e152_195, e152_198, e152_199, e152_200, e152_202, e152_203, e152_206, e152_208, e152_209, e152_211, e152_212, e152_213, e152_216, e152_219, e152_222, e152_223, e152_227, e152_228, e152_231, e152_232, e152_236, e152_237, e152_240, e152_241, e152_242, e152_244, e152_246, e152_249, e152_250, e152_252, e152_253, e152_256, e152_259, e152_262, e152_263, e152_266, e152_268, e152_270, e152_273, e152_274, e152_275, e152_278, e152_281, e152_283, e152_284, e152_285, e152_287, e152_288, e152_291, e152_292, e152_293, e152_296, e152_299, e152_302, e152_305, zs0, zsI, zsL, zsR, ztl1, ztl0, zc0, zcI, zcL, zcR, true_and, and_true, true_implies, false_implies, implies_true, not_true_eq_false, not_false_eq_true, and_self, Int.toNat_natCast, Nat.reduceAdd, Nat.reduceLeDiff, Nat.reduceLT, forall_eq', Option.some.injEq, zarR, zarI, zarL, zle, zq0, zq1, zq2, zq3, zq4, zq5, zq6, zq8, zq9, zq10, zq20, zq7, zq12, zq24, zq40, zq41, zq48, zq100, zq120, zq123, zq480, zq492, zq700, zq729, zq2187, zq2916, zq8748, ne_eq, Int.reduceEq, Int.reduceLT, Int.reduceLE, Int.reduceToNat, Int.reduceMul, Int.reduceAdd, Int.reduceNeg, gk91 hg, gr91_5 hg, gr91_22 hg, gr91_23 hg, gr91_24 hg, gr91_25 hg, gr91_26 hg, gr91_27 hg, gr91_28 hg, gr91_29 hg, gr91_32 hg, gr91_33 hg, gr91_34 hg, gr91_35 hg, gr91_36 hg, gr91_37 hg, gr91_38 hg, gr91_39 hg, gr91_40 hg, gr91_41 hg, gr91_42 hg, gr91_44 hg, gr91_45 hg, gr91_46 hg, gr91_48 hg, gr91_49 hg, gr91_50 hg, gr91_51 hg, gr91_52 hg, gk100 hg, gl100 hg, s4, e100']
            rw [wr_id (by omega), ← q3]
            apply m_chooses (d := d) (T := T) (own := own) (oth := oth) (f := 3) (t := aTo T own oth s 3) hg hu hV3 hw (by decide) hss (Or.inr rfl) ho3 hh3 bo bn (by rfl) n3
            · rw [p4, if_neg (by omega)]
              omega
            · rw [p5]
              split <;> omega
            · intro q
              rw [p6 _ q]
              dsimp only
              have g3 := aEarS_t (to := aTo T own oth) hw hn bo bn (aTo T own oth s 3) s
              have g4 := aEar_t (to := aTo T own oth) hw hn bo bn (aTo T own oth s 3) s 3
              have g5 := (hw.2.2.2.2.2 (aTo T own oth s 3)).1
              have g6 := yPr_b bo bn 3 (aTo T own oth s 3)
              have g7 := mulb (p := yPr own oth 3 (aTo T own oth s 3) - tr T 0 (aTo T own oth s 3)) (lo := -199) (hi := 199) n4.1 (Int.le_refl _) (by omega) (by omega) (by decide) (by decide)
              split <;> omega
            · intro q
              rw [p7 _ q]
              dsimp only
              have g3 := aCame_b (to := aTo T own oth) hn (aTo T own oth s 3) s 3 (by omega)
              split <;> omega
            · intro h4 v0 v1 v2 v3 v4
              have hL := gJ_step hK v0 v1 v2 v3 v4
              obtain ⟨hI4, w4, w5, w6, w7, w8⟩ := hL
              simp only [e152_0, e152_1, e152_5, e152_6, e152_9, e152_10, e152_13, e152_15, e152_16, e152_17, e152_20, e152_23, e152_24, e152_28, e152_30, e152_33, e152_34, e152_37, e152_39, e152_40, e152_41, e152_44, e152_47, e152_48, e152_52, e152_53, e152_56, e152_59, e152_62, e152_63, e152_66, e152_68, e152_69, e152_70, e152_71, e152_74, e152_76, e152_77, e152_78, e152_79, e152_82, e152_83, e152_86, e152_87, e152_89, e152_92, e152_95, e152_96, e152_99, e152_100, e152_102, e152_103, e152_107, e152_108, e152_111, e152_114, e152_117, e152_118, e152_120, e152_122, e152_123, e152_124, e152_126, e152_128, e152_131, e152_132, e152_133, e152_135, e152_138, e152_141, e152_144, e152_145, e152_148, e152_149, e152_152, e152_154, e152_157, e152_158, e152_161, e152_163, e152_164, e152_167, e152_168, e152_171, e152_172, e152_175, e152_177, e152_178, e152_179, e152_182, e152_183, e152_185, e152_186, e152_188, e152_189, e152_190, e152_192, e152_194, e152_195, e152_198, e152_199, e152_200, e152_202, e152_203, e152_206, e152_208, e152_209, e152_211, e152_212, e152_213, e152_216, e152_219, e152_222, e152_223, e152_227, e152_228, e152_231, e152_232, e152_236, e152_237, e152_240, e152_241, e152_242, e152_244, e152_246, e152_249, e152_250, e152_252, e152_253, e152_256, e152_259, e152_262, e152_263, e152_266, e152_268, e152_270, e152_273, e152_274, e152_275, e152_278, e152_281, e152_283, e152_284, e152_285, e152_287, e152_288, e152_291, e152_292, e152_293, e152_296, e152_299, e152_302, e152_305, zs0, zsI, zsL, zsR, ztl1, ztl0, zc0, zcI, zcL, zcR, true_and, and_true, true_implies, false_implies, implies_true, not_true_eq_false, not_false_eq_true, and_self, Int.toNat_natCast, Nat.reduceAdd, Nat.reduceLeDiff, Nat.reduceLT, forall_eq', Option.some.injEq, zarR, zarI, zarL, zle, zq0, zq1, zq2, zq3, zq4, zq5, zq6, zq8, zq9, zq10, zq20, zq7, zq12, zq24, zq40, zq41, zq48, zq100, zq120, zq123, zq480, zq492, zq700, zq729, zq2187, zq2916, zq8748, ne_eq, Int.reduceEq, Int.reduceLT, Int.reduceLE, Int.reduceToNat, Int.reduceMul, Int.reduceAdd, Int.reduceNeg, wr_s (show s < 2147483647 by omega)]
              have y34 : ∀ b, b < 3 → yPr own oth 4 b = yPr own oth 3 b := fun b q => by
                unfold yPr
                rw [if_neg (by omega), if_neg (by omega)]
              apply ih (s + 1) h4 _ _ (by omega)
              · refine ⟨hI4.1, ?_, ?_, ?_⟩
                · intro s' q
                  by_cases q2 : s' = s
                  · subst q2
                    rw [w4, if_neg (by omega), if_neg (by omega), aLeft5, Int.add_zero, Int.add_zero]
                  · exact hI4.2.1 s' (by omega)
                · intro s' q
                  by_cases q2 : s' = s
                  · subst q2
                    rw [w5, aPaid5]
                    have tb4 := aCh_b hw (own := own) (oth := oth) (s := s') (far := 1) (f := 3) (Or.inl rfl)
                    have q5 : aTo T own oth s' 4 = aCh T own oth s' 1 3 := rfl
                    by_cases q4 : aTo T own oth s' 4 = 3
                    · rw [if_pos q4, if_pos q4]
                      omega
                    · rw [if_neg q4, if_neg q4, y34 _ (by omega)]
                      omega
                  · exact hI4.2.2.1 s' (by omega)
                · intro b s' q1 q
                  by_cases q2 : s' = s
                  · subst q2
                    rw [w7 b q1, aCame5]
                    dsimp only
                    omega
                  · exact hI4.2.2.2 b s' q1 (by omega)
              · intro b q
                rw [w6 b q, aEarS, aEar5, y34 b q]
                dsimp only
                omega
              · intro b s' q1 q2 q3
                exact w8 b s' q1 (by omega) q3
        have q4 := hp4 s hss
        by_cases hE1 : h 91 19 = -1
        · rw [if_pos hE1] at q4
          by_cases h7 : tr T 7 s = 0
          · rw [if_pos h7] at q4
            rw [q4] at go
            simp only [e152_0, e152_1, e152_5, e152_6, e152_9, e152_10, e152_13, e152_15, e152_16, e152_17, e152_20, e152_23, e152_24, e152_28, e152_30, e152_33, e152_34, e152_37, e152_39, e152_40, e152_41, e152_44, e152_47, e152_48, e152_52, e152_53, e152_56, e152_59, e152_62, e152_63, e152_66, e152_68, e152_69, e152_70, e152_71, e152_74, e152_76, e152_77, e152_78, e152_79, e152_82, e152_83, e152_86, e152_87, e152_89, e152_92, e152_95, e152_96, e152_99, e152_100, e152_102, e152_103, e152_107, e152_108, e152_111, e152_114, e152_117, e152_118, e152_120, e152_122, e152_123, e152_124, e152_126, e152_128, e152_131, e152_132, e152_133, e152_135, e152_138, e152_141, e152_144, e152_145, e152_148, e152_149, e152_152, e152_154, e152_157, e152_158, e152_161, e152_163, e152_164, e152_167, e152_168, e152_171, e152_172, e152_175, e152_177, e152_178, e152_179, e152_182, e152_183, e152_185, e152_188, e152_189, e152_190, e152_192, e152_194, e152_195, e152_198, e152_199, e152_200, e152_202, e152_203, e152_206, e152_208, e152_209, e152_211, e152_212, e152_213, e152_216, e152_219, e152_222, e152_223, e152_227, e152_228, e152_231, e152_232, e152_236, e152_237, e152_240, e152_241, e152_242, e152_244, e152_246, e152_249, e152_250, e152_252, e152_253, e152_256, e152_259, e152_262, e152_263, e152_266, e152_268, e152_270, e152_273, e152_274, e152_275, e152_278, e152_281, e152_283, e152_284, e152_285, e152_287, e152_288, e152_291, e152_292, e152_293, e152_296, e152_299, e152_302, e152_305, zs0, zsI, zsL, zsR, ztl1, ztl0, zc0, zcI, zcL, zcR, true_and, and_true, true_implies, false_implies, implies_true, not_true_eq_false, not_false_eq_true, and_self, Int.toNat_natCast, Nat.reduceAdd, Nat.reduceLeDiff, Nat.reduceLT, forall_eq', Option.some.injEq, zarR, zarI, zarL, zle, zq0, zq1, zq2, zq3, zq4, zq5, zq6, zq8, zq9, zq10, zq20, zq7, zq12, zq24, zq40, zq41, zq48, zq100, zq120, zq123, zq480, zq492, zq700, zq729, zq2187, zq2916, zq8748, ne_eq, Int.reduceEq, Int.reduceLT, Int.reduceLE, Int.reduceToNat, Int.reduceMul, Int.reduceAdd, Int.reduceNeg, gk91 hg, gr91_5 hg, gr91_22 hg, gr91_23 hg, gr91_24 hg, gr91_25 hg, gr91_26 hg, gr91_27 hg, gr91_28 hg, gr91_29 hg, gr91_32 hg, gr91_33 hg, gr91_34 hg, gr91_35 hg, gr91_36 hg, gr91_37 hg, gr91_38 hg, gr91_39 hg, gr91_40 hg, gr91_41 hg, gr91_42 hg, gr91_44 hg, gr91_45 hg, gr91_46 hg, gr91_48 hg, gr91_49 hg, gr91_50 hg, gr91_51 hg, gr91_52 hg, gk100 hg, gl100 hg, e19, hE1, h7] at go ⊢
            exact go
          · rw [if_neg h7] at q4
            rw [q4] at go
            simp only [e152_0, e152_1, e152_5, e152_6, e152_9, e152_10, e152_13, e152_15, e152_16, e152_17, e152_20, e152_23, e152_24, e152_28, e152_30, e152_33, e152_34, e152_37, e152_39, e152_40, e152_41, e152_44, e152_47, e152_48, e152_52, e152_53, e152_56, e152_59, e152_62, e152_63, e152_66, e152_68, e152_69, e152_70, e152_71, e152_74, e152_76, e152_77, e152_78, e152_79, e152_82, e152_83, e152_86, e152_87, e152_89, e152_92, e152_95, e152_96, e152_99, e152_100, e152_102, e152_103, e152_107, e152_108, e152_111, e152_114, e152_117, e152_118, e152_120, e152_122, e152_123, e152_124, e152_126, e152_128, e152_131, e152_132, e152_133, e152_135, e152_138, e152_141, e152_144, e152_145, e152_148, e152_149, e152_152, e152_154, e152_157, e152_158, e152_161, e152_163, e152_164, e152_167, e152_168, e152_171, e152_172, e152_175, e152_177, e152_178, e152_179, e152_182, e152_183, e152_185, e152_188, e152_189, e152_190, e152_192, e152_194, e152_195, e152_198, e152_199, e152_200, e152_202, e152_203, e152_206, e152_208, e152_209, e152_211, e152_212, e152_213, e152_216, e152_219, e152_222, e152_223, e152_227, e152_228, e152_231, e152_232, e152_236, e152_237, e152_240, e152_241, e152_242, e152_244, e152_246, e152_249, e152_250, e152_252, e152_253, e152_256, e152_259, e152_262, e152_263, e152_266, e152_268, e152_270, e152_273, e152_274, e152_275, e152_278, e152_281, e152_283, e152_284, e152_285, e152_287, e152_288, e152_291, e152_292, e152_293, e152_296, e152_299, e152_302, e152_305, zs0, zsI, zsL, zsR, ztl1, ztl0, zc0, zcI, zcL, zcR, true_and, and_true, true_implies, false_implies, implies_true, not_true_eq_false, not_false_eq_true, and_self, Int.toNat_natCast, Nat.reduceAdd, Nat.reduceLeDiff, Nat.reduceLT, forall_eq', Option.some.injEq, zarR, zarI, zarL, zle, zq0, zq1, zq2, zq3, zq4, zq5, zq6, zq8, zq9, zq10, zq20, zq7, zq12, zq24, zq40, zq41, zq48, zq100, zq120, zq123, zq480, zq492, zq700, zq729, zq2187, zq2916, zq8748, ne_eq, Int.reduceEq, Int.reduceLT, Int.reduceLE, Int.reduceToNat, Int.reduceMul, Int.reduceAdd, Int.reduceNeg, gk91 hg, gr91_5 hg, gr91_22 hg, gr91_23 hg, gr91_24 hg, gr91_25 hg, gr91_26 hg, gr91_27 hg, gr91_28 hg, gr91_29 hg, gr91_32 hg, gr91_33 hg, gr91_34 hg, gr91_35 hg, gr91_36 hg, gr91_37 hg, gr91_38 hg, gr91_39 hg, gr91_40 hg, gr91_41 hg, gr91_42 hg, gr91_44 hg, gr91_45 hg, gr91_46 hg, gr91_48 hg, gr91_49 hg, gr91_50 hg, gr91_51 hg, gr91_52 hg, gk100 hg, gl100 hg, e19, hE1, h7, s4, e100]
            exact go
        · rw [if_neg hE1] at q4
          have mb := mulb (p := h 91 19) (lo := 0) (hi := 100) hf100.1 hf100.2 (by omega) hed.2 (by decide) (by decide)
          rw [q4] at go
          simp only [e152_0, e152_1, e152_5, e152_6, e152_9, e152_10, e152_13, e152_15, e152_16, e152_17, e152_20, e152_23, e152_24, e152_28, e152_30, e152_33, e152_34, e152_37, e152_39, e152_40, e152_41, e152_44, e152_47, e152_48, e152_52, e152_53, e152_56, e152_59, e152_62, e152_63, e152_66, e152_68, e152_69, e152_70, e152_71, e152_74, e152_76, e152_77, e152_78, e152_79, e152_82, e152_83, e152_86, e152_87, e152_89, e152_92, e152_95, e152_96, e152_99, e152_100, e152_102, e152_103, e152_107, e152_108, e152_111, e152_114, e152_117, e152_118, e152_120, e152_122, e152_123, e152_124, e152_126, e152_128, e152_131, e152_132, e152_133, e152_135, e152_138, e152_141, e152_144, e152_145, e152_148, e152_149, e152_152, e152_154, e152_157, e152_158, e152_161, e152_163, e152_164, e152_167, e152_168, e152_171, e152_172, e152_175, e152_177, e152_178, e152_179, e152_182, e152_183, e152_185, e152_188, e152_189, e152_190, e152_192, e152_194, e152_195, e152_198, e152_199, e152_200, e152_202, e152_203, e152_206, e152_208, e152_209, e152_211, e152_212, e152_213, e152_216, e152_219, e152_222, e152_223, e152_227, e152_228, e152_231, e152_232, e152_236, e152_237, e152_240, e152_241, e152_242, e152_244, e152_246, e152_249, e152_250, e152_252, e152_253, e152_256, e152_259, e152_262, e152_263, e152_266, e152_268, e152_270, e152_273, e152_274, e152_275, e152_278, e152_281, e152_283, e152_284, e152_285, e152_287, e152_288, e152_291, e152_292, e152_293, e152_296, e152_299, e152_302, e152_305, zs0, zsI, zsL, zsR, ztl1, ztl0, zc0, zcI, zcL, zcR, true_and, and_true, true_implies, false_implies, implies_true, not_true_eq_false, not_false_eq_true, and_self, Int.toNat_natCast, Nat.reduceAdd, Nat.reduceLeDiff, Nat.reduceLT, forall_eq', Option.some.injEq, zarR, zarI, zarL, zle, zq0, zq1, zq2, zq3, zq4, zq5, zq6, zq8, zq9, zq10, zq20, zq7, zq12, zq24, zq40, zq41, zq48, zq100, zq120, zq123, zq480, zq492, zq700, zq729, zq2187, zq2916, zq8748, ne_eq, Int.reduceEq, Int.reduceLT, Int.reduceLE, Int.reduceToNat, Int.reduceMul, Int.reduceAdd, Int.reduceNeg, gk91 hg, gr91_5 hg, gr91_22 hg, gr91_23 hg, gr91_24 hg, gr91_25 hg, gr91_26 hg, gr91_27 hg, gr91_28 hg, gr91_29 hg, gr91_32 hg, gr91_33 hg, gr91_34 hg, gr91_35 hg, gr91_36 hg, gr91_37 hg, gr91_38 hg, gr91_39 hg, gr91_40 hg, gr91_41 hg, gr91_42 hg, gr91_44 hg, gr91_45 hg, gr91_46 hg, gr91_48 hg, gr91_49 hg, gr91_50 hg, gr91_51 hg, gr91_52 hg, gk100 hg, gl100 hg, e19, hE1, s4, e100]
          rw [wr_id (z := h 100 s * h 91 19) (by omega), Int.tdiv_eq_ediv_of_nonneg (by omega), wr_id (by omega)]
          exact go
      -- the bakers
      have bks : ∀ jb k (h2 : zM), k + jb = nB T → gJ T own oth n (aTo T own oth) h h2 s (aLeft n (aTo T own oth) s k) (aPaid own oth n (aTo T own oth) s k) (fun b => aEar T own oth n (aTo T own oth) b s k) (fun b => aCame n (aTo T own oth) b s k) → zE 152 (d + 6) Q 105 [some (zR (some 91)), some (zR (some r)), some (zI a), some (zI z), some (zI s), some (zI (tr T 7 s)), some (zI k)] [] G h2 (0, 0) := by
        intro jb
        induction jb with
        | zero =>
          intro k h2 hk hJ
          have hk' : k = nB T := by omega
          have e0 : h2 u 0 = (nB T : Int) := (vV h2 hJ.1).1.1
          have c5 : (nB T : Int) ≤ k := by omega
          rw [e152_105]
          simp only [e152_0, e152_1, e152_5, e152_6, e152_9, e152_10, e152_13, e152_15, e152_16, e152_17, e152_20, e152_23, e152_24, e152_28, e152_30, e152_33, e152_34, e152_37, e152_39, e152_40, e152_41, e152_44, e152_47, e152_48, e152_52, e152_53, e152_56, e152_59, e152_62, e152_63, e152_66, e152_68, e152_69, e152_70, e152_71, e152_74, e152_76, e152_77, e152_78, e152_79, e152_82, e152_83, e152_86, e152_87, e152_89, e152_92, e152_95, e152_96, e152_99, e152_100, e152_102, e152_103, e152_107, e152_108, e152_111, e152_114, e152_117, e152_118, e152_120, e152_122, e152_123, e152_124, e152_126, e152_128, e152_131, e152_132, e152_133, e152_135, e152_138, e152_141, e152_145, e152_148, e152_149, e152_152, e152_154, e152_157, e152_158, e152_161, e152_163, e152_164, e152_167, e152_168, e152_171, e152_172, e152_175, e152_177, e152_178, e152_179, e152_182, e152_183, e152_185, e152_186, e152_188, e152_189, e152_190, e152_192, e152_194, e152_195, e152_198, e152_199, e152_200, e152_202, e152_203, e152_206, e152_208, e152_209, e152_211, e152_212, e152_213, e152_216, e152_219, e152_222, e152_223, e152_227, e152_228, e152_231, e152_232, e152_236, e152_237, e152_240, e152_241, e152_242, e152_244, e152_246, e152_249, e152_250, e152_252, e152_253, e152_256, e152_259, e152_262, e152_263, e152_266, e152_268, e152_270, e152_273, e152_274, e152_275, e152_278, e152_281, e152_283, e152_284, e152_285, e152_287, e152_288, e152_291, e152_292, e152_293, e152_296, e152_299, e152_302, e152_305, zs0, zsI, zsL, zsR, ztl1, ztl0, zc0, zcI, zcL, zcR, true_and, and_true, true_implies, false_implies, implies_true, not_true_eq_false, not_false_eq_true, and_self, Int.toNat_natCast, Nat.reduceAdd, Nat.reduceLeDiff, Nat.reduceLT, forall_eq', Option.some.injEq, zarR, zarI, zarL, zle, zq0, zq1, zq2, zq3, zq4, zq5, zq6, zq8, zq9, zq10, zq20, zq7, zq12, zq24, zq40, zq41, zq48, zq100, zq120, zq123, zq480, zq492, zq700, zq729, zq2187, zq2916, zq8748, ne_eq, Int.reduceEq, Int.reduceLT, Int.reduceLE, Int.reduceToNat, Int.reduceMul, Int.reduceAdd, Int.reduceNeg, gk91 hg, gr91_5 hg, gr91_22 hg, gr91_23 hg, gr91_24 hg, gr91_25 hg, gr91_26 hg, gr91_27 hg, gr91_28 hg, gr91_29 hg, gr91_32 hg, gr91_33 hg, gr91_34 hg, gr91_35 hg, gr91_36 hg, gr91_37 hg, gr91_38 hg, gr91_39 hg, gr91_40 hg, gr91_41 hg, gr91_42 hg, gr91_44 hg, gr91_45 hg, gr91_46 hg, gr91_48 hg, gr91_49 hg, gr91_50 hg, gr91_51 hg, gr91_52 hg, hu, e0, c5]
          apply news
          by_cases h3 : nB T = 3
          · have h3' : k = 3 := by omega
            rw [h3'] at hJ
            exact hJ
          · have h2' : k = 2 := by omega
            have z2 := hz2 (by omega) s
            have a1 : aLeft n (aTo T own oth) s 3 = aLeft n (aTo T own oth) s k := by
              rw [h2', aLeft, z2]
              split <;> rw [Int.add_zero]
            have a2 : aPaid own oth n (aTo T own oth) s 3 = aPaid own oth n (aTo T own oth) s k := by
              rw [h2', aPaid, z2, Int.zero_mul]
              split <;> rw [Int.add_zero]
            have a3 : (fun b => aEar T own oth n (aTo T own oth) b s 3) = (fun b => aEar T own oth n (aTo T own oth) b s k) := by
              funext b
              rw [h2', aEar, z2, Int.zero_mul]
              split <;> rw [Int.add_zero]
            have a4 : (fun b => aCame n (aTo T own oth) b s 3) = (fun b => aCame n (aTo T own oth) b s k) := by
              funext b
              rw [h2', aCame, z2]
              split <;> rw [Int.add_zero]
            rw [a1, a2, a3, a4]
            exact hJ
        | succ jb ihb =>
          intro k h2 hk hJ
          have hJ' := hJ
          obtain ⟨hI2, f4, f5, f6, f7, f8⟩ := hJ'
          obtain ⟨hV2, ho2, hh2⟩ := vV h2 hI2
          have e0 := hV2.1
          have c5 : ¬ (nB T : Int) ≤ k := by omega
          have er : h2 r (a + (3 * s + k)) = n s k := by rw [hI2.1 _ _ (by omega) (by omega) (by omega) (by omega)]; exact hheld s k hss (by omega)
          have hcl : ∀ (h9 : zM) (Q' : zQ), zRunD ztb zmt' (d + 6) 150 [zI s, zI k] G h9 Q' ↔ Q' (some (zI ((3 * s + k : Nat) : Int))) G h9 := fun h9 Q' => m_cell (d := d + 5) (by omega) (by omega)
          have w2 : ((a + (3 * s + k) : Nat) : Int) < (G.2.2.1 r : Int) := by omega
          have nk := nOk1 hn s k (by omega)
          have sm := aSum_m hn s k (by omega)
          have sb := aSum_b hn s k
          have g1 := aLeft_b (to := aTo T own oth) hn s k (by omega)
          have g2 := aPaid_t (to := aTo T own oth) hn bo bn s k
          have etk : aTo T own oth s k = aCh T own oth s (tr T 7 s) k := by
            unfold aTo
            rw [if_pos (by omega)]
          rw [e152_105]
          simp only [e152_0, e152_1, e152_5, e152_6, e152_9, e152_10, e152_13, e152_15, e152_16, e152_17, e152_20, e152_23, e152_24, e152_28, e152_30, e152_33, e152_34, e152_37, e152_39, e152_40, e152_41, e152_44, e152_47, e152_48, e152_52, e152_53, e152_56, e152_59, e152_62, e152_63, e152_66, e152_68, e152_69, e152_70, e152_71, e152_74, e152_76, e152_77, e152_78, e152_79, e152_82, e152_83, e152_86, e152_87, e152_89, e152_92, e152_95, e152_96, e152_99, e152_100, e152_102, e152_103, e152_107, e152_108, e152_111, e152_114, e152_117, e152_118, e152_120, e152_122, e152_123, e152_124, e152_126, e152_128, e152_131, e152_132, e152_133, e152_135, e152_138, e152_141, e152_144, e152_145, e152_148, e152_149, e152_152, e152_154, e152_157, e152_158, e152_161, e152_163, e152_164, e152_167, e152_168, e152_171, e152_172, e152_175, e152_177, e152_178, e152_179, e152_182, e152_183, e152_185, e152_186, e152_188, e152_189, e152_190, e152_192, e152_194, e152_195, e152_198, e152_199, e152_200, e152_202, e152_203, e152_206, e152_208, e152_209, e152_211, e152_212, e152_213, e152_216, e152_219, e152_222, e152_223, e152_227, e152_228, e152_231, e152_232, e152_236, e152_237, e152_240, e152_241, e152_242, e152_244, e152_246, e152_249, e152_250, e152_252, e152_253, e152_256, e152_259, e152_262, e152_263, e152_266, e152_268, e152_270, e152_273, e152_274, e152_275, e152_278, e152_281, e152_283, e152_284, e152_285, e152_287, e152_288, e152_291, e152_292, e152_293, e152_296, e152_299, e152_302, e152_305, zs0, zsI, zsL, zsR, ztl1, ztl0, zc0, zcI, zcL, zcR, true_and, and_true, true_implies, false_implies, implies_true, not_true_eq_false, not_false_eq_true, and_self, Int.toNat_natCast, Nat.reduceAdd, Nat.reduceLeDiff, Nat.reduceLT, forall_eq', Option.some.injEq, zarR, zarI, zarL, zle, zq0, zq1, zq2, zq3, zq4, zq5, zq6, zq8, zq9, zq10, zq20, zq7, zq12, zq24, zq40, zq41, zq48, zq100, zq120, zq123, zq480, zq492, zq700, zq729, zq2187, zq2916, zq8748, ne_eq, Int.reduceEq, Int.reduceLT, Int.reduceLE, Int.reduceToNat, Int.reduceMul, Int.reduceAdd, Int.reduceNeg, gk91 hg, gr91_5 hg, gr91_22 hg, gr91_23 hg, gr91_24 hg, gr91_25 hg, gr91_26 hg, gr91_27 hg, gr91_28 hg, gr91_29 hg, gr91_32 hg, gr91_33 hg, gr91_34 hg, gr91_35 hg, gr91_36 hg, gr91_37 hg, gr91_38 hg, gr91_39 hg, gr91_40 hg, gr91_41 hg, gr91_42 hg, gr91_44 hg, gr91_45 hg, gr91_46 hg, gr91_48 hg, gr91_49 hg, gr91_50 hg, gr91_51 hg, gr91_52 hg, hu, e0, c5, hcl, wrN (z := (a : Int) + ((3 * s + k : Nat) : Int)) (m := a + (3 * s + k)) (by omega) (by omega), w2, k1, er]
          apply m_chooses (d := d) (T := T) (own := own) (oth := oth) (f := k) (t := aTo T own oth s k) hg hu hV2 hw (fI_lt (by omega)) hss (Or.inl (by omega)) ho2 hh2 bo bn etk nk
          · rw [f4]
            omega
          · rw [f5]
            omega
          · intro q
            rw [f6 _ q]
            dsimp only
            have g3 := aEarS_t (to := aTo T own oth) hw hn bo bn (aTo T own oth s k) s
            have g4 := aEar_t (to := aTo T own oth) hw hn bo bn (aTo T own oth s k) s k
            omega
          · intro q
            rw [f7 _ q]
            dsimp only
            have g3 := aCame_b (to := aTo T own oth) hn (aTo T own oth s k) s k (by omega)
            omega
          · intro h3 m0 m1 m2 m3 m4
            simp only [e152_0, e152_1, e152_5, e152_6, e152_9, e152_10, e152_13, e152_15, e152_16, e152_17, e152_20, e152_23, e152_24, e152_28, e152_30, e152_33, e152_34, e152_37, e152_39, e152_40, e152_41, e152_44, e152_47, e152_48, e152_52, e152_53, e152_56, e152_59, e152_62, e152_63, e152_66, e152_68, e152_69, e152_70, e152_71, e152_74, e152_76, e152_77, e152_78, e152_79, e152_82, e152_83, e152_86, e152_87, e152_89, e152_92, e152_95, e152_96, e152_99, e152_100, e152_102, e152_103, e152_107, e152_108, e152_111, e152_114, e152_117, e152_118, e152_120, e152_122, e152_123, e152_124, e152_126, e152_128, e152_131, e152_132, e152_133, e152_135, e152_138, e152_141, e152_144, e152_145, e152_148, e152_149, e152_152, e152_154, e152_157, e152_158, e152_161, e152_163, e152_164, e152_167, e152_168, e152_171, e152_172, e152_175, e152_177, e152_178, e152_179, e152_182, e152_183, e152_185, e152_186, e152_188, e152_189, e152_190, e152_192, e152_194, e152_195, e152_198, e152_199, e152_200, e152_202, e152_203, e152_206, e152_208, e152_209, e152_211, e152_212, e152_213, e152_216, e152_219, e152_222, e152_223, e152_227, e152_228, e152_231, e152_232, e152_236, e152_237, e152_240, e152_241, e152_242, e152_244, e152_246, e152_249, e152_250, e152_252, e152_253, e152_256, e152_259, e152_262, e152_263, e152_266, e152_268, e152_270, e152_273, e152_274, e152_275, e152_278, e152_281, e152_283, e152_284, e152_285, e152_287, e152_288, e152_291, e152_292, e152_293, e152_296, e152_299, e152_302, e152_305, zs0, zsI, zsL, zsR, ztl1, ztl0, zc0, zcI, zcL, zcR, true_and, and_true, true_implies, false_implies, implies_true, not_true_eq_false, not_false_eq_true, and_self, Int.toNat_natCast, Nat.reduceAdd, Nat.reduceLeDiff, Nat.reduceLT, forall_eq', Option.some.injEq, zarR, zarI, zarL, zle, zq0, zq1, zq2, zq3, zq4, zq5, zq6, zq8, zq9, zq10, zq20, zq7, zq12, zq24, zq40, zq41, zq48, zq100, zq120, zq123, zq480, zq492, zq700, zq729, zq2187, zq2916, zq8748, ne_eq, Int.reduceEq, Int.reduceLT, Int.reduceLE, Int.reduceToNat, Int.reduceMul, Int.reduceAdd, Int.reduceNeg, wr_s (show k < 2147483647 by omega)]
            exact ihb (k + 1) h3 (by omega) (gJ_step hJ m0 m1 m2 m3 m4)
      have f7 := hw.2.2.2.2.2 s
      have h7 := f7.2.2.2.2.2.2.2.1
      have start : ∀ l6, zE 152 (d + 6) Q 102 [some (zR (some 91)), some (zR (some r)), some (zI a), some (zI z), some (zI s), some (zI (tr T 7 s)), l6] [] G (zu (zu h1 97 s 0) 98 s 0) (0, 0) := by
        intro l6
        simp only [e152_0, e152_1, e152_5, e152_6, e152_9, e152_10, e152_13, e152_15, e152_16, e152_17, e152_20, e152_23, e152_24, e152_28, e152_30, e152_33, e152_34, e152_37, e152_39, e152_40, e152_41, e152_44, e152_47, e152_48, e152_52, e152_53, e152_56, e152_59, e152_62, e152_63, e152_66, e152_68, e152_69, e152_70, e152_71, e152_74, e152_76, e152_77, e152_78, e152_79, e152_82, e152_83, e152_86, e152_87, e152_89, e152_92, e152_95, e152_96, e152_99, e152_100, e152_102, e152_103, e152_107, e152_108, e152_111, e152_114, e152_117, e152_118, e152_120, e152_122, e152_123, e152_124, e152_126, e152_128, e152_131, e152_132, e152_133, e152_135, e152_138, e152_141, e152_144, e152_145, e152_148, e152_149, e152_152, e152_154, e152_157, e152_158, e152_161, e152_163, e152_164, e152_167, e152_168, e152_171, e152_172, e152_175, e152_177, e152_178, e152_179, e152_182, e152_183, e152_185, e152_186, e152_188, e152_189, e152_190, e152_192, e152_194, e152_195, e152_198, e152_199, e152_200, e152_202, e152_203, e152_206, e152_208, e152_209, e152_211, e152_212, e152_213, e152_216, e152_219, e152_222, e152_223, e152_227, e152_228, e152_231, e152_232, e152_236, e152_237, e152_240, e152_241, e152_242, e152_244, e152_246, e152_249, e152_250, e152_252, e152_253, e152_256, e152_259, e152_262, e152_263, e152_266, e152_268, e152_270, e152_273, e152_274, e152_275, e152_278, e152_281, e152_283, e152_284, e152_285, e152_287, e152_288, e152_291, e152_292, e152_293, e152_296, e152_299, e152_302, e152_305, zs0, zsI, zsL, zsR, ztl1, ztl0, zc0, zcI, zcL, zcR, true_and, and_true, true_implies, false_implies, implies_true, not_true_eq_false, not_false_eq_true, and_self, Int.toNat_natCast, Nat.reduceAdd, Nat.reduceLeDiff, Nat.reduceLT, forall_eq', Option.some.injEq, zarR, zarI, zarL, zle, zq0, zq1, zq2, zq3, zq4, zq5, zq6, zq8, zq9, zq10, zq20, zq7, zq12, zq24, zq40, zq41, zq48, zq100, zq120, zq123, zq480, zq492, zq700, zq729, zq2187, zq2916, zq8748, ne_eq, Int.reduceEq, Int.reduceLT, Int.reduceLE, Int.reduceToNat, Int.reduceMul, Int.reduceAdd, Int.reduceNeg]
        apply bks (nB T) 0 _ (by omega)
        refine ⟨⟨?_, ?_, ?_, ?_⟩, ?_, ?_, ?_, ?_, ?_⟩
        · intro c i q1 q2 q3 q4
          rw [zu_c q3, zu_c q2]
          exact hI.1 c i q1 q2 q3 q4
        · intro s' q
          rw [zu_i (by omega), zu_c (by decide)]
          exact hI.2.1 s' q
        · intro s' q
          rw [zu_c (by decide), zu_i (by omega)]
          exact hI.2.2.1 s' q
        · intro b s' q1 q
          rw [zu_c (by decide), zu_c (by decide)]
          exact hI.2.2.2 b s' q1 q
        · rw [zu_at]
          rfl
        · rw [zu_c (by decide), zu_at]
          rfl
        · intro b q
          rw [zu_c (by decide), zu_c (by decide), hE b q]
          dsimp only
          rw [aEar, Int.add_zero]
        · intro b q
          rw [zu_c (by decide), zu_c (by decide), hZ b s q (Nat.le_refl s) hs4]
          rfl
        · intro b s' q1 q2 q3
          rw [zu_c (by decide), zu_c (by decide)]
          exact hZ b s' q1 (by omega) q3
      have e19 : h1 91 19 = h 91 19 := hI.1 _ _ (by decide) (by decide) (by decide) (by decide)
      have ev := hV.2.2.2.2.2.2.2.2.2.2.2.2.1 s hss
      have e9 : ∀ i, h1 (u + 9) i = h (u + 9) i := fun i => hI.1 _ _ (by omega) (by omega) (by omega) (by omega)
      have e18 : h1 91 18 = h 91 18 := hI.1 _ _ (by decide) (by decide) (by decide) (by decide)
      have hlk : ∀ (h9 : zM) (_ : h9 (u + 9) s = h (u + 9) s) (_ : h9 91 18 = h 91 18) (Q' : zQ), zRunD ztb zmt' (d + 6) 144 [zR (some 91), zI s] G h9 Q' ↔ Q' (some (zI (rFar (h 91 18) (h (u + 9) s)))) G h9 := fun h9 p1 p2 Q' => by
        have := m_looks (d := d + 5) (Q := Q') (h := h9) hg hu hs4 (by rw [p1]; exact ev.2)
        rw [p1, p2] at this
        exact this
      have hlk' := hlk (zu (zu h1 97 s 0) 98 s 0) (by rw [zu_c (by omega), zu_c (by omega)]; exact e9 s) (by rw [zu_c (by omega), zu_c (by omega)]; exact e18)
      rw [e152_50]
      by_cases hE1 : h 91 19 = -1
      · rw [if_pos hE1] at ev
        rcases h7 with h7 | h7
        · rw [h7] at ev start
          simp only [e152_0, e152_1, e152_5, e152_6, e152_9, e152_10, e152_13, e152_15, e152_16, e152_17, e152_20, e152_23, e152_24, e152_28, e152_30, e152_33, e152_34, e152_37, e152_39, e152_40, e152_41, e152_44, e152_47, e152_48, e152_52, e152_53, e152_56, e152_59, e152_62, e152_63, e152_66, e152_68, e152_69, e152_70, e152_71, e152_74, e152_76, e152_77, e152_78, e152_79, e152_82, e152_83, e152_86, e152_87, e152_89, e152_92, e152_95, e152_96, e152_99, e152_100, e152_103, e152_107, e152_108, e152_111, e152_114, e152_117, e152_118, e152_120, e152_122, e152_123, e152_124, e152_126, e152_128, e152_131, e152_132, e152_133, e152_135, e152_138, e152_141, e152_144, e152_145, e152_148, e152_149, e152_152, e152_154, e152_157, e152_158, e152_161, e152_163, e152_164, e152_167, e152_168, e152_171, e152_172, e152_175, e152_177, e152_178, e152_179, e152_182, e152_183, e152_185, e152_186, e152_188, e152_189, e152_190, e152_192, e152_194, e152_195, e152_198, e152_199, e152_200, e152_202, e152_203, e152_206, e152_208, e152_209, e152_211, e152_212, e152_213, e152_216, e152_219, e152_222, e152_223, e152_227, e152_228, e152_231, e152_232, e152_236, e152_237, e152_240, e152_241, e152_242, e152_244, e152_246, e152_249, e152_250, e152_252, e152_253, e152_256, e152_259, e152_262, e152_263, e152_266, e152_268, e152_270, e152_273, e152_274, e152_275, e152_278, e152_281, e152_283, e152_284, e152_285, e152_287, e152_288, e152_291, e152_292, e152_293, e152_296, e152_299, e152_302, e152_305, zs0, zsI, zsL, zsR, ztl1, ztl0, zc0, zcI, zcL, zcR, true_and, and_true, true_implies, false_implies, implies_true, not_true_eq_false, not_false_eq_true, and_self, Int.toNat_natCast, Nat.reduceAdd, Nat.reduceLeDiff, Nat.reduceLT, forall_eq', Option.some.injEq, zarR, zarI, zarL, zle, zq0, zq1, zq2, zq3, zq4, zq5, zq6, zq8, zq9, zq10, zq20, zq7, zq12, zq24, zq40, zq41, zq48, zq100, zq120, zq123, zq480, zq492, zq700, zq729, zq2187, zq2916, zq8748, ne_eq, Int.reduceEq, Int.reduceLT, Int.reduceLE, Int.reduceToNat, Int.reduceMul, Int.reduceAdd, Int.reduceNeg, gk91 hg, gr91_5 hg, gr91_22 hg, gr91_23 hg, gr91_24 hg, gr91_25 hg, gr91_26 hg, gr91_27 hg, gr91_28 hg, gr91_29 hg, gr91_32 hg, gr91_33 hg, gr91_34 hg, gr91_35 hg, gr91_36 hg, gr91_37 hg, gr91_38 hg, gr91_39 hg, gr91_40 hg, gr91_41 hg, gr91_42 hg, gr91_44 hg, gr91_45 hg, gr91_46 hg, gr91_48 hg, gr91_49 hg, gr91_50 hg, gr91_51 hg, gr91_52 hg, gk97 hg, gl97 hg, gk98 hg, gl98 hg, hu, e1, c, s4, zu_c (show ¬ 91 = 97 by decide), zu_c (show ¬ 91 = 98 by decide), e19, hE1, hlk', ev.1]
          exact start _
        · rw [h7] at ev start
          simp only [e152_0, e152_1, e152_5, e152_6, e152_9, e152_10, e152_13, e152_15, e152_16, e152_17, e152_20, e152_23, e152_24, e152_28, e152_30, e152_33, e152_34, e152_37, e152_39, e152_40, e152_41, e152_44, e152_47, e152_48, e152_52, e152_53, e152_56, e152_59, e152_62, e152_63, e152_66, e152_68, e152_69, e152_70, e152_71, e152_74, e152_76, e152_77, e152_78, e152_79, e152_82, e152_83, e152_86, e152_87, e152_89, e152_92, e152_95, e152_96, e152_99, e152_100, e152_103, e152_107, e152_108, e152_111, e152_114, e152_117, e152_118, e152_120, e152_122, e152_123, e152_124, e152_126, e152_128, e152_131, e152_132, e152_133, e152_135, e152_138, e152_141, e152_144, e152_145, e152_148, e152_149, e152_152, e152_154, e152_157, e152_158, e152_161, e152_163, e152_164, e152_167, e152_168, e152_171, e152_172, e152_175, e152_177, e152_178, e152_179, e152_182, e152_183, e152_185, e152_186, e152_188, e152_189, e152_190, e152_192, e152_194, e152_195, e152_198, e152_199, e152_200, e152_202, e152_203, e152_206, e152_208, e152_209, e152_211, e152_212, e152_213, e152_216, e152_219, e152_222, e152_223, e152_227, e152_228, e152_231, e152_232, e152_236, e152_237, e152_240, e152_241, e152_242, e152_244, e152_246, e152_249, e152_250, e152_252, e152_253, e152_256, e152_259, e152_262, e152_263, e152_266, e152_268, e152_270, e152_273, e152_274, e152_275, e152_278, e152_281, e152_283, e152_284, e152_285, e152_287, e152_288, e152_291, e152_292, e152_293, e152_296, e152_299, e152_302, e152_305, zs0, zsI, zsL, zsR, ztl1, ztl0, zc0, zcI, zcL, zcR, true_and, and_true, true_implies, false_implies, implies_true, not_true_eq_false, not_false_eq_true, and_self, Int.toNat_natCast, Nat.reduceAdd, Nat.reduceLeDiff, Nat.reduceLT, forall_eq', Option.some.injEq, zarR, zarI, zarL, zle, zq0, zq1, zq2, zq3, zq4, zq5, zq6, zq8, zq9, zq10, zq20, zq7, zq12, zq24, zq40, zq41, zq48, zq100, zq120, zq123, zq480, zq492, zq700, zq729, zq2187, zq2916, zq8748, ne_eq, Int.reduceEq, Int.reduceLT, Int.reduceLE, Int.reduceToNat, Int.reduceMul, Int.reduceAdd, Int.reduceNeg, gk91 hg, gr91_5 hg, gr91_22 hg, gr91_23 hg, gr91_24 hg, gr91_25 hg, gr91_26 hg, gr91_27 hg, gr91_28 hg, gr91_29 hg, gr91_32 hg, gr91_33 hg, gr91_34 hg, gr91_35 hg, gr91_36 hg, gr91_37 hg, gr91_38 hg, gr91_39 hg, gr91_40 hg, gr91_41 hg, gr91_42 hg, gr91_44 hg, gr91_45 hg, gr91_46 hg, gr91_48 hg, gr91_49 hg, gr91_50 hg, gr91_51 hg, gr91_52 hg, gk97 hg, gl97 hg, gk98 hg, gl98 hg, hu, e1, c, s4, zu_c (show ¬ 91 = 97 by decide), zu_c (show ¬ 91 = 98 by decide), e19, hE1, hlk', ev.1]
          exact start _
      · rw [if_neg hE1] at ev
        rw [← ev.1] at start
        simp only [e152_0, e152_1, e152_5, e152_6, e152_9, e152_10, e152_13, e152_15, e152_16, e152_17, e152_20, e152_23, e152_24, e152_28, e152_30, e152_33, e152_34, e152_37, e152_39, e152_40, e152_41, e152_44, e152_47, e152_48, e152_52, e152_53, e152_56, e152_59, e152_62, e152_63, e152_66, e152_68, e152_69, e152_70, e152_71, e152_74, e152_76, e152_77, e152_78, e152_79, e152_82, e152_83, e152_86, e152_87, e152_89, e152_92, e152_95, e152_96, e152_99, e152_100, e152_103, e152_107, e152_108, e152_111, e152_114, e152_117, e152_118, e152_120, e152_122, e152_123, e152_124, e152_126, e152_128, e152_131, e152_132, e152_133, e152_135, e152_138, e152_141, e152_144, e152_145, e152_148, e152_149, e152_152, e152_154, e152_157, e152_158, e152_161, e152_163, e152_164, e152_167, e152_168, e152_171, e152_172, e152_175, e152_177, e152_178, e152_179, e152_182, e152_183, e152_185, e152_186, e152_188, e152_189, e152_190, e152_192, e152_194, e152_195, e152_198, e152_199, e152_200, e152_202, e152_203, e152_206, e152_208, e152_209, e152_211, e152_212, e152_213, e152_216, e152_219, e152_222, e152_223, e152_227, e152_228, e152_231, e152_232, e152_236, e152_237, e152_240, e152_241, e152_242, e152_244, e152_246, e152_249, e152_250, e152_252, e152_253, e152_256, e152_259, e152_262, e152_263, e152_266, e152_268, e152_270, e152_273, e152_274, e152_275, e152_278, e152_281, e152_283, e152_284, e152_285, e152_287, e152_288, e152_291, e152_292, e152_293, e152_296, e152_299, e152_302, e152_305, zs0, zsI, zsL, zsR, ztl1, ztl0, zc0, zcI, zcL, zcR, true_and, and_true, true_implies, false_implies, implies_true, not_true_eq_false, not_false_eq_true, and_self, Int.toNat_natCast, Nat.reduceAdd, Nat.reduceLeDiff, Nat.reduceLT, forall_eq', Option.some.injEq, zarR, zarI, zarL, zle, zq0, zq1, zq2, zq3, zq4, zq5, zq6, zq8, zq9, zq10, zq20, zq7, zq12, zq24, zq40, zq41, zq48, zq100, zq120, zq123, zq480, zq492, zq700, zq729, zq2187, zq2916, zq8748, ne_eq, Int.reduceEq, Int.reduceLT, Int.reduceLE, Int.reduceToNat, Int.reduceMul, Int.reduceAdd, Int.reduceNeg, gk91 hg, gr91_5 hg, gr91_22 hg, gr91_23 hg, gr91_24 hg, gr91_25 hg, gr91_26 hg, gr91_27 hg, gr91_28 hg, gr91_29 hg, gr91_32 hg, gr91_33 hg, gr91_34 hg, gr91_35 hg, gr91_36 hg, gr91_37 hg, gr91_38 hg, gr91_39 hg, gr91_40 hg, gr91_41 hg, gr91_42 hg, gr91_44 hg, gr91_45 hg, gr91_46 hg, gr91_48 hg, gr91_49 hg, gr91_50 hg, gr91_51 hg, gr91_52 hg, gk97 hg, gl97 hg, gk98 hg, gl98 hg, hu, e1, c, s4, zu_c (show ¬ 91 = 97 by decide), zu_c (show ¬ 91 = 98 by decide), e19, hE1]
        exact start _
  -- the rows are emptied
  have z2 : ∀ (j i : Nat) (h1 : zM), i + j = 12 → (zE 152 (d + 6) Q 26 [some (zR (some 91)), some (zR (some r)), some (zI a), some (zI z), some (zI i), none, none] [] G (zfl h1 99 i 0) (0, 0) ↔ zE 152 (d + 6) Q 47 [some (zR (some 91)), some (zR (some r)), some (zI a), some (zI z), some (zI 12), none, none] [] G (zfl h1 99 12 0) (0, 0)) := by
    intro j
    induction j with
    | zero =>
      intro i h1 hi
      have hi' : i = 12 := by omega
      subst hi'
      rw [e152_26]
      simp only [e152_0, e152_1, e152_5, e152_6, e152_9, e152_10, e152_13, e152_15, e152_16, e152_17, e152_20, e152_23, e152_24, e152_28, e152_30, e152_33, e152_34, e152_37, e152_39, e152_40, e152_41, e152_44, e152_48, e152_52, e152_53, e152_56, e152_59, e152_62, e152_63, e152_66, e152_68, e152_69, e152_70, e152_71, e152_74, e152_76, e152_77, e152_78, e152_79, e152_82, e152_83, e152_86, e152_87, e152_89, e152_92, e152_95, e152_96, e152_99, e152_100, e152_102, e152_103, e152_107, e152_108, e152_111, e152_114, e152_117, e152_118, e152_120, e152_122, e152_123, e152_124, e152_126, e152_128, e152_131, e152_132, e152_133, e152_135, e152_138, e152_141, e152_144, e152_145, e152_148, e152_149, e152_152, e152_154, e152_157, e152_158, e152_161, e152_163, e152_164, e152_167, e152_168, e152_171, e152_172, e152_175, e152_177, e152_178, e152_179, e152_182, e152_183, e152_185, e152_186, e152_188, e152_189, e152_190, e152_192, e152_194, e152_195, e152_198, e152_199, e152_200, e152_202, e152_203, e152_206, e152_208, e152_209, e152_211, e152_212, e152_213, e152_216, e152_219, e152_222, e152_223, e152_227, e152_228, e152_231, e152_232, e152_236, e152_237, e152_240, e152_241, e152_242, e152_244, e152_246, e152_249, e152_250, e152_252, e152_253, e152_256, e152_259, e152_262, e152_263, e152_266, e152_268, e152_270, e152_273, e152_274, e152_275, e152_278, e152_281, e152_283, e152_284, e152_285, e152_287, e152_288, e152_291, e152_292, e152_293, e152_296, e152_299, e152_302, e152_305, zs0, zsI, zsL, zsR, ztl1, ztl0, zc0, zcI, zcL, zcR, true_and, and_true, true_implies, false_implies, implies_true, not_true_eq_false, not_false_eq_true, and_self, Int.toNat_natCast, Nat.reduceAdd, Nat.reduceLeDiff, Nat.reduceLT, forall_eq', Option.some.injEq, zarR, zarI, zarL, zle, zq0, zq1, zq2, zq3, zq4, zq5, zq6, zq8, zq9, zq10, zq20, zq7, zq12, zq24, zq40, zq41, zq48, zq100, zq120, zq123, zq480, zq492, zq700, zq729, zq2187, zq2916, zq8748, ne_eq, Int.reduceEq, Int.reduceLT, Int.reduceLE, Int.reduceToNat, Int.reduceMul, Int.reduceAdd, Int.reduceNeg, Int.le_refl]
    | succ j ih =>
      intro i h1 hi
      have c1 : ¬ (12 : Int) ≤ i := by omega
      have c2 : (i : Int) < 12 := by omega
      rw [e152_26]
      simp only [e152_0, e152_1, e152_5, e152_6, e152_9, e152_10, e152_13, e152_15, e152_16, e152_17, e152_20, e152_23, e152_24, e152_28, e152_30, e152_33, e152_34, e152_37, e152_39, e152_40, e152_41, e152_44, e152_48, e152_52, e152_53, e152_56, e152_59, e152_62, e152_63, e152_66, e152_68, e152_69, e152_70, e152_71, e152_74, e152_76, e152_77, e152_78, e152_79, e152_82, e152_83, e152_86, e152_87, e152_89, e152_92, e152_95, e152_96, e152_99, e152_100, e152_102, e152_103, e152_107, e152_108, e152_111, e152_114, e152_117, e152_118, e152_120, e152_122, e152_123, e152_124, e152_126, e152_128, e152_131, e152_132, e152_133, e152_135, e152_138, e152_141, e152_144, e152_145, e152_148, e152_149, e152_152, e152_154, e152_157, e152_158, e152_161, e152_163, e152_164, e152_167, e152_168, e152_171, e152_172, e152_175, e152_177, e152_178, e152_179, e152_182, e152_183, e152_185, e152_186, e152_188, e152_189, e152_190, e152_192, e152_194, e152_195, e152_198, e152_199, e152_200, e152_202, e152_203, e152_206, e152_208, e152_209, e152_211, e152_212, e152_213, e152_216, e152_219, e152_222, e152_223, e152_227, e152_228, e152_231, e152_232, e152_236, e152_237, e152_240, e152_241, e152_242, e152_244, e152_246, e152_249, e152_250, e152_252, e152_253, e152_256, e152_259, e152_262, e152_263, e152_266, e152_268, e152_270, e152_273, e152_274, e152_275, e152_278, e152_281, e152_283, e152_284, e152_285, e152_287, e152_288, e152_291, e152_292, e152_293, e152_296, e152_299, e152_302, e152_305, zs0, zsI, zsL, zsR, ztl1, ztl0, zc0, zcI, zcL, zcR, true_and, and_true, true_implies, false_implies, implies_true, not_true_eq_false, not_false_eq_true, and_self, Int.toNat_natCast, Nat.reduceAdd, Nat.reduceLeDiff, Nat.reduceLT, forall_eq', Option.some.injEq, zarR, zarI, zarL, zle, zq0, zq1, zq2, zq3, zq4, zq5, zq6, zq8, zq9, zq10, zq20, zq7, zq12, zq24, zq40, zq41, zq48, zq100, zq120, zq123, zq480, zq492, zq700, zq729, zq2187, zq2916, zq8748, ne_eq, Int.reduceEq, Int.reduceLT, Int.reduceLE, Int.reduceToNat, Int.reduceMul, Int.reduceAdd, Int.reduceNeg, gk91 hg, gr91_5 hg, gr91_22 hg, gr91_23 hg, gr91_24 hg, gr91_25 hg, gr91_26 hg, gr91_27 hg, gr91_28 hg, gr91_29 hg, gr91_32 hg, gr91_33 hg, gr91_34 hg, gr91_35 hg, gr91_36 hg, gr91_37 hg, gr91_38 hg, gr91_39 hg, gr91_40 hg, gr91_41 hg, gr91_42 hg, gr91_44 hg, gr91_45 hg, gr91_46 hg, gr91_48 hg, gr91_49 hg, gr91_50 hg, gr91_51 hg, gr91_52 hg, gk99 hg, gl99 hg, c1, c2, zfl_s, wr_s (show i < 2147483647 by omega)]
      exact ih (i + 1) h1 (by omega)
  have z1 : ∀ (j i : Nat), i + j = 3 → (zE 152 (d + 6) Q 3 [some (zR (some 91)), some (zR (some r)), some (zI a), some (zI z), some (zI i), none, none] [] G (zfl h 96 i 0) (0, 0) ↔ zE 152 (d + 6) Q 23 [some (zR (some 91)), some (zR (some r)), some (zI a), some (zI z), some (zI 3), none, none] [] G (zfl h 96 3 0) (0, 0)) := by
    intro j
    induction j with
    | zero =>
      intro i hi
      have hi' : i = 3 := by omega
      subst hi'
      rw [e152_3]
      simp only [e152_0, e152_1, e152_5, e152_6, e152_9, e152_10, e152_13, e152_15, e152_16, e152_17, e152_20, e152_24, e152_28, e152_30, e152_33, e152_34, e152_37, e152_39, e152_40, e152_41, e152_44, e152_47, e152_48, e152_52, e152_53, e152_56, e152_59, e152_62, e152_63, e152_66, e152_68, e152_69, e152_70, e152_71, e152_74, e152_76, e152_77, e152_78, e152_79, e152_82, e152_83, e152_86, e152_87, e152_89, e152_92, e152_95, e152_96, e152_99, e152_100, e152_102, e152_103, e152_107, e152_108, e152_111, e152_114, e152_117, e152_118, e152_120, e152_122, e152_123, e152_124, e152_126, e152_128, e152_131, e152_132, e152_133, e152_135, e152_138, e152_141, e152_144, e152_145, e152_148, e152_149, e152_152, e152_154, e152_157, e152_158, e152_161, e152_163, e152_164, e152_167, e152_168, e152_171, e152_172, e152_175, e152_177, e152_178, e152_179, e152_182, e152_183, e152_185, e152_186, e152_188, e152_189, e152_190, e152_192, e152_194, e152_195, e152_198, e152_199, e152_200, e152_202, e152_203, e152_206, e152_208, e152_209, e152_211, e152_212, e152_213, e152_216, e152_219, e152_222, e152_223, e152_227, e152_228, e152_231, e152_232, e152_236, e152_237, e152_240, e152_241, e152_242, e152_244, e152_246, e152_249, e152_250, e152_252, e152_253, e152_256, e152_259, e152_262, e152_263, e152_266, e152_268, e152_270, e152_273, e152_274, e152_275, e152_278, e152_281, e152_283, e152_284, e152_285, e152_287, e152_288, e152_291, e152_292, e152_293, e152_296, e152_299, e152_302, e152_305, zs0, zsI, zsL, zsR, ztl1, ztl0, zc0, zcI, zcL, zcR, true_and, and_true, true_implies, false_implies, implies_true, not_true_eq_false, not_false_eq_true, and_self, Int.toNat_natCast, Nat.reduceAdd, Nat.reduceLeDiff, Nat.reduceLT, forall_eq', Option.some.injEq, zarR, zarI, zarL, zle, zq0, zq1, zq2, zq3, zq4, zq5, zq6, zq8, zq9, zq10, zq20, zq7, zq12, zq24, zq40, zq41, zq48, zq100, zq120, zq123, zq480, zq492, zq700, zq729, zq2187, zq2916, zq8748, ne_eq, Int.reduceEq, Int.reduceLT, Int.reduceLE, Int.reduceToNat, Int.reduceMul, Int.reduceAdd, Int.reduceNeg, Int.le_refl]
    | succ j ih =>
      intro i hi
      have c1 : ¬ (3 : Int) ≤ i := by omega
      have c2 : (i : Int) < 3 := by omega
      rw [e152_3]
      simp only [e152_0, e152_1, e152_5, e152_6, e152_9, e152_10, e152_13, e152_15, e152_16, e152_17, e152_20, e152_24, e152_28, e152_30, e152_33, e152_34, e152_37, e152_39, e152_40, e152_41, e152_44, e152_47, e152_48, e152_52, e152_53, e152_56, e152_59, e152_62, e152_63, e152_66, e152_68, e152_69, e152_70, e152_71, e152_74, e152_76, e152_77, e152_78, e152_79, e152_82, e152_83, e152_86, e152_87, e152_89, e152_92, e152_95, e152_96, e152_99, e152_100, e152_102, e152_103, e152_107, e152_108, e152_111, e152_114, e152_117, e152_118, e152_120, e152_122, e152_123, e152_124, e152_126, e152_128, e152_131, e152_132, e152_133, e152_135, e152_138, e152_141, e152_144, e152_145, e152_148, e152_149, e152_152, e152_154, e152_157, e152_158, e152_161, e152_163, e152_164, e152_167, e152_168, e152_171, e152_172, e152_175, e152_177, e152_178, e152_179, e152_182, e152_183, e152_185, e152_186, e152_188, e152_189, e152_190, e152_192, e152_194, e152_195, e152_198, e152_199, e152_200, e152_202, e152_203, e152_206, e152_208, e152_209, e152_211, e152_212, e152_213, e152_216, e152_219, e152_222, e152_223, e152_227, e152_228, e152_231, e152_232, e152_236, e152_237, e152_240, e152_241, e152_242, e152_244, e152_246, e152_249, e152_250, e152_252, e152_253, e152_256, e152_259, e152_262, e152_263, e152_266, e152_268, e152_270, e152_273, e152_274, e152_275, e152_278, e152_281, e152_283, e152_284, e152_285, e152_287, e152_288, e152_291, e152_292, e152_293, e152_296, e152_299, e152_302, e152_305, zs0, zsI, zsL, zsR, ztl1, ztl0, zc0, zcI, zcL, zcR, true_and, and_true, true_implies, false_implies, implies_true, not_true_eq_false, not_false_eq_true, and_self, Int.toNat_natCast, Nat.reduceAdd, Nat.reduceLeDiff, Nat.reduceLT, forall_eq', Option.some.injEq, zarR, zarI, zarL, zle, zq0, zq1, zq2, zq3, zq4, zq5, zq6, zq8, zq9, zq10, zq20, zq7, zq12, zq24, zq40, zq41, zq48, zq100, zq120, zq123, zq480, zq492, zq700, zq729, zq2187, zq2916, zq8748, ne_eq, Int.reduceEq, Int.reduceLT, Int.reduceLE, Int.reduceToNat, Int.reduceMul, Int.reduceAdd, Int.reduceNeg, gk91 hg, gr91_5 hg, gr91_22 hg, gr91_23 hg, gr91_24 hg, gr91_25 hg, gr91_26 hg, gr91_27 hg, gr91_28 hg, gr91_29 hg, gr91_32 hg, gr91_33 hg, gr91_34 hg, gr91_35 hg, gr91_36 hg, gr91_37 hg, gr91_38 hg, gr91_39 hg, gr91_40 hg, gr91_41 hg, gr91_42 hg, gr91_44 hg, gr91_45 hg, gr91_46 hg, gr91_48 hg, gr91_49 hg, gr91_50 hg, gr91_51 hg, gr91_52 hg, gk96 hg, gl96 hg, c1, c2, zfl_s, wr_s (show i < 2147483647 by omega)]
      exact ih (i + 1) (by omega)
  have z1' := z1 3 0 (by omega)
  have z2' := z2 12 0 (zfl h 96 3 0) (by omega)
  simp only [zfl_0, zq0] at z1' z2'
  simp only [e152_0, e152_1, e152_5, e152_6, e152_9, e152_10, e152_13, e152_15, e152_16, e152_17, e152_20, zs0, zsI, zsL, zsR, ztl1, ztl0, zc0, zcI, zcL, zcR, true_and, and_true, true_implies, false_implies, implies_true, not_true_eq_false, not_false_eq_true, and_self, Int.toNat_natCast, Nat.reduceAdd, Nat.reduceLeDiff, Nat.reduceLT, forall_eq', Option.some.injEq, zarR, zarI, zarL, zle, zq0, zq1, zq2, zq3, zq4, zq5, zq6, zq8, zq9, zq10, zq20, zq7, zq12, zq24, zq40, zq41, zq48, zq100, zq120, zq123, zq480, zq492, zq700, zq729, zq2187, zq2916, zq8748, ne_eq, Int.reduceEq, Int.reduceLT, Int.reduceLE, Int.reduceToNat, Int.reduceMul, Int.reduceAdd, Int.reduceNeg]
  rw [z1']
  simp only [e152_23, e152_24, e152_28, e152_30, e152_33, e152_34, e152_37, e152_39, e152_40, e152_41, e152_44, zs0, zsI, zsL, zsR, ztl1, ztl0, zc0, zcI, zcL, zcR, true_and, and_true, true_implies, false_implies, implies_true, not_true_eq_false, not_false_eq_true, and_self, Int.toNat_natCast, Nat.reduceAdd, Nat.reduceLeDiff, Nat.reduceLT, forall_eq', Option.some.injEq, zarR, zarI, zarL, zle, zq0, zq1, zq2, zq3, zq4, zq5, zq6, zq8, zq9, zq10, zq20, zq7, zq12, zq24, zq40, zq41, zq48, zq100, zq120, zq123, zq480, zq492, zq700, zq729, zq2187, zq2916, zq8748, ne_eq, Int.reduceEq, Int.reduceLT, Int.reduceLE, Int.reduceToNat, Int.reduceMul, Int.reduceAdd, Int.reduceNeg]
  rw [z2']
  simp only [e152_0, e152_1, e152_5, e152_6, e152_9, e152_10, e152_13, e152_15, e152_16, e152_17, e152_20, e152_23, e152_24, e152_28, e152_30, e152_33, e152_34, e152_37, e152_39, e152_40, e152_41, e152_44, e152_47, e152_48, e152_52, e152_53, e152_56, e152_59, e152_62, e152_63, e152_66, e152_68, e152_69, e152_70, e152_71, e152_74, e152_76, e152_77, e152_78, e152_79, e152_82, e152_83, e152_86, e152_87, e152_89, e152_92, e152_95, e152_96, e152_99, e152_100, e152_102, e152_103, e152_107, e152_108, e152_111, e152_114, e152_117, e152_118, e152_120, e152_122, e152_123, e152_124, e152_126, e152_128, e152_131, e152_132, e152_133, e152_135, e152_138, e152_141, e152_144, e152_145, e152_148, e152_149, e152_152, e152_154, e152_157, e152_158, e152_161, e152_163, e152_164, e152_167, e152_168, e152_171, e152_172, e152_175, e152_177, e152_178, e152_179, e152_182, e152_183, e152_185, e152_186, e152_188, e152_189, e152_190, e152_192, e152_194, e152_195, e152_198, e152_199, e152_200, e152_202, e152_203, e152_206, e152_208, e152_209, e152_211, e152_212, e152_213, e152_216, e152_219, e152_222, e152_223, e152_227, e152_228, e152_231, e152_232, e152_236, e152_237, e152_240, e152_241, e152_242, e152_244, e152_246, e152_249, e152_250, e152_252, e152_253, e152_256, e152_259, e152_262, e152_263, e152_266, e152_268, e152_270, e152_273, e152_274, e152_275, e152_278, e152_281, e152_283, e152_284, e152_285, e152_287, e152_288, e152_291, e152_292, e152_293, e152_296, e152_299, e152_302, e152_305, zs0, zsI, zsL, zsR, ztl1, ztl0, zc0, zcI, zcL, zcR, true_and, and_true, true_implies, false_implies, implies_true, not_true_eq_false, not_false_eq_true, and_self, Int.toNat_natCast, Nat.reduceAdd, Nat.reduceLeDiff, Nat.reduceLT, forall_eq', Option.some.injEq, zarR, zarI, zarL, zle, zq0, zq1, zq2, zq3, zq4, zq5, zq6, zq8, zq9, zq10, zq20, zq7, zq12, zq24, zq40, zq41, zq48, zq100, zq120, zq123, zq480, zq492, zq700, zq729, zq2187, zq2916, zq8748, ne_eq, Int.reduceEq, Int.reduceLT, Int.reduceLE, Int.reduceToNat, Int.reduceMul, Int.reduceAdd, Int.reduceNeg]
  apply srt (nS T) 0 _ _ _ (by omega)
  · refine ⟨?_, ?_, ?_, ?_⟩
    · intro c i q1 q2 q3 q4
      rw [zfl_c q4, zfl_c q1]
    · intro s' q
      omega
    · intro s' q
      omega
    · intro b s' _ q
      omega
  · intro b q
    rw [zfl_c (by decide), zfl_at q]
    rfl
  · intro b s' q1 q2 q3
    rw [zfl_at (by omega)]
end GO
