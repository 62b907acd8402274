/-! what one has of a baker: from f (3: a new one) to t (3: nobody) -/
def aNear (T : aTn) (own oth : Nat → Int) (s f t : Nat) : Int := if t = 3 then 0 else tr T 4 s - (if f = t then own t else oth t) - (if f = t ∨ f = 3 then 0 else if tr T 1 f = tr T 1 t then tr T 5 s / 2 else tr T 5 s)
def aMost (T : aTn) (own oth : Nat → Int) (s f : Nat) : Nat → Int
  | 0 => 0
  | n + 1 => max (aMost T own oth s f n) (aNear T own oth s f n)
def aAh (T : aTn) (own oth : Nat → Int) (s t : Nat) : Int := kp T * aMost T own oth s t (nB T) / 100
def aHas (T : aTn) (own oth : Nat → Int) (s : Nat) (far : Int) (f t : Nat) : Int := aNear T own oth s f t + (if far = 0 then 0 else aAh T own oth s t)
def aChU (T : aTn) (own oth : Nat → Int) (s : Nat) (far : Int) (f : Nat) : Nat → Int × Nat
  | 0 => (aHas T own oth s far f (if f = 3 then 0 else f), if f = 3 then 0 else f)
  | n + 1 => if (aChU T own oth s far f n).1 < aHas T own oth s far f n then (aHas T own oth s far f n, n) else aChU T own oth s far f n
def aCh (T : aTn) (own oth : Nat → Int) (s : Nat) (far : Int) (f : Nat) : Nat := if (aChU T own oth s far f (nB T)).1 < aHas T own oth s far f 3 then 3 else (aChU T own oth s far f (nB T)).2
def bP (p : Nat → Int) : Prop := ∀ i, 0 ≤ p i ∧ p i ≤ 199
theorem aNear_b {T : aTn} (hw : wT T) {own oth : Nat → Int} (ho : bP own) (hn : bP oth) (s f t : Nat) : -298 ≤ aNear T own oth s f t ∧ aNear T own oth s f t ≤ 199 := by
  have h1 := hw.2.2.2.2.2 s
  have h2 := ho t
  have h3 := hn t
  unfold aNear
  split
  · omega
  · split <;> split <;> (try split) <;> omega
theorem aMost_b {T : aTn} (hw : wT T) {own oth : Nat → Int} (ho : bP own) (hn : bP oth) (s f n : Nat) : 0 ≤ aMost T own oth s f n ∧ aMost T own oth s f n ≤ 199 := by
  induction n with
  | zero => exact ⟨Int.le_refl 0, (by decide : (0 : Int) ≤ 199)⟩
  | succ n ih =>
    have h1 := aNear_b hw ho hn s f n
    unfold aMost
    omega
theorem aAh_b {T : aTn} (hw : wT T) {own oth : Nat → Int} (ho : bP own) (hn : bP oth) (s t : Nat) : 0 ≤ aAh T own oth s t ∧ aAh T own oth s t ≤ 199 := by
  have h1 := aMost_b hw ho hn s t (nB T)
  have h2 := hw.2.2.2.2.1
  unfold aAh
  have h3 : 0 ≤ kp T * aMost T own oth s t (nB T) := Int.mul_nonneg h2.1 h1.1
  have h4 : kp T * aMost T own oth s t (nB T) ≤ 100 * 199 := Int.mul_le_mul h2.2 h1.2 h1.1 (by decide)
  omega
theorem aHas_b {T : aTn} (hw : wT T) {own oth : Nat → Int} (ho : bP own) (hn : bP oth) (s : Nat) (far : Int) (f t : Nat) : -298 ≤ aHas T own oth s far f t ∧ aHas T own oth s far f t ≤ 398 := by
  have h1 := aNear_b hw ho hn s f t
  have h2 := aAh_b hw ho hn s t
  unfold aHas
  split <;> omega
theorem aChU_2 {T : aTn} {own oth : Nat → Int} {s : Nat} {far : Int} {f : Nat} (n : Nat) (hf : f = 3 ∨ f < n + 1) : (aChU T own oth s far f n).2 < n + 1 := by
  induction n generalizing f with
  | zero =>
    unfold aChU
    dsimp only
    split <;> omega
  | succ n ih =>
    unfold aChU
    split
    · dsimp only
      omega
    · by_cases h1 : f = 3 ∨ f < n + 1
      · have := ih h1
        omega
      · have h2 : ∀ m, (aChU T own oth s far f m).2 < max m (f + 1) ∨ (aChU T own oth s far f m).2 = f := by
          intro m
          induction m with
          | zero =>
            right
            unfold aChU
            dsimp only
            rw [if_neg (by omega)]
          | succ m ih2 =>
            unfold aChU
            split
            · left
              dsimp only
              omega
            · omega
        have := h2 n
        omega
theorem aCh_b {T : aTn} (hw : wT T) {own oth : Nat → Int} {s : Nat} {far : Int} {f : Nat} (hf : f = 3 ∨ f < nB T) : aCh T own oth s far f = 3 ∨ aCh T own oth s far f < nB T := by
  unfold aCh
  split
  · left; rfl
  · right
    have h0 : ∀ m, (aChU T own oth s far f m).2 < m ∨ (aChU T own oth s far f m).2 = (if f = 3 then 0 else f) := by
      intro m
      induction m with
      | zero => right; unfold aChU; rfl
      | succ m ih =>
        unfold aChU
        split
        · left
          dsimp only
          omega
        · omega
    have h1 := h0 (nB T)
    have h2 := hw.1
    split at h1 <;> omega
section FN
variable {d : Nat} {Q : zQ} {G : zG} {h : zM}
theorem wr_s {i : Nat} (hi : i < 2147483647) : wr ((i : Int) + 1) = ((i + 1 : Nat) : Int) := by
  rw [wr_id (by omega)]
  omega
theorem aHas0 {T : aTn} {own oth : Nat → Int} {s f t : Nat} : aHas T own oth s 0 f t = aNear T own oth s f t := by
  unfold aHas
  rw [if_pos rfl, Int.add_zero]
theorem s_max {x y : Int} : zRunD ztb zmt' (d + 1) 215 [zI x, zI y] G h Q ↔ Q (some (zI (max x y))) G h := by
  rw [r215]
  by_cases hc : x < y
  · simp only [e215_0, e215_1, e215_2, e215_5, e215_6, e215_9, e215_10, zs0, zsI, zsL, zsR, ztl1, ztl0, zc0, zcI, zcL, zcR, true_and, and_true, true_implies, false_implies, implies_true, not_true_eq_false, not_false_eq_true, and_self, Int.toNat_natCast, Nat.reduceAdd, Nat.reduceLeDiff, Nat.reduceLT, forall_eq', Option.some.injEq, zarR, zarI, zarL, zle, zq0, zq1, zq2, zq3, zq4, zq5, zq6, zq8, zq9, zq10, zq20, zq7, zq12, zq24, zq40, zq41, zq48, zq100, zq120, zq123, zq480, zq492, zq700, zq729, zq2187, zq2916, zq8748, ne_eq, Int.reduceEq, Int.reduceLT, Int.reduceLE, Int.reduceToNat, Int.reduceMul, Int.reduceAdd, Int.reduceNeg, hc]
    rw [Int.max_eq_right (by omega)]
  · simp only [e215_0, e215_1, e215_2, e215_5, e215_6, e215_9, e215_10, zs0, zsI, zsL, zsR, ztl1, ztl0, zc0, zcI, zcL, zcR, true_and, and_true, true_implies, false_implies, implies_true, not_true_eq_false, not_false_eq_true, and_self, Int.toNat_natCast, Nat.reduceAdd, Nat.reduceLeDiff, Nat.reduceLT, forall_eq', Option.some.injEq, zarR, zarI, zarL, zle, zq0, zq1, zq2, zq3, zq4, zq5, zq6, zq8, zq9, zq10, zq20, zq7, zq12, zq24, zq40, zq41, zq48, zq100, zq120, zq123, zq480, zq492, zq700, zq729, zq2187, zq2916, zq8748, ne_eq, Int.reduceEq, Int.reduceLT, Int.reduceLE, Int.reduceToNat, Int.reduceMul, Int.reduceAdd, Int.reduceNeg, hc]
    rw [Int.max_eq_left (by omega)]
theorem s_min {x y : Int} : zRunD ztb zmt' (d + 1) 217 [zI x, zI y] G h Q ↔ Q (some (zI (min x y))) G h := by
  rw [r217]
  by_cases hc : y < x
  · simp only [e217_0, e217_1, e217_2, e217_5, e217_6, e217_9, e217_10, zs0, zsI, zsL, zsR, ztl1, ztl0, zc0, zcI, zcL, zcR, true_and, and_true, true_implies, false_implies, implies_true, not_true_eq_false, not_false_eq_true, and_self, Int.toNat_natCast, Nat.reduceAdd, Nat.reduceLeDiff, Nat.reduceLT, forall_eq', Option.some.injEq, zarR, zarI, zarL, zle, zq0, zq1, zq2, zq3, zq4, zq5, zq6, zq8, zq9, zq10, zq20, zq7, zq12, zq24, zq40, zq41, zq48, zq100, zq120, zq123, zq480, zq492, zq700, zq729, zq2187, zq2916, zq8748, ne_eq, Int.reduceEq, Int.reduceLT, Int.reduceLE, Int.reduceToNat, Int.reduceMul, Int.reduceAdd, Int.reduceNeg, hc]
    rw [Int.min_eq_right (by omega)]
  · simp only [e217_0, e217_1, e217_2, e217_5, e217_6, e217_9, e217_10, zs0, zsI, zsL, zsR, ztl1, ztl0, zc0, zcI, zcL, zcR, true_and, and_true, true_implies, false_implies, implies_true, not_true_eq_false, not_false_eq_true, and_self, Int.toNat_natCast, Nat.reduceAdd, Nat.reduceLeDiff, Nat.reduceLT, forall_eq', Option.some.injEq, zarR, zarI, zarL, zle, zq0, zq1, zq2, zq3, zq4, zq5, zq6, zq8, zq9, zq10, zq20, zq7, zq12, zq24, zq40, zq41, zq48, zq100, zq120, zq123, zq480, zq492, zq700, zq729, zq2187, zq2916, zq8748, ne_eq, Int.reduceEq, Int.reduceLT, Int.reduceLE, Int.reduceToNat, Int.reduceMul, Int.reduceAdd, Int.reduceNeg, hc]
    rw [Int.min_eq_left (by omega)]
theorem zlc_lt {x y : Int} : zlc x y < 0 ↔ x < y := by
  unfold zlc
  split
  · omega
  · split <;> omega
theorem zlc_le {x y : Int} : zlc x y ≤ 0 ↔ x ≤ y := by
  unfold zlc
  split
  · omega
  · split <;> omega
theorem zlc_eq {x y : Int} : zlc x y = 0 ↔ x = y := by
  unfold zlc
  split
  · omega
  · split <;> omega
theorem zlc_ge {x y : Int} : 0 ≤ zlc x y ↔ y ≤ x := by
  unfold zlc
  split
  · omega
  · split <;> omega
theorem zlc_gt {x y : Int} : 0 < zlc x y ↔ y < x := by
  unfold zlc
  split
  · omega
  · split <;> omega
theorem s_maxL {x y : Int} : zRunD ztb zmt' (d + 1) 216 [zL x, zL y] G h Q ↔ Q (some (zL (max x y))) G h := by
  rw [r216]
  by_cases hc : x < y
  · simp only [e216_0, e216_1, e216_2, e216_3, e216_6, e216_7, e216_10, e216_11, zs0, zsI, zsL, zsR, ztl1, ztl0, zc0, zcI, zcL, zcR, true_and, and_true, true_implies, false_implies, implies_true, not_true_eq_false, not_false_eq_true, and_self, Int.toNat_natCast, Nat.reduceAdd, Nat.reduceLeDiff, Nat.reduceLT, forall_eq', Option.some.injEq, zarR, zarI, zarL, zle, zq0, zq1, zq2, zq3, zq4, zq5, zq6, zq8, zq9, zq10, zq20, zq7, zq12, zq24, zq40, zq41, zq48, zq100, zq120, zq123, zq480, zq492, zq700, zq729, zq2187, zq2916, zq8748, ne_eq, Int.reduceEq, Int.reduceLT, Int.reduceLE, Int.reduceToNat, Int.reduceMul, Int.reduceAdd, Int.reduceNeg, zlc_lt, hc]
    rw [Int.max_eq_right (by omega)]
  · simp only [e216_0, e216_1, e216_2, e216_3, e216_6, e216_7, e216_10, e216_11, zs0, zsI, zsL, zsR, ztl1, ztl0, zc0, zcI, zcL, zcR, true_and, and_true, true_implies, false_implies, implies_true, not_true_eq_false, not_false_eq_true, and_self, Int.toNat_natCast, Nat.reduceAdd, Nat.reduceLeDiff, Nat.reduceLT, forall_eq', Option.some.injEq, zarR, zarI, zarL, zle, zq0, zq1, zq2, zq3, zq4, zq5, zq6, zq8, zq9, zq10, zq20, zq7, zq12, zq24, zq40, zq41, zq48, zq100, zq120, zq123, zq480, zq492, zq700, zq729, zq2187, zq2916, zq8748, ne_eq, Int.reduceEq, Int.reduceLT, Int.reduceLE, Int.reduceToNat, Int.reduceMul, Int.reduceAdd, Int.reduceNeg, zlc_lt, hc]
    rw [Int.max_eq_left (by omega)]
end FN
section MK16
variable {d : Nat} {Q : zQ} {G : zG} {h : zM} {T : aTn} {own oth ah : Nat → Int} {s f t : Nat} {far : Int}
theorem c_has16 (hg : gS G) (hT : kT h 18 T) (hw : wT T) (hs : h 17 4 = (s : Int)) (hs4 : s < nS T) (hf : f < nB T ∨ f = 3) (ht : t < nB T ∨ t = 3) (ho : t < 3 → h 28 t = own t) (hn : t < 3 → h 29 t = oth t) (bo : bP own) (bn : bP oth) (ha : ¬ far = 0 → h 30 t = aAh T own oth s t) : zRunD ztb zmt' (d + 1) 9 [zR (some 17), zI f, zI t, zI far] G h Q ↔ Q (some (zI (aHas T own oth s far f t))) G h := by
  rw [r9, aHas]
  have ba := aAh_b hw bo bn s t
  have hB := hw.1
  have hns := hw.2.1
  have b0 := hw.2.2.2.2.2 s
  have b1 := bo t
  have b2 := bn t
  have e1 := hT.2.2.2.2.2.2.2.2.2.1 s hs4
  have e2 := hT.2.2.2.2.2.2.2.2.2.2.1 s hs4
  have s4 : (s : Int) < 4 := by omega
  have t4 : (t : Int) < 4 := by omega
  by_cases h3 : t = 3
  · subst h3
    by_cases h0 : far = 0
    · simp only [e9_0, e9_1, e9_4, e9_5, e9_8, e9_9, e9_10, e9_13, e9_14, e9_16, e9_17, e9_18, e9_21, e9_23, e9_24, e9_26, e9_27, e9_30, e9_33, e9_34, e9_37, e9_38, e9_39, e9_40, e9_43, e9_44, e9_47, e9_48, e9_49, e9_52, e9_53, e9_56, e9_57, e9_58, e9_59, e9_60, e9_62, e9_63, e9_64, e9_67, e9_68, e9_69, e9_72, e9_73, e9_76, e9_79, e9_80, e9_83, e9_84, e9_86, e9_88, e9_89, e9_92, e9_95, e9_96, e9_97, e9_98, e9_101, e9_104, e9_105, e9_106, e9_109, e9_111, e9_112, e9_113, e9_116, e9_118, e9_119, e9_121, e9_123, zs0, zsI, zsL, zsR, ztl1, ztl0, zc0, zcI, zcL, zcR, true_and, and_true, true_implies, false_implies, implies_true, not_true_eq_false, not_false_eq_true, and_self, Int.toNat_natCast, Nat.reduceAdd, Nat.reduceLeDiff, Nat.reduceLT, forall_eq', Option.some.injEq, zarR, zarI, zarL, zle, zq0, zq1, zq2, zq3, zq4, zq5, zq6, zq8, zq9, zq10, zq20, zq7, zq12, zq24, zq40, zq41, zq48, zq100, zq120, zq123, zq480, zq492, zq700, zq729, zq2187, zq2916, zq8748, ne_eq, Int.reduceEq, Int.reduceLT, Int.reduceLE, Int.reduceToNat, Int.reduceMul, Int.reduceAdd, Int.reduceNeg, gk17 hg, gr17_0 hg, gr17_1 hg, gr17_2 hg, gr17_3 hg, gk30 hg, gl30 hg, h0, aNear, Int.zero_add, Int.add_zero, if_true]
    · simp only [e9_0, e9_1, e9_4, e9_5, e9_8, e9_9, e9_10, e9_13, e9_14, e9_16, e9_17, e9_18, e9_21, e9_23, e9_24, e9_26, e9_27, e9_30, e9_33, e9_34, e9_37, e9_38, e9_39, e9_40, e9_43, e9_44, e9_47, e9_48, e9_49, e9_52, e9_53, e9_56, e9_57, e9_58, e9_59, e9_60, e9_62, e9_63, e9_64, e9_67, e9_68, e9_69, e9_72, e9_73, e9_76, e9_79, e9_80, e9_83, e9_84, e9_86, e9_88, e9_89, e9_92, e9_95, e9_96, e9_97, e9_98, e9_101, e9_104, e9_105, e9_106, e9_109, e9_111, e9_112, e9_113, e9_116, e9_118, e9_119, e9_121, e9_123, zs0, zsI, zsL, zsR, ztl1, ztl0, zc0, zcI, zcL, zcR, true_and, and_true, true_implies, false_implies, implies_true, not_true_eq_false, not_false_eq_true, and_self, Int.toNat_natCast, Nat.reduceAdd, Nat.reduceLeDiff, Nat.reduceLT, forall_eq', Option.some.injEq, zarR, zarI, zarL, zle, zq0, zq1, zq2, zq3, zq4, zq5, zq6, zq8, zq9, zq10, zq20, zq7, zq12, zq24, zq40, zq41, zq48, zq100, zq120, zq123, zq480, zq492, zq700, zq729, zq2187, zq2916, zq8748, ne_eq, Int.reduceEq, Int.reduceLT, Int.reduceLE, Int.reduceToNat, Int.reduceMul, Int.reduceAdd, Int.reduceNeg, gk17 hg, gr17_0 hg, gr17_1 hg, gr17_2 hg, gr17_3 hg, gk30 hg, gl30 hg, h0, aNear, Int.zero_add, if_true, if_false, ha h0, Int.reduceToNat, Int.reduceLT, Int.reduceLE]
  · have t3 : t < 3 := by omega
    have t3' : (t : Int) < 3 := by omega
    have n3 : ¬ (t : Int) = 3 := by omega
    have ho' := ho t3
    have hn' := hn t3
    have e3 := hT.2.2.2.2.2.2.1 t (by omega)
    have key : ∀ (H : Int), (0 ≤ H ∧ H ≤ 199) → (zE 9 d Q 16 [some (zR (some 17)), some (zI f), some (zI t), some (zI far), some (zI H), none] [] G h (0, 0) ↔ Q (some (zI (aNear T own oth s f t + H))) G h) := by
      intro H bH
      by_cases hft : f = t
      · have c1 : (f : Int) = t := by omega
        simp only [e9_0, e9_1, e9_4, e9_5, e9_8, e9_9, e9_10, e9_13, e9_14, e9_16, e9_17, e9_18, e9_21, e9_23, e9_24, e9_26, e9_27, e9_30, e9_33, e9_34, e9_37, e9_38, e9_39, e9_40, e9_43, e9_44, e9_47, e9_48, e9_49, e9_52, e9_53, e9_56, e9_57, e9_58, e9_59, e9_60, e9_62, e9_63, e9_64, e9_67, e9_68, e9_69, e9_72, e9_73, e9_76, e9_79, e9_80, e9_83, e9_84, e9_86, e9_88, e9_89, e9_92, e9_95, e9_96, e9_97, e9_98, e9_101, e9_104, e9_105, e9_106, e9_109, e9_111, e9_112, e9_113, e9_116, e9_118, e9_119, e9_121, e9_123, zs0, zsI, zsL, zsR, ztl1, ztl0, zc0, zcI, zcL, zcR, true_and, and_true, true_implies, false_implies, implies_true, not_true_eq_false, not_false_eq_true, and_self, Int.toNat_natCast, Nat.reduceAdd, Nat.reduceLeDiff, Nat.reduceLT, forall_eq', Option.some.injEq, zarR, zarI, zarL, zle, zq0, zq1, zq2, zq3, zq4, zq5, zq6, zq8, zq9, zq10, zq20, zq7, zq12, zq24, zq40, zq41, zq48, zq100, zq120, zq123, zq480, zq492, zq700, zq729, zq2187, zq2916, zq8748, ne_eq, Int.reduceEq, Int.reduceLT, Int.reduceLE, Int.reduceToNat, Int.reduceMul, Int.reduceAdd, Int.reduceNeg, gk17 hg, gr17_0 hg, gr17_1 hg, gr17_2 hg, gr17_3 hg, gk18 hg, gr18_0 hg, gr18_1 hg, gr18_2 hg, gr18_3 hg, gr18_4 hg, gr18_5 hg, gr18_6 hg, gr18_7 hg, gr18_8 hg, gk23 hg, gl23 hg, gk24 hg, gl24 hg, gk28 hg, gl28 hg, gk29 hg, gl29 hg, gk20 hg, gl20 hg, n3, t3', s4, c1, hs, ho', hn', e1, aNear, h3, hft, if_true, if_false, true_or]
        simp (disch := omega) only [wr_id]
        exact iff_of_eq (congrArg (fun z => Q (some (zI z)) G h) (by omega))
      · have c1 : ¬ (f : Int) = t := by omega
        by_cases hf3 : f = 3
        · subst hf3
          have c2 : ¬ (3 : Int) = t := by omega
          simp only [e9_0, e9_1, e9_4, e9_5, e9_8, e9_9, e9_10, e9_13, e9_14, e9_16, e9_17, e9_18, e9_21, e9_23, e9_24, e9_26, e9_27, e9_30, e9_33, e9_34, e9_37, e9_38, e9_39, e9_40, e9_43, e9_44, e9_47, e9_48, e9_49, e9_52, e9_53, e9_56, e9_57, e9_58, e9_59, e9_60, e9_62, e9_63, e9_64, e9_67, e9_68, e9_69, e9_72, e9_73, e9_76, e9_79, e9_80, e9_83, e9_84, e9_86, e9_88, e9_89, e9_92, e9_95, e9_96, e9_97, e9_98, e9_101, e9_104, e9_105, e9_106, e9_109, e9_111, e9_112, e9_113, e9_116, e9_118, e9_119, e9_121, e9_123, zs0, zsI, zsL, zsR, ztl1, ztl0, zc0, zcI, zcL, zcR, true_and, and_true, true_implies, false_implies, implies_true, not_true_eq_false, not_false_eq_true, and_self, Int.toNat_natCast, Nat.reduceAdd, Nat.reduceLeDiff, Nat.reduceLT, forall_eq', Option.some.injEq, zarR, zarI, zarL, zle, zq0, zq1, zq2, zq3, zq4, zq5, zq6, zq8, zq9, zq10, zq20, zq7, zq12, zq24, zq40, zq41, zq48, zq100, zq120, zq123, zq480, zq492, zq700, zq729, zq2187, zq2916, zq8748, ne_eq, Int.reduceEq, Int.reduceLT, Int.reduceLE, Int.reduceToNat, Int.reduceMul, Int.reduceAdd, Int.reduceNeg, gk17 hg, gr17_0 hg, gr17_1 hg, gr17_2 hg, gr17_3 hg, gk18 hg, gr18_0 hg, gr18_1 hg, gr18_2 hg, gr18_3 hg, gr18_4 hg, gr18_5 hg, gr18_6 hg, gr18_7 hg, gr18_8 hg, gk23 hg, gl23 hg, gk24 hg, gl24 hg, gk28 hg, gl28 hg, gk29 hg, gl29 hg, gk20 hg, gl20 hg, n3, t3', s4, c2, hs, ho', hn', e1, aNear, h3, hft, if_true, if_false, or_true]
          simp (disch := omega) only [wr_id]
          exact iff_of_eq (congrArg (fun z => Q (some (zI z)) G h) (by omega))
        · have c2 : ¬ (f : Int) = 3 := by omega
          have f3' : (f : Int) < 3 := by omega
          have e4 := hT.2.2.2.2.2.2.1 f (by omega)
          by_cases hfit : tr T 1 f = tr T 1 t
          · simp only [e9_0, e9_1, e9_4, e9_5, e9_8, e9_9, e9_10, e9_13, e9_14, e9_16, e9_17, e9_18, e9_21, e9_23, e9_24, e9_26, e9_27, e9_30, e9_33, e9_34, e9_37, e9_38, e9_39, e9_40, e9_43, e9_44, e9_47, e9_48, e9_49, e9_52, e9_53, e9_56, e9_57, e9_58, e9_59, e9_60, e9_62, e9_63, e9_64, e9_67, e9_68, e9_69, e9_72, e9_73, e9_76, e9_79, e9_80, e9_83, e9_84, e9_86, e9_88, e9_89, e9_92, e9_95, e9_96, e9_97, e9_98, e9_101, e9_104, e9_105, e9_106, e9_109, e9_111, e9_112, e9_113, e9_116, e9_118, e9_119, e9_121, e9_123, zs0, zsI, zsL, zsR, ztl1, ztl0, zc0, zcI, zcL, zcR, true_and, and_true, true_implies, false_implies, implies_true, not_true_eq_false, not_false_eq_true, and_self, Int.toNat_natCast, Nat.reduceAdd, Nat.reduceLeDiff, Nat.reduceLT, forall_eq', Option.some.injEq, zarR, zarI, zarL, zle, zq0, zq1, zq2, zq3, zq4, zq5, zq6, zq8, zq9, zq10, zq20, zq7, zq12, zq24, zq40, zq41, zq48, zq100, zq120, zq123, zq480, zq492, zq700, zq729, zq2187, zq2916, zq8748, ne_eq, Int.reduceEq, Int.reduceLT, Int.reduceLE, Int.reduceToNat, Int.reduceMul, Int.reduceAdd, Int.reduceNeg, gk17 hg, gr17_0 hg, gr17_1 hg, gr17_2 hg, gr17_3 hg, gk18 hg, gr18_0 hg, gr18_1 hg, gr18_2 hg, gr18_3 hg, gr18_4 hg, gr18_5 hg, gr18_6 hg, gr18_7 hg, gr18_8 hg, gk23 hg, gl23 hg, gk24 hg, gl24 hg, gk28 hg, gl28 hg, gk29 hg, gl29 hg, gk20 hg, gl20 hg, n3, t3', f3', s4, c1, c2, hs, ho', hn', e1, e2, e3, e4, aNear, h3, hft, hf3, hfit, if_true, if_false, or_self]
            simp (disch := omega) only [wr_id, Int.tdiv_eq_ediv_of_nonneg]
            exact iff_of_eq (congrArg (fun z => Q (some (zI z)) G h) (by omega))
          · simp only [e9_0, e9_1, e9_4, e9_5, e9_8, e9_9, e9_10, e9_13, e9_14, e9_16, e9_17, e9_18, e9_21, e9_23, e9_24, e9_26, e9_27, e9_30, e9_33, e9_34, e9_37, e9_38, e9_39, e9_40, e9_43, e9_44, e9_47, e9_48, e9_49, e9_52, e9_53, e9_56, e9_57, e9_58, e9_59, e9_60, e9_62, e9_63, e9_64, e9_67, e9_68, e9_69, e9_72, e9_73, e9_76, e9_79, e9_80, e9_83, e9_84, e9_86, e9_88, e9_89, e9_92, e9_95, e9_96, e9_97, e9_98, e9_101, e9_104, e9_105, e9_106, e9_109, e9_111, e9_112, e9_113, e9_116, e9_118, e9_119, e9_121, e9_123, zs0, zsI, zsL, zsR, ztl1, ztl0, zc0, zcI, zcL, zcR, true_and, and_true, true_implies, false_implies, implies_true, not_true_eq_false, not_false_eq_true, and_self, Int.toNat_natCast, Nat.reduceAdd, Nat.reduceLeDiff, Nat.reduceLT, forall_eq', Option.some.injEq, zarR, zarI, zarL, zle, zq0, zq1, zq2, zq3, zq4, zq5, zq6, zq8, zq9, zq10, zq20, zq7, zq12, zq24, zq40, zq41, zq48, zq100, zq120, zq123, zq480, zq492, zq700, zq729, zq2187, zq2916, zq8748, ne_eq, Int.reduceEq, Int.reduceLT, Int.reduceLE, Int.reduceToNat, Int.reduceMul, Int.reduceAdd, Int.reduceNeg, gk17 hg, gr17_0 hg, gr17_1 hg, gr17_2 hg, gr17_3 hg, gk18 hg, gr18_0 hg, gr18_1 hg, gr18_2 hg, gr18_3 hg, gr18_4 hg, gr18_5 hg, gr18_6 hg, gr18_7 hg, gr18_8 hg, gk23 hg, gl23 hg, gk24 hg, gl24 hg, gk28 hg, gl28 hg, gk29 hg, gl29 hg, gk20 hg, gl20 hg, n3, t3', f3', s4, c1, c2, hs, ho', hn', e1, e2, e3, e4, aNear, h3, hft, hf3, hfit, if_true, if_false, or_self]
            simp (disch := omega) only [wr_id, Int.tdiv_eq_ediv_of_nonneg]
            exact iff_of_eq (congrArg (fun z => Q (some (zI z)) G h) (by omega))
    by_cases h0 : far = 0
    · simp only [e9_0, e9_1, e9_4, e9_5, e9_8, e9_9, e9_10, e9_13, e9_14, e9_17, e9_18, e9_21, e9_23, e9_24, e9_26, e9_27, e9_30, e9_33, e9_34, e9_37, e9_38, e9_39, e9_40, e9_43, e9_44, e9_47, e9_48, e9_49, e9_52, e9_53, e9_56, e9_57, e9_58, e9_59, e9_60, e9_62, e9_63, e9_64, e9_67, e9_68, e9_69, e9_72, e9_73, e9_76, e9_79, e9_80, e9_83, e9_84, e9_86, e9_88, e9_89, e9_92, e9_95, e9_96, e9_97, e9_98, e9_101, e9_104, e9_105, e9_106, e9_109, e9_111, e9_112, e9_113, e9_116, e9_118, e9_119, e9_121, e9_123, zs0, zsI, zsL, zsR, ztl1, ztl0, zc0, zcI, zcL, zcR, true_and, and_true, true_implies, false_implies, implies_true, not_true_eq_false, not_false_eq_true, and_self, Int.toNat_natCast, Nat.reduceAdd, Nat.reduceLeDiff, Nat.reduceLT, forall_eq', Option.some.injEq, zarR, zarI, zarL, zle, zq0, zq1, zq2, zq3, zq4, zq5, zq6, zq8, zq9, zq10, zq20, zq7, zq12, zq24, zq40, zq41, zq48, zq100, zq120, zq123, zq480, zq492, zq700, zq729, zq2187, zq2916, zq8748, ne_eq, Int.reduceEq, Int.reduceLT, Int.reduceLE, Int.reduceToNat, Int.reduceMul, Int.reduceAdd, Int.reduceNeg, gk17 hg, gr17_0 hg, gr17_1 hg, gr17_2 hg, gr17_3 hg, gk30 hg, gl30 hg, h0, if_true] at key ⊢
      exact key 0 (by omega)
    · simp only [e9_0, e9_1, e9_4, e9_5, e9_8, e9_9, e9_10, e9_13, e9_14, e9_17, e9_18, e9_21, e9_23, e9_24, e9_26, e9_27, e9_30, e9_33, e9_34, e9_37, e9_38, e9_39, e9_40, e9_43, e9_44, e9_47, e9_48, e9_49, e9_52, e9_53, e9_56, e9_57, e9_58, e9_59, e9_60, e9_62, e9_63, e9_64, e9_67, e9_68, e9_69, e9_72, e9_73, e9_76, e9_79, e9_80, e9_83, e9_84, e9_86, e9_88, e9_89, e9_92, e9_95, e9_96, e9_97, e9_98, e9_101, e9_104, e9_105, e9_106, e9_109, e9_111, e9_112, e9_113, e9_116, e9_118, e9_119, e9_121, e9_123, zs0, zsI, zsL, zsR, ztl1, ztl0, zc0, zcI, zcL, zcR, true_and, and_true, true_implies, false_implies, implies_true, not_true_eq_false, not_false_eq_true, and_self, Int.toNat_natCast, Nat.reduceAdd, Nat.reduceLeDiff, Nat.reduceLT, forall_eq', Option.some.injEq, zarR, zarI, zarL, zle, zq0, zq1, zq2, zq3, zq4, zq5, zq6, zq8, zq9, zq10, zq20, zq7, zq12, zq24, zq40, zq41, zq48, zq100, zq120, zq123, zq480, zq492, zq700, zq729, zq2187, zq2916, zq8748, ne_eq, Int.reduceEq, Int.reduceLT, Int.reduceLE, Int.reduceToNat, Int.reduceMul, Int.reduceAdd, Int.reduceNeg, gk17 hg, gr17_0 hg, gr17_1 hg, gr17_2 hg, gr17_3 hg, gk30 hg, gl30 hg, h0, if_false, ha h0, t4] at key ⊢
      exact key _ ba
theorem c_most16 (hg : gS G) (hT : kT h 18 T) (hw : wT T) (hs : h 17 4 = (s : Int)) (hs4 : s < nS T) (hf : f < nB T ∨ f = 3) (ho : ∀ t, t < nB T → h 28 t = own t) (hn : ∀ t, t < nB T → h 29 t = oth t) (bo : bP own) (bn : bP oth) : zRunD ztb zmt' (d + 2) 8 [zR (some 17), zI f] G h Q ↔ Q (some (zI (aMost T own oth s f (nB T)))) G h := by
  rw [r8]
  have hb := hw.1
  have e1 := hT.1
  have lp : ∀ j i, i + j = nB T → (zE 8 (d + 1) Q 4 [some (zR (some 17)), some (zI f), some (zI (aMost T own oth s f i)), some (zI i)] [] G h (0, 0) ↔ Q (some (zI (aMost T own oth s f (nB T)))) G h) := by
    intro j
    induction j with
    | zero =>
      intro i hi
      have c : (nB T : Int) ≤ i := by omega
      have hi' : i = nB T := by omega
      rw [e8_4]
      simp only [e8_0, e8_1, e8_2, e8_3, e8_5, e8_6, e8_9, e8_12, e8_15, e8_16, e8_17, e8_18, e8_19, e8_20, e8_23, e8_26, e8_27, e8_30, e8_33, e8_34, zs0, zsI, zsL, zsR, ztl1, ztl0, zc0, zcI, zcL, zcR, true_and, and_true, true_implies, false_implies, implies_true, not_true_eq_false, not_false_eq_true, and_self, Int.toNat_natCast, Nat.reduceAdd, Nat.reduceLeDiff, Nat.reduceLT, forall_eq', Option.some.injEq, zarR, zarI, zarL, zle, zq0, zq1, zq2, zq3, zq4, zq5, zq6, zq8, zq9, zq10, zq20, zq7, zq12, zq24, zq40, zq41, zq48, zq100, zq120, zq123, zq480, zq492, zq700, zq729, zq2187, zq2916, zq8748, ne_eq, Int.reduceEq, Int.reduceLT, Int.reduceLE, Int.reduceToNat, Int.reduceMul, Int.reduceAdd, Int.reduceNeg, gk17 hg, gr17_0 hg, gr17_1 hg, gr17_2 hg, gr17_3 hg, gk18 hg, gr18_0 hg, gr18_1 hg, gr18_2 hg, gr18_3 hg, gr18_4 hg, gr18_5 hg, gr18_6 hg, gr18_7 hg, gr18_8 hg, e1, c]
      rw [hi']
    | succ j ih =>
      intro i hi
      have c : ¬ (nB T : Int) ≤ i := by omega
      have hh := fun Q' => c_has16 (d := d) (Q := Q') (far := 0) (f := f) (t := i) hg hT hw hs hs4 hf (by omega) (fun _ => ho i (by omega)) (fun _ => hn i (by omega)) bo bn (fun h0 => absurd rfl h0)
      rw [e8_4]
      simp only [e8_0, e8_1, e8_2, e8_3, e8_5, e8_6, e8_9, e8_12, e8_15, e8_16, e8_17, e8_18, e8_19, e8_20, e8_23, e8_26, e8_27, e8_30, e8_33, e8_34, zs0, zsI, zsL, zsR, ztl1, ztl0, zc0, zcI, zcL, zcR, true_and, and_true, true_implies, false_implies, implies_true, not_true_eq_false, not_false_eq_true, and_self, Int.toNat_natCast, Nat.reduceAdd, Nat.reduceLeDiff, Nat.reduceLT, forall_eq', Option.some.injEq, zarR, zarI, zarL, zle, zq0, zq1, zq2, zq3, zq4, zq5, zq6, zq8, zq9, zq10, zq20, zq7, zq12, zq24, zq40, zq41, zq48, zq100, zq120, zq123, zq480, zq492, zq700, zq729, zq2187, zq2916, zq8748, ne_eq, Int.reduceEq, Int.reduceLT, Int.reduceLE, Int.reduceToNat, Int.reduceMul, Int.reduceAdd, Int.reduceNeg, gk17 hg, gr17_0 hg, gr17_1 hg, gr17_2 hg, gr17_3 hg, gk18 hg, gr18_0 hg, gr18_1 hg, gr18_2 hg, gr18_3 hg, gr18_4 hg, gr18_5 hg, gr18_6 hg, gr18_7 hg, gr18_8 hg, e1, c, hh, s_max, aHas0, wr_s (show i < 2147483647 by omega)]
      exact ih (i + 1) (by omega)
  simp only [e8_0, e8_1, e8_2, e8_3, e8_5, e8_6, e8_9, e8_12, e8_15, e8_16, e8_17, e8_18, e8_19, e8_20, e8_23, e8_26, e8_27, e8_30, e8_33, e8_34, zs0, zsI, zsL, zsR, ztl1, ztl0, zc0, zcI, zcL, zcR, true_and, and_true, true_implies, false_implies, implies_true, not_true_eq_false, not_false_eq_true, and_self, Int.toNat_natCast, Nat.reduceAdd, Nat.reduceLeDiff, Nat.reduceLT, forall_eq', Option.some.injEq, zarR, zarI, zarL, zle, zq0, zq1, zq2, zq3, zq4, zq5, zq6, zq8, zq9, zq10, zq20, zq7, zq12, zq24, zq40, zq41, zq48, zq100, zq120, zq123, zq480, zq492, zq700, zq729, zq2187, zq2916, zq8748, ne_eq, Int.reduceEq, Int.reduceLT, Int.reduceLE, Int.reduceToNat, Int.reduceMul, Int.reduceAdd, Int.reduceNeg]
  exact lp (nB T) 0 (by omega)
theorem c_turn16 (hg : gS G) (hT : kT h 18 T) (hw : wT T) (hs4 : s < nS T) (ho : ∀ t, t < nB T → h 28 t = own t) (hn : ∀ t, t < nB T → h 29 t = oth t) (bo : bP own) (bn : bP oth) (K : ∀ h' : zM, (∀ c i, ¬ c = 30 → ¬ (c = 17 ∧ i = 4) → h' c i = h c i) → h' 17 4 = (s : Int) → (∀ t, t < nB T ∨ t = 3 → h' 30 t = aAh T own oth s t) → Q none G h') : zRunD ztb zmt' (d + 3) 7 [zR (some 17), zI s] G h Q := by
  rw [r7]
  have hb := hw.1
  have hkp := hw.2.2.2.2.1
  have lp : ∀ j i (h1 : zM), i + j = nB T → (∀ c i, ¬ c = 30 → ¬ (c = 17 ∧ i = 4) → h1 c i = h c i) → h1 17 4 = (s : Int) → (∀ t, t < i → h1 30 t = aAh T own oth s t) → zE 7 (d + 2) Q 7 [some (zR (some 17)), some (zI s), some (zI i)] [] G h1 (0, 0) := by
    intro j
    induction j with
    | zero =>
      intro i h1 hi hf h2 h3
      have hT1 : kT h1 18 T := kT_frame hT (fun c i h5 h6 => hf c i (by omega) (by omega))
      have e1 := hT1.1
      have e5 := hT1.2.2.2.2.1
      have c : (nB T : Int) ≤ i := by omega
      have hh := fun Q' => c_most16 (d := d) (Q := Q') (f := 3) hg hT1 hw h2 hs4 (by omega) (fun t ht => by rw [hf _ _ (by decide) (by omega)]; exact ho t ht) (fun t ht => by rw [hf _ _ (by decide) (by omega)]; exact hn t ht) bo bn
      have b1 := aMost_b hw bo bn s 3 (nB T)
      have b2 : 0 ≤ kp T * aMost T own oth s 3 (nB T) := Int.mul_nonneg hkp.1 b1.1
      have b3 : kp T * aMost T own oth s 3 (nB T) ≤ 100 * 199 := Int.mul_le_mul hkp.2 b1.2 b1.1 (by decide)
      rw [e7_7]
      simp only [e7_0, e7_1, e7_2, e7_5, e7_6, e7_8, e7_9, e7_12, e7_15, e7_18, e7_19, e7_22, e7_23, e7_24, e7_27, e7_30, e7_31, e7_32, e7_35, e7_36, e7_38, e7_39, e7_40, e7_43, e7_46, e7_47, e7_50, e7_51, e7_52, e7_55, e7_58, e7_59, e7_60, e7_63, e7_64, e7_66, e7_67, e7_68, zs0, zsI, zsL, zsR, ztl1, ztl0, zc0, zcI, zcL, zcR, true_and, and_true, true_implies, false_implies, implies_true, not_true_eq_false, not_false_eq_true, and_self, Int.toNat_natCast, Nat.reduceAdd, Nat.reduceLeDiff, Nat.reduceLT, forall_eq', Option.some.injEq, zarR, zarI, zarL, zle, zq0, zq1, zq2, zq3, zq4, zq5, zq6, zq8, zq9, zq10, zq20, zq7, zq12, zq24, zq40, zq41, zq48, zq100, zq120, zq123, zq480, zq492, zq700, zq729, zq2187, zq2916, zq8748, ne_eq, Int.reduceEq, Int.reduceLT, Int.reduceLE, Int.reduceToNat, Int.reduceMul, Int.reduceAdd, Int.reduceNeg, gk17 hg, gr17_0 hg, gr17_1 hg, gr17_2 hg, gr17_3 hg, gk18 hg, gr18_0 hg, gr18_1 hg, gr18_2 hg, gr18_3 hg, gr18_4 hg, gr18_5 hg, gr18_6 hg, gr18_7 hg, gr18_8 hg, gk30 hg, gl30 hg, e1, e5, c, Int.reduceLT, Int.reduceLE, Int.reduceToNat, Int.reduceEq, ne_eq]
      simp only [show (3 : Int) = ((3 : Nat) : Int) from rfl]
      rw [hh]
      simp (disch := omega) only [wr_id, Int.tdiv_eq_ediv_of_nonneg, e7_0, e7_1, e7_2, e7_5, e7_6, e7_8, e7_9, e7_12, e7_15, e7_18, e7_19, e7_22, e7_23, e7_24, e7_27, e7_30, e7_31, e7_32, e7_35, e7_36, e7_38, e7_39, e7_40, e7_43, e7_46, e7_47, e7_50, e7_51, e7_52, e7_55, e7_58, e7_59, e7_60, e7_63, e7_64, e7_66, e7_67, e7_68, zs0, zsI, zsL, zsR, ztl1, ztl0, zc0, zcI, zcL, zcR, true_and, and_true, true_implies, false_implies, implies_true, not_true_eq_false, not_false_eq_true, and_self, Int.toNat_natCast, Nat.reduceAdd, Nat.reduceLeDiff, Nat.reduceLT, forall_eq', Option.some.injEq, zarR, zarI, zarL, zle, zq0, zq1, zq2, zq3, zq4, zq5, zq6, zq8, zq9, zq10, zq20, zq7, zq12, zq24, zq40, zq41, zq48, zq100, zq120, zq123, zq480, zq492, zq700, zq729, zq2187, zq2916, zq8748, ne_eq, Int.reduceEq, Int.reduceLT, Int.reduceLE, Int.reduceToNat, Int.reduceMul, Int.reduceAdd, Int.reduceNeg, gk17 hg, gr17_0 hg, gr17_1 hg, gr17_2 hg, gr17_3 hg, gk18 hg, gr18_0 hg, gr18_1 hg, gr18_2 hg, gr18_3 hg, gr18_4 hg, gr18_5 hg, gr18_6 hg, gr18_7 hg, gr18_8 hg, gk30 hg, gl30 hg, Int.reduceLT, Int.reduceLE, Int.reduceToNat, Int.reduceEq, ne_eq]
      apply K
      · intro c i hc hc2
        rw [zu_c hc]
        exact hf c i hc hc2
      · rw [zu_c (by decide)]
        exact h2
      · intro t ht
        by_cases ht3 : t = 3
        · subst ht3
          exact zu_at
        · rw [zu_i ht3]
          exact h3 t (by omega)
    | succ j ih =>
      intro i h1 hi hf h2 h3
      have hT1 : kT h1 18 T := kT_frame hT (fun c i h5 h6 => hf c i (by omega) (by omega))
      have e1 := hT1.1
      have e5 := hT1.2.2.2.2.1
      have c : ¬ (nB T : Int) ≤ i := by omega
      have hi4 : (i : Int) < 4 := by omega
      have hh := fun Q' => c_most16 (d := d) (Q := Q') (f := i) hg hT1 hw h2 hs4 (by omega) (fun t ht => by rw [hf _ _ (by decide) (by omega)]; exact ho t ht) (fun t ht => by rw [hf _ _ (by decide) (by omega)]; exact hn t ht) bo bn
      have b1 := aMost_b hw bo bn s i (nB T)
      have b2 : 0 ≤ kp T * aMost T own oth s i (nB T) := Int.mul_nonneg hkp.1 b1.1
      have b3 : kp T * aMost T own oth s i (nB T) ≤ 100 * 199 := Int.mul_le_mul hkp.2 b1.2 b1.1 (by decide)
      rw [e7_7]
      simp only [e7_0, e7_1, e7_2, e7_5, e7_6, e7_8, e7_9, e7_12, e7_15, e7_18, e7_19, e7_22, e7_23, e7_24, e7_27, e7_30, e7_31, e7_32, e7_35, e7_36, e7_38, e7_39, e7_40, e7_43, e7_46, e7_47, e7_50, e7_51, e7_52, e7_55, e7_58, e7_59, e7_60, e7_63, e7_64, e7_66, e7_67, e7_68, zs0, zsI, zsL, zsR, ztl1, ztl0, zc0, zcI, zcL, zcR, true_and, and_true, true_implies, false_implies, implies_true, not_true_eq_false, not_false_eq_true, and_self, Int.toNat_natCast, Nat.reduceAdd, Nat.reduceLeDiff, Nat.reduceLT, forall_eq', Option.some.injEq, zarR, zarI, zarL, zle, zq0, zq1, zq2, zq3, zq4, zq5, zq6, zq8, zq9, zq10, zq20, zq7, zq12, zq24, zq40, zq41, zq48, zq100, zq120, zq123, zq480, zq492, zq700, zq729, zq2187, zq2916, zq8748, ne_eq, Int.reduceEq, Int.reduceLT, Int.reduceLE, Int.reduceToNat, Int.reduceMul, Int.reduceAdd, Int.reduceNeg, gk17 hg, gr17_0 hg, gr17_1 hg, gr17_2 hg, gr17_3 hg, gk18 hg, gr18_0 hg, gr18_1 hg, gr18_2 hg, gr18_3 hg, gr18_4 hg, gr18_5 hg, gr18_6 hg, gr18_7 hg, gr18_8 hg, gk30 hg, gl30 hg, e1, e5, c, hh, hi4, Int.reduceEq, ne_eq, wr_s (show i < 2147483647 by omega)]
      simp (disch := omega) only [wr_id, Int.tdiv_eq_ediv_of_nonneg]
      apply ih (i + 1) _ (by omega)
      · intro c i hc hc2
        rw [zu_c hc]
        exact hf c i hc hc2
      · rw [zu_c (by decide)]
        exact h2
      · intro t ht
        by_cases ht3 : t = i
        · subst ht3
          exact zu_at
        · rw [zu_i ht3]
          exact h3 t (by omega)
  simp only [e7_0, e7_1, e7_2, e7_5, e7_6, e7_8, e7_9, e7_12, e7_15, e7_18, e7_19, e7_22, e7_23, e7_24, e7_27, e7_30, e7_31, e7_32, e7_35, e7_36, e7_38, e7_39, e7_40, e7_43, e7_46, e7_47, e7_50, e7_51, e7_52, e7_55, e7_58, e7_59, e7_60, e7_63, e7_64, e7_66, e7_67, e7_68, zs0, zsI, zsL, zsR, ztl1, ztl0, zc0, zcI, zcL, zcR, true_and, and_true, true_implies, false_implies, implies_true, not_true_eq_false, not_false_eq_true, and_self, Int.toNat_natCast, Nat.reduceAdd, Nat.reduceLeDiff, Nat.reduceLT, forall_eq', Option.some.injEq, zarR, zarI, zarL, zle, zq0, zq1, zq2, zq3, zq4, zq5, zq6, zq8, zq9, zq10, zq20, zq7, zq12, zq24, zq40, zq41, zq48, zq100, zq120, zq123, zq480, zq492, zq700, zq729, zq2187, zq2916, zq8748, ne_eq, Int.reduceEq, Int.reduceLT, Int.reduceLE, Int.reduceToNat, Int.reduceMul, Int.reduceAdd, Int.reduceNeg, gk17 hg, gr17_0 hg, gr17_1 hg, gr17_2 hg, gr17_3 hg]
  apply lp (nB T) 0 _ (by omega)
  · intro c i h5 h6
    unfold zu
    rw [if_neg h6]
  · exact zu_at
  · intro t ht
    omega
theorem c_choice16 (hg : gS G) (hT : kT h 18 T) (hw : wT T) (hs : h 17 4 = (s : Int)) (hs4 : s < nS T) (hf : f < nB T ∨ f = 3) (ho : ∀ t, t < nB T → h 28 t = own t) (hn : ∀ t, t < nB T → h 29 t = oth t) (bo : bP own) (bn : bP oth) (ha : ∀ t, t < nB T ∨ t = 3 → h 30 t = aAh T own oth s t) : zRunD ztb zmt' (d + 2) 10 [zR (some 17), zI f, zI far] G h Q ↔ Q (some (zI (aCh T own oth s far f : Nat))) G h := by
  rw [r10]
  have hb := hw.1
  have e1 := hT.1
  have hx : ∀ t, t < nB T → ∀ Q' : zQ, zRunD ztb zmt' (d + 1) 9 [zR (some 17), zI f, zI t, zI far] G h Q' ↔ Q' (some (zI (aHas T own oth s far f t))) G h := fun t ht Q' => c_has16 hg hT hw hs hs4 (by omega) (by omega) (fun _ => ho t (by omega)) (fun _ => hn t (by omega)) bo bn (fun _ => ha t (by omega))
  have h3 : ∀ Q' : zQ, zRunD ztb zmt' (d + 1) 9 [zR (some 17), zI f, zI 3, zI far] G h Q' ↔ Q' (some (zI (aHas T own oth s far f 3))) G h := fun Q' => c_has16 (t := 3) hg hT hw hs hs4 (by omega) (by omega) (fun h3 => by omega) (fun h3 => by omega) bo bn (fun _ => ha 3 (by omega))
  have lp : ∀ j i (l6 : Option zV), i + j = nB T → (zE 10 (d + 1) Q 23 [some (zR (some 17)), some (zI f), some (zI far), some (zI ((aChU T own oth s far f i).2 : Nat)), some (zI (aChU T own oth s far f i).1), some (zI i), l6] [] G h (0, 0) ↔ Q (some (zI (aCh T own oth s far f : Nat))) G h) := by
    intro j
    induction j with
    | zero =>
      intro i l6 hi
      have c : (nB T : Int) ≤ i := by omega
      have hi' : i = nB T := by omega
      rw [e10_23]
      subst hi'
      by_cases c2 : aHas T own oth s far f 3 ≤ (aChU T own oth s far f (nB T)).1
      · have c3 : ¬ (aChU T own oth s far f (nB T)).1 < aHas T own oth s far f 3 := by omega
        simp only [e10_0, e10_1, e10_2, e10_5, e10_6, e10_9, e10_10, e10_11, e10_12, e10_13, e10_14, e10_15, e10_18, e10_20, e10_21, e10_25, e10_26, e10_29, e10_32, e10_35, e10_36, e10_37, e10_39, e10_40, e10_43, e10_45, e10_47, e10_49, e10_52, e10_54, e10_56, e10_58, e10_59, e10_62, e10_65, e10_66, e10_67, e10_68, e10_69, e10_72, e10_74, e10_77, e10_78, e10_81, e10_82, zs0, zsI, zsL, zsR, ztl1, ztl0, zc0, zcI, zcL, zcR, true_and, and_true, true_implies, false_implies, implies_true, not_true_eq_false, not_false_eq_true, and_self, Int.toNat_natCast, Nat.reduceAdd, Nat.reduceLeDiff, Nat.reduceLT, forall_eq', Option.some.injEq, zarR, zarI, zarL, zle, zq0, zq1, zq2, zq3, zq4, zq5, zq6, zq8, zq9, zq10, zq20, zq7, zq12, zq24, zq40, zq41, zq48, zq100, zq120, zq123, zq480, zq492, zq700, zq729, zq2187, zq2916, zq8748, ne_eq, Int.reduceEq, Int.reduceLT, Int.reduceLE, Int.reduceToNat, Int.reduceMul, Int.reduceAdd, Int.reduceNeg, gk17 hg, gr17_0 hg, gr17_1 hg, gr17_2 hg, gr17_3 hg, gk18 hg, gr18_0 hg, gr18_1 hg, gr18_2 hg, gr18_3 hg, gr18_4 hg, gr18_5 hg, gr18_6 hg, gr18_7 hg, gr18_8 hg, e1, c, h3, c2, aCh, c3, if_false]
      · have c3 : (aChU T own oth s far f (nB T)).1 < aHas T own oth s far f 3 := by omega
        simp only [e10_0, e10_1, e10_2, e10_5, e10_6, e10_9, e10_10, e10_11, e10_12, e10_13, e10_14, e10_15, e10_18, e10_20, e10_21, e10_25, e10_26, e10_29, e10_32, e10_35, e10_36, e10_37, e10_39, e10_40, e10_43, e10_45, e10_47, e10_49, e10_52, e10_54, e10_56, e10_58, e10_59, e10_62, e10_65, e10_66, e10_67, e10_68, e10_69, e10_72, e10_74, e10_77, e10_78, e10_81, e10_82, zs0, zsI, zsL, zsR, ztl1, ztl0, zc0, zcI, zcL, zcR, true_and, and_true, true_implies, false_implies, implies_true, not_true_eq_false, not_false_eq_true, and_self, Int.toNat_natCast, Nat.reduceAdd, Nat.reduceLeDiff, Nat.reduceLT, forall_eq', Option.some.injEq, zarR, zarI, zarL, zle, zq0, zq1, zq2, zq3, zq4, zq5, zq6, zq8, zq9, zq10, zq20, zq7, zq12, zq24, zq40, zq41, zq48, zq100, zq120, zq123, zq480, zq492, zq700, zq729, zq2187, zq2916, zq8748, ne_eq, Int.reduceEq, Int.reduceLT, Int.reduceLE, Int.reduceToNat, Int.reduceMul, Int.reduceAdd, Int.reduceNeg, gk17 hg, gr17_0 hg, gr17_1 hg, gr17_2 hg, gr17_3 hg, gk18 hg, gr18_0 hg, gr18_1 hg, gr18_2 hg, gr18_3 hg, gr18_4 hg, gr18_5 hg, gr18_6 hg, gr18_7 hg, gr18_8 hg, e1, c, h3, c2, aCh, c3, if_true]
    | succ j ih =>
      intro i l6 hi
      have c : ¬ (nB T : Int) ≤ i := by omega
      rw [e10_23]
      have hi := ih (i + 1) (some (zI (aHas T own oth s far f i))) (by omega)
      by_cases c2 : aHas T own oth s far f i ≤ (aChU T own oth s far f i).1
      · have c3 : ¬ (aChU T own oth s far f i).1 < aHas T own oth s far f i := by omega
        simp only [e10_0, e10_1, e10_2, e10_5, e10_6, e10_9, e10_10, e10_11, e10_12, e10_13, e10_14, e10_15, e10_18, e10_20, e10_21, e10_25, e10_26, e10_29, e10_32, e10_35, e10_36, e10_37, e10_39, e10_40, e10_43, e10_45, e10_47, e10_49, e10_52, e10_54, e10_56, e10_58, e10_59, e10_62, e10_65, e10_66, e10_67, e10_68, e10_69, e10_72, e10_74, e10_77, e10_78, e10_81, e10_82, zs0, zsI, zsL, zsR, ztl1, ztl0, zc0, zcI, zcL, zcR, true_and, and_true, true_implies, false_implies, implies_true, not_true_eq_false, not_false_eq_true, and_self, Int.toNat_natCast, Nat.reduceAdd, Nat.reduceLeDiff, Nat.reduceLT, forall_eq', Option.some.injEq, zarR, zarI, zarL, zle, zq0, zq1, zq2, zq3, zq4, zq5, zq6, zq8, zq9, zq10, zq20, zq7, zq12, zq24, zq40, zq41, zq48, zq100, zq120, zq123, zq480, zq492, zq700, zq729, zq2187, zq2916, zq8748, ne_eq, Int.reduceEq, Int.reduceLT, Int.reduceLE, Int.reduceToNat, Int.reduceMul, Int.reduceAdd, Int.reduceNeg, gk17 hg, gr17_0 hg, gr17_1 hg, gr17_2 hg, gr17_3 hg, gk18 hg, gr18_0 hg, gr18_1 hg, gr18_2 hg, gr18_3 hg, gr18_4 hg, gr18_5 hg, gr18_6 hg, gr18_7 hg, gr18_8 hg, e1, c, hx i (by omega), c2, wr_s (show i < 2147483647 by omega)]
        simp only [aChU, c3, if_false] at hi
        exact hi
      · have c3 : (aChU T own oth s far f i).1 < aHas T own oth s far f i := by omega
        simp only [e10_0, e10_1, e10_2, e10_5, e10_6, e10_9, e10_10, e10_11, e10_12, e10_13, e10_14, e10_15, e10_18, e10_20, e10_21, e10_25, e10_26, e10_29, e10_32, e10_35, e10_36, e10_37, e10_39, e10_40, e10_43, e10_45, e10_47, e10_49, e10_52, e10_54, e10_56, e10_58, e10_59, e10_62, e10_65, e10_66, e10_67, e10_68, e10_69, e10_72, e10_74, e10_77, e10_78, e10_81, e10_82, zs0, zsI, zsL, zsR, ztl1, ztl0, zc0, zcI, zcL, zcR, true_and, and_true, true_implies, false_implies, implies_true, not_true_eq_false, not_false_eq_true, and_self, Int.toNat_natCast, Nat.reduceAdd, Nat.reduceLeDiff, Nat.reduceLT, forall_eq', Option.some.injEq, zarR, zarI, zarL, zle, zq0, zq1, zq2, zq3, zq4, zq5, zq6, zq8, zq9, zq10, zq20, zq7, zq12, zq24, zq40, zq41, zq48, zq100, zq120, zq123, zq480, zq492, zq700, zq729, zq2187, zq2916, zq8748, ne_eq, Int.reduceEq, Int.reduceLT, Int.reduceLE, Int.reduceToNat, Int.reduceMul, Int.reduceAdd, Int.reduceNeg, gk17 hg, gr17_0 hg, gr17_1 hg, gr17_2 hg, gr17_3 hg, gk18 hg, gr18_0 hg, gr18_1 hg, gr18_2 hg, gr18_3 hg, gr18_4 hg, gr18_5 hg, gr18_6 hg, gr18_7 hg, gr18_8 hg, e1, c, hx i (by omega), c2, wr_s (show i < 2147483647 by omega)]
        simp only [aChU, c3, if_true] at hi
        exact hi
  have l0 := fun l6 => lp (nB T) 0 l6 (by omega)
  by_cases hf3 : f = 3
  · subst hf3
    simp only [aChU, if_true] at l0
    have hx0 := hx 0 (by omega)
    simp only [zq3, zq0] at hx0 l0
    simp only [e10_0, e10_1, e10_2, e10_5, e10_6, e10_9, e10_10, e10_11, e10_12, e10_13, e10_14, e10_15, e10_18, e10_20, e10_21, e10_25, e10_26, e10_29, e10_32, e10_35, e10_36, e10_37, e10_39, e10_40, e10_43, e10_45, e10_47, e10_49, e10_52, e10_54, e10_56, e10_58, e10_59, e10_62, e10_65, e10_66, e10_67, e10_68, e10_69, e10_72, e10_74, e10_77, e10_78, e10_81, e10_82, zs0, zsI, zsL, zsR, ztl1, ztl0, zc0, zcI, zcL, zcR, true_and, and_true, true_implies, false_implies, implies_true, not_true_eq_false, not_false_eq_true, and_self, Int.toNat_natCast, Nat.reduceAdd, Nat.reduceLeDiff, Nat.reduceLT, forall_eq', Option.some.injEq, zarR, zarI, zarL, zle, zq0, zq1, zq2, zq3, zq4, zq5, zq6, zq8, zq9, zq10, zq20, zq7, zq12, zq24, zq40, zq41, zq48, zq100, zq120, zq123, zq480, zq492, zq700, zq729, zq2187, zq2916, zq8748, ne_eq, Int.reduceEq, Int.reduceLT, Int.reduceLE, Int.reduceToNat, Int.reduceMul, Int.reduceAdd, Int.reduceNeg, gk17 hg, gr17_0 hg, gr17_1 hg, gr17_2 hg, gr17_3 hg, hx0]
    exact l0 _
  · have c2 : ¬ (f : Int) = 3 := by omega
    simp only [aChU, hf3, if_false] at l0
    simp only [e10_0, e10_1, e10_2, e10_5, e10_6, e10_9, e10_10, e10_11, e10_12, e10_13, e10_14, e10_15, e10_18, e10_20, e10_21, e10_25, e10_26, e10_29, e10_32, e10_35, e10_36, e10_37, e10_39, e10_40, e10_43, e10_45, e10_47, e10_49, e10_52, e10_54, e10_56, e10_58, e10_59, e10_62, e10_65, e10_66, e10_67, e10_68, e10_69, e10_72, e10_74, e10_77, e10_78, e10_81, e10_82, zs0, zsI, zsL, zsR, ztl1, ztl0, zc0, zcI, zcL, zcR, true_and, and_true, true_implies, false_implies, implies_true, not_true_eq_false, not_false_eq_true, and_self, Int.toNat_natCast, Nat.reduceAdd, Nat.reduceLeDiff, Nat.reduceLT, forall_eq', Option.some.injEq, zarR, zarI, zarL, zle, zq0, zq1, zq2, zq3, zq4, zq5, zq6, zq8, zq9, zq10, zq20, zq7, zq12, zq24, zq40, zq41, zq48, zq100, zq120, zq123, zq480, zq492, zq700, zq729, zq2187, zq2916, zq8748, ne_eq, Int.reduceEq, Int.reduceLT, Int.reduceLE, Int.reduceToNat, Int.reduceMul, Int.reduceAdd, Int.reduceNeg, gk17 hg, gr17_0 hg, gr17_1 hg, gr17_2 hg, gr17_3 hg, c2, hx f (by omega)]
    exact l0 _
theorem c_setP16 (hg : gS G) {b o n : Nat} (hb : b < 3) (ho : o < 3) (hn : n < 3) : zRunD ztb zmt' (d + 1) 6 [zR (some 17), zI b, zI o, zI n] G h Q ↔ Q none G (zu (zu h 28 b (h 27 o)) 29 b (h 27 n)) := by
  rw [r6]
  have b1 : (b : Int) < 3 := by omega
  have b2 : (o : Int) < 3 := by omega
  have b3 : (n : Int) < 3 := by omega
  simp only [e6_0, e6_1, e6_4, e6_5, e6_6, e6_9, e6_12, e6_13, e6_14, e6_15, e6_16, e6_19, e6_20, e6_21, e6_24, e6_27, e6_28, e6_29, e6_30, zs0, zsI, zsL, zsR, ztl1, ztl0, zc0, zcI, zcL, zcR, true_and, and_true, true_implies, false_implies, implies_true, not_true_eq_false, not_false_eq_true, and_self, Int.toNat_natCast, Nat.reduceAdd, Nat.reduceLeDiff, Nat.reduceLT, forall_eq', Option.some.injEq, zarR, zarI, zarL, zle, zq0, zq1, zq2, zq3, zq4, zq5, zq6, zq8, zq9, zq10, zq20, zq7, zq12, zq24, zq40, zq41, zq48, zq100, zq120, zq123, zq480, zq492, zq700, zq729, zq2187, zq2916, zq8748, ne_eq, Int.reduceEq, Int.reduceLT, Int.reduceLE, Int.reduceToNat, Int.reduceMul, Int.reduceAdd, Int.reduceNeg, gk17 hg, gr17_0 hg, gr17_1 hg, gr17_2 hg, gr17_3 hg, gk18 hg, gr18_0 hg, gr18_1 hg, gr18_2 hg, gr18_3 hg, gr18_4 hg, gr18_5 hg, gr18_6 hg, gr18_7 hg, gr18_8 hg, gk27 hg, gl27 hg, gk28 hg, gl28 hg, gk29 hg, gl29 hg, b1, b2, b3, zu_c (show ¬ 27 = 28 by decide)]
end MK16
section MK47
variable {d : Nat} {Q : zQ} {G : zG} {h : zM} {T : aTn} {own oth ah : Nat → Int} {s f t : Nat} {far : Int}
theorem c_has47 (hg : gS G) (hT : kT h 49 T) (hw : wT T) (hs : h 48 4 = (s : Int)) (hs4 : s < nS T) (hf : f < nB T ∨ f = 3) (ht : t < nB T ∨ t = 3) (ho : t < 3 → h 59 t = own t) (hn : t < 3 → h 60 t = oth t) (bo : bP own) (bn : bP oth) (ha : ¬ far = 0 → h 61 t = aAh T own oth s t) : zRunD ztb zmt' (d + 1) 9 [zR (some 48), zI f, zI t, zI far] G h Q ↔ Q (some (zI (aHas T own oth s far f t))) G h := by
  rw [r9, aHas]
  have ba := aAh_b hw bo bn s t
  have hB := hw.1
  have hns := hw.2.1
  have b0 := hw.2.2.2.2.2 s
  have b1 := bo t
  have b2 := bn t
  have e1 := hT.2.2.2.2.2.2.2.2.2.1 s hs4
  have e2 := hT.2.2.2.2.2.2.2.2.2.2.1 s hs4
  have s4 : (s : Int) < 4 := by omega
  have t4 : (t : Int) < 4 := by omega
  by_cases h3 : t = 3
  · subst h3
    by_cases h0 : far = 0
    · simp only [e9_0, e9_1, e9_4, e9_5, e9_8, e9_9, e9_10, e9_13, e9_14, e9_16, e9_17, e9_18, e9_21, e9_23, e9_24, e9_26, e9_27, e9_30, e9_33, e9_34, e9_37, e9_38, e9_39, e9_40, e9_43, e9_44, e9_47, e9_48, e9_49, e9_52, e9_53, e9_56, e9_57, e9_58, e9_59, e9_60, e9_62, e9_63, e9_64, e9_67, e9_68, e9_69, e9_72, e9_73, e9_76, e9_79, e9_80, e9_83, e9_84, e9_86, e9_88, e9_89, e9_92, e9_95, e9_96, e9_97, e9_98, e9_101, e9_104, e9_105, e9_106, e9_109, e9_111, e9_112, e9_113, e9_116, e9_118, e9_119, e9_121, e9_123, zs0, zsI, zsL, zsR, ztl1, ztl0, zc0, zcI, zcL, zcR, true_and, and_true, true_implies, false_implies, implies_true, not_true_eq_false, not_false_eq_true, and_self, Int.toNat_natCast, Nat.reduceAdd, Nat.reduceLeDiff, Nat.reduceLT, forall_eq', Option.some.injEq, zarR, zarI, zarL, zle, zq0, zq1, zq2, zq3, zq4, zq5, zq6, zq8, zq9, zq10, zq20, zq7, zq12, zq24, zq40, zq41, zq48, zq100, zq120, zq123, zq480, zq492, zq700, zq729, zq2187, zq2916, zq8748, ne_eq, Int.reduceEq, Int.reduceLT, Int.reduceLE, Int.reduceToNat, Int.reduceMul, Int.reduceAdd, Int.reduceNeg, gk48 hg, gr48_0 hg, gr48_1 hg, gr48_2 hg, gr48_3 hg, gk61 hg, gl61 hg, h0, aNear, Int.zero_add, Int.add_zero, if_true]
    · simp only [e9_0, e9_1, e9_4, e9_5, e9_8, e9_9, e9_10, e9_13, e9_14, e9_16, e9_17, e9_18, e9_21, e9_23, e9_24, e9_26, e9_27, e9_30, e9_33, e9_34, e9_37, e9_38, e9_39, e9_40, e9_43, e9_44, e9_47, e9_48, e9_49, e9_52, e9_53, e9_56, e9_57, e9_58, e9_59, e9_60, e9_62, e9_63, e9_64, e9_67, e9_68, e9_69, e9_72, e9_73, e9_76, e9_79, e9_80, e9_83, e9_84, e9_86, e9_88, e9_89, e9_92, e9_95, e9_96, e9_97, e9_98, e9_101, e9_104, e9_105, e9_106, e9_109, e9_111, e9_112, e9_113, e9_116, e9_118, e9_119, e9_121, e9_123, zs0, zsI, zsL, zsR, ztl1, ztl0, zc0, zcI, zcL, zcR, true_and, and_true, true_implies, false_implies, implies_true, not_true_eq_false, not_false_eq_true, and_self, Int.toNat_natCast, Nat.reduceAdd, Nat.reduceLeDiff, Nat.reduceLT, forall_eq', Option.some.injEq, zarR, zarI, zarL, zle, zq0, zq1, zq2, zq3, zq4, zq5, zq6, zq8, zq9, zq10, zq20, zq7, zq12, zq24, zq40, zq41, zq48, zq100, zq120, zq123, zq480, zq492, zq700, zq729, zq2187, zq2916, zq8748, ne_eq, Int.reduceEq, Int.reduceLT, Int.reduceLE, Int.reduceToNat, Int.reduceMul, Int.reduceAdd, Int.reduceNeg, gk48 hg, gr48_0 hg, gr48_1 hg, gr48_2 hg, gr48_3 hg, gk61 hg, gl61 hg, h0, aNear, Int.zero_add, if_true, if_false, ha h0, Int.reduceToNat, Int.reduceLT, Int.reduceLE]
  · have t3 : t < 3 := by omega
    have t3' : (t : Int) < 3 := by omega
    have n3 : ¬ (t : Int) = 3 := by omega
    have ho' := ho t3
    have hn' := hn t3
    have e3 := hT.2.2.2.2.2.2.1 t (by omega)
    have key : ∀ (H : Int), (0 ≤ H ∧ H ≤ 199) → (zE 9 d Q 16 [some (zR (some 48)), some (zI f), some (zI t), some (zI far), some (zI H), none] [] G h (0, 0) ↔ Q (some (zI (aNear T own oth s f t + H))) G h) := by
      intro H bH
      by_cases hft : f = t
      · have c1 : (f : Int) = t := by omega
        simp only [e9_0, e9_1, e9_4, e9_5, e9_8, e9_9, e9_10, e9_13, e9_14, e9_16, e9_17, e9_18, e9_21, e9_23, e9_24, e9_26, e9_27, e9_30, e9_33, e9_34, e9_37, e9_38, e9_39, e9_40, e9_43, e9_44, e9_47, e9_48, e9_49, e9_52, e9_53, e9_56, e9_57, e9_58, e9_59, e9_60, e9_62, e9_63, e9_64, e9_67, e9_68, e9_69, e9_72, e9_73, e9_76, e9_79, e9_80, e9_83, e9_84, e9_86, e9_88, e9_89, e9_92, e9_95, e9_96, e9_97, e9_98, e9_101, e9_104, e9_105, e9_106, e9_109, e9_111, e9_112, e9_113, e9_116, e9_118, e9_119, e9_121, e9_123, zs0, zsI, zsL, zsR, ztl1, ztl0, zc0, zcI, zcL, zcR, true_and, and_true, true_implies, false_implies, implies_true, not_true_eq_false, not_false_eq_true, and_self, Int.toNat_natCast, Nat.reduceAdd, Nat.reduceLeDiff, Nat.reduceLT, forall_eq', Option.some.injEq, zarR, zarI, zarL, zle, zq0, zq1, zq2, zq3, zq4, zq5, zq6, zq8, zq9, zq10, zq20, zq7, zq12, zq24, zq40, zq41, zq48, zq100, zq120, zq123, zq480, zq492, zq700, zq729, zq2187, zq2916, zq8748, ne_eq, Int.reduceEq, Int.reduceLT, Int.reduceLE, Int.reduceToNat, Int.reduceMul, Int.reduceAdd, Int.reduceNeg, gk48 hg, gr48_0 hg, gr48_1 hg, gr48_2 hg, gr48_3 hg, gk49 hg, gr49_0 hg, gr49_1 hg, gr49_2 hg, gr49_3 hg, gr49_4 hg, gr49_5 hg, gr49_6 hg, gr49_7 hg, gr49_8 hg, gk54 hg, gl54 hg, gk55 hg, gl55 hg, gk59 hg, gl59 hg, gk60 hg, gl60 hg, gk51 hg, gl51 hg, n3, t3', s4, c1, hs, ho', hn', e1, aNear, h3, hft, if_true, if_false, true_or]
        simp (disch := omega) only [wr_id]
        exact iff_of_eq (congrArg (fun z => Q (some (zI z)) G h) (by omega))
      · have c1 : ¬ (f : Int) = t := by omega
        by_cases hf3 : f = 3
        · subst hf3
          have c2 : ¬ (3 : Int) = t := by omega
          simp only [e9_0, e9_1, e9_4, e9_5, e9_8, e9_9, e9_10, e9_13, e9_14, e9_16, e9_17, e9_18, e9_21, e9_23, e9_24, e9_26, e9_27, e9_30, e9_33, e9_34, e9_37, e9_38, e9_39, e9_40, e9_43, e9_44, e9_47, e9_48, e9_49, e9_52, e9_53, e9_56, e9_57, e9_58, e9_59, e9_60, e9_62, e9_63, e9_64, e9_67, e9_68, e9_69, e9_72, e9_73, e9_76, e9_79, e9_80, e9_83, e9_84, e9_86, e9_88, e9_89, e9_92, e9_95, e9_96, e9_97, e9_98, e9_101, e9_104, e9_105, e9_106, e9_109, e9_111, e9_112, e9_113, e9_116, e9_118, e9_119, e9_121, e9_123, zs0, zsI, zsL, zsR, ztl1, ztl0, zc0, zcI, zcL, zcR, true_and, and_true, true_implies, false_implies, implies_true, not_true_eq_false, not_false_eq_true, and_self, Int.toNat_natCast, Nat.reduceAdd, Nat.reduceLeDiff, Nat.reduceLT, forall_eq', Option.some.injEq, zarR, zarI, zarL, zle, zq0, zq1, zq2, zq3, zq4, zq5, zq6, zq8, zq9, zq10, zq20, zq7, zq12, zq24, zq40, zq41, zq48, zq100, zq120, zq123, zq480, zq492, zq700, zq729, zq2187, zq2916, zq8748, ne_eq, Int.reduceEq, Int.reduceLT, Int.reduceLE, Int.reduceToNat, Int.reduceMul, Int.reduceAdd, Int.reduceNeg, gk48 hg, gr48_0 hg, gr48_1 hg, gr48_2 hg, gr48_3 hg, gk49 hg, gr49_0 hg, gr49_1 hg, gr49_2 hg, gr49_3 hg, gr49_4 hg, gr49_5 hg, gr49_6 hg, gr49_7 hg, gr49_8 hg, gk54 hg, gl54 hg, gk55 hg, gl55 hg, gk59 hg, gl59 hg, gk60 hg, gl60 hg, gk51 hg, gl51 hg, n3, t3', s4, c2, hs, ho', hn', e1, aNear, h3, hft, if_true, if_false, or_true]
          simp (disch := omega) only [wr_id]
          exact iff_of_eq (congrArg (fun z => Q (some (zI z)) G h) (by omega))
        · have c2 : ¬ (f : Int) = 3 := by omega
          have f3' : (f : Int) < 3 := by omega
          have e4 := hT.2.2.2.2.2.2.1 f (by omega)
          by_cases hfit : tr T 1 f = tr T 1 t
          · simp only [e9_0, e9_1, e9_4, e9_5, e9_8, e9_9, e9_10, e9_13, e9_14, e9_16, e9_17, e9_18, e9_21, e9_23, e9_24, e9_26, e9_27, e9_30, e9_33, e9_34, e9_37, e9_38, e9_39, e9_40, e9_43, e9_44, e9_47, e9_48, e9_49, e9_52, e9_53, e9_56, e9_57, e9_58, e9_59, e9_60, e9_62, e9_63, e9_64, e9_67, e9_68, e9_69, e9_72, e9_73, e9_76, e9_79, e9_80, e9_83, e9_84, e9_86, e9_88, e9_89, e9_92, e9_95, e9_96, e9_97, e9_98, e9_101, e9_104, e9_105, e9_106, e9_109, e9_111, e9_112, e9_113, e9_116, e9_118, e9_119, e9_121, e9_123, zs0, zsI, zsL, zsR, ztl1, ztl0, zc0, zcI, zcL, zcR, true_and, and_true, true_implies, false_implies, implies_true, not_true_eq_false, not_false_eq_true, and_self, Int.toNat_natCast, Nat.reduceAdd, Nat.reduceLeDiff, Nat.reduceLT, forall_eq', Option.some.injEq, zarR, zarI, zarL, zle, zq0, zq1, zq2, zq3, zq4, zq5, zq6, zq8, zq9, zq10, zq20, zq7, zq12, zq24, zq40, zq41, zq48, zq100, zq120, zq123, zq480, zq492, zq700, zq729, zq2187, zq2916, zq8748, ne_eq, Int.reduceEq, Int.reduceLT, Int.reduceLE, Int.reduceToNat, Int.reduceMul, Int.reduceAdd, Int.reduceNeg, gk48 hg, gr48_0 hg, gr48_1 hg, gr48_2 hg, gr48_3 hg, gk49 hg, gr49_0 hg, gr49_1 hg, gr49_2 hg, gr49_3 hg, gr49_4 hg, gr49_5 hg, gr49_6 hg, gr49_7 hg, gr49_8 hg, gk54 hg, gl54 hg, gk55 hg, gl55 hg, gk59 hg, gl59 hg, gk60 hg, gl60 hg, gk51 hg, gl51 hg, n3, t3', f3', s4, c1, c2, hs, ho', hn', e1, e2, e3, e4, aNear, h3, hft, hf3, hfit, if_true, if_false, or_self]
            simp (disch := omega) only [wr_id, Int.tdiv_eq_ediv_of_nonneg]
            exact iff_of_eq (congrArg (fun z => Q (some (zI z)) G h) (by omega))
          · simp only [e9_0, e9_1, e9_4, e9_5, e9_8, e9_9, e9_10, e9_13, e9_14, e9_16, e9_17, e9_18, e9_21, e9_23, e9_24, e9_26, e9_27, e9_30, e9_33, e9_34, e9_37, e9_38, e9_39, e9_40, e9_43, e9_44, e9_47, e9_48, e9_49, e9_52, e9_53, e9_56, e9_57, e9_58, e9_59, e9_60, e9_62, e9_63, e9_64, e9_67, e9_68, e9_69, e9_72, e9_73, e9_76, e9_79, e9_80, e9_83, e9_84, e9_86, e9_88, e9_89, e9_92, e9_95, e9_96, e9_97, e9_98, e9_101, e9_104, e9_105, e9_106, e9_109, e9_111, e9_112, e9_113, e9_116, e9_118, e9_119, e9_121, e9_123, zs0, zsI, zsL, zsR, ztl1, ztl0, zc0, zcI, zcL, zcR, true_and, and_true, true_implies, false_implies, implies_true, not_true_eq_false, not_false_eq_true, and_self, Int.toNat_natCast, Nat.reduceAdd, Nat.reduceLeDiff, Nat.reduceLT, forall_eq', Option.some.injEq, zarR, zarI, zarL, zle, zq0, zq1, zq2, zq3, zq4, zq5, zq6, zq8, zq9, zq10, zq20, zq7, zq12, zq24, zq40, zq41, zq48, zq100, zq120, zq123, zq480, zq492, zq700, zq729, zq2187, zq2916, zq8748, ne_eq, Int.reduceEq, Int.reduceLT, Int.reduceLE, Int.reduceToNat, Int.reduceMul, Int.reduceAdd, Int.reduceNeg, gk48 hg, gr48_0 hg, gr48_1 hg, gr48_2 hg, gr48_3 hg, gk49 hg, gr49_0 hg, gr49_1 hg, gr49_2 hg, gr49_3 hg, gr49_4 hg, gr49_5 hg, gr49_6 hg, gr49_7 hg, gr49_8 hg, gk54 hg, gl54 hg, gk55 hg, gl55 hg, gk59 hg, gl59 hg, gk60 hg, gl60 hg, gk51 hg, gl51 hg, n3, t3', f3', s4, c1, c2, hs, ho', hn', e1, e2, e3, e4, aNear, h3, hft, hf3, hfit, if_true, if_false, or_self]
            simp (disch := omega) only [wr_id, Int.tdiv_eq_ediv_of_nonneg]
            exact iff_of_eq (congrArg (fun z => Q (some (zI z)) G h) (by omega))
    by_cases h0 : far = 0
    · simp only [e9_0, e9_1, e9_4, e9_5, e9_8, e9_9, e9_10, e9_13, e9_14, e9_17, e9_18, e9_21, e9_23, e9_24, e9_26, e9_27, e9_30, e9_33, e9_34, e9_37, e9_38, e9_39, e9_40, e9_43, e9_44, e9_47, e9_48, e9_49, e9_52, e9_53, e9_56, e9_57, e9_58, e9_59, e9_60, e9_62, e9_63, e9_64, e9_67, e9_68, e9_69, e9_72, e9_73, e9_76, e9_79, e9_80, e9_83, e9_84, e9_86, e9_88, e9_89, e9_92, e9_95, e9_96, e9_97, e9_98, e9_101, e9_104, e9_105, e9_106, e9_109, e9_111, e9_112, e9_113, e9_116, e9_118, e9_119, e9_121, e9_123, zs0, zsI, zsL, zsR, ztl1, ztl0, zc0, zcI, zcL, zcR, true_and, and_true, true_implies, false_implies, implies_true, not_true_eq_false, not_false_eq_true, and_self, Int.toNat_natCast, Nat.reduceAdd, Nat.reduceLeDiff, Nat.reduceLT, forall_eq', Option.some.injEq, zarR, zarI, zarL, zle, zq0, zq1, zq2, zq3, zq4, zq5, zq6, zq8, zq9, zq10, zq20, zq7, zq12, zq24, zq40, zq41, zq48, zq100, zq120, zq123, zq480, zq492, zq700, zq729, zq2187, zq2916, zq8748, ne_eq, Int.reduceEq, Int.reduceLT, Int.reduceLE, Int.reduceToNat, Int.reduceMul, Int.reduceAdd, Int.reduceNeg, gk48 hg, gr48_0 hg, gr48_1 hg, gr48_2 hg, gr48_3 hg, gk61 hg, gl61 hg, h0, if_true] at key ⊢
      exact key 0 (by omega)
    · simp only [e9_0, e9_1, e9_4, e9_5, e9_8, e9_9, e9_10, e9_13, e9_14, e9_17, e9_18, e9_21, e9_23, e9_24, e9_26, e9_27, e9_30, e9_33, e9_34, e9_37, e9_38, e9_39, e9_40, e9_43, e9_44, e9_47, e9_48, e9_49, e9_52, e9_53, e9_56, e9_57, e9_58, e9_59, e9_60, e9_62, e9_63, e9_64, e9_67, e9_68, e9_69, e9_72, e9_73, e9_76, e9_79, e9_80, e9_83, e9_84, e9_86, e9_88, e9_89, e9_92, e9_95, e9_96, e9_97, e9_98, e9_101, e9_104, e9_105, e9_106, e9_109, e9_111, e9_112, e9_113, e9_116, e9_118, e9_119, e9_121, e9_123, zs0, zsI, zsL, zsR, ztl1, ztl0, zc0, zcI, zcL, zcR, true_and, and_true, true_implies, false_implies, implies_true, not_true_eq_false, not_false_eq_true, and_self, Int.toNat_natCast, Nat.reduceAdd, Nat.reduceLeDiff, Nat.reduceLT, forall_eq', Option.some.injEq, zarR, zarI, zarL, zle, zq0, zq1, zq2, zq3, zq4, zq5, zq6, zq8, zq9, zq10, zq20, zq7, zq12, zq24, zq40, zq41, zq48, zq100, zq120, zq123, zq480, zq492, zq700, zq729, zq2187, zq2916, zq8748, ne_eq, Int.reduceEq, Int.reduceLT, Int.reduceLE, Int.reduceToNat, Int.reduceMul, Int.reduceAdd, Int.reduceNeg, gk48 hg, gr48_0 hg, gr48_1 hg, gr48_2 hg, gr48_3 hg, gk61 hg, gl61 hg, h0, if_false, ha h0, t4] at key ⊢
      exact key _ ba
theorem c_most47 (hg : gS G) (hT : kT h 49 T) (hw : wT T) (hs : h 48 4 = (s : Int)) (hs4 : s < nS T) (hf : f < nB T ∨ f = 3) (ho : ∀ t, t < nB T → h 59 t = own t) (hn : ∀ t, t < nB T → h 60 t = oth t) (bo : bP own) (bn : bP oth) : zRunD ztb zmt' (d + 2) 8 [zR (some 48), zI f] G h Q ↔ Q (some (zI (aMost T own oth s f (nB T)))) G h := by
  rw [r8]
  have hb := hw.1
  have e1 := hT.1
  have lp : ∀ j i, i + j = nB T → (zE 8 (d + 1) Q 4 [some (zR (some 48)), some (zI f), some (zI (aMost T own oth s f i)), some (zI i)] [] G h (0, 0) ↔ Q (some (zI (aMost T own oth s f (nB T)))) G h) := by
    intro j
    induction j with
    | zero =>
      intro i hi
      have c : (nB T : Int) ≤ i := by omega
      have hi' : i = nB T := by omega
      rw [e8_4]
      simp only [e8_0, e8_1, e8_2, e8_3, e8_5, e8_6, e8_9, e8_12, e8_15, e8_16, e8_17, e8_18, e8_19, e8_20, e8_23, e8_26, e8_27, e8_30, e8_33, e8_34, zs0, zsI, zsL, zsR, ztl1, ztl0, zc0, zcI, zcL, zcR, true_and, and_true, true_implies, false_implies, implies_true, not_true_eq_false, not_false_eq_true, and_self, Int.toNat_natCast, Nat.reduceAdd, Nat.reduceLeDiff, Nat.reduceLT, forall_eq', Option.some.injEq, zarR, zarI, zarL, zle, zq0, zq1, zq2, zq3, zq4, zq5, zq6, zq8, zq9, zq10, zq20, zq7, zq12, zq24, zq40, zq41, zq48, zq100, zq120, zq123, zq480, zq492, zq700, zq729, zq2187, zq2916, zq8748, ne_eq, Int.reduceEq, Int.reduceLT, Int.reduceLE, Int.reduceToNat, Int.reduceMul, Int.reduceAdd, Int.reduceNeg, gk48 hg, gr48_0 hg, gr48_1 hg, gr48_2 hg, gr48_3 hg, gk49 hg, gr49_0 hg, gr49_1 hg, gr49_2 hg, gr49_3 hg, gr49_4 hg, gr49_5 hg, gr49_6 hg, gr49_7 hg, gr49_8 hg, e1, c]
      rw [hi']
    | succ j ih =>
      intro i hi
      have c : ¬ (nB T : Int) ≤ i := by omega
      have hh := fun Q' => c_has47 (d := d) (Q := Q') (far := 0) (f := f) (t := i) hg hT hw hs hs4 hf (by omega) (fun _ => ho i (by omega)) (fun _ => hn i (by omega)) bo bn (fun h0 => absurd rfl h0)
      rw [e8_4]
      simp only [e8_0, e8_1, e8_2, e8_3, e8_5, e8_6, e8_9, e8_12, e8_15, e8_16, e8_17, e8_18, e8_19, e8_20, e8_23, e8_26, e8_27, e8_30, e8_33, e8_34, zs0, zsI, zsL, zsR, ztl1, ztl0, zc0, zcI, zcL, zcR, true_and, and_true, true_implies, false_implies, implies_true, not_true_eq_false, not_false_eq_true, and_self, Int.toNat_natCast, Nat.reduceAdd, Nat.reduceLeDiff, Nat.reduceLT, forall_eq', Option.some.injEq, zarR, zarI, zarL, zle, zq0, zq1, zq2, zq3, zq4, zq5, zq6, zq8, zq9, zq10, zq20, zq7, zq12, zq24, zq40, zq41, zq48, zq100, zq120, zq123, zq480, zq492, zq700, zq729, zq2187, zq2916, zq8748, ne_eq, Int.reduceEq, Int.reduceLT, Int.reduceLE, Int.reduceToNat, Int.reduceMul, Int.reduceAdd, Int.reduceNeg, gk48 hg, gr48_0 hg, gr48_1 hg, gr48_2 hg, gr48_3 hg, gk49 hg, gr49_0 hg, gr49_1 hg, gr49_2 hg, gr49_3 hg, gr49_4 hg, gr49_5 hg, gr49_6 hg, gr49_7 hg, gr49_8 hg, e1, c, hh, s_max, aHas0, wr_s (show i < 2147483647 by omega)]
      exact ih (i + 1) (by omega)
  simp only [e8_0, e8_1, e8_2, e8_3, e8_5, e8_6, e8_9, e8_12, e8_15, e8_16, e8_17, e8_18, e8_19, e8_20, e8_23, e8_26, e8_27, e8_30, e8_33, e8_34, zs0, zsI, zsL, zsR, ztl1, ztl0, zc0, zcI, zcL, zcR, true_and, and_true, true_implies, false_implies, implies_true, not_true_eq_false, not_false_eq_true, and_self, Int.toNat_natCast, Nat.reduceAdd, Nat.reduceLeDiff, Nat.reduceLT, forall_eq', Option.some.injEq, zarR, zarI, zarL, zle, zq0, zq1, zq2, zq3, zq4, zq5, zq6, zq8, zq9, zq10, zq20, zq7, zq12, zq24, zq40, zq41, zq48, zq100, zq120, zq123, zq480, zq492, zq700, zq729, zq2187, zq2916, zq8748, ne_eq, Int.reduceEq, Int.reduceLT, Int.reduceLE, Int.reduceToNat, Int.reduceMul, Int.reduceAdd, Int.reduceNeg]
  exact lp (nB T) 0 (by omega)
theorem c_turn47 (hg : gS G) (hT : kT h 49 T) (hw : wT T) (hs4 : s < nS T) (ho : ∀ t, t < nB T → h 59 t = own t) (hn : ∀ t, t < nB T → h 60 t = oth t) (bo : bP own) (bn : bP oth) (K : ∀ h' : zM, (∀ c i, ¬ c = 61 → ¬ (c = 48 ∧ i = 4) → h' c i = h c i) → h' 48 4 = (s : Int) → (∀ t, t < nB T ∨ t = 3 → h' 61 t = aAh T own oth s t) → Q none G h') : zRunD ztb zmt' (d + 3) 7 [zR (some 48), zI s] G h Q := by
  rw [r7]
  have hb := hw.1
  have hkp := hw.2.2.2.2.1
  have lp : ∀ j i (h1 : zM), i + j = nB T → (∀ c i, ¬ c = 61 → ¬ (c = 48 ∧ i = 4) → h1 c i = h c i) → h1 48 4 = (s : Int) → (∀ t, t < i → h1 61 t = aAh T own oth s t) → zE 7 (d + 2) Q 7 [some (zR (some 48)), some (zI s), some (zI i)] [] G h1 (0, 0) := by
    intro j
    induction j with
    | zero =>
      intro i h1 hi hf h2 h3
      have hT1 : kT h1 49 T := kT_frame hT (fun c i h5 h6 => hf c i (by omega) (by omega))
      have e1 := hT1.1
      have e5 := hT1.2.2.2.2.1
      have c : (nB T : Int) ≤ i := by omega
      have hh := fun Q' => c_most47 (d := d) (Q := Q') (f := 3) hg hT1 hw h2 hs4 (by omega) (fun t ht => by rw [hf _ _ (by decide) (by omega)]; exact ho t ht) (fun t ht => by rw [hf _ _ (by decide) (by omega)]; exact hn t ht) bo bn
      have b1 := aMost_b hw bo bn s 3 (nB T)
      have b2 : 0 ≤ kp T * aMost T own oth s 3 (nB T) := Int.mul_nonneg hkp.1 b1.1
      have b3 : kp T * aMost T own oth s 3 (nB T) ≤ 100 * 199 := Int.mul_le_mul hkp.2 b1.2 b1.1 (by decide)
      rw [e7_7]
      simp only [e7_0, e7_1, e7_2, e7_5, e7_6, e7_8, e7_9, e7_12, e7_15, e7_18, e7_19, e7_22, e7_23, e7_24, e7_27, e7_30, e7_31, e7_32, e7_35, e7_36, e7_38, e7_39, e7_40, e7_43, e7_46, e7_47, e7_50, e7_51, e7_52, e7_55, e7_58, e7_59, e7_60, e7_63, e7_64, e7_66, e7_67, e7_68, zs0, zsI, zsL, zsR, ztl1, ztl0, zc0, zcI, zcL, zcR, true_and, and_true, true_implies, false_implies, implies_true, not_true_eq_false, not_false_eq_true, and_self, Int.toNat_natCast, Nat.reduceAdd, Nat.reduceLeDiff, Nat.reduceLT, forall_eq', Option.some.injEq, zarR, zarI, zarL, zle, zq0, zq1, zq2, zq3, zq4, zq5, zq6, zq8, zq9, zq10, zq20, zq7, zq12, zq24, zq40, zq41, zq48, zq100, zq120, zq123, zq480, zq492, zq700, zq729, zq2187, zq2916, zq8748, ne_eq, Int.reduceEq, Int.reduceLT, Int.reduceLE, Int.reduceToNat, Int.reduceMul, Int.reduceAdd, Int.reduceNeg, gk48 hg, gr48_0 hg, gr48_1 hg, gr48_2 hg, gr48_3 hg, gk49 hg, gr49_0 hg, gr49_1 hg, gr49_2 hg, gr49_3 hg, gr49_4 hg, gr49_5 hg, gr49_6 hg, gr49_7 hg, gr49_8 hg, gk61 hg, gl61 hg, e1, e5, c, Int.reduceLT, Int.reduceLE, Int.reduceToNat, Int.reduceEq, ne_eq]
      simp only [show (3 : Int) = ((3 : Nat) : Int) from rfl]
      rw [hh]
      simp (disch := omega) only [wr_id, Int.tdiv_eq_ediv_of_nonneg, e7_0, e7_1, e7_2, e7_5, e7_6, e7_8, e7_9, e7_12, e7_15, e7_18, e7_19, e7_22, e7_23, e7_24, e7_27, e7_30, e7_31, e7_32, e7_35, e7_36, e7_38, e7_39, e7_40, e7_43, e7_46, e7_47, e7_50, e7_51, e7_52, e7_55, e7_58, e7_59, e7_60, e7_63, e7_64, e7_66, e7_67, e7_68, zs0, zsI, zsL, zsR, ztl1, ztl0, zc0, zcI, zcL, zcR, true_and, and_true, true_implies, false_implies, implies_true, not_true_eq_false, not_false_eq_true, and_self, Int.toNat_natCast, Nat.reduceAdd, Nat.reduceLeDiff, Nat.reduceLT, forall_eq', Option.some.injEq, zarR, zarI, zarL, zle, zq0, zq1, zq2, zq3, zq4, zq5, zq6, zq8, zq9, zq10, zq20, zq7, zq12, zq24, zq40, zq41, zq48, zq100, zq120, zq123, zq480, zq492, zq700, zq729, zq2187, zq2916, zq8748, ne_eq, Int.reduceEq, Int.reduceLT, Int.reduceLE, Int.reduceToNat, Int.reduceMul, Int.reduceAdd, Int.reduceNeg, gk48 hg, gr48_0 hg, gr48_1 hg, gr48_2 hg, gr48_3 hg, gk49 hg, gr49_0 hg, gr49_1 hg, gr49_2 hg, gr49_3 hg, gr49_4 hg, gr49_5 hg, gr49_6 hg, gr49_7 hg, gr49_8 hg, gk61 hg, gl61 hg, Int.reduceLT, Int.reduceLE, Int.reduceToNat, Int.reduceEq, ne_eq]
      apply K
      · intro c i hc hc2
        rw [zu_c hc]
        exact hf c i hc hc2
      · rw [zu_c (by decide)]
        exact h2
      · intro t ht
        by_cases ht3 : t = 3
        · subst ht3
          exact zu_at
        · rw [zu_i ht3]
          exact h3 t (by omega)
    | succ j ih =>
      intro i h1 hi hf h2 h3
      have hT1 : kT h1 49 T := kT_frame hT (fun c i h5 h6 => hf c i (by omega) (by omega))
      have e1 := hT1.1
      have e5 := hT1.2.2.2.2.1
      have c : ¬ (nB T : Int) ≤ i := by omega
      have hi4 : (i : Int) < 4 := by omega
      have hh := fun Q' => c_most47 (d := d) (Q := Q') (f := i) hg hT1 hw h2 hs4 (by omega) (fun t ht => by rw [hf _ _ (by decide) (by omega)]; exact ho t ht) (fun t ht => by rw [hf _ _ (by decide) (by omega)]; exact hn t ht) bo bn
      have b1 := aMost_b hw bo bn s i (nB T)
      have b2 : 0 ≤ kp T * aMost T own oth s i (nB T) := Int.mul_nonneg hkp.1 b1.1
      have b3 : kp T * aMost T own oth s i (nB T) ≤ 100 * 199 := Int.mul_le_mul hkp.2 b1.2 b1.1 (by decide)
      rw [e7_7]
      simp only [e7_0, e7_1, e7_2, e7_5, e7_6, e7_8, e7_9, e7_12, e7_15, e7_18, e7_19, e7_22, e7_23, e7_24, e7_27, e7_30, e7_31, e7_32, e7_35, e7_36, e7_38, e7_39, e7_40, e7_43, e7_46, e7_47, e7_50, e7_51, e7_52, e7_55, e7_58, e7_59, e7_60, e7_63, e7_64, e7_66, e7_67, e7_68, zs0, zsI, zsL, zsR, ztl1, ztl0, zc0, zcI, zcL, zcR, true_and, and_true, true_implies, false_implies, implies_true, not_true_eq_false, not_false_eq_true, and_self, Int.toNat_natCast, Nat.reduceAdd, Nat.reduceLeDiff, Nat.reduceLT, forall_eq', Option.some.injEq, zarR, zarI, zarL, zle, zq0, zq1, zq2, zq3, zq4, zq5, zq6, zq8, zq9, zq10, zq20, zq7, zq12, zq24, zq40, zq41, zq48, zq100, zq120, zq123, zq480, zq492, zq700, zq729, zq2187, zq2916, zq8748, ne_eq, Int.reduceEq, Int.reduceLT, Int.reduceLE, Int.reduceToNat, Int.reduceMul, Int.reduceAdd, Int.reduceNeg, gk48 hg, gr48_0 hg, gr48_1 hg, gr48_2 hg, gr48_3 hg, gk49 hg, gr49_0 hg, gr49_1 hg, gr49_2 hg, gr49_3 hg, gr49_4 hg, gr49_5 hg, gr49_6 hg, gr49_7 hg, gr49_8 hg, gk61 hg, gl61 hg, e1, e5, c, hh, hi4, Int.reduceEq, ne_eq, wr_s (show i < 2147483647 by omega)]
      simp (disch := omega) only [wr_id, Int.tdiv_eq_ediv_of_nonneg]
      apply ih (i + 1) _ (by omega)
      · intro c i hc hc2
        rw [zu_c hc]
        exact hf c i hc hc2
      · rw [zu_c (by decide)]
        exact h2
      · intro t ht
        by_cases ht3 : t = i
        · subst ht3
          exact zu_at
        · rw [zu_i ht3]
          exact h3 t (by omega)
  simp only [e7_0, e7_1, e7_2, e7_5, e7_6, e7_8, e7_9, e7_12, e7_15, e7_18, e7_19, e7_22, e7_23, e7_24, e7_27, e7_30, e7_31, e7_32, e7_35, e7_36, e7_38, e7_39, e7_40, e7_43, e7_46, e7_47, e7_50, e7_51, e7_52, e7_55, e7_58, e7_59, e7_60, e7_63, e7_64, e7_66, e7_67, e7_68, zs0, zsI, zsL, zsR, ztl1, ztl0, zc0, zcI, zcL, zcR, true_and, and_true, true_implies, false_implies, implies_true, not_true_eq_false, not_false_eq_true, and_self, Int.toNat_natCast, Nat.reduceAdd, Nat.reduceLeDiff, Nat.reduceLT, forall_eq', Option.some.injEq, zarR, zarI, zarL, zle, zq0, zq1, zq2, zq3, zq4, zq5, zq6, zq8, zq9, zq10, zq20, zq7, zq12, zq24, zq40, zq41, zq48, zq100, zq120, zq123, zq480, zq492, zq700, zq729, zq2187, zq2916, zq8748, ne_eq, Int.reduceEq, Int.reduceLT, Int.reduceLE, Int.reduceToNat, Int.reduceMul, Int.reduceAdd, Int.reduceNeg, gk48 hg, gr48_0 hg, gr48_1 hg, gr48_2 hg, gr48_3 hg]
  apply lp (nB T) 0 _ (by omega)
  · intro c i h5 h6
    unfold zu
    rw [if_neg h6]
  · exact zu_at
  · intro t ht
    omega
theorem c_choice47 (hg : gS G) (hT : kT h 49 T) (hw : wT T) (hs : h 48 4 = (s : Int)) (hs4 : s < nS T) (hf : f < nB T ∨ f = 3) (ho : ∀ t, t < nB T → h 59 t = own t) (hn : ∀ t, t < nB T → h 60 t = oth t) (bo : bP own) (bn : bP oth) (ha : ∀ t, t < nB T ∨ t = 3 → h 61 t = aAh T own oth s t) : zRunD ztb zmt' (d + 2) 10 [zR (some 48), zI f, zI far] G h Q ↔ Q (some (zI (aCh T own oth s far f : Nat))) G h := by
  rw [r10]
  have hb := hw.1
  have e1 := hT.1
  have hx : ∀ t, t < nB T → ∀ Q' : zQ, zRunD ztb zmt' (d + 1) 9 [zR (some 48), zI f, zI t, zI far] G h Q' ↔ Q' (some (zI (aHas T own oth s far f t))) G h := fun t ht Q' => c_has47 hg hT hw hs hs4 (by omega) (by omega) (fun _ => ho t (by omega)) (fun _ => hn t (by omega)) bo bn (fun _ => ha t (by omega))
  have h3 : ∀ Q' : zQ, zRunD ztb zmt' (d + 1) 9 [zR (some 48), zI f, zI 3, zI far] G h Q' ↔ Q' (some (zI (aHas T own oth s far f 3))) G h := fun Q' => c_has47 (t := 3) hg hT hw hs hs4 (by omega) (by omega) (fun h3 => by omega) (fun h3 => by omega) bo bn (fun _ => ha 3 (by omega))
  have lp : ∀ j i (l6 : Option zV), i + j = nB T → (zE 10 (d + 1) Q 23 [some (zR (some 48)), some (zI f), some (zI far), some (zI ((aChU T own oth s far f i).2 : Nat)), some (zI (aChU T own oth s far f i).1), some (zI i), l6] [] G h (0, 0) ↔ Q (some (zI (aCh T own oth s far f : Nat))) G h) := by
    intro j
    induction j with
    | zero =>
      intro i l6 hi
      have c : (nB T : Int) ≤ i := by omega
      have hi' : i = nB T := by omega
      rw [e10_23]
      subst hi'
      by_cases c2 : aHas T own oth s far f 3 ≤ (aChU T own oth s far f (nB T)).1
      · have c3 : ¬ (aChU T own oth s far f (nB T)).1 < aHas T own oth s far f 3 := by omega
        simp only [e10_0, e10_1, e10_2, e10_5, e10_6, e10_9, e10_10, e10_11, e10_12, e10_13, e10_14, e10_15, e10_18, e10_20, e10_21, e10_25, e10_26, e10_29, e10_32, e10_35, e10_36, e10_37, e10_39, e10_40, e10_43, e10_45, e10_47, e10_49, e10_52, e10_54, e10_56, e10_58, e10_59, e10_62, e10_65, e10_66, e10_67, e10_68, e10_69, e10_72, e10_74, e10_77, e10_78, e10_81, e10_82, zs0, zsI, zsL, zsR, ztl1, ztl0, zc0, zcI, zcL, zcR, true_and, and_true, true_implies, false_implies, implies_true, not_true_eq_false, not_false_eq_true, and_self, Int.toNat_natCast, Nat.reduceAdd, Nat.reduceLeDiff, Nat.reduceLT, forall_eq', Option.some.injEq, zarR, zarI, zarL, zle, zq0, zq1, zq2, zq3, zq4, zq5, zq6, zq8, zq9, zq10, zq20, zq7, zq12, zq24, zq40, zq41, zq48, zq100, zq120, zq123, zq480, zq492, zq700, zq729, zq2187, zq2916, zq8748, ne_eq, Int.reduceEq, Int.reduceLT, Int.reduceLE, Int.reduceToNat, Int.reduceMul, Int.reduceAdd, Int.reduceNeg, gk48 hg, gr48_0 hg, gr48_1 hg, gr48_2 hg, gr48_3 hg, gk49 hg, gr49_0 hg, gr49_1 hg, gr49_2 hg, gr49_3 hg, gr49_4 hg, gr49_5 hg, gr49_6 hg, gr49_7 hg, gr49_8 hg, e1, c, h3, c2, aCh, c3, if_false]
      · have c3 : (aChU T own oth s far f (nB T)).1 < aHas T own oth s far f 3 := by omega
        simp only [e10_0, e10_1, e10_2, e10_5, e10_6, e10_9, e10_10, e10_11, e10_12, e10_13, e10_14, e10_15, e10_18, e10_20, e10_21, e10_25, e10_26, e10_29, e10_32, e10_35, e10_36, e10_37, e10_39, e10_40, e10_43, e10_45, e10_47, e10_49, e10_52, e10_54, e10_56, e10_58, e10_59, e10_62, e10_65, e10_66, e10_67, e10_68, e10_69, e10_72, e10_74, e10_77, e10_78, e10_81, e10_82, zs0, zsI, zsL, zsR, ztl1, ztl0, zc0, zcI, zcL, zcR, true_and, and_true, true_implies, false_implies, implies_true, not_true_eq_false, not_false_eq_true, and_self, Int.toNat_natCast, Nat.reduceAdd, Nat.reduceLeDiff, Nat.reduceLT, forall_eq', Option.some.injEq, zarR, zarI, zarL, zle, zq0, zq1, zq2, zq3, zq4, zq5, zq6, zq8, zq9, zq10, zq20, zq7, zq12, zq24, zq40, zq41, zq48, zq100, zq120, zq123, zq480, zq492, zq700, zq729, zq2187, zq2916, zq8748, ne_eq, Int.reduceEq, Int.reduceLT, Int.reduceLE, Int.reduceToNat, Int.reduceMul, Int.reduceAdd, Int.reduceNeg, gk48 hg, gr48_0 hg, gr48_1 hg, gr48_2 hg, gr48_3 hg, gk49 hg, gr49_0 hg, gr49_1 hg, gr49_2 hg, gr49_3 hg, gr49_4 hg, gr49_5 hg, gr49_6 hg, gr49_7 hg, gr49_8 hg, e1, c, h3, c2, aCh, c3, if_true]
    | succ j ih =>
      intro i l6 hi
      have c : ¬ (nB T : Int) ≤ i := by omega
      rw [e10_23]
      have hi := ih (i + 1) (some (zI (aHas T own oth s far f i))) (by omega)
      by_cases c2 : aHas T own oth s far f i ≤ (aChU T own oth s far f i).1
      · have c3 : ¬ (aChU T own oth s far f i).1 < aHas T own oth s far f i := by omega
        simp only [e10_0, e10_1, e10_2, e10_5, e10_6, e10_9, e10_10, e10_11, e10_12, e10_13, e10_14, e10_15, e10_18, e10_20, e10_21, e10_25, e10_26, e10_29, e10_32, e10_35, e10_36, e10_37, e10_39, e10_40, e10_43, e10_45, e10_47, e10_49, e10_52, e10_54, e10_56, e10_58, e10_59, e10_62, e10_65, e10_66, e10_67, e10_68, e10_69, e10_72, e10_74, e10_77, e10_78, e10_81, e10_82, zs0, zsI, zsL, zsR, ztl1, ztl0, zc0, zcI, zcL, zcR, true_and, and_true, true_implies, false_implies, implies_true, not_true_eq_false, not_false_eq_true, and_self, Int.toNat_natCast, Nat.reduceAdd, Nat.reduceLeDiff, Nat.reduceLT, forall_eq', Option.some.injEq, zarR, zarI, zarL, zle, zq0, zq1, zq2, zq3, zq4, zq5, zq6, zq8, zq9, zq10, zq20, zq7, zq12, zq24, zq40, zq41, zq48, zq100, zq120, zq123, zq480, zq492, zq700, zq729, zq2187, zq2916, zq8748, ne_eq, Int.reduceEq, Int.reduceLT, Int.reduceLE, Int.reduceToNat, Int.reduceMul, Int.reduceAdd, Int.reduceNeg, gk48 hg, gr48_0 hg, gr48_1 hg, gr48_2 hg, gr48_3 hg, gk49 hg, gr49_0 hg, gr49_1 hg, gr49_2 hg, gr49_3 hg, gr49_4 hg, gr49_5 hg, gr49_6 hg, gr49_7 hg, gr49_8 hg, e1, c, hx i (by omega), c2, wr_s (show i < 2147483647 by omega)]
        simp only [aChU, c3, if_false] at hi
        exact hi
      · have c3 : (aChU T own oth s far f i).1 < aHas T own oth s far f i := by omega
        simp only [e10_0, e10_1, e10_2, e10_5, e10_6, e10_9, e10_10, e10_11, e10_12, e10_13, e10_14, e10_15, e10_18, e10_20, e10_21, e10_25, e10_26, e10_29, e10_32, e10_35, e10_36, e10_37, e10_39, e10_40, e10_43, e10_45, e10_47, e10_49, e10_52, e10_54, e10_56, e10_58, e10_59, e10_62, e10_65, e10_66, e10_67, e10_68, e10_69, e10_72, e10_74, e10_77, e10_78, e10_81, e10_82, zs0, zsI, zsL, zsR, ztl1, ztl0, zc0, zcI, zcL, zcR, true_and, and_true, true_implies, false_implies, implies_true, not_true_eq_false, not_false_eq_true, and_self, Int.toNat_natCast, Nat.reduceAdd, Nat.reduceLeDiff, Nat.reduceLT, forall_eq', Option.some.injEq, zarR, zarI, zarL, zle, zq0, zq1, zq2, zq3, zq4, zq5, zq6, zq8, zq9, zq10, zq20, zq7, zq12, zq24, zq40, zq41, zq48, zq100, zq120, zq123, zq480, zq492, zq700, zq729, zq2187, zq2916, zq8748, ne_eq, Int.reduceEq, Int.reduceLT, Int.reduceLE, Int.reduceToNat, Int.reduceMul, Int.reduceAdd, Int.reduceNeg, gk48 hg, gr48_0 hg, gr48_1 hg, gr48_2 hg, gr48_3 hg, gk49 hg, gr49_0 hg, gr49_1 hg, gr49_2 hg, gr49_3 hg, gr49_4 hg, gr49_5 hg, gr49_6 hg, gr49_7 hg, gr49_8 hg, e1, c, hx i (by omega), c2, wr_s (show i < 2147483647 by omega)]
        simp only [aChU, c3, if_true] at hi
        exact hi
  have l0 := fun l6 => lp (nB T) 0 l6 (by omega)
  by_cases hf3 : f = 3
  · subst hf3
    simp only [aChU, if_true] at l0
    have hx0 := hx 0 (by omega)
    simp only [zq3, zq0] at hx0 l0
    simp only [e10_0, e10_1, e10_2, e10_5, e10_6, e10_9, e10_10, e10_11, e10_12, e10_13, e10_14, e10_15, e10_18, e10_20, e10_21, e10_25, e10_26, e10_29, e10_32, e10_35, e10_36, e10_37, e10_39, e10_40, e10_43, e10_45, e10_47, e10_49, e10_52, e10_54, e10_56, e10_58, e10_59, e10_62, e10_65, e10_66, e10_67, e10_68, e10_69, e10_72, e10_74, e10_77, e10_78, e10_81, e10_82, zs0, zsI, zsL, zsR, ztl1, ztl0, zc0, zcI, zcL, zcR, true_and, and_true, true_implies, false_implies, implies_true, not_true_eq_false, not_false_eq_true, and_self, Int.toNat_natCast, Nat.reduceAdd, Nat.reduceLeDiff, Nat.reduceLT, forall_eq', Option.some.injEq, zarR, zarI, zarL, zle, zq0, zq1, zq2, zq3, zq4, zq5, zq6, zq8, zq9, zq10, zq20, zq7, zq12, zq24, zq40, zq41, zq48, zq100, zq120, zq123, zq480, zq492, zq700, zq729, zq2187, zq2916, zq8748, ne_eq, Int.reduceEq, Int.reduceLT, Int.reduceLE, Int.reduceToNat, Int.reduceMul, Int.reduceAdd, Int.reduceNeg, gk48 hg, gr48_0 hg, gr48_1 hg, gr48_2 hg, gr48_3 hg, hx0]
    exact l0 _
  · have c2 : ¬ (f : Int) = 3 := by omega
    simp only [aChU, hf3, if_false] at l0
    simp only [e10_0, e10_1, e10_2, e10_5, e10_6, e10_9, e10_10, e10_11, e10_12, e10_13, e10_14, e10_15, e10_18, e10_20, e10_21, e10_25, e10_26, e10_29, e10_32, e10_35, e10_36, e10_37, e10_39, e10_40, e10_43, e10_45, e10_47, e10_49, e10_52, e10_54, e10_56, e10_58, e10_59, e10_62, e10_65, e10_66, e10_67, e10_68, e10_69, e10_72, e10_74, e10_77, e10_78, e10_81, e10_82, zs0, zsI, zsL, zsR, ztl1, ztl0, zc0, zcI, zcL, zcR, true_and, and_true, true_implies, false_implies, implies_true, not_true_eq_false, not_false_eq_true, and_self, Int.toNat_natCast, Nat.reduceAdd, Nat.reduceLeDiff, Nat.reduceLT, forall_eq', Option.some.injEq, zarR, zarI, zarL, zle, zq0, zq1, zq2, zq3, zq4, zq5, zq6, zq8, zq9, zq10, zq20, zq7, zq12, zq24, zq40, zq41, zq48, zq100, zq120, zq123, zq480, zq492, zq700, zq729, zq2187, zq2916, zq8748, ne_eq, Int.reduceEq, Int.reduceLT, Int.reduceLE, Int.reduceToNat, Int.reduceMul, Int.reduceAdd, Int.reduceNeg, gk48 hg, gr48_0 hg, gr48_1 hg, gr48_2 hg, gr48_3 hg, c2, hx f (by omega)]
    exact l0 _
theorem c_setP47 (hg : gS G) {b o n : Nat} (hb : b < 3) (ho : o < 3) (hn : n < 3) : zRunD ztb zmt' (d + 1) 6 [zR (some 48), zI b, zI o, zI n] G h Q ↔ Q none G (zu (zu h 59 b (h 58 o)) 60 b (h 58 n)) := by
  rw [r6]
  have b1 : (b : Int) < 3 := by omega
  have b2 : (o : Int) < 3 := by omega
  have b3 : (n : Int) < 3 := by omega
  simp only [e6_0, e6_1, e6_4, e6_5, e6_6, e6_9, e6_12, e6_13, e6_14, e6_15, e6_16, e6_19, e6_20, e6_21, e6_24, e6_27, e6_28, e6_29, e6_30, zs0, zsI, zsL, zsR, ztl1, ztl0, zc0, zcI, zcL, zcR, true_and, and_true, true_implies, false_implies, implies_true, not_true_eq_false, not_false_eq_true, and_self, Int.toNat_natCast, Nat.reduceAdd, Nat.reduceLeDiff, Nat.reduceLT, forall_eq', Option.some.injEq, zarR, zarI, zarL, zle, zq0, zq1, zq2, zq3, zq4, zq5, zq6, zq8, zq9, zq10, zq20, zq7, zq12, zq24, zq40, zq41, zq48, zq100, zq120, zq123, zq480, zq492, zq700, zq729, zq2187, zq2916, zq8748, ne_eq, Int.reduceEq, Int.reduceLT, Int.reduceLE, Int.reduceToNat, Int.reduceMul, Int.reduceAdd, Int.reduceNeg, gk48 hg, gr48_0 hg, gr48_1 hg, gr48_2 hg, gr48_3 hg, gk49 hg, gr49_0 hg, gr49_1 hg, gr49_2 hg, gr49_3 hg, gr49_4 hg, gr49_5 hg, gr49_6 hg, gr49_7 hg, gr49_8 hg, gk58 hg, gl58 hg, gk59 hg, gl59 hg, gk60 hg, gl60 hg, b1, b2, b3, zu_c (show ¬ 58 = 59 by decide)]
end MK47
