/-! what one has of a baker: from f (3: a new one) to t (3: nobody) -/
def aNear (T : aTn) (own oth : Nat → Int) (s f t : Nat) : Int := if t = 3 then 0 else tr T 4 s - (if f = t then own t else oth t) - (if f = t ∨ f = 3 then 0 else if tr T 1 f = tr T 1 t then tr T 5 s / 2 else tr T 5 s)
def aMost (T : aTn) (own oth : Nat → Int) (s f : Nat) : Nat → Int
  | 0 => 0
  | n + 1 => max (aMost T own oth s f n) (aNear T own oth s f n)
def aAh (T : aTn) (own oth : Nat → Int) (s t : Nat) : Int := kp T * aMost T own oth s t (nB T) / 100
def aHas (T : aTn) (own oth : Nat → Int) (s : Nat) (far : Int) (f t : Nat) : Int := aNear T own oth s f t + (if far = 0 then 0 else aAh T own oth s t)
def aChU (T : aTn) (own oth : Nat → Int) (s : Nat) (far : Int) (f : Nat) : Nat → Int × Nat
  | 0 => (aHas T own oth s far f (if f = 3 then 0 else f), if f = 3 then 0 else f)
  | n + 1 => if (aChU T own oth s far f n).1 < aHas T own oth s far f n then (aHas T own oth s far f n, n) else aChU T own oth s far f n
def aCh (T : aTn) (own oth : Nat → Int) (s : Nat) (far : Int) (f : Nat) : Nat := if (aChU T own oth s far f (nB T)).1 < aHas T own oth s far f 3 then 3 else (aChU T own oth s far f (nB T)).2
def bP (p : Nat → Int) : Prop := ∀ i, 0 ≤ p i ∧ p i ≤ 199
theorem aNear_b {T : aTn} (hw : wT T) {own oth : Nat → Int} (ho : bP own) (hn : bP oth) (s f t : Nat) : -298 ≤ aNear T own oth s f t ∧ aNear T own oth s f t ≤ 199 := by
  have h1 := hw.2.2.2.2.2 s
  have h2 := ho t
  have h3 := hn t
  unfold aNear
  split
  · omega
  · split <;> split <;> (try split) <;> omega
theorem aMost_b {T : aTn} (hw : wT T) {own oth : Nat → Int} (ho : bP own) (hn : bP oth) (s f n : Nat) : 0 ≤ aMost T own oth s f n ∧ aMost T own oth s f n ≤ 199 := by
  induction n with
  | zero => exact ⟨Int.le_refl _, by decide⟩
  | succ n ih =>
    have h1 := aNear_b hw ho hn s f n
    unfold aMost
    omega
theorem aAh_b {T : aTn} (hw : wT T) {own oth : Nat → Int} (ho : bP own) (hn : bP oth) (s t : Nat) : 0 ≤ aAh T own oth s t ∧ aAh T own oth s t ≤ 199 := by
  have h1 := aMost_b hw ho hn s t (nB T)
  have h2 := hw.2.2.2.2.1
  unfold aAh
  have h3 : 0 ≤ kp T * aMost T own oth s t (nB T) := Int.mul_nonneg h2.1 h1.1
  have h4 : kp T * aMost T own oth s t (nB T) ≤ 100 * 199 := Int.mul_le_mul h2.2 h1.2 h1.1 (by decide)
  omega
theorem aHas_b {T : aTn} (hw : wT T) {own oth : Nat → Int} (ho : bP own) (hn : bP oth) (s : Nat) (far : Int) (f t : Nat) : -298 ≤ aHas T own oth s far f t ∧ aHas T own oth s far f t ≤ 398 := by
  have h1 := aNear_b hw ho hn s f t
  have h2 := aAh_b hw ho hn s t
  unfold aHas
  split <;> omega
theorem aChU_2 {T : aTn} {own oth : Nat → Int} {s : Nat} {far : Int} {f : Nat} (n : Nat) (hf : f = 3 ∨ f < n + 1) : (aChU T own oth s far f n).2 < n + 1 := by
  induction n generalizing f with
  | zero =>
    unfold aChU
    dsimp only
    split <;> omega
  | succ n ih =>
    unfold aChU
    split
    · dsimp only
      omega
    · by_cases h1 : f = 3 ∨ f < n + 1
      · have := ih h1
        omega
      · have h2 : ∀ m, (aChU T own oth s far f m).2 < max m (f + 1) ∨ (aChU T own oth s far f m).2 = f := by
          intro m
          induction m with
          | zero =>
            right
            unfold aChU
            dsimp only
            rw [if_neg (by omega)]
          | succ m ih2 =>
            unfold aChU
            split
            · left
              dsimp only
              omega
            · omega
        have := h2 n
        omega
theorem aCh_b {T : aTn} (hw : wT T) {own oth : Nat → Int} {s : Nat} {far : Int} {f : Nat} (hf : f = 3 ∨ f < nB T) : aCh T own oth s far f = 3 ∨ aCh T own oth s far f < nB T := by
  unfold aCh
  split
  · left; rfl
  · right
    have h0 : ∀ m, (aChU T own oth s far f m).2 < m ∨ (aChU T own oth s far f m).2 = (if f = 3 then 0 else f) := by
      intro m
      induction m with
      | zero => right; unfold aChU; rfl
      | succ m ih =>
        unfold aChU
        split
        · left
          dsimp only
          omega
        · omega
    have h1 := h0 (nB T)
    have h2 := hw.1
    split at h1 <;> omega
section FN
variable {d : Nat} {Q : zQ} {G : zG} {h : zM}
theorem s_max {x y : Int} : zRunD ztb zmt' (d + 1) 215 [zI x, zI y] G h Q ↔ Q (some (zI (max x y))) G h := by
  rw [r215]
  by_cases hc : x < y
  · simp only [e215_0, e215_1, e215_2, e215_5, e215_6, e215_9, e215_10, zs0, zsI, zsL, zsR, ztl1, ztl0, zc0, zcI, zcL, zcR, true_and, and_true, true_implies, false_implies, implies_true, not_true_eq_false, not_false_eq_true, and_self, Int.toNat_natCast, Nat.reduceAdd, Nat.reduceLeDiff, Nat.reduceLT, forall_eq', Option.some.injEq, zarR, zarI, zarL, zle, hc]
    rw [Int.max_eq_right (by omega)]
  · simp only [e215_0, e215_1, e215_2, e215_5, e215_6, e215_9, e215_10, zs0, zsI, zsL, zsR, ztl1, ztl0, zc0, zcI, zcL, zcR, true_and, and_true, true_implies, false_implies, implies_true, not_true_eq_false, not_false_eq_true, and_self, Int.toNat_natCast, Nat.reduceAdd, Nat.reduceLeDiff, Nat.reduceLT, forall_eq', Option.some.injEq, zarR, zarI, zarL, zle, hc]
    rw [Int.max_eq_left (by omega)]
theorem s_min {x y : Int} : zRunD ztb zmt' (d + 1) 217 [zI x, zI y] G h Q ↔ Q (some (zI (min x y))) G h := by
  rw [r217]
  by_cases hc : y < x
  · simp only [e217_0, e217_1, e217_2, e217_5, e217_6, e217_9, e217_10, zs0, zsI, zsL, zsR, ztl1, ztl0, zc0, zcI, zcL, zcR, true_and, and_true, true_implies, false_implies, implies_true, not_true_eq_false, not_false_eq_true, and_self, Int.toNat_natCast, Nat.reduceAdd, Nat.reduceLeDiff, Nat.reduceLT, forall_eq', Option.some.injEq, zarR, zarI, zarL, zle, hc]
    rw [Int.min_eq_right (by omega)]
  · simp only [e217_0, e217_1, e217_2, e217_5, e217_6, e217_9, e217_10, zs0, zsI, zsL, zsR, ztl1, ztl0, zc0, zcI, zcL, zcR, true_and, and_true, true_implies, false_implies, implies_true, not_true_eq_false, not_false_eq_true, and_self, Int.toNat_natCast, Nat.reduceAdd, Nat.reduceLeDiff, Nat.reduceLT, forall_eq', Option.some.injEq, zarR, zarI, zarL, zle, hc]
    rw [Int.min_eq_left (by omega)]
theorem zlc_lt {x y : Int} : zlc x y < 0 ↔ x < y := by
  unfold zlc
  split
  · omega
  · split <;> omega
theorem zlc_le {x y : Int} : zlc x y ≤ 0 ↔ x ≤ y := by
  unfold zlc
  split
  · omega
  · split <;> omega
theorem zlc_eq {x y : Int} : zlc x y = 0 ↔ x = y := by
  unfold zlc
  split
  · omega
  · split <;> omega
theorem zlc_ge {x y : Int} : 0 ≤ zlc x y ↔ y ≤ x := by
  unfold zlc
  split
  · omega
  · split <;> omega
theorem zlc_gt {x y : Int} : 0 < zlc x y ↔ y < x := by
  unfold zlc
  split
  · omega
  · split <;> omega
theorem s_maxL {x y : Int} : zRunD ztb zmt' (d + 1) 216 [zL x, zL y] G h Q ↔ Q (some (zL (max x y))) G h := by
  rw [r216]
  by_cases hc : x < y
  · simp only [e216_0, e216_1, e216_2, e216_3, e216_6, e216_7, e216_10, e216_11, zs0, zsI, zsL, zsR, ztl1, ztl0, zc0, zcI, zcL, zcR, true_and, and_true, true_implies, false_implies, implies_true, not_true_eq_false, not_false_eq_true, and_self, Int.toNat_natCast, Nat.reduceAdd, Nat.reduceLeDiff, Nat.reduceLT, forall_eq', Option.some.injEq, zarR, zarI, zarL, zle, zlc_lt, hc]
    rw [Int.max_eq_right (by omega)]
  · simp only [e216_0, e216_1, e216_2, e216_3, e216_6, e216_7, e216_10, e216_11, zs0, zsI, zsL, zsR, ztl1, ztl0, zc0, zcI, zcL, zcR, true_and, and_true, true_implies, false_implies, implies_true, not_true_eq_false, not_false_eq_true, and_self, Int.toNat_natCast, Nat.reduceAdd, Nat.reduceLeDiff, Nat.reduceLT, forall_eq', Option.some.injEq, zarR, zarI, zarL, zle, zlc_lt, hc]
    rw [Int.max_eq_left (by omega)]
end FN
section MK16
variable {d : Nat} {Q : zQ} {G : zG} {h : zM} {T : aTn} {own oth ah : Nat → Int} {s f t : Nat} {far : Int}
theorem c_has16 (hg : gS G) (hT : kT h 18 T) (hw : wT T) (hs : h 17 4 = (s : Int)) (hs4 : s < 4) (hf : f ≤ 3) (ht : t ≤ 3) (ho : t < 3 → h 28 t = own t) (hn : t < 3 → h 29 t = oth t) (bo : bP own) (bn : bP oth) (ha : ¬ far = 0 → h 30 t = ah t) (ba : 0 ≤ ah t ∧ ah t ≤ 199) : zRunD ztb zmt' (d + 1) 9 [zR (some 17), zI f, zI t, zI far] G h Q ↔ Q (some (zI (aNear T own oth s f t + (if far = 0 then 0 else ah t)))) G h := by
  rw [r9]
  have b0 := hw.2.2.2.2.2 s
  have b1 := bo t
  have b2 := bn t
  have e1 := hT.2.2.2.2.2.2.2.2.2.1 s hs4
  have e2 := hT.2.2.2.2.2.2.2.2.2.2.1 s hs4
  have s4 : (s : Int) < ((4 : Nat) : Int) := by omega
  have t4 : (t : Int) < ((4 : Nat) : Int) := by omega
  by_cases h3 : t = 3
  · subst h3
    by_cases h0 : far = 0
    · simp only [e9_0, e9_1, e9_4, e9_5, e9_8, e9_9, e9_10, e9_13, e9_14, e9_16, e9_17, e9_18, e9_21, e9_23, e9_24, e9_26, e9_27, e9_30, e9_33, e9_34, e9_37, e9_38, e9_39, e9_40, e9_43, e9_44, e9_47, e9_48, e9_49, e9_52, e9_53, e9_56, e9_57, e9_58, e9_59, e9_60, e9_62, e9_63, e9_64, e9_67, e9_68, e9_69, e9_72, e9_73, e9_76, e9_79, e9_80, e9_83, e9_84, e9_86, e9_88, e9_89, e9_92, e9_95, e9_96, e9_97, e9_98, e9_101, e9_104, e9_105, e9_106, e9_109, e9_111, e9_112, e9_113, e9_116, e9_118, e9_119, e9_121, e9_123, zs0, zsI, zsL, zsR, ztl1, ztl0, zc0, zcI, zcL, zcR, true_and, and_true, true_implies, false_implies, implies_true, not_true_eq_false, not_false_eq_true, and_self, Int.toNat_natCast, Nat.reduceAdd, Nat.reduceLeDiff, Nat.reduceLT, forall_eq', Option.some.injEq, zarR, zarI, zarL, zle, gk17 hg, gr17_0 hg, gr17_1 hg, gr17_2 hg, gr17_3 hg, gk30 hg, gl30 hg, h0, aNear, Int.zero_add, Int.add_zero, if_true]
      exact Iff.rfl
    · have q1 : ((3 : Nat) : Int) = 3 := rfl
      simp only [e9_0, e9_1, e9_4, e9_5, e9_8, e9_9, e9_10, e9_13, e9_14, e9_16, e9_17, e9_18, e9_21, e9_23, e9_24, e9_26, e9_27, e9_30, e9_33, e9_34, e9_37, e9_38, e9_39, e9_40, e9_43, e9_44, e9_47, e9_48, e9_49, e9_52, e9_53, e9_56, e9_57, e9_58, e9_59, e9_60, e9_62, e9_63, e9_64, e9_67, e9_68, e9_69, e9_72, e9_73, e9_76, e9_79, e9_80, e9_83, e9_84, e9_86, e9_88, e9_89, e9_92, e9_95, e9_96, e9_97, e9_98, e9_101, e9_104, e9_105, e9_106, e9_109, e9_111, e9_112, e9_113, e9_116, e9_118, e9_119, e9_121, e9_123, zs0, zsI, zsL, zsR, ztl1, ztl0, zc0, zcI, zcL, zcR, true_and, and_true, true_implies, false_implies, implies_true, not_true_eq_false, not_false_eq_true, and_self, Int.toNat_natCast, Nat.reduceAdd, Nat.reduceLeDiff, Nat.reduceLT, forall_eq', Option.some.injEq, zarR, zarI, zarL, zle, gk17 hg, gr17_0 hg, gr17_1 hg, gr17_2 hg, gr17_3 hg, gk30 hg, gl30 hg, h0, aNear, Int.zero_add, if_true, if_false, q1, ha h0, Int.reduceToNat, t4]
      sorry
  · sorry
end MK16
section MK47
variable {d : Nat} {Q : zQ} {G : zG} {h : zM} {T : aTn} {own oth ah : Nat → Int} {s f t : Nat} {far : Int}
theorem c_has47 (hg : gS G) (hT : kT h 49 T) (hw : wT T) (hs : h 48 4 = (s : Int)) (hs4 : s < 4) (hf : f ≤ 3) (ht : t ≤ 3) (ho : t < 3 → h 59 t = own t) (hn : t < 3 → h 60 t = oth t) (bo : bP own) (bn : bP oth) (ha : ¬ far = 0 → h 61 t = ah t) (ba : 0 ≤ ah t ∧ ah t ≤ 199) : zRunD ztb zmt' (d + 1) 9 [zR (some 48), zI f, zI t, zI far] G h Q ↔ Q (some (zI (aNear T own oth s f t + (if far = 0 then 0 else ah t)))) G h := by
  rw [r9]
  have b0 := hw.2.2.2.2.2 s
  have b1 := bo t
  have b2 := bn t
  have e1 := hT.2.2.2.2.2.2.2.2.2.1 s hs4
  have e2 := hT.2.2.2.2.2.2.2.2.2.2.1 s hs4
  have s4 : (s : Int) < ((4 : Nat) : Int) := by omega
  have t4 : (t : Int) < ((4 : Nat) : Int) := by omega
  by_cases h3 : t = 3
  · subst h3
    by_cases h0 : far = 0
    · simp only [e9_0, e9_1, e9_4, e9_5, e9_8, e9_9, e9_10, e9_13, e9_14, e9_16, e9_17, e9_18, e9_21, e9_23, e9_24, e9_26, e9_27, e9_30, e9_33, e9_34, e9_37, e9_38, e9_39, e9_40, e9_43, e9_44, e9_47, e9_48, e9_49, e9_52, e9_53, e9_56, e9_57, e9_58, e9_59, e9_60, e9_62, e9_63, e9_64, e9_67, e9_68, e9_69, e9_72, e9_73, e9_76, e9_79, e9_80, e9_83, e9_84, e9_86, e9_88, e9_89, e9_92, e9_95, e9_96, e9_97, e9_98, e9_101, e9_104, e9_105, e9_106, e9_109, e9_111, e9_112, e9_113, e9_116, e9_118, e9_119, e9_121, e9_123, zs0, zsI, zsL, zsR, ztl1, ztl0, zc0, zcI, zcL, zcR, true_and, and_true, true_implies, false_implies, implies_true, not_true_eq_false, not_false_eq_true, and_self, Int.toNat_natCast, Nat.reduceAdd, Nat.reduceLeDiff, Nat.reduceLT, forall_eq', Option.some.injEq, zarR, zarI, zarL, zle, gk48 hg, gr48_0 hg, gr48_1 hg, gr48_2 hg, gr48_3 hg, gk61 hg, gl61 hg, h0, aNear, Int.zero_add, Int.add_zero, if_true]
      exact Iff.rfl
    · have q1 : ((3 : Nat) : Int) = 3 := rfl
      simp only [e9_0, e9_1, e9_4, e9_5, e9_8, e9_9, e9_10, e9_13, e9_14, e9_16, e9_17, e9_18, e9_21, e9_23, e9_24, e9_26, e9_27, e9_30, e9_33, e9_34, e9_37, e9_38, e9_39, e9_40, e9_43, e9_44, e9_47, e9_48, e9_49, e9_52, e9_53, e9_56, e9_57, e9_58, e9_59, e9_60, e9_62, e9_63, e9_64, e9_67, e9_68, e9_69, e9_72, e9_73, e9_76, e9_79, e9_80, e9_83, e9_84, e9_86, e9_88, e9_89, e9_92, e9_95, e9_96, e9_97, e9_98, e9_101, e9_104, e9_105, e9_106, e9_109, e9_111, e9_112, e9_113, e9_116, e9_118, e9_119, e9_121, e9_123, zs0, zsI, zsL, zsR, ztl1, ztl0, zc0, zcI, zcL, zcR, true_and, and_true, true_implies, false_implies, implies_true, not_true_eq_false, not_false_eq_true, and_self, Int.toNat_natCast, Nat.reduceAdd, Nat.reduceLeDiff, Nat.reduceLT, forall_eq', Option.some.injEq, zarR, zarI, zarL, zle, gk48 hg, gr48_0 hg, gr48_1 hg, gr48_2 hg, gr48_3 hg, gk61 hg, gl61 hg, h0, aNear, Int.zero_add, if_true, if_false, q1, ha h0, Int.reduceToNat, t4]
      sorry
  · sorry
end MK47
