/-! rows of the rest: acts (69), stride (70), choices (71), twin (72) -/
def sR (h : zM) (T : aTn) (ac : Nat → Nat) : Prop := (∀ b, b < nB T → h 69 b = (ac b : Nat)) ∧ (∀ b, b < nB T → h 70 b = (sd ac (nB T) b : Nat))
section TAB
variable {d : Nat} {Q : zQ} {G : zG} {h : zM} {T : aTn} {ac : Nat → Nat}
theorem c_ract (hg : gS G) (hw : wT T) (hc : acOk T ac) (hR : sR h T ac) {all b : Nat} (hb : b < nB T) (ha : (all : Int) < 1000) : zRunD ztb zmt' (d + 1) 38 [zR (some 46), zI all, zI b] G h Q ↔ Q (some (zI (aAct ac (nB T) all b : Nat))) G h := by
  rw [r38]
  have hB := hw.1
  have e1 := hR.1 b hb
  have e2 := hR.2 b hb
  have s1 := sd_b hw hc b
  have s2 := hc b
  have s3 := nA_b hw
  have b3 : (b : Int) < 3 := by omega
  have c1 : ¬ ((sd ac (nB T) b : Nat) : Int) < 1 := by omega
  have c2 : (1 : Int) ≤ ((ac b : Nat) : Int) := by omega
  have c3 : ¬ ((sd ac (nB T) b : Nat) : Int) = 0 := by omega
  have c4 : ¬ ((ac b : Nat) : Int) = 0 := by omega
  have e3 : wr ((all : Int).tdiv ((sd ac (nB T) b : Nat) : Int)) = ((all / sd ac (nB T) b : Nat) : Int) := by
    rw [Int.tdiv_eq_ediv_of_nonneg (by omega), ← Int.natCast_ediv]
    have h5 : all / sd ac (nB T) b ≤ all := Nat.div_le_self _ _
    generalize all / sd ac (nB T) b = q at h5 ⊢
    exact wr_id (by omega)
  have e4 : ((all / sd ac (nB T) b : Nat) : Int).tmod ((ac b : Nat) : Int) = ((aAct ac (nB T) all b : Nat) : Int) := by
    rw [Int.tmod_eq_emod_of_nonneg (Int.natCast_nonneg _), ← Int.natCast_emod]
    rfl
  simp only [e38_0, e38_1, e38_4, e38_5, e38_6, e38_7, e38_10, e38_11, e38_14, e38_15, e38_16, e38_17, e38_20, e38_21, e38_22, e38_23, e38_24, e38_27, e38_28, e38_29, e38_30, e38_31, e38_34, e38_35, e38_36, e38_37, zs0, zsI, zsL, zsR, ztl1, ztl0, zc0, zcI, zcL, zcR, true_and, and_true, true_implies, false_implies, implies_true, not_true_eq_false, not_false_eq_true, and_self, Int.toNat_natCast, Nat.reduceAdd, Nat.reduceLeDiff, Nat.reduceLT, forall_eq', Option.some.injEq, zarR, zarI, zarL, zle, zq0, zq1, zq2, zq3, zq4, zq5, zq6, zq8, zq9, zq10, zq20, zq7, zq12, zq24, zq40, zq41, zq48, zq100, zq120, zq123, zq480, zq492, zq700, zq729, zq2187, zq2916, zq8748, ne_eq, Int.reduceEq, Int.reduceLT, Int.reduceLE, Int.reduceToNat, Int.reduceMul, Int.reduceAdd, Int.reduceNeg, gk46 hg, gr46_0 hg, gr46_1 hg, gr46_2 hg, gr46_3 hg, gr46_4 hg, gr46_6 hg, gr46_7 hg, gr46_8 hg, gr46_9 hg, gr46_10 hg, gr46_11 hg, gr46_12 hg, gr46_13 hg, gk69 hg, gl69 hg, gk70 hg, gl70 hg, b3, e1, e2, c1, c2, c3, c4, e3, e4]
theorem c_askAll (hg : gS G) (hT : kT h 49 T) (hw : wT T) (hc : acOk T ac) (hR : sR h T ac) {all : Nat} (ha : (all : Int) < 1000) (K : ∀ h' : zM, (∀ c i, ¬ c = 59 → ¬ c = 60 → h' c i = h c i) → (∀ b, b < nB T → h' 59 b = aOwn T ac all b) → (∀ b, b < nB T → h' 60 b = aOth T ac all b) → Q none G h') : zRunD ztb zmt' (d + 2) 39 [zR (some 46), zI all] G h Q := by
  rw [r39]
  have hB := hw.1
  have hP := hw.2.2.1
  have lp : ∀ j b (h1 : zM) (l3 : Option zV), b + j = nB T → (∀ c i, ¬ c = 59 → ¬ c = 60 → h1 c i = h c i) → (∀ b', b' < b → h1 59 b' = aOwn T ac all b') → (∀ b', b' < b → h1 60 b' = aOth T ac all b') → zE 39 (d + 1) Q 2 [some (zR (some 46)), some (zI all), some (zI b), l3] [] G h1 (0, 0) := by
    intro j
    induction j with
    | zero =>
      intro b h1 l3 hb f0 f1 f2
      have hb' : b = nB T := by omega
      subst hb'
      have e1 : h1 49 9 = (nB T : Int) := by rw [f0 _ _ (by decide) (by decide)]; exact hT.1
      rw [e39_2]
      simp only [e39_0, e39_1, e39_3, e39_4, e39_7, e39_10, e39_13, e39_14, e39_15, e39_16, e39_19, e39_20, e39_21, e39_24, e39_25, e39_26, e39_29, e39_30, e39_33, e39_34, e39_37, e39_38, e39_41, e39_44, e39_47, e39_50, zs0, zsI, zsL, zsR, ztl1, ztl0, zc0, zcI, zcL, zcR, true_and, and_true, true_implies, false_implies, implies_true, not_true_eq_false, not_false_eq_true, and_self, Int.toNat_natCast, Nat.reduceAdd, Nat.reduceLeDiff, Nat.reduceLT, forall_eq', Option.some.injEq, zarR, zarI, zarL, zle, zq0, zq1, zq2, zq3, zq4, zq5, zq6, zq8, zq9, zq10, zq20, zq7, zq12, zq24, zq40, zq41, zq48, zq100, zq120, zq123, zq480, zq492, zq700, zq729, zq2187, zq2916, zq8748, ne_eq, Int.reduceEq, Int.reduceLT, Int.reduceLE, Int.reduceToNat, Int.reduceMul, Int.reduceAdd, Int.reduceNeg, gk46 hg, gr46_0 hg, gr46_1 hg, gr46_2 hg, gr46_3 hg, gr46_4 hg, gr46_6 hg, gr46_7 hg, gr46_8 hg, gr46_9 hg, gr46_10 hg, gr46_11 hg, gr46_12 hg, gr46_13 hg, gk49 hg, gr49_0 hg, gr49_1 hg, gr49_2 hg, gr49_3 hg, gr49_4 hg, gr49_5 hg, gr49_6 hg, gr49_7 hg, gr49_8 hg, e1, Int.le_refl]
      exact K h1 f0 f1 f2
    | succ j ih =>
      intro b h1 l3 hb f0 f1 f2
      have hT1 : kT h1 49 T := kT_frame hT (fun c i q1 q2 => f0 c i (by omega) (by omega))
      have hR1 : sR h1 T ac := ⟨fun b q => by rw [f0 _ _ (by decide) (by decide)]; exact hR.1 b q, fun b q => by rw [f0 _ _ (by decide) (by decide)]; exact hR.2 b q⟩
      have e1 := hT1.1
      have c : ¬ (nB T : Int) ≤ b := by omega
      have a1 := aAct_b hc (nB T) all b
      have a2 := aOld_b hw a1
      have a3 := aNw_b hw a1
      have a4 := nA_b hw
      have q1 : ∀ Q' : zQ, zRunD ztb zmt' (d + 1) 38 [zR (some 46), zI all, zI b] G h1 Q' ↔ Q' (some (zI (aAct ac (nB T) all b : Nat))) G h1 := fun Q' => c_ract hg hw hc hR1 (by omega) ha
      have q2 : ∀ Q' : zQ, zRunD ztb zmt' (d + 1) 49 [zR (some 49), zI (aAct ac (nB T) all b : Nat)] G h1 Q' ↔ Q' (some (zI (aOld T (aAct ac (nB T) all b) : Nat))) G h1 := fun Q' => c_old47 hg hT1 hP.1 (by omega)
      have q3 : ∀ Q' : zQ, zRunD ztb zmt' (d + 1) 50 [zR (some 49), zI (aAct ac (nB T) all b : Nat)] G h1 Q' ↔ Q' (some (zI (aNw T (aAct ac (nB T) all b) : Nat))) G h1 := fun Q' => c_new47 hg hT1 hP.1
      have q4 : ∀ Q' : zQ, zRunD ztb zmt' (d + 1) 6 [zR (some 48), zI b, zI (aOld T (aAct ac (nB T) all b) : Nat), zI (aNw T (aAct ac (nB T) all b) : Nat)] G h1 Q' ↔ Q' none G (zu (zu h1 59 b (h1 58 (aOld T (aAct ac (nB T) all b)))) 60 b (h1 58 (aNw T (aAct ac (nB T) all b)))) := fun Q' => c_setP47 hg (by omega) (by omega) (by omega)
      have e2 : h1 58 (aOld T (aAct ac (nB T) all b)) = aOwn T ac all b := hT1.2.2.2.2.2.2.2.2.2.2.2.2.2 _ a2
      have e3 : h1 58 (aNw T (aAct ac (nB T) all b)) = aOth T ac all b := hT1.2.2.2.2.2.2.2.2.2.2.2.2.2 _ a3
      rw [e39_2]
      simp only [e39_0, e39_1, e39_3, e39_4, e39_7, e39_10, e39_13, e39_14, e39_15, e39_16, e39_19, e39_20, e39_21, e39_24, e39_25, e39_26, e39_29, e39_30, e39_33, e39_34, e39_37, e39_38, e39_41, e39_44, e39_47, e39_50, zs0, zsI, zsL, zsR, ztl1, ztl0, zc0, zcI, zcL, zcR, true_and, and_true, true_implies, false_implies, implies_true, not_true_eq_false, not_false_eq_true, and_self, Int.toNat_natCast, Nat.reduceAdd, Nat.reduceLeDiff, Nat.reduceLT, forall_eq', Option.some.injEq, zarR, zarI, zarL, zle, zq0, zq1, zq2, zq3, zq4, zq5, zq6, zq8, zq9, zq10, zq20, zq7, zq12, zq24, zq40, zq41, zq48, zq100, zq120, zq123, zq480, zq492, zq700, zq729, zq2187, zq2916, zq8748, ne_eq, Int.reduceEq, Int.reduceLT, Int.reduceLE, Int.reduceToNat, Int.reduceMul, Int.reduceAdd, Int.reduceNeg, gk46 hg, gr46_0 hg, gr46_1 hg, gr46_2 hg, gr46_3 hg, gr46_4 hg, gr46_6 hg, gr46_7 hg, gr46_8 hg, gr46_9 hg, gr46_10 hg, gr46_11 hg, gr46_12 hg, gr46_13 hg, gk48 hg, gr48_0 hg, gr48_1 hg, gr48_2 hg, gr48_3 hg, gk49 hg, gr49_0 hg, gr49_1 hg, gr49_2 hg, gr49_3 hg, gr49_4 hg, gr49_5 hg, gr49_6 hg, gr49_7 hg, gr49_8 hg, e1, c, q1, q2, q3, q4, e2, e3, wr_s (show b < 2147483647 by omega)]
      apply ih (b + 1) _ _ (by omega)
      · intro c i p1 p2
        rw [zu_c p2, zu_c p1]
        exact f0 c i p1 p2
      · intro b' p
        rw [zu_c (by decide)]
        by_cases p2 : b' = b
        · subst p2
          exact zu_at
        · rw [zu_i p2]
          exact f1 b' (by omega)
      · intro b' p
        by_cases p2 : b' = b
        · subst p2
          exact zu_at
        · rw [zu_i p2, zu_c (by decide)]
          exact f2 b' (by omega)
  simp only [e39_0, e39_1, e39_3, e39_4, e39_7, e39_10, e39_13, e39_14, e39_15, e39_16, e39_19, e39_20, e39_21, e39_24, e39_25, e39_26, e39_29, e39_30, e39_33, e39_34, e39_37, e39_38, e39_41, e39_44, e39_47, e39_50, zs0, zsI, zsL, zsR, ztl1, ztl0, zc0, zcI, zcL, zcR, true_and, and_true, true_implies, false_implies, implies_true, not_true_eq_false, not_false_eq_true, and_self, Int.toNat_natCast, Nat.reduceAdd, Nat.reduceLeDiff, Nat.reduceLT, forall_eq', Option.some.injEq, zarR, zarI, zarL, zle, zq0, zq1, zq2, zq3, zq4, zq5, zq6, zq8, zq9, zq10, zq20, zq7, zq12, zq24, zq40, zq41, zq48, zq100, zq120, zq123, zq480, zq492, zq700, zq729, zq2187, zq2916, zq8748, ne_eq, Int.reduceEq, Int.reduceLT, Int.reduceLE, Int.reduceToNat, Int.reduceMul, Int.reduceAdd, Int.reduceNeg]
  exact lp (nB T) 0 h none (by omega) (fun _ _ _ _ => rfl) (fun b q => by omega) (fun b q => by omega)
theorem c_alike (hg : gS G) (hT : kT h 49 T) (hw : wT T) {o p : Nat} (ho : o < 729) (hp : p < 729) (K : ∀ v : Int, (v = 0 ∧ ¬ (∀ s, s < nS T → h 71 (o * 4 + s) = h 71 (p * 4 + s)) ∨ v = 1 ∧ (∀ s, s < nS T → h 71 (o * 4 + s) = h 71 (p * 4 + s))) → Q (some (zI v)) G h) : zRunD ztb zmt' (d + 1) 37 [zR (some 46), zI o, zI p] G h Q := by
  rw [r37]
  have hS := hw.2.1
  have e1 := hT.2.1
  have lp : ∀ j s, s + j = nS T → (∀ s', s' < s → h 71 (o * 4 + s') = h 71 (p * 4 + s')) → zE 37 d Q 2 [some (zR (some 46)), some (zI o), some (zI p), some (zI s)] [] G h (0, 0) := by
    intro j
    induction j with
    | zero =>
      intro s hs f1
      have hs' : s = nS T := by omega
      subst hs'
      rw [e37_2]
      simp only [e37_0, e37_1, e37_3, e37_4, e37_7, e37_10, e37_13, e37_14, e37_17, e37_18, e37_19, e37_20, e37_21, e37_22, e37_23, e37_24, e37_27, e37_28, e37_29, e37_30, e37_31, e37_32, e37_33, e37_36, e37_37, e37_38, e37_41, e37_44, e37_45, zs0, zsI, zsL, zsR, ztl1, ztl0, zc0, zcI, zcL, zcR, true_and, and_true, true_implies, false_implies, implies_true, not_true_eq_false, not_false_eq_true, and_self, Int.toNat_natCast, Nat.reduceAdd, Nat.reduceLeDiff, Nat.reduceLT, forall_eq', Option.some.injEq, zarR, zarI, zarL, zle, zq0, zq1, zq2, zq3, zq4, zq5, zq6, zq8, zq9, zq10, zq20, zq7, zq12, zq24, zq40, zq41, zq48, zq100, zq120, zq123, zq480, zq492, zq700, zq729, zq2187, zq2916, zq8748, ne_eq, Int.reduceEq, Int.reduceLT, Int.reduceLE, Int.reduceToNat, Int.reduceMul, Int.reduceAdd, Int.reduceNeg, gk46 hg, gr46_0 hg, gr46_1 hg, gr46_2 hg, gr46_3 hg, gr46_4 hg, gr46_6 hg, gr46_7 hg, gr46_8 hg, gr46_9 hg, gr46_10 hg, gr46_11 hg, gr46_12 hg, gr46_13 hg, gk49 hg, gr49_0 hg, gr49_1 hg, gr49_2 hg, gr49_3 hg, gr49_4 hg, gr49_5 hg, gr49_6 hg, gr49_7 hg, gr49_8 hg, e1, Int.le_refl, or_true]
      exact K 1 (Or.inr ⟨rfl, f1⟩)
    | succ j ih =>
      intro s hs f1
      have c : ¬ (nS T : Int) ≤ s := by omega
      have w1 : ((o * 4 + s : Nat) : Int) < 2916 := by omega
      have w2 : ((p * 4 + s : Nat) : Int) < 2916 := by omega
      rw [e37_2]
      by_cases c2 : h 71 (o * 4 + s) = h 71 (p * 4 + s)
      · simp only [e37_0, e37_1, e37_3, e37_4, e37_7, e37_10, e37_13, e37_14, e37_17, e37_18, e37_19, e37_20, e37_21, e37_22, e37_23, e37_24, e37_27, e37_28, e37_29, e37_30, e37_31, e37_32, e37_33, e37_36, e37_37, e37_38, e37_41, e37_44, e37_45, zs0, zsI, zsL, zsR, ztl1, ztl0, zc0, zcI, zcL, zcR, true_and, and_true, true_implies, false_implies, implies_true, not_true_eq_false, not_false_eq_true, and_self, Int.toNat_natCast, Nat.reduceAdd, Nat.reduceLeDiff, Nat.reduceLT, forall_eq', Option.some.injEq, zarR, zarI, zarL, zle, zq0, zq1, zq2, zq3, zq4, zq5, zq6, zq8, zq9, zq10, zq20, zq7, zq12, zq24, zq40, zq41, zq48, zq100, zq120, zq123, zq480, zq492, zq700, zq729, zq2187, zq2916, zq8748, ne_eq, Int.reduceEq, Int.reduceLT, Int.reduceLE, Int.reduceToNat, Int.reduceMul, Int.reduceAdd, Int.reduceNeg, gk46 hg, gr46_0 hg, gr46_1 hg, gr46_2 hg, gr46_3 hg, gr46_4 hg, gr46_6 hg, gr46_7 hg, gr46_8 hg, gr46_9 hg, gr46_10 hg, gr46_11 hg, gr46_12 hg, gr46_13 hg, gk49 hg, gr49_0 hg, gr49_1 hg, gr49_2 hg, gr49_3 hg, gr49_4 hg, gr49_5 hg, gr49_6 hg, gr49_7 hg, gr49_8 hg, gk71 hg, gl71 hg, e1, c, c2, w1, w2, wrN (z := (o : Int) * 4) (m := o * 4) (by omega) (by omega), wrN (z := ((o * 4 : Nat) : Int) + s) (m := o * 4 + s) (by omega) (by omega), wrN (z := (p : Int) * 4) (m := p * 4) (by omega) (by omega), wrN (z := ((p * 4 : Nat) : Int) + s) (m := p * 4 + s) (by omega) (by omega), wr_s (show s < 2147483647 by omega)]
        apply ih (s + 1) (by omega)
        intro s' q
        by_cases q2 : s' = s
        · subst q2
          exact c2
        · exact f1 s' (by omega)
      · simp only [e37_0, e37_1, e37_3, e37_4, e37_7, e37_10, e37_13, e37_14, e37_17, e37_18, e37_19, e37_20, e37_21, e37_22, e37_23, e37_24, e37_27, e37_28, e37_29, e37_30, e37_31, e37_32, e37_33, e37_36, e37_37, e37_38, e37_41, e37_44, e37_45, zs0, zsI, zsL, zsR, ztl1, ztl0, zc0, zcI, zcL, zcR, true_and, and_true, true_implies, false_implies, implies_true, not_true_eq_false, not_false_eq_true, and_self, Int.toNat_natCast, Nat.reduceAdd, Nat.reduceLeDiff, Nat.reduceLT, forall_eq', Option.some.injEq, zarR, zarI, zarL, zle, zq0, zq1, zq2, zq3, zq4, zq5, zq6, zq8, zq9, zq10, zq20, zq7, zq12, zq24, zq40, zq41, zq48, zq100, zq120, zq123, zq480, zq492, zq700, zq729, zq2187, zq2916, zq8748, ne_eq, Int.reduceEq, Int.reduceLT, Int.reduceLE, Int.reduceToNat, Int.reduceMul, Int.reduceAdd, Int.reduceNeg, gk46 hg, gr46_0 hg, gr46_1 hg, gr46_2 hg, gr46_3 hg, gr46_4 hg, gr46_6 hg, gr46_7 hg, gr46_8 hg, gr46_9 hg, gr46_10 hg, gr46_11 hg, gr46_12 hg, gr46_13 hg, gk49 hg, gr49_0 hg, gr49_1 hg, gr49_2 hg, gr49_3 hg, gr49_4 hg, gr49_5 hg, gr49_6 hg, gr49_7 hg, gr49_8 hg, gk71 hg, gl71 hg, e1, c, c2, w1, w2, wrN (z := (o : Int) * 4) (m := o * 4) (by omega) (by omega), wrN (z := ((o * 4 : Nat) : Int) + s) (m := o * 4 + s) (by omega) (by omega), wrN (z := (p : Int) * 4) (m := p * 4) (by omega) (by omega), wrN (z := ((p * 4 : Nat) : Int) + s) (m := p * 4 + s) (by omega) (by omega), true_or]
        exact K 0 (Or.inl ⟨rfl, fun q => c2 (q s (by omega))⟩)
  simp only [e37_0, e37_1, e37_3, e37_4, e37_7, e37_10, e37_13, e37_14, e37_17, e37_18, e37_19, e37_20, e37_21, e37_22, e37_23, e37_24, e37_27, e37_28, e37_29, e37_30, e37_31, e37_32, e37_33, e37_36, e37_37, e37_38, e37_41, e37_44, e37_45, zs0, zsI, zsL, zsR, ztl1, ztl0, zc0, zcI, zcL, zcR, true_and, and_true, true_implies, false_implies, implies_true, not_true_eq_false, not_false_eq_true, and_self, Int.toNat_natCast, Nat.reduceAdd, Nat.reduceLeDiff, Nat.reduceLT, forall_eq', Option.some.injEq, zarR, zarI, zarL, zle, zq0, zq1, zq2, zq3, zq4, zq5, zq6, zq8, zq9, zq10, zq20, zq7, zq12, zq24, zq40, zq41, zq48, zq100, zq120, zq123, zq480, zq492, zq700, zq729, zq2187, zq2916, zq8748, ne_eq, Int.reduceEq, Int.reduceLT, Int.reduceLE, Int.reduceToNat, Int.reduceMul, Int.reduceAdd, Int.reduceNeg]
  exact lp (nS T) 0 (by omega) (fun s q => by omega)
theorem c_first (hg : gS G) (hT : kT h 49 T) (hw : wT T) {all : Nat} (ha : all < 729) (K : ∀ o, o ≤ all → (∀ s, s < nS T → h 71 (o * 4 + s) = h 71 (all * 4 + s)) → (∀ o', o' < o → ¬ (∀ s, s < nS T → h 71 (o' * 4 + s) = h 71 (all * 4 + s))) → Q (some (zI (o : Nat))) G h) : zRunD ztb zmt' (d + 2) 36 [zR (some 46), zI all] G h Q := by
  rw [r36]
  have lp : ∀ j o, o + j = all → (∀ o', o' < o → ¬ (∀ s, s < nS T → h 71 (o' * 4 + s) = h 71 (all * 4 + s))) → zE 36 (d + 1) Q 2 [some (zR (some 46)), some (zI all), some (zI o)] [] G h (0, 0) := by
    intro j
    induction j with
    | zero =>
      intro o ho f1
      have ho' : o = all := by omega
      subst ho'
      rw [e36_2]
      simp only [e36_0, e36_1, e36_3, e36_4, e36_7, e36_8, e36_9, e36_10, e36_13, e36_16, e36_17, e36_18, e36_21, e36_24, e36_25, zs0, zsI, zsL, zsR, ztl1, ztl0, zc0, zcI, zcL, zcR, true_and, and_true, true_implies, false_implies, implies_true, not_true_eq_false, not_false_eq_true, and_self, Int.toNat_natCast, Nat.reduceAdd, Nat.reduceLeDiff, Nat.reduceLT, forall_eq', Option.some.injEq, zarR, zarI, zarL, zle, zq0, zq1, zq2, zq3, zq4, zq5, zq6, zq8, zq9, zq10, zq20, zq7, zq12, zq24, zq40, zq41, zq48, zq100, zq120, zq123, zq480, zq492, zq700, zq729, zq2187, zq2916, zq8748, ne_eq, Int.reduceEq, Int.reduceLT, Int.reduceLE, Int.reduceToNat, Int.reduceMul, Int.reduceAdd, Int.reduceNeg, Int.le_refl]
      exact K o (Nat.le_refl o) (fun _ _ => rfl) f1
    | succ j ih =>
      intro o ho f1
      have c : ¬ (all : Int) ≤ o := by omega
      rw [e36_2]
      simp only [e36_0, e36_1, e36_3, e36_4, e36_7, e36_8, e36_9, e36_10, e36_13, e36_16, e36_17, e36_18, e36_21, e36_24, e36_25, zs0, zsI, zsL, zsR, ztl1, ztl0, zc0, zcI, zcL, zcR, true_and, and_true, true_implies, false_implies, implies_true, not_true_eq_false, not_false_eq_true, and_self, Int.toNat_natCast, Nat.reduceAdd, Nat.reduceLeDiff, Nat.reduceLT, forall_eq', Option.some.injEq, zarR, zarI, zarL, zle, zq0, zq1, zq2, zq3, zq4, zq5, zq6, zq8, zq9, zq10, zq20, zq7, zq12, zq24, zq40, zq41, zq48, zq100, zq120, zq123, zq480, zq492, zq700, zq729, zq2187, zq2916, zq8748, ne_eq, Int.reduceEq, Int.reduceLT, Int.reduceLE, Int.reduceToNat, Int.reduceMul, Int.reduceAdd, Int.reduceNeg, gk46 hg, gr46_0 hg, gr46_1 hg, gr46_2 hg, gr46_3 hg, gr46_4 hg, gr46_6 hg, gr46_7 hg, gr46_8 hg, gr46_9 hg, gr46_10 hg, gr46_11 hg, gr46_12 hg, gr46_13 hg, c]
      apply c_alike (d := d) hg hT hw (by omega) (by omega)
      intro v hv
      rcases hv with ⟨rfl, hv⟩ | ⟨rfl, hv⟩
      · simp only [e36_0, e36_1, e36_3, e36_4, e36_7, e36_8, e36_9, e36_10, e36_13, e36_16, e36_17, e36_18, e36_21, e36_24, e36_25, zs0, zsI, zsL, zsR, ztl1, ztl0, zc0, zcI, zcL, zcR, true_and, and_true, true_implies, false_implies, implies_true, not_true_eq_false, not_false_eq_true, and_self, Int.toNat_natCast, Nat.reduceAdd, Nat.reduceLeDiff, Nat.reduceLT, forall_eq', Option.some.injEq, zarR, zarI, zarL, zle, zq0, zq1, zq2, zq3, zq4, zq5, zq6, zq8, zq9, zq10, zq20, zq7, zq12, zq24, zq40, zq41, zq48, zq100, zq120, zq123, zq480, zq492, zq700, zq729, zq2187, zq2916, zq8748, ne_eq, Int.reduceEq, Int.reduceLT, Int.reduceLE, Int.reduceToNat, Int.reduceMul, Int.reduceAdd, Int.reduceNeg, wr_s (show o < 2147483647 by omega)]
        apply ih (o + 1) (by omega)
        intro o' q
        by_cases q2 : o' = o
        · subst q2
          exact hv
        · exact f1 o' (by omega)
      · simp only [e36_0, e36_1, e36_3, e36_4, e36_7, e36_8, e36_9, e36_10, e36_13, e36_16, e36_17, e36_18, e36_21, e36_24, e36_25, zs0, zsI, zsL, zsR, ztl1, ztl0, zc0, zcI, zcL, zcR, true_and, and_true, true_implies, false_implies, implies_true, not_true_eq_false, not_false_eq_true, and_self, Int.toNat_natCast, Nat.reduceAdd, Nat.reduceLeDiff, Nat.reduceLT, forall_eq', Option.some.injEq, zarR, zarI, zarL, zle, zq0, zq1, zq2, zq3, zq4, zq5, zq6, zq8, zq9, zq10, zq20, zq7, zq12, zq24, zq40, zq41, zq48, zq100, zq120, zq123, zq480, zq492, zq700, zq729, zq2187, zq2916, zq8748, ne_eq, Int.reduceEq, Int.reduceLT, Int.reduceLE, Int.reduceToNat, Int.reduceMul, Int.reduceAdd, Int.reduceNeg]
        exact K o (by omega) hv f1
  simp only [e36_0, e36_1, e36_3, e36_4, e36_7, e36_8, e36_9, e36_10, e36_13, e36_16, e36_17, e36_18, e36_21, e36_24, e36_25, zs0, zsI, zsL, zsR, ztl1, ztl0, zc0, zcI, zcL, zcR, true_and, and_true, true_implies, false_implies, implies_true, not_true_eq_false, not_false_eq_true, and_self, Int.toNat_natCast, Nat.reduceAdd, Nat.reduceLeDiff, Nat.reduceLT, forall_eq', Option.some.injEq, zarR, zarI, zarL, zle, zq0, zq1, zq2, zq3, zq4, zq5, zq6, zq8, zq9, zq10, zq20, zq7, zq12, zq24, zq40, zq41, zq48, zq100, zq120, zq123, zq480, zq492, zq700, zq729, zq2187, zq2916, zq8748, ne_eq, Int.reduceEq, Int.reduceLT, Int.reduceLE, Int.reduceToNat, Int.reduceMul, Int.reduceAdd, Int.reduceNeg]
  exact lp all 0 (by omega) (fun s q => by omega)
/-- the tables of all acts -/
def tOk (h : zM) (T : aTn) (ac : Nat → Nat) : Prop := sR h T ac ∧ h 46 5 = (tg ac (nB T) : Nat) ∧ (∀ all s, all < tg ac (nB T) → s < nS T → h 71 (all * 4 + s) = aPk T (aOwn T ac all) (aOth T ac all) s) ∧ (∀ all, all < tg ac (nB T) → ∃ t : Nat, h 72 all = (t : Int) ∧ t ≤ all ∧ (∀ s, s < nS T → h 71 (t * 4 + s) = h 71 (all * 4 + s)) ∧ h 72 t = (t : Int))
theorem c_tab (hg : gS G) (hT : kT h 49 T) (hw : wT T) (hc : acOk T ac) (ha : ∀ b, b < nB T → h 69 b = (ac b : Nat)) {yr : Int} (K : ∀ h' : zM, (∀ c i, ¬ (c = 46 ∧ i = 5) → ¬ (c = 48 ∧ i = 4) → ¬ c = 59 → ¬ c = 60 → ¬ c = 61 → ¬ c = 70 → ¬ c = 71 → ¬ c = 72 → h' c i = h c i) → tOk h' T ac → Q none G h') : zRunD ztb zmt' (d + 5) 35 [zR (some 46), zI yr] G h Q := by
  rw [r35]
  have hB := hw.1
  have hS := hw.2.1
  have tb := tg_b hw hc
  have all_ : ∀ j all (h1 : zM), all + j = tg ac (nB T) → (∀ c i, ¬ (c = 46 ∧ i = 5) → ¬ (c = 48 ∧ i = 4) → ¬ c = 59 → ¬ c = 60 → ¬ c = 61 → ¬ c = 70 → ¬ c = 71 → ¬ c = 72 → h1 c i = h c i) → sR h1 T ac → h1 46 5 = (tg ac (nB T) : Nat) → (∀ a' s, a' < all → s < nS T → h1 71 (a' * 4 + s) = aPk T (aOwn T ac a') (aOth T ac a') s) → (∀ a', a' < all → ∃ t : Nat, h1 72 a' = (t : Int) ∧ t ≤ a' ∧ (∀ s, s < nS T → h1 71 (t * 4 + s) = h1 71 (a' * 4 + s)) ∧ h1 72 t = (t : Int)) → zE 35 (d + 4) Q 52 [some (zR (some 46)), some (zI yr), some (zI all)] [] G h1 (0, 0) := by
    intro j
    induction j with
    | zero =>
      intro all h1 hj f0 f1 f2 f3 f4
      have hj' : all = tg ac (nB T) := by omega
      subst hj'
      rw [e35_52]
      simp only [e35_0, e35_1, e35_2, e35_5, e35_6, e35_9, e35_12, e35_13, e35_14, e35_16, e35_19, e35_20, e35_23, e35_24, e35_25, e35_28, e35_29, e35_30, e35_31, e35_34, e35_35, e35_38, e35_39, e35_40, e35_41, e35_44, e35_47, e35_50, e35_51, e35_53, e35_54, e35_57, e35_60, e35_61, e35_62, e35_65, e35_66, e35_69, e35_70, e35_73, e35_74, e35_75, e35_76, e35_79, e35_80, e35_83, e35_84, e35_85, e35_86, e35_89, e35_90, e35_91, e35_94, e35_97, e35_98, e35_99, e35_102, e35_105, zs0, zsI, zsL, zsR, ztl1, ztl0, zc0, zcI, zcL, zcR, true_and, and_true, true_implies, false_implies, implies_true, not_true_eq_false, not_false_eq_true, and_self, Int.toNat_natCast, Nat.reduceAdd, Nat.reduceLeDiff, Nat.reduceLT, forall_eq', Option.some.injEq, zarR, zarI, zarL, zle, zq0, zq1, zq2, zq3, zq4, zq5, zq6, zq8, zq9, zq10, zq20, zq7, zq12, zq24, zq40, zq41, zq48, zq100, zq120, zq123, zq480, zq492, zq700, zq729, zq2187, zq2916, zq8748, ne_eq, Int.reduceEq, Int.reduceLT, Int.reduceLE, Int.reduceToNat, Int.reduceMul, Int.reduceAdd, Int.reduceNeg, gk46 hg, gr46_0 hg, gr46_1 hg, gr46_2 hg, gr46_3 hg, gr46_4 hg, gr46_6 hg, gr46_7 hg, gr46_8 hg, gr46_9 hg, gr46_10 hg, gr46_11 hg, gr46_12 hg, gr46_13 hg, f2, Int.le_refl]
      exact K h1 f0 ⟨f1, f2, f3, f4⟩
    | succ j ih =>
      intro all h1 hj f0 f1 f2 f3 f4
      have hT1 : kT h1 49 T := kT_frame hT (fun c i q1 q2 => f0 c i (by omega) (by omega) (by omega) (by omega) (by omega) (by omega) (by omega) (by omega))
      have c : ¬ ((tg ac (nB T) : Nat) : Int) ≤ all := by omega
      rw [e35_52]
      simp only [e35_0, e35_1, e35_2, e35_5, e35_6, e35_9, e35_12, e35_13, e35_14, e35_16, e35_19, e35_20, e35_23, e35_24, e35_25, e35_28, e35_29, e35_30, e35_31, e35_34, e35_35, e35_38, e35_39, e35_40, e35_41, e35_44, e35_47, e35_50, e35_51, e35_53, e35_54, e35_57, e35_60, e35_61, e35_62, e35_65, e35_66, e35_69, e35_70, e35_73, e35_74, e35_75, e35_76, e35_79, e35_80, e35_83, e35_84, e35_85, e35_86, e35_89, e35_90, e35_91, e35_94, e35_97, e35_98, e35_99, e35_102, e35_105, zs0, zsI, zsL, zsR, ztl1, ztl0, zc0, zcI, zcL, zcR, true_and, and_true, true_implies, false_implies, implies_true, not_true_eq_false, not_false_eq_true, and_self, Int.toNat_natCast, Nat.reduceAdd, Nat.reduceLeDiff, Nat.reduceLT, forall_eq', Option.some.injEq, zarR, zarI, zarL, zle, zq0, zq1, zq2, zq3, zq4, zq5, zq6, zq8, zq9, zq10, zq20, zq7, zq12, zq24, zq40, zq41, zq48, zq100, zq120, zq123, zq480, zq492, zq700, zq729, zq2187, zq2916, zq8748, ne_eq, Int.reduceEq, Int.reduceLT, Int.reduceLE, Int.reduceToNat, Int.reduceMul, Int.reduceAdd, Int.reduceNeg, gk46 hg, gr46_0 hg, gr46_1 hg, gr46_2 hg, gr46_3 hg, gr46_4 hg, gr46_6 hg, gr46_7 hg, gr46_8 hg, gr46_9 hg, gr46_10 hg, gr46_11 hg, gr46_12 hg, gr46_13 hg, f2, c]
      apply c_askAll (d := d + 2) hg hT1 hw hc f1 (by omega)
      intro h2 m0 m1 m2
      have hT2 : kT h2 49 T := kT_frame hT1 (fun c i q1 q2 => m0 c i (by omega) (by omega))
      simp only [e35_0, e35_1, e35_2, e35_5, e35_6, e35_9, e35_12, e35_13, e35_14, e35_16, e35_19, e35_20, e35_23, e35_24, e35_25, e35_28, e35_29, e35_30, e35_31, e35_34, e35_35, e35_38, e35_39, e35_40, e35_41, e35_44, e35_47, e35_50, e35_51, e35_53, e35_54, e35_57, e35_60, e35_61, e35_62, e35_65, e35_66, e35_69, e35_70, e35_73, e35_74, e35_75, e35_76, e35_79, e35_80, e35_83, e35_84, e35_85, e35_86, e35_89, e35_90, e35_91, e35_94, e35_97, e35_98, e35_99, e35_102, e35_105, zs0, zsI, zsL, zsR, ztl1, ztl0, zc0, zcI, zcL, zcR, true_and, and_true, true_implies, false_implies, implies_true, not_true_eq_false, not_false_eq_true, and_self, Int.toNat_natCast, Nat.reduceAdd, Nat.reduceLeDiff, Nat.reduceLT, forall_eq', Option.some.injEq, zarR, zarI, zarL, zle, zq0, zq1, zq2, zq3, zq4, zq5, zq6, zq8, zq9, zq10, zq20, zq7, zq12, zq24, zq40, zq41, zq48, zq100, zq120, zq123, zq480, zq492, zq700, zq729, zq2187, zq2916, zq8748, ne_eq, Int.reduceEq, Int.reduceLT, Int.reduceLE, Int.reduceToNat, Int.reduceMul, Int.reduceAdd, Int.reduceNeg, gk46 hg, gr46_0 hg, gr46_1 hg, gr46_2 hg, gr46_3 hg, gr46_4 hg, gr46_6 hg, gr46_7 hg, gr46_8 hg, gr46_9 hg, gr46_10 hg, gr46_11 hg, gr46_12 hg, gr46_13 hg, gk48 hg, gr48_0 hg, gr48_1 hg, gr48_2 hg, gr48_3 hg, wrN (z := (all : Int) * 4) (m := all * 4) (by omega) (by omega)]
      apply c_chAll47 (d := d) (T := T) (own := aOwn T ac all) (oth := aOth T ac all) hg hT2 hw m1 m2 (aOwn_b hw ac all) (aOth_b hw ac all) (by omega) (gk71 hg) (by rw [gl71 hg]; omega) (by rw [gl71 hg]; omega)
      intro h3 p0 p1
      have hT3 : kT h3 49 T := kT_frame hT2 (fun c i q1 q2 => p0 c i (by omega) (by omega) (by omega))
      have w1 : (all : Int) < 729 := by omega
      have old71 : ∀ i, i < all * 4 ∨ all * 4 + nS T ≤ i → h3 71 i = h1 71 i := fun i q => by rw [p0 _ _ (by decide) (by omega) (by omega), m0 _ _ (by decide) (by decide)]
      have fin : ∀ t : Nat, t ≤ all → (∀ s, s < nS T → h3 71 (t * 4 + s) = h3 71 (all * 4 + s)) → (t < all → h1 72 t = (t : Int)) → zE 35 (d + 4) Q 98 [some (zR (some 46)), some (zI yr), some (zI all)] [zI (t : Nat), zI all, zR (some 72)] G h3 (0, 0) := by
        intro t ht ha1 ha2
        simp only [e35_0, e35_1, e35_2, e35_5, e35_6, e35_9, e35_12, e35_13, e35_14, e35_16, e35_19, e35_20, e35_23, e35_24, e35_25, e35_28, e35_29, e35_30, e35_31, e35_34, e35_35, e35_38, e35_39, e35_40, e35_41, e35_44, e35_47, e35_50, e35_51, e35_53, e35_54, e35_57, e35_60, e35_61, e35_62, e35_65, e35_66, e35_69, e35_70, e35_73, e35_74, e35_75, e35_76, e35_79, e35_80, e35_83, e35_84, e35_85, e35_86, e35_89, e35_90, e35_91, e35_94, e35_97, e35_98, e35_99, e35_102, e35_105, zs0, zsI, zsL, zsR, ztl1, ztl0, zc0, zcI, zcL, zcR, true_and, and_true, true_implies, false_implies, implies_true, not_true_eq_false, not_false_eq_true, and_self, Int.toNat_natCast, Nat.reduceAdd, Nat.reduceLeDiff, Nat.reduceLT, forall_eq', Option.some.injEq, zarR, zarI, zarL, zle, zq0, zq1, zq2, zq3, zq4, zq5, zq6, zq8, zq9, zq10, zq20, zq7, zq12, zq24, zq40, zq41, zq48, zq100, zq120, zq123, zq480, zq492, zq700, zq729, zq2187, zq2916, zq8748, ne_eq, Int.reduceEq, Int.reduceLT, Int.reduceLE, Int.reduceToNat, Int.reduceMul, Int.reduceAdd, Int.reduceNeg, gk72 hg, gl72 hg, w1, wr_s (show all < 2147483647 by omega)]
        apply ih (all + 1) _ (by omega)
        · intro c i q1 q2 q3 q4 q5 q6 q7 q8
          rw [zu_c q8, p0 c i q5 (by omega) (by omega), m0 c i q3 q4]
          exact f0 c i q1 q2 q3 q4 q5 q6 q7 q8
        · constructor
          · intro b q
            rw [zu_c (by decide), p0 _ _ (by decide) (by omega) (by omega), m0 _ _ (by decide) (by decide)]
            exact f1.1 b q
          · intro b q
            rw [zu_c (by decide), p0 _ _ (by decide) (by omega) (by omega), m0 _ _ (by decide) (by decide)]
            exact f1.2 b q
        · rw [zu_c (by decide), p0 _ _ (by decide) (by omega) (by omega), m0 _ _ (by decide) (by decide)]
          exact f2
        · intro a' s q1 q2
          rw [zu_c (by decide)]
          by_cases q3 : a' = all
          · subst q3
            exact p1 s q2
          · rw [old71 _ (by omega)]
            exact f3 a' s (by omega) q2
        · intro a' q1
          by_cases q3 : a' = all
          · subst q3
            refine ⟨t, zu_at, ht, ?_, ?_⟩
            · intro s q
              rw [zu_c (by decide), zu_c (by decide)]
              exact ha1 s q
            · by_cases q4 : t = a'
              · subst q4
                exact zu_at
              · rw [zu_i q4, p0 _ _ (by decide) (by omega) (by omega), m0 _ _ (by decide) (by decide)]
                exact ha2 (by omega)
          · obtain ⟨t', v1, v2, v3, v4⟩ := f4 a' (by omega)
            refine ⟨t', ?_, v2, ?_, ?_⟩
            · rw [zu_i q3, p0 _ _ (by decide) (by omega) (by omega), m0 _ _ (by decide) (by decide)]
              exact v1
            · intro s q
              rw [zu_c (by decide), zu_c (by decide), old71 _ (by omega), old71 _ (by omega)]
              exact v3 s q
            · rw [zu_i (by omega), p0 _ _ (by decide) (by omega) (by omega), m0 _ _ (by decide) (by decide)]
              exact v4
      by_cases cy : yr ≤ 1
      · simp only [e35_0, e35_1, e35_2, e35_5, e35_6, e35_9, e35_12, e35_13, e35_14, e35_16, e35_19, e35_20, e35_23, e35_24, e35_25, e35_28, e35_29, e35_30, e35_31, e35_34, e35_35, e35_38, e35_39, e35_40, e35_41, e35_44, e35_47, e35_50, e35_51, e35_53, e35_54, e35_57, e35_60, e35_61, e35_62, e35_65, e35_66, e35_69, e35_70, e35_73, e35_74, e35_75, e35_76, e35_79, e35_80, e35_83, e35_84, e35_85, e35_86, e35_89, e35_90, e35_91, e35_94, e35_97, e35_99, e35_102, e35_105, zs0, zsI, zsL, zsR, ztl1, ztl0, zc0, zcI, zcL, zcR, true_and, and_true, true_implies, false_implies, implies_true, not_true_eq_false, not_false_eq_true, and_self, Int.toNat_natCast, Nat.reduceAdd, Nat.reduceLeDiff, Nat.reduceLT, forall_eq', Option.some.injEq, zarR, zarI, zarL, zle, zq0, zq1, zq2, zq3, zq4, zq5, zq6, zq8, zq9, zq10, zq20, zq7, zq12, zq24, zq40, zq41, zq48, zq100, zq120, zq123, zq480, zq492, zq700, zq729, zq2187, zq2916, zq8748, ne_eq, Int.reduceEq, Int.reduceLT, Int.reduceLE, Int.reduceToNat, Int.reduceMul, Int.reduceAdd, Int.reduceNeg, gk46 hg, gr46_0 hg, gr46_1 hg, gr46_2 hg, gr46_3 hg, gr46_4 hg, gr46_6 hg, gr46_7 hg, gr46_8 hg, gr46_9 hg, gr46_10 hg, gr46_11 hg, gr46_12 hg, gr46_13 hg, gk48 hg, gr48_0 hg, gr48_1 hg, gr48_2 hg, gr48_3 hg, cy]
        exact fin all (Nat.le_refl all) (fun _ _ => rfl) (fun q => by omega)
      · simp only [e35_0, e35_1, e35_2, e35_5, e35_6, e35_9, e35_12, e35_13, e35_14, e35_16, e35_19, e35_20, e35_23, e35_24, e35_25, e35_28, e35_29, e35_30, e35_31, e35_34, e35_35, e35_38, e35_39, e35_40, e35_41, e35_44, e35_47, e35_50, e35_51, e35_53, e35_54, e35_57, e35_60, e35_61, e35_62, e35_65, e35_66, e35_69, e35_70, e35_73, e35_74, e35_75, e35_76, e35_79, e35_80, e35_83, e35_84, e35_85, e35_86, e35_89, e35_90, e35_91, e35_94, e35_97, e35_99, e35_102, e35_105, zs0, zsI, zsL, zsR, ztl1, ztl0, zc0, zcI, zcL, zcR, true_and, and_true, true_implies, false_implies, implies_true, not_true_eq_false, not_false_eq_true, and_self, Int.toNat_natCast, Nat.reduceAdd, Nat.reduceLeDiff, Nat.reduceLT, forall_eq', Option.some.injEq, zarR, zarI, zarL, zle, zq0, zq1, zq2, zq3, zq4, zq5, zq6, zq8, zq9, zq10, zq20, zq7, zq12, zq24, zq40, zq41, zq48, zq100, zq120, zq123, zq480, zq492, zq700, zq729, zq2187, zq2916, zq8748, ne_eq, Int.reduceEq, Int.reduceLT, Int.reduceLE, Int.reduceToNat, Int.reduceMul, Int.reduceAdd, Int.reduceNeg, gk46 hg, gr46_0 hg, gr46_1 hg, gr46_2 hg, gr46_3 hg, gr46_4 hg, gr46_6 hg, gr46_7 hg, gr46_8 hg, gr46_9 hg, gr46_10 hg, gr46_11 hg, gr46_12 hg, gr46_13 hg, gk48 hg, gr48_0 hg, gr48_1 hg, gr48_2 hg, gr48_3 hg, cy]
        apply c_first (d := d + 2) hg hT3 hw (by omega)
        intro o ho h71 hmin
        simp only [zs0, zsI, zsL, zsR, ztl1, ztl0, zc0, zcI, zcL, zcR, true_and, and_true, true_implies, false_implies, implies_true, not_true_eq_false, not_false_eq_true, and_self, Int.toNat_natCast, Nat.reduceAdd, Nat.reduceLeDiff, Nat.reduceLT, forall_eq', Option.some.injEq, zarR, zarI, zarL, zle, zq0, zq1, zq2, zq3, zq4, zq5, zq6, zq8, zq9, zq10, zq20, zq7, zq12, zq24, zq40, zq41, zq48, zq100, zq120, zq123, zq480, zq492, zq700, zq729, zq2187, zq2916, zq8748, ne_eq, Int.reduceEq, Int.reduceLT, Int.reduceLE, Int.reduceToNat, Int.reduceMul, Int.reduceAdd, Int.reduceNeg]
        apply fin o ho h71
        intro hlt
        obtain ⟨t', v1, v2, v3, v4⟩ := f4 o hlt
        by_cases q4 : t' = o
        · rw [← q4] at v1 ⊢
          exact v1
        · exfalso
          apply hmin t' (by omega)
          intro s q
          rw [← h71 s q, old71 _ (by omega), old71 _ (by omega)]
          exact v3 s q
  have str : ∀ j (h1 : zM), j ≤ nB T → (∀ c i, ¬ (c = 46 ∧ i = 5) → ¬ c = 70 → h1 c i = h c i) → h1 46 5 = (tgU ac (nB T) (nB T - j) : Nat) → (∀ b, j ≤ b → b < nB T → h1 70 b = (sd ac (nB T) b : Nat)) → zE 35 (d + 4) Q 15 [some (zR (some 46)), some (zI yr), some (zI ((j : Int) - 1))] [] G h1 (0, 0) := by
    intro j
    induction j with
    | zero =>
      intro h1 _ f0 f1 f2
      rw [e35_15]
      simp only [e35_0, e35_1, e35_2, e35_5, e35_6, e35_9, e35_12, e35_13, e35_14, e35_16, e35_19, e35_20, e35_23, e35_24, e35_25, e35_28, e35_29, e35_30, e35_31, e35_34, e35_35, e35_38, e35_39, e35_40, e35_41, e35_44, e35_47, e35_50, e35_51, e35_53, e35_54, e35_57, e35_60, e35_61, e35_62, e35_65, e35_66, e35_69, e35_70, e35_73, e35_74, e35_75, e35_76, e35_79, e35_80, e35_83, e35_84, e35_85, e35_86, e35_89, e35_90, e35_91, e35_94, e35_97, e35_98, e35_99, e35_102, e35_105, zs0, zsI, zsL, zsR, ztl1, ztl0, zc0, zcI, zcL, zcR, true_and, and_true, true_implies, false_implies, implies_true, not_true_eq_false, not_false_eq_true, and_self, Int.toNat_natCast, Nat.reduceAdd, Nat.reduceLeDiff, Nat.reduceLT, forall_eq', Option.some.injEq, zarR, zarI, zarL, zle, zq0, zq1, zq2, zq3, zq4, zq5, zq6, zq8, zq9, zq10, zq20, zq7, zq12, zq24, zq40, zq41, zq48, zq100, zq120, zq123, zq480, zq492, zq700, zq729, zq2187, zq2916, zq8748, ne_eq, Int.reduceEq, Int.reduceLT, Int.reduceLE, Int.reduceToNat, Int.reduceMul, Int.reduceAdd, Int.reduceNeg, Int.reduceSub]
      apply all_ (tg ac (nB T)) 0 h1 (by omega)
      · intro c i q1 q2 q3 q4 q5 q6 q7 q8
        exact f0 c i q1 q6
      · exact ⟨fun b q => by rw [f0 _ _ (by omega) (by decide)]; exact ha b q, fun b q => f2 b (by omega) q⟩
      · exact f1
      · intro a' s q
        omega
      · intro a' q
        omega
    | succ j ih =>
      intro h1 hj f0 f1 f2
      have c1 : ¬ (j : Int) < 0 := by omega
      have c2 : (((j + 1 : Nat) : Int) - 1) = (j : Int) := by omega
      have c3 : (j : Int) < 3 := by omega
      have e1 : h1 69 j = (ac j : Nat) := by rw [f0 _ _ (by omega) (by decide)]; exact ha j (by omega)
      have b1 := tgU_b hw hc (nB T) (nB T - (j + 1)) (by omega)
      have b2 := hc j
      have b3 := nA_b hw
      have m1 : tgU ac (nB T) (nB T - (j + 1)) * ac j ≤ 729 * 9 := Nat.mul_le_mul b1.2.1 (by omega)
      have e2 : tgU ac (nB T) (nB T - j) = tgU ac (nB T) (nB T - (j + 1)) * ac j := by
        have q : nB T - j = (nB T - (j + 1)) + 1 := by omega
        rw [q, tgU]
        congr 2
        omega
      have e3 : wr (((tgU ac (nB T) (nB T - (j + 1)) : Nat) : Int) * ((ac j : Nat) : Int)) = ((tgU ac (nB T) (nB T - j) : Nat) : Int) := by
        rw [e2, ← Int.natCast_mul]
        generalize tgU ac (nB T) (nB T - (j + 1)) * ac j = q at m1 ⊢
        exact wr_id (by omega)
      rw [e35_15]
      simp only [e35_0, e35_1, e35_2, e35_5, e35_6, e35_9, e35_12, e35_13, e35_14, e35_16, e35_19, e35_20, e35_23, e35_24, e35_25, e35_28, e35_29, e35_30, e35_31, e35_34, e35_35, e35_38, e35_39, e35_40, e35_41, e35_44, e35_47, e35_50, e35_51, e35_53, e35_54, e35_57, e35_60, e35_61, e35_62, e35_65, e35_66, e35_69, e35_70, e35_73, e35_74, e35_75, e35_76, e35_79, e35_80, e35_83, e35_84, e35_85, e35_86, e35_89, e35_90, e35_91, e35_94, e35_97, e35_98, e35_99, e35_102, e35_105, zs0, zsI, zsL, zsR, ztl1, ztl0, zc0, zcI, zcL, zcR, true_and, and_true, true_implies, false_implies, implies_true, not_true_eq_false, not_false_eq_true, and_self, Int.toNat_natCast, Nat.reduceAdd, Nat.reduceLeDiff, Nat.reduceLT, forall_eq', Option.some.injEq, zarR, zarI, zarL, zle, zq0, zq1, zq2, zq3, zq4, zq5, zq6, zq8, zq9, zq10, zq20, zq7, zq12, zq24, zq40, zq41, zq48, zq100, zq120, zq123, zq480, zq492, zq700, zq729, zq2187, zq2916, zq8748, ne_eq, Int.reduceEq, Int.reduceLT, Int.reduceLE, Int.reduceToNat, Int.reduceMul, Int.reduceAdd, Int.reduceNeg, gk46 hg, gr46_0 hg, gr46_1 hg, gr46_2 hg, gr46_3 hg, gr46_4 hg, gr46_6 hg, gr46_7 hg, gr46_8 hg, gr46_9 hg, gr46_10 hg, gr46_11 hg, gr46_12 hg, gr46_13 hg, gk69 hg, gl69 hg, gk70 hg, gl70 hg, c1, c2, c3, f1, e1, zu_c (show ¬ 46 = 70 by decide), zu_c (show ¬ 69 = 70 by decide), e3]
      rw [wr_id (z := (j : Int) + -1) (by omega), show (j : Int) + -1 = (j : Int) - 1 from rfl]
      apply ih _ (by omega)
      · intro c i q1 q2
        unfold zu
        rw [if_neg q1, if_neg (fun q => q2 q.1)]
        exact f0 c i q1 q2
      · exact zu_at
      · intro b q1 q2
        rw [zu_c (by decide)]
        by_cases q3 : b = j
        · subst q3
          have q9 : nB T - (b + 1) = nB T - 1 - b := by omega
          rw [zu_at, sd, q9]
        · rw [zu_i q3]
          exact f2 b (by omega) q2
  have e1 := hT.1
  simp only [e35_0, e35_1, e35_2, e35_5, e35_6, e35_9, e35_12, e35_13, e35_14, e35_16, e35_19, e35_20, e35_23, e35_24, e35_25, e35_28, e35_29, e35_30, e35_31, e35_34, e35_35, e35_38, e35_39, e35_40, e35_41, e35_44, e35_47, e35_50, e35_51, e35_53, e35_54, e35_57, e35_60, e35_61, e35_62, e35_65, e35_66, e35_69, e35_70, e35_73, e35_74, e35_75, e35_76, e35_79, e35_80, e35_83, e35_84, e35_85, e35_86, e35_89, e35_90, e35_91, e35_94, e35_97, e35_98, e35_99, e35_102, e35_105, zs0, zsI, zsL, zsR, ztl1, ztl0, zc0, zcI, zcL, zcR, true_and, and_true, true_implies, false_implies, implies_true, not_true_eq_false, not_false_eq_true, and_self, Int.toNat_natCast, Nat.reduceAdd, Nat.reduceLeDiff, Nat.reduceLT, forall_eq', Option.some.injEq, zarR, zarI, zarL, zle, zq0, zq1, zq2, zq3, zq4, zq5, zq6, zq8, zq9, zq10, zq20, zq7, zq12, zq24, zq40, zq41, zq48, zq100, zq120, zq123, zq480, zq492, zq700, zq729, zq2187, zq2916, zq8748, ne_eq, Int.reduceEq, Int.reduceLT, Int.reduceLE, Int.reduceToNat, Int.reduceMul, Int.reduceAdd, Int.reduceNeg, gk46 hg, gr46_0 hg, gr46_1 hg, gr46_2 hg, gr46_3 hg, gr46_4 hg, gr46_6 hg, gr46_7 hg, gr46_8 hg, gr46_9 hg, gr46_10 hg, gr46_11 hg, gr46_12 hg, gr46_13 hg, gk49 hg, gr49_0 hg, gr49_1 hg, gr49_2 hg, gr49_3 hg, gr49_4 hg, gr49_5 hg, gr49_6 hg, gr49_7 hg, gr49_8 hg, zu_c (show ¬ 49 = 46 by decide), e1]
  rw [wr_id (by omega)]
  apply str (nB T) _ (Nat.le_refl _)
  · intro c i q1 _
    unfold zu
    rw [if_neg q1]
  · rw [zu_at, Nat.sub_self]
    rfl
  · intro b q1 q2
    omega
end TAB
