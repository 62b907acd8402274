section RP
variable {d : Nat} {Q : zQ} {G : zG} {h : zM} {T : aTn} {ac : Nat → Nat} {u y all b : Nat} {w : Nat → Nat → Int}
theorem m_gain (hg : gS G) (hu : gU G u) (hV : rV h u T) (hw : wT T) (hc : acOk T ac) (hA : rA h T ac) (hy : y ≤ 3) (hall : all < tg ac (nB T)) (hb : b < nB T) (hW : ∀ a b, a < tg ac (nB T) → b < nB T → h 111 ((y * 729 + a) * 3 + b) = w a b) (bw : ∀ a b, -100000000000 ≤ w a b ∧ w a b ≤ 100000000000) : zRunD ztb zmt' (d + 4) 178 [zR (some 91), zI y, zI all, zI b] G h Q ↔ Q (some (zL (gB ac (nB T) w all b (ac b)))) G h := by
  rw [r178]
  have hB := hw.1
  have tb := tg_b hw hc
  have s1 := sd_b hw hc b
  have s2 := hc b
  have s3 := nA_b hw
  have dv := fun a (ha : a < ac b) => dev_b hw hc hb ha hall
  have d0 := dv 0 (by omega)
  have hnow := hW all b hall hb
  have q1 : ∀ Q' : zQ, zRunD ztb zmt' (d + 3) 172 [zR (some 91), zI b] G h Q' ↔ Q' (some (zI (sd ac (nB T) b : Nat))) G h := fun Q' => m_stride (d := d + 1) hg hu hV hw hc hA hb
  have q2 : ∀ Q' : zQ, zRunD ztb zmt' (d + 3) 173 [zR (some 91), zI all, zI b] G h Q' ↔ Q' (some (zI (aAct ac (nB T) all b : Nat))) G h := fun Q' => m_ract (d := d) hg hu hV hw hc hA hb (by omega)
  have q3 : ∀ Q' : zQ, zRunD ztb zmt' (d + 3) 169 [zR (some 91), zI b] G h Q' ↔ Q' (some (zI (ac b : Nat))) G h := fun Q' => m_actsOf (d := d + 2) hg hu hV hw hA hb
  have q4 : ∀ a, a < tg ac (nB T) → ∀ Q' : zQ, zRunD ztb zmt' (d + 3) 177 [zI y, zI a, zI b] G h Q' ↔ Q' (some (zI (((y * 729 + a) * 3 + b : Nat) : Int))) G h := fun a ha Q' => m_worthAt (d := d + 2) hy (by omega) (by omega)
  have w0 : (((y * 729 + all) * 3 + b : Nat) : Int) < 8748 := by omega
  have gbb : ∀ a, 0 ≤ gB ac (nB T) w all b a ∧ gB ac (nB T) w all b a ≤ 200000000000 := by
    intro a
    induction a with
    | zero => exact ⟨Int.le_refl 0, (by decide : (0 : Int) ≤ 200000000000)⟩
    | succ a ih =>
      have z1 := bw (all - aAct ac (nB T) all b * sd ac (nB T) b + a * sd ac (nB T) b) b
      have z2 := bw all b
      unfold gB
      omega
  have lp : ∀ j a (l9 l10 : Option zV), a + j = ac b → (zE 178 (d + 3) Q 36 [some (zR (some 91)), some (zI y), some (zI all), some (zI b), some (zI (sd ac (nB T) b : Nat)), some (zI ((all - aAct ac (nB T) all b * sd ac (nB T) b : Nat) : Int)), some (zL (w all b + gB ac (nB T) w all b a)), none, some (zI a), l9, l10] [] G h (0, 0) ↔ Q (some (zL (gB ac (nB T) w all b (ac b)))) G h) := by
    intro j
    induction j with
    | zero =>
      intro a l9 l10 ha
      have ha' : a = ac b := by omega
      have c2 : ((ac b : Nat) : Int) ≤ a := by omega
      have z2 := bw all b
      have z3 := gbb a
      rw [e178_36]
      simp only [e178_0, e178_1, e178_2, e178_5, e178_7, e178_8, e178_9, e178_10, e178_11, e178_14, e178_16, e178_17, e178_18, e178_20, e178_21, e178_24, e178_25, e178_26, e178_27, e178_30, e178_31, e178_33, e178_34, e178_38, e178_39, e178_40, e178_43, e178_46, e178_47, e178_50, e178_51, e178_53, e178_55, e178_57, e178_58, e178_59, e178_60, e178_63, e178_64, e178_66, e178_68, e178_70, e178_71, e178_74, e178_76, e178_79, e178_81, e178_83, e178_86, e178_89, e178_91, e178_92, e178_95, e178_96, e178_97, e178_98, e178_101, e178_102, e178_103, zs0, zsI, zsL, zsR, ztl1, ztl0, zc0, zcI, zcL, zcR, true_and, and_true, true_implies, false_implies, implies_true, not_true_eq_false, not_false_eq_true, and_self, Int.toNat_natCast, Nat.reduceAdd, Nat.reduceLeDiff, Nat.reduceLT, forall_eq', Option.some.injEq, zarR, zarI, zarL, zle, zq0, zq1, zq2, zq3, zq4, zq5, zq6, zq8, zq9, zq10, zq20, zq7, zq12, zq24, zq40, zq41, zq48, zq100, zq120, zq123, zq480, zq492, zq700, zq729, zq2187, zq2916, zq8748, ne_eq, Int.reduceEq, Int.reduceLT, Int.reduceLE, Int.reduceToNat, Int.reduceMul, Int.reduceAdd, Int.reduceNeg, gk91 hg, gr91_5 hg, gr91_22 hg, gr91_23 hg, gr91_24 hg, gr91_25 hg, gr91_26 hg, gr91_27 hg, gr91_28 hg, gr91_29 hg, gr91_32 hg, gr91_33 hg, gr91_34 hg, gr91_35 hg, gr91_36 hg, gr91_37 hg, gr91_38 hg, gr91_39 hg, gr91_40 hg, gr91_41 hg, gr91_42 hg, gr91_44 hg, gr91_45 hg, gr91_46 hg, gr91_48 hg, gr91_49 hg, gr91_50 hg, gr91_51 hg, gr91_52 hg, gk111 hg, gl111 hg, q3, c2, q4 all hall, w0, hnow]
      rw [wl_id (by omega), ha']
      exact iff_of_eq (congrArg (fun z => Q (some (zL z)) G h) (by omega))
    | succ j ih =>
      intro a l9 l10 ha
      have c2 : ¬ ((ac b : Nat) : Int) ≤ a := by omega
      have dva := dv a (by omega)
      have hval := hW _ b dva.1 hb
      have as_ : a * sd ac (nB T) b ≤ 9 * 81 := Nat.mul_le_mul (by omega) s1.2
      have m3 : ((a : Nat) : Int) * ((sd ac (nB T) b : Nat) : Int) = ((a * sd ac (nB T) b : Nat) : Int) := (Int.natCast_mul _ _).symm
      have q5 := q4 _ dva.1
      have go := ih (a + 1) (some (zL (w (all - aAct ac (nB T) all b * sd ac (nB T) b + a * sd ac (nB T) b) b))) none (by omega)
      rw [gB] at go
      generalize all - aAct ac (nB T) all b * sd ac (nB T) b = fi at *
      generalize a * sd ac (nB T) b = AS at *
      have w1 : (((y * 729 + (fi + AS)) * 3 + b : Nat) : Int) < 8748 := by omega
      rw [e178_36]
      by_cases c3 : w (fi + AS) b ≤ w all b + gB ac (nB T) w all b a
      · have e : w all b + max (gB ac (nB T) w all b a) (w (fi + AS) b - w all b) = w all b + gB ac (nB T) w all b a := by omega
        rw [e] at go
        simp only [e178_0, e178_1, e178_2, e178_5, e178_7, e178_8, e178_9, e178_10, e178_11, e178_14, e178_16, e178_17, e178_18, e178_20, e178_21, e178_24, e178_25, e178_26, e178_27, e178_30, e178_31, e178_33, e178_34, e178_38, e178_39, e178_40, e178_43, e178_46, e178_47, e178_50, e178_51, e178_53, e178_55, e178_57, e178_58, e178_59, e178_60, e178_63, e178_64, e178_66, e178_68, e178_70, e178_71, e178_74, e178_76, e178_79, e178_81, e178_83, e178_86, e178_89, e178_91, e178_92, e178_95, e178_96, e178_97, e178_98, e178_101, e178_102, e178_103, zs0, zsI, zsL, zsR, ztl1, ztl0, zc0, zcI, zcL, zcR, true_and, and_true, true_implies, false_implies, implies_true, not_true_eq_false, not_false_eq_true, and_self, Int.toNat_natCast, Nat.reduceAdd, Nat.reduceLeDiff, Nat.reduceLT, forall_eq', Option.some.injEq, zarR, zarI, zarL, zle, zq0, zq1, zq2, zq3, zq4, zq5, zq6, zq8, zq9, zq10, zq20, zq7, zq12, zq24, zq40, zq41, zq48, zq100, zq120, zq123, zq480, zq492, zq700, zq729, zq2187, zq2916, zq8748, ne_eq, Int.reduceEq, Int.reduceLT, Int.reduceLE, Int.reduceToNat, Int.reduceMul, Int.reduceAdd, Int.reduceNeg, gk91 hg, gr91_5 hg, gr91_22 hg, gr91_23 hg, gr91_24 hg, gr91_25 hg, gr91_26 hg, gr91_27 hg, gr91_28 hg, gr91_29 hg, gr91_32 hg, gr91_33 hg, gr91_34 hg, gr91_35 hg, gr91_36 hg, gr91_37 hg, gr91_38 hg, gr91_39 hg, gr91_40 hg, gr91_41 hg, gr91_42 hg, gr91_44 hg, gr91_45 hg, gr91_46 hg, gr91_48 hg, gr91_49 hg, gr91_50 hg, gr91_51 hg, gr91_52 hg, gk111 hg, gl111 hg, q3, c2, m3, wrN (z := (AS : Int)) (m := AS) rfl (by omega), wrN (z := (fi : Int) + (AS : Int)) (m := fi + AS) (by omega) (by omega), q5, w1, hval, zlc_le, c3, wr_s (show a < 2147483647 by omega)]
        exact go
      · have e : w all b + max (gB ac (nB T) w all b a) (w (fi + AS) b - w all b) = w (fi + AS) b := by omega
        rw [e] at go
        simp only [e178_0, e178_1, e178_2, e178_5, e178_7, e178_8, e178_9, e178_10, e178_11, e178_14, e178_16, e178_17, e178_18, e178_20, e178_21, e178_24, e178_25, e178_26, e178_27, e178_30, e178_31, e178_33, e178_34, e178_38, e178_39, e178_40, e178_43, e178_46, e178_47, e178_50, e178_51, e178_53, e178_55, e178_57, e178_58, e178_59, e178_60, e178_63, e178_64, e178_66, e178_68, e178_70, e178_71, e178_74, e178_76, e178_79, e178_81, e178_83, e178_86, e178_89, e178_91, e178_92, e178_95, e178_96, e178_97, e178_98, e178_101, e178_102, e178_103, zs0, zsI, zsL, zsR, ztl1, ztl0, zc0, zcI, zcL, zcR, true_and, and_true, true_implies, false_implies, implies_true, not_true_eq_false, not_false_eq_true, and_self, Int.toNat_natCast, Nat.reduceAdd, Nat.reduceLeDiff, Nat.reduceLT, forall_eq', Option.some.injEq, zarR, zarI, zarL, zle, zq0, zq1, zq2, zq3, zq4, zq5, zq6, zq8, zq9, zq10, zq20, zq7, zq12, zq24, zq40, zq41, zq48, zq100, zq120, zq123, zq480, zq492, zq700, zq729, zq2187, zq2916, zq8748, ne_eq, Int.reduceEq, Int.reduceLT, Int.reduceLE, Int.reduceToNat, Int.reduceMul, Int.reduceAdd, Int.reduceNeg, gk91 hg, gr91_5 hg, gr91_22 hg, gr91_23 hg, gr91_24 hg, gr91_25 hg, gr91_26 hg, gr91_27 hg, gr91_28 hg, gr91_29 hg, gr91_32 hg, gr91_33 hg, gr91_34 hg, gr91_35 hg, gr91_36 hg, gr91_37 hg, gr91_38 hg, gr91_39 hg, gr91_40 hg, gr91_41 hg, gr91_42 hg, gr91_44 hg, gr91_45 hg, gr91_46 hg, gr91_48 hg, gr91_49 hg, gr91_50 hg, gr91_51 hg, gr91_52 hg, gk111 hg, gl111 hg, q3, c2, m3, wrN (z := (AS : Int)) (m := AS) rfl (by omega), wrN (z := (fi : Int) + (AS : Int)) (m := fi + AS) (by omega) (by omega), q5, w1, hval, zlc_le, c3, wr_s (show a < 2147483647 by omega)]
        exact go
  have l0 := fun l9 l10 => lp (ac b) 0 l9 l10 (by omega)
  simp only [gB, Int.add_zero, zq0] at l0
  have m1 : ((aAct ac (nB T) all b : Nat) : Int) * ((sd ac (nB T) b : Nat) : Int) = ((aAct ac (nB T) all b * sd ac (nB T) b : Nat) : Int) := (Int.natCast_mul _ _).symm
  have hfi : ((all - aAct ac (nB T) all b * sd ac (nB T) b : Nat) : Int) = (all : Int) - ((aAct ac (nB T) all b * sd ac (nB T) b : Nat) : Int) := by omega
  rw [hfi] at l0
  clear lp hfi dv
  generalize aAct ac (nB T) all b * sd ac (nB T) b = AS at *
  simp only [e178_0, e178_1, e178_2, e178_5, e178_7, e178_8, e178_9, e178_10, e178_11, e178_14, e178_16, e178_17, e178_18, e178_20, e178_21, e178_24, e178_25, e178_26, e178_27, e178_30, e178_31, e178_33, e178_34, e178_38, e178_39, e178_40, e178_43, e178_46, e178_47, e178_50, e178_51, e178_53, e178_55, e178_57, e178_58, e178_59, e178_60, e178_63, e178_64, e178_66, e178_68, e178_70, e178_71, e178_74, e178_76, e178_79, e178_81, e178_83, e178_86, e178_89, e178_91, e178_92, e178_95, e178_96, e178_97, e178_98, e178_101, e178_102, e178_103, zs0, zsI, zsL, zsR, ztl1, ztl0, zc0, zcI, zcL, zcR, true_and, and_true, true_implies, false_implies, implies_true, not_true_eq_false, not_false_eq_true, and_self, Int.toNat_natCast, Nat.reduceAdd, Nat.reduceLeDiff, Nat.reduceLT, forall_eq', Option.some.injEq, zarR, zarI, zarL, zle, zq0, zq1, zq2, zq3, zq4, zq5, zq6, zq8, zq9, zq10, zq20, zq7, zq12, zq24, zq40, zq41, zq48, zq100, zq120, zq123, zq480, zq492, zq700, zq729, zq2187, zq2916, zq8748, ne_eq, Int.reduceEq, Int.reduceLT, Int.reduceLE, Int.reduceToNat, Int.reduceMul, Int.reduceAdd, Int.reduceNeg, gk91 hg, gr91_5 hg, gr91_22 hg, gr91_23 hg, gr91_24 hg, gr91_25 hg, gr91_26 hg, gr91_27 hg, gr91_28 hg, gr91_29 hg, gr91_32 hg, gr91_33 hg, gr91_34 hg, gr91_35 hg, gr91_36 hg, gr91_37 hg, gr91_38 hg, gr91_39 hg, gr91_40 hg, gr91_41 hg, gr91_42 hg, gr91_44 hg, gr91_45 hg, gr91_46 hg, gr91_48 hg, gr91_49 hg, gr91_50 hg, gr91_51 hg, gr91_52 hg, gk111 hg, gl111 hg, q1, q2, m1, wrN (z := (AS : Int)) (m := AS) rfl (by omega), wr_id (z := (all : Int) - (AS : Int)) (by omega), q4 all hall, w0, hnow]
  exact l0 _ _
theorem m_picks (hg : gS G) (hu : gU G u) (hV : rV h u T) (hw : wT T) (hc : acOk T ac) (hA : rA h T ac) (hy : y ≤ 3) (hW : ∀ a b, a < tg ac (nB T) → b < nB T → h 111 ((y * 729 + a) * 3 + b) = w a b) (bw : ∀ a b, -100000000000 ≤ w a b ∧ w a b ≤ 100000000000) (hU : h 91 43 = 0 ∨ h 91 43 = 1) (K : ∀ h' : zM, (∀ c i, ¬ (c = 91 ∧ i = 43) → h' c i = h c i) → (h' 91 43 = 0 ∨ h' 91 43 = 1) → (h' 91 43 = 1 ↔ h 91 43 = 1 ∨ 0 < least ac (nB T) w) → Q (some (zI (calm ac (nB T) w : Nat))) G h') : zRunD ztb zmt' (d + 5) 179 [zR (some 91), zI y] G h Q := by
  rw [r179]
  have hB := hw.1
  have tb := tg_b hw hc
  have e1 := hV.1
  have q0 : ∀ Q' : zQ, zRunD ztb zmt' (d + 4) 170 [zR (some 91)] G h Q' ↔ Q' (some (zI (tg ac (nB T) : Nat))) G h := fun Q' => m_allActs (d := d + 2) hg hu hV hw hc hA
  have fin : ∀ (l6 l7 l8 l9 l10 l11 : Option zV), zE 179 (d + 4) Q 111 [some (zR (some 91)), some (zI y), some (zI (tg ac (nB T) : Nat)), some (zI (calm ac (nB T) w : Nat)), some (zL (least ac (nB T) w)), none, l6, l7, l8, l9, l10, l11] [] G h (0, 0) := by
    intro l6 l7 l8 l9 l10 l11
    by_cases c : h 91 43 = 0
    · by_cases c2 : least ac (nB T) w ≤ 0
      · simp only [e179_0, e179_1, e179_4, e179_5, e179_6, e179_7, e179_10, e179_12, e179_13, e179_17, e179_18, e179_21, e179_23, e179_24, e179_25, e179_28, e179_29, e179_31, e179_32, e179_36, e179_37, e179_40, e179_43, e179_46, e179_47, e179_48, e179_50, e179_52, e179_55, e179_57, e179_59, e179_61, e179_62, e179_65, e179_67, e179_70, e179_72, e179_74, e179_77, e179_80, e179_82, e179_83, e179_84, e179_87, e179_89, e179_91, e179_92, e179_95, e179_98, e179_100, e179_102, e179_104, e179_105, e179_108, e179_111, e179_112, e179_113, e179_116, e179_119, e179_121, e179_122, e179_123, e179_126, e179_127, e179_130, e179_131, e179_134, e179_135, zs0, zsI, zsL, zsR, ztl1, ztl0, zc0, zcI, zcL, zcR, true_and, and_true, true_implies, false_implies, implies_true, not_true_eq_false, not_false_eq_true, and_self, Int.toNat_natCast, Nat.reduceAdd, Nat.reduceLeDiff, Nat.reduceLT, forall_eq', Option.some.injEq, zarR, zarI, zarL, zle, zq0, zq1, zq2, zq3, zq4, zq5, zq6, zq8, zq9, zq10, zq20, zq7, zq12, zq24, zq40, zq41, zq48, zq100, zq120, zq123, zq480, zq492, zq700, zq729, zq2187, zq2916, zq8748, ne_eq, Int.reduceEq, Int.reduceLT, Int.reduceLE, Int.reduceToNat, Int.reduceMul, Int.reduceAdd, Int.reduceNeg, gk91 hg, gr91_5 hg, gr91_22 hg, gr91_23 hg, gr91_24 hg, gr91_25 hg, gr91_26 hg, gr91_27 hg, gr91_28 hg, gr91_29 hg, gr91_32 hg, gr91_33 hg, gr91_34 hg, gr91_35 hg, gr91_36 hg, gr91_37 hg, gr91_38 hg, gr91_39 hg, gr91_40 hg, gr91_41 hg, gr91_42 hg, gr91_44 hg, gr91_45 hg, gr91_46 hg, gr91_48 hg, gr91_49 hg, gr91_50 hg, gr91_51 hg, gr91_52 hg, c, zlc_le, c2, true_or]
        apply K
        · intro c i q
          unfold zu
          rw [if_neg q]
        · exact Or.inl zu_at
        · rw [zu_at]
          omega
      · simp only [e179_0, e179_1, e179_4, e179_5, e179_6, e179_7, e179_10, e179_12, e179_13, e179_17, e179_18, e179_21, e179_23, e179_24, e179_25, e179_28, e179_29, e179_31, e179_32, e179_36, e179_37, e179_40, e179_43, e179_46, e179_47, e179_48, e179_50, e179_52, e179_55, e179_57, e179_59, e179_61, e179_62, e179_65, e179_67, e179_70, e179_72, e179_74, e179_77, e179_80, e179_82, e179_83, e179_84, e179_87, e179_89, e179_91, e179_92, e179_95, e179_98, e179_100, e179_102, e179_104, e179_105, e179_108, e179_111, e179_112, e179_113, e179_116, e179_119, e179_121, e179_122, e179_123, e179_126, e179_127, e179_130, e179_131, e179_134, e179_135, zs0, zsI, zsL, zsR, ztl1, ztl0, zc0, zcI, zcL, zcR, true_and, and_true, true_implies, false_implies, implies_true, not_true_eq_false, not_false_eq_true, and_self, Int.toNat_natCast, Nat.reduceAdd, Nat.reduceLeDiff, Nat.reduceLT, forall_eq', Option.some.injEq, zarR, zarI, zarL, zle, zq0, zq1, zq2, zq3, zq4, zq5, zq6, zq8, zq9, zq10, zq20, zq7, zq12, zq24, zq40, zq41, zq48, zq100, zq120, zq123, zq480, zq492, zq700, zq729, zq2187, zq2916, zq8748, ne_eq, Int.reduceEq, Int.reduceLT, Int.reduceLE, Int.reduceToNat, Int.reduceMul, Int.reduceAdd, Int.reduceNeg, gk91 hg, gr91_5 hg, gr91_22 hg, gr91_23 hg, gr91_24 hg, gr91_25 hg, gr91_26 hg, gr91_27 hg, gr91_28 hg, gr91_29 hg, gr91_32 hg, gr91_33 hg, gr91_34 hg, gr91_35 hg, gr91_36 hg, gr91_37 hg, gr91_38 hg, gr91_39 hg, gr91_40 hg, gr91_41 hg, gr91_42 hg, gr91_44 hg, gr91_45 hg, gr91_46 hg, gr91_48 hg, gr91_49 hg, gr91_50 hg, gr91_51 hg, gr91_52 hg, c, zlc_le, c2, or_true]
        apply K
        · intro c i q
          unfold zu
          rw [if_neg q]
        · exact Or.inr zu_at
        · rw [zu_at]
          omega
    · simp only [e179_0, e179_1, e179_4, e179_5, e179_6, e179_7, e179_10, e179_12, e179_13, e179_17, e179_18, e179_21, e179_23, e179_24, e179_25, e179_28, e179_29, e179_31, e179_32, e179_36, e179_37, e179_40, e179_43, e179_46, e179_47, e179_48, e179_50, e179_52, e179_55, e179_57, e179_59, e179_61, e179_62, e179_65, e179_67, e179_70, e179_72, e179_74, e179_77, e179_80, e179_82, e179_83, e179_84, e179_87, e179_89, e179_91, e179_92, e179_95, e179_98, e179_100, e179_102, e179_104, e179_105, e179_108, e179_111, e179_112, e179_113, e179_116, e179_119, e179_121, e179_122, e179_123, e179_126, e179_127, e179_130, e179_131, e179_134, e179_135, zs0, zsI, zsL, zsR, ztl1, ztl0, zc0, zcI, zcL, zcR, true_and, and_true, true_implies, false_implies, implies_true, not_true_eq_false, not_false_eq_true, and_self, Int.toNat_natCast, Nat.reduceAdd, Nat.reduceLeDiff, Nat.reduceLT, forall_eq', Option.some.injEq, zarR, zarI, zarL, zle, zq0, zq1, zq2, zq3, zq4, zq5, zq6, zq8, zq9, zq10, zq20, zq7, zq12, zq24, zq40, zq41, zq48, zq100, zq120, zq123, zq480, zq492, zq700, zq729, zq2187, zq2916, zq8748, ne_eq, Int.reduceEq, Int.reduceLT, Int.reduceLE, Int.reduceToNat, Int.reduceMul, Int.reduceAdd, Int.reduceNeg, gk91 hg, gr91_5 hg, gr91_22 hg, gr91_23 hg, gr91_24 hg, gr91_25 hg, gr91_26 hg, gr91_27 hg, gr91_28 hg, gr91_29 hg, gr91_32 hg, gr91_33 hg, gr91_34 hg, gr91_35 hg, gr91_36 hg, gr91_37 hg, gr91_38 hg, gr91_39 hg, gr91_40 hg, gr91_41 hg, gr91_42 hg, gr91_44 hg, gr91_45 hg, gr91_46 hg, gr91_48 hg, gr91_49 hg, gr91_50 hg, gr91_51 hg, gr91_52 hg, c, or_true]
      apply K
      · intro c i q
        unfold zu
        rw [if_neg q]
      · exact Or.inr zu_at
      · rw [zu_at]
        omega
  have bks : ∀ all, all < tg ac (nB T) → ∀ j b (l3 l4 l10 l11 : Option zV), b + j = nB T → (zE 179 (d + 4) Q 34 [some (zR (some 91)), some (zI y), some (zI (tg ac (nB T) : Nat)), l3, l4, none, some (zI all), some (zL (pl ac (nB T) w all b)), none, some (zI b), l10, l11] [] G h (0, 0) ↔ ∃ l10 l11, zE 179 (d + 4) Q 80 [some (zR (some 91)), some (zI y), some (zI (tg ac (nB T) : Nat)), l3, l4, none, some (zI all), some (zL (pull ac (nB T) w all)), none, some (zI (nB T : Nat)), l10, l11] [] G h (0, 0)) → True := fun _ _ _ _ _ _ _ _ _ _ => trivial
  have bks2 : ∀ all, all < tg ac (nB T) → ∀ j b (l3 l4 l10 l11 : Option zV), b + j = nB T → (∀ l10 l11, zE 179 (d + 4) Q 80 [some (zR (some 91)), some (zI y), some (zI (tg ac (nB T) : Nat)), l3, l4, none, some (zI all), some (zL (pull ac (nB T) w all)), none, some (zI (nB T : Nat)), l10, l11] [] G h (0, 0)) → zE 179 (d + 4) Q 34 [some (zR (some 91)), some (zI y), some (zI (tg ac (nB T) : Nat)), l3, l4, none, some (zI all), some (zL (pl ac (nB T) w all b)), none, some (zI b), l10, l11] [] G h (0, 0) := by
    intro all hall j
    induction j with
    | zero =>
      intro b l3 l4 l10 l11 hb KK
      have hb' : b = nB T := by omega
      subst hb'
      rw [e179_34]
      simp only [e179_0, e179_1, e179_4, e179_5, e179_6, e179_7, e179_10, e179_12, e179_13, e179_17, e179_18, e179_21, e179_23, e179_24, e179_25, e179_28, e179_29, e179_31, e179_32, e179_36, e179_37, e179_40, e179_43, e179_46, e179_47, e179_48, e179_50, e179_52, e179_55, e179_57, e179_59, e179_61, e179_62, e179_65, e179_67, e179_70, e179_72, e179_74, e179_77, e179_82, e179_83, e179_84, e179_87, e179_89, e179_91, e179_92, e179_95, e179_98, e179_100, e179_102, e179_104, e179_105, e179_108, e179_111, e179_112, e179_113, e179_116, e179_119, e179_121, e179_122, e179_123, e179_126, e179_127, e179_130, e179_131, e179_134, e179_135, zs0, zsI, zsL, zsR, ztl1, ztl0, zc0, zcI, zcL, zcR, true_and, and_true, true_implies, false_implies, implies_true, not_true_eq_false, not_false_eq_true, and_self, Int.toNat_natCast, Nat.reduceAdd, Nat.reduceLeDiff, Nat.reduceLT, forall_eq', Option.some.injEq, zarR, zarI, zarL, zle, zq0, zq1, zq2, zq3, zq4, zq5, zq6, zq8, zq9, zq10, zq20, zq7, zq12, zq24, zq40, zq41, zq48, zq100, zq120, zq123, zq480, zq492, zq700, zq729, zq2187, zq2916, zq8748, ne_eq, Int.reduceEq, Int.reduceLT, Int.reduceLE, Int.reduceToNat, Int.reduceMul, Int.reduceAdd, Int.reduceNeg, gk91 hg, gr91_5 hg, gr91_22 hg, gr91_23 hg, gr91_24 hg, gr91_25 hg, gr91_26 hg, gr91_27 hg, gr91_28 hg, gr91_29 hg, gr91_32 hg, gr91_33 hg, gr91_34 hg, gr91_35 hg, gr91_36 hg, gr91_37 hg, gr91_38 hg, gr91_39 hg, gr91_40 hg, gr91_41 hg, gr91_42 hg, gr91_44 hg, gr91_45 hg, gr91_46 hg, gr91_48 hg, gr91_49 hg, gr91_50 hg, gr91_51 hg, gr91_52 hg, hu, e1, Int.le_refl]
      exact KK l10 l11
    | succ j ih =>
      intro b l3 l4 l10 l11 hb KK
      have c : ¬ (nB T : Int) ≤ b := by omega
      have q1 : ∀ Q' : zQ, zRunD ztb zmt' (d + 4) 178 [zR (some 91), zI y, zI all, zI b] G h Q' ↔ Q' (some (zL (gB ac (nB T) w all b (ac b)))) G h := fun Q' => m_gain (d := d) hg hu hV hw hc hA hy hall (by omega) hW bw
      have go := fun l10 l11 => ih (b + 1) l3 l4 l10 l11 (by omega) KK
      simp only [pl] at go
      rw [e179_34]
      by_cases c2 : gB ac (nB T) w all b (ac b) ≤ pl ac (nB T) w all b
      · rw [Int.max_eq_left c2] at go
        simp only [e179_0, e179_1, e179_4, e179_5, e179_6, e179_7, e179_10, e179_12, e179_13, e179_17, e179_18, e179_21, e179_23, e179_24, e179_25, e179_28, e179_29, e179_31, e179_32, e179_36, e179_37, e179_40, e179_43, e179_46, e179_47, e179_48, e179_50, e179_52, e179_55, e179_57, e179_59, e179_61, e179_62, e179_65, e179_67, e179_70, e179_72, e179_74, e179_77, e179_82, e179_83, e179_84, e179_87, e179_89, e179_91, e179_92, e179_95, e179_98, e179_100, e179_102, e179_104, e179_105, e179_108, e179_111, e179_112, e179_113, e179_116, e179_119, e179_121, e179_122, e179_123, e179_126, e179_127, e179_130, e179_131, e179_134, e179_135, zs0, zsI, zsL, zsR, ztl1, ztl0, zc0, zcI, zcL, zcR, true_and, and_true, true_implies, false_implies, implies_true, not_true_eq_false, not_false_eq_true, and_self, Int.toNat_natCast, Nat.reduceAdd, Nat.reduceLeDiff, Nat.reduceLT, forall_eq', Option.some.injEq, zarR, zarI, zarL, zle, zq0, zq1, zq2, zq3, zq4, zq5, zq6, zq8, zq9, zq10, zq20, zq7, zq12, zq24, zq40, zq41, zq48, zq100, zq120, zq123, zq480, zq492, zq700, zq729, zq2187, zq2916, zq8748, ne_eq, Int.reduceEq, Int.reduceLT, Int.reduceLE, Int.reduceToNat, Int.reduceMul, Int.reduceAdd, Int.reduceNeg, gk91 hg, gr91_5 hg, gr91_22 hg, gr91_23 hg, gr91_24 hg, gr91_25 hg, gr91_26 hg, gr91_27 hg, gr91_28 hg, gr91_29 hg, gr91_32 hg, gr91_33 hg, gr91_34 hg, gr91_35 hg, gr91_36 hg, gr91_37 hg, gr91_38 hg, gr91_39 hg, gr91_40 hg, gr91_41 hg, gr91_42 hg, gr91_44 hg, gr91_45 hg, gr91_46 hg, gr91_48 hg, gr91_49 hg, gr91_50 hg, gr91_51 hg, gr91_52 hg, hu, e1, c, q1, zlc_le, c2, wr_s (show b < 2147483647 by omega)]
        exact go _ _
      · rw [Int.max_eq_right (by omega)] at go
        simp only [e179_0, e179_1, e179_4, e179_5, e179_6, e179_7, e179_10, e179_12, e179_13, e179_17, e179_18, e179_21, e179_23, e179_24, e179_25, e179_28, e179_29, e179_31, e179_32, e179_36, e179_37, e179_40, e179_43, e179_46, e179_47, e179_48, e179_50, e179_52, e179_55, e179_57, e179_59, e179_61, e179_62, e179_65, e179_67, e179_70, e179_72, e179_74, e179_77, e179_82, e179_83, e179_84, e179_87, e179_89, e179_91, e179_92, e179_95, e179_98, e179_100, e179_102, e179_104, e179_105, e179_108, e179_111, e179_112, e179_113, e179_116, e179_119, e179_121, e179_122, e179_123, e179_126, e179_127, e179_130, e179_131, e179_134, e179_135, zs0, zsI, zsL, zsR, ztl1, ztl0, zc0, zcI, zcL, zcR, true_and, and_true, true_implies, false_implies, implies_true, not_true_eq_false, not_false_eq_true, and_self, Int.toNat_natCast, Nat.reduceAdd, Nat.reduceLeDiff, Nat.reduceLT, forall_eq', Option.some.injEq, zarR, zarI, zarL, zle, zq0, zq1, zq2, zq3, zq4, zq5, zq6, zq8, zq9, zq10, zq20, zq7, zq12, zq24, zq40, zq41, zq48, zq100, zq120, zq123, zq480, zq492, zq700, zq729, zq2187, zq2916, zq8748, ne_eq, Int.reduceEq, Int.reduceLT, Int.reduceLE, Int.reduceToNat, Int.reduceMul, Int.reduceAdd, Int.reduceNeg, gk91 hg, gr91_5 hg, gr91_22 hg, gr91_23 hg, gr91_24 hg, gr91_25 hg, gr91_26 hg, gr91_27 hg, gr91_28 hg, gr91_29 hg, gr91_32 hg, gr91_33 hg, gr91_34 hg, gr91_35 hg, gr91_36 hg, gr91_37 hg, gr91_38 hg, gr91_39 hg, gr91_40 hg, gr91_41 hg, gr91_42 hg, gr91_44 hg, gr91_45 hg, gr91_46 hg, gr91_48 hg, gr91_49 hg, gr91_50 hg, gr91_51 hg, gr91_52 hg, hu, e1, c, q1, zlc_le, c2, wr_s (show b < 2147483647 by omega)]
        exact go _ _
  clear bks
  have all_ : ∀ j k (l7 l8 l9 l10 l11 : Option zV), k + 1 + j = tg ac (nB T) → zE 179 (d + 4) Q 15 [some (zR (some 91)), some (zI y), some (zI (tg ac (nB T) : Nat)), some (zI ((cm ac (nB T) w k).2 : Nat)), some (zL (cm ac (nB T) w k).1), none, some (zI ((k + 1 : Nat) : Int)), l7, l8, l9, l10, l11] [] G h (0, 0) := by
    intro j
    induction j with
    | zero =>
      intro k l7 l8 l9 l10 l11 hk
      have c : ((tg ac (nB T) : Nat) : Int) ≤ ((k + 1 : Nat) : Int) := by omega
      have fi := fin (some (zI ((k + 1 : Nat) : Int))) l7 l8 l9 l10 l11
      have ek : tg ac (nB T) - 1 = k := by omega
      unfold calm least at fi
      rw [ek] at fi
      rw [e179_15]
      simp only [e179_0, e179_1, e179_4, e179_5, e179_6, e179_7, e179_10, e179_12, e179_13, e179_17, e179_18, e179_21, e179_23, e179_24, e179_25, e179_28, e179_29, e179_31, e179_32, e179_36, e179_37, e179_40, e179_43, e179_46, e179_47, e179_48, e179_50, e179_52, e179_55, e179_57, e179_59, e179_61, e179_62, e179_65, e179_67, e179_70, e179_72, e179_74, e179_77, e179_80, e179_82, e179_83, e179_84, e179_87, e179_89, e179_91, e179_92, e179_95, e179_98, e179_100, e179_102, e179_104, e179_105, e179_108, e179_112, e179_113, e179_116, e179_119, e179_121, e179_122, e179_123, e179_126, e179_127, e179_130, e179_131, e179_134, e179_135, zs0, zsI, zsL, zsR, ztl1, ztl0, zc0, zcI, zcL, zcR, true_and, and_true, true_implies, false_implies, implies_true, not_true_eq_false, not_false_eq_true, and_self, Int.toNat_natCast, Nat.reduceAdd, Nat.reduceLeDiff, Nat.reduceLT, forall_eq', Option.some.injEq, zarR, zarI, zarL, zle, zq0, zq1, zq2, zq3, zq4, zq5, zq6, zq8, zq9, zq10, zq20, zq7, zq12, zq24, zq40, zq41, zq48, zq100, zq120, zq123, zq480, zq492, zq700, zq729, zq2187, zq2916, zq8748, ne_eq, Int.reduceEq, Int.reduceLT, Int.reduceLE, Int.reduceToNat, Int.reduceMul, Int.reduceAdd, Int.reduceNeg, c]
      exact fi
    | succ j ih =>
      intro k l7 l8 l9 l10 l11 hk
      have c : ¬ ((tg ac (nB T) : Nat) : Int) ≤ ((k + 1 : Nat) : Int) := by omega
      have cz := (cm_0 (ac := ac) (nb := nB T) (w := w) k).1
      rw [e179_15]
      by_cases c2 : (cm ac (nB T) w k).1 = 0
      · have fi := fin (some (zI ((k + 1 : Nat) : Int))) l7 l8 l9 l10 l11
        have ek : tg ac (nB T) - 1 = k + (j + 1) := by omega
        unfold calm least at fi
        rw [ek, cm_stop k (j + 1) (by omega)] at fi
        simp only [e179_0, e179_1, e179_4, e179_5, e179_6, e179_7, e179_10, e179_12, e179_13, e179_17, e179_18, e179_21, e179_23, e179_24, e179_25, e179_28, e179_29, e179_31, e179_32, e179_36, e179_37, e179_40, e179_43, e179_46, e179_47, e179_48, e179_50, e179_52, e179_55, e179_57, e179_59, e179_61, e179_62, e179_65, e179_67, e179_70, e179_72, e179_74, e179_77, e179_80, e179_82, e179_83, e179_84, e179_87, e179_89, e179_91, e179_92, e179_95, e179_98, e179_100, e179_102, e179_104, e179_105, e179_108, e179_112, e179_113, e179_116, e179_119, e179_121, e179_122, e179_123, e179_126, e179_127, e179_130, e179_131, e179_134, e179_135, zs0, zsI, zsL, zsR, ztl1, ztl0, zc0, zcI, zcL, zcR, true_and, and_true, true_implies, false_implies, implies_true, not_true_eq_false, not_false_eq_true, and_self, Int.toNat_natCast, Nat.reduceAdd, Nat.reduceLeDiff, Nat.reduceLT, forall_eq', Option.some.injEq, zarR, zarI, zarL, zle, zq0, zq1, zq2, zq3, zq4, zq5, zq6, zq8, zq9, zq10, zq20, zq7, zq12, zq24, zq40, zq41, zq48, zq100, zq120, zq123, zq480, zq492, zq700, zq729, zq2187, zq2916, zq8748, ne_eq, Int.reduceEq, Int.reduceLT, Int.reduceLE, Int.reduceToNat, Int.reduceMul, Int.reduceAdd, Int.reduceNeg, c, zlc_eq, c2] at fi ⊢
        exact fi
      · simp only [e179_0, e179_1, e179_4, e179_5, e179_6, e179_7, e179_10, e179_12, e179_13, e179_17, e179_18, e179_21, e179_23, e179_24, e179_25, e179_28, e179_29, e179_31, e179_32, e179_36, e179_37, e179_40, e179_43, e179_46, e179_47, e179_48, e179_50, e179_52, e179_55, e179_57, e179_59, e179_61, e179_62, e179_65, e179_67, e179_70, e179_72, e179_74, e179_77, e179_80, e179_82, e179_83, e179_84, e179_87, e179_89, e179_91, e179_92, e179_95, e179_98, e179_100, e179_102, e179_104, e179_105, e179_108, e179_112, e179_113, e179_116, e179_119, e179_121, e179_122, e179_123, e179_126, e179_127, e179_130, e179_131, e179_134, e179_135, zs0, zsI, zsL, zsR, ztl1, ztl0, zc0, zcI, zcL, zcR, true_and, and_true, true_implies, false_implies, implies_true, not_true_eq_false, not_false_eq_true, and_self, Int.toNat_natCast, Nat.reduceAdd, Nat.reduceLeDiff, Nat.reduceLT, forall_eq', Option.some.injEq, zarR, zarI, zarL, zle, zq0, zq1, zq2, zq3, zq4, zq5, zq6, zq8, zq9, zq10, zq20, zq7, zq12, zq24, zq40, zq41, zq48, zq100, zq120, zq123, zq480, zq492, zq700, zq729, zq2187, zq2916, zq8748, ne_eq, Int.reduceEq, Int.reduceLT, Int.reduceLE, Int.reduceToNat, Int.reduceMul, Int.reduceAdd, Int.reduceNeg, c, zlc_eq, c2]
        apply bks2 (k + 1) (by omega) (nB T) 0 _ _ _ _ (by omega)
        intro l10 l11
        have go := fun l7 l8 l9 l10 l11 => ih (k + 1) l7 l8 l9 l10 l11 (by omega)
        have c3 : ¬ (cm ac (nB T) w k).1 < 0 := by omega
        by_cases c4 : pull ac (nB T) w (k + 1) < (cm ac (nB T) w k).1
        · simp only [cm, c4, if_true] at go
          simp only [e179_0, e179_1, e179_4, e179_5, e179_6, e179_7, e179_10, e179_12, e179_13, e179_17, e179_18, e179_21, e179_23, e179_24, e179_25, e179_28, e179_29, e179_31, e179_32, e179_36, e179_37, e179_40, e179_43, e179_46, e179_47, e179_48, e179_50, e179_52, e179_55, e179_57, e179_59, e179_61, e179_62, e179_65, e179_67, e179_70, e179_72, e179_74, e179_77, e179_80, e179_82, e179_83, e179_84, e179_87, e179_89, e179_91, e179_92, e179_95, e179_98, e179_100, e179_102, e179_104, e179_105, e179_108, e179_111, e179_112, e179_113, e179_116, e179_119, e179_121, e179_122, e179_123, e179_126, e179_127, e179_130, e179_131, e179_134, e179_135, zs0, zsI, zsL, zsR, ztl1, ztl0, zc0, zcI, zcL, zcR, true_and, and_true, true_implies, false_implies, implies_true, not_true_eq_false, not_false_eq_true, and_self, Int.toNat_natCast, Nat.reduceAdd, Nat.reduceLeDiff, Nat.reduceLT, forall_eq', Option.some.injEq, zarR, zarI, zarL, zle, zq0, zq1, zq2, zq3, zq4, zq5, zq6, zq8, zq9, zq10, zq20, zq7, zq12, zq24, zq40, zq41, zq48, zq100, zq120, zq123, zq480, zq492, zq700, zq729, zq2187, zq2916, zq8748, ne_eq, Int.reduceEq, Int.reduceLT, Int.reduceLE, Int.reduceToNat, Int.reduceMul, Int.reduceAdd, Int.reduceNeg, zlc_lt, c3, c4, wr_s (show k + 1 < 2147483647 by omega)]
          exact go _ _ _ _ _
        · simp only [cm, c4, if_false] at go
          simp only [e179_0, e179_1, e179_4, e179_5, e179_6, e179_7, e179_10, e179_12, e179_13, e179_17, e179_18, e179_21, e179_23, e179_24, e179_25, e179_28, e179_29, e179_31, e179_32, e179_36, e179_37, e179_40, e179_43, e179_46, e179_47, e179_48, e179_50, e179_52, e179_55, e179_57, e179_59, e179_61, e179_62, e179_65, e179_67, e179_70, e179_72, e179_74, e179_77, e179_80, e179_82, e179_83, e179_84, e179_87, e179_89, e179_91, e179_92, e179_95, e179_98, e179_100, e179_102, e179_104, e179_105, e179_108, e179_111, e179_112, e179_113, e179_116, e179_119, e179_121, e179_122, e179_123, e179_126, e179_127, e179_130, e179_131, e179_134, e179_135, zs0, zsI, zsL, zsR, ztl1, ztl0, zc0, zcI, zcL, zcR, true_and, and_true, true_implies, false_implies, implies_true, not_true_eq_false, not_false_eq_true, and_self, Int.toNat_natCast, Nat.reduceAdd, Nat.reduceLeDiff, Nat.reduceLT, forall_eq', Option.some.injEq, zarR, zarI, zarL, zle, zq0, zq1, zq2, zq3, zq4, zq5, zq6, zq8, zq9, zq10, zq20, zq7, zq12, zq24, zq40, zq41, zq48, zq100, zq120, zq123, zq480, zq492, zq700, zq729, zq2187, zq2916, zq8748, ne_eq, Int.reduceEq, Int.reduceLT, Int.reduceLE, Int.reduceToNat, Int.reduceMul, Int.reduceAdd, Int.reduceNeg, zlc_lt, c3, c4, wr_s (show k + 1 < 2147483647 by omega)]
          exact go _ _ _ _ _
  have c0 : ¬ ((tg ac (nB T) : Nat) : Int) ≤ 0 := by omega
  simp only [e179_0, e179_1, e179_4, e179_5, e179_6, e179_7, e179_10, e179_12, e179_13, e179_17, e179_18, e179_21, e179_23, e179_24, e179_25, e179_28, e179_29, e179_31, e179_32, e179_36, e179_37, e179_40, e179_43, e179_46, e179_47, e179_48, e179_50, e179_52, e179_55, e179_57, e179_59, e179_61, e179_62, e179_65, e179_67, e179_70, e179_72, e179_74, e179_77, e179_80, e179_82, e179_83, e179_84, e179_87, e179_89, e179_91, e179_92, e179_95, e179_98, e179_100, e179_102, e179_104, e179_105, e179_108, e179_111, e179_112, e179_113, e179_116, e179_119, e179_121, e179_122, e179_123, e179_126, e179_127, e179_130, e179_131, e179_134, e179_135, zs0, zsI, zsL, zsR, ztl1, ztl0, zc0, zcI, zcL, zcR, true_and, and_true, true_implies, false_implies, implies_true, not_true_eq_false, not_false_eq_true, and_self, Int.toNat_natCast, Nat.reduceAdd, Nat.reduceLeDiff, Nat.reduceLT, forall_eq', Option.some.injEq, zarR, zarI, zarL, zle, zq0, zq1, zq2, zq3, zq4, zq5, zq6, zq8, zq9, zq10, zq20, zq7, zq12, zq24, zq40, zq41, zq48, zq100, zq120, zq123, zq480, zq492, zq700, zq729, zq2187, zq2916, zq8748, ne_eq, Int.reduceEq, Int.reduceLT, Int.reduceLE, Int.reduceToNat, Int.reduceMul, Int.reduceAdd, Int.reduceNeg, gk91 hg, gr91_5 hg, gr91_22 hg, gr91_23 hg, gr91_24 hg, gr91_25 hg, gr91_26 hg, gr91_27 hg, gr91_28 hg, gr91_29 hg, gr91_32 hg, gr91_33 hg, gr91_34 hg, gr91_35 hg, gr91_36 hg, gr91_37 hg, gr91_38 hg, gr91_39 hg, gr91_40 hg, gr91_41 hg, gr91_42 hg, gr91_44 hg, gr91_45 hg, gr91_46 hg, gr91_48 hg, gr91_49 hg, gr91_50 hg, gr91_51 hg, gr91_52 hg, q0]
  rw [e179_15]
  simp only [e179_0, e179_1, e179_4, e179_5, e179_6, e179_7, e179_10, e179_12, e179_13, e179_17, e179_18, e179_21, e179_23, e179_24, e179_25, e179_28, e179_29, e179_31, e179_32, e179_36, e179_37, e179_40, e179_43, e179_46, e179_47, e179_48, e179_50, e179_52, e179_55, e179_57, e179_59, e179_61, e179_62, e179_65, e179_67, e179_70, e179_72, e179_74, e179_77, e179_80, e179_82, e179_83, e179_84, e179_87, e179_89, e179_91, e179_92, e179_95, e179_98, e179_100, e179_102, e179_104, e179_105, e179_108, e179_111, e179_112, e179_113, e179_116, e179_119, e179_121, e179_122, e179_123, e179_126, e179_127, e179_130, e179_131, e179_134, e179_135, zs0, zsI, zsL, zsR, ztl1, ztl0, zc0, zcI, zcL, zcR, true_and, and_true, true_implies, false_implies, implies_true, not_true_eq_false, not_false_eq_true, and_self, Int.toNat_natCast, Nat.reduceAdd, Nat.reduceLeDiff, Nat.reduceLT, forall_eq', Option.some.injEq, zarR, zarI, zarL, zle, zq0, zq1, zq2, zq3, zq4, zq5, zq6, zq8, zq9, zq10, zq20, zq7, zq12, zq24, zq40, zq41, zq48, zq100, zq120, zq123, zq480, zq492, zq700, zq729, zq2187, zq2916, zq8748, ne_eq, Int.reduceEq, Int.reduceLT, Int.reduceLE, Int.reduceToNat, Int.reduceMul, Int.reduceAdd, Int.reduceNeg, c0, zlc_eq]
  apply bks2 0 (by omega) (nB T) 0 _ _ _ _ (by omega)
  intro l10 l11
  have go := fun l7 l8 l9 l10 l11 => all_ (tg ac (nB T) - 1) 0 l7 l8 l9 l10 l11 (by omega)
  simp only [cm, zq0] at go
  simp only [e179_0, e179_1, e179_4, e179_5, e179_6, e179_7, e179_10, e179_12, e179_13, e179_17, e179_18, e179_21, e179_23, e179_24, e179_25, e179_28, e179_29, e179_31, e179_32, e179_36, e179_37, e179_40, e179_43, e179_46, e179_47, e179_48, e179_50, e179_52, e179_55, e179_57, e179_59, e179_61, e179_62, e179_65, e179_67, e179_70, e179_72, e179_74, e179_77, e179_80, e179_82, e179_83, e179_84, e179_87, e179_89, e179_91, e179_92, e179_95, e179_98, e179_100, e179_102, e179_104, e179_105, e179_108, e179_111, e179_112, e179_113, e179_116, e179_119, e179_121, e179_122, e179_123, e179_126, e179_127, e179_130, e179_131, e179_134, e179_135, zs0, zsI, zsL, zsR, ztl1, ztl0, zc0, zcI, zcL, zcR, true_and, and_true, true_implies, false_implies, implies_true, not_true_eq_false, not_false_eq_true, and_self, Int.toNat_natCast, Nat.reduceAdd, Nat.reduceLeDiff, Nat.reduceLT, forall_eq', Option.some.injEq, zarR, zarI, zarL, zle, zq0, zq1, zq2, zq3, zq4, zq5, zq6, zq8, zq9, zq10, zq20, zq7, zq12, zq24, zq40, zq41, zq48, zq100, zq120, zq123, zq480, zq492, zq700, zq729, zq2187, zq2916, zq8748, ne_eq, Int.reduceEq, Int.reduceLT, Int.reduceLE, Int.reduceToNat, Int.reduceMul, Int.reduceAdd, Int.reduceNeg, zlc_lt, Int.reduceLT]
  exact go _ _ _ _ _
/-- by hundredths, down -/
theorem fl_ref {x : Int} (hx : x < 0) : -((99 - x).tdiv 100) = x / 100 := by
  rw [Int.tdiv_eq_ediv_of_nonneg (by omega)]
  omega
set_option maxRecDepth 8000 in
theorem m_puts (hg : gS G) (hu : gU G u) (hV : rV h u T) (hw : wT T) (hc : acOk T ac) {m : Nat} (hy : m + 1 ≤ 3) (hall : all < tg ac (nB T)) {th : Int} {tv : Nat → Int} (hth : th = -1 ∧ (∀ b, tv b = 0) ∨ ∃ t : Nat, th = (t : Int) ∧ t < tg ac (nB T) ∧ ∀ b, b < nB T → h 111 ((m * 729 + t) * 3 + b) = tv b) (btv : ∀ b, -10000000000 ≤ tv b ∧ tv b ≤ 10000000000) (be : ∀ b, b < nB T → -2147483648 ≤ h 112 b ∧ h 112 b ≤ 2147483647) (K : ∀ h' : zM, (∀ c i, ¬ (c = 111 ∧ ((m + 1) * 729 + all) * 3 ≤ i ∧ i < ((m + 1) * 729 + all) * 3 + 3) → h' c i = h c i) → (∀ b, b < nB T → h' 111 (((m + 1) * 729 + all) * 3 + b) = h 112 b + kp T * tv b / 100) → Q none G h') : zRunD ztb zmt' (d + 2) 180 [zR (some 91), zI ((m + 1 : Nat) : Int), zI all, zI th] G h Q := by
  rw [r180]
  have hB := hw.1
  have tb := tg_b hw hc
  have lp : ∀ j b (h1 : zM) (l5 l6 : Option zV), b + j = nB T → (∀ c i, ¬ (c = 111 ∧ ((m + 1) * 729 + all) * 3 ≤ i ∧ i < ((m + 1) * 729 + all) * 3 + 3) → h1 c i = h c i) → (∀ b', b' < b → h1 111 (((m + 1) * 729 + all) * 3 + b') = h 112 b' + kp T * tv b' / 100) → zE 180 (d + 1) Q 3 [some (zR (some 91)), some (zI ((m + 1 : Nat) : Int)), some (zI all), some (zI th), some (zI b), l5, l6] [] G h1 (0, 0) := by
    intro j
    induction j with
    | zero =>
      intro b h1 l5 l6 hb f0 f1
      have hb' : b = nB T := by omega
      subst hb'
      have e1 : h1 u 0 = (nB T : Int) := by rw [f0 _ _ (by omega)]; exact hV.1
      rw [e180_3]
      simp only [e180_0, e180_1, e180_5, e180_6, e180_9, e180_12, e180_15, e180_16, e180_17, e180_20, e180_21, e180_24, e180_25, e180_28, e180_31, e180_32, e180_33, e180_36, e180_37, e180_38, e180_39, e180_40, e180_42, e180_45, e180_46, e180_47, e180_49, e180_50, e180_53, e180_54, e180_55, e180_57, e180_60, e180_61, e180_64, e180_66, e180_67, e180_68, e180_70, e180_71, e180_72, e180_75, e180_77, e180_80, e180_81, e180_84, e180_87, e180_89, e180_90, e180_93, e180_94, e180_95, e180_96, e180_97, e180_100, e180_103, zs0, zsI, zsL, zsR, ztl1, ztl0, zc0, zcI, zcL, zcR, true_and, and_true, true_implies, false_implies, implies_true, not_true_eq_false, not_false_eq_true, and_self, Int.toNat_natCast, Nat.reduceAdd, Nat.reduceLeDiff, Nat.reduceLT, forall_eq', Option.some.injEq, zarR, zarI, zarL, zle, zq0, zq1, zq2, zq3, zq4, zq5, zq6, zq8, zq9, zq10, zq20, zq7, zq12, zq24, zq40, zq41, zq48, zq100, zq120, zq123, zq480, zq492, zq700, zq729, zq2187, zq2916, zq8748, ne_eq, Int.reduceEq, Int.reduceLT, Int.reduceLE, Int.reduceToNat, Int.reduceMul, Int.reduceAdd, Int.reduceNeg, gk91 hg, gr91_5 hg, gr91_22 hg, gr91_23 hg, gr91_24 hg, gr91_25 hg, gr91_26 hg, gr91_27 hg, gr91_28 hg, gr91_29 hg, gr91_32 hg, gr91_33 hg, gr91_34 hg, gr91_35 hg, gr91_36 hg, gr91_37 hg, gr91_38 hg, gr91_39 hg, gr91_40 hg, gr91_41 hg, gr91_42 hg, gr91_44 hg, gr91_45 hg, gr91_46 hg, gr91_48 hg, gr91_49 hg, gr91_50 hg, gr91_51 hg, gr91_52 hg, hu, e1, Int.le_refl]
      exact K h1 f0 f1
    | succ j ih =>
      intro b h1 l5 l6 hb f0 f1
      have hbB : b < nB T := by omega
      have b3 : (b : Int) < 3 := by omega
      have e1 : h1 u 0 = (nB T : Int) := by rw [f0 _ _ (by omega)]; exact hV.1
      have e2 : h1 u 3 = kp T := by rw [f0 _ _ (by omega)]; exact hV.2.2.2.1
      have e3 : h1 112 b = h 112 b := f0 _ _ (by omega)
      have c : ¬ (nB T : Int) ≤ b := by omega
      have q4 : ∀ (y' a : Nat), y' ≤ 3 → a < 729 → ∀ Q' : zQ, zRunD ztb zmt' (d + 1) 177 [zI y', zI a, zI b] G h1 Q' ↔ Q' (some (zI (((y' * 729 + a) * 3 + b : Nat) : Int))) G h1 := fun y' a hy' ha Q' => m_worthAt (d := d) hy' ha (by omega)
      have w0 : ((((m + 1) * 729 + all) * 3 + b : Nat) : Int) < 8748 := by omega
      have bt := btv b
      have bm := mulb (n := kp T) (p := tv b) (N := 100) (lo := -10000000000) (hi := 10000000000) hw.2.2.2.2.1.1 hw.2.2.2.2.1.2 bt.1 bt.2 (by decide) (by decide)
      have be' := be b hbB
      have go : ∀ (l5 l6 : Option zV), zE 180 (d + 1) Q 3 [some (zR (some 91)), some (zI ((m + 1 : Nat) : Int)), some (zI all), some (zI th), some (zI ((b + 1 : Nat) : Int)), l5, l6] [] G (zu h1 111 (((m + 1) * 729 + all) * 3 + b) (h 112 b + kp T * tv b / 100)) (0, 0) := by
        intro l5 l6
        apply ih (b + 1) _ _ _ (by omega)
        · intro c i q
          unfold zu
          rw [if_neg (by omega)]
          exact f0 c i q
        · intro b' q
          by_cases q2 : b' = b
          · subst q2
            exact zu_at
          · rw [zu_i (by omega)]
            exact f1 b' (by omega)
      have nxt : ∀ (x : Int), x = kp T * tv b → zE 180 (d + 1) Q 47 [some (zR (some 91)), some (zI ((m + 1 : Nat) : Int)), some (zI all), some (zI th), some (zI b), l5, l6] [zL x] G h1 (0, 0) := by
        intro x hx
        rw [← hx] at bm go
        by_cases c2 : x < 0
        · have e5 : wl ((99 - x).tdiv 100) = -(x / 100) := by
            have := fl_ref c2
            rw [wl_id (by rw [Int.tdiv_eq_ediv_of_nonneg (by omega)]; omega)]
            omega
          have e6 : wl (99 - x) = 99 - x := wl_id (by omega)
          have e7 : wl (- -(x / 100)) = x / 100 := by
            rw [Int.neg_neg]
            exact wl_id (by omega)
          simp only [e180_0, e180_1, e180_5, e180_6, e180_9, e180_12, e180_15, e180_16, e180_17, e180_20, e180_21, e180_24, e180_25, e180_28, e180_31, e180_32, e180_33, e180_36, e180_37, e180_38, e180_39, e180_40, e180_42, e180_45, e180_46, e180_47, e180_49, e180_50, e180_53, e180_54, e180_55, e180_57, e180_60, e180_61, e180_64, e180_66, e180_67, e180_68, e180_70, e180_71, e180_72, e180_75, e180_77, e180_80, e180_81, e180_84, e180_87, e180_89, e180_90, e180_93, e180_94, e180_95, e180_96, e180_97, e180_100, e180_103, zs0, zsI, zsL, zsR, ztl1, ztl0, zc0, zcI, zcL, zcR, true_and, and_true, true_implies, false_implies, implies_true, not_true_eq_false, not_false_eq_true, and_self, Int.toNat_natCast, Nat.reduceAdd, Nat.reduceLeDiff, Nat.reduceLT, forall_eq', Option.some.injEq, zarR, zarI, zarL, zle, zq0, zq1, zq2, zq3, zq4, zq5, zq6, zq8, zq9, zq10, zq20, zq7, zq12, zq24, zq40, zq41, zq48, zq100, zq120, zq123, zq480, zq492, zq700, zq729, zq2187, zq2916, zq8748, ne_eq, Int.reduceEq, Int.reduceLT, Int.reduceLE, Int.reduceToNat, Int.reduceMul, Int.reduceAdd, Int.reduceNeg, gk91 hg, gr91_5 hg, gr91_22 hg, gr91_23 hg, gr91_24 hg, gr91_25 hg, gr91_26 hg, gr91_27 hg, gr91_28 hg, gr91_29 hg, gr91_32 hg, gr91_33 hg, gr91_34 hg, gr91_35 hg, gr91_36 hg, gr91_37 hg, gr91_38 hg, gr91_39 hg, gr91_40 hg, gr91_41 hg, gr91_42 hg, gr91_44 hg, gr91_45 hg, gr91_46 hg, gr91_48 hg, gr91_49 hg, gr91_50 hg, gr91_51 hg, gr91_52 hg, gk111 hg, gl111 hg, gk112 hg, gl112 hg, q4 (m + 1) all hy (by omega), b3, w0, e3, zlc_lt, c2, e6, e5, e7, wl_id (z := h 112 b + x / 100) (by omega), wr_s (show b < 2147483647 by omega)]
          exact go _ _
        · have e5 : wl (x.tdiv 100) = x / 100 := by
            rw [Int.tdiv_eq_ediv_of_nonneg (by omega)]
            exact wl_id (by omega)
          simp only [e180_0, e180_1, e180_5, e180_6, e180_9, e180_12, e180_15, e180_16, e180_17, e180_20, e180_21, e180_24, e180_25, e180_28, e180_31, e180_32, e180_33, e180_36, e180_37, e180_38, e180_39, e180_40, e180_42, e180_45, e180_46, e180_47, e180_49, e180_50, e180_53, e180_54, e180_55, e180_57, e180_60, e180_61, e180_64, e180_66, e180_67, e180_68, e180_70, e180_71, e180_72, e180_75, e180_77, e180_80, e180_81, e180_84, e180_87, e180_89, e180_90, e180_93, e180_94, e180_95, e180_96, e180_97, e180_100, e180_103, zs0, zsI, zsL, zsR, ztl1, ztl0, zc0, zcI, zcL, zcR, true_and, and_true, true_implies, false_implies, implies_true, not_true_eq_false, not_false_eq_true, and_self, Int.toNat_natCast, Nat.reduceAdd, Nat.reduceLeDiff, Nat.reduceLT, forall_eq', Option.some.injEq, zarR, zarI, zarL, zle, zq0, zq1, zq2, zq3, zq4, zq5, zq6, zq8, zq9, zq10, zq20, zq7, zq12, zq24, zq40, zq41, zq48, zq100, zq120, zq123, zq480, zq492, zq700, zq729, zq2187, zq2916, zq8748, ne_eq, Int.reduceEq, Int.reduceLT, Int.reduceLE, Int.reduceToNat, Int.reduceMul, Int.reduceAdd, Int.reduceNeg, gk91 hg, gr91_5 hg, gr91_22 hg, gr91_23 hg, gr91_24 hg, gr91_25 hg, gr91_26 hg, gr91_27 hg, gr91_28 hg, gr91_29 hg, gr91_32 hg, gr91_33 hg, gr91_34 hg, gr91_35 hg, gr91_36 hg, gr91_37 hg, gr91_38 hg, gr91_39 hg, gr91_40 hg, gr91_41 hg, gr91_42 hg, gr91_44 hg, gr91_45 hg, gr91_46 hg, gr91_48 hg, gr91_49 hg, gr91_50 hg, gr91_51 hg, gr91_52 hg, gk111 hg, gl111 hg, gk112 hg, gl112 hg, q4 (m + 1) all hy (by omega), b3, w0, e3, zlc_lt, c2, e5, wl_id (z := h 112 b + x / 100) (by omega), wr_s (show b < 2147483647 by omega)]
          exact go _ _
      rw [e180_3]
      rcases hth with ⟨h1, h2⟩ | ⟨t, h1, h2, h3⟩
      · subst h1
        simp only [e180_0, e180_1, e180_5, e180_6, e180_9, e180_12, e180_15, e180_16, e180_17, e180_20, e180_21, e180_24, e180_25, e180_28, e180_31, e180_32, e180_33, e180_36, e180_37, e180_38, e180_39, e180_40, e180_42, e180_45, e180_46, e180_49, e180_50, e180_53, e180_54, e180_55, e180_57, e180_60, e180_61, e180_64, e180_66, e180_67, e180_68, e180_70, e180_71, e180_72, e180_75, e180_77, e180_80, e180_81, e180_84, e180_87, e180_89, e180_90, e180_93, e180_94, e180_95, e180_96, e180_97, e180_100, e180_103, zs0, zsI, zsL, zsR, ztl1, ztl0, zc0, zcI, zcL, zcR, true_and, and_true, true_implies, false_implies, implies_true, not_true_eq_false, not_false_eq_true, and_self, Int.toNat_natCast, Nat.reduceAdd, Nat.reduceLeDiff, Nat.reduceLT, forall_eq', Option.some.injEq, zarR, zarI, zarL, zle, zq0, zq1, zq2, zq3, zq4, zq5, zq6, zq8, zq9, zq10, zq20, zq7, zq12, zq24, zq40, zq41, zq48, zq100, zq120, zq123, zq480, zq492, zq700, zq729, zq2187, zq2916, zq8748, ne_eq, Int.reduceEq, Int.reduceLT, Int.reduceLE, Int.reduceToNat, Int.reduceMul, Int.reduceAdd, Int.reduceNeg, gk91 hg, gr91_5 hg, gr91_22 hg, gr91_23 hg, gr91_24 hg, gr91_25 hg, gr91_26 hg, gr91_27 hg, gr91_28 hg, gr91_29 hg, gr91_32 hg, gr91_33 hg, gr91_34 hg, gr91_35 hg, gr91_36 hg, gr91_37 hg, gr91_38 hg, gr91_39 hg, gr91_40 hg, gr91_41 hg, gr91_42 hg, gr91_44 hg, gr91_45 hg, gr91_46 hg, gr91_48 hg, gr91_49 hg, gr91_50 hg, gr91_51 hg, gr91_52 hg, hu, e1, c]
        exact nxt 0 (by rw [h2 b, Int.mul_zero])
      · subst h1
        have c3 : ¬ (t : Int) = -1 := by omega
        have ey : ((m + 1 : Nat) : Int) - 1 = ((m : Nat) : Int) := by omega
        have w1 : (((m * 729 + t) * 3 + b : Nat) : Int) < 8748 := by omega
        have e9 : h1 111 ((m * 729 + t) * 3 + b) = tv b := by
          rw [f0 _ _ (by omega)]
          exact h3 b hbB
        simp only [e180_0, e180_1, e180_5, e180_6, e180_9, e180_12, e180_15, e180_16, e180_17, e180_20, e180_21, e180_24, e180_25, e180_28, e180_31, e180_32, e180_33, e180_36, e180_37, e180_38, e180_39, e180_40, e180_42, e180_45, e180_46, e180_49, e180_50, e180_53, e180_54, e180_55, e180_57, e180_60, e180_61, e180_64, e180_66, e180_67, e180_68, e180_70, e180_71, e180_72, e180_75, e180_77, e180_80, e180_81, e180_84, e180_87, e180_89, e180_90, e180_93, e180_94, e180_95, e180_96, e180_97, e180_100, e180_103, zs0, zsI, zsL, zsR, ztl1, ztl0, zc0, zcI, zcL, zcR, true_and, and_true, true_implies, false_implies, implies_true, not_true_eq_false, not_false_eq_true, and_self, Int.toNat_natCast, Nat.reduceAdd, Nat.reduceLeDiff, Nat.reduceLT, forall_eq', Option.some.injEq, zarR, zarI, zarL, zle, zq0, zq1, zq2, zq3, zq4, zq5, zq6, zq8, zq9, zq10, zq20, zq7, zq12, zq24, zq40, zq41, zq48, zq100, zq120, zq123, zq480, zq492, zq700, zq729, zq2187, zq2916, zq8748, ne_eq, Int.reduceEq, Int.reduceLT, Int.reduceLE, Int.reduceToNat, Int.reduceMul, Int.reduceAdd, Int.reduceNeg, gk91 hg, gr91_5 hg, gr91_22 hg, gr91_23 hg, gr91_24 hg, gr91_25 hg, gr91_26 hg, gr91_27 hg, gr91_28 hg, gr91_29 hg, gr91_32 hg, gr91_33 hg, gr91_34 hg, gr91_35 hg, gr91_36 hg, gr91_37 hg, gr91_38 hg, gr91_39 hg, gr91_40 hg, gr91_41 hg, gr91_42 hg, gr91_44 hg, gr91_45 hg, gr91_46 hg, gr91_48 hg, gr91_49 hg, gr91_50 hg, gr91_51 hg, gr91_52 hg, gk111 hg, gl111 hg, hu, e1, e2, c, c3, ey, wrN (z := ((m : Nat) : Int)) (m := m) rfl (by omega), q4 m t (by omega) (by omega), w1, e9, wl_id (z := kp T * tv b) (by omega)]
        exact nxt _ rfl
  simp only [e180_0, e180_1, e180_5, e180_6, e180_9, e180_12, e180_15, e180_16, e180_17, e180_20, e180_21, e180_24, e180_25, e180_28, e180_31, e180_32, e180_33, e180_36, e180_37, e180_38, e180_39, e180_40, e180_42, e180_45, e180_46, e180_47, e180_49, e180_50, e180_53, e180_54, e180_55, e180_57, e180_60, e180_61, e180_64, e180_66, e180_67, e180_68, e180_70, e180_71, e180_72, e180_75, e180_77, e180_80, e180_81, e180_84, e180_87, e180_89, e180_90, e180_93, e180_94, e180_95, e180_96, e180_97, e180_100, e180_103, zs0, zsI, zsL, zsR, ztl1, ztl0, zc0, zcI, zcL, zcR, true_and, and_true, true_implies, false_implies, implies_true, not_true_eq_false, not_false_eq_true, and_self, Int.toNat_natCast, Nat.reduceAdd, Nat.reduceLeDiff, Nat.reduceLT, forall_eq', Option.some.injEq, zarR, zarI, zarL, zle, zq0, zq1, zq2, zq3, zq4, zq5, zq6, zq8, zq9, zq10, zq20, zq7, zq12, zq24, zq40, zq41, zq48, zq100, zq120, zq123, zq480, zq492, zq700, zq729, zq2187, zq2916, zq8748, ne_eq, Int.reduceEq, Int.reduceLT, Int.reduceLE, Int.reduceToNat, Int.reduceMul, Int.reduceAdd, Int.reduceNeg]
  exact lp (nB T) 0 h _ _ (by omega) (fun _ _ _ => rfl) (fun b q => by omega)
end RP
