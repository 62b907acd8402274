theorem I4_go {T : aTn} {own oth : Nat → Int} {Y n : Nat} (hw : wT T) {h hS hc hm h2 g' h' : zM} (i4 : I4 T Y h h) (h40 : Y + n ≤ 40) (hn : 1 ≤ n) (a : CY T own oth (hdC T h Y, h 42 Y) Y hS hc n) (b : MY T own oth (hdC T h Y, h 42 Y) Y hm h2 n) (s1 : ∀ c i, 38 ≤ c → c ≤ 44 → hS c i = h c i) (s2 : ∀ c i, 102 ≤ c → c ≤ 109 → hm c i = h c i) (e1 : ∀ c i, 38 ≤ c → c ≤ 44 → g' c i = hc c i) (e2 : ∀ c i, 101 ≤ c → c ≤ 109 → h' c i = h2 c i) (e3 : h' 91 30 = h2 91 30) (e4 : h' 91 31 = h2 91 31) : I4 T (Y + n) g' h' := by
  have hs := hw.2.1
  have hb := hw.1
  have ok := I4_pOk i4
  obtain ⟨a0, a1, a2, a3, a4, a5, a6, a7, a8, a9, a10, a11⟩ := a
  obtain ⟨b0, b1, b2, b3, b4, b5, b6, b7, b8, b9, b10, b11, b12, b13⟩ := b
  obtain ⟨i1, ⟨i2, i3, i5⟩, ⟨j1, j2, j3⟩, ⟨k1, k2, k3⟩, l1, l2⟩ := i4
  have sp : ∀ y, y < Y ∨ ∃ j, y = Y + j := fun y => by
    by_cases q : y < Y
    · exact Or.inl q
    · exact Or.inr ⟨y - Y, by omega⟩
  -- the seed at row Y + j
  have sd : ∀ j, j ≤ n → hc 42 (Y + j) = (yS T own oth (hdC T h Y, h 42 Y) j).2 := by
    intro j hj
    cases j with
    | zero =>
      rw [Nat.add_zero, a6 _ (by omega), s1 _ _ (by decide) (by decide)]
      rfl
    | succ j => exact a7 j (by omega)
  have hd : ∀ j s b, j ≤ n → s < nS T → b < 3 → hc 39 ((Y + j) * 12 + b * 4 + s) = (yS T own oth (hdC T h Y, h 42 Y) j).1 s b := by
    intro j s b hj q1 q2
    cases j with
    | zero =>
      rw [Nat.add_zero, a2 _ (by omega), s1 _ _ (by decide) (by decide)]
      show _ = hdC T h Y s b
      unfold hdC
      rw [if_pos ⟨q1, q2⟩]
    | succ j => exact a3 j s b (by omega) q1 q2
  have okj : ∀ j, j ≤ n → pOk T (yS T own oth (hdC T h Y, h 42 Y) j) (30100 * (Y : Int) + 29997 + 100 * j) := fun j hj => yS_ok hw ok (by omega) j (by omega)
  refine ⟨⟨h40, by rw [e1 _ _ (by decide) (by decide)]; exact a1, by rw [e4]; exact b9⟩, ⟨?_, ?_, ?_⟩, ⟨?_, ?_, ?_⟩, ⟨?_, ?_, ?_⟩, ?_, ?_⟩
  · rw [e1 _ _ (by decide) (by decide), e3, b8]
    exact sd n (Nat.le_refl _)
  · intro y hy
    rw [e1 _ _ (by decide) (by decide), e2 _ _ (by decide) (by decide)]
    rcases sp y with q | ⟨j, rfl⟩
    · rw [a6 _ (by omega), s1 _ _ (by decide) (by decide), b6 y q, s2 _ _ (by decide) (by decide)]
      exact i3 y q
    · rw [sd j (by omega), b7 j (by omega)]
  · intro y hy
    rw [e1 _ _ (by decide) (by decide)]
    rcases sp y with q | ⟨j, rfl⟩
    · rw [a6 _ (by omega), s1 _ _ (by decide) (by decide)]
      exact i5 y (by omega)
    · rw [sd j (by omega)]
      exact (okj j (by omega)).2.1
  · intro b q
    rw [e1 _ _ (by decide) (by decide), e1 _ _ (by decide) (by decide), e2 _ _ (by decide) (by decide), e2 _ _ (by decide) (by decide), (a5 n b (Nat.le_refl _) q).1, (a5 n b (Nat.le_refl _) q).2, s1 _ _ (by decide) (by decide), s1 _ _ (by decide) (by decide), b0 102 b (by omega) (by omega) (by omega) (by omega), b0 103 b (by omega) (by omega) (by omega) (by omega), s2 _ _ (by decide) (by decide), s2 _ _ (by decide) (by decide)]
    exact j1 b q
  · intro y b hy q
    rw [e1 _ _ (by decide) (by decide), e1 _ _ (by decide) (by decide), e2 _ _ (by decide) (by decide), e2 _ _ (by decide) (by decide)]
    rcases sp y with q2 | ⟨j, rfl⟩
    · rw [(a4 _ (by omega)).1, (a4 _ (by omega)).2, s1 _ _ (by decide) (by decide), s1 _ _ (by decide) (by decide), (b4 _ (by omega)).1, (b4 _ (by omega)).2, s2 _ _ (by decide) (by decide), s2 _ _ (by decide) (by decide)]
      exact j2 y b q2 q
    · rw [(a5 j b (by omega) q).1, (a5 j b (by omega) q).2, s1 _ _ (by decide) (by decide), s1 _ _ (by decide) (by decide), (b5 j b (by omega) q).1, (b5 j b (by omega) q).2, s2 _ _ (by decide) (by decide), s2 _ _ (by decide) (by decide)]
      exact j1 b q
  · intro y b hy q
    rw [e1 _ _ (by decide) (by decide), e1 _ _ (by decide) (by decide)]
    rcases sp y with q2 | ⟨j, rfl⟩
    · rw [(a4 _ (by omega)).1, (a4 _ (by omega)).2, s1 _ _ (by decide) (by decide), s1 _ _ (by decide) (by decide)]
      exact j3 y b (by omega) q
    · rw [(a5 j b (by omega) q).1, (a5 j b (by omega) q).2, s1 _ _ (by decide) (by decide), s1 _ _ (by decide) (by decide)]
      exact j3 Y b (Nat.le_refl _) q
  · intro s b q1 q2
    rw [e1 _ _ (by decide) (by decide), e2 _ _ (by decide) (by decide), b1 s b q1 q2]
    exact hd n s b (Nat.le_refl _) q1 (by omega)
  · intro y s b hy q1 q2
    rw [e1 _ _ (by decide) (by decide), e2 _ _ (by decide) (by decide)]
    rcases sp y with q | ⟨j, rfl⟩
    · rw [a2 _ (by omega), s1 _ _ (by decide) (by decide), b2 _ (by omega), s2 _ _ (by decide) (by decide)]
      exact k2 y s b q q1 q2
    · rw [hd j s b (by omega) q1 (by omega), b3 j s b (by omega) q1 q2]
  · intro y s hy q1
    rw [e1 _ _ (by decide) (by decide), e1 _ _ (by decide) (by decide), e1 _ _ (by decide) (by decide)]
    have same : ∀ y', y' ≤ Y → y' = y → (∀ b, b < 3 → 0 ≤ g' 39 (y * 12 + b * 4 + s)) ∧ max (hc 39 (y * 12 + 0 * 4 + s) - 9999) 0 + max (hc 39 (y * 12 + 1 * 4 + s) - 9999) 0 + max (hc 39 (y * 12 + 2 * 4 + s) - 9999) 0 ≤ 30100 * (y : Int) ∧ (nB T = 2 → hc 39 (y * 12 + 2 * 4 + s) = 0) := by
      rintro y' q2 rfl
      have o := k3 y' s q2 q1
      have e : ∀ b, b < 3 → hc 39 (y' * 12 + b * 4 + s) = h 39 (y' * 12 + b * 4 + s) := fun b qb => by rw [a2 _ (by omega), s1 _ _ (by decide) (by decide)]
      rw [e 0 (by decide), e 1 (by decide), e 2 (by decide)]
      refine ⟨fun b qb => ?_, o.2⟩
      rw [e1 _ _ (by decide) (by decide), e b qb]
      exact o.1 b qb
    rcases sp y with q | ⟨j, rfl⟩
    · exact same y (by omega) rfl
    · by_cases q0 : j = 0
      · subst q0
        exact same Y (Nat.le_refl _) (by omega)
      · have o := okj j (by omega)
        rw [hd j s 0 (by omega) q1 (by decide), hd j s 1 (by omega) q1 (by decide), hd j s 2 (by omega) q1 (by decide)]
        have o0 := o.1.1 s 0
        have o1 := o.1.1 s 1
        have o2 := o.1.1 s 2
        have o3 := o.1.2 s
        refine ⟨fun b qb => ?_, by omega, fun q2 => o.2.2 q2 s⟩
        rw [e1 _ _ (by decide) (by decide), hd j s b (by omega) q1 qb]
        exact o.1.1 s b
  · intro y b hy q
    rw [e1 _ _ (by decide) (by decide), e2 _ _ (by decide) (by decide)]
    rcases sp y with q2 | ⟨j, rfl⟩
    · rw [a8 _ (by omega), s1 _ _ (by decide) (by decide), b10 _ (by omega), s2 _ _ (by decide) (by decide)]
      exact l1 y b q2 q
    · rw [a9 j b (by omega) q, b11 j b (by omega) q]
  · intro y hy
    rw [e1 _ _ (by decide) (by decide), e2 _ _ (by decide) (by decide)]
    rcases sp y with q2 | ⟨j, rfl⟩
    · rw [a10 _ q2, s1 _ _ (by decide) (by decide), b12 _ q2, s2 _ _ (by decide) (by decide)]
      exact l2 y q2
    · rw [a11 j (by omega), b13 j (by omega)]
      refine ⟨rfl, ?_⟩
      have o := yN_ok hw (okj j (by omega)) (by omega)
      exact (yL_b (own := own) (oth := oth) hw o (nS T)).1
section GP
variable {d : Nat} {G : zG} {h : zM} {x : Int}
theorem p_go (hI : INV G h) : PR zI d 68 165 [zI x] G h := by
  have hg := hI.1
  have hk := INV_gK hI
  rcases INV_rng hI with ⟨e, a⟩ | ⟨e, u, T, Y, hu, hu2, hw, kt, rt, i4, i5⟩
  · have un := a.1
    refine PR_q (z := -1) (tr := 1) hI (by decide) ?_ ?_
    · intro Q K
      rw [r68]
      simp only [e68_0, e68_1, e68_4, e68_7, e68_8, e68_9, e68_12, e68_13, e68_14, e68_15, e68_16, e68_19, e68_20, e68_22, e68_25, e68_26, e68_27, e68_30, e68_31, e68_32, e68_33, e68_36, e68_39, e68_40, e68_41, e68_43, e68_46, e68_47, e68_48, e68_51, e68_52, e68_53, e68_54, e68_55, e68_58, e68_59, e68_62, e68_63, e68_66, e68_67, e68_70, e68_71, e68_74, e68_75, e68_76, e68_77, e68_79, e68_80, e68_83, e68_84, e68_85, e68_88, e68_89, e68_90, e68_93, e68_96, e68_97, zs0, zsI, zsL, zsR, ztl1, ztl0, zc0, zcI, zcL, zcR, true_and, and_true, true_implies, false_implies, implies_true, not_true_eq_false, not_false_eq_true, and_self, Int.toNat_natCast, Nat.reduceAdd, Nat.reduceLeDiff, Nat.reduceLT, forall_eq', Option.some.injEq, zarR, zarI, zarL, zle, zq0, zq1, zq2, zq3, zq4, zq5, zq6, zq8, zq9, zq10, zq20, zq7, zq12, zq24, zq40, zq41, zq48, zq100, zq120, zq123, zq480, zq492, zq700, zq729, zq2187, zq2916, zq8748, ne_eq, Int.reduceEq, Int.reduceLT, Int.reduceLE, Int.reduceToNat, Int.reduceMul, Int.reduceAdd, Int.reduceNeg, gk0 hg, gr0_0 hg, gr0_2 hg, gr0_3 hg, gr0_4 hg, gr0_5 hg, gr0_6 hg, gr0_7 hg, gr0_8 hg, gr0_9 hg, gr0_10 hg, or_true, true_or, if_true, if_false, false_and, and_false, false_or, or_false, f_isTown hg, e]
      exact K _ cfr.z zu_at
    · intro h1 f1 Q K
      rw [r165]
      simp only [e165_0, e165_1, e165_2, e165_5, e165_6, e165_9, e165_12, e165_13, e165_14, e165_17, e165_18, e165_19, e165_20, e165_22, e165_25, e165_28, e165_29, e165_30, e165_33, e165_34, e165_35, e165_38, e165_39, e165_40, e165_42, e165_45, e165_46, e165_47, e165_50, e165_51, e165_52, e165_53, e165_56, e165_57, e165_60, e165_61, e165_62, e165_63, e165_65, e165_66, e165_69, e165_70, e165_71, e165_74, e165_75, e165_76, e165_79, e165_82, e165_83, e165_84, e165_87, zs0, zsI, zsL, zsR, ztl1, ztl0, zc0, zcI, zcL, zcR, true_and, and_true, true_implies, false_implies, implies_true, not_true_eq_false, not_false_eq_true, and_self, Int.toNat_natCast, Nat.reduceAdd, Nat.reduceLeDiff, Nat.reduceLT, forall_eq', Option.some.injEq, zarR, zarI, zarL, zle, zq0, zq1, zq2, zq3, zq4, zq5, zq6, zq8, zq9, zq10, zq20, zq7, zq12, zq24, zq40, zq41, zq48, zq100, zq120, zq123, zq480, zq492, zq700, zq729, zq2187, zq2916, zq8748, ne_eq, Int.reduceEq, Int.reduceLT, Int.reduceLE, Int.reduceToNat, Int.reduceMul, Int.reduceAdd, Int.reduceNeg, gk91 hg, gr91_5 hg, gr91_22 hg, gr91_23 hg, gr91_24 hg, gr91_25 hg, gr91_26 hg, gr91_27 hg, gr91_28 hg, gr91_29 hg, gr91_32 hg, gr91_33 hg, gr91_34 hg, gr91_35 hg, gr91_36 hg, gr91_37 hg, gr91_38 hg, gr91_39 hg, gr91_40 hg, gr91_41 hg, gr91_42 hg, gr91_44 hg, gr91_45 hg, gr91_46 hg, gr91_48 hg, gr91_49 hg, gr91_50 hg, gr91_51 hg, gr91_52 hg, or_true, true_or, if_true, if_false, false_and, and_false, false_or, or_false, un, q_none, m_refused hg]
      exact K _ mEnd.1 mEnd.2.1 mEnd.2.2
  · have u1 := hu.1
    have hY := i4.1.1
    have hYe := i4.1.2.1
    have hYm := i4.1.2.2
    have hb3 := hw.1
    have hs4 := hw.2.1
    rcases rng_c 1 11 x with ⟨l, l1, l2⟩ | ⟨l, l2⟩
    · obtain ⟨n, rfl⟩ := Int.eq_ofNat_of_zero_le (show 0 ≤ x by omega)
      have l3 : ¬ (n : Int) < 1 := by omega
      have l4 : (n : Int) ≤ 10 := by omega
      have wY : True → wr ((Y : Int) + (n : Int)) = ((Y + n : Nat) : Int) := fun _ => wrN (by omega) (by omega)
      by_cases hr : Y + n ≤ 40
      · have hr' : ((Y + n : Nat) : Int) ≤ 40 := by omega
        obtain ⟨od, nw, hod⟩ := I4_od i4
        have ok := I4_pOk i4
        have bo := pO_b hw od
        have bn := pO_b hw nw
        have kt0 : kT (zu h 0 11 0) 18 T := kT_frame kt (fun c i q1 q2 => zu_c (by omega))
        refine PR_u (fun hc => ∃ hS : zM, (∀ c i, ¬ (c = 0 ∧ i = 11) → ¬ c = 28 → ¬ c = 29 → ¬ c = 30 → ¬ (c = 17 ∧ i = 4) → ¬ c = 45 → hS c i = h c i) ∧ hS 0 11 = 0 ∧ CY T (pO T od) (pO T nw) (hdC T h Y, h 42 Y) Y hS hc n) (yT T (pO T od) (pO T nw) (hdC T h Y, h 42 Y) n) ?_ ?_
        · intro Q K
          rw [r68]
          simp only [e68_0, e68_1, e68_4, e68_7, e68_8, e68_9, e68_12, e68_13, e68_14, e68_15, e68_16, e68_19, e68_20, e68_22, e68_25, e68_26, e68_27, e68_30, e68_31, e68_32, e68_33, e68_36, e68_39, e68_40, e68_41, e68_43, e68_46, e68_47, e68_48, e68_51, e68_52, e68_53, e68_54, e68_55, e68_58, e68_59, zs0, zsI, zsL, zsR, ztl1, ztl0, zc0, zcI, zcL, zcR, true_and, and_true, true_implies, false_implies, implies_true, not_true_eq_false, not_false_eq_true, and_self, Int.toNat_natCast, Nat.reduceAdd, Nat.reduceLeDiff, Nat.reduceLT, forall_eq', Option.some.injEq, zarR, zarI, zarL, zle, zq0, zq1, zq2, zq3, zq4, zq5, zq6, zq8, zq9, zq10, zq20, zq7, zq12, zq24, zq40, zq41, zq48, zq100, zq120, zq123, zq480, zq492, zq700, zq729, zq2187, zq2916, zq8748, ne_eq, Int.reduceEq, Int.reduceLT, Int.reduceLE, Int.reduceToNat, Int.reduceMul, Int.reduceAdd, Int.reduceNeg, gk0 hg, gr0_0 hg, gr0_2 hg, gr0_3 hg, gr0_4 hg, gr0_5 hg, gr0_6 hg, gr0_7 hg, gr0_8 hg, gr0_9 hg, gr0_10 hg, gk38 hg, gr38_1 hg, gr38_2 hg, gr38_3 hg, gr38_4 hg, gr38_5 hg, gr38_6 hg, f_isTown hg, e, l3, l4, hYe, wY trivial, hr']
          apply c_open hg kt0 hw (Y := Y) (by rw [zu_c (by decide)]; exact hYe) hY (od := od) (nw := nw) (fun b hb => by rw [zu_c (by decide)]; exact (hod b (by omega)).1) (fun b hb => by rw [zu_c (by decide)]; exact (hod b (by omega)).2.1)
          intro h1 f1 o1 n1
          have kt1 : kT h1 18 T := kT_frame kt0 (fun c i q1 q2 => f1 c i (by omega) (by omega))
          simp only [e68_62, e68_63, e68_66, e68_67, e68_70, e68_71, zs0, zsI, zsL, zsR, ztl1, ztl0, zc0, zcI, zcL, zcR, true_and, and_true, true_implies, false_implies, implies_true, not_true_eq_false, not_false_eq_true, and_self, Int.toNat_natCast, Nat.reduceAdd, Nat.reduceLeDiff, Nat.reduceLT, forall_eq', Option.some.injEq, zarR, zarI, zarL, zle, zq0, zq1, zq2, zq3, zq4, zq5, zq6, zq8, zq9, zq10, zq20, zq7, zq12, zq24, zq40, zq41, zq48, zq100, zq120, zq123, zq480, zq492, zq700, zq729, zq2187, zq2916, zq8748, ne_eq, Int.reduceEq, Int.reduceLT, Int.reduceLE, Int.reduceToNat, Int.reduceMul, Int.reduceAdd, Int.reduceNeg, gk0 hg, gr0_0 hg, gr0_2 hg, gr0_3 hg, gr0_4 hg, gr0_5 hg, gr0_6 hg, gr0_7 hg, gr0_8 hg, gr0_9 hg, gr0_10 hg, gk17 hg, gr17_0 hg, gr17_1 hg, gr17_2 hg, gr17_3 hg]
          rw [show (0 : Int) = ((0 : Nat) : Int) from rfl]
          apply c_chAll16 hg kt1 hw o1 n1 bo bn (r := 45) (by decide) (gk45 hg) (by rw [gl45 hg]; omega) (by rw [gl45 hg]; decide)
          intro hS fS aS
          have fS' : ∀ c i, ¬ (c = 0 ∧ i = 11) → ¬ c = 28 → ¬ c = 29 → ¬ c = 30 → ¬ (c = 17 ∧ i = 4) → ¬ c = 45 → hS c i = h c i := by
            intro c i q1 q2 q3 q4 q5 q6
            rw [fS c i q4 q5 (by omega), f1 c i q2 q3, zu, if_neg q1]
          have tS : hS 0 11 = 0 := by rw [fS _ _ (by omega) (by omega) (by omega), f1 _ _ (by decide) (by decide), zu_at]
          have lp : ∀ j k (hh : zM), k + j = n → CY T (pO T od) (pO T nw) (hdC T h Y, h 42 Y) Y hS hh k → zE 68 (d + 15) Q 78 [some (zR (some 0)), some (zI n), some (zI (yT T (pO T od) (pO T nw) (hdC T h Y, h 42 Y) k)), some (zI k)] [] G hh (0, 0) := by
            intro j
            induction j with
            | zero =>
              intro k hh hk a
              have hk' : k = n := by omega
              subst hk'
              rw [e68_78]
              simp only [e68_0, e68_1, e68_4, e68_7, e68_8, e68_9, e68_12, e68_13, e68_14, e68_15, e68_16, e68_19, e68_20, e68_22, e68_25, e68_26, e68_27, e68_30, e68_31, e68_32, e68_33, e68_36, e68_39, e68_40, e68_41, e68_43, e68_46, e68_47, e68_48, e68_51, e68_52, e68_53, e68_54, e68_55, e68_58, e68_59, e68_62, e68_63, e68_66, e68_67, e68_70, e68_71, e68_74, e68_75, e68_76, e68_77, e68_79, e68_80, e68_83, e68_84, e68_85, e68_88, e68_89, e68_90, e68_93, e68_96, e68_97, zs0, zsI, zsL, zsR, ztl1, ztl0, zc0, zcI, zcL, zcR, true_and, and_true, true_implies, false_implies, implies_true, not_true_eq_false, not_false_eq_true, and_self, Int.toNat_natCast, Nat.reduceAdd, Nat.reduceLeDiff, Nat.reduceLT, forall_eq', Option.some.injEq, zarR, zarI, zarL, zle, zq0, zq1, zq2, zq3, zq4, zq5, zq6, zq8, zq9, zq10, zq20, zq7, zq12, zq24, zq40, zq41, zq48, zq100, zq120, zq123, zq480, zq492, zq700, zq729, zq2187, zq2916, zq8748, ne_eq, Int.reduceEq, Int.reduceLT, Int.reduceLE, Int.reduceToNat, Int.reduceMul, Int.reduceAdd, Int.reduceNeg, or_true, true_or, if_true, if_false, false_and, and_false, false_or, or_false, Int.le_refl]
              exact K hh ⟨hS, fS', tS, a⟩
            | succ j ih =>
              intro k hh hk a
              have c : ¬ (n : Int) ≤ k := by omega
              rw [e68_78]
              simp only [e68_79, e68_80, e68_83, e68_84, e68_85, zs0, zsI, zsL, zsR, ztl1, ztl0, zc0, zcI, zcL, zcR, true_and, and_true, true_implies, false_implies, implies_true, not_true_eq_false, not_false_eq_true, and_self, Int.toNat_natCast, Nat.reduceAdd, Nat.reduceLeDiff, Nat.reduceLT, forall_eq', Option.some.injEq, zarR, zarI, zarL, zle, zq0, zq1, zq2, zq3, zq4, zq5, zq6, zq8, zq9, zq10, zq20, zq7, zq12, zq24, zq40, zq41, zq48, zq100, zq120, zq123, zq480, zq492, zq700, zq729, zq2187, zq2916, zq8748, ne_eq, Int.reduceEq, Int.reduceLT, Int.reduceLE, Int.reduceToNat, Int.reduceMul, Int.reduceAdd, Int.reduceNeg, gk0 hg, gr0_0 hg, gr0_2 hg, gr0_3 hg, gr0_4 hg, gr0_5 hg, gr0_6 hg, gr0_7 hg, gr0_8 hg, gr0_9 hg, gr0_10 hg, c]
              have fc : ∀ c i, c < 31 → hh c i = hS c i := fun c i q => a.1 c i (by omega) (by omega) (by omega)
              have sd : hh 42 (Y + k) = (yS T (pO T od) (pO T nw) (hdC T h Y, h 42 Y) k).2 := by
                cases k with
                | zero =>
                  rw [Nat.add_zero, a.2.2.2.2.2.2.1 _ (by omega), fS' _ _ (by omega) (by omega) (by omega) (by omega) (by omega) (by omega)]
                  rfl
                | succ k => exact a.2.2.2.2.2.2.2.1 k (by omega)
              have hd : ∀ s b, s < nS T → b < 3 → hh 39 ((Y + k) * 12 + b * 4 + s) = (yS T (pO T od) (pO T nw) (hdC T h Y, h 42 Y) k).1 s b := by
                intro s b q1 q2
                cases k with
                | zero =>
                  rw [Nat.add_zero, a.2.2.1 _ (by omega), fS' _ _ (by omega) (by omega) (by omega) (by omega) (by omega) (by omega)]
                  show _ = hdC T h Y s b
                  unfold hdC
                  rw [if_pos ⟨q1, q2⟩]
                | succ k => exact a.2.2.2.1 k s b (by omega) q1 q2
              apply c_passYear (d := d + 12) (own := pO T od) (oth := pO T nw) (p := yS T (pO T od) (pO T nw) (hdC T h Y, h 42 Y) k) (B := 30100 * (Y : Int) + 29997 + 100 * (k : Int)) (Y := Y + k) hg (kT_frame kt1 (fun c i q1 q2 => by rw [fc c i (by omega), fS c i (by omega) (by omega) (by omega)])) hw (fun t ht => by rw [fc _ _ (by decide), fS _ _ (by decide) (by omega) (by omega)]; exact o1 t ht) (fun t ht => by rw [fc _ _ (by decide), fS _ _ (by decide) (by omega) (by omega)]; exact n1 t ht) bo bn (fun s hs => by rw [a.1 45 s (by omega) (by omega) (by omega)]; have := aS s hs; rw [Nat.zero_add] at this; exact this) a.2.1 (by omega) (yS_ok hw ok (by omega) k (by omega)) (by omega) hd sd
              intro h2 k0 k1 k2 k3 k4 k5 k6 k7 k8 k9 k10 k11
              have b1 := yT_b (own := pO T od) (oth := pO T nw) hw ok (by omega) (k + 1) (by omega)
              have e1 : yT T (pO T od) (pO T nw) (hdC T h Y, h 42 Y) (k + 1) = yT T (pO T od) (pO T nw) (hdC T h Y, h 42 Y) k + yL T (pO T od) (pO T nw) (yS T (pO T od) (pO T nw) (hdC T h Y, h 42 Y) k) := rfl
              have w : wr (yT T (pO T od) (pO T nw) (hdC T h Y, h 42 Y) k + yL T (pO T od) (pO T nw) (yS T (pO T od) (pO T nw) (hdC T h Y, h 42 Y) k)) = yT T (pO T od) (pO T nw) (hdC T h Y, h 42 Y) (k + 1) := by
                rw [← e1]
                exact wr_id (by omega)
              simp only [e68_88, e68_89, e68_90, e68_93, e68_96, e68_97, zs0, zsI, zsL, zsR, ztl1, ztl0, zc0, zcI, zcL, zcR, true_and, and_true, true_implies, false_implies, implies_true, not_true_eq_false, not_false_eq_true, and_self, Int.toNat_natCast, Nat.reduceAdd, Nat.reduceLeDiff, Nat.reduceLT, forall_eq', Option.some.injEq, zarR, zarI, zarL, zle, zq0, zq1, zq2, zq3, zq4, zq5, zq6, zq8, zq9, zq10, zq20, zq7, zq12, zq24, zq40, zq41, zq48, zq100, zq120, zq123, zq480, zq492, zq700, zq729, zq2187, zq2916, zq8748, ne_eq, Int.reduceEq, Int.reduceLT, Int.reduceLE, Int.reduceToNat, Int.reduceMul, Int.reduceAdd, Int.reduceNeg, w, wr_s (show k < 2147483647 by omega)]
              exact ih (k + 1) h2 (by omega) (CY_step hY a k0 k1 k2 k3 k4 k5 k6 k7 k8 k9 k10 k11 (by omega))
          have l0 := lp n 0 hS (by omega) ⟨fun _ _ _ _ _ => rfl, by rw [fS' _ _ (by omega) (by omega) (by omega) (by omega) (by omega) (by omega)]; exact hYe, fun _ _ => rfl, fun j s b q => by omega, fun _ _ => ⟨rfl, rfl⟩, fun j b q q2 => by rw [show j = 0 by omega]; exact ⟨rfl, rfl⟩, fun _ _ => rfl, fun j q => by omega, fun _ _ => rfl, fun j b q => by omega, fun _ _ => rfl, fun j q => by omega⟩
          rw [show yT T (pO T od) (pO T nw) (hdC T h Y, h 42 Y) 0 = 0 from rfl] at l0
          simp only [zq0] at l0 ⊢
          simp only [e68_74, e68_75, e68_76, e68_77, e68_79, e68_80, e68_83, e68_84, e68_85, e68_88, e68_89, e68_90, e68_93, e68_96, e68_97, zs0, zsI, zsL, zsR, ztl1, ztl0, zc0, zcI, zcL, zcR, true_and, and_true, true_implies, false_implies, implies_true, not_true_eq_false, not_false_eq_true, and_self, Int.toNat_natCast, Nat.reduceAdd, Nat.reduceLeDiff, Nat.reduceLT, forall_eq', Option.some.injEq, zarR, zarI, zarL, zle, zq0, zq1, zq2, zq3, zq4, zq5, zq6, zq8, zq9, zq10, zq20, zq7, zq12, zq24, zq40, zq41, zq48, zq100, zq120, zq123, zq480, zq492, zq700, zq729, zq2187, zq2916, zq8748, ne_eq, Int.reduceEq, Int.reduceLT, Int.reduceLE, Int.reduceToNat, Int.reduceMul, Int.reduceAdd, Int.reduceNeg]
          exact l0
        · rintro hc ⟨hS, fS, tS, aC⟩ Q K
          have fc : ∀ c i, 91 ≤ c → hc c i = h c i := fun c i q => by rw [aC.1 c i (by omega) (by omega) (by omega), fS c i (by omega) (by omega) (by omega) (by omega) (by omega) (by omega)]
          have rt0 : rT (zu hc 91 0 0) u T := rT_frame rt (fun c i q => by rw [zu_c (by omega), fc c i (by omega)])
          rw [r165]
          simp only [e165_0, e165_1, e165_2, e165_5, e165_6, e165_9, e165_12, e165_13, e165_14, e165_17, e165_18, e165_19, e165_20, e165_22, e165_25, e165_28, e165_29, e165_30, e165_33, e165_34, e165_35, e165_38, e165_39, e165_40, e165_42, e165_45, e165_46, e165_47, e165_50, e165_51, e165_52, e165_53, zs0, zsI, zsL, zsR, ztl1, ztl0, zc0, zcI, zcL, zcR, true_and, and_true, true_implies, false_implies, implies_true, not_true_eq_false, not_false_eq_true, and_self, Int.toNat_natCast, Nat.reduceAdd, Nat.reduceLeDiff, Nat.reduceLT, forall_eq', Option.some.injEq, zarR, zarI, zarL, zle, zq0, zq1, zq2, zq3, zq4, zq5, zq6, zq8, zq9, zq10, zq20, zq7, zq12, zq24, zq40, zq41, zq48, zq100, zq120, zq123, zq480, zq492, zq700, zq729, zq2187, zq2916, zq8748, ne_eq, Int.reduceEq, Int.reduceLT, Int.reduceLE, Int.reduceToNat, Int.reduceMul, Int.reduceAdd, Int.reduceNeg, gk91 hg, gr91_5 hg, gr91_22 hg, gr91_23 hg, gr91_24 hg, gr91_25 hg, gr91_26 hg, gr91_27 hg, gr91_28 hg, gr91_29 hg, gr91_32 hg, gr91_33 hg, gr91_34 hg, gr91_35 hg, gr91_36 hg, gr91_37 hg, gr91_38 hg, gr91_39 hg, gr91_40 hg, gr91_41 hg, gr91_42 hg, gr91_44 hg, gr91_45 hg, gr91_46 hg, gr91_48 hg, gr91_49 hg, gr91_50 hg, gr91_51 hg, gr91_52 hg, hu, q_some, m_in, l, zu_i (show ¬ 31 = 0 by decide), fc 91 31 (by decide), hYm, wY trivial, hr']
          apply m_lays hg hu rt0 hw (by decide)
          intro h2 f2 V2 v19 v20 v21
          rw [aLaw_0] at V2
          simp only [e165_56, e165_57, zs0, zsI, zsL, zsR, ztl1, ztl0, zc0, zcI, zcL, zcR, true_and, and_true, true_implies, false_implies, implies_true, not_true_eq_false, not_false_eq_true, and_self, Int.toNat_natCast, Nat.reduceAdd, Nat.reduceLeDiff, Nat.reduceLT, forall_eq', Option.some.injEq, zarR, zarI, zarL, zle, zq0, zq1, zq2, zq3, zq4, zq5, zq6, zq8, zq9, zq10, zq20, zq7, zq12, zq24, zq40, zq41, zq48, zq100, zq120, zq123, zq480, zq492, zq700, zq729, zq2187, zq2916, zq8748, ne_eq, Int.reduceEq, Int.reduceLT, Int.reduceLE, Int.reduceToNat, Int.reduceMul, Int.reduceAdd, Int.reduceNeg, gk91 hg, gr91_5 hg, gr91_22 hg, gr91_23 hg, gr91_24 hg, gr91_25 hg, gr91_26 hg, gr91_27 hg, gr91_28 hg, gr91_29 hg, gr91_32 hg, gr91_33 hg, gr91_34 hg, gr91_35 hg, gr91_36 hg, gr91_37 hg, gr91_38 hg, gr91_39 hg, gr91_40 hg, gr91_41 hg, gr91_42 hg, gr91_44 hg, gr91_45 hg, gr91_46 hg, gr91_48 hg, gr91_49 hg, gr91_50 hg, gr91_51 hg, gr91_52 hg]
          have rt2 : rT h2 u T := rT_frame rt0 (fun c i q => f2 c i (by omega) (by omega))
          apply m_asked hg hu rt2 hw (od := od) (nw := nw) (fun b hb => by rw [f2 _ _ (by omega) (by omega), zu_c (by decide), fc _ _ (by omega)]; exact ⟨(hod b (by omega)).2.2.1, (hod b (by omega)).1.2⟩) (fun b hb => by rw [f2 _ _ (by omega) (by omega), zu_c (by decide), fc _ _ (by omega)]; exact ⟨(hod b (by omega)).2.2.2.1, (hod b (by omega)).2.1.2⟩)
          intro hm f3 o3 n3
          have V3 : rV hm u T := rV_frame V2 (fun c i q => f3 c i (by omega) (by omega)) (fun i => f3 _ _ (by decide) (by decide)) (fun i _ _ => f3 _ _ (by decide) (by decide))
          have fm : ∀ c i, ¬ (c = 91 ∧ i = 0) → ¬ (c = 91 ∧ 16 ≤ i ∧ i ≤ 21) → ¬ c = 93 → ¬ c = 94 → ¬ c = 95 → hm c i = hc c i := fun c i q1 q2 q3 q4 q5 => by rw [f3 c i q4 q5, f2 c i q2 q3, zu, if_neg q1]
          have lp : ∀ j k (hh : zM), k + j = n → MY T (pO T od) (pO T nw) (hdC T h Y, h 42 Y) Y hm hh k → zE 165 (d + 15) Q 64 [some (zR (some 91)), some (zI n), some (zI (yT T (pO T od) (pO T nw) (hdC T h Y, h 42 Y) k)), some (zI k)] [] G hh (0, 0) := by
            intro j
            induction j with
            | zero =>
              intro k hh hk a
              have hk' : k = n := by omega
              subst hk'
              rw [e165_64]
              simp only [e165_0, e165_1, e165_2, e165_5, e165_6, e165_9, e165_12, e165_13, e165_14, e165_17, e165_18, e165_19, e165_20, e165_22, e165_25, e165_28, e165_29, e165_30, e165_33, e165_34, e165_35, e165_38, e165_39, e165_40, e165_42, e165_45, e165_46, e165_47, e165_50, e165_51, e165_52, e165_53, e165_56, e165_57, e165_60, e165_61, e165_62, e165_63, e165_65, e165_66, e165_69, e165_70, e165_71, e165_74, e165_75, e165_76, e165_79, e165_82, e165_83, e165_84, e165_87, zs0, zsI, zsL, zsR, ztl1, ztl0, zc0, zcI, zcL, zcR, true_and, and_true, true_implies, false_implies, implies_true, not_true_eq_false, not_false_eq_true, and_self, Int.toNat_natCast, Nat.reduceAdd, Nat.reduceLeDiff, Nat.reduceLT, forall_eq', Option.some.injEq, zarR, zarI, zarL, zle, zq0, zq1, zq2, zq3, zq4, zq5, zq6, zq8, zq9, zq10, zq20, zq7, zq12, zq24, zq40, zq41, zq48, zq100, zq120, zq123, zq480, zq492, zq700, zq729, zq2187, zq2916, zq8748, ne_eq, Int.reduceEq, Int.reduceLT, Int.reduceLE, Int.reduceToNat, Int.reduceMul, Int.reduceAdd, Int.reduceNeg, gk91 hg, gr91_5 hg, gr91_22 hg, gr91_23 hg, gr91_24 hg, gr91_25 hg, gr91_26 hg, gr91_27 hg, gr91_28 hg, gr91_29 hg, gr91_32 hg, gr91_33 hg, gr91_34 hg, gr91_35 hg, gr91_36 hg, gr91_37 hg, gr91_38 hg, gr91_39 hg, gr91_40 hg, gr91_41 hg, gr91_42 hg, gr91_44 hg, gr91_45 hg, gr91_46 hg, gr91_48 hg, gr91_49 hg, gr91_50 hg, gr91_51 hg, gr91_52 hg, or_true, true_or, if_true, if_false, false_and, and_false, false_or, or_false, Int.le_refl, m_done hg]
              apply K
              have fr : ∀ c i, ¬ (c = 91 ∧ i = 1) → ¬ (c = 91 ∧ i = 2) → (zu (zu hh 91 1 0) 91 2 (-1)) c i = hh c i := by
                intro c i q1 q2
                unfold zu
                rw [if_neg q2, if_neg q1]
              have v4 : (zu (zu hh 91 1 0) 91 2 (-1)) 91 1 = 0 := by rw [zu_i (by decide), zu_at]
              have v5 : (zu (zu hh 91 1 0) 91 2 (-1)) 91 2 = -1 := zu_at
              generalize (zu (zu hh 91 1 0) 91 2 (-1)) = hf at fr v4 v5 ⊢
              have lo : ∀ c i, c < 91 → hf c i = hc c i := fun c i q => by rw [fr c i (by omega) (by omega), a.1 c i (by omega) (by omega) (by omega) (by omega), fm c i (by omega) (by omega) (by omega) (by omega) (by omega)]
              have lo2 : ∀ c i, c < 91 → ¬ (c = 0 ∧ i = 11) → c < 28 ∨ 45 < c → ¬ (c = 17 ∧ i = 4) → hf c i = h c i := fun c i q q2 q3 q4 => by rw [lo c i q, aC.1 c i (by omega) (by omega) (by omega), fS c i q2 (by omega) (by omega) (by omega) q4 (by omega)]
              have hi : ∀ c i, 91 ≤ c → ¬ (c = 91 ∧ i < 3) → ¬ (c = 91 ∧ 16 ≤ i ∧ i ≤ 21) → ¬ (c = 91 ∧ i = 30) → ¬ (c = 91 ∧ i = 31) → c < 93 ∨ 101 < c → c < 104 ∨ 109 < c → hf c i = h c i := fun c i q1 q2 q3 q4 q5 q6 q7 => by rw [fr c i (by omega) (by omega), a.1 c i q4 q5 (by omega) q7, fm c i (by omega) q3 (by omega) (by omega) (by omega), fc c i q1]
              refine ⟨hg, I1_fr hI.2.1 (lo2 _ _ (by omega) (by omega) (by omega) (by omega)) (fun i => lo2 _ _ (by omega) (by omega) (by omega) (by omega)) (hi _ _ (by omega) (by omega) (by omega) (by omega) (by omega) (by omega) (by omega)) (fun i => hi _ _ (by omega) (by omega) (by omega) (by omega) (by omega) (by omega) (by omega)), I2_ok hI.2.2.1 ?_ v4 v5 (lo2 _ _ (by omega) (by omega) (by omega) (by omega)) (hi _ _ (by omega) (by omega) (by omega) (by omega) (by omega) (by omega) (by omega)), Or.inr ⟨u, T, Y + k, hu, hu2, hw, kT_frame kt (fun c i _ _ => lo2 _ _ (by omega) (by omega) (by omega) (by omega)), rT_frame rt (fun c i _ => hi _ _ (by omega) (by omega) (by omega) (by omega) (by omega) (by omega) (by omega)), ?_, I5_fr i5 (fun c i _ _ => lo2 _ _ (by omega) (by omega) (by omega) (by omega)) (hi _ _ (by omega) (by omega) (by omega) (by omega) (by omega) (by omega) (by omega)) (fun c i _ _ => hi _ _ (by omega) (by omega) (by omega) (by omega) (by omega) (by omega) (by omega))⟩⟩
              · rw [lo _ _ (by decide), aC.1 _ _ (by omega) (by omega) (by omega)]
                exact tS
              · exact I4_go (hm := hm) (hS := hS) hw i4 hr (by omega) aC a (fun c i _ _ => fS c i (by omega) (by omega) (by omega) (by omega) (by omega) (by omega)) (fun c i _ _ => by rw [fm c i (by omega) (by omega) (by omega) (by omega) (by omega), fc c i (by omega)]) (fun c i _ _ => lo c i (by omega)) (fun c i _ _ => fr c i (by omega) (by omega)) (fr _ _ (by omega) (by omega)) (fr _ _ (by omega) (by omega))
            | succ j ih =>
              intro k hh hk a
              have c : ¬ (n : Int) ≤ k := by omega
              rw [e165_64]
              simp only [e165_65, e165_66, e165_69, e165_70, e165_71, zs0, zsI, zsL, zsR, ztl1, ztl0, zc0, zcI, zcL, zcR, true_and, and_true, true_implies, false_implies, implies_true, not_true_eq_false, not_false_eq_true, and_self, Int.toNat_natCast, Nat.reduceAdd, Nat.reduceLeDiff, Nat.reduceLT, forall_eq', Option.some.injEq, zarR, zarI, zarL, zle, zq0, zq1, zq2, zq3, zq4, zq5, zq6, zq8, zq9, zq10, zq20, zq7, zq12, zq24, zq40, zq41, zq48, zq100, zq120, zq123, zq480, zq492, zq700, zq729, zq2187, zq2916, zq8748, ne_eq, Int.reduceEq, Int.reduceLT, Int.reduceLE, Int.reduceToNat, Int.reduceMul, Int.reduceAdd, Int.reduceNeg, gk91 hg, gr91_5 hg, gr91_22 hg, gr91_23 hg, gr91_24 hg, gr91_25 hg, gr91_26 hg, gr91_27 hg, gr91_28 hg, gr91_29 hg, gr91_32 hg, gr91_33 hg, gr91_34 hg, gr91_35 hg, gr91_36 hg, gr91_37 hg, gr91_38 hg, gr91_39 hg, gr91_40 hg, gr91_41 hg, gr91_42 hg, gr91_44 hg, gr91_45 hg, gr91_46 hg, gr91_48 hg, gr91_49 hg, gr91_50 hg, gr91_51 hg, gr91_52 hg, c]
              have fa : ∀ c i, ¬ (c = 91 ∧ i = 30) → ¬ (c = 91 ∧ i = 31) → c < 96 ∨ 109 < c → hh c i = hm c i := fun c i q1 q2 q3 => a.1 c i q1 q2 (by omega) (by omega)
              apply m_passes (d := d + 7) (own := pO T od) (oth := pO T nw) (p := yS T (pO T od) (pO T nw) (hdC T h Y, h 42 Y) k) (B := 30100 * (Y : Int) + 29997 + 100 * (k : Int)) (Y := Y + k) hg hu (rV_frame V3 (fun c i q => fa c i (by omega) (by omega) (by omega)) (fun i => fa _ _ (by omega) (by omega) (by omega)) (fun i _ _ => fa _ _ (by omega) (by omega) (by omega))) hw (fun t ht => by rw [fa _ _ (by omega) (by omega) (by omega)]; exact o3 t ht) (fun t ht => by rw [fa _ _ (by omega) (by omega) (by omega)]; exact n3 t ht) bo bn (by rw [fa _ _ (by omega) (by omega) (by omega), f3 _ _ (by omega) (by omega)]; exact v19) a.2.2.2.2.2.2.2.2.2.1 (by omega) (yS_ok hw ok (by omega) k (by omega)) (by omega) a.2.1 a.2.2.2.2.2.2.2.2.1
              intro h2 k0 k1 k2 k3 k4 k5 k6 k7 k8 k9 k10 k11 k12 k13
              have b1 := yT_b (own := pO T od) (oth := pO T nw) hw ok (by omega) (k + 1) (by omega)
              have e1 : yT T (pO T od) (pO T nw) (hdC T h Y, h 42 Y) (k + 1) = yT T (pO T od) (pO T nw) (hdC T h Y, h 42 Y) k + yL T (pO T od) (pO T nw) (yS T (pO T od) (pO T nw) (hdC T h Y, h 42 Y) k) := rfl
              have w : wr (yT T (pO T od) (pO T nw) (hdC T h Y, h 42 Y) k + yL T (pO T od) (pO T nw) (yS T (pO T od) (pO T nw) (hdC T h Y, h 42 Y) k)) = yT T (pO T od) (pO T nw) (hdC T h Y, h 42 Y) (k + 1) := by
                rw [← e1]
                exact wr_id (by omega)
              simp only [e165_74, e165_75, e165_76, e165_79, e165_82, e165_83, e165_84, e165_87, zs0, zsI, zsL, zsR, ztl1, ztl0, zc0, zcI, zcL, zcR, true_and, and_true, true_implies, false_implies, implies_true, not_true_eq_false, not_false_eq_true, and_self, Int.toNat_natCast, Nat.reduceAdd, Nat.reduceLeDiff, Nat.reduceLT, forall_eq', Option.some.injEq, zarR, zarI, zarL, zle, zq0, zq1, zq2, zq3, zq4, zq5, zq6, zq8, zq9, zq10, zq20, zq7, zq12, zq24, zq40, zq41, zq48, zq100, zq120, zq123, zq480, zq492, zq700, zq729, zq2187, zq2916, zq8748, ne_eq, Int.reduceEq, Int.reduceLT, Int.reduceLE, Int.reduceToNat, Int.reduceMul, Int.reduceAdd, Int.reduceNeg, w, wr_s (show k < 2147483647 by omega)]
              exact ih (k + 1) h2 (by omega) (MY_step (by omega) (by omega) a k0 k1 k2 k3 k4 k5 k6 k7 k8 k9 k10 k11 k12 k13)
          have l0 := lp n 0 hm (by omega) ⟨fun _ _ _ _ _ _ => rfl, ?_, fun _ _ => rfl, fun j s b q => by omega, fun _ _ => ⟨rfl, rfl⟩, fun j b q => by omega, fun _ _ => rfl, fun j q => by omega, ?_, ?_, fun _ _ => rfl, fun j b q => by omega, fun _ _ => rfl, fun j q => by omega⟩
          rw [show yT T (pO T od) (pO T nw) (hdC T h Y, h 42 Y) 0 = 0 from rfl] at l0
          simp only [zq0] at l0 ⊢
          simp only [e165_60, e165_61, e165_62, e165_63, e165_65, e165_66, e165_69, e165_70, e165_71, e165_74, e165_75, e165_76, e165_79, e165_82, e165_83, e165_84, e165_87, zs0, zsI, zsL, zsR, ztl1, ztl0, zc0, zcI, zcL, zcR, true_and, and_true, true_implies, false_implies, implies_true, not_true_eq_false, not_false_eq_true, and_self, Int.toNat_natCast, Nat.reduceAdd, Nat.reduceLeDiff, Nat.reduceLT, forall_eq', Option.some.injEq, zarR, zarI, zarL, zle, zq0, zq1, zq2, zq3, zq4, zq5, zq6, zq8, zq9, zq10, zq20, zq7, zq12, zq24, zq40, zq41, zq48, zq100, zq120, zq123, zq480, zq492, zq700, zq729, zq2187, zq2916, zq8748, ne_eq, Int.reduceEq, Int.reduceLT, Int.reduceLE, Int.reduceToNat, Int.reduceMul, Int.reduceAdd, Int.reduceNeg]
          exact l0
          · intro s b q1 q2
            rw [fm _ _ (by omega) (by omega) (by omega) (by omega) (by omega), fc _ _ (by omega), ← i4.2.2.2.1.1 s b q1 q2]
            show _ = hdC T h Y s b
            unfold hdC
            rw [if_pos ⟨q1, by omega⟩]
          · rw [fm _ _ (by omega) (by omega) (by omega) (by omega) (by omega), fc _ _ (by omega), ← i4.2.1.1]
            rfl
          · rw [fm _ _ (by omega) (by omega) (by omega) (by omega) (by omega), fc _ _ (by omega), hYm]
            rfl
      · have hr' : ¬ ((Y + n : Nat) : Int) ≤ 40 := by omega
        refine PR_q (z := -1) (tr := 3) hI (by decide) ?_ ?_
        · intro Q K
          rw [r68]
          simp only [e68_0, e68_1, e68_4, e68_7, e68_8, e68_9, e68_12, e68_13, e68_14, e68_15, e68_16, e68_19, e68_20, e68_22, e68_25, e68_26, e68_27, e68_30, e68_31, e68_32, e68_33, e68_36, e68_39, e68_40, e68_41, e68_43, e68_46, e68_47, e68_48, e68_51, e68_52, e68_53, e68_54, e68_55, e68_58, e68_59, e68_62, e68_63, e68_66, e68_67, e68_70, e68_71, e68_74, e68_75, e68_76, e68_77, e68_79, e68_80, e68_83, e68_84, e68_85, e68_88, e68_89, e68_90, e68_93, e68_96, e68_97, zs0, zsI, zsL, zsR, ztl1, ztl0, zc0, zcI, zcL, zcR, true_and, and_true, true_implies, false_implies, implies_true, not_true_eq_false, not_false_eq_true, and_self, Int.toNat_natCast, Nat.reduceAdd, Nat.reduceLeDiff, Nat.reduceLT, forall_eq', Option.some.injEq, zarR, zarI, zarL, zle, zq0, zq1, zq2, zq3, zq4, zq5, zq6, zq8, zq9, zq10, zq20, zq7, zq12, zq24, zq40, zq41, zq48, zq100, zq120, zq123, zq480, zq492, zq700, zq729, zq2187, zq2916, zq8748, ne_eq, Int.reduceEq, Int.reduceLT, Int.reduceLE, Int.reduceToNat, Int.reduceMul, Int.reduceAdd, Int.reduceNeg, gk0 hg, gr0_0 hg, gr0_2 hg, gr0_3 hg, gr0_4 hg, gr0_5 hg, gr0_6 hg, gr0_7 hg, gr0_8 hg, gr0_9 hg, gr0_10 hg, gk38 hg, gr38_1 hg, gr38_2 hg, gr38_3 hg, gr38_4 hg, gr38_5 hg, gr38_6 hg, or_true, true_or, if_true, if_false, false_and, and_false, false_or, or_false, f_isTown hg, e, l3, l4, hYe, wY trivial, hr']
          exact K _ cfr.z zu_at
        · intro h1 f1 Q K
          have v : h1 91 31 = (Y : Int) := by rw [f1 91 31 (by omega)]; exact hYm
          rw [r165]
          simp only [e165_0, e165_1, e165_2, e165_5, e165_6, e165_9, e165_12, e165_13, e165_14, e165_17, e165_18, e165_19, e165_20, e165_22, e165_25, e165_28, e165_29, e165_30, e165_33, e165_34, e165_35, e165_38, e165_39, e165_40, e165_42, e165_45, e165_46, e165_47, e165_50, e165_51, e165_52, e165_53, e165_56, e165_57, e165_60, e165_61, e165_62, e165_63, e165_65, e165_66, e165_69, e165_70, e165_71, e165_74, e165_75, e165_76, e165_79, e165_82, e165_83, e165_84, e165_87, zs0, zsI, zsL, zsR, ztl1, ztl0, zc0, zcI, zcL, zcR, true_and, and_true, true_implies, false_implies, implies_true, not_true_eq_false, not_false_eq_true, and_self, Int.toNat_natCast, Nat.reduceAdd, Nat.reduceLeDiff, Nat.reduceLT, forall_eq', Option.some.injEq, zarR, zarI, zarL, zle, zq0, zq1, zq2, zq3, zq4, zq5, zq6, zq8, zq9, zq10, zq20, zq7, zq12, zq24, zq40, zq41, zq48, zq100, zq120, zq123, zq480, zq492, zq700, zq729, zq2187, zq2916, zq8748, ne_eq, Int.reduceEq, Int.reduceLT, Int.reduceLE, Int.reduceToNat, Int.reduceMul, Int.reduceAdd, Int.reduceNeg, gk91 hg, gr91_5 hg, gr91_22 hg, gr91_23 hg, gr91_24 hg, gr91_25 hg, gr91_26 hg, gr91_27 hg, gr91_28 hg, gr91_29 hg, gr91_32 hg, gr91_33 hg, gr91_34 hg, gr91_35 hg, gr91_36 hg, gr91_37 hg, gr91_38 hg, gr91_39 hg, gr91_40 hg, gr91_41 hg, gr91_42 hg, gr91_44 hg, gr91_45 hg, gr91_46 hg, gr91_48 hg, gr91_49 hg, gr91_50 hg, gr91_51 hg, gr91_52 hg, or_true, true_or, if_true, if_false, false_and, and_false, false_or, or_false, hu, q_some, m_in, l, zu_i (show ¬ 31 = 0 by decide), v, wY trivial, hr', m_refused hg]
          exact K _ mEnd.1 mEnd.2.1 mEnd.2.2
    · refine PR_q (z := -1) (tr := 2) hI (by decide) ?_ ?_
      · intro Q K
        rw [r68]
        by_cases l3 : x < 1
        · simp only [e68_0, e68_1, e68_4, e68_7, e68_8, e68_9, e68_12, e68_13, e68_14, e68_15, e68_16, e68_19, e68_20, e68_22, e68_25, e68_26, e68_27, e68_30, e68_31, e68_32, e68_33, e68_36, e68_39, e68_40, e68_41, e68_43, e68_46, e68_47, e68_48, e68_51, e68_52, e68_53, e68_54, e68_55, e68_58, e68_59, e68_62, e68_63, e68_66, e68_67, e68_70, e68_71, e68_74, e68_75, e68_76, e68_77, e68_79, e68_80, e68_83, e68_84, e68_85, e68_88, e68_89, e68_90, e68_93, e68_96, e68_97, zs0, zsI, zsL, zsR, ztl1, ztl0, zc0, zcI, zcL, zcR, true_and, and_true, true_implies, false_implies, implies_true, not_true_eq_false, not_false_eq_true, and_self, Int.toNat_natCast, Nat.reduceAdd, Nat.reduceLeDiff, Nat.reduceLT, forall_eq', Option.some.injEq, zarR, zarI, zarL, zle, zq0, zq1, zq2, zq3, zq4, zq5, zq6, zq8, zq9, zq10, zq20, zq7, zq12, zq24, zq40, zq41, zq48, zq100, zq120, zq123, zq480, zq492, zq700, zq729, zq2187, zq2916, zq8748, ne_eq, Int.reduceEq, Int.reduceLT, Int.reduceLE, Int.reduceToNat, Int.reduceMul, Int.reduceAdd, Int.reduceNeg, gk0 hg, gr0_0 hg, gr0_2 hg, gr0_3 hg, gr0_4 hg, gr0_5 hg, gr0_6 hg, gr0_7 hg, gr0_8 hg, gr0_9 hg, gr0_10 hg, or_true, true_or, if_true, if_false, false_and, and_false, false_or, or_false, f_isTown hg, e, l3]
          exact K _ cfr.z zu_at
        · have l4 : ¬ x ≤ 10 := by omega
          simp only [e68_0, e68_1, e68_4, e68_7, e68_8, e68_9, e68_12, e68_13, e68_14, e68_15, e68_16, e68_19, e68_20, e68_22, e68_25, e68_26, e68_27, e68_30, e68_31, e68_32, e68_33, e68_36, e68_39, e68_40, e68_41, e68_43, e68_46, e68_47, e68_48, e68_51, e68_52, e68_53, e68_54, e68_55, e68_58, e68_59, e68_62, e68_63, e68_66, e68_67, e68_70, e68_71, e68_74, e68_75, e68_76, e68_77, e68_79, e68_80, e68_83, e68_84, e68_85, e68_88, e68_89, e68_90, e68_93, e68_96, e68_97, zs0, zsI, zsL, zsR, ztl1, ztl0, zc0, zcI, zcL, zcR, true_and, and_true, true_implies, false_implies, implies_true, not_true_eq_false, not_false_eq_true, and_self, Int.toNat_natCast, Nat.reduceAdd, Nat.reduceLeDiff, Nat.reduceLT, forall_eq', Option.some.injEq, zarR, zarI, zarL, zle, zq0, zq1, zq2, zq3, zq4, zq5, zq6, zq8, zq9, zq10, zq20, zq7, zq12, zq24, zq40, zq41, zq48, zq100, zq120, zq123, zq480, zq492, zq700, zq729, zq2187, zq2916, zq8748, ne_eq, Int.reduceEq, Int.reduceLT, Int.reduceLE, Int.reduceToNat, Int.reduceMul, Int.reduceAdd, Int.reduceNeg, gk0 hg, gr0_0 hg, gr0_2 hg, gr0_3 hg, gr0_4 hg, gr0_5 hg, gr0_6 hg, gr0_7 hg, gr0_8 hg, gr0_9 hg, gr0_10 hg, or_true, true_or, if_true, if_false, false_and, and_false, false_or, or_false, f_isTown hg, e, l3, l4]
          exact K _ cfr.z zu_at
      · intro h1 f1 Q K
        rw [r165]
        simp only [e165_0, e165_1, e165_2, e165_5, e165_6, e165_9, e165_12, e165_13, e165_14, e165_17, e165_18, e165_19, e165_20, e165_22, e165_25, e165_28, e165_29, e165_30, e165_33, e165_34, e165_35, e165_38, e165_39, e165_40, e165_42, e165_45, e165_46, e165_47, e165_50, e165_51, e165_52, e165_53, e165_56, e165_57, e165_60, e165_61, e165_62, e165_63, e165_65, e165_66, e165_69, e165_70, e165_71, e165_74, e165_75, e165_76, e165_79, e165_82, e165_83, e165_84, e165_87, zs0, zsI, zsL, zsR, ztl1, ztl0, zc0, zcI, zcL, zcR, true_and, and_true, true_implies, false_implies, implies_true, not_true_eq_false, not_false_eq_true, and_self, Int.toNat_natCast, Nat.reduceAdd, Nat.reduceLeDiff, Nat.reduceLT, forall_eq', Option.some.injEq, zarR, zarI, zarL, zle, zq0, zq1, zq2, zq3, zq4, zq5, zq6, zq8, zq9, zq10, zq20, zq7, zq12, zq24, zq40, zq41, zq48, zq100, zq120, zq123, zq480, zq492, zq700, zq729, zq2187, zq2916, zq8748, ne_eq, Int.reduceEq, Int.reduceLT, Int.reduceLE, Int.reduceToNat, Int.reduceMul, Int.reduceAdd, Int.reduceNeg, gk91 hg, gr91_5 hg, gr91_22 hg, gr91_23 hg, gr91_24 hg, gr91_25 hg, gr91_26 hg, gr91_27 hg, gr91_28 hg, gr91_29 hg, gr91_32 hg, gr91_33 hg, gr91_34 hg, gr91_35 hg, gr91_36 hg, gr91_37 hg, gr91_38 hg, gr91_39 hg, gr91_40 hg, gr91_41 hg, gr91_42 hg, gr91_44 hg, gr91_45 hg, gr91_46 hg, gr91_48 hg, gr91_49 hg, gr91_50 hg, gr91_51 hg, gr91_52 hg, or_true, true_or, if_true, if_false, false_and, and_false, false_or, or_false, hu, q_some, m_in, l, m_refused hg]
        exact K _ mEnd.1 mEnd.2.1 mEnd.2.2
end GP
