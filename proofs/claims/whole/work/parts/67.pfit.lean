/-- the first of the best, of w 0 .. w k -/
def bX (w : Nat → Int) : Nat → Int × Nat
  | 0 => (w 0, 0)
  | k + 1 => if (bX w k).1 < w (k + 1) then (w (k + 1), k + 1) else bX w k
section PF
variable {d : Nat} {G : zG} {h : zM} {x y z : Int}
theorem p_fit (hI : INV G h) : PR zI d 86 203 [zI x, zI y] G h := by
  have hg := hI.1
  have hk := INV_gK hI
  obtain ⟨mb, ms⟩ := INV_mF hI
  rcases rng_c 0 (h 18 9) x with ⟨e, e1, e2⟩ | ⟨e, e2⟩
  · obtain ⟨u, T, Y, hu, hu2, hw, kt, rt, i4, i5⟩ := INV_T hI (by omega)
    have u1 := hu.1
    have n9 : ¬ u = 91 := by omega
    have hY := i4.1.1
    have hYe := i4.1.2.1
    have hb3 := hw.1
    have hs4 := hw.2.1
    have hp3 := hw.2.2.1
    have e9 := kt.1
    have kt0 : kT (zu h 0 11 0) 18 T := kT_frame kt (fun c i q1 q2 => zu_c (by omega))
    have ok := I4_pOk i4
    have ca := fun Q' => c_ahead (d := d + 13) (Q := Q') (h := h) (n := y) (law := 0) hg kt hw
    have tc := tA_c T y 0
    rw [aLaw_0] at tc
    rcases tc with ⟨t, l⟩ | ⟨t, l, m, rfl, m1, m3, hm⟩ | ⟨t, l, m, rfl, m1, m3, hm⟩
    · refine PR_q (z := -1) (tr := 2) hI (by decide) ?_ ?_
      · intro Q K
        rw [r86]
        simp only [e86_0, e86_1, e86_2, e86_3, e86_6, e86_9, e86_10, e86_11, e86_12, e86_15, e86_18, e86_19, e86_22, e86_23, e86_26, e86_29, e86_30, e86_31, e86_32, e86_33, e86_34, e86_35, e86_36, e86_37, e86_40, e86_42, e86_43, e86_47, e86_48, e86_51, e86_54, e86_57, e86_58, e86_59, e86_61, e86_62, e86_65, e86_67, e86_69, e86_71, e86_72, e86_75, e86_77, e86_79, e86_81, e86_82, e86_85, e86_88, e86_89, zs0, zsI, zsL, zsR, ztl1, ztl0, zc0, zcI, zcL, zcR, true_and, and_true, true_implies, false_implies, implies_true, not_true_eq_false, not_false_eq_true, and_self, Int.toNat_natCast, Nat.reduceAdd, Nat.reduceLeDiff, Nat.reduceLT, forall_eq', Option.some.injEq, zarR, zarI, zarL, zle, zq0, zq1, zq2, zq3, zq4, zq5, zq6, zq8, zq9, zq10, zq20, zq7, zq12, zq24, zq40, zq41, zq48, zq100, zq120, zq123, zq480, zq492, zq700, zq729, zq2187, zq2916, zq8748, ne_eq, Int.reduceEq, Int.reduceLT, Int.reduceLE, Int.reduceToNat, Int.reduceMul, Int.reduceAdd, Int.reduceNeg, gk0 hg, gr0_0 hg, gr0_2 hg, gr0_3 hg, gr0_4 hg, gr0_5 hg, gr0_6 hg, gr0_7 hg, gr0_8 hg, gr0_9 hg, gr0_10 hg, or_true, true_or, if_true, if_false, false_and, and_false, false_or, or_false, f_isBaker hg, e, ca, t, zu_at]
        exact K _ cfr.z zu_at
      · intro h1 f1 Q K
        rw [r203]
        simp only [e203_0, e203_1, e203_2, e203_5, e203_6, e203_7, e203_10, e203_13, e203_14, e203_15, e203_18, e203_19, e203_20, e203_21, e203_22, e203_25, e203_28, e203_29, e203_30, e203_33, e203_34, e203_35, e203_36, e203_39, e203_40, e203_41, e203_44, e203_47, e203_48, e203_49, e203_52, e203_53, e203_54, e203_55, e203_56, e203_57, e203_58, e203_59, e203_62, e203_64, e203_65, e203_69, e203_70, e203_73, e203_76, e203_79, e203_80, e203_81, e203_83, e203_84, e203_87, e203_89, e203_91, e203_93, e203_94, e203_97, e203_100, e203_102, e203_104, e203_106, e203_107, e203_110, e203_113, e203_114, e203_115, e203_118, zs0, zsI, zsL, zsR, ztl1, ztl0, zc0, zcI, zcL, zcR, true_and, and_true, true_implies, false_implies, implies_true, not_true_eq_false, not_false_eq_true, and_self, Int.toNat_natCast, Nat.reduceAdd, Nat.reduceLeDiff, Nat.reduceLT, forall_eq', Option.some.injEq, zarR, zarI, zarL, zle, zq0, zq1, zq2, zq3, zq4, zq5, zq6, zq8, zq9, zq10, zq20, zq7, zq12, zq24, zq40, zq41, zq48, zq100, zq120, zq123, zq480, zq492, zq700, zq729, zq2187, zq2916, zq8748, ne_eq, Int.reduceEq, Int.reduceLT, Int.reduceLE, Int.reduceToNat, Int.reduceMul, Int.reduceAdd, Int.reduceNeg, gk91 hg, gr91_5 hg, gr91_22 hg, gr91_23 hg, gr91_24 hg, gr91_25 hg, gr91_26 hg, gr91_27 hg, gr91_28 hg, gr91_29 hg, gr91_32 hg, gr91_33 hg, gr91_34 hg, gr91_35 hg, gr91_36 hg, gr91_37 hg, gr91_38 hg, gr91_39 hg, gr91_40 hg, gr91_41 hg, gr91_42 hg, gr91_44 hg, gr91_45 hg, gr91_46 hg, gr91_48 hg, gr91_49 hg, gr91_50 hg, gr91_51 hg, gr91_52 hg, or_true, true_or, if_true, if_false, false_and, and_false, false_or, or_false, m_isBaker hg hk, m_in, mF_z hk (show 91 < 121 by decide), mF_fr hk f1, mb, e, l, m_refused hg]
        exact K _ mEnd.1 mEnd.2.1 mEnd.2.2
    · refine PR_q (z := -1) (tr := 3) hI (by decide) ?_ ?_
      · intro Q K
        rw [r86]
        simp only [e86_0, e86_1, e86_2, e86_3, e86_6, e86_9, e86_10, e86_11, e86_12, e86_15, e86_18, e86_19, e86_22, e86_23, e86_26, e86_29, e86_30, e86_31, e86_32, e86_33, e86_34, e86_35, e86_36, e86_37, e86_40, e86_42, e86_43, e86_47, e86_48, e86_51, e86_54, e86_57, e86_58, e86_59, e86_61, e86_62, e86_65, e86_67, e86_69, e86_71, e86_72, e86_75, e86_77, e86_79, e86_81, e86_82, e86_85, e86_88, e86_89, zs0, zsI, zsL, zsR, ztl1, ztl0, zc0, zcI, zcL, zcR, true_and, and_true, true_implies, false_implies, implies_true, not_true_eq_false, not_false_eq_true, and_self, Int.toNat_natCast, Nat.reduceAdd, Nat.reduceLeDiff, Nat.reduceLT, forall_eq', Option.some.injEq, zarR, zarI, zarL, zle, zq0, zq1, zq2, zq3, zq4, zq5, zq6, zq8, zq9, zq10, zq20, zq7, zq12, zq24, zq40, zq41, zq48, zq100, zq120, zq123, zq480, zq492, zq700, zq729, zq2187, zq2916, zq8748, ne_eq, Int.reduceEq, Int.reduceLT, Int.reduceLE, Int.reduceToNat, Int.reduceMul, Int.reduceAdd, Int.reduceNeg, gk0 hg, gr0_0 hg, gr0_2 hg, gr0_3 hg, gr0_4 hg, gr0_5 hg, gr0_6 hg, gr0_7 hg, gr0_8 hg, gr0_9 hg, gr0_10 hg, or_true, true_or, if_true, if_false, false_and, and_false, false_or, or_false, f_isBaker hg, e, ca, t, zu_at]
        exact K _ cfr.z zu_at
      · intro h1 f1 Q K
        rw [r203]
        simp only [e203_0, e203_1, e203_2, e203_5, e203_6, e203_7, e203_10, e203_13, e203_14, e203_15, e203_18, e203_19, e203_20, e203_21, e203_22, e203_25, e203_28, e203_29, e203_30, e203_33, e203_34, e203_35, e203_36, zs0, zsI, zsL, zsR, ztl1, ztl0, zc0, zcI, zcL, zcR, true_and, and_true, true_implies, false_implies, implies_true, not_true_eq_false, not_false_eq_true, and_self, Int.toNat_natCast, Nat.reduceAdd, Nat.reduceLeDiff, Nat.reduceLT, forall_eq', Option.some.injEq, zarR, zarI, zarL, zle, zq0, zq1, zq2, zq3, zq4, zq5, zq6, zq8, zq9, zq10, zq20, zq7, zq12, zq24, zq40, zq41, zq48, zq100, zq120, zq123, zq480, zq492, zq700, zq729, zq2187, zq2916, zq8748, ne_eq, Int.reduceEq, Int.reduceLT, Int.reduceLE, Int.reduceToNat, Int.reduceMul, Int.reduceAdd, Int.reduceNeg, gk91 hg, gr91_5 hg, gr91_22 hg, gr91_23 hg, gr91_24 hg, gr91_25 hg, gr91_26 hg, gr91_27 hg, gr91_28 hg, gr91_29 hg, gr91_32 hg, gr91_33 hg, gr91_34 hg, gr91_35 hg, gr91_36 hg, gr91_37 hg, gr91_38 hg, gr91_39 hg, gr91_40 hg, gr91_41 hg, gr91_42 hg, gr91_44 hg, gr91_45 hg, gr91_46 hg, gr91_48 hg, gr91_49 hg, gr91_50 hg, gr91_51 hg, gr91_52 hg, hu, m_isBaker hg hk, m_in, mF_z hk (show 91 < 121 by decide), mF_fr hk f1, mb, e, l]
        have rt0 : rT (zu h1 91 0 0) u T := rT_frame rt (fun c i q => by rw [zu_c (by omega), f1 c i (Or.inl (by omega))])
        apply m_lays hg hu rt0 hw (by decide)
        intro h2 f2 V2 v19 v20 v21
        rw [aLaw_0] at V2
        have mm := fun Q' => m_much' (d := d + 12) (Q := Q') (h := h2) (m := m) hg hu V2 hw v20 v21 m3
        rw [if_pos hm] at mm
        simp only [e203_0, e203_1, e203_2, e203_5, e203_6, e203_7, e203_10, e203_13, e203_14, e203_15, e203_18, e203_19, e203_20, e203_21, e203_22, e203_25, e203_28, e203_29, e203_30, e203_33, e203_34, e203_35, e203_36, e203_39, e203_40, e203_41, e203_44, e203_47, e203_48, e203_49, e203_52, e203_53, e203_54, e203_55, e203_56, e203_57, e203_58, e203_59, e203_62, e203_64, e203_65, e203_69, e203_70, e203_73, e203_76, e203_79, e203_80, e203_81, e203_83, e203_84, e203_87, e203_89, e203_91, e203_93, e203_94, e203_97, e203_100, e203_102, e203_104, e203_106, e203_107, e203_110, e203_113, e203_114, e203_115, e203_118, zs0, zsI, zsL, zsR, ztl1, ztl0, zc0, zcI, zcL, zcR, true_and, and_true, true_implies, false_implies, implies_true, not_true_eq_false, not_false_eq_true, and_self, Int.toNat_natCast, Nat.reduceAdd, Nat.reduceLeDiff, Nat.reduceLT, forall_eq', Option.some.injEq, zarR, zarI, zarL, zle, zq0, zq1, zq2, zq3, zq4, zq5, zq6, zq8, zq9, zq10, zq20, zq7, zq12, zq24, zq40, zq41, zq48, zq100, zq120, zq123, zq480, zq492, zq700, zq729, zq2187, zq2916, zq8748, ne_eq, Int.reduceEq, Int.reduceLT, Int.reduceLE, Int.reduceToNat, Int.reduceMul, Int.reduceAdd, Int.reduceNeg, gk91 hg, gr91_5 hg, gr91_22 hg, gr91_23 hg, gr91_24 hg, gr91_25 hg, gr91_26 hg, gr91_27 hg, gr91_28 hg, gr91_29 hg, gr91_32 hg, gr91_33 hg, gr91_34 hg, gr91_35 hg, gr91_36 hg, gr91_37 hg, gr91_38 hg, gr91_39 hg, gr91_40 hg, gr91_41 hg, gr91_42 hg, gr91_44 hg, gr91_45 hg, gr91_46 hg, gr91_48 hg, gr91_49 hg, gr91_50 hg, gr91_51 hg, gr91_52 hg, or_true, true_or, if_true, if_false, false_and, and_false, false_or, or_false, mm, m_refused hg]
        exact K _ (mEnd2 (rO_lays f2)).1 (mEnd2 (rO_lays f2)).2.1 (mEnd2 (rO_lays f2)).2.2
    · obtain ⟨b, rfl⟩ := Int.eq_ofNat_of_zero_le e1
      have hb : b < nB T := by omega
      have hN := much_ok hw m1 m3 hm (acOk_all hw)
      obtain ⟨w, hwd⟩ : ∃ w : Nat → Int, w = fun o => vV (aFt T b (tr T 1 o)) (fun _ => nA T) (nn0 T) (nf0 T) m (hdC T h Y) b := ⟨_, rfl⟩
      have hwo : ∀ o, vV (aFt T b (tr T 1 o)) (fun _ => nA T) (nn0 T) (nf0 T) m (hdC T h Y) b = w o := fun o => by rw [hwd]
      refine PR_q (z := ((bX w (nB T - 1)).2 : Nat)) (tr := 0) hI (by decide) ?_ ?_
      · intro Q K
        rw [r86]
        have cw : ∀ (h1 : zM) (o : Nat) (Q' : zQ), (∀ c i, c < 46 ∨ 86 < c → h1 c i = (zu h 0 11 0) c i) → o < nB T → (∀ h2 : zM, (∀ c i, c < 46 ∨ 86 < c → h2 c i = (zu h 0 11 0) c i) → Q' (some (zL (w o))) G h2) → zRunD ztb zmt' (d + 15) 87 [zR (some 0), zI (b : Int), zI (o : Int), zI (m : Int)] G h1 Q' := by
          intro h1 o Q' f1 ho KK
          have eh : hdC T h1 Y = hdC T h Y := hdC_fr (fun i => by rw [f1 _ _ (by omega), zu_c (by decide)])
          apply c_wos (d := d + 5) (Y := Y) (B := 30100 * (Y : Int) + 29997) hg (kT_frame kt0 (fun c i q1 q2 => f1 c i (by omega))) hw m1 m3 hN (by rw [f1 _ _ (by omega), zu_c (by decide)]; exact hYe) hY (by rw [eh]; exact ok.1) (by omega) (by omega) (by rw [eh]; exact ok.2.2) hb ho
          intro h2 f2
          rw [eh, hwo]
          exact KK h2 (fun c i q => by rw [f2 c i q, f1 c i q])
        have lp : ∀ j k (h1 : zM) (l7 l8 : Option zV), k + j = nB T - 1 → (∀ c i, c < 46 ∨ 86 < c → h1 c i = (zu h 0 11 0) c i) → zE 86 (d + 15) Q 45 [some (zR (some 0)), some (zI (b : Int)), some (zI (m : Int)), some (zI ((bX w k).2 : Nat)), some (zL (bX w k).1), none, some (zI ((k + 1 : Nat) : Int)), l7, l8] [] G h1 (0, 0) := by
          intro j
          induction j with
          | zero =>
            intro k h1 l7 l8 hj f1
            have hj' : k = nB T - 1 := by omega
            have e8 : h1 18 9 = (nB T : Int) := by rw [f1 _ _ (by omega), zu_c (by decide)]; exact e9
            have c : (nB T : Int) ≤ ((k + 1 : Nat) : Int) := by omega
            rw [e86_45]
            simp only [e86_0, e86_1, e86_2, e86_3, e86_6, e86_9, e86_10, e86_11, e86_12, e86_15, e86_18, e86_19, e86_22, e86_23, e86_26, e86_29, e86_30, e86_31, e86_32, e86_33, e86_34, e86_35, e86_36, e86_37, e86_40, e86_42, e86_43, e86_47, e86_48, e86_51, e86_54, e86_57, e86_58, e86_59, e86_61, e86_62, e86_65, e86_67, e86_69, e86_71, e86_72, e86_75, e86_77, e86_79, e86_81, e86_82, e86_85, e86_88, e86_89, zs0, zsI, zsL, zsR, ztl1, ztl0, zc0, zcI, zcL, zcR, true_and, and_true, true_implies, false_implies, implies_true, not_true_eq_false, not_false_eq_true, and_self, Int.toNat_natCast, Nat.reduceAdd, Nat.reduceLeDiff, Nat.reduceLT, forall_eq', Option.some.injEq, zarR, zarI, zarL, zle, zq0, zq1, zq2, zq3, zq4, zq5, zq6, zq8, zq9, zq10, zq20, zq7, zq12, zq24, zq40, zq41, zq48, zq100, zq120, zq123, zq480, zq492, zq700, zq729, zq2187, zq2916, zq8748, ne_eq, Int.reduceEq, Int.reduceLT, Int.reduceLE, Int.reduceToNat, Int.reduceMul, Int.reduceAdd, Int.reduceNeg, gk0 hg, gr0_0 hg, gr0_2 hg, gr0_3 hg, gr0_4 hg, gr0_5 hg, gr0_6 hg, gr0_7 hg, gr0_8 hg, gr0_9 hg, gr0_10 hg, gk18 hg, gr18_0 hg, gr18_1 hg, gr18_2 hg, gr18_3 hg, gr18_4 hg, gr18_5 hg, gr18_6 hg, gr18_7 hg, gr18_8 hg, or_true, true_or, if_true, if_false, false_and, and_false, false_or, or_false, e8, c]
            rw [hj']
            exact K _ (cfr_out f1).1 (cfr_out f1).2
          | succ j ih =>
            intro k h1 l7 l8 hj f1
            have e8 : h1 18 9 = (nB T : Int) := by rw [f1 _ _ (by omega), zu_c (by decide)]; exact e9
            have c : ¬ (nB T : Int) ≤ ((k + 1 : Nat) : Int) := by omega
            rw [e86_45]
            simp only [e86_47, e86_48, e86_51, e86_54, e86_57, e86_58, e86_59, e86_61, e86_62, zs0, zsI, zsL, zsR, ztl1, ztl0, zc0, zcI, zcL, zcR, true_and, and_true, true_implies, false_implies, implies_true, not_true_eq_false, not_false_eq_true, and_self, Int.toNat_natCast, Nat.reduceAdd, Nat.reduceLeDiff, Nat.reduceLT, forall_eq', Option.some.injEq, zarR, zarI, zarL, zle, zq0, zq1, zq2, zq3, zq4, zq5, zq6, zq8, zq9, zq10, zq20, zq7, zq12, zq24, zq40, zq41, zq48, zq100, zq120, zq123, zq480, zq492, zq700, zq729, zq2187, zq2916, zq8748, ne_eq, Int.reduceEq, Int.reduceLT, Int.reduceLE, Int.reduceToNat, Int.reduceMul, Int.reduceAdd, Int.reduceNeg, gk0 hg, gr0_0 hg, gr0_2 hg, gr0_3 hg, gr0_4 hg, gr0_5 hg, gr0_6 hg, gr0_7 hg, gr0_8 hg, gr0_9 hg, gr0_10 hg, gk18 hg, gr18_0 hg, gr18_1 hg, gr18_2 hg, gr18_3 hg, gr18_4 hg, gr18_5 hg, gr18_6 hg, gr18_7 hg, gr18_8 hg, e8, c]
            apply cw h1 (k + 1) _ f1 (by omega)
            intro h2 f2
            have i2 := fun l7 l8 => ih (k + 1) h2 l7 l8 (by omega) f2
            by_cases q : (bX w k).1 < w (k + 1)
            · have q2 : ¬ zlc (w (k + 1)) (bX w k).1 ≤ 0 := by rw [zlc_le]; omega
              rw [bX, if_pos q] at i2
              simp only [e86_65, e86_67, e86_69, e86_71, e86_72, e86_75, e86_77, e86_79, e86_81, e86_82, e86_85, e86_88, e86_89, zs0, zsI, zsL, zsR, ztl1, ztl0, zc0, zcI, zcL, zcR, true_and, and_true, true_implies, false_implies, implies_true, not_true_eq_false, not_false_eq_true, and_self, Int.toNat_natCast, Nat.reduceAdd, Nat.reduceLeDiff, Nat.reduceLT, forall_eq', Option.some.injEq, zarR, zarI, zarL, zle, zq0, zq1, zq2, zq3, zq4, zq5, zq6, zq8, zq9, zq10, zq20, zq7, zq12, zq24, zq40, zq41, zq48, zq100, zq120, zq123, zq480, zq492, zq700, zq729, zq2187, zq2916, zq8748, ne_eq, Int.reduceEq, Int.reduceLT, Int.reduceLE, Int.reduceToNat, Int.reduceMul, Int.reduceAdd, Int.reduceNeg, q2, wr_s (show k + 1 < 2147483647 by omega)]
              exact i2 _ _
            · have q2 : zlc (w (k + 1)) (bX w k).1 ≤ 0 := by rw [zlc_le]; omega
              rw [bX, if_neg q] at i2
              simp only [e86_65, e86_67, e86_69, e86_71, e86_72, e86_75, e86_77, e86_79, e86_81, e86_82, e86_85, e86_88, e86_89, zs0, zsI, zsL, zsR, ztl1, ztl0, zc0, zcI, zcL, zcR, true_and, and_true, true_implies, false_implies, implies_true, not_true_eq_false, not_false_eq_true, and_self, Int.toNat_natCast, Nat.reduceAdd, Nat.reduceLeDiff, Nat.reduceLT, forall_eq', Option.some.injEq, zarR, zarI, zarL, zle, zq0, zq1, zq2, zq3, zq4, zq5, zq6, zq8, zq9, zq10, zq20, zq7, zq12, zq24, zq40, zq41, zq48, zq100, zq120, zq123, zq480, zq492, zq700, zq729, zq2187, zq2916, zq8748, ne_eq, Int.reduceEq, Int.reduceLT, Int.reduceLE, Int.reduceToNat, Int.reduceMul, Int.reduceAdd, Int.reduceNeg, q2, wr_s (show k + 1 < 2147483647 by omega)]
              exact i2 _ _
        simp only [e86_0, e86_1, e86_2, e86_3, e86_6, e86_9, e86_10, e86_11, e86_12, e86_15, e86_18, e86_19, e86_22, e86_23, e86_26, e86_29, e86_30, e86_31, e86_32, e86_33, e86_34, e86_35, e86_36, e86_37, zs0, zsI, zsL, zsR, ztl1, ztl0, zc0, zcI, zcL, zcR, true_and, and_true, true_implies, false_implies, implies_true, not_true_eq_false, not_false_eq_true, and_self, Int.toNat_natCast, Nat.reduceAdd, Nat.reduceLeDiff, Nat.reduceLT, forall_eq', Option.some.injEq, zarR, zarI, zarL, zle, zq0, zq1, zq2, zq3, zq4, zq5, zq6, zq8, zq9, zq10, zq20, zq7, zq12, zq24, zq40, zq41, zq48, zq100, zq120, zq123, zq480, zq492, zq700, zq729, zq2187, zq2916, zq8748, ne_eq, Int.reduceEq, Int.reduceLT, Int.reduceLE, Int.reduceToNat, Int.reduceMul, Int.reduceAdd, Int.reduceNeg, gk0 hg, gr0_0 hg, gr0_2 hg, gr0_3 hg, gr0_4 hg, gr0_5 hg, gr0_6 hg, gr0_7 hg, gr0_8 hg, gr0_9 hg, gr0_10 hg, f_isBaker hg, e, ca, t, zu_at]
        have cw0 := cw (zu h 0 11 0) 0
        rw [zq0] at cw0
        apply cw0 _ (fun _ _ _ => rfl) (by omega)
        intro h2 f2
        simp only [e86_40, e86_42, e86_43, e86_47, e86_48, e86_51, e86_54, e86_57, e86_58, e86_59, e86_61, e86_62, e86_65, e86_67, e86_69, e86_71, e86_72, e86_75, e86_77, e86_79, e86_81, e86_82, e86_85, e86_88, e86_89, zs0, zsI, zsL, zsR, ztl1, ztl0, zc0, zcI, zcL, zcR, true_and, and_true, true_implies, false_implies, implies_true, not_true_eq_false, not_false_eq_true, and_self, Int.toNat_natCast, Nat.reduceAdd, Nat.reduceLeDiff, Nat.reduceLT, forall_eq', Option.some.injEq, zarR, zarI, zarL, zle, zq0, zq1, zq2, zq3, zq4, zq5, zq6, zq8, zq9, zq10, zq20, zq7, zq12, zq24, zq40, zq41, zq48, zq100, zq120, zq123, zq480, zq492, zq700, zq729, zq2187, zq2916, zq8748, ne_eq, Int.reduceEq, Int.reduceLT, Int.reduceLE, Int.reduceToNat, Int.reduceMul, Int.reduceAdd, Int.reduceNeg]
        have l0 := fun l7 l8 => lp (nB T - 1) 0 h2 l7 l8 (by omega) f2
        simp only [bX, zq0, Nat.zero_add, zq1] at l0
        exact l0 _ _
      · intro h1 f1 Q K
        rw [r203]
        have fz : ∀ c i, 91 ≤ c → h1 c i = h c i := fun c i q => f1 c i (Or.inl q)
        have rt0 : rT (zu h1 91 0 0) u T := rT_frame rt (fun c i q => by rw [zu_c (by omega), fz c i (by omega)])
        simp only [e203_0, e203_1, e203_2, e203_5, e203_6, e203_7, e203_10, e203_13, e203_14, e203_15, e203_18, e203_19, e203_20, e203_21, e203_22, e203_25, e203_28, e203_29, e203_30, e203_33, e203_34, e203_35, e203_36, zs0, zsI, zsL, zsR, ztl1, ztl0, zc0, zcI, zcL, zcR, true_and, and_true, true_implies, false_implies, implies_true, not_true_eq_false, not_false_eq_true, and_self, Int.toNat_natCast, Nat.reduceAdd, Nat.reduceLeDiff, Nat.reduceLT, forall_eq', Option.some.injEq, zarR, zarI, zarL, zle, zq0, zq1, zq2, zq3, zq4, zq5, zq6, zq8, zq9, zq10, zq20, zq7, zq12, zq24, zq40, zq41, zq48, zq100, zq120, zq123, zq480, zq492, zq700, zq729, zq2187, zq2916, zq8748, ne_eq, Int.reduceEq, Int.reduceLT, Int.reduceLE, Int.reduceToNat, Int.reduceMul, Int.reduceAdd, Int.reduceNeg, gk91 hg, gr91_5 hg, gr91_22 hg, gr91_23 hg, gr91_24 hg, gr91_25 hg, gr91_26 hg, gr91_27 hg, gr91_28 hg, gr91_29 hg, gr91_32 hg, gr91_33 hg, gr91_34 hg, gr91_35 hg, gr91_36 hg, gr91_37 hg, gr91_38 hg, gr91_39 hg, gr91_40 hg, gr91_41 hg, gr91_42 hg, gr91_44 hg, gr91_45 hg, gr91_46 hg, gr91_48 hg, gr91_49 hg, gr91_50 hg, gr91_51 hg, gr91_52 hg, hu, m_isBaker hg hk, m_in, mF_z hk (show 91 < 121 by decide), mF_fr hk f1, mb, e, l]
        apply m_lays hg hu rt0 hw (by decide)
        intro h2 f2 V2 v19 v20 v21
        rw [aLaw_0] at V2
        have mm := fun Q' => m_much' (d := d + 12) (Q := Q') (h := h2) (m := m) hg hu V2 hw v20 v21 m3
        rw [if_neg (by omega)] at mm
        have rt2 : rT h2 u T := rT_frame rt0 (fun c i q => f2 c i (by omega) (by omega))
        have cw : ∀ (h3 : zM) (o : Nat) (Q' : zQ), rO h2 h3 → o < nB T → (∀ h4 : zM, rO h2 h4 → Q' (some (zL (w o))) G h4) → zRunD ztb zmt' (d + 15) 201 [zR (some 91), zI (b : Int), zI (o : Int), zI (m : Int)] G h3 Q' := by
          intro h3 o Q' f3 ho KK
          apply m_shaped (d := d + 1) (hd := hdC T h Y) (B := 30100 * (Y : Int) + 29997) hg hu (rT_frame rt2 (fun c i q => f3 c i (by omega))) hw m1 m3 ok.1 (by omega) (by omega) ok.2.2 (hd_101 hw i4 (fun i => by rw [f3 _ _ (by omega), f2 _ _ (by omega) (by omega), zu_c (by decide), fz _ _ (by omega)])) hb ho
          intro h4 f4
          rw [hwo]
          exact KK h4 (f3.tr f4)
        have lp : ∀ j k (h3 : zM) (l7 l8 : Option zV), k + j = nB T - 1 → rO h2 h3 → zE 203 (d + 15) Q 67 [some (zR (some 91)), some (zI (b : Int)), some (zI (m : Int)), some (zI ((bX w k).2 : Nat)), some (zL (bX w k).1), none, some (zI ((k + 1 : Nat) : Int)), l7, l8] [] G h3 (0, 0) := by
          intro j
          induction j with
          | zero =>
            intro k h3 l7 l8 hj f3
            have hj' : k = nB T - 1 := by omega
            have e8 : h3 u 0 = (nB T : Int) := by rw [f3 _ _ (by omega)]; exact rt2.1
            have c : (nB T : Int) ≤ ((k + 1 : Nat) : Int) := by omega
            rw [e203_67]
            simp only [e203_0, e203_1, e203_2, e203_5, e203_6, e203_7, e203_10, e203_13, e203_14, e203_15, e203_18, e203_19, e203_20, e203_21, e203_22, e203_25, e203_28, e203_29, e203_30, e203_33, e203_34, e203_35, e203_36, e203_39, e203_40, e203_41, e203_44, e203_47, e203_48, e203_49, e203_52, e203_53, e203_54, e203_55, e203_56, e203_57, e203_58, e203_59, e203_62, e203_64, e203_65, e203_69, e203_70, e203_73, e203_76, e203_79, e203_80, e203_81, e203_83, e203_84, e203_87, e203_89, e203_91, e203_93, e203_94, e203_97, e203_100, e203_102, e203_104, e203_106, e203_107, e203_110, e203_113, e203_114, e203_115, e203_118, zs0, zsI, zsL, zsR, ztl1, ztl0, zc0, zcI, zcL, zcR, true_and, and_true, true_implies, false_implies, implies_true, not_true_eq_false, not_false_eq_true, and_self, Int.toNat_natCast, Nat.reduceAdd, Nat.reduceLeDiff, Nat.reduceLT, forall_eq', Option.some.injEq, zarR, zarI, zarL, zle, zq0, zq1, zq2, zq3, zq4, zq5, zq6, zq8, zq9, zq10, zq20, zq7, zq12, zq24, zq40, zq41, zq48, zq100, zq120, zq123, zq480, zq492, zq700, zq729, zq2187, zq2916, zq8748, ne_eq, Int.reduceEq, Int.reduceLT, Int.reduceLE, Int.reduceToNat, Int.reduceMul, Int.reduceAdd, Int.reduceNeg, gk91 hg, gr91_5 hg, gr91_22 hg, gr91_23 hg, gr91_24 hg, gr91_25 hg, gr91_26 hg, gr91_27 hg, gr91_28 hg, gr91_29 hg, gr91_32 hg, gr91_33 hg, gr91_34 hg, gr91_35 hg, gr91_36 hg, gr91_37 hg, gr91_38 hg, gr91_39 hg, gr91_40 hg, gr91_41 hg, gr91_42 hg, gr91_44 hg, gr91_45 hg, gr91_46 hg, gr91_48 hg, gr91_49 hg, gr91_50 hg, gr91_51 hg, gr91_52 hg, or_true, true_or, if_true, if_false, false_and, and_false, false_or, or_false, hu, e8, c, m_done hg]
            rw [hj']
            exact K _ (mEnd2 ((rO_lays f2).tr f3)).1 (mEnd2 ((rO_lays f2).tr f3)).2.1 (mEnd2 ((rO_lays f2).tr f3)).2.2
          | succ j ih =>
            intro k h3 l7 l8 hj f3
            have e8 : h3 u 0 = (nB T : Int) := by rw [f3 _ _ (by omega)]; exact rt2.1
            have c : ¬ (nB T : Int) ≤ ((k + 1 : Nat) : Int) := by omega
            rw [e203_67]
            simp only [e203_69, e203_70, e203_73, e203_76, e203_79, e203_80, e203_81, e203_83, e203_84, zs0, zsI, zsL, zsR, ztl1, ztl0, zc0, zcI, zcL, zcR, true_and, and_true, true_implies, false_implies, implies_true, not_true_eq_false, not_false_eq_true, and_self, Int.toNat_natCast, Nat.reduceAdd, Nat.reduceLeDiff, Nat.reduceLT, forall_eq', Option.some.injEq, zarR, zarI, zarL, zle, zq0, zq1, zq2, zq3, zq4, zq5, zq6, zq8, zq9, zq10, zq20, zq7, zq12, zq24, zq40, zq41, zq48, zq100, zq120, zq123, zq480, zq492, zq700, zq729, zq2187, zq2916, zq8748, ne_eq, Int.reduceEq, Int.reduceLT, Int.reduceLE, Int.reduceToNat, Int.reduceMul, Int.reduceAdd, Int.reduceNeg, gk91 hg, gr91_5 hg, gr91_22 hg, gr91_23 hg, gr91_24 hg, gr91_25 hg, gr91_26 hg, gr91_27 hg, gr91_28 hg, gr91_29 hg, gr91_32 hg, gr91_33 hg, gr91_34 hg, gr91_35 hg, gr91_36 hg, gr91_37 hg, gr91_38 hg, gr91_39 hg, gr91_40 hg, gr91_41 hg, gr91_42 hg, gr91_44 hg, gr91_45 hg, gr91_46 hg, gr91_48 hg, gr91_49 hg, gr91_50 hg, gr91_51 hg, gr91_52 hg, hu, e8, c]
            apply cw h3 (k + 1) _ f3 (by omega)
            intro h4 f4
            have i2 := fun l7 l8 => ih (k + 1) h4 l7 l8 (by omega) f4
            by_cases q : (bX w k).1 < w (k + 1)
            · have q2 : 0 < zlc (w (k + 1)) (bX w k).1 := by rw [zlc_gt]; omega
              rw [bX, if_pos q] at i2
              simp only [e203_87, e203_89, e203_91, e203_93, e203_94, e203_97, e203_100, e203_102, e203_104, e203_106, e203_107, e203_110, e203_113, e203_114, e203_115, e203_118, zs0, zsI, zsL, zsR, ztl1, ztl0, zc0, zcI, zcL, zcR, true_and, and_true, true_implies, false_implies, implies_true, not_true_eq_false, not_false_eq_true, and_self, Int.toNat_natCast, Nat.reduceAdd, Nat.reduceLeDiff, Nat.reduceLT, forall_eq', Option.some.injEq, zarR, zarI, zarL, zle, zq0, zq1, zq2, zq3, zq4, zq5, zq6, zq8, zq9, zq10, zq20, zq7, zq12, zq24, zq40, zq41, zq48, zq100, zq120, zq123, zq480, zq492, zq700, zq729, zq2187, zq2916, zq8748, ne_eq, Int.reduceEq, Int.reduceLT, Int.reduceLE, Int.reduceToNat, Int.reduceMul, Int.reduceAdd, Int.reduceNeg, q2, wr_s (show k + 1 < 2147483647 by omega)]
              exact i2 _ _
            · have q2 : ¬ 0 < zlc (w (k + 1)) (bX w k).1 := by rw [zlc_gt]; omega
              rw [bX, if_neg q] at i2
              simp only [e203_87, e203_89, e203_91, e203_93, e203_94, e203_97, e203_100, e203_102, e203_104, e203_106, e203_107, e203_110, e203_113, e203_114, e203_115, e203_118, zs0, zsI, zsL, zsR, ztl1, ztl0, zc0, zcI, zcL, zcR, true_and, and_true, true_implies, false_implies, implies_true, not_true_eq_false, not_false_eq_true, and_self, Int.toNat_natCast, Nat.reduceAdd, Nat.reduceLeDiff, Nat.reduceLT, forall_eq', Option.some.injEq, zarR, zarI, zarL, zle, zq0, zq1, zq2, zq3, zq4, zq5, zq6, zq8, zq9, zq10, zq20, zq7, zq12, zq24, zq40, zq41, zq48, zq100, zq120, zq123, zq480, zq492, zq700, zq729, zq2187, zq2916, zq8748, ne_eq, Int.reduceEq, Int.reduceLT, Int.reduceLE, Int.reduceToNat, Int.reduceMul, Int.reduceAdd, Int.reduceNeg, q2, wr_s (show k + 1 < 2147483647 by omega)]
              exact i2 _ _
        simp only [e203_39, e203_40, e203_41, e203_44, e203_47, e203_48, e203_49, e203_52, e203_53, e203_54, e203_55, e203_56, e203_57, e203_58, e203_59, zs0, zsI, zsL, zsR, ztl1, ztl0, zc0, zcI, zcL, zcR, true_and, and_true, true_implies, false_implies, implies_true, not_true_eq_false, not_false_eq_true, and_self, Int.toNat_natCast, Nat.reduceAdd, Nat.reduceLeDiff, Nat.reduceLT, forall_eq', Option.some.injEq, zarR, zarI, zarL, zle, zq0, zq1, zq2, zq3, zq4, zq5, zq6, zq8, zq9, zq10, zq20, zq7, zq12, zq24, zq40, zq41, zq48, zq100, zq120, zq123, zq480, zq492, zq700, zq729, zq2187, zq2916, zq8748, ne_eq, Int.reduceEq, Int.reduceLT, Int.reduceLE, Int.reduceToNat, Int.reduceMul, Int.reduceAdd, Int.reduceNeg, gk91 hg, gr91_5 hg, gr91_22 hg, gr91_23 hg, gr91_24 hg, gr91_25 hg, gr91_26 hg, gr91_27 hg, gr91_28 hg, gr91_29 hg, gr91_32 hg, gr91_33 hg, gr91_34 hg, gr91_35 hg, gr91_36 hg, gr91_37 hg, gr91_38 hg, gr91_39 hg, gr91_40 hg, gr91_41 hg, gr91_42 hg, gr91_44 hg, gr91_45 hg, gr91_46 hg, gr91_48 hg, gr91_49 hg, gr91_50 hg, gr91_51 hg, gr91_52 hg, mm]
        have cw0 := cw h2 0
        rw [zq0] at cw0
        apply cw0 _ (fun _ _ _ => rfl) (by omega)
        intro h4 f4
        simp only [e203_62, e203_64, e203_65, e203_69, e203_70, e203_73, e203_76, e203_79, e203_80, e203_81, e203_83, e203_84, e203_87, e203_89, e203_91, e203_93, e203_94, e203_97, e203_100, e203_102, e203_104, e203_106, e203_107, e203_110, e203_113, e203_114, e203_115, e203_118, zs0, zsI, zsL, zsR, ztl1, ztl0, zc0, zcI, zcL, zcR, true_and, and_true, true_implies, false_implies, implies_true, not_true_eq_false, not_false_eq_true, and_self, Int.toNat_natCast, Nat.reduceAdd, Nat.reduceLeDiff, Nat.reduceLT, forall_eq', Option.some.injEq, zarR, zarI, zarL, zle, zq0, zq1, zq2, zq3, zq4, zq5, zq6, zq8, zq9, zq10, zq20, zq7, zq12, zq24, zq40, zq41, zq48, zq100, zq120, zq123, zq480, zq492, zq700, zq729, zq2187, zq2916, zq8748, ne_eq, Int.reduceEq, Int.reduceLT, Int.reduceLE, Int.reduceToNat, Int.reduceMul, Int.reduceAdd, Int.reduceNeg]
        have l0 := fun l7 l8 => lp (nB T - 1) 0 h4 l7 l8 (by omega) f4
        simp only [bX, zq0, Nat.zero_add, zq1] at l0
        exact l0 _ _
  · refine PR_q (z := -1) (tr := 1) hI (by decide) ?_ ?_
    · intro Q K
      rw [r86]
      simp only [e86_0, e86_1, e86_2, e86_3, e86_6, e86_9, e86_10, e86_11, e86_12, e86_15, e86_18, e86_19, e86_22, e86_23, e86_26, e86_29, e86_30, e86_31, e86_32, e86_33, e86_34, e86_35, e86_36, e86_37, e86_40, e86_42, e86_43, e86_47, e86_48, e86_51, e86_54, e86_57, e86_58, e86_59, e86_61, e86_62, e86_65, e86_67, e86_69, e86_71, e86_72, e86_75, e86_77, e86_79, e86_81, e86_82, e86_85, e86_88, e86_89, zs0, zsI, zsL, zsR, ztl1, ztl0, zc0, zcI, zcL, zcR, true_and, and_true, true_implies, false_implies, implies_true, not_true_eq_false, not_false_eq_true, and_self, Int.toNat_natCast, Nat.reduceAdd, Nat.reduceLeDiff, Nat.reduceLT, forall_eq', Option.some.injEq, zarR, zarI, zarL, zle, zq0, zq1, zq2, zq3, zq4, zq5, zq6, zq8, zq9, zq10, zq20, zq7, zq12, zq24, zq40, zq41, zq48, zq100, zq120, zq123, zq480, zq492, zq700, zq729, zq2187, zq2916, zq8748, ne_eq, Int.reduceEq, Int.reduceLT, Int.reduceLE, Int.reduceToNat, Int.reduceMul, Int.reduceAdd, Int.reduceNeg, gk0 hg, gr0_0 hg, gr0_2 hg, gr0_3 hg, gr0_4 hg, gr0_5 hg, gr0_6 hg, gr0_7 hg, gr0_8 hg, gr0_9 hg, gr0_10 hg, or_true, true_or, if_true, if_false, false_and, and_false, false_or, or_false, f_isBaker hg, e, zu_at]
      exact K _ cfr.z zu_at
    · intro h1 f1 Q K
      rw [r203]
      simp only [e203_0, e203_1, e203_2, e203_5, e203_6, e203_7, e203_10, e203_13, e203_14, e203_15, e203_18, e203_19, e203_20, e203_21, e203_22, e203_25, e203_28, e203_29, e203_30, e203_33, e203_34, e203_35, e203_36, e203_39, e203_40, e203_41, e203_44, e203_47, e203_48, e203_49, e203_52, e203_53, e203_54, e203_55, e203_56, e203_57, e203_58, e203_59, e203_62, e203_64, e203_65, e203_69, e203_70, e203_73, e203_76, e203_79, e203_80, e203_81, e203_83, e203_84, e203_87, e203_89, e203_91, e203_93, e203_94, e203_97, e203_100, e203_102, e203_104, e203_106, e203_107, e203_110, e203_113, e203_114, e203_115, e203_118, zs0, zsI, zsL, zsR, ztl1, ztl0, zc0, zcI, zcL, zcR, true_and, and_true, true_implies, false_implies, implies_true, not_true_eq_false, not_false_eq_true, and_self, Int.toNat_natCast, Nat.reduceAdd, Nat.reduceLeDiff, Nat.reduceLT, forall_eq', Option.some.injEq, zarR, zarI, zarL, zle, zq0, zq1, zq2, zq3, zq4, zq5, zq6, zq8, zq9, zq10, zq20, zq7, zq12, zq24, zq40, zq41, zq48, zq100, zq120, zq123, zq480, zq492, zq700, zq729, zq2187, zq2916, zq8748, ne_eq, Int.reduceEq, Int.reduceLT, Int.reduceLE, Int.reduceToNat, Int.reduceMul, Int.reduceAdd, Int.reduceNeg, gk91 hg, gr91_5 hg, gr91_22 hg, gr91_23 hg, gr91_24 hg, gr91_25 hg, gr91_26 hg, gr91_27 hg, gr91_28 hg, gr91_29 hg, gr91_32 hg, gr91_33 hg, gr91_34 hg, gr91_35 hg, gr91_36 hg, gr91_37 hg, gr91_38 hg, gr91_39 hg, gr91_40 hg, gr91_41 hg, gr91_42 hg, gr91_44 hg, gr91_45 hg, gr91_46 hg, gr91_48 hg, gr91_49 hg, gr91_50 hg, gr91_51 hg, gr91_52 hg, or_true, true_or, if_true, if_false, false_and, and_false, false_or, or_false, m_isBaker hg hk, mF_z hk (show 91 < 121 by decide), mF_fr hk f1, mb, e, m_refused hg]
      exact K _ mEnd.1 mEnd.2.1 mEnd.2.2
theorem p_late (hI : INV G h) : PR zI d 88 204 [zI x, zI y] G h := by
  have hg := hI.1
  have hk := INV_gK hI
  obtain ⟨mb, ms⟩ := INV_mF hI
  rcases rng_c 0 (h 18 9) x with ⟨e, e1, e2⟩ | ⟨e, e2⟩
  · obtain ⟨u, T, Y, hu, hu2, hw, kt, rt, i4, i5⟩ := INV_T hI (by omega)
    have u1 := hu.1
    have n9 : ¬ u = 91 := by omega
    have hY := i4.1.1
    have hYe := i4.1.2.1
    have hb3 := hw.1
    have hs4 := hw.2.1
    have hp3 := hw.2.2.1
    have e9 := kt.1
    have kt0 : kT (zu h 0 11 0) 18 T := kT_frame kt (fun c i q1 q2 => zu_c (by omega))
    have ok := I4_pOk i4
    have ca := fun Q' => c_ahead (d := d + 13) (Q := Q') (h := h) (n := y) (law := 0) hg kt hw
    have tc := tA_c T y 0
    rw [aLaw_0] at tc
    rcases tc with ⟨t, l⟩ | ⟨t, l, m, rfl, m1, m3, hm⟩ | ⟨t, l, m, rfl, m1, m3, hm⟩
    · refine PR_q (z := -1) (tr := 2) hI (by decide) ?_ ?_
      · intro Q K
        rw [r88]
        simp only [e88_0, e88_1, e88_2, e88_3, e88_6, e88_9, e88_10, e88_11, e88_12, e88_15, e88_18, e88_19, e88_22, e88_23, e88_26, e88_29, e88_30, e88_31, e88_32, e88_33, e88_34, e88_37, e88_38, e88_40, e88_41, e88_44, e88_45, e88_48, e88_51, e88_52, e88_53, e88_54, e88_55, e88_56, e88_57, e88_58, e88_59, e88_60, e88_63, e88_66, e88_67, e88_68, e88_69, e88_72, e88_73, e88_76, e88_79, e88_80, e88_81, e88_82, e88_83, e88_86, e88_87, e88_90, e88_91, zs0, zsI, zsL, zsR, ztl1, ztl0, zc0, zcI, zcL, zcR, true_and, and_true, true_implies, false_implies, implies_true, not_true_eq_false, not_false_eq_true, and_self, Int.toNat_natCast, Nat.reduceAdd, Nat.reduceLeDiff, Nat.reduceLT, forall_eq', Option.some.injEq, zarR, zarI, zarL, zle, zq0, zq1, zq2, zq3, zq4, zq5, zq6, zq8, zq9, zq10, zq20, zq7, zq12, zq24, zq40, zq41, zq48, zq100, zq120, zq123, zq480, zq492, zq700, zq729, zq2187, zq2916, zq8748, ne_eq, Int.reduceEq, Int.reduceLT, Int.reduceLE, Int.reduceToNat, Int.reduceMul, Int.reduceAdd, Int.reduceNeg, gk0 hg, gr0_0 hg, gr0_2 hg, gr0_3 hg, gr0_4 hg, gr0_5 hg, gr0_6 hg, gr0_7 hg, gr0_8 hg, gr0_9 hg, gr0_10 hg, or_true, true_or, if_true, if_false, false_and, and_false, false_or, or_false, f_isBaker hg, e, ca, t, zu_at]
        exact K _ cfr.z zu_at
      · intro h1 f1 Q K
        rw [r204]
        simp only [e204_0, e204_1, e204_2, e204_5, e204_6, e204_7, e204_10, e204_13, e204_14, e204_15, e204_18, e204_19, e204_20, e204_21, e204_22, e204_25, e204_28, e204_29, e204_30, e204_33, e204_34, e204_35, e204_36, e204_39, e204_40, e204_41, e204_44, e204_47, e204_48, e204_49, e204_52, e204_53, e204_54, e204_55, e204_58, e204_59, e204_61, e204_62, e204_65, e204_66, e204_69, e204_71, e204_72, e204_73, e204_74, e204_75, e204_78, e204_79, e204_80, e204_81, e204_84, e204_87, e204_88, e204_89, e204_90, e204_91, e204_94, e204_95, e204_98, e204_101, e204_102, e204_103, e204_104, e204_105, e204_108, e204_109, e204_112, e204_113, e204_116, zs0, zsI, zsL, zsR, ztl1, ztl0, zc0, zcI, zcL, zcR, true_and, and_true, true_implies, false_implies, implies_true, not_true_eq_false, not_false_eq_true, and_self, Int.toNat_natCast, Nat.reduceAdd, Nat.reduceLeDiff, Nat.reduceLT, forall_eq', Option.some.injEq, zarR, zarI, zarL, zle, zq0, zq1, zq2, zq3, zq4, zq5, zq6, zq8, zq9, zq10, zq20, zq7, zq12, zq24, zq40, zq41, zq48, zq100, zq120, zq123, zq480, zq492, zq700, zq729, zq2187, zq2916, zq8748, ne_eq, Int.reduceEq, Int.reduceLT, Int.reduceLE, Int.reduceToNat, Int.reduceMul, Int.reduceAdd, Int.reduceNeg, gk91 hg, gr91_5 hg, gr91_22 hg, gr91_23 hg, gr91_24 hg, gr91_25 hg, gr91_26 hg, gr91_27 hg, gr91_28 hg, gr91_29 hg, gr91_32 hg, gr91_33 hg, gr91_34 hg, gr91_35 hg, gr91_36 hg, gr91_37 hg, gr91_38 hg, gr91_39 hg, gr91_40 hg, gr91_41 hg, gr91_42 hg, gr91_44 hg, gr91_45 hg, gr91_46 hg, gr91_48 hg, gr91_49 hg, gr91_50 hg, gr91_51 hg, gr91_52 hg, or_true, true_or, if_true, if_false, false_and, and_false, false_or, or_false, m_isBaker hg hk, m_in, mF_z hk (show 91 < 121 by decide), mF_fr hk f1, mb, e, l, m_refused hg]
        exact K _ mEnd.1 mEnd.2.1 mEnd.2.2
    · refine PR_q (z := -1) (tr := 3) hI (by decide) ?_ ?_
      · intro Q K
        rw [r88]
        simp only [e88_0, e88_1, e88_2, e88_3, e88_6, e88_9, e88_10, e88_11, e88_12, e88_15, e88_18, e88_19, e88_22, e88_23, e88_26, e88_29, e88_30, e88_31, e88_32, e88_33, e88_34, e88_37, e88_38, e88_40, e88_41, e88_44, e88_45, e88_48, e88_51, e88_52, e88_53, e88_54, e88_55, e88_56, e88_57, e88_58, e88_59, e88_60, e88_63, e88_66, e88_67, e88_68, e88_69, e88_72, e88_73, e88_76, e88_79, e88_80, e88_81, e88_82, e88_83, e88_86, e88_87, e88_90, e88_91, zs0, zsI, zsL, zsR, ztl1, ztl0, zc0, zcI, zcL, zcR, true_and, and_true, true_implies, false_implies, implies_true, not_true_eq_false, not_false_eq_true, and_self, Int.toNat_natCast, Nat.reduceAdd, Nat.reduceLeDiff, Nat.reduceLT, forall_eq', Option.some.injEq, zarR, zarI, zarL, zle, zq0, zq1, zq2, zq3, zq4, zq5, zq6, zq8, zq9, zq10, zq20, zq7, zq12, zq24, zq40, zq41, zq48, zq100, zq120, zq123, zq480, zq492, zq700, zq729, zq2187, zq2916, zq8748, ne_eq, Int.reduceEq, Int.reduceLT, Int.reduceLE, Int.reduceToNat, Int.reduceMul, Int.reduceAdd, Int.reduceNeg, gk0 hg, gr0_0 hg, gr0_2 hg, gr0_3 hg, gr0_4 hg, gr0_5 hg, gr0_6 hg, gr0_7 hg, gr0_8 hg, gr0_9 hg, gr0_10 hg, or_true, true_or, if_true, if_false, false_and, and_false, false_or, or_false, f_isBaker hg, e, ca, t, zu_at]
        exact K _ cfr.z zu_at
      · intro h1 f1 Q K
        rw [r204]
        simp only [e204_0, e204_1, e204_2, e204_5, e204_6, e204_7, e204_10, e204_13, e204_14, e204_15, e204_18, e204_19, e204_20, e204_21, e204_22, e204_25, e204_28, e204_29, e204_30, e204_33, e204_34, e204_35, e204_36, zs0, zsI, zsL, zsR, ztl1, ztl0, zc0, zcI, zcL, zcR, true_and, and_true, true_implies, false_implies, implies_true, not_true_eq_false, not_false_eq_true, and_self, Int.toNat_natCast, Nat.reduceAdd, Nat.reduceLeDiff, Nat.reduceLT, forall_eq', Option.some.injEq, zarR, zarI, zarL, zle, zq0, zq1, zq2, zq3, zq4, zq5, zq6, zq8, zq9, zq10, zq20, zq7, zq12, zq24, zq40, zq41, zq48, zq100, zq120, zq123, zq480, zq492, zq700, zq729, zq2187, zq2916, zq8748, ne_eq, Int.reduceEq, Int.reduceLT, Int.reduceLE, Int.reduceToNat, Int.reduceMul, Int.reduceAdd, Int.reduceNeg, gk91 hg, gr91_5 hg, gr91_22 hg, gr91_23 hg, gr91_24 hg, gr91_25 hg, gr91_26 hg, gr91_27 hg, gr91_28 hg, gr91_29 hg, gr91_32 hg, gr91_33 hg, gr91_34 hg, gr91_35 hg, gr91_36 hg, gr91_37 hg, gr91_38 hg, gr91_39 hg, gr91_40 hg, gr91_41 hg, gr91_42 hg, gr91_44 hg, gr91_45 hg, gr91_46 hg, gr91_48 hg, gr91_49 hg, gr91_50 hg, gr91_51 hg, gr91_52 hg, hu, m_isBaker hg hk, m_in, mF_z hk (show 91 < 121 by decide), mF_fr hk f1, mb, e, l]
        have rt0 : rT (zu h1 91 0 0) u T := rT_frame rt (fun c i q => by rw [zu_c (by omega), f1 c i (Or.inl (by omega))])
        apply m_lays hg hu rt0 hw (by decide)
        intro h2 f2 V2 v19 v20 v21
        rw [aLaw_0] at V2
        have mm := fun Q' => m_much' (d := d + 12) (Q := Q') (h := h2) (m := m) hg hu V2 hw v20 v21 m3
        rw [if_pos hm] at mm
        simp only [e204_0, e204_1, e204_2, e204_5, e204_6, e204_7, e204_10, e204_13, e204_14, e204_15, e204_18, e204_19, e204_20, e204_21, e204_22, e204_25, e204_28, e204_29, e204_30, e204_33, e204_34, e204_35, e204_36, e204_39, e204_40, e204_41, e204_44, e204_47, e204_48, e204_49, e204_52, e204_53, e204_54, e204_55, e204_58, e204_59, e204_61, e204_62, e204_65, e204_66, e204_69, e204_71, e204_72, e204_73, e204_74, e204_75, e204_78, e204_79, e204_80, e204_81, e204_84, e204_87, e204_88, e204_89, e204_90, e204_91, e204_94, e204_95, e204_98, e204_101, e204_102, e204_103, e204_104, e204_105, e204_108, e204_109, e204_112, e204_113, e204_116, zs0, zsI, zsL, zsR, ztl1, ztl0, zc0, zcI, zcL, zcR, true_and, and_true, true_implies, false_implies, implies_true, not_true_eq_false, not_false_eq_true, and_self, Int.toNat_natCast, Nat.reduceAdd, Nat.reduceLeDiff, Nat.reduceLT, forall_eq', Option.some.injEq, zarR, zarI, zarL, zle, zq0, zq1, zq2, zq3, zq4, zq5, zq6, zq8, zq9, zq10, zq20, zq7, zq12, zq24, zq40, zq41, zq48, zq100, zq120, zq123, zq480, zq492, zq700, zq729, zq2187, zq2916, zq8748, ne_eq, Int.reduceEq, Int.reduceLT, Int.reduceLE, Int.reduceToNat, Int.reduceMul, Int.reduceAdd, Int.reduceNeg, gk91 hg, gr91_5 hg, gr91_22 hg, gr91_23 hg, gr91_24 hg, gr91_25 hg, gr91_26 hg, gr91_27 hg, gr91_28 hg, gr91_29 hg, gr91_32 hg, gr91_33 hg, gr91_34 hg, gr91_35 hg, gr91_36 hg, gr91_37 hg, gr91_38 hg, gr91_39 hg, gr91_40 hg, gr91_41 hg, gr91_42 hg, gr91_44 hg, gr91_45 hg, gr91_46 hg, gr91_48 hg, gr91_49 hg, gr91_50 hg, gr91_51 hg, gr91_52 hg, or_true, true_or, if_true, if_false, false_and, and_false, false_or, or_false, mm, m_refused hg]
        exact K _ (mEnd2 (rO_lays f2)).1 (mEnd2 (rO_lays f2)).2.1 (mEnd2 (rO_lays f2)).2.2
    · obtain ⟨b, rfl⟩ := Int.eq_ofNat_of_zero_le e1
      have hb : b < nB T := by omega
      have b3 : (b : Int) < 3 := by omega
      have hN := much_ok hw m1 m3 hm (acOk_all hw)
      have m4 : (m : Int) < 4 := by omega
      have okL := hdL_B ok.1 b
      have okL2 : nB T = 2 → ∀ s, hdL (hdC T h Y) b s 2 = 0 := fun q s => by
        unfold hdL
        split
        · rfl
        · exact ok.2.2 q s
      have b2 := (hw.2.2.2.2.2 b).2.2.1
      have e2' := kt.2.2.2.2.2.2.2.1 b hb
      have r2' := rt.2.2.2.2.2.2.2.1 b hb
      refine PR_q (z := if vV T (fun _ => nA T) (nn0 T) (nf0 T) m (hdL (hdC T h Y) b) b < tr T 2 b then 0 else 1) (tr := 0) hI (by decide) ?_ ?_
      · intro Q K
        rw [r88]
        simp only [e88_0, e88_1, e88_2, e88_3, e88_6, e88_9, e88_10, e88_11, e88_12, e88_15, e88_18, e88_19, e88_22, e88_23, e88_26, e88_29, e88_30, e88_31, e88_32, e88_33, e88_34, zs0, zsI, zsL, zsR, ztl1, ztl0, zc0, zcI, zcL, zcR, true_and, and_true, true_implies, false_implies, implies_true, not_true_eq_false, not_false_eq_true, and_self, Int.toNat_natCast, Nat.reduceAdd, Nat.reduceLeDiff, Nat.reduceLT, forall_eq', Option.some.injEq, zarR, zarI, zarL, zle, zq0, zq1, zq2, zq3, zq4, zq5, zq6, zq8, zq9, zq10, zq20, zq7, zq12, zq24, zq40, zq41, zq48, zq100, zq120, zq123, zq480, zq492, zq700, zq729, zq2187, zq2916, zq8748, ne_eq, Int.reduceEq, Int.reduceLT, Int.reduceLE, Int.reduceToNat, Int.reduceMul, Int.reduceAdd, Int.reduceNeg, gk0 hg, gr0_0 hg, gr0_2 hg, gr0_3 hg, gr0_4 hg, gr0_5 hg, gr0_6 hg, gr0_7 hg, gr0_8 hg, gr0_9 hg, gr0_10 hg, f_isBaker hg, e, ca, t, zu_at]
        apply c_stage7 (d := d + 11) (n := m) (Y := Y) hg kt0 hw (by decide) (by omega) (by rw [zu_c (by decide)]; exact hYe) hY
        intro h1 f1 s1 u14
        rw [aLaw_0, hdC_fr (h := h) (fun i => zu_c (by decide))] at s1
        have g7 := g75 hg (y := m) (by omega)
        have lp : ∀ j s (h2 : zM), s + j = 4 → (∀ c i, ¬ (c = 76 + m ∧ b * 4 ≤ i ∧ i < b * 4 + 4) → h2 c i = h1 c i) → (∀ i, i < s → h2 (76 + m) (b * 4 + i) = 0) → zE 88 (d + 15) Q 39 [some (zR (some 0)), some (zI (b : Int)), some (zI (m : Int)), some (zI s)] [] G h2 (0, 0) := by
          intro j
          induction j with
          | zero =>
            intro s h2 hs f2 m2
            have hs' : s = 4 := by omega
            subst hs'
            rw [e88_39]
            simp only [e88_40, e88_41, e88_44, e88_45, e88_48, e88_51, e88_52, e88_53, e88_54, e88_55, e88_56, e88_57, e88_58, e88_59, e88_60, e88_63, e88_66, e88_67, e88_68, e88_69, zs0, zsI, zsL, zsR, ztl1, ztl0, zc0, zcI, zcL, zcR, true_and, and_true, true_implies, false_implies, implies_true, not_true_eq_false, not_false_eq_true, and_self, Int.toNat_natCast, Nat.reduceAdd, Nat.reduceLeDiff, Nat.reduceLT, forall_eq', Option.some.injEq, zarR, zarI, zarL, zle, zq0, zq1, zq2, zq3, zq4, zq5, zq6, zq8, zq9, zq10, zq20, zq7, zq12, zq24, zq40, zq41, zq48, zq100, zq120, zq123, zq480, zq492, zq700, zq729, zq2187, zq2916, zq8748, ne_eq, Int.reduceEq, Int.reduceLT, Int.reduceLE, Int.reduceToNat, Int.reduceMul, Int.reduceAdd, Int.reduceNeg, gk0 hg, gr0_0 hg, gr0_2 hg, gr0_3 hg, gr0_4 hg, gr0_5 hg, gr0_6 hg, gr0_7 hg, gr0_8 hg, gr0_9 hg, gr0_10 hg, Int.le_refl]
            have s2 : sg T m (hdL (hdC T h Y) b) (nn0 T) (nf0 T) (fun _ => nA T) h2 := by
              obtain ⟨a1, a2, a3, a4, a5, a6⟩ := s1
              refine ⟨kT_frame a1 (fun c i q1 q2 => f2 c i (by omega)), ?_, ?_, ?_, ?_, ?_⟩
              · intro b' hb'; rw [f2 _ _ (by omega)]; exact a2 b' hb'
              · intro s hs; rw [f2 _ _ (by omega)]; exact a3 s hs
              · intro s hs; rw [f2 _ _ (by omega)]; exact a4 s hs
              · rw [f2 _ _ (by omega)]; exact a5
              · intro s b' q1 q2
                unfold hdL
                by_cases q : b' = b
                · rw [if_pos q, q]; exact m2 s (by omega)
                · rw [if_neg q, f2 _ _ (by omega)]; exact a6 s b' q1 q2
            apply c_war (d := d + 6) hg hw (acOk_all hw) (fB00 hw) m1 m3 hN okL (by omega) (by omega) okL2 s2 hb
            intro h3 f3
            have fo : ∀ c i, c < 46 ∨ 86 < c → h3 c i = (zu h 0 11 0) c i := fun c i q => by rw [f3 c i q, f2 c i (by omega), f1 c i q]
            have kk := K h3 (cfr_out fo).1 (cfr_out fo).2
            have e3 : h3 21 b = tr T 2 b := by rw [fo _ _ (by omega), zu_c (by decide)]; exact e2'
            by_cases q : vV T (fun _ => nA T) (nn0 T) (nf0 T) m (hdL (hdC T h Y) b) b < tr T 2 b
            · have q2 : zlc (vV T (fun _ => nA T) (nn0 T) (nf0 T) m (hdL (hdC T h Y) b) b) (tr T 2 b) < 0 := by rw [zlc_lt]; omega
              rw [if_pos q] at kk
              simp only [e88_72, e88_73, e88_76, e88_79, e88_80, e88_81, e88_82, e88_83, e88_86, e88_87, e88_90, e88_91, zs0, zsI, zsL, zsR, ztl1, ztl0, zc0, zcI, zcL, zcR, true_and, and_true, true_implies, false_implies, implies_true, not_true_eq_false, not_false_eq_true, and_self, Int.toNat_natCast, Nat.reduceAdd, Nat.reduceLeDiff, Nat.reduceLT, forall_eq', Option.some.injEq, zarR, zarI, zarL, zle, zq0, zq1, zq2, zq3, zq4, zq5, zq6, zq8, zq9, zq10, zq20, zq7, zq12, zq24, zq40, zq41, zq48, zq100, zq120, zq123, zq480, zq492, zq700, zq729, zq2187, zq2916, zq8748, ne_eq, Int.reduceEq, Int.reduceLT, Int.reduceLE, Int.reduceToNat, Int.reduceMul, Int.reduceAdd, Int.reduceNeg, gk0 hg, gr0_0 hg, gr0_2 hg, gr0_3 hg, gr0_4 hg, gr0_5 hg, gr0_6 hg, gr0_7 hg, gr0_8 hg, gr0_9 hg, gr0_10 hg, gk18 hg, gr18_0 hg, gr18_1 hg, gr18_2 hg, gr18_3 hg, gr18_4 hg, gr18_5 hg, gr18_6 hg, gr18_7 hg, gr18_8 hg, gk21 hg, gl21 hg, b3, e3, q2]
              exact kk
            · have q2 : ¬ zlc (vV T (fun _ => nA T) (nn0 T) (nf0 T) m (hdL (hdC T h Y) b) b) (tr T 2 b) < 0 := by rw [zlc_lt]; omega
              rw [if_neg q] at kk
              simp only [e88_72, e88_73, e88_76, e88_79, e88_80, e88_81, e88_82, e88_83, e88_86, e88_87, e88_90, e88_91, zs0, zsI, zsL, zsR, ztl1, ztl0, zc0, zcI, zcL, zcR, true_and, and_true, true_implies, false_implies, implies_true, not_true_eq_false, not_false_eq_true, and_self, Int.toNat_natCast, Nat.reduceAdd, Nat.reduceLeDiff, Nat.reduceLT, forall_eq', Option.some.injEq, zarR, zarI, zarL, zle, zq0, zq1, zq2, zq3, zq4, zq5, zq6, zq8, zq9, zq10, zq20, zq7, zq12, zq24, zq40, zq41, zq48, zq100, zq120, zq123, zq480, zq492, zq700, zq729, zq2187, zq2916, zq8748, ne_eq, Int.reduceEq, Int.reduceLT, Int.reduceLE, Int.reduceToNat, Int.reduceMul, Int.reduceAdd, Int.reduceNeg, gk0 hg, gr0_0 hg, gr0_2 hg, gr0_3 hg, gr0_4 hg, gr0_5 hg, gr0_6 hg, gr0_7 hg, gr0_8 hg, gr0_9 hg, gr0_10 hg, gk18 hg, gr18_0 hg, gr18_1 hg, gr18_2 hg, gr18_3 hg, gr18_4 hg, gr18_5 hg, gr18_6 hg, gr18_7 hg, gr18_8 hg, gk21 hg, gl21 hg, b3, e3, q2]
              exact kk
          | succ j ih =>
            intro s h2 hs f2 m2
            have c : ¬ (4 : Int) ≤ s := by omega
            have i1 : ((b * 4 + s : Nat) : Int) < 12 := by omega
            rw [e88_39]
            simp only [e88_40, e88_41, e88_44, e88_45, e88_48, e88_51, e88_52, e88_53, e88_54, e88_55, e88_56, e88_57, e88_58, e88_59, e88_60, e88_63, zs0, zsI, zsL, zsR, ztl1, ztl0, zc0, zcI, zcL, zcR, true_and, and_true, true_implies, false_implies, implies_true, not_true_eq_false, not_false_eq_true, and_self, Int.toNat_natCast, Nat.reduceAdd, Nat.reduceLeDiff, Nat.reduceLT, forall_eq', Option.some.injEq, zarR, zarI, zarL, zle, zq0, zq1, zq2, zq3, zq4, zq5, zq6, zq8, zq9, zq10, zq20, zq7, zq12, zq24, zq40, zq41, zq48, zq100, zq120, zq123, zq480, zq492, zq700, zq729, zq2187, zq2916, zq8748, ne_eq, Int.reduceEq, Int.reduceLT, Int.reduceLE, Int.reduceToNat, Int.reduceMul, Int.reduceAdd, Int.reduceNeg, gk0 hg, gr0_0 hg, gr0_2 hg, gr0_3 hg, gr0_4 hg, gr0_5 hg, gr0_6 hg, gr0_7 hg, gr0_8 hg, gr0_9 hg, gr0_10 hg, gk46 hg, gr46_0 hg, gr46_1 hg, gr46_2 hg, gr46_3 hg, gr46_4 hg, gr46_6 hg, gr46_7 hg, gr46_8 hg, gr46_9 hg, gr46_10 hg, gr46_11 hg, gr46_12 hg, gr46_13 hg, gk75 hg, gl75 hg, gr75_0 hg, gr75_1 hg, gr75_2 hg, gr75_3 hg, c, m4, g7.1, g7.2.1, g7.2.2, wrN (z := (b : Int) * 4) (m := b * 4) (by omega) (by omega), wrN (z := ((b * 4 : Nat) : Int) + (s : Int)) (m := b * 4 + s) (by omega) (by omega), i1, wr_s (show s < 2147483647 by omega)]
            apply ih (s + 1) _ (by omega)
            · intro c i q
              rw [zu, if_neg (by omega)]
              exact f2 c i q
            · intro i hi
              by_cases q : i = s
              · subst q; exact zu_at
              · rw [zu_i (by omega)]; exact m2 i (by omega)
        simp only [e88_37, e88_38, zs0, zsI, zsL, zsR, ztl1, ztl0, zc0, zcI, zcL, zcR, true_and, and_true, true_implies, false_implies, implies_true, not_true_eq_false, not_false_eq_true, and_self, Int.toNat_natCast, Nat.reduceAdd, Nat.reduceLeDiff, Nat.reduceLT, forall_eq', Option.some.injEq, zarR, zarI, zarL, zle, zq0, zq1, zq2, zq3, zq4, zq5, zq6, zq8, zq9, zq10, zq20, zq7, zq12, zq24, zq40, zq41, zq48, zq100, zq120, zq123, zq480, zq492, zq700, zq729, zq2187, zq2916, zq8748, ne_eq, Int.reduceEq, Int.reduceLT, Int.reduceLE, Int.reduceToNat, Int.reduceMul, Int.reduceAdd, Int.reduceNeg]
        have l0 := lp 4 0 h1 (by omega) (fun _ _ _ => rfl) (fun i hi => by omega)
        simp only [zq0] at l0
        exact l0
      · intro h1 f1 Q K
        rw [r204]
        have fz : ∀ c i, 91 ≤ c → h1 c i = h c i := fun c i q => f1 c i (Or.inl q)
        have rt0 : rT (zu h1 91 0 0) u T := rT_frame rt (fun c i q => by rw [zu_c (by omega), fz c i (by omega)])
        simp only [e204_0, e204_1, e204_2, e204_5, e204_6, e204_7, e204_10, e204_13, e204_14, e204_15, e204_18, e204_19, e204_20, e204_21, e204_22, e204_25, e204_28, e204_29, e204_30, e204_33, e204_34, e204_35, e204_36, zs0, zsI, zsL, zsR, ztl1, ztl0, zc0, zcI, zcL, zcR, true_and, and_true, true_implies, false_implies, implies_true, not_true_eq_false, not_false_eq_true, and_self, Int.toNat_natCast, Nat.reduceAdd, Nat.reduceLeDiff, Nat.reduceLT, forall_eq', Option.some.injEq, zarR, zarI, zarL, zle, zq0, zq1, zq2, zq3, zq4, zq5, zq6, zq8, zq9, zq10, zq20, zq7, zq12, zq24, zq40, zq41, zq48, zq100, zq120, zq123, zq480, zq492, zq700, zq729, zq2187, zq2916, zq8748, ne_eq, Int.reduceEq, Int.reduceLT, Int.reduceLE, Int.reduceToNat, Int.reduceMul, Int.reduceAdd, Int.reduceNeg, gk91 hg, gr91_5 hg, gr91_22 hg, gr91_23 hg, gr91_24 hg, gr91_25 hg, gr91_26 hg, gr91_27 hg, gr91_28 hg, gr91_29 hg, gr91_32 hg, gr91_33 hg, gr91_34 hg, gr91_35 hg, gr91_36 hg, gr91_37 hg, gr91_38 hg, gr91_39 hg, gr91_40 hg, gr91_41 hg, gr91_42 hg, gr91_44 hg, gr91_45 hg, gr91_46 hg, gr91_48 hg, gr91_49 hg, gr91_50 hg, gr91_51 hg, gr91_52 hg, hu, m_isBaker hg hk, m_in, mF_z hk (show 91 < 121 by decide), mF_fr hk f1, mb, e, l]
        apply m_lays hg hu rt0 hw (by decide)
        intro h2 f2 V2 v19 v20 v21
        rw [aLaw_0] at V2
        have mm := fun Q' => m_much' (d := d + 12) (Q := Q') (h := h2) (m := m) hg hu V2 hw v20 v21 m3
        rw [if_neg (by omega)] at mm
        simp only [e204_39, e204_40, e204_41, e204_44, e204_47, e204_48, e204_49, e204_52, e204_53, e204_54, e204_55, zs0, zsI, zsL, zsR, ztl1, ztl0, zc0, zcI, zcL, zcR, true_and, and_true, true_implies, false_implies, implies_true, not_true_eq_false, not_false_eq_true, and_self, Int.toNat_natCast, Nat.reduceAdd, Nat.reduceLeDiff, Nat.reduceLT, forall_eq', Option.some.injEq, zarR, zarI, zarL, zle, zq0, zq1, zq2, zq3, zq4, zq5, zq6, zq8, zq9, zq10, zq20, zq7, zq12, zq24, zq40, zq41, zq48, zq100, zq120, zq123, zq480, zq492, zq700, zq729, zq2187, zq2916, zq8748, ne_eq, Int.reduceEq, Int.reduceLT, Int.reduceLE, Int.reduceToNat, Int.reduceMul, Int.reduceAdd, Int.reduceNeg, gk91 hg, gr91_5 hg, gr91_22 hg, gr91_23 hg, gr91_24 hg, gr91_25 hg, gr91_26 hg, gr91_27 hg, gr91_28 hg, gr91_29 hg, gr91_32 hg, gr91_33 hg, gr91_34 hg, gr91_35 hg, gr91_36 hg, gr91_37 hg, gr91_38 hg, gr91_39 hg, gr91_40 hg, gr91_41 hg, gr91_42 hg, gr91_44 hg, gr91_45 hg, gr91_46 hg, gr91_48 hg, gr91_49 hg, gr91_50 hg, gr91_51 hg, gr91_52 hg, mm]
        apply m_begins (n := m) hg hu m3
        intro h3 f3 a1 a2 a3
        have lp : ∀ j s (h5 : zM), s + j = 4 → (∀ c i, ¬ c = 110 → h5 c i = h3 c i) → (∀ i, i < s → h5 110 (12 * m + (3 * i + b)) = 0) → (∀ s' b', s' < 4 → b' < 3 → ¬ b' = b → h5 110 (12 * m + (3 * s' + b')) = h3 110 (12 * m + (3 * s' + b'))) → zE 204 (d + 15) Q 60 [some (zR (some 91)), some (zI (b : Int)), some (zI (m : Int)), some (zI s)] [] G h5 (0, 0) := by
          intro j
          induction j with
          | zero =>
            intro s h5 hs f5 m5 m6
            have hs' : s = 4 := by omega
            subst hs'
            rw [e204_60]
            simp only [e204_61, e204_62, e204_65, e204_66, e204_69, e204_71, e204_72, e204_73, e204_74, e204_75, e204_78, e204_79, e204_80, e204_81, e204_84, e204_87, e204_88, e204_89, e204_90, e204_91, zs0, zsI, zsL, zsR, ztl1, ztl0, zc0, zcI, zcL, zcR, true_and, and_true, true_implies, false_implies, implies_true, not_true_eq_false, not_false_eq_true, and_self, Int.toNat_natCast, Nat.reduceAdd, Nat.reduceLeDiff, Nat.reduceLT, forall_eq', Option.some.injEq, zarR, zarI, zarL, zle, zq0, zq1, zq2, zq3, zq4, zq5, zq6, zq8, zq9, zq10, zq20, zq7, zq12, zq24, zq40, zq41, zq48, zq100, zq120, zq123, zq480, zq492, zq700, zq729, zq2187, zq2916, zq8748, ne_eq, Int.reduceEq, Int.reduceLT, Int.reduceLE, Int.reduceToNat, Int.reduceMul, Int.reduceAdd, Int.reduceNeg, gk91 hg, gr91_5 hg, gr91_22 hg, gr91_23 hg, gr91_24 hg, gr91_25 hg, gr91_26 hg, gr91_27 hg, gr91_28 hg, gr91_29 hg, gr91_32 hg, gr91_33 hg, gr91_34 hg, gr91_35 hg, gr91_36 hg, gr91_37 hg, gr91_38 hg, gr91_39 hg, gr91_40 hg, gr91_41 hg, gr91_42 hg, gr91_44 hg, gr91_45 hg, gr91_46 hg, gr91_48 hg, gr91_49 hg, gr91_50 hg, gr91_51 hg, gr91_52 hg, Int.le_refl]
            have V3 : rV h5 u T := rV_frame V2 (fun c i q => by rw [f5 c i (by omega), f3 c i (by omega) (by omega) (by omega)]) (fun i => by rw [f5 _ _ (by omega), f3 _ _ (by omega) (by omega) (by omega)]) (fun i _ _ => by rw [f5 _ _ (by omega), f3 _ _ (by omega) (by omega) (by omega)])
            have w : ∀ i, i = 19 ∨ i = 20 ∨ i = 21 → h5 91 i = h2 91 i := fun i q => by rw [f5 _ _ (by omega), f3 _ _ (by omega) (by omega) (by omega)]
            have hm110 := hd_m (h' := h3) hw i4 (fun k hk => by rw [a3 k hk, f2 _ _ (by omega) (by omega), zu_c (by decide), fz _ _ (by omega)])
            have hP : rPre T (fun _ => nA T) (nn0 T) (nf0 T) u m (hdL (hdC T h Y) b) h5 := rPre_mk hw V3 (rA_all hw (by rw [w _ (by omega)]; exact v20) (by rw [w _ (by omega)]; exact v21)) (by rw [w _ (by omega)]; exact v19) (fun s hs => by rw [f5 _ _ (by omega), a1 s (by omega)]; exact V2.2.2.2.2.2.2.2.2.1 s hs) (fun s b' q1 q2 => by
              unfold hdL
              by_cases q : b' = b
              · rw [if_pos q, q]; exact m5 s (by omega)
              · rw [if_neg q, m6 s b' (by omega) (by omega) q]; exact hm110 s b' q1 q2) (by rw [f5 _ _ (by omega)]; exact a2)
            apply m_worthOf (d := d + 2) hg hu hw (acOk_all hw) (fB00 hw) m1 m3 okL (by omega) (by omega) okL2 hP hb
            intro h4 hp
            have o4 := rFr_out hp.1
            have ro : rO (zu h1 91 0 0) h4 := fun c i q => by rw [o4 c i (by omega), f5 c i (by omega), f3 c i (by omega) (by omega) (by omega), f2 c i (by omega) (by omega)]
            have e3 : h4 (u + 3) b = tr T 2 b := by rw [ro _ _ (by omega), zu_c (by omega), fz _ _ (by omega)]; exact r2'
            have kk := fun v => K (zu (zu h4 91 1 v) 91 2 (-1)) (mEnd2 ro).1
            by_cases q : vV T (fun _ => nA T) (nn0 T) (nf0 T) m (hdL (hdC T h Y) b) b < tr T 2 b
            · have q2 : zlc (vV T (fun _ => nA T) (nn0 T) (nf0 T) m (hdL (hdC T h Y) b) b) (tr T 2 b) < 0 := by rw [zlc_lt]; omega
              rw [if_pos q] at kk
              simp only [e204_94, e204_95, e204_98, e204_101, e204_102, e204_103, e204_104, e204_105, e204_108, e204_109, e204_112, e204_113, e204_116, zs0, zsI, zsL, zsR, ztl1, ztl0, zc0, zcI, zcL, zcR, true_and, and_true, true_implies, false_implies, implies_true, not_true_eq_false, not_false_eq_true, and_self, Int.toNat_natCast, Nat.reduceAdd, Nat.reduceLeDiff, Nat.reduceLT, forall_eq', Option.some.injEq, zarR, zarI, zarL, zle, zq0, zq1, zq2, zq3, zq4, zq5, zq6, zq8, zq9, zq10, zq20, zq7, zq12, zq24, zq40, zq41, zq48, zq100, zq120, zq123, zq480, zq492, zq700, zq729, zq2187, zq2916, zq8748, ne_eq, Int.reduceEq, Int.reduceLT, Int.reduceLE, Int.reduceToNat, Int.reduceMul, Int.reduceAdd, Int.reduceNeg, gk91 hg, gr91_5 hg, gr91_22 hg, gr91_23 hg, gr91_24 hg, gr91_25 hg, gr91_26 hg, gr91_27 hg, gr91_28 hg, gr91_29 hg, gr91_32 hg, gr91_33 hg, gr91_34 hg, gr91_35 hg, gr91_36 hg, gr91_37 hg, gr91_38 hg, gr91_39 hg, gr91_40 hg, gr91_41 hg, gr91_42 hg, gr91_44 hg, gr91_45 hg, gr91_46 hg, gr91_48 hg, gr91_49 hg, gr91_50 hg, gr91_51 hg, gr91_52 hg, hu, b3, e3, q2, m_done hg]
              exact kk 0 (mEnd2 ro).2.1 (mEnd2 ro).2.2
            · have q2 : ¬ zlc (vV T (fun _ => nA T) (nn0 T) (nf0 T) m (hdL (hdC T h Y) b) b) (tr T 2 b) < 0 := by rw [zlc_lt]; omega
              rw [if_neg q] at kk
              simp only [e204_94, e204_95, e204_98, e204_101, e204_102, e204_103, e204_104, e204_105, e204_108, e204_109, e204_112, e204_113, e204_116, zs0, zsI, zsL, zsR, ztl1, ztl0, zc0, zcI, zcL, zcR, true_and, and_true, true_implies, false_implies, implies_true, not_true_eq_false, not_false_eq_true, and_self, Int.toNat_natCast, Nat.reduceAdd, Nat.reduceLeDiff, Nat.reduceLT, forall_eq', Option.some.injEq, zarR, zarI, zarL, zle, zq0, zq1, zq2, zq3, zq4, zq5, zq6, zq8, zq9, zq10, zq20, zq7, zq12, zq24, zq40, zq41, zq48, zq100, zq120, zq123, zq480, zq492, zq700, zq729, zq2187, zq2916, zq8748, ne_eq, Int.reduceEq, Int.reduceLT, Int.reduceLE, Int.reduceToNat, Int.reduceMul, Int.reduceAdd, Int.reduceNeg, gk91 hg, gr91_5 hg, gr91_22 hg, gr91_23 hg, gr91_24 hg, gr91_25 hg, gr91_26 hg, gr91_27 hg, gr91_28 hg, gr91_29 hg, gr91_32 hg, gr91_33 hg, gr91_34 hg, gr91_35 hg, gr91_36 hg, gr91_37 hg, gr91_38 hg, gr91_39 hg, gr91_40 hg, gr91_41 hg, gr91_42 hg, gr91_44 hg, gr91_45 hg, gr91_46 hg, gr91_48 hg, gr91_49 hg, gr91_50 hg, gr91_51 hg, gr91_52 hg, hu, b3, e3, q2, m_done hg]
              exact kk 0 (mEnd2 ro).2.1 (mEnd2 ro).2.2
          | succ j ih =>
            intro s h5 hs f5 m5 m6
            have c : ¬ (4 : Int) ≤ s := by omega
            have i1 : ((12 * m + (3 * s + b) : Nat) : Int) < 48 := by omega
            have mc := fun h' Q' => m_cell (d := d + 14) (Q := Q') (G := G) (h := h') (a := s) (b := b) (by omega) (by omega)
            rw [e204_60]
            simp only [e204_61, e204_62, e204_65, e204_66, e204_69, e204_71, e204_72, e204_73, e204_74, e204_75, e204_78, e204_79, e204_80, e204_81, e204_84, zs0, zsI, zsL, zsR, ztl1, ztl0, zc0, zcI, zcL, zcR, true_and, and_true, true_implies, false_implies, implies_true, not_true_eq_false, not_false_eq_true, and_self, Int.toNat_natCast, Nat.reduceAdd, Nat.reduceLeDiff, Nat.reduceLT, forall_eq', Option.some.injEq, zarR, zarI, zarL, zle, zq0, zq1, zq2, zq3, zq4, zq5, zq6, zq8, zq9, zq10, zq20, zq7, zq12, zq24, zq40, zq41, zq48, zq100, zq120, zq123, zq480, zq492, zq700, zq729, zq2187, zq2916, zq8748, ne_eq, Int.reduceEq, Int.reduceLT, Int.reduceLE, Int.reduceToNat, Int.reduceMul, Int.reduceAdd, Int.reduceNeg, gk91 hg, gr91_5 hg, gr91_22 hg, gr91_23 hg, gr91_24 hg, gr91_25 hg, gr91_26 hg, gr91_27 hg, gr91_28 hg, gr91_29 hg, gr91_32 hg, gr91_33 hg, gr91_34 hg, gr91_35 hg, gr91_36 hg, gr91_37 hg, gr91_38 hg, gr91_39 hg, gr91_40 hg, gr91_41 hg, gr91_42 hg, gr91_44 hg, gr91_45 hg, gr91_46 hg, gr91_48 hg, gr91_49 hg, gr91_50 hg, gr91_51 hg, gr91_52 hg, gk110 hg, gl110 hg, c, mc, wrN (z := 12 * (m : Int)) (m := 12 * m) (by omega) (by omega), wrN (z := ((12 * m : Nat) : Int) + ((3 * s + b : Nat) : Int)) (m := 12 * m + (3 * s + b)) (by omega) (by omega), i1, wr_s (show s < 2147483647 by omega)]
            apply ih (s + 1) _ (by omega)
            · intro c i q
              rw [zu_c q]
              exact f5 c i q
            · intro i hi
              by_cases q : i = s
              · subst q; exact zu_at
              · rw [zu_i (by omega)]; exact m5 i (by omega)
            · intro s' b' q1 q2 q3
              rw [zu_i (by omega)]
              exact m6 s' b' q1 q2 q3
        simp only [e204_58, e204_59, zs0, zsI, zsL, zsR, ztl1, ztl0, zc0, zcI, zcL, zcR, true_and, and_true, true_implies, false_implies, implies_true, not_true_eq_false, not_false_eq_true, and_self, Int.toNat_natCast, Nat.reduceAdd, Nat.reduceLeDiff, Nat.reduceLT, forall_eq', Option.some.injEq, zarR, zarI, zarL, zle, zq0, zq1, zq2, zq3, zq4, zq5, zq6, zq8, zq9, zq10, zq20, zq7, zq12, zq24, zq40, zq41, zq48, zq100, zq120, zq123, zq480, zq492, zq700, zq729, zq2187, zq2916, zq8748, ne_eq, Int.reduceEq, Int.reduceLT, Int.reduceLE, Int.reduceToNat, Int.reduceMul, Int.reduceAdd, Int.reduceNeg]
        have l0 := lp 4 0 h3 (by omega) (fun _ _ _ => rfl) (fun i hi => by omega) (fun _ _ _ _ _ => rfl)
        simp only [zq0] at l0
        exact l0
  · refine PR_q (z := -1) (tr := 1) hI (by decide) ?_ ?_
    · intro Q K
      rw [r88]
      simp only [e88_0, e88_1, e88_2, e88_3, e88_6, e88_9, e88_10, e88_11, e88_12, e88_15, e88_18, e88_19, e88_22, e88_23, e88_26, e88_29, e88_30, e88_31, e88_32, e88_33, e88_34, e88_37, e88_38, e88_40, e88_41, e88_44, e88_45, e88_48, e88_51, e88_52, e88_53, e88_54, e88_55, e88_56, e88_57, e88_58, e88_59, e88_60, e88_63, e88_66, e88_67, e88_68, e88_69, e88_72, e88_73, e88_76, e88_79, e88_80, e88_81, e88_82, e88_83, e88_86, e88_87, e88_90, e88_91, zs0, zsI, zsL, zsR, ztl1, ztl0, zc0, zcI, zcL, zcR, true_and, and_true, true_implies, false_implies, implies_true, not_true_eq_false, not_false_eq_true, and_self, Int.toNat_natCast, Nat.reduceAdd, Nat.reduceLeDiff, Nat.reduceLT, forall_eq', Option.some.injEq, zarR, zarI, zarL, zle, zq0, zq1, zq2, zq3, zq4, zq5, zq6, zq8, zq9, zq10, zq20, zq7, zq12, zq24, zq40, zq41, zq48, zq100, zq120, zq123, zq480, zq492, zq700, zq729, zq2187, zq2916, zq8748, ne_eq, Int.reduceEq, Int.reduceLT, Int.reduceLE, Int.reduceToNat, Int.reduceMul, Int.reduceAdd, Int.reduceNeg, gk0 hg, gr0_0 hg, gr0_2 hg, gr0_3 hg, gr0_4 hg, gr0_5 hg, gr0_6 hg, gr0_7 hg, gr0_8 hg, gr0_9 hg, gr0_10 hg, or_true, true_or, if_true, if_false, false_and, and_false, false_or, or_false, f_isBaker hg, e, zu_at]
      exact K _ cfr.z zu_at
    · intro h1 f1 Q K
      rw [r204]
      simp only [e204_0, e204_1, e204_2, e204_5, e204_6, e204_7, e204_10, e204_13, e204_14, e204_15, e204_18, e204_19, e204_20, e204_21, e204_22, e204_25, e204_28, e204_29, e204_30, e204_33, e204_34, e204_35, e204_36, e204_39, e204_40, e204_41, e204_44, e204_47, e204_48, e204_49, e204_52, e204_53, e204_54, e204_55, e204_58, e204_59, e204_61, e204_62, e204_65, e204_66, e204_69, e204_71, e204_72, e204_73, e204_74, e204_75, e204_78, e204_79, e204_80, e204_81, e204_84, e204_87, e204_88, e204_89, e204_90, e204_91, e204_94, e204_95, e204_98, e204_101, e204_102, e204_103, e204_104, e204_105, e204_108, e204_109, e204_112, e204_113, e204_116, zs0, zsI, zsL, zsR, ztl1, ztl0, zc0, zcI, zcL, zcR, true_and, and_true, true_implies, false_implies, implies_true, not_true_eq_false, not_false_eq_true, and_self, Int.toNat_natCast, Nat.reduceAdd, Nat.reduceLeDiff, Nat.reduceLT, forall_eq', Option.some.injEq, zarR, zarI, zarL, zle, zq0, zq1, zq2, zq3, zq4, zq5, zq6, zq8, zq9, zq10, zq20, zq7, zq12, zq24, zq40, zq41, zq48, zq100, zq120, zq123, zq480, zq492, zq700, zq729, zq2187, zq2916, zq8748, ne_eq, Int.reduceEq, Int.reduceLT, Int.reduceLE, Int.reduceToNat, Int.reduceMul, Int.reduceAdd, Int.reduceNeg, gk91 hg, gr91_5 hg, gr91_22 hg, gr91_23 hg, gr91_24 hg, gr91_25 hg, gr91_26 hg, gr91_27 hg, gr91_28 hg, gr91_29 hg, gr91_32 hg, gr91_33 hg, gr91_34 hg, gr91_35 hg, gr91_36 hg, gr91_37 hg, gr91_38 hg, gr91_39 hg, gr91_40 hg, gr91_41 hg, gr91_42 hg, gr91_44 hg, gr91_45 hg, gr91_46 hg, gr91_48 hg, gr91_49 hg, gr91_50 hg, gr91_51 hg, gr91_52 hg, or_true, true_or, if_true, if_false, false_and, and_false, false_or, or_false, m_isBaker hg hk, mF_z hk (show 91 < 121 by decide), mF_fr hk f1, mb, e, m_refused hg]
      exact K _ mEnd.1 mEnd.2.1 mEnd.2.2
end PF
