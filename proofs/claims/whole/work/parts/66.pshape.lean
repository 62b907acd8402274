section PP
variable {d : Nat} {G : zG} {h : zM} {x y z : Int}
theorem mEnd2 {h h2 : zM} {v : Int} (f : rO (zu h 91 0 0) h2) : mfr h (zu (zu h2 91 1 v) 91 2 (-1)) ∧ (zu (zu h2 91 1 v) 91 2 (-1)) 91 1 = v ∧ (zu (zu h2 91 1 v) 91 2 (-1)) 91 2 = -1 := by
  refine ⟨?_, by rw [zu_i (by decide), zu_at], zu_at⟩
  intro c i q
  unfold core at q
  have q2 : ¬ (c = 91 ∧ i = 2) := by omega
  have q3 : ¬ (c = 91 ∧ i = 1) := by omega
  have q4 : ¬ (c = 91 ∧ i = 0) := by omega
  show (if c = 91 ∧ i = 2 then -1 else if c = 91 ∧ i = 1 then v else h2 c i) = h c i
  rw [if_neg q2, if_neg q3, f c i (by omega), zu, if_neg q4]
theorem rO_lays {h h' : zM} (f : ∀ c i, ¬ (c = 91 ∧ 16 ≤ i ∧ i ≤ 21) → ¬ c = 93 → h' c i = h c i) : rO h h' := fun c i q => f c i (by omega) (by omega)
theorem hd_101 {T : aTn} {Y : Nat} {h h' : zM} (hw : wT T) (i4 : I4 T Y h h) (f : ∀ i, h' 101 i = h 101 i) : ∀ s b, s < nS T → b < nB T → h' 101 (3 * s + b) = hdC T h Y s b := by
  intro s b q1 q2
  have hb := hw.1
  rw [f, ← i4.2.2.2.1.1 s b q1 q2]
  unfold hdC
  rw [if_pos ⟨q1, by omega⟩]
theorem cfr_out {h h' : zM} (f : ∀ c i, c < 46 ∨ 86 < c → h' c i = (zu h 0 11 0) c i) : cfr h h' ∧ h' 0 11 = 0 := by
  refine ⟨?_, by rw [f _ _ (by omega), zu_at]⟩
  intro c i q
  unfold core at q
  rw [f c i (by omega), zu, if_neg (by omega)]
theorem p_promise (hI : INV G h) : PR zL d 84 200 [zI x, zI y, zI z] G h := by
  have hg := hI.1
  have hk := INV_gK hI
  obtain ⟨mb, ms⟩ := INV_mF hI
  rcases rng_c 0 (h 18 9) x with ⟨e, e1, e2⟩ | ⟨e, e2⟩
  · obtain ⟨u, T, Y, hu, hu2, hw, kt, rt, i4, i5⟩ := INV_T hI (by omega)
    have u1 := hu.1
    have n9 : ¬ u = 91 := by omega
    have hY := i4.1.1
    have hYe := i4.1.2.1
    have hb3 := hw.1
    have hs4 := hw.2.1
    have hp3 := hw.2.2.1
    have e9 := kt.1
    have kt0 : kT (zu h 0 11 0) 18 T := kT_frame kt (fun c i q1 q2 => zu_c (by omega))
    have ok := I4_pOk i4
    have e11 := kt.2.2.1
    have r2 := rt.2.2.1
    have v2 : ∀ h1, cfr h h1 → h1 u 2 = (nP T : Int) := fun h1 f1 => by rw [f1 u 2 (Or.inl (by omega))]; exact r2
    rcases rng_c 0 (nP T) y with ⟨k, k1, k2⟩ | ⟨k, k2⟩
    · have ca := fun Q' => c_ahead (d := d + 13) (Q := Q') (h := h) (n := z) (law := 0) hg kt hw
      have tc := tA_c T z 0
      rw [aLaw_0] at tc
      rcases tc with ⟨t, l⟩ | ⟨t, l, m, rfl, m1, m3, hm⟩ | ⟨t, l, m, rfl, m1, m3, hm⟩
      · refine PR_q (z := -9223372036854775808) (tr := 2) hI (by decide) ?_ ?_
        · intro Q K
          rw [r84]
          simp only [e84_0, e84_1, e84_2, e84_3, e84_6, e84_9, e84_10, e84_13, e84_14, e84_15, e84_18, e84_21, e84_22, e84_25, e84_26, e84_27, e84_28, e84_31, e84_34, e84_35, e84_38, e84_41, e84_44, e84_45, e84_46, e84_47, e84_48, e84_51, e84_52, e84_55, e84_56, e84_57, e84_60, e84_61, e84_62, e84_63, e84_66, zs0, zsI, zsL, zsR, ztl1, ztl0, zc0, zcI, zcL, zcR, true_and, and_true, true_implies, false_implies, implies_true, not_true_eq_false, not_false_eq_true, and_self, Int.toNat_natCast, Nat.reduceAdd, Nat.reduceLeDiff, Nat.reduceLT, forall_eq', Option.some.injEq, zarR, zarI, zarL, zle, zq0, zq1, zq2, zq3, zq4, zq5, zq6, zq8, zq9, zq10, zq20, zq7, zq12, zq24, zq40, zq41, zq48, zq100, zq120, zq123, zq480, zq492, zq700, zq729, zq2187, zq2916, zq8748, ne_eq, Int.reduceEq, Int.reduceLT, Int.reduceLE, Int.reduceToNat, Int.reduceMul, Int.reduceAdd, Int.reduceNeg, gk0 hg, gr0_0 hg, gr0_2 hg, gr0_3 hg, gr0_4 hg, gr0_5 hg, gr0_6 hg, gr0_7 hg, gr0_8 hg, gr0_9 hg, gr0_10 hg, or_true, true_or, if_true, if_false, false_and, and_false, false_or, or_false, f_isBaker hg, f_isStep hg, e, e11, k, ca, t, zu_at]
          exact K _ cfr.z zu_at
        · intro h1 f1 Q K
          rw [r200]
          simp only [e200_0, e200_1, e200_2, e200_5, e200_6, e200_7, e200_10, e200_13, e200_14, e200_15, e200_18, e200_19, e200_20, e200_21, e200_24, e200_27, e200_28, e200_29, e200_30, e200_33, e200_36, e200_37, e200_38, e200_41, e200_42, e200_43, e200_44, e200_47, e200_48, e200_49, e200_52, e200_55, e200_56, e200_57, e200_60, e200_61, e200_62, e200_63, e200_66, e200_67, e200_68, e200_71, e200_72, e200_73, e200_76, e200_77, e200_78, e200_79, e200_80, e200_83, e200_86, zs0, zsI, zsL, zsR, ztl1, ztl0, zc0, zcI, zcL, zcR, true_and, and_true, true_implies, false_implies, implies_true, not_true_eq_false, not_false_eq_true, and_self, Int.toNat_natCast, Nat.reduceAdd, Nat.reduceLeDiff, Nat.reduceLT, forall_eq', Option.some.injEq, zarR, zarI, zarL, zle, zq0, zq1, zq2, zq3, zq4, zq5, zq6, zq8, zq9, zq10, zq20, zq7, zq12, zq24, zq40, zq41, zq48, zq100, zq120, zq123, zq480, zq492, zq700, zq729, zq2187, zq2916, zq8748, ne_eq, Int.reduceEq, Int.reduceLT, Int.reduceLE, Int.reduceToNat, Int.reduceMul, Int.reduceAdd, Int.reduceNeg, gk91 hg, gr91_5 hg, gr91_22 hg, gr91_23 hg, gr91_24 hg, gr91_25 hg, gr91_26 hg, gr91_27 hg, gr91_28 hg, gr91_29 hg, gr91_32 hg, gr91_33 hg, gr91_34 hg, gr91_35 hg, gr91_36 hg, gr91_37 hg, gr91_38 hg, gr91_39 hg, gr91_40 hg, gr91_41 hg, gr91_42 hg, gr91_44 hg, gr91_45 hg, gr91_46 hg, gr91_48 hg, gr91_49 hg, gr91_50 hg, gr91_51 hg, gr91_52 hg, or_true, true_or, if_true, if_false, false_and, and_false, false_or, or_false, m_isBaker hg hk, m_isStep hg hu, m_in, mF_z hk (show 91 < 121 by decide), mF_fr hk f1, mb, e, zu_c n9, v2 h1 f1, k, l, m_lost hg]
          exact K _ mEnd.1 mEnd.2.1 mEnd.2.2
      · refine PR_q (z := -9223372036854775808) (tr := 3) hI (by decide) ?_ ?_
        · intro Q K
          rw [r84]
          simp only [e84_0, e84_1, e84_2, e84_3, e84_6, e84_9, e84_10, e84_13, e84_14, e84_15, e84_18, e84_21, e84_22, e84_25, e84_26, e84_27, e84_28, e84_31, e84_34, e84_35, e84_38, e84_41, e84_44, e84_45, e84_46, e84_47, e84_48, e84_51, e84_52, e84_55, e84_56, e84_57, e84_60, e84_61, e84_62, e84_63, e84_66, zs0, zsI, zsL, zsR, ztl1, ztl0, zc0, zcI, zcL, zcR, true_and, and_true, true_implies, false_implies, implies_true, not_true_eq_false, not_false_eq_true, and_self, Int.toNat_natCast, Nat.reduceAdd, Nat.reduceLeDiff, Nat.reduceLT, forall_eq', Option.some.injEq, zarR, zarI, zarL, zle, zq0, zq1, zq2, zq3, zq4, zq5, zq6, zq8, zq9, zq10, zq20, zq7, zq12, zq24, zq40, zq41, zq48, zq100, zq120, zq123, zq480, zq492, zq700, zq729, zq2187, zq2916, zq8748, ne_eq, Int.reduceEq, Int.reduceLT, Int.reduceLE, Int.reduceToNat, Int.reduceMul, Int.reduceAdd, Int.reduceNeg, gk0 hg, gr0_0 hg, gr0_2 hg, gr0_3 hg, gr0_4 hg, gr0_5 hg, gr0_6 hg, gr0_7 hg, gr0_8 hg, gr0_9 hg, gr0_10 hg, or_true, true_or, if_true, if_false, false_and, and_false, false_or, or_false, f_isBaker hg, f_isStep hg, e, e11, k, ca, t, zu_at]
          exact K _ cfr.z zu_at
        · intro h1 f1 Q K
          rw [r200]
          simp only [e200_0, e200_1, e200_2, e200_5, e200_6, e200_7, e200_10, e200_13, e200_14, e200_15, e200_18, e200_19, e200_20, e200_21, e200_24, e200_27, e200_28, e200_29, e200_30, e200_33, e200_36, e200_37, e200_38, e200_41, e200_42, e200_43, e200_44, zs0, zsI, zsL, zsR, ztl1, ztl0, zc0, zcI, zcL, zcR, true_and, and_true, true_implies, false_implies, implies_true, not_true_eq_false, not_false_eq_true, and_self, Int.toNat_natCast, Nat.reduceAdd, Nat.reduceLeDiff, Nat.reduceLT, forall_eq', Option.some.injEq, zarR, zarI, zarL, zle, zq0, zq1, zq2, zq3, zq4, zq5, zq6, zq8, zq9, zq10, zq20, zq7, zq12, zq24, zq40, zq41, zq48, zq100, zq120, zq123, zq480, zq492, zq700, zq729, zq2187, zq2916, zq8748, ne_eq, Int.reduceEq, Int.reduceLT, Int.reduceLE, Int.reduceToNat, Int.reduceMul, Int.reduceAdd, Int.reduceNeg, gk91 hg, gr91_5 hg, gr91_22 hg, gr91_23 hg, gr91_24 hg, gr91_25 hg, gr91_26 hg, gr91_27 hg, gr91_28 hg, gr91_29 hg, gr91_32 hg, gr91_33 hg, gr91_34 hg, gr91_35 hg, gr91_36 hg, gr91_37 hg, gr91_38 hg, gr91_39 hg, gr91_40 hg, gr91_41 hg, gr91_42 hg, gr91_44 hg, gr91_45 hg, gr91_46 hg, gr91_48 hg, gr91_49 hg, gr91_50 hg, gr91_51 hg, gr91_52 hg, hu, m_isBaker hg hk, m_isStep hg hu, m_in, mF_z hk (show 91 < 121 by decide), mF_fr hk f1, mb, e, zu_c n9, v2 h1 f1, k, l]
          have rt0 : rT (zu h1 91 0 0) u T := rT_frame rt (fun c i q => by rw [zu_c (by omega), f1 c i (Or.inl (by omega))])
          apply m_lays hg hu rt0 hw (by decide)
          intro h2 f2 V2 v19 v20 v21
          rw [aLaw_0] at V2
          have mm := fun Q' => m_much' (d := d + 12) (Q := Q') (h := h2) (m := m) hg hu V2 hw v20 v21 m3
          rw [if_pos hm] at mm
          simp only [e200_0, e200_1, e200_2, e200_5, e200_6, e200_7, e200_10, e200_13, e200_14, e200_15, e200_18, e200_19, e200_20, e200_21, e200_24, e200_27, e200_28, e200_29, e200_30, e200_33, e200_36, e200_37, e200_38, e200_41, e200_42, e200_43, e200_44, e200_47, e200_48, e200_49, e200_52, e200_55, e200_56, e200_57, e200_60, e200_61, e200_62, e200_63, e200_66, e200_67, e200_68, e200_71, e200_72, e200_73, e200_76, e200_77, e200_78, e200_79, e200_80, e200_83, e200_86, zs0, zsI, zsL, zsR, ztl1, ztl0, zc0, zcI, zcL, zcR, true_and, and_true, true_implies, false_implies, implies_true, not_true_eq_false, not_false_eq_true, and_self, Int.toNat_natCast, Nat.reduceAdd, Nat.reduceLeDiff, Nat.reduceLT, forall_eq', Option.some.injEq, zarR, zarI, zarL, zle, zq0, zq1, zq2, zq3, zq4, zq5, zq6, zq8, zq9, zq10, zq20, zq7, zq12, zq24, zq40, zq41, zq48, zq100, zq120, zq123, zq480, zq492, zq700, zq729, zq2187, zq2916, zq8748, ne_eq, Int.reduceEq, Int.reduceLT, Int.reduceLE, Int.reduceToNat, Int.reduceMul, Int.reduceAdd, Int.reduceNeg, gk91 hg, gr91_5 hg, gr91_22 hg, gr91_23 hg, gr91_24 hg, gr91_25 hg, gr91_26 hg, gr91_27 hg, gr91_28 hg, gr91_29 hg, gr91_32 hg, gr91_33 hg, gr91_34 hg, gr91_35 hg, gr91_36 hg, gr91_37 hg, gr91_38 hg, gr91_39 hg, gr91_40 hg, gr91_41 hg, gr91_42 hg, gr91_44 hg, gr91_45 hg, gr91_46 hg, gr91_48 hg, gr91_49 hg, gr91_50 hg, gr91_51 hg, gr91_52 hg, or_true, true_or, if_true, if_false, false_and, and_false, false_or, or_false, mm, m_lost hg]
          exact K _ (mEnd2 (rO_lays f2)).1 (mEnd2 (rO_lays f2)).2.1 (mEnd2 (rO_lays f2)).2.2
      · obtain ⟨b, rfl⟩ := Int.eq_ofNat_of_zero_le e1
        obtain ⟨st, rfl⟩ := Int.eq_ofNat_of_zero_le k1
        have hb : b < nB T := by omega
        have hst : st < nP T := by omega
        have hc := acP_ok (b0 := b) hw hst
        have hN := much_ok hw m1 m3 hm hc
        have b3 : (b : Int) < 3 := by omega
        refine PR_q (z := vV T (acP T b st) (nn0 T) (nf0 T) m (hdC T h Y) b) (tr := 0) hI (by decide) ?_ ?_
        · intro Q K
          rw [r84]
          simp only [e84_0, e84_1, e84_2, e84_3, e84_6, e84_9, e84_10, e84_13, e84_14, e84_15, e84_18, e84_21, e84_22, e84_25, e84_26, e84_27, e84_28, e84_31, e84_34, e84_35, e84_38, e84_41, e84_44, e84_45, e84_46, e84_47, e84_48, zs0, zsI, zsL, zsR, ztl1, ztl0, zc0, zcI, zcL, zcR, true_and, and_true, true_implies, false_implies, implies_true, not_true_eq_false, not_false_eq_true, and_self, Int.toNat_natCast, Nat.reduceAdd, Nat.reduceLeDiff, Nat.reduceLT, forall_eq', Option.some.injEq, zarR, zarI, zarL, zle, zq0, zq1, zq2, zq3, zq4, zq5, zq6, zq8, zq9, zq10, zq20, zq7, zq12, zq24, zq40, zq41, zq48, zq100, zq120, zq123, zq480, zq492, zq700, zq729, zq2187, zq2916, zq8748, ne_eq, Int.reduceEq, Int.reduceLT, Int.reduceLE, Int.reduceToNat, Int.reduceMul, Int.reduceAdd, Int.reduceNeg, gk0 hg, gr0_0 hg, gr0_2 hg, gr0_3 hg, gr0_4 hg, gr0_5 hg, gr0_6 hg, gr0_7 hg, gr0_8 hg, gr0_9 hg, gr0_10 hg, f_isBaker hg, f_isStep hg, e, e11, k, ca, t, zu_at]
          apply c_stage7 (d := d + 11) (n := m) (Y := Y) hg kt0 hw (by decide) (by omega) (by rw [zu_c (by decide)]; exact hYe) hY
          intro h1 f1 s1 u14
          rw [aLaw_0, hdC_fr (h := h) (fun i => zu_c (by decide))] at s1
          simp only [e84_51, e84_52, e84_55, e84_56, e84_57, zs0, zsI, zsL, zsR, ztl1, ztl0, zc0, zcI, zcL, zcR, true_and, and_true, true_implies, false_implies, implies_true, not_true_eq_false, not_false_eq_true, and_self, Int.toNat_natCast, Nat.reduceAdd, Nat.reduceLeDiff, Nat.reduceLT, forall_eq', Option.some.injEq, zarR, zarI, zarL, zle, zq0, zq1, zq2, zq3, zq4, zq5, zq6, zq8, zq9, zq10, zq20, zq7, zq12, zq24, zq40, zq41, zq48, zq100, zq120, zq123, zq480, zq492, zq700, zq729, zq2187, zq2916, zq8748, ne_eq, Int.reduceEq, Int.reduceLT, Int.reduceLE, Int.reduceToNat, Int.reduceMul, Int.reduceAdd, Int.reduceNeg, gk0 hg, gr0_0 hg, gr0_2 hg, gr0_3 hg, gr0_4 hg, gr0_5 hg, gr0_6 hg, gr0_7 hg, gr0_8 hg, gr0_9 hg, gr0_10 hg, gk46 hg, gr46_0 hg, gr46_1 hg, gr46_2 hg, gr46_3 hg, gr46_4 hg, gr46_6 hg, gr46_7 hg, gr46_8 hg, gr46_9 hg, gr46_10 hg, gr46_11 hg, gr46_12 hg, gr46_13 hg]
          have kb : ∀ Q' : zQ, zRunD ztb zmt' (d + 15) 33 [zR (some 46), zI (b : Int), zI (st : Int)] G h1 Q' ↔ Q' none G (zu h1 69 b ((aOf T st (nP T - 1) + 1 : Nat) : Int)) := by
            intro Q'
            rw [r33]
            have q11 := s1.1.2.2.1
            have w1 : wr ((nP T : Int) - 1) = ((nP T - 1 : Nat) : Int) := wrN (by omega) (by omega)
            have ao := fun Q'' => c_actOf47 (d := d + 13) (Q := Q'') (h := h1) (T := T) (o := st) (n := nP T - 1) hg s1.1 (by omega) (by omega) (by omega)
            have q := hc b
            have q2 := nA_b hw
            have q3 : acP T b st b = aOf T st (nP T - 1) + 1 := by unfold acP; rw [if_pos rfl]
            have w2 : wr (((aOf T st (nP T - 1) : Nat) : Int) + 1) = ((aOf T st (nP T - 1) + 1 : Nat) : Int) := wr_s (by omega)
            simp only [e33_0, e33_1, e33_4, e33_5, e33_6, e33_9, e33_10, e33_11, e33_14, e33_17, e33_18, e33_19, e33_22, e33_23, e33_24, e33_25, zs0, zsI, zsL, zsR, ztl1, ztl0, zc0, zcI, zcL, zcR, true_and, and_true, true_implies, false_implies, implies_true, not_true_eq_false, not_false_eq_true, and_self, Int.toNat_natCast, Nat.reduceAdd, Nat.reduceLeDiff, Nat.reduceLT, forall_eq', Option.some.injEq, zarR, zarI, zarL, zle, zq0, zq1, zq2, zq3, zq4, zq5, zq6, zq8, zq9, zq10, zq20, zq7, zq12, zq24, zq40, zq41, zq48, zq100, zq120, zq123, zq480, zq492, zq700, zq729, zq2187, zq2916, zq8748, ne_eq, Int.reduceEq, Int.reduceLT, Int.reduceLE, Int.reduceToNat, Int.reduceMul, Int.reduceAdd, Int.reduceNeg, gk46 hg, gr46_0 hg, gr46_1 hg, gr46_2 hg, gr46_3 hg, gr46_4 hg, gr46_6 hg, gr46_7 hg, gr46_8 hg, gr46_9 hg, gr46_10 hg, gr46_11 hg, gr46_12 hg, gr46_13 hg, gk49 hg, gr49_0 hg, gr49_1 hg, gr49_2 hg, gr49_3 hg, gr49_4 hg, gr49_5 hg, gr49_6 hg, gr49_7 hg, gr49_8 hg, gk69 hg, gl69 hg, or_true, true_or, if_true, if_false, false_and, and_false, false_or, or_false, q11, w1, ao, w2, b3]
          simp only [kb]
          have s2 : sg T m (hdC T h Y) (nn0 T) (nf0 T) (acP T b st) (zu h1 69 b ((aOf T st (nP T - 1) + 1 : Nat) : Int)) := by
            obtain ⟨a1, a2, a3, a4, a5, a6⟩ := s1
            refine ⟨kT_frame a1 (fun c i q1 q2 => zu_c (by omega)), ?_, ?_, ?_, ?_, ?_⟩
            · intro b' hb'
              unfold acP
              by_cases q : b' = b
              · rw [if_pos q, q]; exact zu_at
              · rw [if_neg q, zu_i q]; exact a2 b' hb'
            · intro s hs; rw [zu_c (by decide)]; exact a3 s hs
            · intro s hs; rw [zu_c (by decide)]; exact a4 s hs
            · rw [zu_c (by decide)]; exact a5
            · intro s b' q1 q2; rw [zu_c (by omega)]; exact a6 s b' q1 q2
          simp only [e84_60, e84_61, e84_62, e84_63, zs0, zsI, zsL, zsR, ztl1, ztl0, zc0, zcI, zcL, zcR, true_and, and_true, true_implies, false_implies, implies_true, not_true_eq_false, not_false_eq_true, and_self, Int.toNat_natCast, Nat.reduceAdd, Nat.reduceLeDiff, Nat.reduceLT, forall_eq', Option.some.injEq, zarR, zarI, zarL, zle, zq0, zq1, zq2, zq3, zq4, zq5, zq6, zq8, zq9, zq10, zq20, zq7, zq12, zq24, zq40, zq41, zq48, zq100, zq120, zq123, zq480, zq492, zq700, zq729, zq2187, zq2916, zq8748, ne_eq, Int.reduceEq, Int.reduceLT, Int.reduceLE, Int.reduceToNat, Int.reduceMul, Int.reduceAdd, Int.reduceNeg, gk0 hg, gr0_0 hg, gr0_2 hg, gr0_3 hg, gr0_4 hg, gr0_5 hg, gr0_6 hg, gr0_7 hg, gr0_8 hg, gr0_9 hg, gr0_10 hg]
          apply c_war (d := d + 6) hg hw hc (fB00 hw) m1 m3 hN ok.1 (by omega) (by omega) ok.2.2 s2 hb
          intro h2 f2
          simp only [e84_66, zs0, zsI, zsL, zsR, ztl1, ztl0, zc0, zcI, zcL, zcR, true_and, and_true, true_implies, false_implies, implies_true, not_true_eq_false, not_false_eq_true, and_self, Int.toNat_natCast, Nat.reduceAdd, Nat.reduceLeDiff, Nat.reduceLT, forall_eq', Option.some.injEq, zarR, zarI, zarL, zle, zq0, zq1, zq2, zq3, zq4, zq5, zq6, zq8, zq9, zq10, zq20, zq7, zq12, zq24, zq40, zq41, zq48, zq100, zq120, zq123, zq480, zq492, zq700, zq729, zq2187, zq2916, zq8748, ne_eq, Int.reduceEq, Int.reduceLT, Int.reduceLE, Int.reduceToNat, Int.reduceMul, Int.reduceAdd, Int.reduceNeg]
          have co := cfr_out (h := h) (h' := h2) (fun c i q => by rw [f2 c i q, zu_c (by omega), f1 c i q])
          exact K _ co.1 co.2
        · intro h1 f1 Q K
          rw [r200]
          have fz : ∀ c i, 91 ≤ c → h1 c i = h c i := fun c i q => f1 c i (Or.inl q)
          have rt0 : rT (zu h1 91 0 0) u T := rT_frame rt (fun c i q => by rw [zu_c (by omega), fz c i (by omega)])
          simp only [e200_0, e200_1, e200_2, e200_5, e200_6, e200_7, e200_10, e200_13, e200_14, e200_15, e200_18, e200_19, e200_20, e200_21, e200_24, e200_27, e200_28, e200_29, e200_30, e200_33, e200_36, e200_37, e200_38, e200_41, e200_42, e200_43, e200_44, zs0, zsI, zsL, zsR, ztl1, ztl0, zc0, zcI, zcL, zcR, true_and, and_true, true_implies, false_implies, implies_true, not_true_eq_false, not_false_eq_true, and_self, Int.toNat_natCast, Nat.reduceAdd, Nat.reduceLeDiff, Nat.reduceLT, forall_eq', Option.some.injEq, zarR, zarI, zarL, zle, zq0, zq1, zq2, zq3, zq4, zq5, zq6, zq8, zq9, zq10, zq20, zq7, zq12, zq24, zq40, zq41, zq48, zq100, zq120, zq123, zq480, zq492, zq700, zq729, zq2187, zq2916, zq8748, ne_eq, Int.reduceEq, Int.reduceLT, Int.reduceLE, Int.reduceToNat, Int.reduceMul, Int.reduceAdd, Int.reduceNeg, gk91 hg, gr91_5 hg, gr91_22 hg, gr91_23 hg, gr91_24 hg, gr91_25 hg, gr91_26 hg, gr91_27 hg, gr91_28 hg, gr91_29 hg, gr91_32 hg, gr91_33 hg, gr91_34 hg, gr91_35 hg, gr91_36 hg, gr91_37 hg, gr91_38 hg, gr91_39 hg, gr91_40 hg, gr91_41 hg, gr91_42 hg, gr91_44 hg, gr91_45 hg, gr91_46 hg, gr91_48 hg, gr91_49 hg, gr91_50 hg, gr91_51 hg, gr91_52 hg, hu, m_isBaker hg hk, m_isStep hg hu, m_in, mF_z hk (show 91 < 121 by decide), mF_fr hk f1, mb, e, zu_c n9, v2 h1 f1, k, l]
          apply m_lays hg hu rt0 hw (by decide)
          intro h2 f2 V2 v19 v20 v21
          rw [aLaw_0] at V2
          have mm := fun Q' => m_much' (d := d + 12) (Q := Q') (h := h2) (m := m) hg hu V2 hw v20 v21 m3
          rw [if_neg (by omega)] at mm
          simp only [e200_47, e200_48, e200_49, e200_52, e200_55, e200_56, e200_57, e200_60, e200_61, e200_62, e200_63, e200_66, e200_67, e200_68, e200_71, e200_72, e200_73, zs0, zsI, zsL, zsR, ztl1, ztl0, zc0, zcI, zcL, zcR, true_and, and_true, true_implies, false_implies, implies_true, not_true_eq_false, not_false_eq_true, and_self, Int.toNat_natCast, Nat.reduceAdd, Nat.reduceLeDiff, Nat.reduceLT, forall_eq', Option.some.injEq, zarR, zarI, zarL, zle, zq0, zq1, zq2, zq3, zq4, zq5, zq6, zq8, zq9, zq10, zq20, zq7, zq12, zq24, zq40, zq41, zq48, zq100, zq120, zq123, zq480, zq492, zq700, zq729, zq2187, zq2916, zq8748, ne_eq, Int.reduceEq, Int.reduceLT, Int.reduceLE, Int.reduceToNat, Int.reduceMul, Int.reduceAdd, Int.reduceNeg, gk91 hg, gr91_5 hg, gr91_22 hg, gr91_23 hg, gr91_24 hg, gr91_25 hg, gr91_26 hg, gr91_27 hg, gr91_28 hg, gr91_29 hg, gr91_32 hg, gr91_33 hg, gr91_34 hg, gr91_35 hg, gr91_36 hg, gr91_37 hg, gr91_38 hg, gr91_39 hg, gr91_40 hg, gr91_41 hg, gr91_42 hg, gr91_44 hg, gr91_45 hg, gr91_46 hg, gr91_48 hg, gr91_49 hg, gr91_50 hg, gr91_51 hg, gr91_52 hg, mm]
          apply m_begins (n := m) hg hu m3
          intro h3 f3 a1 a2 a3
          have z2 : ∀ c i, ¬ (c = 91 ∧ i = 20) → ¬ (c = 91 ∧ i = 21) → (zu (zu h2 91 20 (b : Int)) 91 21 (st : Int)) c i = h2 c i := fun c i q1 q2 => by rw [zu, if_neg q2, zu, if_neg q1]
          have V3 : rV h3 u T := rV_frame V2 (fun c i q => by rw [f3 c i (by omega) (by omega) (by omega), z2 c i (by omega) (by omega)]) (fun i => by rw [f3 _ _ (by omega) (by omega) (by omega), z2 _ _ (by omega) (by omega)]) (fun i _ _ => by rw [f3 _ _ (by omega) (by omega) (by omega), z2 _ _ (by omega) (by omega)])
          have hP : rPre T (acP T b st) (nn0 T) (nf0 T) u m (hdC T h Y) h3 := rPre_mk hw V3 (acP_rA hw hst (by rw [f3 _ _ (by omega) (by omega) (by omega), zu_i (by decide), zu_at]) (by rw [f3 _ _ (by omega) (by omega) (by omega), zu_at])) (by rw [f3 _ _ (by omega) (by omega) (by omega), z2 _ _ (by omega) (by omega)]; exact v19) (fun s hs => by rw [a1 s (by omega), z2 _ _ (by omega) (by omega)]; exact V2.2.2.2.2.2.2.2.2.1 s hs) (hd_m hw i4 (fun k hk => by rw [a3 k hk, z2 _ _ (by omega) (by omega), f2 _ _ (by omega) (by omega), zu_c (by decide), fz _ _ (by omega)])) a2
          simp only [e200_76, e200_77, e200_78, e200_79, e200_80, zs0, zsI, zsL, zsR, ztl1, ztl0, zc0, zcI, zcL, zcR, true_and, and_true, true_implies, false_implies, implies_true, not_true_eq_false, not_false_eq_true, and_self, Int.toNat_natCast, Nat.reduceAdd, Nat.reduceLeDiff, Nat.reduceLT, forall_eq', Option.some.injEq, zarR, zarI, zarL, zle, zq0, zq1, zq2, zq3, zq4, zq5, zq6, zq8, zq9, zq10, zq20, zq7, zq12, zq24, zq40, zq41, zq48, zq100, zq120, zq123, zq480, zq492, zq700, zq729, zq2187, zq2916, zq8748, ne_eq, Int.reduceEq, Int.reduceLT, Int.reduceLE, Int.reduceToNat, Int.reduceMul, Int.reduceAdd, Int.reduceNeg, gk91 hg, gr91_5 hg, gr91_22 hg, gr91_23 hg, gr91_24 hg, gr91_25 hg, gr91_26 hg, gr91_27 hg, gr91_28 hg, gr91_29 hg, gr91_32 hg, gr91_33 hg, gr91_34 hg, gr91_35 hg, gr91_36 hg, gr91_37 hg, gr91_38 hg, gr91_39 hg, gr91_40 hg, gr91_41 hg, gr91_42 hg, gr91_44 hg, gr91_45 hg, gr91_46 hg, gr91_48 hg, gr91_49 hg, gr91_50 hg, gr91_51 hg, gr91_52 hg]
          apply m_worthOf (d := d + 2) hg hu hw hc (fB00 hw) m1 m3 ok.1 (by omega) (by omega) ok.2.2 hP hb
          intro h4 hp
          have o4 := rFr_out hp.1
          have ro : rO (zu h1 91 0 0) h4 := fun c i q => by rw [o4 c i (by omega), f3 c i (by omega) (by omega) (by omega), z2 c i (by omega) (by omega), f2 c i (by omega) (by omega)]
          simp only [e200_83, e200_86, zs0, zsI, zsL, zsR, ztl1, ztl0, zc0, zcI, zcL, zcR, true_and, and_true, true_implies, false_implies, implies_true, not_true_eq_false, not_false_eq_true, and_self, Int.toNat_natCast, Nat.reduceAdd, Nat.reduceLeDiff, Nat.reduceLT, forall_eq', Option.some.injEq, zarR, zarI, zarL, zle, zq0, zq1, zq2, zq3, zq4, zq5, zq6, zq8, zq9, zq10, zq20, zq7, zq12, zq24, zq40, zq41, zq48, zq100, zq120, zq123, zq480, zq492, zq700, zq729, zq2187, zq2916, zq8748, ne_eq, Int.reduceEq, Int.reduceLT, Int.reduceLE, Int.reduceToNat, Int.reduceMul, Int.reduceAdd, Int.reduceNeg, gk91 hg, gr91_5 hg, gr91_22 hg, gr91_23 hg, gr91_24 hg, gr91_25 hg, gr91_26 hg, gr91_27 hg, gr91_28 hg, gr91_29 hg, gr91_32 hg, gr91_33 hg, gr91_34 hg, gr91_35 hg, gr91_36 hg, gr91_37 hg, gr91_38 hg, gr91_39 hg, gr91_40 hg, gr91_41 hg, gr91_42 hg, gr91_44 hg, gr91_45 hg, gr91_46 hg, gr91_48 hg, gr91_49 hg, gr91_50 hg, gr91_51 hg, gr91_52 hg, m_told hg]
          exact K _ (mEnd2 ro).1 (mEnd2 ro).2.1 (mEnd2 ro).2.2
    · refine PR_q (z := -9223372036854775808) (tr := 2) hI (by decide) ?_ ?_
      · intro Q K
        rw [r84]
        simp only [e84_0, e84_1, e84_2, e84_3, e84_6, e84_9, e84_10, e84_13, e84_14, e84_15, e84_18, e84_21, e84_22, e84_25, e84_26, e84_27, e84_28, e84_31, e84_34, e84_35, e84_38, e84_41, e84_44, e84_45, e84_46, e84_47, e84_48, e84_51, e84_52, e84_55, e84_56, e84_57, e84_60, e84_61, e84_62, e84_63, e84_66, zs0, zsI, zsL, zsR, ztl1, ztl0, zc0, zcI, zcL, zcR, true_and, and_true, true_implies, false_implies, implies_true, not_true_eq_false, not_false_eq_true, and_self, Int.toNat_natCast, Nat.reduceAdd, Nat.reduceLeDiff, Nat.reduceLT, forall_eq', Option.some.injEq, zarR, zarI, zarL, zle, zq0, zq1, zq2, zq3, zq4, zq5, zq6, zq8, zq9, zq10, zq20, zq7, zq12, zq24, zq40, zq41, zq48, zq100, zq120, zq123, zq480, zq492, zq700, zq729, zq2187, zq2916, zq8748, ne_eq, Int.reduceEq, Int.reduceLT, Int.reduceLE, Int.reduceToNat, Int.reduceMul, Int.reduceAdd, Int.reduceNeg, gk0 hg, gr0_0 hg, gr0_2 hg, gr0_3 hg, gr0_4 hg, gr0_5 hg, gr0_6 hg, gr0_7 hg, gr0_8 hg, gr0_9 hg, gr0_10 hg, or_true, true_or, if_true, if_false, false_and, and_false, false_or, or_false, f_isBaker hg, f_isStep hg, e, e11, k, zu_at]
        exact K _ cfr.z zu_at
      · intro h1 f1 Q K
        rw [r200]
        simp only [e200_0, e200_1, e200_2, e200_5, e200_6, e200_7, e200_10, e200_13, e200_14, e200_15, e200_18, e200_19, e200_20, e200_21, e200_24, e200_27, e200_28, e200_29, e200_30, e200_33, e200_36, e200_37, e200_38, e200_41, e200_42, e200_43, e200_44, e200_47, e200_48, e200_49, e200_52, e200_55, e200_56, e200_57, e200_60, e200_61, e200_62, e200_63, e200_66, e200_67, e200_68, e200_71, e200_72, e200_73, e200_76, e200_77, e200_78, e200_79, e200_80, e200_83, e200_86, zs0, zsI, zsL, zsR, ztl1, ztl0, zc0, zcI, zcL, zcR, true_and, and_true, true_implies, false_implies, implies_true, not_true_eq_false, not_false_eq_true, and_self, Int.toNat_natCast, Nat.reduceAdd, Nat.reduceLeDiff, Nat.reduceLT, forall_eq', Option.some.injEq, zarR, zarI, zarL, zle, zq0, zq1, zq2, zq3, zq4, zq5, zq6, zq8, zq9, zq10, zq20, zq7, zq12, zq24, zq40, zq41, zq48, zq100, zq120, zq123, zq480, zq492, zq700, zq729, zq2187, zq2916, zq8748, ne_eq, Int.reduceEq, Int.reduceLT, Int.reduceLE, Int.reduceToNat, Int.reduceMul, Int.reduceAdd, Int.reduceNeg, gk91 hg, gr91_5 hg, gr91_22 hg, gr91_23 hg, gr91_24 hg, gr91_25 hg, gr91_26 hg, gr91_27 hg, gr91_28 hg, gr91_29 hg, gr91_32 hg, gr91_33 hg, gr91_34 hg, gr91_35 hg, gr91_36 hg, gr91_37 hg, gr91_38 hg, gr91_39 hg, gr91_40 hg, gr91_41 hg, gr91_42 hg, gr91_44 hg, gr91_45 hg, gr91_46 hg, gr91_48 hg, gr91_49 hg, gr91_50 hg, gr91_51 hg, gr91_52 hg, or_true, true_or, if_true, if_false, false_and, and_false, false_or, or_false, m_isBaker hg hk, m_isStep hg hu, mF_z hk (show 91 < 121 by decide), mF_fr hk f1, mb, e, zu_c n9, v2 h1 f1, k, m_lost hg]
        exact K _ mEnd.1 mEnd.2.1 mEnd.2.2
  · refine PR_q (z := -9223372036854775808) (tr := 1) hI (by decide) ?_ ?_
    · intro Q K
      rw [r84]
      simp only [e84_0, e84_1, e84_2, e84_3, e84_6, e84_9, e84_10, e84_13, e84_14, e84_15, e84_18, e84_21, e84_22, e84_25, e84_26, e84_27, e84_28, e84_31, e84_34, e84_35, e84_38, e84_41, e84_44, e84_45, e84_46, e84_47, e84_48, e84_51, e84_52, e84_55, e84_56, e84_57, e84_60, e84_61, e84_62, e84_63, e84_66, zs0, zsI, zsL, zsR, ztl1, ztl0, zc0, zcI, zcL, zcR, true_and, and_true, true_implies, false_implies, implies_true, not_true_eq_false, not_false_eq_true, and_self, Int.toNat_natCast, Nat.reduceAdd, Nat.reduceLeDiff, Nat.reduceLT, forall_eq', Option.some.injEq, zarR, zarI, zarL, zle, zq0, zq1, zq2, zq3, zq4, zq5, zq6, zq8, zq9, zq10, zq20, zq7, zq12, zq24, zq40, zq41, zq48, zq100, zq120, zq123, zq480, zq492, zq700, zq729, zq2187, zq2916, zq8748, ne_eq, Int.reduceEq, Int.reduceLT, Int.reduceLE, Int.reduceToNat, Int.reduceMul, Int.reduceAdd, Int.reduceNeg, gk0 hg, gr0_0 hg, gr0_2 hg, gr0_3 hg, gr0_4 hg, gr0_5 hg, gr0_6 hg, gr0_7 hg, gr0_8 hg, gr0_9 hg, gr0_10 hg, or_true, true_or, if_true, if_false, false_and, and_false, false_or, or_false, f_isBaker hg, e, zu_at]
      exact K _ cfr.z zu_at
    · intro h1 f1 Q K
      rw [r200]
      simp only [e200_0, e200_1, e200_2, e200_5, e200_6, e200_7, e200_10, e200_13, e200_14, e200_15, e200_18, e200_19, e200_20, e200_21, e200_24, e200_27, e200_28, e200_29, e200_30, e200_33, e200_36, e200_37, e200_38, e200_41, e200_42, e200_43, e200_44, e200_47, e200_48, e200_49, e200_52, e200_55, e200_56, e200_57, e200_60, e200_61, e200_62, e200_63, e200_66, e200_67, e200_68, e200_71, e200_72, e200_73, e200_76, e200_77, e200_78, e200_79, e200_80, e200_83, e200_86, zs0, zsI, zsL, zsR, ztl1, ztl0, zc0, zcI, zcL, zcR, true_and, and_true, true_implies, false_implies, implies_true, not_true_eq_false, not_false_eq_true, and_self, Int.toNat_natCast, Nat.reduceAdd, Nat.reduceLeDiff, Nat.reduceLT, forall_eq', Option.some.injEq, zarR, zarI, zarL, zle, zq0, zq1, zq2, zq3, zq4, zq5, zq6, zq8, zq9, zq10, zq20, zq7, zq12, zq24, zq40, zq41, zq48, zq100, zq120, zq123, zq480, zq492, zq700, zq729, zq2187, zq2916, zq8748, ne_eq, Int.reduceEq, Int.reduceLT, Int.reduceLE, Int.reduceToNat, Int.reduceMul, Int.reduceAdd, Int.reduceNeg, gk91 hg, gr91_5 hg, gr91_22 hg, gr91_23 hg, gr91_24 hg, gr91_25 hg, gr91_26 hg, gr91_27 hg, gr91_28 hg, gr91_29 hg, gr91_32 hg, gr91_33 hg, gr91_34 hg, gr91_35 hg, gr91_36 hg, gr91_37 hg, gr91_38 hg, gr91_39 hg, gr91_40 hg, gr91_41 hg, gr91_42 hg, gr91_44 hg, gr91_45 hg, gr91_46 hg, gr91_48 hg, gr91_49 hg, gr91_50 hg, gr91_51 hg, gr91_52 hg, or_true, true_or, if_true, if_false, false_and, and_false, false_or, or_false, m_isBaker hg hk, mF_z hk (show 91 < 121 by decide), mF_fr hk f1, mb, e, m_lost hg]
      exact K _ mEnd.1 mEnd.2.1 mEnd.2.2
theorem p_shape (hI : INV G h) : PR zL d 85 202 [zI x, zI y, zI z] G h := by
  have hg := hI.1
  have hk := INV_gK hI
  obtain ⟨mb, ms⟩ := INV_mF hI
  rcases rng_c 0 (h 18 9) x with ⟨e, e1, e2⟩ | ⟨e, e2⟩
  · obtain ⟨u, T, Y, hu, hu2, hw, kt, rt, i4, i5⟩ := INV_T hI (by omega)
    have u1 := hu.1
    have n9 : ¬ u = 91 := by omega
    have hY := i4.1.1
    have hYe := i4.1.2.1
    have hb3 := hw.1
    have hs4 := hw.2.1
    have hp3 := hw.2.2.1
    have e9 := kt.1
    have kt0 : kT (zu h 0 11 0) 18 T := kT_frame kt (fun c i q1 q2 => zu_c (by omega))
    have ok := I4_pOk i4
    rcases rng_c 0 (h 18 9) y with ⟨k, k1, k2⟩ | ⟨k, k2⟩
    · have ca := fun Q' => c_ahead (d := d + 13) (Q := Q') (h := h) (n := z) (law := 0) hg kt hw
      have tc := tA_c T z 0
      rw [aLaw_0] at tc
      rcases tc with ⟨t, l⟩ | ⟨t, l, m, rfl, m1, m3, hm⟩ | ⟨t, l, m, rfl, m1, m3, hm⟩
      · refine PR_q (z := -9223372036854775808) (tr := 2) hI (by decide) ?_ ?_
        · intro Q K
          rw [r85]
          simp only [e85_0, e85_1, e85_2, e85_3, e85_6, e85_9, e85_10, e85_11, e85_14, e85_17, e85_18, e85_19, e85_20, e85_23, e85_26, e85_27, e85_30, e85_31, e85_34, e85_37, e85_40, e85_41, e85_42, e85_43, e85_44, e85_45, e85_48, zs0, zsI, zsL, zsR, ztl1, ztl0, zc0, zcI, zcL, zcR, true_and, and_true, true_implies, false_implies, implies_true, not_true_eq_false, not_false_eq_true, and_self, Int.toNat_natCast, Nat.reduceAdd, Nat.reduceLeDiff, Nat.reduceLT, forall_eq', Option.some.injEq, zarR, zarI, zarL, zle, zq0, zq1, zq2, zq3, zq4, zq5, zq6, zq8, zq9, zq10, zq20, zq7, zq12, zq24, zq40, zq41, zq48, zq100, zq120, zq123, zq480, zq492, zq700, zq729, zq2187, zq2916, zq8748, ne_eq, Int.reduceEq, Int.reduceLT, Int.reduceLE, Int.reduceToNat, Int.reduceMul, Int.reduceAdd, Int.reduceNeg, gk0 hg, gr0_0 hg, gr0_2 hg, gr0_3 hg, gr0_4 hg, gr0_5 hg, gr0_6 hg, gr0_7 hg, gr0_8 hg, gr0_9 hg, gr0_10 hg, or_true, true_or, if_true, if_false, false_and, and_false, false_or, or_false, f_isBaker hg, e, k, ca, t, zu_at]
          exact K _ cfr.z zu_at
        · intro h1 f1 Q K
          rw [r202]
          simp only [e202_0, e202_1, e202_2, e202_5, e202_6, e202_7, e202_10, e202_13, e202_14, e202_15, e202_18, e202_21, e202_22, e202_23, e202_26, e202_27, e202_28, e202_29, e202_30, e202_33, e202_36, e202_37, e202_38, e202_41, e202_42, e202_43, e202_44, e202_47, e202_48, e202_49, e202_52, e202_55, e202_56, e202_57, e202_60, e202_63, e202_64, e202_65, e202_66, e202_67, e202_68, e202_71, e202_74, zs0, zsI, zsL, zsR, ztl1, ztl0, zc0, zcI, zcL, zcR, true_and, and_true, true_implies, false_implies, implies_true, not_true_eq_false, not_false_eq_true, and_self, Int.toNat_natCast, Nat.reduceAdd, Nat.reduceLeDiff, Nat.reduceLT, forall_eq', Option.some.injEq, zarR, zarI, zarL, zle, zq0, zq1, zq2, zq3, zq4, zq5, zq6, zq8, zq9, zq10, zq20, zq7, zq12, zq24, zq40, zq41, zq48, zq100, zq120, zq123, zq480, zq492, zq700, zq729, zq2187, zq2916, zq8748, ne_eq, Int.reduceEq, Int.reduceLT, Int.reduceLE, Int.reduceToNat, Int.reduceMul, Int.reduceAdd, Int.reduceNeg, gk91 hg, gr91_5 hg, gr91_22 hg, gr91_23 hg, gr91_24 hg, gr91_25 hg, gr91_26 hg, gr91_27 hg, gr91_28 hg, gr91_29 hg, gr91_32 hg, gr91_33 hg, gr91_34 hg, gr91_35 hg, gr91_36 hg, gr91_37 hg, gr91_38 hg, gr91_39 hg, gr91_40 hg, gr91_41 hg, gr91_42 hg, gr91_44 hg, gr91_45 hg, gr91_46 hg, gr91_48 hg, gr91_49 hg, gr91_50 hg, gr91_51 hg, gr91_52 hg, or_true, true_or, if_true, if_false, false_and, and_false, false_or, or_false, m_isBaker hg hk, m_in, mF_z hk (show 91 < 121 by decide), mF_fr hk f1, mb, e, k, l, m_lost hg]
          exact K _ mEnd.1 mEnd.2.1 mEnd.2.2
      · refine PR_q (z := -9223372036854775808) (tr := 3) hI (by decide) ?_ ?_
        · intro Q K
          rw [r85]
          simp only [e85_0, e85_1, e85_2, e85_3, e85_6, e85_9, e85_10, e85_11, e85_14, e85_17, e85_18, e85_19, e85_20, e85_23, e85_26, e85_27, e85_30, e85_31, e85_34, e85_37, e85_40, e85_41, e85_42, e85_43, e85_44, e85_45, e85_48, zs0, zsI, zsL, zsR, ztl1, ztl0, zc0, zcI, zcL, zcR, true_and, and_true, true_implies, false_implies, implies_true, not_true_eq_false, not_false_eq_true, and_self, Int.toNat_natCast, Nat.reduceAdd, Nat.reduceLeDiff, Nat.reduceLT, forall_eq', Option.some.injEq, zarR, zarI, zarL, zle, zq0, zq1, zq2, zq3, zq4, zq5, zq6, zq8, zq9, zq10, zq20, zq7, zq12, zq24, zq40, zq41, zq48, zq100, zq120, zq123, zq480, zq492, zq700, zq729, zq2187, zq2916, zq8748, ne_eq, Int.reduceEq, Int.reduceLT, Int.reduceLE, Int.reduceToNat, Int.reduceMul, Int.reduceAdd, Int.reduceNeg, gk0 hg, gr0_0 hg, gr0_2 hg, gr0_3 hg, gr0_4 hg, gr0_5 hg, gr0_6 hg, gr0_7 hg, gr0_8 hg, gr0_9 hg, gr0_10 hg, or_true, true_or, if_true, if_false, false_and, and_false, false_or, or_false, f_isBaker hg, e, k, ca, t, zu_at]
          exact K _ cfr.z zu_at
        · intro h1 f1 Q K
          rw [r202]
          simp only [e202_0, e202_1, e202_2, e202_5, e202_6, e202_7, e202_10, e202_13, e202_14, e202_15, e202_18, e202_21, e202_22, e202_23, e202_26, e202_27, e202_28, e202_29, e202_30, e202_33, e202_36, e202_37, e202_38, e202_41, e202_42, e202_43, e202_44, zs0, zsI, zsL, zsR, ztl1, ztl0, zc0, zcI, zcL, zcR, true_and, and_true, true_implies, false_implies, implies_true, not_true_eq_false, not_false_eq_true, and_self, Int.toNat_natCast, Nat.reduceAdd, Nat.reduceLeDiff, Nat.reduceLT, forall_eq', Option.some.injEq, zarR, zarI, zarL, zle, zq0, zq1, zq2, zq3, zq4, zq5, zq6, zq8, zq9, zq10, zq20, zq7, zq12, zq24, zq40, zq41, zq48, zq100, zq120, zq123, zq480, zq492, zq700, zq729, zq2187, zq2916, zq8748, ne_eq, Int.reduceEq, Int.reduceLT, Int.reduceLE, Int.reduceToNat, Int.reduceMul, Int.reduceAdd, Int.reduceNeg, gk91 hg, gr91_5 hg, gr91_22 hg, gr91_23 hg, gr91_24 hg, gr91_25 hg, gr91_26 hg, gr91_27 hg, gr91_28 hg, gr91_29 hg, gr91_32 hg, gr91_33 hg, gr91_34 hg, gr91_35 hg, gr91_36 hg, gr91_37 hg, gr91_38 hg, gr91_39 hg, gr91_40 hg, gr91_41 hg, gr91_42 hg, gr91_44 hg, gr91_45 hg, gr91_46 hg, gr91_48 hg, gr91_49 hg, gr91_50 hg, gr91_51 hg, gr91_52 hg, hu, m_isBaker hg hk, m_in, mF_z hk (show 91 < 121 by decide), mF_fr hk f1, mb, e, k, l]
          have rt0 : rT (zu h1 91 0 0) u T := rT_frame rt (fun c i q => by rw [zu_c (by omega), f1 c i (Or.inl (by omega))])
          apply m_lays hg hu rt0 hw (by decide)
          intro h2 f2 V2 v19 v20 v21
          rw [aLaw_0] at V2
          have mm := fun Q' => m_much' (d := d + 12) (Q := Q') (h := h2) (m := m) hg hu V2 hw v20 v21 m3
          rw [if_pos hm] at mm
          simp only [e202_0, e202_1, e202_2, e202_5, e202_6, e202_7, e202_10, e202_13, e202_14, e202_15, e202_18, e202_21, e202_22, e202_23, e202_26, e202_27, e202_28, e202_29, e202_30, e202_33, e202_36, e202_37, e202_38, e202_41, e202_42, e202_43, e202_44, e202_47, e202_48, e202_49, e202_52, e202_55, e202_56, e202_57, e202_60, e202_63, e202_64, e202_65, e202_66, e202_67, e202_68, e202_71, e202_74, zs0, zsI, zsL, zsR, ztl1, ztl0, zc0, zcI, zcL, zcR, true_and, and_true, true_implies, false_implies, implies_true, not_true_eq_false, not_false_eq_true, and_self, Int.toNat_natCast, Nat.reduceAdd, Nat.reduceLeDiff, Nat.reduceLT, forall_eq', Option.some.injEq, zarR, zarI, zarL, zle, zq0, zq1, zq2, zq3, zq4, zq5, zq6, zq8, zq9, zq10, zq20, zq7, zq12, zq24, zq40, zq41, zq48, zq100, zq120, zq123, zq480, zq492, zq700, zq729, zq2187, zq2916, zq8748, ne_eq, Int.reduceEq, Int.reduceLT, Int.reduceLE, Int.reduceToNat, Int.reduceMul, Int.reduceAdd, Int.reduceNeg, gk91 hg, gr91_5 hg, gr91_22 hg, gr91_23 hg, gr91_24 hg, gr91_25 hg, gr91_26 hg, gr91_27 hg, gr91_28 hg, gr91_29 hg, gr91_32 hg, gr91_33 hg, gr91_34 hg, gr91_35 hg, gr91_36 hg, gr91_37 hg, gr91_38 hg, gr91_39 hg, gr91_40 hg, gr91_41 hg, gr91_42 hg, gr91_44 hg, gr91_45 hg, gr91_46 hg, gr91_48 hg, gr91_49 hg, gr91_50 hg, gr91_51 hg, gr91_52 hg, or_true, true_or, if_true, if_false, false_and, and_false, false_or, or_false, mm, m_lost hg]
          exact K _ (mEnd2 (rO_lays f2)).1 (mEnd2 (rO_lays f2)).2.1 (mEnd2 (rO_lays f2)).2.2
      · obtain ⟨b, rfl⟩ := Int.eq_ofNat_of_zero_le e1
        obtain ⟨o, rfl⟩ := Int.eq_ofNat_of_zero_le k1
        have hb : b < nB T := by omega
        have ho : o < nB T := by omega
        have hN := much_ok hw m1 m3 hm (acOk_all hw)
        refine PR_q (z := vV (aFt T b (tr T 1 o)) (fun _ => nA T) (nn0 T) (nf0 T) m (hdC T h Y) b) (tr := 0) hI (by decide) ?_ ?_
        · intro Q K
          rw [r85]
          simp only [e85_0, e85_1, e85_2, e85_3, e85_6, e85_9, e85_10, e85_11, e85_14, e85_17, e85_18, e85_19, e85_20, e85_23, e85_26, e85_27, e85_30, e85_31, e85_34, e85_37, e85_40, e85_41, e85_42, e85_43, e85_44, e85_45, zs0, zsI, zsL, zsR, ztl1, ztl0, zc0, zcI, zcL, zcR, true_and, and_true, true_implies, false_implies, implies_true, not_true_eq_false, not_false_eq_true, and_self, Int.toNat_natCast, Nat.reduceAdd, Nat.reduceLeDiff, Nat.reduceLT, forall_eq', Option.some.injEq, zarR, zarI, zarL, zle, zq0, zq1, zq2, zq3, zq4, zq5, zq6, zq8, zq9, zq10, zq20, zq7, zq12, zq24, zq40, zq41, zq48, zq100, zq120, zq123, zq480, zq492, zq700, zq729, zq2187, zq2916, zq8748, ne_eq, Int.reduceEq, Int.reduceLT, Int.reduceLE, Int.reduceToNat, Int.reduceMul, Int.reduceAdd, Int.reduceNeg, gk0 hg, gr0_0 hg, gr0_2 hg, gr0_3 hg, gr0_4 hg, gr0_5 hg, gr0_6 hg, gr0_7 hg, gr0_8 hg, gr0_9 hg, gr0_10 hg, f_isBaker hg, e, k, ca, t, zu_at]
          have eh : hdC T (zu h 0 11 0) Y = hdC T h Y := hdC_fr (fun i => zu_c (by decide))
          apply c_wos (d := d + 5) (Y := Y) (B := 30100 * (Y : Int) + 29997) hg kt0 hw m1 m3 hN (by rw [zu_c (by decide)]; exact hYe) hY (by rw [eh]; exact ok.1) (by omega) (by omega) (by rw [eh]; exact ok.2.2) hb ho
          intro h2 f2
          rw [eh]
          simp only [e85_48, zs0, zsI, zsL, zsR, ztl1, ztl0, zc0, zcI, zcL, zcR, true_and, and_true, true_implies, false_implies, implies_true, not_true_eq_false, not_false_eq_true, and_self, Int.toNat_natCast, Nat.reduceAdd, Nat.reduceLeDiff, Nat.reduceLT, forall_eq', Option.some.injEq, zarR, zarI, zarL, zle, zq0, zq1, zq2, zq3, zq4, zq5, zq6, zq8, zq9, zq10, zq20, zq7, zq12, zq24, zq40, zq41, zq48, zq100, zq120, zq123, zq480, zq492, zq700, zq729, zq2187, zq2916, zq8748, ne_eq, Int.reduceEq, Int.reduceLT, Int.reduceLE, Int.reduceToNat, Int.reduceMul, Int.reduceAdd, Int.reduceNeg]
          exact K _ (cfr_out f2).1 (cfr_out f2).2
        · intro h1 f1 Q K
          rw [r202]
          have fz : ∀ c i, 91 ≤ c → h1 c i = h c i := fun c i q => f1 c i (Or.inl q)
          have rt0 : rT (zu h1 91 0 0) u T := rT_frame rt (fun c i q => by rw [zu_c (by omega), fz c i (by omega)])
          simp only [e202_0, e202_1, e202_2, e202_5, e202_6, e202_7, e202_10, e202_13, e202_14, e202_15, e202_18, e202_21, e202_22, e202_23, e202_26, e202_27, e202_28, e202_29, e202_30, e202_33, e202_36, e202_37, e202_38, e202_41, e202_42, e202_43, e202_44, zs0, zsI, zsL, zsR, ztl1, ztl0, zc0, zcI, zcL, zcR, true_and, and_true, true_implies, false_implies, implies_true, not_true_eq_false, not_false_eq_true, and_self, Int.toNat_natCast, Nat.reduceAdd, Nat.reduceLeDiff, Nat.reduceLT, forall_eq', Option.some.injEq, zarR, zarI, zarL, zle, zq0, zq1, zq2, zq3, zq4, zq5, zq6, zq8, zq9, zq10, zq20, zq7, zq12, zq24, zq40, zq41, zq48, zq100, zq120, zq123, zq480, zq492, zq700, zq729, zq2187, zq2916, zq8748, ne_eq, Int.reduceEq, Int.reduceLT, Int.reduceLE, Int.reduceToNat, Int.reduceMul, Int.reduceAdd, Int.reduceNeg, gk91 hg, gr91_5 hg, gr91_22 hg, gr91_23 hg, gr91_24 hg, gr91_25 hg, gr91_26 hg, gr91_27 hg, gr91_28 hg, gr91_29 hg, gr91_32 hg, gr91_33 hg, gr91_34 hg, gr91_35 hg, gr91_36 hg, gr91_37 hg, gr91_38 hg, gr91_39 hg, gr91_40 hg, gr91_41 hg, gr91_42 hg, gr91_44 hg, gr91_45 hg, gr91_46 hg, gr91_48 hg, gr91_49 hg, gr91_50 hg, gr91_51 hg, gr91_52 hg, hu, m_isBaker hg hk, m_in, mF_z hk (show 91 < 121 by decide), mF_fr hk f1, mb, e, k, l]
          apply m_lays hg hu rt0 hw (by decide)
          intro h2 f2 V2 v19 v20 v21
          rw [aLaw_0] at V2
          have mm := fun Q' => m_much' (d := d + 12) (Q := Q') (h := h2) (m := m) hg hu V2 hw v20 v21 m3
          rw [if_neg (by omega)] at mm
          simp only [e202_47, e202_48, e202_49, e202_52, e202_55, e202_56, e202_57, e202_60, e202_63, e202_64, e202_65, e202_66, e202_67, e202_68, zs0, zsI, zsL, zsR, ztl1, ztl0, zc0, zcI, zcL, zcR, true_and, and_true, true_implies, false_implies, implies_true, not_true_eq_false, not_false_eq_true, and_self, Int.toNat_natCast, Nat.reduceAdd, Nat.reduceLeDiff, Nat.reduceLT, forall_eq', Option.some.injEq, zarR, zarI, zarL, zle, zq0, zq1, zq2, zq3, zq4, zq5, zq6, zq8, zq9, zq10, zq20, zq7, zq12, zq24, zq40, zq41, zq48, zq100, zq120, zq123, zq480, zq492, zq700, zq729, zq2187, zq2916, zq8748, ne_eq, Int.reduceEq, Int.reduceLT, Int.reduceLE, Int.reduceToNat, Int.reduceMul, Int.reduceAdd, Int.reduceNeg, gk91 hg, gr91_5 hg, gr91_22 hg, gr91_23 hg, gr91_24 hg, gr91_25 hg, gr91_26 hg, gr91_27 hg, gr91_28 hg, gr91_29 hg, gr91_32 hg, gr91_33 hg, gr91_34 hg, gr91_35 hg, gr91_36 hg, gr91_37 hg, gr91_38 hg, gr91_39 hg, gr91_40 hg, gr91_41 hg, gr91_42 hg, gr91_44 hg, gr91_45 hg, gr91_46 hg, gr91_48 hg, gr91_49 hg, gr91_50 hg, gr91_51 hg, gr91_52 hg, mm]
          apply m_shaped (d := d + 1) (hd := hdC T h Y) (B := 30100 * (Y : Int) + 29997) hg hu (rT_frame rt0 (fun c i q => f2 c i (by omega) (by omega))) hw m1 m3 ok.1 (by omega) (by omega) ok.2.2 (hd_101 hw i4 (fun i => by rw [f2 _ _ (by omega) (by omega), zu_c (by decide), fz _ _ (by omega)])) hb ho
          intro h4 ro
          simp only [e202_71, e202_74, zs0, zsI, zsL, zsR, ztl1, ztl0, zc0, zcI, zcL, zcR, true_and, and_true, true_implies, false_implies, implies_true, not_true_eq_false, not_false_eq_true, and_self, Int.toNat_natCast, Nat.reduceAdd, Nat.reduceLeDiff, Nat.reduceLT, forall_eq', Option.some.injEq, zarR, zarI, zarL, zle, zq0, zq1, zq2, zq3, zq4, zq5, zq6, zq8, zq9, zq10, zq20, zq7, zq12, zq24, zq40, zq41, zq48, zq100, zq120, zq123, zq480, zq492, zq700, zq729, zq2187, zq2916, zq8748, ne_eq, Int.reduceEq, Int.reduceLT, Int.reduceLE, Int.reduceToNat, Int.reduceMul, Int.reduceAdd, Int.reduceNeg, gk91 hg, gr91_5 hg, gr91_22 hg, gr91_23 hg, gr91_24 hg, gr91_25 hg, gr91_26 hg, gr91_27 hg, gr91_28 hg, gr91_29 hg, gr91_32 hg, gr91_33 hg, gr91_34 hg, gr91_35 hg, gr91_36 hg, gr91_37 hg, gr91_38 hg, gr91_39 hg, gr91_40 hg, gr91_41 hg, gr91_42 hg, gr91_44 hg, gr91_45 hg, gr91_46 hg, gr91_48 hg, gr91_49 hg, gr91_50 hg, gr91_51 hg, gr91_52 hg, m_told hg]
          exact K _ (mEnd2 ((rO_lays f2).tr ro)).1 (mEnd2 ((rO_lays f2).tr ro)).2.1 (mEnd2 ((rO_lays f2).tr ro)).2.2
    · refine PR_q (z := -9223372036854775808) (tr := 1) hI (by decide) ?_ ?_
      · intro Q K
        rw [r85]
        simp only [e85_0, e85_1, e85_2, e85_3, e85_6, e85_9, e85_10, e85_11, e85_14, e85_17, e85_18, e85_19, e85_20, e85_23, e85_26, e85_27, e85_30, e85_31, e85_34, e85_37, e85_40, e85_41, e85_42, e85_43, e85_44, e85_45, e85_48, zs0, zsI, zsL, zsR, ztl1, ztl0, zc0, zcI, zcL, zcR, true_and, and_true, true_implies, false_implies, implies_true, not_true_eq_false, not_false_eq_true, and_self, Int.toNat_natCast, Nat.reduceAdd, Nat.reduceLeDiff, Nat.reduceLT, forall_eq', Option.some.injEq, zarR, zarI, zarL, zle, zq0, zq1, zq2, zq3, zq4, zq5, zq6, zq8, zq9, zq10, zq20, zq7, zq12, zq24, zq40, zq41, zq48, zq100, zq120, zq123, zq480, zq492, zq700, zq729, zq2187, zq2916, zq8748, ne_eq, Int.reduceEq, Int.reduceLT, Int.reduceLE, Int.reduceToNat, Int.reduceMul, Int.reduceAdd, Int.reduceNeg, gk0 hg, gr0_0 hg, gr0_2 hg, gr0_3 hg, gr0_4 hg, gr0_5 hg, gr0_6 hg, gr0_7 hg, gr0_8 hg, gr0_9 hg, gr0_10 hg, or_true, true_or, if_true, if_false, false_and, and_false, false_or, or_false, f_isBaker hg, e, k, zu_at]
        exact K _ cfr.z zu_at
      · intro h1 f1 Q K
        rw [r202]
        simp only [e202_0, e202_1, e202_2, e202_5, e202_6, e202_7, e202_10, e202_13, e202_14, e202_15, e202_18, e202_21, e202_22, e202_23, e202_26, e202_27, e202_28, e202_29, e202_30, e202_33, e202_36, e202_37, e202_38, e202_41, e202_42, e202_43, e202_44, e202_47, e202_48, e202_49, e202_52, e202_55, e202_56, e202_57, e202_60, e202_63, e202_64, e202_65, e202_66, e202_67, e202_68, e202_71, e202_74, zs0, zsI, zsL, zsR, ztl1, ztl0, zc0, zcI, zcL, zcR, true_and, and_true, true_implies, false_implies, implies_true, not_true_eq_false, not_false_eq_true, and_self, Int.toNat_natCast, Nat.reduceAdd, Nat.reduceLeDiff, Nat.reduceLT, forall_eq', Option.some.injEq, zarR, zarI, zarL, zle, zq0, zq1, zq2, zq3, zq4, zq5, zq6, zq8, zq9, zq10, zq20, zq7, zq12, zq24, zq40, zq41, zq48, zq100, zq120, zq123, zq480, zq492, zq700, zq729, zq2187, zq2916, zq8748, ne_eq, Int.reduceEq, Int.reduceLT, Int.reduceLE, Int.reduceToNat, Int.reduceMul, Int.reduceAdd, Int.reduceNeg, gk91 hg, gr91_5 hg, gr91_22 hg, gr91_23 hg, gr91_24 hg, gr91_25 hg, gr91_26 hg, gr91_27 hg, gr91_28 hg, gr91_29 hg, gr91_32 hg, gr91_33 hg, gr91_34 hg, gr91_35 hg, gr91_36 hg, gr91_37 hg, gr91_38 hg, gr91_39 hg, gr91_40 hg, gr91_41 hg, gr91_42 hg, gr91_44 hg, gr91_45 hg, gr91_46 hg, gr91_48 hg, gr91_49 hg, gr91_50 hg, gr91_51 hg, gr91_52 hg, or_true, true_or, if_true, if_false, false_and, and_false, false_or, or_false, m_isBaker hg hk, mF_z hk (show 91 < 121 by decide), mF_fr hk f1, mb, e, k, m_lost hg]
        exact K _ mEnd.1 mEnd.2.1 mEnd.2.2
  · refine PR_q (z := -9223372036854775808) (tr := 1) hI (by decide) ?_ ?_
    · intro Q K
      rw [r85]
      simp only [e85_0, e85_1, e85_2, e85_3, e85_6, e85_9, e85_10, e85_11, e85_14, e85_17, e85_18, e85_19, e85_20, e85_23, e85_26, e85_27, e85_30, e85_31, e85_34, e85_37, e85_40, e85_41, e85_42, e85_43, e85_44, e85_45, e85_48, zs0, zsI, zsL, zsR, ztl1, ztl0, zc0, zcI, zcL, zcR, true_and, and_true, true_implies, false_implies, implies_true, not_true_eq_false, not_false_eq_true, and_self, Int.toNat_natCast, Nat.reduceAdd, Nat.reduceLeDiff, Nat.reduceLT, forall_eq', Option.some.injEq, zarR, zarI, zarL, zle, zq0, zq1, zq2, zq3, zq4, zq5, zq6, zq8, zq9, zq10, zq20, zq7, zq12, zq24, zq40, zq41, zq48, zq100, zq120, zq123, zq480, zq492, zq700, zq729, zq2187, zq2916, zq8748, ne_eq, Int.reduceEq, Int.reduceLT, Int.reduceLE, Int.reduceToNat, Int.reduceMul, Int.reduceAdd, Int.reduceNeg, gk0 hg, gr0_0 hg, gr0_2 hg, gr0_3 hg, gr0_4 hg, gr0_5 hg, gr0_6 hg, gr0_7 hg, gr0_8 hg, gr0_9 hg, gr0_10 hg, or_true, true_or, if_true, if_false, false_and, and_false, false_or, or_false, f_isBaker hg, e, zu_at]
      exact K _ cfr.z zu_at
    · intro h1 f1 Q K
      rw [r202]
      simp only [e202_0, e202_1, e202_2, e202_5, e202_6, e202_7, e202_10, e202_13, e202_14, e202_15, e202_18, e202_21, e202_22, e202_23, e202_26, e202_27, e202_28, e202_29, e202_30, e202_33, e202_36, e202_37, e202_38, e202_41, e202_42, e202_43, e202_44, e202_47, e202_48, e202_49, e202_52, e202_55, e202_56, e202_57, e202_60, e202_63, e202_64, e202_65, e202_66, e202_67, e202_68, e202_71, e202_74, zs0, zsI, zsL, zsR, ztl1, ztl0, zc0, zcI, zcL, zcR, true_and, and_true, true_implies, false_implies, implies_true, not_true_eq_false, not_false_eq_true, and_self, Int.toNat_natCast, Nat.reduceAdd, Nat.reduceLeDiff, Nat.reduceLT, forall_eq', Option.some.injEq, zarR, zarI, zarL, zle, zq0, zq1, zq2, zq3, zq4, zq5, zq6, zq8, zq9, zq10, zq20, zq7, zq12, zq24, zq40, zq41, zq48, zq100, zq120, zq123, zq480, zq492, zq700, zq729, zq2187, zq2916, zq8748, ne_eq, Int.reduceEq, Int.reduceLT, Int.reduceLE, Int.reduceToNat, Int.reduceMul, Int.reduceAdd, Int.reduceNeg, gk91 hg, gr91_5 hg, gr91_22 hg, gr91_23 hg, gr91_24 hg, gr91_25 hg, gr91_26 hg, gr91_27 hg, gr91_28 hg, gr91_29 hg, gr91_32 hg, gr91_33 hg, gr91_34 hg, gr91_35 hg, gr91_36 hg, gr91_37 hg, gr91_38 hg, gr91_39 hg, gr91_40 hg, gr91_41 hg, gr91_42 hg, gr91_44 hg, gr91_45 hg, gr91_46 hg, gr91_48 hg, gr91_49 hg, gr91_50 hg, gr91_51 hg, gr91_52 hg, or_true, true_or, if_true, if_false, false_and, and_false, false_or, or_false, m_isBaker hg hk, mF_z hk (show 91 < 121 by decide), mF_fr hk f1, mb, e, m_lost hg]
      exact K _ mEnd.1 mEnd.2.1 mEnd.2.2
end PP
