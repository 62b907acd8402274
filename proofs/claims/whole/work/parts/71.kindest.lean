/-- the first of the least, of w 0 .. w k -/
def nX (w : Nat → Int) : Nat → Int × Nat
  | 0 => (w 0, 0)
  | k + 1 => if w (k + 1) < (nX w k).1 then (w (k + 1), k + 1) else nX w k
section KI
variable {d : Nat} {G : zG} {h : zM} {x y : Int}
theorem p_kindest (hI : INV G h) : PR zI d 82 198 [zI x, zI y] G h := by
  have hg := hI.1
  have hk := INV_gK hI
  obtain ⟨mb, ms⟩ := INV_mF hI
  rcases rng_c 0 (h 18 10) x with ⟨e, e1, e2⟩ | ⟨e, e2⟩
  · obtain ⟨u, T, Y, hu, hu2, hw, kt, rt, i4, i5⟩ := INV_T hI (by omega)
    have u1 := hu.1
    have hY := i4.1.1
    have hYe := i4.1.2.1
    have hb3 := hw.1
    have hs4 := hw.2.1
    have e10 := kt.2.1
    have kt0 : kT (zu h 0 11 0) 18 T := kT_frame kt (fun c i q1 q2 => zu_c (by omega))
    have ok := I4_pOk i4
    have ca := fun Q' => c_ahead (d := d + 13) (Q := Q') (h := h) (n := y) (law := 0) hg kt hw
    have rt0 : ∀ h1, cfr h h1 → rT (zu h1 91 0 0) u T := fun h1 f1 => rT_frame rt (fun c i q => by rw [zu_c (by omega), f1 c i (Or.inl (by omega))])
    have hs0 : ∀ h1, cfr h h1 → mF G (zu h1 91 0 0) 1 = h 18 10 := fun h1 f1 => by rw [mF_z hk (by decide), mF_fr hk f1, ms]
    have l0 : rng 0 6 0 = 1 := by decide
    have hwy0 : wy T (h 18 10) x y 0 = tA T y 0 := by unfold wy; rw [if_pos ⟨e, l0⟩]
    have bad : ∀ tr : Int, tA T y 0 = tr → 0 < tr → ¬ tr = 4 → PR zI d 82 198 [zI x, zI y] G h := by
      intro tr ht h0 h4
      have c0 : ¬ tr = 0 := by omega
      refine PR_q (z := -1) (tr := tr) hI h4 ?_ ?_
      · intro Q K
        rw [r82]
        simp only [e82_0, e82_1, e82_2, e82_3, e82_6, e82_9, e82_10, e82_11, e82_12, e82_15, e82_18, e82_19, e82_22, e82_23, e82_26, e82_29, e82_30, e82_31, e82_32, e82_33, e82_34, e82_35, e82_36, e82_37, e82_40, e82_42, e82_43, e82_47, e82_48, e82_51, e82_52, e82_53, e82_54, e82_56, e82_59, e82_61, e82_63, e82_65, e82_66, e82_69, e82_71, e82_73, e82_75, e82_76, e82_79, e82_82, e82_83, zs0, zsI, zsL, zsR, ztl1, ztl0, zc0, zcI, zcL, zcR, true_and, and_true, true_implies, false_implies, implies_true, not_true_eq_false, not_false_eq_true, and_self, Int.toNat_natCast, Nat.reduceAdd, Nat.reduceLeDiff, Nat.reduceLT, forall_eq', Option.some.injEq, zarR, zarI, zarL, zle, zq0, zq1, zq2, zq3, zq4, zq5, zq6, zq8, zq9, zq10, zq20, zq7, zq12, zq24, zq40, zq41, zq48, zq100, zq120, zq123, zq480, zq492, zq700, zq729, zq2187, zq2916, zq8748, ne_eq, Int.reduceEq, Int.reduceLT, Int.reduceLE, Int.reduceToNat, Int.reduceMul, Int.reduceAdd, Int.reduceNeg, gk0 hg, gr0_0 hg, gr0_2 hg, gr0_3 hg, gr0_4 hg, gr0_5 hg, gr0_6 hg, gr0_7 hg, gr0_8 hg, gr0_9 hg, gr0_10 hg, or_true, true_or, if_true, if_false, false_and, and_false, false_or, or_false, f_isSort hg, e, ca, ht, zu_at, c0]
        exact K _ cfr.z zu_at
      · intro h1 f1 Q K
        rw [r198]
        simp only [e198_0, e198_1, e198_2, e198_5, e198_6, e198_7, e198_8, e198_9, e198_12, e198_13, e198_14, e198_15, e198_16, zs0, zsI, zsL, zsR, ztl1, ztl0, zc0, zcI, zcL, zcR, true_and, and_true, true_implies, false_implies, implies_true, not_true_eq_false, not_false_eq_true, and_self, Int.toNat_natCast, Nat.reduceAdd, Nat.reduceLeDiff, Nat.reduceLT, forall_eq', Option.some.injEq, zarR, zarI, zarL, zle, zq0, zq1, zq2, zq3, zq4, zq5, zq6, zq8, zq9, zq10, zq20, zq7, zq12, zq24, zq40, zq41, zq48, zq100, zq120, zq123, zq480, zq492, zq700, zq729, zq2187, zq2916, zq8748, ne_eq, Int.reduceEq, Int.reduceLT, Int.reduceLE, Int.reduceToNat, Int.reduceMul, Int.reduceAdd, Int.reduceNeg, gk91 hg, gr91_5 hg, gr91_22 hg, gr91_23 hg, gr91_24 hg, gr91_25 hg, gr91_26 hg, gr91_27 hg, gr91_28 hg, gr91_29 hg, gr91_32 hg, gr91_33 hg, gr91_34 hg, gr91_35 hg, gr91_36 hg, gr91_37 hg, gr91_38 hg, gr91_39 hg, gr91_40 hg, gr91_41 hg, gr91_42 hg, gr91_44 hg, gr91_45 hg, gr91_46 hg, gr91_48 hg, gr91_49 hg, gr91_50 hg, gr91_51 hg, gr91_52 hg]
        apply m_refuses (d := d) (ns := h 18 10) hg hk hu (rt0 h1 f1) hw (hs0 h1 f1)
        intro h2 ro _
        rw [hwy0, ht]
        have c : ¬ tr ≤ 0 := by omega
        simp only [e198_0, e198_1, e198_2, e198_5, e198_6, e198_8, e198_9, e198_12, e198_13, e198_14, e198_15, e198_16, e198_19, e198_21, e198_23, e198_26, e198_27, e198_29, e198_32, e198_33, e198_36, e198_39, e198_40, e198_41, e198_42, e198_44, e198_45, e198_49, e198_50, e198_53, e198_54, e198_56, e198_59, e198_60, e198_61, e198_64, e198_66, e198_69, e198_70, e198_73, e198_74, e198_75, e198_77, e198_78, e198_81, e198_84, e198_85, e198_88, e198_89, e198_90, e198_92, e198_94, e198_95, e198_98, e198_101, e198_102, e198_103, e198_106, zs0, zsI, zsL, zsR, ztl1, ztl0, zc0, zcI, zcL, zcR, true_and, and_true, true_implies, false_implies, implies_true, not_true_eq_false, not_false_eq_true, and_self, Int.toNat_natCast, Nat.reduceAdd, Nat.reduceLeDiff, Nat.reduceLT, forall_eq', Option.some.injEq, zarR, zarI, zarL, zle, zq0, zq1, zq2, zq3, zq4, zq5, zq6, zq8, zq9, zq10, zq20, zq7, zq12, zq24, zq40, zq41, zq48, zq100, zq120, zq123, zq480, zq492, zq700, zq729, zq2187, zq2916, zq8748, ne_eq, Int.reduceEq, Int.reduceLT, Int.reduceLE, Int.reduceToNat, Int.reduceMul, Int.reduceAdd, Int.reduceNeg, gk91 hg, gr91_5 hg, gr91_22 hg, gr91_23 hg, gr91_24 hg, gr91_25 hg, gr91_26 hg, gr91_27 hg, gr91_28 hg, gr91_29 hg, gr91_32 hg, gr91_33 hg, gr91_34 hg, gr91_35 hg, gr91_36 hg, gr91_37 hg, gr91_38 hg, gr91_39 hg, gr91_40 hg, gr91_41 hg, gr91_42 hg, gr91_44 hg, gr91_45 hg, gr91_46 hg, gr91_48 hg, gr91_49 hg, gr91_50 hg, gr91_51 hg, gr91_52 hg, or_true, true_or, if_true, if_false, false_and, and_false, false_or, or_false, c, m_refused hg]
        exact K _ (mEnd2 ro).1 (mEnd2 ro).2.1 (mEnd2 ro).2.2
    have tc := tA_c T y 0
    rcases tc with ⟨t, q⟩ | ⟨t, q, m, rfl, m1, m3, hm⟩ | ⟨t, q, m, rfl, m1, m3, hm⟩
    · exact bad 2 t (by decide) (by decide)
    · exact bad 3 t (by decide) (by decide)
    · rw [aLaw_0] at hm
      obtain ⟨s, rfl⟩ := Int.eq_ofNat_of_zero_le e1
      have hs : s < nS T := by omega
      have s4 : (s : Int) < 4 := by omega
      have hml : ∀ law : Int, (nA (aLaw T law) ^ nB T) ^ m ≤ 20000 := fun law => Nat.le_trans (Nat.pow_le_pow_left (Nat.pow_le_pow_left (nA_law_le hw) _) _) hm
      have hwl : ∀ law : Nat, law ≤ 5 → wy T (h 18 10) (s : Int) (m : Int) (law : Int) = 0 := by
        intro law hl
        unfold wy
        have l : rng 0 6 (law : Int) = 1 := by unfold rng; rw [if_pos (by omega)]
        rw [if_pos ⟨e, l⟩]
        rcases tA_c T (m : Int) (law : Int) with ⟨t', q'⟩ | ⟨t', q', m', e', _, _, hm'⟩ | ⟨t', _⟩
        · omega
        · have : m' = m := by omega
          subst this
          have := hml (law : Int)
          omega
        · exact t'
      obtain ⟨w, hwd⟩ : ∃ w : Nat → Int, w = fun (k : Nat) => pL T m (hdC T h Y) (k : Int) s := ⟨_, rfl⟩
      have hwo : ∀ k : Nat, pL T m (hdC T h Y) (k : Int) s = w k := fun k => by rw [hwd]
      refine PR_q (z := ((nX w 5).2 : Nat)) (tr := 0) hI (by decide) ?_ ?_
      · intro Q K
        rw [r82]
        have cw : ∀ (h1 : zM) (o : Nat) (Q' : zQ), (∀ c i, c < 46 ∨ 86 < c → h1 c i = (zu h 0 11 0) c i) → o ≤ 5 → (∀ h2 : zM, (∀ c i, c < 46 ∨ 86 < c → h2 c i = (zu h 0 11 0) c i) → Q' (some (zL (w o))) G h2) → zRunD ztb zmt' (d + 15) 83 [zR (some 0), zI (s : Int), zI (m : Int), zI (o : Int)] G h1 Q' := by
          intro h1 o Q' f1 ho KK
          have eh : hdC T h1 Y = hdC T h Y := hdC_fr (fun i => by rw [f1 _ _ (by omega), zu_c (by decide)])
          apply c_pbl (d := d + 5) (Y := Y) (B := 30100 * (Y : Int) + 29997) hg (kT_frame kt0 (fun c i q1 q2 => f1 c i (by omega))) hw (by omega) m1 m3 (hml _) (by rw [f1 _ _ (by omega), zu_c (by decide)]; exact hYe) hY (by rw [eh]; exact ok.1) (by omega) (by omega) (by rw [eh]; exact ok.2.2) hs
          intro h2 f2
          rw [eh, hwo]
          exact KK h2 (fun c i q => by rw [f2 c i q, f1 c i q])
        have lp : ∀ j k (h1 : zM) (l7 l8 : Option zV), k + j = 5 → (∀ c i, c < 46 ∨ 86 < c → h1 c i = (zu h 0 11 0) c i) → zE 82 (d + 15) Q 45 [some (zR (some 0)), some (zI (s : Int)), some (zI (m : Int)), some (zI ((nX w k).2 : Nat)), some (zL (nX w k).1), none, some (zI ((k + 1 : Nat) : Int)), l7, l8] [] G h1 (0, 0) := by
          intro j
          induction j with
          | zero =>
            intro k h1 l7 l8 hj f1
            have hj' : k = 5 := by omega
            have c : 5 < ((k + 1 : Nat) : Int) := by omega
            rw [e82_45]
            simp only [e82_0, e82_1, e82_2, e82_3, e82_6, e82_9, e82_10, e82_11, e82_12, e82_15, e82_18, e82_19, e82_22, e82_23, e82_26, e82_29, e82_30, e82_31, e82_32, e82_33, e82_34, e82_35, e82_36, e82_37, e82_40, e82_42, e82_43, e82_47, e82_48, e82_51, e82_52, e82_53, e82_54, e82_56, e82_59, e82_61, e82_63, e82_65, e82_66, e82_69, e82_71, e82_73, e82_75, e82_76, e82_79, e82_82, e82_83, zs0, zsI, zsL, zsR, ztl1, ztl0, zc0, zcI, zcL, zcR, true_and, and_true, true_implies, false_implies, implies_true, not_true_eq_false, not_false_eq_true, and_self, Int.toNat_natCast, Nat.reduceAdd, Nat.reduceLeDiff, Nat.reduceLT, forall_eq', Option.some.injEq, zarR, zarI, zarL, zle, zq0, zq1, zq2, zq3, zq4, zq5, zq6, zq8, zq9, zq10, zq20, zq7, zq12, zq24, zq40, zq41, zq48, zq100, zq120, zq123, zq480, zq492, zq700, zq729, zq2187, zq2916, zq8748, ne_eq, Int.reduceEq, Int.reduceLT, Int.reduceLE, Int.reduceToNat, Int.reduceMul, Int.reduceAdd, Int.reduceNeg, or_true, true_or, if_true, if_false, false_and, and_false, false_or, or_false, c]
            rw [hj']
            exact K _ (cfr_out f1).1 (cfr_out f1).2
          | succ j ih =>
            intro k h1 l7 l8 hj f1
            have c : ¬ 5 < ((k + 1 : Nat) : Int) := by omega
            rw [e82_45]
            simp only [e82_47, e82_48, e82_51, e82_52, e82_53, e82_54, e82_56, zs0, zsI, zsL, zsR, ztl1, ztl0, zc0, zcI, zcL, zcR, true_and, and_true, true_implies, false_implies, implies_true, not_true_eq_false, not_false_eq_true, and_self, Int.toNat_natCast, Nat.reduceAdd, Nat.reduceLeDiff, Nat.reduceLT, forall_eq', Option.some.injEq, zarR, zarI, zarL, zle, zq0, zq1, zq2, zq3, zq4, zq5, zq6, zq8, zq9, zq10, zq20, zq7, zq12, zq24, zq40, zq41, zq48, zq100, zq120, zq123, zq480, zq492, zq700, zq729, zq2187, zq2916, zq8748, ne_eq, Int.reduceEq, Int.reduceLT, Int.reduceLE, Int.reduceToNat, Int.reduceMul, Int.reduceAdd, Int.reduceNeg, gk0 hg, gr0_0 hg, gr0_2 hg, gr0_3 hg, gr0_4 hg, gr0_5 hg, gr0_6 hg, gr0_7 hg, gr0_8 hg, gr0_9 hg, gr0_10 hg, c]
            apply cw h1 (k + 1) _ f1 (by omega)
            intro h2 f2
            have i2 := fun l7 l8 => ih (k + 1) h2 l7 l8 (by omega) f2
            by_cases q : w (k + 1) < (nX w k).1
            · have q2 : ¬ 0 ≤ zlc (w (k + 1)) (nX w k).1 := by rw [zlc_ge]; omega
              rw [nX, if_pos q] at i2
              simp only [e82_59, e82_61, e82_63, e82_65, e82_66, e82_69, e82_71, e82_73, e82_75, e82_76, e82_79, e82_82, e82_83, zs0, zsI, zsL, zsR, ztl1, ztl0, zc0, zcI, zcL, zcR, true_and, and_true, true_implies, false_implies, implies_true, not_true_eq_false, not_false_eq_true, and_self, Int.toNat_natCast, Nat.reduceAdd, Nat.reduceLeDiff, Nat.reduceLT, forall_eq', Option.some.injEq, zarR, zarI, zarL, zle, zq0, zq1, zq2, zq3, zq4, zq5, zq6, zq8, zq9, zq10, zq20, zq7, zq12, zq24, zq40, zq41, zq48, zq100, zq120, zq123, zq480, zq492, zq700, zq729, zq2187, zq2916, zq8748, ne_eq, Int.reduceEq, Int.reduceLT, Int.reduceLE, Int.reduceToNat, Int.reduceMul, Int.reduceAdd, Int.reduceNeg, q2, wr_s (show k + 1 < 2147483647 by omega)]
              exact i2 _ _
            · have q2 : 0 ≤ zlc (w (k + 1)) (nX w k).1 := by rw [zlc_ge]; omega
              rw [nX, if_neg q] at i2
              simp only [e82_59, e82_61, e82_63, e82_65, e82_66, e82_69, e82_71, e82_73, e82_75, e82_76, e82_79, e82_82, e82_83, zs0, zsI, zsL, zsR, ztl1, ztl0, zc0, zcI, zcL, zcR, true_and, and_true, true_implies, false_implies, implies_true, not_true_eq_false, not_false_eq_true, and_self, Int.toNat_natCast, Nat.reduceAdd, Nat.reduceLeDiff, Nat.reduceLT, forall_eq', Option.some.injEq, zarR, zarI, zarL, zle, zq0, zq1, zq2, zq3, zq4, zq5, zq6, zq8, zq9, zq10, zq20, zq7, zq12, zq24, zq40, zq41, zq48, zq100, zq120, zq123, zq480, zq492, zq700, zq729, zq2187, zq2916, zq8748, ne_eq, Int.reduceEq, Int.reduceLT, Int.reduceLE, Int.reduceToNat, Int.reduceMul, Int.reduceAdd, Int.reduceNeg, q2, wr_s (show k + 1 < 2147483647 by omega)]
              exact i2 _ _
        simp only [e82_0, e82_1, e82_2, e82_3, e82_6, e82_9, e82_10, e82_11, e82_12, e82_15, e82_18, e82_19, e82_22, e82_23, e82_26, e82_29, e82_30, e82_31, e82_32, e82_33, e82_34, e82_35, e82_36, e82_37, zs0, zsI, zsL, zsR, ztl1, ztl0, zc0, zcI, zcL, zcR, true_and, and_true, true_implies, false_implies, implies_true, not_true_eq_false, not_false_eq_true, and_self, Int.toNat_natCast, Nat.reduceAdd, Nat.reduceLeDiff, Nat.reduceLT, forall_eq', Option.some.injEq, zarR, zarI, zarL, zle, zq0, zq1, zq2, zq3, zq4, zq5, zq6, zq8, zq9, zq10, zq20, zq7, zq12, zq24, zq40, zq41, zq48, zq100, zq120, zq123, zq480, zq492, zq700, zq729, zq2187, zq2916, zq8748, ne_eq, Int.reduceEq, Int.reduceLT, Int.reduceLE, Int.reduceToNat, Int.reduceMul, Int.reduceAdd, Int.reduceNeg, gk0 hg, gr0_0 hg, gr0_2 hg, gr0_3 hg, gr0_4 hg, gr0_5 hg, gr0_6 hg, gr0_7 hg, gr0_8 hg, gr0_9 hg, gr0_10 hg, f_isSort hg, e, ca, t, zu_at]
        have cw0 := cw (zu h 0 11 0) 0
        rw [zq0] at cw0
        apply cw0 _ (fun _ _ _ => rfl) (by omega)
        intro h2 f2
        simp only [e82_40, e82_42, e82_43, e82_47, e82_48, e82_51, e82_52, e82_53, e82_54, e82_56, e82_59, e82_61, e82_63, e82_65, e82_66, e82_69, e82_71, e82_73, e82_75, e82_76, e82_79, e82_82, e82_83, zs0, zsI, zsL, zsR, ztl1, ztl0, zc0, zcI, zcL, zcR, true_and, and_true, true_implies, false_implies, implies_true, not_true_eq_false, not_false_eq_true, and_self, Int.toNat_natCast, Nat.reduceAdd, Nat.reduceLeDiff, Nat.reduceLT, forall_eq', Option.some.injEq, zarR, zarI, zarL, zle, zq0, zq1, zq2, zq3, zq4, zq5, zq6, zq8, zq9, zq10, zq20, zq7, zq12, zq24, zq40, zq41, zq48, zq100, zq120, zq123, zq480, zq492, zq700, zq729, zq2187, zq2916, zq8748, ne_eq, Int.reduceEq, Int.reduceLT, Int.reduceLE, Int.reduceToNat, Int.reduceMul, Int.reduceAdd, Int.reduceNeg]
        have l0 := fun l7 l8 => lp 5 0 h2 l7 l8 (by omega) f2
        simp only [nX, zq0, Nat.zero_add, zq1] at l0
        exact l0 _ _
      · intro h1 f1 Q K
        rw [r198]
        have rtk : ∀ h3 : zM, (∀ c i, c < 91 ∨ c = 91 ∧ i = 0 ∨ 91 < c ∧ c < 93 ∨ 100 < c ∧ c < 110 ∨ 114 < c ∧ c < 118 ∨ 119 < c → h3 c i = (zu h1 91 0 0) c i) → rT h3 u T := fun h3 q => rT_frame (rt0 h1 f1) (fun c i q1 => q c i (by omega))
        have pl : ∀ (k : Nat) (h3 : zM) (Q' : zQ), k ≤ 5 → (∀ c i, c < 91 ∨ c = 91 ∧ (i < 16 ∨ 21 < i) ∧ ¬ i = 43 ∨ 91 < c ∧ c < 93 ∨ 100 < c ∧ c < 110 ∨ 114 < c ∧ c < 118 ∨ 119 < c → h3 c i = (zu h1 91 0 0) c i) → (∀ h4 : zM, (∀ c i, c < 91 ∨ c = 91 ∧ (i < 16 ∨ 21 < i) ∧ ¬ i = 43 ∨ 91 < c ∧ c < 93 ∨ 100 < c ∧ c < 110 ∨ 114 < c ∧ c < 118 ∨ 119 < c → h4 c i = (zu h1 91 0 0) c i) → h4 118 s = w k → Q' none G h4) → zRunD ztb zmt' (d + 15) 143 [zR (some 91), zI (k : Int)] G h3 (fun v G' h' => zRunD ztb zmt' (d + 15) 194 [zR (some 91), zI (m : Int)] G h' Q' ∧ v = none ∧ G' = G) := by
          intro k h3 Q' hk5 f3 KK
          apply m_lays (law := (k : Int)) hg hu (rtk h3 (fun c i q => f3 c i (by omega))) hw (by omega)
          intro h4 f4 V4 v19 v20 v21
          refine ⟨?_, rfl, rfl⟩
          have hh := hd_101 (h' := h4) hw i4 (fun i => by rw [f4 _ _ (by omega) (by omega), f3 _ _ (by omega), zu_c (by decide), f1 _ _ (Or.inl (by omega))])
          apply m_plays (d := d + 2) (hd := hdC T h Y) (B := 30100 * (Y : Int) + 29997) hg hu V4 (aLaw_w hw k) v19 v20 v21 m1 m3 ok.1 (by omega) (by omega) ok.2.2 hh
          intro h5 f5 k1 k2
          apply KK h5
          · intro c i q
            rw [f5 c i (by omega), f4 c i (by omega) (by omega), f3 c i q]
          · rw [k1 s hs]
            exact hwo k
        have second : ∀ j k (h3 : zM), k + j = 6 → 1 ≤ k → (∀ c i, c < 91 ∨ c = 91 ∧ (i < 16 ∨ 21 < i) ∧ ¬ i = 43 ∨ 91 < c ∧ c < 93 ∨ 100 < c ∧ c < 110 ∨ 114 < c ∧ c < 118 ∨ 119 < c → h3 c i = (zu h1 91 0 0) c i) → zE 198 (d + 15) Q 47 [some (zR (some 91)), some (zI (s : Int)), some (zI (m : Int)), some (zI ((nX w (k - 1)).2 : Nat)), some (zL (nX w (k - 1)).1), none, some (zI (k : Int))] [] G h3 (0, 0) := by
          intro j
          induction j with
          | zero =>
            intro k h3 hj h1k f3
            have hj' : k = 6 := by omega
            subst hj'
            rw [e198_47]
            simp only [e198_0, e198_1, e198_2, e198_5, e198_6, e198_8, e198_9, e198_12, e198_13, e198_14, e198_15, e198_16, e198_19, e198_21, e198_23, e198_26, e198_27, e198_29, e198_32, e198_33, e198_36, e198_39, e198_40, e198_41, e198_42, e198_44, e198_45, e198_49, e198_50, e198_53, e198_54, e198_56, e198_59, e198_60, e198_61, e198_64, e198_66, e198_69, e198_70, e198_73, e198_74, e198_75, e198_77, e198_78, e198_81, e198_84, e198_85, e198_88, e198_89, e198_90, e198_92, e198_94, e198_95, e198_98, e198_101, e198_102, e198_103, e198_106, zs0, zsI, zsL, zsR, ztl1, ztl0, zc0, zcI, zcL, zcR, true_and, and_true, true_implies, false_implies, implies_true, not_true_eq_false, not_false_eq_true, and_self, Int.toNat_natCast, Nat.reduceAdd, Nat.reduceLeDiff, Nat.reduceLT, forall_eq', Option.some.injEq, zarR, zarI, zarL, zle, zq0, zq1, zq2, zq3, zq4, zq5, zq6, zq8, zq9, zq10, zq20, zq7, zq12, zq24, zq40, zq41, zq48, zq100, zq120, zq123, zq480, zq492, zq700, zq729, zq2187, zq2916, zq8748, ne_eq, Int.reduceEq, Int.reduceLT, Int.reduceLE, Int.reduceToNat, Int.reduceMul, Int.reduceAdd, Int.reduceNeg, gk91 hg, gr91_5 hg, gr91_22 hg, gr91_23 hg, gr91_24 hg, gr91_25 hg, gr91_26 hg, gr91_27 hg, gr91_28 hg, gr91_29 hg, gr91_32 hg, gr91_33 hg, gr91_34 hg, gr91_35 hg, gr91_36 hg, gr91_37 hg, gr91_38 hg, gr91_39 hg, gr91_40 hg, gr91_41 hg, gr91_42 hg, gr91_44 hg, gr91_45 hg, gr91_46 hg, gr91_48 hg, gr91_49 hg, gr91_50 hg, gr91_51 hg, gr91_52 hg, or_true, true_or, if_true, if_false, false_and, and_false, false_or, or_false, m_done hg]
            have ro3 : mfr h1 (zu (zu h3 91 1 0) 91 2 (-1)) := by
              intro c i q
              unfold core at q
              rw [zu, if_neg (by omega), zu, if_neg (by omega), f3 c i (by omega), zu, if_neg (by omega)]
            exact K _ ro3 (by rw [zu_i (by decide), zu_at]) zu_at
          | succ j ih =>
            intro k h3 hj h1k f3
            have c : ¬ 5 < (k : Int) := by omega
            have c0 : ¬ (k : Int) ≤ 0 := by omega
            rw [e198_47]
            simp only [e198_49, e198_50, e198_53, e198_54, e198_56, zs0, zsI, zsL, zsR, ztl1, ztl0, zc0, zcI, zcL, zcR, true_and, and_true, true_implies, false_implies, implies_true, not_true_eq_false, not_false_eq_true, and_self, Int.toNat_natCast, Nat.reduceAdd, Nat.reduceLeDiff, Nat.reduceLT, forall_eq', Option.some.injEq, zarR, zarI, zarL, zle, zq0, zq1, zq2, zq3, zq4, zq5, zq6, zq8, zq9, zq10, zq20, zq7, zq12, zq24, zq40, zq41, zq48, zq100, zq120, zq123, zq480, zq492, zq700, zq729, zq2187, zq2916, zq8748, ne_eq, Int.reduceEq, Int.reduceLT, Int.reduceLE, Int.reduceToNat, Int.reduceMul, Int.reduceAdd, Int.reduceNeg, gk91 hg, gr91_5 hg, gr91_22 hg, gr91_23 hg, gr91_24 hg, gr91_25 hg, gr91_26 hg, gr91_27 hg, gr91_28 hg, gr91_29 hg, gr91_32 hg, gr91_33 hg, gr91_34 hg, gr91_35 hg, gr91_36 hg, gr91_37 hg, gr91_38 hg, gr91_39 hg, gr91_40 hg, gr91_41 hg, gr91_42 hg, gr91_44 hg, gr91_45 hg, gr91_46 hg, gr91_48 hg, gr91_49 hg, gr91_50 hg, gr91_51 hg, gr91_52 hg, c]
            apply zRunD_mono ztb zmt' (d + 15) _ _ _ _ _ _ _ (pl k h3 (fun v G' h' => zE 198 (d + 15) Q 64 [some (zR (some 91)), some (zI (s : Int)), some (zI (m : Int)), some (zI ((nX w (k - 1)).2 : Nat)), some (zL (nX w (k - 1)).1), none, some (zI (k : Int))] (v.toList ++ []) G' h' (0, 0)) (by omega) f3 ?_)
            · rintro v G' h' ⟨a1, rfl, rfl⟩
              simp only [e198_59, e198_60, e198_61, zs0, zsI, zsL, zsR, ztl1, ztl0, zc0, zcI, zcL, zcR, true_and, and_true, true_implies, false_implies, implies_true, not_true_eq_false, not_false_eq_true, and_self, Int.toNat_natCast, Nat.reduceAdd, Nat.reduceLeDiff, Nat.reduceLT, forall_eq', Option.some.injEq, zarR, zarI, zarL, zle, zq0, zq1, zq2, zq3, zq4, zq5, zq6, zq8, zq9, zq10, zq20, zq7, zq12, zq24, zq40, zq41, zq48, zq100, zq120, zq123, zq480, zq492, zq700, zq729, zq2187, zq2916, zq8748, ne_eq, Int.reduceEq, Int.reduceLT, Int.reduceLE, Int.reduceToNat, Int.reduceMul, Int.reduceAdd, Int.reduceNeg, gk91 hg, gr91_5 hg, gr91_22 hg, gr91_23 hg, gr91_24 hg, gr91_25 hg, gr91_26 hg, gr91_27 hg, gr91_28 hg, gr91_29 hg, gr91_32 hg, gr91_33 hg, gr91_34 hg, gr91_35 hg, gr91_36 hg, gr91_37 hg, gr91_38 hg, gr91_39 hg, gr91_40 hg, gr91_41 hg, gr91_42 hg, gr91_44 hg, gr91_45 hg, gr91_46 hg, gr91_48 hg, gr91_49 hg, gr91_50 hg, gr91_51 hg, gr91_52 hg]
              exact a1
            · intro h4 f4 v4
              obtain ⟨k', rfl⟩ : ∃ k', k = k' + 1 := ⟨k - 1, by omega⟩
              have i2 := ih (k' + 1 + 1) h4 (by omega) (by omega) f4
              simp only [Nat.add_sub_cancel] at i2 ⊢
              by_cases q : w (k' + 1) < (nX w k').1
              · have q2 : zlc (w (k' + 1)) (nX w k').1 < 0 := by rw [zlc_lt]; omega
                rw [nX, if_pos q] at i2
                simp only [e198_64, e198_66, e198_69, e198_70, e198_73, e198_74, e198_75, e198_77, e198_78, e198_81, e198_84, e198_85, e198_88, e198_89, e198_90, e198_92, e198_94, e198_95, e198_98, e198_101, e198_102, e198_103, e198_106, zs0, zsI, zsL, zsR, ztl1, ztl0, zc0, zcI, zcL, zcR, true_and, and_true, true_implies, false_implies, implies_true, not_true_eq_false, not_false_eq_true, and_self, Int.toNat_natCast, Nat.reduceAdd, Nat.reduceLeDiff, Nat.reduceLT, forall_eq', Option.some.injEq, zarR, zarI, zarL, zle, zq0, zq1, zq2, zq3, zq4, zq5, zq6, zq8, zq9, zq10, zq20, zq7, zq12, zq24, zq40, zq41, zq48, zq100, zq120, zq123, zq480, zq492, zq700, zq729, zq2187, zq2916, zq8748, ne_eq, Int.reduceEq, Int.reduceLT, Int.reduceLE, Int.reduceToNat, Int.reduceMul, Int.reduceAdd, Int.reduceNeg, gk91 hg, gr91_5 hg, gr91_22 hg, gr91_23 hg, gr91_24 hg, gr91_25 hg, gr91_26 hg, gr91_27 hg, gr91_28 hg, gr91_29 hg, gr91_32 hg, gr91_33 hg, gr91_34 hg, gr91_35 hg, gr91_36 hg, gr91_37 hg, gr91_38 hg, gr91_39 hg, gr91_40 hg, gr91_41 hg, gr91_42 hg, gr91_44 hg, gr91_45 hg, gr91_46 hg, gr91_48 hg, gr91_49 hg, gr91_50 hg, gr91_51 hg, gr91_52 hg, gk118 hg, gl118 hg, c0, s4, v4, q2, wr_s (show k' + 1 < 2147483647 by omega)]
                exact i2
              · have q2 : ¬ zlc (w (k' + 1)) (nX w k').1 < 0 := by rw [zlc_lt]; omega
                rw [nX, if_neg q] at i2
                simp only [e198_64, e198_66, e198_69, e198_70, e198_73, e198_74, e198_75, e198_77, e198_78, e198_81, e198_84, e198_85, e198_88, e198_89, e198_90, e198_92, e198_94, e198_95, e198_98, e198_101, e198_102, e198_103, e198_106, zs0, zsI, zsL, zsR, ztl1, ztl0, zc0, zcI, zcL, zcR, true_and, and_true, true_implies, false_implies, implies_true, not_true_eq_false, not_false_eq_true, and_self, Int.toNat_natCast, Nat.reduceAdd, Nat.reduceLeDiff, Nat.reduceLT, forall_eq', Option.some.injEq, zarR, zarI, zarL, zle, zq0, zq1, zq2, zq3, zq4, zq5, zq6, zq8, zq9, zq10, zq20, zq7, zq12, zq24, zq40, zq41, zq48, zq100, zq120, zq123, zq480, zq492, zq700, zq729, zq2187, zq2916, zq8748, ne_eq, Int.reduceEq, Int.reduceLT, Int.reduceLE, Int.reduceToNat, Int.reduceMul, Int.reduceAdd, Int.reduceNeg, gk91 hg, gr91_5 hg, gr91_22 hg, gr91_23 hg, gr91_24 hg, gr91_25 hg, gr91_26 hg, gr91_27 hg, gr91_28 hg, gr91_29 hg, gr91_32 hg, gr91_33 hg, gr91_34 hg, gr91_35 hg, gr91_36 hg, gr91_37 hg, gr91_38 hg, gr91_39 hg, gr91_40 hg, gr91_41 hg, gr91_42 hg, gr91_44 hg, gr91_45 hg, gr91_46 hg, gr91_48 hg, gr91_49 hg, gr91_50 hg, gr91_51 hg, gr91_52 hg, gk118 hg, gl118 hg, c0, s4, v4, q2, wr_s (show k' + 1 < 2147483647 by omega)]
                exact i2
        have first : ∀ (j k : Nat) (h3 : zM) (l4 : Option zV), k + j = 6 → rO (zu h1 91 0 0) h3 → zE 198 (d + 15) Q 7 [some (zR (some 91)), some (zI (s : Int)), some (zI (m : Int)), some (zI (k : Int)), l4, none, none] [] G h3 (0, 0) := by
          intro j
          induction j with
          | zero =>
            intro k h3 l4 hj f3
            have hj' : k = 6 := by omega
            subst hj'
            have f3' : ∀ c i, c < 91 ∨ c = 91 ∧ (i < 16 ∨ 21 < i) ∧ ¬ i = 43 ∨ 91 < c ∧ c < 93 ∨ 100 < c ∧ c < 110 ∨ 114 < c ∧ c < 118 ∨ 119 < c → h3 c i = (zu h1 91 0 0) c i := fun c i q => f3 c i (by omega)
            rw [e198_7]
            simp only [e198_8, e198_9, e198_12, e198_13, e198_14, e198_15, e198_16, e198_19, e198_21, e198_23, e198_26, e198_27, e198_29, e198_32, e198_33, e198_36, e198_39, e198_40, e198_41, e198_42, e198_44, e198_45, e198_47, e198_49, e198_50, e198_53, e198_54, e198_56, zs0, zsI, zsL, zsR, ztl1, ztl0, zc0, zcI, zcL, zcR, true_and, and_true, true_implies, false_implies, implies_true, not_true_eq_false, not_false_eq_true, and_self, Int.toNat_natCast, Nat.reduceAdd, Nat.reduceLeDiff, Nat.reduceLT, forall_eq', Option.some.injEq, zarR, zarI, zarL, zle, zq0, zq1, zq2, zq3, zq4, zq5, zq6, zq8, zq9, zq10, zq20, zq7, zq12, zq24, zq40, zq41, zq48, zq100, zq120, zq123, zq480, zq492, zq700, zq729, zq2187, zq2916, zq8748, ne_eq, Int.reduceEq, Int.reduceLT, Int.reduceLE, Int.reduceToNat, Int.reduceMul, Int.reduceAdd, Int.reduceNeg, gk91 hg, gr91_5 hg, gr91_22 hg, gr91_23 hg, gr91_24 hg, gr91_25 hg, gr91_26 hg, gr91_27 hg, gr91_28 hg, gr91_29 hg, gr91_32 hg, gr91_33 hg, gr91_34 hg, gr91_35 hg, gr91_36 hg, gr91_37 hg, gr91_38 hg, gr91_39 hg, gr91_40 hg, gr91_41 hg, gr91_42 hg, gr91_44 hg, gr91_45 hg, gr91_46 hg, gr91_48 hg, gr91_49 hg, gr91_50 hg, gr91_51 hg, gr91_52 hg]
            have p0 := pl 0 h3 (fun v G' h' => zE 198 (d + 15) Q 64 [some (zR (some 91)), some (zI (s : Int)), some (zI (m : Int)), some (zI 0), some (zL 0), none, some (zI 0)] (v.toList ++ []) G' h' (0, 0)) (by omega) f3' (fun h4 f4 v4 => by
              have i2 := second 5 1 h4 (by omega) (by omega) f4
              simp only [Nat.sub_self, nX, zq0, zq1] at i2
              simp only [e198_64, e198_66, e198_69, e198_70, e198_73, e198_74, e198_75, e198_77, e198_78, e198_81, e198_84, e198_85, e198_88, e198_89, e198_90, e198_92, e198_94, e198_95, e198_98, e198_101, e198_102, e198_103, e198_106, zs0, zsI, zsL, zsR, ztl1, ztl0, zc0, zcI, zcL, zcR, true_and, and_true, true_implies, false_implies, implies_true, not_true_eq_false, not_false_eq_true, and_self, Int.toNat_natCast, Nat.reduceAdd, Nat.reduceLeDiff, Nat.reduceLT, forall_eq', Option.some.injEq, zarR, zarI, zarL, zle, zq0, zq1, zq2, zq3, zq4, zq5, zq6, zq8, zq9, zq10, zq20, zq7, zq12, zq24, zq40, zq41, zq48, zq100, zq120, zq123, zq480, zq492, zq700, zq729, zq2187, zq2916, zq8748, ne_eq, Int.reduceEq, Int.reduceLT, Int.reduceLE, Int.reduceToNat, Int.reduceMul, Int.reduceAdd, Int.reduceNeg, gk91 hg, gr91_5 hg, gr91_22 hg, gr91_23 hg, gr91_24 hg, gr91_25 hg, gr91_26 hg, gr91_27 hg, gr91_28 hg, gr91_29 hg, gr91_32 hg, gr91_33 hg, gr91_34 hg, gr91_35 hg, gr91_36 hg, gr91_37 hg, gr91_38 hg, gr91_39 hg, gr91_40 hg, gr91_41 hg, gr91_42 hg, gr91_44 hg, gr91_45 hg, gr91_46 hg, gr91_48 hg, gr91_49 hg, gr91_50 hg, gr91_51 hg, gr91_52 hg, gk118 hg, gl118 hg, s4, v4, Int.le_refl, wr_s (show 0 < 2147483647 by omega)]
              exact i2)
            rw [zq0] at p0
            apply zRunD_mono ztb zmt' (d + 15) _ _ _ _ _ _ _ p0
            rintro v G' h' ⟨a1, rfl, rfl⟩
            simp only [e198_59, e198_60, e198_61, zs0, zsI, zsL, zsR, ztl1, ztl0, zc0, zcI, zcL, zcR, true_and, and_true, true_implies, false_implies, implies_true, not_true_eq_false, not_false_eq_true, and_self, Int.toNat_natCast, Nat.reduceAdd, Nat.reduceLeDiff, Nat.reduceLT, forall_eq', Option.some.injEq, zarR, zarI, zarL, zle, zq0, zq1, zq2, zq3, zq4, zq5, zq6, zq8, zq9, zq10, zq20, zq7, zq12, zq24, zq40, zq41, zq48, zq100, zq120, zq123, zq480, zq492, zq700, zq729, zq2187, zq2916, zq8748, ne_eq, Int.reduceEq, Int.reduceLT, Int.reduceLE, Int.reduceToNat, Int.reduceMul, Int.reduceAdd, Int.reduceNeg, gk91 hg, gr91_5 hg, gr91_22 hg, gr91_23 hg, gr91_24 hg, gr91_25 hg, gr91_26 hg, gr91_27 hg, gr91_28 hg, gr91_29 hg, gr91_32 hg, gr91_33 hg, gr91_34 hg, gr91_35 hg, gr91_36 hg, gr91_37 hg, gr91_38 hg, gr91_39 hg, gr91_40 hg, gr91_41 hg, gr91_42 hg, gr91_44 hg, gr91_45 hg, gr91_46 hg, gr91_48 hg, gr91_49 hg, gr91_50 hg, gr91_51 hg, gr91_52 hg]
            exact a1
          | succ j ih =>
            intro k h3 l4 hj f3
            have c : ¬ 5 < (k : Int) := by omega
            rw [e198_7]
            simp only [e198_8, e198_9, e198_12, e198_13, e198_14, e198_15, e198_16, zs0, zsI, zsL, zsR, ztl1, ztl0, zc0, zcI, zcL, zcR, true_and, and_true, true_implies, false_implies, implies_true, not_true_eq_false, not_false_eq_true, and_self, Int.toNat_natCast, Nat.reduceAdd, Nat.reduceLeDiff, Nat.reduceLT, forall_eq', Option.some.injEq, zarR, zarI, zarL, zle, zq0, zq1, zq2, zq3, zq4, zq5, zq6, zq8, zq9, zq10, zq20, zq7, zq12, zq24, zq40, zq41, zq48, zq100, zq120, zq123, zq480, zq492, zq700, zq729, zq2187, zq2916, zq8748, ne_eq, Int.reduceEq, Int.reduceLT, Int.reduceLE, Int.reduceToNat, Int.reduceMul, Int.reduceAdd, Int.reduceNeg, gk91 hg, gr91_5 hg, gr91_22 hg, gr91_23 hg, gr91_24 hg, gr91_25 hg, gr91_26 hg, gr91_27 hg, gr91_28 hg, gr91_29 hg, gr91_32 hg, gr91_33 hg, gr91_34 hg, gr91_35 hg, gr91_36 hg, gr91_37 hg, gr91_38 hg, gr91_39 hg, gr91_40 hg, gr91_41 hg, gr91_42 hg, gr91_44 hg, gr91_45 hg, gr91_46 hg, gr91_48 hg, gr91_49 hg, gr91_50 hg, gr91_51 hg, gr91_52 hg, c]
            apply m_refuses (d := d) (ns := h 18 10) hg hk hu (rT_frame (rt0 h1 f1) (fun c i q => f3 c i (by omega))) hw (by
              unfold mF
              rw [hu.2.1]
              show h3 u 1 = h 18 10
              rw [f3 _ _ (by omega), zu_c (by omega), f1 _ _ (Or.inl (by omega)), rt.2.1, ← kt.2.1])
            intro h4 f4 _
            rw [hwl k (by omega)]
            simp only [e198_19, e198_21, e198_23, e198_26, e198_27, e198_29, e198_32, e198_33, e198_36, zs0, zsI, zsL, zsR, ztl1, ztl0, zc0, zcI, zcL, zcR, true_and, and_true, true_implies, false_implies, implies_true, not_true_eq_false, not_false_eq_true, and_self, Int.toNat_natCast, Nat.reduceAdd, Nat.reduceLeDiff, Nat.reduceLT, forall_eq', Option.some.injEq, zarR, zarI, zarL, zle, zq0, zq1, zq2, zq3, zq4, zq5, zq6, zq8, zq9, zq10, zq20, zq7, zq12, zq24, zq40, zq41, zq48, zq100, zq120, zq123, zq480, zq492, zq700, zq729, zq2187, zq2916, zq8748, ne_eq, Int.reduceEq, Int.reduceLT, Int.reduceLE, Int.reduceToNat, Int.reduceMul, Int.reduceAdd, Int.reduceNeg, Int.le_refl, wr_s (show k < 2147483647 by omega)]
            exact ih (k + 1) h4 _ (by omega) (f3.tr f4)
        simp only [e198_0, e198_1, e198_2, e198_5, e198_6, zs0, zsI, zsL, zsR, ztl1, ztl0, zc0, zcI, zcL, zcR, true_and, and_true, true_implies, false_implies, implies_true, not_true_eq_false, not_false_eq_true, and_self, Int.toNat_natCast, Nat.reduceAdd, Nat.reduceLeDiff, Nat.reduceLT, forall_eq', Option.some.injEq, zarR, zarI, zarL, zle, zq0, zq1, zq2, zq3, zq4, zq5, zq6, zq8, zq9, zq10, zq20, zq7, zq12, zq24, zq40, zq41, zq48, zq100, zq120, zq123, zq480, zq492, zq700, zq729, zq2187, zq2916, zq8748, ne_eq, Int.reduceEq, Int.reduceLT, Int.reduceLE, Int.reduceToNat, Int.reduceMul, Int.reduceAdd, Int.reduceNeg, gk91 hg, gr91_5 hg, gr91_22 hg, gr91_23 hg, gr91_24 hg, gr91_25 hg, gr91_26 hg, gr91_27 hg, gr91_28 hg, gr91_29 hg, gr91_32 hg, gr91_33 hg, gr91_34 hg, gr91_35 hg, gr91_36 hg, gr91_37 hg, gr91_38 hg, gr91_39 hg, gr91_40 hg, gr91_41 hg, gr91_42 hg, gr91_44 hg, gr91_45 hg, gr91_46 hg, gr91_48 hg, gr91_49 hg, gr91_50 hg, gr91_51 hg, gr91_52 hg]
        have k0 := first 6 0 (zu h1 91 0 0) none (by omega) (fun _ _ _ => rfl)
        simp only [zq0] at k0
        exact k0
  · refine PR_q (z := -1) (tr := 1) hI (by decide) ?_ ?_
    · intro Q K
      rw [r82]
      simp only [e82_0, e82_1, e82_2, e82_3, e82_6, e82_9, e82_10, e82_11, e82_12, e82_15, e82_18, e82_19, e82_22, e82_23, e82_26, e82_29, e82_30, e82_31, e82_32, e82_33, e82_34, e82_35, e82_36, e82_37, e82_40, e82_42, e82_43, e82_47, e82_48, e82_51, e82_52, e82_53, e82_54, e82_56, e82_59, e82_61, e82_63, e82_65, e82_66, e82_69, e82_71, e82_73, e82_75, e82_76, e82_79, e82_82, e82_83, zs0, zsI, zsL, zsR, ztl1, ztl0, zc0, zcI, zcL, zcR, true_and, and_true, true_implies, false_implies, implies_true, not_true_eq_false, not_false_eq_true, and_self, Int.toNat_natCast, Nat.reduceAdd, Nat.reduceLeDiff, Nat.reduceLT, forall_eq', Option.some.injEq, zarR, zarI, zarL, zle, zq0, zq1, zq2, zq3, zq4, zq5, zq6, zq8, zq9, zq10, zq20, zq7, zq12, zq24, zq40, zq41, zq48, zq100, zq120, zq123, zq480, zq492, zq700, zq729, zq2187, zq2916, zq8748, ne_eq, Int.reduceEq, Int.reduceLT, Int.reduceLE, Int.reduceToNat, Int.reduceMul, Int.reduceAdd, Int.reduceNeg, gk0 hg, gr0_0 hg, gr0_2 hg, gr0_3 hg, gr0_4 hg, gr0_5 hg, gr0_6 hg, gr0_7 hg, gr0_8 hg, gr0_9 hg, gr0_10 hg, or_true, true_or, if_true, if_false, false_and, and_false, false_or, or_false, f_isSort hg, e, zu_at]
      exact K _ cfr.z zu_at
    · intro h1 f1 Q K
      rw [r198]
      simp only [e198_0, e198_1, e198_2, e198_5, e198_6, e198_7, e198_8, e198_9, e198_12, e198_13, e198_14, e198_15, e198_16, zs0, zsI, zsL, zsR, ztl1, ztl0, zc0, zcI, zcL, zcR, true_and, and_true, true_implies, false_implies, implies_true, not_true_eq_false, not_false_eq_true, and_self, Int.toNat_natCast, Nat.reduceAdd, Nat.reduceLeDiff, Nat.reduceLT, forall_eq', Option.some.injEq, zarR, zarI, zarL, zle, zq0, zq1, zq2, zq3, zq4, zq5, zq6, zq8, zq9, zq10, zq20, zq7, zq12, zq24, zq40, zq41, zq48, zq100, zq120, zq123, zq480, zq492, zq700, zq729, zq2187, zq2916, zq8748, ne_eq, Int.reduceEq, Int.reduceLT, Int.reduceLE, Int.reduceToNat, Int.reduceMul, Int.reduceAdd, Int.reduceNeg, gk91 hg, gr91_5 hg, gr91_22 hg, gr91_23 hg, gr91_24 hg, gr91_25 hg, gr91_26 hg, gr91_27 hg, gr91_28 hg, gr91_29 hg, gr91_32 hg, gr91_33 hg, gr91_34 hg, gr91_35 hg, gr91_36 hg, gr91_37 hg, gr91_38 hg, gr91_39 hg, gr91_40 hg, gr91_41 hg, gr91_42 hg, gr91_44 hg, gr91_45 hg, gr91_46 hg, gr91_48 hg, gr91_49 hg, gr91_50 hg, gr91_51 hg, gr91_52 hg]
      rw [r195]
      simp only [e195_0, e195_1, e195_2, e195_5, e195_8, e195_9, e195_10, e195_11, e195_14, e195_17, e195_18, e195_19, e195_20, e195_21, e195_22, e195_25, e195_28, e195_29, e195_30, e195_31, e195_32, e195_35, e195_36, e195_37, e195_40, e195_43, e195_44, e195_47, e195_48, zs0, zsI, zsL, zsR, ztl1, ztl0, zc0, zcI, zcL, zcR, true_and, and_true, true_implies, false_implies, implies_true, not_true_eq_false, not_false_eq_true, and_self, Int.toNat_natCast, Nat.reduceAdd, Nat.reduceLeDiff, Nat.reduceLT, forall_eq', Option.some.injEq, zarR, zarI, zarL, zle, zq0, zq1, zq2, zq3, zq4, zq5, zq6, zq8, zq9, zq10, zq20, zq7, zq12, zq24, zq40, zq41, zq48, zq100, zq120, zq123, zq480, zq492, zq700, zq729, zq2187, zq2916, zq8748, ne_eq, Int.reduceEq, Int.reduceLT, Int.reduceLE, Int.reduceToNat, Int.reduceMul, Int.reduceAdd, Int.reduceNeg, gk91 hg, gr91_5 hg, gr91_22 hg, gr91_23 hg, gr91_24 hg, gr91_25 hg, gr91_26 hg, gr91_27 hg, gr91_28 hg, gr91_29 hg, gr91_32 hg, gr91_33 hg, gr91_34 hg, gr91_35 hg, gr91_36 hg, gr91_37 hg, gr91_38 hg, gr91_39 hg, gr91_40 hg, gr91_41 hg, gr91_42 hg, gr91_44 hg, gr91_45 hg, gr91_46 hg, gr91_48 hg, gr91_49 hg, gr91_50 hg, gr91_51 hg, gr91_52 hg, or_true, true_or, if_true, if_false, false_and, and_false, false_or, or_false, m_isSort hg hk, mF_z hk (show 91 < 121 by decide), mF_fr hk f1, ms, e]
      simp only [e198_0, e198_1, e198_2, e198_5, e198_6, e198_8, e198_9, e198_12, e198_13, e198_14, e198_15, e198_16, e198_19, e198_21, e198_23, e198_26, e198_27, e198_29, e198_32, e198_33, e198_36, e198_39, e198_40, e198_41, e198_42, e198_44, e198_45, e198_49, e198_50, e198_53, e198_54, e198_56, e198_59, e198_60, e198_61, e198_64, e198_66, e198_69, e198_70, e198_73, e198_74, e198_75, e198_77, e198_78, e198_81, e198_84, e198_85, e198_88, e198_89, e198_90, e198_92, e198_94, e198_95, e198_98, e198_101, e198_102, e198_103, e198_106, zs0, zsI, zsL, zsR, ztl1, ztl0, zc0, zcI, zcL, zcR, true_and, and_true, true_implies, false_implies, implies_true, not_true_eq_false, not_false_eq_true, and_self, Int.toNat_natCast, Nat.reduceAdd, Nat.reduceLeDiff, Nat.reduceLT, forall_eq', Option.some.injEq, zarR, zarI, zarL, zle, zq0, zq1, zq2, zq3, zq4, zq5, zq6, zq8, zq9, zq10, zq20, zq7, zq12, zq24, zq40, zq41, zq48, zq100, zq120, zq123, zq480, zq492, zq700, zq729, zq2187, zq2916, zq8748, ne_eq, Int.reduceEq, Int.reduceLT, Int.reduceLE, Int.reduceToNat, Int.reduceMul, Int.reduceAdd, Int.reduceNeg, gk91 hg, gr91_5 hg, gr91_22 hg, gr91_23 hg, gr91_24 hg, gr91_25 hg, gr91_26 hg, gr91_27 hg, gr91_28 hg, gr91_29 hg, gr91_32 hg, gr91_33 hg, gr91_34 hg, gr91_35 hg, gr91_36 hg, gr91_37 hg, gr91_38 hg, gr91_39 hg, gr91_40 hg, gr91_41 hg, gr91_42 hg, gr91_44 hg, gr91_45 hg, gr91_46 hg, gr91_48 hg, gr91_49 hg, gr91_50 hg, gr91_51 hg, gr91_52 hg, or_true, true_or, if_true, if_false, false_and, and_false, false_or, or_false, m_refused hg]
      exact K _ mEnd.1 mEnd.2.1 mEnd.2.2
end KI
