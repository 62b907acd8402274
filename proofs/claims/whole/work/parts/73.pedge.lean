section PE
variable {d : Nat} {G : zG} {h : zM}
theorem luF_eq {T : aTn} {hd : Nat → Nat → Int} {f g : Nat} (hq : ∀ s, s < nS T → nnE T f s = nnE T g s ∧ nfE T f s = nfE T g s) : luF T hd f ↔ luF T hd g := by
  have e1 : nnE T f = nnE T g := by
    funext s
    by_cases q : s < nS T
    · exact (hq s q).1
    · unfold nnE
      rw [if_neg q, if_neg q]
  have e2 : nfE T f = nfE T g := by
    funext s
    by_cases q : s < nS T
    · exact (hq s q).2
    · unfold nfE
      rw [if_neg q, if_neg q]
  unfold luF
  rw [e1, e2]
theorem rV_edge' {T : aTn} (_ : wT T) {u : Nat} {h2 : zM} (u1 : 121 ≤ u) {f : Nat} (V : rV h2 u T) : rV (zu h2 91 19 (f : Int)) u (aLaw T 5) := by
  obtain ⟨c1, c2, c3, c4, c5, c6, c7, c8, c9, c10, c11, c12, c13, c14⟩ := V
  have z1 : ∀ c i, ¬ (c = 91 ∧ i = 19) → (zu h2 91 19 (f : Int)) c i = h2 c i := fun c i q => by rw [zu, if_neg q]
  refine ⟨?_, ?_, ?_, ?_, ?_, ?_, ?_, ?_, ?_, ?_, ?_, ?_, ?_, ?_⟩
  · rw [z1 _ _ (by omega)]; exact c1
  · rw [z1 _ _ (by omega)]; exact c2
  · rw [z1 _ _ (by omega)]; exact c3
  · rw [z1 _ _ (by omega)]; exact c4
  · rw [z1 _ _ (by omega)]; exact c5
  · intro i hi; rw [aLaw_o (by decide) (by decide), z1 _ _ (by omega)]; exact c6 i hi
  · intro i hi; rw [aLaw_o (by decide) (by decide), z1 _ _ (by omega)]; exact c7 i hi
  · intro i hi; rw [aLaw_o (by decide) (by decide), z1 _ _ (by omega)]; exact c8 i hi
  · intro i hi; rw [aLaw_o (by decide) (by decide), z1 _ _ (by omega)]; exact c9 i hi
  · intro i hi; rw [aLaw_o (by decide) (by decide), z1 _ _ (by omega)]; exact c10 i hi
  · intro i hi; rw [aLaw_5, z1 91 17 (by omega), z1 (u + 7) i (by omega)]; exact c11 i hi
  · intro i hi; rw [aLaw_o (by decide) (by decide), z1 _ _ (by omega)]; exact c12 i hi
  · intro i hi
    rw [aLaw_7, zu_at, z1 (u + 9) i (by omega), if_neg (show ¬ (f : Int) = -1 by omega)]
    exact ⟨rfl, (c13 i hi).2⟩
  · rw [z1 91 17 (by omega)]; exact c14
theorem p_edge (hI : INV G h) : PR zI d 90 207 [] G h := by
  have hg := hI.1
  have hk := INV_gK hI
  rcases INV_rng hI with ⟨e, a⟩ | ⟨e, u, T, Y, hu, hu2, hw, kt, rt, i4, i5⟩
  · have un := a.1
    refine PR_q (z := -1) (tr := 1) hI (by decide) ?_ ?_
    · intro Q K
      rw [r90]
      simp only [e90_0, e90_1, e90_2, e90_5, e90_8, e90_9, e90_12, e90_13, e90_16, e90_17, e90_20, e90_23, e90_24, e90_25, e90_26, e90_27, e90_28, e90_31, e90_32, e90_35, e90_36, e90_39, e90_40, e90_42, e90_44, e90_47, e90_48, e90_51, e90_52, e90_55, e90_56, e90_57, e90_60, e90_61, e90_64, e90_65, e90_68, e90_71, e90_74, e90_75, e90_76, e90_79, e90_82, e90_84, zs0, zsI, zsL, zsR, ztl1, ztl0, zc0, zcI, zcL, zcR, true_and, and_true, true_implies, false_implies, implies_true, not_true_eq_false, not_false_eq_true, and_self, Int.toNat_natCast, Nat.reduceAdd, Nat.reduceLeDiff, Nat.reduceLT, forall_eq', Option.some.injEq, zarR, zarI, zarL, zle, zq0, zq1, zq2, zq3, zq4, zq5, zq6, zq8, zq9, zq10, zq20, zq7, zq12, zq24, zq40, zq41, zq48, zq100, zq120, zq123, zq480, zq492, zq700, zq729, zq2187, zq2916, zq8748, ne_eq, Int.reduceEq, Int.reduceLT, Int.reduceLE, Int.reduceToNat, Int.reduceMul, Int.reduceAdd, Int.reduceNeg, gk0 hg, gr0_0 hg, gr0_2 hg, gr0_3 hg, gr0_4 hg, gr0_5 hg, gr0_6 hg, gr0_7 hg, gr0_8 hg, gr0_9 hg, gr0_10 hg, or_true, true_or, if_true, if_false, false_and, and_false, false_or, or_false, f_isTown hg, e, zu_at]
      exact K _ cfr.z zu_at
    · intro h1 f1 Q K
      rw [r207]
      simp only [e207_0, e207_1, e207_2, e207_5, e207_6, e207_9, e207_12, e207_13, e207_14, e207_17, e207_18, e207_19, e207_21, e207_23, e207_26, e207_27, e207_28, e207_31, e207_32, e207_33, e207_36, e207_37, e207_38, e207_41, e207_42, e207_43, e207_46, e207_49, e207_52, e207_53, e207_54, e207_57, e207_58, e207_61, e207_64, e207_65, e207_67, e207_70, zs0, zsI, zsL, zsR, ztl1, ztl0, zc0, zcI, zcL, zcR, true_and, and_true, true_implies, false_implies, implies_true, not_true_eq_false, not_false_eq_true, and_self, Int.toNat_natCast, Nat.reduceAdd, Nat.reduceLeDiff, Nat.reduceLT, forall_eq', Option.some.injEq, zarR, zarI, zarL, zle, zq0, zq1, zq2, zq3, zq4, zq5, zq6, zq8, zq9, zq10, zq20, zq7, zq12, zq24, zq40, zq41, zq48, zq100, zq120, zq123, zq480, zq492, zq700, zq729, zq2187, zq2916, zq8748, ne_eq, Int.reduceEq, Int.reduceLT, Int.reduceLE, Int.reduceToNat, Int.reduceMul, Int.reduceAdd, Int.reduceNeg, gk91 hg, gr91_5 hg, gr91_22 hg, gr91_23 hg, gr91_24 hg, gr91_25 hg, gr91_26 hg, gr91_27 hg, gr91_28 hg, gr91_29 hg, gr91_32 hg, gr91_33 hg, gr91_34 hg, gr91_35 hg, gr91_36 hg, gr91_37 hg, gr91_38 hg, gr91_39 hg, gr91_40 hg, gr91_41 hg, gr91_42 hg, gr91_44 hg, gr91_45 hg, gr91_46 hg, gr91_48 hg, gr91_49 hg, gr91_50 hg, gr91_51 hg, gr91_52 hg, or_true, true_or, if_true, if_false, false_and, and_false, false_or, or_false, un, q_none, m_refused hg]
      exact K _ mEnd.1 mEnd.2.1 mEnd.2.2
  · have u1 := hu.1
    have hY := i4.1.1
    have hYe := i4.1.2.1
    have hb3 := hw.1
    have hs4 := hw.2.1
    have kt0 : kT (zu h 0 11 0) 18 T := kT_frame kt (fun c i q1 q2 => zu_c (by omega))
    have ok := I4_pOk i4
    have hw5 := aLaw_w hw 5
    have hc5 := acOk_all hw5
    have t5 := tg_b hw5 hc5
    have hN : 1 * (tg (fun _ => nA (aLaw T 5)) (nB (aLaw T 5)) * nB (aLaw T 5)) ≤ 2187 := by
      have : tg (fun _ => nA (aLaw T 5)) (nB (aLaw T 5)) * nB (aLaw T 5) ≤ 729 * 3 := Nat.mul_le_mul t5.2 hw5.1.2
      omega
    obtain ⟨F, hF⟩ : ∃ F : Nat, (F ≤ 100 ∧ ¬ luF T (hdC T h Y) F ∨ F = 101) ∧ ∀ f, f < F → luF T (hdC T h Y) f := by
      rcases first_F (luF T (hdC T h Y)) 101 with ⟨F, q1, q2, q3⟩ | q
      · exact ⟨F, Or.inl ⟨by omega, q2⟩, q3⟩
      · exact ⟨101, Or.inr rfl, q⟩
    refine PR_q (z := if F = 101 then -2 else (F : Int)) (tr := 0) hI (by decide) ?_ ?_
    · intro Q K
      rw [r90]
      simp only [e90_0, e90_1, e90_2, e90_5, e90_8, e90_9, e90_12, e90_13, e90_16, e90_17, e90_20, e90_23, e90_24, e90_25, e90_26, e90_27, e90_28, zs0, zsI, zsL, zsR, ztl1, ztl0, zc0, zcI, zcL, zcR, true_and, and_true, true_implies, false_implies, implies_true, not_true_eq_false, not_false_eq_true, and_self, Int.toNat_natCast, Nat.reduceAdd, Nat.reduceLeDiff, Nat.reduceLT, forall_eq', Option.some.injEq, zarR, zarI, zarL, zle, zq0, zq1, zq2, zq3, zq4, zq5, zq6, zq8, zq9, zq10, zq20, zq7, zq12, zq24, zq40, zq41, zq48, zq100, zq120, zq123, zq480, zq492, zq700, zq729, zq2187, zq2916, zq8748, ne_eq, Int.reduceEq, Int.reduceLT, Int.reduceLE, Int.reduceToNat, Int.reduceMul, Int.reduceAdd, Int.reduceNeg, gk0 hg, gr0_0 hg, gr0_2 hg, gr0_3 hg, gr0_4 hg, gr0_5 hg, gr0_6 hg, gr0_7 hg, gr0_8 hg, gr0_9 hg, gr0_10 hg, f_isTown hg, e, zu_at]
      have st := c_stage7 (d := d + 11) (Q := fun v G' h' => v = none ∧ G' = G ∧ zE 90 (d + 15) Q 31 [some (zR (some 0)), none, none] [] G h' (0, 0)) (n := 1) (Y := Y) (law := 5) hg kt0 hw (by decide) (by omega) (by rw [zu_c (by decide)]; exact hYe) hY ?_
      · rw [zq1] at st
        apply zRunD_mono ztb zmt' (d + 15) _ _ _ _ _ _ _ st
        rintro v G' h' ⟨rfl, rfl, q⟩
        exact q
      · intro h1 f1 s1 u14
        refine ⟨rfl, rfl, ?_⟩
        rw [hdC_fr (h := h) (fun i => zu_c (by decide))] at s1
        simp only [e90_31, e90_32, e90_35, e90_36, zs0, zsI, zsL, zsR, ztl1, ztl0, zc0, zcI, zcL, zcR, true_and, and_true, true_implies, false_implies, implies_true, not_true_eq_false, not_false_eq_true, and_self, Int.toNat_natCast, Nat.reduceAdd, Nat.reduceLeDiff, Nat.reduceLT, forall_eq', Option.some.injEq, zarR, zarI, zarL, zle, zq0, zq1, zq2, zq3, zq4, zq5, zq6, zq8, zq9, zq10, zq20, zq7, zq12, zq24, zq40, zq41, zq48, zq100, zq120, zq123, zq480, zq492, zq700, zq729, zq2187, zq2916, zq8748, ne_eq, Int.reduceEq, Int.reduceLT, Int.reduceLE, Int.reduceToNat, Int.reduceMul, Int.reduceAdd, Int.reduceNeg, gk0 hg, gr0_0 hg, gr0_2 hg, gr0_3 hg, gr0_4 hg, gr0_5 hg, gr0_6 hg, gr0_7 hg, gr0_8 hg, gr0_9 hg, gr0_10 hg, gk46 hg, gr46_0 hg, gr46_1 hg, gr46_2 hg, gr46_3 hg, gr46_4 hg, gr46_6 hg, gr46_7 hg, gr46_8 hg, gr46_9 hg, gr46_10 hg, gr46_11 hg, gr46_12 hg, gr46_13 hg]
        apply c_tab (d := d + 10) hg s1.1 hw5 hc5 s1.2.1
        intro h2 f2 hO
        have hP := sg_pre s1 f2 hO
        have lp : ∀ j f (h3 : zM) (l2 : Option zV), f + j = 101 → f ≤ F → kT h3 49 (aLaw T 5) → tOk h3 (aLaw T 5) (fun _ => nA (aLaw T 5)) → (∀ s b, s < nS T → b < 3 → h3 77 (b * 4 + s) = hdC T h Y s b) → (h3 46 14 = 0 ∨ h3 46 14 = 1) → (∀ c i, c < 46 ∨ 86 < c → h3 c i = (zu h 0 11 0) c i) → (1 ≤ f → ∀ s, s < nS T → h3 62 s = nnE T (f - 1) s ∧ h3 63 s = nfE T (f - 1) s) → zE 90 (d + 15) Q 41 [some (zR (some 0)), some (zI f), l2] [] G h3 (0, 0) := by
          intro j
          induction j with
          | zero =>
            intro f h3 l2 hj fF k3 o3 r3 u3 g3 n3
            have hj' : f = 101 := by omega
            have hF' : F = 101 := by omega
            subst hj'
            have kk := K h3 (cfr_out g3).1 (cfr_out g3).2
            rw [if_pos hF'] at kk
            have q1 : (100 : Int) < ((101 : Nat) : Int) := by decide
            rw [e90_41]
            simp only [e90_0, e90_1, e90_2, e90_5, e90_8, e90_9, e90_12, e90_13, e90_16, e90_17, e90_20, e90_23, e90_24, e90_25, e90_26, e90_27, e90_28, e90_31, e90_32, e90_35, e90_36, e90_39, e90_40, e90_42, e90_44, e90_47, e90_48, e90_51, e90_52, e90_55, e90_56, e90_57, e90_60, e90_61, e90_64, e90_65, e90_68, e90_71, e90_74, e90_75, e90_76, e90_79, e90_82, e90_84, zs0, zsI, zsL, zsR, ztl1, ztl0, zc0, zcI, zcL, zcR, true_and, and_true, true_implies, false_implies, implies_true, not_true_eq_false, not_false_eq_true, and_self, Int.toNat_natCast, Nat.reduceAdd, Nat.reduceLeDiff, Nat.reduceLT, forall_eq', Option.some.injEq, zarR, zarI, zarL, zle, zq0, zq1, zq2, zq3, zq4, zq5, zq6, zq8, zq9, zq10, zq20, zq7, zq12, zq24, zq40, zq41, zq48, zq100, zq120, zq123, zq480, zq492, zq700, zq729, zq2187, zq2916, zq8748, ne_eq, Int.reduceEq, Int.reduceLT, Int.reduceLE, Int.reduceToNat, Int.reduceMul, Int.reduceAdd, Int.reduceNeg, or_true, true_or, if_true, if_false, false_and, and_false, false_or, or_false, q1]
            exact kk
          | succ j ih =>
            intro f h3 l2 hj fF k3 o3 r3 u3 g3 n3
            have c : ¬ 100 < (f : Int) := by omega
            rw [e90_41]
            simp only [e90_42, e90_44, e90_47, e90_48, e90_51, e90_52, zs0, zsI, zsL, zsR, ztl1, ztl0, zc0, zcI, zcL, zcR, true_and, and_true, true_implies, false_implies, implies_true, not_true_eq_false, not_false_eq_true, and_self, Int.toNat_natCast, Nat.reduceAdd, Nat.reduceLeDiff, Nat.reduceLT, forall_eq', Option.some.injEq, zarR, zarI, zarL, zle, zq0, zq1, zq2, zq3, zq4, zq5, zq6, zq8, zq9, zq10, zq20, zq7, zq12, zq24, zq40, zq41, zq48, zq100, zq120, zq123, zq480, zq492, zq700, zq729, zq2187, zq2916, zq8748, ne_eq, Int.reduceEq, Int.reduceLT, Int.reduceLE, Int.reduceToNat, Int.reduceMul, Int.reduceAdd, Int.reduceNeg, gk0 hg, gr0_0 hg, gr0_2 hg, gr0_3 hg, gr0_4 hg, gr0_5 hg, gr0_6 hg, gr0_7 hg, gr0_8 hg, gr0_9 hg, gr0_10 hg, gk46 hg, gr46_0 hg, gr46_1 hg, gr46_2 hg, gr46_3 hg, gr46_4 hg, gr46_6 hg, gr46_7 hg, gr46_8 hg, gr46_9 hg, gr46_10 hg, gr46_11 hg, gr46_12 hg, gr46_13 hg, c]
            apply c_share (d := d + 13) (T := T) (f := f) hg k3 hw (by omega)
            intro v h4 f4 m4 hv
            have k4 : kT h4 49 (aLaw T 5) := kT_frame k3 (fun c i q1 q2 => f4 c i (by omega) (by omega))
            have o4 : tOk h4 (aLaw T 5) (fun _ => nA (aLaw T 5)) := tOk_fr o3 (fun i => f4 _ _ (by omega) (by omega)) (fun i => f4 _ _ (by omega) (by omega)) (fun i => f4 _ _ (by omega) (by omega)) (fun i => f4 _ _ (by omega) (by omega)) (f4 _ _ (by omega) (by omega))
            have r4 : ∀ s b, s < nS T → b < 3 → h4 77 (b * 4 + s) = hdC T h Y s b := fun s b q1 q2 => by rw [f4 _ _ (by omega) (by omega)]; exact r3 s b q1 q2
            have u4 : h4 46 14 = 0 ∨ h4 46 14 = 1 := by rw [f4 _ _ (by omega) (by omega)]; exact u3
            have g4 : ∀ c i, c < 46 ∨ 86 < c → h4 c i = (zu h 0 11 0) c i := fun c i q => by rw [f4 c i (by omega) (by omega)]; exact g3 c i q
            have P4 : sPre (aLaw T 5) (fun _ => nA (aLaw T 5)) (nnE T f) (nfE T f) 1 (hdC T h Y) h4 := ⟨k4, o4, r4, fun s hs => (m4 s hs).1, fun s hs => (m4 s hs).2, u4⟩
            -- behind a look at it
            have look : zE 90 (d + 15) Q 64 [some (zR (some 0)), some (zI f), some (zI v)] [] G h4 (0, 0) := by
              simp only [e90_64, e90_65, e90_68, zs0, zsI, zsL, zsR, ztl1, ztl0, zc0, zcI, zcL, zcR, true_and, and_true, true_implies, false_implies, implies_true, not_true_eq_false, not_false_eq_true, and_self, Int.toNat_natCast, Nat.reduceAdd, Nat.reduceLeDiff, Nat.reduceLT, forall_eq', Option.some.injEq, zarR, zarI, zarL, zle, zq0, zq1, zq2, zq3, zq4, zq5, zq6, zq8, zq9, zq10, zq20, zq7, zq12, zq24, zq40, zq41, zq48, zq100, zq120, zq123, zq480, zq492, zq700, zq729, zq2187, zq2916, zq8748, ne_eq, Int.reduceEq, Int.reduceLT, Int.reduceLE, Int.reduceToNat, Int.reduceMul, Int.reduceAdd, Int.reduceNeg, gk0 hg, gr0_0 hg, gr0_2 hg, gr0_3 hg, gr0_4 hg, gr0_5 hg, gr0_6 hg, gr0_7 hg, gr0_8 hg, gr0_9 hg, gr0_10 hg, gk46 hg, gr46_0 hg, gr46_1 hg, gr46_2 hg, gr46_3 hg, gr46_4 hg, gr46_6 hg, gr46_7 hg, gr46_8 hg, gr46_9 hg, gr46_10 hg, gr46_11 hg, gr46_12 hg, gr46_13 hg]
              apply c_any (d := d + 6) hg hw5 hc5 (fBE hw (f := f) (by omega)) hN ok.1 (by omega) (by omega) ok.2.2 P4
              intro w h5 hp hl
              have fs := hp.1
              have g5 : ∀ c i, c < 46 ∨ 86 < c → h5 c i = (zu h 0 11 0) c i := fun c i q => by rw [fs c i (by omega) (by omega) (by omega) (by omega) (by omega) (by omega) (by omega) (by omega)]; exact g4 c i q
              rcases hl with ⟨w1, l1⟩ | ⟨w0, l0⟩
              · have fF' : f < F := by
                  rcases hF.1 with ⟨_, q⟩ | q
                  · by_cases z : f = F
                    · subst z; exact absurd l1 q
                    · omega
                  · omega
                simp only [e90_71, e90_74, e90_75, e90_76, e90_79, e90_82, e90_84, zs0, zsI, zsL, zsR, ztl1, ztl0, zc0, zcI, zcL, zcR, true_and, and_true, true_implies, false_implies, implies_true, not_true_eq_false, not_false_eq_true, and_self, Int.toNat_natCast, Nat.reduceAdd, Nat.reduceLeDiff, Nat.reduceLT, forall_eq', Option.some.injEq, zarR, zarI, zarL, zle, zq0, zq1, zq2, zq3, zq4, zq5, zq6, zq8, zq9, zq10, zq20, zq7, zq12, zq24, zq40, zq41, zq48, zq100, zq120, zq123, zq480, zq492, zq700, zq729, zq2187, zq2916, zq8748, ne_eq, Int.reduceEq, Int.reduceLT, Int.reduceLE, Int.reduceToNat, Int.reduceMul, Int.reduceAdd, Int.reduceNeg, w1, wr_s (show f < 2147483647 by omega)]
                apply ih (f + 1) h5 _ (by omega) (by omega) (kT_frame k4 (fun c i q1 q2 => fs c i (by omega) (by omega) (by omega) (by omega) (by omega) (by omega) (by omega) (by omega))) (tOk_fr o4 (fun i => fs _ _ (by omega) (by omega) (by omega) (by omega) (by omega) (by omega) (by omega) (by omega)) (fun i => fs _ _ (by omega) (by omega) (by omega) (by omega) (by omega) (by omega) (by omega) (by omega)) (fun i => fs _ _ (by omega) (by omega) (by omega) (by omega) (by omega) (by omega) (by omega) (by omega)) (fun i => fs _ _ (by omega) (by omega) (by omega) (by omega) (by omega) (by omega) (by omega) (by omega)) (fs _ _ (by omega) (by omega) (by omega) (by omega) (by omega) (by omega) (by omega) (by omega))) ?_ hp.2.2.1 g5 ?_
                · intro s b q1 q2
                  rw [fs _ _ (by omega) (by omega) (by omega) (by omega) (by omega) (by omega) (by omega) (by omega)]
                  exact r4 s b q1 q2
                · intro _ s hs
                  rw [fs _ _ (by omega) (by omega) (by omega) (by omega) (by omega) (by omega) (by omega) (by omega), fs _ _ (by omega) (by omega) (by omega) (by omega) (by omega) (by omega) (by omega) (by omega), Nat.add_sub_cancel]
                  exact m4 s hs
              · have fF' : f = F := by
                  by_cases z : f < F
                  · exact absurd (hF.2 f z) l0
                  · omega
                have kk := K h5 (cfr_out g5).1 (cfr_out g5).2
                rw [← fF', if_neg (by omega)] at kk
                simp only [e90_71, e90_74, e90_75, e90_76, e90_79, e90_82, e90_84, zs0, zsI, zsL, zsR, ztl1, ztl0, zc0, zcI, zcL, zcR, true_and, and_true, true_implies, false_implies, implies_true, not_true_eq_false, not_false_eq_true, and_self, Int.toNat_natCast, Nat.reduceAdd, Nat.reduceLeDiff, Nat.reduceLT, forall_eq', Option.some.injEq, zarR, zarI, zarL, zle, zq0, zq1, zq2, zq3, zq4, zq5, zq6, zq8, zq9, zq10, zq20, zq7, zq12, zq24, zq40, zq41, zq48, zq100, zq120, zq123, zq480, zq492, zq700, zq729, zq2187, zq2916, zq8748, ne_eq, Int.reduceEq, Int.reduceLT, Int.reduceLE, Int.reduceToNat, Int.reduceMul, Int.reduceAdd, Int.reduceNeg, w0]
                exact kk
            by_cases f0 : f = 0
            · have f0' : (f : Int) = 0 := by omega
              rw [f0'] at look ⊢
              simp only [e90_55, e90_56, e90_57, e90_60, e90_61, zs0, zsI, zsL, zsR, ztl1, ztl0, zc0, zcI, zcL, zcR, true_and, and_true, true_implies, false_implies, implies_true, not_true_eq_false, not_false_eq_true, and_self, Int.toNat_natCast, Nat.reduceAdd, Nat.reduceLeDiff, Nat.reduceLT, forall_eq', Option.some.injEq, zarR, zarI, zarL, zle, zq0, zq1, zq2, zq3, zq4, zq5, zq6, zq8, zq9, zq10, zq20, zq7, zq12, zq24, zq40, zq41, zq48, zq100, zq120, zq123, zq480, zq492, zq700, zq729, zq2187, zq2916, zq8748, ne_eq, Int.reduceEq, Int.reduceLT, Int.reduceLE, Int.reduceToNat, Int.reduceMul, Int.reduceAdd, Int.reduceNeg]
              exact look
            · have f0' : ¬ (f : Int) = 0 := by omega
              rcases hv with ⟨v0, hv⟩ | v1
              · have fF' : f < F := by
                  rcases hF.1 with ⟨_, q⟩ | q
                  · by_cases z : f = F
                    · subst z
                      have l1 := hF.2 (f - 1) (by omega)
                      have n3' := n3 (by omega)
                      exact absurd ((luF_eq (fun s hs => ⟨(hv s hs).1.symm.trans (n3' s hs).1, (hv s hs).2.symm.trans (n3' s hs).2⟩)).mpr l1) q
                    · omega
                  · omega
                simp only [e90_55, e90_56, e90_57, e90_60, e90_61, e90_76, e90_79, zs0, zsI, zsL, zsR, ztl1, ztl0, zc0, zcI, zcL, zcR, true_and, and_true, true_implies, false_implies, implies_true, not_true_eq_false, not_false_eq_true, and_self, Int.toNat_natCast, Nat.reduceAdd, Nat.reduceLeDiff, Nat.reduceLT, forall_eq', Option.some.injEq, zarR, zarI, zarL, zle, zq0, zq1, zq2, zq3, zq4, zq5, zq6, zq8, zq9, zq10, zq20, zq7, zq12, zq24, zq40, zq41, zq48, zq100, zq120, zq123, zq480, zq492, zq700, zq729, zq2187, zq2916, zq8748, ne_eq, Int.reduceEq, Int.reduceLT, Int.reduceLE, Int.reduceToNat, Int.reduceMul, Int.reduceAdd, Int.reduceNeg, f0', v0, wr_s (show f < 2147483647 by omega)]
                apply ih (f + 1) h4 _ (by omega) (by omega) k4 o4 r4 u4 g4
                intro _ s hs
                rw [Nat.add_sub_cancel]
                exact m4 s hs
              · rw [v1] at look ⊢
                simp only [e90_55, e90_56, e90_57, e90_60, e90_61, zs0, zsI, zsL, zsR, ztl1, ztl0, zc0, zcI, zcL, zcR, true_and, and_true, true_implies, false_implies, implies_true, not_true_eq_false, not_false_eq_true, and_self, Int.toNat_natCast, Nat.reduceAdd, Nat.reduceLeDiff, Nat.reduceLT, forall_eq', Option.some.injEq, zarR, zarI, zarL, zle, zq0, zq1, zq2, zq3, zq4, zq5, zq6, zq8, zq9, zq10, zq20, zq7, zq12, zq24, zq40, zq41, zq48, zq100, zq120, zq123, zq480, zq492, zq700, zq729, zq2187, zq2916, zq8748, ne_eq, Int.reduceEq, Int.reduceLT, Int.reduceLE, Int.reduceToNat, Int.reduceMul, Int.reduceAdd, Int.reduceNeg, f0']
                exact look
        simp only [e90_39, e90_40, zs0, zsI, zsL, zsR, ztl1, ztl0, zc0, zcI, zcL, zcR, true_and, and_true, true_implies, false_implies, implies_true, not_true_eq_false, not_false_eq_true, and_self, Int.toNat_natCast, Nat.reduceAdd, Nat.reduceLeDiff, Nat.reduceLT, forall_eq', Option.some.injEq, zarR, zarI, zarL, zle, zq0, zq1, zq2, zq3, zq4, zq5, zq6, zq8, zq9, zq10, zq20, zq7, zq12, zq24, zq40, zq41, zq48, zq100, zq120, zq123, zq480, zq492, zq700, zq729, zq2187, zq2916, zq8748, ne_eq, Int.reduceEq, Int.reduceLT, Int.reduceLE, Int.reduceToNat, Int.reduceMul, Int.reduceAdd, Int.reduceNeg]
        have l0 := lp 101 0 h2 none (by omega) (by omega) hP.1 hP.2.1 hP.2.2.1 hP.2.2.2.2.2 (fun c i q => by rw [f2 c i (by omega) (by omega) (by omega) (by omega) (by omega) (by omega) (by omega) (by omega), f1 c i q]) (fun q => by omega)
        simp only [zq0] at l0
        exact l0
    · intro h1 f1 Q K
      rw [r207]
      have fz : ∀ c i, 91 ≤ c → h1 c i = h c i := fun c i q => f1 c i (Or.inl q)
      have rt0 : rT (zu h1 91 0 0) u T := rT_frame rt (fun c i q => by rw [zu_c (by omega), fz c i (by omega)])
      have lp : ∀ j f (h3 : zM), f + j = 101 → f ≤ F → rO (zu h1 91 0 0) h3 → zE 207 (d + 15) Q 20 [some (zR (some 91)), some (zI f)] [] G h3 (0, 0) := by
        intro j
        induction j with
        | zero =>
          intro f h3 hj fF r3
          have hj' : f = 101 := by omega
          have hF' : F = 101 := by omega
          subst hj'
          have kk := K (zu (zu h3 91 1 0) 91 2 (-1)) (mEnd2 r3).1 (mEnd2 r3).2.1 (mEnd2 r3).2.2
          rw [if_pos hF'] at kk
          have q1 : (100 : Int) < ((101 : Nat) : Int) := by decide
          rw [e207_20]
          simp only [e207_0, e207_1, e207_2, e207_5, e207_6, e207_9, e207_12, e207_13, e207_14, e207_17, e207_18, e207_19, e207_21, e207_23, e207_26, e207_27, e207_28, e207_31, e207_32, e207_33, e207_36, e207_37, e207_38, e207_41, e207_42, e207_43, e207_46, e207_49, e207_52, e207_53, e207_54, e207_57, e207_58, e207_61, e207_64, e207_65, e207_67, e207_70, zs0, zsI, zsL, zsR, ztl1, ztl0, zc0, zcI, zcL, zcR, true_and, and_true, true_implies, false_implies, implies_true, not_true_eq_false, not_false_eq_true, and_self, Int.toNat_natCast, Nat.reduceAdd, Nat.reduceLeDiff, Nat.reduceLT, forall_eq', Option.some.injEq, zarR, zarI, zarL, zle, zq0, zq1, zq2, zq3, zq4, zq5, zq6, zq8, zq9, zq10, zq20, zq7, zq12, zq24, zq40, zq41, zq48, zq100, zq120, zq123, zq480, zq492, zq700, zq729, zq2187, zq2916, zq8748, ne_eq, Int.reduceEq, Int.reduceLT, Int.reduceLE, Int.reduceToNat, Int.reduceMul, Int.reduceAdd, Int.reduceNeg, gk91 hg, gr91_5 hg, gr91_22 hg, gr91_23 hg, gr91_24 hg, gr91_25 hg, gr91_26 hg, gr91_27 hg, gr91_28 hg, gr91_29 hg, gr91_32 hg, gr91_33 hg, gr91_34 hg, gr91_35 hg, gr91_36 hg, gr91_37 hg, gr91_38 hg, gr91_39 hg, gr91_40 hg, gr91_41 hg, gr91_42 hg, gr91_44 hg, gr91_45 hg, gr91_46 hg, gr91_48 hg, gr91_49 hg, gr91_50 hg, gr91_51 hg, gr91_52 hg, or_true, true_or, if_true, if_false, false_and, and_false, false_or, or_false, q1, m_done hg]
          exact kk
        | succ j ih =>
          intro f h3 hj fF r3
          have c : ¬ 100 < (f : Int) := by omega
          rw [e207_20]
          simp only [e207_21, e207_23, e207_26, e207_27, e207_28, zs0, zsI, zsL, zsR, ztl1, ztl0, zc0, zcI, zcL, zcR, true_and, and_true, true_implies, false_implies, implies_true, not_true_eq_false, not_false_eq_true, and_self, Int.toNat_natCast, Nat.reduceAdd, Nat.reduceLeDiff, Nat.reduceLT, forall_eq', Option.some.injEq, zarR, zarI, zarL, zle, zq0, zq1, zq2, zq3, zq4, zq5, zq6, zq8, zq9, zq10, zq20, zq7, zq12, zq24, zq40, zq41, zq48, zq100, zq120, zq123, zq480, zq492, zq700, zq729, zq2187, zq2916, zq8748, ne_eq, Int.reduceEq, Int.reduceLT, Int.reduceLE, Int.reduceToNat, Int.reduceMul, Int.reduceAdd, Int.reduceNeg, gk91 hg, gr91_5 hg, gr91_22 hg, gr91_23 hg, gr91_24 hg, gr91_25 hg, gr91_26 hg, gr91_27 hg, gr91_28 hg, gr91_29 hg, gr91_32 hg, gr91_33 hg, gr91_34 hg, gr91_35 hg, gr91_36 hg, gr91_37 hg, gr91_38 hg, gr91_39 hg, gr91_40 hg, gr91_41 hg, gr91_42 hg, gr91_44 hg, gr91_45 hg, gr91_46 hg, gr91_48 hg, gr91_49 hg, gr91_50 hg, gr91_51 hg, gr91_52 hg, c]
          apply m_lays hg hu (rT_frame rt0 (fun c i q => r3 c i (by omega))) hw (by decide)
          intro h4 f4 V4 v19 v20 v21
          rw [aLaw_0] at V4
          simp only [e207_31, e207_32, e207_33, e207_36, e207_37, e207_38, zs0, zsI, zsL, zsR, ztl1, ztl0, zc0, zcI, zcL, zcR, true_and, and_true, true_implies, false_implies, implies_true, not_true_eq_false, not_false_eq_true, and_self, Int.toNat_natCast, Nat.reduceAdd, Nat.reduceLeDiff, Nat.reduceLT, forall_eq', Option.some.injEq, zarR, zarI, zarL, zle, zq0, zq1, zq2, zq3, zq4, zq5, zq6, zq8, zq9, zq10, zq20, zq7, zq12, zq24, zq40, zq41, zq48, zq100, zq120, zq123, zq480, zq492, zq700, zq729, zq2187, zq2916, zq8748, ne_eq, Int.reduceEq, Int.reduceLT, Int.reduceLE, Int.reduceToNat, Int.reduceMul, Int.reduceAdd, Int.reduceNeg, gk91 hg, gr91_5 hg, gr91_22 hg, gr91_23 hg, gr91_24 hg, gr91_25 hg, gr91_26 hg, gr91_27 hg, gr91_28 hg, gr91_29 hg, gr91_32 hg, gr91_33 hg, gr91_34 hg, gr91_35 hg, gr91_36 hg, gr91_37 hg, gr91_38 hg, gr91_39 hg, gr91_40 hg, gr91_41 hg, gr91_42 hg, gr91_44 hg, gr91_45 hg, gr91_46 hg, gr91_48 hg, gr91_49 hg, gr91_50 hg, gr91_51 hg, gr91_52 hg]
          have mb := m_begins (d := d + 13) (h := zu h4 91 19 (f : Int)) (Q := fun v G' h' => v = none ∧ G' = G ∧ zE 207 (d + 15) Q 41 [some (zR (some 91)), some (zI f)] [] G h' (0, 0)) (n := 1) hg hu (by decide) ?_
          · rw [zq1] at mb
            apply zRunD_mono ztb zmt' (d + 15) _ _ _ _ _ _ _ mb
            rintro v G' h' ⟨rfl, rfl, q⟩
            exact q
          · intro h5 f5 a1 a2 a3
            refine ⟨rfl, rfl, ?_⟩
            have V5 : rV h5 u (aLaw T 5) := rV_frame (rV_edge' hw u1 V4) (fun c i q => f5 c i (by omega) (by omega) (by omega)) (fun i => f5 _ _ (by omega) (by omega) (by omega)) (fun i _ _ => f5 _ _ (by omega) (by omega) (by omega))
            have A5 : rA h5 (aLaw T 5) (fun _ => nA (aLaw T 5)) := rA_all hw5 (by rw [f5 _ _ (by omega) (by omega) (by omega), zu_i (by decide)]; exact v20) (by rw [f5 _ _ (by omega) (by omega) (by omega), zu_i (by decide)]; exact v21)
            have e19 : h5 91 19 = (f : Int) := by rw [f5 _ _ (by omega) (by omega) (by omega), zu_at]
            have e100 : ∀ s, s < nS T → h5 100 s = tr T 3 s := fun s hs => by rw [a1 s (by omega), zu_c (by omega)]; exact V4.2.2.2.2.2.2.2.2.1 s hs
            have P5 : rPre (aLaw T 5) (fun _ => nA (aLaw T 5)) (nnE T f) (nfE T f) u 1 (hdC T h Y) h5 := by
              refine ⟨V5, A5, ?_, ?_, ?_, Or.inl a2⟩
              · intro s b q1 q2
                have hh := hd_m (h' := h5) (m := 1) hw i4 (fun k hk => by rw [a3 k hk, zu_c (by decide), f4 _ _ (by omega) (by omega), r3 _ _ (by omega), zu_c (by decide), fz _ _ (by omega)])
                exact hh s b q1 q2
              · intro s hs
                have hs' : s < nS T := hs
                have b3 := (hw.2.2.2.2.2 s).2.2.2.1
                rw [e100 s hs', e19, if_neg (by omega)]
                refine ⟨by omega, ?_, ?_⟩
                · unfold nfE; rw [if_pos hs']
                · unfold nnE; rw [if_pos hs']
              · rw [e19]; omega
            simp only [e207_41, e207_42, e207_43, zs0, zsI, zsL, zsR, ztl1, ztl0, zc0, zcI, zcL, zcR, true_and, and_true, true_implies, false_implies, implies_true, not_true_eq_false, not_false_eq_true, and_self, Int.toNat_natCast, Nat.reduceAdd, Nat.reduceLeDiff, Nat.reduceLT, forall_eq', Option.some.injEq, zarR, zarI, zarL, zle, zq0, zq1, zq2, zq3, zq4, zq5, zq6, zq8, zq9, zq10, zq20, zq7, zq12, zq24, zq40, zq41, zq48, zq100, zq120, zq123, zq480, zq492, zq700, zq729, zq2187, zq2916, zq8748, ne_eq, Int.reduceEq, Int.reduceLT, Int.reduceLE, Int.reduceToNat, Int.reduceMul, Int.reduceAdd, Int.reduceNeg, gk91 hg, gr91_5 hg, gr91_22 hg, gr91_23 hg, gr91_24 hg, gr91_25 hg, gr91_26 hg, gr91_27 hg, gr91_28 hg, gr91_29 hg, gr91_32 hg, gr91_33 hg, gr91_34 hg, gr91_35 hg, gr91_36 hg, gr91_37 hg, gr91_38 hg, gr91_39 hg, gr91_40 hg, gr91_41 hg, gr91_42 hg, gr91_44 hg, gr91_45 hg, gr91_46 hg, gr91_48 hg, gr91_49 hg, gr91_50 hg, gr91_51 hg, gr91_52 hg]
            apply m_rest1 (d := d + 6) hg hu hw5 hc5 (fBE hw (f := f) (by omega)) (hdC T h Y) _ h5 _ ok.1 (by omega) (by omega) ok.2.2 P5
            intro h6 hp
            have o6 := rFr_out hp.1
            have V6 : rV h6 u (aLaw T 5) := rV_frame V5 (fun c i q => o6 c i (by omega)) (fun i => o6 _ _ (by omega)) (fun i _ _ => o6 _ _ (by omega))
            have A6 : rA h6 (aLaw T 5) (fun _ => nA (aLaw T 5)) := rA_fr A5 (o6 _ _ (by omega)) (o6 _ _ (by omega))
            have cb := calm_b (ac := fun _ => nA (aLaw T 5)) (nb := nB (aLaw T 5)) (w := rW (aLaw T 5) (fun _ => nA (aLaw T 5)) (nnE T f) (nfE T f) 1 (hdC T h Y)) (by omega)
            have r6 : rO (zu h1 91 0 0) h6 := fun c i q => by rw [o6 c i (by omega), f5 c i (by omega) (by omega) (by omega), zu, if_neg (by omega), f4 c i (by omega) (by omega), r3 c i q]
            simp only [e207_46, zs0, zsI, zsL, zsR, ztl1, ztl0, zc0, zcI, zcL, zcR, true_and, and_true, true_implies, false_implies, implies_true, not_true_eq_false, not_false_eq_true, and_self, Int.toNat_natCast, Nat.reduceAdd, Nat.reduceLeDiff, Nat.reduceLT, forall_eq', Option.some.injEq, zarR, zarI, zarL, zle, zq0, zq1, zq2, zq3, zq4, zq5, zq6, zq8, zq9, zq10, zq20, zq7, zq12, zq24, zq40, zq41, zq48, zq100, zq120, zq123, zq480, zq492, zq700, zq729, zq2187, zq2916, zq8748, ne_eq, Int.reduceEq, Int.reduceLT, Int.reduceLE, Int.reduceToNat, Int.reduceMul, Int.reduceAdd, Int.reduceNeg, gk91 hg, gr91_5 hg, gr91_22 hg, gr91_23 hg, gr91_24 hg, gr91_25 hg, gr91_26 hg, gr91_27 hg, gr91_28 hg, gr91_29 hg, gr91_32 hg, gr91_33 hg, gr91_34 hg, gr91_35 hg, gr91_36 hg, gr91_37 hg, gr91_38 hg, gr91_39 hg, gr91_40 hg, gr91_41 hg, gr91_42 hg, gr91_44 hg, gr91_45 hg, gr91_46 hg, gr91_48 hg, gr91_49 hg, gr91_50 hg, gr91_51 hg, gr91_52 hg]
            apply m_some (d := d + 11) hg hu V6 hw5 hc5 A6 cb
            intro w hl
            rcases hl with ⟨w1, l1⟩ | ⟨w0, l0⟩
            · have fF' : f < F := by
                rcases hF.1 with ⟨_, q⟩ | q
                · by_cases z : f = F
                  · subst z; exact absurd l1 q
                  · omega
                · omega
              simp only [e207_49, e207_52, e207_53, e207_54, e207_57, e207_58, e207_61, e207_64, e207_65, e207_67, e207_70, zs0, zsI, zsL, zsR, ztl1, ztl0, zc0, zcI, zcL, zcR, true_and, and_true, true_implies, false_implies, implies_true, not_true_eq_false, not_false_eq_true, and_self, Int.toNat_natCast, Nat.reduceAdd, Nat.reduceLeDiff, Nat.reduceLT, forall_eq', Option.some.injEq, zarR, zarI, zarL, zle, zq0, zq1, zq2, zq3, zq4, zq5, zq6, zq8, zq9, zq10, zq20, zq7, zq12, zq24, zq40, zq41, zq48, zq100, zq120, zq123, zq480, zq492, zq700, zq729, zq2187, zq2916, zq8748, ne_eq, Int.reduceEq, Int.reduceLT, Int.reduceLE, Int.reduceToNat, Int.reduceMul, Int.reduceAdd, Int.reduceNeg, w1, wr_s (show f < 2147483647 by omega)]
              exact ih (f + 1) h6 (by omega) (by omega) r6
            · have fF' : f = F := by
                by_cases z : f < F
                · exact absurd (hF.2 f z) l0
                · omega
              have kk := K (zu (zu h6 91 1 0) 91 2 (-1)) (mEnd2 r6).1 (mEnd2 r6).2.1 (mEnd2 r6).2.2
              rw [← fF', if_neg (by omega)] at kk
              simp only [e207_49, e207_52, e207_53, e207_54, e207_57, e207_58, e207_61, e207_64, e207_65, e207_67, e207_70, zs0, zsI, zsL, zsR, ztl1, ztl0, zc0, zcI, zcL, zcR, true_and, and_true, true_implies, false_implies, implies_true, not_true_eq_false, not_false_eq_true, and_self, Int.toNat_natCast, Nat.reduceAdd, Nat.reduceLeDiff, Nat.reduceLT, forall_eq', Option.some.injEq, zarR, zarI, zarL, zle, zq0, zq1, zq2, zq3, zq4, zq5, zq6, zq8, zq9, zq10, zq20, zq7, zq12, zq24, zq40, zq41, zq48, zq100, zq120, zq123, zq480, zq492, zq700, zq729, zq2187, zq2916, zq8748, ne_eq, Int.reduceEq, Int.reduceLT, Int.reduceLE, Int.reduceToNat, Int.reduceMul, Int.reduceAdd, Int.reduceNeg, gk91 hg, gr91_5 hg, gr91_22 hg, gr91_23 hg, gr91_24 hg, gr91_25 hg, gr91_26 hg, gr91_27 hg, gr91_28 hg, gr91_29 hg, gr91_32 hg, gr91_33 hg, gr91_34 hg, gr91_35 hg, gr91_36 hg, gr91_37 hg, gr91_38 hg, gr91_39 hg, gr91_40 hg, gr91_41 hg, gr91_42 hg, gr91_44 hg, gr91_45 hg, gr91_46 hg, gr91_48 hg, gr91_49 hg, gr91_50 hg, gr91_51 hg, gr91_52 hg, w0, m_done hg]
              exact kk
      simp only [e207_0, e207_1, e207_2, e207_5, e207_6, e207_9, e207_12, e207_13, e207_14, e207_17, e207_18, e207_19, e207_21, e207_23, e207_26, e207_27, e207_28, e207_31, e207_32, e207_33, e207_36, e207_37, e207_38, e207_41, e207_42, e207_43, e207_46, e207_49, e207_52, e207_53, e207_54, e207_57, e207_58, e207_61, e207_64, e207_65, e207_67, e207_70, zs0, zsI, zsL, zsR, ztl1, ztl0, zc0, zcI, zcL, zcR, true_and, and_true, true_implies, false_implies, implies_true, not_true_eq_false, not_false_eq_true, and_self, Int.toNat_natCast, Nat.reduceAdd, Nat.reduceLeDiff, Nat.reduceLT, forall_eq', Option.some.injEq, zarR, zarI, zarL, zle, zq0, zq1, zq2, zq3, zq4, zq5, zq6, zq8, zq9, zq10, zq20, zq7, zq12, zq24, zq40, zq41, zq48, zq100, zq120, zq123, zq480, zq492, zq700, zq729, zq2187, zq2916, zq8748, ne_eq, Int.reduceEq, Int.reduceLT, Int.reduceLE, Int.reduceToNat, Int.reduceMul, Int.reduceAdd, Int.reduceNeg, gk91 hg, gr91_5 hg, gr91_22 hg, gr91_23 hg, gr91_24 hg, gr91_25 hg, gr91_26 hg, gr91_27 hg, gr91_28 hg, gr91_29 hg, gr91_32 hg, gr91_33 hg, gr91_34 hg, gr91_35 hg, gr91_36 hg, gr91_37 hg, gr91_38 hg, gr91_39 hg, gr91_40 hg, gr91_41 hg, gr91_42 hg, gr91_44 hg, gr91_45 hg, gr91_46 hg, gr91_48 hg, gr91_49 hg, gr91_50 hg, gr91_51 hg, gr91_52 hg, hu, q_some]
      have l0 := lp 101 0 (zu h1 91 0 0) (by omega) (by omega) (fun _ _ _ => rfl)
      simp only [zq0] at l0
      exact l0
end PE
