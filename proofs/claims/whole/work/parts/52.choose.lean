theorem rBy_c (nb ns x y : Int) : (rBy nb ns x y = 1 ∧ rng 0 ns y = 1 ∧ (x = -1 ∨ ¬ x = -1 ∧ rng 0 nb x = 1)) ∨ (rBy nb ns x y = 0 ∧ (rng 0 ns y = 0 ∨ rng 0 ns y = 1 ∧ ¬ x = -1 ∧ rng 0 nb x = 0)) := by
  unfold rBy
  by_cases c : x = -1
  · rw [if_pos c]
    rcases rng_c 0 ns y with ⟨e, _⟩ | ⟨e, _⟩
    · left; exact ⟨e, e, Or.inl c⟩
    · right; exact ⟨e, Or.inl e⟩
  · rw [if_neg c]
    rcases rng_c 0 nb x with ⟨e2, _⟩ | ⟨e2, _⟩
    · rw [if_pos e2]
      rcases rng_c 0 ns y with ⟨e, _⟩ | ⟨e, _⟩
      · left; exact ⟨e, e, Or.inr ⟨c, e2⟩⟩
      · right; exact ⟨e, Or.inl e⟩
    · rw [if_neg (by omega)]
      rcases rng_c 0 ns y with ⟨e, _⟩ | ⟨e, _⟩
      · right; exact ⟨rfl, Or.inr ⟨e, c, e2⟩⟩
      · right; exact ⟨rfl, Or.inl e⟩
theorem I4_od {T : aTn} {Y : Nat} {g h : zM} (i4 : I4 T Y g h) : ∃ od nw : Nat → Nat, ∀ b, b < 3 → (g 40 (Y * 3 + b) = (od b : Int) ∧ od b < nP T) ∧ (g 41 (Y * 3 + b) = (nw b : Int) ∧ nw b < nP T) ∧ h 102 b = (od b : Int) ∧ h 103 b = (nw b : Int) ∧ (tw T = 0 → nw b = od b) := by
  refine ⟨fun b => (g 40 (Y * 3 + b)).toNat, fun b => (g 41 (Y * 3 + b)).toNat, fun b hb => ?_⟩
  have a := i4.2.2.1.2.2 Y b (Nat.le_refl _) hb
  have e := i4.2.2.1.1 b hb
  dsimp only
  refine ⟨by omega, by omega, by omega, by omega, fun q => ?_⟩
  have := a.2.2 q
  omega
theorem home_f {nb : Nat} {x : Int} (h3 : nb ≤ 3) (h : x = -1 ∨ ¬ x = -1 ∧ rng 0 nb x = 1) : ∃ f : Nat, (f < nb ∨ f = 3) ∧ x = fI f ∧ (if x = -1 then 3 else x) = (f : Int) := by
  rcases h with h | ⟨h, e⟩
  · exact ⟨3, Or.inr rfl, h, by rw [if_pos h]; rfl⟩
  · rcases rng_c 0 nb x with ⟨_, e1, e2⟩ | ⟨e1, _⟩
    · obtain ⟨f, rfl⟩ := Int.eq_ofNat_of_zero_le e1
      exact ⟨f, Or.inl (by omega), fI_lt (by omega), by rw [if_neg h]⟩
    · omega
section CH
variable {d : Nat} {G : zG} {h : zM} {x y z : Int}
theorem p_choose (hI : INV G h) : PR zI d 65 160 [zI x, zI y] G h := by
  have hg := hI.1
  have hk := INV_gK hI
  obtain ⟨mb, ms⟩ := INV_mF hI
  rcases rBy_c (h 18 9) (h 18 10) x y with ⟨e, e1, e2⟩ | ⟨e, e1⟩
  · rcases rng_c 0 (h 18 10) y with ⟨_, k1, k2⟩ | ⟨q, _⟩
    · obtain ⟨u, T, Y, hu, hu2, hw, kt, rt, i4, i5⟩ := INV_T hI (by omega)
      obtain ⟨s, rfl⟩ := Int.eq_ofNat_of_zero_le k1
      have hs : s < nS T := by have := kt.2.1; omega
      have hb3 := hw.1
      have hs4 := hw.2.1
      have hY := i4.1.1
      have hYe := i4.1.2.1
      have u1 := hu.1
      have s4 : (s : Int) < 4 := by omega
      have b7 := (hw.2.2.2.2.2 s).2.2.2.2.2.2.2.1
      obtain ⟨od, nw, hod⟩ := I4_od i4
      obtain ⟨f, hf, xf, hm⟩ := home_f (nb := nB T) (x := x) (by omega) (by rw [← kt.1]; exact e2)
      refine PR_q (z := tI (aCh T (pO T od) (pO T nw) s (tr T 7 s) f)) (tr := 0) hI (by decide) ?_ ?_
      · intro Q K
        rw [r65]
        have kt0 : kT (zu h 0 11 0) 18 T := kT_frame kt (fun c i q1 q2 => zu_c (by omega))
        simp only [e65_0, e65_1, e65_2, e65_3, e65_6, e65_9, e65_10, e65_11, e65_14, e65_15, e65_16, e65_17, e65_18, e65_21, e65_22, zs0, zsI, zsL, zsR, ztl1, ztl0, zc0, zcI, zcL, zcR, true_and, and_true, true_implies, false_implies, implies_true, not_true_eq_false, not_false_eq_true, and_self, Int.toNat_natCast, Nat.reduceAdd, Nat.reduceLeDiff, Nat.reduceLT, forall_eq', Option.some.injEq, zarR, zarI, zarL, zle, zq0, zq1, zq2, zq3, zq4, zq5, zq6, zq8, zq9, zq10, zq20, zq7, zq12, zq24, zq40, zq41, zq48, zq100, zq120, zq123, zq480, zq492, zq700, zq729, zq2187, zq2916, zq8748, ne_eq, Int.reduceEq, Int.reduceLT, Int.reduceLE, Int.reduceToNat, Int.reduceMul, Int.reduceAdd, Int.reduceNeg, gk0 hg, gr0_0 hg, gr0_2 hg, gr0_3 hg, gr0_4 hg, gr0_5 hg, gr0_6 hg, gr0_7 hg, gr0_8 hg, gr0_9 hg, gr0_10 hg, f_isBuyer hg, e]
        apply c_open hg kt0 hw (Y := Y) (by rw [zu_c (by decide)]; exact hYe) hY (od := od) (nw := nw) (fun b hb => by rw [zu_c (by decide)]; exact (hod b (by omega)).1) (fun b hb => by rw [zu_c (by decide)]; exact (hod b (by omega)).2.1)
        intro h1 f1 o1 n1
        have kt1 : kT h1 18 T := kT_frame kt0 (fun c i q1 q2 => f1 c i (by omega) (by omega))
        simp only [e65_25, e65_26, e65_29, e65_30, zs0, zsI, zsL, zsR, ztl1, ztl0, zc0, zcI, zcL, zcR, true_and, and_true, true_implies, false_implies, implies_true, not_true_eq_false, not_false_eq_true, and_self, Int.toNat_natCast, Nat.reduceAdd, Nat.reduceLeDiff, Nat.reduceLT, forall_eq', Option.some.injEq, zarR, zarI, zarL, zle, zq0, zq1, zq2, zq3, zq4, zq5, zq6, zq8, zq9, zq10, zq20, zq7, zq12, zq24, zq40, zq41, zq48, zq100, zq120, zq123, zq480, zq492, zq700, zq729, zq2187, zq2916, zq8748, ne_eq, Int.reduceEq, Int.reduceLT, Int.reduceLE, Int.reduceToNat, Int.reduceMul, Int.reduceAdd, Int.reduceNeg, gk0 hg, gr0_0 hg, gr0_2 hg, gr0_3 hg, gr0_4 hg, gr0_5 hg, gr0_6 hg, gr0_7 hg, gr0_8 hg, gr0_9 hg, gr0_10 hg, gk17 hg, gr17_0 hg, gr17_1 hg, gr17_2 hg, gr17_3 hg]
        apply c_turn16 (s := s) hg kt1 hw hs o1 n1 (pO_b hw od) (pO_b hw nw)
        intro h2 f2 s2 a2
        have kt2 : kT h2 18 T := kT_frame kt1 (fun c i q1 q2 => f2 c i (by omega) (by omega))
        have o2 : ∀ t, t < nB T → h2 28 t = pO T od t := fun t ht => by rw [f2 _ _ (by decide) (by omega)]; exact o1 t ht
        have n2 : ∀ t, t < nB T → h2 29 t = pO T nw t := fun t ht => by rw [f2 _ _ (by decide) (by omega)]; exact n1 t ht
        have e26 := kt2.2.2.2.2.2.2.2.2.2.2.2.2.1 s hs
        have cf : cfr h h2 := by
          intro c i q
          unfold core at q
          rw [f2 c i (by omega) (by omega), f1 c i (by omega) (by omega), zu]
          rw [if_neg (by omega)]
        have t0 : h2 0 11 = 0 := by rw [f2 _ _ (by decide) (by omega), f1 _ _ (by decide) (by decide), zu_at]
        have ch := fun far Q' => c_choice16 (d := d + 13) (Q := Q') (far := far) hg kt2 hw s2 hs hf o2 n2 (pO_b hw od) (pO_b hw nw) a2
        have kk := K h2 cf t0
        unfold tI at kk
        rcases b7 with b7 | b7 <;> rw [b7] at e26 kk
        · by_cases c3 : aCh T (pO T od) (pO T nw) s 0 f = 3
          · rw [if_pos c3] at kk
            have c3' : ((aCh T (pO T od) (pO T nw) s 0 f : Nat) : Int) = 3 := by omega
            simp only [e65_0, e65_1, e65_2, e65_3, e65_6, e65_9, e65_10, e65_11, e65_14, e65_15, e65_16, e65_17, e65_18, e65_21, e65_22, e65_25, e65_26, e65_29, e65_30, e65_33, e65_34, e65_37, e65_38, e65_39, e65_42, e65_43, e65_46, e65_49, e65_50, e65_51, e65_52, e65_55, e65_56, e65_59, e65_60, e65_63, e65_64, e65_65, e65_66, e65_69, e65_71, e65_74, e65_75, zs0, zsI, zsL, zsR, ztl1, ztl0, zc0, zcI, zcL, zcR, true_and, and_true, true_implies, false_implies, implies_true, not_true_eq_false, not_false_eq_true, and_self, Int.toNat_natCast, Nat.reduceAdd, Nat.reduceLeDiff, Nat.reduceLT, forall_eq', Option.some.injEq, zarR, zarI, zarL, zle, zq0, zq1, zq2, zq3, zq4, zq5, zq6, zq8, zq9, zq10, zq20, zq7, zq12, zq24, zq40, zq41, zq48, zq100, zq120, zq123, zq480, zq492, zq700, zq729, zq2187, zq2916, zq8748, ne_eq, Int.reduceEq, Int.reduceLT, Int.reduceLE, Int.reduceToNat, Int.reduceMul, Int.reduceAdd, Int.reduceNeg, gk0 hg, gr0_0 hg, gr0_2 hg, gr0_3 hg, gr0_4 hg, gr0_5 hg, gr0_6 hg, gr0_7 hg, gr0_8 hg, gr0_9 hg, gr0_10 hg, gk18 hg, gr18_0 hg, gr18_1 hg, gr18_2 hg, gr18_3 hg, gr18_4 hg, gr18_5 hg, gr18_6 hg, gr18_7 hg, gr18_8 hg, gk26 hg, gl26 hg, gk17 hg, gr17_0 hg, gr17_1 hg, gr17_2 hg, gr17_3 hg, f_home, hm, s4, e26, ch, c3']
            exact kk
          · rw [if_neg c3] at kk
            have c3' : ¬ ((aCh T (pO T od) (pO T nw) s 0 f : Nat) : Int) = 3 := by omega
            simp only [e65_0, e65_1, e65_2, e65_3, e65_6, e65_9, e65_10, e65_11, e65_14, e65_15, e65_16, e65_17, e65_18, e65_21, e65_22, e65_25, e65_26, e65_29, e65_30, e65_33, e65_34, e65_37, e65_38, e65_39, e65_42, e65_43, e65_46, e65_49, e65_50, e65_51, e65_52, e65_55, e65_56, e65_59, e65_60, e65_63, e65_64, e65_65, e65_66, e65_69, e65_71, e65_74, e65_75, zs0, zsI, zsL, zsR, ztl1, ztl0, zc0, zcI, zcL, zcR, true_and, and_true, true_implies, false_implies, implies_true, not_true_eq_false, not_false_eq_true, and_self, Int.toNat_natCast, Nat.reduceAdd, Nat.reduceLeDiff, Nat.reduceLT, forall_eq', Option.some.injEq, zarR, zarI, zarL, zle, zq0, zq1, zq2, zq3, zq4, zq5, zq6, zq8, zq9, zq10, zq20, zq7, zq12, zq24, zq40, zq41, zq48, zq100, zq120, zq123, zq480, zq492, zq700, zq729, zq2187, zq2916, zq8748, ne_eq, Int.reduceEq, Int.reduceLT, Int.reduceLE, Int.reduceToNat, Int.reduceMul, Int.reduceAdd, Int.reduceNeg, gk0 hg, gr0_0 hg, gr0_2 hg, gr0_3 hg, gr0_4 hg, gr0_5 hg, gr0_6 hg, gr0_7 hg, gr0_8 hg, gr0_9 hg, gr0_10 hg, gk18 hg, gr18_0 hg, gr18_1 hg, gr18_2 hg, gr18_3 hg, gr18_4 hg, gr18_5 hg, gr18_6 hg, gr18_7 hg, gr18_8 hg, gk26 hg, gl26 hg, gk17 hg, gr17_0 hg, gr17_1 hg, gr17_2 hg, gr17_3 hg, f_home, hm, s4, e26, ch, c3']
            exact kk
        · by_cases c3 : aCh T (pO T od) (pO T nw) s 1 f = 3
          · rw [if_pos c3] at kk
            have c3' : ((aCh T (pO T od) (pO T nw) s 1 f : Nat) : Int) = 3 := by omega
            simp only [e65_0, e65_1, e65_2, e65_3, e65_6, e65_9, e65_10, e65_11, e65_14, e65_15, e65_16, e65_17, e65_18, e65_21, e65_22, e65_25, e65_26, e65_29, e65_30, e65_33, e65_34, e65_37, e65_38, e65_39, e65_42, e65_43, e65_46, e65_49, e65_50, e65_51, e65_52, e65_55, e65_56, e65_59, e65_60, e65_63, e65_64, e65_65, e65_66, e65_69, e65_71, e65_74, e65_75, zs0, zsI, zsL, zsR, ztl1, ztl0, zc0, zcI, zcL, zcR, true_and, and_true, true_implies, false_implies, implies_true, not_true_eq_false, not_false_eq_true, and_self, Int.toNat_natCast, Nat.reduceAdd, Nat.reduceLeDiff, Nat.reduceLT, forall_eq', Option.some.injEq, zarR, zarI, zarL, zle, zq0, zq1, zq2, zq3, zq4, zq5, zq6, zq8, zq9, zq10, zq20, zq7, zq12, zq24, zq40, zq41, zq48, zq100, zq120, zq123, zq480, zq492, zq700, zq729, zq2187, zq2916, zq8748, ne_eq, Int.reduceEq, Int.reduceLT, Int.reduceLE, Int.reduceToNat, Int.reduceMul, Int.reduceAdd, Int.reduceNeg, gk0 hg, gr0_0 hg, gr0_2 hg, gr0_3 hg, gr0_4 hg, gr0_5 hg, gr0_6 hg, gr0_7 hg, gr0_8 hg, gr0_9 hg, gr0_10 hg, gk18 hg, gr18_0 hg, gr18_1 hg, gr18_2 hg, gr18_3 hg, gr18_4 hg, gr18_5 hg, gr18_6 hg, gr18_7 hg, gr18_8 hg, gk26 hg, gl26 hg, gk17 hg, gr17_0 hg, gr17_1 hg, gr17_2 hg, gr17_3 hg, f_home, hm, s4, e26, ch, c3']
            exact kk
          · rw [if_neg c3] at kk
            have c3' : ¬ ((aCh T (pO T od) (pO T nw) s 1 f : Nat) : Int) = 3 := by omega
            simp only [e65_0, e65_1, e65_2, e65_3, e65_6, e65_9, e65_10, e65_11, e65_14, e65_15, e65_16, e65_17, e65_18, e65_21, e65_22, e65_25, e65_26, e65_29, e65_30, e65_33, e65_34, e65_37, e65_38, e65_39, e65_42, e65_43, e65_46, e65_49, e65_50, e65_51, e65_52, e65_55, e65_56, e65_59, e65_60, e65_63, e65_64, e65_65, e65_66, e65_69, e65_71, e65_74, e65_75, zs0, zsI, zsL, zsR, ztl1, ztl0, zc0, zcI, zcL, zcR, true_and, and_true, true_implies, false_implies, implies_true, not_true_eq_false, not_false_eq_true, and_self, Int.toNat_natCast, Nat.reduceAdd, Nat.reduceLeDiff, Nat.reduceLT, forall_eq', Option.some.injEq, zarR, zarI, zarL, zle, zq0, zq1, zq2, zq3, zq4, zq5, zq6, zq8, zq9, zq10, zq20, zq7, zq12, zq24, zq40, zq41, zq48, zq100, zq120, zq123, zq480, zq492, zq700, zq729, zq2187, zq2916, zq8748, ne_eq, Int.reduceEq, Int.reduceLT, Int.reduceLE, Int.reduceToNat, Int.reduceMul, Int.reduceAdd, Int.reduceNeg, gk0 hg, gr0_0 hg, gr0_2 hg, gr0_3 hg, gr0_4 hg, gr0_5 hg, gr0_6 hg, gr0_7 hg, gr0_8 hg, gr0_9 hg, gr0_10 hg, gk18 hg, gr18_0 hg, gr18_1 hg, gr18_2 hg, gr18_3 hg, gr18_4 hg, gr18_5 hg, gr18_6 hg, gr18_7 hg, gr18_8 hg, gk26 hg, gl26 hg, gk17 hg, gr17_0 hg, gr17_1 hg, gr17_2 hg, gr17_3 hg, f_home, hm, s4, e26, ch, c3']
            exact kk
      · intro h1 f1 Q K
        rw [r160]
        have rt1 : rT h1 u T := rT_frame rt (fun c i q => f1 c i (Or.inl (by omega)))
        have rt0 : rT (zu h1 91 0 0) u T := rT_frame rt1 (fun c i q => zu_c (by omega))
        suffices H : zE 160 (d + 15) Q 32 [some (zR (some 91)), some (zI x), some (zI (s : Int))] [] G (zu h1 91 0 0) (0, 0) by
          rcases e2 with e2 | ⟨e2, e3⟩
          · simp only [e160_0, e160_1, e160_2, e160_5, e160_6, e160_7, e160_10, e160_13, e160_14, e160_15, e160_18, e160_19, e160_20, e160_23, e160_26, e160_27, e160_28, e160_31, zs0, zsI, zsL, zsR, ztl1, ztl0, zc0, zcI, zcL, zcR, true_and, and_true, true_implies, false_implies, implies_true, not_true_eq_false, not_false_eq_true, and_self, Int.toNat_natCast, Nat.reduceAdd, Nat.reduceLeDiff, Nat.reduceLT, forall_eq', Option.some.injEq, zarR, zarI, zarL, zle, zq0, zq1, zq2, zq3, zq4, zq5, zq6, zq8, zq9, zq10, zq20, zq7, zq12, zq24, zq40, zq41, zq48, zq100, zq120, zq123, zq480, zq492, zq700, zq729, zq2187, zq2916, zq8748, ne_eq, Int.reduceEq, Int.reduceLT, Int.reduceLE, Int.reduceToNat, Int.reduceMul, Int.reduceAdd, Int.reduceNeg, gk91 hg, gr91_5 hg, gr91_22 hg, gr91_23 hg, gr91_24 hg, gr91_25 hg, gr91_26 hg, gr91_27 hg, gr91_28 hg, gr91_29 hg, gr91_32 hg, gr91_33 hg, gr91_34 hg, gr91_35 hg, gr91_36 hg, gr91_37 hg, gr91_38 hg, gr91_39 hg, gr91_40 hg, gr91_41 hg, gr91_42 hg, gr91_44 hg, gr91_45 hg, gr91_46 hg, gr91_48 hg, gr91_49 hg, gr91_50 hg, gr91_51 hg, gr91_52 hg, m_isSort hg hk, mF_z hk (show 91 < 121 by decide), mF_fr hk f1, ms, e1, e2] at H ⊢
            exact H
          · simp only [e160_0, e160_1, e160_2, e160_5, e160_6, e160_7, e160_10, e160_13, e160_14, e160_15, e160_18, e160_19, e160_20, e160_23, e160_26, e160_27, e160_28, e160_31, zs0, zsI, zsL, zsR, ztl1, ztl0, zc0, zcI, zcL, zcR, true_and, and_true, true_implies, false_implies, implies_true, not_true_eq_false, not_false_eq_true, and_self, Int.toNat_natCast, Nat.reduceAdd, Nat.reduceLeDiff, Nat.reduceLT, forall_eq', Option.some.injEq, zarR, zarI, zarL, zle, zq0, zq1, zq2, zq3, zq4, zq5, zq6, zq8, zq9, zq10, zq20, zq7, zq12, zq24, zq40, zq41, zq48, zq100, zq120, zq123, zq480, zq492, zq700, zq729, zq2187, zq2916, zq8748, ne_eq, Int.reduceEq, Int.reduceLT, Int.reduceLE, Int.reduceToNat, Int.reduceMul, Int.reduceAdd, Int.reduceNeg, gk91 hg, gr91_5 hg, gr91_22 hg, gr91_23 hg, gr91_24 hg, gr91_25 hg, gr91_26 hg, gr91_27 hg, gr91_28 hg, gr91_29 hg, gr91_32 hg, gr91_33 hg, gr91_34 hg, gr91_35 hg, gr91_36 hg, gr91_37 hg, gr91_38 hg, gr91_39 hg, gr91_40 hg, gr91_41 hg, gr91_42 hg, gr91_44 hg, gr91_45 hg, gr91_46 hg, gr91_48 hg, gr91_49 hg, gr91_50 hg, gr91_51 hg, gr91_52 hg, m_isSort hg hk, m_isBaker hg hk, mF_z hk (show 91 < 121 by decide), mF_fr hk f1, ms, mb, e1, e2, e3]
            exact H
        simp only [e160_32, e160_33, e160_34, zs0, zsI, zsL, zsR, ztl1, ztl0, zc0, zcI, zcL, zcR, true_and, and_true, true_implies, false_implies, implies_true, not_true_eq_false, not_false_eq_true, and_self, Int.toNat_natCast, Nat.reduceAdd, Nat.reduceLeDiff, Nat.reduceLT, forall_eq', Option.some.injEq, zarR, zarI, zarL, zle, zq0, zq1, zq2, zq3, zq4, zq5, zq6, zq8, zq9, zq10, zq20, zq7, zq12, zq24, zq40, zq41, zq48, zq100, zq120, zq123, zq480, zq492, zq700, zq729, zq2187, zq2916, zq8748, ne_eq, Int.reduceEq, Int.reduceLT, Int.reduceLE, Int.reduceToNat, Int.reduceMul, Int.reduceAdd, Int.reduceNeg, gk91 hg, gr91_5 hg, gr91_22 hg, gr91_23 hg, gr91_24 hg, gr91_25 hg, gr91_26 hg, gr91_27 hg, gr91_28 hg, gr91_29 hg, gr91_32 hg, gr91_33 hg, gr91_34 hg, gr91_35 hg, gr91_36 hg, gr91_37 hg, gr91_38 hg, gr91_39 hg, gr91_40 hg, gr91_41 hg, gr91_42 hg, gr91_44 hg, gr91_45 hg, gr91_46 hg, gr91_48 hg, gr91_49 hg, gr91_50 hg, gr91_51 hg, gr91_52 hg]
        apply m_lays hg hu rt0 hw (by decide)
        intro h2 f2 V2 v19 v20 v21
        rw [aLaw_0] at V2
        simp only [e160_37, e160_38, zs0, zsI, zsL, zsR, ztl1, ztl0, zc0, zcI, zcL, zcR, true_and, and_true, true_implies, false_implies, implies_true, not_true_eq_false, not_false_eq_true, and_self, Int.toNat_natCast, Nat.reduceAdd, Nat.reduceLeDiff, Nat.reduceLT, forall_eq', Option.some.injEq, zarR, zarI, zarL, zle, zq0, zq1, zq2, zq3, zq4, zq5, zq6, zq8, zq9, zq10, zq20, zq7, zq12, zq24, zq40, zq41, zq48, zq100, zq120, zq123, zq480, zq492, zq700, zq729, zq2187, zq2916, zq8748, ne_eq, Int.reduceEq, Int.reduceLT, Int.reduceLE, Int.reduceToNat, Int.reduceMul, Int.reduceAdd, Int.reduceNeg, gk91 hg, gr91_5 hg, gr91_22 hg, gr91_23 hg, gr91_24 hg, gr91_25 hg, gr91_26 hg, gr91_27 hg, gr91_28 hg, gr91_29 hg, gr91_32 hg, gr91_33 hg, gr91_34 hg, gr91_35 hg, gr91_36 hg, gr91_37 hg, gr91_38 hg, gr91_39 hg, gr91_40 hg, gr91_41 hg, gr91_42 hg, gr91_44 hg, gr91_45 hg, gr91_46 hg, gr91_48 hg, gr91_49 hg, gr91_50 hg, gr91_51 hg, gr91_52 hg]
        have rt2 : rT h2 u T := rT_frame rt0 (fun c i q => f2 c i (by omega) (by omega))
        apply m_asked hg hu rt2 hw (od := od) (nw := nw) (fun b hb => by rw [f2 _ _ (by omega) (by omega), zu_c (by decide), f1 _ _ (by omega)]; exact ⟨(hod b (by omega)).2.2.1, (hod b (by omega)).1.2⟩) (fun b hb => by rw [f2 _ _ (by omega) (by omega), zu_c (by decide), f1 _ _ (by omega)]; exact ⟨(hod b (by omega)).2.2.2.1, (hod b (by omega)).2.1.2⟩)
        intro h3 f3 o3 n3
        have V3 : rV h3 u T := rV_frame V2 (fun c i q => f3 c i (by omega) (by omega)) (fun i => f3 _ _ (by decide) (by decide)) (fun i _ _ => f3 _ _ (by decide) (by decide))
        have e9 : h3 (u + 9) s = tr T 7 s := by rw [f3 _ _ (by omega) (by omega)]; exact rt2.2.2.2.2.2.2.2.2.2.2.2.2.2 s hs
        have mf : mfr h1 (zu (zu h3 91 1 0) 91 2 (-1)) := by
          intro c i q
          unfold core at q
          have q2 : ¬ (c = 91 ∧ i = 2) := by omega
          have q3 : ¬ (c = 91 ∧ i = 1) := by omega
          have q4 : ¬ (c = 91 ∧ i = 0) := by omega
          show (if c = 91 ∧ i = 2 then -1 else if c = 91 ∧ i = 1 then 0 else h3 c i) = h1 c i
          rw [if_neg q2, if_neg q3, f3 c i (by omega) (by omega), f2 c i (by omega) (by omega), zu, if_neg q4]
        have m1 : (zu (zu h3 91 1 0) 91 2 (-1)) 91 1 = 0 := by rw [zu_i (by decide), zu_at]
        have ch := fun Q' => m_choice (d := d + 10) (Q := Q') (far := tr T 7 s) (x := x) hg hu V3 hw xf hs hf o3 n3 (pO_b hw od) (pO_b hw nw)
        simp only [e160_0, e160_1, e160_2, e160_5, e160_6, e160_7, e160_10, e160_13, e160_14, e160_15, e160_18, e160_19, e160_20, e160_23, e160_26, e160_27, e160_28, e160_31, e160_32, e160_33, e160_34, e160_37, e160_38, e160_41, e160_42, e160_43, e160_44, e160_45, e160_46, e160_49, e160_52, e160_53, e160_54, e160_57, e160_60, zs0, zsI, zsL, zsR, ztl1, ztl0, zc0, zcI, zcL, zcR, true_and, and_true, true_implies, false_implies, implies_true, not_true_eq_false, not_false_eq_true, and_self, Int.toNat_natCast, Nat.reduceAdd, Nat.reduceLeDiff, Nat.reduceLT, forall_eq', Option.some.injEq, zarR, zarI, zarL, zle, zq0, zq1, zq2, zq3, zq4, zq5, zq6, zq8, zq9, zq10, zq20, zq7, zq12, zq24, zq40, zq41, zq48, zq100, zq120, zq123, zq480, zq492, zq700, zq729, zq2187, zq2916, zq8748, ne_eq, Int.reduceEq, Int.reduceLT, Int.reduceLE, Int.reduceToNat, Int.reduceMul, Int.reduceAdd, Int.reduceNeg, gk91 hg, gr91_5 hg, gr91_22 hg, gr91_23 hg, gr91_24 hg, gr91_25 hg, gr91_26 hg, gr91_27 hg, gr91_28 hg, gr91_29 hg, gr91_32 hg, gr91_33 hg, gr91_34 hg, gr91_35 hg, gr91_36 hg, gr91_37 hg, gr91_38 hg, gr91_39 hg, gr91_40 hg, gr91_41 hg, gr91_42 hg, gr91_44 hg, gr91_45 hg, gr91_46 hg, gr91_48 hg, gr91_49 hg, gr91_50 hg, gr91_51 hg, gr91_52 hg, hu, s4, e9, ch, m_done hg]
        exact K _ mf m1 zu_at
    · omega
  · refine PR_q (z := -1) (tr := 1) hI (by decide) ?_ ?_
    · intro Q K
      rw [r65]
      simp only [e65_0, e65_1, e65_2, e65_3, e65_6, e65_9, e65_10, e65_11, e65_14, e65_15, e65_16, e65_17, e65_18, e65_21, e65_22, e65_25, e65_26, e65_29, e65_30, e65_33, e65_34, e65_37, e65_38, e65_39, e65_42, e65_43, e65_46, e65_49, e65_50, e65_51, e65_52, e65_55, e65_56, e65_59, e65_60, e65_63, e65_64, e65_65, e65_66, e65_69, e65_71, e65_74, e65_75, zs0, zsI, zsL, zsR, ztl1, ztl0, zc0, zcI, zcL, zcR, true_and, and_true, true_implies, false_implies, implies_true, not_true_eq_false, not_false_eq_true, and_self, Int.toNat_natCast, Nat.reduceAdd, Nat.reduceLeDiff, Nat.reduceLT, forall_eq', Option.some.injEq, zarR, zarI, zarL, zle, zq0, zq1, zq2, zq3, zq4, zq5, zq6, zq8, zq9, zq10, zq20, zq7, zq12, zq24, zq40, zq41, zq48, zq100, zq120, zq123, zq480, zq492, zq700, zq729, zq2187, zq2916, zq8748, ne_eq, Int.reduceEq, Int.reduceLT, Int.reduceLE, Int.reduceToNat, Int.reduceMul, Int.reduceAdd, Int.reduceNeg, gk0 hg, gr0_0 hg, gr0_2 hg, gr0_3 hg, gr0_4 hg, gr0_5 hg, gr0_6 hg, gr0_7 hg, gr0_8 hg, gr0_9 hg, gr0_10 hg, or_true, true_or, if_true, if_false, false_and, and_false, false_or, or_false, f_isBuyer hg, e]
      exact K _ cfr.z zu_at
    · intro h1 f1 Q K
      rw [r160]
      rcases e1 with e1 | ⟨e1, e2, e3⟩
      · simp only [e160_0, e160_1, e160_2, e160_5, e160_6, e160_7, e160_10, e160_13, e160_14, e160_15, e160_18, e160_19, e160_20, e160_23, e160_26, e160_27, e160_28, e160_31, e160_32, e160_33, e160_34, e160_37, e160_38, e160_41, e160_42, e160_43, e160_44, e160_45, e160_46, e160_49, e160_52, e160_53, e160_54, e160_57, e160_60, zs0, zsI, zsL, zsR, ztl1, ztl0, zc0, zcI, zcL, zcR, true_and, and_true, true_implies, false_implies, implies_true, not_true_eq_false, not_false_eq_true, and_self, Int.toNat_natCast, Nat.reduceAdd, Nat.reduceLeDiff, Nat.reduceLT, forall_eq', Option.some.injEq, zarR, zarI, zarL, zle, zq0, zq1, zq2, zq3, zq4, zq5, zq6, zq8, zq9, zq10, zq20, zq7, zq12, zq24, zq40, zq41, zq48, zq100, zq120, zq123, zq480, zq492, zq700, zq729, zq2187, zq2916, zq8748, ne_eq, Int.reduceEq, Int.reduceLT, Int.reduceLE, Int.reduceToNat, Int.reduceMul, Int.reduceAdd, Int.reduceNeg, gk91 hg, gr91_5 hg, gr91_22 hg, gr91_23 hg, gr91_24 hg, gr91_25 hg, gr91_26 hg, gr91_27 hg, gr91_28 hg, gr91_29 hg, gr91_32 hg, gr91_33 hg, gr91_34 hg, gr91_35 hg, gr91_36 hg, gr91_37 hg, gr91_38 hg, gr91_39 hg, gr91_40 hg, gr91_41 hg, gr91_42 hg, gr91_44 hg, gr91_45 hg, gr91_46 hg, gr91_48 hg, gr91_49 hg, gr91_50 hg, gr91_51 hg, gr91_52 hg, or_true, true_or, if_true, if_false, false_and, and_false, false_or, or_false, m_isSort hg hk, mF_z hk (show 91 < 121 by decide), mF_fr hk f1, ms, e1, m_refused hg]
        exact K _ mEnd.1 mEnd.2.1 mEnd.2.2
      · simp only [e160_0, e160_1, e160_2, e160_5, e160_6, e160_7, e160_10, e160_13, e160_14, e160_15, e160_18, e160_19, e160_20, e160_23, e160_26, e160_27, e160_28, e160_31, e160_32, e160_33, e160_34, e160_37, e160_38, e160_41, e160_42, e160_43, e160_44, e160_45, e160_46, e160_49, e160_52, e160_53, e160_54, e160_57, e160_60, zs0, zsI, zsL, zsR, ztl1, ztl0, zc0, zcI, zcL, zcR, true_and, and_true, true_implies, false_implies, implies_true, not_true_eq_false, not_false_eq_true, and_self, Int.toNat_natCast, Nat.reduceAdd, Nat.reduceLeDiff, Nat.reduceLT, forall_eq', Option.some.injEq, zarR, zarI, zarL, zle, zq0, zq1, zq2, zq3, zq4, zq5, zq6, zq8, zq9, zq10, zq20, zq7, zq12, zq24, zq40, zq41, zq48, zq100, zq120, zq123, zq480, zq492, zq700, zq729, zq2187, zq2916, zq8748, ne_eq, Int.reduceEq, Int.reduceLT, Int.reduceLE, Int.reduceToNat, Int.reduceMul, Int.reduceAdd, Int.reduceNeg, gk91 hg, gr91_5 hg, gr91_22 hg, gr91_23 hg, gr91_24 hg, gr91_25 hg, gr91_26 hg, gr91_27 hg, gr91_28 hg, gr91_29 hg, gr91_32 hg, gr91_33 hg, gr91_34 hg, gr91_35 hg, gr91_36 hg, gr91_37 hg, gr91_38 hg, gr91_39 hg, gr91_40 hg, gr91_41 hg, gr91_42 hg, gr91_44 hg, gr91_45 hg, gr91_46 hg, gr91_48 hg, gr91_49 hg, gr91_50 hg, gr91_51 hg, gr91_52 hg, or_true, true_or, if_true, if_false, false_and, and_false, false_or, or_false, m_isSort hg hk, m_isBaker hg hk, mF_z hk (show 91 < 121 by decide), mF_fr hk f1, ms, mb, e1, e2, e3, m_refused hg]
        exact K _ mEnd.1 mEnd.2.1 mEnd.2.2
end CH
