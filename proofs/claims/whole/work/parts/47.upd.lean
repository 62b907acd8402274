theorem I4_hold {T : aTn} (hw : wT T) {Y : Nat} {g h g' h' : zM} (hI : I4 T Y g h) {b s : Nat} {n : Int} (hb : b < nB T) (hs : s < nS T) (hn : 0 ≤ n ∧ n ≤ 9999) (h1 : ∀ c i, 38 ≤ c → c ≤ 44 → ¬ (c = 39 ∧ i = Y * 12 + b * 4 + s) → g' c i = g c i) (h1' : g' 39 (Y * 12 + b * 4 + s) = n) (h2 : h' 91 30 = h 91 30) (h3 : h' 91 31 = h 91 31) (h4 : ∀ i, i < 12 → ¬ i = 3 * s + b → h' 101 i = h 101 i) (h4' : h' 101 (3 * s + b) = n) (h5 : ∀ c i, 102 ≤ c → c ≤ 109 → h' c i = h c i) : I4 T Y g' h' := by
  have hns := hw.2.1
  have hnb := hw.1
  unfold I4 at hI ⊢
  obtain ⟨a1, a2, a3, ⟨a4, a5, a6⟩, a7⟩ := hI
  have g38' : ∀ i, g' 38 i = g 38 i := fun i => h1 38 i (by decide) (by decide) (by omega)
  have g40' : ∀ i, g' 40 i = g 40 i := fun i => h1 40 i (by decide) (by decide) (by omega)
  have g41' : ∀ i, g' 41 i = g 41 i := fun i => h1 41 i (by decide) (by decide) (by omega)
  have g42' : ∀ i, g' 42 i = g 42 i := fun i => h1 42 i (by decide) (by decide) (by omega)
  have g43' : ∀ i, g' 43 i = g 43 i := fun i => h1 43 i (by decide) (by decide) (by omega)
  have g44' : ∀ i, g' 44 i = g 44 i := fun i => h1 44 i (by decide) (by decide) (by omega)
  simp only [g38', g40', g41', g42', g43', g44', h2, h3, h5 102 _ (by decide) (by decide), h5 103 _ (by decide) (by decide), h5 104 _ (by decide) (by decide), h5 105 _ (by decide) (by decide), h5 106 _ (by decide) (by decide), h5 107 _ (by decide) (by decide), h5 108 _ (by decide) (by decide), h5 109 _ (by decide) (by decide)]
  refine ⟨a1, a2, a3, ⟨?_, ?_, ?_⟩, a7⟩
  · intro s' b' q1 q2
    by_cases q3 : s' = s ∧ b' = b
    · obtain ⟨rfl, rfl⟩ := q3
      rw [h1', h4']
    · rw [h1 39 _ (by decide) (by decide) (by omega), h4 _ (by omega) (by omega)]
      exact a4 s' b' q1 q2
  · intro y s' b' q0 q1 q2
    rw [h1 39 _ (by decide) (by decide) (by omega)]
    exact a5 y s' b' q0 q1 q2
  · intro y s' q0 q1
    obtain ⟨c1, c2, c3⟩ := a6 y s' q0 q1
    have one : ∀ b', b' < 3 → g' 39 (y * 12 + b' * 4 + s') = g 39 (y * 12 + b' * 4 + s') ∨ b' = b ∧ g' 39 (y * 12 + b' * 4 + s') = n := by
      intro b' q2
      by_cases q3 : y * 12 + b' * 4 + s' = Y * 12 + b * 4 + s
      · right
        exact ⟨by omega, by rw [q3]; exact h1'⟩
      · left
        exact h1 39 _ (by decide) (by decide) (by omega)
    refine ⟨?_, ?_, ?_⟩
    · intro b' q2
      have := c1 b' q2
      rcases one b' q2 with q | ⟨_, q⟩ <;> rw [q] <;> omega
    · have k0 := one 0 (by decide)
      have k1 := one 1 (by decide)
      have k2 := one 2 (by decide)
      omega
    · intro q2
      have k2 := one 2 (by decide)
      have := c3 q2
      omega
theorem I4_ask {T : aTn} (hw : wT T) {Y : Nat} {g h g' h' : zM} (hI : I4 T Y g h) {b o n : Nat} (hb : b < nB T) (ho : o < nP T) (hn : n < nP T) (hon : tw T = 0 → n = o) (h1 : ∀ c i, 38 ≤ c → c ≤ 44 → ¬ (c = 40 ∧ i = Y * 3 + b) → ¬ (c = 41 ∧ i = Y * 3 + b) → g' c i = g c i) (k0 : g' 40 (Y * 3 + b) = (o : Int)) (k1 : g' 41 (Y * 3 + b) = (n : Int)) (h2 : h' 91 30 = h 91 30) (h3 : h' 91 31 = h 91 31) (h4 : ∀ i, i < 12 → h' 101 i = h 101 i) (m0 : h' 102 b = (o : Int)) (m1 : h' 103 b = (n : Int)) (h5 : ∀ c i, 102 ≤ c → c ≤ 109 → ¬ (c = 102 ∧ i = b) → ¬ (c = 103 ∧ i = b) → h' c i = h c i) : I4 T Y g' h' := by
  have hns := hw.2.1
  have hnb := hw.1
  unfold I4 at hI ⊢
  obtain ⟨a1, a2, ⟨b1, b2, b3⟩, ⟨a4, a5, a6⟩, a7⟩ := hI
  have g38' : ∀ i, g' 38 i = g 38 i := fun i => h1 38 i (by decide) (by decide) (by omega) (by omega)
  have g39' : ∀ i, g' 39 i = g 39 i := fun i => h1 39 i (by decide) (by decide) (by omega) (by omega)
  have g42' : ∀ i, g' 42 i = g 42 i := fun i => h1 42 i (by decide) (by decide) (by omega) (by omega)
  have g43' : ∀ i, g' 43 i = g 43 i := fun i => h1 43 i (by decide) (by decide) (by omega) (by omega)
  have g44' : ∀ i, g' 44 i = g 44 i := fun i => h1 44 i (by decide) (by decide) (by omega) (by omega)
  have m104' : ∀ i, h' 104 i = h 104 i := fun i => h5 104 i (by decide) (by decide) (by omega) (by omega)
  have m105' : ∀ i, h' 105 i = h 105 i := fun i => h5 105 i (by decide) (by decide) (by omega) (by omega)
  have m106' : ∀ i, h' 106 i = h 106 i := fun i => h5 106 i (by decide) (by decide) (by omega) (by omega)
  have m107' : ∀ i, h' 107 i = h 107 i := fun i => h5 107 i (by decide) (by decide) (by omega) (by omega)
  have m108' : ∀ i, h' 108 i = h 108 i := fun i => h5 108 i (by decide) (by decide) (by omega) (by omega)
  have m109' : ∀ i, h' 109 i = h 109 i := fun i => h5 109 i (by decide) (by decide) (by omega) (by omega)
  simp only [g38', g39', g42', g43', g44', h2, h3, m104', m105', m106', m107', m108', m109']
  have one : ∀ y b', b' < 3 → (g' 40 (y * 3 + b') = g 40 (y * 3 + b') ∧ g' 41 (y * 3 + b') = g 41 (y * 3 + b')) ∨ (y = Y ∧ b' = b ∧ g' 40 (y * 3 + b') = (o : Int) ∧ g' 41 (y * 3 + b') = (n : Int)) := by
    intro y b' q2
    by_cases q3 : y * 3 + b' = Y * 3 + b
    · right
      exact ⟨by omega, by omega, by rw [q3]; exact k0, by rw [q3]; exact k1⟩
    · left
      exact ⟨h1 40 _ (by decide) (by decide) (by omega) (by omega), h1 41 _ (by decide) (by decide) (by omega) (by omega)⟩
  refine ⟨a1, a2, ⟨?_, ?_, ?_⟩, ⟨?_, a5, a6⟩, a7⟩
  · intro b' q1
    by_cases q3 : b' = b
    · subst q3
      exact ⟨by rw [k0, m0], by rw [k1, m1]⟩
    · rw [h1 40 _ (by decide) (by decide) (by omega) (by omega), h1 41 _ (by decide) (by decide) (by omega) (by omega), h5 102 _ (by decide) (by decide) (by omega) (by omega), h5 103 _ (by decide) (by decide) (by omega) (by omega)]
      exact b1 b' q1
  · intro y b' q0 q1
    rw [h1 40 _ (by decide) (by decide) (by omega) (by omega), h1 41 _ (by decide) (by decide) (by omega) (by omega)]
    exact b2 y b' q0 q1
  · intro y b' q0 q1
    rcases one y b' q1 with ⟨q, r⟩ | ⟨_, _, q, r⟩
    · rw [q, r]
      exact b3 y b' q0 q1
    · rw [q, r]
      refine ⟨by omega, by omega, fun q => ?_⟩
      rw [hon q]
  · intro s b' q1 q2
    rw [h4 _ (by omega)]
    exact a4 s b' q1 q2
theorem I2_ok {h : zM} {g : zM} (hI : I2 g g) (h1 : h 0 11 = 0) (h2 : h 91 1 = 0) (h3 : h 91 2 = -1) (h4 : h 0 12 = g 0 12) (h5 : h 91 13 = g 91 13) : I2 h h := by
  refine ⟨by rw [h1, h2], by rw [h4, h5]; exact hI.2.1, by rw [h3, h1]; rfl⟩
theorem PR_u {k : Int → zV} {d n m : Nat} {As : List zV} {G : zG} {h : zM} (C : zM → Prop) (z : Int) (hc : ∀ Q : zQ, (∀ h1, C h1 → Q (some (k z)) G h1) → zRunD ztb zmt' (d + 16) n (zR (some 0) :: As) G h Q) (hm : ∀ h1, C h1 → ∀ Q : zQ, (∀ h2, INV G h2 → Q (some (k z)) G h2) → zRunD ztb zmt' (d + 16) m (zR (some 91) :: As) G h1 Q) : PR k d n m As G h := by
  apply hc
  intro h1 c1
  refine ⟨rfl, z, rfl, ?_⟩
  apply hm h1 c1
  intro h2 c2
  exact ⟨rfl, c2⟩
section UP
variable {d : Nat} {G : zG} {h : zM} {x y z : Int}
theorem p_hold (hI : INV G h) : PR zI d 63 158 [zI x, zI y, zI z] G h := by
  have hg := hI.1
  have hk := INV_gK hI
  obtain ⟨mb, ms⟩ := INV_mF hI
  have bad : rng 0 (h 18 9) x = 0 ∨ rng 0 (h 18 9) x = 1 ∧ rng 0 (h 18 10) y = 0 → PR zI d 63 158 [zI x, zI y, zI z] G h := by
    intro hb
    refine PR_q (z := 0) (tr := 1) hI (by decide) ?_ ?_
    · intro Q K
      rw [r63]
      rcases hb with e | ⟨e, k⟩
      · simp only [e63_0, e63_1, e63_2, e63_5, e63_8, e63_9, e63_10, e63_13, e63_16, e63_17, e63_18, e63_21, e63_22, e63_23, e63_24, e63_27, e63_28, e63_31, e63_34, e63_35, e63_36, e63_39, e63_40, e63_41, e63_42, e63_43, e63_46, e63_47, e63_50, e63_53, e63_54, e63_57, e63_58, e63_59, e63_62, e63_63, e63_64, e63_65, zs0, zsI, zsL, zsR, ztl1, ztl0, zc0, zcI, zcL, zcR, true_and, and_true, true_implies, false_implies, implies_true, not_true_eq_false, not_false_eq_true, and_self, Int.toNat_natCast, Nat.reduceAdd, Nat.reduceLeDiff, Nat.reduceLT, forall_eq', Option.some.injEq, zarR, zarI, zarL, zle, zq0, zq1, zq2, zq3, zq4, zq5, zq6, zq8, zq9, zq10, zq20, zq7, zq12, zq24, zq40, zq41, zq48, zq100, zq120, zq123, zq480, zq492, zq700, zq729, zq2187, zq2916, zq8748, ne_eq, Int.reduceEq, Int.reduceLT, Int.reduceLE, Int.reduceToNat, Int.reduceMul, Int.reduceAdd, Int.reduceNeg, gk0 hg, gr0_0 hg, gr0_2 hg, gr0_3 hg, gr0_4 hg, gr0_5 hg, gr0_6 hg, gr0_7 hg, gr0_8 hg, gr0_9 hg, gr0_10 hg, or_true, true_or, if_true, if_false, false_and, and_false, false_or, or_false, f_isBaker hg, e]
        exact K _ cfr.z zu_at
      · simp only [e63_0, e63_1, e63_2, e63_5, e63_8, e63_9, e63_10, e63_13, e63_16, e63_17, e63_18, e63_21, e63_22, e63_23, e63_24, e63_27, e63_28, e63_31, e63_34, e63_35, e63_36, e63_39, e63_40, e63_41, e63_42, e63_43, e63_46, e63_47, e63_50, e63_53, e63_54, e63_57, e63_58, e63_59, e63_62, e63_63, e63_64, e63_65, zs0, zsI, zsL, zsR, ztl1, ztl0, zc0, zcI, zcL, zcR, true_and, and_true, true_implies, false_implies, implies_true, not_true_eq_false, not_false_eq_true, and_self, Int.toNat_natCast, Nat.reduceAdd, Nat.reduceLeDiff, Nat.reduceLT, forall_eq', Option.some.injEq, zarR, zarI, zarL, zle, zq0, zq1, zq2, zq3, zq4, zq5, zq6, zq8, zq9, zq10, zq20, zq7, zq12, zq24, zq40, zq41, zq48, zq100, zq120, zq123, zq480, zq492, zq700, zq729, zq2187, zq2916, zq8748, ne_eq, Int.reduceEq, Int.reduceLT, Int.reduceLE, Int.reduceToNat, Int.reduceMul, Int.reduceAdd, Int.reduceNeg, gk0 hg, gr0_0 hg, gr0_2 hg, gr0_3 hg, gr0_4 hg, gr0_5 hg, gr0_6 hg, gr0_7 hg, gr0_8 hg, gr0_9 hg, gr0_10 hg, or_true, true_or, if_true, if_false, false_and, and_false, false_or, or_false, f_isBaker hg, f_isSort hg, e, k]
        exact K _ cfr.z zu_at
    · intro h1 f1 Q K
      rw [r158]
      rcases hb with e | ⟨e, k⟩
      · simp only [e158_0, e158_1, e158_2, e158_5, e158_6, e158_7, e158_10, e158_13, e158_14, e158_15, e158_18, e158_21, e158_22, e158_23, e158_26, e158_27, e158_28, e158_29, e158_32, e158_35, e158_38, e158_39, e158_40, e158_43, e158_44, e158_45, e158_48, e158_49, e158_50, e158_53, e158_54, e158_55, e158_56, e158_59, zs0, zsI, zsL, zsR, ztl1, ztl0, zc0, zcI, zcL, zcR, true_and, and_true, true_implies, false_implies, implies_true, not_true_eq_false, not_false_eq_true, and_self, Int.toNat_natCast, Nat.reduceAdd, Nat.reduceLeDiff, Nat.reduceLT, forall_eq', Option.some.injEq, zarR, zarI, zarL, zle, zq0, zq1, zq2, zq3, zq4, zq5, zq6, zq8, zq9, zq10, zq20, zq7, zq12, zq24, zq40, zq41, zq48, zq100, zq120, zq123, zq480, zq492, zq700, zq729, zq2187, zq2916, zq8748, ne_eq, Int.reduceEq, Int.reduceLT, Int.reduceLE, Int.reduceToNat, Int.reduceMul, Int.reduceAdd, Int.reduceNeg, gk91 hg, gr91_5 hg, gr91_22 hg, gr91_23 hg, gr91_24 hg, gr91_25 hg, gr91_26 hg, gr91_27 hg, gr91_28 hg, gr91_29 hg, gr91_32 hg, gr91_33 hg, gr91_34 hg, gr91_35 hg, gr91_36 hg, gr91_37 hg, gr91_38 hg, gr91_39 hg, gr91_40 hg, gr91_41 hg, gr91_42 hg, gr91_44 hg, gr91_45 hg, gr91_46 hg, gr91_48 hg, gr91_49 hg, gr91_50 hg, gr91_51 hg, gr91_52 hg, or_true, true_or, if_true, if_false, false_and, and_false, false_or, or_false, m_isBaker hg hk, mF_z hk (show 91 < 121 by decide), mF_fr hk f1, mb, e, m_denied hg]
        exact K _ mEnd.1 mEnd.2.1 mEnd.2.2
      · simp only [e158_0, e158_1, e158_2, e158_5, e158_6, e158_7, e158_10, e158_13, e158_14, e158_15, e158_18, e158_21, e158_22, e158_23, e158_26, e158_27, e158_28, e158_29, e158_32, e158_35, e158_38, e158_39, e158_40, e158_43, e158_44, e158_45, e158_48, e158_49, e158_50, e158_53, e158_54, e158_55, e158_56, e158_59, zs0, zsI, zsL, zsR, ztl1, ztl0, zc0, zcI, zcL, zcR, true_and, and_true, true_implies, false_implies, implies_true, not_true_eq_false, not_false_eq_true, and_self, Int.toNat_natCast, Nat.reduceAdd, Nat.reduceLeDiff, Nat.reduceLT, forall_eq', Option.some.injEq, zarR, zarI, zarL, zle, zq0, zq1, zq2, zq3, zq4, zq5, zq6, zq8, zq9, zq10, zq20, zq7, zq12, zq24, zq40, zq41, zq48, zq100, zq120, zq123, zq480, zq492, zq700, zq729, zq2187, zq2916, zq8748, ne_eq, Int.reduceEq, Int.reduceLT, Int.reduceLE, Int.reduceToNat, Int.reduceMul, Int.reduceAdd, Int.reduceNeg, gk91 hg, gr91_5 hg, gr91_22 hg, gr91_23 hg, gr91_24 hg, gr91_25 hg, gr91_26 hg, gr91_27 hg, gr91_28 hg, gr91_29 hg, gr91_32 hg, gr91_33 hg, gr91_34 hg, gr91_35 hg, gr91_36 hg, gr91_37 hg, gr91_38 hg, gr91_39 hg, gr91_40 hg, gr91_41 hg, gr91_42 hg, gr91_44 hg, gr91_45 hg, gr91_46 hg, gr91_48 hg, gr91_49 hg, gr91_50 hg, gr91_51 hg, gr91_52 hg, or_true, true_or, if_true, if_false, false_and, and_false, false_or, or_false, m_isBaker hg hk, m_isSort hg hk, mF_z hk (show 91 < 121 by decide), mF_fr hk f1, mb, ms, e, k, m_denied hg]
        exact K _ mEnd.1 mEnd.2.1 mEnd.2.2
  rcases rng_c 0 (h 18 9) x with ⟨e, e1, e2⟩ | ⟨e, e2⟩
  · rcases rng_c 0 (h 18 10) y with ⟨k, k1, k2⟩ | ⟨k, k2⟩
    · rcases rng_c 0 10000 z with ⟨l, l1, l2⟩ | ⟨l, l2⟩
      · obtain ⟨u, T, Y, hu, hu2, hw, kt, rt, i4, i5⟩ := INV_T hI (by omega)
        obtain ⟨b, rfl⟩ := Int.eq_ofNat_of_zero_le e1
        obtain ⟨s, rfl⟩ := Int.eq_ofNat_of_zero_le k1
        have hb : b < nB T := by have := kt.1; omega
        have hs : s < nS T := by have := kt.2.1; omega
        have hb3 := hw.1
        have hs4 := hw.2.1
        have hY := i4.1.1
        have u1 := hu.1
        have l3 : ¬ z < 0 := by omega
        have l4 : z ≤ 9999 := by omega
        have fs := fun Q' => f_seat (d := d + 14) (Q := Q') (h := zu h 0 11 0) hg (Y := Y) (b := b) (s := s) (by rw [zu_c (by decide)]; exact i4.1.2.1) hY (by omega) (by omega)
        have w1 : ((Y * 12 + b * 4 + s : Nat) : Int) < 492 := by omega
        have w2 : ((3 * s + b : Nat) : Int) < 24 := by omega
        refine PR_u (fun h1 => h1 = zu (zu h 0 11 0) 39 (Y * 12 + b * 4 + s) z) 1 ?_ ?_
        · intro Q K
          rw [r63]
          simp only [e63_0, e63_1, e63_2, e63_5, e63_8, e63_9, e63_10, e63_13, e63_16, e63_17, e63_18, e63_21, e63_22, e63_23, e63_24, e63_27, e63_28, e63_31, e63_34, e63_35, e63_36, e63_39, e63_40, e63_41, e63_42, e63_43, e63_46, e63_47, e63_50, e63_53, e63_54, e63_57, e63_58, e63_59, e63_62, e63_63, e63_64, e63_65, zs0, zsI, zsL, zsR, ztl1, ztl0, zc0, zcI, zcL, zcR, true_and, and_true, true_implies, false_implies, implies_true, not_true_eq_false, not_false_eq_true, and_self, Int.toNat_natCast, Nat.reduceAdd, Nat.reduceLeDiff, Nat.reduceLT, forall_eq', Option.some.injEq, zarR, zarI, zarL, zle, zq0, zq1, zq2, zq3, zq4, zq5, zq6, zq8, zq9, zq10, zq20, zq7, zq12, zq24, zq40, zq41, zq48, zq100, zq120, zq123, zq480, zq492, zq700, zq729, zq2187, zq2916, zq8748, ne_eq, Int.reduceEq, Int.reduceLT, Int.reduceLE, Int.reduceToNat, Int.reduceMul, Int.reduceAdd, Int.reduceNeg, gk0 hg, gr0_0 hg, gr0_2 hg, gr0_3 hg, gr0_4 hg, gr0_5 hg, gr0_6 hg, gr0_7 hg, gr0_8 hg, gr0_9 hg, gr0_10 hg, gk38 hg, gr38_1 hg, gr38_2 hg, gr38_3 hg, gr38_4 hg, gr38_5 hg, gr38_6 hg, gk39 hg, gl39 hg, or_true, true_or, if_true, if_false, false_and, and_false, false_or, or_false, f_isBaker hg, f_isSort hg, e, k, l3, l4, fs, w1]
          exact K _ rfl
        rintro h1 rfl Q K
        have fc := fun h' Q' => m_cell (d := d + 14) (Q := Q') (G := G) (h := h') (a := s) (b := b) (by omega) (by omega)
        rw [r158]
        simp only [e158_0, e158_1, e158_2, e158_5, e158_6, e158_7, e158_10, e158_13, e158_14, e158_15, e158_18, e158_21, e158_22, e158_23, e158_26, e158_27, e158_28, e158_29, e158_32, e158_35, e158_38, e158_39, e158_40, e158_43, e158_44, e158_45, e158_48, e158_49, e158_50, e158_53, e158_54, e158_55, e158_56, e158_59, zs0, zsI, zsL, zsR, ztl1, ztl0, zc0, zcI, zcL, zcR, true_and, and_true, true_implies, false_implies, implies_true, not_true_eq_false, not_false_eq_true, and_self, Int.toNat_natCast, Nat.reduceAdd, Nat.reduceLeDiff, Nat.reduceLT, forall_eq', Option.some.injEq, zarR, zarI, zarL, zle, zq0, zq1, zq2, zq3, zq4, zq5, zq6, zq8, zq9, zq10, zq20, zq7, zq12, zq24, zq40, zq41, zq48, zq100, zq120, zq123, zq480, zq492, zq700, zq729, zq2187, zq2916, zq8748, ne_eq, Int.reduceEq, Int.reduceLT, Int.reduceLE, Int.reduceToNat, Int.reduceMul, Int.reduceAdd, Int.reduceNeg, gk91 hg, gr91_5 hg, gr91_22 hg, gr91_23 hg, gr91_24 hg, gr91_25 hg, gr91_26 hg, gr91_27 hg, gr91_28 hg, gr91_29 hg, gr91_32 hg, gr91_33 hg, gr91_34 hg, gr91_35 hg, gr91_36 hg, gr91_37 hg, gr91_38 hg, gr91_39 hg, gr91_40 hg, gr91_41 hg, gr91_42 hg, gr91_44 hg, gr91_45 hg, gr91_46 hg, gr91_48 hg, gr91_49 hg, gr91_50 hg, gr91_51 hg, gr91_52 hg, gk101 hg, gl101 hg, or_true, true_or, if_true, if_false, false_and, and_false, false_or, or_false, m_isBaker hg hk, m_isSort hg hk, m_in, mF_z hk (show 91 < 121 by decide), mF_z hk (show 39 < 121 by decide), mF_z hk (show 0 < 121 by decide), mb, ms, e, k, l, fc, w2, m_granted hg]
        apply K
        have fr : ∀ c i, ¬ (c = 0 ∧ i = 11) → ¬ (c = 39 ∧ i = Y * 12 + b * 4 + s) → ¬ (c = 91 ∧ i < 3) → ¬ (c = 101 ∧ i = 3 * s + b) → (zu (zu (zu (zu (zu (zu h 0 11 0) 39 (Y * 12 + b * 4 + s) z) 91 0 0) 101 (3 * s + b) z) 91 1 0) 91 2 (-1)) c i = h c i := by
          intro c i q1 q2 q3 q4
          unfold zu
          rw [if_neg (by omega), if_neg (by omega), if_neg (by omega), if_neg (by omega), if_neg (by omega), if_neg (by omega)]
        have v1 : (zu (zu (zu (zu (zu (zu h 0 11 0) 39 (Y * 12 + b * 4 + s) z) 91 0 0) 101 (3 * s + b) z) 91 1 0) 91 2 (-1)) 0 11 = 0 := by
          rw [zu_c (by decide), zu_c (by decide), zu_c (by decide), zu_c (by decide), zu_c (by decide), zu_at]
        have v2 : (zu (zu (zu (zu (zu (zu h 0 11 0) 39 (Y * 12 + b * 4 + s) z) 91 0 0) 101 (3 * s + b) z) 91 1 0) 91 2 (-1)) 39 (Y * 12 + b * 4 + s) = z := by
          rw [zu_c (by decide), zu_c (by decide), zu_c (by decide), zu_c (by decide), zu_at]
        have v3 : (zu (zu (zu (zu (zu (zu h 0 11 0) 39 (Y * 12 + b * 4 + s) z) 91 0 0) 101 (3 * s + b) z) 91 1 0) 91 2 (-1)) 101 (3 * s + b) = z := by
          rw [zu_c (by decide), zu_c (by decide), zu_at]
        have v4 : (zu (zu (zu (zu (zu (zu h 0 11 0) 39 (Y * 12 + b * 4 + s) z) 91 0 0) 101 (3 * s + b) z) 91 1 0) 91 2 (-1)) 91 1 = 0 := by
          rw [zu_i (by decide), zu_at]
        have v5 : (zu (zu (zu (zu (zu (zu h 0 11 0) 39 (Y * 12 + b * 4 + s) z) 91 0 0) 101 (3 * s + b) z) 91 1 0) 91 2 (-1)) 91 2 = -1 := zu_at
        generalize (zu (zu (zu (zu (zu (zu h 0 11 0) 39 (Y * 12 + b * 4 + s) z) 91 0 0) 101 (3 * s + b) z) 91 1 0) 91 2 (-1)) = h2 at fr v1 v2 v3 v4 v5 ⊢
        refine ⟨hg, I1_fr hI.2.1 (fr _ _ (by omega) (by omega) (by omega) (by omega)) (fun i => fr _ _ (by omega) (by omega) (by omega) (by omega)) (fr _ _ (by omega) (by omega) (by omega) (by omega)) (fun i => fr _ _ (by omega) (by omega) (by omega) (by omega)), I2_ok hI.2.2.1 v1 v4 v5 (fr _ _ (by omega) (by omega) (by omega) (by omega)) (fr _ _ (by omega) (by omega) (by omega) (by omega)), Or.inr ⟨u, T, Y, hu, hu2, hw, kT_frame kt (fun c i _ _ => fr _ _ (by omega) (by omega) (by omega) (by omega)), rT_frame rt (fun c i _ => fr _ _ (by omega) (by omega) (by omega) (by omega)), ?_, I5_fr i5 (fun c i _ _ => fr _ _ (by omega) (by omega) (by omega) (by omega)) (fr _ _ (by omega) (by omega) (by omega) (by omega)) (fun c i _ _ => fr _ _ (by omega) (by omega) (by omega) (by omega))⟩⟩
        exact I4_hold hw i4 hb hs (by omega) (fun c i _ _ _ => fr _ _ (by omega) (by omega) (by omega) (by omega)) v2 (fr _ _ (by omega) (by omega) (by omega) (by omega)) (fr _ _ (by omega) (by omega) (by omega) (by omega)) (fun i _ _ => fr _ _ (by omega) (by omega) (by omega) (by omega)) v3 (fun c i _ _ => fr _ _ (by omega) (by omega) (by omega) (by omega))
      · refine PR_q (z := 0) (tr := 2) hI (by decide) ?_ ?_
        · intro Q K
          rw [r63]
          by_cases l3 : z < 0
          · simp only [e63_0, e63_1, e63_2, e63_5, e63_8, e63_9, e63_10, e63_13, e63_16, e63_17, e63_18, e63_21, e63_22, e63_23, e63_24, e63_27, e63_28, e63_31, e63_34, e63_35, e63_36, e63_39, e63_40, e63_41, e63_42, e63_43, e63_46, e63_47, e63_50, e63_53, e63_54, e63_57, e63_58, e63_59, e63_62, e63_63, e63_64, e63_65, zs0, zsI, zsL, zsR, ztl1, ztl0, zc0, zcI, zcL, zcR, true_and, and_true, true_implies, false_implies, implies_true, not_true_eq_false, not_false_eq_true, and_self, Int.toNat_natCast, Nat.reduceAdd, Nat.reduceLeDiff, Nat.reduceLT, forall_eq', Option.some.injEq, zarR, zarI, zarL, zle, zq0, zq1, zq2, zq3, zq4, zq5, zq6, zq8, zq9, zq10, zq20, zq7, zq12, zq24, zq40, zq41, zq48, zq100, zq120, zq123, zq480, zq492, zq700, zq729, zq2187, zq2916, zq8748, ne_eq, Int.reduceEq, Int.reduceLT, Int.reduceLE, Int.reduceToNat, Int.reduceMul, Int.reduceAdd, Int.reduceNeg, gk0 hg, gr0_0 hg, gr0_2 hg, gr0_3 hg, gr0_4 hg, gr0_5 hg, gr0_6 hg, gr0_7 hg, gr0_8 hg, gr0_9 hg, gr0_10 hg, or_true, true_or, if_true, if_false, false_and, and_false, false_or, or_false, f_isBaker hg, f_isSort hg, e, k, l3]
            exact K _ cfr.z zu_at
          · have l4 : ¬ z ≤ 9999 := by omega
            simp only [e63_0, e63_1, e63_2, e63_5, e63_8, e63_9, e63_10, e63_13, e63_16, e63_17, e63_18, e63_21, e63_22, e63_23, e63_24, e63_27, e63_28, e63_31, e63_34, e63_35, e63_36, e63_39, e63_40, e63_41, e63_42, e63_43, e63_46, e63_47, e63_50, e63_53, e63_54, e63_57, e63_58, e63_59, e63_62, e63_63, e63_64, e63_65, zs0, zsI, zsL, zsR, ztl1, ztl0, zc0, zcI, zcL, zcR, true_and, and_true, true_implies, false_implies, implies_true, not_true_eq_false, not_false_eq_true, and_self, Int.toNat_natCast, Nat.reduceAdd, Nat.reduceLeDiff, Nat.reduceLT, forall_eq', Option.some.injEq, zarR, zarI, zarL, zle, zq0, zq1, zq2, zq3, zq4, zq5, zq6, zq8, zq9, zq10, zq20, zq7, zq12, zq24, zq40, zq41, zq48, zq100, zq120, zq123, zq480, zq492, zq700, zq729, zq2187, zq2916, zq8748, ne_eq, Int.reduceEq, Int.reduceLT, Int.reduceLE, Int.reduceToNat, Int.reduceMul, Int.reduceAdd, Int.reduceNeg, gk0 hg, gr0_0 hg, gr0_2 hg, gr0_3 hg, gr0_4 hg, gr0_5 hg, gr0_6 hg, gr0_7 hg, gr0_8 hg, gr0_9 hg, gr0_10 hg, or_true, true_or, if_true, if_false, false_and, and_false, false_or, or_false, f_isBaker hg, f_isSort hg, e, k, l3, l4]
            exact K _ cfr.z zu_at
        · intro h1 f1 Q K
          rw [r158]
          simp only [e158_0, e158_1, e158_2, e158_5, e158_6, e158_7, e158_10, e158_13, e158_14, e158_15, e158_18, e158_21, e158_22, e158_23, e158_26, e158_27, e158_28, e158_29, e158_32, e158_35, e158_38, e158_39, e158_40, e158_43, e158_44, e158_45, e158_48, e158_49, e158_50, e158_53, e158_54, e158_55, e158_56, e158_59, zs0, zsI, zsL, zsR, ztl1, ztl0, zc0, zcI, zcL, zcR, true_and, and_true, true_implies, false_implies, implies_true, not_true_eq_false, not_false_eq_true, and_self, Int.toNat_natCast, Nat.reduceAdd, Nat.reduceLeDiff, Nat.reduceLT, forall_eq', Option.some.injEq, zarR, zarI, zarL, zle, zq0, zq1, zq2, zq3, zq4, zq5, zq6, zq8, zq9, zq10, zq20, zq7, zq12, zq24, zq40, zq41, zq48, zq100, zq120, zq123, zq480, zq492, zq700, zq729, zq2187, zq2916, zq8748, ne_eq, Int.reduceEq, Int.reduceLT, Int.reduceLE, Int.reduceToNat, Int.reduceMul, Int.reduceAdd, Int.reduceNeg, gk91 hg, gr91_5 hg, gr91_22 hg, gr91_23 hg, gr91_24 hg, gr91_25 hg, gr91_26 hg, gr91_27 hg, gr91_28 hg, gr91_29 hg, gr91_32 hg, gr91_33 hg, gr91_34 hg, gr91_35 hg, gr91_36 hg, gr91_37 hg, gr91_38 hg, gr91_39 hg, gr91_40 hg, gr91_41 hg, gr91_42 hg, gr91_44 hg, gr91_45 hg, gr91_46 hg, gr91_48 hg, gr91_49 hg, gr91_50 hg, gr91_51 hg, gr91_52 hg, or_true, true_or, if_true, if_false, false_and, and_false, false_or, or_false, m_isBaker hg hk, m_isSort hg hk, m_in, mF_z hk (show 91 < 121 by decide), mF_fr hk f1, mb, ms, e, k, l, m_denied hg]
          exact K _ mEnd.1 mEnd.2.1 mEnd.2.2
    · exact bad (Or.inr ⟨e, k⟩)
  · exact bad (Or.inl e)
theorem p_ask (hI : INV G h) : PR zI d 64 159 [zI x, zI y, zI z] G h := by
  have hg := hI.1
  have hk := INV_gK hI
  obtain ⟨mb, ms⟩ := INV_mF hI
  rcases rng_c 0 (h 18 9) x with ⟨e, e1, e2⟩ | ⟨e, e2⟩
  · obtain ⟨u, T, Y, hu, hu2, hw, kt, rt, i4, i5⟩ := INV_T hI (by omega)
    have u1 := hu.1
    have n9 : ¬ u = 91 := by omega
    have n0 : ¬ u = 0 := by omega
    have k11 := kt.2.2.1
    have r11 := rt.2.2.1
    have k12 := kt.2.2.2.1
    have r12 := rt.2.2.2.2.1
    have bad : rng 0 (nP T) y = 0 ∨ rng 0 (nP T) y = 1 ∧ rng 0 (nP T) z = 0 → PR zI d 64 159 [zI x, zI y, zI z] G h := by
      intro hb
      refine PR_q (z := 0) (tr := 2) hI (by decide) ?_ ?_
      · intro Q K
        rw [r64]
        rcases hb with e3 | ⟨e3, e4⟩
        · simp only [e64_0, e64_1, e64_2, e64_5, e64_8, e64_9, e64_10, e64_13, e64_14, e64_15, e64_16, e64_17, e64_20, e64_23, e64_24, e64_25, e64_28, e64_31, e64_32, e64_33, e64_36, e64_37, e64_38, e64_39, e64_42, e64_45, e64_48, e64_49, e64_50, e64_53, e64_54, e64_55, e64_58, e64_59, e64_60, e64_61, e64_62, e64_65, e64_66, e64_69, e64_72, e64_73, e64_76, e64_77, e64_80, e64_81, e64_82, e64_83, e64_86, e64_89, e64_90, e64_93, e64_94, e64_97, e64_98, e64_99, e64_100, zs0, zsI, zsL, zsR, ztl1, ztl0, zc0, zcI, zcL, zcR, true_and, and_true, true_implies, false_implies, implies_true, not_true_eq_false, not_false_eq_true, and_self, Int.toNat_natCast, Nat.reduceAdd, Nat.reduceLeDiff, Nat.reduceLT, forall_eq', Option.some.injEq, zarR, zarI, zarL, zle, zq0, zq1, zq2, zq3, zq4, zq5, zq6, zq8, zq9, zq10, zq20, zq7, zq12, zq24, zq40, zq41, zq48, zq100, zq120, zq123, zq480, zq492, zq700, zq729, zq2187, zq2916, zq8748, ne_eq, Int.reduceEq, Int.reduceLT, Int.reduceLE, Int.reduceToNat, Int.reduceMul, Int.reduceAdd, Int.reduceNeg, gk0 hg, gr0_0 hg, gr0_2 hg, gr0_3 hg, gr0_4 hg, gr0_5 hg, gr0_6 hg, gr0_7 hg, gr0_8 hg, gr0_9 hg, gr0_10 hg, or_true, true_or, if_true, if_false, false_and, and_false, false_or, or_false, f_isBaker hg, f_isStep hg, e, k11, e3]
          exact K _ cfr.z zu_at
        · simp only [e64_0, e64_1, e64_2, e64_5, e64_8, e64_9, e64_10, e64_13, e64_14, e64_15, e64_16, e64_17, e64_20, e64_23, e64_24, e64_25, e64_28, e64_31, e64_32, e64_33, e64_36, e64_37, e64_38, e64_39, e64_42, e64_45, e64_48, e64_49, e64_50, e64_53, e64_54, e64_55, e64_58, e64_59, e64_60, e64_61, e64_62, e64_65, e64_66, e64_69, e64_72, e64_73, e64_76, e64_77, e64_80, e64_81, e64_82, e64_83, e64_86, e64_89, e64_90, e64_93, e64_94, e64_97, e64_98, e64_99, e64_100, zs0, zsI, zsL, zsR, ztl1, ztl0, zc0, zcI, zcL, zcR, true_and, and_true, true_implies, false_implies, implies_true, not_true_eq_false, not_false_eq_true, and_self, Int.toNat_natCast, Nat.reduceAdd, Nat.reduceLeDiff, Nat.reduceLT, forall_eq', Option.some.injEq, zarR, zarI, zarL, zle, zq0, zq1, zq2, zq3, zq4, zq5, zq6, zq8, zq9, zq10, zq20, zq7, zq12, zq24, zq40, zq41, zq48, zq100, zq120, zq123, zq480, zq492, zq700, zq729, zq2187, zq2916, zq8748, ne_eq, Int.reduceEq, Int.reduceLT, Int.reduceLE, Int.reduceToNat, Int.reduceMul, Int.reduceAdd, Int.reduceNeg, gk0 hg, gr0_0 hg, gr0_2 hg, gr0_3 hg, gr0_4 hg, gr0_5 hg, gr0_6 hg, gr0_7 hg, gr0_8 hg, gr0_9 hg, gr0_10 hg, or_true, true_or, if_true, if_false, false_and, and_false, false_or, or_false, f_isBaker hg, f_isStep hg, e, k11, e3, e4]
          exact K _ cfr.z zu_at
      · intro h1 f1 Q K
        have v : h1 u 2 = (nP T : Int) := by rw [f1 u 2 (Or.inl (by omega))]; exact r11
        rw [r159]
        rcases hb with e3 | ⟨e3, e4⟩
        · simp only [e159_0, e159_1, e159_2, e159_5, e159_6, e159_7, e159_10, e159_13, e159_14, e159_15, e159_18, e159_19, e159_20, e159_21, e159_24, e159_27, e159_28, e159_29, e159_32, e159_35, e159_36, e159_37, e159_40, e159_41, e159_42, e159_45, e159_48, e159_51, e159_52, e159_53, e159_56, e159_57, e159_58, e159_61, e159_62, e159_63, e159_66, e159_67, e159_68, e159_69, e159_70, e159_73, e159_74, e159_75, e159_76, e159_77, e159_80, zs0, zsI, zsL, zsR, ztl1, ztl0, zc0, zcI, zcL, zcR, true_and, and_true, true_implies, false_implies, implies_true, not_true_eq_false, not_false_eq_true, and_self, Int.toNat_natCast, Nat.reduceAdd, Nat.reduceLeDiff, Nat.reduceLT, forall_eq', Option.some.injEq, zarR, zarI, zarL, zle, zq0, zq1, zq2, zq3, zq4, zq5, zq6, zq8, zq9, zq10, zq20, zq7, zq12, zq24, zq40, zq41, zq48, zq100, zq120, zq123, zq480, zq492, zq700, zq729, zq2187, zq2916, zq8748, ne_eq, Int.reduceEq, Int.reduceLT, Int.reduceLE, Int.reduceToNat, Int.reduceMul, Int.reduceAdd, Int.reduceNeg, gk91 hg, gr91_5 hg, gr91_22 hg, gr91_23 hg, gr91_24 hg, gr91_25 hg, gr91_26 hg, gr91_27 hg, gr91_28 hg, gr91_29 hg, gr91_32 hg, gr91_33 hg, gr91_34 hg, gr91_35 hg, gr91_36 hg, gr91_37 hg, gr91_38 hg, gr91_39 hg, gr91_40 hg, gr91_41 hg, gr91_42 hg, gr91_44 hg, gr91_45 hg, gr91_46 hg, gr91_48 hg, gr91_49 hg, gr91_50 hg, gr91_51 hg, gr91_52 hg, or_true, true_or, if_true, if_false, false_and, and_false, false_or, or_false, m_isBaker hg hk, m_isStep hg hu, mF_z hk (show 91 < 121 by decide), mF_fr hk f1, mb, e, zu_c n9, v, e3, m_denied hg]
          exact K _ mEnd.1 mEnd.2.1 mEnd.2.2
        · simp only [e159_0, e159_1, e159_2, e159_5, e159_6, e159_7, e159_10, e159_13, e159_14, e159_15, e159_18, e159_19, e159_20, e159_21, e159_24, e159_27, e159_28, e159_29, e159_32, e159_35, e159_36, e159_37, e159_40, e159_41, e159_42, e159_45, e159_48, e159_51, e159_52, e159_53, e159_56, e159_57, e159_58, e159_61, e159_62, e159_63, e159_66, e159_67, e159_68, e159_69, e159_70, e159_73, e159_74, e159_75, e159_76, e159_77, e159_80, zs0, zsI, zsL, zsR, ztl1, ztl0, zc0, zcI, zcL, zcR, true_and, and_true, true_implies, false_implies, implies_true, not_true_eq_false, not_false_eq_true, and_self, Int.toNat_natCast, Nat.reduceAdd, Nat.reduceLeDiff, Nat.reduceLT, forall_eq', Option.some.injEq, zarR, zarI, zarL, zle, zq0, zq1, zq2, zq3, zq4, zq5, zq6, zq8, zq9, zq10, zq20, zq7, zq12, zq24, zq40, zq41, zq48, zq100, zq120, zq123, zq480, zq492, zq700, zq729, zq2187, zq2916, zq8748, ne_eq, Int.reduceEq, Int.reduceLT, Int.reduceLE, Int.reduceToNat, Int.reduceMul, Int.reduceAdd, Int.reduceNeg, gk91 hg, gr91_5 hg, gr91_22 hg, gr91_23 hg, gr91_24 hg, gr91_25 hg, gr91_26 hg, gr91_27 hg, gr91_28 hg, gr91_29 hg, gr91_32 hg, gr91_33 hg, gr91_34 hg, gr91_35 hg, gr91_36 hg, gr91_37 hg, gr91_38 hg, gr91_39 hg, gr91_40 hg, gr91_41 hg, gr91_42 hg, gr91_44 hg, gr91_45 hg, gr91_46 hg, gr91_48 hg, gr91_49 hg, gr91_50 hg, gr91_51 hg, gr91_52 hg, or_true, true_or, if_true, if_false, false_and, and_false, false_or, or_false, m_isBaker hg hk, m_isStep hg hu, mF_z hk (show 91 < 121 by decide), mF_fr hk f1, mb, e, zu_c n9, v, e3, e4, m_denied hg]
          exact K _ mEnd.1 mEnd.2.1 mEnd.2.2
    rcases rng_c 0 (nP T) y with ⟨l, l1, l2⟩ | ⟨l, l2⟩
    · rcases rng_c 0 (nP T) z with ⟨o, o1, o2⟩ | ⟨o, o2⟩
      · by_cases hne : tw T = 0 ∧ ¬ z = y
        · refine PR_q (z := 0) (tr := 5) hI (by decide) ?_ ?_
          · intro Q K
            rw [r64]
            simp only [e64_0, e64_1, e64_2, e64_5, e64_8, e64_9, e64_10, e64_13, e64_14, e64_15, e64_16, e64_17, e64_20, e64_23, e64_24, e64_25, e64_28, e64_31, e64_32, e64_33, e64_36, e64_37, e64_38, e64_39, e64_42, e64_45, e64_48, e64_49, e64_50, e64_53, e64_54, e64_55, e64_58, e64_59, e64_60, e64_61, e64_62, e64_65, e64_66, e64_69, e64_72, e64_73, e64_76, e64_77, e64_80, e64_81, e64_82, e64_83, e64_86, e64_89, e64_90, e64_93, e64_94, e64_97, e64_98, e64_99, e64_100, zs0, zsI, zsL, zsR, ztl1, ztl0, zc0, zcI, zcL, zcR, true_and, and_true, true_implies, false_implies, implies_true, not_true_eq_false, not_false_eq_true, and_self, Int.toNat_natCast, Nat.reduceAdd, Nat.reduceLeDiff, Nat.reduceLT, forall_eq', Option.some.injEq, zarR, zarI, zarL, zle, zq0, zq1, zq2, zq3, zq4, zq5, zq6, zq8, zq9, zq10, zq20, zq7, zq12, zq24, zq40, zq41, zq48, zq100, zq120, zq123, zq480, zq492, zq700, zq729, zq2187, zq2916, zq8748, ne_eq, Int.reduceEq, Int.reduceLT, Int.reduceLE, Int.reduceToNat, Int.reduceMul, Int.reduceAdd, Int.reduceNeg, gk0 hg, gr0_0 hg, gr0_2 hg, gr0_3 hg, gr0_4 hg, gr0_5 hg, gr0_6 hg, gr0_7 hg, gr0_8 hg, gr0_9 hg, gr0_10 hg, gk18 hg, gr18_0 hg, gr18_1 hg, gr18_2 hg, gr18_3 hg, gr18_4 hg, gr18_5 hg, gr18_6 hg, gr18_7 hg, gr18_8 hg, or_true, true_or, if_true, if_false, false_and, and_false, false_or, or_false, f_isBaker hg, f_isStep hg, e, k11, k12, l, o, hne.1, hne.2]
            exact K _ cfr.z zu_at
          · intro h1 f1 Q K
            have v : h1 u 2 = (nP T : Int) := by rw [f1 u 2 (Or.inl (by omega))]; exact r11
            have v2 : h1 u 5 = tw T := by rw [f1 u 5 (Or.inl (by omega))]; exact r12
            have hne2 : ¬ y = z := fun q => hne.2 q.symm
            rw [r159]
            simp only [e159_0, e159_1, e159_2, e159_5, e159_6, e159_7, e159_10, e159_13, e159_14, e159_15, e159_18, e159_19, e159_20, e159_21, e159_24, e159_27, e159_28, e159_29, e159_32, e159_35, e159_36, e159_37, e159_40, e159_41, e159_42, e159_45, e159_48, e159_51, e159_52, e159_53, e159_56, e159_57, e159_58, e159_61, e159_62, e159_63, e159_66, e159_67, e159_68, e159_69, e159_70, e159_73, e159_74, e159_75, e159_76, e159_77, e159_80, zs0, zsI, zsL, zsR, ztl1, ztl0, zc0, zcI, zcL, zcR, true_and, and_true, true_implies, false_implies, implies_true, not_true_eq_false, not_false_eq_true, and_self, Int.toNat_natCast, Nat.reduceAdd, Nat.reduceLeDiff, Nat.reduceLT, forall_eq', Option.some.injEq, zarR, zarI, zarL, zle, zq0, zq1, zq2, zq3, zq4, zq5, zq6, zq8, zq9, zq10, zq20, zq7, zq12, zq24, zq40, zq41, zq48, zq100, zq120, zq123, zq480, zq492, zq700, zq729, zq2187, zq2916, zq8748, ne_eq, Int.reduceEq, Int.reduceLT, Int.reduceLE, Int.reduceToNat, Int.reduceMul, Int.reduceAdd, Int.reduceNeg, gk91 hg, gr91_5 hg, gr91_22 hg, gr91_23 hg, gr91_24 hg, gr91_25 hg, gr91_26 hg, gr91_27 hg, gr91_28 hg, gr91_29 hg, gr91_32 hg, gr91_33 hg, gr91_34 hg, gr91_35 hg, gr91_36 hg, gr91_37 hg, gr91_38 hg, gr91_39 hg, gr91_40 hg, gr91_41 hg, gr91_42 hg, gr91_44 hg, gr91_45 hg, gr91_46 hg, gr91_48 hg, gr91_49 hg, gr91_50 hg, gr91_51 hg, gr91_52 hg, or_true, true_or, if_true, if_false, false_and, and_false, false_or, or_false, hu, m_isBaker hg hk, m_isStep hg hu, mF_z hk (show 91 < 121 by decide), mF_fr hk f1, mb, e, zu_c n9, v, v2, l, o, hne.1, hne2, m_denied hg]
            exact K _ mEnd.1 mEnd.2.1 mEnd.2.2
        · obtain ⟨b, rfl⟩ := Int.eq_ofNat_of_zero_le e1
          obtain ⟨s, rfl⟩ := Int.eq_ofNat_of_zero_le l1
          obtain ⟨t, rfl⟩ := Int.eq_ofNat_of_zero_le o1
          have hb : b < nB T := by have := kt.1; omega
          have hb3 := hw.1
          have hp3 := hw.2.2.1
          have hY := i4.1.1
          have b3 : (b : Int) < 3 := by omega
          have w1 : ((Y * 3 + b : Nat) : Int) < 123 := by omega
          have fs := fun h' hh Q' => f_counter (d := d + 14) (Q := Q') (h := h') hg (Y := Y) (b := b) hh hY (by omega)
          have fs1 := fs (zu h 0 11 0) (by rw [zu_c (by decide)]; exact i4.1.2.1)
          have fs2 := fs (zu (zu h 0 11 0) 40 (Y * 3 + b) (s : Int)) (by rw [zu_c (by decide), zu_c (by decide)]; exact i4.1.2.1)
          refine PR_u (fun h1 => h1 = zu (zu (zu h 0 11 0) 40 (Y * 3 + b) (s : Int)) 41 (Y * 3 + b) (t : Int)) 1 ?_ ?_
          · intro Q K
            rw [r64]
            by_cases t0 : tw T = 0
            · have t1 : (t : Int) = s := by omega
              simp only [e64_0, e64_1, e64_2, e64_5, e64_8, e64_9, e64_10, e64_13, e64_14, e64_15, e64_16, e64_17, e64_20, e64_23, e64_24, e64_25, e64_28, e64_31, e64_32, e64_33, e64_36, e64_37, e64_38, e64_39, e64_42, e64_45, e64_48, e64_49, e64_50, e64_53, e64_54, e64_55, e64_58, e64_59, e64_60, e64_61, e64_62, e64_65, e64_66, e64_69, e64_72, e64_73, e64_76, e64_77, e64_80, e64_81, e64_82, e64_83, e64_86, e64_89, e64_90, e64_93, e64_94, e64_97, e64_98, e64_99, e64_100, zs0, zsI, zsL, zsR, ztl1, ztl0, zc0, zcI, zcL, zcR, true_and, and_true, true_implies, false_implies, implies_true, not_true_eq_false, not_false_eq_true, and_self, Int.toNat_natCast, Nat.reduceAdd, Nat.reduceLeDiff, Nat.reduceLT, forall_eq', Option.some.injEq, zarR, zarI, zarL, zle, zq0, zq1, zq2, zq3, zq4, zq5, zq6, zq8, zq9, zq10, zq20, zq7, zq12, zq24, zq40, zq41, zq48, zq100, zq120, zq123, zq480, zq492, zq700, zq729, zq2187, zq2916, zq8748, ne_eq, Int.reduceEq, Int.reduceLT, Int.reduceLE, Int.reduceToNat, Int.reduceMul, Int.reduceAdd, Int.reduceNeg, gk0 hg, gr0_0 hg, gr0_2 hg, gr0_3 hg, gr0_4 hg, gr0_5 hg, gr0_6 hg, gr0_7 hg, gr0_8 hg, gr0_9 hg, gr0_10 hg, gk18 hg, gr18_0 hg, gr18_1 hg, gr18_2 hg, gr18_3 hg, gr18_4 hg, gr18_5 hg, gr18_6 hg, gr18_7 hg, gr18_8 hg, gk38 hg, gr38_1 hg, gr38_2 hg, gr38_3 hg, gr38_4 hg, gr38_5 hg, gr38_6 hg, gk40 hg, gl40 hg, gk41 hg, gl41 hg, or_true, true_or, if_true, if_false, false_and, and_false, false_or, or_false, f_isBaker hg, f_isStep hg, e, k11, k12, l, o, t0, t1, fs1, fs2, w1] at K ⊢
              exact K _ rfl
            · simp only [e64_0, e64_1, e64_2, e64_5, e64_8, e64_9, e64_10, e64_13, e64_14, e64_15, e64_16, e64_17, e64_20, e64_23, e64_24, e64_25, e64_28, e64_31, e64_32, e64_33, e64_36, e64_37, e64_38, e64_39, e64_42, e64_45, e64_48, e64_49, e64_50, e64_53, e64_54, e64_55, e64_58, e64_59, e64_60, e64_61, e64_62, e64_65, e64_66, e64_69, e64_72, e64_73, e64_76, e64_77, e64_80, e64_81, e64_82, e64_83, e64_86, e64_89, e64_90, e64_93, e64_94, e64_97, e64_98, e64_99, e64_100, zs0, zsI, zsL, zsR, ztl1, ztl0, zc0, zcI, zcL, zcR, true_and, and_true, true_implies, false_implies, implies_true, not_true_eq_false, not_false_eq_true, and_self, Int.toNat_natCast, Nat.reduceAdd, Nat.reduceLeDiff, Nat.reduceLT, forall_eq', Option.some.injEq, zarR, zarI, zarL, zle, zq0, zq1, zq2, zq3, zq4, zq5, zq6, zq8, zq9, zq10, zq20, zq7, zq12, zq24, zq40, zq41, zq48, zq100, zq120, zq123, zq480, zq492, zq700, zq729, zq2187, zq2916, zq8748, ne_eq, Int.reduceEq, Int.reduceLT, Int.reduceLE, Int.reduceToNat, Int.reduceMul, Int.reduceAdd, Int.reduceNeg, gk0 hg, gr0_0 hg, gr0_2 hg, gr0_3 hg, gr0_4 hg, gr0_5 hg, gr0_6 hg, gr0_7 hg, gr0_8 hg, gr0_9 hg, gr0_10 hg, gk18 hg, gr18_0 hg, gr18_1 hg, gr18_2 hg, gr18_3 hg, gr18_4 hg, gr18_5 hg, gr18_6 hg, gr18_7 hg, gr18_8 hg, gk38 hg, gr38_1 hg, gr38_2 hg, gr38_3 hg, gr38_4 hg, gr38_5 hg, gr38_6 hg, gk40 hg, gl40 hg, gk41 hg, gl41 hg, or_true, true_or, if_true, if_false, false_and, and_false, false_or, or_false, f_isBaker hg, f_isStep hg, e, k11, k12, l, o, t0, fs1, fs2, w1]
              exact K _ rfl
          · rintro h1 rfl Q K
            have v : (zu (zu (zu h 0 11 0) 40 (Y * 3 + b) (s : Int)) 41 (Y * 3 + b) (t : Int)) u 2 = (nP T : Int) := by rw [zu_c (by omega), zu_c (by omega), zu_c (by omega)]; exact r11
            have v2 : (zu (zu (zu h 0 11 0) 40 (Y * 3 + b) (s : Int)) 41 (Y * 3 + b) (t : Int)) u 5 = tw T := by rw [zu_c (by omega), zu_c (by omega), zu_c (by omega)]; exact r12
            have fin : Q (some (zI 1)) G (zu (zu (zu (zu (zu (zu (zu (zu h 0 11 0) 40 (Y * 3 + b) (s : Int)) 41 (Y * 3 + b) (t : Int)) 91 0 0) 102 b (s : Int)) 103 b (t : Int)) 91 1 0) 91 2 (-1)) := by
              apply K
              have fr : ∀ c i, ¬ (c = 0 ∧ i = 11) → ¬ (c = 40 ∧ i = Y * 3 + b) → ¬ (c = 41 ∧ i = Y * 3 + b) → ¬ (c = 91 ∧ i < 3) → ¬ (c = 102 ∧ i = b) → ¬ (c = 103 ∧ i = b) → (zu (zu (zu (zu (zu (zu (zu (zu h 0 11 0) 40 (Y * 3 + b) (s : Int)) 41 (Y * 3 + b) (t : Int)) 91 0 0) 102 b (s : Int)) 103 b (t : Int)) 91 1 0) 91 2 (-1)) c i = h c i := by
                intro c i q1 q2 q3 q4 q5 q6
                unfold zu
                rw [if_neg (by omega), if_neg (by omega), if_neg (by omega), if_neg (by omega), if_neg (by omega), if_neg (by omega), if_neg (by omega), if_neg (by omega)]
              have v1 : (zu (zu (zu (zu (zu (zu (zu (zu h 0 11 0) 40 (Y * 3 + b) (s : Int)) 41 (Y * 3 + b) (t : Int)) 91 0 0) 102 b (s : Int)) 103 b (t : Int)) 91 1 0) 91 2 (-1)) 0 11 = 0 := by
                rw [zu_c (by decide), zu_c (by decide), zu_c (by decide), zu_c (by decide), zu_c (by decide), zu_c (by decide), zu_c (by decide), zu_at]
              have v2 : (zu (zu (zu (zu (zu (zu (zu (zu h 0 11 0) 40 (Y * 3 + b) (s : Int)) 41 (Y * 3 + b) (t : Int)) 91 0 0) 102 b (s : Int)) 103 b (t : Int)) 91 1 0) 91 2 (-1)) 40 (Y * 3 + b) = s := by
                rw [zu_c (by decide), zu_c (by decide), zu_c (by decide), zu_c (by decide), zu_c (by decide), zu_c (by decide), zu_at]
              have v3 : (zu (zu (zu (zu (zu (zu (zu (zu h 0 11 0) 40 (Y * 3 + b) (s : Int)) 41 (Y * 3 + b) (t : Int)) 91 0 0) 102 b (s : Int)) 103 b (t : Int)) 91 1 0) 91 2 (-1)) 41 (Y * 3 + b) = t := by
                rw [zu_c (by decide), zu_c (by decide), zu_c (by decide), zu_c (by decide), zu_c (by decide), zu_at]
              have v4 : (zu (zu (zu (zu (zu (zu (zu (zu h 0 11 0) 40 (Y * 3 + b) (s : Int)) 41 (Y * 3 + b) (t : Int)) 91 0 0) 102 b (s : Int)) 103 b (t : Int)) 91 1 0) 91 2 (-1)) 102 b = s := by
                rw [zu_c (by decide), zu_c (by decide), zu_c (by decide), zu_at]
              have v5 : (zu (zu (zu (zu (zu (zu (zu (zu h 0 11 0) 40 (Y * 3 + b) (s : Int)) 41 (Y * 3 + b) (t : Int)) 91 0 0) 102 b (s : Int)) 103 b (t : Int)) 91 1 0) 91 2 (-1)) 103 b = t := by
                rw [zu_c (by decide), zu_c (by decide), zu_at]
              have v6 : (zu (zu (zu (zu (zu (zu (zu (zu h 0 11 0) 40 (Y * 3 + b) (s : Int)) 41 (Y * 3 + b) (t : Int)) 91 0 0) 102 b (s : Int)) 103 b (t : Int)) 91 1 0) 91 2 (-1)) 91 1 = 0 := by
                rw [zu_i (by decide), zu_at]
              have v7 : (zu (zu (zu (zu (zu (zu (zu (zu h 0 11 0) 40 (Y * 3 + b) (s : Int)) 41 (Y * 3 + b) (t : Int)) 91 0 0) 102 b (s : Int)) 103 b (t : Int)) 91 1 0) 91 2 (-1)) 91 2 = -1 := zu_at
              generalize (zu (zu (zu (zu (zu (zu (zu (zu h 0 11 0) 40 (Y * 3 + b) (s : Int)) 41 (Y * 3 + b) (t : Int)) 91 0 0) 102 b (s : Int)) 103 b (t : Int)) 91 1 0) 91 2 (-1)) = h2 at fr v1 v2 v3 v4 v5 v6 v7 ⊢
              refine ⟨hg, I1_fr hI.2.1 (fr _ _ (by omega) (by omega) (by omega) (by omega) (by omega) (by omega)) (fun i => fr _ _ (by omega) (by omega) (by omega) (by omega) (by omega) (by omega)) (fr _ _ (by omega) (by omega) (by omega) (by omega) (by omega) (by omega)) (fun i => fr _ _ (by omega) (by omega) (by omega) (by omega) (by omega) (by omega)), I2_ok hI.2.2.1 v1 v6 v7 (fr _ _ (by omega) (by omega) (by omega) (by omega) (by omega) (by omega)) (fr _ _ (by omega) (by omega) (by omega) (by omega) (by omega) (by omega)), Or.inr ⟨u, T, Y, hu, hu2, hw, kT_frame kt (fun c i _ _ => fr _ _ (by omega) (by omega) (by omega) (by omega) (by omega) (by omega)), rT_frame rt (fun c i _ => fr _ _ (by omega) (by omega) (by omega) (by omega) (by omega) (by omega)), ?_, I5_fr i5 (fun c i _ _ => fr _ _ (by omega) (by omega) (by omega) (by omega) (by omega) (by omega)) (fr _ _ (by omega) (by omega) (by omega) (by omega) (by omega) (by omega)) (fun c i _ _ => fr _ _ (by omega) (by omega) (by omega) (by omega) (by omega) (by omega))⟩⟩
              exact I4_ask hw i4 hb (by omega) (by omega) (fun q => by omega) (fun c i _ _ _ _ => fr _ _ (by omega) (by omega) (by omega) (by omega) (by omega) (by omega)) v2 v3 (fr _ _ (by omega) (by omega) (by omega) (by omega) (by omega) (by omega)) (fr _ _ (by omega) (by omega) (by omega) (by omega) (by omega) (by omega)) (fun i _ => fr _ _ (by omega) (by omega) (by omega) (by omega) (by omega) (by omega)) v4 v5 (fun c i _ _ _ _ => fr _ _ (by omega) (by omega) (by omega) (by omega) (by omega) (by omega))
            rw [r159]
            by_cases t0 : tw T = 0
            · have t1 : (t : Int) = s := by omega
              rw [t1] at v v2 fin ⊢
              simp only [e159_0, e159_1, e159_2, e159_5, e159_6, e159_7, e159_10, e159_13, e159_14, e159_15, e159_18, e159_19, e159_20, e159_21, e159_24, e159_27, e159_28, e159_29, e159_32, e159_35, e159_36, e159_37, e159_40, e159_41, e159_42, e159_45, e159_48, e159_51, e159_52, e159_53, e159_56, e159_57, e159_58, e159_61, e159_62, e159_63, e159_66, e159_67, e159_68, e159_69, e159_70, e159_73, e159_74, e159_75, e159_76, e159_77, e159_80, zs0, zsI, zsL, zsR, ztl1, ztl0, zc0, zcI, zcL, zcR, true_and, and_true, true_implies, false_implies, implies_true, not_true_eq_false, not_false_eq_true, and_self, Int.toNat_natCast, Nat.reduceAdd, Nat.reduceLeDiff, Nat.reduceLT, forall_eq', Option.some.injEq, zarR, zarI, zarL, zle, zq0, zq1, zq2, zq3, zq4, zq5, zq6, zq8, zq9, zq10, zq20, zq7, zq12, zq24, zq40, zq41, zq48, zq100, zq120, zq123, zq480, zq492, zq700, zq729, zq2187, zq2916, zq8748, ne_eq, Int.reduceEq, Int.reduceLT, Int.reduceLE, Int.reduceToNat, Int.reduceMul, Int.reduceAdd, Int.reduceNeg, gk91 hg, gr91_5 hg, gr91_22 hg, gr91_23 hg, gr91_24 hg, gr91_25 hg, gr91_26 hg, gr91_27 hg, gr91_28 hg, gr91_29 hg, gr91_32 hg, gr91_33 hg, gr91_34 hg, gr91_35 hg, gr91_36 hg, gr91_37 hg, gr91_38 hg, gr91_39 hg, gr91_40 hg, gr91_41 hg, gr91_42 hg, gr91_44 hg, gr91_45 hg, gr91_46 hg, gr91_48 hg, gr91_49 hg, gr91_50 hg, gr91_51 hg, gr91_52 hg, gk102 hg, gl102 hg, gk103 hg, gl103 hg, or_true, true_or, if_true, if_false, false_and, and_false, false_or, or_false, hu, m_isBaker hg hk, m_isStep hg hu, mF_z hk (show 91 < 121 by decide), mF_z hk (show 41 < 121 by decide), mF_z hk (show 40 < 121 by decide), mF_z hk (show 0 < 121 by decide), mb, e, zu_c n9, v, v2, l, o, t0, b3, m_granted hg]
              exact fin
            · simp only [e159_0, e159_1, e159_2, e159_5, e159_6, e159_7, e159_10, e159_13, e159_14, e159_15, e159_18, e159_19, e159_20, e159_21, e159_24, e159_27, e159_28, e159_29, e159_32, e159_35, e159_36, e159_37, e159_40, e159_41, e159_42, e159_45, e159_48, e159_51, e159_52, e159_53, e159_56, e159_57, e159_58, e159_61, e159_62, e159_63, e159_66, e159_67, e159_68, e159_69, e159_70, e159_73, e159_74, e159_75, e159_76, e159_77, e159_80, zs0, zsI, zsL, zsR, ztl1, ztl0, zc0, zcI, zcL, zcR, true_and, and_true, true_implies, false_implies, implies_true, not_true_eq_false, not_false_eq_true, and_self, Int.toNat_natCast, Nat.reduceAdd, Nat.reduceLeDiff, Nat.reduceLT, forall_eq', Option.some.injEq, zarR, zarI, zarL, zle, zq0, zq1, zq2, zq3, zq4, zq5, zq6, zq8, zq9, zq10, zq20, zq7, zq12, zq24, zq40, zq41, zq48, zq100, zq120, zq123, zq480, zq492, zq700, zq729, zq2187, zq2916, zq8748, ne_eq, Int.reduceEq, Int.reduceLT, Int.reduceLE, Int.reduceToNat, Int.reduceMul, Int.reduceAdd, Int.reduceNeg, gk91 hg, gr91_5 hg, gr91_22 hg, gr91_23 hg, gr91_24 hg, gr91_25 hg, gr91_26 hg, gr91_27 hg, gr91_28 hg, gr91_29 hg, gr91_32 hg, gr91_33 hg, gr91_34 hg, gr91_35 hg, gr91_36 hg, gr91_37 hg, gr91_38 hg, gr91_39 hg, gr91_40 hg, gr91_41 hg, gr91_42 hg, gr91_44 hg, gr91_45 hg, gr91_46 hg, gr91_48 hg, gr91_49 hg, gr91_50 hg, gr91_51 hg, gr91_52 hg, gk102 hg, gl102 hg, gk103 hg, gl103 hg, or_true, true_or, if_true, if_false, false_and, and_false, false_or, or_false, hu, m_isBaker hg hk, m_isStep hg hu, mF_z hk (show 91 < 121 by decide), mF_z hk (show 41 < 121 by decide), mF_z hk (show 40 < 121 by decide), mF_z hk (show 0 < 121 by decide), mb, e, zu_c n9, v, v2, l, o, t0, b3, m_granted hg]
              exact fin
      · exact bad (Or.inr ⟨l, o⟩)
    · exact bad (Or.inl l)
  · refine PR_q (z := 0) (tr := 1) hI (by decide) ?_ ?_
    · intro Q K
      rw [r64]
      simp only [e64_0, e64_1, e64_2, e64_5, e64_8, e64_9, e64_10, e64_13, e64_14, e64_15, e64_16, e64_17, e64_20, e64_23, e64_24, e64_25, e64_28, e64_31, e64_32, e64_33, e64_36, e64_37, e64_38, e64_39, e64_42, e64_45, e64_48, e64_49, e64_50, e64_53, e64_54, e64_55, e64_58, e64_59, e64_60, e64_61, e64_62, e64_65, e64_66, e64_69, e64_72, e64_73, e64_76, e64_77, e64_80, e64_81, e64_82, e64_83, e64_86, e64_89, e64_90, e64_93, e64_94, e64_97, e64_98, e64_99, e64_100, zs0, zsI, zsL, zsR, ztl1, ztl0, zc0, zcI, zcL, zcR, true_and, and_true, true_implies, false_implies, implies_true, not_true_eq_false, not_false_eq_true, and_self, Int.toNat_natCast, Nat.reduceAdd, Nat.reduceLeDiff, Nat.reduceLT, forall_eq', Option.some.injEq, zarR, zarI, zarL, zle, zq0, zq1, zq2, zq3, zq4, zq5, zq6, zq8, zq9, zq10, zq20, zq7, zq12, zq24, zq40, zq41, zq48, zq100, zq120, zq123, zq480, zq492, zq700, zq729, zq2187, zq2916, zq8748, ne_eq, Int.reduceEq, Int.reduceLT, Int.reduceLE, Int.reduceToNat, Int.reduceMul, Int.reduceAdd, Int.reduceNeg, gk0 hg, gr0_0 hg, gr0_2 hg, gr0_3 hg, gr0_4 hg, gr0_5 hg, gr0_6 hg, gr0_7 hg, gr0_8 hg, gr0_9 hg, gr0_10 hg, or_true, true_or, if_true, if_false, false_and, and_false, false_or, or_false, f_isBaker hg, e]
      exact K _ cfr.z zu_at
    · intro h1 f1 Q K
      rw [r159]
      simp only [e159_0, e159_1, e159_2, e159_5, e159_6, e159_7, e159_10, e159_13, e159_14, e159_15, e159_18, e159_19, e159_20, e159_21, e159_24, e159_27, e159_28, e159_29, e159_32, e159_35, e159_36, e159_37, e159_40, e159_41, e159_42, e159_45, e159_48, e159_51, e159_52, e159_53, e159_56, e159_57, e159_58, e159_61, e159_62, e159_63, e159_66, e159_67, e159_68, e159_69, e159_70, e159_73, e159_74, e159_75, e159_76, e159_77, e159_80, zs0, zsI, zsL, zsR, ztl1, ztl0, zc0, zcI, zcL, zcR, true_and, and_true, true_implies, false_implies, implies_true, not_true_eq_false, not_false_eq_true, and_self, Int.toNat_natCast, Nat.reduceAdd, Nat.reduceLeDiff, Nat.reduceLT, forall_eq', Option.some.injEq, zarR, zarI, zarL, zle, zq0, zq1, zq2, zq3, zq4, zq5, zq6, zq8, zq9, zq10, zq20, zq7, zq12, zq24, zq40, zq41, zq48, zq100, zq120, zq123, zq480, zq492, zq700, zq729, zq2187, zq2916, zq8748, ne_eq, Int.reduceEq, Int.reduceLT, Int.reduceLE, Int.reduceToNat, Int.reduceMul, Int.reduceAdd, Int.reduceNeg, gk91 hg, gr91_5 hg, gr91_22 hg, gr91_23 hg, gr91_24 hg, gr91_25 hg, gr91_26 hg, gr91_27 hg, gr91_28 hg, gr91_29 hg, gr91_32 hg, gr91_33 hg, gr91_34 hg, gr91_35 hg, gr91_36 hg, gr91_37 hg, gr91_38 hg, gr91_39 hg, gr91_40 hg, gr91_41 hg, gr91_42 hg, gr91_44 hg, gr91_45 hg, gr91_46 hg, gr91_48 hg, gr91_49 hg, gr91_50 hg, gr91_51 hg, gr91_52 hg, or_true, true_or, if_true, if_false, false_and, and_false, false_or, or_false, m_isBaker hg hk, mF_z hk (show 91 < 121 by decide), mF_fr hk f1, mb, e, m_denied hg]
      exact K _ mEnd.1 mEnd.2.1 mEnd.2.2
end UP
