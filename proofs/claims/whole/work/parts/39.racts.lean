/-- the acts as the other side counts them -/
def rA (h : zM) (T : aTn) (ac : Nat → Nat) : Prop := ∀ b, b < nB T → (if (b : Int) = h 91 20 then h 91 21 + 1 else (nP T : Int)) * (if tw T = 0 then 1 else (nP T : Int)) = (ac b : Nat) ∧ 0 ≤ h 91 21 ∧ h 91 21 ≤ 2
def uP (ac : Nat → Nat) (b : Nat) : Nat → Nat
  | 0 => 1
  | j + 1 => uP ac b j * ac (b + j)
theorem uP_tg {T : aTn} (hw : wT T) (ac : Nat → Nat) : uP ac 0 (nB T) = tg ac (nB T) := by
  have h1 := hw.1
  have h2 : nB T = 2 ∨ nB T = 3 := by omega
  rcases h2 with h2 | h2
  · rw [h2]
    show 1 * ac (0 + 0) * ac (0 + 1) = 1 * ac (2 - 1 - 0) * ac (2 - 1 - 1)
    rw [Nat.one_mul, Nat.one_mul]
    exact Nat.mul_comm _ _
  · rw [h2]
    show 1 * ac (0 + 0) * ac (0 + 1) * ac (0 + 2) = 1 * ac (3 - 1 - 0) * ac (3 - 1 - 1) * ac (3 - 1 - 2)
    rw [Nat.one_mul, Nat.one_mul]
    show ac 0 * ac 1 * ac 2 = ac 2 * ac 1 * ac 0
    rw [Nat.mul_assoc, Nat.mul_comm (ac 0), Nat.mul_comm (ac 1)]
theorem uP_sd {T : aTn} (hw : wT T) (ac : Nat → Nat) {b : Nat} (hb : b < nB T) : uP ac (b + 1) (nB T - 1 - b) = sd ac (nB T) b := by
  have h1 := hw.1
  have h2 : nB T = 2 ∨ nB T = 3 := by omega
  rcases h2 with h2 | h2
  · rw [h2]
    have h3 : b = 0 ∨ b = 1 := by omega
    rcases h3 with rfl | rfl
    · rfl
    · rfl
  · rw [h2]
    have h3 : b = 0 ∨ b = 1 ∨ b = 2 := by omega
    rcases h3 with rfl | rfl | rfl
    · show 1 * ac (0 + 1 + 0) * ac (0 + 1 + 1) = 1 * ac (3 - 1 - 0) * ac (3 - 1 - 1)
      rw [Nat.one_mul, Nat.one_mul]
      exact Nat.mul_comm _ _
    · rfl
    · rfl
theorem uP_b {ac : Nat → Nat} (hc : ∀ b, ac b ≤ 9) (b j : Nat) (hj : j ≤ 3) : uP ac b j ≤ 729 := by
  have q0 := hc (b + 0)
  have q1 := hc (b + 1)
  have q2 := hc (b + 2)
  have e2 : 1 * ac (b + 0) * ac (b + 1) ≤ 9 * 9 := Nat.mul_le_mul (by omega) q1
  have e3 : 1 * ac (b + 0) * ac (b + 1) * ac (b + 2) ≤ 81 * 9 := Nat.mul_le_mul (by omega) q2
  have hj' : j = 0 ∨ j = 1 ∨ j = 2 ∨ j = 3 := by omega
  rcases hj' with rfl | rfl | rfl | rfl
  · show 1 ≤ 729
    decide
  · show 1 * ac (b + 0) ≤ 729
    omega
  · show 1 * ac (b + 0) * ac (b + 1) ≤ 729
    omega
  · show 1 * ac (b + 0) * ac (b + 1) * ac (b + 2) ≤ 729
    omega
section RA
variable {d : Nat} {Q : zQ} {G : zG} {h : zM} {T : aTn} {ac : Nat → Nat} {u : Nat}
theorem m_actsOf (hg : gS G) (hu : gU G u) (hV : rV h u T) (hw : wT T) (hA : rA h T ac) {b : Nat} (hb : b < nB T) : zRunD ztb zmt' (d + 1) 169 [zR (some 91), zI b] G h Q ↔ Q (some (zI (ac b : Nat))) G h := by
  rw [r169]
  have hP := hw.2.2.1
  obtain ⟨e0, e1, e2⟩ := hA b hb
  have e3 := hV.2.2.1
  have e4 := hV.2.2.2.2.1
  have h3 : nP T = 1 ∨ nP T = 2 ∨ nP T = 3 := by omega
  have key : ∀ x : Int, 0 ≤ x ∧ x ≤ 3 → x * (if tw T = 0 then 1 else (nP T : Int)) = (ac b : Nat) → (zE 169 d Q 24 [some (zR (some 91)), some (zI b), none] [zI x] G h (0, 0) ↔ Q (some (zI (ac b : Nat))) G h) := by
    intro x hx he
    by_cases c : tw T = 0
    · rw [if_pos c, Int.mul_one] at he
      simp only [e169_0, e169_1, e169_2, e169_5, e169_8, e169_9, e169_12, e169_13, e169_14, e169_17, e169_18, e169_21, e169_24, e169_25, e169_26, e169_29, e169_32, e169_33, e169_34, e169_37, e169_40, e169_41, e169_44, e169_45, zs0, zsI, zsL, zsR, ztl1, ztl0, zc0, zcI, zcL, zcR, true_and, and_true, true_implies, false_implies, implies_true, not_true_eq_false, not_false_eq_true, and_self, Int.toNat_natCast, Nat.reduceAdd, Nat.reduceLeDiff, Nat.reduceLT, forall_eq', Option.some.injEq, zarR, zarI, zarL, zle, zq0, zq1, zq2, zq3, zq4, zq5, zq6, zq8, zq9, zq10, zq20, zq7, zq12, zq24, zq40, zq41, zq48, zq100, zq120, zq123, zq480, zq492, zq700, zq729, zq2187, zq2916, zq8748, ne_eq, Int.reduceEq, Int.reduceLT, Int.reduceLE, Int.reduceToNat, Int.reduceMul, Int.reduceAdd, Int.reduceNeg, gk91 hg, gr91_5 hg, gr91_22 hg, gr91_23 hg, gr91_24 hg, gr91_25 hg, gr91_26 hg, gr91_27 hg, gr91_28 hg, gr91_29 hg, gr91_32 hg, gr91_33 hg, gr91_34 hg, gr91_35 hg, gr91_36 hg, gr91_37 hg, gr91_38 hg, gr91_39 hg, gr91_40 hg, gr91_41 hg, gr91_42 hg, gr91_44 hg, gr91_45 hg, gr91_46 hg, gr91_48 hg, gr91_49 hg, gr91_50 hg, gr91_51 hg, gr91_52 hg, e4, c, he]
    · rw [if_neg c] at he
      have q : wr (x * (nP T : Int)) = x * (nP T : Int) := by
        apply wr_id
        rcases h3 with h3 | h3 | h3 <;> rw [h3] <;> omega
      rw [he] at q
      simp only [e169_0, e169_1, e169_2, e169_5, e169_8, e169_9, e169_12, e169_13, e169_14, e169_17, e169_18, e169_21, e169_24, e169_25, e169_26, e169_29, e169_32, e169_33, e169_34, e169_37, e169_40, e169_41, e169_44, e169_45, zs0, zsI, zsL, zsR, ztl1, ztl0, zc0, zcI, zcL, zcR, true_and, and_true, true_implies, false_implies, implies_true, not_true_eq_false, not_false_eq_true, and_self, Int.toNat_natCast, Nat.reduceAdd, Nat.reduceLeDiff, Nat.reduceLT, forall_eq', Option.some.injEq, zarR, zarI, zarL, zle, zq0, zq1, zq2, zq3, zq4, zq5, zq6, zq8, zq9, zq10, zq20, zq7, zq12, zq24, zq40, zq41, zq48, zq100, zq120, zq123, zq480, zq492, zq700, zq729, zq2187, zq2916, zq8748, ne_eq, Int.reduceEq, Int.reduceLT, Int.reduceLE, Int.reduceToNat, Int.reduceMul, Int.reduceAdd, Int.reduceNeg, gk91 hg, gr91_5 hg, gr91_22 hg, gr91_23 hg, gr91_24 hg, gr91_25 hg, gr91_26 hg, gr91_27 hg, gr91_28 hg, gr91_29 hg, gr91_32 hg, gr91_33 hg, gr91_34 hg, gr91_35 hg, gr91_36 hg, gr91_37 hg, gr91_38 hg, gr91_39 hg, gr91_40 hg, gr91_41 hg, gr91_42 hg, gr91_44 hg, gr91_45 hg, gr91_46 hg, gr91_48 hg, gr91_49 hg, gr91_50 hg, gr91_51 hg, gr91_52 hg, hu, e4, e3, c, he, q]
  by_cases c : (b : Int) = h 91 20
  · rw [if_pos c] at e0
    have k1 := key (h 91 21 + 1) (by omega) e0
    rw [← wr_id (z := h 91 21 + 1) (by omega)] at k1
    simp only [e169_0, e169_1, e169_2, e169_5, e169_8, e169_9, e169_12, e169_13, e169_14, e169_17, e169_18, e169_21, e169_25, e169_26, e169_29, e169_32, e169_33, e169_34, e169_37, e169_40, e169_41, e169_44, e169_45, zs0, zsI, zsL, zsR, ztl1, ztl0, zc0, zcI, zcL, zcR, true_and, and_true, true_implies, false_implies, implies_true, not_true_eq_false, not_false_eq_true, and_self, Int.toNat_natCast, Nat.reduceAdd, Nat.reduceLeDiff, Nat.reduceLT, forall_eq', Option.some.injEq, zarR, zarI, zarL, zle, zq0, zq1, zq2, zq3, zq4, zq5, zq6, zq8, zq9, zq10, zq20, zq7, zq12, zq24, zq40, zq41, zq48, zq100, zq120, zq123, zq480, zq492, zq700, zq729, zq2187, zq2916, zq8748, ne_eq, Int.reduceEq, Int.reduceLT, Int.reduceLE, Int.reduceToNat, Int.reduceMul, Int.reduceAdd, Int.reduceNeg, gk91 hg, gr91_5 hg, gr91_22 hg, gr91_23 hg, gr91_24 hg, gr91_25 hg, gr91_26 hg, gr91_27 hg, gr91_28 hg, gr91_29 hg, gr91_32 hg, gr91_33 hg, gr91_34 hg, gr91_35 hg, gr91_36 hg, gr91_37 hg, gr91_38 hg, gr91_39 hg, gr91_40 hg, gr91_41 hg, gr91_42 hg, gr91_44 hg, gr91_45 hg, gr91_46 hg, gr91_48 hg, gr91_49 hg, gr91_50 hg, gr91_51 hg, gr91_52 hg, c] at k1 ⊢
    exact k1
  · rw [if_neg c] at e0
    have k1 := key (nP T) (by omega) e0
    simp only [e169_0, e169_1, e169_2, e169_5, e169_8, e169_9, e169_12, e169_13, e169_14, e169_17, e169_18, e169_21, e169_25, e169_26, e169_29, e169_32, e169_33, e169_34, e169_37, e169_40, e169_41, e169_44, e169_45, zs0, zsI, zsL, zsR, ztl1, ztl0, zc0, zcI, zcL, zcR, true_and, and_true, true_implies, false_implies, implies_true, not_true_eq_false, not_false_eq_true, and_self, Int.toNat_natCast, Nat.reduceAdd, Nat.reduceLeDiff, Nat.reduceLT, forall_eq', Option.some.injEq, zarR, zarI, zarL, zle, zq0, zq1, zq2, zq3, zq4, zq5, zq6, zq8, zq9, zq10, zq20, zq7, zq12, zq24, zq40, zq41, zq48, zq100, zq120, zq123, zq480, zq492, zq700, zq729, zq2187, zq2916, zq8748, ne_eq, Int.reduceEq, Int.reduceLT, Int.reduceLE, Int.reduceToNat, Int.reduceMul, Int.reduceAdd, Int.reduceNeg, gk91 hg, gr91_5 hg, gr91_22 hg, gr91_23 hg, gr91_24 hg, gr91_25 hg, gr91_26 hg, gr91_27 hg, gr91_28 hg, gr91_29 hg, gr91_32 hg, gr91_33 hg, gr91_34 hg, gr91_35 hg, gr91_36 hg, gr91_37 hg, gr91_38 hg, gr91_39 hg, gr91_40 hg, gr91_41 hg, gr91_42 hg, gr91_44 hg, gr91_45 hg, gr91_46 hg, gr91_48 hg, gr91_49 hg, gr91_50 hg, gr91_51 hg, gr91_52 hg, hu, c, e3]
    exact k1
theorem m_allActs (hg : gS G) (hu : gU G u) (hV : rV h u T) (hw : wT T) (hc : acOk T ac) (hA : rA h T ac) : zRunD ztb zmt' (d + 2) 170 [zR (some 91)] G h Q ↔ Q (some (zI (tg ac (nB T) : Nat))) G h := by
  rw [r170]
  have hB := hw.1
  have e1 := hV.1
  have nb := nA_b hw
  have c9 : ∀ b, ac b ≤ 9 := fun b => by have := hc b; omega
  have lp : ∀ j b, b + j = nB T → (zE 170 (d + 1) Q 4 [some (zR (some 91)), some (zI (uP ac 0 b : Nat)), some (zI b)] [] G h (0, 0) ↔ Q (some (zI (tg ac (nB T) : Nat))) G h) := by
    intro j
    induction j with
    | zero =>
      intro b hb
      have hb' : b = nB T := by omega
      subst hb'
      rw [e170_4]
      simp only [e170_0, e170_1, e170_2, e170_3, e170_5, e170_6, e170_9, e170_12, e170_15, e170_16, e170_17, e170_18, e170_21, e170_22, e170_23, e170_26, e170_29, e170_30, zs0, zsI, zsL, zsR, ztl1, ztl0, zc0, zcI, zcL, zcR, true_and, and_true, true_implies, false_implies, implies_true, not_true_eq_false, not_false_eq_true, and_self, Int.toNat_natCast, Nat.reduceAdd, Nat.reduceLeDiff, Nat.reduceLT, forall_eq', Option.some.injEq, zarR, zarI, zarL, zle, zq0, zq1, zq2, zq3, zq4, zq5, zq6, zq8, zq9, zq10, zq20, zq7, zq12, zq24, zq40, zq41, zq48, zq100, zq120, zq123, zq480, zq492, zq700, zq729, zq2187, zq2916, zq8748, ne_eq, Int.reduceEq, Int.reduceLT, Int.reduceLE, Int.reduceToNat, Int.reduceMul, Int.reduceAdd, Int.reduceNeg, gk91 hg, gr91_5 hg, gr91_22 hg, gr91_23 hg, gr91_24 hg, gr91_25 hg, gr91_26 hg, gr91_27 hg, gr91_28 hg, gr91_29 hg, gr91_32 hg, gr91_33 hg, gr91_34 hg, gr91_35 hg, gr91_36 hg, gr91_37 hg, gr91_38 hg, gr91_39 hg, gr91_40 hg, gr91_41 hg, gr91_42 hg, gr91_44 hg, gr91_45 hg, gr91_46 hg, gr91_48 hg, gr91_49 hg, gr91_50 hg, gr91_51 hg, gr91_52 hg, hu, e1, Int.le_refl, uP_tg hw]
    | succ j ih =>
      intro b hb
      have c : ¬ (nB T : Int) ≤ b := by omega
      have q1 : ∀ Q' : zQ, zRunD ztb zmt' (d + 1) 169 [zR (some 91), zI b] G h Q' ↔ Q' (some (zI (ac b : Nat))) G h := fun Q' => m_actsOf hg hu hV hw hA (by omega)
      have e2 : uP ac 0 (b + 1) = uP ac 0 b * ac b := by
        rw [uP, Nat.zero_add]
      have b2 := uP_b c9 0 (b + 1) (by omega)
      have m1 : ((uP ac 0 b : Nat) : Int) * ((ac b : Nat) : Int) = ((uP ac 0 (b + 1) : Nat) : Int) := by
        rw [e2, Int.natCast_mul]
      rw [e170_4]
      simp only [e170_0, e170_1, e170_2, e170_3, e170_5, e170_6, e170_9, e170_12, e170_15, e170_16, e170_17, e170_18, e170_21, e170_22, e170_23, e170_26, e170_29, e170_30, zs0, zsI, zsL, zsR, ztl1, ztl0, zc0, zcI, zcL, zcR, true_and, and_true, true_implies, false_implies, implies_true, not_true_eq_false, not_false_eq_true, and_self, Int.toNat_natCast, Nat.reduceAdd, Nat.reduceLeDiff, Nat.reduceLT, forall_eq', Option.some.injEq, zarR, zarI, zarL, zle, zq0, zq1, zq2, zq3, zq4, zq5, zq6, zq8, zq9, zq10, zq20, zq7, zq12, zq24, zq40, zq41, zq48, zq100, zq120, zq123, zq480, zq492, zq700, zq729, zq2187, zq2916, zq8748, ne_eq, Int.reduceEq, Int.reduceLT, Int.reduceLE, Int.reduceToNat, Int.reduceMul, Int.reduceAdd, Int.reduceNeg, gk91 hg, gr91_5 hg, gr91_22 hg, gr91_23 hg, gr91_24 hg, gr91_25 hg, gr91_26 hg, gr91_27 hg, gr91_28 hg, gr91_29 hg, gr91_32 hg, gr91_33 hg, gr91_34 hg, gr91_35 hg, gr91_36 hg, gr91_37 hg, gr91_38 hg, gr91_39 hg, gr91_40 hg, gr91_41 hg, gr91_42 hg, gr91_44 hg, gr91_45 hg, gr91_46 hg, gr91_48 hg, gr91_49 hg, gr91_50 hg, gr91_51 hg, gr91_52 hg, hu, e1, c, q1, m1, wrN (z := ((uP ac 0 (b + 1) : Nat) : Int)) (m := uP ac 0 (b + 1)) rfl (by omega), wr_s (show b < 2147483647 by omega)]
      exact ih (b + 1) (by omega)
  simp only [e170_0, e170_1, e170_2, e170_3, e170_5, e170_6, e170_9, e170_12, e170_15, e170_16, e170_17, e170_18, e170_21, e170_22, e170_23, e170_26, e170_29, e170_30, zs0, zsI, zsL, zsR, ztl1, ztl0, zc0, zcI, zcL, zcR, true_and, and_true, true_implies, false_implies, implies_true, not_true_eq_false, not_false_eq_true, and_self, Int.toNat_natCast, Nat.reduceAdd, Nat.reduceLeDiff, Nat.reduceLT, forall_eq', Option.some.injEq, zarR, zarI, zarL, zle, zq0, zq1, zq2, zq3, zq4, zq5, zq6, zq8, zq9, zq10, zq20, zq7, zq12, zq24, zq40, zq41, zq48, zq100, zq120, zq123, zq480, zq492, zq700, zq729, zq2187, zq2916, zq8748, ne_eq, Int.reduceEq, Int.reduceLT, Int.reduceLE, Int.reduceToNat, Int.reduceMul, Int.reduceAdd, Int.reduceNeg]
  exact lp (nB T) 0 (by omega)
theorem m_stride (hg : gS G) (hu : gU G u) (hV : rV h u T) (hw : wT T) (hc : acOk T ac) (hA : rA h T ac) {b : Nat} (hb : b < nB T) : zRunD ztb zmt' (d + 2) 172 [zR (some 91), zI b] G h Q ↔ Q (some (zI (sd ac (nB T) b : Nat))) G h := by
  rw [r172]
  have hB := hw.1
  have e1 := hV.1
  have nb := nA_b hw
  have c9 : ∀ b, ac b ≤ 9 := fun b => by have := hc b; omega
  have lp : ∀ j k, b + 1 + k + j = nB T → (zE 172 (d + 1) Q 6 [some (zR (some 91)), some (zI b), some (zI (uP ac (b + 1) k : Nat)), some (zI ((b + 1 + k : Nat) : Int))] [] G h (0, 0) ↔ Q (some (zI (sd ac (nB T) b : Nat))) G h) := by
    intro j
    induction j with
    | zero =>
      intro k hk
      have hk' : k = nB T - 1 - b := by omega
      have c : (nB T : Int) ≤ ((b + 1 + k : Nat) : Int) := by omega
      rw [e172_6]
      simp only [e172_0, e172_1, e172_2, e172_3, e172_4, e172_5, e172_7, e172_8, e172_11, e172_14, e172_17, e172_18, e172_19, e172_20, e172_23, e172_24, e172_25, e172_28, e172_31, e172_32, zs0, zsI, zsL, zsR, ztl1, ztl0, zc0, zcI, zcL, zcR, true_and, and_true, true_implies, false_implies, implies_true, not_true_eq_false, not_false_eq_true, and_self, Int.toNat_natCast, Nat.reduceAdd, Nat.reduceLeDiff, Nat.reduceLT, forall_eq', Option.some.injEq, zarR, zarI, zarL, zle, zq0, zq1, zq2, zq3, zq4, zq5, zq6, zq8, zq9, zq10, zq20, zq7, zq12, zq24, zq40, zq41, zq48, zq100, zq120, zq123, zq480, zq492, zq700, zq729, zq2187, zq2916, zq8748, ne_eq, Int.reduceEq, Int.reduceLT, Int.reduceLE, Int.reduceToNat, Int.reduceMul, Int.reduceAdd, Int.reduceNeg, gk91 hg, gr91_5 hg, gr91_22 hg, gr91_23 hg, gr91_24 hg, gr91_25 hg, gr91_26 hg, gr91_27 hg, gr91_28 hg, gr91_29 hg, gr91_32 hg, gr91_33 hg, gr91_34 hg, gr91_35 hg, gr91_36 hg, gr91_37 hg, gr91_38 hg, gr91_39 hg, gr91_40 hg, gr91_41 hg, gr91_42 hg, gr91_44 hg, gr91_45 hg, gr91_46 hg, gr91_48 hg, gr91_49 hg, gr91_50 hg, gr91_51 hg, gr91_52 hg, hu, e1, c]
      rw [hk', uP_sd hw ac hb]
    | succ j ih =>
      intro k hk
      have c : ¬ (nB T : Int) ≤ ((b + 1 + k : Nat) : Int) := by omega
      have q1 : ∀ Q' : zQ, zRunD ztb zmt' (d + 1) 169 [zR (some 91), zI ((b + 1 + k : Nat) : Int)] G h Q' ↔ Q' (some (zI (ac (b + 1 + k) : Nat))) G h := fun Q' => m_actsOf hg hu hV hw hA (by omega)
      have b2 := uP_b c9 (b + 1) (k + 1) (by omega)
      have m1 : ((uP ac (b + 1) k : Nat) : Int) * ((ac (b + 1 + k) : Nat) : Int) = ((uP ac (b + 1) (k + 1) : Nat) : Int) := by
        rw [uP, Int.natCast_mul]
      rw [e172_6]
      simp only [e172_0, e172_1, e172_2, e172_3, e172_4, e172_5, e172_7, e172_8, e172_11, e172_14, e172_17, e172_18, e172_19, e172_20, e172_23, e172_24, e172_25, e172_28, e172_31, e172_32, zs0, zsI, zsL, zsR, ztl1, ztl0, zc0, zcI, zcL, zcR, true_and, and_true, true_implies, false_implies, implies_true, not_true_eq_false, not_false_eq_true, and_self, Int.toNat_natCast, Nat.reduceAdd, Nat.reduceLeDiff, Nat.reduceLT, forall_eq', Option.some.injEq, zarR, zarI, zarL, zle, zq0, zq1, zq2, zq3, zq4, zq5, zq6, zq8, zq9, zq10, zq20, zq7, zq12, zq24, zq40, zq41, zq48, zq100, zq120, zq123, zq480, zq492, zq700, zq729, zq2187, zq2916, zq8748, ne_eq, Int.reduceEq, Int.reduceLT, Int.reduceLE, Int.reduceToNat, Int.reduceMul, Int.reduceAdd, Int.reduceNeg, gk91 hg, gr91_5 hg, gr91_22 hg, gr91_23 hg, gr91_24 hg, gr91_25 hg, gr91_26 hg, gr91_27 hg, gr91_28 hg, gr91_29 hg, gr91_32 hg, gr91_33 hg, gr91_34 hg, gr91_35 hg, gr91_36 hg, gr91_37 hg, gr91_38 hg, gr91_39 hg, gr91_40 hg, gr91_41 hg, gr91_42 hg, gr91_44 hg, gr91_45 hg, gr91_46 hg, gr91_48 hg, gr91_49 hg, gr91_50 hg, gr91_51 hg, gr91_52 hg, hu, e1, c, q1, m1, wrN (z := ((uP ac (b + 1) (k + 1) : Nat) : Int)) (m := uP ac (b + 1) (k + 1)) rfl (by omega), wr_s (show b + 1 + k < 2147483647 by omega)]
      exact ih (k + 1) (by omega)
  simp only [e172_0, e172_1, e172_2, e172_3, e172_4, e172_5, e172_7, e172_8, e172_11, e172_14, e172_17, e172_18, e172_19, e172_20, e172_23, e172_24, e172_25, e172_28, e172_31, e172_32, zs0, zsI, zsL, zsR, ztl1, ztl0, zc0, zcI, zcL, zcR, true_and, and_true, true_implies, false_implies, implies_true, not_true_eq_false, not_false_eq_true, and_self, Int.toNat_natCast, Nat.reduceAdd, Nat.reduceLeDiff, Nat.reduceLT, forall_eq', Option.some.injEq, zarR, zarI, zarL, zle, zq0, zq1, zq2, zq3, zq4, zq5, zq6, zq8, zq9, zq10, zq20, zq7, zq12, zq24, zq40, zq41, zq48, zq100, zq120, zq123, zq480, zq492, zq700, zq729, zq2187, zq2916, zq8748, ne_eq, Int.reduceEq, Int.reduceLT, Int.reduceLE, Int.reduceToNat, Int.reduceMul, Int.reduceAdd, Int.reduceNeg, wr_s (show b < 2147483647 by omega)]
  exact lp (nB T - 1 - b) 0 (by omega)
theorem m_ract (hg : gS G) (hu : gU G u) (hV : rV h u T) (hw : wT T) (hc : acOk T ac) (hA : rA h T ac) {all b : Nat} (hb : b < nB T) (ha : (all : Int) < 1000) : zRunD ztb zmt' (d + 3) 173 [zR (some 91), zI all, zI b] G h Q ↔ Q (some (zI (aAct ac (nB T) all b : Nat))) G h := by
  rw [r173]
  have s1 := sd_b hw hc b
  have s2 := hc b
  have q1 : ∀ Q' : zQ, zRunD ztb zmt' (d + 2) 172 [zR (some 91), zI b] G h Q' ↔ Q' (some (zI (sd ac (nB T) b : Nat))) G h := fun Q' => m_stride hg hu hV hw hc hA hb
  have q2 : ∀ Q' : zQ, zRunD ztb zmt' (d + 2) 169 [zR (some 91), zI b] G h Q' ↔ Q' (some (zI (ac b : Nat))) G h := fun Q' => m_actsOf (d := d + 1) hg hu hV hw hA hb
  have c3 : ¬ ((sd ac (nB T) b : Nat) : Int) = 0 := by omega
  have c4 : ¬ ((ac b : Nat) : Int) = 0 := by omega
  have e3 : wr ((all : Int).tdiv ((sd ac (nB T) b : Nat) : Int)) = ((all / sd ac (nB T) b : Nat) : Int) := by
    rw [Int.tdiv_eq_ediv_of_nonneg (by omega), ← Int.natCast_ediv]
    have h5 : all / sd ac (nB T) b ≤ all := Nat.div_le_self _ _
    generalize all / sd ac (nB T) b = q at h5 ⊢
    exact wr_id (by omega)
  have e4 : ((all / sd ac (nB T) b : Nat) : Int).tmod ((ac b : Nat) : Int) = ((aAct ac (nB T) all b : Nat) : Int) := by
    rw [Int.tmod_eq_emod_of_nonneg (Int.natCast_nonneg _), ← Int.natCast_emod]
    rfl
  simp only [e173_0, e173_1, e173_2, e173_3, e173_6, e173_7, e173_8, e173_9, e173_12, e173_13, zs0, zsI, zsL, zsR, ztl1, ztl0, zc0, zcI, zcL, zcR, true_and, and_true, true_implies, false_implies, implies_true, not_true_eq_false, not_false_eq_true, and_self, Int.toNat_natCast, Nat.reduceAdd, Nat.reduceLeDiff, Nat.reduceLT, forall_eq', Option.some.injEq, zarR, zarI, zarL, zle, zq0, zq1, zq2, zq3, zq4, zq5, zq6, zq8, zq9, zq10, zq20, zq7, zq12, zq24, zq40, zq41, zq48, zq100, zq120, zq123, zq480, zq492, zq700, zq729, zq2187, zq2916, zq8748, ne_eq, Int.reduceEq, Int.reduceLT, Int.reduceLE, Int.reduceToNat, Int.reduceMul, Int.reduceAdd, Int.reduceNeg, gk91 hg, gr91_5 hg, gr91_22 hg, gr91_23 hg, gr91_24 hg, gr91_25 hg, gr91_26 hg, gr91_27 hg, gr91_28 hg, gr91_29 hg, gr91_32 hg, gr91_33 hg, gr91_34 hg, gr91_35 hg, gr91_36 hg, gr91_37 hg, gr91_38 hg, gr91_39 hg, gr91_40 hg, gr91_41 hg, gr91_42 hg, gr91_44 hg, gr91_45 hg, gr91_46 hg, gr91_48 hg, gr91_49 hg, gr91_50 hg, gr91_51 hg, gr91_52 hg, q1, q2, c3, c4, e3, e4]
theorem m_old (hg : gS G) (hu : gU G u) (hV : rV h u T) (hw : wT T) {a : Nat} (ha : (a : Int) < 1000) : zRunD ztb zmt' (d + 1) 174 [zR (some 91), zI a] G h Q ↔ Q (some (zI (aOld T a : Nat))) G h := by
  rw [r174]
  have hP := hw.2.2.1
  have e1 := hV.2.2.1
  have e2 := hV.2.2.2.2.1
  have c3 : ¬ (nP T : Int) = 0 := by omega
  rcases hw.2.2.2.1 with c | c
  · simp only [e174_0, e174_1, e174_4, e174_7, e174_8, e174_9, e174_12, e174_15, e174_16, e174_19, e174_20, zs0, zsI, zsL, zsR, ztl1, ztl0, zc0, zcI, zcL, zcR, true_and, and_true, true_implies, false_implies, implies_true, not_true_eq_false, not_false_eq_true, and_self, Int.toNat_natCast, Nat.reduceAdd, Nat.reduceLeDiff, Nat.reduceLT, forall_eq', Option.some.injEq, zarR, zarI, zarL, zle, zq0, zq1, zq2, zq3, zq4, zq5, zq6, zq8, zq9, zq10, zq20, zq7, zq12, zq24, zq40, zq41, zq48, zq100, zq120, zq123, zq480, zq492, zq700, zq729, zq2187, zq2916, zq8748, ne_eq, Int.reduceEq, Int.reduceLT, Int.reduceLE, Int.reduceToNat, Int.reduceMul, Int.reduceAdd, Int.reduceNeg, gk91 hg, gr91_5 hg, gr91_22 hg, gr91_23 hg, gr91_24 hg, gr91_25 hg, gr91_26 hg, gr91_27 hg, gr91_28 hg, gr91_29 hg, gr91_32 hg, gr91_33 hg, gr91_34 hg, gr91_35 hg, gr91_36 hg, gr91_37 hg, gr91_38 hg, gr91_39 hg, gr91_40 hg, gr91_41 hg, gr91_42 hg, gr91_44 hg, gr91_45 hg, gr91_46 hg, gr91_48 hg, gr91_49 hg, gr91_50 hg, gr91_51 hg, gr91_52 hg, hu, e2, c, aOld]
    rfl
  · have e : wr ((a : Int).tdiv (nP T : Int)) = ((a / nP T : Nat) : Int) := by
      rw [Int.tdiv_eq_ediv_of_nonneg (by omega), ← Int.natCast_ediv]
      have h5 : a / nP T ≤ a := Nat.div_le_self _ _
      generalize a / nP T = q at h5 ⊢
      exact wr_id (by omega)
    simp only [e174_0, e174_1, e174_4, e174_7, e174_8, e174_9, e174_12, e174_15, e174_16, e174_19, e174_20, zs0, zsI, zsL, zsR, ztl1, ztl0, zc0, zcI, zcL, zcR, true_and, and_true, true_implies, false_implies, implies_true, not_true_eq_false, not_false_eq_true, and_self, Int.toNat_natCast, Nat.reduceAdd, Nat.reduceLeDiff, Nat.reduceLT, forall_eq', Option.some.injEq, zarR, zarI, zarL, zle, zq0, zq1, zq2, zq3, zq4, zq5, zq6, zq8, zq9, zq10, zq20, zq7, zq12, zq24, zq40, zq41, zq48, zq100, zq120, zq123, zq480, zq492, zq700, zq729, zq2187, zq2916, zq8748, ne_eq, Int.reduceEq, Int.reduceLT, Int.reduceLE, Int.reduceToNat, Int.reduceMul, Int.reduceAdd, Int.reduceNeg, gk91 hg, gr91_5 hg, gr91_22 hg, gr91_23 hg, gr91_24 hg, gr91_25 hg, gr91_26 hg, gr91_27 hg, gr91_28 hg, gr91_29 hg, gr91_32 hg, gr91_33 hg, gr91_34 hg, gr91_35 hg, gr91_36 hg, gr91_37 hg, gr91_38 hg, gr91_39 hg, gr91_40 hg, gr91_41 hg, gr91_42 hg, gr91_44 hg, gr91_45 hg, gr91_46 hg, gr91_48 hg, gr91_49 hg, gr91_50 hg, gr91_51 hg, gr91_52 hg, hu, e1, e2, c, c3, e, aOld, if_true]
theorem m_new (hg : gS G) (hu : gU G u) (hV : rV h u T) (hw : wT T) {a : Nat} : zRunD ztb zmt' (d + 1) 175 [zR (some 91), zI a] G h Q ↔ Q (some (zI (aNw T a : Nat))) G h := by
  rw [r175]
  have hP := hw.2.2.1
  have e1 := hV.2.2.1
  have e2 := hV.2.2.2.2.1
  have c3 : ¬ (nP T : Int) = 0 := by omega
  rcases hw.2.2.2.1 with c | c
  · simp only [e175_0, e175_1, e175_4, e175_7, e175_8, e175_9, e175_12, e175_15, e175_16, e175_19, e175_20, zs0, zsI, zsL, zsR, ztl1, ztl0, zc0, zcI, zcL, zcR, true_and, and_true, true_implies, false_implies, implies_true, not_true_eq_false, not_false_eq_true, and_self, Int.toNat_natCast, Nat.reduceAdd, Nat.reduceLeDiff, Nat.reduceLT, forall_eq', Option.some.injEq, zarR, zarI, zarL, zle, zq0, zq1, zq2, zq3, zq4, zq5, zq6, zq8, zq9, zq10, zq20, zq7, zq12, zq24, zq40, zq41, zq48, zq100, zq120, zq123, zq480, zq492, zq700, zq729, zq2187, zq2916, zq8748, ne_eq, Int.reduceEq, Int.reduceLT, Int.reduceLE, Int.reduceToNat, Int.reduceMul, Int.reduceAdd, Int.reduceNeg, gk91 hg, gr91_5 hg, gr91_22 hg, gr91_23 hg, gr91_24 hg, gr91_25 hg, gr91_26 hg, gr91_27 hg, gr91_28 hg, gr91_29 hg, gr91_32 hg, gr91_33 hg, gr91_34 hg, gr91_35 hg, gr91_36 hg, gr91_37 hg, gr91_38 hg, gr91_39 hg, gr91_40 hg, gr91_41 hg, gr91_42 hg, gr91_44 hg, gr91_45 hg, gr91_46 hg, gr91_48 hg, gr91_49 hg, gr91_50 hg, gr91_51 hg, gr91_52 hg, hu, e2, c, aNw]
    rfl
  · have e : (a : Int).tmod (nP T : Int) = ((a % nP T : Nat) : Int) := by
      rw [Int.tmod_eq_emod_of_nonneg (by omega), ← Int.natCast_emod]
    simp only [e175_0, e175_1, e175_4, e175_7, e175_8, e175_9, e175_12, e175_15, e175_16, e175_19, e175_20, zs0, zsI, zsL, zsR, ztl1, ztl0, zc0, zcI, zcL, zcR, true_and, and_true, true_implies, false_implies, implies_true, not_true_eq_false, not_false_eq_true, and_self, Int.toNat_natCast, Nat.reduceAdd, Nat.reduceLeDiff, Nat.reduceLT, forall_eq', Option.some.injEq, zarR, zarI, zarL, zle, zq0, zq1, zq2, zq3, zq4, zq5, zq6, zq8, zq9, zq10, zq20, zq7, zq12, zq24, zq40, zq41, zq48, zq100, zq120, zq123, zq480, zq492, zq700, zq729, zq2187, zq2916, zq8748, ne_eq, Int.reduceEq, Int.reduceLT, Int.reduceLE, Int.reduceToNat, Int.reduceMul, Int.reduceAdd, Int.reduceNeg, gk91 hg, gr91_5 hg, gr91_22 hg, gr91_23 hg, gr91_24 hg, gr91_25 hg, gr91_26 hg, gr91_27 hg, gr91_28 hg, gr91_29 hg, gr91_32 hg, gr91_33 hg, gr91_34 hg, gr91_35 hg, gr91_36 hg, gr91_37 hg, gr91_38 hg, gr91_39 hg, gr91_40 hg, gr91_41 hg, gr91_42 hg, gr91_44 hg, gr91_45 hg, gr91_46 hg, gr91_48 hg, gr91_49 hg, gr91_50 hg, gr91_51 hg, gr91_52 hg, hu, e1, e2, c, c3, e, aNw, if_true]
theorem m_pricesBy (hg : gS G) (hu : gU G u) (hV : rV h u T) (hw : wT T) (hc : acOk T ac) (hA : rA h T ac) {all : Nat} (ha : (all : Int) < 1000) (K : ∀ h' : zM, (∀ c i, ¬ c = 94 → ¬ c = 95 → h' c i = h c i) → (∀ b, b < nB T → h' 94 b = aOwn T ac all b) → (∀ b, b < nB T → h' 95 b = aOth T ac all b) → Q none G h') : zRunD ztb zmt' (d + 4) 176 [zR (some 91), zI all] G h Q := by
  rw [r176]
  have hB := hw.1
  have hP := hw.2.2.1
  have lp : ∀ j b (h1 : zM), b + j = nB T → (∀ c i, ¬ c = 94 → ¬ c = 95 → h1 c i = h c i) → (∀ b', b' < b → h1 94 b' = aOwn T ac all b') → (∀ b', b' < b → h1 95 b' = aOth T ac all b') → zE 176 (d + 3) Q 2 [some (zR (some 91)), some (zI all), some (zI b)] [] G h1 (0, 0) := by
    intro j
    induction j with
    | zero =>
      intro b h1 hb f0 f1 f2
      have hb' : b = nB T := by omega
      subst hb'
      have e1 : h1 u 0 = (nB T : Int) := by rw [f0 _ _ (by omega) (by omega)]; exact hV.1
      rw [e176_2]
      simp only [e176_0, e176_1, e176_3, e176_4, e176_7, e176_10, e176_13, e176_14, e176_17, e176_18, e176_19, e176_22, e176_25, e176_26, e176_27, e176_28, e176_29, e176_32, e176_35, e176_36, e176_37, e176_38, e176_41, e176_42, e176_43, e176_46, e176_49, e176_50, e176_51, e176_52, e176_53, e176_56, e176_59, e176_60, e176_61, e176_64, e176_67, zs0, zsI, zsL, zsR, ztl1, ztl0, zc0, zcI, zcL, zcR, true_and, and_true, true_implies, false_implies, implies_true, not_true_eq_false, not_false_eq_true, and_self, Int.toNat_natCast, Nat.reduceAdd, Nat.reduceLeDiff, Nat.reduceLT, forall_eq', Option.some.injEq, zarR, zarI, zarL, zle, zq0, zq1, zq2, zq3, zq4, zq5, zq6, zq8, zq9, zq10, zq20, zq7, zq12, zq24, zq40, zq41, zq48, zq100, zq120, zq123, zq480, zq492, zq700, zq729, zq2187, zq2916, zq8748, ne_eq, Int.reduceEq, Int.reduceLT, Int.reduceLE, Int.reduceToNat, Int.reduceMul, Int.reduceAdd, Int.reduceNeg, gk91 hg, gr91_5 hg, gr91_22 hg, gr91_23 hg, gr91_24 hg, gr91_25 hg, gr91_26 hg, gr91_27 hg, gr91_28 hg, gr91_29 hg, gr91_32 hg, gr91_33 hg, gr91_34 hg, gr91_35 hg, gr91_36 hg, gr91_37 hg, gr91_38 hg, gr91_39 hg, gr91_40 hg, gr91_41 hg, gr91_42 hg, gr91_44 hg, gr91_45 hg, gr91_46 hg, gr91_48 hg, gr91_49 hg, gr91_50 hg, gr91_51 hg, gr91_52 hg, hu, e1, Int.le_refl]
      exact K h1 f0 f1 f2
    | succ j ih =>
      intro b h1 hb f0 f1 f2
      have ex : ∀ h9 : zM, (∀ c i, ¬ c = 94 → ¬ c = 95 → h9 c i = h c i) → rV h9 u T ∧ rA h9 T ac := fun h9 g => ⟨rV_frame hV (fun c i q => g c i (by omega) (by omega)) (fun i => g _ _ (by decide) (by decide)) (fun i _ _ => g _ _ (by decide) (by decide)), fun b q => by rw [g 91 20 (by decide) (by decide), g 91 21 (by decide) (by decide)]; exact hA b q⟩
      obtain ⟨hV1, hA1⟩ := ex h1 f0
      have e1 := hV1.1
      have c : ¬ (nB T : Int) ≤ b := by omega
      have b3 : (b : Int) < 3 := by omega
      have a1 := aAct_b hc (nB T) all b
      have a2 := aOld_b hw a1
      have a3 := aNw_b hw a1
      have a4 := nA_b hw
      have o3 : ((aOld T (aAct ac (nB T) all b) : Nat) : Int) < 3 := by omega
      have n3 : ((aNw T (aAct ac (nB T) all b) : Nat) : Int) < 3 := by omega
      have q1 : ∀ (h9 : zM), (∀ c i, ¬ c = 94 → ¬ c = 95 → h9 c i = h c i) → ∀ Q' : zQ, zRunD ztb zmt' (d + 3) 173 [zR (some 91), zI all, zI b] G h9 Q' ↔ Q' (some (zI (aAct ac (nB T) all b : Nat))) G h9 := fun h9 g Q' => m_ract hg hu (ex h9 g).1 hw hc (ex h9 g).2 (by omega) ha
      have q2 : ∀ Q' : zQ, zRunD ztb zmt' (d + 3) 174 [zR (some 91), zI (aAct ac (nB T) all b : Nat)] G h1 Q' ↔ Q' (some (zI (aOld T (aAct ac (nB T) all b) : Nat))) G h1 := fun Q' => m_old (d := d + 2) hg hu hV1 hw (by omega)
      have e2 : h1 (u + 4) (aOld T (aAct ac (nB T) all b)) = aOwn T ac all b := hV1.2.2.2.2.2.2.2.1 _ a2
      have g2 : ∀ c i, ¬ c = 94 → ¬ c = 95 → zu h1 94 b (aOwn T ac all b) c i = h c i := fun c i p1 p2 => by rw [zu_c p1]; exact f0 c i p1 p2
      obtain ⟨hV2, hA2⟩ := ex _ g2
      have q3 : ∀ Q' : zQ, zRunD ztb zmt' (d + 3) 175 [zR (some 91), zI (aAct ac (nB T) all b : Nat)] G (zu h1 94 b (aOwn T ac all b)) Q' ↔ Q' (some (zI (aNw T (aAct ac (nB T) all b) : Nat))) G (zu h1 94 b (aOwn T ac all b)) := fun Q' => m_new (d := d + 2) hg hu hV2 hw
      have e3 : zu h1 94 b (aOwn T ac all b) (u + 4) (aNw T (aAct ac (nB T) all b)) = aOth T ac all b := hV2.2.2.2.2.2.2.2.1 _ a3
      rw [e176_2]
      simp only [e176_0, e176_1, e176_3, e176_4, e176_7, e176_10, e176_13, e176_14, e176_17, e176_18, e176_19, e176_22, e176_25, e176_26, e176_27, e176_28, e176_29, e176_32, e176_35, e176_36, e176_37, e176_38, e176_41, e176_42, e176_43, e176_46, e176_49, e176_50, e176_51, e176_52, e176_53, e176_56, e176_59, e176_60, e176_61, e176_64, e176_67, zs0, zsI, zsL, zsR, ztl1, ztl0, zc0, zcI, zcL, zcR, true_and, and_true, true_implies, false_implies, implies_true, not_true_eq_false, not_false_eq_true, and_self, Int.toNat_natCast, Nat.reduceAdd, Nat.reduceLeDiff, Nat.reduceLT, forall_eq', Option.some.injEq, zarR, zarI, zarL, zle, zq0, zq1, zq2, zq3, zq4, zq5, zq6, zq8, zq9, zq10, zq20, zq7, zq12, zq24, zq40, zq41, zq48, zq100, zq120, zq123, zq480, zq492, zq700, zq729, zq2187, zq2916, zq8748, ne_eq, Int.reduceEq, Int.reduceLT, Int.reduceLE, Int.reduceToNat, Int.reduceMul, Int.reduceAdd, Int.reduceNeg, gk91 hg, gr91_5 hg, gr91_22 hg, gr91_23 hg, gr91_24 hg, gr91_25 hg, gr91_26 hg, gr91_27 hg, gr91_28 hg, gr91_29 hg, gr91_32 hg, gr91_33 hg, gr91_34 hg, gr91_35 hg, gr91_36 hg, gr91_37 hg, gr91_38 hg, gr91_39 hg, gr91_40 hg, gr91_41 hg, gr91_42 hg, gr91_44 hg, gr91_45 hg, gr91_46 hg, gr91_48 hg, gr91_49 hg, gr91_50 hg, gr91_51 hg, gr91_52 hg, gk94 hg, gl94 hg, gk95 hg, gl95 hg, hu, e1, c, b3, o3, n3, q1 h1 f0, q2, e2, q1 _ g2, q3, e3, wr_s (show b < 2147483647 by omega)]
      apply ih (b + 1) _ (by omega)
      · intro c i p1 p2
        rw [zu_c p2, zu_c p1]
        exact f0 c i p1 p2
      · intro b' p
        rw [zu_c (by decide)]
        by_cases p2 : b' = b
        · subst p2
          exact zu_at
        · rw [zu_i p2]
          exact f1 b' (by omega)
      · intro b' p
        by_cases p2 : b' = b
        · subst p2
          exact zu_at
        · rw [zu_i p2, zu_c (by decide)]
          exact f2 b' (by omega)
  simp only [e176_0, e176_1, e176_3, e176_4, e176_7, e176_10, e176_13, e176_14, e176_17, e176_18, e176_19, e176_22, e176_25, e176_26, e176_27, e176_28, e176_29, e176_32, e176_35, e176_36, e176_37, e176_38, e176_41, e176_42, e176_43, e176_46, e176_49, e176_50, e176_51, e176_52, e176_53, e176_56, e176_59, e176_60, e176_61, e176_64, e176_67, zs0, zsI, zsL, zsR, ztl1, ztl0, zc0, zcI, zcL, zcR, true_and, and_true, true_implies, false_implies, implies_true, not_true_eq_false, not_false_eq_true, and_self, Int.toNat_natCast, Nat.reduceAdd, Nat.reduceLeDiff, Nat.reduceLT, forall_eq', Option.some.injEq, zarR, zarI, zarL, zle, zq0, zq1, zq2, zq3, zq4, zq5, zq6, zq8, zq9, zq10, zq20, zq7, zq12, zq24, zq40, zq41, zq48, zq100, zq120, zq123, zq480, zq492, zq700, zq729, zq2187, zq2916, zq8748, ne_eq, Int.reduceEq, Int.reduceLT, Int.reduceLE, Int.reduceToNat, Int.reduceMul, Int.reduceAdd, Int.reduceNeg]
  exact lp (nB T) 0 h (by omega) (fun _ _ _ _ => rfl) (fun b q => by omega) (fun b q => by omega)
theorem m_worthAt {y a b : Nat} (hy : y ≤ 3) (ha : a < 729) (hb : b < 3) : zRunD ztb zmt' (d + 1) 177 [zI y, zI a, zI b] G h Q ↔ Q (some (zI (((y * 729 + a) * 3 + b : Nat) : Int))) G h := by
  rw [r177]
  simp only [e177_0, e177_1, e177_4, e177_5, e177_6, e177_7, e177_8, e177_9, e177_10, e177_11, zs0, zsI, zsL, zsR, ztl1, ztl0, zc0, zcI, zcL, zcR, true_and, and_true, true_implies, false_implies, implies_true, not_true_eq_false, not_false_eq_true, and_self, Int.toNat_natCast, Nat.reduceAdd, Nat.reduceLeDiff, Nat.reduceLT, forall_eq', Option.some.injEq, zarR, zarI, zarL, zle, zq0, zq1, zq2, zq3, zq4, zq5, zq6, zq8, zq9, zq10, zq20, zq7, zq12, zq24, zq40, zq41, zq48, zq100, zq120, zq123, zq480, zq492, zq700, zq729, zq2187, zq2916, zq8748, ne_eq, Int.reduceEq, Int.reduceLT, Int.reduceLE, Int.reduceToNat, Int.reduceMul, Int.reduceAdd, Int.reduceNeg, wrN (z := (y : Int) * 729) (m := y * 729) (by omega) (by omega), wrN (z := ((y * 729 : Nat) : Int) + (a : Int)) (m := y * 729 + a) (by omega) (by omega), wrN (z := ((y * 729 + a : Nat) : Int) * 3) (m := (y * 729 + a) * 3) (by omega) (by omega), wrN (z := (((y * 729 + a) * 3 : Nat) : Int) + (b : Int)) (m := (y * 729 + a) * 3 + b) (by omega) (by omega)]
end RA
