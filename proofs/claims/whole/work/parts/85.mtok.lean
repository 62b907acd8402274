/-! the other's tokens -/
def uby (b : Int) : Int := if 0 ≤ b then b else b + 256
theorem bt_all : ∀ m : Fin 256, zand ((m.val : Int) - 128) 255 = uby ((m.val : Int) - 128) := by decide +kernel
theorem bt_and {b : Int} (h : -128 ≤ b ∧ b ≤ 127) : zand b 255 = uby b := by
  have := bt_all ⟨(b + 128).toNat, by omega⟩
  dsimp only at this
  rw [show (((b + 128).toNat : Nat) : Int) - 128 = b by omega] at this
  exact this
def bA (tp : Nat → Int) (n p : Nat) : Int := if p < n then uby (tp p) else -1
/-- the other's tape -/
def MT (tp : Nat → Int) (n : Nat) (h : zM) : Prop := h 91 7 = (n : Int) ∧ n ≤ 700 ∧ ∀ i, i < n → h 92 i = tp i ∧ -128 ≤ tp i ∧ tp i ≤ 127
theorem MT_fr {tp : Nat → Int} {n : Nat} {h h' : zM} (T : MT tp n h) (f1 : h' 91 7 = h 91 7) (f2 : ∀ i, h' 92 i = h 92 i) : MT tp n h' := ⟨by rw [f1]; exact T.1, T.2.1, fun i hi => by rw [f2]; exact T.2.2 i hi⟩
theorem bA_n {tp : Nat → Int} {n p : Nat} (h : ¬ p < n) : bA tp n p = -1 := by unfold bA; rw [if_neg h]
theorem bA_c {tp : Nat → Int} {n p : Nat} {h : zM} (T : MT tp n h) (hp : p < n) : (0 ≤ bA tp n p ∧ bA tp n p ≤ 255) ∧ (bA tp n p = 32 ↔ tp p = 32) ∧ (97 ≤ bA tp n p ∧ bA tp n p ≤ 122 ↔ kB (tp p) = 1) ∧ (48 ≤ bA tp n p ∧ bA tp n p ≤ 57 ↔ kB (tp p) = 2) ∧ (bA tp n p = 59 ↔ kB (tp p) = 3) ∧ (bA tp n p = 44 ↔ kB (tp p) = 4) ∧ (bA tp n p ≤ 127 → bA tp n p = tp p) := by
  have t := T.2.2 p hp
  rw [kB_1, kB_2, kB_3, kB_4]
  unfold bA uby
  rw [if_pos hp]
  split <;> omega
section MK
variable {d : Nat} {Q : zQ} {G : zG} {h : zM} {n q : Nat} {tp : Nat → Int}
theorem m_byte (hg : gS G) (T : MT tp n h) {p : Nat} : zRunD ztb zmt' (d + 1) 121 [zR (some 91), zI p] G h Q ↔ Q (some (zI (bA tp n p))) G h := by
  rw [r121]
  obtain ⟨t7, tn, tt⟩ := T
  unfold bA
  by_cases c : p < n
  · have c' : ¬ (n : Int) ≤ p := by omega
    have p7 : (p : Int) < 700 := by omega
    have t := tt p c
    rw [if_pos c]
    simp only [e121_0, e121_1, e121_2, e121_5, e121_8, e121_9, e121_12, e121_13, e121_14, e121_17, e121_18, e121_21, e121_22, zs0, zsI, zsL, zsR, ztl1, ztl0, zc0, zcI, zcL, zcR, true_and, and_true, true_implies, false_implies, implies_true, not_true_eq_false, not_false_eq_true, and_self, Int.toNat_natCast, Nat.reduceAdd, Nat.reduceLeDiff, Nat.reduceLT, forall_eq', Option.some.injEq, zarR, zarI, zarL, zle, zq0, zq1, zq2, zq3, zq4, zq5, zq6, zq8, zq9, zq10, zq20, zq7, zq12, zq24, zq40, zq41, zq48, zq100, zq120, zq123, zq480, zq492, zq700, zq729, zq2187, zq2916, zq8748, ne_eq, Int.reduceEq, Int.reduceLT, Int.reduceLE, Int.reduceToNat, Int.reduceMul, Int.reduceAdd, Int.reduceNeg, gk91 hg, gr91_5 hg, gr91_22 hg, gr91_23 hg, gr91_24 hg, gr91_25 hg, gr91_26 hg, gr91_27 hg, gr91_28 hg, gr91_29 hg, gr91_32 hg, gr91_33 hg, gr91_34 hg, gr91_35 hg, gr91_36 hg, gr91_37 hg, gr91_38 hg, gr91_39 hg, gr91_40 hg, gr91_41 hg, gr91_42 hg, gr91_44 hg, gr91_45 hg, gr91_46 hg, gr91_48 hg, gr91_49 hg, gr91_50 hg, gr91_51 hg, gr91_52 hg, gk92 hg, gl92 hg, or_true, true_or, if_true, if_false, false_and, and_false, false_or, or_false, t7, c', p7, t.1, bt_and t.2]
  · have c' : (n : Int) ≤ p := by omega
    rw [if_neg c]
    simp only [e121_0, e121_1, e121_2, e121_5, e121_8, e121_9, e121_12, e121_13, e121_14, e121_17, e121_18, e121_21, e121_22, zs0, zsI, zsL, zsR, ztl1, ztl0, zc0, zcI, zcL, zcR, true_and, and_true, true_implies, false_implies, implies_true, not_true_eq_false, not_false_eq_true, and_self, Int.toNat_natCast, Nat.reduceAdd, Nat.reduceLeDiff, Nat.reduceLT, forall_eq', Option.some.injEq, zarR, zarI, zarL, zle, zq0, zq1, zq2, zq3, zq4, zq5, zq6, zq8, zq9, zq10, zq20, zq7, zq12, zq24, zq40, zq41, zq48, zq100, zq120, zq123, zq480, zq492, zq700, zq729, zq2187, zq2916, zq8748, ne_eq, Int.reduceEq, Int.reduceLT, Int.reduceLE, Int.reduceToNat, Int.reduceMul, Int.reduceAdd, Int.reduceNeg, gk91 hg, gr91_5 hg, gr91_22 hg, gr91_23 hg, gr91_24 hg, gr91_25 hg, gr91_26 hg, gr91_27 hg, gr91_28 hg, gr91_29 hg, gr91_32 hg, gr91_33 hg, gr91_34 hg, gr91_35 hg, gr91_36 hg, gr91_37 hg, gr91_38 hg, gr91_39 hg, gr91_40 hg, gr91_41 hg, gr91_42 hg, gr91_44 hg, gr91_45 hg, gr91_46 hg, gr91_48 hg, gr91_49 hg, gr91_50 hg, gr91_51 hg, gr91_52 hg, gk92 hg, gl92 hg, or_true, true_or, if_true, if_false, false_and, and_false, false_or, or_false, t7, c']
def yes (p : Prop) [Decidable p] : Int := if p then 1 else 0
theorem m_isLetter {x : Int} : zRunD ztb zmt' (d + 1) 122 [zI x] G h Q ↔ Q (some (zI (yes (97 ≤ x ∧ x ≤ 122)))) G h := by
  rw [r122]
  unfold yes
  by_cases c1 : x < 97
  · rw [if_neg (by omega)]
    simp only [e122_0, e122_1, e122_3, e122_6, e122_7, e122_9, e122_12, e122_13, e122_16, e122_17, zs0, zsI, zsL, zsR, ztl1, ztl0, zc0, zcI, zcL, zcR, true_and, and_true, true_implies, false_implies, implies_true, not_true_eq_false, not_false_eq_true, and_self, Int.toNat_natCast, Nat.reduceAdd, Nat.reduceLeDiff, Nat.reduceLT, forall_eq', Option.some.injEq, zarR, zarI, zarL, zle, zq0, zq1, zq2, zq3, zq4, zq5, zq6, zq8, zq9, zq10, zq20, zq7, zq12, zq24, zq40, zq41, zq48, zq100, zq120, zq123, zq480, zq492, zq700, zq729, zq2187, zq2916, zq8748, ne_eq, Int.reduceEq, Int.reduceLT, Int.reduceLE, Int.reduceToNat, Int.reduceMul, Int.reduceAdd, Int.reduceNeg, or_true, true_or, if_true, if_false, false_and, and_false, false_or, or_false, c1]
  · by_cases c2 : 122 < x
    · rw [if_neg (by omega)]
      simp only [e122_0, e122_1, e122_3, e122_6, e122_7, e122_9, e122_12, e122_13, e122_16, e122_17, zs0, zsI, zsL, zsR, ztl1, ztl0, zc0, zcI, zcL, zcR, true_and, and_true, true_implies, false_implies, implies_true, not_true_eq_false, not_false_eq_true, and_self, Int.toNat_natCast, Nat.reduceAdd, Nat.reduceLeDiff, Nat.reduceLT, forall_eq', Option.some.injEq, zarR, zarI, zarL, zle, zq0, zq1, zq2, zq3, zq4, zq5, zq6, zq8, zq9, zq10, zq20, zq7, zq12, zq24, zq40, zq41, zq48, zq100, zq120, zq123, zq480, zq492, zq700, zq729, zq2187, zq2916, zq8748, ne_eq, Int.reduceEq, Int.reduceLT, Int.reduceLE, Int.reduceToNat, Int.reduceMul, Int.reduceAdd, Int.reduceNeg, or_true, true_or, if_true, if_false, false_and, and_false, false_or, or_false, c1, c2]
    · rw [if_pos (by omega)]
      simp only [e122_0, e122_1, e122_3, e122_6, e122_7, e122_9, e122_12, e122_13, e122_16, e122_17, zs0, zsI, zsL, zsR, ztl1, ztl0, zc0, zcI, zcL, zcR, true_and, and_true, true_implies, false_implies, implies_true, not_true_eq_false, not_false_eq_true, and_self, Int.toNat_natCast, Nat.reduceAdd, Nat.reduceLeDiff, Nat.reduceLT, forall_eq', Option.some.injEq, zarR, zarI, zarL, zle, zq0, zq1, zq2, zq3, zq4, zq5, zq6, zq8, zq9, zq10, zq20, zq7, zq12, zq24, zq40, zq41, zq48, zq100, zq120, zq123, zq480, zq492, zq700, zq729, zq2187, zq2916, zq8748, ne_eq, Int.reduceEq, Int.reduceLT, Int.reduceLE, Int.reduceToNat, Int.reduceMul, Int.reduceAdd, Int.reduceNeg, or_true, true_or, if_true, if_false, false_and, and_false, false_or, or_false, c1, c2]
theorem m_isDigit {x : Int} : zRunD ztb zmt' (d + 1) 123 [zI x] G h Q ↔ Q (some (zI (yes (48 ≤ x ∧ x ≤ 57)))) G h := by
  rw [r123]
  unfold yes
  by_cases c1 : x < 48
  · rw [if_neg (by omega)]
    simp only [e123_0, e123_1, e123_3, e123_6, e123_7, e123_9, e123_12, e123_13, e123_16, e123_17, zs0, zsI, zsL, zsR, ztl1, ztl0, zc0, zcI, zcL, zcR, true_and, and_true, true_implies, false_implies, implies_true, not_true_eq_false, not_false_eq_true, and_self, Int.toNat_natCast, Nat.reduceAdd, Nat.reduceLeDiff, Nat.reduceLT, forall_eq', Option.some.injEq, zarR, zarI, zarL, zle, zq0, zq1, zq2, zq3, zq4, zq5, zq6, zq8, zq9, zq10, zq20, zq7, zq12, zq24, zq40, zq41, zq48, zq100, zq120, zq123, zq480, zq492, zq700, zq729, zq2187, zq2916, zq8748, ne_eq, Int.reduceEq, Int.reduceLT, Int.reduceLE, Int.reduceToNat, Int.reduceMul, Int.reduceAdd, Int.reduceNeg, or_true, true_or, if_true, if_false, false_and, and_false, false_or, or_false, c1]
  · by_cases c2 : 57 < x
    · rw [if_neg (by omega)]
      simp only [e123_0, e123_1, e123_3, e123_6, e123_7, e123_9, e123_12, e123_13, e123_16, e123_17, zs0, zsI, zsL, zsR, ztl1, ztl0, zc0, zcI, zcL, zcR, true_and, and_true, true_implies, false_implies, implies_true, not_true_eq_false, not_false_eq_true, and_self, Int.toNat_natCast, Nat.reduceAdd, Nat.reduceLeDiff, Nat.reduceLT, forall_eq', Option.some.injEq, zarR, zarI, zarL, zle, zq0, zq1, zq2, zq3, zq4, zq5, zq6, zq8, zq9, zq10, zq20, zq7, zq12, zq24, zq40, zq41, zq48, zq100, zq120, zq123, zq480, zq492, zq700, zq729, zq2187, zq2916, zq8748, ne_eq, Int.reduceEq, Int.reduceLT, Int.reduceLE, Int.reduceToNat, Int.reduceMul, Int.reduceAdd, Int.reduceNeg, or_true, true_or, if_true, if_false, false_and, and_false, false_or, or_false, c1, c2]
    · rw [if_pos (by omega)]
      simp only [e123_0, e123_1, e123_3, e123_6, e123_7, e123_9, e123_12, e123_13, e123_16, e123_17, zs0, zsI, zsL, zsR, ztl1, ztl0, zc0, zcI, zcL, zcR, true_and, and_true, true_implies, false_implies, implies_true, not_true_eq_false, not_false_eq_true, and_self, Int.toNat_natCast, Nat.reduceAdd, Nat.reduceLeDiff, Nat.reduceLT, forall_eq', Option.some.injEq, zarR, zarI, zarL, zle, zq0, zq1, zq2, zq3, zq4, zq5, zq6, zq8, zq9, zq10, zq20, zq7, zq12, zq24, zq40, zq41, zq48, zq100, zq120, zq123, zq480, zq492, zq700, zq729, zq2187, zq2916, zq8748, ne_eq, Int.reduceEq, Int.reduceLT, Int.reduceLE, Int.reduceToNat, Int.reduceMul, Int.reduceAdd, Int.reduceNeg, or_true, true_or, if_true, if_false, false_and, and_false, false_or, or_false, c1, c2]
theorem yes_1 {p : Prop} [Decidable p] (h : p) : yes p = 1 := if_pos h
theorem yes_0 {p : Prop} [Decidable p] (h : ¬ p) : yes p = 0 := if_neg h
/-- the other's sorts of tokens -/
def soK (k : Nat) : Int := if k = 0 then 1 else if k = 1 then 2 else if k = 2 then 3 else if k = 3 ∨ k = 4 then 4 else 0
def TKm (tp : Nat → Int) (n : Nat) (h : zM) (q : Nat) : Prop := q ≤ n ∧ h 91 9 = soK (kd tp n q) ∧ h 91 10 = (st tp n q : Nat) ∧ (kd tp n q = 1 → h 91 15 = wd tp n q) ∧ (kd tp n q = 2 → h 91 12 = nb tp n q) ∧ (kd tp n q = 3 → h 91 11 = 59) ∧ (kd tp n q = 4 → h 91 11 = 44) ∧ (¬ kd tp n q = 5 → h 91 8 = (nxt tp n q : Nat))
def tkc (c i : Nat) : Prop := c = 91 ∧ (i = 8 ∨ i = 9 ∨ i = 10 ∨ i = 11 ∨ i = 12 ∨ i = 15)
theorem m_next (hg : gS G) (T : MT tp n h) (h9 : ¬ h 91 9 = 5) (h8 : h 91 8 = (q : Int)) (hq : q ≤ n) (K : ∀ h' : zM, (∀ c i, ¬ tkc c i → h' c i = h c i) → TKm tp n h' q → Q none G h') : zRunD ztb zmt' (d + 2) 125 [zR (some 91)] G h Q := by
  rw [r125]
  have n7 := T.2.1
  have blank : ∀ j p (h1 : zM), p + j = n → (∀ c i, ¬ tkc c i → h1 c i = h c i) → h1 91 8 = (p : Int) → (∀ h2 : zM, (∀ c i, ¬ tkc c i → h2 c i = h c i) → h2 91 8 = (skp tp j p : Nat) → zE 125 (d + 1) Q 35 [some (zR (some 91)), none, none] [] G h2 (0, 0)) → zE 125 (d + 1) Q 9 [some (zR (some 91)), none, none] [] G h1 (0, 0) := by
    intro j
    induction j with
    | zero =>
      intro p h1 hj f e8 KK
      have T1 : MT tp n h1 := MT_fr T (f _ _ (by unfold tkc; omega)) (fun i => f _ _ (by unfold tkc; omega))
      have mb := fun Q' => m_byte (d := d) (Q := Q') (p := p) hg T1
      have b0 := bA_n (tp := tp) (n := n) (p := p) (by omega)
      rw [e125_9]
      simp only [e125_10, e125_11, e125_14, e125_17, e125_19, e125_22, e125_23, e125_24, e125_27, e125_28, e125_29, e125_32, zs0, zsI, zsL, zsR, ztl1, ztl0, zc0, zcI, zcL, zcR, true_and, and_true, true_implies, false_implies, implies_true, not_true_eq_false, not_false_eq_true, and_self, Int.toNat_natCast, Nat.reduceAdd, Nat.reduceLeDiff, Nat.reduceLT, forall_eq', Option.some.injEq, zarR, zarI, zarL, zle, zq0, zq1, zq2, zq3, zq4, zq5, zq6, zq8, zq9, zq10, zq20, zq7, zq12, zq24, zq40, zq41, zq48, zq100, zq120, zq123, zq480, zq492, zq700, zq729, zq2187, zq2916, zq8748, ne_eq, Int.reduceEq, Int.reduceLT, Int.reduceLE, Int.reduceToNat, Int.reduceMul, Int.reduceAdd, Int.reduceNeg, gk91 hg, gr91_5 hg, gr91_22 hg, gr91_23 hg, gr91_24 hg, gr91_25 hg, gr91_26 hg, gr91_27 hg, gr91_28 hg, gr91_29 hg, gr91_32 hg, gr91_33 hg, gr91_34 hg, gr91_35 hg, gr91_36 hg, gr91_37 hg, gr91_38 hg, gr91_39 hg, gr91_40 hg, gr91_41 hg, gr91_42 hg, gr91_44 hg, gr91_45 hg, gr91_46 hg, gr91_48 hg, gr91_49 hg, gr91_50 hg, gr91_51 hg, gr91_52 hg, e8, mb, b0]
      exact KK h1 f e8
    | succ j ih =>
      intro p h1 hj f e8 KK
      have T1 : MT tp n h1 := MT_fr T (f _ _ (by unfold tkc; omega)) (fun i => f _ _ (by unfold tkc; omega))
      have mb := fun Q' => m_byte (d := d) (Q := Q') (p := p) hg T1
      have bc := bA_c (p := p) T (by omega)
      rw [e125_9]
      by_cases z : tp p = 32
      · have z' := bc.2.1.mpr z
        simp only [e125_10, e125_11, e125_14, e125_17, e125_19, e125_22, e125_23, e125_24, e125_27, e125_28, e125_29, e125_32, zs0, zsI, zsL, zsR, ztl1, ztl0, zc0, zcI, zcL, zcR, true_and, and_true, true_implies, false_implies, implies_true, not_true_eq_false, not_false_eq_true, and_self, Int.toNat_natCast, Nat.reduceAdd, Nat.reduceLeDiff, Nat.reduceLT, forall_eq', Option.some.injEq, zarR, zarI, zarL, zle, zq0, zq1, zq2, zq3, zq4, zq5, zq6, zq8, zq9, zq10, zq20, zq7, zq12, zq24, zq40, zq41, zq48, zq100, zq120, zq123, zq480, zq492, zq700, zq729, zq2187, zq2916, zq8748, ne_eq, Int.reduceEq, Int.reduceLT, Int.reduceLE, Int.reduceToNat, Int.reduceMul, Int.reduceAdd, Int.reduceNeg, gk91 hg, gr91_5 hg, gr91_22 hg, gr91_23 hg, gr91_24 hg, gr91_25 hg, gr91_26 hg, gr91_27 hg, gr91_28 hg, gr91_29 hg, gr91_32 hg, gr91_33 hg, gr91_34 hg, gr91_35 hg, gr91_36 hg, gr91_37 hg, gr91_38 hg, gr91_39 hg, gr91_40 hg, gr91_41 hg, gr91_42 hg, gr91_44 hg, gr91_45 hg, gr91_46 hg, gr91_48 hg, gr91_49 hg, gr91_50 hg, gr91_51 hg, gr91_52 hg, e8, mb, z', wr_s (show p < 2147483647 by omega)]
        apply ih (p + 1) _ (by omega)
        · intro c i z
          rw [zu, if_neg (by unfold tkc at z; omega)]
          exact f c i z
        · exact zu_at
        · intro h2 f2 m2
          apply KK h2 f2
          rw [skp, if_pos z]
          exact m2
      · have z' : ¬ bA tp n p = 32 := fun y => z (bc.2.1.mp y)
        simp only [e125_10, e125_11, e125_14, e125_17, e125_19, e125_22, e125_23, e125_24, e125_27, e125_28, e125_29, e125_32, zs0, zsI, zsL, zsR, ztl1, ztl0, zc0, zcI, zcL, zcR, true_and, and_true, true_implies, false_implies, implies_true, not_true_eq_false, not_false_eq_true, and_self, Int.toNat_natCast, Nat.reduceAdd, Nat.reduceLeDiff, Nat.reduceLT, forall_eq', Option.some.injEq, zarR, zarI, zarL, zle, zq0, zq1, zq2, zq3, zq4, zq5, zq6, zq8, zq9, zq10, zq20, zq7, zq12, zq24, zq40, zq41, zq48, zq100, zq120, zq123, zq480, zq492, zq700, zq729, zq2187, zq2916, zq8748, ne_eq, Int.reduceEq, Int.reduceLT, Int.reduceLE, Int.reduceToNat, Int.reduceMul, Int.reduceAdd, Int.reduceNeg, gk91 hg, gr91_5 hg, gr91_22 hg, gr91_23 hg, gr91_24 hg, gr91_25 hg, gr91_26 hg, gr91_27 hg, gr91_28 hg, gr91_29 hg, gr91_32 hg, gr91_33 hg, gr91_34 hg, gr91_35 hg, gr91_36 hg, gr91_37 hg, gr91_38 hg, gr91_39 hg, gr91_40 hg, gr91_41 hg, gr91_42 hg, gr91_44 hg, gr91_45 hg, gr91_46 hg, gr91_48 hg, gr91_49 hg, gr91_50 hg, gr91_51 hg, gr91_52 hg, e8, mb, z']
        apply KK h1 f
        rw [skp, if_neg z]
        exact e8
  simp only [e125_0, e125_1, e125_4, e125_5, e125_8, zs0, zsI, zsL, zsR, ztl1, ztl0, zc0, zcI, zcL, zcR, true_and, and_true, true_implies, false_implies, implies_true, not_true_eq_false, not_false_eq_true, and_self, Int.toNat_natCast, Nat.reduceAdd, Nat.reduceLeDiff, Nat.reduceLT, forall_eq', Option.some.injEq, zarR, zarI, zarL, zle, zq0, zq1, zq2, zq3, zq4, zq5, zq6, zq8, zq9, zq10, zq20, zq7, zq12, zq24, zq40, zq41, zq48, zq100, zq120, zq123, zq480, zq492, zq700, zq729, zq2187, zq2916, zq8748, ne_eq, Int.reduceEq, Int.reduceLT, Int.reduceLE, Int.reduceToNat, Int.reduceMul, Int.reduceAdd, Int.reduceNeg, gk91 hg, gr91_5 hg, gr91_22 hg, gr91_23 hg, gr91_24 hg, gr91_25 hg, gr91_26 hg, gr91_27 hg, gr91_28 hg, gr91_29 hg, gr91_32 hg, gr91_33 hg, gr91_34 hg, gr91_35 hg, gr91_36 hg, gr91_37 hg, gr91_38 hg, gr91_39 hg, gr91_40 hg, gr91_41 hg, gr91_42 hg, gr91_44 hg, gr91_45 hg, gr91_46 hg, gr91_48 hg, gr91_49 hg, gr91_50 hg, gr91_51 hg, gr91_52 hg, h9]
  apply blank (n - q) q h (by omega) (fun _ _ _ => rfl) h8
  intro h1 f1 e8
  have sb := st_b (tp := tp) q hq
  have rb := rn_b (tp := tp) q hq
  have rs := rn_s (tp := tp) (n := n) q
  have est : skp tp (n - q) q = st tp n q := rfl
  rw [est] at e8
  generalize hsg : st tp n q = s at sb rb e8 rs
  obtain ⟨h2, e2⟩ : ∃ z, z = zu (zu (zu h1 91 10 (s : Nat)) 91 9 0) 91 11 0 := ⟨_, rfl⟩
  have f2 : ∀ c i, ¬ tkc c i → h2 c i = h c i := fun c i z => by
    rw [e2, zu, if_neg (by unfold tkc at z; omega), zu, if_neg (by unfold tkc at z; omega), zu, if_neg (by unfold tkc at z; omega)]
    exact f1 c i z
  have g8 : h2 91 8 = (s : Int) := by rw [e2, zu_i (by decide), zu_i (by decide), zu_i (by decide), e8]
  have g9 : h2 91 9 = 0 := by rw [e2, zu_i (by decide), zu_at]
  have g10 : h2 91 10 = (s : Int) := by rw [e2, zu_i (by decide), zu_i (by decide), zu_at]
  have T2 : MT tp n h2 := MT_fr T (f2 _ _ (by unfold tkc; omega)) (fun i => f2 _ _ (by unfold tkc; omega))
  have mb := fun Q' => m_byte (d := d) (Q := Q') (p := s) hg T2
  have g8' : zu (zu (zu h1 91 10 (s : Nat)) 91 9 0) 91 11 0 91 8 = (s : Int) := by rw [← e2]; exact g8
  simp only [e125_35, e125_36, e125_37, e125_40, e125_43, e125_44, e125_45, e125_48, e125_49, e125_50, e125_53, e125_54, e125_55, zs0, zsI, zsL, zsR, ztl1, ztl0, zc0, zcI, zcL, zcR, true_and, and_true, true_implies, false_implies, implies_true, not_true_eq_false, not_false_eq_true, and_self, Int.toNat_natCast, Nat.reduceAdd, Nat.reduceLeDiff, Nat.reduceLT, forall_eq', Option.some.injEq, zarR, zarI, zarL, zle, zq0, zq1, zq2, zq3, zq4, zq5, zq6, zq8, zq9, zq10, zq20, zq7, zq12, zq24, zq40, zq41, zq48, zq100, zq120, zq123, zq480, zq492, zq700, zq729, zq2187, zq2916, zq8748, ne_eq, Int.reduceEq, Int.reduceLT, Int.reduceLE, Int.reduceToNat, Int.reduceMul, Int.reduceAdd, Int.reduceNeg, gk91 hg, gr91_5 hg, gr91_22 hg, gr91_23 hg, gr91_24 hg, gr91_25 hg, gr91_26 hg, gr91_27 hg, gr91_28 hg, gr91_29 hg, gr91_32 hg, gr91_33 hg, gr91_34 hg, gr91_35 hg, gr91_36 hg, gr91_37 hg, gr91_38 hg, gr91_39 hg, gr91_40 hg, gr91_41 hg, gr91_42 hg, gr91_44 hg, gr91_45 hg, gr91_46 hg, gr91_48 hg, gr91_49 hg, gr91_50 hg, gr91_51 hg, gr91_52 hg, e8, g8']
  rw [← e2]
  simp only [e125_58, e125_61, e125_62, e125_63, zs0, zsI, zsL, zsR, ztl1, ztl0, zc0, zcI, zcL, zcR, true_and, and_true, true_implies, false_implies, implies_true, not_true_eq_false, not_false_eq_true, and_self, Int.toNat_natCast, Nat.reduceAdd, Nat.reduceLeDiff, Nat.reduceLT, forall_eq', Option.some.injEq, zarR, zarI, zarL, zle, zq0, zq1, zq2, zq3, zq4, zq5, zq6, zq8, zq9, zq10, zq20, zq7, zq12, zq24, zq40, zq41, zq48, zq100, zq120, zq123, zq480, zq492, zq700, zq729, zq2187, zq2916, zq8748, ne_eq, Int.reduceEq, Int.reduceLT, Int.reduceLE, Int.reduceToNat, Int.reduceMul, Int.reduceAdd, Int.reduceNeg, gk91 hg, gr91_5 hg, gr91_22 hg, gr91_23 hg, gr91_24 hg, gr91_25 hg, gr91_26 hg, gr91_27 hg, gr91_28 hg, gr91_29 hg, gr91_32 hg, gr91_33 hg, gr91_34 hg, gr91_35 hg, gr91_36 hg, gr91_37 hg, gr91_38 hg, gr91_39 hg, gr91_40 hg, gr91_41 hg, gr91_42 hg, gr91_44 hg, gr91_45 hg, gr91_46 hg, gr91_48 hg, gr91_49 hg, gr91_50 hg, gr91_51 hg, gr91_52 hg, mb]
  have fin : ∀ h3 : zM, (∀ c i, ¬ tkc c i → h3 c i = h2 c i) → TKm tp n h3 q → ∀ l1 l2, zE 125 (d + 1) Q 281 [some (zR (some 91)), l1, l2] [] G h3 (0, 0) := by
    intro h3 f3 t3 l1 l2
    simp only [e125_281, zs0, zsI, zsL, zsR, ztl1, ztl0, zc0, zcI, zcL, zcR, true_and, and_true, true_implies, false_implies, implies_true, not_true_eq_false, not_false_eq_true, and_self, Int.toNat_natCast, Nat.reduceAdd, Nat.reduceLeDiff, Nat.reduceLT, forall_eq', Option.some.injEq, zarR, zarI, zarL, zle, zq0, zq1, zq2, zq3, zq4, zq5, zq6, zq8, zq9, zq10, zq20, zq7, zq12, zq24, zq40, zq41, zq48, zq100, zq120, zq123, zq480, zq492, zq700, zq729, zq2187, zq2916, zq8748, ne_eq, Int.reduceEq, Int.reduceLT, Int.reduceLE, Int.reduceToNat, Int.reduceMul, Int.reduceAdd, Int.reduceNeg]
    exact K h3 (fun c i z => by rw [f3 c i z]; exact f2 c i z) t3
  by_cases hs : n ≤ s
  · have b0 := bA_n (tp := tp) (n := n) (p := s) (by omega)
    have k0 : kd tp n q = 0 := by unfold kd; rw [hsg, if_pos hs]
    simp only [e125_64, e125_65, e125_66, e125_69, e125_70, e125_71, e125_74, zs0, zsI, zsL, zsR, ztl1, ztl0, zc0, zcI, zcL, zcR, true_and, and_true, true_implies, false_implies, implies_true, not_true_eq_false, not_false_eq_true, and_self, Int.toNat_natCast, Nat.reduceAdd, Nat.reduceLeDiff, Nat.reduceLT, forall_eq', Option.some.injEq, zarR, zarI, zarL, zle, zq0, zq1, zq2, zq3, zq4, zq5, zq6, zq8, zq9, zq10, zq20, zq7, zq12, zq24, zq40, zq41, zq48, zq100, zq120, zq123, zq480, zq492, zq700, zq729, zq2187, zq2916, zq8748, ne_eq, Int.reduceEq, Int.reduceLT, Int.reduceLE, Int.reduceToNat, Int.reduceMul, Int.reduceAdd, Int.reduceNeg, gk91 hg, gr91_5 hg, gr91_22 hg, gr91_23 hg, gr91_24 hg, gr91_25 hg, gr91_26 hg, gr91_27 hg, gr91_28 hg, gr91_29 hg, gr91_32 hg, gr91_33 hg, gr91_34 hg, gr91_35 hg, gr91_36 hg, gr91_37 hg, gr91_38 hg, gr91_39 hg, gr91_40 hg, gr91_41 hg, gr91_42 hg, gr91_44 hg, gr91_45 hg, gr91_46 hg, gr91_48 hg, gr91_49 hg, gr91_50 hg, gr91_51 hg, gr91_52 hg, b0]
    apply fin
    · intro c i z
      rw [zu, if_neg (by unfold tkc at z; omega)]
    · refine ⟨hq, ?_, ?_, fun z => by omega, fun z => by omega, fun z => by omega, fun z => by omega, fun _ => ?_⟩
      · rw [k0, zu_at]; rfl
      · rw [zu_i (by decide), g10, hsg]
      · rw [(kd_0 hq k0).2, zu_i (by decide), g8]
        omega
  have bc := bA_c (p := s) T (by omega)
  have b1 : ¬ bA tp n s = -1 := by omega
  obtain ⟨k, hkk⟩ : ∃ k, k = kB (tp s) := ⟨_, rfl⟩
  have kb := kB_b (tp s)
  rw [← hkk] at kb bc
  have ern : rn tp n q = rnE tp k (n - s) s := by unfold rn; rw [hsg, hkk]
  have rs := rs (by omega)
  by_cases k1 : k = 1
  · have ll := fun Q' => m_isLetter (d := d) (Q := Q') (G := G) (h := h2) (x := bA tp n s)
    have y1 : yes (97 ≤ bA tp n s ∧ bA tp n s ≤ 122) = 1 := yes_1 (bc.2.2.1.mpr k1)
    simp only [e125_64, e125_65, e125_66, e125_69, e125_70, e125_71, e125_74, e125_77, e125_78, e125_81, e125_84, e125_85, e125_86, zs0, zsI, zsL, zsR, ztl1, ztl0, zc0, zcI, zcL, zcR, true_and, and_true, true_implies, false_implies, implies_true, not_true_eq_false, not_false_eq_true, and_self, Int.toNat_natCast, Nat.reduceAdd, Nat.reduceLeDiff, Nat.reduceLT, forall_eq', Option.some.injEq, zarR, zarI, zarL, zle, zq0, zq1, zq2, zq3, zq4, zq5, zq6, zq8, zq9, zq10, zq20, zq7, zq12, zq24, zq40, zq41, zq48, zq100, zq120, zq123, zq480, zq492, zq700, zq729, zq2187, zq2916, zq8748, ne_eq, Int.reduceEq, Int.reduceLT, Int.reduceLE, Int.reduceToNat, Int.reduceMul, Int.reduceAdd, Int.reduceNeg, gk91 hg, gr91_5 hg, gr91_22 hg, gr91_23 hg, gr91_24 hg, gr91_25 hg, gr91_26 hg, gr91_27 hg, gr91_28 hg, gr91_29 hg, gr91_32 hg, gr91_33 hg, gr91_34 hg, gr91_35 hg, gr91_36 hg, gr91_37 hg, gr91_38 hg, gr91_39 hg, gr91_40 hg, gr91_41 hg, gr91_42 hg, gr91_44 hg, gr91_45 hg, gr91_46 hg, gr91_48 hg, gr91_49 hg, gr91_50 hg, gr91_51 hg, gr91_52 hg, b1, ll, y1]
    have lp : ∀ j p (h3 : zM), p + j = n → s ≤ p → (∀ i, s ≤ i → i < p → 97 ≤ tp i ∧ tp i ≤ 122) → (∀ c i, ¬ (c = 91 ∧ (i = 8 ∨ i = 15)) → h3 c i = h2 c i) → h3 91 8 = (p : Int) → h3 91 15 = wcd tp s (min (p - s) 8) → (∀ (h4 : zM) (p' : Nat), p' = rnE tp 1 j p → (∀ c i, ¬ (c = 91 ∧ (i = 8 ∨ i = 15)) → h4 c i = h2 c i) → h4 91 8 = (p' : Int) → h4 91 15 = wcd tp s (min (p' - s) 8) → zE 125 (d + 1) Q 152 [some (zR (some 91)), some (zI (bA tp n s)), some (zI ((p' - s : Nat) : Int))] [] G h4 (0, 0)) → zE 125 (d + 1) Q 89 [some (zR (some 91)), some (zI (bA tp n s)), some (zI ((p - s : Nat) : Int))] [] G h3 (0, 0) := by
      intro j
      induction j with
      | zero =>
        intro p h3 hj hsp al f3 a8 a15 KK
        have T3 : MT tp n h3 := MT_fr T2 (f3 _ _ (by omega)) (fun i => f3 _ _ (by omega))
        have mb := fun Q' => m_byte (d := d) (Q := Q') (p := p) hg T3
        have b0 := bA_n (tp := tp) (n := n) (p := p) (by omega)
        have l0 : ∀ Q' : zQ, zRunD ztb zmt' (d + 1) 122 [zI (-1)] G h3 Q' ↔ Q' (some (zI 0)) G h3 := fun Q' => by rw [m_isLetter, yes_0 (by omega)]
        rw [e125_89]
        simp only [e125_90, e125_91, e125_94, e125_97, e125_100, zs0, zsI, zsL, zsR, ztl1, ztl0, zc0, zcI, zcL, zcR, true_and, and_true, true_implies, false_implies, implies_true, not_true_eq_false, not_false_eq_true, and_self, Int.toNat_natCast, Nat.reduceAdd, Nat.reduceLeDiff, Nat.reduceLT, forall_eq', Option.some.injEq, zarR, zarI, zarL, zle, zq0, zq1, zq2, zq3, zq4, zq5, zq6, zq8, zq9, zq10, zq20, zq7, zq12, zq24, zq40, zq41, zq48, zq100, zq120, zq123, zq480, zq492, zq700, zq729, zq2187, zq2916, zq8748, ne_eq, Int.reduceEq, Int.reduceLT, Int.reduceLE, Int.reduceToNat, Int.reduceMul, Int.reduceAdd, Int.reduceNeg, gk91 hg, gr91_5 hg, gr91_22 hg, gr91_23 hg, gr91_24 hg, gr91_25 hg, gr91_26 hg, gr91_27 hg, gr91_28 hg, gr91_29 hg, gr91_32 hg, gr91_33 hg, gr91_34 hg, gr91_35 hg, gr91_36 hg, gr91_37 hg, gr91_38 hg, gr91_39 hg, gr91_40 hg, gr91_41 hg, gr91_42 hg, gr91_44 hg, gr91_45 hg, gr91_46 hg, gr91_48 hg, gr91_49 hg, gr91_50 hg, gr91_51 hg, gr91_52 hg, a8, mb, b0, l0]
        exact KK h3 p rfl f3 a8 a15
      | succ j ih =>
        intro p h3 hj hsp al f3 a8 a15 KK
        have T3 : MT tp n h3 := MT_fr T2 (f3 _ _ (by omega)) (fun i => f3 _ _ (by omega))
        have mb := fun Q' => m_byte (d := d) (Q := Q') (p := p) hg T3
        have bc := bA_c (p := p) T (by omega)
        have l0 := fun Q' => m_isLetter (d := d) (Q := Q') (G := G) (h := h3) (x := bA tp n p)
        rw [e125_89]
        by_cases z : kB (tp p) = 1
        · have y := yes_1 (bc.2.2.1.mpr z)
          have zt := kB_1.mp z
          have ebt : bA tp n p = tp p := bc.2.2.2.2.2.2 (by have := bc.2.2.1.mpr z; omega)
          have al' : ∀ i, s ≤ i → i < p + 1 → 97 ≤ tp i ∧ tp i ≤ 122 := fun i z1 z2 => by
            by_cases y : i = p
            · rw [y]; exact zt
            · exact al i z1 (by omega)
          have er : ∀ p', p' = rnE tp 1 j (p + 1) → p' = rnE tp 1 (j + 1) p := fun p' y => by rw [rnE, if_pos z]; exact y
          by_cases l8 : p - s < 8
          · have c8 : ¬ (8 : Int) ≤ ((p - s : Nat) : Int) := by omega
            rw [show min (p - s) 8 = p - s by omega] at a15
            have wb := wcd_b (tp := tp) (p := s) (l := p - s) (fun i hi => al (s + i) (by omega) (by omega))
            have w32 : wcd tp s (p - s) + 1 ≤ 32 ^ 7 := by
              have : (32 : Int) ^ (p - s) ≤ 32 ^ 7 := by
                have := Nat.pow_le_pow_right (show 0 < 32 by decide) (show p - s ≤ 7 by omega)
                exact_mod_cast this
              omega
            have w7 : wcd tp s (p - s) ≤ 34359738368 := by
              have : (32 : Int) ^ 7 = 34359738368 := by decide
              omega
            have x1 : wl (32 * wcd tp s (p - s)) = 32 * wcd tp s (p - s) := wl_id (by omega)
            have x2 : wr (wr (tp p - 97) + 1) = tp p - 96 := by rw [wr_id (z := tp p - 97) (by omega), wr_id (by omega)]; omega
            have x3 : wl (32 * wcd tp s (p - s) + (tp p - 96)) = wcd tp s (p + 1 - s) := by
              rw [wl_id (by omega), show p + 1 - s = (p - s) + 1 by omega]
              show _ = 32 * wcd tp s (p - s) + (tp (s + (p - s)) - 96)
              rw [show s + (p - s) = p by omega]
            have T3' : MT tp n h3 := T3
            simp only [e125_90, e125_91, e125_94, e125_97, e125_100, zs0, zsI, zsL, zsR, ztl1, ztl0, zc0, zcI, zcL, zcR, true_and, and_true, true_implies, false_implies, implies_true, not_true_eq_false, not_false_eq_true, and_self, Int.toNat_natCast, Nat.reduceAdd, Nat.reduceLeDiff, Nat.reduceLT, forall_eq', Option.some.injEq, zarR, zarI, zarL, zle, zq0, zq1, zq2, zq3, zq4, zq5, zq6, zq8, zq9, zq10, zq20, zq7, zq12, zq24, zq40, zq41, zq48, zq100, zq120, zq123, zq480, zq492, zq700, zq729, zq2187, zq2916, zq8748, ne_eq, Int.reduceEq, Int.reduceLT, Int.reduceLE, Int.reduceToNat, Int.reduceMul, Int.reduceAdd, Int.reduceNeg, gk91 hg, gr91_5 hg, gr91_22 hg, gr91_23 hg, gr91_24 hg, gr91_25 hg, gr91_26 hg, gr91_27 hg, gr91_28 hg, gr91_29 hg, gr91_32 hg, gr91_33 hg, gr91_34 hg, gr91_35 hg, gr91_36 hg, gr91_37 hg, gr91_38 hg, gr91_39 hg, gr91_40 hg, gr91_41 hg, gr91_42 hg, gr91_44 hg, gr91_45 hg, gr91_46 hg, gr91_48 hg, gr91_49 hg, gr91_50 hg, gr91_51 hg, gr91_52 hg, a8, mb, l0, y]
            simp only [e125_103, e125_104, e125_106, e125_109, e125_110, e125_113, e125_114, e125_117, e125_118, e125_119, e125_120, e125_123, e125_126, e125_128, e125_129, e125_130, e125_131, e125_132, e125_133, e125_136, e125_139, e125_140, e125_141, e125_144, e125_145, e125_146, e125_149, zs0, zsI, zsL, zsR, ztl1, ztl0, zc0, zcI, zcL, zcR, true_and, and_true, true_implies, false_implies, implies_true, not_true_eq_false, not_false_eq_true, and_self, Int.toNat_natCast, Nat.reduceAdd, Nat.reduceLeDiff, Nat.reduceLT, forall_eq', Option.some.injEq, zarR, zarI, zarL, zle, zq0, zq1, zq2, zq3, zq4, zq5, zq6, zq8, zq9, zq10, zq20, zq7, zq12, zq24, zq40, zq41, zq48, zq100, zq120, zq123, zq480, zq492, zq700, zq729, zq2187, zq2916, zq8748, ne_eq, Int.reduceEq, Int.reduceLT, Int.reduceLE, Int.reduceToNat, Int.reduceMul, Int.reduceAdd, Int.reduceNeg, gk91 hg, gr91_5 hg, gr91_22 hg, gr91_23 hg, gr91_24 hg, gr91_25 hg, gr91_26 hg, gr91_27 hg, gr91_28 hg, gr91_29 hg, gr91_32 hg, gr91_33 hg, gr91_34 hg, gr91_35 hg, gr91_36 hg, gr91_37 hg, gr91_38 hg, gr91_39 hg, gr91_40 hg, gr91_41 hg, gr91_42 hg, gr91_44 hg, gr91_45 hg, gr91_46 hg, gr91_48 hg, gr91_49 hg, gr91_50 hg, gr91_51 hg, gr91_52 hg, a8, mb, c8, a15, ebt, x1, x2, x3, zu_i (show ¬ 8 = 15 by decide), wr_s (show p < 2147483647 by omega), wr_s (show p - s < 2147483647 by omega)]
            have := ih (p + 1) (zu (zu h3 91 15 (wcd tp s (p + 1 - s))) 91 8 ((p + 1 : Nat) : Int)) (by omega) (by omega) al' (fun c i z => by rw [zu, if_neg (by omega), zu, if_neg (by omega)]; exact f3 c i z) zu_at (by rw [zu_i (by decide), zu_at, show min (p + 1 - s) 8 = p + 1 - s by omega]) (fun h4 p' e4 => KK h4 p' (er p' e4))
            rw [show p + 1 - s = p - s + 1 by omega] at this ⊢
            exact this
          · have c8 : (8 : Int) ≤ ((p - s : Nat) : Int) := by omega
            simp only [e125_90, e125_91, e125_94, e125_97, e125_100, e125_103, e125_104, e125_106, e125_109, e125_110, e125_113, e125_114, e125_117, e125_118, e125_119, e125_120, e125_123, e125_126, e125_128, e125_129, e125_130, e125_131, e125_132, e125_133, e125_136, e125_139, e125_140, e125_141, e125_144, e125_145, e125_146, e125_149, zs0, zsI, zsL, zsR, ztl1, ztl0, zc0, zcI, zcL, zcR, true_and, and_true, true_implies, false_implies, implies_true, not_true_eq_false, not_false_eq_true, and_self, Int.toNat_natCast, Nat.reduceAdd, Nat.reduceLeDiff, Nat.reduceLT, forall_eq', Option.some.injEq, zarR, zarI, zarL, zle, zq0, zq1, zq2, zq3, zq4, zq5, zq6, zq8, zq9, zq10, zq20, zq7, zq12, zq24, zq40, zq41, zq48, zq100, zq120, zq123, zq480, zq492, zq700, zq729, zq2187, zq2916, zq8748, ne_eq, Int.reduceEq, Int.reduceLT, Int.reduceLE, Int.reduceToNat, Int.reduceMul, Int.reduceAdd, Int.reduceNeg, gk91 hg, gr91_5 hg, gr91_22 hg, gr91_23 hg, gr91_24 hg, gr91_25 hg, gr91_26 hg, gr91_27 hg, gr91_28 hg, gr91_29 hg, gr91_32 hg, gr91_33 hg, gr91_34 hg, gr91_35 hg, gr91_36 hg, gr91_37 hg, gr91_38 hg, gr91_39 hg, gr91_40 hg, gr91_41 hg, gr91_42 hg, gr91_44 hg, gr91_45 hg, gr91_46 hg, gr91_48 hg, gr91_49 hg, gr91_50 hg, gr91_51 hg, gr91_52 hg, a8, mb, l0, y, c8, wr_s (show p < 2147483647 by omega), wr_s (show p - s < 2147483647 by omega)]
            have := ih (p + 1) (zu h3 91 8 ((p + 1 : Nat) : Int)) (by omega) (by omega) al' (fun c i z => by rw [zu, if_neg (by omega)]; exact f3 c i z) zu_at (by rw [zu_i (by decide), a15, show min (p + 1 - s) 8 = min (p - s) 8 by omega]) (fun h4 p' e4 => KK h4 p' (er p' e4))
            rw [show p + 1 - s = p - s + 1 by omega] at this
            exact this
        · have y := yes_0 (fun y => z (bc.2.2.1.mp y))
          simp only [e125_90, e125_91, e125_94, e125_97, e125_100, zs0, zsI, zsL, zsR, ztl1, ztl0, zc0, zcI, zcL, zcR, true_and, and_true, true_implies, false_implies, implies_true, not_true_eq_false, not_false_eq_true, and_self, Int.toNat_natCast, Nat.reduceAdd, Nat.reduceLeDiff, Nat.reduceLT, forall_eq', Option.some.injEq, zarR, zarI, zarL, zle, zq0, zq1, zq2, zq3, zq4, zq5, zq6, zq8, zq9, zq10, zq20, zq7, zq12, zq24, zq40, zq41, zq48, zq100, zq120, zq123, zq480, zq492, zq700, zq729, zq2187, zq2916, zq8748, ne_eq, Int.reduceEq, Int.reduceLT, Int.reduceLE, Int.reduceToNat, Int.reduceMul, Int.reduceAdd, Int.reduceNeg, gk91 hg, gr91_5 hg, gr91_22 hg, gr91_23 hg, gr91_24 hg, gr91_25 hg, gr91_26 hg, gr91_27 hg, gr91_28 hg, gr91_29 hg, gr91_32 hg, gr91_33 hg, gr91_34 hg, gr91_35 hg, gr91_36 hg, gr91_37 hg, gr91_38 hg, gr91_39 hg, gr91_40 hg, gr91_41 hg, gr91_42 hg, gr91_44 hg, gr91_45 hg, gr91_46 hg, gr91_48 hg, gr91_49 hg, gr91_50 hg, gr91_51 hg, gr91_52 hg, a8, mb, l0, y]
          exact KK h3 p (by rw [rnE, if_neg z]) f3 a8 a15
    have l0 := lp (n - s) s (zu h2 91 15 0) (by omega) (Nat.le_refl _) (fun i z1 z2 => by omega) (fun c i z => by rw [zu, if_neg (by omega)]) (by rw [zu_i (by decide)]; exact g8) (by rw [zu_at, Nat.sub_self]; rfl)
    rw [Nat.sub_self, zq0] at l0
    apply l0
    intro h4 p' e4 f4 a8 a15
    rw [k1, ← e4] at ern
    subst ern
    by_cases l8 : 8 < rn tp n q - s
    · have c8 : (8 : Int) < ((rn tp n q - s : Nat) : Int) := by omega
      have kk : kd tp n q = 5 := by
        unfold kd
        rw [hsg, if_neg hs, ← hkk, if_pos k1, if_pos l8]
      simp only [e125_152, e125_153, e125_155, zs0, zsI, zsL, zsR, ztl1, ztl0, zc0, zcI, zcL, zcR, true_and, and_true, true_implies, false_implies, implies_true, not_true_eq_false, not_false_eq_true, and_self, Int.toNat_natCast, Nat.reduceAdd, Nat.reduceLeDiff, Nat.reduceLT, forall_eq', Option.some.injEq, zarR, zarI, zarL, zle, zq0, zq1, zq2, zq3, zq4, zq5, zq6, zq8, zq9, zq10, zq20, zq7, zq12, zq24, zq40, zq41, zq48, zq100, zq120, zq123, zq480, zq492, zq700, zq729, zq2187, zq2916, zq8748, ne_eq, Int.reduceEq, Int.reduceLT, Int.reduceLE, Int.reduceToNat, Int.reduceMul, Int.reduceAdd, Int.reduceNeg, c8]
      apply fin
      · intro c i z
        exact f4 c i (by unfold tkc at z; omega)
      · refine ⟨hq, ?_, ?_, fun z => by omega, fun z => by omega, fun z => by omega, fun z => by omega, fun z => absurd kk z⟩
        · rw [kk, f4 _ _ (by omega), g9]; rfl
        · rw [f4 _ _ (by omega), g10, hsg]
    · have c8 : ¬ (8 : Int) < ((rn tp n q - s : Nat) : Int) := by omega
      have kk : kd tp n q = 1 := by
        unfold kd
        rw [hsg, if_neg hs, ← hkk, if_pos k1, if_neg l8]
      simp only [e125_152, e125_153, e125_155, e125_158, e125_159, e125_160, e125_163, zs0, zsI, zsL, zsR, ztl1, ztl0, zc0, zcI, zcL, zcR, true_and, and_true, true_implies, false_implies, implies_true, not_true_eq_false, not_false_eq_true, and_self, Int.toNat_natCast, Nat.reduceAdd, Nat.reduceLeDiff, Nat.reduceLT, forall_eq', Option.some.injEq, zarR, zarI, zarL, zle, zq0, zq1, zq2, zq3, zq4, zq5, zq6, zq8, zq9, zq10, zq20, zq7, zq12, zq24, zq40, zq41, zq48, zq100, zq120, zq123, zq480, zq492, zq700, zq729, zq2187, zq2916, zq8748, ne_eq, Int.reduceEq, Int.reduceLT, Int.reduceLE, Int.reduceToNat, Int.reduceMul, Int.reduceAdd, Int.reduceNeg, gk91 hg, gr91_5 hg, gr91_22 hg, gr91_23 hg, gr91_24 hg, gr91_25 hg, gr91_26 hg, gr91_27 hg, gr91_28 hg, gr91_29 hg, gr91_32 hg, gr91_33 hg, gr91_34 hg, gr91_35 hg, gr91_36 hg, gr91_37 hg, gr91_38 hg, gr91_39 hg, gr91_40 hg, gr91_41 hg, gr91_42 hg, gr91_44 hg, gr91_45 hg, gr91_46 hg, gr91_48 hg, gr91_49 hg, gr91_50 hg, gr91_51 hg, gr91_52 hg, c8]
      apply fin
      · intro c i z
        rw [zu, if_neg (by unfold tkc at z; omega)]
        exact f4 c i (by unfold tkc at z; omega)
      · refine ⟨hq, ?_, ?_, fun _ => ?_, fun z => by omega, fun z => by omega, fun z => by omega, fun z => ?_⟩
        · rw [kk, zu_at]; rfl
        · rw [zu_i (by decide), f4 _ _ (by omega), g10, hsg]
        · rw [zu_i (by decide), a15, show min (rn tp n q - s) 8 = rn tp n q - s by omega]
          unfold wd
          rw [hsg]
        · rw [zu_i (by decide), a8, (kd_1 hq kk).2.2.1]
  have y1 : yes (97 ≤ bA tp n s ∧ bA tp n s ≤ 122) = 0 := yes_0 (fun y => k1 (bc.2.2.1.mp y))
  have ll := fun Q' => m_isLetter (d := d) (Q := Q') (G := G) (h := h2) (x := bA tp n s)
  have dd := fun Q' => m_isDigit (d := d) (Q := Q') (G := G) (h := h2) (x := bA tp n s)
  by_cases k2 : k = 2
  · have y2 : yes (48 ≤ bA tp n s ∧ bA tp n s ≤ 57) = 1 := yes_1 (bc.2.2.2.1.mpr k2)
    simp only [e125_64, e125_65, e125_66, e125_69, e125_70, e125_71, e125_74, e125_77, e125_78, e125_81, e125_166, e125_167, e125_170, e125_173, e125_174, e125_175, zs0, zsI, zsL, zsR, ztl1, ztl0, zc0, zcI, zcL, zcR, true_and, and_true, true_implies, false_implies, implies_true, not_true_eq_false, not_false_eq_true, and_self, Int.toNat_natCast, Nat.reduceAdd, Nat.reduceLeDiff, Nat.reduceLT, forall_eq', Option.some.injEq, zarR, zarI, zarL, zle, zq0, zq1, zq2, zq3, zq4, zq5, zq6, zq8, zq9, zq10, zq20, zq7, zq12, zq24, zq40, zq41, zq48, zq100, zq120, zq123, zq480, zq492, zq700, zq729, zq2187, zq2916, zq8748, ne_eq, Int.reduceEq, Int.reduceLT, Int.reduceLE, Int.reduceToNat, Int.reduceMul, Int.reduceAdd, Int.reduceNeg, gk91 hg, gr91_5 hg, gr91_22 hg, gr91_23 hg, gr91_24 hg, gr91_25 hg, gr91_26 hg, gr91_27 hg, gr91_28 hg, gr91_29 hg, gr91_32 hg, gr91_33 hg, gr91_34 hg, gr91_35 hg, gr91_36 hg, gr91_37 hg, gr91_38 hg, gr91_39 hg, gr91_40 hg, gr91_41 hg, gr91_42 hg, gr91_44 hg, gr91_45 hg, gr91_46 hg, gr91_48 hg, gr91_49 hg, gr91_50 hg, gr91_51 hg, gr91_52 hg, b1, ll, y1, dd, y2]
    have lp : ∀ j p (h3 : zM), p + j = n → s ≤ p → (∀ i, s ≤ i → i < p → 48 ≤ tp i ∧ tp i ≤ 57) → (∀ c i, ¬ (c = 91 ∧ (i = 8 ∨ i = 12)) → h3 c i = h2 c i) → h3 91 8 = (p : Int) → h3 91 12 = nmb tp s (min (p - s) 3) → (∀ (h4 : zM) (p' : Nat), p' = rnE tp 2 j p → (∀ c i, ¬ (c = 91 ∧ (i = 8 ∨ i = 12)) → h4 c i = h2 c i) → h4 91 8 = (p' : Int) → h4 91 12 = nmb tp s (min (p' - s) 3) → zE 125 (d + 1) Q 236 [some (zR (some 91)), some (zI (bA tp n s)), some (zI ((p' - s : Nat) : Int))] [] G h4 (0, 0)) → zE 125 (d + 1) Q 178 [some (zR (some 91)), some (zI (bA tp n s)), some (zI ((p - s : Nat) : Int))] [] G h3 (0, 0) := by
      intro j
      induction j with
      | zero =>
        intro p h3 hj hsp al f3 a8 a15 KK
        have T3 : MT tp n h3 := MT_fr T2 (f3 _ _ (by omega)) (fun i => f3 _ _ (by omega))
        have mb := fun Q' => m_byte (d := d) (Q := Q') (p := p) hg T3
        have b0 := bA_n (tp := tp) (n := n) (p := p) (by omega)
        have l0 : ∀ Q' : zQ, zRunD ztb zmt' (d + 1) 123 [zI (-1)] G h3 Q' ↔ Q' (some (zI 0)) G h3 := fun Q' => by rw [m_isDigit, yes_0 (by omega)]
        rw [e125_178]
        simp only [e125_179, e125_180, e125_183, e125_186, e125_189, zs0, zsI, zsL, zsR, ztl1, ztl0, zc0, zcI, zcL, zcR, true_and, and_true, true_implies, false_implies, implies_true, not_true_eq_false, not_false_eq_true, and_self, Int.toNat_natCast, Nat.reduceAdd, Nat.reduceLeDiff, Nat.reduceLT, forall_eq', Option.some.injEq, zarR, zarI, zarL, zle, zq0, zq1, zq2, zq3, zq4, zq5, zq6, zq8, zq9, zq10, zq20, zq7, zq12, zq24, zq40, zq41, zq48, zq100, zq120, zq123, zq480, zq492, zq700, zq729, zq2187, zq2916, zq8748, ne_eq, Int.reduceEq, Int.reduceLT, Int.reduceLE, Int.reduceToNat, Int.reduceMul, Int.reduceAdd, Int.reduceNeg, gk91 hg, gr91_5 hg, gr91_22 hg, gr91_23 hg, gr91_24 hg, gr91_25 hg, gr91_26 hg, gr91_27 hg, gr91_28 hg, gr91_29 hg, gr91_32 hg, gr91_33 hg, gr91_34 hg, gr91_35 hg, gr91_36 hg, gr91_37 hg, gr91_38 hg, gr91_39 hg, gr91_40 hg, gr91_41 hg, gr91_42 hg, gr91_44 hg, gr91_45 hg, gr91_46 hg, gr91_48 hg, gr91_49 hg, gr91_50 hg, gr91_51 hg, gr91_52 hg, a8, mb, b0, l0]
        exact KK h3 p rfl f3 a8 a15
      | succ j ih =>
        intro p h3 hj hsp al f3 a8 a15 KK
        have T3 : MT tp n h3 := MT_fr T2 (f3 _ _ (by omega)) (fun i => f3 _ _ (by omega))
        have mb := fun Q' => m_byte (d := d) (Q := Q') (p := p) hg T3
        have bc := bA_c (p := p) T (by omega)
        have l0 := fun Q' => m_isDigit (d := d) (Q := Q') (G := G) (h := h3) (x := bA tp n p)
        rw [e125_178]
        by_cases z : kB (tp p) = 2
        · have y := yes_1 (bc.2.2.2.1.mpr z)
          have zt := kB_2.mp z
          have ebt : bA tp n p = tp p := bc.2.2.2.2.2.2 (by have := bc.2.2.2.1.mpr z; omega)
          have al' : ∀ i, s ≤ i → i < p + 1 → 48 ≤ tp i ∧ tp i ≤ 57 := fun i z1 z2 => by
            by_cases y : i = p
            · rw [y]; exact zt
            · exact al i z1 (by omega)
          have er : ∀ p', p' = rnE tp 2 j (p + 1) → p' = rnE tp 2 (j + 1) p := fun p' y => by rw [rnE, if_pos z]; exact y
          by_cases l8 : p - s < 3
          · have c8 : ¬ (3 : Int) ≤ ((p - s : Nat) : Int) := by omega
            rw [show min (p - s) 3 = p - s by omega] at a15
            have wb := (vC_nmb (tp := tp) (p := s) (l := p - s) (by omega) (fun i hi => al (s + i) (by omega) (by omega))).2
            have w7 : nmb tp s (p - s) ≤ 100 := by
              have : (10 : Int) ^ (p - s) ≤ 10 ^ 2 := by
                have := Nat.pow_le_pow_right (show 0 < 10 by decide) (show p - s ≤ 2 by omega)
                exact_mod_cast this
              have e : (10 : Int) ^ 2 = 100 := by decide
              omega
            have x1 : wr (10 * nmb tp s (p - s)) = 10 * nmb tp s (p - s) := wr_id (by omega)
            have x3 : wr (wr (10 * nmb tp s (p - s) + tp p) - 48) = nmb tp s (p + 1 - s) := by
              rw [wr_id (z := 10 * nmb tp s (p - s) + tp p) (by omega), wr_id (by omega), show p + 1 - s = (p - s) + 1 by omega]
              show _ = 10 * nmb tp s (p - s) + (tp (s + (p - s)) - 48)
              rw [show s + (p - s) = p by omega]
              omega
            simp only [e125_179, e125_180, e125_183, e125_186, e125_189, zs0, zsI, zsL, zsR, ztl1, ztl0, zc0, zcI, zcL, zcR, true_and, and_true, true_implies, false_implies, implies_true, not_true_eq_false, not_false_eq_true, and_self, Int.toNat_natCast, Nat.reduceAdd, Nat.reduceLeDiff, Nat.reduceLT, forall_eq', Option.some.injEq, zarR, zarI, zarL, zle, zq0, zq1, zq2, zq3, zq4, zq5, zq6, zq8, zq9, zq10, zq20, zq7, zq12, zq24, zq40, zq41, zq48, zq100, zq120, zq123, zq480, zq492, zq700, zq729, zq2187, zq2916, zq8748, ne_eq, Int.reduceEq, Int.reduceLT, Int.reduceLE, Int.reduceToNat, Int.reduceMul, Int.reduceAdd, Int.reduceNeg, gk91 hg, gr91_5 hg, gr91_22 hg, gr91_23 hg, gr91_24 hg, gr91_25 hg, gr91_26 hg, gr91_27 hg, gr91_28 hg, gr91_29 hg, gr91_32 hg, gr91_33 hg, gr91_34 hg, gr91_35 hg, gr91_36 hg, gr91_37 hg, gr91_38 hg, gr91_39 hg, gr91_40 hg, gr91_41 hg, gr91_42 hg, gr91_44 hg, gr91_45 hg, gr91_46 hg, gr91_48 hg, gr91_49 hg, gr91_50 hg, gr91_51 hg, gr91_52 hg, a8, mb, l0, y]
            simp only [e125_192, e125_193, e125_194, e125_197, e125_198, e125_200, e125_201, e125_204, e125_205, e125_206, e125_207, e125_210, e125_213, e125_214, e125_216, e125_217, e125_220, e125_223, e125_224, e125_225, e125_228, e125_229, e125_230, e125_233, zs0, zsI, zsL, zsR, ztl1, ztl0, zc0, zcI, zcL, zcR, true_and, and_true, true_implies, false_implies, implies_true, not_true_eq_false, not_false_eq_true, and_self, Int.toNat_natCast, Nat.reduceAdd, Nat.reduceLeDiff, Nat.reduceLT, forall_eq', Option.some.injEq, zarR, zarI, zarL, zle, zq0, zq1, zq2, zq3, zq4, zq5, zq6, zq8, zq9, zq10, zq20, zq7, zq12, zq24, zq40, zq41, zq48, zq100, zq120, zq123, zq480, zq492, zq700, zq729, zq2187, zq2916, zq8748, ne_eq, Int.reduceEq, Int.reduceLT, Int.reduceLE, Int.reduceToNat, Int.reduceMul, Int.reduceAdd, Int.reduceNeg, gk91 hg, gr91_5 hg, gr91_22 hg, gr91_23 hg, gr91_24 hg, gr91_25 hg, gr91_26 hg, gr91_27 hg, gr91_28 hg, gr91_29 hg, gr91_32 hg, gr91_33 hg, gr91_34 hg, gr91_35 hg, gr91_36 hg, gr91_37 hg, gr91_38 hg, gr91_39 hg, gr91_40 hg, gr91_41 hg, gr91_42 hg, gr91_44 hg, gr91_45 hg, gr91_46 hg, gr91_48 hg, gr91_49 hg, gr91_50 hg, gr91_51 hg, gr91_52 hg, a8, mb, c8, a15, ebt, x1, x3, zu_i (show ¬ 8 = 12 by decide), wr_s (show p < 2147483647 by omega), wr_s (show p - s < 2147483647 by omega)]
            have := ih (p + 1) (zu (zu h3 91 12 (nmb tp s (p + 1 - s))) 91 8 ((p + 1 : Nat) : Int)) (by omega) (by omega) al' (fun c i z => by rw [zu, if_neg (by omega), zu, if_neg (by omega)]; exact f3 c i z) zu_at (by rw [zu_i (by decide), zu_at, show min (p + 1 - s) 3 = p + 1 - s by omega]) (fun h4 p' e4 => KK h4 p' (er p' e4))
            rw [show p + 1 - s = p - s + 1 by omega] at this ⊢
            exact this
          · have c8 : (3 : Int) ≤ ((p - s : Nat) : Int) := by omega
            simp only [e125_179, e125_180, e125_183, e125_186, e125_189, e125_192, e125_193, e125_194, e125_197, e125_198, e125_200, e125_201, e125_204, e125_205, e125_206, e125_207, e125_210, e125_213, e125_214, e125_216, e125_217, e125_220, e125_223, e125_224, e125_225, e125_228, e125_229, e125_230, e125_233, zs0, zsI, zsL, zsR, ztl1, ztl0, zc0, zcI, zcL, zcR, true_and, and_true, true_implies, false_implies, implies_true, not_true_eq_false, not_false_eq_true, and_self, Int.toNat_natCast, Nat.reduceAdd, Nat.reduceLeDiff, Nat.reduceLT, forall_eq', Option.some.injEq, zarR, zarI, zarL, zle, zq0, zq1, zq2, zq3, zq4, zq5, zq6, zq8, zq9, zq10, zq20, zq7, zq12, zq24, zq40, zq41, zq48, zq100, zq120, zq123, zq480, zq492, zq700, zq729, zq2187, zq2916, zq8748, ne_eq, Int.reduceEq, Int.reduceLT, Int.reduceLE, Int.reduceToNat, Int.reduceMul, Int.reduceAdd, Int.reduceNeg, gk91 hg, gr91_5 hg, gr91_22 hg, gr91_23 hg, gr91_24 hg, gr91_25 hg, gr91_26 hg, gr91_27 hg, gr91_28 hg, gr91_29 hg, gr91_32 hg, gr91_33 hg, gr91_34 hg, gr91_35 hg, gr91_36 hg, gr91_37 hg, gr91_38 hg, gr91_39 hg, gr91_40 hg, gr91_41 hg, gr91_42 hg, gr91_44 hg, gr91_45 hg, gr91_46 hg, gr91_48 hg, gr91_49 hg, gr91_50 hg, gr91_51 hg, gr91_52 hg, a8, mb, l0, y, c8, wr_s (show p < 2147483647 by omega), wr_s (show p - s < 2147483647 by omega)]
            have := ih (p + 1) (zu h3 91 8 ((p + 1 : Nat) : Int)) (by omega) (by omega) al' (fun c i z => by rw [zu, if_neg (by omega)]; exact f3 c i z) zu_at (by rw [zu_i (by decide), a15, show min (p + 1 - s) 3 = min (p - s) 3 by omega]) (fun h4 p' e4 => KK h4 p' (er p' e4))
            rw [show p + 1 - s = p - s + 1 by omega] at this
            exact this
        · have y := yes_0 (fun y => z (bc.2.2.2.1.mp y))
          simp only [e125_179, e125_180, e125_183, e125_186, e125_189, zs0, zsI, zsL, zsR, ztl1, ztl0, zc0, zcI, zcL, zcR, true_and, and_true, true_implies, false_implies, implies_true, not_true_eq_false, not_false_eq_true, and_self, Int.toNat_natCast, Nat.reduceAdd, Nat.reduceLeDiff, Nat.reduceLT, forall_eq', Option.some.injEq, zarR, zarI, zarL, zle, zq0, zq1, zq2, zq3, zq4, zq5, zq6, zq8, zq9, zq10, zq20, zq7, zq12, zq24, zq40, zq41, zq48, zq100, zq120, zq123, zq480, zq492, zq700, zq729, zq2187, zq2916, zq8748, ne_eq, Int.reduceEq, Int.reduceLT, Int.reduceLE, Int.reduceToNat, Int.reduceMul, Int.reduceAdd, Int.reduceNeg, gk91 hg, gr91_5 hg, gr91_22 hg, gr91_23 hg, gr91_24 hg, gr91_25 hg, gr91_26 hg, gr91_27 hg, gr91_28 hg, gr91_29 hg, gr91_32 hg, gr91_33 hg, gr91_34 hg, gr91_35 hg, gr91_36 hg, gr91_37 hg, gr91_38 hg, gr91_39 hg, gr91_40 hg, gr91_41 hg, gr91_42 hg, gr91_44 hg, gr91_45 hg, gr91_46 hg, gr91_48 hg, gr91_49 hg, gr91_50 hg, gr91_51 hg, gr91_52 hg, a8, mb, l0, y]
          exact KK h3 p (by rw [rnE, if_neg z]) f3 a8 a15
    have l0 := lp (n - s) s (zu h2 91 12 0) (by omega) (Nat.le_refl _) (fun i z1 z2 => by omega) (fun c i z => by rw [zu, if_neg (by omega)]) (by rw [zu_i (by decide)]; exact g8) (by rw [zu_at, Nat.sub_self]; rfl)
    rw [Nat.sub_self, zq0] at l0
    apply l0
    intro h4 p' e4 f4 a8 a15
    rw [k2, ← e4] at ern
    subst ern
    by_cases l8 : 3 < rn tp n q - s
    · have c8 : (3 : Int) < ((rn tp n q - s : Nat) : Int) := by omega
      have kk : kd tp n q = 5 := by
        unfold kd
        rw [hsg, if_neg hs, ← hkk, if_neg k1, if_pos k2, if_pos l8]
      simp only [e125_236, e125_237, e125_238, zs0, zsI, zsL, zsR, ztl1, ztl0, zc0, zcI, zcL, zcR, true_and, and_true, true_implies, false_implies, implies_true, not_true_eq_false, not_false_eq_true, and_self, Int.toNat_natCast, Nat.reduceAdd, Nat.reduceLeDiff, Nat.reduceLT, forall_eq', Option.some.injEq, zarR, zarI, zarL, zle, zq0, zq1, zq2, zq3, zq4, zq5, zq6, zq8, zq9, zq10, zq20, zq7, zq12, zq24, zq40, zq41, zq48, zq100, zq120, zq123, zq480, zq492, zq700, zq729, zq2187, zq2916, zq8748, ne_eq, Int.reduceEq, Int.reduceLT, Int.reduceLE, Int.reduceToNat, Int.reduceMul, Int.reduceAdd, Int.reduceNeg, c8]
      apply fin
      · intro c i z
        exact f4 c i (by unfold tkc at z; omega)
      · refine ⟨hq, ?_, ?_, fun z => by omega, fun z => by omega, fun z => by omega, fun z => by omega, fun z => absurd kk z⟩
        · rw [kk, f4 _ _ (by omega), g9]; rfl
        · rw [f4 _ _ (by omega), g10, hsg]
    · have c8 : ¬ (3 : Int) < ((rn tp n q - s : Nat) : Int) := by omega
      have kk : kd tp n q = 2 := by
        unfold kd
        rw [hsg, if_neg hs, ← hkk, if_neg k1, if_pos k2, if_neg l8]
      simp only [e125_236, e125_237, e125_238, e125_241, e125_242, e125_243, e125_246, zs0, zsI, zsL, zsR, ztl1, ztl0, zc0, zcI, zcL, zcR, true_and, and_true, true_implies, false_implies, implies_true, not_true_eq_false, not_false_eq_true, and_self, Int.toNat_natCast, Nat.reduceAdd, Nat.reduceLeDiff, Nat.reduceLT, forall_eq', Option.some.injEq, zarR, zarI, zarL, zle, zq0, zq1, zq2, zq3, zq4, zq5, zq6, zq8, zq9, zq10, zq20, zq7, zq12, zq24, zq40, zq41, zq48, zq100, zq120, zq123, zq480, zq492, zq700, zq729, zq2187, zq2916, zq8748, ne_eq, Int.reduceEq, Int.reduceLT, Int.reduceLE, Int.reduceToNat, Int.reduceMul, Int.reduceAdd, Int.reduceNeg, gk91 hg, gr91_5 hg, gr91_22 hg, gr91_23 hg, gr91_24 hg, gr91_25 hg, gr91_26 hg, gr91_27 hg, gr91_28 hg, gr91_29 hg, gr91_32 hg, gr91_33 hg, gr91_34 hg, gr91_35 hg, gr91_36 hg, gr91_37 hg, gr91_38 hg, gr91_39 hg, gr91_40 hg, gr91_41 hg, gr91_42 hg, gr91_44 hg, gr91_45 hg, gr91_46 hg, gr91_48 hg, gr91_49 hg, gr91_50 hg, gr91_51 hg, gr91_52 hg, c8]
      apply fin
      · intro c i z
        rw [zu, if_neg (by unfold tkc at z; omega)]
        exact f4 c i (by unfold tkc at z; omega)
      · refine ⟨hq, ?_, ?_, fun z => by omega, fun z => ?_, fun z => by omega, fun z => by omega, fun z => ?_⟩
        · rw [kk, zu_at]; rfl
        · rw [zu_i (by decide), f4 _ _ (by omega), g10, hsg]
        · rw [zu_i (by decide), a15, show min (rn tp n q - s) 3 = rn tp n q - s by omega]
          unfold nb
          rw [hsg]
        · rw [zu_i (by decide), a8, (kd_2 kk).2.2.1]
  have y2 : yes (48 ≤ bA tp n s ∧ bA tp n s ≤ 57) = 0 := yes_0 (fun y => k2 (bc.2.2.2.1.mp y))
  have kk : kd tp n q = k := by
    unfold kd
    rw [hsg, if_neg hs, ← hkk, if_neg k1, if_neg k2]
  have nx : nxt tp n q = s + 1 := by
    unfold nxt
    rw [hsg, if_neg hs, ← hkk, if_neg (by omega)]
  have sg : ∀ m : Int, (k = 3 ∧ m = 59 ∨ k = 4 ∧ m = 44) → TKm tp n (zu (zu (zu h2 91 9 4) 91 11 m) 91 8 ((s + 1 : Nat) : Int)) q := by
    intro m hm
    refine ⟨hq, ?_, ?_, fun z => by omega, fun z => by omega, fun z => ?_, fun z => ?_, fun z => ?_⟩
    · rw [kk, zu_i (by decide), zu_i (by decide), zu_at]
      unfold soK
      rw [if_neg (by omega), if_neg (by omega), if_neg (by omega), if_pos (by omega)]
    · rw [zu_i (by decide), zu_i (by decide), zu_i (by decide), g10, hsg]
    · rw [zu_i (by decide), zu_at]; omega
    · rw [zu_i (by decide), zu_at]; omega
    · rw [zu_at, nx]
  have g8'' : ∀ m, zu (zu h2 91 9 4) 91 11 m 91 8 = (s : Int) := fun m => by rw [zu_i (by decide), zu_i (by decide)]; exact g8
  by_cases k3 : k = 3
  · have b3 := bc.2.2.2.2.1.mpr k3
    simp only [e125_64, e125_65, e125_66, e125_69, e125_70, e125_71, e125_74, e125_77, e125_78, e125_81, e125_166, e125_167, e125_170, zs0, zsI, zsL, zsR, ztl1, ztl0, zc0, zcI, zcL, zcR, true_and, and_true, true_implies, false_implies, implies_true, not_true_eq_false, not_false_eq_true, and_self, Int.toNat_natCast, Nat.reduceAdd, Nat.reduceLeDiff, Nat.reduceLT, forall_eq', Option.some.injEq, zarR, zarI, zarL, zle, zq0, zq1, zq2, zq3, zq4, zq5, zq6, zq8, zq9, zq10, zq20, zq7, zq12, zq24, zq40, zq41, zq48, zq100, zq120, zq123, zq480, zq492, zq700, zq729, zq2187, zq2916, zq8748, ne_eq, Int.reduceEq, Int.reduceLT, Int.reduceLE, Int.reduceToNat, Int.reduceMul, Int.reduceAdd, Int.reduceNeg, gk91 hg, gr91_5 hg, gr91_22 hg, gr91_23 hg, gr91_24 hg, gr91_25 hg, gr91_26 hg, gr91_27 hg, gr91_28 hg, gr91_29 hg, gr91_32 hg, gr91_33 hg, gr91_34 hg, gr91_35 hg, gr91_36 hg, gr91_37 hg, gr91_38 hg, gr91_39 hg, gr91_40 hg, gr91_41 hg, gr91_42 hg, gr91_44 hg, gr91_45 hg, gr91_46 hg, gr91_48 hg, gr91_49 hg, gr91_50 hg, gr91_51 hg, gr91_52 hg, b1, ll, y1, dd, y2]
    simp only [e125_249, e125_250, e125_252, e125_255, e125_256, e125_258, e125_261, e125_262, e125_263, e125_266, e125_267, e125_268, e125_271, e125_272, e125_273, e125_276, e125_277, e125_278, zs0, zsI, zsL, zsR, ztl1, ztl0, zc0, zcI, zcL, zcR, true_and, and_true, true_implies, false_implies, implies_true, not_true_eq_false, not_false_eq_true, and_self, Int.toNat_natCast, Nat.reduceAdd, Nat.reduceLeDiff, Nat.reduceLT, forall_eq', Option.some.injEq, zarR, zarI, zarL, zle, zq0, zq1, zq2, zq3, zq4, zq5, zq6, zq8, zq9, zq10, zq20, zq7, zq12, zq24, zq40, zq41, zq48, zq100, zq120, zq123, zq480, zq492, zq700, zq729, zq2187, zq2916, zq8748, ne_eq, Int.reduceEq, Int.reduceLT, Int.reduceLE, Int.reduceToNat, Int.reduceMul, Int.reduceAdd, Int.reduceNeg, gk91 hg, gr91_5 hg, gr91_22 hg, gr91_23 hg, gr91_24 hg, gr91_25 hg, gr91_26 hg, gr91_27 hg, gr91_28 hg, gr91_29 hg, gr91_32 hg, gr91_33 hg, gr91_34 hg, gr91_35 hg, gr91_36 hg, gr91_37 hg, gr91_38 hg, gr91_39 hg, gr91_40 hg, gr91_41 hg, gr91_42 hg, gr91_44 hg, gr91_45 hg, gr91_46 hg, gr91_48 hg, gr91_49 hg, gr91_50 hg, gr91_51 hg, gr91_52 hg, b3, g8'', wr_s (show s < 2147483647 by omega)]
    apply fin
    · intro c i z
      rw [zu, if_neg (by unfold tkc at z; omega), zu, if_neg (by unfold tkc at z; omega), zu, if_neg (by unfold tkc at z; omega)]
    · exact sg 59 (Or.inl ⟨k3, rfl⟩)
  have b3 : ¬ bA tp n s = 59 := fun y => k3 (bc.2.2.2.2.1.mp y)
  by_cases k4 : k = 4
  · have b4 := bc.2.2.2.2.2.1.mpr k4
    simp only [e125_64, e125_65, e125_66, e125_69, e125_70, e125_71, e125_74, e125_77, e125_78, e125_81, e125_166, e125_167, e125_170, zs0, zsI, zsL, zsR, ztl1, ztl0, zc0, zcI, zcL, zcR, true_and, and_true, true_implies, false_implies, implies_true, not_true_eq_false, not_false_eq_true, and_self, Int.toNat_natCast, Nat.reduceAdd, Nat.reduceLeDiff, Nat.reduceLT, forall_eq', Option.some.injEq, zarR, zarI, zarL, zle, zq0, zq1, zq2, zq3, zq4, zq5, zq6, zq8, zq9, zq10, zq20, zq7, zq12, zq24, zq40, zq41, zq48, zq100, zq120, zq123, zq480, zq492, zq700, zq729, zq2187, zq2916, zq8748, ne_eq, Int.reduceEq, Int.reduceLT, Int.reduceLE, Int.reduceToNat, Int.reduceMul, Int.reduceAdd, Int.reduceNeg, gk91 hg, gr91_5 hg, gr91_22 hg, gr91_23 hg, gr91_24 hg, gr91_25 hg, gr91_26 hg, gr91_27 hg, gr91_28 hg, gr91_29 hg, gr91_32 hg, gr91_33 hg, gr91_34 hg, gr91_35 hg, gr91_36 hg, gr91_37 hg, gr91_38 hg, gr91_39 hg, gr91_40 hg, gr91_41 hg, gr91_42 hg, gr91_44 hg, gr91_45 hg, gr91_46 hg, gr91_48 hg, gr91_49 hg, gr91_50 hg, gr91_51 hg, gr91_52 hg, b1, ll, y1, dd, y2]
    simp only [e125_249, e125_250, e125_252, e125_255, e125_256, e125_258, e125_261, e125_262, e125_263, e125_266, e125_267, e125_268, e125_271, e125_272, e125_273, e125_276, e125_277, e125_278, zs0, zsI, zsL, zsR, ztl1, ztl0, zc0, zcI, zcL, zcR, true_and, and_true, true_implies, false_implies, implies_true, not_true_eq_false, not_false_eq_true, and_self, Int.toNat_natCast, Nat.reduceAdd, Nat.reduceLeDiff, Nat.reduceLT, forall_eq', Option.some.injEq, zarR, zarI, zarL, zle, zq0, zq1, zq2, zq3, zq4, zq5, zq6, zq8, zq9, zq10, zq20, zq7, zq12, zq24, zq40, zq41, zq48, zq100, zq120, zq123, zq480, zq492, zq700, zq729, zq2187, zq2916, zq8748, ne_eq, Int.reduceEq, Int.reduceLT, Int.reduceLE, Int.reduceToNat, Int.reduceMul, Int.reduceAdd, Int.reduceNeg, gk91 hg, gr91_5 hg, gr91_22 hg, gr91_23 hg, gr91_24 hg, gr91_25 hg, gr91_26 hg, gr91_27 hg, gr91_28 hg, gr91_29 hg, gr91_32 hg, gr91_33 hg, gr91_34 hg, gr91_35 hg, gr91_36 hg, gr91_37 hg, gr91_38 hg, gr91_39 hg, gr91_40 hg, gr91_41 hg, gr91_42 hg, gr91_44 hg, gr91_45 hg, gr91_46 hg, gr91_48 hg, gr91_49 hg, gr91_50 hg, gr91_51 hg, gr91_52 hg, b3, b4, g8'', wr_s (show s < 2147483647 by omega)]
    apply fin
    · intro c i z
      rw [zu, if_neg (by unfold tkc at z; omega), zu, if_neg (by unfold tkc at z; omega), zu, if_neg (by unfold tkc at z; omega)]
    · exact sg 44 (Or.inr ⟨k4, rfl⟩)
  have b4 : ¬ bA tp n s = 44 := fun y => k4 (bc.2.2.2.2.2.1.mp y)
  simp only [e125_64, e125_65, e125_66, e125_69, e125_70, e125_71, e125_74, e125_77, e125_78, e125_81, e125_166, e125_167, e125_170, e125_249, e125_250, e125_252, e125_255, e125_256, e125_258, zs0, zsI, zsL, zsR, ztl1, ztl0, zc0, zcI, zcL, zcR, true_and, and_true, true_implies, false_implies, implies_true, not_true_eq_false, not_false_eq_true, and_self, Int.toNat_natCast, Nat.reduceAdd, Nat.reduceLeDiff, Nat.reduceLT, forall_eq', Option.some.injEq, zarR, zarI, zarL, zle, zq0, zq1, zq2, zq3, zq4, zq5, zq6, zq8, zq9, zq10, zq20, zq7, zq12, zq24, zq40, zq41, zq48, zq100, zq120, zq123, zq480, zq492, zq700, zq729, zq2187, zq2916, zq8748, ne_eq, Int.reduceEq, Int.reduceLT, Int.reduceLE, Int.reduceToNat, Int.reduceMul, Int.reduceAdd, Int.reduceNeg, gk91 hg, gr91_5 hg, gr91_22 hg, gr91_23 hg, gr91_24 hg, gr91_25 hg, gr91_26 hg, gr91_27 hg, gr91_28 hg, gr91_29 hg, gr91_32 hg, gr91_33 hg, gr91_34 hg, gr91_35 hg, gr91_36 hg, gr91_37 hg, gr91_38 hg, gr91_39 hg, gr91_40 hg, gr91_41 hg, gr91_42 hg, gr91_44 hg, gr91_45 hg, gr91_46 hg, gr91_48 hg, gr91_49 hg, gr91_50 hg, gr91_51 hg, gr91_52 hg, b1, ll, y1, dd, y2, b3, b4]
  apply fin h2 (fun _ _ _ => rfl)
  refine ⟨hq, ?_, ?_, fun z => by omega, fun z => by omega, fun z => by omega, fun z => by omega, fun z => by omega⟩
  · rw [kk, g9]
    unfold soK
    rw [if_neg (by omega), if_neg (by omega), if_neg (by omega), if_neg (by omega)]
  · rw [g10, hsg]
end MK
