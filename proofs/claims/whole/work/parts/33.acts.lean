/-! acts: of a baker by steps, of all bakers together by one number -/
def aOld (T : aTn) (a : Nat) : Nat := if tw T = 1 then a / nP T else a
def aNw (T : aTn) (a : Nat) : Nat := if tw T = 1 then a % nP T else a
def nA (T : aTn) : Nat := if tw T = 1 then nP T * nP T else nP T
def tgU (ac : Nat → Nat) (nb : Nat) : Nat → Nat
  | 0 => 1
  | j + 1 => tgU ac nb j * ac (nb - 1 - j)
def sd (ac : Nat → Nat) (nb b : Nat) : Nat := tgU ac nb (nb - 1 - b)
def tg (ac : Nat → Nat) (nb : Nat) : Nat := tgU ac nb nb
def aAct (ac : Nat → Nat) (nb all b : Nat) : Nat := all / sd ac nb b % ac b
def aOwn (T : aTn) (ac : Nat → Nat) (all b : Nat) : Int := tr T 8 (aOld T (aAct ac (nB T) all b))
def aOth (T : aTn) (ac : Nat → Nat) (all b : Nat) : Int := tr T 8 (aNw T (aAct ac (nB T) all b))
def aOf (T : aTn) (o n : Nat) : Nat := if tw T = 1 then o * nP T + n else o
def acOk (T : aTn) (ac : Nat → Nat) : Prop := ∀ b, 1 ≤ ac b ∧ ac b ≤ nA T
theorem nA_b {T : aTn} (hw : wT T) : 1 ≤ nA T ∧ nA T ≤ 9 := by
  have h1 := hw.2.2.1
  unfold nA
  split
  · have h2 : nP T = 1 ∨ nP T = 2 ∨ nP T = 3 := by omega
    rcases h2 with h2 | h2 | h2 <;> rw [h2] <;> decide
  · omega
theorem aOld_b {T : aTn} (hw : wT T) {a : Nat} (ha : a < nA T) : aOld T a < nP T := by
  have h1 := hw.2.2.1
  unfold nA at ha
  unfold aOld
  split
  · rename_i h2
    rw [if_pos h2] at ha
    exact Nat.div_lt_of_lt_mul ha
  · rename_i h2
    rw [if_neg h2] at ha
    exact ha
theorem aNw_b {T : aTn} (hw : wT T) {a : Nat} (ha : a < nA T) : aNw T a < nP T := by
  have h1 := hw.2.2.1
  unfold nA at ha
  unfold aNw
  split
  · exact Nat.mod_lt _ (by omega)
  · rename_i h2
    rw [if_neg h2] at ha
    exact ha
theorem aAct_b {T : aTn} {ac : Nat → Nat} (hc : acOk T ac) (nb all b : Nat) : aAct ac nb all b < nA T := by
  have h1 := hc b
  unfold aAct
  exact Nat.lt_of_lt_of_le (Nat.mod_lt _ (by omega)) h1.2
theorem aOwn_b {T : aTn} (hw : wT T) (ac : Nat → Nat) (all : Nat) : bP (aOwn T ac all) := fun _ => (hw.2.2.2.2.2 _).2.2.2.2.2.2.2.2
theorem aOth_b {T : aTn} (hw : wT T) (ac : Nat → Nat) (all : Nat) : bP (aOth T ac all) := fun _ => (hw.2.2.2.2.2 _).2.2.2.2.2.2.2.2
theorem tgU_b {T : aTn} (hw : wT T) {ac : Nat → Nat} (hc : acOk T ac) (nb j : Nat) (hj : j ≤ 3) : 1 ≤ tgU ac nb j ∧ tgU ac nb j ≤ 729 ∧ (j ≤ 2 → tgU ac nb j ≤ 81) ∧ (j ≤ 1 → tgU ac nb j ≤ 9) := by
  have h1 := nA_b hw
  have h9 : ∀ b, 1 ≤ ac b ∧ ac b ≤ 9 := fun b => by
    have := hc b
    omega
  have e0 : tgU ac nb 0 = 1 := rfl
  have e1 : tgU ac nb 1 = 1 * ac (nb - 1 - 0) := rfl
  have e2 : tgU ac nb 2 = 1 * ac (nb - 1 - 0) * ac (nb - 1 - 1) := rfl
  have e3 : tgU ac nb 3 = 1 * ac (nb - 1 - 0) * ac (nb - 1 - 1) * ac (nb - 1 - 2) := rfl
  have p0 := h9 (nb - 1 - 0)
  have p1 := h9 (nb - 1 - 1)
  have p2 := h9 (nb - 1 - 2)
  have q1 : 1 * ac (nb - 1 - 0) * ac (nb - 1 - 1) ≤ 9 * 9 := Nat.mul_le_mul (by omega) p1.2
  have q2 : 1 * 1 ≤ 1 * ac (nb - 1 - 0) * ac (nb - 1 - 1) := Nat.mul_le_mul (by omega) p1.1
  have q3 : 1 * ac (nb - 1 - 0) * ac (nb - 1 - 1) * ac (nb - 1 - 2) ≤ 81 * 9 := Nat.mul_le_mul (by omega) p2.2
  have q4 : 1 * 1 ≤ 1 * ac (nb - 1 - 0) * ac (nb - 1 - 1) * ac (nb - 1 - 2) := Nat.mul_le_mul (by omega) p2.1
  have hj' : j = 0 ∨ j = 1 ∨ j = 2 ∨ j = 3 := by omega
  rcases hj' with rfl | rfl | rfl | rfl
  · omega
  · omega
  · omega
  · omega
theorem sd_b {T : aTn} (hw : wT T) {ac : Nat → Nat} (hc : acOk T ac) (b : Nat) : 1 ≤ sd ac (nB T) b ∧ sd ac (nB T) b ≤ 81 := by
  have h1 := hw.1
  have h2 := tgU_b hw hc (nB T) (nB T - 1 - b) (by omega)
  unfold sd
  omega
theorem tg_b {T : aTn} (hw : wT T) {ac : Nat → Nat} (hc : acOk T ac) : 1 ≤ tg ac (nB T) ∧ tg ac (nB T) ≤ 729 := by
  have h1 := hw.1
  have h2 := tgU_b hw hc (nB T) (nB T) (by omega)
  unfold tg
  omega
section AC16
variable {d : Nat} {Q : zQ} {G : zG} {h : zM} {T : aTn}
theorem c_acts16 (hg : gS G) (hT : kT h 18 T) (hp : nP T ≤ 3) : zRunD ztb zmt' (d + 1) 48 [zR (some 18)] G h Q ↔ Q (some (zI (nA T : Nat))) G h := by
  rw [r48]
  have e1 := hT.2.2.1
  have e2 := hT.2.2.2.1
  have h3 : nP T = 0 ∨ nP T = 1 ∨ nP T = 2 ∨ nP T = 3 := by omega
  by_cases c : tw T = 1
  · have e : wr ((nP T : Int) * (nP T : Int)) = ((nP T * nP T : Nat) : Int) := by
      rcases h3 with h3 | h3 | h3 | h3 <;> rw [h3] <;> decide
    simp only [e48_0, e48_1, e48_4, e48_5, e48_8, e48_9, e48_12, e48_13, e48_16, e48_17, e48_20, e48_21, e48_24, zs0, zsI, zsL, zsR, ztl1, ztl0, zc0, zcI, zcL, zcR, true_and, and_true, true_implies, false_implies, implies_true, not_true_eq_false, not_false_eq_true, and_self, Int.toNat_natCast, Nat.reduceAdd, Nat.reduceLeDiff, Nat.reduceLT, forall_eq', Option.some.injEq, zarR, zarI, zarL, zle, zq0, zq1, zq2, zq3, zq4, zq5, zq6, zq8, zq9, zq10, zq20, zq7, zq12, zq24, zq40, zq41, zq48, zq100, zq120, zq123, zq480, zq492, zq700, zq729, zq2187, zq2916, zq8748, ne_eq, Int.reduceEq, Int.reduceLT, Int.reduceLE, Int.reduceToNat, Int.reduceMul, Int.reduceAdd, Int.reduceNeg, gk18 hg, gr18_0 hg, gr18_1 hg, gr18_2 hg, gr18_3 hg, gr18_4 hg, gr18_5 hg, gr18_6 hg, gr18_7 hg, gr18_8 hg, e1, e2, c, e, nA, if_true]
  · simp only [e48_0, e48_1, e48_4, e48_5, e48_8, e48_9, e48_12, e48_13, e48_16, e48_17, e48_20, e48_21, e48_24, zs0, zsI, zsL, zsR, ztl1, ztl0, zc0, zcI, zcL, zcR, true_and, and_true, true_implies, false_implies, implies_true, not_true_eq_false, not_false_eq_true, and_self, Int.toNat_natCast, Nat.reduceAdd, Nat.reduceLeDiff, Nat.reduceLT, forall_eq', Option.some.injEq, zarR, zarI, zarL, zle, zq0, zq1, zq2, zq3, zq4, zq5, zq6, zq8, zq9, zq10, zq20, zq7, zq12, zq24, zq40, zq41, zq48, zq100, zq120, zq123, zq480, zq492, zq700, zq729, zq2187, zq2916, zq8748, ne_eq, Int.reduceEq, Int.reduceLT, Int.reduceLE, Int.reduceToNat, Int.reduceMul, Int.reduceAdd, Int.reduceNeg, gk18 hg, gr18_0 hg, gr18_1 hg, gr18_2 hg, gr18_3 hg, gr18_4 hg, gr18_5 hg, gr18_6 hg, gr18_7 hg, gr18_8 hg, e1, e2, c, nA, if_false]
theorem c_old16 (hg : gS G) (hT : kT h 18 T) (hp : 1 ≤ nP T) {a : Nat} (ha : (a : Int) < 1000) : zRunD ztb zmt' (d + 1) 49 [zR (some 18), zI a] G h Q ↔ Q (some (zI (aOld T a : Nat))) G h := by
  rw [r49]
  have e1 := hT.2.2.1
  have e2 := hT.2.2.2.1
  have c2 : ¬ (nP T : Int) ≤ 0 := by omega
  have c3 : ¬ (nP T : Int) = 0 := by omega
  by_cases c : tw T = 1
  · have e : wr ((a : Int).tdiv (nP T : Int)) = ((a / nP T : Nat) : Int) := by
      rw [Int.tdiv_eq_ediv_of_nonneg (by omega), ← Int.natCast_ediv]
      have h5 : a / nP T ≤ a := Nat.div_le_self _ _
      generalize a / nP T = q at h5 ⊢
      exact wr_id (by omega)
    simp only [e49_0, e49_1, e49_4, e49_5, e49_8, e49_9, e49_12, e49_15, e49_16, e49_17, e49_20, e49_21, e49_24, e49_25, zs0, zsI, zsL, zsR, ztl1, ztl0, zc0, zcI, zcL, zcR, true_and, and_true, true_implies, false_implies, implies_true, not_true_eq_false, not_false_eq_true, and_self, Int.toNat_natCast, Nat.reduceAdd, Nat.reduceLeDiff, Nat.reduceLT, forall_eq', Option.some.injEq, zarR, zarI, zarL, zle, zq0, zq1, zq2, zq3, zq4, zq5, zq6, zq8, zq9, zq10, zq20, zq7, zq12, zq24, zq40, zq41, zq48, zq100, zq120, zq123, zq480, zq492, zq700, zq729, zq2187, zq2916, zq8748, ne_eq, Int.reduceEq, Int.reduceLT, Int.reduceLE, Int.reduceToNat, Int.reduceMul, Int.reduceAdd, Int.reduceNeg, gk18 hg, gr18_0 hg, gr18_1 hg, gr18_2 hg, gr18_3 hg, gr18_4 hg, gr18_5 hg, gr18_6 hg, gr18_7 hg, gr18_8 hg, e1, e2, c, c2, c3, e, aOld, if_true]
  · simp only [e49_0, e49_1, e49_4, e49_5, e49_8, e49_9, e49_12, e49_15, e49_16, e49_17, e49_20, e49_21, e49_24, e49_25, zs0, zsI, zsL, zsR, ztl1, ztl0, zc0, zcI, zcL, zcR, true_and, and_true, true_implies, false_implies, implies_true, not_true_eq_false, not_false_eq_true, and_self, Int.toNat_natCast, Nat.reduceAdd, Nat.reduceLeDiff, Nat.reduceLT, forall_eq', Option.some.injEq, zarR, zarI, zarL, zle, zq0, zq1, zq2, zq3, zq4, zq5, zq6, zq8, zq9, zq10, zq20, zq7, zq12, zq24, zq40, zq41, zq48, zq100, zq120, zq123, zq480, zq492, zq700, zq729, zq2187, zq2916, zq8748, ne_eq, Int.reduceEq, Int.reduceLT, Int.reduceLE, Int.reduceToNat, Int.reduceMul, Int.reduceAdd, Int.reduceNeg, gk18 hg, gr18_0 hg, gr18_1 hg, gr18_2 hg, gr18_3 hg, gr18_4 hg, gr18_5 hg, gr18_6 hg, gr18_7 hg, gr18_8 hg, e1, e2, c, aOld, if_false]
theorem c_new16 (hg : gS G) (hT : kT h 18 T) (hp : 1 ≤ nP T) {a : Nat} : zRunD ztb zmt' (d + 1) 50 [zR (some 18), zI a] G h Q ↔ Q (some (zI (aNw T a : Nat))) G h := by
  rw [r50]
  have e1 := hT.2.2.1
  have e2 := hT.2.2.2.1
  have c2 : ¬ (nP T : Int) ≤ 0 := by omega
  have c3 : ¬ (nP T : Int) = 0 := by omega
  by_cases c : tw T = 1
  · have e : (a : Int).tmod (nP T : Int) = ((a % nP T : Nat) : Int) := by
      rw [Int.tmod_eq_emod_of_nonneg (by omega), ← Int.natCast_emod]
    simp only [e50_0, e50_1, e50_4, e50_5, e50_8, e50_9, e50_12, e50_15, e50_16, e50_17, e50_20, e50_21, e50_24, e50_25, zs0, zsI, zsL, zsR, ztl1, ztl0, zc0, zcI, zcL, zcR, true_and, and_true, true_implies, false_implies, implies_true, not_true_eq_false, not_false_eq_true, and_self, Int.toNat_natCast, Nat.reduceAdd, Nat.reduceLeDiff, Nat.reduceLT, forall_eq', Option.some.injEq, zarR, zarI, zarL, zle, zq0, zq1, zq2, zq3, zq4, zq5, zq6, zq8, zq9, zq10, zq20, zq7, zq12, zq24, zq40, zq41, zq48, zq100, zq120, zq123, zq480, zq492, zq700, zq729, zq2187, zq2916, zq8748, ne_eq, Int.reduceEq, Int.reduceLT, Int.reduceLE, Int.reduceToNat, Int.reduceMul, Int.reduceAdd, Int.reduceNeg, gk18 hg, gr18_0 hg, gr18_1 hg, gr18_2 hg, gr18_3 hg, gr18_4 hg, gr18_5 hg, gr18_6 hg, gr18_7 hg, gr18_8 hg, e1, e2, c, c2, c3, e, aNw, if_true]
  · simp only [e50_0, e50_1, e50_4, e50_5, e50_8, e50_9, e50_12, e50_15, e50_16, e50_17, e50_20, e50_21, e50_24, e50_25, zs0, zsI, zsL, zsR, ztl1, ztl0, zc0, zcI, zcL, zcR, true_and, and_true, true_implies, false_implies, implies_true, not_true_eq_false, not_false_eq_true, and_self, Int.toNat_natCast, Nat.reduceAdd, Nat.reduceLeDiff, Nat.reduceLT, forall_eq', Option.some.injEq, zarR, zarI, zarL, zle, zq0, zq1, zq2, zq3, zq4, zq5, zq6, zq8, zq9, zq10, zq20, zq7, zq12, zq24, zq40, zq41, zq48, zq100, zq120, zq123, zq480, zq492, zq700, zq729, zq2187, zq2916, zq8748, ne_eq, Int.reduceEq, Int.reduceLT, Int.reduceLE, Int.reduceToNat, Int.reduceMul, Int.reduceAdd, Int.reduceNeg, gk18 hg, gr18_0 hg, gr18_1 hg, gr18_2 hg, gr18_3 hg, gr18_4 hg, gr18_5 hg, gr18_6 hg, gr18_7 hg, gr18_8 hg, e1, e2, c, aNw, if_false]

theorem c_actOf16 (hg : gS G) (hT : kT h 18 T) (hp : nP T ≤ 3) {o n : Nat} (ho : o < 3) (hn : n < 3) : zRunD ztb zmt' (d + 1) 51 [zR (some 18), zI o, zI n] G h Q ↔ Q (some (zI (aOf T o n : Nat))) G h := by
  rw [r51]
  have e1 := hT.2.2.1
  have e2 := hT.2.2.2.1
  have h3 : o * nP T ≤ 2 * 3 := Nat.mul_le_mul (by omega) hp
  by_cases c : tw T = 1
  · have e : wr ((o : Int) * (nP T : Int)) = ((o * nP T : Nat) : Int) := by
      rw [← Int.natCast_mul]
      exact wr_id (by omega)
    simp only [e51_0, e51_1, e51_4, e51_5, e51_8, e51_9, e51_10, e51_13, e51_14, e51_15, e51_16, e51_19, e51_20, zs0, zsI, zsL, zsR, ztl1, ztl0, zc0, zcI, zcL, zcR, true_and, and_true, true_implies, false_implies, implies_true, not_true_eq_false, not_false_eq_true, and_self, Int.toNat_natCast, Nat.reduceAdd, Nat.reduceLeDiff, Nat.reduceLT, forall_eq', Option.some.injEq, zarR, zarI, zarL, zle, zq0, zq1, zq2, zq3, zq4, zq5, zq6, zq8, zq9, zq10, zq20, zq7, zq12, zq24, zq40, zq41, zq48, zq100, zq120, zq123, zq480, zq492, zq700, zq729, zq2187, zq2916, zq8748, ne_eq, Int.reduceEq, Int.reduceLT, Int.reduceLE, Int.reduceToNat, Int.reduceMul, Int.reduceAdd, Int.reduceNeg, gk18 hg, gr18_0 hg, gr18_1 hg, gr18_2 hg, gr18_3 hg, gr18_4 hg, gr18_5 hg, gr18_6 hg, gr18_7 hg, gr18_8 hg, e1, e2, c, e, wrN (z := ((o * nP T : Nat) : Int) + (n : Int)) (m := o * nP T + n) (by omega) (by omega), aOf, if_true]
  · simp only [e51_0, e51_1, e51_4, e51_5, e51_8, e51_9, e51_10, e51_13, e51_14, e51_15, e51_16, e51_19, e51_20, zs0, zsI, zsL, zsR, ztl1, ztl0, zc0, zcI, zcL, zcR, true_and, and_true, true_implies, false_implies, implies_true, not_true_eq_false, not_false_eq_true, and_self, Int.toNat_natCast, Nat.reduceAdd, Nat.reduceLeDiff, Nat.reduceLT, forall_eq', Option.some.injEq, zarR, zarI, zarL, zle, zq0, zq1, zq2, zq3, zq4, zq5, zq6, zq8, zq9, zq10, zq20, zq7, zq12, zq24, zq40, zq41, zq48, zq100, zq120, zq123, zq480, zq492, zq700, zq729, zq2187, zq2916, zq8748, ne_eq, Int.reduceEq, Int.reduceLT, Int.reduceLE, Int.reduceToNat, Int.reduceMul, Int.reduceAdd, Int.reduceNeg, gk18 hg, gr18_0 hg, gr18_1 hg, gr18_2 hg, gr18_3 hg, gr18_4 hg, gr18_5 hg, gr18_6 hg, gr18_7 hg, gr18_8 hg, e1, e2, c, aOf, if_false]
end AC16
section AC47
variable {d : Nat} {Q : zQ} {G : zG} {h : zM} {T : aTn}
theorem c_acts47 (hg : gS G) (hT : kT h 49 T) (hp : nP T ≤ 3) : zRunD ztb zmt' (d + 1) 48 [zR (some 49)] G h Q ↔ Q (some (zI (nA T : Nat))) G h := by
  rw [r48]
  have e1 := hT.2.2.1
  have e2 := hT.2.2.2.1
  have h3 : nP T = 0 ∨ nP T = 1 ∨ nP T = 2 ∨ nP T = 3 := by omega
  by_cases c : tw T = 1
  · have e : wr ((nP T : Int) * (nP T : Int)) = ((nP T * nP T : Nat) : Int) := by
      rcases h3 with h3 | h3 | h3 | h3 <;> rw [h3] <;> decide
    simp only [e48_0, e48_1, e48_4, e48_5, e48_8, e48_9, e48_12, e48_13, e48_16, e48_17, e48_20, e48_21, e48_24, zs0, zsI, zsL, zsR, ztl1, ztl0, zc0, zcI, zcL, zcR, true_and, and_true, true_implies, false_implies, implies_true, not_true_eq_false, not_false_eq_true, and_self, Int.toNat_natCast, Nat.reduceAdd, Nat.reduceLeDiff, Nat.reduceLT, forall_eq', Option.some.injEq, zarR, zarI, zarL, zle, zq0, zq1, zq2, zq3, zq4, zq5, zq6, zq8, zq9, zq10, zq20, zq7, zq12, zq24, zq40, zq41, zq48, zq100, zq120, zq123, zq480, zq492, zq700, zq729, zq2187, zq2916, zq8748, ne_eq, Int.reduceEq, Int.reduceLT, Int.reduceLE, Int.reduceToNat, Int.reduceMul, Int.reduceAdd, Int.reduceNeg, gk49 hg, gr49_0 hg, gr49_1 hg, gr49_2 hg, gr49_3 hg, gr49_4 hg, gr49_5 hg, gr49_6 hg, gr49_7 hg, gr49_8 hg, e1, e2, c, e, nA, if_true]
  · simp only [e48_0, e48_1, e48_4, e48_5, e48_8, e48_9, e48_12, e48_13, e48_16, e48_17, e48_20, e48_21, e48_24, zs0, zsI, zsL, zsR, ztl1, ztl0, zc0, zcI, zcL, zcR, true_and, and_true, true_implies, false_implies, implies_true, not_true_eq_false, not_false_eq_true, and_self, Int.toNat_natCast, Nat.reduceAdd, Nat.reduceLeDiff, Nat.reduceLT, forall_eq', Option.some.injEq, zarR, zarI, zarL, zle, zq0, zq1, zq2, zq3, zq4, zq5, zq6, zq8, zq9, zq10, zq20, zq7, zq12, zq24, zq40, zq41, zq48, zq100, zq120, zq123, zq480, zq492, zq700, zq729, zq2187, zq2916, zq8748, ne_eq, Int.reduceEq, Int.reduceLT, Int.reduceLE, Int.reduceToNat, Int.reduceMul, Int.reduceAdd, Int.reduceNeg, gk49 hg, gr49_0 hg, gr49_1 hg, gr49_2 hg, gr49_3 hg, gr49_4 hg, gr49_5 hg, gr49_6 hg, gr49_7 hg, gr49_8 hg, e1, e2, c, nA, if_false]
theorem c_old47 (hg : gS G) (hT : kT h 49 T) (hp : 1 ≤ nP T) {a : Nat} (ha : (a : Int) < 1000) : zRunD ztb zmt' (d + 1) 49 [zR (some 49), zI a] G h Q ↔ Q (some (zI (aOld T a : Nat))) G h := by
  rw [r49]
  have e1 := hT.2.2.1
  have e2 := hT.2.2.2.1
  have c2 : ¬ (nP T : Int) ≤ 0 := by omega
  have c3 : ¬ (nP T : Int) = 0 := by omega
  by_cases c : tw T = 1
  · have e : wr ((a : Int).tdiv (nP T : Int)) = ((a / nP T : Nat) : Int) := by
      rw [Int.tdiv_eq_ediv_of_nonneg (by omega), ← Int.natCast_ediv]
      have h5 : a / nP T ≤ a := Nat.div_le_self _ _
      generalize a / nP T = q at h5 ⊢
      exact wr_id (by omega)
    simp only [e49_0, e49_1, e49_4, e49_5, e49_8, e49_9, e49_12, e49_15, e49_16, e49_17, e49_20, e49_21, e49_24, e49_25, zs0, zsI, zsL, zsR, ztl1, ztl0, zc0, zcI, zcL, zcR, true_and, and_true, true_implies, false_implies, implies_true, not_true_eq_false, not_false_eq_true, and_self, Int.toNat_natCast, Nat.reduceAdd, Nat.reduceLeDiff, Nat.reduceLT, forall_eq', Option.some.injEq, zarR, zarI, zarL, zle, zq0, zq1, zq2, zq3, zq4, zq5, zq6, zq8, zq9, zq10, zq20, zq7, zq12, zq24, zq40, zq41, zq48, zq100, zq120, zq123, zq480, zq492, zq700, zq729, zq2187, zq2916, zq8748, ne_eq, Int.reduceEq, Int.reduceLT, Int.reduceLE, Int.reduceToNat, Int.reduceMul, Int.reduceAdd, Int.reduceNeg, gk49 hg, gr49_0 hg, gr49_1 hg, gr49_2 hg, gr49_3 hg, gr49_4 hg, gr49_5 hg, gr49_6 hg, gr49_7 hg, gr49_8 hg, e1, e2, c, c2, c3, e, aOld, if_true]
  · simp only [e49_0, e49_1, e49_4, e49_5, e49_8, e49_9, e49_12, e49_15, e49_16, e49_17, e49_20, e49_21, e49_24, e49_25, zs0, zsI, zsL, zsR, ztl1, ztl0, zc0, zcI, zcL, zcR, true_and, and_true, true_implies, false_implies, implies_true, not_true_eq_false, not_false_eq_true, and_self, Int.toNat_natCast, Nat.reduceAdd, Nat.reduceLeDiff, Nat.reduceLT, forall_eq', Option.some.injEq, zarR, zarI, zarL, zle, zq0, zq1, zq2, zq3, zq4, zq5, zq6, zq8, zq9, zq10, zq20, zq7, zq12, zq24, zq40, zq41, zq48, zq100, zq120, zq123, zq480, zq492, zq700, zq729, zq2187, zq2916, zq8748, ne_eq, Int.reduceEq, Int.reduceLT, Int.reduceLE, Int.reduceToNat, Int.reduceMul, Int.reduceAdd, Int.reduceNeg, gk49 hg, gr49_0 hg, gr49_1 hg, gr49_2 hg, gr49_3 hg, gr49_4 hg, gr49_5 hg, gr49_6 hg, gr49_7 hg, gr49_8 hg, e1, e2, c, aOld, if_false]
theorem c_new47 (hg : gS G) (hT : kT h 49 T) (hp : 1 ≤ nP T) {a : Nat} : zRunD ztb zmt' (d + 1) 50 [zR (some 49), zI a] G h Q ↔ Q (some (zI (aNw T a : Nat))) G h := by
  rw [r50]
  have e1 := hT.2.2.1
  have e2 := hT.2.2.2.1
  have c2 : ¬ (nP T : Int) ≤ 0 := by omega
  have c3 : ¬ (nP T : Int) = 0 := by omega
  by_cases c : tw T = 1
  · have e : (a : Int).tmod (nP T : Int) = ((a % nP T : Nat) : Int) := by
      rw [Int.tmod_eq_emod_of_nonneg (by omega), ← Int.natCast_emod]
    simp only [e50_0, e50_1, e50_4, e50_5, e50_8, e50_9, e50_12, e50_15, e50_16, e50_17, e50_20, e50_21, e50_24, e50_25, zs0, zsI, zsL, zsR, ztl1, ztl0, zc0, zcI, zcL, zcR, true_and, and_true, true_implies, false_implies, implies_true, not_true_eq_false, not_false_eq_true, and_self, Int.toNat_natCast, Nat.reduceAdd, Nat.reduceLeDiff, Nat.reduceLT, forall_eq', Option.some.injEq, zarR, zarI, zarL, zle, zq0, zq1, zq2, zq3, zq4, zq5, zq6, zq8, zq9, zq10, zq20, zq7, zq12, zq24, zq40, zq41, zq48, zq100, zq120, zq123, zq480, zq492, zq700, zq729, zq2187, zq2916, zq8748, ne_eq, Int.reduceEq, Int.reduceLT, Int.reduceLE, Int.reduceToNat, Int.reduceMul, Int.reduceAdd, Int.reduceNeg, gk49 hg, gr49_0 hg, gr49_1 hg, gr49_2 hg, gr49_3 hg, gr49_4 hg, gr49_5 hg, gr49_6 hg, gr49_7 hg, gr49_8 hg, e1, e2, c, c2, c3, e, aNw, if_true]
  · simp only [e50_0, e50_1, e50_4, e50_5, e50_8, e50_9, e50_12, e50_15, e50_16, e50_17, e50_20, e50_21, e50_24, e50_25, zs0, zsI, zsL, zsR, ztl1, ztl0, zc0, zcI, zcL, zcR, true_and, and_true, true_implies, false_implies, implies_true, not_true_eq_false, not_false_eq_true, and_self, Int.toNat_natCast, Nat.reduceAdd, Nat.reduceLeDiff, Nat.reduceLT, forall_eq', Option.some.injEq, zarR, zarI, zarL, zle, zq0, zq1, zq2, zq3, zq4, zq5, zq6, zq8, zq9, zq10, zq20, zq7, zq12, zq24, zq40, zq41, zq48, zq100, zq120, zq123, zq480, zq492, zq700, zq729, zq2187, zq2916, zq8748, ne_eq, Int.reduceEq, Int.reduceLT, Int.reduceLE, Int.reduceToNat, Int.reduceMul, Int.reduceAdd, Int.reduceNeg, gk49 hg, gr49_0 hg, gr49_1 hg, gr49_2 hg, gr49_3 hg, gr49_4 hg, gr49_5 hg, gr49_6 hg, gr49_7 hg, gr49_8 hg, e1, e2, c, aNw, if_false]

theorem c_actOf47 (hg : gS G) (hT : kT h 49 T) (hp : nP T ≤ 3) {o n : Nat} (ho : o < 3) (hn : n < 3) : zRunD ztb zmt' (d + 1) 51 [zR (some 49), zI o, zI n] G h Q ↔ Q (some (zI (aOf T o n : Nat))) G h := by
  rw [r51]
  have e1 := hT.2.2.1
  have e2 := hT.2.2.2.1
  have h3 : o * nP T ≤ 2 * 3 := Nat.mul_le_mul (by omega) hp
  by_cases c : tw T = 1
  · have e : wr ((o : Int) * (nP T : Int)) = ((o * nP T : Nat) : Int) := by
      rw [← Int.natCast_mul]
      exact wr_id (by omega)
    simp only [e51_0, e51_1, e51_4, e51_5, e51_8, e51_9, e51_10, e51_13, e51_14, e51_15, e51_16, e51_19, e51_20, zs0, zsI, zsL, zsR, ztl1, ztl0, zc0, zcI, zcL, zcR, true_and, and_true, true_implies, false_implies, implies_true, not_true_eq_false, not_false_eq_true, and_self, Int.toNat_natCast, Nat.reduceAdd, Nat.reduceLeDiff, Nat.reduceLT, forall_eq', Option.some.injEq, zarR, zarI, zarL, zle, zq0, zq1, zq2, zq3, zq4, zq5, zq6, zq8, zq9, zq10, zq20, zq7, zq12, zq24, zq40, zq41, zq48, zq100, zq120, zq123, zq480, zq492, zq700, zq729, zq2187, zq2916, zq8748, ne_eq, Int.reduceEq, Int.reduceLT, Int.reduceLE, Int.reduceToNat, Int.reduceMul, Int.reduceAdd, Int.reduceNeg, gk49 hg, gr49_0 hg, gr49_1 hg, gr49_2 hg, gr49_3 hg, gr49_4 hg, gr49_5 hg, gr49_6 hg, gr49_7 hg, gr49_8 hg, e1, e2, c, e, wrN (z := ((o * nP T : Nat) : Int) + (n : Int)) (m := o * nP T + n) (by omega) (by omega), aOf, if_true]
  · simp only [e51_0, e51_1, e51_4, e51_5, e51_8, e51_9, e51_10, e51_13, e51_14, e51_15, e51_16, e51_19, e51_20, zs0, zsI, zsL, zsR, ztl1, ztl0, zc0, zcI, zcL, zcR, true_and, and_true, true_implies, false_implies, implies_true, not_true_eq_false, not_false_eq_true, and_self, Int.toNat_natCast, Nat.reduceAdd, Nat.reduceLeDiff, Nat.reduceLT, forall_eq', Option.some.injEq, zarR, zarI, zarL, zle, zq0, zq1, zq2, zq3, zq4, zq5, zq6, zq8, zq9, zq10, zq20, zq7, zq12, zq24, zq40, zq41, zq48, zq100, zq120, zq123, zq480, zq492, zq700, zq729, zq2187, zq2916, zq8748, ne_eq, Int.reduceEq, Int.reduceLT, Int.reduceLE, Int.reduceToNat, Int.reduceMul, Int.reduceAdd, Int.reduceNeg, gk49 hg, gr49_0 hg, gr49_1 hg, gr49_2 hg, gr49_3 hg, gr49_4 hg, gr49_5 hg, gr49_6 hg, gr49_7 hg, gr49_8 hg, e1, e2, c, aOf, if_false]
end AC47
