/-! a year: n s k so many of kind k, to s k where they go -/
def yPr (own oth : Nat → Int) (k t : Nat) : Int := if k = t then own t else oth t
def aLeft (n : Nat → Nat → Int) (to : Nat → Nat → Nat) (s : Nat) : Nat → Int
  | 0 => 0
  | k + 1 => aLeft n to s k + (if k < 3 ∧ ¬ k = to s k then n s k else 0)
def aPaid (own oth : Nat → Int) (n : Nat → Nat → Int) (to : Nat → Nat → Nat) (s : Nat) : Nat → Int
  | 0 => 0
  | k + 1 => aPaid own oth n to s k + (if to s k = 3 then 0 else n s k * yPr own oth k (to s k))
def aEar (T : aTn) (own oth : Nat → Int) (n : Nat → Nat → Int) (to : Nat → Nat → Nat) (b s : Nat) : Nat → Int
  | 0 => 0
  | k + 1 => aEar T own oth n to b s k + (if to s k = b then n s k * (yPr own oth k b - tr T 0 b) else 0)
def aCame (n : Nat → Nat → Int) (to : Nat → Nat → Nat) (b s : Nat) : Nat → Int
  | 0 => 0
  | k + 1 => aCame n to b s k + (if to s k = b then n s k else 0)
def aEarS (T : aTn) (own oth : Nat → Int) (n : Nat → Nat → Int) (to : Nat → Nat → Nat) (b : Nat) : Nat → Int
  | 0 => 0
  | s + 1 => aEarS T own oth n to b s + aEar T own oth n to b s 5
def aNext (T : aTn) (n : Nat → Nat → Int) (to : Nat → Nat → Nat) (b s : Nat) : Int := aCame n to b s 5 * tr T 6 s / 100
/-- so many that nothing runs over -/
def nOk (n : Nat → Nat → Int) : Prop := (∀ s k, 0 ≤ n s k) ∧ ∀ s, n s 0 + n s 1 + n s 2 + n s 3 + n s 4 ≤ 2000000
theorem mulb {n p N lo hi : Int} (h0 : 0 ≤ n) (h1 : n ≤ N) (h2 : lo ≤ p) (h3 : p ≤ hi) (h4 : lo ≤ 0) (h5 : 0 ≤ hi) : N * lo ≤ n * p ∧ n * p ≤ N * hi := by
  constructor
  · have a1 : n * lo ≤ n * p := Int.mul_le_mul_of_nonneg_left h2 h0
    have a2 : N * lo ≤ n * lo := Int.mul_le_mul_of_nonpos_right h1 h4
    omega
  · have a1 : n * p ≤ n * hi := Int.mul_le_mul_of_nonneg_left h3 h0
    have a2 : n * hi ≤ N * hi := Int.mul_le_mul_of_nonneg_right h1 h5
    omega
theorem nOk1 {n : Nat → Nat → Int} (h : nOk n) (s k : Nat) (hk : k < 5) : 0 ≤ n s k ∧ n s k ≤ 2000000 := by
  have h0 := h.1 s 0
  have h1 := h.1 s 1
  have h2 := h.1 s 2
  have h3 := h.1 s 3
  have h4 := h.1 s 4
  have h5 := h.2 s
  have hk' : k = 0 ∨ k = 1 ∨ k = 2 ∨ k = 3 ∨ k = 4 := by omega
  rcases hk' with rfl | rfl | rfl | rfl | rfl <;> omega
section YB
variable {T : aTn} {own oth : Nat → Int} {n : Nat → Nat → Int} {to : Nat → Nat → Nat}
theorem aLeft_b (hn : nOk n) (s k : Nat) (hk : k ≤ 5) : 0 ≤ aLeft n to s k ∧ aLeft n to s k ≤ 2000000 * k := by
  induction k with
  | zero => unfold aLeft; omega
  | succ k ih =>
    have h1 := ih (by omega)
    have h2 := nOk1 hn s k (by omega)
    unfold aLeft
    split <;> omega
theorem aCame_b (hn : nOk n) (b s k : Nat) (hk : k ≤ 5) : 0 ≤ aCame n to b s k ∧ aCame n to b s k ≤ 2000000 * k := by
  induction k with
  | zero => unfold aCame; omega
  | succ k ih =>
    have h1 := ih (by omega)
    have h2 := nOk1 hn s k (by omega)
    unfold aCame
    split <;> omega
theorem yPr_b (ho : bP own) (hn : bP oth) (k t : Nat) : 0 ≤ yPr own oth k t ∧ yPr own oth k t ≤ 199 := by
  have h1 := ho t
  have h2 := hn t
  unfold yPr
  split <;> omega
theorem aPaid_b (hn : nOk n) (ho : bP own) (hh : bP oth) (s k : Nat) (hk : k ≤ 5) : 0 ≤ aPaid own oth n to s k ∧ aPaid own oth n to s k ≤ 398000000 * k := by
  induction k with
  | zero => unfold aPaid; omega
  | succ k ih =>
    have h1 := ih (by omega)
    have h2 := nOk1 hn s k (by omega)
    have h3 := yPr_b ho hh k (to s k)
    have h4 := mulb h2.1 h2.2 h3.1 h3.2 (by decide) (by decide)
    unfold aPaid
    split <;> omega
theorem aEar_b (hw : wT T) (hn : nOk n) (ho : bP own) (hh : bP oth) (b s k : Nat) (hk : k ≤ 5) : -(398000000 * (k : Int)) ≤ aEar T own oth n to b s k ∧ aEar T own oth n to b s k ≤ 398000000 * k := by
  induction k with
  | zero => unfold aEar; omega
  | succ k ih =>
    have h1 := ih (by omega)
    have h2 := nOk1 hn s k (by omega)
    have h3 := yPr_b ho hh k b
    have h5 := (hw.2.2.2.2.2 b).1
    have h4 := mulb (p := yPr own oth k b - tr T 0 b) (lo := -199) (hi := 199) h2.1 h2.2 (by omega) (by omega) (by decide) (by decide)
    unfold aEar
    split <;> omega
theorem aEarS_b (hw : wT T) (hn : nOk n) (ho : bP own) (hh : bP oth) (b s : Nat) : -(1990000000 * (s : Int)) ≤ aEarS T own oth n to b s ∧ aEarS T own oth n to b s ≤ 1990000000 * s := by
  induction s with
  | zero => unfold aEarS; omega
  | succ s ih =>
    have h1 := aEar_b (to := to) hw hn ho hh b s 5 (by omega)
    unfold aEarS
    omega
end YB
/-! a row filled -/
def zfl (h : zM) (r n : Nat) (v : Int) : zM := fun c i => if c = r ∧ i < n then v else h c i
theorem zfl_s {h : zM} {r n : Nat} {v : Int} : zu (zfl h r n v) r n v = zfl h r (n + 1) v := by
  funext c i
  unfold zu zfl
  by_cases h1 : c = r
  · by_cases h2 : i = n
    · rw [if_pos ⟨h1, h2⟩, if_pos ⟨h1, by omega⟩]
    · rw [if_neg (fun h => h2 h.2)]
      by_cases h3 : i < n
      · rw [if_pos ⟨h1, h3⟩, if_pos ⟨h1, by omega⟩]
      · rw [if_neg (fun h => h3 h.2), if_neg (fun h => by omega)]
  · rw [if_neg (fun h => h1 h.1), if_neg (fun h => h1 h.1), if_neg (fun h => h1 h.1)]
theorem zfl_0 {h : zM} {r : Nat} {v : Int} : zfl h r 0 v = h := by
  funext c i
  unfold zfl
  rw [if_neg (fun h => by omega)]
theorem zfl_c {h : zM} {r n c i : Nat} {v : Int} (hc : ¬ c = r) : zfl h r n v c i = h c i := by
  unfold zfl
  rw [if_neg (fun h => hc h.1)]
theorem zfl_at {h : zM} {r n i : Nat} {v : Int} (hi : i < n) : zfl h r n v r i = v := by
  unfold zfl
  rw [if_pos ⟨rfl, hi⟩]
section FL
variable {d : Nat} {Q : zQ} {G : zG} {h : zM}
theorem s_fill {r N : Nat} {v : Int} (hk : G.2.1 r = 10) (hl : G.2.2.1 r = N) (hN : (N : Int) < 100000) : zRunD ztb zmt' (d + 1) 219 [zR (some r), zI v] G h Q ↔ Q none G (zfl h r N v) := by
  rw [r219]
  have lp : ∀ j i, i + j = N → (zE 219 d Q 5 [some (zR (some r)), some (zI v), some (zI i), some (zI N)] [] G (zfl h r i v) (0, 0) ↔ Q none G (zfl h r N v)) := by
    intro j
    induction j with
    | zero =>
      intro i hi
      have hi' : i = N := by omega
      subst hi'
      rw [e219_5]
      simp only [e219_0, e219_1, e219_2, e219_3, e219_4, e219_6, e219_7, e219_10, e219_11, e219_12, e219_13, e219_14, e219_17, e219_20, zs0, zsI, zsL, zsR, ztl1, ztl0, zc0, zcI, zcL, zcR, true_and, and_true, true_implies, false_implies, implies_true, not_true_eq_false, not_false_eq_true, and_self, Int.toNat_natCast, Nat.reduceAdd, Nat.reduceLeDiff, Nat.reduceLT, forall_eq', Option.some.injEq, zarR, zarI, zarL, zle, zq0, zq1, zq2, zq3, zq4, zq5, zq6, zq8, zq9, zq10, zq20, zq7, zq12, zq24, zq40, zq41, zq48, zq100, zq120, zq123, zq480, zq492, zq700, zq729, zq2187, zq2916, zq8748, ne_eq, Int.reduceEq, Int.reduceLT, Int.reduceLE, Int.reduceToNat, Int.reduceMul, Int.reduceAdd, Int.reduceNeg, Int.le_refl]
    | succ j ih =>
      intro i hi
      have c : ¬ (N : Int) ≤ i := by omega
      have c2 : (i : Int) < N := by omega
      rw [e219_5]
      simp only [e219_0, e219_1, e219_2, e219_3, e219_4, e219_6, e219_7, e219_10, e219_11, e219_12, e219_13, e219_14, e219_17, e219_20, zs0, zsI, zsL, zsR, ztl1, ztl0, zc0, zcI, zcL, zcR, true_and, and_true, true_implies, false_implies, implies_true, not_true_eq_false, not_false_eq_true, and_self, Int.toNat_natCast, Nat.reduceAdd, Nat.reduceLeDiff, Nat.reduceLT, forall_eq', Option.some.injEq, zarR, zarI, zarL, zle, zq0, zq1, zq2, zq3, zq4, zq5, zq6, zq8, zq9, zq10, zq20, zq7, zq12, zq24, zq40, zq41, zq48, zq100, zq120, zq123, zq480, zq492, zq700, zq729, zq2187, zq2916, zq8748, ne_eq, Int.reduceEq, Int.reduceLT, Int.reduceLE, Int.reduceToNat, Int.reduceMul, Int.reduceAdd, Int.reduceNeg, c, c2, hk, hl, zfl_s, wr_s (show i < 2147483647 by omega)]
      exact ih (i + 1) (by omega)
  have hN2 : N < 2147483648 := by omega
  have l0 := lp N 0 (by omega)
  simp only [zfl_0, zq0] at l0
  simp only [e219_0, e219_1, e219_2, e219_3, e219_4, e219_6, e219_7, e219_10, e219_11, e219_12, e219_13, e219_14, e219_17, e219_20, zs0, zsI, zsL, zsR, ztl1, ztl0, zc0, zcI, zcL, zcR, true_and, and_true, true_implies, false_implies, implies_true, not_true_eq_false, not_false_eq_true, and_self, Int.toNat_natCast, Nat.reduceAdd, Nat.reduceLeDiff, Nat.reduceLT, forall_eq', Option.some.injEq, zarR, zarI, zarL, zle, zq0, zq1, zq2, zq3, zq4, zq5, zq6, zq8, zq9, zq10, zq20, zq7, zq12, zq24, zq40, zq41, zq48, zq100, zq120, zq123, zq480, zq492, zq700, zq729, zq2187, zq2916, zq8748, ne_eq, Int.reduceEq, Int.reduceLT, Int.reduceLE, Int.reduceToNat, Int.reduceMul, Int.reduceAdd, Int.reduceNeg, hk, hl, hN2]
  exact l0
theorem s_fillL {r N : Nat} {v : Int} (hk : G.2.1 r = 11) (hl : G.2.2.1 r = N) (hN : (N : Int) < 100000) : zRunD ztb zmt' (d + 1) 218 [zR (some r), zL v] G h Q ↔ Q none G (zfl h r N v) := by
  rw [r218]
  have lp : ∀ j i, i + j = N → (zE 218 d Q 6 [some (zR (some r)), some (zL v), none, some (zI i), some (zI N)] [] G (zfl h r i v) (0, 0) ↔ Q none G (zfl h r N v)) := by
    intro j
    induction j with
    | zero =>
      intro i hi
      have hi' : i = N := by omega
      subst hi'
      rw [e218_6]
      simp only [e218_0, e218_1, e218_2, e218_3, e218_4, e218_7, e218_9, e218_12, e218_13, e218_14, e218_15, e218_16, e218_19, e218_22, zs0, zsI, zsL, zsR, ztl1, ztl0, zc0, zcI, zcL, zcR, true_and, and_true, true_implies, false_implies, implies_true, not_true_eq_false, not_false_eq_true, and_self, Int.toNat_natCast, Nat.reduceAdd, Nat.reduceLeDiff, Nat.reduceLT, forall_eq', Option.some.injEq, zarR, zarI, zarL, zle, zq0, zq1, zq2, zq3, zq4, zq5, zq6, zq8, zq9, zq10, zq20, zq7, zq12, zq24, zq40, zq41, zq48, zq100, zq120, zq123, zq480, zq492, zq700, zq729, zq2187, zq2916, zq8748, ne_eq, Int.reduceEq, Int.reduceLT, Int.reduceLE, Int.reduceToNat, Int.reduceMul, Int.reduceAdd, Int.reduceNeg, Int.le_refl]
    | succ j ih =>
      intro i hi
      have c : ¬ (N : Int) ≤ i := by omega
      have c2 : (i : Int) < N := by omega
      rw [e218_6]
      simp only [e218_0, e218_1, e218_2, e218_3, e218_4, e218_7, e218_9, e218_12, e218_13, e218_14, e218_15, e218_16, e218_19, e218_22, zs0, zsI, zsL, zsR, ztl1, ztl0, zc0, zcI, zcL, zcR, true_and, and_true, true_implies, false_implies, implies_true, not_true_eq_false, not_false_eq_true, and_self, Int.toNat_natCast, Nat.reduceAdd, Nat.reduceLeDiff, Nat.reduceLT, forall_eq', Option.some.injEq, zarR, zarI, zarL, zle, zq0, zq1, zq2, zq3, zq4, zq5, zq6, zq8, zq9, zq10, zq20, zq7, zq12, zq24, zq40, zq41, zq48, zq100, zq120, zq123, zq480, zq492, zq700, zq729, zq2187, zq2916, zq8748, ne_eq, Int.reduceEq, Int.reduceLT, Int.reduceLE, Int.reduceToNat, Int.reduceMul, Int.reduceAdd, Int.reduceNeg, c, c2, hk, hl, zfl_s, wr_s (show i < 2147483647 by omega)]
      exact ih (i + 1) (by omega)
  have hN2 : N < 2147483648 := by omega
  have l0 := lp N 0 (by omega)
  simp only [zfl_0, zq0] at l0
  simp only [e218_0, e218_1, e218_2, e218_3, e218_4, e218_7, e218_9, e218_12, e218_13, e218_14, e218_15, e218_16, e218_19, e218_22, zs0, zsI, zsL, zsR, ztl1, ztl0, zc0, zcI, zcL, zcR, true_and, and_true, true_implies, false_implies, implies_true, not_true_eq_false, not_false_eq_true, and_self, Int.toNat_natCast, Nat.reduceAdd, Nat.reduceLeDiff, Nat.reduceLT, forall_eq', Option.some.injEq, zarR, zarI, zarL, zle, zq0, zq1, zq2, zq3, zq4, zq5, zq6, zq8, zq9, zq10, zq20, zq7, zq12, zq24, zq40, zq41, zq48, zq100, zq120, zq123, zq480, zq492, zq700, zq729, zq2187, zq2916, zq8748, ne_eq, Int.reduceEq, Int.reduceLT, Int.reduceLE, Int.reduceToNat, Int.reduceMul, Int.reduceAdd, Int.reduceNeg, hk, hl, hN2]
  exact l0
end FL
