section CR
variable {d : Nat} {Q : zQ} {G : zG} {h : zM} {n q : Nat} {D : pD}
theorem c_line (hg : gS G) (ht : G.2.2.2 2 2 = some 1) (hn : n ≤ 700) (c : CS n (.inr q) h) (hD : DC h D) (hB : DB (h 1) n D) (hW : WB D.1) {i : Int} (K : ∀ h' : zM, FR h h' → LR n (pLn (h 1) n D q) h' → zE 14 (d + 5) Q 106 [some (zR (some 2)), some (zR (some 1)), some (zI n), some (zR (some 6)), some (zI i)] [] G h' (0, 0)) : zE 14 (d + 5) Q 29 [some (zR (some 2)), some (zR (some 1)), some (zI n), some (zR (some 6)), some (zI i)] [] G h (0, 0) := by
  have c1 : h 2 1 = 0 := c.2.1
  have tk := c.2.2.2
  have t6 := tk.2.2.1
  unfold pLn at K
  simp only [e14_29, e14_30, e14_32, zs0, zsI, zsL, zsR, ztl1, ztl0, zc0, zcI, zcL, zcR, true_and, and_true, true_implies, false_implies, implies_true, not_true_eq_false, not_false_eq_true, and_self, Int.toNat_natCast, Nat.reduceAdd, Nat.reduceLeDiff, Nat.reduceLT, forall_eq', Option.some.injEq, zarR, zarI, zarL, zle, zq0, zq1, zq2, zq3, zq4, zq5, zq6, zq8, zq9, zq10, zq20, zq7, zq12, zq24, zq40, zq41, zq48, zq100, zq120, zq123, zq480, zq492, zq700, zq729, zq2187, zq2916, zq8748, ne_eq, Int.reduceEq, Int.reduceLT, Int.reduceLE, Int.reduceToNat, Int.reduceMul, Int.reduceAdd, Int.reduceNeg, gk2 hg, gr2_9 hg, gr2_10 hg]
  apply c_isWord (d := d + 4) (id := 0) hg ht hn (by decide) tk
  intro v0 z0
  unfold isW at z0
  rcases z0 with ⟨z, w⟩ | ⟨z, w⟩
  · subst z
    rw [if_pos w] at K
    simp only [e14_35, e14_38, e14_39, e14_40, zs0, zsI, zsL, zsR, ztl1, ztl0, zc0, zcI, zcL, zcR, true_and, and_true, true_implies, false_implies, implies_true, not_true_eq_false, not_false_eq_true, and_self, Int.toNat_natCast, Nat.reduceAdd, Nat.reduceLeDiff, Nat.reduceLT, forall_eq', Option.some.injEq, zarR, zarI, zarL, zle, zq0, zq1, zq2, zq3, zq4, zq5, zq6, zq8, zq9, zq10, zq20, zq7, zq12, zq24, zq40, zq41, zq48, zq100, zq120, zq123, zq480, zq492, zq700, zq729, zq2187, zq2916, zq8748, ne_eq, Int.reduceEq, Int.reduceLT, Int.reduceLE, Int.reduceToNat, Int.reduceMul, Int.reduceAdd, Int.reduceNeg, gk2 hg, gr2_9 hg, gr2_10 hg, gk6 hg, gr6_0 hg, gr6_1 hg, gr6_2 hg, gr6_3 hg, gr6_4 hg, gr6_5 hg, gr6_6 hg, gr6_7 hg, gr6_8 hg]
    apply c_readBaker (d := d) hg ht hn c w.1 hD hB
    intro h' f' s'
    simp only [e14_43, zs0, zsI, zsL, zsR, ztl1, ztl0, zc0, zcI, zcL, zcR, true_and, and_true, true_implies, false_implies, implies_true, not_true_eq_false, not_false_eq_true, and_self, Int.toNat_natCast, Nat.reduceAdd, Nat.reduceLeDiff, Nat.reduceLT, forall_eq', Option.some.injEq, zarR, zarI, zarL, zle, zq0, zq1, zq2, zq3, zq4, zq5, zq6, zq8, zq9, zq10, zq20, zq7, zq12, zq24, zq40, zq41, zq48, zq100, zq120, zq123, zq480, zq492, zq700, zq729, zq2187, zq2916, zq8748, ne_eq, Int.reduceEq, Int.reduceLT, Int.reduceLE, Int.reduceToNat, Int.reduceMul, Int.reduceAdd, Int.reduceNeg]
    exact K h' f' s'
  subst z
  rw [if_neg w] at K
  simp only [e14_35, e14_46, e14_47, e14_49, zs0, zsI, zsL, zsR, ztl1, ztl0, zc0, zcI, zcL, zcR, true_and, and_true, true_implies, false_implies, implies_true, not_true_eq_false, not_false_eq_true, and_self, Int.toNat_natCast, Nat.reduceAdd, Nat.reduceLeDiff, Nat.reduceLT, forall_eq', Option.some.injEq, zarR, zarI, zarL, zle, zq0, zq1, zq2, zq3, zq4, zq5, zq6, zq8, zq9, zq10, zq20, zq7, zq12, zq24, zq40, zq41, zq48, zq100, zq120, zq123, zq480, zq492, zq700, zq729, zq2187, zq2916, zq8748, ne_eq, Int.reduceEq, Int.reduceLT, Int.reduceLE, Int.reduceToNat, Int.reduceMul, Int.reduceAdd, Int.reduceNeg, gk2 hg, gr2_9 hg, gr2_10 hg]
  apply c_isWord (d := d + 4) (id := 1) hg ht hn (by decide) tk
  intro v1 z1
  unfold isW at z1
  rcases z1 with ⟨z, w⟩ | ⟨z, w⟩
  · subst z
    rw [if_pos w] at K
    simp only [e14_52, e14_55, e14_56, e14_57, zs0, zsI, zsL, zsR, ztl1, ztl0, zc0, zcI, zcL, zcR, true_and, and_true, true_implies, false_implies, implies_true, not_true_eq_false, not_false_eq_true, and_self, Int.toNat_natCast, Nat.reduceAdd, Nat.reduceLeDiff, Nat.reduceLT, forall_eq', Option.some.injEq, zarR, zarI, zarL, zle, zq0, zq1, zq2, zq3, zq4, zq5, zq6, zq8, zq9, zq10, zq20, zq7, zq12, zq24, zq40, zq41, zq48, zq100, zq120, zq123, zq480, zq492, zq700, zq729, zq2187, zq2916, zq8748, ne_eq, Int.reduceEq, Int.reduceLT, Int.reduceLE, Int.reduceToNat, Int.reduceMul, Int.reduceAdd, Int.reduceNeg, gk2 hg, gr2_9 hg, gr2_10 hg, gk6 hg, gr6_0 hg, gr6_1 hg, gr6_2 hg, gr6_3 hg, gr6_4 hg, gr6_5 hg, gr6_6 hg, gr6_7 hg, gr6_8 hg]
    apply c_readSort (d := d) hg ht hn c w.1 hD hB
    intro h' f' s'
    simp only [e14_60, zs0, zsI, zsL, zsR, ztl1, ztl0, zc0, zcI, zcL, zcR, true_and, and_true, true_implies, false_implies, implies_true, not_true_eq_false, not_false_eq_true, and_self, Int.toNat_natCast, Nat.reduceAdd, Nat.reduceLeDiff, Nat.reduceLT, forall_eq', Option.some.injEq, zarR, zarI, zarL, zle, zq0, zq1, zq2, zq3, zq4, zq5, zq6, zq8, zq9, zq10, zq20, zq7, zq12, zq24, zq40, zq41, zq48, zq100, zq120, zq123, zq480, zq492, zq700, zq729, zq2187, zq2916, zq8748, ne_eq, Int.reduceEq, Int.reduceLT, Int.reduceLE, Int.reduceToNat, Int.reduceMul, Int.reduceAdd, Int.reduceNeg]
    exact K h' f' s'
  subst z
  rw [if_neg w] at K
  simp only [e14_52, e14_63, e14_64, e14_66, zs0, zsI, zsL, zsR, ztl1, ztl0, zc0, zcI, zcL, zcR, true_and, and_true, true_implies, false_implies, implies_true, not_true_eq_false, not_false_eq_true, and_self, Int.toNat_natCast, Nat.reduceAdd, Nat.reduceLeDiff, Nat.reduceLT, forall_eq', Option.some.injEq, zarR, zarI, zarL, zle, zq0, zq1, zq2, zq3, zq4, zq5, zq6, zq8, zq9, zq10, zq20, zq7, zq12, zq24, zq40, zq41, zq48, zq100, zq120, zq123, zq480, zq492, zq700, zq729, zq2187, zq2916, zq8748, ne_eq, Int.reduceEq, Int.reduceLT, Int.reduceLE, Int.reduceToNat, Int.reduceMul, Int.reduceAdd, Int.reduceNeg, gk2 hg, gr2_9 hg, gr2_10 hg]
  apply c_isWord (d := d + 4) (id := 2) hg ht hn (by decide) tk
  intro v2 z2
  unfold isW at z2
  rcases z2 with ⟨z, w⟩ | ⟨z, w⟩
  · subst z
    rw [if_pos w] at K
    simp only [e14_69, e14_72, e14_73, e14_74, zs0, zsI, zsL, zsR, ztl1, ztl0, zc0, zcI, zcL, zcR, true_and, and_true, true_implies, false_implies, implies_true, not_true_eq_false, not_false_eq_true, and_self, Int.toNat_natCast, Nat.reduceAdd, Nat.reduceLeDiff, Nat.reduceLT, forall_eq', Option.some.injEq, zarR, zarI, zarL, zle, zq0, zq1, zq2, zq3, zq4, zq5, zq6, zq8, zq9, zq10, zq20, zq7, zq12, zq24, zq40, zq41, zq48, zq100, zq120, zq123, zq480, zq492, zq700, zq729, zq2187, zq2916, zq8748, ne_eq, Int.reduceEq, Int.reduceLT, Int.reduceLE, Int.reduceToNat, Int.reduceMul, Int.reduceAdd, Int.reduceNeg, gk2 hg, gr2_9 hg, gr2_10 hg, gk6 hg, gr6_0 hg, gr6_1 hg, gr6_2 hg, gr6_3 hg, gr6_4 hg, gr6_5 hg, gr6_6 hg, gr6_7 hg, gr6_8 hg]
    apply c_readPrices (d := d) hg ht hn c w.1 hD hB hW
    intro h' f' s'
    simp only [e14_77, zs0, zsI, zsL, zsR, ztl1, ztl0, zc0, zcI, zcL, zcR, true_and, and_true, true_implies, false_implies, implies_true, not_true_eq_false, not_false_eq_true, and_self, Int.toNat_natCast, Nat.reduceAdd, Nat.reduceLeDiff, Nat.reduceLT, forall_eq', Option.some.injEq, zarR, zarI, zarL, zle, zq0, zq1, zq2, zq3, zq4, zq5, zq6, zq8, zq9, zq10, zq20, zq7, zq12, zq24, zq40, zq41, zq48, zq100, zq120, zq123, zq480, zq492, zq700, zq729, zq2187, zq2916, zq8748, ne_eq, Int.reduceEq, Int.reduceLT, Int.reduceLE, Int.reduceToNat, Int.reduceMul, Int.reduceAdd, Int.reduceNeg]
    exact K h' f' s'
  subst z
  rw [if_neg w] at K
  simp only [e14_69, e14_80, e14_81, e14_83, zs0, zsI, zsL, zsR, ztl1, ztl0, zc0, zcI, zcL, zcR, true_and, and_true, true_implies, false_implies, implies_true, not_true_eq_false, not_false_eq_true, and_self, Int.toNat_natCast, Nat.reduceAdd, Nat.reduceLeDiff, Nat.reduceLT, forall_eq', Option.some.injEq, zarR, zarI, zarL, zle, zq0, zq1, zq2, zq3, zq4, zq5, zq6, zq8, zq9, zq10, zq20, zq7, zq12, zq24, zq40, zq41, zq48, zq100, zq120, zq123, zq480, zq492, zq700, zq729, zq2187, zq2916, zq8748, ne_eq, Int.reduceEq, Int.reduceLT, Int.reduceLE, Int.reduceToNat, Int.reduceMul, Int.reduceAdd, Int.reduceNeg, gk2 hg, gr2_9 hg, gr2_10 hg]
  apply c_isWord (d := d + 4) (id := 3) hg ht hn (by decide) tk
  intro v3 z3
  unfold isW at z3
  rcases z3 with ⟨z, w⟩ | ⟨z, w⟩
  · subst z
    rw [if_pos w] at K
    simp only [e14_86, e14_89, e14_90, e14_91, zs0, zsI, zsL, zsR, ztl1, ztl0, zc0, zcI, zcL, zcR, true_and, and_true, true_implies, false_implies, implies_true, not_true_eq_false, not_false_eq_true, and_self, Int.toNat_natCast, Nat.reduceAdd, Nat.reduceLeDiff, Nat.reduceLT, forall_eq', Option.some.injEq, zarR, zarI, zarL, zle, zq0, zq1, zq2, zq3, zq4, zq5, zq6, zq8, zq9, zq10, zq20, zq7, zq12, zq24, zq40, zq41, zq48, zq100, zq120, zq123, zq480, zq492, zq700, zq729, zq2187, zq2916, zq8748, ne_eq, Int.reduceEq, Int.reduceLT, Int.reduceLE, Int.reduceToNat, Int.reduceMul, Int.reduceAdd, Int.reduceNeg, gk2 hg, gr2_9 hg, gr2_10 hg, gk6 hg, gr6_0 hg, gr6_1 hg, gr6_2 hg, gr6_3 hg, gr6_4 hg, gr6_5 hg, gr6_6 hg, gr6_7 hg, gr6_8 hg]
    apply c_readKeep (d := d) hg ht hn c hD hB
    intro h' f' s'
    simp only [e14_94, zs0, zsI, zsL, zsR, ztl1, ztl0, zc0, zcI, zcL, zcR, true_and, and_true, true_implies, false_implies, implies_true, not_true_eq_false, not_false_eq_true, and_self, Int.toNat_natCast, Nat.reduceAdd, Nat.reduceLeDiff, Nat.reduceLT, forall_eq', Option.some.injEq, zarR, zarI, zarL, zle, zq0, zq1, zq2, zq3, zq4, zq5, zq6, zq8, zq9, zq10, zq20, zq7, zq12, zq24, zq40, zq41, zq48, zq100, zq120, zq123, zq480, zq492, zq700, zq729, zq2187, zq2916, zq8748, ne_eq, Int.reduceEq, Int.reduceLT, Int.reduceLE, Int.reduceToNat, Int.reduceMul, Int.reduceAdd, Int.reduceNeg]
    exact K h' f' s'
  subst z
  rw [if_neg w] at K
  simp only [e14_86, e14_97, e14_98, e14_99, e14_100, e14_103, zs0, zsI, zsL, zsR, ztl1, ztl0, zc0, zcI, zcL, zcR, true_and, and_true, true_implies, false_implies, implies_true, not_true_eq_false, not_false_eq_true, and_self, Int.toNat_natCast, Nat.reduceAdd, Nat.reduceLeDiff, Nat.reduceLT, forall_eq', Option.some.injEq, zarR, zarI, zarL, zle, zq0, zq1, zq2, zq3, zq4, zq5, zq6, zq8, zq9, zq10, zq20, zq7, zq12, zq24, zq40, zq41, zq48, zq100, zq120, zq123, zq480, zq492, zq700, zq729, zq2187, zq2916, zq8748, ne_eq, Int.reduceEq, Int.reduceLT, Int.reduceLE, Int.reduceToNat, Int.reduceMul, Int.reduceAdd, Int.reduceNeg, gk2 hg, gr2_9 hg, gr2_10 hg, t6, c_fail hg c1]
  exact K _ (fun c i z => by rw [zu_c (by omega), zu_c (by omega)]) (CS_die c (by decide))
/-- what reading a whole text leaves -/
def RR (tp : Nat → Int) (n : Nat) (r : pE ⊕ pD) (h : zM) (v : Int) : Prop := match r with
  | .inl e => v = e.1 ∧ ¬ e.1 = 0 ∧ h 2 0 = e.2
  | .inr D => v = 0 ∧ h 2 0 = -1 ∧ DC h D ∧ DB tp n D ∧ WB D.1 ∧ ¬ (nB D.1 < 2 ∨ nS D.1 < 1 ∨ nP D.1 = 0 ∨ D.2.2 = 0)
def pLk (n : Nat) (r : pE ⊕ (Nat × pD)) : pE ⊕ pD := match r with
  | .inl e => .inl e
  | .inr p => if nB p.2.1 < 2 ∨ nS p.2.1 < 1 ∨ nP p.2.1 = 0 ∨ p.2.2.2 = 0 then .inl (6, (n : Int)) else .inr p.2
theorem c_readEnd (hg : gS G) {s : pE ⊕ (Nat × pD)} (c : LR n s h) (hB : ∀ p, s = .inr p → DB (h 1) n p.2 ∧ WB p.2.1) {i : Int} (K : ∀ (v : Int) (h' : zM), FR h h' → RR (h 1) n (pLk n s) h' v → Q (some (zI v)) G h') : zE 14 (d + 5) Q 134 [some (zR (some 2)), some (zR (some 1)), some (zI n), some (zR (some 6)), some (zI i)] [] G h (0, 0) := by
  rcases s with e | p
  · have z9 : ¬ h 2 1 = 0 := by rw [c.2.1]; exact c.2.2.1
    have kk := K (h 2 1) h (fun _ _ _ => rfl) ⟨c.2.1, c.2.2.1, c.2.2.2.1⟩
    simp only [e14_134, e14_135, e14_138, e14_139, e14_142, e14_143, e14_146, e14_147, e14_150, e14_151, e14_154, e14_157, e14_158, e14_161, e14_164, e14_165, e14_167, e14_168, e14_171, e14_174, e14_175, e14_178, zs0, zsI, zsL, zsR, ztl1, ztl0, zc0, zcI, zcL, zcR, true_and, and_true, true_implies, false_implies, implies_true, not_true_eq_false, not_false_eq_true, and_self, Int.toNat_natCast, Nat.reduceAdd, Nat.reduceLeDiff, Nat.reduceLT, forall_eq', Option.some.injEq, zarR, zarI, zarL, zle, zq0, zq1, zq2, zq3, zq4, zq5, zq6, zq8, zq9, zq10, zq20, zq7, zq12, zq24, zq40, zq41, zq48, zq100, zq120, zq123, zq480, zq492, zq700, zq729, zq2187, zq2916, zq8748, ne_eq, Int.reduceEq, Int.reduceLT, Int.reduceLE, Int.reduceToNat, Int.reduceMul, Int.reduceAdd, Int.reduceNeg, gk2 hg, gr2_9 hg, gr2_10 hg, gk6 hg, gr6_0 hg, gr6_1 hg, gr6_2 hg, gr6_3 hg, gr6_4 hg, gr6_5 hg, gr6_6 hg, gr6_7 hg, gr6_8 hg, c_fail' hg z9]
    exact ⟨fun _ => kk, fun _ => ⟨fun _ => kk, fun _ => ⟨fun _ => kk, fun _ => ⟨fun _ => kk, fun _ => kk⟩⟩⟩⟩
  · obtain ⟨hB, hW⟩ := hB p rfl
    obtain ⟨cs, dr, dtw, dkp, dN, d12, d13⟩ := c
    have c1 : h 2 1 = 0 := cs.2.1
    have c3 : h 2 3 = n := cs.1
    have c0 := cs.2.2.1
    have e9 := dr.1
    have e10 := dr.2.1
    obtain ⟨b1, b2, b3, b4, b5, b6⟩ := hB
    unfold pLk at K
    by_cases lk : nB p.2.1 < 2 ∨ nS p.2.1 < 1 ∨ nP p.2.1 = 0 ∨ p.2.2.2 = 0
    · dsimp only at K
      rw [if_pos lk] at K
      have kk := K 6 (zu (zu h 2 1 6) 2 0 n) (fun c i z => by rw [zu_c (by omega), zu_c (by omega)]) ⟨rfl, (by decide : ¬ (6 : Int) = 0), zu_at⟩
      have fl : zE 14 (d + 5) Q 164 [some (zR (some 2)), some (zR (some 1)), some (zI n), some (zR (some 6)), some (zI i)] [] G h (0, 0) := by
        simp only [e14_164, e14_165, e14_167, e14_168, e14_171, e14_174, e14_175, e14_178, zs0, zsI, zsL, zsR, ztl1, ztl0, zc0, zcI, zcL, zcR, true_and, and_true, true_implies, false_implies, implies_true, not_true_eq_false, not_false_eq_true, and_self, Int.toNat_natCast, Nat.reduceAdd, Nat.reduceLeDiff, Nat.reduceLT, forall_eq', Option.some.injEq, zarR, zarI, zarL, zle, zq0, zq1, zq2, zq3, zq4, zq5, zq6, zq8, zq9, zq10, zq20, zq7, zq12, zq24, zq40, zq41, zq48, zq100, zq120, zq123, zq480, zq492, zq700, zq729, zq2187, zq2916, zq8748, ne_eq, Int.reduceEq, Int.reduceLT, Int.reduceLE, Int.reduceToNat, Int.reduceMul, Int.reduceAdd, Int.reduceNeg, gk2 hg, gr2_9 hg, gr2_10 hg, c3, c_fail hg c1, zu_i (show ¬ 1 = 0 by decide), zu_at]
        exact kk
      by_cases l1 : nB p.2.1 < 2
      · have l1' : ((nB p.2.1 : Nat) : Int) < 2 := by omega
        simp only [e14_134, e14_135, e14_138, e14_139, e14_142, e14_143, e14_146, e14_147, e14_150, e14_151, e14_154, e14_157, e14_158, e14_161, zs0, zsI, zsL, zsR, ztl1, ztl0, zc0, zcI, zcL, zcR, true_and, and_true, true_implies, false_implies, implies_true, not_true_eq_false, not_false_eq_true, and_self, Int.toNat_natCast, Nat.reduceAdd, Nat.reduceLeDiff, Nat.reduceLT, forall_eq', Option.some.injEq, zarR, zarI, zarL, zle, zq0, zq1, zq2, zq3, zq4, zq5, zq6, zq8, zq9, zq10, zq20, zq7, zq12, zq24, zq40, zq41, zq48, zq100, zq120, zq123, zq480, zq492, zq700, zq729, zq2187, zq2916, zq8748, ne_eq, Int.reduceEq, Int.reduceLT, Int.reduceLE, Int.reduceToNat, Int.reduceMul, Int.reduceAdd, Int.reduceNeg, gk2 hg, gr2_9 hg, gr2_10 hg, gk6 hg, gr6_0 hg, gr6_1 hg, gr6_2 hg, gr6_3 hg, gr6_4 hg, gr6_5 hg, gr6_6 hg, gr6_7 hg, gr6_8 hg, e9, l1']
        exact fl
      have l1' : ¬ ((nB p.2.1 : Nat) : Int) < 2 := by omega
      by_cases l2 : nS p.2.1 < 1
      · have l2' : ((nS p.2.1 : Nat) : Int) < 1 := by omega
        simp only [e14_134, e14_135, e14_138, e14_139, e14_142, e14_143, e14_146, e14_147, e14_150, e14_151, e14_154, e14_157, e14_158, e14_161, zs0, zsI, zsL, zsR, ztl1, ztl0, zc0, zcI, zcL, zcR, true_and, and_true, true_implies, false_implies, implies_true, not_true_eq_false, not_false_eq_true, and_self, Int.toNat_natCast, Nat.reduceAdd, Nat.reduceLeDiff, Nat.reduceLT, forall_eq', Option.some.injEq, zarR, zarI, zarL, zle, zq0, zq1, zq2, zq3, zq4, zq5, zq6, zq8, zq9, zq10, zq20, zq7, zq12, zq24, zq40, zq41, zq48, zq100, zq120, zq123, zq480, zq492, zq700, zq729, zq2187, zq2916, zq8748, ne_eq, Int.reduceEq, Int.reduceLT, Int.reduceLE, Int.reduceToNat, Int.reduceMul, Int.reduceAdd, Int.reduceNeg, gk2 hg, gr2_9 hg, gr2_10 hg, gk6 hg, gr6_0 hg, gr6_1 hg, gr6_2 hg, gr6_3 hg, gr6_4 hg, gr6_5 hg, gr6_6 hg, gr6_7 hg, gr6_8 hg, e9, l1', e10, l2']
        exact fl
      have l2' : ¬ ((nS p.2.1 : Nat) : Int) < 1 := by omega
      by_cases l3 : nP p.2.1 = 0
      · rw [if_pos l3] at d12
        simp only [e14_134, e14_135, e14_138, e14_139, e14_142, e14_143, e14_146, e14_147, e14_150, e14_151, e14_154, e14_157, e14_158, e14_161, zs0, zsI, zsL, zsR, ztl1, ztl0, zc0, zcI, zcL, zcR, true_and, and_true, true_implies, false_implies, implies_true, not_true_eq_false, not_false_eq_true, and_self, Int.toNat_natCast, Nat.reduceAdd, Nat.reduceLeDiff, Nat.reduceLT, forall_eq', Option.some.injEq, zarR, zarI, zarL, zle, zq0, zq1, zq2, zq3, zq4, zq5, zq6, zq8, zq9, zq10, zq20, zq7, zq12, zq24, zq40, zq41, zq48, zq100, zq120, zq123, zq480, zq492, zq700, zq729, zq2187, zq2916, zq8748, ne_eq, Int.reduceEq, Int.reduceLT, Int.reduceLE, Int.reduceToNat, Int.reduceMul, Int.reduceAdd, Int.reduceNeg, gk2 hg, gr2_9 hg, gr2_10 hg, gk6 hg, gr6_0 hg, gr6_1 hg, gr6_2 hg, gr6_3 hg, gr6_4 hg, gr6_5 hg, gr6_6 hg, gr6_7 hg, gr6_8 hg, e9, l1', e10, l2', d12]
        exact fl
      rw [if_neg l3] at d12
      have d13' : h 2 13 = 0 := by rw [d13]; omega
      simp only [e14_134, e14_135, e14_138, e14_139, e14_142, e14_143, e14_146, e14_147, e14_150, e14_151, e14_154, e14_157, e14_158, e14_161, zs0, zsI, zsL, zsR, ztl1, ztl0, zc0, zcI, zcL, zcR, true_and, and_true, true_implies, false_implies, implies_true, not_true_eq_false, not_false_eq_true, and_self, Int.toNat_natCast, Nat.reduceAdd, Nat.reduceLeDiff, Nat.reduceLT, forall_eq', Option.some.injEq, zarR, zarI, zarL, zle, zq0, zq1, zq2, zq3, zq4, zq5, zq6, zq8, zq9, zq10, zq20, zq7, zq12, zq24, zq40, zq41, zq48, zq100, zq120, zq123, zq480, zq492, zq700, zq729, zq2187, zq2916, zq8748, ne_eq, Int.reduceEq, Int.reduceLT, Int.reduceLE, Int.reduceToNat, Int.reduceMul, Int.reduceAdd, Int.reduceNeg, gk2 hg, gr2_9 hg, gr2_10 hg, gk6 hg, gr6_0 hg, gr6_1 hg, gr6_2 hg, gr6_3 hg, gr6_4 hg, gr6_5 hg, gr6_6 hg, gr6_7 hg, gr6_8 hg, e9, l1', e10, l2', d12, d13']
      exact fl
    · dsimp only at K
      rw [if_neg lk] at K
      have kk := K 0 h (fun _ _ _ => rfl) ⟨rfl, c0, ⟨dr, dtw, dkp, dN, d12, d13⟩, ⟨b1, b2, b3, b4, b5, b6⟩, hW, lk⟩
      have l1' : ¬ ((nB p.2.1 : Nat) : Int) < 2 := by omega
      have l2' : ¬ ((nS p.2.1 : Nat) : Int) < 1 := by omega
      rw [if_neg (by omega)] at d12
      have d13' : h 2 13 = 1 := by rw [d13]; omega
      simp only [e14_134, e14_135, e14_138, e14_139, e14_142, e14_143, e14_146, e14_147, e14_150, e14_151, e14_154, e14_157, e14_158, e14_161, e14_164, e14_165, e14_167, e14_168, e14_171, e14_174, e14_175, e14_178, zs0, zsI, zsL, zsR, ztl1, ztl0, zc0, zcI, zcL, zcR, true_and, and_true, true_implies, false_implies, implies_true, not_true_eq_false, not_false_eq_true, and_self, Int.toNat_natCast, Nat.reduceAdd, Nat.reduceLeDiff, Nat.reduceLT, forall_eq', Option.some.injEq, zarR, zarI, zarL, zle, zq0, zq1, zq2, zq3, zq4, zq5, zq6, zq8, zq9, zq10, zq20, zq7, zq12, zq24, zq40, zq41, zq48, zq100, zq120, zq123, zq480, zq492, zq700, zq729, zq2187, zq2916, zq8748, ne_eq, Int.reduceEq, Int.reduceLT, Int.reduceLE, Int.reduceToNat, Int.reduceMul, Int.reduceAdd, Int.reduceNeg, gk2 hg, gr2_9 hg, gr2_10 hg, gk6 hg, gr6_0 hg, gr6_1 hg, gr6_2 hg, gr6_3 hg, gr6_4 hg, gr6_5 hg, gr6_6 hg, gr6_7 hg, gr6_8 hg, e9, l1', e10, l2', d12, d13', c1]
      exact kk
theorem c_readLoop (hg : gS G) (ht : G.2.2.2 2 2 = some 1) (hn : n ≤ 700) (k : Nat) (i : Nat) (hi : i + k = 701) {q : Nat} {D : pD} {h : zM} (c : CS n (.inr q) h) (hq : i ≤ q) (hD : DC h D) (hB : DB (h 1) n D) (hW : WB D.1) (K : ∀ (v : Int) (h' : zM), FR h h' → RR (h 1) n (pLk n (pR (h 1) n k D q)) h' v → Q (some (zI v)) G h') : zE 14 (d + 5) Q 14 [some (zR (some 2)), some (zR (some 1)), some (zI n), some (zR (some 6)), some (zI i)] [] G h (0, 0) := by
  induction k generalizing i q D h with
  | zero =>
    have := c.2.2.2.1
    omega
  | succ k ih =>
    have qn := c.2.2.2.1
    have c1 : h 2 1 = 0 := c.2.1
    have i7 : ¬ (700 : Int) < i := by omega
    rw [e14_14]
    simp only [e14_16, e14_19, e14_22, e14_23, e14_26, zs0, zsI, zsL, zsR, ztl1, ztl0, zc0, zcI, zcL, zcR, true_and, and_true, true_implies, false_implies, implies_true, not_true_eq_false, not_false_eq_true, and_self, Int.toNat_natCast, Nat.reduceAdd, Nat.reduceLeDiff, Nat.reduceLT, forall_eq', Option.some.injEq, zarR, zarI, zarL, zle, zq0, zq1, zq2, zq3, zq4, zq5, zq6, zq8, zq9, zq10, zq20, zq7, zq12, zq24, zq40, zq41, zq48, zq100, zq120, zq123, zq480, zq492, zq700, zq729, zq2187, zq2916, zq8748, ne_eq, Int.reduceEq, Int.reduceLT, Int.reduceLE, Int.reduceToNat, Int.reduceMul, Int.reduceAdd, Int.reduceNeg, gk2 hg, gr2_9 hg, gr2_10 hg, c1, i7]
    apply c_line hg ht hn c hD hB hW
    intro h1 f1 s1
    have e1 : h1 1 = h 1 := funext (fun i => f1 _ _ (by omega))
    unfold pR at K
    cases hp : pLn (h 1) n D q with
    | inl e =>
      rw [hp] at s1 K
      have z9 : ¬ h1 2 1 = 0 := by rw [s1.2.1]; exact s1.2.2.1
      simp only [e14_106, e14_107, e14_110, e14_113, e14_114, e14_117, e14_120, zs0, zsI, zsL, zsR, ztl1, ztl0, zc0, zcI, zcL, zcR, true_and, and_true, true_implies, false_implies, implies_true, not_true_eq_false, not_false_eq_true, and_self, Int.toNat_natCast, Nat.reduceAdd, Nat.reduceLeDiff, Nat.reduceLT, forall_eq', Option.some.injEq, zarR, zarI, zarL, zle, zq0, zq1, zq2, zq3, zq4, zq5, zq6, zq8, zq9, zq10, zq20, zq7, zq12, zq24, zq40, zq41, zq48, zq100, zq120, zq123, zq480, zq492, zq700, zq729, zq2187, zq2916, zq8748, ne_eq, Int.reduceEq, Int.reduceLT, Int.reduceLE, Int.reduceToNat, Int.reduceMul, Int.reduceAdd, Int.reduceNeg, gk2 hg, gr2_9 hg, gr2_10 hg, z9]
      have s1' : CS n (.inl e) h1 := s1
      simp only [e14_123, e14_124, e14_125, zs0, zsI, zsL, zsR, ztl1, ztl0, zc0, zcI, zcL, zcR, true_and, and_true, true_implies, false_implies, implies_true, not_true_eq_false, not_false_eq_true, and_self, Int.toNat_natCast, Nat.reduceAdd, Nat.reduceLeDiff, Nat.reduceLT, forall_eq', Option.some.injEq, zarR, zarI, zarL, zle, zq0, zq1, zq2, zq3, zq4, zq5, zq6, zq8, zq9, zq10, zq20, zq7, zq12, zq24, zq40, zq41, zq48, zq100, zq120, zq123, zq480, zq492, zq700, zq729, zq2187, zq2916, zq8748, ne_eq, Int.reduceEq, Int.reduceLT, Int.reduceLE, Int.reduceToNat, Int.reduceMul, Int.reduceAdd, Int.reduceNeg, gk2 hg, gr2_9 hg, gr2_10 hg]
      have cp := @c_pass (d + 2) (fun r G' h' => r = none ∧ G' = G ∧ h' = h1) G h1 n hg ht hn (.inl e) s1' 3 (by decide) (by decide) (fun h' _ z _ => ⟨rfl, rfl, z e rfl⟩)
      rw [zq3] at cp
      apply zRunD_mono ztb zmt' (d + 5) _ _ _ _ _ _ _ cp
      intro r G' h' z
      obtain ⟨z1, z2, z3⟩ := z
      subst z1 z2 z3
      simp only [e14_128, e14_131, zs0, zsI, zsL, zsR, ztl1, ztl0, zc0, zcI, zcL, zcR, true_and, and_true, true_implies, false_implies, implies_true, not_true_eq_false, not_false_eq_true, and_self, Int.toNat_natCast, Nat.reduceAdd, Nat.reduceLeDiff, Nat.reduceLT, forall_eq', Option.some.injEq, zarR, zarI, zarL, zle, zq0, zq1, zq2, zq3, zq4, zq5, zq6, zq8, zq9, zq10, zq20, zq7, zq12, zq24, zq40, zq41, zq48, zq100, zq120, zq123, zq480, zq492, zq700, zq729, zq2187, zq2916, zq8748, ne_eq, Int.reduceEq, Int.reduceLT, Int.reduceLE, Int.reduceToNat, Int.reduceMul, Int.reduceAdd, Int.reduceNeg, gk2 hg, gr2_9 hg, gr2_10 hg, wr_s (show i < 2147483647 by omega)]
      by_cases il : i < 700
      · have i7' : ¬ (700 : Int) < ((i + 1 : Nat) : Int) := by omega
        rw [e14_14]
        simp only [e14_16, e14_19, e14_22, e14_23, e14_26, zs0, zsI, zsL, zsR, ztl1, ztl0, zc0, zcI, zcL, zcR, true_and, and_true, true_implies, false_implies, implies_true, not_true_eq_false, not_false_eq_true, and_self, Int.toNat_natCast, Nat.reduceAdd, Nat.reduceLeDiff, Nat.reduceLT, forall_eq', Option.some.injEq, zarR, zarI, zarL, zle, zq0, zq1, zq2, zq3, zq4, zq5, zq6, zq8, zq9, zq10, zq20, zq7, zq12, zq24, zq40, zq41, zq48, zq100, zq120, zq123, zq480, zq492, zq700, zq729, zq2187, zq2916, zq8748, ne_eq, Int.reduceEq, Int.reduceLT, Int.reduceLE, Int.reduceToNat, Int.reduceMul, Int.reduceAdd, Int.reduceNeg, gk2 hg, gr2_9 hg, gr2_10 hg, z9, i7']
        apply c_readEnd (s := .inl e) hg s1' (fun p z => by cases z)
        intro v h3 f3 r3
        exact K v h3 (f1.tr f3) (by rw [e1] at r3; exact r3)
      · have i7' : (700 : Int) < ((i + 1 : Nat) : Int) := by omega
        rw [e14_14]
        simp only [e14_16, e14_19, e14_22, e14_23, e14_26, zs0, zsI, zsL, zsR, ztl1, ztl0, zc0, zcI, zcL, zcR, true_and, and_true, true_implies, false_implies, implies_true, not_true_eq_false, not_false_eq_true, and_self, Int.toNat_natCast, Nat.reduceAdd, Nat.reduceLeDiff, Nat.reduceLT, forall_eq', Option.some.injEq, zarR, zarI, zarL, zle, zq0, zq1, zq2, zq3, zq4, zq5, zq6, zq8, zq9, zq10, zq20, zq7, zq12, zq24, zq40, zq41, zq48, zq100, zq120, zq123, zq480, zq492, zq700, zq729, zq2187, zq2916, zq8748, ne_eq, Int.reduceEq, Int.reduceLT, Int.reduceLE, Int.reduceToNat, Int.reduceMul, Int.reduceAdd, Int.reduceNeg, gk2 hg, gr2_9 hg, gr2_10 hg, i7']
        apply c_readEnd (s := .inl e) hg s1' (fun p z => by cases z)
        intro v h3 f3 r3
        exact K v h3 (f1.tr f3) (by rw [e1] at r3; exact r3)
    | inr p =>
      rw [hp] at s1 K
      dsimp only at K
      have ok := pLn_ok qn hB hW hp
      obtain ⟨s1, D1⟩ := s1
      have c1' : h1 2 1 = 0 := s1.2.1
      have t5 := s1.2.2.2.2.1
      have t6 := s1.2.2.2.2.2.1
      rw [e1] at t5 t6
      by_cases k0 : kd (h 1) n p.1 = 0
      · rw [if_pos k0] at K
        rw [k0, zq0] at t5
        simp only [e14_106, e14_107, e14_110, e14_113, e14_114, e14_117, e14_120, zs0, zsI, zsL, zsR, ztl1, ztl0, zc0, zcI, zcL, zcR, true_and, and_true, true_implies, false_implies, implies_true, not_true_eq_false, not_false_eq_true, and_self, Int.toNat_natCast, Nat.reduceAdd, Nat.reduceLeDiff, Nat.reduceLT, forall_eq', Option.some.injEq, zarR, zarI, zarL, zle, zq0, zq1, zq2, zq3, zq4, zq5, zq6, zq8, zq9, zq10, zq20, zq7, zq12, zq24, zq40, zq41, zq48, zq100, zq120, zq123, zq480, zq492, zq700, zq729, zq2187, zq2916, zq8748, ne_eq, Int.reduceEq, Int.reduceLT, Int.reduceLE, Int.reduceToNat, Int.reduceMul, Int.reduceAdd, Int.reduceNeg, gk2 hg, gr2_9 hg, gr2_10 hg, c1', t5]
        apply c_readEnd (s := .inr p) hg ⟨s1, D1⟩ (fun p' z => by cases z; rw [e1]; exact ⟨ok.2.2.1, ok.2.2.2⟩)
        intro v h3 f3 r3
        exact K v h3 (f1.tr f3) (by rw [e1] at r3; exact r3)
      rw [if_neg k0] at K
      have t5' : ¬ h1 2 5 = 0 := by rw [t5]; omega
      simp only [e14_106, e14_107, e14_110, e14_113, e14_114, e14_117, e14_120, e14_123, e14_124, e14_125, zs0, zsI, zsL, zsR, ztl1, ztl0, zc0, zcI, zcL, zcR, true_and, and_true, true_implies, false_implies, implies_true, not_true_eq_false, not_false_eq_true, and_self, Int.toNat_natCast, Nat.reduceAdd, Nat.reduceLeDiff, Nat.reduceLT, forall_eq', Option.some.injEq, zarR, zarI, zarL, zle, zq0, zq1, zq2, zq3, zq4, zq5, zq6, zq8, zq9, zq10, zq20, zq7, zq12, zq24, zq40, zq41, zq48, zq100, zq120, zq123, zq480, zq492, zq700, zq729, zq2187, zq2916, zq8748, ne_eq, Int.reduceEq, Int.reduceLT, Int.reduceLE, Int.reduceToNat, Int.reduceMul, Int.reduceAdd, Int.reduceNeg, gk2 hg, gr2_9 hg, gr2_10 hg, c1', t5']
      have cp : zRunD ztb zmt' (d + 5) 30 [zR (some 2), zI (3 : Nat)] G h1 (fun r G' h' => r = none ∧ G' = G ∧ (∀ c i, ¬ (c = 2 ∧ i ≤ 8) → h' c i = h1 c i) ∧ CS n (sP (.inr p.1) (pPs (h 1) n 3)) h') := by
        apply c_pass (d := d + 2) hg ht hn s1 (by decide) (by decide)
        intro h' f' _ s'
        rw [e1] at s'
        exact ⟨rfl, rfl, f', s'⟩
      rw [zq3] at cp
      apply zRunD_mono ztb zmt' (d + 5) _ _ _ _ _ _ _ cp
      intro r G' h2 z
      obtain ⟨z1, z2, f2, s2⟩ := z
      subst z1 z2
      have R2 : FR h1 h2 := fun c i z => f2 c i (by omega)
      have e2 : h2 1 = h 1 := by rw [← e1]; exact funext (fun i => f2 _ _ (by omega))
      simp only [e14_128, e14_131, zs0, zsI, zsL, zsR, ztl1, ztl0, zc0, zcI, zcL, zcR, true_and, and_true, true_implies, false_implies, implies_true, not_true_eq_false, not_false_eq_true, and_self, Int.toNat_natCast, Nat.reduceAdd, Nat.reduceLeDiff, Nat.reduceLT, forall_eq', Option.some.injEq, zarR, zarI, zarL, zle, zq0, zq1, zq2, zq3, zq4, zq5, zq6, zq8, zq9, zq10, zq20, zq7, zq12, zq24, zq40, zq41, zq48, zq100, zq120, zq123, zq480, zq492, zq700, zq729, zq2187, zq2916, zq8748, ne_eq, Int.reduceEq, Int.reduceLT, Int.reduceLE, Int.reduceToNat, Int.reduceMul, Int.reduceAdd, Int.reduceNeg, gk2 hg, gr2_9 hg, gr2_10 hg, wr_s (show i < 2147483647 by omega)]
      dsimp only [sP] at s2
      unfold pPs at s2
      by_cases k3 : kd (h 1) n p.1 = 3
      · rw [if_pos k3] at K s2
        have nx := nxt_b (tp := h 1) p.1 ok.2.1
        have := nx.2.2 (by omega)
        have D2 : DC h2 p.2 := by
          obtain ⟨dr, dtw, dkp, dN, d12, d13⟩ := D1
          obtain ⟨r1, r2, r3, r4, r5, r6, r7, r8, r9, r10, r11, r12⟩ := dr
          refine ⟨⟨?_, ?_, ?_, ?_, ?_, ?_, ?_, ?_, ?_, ?_, ?_, ?_⟩, ?_, ?_, ?_, ?_, ?_⟩
          · rw [f2 _ _ (by omega)]; exact r1
          · rw [f2 _ _ (by omega)]; exact r2
          · rw [f2 _ _ (by omega)]; exact r3
          · intro i hi; rw [f2 _ _ (by omega)]; exact r4 i hi
          · intro i hi; rw [f2 _ _ (by omega)]; exact r5 i hi
          · intro i hi; rw [f2 _ _ (by omega)]; exact r6 i hi
          · intro i hi; rw [f2 _ _ (by omega)]; exact r7 i hi
          · intro i hi; rw [f2 _ _ (by omega)]; exact r8 i hi
          · intro i hi; rw [f2 _ _ (by omega)]; exact r9 i hi
          · intro i hi; rw [f2 _ _ (by omega)]; exact r10 i hi
          · intro i hi; rw [f2 _ _ (by omega)]; exact r11 i hi
          · intro i hi; rw [f2 _ _ (by omega)]; exact r12 i hi
          · intro z; rw [f2 _ _ (by omega)]; exact dtw z
          · intro z; rw [f2 _ _ (by omega)]; exact dkp z
          · exact NM_fr dN (f2 _ _ (by omega)) (fun i => ⟨f2 _ _ (by omega), f2 _ _ (by omega)⟩)
          · rw [f2 _ _ (by omega)]; exact d12
          · rw [f2 _ _ (by omega)]; exact d13
        apply ih (i + 1) (by omega) s2 (by omega) D2 (by rw [e2]; exact ok.2.2.1) ok.2.2.2
        intro v h3 f3 r3
        exact K v h3 (f1.tr (R2.tr f3)) (by rw [e2] at r3; exact r3)
      · rw [if_neg k3] at K s2
        have z9 : ¬ h2 2 1 = 0 := by rw [s2.2.1]; decide
        by_cases il : i < 700
        · have i7' : ¬ (700 : Int) < ((i + 1 : Nat) : Int) := by omega
          rw [e14_14]
          simp only [e14_16, e14_19, e14_22, e14_23, e14_26, zs0, zsI, zsL, zsR, ztl1, ztl0, zc0, zcI, zcL, zcR, true_and, and_true, true_implies, false_implies, implies_true, not_true_eq_false, not_false_eq_true, and_self, Int.toNat_natCast, Nat.reduceAdd, Nat.reduceLeDiff, Nat.reduceLT, forall_eq', Option.some.injEq, zarR, zarI, zarL, zle, zq0, zq1, zq2, zq3, zq4, zq5, zq6, zq8, zq9, zq10, zq20, zq7, zq12, zq24, zq40, zq41, zq48, zq100, zq120, zq123, zq480, zq492, zq700, zq729, zq2187, zq2916, zq8748, ne_eq, Int.reduceEq, Int.reduceLT, Int.reduceLE, Int.reduceToNat, Int.reduceMul, Int.reduceAdd, Int.reduceNeg, gk2 hg, gr2_9 hg, gr2_10 hg, z9, i7']
          apply c_readEnd (s := .inl (1, ((st (h 1) n p.1 : Nat) : Int))) hg s2 (fun p z => by cases z)
          intro v h3 f3 r3
          exact K v h3 (f1.tr (R2.tr f3)) (by rw [e2] at r3; exact r3)
        · have i7' : (700 : Int) < ((i + 1 : Nat) : Int) := by omega
          rw [e14_14]
          simp only [e14_16, e14_19, e14_22, e14_23, e14_26, zs0, zsI, zsL, zsR, ztl1, ztl0, zc0, zcI, zcL, zcR, true_and, and_true, true_implies, false_implies, implies_true, not_true_eq_false, not_false_eq_true, and_self, Int.toNat_natCast, Nat.reduceAdd, Nat.reduceLeDiff, Nat.reduceLT, forall_eq', Option.some.injEq, zarR, zarI, zarL, zle, zq0, zq1, zq2, zq3, zq4, zq5, zq6, zq8, zq9, zq10, zq20, zq7, zq12, zq24, zq40, zq41, zq48, zq100, zq120, zq123, zq480, zq492, zq700, zq729, zq2187, zq2916, zq8748, ne_eq, Int.reduceEq, Int.reduceLT, Int.reduceLE, Int.reduceToNat, Int.reduceMul, Int.reduceAdd, Int.reduceNeg, gk2 hg, gr2_9 hg, gr2_10 hg, i7']
          apply c_readEnd (s := .inl (1, ((st (h 1) n p.1 : Nat) : Int))) hg s2 (fun p z => by cases z)
          intro v h3 f3 r3
          exact K v h3 (f1.tr (R2.tr f3)) (by rw [e2] at r3; exact r3)
end CR
