/-- the prices told so far, in the draft -/
def PRc (h : zM) (T : aTn) : Prop := h 6 11 = (nP T : Int) ∧ ∀ i, i < nP T → h 15 i = tr T 8 i
def LPr (n : Nat) (r : pE ⊕ (Nat × aTn)) (h : zM) : Prop := match r with
  | .inl e => CS n (.inl e) h
  | .inr p => CS n (.inr p.1) h ∧ PRc h p.2
theorem prT_8 {T : aTn} {v : Int} {i : Nat} : tr (prT T v) 8 i = if i = nP T then v else tr T 8 i := by
  unfold tr prT
  dsimp only
  by_cases z : i = T.2.2.1
  · rw [if_pos ⟨z, rfl⟩, if_pos (show i = nP T from z)]
  · rw [if_neg (fun e => z e.1), if_neg (show ¬ i = nP T from z)]
theorem prT_o {T : aTn} {v : Int} {j i : Nat} (hj : ¬ j = 8) : tr (prT T v) j i = tr T j i := by
  unfold tr prT
  dsimp only
  rw [if_neg (fun e => hj e.2)]
theorem pPL_rows {tp : Nat → Int} {n : Nat} (k : Nat) {T : aTn} {q : Nat} {p : Nat × aTn} (h : pPL tp n k T q = .inr p) : ∀ j i, ¬ j = 8 → tr p.2 j i = tr T j i ∧ kp p.2 = kp T := by
  induction k generalizing T q with
  | zero => cases h; exact fun _ _ _ => ⟨rfl, rfl⟩
  | succ k ih =>
    unfold pPL at h
    split at h
    · cases hp : pPr tp n T (nxt tp n q) with
      | inl e => rw [hp] at h; cases h
      | inr r =>
        rw [hp] at h
        dsimp only at h
        have e : ∃ v, r.2 = prT T v := by
          unfold pPr at hp
          cases hN : pN tp n (if nP T = 0 then 0 else tr T 8 (nP T - 1) + 1) 199 (nxt tp n q) with
          | inl e => rw [hN] at hp; cases hp
          | inr s =>
            rw [hN] at hp
            dsimp only at hp
            split at hp
            · cases hp
            · cases hp; exact ⟨_, rfl⟩
        obtain ⟨v, e⟩ := e
        intro j i hj
        have z := ih h j i hj
        rw [z.1, z.2, e, prT_o hj]
        exact ⟨rfl, rfl⟩
    · cases h; exact fun _ _ _ => ⟨rfl, rfl⟩
section CP
variable {d : Nat} {Q : zQ} {G : zG} {h : zM} {n q : Nat} {T : aTn}
theorem c_readPrice (hg : gS G) (ht : G.2.2.2 2 2 = some 1) (hn : n ≤ 700) (c : CS n (.inr q) h) (hP : PRc h T) (h3 : nP T ≤ 3) (hb : ∀ i, 0 ≤ tr T 8 i ∧ tr T 8 i ≤ 199) (K : ∀ h' : zM, (∀ c i, ¬ (c = 2 ∧ i ≤ 8) → ¬ (c = 6 ∧ i = 11) → ¬ c = 15 → h' c i = h c i) → LPr n (pPr (h 1) n T q) h' → Q none G h') : zRunD ztb zmt' (d + 3) 23 [zR (some 2), zR (some 6)] G h Q := by
  rw [r23]
  have c1 : h 2 1 = 0 := c.2.1
  have tk := c.2.2.2
  have t5 := tk.2.1
  have t6 := tk.2.2.1
  have t8 := tk.2.2.2.2.1
  have p0 := hP.1
  have die : ∀ a : Int, ¬ a = 0 → pPr (h 1) n T q = .inl (a, (st (h 1) n q : Nat)) → Q none G (zu (zu h 2 1 a) 2 0 (st (h 1) n q : Nat)) := by
    intro a ha z
    rw [z] at K
    exact K _ (fun c i z _ _ => by rw [zu, if_neg (by omega), zu, if_neg (by omega)]) (CS_die c ha)
  by_cases k2 : kd (h 1) n q = 2
  · have t8 := t8 k2
    have n0 := nb_0 k2
    rw [k2] at t5
    by_cases bad : ¬ ((if nP T = 0 then 0 else tr T 8 (nP T - 1) + 1) ≤ nb (h 1) n q ∧ nb (h 1) n q ≤ 199)
    · have dd := die 4 (by decide) (by
        unfold pPr pN
        rw [if_neg (by omega), if_pos bad])
      by_cases v199 : 199 < nb (h 1) n q
      · simp only [e23_0, e23_1, e23_4, e23_7, e23_8, e23_9, e23_12, e23_13, e23_16, e23_17, e23_18, e23_19, e23_22, e23_25, e23_28, e23_29, e23_32, e23_35, e23_38, e23_39, e23_42, e23_45, e23_46, e23_49, e23_50, e23_53, e23_54, e23_57, e23_58, e23_59, e23_60, e23_63, e23_64, e23_65, e23_66, e23_69, e23_72, e23_75, e23_76, e23_79, e23_80, e23_83, e23_84, e23_85, e23_86, e23_89, e23_92, e23_95, e23_96, e23_99, e23_100, e23_103, e23_104, e23_107, e23_108, e23_109, e23_110, e23_113, e23_114, e23_115, e23_118, e23_119, e23_122, zs0, zsI, zsL, zsR, ztl1, ztl0, zc0, zcI, zcL, zcR, true_and, and_true, true_implies, false_implies, implies_true, not_true_eq_false, not_false_eq_true, and_self, Int.toNat_natCast, Nat.reduceAdd, Nat.reduceLeDiff, Nat.reduceLT, forall_eq', Option.some.injEq, zarR, zarI, zarL, zle, zq0, zq1, zq2, zq3, zq4, zq5, zq6, zq8, zq9, zq10, zq20, zq7, zq12, zq24, zq40, zq41, zq48, zq100, zq120, zq123, zq480, zq492, zq700, zq729, zq2187, zq2916, zq8748, ne_eq, Int.reduceEq, Int.reduceLT, Int.reduceLE, Int.reduceToNat, Int.reduceMul, Int.reduceAdd, Int.reduceNeg, gk2 hg, gr2_9 hg, gr2_10 hg, gk6 hg, gr6_0 hg, gr6_1 hg, gr6_2 hg, gr6_3 hg, gr6_4 hg, gr6_5 hg, gr6_6 hg, gr6_7 hg, gr6_8 hg, gk15 hg, gl15 hg, or_true, true_or, if_true, if_false, false_and, and_false, false_or, or_false, c1, t5, t6, t8, zq2, v199, c_fail hg c1]
        exact dd
      · have np : ¬ nP T = 0 := by
          intro z
          rw [if_pos z] at bad
          omega
        rw [if_neg np] at bad
        have np' : ¬ (nP T : Int) ≤ 0 := by omega
        have w : wr ((nP T : Int) - 1) = ((nP T - 1 : Nat) : Int) := wrN (by omega) (by omega)
        have i3 : ((nP T - 1 : Nat) : Int) < 3 := by omega
        have e15 := hP.2 (nP T - 1) (by omega)
        have le : ¬ tr T 8 (nP T - 1) < nb (h 1) n q := by omega
        simp only [e23_0, e23_1, e23_4, e23_7, e23_8, e23_9, e23_12, e23_13, e23_16, e23_17, e23_18, e23_19, e23_22, e23_25, e23_28, e23_29, e23_32, e23_35, e23_38, e23_39, e23_42, e23_45, e23_46, e23_49, e23_50, e23_53, e23_54, e23_57, e23_58, e23_59, e23_60, e23_63, e23_64, e23_65, e23_66, e23_69, e23_72, e23_75, e23_76, e23_79, e23_80, e23_83, e23_84, e23_85, e23_86, e23_89, e23_92, e23_95, e23_96, e23_99, e23_100, e23_103, e23_104, e23_107, e23_108, e23_109, e23_110, e23_113, e23_114, e23_115, e23_118, e23_119, e23_122, zs0, zsI, zsL, zsR, ztl1, ztl0, zc0, zcI, zcL, zcR, true_and, and_true, true_implies, false_implies, implies_true, not_true_eq_false, not_false_eq_true, and_self, Int.toNat_natCast, Nat.reduceAdd, Nat.reduceLeDiff, Nat.reduceLT, forall_eq', Option.some.injEq, zarR, zarI, zarL, zle, zq0, zq1, zq2, zq3, zq4, zq5, zq6, zq8, zq9, zq10, zq20, zq7, zq12, zq24, zq40, zq41, zq48, zq100, zq120, zq123, zq480, zq492, zq700, zq729, zq2187, zq2916, zq8748, ne_eq, Int.reduceEq, Int.reduceLT, Int.reduceLE, Int.reduceToNat, Int.reduceMul, Int.reduceAdd, Int.reduceNeg, gk2 hg, gr2_9 hg, gr2_10 hg, gk6 hg, gr6_0 hg, gr6_1 hg, gr6_2 hg, gr6_3 hg, gr6_4 hg, gr6_5 hg, gr6_6 hg, gr6_7 hg, gr6_8 hg, gk15 hg, gl15 hg, or_true, true_or, if_true, if_false, false_and, and_false, false_or, or_false, c1, t5, t6, t8, zq2, v199, p0, np', w, i3, e15, le, c_fail hg c1]
        exact dd
    · have v199 : ¬ 199 < nb (h 1) n q := by omega
      have ePr : pPr (h 1) n T q = if nP T = 3 then .inl (5, (st (h 1) n q : Nat)) else .inr (nxt (h 1) n q, prT T (nb (h 1) n q)) := by
        unfold pPr pN
        rw [if_neg (by omega), if_neg bad]
      -- behind the bounds
      have rest : zE 23 (d + 2) Q 75 [some (zR (some 2)), some (zR (some 6))] [] G h (0, 0) := by
        by_cases full : nP T = 3
        · rw [if_pos full] at ePr
          have f' : ¬ (nP T : Int) < 3 := by omega
          simp only [e23_75, e23_76, e23_79, e23_80, e23_83, e23_84, e23_85, e23_86, e23_89, e23_92, e23_95, e23_96, e23_99, e23_100, e23_103, e23_104, e23_107, e23_108, e23_109, e23_110, e23_113, e23_114, e23_115, e23_118, e23_119, e23_122, zs0, zsI, zsL, zsR, ztl1, ztl0, zc0, zcI, zcL, zcR, true_and, and_true, true_implies, false_implies, implies_true, not_true_eq_false, not_false_eq_true, and_self, Int.toNat_natCast, Nat.reduceAdd, Nat.reduceLeDiff, Nat.reduceLT, forall_eq', Option.some.injEq, zarR, zarI, zarL, zle, zq0, zq1, zq2, zq3, zq4, zq5, zq6, zq8, zq9, zq10, zq20, zq7, zq12, zq24, zq40, zq41, zq48, zq100, zq120, zq123, zq480, zq492, zq700, zq729, zq2187, zq2916, zq8748, ne_eq, Int.reduceEq, Int.reduceLT, Int.reduceLE, Int.reduceToNat, Int.reduceMul, Int.reduceAdd, Int.reduceNeg, gk2 hg, gr2_9 hg, gr2_10 hg, gk6 hg, gr6_0 hg, gr6_1 hg, gr6_2 hg, gr6_3 hg, gr6_4 hg, gr6_5 hg, gr6_6 hg, gr6_7 hg, gr6_8 hg, p0, f', t6, c_fail hg c1]
          exact die 5 (by decide) ePr
        · rw [if_neg full] at ePr
          rw [ePr] at K
          have f' : (nP T : Int) < 3 := by omega
          simp only [e23_75, e23_76, e23_79, e23_80, e23_83, e23_84, e23_85, e23_86, e23_89, e23_92, e23_95, e23_96, e23_99, e23_100, e23_103, e23_104, e23_107, e23_108, e23_109, e23_110, e23_113, e23_114, e23_115, e23_118, e23_119, zs0, zsI, zsL, zsR, ztl1, ztl0, zc0, zcI, zcL, zcR, true_and, and_true, true_implies, false_implies, implies_true, not_true_eq_false, not_false_eq_true, and_self, Int.toNat_natCast, Nat.reduceAdd, Nat.reduceLeDiff, Nat.reduceLT, forall_eq', Option.some.injEq, zarR, zarI, zarL, zle, zq0, zq1, zq2, zq3, zq4, zq5, zq6, zq8, zq9, zq10, zq20, zq7, zq12, zq24, zq40, zq41, zq48, zq100, zq120, zq123, zq480, zq492, zq700, zq729, zq2187, zq2916, zq8748, ne_eq, Int.reduceEq, Int.reduceLT, Int.reduceLE, Int.reduceToNat, Int.reduceMul, Int.reduceAdd, Int.reduceNeg, gk2 hg, gr2_9 hg, gr2_10 hg, gk6 hg, gr6_0 hg, gr6_1 hg, gr6_2 hg, gr6_3 hg, gr6_4 hg, gr6_5 hg, gr6_6 hg, gr6_7 hg, gr6_8 hg, gk15 hg, gl15 hg, p0, f', t8, zu_c (show ¬ 6 = 15 by decide), wr_s (show nP T < 2147483647 by omega)]
          obtain ⟨h2, e2⟩ : ∃ z, z = zu (zu h 15 (nP T) (nb (h 1) n q)) 6 11 ((nP T + 1 : Nat) : Int) := ⟨_, rfl⟩
          rw [← e2]
          have f2 : ∀ c i, ¬ (c = 15 ∧ i = nP T) → ¬ (c = 6 ∧ i = 11) → h2 c i = h c i := fun c i z1 z2 => by rw [e2, zu, if_neg z2, zu, if_neg z1]
          have c2 : CS n (.inr q) h2 := CS_fr c (fun i => f2 _ _ (by omega) (by omega)) (fun i _ => f2 _ _ (by omega) (by omega))
          have e1 : h2 1 = h 1 := funext (fun i => f2 _ _ (by omega) (by omega))
          apply c_step (d := d) hg ht hn c2 (by rw [e1]; omega)
          intro h4 f4 c4
          rw [e1] at c4
          simp only [e23_122, zs0, zsI, zsL, zsR, ztl1, ztl0, zc0, zcI, zcL, zcR, true_and, and_true, true_implies, false_implies, implies_true, not_true_eq_false, not_false_eq_true, and_self, Int.toNat_natCast, Nat.reduceAdd, Nat.reduceLeDiff, Nat.reduceLT, forall_eq', Option.some.injEq, zarR, zarI, zarL, zle, zq0, zq1, zq2, zq3, zq4, zq5, zq6, zq8, zq9, zq10, zq20, zq7, zq12, zq24, zq40, zq41, zq48, zq100, zq120, zq123, zq480, zq492, zq700, zq729, zq2187, zq2916, zq8748, ne_eq, Int.reduceEq, Int.reduceLT, Int.reduceLE, Int.reduceToNat, Int.reduceMul, Int.reduceAdd, Int.reduceNeg]
          apply K h4 (fun c i z1 z2 z3 => by rw [f4 c i z1, f2 c i (by omega) z2])
          refine ⟨c4, ?_, ?_⟩
          · rw [f4 _ _ (by omega), e2, zu_at]
            rfl
          · intro i hi
            have hi' : i < nP T + 1 := hi
            dsimp only
            rw [prT_8, f4 _ _ (by omega)]
            by_cases z : i = nP T
            · rw [if_pos z, z, e2, zu_c (by decide), zu_at]
            · rw [if_neg z, f2 _ _ (by omega) (by omega)]
              exact hP.2 i (by omega)
      by_cases np : nP T = 0
      · have np' : (nP T : Int) ≤ 0 := by omega
        simp only [e23_0, e23_1, e23_4, e23_7, e23_8, e23_9, e23_12, e23_13, e23_16, e23_17, e23_18, e23_19, e23_22, e23_25, e23_28, e23_29, e23_32, e23_35, e23_38, e23_39, e23_42, e23_45, e23_46, e23_49, e23_50, e23_53, e23_54, e23_57, e23_58, e23_59, e23_60, e23_63, e23_64, e23_65, e23_66, e23_69, e23_72, zs0, zsI, zsL, zsR, ztl1, ztl0, zc0, zcI, zcL, zcR, true_and, and_true, true_implies, false_implies, implies_true, not_true_eq_false, not_false_eq_true, and_self, Int.toNat_natCast, Nat.reduceAdd, Nat.reduceLeDiff, Nat.reduceLT, forall_eq', Option.some.injEq, zarR, zarI, zarL, zle, zq0, zq1, zq2, zq3, zq4, zq5, zq6, zq8, zq9, zq10, zq20, zq7, zq12, zq24, zq40, zq41, zq48, zq100, zq120, zq123, zq480, zq492, zq700, zq729, zq2187, zq2916, zq8748, ne_eq, Int.reduceEq, Int.reduceLT, Int.reduceLE, Int.reduceToNat, Int.reduceMul, Int.reduceAdd, Int.reduceNeg, gk2 hg, gr2_9 hg, gr2_10 hg, gk6 hg, gr6_0 hg, gr6_1 hg, gr6_2 hg, gr6_3 hg, gr6_4 hg, gr6_5 hg, gr6_6 hg, gr6_7 hg, gr6_8 hg, gk15 hg, gl15 hg, c1, t5, t8, zq2, v199, p0, np']
        exact rest
      · rw [if_neg np] at bad
        have np' : ¬ (nP T : Int) ≤ 0 := by omega
        have w : wr ((nP T : Int) - 1) = ((nP T - 1 : Nat) : Int) := wrN (by omega) (by omega)
        have i3 : ((nP T - 1 : Nat) : Int) < 3 := by omega
        have e15 := hP.2 (nP T - 1) (by omega)
        have le : tr T 8 (nP T - 1) < nb (h 1) n q := by omega
        simp only [e23_0, e23_1, e23_4, e23_7, e23_8, e23_9, e23_12, e23_13, e23_16, e23_17, e23_18, e23_19, e23_22, e23_25, e23_28, e23_29, e23_32, e23_35, e23_38, e23_39, e23_42, e23_45, e23_46, e23_49, e23_50, e23_53, e23_54, e23_57, e23_58, e23_59, e23_60, e23_63, e23_64, e23_65, e23_66, e23_69, e23_72, zs0, zsI, zsL, zsR, ztl1, ztl0, zc0, zcI, zcL, zcR, true_and, and_true, true_implies, false_implies, implies_true, not_true_eq_false, not_false_eq_true, and_self, Int.toNat_natCast, Nat.reduceAdd, Nat.reduceLeDiff, Nat.reduceLT, forall_eq', Option.some.injEq, zarR, zarI, zarL, zle, zq0, zq1, zq2, zq3, zq4, zq5, zq6, zq8, zq9, zq10, zq20, zq7, zq12, zq24, zq40, zq41, zq48, zq100, zq120, zq123, zq480, zq492, zq700, zq729, zq2187, zq2916, zq8748, ne_eq, Int.reduceEq, Int.reduceLT, Int.reduceLE, Int.reduceToNat, Int.reduceMul, Int.reduceAdd, Int.reduceNeg, gk2 hg, gr2_9 hg, gr2_10 hg, gk6 hg, gr6_0 hg, gr6_1 hg, gr6_2 hg, gr6_3 hg, gr6_4 hg, gr6_5 hg, gr6_6 hg, gr6_7 hg, gr6_8 hg, gk15 hg, gl15 hg, c1, t5, t8, zq2, v199, p0, np', w, i3, e15, le]
        exact rest
  · have k2' : ¬ ((kd (h 1) n q : Nat) : Int) = 2 := by omega
    have dd := die 1 (by decide) (by
      unfold pPr pN
      rw [if_pos k2])
    simp only [e23_0, e23_1, e23_4, e23_7, e23_8, e23_9, e23_12, e23_13, e23_16, e23_17, e23_18, e23_19, e23_22, e23_25, e23_28, e23_29, e23_32, e23_35, e23_38, e23_39, e23_42, e23_45, e23_46, e23_49, e23_50, e23_53, e23_54, e23_57, e23_58, e23_59, e23_60, e23_63, e23_64, e23_65, e23_66, e23_69, e23_72, e23_75, e23_76, e23_79, e23_80, e23_83, e23_84, e23_85, e23_86, e23_89, e23_92, e23_95, e23_96, e23_99, e23_100, e23_103, e23_104, e23_107, e23_108, e23_109, e23_110, e23_113, e23_114, e23_115, e23_118, e23_119, e23_122, zs0, zsI, zsL, zsR, ztl1, ztl0, zc0, zcI, zcL, zcR, true_and, and_true, true_implies, false_implies, implies_true, not_true_eq_false, not_false_eq_true, and_self, Int.toNat_natCast, Nat.reduceAdd, Nat.reduceLeDiff, Nat.reduceLT, forall_eq', Option.some.injEq, zarR, zarI, zarL, zle, zq0, zq1, zq2, zq3, zq4, zq5, zq6, zq8, zq9, zq10, zq20, zq7, zq12, zq24, zq40, zq41, zq48, zq100, zq120, zq123, zq480, zq492, zq700, zq729, zq2187, zq2916, zq8748, ne_eq, Int.reduceEq, Int.reduceLT, Int.reduceLE, Int.reduceToNat, Int.reduceMul, Int.reduceAdd, Int.reduceNeg, gk2 hg, gr2_9 hg, gr2_10 hg, gk6 hg, gr6_0 hg, gr6_1 hg, gr6_2 hg, gr6_3 hg, gr6_4 hg, gr6_5 hg, gr6_6 hg, gr6_7 hg, gr6_8 hg, or_true, true_or, if_true, if_false, false_and, and_false, false_or, or_false, c1, t5, t6, k2', c_fail hg c1]
    exact dd
theorem c_readPrice' (hg : gS G) (c1 : ¬ h 2 1 = 0) : zRunD ztb zmt' (d + 3) 23 [zR (some 2), zR (some 6)] G h Q ↔ Q none G h := by
  rw [r23]
  simp only [e23_0, e23_1, e23_4, e23_7, e23_8, e23_9, e23_12, e23_13, e23_16, e23_17, e23_18, e23_19, e23_22, e23_25, e23_28, e23_29, e23_32, e23_35, e23_38, e23_39, e23_42, e23_45, e23_46, e23_49, e23_50, e23_53, e23_54, e23_57, e23_58, e23_59, e23_60, e23_63, e23_64, e23_65, e23_66, e23_69, e23_72, e23_75, e23_76, e23_79, e23_80, e23_83, e23_84, e23_85, e23_86, e23_89, e23_92, e23_95, e23_96, e23_99, e23_100, e23_103, e23_104, e23_107, e23_108, e23_109, e23_110, e23_113, e23_114, e23_115, e23_118, e23_119, e23_122, zs0, zsI, zsL, zsR, ztl1, ztl0, zc0, zcI, zcL, zcR, true_and, and_true, true_implies, false_implies, implies_true, not_true_eq_false, not_false_eq_true, and_self, Int.toNat_natCast, Nat.reduceAdd, Nat.reduceLeDiff, Nat.reduceLT, forall_eq', Option.some.injEq, zarR, zarI, zarL, zle, zq0, zq1, zq2, zq3, zq4, zq5, zq6, zq8, zq9, zq10, zq20, zq7, zq12, zq24, zq40, zq41, zq48, zq100, zq120, zq123, zq480, zq492, zq700, zq729, zq2187, zq2916, zq8748, ne_eq, Int.reduceEq, Int.reduceLT, Int.reduceLE, Int.reduceToNat, Int.reduceMul, Int.reduceAdd, Int.reduceNeg, gk2 hg, gr2_9 hg, gr2_10 hg, or_true, true_or, if_true, if_false, false_and, and_false, false_or, or_false, c1]
theorem c_readPrices (hg : gS G) (ht : G.2.2.2 2 2 = some 1) (hn : n ≤ 700) {D : pD} (c : CS n (.inr q) h) (hk : kd (h 1) n q = 1) (hD : DC h D) (hB : DB (h 1) n D) (hW : WB D.1) (K : ∀ h' : zM, FR h h' → LR n (pPs' (h 1) n D q) h' → Q none G h') : zRunD ztb zmt' (d + 5) 22 [zR (some 2), zR (some 6)] G h Q := by
  rw [r22]
  have c1 : h 2 1 = 0 := c.2.1
  have t6 := c.2.2.2.2.2.1
  have hq := c.2.2.2.1
  obtain ⟨b1, b2, b3, b4, b5, b6⟩ := hB
  obtain ⟨dr, dtw, dkp, dN, d12, d13⟩ := hD
  unfold pPs' at K
  by_cases np : nP D.1 = 0
  · rw [if_pos np] at d12
    rw [if_neg (by omega)] at K
    simp only [e22_0, e22_1, e22_4, e22_7, e22_8, e22_9, e22_10, e22_13, e22_16, e22_17, e22_18, e22_19, e22_22, e22_23, zs0, zsI, zsL, zsR, ztl1, ztl0, zc0, zcI, zcL, zcR, true_and, and_true, true_implies, false_implies, implies_true, not_true_eq_false, not_false_eq_true, and_self, Int.toNat_natCast, Nat.reduceAdd, Nat.reduceLeDiff, Nat.reduceLT, forall_eq', Option.some.injEq, zarR, zarI, zarL, zle, zq0, zq1, zq2, zq3, zq4, zq5, zq6, zq8, zq9, zq10, zq20, zq7, zq12, zq24, zq40, zq41, zq48, zq100, zq120, zq123, zq480, zq492, zq700, zq729, zq2187, zq2916, zq8748, ne_eq, Int.reduceEq, Int.reduceLT, Int.reduceLE, Int.reduceToNat, Int.reduceMul, Int.reduceAdd, Int.reduceNeg, gk2 hg, gr2_9 hg, gr2_10 hg, gk6 hg, gr6_0 hg, gr6_1 hg, gr6_2 hg, gr6_3 hg, gr6_4 hg, gr6_5 hg, gr6_6 hg, gr6_7 hg, gr6_8 hg, d12, or_true]
    have c2 : CS n (.inr q) (zu h 2 12 1) := CS_fr c (fun i => zu_c (by decide)) (fun i _ => zu_i (by omega))
    have e1 : (zu h 2 12 1) 1 = h 1 := funext (fun i => zu_c (by decide))
    apply c_step (d := d + 2) hg ht hn c2 (by rw [e1]; omega)
    intro h2 f2 s2
    rw [e1] at s2
    have e2 : h2 1 = h 1 := funext (fun i => by rw [f2 _ _ (by omega), zu_c (by decide)])
    simp only [e22_26, e22_27, e22_28, e22_30, e22_32, zs0, zsI, zsL, zsR, ztl1, ztl0, zc0, zcI, zcL, zcR, true_and, and_true, true_implies, false_implies, implies_true, not_true_eq_false, not_false_eq_true, and_self, Int.toNat_natCast, Nat.reduceAdd, Nat.reduceLeDiff, Nat.reduceLT, forall_eq', Option.some.injEq, zarR, zarI, zarL, zle, zq0, zq1, zq2, zq3, zq4, zq5, zq6, zq8, zq9, zq10, zq20, zq7, zq12, zq24, zq40, zq41, zq48, zq100, zq120, zq123, zq480, zq492, zq700, zq729, zq2187, zq2916, zq8748, ne_eq, Int.reduceEq, Int.reduceLT, Int.reduceLE, Int.reduceToNat, Int.reduceMul, Int.reduceAdd, Int.reduceNeg, gk2 hg, gr2_9 hg, gr2_10 hg, gk6 hg, gr6_0 hg, gr6_1 hg, gr6_2 hg, gr6_3 hg, gr6_4 hg, gr6_5 hg, gr6_6 hg, gr6_7 hg, gr6_8 hg]
    apply c_readEither (d := d) hg ht hn s2 (by decide) (by decide)
    intro v h3 f3 c3
    rw [e2] at c3
    simp only [e22_35, zs0, zsI, zsL, zsR, ztl1, ztl0, zc0, zcI, zcL, zcR, true_and, and_true, true_implies, false_implies, implies_true, not_true_eq_false, not_false_eq_true, and_self, Int.toNat_natCast, Nat.reduceAdd, Nat.reduceLeDiff, Nat.reduceLT, forall_eq', Option.some.injEq, zarR, zarI, zarL, zle, zq0, zq1, zq2, zq3, zq4, zq5, zq6, zq8, zq9, zq10, zq20, zq7, zq12, zq24, zq40, zq41, zq48, zq100, zq120, zq123, zq480, zq492, zq700, zq729, zq2187, zq2916, zq8748, ne_eq, Int.reduceEq, Int.reduceLT, Int.reduceLE, Int.reduceToNat, Int.reduceMul, Int.reduceAdd, Int.reduceNeg, gk2 hg, gr2_9 hg, gr2_10 hg, gk6 hg, gr6_0 hg, gr6_1 hg, gr6_2 hg, gr6_3 hg, gr6_4 hg, gr6_5 hg, gr6_6 hg, gr6_7 hg, gr6_8 hg]
    obtain ⟨h4, e4⟩ : ∃ z, z = zu h3 6 12 v := ⟨_, rfl⟩
    rw [← e4]
    have f4 : ∀ c i, ¬ (c = 2 ∧ i ≤ 8) → ¬ (c = 2 ∧ i = 12) → ¬ (c = 6 ∧ i = 12) → h4 c i = h c i := fun c i z1 z2 z3 => by rw [e4, zu, if_neg z3, f3 c i z1, f2 c i z1, zu, if_neg z2]
    have e41 : h4 1 = h 1 := funext (fun i => f4 _ _ (by omega) (by omega) (by omega))
    have h412 : h4 2 12 = 1 := by rw [e4, zu_c (by decide), f3 _ _ (by omega), f2 _ _ (by omega), zu_at]
    have fr4 : FR h h4 := fun c i z => f4 c i (by omega) (by omega) (by omega)
    -- the loop behind a price
    have lp : ∀ k (T : aTn) (q : Nat) (i : Nat) (h5 : zM), CS n (.inr q) h5 → PRc h5 T → (1 ≤ nP T ∧ nP T ≤ 3) → (∀ i, 0 ≤ tr T 8 i ∧ tr T 8 i ≤ 199) → 5 ≤ k + nP T → i ≤ nP T → q ≤ n → h5 1 = h 1 → (∀ h' : zM, (∀ c i, ¬ (c = 2 ∧ i ≤ 8) → ¬ (c = 6 ∧ i = 11) → ¬ c = 15 → h' c i = h5 c i) → LPr n (pPL (h 1) n k T q) h' → Q none G h') → zE 22 (d + 4) Q 45 [some (zR (some 2)), some (zR (some 6)), some (zI i)] [] G h5 (0, 0) := by
      intro k
      induction k with
      | zero => intro T q i h5 _ _ z1 _ z2; omega
      | succ k ih =>
        intro T q i h5 c5 p5 z1 zb z2 z3 hq e5 KK
        have c1' : h5 2 1 = 0 := c5.2.1
        have t5 := c5.2.2.2.2.1
        rw [e5] at t5
        have i7 : ¬ (700 : Int) ≤ i := by omega
        rw [e22_45]
        unfold pPL at KK
        by_cases k4 : kd (h 1) n q = 4
        · rw [if_pos k4] at KK
          rw [k4] at t5
          simp only [e22_46, e22_49, e22_52, e22_53, e22_56, e22_59, e22_60, e22_63, e22_64, e22_67, e22_68, zs0, zsI, zsL, zsR, ztl1, ztl0, zc0, zcI, zcL, zcR, true_and, and_true, true_implies, false_implies, implies_true, not_true_eq_false, not_false_eq_true, and_self, Int.toNat_natCast, Nat.reduceAdd, Nat.reduceLeDiff, Nat.reduceLT, forall_eq', Option.some.injEq, zarR, zarI, zarL, zle, zq0, zq1, zq2, zq3, zq4, zq5, zq6, zq8, zq9, zq10, zq20, zq7, zq12, zq24, zq40, zq41, zq48, zq100, zq120, zq123, zq480, zq492, zq700, zq729, zq2187, zq2916, zq8748, ne_eq, Int.reduceEq, Int.reduceLT, Int.reduceLE, Int.reduceToNat, Int.reduceMul, Int.reduceAdd, Int.reduceNeg, gk2 hg, gr2_9 hg, gr2_10 hg, gk6 hg, gr6_0 hg, gr6_1 hg, gr6_2 hg, gr6_3 hg, gr6_4 hg, gr6_5 hg, gr6_6 hg, gr6_7 hg, gr6_8 hg, i7, c1', t5]
          apply c_step (d := d + 2) hg ht hn c5 (by rw [e5]; omega)
          intro h6 f6 c6
          rw [e5] at c6
          have e6 : h6 1 = h 1 := by rw [← e5]; exact funext (fun i => f6 _ _ (by omega))
          simp only [e22_71, e22_72, e22_73, zs0, zsI, zsL, zsR, ztl1, ztl0, zc0, zcI, zcL, zcR, true_and, and_true, true_implies, false_implies, implies_true, not_true_eq_false, not_false_eq_true, and_self, Int.toNat_natCast, Nat.reduceAdd, Nat.reduceLeDiff, Nat.reduceLT, forall_eq', Option.some.injEq, zarR, zarI, zarL, zle, zq0, zq1, zq2, zq3, zq4, zq5, zq6, zq8, zq9, zq10, zq20, zq7, zq12, zq24, zq40, zq41, zq48, zq100, zq120, zq123, zq480, zq492, zq700, zq729, zq2187, zq2916, zq8748, ne_eq, Int.reduceEq, Int.reduceLT, Int.reduceLE, Int.reduceToNat, Int.reduceMul, Int.reduceAdd, Int.reduceNeg, gk2 hg, gr2_9 hg, gr2_10 hg, gk6 hg, gr6_0 hg, gr6_1 hg, gr6_2 hg, gr6_3 hg, gr6_4 hg, gr6_5 hg, gr6_6 hg, gr6_7 hg, gr6_8 hg]
          apply c_readPrice (d := d + 1) (T := T) hg ht hn c6 ⟨by rw [f6 _ _ (by omega)]; exact p5.1, fun i hi => by rw [f6 _ _ (by omega)]; exact p5.2 i hi⟩ z1.2 zb
          intro h7 f7 c7
          rw [e6] at c7
          have e7 : h7 1 = h 1 := by rw [← e6]; exact funext (fun i => f7 _ _ (by omega) (by omega) (by omega))
          have nx := nxt_b (tp := h 1) q hq
          simp only [e22_76, e22_79, zs0, zsI, zsL, zsR, ztl1, ztl0, zc0, zcI, zcL, zcR, true_and, and_true, true_implies, false_implies, implies_true, not_true_eq_false, not_false_eq_true, and_self, Int.toNat_natCast, Nat.reduceAdd, Nat.reduceLeDiff, Nat.reduceLT, forall_eq', Option.some.injEq, zarR, zarI, zarL, zle, zq0, zq1, zq2, zq3, zq4, zq5, zq6, zq8, zq9, zq10, zq20, zq7, zq12, zq24, zq40, zq41, zq48, zq100, zq120, zq123, zq480, zq492, zq700, zq729, zq2187, zq2916, zq8748, ne_eq, Int.reduceEq, Int.reduceLT, Int.reduceLE, Int.reduceToNat, Int.reduceMul, Int.reduceAdd, Int.reduceNeg, wr_s (show i < 2147483647 by omega)]
          cases hp : pPr (h 1) n T (nxt (h 1) n q) with
          | inl e =>
            rw [hp] at c7 KK
            have z9 : ¬ h7 2 1 = 0 := by rw [c7.2.1]; exact c7.2.2.1
            have i7' : ¬ (700 : Int) ≤ ((i + 1 : Nat) : Int) := by omega
            rw [e22_45]
            simp only [e22_46, e22_49, e22_52, e22_53, e22_56, e22_59, e22_60, e22_63, e22_64, e22_67, e22_68, e22_71, e22_72, e22_73, e22_76, e22_79, e22_82, zs0, zsI, zsL, zsR, ztl1, ztl0, zc0, zcI, zcL, zcR, true_and, and_true, true_implies, false_implies, implies_true, not_true_eq_false, not_false_eq_true, and_self, Int.toNat_natCast, Nat.reduceAdd, Nat.reduceLeDiff, Nat.reduceLT, forall_eq', Option.some.injEq, zarR, zarI, zarL, zle, zq0, zq1, zq2, zq3, zq4, zq5, zq6, zq8, zq9, zq10, zq20, zq7, zq12, zq24, zq40, zq41, zq48, zq100, zq120, zq123, zq480, zq492, zq700, zq729, zq2187, zq2916, zq8748, ne_eq, Int.reduceEq, Int.reduceLT, Int.reduceLE, Int.reduceToNat, Int.reduceMul, Int.reduceAdd, Int.reduceNeg, gk2 hg, gr2_9 hg, gr2_10 hg, i7', z9]
            exact KK h7 (fun c i z1 z2 z3 => by rw [f7 c i z1 z2 z3, f6 c i z1]) c7
          | inr p =>
            rw [hp] at c7 KK
            dsimp only at KK
            obtain ⟨y1, y2, y3, v', y4, y5⟩ := pPr_ok nx.2.1 hp
            have en : nP p.2 = nP T + 1 := by rw [y4]; rfl
            apply ih p.2 p.1 (i + 1) h7 c7.1 c7.2 (by omega) (fun i => by
              rw [y4, prT_8]
              split
              · exact y5
              · exact zb i) (by omega) (by omega) y2 e7
            intro h' f' c'
            exact KK h' (fun c i z1 z2 z3 => by rw [f' c i z1 z2 z3, f7 c i z1 z2 z3, f6 c i z1]) c'
        · rw [if_neg k4] at KK
          have k4' : ¬ ((kd (h 1) n q : Nat) : Int) = 4 := by omega
          simp only [e22_46, e22_49, e22_52, e22_53, e22_56, e22_59, e22_60, e22_63, e22_64, e22_67, e22_68, e22_71, e22_72, e22_73, e22_76, e22_79, e22_82, zs0, zsI, zsL, zsR, ztl1, ztl0, zc0, zcI, zcL, zcR, true_and, and_true, true_implies, false_implies, implies_true, not_true_eq_false, not_false_eq_true, and_self, Int.toNat_natCast, Nat.reduceAdd, Nat.reduceLeDiff, Nat.reduceLT, forall_eq', Option.some.injEq, zarR, zarI, zarL, zle, zq0, zq1, zq2, zq3, zq4, zq5, zq6, zq8, zq9, zq10, zq20, zq7, zq12, zq24, zq40, zq41, zq48, zq100, zq120, zq123, zq480, zq492, zq700, zq729, zq2187, zq2916, zq8748, ne_eq, Int.reduceEq, Int.reduceLT, Int.reduceLE, Int.reduceToNat, Int.reduceMul, Int.reduceAdd, Int.reduceNeg, gk2 hg, gr2_9 hg, gr2_10 hg, i7, c1', t5, k4']
          exact KK h5 (fun _ _ _ _ _ => rfl) ⟨c5, p5⟩
    cases hE : pEi (h 1) n 13 14 (nxt (h 1) n q) with
    | inl e =>
      dsimp only [sV] at c3
      rw [hE] at c3 K
      have c4 : CS n (.inl e) h4 := CS_1 c3 (fun c i z => by rw [e4, zu_c (by omega)])
      have z9 : ¬ h4 2 1 = 0 := by rw [c4.2.1]; exact c4.2.2.1
      simp only [e22_38, e22_39, e22_40, zs0, zsI, zsL, zsR, ztl1, ztl0, zc0, zcI, zcL, zcR, true_and, and_true, true_implies, false_implies, implies_true, not_true_eq_false, not_false_eq_true, and_self, Int.toNat_natCast, Nat.reduceAdd, Nat.reduceLeDiff, Nat.reduceLT, forall_eq', Option.some.injEq, zarR, zarI, zarL, zle, zq0, zq1, zq2, zq3, zq4, zq5, zq6, zq8, zq9, zq10, zq20, zq7, zq12, zq24, zq40, zq41, zq48, zq100, zq120, zq123, zq480, zq492, zq700, zq729, zq2187, zq2916, zq8748, ne_eq, Int.reduceEq, Int.reduceLT, Int.reduceLE, Int.reduceToNat, Int.reduceMul, Int.reduceAdd, Int.reduceNeg, gk2 hg, gr2_9 hg, gr2_10 hg, gk6 hg, gr6_0 hg, gr6_1 hg, gr6_2 hg, gr6_3 hg, gr6_4 hg, gr6_5 hg, gr6_6 hg, gr6_7 hg, gr6_8 hg, c_readPrice' hg z9]
      simp only [e22_43, e22_44, zs0, zsI, zsL, zsR, ztl1, ztl0, zc0, zcI, zcL, zcR, true_and, and_true, true_implies, false_implies, implies_true, not_true_eq_false, not_false_eq_true, and_self, Int.toNat_natCast, Nat.reduceAdd, Nat.reduceLeDiff, Nat.reduceLT, forall_eq', Option.some.injEq, zarR, zarI, zarL, zle, zq0, zq1, zq2, zq3, zq4, zq5, zq6, zq8, zq9, zq10, zq20, zq7, zq12, zq24, zq40, zq41, zq48, zq100, zq120, zq123, zq480, zq492, zq700, zq729, zq2187, zq2916, zq8748, ne_eq, Int.reduceEq, Int.reduceLT, Int.reduceLE, Int.reduceToNat, Int.reduceMul, Int.reduceAdd, Int.reduceNeg]
      rw [e22_45]
      simp only [e22_46, e22_49, e22_52, e22_53, e22_56, e22_59, e22_60, e22_63, e22_64, e22_67, e22_68, e22_71, e22_72, e22_73, e22_76, e22_79, e22_82, zs0, zsI, zsL, zsR, ztl1, ztl0, zc0, zcI, zcL, zcR, true_and, and_true, true_implies, false_implies, implies_true, not_true_eq_false, not_false_eq_true, and_self, Int.toNat_natCast, Nat.reduceAdd, Nat.reduceLeDiff, Nat.reduceLT, forall_eq', Option.some.injEq, zarR, zarI, zarL, zle, zq0, zq1, zq2, zq3, zq4, zq5, zq6, zq8, zq9, zq10, zq20, zq7, zq12, zq24, zq40, zq41, zq48, zq100, zq120, zq123, zq480, zq492, zq700, zq729, zq2187, zq2916, zq8748, ne_eq, Int.reduceEq, Int.reduceLT, Int.reduceLE, Int.reduceToNat, Int.reduceMul, Int.reduceAdd, Int.reduceNeg, gk2 hg, gr2_9 hg, gr2_10 hg, z9]
      exact K h4 fr4 c4
    | inr p =>
      dsimp only [sV] at c3
      rw [hE] at c3 K
      dsimp only at K
      have nx := nxt_b (tp := h 1) q hq
      have pe := pEi_ok nx.2.1 hE
      have c4 : CS n (.inr p.1) h4 := CS_1 c3.1 (fun c i z => by rw [e4, zu_c (by omega)])
      have h4t : h4 6 12 = p.2 := by rw [e4, zu_at]; exact c3.2
      simp only [e22_38, e22_39, e22_40, zs0, zsI, zsL, zsR, ztl1, ztl0, zc0, zcI, zcL, zcR, true_and, and_true, true_implies, false_implies, implies_true, not_true_eq_false, not_false_eq_true, and_self, Int.toNat_natCast, Nat.reduceAdd, Nat.reduceLeDiff, Nat.reduceLT, forall_eq', Option.some.injEq, zarR, zarI, zarL, zle, zq0, zq1, zq2, zq3, zq4, zq5, zq6, zq8, zq9, zq10, zq20, zq7, zq12, zq24, zq40, zq41, zq48, zq100, zq120, zq123, zq480, zq492, zq700, zq729, zq2187, zq2916, zq8748, ne_eq, Int.reduceEq, Int.reduceLT, Int.reduceLE, Int.reduceToNat, Int.reduceMul, Int.reduceAdd, Int.reduceNeg, gk2 hg, gr2_9 hg, gr2_10 hg, gk6 hg, gr6_0 hg, gr6_1 hg, gr6_2 hg, gr6_3 hg, gr6_4 hg, gr6_5 hg, gr6_6 hg, gr6_7 hg, gr6_8 hg]
      have pr4 : PRc h4 (twT D.1 p.2) := by
        refine ⟨?_, fun i hi => ?_⟩
        · rw [f4 _ _ (by omega) (by omega) (by omega)]; exact dr.2.2.1
        · have : i < nP D.1 := hi
          omega
      apply c_readPrice (d := d + 1) (T := twT D.1 p.2) hg ht hn c4 pr4 (show nP D.1 ≤ 3 from b3) (fun i => (hW.2.2 i).2.2.2.2.2.2.2.2)
      intro h5 f5 c5
      rw [e41] at c5
      have e51 : h5 1 = h 1 := by rw [← e41]; exact funext (fun i => f5 _ _ (by omega) (by omega) (by omega))
      cases hP : pPr (h 1) n (twT D.1 p.2) p.1 with
      | inl e =>
        rw [hP] at c5 K
        have z9 : ¬ h5 2 1 = 0 := by rw [c5.2.1]; exact c5.2.2.1
        simp only [e22_43, e22_44, zs0, zsI, zsL, zsR, ztl1, ztl0, zc0, zcI, zcL, zcR, true_and, and_true, true_implies, false_implies, implies_true, not_true_eq_false, not_false_eq_true, and_self, Int.toNat_natCast, Nat.reduceAdd, Nat.reduceLeDiff, Nat.reduceLT, forall_eq', Option.some.injEq, zarR, zarI, zarL, zle, zq0, zq1, zq2, zq3, zq4, zq5, zq6, zq8, zq9, zq10, zq20, zq7, zq12, zq24, zq40, zq41, zq48, zq100, zq120, zq123, zq480, zq492, zq700, zq729, zq2187, zq2916, zq8748, ne_eq, Int.reduceEq, Int.reduceLT, Int.reduceLE, Int.reduceToNat, Int.reduceMul, Int.reduceAdd, Int.reduceNeg]
        rw [e22_45]
        simp only [e22_46, e22_49, e22_52, e22_53, e22_56, e22_59, e22_60, e22_63, e22_64, e22_67, e22_68, e22_71, e22_72, e22_73, e22_76, e22_79, e22_82, zs0, zsI, zsL, zsR, ztl1, ztl0, zc0, zcI, zcL, zcR, true_and, and_true, true_implies, false_implies, implies_true, not_true_eq_false, not_false_eq_true, and_self, Int.toNat_natCast, Nat.reduceAdd, Nat.reduceLeDiff, Nat.reduceLT, forall_eq', Option.some.injEq, zarR, zarI, zarL, zle, zq0, zq1, zq2, zq3, zq4, zq5, zq6, zq8, zq9, zq10, zq20, zq7, zq12, zq24, zq40, zq41, zq48, zq100, zq120, zq123, zq480, zq492, zq700, zq729, zq2187, zq2916, zq8748, ne_eq, Int.reduceEq, Int.reduceLT, Int.reduceLE, Int.reduceToNat, Int.reduceMul, Int.reduceAdd, Int.reduceNeg, gk2 hg, gr2_9 hg, gr2_10 hg, z9]
        exact K h5 (fr4.tr (fun c i z => f5 c i (by omega) (by omega) (by omega))) c5
      | inr r =>
        rw [hP] at c5 K
        dsimp only at K
        obtain ⟨y1, y2, y3, v', y4, y5⟩ := pPr_ok pe.2.1 hP
        have en : nP r.2 = nP D.1 + 1 := by rw [y4]; rfl
        have w2 : WB r.2 := by rw [y4]; exact WB_pr (T := twT D.1 p.2) ⟨pe.2.2, hW.2.1, hW.2.2⟩ y5
        simp only [e22_43, e22_44, zs0, zsI, zsL, zsR, ztl1, ztl0, zc0, zcI, zcL, zcR, true_and, and_true, true_implies, false_implies, implies_true, not_true_eq_false, not_false_eq_true, and_self, Int.toNat_natCast, Nat.reduceAdd, Nat.reduceLeDiff, Nat.reduceLT, forall_eq', Option.some.injEq, zarR, zarI, zarL, zle, zq0, zq1, zq2, zq3, zq4, zq5, zq6, zq8, zq9, zq10, zq20, zq7, zq12, zq24, zq40, zq41, zq48, zq100, zq120, zq123, zq480, zq492, zq700, zq729, zq2187, zq2916, zq8748, ne_eq, Int.reduceEq, Int.reduceLT, Int.reduceLE, Int.reduceToNat, Int.reduceMul, Int.reduceAdd, Int.reduceNeg]
        have l0 := lp 4 r.2 r.1 0 h5 c5.1 c5.2 (by omega) (fun i => (w2.2.2 i).2.2.2.2.2.2.2.2) (by omega) (by omega) y2 e51
        rw [zq0] at l0
        apply l0
        intro h6 f6 c6
        have fr6 : ∀ c i, ¬ (c = 2 ∧ i ≤ 8) → ¬ (c = 6 ∧ i = 11) → ¬ c = 15 → h6 c i = h4 c i := fun c i z1 z2 z3 => by rw [f6 c i z1 z2 z3, f5 c i z1 z2 z3]
        cases hL : pPL (h 1) n 4 r.2 r.1 with
        | inl e =>
          rw [hL] at c6 K
          exact K h6 (fr4.tr (fun c i z => fr6 c i (by omega) (by omega) (by omega))) c6
        | inr t =>
          rw [hL] at c6 K
          dsimp only at K
          have ok := pPL_ok 4 y2 (by omega) w2 hL
          have rows := pPL_rows 4 hL
          apply K h6 (fr4.tr (fun c i z => fr6 c i (by omega) (by omega) (by omega)))
          have eB : nB t.2 = nB D.1 := by rw [ok.2.2.2.2.1, y4]; rfl
          have eS : nS t.2 = nS D.1 := by rw [ok.2.2.2.2.2.1, y4]; rfl
          have eT : tw t.2 = p.2 := by rw [ok.2.2.2.2.2.2, y4]; rfl
          have eR : ∀ j i, ¬ j = 8 → tr t.2 j i = tr D.1 j i := fun j i hj => by rw [(rows j i hj).1, y4, prT_o hj]; rfl
          have eK : kp t.2 = kp D.1 := by rw [(rows 0 0 (by decide)).2, y4]; rfl
          obtain ⟨r1, r2, r3, r4, r5, r6, r7, r8, r9, r10, r11, r12⟩ := dr
          have bk : ∀ c i, ¬ (c = 2 ∧ i ≤ 8) → ¬ (c = 2 ∧ i = 12) → ¬ (c = 6 ∧ i = 11) → ¬ (c = 6 ∧ i = 12) → ¬ c = 15 → h6 c i = h c i := fun c i z1 z2 z3 z4 z5 => by rw [fr6 c i z1 z3 z5, f4 c i z1 z2 z4]
          refine ⟨c6.1, ⟨?_, ?_, c6.2.1, ?_, ?_, ?_, ?_, ?_, ?_, ?_, ?_, c6.2.2⟩, ?_, ?_, ?_, ?_, ?_⟩
          · rw [bk _ _ (by omega) (by omega) (by omega) (by omega) (by omega), r1, ← eB]
          · rw [bk _ _ (by omega) (by omega) (by omega) (by omega) (by omega), r2, ← eS]
          · intro i hi; rw [eR _ _ (by decide), bk _ _ (by omega) (by omega) (by omega) (by omega) (by omega)]; exact r4 i (by dsimp only at hi; omega)
          · intro i hi; rw [eR _ _ (by decide), bk _ _ (by omega) (by omega) (by omega) (by omega) (by omega)]; exact r5 i (by dsimp only at hi; omega)
          · intro i hi; rw [eR _ _ (by decide), bk _ _ (by omega) (by omega) (by omega) (by omega) (by omega)]; exact r6 i (by dsimp only at hi; omega)
          · intro i hi; rw [eR _ _ (by decide), bk _ _ (by omega) (by omega) (by omega) (by omega) (by omega)]; exact r7 i (by dsimp only at hi; omega)
          · intro i hi; rw [eR _ _ (by decide), bk _ _ (by omega) (by omega) (by omega) (by omega) (by omega)]; exact r8 i (by dsimp only at hi; omega)
          · intro i hi; rw [eR _ _ (by decide), bk _ _ (by omega) (by omega) (by omega) (by omega) (by omega)]; exact r9 i (by dsimp only at hi; omega)
          · intro i hi; rw [eR _ _ (by decide), bk _ _ (by omega) (by omega) (by omega) (by omega) (by omega)]; exact r10 i (by dsimp only at hi; omega)
          · intro i hi; rw [eR _ _ (by decide), bk _ _ (by omega) (by omega) (by omega) (by omega) (by omega)]; exact r11 i (by dsimp only at hi; omega)
          · intro _; rw [fr6 _ _ (by omega) (by omega) (by omega), h4t]; exact eT.symm
          · intro z; rw [bk _ _ (by omega) (by omega) (by omega) (by omega) (by omega)]; dsimp only; rw [eK]; exact dkp z
          · exact NM_fr dN (bk _ _ (by omega) (by omega) (by omega) (by omega) (by omega)) (fun i => ⟨bk _ _ (by omega) (by omega) (by omega) (by omega) (by omega), bk _ _ (by omega) (by omega) (by omega) (by omega) (by omega)⟩)
          · rw [fr6 _ _ (by omega) (by omega) (by omega), h412]
            dsimp only
            rw [if_neg (by omega)]
          · rw [bk _ _ (by omega) (by omega) (by omega) (by omega) (by omega)]; exact d13
  · rw [if_neg np] at d12
    rw [if_pos np] at K
    simp only [e22_0, e22_1, e22_4, e22_7, e22_8, e22_9, e22_10, e22_13, e22_16, e22_17, e22_18, e22_19, e22_22, e22_23, e22_26, e22_27, e22_28, e22_30, e22_32, e22_35, e22_38, e22_39, e22_40, e22_43, e22_44, e22_46, e22_49, e22_52, e22_53, e22_56, e22_59, e22_60, e22_63, e22_64, e22_67, e22_68, e22_71, e22_72, e22_73, e22_76, e22_79, e22_82, zs0, zsI, zsL, zsR, ztl1, ztl0, zc0, zcI, zcL, zcR, true_and, and_true, true_implies, false_implies, implies_true, not_true_eq_false, not_false_eq_true, and_self, Int.toNat_natCast, Nat.reduceAdd, Nat.reduceLeDiff, Nat.reduceLT, forall_eq', Option.some.injEq, zarR, zarI, zarL, zle, zq0, zq1, zq2, zq3, zq4, zq5, zq6, zq8, zq9, zq10, zq20, zq7, zq12, zq24, zq40, zq41, zq48, zq100, zq120, zq123, zq480, zq492, zq700, zq729, zq2187, zq2916, zq8748, ne_eq, Int.reduceEq, Int.reduceLT, Int.reduceLE, Int.reduceToNat, Int.reduceMul, Int.reduceAdd, Int.reduceNeg, gk2 hg, gr2_9 hg, gr2_10 hg, gk6 hg, gr6_0 hg, gr6_1 hg, gr6_2 hg, gr6_3 hg, gr6_4 hg, gr6_5 hg, gr6_6 hg, gr6_7 hg, gr6_8 hg, or_true, true_or, if_true, if_false, false_and, and_false, false_or, or_false, d12, t6, c_fail hg c1]
    exact K _ (fun c i z => by rw [zu_c (by omega), zu_c (by omega)]) (CS_die c (by decide))
theorem c_readKeep (hg : gS G) (ht : G.2.2.2 2 2 = some 1) (hn : n ≤ 700) {D : pD} (c : CS n (.inr q) h) (hD : DC h D) (hB : DB (h 1) n D) (K : ∀ h' : zM, FR h h' → LR n (pKp (h 1) n D q) h' → Q none G h') : zRunD ztb zmt' (d + 5) 24 [zR (some 2), zR (some 6)] G h Q := by
  rw [r24]
  have c1 : h 2 1 = 0 := c.2.1
  have t6 := c.2.2.2.2.2.1
  obtain ⟨b1, b2, b3, b4, b5, b6⟩ := hB
  obtain ⟨dr, dtw, dkp, dN, d12, d13⟩ := hD
  unfold pKp at K
  by_cases kt : D.2.2 = 0
  · rw [if_neg (by omega)] at K
    rw [kt] at d13
    have c2 : CS n (.inr q) (zu h 2 13 1) := CS_fr c (fun i => zu_c (by decide)) (fun i _ => zu_i (by omega))
    have e1 : (zu h 2 13 1) 1 = h 1 := funext (fun i => zu_c (by decide))
    simp only [e24_0, e24_1, e24_4, e24_7, e24_8, e24_9, e24_10, e24_13, e24_16, e24_17, e24_18, e24_19, e24_22, e24_23, e24_24, e24_26, e24_28, zs0, zsI, zsL, zsR, ztl1, ztl0, zc0, zcI, zcL, zcR, true_and, and_true, true_implies, false_implies, implies_true, not_true_eq_false, not_false_eq_true, and_self, Int.toNat_natCast, Nat.reduceAdd, Nat.reduceLeDiff, Nat.reduceLT, forall_eq', Option.some.injEq, zarR, zarI, zarL, zle, zq0, zq1, zq2, zq3, zq4, zq5, zq6, zq8, zq9, zq10, zq20, zq7, zq12, zq24, zq40, zq41, zq48, zq100, zq120, zq123, zq480, zq492, zq700, zq729, zq2187, zq2916, zq8748, ne_eq, Int.reduceEq, Int.reduceLT, Int.reduceLE, Int.reduceToNat, Int.reduceMul, Int.reduceAdd, Int.reduceNeg, gk2 hg, gr2_9 hg, gr2_10 hg, gk6 hg, gr6_0 hg, gr6_1 hg, gr6_2 hg, gr6_3 hg, gr6_4 hg, gr6_5 hg, gr6_6 hg, gr6_7 hg, gr6_8 hg, d13, or_true]
    apply c_readWhole (d := d) (id := 3) (most := 100) hg ht hn c2 (by decide)
    intro v h3 f3 c3
    rw [e1] at c3
    simp only [e24_31, e24_34, zs0, zsI, zsL, zsR, ztl1, ztl0, zc0, zcI, zcL, zcR, true_and, and_true, true_implies, false_implies, implies_true, not_true_eq_false, not_false_eq_true, and_self, Int.toNat_natCast, Nat.reduceAdd, Nat.reduceLeDiff, Nat.reduceLT, forall_eq', Option.some.injEq, zarR, zarI, zarL, zle, zq0, zq1, zq2, zq3, zq4, zq5, zq6, zq8, zq9, zq10, zq20, zq7, zq12, zq24, zq40, zq41, zq48, zq100, zq120, zq123, zq480, zq492, zq700, zq729, zq2187, zq2916, zq8748, ne_eq, Int.reduceEq, Int.reduceLT, Int.reduceLE, Int.reduceToNat, Int.reduceMul, Int.reduceAdd, Int.reduceNeg, gk2 hg, gr2_9 hg, gr2_10 hg, gk6 hg, gr6_0 hg, gr6_1 hg, gr6_2 hg, gr6_3 hg, gr6_4 hg, gr6_5 hg, gr6_6 hg, gr6_7 hg, gr6_8 hg]
    obtain ⟨h4, e4⟩ : ∃ z, z = zu h3 6 13 v := ⟨_, rfl⟩
    rw [← e4]
    have f4 : ∀ c i, ¬ (c = 2 ∧ i ≤ 8) → ¬ (c = 2 ∧ i = 13) → ¬ (c = 6 ∧ i = 13) → h4 c i = h c i := fun c i z1 z2 z3 => by rw [e4, zu, if_neg z3, f3 c i z1, zu, if_neg z2]
    dsimp only [sV] at c3
    cases hp : pWh (h 1) n 3 100 q with
    | inl e =>
      rw [hp] at c3 K
      exact K h4 (fun c i z => f4 c i (by omega) (by omega) (by omega)) (CS_1 (show CS n (.inl e) h3 from c3) (fun c i z => by rw [e4, zu_c (by omega)]))
    | inr p =>
      rw [hp] at c3 K
      dsimp only at K
      apply K h4 (fun c i z => f4 c i (by omega) (by omega) (by omega))
      obtain ⟨r1, r2, r3, r4, r5, r6, r7, r8, r9, r10, r11, r12⟩ := dr
      refine ⟨CS_1 c3.1 (fun c i z => by rw [e4, zu_c (by omega)]), ⟨?_, ?_, ?_, ?_, ?_, ?_, ?_, ?_, ?_, ?_, ?_, ?_⟩, ?_, ?_, ?_, ?_, ?_⟩
      · rw [f4 _ _ (by omega) (by omega) (by omega)]; exact r1
      · rw [f4 _ _ (by omega) (by omega) (by omega)]; exact r2
      · rw [f4 _ _ (by omega) (by omega) (by omega)]; exact r3
      · intro i hi; rw [f4 _ _ (by omega) (by omega) (by omega)]; exact r4 i hi
      · intro i hi; rw [f4 _ _ (by omega) (by omega) (by omega)]; exact r5 i hi
      · intro i hi; rw [f4 _ _ (by omega) (by omega) (by omega)]; exact r6 i hi
      · intro i hi; rw [f4 _ _ (by omega) (by omega) (by omega)]; exact r7 i hi
      · intro i hi; rw [f4 _ _ (by omega) (by omega) (by omega)]; exact r8 i hi
      · intro i hi; rw [f4 _ _ (by omega) (by omega) (by omega)]; exact r9 i hi
      · intro i hi; rw [f4 _ _ (by omega) (by omega) (by omega)]; exact r10 i hi
      · intro i hi; rw [f4 _ _ (by omega) (by omega) (by omega)]; exact r11 i hi
      · intro i hi; rw [f4 _ _ (by omega) (by omega) (by omega)]; exact r12 i hi
      · intro z; rw [f4 _ _ (by omega) (by omega) (by omega)]; exact dtw z
      · intro _; rw [e4, zu_at]; exact c3.2
      · exact NM_fr dN (f4 _ _ (by omega) (by omega) (by omega)) (fun i => ⟨f4 _ _ (by omega) (by omega) (by omega), f4 _ _ (by omega) (by omega) (by omega)⟩)
      · rw [f4 _ _ (by omega) (by omega) (by omega)]; exact d12
      · rw [e4, zu_c (by decide), f3 _ _ (by omega), zu_at]; rfl
  · rw [if_pos kt] at K
    have k1 : D.2.2 = 1 := by omega
    rw [k1] at d13
    simp only [e24_0, e24_1, e24_4, e24_7, e24_8, e24_9, e24_10, e24_13, e24_16, e24_17, e24_18, e24_19, e24_22, e24_23, e24_24, e24_26, e24_28, e24_31, e24_34, zs0, zsI, zsL, zsR, ztl1, ztl0, zc0, zcI, zcL, zcR, true_and, and_true, true_implies, false_implies, implies_true, not_true_eq_false, not_false_eq_true, and_self, Int.toNat_natCast, Nat.reduceAdd, Nat.reduceLeDiff, Nat.reduceLT, forall_eq', Option.some.injEq, zarR, zarI, zarL, zle, zq0, zq1, zq2, zq3, zq4, zq5, zq6, zq8, zq9, zq10, zq20, zq7, zq12, zq24, zq40, zq41, zq48, zq100, zq120, zq123, zq480, zq492, zq700, zq729, zq2187, zq2916, zq8748, ne_eq, Int.reduceEq, Int.reduceLT, Int.reduceLE, Int.reduceToNat, Int.reduceMul, Int.reduceAdd, Int.reduceNeg, gk2 hg, gr2_9 hg, gr2_10 hg, gk6 hg, gr6_0 hg, gr6_1 hg, gr6_2 hg, gr6_3 hg, gr6_4 hg, gr6_5 hg, gr6_6 hg, gr6_7 hg, gr6_8 hg, or_true, true_or, if_true, if_false, false_and, and_false, false_or, or_false, d13, zq1, t6, c_fail hg c1]
    exact K _ (fun c i z => by rw [zu_c (by omega), zu_c (by omega)]) (CS_die c (by decide))
end CP
