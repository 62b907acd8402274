/-! lines -/
def bkT (T : aTn) (a b c : Int) : aTn := (T.1 + 1, T.2.1, T.2.2.1, T.2.2.2.1, T.2.2.2.2.1, fun j i => if i = T.1 ∧ j = 0 then a else if i = T.1 ∧ j = 1 then b else if i = T.1 ∧ j = 2 then c else T.2.2.2.2.2 j i)
def srT (T : aTn) (a b c e f : Int) : aTn := (T.1, T.2.1 + 1, T.2.2.1, T.2.2.2.1, T.2.2.2.2.1, fun j i => if i = T.2.1 ∧ j = 3 then a else if i = T.2.1 ∧ j = 4 then b else if i = T.2.1 ∧ j = 5 then c else if i = T.2.1 ∧ j = 6 then e else if i = T.2.1 ∧ j = 7 then f else T.2.2.2.2.2 j i)
def prT (T : aTn) (v : Int) : aTn := (T.1, T.2.1, T.2.2.1 + 1, T.2.2.2.1, T.2.2.2.2.1, fun j i => if i = T.2.2.1 ∧ j = 8 then v else T.2.2.2.2.2 j i)
def twT (T : aTn) (w : Int) : aTn := (T.1, T.2.1, T.2.2.1, w, T.2.2.2.2.1, T.2.2.2.2.2)
def kpT (T : aTn) (w : Int) : aTn := (T.1, T.2.1, T.2.2.1, T.2.2.2.1, w, T.2.2.2.2.2)
/-- what has been told, in the one's draft -/
def DR (h : zM) (T : aTn) : Prop := h 6 9 = (nB T : Int) ∧ h 6 10 = (nS T : Int) ∧ h 6 11 = (nP T : Int) ∧ (∀ i, i < nB T → h 7 i = tr T 0 i) ∧ (∀ i, i < nB T → h 8 i = tr T 1 i) ∧ (∀ i, i < nB T → h 9 i = tr T 2 i) ∧ (∀ i, i < nS T → h 10 i = tr T 3 i) ∧ (∀ i, i < nS T → h 11 i = tr T 4 i) ∧ (∀ i, i < nS T → h 12 i = tr T 5 i) ∧ (∀ i, i < nS T → h 13 i = tr T 6 i) ∧ (∀ i, i < nS T → h 14 i = tr T 7 i) ∧ (∀ i, i < nP T → h 15 i = tr T 8 i)
def DC (h : zM) (D : pD) : Prop := DR h D.1 ∧ (0 < nP D.1 → h 6 12 = tw D.1) ∧ (D.2.2 = 1 → h 6 13 = kp D.1) ∧ NM h D.2.1 ∧ h 2 12 = (if nP D.1 = 0 then 0 else 1) ∧ h 2 13 = (D.2.2 : Int)
/-- bounds of what has been told -/
def DB (tp : Nat → Int) (n : Nat) (D : pD) : Prop := nB D.1 ≤ 3 ∧ nS D.1 ≤ 4 ∧ nP D.1 ≤ 3 ∧ D.2.1.length = nB D.1 + nS D.1 ∧ vN tp n D.2.1 ∧ (D.2.2 = 0 ∨ D.2.2 = 1)
def LR (n : Nat) (r : pE ⊕ (Nat × pD)) (h : zM) : Prop := match r with
  | .inl e => CS n (.inl e) h
  | .inr (q, D) => CS n (.inr q) h ∧ DC h D
def sF (r : pE ⊕ (Nat × Int)) : pE ⊕ Nat := match r with
  | .inl e => .inl e
  | .inr p => .inr p.1
def FR (h h' : zM) : Prop := ∀ c i, c < 2 ∨ c = 3 ∨ 15 < c → h' c i = h c i
theorem FR.tr {h h1 h2 : zM} (a : FR h h1) (b : FR h1 h2) : FR h h2 := fun c i q => (b c i q).trans (a c i q)
def pBk (tp : Nat → Int) (n : Nat) (D : pD) (q : Nat) : pE ⊕ (Nat × pD) := if nB D.1 = 3 then .inl (5, (st tp n q : Nat)) else match pNm tp n D.2.1 (nxt tp n q) with
  | .inl e => .inl e
  | .inr q2 => match pWh tp n 4 99 q2 with
    | .inl e => .inl e
    | .inr (q3, a) => match pWh tp n 5 9 q3 with
      | .inl e => .inl e
      | .inr (q4, b) => match pWh tp n 6 999 q4 with
        | .inl e => .inl e
        | .inr (q5, c) => .inr (q5, bkT D.1 a b c, D.2.1 ++ [(st tp n (nxt tp n q), rn tp n (nxt tp n q) - st tp n (nxt tp n q))], D.2.2)
def pSr (tp : Nat → Int) (n : Nat) (D : pD) (q : Nat) : pE ⊕ (Nat × pD) := if nS D.1 = 4 then .inl (5, (st tp n q : Nat)) else match pNm tp n D.2.1 (nxt tp n q) with
  | .inl e => .inl e
  | .inr q2 => match pWh tp n 7 99 q2 with
    | .inl e => .inl e
    | .inr (q3, a) => match pWh tp n 8 199 q3 with
      | .inl e => .inl e
      | .inr (q4, b) => match pWh tp n 9 99 q4 with
        | .inl e => .inl e
        | .inr (q5, c) => match pWh tp n 10 100 q5 with
          | .inl e => .inl e
          | .inr (q6, e') => match pEi tp n 11 12 q6 with
            | .inl e => .inl e
            | .inr (q7, f) => .inr (q7, srT D.1 a b c e' f, D.2.1 ++ [(st tp n (nxt tp n q), rn tp n (nxt tp n q) - st tp n (nxt tp n q))], D.2.2)
section CL
variable {d : Nat} {Q : zQ} {G : zG} {h : zM} {n q : Nat} {D : pD}
theorem CS_1 {s : pE ⊕ Nat} {h h' : zM} (c : CS n s h) (f : ∀ c i, c < 3 → h' c i = h c i) : CS n s h' := CS_fr c (fun i => f _ _ (by decide)) (fun i _ => f _ _ (by decide))
theorem NM_fr {h h' : zM} {ns : List (Nat × Nat)} (N : NM h ns) (f1 : h' 2 11 = h 2 11) (f : ∀ i, h' 4 i = h 4 i ∧ h' 5 i = h 5 i) : NM h' ns := ⟨by rw [f1]; exact N.1, N.2.1, fun i p hp => by rw [(f i).1, (f i).2]; exact N.2.2 i p hp⟩
theorem c_readBaker (hg : gS G) (ht : G.2.2.2 2 2 = some 1) (hn : n ≤ 700) (c : CS n (.inr q) h) (hk : kd (h 1) n q = 1) (hD : DC h D) (hB : DB (h 1) n D) (K : ∀ h' : zM, FR h h' → LR n (pBk (h 1) n D q) h' → Q none G h') : zRunD ztb zmt' (d + 5) 20 [zR (some 2), zR (some 6)] G h Q := by
  rw [r20]
  have c1 : h 2 1 = 0 := c.2.1
  have t6 := c.2.2.2.2.2.1
  obtain ⟨b1, b2, b3, b4, b5, b6⟩ := hB
  obtain ⟨dr, dtw, dkp, dN, d12, d13⟩ := hD
  have e9 := dr.1
  unfold pBk at K
  by_cases full : nB D.1 = 3
  · rw [if_pos full] at K
    have f' : ¬ ((nB D.1 : Nat) : Int) < 3 := by omega
    simp only [e20_0, e20_1, e20_4, e20_5, e20_6, e20_7, e20_10, e20_11, e20_12, e20_13, e20_16, e20_19, e20_20, e20_21, e20_24, e20_25, e20_28, e20_29, e20_32, e20_33, e20_34, e20_36, e20_38, e20_41, e20_42, e20_43, e20_46, e20_47, e20_48, e20_50, e20_52, e20_55, e20_56, e20_57, e20_60, e20_61, e20_62, e20_64, e20_67, e20_70, e20_71, e20_72, e20_73, e20_76, e20_77, e20_78, e20_81, zs0, zsI, zsL, zsR, ztl1, ztl0, zc0, zcI, zcL, zcR, true_and, and_true, true_implies, false_implies, implies_true, not_true_eq_false, not_false_eq_true, and_self, Int.toNat_natCast, Nat.reduceAdd, Nat.reduceLeDiff, Nat.reduceLT, forall_eq', Option.some.injEq, zarR, zarI, zarL, zle, zq0, zq1, zq2, zq3, zq4, zq5, zq6, zq8, zq9, zq10, zq20, zq7, zq12, zq24, zq40, zq41, zq48, zq100, zq120, zq123, zq480, zq492, zq700, zq729, zq2187, zq2916, zq8748, ne_eq, Int.reduceEq, Int.reduceLT, Int.reduceLE, Int.reduceToNat, Int.reduceMul, Int.reduceAdd, Int.reduceNeg, gk2 hg, gr2_9 hg, gr2_10 hg, gk6 hg, gr6_0 hg, gr6_1 hg, gr6_2 hg, gr6_3 hg, gr6_4 hg, gr6_5 hg, gr6_6 hg, gr6_7 hg, gr6_8 hg, or_true, true_or, if_true, if_false, false_and, and_false, false_or, or_false, e9, f', t6, c_fail hg c1]
    exact K _ (fun c i z => by rw [zu_c (by omega), zu_c (by omega)]) (CS_die c (by decide))
  rw [if_neg full] at K
  have f' : ((nB D.1 : Nat) : Int) < 3 := by omega
  obtain ⟨B, hBn⟩ : ∃ B, B = nB D.1 := ⟨_, rfl⟩
  rw [← hBn] at f' e9 full
  simp only [e20_0, e20_1, e20_4, e20_5, e20_6, e20_7, e20_10, e20_11, e20_12, e20_13, e20_16, e20_19, e20_20, e20_21, zs0, zsI, zsL, zsR, ztl1, ztl0, zc0, zcI, zcL, zcR, true_and, and_true, true_implies, false_implies, implies_true, not_true_eq_false, not_false_eq_true, and_self, Int.toNat_natCast, Nat.reduceAdd, Nat.reduceLeDiff, Nat.reduceLT, forall_eq', Option.some.injEq, zarR, zarI, zarL, zle, zq0, zq1, zq2, zq3, zq4, zq5, zq6, zq8, zq9, zq10, zq20, zq7, zq12, zq24, zq40, zq41, zq48, zq100, zq120, zq123, zq480, zq492, zq700, zq729, zq2187, zq2916, zq8748, ne_eq, Int.reduceEq, Int.reduceLT, Int.reduceLE, Int.reduceToNat, Int.reduceMul, Int.reduceAdd, Int.reduceNeg, gk2 hg, gr2_9 hg, gr2_10 hg, gk6 hg, gr6_0 hg, gr6_1 hg, gr6_2 hg, gr6_3 hg, gr6_4 hg, gr6_5 hg, gr6_6 hg, gr6_7 hg, gr6_8 hg, e9, f']
  apply c_step (d := d + 2) hg ht hn c (by omega)
  intro h1 f1 s1
  have e1 : h1 1 = h 1 := funext (fun i => f1 _ _ (by omega))
  simp only [e20_24, e20_25, zs0, zsI, zsL, zsR, ztl1, ztl0, zc0, zcI, zcL, zcR, true_and, and_true, true_implies, false_implies, implies_true, not_true_eq_false, not_false_eq_true, and_self, Int.toNat_natCast, Nat.reduceAdd, Nat.reduceLeDiff, Nat.reduceLT, forall_eq', Option.some.injEq, zarR, zarI, zarL, zle, zq0, zq1, zq2, zq3, zq4, zq5, zq6, zq8, zq9, zq10, zq20, zq7, zq12, zq24, zq40, zq41, zq48, zq100, zq120, zq123, zq480, zq492, zq700, zq729, zq2187, zq2916, zq8748, ne_eq, Int.reduceEq, Int.reduceLT, Int.reduceLE, Int.reduceToNat, Int.reduceMul, Int.reduceAdd, Int.reduceNeg, gk2 hg, gr2_9 hg, gr2_10 hg]
  apply c_readName (d := d + 1) (ns := D.2.1) hg ht hn s1 (NM_fr dN (f1 _ _ (by omega)) (fun i => ⟨f1 _ _ (by omega), f1 _ _ (by omega)⟩)) (by omega) (by rw [e1]; exact b5)
  intro h2 f2 s2 m2
  rw [e1] at s2 m2
  have e2 : h2 1 = h 1 := funext (fun i => by rw [f2 _ _ (by omega) (by omega) (by omega)]; exact f1 _ _ (by omega))
  have F2 : ∀ c i, 6 ≤ c ∨ c = 2 ∧ 12 ≤ i → h2 c i = h c i := fun c i z => by rw [f2 c i (by omega) (by omega) (by omega), f1 c i (by omega)]
  have R2 : FR h h2 := fun c i z => by rw [f2 c i (by omega) (by omega) (by omega), f1 c i (by omega)]
  generalize hs2 : pNm (h 1) n D.2.1 (nxt (h 1) n q) = sA at s2 m2 K
  have i3 : (B : Int) < 3 := by omega
  simp only [e20_28, e20_29, e20_32, e20_33, e20_34, e20_36, e20_38, zs0, zsI, zsL, zsR, ztl1, ztl0, zc0, zcI, zcL, zcR, true_and, and_true, true_implies, false_implies, implies_true, not_true_eq_false, not_false_eq_true, and_self, Int.toNat_natCast, Nat.reduceAdd, Nat.reduceLeDiff, Nat.reduceLT, forall_eq', Option.some.injEq, zarR, zarI, zarL, zle, zq0, zq1, zq2, zq3, zq4, zq5, zq6, zq8, zq9, zq10, zq20, zq7, zq12, zq24, zq40, zq41, zq48, zq100, zq120, zq123, zq480, zq492, zq700, zq729, zq2187, zq2916, zq8748, ne_eq, Int.reduceEq, Int.reduceLT, Int.reduceLE, Int.reduceToNat, Int.reduceMul, Int.reduceAdd, Int.reduceNeg, gk2 hg, gr2_9 hg, gr2_10 hg, gk6 hg, gr6_0 hg, gr6_1 hg, gr6_2 hg, gr6_3 hg, gr6_4 hg, gr6_5 hg, gr6_6 hg, gr6_7 hg, gr6_8 hg, gk7 hg, gl7 hg]
  apply c_readWhole (d := d) (id := 4) (most := 99) hg ht hn s2 (by decide)
  intro v3 g3 k3 w3
  rw [e2] at w3
  obtain ⟨s3', hs3⟩ : ∃ s, s = sV sA (pWh (h 1) n 4 99) := ⟨_, rfl⟩
  rw [← hs3] at w3
  simp only [e20_41, zs0, zsI, zsL, zsR, ztl1, ztl0, zc0, zcI, zcL, zcR, true_and, and_true, true_implies, false_implies, implies_true, not_true_eq_false, not_false_eq_true, and_self, Int.toNat_natCast, Nat.reduceAdd, Nat.reduceLeDiff, Nat.reduceLT, forall_eq', Option.some.injEq, zarR, zarI, zarL, zle, zq0, zq1, zq2, zq3, zq4, zq5, zq6, zq8, zq9, zq10, zq20, zq7, zq12, zq24, zq40, zq41, zq48, zq100, zq120, zq123, zq480, zq492, zq700, zq729, zq2187, zq2916, zq8748, ne_eq, Int.reduceEq, Int.reduceLT, Int.reduceLE, Int.reduceToNat, Int.reduceMul, Int.reduceAdd, Int.reduceNeg, gk2 hg, gr2_9 hg, gr2_10 hg, gk6 hg, gr6_0 hg, gr6_1 hg, gr6_2 hg, gr6_3 hg, gr6_4 hg, gr6_5 hg, gr6_6 hg, gr6_7 hg, gr6_8 hg, gk7 hg, gl7 hg, i3]
  obtain ⟨h3, hh3⟩ : ∃ z, z = zu g3 7 B v3 := ⟨_, rfl⟩
  rw [← hh3]
  have z3 : ∀ c i, ¬ (c = 2 ∧ i ≤ 8) → ¬ (c = 7 ∧ i = B) → h3 c i = h2 c i := fun c i z1 z2 => by rw [hh3, zu, if_neg z2, k3 c i z1]
  have e3 : h3 1 = h 1 := by rw [← e2]; exact funext (fun i => z3 _ _ (by omega) (by omega))
  have s3 : CS n (sF s3') h3 := by
    rcases s3' with e | p
    · exact CS_1 w3 (fun c i z => by rw [hh3, zu_c (by omega)])
    · exact CS_1 w3.1 (fun c i z => by rw [hh3, zu_c (by omega)])
  have x3 : ∀ p, s3' = .inr p → h3 7 B = p.2 := fun p z => by
    rw [z] at w3
    rw [hh3, zu_at]
    exact w3.2
  have R3 : FR h h3 := R2.tr (fun c i z => z3 c i (by omega) (by omega))
  
  simp only [e20_42, e20_43, e20_46, e20_47, e20_48, e20_50, e20_52, zs0, zsI, zsL, zsR, ztl1, ztl0, zc0, zcI, zcL, zcR, true_and, and_true, true_implies, false_implies, implies_true, not_true_eq_false, not_false_eq_true, and_self, Int.toNat_natCast, Nat.reduceAdd, Nat.reduceLeDiff, Nat.reduceLT, forall_eq', Option.some.injEq, zarR, zarI, zarL, zle, zq0, zq1, zq2, zq3, zq4, zq5, zq6, zq8, zq9, zq10, zq20, zq7, zq12, zq24, zq40, zq41, zq48, zq100, zq120, zq123, zq480, zq492, zq700, zq729, zq2187, zq2916, zq8748, ne_eq, Int.reduceEq, Int.reduceLT, Int.reduceLE, Int.reduceToNat, Int.reduceMul, Int.reduceAdd, Int.reduceNeg, gk2 hg, gr2_9 hg, gr2_10 hg, gk6 hg, gr6_0 hg, gr6_1 hg, gr6_2 hg, gr6_3 hg, gr6_4 hg, gr6_5 hg, gr6_6 hg, gr6_7 hg, gr6_8 hg, gk8 hg, gl8 hg]
  apply c_readWhole (d := d) (id := 5) (most := 9) hg ht hn s3 (by decide)
  intro v4 g4 k4 w4
  rw [e3] at w4
  obtain ⟨s4', hs4⟩ : ∃ s, s = sV (sF s3') (pWh (h 1) n 5 9) := ⟨_, rfl⟩
  rw [← hs4] at w4
  simp only [e20_55, zs0, zsI, zsL, zsR, ztl1, ztl0, zc0, zcI, zcL, zcR, true_and, and_true, true_implies, false_implies, implies_true, not_true_eq_false, not_false_eq_true, and_self, Int.toNat_natCast, Nat.reduceAdd, Nat.reduceLeDiff, Nat.reduceLT, forall_eq', Option.some.injEq, zarR, zarI, zarL, zle, zq0, zq1, zq2, zq3, zq4, zq5, zq6, zq8, zq9, zq10, zq20, zq7, zq12, zq24, zq40, zq41, zq48, zq100, zq120, zq123, zq480, zq492, zq700, zq729, zq2187, zq2916, zq8748, ne_eq, Int.reduceEq, Int.reduceLT, Int.reduceLE, Int.reduceToNat, Int.reduceMul, Int.reduceAdd, Int.reduceNeg, gk2 hg, gr2_9 hg, gr2_10 hg, gk6 hg, gr6_0 hg, gr6_1 hg, gr6_2 hg, gr6_3 hg, gr6_4 hg, gr6_5 hg, gr6_6 hg, gr6_7 hg, gr6_8 hg, gk8 hg, gl8 hg, i3]
  obtain ⟨h4, hh4⟩ : ∃ z, z = zu g4 8 B v4 := ⟨_, rfl⟩
  rw [← hh4]
  have z4 : ∀ c i, ¬ (c = 2 ∧ i ≤ 8) → ¬ (c = 8 ∧ i = B) → h4 c i = h3 c i := fun c i z1 z2 => by rw [hh4, zu, if_neg z2, k4 c i z1]
  have e4 : h4 1 = h 1 := by rw [← e3]; exact funext (fun i => z4 _ _ (by omega) (by omega))
  have s4 : CS n (sF s4') h4 := by
    rcases s4' with e | p
    · exact CS_1 w4 (fun c i z => by rw [hh4, zu_c (by omega)])
    · exact CS_1 w4.1 (fun c i z => by rw [hh4, zu_c (by omega)])
  have x4 : ∀ p, s4' = .inr p → h4 8 B = p.2 := fun p z => by
    rw [z] at w4
    rw [hh4, zu_at]
    exact w4.2
  have R4 : FR h h4 := R3.tr (fun c i z => z4 c i (by omega) (by omega))
  
  simp only [e20_56, e20_57, e20_60, e20_61, e20_62, e20_64, e20_67, zs0, zsI, zsL, zsR, ztl1, ztl0, zc0, zcI, zcL, zcR, true_and, and_true, true_implies, false_implies, implies_true, not_true_eq_false, not_false_eq_true, and_self, Int.toNat_natCast, Nat.reduceAdd, Nat.reduceLeDiff, Nat.reduceLT, forall_eq', Option.some.injEq, zarR, zarI, zarL, zle, zq0, zq1, zq2, zq3, zq4, zq5, zq6, zq8, zq9, zq10, zq20, zq7, zq12, zq24, zq40, zq41, zq48, zq100, zq120, zq123, zq480, zq492, zq700, zq729, zq2187, zq2916, zq8748, ne_eq, Int.reduceEq, Int.reduceLT, Int.reduceLE, Int.reduceToNat, Int.reduceMul, Int.reduceAdd, Int.reduceNeg, gk2 hg, gr2_9 hg, gr2_10 hg, gk6 hg, gr6_0 hg, gr6_1 hg, gr6_2 hg, gr6_3 hg, gr6_4 hg, gr6_5 hg, gr6_6 hg, gr6_7 hg, gr6_8 hg, gk9 hg, gl9 hg]
  apply c_readWhole (d := d) (id := 6) (most := 999) hg ht hn s4 (by decide)
  intro v5 g5 k5 w5
  rw [e4] at w5
  obtain ⟨s5', hs5⟩ : ∃ s, s = sV (sF s4') (pWh (h 1) n 6 999) := ⟨_, rfl⟩
  rw [← hs5] at w5
  simp only [e20_70, zs0, zsI, zsL, zsR, ztl1, ztl0, zc0, zcI, zcL, zcR, true_and, and_true, true_implies, false_implies, implies_true, not_true_eq_false, not_false_eq_true, and_self, Int.toNat_natCast, Nat.reduceAdd, Nat.reduceLeDiff, Nat.reduceLT, forall_eq', Option.some.injEq, zarR, zarI, zarL, zle, zq0, zq1, zq2, zq3, zq4, zq5, zq6, zq8, zq9, zq10, zq20, zq7, zq12, zq24, zq40, zq41, zq48, zq100, zq120, zq123, zq480, zq492, zq700, zq729, zq2187, zq2916, zq8748, ne_eq, Int.reduceEq, Int.reduceLT, Int.reduceLE, Int.reduceToNat, Int.reduceMul, Int.reduceAdd, Int.reduceNeg, gk2 hg, gr2_9 hg, gr2_10 hg, gk6 hg, gr6_0 hg, gr6_1 hg, gr6_2 hg, gr6_3 hg, gr6_4 hg, gr6_5 hg, gr6_6 hg, gr6_7 hg, gr6_8 hg, gk9 hg, gl9 hg, i3]
  obtain ⟨h5, hh5⟩ : ∃ z, z = zu g5 9 B v5 := ⟨_, rfl⟩
  rw [← hh5]
  have z5 : ∀ c i, ¬ (c = 2 ∧ i ≤ 8) → ¬ (c = 9 ∧ i = B) → h5 c i = h4 c i := fun c i z1 z2 => by rw [hh5, zu, if_neg z2, k5 c i z1]
  have e5 : h5 1 = h 1 := by rw [← e4]; exact funext (fun i => z5 _ _ (by omega) (by omega))
  have s5 : CS n (sF s5') h5 := by
    rcases s5' with e | p
    · exact CS_1 w5 (fun c i z => by rw [hh5, zu_c (by omega)])
    · exact CS_1 w5.1 (fun c i z => by rw [hh5, zu_c (by omega)])
  have x5 : ∀ p, s5' = .inr p → h5 9 B = p.2 := fun p z => by
    rw [z] at w5
    rw [hh5, zu_at]
    exact w5.2
  have R5 : FR h h5 := R4.tr (fun c i z => z5 c i (by omega) (by omega))
  have e99 : h5 6 9 = (B : Int) := by rw [z5 _ _ (by omega) (by omega), z4 _ _ (by omega) (by omega), z3 _ _ (by omega) (by omega), F2 _ _ (by omega)]; exact e9
  simp only [e20_71, e20_72, e20_73, e20_76, e20_77, e20_78, e20_81, zs0, zsI, zsL, zsR, ztl1, ztl0, zc0, zcI, zcL, zcR, true_and, and_true, true_implies, false_implies, implies_true, not_true_eq_false, not_false_eq_true, and_self, Int.toNat_natCast, Nat.reduceAdd, Nat.reduceLeDiff, Nat.reduceLT, forall_eq', Option.some.injEq, zarR, zarI, zarL, zle, zq0, zq1, zq2, zq3, zq4, zq5, zq6, zq8, zq9, zq10, zq20, zq7, zq12, zq24, zq40, zq41, zq48, zq100, zq120, zq123, zq480, zq492, zq700, zq729, zq2187, zq2916, zq8748, ne_eq, Int.reduceEq, Int.reduceLT, Int.reduceLE, Int.reduceToNat, Int.reduceMul, Int.reduceAdd, Int.reduceNeg, gk2 hg, gr2_9 hg, gr2_10 hg, gk6 hg, gr6_0 hg, gr6_1 hg, gr6_2 hg, gr6_3 hg, gr6_4 hg, gr6_5 hg, gr6_6 hg, gr6_7 hg, gr6_8 hg, e99, wr_s (show B < 2147483647 by omega)]
  obtain ⟨hf, hhf⟩ : ∃ z, z = zu h5 6 9 ((B + 1 : Nat) : Int) := ⟨_, rfl⟩
  rw [← hhf]
  have zf : ∀ c i, ¬ (c = 6 ∧ i = 9) → hf c i = h5 c i := fun c i z => by rw [hhf, zu, if_neg z]
  apply K hf
  · exact R5.tr (fun c i z => zf c i (by omega))
  · have sf : CS n (sF s5') hf := CS_1 s5 (fun c i z => zf c i (by omega))
    rcases sA with eA | qA
    · dsimp only [sV] at hs3
      subst hs3
      dsimp only [sV, sF] at hs4
      subst hs4
      dsimp only [sV, sF] at hs5
      subst hs5
      exact sf
    · dsimp only [sV] at hs3 K ⊢
      cases hp3 : pWh (h 1) n 4 99 qA with
      | inl e =>
        rw [hp3] at hs3
        subst hs3
        dsimp only [sV, sF] at hs4
        subst hs4
        dsimp only [sV, sF] at hs5
        subst hs5
        exact sf
      | inr p3 =>
        rw [hp3] at hs3
        subst hs3
        dsimp only [sV, sF] at hs4 ⊢
        cases hp4 : pWh (h 1) n 5 9 p3.1 with
        | inl e =>
          rw [hp4] at hs4
          subst hs4
          dsimp only [sV, sF] at hs5
          subst hs5
          exact sf
        | inr p4 =>
          rw [hp4] at hs4
          subst hs4
          dsimp only [sV, sF] at hs5 ⊢
          cases hp5 : pWh (h 1) n 6 999 p4.1 with
          | inl e =>
            rw [hp5] at hs5
            subst hs5
            exact sf
          | inr p5 =>
            rw [hp5] at hs5
            subst hs5
            dsimp only [sV]
            refine ⟨sf, ?_, ?_, ?_, ?_, ?_, ?_⟩
            · obtain ⟨r1, r2, r3, r4, r5, r6, r7, r8, r9, r10, r11, r12⟩ := dr
              have nBe : nB (bkT D.1 p3.2 p4.2 p5.2) = nB D.1 + 1 := rfl
              have nSe : nS (bkT D.1 p3.2 p4.2 p5.2) = nS D.1 := rfl
              refine ⟨?_, ?_, ?_, ?_, ?_, ?_, ?_, ?_, ?_, ?_, ?_, ?_⟩
              · rw [hhf, zu_at, nBe, hBn]
              · rw [zf _ _ (by omega), z5 _ _ (by omega) (by omega), z4 _ _ (by omega) (by omega), z3 _ _ (by omega) (by omega), F2 _ _ (by omega)]; exact r2
              · rw [zf _ _ (by omega), z5 _ _ (by omega) (by omega), z4 _ _ (by omega) (by omega), z3 _ _ (by omega) (by omega), F2 _ _ (by omega)]; exact r3
              · intro i hi
                show _ = (if i = D.1.1 ∧ 0 = 0 then _ else _)
                by_cases hiB : i = D.1.1
                · rw [if_pos ⟨hiB, rfl⟩, show i = B by rw [hiB, hBn]; rfl, zf _ _ (by omega), z5 _ _ (by omega) (by omega), z4 _ _ (by omega) (by omega)]
                  exact x3 _ rfl
                · have hi2 : ¬ i = D.1.1 := hiB
                  have hi3 : i < nB D.1 := by rw [nBe] at hi; have : D.1.1 = nB D.1 := rfl; omega
                  rw [if_neg (fun z => hi2 z.1), if_neg (fun z => hi2 z.1), if_neg (fun z => hi2 z.1), zf _ _ (by omega), z5 _ _ (by omega) (by omega), z4 _ _ (by omega) (by omega), z3 _ _ (by omega) (by omega), F2 _ _ (by omega)]
                  exact r4 i hi3
              · intro i hi
                show _ = (if i = D.1.1 ∧ 1 = 0 then _ else _)
                by_cases hiB : i = D.1.1
                · rw [if_neg (fun z => absurd z.2 (by decide)), if_pos ⟨hiB, rfl⟩, show i = B by rw [hiB, hBn]; rfl, zf _ _ (by omega), z5 _ _ (by omega) (by omega)]
                  exact x4 _ rfl
                · have hi2 : ¬ i = D.1.1 := hiB
                  have hi3 : i < nB D.1 := by rw [nBe] at hi; have : D.1.1 = nB D.1 := rfl; omega
                  rw [if_neg (fun z => hi2 z.1), if_neg (fun z => hi2 z.1), if_neg (fun z => hi2 z.1), zf _ _ (by omega), z5 _ _ (by omega) (by omega), z4 _ _ (by omega) (by omega), z3 _ _ (by omega) (by omega), F2 _ _ (by omega)]
                  exact r5 i hi3
              · intro i hi
                show _ = (if i = D.1.1 ∧ 2 = 0 then _ else _)
                by_cases hiB : i = D.1.1
                · rw [if_neg (fun z => absurd z.2 (by decide)), if_neg (fun z => absurd z.2 (by decide)), if_pos ⟨hiB, rfl⟩, show i = B by rw [hiB, hBn]; rfl, zf _ _ (by omega)]
                  exact x5 _ rfl
                · have hi2 : ¬ i = D.1.1 := hiB
                  have hi3 : i < nB D.1 := by rw [nBe] at hi; have : D.1.1 = nB D.1 := rfl; omega
                  rw [if_neg (fun z => hi2 z.1), if_neg (fun z => hi2 z.1), if_neg (fun z => hi2 z.1), zf _ _ (by omega), z5 _ _ (by omega) (by omega), z4 _ _ (by omega) (by omega), z3 _ _ (by omega) (by omega), F2 _ _ (by omega)]
                  exact r6 i hi3
              · intro i hi
                show _ = (if i = D.1.1 ∧ 3 = 0 then _ else _)
                rw [if_neg (fun z => absurd z.2 (by decide)), if_neg (fun z => absurd z.2 (by decide)), if_neg (fun z => absurd z.2 (by decide)), zf _ _ (by omega), z5 _ _ (by omega) (by omega), z4 _ _ (by omega) (by omega), z3 _ _ (by omega) (by omega), F2 _ _ (by omega)]
                exact r7 i hi
              · intro i hi
                show _ = (if i = D.1.1 ∧ 4 = 0 then _ else _)
                rw [if_neg (fun z => absurd z.2 (by decide)), if_neg (fun z => absurd z.2 (by decide)), if_neg (fun z => absurd z.2 (by decide)), zf _ _ (by omega), z5 _ _ (by omega) (by omega), z4 _ _ (by omega) (by omega), z3 _ _ (by omega) (by omega), F2 _ _ (by omega)]
                exact r8 i hi
              · intro i hi
                show _ = (if i = D.1.1 ∧ 5 = 0 then _ else _)
                rw [if_neg (fun z => absurd z.2 (by decide)), if_neg (fun z => absurd z.2 (by decide)), if_neg (fun z => absurd z.2 (by decide)), zf _ _ (by omega), z5 _ _ (by omega) (by omega), z4 _ _ (by omega) (by omega), z3 _ _ (by omega) (by omega), F2 _ _ (by omega)]
                exact r9 i hi
              · intro i hi
                show _ = (if i = D.1.1 ∧ 6 = 0 then _ else _)
                rw [if_neg (fun z => absurd z.2 (by decide)), if_neg (fun z => absurd z.2 (by decide)), if_neg (fun z => absurd z.2 (by decide)), zf _ _ (by omega), z5 _ _ (by omega) (by omega), z4 _ _ (by omega) (by omega), z3 _ _ (by omega) (by omega), F2 _ _ (by omega)]
                exact r10 i hi
              · intro i hi
                show _ = (if i = D.1.1 ∧ 7 = 0 then _ else _)
                rw [if_neg (fun z => absurd z.2 (by decide)), if_neg (fun z => absurd z.2 (by decide)), if_neg (fun z => absurd z.2 (by decide)), zf _ _ (by omega), z5 _ _ (by omega) (by omega), z4 _ _ (by omega) (by omega), z3 _ _ (by omega) (by omega), F2 _ _ (by omega)]
                exact r11 i hi
              · intro i hi
                show _ = (if i = D.1.1 ∧ 8 = 0 then _ else _)
                rw [if_neg (fun z => absurd z.2 (by decide)), if_neg (fun z => absurd z.2 (by decide)), if_neg (fun z => absurd z.2 (by decide)), zf _ _ (by omega), z5 _ _ (by omega) (by omega), z4 _ _ (by omega) (by omega), z3 _ _ (by omega) (by omega), F2 _ _ (by omega)]
                exact r12 i hi
            · intro z; rw [zf _ _ (by omega), z5 _ _ (by omega) (by omega), z4 _ _ (by omega) (by omega), z3 _ _ (by omega) (by omega), F2 _ _ (by omega)]; exact dtw z
            · intro z; rw [zf _ _ (by omega), z5 _ _ (by omega) (by omega), z4 _ _ (by omega) (by omega), z3 _ _ (by omega) (by omega), F2 _ _ (by omega)]; exact dkp z
            · exact NM_fr (m2 _ rfl) (by rw [zf _ _ (by omega), z5 _ _ (by omega) (by omega), z4 _ _ (by omega) (by omega), z3 _ _ (by omega) (by omega)]) (fun i => ⟨by rw [zf _ _ (by omega), z5 _ _ (by omega) (by omega), z4 _ _ (by omega) (by omega), z3 _ _ (by omega) (by omega)], by rw [zf _ _ (by omega), z5 _ _ (by omega) (by omega), z4 _ _ (by omega) (by omega), z3 _ _ (by omega) (by omega)]⟩)
            · rw [zf _ _ (by omega), z5 _ _ (by omega) (by omega), z4 _ _ (by omega) (by omega), z3 _ _ (by omega) (by omega), F2 _ _ (by omega)]; exact d12
            · rw [zf _ _ (by omega), z5 _ _ (by omega) (by omega), z4 _ _ (by omega) (by omega), z3 _ _ (by omega) (by omega), F2 _ _ (by omega)]; exact d13
theorem c_readSort (hg : gS G) (ht : G.2.2.2 2 2 = some 1) (hn : n ≤ 700) (c : CS n (.inr q) h) (hk : kd (h 1) n q = 1) (hD : DC h D) (hB : DB (h 1) n D) (K : ∀ h' : zM, FR h h' → LR n (pSr (h 1) n D q) h' → Q none G h') : zRunD ztb zmt' (d + 5) 21 [zR (some 2), zR (some 6)] G h Q := by
  rw [r21]
  have c1 : h 2 1 = 0 := c.2.1
  have t6 := c.2.2.2.2.2.1
  obtain ⟨b1, b2, b3, b4, b5, b6⟩ := hB
  obtain ⟨dr, dtw, dkp, dN, d12, d13⟩ := hD
  have e9 := dr.2.1
  unfold pSr at K
  by_cases full : nS D.1 = 4
  · rw [if_pos full] at K
    have f' : ¬ ((nS D.1 : Nat) : Int) < 4 := by omega
    simp only [e21_0, e21_1, e21_4, e21_5, e21_6, e21_7, e21_10, e21_11, e21_12, e21_13, e21_16, e21_19, e21_20, e21_21, e21_24, e21_25, e21_28, e21_29, e21_32, e21_33, e21_34, e21_36, e21_38, e21_41, e21_42, e21_43, e21_46, e21_47, e21_48, e21_50, e21_53, e21_56, e21_57, e21_58, e21_61, e21_62, e21_63, e21_65, e21_67, e21_70, e21_71, e21_72, e21_75, e21_76, e21_77, e21_79, e21_81, e21_84, e21_85, e21_86, e21_89, e21_90, e21_91, e21_93, e21_95, e21_98, e21_99, e21_100, e21_101, e21_104, e21_105, e21_106, e21_109, zs0, zsI, zsL, zsR, ztl1, ztl0, zc0, zcI, zcL, zcR, true_and, and_true, true_implies, false_implies, implies_true, not_true_eq_false, not_false_eq_true, and_self, Int.toNat_natCast, Nat.reduceAdd, Nat.reduceLeDiff, Nat.reduceLT, forall_eq', Option.some.injEq, zarR, zarI, zarL, zle, zq0, zq1, zq2, zq3, zq4, zq5, zq6, zq8, zq9, zq10, zq20, zq7, zq12, zq24, zq40, zq41, zq48, zq100, zq120, zq123, zq480, zq492, zq700, zq729, zq2187, zq2916, zq8748, ne_eq, Int.reduceEq, Int.reduceLT, Int.reduceLE, Int.reduceToNat, Int.reduceMul, Int.reduceAdd, Int.reduceNeg, gk2 hg, gr2_9 hg, gr2_10 hg, gk6 hg, gr6_0 hg, gr6_1 hg, gr6_2 hg, gr6_3 hg, gr6_4 hg, gr6_5 hg, gr6_6 hg, gr6_7 hg, gr6_8 hg, or_true, true_or, if_true, if_false, false_and, and_false, false_or, or_false, e9, f', t6, c_fail hg c1]
    exact K _ (fun c i z => by rw [zu_c (by omega), zu_c (by omega)]) (CS_die c (by decide))
  rw [if_neg full] at K
  have f' : ((nS D.1 : Nat) : Int) < 4 := by omega
  obtain ⟨B, hBn⟩ : ∃ B, B = nS D.1 := ⟨_, rfl⟩
  rw [← hBn] at f' e9 full
  simp only [e21_0, e21_1, e21_4, e21_5, e21_6, e21_7, e21_10, e21_11, e21_12, e21_13, e21_16, e21_19, e21_20, e21_21, zs0, zsI, zsL, zsR, ztl1, ztl0, zc0, zcI, zcL, zcR, true_and, and_true, true_implies, false_implies, implies_true, not_true_eq_false, not_false_eq_true, and_self, Int.toNat_natCast, Nat.reduceAdd, Nat.reduceLeDiff, Nat.reduceLT, forall_eq', Option.some.injEq, zarR, zarI, zarL, zle, zq0, zq1, zq2, zq3, zq4, zq5, zq6, zq8, zq9, zq10, zq20, zq7, zq12, zq24, zq40, zq41, zq48, zq100, zq120, zq123, zq480, zq492, zq700, zq729, zq2187, zq2916, zq8748, ne_eq, Int.reduceEq, Int.reduceLT, Int.reduceLE, Int.reduceToNat, Int.reduceMul, Int.reduceAdd, Int.reduceNeg, gk2 hg, gr2_9 hg, gr2_10 hg, gk6 hg, gr6_0 hg, gr6_1 hg, gr6_2 hg, gr6_3 hg, gr6_4 hg, gr6_5 hg, gr6_6 hg, gr6_7 hg, gr6_8 hg, e9, f']
  apply c_step (d := d + 2) hg ht hn c (by omega)
  intro h1 f1 s1
  have e1 : h1 1 = h 1 := funext (fun i => f1 _ _ (by omega))
  simp only [e21_24, e21_25, zs0, zsI, zsL, zsR, ztl1, ztl0, zc0, zcI, zcL, zcR, true_and, and_true, true_implies, false_implies, implies_true, not_true_eq_false, not_false_eq_true, and_self, Int.toNat_natCast, Nat.reduceAdd, Nat.reduceLeDiff, Nat.reduceLT, forall_eq', Option.some.injEq, zarR, zarI, zarL, zle, zq0, zq1, zq2, zq3, zq4, zq5, zq6, zq8, zq9, zq10, zq20, zq7, zq12, zq24, zq40, zq41, zq48, zq100, zq120, zq123, zq480, zq492, zq700, zq729, zq2187, zq2916, zq8748, ne_eq, Int.reduceEq, Int.reduceLT, Int.reduceLE, Int.reduceToNat, Int.reduceMul, Int.reduceAdd, Int.reduceNeg, gk2 hg, gr2_9 hg, gr2_10 hg]
  apply c_readName (d := d + 1) (ns := D.2.1) hg ht hn s1 (NM_fr dN (f1 _ _ (by omega)) (fun i => ⟨f1 _ _ (by omega), f1 _ _ (by omega)⟩)) (by omega) (by rw [e1]; exact b5)
  intro h2 f2 s2 m2
  rw [e1] at s2 m2
  have e2 : h2 1 = h 1 := funext (fun i => by rw [f2 _ _ (by omega) (by omega) (by omega)]; exact f1 _ _ (by omega))
  have F2 : ∀ c i, 6 ≤ c ∨ c = 2 ∧ 12 ≤ i → h2 c i = h c i := fun c i z => by rw [f2 c i (by omega) (by omega) (by omega), f1 c i (by omega)]
  have R2 : FR h h2 := fun c i z => by rw [f2 c i (by omega) (by omega) (by omega), f1 c i (by omega)]
  generalize hs2 : pNm (h 1) n D.2.1 (nxt (h 1) n q) = sA at s2 m2 K
  have i3 : (B : Int) < 4 := by omega
  simp only [e21_28, e21_29, e21_32, e21_33, e21_34, e21_36, e21_38, zs0, zsI, zsL, zsR, ztl1, ztl0, zc0, zcI, zcL, zcR, true_and, and_true, true_implies, false_implies, implies_true, not_true_eq_false, not_false_eq_true, and_self, Int.toNat_natCast, Nat.reduceAdd, Nat.reduceLeDiff, Nat.reduceLT, forall_eq', Option.some.injEq, zarR, zarI, zarL, zle, zq0, zq1, zq2, zq3, zq4, zq5, zq6, zq8, zq9, zq10, zq20, zq7, zq12, zq24, zq40, zq41, zq48, zq100, zq120, zq123, zq480, zq492, zq700, zq729, zq2187, zq2916, zq8748, ne_eq, Int.reduceEq, Int.reduceLT, Int.reduceLE, Int.reduceToNat, Int.reduceMul, Int.reduceAdd, Int.reduceNeg, gk2 hg, gr2_9 hg, gr2_10 hg, gk6 hg, gr6_0 hg, gr6_1 hg, gr6_2 hg, gr6_3 hg, gr6_4 hg, gr6_5 hg, gr6_6 hg, gr6_7 hg, gr6_8 hg, gk10 hg, gl10 hg]
  apply c_readWhole (d := d) (id := 7) (most := 99) hg ht hn s2 (by decide)
  intro v3 g3 k3 w3
  rw [e2] at w3
  obtain ⟨s3', hs3⟩ : ∃ s, s = sV sA (pWh (h 1) n 7 99) := ⟨_, rfl⟩
  rw [← hs3] at w3
  simp only [e21_41, zs0, zsI, zsL, zsR, ztl1, ztl0, zc0, zcI, zcL, zcR, true_and, and_true, true_implies, false_implies, implies_true, not_true_eq_false, not_false_eq_true, and_self, Int.toNat_natCast, Nat.reduceAdd, Nat.reduceLeDiff, Nat.reduceLT, forall_eq', Option.some.injEq, zarR, zarI, zarL, zle, zq0, zq1, zq2, zq3, zq4, zq5, zq6, zq8, zq9, zq10, zq20, zq7, zq12, zq24, zq40, zq41, zq48, zq100, zq120, zq123, zq480, zq492, zq700, zq729, zq2187, zq2916, zq8748, ne_eq, Int.reduceEq, Int.reduceLT, Int.reduceLE, Int.reduceToNat, Int.reduceMul, Int.reduceAdd, Int.reduceNeg, gk2 hg, gr2_9 hg, gr2_10 hg, gk6 hg, gr6_0 hg, gr6_1 hg, gr6_2 hg, gr6_3 hg, gr6_4 hg, gr6_5 hg, gr6_6 hg, gr6_7 hg, gr6_8 hg, gk10 hg, gl10 hg, i3]
  obtain ⟨h3, hh3⟩ : ∃ z, z = zu g3 10 B v3 := ⟨_, rfl⟩
  rw [← hh3]
  have z3 : ∀ c i, ¬ (c = 2 ∧ i ≤ 8) → ¬ (c = 10 ∧ i = B) → h3 c i = h2 c i := fun c i z1 z2 => by rw [hh3, zu, if_neg z2, k3 c i z1]
  have e3 : h3 1 = h 1 := by rw [← e2]; exact funext (fun i => z3 _ _ (by omega) (by omega))
  have s3 : CS n (sF s3') h3 := by
    rcases s3' with e | p
    · exact CS_1 w3 (fun c i z => by rw [hh3, zu_c (by omega)])
    · exact CS_1 w3.1 (fun c i z => by rw [hh3, zu_c (by omega)])
  have x3 : ∀ p, s3' = .inr p → h3 10 B = p.2 := fun p z => by
    rw [z] at w3
    rw [hh3, zu_at]
    exact w3.2
  have R3 : FR h h3 := R2.tr (fun c i z => z3 c i (by omega) (by omega))
  
  simp only [e21_42, e21_43, e21_46, e21_47, e21_48, e21_50, e21_53, zs0, zsI, zsL, zsR, ztl1, ztl0, zc0, zcI, zcL, zcR, true_and, and_true, true_implies, false_implies, implies_true, not_true_eq_false, not_false_eq_true, and_self, Int.toNat_natCast, Nat.reduceAdd, Nat.reduceLeDiff, Nat.reduceLT, forall_eq', Option.some.injEq, zarR, zarI, zarL, zle, zq0, zq1, zq2, zq3, zq4, zq5, zq6, zq8, zq9, zq10, zq20, zq7, zq12, zq24, zq40, zq41, zq48, zq100, zq120, zq123, zq480, zq492, zq700, zq729, zq2187, zq2916, zq8748, ne_eq, Int.reduceEq, Int.reduceLT, Int.reduceLE, Int.reduceToNat, Int.reduceMul, Int.reduceAdd, Int.reduceNeg, gk2 hg, gr2_9 hg, gr2_10 hg, gk6 hg, gr6_0 hg, gr6_1 hg, gr6_2 hg, gr6_3 hg, gr6_4 hg, gr6_5 hg, gr6_6 hg, gr6_7 hg, gr6_8 hg, gk11 hg, gl11 hg]
  apply c_readWhole (d := d) (id := 8) (most := 199) hg ht hn s3 (by decide)
  intro v4 g4 k4 w4
  rw [e3] at w4
  obtain ⟨s4', hs4⟩ : ∃ s, s = sV (sF s3') (pWh (h 1) n 8 199) := ⟨_, rfl⟩
  rw [← hs4] at w4
  simp only [e21_56, zs0, zsI, zsL, zsR, ztl1, ztl0, zc0, zcI, zcL, zcR, true_and, and_true, true_implies, false_implies, implies_true, not_true_eq_false, not_false_eq_true, and_self, Int.toNat_natCast, Nat.reduceAdd, Nat.reduceLeDiff, Nat.reduceLT, forall_eq', Option.some.injEq, zarR, zarI, zarL, zle, zq0, zq1, zq2, zq3, zq4, zq5, zq6, zq8, zq9, zq10, zq20, zq7, zq12, zq24, zq40, zq41, zq48, zq100, zq120, zq123, zq480, zq492, zq700, zq729, zq2187, zq2916, zq8748, ne_eq, Int.reduceEq, Int.reduceLT, Int.reduceLE, Int.reduceToNat, Int.reduceMul, Int.reduceAdd, Int.reduceNeg, gk2 hg, gr2_9 hg, gr2_10 hg, gk6 hg, gr6_0 hg, gr6_1 hg, gr6_2 hg, gr6_3 hg, gr6_4 hg, gr6_5 hg, gr6_6 hg, gr6_7 hg, gr6_8 hg, gk11 hg, gl11 hg, i3]
  obtain ⟨h4, hh4⟩ : ∃ z, z = zu g4 11 B v4 := ⟨_, rfl⟩
  rw [← hh4]
  have z4 : ∀ c i, ¬ (c = 2 ∧ i ≤ 8) → ¬ (c = 11 ∧ i = B) → h4 c i = h3 c i := fun c i z1 z2 => by rw [hh4, zu, if_neg z2, k4 c i z1]
  have e4 : h4 1 = h 1 := by rw [← e3]; exact funext (fun i => z4 _ _ (by omega) (by omega))
  have s4 : CS n (sF s4') h4 := by
    rcases s4' with e | p
    · exact CS_1 w4 (fun c i z => by rw [hh4, zu_c (by omega)])
    · exact CS_1 w4.1 (fun c i z => by rw [hh4, zu_c (by omega)])
  have x4 : ∀ p, s4' = .inr p → h4 11 B = p.2 := fun p z => by
    rw [z] at w4
    rw [hh4, zu_at]
    exact w4.2
  have R4 : FR h h4 := R3.tr (fun c i z => z4 c i (by omega) (by omega))
  
  simp only [e21_57, e21_58, e21_61, e21_62, e21_63, e21_65, e21_67, zs0, zsI, zsL, zsR, ztl1, ztl0, zc0, zcI, zcL, zcR, true_and, and_true, true_implies, false_implies, implies_true, not_true_eq_false, not_false_eq_true, and_self, Int.toNat_natCast, Nat.reduceAdd, Nat.reduceLeDiff, Nat.reduceLT, forall_eq', Option.some.injEq, zarR, zarI, zarL, zle, zq0, zq1, zq2, zq3, zq4, zq5, zq6, zq8, zq9, zq10, zq20, zq7, zq12, zq24, zq40, zq41, zq48, zq100, zq120, zq123, zq480, zq492, zq700, zq729, zq2187, zq2916, zq8748, ne_eq, Int.reduceEq, Int.reduceLT, Int.reduceLE, Int.reduceToNat, Int.reduceMul, Int.reduceAdd, Int.reduceNeg, gk2 hg, gr2_9 hg, gr2_10 hg, gk6 hg, gr6_0 hg, gr6_1 hg, gr6_2 hg, gr6_3 hg, gr6_4 hg, gr6_5 hg, gr6_6 hg, gr6_7 hg, gr6_8 hg, gk12 hg, gl12 hg]
  apply c_readWhole (d := d) (id := 9) (most := 99) hg ht hn s4 (by decide)
  intro v5 g5 k5 w5
  rw [e4] at w5
  obtain ⟨s5', hs5⟩ : ∃ s, s = sV (sF s4') (pWh (h 1) n 9 99) := ⟨_, rfl⟩
  rw [← hs5] at w5
  simp only [e21_70, zs0, zsI, zsL, zsR, ztl1, ztl0, zc0, zcI, zcL, zcR, true_and, and_true, true_implies, false_implies, implies_true, not_true_eq_false, not_false_eq_true, and_self, Int.toNat_natCast, Nat.reduceAdd, Nat.reduceLeDiff, Nat.reduceLT, forall_eq', Option.some.injEq, zarR, zarI, zarL, zle, zq0, zq1, zq2, zq3, zq4, zq5, zq6, zq8, zq9, zq10, zq20, zq7, zq12, zq24, zq40, zq41, zq48, zq100, zq120, zq123, zq480, zq492, zq700, zq729, zq2187, zq2916, zq8748, ne_eq, Int.reduceEq, Int.reduceLT, Int.reduceLE, Int.reduceToNat, Int.reduceMul, Int.reduceAdd, Int.reduceNeg, gk2 hg, gr2_9 hg, gr2_10 hg, gk6 hg, gr6_0 hg, gr6_1 hg, gr6_2 hg, gr6_3 hg, gr6_4 hg, gr6_5 hg, gr6_6 hg, gr6_7 hg, gr6_8 hg, gk12 hg, gl12 hg, i3]
  obtain ⟨h5, hh5⟩ : ∃ z, z = zu g5 12 B v5 := ⟨_, rfl⟩
  rw [← hh5]
  have z5 : ∀ c i, ¬ (c = 2 ∧ i ≤ 8) → ¬ (c = 12 ∧ i = B) → h5 c i = h4 c i := fun c i z1 z2 => by rw [hh5, zu, if_neg z2, k5 c i z1]
  have e5 : h5 1 = h 1 := by rw [← e4]; exact funext (fun i => z5 _ _ (by omega) (by omega))
  have s5 : CS n (sF s5') h5 := by
    rcases s5' with e | p
    · exact CS_1 w5 (fun c i z => by rw [hh5, zu_c (by omega)])
    · exact CS_1 w5.1 (fun c i z => by rw [hh5, zu_c (by omega)])
  have x5 : ∀ p, s5' = .inr p → h5 12 B = p.2 := fun p z => by
    rw [z] at w5
    rw [hh5, zu_at]
    exact w5.2
  have R5 : FR h h5 := R4.tr (fun c i z => z5 c i (by omega) (by omega))
  
  simp only [e21_71, e21_72, e21_75, e21_76, e21_77, e21_79, e21_81, zs0, zsI, zsL, zsR, ztl1, ztl0, zc0, zcI, zcL, zcR, true_and, and_true, true_implies, false_implies, implies_true, not_true_eq_false, not_false_eq_true, and_self, Int.toNat_natCast, Nat.reduceAdd, Nat.reduceLeDiff, Nat.reduceLT, forall_eq', Option.some.injEq, zarR, zarI, zarL, zle, zq0, zq1, zq2, zq3, zq4, zq5, zq6, zq8, zq9, zq10, zq20, zq7, zq12, zq24, zq40, zq41, zq48, zq100, zq120, zq123, zq480, zq492, zq700, zq729, zq2187, zq2916, zq8748, ne_eq, Int.reduceEq, Int.reduceLT, Int.reduceLE, Int.reduceToNat, Int.reduceMul, Int.reduceAdd, Int.reduceNeg, gk2 hg, gr2_9 hg, gr2_10 hg, gk6 hg, gr6_0 hg, gr6_1 hg, gr6_2 hg, gr6_3 hg, gr6_4 hg, gr6_5 hg, gr6_6 hg, gr6_7 hg, gr6_8 hg, gk13 hg, gl13 hg]
  apply c_readWhole (d := d) (id := 10) (most := 100) hg ht hn s5 (by decide)
  intro v6 g6 k6 w6
  rw [e5] at w6
  obtain ⟨s6', hs6⟩ : ∃ s, s = sV (sF s5') (pWh (h 1) n 10 100) := ⟨_, rfl⟩
  rw [← hs6] at w6
  simp only [e21_84, zs0, zsI, zsL, zsR, ztl1, ztl0, zc0, zcI, zcL, zcR, true_and, and_true, true_implies, false_implies, implies_true, not_true_eq_false, not_false_eq_true, and_self, Int.toNat_natCast, Nat.reduceAdd, Nat.reduceLeDiff, Nat.reduceLT, forall_eq', Option.some.injEq, zarR, zarI, zarL, zle, zq0, zq1, zq2, zq3, zq4, zq5, zq6, zq8, zq9, zq10, zq20, zq7, zq12, zq24, zq40, zq41, zq48, zq100, zq120, zq123, zq480, zq492, zq700, zq729, zq2187, zq2916, zq8748, ne_eq, Int.reduceEq, Int.reduceLT, Int.reduceLE, Int.reduceToNat, Int.reduceMul, Int.reduceAdd, Int.reduceNeg, gk2 hg, gr2_9 hg, gr2_10 hg, gk6 hg, gr6_0 hg, gr6_1 hg, gr6_2 hg, gr6_3 hg, gr6_4 hg, gr6_5 hg, gr6_6 hg, gr6_7 hg, gr6_8 hg, gk13 hg, gl13 hg, i3]
  obtain ⟨h6, hh6⟩ : ∃ z, z = zu g6 13 B v6 := ⟨_, rfl⟩
  rw [← hh6]
  have z6 : ∀ c i, ¬ (c = 2 ∧ i ≤ 8) → ¬ (c = 13 ∧ i = B) → h6 c i = h5 c i := fun c i z1 z2 => by rw [hh6, zu, if_neg z2, k6 c i z1]
  have e6 : h6 1 = h 1 := by rw [← e5]; exact funext (fun i => z6 _ _ (by omega) (by omega))
  have s6 : CS n (sF s6') h6 := by
    rcases s6' with e | p
    · exact CS_1 w6 (fun c i z => by rw [hh6, zu_c (by omega)])
    · exact CS_1 w6.1 (fun c i z => by rw [hh6, zu_c (by omega)])
  have x6 : ∀ p, s6' = .inr p → h6 13 B = p.2 := fun p z => by
    rw [z] at w6
    rw [hh6, zu_at]
    exact w6.2
  have R6 : FR h h6 := R5.tr (fun c i z => z6 c i (by omega) (by omega))
  
  simp only [e21_85, e21_86, e21_89, e21_90, e21_91, e21_93, e21_95, zs0, zsI, zsL, zsR, ztl1, ztl0, zc0, zcI, zcL, zcR, true_and, and_true, true_implies, false_implies, implies_true, not_true_eq_false, not_false_eq_true, and_self, Int.toNat_natCast, Nat.reduceAdd, Nat.reduceLeDiff, Nat.reduceLT, forall_eq', Option.some.injEq, zarR, zarI, zarL, zle, zq0, zq1, zq2, zq3, zq4, zq5, zq6, zq8, zq9, zq10, zq20, zq7, zq12, zq24, zq40, zq41, zq48, zq100, zq120, zq123, zq480, zq492, zq700, zq729, zq2187, zq2916, zq8748, ne_eq, Int.reduceEq, Int.reduceLT, Int.reduceLE, Int.reduceToNat, Int.reduceMul, Int.reduceAdd, Int.reduceNeg, gk2 hg, gr2_9 hg, gr2_10 hg, gk6 hg, gr6_0 hg, gr6_1 hg, gr6_2 hg, gr6_3 hg, gr6_4 hg, gr6_5 hg, gr6_6 hg, gr6_7 hg, gr6_8 hg, gk14 hg, gl14 hg]
  apply c_readEither (d := d) (o1 := 11) (o2 := 12) hg ht hn s6 (by decide) (by decide)
  intro v7 g7 k7 w7
  rw [e6] at w7
  obtain ⟨s7', hs7⟩ : ∃ s, s = sV (sF s6') (pEi (h 1) n 11 12) := ⟨_, rfl⟩
  rw [← hs7] at w7
  simp only [e21_98, zs0, zsI, zsL, zsR, ztl1, ztl0, zc0, zcI, zcL, zcR, true_and, and_true, true_implies, false_implies, implies_true, not_true_eq_false, not_false_eq_true, and_self, Int.toNat_natCast, Nat.reduceAdd, Nat.reduceLeDiff, Nat.reduceLT, forall_eq', Option.some.injEq, zarR, zarI, zarL, zle, zq0, zq1, zq2, zq3, zq4, zq5, zq6, zq8, zq9, zq10, zq20, zq7, zq12, zq24, zq40, zq41, zq48, zq100, zq120, zq123, zq480, zq492, zq700, zq729, zq2187, zq2916, zq8748, ne_eq, Int.reduceEq, Int.reduceLT, Int.reduceLE, Int.reduceToNat, Int.reduceMul, Int.reduceAdd, Int.reduceNeg, gk2 hg, gr2_9 hg, gr2_10 hg, gk6 hg, gr6_0 hg, gr6_1 hg, gr6_2 hg, gr6_3 hg, gr6_4 hg, gr6_5 hg, gr6_6 hg, gr6_7 hg, gr6_8 hg, gk14 hg, gl14 hg, i3]
  obtain ⟨h7, hh7⟩ : ∃ z, z = zu g7 14 B v7 := ⟨_, rfl⟩
  rw [← hh7]
  have z7 : ∀ c i, ¬ (c = 2 ∧ i ≤ 8) → ¬ (c = 14 ∧ i = B) → h7 c i = h6 c i := fun c i z1 z2 => by rw [hh7, zu, if_neg z2, k7 c i z1]
  have e7 : h7 1 = h 1 := by rw [← e6]; exact funext (fun i => z7 _ _ (by omega) (by omega))
  have s7 : CS n (sF s7') h7 := by
    rcases s7' with e | p
    · exact CS_1 w7 (fun c i z => by rw [hh7, zu_c (by omega)])
    · exact CS_1 w7.1 (fun c i z => by rw [hh7, zu_c (by omega)])
  have x7 : ∀ p, s7' = .inr p → h7 14 B = p.2 := fun p z => by
    rw [z] at w7
    rw [hh7, zu_at]
    exact w7.2
  have R7 : FR h h7 := R6.tr (fun c i z => z7 c i (by omega) (by omega))
  have e99 : h7 6 10 = (B : Int) := by rw [z7 _ _ (by omega) (by omega), z6 _ _ (by omega) (by omega), z5 _ _ (by omega) (by omega), z4 _ _ (by omega) (by omega), z3 _ _ (by omega) (by omega), F2 _ _ (by omega)]; exact e9
  simp only [e21_99, e21_100, e21_101, e21_104, e21_105, e21_106, e21_109, zs0, zsI, zsL, zsR, ztl1, ztl0, zc0, zcI, zcL, zcR, true_and, and_true, true_implies, false_implies, implies_true, not_true_eq_false, not_false_eq_true, and_self, Int.toNat_natCast, Nat.reduceAdd, Nat.reduceLeDiff, Nat.reduceLT, forall_eq', Option.some.injEq, zarR, zarI, zarL, zle, zq0, zq1, zq2, zq3, zq4, zq5, zq6, zq8, zq9, zq10, zq20, zq7, zq12, zq24, zq40, zq41, zq48, zq100, zq120, zq123, zq480, zq492, zq700, zq729, zq2187, zq2916, zq8748, ne_eq, Int.reduceEq, Int.reduceLT, Int.reduceLE, Int.reduceToNat, Int.reduceMul, Int.reduceAdd, Int.reduceNeg, gk2 hg, gr2_9 hg, gr2_10 hg, gk6 hg, gr6_0 hg, gr6_1 hg, gr6_2 hg, gr6_3 hg, gr6_4 hg, gr6_5 hg, gr6_6 hg, gr6_7 hg, gr6_8 hg, e99, wr_s (show B < 2147483647 by omega)]
  obtain ⟨hf, hhf⟩ : ∃ z, z = zu h7 6 10 ((B + 1 : Nat) : Int) := ⟨_, rfl⟩
  rw [← hhf]
  have zf : ∀ c i, ¬ (c = 6 ∧ i = 10) → hf c i = h7 c i := fun c i z => by rw [hhf, zu, if_neg z]
  apply K hf
  · exact R7.tr (fun c i z => zf c i (by omega))
  · have sf : CS n (sF s7') hf := CS_1 s7 (fun c i z => zf c i (by omega))
    rcases sA with eA | qA
    · dsimp only [sV] at hs3
      subst hs3
      dsimp only [sV, sF] at hs4
      subst hs4
      dsimp only [sV, sF] at hs5
      subst hs5
      dsimp only [sV, sF] at hs6
      subst hs6
      dsimp only [sV, sF] at hs7
      subst hs7
      exact sf
    · dsimp only [sV] at hs3 K ⊢
      cases hp3 : pWh (h 1) n 7 99 qA with
      | inl e =>
        rw [hp3] at hs3
        subst hs3
        dsimp only [sV, sF] at hs4
        subst hs4
        dsimp only [sV, sF] at hs5
        subst hs5
        dsimp only [sV, sF] at hs6
        subst hs6
        dsimp only [sV, sF] at hs7
        subst hs7
        exact sf
      | inr p3 =>
        rw [hp3] at hs3
        subst hs3
        dsimp only [sV, sF] at hs4 ⊢
        cases hp4 : pWh (h 1) n 8 199 p3.1 with
        | inl e =>
          rw [hp4] at hs4
          subst hs4
          dsimp only [sV, sF] at hs5
          subst hs5
          dsimp only [sV, sF] at hs6
          subst hs6
          dsimp only [sV, sF] at hs7
          subst hs7
          exact sf
        | inr p4 =>
          rw [hp4] at hs4
          subst hs4
          dsimp only [sV, sF] at hs5 ⊢
          cases hp5 : pWh (h 1) n 9 99 p4.1 with
          | inl e =>
            rw [hp5] at hs5
            subst hs5
            dsimp only [sV, sF] at hs6
            subst hs6
            dsimp only [sV, sF] at hs7
            subst hs7
            exact sf
          | inr p5 =>
            rw [hp5] at hs5
            subst hs5
            dsimp only [sV, sF] at hs6 ⊢
            cases hp6 : pWh (h 1) n 10 100 p5.1 with
            | inl e =>
              rw [hp6] at hs6
              subst hs6
              dsimp only [sV, sF] at hs7
              subst hs7
              exact sf
            | inr p6 =>
              rw [hp6] at hs6
              subst hs6
              dsimp only [sV, sF] at hs7 ⊢
              cases hp7 : pEi (h 1) n 11 12 p6.1 with
              | inl e =>
                rw [hp7] at hs7
                subst hs7
                exact sf
              | inr p7 =>
                rw [hp7] at hs7
                subst hs7
                dsimp only [sV]
                refine ⟨sf, ?_, ?_, ?_, ?_, ?_, ?_⟩
                · obtain ⟨r1, r2, r3, r4, r5, r6, r7, r8, r9, r10, r11, r12⟩ := dr
                  have nBe : nB (srT D.1 p3.2 p4.2 p5.2 p6.2 p7.2) = nB D.1 := rfl
                  have nSe : nS (srT D.1 p3.2 p4.2 p5.2 p6.2 p7.2) = nS D.1 + 1 := rfl
                  refine ⟨?_, ?_, ?_, ?_, ?_, ?_, ?_, ?_, ?_, ?_, ?_, ?_⟩
                  · rw [zf _ _ (by omega), z7 _ _ (by omega) (by omega), z6 _ _ (by omega) (by omega), z5 _ _ (by omega) (by omega), z4 _ _ (by omega) (by omega), z3 _ _ (by omega) (by omega), F2 _ _ (by omega)]; exact r1
                  · rw [hhf, zu_at, nSe, hBn]
                  · rw [zf _ _ (by omega), z7 _ _ (by omega) (by omega), z6 _ _ (by omega) (by omega), z5 _ _ (by omega) (by omega), z4 _ _ (by omega) (by omega), z3 _ _ (by omega) (by omega), F2 _ _ (by omega)]; exact r3
                  · intro i hi
                    show _ = (if i = D.1.2.1 ∧ 0 = 3 then _ else _)
                    rw [if_neg (fun z => absurd z.2 (by decide)), if_neg (fun z => absurd z.2 (by decide)), if_neg (fun z => absurd z.2 (by decide)), if_neg (fun z => absurd z.2 (by decide)), if_neg (fun z => absurd z.2 (by decide)), zf _ _ (by omega), z7 _ _ (by omega) (by omega), z6 _ _ (by omega) (by omega), z5 _ _ (by omega) (by omega), z4 _ _ (by omega) (by omega), z3 _ _ (by omega) (by omega), F2 _ _ (by omega)]
                    exact r4 i hi
                  · intro i hi
                    show _ = (if i = D.1.2.1 ∧ 1 = 3 then _ else _)
                    rw [if_neg (fun z => absurd z.2 (by decide)), if_neg (fun z => absurd z.2 (by decide)), if_neg (fun z => absurd z.2 (by decide)), if_neg (fun z => absurd z.2 (by decide)), if_neg (fun z => absurd z.2 (by decide)), zf _ _ (by omega), z7 _ _ (by omega) (by omega), z6 _ _ (by omega) (by omega), z5 _ _ (by omega) (by omega), z4 _ _ (by omega) (by omega), z3 _ _ (by omega) (by omega), F2 _ _ (by omega)]
                    exact r5 i hi
                  · intro i hi
                    show _ = (if i = D.1.2.1 ∧ 2 = 3 then _ else _)
                    rw [if_neg (fun z => absurd z.2 (by decide)), if_neg (fun z => absurd z.2 (by decide)), if_neg (fun z => absurd z.2 (by decide)), if_neg (fun z => absurd z.2 (by decide)), if_neg (fun z => absurd z.2 (by decide)), zf _ _ (by omega), z7 _ _ (by omega) (by omega), z6 _ _ (by omega) (by omega), z5 _ _ (by omega) (by omega), z4 _ _ (by omega) (by omega), z3 _ _ (by omega) (by omega), F2 _ _ (by omega)]
                    exact r6 i hi
                  · intro i hi
                    show _ = (if i = D.1.2.1 ∧ 3 = 3 then _ else _)
                    by_cases hiB : i = D.1.2.1
                    · rw [if_pos ⟨hiB, rfl⟩, show i = B by rw [hiB, hBn]; rfl, zf _ _ (by omega), z7 _ _ (by omega) (by omega), z6 _ _ (by omega) (by omega), z5 _ _ (by omega) (by omega), z4 _ _ (by omega) (by omega)]
                      exact x3 _ rfl
                    · have hi2 : ¬ i = D.1.2.1 := hiB
                      have hi3 : i < nS D.1 := by rw [nSe] at hi; have : D.1.2.1 = nS D.1 := rfl; omega
                      rw [if_neg (fun z => hi2 z.1), if_neg (fun z => hi2 z.1), if_neg (fun z => hi2 z.1), if_neg (fun z => hi2 z.1), if_neg (fun z => hi2 z.1), zf _ _ (by omega), z7 _ _ (by omega) (by omega), z6 _ _ (by omega) (by omega), z5 _ _ (by omega) (by omega), z4 _ _ (by omega) (by omega), z3 _ _ (by omega) (by omega), F2 _ _ (by omega)]
                      exact r7 i hi3
                  · intro i hi
                    show _ = (if i = D.1.2.1 ∧ 4 = 3 then _ else _)
                    by_cases hiB : i = D.1.2.1
                    · rw [if_neg (fun z => absurd z.2 (by decide)), if_pos ⟨hiB, rfl⟩, show i = B by rw [hiB, hBn]; rfl, zf _ _ (by omega), z7 _ _ (by omega) (by omega), z6 _ _ (by omega) (by omega), z5 _ _ (by omega) (by omega)]
                      exact x4 _ rfl
                    · have hi2 : ¬ i = D.1.2.1 := hiB
                      have hi3 : i < nS D.1 := by rw [nSe] at hi; have : D.1.2.1 = nS D.1 := rfl; omega
                      rw [if_neg (fun z => hi2 z.1), if_neg (fun z => hi2 z.1), if_neg (fun z => hi2 z.1), if_neg (fun z => hi2 z.1), if_neg (fun z => hi2 z.1), zf _ _ (by omega), z7 _ _ (by omega) (by omega), z6 _ _ (by omega) (by omega), z5 _ _ (by omega) (by omega), z4 _ _ (by omega) (by omega), z3 _ _ (by omega) (by omega), F2 _ _ (by omega)]
                      exact r8 i hi3
                  · intro i hi
                    show _ = (if i = D.1.2.1 ∧ 5 = 3 then _ else _)
                    by_cases hiB : i = D.1.2.1
                    · rw [if_neg (fun z => absurd z.2 (by decide)), if_neg (fun z => absurd z.2 (by decide)), if_pos ⟨hiB, rfl⟩, show i = B by rw [hiB, hBn]; rfl, zf _ _ (by omega), z7 _ _ (by omega) (by omega), z6 _ _ (by omega) (by omega)]
                      exact x5 _ rfl
                    · have hi2 : ¬ i = D.1.2.1 := hiB
                      have hi3 : i < nS D.1 := by rw [nSe] at hi; have : D.1.2.1 = nS D.1 := rfl; omega
                      rw [if_neg (fun z => hi2 z.1), if_neg (fun z => hi2 z.1), if_neg (fun z => hi2 z.1), if_neg (fun z => hi2 z.1), if_neg (fun z => hi2 z.1), zf _ _ (by omega), z7 _ _ (by omega) (by omega), z6 _ _ (by omega) (by omega), z5 _ _ (by omega) (by omega), z4 _ _ (by omega) (by omega), z3 _ _ (by omega) (by omega), F2 _ _ (by omega)]
                      exact r9 i hi3
                  · intro i hi
                    show _ = (if i = D.1.2.1 ∧ 6 = 3 then _ else _)
                    by_cases hiB : i = D.1.2.1
                    · rw [if_neg (fun z => absurd z.2 (by decide)), if_neg (fun z => absurd z.2 (by decide)), if_neg (fun z => absurd z.2 (by decide)), if_pos ⟨hiB, rfl⟩, show i = B by rw [hiB, hBn]; rfl, zf _ _ (by omega), z7 _ _ (by omega) (by omega)]
                      exact x6 _ rfl
                    · have hi2 : ¬ i = D.1.2.1 := hiB
                      have hi3 : i < nS D.1 := by rw [nSe] at hi; have : D.1.2.1 = nS D.1 := rfl; omega
                      rw [if_neg (fun z => hi2 z.1), if_neg (fun z => hi2 z.1), if_neg (fun z => hi2 z.1), if_neg (fun z => hi2 z.1), if_neg (fun z => hi2 z.1), zf _ _ (by omega), z7 _ _ (by omega) (by omega), z6 _ _ (by omega) (by omega), z5 _ _ (by omega) (by omega), z4 _ _ (by omega) (by omega), z3 _ _ (by omega) (by omega), F2 _ _ (by omega)]
                      exact r10 i hi3
                  · intro i hi
                    show _ = (if i = D.1.2.1 ∧ 7 = 3 then _ else _)
                    by_cases hiB : i = D.1.2.1
                    · rw [if_neg (fun z => absurd z.2 (by decide)), if_neg (fun z => absurd z.2 (by decide)), if_neg (fun z => absurd z.2 (by decide)), if_neg (fun z => absurd z.2 (by decide)), if_pos ⟨hiB, rfl⟩, show i = B by rw [hiB, hBn]; rfl, zf _ _ (by omega)]
                      exact x7 _ rfl
                    · have hi2 : ¬ i = D.1.2.1 := hiB
                      have hi3 : i < nS D.1 := by rw [nSe] at hi; have : D.1.2.1 = nS D.1 := rfl; omega
                      rw [if_neg (fun z => hi2 z.1), if_neg (fun z => hi2 z.1), if_neg (fun z => hi2 z.1), if_neg (fun z => hi2 z.1), if_neg (fun z => hi2 z.1), zf _ _ (by omega), z7 _ _ (by omega) (by omega), z6 _ _ (by omega) (by omega), z5 _ _ (by omega) (by omega), z4 _ _ (by omega) (by omega), z3 _ _ (by omega) (by omega), F2 _ _ (by omega)]
                      exact r11 i hi3
                  · intro i hi
                    show _ = (if i = D.1.2.1 ∧ 8 = 3 then _ else _)
                    rw [if_neg (fun z => absurd z.2 (by decide)), if_neg (fun z => absurd z.2 (by decide)), if_neg (fun z => absurd z.2 (by decide)), if_neg (fun z => absurd z.2 (by decide)), if_neg (fun z => absurd z.2 (by decide)), zf _ _ (by omega), z7 _ _ (by omega) (by omega), z6 _ _ (by omega) (by omega), z5 _ _ (by omega) (by omega), z4 _ _ (by omega) (by omega), z3 _ _ (by omega) (by omega), F2 _ _ (by omega)]
                    exact r12 i hi
                · intro z; rw [zf _ _ (by omega), z7 _ _ (by omega) (by omega), z6 _ _ (by omega) (by omega), z5 _ _ (by omega) (by omega), z4 _ _ (by omega) (by omega), z3 _ _ (by omega) (by omega), F2 _ _ (by omega)]; exact dtw z
                · intro z; rw [zf _ _ (by omega), z7 _ _ (by omega) (by omega), z6 _ _ (by omega) (by omega), z5 _ _ (by omega) (by omega), z4 _ _ (by omega) (by omega), z3 _ _ (by omega) (by omega), F2 _ _ (by omega)]; exact dkp z
                · exact NM_fr (m2 _ rfl) (by rw [zf _ _ (by omega), z7 _ _ (by omega) (by omega), z6 _ _ (by omega) (by omega), z5 _ _ (by omega) (by omega), z4 _ _ (by omega) (by omega), z3 _ _ (by omega) (by omega)]) (fun i => ⟨by rw [zf _ _ (by omega), z7 _ _ (by omega) (by omega), z6 _ _ (by omega) (by omega), z5 _ _ (by omega) (by omega), z4 _ _ (by omega) (by omega), z3 _ _ (by omega) (by omega)], by rw [zf _ _ (by omega), z7 _ _ (by omega) (by omega), z6 _ _ (by omega) (by omega), z5 _ _ (by omega) (by omega), z4 _ _ (by omega) (by omega), z3 _ _ (by omega) (by omega)]⟩)
                · rw [zf _ _ (by omega), z7 _ _ (by omega) (by omega), z6 _ _ (by omega) (by omega), z5 _ _ (by omega) (by omega), z4 _ _ (by omega) (by omega), z3 _ _ (by omega) (by omega), F2 _ _ (by omega)]; exact d12
                · rw [zf _ _ (by omega), z7 _ _ (by omega) (by omega), z6 _ _ (by omega) (by omega), z5 _ _ (by omega) (by omega), z4 _ _ (by omega) (by omega), z3 _ _ (by omega) (by omega), F2 _ _ (by omega)]; exact d13
end CL
