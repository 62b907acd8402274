/-! names told; what has been told of a town so far: the town, its names (where they stand), whether keep was told -/
abbrev pD : Type := aTn × List (Nat × Nat) × Nat
def toldB (tp : Nat → Int) (ns : List (Nat × Nat)) (c : Int) : Bool := ns.any (fun p => decide (wcd tp p.1 p.2 = c))
def vN (tp : Nat → Int) (n : Nat) (ns : List (Nat × Nat)) : Prop := ∀ p, p ∈ ns → 1 ≤ p.2 ∧ p.2 ≤ 8 ∧ p.1 + p.2 ≤ n ∧ ∀ i, i < p.2 → 97 ≤ tp (p.1 + i) ∧ tp (p.1 + i) ≤ 122
def NM (h : zM) (ns : List (Nat × Nat)) : Prop := h 2 11 = (ns.length : Int) ∧ ns.length ≤ 7 ∧ ∀ (i : Nat) (p : Nat × Nat), ns[i]? = some p → h 4 i = (p.1 : Int) ∧ h 5 i = (p.2 : Int)
def kwA (c : Int) : Prop := c = kwc 0 ∨ c = kwc 1 ∨ c = kwc 2 ∨ c = kwc 3
def pNm (tp : Nat → Int) (n : Nat) (ns : List (Nat × Nat)) (q : Nat) : pE ⊕ Nat := if ¬ kd tp n q = 1 ∨ (wd tp n q = kwc 0 ∨ wd tp n q = kwc 1 ∨ wd tp n q = kwc 2 ∨ wd tp n q = kwc 3) then .inl (1, (st tp n q : Nat)) else if toldB tp ns (wd tp n q) = true then .inl (3, (st tp n q : Nat)) else .inr (nxt tp n q)
theorem toldB_iff {tp : Nat → Int} {ns : List (Nat × Nat)} {c : Int} : toldB tp ns c = true ↔ ∃ (i : Nat) (p : Nat × Nat), ns[i]? = some p ∧ wcd tp p.1 p.2 = c := by
  unfold toldB
  rw [List.any_eq_true]
  constructor
  · rintro ⟨p, h1, h2⟩
    obtain ⟨i, hi⟩ := List.getElem?_of_mem h1
    exact ⟨i, p, hi, by simpa using h2⟩
  · rintro ⟨i, p, h1, h2⟩
    exact ⟨p, List.mem_of_getElem? h1, by simpa using h2⟩
section CN
variable {d : Nat} {Q : zQ} {G : zG} {h : zM} {n q : Nat} {ns : List (Nat × Nat)}
theorem c_same (hg : gS G) (ht : G.2.2.2 2 2 = some 1) {a b l : Nat} (ha : a + l ≤ 700) (hb : b + l ≤ 700) (K : ∀ v : Int, (v = 1 ∧ (∀ i, i < l → h 1 (a + i) = h 1 (b + i)) ∨ v = 0 ∧ ¬ (∀ i, i < l → h 1 (a + i) = h 1 (b + i))) → Q (some (zI v)) G h) : zRunD ztb zmt' (d + 1) 27 [zR (some 2), zI a, zI b, zI l] G h Q := by
  rw [r27]
  have lp : ∀ j i, i + j = l → (∀ i', i' < i → h 1 (a + i') = h 1 (b + i')) → zE 27 d Q 3 [some (zR (some 2)), some (zI a), some (zI b), some (zI l), some (zI i)] [] G h (0, 0) := by
    intro j
    induction j with
    | zero =>
      intro i hi m
      have hi' : i = l := by omega
      subst hi'
      rw [e27_3]
      simp only [e27_0, e27_1, e27_5, e27_6, e27_9, e27_10, e27_13, e27_14, e27_16, e27_17, e27_18, e27_19, e27_22, e27_23, e27_25, e27_26, e27_27, e27_30, e27_31, e27_32, e27_35, e27_38, e27_39, zs0, zsI, zsL, zsR, ztl1, ztl0, zc0, zcI, zcL, zcR, true_and, and_true, true_implies, false_implies, implies_true, not_true_eq_false, not_false_eq_true, and_self, Int.toNat_natCast, Nat.reduceAdd, Nat.reduceLeDiff, Nat.reduceLT, forall_eq', Option.some.injEq, zarR, zarI, zarL, zle, zq0, zq1, zq2, zq3, zq4, zq5, zq6, zq8, zq9, zq10, zq20, zq7, zq12, zq24, zq40, zq41, zq48, zq100, zq120, zq123, zq480, zq492, zq700, zq729, zq2187, zq2916, zq8748, ne_eq, Int.reduceEq, Int.reduceLT, Int.reduceLE, Int.reduceToNat, Int.reduceMul, Int.reduceAdd, Int.reduceNeg, or_true, true_or, if_true, if_false, false_and, and_false, false_or, or_false, Int.le_refl]
      exact K 1 (Or.inl ⟨rfl, m⟩)
    | succ j ih =>
      intro i hi m
      have c : ¬ (l : Int) ≤ i := by omega
      have a7 : ((a + i : Nat) : Int) < 700 := by omega
      have b7 : ((b + i : Nat) : Int) < 700 := by omega
      have w1 : True → wr ((a : Int) + i) = ((a + i : Nat) : Int) := fun _ => wrN (by omega) (by omega)
      have w2 : True → wr ((b : Int) + i) = ((b + i : Nat) : Int) := fun _ => wrN (by omega) (by omega)
      rw [e27_3]
      by_cases z : h 1 (a + i) = h 1 (b + i)
      · simp only [e27_0, e27_1, e27_5, e27_6, e27_9, e27_10, e27_13, e27_14, e27_16, e27_17, e27_18, e27_19, e27_22, e27_23, e27_25, e27_26, e27_27, e27_30, e27_31, e27_32, e27_35, e27_38, e27_39, zs0, zsI, zsL, zsR, ztl1, ztl0, zc0, zcI, zcL, zcR, true_and, and_true, true_implies, false_implies, implies_true, not_true_eq_false, not_false_eq_true, and_self, Int.toNat_natCast, Nat.reduceAdd, Nat.reduceLeDiff, Nat.reduceLT, forall_eq', Option.some.injEq, zarR, zarI, zarL, zle, zq0, zq1, zq2, zq3, zq4, zq5, zq6, zq8, zq9, zq10, zq20, zq7, zq12, zq24, zq40, zq41, zq48, zq100, zq120, zq123, zq480, zq492, zq700, zq729, zq2187, zq2916, zq8748, ne_eq, Int.reduceEq, Int.reduceLT, Int.reduceLE, Int.reduceToNat, Int.reduceMul, Int.reduceAdd, Int.reduceNeg, gk2 hg, gr2_9 hg, gr2_10 hg, gk1 hg, gl1 hg, or_true, true_or, if_true, if_false, false_and, and_false, false_or, or_false, ht, c, a7, b7, w1 trivial, w2 trivial, z, wr_s (show i < 2147483647 by omega)]
        apply ih (i + 1) (by omega)
        intro i' hi'
        by_cases z2 : i' = i
        · rw [z2]; exact z
        · exact m i' (by omega)
      · simp only [e27_0, e27_1, e27_5, e27_6, e27_9, e27_10, e27_13, e27_14, e27_16, e27_17, e27_18, e27_19, e27_22, e27_23, e27_25, e27_26, e27_27, e27_30, e27_31, e27_32, e27_35, e27_38, e27_39, zs0, zsI, zsL, zsR, ztl1, ztl0, zc0, zcI, zcL, zcR, true_and, and_true, true_implies, false_implies, implies_true, not_true_eq_false, not_false_eq_true, and_self, Int.toNat_natCast, Nat.reduceAdd, Nat.reduceLeDiff, Nat.reduceLT, forall_eq', Option.some.injEq, zarR, zarI, zarL, zle, zq0, zq1, zq2, zq3, zq4, zq5, zq6, zq8, zq9, zq10, zq20, zq7, zq12, zq24, zq40, zq41, zq48, zq100, zq120, zq123, zq480, zq492, zq700, zq729, zq2187, zq2916, zq8748, ne_eq, Int.reduceEq, Int.reduceLT, Int.reduceLE, Int.reduceToNat, Int.reduceMul, Int.reduceAdd, Int.reduceNeg, gk2 hg, gr2_9 hg, gr2_10 hg, gk1 hg, gl1 hg, or_true, true_or, if_true, if_false, false_and, and_false, false_or, or_false, ht, c, a7, b7, w1 trivial, w2 trivial, z]
        exact K 0 (Or.inr ⟨rfl, fun m => z (m i (by omega))⟩)
  simp only [e27_0, e27_1, e27_5, e27_6, e27_9, e27_10, e27_13, e27_14, e27_16, e27_17, e27_18, e27_19, e27_22, e27_23, e27_25, e27_26, e27_27, e27_30, e27_31, e27_32, e27_35, e27_38, e27_39, zs0, zsI, zsL, zsR, ztl1, ztl0, zc0, zcI, zcL, zcR, true_and, and_true, true_implies, false_implies, implies_true, not_true_eq_false, not_false_eq_true, and_self, Int.toNat_natCast, Nat.reduceAdd, Nat.reduceLeDiff, Nat.reduceLT, forall_eq', Option.some.injEq, zarR, zarI, zarL, zle, zq0, zq1, zq2, zq3, zq4, zq5, zq6, zq8, zq9, zq10, zq20, zq7, zq12, zq24, zq40, zq41, zq48, zq100, zq120, zq123, zq480, zq492, zq700, zq729, zq2187, zq2916, zq8748, ne_eq, Int.reduceEq, Int.reduceLT, Int.reduceLE, Int.reduceToNat, Int.reduceMul, Int.reduceAdd, Int.reduceNeg, or_true, true_or, if_true, if_false, false_and, and_false, false_or, or_false]
  have l0 := lp l 0 (by omega) (fun i hi => by omega)
  simp only [zq0] at l0
  exact l0
theorem c_toldN (hg : gS G) (ht : G.2.2.2 2 2 = some 1) (hn : n ≤ 700) (T : TKc (h 1) n h q) (hk : kd (h 1) n q = 1) (hN : NM h ns) (hv : vN (h 1) n ns) (K : ∀ v : Int, (v = 1 ∧ toldB (h 1) ns (wd (h 1) n q) = true ∨ v = 0 ∧ ¬ toldB (h 1) ns (wd (h 1) n q) = true) → Q (some (zI v)) G h) : zRunD ztb zmt' (d + 2) 26 [zR (some 2)] G h Q := by
  rw [r26]
  obtain ⟨hq, t5, t6, t7, -, -⟩ := T
  have t7 := t7 hk
  have k1 := kd_1 hq hk
  have rb := rn_b (tp := h 1) q hq
  obtain ⟨n0, n1, n2⟩ := hN
  have lp : ∀ j i, i + j = ns.length → (∀ (i' : Nat) (p : Nat × Nat), i' < i → ns[i']? = some p → ¬ wcd (h 1) p.1 p.2 = wd (h 1) n q) → zE 26 (d + 1) Q 2 [some (zR (some 2)), some (zI i)] [] G h (0, 0) := by
    intro j
    induction j with
    | zero =>
      intro i hi m
      have c : (ns.length : Int) ≤ i := by omega
      rw [e26_2]
      simp only [e26_0, e26_1, e26_3, e26_4, e26_7, e26_10, e26_11, e26_14, e26_15, e26_16, e26_17, e26_20, e26_23, e26_24, e26_25, e26_28, e26_29, e26_30, e26_31, e26_34, e26_35, e26_38, e26_41, e26_44, e26_45, e26_46, e26_49, e26_52, e26_53, zs0, zsI, zsL, zsR, ztl1, ztl0, zc0, zcI, zcL, zcR, true_and, and_true, true_implies, false_implies, implies_true, not_true_eq_false, not_false_eq_true, and_self, Int.toNat_natCast, Nat.reduceAdd, Nat.reduceLeDiff, Nat.reduceLT, forall_eq', Option.some.injEq, zarR, zarI, zarL, zle, zq0, zq1, zq2, zq3, zq4, zq5, zq6, zq8, zq9, zq10, zq20, zq7, zq12, zq24, zq40, zq41, zq48, zq100, zq120, zq123, zq480, zq492, zq700, zq729, zq2187, zq2916, zq8748, ne_eq, Int.reduceEq, Int.reduceLT, Int.reduceLE, Int.reduceToNat, Int.reduceMul, Int.reduceAdd, Int.reduceNeg, gk2 hg, gr2_9 hg, gr2_10 hg, or_true, true_or, if_true, if_false, false_and, and_false, false_or, or_false, n0, c]
      apply K 0
      refine Or.inr ⟨rfl, fun z => ?_⟩
      obtain ⟨i', p, z1, z2⟩ := toldB_iff.mp z
      have : i' < ns.length := (List.getElem?_eq_some_iff.mp z1).1
      exact m i' p (by omega) z1 z2
    | succ j ih =>
      intro i hi m
      have c : ¬ (ns.length : Int) ≤ i := by omega
      have i7 : (i : Int) < 7 := by omega
      obtain ⟨p, hp⟩ : ∃ p, ns[i]? = some p := ⟨ns[i], List.getElem?_eq_getElem (by omega)⟩
      obtain ⟨e4, e5⟩ := n2 i p hp
      have pv := hv p (List.mem_of_getElem? hp)
      have skip : ¬ wcd (h 1) p.1 p.2 = wd (h 1) n q → zE 26 (d + 1) Q 2 [some (zR (some 2)), some (zI ((i + 1 : Nat) : Int))] [] G h (0, 0) := by
        intro z
        apply ih (i + 1) (by omega)
        intro i' p' z1 z2
        by_cases z3 : i' = i
        · rw [z3, hp] at z2
          cases z2
          exact z
        · exact m i' p' (by omega) z2
      rw [e26_2]
      by_cases z : p.2 = rn (h 1) n q - st (h 1) n q
      · have z' : (p.2 : Int) = ((rn (h 1) n q - st (h 1) n q : Nat) : Int) := by omega
        simp only [e26_3, e26_4, e26_7, e26_10, e26_11, e26_14, e26_15, e26_16, e26_17, e26_20, e26_23, e26_24, e26_25, e26_28, e26_29, e26_30, e26_31, e26_34, e26_35, e26_38, zs0, zsI, zsL, zsR, ztl1, ztl0, zc0, zcI, zcL, zcR, true_and, and_true, true_implies, false_implies, implies_true, not_true_eq_false, not_false_eq_true, and_self, Int.toNat_natCast, Nat.reduceAdd, Nat.reduceLeDiff, Nat.reduceLT, forall_eq', Option.some.injEq, zarR, zarI, zarL, zle, zq0, zq1, zq2, zq3, zq4, zq5, zq6, zq8, zq9, zq10, zq20, zq7, zq12, zq24, zq40, zq41, zq48, zq100, zq120, zq123, zq480, zq492, zq700, zq729, zq2187, zq2916, zq8748, ne_eq, Int.reduceEq, Int.reduceLT, Int.reduceLE, Int.reduceToNat, Int.reduceMul, Int.reduceAdd, Int.reduceNeg, gk2 hg, gr2_9 hg, gr2_10 hg, gk4 hg, gl4 hg, gk5 hg, gl5 hg, n0, c, i7, e4, e5, t6, t7, z']
        apply c_same (d := d) hg ht (by omega) (by omega)
        intro v hv2
        rcases hv2 with ⟨rfl, hv2⟩ | ⟨rfl, hv2⟩
        · simp only [e26_41, e26_44, e26_45, zs0, zsI, zsL, zsR, ztl1, ztl0, zc0, zcI, zcL, zcR, true_and, and_true, true_implies, false_implies, implies_true, not_true_eq_false, not_false_eq_true, and_self, Int.toNat_natCast, Nat.reduceAdd, Nat.reduceLeDiff, Nat.reduceLT, forall_eq', Option.some.injEq, zarR, zarI, zarL, zle, zq0, zq1, zq2, zq3, zq4, zq5, zq6, zq8, zq9, zq10, zq20, zq7, zq12, zq24, zq40, zq41, zq48, zq100, zq120, zq123, zq480, zq492, zq700, zq729, zq2187, zq2916, zq8748, ne_eq, Int.reduceEq, Int.reduceLT, Int.reduceLE, Int.reduceToNat, Int.reduceMul, Int.reduceAdd, Int.reduceNeg, or_true, true_or]
          apply K 1
          refine Or.inl ⟨rfl, toldB_iff.mpr ⟨i, p, hp, ?_⟩⟩
          rw [z]
          unfold wd
          exact wcd_cong hv2
        · simp only [e26_41, e26_44, e26_45, e26_46, e26_49, zs0, zsI, zsL, zsR, ztl1, ztl0, zc0, zcI, zcL, zcR, true_and, and_true, true_implies, false_implies, implies_true, not_true_eq_false, not_false_eq_true, and_self, Int.toNat_natCast, Nat.reduceAdd, Nat.reduceLeDiff, Nat.reduceLT, forall_eq', Option.some.injEq, zarR, zarI, zarL, zle, zq0, zq1, zq2, zq3, zq4, zq5, zq6, zq8, zq9, zq10, zq20, zq7, zq12, zq24, zq40, zq41, zq48, zq100, zq120, zq123, zq480, zq492, zq700, zq729, zq2187, zq2916, zq8748, ne_eq, Int.reduceEq, Int.reduceLT, Int.reduceLE, Int.reduceToNat, Int.reduceMul, Int.reduceAdd, Int.reduceNeg, wr_s (show i < 2147483647 by omega)]
          apply skip
          intro e
          unfold wd at e
          have := wcd_inj pv.2.2.2 (fun i hi => k1.2.2.2.2.2 _ (by omega) (by omega)) e
          exact hv2 (fun i hi => this.2 i (by omega))
      · have z' : ¬ (p.2 : Int) = ((rn (h 1) n q - st (h 1) n q : Nat) : Int) := by omega
        simp only [e26_3, e26_4, e26_7, e26_10, e26_11, e26_14, e26_15, e26_16, e26_17, e26_20, e26_23, e26_24, e26_25, e26_28, e26_29, e26_30, e26_31, e26_34, e26_35, e26_38, e26_41, e26_44, e26_45, e26_46, e26_49, zs0, zsI, zsL, zsR, ztl1, ztl0, zc0, zcI, zcL, zcR, true_and, and_true, true_implies, false_implies, implies_true, not_true_eq_false, not_false_eq_true, and_self, Int.toNat_natCast, Nat.reduceAdd, Nat.reduceLeDiff, Nat.reduceLT, forall_eq', Option.some.injEq, zarR, zarI, zarL, zle, zq0, zq1, zq2, zq3, zq4, zq5, zq6, zq8, zq9, zq10, zq20, zq7, zq12, zq24, zq40, zq41, zq48, zq100, zq120, zq123, zq480, zq492, zq700, zq729, zq2187, zq2916, zq8748, ne_eq, Int.reduceEq, Int.reduceLT, Int.reduceLE, Int.reduceToNat, Int.reduceMul, Int.reduceAdd, Int.reduceNeg, gk2 hg, gr2_9 hg, gr2_10 hg, gk4 hg, gl4 hg, gk5 hg, gl5 hg, n0, c, i7, e5, t7, z', wr_s (show i < 2147483647 by omega)]
        apply skip
        intro e
        unfold wd at e
        exact z (wcd_inj pv.2.2.2 (fun i hi => k1.2.2.2.2.2 _ (by omega) (by omega)) e).1
  simp only [e26_0, e26_1, zs0, zsI, zsL, zsR, ztl1, ztl0, zc0, zcI, zcL, zcR, true_and, and_true, true_implies, false_implies, implies_true, not_true_eq_false, not_false_eq_true, and_self, Int.toNat_natCast, Nat.reduceAdd, Nat.reduceLeDiff, Nat.reduceLT, forall_eq', Option.some.injEq, zarR, zarI, zarL, zle, zq0, zq1, zq2, zq3, zq4, zq5, zq6, zq8, zq9, zq10, zq20, zq7, zq12, zq24, zq40, zq41, zq48, zq100, zq120, zq123, zq480, zq492, zq700, zq729, zq2187, zq2916, zq8748, ne_eq, Int.reduceEq, Int.reduceLT, Int.reduceLE, Int.reduceToNat, Int.reduceMul, Int.reduceAdd, Int.reduceNeg]
  have l0 := lp ns.length 0 (by omega) (fun i' p hi => by omega)
  simp only [zq0] at l0
  exact l0
theorem c_readName (hg : gS G) (ht : G.2.2.2 2 2 = some 1) (hn : n ≤ 700) (c : CS n (.inr q) h) (hN : NM h ns) (h7 : ns.length < 7) (hv : vN (h 1) n ns) (K : ∀ h' : zM, (∀ c i, ¬ (c = 2 ∧ (i ≤ 8 ∨ i = 11)) → ¬ c = 4 → ¬ c = 5 → h' c i = h c i) → CS n (pNm (h 1) n ns q) h' → (∀ q', pNm (h 1) n ns q = .inr q' → NM h' (ns ++ [(st (h 1) n q, rn (h 1) n q - st (h 1) n q)])) → Q none G h') : zRunD ztb zmt' (d + 3) 25 [zR (some 2)] G h Q := by
  rw [r25]
  have c1 : h 2 1 = 0 := c.2.1
  have T := c.2.2.2
  have t5 := T.2.1
  have t6 := T.2.2.1
  have t7 := T.2.2.2.1
  have bad : (¬ kd (h 1) n q = 1 ∨ (wd (h 1) n q = kwc 0 ∨ wd (h 1) n q = kwc 1 ∨ wd (h 1) n q = kwc 2 ∨ wd (h 1) n q = kwc 3)) → zE 25 (d + 2) Q 52 [some (zR (some 2))] [] G h (0, 0) := by
    intro z
    unfold pNm at K
    rw [if_pos z] at K
    simp only [e25_52, e25_53, e25_54, e25_55, e25_58, e25_61, e25_64, e25_65, e25_68, e25_71, e25_72, e25_73, e25_74, e25_77, e25_80, e25_83, e25_84, e25_87, e25_88, e25_91, e25_92, e25_95, e25_96, e25_99, e25_100, e25_103, e25_104, e25_107, e25_108, e25_109, e25_112, e25_113, e25_116, e25_117, e25_120, e25_121, e25_122, e25_123, e25_126, e25_127, e25_128, e25_131, e25_132, e25_135, zs0, zsI, zsL, zsR, ztl1, ztl0, zc0, zcI, zcL, zcR, true_and, and_true, true_implies, false_implies, implies_true, not_true_eq_false, not_false_eq_true, and_self, Int.toNat_natCast, Nat.reduceAdd, Nat.reduceLeDiff, Nat.reduceLT, forall_eq', Option.some.injEq, zarR, zarI, zarL, zle, zq0, zq1, zq2, zq3, zq4, zq5, zq6, zq8, zq9, zq10, zq20, zq7, zq12, zq24, zq40, zq41, zq48, zq100, zq120, zq123, zq480, zq492, zq700, zq729, zq2187, zq2916, zq8748, ne_eq, Int.reduceEq, Int.reduceLT, Int.reduceLE, Int.reduceToNat, Int.reduceMul, Int.reduceAdd, Int.reduceNeg, gk2 hg, gr2_9 hg, gr2_10 hg, t6, c_fail hg c1]
    exact K _ (fun c i z _ _ => by rw [zu, if_neg (by omega), zu, if_neg (by omega)]) (CS_die c (by decide)) (fun q' z => by cases z)
  by_cases k1 : kd (h 1) n q = 1
  · have t7 := t7 k1
    rw [k1] at t5
    have kk := kd_1 T.1 k1
    have rb := rn_b (tp := h 1) q T.1
    simp only [e25_0, e25_1, e25_4, e25_7, e25_8, e25_9, e25_12, e25_13, e25_16, e25_17, e25_19, zs0, zsI, zsL, zsR, ztl1, ztl0, zc0, zcI, zcL, zcR, true_and, and_true, true_implies, false_implies, implies_true, not_true_eq_false, not_false_eq_true, and_self, Int.toNat_natCast, Nat.reduceAdd, Nat.reduceLeDiff, Nat.reduceLT, forall_eq', Option.some.injEq, zarR, zarI, zarL, zle, zq0, zq1, zq2, zq3, zq4, zq5, zq6, zq8, zq9, zq10, zq20, zq7, zq12, zq24, zq40, zq41, zq48, zq100, zq120, zq123, zq480, zq492, zq700, zq729, zq2187, zq2916, zq8748, ne_eq, Int.reduceEq, Int.reduceLT, Int.reduceLE, Int.reduceToNat, Int.reduceMul, Int.reduceAdd, Int.reduceNeg, gk2 hg, gr2_9 hg, gr2_10 hg, c1, t5]
    have w : ∀ id, id < 15 → ∀ Q' : zQ, (∀ v : Int, (v = 1 ∧ wd (h 1) n q = kwc id ∨ v = 0 ∧ ¬ wd (h 1) n q = kwc id) → Q' (some (zI v)) G h) → zRunD ztb zmt' (d + 2) 19 [zR (some 2), zT id] G h Q' := by
      intro id hid Q' KK
      apply c_isWord (d := d + 1) hg ht hn hid T
      intro v hv
      apply KK
      rcases hv with ⟨e, hv⟩ | ⟨e, hv⟩
      · exact Or.inl ⟨e, hv.2⟩
      · exact Or.inr ⟨e, fun z => hv ⟨k1, z⟩⟩
    apply w 0 (by decide)
    intro v hv0
    rcases hv0 with ⟨rfl, hv0⟩ | ⟨rfl, hv0⟩
    · simp only [e25_22, e25_25, e25_26, e25_28, e25_31, e25_34, e25_35, e25_37, e25_40, e25_43, e25_44, e25_46, e25_49, zs0, zsI, zsL, zsR, ztl1, ztl0, zc0, zcI, zcL, zcR, true_and, and_true, true_implies, false_implies, implies_true, not_true_eq_false, not_false_eq_true, and_self, Int.toNat_natCast, Nat.reduceAdd, Nat.reduceLeDiff, Nat.reduceLT, forall_eq', Option.some.injEq, zarR, zarI, zarL, zle, zq0, zq1, zq2, zq3, zq4, zq5, zq6, zq8, zq9, zq10, zq20, zq7, zq12, zq24, zq40, zq41, zq48, zq100, zq120, zq123, zq480, zq492, zq700, zq729, zq2187, zq2916, zq8748, ne_eq, Int.reduceEq, Int.reduceLT, Int.reduceLE, Int.reduceToNat, Int.reduceMul, Int.reduceAdd, Int.reduceNeg]
      exact bad (by simp [hv0])
    simp only [e25_22, e25_25, e25_26, e25_28, zs0, zsI, zsL, zsR, ztl1, ztl0, zc0, zcI, zcL, zcR, true_and, and_true, true_implies, false_implies, implies_true, not_true_eq_false, not_false_eq_true, and_self, Int.toNat_natCast, Nat.reduceAdd, Nat.reduceLeDiff, Nat.reduceLT, forall_eq', Option.some.injEq, zarR, zarI, zarL, zle, zq0, zq1, zq2, zq3, zq4, zq5, zq6, zq8, zq9, zq10, zq20, zq7, zq12, zq24, zq40, zq41, zq48, zq100, zq120, zq123, zq480, zq492, zq700, zq729, zq2187, zq2916, zq8748, ne_eq, Int.reduceEq, Int.reduceLT, Int.reduceLE, Int.reduceToNat, Int.reduceMul, Int.reduceAdd, Int.reduceNeg, gk2 hg, gr2_9 hg, gr2_10 hg]
    apply w 1 (by decide)
    intro v hv1
    rcases hv1 with ⟨rfl, hv1⟩ | ⟨rfl, hv1⟩
    · simp only [e25_31, e25_34, e25_35, e25_37, e25_40, e25_43, e25_44, e25_46, e25_49, zs0, zsI, zsL, zsR, ztl1, ztl0, zc0, zcI, zcL, zcR, true_and, and_true, true_implies, false_implies, implies_true, not_true_eq_false, not_false_eq_true, and_self, Int.toNat_natCast, Nat.reduceAdd, Nat.reduceLeDiff, Nat.reduceLT, forall_eq', Option.some.injEq, zarR, zarI, zarL, zle, zq0, zq1, zq2, zq3, zq4, zq5, zq6, zq8, zq9, zq10, zq20, zq7, zq12, zq24, zq40, zq41, zq48, zq100, zq120, zq123, zq480, zq492, zq700, zq729, zq2187, zq2916, zq8748, ne_eq, Int.reduceEq, Int.reduceLT, Int.reduceLE, Int.reduceToNat, Int.reduceMul, Int.reduceAdd, Int.reduceNeg]
      exact bad (by simp [hv1])
    simp only [e25_31, e25_34, e25_35, e25_37, zs0, zsI, zsL, zsR, ztl1, ztl0, zc0, zcI, zcL, zcR, true_and, and_true, true_implies, false_implies, implies_true, not_true_eq_false, not_false_eq_true, and_self, Int.toNat_natCast, Nat.reduceAdd, Nat.reduceLeDiff, Nat.reduceLT, forall_eq', Option.some.injEq, zarR, zarI, zarL, zle, zq0, zq1, zq2, zq3, zq4, zq5, zq6, zq8, zq9, zq10, zq20, zq7, zq12, zq24, zq40, zq41, zq48, zq100, zq120, zq123, zq480, zq492, zq700, zq729, zq2187, zq2916, zq8748, ne_eq, Int.reduceEq, Int.reduceLT, Int.reduceLE, Int.reduceToNat, Int.reduceMul, Int.reduceAdd, Int.reduceNeg, gk2 hg, gr2_9 hg, gr2_10 hg]
    apply w 2 (by decide)
    intro v hv2
    rcases hv2 with ⟨rfl, hv2⟩ | ⟨rfl, hv2⟩
    · simp only [e25_40, e25_43, e25_44, e25_46, e25_49, zs0, zsI, zsL, zsR, ztl1, ztl0, zc0, zcI, zcL, zcR, true_and, and_true, true_implies, false_implies, implies_true, not_true_eq_false, not_false_eq_true, and_self, Int.toNat_natCast, Nat.reduceAdd, Nat.reduceLeDiff, Nat.reduceLT, forall_eq', Option.some.injEq, zarR, zarI, zarL, zle, zq0, zq1, zq2, zq3, zq4, zq5, zq6, zq8, zq9, zq10, zq20, zq7, zq12, zq24, zq40, zq41, zq48, zq100, zq120, zq123, zq480, zq492, zq700, zq729, zq2187, zq2916, zq8748, ne_eq, Int.reduceEq, Int.reduceLT, Int.reduceLE, Int.reduceToNat, Int.reduceMul, Int.reduceAdd, Int.reduceNeg]
      exact bad (by simp [hv2])
    simp only [e25_40, e25_43, e25_44, e25_46, zs0, zsI, zsL, zsR, ztl1, ztl0, zc0, zcI, zcL, zcR, true_and, and_true, true_implies, false_implies, implies_true, not_true_eq_false, not_false_eq_true, and_self, Int.toNat_natCast, Nat.reduceAdd, Nat.reduceLeDiff, Nat.reduceLT, forall_eq', Option.some.injEq, zarR, zarI, zarL, zle, zq0, zq1, zq2, zq3, zq4, zq5, zq6, zq8, zq9, zq10, zq20, zq7, zq12, zq24, zq40, zq41, zq48, zq100, zq120, zq123, zq480, zq492, zq700, zq729, zq2187, zq2916, zq8748, ne_eq, Int.reduceEq, Int.reduceLT, Int.reduceLE, Int.reduceToNat, Int.reduceMul, Int.reduceAdd, Int.reduceNeg, gk2 hg, gr2_9 hg, gr2_10 hg]
    apply w 3 (by decide)
    intro v hv3
    rcases hv3 with ⟨rfl, hv3⟩ | ⟨rfl, hv3⟩
    · simp only [e25_49, zs0, zsI, zsL, zsR, ztl1, ztl0, zc0, zcI, zcL, zcR, true_and, and_true, true_implies, false_implies, implies_true, not_true_eq_false, not_false_eq_true, and_self, Int.toNat_natCast, Nat.reduceAdd, Nat.reduceLeDiff, Nat.reduceLT, forall_eq', Option.some.injEq, zarR, zarI, zarL, zle, zq0, zq1, zq2, zq3, zq4, zq5, zq6, zq8, zq9, zq10, zq20, zq7, zq12, zq24, zq40, zq41, zq48, zq100, zq120, zq123, zq480, zq492, zq700, zq729, zq2187, zq2916, zq8748, ne_eq, Int.reduceEq, Int.reduceLT, Int.reduceLE, Int.reduceToNat, Int.reduceMul, Int.reduceAdd, Int.reduceNeg]
      exact bad (by simp [hv3])
    simp only [e25_49, e25_64, e25_65, zs0, zsI, zsL, zsR, ztl1, ztl0, zc0, zcI, zcL, zcR, true_and, and_true, true_implies, false_implies, implies_true, not_true_eq_false, not_false_eq_true, and_self, Int.toNat_natCast, Nat.reduceAdd, Nat.reduceLeDiff, Nat.reduceLT, forall_eq', Option.some.injEq, zarR, zarI, zarL, zle, zq0, zq1, zq2, zq3, zq4, zq5, zq6, zq8, zq9, zq10, zq20, zq7, zq12, zq24, zq40, zq41, zq48, zq100, zq120, zq123, zq480, zq492, zq700, zq729, zq2187, zq2916, zq8748, ne_eq, Int.reduceEq, Int.reduceLT, Int.reduceLE, Int.reduceToNat, Int.reduceMul, Int.reduceAdd, Int.reduceNeg, gk2 hg, gr2_9 hg, gr2_10 hg]
    unfold pNm at K
    rw [if_neg (by simp [k1, hv0, hv1, hv2, hv3])] at K
    apply c_toldN (d := d) hg ht hn T k1 hN hv
    intro v hvt
    rcases hvt with ⟨rfl, hvt⟩ | ⟨rfl, hvt⟩
    · rw [if_pos hvt] at K
      simp only [e25_68, e25_71, e25_72, e25_73, e25_74, e25_77, e25_80, e25_83, e25_84, e25_87, e25_88, e25_91, e25_92, e25_95, e25_96, e25_99, e25_100, e25_103, e25_104, e25_107, e25_108, e25_109, e25_112, e25_113, e25_116, e25_117, e25_120, e25_121, e25_122, e25_123, e25_126, e25_127, e25_128, e25_131, e25_132, e25_135, zs0, zsI, zsL, zsR, ztl1, ztl0, zc0, zcI, zcL, zcR, true_and, and_true, true_implies, false_implies, implies_true, not_true_eq_false, not_false_eq_true, and_self, Int.toNat_natCast, Nat.reduceAdd, Nat.reduceLeDiff, Nat.reduceLT, forall_eq', Option.some.injEq, zarR, zarI, zarL, zle, zq0, zq1, zq2, zq3, zq4, zq5, zq6, zq8, zq9, zq10, zq20, zq7, zq12, zq24, zq40, zq41, zq48, zq100, zq120, zq123, zq480, zq492, zq700, zq729, zq2187, zq2916, zq8748, ne_eq, Int.reduceEq, Int.reduceLT, Int.reduceLE, Int.reduceToNat, Int.reduceMul, Int.reduceAdd, Int.reduceNeg, gk2 hg, gr2_9 hg, gr2_10 hg, t6, c_fail hg c1]
      exact K _ (fun c i z _ _ => by rw [zu, if_neg (by omega), zu, if_neg (by omega)]) (CS_die c (by decide)) (fun q' z => by cases z)
    · rw [if_neg hvt] at K
      obtain ⟨n0, n1, n2⟩ := hN
      have c7 : ¬ (7 : Int) ≤ (ns.length : Int) := by omega
      have l7 : (ns.length : Int) < 7 := by omega
      simp only [e25_68, e25_71, e25_72, e25_73, e25_74, e25_77, e25_80, e25_83, e25_84, e25_87, e25_88, e25_91, e25_92, e25_95, e25_96, e25_99, e25_100, e25_103, e25_104, e25_107, e25_108, e25_109, e25_112, e25_113, e25_116, e25_117, e25_120, e25_121, e25_122, e25_123, e25_126, e25_127, e25_128, e25_131, e25_132, zs0, zsI, zsL, zsR, ztl1, ztl0, zc0, zcI, zcL, zcR, true_and, and_true, true_implies, false_implies, implies_true, not_true_eq_false, not_false_eq_true, and_self, Int.toNat_natCast, Nat.reduceAdd, Nat.reduceLeDiff, Nat.reduceLT, forall_eq', Option.some.injEq, zarR, zarI, zarL, zle, zq0, zq1, zq2, zq3, zq4, zq5, zq6, zq8, zq9, zq10, zq20, zq7, zq12, zq24, zq40, zq41, zq48, zq100, zq120, zq123, zq480, zq492, zq700, zq729, zq2187, zq2916, zq8748, ne_eq, Int.reduceEq, Int.reduceLT, Int.reduceLE, Int.reduceToNat, Int.reduceMul, Int.reduceAdd, Int.reduceNeg, gk2 hg, gr2_9 hg, gr2_10 hg, gk4 hg, gl4 hg, gk5 hg, gl5 hg, n0, c7, l7, t6, t7, zu_c (show ¬ 2 = 4 by decide), zu_c (show ¬ 2 = 5 by decide), zu_c (show ¬ 5 = 4 by decide), wr_s (show ns.length < 2147483647 by omega), Nat.reduceLeDiff]
      obtain ⟨h2, e2⟩ : ∃ h2, h2 = zu (zu (zu h 4 ns.length ((st (h 1) n q : Nat) : Int)) 5 ns.length ((rn (h 1) n q - st (h 1) n q : Nat) : Int)) 2 11 ((ns.length + 1 : Nat) : Int) := ⟨_, rfl⟩
      rw [← e2]
      have f2 : ∀ c i, ¬ (c = 2 ∧ i = 11) → ¬ (c = 4 ∧ i = ns.length) → ¬ (c = 5 ∧ i = ns.length) → h2 c i = h c i := fun c i z1 z2 z3 => by rw [e2, zu, if_neg z1, zu, if_neg z3, zu, if_neg z2]
      have c2 : CS n (.inr q) h2 := CS_fr c (fun i => f2 _ _ (by omega) (by omega) (by omega)) (fun i hi => f2 _ _ (by omega) (by omega) (by omega))
      have e1 : h2 1 = h 1 := funext (fun i => f2 _ _ (by omega) (by omega) (by omega))
      apply c_step (d := d) hg ht hn c2 (by rw [e1]; omega)
      intro h3 f3 c3
      simp only [e25_135, zs0, zsI, zsL, zsR, ztl1, ztl0, zc0, zcI, zcL, zcR, true_and, and_true, true_implies, false_implies, implies_true, not_true_eq_false, not_false_eq_true, and_self, Int.toNat_natCast, Nat.reduceAdd, Nat.reduceLeDiff, Nat.reduceLT, forall_eq', Option.some.injEq, zarR, zarI, zarL, zle, zq0, zq1, zq2, zq3, zq4, zq5, zq6, zq8, zq9, zq10, zq20, zq7, zq12, zq24, zq40, zq41, zq48, zq100, zq120, zq123, zq480, zq492, zq700, zq729, zq2187, zq2916, zq8748, ne_eq, Int.reduceEq, Int.reduceLT, Int.reduceLE, Int.reduceToNat, Int.reduceMul, Int.reduceAdd, Int.reduceNeg]
      rw [e1] at c3
      apply K h3 (fun c i z1 z2 z3 => by rw [f3 c i (by omega), f2 c i (by omega) (by omega) (by omega)]) c3
      intro q' _
      refine ⟨?_, by rw [List.length_append]; simp; omega, ?_⟩
      · rw [f3 _ _ (by omega), e2, zu_at, List.length_append]
        rfl
      · intro i p hp
        rw [f3 _ _ (by omega), f3 _ _ (by omega)]
        by_cases z : i < ns.length
        · rw [List.getElem?_append_left z] at hp
          rw [f2 _ _ (by omega) (by omega) (by omega), f2 _ _ (by omega) (by omega) (by omega)]
          exact n2 i p hp
        · rw [List.getElem?_append_right (by omega)] at hp
          have z2 : i = ns.length := by
            have := (List.getElem?_eq_some_iff.mp hp).1
            simp at this
            omega
          subst z2
          simp at hp
          subst hp
          rw [e2]
          refine ⟨?_, ?_⟩
          · rw [zu_c (by decide), zu_c (by decide), zu_at]
          · rw [zu_c (by decide), zu_at]
  · have k1' : ¬ ((kd (h 1) n q : Nat) : Int) = 1 := by omega
    simp only [e25_0, e25_1, e25_4, e25_7, e25_8, e25_9, e25_12, e25_13, e25_16, e25_17, e25_19, e25_22, e25_25, e25_26, e25_28, e25_31, e25_34, e25_35, e25_37, e25_40, e25_43, e25_44, e25_46, e25_49, zs0, zsI, zsL, zsR, ztl1, ztl0, zc0, zcI, zcL, zcR, true_and, and_true, true_implies, false_implies, implies_true, not_true_eq_false, not_false_eq_true, and_self, Int.toNat_natCast, Nat.reduceAdd, Nat.reduceLeDiff, Nat.reduceLT, forall_eq', Option.some.injEq, zarR, zarI, zarL, zle, zq0, zq1, zq2, zq3, zq4, zq5, zq6, zq8, zq9, zq10, zq20, zq7, zq12, zq24, zq40, zq41, zq48, zq100, zq120, zq123, zq480, zq492, zq700, zq729, zq2187, zq2916, zq8748, ne_eq, Int.reduceEq, Int.reduceLT, Int.reduceLE, Int.reduceToNat, Int.reduceMul, Int.reduceAdd, Int.reduceNeg, gk2 hg, gr2_9 hg, gr2_10 hg, c1, t5, k1']
    exact bad (Or.inl k1)
end CN
